/-! seats: the class; seating, seatOf -/
section Q69
variable {T M U S : ms_T} {t : Nat → Nat}
theorem q_bit0 (s : Nat) : nI s &&& nI 1 = nI (b2 (s.testBit 0)) := by
  rw [q_and, Nat.and_one_is_mod, Nat.testBit_zero]
  rcases (by omega : s % 2 = 0 ∨ s % 2 = 1) with h | h <;> rw [h] <;> rfl
theorem bea_le (t r : Nat → Nat) (j : Nat) : bea t r j ≤ 1 := by
  unfold bea; split
  · omega
  · exact b2_le _
theorem clo_le (t r : Nat → Nat) : clo t r ≤ 1 := by
  unfold clo; split
  · exact b2_le _
  · omega
theorem bea_cong {t r s : Nat → Nat} {d : Nat} (h : ∀ j, j < d → r j = s j) : sm (bea t r) d = sm (bea t s) d := by
  refine sm_cong (fun j hj => ?_)
  unfold bea
  by_cases c : j = 0
  · rw [if_pos c, if_pos c]
  · rw [if_neg c, if_neg c, h j hj, h (j - 1) (by omega)]
theorem bsq_ge {r s : Nat → Nat} {d : Nat} (hd : d ≤ t 2) (h : ∀ j, j < d → s j = r j) : sm (bea t r) d ≤ bsq t s := by
  rw [← bea_cong h]
  have := sm_mono (f := bea t s) hd
  unfold bsq; omega
theorem bsq_cong {r s : Nat → Nat} (hn : 0 < t 2) (h : ∀ j, j < t 2 → s j = r j) : bsq t s = bsq t r := by
  unfold bsq clo
  rw [bea_cong h, h 0 hn, h (t 2 - 1) (by omega)]
def vst (t : Nat → Nat) (U : ms_T) (d : Nat) (r : Nat → Nat) (m : Nat) (k : Nat → Nat) : Prop :=
  fbs t (t 3) (ra U 1) ∧ gi U 2 = nI m ∧ (∀ j, j < d → ra U 2 j = nI (r j)) ∧ ∀ j, j < t 2 → ra U 3 j = nI (k j)
theorem U_seat (w : tb_W t) (h : tb_C T t) : ∀ e fu d U r m k, d + e = t 2 → e < fu → 1 ≤ d → r 0 = 0 → m ≤ 11 → (∀ j, j < d → r j < t 2) → ij r d → vst t U d r m k →
    ∃ U' m' k', fX3_putOnSeat fu U T (nI d) (nI (usd r d)) (nI (sm (bea t r) d)) = some (U', T) ∧ vst t U' d r m' k' ∧ pst (bsq t) (fun s => cdw (t 2) s (t 2)) (prc (t 2) r d) m k m' k' := by
  obtain ⟨w0, w1, w2, w3, w4, w5, w6, w7, w8, w9⟩ := id w
  obtain ⟨h0, h1, h2, h3, h4, h5, h6, h7, h8, h9, h10, h11, h12, h13, h14, h15, h16⟩ := id h
  have sb : ∀ r d, d ≤ 6 → sm (bea t r) d ≤ 6 := fun r d hd => by
    have := sm_le (f := bea t r) (c := 1) (n := d) (fun j _ => bea_le t r j)
    omega
  intro e
  induction e with
  | zero =>
    intro fu d U r m k hd hf hd1 hr0 hm hr hg hu
    obtain ⟨fu, rfl⟩ : ∃ x, fu = x + 1 := ⟨fu - 1, by omega⟩
    obtain rfl : d = t 2 := by omega
    obtain ⟨u1, u3, u4, u5⟩ := hu
    have ba := sb r (t 2) w2
    have cl := clo_le t r
    by_cases c : sm (bea t r) (t 2) < m
    · have e55 : fX3_putOnSeat (fu + 1) U T (nI (t 2)) (nI (usd r (t 2))) (nI (sm (bea t r) (t 2))) = fX3_putOnSeat_55 (fX3_putOnSeat fu) U T (nI (sm (bea t r) (t 2))) (nI (clo t r)) := by
        show fX3_putOnSeat_0 (fX3_putOnSeat fu) U T _ _ _ = _
        unfold fX3_putOnSeat_0
        by_cases c2 : 2 < t 2
        · obtain ⟨s, s1, s2, s3⟩ := u1 (r (t 2 - 1)) (by have := hr (t 2 - 1) (by omega); omega)
          have er := u4 (t 2 - 1) (by omega)
          have lr := hr (t 2 - 1) (by omega)
          have eb := q_bit0 s
          rw [s3] at eb
          have ec : clo t r = b2 (anyb (fdb t (r (t 2 - 1)) 0) (t 3)) := by unfold clo; rw [if_pos c2, hr0]
          rw [ec]
          simp (disch := omega) only [u3, h4, er, s1, eb, l_0, l_1, l_2, l_3, l_4, l_5, l_6, l_7, l_8, l_9, l_10, l_11, l_12, l_13, l_14, l_15, l_16, l_17, l_18, l_19, l_20, l_21, l_22, l_23, l_24, l_25, l_30, l_31, l_32, l_40, l_48, l_54, l_57, l_59, l_60, l_61, l_62, l_63, l_65, l_66, l_72, l_82, l_92, l_93, l_94, l_97, l_99, l_100, l_101, l_102, l_103, l_104, l_105, l_107, l_108, l_109, l_110, l_111, l_112, l_114, l_115, l_116, l_117, l_119, l_121, l_122, l_136, l_200, l_255, l_300, l_364, l_900, l_1000, l_1456, l_1458, l_1459, l_1460, l_1462, l_1471, l_1504, l_1510, l_1522, l_1550, l_2971, l_9999, l_10000, l_10979, l_65536, l_m1, nI_add, pk_mul, q_sub, q_ltT, q_ltF, q_leT, q_leF, q_eqT, q_eqF, q_inT, q_inF, nI_clamp, q_mlt, q_mle, q_mne, q_mne2, q_mnlt, q_mnle, q_gi, q_gil, q_gir, q_giR, q_gl, q_gli, q_glr, q_glR, q_ra, q_rai, q_ral, q_raR, q_rl, q_rli, q_rll, q_rlr, sa, sA, ia, la, q_srsr, q_sRsR, Option.bind_some, if_true, if_false, reduceIte, ite_not, not_true_eq_false, not_false_eq_true, q_z1, Nat.reduceEqDiff]
        · have ec : clo t r = 0 := by unfold clo; rw [if_neg c2]
          rw [ec]
          simp (disch := omega) only [u3, h4, l_0, l_1, l_2, l_3, l_4, l_5, l_6, l_7, l_8, l_9, l_10, l_11, l_12, l_13, l_14, l_15, l_16, l_17, l_18, l_19, l_20, l_21, l_22, l_23, l_24, l_25, l_30, l_31, l_32, l_40, l_48, l_54, l_57, l_59, l_60, l_61, l_62, l_63, l_65, l_66, l_72, l_82, l_92, l_93, l_94, l_97, l_99, l_100, l_101, l_102, l_103, l_104, l_105, l_107, l_108, l_109, l_110, l_111, l_112, l_114, l_115, l_116, l_117, l_119, l_121, l_122, l_136, l_200, l_255, l_300, l_364, l_900, l_1000, l_1456, l_1458, l_1459, l_1460, l_1462, l_1471, l_1504, l_1510, l_1522, l_1550, l_2971, l_9999, l_10000, l_10979, l_65536, l_m1, nI_add, pk_mul, q_sub, q_ltT, q_ltF, q_leT, q_leF, q_eqT, q_eqF, q_inT, q_inF, nI_clamp, q_mlt, q_mle, q_mne, q_mne2, q_mnlt, q_mnle, q_gi, q_gil, q_gir, q_giR, q_gl, q_gli, q_glr, q_glR, q_ra, q_rai, q_ral, q_raR, q_rl, q_rli, q_rll, q_rlr, sa, sA, ia, la, q_srsr, q_sRsR, Option.bind_some, if_true, if_false, reduceIte, ite_not, not_true_eq_false, not_false_eq_true, q_z1, Nat.reduceEqDiff]
      by_cases c3 : bsq t r < m
      · obtain ⟨f, k1, k2⟩ := U_keep (U := U) h w (q := nI (bsq t r))
        refine ⟨sr (si U 2 (nI (bsq t r))) 3 f, bsq t r, r, ?_, ⟨u1, rfl, u4, fun j hj => ?_⟩, ⟨fun s hs => by rw [bsq_cong (by omega) hs.1]; exact Nat.le_refl _, Or.inr ⟨c3, ⟨fun j _ => rfl, hr, hg⟩, rfl, fun s hs hlt => ?_⟩⟩⟩
        · rw [e55]
          unfold fX3_putOnSeat_55
          unfold bsq at k1 c3 ⊢
          simp (disch := omega) only [u3, k1, l_0, l_1, l_2, l_3, l_4, l_5, l_6, l_7, l_8, l_9, l_10, l_11, l_12, l_13, l_14, l_15, l_16, l_17, l_18, l_19, l_20, l_21, l_22, l_23, l_24, l_25, l_30, l_31, l_32, l_40, l_48, l_54, l_57, l_59, l_60, l_61, l_62, l_63, l_65, l_66, l_72, l_82, l_92, l_93, l_94, l_97, l_99, l_100, l_101, l_102, l_103, l_104, l_105, l_107, l_108, l_109, l_110, l_111, l_112, l_114, l_115, l_116, l_117, l_119, l_121, l_122, l_136, l_200, l_255, l_300, l_364, l_900, l_1000, l_1456, l_1458, l_1459, l_1460, l_1462, l_1471, l_1504, l_1510, l_1522, l_1550, l_2971, l_9999, l_10000, l_10979, l_65536, l_m1, nI_add, pk_mul, q_sub, q_ltT, q_ltF, q_leT, q_leF, q_eqT, q_eqF, q_inT, q_inF, nI_clamp, q_mlt, q_mle, q_mne, q_mne2, q_mnlt, q_mnle, Option.bind_some, if_true, if_false, reduceIte, ite_not, not_true_eq_false, not_false_eq_true, q_z1, Nat.reduceEqDiff]
        · show f j = _
          rw [k2 j hj, u4 j hj]
        · have hlt : cdw (t 2) s (t 2) < cdw (t 2) r (t 2) := hlt
          rw [cdw_cong hs.1] at hlt
          omega
      · refine ⟨U, m, k, ?_, ⟨u1, u3, u4, u5⟩, pst_nil (fun s hs => ?_)⟩
        · rw [e55]
          unfold fX3_putOnSeat_55
          unfold bsq at c3
          simp (disch := omega) only [u3, l_0, l_1, l_2, l_3, l_4, l_5, l_6, l_7, l_8, l_9, l_10, l_11, l_12, l_13, l_14, l_15, l_16, l_17, l_18, l_19, l_20, l_21, l_22, l_23, l_24, l_25, l_30, l_31, l_32, l_40, l_48, l_54, l_57, l_59, l_60, l_61, l_62, l_63, l_65, l_66, l_72, l_82, l_92, l_93, l_94, l_97, l_99, l_100, l_101, l_102, l_103, l_104, l_105, l_107, l_108, l_109, l_110, l_111, l_112, l_114, l_115, l_116, l_117, l_119, l_121, l_122, l_136, l_200, l_255, l_300, l_364, l_900, l_1000, l_1456, l_1458, l_1459, l_1460, l_1462, l_1471, l_1504, l_1510, l_1522, l_1550, l_2971, l_9999, l_10000, l_10979, l_65536, l_m1, nI_add, pk_mul, q_sub, q_ltT, q_ltF, q_leT, q_leF, q_eqT, q_eqF, q_inT, q_inF, nI_clamp, q_mlt, q_mle, q_mne, q_mne2, q_mnlt, q_mnle, Option.bind_some, if_true, if_false, reduceIte, ite_not, not_true_eq_false, not_false_eq_true, q_z1, Nat.reduceEqDiff]
        · rw [bsq_cong (by omega) hs.1]; omega
    · refine ⟨U, m, k, ?_, ⟨u1, u3, u4, u5⟩, pst_nil (fun s hs => ?_)⟩
      · show fX3_putOnSeat_0 (fX3_putOnSeat fu) U T _ _ _ = _
        unfold fX3_putOnSeat_0
        simp (disch := omega) only [u3, h4, l_0, l_1, l_2, l_3, l_4, l_5, l_6, l_7, l_8, l_9, l_10, l_11, l_12, l_13, l_14, l_15, l_16, l_17, l_18, l_19, l_20, l_21, l_22, l_23, l_24, l_25, l_30, l_31, l_32, l_40, l_48, l_54, l_57, l_59, l_60, l_61, l_62, l_63, l_65, l_66, l_72, l_82, l_92, l_93, l_94, l_97, l_99, l_100, l_101, l_102, l_103, l_104, l_105, l_107, l_108, l_109, l_110, l_111, l_112, l_114, l_115, l_116, l_117, l_119, l_121, l_122, l_136, l_200, l_255, l_300, l_364, l_900, l_1000, l_1456, l_1458, l_1459, l_1460, l_1462, l_1471, l_1504, l_1510, l_1522, l_1550, l_2971, l_9999, l_10000, l_10979, l_65536, l_m1, nI_add, pk_mul, q_sub, q_ltT, q_ltF, q_leT, q_leF, q_eqT, q_eqF, q_inT, q_inF, nI_clamp, q_mlt, q_mle, q_mne, q_mne2, q_mnlt, q_mnle, Option.bind_some, if_true, if_false, reduceIte, ite_not, not_true_eq_false, not_false_eq_true, q_z1, Nat.reduceEqDiff]
      · have := bsq_ge (t := t) (r := r) (s := s) (d := t 2) (by omega) hs.1; omega
  | succ e ih =>
    intro fu d U r m k hd hf hd1 hr0 hm hr hg hu
    obtain ⟨fu, rfl⟩ : ∃ x, fu = x + 1 := ⟨fu - 1, by omega⟩
    have ba := sb r d (by omega)
    have ub := usd_lt (r := r) (d := d) (fun j hj => by have := hr j hj; omega)
    by_cases c : sm (bea t r) d < m
    · obtain ⟨z, e1, U', m', k', rfl, e2, e3⟩ := lp_up (fun x i S => fX3_putOnSeat_80 (fX3_putOnSeat fu) x S T (nI d) (nI (usd r d)) (nI (sm (bea t r) d)) i) (t 2)
        (fun x S => ∃ m' k', vst t S d r m' k' ∧ pst (bsq t) (fun s => cdw (t 2) s (t 2)) (fun s => prc (t 2) r d s ∧ s d < x) m k m' k')
        (fun z => ∃ U' m' k', z = (U', T) ∧ vst t U' d r m' k' ∧ pst (bsq t) (fun s => cdw (t 2) s (t 2)) (prc (t 2) r d) m k m' k')
        (fun x S hS => by
          obtain ⟨m', k', hu', hp⟩ := hS
          refine ⟨(S, T), ?_, S, m', k', rfl, hu', pst_iff hp (fun s => ⟨fun g => ⟨g, g.2.1 d (by omega)⟩, fun g => g.1⟩)⟩
          simp (disch := omega) only [fX3_putOnSeat_80, h4, l_0, l_1, l_2, l_3, l_4, l_5, l_6, l_7, l_8, l_9, l_10, l_11, l_12, l_13, l_14, l_15, l_16, l_17, l_18, l_19, l_20, l_21, l_22, l_23, l_24, l_25, l_30, l_31, l_32, l_40, l_48, l_54, l_57, l_59, l_60, l_61, l_62, l_63, l_65, l_66, l_72, l_82, l_92, l_93, l_94, l_97, l_99, l_100, l_101, l_102, l_103, l_104, l_105, l_107, l_108, l_109, l_110, l_111, l_112, l_114, l_115, l_116, l_117, l_119, l_121, l_122, l_136, l_200, l_255, l_300, l_364, l_900, l_1000, l_1456, l_1458, l_1459, l_1460, l_1462, l_1471, l_1504, l_1510, l_1522, l_1550, l_2971, l_9999, l_10000, l_10979, l_65536, l_m1, nI_add, pk_mul, q_sub, q_ltT, q_ltF, q_leT, q_leF, q_eqT, q_eqF, q_inT, q_inF, nI_clamp, q_mlt, q_mle, q_mne, q_mne2, q_mnlt, q_mnle, Option.bind_some, if_true, if_false, reduceIte, ite_not, not_true_eq_false, not_false_eq_true, q_z1, Nat.reduceEqDiff])
        (fun n x S hx hS => by
          left
          obtain ⟨m', k', ⟨u1, u3, u4, u5⟩, hp⟩ := hS
          have lm := pst_le hp
          have eh := q_bit (a := usd r d) (k := x) (by omega) (by omega)
          cases hb : (usd r d).testBit x
          · rw [hb] at eh
            have rr : ∀ j, j < d → tu r d x j = r j := fun j hj => tu_n _ _ _ (by omega)
            have rd : tu r d x d = x := tu_e _ _ _ rfl
            have hrow : ∀ j, j < d + 1 → upd (ra S 2) d (nI x) j = nI (tu r d x j) := fun j hj => by
              by_cases q : j = d
              · rw [up_e _ _ _ q, tu_e _ _ _ q]
              · rw [up_n _ _ _ q, tu_n _ _ _ q]; exact u4 j (by omega)
            have hr' : ∀ j, j < d + 1 → tu r d x j < t 2 := fun j hj => by
              by_cases q : j = d
              · rw [q, rd]; omega
              · rw [rr j (by omega)]; exact hr j (by omega)
            obtain ⟨s, g1, g2, g3⟩ := u1 x (by omega)
            have lp := hr (d - 1) (by omega)
            have eb := q_bit (a := s) (k := r (d - 1)) (by omega) (by omega)
            rw [g3] at eb
            have ep : upd (ra S 2) d (nI x) (d - 1) = nI (r (d - 1)) := by rw [hrow (d - 1) (by omega), rr (d - 1) (by omega)]
            have esm : sm (bea t (tu r d x)) (d + 1) = sm (bea t r) d + b2 (anyb (fdb t x (r (d - 1))) (t 3)) := by
              rw [sm_s, bea_cong rr]
              congr 1
              unfold bea
              rw [if_neg (by omega), rd, rr (d - 1) (by omega)]
            have bl := b2_le (anyb (fdb t x (r (d - 1))) (t 3))
            obtain ⟨U', m2, k2, i1, ⟨v1, v3, v4, v5⟩, i3⟩ := ih fu (d + 1) (sr S 2 (upd (ra S 2) d (nI x))) (tu r d x) m' k' (by omega) (by omega) (by omega) (by rw [rr 0 (by omega)]; exact hr0) (by omega) hr' (ij_tu hg hb) ⟨u1, u3, hrow, u5⟩
            rw [usd_tu, esm] at i1
            refine ⟨U', ⟨m2, k2, ⟨v1, v3, fun j hj => by rw [v4 j (by omega), rr j hj], v5⟩, pst_cat hp i3 (fun a b ha hb => prc_lt (by omega) ha hb) (fun s => prc_iff)⟩, ?_⟩
            have es : nI (usd r d) ||| ((nI 1) <<< (nI x &&& nI 31)) = nI (usd r d ||| 2 ^ x) := q_set1 (by omega)
            simp (disch := omega) only [fX3_putOnSeat_80, h4, eh, b2_0, es, g1, ep, eb, i1, l_0, l_1, l_2, l_3, l_4, l_5, l_6, l_7, l_8, l_9, l_10, l_11, l_12, l_13, l_14, l_15, l_16, l_17, l_18, l_19, l_20, l_21, l_22, l_23, l_24, l_25, l_30, l_31, l_32, l_40, l_48, l_54, l_57, l_59, l_60, l_61, l_62, l_63, l_65, l_66, l_72, l_82, l_92, l_93, l_94, l_97, l_99, l_100, l_101, l_102, l_103, l_104, l_105, l_107, l_108, l_109, l_110, l_111, l_112, l_114, l_115, l_116, l_117, l_119, l_121, l_122, l_136, l_200, l_255, l_300, l_364, l_900, l_1000, l_1456, l_1458, l_1459, l_1460, l_1462, l_1471, l_1504, l_1510, l_1522, l_1550, l_2971, l_9999, l_10000, l_10979, l_65536, l_m1, nI_add, pk_mul, q_sub, q_ltT, q_ltF, q_leT, q_leF, q_eqT, q_eqF, q_inT, q_inF, nI_clamp, q_mlt, q_mle, q_mne, q_mne2, q_mnlt, q_mnle, q_gi, q_gil, q_gir, q_giR, q_gl, q_gli, q_glr, q_glR, q_ra, q_rai, q_ral, q_raR, q_rl, q_rli, q_rll, q_rlr, sa, sA, ia, la, q_srsr, q_sRsR, Option.bind_some, if_true, if_false, reduceIte, ite_not, not_true_eq_false, not_false_eq_true, q_z1, Nat.reduceEqDiff]
          · rw [hb] at eh
            refine ⟨S, ⟨m', k', ⟨u1, u3, u4, u5⟩, pst_iff hp (fun s => ⟨fun g => ?_, fun g => ⟨g.1, by omega⟩⟩)⟩, ?_⟩
            · rcases prc_iff.mp g with q | q
              · exact q
              · exact absurd q (prc_no (by omega) hb)
            · simp (disch := omega) only [fX3_putOnSeat_80, h4, eh, b2_1, l_0, l_1, l_2, l_3, l_4, l_5, l_6, l_7, l_8, l_9, l_10, l_11, l_12, l_13, l_14, l_15, l_16, l_17, l_18, l_19, l_20, l_21, l_22, l_23, l_24, l_25, l_30, l_31, l_32, l_40, l_48, l_54, l_57, l_59, l_60, l_61, l_62, l_63, l_65, l_66, l_72, l_82, l_92, l_93, l_94, l_97, l_99, l_100, l_101, l_102, l_103, l_104, l_105, l_107, l_108, l_109, l_110, l_111, l_112, l_114, l_115, l_116, l_117, l_119, l_121, l_122, l_136, l_200, l_255, l_300, l_364, l_900, l_1000, l_1456, l_1458, l_1459, l_1460, l_1462, l_1471, l_1504, l_1510, l_1522, l_1550, l_2971, l_9999, l_10000, l_10979, l_65536, l_m1, nI_add, pk_mul, q_sub, q_ltT, q_ltF, q_leT, q_leF, q_eqT, q_eqF, q_inT, q_inF, nI_clamp, q_mlt, q_mle, q_mne, q_mne2, q_mnlt, q_mnle, q_gi, q_gil, q_gir, q_giR, q_gl, q_gli, q_glr, q_glR, q_ra, q_rai, q_ral, q_raR, q_rl, q_rli, q_rll, q_rlr, sa, sA, ia, la, q_srsr, q_sRsR, Option.bind_some, if_true, if_false, reduceIte, ite_not, not_true_eq_false, not_false_eq_true, q_z1, Nat.reduceEqDiff]) 1 U FU (by omega) ⟨m, k, hu, pst_nil (fun s hs => by
              have a1 := hs.1.1 0 (by omega)
              have a2 := hs.1.2.2 0 d (by omega) (by omega)
              have a3 := hs.2
              rw [hr0] at a1
              omega)⟩ (by unfold FU; omega)
      refine ⟨U', m', k', ?_, e2, e3⟩
      show fX3_putOnSeat_0 (fX3_putOnSeat fu) U T _ _ _ = _
      unfold fX3_putOnSeat_0
      have e1' : fX3_putOnSeat_80 (fX3_putOnSeat fu) FU U T (nI d) (nI (usd r d)) (nI (sm (bea t r) d)) (nI 1) = some (U', T) := e1
      rw [← e1']
      have u3 := hu.2.1
      simp (disch := omega) only [u3, h4, l_0, l_1, l_2, l_3, l_4, l_5, l_6, l_7, l_8, l_9, l_10, l_11, l_12, l_13, l_14, l_15, l_16, l_17, l_18, l_19, l_20, l_21, l_22, l_23, l_24, l_25, l_30, l_31, l_32, l_40, l_48, l_54, l_57, l_59, l_60, l_61, l_62, l_63, l_65, l_66, l_72, l_82, l_92, l_93, l_94, l_97, l_99, l_100, l_101, l_102, l_103, l_104, l_105, l_107, l_108, l_109, l_110, l_111, l_112, l_114, l_115, l_116, l_117, l_119, l_121, l_122, l_136, l_200, l_255, l_300, l_364, l_900, l_1000, l_1456, l_1458, l_1459, l_1460, l_1462, l_1471, l_1504, l_1510, l_1522, l_1550, l_2971, l_9999, l_10000, l_10979, l_65536, l_m1, nI_add, pk_mul, q_sub, q_ltT, q_ltF, q_leT, q_leF, q_eqT, q_eqF, q_inT, q_inF, nI_clamp, q_mlt, q_mle, q_mne, q_mne2, q_mnlt, q_mnle, Option.bind_some, if_true, if_false, reduceIte, ite_not, not_true_eq_false, not_false_eq_true, q_z1, Nat.reduceEqDiff]
    · refine ⟨U, m, k, ?_, hu, pst_nil (fun s hs => ?_)⟩
      · show fX3_putOnSeat_0 (fX3_putOnSeat fu) U T _ _ _ = _
        unfold fX3_putOnSeat_0
        have u3 := hu.2.1
        simp (disch := omega) only [u3, h4, l_0, l_1, l_2, l_3, l_4, l_5, l_6, l_7, l_8, l_9, l_10, l_11, l_12, l_13, l_14, l_15, l_16, l_17, l_18, l_19, l_20, l_21, l_22, l_23, l_24, l_25, l_30, l_31, l_32, l_40, l_48, l_54, l_57, l_59, l_60, l_61, l_62, l_63, l_65, l_66, l_72, l_82, l_92, l_93, l_94, l_97, l_99, l_100, l_101, l_102, l_103, l_104, l_105, l_107, l_108, l_109, l_110, l_111, l_112, l_114, l_115, l_116, l_117, l_119, l_121, l_122, l_136, l_200, l_255, l_300, l_364, l_900, l_1000, l_1456, l_1458, l_1459, l_1460, l_1462, l_1471, l_1504, l_1510, l_1522, l_1550, l_2971, l_9999, l_10000, l_10979, l_65536, l_m1, nI_add, pk_mul, q_sub, q_ltT, q_ltF, q_leT, q_leF, q_eqT, q_eqF, q_inT, q_inF, nI_clamp, q_mlt, q_mle, q_mne, q_mne2, q_mnlt, q_mnle, Option.bind_some, if_true, if_false, reduceIte, ite_not, not_true_eq_false, not_false_eq_true, q_z1, Nat.reduceEqDiff]
      · have := bsq_ge (t := t) (r := r) (s := s) (d := d) (by omega) hs.1; omega
theorem U_beside (w : tb_W t) (h : tb_C T t) (hn : 0 < t 2) (hb : fbs t (t 3) (ra U 1)) : ∃ U' m k, fX3_fewestBeside U T = some (nI m, U', T) ∧ (∀ j, j < t 2 → ra U' 3 j = nI (k j)) ∧ k 0 = 0 ∧ prm (t 2) k ∧ bsq t k = m ∧ (∀ s, s 0 = 0 → prm (t 2) s → m ≤ bsq t s) ∧ ∀ s, s 0 = 0 → prm (t 2) s → cdw (t 2) s (t 2) < cdw (t 2) k (t 2) → m < bsq t s := by
  obtain ⟨w0, w1, w2, w3, w4, w5, w6, w7, w8, w9⟩ := id w
  obtain ⟨h0, h1, h2, h3, h4, h5, h6, h7, h8, h9, h10, h11, h12, h13, h14, h15, h16⟩ := id h
  obtain ⟨U', m, k, e1, ⟨v1, v3, v4, v5⟩, e3, e4⟩ := U_seat w h (t 2 - 1) 8 1 (sr (si U 2 (nI (t 3 + 1))) 2 (upd (ra U 2) 0 (nI 0))) (fun _ => 0) (t 3 + 1) (fun j => (ra U 3 j).toBitVec.toNat) (by omega) (by omega) (by omega) rfl (by omega) (fun j _ => hn) (fun i j hij hj => by omega) ⟨hb, rfl, fun j hj => by
    obtain rfl : j = 0 := by omega
    show upd (ra U 2) 0 (nI 0) 0 = nI 0
    exact up_e _ _ _ rfl, fun j _ => (nI_bv _).symm⟩
  have cc : ∀ s, s 0 = 0 → prm (t 2) s → prc (t 2) (fun _ => 0) 1 s := fun s h0 hs => ⟨fun j hj => by
    obtain rfl : j = 0 := by omega
    exact h0, hs⟩
  have id1 : prm (t 2) (fun j => j) := ⟨fun j hj => hj, fun i j hij _ => by show i ≠ j; omega⟩
  have q0 := e3 _ (cc _ rfl id1)
  rw [bsq_bsd w id1] at q0
  have q1 := bsd_le t (fun j => j)
  rcases e4 with ⟨g, _⟩ | ⟨g1, g2, g3, g4⟩
  · omega
  · refine ⟨U', m, k, ?_, v5, g2.1 0 (by omega), g2.2, g3, fun s z hs => e3 s (cc s z hs), fun s z hs hl => g4 s (cc s z hs) hl⟩
    unfold fX3_fewestBeside
    have e1' : fX3_putOnSeat 8 (sr (si U 2 (nI (t 3 + 1))) 2 (upd (ra U 2) 0 (nI 0))) T (nI 1) (nI 1) (nI 0) = some (U', T) := e1
    simp (disch := omega) only [h6, e1', v3, l_0, l_1, l_2, l_3, l_4, l_5, l_6, l_7, l_8, l_9, l_10, l_11, l_12, l_13, l_14, l_15, l_16, l_17, l_18, l_19, l_20, l_21, l_22, l_23, l_24, l_25, l_30, l_31, l_32, l_40, l_48, l_54, l_57, l_59, l_60, l_61, l_62, l_63, l_65, l_66, l_72, l_82, l_92, l_93, l_94, l_97, l_99, l_100, l_101, l_102, l_103, l_104, l_105, l_107, l_108, l_109, l_110, l_111, l_112, l_114, l_115, l_116, l_117, l_119, l_121, l_122, l_136, l_200, l_255, l_300, l_364, l_900, l_1000, l_1456, l_1458, l_1459, l_1460, l_1462, l_1471, l_1504, l_1510, l_1522, l_1550, l_2971, l_9999, l_10000, l_10979, l_65536, l_m1, nI_add, pk_mul, q_sub, q_ltT, q_ltF, q_leT, q_leF, q_eqT, q_eqF, q_inT, q_inF, nI_clamp, q_mlt, q_mle, q_mne, q_mne2, q_mnlt, q_mnle, q_gi, q_gil, q_gir, q_giR, q_gl, q_gli, q_glr, q_glR, q_ra, q_rai, q_ral, q_raR, q_rl, q_rli, q_rll, q_rlr, sa, sA, ia, la, q_srsr, q_sRsR, Option.bind_some, if_true, if_false, reduceIte, ite_not, not_true_eq_false, not_false_eq_true, q_z1, Nat.reduceEqDiff]
end Q69
theorem rl_ss {SC SY0 SY1 SY2 SY3 SB ST0 SE0 ST2 SE2 ST3 SE3 ST4 SE4 SV0 SM S : ms_T} (hR : Rl SC SY0 SY1 SY2 SY3 SB ST0 SE0 ST2 SE2 ST3 SE3 ST4 SE4 SV0 SM) (s : ss (si (si SM 1 (nI 0)) 0 (nI 0)) S) : Rl (si SC 0 (nI 0)) SY0 SY1 SY2 SY3 SB ST0 SE0 ST2 SE2 ST3 SE3 ST4 SE4 SV0 S :=
  rl_scr hR ⟨⟨s.2.1 2, s.2.1 3⟩, s.1 8 (by omega), s.1 10 (by omega), s.1 11 (by omega), s.1 23 (by omega), s.1 40 (by omega), s.2.2.1 4 (by omega) (by omega), s.2.2.1 5 (by omega) (by omega), s.2.2.1 12 (by omega) (by omega), s.2.2.2 7⟩ (s.2.2.1 1 (by omega) (by omega)) (s.2.2.1 2 (by omega) (by omega)) (s.2.2.2 3) (s.1 0 (by omega))
theorem o_seating : op_seating Rl := by
  intro SC SY0 SY1 SY2 SY3 SB ST0 SE0 ST2 SE2 ST3 SE3 ST4 SE4 SV0 SM SP0 SU hR 
  obtain ⟨hs, hF, hU, hT, ⟨hY0, hY1, hY2, hY3⟩, ⟨t, w, hC, hN0, n1, n2, n3, hE⟩, hK, hV⟩ := id hR
  have hN := tb_N0 hN0
  have hN2 : tb_N (si (si SM 1 (nI 0)) 0 (nI 0)) t := hN
  have hNu : ∀ i, i < 92 → ra SM 5 i = nI (t i) := hN
  obtain ⟨w0, w1, w2, w3, w4, w5, w6, w7, w8, w9⟩ := id w
  obtain ⟨h0, h1, h2, h3, h4, h5, h6, h7, h8, h9, h10, h11, h12, h13, h14, h15, h16⟩ := id hC
  obtain ⟨f, b1, b3⟩ := U_begin (U := SU) w hC
  obtain ⟨S', m, k, g1, g2, g3, g4, a1, a2, a3, a4⟩ := M_laysSeats w hN2
  by_cases c : t 2 = 0
  · have c3 : t 3 = 0 := by
      refine Classical.byContradiction (fun no => ?_)
      have := w8 0 (by omega)
      omega
    have em : m = 0 := by have := bsd_le t k; omega
    rw [c] at h4
    rw [c3] at h6
    obtain ⟨f2, k1, -⟩ := U_keep (U := sr (si (sr SU 1 f) 2 (nI 1)) 2 (upd (ra SU 2) 0 (nI 0))) hC w (q := nI 0)
    have q1 : (nI 0 - nI 1 ≤ nI 1) = True := eq_true (by decide)
    have e1 : ∃ U', fX3_fewestBeside (sr SU 1 f) ST0 = some (nI 0, U', ST0) := by
      refine ⟨sr (si (sr (si (sr SU 1 f) 2 (nI 1)) 2 (upd (ra SU 2) 0 (nI 0))) 2 (nI 0)) 3 f2, ?_⟩
      have e0 : fX3_putOnSeat 8 (sr (si (sr SU 1 f) 2 (nI 1)) 2 (upd (ra SU 2) 0 (nI 0))) ST0 (nI 1) (nI 1) (nI 0) = some (sr (si (sr (si (sr SU 1 f) 2 (nI 1)) 2 (upd (ra SU 2) 0 (nI 0))) 2 (nI 0)) 3 f2, ST0) := by
        show fX3_putOnSeat_0 (fX3_putOnSeat 7) (sr (si (sr SU 1 f) 2 (nI 1)) 2 (upd (ra SU 2) 0 (nI 0))) ST0 (nI 1) (nI 1) (nI 0) = _
        generalize fX3_putOnSeat 7 = rc
        unfold fX3_putOnSeat_0
        simp (disch := omega) only [fX3_putOnSeat_55, h4, q1, k1, l_0, l_1, l_2, l_3, l_4, l_5, l_6, l_7, l_8, l_9, l_10, l_11, l_12, l_13, l_14, l_15, l_16, l_17, l_18, l_19, l_20, l_21, l_22, l_23, l_24, l_25, l_30, l_31, l_32, l_40, l_48, l_54, l_57, l_59, l_60, l_61, l_62, l_63, l_65, l_66, l_72, l_82, l_92, l_93, l_94, l_97, l_99, l_100, l_101, l_102, l_103, l_104, l_105, l_107, l_108, l_109, l_110, l_111, l_112, l_114, l_115, l_116, l_117, l_119, l_121, l_122, l_136, l_200, l_255, l_300, l_364, l_900, l_1000, l_1456, l_1458, l_1459, l_1460, l_1462, l_1471, l_1504, l_1510, l_1522, l_1550, l_2971, l_9999, l_10000, l_10979, l_65536, l_m1, nI_add, q_ltT, q_ltF, q_leT, q_leF, nI_clamp, q_gi, q_gil, q_gir, q_giR, q_gl, q_gli, q_glr, q_glR, q_ra, q_rai, q_ral, q_raR, q_rl, q_rli, q_rll, q_rlr, sa, sA, ia, la, q_srsr, q_sRsR, Option.bind_some, if_true, if_false, reduceIte, ite_not, not_true_eq_false, not_false_eq_true, q_z1, Nat.reduceEqDiff]
      unfold fX3_fewestBeside
      simp (disch := omega) only [h6, e0, l_0, l_1, l_2, l_3, l_4, l_5, l_6, l_7, l_8, l_9, l_10, l_11, l_12, l_13, l_14, l_15, l_16, l_17, l_18, l_19, l_20, l_21, l_22, l_23, l_24, l_25, l_30, l_31, l_32, l_40, l_48, l_54, l_57, l_59, l_60, l_61, l_62, l_63, l_65, l_66, l_72, l_82, l_92, l_93, l_94, l_97, l_99, l_100, l_101, l_102, l_103, l_104, l_105, l_107, l_108, l_109, l_110, l_111, l_112, l_114, l_115, l_116, l_117, l_119, l_121, l_122, l_136, l_200, l_255, l_300, l_364, l_900, l_1000, l_1456, l_1458, l_1459, l_1460, l_1462, l_1471, l_1504, l_1510, l_1522, l_1550, l_2971, l_9999, l_10000, l_10979, l_65536, l_m1, nI_add, Nat.zero_add, nI_clamp, q_gi, q_gil, q_gir, q_giR, q_gl, q_gli, q_glr, q_glR, q_ra, q_rai, q_ral, q_raR, q_rl, q_rli, q_rll, q_rlr, sa, sA, ia, la, q_srsr, q_sRsR, Option.bind_some, if_true, if_false, reduceIte, ite_not, not_true_eq_false, not_false_eq_true, q_z1, Nat.reduceEqDiff]
    obtain ⟨U', e1⟩ := e1
    subst em
    simp (disch := omega) only [fX11_seating, fX12_seating, b1, e1, g1, g3, fX11_answer, fX11_refuse, fX11_deny, fX11_grant, fX12_refuse, fX12_no, l_0, l_1, l_2, l_3, l_4, l_5, l_6, l_7, l_8, l_9, l_10, l_11, l_12, l_13, l_14, l_15, l_16, l_17, l_18, l_19, l_20, l_21, l_22, l_23, l_24, l_25, l_30, l_31, l_32, l_40, l_48, l_54, l_57, l_59, l_60, l_61, l_62, l_63, l_65, l_66, l_72, l_82, l_92, l_93, l_94, l_97, l_99, l_100, l_101, l_102, l_103, l_104, l_105, l_107, l_108, l_109, l_110, l_111, l_112, l_114, l_115, l_116, l_117, l_119, l_121, l_122, l_136, l_200, l_255, l_300, l_364, l_900, l_1000, l_1456, l_1458, l_1459, l_1460, l_1462, l_1471, l_1504, l_1510, l_1522, l_1550, l_2971, l_9999, l_10000, l_10979, l_65536, l_m1, Option.bind_some, if_true, if_false, reduceIte, ite_not, not_true_eq_false, not_false_eq_true, q_z1, Nat.reduceEqDiff]
    exact ⟨_, _, rfl, rfl, rfl, rl_ss hR g2⟩
  · obtain ⟨U', m2, k2, c1, c2, d0, d1, d2, d3, d4⟩ := U_beside (U := sr SU 1 f) w hC (by omega) b3
    obtain ⟨em, -⟩ := seat_join w (by omega) a1 a2 a3 a4 d0 d1 d2 d3 d4
    subst em
    simp (disch := omega) only [fX11_seating, fX12_seating, b1, c1, g1, g3, fX11_answer, fX11_refuse, fX11_deny, fX11_grant, fX12_refuse, fX12_no, l_0, l_1, l_2, l_3, l_4, l_5, l_6, l_7, l_8, l_9, l_10, l_11, l_12, l_13, l_14, l_15, l_16, l_17, l_18, l_19, l_20, l_21, l_22, l_23, l_24, l_25, l_30, l_31, l_32, l_40, l_48, l_54, l_57, l_59, l_60, l_61, l_62, l_63, l_65, l_66, l_72, l_82, l_92, l_93, l_94, l_97, l_99, l_100, l_101, l_102, l_103, l_104, l_105, l_107, l_108, l_109, l_110, l_111, l_112, l_114, l_115, l_116, l_117, l_119, l_121, l_122, l_136, l_200, l_255, l_300, l_364, l_900, l_1000, l_1456, l_1458, l_1459, l_1460, l_1462, l_1471, l_1504, l_1510, l_1522, l_1550, l_2971, l_9999, l_10000, l_10979, l_65536, l_m1, Option.bind_some, if_true, if_false, reduceIte, ite_not, not_true_eq_false, not_false_eq_true, q_z1, Nat.reduceEqDiff]
    exact ⟨_, _, rfl, rfl, rfl, rl_ss hR g2⟩
theorem o_seatOf : op_seatOf Rl := by
  intro SC SY0 SY1 SY2 SY3 SB ST0 SE0 ST2 SE2 ST3 SE3 ST4 SE4 SV0 SM SP0 SU hR a1
  obtain ⟨hs, hF, hU, hT, ⟨hY0, hY1, hY2, hY3⟩, ⟨t, w, hC, hN0, n1, n2, n3, hE⟩, hK, hV⟩ := id hR
  have hN := tb_N0 hN0
  have hN2 : tb_N (si (si SM 1 (nI 0)) 0 (nI 0)) t := hN
  have hNu : ∀ i, i < 92 → ra SM 5 i = nI (t i) := hN
  obtain ⟨w0, w1, w2, w3, w4, w5, w6, w7, w8, w9⟩ := id w
  obtain ⟨h0, h1, h2, h3, h4, h5, h6, h7, h8, h9, h10, h11, h12, h13, h14, h15, h16⟩ := id hC
  have e1 := T_isTalker w hC a1
  have e2 := N_isTalkerAt w hN2 a1
  rcases q_ix a1 (t 2) (by omega) with ⟨h, e⟩ | ⟨h, h2', e⟩ | ⟨p, hp, rfl⟩
  · simp (disch := omega) only [fX11_seatOf, fX12_seatOf, fX11_answer, fX11_refuse, fX11_deny, fX11_grant, fX12_refuse, fX12_no, e1, e2, e, bi, b2_0, l_0, l_1, l_2, l_3, l_4, l_5, l_6, l_7, l_8, l_9, l_10, l_11, l_12, l_13, l_14, l_15, l_16, l_17, l_18, l_19, l_20, l_21, l_22, l_23, l_24, l_25, l_30, l_31, l_32, l_40, l_48, l_54, l_57, l_59, l_60, l_61, l_62, l_63, l_65, l_66, l_72, l_82, l_92, l_93, l_94, l_97, l_99, l_100, l_101, l_102, l_103, l_104, l_105, l_107, l_108, l_109, l_110, l_111, l_112, l_114, l_115, l_116, l_117, l_119, l_121, l_122, l_136, l_200, l_255, l_300, l_364, l_900, l_1000, l_1456, l_1458, l_1459, l_1460, l_1462, l_1471, l_1504, l_1510, l_1522, l_1550, l_2971, l_9999, l_10000, l_10979, l_65536, l_m1, nI_add, pk_mul, q_sub, q_ltT, q_ltF, q_leT, q_leF, q_eqT, q_eqF, q_inT, q_inF, nI_clamp, q_mlt, q_mle, q_mne, q_mne2, q_mnlt, q_mnle, Option.bind_some, if_true, if_false, reduceIte, ite_not, not_true_eq_false, not_false_eq_true, q_z1, Nat.reduceEqDiff]
    exact ⟨_, _, rfl, rfl, rfl, rl_st2 hR _ _⟩
  · simp (disch := omega) only [fX11_seatOf, fX12_seatOf, fX11_answer, fX11_refuse, fX11_deny, fX11_grant, fX12_refuse, fX12_no, e1, e2, e, bi, b2_0, l_0, l_1, l_2, l_3, l_4, l_5, l_6, l_7, l_8, l_9, l_10, l_11, l_12, l_13, l_14, l_15, l_16, l_17, l_18, l_19, l_20, l_21, l_22, l_23, l_24, l_25, l_30, l_31, l_32, l_40, l_48, l_54, l_57, l_59, l_60, l_61, l_62, l_63, l_65, l_66, l_72, l_82, l_92, l_93, l_94, l_97, l_99, l_100, l_101, l_102, l_103, l_104, l_105, l_107, l_108, l_109, l_110, l_111, l_112, l_114, l_115, l_116, l_117, l_119, l_121, l_122, l_136, l_200, l_255, l_300, l_364, l_900, l_1000, l_1456, l_1458, l_1459, l_1460, l_1462, l_1471, l_1504, l_1510, l_1522, l_1550, l_2971, l_9999, l_10000, l_10979, l_65536, l_m1, nI_add, pk_mul, q_sub, q_ltT, q_ltF, q_leT, q_leF, q_eqT, q_eqF, q_inT, q_inF, nI_clamp, q_mlt, q_mle, q_mne, q_mne2, q_mnlt, q_mnle, Option.bind_some, if_true, if_false, reduceIte, ite_not, not_true_eq_false, not_false_eq_true, q_z1, Nat.reduceEqDiff]
    exact ⟨_, _, rfl, rfl, rfl, rl_st2 hR _ _⟩
  · have ep : inb (nI p) (t 2) = true := q_inT hp (by omega)
    obtain ⟨f, b1, b3⟩ := U_begin (U := SU) w hC
    obtain ⟨S', m, k, g1, g2, g3, g4, a1, a2, a3, a4⟩ := M_laysSeats w hN2
    obtain ⟨U', m2, k2, c1, c2, d0, d1, d2, d3, d4⟩ := U_beside (U := sr SU 1 f) w hC (by omega) b3
    obtain ⟨em, ek⟩ := seat_join w (by omega) a1 a2 a3 a4 d0 d1 d2 d3 d4
    have x1 : ra U' 3 p = nI (k p) := by rw [c2 p hp, ek p hp]
    have x2 : ra S' 11 p = nI (k p) := g4 p hp
    simp (disch := omega) only [fX11_seatOf, fX12_seatOf, fX11_answer, fX11_refuse, fX11_deny, fX11_grant, fX12_refuse, fX12_no, e1, e2, ep, b1, c1, g1, x1, x2, bi, b2_1, l_0, l_1, l_2, l_3, l_4, l_5, l_6, l_7, l_8, l_9, l_10, l_11, l_12, l_13, l_14, l_15, l_16, l_17, l_18, l_19, l_20, l_21, l_22, l_23, l_24, l_25, l_30, l_31, l_32, l_40, l_48, l_54, l_57, l_59, l_60, l_61, l_62, l_63, l_65, l_66, l_72, l_82, l_92, l_93, l_94, l_97, l_99, l_100, l_101, l_102, l_103, l_104, l_105, l_107, l_108, l_109, l_110, l_111, l_112, l_114, l_115, l_116, l_117, l_119, l_121, l_122, l_136, l_200, l_255, l_300, l_364, l_900, l_1000, l_1456, l_1458, l_1459, l_1460, l_1462, l_1471, l_1504, l_1510, l_1522, l_1550, l_2971, l_9999, l_10000, l_10979, l_65536, l_m1, nI_add, pk_mul, q_sub, q_ltT, q_ltF, q_leT, q_leF, q_eqT, q_eqF, q_inT, q_inF, nI_clamp, q_mlt, q_mle, q_mne, q_mne2, q_mnlt, q_mnle, q_gi, q_gil, q_gir, q_giR, q_gl, q_gli, q_glr, q_glR, q_ra, q_rai, q_ral, q_raR, q_rl, q_rli, q_rll, q_rlr, sa, sA, ia, la, q_srsr, q_sRsR, Option.bind_some, if_true, if_false, reduceIte, ite_not, not_true_eq_false, not_false_eq_true, q_z1, Nat.reduceEqDiff]
    exact ⟨_, _, rfl, rfl, rfl, rl_ss hR g2⟩
