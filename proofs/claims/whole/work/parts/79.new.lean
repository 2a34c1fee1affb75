/-! a new thing's name; odds, topics -/
section Q79
variable {R B M T : ms_T} {g t : Nat → Nat} {n a e k wn : Nat}
theorem tt_mg {M' R' : ms_T} (h : tt T R M t) (m : mg M M') (r : rg R R') : tt T R' M' t := by
  obtain ⟨w, hC, hN, ⟨m1, m2, m3⟩, hz, hf, o, o1, o2, o3⟩ := h
  refine ⟨w, hC, fun i hi => by rw [mg_ra m]; exact hN i hi, ⟨fun i hi => by rw [mg_rl m]; exact m1 i hi, fun i hi => by rw [mg_rl m]; exact m2 i hi, fun i hi => by rw [mg_rl m]; exact m3 i hi⟩, hz, hf, o, o1, ?_, ?_⟩
  · rw [r.1 12 (by omega)]; exact o2
  · rw [m.1 24 (by omega)]; exact o3
/-- one too many -/
theorem new_full (h : rd B R M g n a e k wn) (hk : k ≠ 4) {s most : Nat} (hs : s < 3) (hc : ra M 5 (1456 + s) = nI most) : ∃ R' M', fX4_refuseHereT R (nI 6) = some (nI 0, R') ∧ fX12_readNew M (nI s) (nI most) = some (nI most, M') ∧ bd R' M' ∧ rg R R' ∧ mg M M' := by
  obtain ⟨R', M', q1, q2, q3, q4, q5⟩ := rd_fail h (f := 6) hk (by omega) (by omega)
  refine ⟨R', M', q1, ?_, q3, q4, q5⟩
  have e := b_new26 (bd_bm q3) (nI s) (nI most)
  simp (disch := omega) only [fX12_readNew, hc, q2, e, l_0, l_1, l_2, l_3, l_4, l_5, l_6, l_7, l_8, l_9, l_10, l_11, l_12, l_13, l_14, l_15, l_16, l_17, l_18, l_19, l_20, l_21, l_22, l_23, l_24, l_25, l_30, l_31, l_32, l_40, l_48, l_54, l_57, l_59, l_60, l_61, l_62, l_63, l_65, l_66, l_72, l_82, l_92, l_93, l_94, l_97, l_99, l_100, l_101, l_102, l_103, l_104, l_105, l_107, l_108, l_109, l_110, l_111, l_112, l_114, l_115, l_116, l_117, l_119, l_121, l_122, l_136, l_200, l_255, l_300, l_364, l_900, l_1000, l_1456, l_1458, l_1459, l_1460, l_1462, l_1471, l_1504, l_1510, l_1522, l_1550, l_2971, l_9999, l_10000, l_10979, l_65536, l_m1, nI_add, pk_mul, q_sub, q_ltT, q_ltF, q_leT, q_leF, q_eqT, q_eqF, q_inT, q_inF, nI_clamp, q_mlt, q_mle, q_mne, q_mne2, q_mnlt, q_mnle, q_gi, q_gil, q_gir, q_giR, q_gl, q_gli, q_glr, q_glR, q_ra, q_rai, q_ral, q_raR, q_rl, q_rli, q_rll, q_rlr, sa, sA, ia, la, q_srsr, q_sRsR, Option.bind_some, if_true, if_false, reduceIte, ite_not, not_true_eq_false, not_false_eq_true, q_z1, Nat.reduceEqDiff]
theorem rd_new (h : rd B R M g n a e k wn) (ht : tt T R M t) {s c most : Nat} (hs : s < 3) (hc : ra M 5 (1456 + s) = nI c) (hcm : c < most) (hm : most ≤ 9) (hp : nfr s + c < 23) :
    (∃ R1 R2 M2 a' e' k' wn', fX4_advanceT R B = some R1 ∧ fX8_isNewNameHere R1 T = some (nI 1, R1) ∧ gl R1 8 ≠ 0 ∧ fX4_advanceT R1 B = some R2 ∧ fX12_readNew M (nI s) (nI most) = some (nI c, M2) ∧ rd B R2 M2 g n a' e' k' wn' ∧ e ≤ a' ∧ rg R R2 ∧
      (∀ j, j < 12 ∨ 18 < j → gi M2 j = gi M j) ∧ (∀ j, j ≠ 19 → gl M2 j = gl M j) ∧ (∀ k, ra M2 k = ra M k) ∧ (∀ k, k ≠ 7 → rl M2 k = rl M k) ∧ rl M2 7 = vp_updL (rl M 7) (92 + (nfr s + c)) (gl R1 8)) ∨
    (∃ R1 R2 M2, fX4_advanceT R B = some R1 ∧ fX8_isNewNameHere R1 T = some (nI 0, R2) ∧ fX12_readNew M (nI s) (nI most) = some (nI c, M2) ∧ bd R2 M2 ∧ rg R R2 ∧ mg M M2) := by
  obtain ⟨R1, M1, a1, e1, k1, wn1, p1, p2, p3, p4, p5, p6⟩ := rd_adv h
  have e4 := h.2.2.2.2.2.2.2.1
  have e41 := p3.2.2.2.2.2.2.2.1
  have ht1 := tt_mg ht p6 p5
  have ne : (nI c = nI most) = False := q_eqF (by omega) (by omega) (by omega)
  have start : fX12_readNew M (nI s) (nI most) = (fX12_isName M1).bind fun z10 => if z10 = nI 0 then (fX12_amiss M1).bind fun z11 => fX12_readNew_49 z11 (nI s) (nI c) else fX12_readNew_49 M1 (nI s) (nI c) := by
    have m1 := k_must1 e4
    rw [p2] at m1
    have e41' : gi M1 12 = (0 : Int32) := e41
    unfold fX12_readNew
    simp (disch := omega) only [hc, ne, fX12_readNew_26, m1, l_0, l_1, l_2, l_3, l_4, l_5, l_6, l_7, l_8, l_9, l_10, l_11, l_12, l_13, l_14, l_15, l_16, l_17, l_18, l_19, l_20, l_21, l_22, l_23, l_24, l_25, l_30, l_31, l_32, l_40, l_48, l_54, l_57, l_59, l_60, l_61, l_62, l_63, l_65, l_66, l_72, l_82, l_92, l_93, l_94, l_97, l_99, l_100, l_101, l_102, l_103, l_104, l_105, l_107, l_108, l_109, l_110, l_111, l_112, l_114, l_115, l_116, l_117, l_119, l_121, l_122, l_136, l_200, l_255, l_300, l_364, l_900, l_1000, l_1456, l_1458, l_1459, l_1460, l_1462, l_1471, l_1504, l_1510, l_1522, l_1550, l_2971, l_9999, l_10000, l_10979, l_65536, l_m1, nI_add, q_inT, nI_clamp, ia, Option.bind_some, if_true, if_false]
    exact if_pos e41
  rcases rd_isNew p3 ht1 with ⟨c1, c2, c3, c4, c5, c6, r0, r1, r2, d0, d1, d2, rfl, rfl, rfl⟩ | ⟨R2, M2, c1, c2, c3, c4, c5⟩
  · left
    have lm : (nI 0 ≤ nM) = False := eq_false (by decide)
    have lt : (nM < nI 0) = True := eq_true (by decide)
    have hin : inb (nI (92 + nfr s + c)) 115 = true := q_inT (by omega) (by omega)
    obtain ⟨R2, M2, a2, e2, k2, wn2, s1, s2, s3, s4, s5, s6⟩ := rd_adv (rd_sR (x := vp_updL (rl M1 7) (92 + (nfr s + c)) (gl R1 8)) p3)
    refine ⟨R1, R2, M2, a2, e2, k2, wn2, p1, c5, c3, s1, ?_, s3, ?_, rg_tr p5 s5, fun j hj => ?_, fun j hj => ?_, fun k => ?_, fun k hk => ?_, ?_⟩
    · have m1 := k_must1 (M := sR M1 7 (vp_updL (rl M1 7) (92 + (nfr s + c)) (gl R1 8))) e41
      rw [s2] at m1
      have hf := M_namesFrom hs
      rw [start, c6, Option.bind_some, if_neg (fun q => absurd q (by decide))]
      unfold fX12_readNew_49
      simp only [e41, l_0, l_1, l_2, l_3, l_4, l_5, l_6, l_7, l_8, l_9, l_10, l_11, l_12, l_13, l_14, l_15, l_16, l_17, l_18, l_19, l_20, l_21, l_22, l_23, l_24, l_25, l_30, l_31, l_32, l_40, l_48, l_54, l_57, l_59, l_60, l_61, l_62, l_63, l_65, l_66, l_72, l_82, l_92, l_93, l_94, l_97, l_99, l_100, l_101, l_102, l_103, l_104, l_105, l_107, l_108, l_109, l_110, l_111, l_112, l_114, l_115, l_116, l_117, l_119, l_121, l_122, l_136, l_200, l_255, l_300, l_364, l_900, l_1000, l_1456, l_1458, l_1459, l_1460, l_1462, l_1471, l_1504, l_1510, l_1522, l_1550, l_2971, l_9999, l_10000, l_10979, l_65536, l_m1, if_true, d0, d1, d2, lm, lt, Option.bind_some, if_false, fX12_readNew_92, fX12_readNew_117, hf, nI_add, hin, sA, nI_clamp (show 92 + nfr s + c < 2147483648 by omega), ← c4]
      rw [Nat.add_assoc, m1, Option.bind_some]
    · obtain ⟨t1, t2, t3, t4, t5, t6, t7, t8, -⟩ := p3.2.2.1
      omega
    · rw [s6.1 j hj]; exact p6.1 j hj
    · rw [s6.2.1 j hj]; exact p6.2.1 j hj
    · rw [mg_ra s6]; exact mg_ra p6 k
    · rw [mg_rl s6, q_rl, if_neg hk]; exact mg_rl p6 k
    · rw [mg_rl s6, q_rl, if_pos rfl, mg_rl p6]
  · right
    refine ⟨R1, R2, M2, p1, c1, ?_, c2, rg_tr p5 c3, mg_tr p6 c4⟩
    have hbm := bd_bm c2
    obtain ⟨f, f1, f2, f3⟩ := id hbm
    have n0 : (nI f = nI 0) = False := q_eqF (by omega) (by omega) (by omega)
    have bm1 := b_must hbm (nI 1)
    have x92 : fX12_readNew_92 M2 (nI s) (nI c) = some (nI c, M2) := by
      simp only [fX12_readNew_92, fX12_readNew_117, f3, n0, bm1, l_0, l_1, l_2, l_3, l_4, l_5, l_6, l_7, l_8, l_9, l_10, l_11, l_12, l_13, l_14, l_15, l_16, l_17, l_18, l_19, l_20, l_21, l_22, l_23, l_24, l_25, l_30, l_31, l_32, l_40, l_48, l_54, l_57, l_59, l_60, l_61, l_62, l_63, l_65, l_66, l_72, l_82, l_92, l_93, l_94, l_97, l_99, l_100, l_101, l_102, l_103, l_104, l_105, l_107, l_108, l_109, l_110, l_111, l_112, l_114, l_115, l_116, l_117, l_119, l_121, l_122, l_136, l_200, l_255, l_300, l_364, l_900, l_1000, l_1456, l_1458, l_1459, l_1460, l_1462, l_1471, l_1504, l_1510, l_1522, l_1550, l_2971, l_9999, l_10000, l_10979, l_65536, l_m1, if_false, Option.bind_some]
    have x49 : fX12_readNew_49 M2 (nI s) (nI c) = some (nI c, M2) := by
      simp only [fX12_readNew_49, f3, n0, x92, l_0, l_1, l_2, l_3, l_4, l_5, l_6, l_7, l_8, l_9, l_10, l_11, l_12, l_13, l_14, l_15, l_16, l_17, l_18, l_19, l_20, l_21, l_22, l_23, l_24, l_25, l_30, l_31, l_32, l_40, l_48, l_54, l_57, l_59, l_60, l_61, l_62, l_63, l_65, l_66, l_72, l_82, l_92, l_93, l_94, l_97, l_99, l_100, l_101, l_102, l_103, l_104, l_105, l_107, l_108, l_109, l_110, l_111, l_112, l_114, l_115, l_116, l_117, l_119, l_121, l_122, l_136, l_200, l_255, l_300, l_364, l_900, l_1000, l_1456, l_1458, l_1459, l_1460, l_1462, l_1471, l_1504, l_1510, l_1522, l_1550, l_2971, l_9999, l_10000, l_10979, l_65536, l_m1, if_false]
    rcases c5 with ⟨c5, c6⟩ | ⟨c5, c6, r0, r1, r2, d0, d1, d2, c7⟩
    · rw [start, c5, Option.bind_some, if_pos rfl, c6, Option.bind_some, x49]
    · rw [start, c5, Option.bind_some, if_neg (fun q => absurd q (by decide))]
      have x83 : fX12_readNew_83 M1 (nI s) (nI c) = some (nI c, M2) := by
        simp only [fX12_readNew_83, l_0, l_1, l_2, l_3, l_4, l_5, l_6, l_7, l_8, l_9, l_10, l_11, l_12, l_13, l_14, l_15, l_16, l_17, l_18, l_19, l_20, l_21, l_22, l_23, l_24, l_25, l_30, l_31, l_32, l_40, l_48, l_54, l_57, l_59, l_60, l_61, l_62, l_63, l_65, l_66, l_72, l_82, l_92, l_93, l_94, l_97, l_99, l_100, l_101, l_102, l_103, l_104, l_105, l_107, l_108, l_109, l_110, l_111, l_112, l_114, l_115, l_116, l_117, l_119, l_121, l_122, l_136, l_200, l_255, l_300, l_364, l_900, l_1000, l_1456, l_1458, l_1459, l_1460, l_1462, l_1471, l_1504, l_1510, l_1522, l_1550, l_2971, l_9999, l_10000, l_10979, l_65536, l_m1, c6, Option.bind_some, x92]
      unfold fX12_readNew_49
      simp only [e41, l_0, l_1, l_2, l_3, l_4, l_5, l_6, l_7, l_8, l_9, l_10, l_11, l_12, l_13, l_14, l_15, l_16, l_17, l_18, l_19, l_20, l_21, l_22, l_23, l_24, l_25, l_30, l_31, l_32, l_40, l_48, l_54, l_57, l_59, l_60, l_61, l_62, l_63, l_65, l_66, l_72, l_82, l_92, l_93, l_94, l_97, l_99, l_100, l_101, l_102, l_103, l_104, l_105, l_107, l_108, l_109, l_110, l_111, l_112, l_114, l_115, l_116, l_117, l_119, l_121, l_122, l_136, l_200, l_255, l_300, l_364, l_900, l_1000, l_1456, l_1458, l_1459, l_1460, l_1462, l_1471, l_1504, l_1510, l_1522, l_1550, l_2971, l_9999, l_10000, l_10979, l_65536, l_m1, if_true, d0, d1, d2, x83, Option.bind_some]
      by_cases q0 : nI 0 ≤ r0
      · rw [if_pos q0]
      · rw [if_neg q0]
        by_cases q1 : nI 0 ≤ r1
        · rw [if_pos q1]
        · rw [if_neg q1]
          have q2 : nI 0 ≤ r2 := by
            rcases c7 with q | q | q
            · exact absurd q q0
            · exact absurd q q1
            · exact q
          rw [if_neg (by rw [Int32.lt_iff_toInt_lt]; rw [Int32.le_iff_toInt_le] at q2; omega)]
/-- the class gives up; what else it leaves doesn't matter -/
def cb (C : Option (Int32 × ms_T × ms_T)) (R' : ms_T) : Prop := C.map (fun z => (z.1, z.2.1)) = some (nI 0, R')
theorem cb_ex {C : Option (Int32 × ms_T × ms_T)} {R' : ms_T} (h : cb C R') : ∃ T', C = some (nI 0, R', T') := by
  unfold cb at h
  cases C with
  | none => cases h
  | some z =>
    obtain ⟨x, y, T'⟩ := z
    rw [Option.map_some] at h
    have h := Option.some.inj h
    have h1 : x = nI 0 := congrArg Prod.fst h
    have h2 : y = R' := congrArg Prod.snd h
    exact ⟨T', by rw [h1, h2]⟩
/-- how one part of a table's text goes -/
def so (B R M T : ms_T) (t g : Nat → Nat) (n a : Nat) (C : Option (Int32 × ms_T × ms_T)) (D : Option ms_T) : Prop :=
  (∃ R' T' M' t' a' e' k' wn', C = some (nI 1, R', T') ∧ D = some M' ∧ rd B R' M' g n a' e' k' wn' ∧ tt T' R' M' t' ∧ mh M M' ∧ a < a') ∨
  (∃ R' M', cb C R' ∧ D = some M' ∧ bd R' M' ∧ mh M M') ∨
  (∃ R' T' M' R'', C = some (nI 1, R', T') ∧ D = some M' ∧ fX4_passSemicolonT R' B = some (nI 0, R'') ∧ bd R'' M' ∧ mh M M')
theorem rd_ae (h : rd B R M g n a e k wn) (hk : k ≠ 0) : a < e := h.2.2.1.2.2.2.2.2.2.2.2.2.2.1 hk
theorem rd_si12 {R : ms_T} {x : Int32} (h : rd B R M g n a e k wn) : rd B (si R 12 x) M g n a e k wn := h
theorem rd_si24 {x : Int32} (h : rd B R M g n a e k wn) : rd B R (si M 24 x) g n a e k wn := h
theorem rd_sr5 {f : Nat → Int32} (h : rd B R M g n a e k wn) : rd B R (sr M 5 f) g n a e k wn := h
theorem so_odds (h : rd B R M g n a e k wn) (ht : tt T R M t) (hk : k = 1) : so B R M T t g n a (fX8_readOdds R B T) (fX12_readOdds M) := by
  obtain ⟨w, hC, hN, hn, hz, hf, o, o1, o2, o3⟩ := id ht
  have ae := rd_ae h (by omega)
  rcases (by omega : o = 0 ∨ o = 1) with rfl | rfl
  · obtain ⟨R1, M1, a1, e1, k1, wn1, p1, p2, p3, p4, p5, p6⟩ := rd_adv (rd_si24 (x := nI 1) h)
    have m1 := k_must1 (M := si M 24 (nI 1)) h.2.2.2.2.2.2.2.1
    rw [p2] at m1
    rcases rd_num p3 (lo := 0) (hi := 16) (by omega) (by omega) with ⟨v, v1, v2, v3, v4, v5, v6, v7⟩ | ⟨R2, M2, q1, q2, q3, q4, q5⟩
    · obtain ⟨R2, M2, a2, e2, k2, wn2, s1, s2, s3, s4, s5, s6⟩ := k_count (rd_si12 (x := nI 1) p3) v5 v7
      have m12 := s3.2.2.2.2.2.2.2.1
      have ra5 : ra M2 5 = ra M 5 := by rw [mg_ra s6, mg_ra p6]; rfl
      have hin : inb (nI 1460) 1820 = true := q_inT (by omega) (by omega)
      refine Or.inl ⟨R2, si T 0 (nI v), sr M2 5 (upd (ra M 5) 1460 (nI v)), tu t 4 v, a2, e2, k2, wn2, ?_, ?_, s3, ⟨?_, C_odds w hC, ?_, ?_, ?_, ?_, 1, by omega, ?_, ?_⟩, ?_, ?_⟩
      · simp only [fX8_readOdds, o2, l_0, l_1, l_2, l_3, l_4, l_5, l_6, l_7, l_8, l_9, l_10, l_11, l_12, l_13, l_14, l_15, l_16, l_17, l_18, l_19, l_20, l_21, l_22, l_23, l_24, l_25, l_30, l_31, l_32, l_40, l_48, l_54, l_57, l_59, l_60, l_61, l_62, l_63, l_65, l_66, l_72, l_82, l_92, l_93, l_94, l_97, l_99, l_100, l_101, l_102, l_103, l_104, l_105, l_107, l_108, l_109, l_110, l_111, l_112, l_114, l_115, l_116, l_117, l_119, l_121, l_122, l_136, l_200, l_255, l_300, l_364, l_900, l_1000, l_1456, l_1458, l_1459, l_1460, l_1462, l_1471, l_1504, l_1510, l_1522, l_1550, l_2971, l_9999, l_10000, l_10979, l_65536, l_m1, if_true, p1, v6, v4, s1, n_10, if_false, Option.bind_some]
      · simp only [fX12_readOdds, fX12_readOdds_16, o3, l_0, l_1, l_2, l_3, l_4, l_5, l_6, l_7, l_8, l_9, l_10, l_11, l_12, l_13, l_14, l_15, l_16, l_17, l_18, l_19, l_20, l_21, l_22, l_23, l_24, l_25, l_30, l_31, l_32, l_40, l_48, l_54, l_57, l_59, l_60, l_61, l_62, l_63, l_65, l_66, l_72, l_82, l_92, l_93, l_94, l_97, l_99, l_100, l_101, l_102, l_103, l_104, l_105, l_107, l_108, l_109, l_110, l_111, l_112, l_114, l_115, l_116, l_117, l_119, l_121, l_122, l_136, l_200, l_255, l_300, l_364, l_900, l_1000, l_1456, l_1458, l_1459, l_1460, l_1462, l_1471, l_1504, l_1510, l_1522, l_1550, l_2971, l_9999, l_10000, l_10979, l_65536, l_m1, if_true, m1, s2, m12, Option.bind_some, sa, nI_clamp (show 1460 < 2147483648 by omega), ra5]
      · obtain ⟨w0, w1, w2, -⟩ := id w
        exact W_upd w (by omega) (by omega) (by omega) (by omega) (by omega) (by omega) (by omega) (by omega) (by omega) (by omega) (by omega) (by omega)
      · intro i hi
        rw [q_ra, if_pos rfl]
        by_cases c : i = 4
        · rw [up_e _ _ _ (by omega), tu_e _ _ _ c]
        · rw [up_n _ _ _ (by omega), tu_n _ _ _ c]; exact hN i hi
      · have e7 : rl (sr M2 5 (upd (ra M 5) 1460 (nI v))) 7 = rl M 7 := by rw [q_rlr, mg_rl s6, mg_rl p6]; rfl
        unfold nms
        rw [e7, tu_n _ _ _ (by omega), tu_n _ _ _ (by omega), tu_n _ _ _ (by omega)]; exact hn
      · rw [tu_n _ _ _ (by omega), tu_n _ _ _ (by omega), tu_n _ _ _ (by omega)]; exact hz
      · rw [tu_n _ _ _ (by omega)]
        intro i q1 q2
        rw [tu_n _ _ _ (by omega)]; exact hf i q1 q2
      · rw [s5.1 12 (by omega)]; rfl
      · rw [q_gir, s6.1 24 (by omega), p6.1 24 (by omega)]; rfl
      · refine mh_tr (mh_tr (mh_24 (x := nI 1)) (mg_mh (mg_tr p6 s6))) ?_
        exact mh_5 (fun i hi => by rw [up_n _ _ _ (by omega), ra5])
      · have := p3.2.2.1.2.2.2.2.2.2.1
        omega
    · refine Or.inr (Or.inl ⟨R2, M2, ?_, ?_, q3, mh_tr (mh_24 (x := nI 1)) (mg_mh (mg_tr p6 q5))⟩)
      · simp only [cb, fX8_readOdds, o2, l_0, l_1, l_2, l_3, l_4, l_5, l_6, l_7, l_8, l_9, l_10, l_11, l_12, l_13, l_14, l_15, l_16, l_17, l_18, l_19, l_20, l_21, l_22, l_23, l_24, l_25, l_30, l_31, l_32, l_40, l_48, l_54, l_57, l_59, l_60, l_61, l_62, l_63, l_65, l_66, l_72, l_82, l_92, l_93, l_94, l_97, l_99, l_100, l_101, l_102, l_103, l_104, l_105, l_107, l_108, l_109, l_110, l_111, l_112, l_114, l_115, l_116, l_117, l_119, l_121, l_122, l_136, l_200, l_255, l_300, l_364, l_900, l_1000, l_1456, l_1458, l_1459, l_1460, l_1462, l_1471, l_1504, l_1510, l_1522, l_1550, l_2971, l_9999, l_10000, l_10979, l_65536, l_m1, if_true, p1, q1, Option.bind_some, Option.map_some]
      · have bc := b_count2 q2 (bd_bm q3)
        obtain ⟨f, f1, f2, f3⟩ := bd_bm q3
        have n0 : (nI f = nI 0) = False := q_eqF (by omega) (by omega) (by omega)
        simp only [fX12_readOdds, fX12_readOdds_16, o3, l_0, l_1, l_2, l_3, l_4, l_5, l_6, l_7, l_8, l_9, l_10, l_11, l_12, l_13, l_14, l_15, l_16, l_17, l_18, l_19, l_20, l_21, l_22, l_23, l_24, l_25, l_30, l_31, l_32, l_40, l_48, l_54, l_57, l_59, l_60, l_61, l_62, l_63, l_65, l_66, l_72, l_82, l_92, l_93, l_94, l_97, l_99, l_100, l_101, l_102, l_103, l_104, l_105, l_107, l_108, l_109, l_110, l_111, l_112, l_114, l_115, l_116, l_117, l_119, l_121, l_122, l_136, l_200, l_255, l_300, l_364, l_900, l_1000, l_1456, l_1458, l_1459, l_1460, l_1462, l_1471, l_1504, l_1510, l_1522, l_1550, l_2971, l_9999, l_10000, l_10979, l_65536, l_m1, if_true, m1, bc, f3, n0, if_false, Option.bind_some]
  · obtain ⟨R2, M2, q1, q2, q3, q4, q5⟩ := rd_fail h (f := 5) (by omega) (by omega) (by omega)
    refine Or.inr (Or.inl ⟨R2, si M2 24 (nI 1), ?_, ?_, ?_, mh_tr (mg_mh q5) mh_24⟩)
    · simp only [cb, fX8_readOdds, o2, l_0, l_1, l_2, l_3, l_4, l_5, l_6, l_7, l_8, l_9, l_10, l_11, l_12, l_13, l_14, l_15, l_16, l_17, l_18, l_19, l_20, l_21, l_22, l_23, l_24, l_25, l_30, l_31, l_32, l_40, l_48, l_54, l_57, l_59, l_60, l_61, l_62, l_63, l_65, l_66, l_72, l_82, l_92, l_93, l_94, l_97, l_99, l_100, l_101, l_102, l_103, l_104, l_105, l_107, l_108, l_109, l_110, l_111, l_112, l_114, l_115, l_116, l_117, l_119, l_121, l_122, l_136, l_200, l_255, l_300, l_364, l_900, l_1000, l_1456, l_1458, l_1459, l_1460, l_1462, l_1471, l_1504, l_1510, l_1522, l_1550, l_2971, l_9999, l_10000, l_10979, l_65536, l_m1, n_10, if_false, q1, q_z0, if_true, Option.bind_some, Option.map_some]
    · have hb : bm (si M2 24 (nI 1)) := bd_bm (R := R2) q3
      have b1 := b_must hb (nI 1)
      have b2' := b_count hb (nI 0) (nI 16)
      obtain ⟨f, f1, f2, f3⟩ := hb
      have n0 : (nI f = nI 0) = False := q_eqF (by omega) (by omega) (by omega)
      simp only [fX12_readOdds, fX12_readOdds_16, o3, l_0, l_1, l_2, l_3, l_4, l_5, l_6, l_7, l_8, l_9, l_10, l_11, l_12, l_13, l_14, l_15, l_16, l_17, l_18, l_19, l_20, l_21, l_22, l_23, l_24, l_25, l_30, l_31, l_32, l_40, l_48, l_54, l_57, l_59, l_60, l_61, l_62, l_63, l_65, l_66, l_72, l_82, l_92, l_93, l_94, l_97, l_99, l_100, l_101, l_102, l_103, l_104, l_105, l_107, l_108, l_109, l_110, l_111, l_112, l_114, l_115, l_116, l_117, l_119, l_121, l_122, l_136, l_200, l_255, l_300, l_364, l_900, l_1000, l_1456, l_1458, l_1459, l_1460, l_1462, l_1471, l_1504, l_1510, l_1522, l_1550, l_2971, l_9999, l_10000, l_10979, l_65536, l_m1, n_10, if_false, q2, b1, b2', f3, n0, Option.bind_some]
    · exact q3
end Q79
