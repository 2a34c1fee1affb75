/-! a topic, a feud -/
section Q80
variable {R B M T : ms_T} {g t : Nat → Nat} {n a e k wn : Nat}
/-- a topic more -/
def tto (t : Nat → Nat) (v x : Nat) : Nat → Nat := tu (tu (tu t (6 + t 0) v) (15 + t 0) x) 0 (t 0 + 1)
theorem tto_n {v x j : Nat} (h1 : j ≠ 6 + t 0) (h2 : j ≠ 15 + t 0) (h3 : j ≠ 0) : tto t v x j = t j := by unfold tto; rw [tu_n _ _ _ h3, tu_n _ _ _ h2, tu_n _ _ _ h1]
theorem tto_0 {v x : Nat} : tto t v x 0 = t 0 + 1 := by unfold tto; rw [tu_e _ _ _ rfl]
theorem tto_a {v x : Nat} : tto t v x (6 + t 0) = v := by unfold tto; rw [tu_n _ _ _ (by omega), tu_n _ _ _ (by omega), tu_e _ _ _ rfl]
theorem tto_b {v x : Nat} : tto t v x (15 + t 0) = x := by unfold tto; rw [tu_n _ _ _ (by omega), tu_e _ _ _ rfl]
theorem W_tto (w : tb_W t) {v x : Nat} (hk : t 0 < 9) (hv : v ≤ 20) (hx : x ≤ 3) : tb_W (tto t v x) := by
  obtain ⟨w0, w1, w2, w3, w4, w5, w6, w7, w8, w9⟩ := w
  have e1 : tto t v x 1 = t 1 := tto_n (by omega) (by omega) (by omega)
  have e2 : tto t v x 2 = t 2 := tto_n (by omega) (by omega) (by omega)
  have e3 : tto t v x 3 = t 3 := tto_n (by omega) (by omega) (by omega)
  have e4 : tto t v x 4 = t 4 := tto_n (by omega) (by omega) (by omega)
  unfold tb_W
  rw [e1, e2, e3, e4, tto_0]
  refine ⟨by omega, w1, w2, w3, w4, ?_, ?_, ?_, ?_, ?_⟩
  · intro i hi
    by_cases c : i = t 0
    · subst c; rw [tto_a, tto_b]; exact ⟨hv, hx⟩
    · rw [tto_n (by omega) (by omega) (by omega), tto_n (by omega) (by omega) (by omega)]; exact w5 i (by omega)
  · intro i hi
    rw [tto_n (by omega) (by omega) (by omega), tto_n (by omega) (by omega) (by omega), tto_n (by omega) (by omega) (by omega)]
    have := w6 i hi
    exact ⟨by omega, this.2.1, this.2.2⟩
  · intro i hi
    rw [tto_n (by omega) (by omega) (by omega), tto_n (by omega) (by omega) (by omega), tto_n (by omega) (by omega) (by omega), tto_n (by omega) (by omega) (by omega)]
    have := w7 i hi
    exact ⟨this.1, by omega, this.2.2.1, this.2.2.2⟩
  · intro i hi
    rw [tto_n (by omega) (by omega) (by omega), tto_n (by omega) (by omega) (by omega)]; exact w8 i hi
  · intro i j hi hj
    rw [tto_n (by omega) (by omega) (by omega), tto_n (by omega) (by omega) (by omega), tto_n (by omega) (by omega) (by omega), tto_n (by omega) (by omega) (by omega)]; exact w9 i j hi hj
theorem C_tto (w : tb_W t) (h : tb_C T t) {v x : Nat} {nm : Nat → Int64} (hk : t 0 < 9) : tb_C (si (sr (sr (sR T 10 nm) 1 (upd (ra T 1) (t 0) (nI v))) 2 (upd (ra T 2) (t 0) (nI x))) 1 (nI (t 0 + 1))) (tto t v x) := by
  obtain ⟨w0, w1, w2, w3, w4, w5, w6, w7, w8, w9⟩ := w
  obtain ⟨h0, h1, h2, h3, h4, h5, h6, h7, h8, h9, h10, h11, h12, h13, h14, h15, h16⟩ := h
  have e1 : tto t v x 1 = t 1 := tto_n (by omega) (by omega) (by omega)
  have e2 : tto t v x 2 = t 2 := tto_n (by omega) (by omega) (by omega)
  have e3 : tto t v x 3 = t 3 := tto_n (by omega) (by omega) (by omega)
  have e4 : tto t v x 4 = t 4 := tto_n (by omega) (by omega) (by omega)
  have e5 : tto t v x 5 = t 5 := tto_n (by omega) (by omega) (by omega)
  unfold tb_C
  rw [e1, e2, e3, e4, e5, tto_0]
  refine ⟨h0, rfl, h2, ?_, h4, ?_, h6, h7, ?_, ?_, ?_, ?_, ?_, ?_, ?_, ?_, ?_⟩
  · have e : bs (tb_pp (tto t v x)) (t 1) = bs (tb_pp t) (t 1) := bs_eq (fun k hk => by unfold tb_pp; rw [tto_n (by omega) (by omega) (by omega)])
    rw [e]; exact h3
  · have e : bs (tb_ff (tto t v x)) (t 2) = bs (tb_ff t) (t 2) := bs_eq (fun k hk => by unfold tb_ff; rw [tto_n (by omega) (by omega) (by omega)])
    rw [e]; exact h5
  · intro i hi
    show upd (ra T 1) (t 0) (nI v) i = _
    by_cases c : i = t 0
    · subst c; rw [up_e _ _ _ rfl, tto_a]
    · rw [up_n _ _ _ c, tto_n (by omega) (by omega) (by omega)]; exact h8 i (by omega)
  · intro i hi
    show upd (ra T 2) (t 0) (nI x) i = _
    by_cases c : i = t 0
    · subst c; rw [up_e _ _ _ rfl, tto_b]
    · rw [up_n _ _ _ c, tto_n (by omega) (by omega) (by omega)]; exact h9 i (by omega)
  · intro i hi; rw [tto_n (by omega) (by omega) (by omega)]; exact h10 i hi
  · intro i hi; rw [tto_n (by omega) (by omega) (by omega)]; exact h11 i hi
  · intro i hi; rw [tto_n (by omega) (by omega) (by omega)]; exact h12 i hi
  · intro i hi; rw [tto_n (by omega) (by omega) (by omega)]; exact h13 i hi
  · intro i hi; rw [tto_n (by omega) (by omega) (by omega)]; exact h14 i hi
  · intro i hi; rw [tto_n (by omega) (by omega) (by omega)]; exact h15 i hi
  · intro i hi; rw [tto_n (by omega) (by omega) (by omega)]; exact h16 i hi
theorem b_topic {M2 : ms_T} {x : Int32} (h : fX12_readNew M (nI 0) (nI 9) = some (x, M2)) (hb : bm M2) : fX12_readTopic M = some M2 := by
  have b1 := b_behind hb
  obtain ⟨f, f1, f2, f3⟩ := hb
  have nle : (nI f ≤ nI 0) = False := q_leF (by omega) (by omega)
  simp only [fX12_readTopic, l_0, l_1, l_2, l_3, l_4, l_5, l_6, l_7, l_8, l_9, l_10, l_11, l_12, l_13, l_14, l_15, l_16, l_17, l_18, l_19, l_20, l_21, l_22, l_23, l_24, l_25, l_30, l_31, l_32, l_40, l_48, l_54, l_57, l_59, l_60, l_61, l_62, l_63, l_65, l_66, l_72, l_82, l_92, l_93, l_94, l_97, l_99, l_100, l_101, l_102, l_103, l_104, l_105, l_107, l_108, l_109, l_110, l_111, l_112, l_114, l_115, l_116, l_117, l_119, l_121, l_122, l_136, l_200, l_255, l_300, l_364, l_900, l_1000, l_1456, l_1458, l_1459, l_1460, l_1462, l_1471, l_1504, l_1510, l_1522, l_1550, l_2971, l_9999, l_10000, l_10979, l_65536, l_m1, h, w_2, w_3, b1, f3, nle, if_false, Option.bind_some]
theorem so_topic (h : rd B R M g n a e k wn) (ht : tt T R M t) (hk : k = 1) : so B R M T t g n a (fX8_readTopic R B T) (fX12_readTopic M) := by
  obtain ⟨w, hC, hN, ⟨m1, m2, m3⟩, ⟨z1, z2, z3⟩, hf, o, o1, o2, o3⟩ := id ht
  obtain ⟨w0, w1, w2, w3, w4, w5, w6, w7, w8, w9⟩ := id w
  have h1 := hC.2.1
  have ae := rd_ae h (by omega)
  have hc0 : ra M 5 (1456 + 0) = nI (t 0) := hN 0 (by omega)
  by_cases full : t 0 = 9
  · rw [full] at hc0 h1
    obtain ⟨R', M', q1, q2, q3, q4, q5⟩ := new_full h (by omega) (s := 0) (most := 9) (by omega) hc0
    refine Or.inr (Or.inl ⟨R', M', ?_, b_topic q2 (bd_bm q3), q3, mg_mh q5⟩)
    simp only [cb, fX8_readTopic, h1, l_0, l_1, l_2, l_3, l_4, l_5, l_6, l_7, l_8, l_9, l_10, l_11, l_12, l_13, l_14, l_15, l_16, l_17, l_18, l_19, l_20, l_21, l_22, l_23, l_24, l_25, l_30, l_31, l_32, l_40, l_48, l_54, l_57, l_59, l_60, l_61, l_62, l_63, l_65, l_66, l_72, l_82, l_92, l_93, l_94, l_97, l_99, l_100, l_101, l_102, l_103, l_104, l_105, l_107, l_108, l_109, l_110, l_111, l_112, l_114, l_115, l_116, l_117, l_119, l_121, l_122, l_136, l_200, l_255, l_300, l_364, l_900, l_1000, l_1456, l_1458, l_1459, l_1460, l_1462, l_1471, l_1504, l_1510, l_1522, l_1550, l_2971, l_9999, l_10000, l_10979, l_65536, l_m1, q1, q_z0, if_true, Option.bind_some, Option.map_some]
  · have n9 : (nI (t 0) = nI 9) = False := q_eqF full (by omega) (by omega)
    have i23 : inb (nI (t 0)) 23 = true := q_inT (by omega) (by omega)
    have i9 : inb (nI (t 0)) 9 = true := q_inT (by omega) (by omega)
    have cl : (nI (t 0)).toNatClampNeg = t 0 := nI_clamp (by omega)
    have le00 : (nI 0 ≤ nI 0) = True := q_leT (by omega) (by omega)
    rcases rd_new h ht (s := 0) (c := t 0) (most := 9) (by omega) hc0 (by omega) (by omega) (by show 0 + t 0 < 23; omega) with ⟨R1, R2, M2, a2, e2, k2, wn2, p1, p2, p3, p4, p5, p6, p7, p8, p9, p10, p11, p12, p13⟩ | ⟨R1, R2, M2, p1, p2, p3, p4, p5, p6⟩
    · have p13' : rl M2 7 = vp_updL (rl M 7) (92 + t 0) (gl R1 8) := by rw [p13]; rw [show nfr 0 + t 0 = t 0 from Nat.zero_add _]
      have mhM2 : mh M M2 := ⟨fun j hj => p9 j hj.1, p10, fun k _ => p11 k, fun i _ => by rw [p11], p12, fun i hi => by rw [p13']; exact pk_uLn (by omega)⟩
      rcases rd_word p6 (j := 2) (by omega) with ⟨x0, R3, M3, a3, e3, k3, wn3, x1, x2, x3, x4, x5, x6⟩ | ⟨x0, R3, M3, x1, x2, x3, x4, x5⟩
      · rcases rd_num x3 (lo := 0) (hi := 20) (by omega) (by omega) with ⟨v, v1, v2, v3, v4, v5, v6, v7⟩ | ⟨R4, M4, q1, q2, q3, q4, q5⟩
        · obtain ⟨R4, M4, a4, e4, k4, wn4, s1, s2, s3, s4, s5, s6⟩ := k_count x3 v5 v7
          have bw1 : fX12_behindWord M2 (bi (wb M2 2)) (nI 0) (nI 20) = some (nI v, M4) := by
            simp only [fX12_behindWord, x2, s2, Option.bind_some]
          rcases rd_word s3 (j := 3) (by omega) with ⟨y0, R5, M5, a5, e5, k5, wn5, y1, y2, y3, y4, y5, y6⟩ | ⟨y0, R5, M5, y1, y2, y3, y4, y5⟩
          · rcases rd_num y3 (lo := 0) (hi := 3) (by omega) (by omega) with ⟨u, u1, u2, u3, u4, u5, u6, u7⟩ | ⟨R6, M6, q1, q2, q3, q4, q5⟩
            · obtain ⟨R6, M6, a6, e6, k6, wn6, r1, r2, r3, r4, r5, r6⟩ := k_count y3 u5 u7
              have bw2 : fX12_behindWord M4 (bi (wb M4 3)) (nI 0) (nI 3) = some (nI u, M6) := by
                simp only [fX12_behindWord, y2, r2, Option.bind_some]
              have m12 := r3.2.2.2.2.2.2.2.1
              have mgA : mg M2 M6 := mg_tr (mg_tr (mg_tr x6 s6) y6) r6
              have rgA : rg R R6 := rg_tr (rg_tr (rg_tr (rg_tr p8 x5) s5) y5) r5
              have ra5 : ra M6 5 = ra M 5 := by rw [mg_ra mgA, p11]
              have j1 : inb (nI (1462 + t 0)) 1820 = true := q_inT (by omega) (by omega)
              have j2 : inb (nI (1471 + t 0)) 1820 = true := q_inT (by omega) (by omega)
              have cl1 : (nI (1462 + t 0)).toNatClampNeg = 1462 + t 0 := nI_clamp (by omega)
              have cl2 : (nI (1471 + t 0)).toNatClampNeg = 1471 + t 0 := nI_clamp (by omega)
              have cl3 : (nI 1456).toNatClampNeg = 1456 := nI_clamp (by omega)
              have gv : upd (upd (ra M 5) (1462 + t 0) (nI v)) (1471 + t 0) (nI u) 1456 = nI (t 0) := by
                rw [up_n _ _ _ (by omega), up_n _ _ _ (by omega)]; exact hc0
              refine Or.inl ⟨R6, si (sr (sr (sR T 10 (vp_updL (rl T 10) (t 0) (gl R1 8))) 1 (upd (ra T 1) (t 0) (nI v))) 2 (upd (ra T 2) (t 0) (nI u))) 1 (nI (t 0 + 1)), sr M6 5 (upd (upd (upd (ra M 5) (1462 + t 0) (nI v)) (1471 + t 0) (nI u)) 1456 (nI (t 0 + 1))), tto t v u, a6, e6, k6, wn6, ?_, ?_, r3, ⟨W_tto w (by omega) v2 u2, C_tto w hC (by omega), ?_, ?_, ?_, ?_, o, o1, ?_, ?_⟩, ?_, ?_⟩
              · unfold fX8_readTopic
                simp only [h1, n9, l_0, l_1, l_2, l_3, l_4, l_5, l_6, l_7, l_8, l_9, l_10, l_11, l_12, l_13, l_14, l_15, l_16, l_17, l_18, l_19, l_20, l_21, l_22, l_23, l_24, l_25, l_30, l_31, l_32, l_40, l_48, l_54, l_57, l_59, l_60, l_61, l_62, l_63, l_65, l_66, l_72, l_82, l_92, l_93, l_94, l_97, l_99, l_100, l_101, l_102, l_103, l_104, l_105, l_107, l_108, l_109, l_110, l_111, l_112, l_114, l_115, l_116, l_117, l_119, l_121, l_122, l_136, l_200, l_255, l_300, l_364, l_900, l_1000, l_1456, l_1458, l_1459, l_1460, l_1462, l_1471, l_1504, l_1510, l_1522, l_1550, l_2971, l_9999, l_10000, l_10979, l_65536, l_m1, p1, p2, i23, p4, x1, v6, sA, sa, cl, q_giR, q_gir, i9, s1, y1, u6, r1, v4, u4, n_10, if_true, if_false, Option.bind_some, nI_add, q_raR, q_ra, reduceIte, Nat.reduceEqDiff]
              · unfold fX12_readTopic
                simp only [l_0, l_1, l_2, l_3, l_4, l_5, l_6, l_7, l_8, l_9, l_10, l_11, l_12, l_13, l_14, l_15, l_16, l_17, l_18, l_19, l_20, l_21, l_22, l_23, l_24, l_25, l_30, l_31, l_32, l_40, l_48, l_54, l_57, l_59, l_60, l_61, l_62, l_63, l_65, l_66, l_72, l_82, l_92, l_93, l_94, l_97, l_99, l_100, l_101, l_102, l_103, l_104, l_105, l_107, l_108, l_109, l_110, l_111, l_112, l_114, l_115, l_116, l_117, l_119, l_121, l_122, l_136, l_200, l_255, l_300, l_364, l_900, l_1000, l_1456, l_1458, l_1459, l_1460, l_1462, l_1471, l_1504, l_1510, l_1522, l_1550, l_2971, l_9999, l_10000, l_10979, l_65536, l_m1, p6, w_2, bw1, w_3, bw2, m12, le00, j1, j2, sa, ia, cl1, cl2, cl3, nI_add, q_ra, q_srsr, ra5, gv, if_true, Option.bind_some, p6, p5, reduceIte, Nat.reduceEqDiff]
              · intro i hi
                rw [q_ra, if_pos rfl]
                by_cases c0 : i = 0
                · subst c0; rw [up_e _ _ _ rfl, tto_0]
                · by_cases c1 : i = 15 + t 0
                  · subst c1; rw [up_n _ _ _ (by omega), up_e _ _ _ (by omega), tto_b]
                  · by_cases c2 : i = 6 + t 0
                    · subst c2; rw [up_n _ _ _ (by omega), up_n _ _ _ (by omega), up_e _ _ _ (by omega), tto_a]
                    · rw [up_n _ _ _ (by omega), up_n _ _ _ (by omega), up_n _ _ _ (by omega), tto_n c2 c1 c0]; exact hN i hi
              · have e7 : rl (sr M6 5 (upd (upd (upd (ra M 5) (1462 + t 0) (nI v)) (1471 + t 0) (nI u)) 1456 (nI (t 0 + 1)))) 7 = vp_updL (rl M 7) (92 + t 0) (gl R1 8) := by rw [q_rlr, mg_rl mgA, p13']
                unfold nms
                rw [e7, tto_0, tto_n (by omega) (by omega) (by omega), tto_n (by omega) (by omega) (by omega)]
                refine ⟨fun i hi => ?_, fun i hi => ?_, fun i hi => ?_⟩
                · show vp_updL _ _ _ i = _
                  by_cases c : i = t 0
                  · subst c; rw [pk_uLs, pk_uLs]
                  · rw [pk_uLn (by omega), pk_uLn (by omega)]; exact m1 i (by omega)
                · show vp_updL _ _ _ (9 + i) = _
                  rw [pk_uLn (by omega), pk_uLn (by omega)]; exact m2 i hi
                · show vp_updL _ _ _ (17 + i) = _
                  rw [pk_uLn (by omega), pk_uLn (by omega)]; exact m3 i hi
              · rw [tto_0, tto_n (by omega) (by omega) (by omega), tto_n (by omega) (by omega) (by omega)]
                refine ⟨fun i q1 q2 => ?_, fun i q1 q2 => ?_, fun i q1 q2 => ?_⟩
                · show vp_updL _ _ _ i = _
                  rw [pk_uLn (by omega)]; exact z1 i (by omega) q2
                · show vp_updL _ _ _ (9 + i) = _
                  rw [pk_uLn (by omega)]; exact z2 i q1 q2
                · show vp_updL _ _ _ (17 + i) = _
                  rw [pk_uLn (by omega)]; exact z3 i q1 q2
              · rw [tto_n (by omega) (by omega) (by omega)]
                intro i q1 q2
                rw [tto_n (by omega) (by omega) (by omega)]; exact hf i q1 q2
              · rw [rgA.1 12 (by omega)]; exact o2
              · rw [q_gir, mgA.1 24 (by omega), p9 24 (by omega)]; exact o3
              · refine mh_tr mhM2 (mh_tr (mg_mh mgA) (mh_5 (fun i hi => ?_)))
                rw [up_n _ _ _ (by omega), up_n _ _ _ (by omega), up_n _ _ _ (by omega), ra5]
              · have q1 := p6.2.2.1.2.2.2.2.2.2.1
                have q2 := x3.2.2.1.2.2.2.2.2.2.1
                have q3 := s3.2.2.1.2.2.2.2.2.2.1
                have q4 := y3.2.2.1.2.2.2.2.2.2.1
                omega
            · have bc := b_count2 q2 (bd_bm q3)
              have bw2 : fX12_behindWord M4 (bi (wb M4 3)) (nI 0) (nI 3) = some (nI 0, M6) := by
                simp only [fX12_behindWord, y2, bc, Option.bind_some]
              refine Or.inr (Or.inl ⟨R6, M6, ?_, ?_, q3, mh_tr mhM2 (mg_mh (mg_tr (mg_tr (mg_tr x6 s6) y6) q5))⟩)
              · simp only [cb, fX8_readTopic, h1, n9, l_0, l_1, l_2, l_3, l_4, l_5, l_6, l_7, l_8, l_9, l_10, l_11, l_12, l_13, l_14, l_15, l_16, l_17, l_18, l_19, l_20, l_21, l_22, l_23, l_24, l_25, l_30, l_31, l_32, l_40, l_48, l_54, l_57, l_59, l_60, l_61, l_62, l_63, l_65, l_66, l_72, l_82, l_92, l_93, l_94, l_97, l_99, l_100, l_101, l_102, l_103, l_104, l_105, l_107, l_108, l_109, l_110, l_111, l_112, l_114, l_115, l_116, l_117, l_119, l_121, l_122, l_136, l_200, l_255, l_300, l_364, l_900, l_1000, l_1456, l_1458, l_1459, l_1460, l_1462, l_1471, l_1504, l_1510, l_1522, l_1550, l_2971, l_9999, l_10000, l_10979, l_65536, l_m1, p1, p2, i23, p4, x1, v6, s1, y1, q1, v4, sA, sa, cl, q_giR, q_gir, i9, n_10, if_true, if_false, Option.bind_some, Option.map_some, nI_add, q_raR, q_ra, reduceIte, Nat.reduceEqDiff]
              · obtain ⟨f, f1, f2, f3⟩ := bd_bm q3
                have nle : (nI f ≤ nI 0) = False := q_leF (by omega) (by omega)
                simp only [fX12_readTopic, l_0, l_1, l_2, l_3, l_4, l_5, l_6, l_7, l_8, l_9, l_10, l_11, l_12, l_13, l_14, l_15, l_16, l_17, l_18, l_19, l_20, l_21, l_22, l_23, l_24, l_25, l_30, l_31, l_32, l_40, l_48, l_54, l_57, l_59, l_60, l_61, l_62, l_63, l_65, l_66, l_72, l_82, l_92, l_93, l_94, l_97, l_99, l_100, l_101, l_102, l_103, l_104, l_105, l_107, l_108, l_109, l_110, l_111, l_112, l_114, l_115, l_116, l_117, l_119, l_121, l_122, l_136, l_200, l_255, l_300, l_364, l_900, l_1000, l_1456, l_1458, l_1459, l_1460, l_1462, l_1471, l_1504, l_1510, l_1522, l_1550, l_2971, l_9999, l_10000, l_10979, l_65536, l_m1, p5, w_2, bw1, w_3, bw2, f3, nle, if_false, Option.bind_some]
          · have hb := bd_bm y3
            have bc := b_count hb (nI 0) (nI 3)
            have bw2 : fX12_behindWord M4 (bi (wb M4 3)) (nI 0) (nI 3) = some (nI 0, M5) := by
              simp only [fX12_behindWord, y2, bc, Option.bind_some]
            refine Or.inr (Or.inl ⟨R5, M5, ?_, ?_, y3, mh_tr mhM2 (mg_mh (mg_tr (mg_tr x6 s6) y5))⟩)
            · simp only [cb, fX8_readTopic, h1, n9, l_0, l_1, l_2, l_3, l_4, l_5, l_6, l_7, l_8, l_9, l_10, l_11, l_12, l_13, l_14, l_15, l_16, l_17, l_18, l_19, l_20, l_21, l_22, l_23, l_24, l_25, l_30, l_31, l_32, l_40, l_48, l_54, l_57, l_59, l_60, l_61, l_62, l_63, l_65, l_66, l_72, l_82, l_92, l_93, l_94, l_97, l_99, l_100, l_101, l_102, l_103, l_104, l_105, l_107, l_108, l_109, l_110, l_111, l_112, l_114, l_115, l_116, l_117, l_119, l_121, l_122, l_136, l_200, l_255, l_300, l_364, l_900, l_1000, l_1456, l_1458, l_1459, l_1460, l_1462, l_1471, l_1504, l_1510, l_1522, l_1550, l_2971, l_9999, l_10000, l_10979, l_65536, l_m1, p1, p2, i23, p4, x1, v6, s1, y1, v4, sA, sa, cl, q_giR, q_gir, i9, n_10, if_true, if_false, Option.bind_some, Option.map_some, nI_add, q_raR, q_ra, reduceIte, Nat.reduceEqDiff]
            · obtain ⟨f, f1, f2, f3⟩ := hb
              have nle : (nI f ≤ nI 0) = False := q_leF (by omega) (by omega)
              simp only [fX12_readTopic, l_0, l_1, l_2, l_3, l_4, l_5, l_6, l_7, l_8, l_9, l_10, l_11, l_12, l_13, l_14, l_15, l_16, l_17, l_18, l_19, l_20, l_21, l_22, l_23, l_24, l_25, l_30, l_31, l_32, l_40, l_48, l_54, l_57, l_59, l_60, l_61, l_62, l_63, l_65, l_66, l_72, l_82, l_92, l_93, l_94, l_97, l_99, l_100, l_101, l_102, l_103, l_104, l_105, l_107, l_108, l_109, l_110, l_111, l_112, l_114, l_115, l_116, l_117, l_119, l_121, l_122, l_136, l_200, l_255, l_300, l_364, l_900, l_1000, l_1456, l_1458, l_1459, l_1460, l_1462, l_1471, l_1504, l_1510, l_1522, l_1550, l_2971, l_9999, l_10000, l_10979, l_65536, l_m1, p5, w_2, bw1, w_3, bw2, f3, nle, if_false, Option.bind_some]
        · have bc := b_count2 q2 (bd_bm q3)
          have bw1 : fX12_behindWord M2 (bi (wb M2 2)) (nI 0) (nI 20) = some (nI 0, M4) := by
            simp only [fX12_behindWord, x2, bc, Option.bind_some]
          refine Or.inr (Or.inl ⟨R4, M4, ?_, ?_, q3, mh_tr mhM2 (mg_mh (mg_tr x6 q5))⟩)
          · simp only [cb, fX8_readTopic, h1, n9, l_0, l_1, l_2, l_3, l_4, l_5, l_6, l_7, l_8, l_9, l_10, l_11, l_12, l_13, l_14, l_15, l_16, l_17, l_18, l_19, l_20, l_21, l_22, l_23, l_24, l_25, l_30, l_31, l_32, l_40, l_48, l_54, l_57, l_59, l_60, l_61, l_62, l_63, l_65, l_66, l_72, l_82, l_92, l_93, l_94, l_97, l_99, l_100, l_101, l_102, l_103, l_104, l_105, l_107, l_108, l_109, l_110, l_111, l_112, l_114, l_115, l_116, l_117, l_119, l_121, l_122, l_136, l_200, l_255, l_300, l_364, l_900, l_1000, l_1456, l_1458, l_1459, l_1460, l_1462, l_1471, l_1504, l_1510, l_1522, l_1550, l_2971, l_9999, l_10000, l_10979, l_65536, l_m1, p1, p2, i23, p4, x1, q1, sA, sa, cl, q_giR, q_gir, i9, n_10, if_true, if_false, Option.bind_some, Option.map_some, nI_add, q_raR, q_ra, reduceIte, Nat.reduceEqDiff]
          · have hb := b_behind (bd_bm q3)
            obtain ⟨f, f1, f2, f3⟩ := bd_bm q3
            have nle : (nI f ≤ nI 0) = False := q_leF (by omega) (by omega)
            simp only [fX12_readTopic, l_0, l_1, l_2, l_3, l_4, l_5, l_6, l_7, l_8, l_9, l_10, l_11, l_12, l_13, l_14, l_15, l_16, l_17, l_18, l_19, l_20, l_21, l_22, l_23, l_24, l_25, l_30, l_31, l_32, l_40, l_48, l_54, l_57, l_59, l_60, l_61, l_62, l_63, l_65, l_66, l_72, l_82, l_92, l_93, l_94, l_97, l_99, l_100, l_101, l_102, l_103, l_104, l_105, l_107, l_108, l_109, l_110, l_111, l_112, l_114, l_115, l_116, l_117, l_119, l_121, l_122, l_136, l_200, l_255, l_300, l_364, l_900, l_1000, l_1456, l_1458, l_1459, l_1460, l_1462, l_1471, l_1504, l_1510, l_1522, l_1550, l_2971, l_9999, l_10000, l_10979, l_65536, l_m1, p5, w_2, bw1, w_3, hb, f3, nle, if_false, Option.bind_some]
      · have hb := bd_bm x3
        have bc := b_count hb (nI 0) (nI 20)
        have bw1 : fX12_behindWord M2 (bi (wb M2 2)) (nI 0) (nI 20) = some (nI 0, M3) := by
          simp only [fX12_behindWord, x2, bc, Option.bind_some]
        refine Or.inr (Or.inl ⟨R3, M3, ?_, ?_, x3, mh_tr mhM2 (mg_mh x5)⟩)
        · simp only [cb, fX8_readTopic, h1, n9, l_0, l_1, l_2, l_3, l_4, l_5, l_6, l_7, l_8, l_9, l_10, l_11, l_12, l_13, l_14, l_15, l_16, l_17, l_18, l_19, l_20, l_21, l_22, l_23, l_24, l_25, l_30, l_31, l_32, l_40, l_48, l_54, l_57, l_59, l_60, l_61, l_62, l_63, l_65, l_66, l_72, l_82, l_92, l_93, l_94, l_97, l_99, l_100, l_101, l_102, l_103, l_104, l_105, l_107, l_108, l_109, l_110, l_111, l_112, l_114, l_115, l_116, l_117, l_119, l_121, l_122, l_136, l_200, l_255, l_300, l_364, l_900, l_1000, l_1456, l_1458, l_1459, l_1460, l_1462, l_1471, l_1504, l_1510, l_1522, l_1550, l_2971, l_9999, l_10000, l_10979, l_65536, l_m1, p1, p2, i23, p4, x1, sA, sa, cl, q_giR, q_gir, i9, n_10, if_true, if_false, Option.bind_some, Option.map_some, nI_add, q_raR, q_ra, reduceIte, Nat.reduceEqDiff]
        · have hb2 := b_behind hb
          obtain ⟨f, f1, f2, f3⟩ := hb
          have nle : (nI f ≤ nI 0) = False := q_leF (by omega) (by omega)
          simp only [fX12_readTopic, l_0, l_1, l_2, l_3, l_4, l_5, l_6, l_7, l_8, l_9, l_10, l_11, l_12, l_13, l_14, l_15, l_16, l_17, l_18, l_19, l_20, l_21, l_22, l_23, l_24, l_25, l_30, l_31, l_32, l_40, l_48, l_54, l_57, l_59, l_60, l_61, l_62, l_63, l_65, l_66, l_72, l_82, l_92, l_93, l_94, l_97, l_99, l_100, l_101, l_102, l_103, l_104, l_105, l_107, l_108, l_109, l_110, l_111, l_112, l_114, l_115, l_116, l_117, l_119, l_121, l_122, l_136, l_200, l_255, l_300, l_364, l_900, l_1000, l_1456, l_1458, l_1459, l_1460, l_1462, l_1471, l_1504, l_1510, l_1522, l_1550, l_2971, l_9999, l_10000, l_10979, l_65536, l_m1, p5, w_2, bw1, w_3, hb2, f3, nle, if_false, Option.bind_some]
    · refine Or.inr (Or.inl ⟨R2, M2, ?_, b_topic p3 (bd_bm p4), p4, mg_mh p6⟩)
      simp only [cb, fX8_readTopic, h1, n9, l_0, l_1, l_2, l_3, l_4, l_5, l_6, l_7, l_8, l_9, l_10, l_11, l_12, l_13, l_14, l_15, l_16, l_17, l_18, l_19, l_20, l_21, l_22, l_23, l_24, l_25, l_30, l_31, l_32, l_40, l_48, l_54, l_57, l_59, l_60, l_61, l_62, l_63, l_65, l_66, l_72, l_82, l_92, l_93, l_94, l_97, l_99, l_100, l_101, l_102, l_103, l_104, l_105, l_107, l_108, l_109, l_110, l_111, l_112, l_114, l_115, l_116, l_117, l_119, l_121, l_122, l_136, l_200, l_255, l_300, l_364, l_900, l_1000, l_1456, l_1458, l_1459, l_1460, l_1462, l_1471, l_1504, l_1510, l_1522, l_1550, l_2971, l_9999, l_10000, l_10979, l_65536, l_m1, p1, p2, if_true, if_false, Option.bind_some, Option.map_some]
end Q80
