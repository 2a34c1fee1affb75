/-! evenings: the rest of a step -/
def cM (M : ms_T) : Nat → Int32 := fun i => ra M 5 (1456 + i)
theorem cM_0 (M : ms_T) (s : Nat) : cM M (94 + 9 * s) = ra M 5 (1550 + 9 * s) := by
  show ra M 5 (1456 + (94 + 9 * s)) = _
  rw [show 1456 + (94 + 9 * s) = 1550 + 9 * s by omega]
theorem cM_j (M : ms_T) (s j : Nat) : cM M (94 + 9 * s + j) = ra M 5 (1550 + 9 * s + j) := by
  show ra M 5 (1456 + (94 + 9 * s + j)) = _
  rw [show 1456 + (94 + 9 * s + j) = 1550 + 9 * s + j by omega]
section Q89
variable {R B M T E : ms_T} {g t : Nat → Nat} {n a e k wn p s nc nt x y : Nat}
theorem mk_13 (h0 : ra M 5 (1550 + 9 * s) = nI 0) (h1 : ra M 5 (1550 + 9 * s + 1) = nI x) (h2 : ra M 5 (1550 + 9 * s + 2) = nI y) (e1 : ra E 1 p = nI 13) (e2 : ra E 2 p = nI x) (e3 : ra E 3 p = nI y) (hx : x < nt) (hy : y < nc) : ev_S E (cM M) nc nt p s := by
  left
  rw [cM_0, cM_j, cM_j, h0, h1, h2]
  exact ⟨rfl, e1, e2, e3, ⟨x, hx, rfl⟩, ⟨y, hy, rfl⟩⟩
theorem mk_14 (h0 : ra M 5 (1550 + 9 * s) = nI 1) (h1 : ra M 5 (1550 + 9 * s + 1) = nI x) (h2 : ra M 5 (1550 + 9 * s + 2) = nI y) (e1 : ra E 1 p = nI 14) (e2 : ra E 2 p = nI x) (e3 : ra E 3 p = nI y) (hx : x < nt) (hy : y < 10) : ev_S E (cM M) nc nt p s := by
  right; left
  rw [cM_0, cM_j, cM_j, h0, h1, h2]
  exact ⟨rfl, e1, e2, e3, ⟨x, hx, rfl⟩, ⟨y, hy, rfl⟩⟩
theorem mk_15 (h0 : ra M 5 (1550 + 9 * s) = nI 2) (h1 : ra M 5 (1550 + 9 * s + 1) = nI x) (e1 : ra E 1 p = nI 15) (e2 : ra E 2 p = nI x) (hx : x < nt) : ev_S E (cM M) nc nt p s := by
  right; right; left
  rw [cM_0, cM_j, h0, h1]
  exact ⟨rfl, e1, e2, ⟨x, hx, rfl⟩⟩
theorem mk_16 (h0 : ra M 5 (1550 + 9 * s) = nI 3) (h1 : ra M 5 (1550 + 9 * s + 1) = nI x) (e1 : ra E 1 p = nI 16) (e2 : ra E 2 p = nI x) (hx : x < nc) : ev_S E (cM M) nc nt p s := by
  right; right; right; left
  rw [cM_0, cM_j, h0, h1]
  exact ⟨rfl, e1, e2, ⟨x, hx, rfl⟩⟩
theorem mk_17 (h0 : ra M 5 (1550 + 9 * s) = nI 4) (h1 : ra M 5 (1550 + 9 * s + 1) = nI x) (e1 : ra E 1 p = nI 17) (e2 : ra E 2 p = nI x) (hx : x < nc) : ev_S E (cM M) nc nt p s := by
  right; right; right; right; left
  rw [cM_0, cM_j, h0, h1]
  exact ⟨rfl, e1, e2, ⟨x, hx, rfl⟩⟩
theorem mk_18 (h0 : ra M 5 (1550 + 9 * s) = nI 5) (e1 : ra E 1 p = nI 18) : ev_S E (cM M) nc nt p s := by
  right; right; right; right; right; left
  rw [cM_0, h0]
  exact ⟨rfl, e1⟩
theorem mk_25 (h0 : ra M 5 (1550 + 9 * s) = nI 8) (e1 : ra E 1 p = nI 25) : ev_S E (cM M) nc nt p s := by
  right; right; right; right; right; right
  rw [cM_0, h0]
  exact ⟨rfl, e1⟩
theorem mk_23 (h0 : ra M 5 (1550 + 9 * s) = nI 7) (h1 : ra M 5 (1550 + 9 * s + 1) = nI x) (e1 : ra E 1 p = nI 23) (e3 : ra E 3 p = nI x) (hx : 1 ≤ x) (hx2 : x < 100) : ev_L E (cM M) p s := by
  unfold ev_L
  rw [cM_0, cM_j, h0, h1]
  exact ⟨rfl, e1, e3, x, hx, hx2, rfl⟩
/-- what the rest of a step may change -/
def mq (w : Nat) (M M' : ms_T) : Prop := (∀ j, j < 12 ∨ 18 < j → gi M' j = gi M j) ∧ (∀ j, j ≠ 19 → gl M' j = gl M j) ∧ (∀ k, k ≠ 5 → ra M' k = ra M k) ∧ (∀ i, i ≤ w → ra M' 5 i = ra M 5 i) ∧ ∀ k, rl M' k = rl M k
theorem mq_id (w : Nat) (M : ms_T) : mq w M M := ⟨fun _ _ => rfl, fun _ _ => rfl, fun _ _ => rfl, fun _ _ => rfl, fun _ => rfl⟩
theorem mq_tr {w : Nat} {A B C : ms_T} (h : mq w A B) (k : mq w B C) : mq w A C := ⟨fun j hj => (k.1 j hj).trans (h.1 j hj), fun j hj => (k.2.1 j hj).trans (h.2.1 j hj), fun j hj => (k.2.2.1 j hj).trans (h.2.2.1 j hj), fun j hj => (k.2.2.2.1 j hj).trans (h.2.2.2.1 j hj), fun j => (k.2.2.2.2 j).trans (h.2.2.2.2 j)⟩
theorem mg_mq {w : Nat} {M M' : ms_T} (h : mg M M') : mq w M M' := ⟨fun j hj => h.1 j hj, h.2.1, fun k _ => mg_ra h k, fun i _ => by rw [mg_ra h], fun k => mg_rl h k⟩
theorem mq_5 {w q : Nat} {M : ms_T} {v : Int32} (h : w < q) : mq w M (sr M 5 (upd (ra M 5) q v)) := ⟨fun _ _ => rfl, fun _ _ => rfl, fun k hk => by rw [q_ra, if_neg hk], fun i hi => by rw [q_ra, if_pos rfl, up_n _ _ _ (by omega)], fun _ => rfl⟩
theorem et_mq {w : Nat} {M' : ms_T} (h : et T M t) (m : mq w M M') (hw : 92 ≤ w) : et T M' t := by
  obtain ⟨w', hC, hN, ⟨m1, m2, m3⟩⟩ := h
  exact ⟨w', hC, fun i hi => by rw [m.2.2.2.1 i (by omega)]; exact hN i hi, ⟨fun i hi => by rw [m.2.2.2.2]; exact m1 i hi, fun i hi => by rw [m.2.2.2.2]; exact m2 i hi, fun i hi => by rw [m.2.2.2.2]; exact m3 i hi⟩⟩
/-- only what stands at p has changed -/
def ep (p : Nat) (E E' : ms_T) : Prop := (∀ j, gi E' j = gi E j) ∧ ∀ k j, j ≠ p → ra E' k j = ra E k j
theorem ep_id (E : ms_T) : ep p E E := ⟨fun _ => rfl, fun _ _ _ => rfl⟩
theorem ep_tr {A B C : ms_T} (h : ep p A B) (k : ep p B C) : ep p A C := ⟨fun j => (k.1 j).trans (h.1 j), fun i j hj => (k.2 i j hj).trans (h.2 i j hj)⟩
theorem ep_sr {c : Nat} {v : Int32} : ep p E (sr E c (upd (ra E c) p v)) := by
  refine ⟨fun _ => rfl, fun k j hj => ?_⟩
  rw [q_ra]
  split
  · next q => rw [q, up_n _ _ _ hj]
  · rfl
/-- the test of a when, at its word -/
theorem test_body (h : rd B R M g n a e k wn) (ht : et T M t) (hp : gi E 2 = nI p) (hp6 : p < 60) (hs : s < 30) (hk : ra M 5 (1550 + 9 * s) = nI 6) (hE : ra E 1 p = nI 19) :
    (∃ R' E' M' a' e' k' wn', fX2_readTest R B T E = some (nI 1, R', E') ∧ fX12_readTest M (nI (1550 + 9 * s)) = some M' ∧ rd B R' M' g n a' e' k' wn' ∧ e ≤ a' ∧ rg R R' ∧ mq (1550 + 9 * s) M M' ∧ ep p E E' ∧ ev_H E' (cM M') (t 1) (t 2) p s) ∨
    (∃ R' M', cb (fX2_readTest R B T E) R' ∧ fX12_readTest M (nI (1550 + 9 * s)) = some M' ∧ bd R' M' ∧ rg R R' ∧ mq (1550 + 9 * s) M M') := by
  have e4 := h.2.2.2.2.2.2.2.1
  have hw := h.2.2.2.1
  have e3 := h.2.2.2.2.1
  have tw := M_testWord h.2.2.2.2.2.1 hw
  have x20 := wnI_eq (wn := wn) (j := 20) hw (by omega)
  have x21 := wnI_eq (wn := wn) (j := 21) hw (by omega)
  have x22 := wnI_eq (wn := wn) (j := 22) hw (by omega)
  have ip : inb (nI p) 60 = true := q_inT hp6 (by omega)
  have cp : (nI p).toNatClampNeg = p := nI_clamp (by omega)
  have j5 : inb (nI (1550 + 9 * s + 5)) 1820 = true := q_inT (by omega) (by omega)
  have j1 : inb (nI (1550 + 9 * s + 1)) 1820 = true := q_inT (by omega) (by omega)
  have j7 : inb (nI (1550 + 9 * s + 7)) 1820 = true := q_inT (by omega) (by omega)
  have j6 : inb (nI (1550 + 9 * s + 6)) 1820 = true := q_inT (by omega) (by omega)
  have c5 : (nI (1550 + 9 * s + 5)).toNatClampNeg = 1550 + 9 * s + 5 := nI_clamp (by omega)
  have c1 : (nI (1550 + 9 * s + 1)).toNatClampNeg = 1550 + 9 * s + 1 := nI_clamp (by omega)
  have c7 : (nI (1550 + 9 * s + 7)).toNatClampNeg = 1550 + 9 * s + 7 := nI_clamp (by omega)
  have c6 : (nI (1550 + 9 * s + 6)).toNatClampNeg = 1550 + 9 * s + 6 := nI_clamp (by omega)
  have lt00 : (nI 0 < nI 0) = False := q_ltF (by omega) (by omega)
  have z11 : (nI 1 &&& nI 1 = nI 1) = True := q_z1
  by_cases d20 : wn = 20
  · subst d20
    obtain ⟨R1, M1, a1, e1, k1, wn1, p1, p2, p3, p4, p5, p6⟩ := rd_adv h
    have m1 := k_must1 e4
    rw [p2] at m1
    have tw' : fX12_testWord M = some (nI 0) := tw
    have aa := p3.2.2.1.2.2.2.2.2.2.1
    have w20 : wnI 20 = nI 20 := rfl
    rw [w20] at e3
    rcases here_claim (E := sr E 4 (upd (ra E 4) p (nI 20))) (rd_sr5 (f := upd (ra M1 5) (1550 + 9 * s + 5) (nI 0)) p3) (et_mq ht (mq_tr (mg_mq p6) (mq_5 (w := 1550 + 9 * s) (by omega))) (by omega)) hp hp6 with ⟨x, R2, M2, a2, e2, k2, wn2, y0, y1, y2, y3, y4, y5, y6, y7⟩ | ⟨R2, M2, y1, y2, y3, y4, y5, y6⟩
    · have ra2 : ra M2 5 = upd (ra M1 5) (1550 + 9 * s + 5) (nI 0) := by rw [mg_ra y7]; rfl
      have m12 := y4.2.2.2.2.2.2.2.1
      refine Or.inl ⟨R2, sr (sr E 4 (upd (ra E 4) p (nI 20))) 2 (upd (ra E 2) p (nI x)), sr M2 5 (upd (ra M2 5) (1550 + 9 * s + 1) (nI x)), a2, e2, k2, wn2, ?_, ?_, y4, by omega, rg_tr p5 y6, ?_, ep_tr ep_sr (ep_sr (E := sr E 4 (upd (ra E 4) p (nI 20))) (c := 2)), ?_⟩
      · simp only [fX2_readTest, fX2_readTest_29, e3, l_0, l_1, l_2, l_3, l_4, l_5, l_6, l_7, l_8, l_9, l_10, l_11, l_12, l_13, l_14, l_15, l_16, l_17, l_18, l_19, l_20, l_21, l_22, l_23, l_24, l_25, l_30, l_31, l_32, l_40, l_48, l_54, l_57, l_59, l_60, l_61, l_62, l_63, l_65, l_66, l_72, l_82, l_92, l_93, l_94, l_97, l_99, l_100, l_101, l_102, l_103, l_104, l_105, l_107, l_108, l_109, l_110, l_111, l_112, l_114, l_115, l_116, l_117, l_119, l_121, l_122, l_136, l_200, l_255, l_300, l_364, l_900, l_1000, l_1456, l_1458, l_1459, l_1460, l_1462, l_1471, l_1504, l_1510, l_1522, l_1550, l_2971, l_9999, l_10000, l_10979, l_65536, l_m1, hp, ip, cp, sa, v_adv, p1, y1, z11, if_true, Option.bind_some]
        rfl
      · have l2 : (nI 2 ≤ nI 0) = False := q_leF (by omega) (by omega)
        simp only [fX12_readTest, fX12_readTest_15, fX12_readTest_45, tw', l_0, l_1, l_2, l_3, l_4, l_5, l_6, l_7, l_8, l_9, l_10, l_11, l_12, l_13, l_14, l_15, l_16, l_17, l_18, l_19, l_20, l_21, l_22, l_23, l_24, l_25, l_30, l_31, l_32, l_40, l_48, l_54, l_57, l_59, l_60, l_61, l_62, l_63, l_65, l_66, l_72, l_82, l_92, l_93, l_94, l_97, l_99, l_100, l_101, l_102, l_103, l_104, l_105, l_107, l_108, l_109, l_110, l_111, l_112, l_114, l_115, l_116, l_117, l_119, l_121, l_122, l_136, l_200, l_255, l_300, l_364, l_900, l_1000, l_1456, l_1458, l_1459, l_1460, l_1462, l_1471, l_1504, l_1510, l_1522, l_1550, l_2971, l_9999, l_10000, l_10979, l_65536, l_m1, lt00, m1, nI_add, j5, c5, sa, y3, j1, c1, q_gir, m12, l2, if_true, if_false, Option.bind_some]
      · refine mq_tr (mq_tr (mg_mq p6) (mq_5 (w := 1550 + 9 * s) (q := 1550 + 9 * s + 5) (v := nI 0) (by omega))) (mq_tr (mg_mq y7) (mq_5 (by omega)))
      · unfold ev_H
        rw [cM_0, cM_j, cM_j]
        have v0 : ra (sr M2 5 (upd (ra M2 5) (1550 + 9 * s + 1) (nI x))) 5 (1550 + 9 * s) = nI 6 := by
          rw [q_ra, if_pos rfl, up_n _ _ _ (by omega), ra2, up_n _ _ _ (by omega), mg_ra p6]; exact hk
        have v1 : ra (sr M2 5 (upd (ra M2 5) (1550 + 9 * s + 1) (nI x))) 5 (1550 + 9 * s + 1) = nI x := by
          rw [q_ra, if_pos rfl, up_e _ _ _ rfl]
        have v5 : ra (sr M2 5 (upd (ra M2 5) (1550 + 9 * s + 1) (nI x))) 5 (1550 + 9 * s + 5) = nI 0 := by
          rw [q_ra, if_pos rfl, up_n _ _ _ (by omega), ra2, up_e _ _ _ rfl]
        rw [v0, v1, v5]
        exact ⟨rfl, hE, up_e _ _ _ rfl, Or.inl ⟨rfl, up_e _ _ _ rfl, x, y0, rfl⟩⟩
    · have hb := bd_bm y4
      refine Or.inr ⟨R2, sr M2 5 (upd (ra M2 5) (1550 + 9 * s + 1) (nI 0)), ?_, ?_, y4, rg_tr p5 y5, ?_⟩
      · have z00 : (nI 0 &&& nI 1 = nI 0) = True := q_z0
        simp only [cb, fX2_readTest, fX2_readTest_29, e3, l_0, l_1, l_2, l_3, l_4, l_5, l_6, l_7, l_8, l_9, l_10, l_11, l_12, l_13, l_14, l_15, l_16, l_17, l_18, l_19, l_20, l_21, l_22, l_23, l_24, l_25, l_30, l_31, l_32, l_40, l_48, l_54, l_57, l_59, l_60, l_61, l_62, l_63, l_65, l_66, l_72, l_82, l_92, l_93, l_94, l_97, l_99, l_100, l_101, l_102, l_103, l_104, l_105, l_107, l_108, l_109, l_110, l_111, l_112, l_114, l_115, l_116, l_117, l_119, l_121, l_122, l_136, l_200, l_255, l_300, l_364, l_900, l_1000, l_1456, l_1458, l_1459, l_1460, l_1462, l_1471, l_1504, l_1510, l_1522, l_1550, l_2971, l_9999, l_10000, l_10979, l_65536, l_m1, hp, ip, cp, sa, v_adv, p1, y1, z00, if_true, Option.bind_some, Option.map_some]
      · obtain ⟨f, f1, f2, f3⟩ := hb
        have lf : (nI 0 < nI f) = True := q_ltT (by omega) (by omega)
        simp only [fX12_readTest, fX12_readTest_15, fX12_readTest_45, tw', l_0, l_1, l_2, l_3, l_4, l_5, l_6, l_7, l_8, l_9, l_10, l_11, l_12, l_13, l_14, l_15, l_16, l_17, l_18, l_19, l_20, l_21, l_22, l_23, l_24, l_25, l_30, l_31, l_32, l_40, l_48, l_54, l_57, l_59, l_60, l_61, l_62, l_63, l_65, l_66, l_72, l_82, l_92, l_93, l_94, l_97, l_99, l_100, l_101, l_102, l_103, l_104, l_105, l_107, l_108, l_109, l_110, l_111, l_112, l_114, l_115, l_116, l_117, l_119, l_121, l_122, l_136, l_200, l_255, l_300, l_364, l_900, l_1000, l_1456, l_1458, l_1459, l_1460, l_1462, l_1471, l_1504, l_1510, l_1522, l_1550, l_2971, l_9999, l_10000, l_10979, l_65536, l_m1, lt00, m1, nI_add, j5, c5, sa, y3, j1, c1, q_gir, f3, lf, if_true, if_false, Option.bind_some]
      · refine mq_tr (mq_tr (mg_mq p6) (mq_5 (w := 1550 + 9 * s) (q := 1550 + 9 * s + 5) (v := nI 0) (by omega))) (mq_tr (mg_mq y6) (mq_5 (by omega)))
  · have hfin : ∀ (M1 : ms_T), mg M M1 → mq (1550 + 9 * s) M (sr M1 5 (upd (ra M1 5) (1550 + 9 * s + 5) (nI 1))) ∧ mq (1550 + 9 * s) M (sr M1 5 (upd (ra M1 5) (1550 + 9 * s + 5) (nI 2))) := fun M1 q => ⟨mq_tr (mg_mq q) (mq_5 (by omega)), mq_tr (mg_mq q) (mq_5 (by omega))⟩
    have n20 : (nI 21 = nI 20) = False := q_eqF (by omega) (by omega) (by omega)
    have n2220 : (nI 22 = nI 20) = False := q_eqF (by omega) (by omega) (by omega)
    have n2221 : (nI 22 = nI 21) = False := q_eqF (by omega) (by omega) (by omega)
    have z00 : (nI 0 &&& nI 1 = nI 0) = True := q_z0
    by_cases d21 : wn = 21
    · subst d21
      obtain ⟨R1, M1, a1, e1, k1, wn1, p1, p2, p3, p4, p5, p6⟩ := rd_adv h
      have m1 := k_must1 e4
      rw [p2] at m1
      have tw' : fX12_testWord M = some (nI 1) := tw
      have lt10 : (nI 1 < nI 0) = False := q_ltF (by omega) (by omega)
      have aa := p3.2.2.1.2.2.2.2.2.2.1
      have w20 : wnI 21 = nI 21 := rfl
      rw [w20] at e3
      rcases here_talker (E := sr E 4 (upd (ra E 4) p (nI 21))) (rd_sr5 (f := upd (ra M1 5) (1550 + 9 * s + 5) (nI 1)) p3) (et_mq ht (hfin M1 p6).1 (by omega)) hp hp6 with ⟨x, R2, M2, a2, e2, k2, wn2, y0, y1, y3, y4, y5, y6, y7⟩ | ⟨R2, M2, y1, y3, y4, y5, y6⟩
      · have ra2 : ra M2 5 = upd (ra M1 5) (1550 + 9 * s + 5) (nI 1) := by rw [mg_ra y7]; rfl
        have m12 := y4.2.2.2.2.2.2.2.1
        refine Or.inl ⟨R2, sr (sr E 4 (upd (ra E 4) p (nI 21))) 2 (upd (ra E 2) p (nI x)), sr M2 5 (upd (ra M2 5) (1550 + 9 * s + 1) (nI x)), a2, e2, k2, wn2, ?_, ?_, y4, by omega, rg_tr p5 y6, ?_, ep_tr ep_sr (ep_sr (E := sr E 4 (upd (ra E 4) p (nI 21))) (c := 2)), ?_⟩
        · simp only [fX2_readTest, fX2_readTest_29, e3, l_0, l_1, l_2, l_3, l_4, l_5, l_6, l_7, l_8, l_9, l_10, l_11, l_12, l_13, l_14, l_15, l_16, l_17, l_18, l_19, l_20, l_21, l_22, l_23, l_24, l_25, l_30, l_31, l_32, l_40, l_48, l_54, l_57, l_59, l_60, l_61, l_62, l_63, l_65, l_66, l_72, l_82, l_92, l_93, l_94, l_97, l_99, l_100, l_101, l_102, l_103, l_104, l_105, l_107, l_108, l_109, l_110, l_111, l_112, l_114, l_115, l_116, l_117, l_119, l_121, l_122, l_136, l_200, l_255, l_300, l_364, l_900, l_1000, l_1456, l_1458, l_1459, l_1460, l_1462, l_1471, l_1504, l_1510, l_1522, l_1550, l_2971, l_9999, l_10000, l_10979, l_65536, l_m1, n20, hp, ip, cp, sa, v_adv, p1, y1, n_10, if_true, if_false, Option.bind_some]
          rfl
        · have l2 : (nI 2 ≤ nI 1) = False := q_leF (by omega) (by omega)
          simp only [fX12_readTest, fX12_readTest_15, fX12_readTest_45, tw', l_0, l_1, l_2, l_3, l_4, l_5, l_6, l_7, l_8, l_9, l_10, l_11, l_12, l_13, l_14, l_15, l_16, l_17, l_18, l_19, l_20, l_21, l_22, l_23, l_24, l_25, l_30, l_31, l_32, l_40, l_48, l_54, l_57, l_59, l_60, l_61, l_62, l_63, l_65, l_66, l_72, l_82, l_92, l_93, l_94, l_97, l_99, l_100, l_101, l_102, l_103, l_104, l_105, l_107, l_108, l_109, l_110, l_111, l_112, l_114, l_115, l_116, l_117, l_119, l_121, l_122, l_136, l_200, l_255, l_300, l_364, l_900, l_1000, l_1456, l_1458, l_1459, l_1460, l_1462, l_1471, l_1504, l_1510, l_1522, l_1550, l_2971, l_9999, l_10000, l_10979, l_65536, l_m1, lt10, n_10, m1, nI_add, j5, c5, sa, y3, j1, c1, q_gir, m12, lt00, l2, if_true, if_false, Option.bind_some]
        · exact mq_tr (hfin M1 p6).1 (mq_tr (mg_mq y7) (mq_5 (by omega)))
        · unfold ev_H
          rw [cM_0, cM_j, cM_j]
          have v0 : ra (sr M2 5 (upd (ra M2 5) (1550 + 9 * s + 1) (nI x))) 5 (1550 + 9 * s) = nI 6 := by
            rw [q_ra, if_pos rfl, up_n _ _ _ (by omega), ra2, up_n _ _ _ (by omega), mg_ra p6]; exact hk
          have v1 : ra (sr M2 5 (upd (ra M2 5) (1550 + 9 * s + 1) (nI x))) 5 (1550 + 9 * s + 1) = nI x := by
            rw [q_ra, if_pos rfl, up_e _ _ _ rfl]
          have v5 : ra (sr M2 5 (upd (ra M2 5) (1550 + 9 * s + 1) (nI x))) 5 (1550 + 9 * s + 5) = nI 1 := by
            rw [q_ra, if_pos rfl, up_n _ _ _ (by omega), ra2, up_e _ _ _ rfl]
          rw [v0, v1, v5]
          exact ⟨rfl, hE, up_e _ _ _ rfl, Or.inr (Or.inl ⟨rfl, up_e _ _ _ rfl, x, y0, rfl⟩)⟩
      · have hb := bd_bm y4
        refine Or.inr ⟨R2, sr M2 5 (upd (ra M2 5) (1550 + 9 * s + 1) (nI 0)), ?_, ?_, y4, rg_tr p5 y5, mq_tr (hfin M1 p6).1 (mq_tr (mg_mq y6) (mq_5 (by omega)))⟩
        · simp only [cb, fX2_readTest, fX2_readTest_29, e3, l_0, l_1, l_2, l_3, l_4, l_5, l_6, l_7, l_8, l_9, l_10, l_11, l_12, l_13, l_14, l_15, l_16, l_17, l_18, l_19, l_20, l_21, l_22, l_23, l_24, l_25, l_30, l_31, l_32, l_40, l_48, l_54, l_57, l_59, l_60, l_61, l_62, l_63, l_65, l_66, l_72, l_82, l_92, l_93, l_94, l_97, l_99, l_100, l_101, l_102, l_103, l_104, l_105, l_107, l_108, l_109, l_110, l_111, l_112, l_114, l_115, l_116, l_117, l_119, l_121, l_122, l_136, l_200, l_255, l_300, l_364, l_900, l_1000, l_1456, l_1458, l_1459, l_1460, l_1462, l_1471, l_1504, l_1510, l_1522, l_1550, l_2971, l_9999, l_10000, l_10979, l_65536, l_m1, n20, hp, ip, cp, sa, v_adv, p1, y1, if_true, if_false, Option.bind_some, Option.map_some]
        · obtain ⟨f, f1, f2, f3⟩ := hb
          have lf : (nI 0 < nI f) = True := q_ltT (by omega) (by omega)
          simp only [fX12_readTest, fX12_readTest_15, fX12_readTest_45, tw', l_0, l_1, l_2, l_3, l_4, l_5, l_6, l_7, l_8, l_9, l_10, l_11, l_12, l_13, l_14, l_15, l_16, l_17, l_18, l_19, l_20, l_21, l_22, l_23, l_24, l_25, l_30, l_31, l_32, l_40, l_48, l_54, l_57, l_59, l_60, l_61, l_62, l_63, l_65, l_66, l_72, l_82, l_92, l_93, l_94, l_97, l_99, l_100, l_101, l_102, l_103, l_104, l_105, l_107, l_108, l_109, l_110, l_111, l_112, l_114, l_115, l_116, l_117, l_119, l_121, l_122, l_136, l_200, l_255, l_300, l_364, l_900, l_1000, l_1456, l_1458, l_1459, l_1460, l_1462, l_1471, l_1504, l_1510, l_1522, l_1550, l_2971, l_9999, l_10000, l_10979, l_65536, l_m1, lt10, n_10, m1, nI_add, j5, c5, sa, y3, j1, c1, q_gir, f3, lf, if_true, if_false, Option.bind_some]
    · by_cases d22 : wn = 22
      · subst d22
        obtain ⟨R1, M1, a1, e1, k1, wn1, p1, p2, p3, p4, p5, p6⟩ := rd_adv h
        have m1 := k_must1 e4
        rw [p2] at m1
        have tw' : fX12_testWord M = some (nI 2) := tw
        have lt20 : (nI 2 < nI 0) = False := q_ltF (by omega) (by omega)
        have n200 : (nI 2 = nI 0) = False := q_eqF (by omega) (by omega) (by omega)
        have l22 : (nI 2 ≤ nI 2) = True := q_leT (by omega) (by omega)
        have aa := p3.2.2.1.2.2.2.2.2.2.1
        have w20 : wnI 22 = nI 22 := rfl
        rw [w20] at e3
        rcases here_talker (E := sr E 4 (upd (ra E 4) p (nI 22))) (rd_sr5 (f := upd (ra M1 5) (1550 + 9 * s + 5) (nI 2)) p3) (et_mq ht (hfin M1 p6).2 (by omega)) hp hp6 with ⟨x, R2, M2, a2, e2, k2, wn2, y0, y1, y3, y4, y5, y6, y7⟩ | ⟨R2, M2, y1, y3, y4, y5, y6⟩
        · have ra2 : ra M2 5 = upd (ra M1 5) (1550 + 9 * s + 5) (nI 2) := by rw [mg_ra y7]; rfl
          have m12 := y4.2.2.2.2.2.2.2.1
          obtain ⟨t1, t2, t3, t4, t5, t6, t7, t8, t9, t10, t11, t12⟩ := y4.2.2.1
          have k4 : k2 ≤ 4 := by rcases t12 with q | q | q | q | q <;> omega
          -- the reference up to the sign, and the class
          have upM : ∀ v : Int32, (if nI k2 = nI 3 then gi M2 17 else nI 0) = v → fX12_readTest M (nI (1550 + 9 * s)) = fX12_readTest_86 (sr M2 5 (upd (ra M2 5) (1550 + 9 * s + 1) (nI x))) (nI (1550 + 9 * s)) v (nI (1550 + 9 * s + 7)) := by
            intro v hv
            simp only [fX12_readTest, fX12_readTest_15, fX12_readTest_45, tw', l_0, l_1, l_2, l_3, l_4, l_5, l_6, l_7, l_8, l_9, l_10, l_11, l_12, l_13, l_14, l_15, l_16, l_17, l_18, l_19, l_20, l_21, l_22, l_23, l_24, l_25, l_30, l_31, l_32, l_40, l_48, l_54, l_57, l_59, l_60, l_61, l_62, l_63, l_65, l_66, l_72, l_82, l_92, l_93, l_94, l_97, l_99, l_100, l_101, l_102, l_103, l_104, l_105, l_107, l_108, l_109, l_110, l_111, l_112, l_114, l_115, l_116, l_117, l_119, l_121, l_122, l_136, l_200, l_255, l_300, l_364, l_900, l_1000, l_1456, l_1458, l_1459, l_1460, l_1462, l_1471, l_1504, l_1510, l_1522, l_1550, l_2971, l_9999, l_10000, l_10979, l_65536, l_m1, lt20, n200, m1, nI_add, j5, c5, sa, y3, j1, c1, q_gir, m12, lt00, l22, t10, if_true, if_false, Option.bind_some]
            by_cases q : nI k2 = nI 3
            · rw [if_pos q] at hv ⊢; rw [← hv]
            · rw [if_neg q] at hv ⊢; rw [← hv]
          have mqA : mq (1550 + 9 * s) M (sr M2 5 (upd (ra M2 5) (1550 + 9 * s + 1) (nI x))) := mq_tr (hfin M1 p6).2 (mq_tr (mg_mq y7) (mq_5 (by omega)))
          by_cases k3 : k2 = 3
          · subst k3
            obtain ⟨v, v0, v1, v2, v3⟩ : ∃ v, 59 ≤ v ∧ v ≤ 62 ∧ gi R2 6 = nI v ∧ gi M2 17 = nI v := by
              rcases t12 with ⟨q, _⟩ | ⟨q, _⟩ | ⟨q, _⟩ | ⟨_, _, q⟩ | ⟨q, _⟩
              · omega
              · omega
              · omega
              · exact q
              · omega
            have uM := upM (nI v) (by rw [if_pos rfl]; exact v3)
            have rd3 : rd B R2 (sr (sr M2 5 (upd (ra M2 5) (1550 + 9 * s + 1) (nI x))) 5 (upd (upd (ra M2 5) (1550 + 9 * s + 1) (nI x)) (1550 + 9 * s + 7) (nI v))) g n a2 e2 3 wn2 := y4
            have mqB : mq (1550 + 9 * s) M (sr (sr M2 5 (upd (ra M2 5) (1550 + 9 * s + 1) (nI x))) 5 (upd (upd (ra M2 5) (1550 + 9 * s + 1) (nI x)) (1550 + 9 * s + 7) (nI v))) := mq_tr mqA (mq_5 (M := sr M2 5 (upd (ra M2 5) (1550 + 9 * s + 1) (nI x))) (by omega))
            by_cases d59 : v = 59
            · subst d59
              obtain ⟨R3, M3, q1, q2, q3, q4, q5⟩ := rd_amiss rd3
              have k0 := k_must0 (M := sr (sr M2 5 (upd (ra M2 5) (1550 + 9 * s + 1) (nI x))) 5 (upd (upd (ra M2 5) (1550 + 9 * s + 1) (nI x)) (1550 + 9 * s + 7) (nI 59))) m12
              rw [q2] at k0
              have bc := b_count (bd_bm q3) (nI 0) (nI 9)
              have s60 : (nI 59 = nI 60) = False := q_eqF (by omega) (by omega) (by omega)
              have s62 : (nI 59 = nI 62) = False := q_eqF (by omega) (by omega) (by omega)
              have s61 : (nI 59 = nI 61) = False := q_eqF (by omega) (by omega) (by omega)
              refine Or.inr ⟨R3, sr M3 5 (upd (ra M3 5) (1550 + 9 * s + 6) (nI 0)), ?_, ?_, q3, rg_tr (rg_tr p5 y6) q4, mq_tr mqB (mq_tr (mg_mq q5) (mq_5 (by omega)))⟩
              · simp only [cb, fX2_readTest, fX2_readTest_29, fX2_readTest_101, e3, l_0, l_1, l_2, l_3, l_4, l_5, l_6, l_7, l_8, l_9, l_10, l_11, l_12, l_13, l_14, l_15, l_16, l_17, l_18, l_19, l_20, l_21, l_22, l_23, l_24, l_25, l_30, l_31, l_32, l_40, l_48, l_54, l_57, l_59, l_60, l_61, l_62, l_63, l_65, l_66, l_72, l_82, l_92, l_93, l_94, l_97, l_99, l_100, l_101, l_102, l_103, l_104, l_105, l_107, l_108, l_109, l_110, l_111, l_112, l_114, l_115, l_116, l_117, l_119, l_121, l_122, l_136, l_200, l_255, l_300, l_364, l_900, l_1000, l_1456, l_1458, l_1459, l_1460, l_1462, l_1471, l_1504, l_1510, l_1522, l_1550, l_2971, l_9999, l_10000, l_10979, l_65536, l_m1, n2220, n2221, hp, ip, cp, sa, v_adv, v_ref, p1, y1, n_10, t9, v2, q1, z00, if_true, if_false, Option.bind_some, Option.map_some]
              · rw [uM]
                simp only [fX12_readTest_86, fX12_readTest_120, fX12_isSign, l_0, l_1, l_2, l_3, l_4, l_5, l_6, l_7, l_8, l_9, l_10, l_11, l_12, l_13, l_14, l_15, l_16, l_17, l_18, l_19, l_20, l_21, l_22, l_23, l_24, l_25, l_30, l_31, l_32, l_40, l_48, l_54, l_57, l_59, l_60, l_61, l_62, l_63, l_65, l_66, l_72, l_82, l_92, l_93, l_94, l_97, l_99, l_100, l_101, l_102, l_103, l_104, l_105, l_107, l_108, l_109, l_110, l_111, l_112, l_114, l_115, l_116, l_117, l_119, l_121, l_122, l_136, l_200, l_255, l_300, l_364, l_900, l_1000, l_1456, l_1458, l_1459, l_1460, l_1462, l_1471, l_1504, l_1510, l_1522, l_1550, l_2971, l_9999, l_10000, l_10979, l_65536, l_m1, j7, c7, sa, q_gir, q_ra, t10, v3, s60, s62, s61, k0, bc, nI_add, j6, c6, if_true, if_false, Option.bind_some]
            · obtain ⟨R3, M3, a3, e3', k3, wn3, q1, q2, q3, q4, q5, q6⟩ := rd_adv rd3
              have k0 := k_must1 (M := sr (sr M2 5 (upd (ra M2 5) (1550 + 9 * s + 1) (nI x))) 5 (upd (upd (ra M2 5) (1550 + 9 * s + 1) (nI x)) (1550 + 9 * s + 7) (nI v))) m12
              rw [q2] at k0
              have nv : (nI v = nI 59) = False := q_eqF d59 (by omega) (by omega)
              have ab := q3.2.2.1.2.2.2.2.2.2.1
              have sg : ∀ D, fX12_readTest_120 (sr (sr M2 5 (upd (ra M2 5) (1550 + 9 * s + 1) (nI x))) 5 (upd (upd (ra M2 5) (1550 + 9 * s + 1) (nI x)) (1550 + 9 * s + 7) (nI v))) (nI (1550 + 9 * s)) (nI 1) = D → fX12_readTest M (nI (1550 + 9 * s)) = D := by
                intro D hD
                rw [uM]
                have s60 : (nI 62 = nI 60) = False := q_eqF (by omega) (by omega) (by omega)
                have s61 : (nI 61 = nI 60) = False := q_eqF (by omega) (by omega) (by omega)
                have s62 : (nI 61 = nI 62) = False := q_eqF (by omega) (by omega) (by omega)
                rcases (by omega : v = 60 ∨ v = 61 ∨ v = 62) with rfl | rfl | rfl
                · simp only [fX12_readTest_86, fX12_isSign, l_0, l_1, l_2, l_3, l_4, l_5, l_6, l_7, l_8, l_9, l_10, l_11, l_12, l_13, l_14, l_15, l_16, l_17, l_18, l_19, l_20, l_21, l_22, l_23, l_24, l_25, l_30, l_31, l_32, l_40, l_48, l_54, l_57, l_59, l_60, l_61, l_62, l_63, l_65, l_66, l_72, l_82, l_92, l_93, l_94, l_97, l_99, l_100, l_101, l_102, l_103, l_104, l_105, l_107, l_108, l_109, l_110, l_111, l_112, l_114, l_115, l_116, l_117, l_119, l_121, l_122, l_136, l_200, l_255, l_300, l_364, l_900, l_1000, l_1456, l_1458, l_1459, l_1460, l_1462, l_1471, l_1504, l_1510, l_1522, l_1550, l_2971, l_9999, l_10000, l_10979, l_65536, l_m1, j7, c7, sa, q_gir, q_ra, t10, v3, n_10, if_true, if_false, Option.bind_some]
                  exact hD
                · simp only [fX12_readTest_86, fX12_isSign, l_0, l_1, l_2, l_3, l_4, l_5, l_6, l_7, l_8, l_9, l_10, l_11, l_12, l_13, l_14, l_15, l_16, l_17, l_18, l_19, l_20, l_21, l_22, l_23, l_24, l_25, l_30, l_31, l_32, l_40, l_48, l_54, l_57, l_59, l_60, l_61, l_62, l_63, l_65, l_66, l_72, l_82, l_92, l_93, l_94, l_97, l_99, l_100, l_101, l_102, l_103, l_104, l_105, l_107, l_108, l_109, l_110, l_111, l_112, l_114, l_115, l_116, l_117, l_119, l_121, l_122, l_136, l_200, l_255, l_300, l_364, l_900, l_1000, l_1456, l_1458, l_1459, l_1460, l_1462, l_1471, l_1504, l_1510, l_1522, l_1550, l_2971, l_9999, l_10000, l_10979, l_65536, l_m1, j7, c7, sa, q_gir, q_ra, t10, v3, s61, s62, n_10, if_true, if_false, Option.bind_some]
                  exact hD
                · simp only [fX12_readTest_86, fX12_isSign, l_0, l_1, l_2, l_3, l_4, l_5, l_6, l_7, l_8, l_9, l_10, l_11, l_12, l_13, l_14, l_15, l_16, l_17, l_18, l_19, l_20, l_21, l_22, l_23, l_24, l_25, l_30, l_31, l_32, l_40, l_48, l_54, l_57, l_59, l_60, l_61, l_62, l_63, l_65, l_66, l_72, l_82, l_92, l_93, l_94, l_97, l_99, l_100, l_101, l_102, l_103, l_104, l_105, l_107, l_108, l_109, l_110, l_111, l_112, l_114, l_115, l_116, l_117, l_119, l_121, l_122, l_136, l_200, l_255, l_300, l_364, l_900, l_1000, l_1456, l_1458, l_1459, l_1460, l_1462, l_1471, l_1504, l_1510, l_1522, l_1550, l_2971, l_9999, l_10000, l_10979, l_65536, l_m1, j7, c7, sa, q_gir, q_ra, t10, v3, s60, n_10, if_true, if_false, Option.bind_some]
                  exact hD
              rcases here_num (E := sr (sr (sr E 4 (upd (ra E 4) p (nI 22))) 2 (upd (ra E 2) p (nI x))) 4 (upd (upd (ra E 4) p (nI 22)) p (nI v))) q3 (lo := 0) (hi := 9) (by omega) (by omega) hp hp6 with ⟨u, R4, M4, a4, e4', k4', wn4, u0, u1, u2, u3, u4, u5, u6, u7⟩ | ⟨R4, M4, u2, u3, u4, u5, u6⟩
              · have ra4 : ra M4 5 = upd (upd (ra M2 5) (1550 + 9 * s + 1) (nI x)) (1550 + 9 * s + 7) (nI v) := by rw [mg_ra u7, mg_ra q6]; rfl
                refine Or.inl ⟨R4, sr (sr (sr (sr E 4 (upd (ra E 4) p (nI 22))) 2 (upd (ra E 2) p (nI x))) 4 (upd (upd (ra E 4) p (nI 22)) p (nI v))) 3 (upd (ra E 3) p (nI u)), sr M4 5 (upd (ra M4 5) (1550 + 9 * s + 6) (nI u)), a4, e4', k4', wn4, ?_, ?_, u4, by omega, rg_tr (rg_tr (rg_tr p5 y6) q5) u6, ?_, ?_, ?_⟩
                · simp only [fX2_readTest, fX2_readTest_29, e3, l_0, l_1, l_2, l_3, l_4, l_5, l_6, l_7, l_8, l_9, l_10, l_11, l_12, l_13, l_14, l_15, l_16, l_17, l_18, l_19, l_20, l_21, l_22, l_23, l_24, l_25, l_30, l_31, l_32, l_40, l_48, l_54, l_57, l_59, l_60, l_61, l_62, l_63, l_65, l_66, l_72, l_82, l_92, l_93, l_94, l_97, l_99, l_100, l_101, l_102, l_103, l_104, l_105, l_107, l_108, l_109, l_110, l_111, l_112, l_114, l_115, l_116, l_117, l_119, l_121, l_122, l_136, l_200, l_255, l_300, l_364, l_900, l_1000, l_1456, l_1458, l_1459, l_1460, l_1462, l_1471, l_1504, l_1510, l_1522, l_1550, l_2971, l_9999, l_10000, l_10979, l_65536, l_m1, n2220, n2221, hp, ip, cp, sa, v_adv, p1, y1, n_10, t9, v2, nv, q_gir, q1, q_ra, reduceIte, Nat.reduceEqDiff, u2, z11, if_true, if_false, Option.bind_some]
                · refine sg _ ?_
                  simp only [fX12_readTest_120, l_0, l_1, l_2, l_3, l_4, l_5, l_6, l_7, l_8, l_9, l_10, l_11, l_12, l_13, l_14, l_15, l_16, l_17, l_18, l_19, l_20, l_21, l_22, l_23, l_24, l_25, l_30, l_31, l_32, l_40, l_48, l_54, l_57, l_59, l_60, l_61, l_62, l_63, l_65, l_66, l_72, l_82, l_92, l_93, l_94, l_97, l_99, l_100, l_101, l_102, l_103, l_104, l_105, l_107, l_108, l_109, l_110, l_111, l_112, l_114, l_115, l_116, l_117, l_119, l_121, l_122, l_136, l_200, l_255, l_300, l_364, l_900, l_1000, l_1456, l_1458, l_1459, l_1460, l_1462, l_1471, l_1504, l_1510, l_1522, l_1550, l_2971, l_9999, l_10000, l_10979, l_65536, l_m1, k0, u3, nI_add, j6, c6, sa, if_true, Option.bind_some]
                · exact mq_tr mqB (mq_tr (mg_mq (mg_tr q6 u7)) (mq_5 (by omega)))
                · exact ep_tr (ep_tr (ep_tr ep_sr (ep_sr (E := sr E 4 (upd (ra E 4) p (nI 22))) (c := 2))) (ep_sr (E := sr (sr E 4 (upd (ra E 4) p (nI 22))) 2 (upd (ra E 2) p (nI x))) (c := 4))) (ep_sr (E := sr (sr (sr E 4 (upd (ra E 4) p (nI 22))) 2 (upd (ra E 2) p (nI x))) 4 (upd (upd (ra E 4) p (nI 22)) p (nI v))) (c := 3))
                · unfold ev_H
                  rw [cM_0, cM_j, cM_j, cM_j, cM_j]
                  have b0 : ra (sr M4 5 (upd (ra M4 5) (1550 + 9 * s + 6) (nI u))) 5 (1550 + 9 * s) = nI 6 := by
                    rw [q_ra, if_pos rfl, up_n _ _ _ (by omega), ra4, up_n _ _ _ (by omega), up_n _ _ _ (by omega), ra2, up_n _ _ _ (by omega), mg_ra p6]; exact hk
                  have b1 : ra (sr M4 5 (upd (ra M4 5) (1550 + 9 * s + 6) (nI u))) 5 (1550 + 9 * s + 1) = nI x := by
                    rw [q_ra, if_pos rfl, up_n _ _ _ (by omega), ra4, up_n _ _ _ (by omega), up_e _ _ _ rfl]
                  have b5 : ra (sr M4 5 (upd (ra M4 5) (1550 + 9 * s + 6) (nI u))) 5 (1550 + 9 * s + 5) = nI 2 := by
                    rw [q_ra, if_pos rfl, up_n _ _ _ (by omega), ra4, up_n _ _ _ (by omega), up_n _ _ _ (by omega), ra2, up_e _ _ _ rfl]
                  have b6 : ra (sr M4 5 (upd (ra M4 5) (1550 + 9 * s + 6) (nI u))) 5 (1550 + 9 * s + 6) = nI u := by
                    rw [q_ra, if_pos rfl, up_e _ _ _ rfl]
                  have b7 : ra (sr M4 5 (upd (ra M4 5) (1550 + 9 * s + 6) (nI u))) 5 (1550 + 9 * s + 7) = nI v := by
                    rw [q_ra, if_pos rfl, up_n _ _ _ (by omega), ra4, up_e _ _ _ rfl]
                  rw [b0, b1, b5, b6, b7]
                  refine ⟨rfl, hE, up_e _ _ _ rfl, Or.inr (Or.inr ⟨rfl, up_e _ _ _ rfl, ?_, up_e _ _ _ rfl, ⟨x, y0, rfl⟩, ⟨u, by omega, rfl⟩⟩)⟩
                  rcases (by omega : v = 60 ∨ v = 61 ∨ v = 62) with rfl | rfl | rfl
                  · exact Or.inl rfl
                  · exact Or.inr (Or.inl rfl)
                  · exact Or.inr (Or.inr rfl)
              · refine Or.inr ⟨R4, sr M4 5 (upd (ra M4 5) (1550 + 9 * s + 6) (nI 0)), ?_, ?_, u4, rg_tr (rg_tr (rg_tr p5 y6) q5) u5, mq_tr mqB (mq_tr (mg_mq (mg_tr q6 u6)) (mq_5 (by omega)))⟩
                · simp only [cb, fX2_readTest, fX2_readTest_29, e3, l_0, l_1, l_2, l_3, l_4, l_5, l_6, l_7, l_8, l_9, l_10, l_11, l_12, l_13, l_14, l_15, l_16, l_17, l_18, l_19, l_20, l_21, l_22, l_23, l_24, l_25, l_30, l_31, l_32, l_40, l_48, l_54, l_57, l_59, l_60, l_61, l_62, l_63, l_65, l_66, l_72, l_82, l_92, l_93, l_94, l_97, l_99, l_100, l_101, l_102, l_103, l_104, l_105, l_107, l_108, l_109, l_110, l_111, l_112, l_114, l_115, l_116, l_117, l_119, l_121, l_122, l_136, l_200, l_255, l_300, l_364, l_900, l_1000, l_1456, l_1458, l_1459, l_1460, l_1462, l_1471, l_1504, l_1510, l_1522, l_1550, l_2971, l_9999, l_10000, l_10979, l_65536, l_m1, n2220, n2221, hp, ip, cp, sa, v_adv, p1, y1, n_10, t9, v2, nv, q_gir, q1, q_ra, reduceIte, Nat.reduceEqDiff, u2, z00, if_true, if_false, Option.bind_some, Option.map_some]
                · refine sg _ ?_
                  simp only [fX12_readTest_120, l_0, l_1, l_2, l_3, l_4, l_5, l_6, l_7, l_8, l_9, l_10, l_11, l_12, l_13, l_14, l_15, l_16, l_17, l_18, l_19, l_20, l_21, l_22, l_23, l_24, l_25, l_30, l_31, l_32, l_40, l_48, l_54, l_57, l_59, l_60, l_61, l_62, l_63, l_65, l_66, l_72, l_82, l_92, l_93, l_94, l_97, l_99, l_100, l_101, l_102, l_103, l_104, l_105, l_107, l_108, l_109, l_110, l_111, l_112, l_114, l_115, l_116, l_117, l_119, l_121, l_122, l_136, l_200, l_255, l_300, l_364, l_900, l_1000, l_1456, l_1458, l_1459, l_1460, l_1462, l_1471, l_1504, l_1510, l_1522, l_1550, l_2971, l_9999, l_10000, l_10979, l_65536, l_m1, k0, u3, nI_add, j6, c6, sa, if_true, Option.bind_some]
          · have nk3 : (nI k2 = nI 3) = False := q_eqF k3 (by omega) (by omega)
            have uM := upM (nI 0) (by rw [if_neg (by rw [nk3]; exact id)])
            have rd3 : rd B R2 (sr (sr M2 5 (upd (ra M2 5) (1550 + 9 * s + 1) (nI x))) 5 (upd (upd (ra M2 5) (1550 + 9 * s + 1) (nI x)) (1550 + 9 * s + 7) (nI 0))) g n a2 e2 k2 wn2 := y4
            obtain ⟨R3, M3, q1, q2, q3, q4, q5⟩ := rd_amiss rd3
            have k0 := k_must0 (M := sr (sr M2 5 (upd (ra M2 5) (1550 + 9 * s + 1) (nI x))) 5 (upd (upd (ra M2 5) (1550 + 9 * s + 1) (nI x)) (1550 + 9 * s + 7) (nI 0))) m12
            rw [q2] at k0
            have bc := b_count (bd_bm q3) (nI 0) (nI 9)
            refine Or.inr ⟨R3, sr M3 5 (upd (ra M3 5) (1550 + 9 * s + 6) (nI 0)), ?_, ?_, q3, rg_tr (rg_tr p5 y6) q4, mq_tr mqA (mq_tr (mq_5 (M := sr M2 5 (upd (ra M2 5) (1550 + 9 * s + 1) (nI x))) (q := 1550 + 9 * s + 7) (v := nI 0) (by omega)) (mq_tr (mg_mq q5) (mq_5 (by omega))))⟩
            · simp only [cb, fX2_readTest, fX2_readTest_29, fX2_readTest_101, e3, l_0, l_1, l_2, l_3, l_4, l_5, l_6, l_7, l_8, l_9, l_10, l_11, l_12, l_13, l_14, l_15, l_16, l_17, l_18, l_19, l_20, l_21, l_22, l_23, l_24, l_25, l_30, l_31, l_32, l_40, l_48, l_54, l_57, l_59, l_60, l_61, l_62, l_63, l_65, l_66, l_72, l_82, l_92, l_93, l_94, l_97, l_99, l_100, l_101, l_102, l_103, l_104, l_105, l_107, l_108, l_109, l_110, l_111, l_112, l_114, l_115, l_116, l_117, l_119, l_121, l_122, l_136, l_200, l_255, l_300, l_364, l_900, l_1000, l_1456, l_1458, l_1459, l_1460, l_1462, l_1471, l_1504, l_1510, l_1522, l_1550, l_2971, l_9999, l_10000, l_10979, l_65536, l_m1, n2220, n2221, hp, ip, cp, sa, v_adv, v_ref, p1, y1, n_10, t9, nk3, q1, z00, if_true, if_false, Option.bind_some, Option.map_some]
            · rw [uM]
              simp only [fX12_readTest_86, fX12_readTest_120, fX12_isSign, l_0, l_1, l_2, l_3, l_4, l_5, l_6, l_7, l_8, l_9, l_10, l_11, l_12, l_13, l_14, l_15, l_16, l_17, l_18, l_19, l_20, l_21, l_22, l_23, l_24, l_25, l_30, l_31, l_32, l_40, l_48, l_54, l_57, l_59, l_60, l_61, l_62, l_63, l_65, l_66, l_72, l_82, l_92, l_93, l_94, l_97, l_99, l_100, l_101, l_102, l_103, l_104, l_105, l_107, l_108, l_109, l_110, l_111, l_112, l_114, l_115, l_116, l_117, l_119, l_121, l_122, l_136, l_200, l_255, l_300, l_364, l_900, l_1000, l_1456, l_1458, l_1459, l_1460, l_1462, l_1471, l_1504, l_1510, l_1522, l_1550, l_2971, l_9999, l_10000, l_10979, l_65536, l_m1, j7, c7, sa, q_gir, q_ra, t10, nk3, k0, bc, nI_add, j6, c6, if_true, if_false, Option.bind_some]
        · have hb := bd_bm y4
          refine Or.inr ⟨R2, sr M2 5 (upd (ra M2 5) (1550 + 9 * s + 1) (nI 0)), ?_, ?_, y4, rg_tr p5 y5, mq_tr (hfin M1 p6).2 (mq_tr (mg_mq y6) (mq_5 (by omega)))⟩
          · simp only [cb, fX2_readTest, fX2_readTest_29, e3, l_0, l_1, l_2, l_3, l_4, l_5, l_6, l_7, l_8, l_9, l_10, l_11, l_12, l_13, l_14, l_15, l_16, l_17, l_18, l_19, l_20, l_21, l_22, l_23, l_24, l_25, l_30, l_31, l_32, l_40, l_48, l_54, l_57, l_59, l_60, l_61, l_62, l_63, l_65, l_66, l_72, l_82, l_92, l_93, l_94, l_97, l_99, l_100, l_101, l_102, l_103, l_104, l_105, l_107, l_108, l_109, l_110, l_111, l_112, l_114, l_115, l_116, l_117, l_119, l_121, l_122, l_136, l_200, l_255, l_300, l_364, l_900, l_1000, l_1456, l_1458, l_1459, l_1460, l_1462, l_1471, l_1504, l_1510, l_1522, l_1550, l_2971, l_9999, l_10000, l_10979, l_65536, l_m1, n2220, n2221, hp, ip, cp, sa, v_adv, p1, y1, if_true, if_false, Option.bind_some, Option.map_some]
          · obtain ⟨f, f1, f2, f3⟩ := hb
            have lf : (nI 0 < nI f) = True := q_ltT (by omega) (by omega)
            simp only [fX12_readTest, fX12_readTest_15, fX12_readTest_45, tw', l_0, l_1, l_2, l_3, l_4, l_5, l_6, l_7, l_8, l_9, l_10, l_11, l_12, l_13, l_14, l_15, l_16, l_17, l_18, l_19, l_20, l_21, l_22, l_23, l_24, l_25, l_30, l_31, l_32, l_40, l_48, l_54, l_57, l_59, l_60, l_61, l_62, l_63, l_65, l_66, l_72, l_82, l_92, l_93, l_94, l_97, l_99, l_100, l_101, l_102, l_103, l_104, l_105, l_107, l_108, l_109, l_110, l_111, l_112, l_114, l_115, l_116, l_117, l_119, l_121, l_122, l_136, l_200, l_255, l_300, l_364, l_900, l_1000, l_1456, l_1458, l_1459, l_1460, l_1462, l_1471, l_1504, l_1510, l_1522, l_1550, l_2971, l_9999, l_10000, l_10979, l_65536, l_m1, lt20, n200, m1, nI_add, j5, c5, sa, y3, j1, c1, q_gir, f3, lf, if_true, if_false, Option.bind_some]
      · obtain ⟨R', M', q1, q2, q3, q4, q5⟩ := rd_amiss h
        have hb := bd_bm q3
        have k0 := k_must0 e4
        rw [q2] at k0
        have tw' : fX12_testWord M = some nM := by
          rw [tw]
          have : tsw wn = 3 := by unfold tsw; rw [if_neg (by omega)]
          rw [this, if_pos rfl]
        have lm : (nM < nI 0) = True := eq_true (by decide)
        have nm0 : (nM = nI 0) = False := q_mne (by omega)
        have hb2 : bm (sr M' 5 (upd (ra M' 5) (1550 + 9 * s + 5) nM)) := hb
        have br := b_readTold hb2 (nI 0) (nI 2)
        refine Or.inr ⟨R', sr (sr M' 5 (upd (ra M' 5) (1550 + 9 * s + 5) nM)) 5 (upd (upd (ra M' 5) (1550 + 9 * s + 5) nM) (1550 + 9 * s + 1) (nI 0)), ?_, ?_, q3, q4, mq_tr (mg_mq q5) (mq_tr (mq_5 (q := 1550 + 9 * s + 5) (v := nM) (by omega)) (mq_5 (M := sr M' 5 (upd (ra M' 5) (1550 + 9 * s + 5) nM)) (by omega)))⟩
        · simp only [cb, fX2_readTest, e3, x20, x21, x22, d20, d21, d22, l_0, l_1, l_2, l_3, l_4, l_5, l_6, l_7, l_8, l_9, l_10, l_11, l_12, l_13, l_14, l_15, l_16, l_17, l_18, l_19, l_20, l_21, l_22, l_23, l_24, l_25, l_30, l_31, l_32, l_40, l_48, l_54, l_57, l_59, l_60, l_61, l_62, l_63, l_65, l_66, l_72, l_82, l_92, l_93, l_94, l_97, l_99, l_100, l_101, l_102, l_103, l_104, l_105, l_107, l_108, l_109, l_110, l_111, l_112, l_114, l_115, l_116, l_117, l_119, l_121, l_122, l_136, l_200, l_255, l_300, l_364, l_900, l_1000, l_1456, l_1458, l_1459, l_1460, l_1462, l_1471, l_1504, l_1510, l_1522, l_1550, l_2971, l_9999, l_10000, l_10979, l_65536, l_m1, v_ref, q1, z00, if_true, if_false, Option.bind_some, Option.map_some]
        · obtain ⟨f, f1, f2, f3⟩ := hb
          have lf : (nI 0 < nI f) = True := q_ltT (by omega) (by omega)
          simp only [fX12_readTest, fX12_readTest_15, fX12_readTest_45, tw', l_0, l_1, l_2, l_3, l_4, l_5, l_6, l_7, l_8, l_9, l_10, l_11, l_12, l_13, l_14, l_15, l_16, l_17, l_18, l_19, l_20, l_21, l_22, l_23, l_24, l_25, l_30, l_31, l_32, l_40, l_48, l_54, l_57, l_59, l_60, l_61, l_62, l_63, l_65, l_66, l_72, l_82, l_92, l_93, l_94, l_97, l_99, l_100, l_101, l_102, l_103, l_104, l_105, l_107, l_108, l_109, l_110, l_111, l_112, l_114, l_115, l_116, l_117, l_119, l_121, l_122, l_136, l_200, l_255, l_300, l_364, l_900, l_1000, l_1456, l_1458, l_1459, l_1460, l_1462, l_1471, l_1504, l_1510, l_1522, l_1550, l_2971, l_9999, l_10000, l_10979, l_65536, l_m1, lm, nm0, k0, nI_add, j5, c5, sa, br, j1, c1, q_gir, q_ra, f3, lf, if_true, if_false, Option.bind_some]
end Q89
