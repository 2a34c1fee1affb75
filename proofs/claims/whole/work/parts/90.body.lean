/-! evenings: a step's head and rest -/
section Q90
variable {R B M T E : ms_T} {g t : Nat → Nat} {n a e k wn p s : Nat}
/-- how a step's head and rest go -/
def sb (B R M E : ms_T) (t g : Nat → Nat) (n e p s wn : Nat) (C : Option (Int32 × ms_T × ms_T)) (D : Option ms_T) : Prop :=
  (∃ R' E' M' a' e' k' wn', C = some (nI 1, R', si (si E' 1 (gi E' 1 + nI 1)) 2 (nI (p + 1))) ∧ D = some M' ∧ rd B R' M' g n a' e' k' wn' ∧ e ≤ a' ∧ rg R R' ∧ mz s M M' ∧ gi M' 25 = nI (s + 1) ∧ ep p E E' ∧ ((wn ≠ 19 ∧ wn ≠ 23 ∧ ev_S E' (cM M') (t 1) (t 2) p s) ∨ (wn = 23 ∧ ev_L E' (cM M') p s) ∨ (wn = 19 ∧ ev_H E' (cM M') (t 1) (t 2) p s))) ∨
  (∃ R' M', cb C R' ∧ D = some M' ∧ bd R' M' ∧ mz s M M')
theorem step_body (h : rd B R M g n a e k wn) (ht : et T M t) (hp : gi E 2 = nI p) (hp6 : p < 60) (hs : s < 30) (hm : gi M 25 = nI s) (hkd : stw wn ≠ 9) :
    sb B R M E t g n e p s wn (fX2_readStep_129 B T R E) ((fX12_advance (si M 25 (nI (s + 1)))).bind fun z2 => fX12_readRest (sa z2 5 (nI (1550 + 9 * s)) (nI (stw wn))) (nI (1550 + 9 * s))) := by
  have hw := h.2.2.2.1
  have e3 := h.2.2.2.2.1
  obtain ⟨R1, M1, a1, e1, k1, wn1, p1, p2, p3, p4, p5, p6⟩ := rd_adv (rd_si25 (x := nI (s + 1)) h)
  have ip : inb (nI p) 60 = true := q_inT hp6 (by omega)
  have cp : (nI p).toNatClampNeg = p := nI_clamp (by omega)
  have j0 : inb (nI (1550 + 9 * s)) 1820 = true := q_inT (by omega) (by omega)
  have j1 : inb (nI (1550 + 9 * s + 1)) 1820 = true := q_inT (by omega) (by omega)
  have j2 : inb (nI (1550 + 9 * s + 2)) 1820 = true := q_inT (by omega) (by omega)
  have c0 : (nI (1550 + 9 * s)).toNatClampNeg = 1550 + 9 * s := nI_clamp (by omega)
  have c1 : (nI (1550 + 9 * s + 1)).toNatClampNeg = 1550 + 9 * s + 1 := nI_clamp (by omega)
  have c2 : (nI (1550 + 9 * s + 2)).toNatClampNeg = 1550 + 9 * s + 2 := nI_clamp (by omega)
  have aa := p3.2.2.1.2.2.2.2.2.2.1
  have z11 : (nI 1 &&& nI 1 = nI 1) = True := q_z1
  have z00 : (nI 0 &&& nI 1 = nI 0) = True := q_z0
  have m25 : gi M1 25 = nI (s + 1) := by rw [p6.1 25 (by omega)]; rfl
  -- the state in which the rest is read
  have hD : ∀ kd : Nat, (fX12_advance (si M 25 (nI (s + 1)))).bind (fun z2 => fX12_readRest (sa z2 5 (nI (1550 + 9 * s)) (nI kd)) (nI (1550 + 9 * s))) = fX12_readRest (sr M1 5 (upd (ra M1 5) (1550 + 9 * s) (nI kd))) (nI (1550 + 9 * s)) := by
    intro kd
    rw [p2, Option.bind_some]
    simp only [sa, c0]
  have mzA : ∀ kd : Nat, mz s M (sr M1 5 (upd (ra M1 5) (1550 + 9 * s) (nI kd))) := fun kd => mz_tr (mz_25 (x := nI (s + 1))) (mz_tr (mg_mz p6) (mz_5 (by omega)))
  have mqz : ∀ {kd : Nat} {M' : ms_T}, mq (1550 + 9 * s) (sr M1 5 (upd (ra M1 5) (1550 + 9 * s) (nI kd))) M' → mz s M M' := fun {kd} {M'} q => mz_tr (mzA kd) ⟨fun j hj => q.1 j hj.1, q.2.1, q.2.2.1, fun i hi => q.2.2.2.1 i (by omega), q.2.2.2.2⟩
  have etA : ∀ kd : Nat, et T (sr M1 5 (upd (ra M1 5) (1550 + 9 * s) (nI kd))) t := fun kd => et_mz ht (mzA kd)
  have rdA : ∀ kd : Nat, rd B R1 (sr M1 5 (upd (ra M1 5) (1550 + 9 * s) (nI kd))) g n a1 e1 k1 wn1 := fun kd => p3
  have k0 : ∀ kd : Nat, ra (sr M1 5 (upd (ra M1 5) (1550 + 9 * s) (nI kd))) 5 (1550 + 9 * s) = nI kd := fun kd => by rw [q_ra, if_pos rfl, up_e _ _ _ rfl]
  have g25 : ∀ {kd : Nat} {M' : ms_T}, mq (1550 + 9 * s) (sr M1 5 (upd (ra M1 5) (1550 + 9 * s) (nI kd))) M' → gi M' 25 = nI (s + 1) := fun {kd} {M'} q => by rw [q.1 25 (by omega)]; exact m25
  have e1p : ∀ act : Nat, ra (sr E 1 (upd (ra E 1) p (nI act))) 1 p = nI act := fun act => by rw [q_ra, if_pos rfl, up_e _ _ _ rfl]
  -- how it all ends
  have good : ∀ (kd act : Nat) (R' E' M' : ms_T) (a' e' k' wn' : Nat), stw wn = kd → fX2_readStep_129 B T R E = fX2_readStep_327 B T R' E' (nI 1) → fX12_readRest (sr M1 5 (upd (ra M1 5) (1550 + 9 * s) (nI kd))) (nI (1550 + 9 * s)) = some M' → rd B R' M' g n a' e' k' wn' → e1 ≤ a' ∨ a' = a1 → rg R1 R' → mq (1550 + 9 * s) (sr M1 5 (upd (ra M1 5) (1550 + 9 * s) (nI kd))) M' → ep p (sr E 1 (upd (ra E 1) p (nI act))) E' → ((wn ≠ 19 ∧ wn ≠ 23 ∧ ev_S E' (cM M') (t 1) (t 2) p s) ∨ (wn = 23 ∧ ev_L E' (cM M') p s) ∨ (wn = 19 ∧ ev_H E' (cM M') (t 1) (t 2) p s)) → sb B R M E t g n e p s wn (fX2_readStep_129 B T R E) ((fX12_advance (si M 25 (nI (s + 1)))).bind fun z2 => fX12_readRest (sa z2 5 (nI (1550 + 9 * s)) (nI (stw wn))) (nI (1550 + 9 * s))) := by
    intro kd act R' E' M' a' e' k' wn' hk hC hDD hr haa hrg hmq hep hev
    refine Or.inl ⟨R', E', M', a', e', k', wn', ?_, by rw [hk, hD]; exact hDD, hr, by omega, rg_tr p5 hrg, mqz hmq, g25 hmq, ep_tr ep_sr hep, hev⟩
    have hp' : gi E' 2 = nI p := by rw [hep.1 2]; exact hp
    rw [hC]
    simp only [fX2_readStep_327, l_0, l_1, l_2, l_3, l_4, l_5, l_6, l_7, l_8, l_9, l_10, l_11, l_12, l_13, l_14, l_15, l_16, l_17, l_18, l_19, l_20, l_21, l_22, l_23, l_24, l_25, l_30, l_31, l_32, l_40, l_48, l_54, l_57, l_59, l_60, l_61, l_62, l_63, l_65, l_66, l_72, l_82, l_92, l_93, l_94, l_97, l_99, l_100, l_101, l_102, l_103, l_104, l_105, l_107, l_108, l_109, l_110, l_111, l_112, l_114, l_115, l_116, l_117, l_119, l_121, l_122, l_136, l_200, l_255, l_300, l_364, l_900, l_1000, l_1456, l_1458, l_1459, l_1460, l_1462, l_1471, l_1504, l_1510, l_1522, l_1550, l_2971, l_9999, l_10000, l_10979, l_65536, l_m1, z11, q_gi, hp', nI_add, if_true, reduceIte, Nat.reduceEqDiff]
  have badd : ∀ (kd : Nat) (R' E' M' : ms_T), stw wn = kd → fX2_readStep_129 B T R E = fX2_readStep_327 B T R' E' (nI 0) → fX12_readRest (sr M1 5 (upd (ra M1 5) (1550 + 9 * s) (nI kd))) (nI (1550 + 9 * s)) = some M' → bd R' M' → mq (1550 + 9 * s) (sr M1 5 (upd (ra M1 5) (1550 + 9 * s) (nI kd))) M' → sb B R M E t g n e p s wn (fX2_readStep_129 B T R E) ((fX12_advance (si M 25 (nI (s + 1)))).bind fun z2 => fX12_readRest (sa z2 5 (nI (1550 + 9 * s)) (nI (stw wn))) (nI (1550 + 9 * s))) := by
    intro kd R' E' M' hk hC hDD hb hmq
    refine Or.inr ⟨R', M', ?_, by rw [hk, hD]; exact hDD, hb, mqz hmq⟩
    rw [hC]
    simp only [cb, fX2_readStep_327, l_0, l_1, l_2, l_3, l_4, l_5, l_6, l_7, l_8, l_9, l_10, l_11, l_12, l_13, l_14, l_15, l_16, l_17, l_18, l_19, l_20, l_21, l_22, l_23, l_24, l_25, l_30, l_31, l_32, l_40, l_48, l_54, l_57, l_59, l_60, l_61, l_62, l_63, l_65, l_66, l_72, l_82, l_92, l_93, l_94, l_97, l_99, l_100, l_101, l_102, l_103, l_104, l_105, l_107, l_108, l_109, l_110, l_111, l_112, l_114, l_115, l_116, l_117, l_119, l_121, l_122, l_136, l_200, l_255, l_300, l_364, l_900, l_1000, l_1456, l_1458, l_1459, l_1460, l_1462, l_1471, l_1504, l_1510, l_1522, l_1550, l_2971, l_9999, l_10000, l_10979, l_65536, l_m1, z00, if_true, Option.map_some]
  have n1413 : (nI 14 = nI 13) = False := q_eqF (by omega) (by omega) (by omega)
  have wcase : wn = 13 ∨ wn = 14 ∨ wn = 15 ∨ wn = 16 ∨ wn = 17 ∨ wn = 18 ∨ wn = 19 ∨ wn = 23 ∨ wn = 25 := by
    unfold stw at hkd
    split at hkd
    · omega
    · split at hkd
      · omega
      · split at hkd
        · omega
        · omega
  rcases wcase with rfl | rfl | rfl | rfl | rfl | rfl | rfl | rfl | rfl
  · -- say
    have w' : gi R 7 = nI 13 := e3
    have l30 : (nI 3 ≤ nI 0) = False := q_leF (by omega) (by omega)
    rcases here_talker (E := sr E 1 (upd (ra E 1) p (nI 13))) (rdA 0) (etA 0) hp hp6 with ⟨x, R2, M2, a2, e2, k2, wn2, y0, y1, y3, y4, y5, y6, y7⟩ | ⟨R2, M2, y1, y3, y4, y5, y6⟩
    · have rd2 : rd B R2 (sr M2 5 (upd (ra M2 5) (1550 + 9 * s + 1) (nI x))) g n a2 e2 k2 wn2 := y4
      have mq2 : mq (1550 + 9 * s) (sr M1 5 (upd (ra M1 5) (1550 + 9 * s) (nI 0))) (sr M2 5 (upd (ra M2 5) (1550 + 9 * s + 1) (nI x))) := mq_tr (mg_mq y7) (mq_5 (by omega))
      have ab := y4.2.2.1.2.2.2.2.2.2.1
      rcases here_claim (E := sr (sr E 1 (upd (ra E 1) p (nI 13))) 2 (upd (ra E 2) p (nI x))) rd2 (et_mq (etA 0) mq2 (by omega)) hp hp6 with ⟨y, R3, M3, a3, e3', k3, wn3, u0, u1, u2, u3, u4, u5, u6, u7⟩ | ⟨R3, M3, u1, u2, u3, u4, u5, u6⟩
      · have ra3 : ra M3 5 = upd (ra M2 5) (1550 + 9 * s + 1) (nI x) := by rw [mg_ra u7]; rfl
        have ra2 : ra M2 5 = upd (ra M1 5) (1550 + 9 * s) (nI 0) := by rw [mg_ra y7]; rfl
        refine good 0 13 R3 (sr (sr (sr E 1 (upd (ra E 1) p (nI 13))) 2 (upd (ra E 2) p (nI x))) 3 (upd (ra E 3) p (nI y))) (sr M3 5 (upd (ra M3 5) (1550 + 9 * s + 2) (nI y))) a3 e3' k3 wn3 rfl ?_ ?_ u4 (Or.inl (by omega)) (rg_tr y6 u6) (mq_tr mq2 (mq_tr (mg_mq u7) (mq_5 (by omega)))) (ep_tr (ep_sr (E := sr E 1 (upd (ra E 1) p (nI 13))) (c := 2)) (ep_sr (E := sr (sr E 1 (upd (ra E 1) p (nI 13))) 2 (upd (ra E 2) p (nI x))) (c := 3))) (Or.inl ⟨by omega, by omega, mk_13 (x := x) (y := y) ?_ ?_ ?_ ?_ ?_ ?_ y0 u0⟩)
        · simp only [fX2_readStep_129, hp, ip, cp, sa, v_adv, p1, w', l_0, l_1, l_2, l_3, l_4, l_5, l_6, l_7, l_8, l_9, l_10, l_11, l_12, l_13, l_14, l_15, l_16, l_17, l_18, l_19, l_20, l_21, l_22, l_23, l_24, l_25, l_30, l_31, l_32, l_40, l_48, l_54, l_57, l_59, l_60, l_61, l_62, l_63, l_65, l_66, l_72, l_82, l_92, l_93, l_94, l_97, l_99, l_100, l_101, l_102, l_103, l_104, l_105, l_107, l_108, l_109, l_110, l_111, l_112, l_114, l_115, l_116, l_117, l_119, l_121, l_122, l_136, l_200, l_255, l_300, l_364, l_900, l_1000, l_1456, l_1458, l_1459, l_1460, l_1462, l_1471, l_1504, l_1510, l_1522, l_1550, l_2971, l_9999, l_10000, l_10979, l_65536, l_m1, y1, n_10, u2, if_true, if_false, Option.bind_some, q_ra, reduceIte, Nat.reduceEqDiff]
        · simp only [fX12_readRest, fX12_readRest_26, l_0, l_1, l_2, l_3, l_4, l_5, l_6, l_7, l_8, l_9, l_10, l_11, l_12, l_13, l_14, l_15, l_16, l_17, l_18, l_19, l_20, l_21, l_22, l_23, l_24, l_25, l_30, l_31, l_32, l_40, l_48, l_54, l_57, l_59, l_60, l_61, l_62, l_63, l_65, l_66, l_72, l_82, l_92, l_93, l_94, l_97, l_99, l_100, l_101, l_102, l_103, l_104, l_105, l_107, l_108, l_109, l_110, l_111, l_112, l_114, l_115, l_116, l_117, l_119, l_121, l_122, l_136, l_200, l_255, l_300, l_364, l_900, l_1000, l_1456, l_1458, l_1459, l_1460, l_1462, l_1471, l_1504, l_1510, l_1522, l_1550, l_2971, l_9999, l_10000, l_10979, l_65536, l_m1, j0, ia, c0, k0, l30, y3, nI_add, j1, c1, sa, u3, j2, c2, if_true, if_false, Option.bind_some]
        · rw [q_ra, if_pos rfl, up_n _ _ _ (by omega), ra3, up_n _ _ _ (by omega), ra2, up_e _ _ _ rfl]
        · rw [q_ra, if_pos rfl, up_n _ _ _ (by omega), ra3, up_e _ _ _ rfl]
        · rw [q_ra, if_pos rfl, up_e _ _ _ rfl]
        · exact up_e _ _ _ rfl
        · exact up_e _ _ _ rfl
        · exact up_e _ _ _ rfl
      · refine badd 0 R3 (sr (sr E 1 (upd (ra E 1) p (nI 13))) 2 (upd (ra E 2) p (nI x))) (sr M3 5 (upd (ra M3 5) (1550 + 9 * s + 2) (nI 0))) rfl ?_ ?_ u4 (mq_tr mq2 (mq_tr (mg_mq u6) (mq_5 (by omega))))
        · simp only [fX2_readStep_129, hp, ip, cp, sa, v_adv, p1, w', l_0, l_1, l_2, l_3, l_4, l_5, l_6, l_7, l_8, l_9, l_10, l_11, l_12, l_13, l_14, l_15, l_16, l_17, l_18, l_19, l_20, l_21, l_22, l_23, l_24, l_25, l_30, l_31, l_32, l_40, l_48, l_54, l_57, l_59, l_60, l_61, l_62, l_63, l_65, l_66, l_72, l_82, l_92, l_93, l_94, l_97, l_99, l_100, l_101, l_102, l_103, l_104, l_105, l_107, l_108, l_109, l_110, l_111, l_112, l_114, l_115, l_116, l_117, l_119, l_121, l_122, l_136, l_200, l_255, l_300, l_364, l_900, l_1000, l_1456, l_1458, l_1459, l_1460, l_1462, l_1471, l_1504, l_1510, l_1522, l_1550, l_2971, l_9999, l_10000, l_10979, l_65536, l_m1, y1, n_10, u2, if_true, if_false, Option.bind_some, q_ra, reduceIte, Nat.reduceEqDiff]
        · simp only [fX12_readRest, fX12_readRest_26, l_0, l_1, l_2, l_3, l_4, l_5, l_6, l_7, l_8, l_9, l_10, l_11, l_12, l_13, l_14, l_15, l_16, l_17, l_18, l_19, l_20, l_21, l_22, l_23, l_24, l_25, l_30, l_31, l_32, l_40, l_48, l_54, l_57, l_59, l_60, l_61, l_62, l_63, l_65, l_66, l_72, l_82, l_92, l_93, l_94, l_97, l_99, l_100, l_101, l_102, l_103, l_104, l_105, l_107, l_108, l_109, l_110, l_111, l_112, l_114, l_115, l_116, l_117, l_119, l_121, l_122, l_136, l_200, l_255, l_300, l_364, l_900, l_1000, l_1456, l_1458, l_1459, l_1460, l_1462, l_1471, l_1504, l_1510, l_1522, l_1550, l_2971, l_9999, l_10000, l_10979, l_65536, l_m1, j0, ia, c0, k0, l30, y3, nI_add, j1, c1, sa, u3, j2, c2, if_true, if_false, Option.bind_some]
    · have hb2 : bm (sr M2 5 (upd (ra M2 5) (1550 + 9 * s + 1) (nI 0))) := bd_bm (R := R2) y4
      have br := b_readTold hb2 (nI 0) (nI 1)
      refine badd 0 R2 (sr E 1 (upd (ra E 1) p (nI 13))) (sr (sr M2 5 (upd (ra M2 5) (1550 + 9 * s + 1) (nI 0))) 5 (upd (upd (ra M2 5) (1550 + 9 * s + 1) (nI 0)) (1550 + 9 * s + 2) (nI 0))) rfl ?_ ?_ y4 (mq_tr (mg_mq y6) (mq_tr (mq_5 (q := 1550 + 9 * s + 1) (v := nI 0) (by omega)) (mq_5 (M := sr M2 5 (upd (ra M2 5) (1550 + 9 * s + 1) (nI 0))) (by omega))))
      · simp only [fX2_readStep_129, hp, ip, cp, sa, v_adv, p1, w', l_0, l_1, l_2, l_3, l_4, l_5, l_6, l_7, l_8, l_9, l_10, l_11, l_12, l_13, l_14, l_15, l_16, l_17, l_18, l_19, l_20, l_21, l_22, l_23, l_24, l_25, l_30, l_31, l_32, l_40, l_48, l_54, l_57, l_59, l_60, l_61, l_62, l_63, l_65, l_66, l_72, l_82, l_92, l_93, l_94, l_97, l_99, l_100, l_101, l_102, l_103, l_104, l_105, l_107, l_108, l_109, l_110, l_111, l_112, l_114, l_115, l_116, l_117, l_119, l_121, l_122, l_136, l_200, l_255, l_300, l_364, l_900, l_1000, l_1456, l_1458, l_1459, l_1460, l_1462, l_1471, l_1504, l_1510, l_1522, l_1550, l_2971, l_9999, l_10000, l_10979, l_65536, l_m1, y1, if_true, Option.bind_some]
      · simp only [fX12_readRest, fX12_readRest_26, l_0, l_1, l_2, l_3, l_4, l_5, l_6, l_7, l_8, l_9, l_10, l_11, l_12, l_13, l_14, l_15, l_16, l_17, l_18, l_19, l_20, l_21, l_22, l_23, l_24, l_25, l_30, l_31, l_32, l_40, l_48, l_54, l_57, l_59, l_60, l_61, l_62, l_63, l_65, l_66, l_72, l_82, l_92, l_93, l_94, l_97, l_99, l_100, l_101, l_102, l_103, l_104, l_105, l_107, l_108, l_109, l_110, l_111, l_112, l_114, l_115, l_116, l_117, l_119, l_121, l_122, l_136, l_200, l_255, l_300, l_364, l_900, l_1000, l_1456, l_1458, l_1459, l_1460, l_1462, l_1471, l_1504, l_1510, l_1522, l_1550, l_2971, l_9999, l_10000, l_10979, l_65536, l_m1, j0, ia, c0, k0, l30, y3, nI_add, j1, c1, sa, br, j2, c2, q_ra, if_true, if_false, Option.bind_some]
  · -- drop
    have w' : gi R 7 = nI 14 := e3
    have l30 : (nI 3 ≤ nI 1) = False := q_leF (by omega) (by omega)
    rcases here_talker (E := sr E 1 (upd (ra E 1) p (nI 14))) (rdA 1) (etA 1) hp hp6 with ⟨x, R2, M2, a2, e2, k2, wn2, y0, y1, y3, y4, y5, y6, y7⟩ | ⟨R2, M2, y1, y3, y4, y5, y6⟩
    · have rd2 : rd B R2 (sr M2 5 (upd (ra M2 5) (1550 + 9 * s + 1) (nI x))) g n a2 e2 k2 wn2 := y4
      have mq2 : mq (1550 + 9 * s) (sr M1 5 (upd (ra M1 5) (1550 + 9 * s) (nI 1))) (sr M2 5 (upd (ra M2 5) (1550 + 9 * s + 1) (nI x))) := mq_tr (mg_mq y7) (mq_5 (by omega))
      have ab := y4.2.2.1.2.2.2.2.2.2.1
      rcases here_num (E := sr (sr E 1 (upd (ra E 1) p (nI 14))) 2 (upd (ra E 2) p (nI x))) rd2 (lo := 1) (hi := 9) (by omega) (by omega) hp hp6 with ⟨y, R3, M3, a3, e3', k3, wn3, u0, u0', u2, u3, u4, u5, u6, u7⟩ | ⟨R3, M3, u2, u3, u4, u5, u6⟩
      · have ra3 : ra M3 5 = upd (ra M2 5) (1550 + 9 * s + 1) (nI x) := by rw [mg_ra u7]; rfl
        have ra2 : ra M2 5 = upd (ra M1 5) (1550 + 9 * s) (nI 1) := by rw [mg_ra y7]; rfl
        refine good 1 14 R3 (sr (sr (sr E 1 (upd (ra E 1) p (nI 14))) 2 (upd (ra E 2) p (nI x))) 3 (upd (ra E 3) p (nI y))) (sr M3 5 (upd (ra M3 5) (1550 + 9 * s + 2) (nI y))) a3 e3' k3 wn3 rfl ?_ ?_ u4 (Or.inl (by omega)) (rg_tr y6 u6) (mq_tr mq2 (mq_tr (mg_mq u7) (mq_5 (by omega)))) (ep_tr (ep_sr (E := sr E 1 (upd (ra E 1) p (nI 14))) (c := 2)) (ep_sr (E := sr (sr E 1 (upd (ra E 1) p (nI 14))) 2 (upd (ra E 2) p (nI x))) (c := 3))) (Or.inl ⟨by omega, by omega, mk_14 (x := x) (y := y) ?_ ?_ ?_ ?_ ?_ ?_ y0 (by omega)⟩)
        · simp only [fX2_readStep_129, hp, ip, cp, sa, v_adv, p1, w', n1413, l_0, l_1, l_2, l_3, l_4, l_5, l_6, l_7, l_8, l_9, l_10, l_11, l_12, l_13, l_14, l_15, l_16, l_17, l_18, l_19, l_20, l_21, l_22, l_23, l_24, l_25, l_30, l_31, l_32, l_40, l_48, l_54, l_57, l_59, l_60, l_61, l_62, l_63, l_65, l_66, l_72, l_82, l_92, l_93, l_94, l_97, l_99, l_100, l_101, l_102, l_103, l_104, l_105, l_107, l_108, l_109, l_110, l_111, l_112, l_114, l_115, l_116, l_117, l_119, l_121, l_122, l_136, l_200, l_255, l_300, l_364, l_900, l_1000, l_1456, l_1458, l_1459, l_1460, l_1462, l_1471, l_1504, l_1510, l_1522, l_1550, l_2971, l_9999, l_10000, l_10979, l_65536, l_m1, y1, n_10, u2, if_true, if_false, Option.bind_some, q_ra, reduceIte, Nat.reduceEqDiff]
        · simp only [fX12_readRest, fX12_readRest_26, l_0, l_1, l_2, l_3, l_4, l_5, l_6, l_7, l_8, l_9, l_10, l_11, l_12, l_13, l_14, l_15, l_16, l_17, l_18, l_19, l_20, l_21, l_22, l_23, l_24, l_25, l_30, l_31, l_32, l_40, l_48, l_54, l_57, l_59, l_60, l_61, l_62, l_63, l_65, l_66, l_72, l_82, l_92, l_93, l_94, l_97, l_99, l_100, l_101, l_102, l_103, l_104, l_105, l_107, l_108, l_109, l_110, l_111, l_112, l_114, l_115, l_116, l_117, l_119, l_121, l_122, l_136, l_200, l_255, l_300, l_364, l_900, l_1000, l_1456, l_1458, l_1459, l_1460, l_1462, l_1471, l_1504, l_1510, l_1522, l_1550, l_2971, l_9999, l_10000, l_10979, l_65536, l_m1, j0, ia, c0, k0, l30, n_10, y3, nI_add, j1, c1, sa, u3, j2, c2, if_true, if_false, Option.bind_some]
        · rw [q_ra, if_pos rfl, up_n _ _ _ (by omega), ra3, up_n _ _ _ (by omega), ra2, up_e _ _ _ rfl]
        · rw [q_ra, if_pos rfl, up_n _ _ _ (by omega), ra3, up_e _ _ _ rfl]
        · rw [q_ra, if_pos rfl, up_e _ _ _ rfl]
        · exact up_e _ _ _ rfl
        · exact up_e _ _ _ rfl
        · exact up_e _ _ _ rfl
      · refine badd 1 R3 (sr (sr E 1 (upd (ra E 1) p (nI 14))) 2 (upd (ra E 2) p (nI x))) (sr M3 5 (upd (ra M3 5) (1550 + 9 * s + 2) (nI 0))) rfl ?_ ?_ u4 (mq_tr mq2 (mq_tr (mg_mq u6) (mq_5 (by omega))))
        · simp only [fX2_readStep_129, hp, ip, cp, sa, v_adv, p1, w', n1413, l_0, l_1, l_2, l_3, l_4, l_5, l_6, l_7, l_8, l_9, l_10, l_11, l_12, l_13, l_14, l_15, l_16, l_17, l_18, l_19, l_20, l_21, l_22, l_23, l_24, l_25, l_30, l_31, l_32, l_40, l_48, l_54, l_57, l_59, l_60, l_61, l_62, l_63, l_65, l_66, l_72, l_82, l_92, l_93, l_94, l_97, l_99, l_100, l_101, l_102, l_103, l_104, l_105, l_107, l_108, l_109, l_110, l_111, l_112, l_114, l_115, l_116, l_117, l_119, l_121, l_122, l_136, l_200, l_255, l_300, l_364, l_900, l_1000, l_1456, l_1458, l_1459, l_1460, l_1462, l_1471, l_1504, l_1510, l_1522, l_1550, l_2971, l_9999, l_10000, l_10979, l_65536, l_m1, y1, n_10, u2, if_true, if_false, Option.bind_some, q_ra, reduceIte, Nat.reduceEqDiff]
        · simp only [fX12_readRest, fX12_readRest_26, l_0, l_1, l_2, l_3, l_4, l_5, l_6, l_7, l_8, l_9, l_10, l_11, l_12, l_13, l_14, l_15, l_16, l_17, l_18, l_19, l_20, l_21, l_22, l_23, l_24, l_25, l_30, l_31, l_32, l_40, l_48, l_54, l_57, l_59, l_60, l_61, l_62, l_63, l_65, l_66, l_72, l_82, l_92, l_93, l_94, l_97, l_99, l_100, l_101, l_102, l_103, l_104, l_105, l_107, l_108, l_109, l_110, l_111, l_112, l_114, l_115, l_116, l_117, l_119, l_121, l_122, l_136, l_200, l_255, l_300, l_364, l_900, l_1000, l_1456, l_1458, l_1459, l_1460, l_1462, l_1471, l_1504, l_1510, l_1522, l_1550, l_2971, l_9999, l_10000, l_10979, l_65536, l_m1, j0, ia, c0, k0, l30, n_10, y3, nI_add, j1, c1, sa, u3, j2, c2, if_true, if_false, Option.bind_some]
    · have hb2 : bm (sr M2 5 (upd (ra M2 5) (1550 + 9 * s + 1) (nI 0))) := bd_bm (R := R2) y4
      have br := b_count hb2 (nI 1) (nI 9)
      refine badd 1 R2 (sr E 1 (upd (ra E 1) p (nI 14))) (sr (sr M2 5 (upd (ra M2 5) (1550 + 9 * s + 1) (nI 0))) 5 (upd (upd (ra M2 5) (1550 + 9 * s + 1) (nI 0)) (1550 + 9 * s + 2) (nI 0))) rfl ?_ ?_ y4 (mq_tr (mg_mq y6) (mq_tr (mq_5 (q := 1550 + 9 * s + 1) (v := nI 0) (by omega)) (mq_5 (M := sr M2 5 (upd (ra M2 5) (1550 + 9 * s + 1) (nI 0))) (by omega))))
      · simp only [fX2_readStep_129, hp, ip, cp, sa, v_adv, p1, w', n1413, l_0, l_1, l_2, l_3, l_4, l_5, l_6, l_7, l_8, l_9, l_10, l_11, l_12, l_13, l_14, l_15, l_16, l_17, l_18, l_19, l_20, l_21, l_22, l_23, l_24, l_25, l_30, l_31, l_32, l_40, l_48, l_54, l_57, l_59, l_60, l_61, l_62, l_63, l_65, l_66, l_72, l_82, l_92, l_93, l_94, l_97, l_99, l_100, l_101, l_102, l_103, l_104, l_105, l_107, l_108, l_109, l_110, l_111, l_112, l_114, l_115, l_116, l_117, l_119, l_121, l_122, l_136, l_200, l_255, l_300, l_364, l_900, l_1000, l_1456, l_1458, l_1459, l_1460, l_1462, l_1471, l_1504, l_1510, l_1522, l_1550, l_2971, l_9999, l_10000, l_10979, l_65536, l_m1, y1, if_true, if_false, Option.bind_some]
      · simp only [fX12_readRest, fX12_readRest_26, l_0, l_1, l_2, l_3, l_4, l_5, l_6, l_7, l_8, l_9, l_10, l_11, l_12, l_13, l_14, l_15, l_16, l_17, l_18, l_19, l_20, l_21, l_22, l_23, l_24, l_25, l_30, l_31, l_32, l_40, l_48, l_54, l_57, l_59, l_60, l_61, l_62, l_63, l_65, l_66, l_72, l_82, l_92, l_93, l_94, l_97, l_99, l_100, l_101, l_102, l_103, l_104, l_105, l_107, l_108, l_109, l_110, l_111, l_112, l_114, l_115, l_116, l_117, l_119, l_121, l_122, l_136, l_200, l_255, l_300, l_364, l_900, l_1000, l_1456, l_1458, l_1459, l_1460, l_1462, l_1471, l_1504, l_1510, l_1522, l_1550, l_2971, l_9999, l_10000, l_10979, l_65536, l_m1, j0, ia, c0, k0, l30, n_10, y3, nI_add, j1, c1, sa, br, j2, c2, q_ra, if_true, if_false, Option.bind_some]
  · sorry
  · sorry
  · sorry
  · sorry
  · sorry
  · sorry
  · sorry
end Q90
