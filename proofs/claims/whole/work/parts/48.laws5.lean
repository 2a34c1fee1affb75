theorem z_00 : nI 0 ≤ (0 : Int32) := by decide
theorem z_50 : ¬ (5 : Int32) ≤ 0 := by decide
theorem rl_scrL {SC SY0 SY1 SY2 SY3 SB ST0 SE0 ST2 SE2 ST3 SE3 ST4 SE4 SV0 SM M' : ms_T} (hR : Rl SC SY0 SY1 SY2 SY3 SB ST0 SE0 ST2 SE2 ST3 SE3 ST4 SE4 SV0 SM) {v : Int32} (h1 : ∀ k, k ≠ 27 → k ≠ 28 → gi M' k = gi (si (si SM 1 (nI 0)) 0 v) k) (h3 : M'.2 = SM.2) : Rl (si SC 0 v) SY0 SY1 SY2 SY3 SB ST0 SE0 ST2 SE2 ST3 SE3 ST4 SE4 SV0 M' := by
  have a : ∀ j, ra M' j = ra SM j := fun j => by show M'.2.2.1 j = SM.2.2.1 j; rw [h3]
  have b : ∀ j, rl M' j = rl SM j := fun j => by show M'.2.2.2 j = SM.2.2.2 j; rw [h3]
  have c : ∀ j, gl M' j = gl SM j := fun j => by show M'.2.1 j = SM.2.1 j; rw [h3]
  exact rl_scr hR ⟨⟨c 2, c 3⟩, h1 8 (by omega) (by omega), h1 10 (by omega) (by omega), h1 11 (by omega) (by omega), h1 23 (by omega) (by omega), h1 40 (by omega) (by omega), a 4, a 5, a 12, b 7⟩ (a 1) (a 2) (b 3) (h1 0 (by omega) (by omega))
theorem C_law1 {SC SY0 SY1 SY2 SY3 : ms_T} {a1 a2 : Int32} (e : inb a1 4 = false) : fX11_lawStatus SC SY0 SY1 SY2 SY3 a1 a2 = some (nI 1) := by
  unfold fX11_lawStatus
  rw [C_isTray, e, Option.bind_some, if_pos (show bi false = (0 : Int32) from rfl)]
  rfl
theorem M_law1 {M : ms_T} {a1 a2 : Int32} (e : inb a1 4 = false) : fX12_whyNoLaw M a1 a2 = some (nI 1) := by
  unfold fX12_whyNoLaw
  rw [M_isTray, e, Option.bind_some, if_pos (show bi false = (0 : Int32) from rfl)]
  rfl
theorem o_laws : op_laws Rl := by
  intro SC SY0 SY1 SY2 SY3 SB ST0 SE0 ST2 SE2 ST3 SE3 ST4 SE4 SV0 SM  hR a1 a2
  obtain ⟨hs, hF, hU, hT, ⟨hY0, hY1, hY2, hY3⟩, ⟨t, w, hC, hN0, n1, n2, n3, hE⟩, hK, hV⟩ := id hR
  have hN := tb_N0 hN0
  have hN2 : tb_N (si (si SM 1 (nI 0)) 0 (nI 0)) t := hN
  have hNu : ∀ i, i < 92 → ra SM 5 i = nI (t i) := hN
  obtain ⟨w0, w1, w2, w3, w4, w5, w6, w7, w8, w9⟩ := id w
  obtain ⟨h0, h1, h2, h3, h4, h5, h6, h7, h8, h9, h10, h11, h12, h13, h14, h15, h16⟩ := id hC
  have bad : ∀ v : Nat, 0 < v → v < 10 → fX11_lawStatus SC SY0 SY1 SY2 SY3 a1 a2 = some (nI v) → fX12_whyNoLaw (si SM 1 (nI 0)) a1 a2 = some (nI v) → ∃ (z : Int32 × ms_T) (w : Int32 × ms_T), fX11_laws SC SY0 SY1 SY2 SY3 a1 a2 = some z ∧ fX12_laws SM a1 a2 = some w ∧ z.1 = w.1 ∧ Rl z.2 SY0 SY1 SY2 SY3 SB ST0 SE0 ST2 SE2 ST3 SE3 ST4 SE4 SV0 w.2 := by
    intro v hv hv2 g1 g2
    refine ⟨(nM, si SC 0 (nI v)), (nM, si (si SM 1 (nI 0)) 0 (nI v)), ?_, ?_, rfl, rl_st hR _⟩
    · unfold fX11_laws
      rw [g1, Option.bind_some, if_neg (show ¬ nI v = (0 : Int32) from fun e => absurd ((nI_eq (b := 0) (by omega) (by omega)).mp e) (by omega))]
      rfl
    · unfold fX12_laws
      rw [show si SM 1 (0 : Int32) = si SM 1 (nI 0) from rfl, g2, Option.bind_some]
      rw [if_neg (show ¬ gi (si (si SM 1 (nI 0)) 0 (nI v)) 0 ≤ 0 from nI_ge (a := 0) hv (by omega))]
      rfl
  rcases q_ix a1 4 (by omega) with ⟨h, e⟩ | ⟨h, h2', e⟩ | ⟨j, hj, rfl⟩
  · exact bad 1 (by omega) (by omega) (C_law1 e) (M_law1 e)
  · exact bad 1 (by omega) (by omega) (C_law1 e) (M_law1 e)
  · rcases (by omega : j = 0 ∨ j = 1 ∨ j = 2 ∨ j = 3) with rfl | rfl | rfl | rfl
    · obtain ⟨s, s10, p1, p2, p3⟩ := law_w0 (SC := SC) (SY0 := SY0) (SY1 := SY1) (SY2 := SY2) (SY3 := SY3) (M := si SM 1 (nI 0)) hY0 a2
      by_cases c : s = 0
      · subst c
        obtain ⟨n, hn, rfl, hlok⟩ := p3 rfl
        have er : ∀ i, i < 60 → rl SY0 1 i = rowOf SM 0 i := fun i hi => hY0.2.2 i hi
        have k1 := Y_fit hn hlok
        have k2 := lwX_cnt hlok
        have zz : nI 0 = (0 : Int32) := rfl
        obtain ⟨M', m1, m2, m3, m4, m5⟩ := M_lays (M := si (si SM 1 (nI 0)) 0 (nI 0)) (j := 0) (by omega) hn (lok_cong hn er hlok)
        have eX : lwX (rowOf (si (si SM 1 (nI 0)) 0 (nI 0)) 0) n = lwX (rl SY0 1) n := (lwX_cong hn er).symm
        rw [eX] at m2 m3
        refine ⟨(nI (siz (lwX (rl SY0 1) n) 32), si SC 0 (nI 0)), (gi M' 27, M'), ?_, ?_, m2.symm, rl_scrL hR m4 m5⟩
        · unfold fX11_laws
          rw [p1, Option.bind_some, if_pos zz, if_pos (show nI 0 = (0 : Int32) from rfl), k1, Option.bind_some, k2, Option.bind_some]
          rfl
        · unfold fX12_laws
          rw [show si SM 1 (0 : Int32) = si SM 1 (nI 0) from rfl, p2, Option.bind_some, if_pos (show gi (si (si SM 1 (nI 0)) 0 (nI 0)) 0 ≤ 0 from z_00), m1, Option.bind_some]
      · exact bad s (by omega) s10 p1 p2
    · obtain ⟨s, s10, p1, p2, p3⟩ := law_w1 (SC := SC) (SY0 := SY0) (SY1 := SY1) (SY2 := SY2) (SY3 := SY3) (M := si SM 1 (nI 0)) hY1 a2
      by_cases c : s = 0
      · subst c
        obtain ⟨n, hn, rfl, hlok⟩ := p3 rfl
        have er : ∀ i, i < 60 → rl SY1 1 i = rowOf SM 1 i := fun i hi => hY1.2.2 i hi
        have k1 := Y_fit hn hlok
        have k2 := lwX_cnt hlok
        have zz : nI 0 = (0 : Int32) := rfl
        obtain ⟨M', m1, m2, m3, m4, m5⟩ := M_lays (M := si (si SM 1 (nI 0)) 0 (nI 0)) (j := 1) (by omega) hn (lok_cong hn er hlok)
        have eX : lwX (rowOf (si (si SM 1 (nI 0)) 0 (nI 0)) 1) n = lwX (rl SY1 1) n := (lwX_cong hn er).symm
        rw [eX] at m2 m3
        refine ⟨(nI (siz (lwX (rl SY1 1) n) 32), si SC 0 (nI 0)), (gi M' 27, M'), ?_, ?_, m2.symm, rl_scrL hR m4 m5⟩
        · unfold fX11_laws
          rw [p1, Option.bind_some, if_pos zz, if_neg (show ¬ nI 1 = (0 : Int32) by decide), if_pos (show nI 1 = (1 : Int32) from rfl), k1, Option.bind_some, k2, Option.bind_some]
          rfl
        · unfold fX12_laws
          rw [show si SM 1 (0 : Int32) = si SM 1 (nI 0) from rfl, p2, Option.bind_some, if_pos (show gi (si (si SM 1 (nI 0)) 0 (nI 0)) 0 ≤ 0 from z_00), m1, Option.bind_some]
      · exact bad s (by omega) s10 p1 p2
    · obtain ⟨s, s10, p1, p2, p3⟩ := law_w2 (SC := SC) (SY0 := SY0) (SY1 := SY1) (SY2 := SY2) (SY3 := SY3) (M := si SM 1 (nI 0)) hY2 a2
      by_cases c : s = 0
      · subst c
        obtain ⟨n, hn, rfl, hlok⟩ := p3 rfl
        have er : ∀ i, i < 60 → rl SY2 1 i = rowOf SM 2 i := fun i hi => hY2.2.2 i hi
        have k1 := Y_fit hn hlok
        have k2 := lwX_cnt hlok
        have zz : nI 0 = (0 : Int32) := rfl
        obtain ⟨M', m1, m2, m3, m4, m5⟩ := M_lays (M := si (si SM 1 (nI 0)) 0 (nI 0)) (j := 2) (by omega) hn (lok_cong hn er hlok)
        have eX : lwX (rowOf (si (si SM 1 (nI 0)) 0 (nI 0)) 2) n = lwX (rl SY2 1) n := (lwX_cong hn er).symm
        rw [eX] at m2 m3
        refine ⟨(nI (siz (lwX (rl SY2 1) n) 32), si SC 0 (nI 0)), (gi M' 27, M'), ?_, ?_, m2.symm, rl_scrL hR m4 m5⟩
        · unfold fX11_laws
          rw [p1, Option.bind_some, if_pos zz, if_neg (show ¬ nI 2 = (0 : Int32) by decide), if_neg (show ¬ nI 2 = (1 : Int32) by decide), if_pos (show nI 2 = (2 : Int32) from rfl), k1, Option.bind_some, k2, Option.bind_some]
          rfl
        · unfold fX12_laws
          rw [show si SM 1 (0 : Int32) = si SM 1 (nI 0) from rfl, p2, Option.bind_some, if_pos (show gi (si (si SM 1 (nI 0)) 0 (nI 0)) 0 ≤ 0 from z_00), m1, Option.bind_some]
      · exact bad s (by omega) s10 p1 p2
    · obtain ⟨s, s10, p1, p2, p3⟩ := law_w3 (SC := SC) (SY0 := SY0) (SY1 := SY1) (SY2 := SY2) (SY3 := SY3) (M := si SM 1 (nI 0)) hY3 a2
      by_cases c : s = 0
      · subst c
        obtain ⟨n, hn, rfl, hlok⟩ := p3 rfl
        have er : ∀ i, i < 60 → rl SY3 1 i = rowOf SM 3 i := fun i hi => hY3.2.2 i hi
        have k1 := Y_fit hn hlok
        have k2 := lwX_cnt hlok
        have zz : nI 0 = (0 : Int32) := rfl
        obtain ⟨M', m1, m2, m3, m4, m5⟩ := M_lays (M := si (si SM 1 (nI 0)) 0 (nI 0)) (j := 3) (by omega) hn (lok_cong hn er hlok)
        have eX : lwX (rowOf (si (si SM 1 (nI 0)) 0 (nI 0)) 3) n = lwX (rl SY3 1) n := (lwX_cong hn er).symm
        rw [eX] at m2 m3
        refine ⟨(nI (siz (lwX (rl SY3 1) n) 32), si SC 0 (nI 0)), (gi M' 27, M'), ?_, ?_, m2.symm, rl_scrL hR m4 m5⟩
        · unfold fX11_laws
          rw [p1, Option.bind_some, if_pos zz, if_neg (show ¬ nI 3 = (0 : Int32) by decide), if_neg (show ¬ nI 3 = (1 : Int32) by decide), if_neg (show ¬ nI 3 = (2 : Int32) by decide), if_pos (show nI 3 = (3 : Int32) from rfl), k1, Option.bind_some, k2, Option.bind_some]
          rfl
        · unfold fX12_laws
          rw [show si SM 1 (0 : Int32) = si SM 1 (nI 0) from rfl, p2, Option.bind_some, if_pos (show gi (si (si SM 1 (nI 0)) 0 (nI 0)) 0 ≤ 0 from z_00), m1, Option.bind_some]
      · exact bad s (by omega) s10 p1 p2
theorem o_lawOf : op_lawOf Rl := by
  intro SC SY0 SY1 SY2 SY3 SB ST0 SE0 ST2 SE2 ST3 SE3 ST4 SE4 SV0 SM  hR a1 a2 a3
  obtain ⟨hs, hF, hU, hT, ⟨hY0, hY1, hY2, hY3⟩, ⟨t, w, hC, hN0, n1, n2, n3, hE⟩, hK, hV⟩ := id hR
  have hN := tb_N0 hN0
  have hN2 : tb_N (si (si SM 1 (nI 0)) 0 (nI 0)) t := hN
  have hNu : ∀ i, i < 92 → ra SM 5 i = nI (t i) := hN
  obtain ⟨w0, w1, w2, w3, w4, w5, w6, w7, w8, w9⟩ := id w
  obtain ⟨h0, h1, h2, h3, h4, h5, h6, h7, h8, h9, h10, h11, h12, h13, h14, h15, h16⟩ := id hC
  have hI := q_isInL a3 (b := 1) 2 (by omega) (by decide)
  have ex : fX11_lawOf_29 SY0 SY1 SY2 SY3 SC = some (nM, si SC 0 (nI 5)) := rfl
  have bad : ∀ v : Nat, 0 < v → v < 10 → fX11_lawStatus SC SY0 SY1 SY2 SY3 a1 a2 = some (nI v) → fX12_whyNoLaw (si SM 1 (nI 0)) a1 a2 = some (nI v) → ∃ (z : Int32 × ms_T) (w : Int32 × ms_T), fX11_lawOf SC SY0 SY1 SY2 SY3 a1 a2 a3 = some z ∧ fX12_lawOf SM a1 a2 a3 = some w ∧ z.1 = w.1 ∧ Rl z.2 SY0 SY1 SY2 SY3 SB ST0 SE0 ST2 SE2 ST3 SE3 ST4 SE4 SV0 w.2 := by
    intro v hv hv2 g1 g2
    refine ⟨(nM, si SC 0 (nI v)), (nM, si (si SM 1 (nI 0)) 0 (nI v)), ?_, ?_, rfl, rl_st hR _⟩
    · unfold fX11_lawOf
      rw [g1, Option.bind_some, if_neg (show ¬ nI v = (0 : Int32) from fun e => absurd ((nI_eq (b := 0) (by omega) (by omega)).mp e) (by omega))]
      rfl
    · unfold fX12_lawOf
      rw [show si SM 1 (0 : Int32) = si SM 1 (nI 0) from rfl, g2, Option.bind_some]
      rw [if_neg (show ¬ gi (si (si SM 1 (nI 0)) 0 (nI v)) 0 = 0 from fun e => absurd ((nI_eq (b := 0) (by omega) (by omega)).mp e) (by omega))]
      unfold fX12_lawOf_37
      rw [if_neg (show ¬ gi (si (si SM 1 (nI 0)) 0 (nI v)) 0 ≤ 0 from nI_ge (a := 0) hv (by omega))]
      rfl
  rcases q_ix a1 4 (by omega) with ⟨h, e⟩ | ⟨h, h2', e⟩ | ⟨j, hj, rfl⟩
  · exact bad 1 (by omega) (by omega) (C_law1 e) (M_law1 e)
  · exact bad 1 (by omega) (by omega) (C_law1 e) (M_law1 e)
  · rcases (by omega : j = 0 ∨ j = 1 ∨ j = 2 ∨ j = 3) with rfl | rfl | rfl | rfl
    · obtain ⟨s, s10, p1, p2, p3⟩ := law_w0 (SC := SC) (SY0 := SY0) (SY1 := SY1) (SY2 := SY2) (SY3 := SY3) (M := si SM 1 (nI 0)) hY0 a2
      by_cases c : s = 0
      · subst c
        obtain ⟨n, hn, rfl, hlok⟩ := p3 rfl
        have er : ∀ i, i < 60 → rl SY0 1 i = rowOf SM 0 i := fun i hi => hY0.2.2 i hi
        have k1 := Y_fit hn hlok
        have k2 := lwX_cnt hlok
        have zz : nI 0 = (0 : Int32) := rfl
        rcases q_ix a3 2 (by omega) with ⟨h, e⟩ | ⟨h, h2', e⟩ | ⟨y, hy, rfl⟩
        · refine ⟨(nM, si SC 0 (nI 5)), (nM, si (si (si SM 1 (nI 0)) 0 (nI 0)) 0 (nI 5)), ?_, ?_, rfl, rl_st2 hR _ _⟩
          · unfold fX11_lawOf
            rw [p1, Option.bind_some, if_pos zz, if_pos (show a3 < 0 from h)]
            exact ex
          · unfold fX12_lawOf
            rw [show si SM 1 (0 : Int32) = si SM 1 (nI 0) from rfl, p2, Option.bind_some, if_pos (show gi (si (si SM 1 (nI 0)) 0 (nI 0)) 0 = 0 from rfl), hI, e, Option.bind_some, if_pos (show bi false = (0 : Int32) from rfl)]
            unfold fX12_lawOf_37
            rw [if_neg (show ¬ gi (si (si (si SM 1 (nI 0)) 0 (nI 0)) 0 5) 0 ≤ 0 from z_50)]
            rfl
        · refine ⟨(nM, si SC 0 (nI 5)), (nM, si (si (si SM 1 (nI 0)) 0 (nI 0)) 0 (nI 5)), ?_, ?_, rfl, rl_st2 hR _ _⟩
          · unfold fX11_lawOf
            rw [p1, Option.bind_some, if_pos zz, if_neg (show ¬ a3 < 0 from h2'), if_neg (show ¬ a3 ≤ (1 : Int32) from of_eq_false (q_bgle (a := 1) h (by omega) (by omega)))]
            exact ex
          · unfold fX12_lawOf
            rw [show si SM 1 (0 : Int32) = si SM 1 (nI 0) from rfl, p2, Option.bind_some, if_pos (show gi (si (si SM 1 (nI 0)) 0 (nI 0)) 0 = 0 from rfl), hI, e, Option.bind_some, if_pos (show bi false = (0 : Int32) from rfl)]
            unfold fX12_lawOf_37
            rw [if_neg (show ¬ gi (si (si (si SM 1 (nI 0)) 0 (nI 0)) 0 5) 0 ≤ 0 from z_50)]
            rfl
        · have ey : inb (nI y) 2 = true := q_inT hy (by omega)
          obtain ⟨M', m1, m2, m3, m4, m5⟩ := M_lays (M := si (si SM 1 (nI 0)) 0 (nI 0)) (j := 0) (by omega) hn (lok_cong hn er hlok)
          have eX : lwX (rowOf (si (si SM 1 (nI 0)) 0 (nI 0)) 0) n = lwX (rl SY0 1) n := (lwX_cong hn er).symm
          rw [eX] at m2 m3
          obtain ⟨r, v, S', f1, f2, f3⟩ := lawOf_eq (SC := SC) (SY0 := SY0) (SY1 := SY1) (SY2 := SY2) (SY3 := SY3) (y := nI y) m3
          refine ⟨(r, si SC 0 v), (r, S'), ?_, ?_, rfl, ?_⟩
          · unfold fX11_lawOf
            rw [p1, Option.bind_some, if_pos zz, if_neg (show ¬ nI y < 0 from nI_pos (by omega)), if_pos (show nI y ≤ (1 : Int32) from nI_le (b := 1) (by omega) (by omega)), if_pos (show nI 0 = (0 : Int32) from rfl), k1, Option.bind_some]
            exact f1
          · unfold fX12_lawOf
            rw [show si SM 1 (0 : Int32) = si SM 1 (nI 0) from rfl, p2, Option.bind_some, if_pos (show gi (si (si SM 1 (nI 0)) 0 (nI 0)) 0 = 0 from rfl), hI, ey, Option.bind_some, if_neg (show ¬ bi true = (0 : Int32) by decide)]
            unfold fX12_lawOf_37
            rw [if_pos (show gi (si (si SM 1 (nI 0)) 0 (nI 0)) 0 ≤ 0 from z_00), m1, Option.bind_some]
            exact f2
          · rcases f3 with ⟨rfl, rfl⟩ | ⟨rfl, rfl⟩
            · exact rl_scrL hR m4 m5
            · refine rl_scrL (M' := si M' 0 (nI 8)) (v := nI 8) hR (fun k h1 h2 => ?_) m5
              rw [q_gi, q_gi]
              by_cases k0 : k = 0
              · rw [if_pos k0, if_pos k0]
              · rw [if_neg k0, if_neg k0, m4 k h1 h2, q_gi, if_neg k0]
      · exact bad s (by omega) s10 p1 p2
    · obtain ⟨s, s10, p1, p2, p3⟩ := law_w1 (SC := SC) (SY0 := SY0) (SY1 := SY1) (SY2 := SY2) (SY3 := SY3) (M := si SM 1 (nI 0)) hY1 a2
      by_cases c : s = 0
      · subst c
        obtain ⟨n, hn, rfl, hlok⟩ := p3 rfl
        have er : ∀ i, i < 60 → rl SY1 1 i = rowOf SM 1 i := fun i hi => hY1.2.2 i hi
        have k1 := Y_fit hn hlok
        have k2 := lwX_cnt hlok
        have zz : nI 0 = (0 : Int32) := rfl
        rcases q_ix a3 2 (by omega) with ⟨h, e⟩ | ⟨h, h2', e⟩ | ⟨y, hy, rfl⟩
        · refine ⟨(nM, si SC 0 (nI 5)), (nM, si (si (si SM 1 (nI 0)) 0 (nI 0)) 0 (nI 5)), ?_, ?_, rfl, rl_st2 hR _ _⟩
          · unfold fX11_lawOf
            rw [p1, Option.bind_some, if_pos zz, if_pos (show a3 < 0 from h)]
            exact ex
          · unfold fX12_lawOf
            rw [show si SM 1 (0 : Int32) = si SM 1 (nI 0) from rfl, p2, Option.bind_some, if_pos (show gi (si (si SM 1 (nI 0)) 0 (nI 0)) 0 = 0 from rfl), hI, e, Option.bind_some, if_pos (show bi false = (0 : Int32) from rfl)]
            unfold fX12_lawOf_37
            rw [if_neg (show ¬ gi (si (si (si SM 1 (nI 0)) 0 (nI 0)) 0 5) 0 ≤ 0 from z_50)]
            rfl
        · refine ⟨(nM, si SC 0 (nI 5)), (nM, si (si (si SM 1 (nI 0)) 0 (nI 0)) 0 (nI 5)), ?_, ?_, rfl, rl_st2 hR _ _⟩
          · unfold fX11_lawOf
            rw [p1, Option.bind_some, if_pos zz, if_neg (show ¬ a3 < 0 from h2'), if_neg (show ¬ a3 ≤ (1 : Int32) from of_eq_false (q_bgle (a := 1) h (by omega) (by omega)))]
            exact ex
          · unfold fX12_lawOf
            rw [show si SM 1 (0 : Int32) = si SM 1 (nI 0) from rfl, p2, Option.bind_some, if_pos (show gi (si (si SM 1 (nI 0)) 0 (nI 0)) 0 = 0 from rfl), hI, e, Option.bind_some, if_pos (show bi false = (0 : Int32) from rfl)]
            unfold fX12_lawOf_37
            rw [if_neg (show ¬ gi (si (si (si SM 1 (nI 0)) 0 (nI 0)) 0 5) 0 ≤ 0 from z_50)]
            rfl
        · have ey : inb (nI y) 2 = true := q_inT hy (by omega)
          obtain ⟨M', m1, m2, m3, m4, m5⟩ := M_lays (M := si (si SM 1 (nI 0)) 0 (nI 0)) (j := 1) (by omega) hn (lok_cong hn er hlok)
          have eX : lwX (rowOf (si (si SM 1 (nI 0)) 0 (nI 0)) 1) n = lwX (rl SY1 1) n := (lwX_cong hn er).symm
          rw [eX] at m2 m3
          obtain ⟨r, v, S', f1, f2, f3⟩ := lawOf_eq (SC := SC) (SY0 := SY0) (SY1 := SY1) (SY2 := SY2) (SY3 := SY3) (y := nI y) m3
          refine ⟨(r, si SC 0 v), (r, S'), ?_, ?_, rfl, ?_⟩
          · unfold fX11_lawOf
            rw [p1, Option.bind_some, if_pos zz, if_neg (show ¬ nI y < 0 from nI_pos (by omega)), if_pos (show nI y ≤ (1 : Int32) from nI_le (b := 1) (by omega) (by omega)), if_neg (show ¬ nI 1 = (0 : Int32) by decide), if_pos (show nI 1 = (1 : Int32) from rfl), k1, Option.bind_some]
            exact f1
          · unfold fX12_lawOf
            rw [show si SM 1 (0 : Int32) = si SM 1 (nI 0) from rfl, p2, Option.bind_some, if_pos (show gi (si (si SM 1 (nI 0)) 0 (nI 0)) 0 = 0 from rfl), hI, ey, Option.bind_some, if_neg (show ¬ bi true = (0 : Int32) by decide)]
            unfold fX12_lawOf_37
            rw [if_pos (show gi (si (si SM 1 (nI 0)) 0 (nI 0)) 0 ≤ 0 from z_00), m1, Option.bind_some]
            exact f2
          · rcases f3 with ⟨rfl, rfl⟩ | ⟨rfl, rfl⟩
            · exact rl_scrL hR m4 m5
            · refine rl_scrL (M' := si M' 0 (nI 8)) (v := nI 8) hR (fun k h1 h2 => ?_) m5
              rw [q_gi, q_gi]
              by_cases k0 : k = 0
              · rw [if_pos k0, if_pos k0]
              · rw [if_neg k0, if_neg k0, m4 k h1 h2, q_gi, if_neg k0]
      · exact bad s (by omega) s10 p1 p2
    · obtain ⟨s, s10, p1, p2, p3⟩ := law_w2 (SC := SC) (SY0 := SY0) (SY1 := SY1) (SY2 := SY2) (SY3 := SY3) (M := si SM 1 (nI 0)) hY2 a2
      by_cases c : s = 0
      · subst c
        obtain ⟨n, hn, rfl, hlok⟩ := p3 rfl
        have er : ∀ i, i < 60 → rl SY2 1 i = rowOf SM 2 i := fun i hi => hY2.2.2 i hi
        have k1 := Y_fit hn hlok
        have k2 := lwX_cnt hlok
        have zz : nI 0 = (0 : Int32) := rfl
        rcases q_ix a3 2 (by omega) with ⟨h, e⟩ | ⟨h, h2', e⟩ | ⟨y, hy, rfl⟩
        · refine ⟨(nM, si SC 0 (nI 5)), (nM, si (si (si SM 1 (nI 0)) 0 (nI 0)) 0 (nI 5)), ?_, ?_, rfl, rl_st2 hR _ _⟩
          · unfold fX11_lawOf
            rw [p1, Option.bind_some, if_pos zz, if_pos (show a3 < 0 from h)]
            exact ex
          · unfold fX12_lawOf
            rw [show si SM 1 (0 : Int32) = si SM 1 (nI 0) from rfl, p2, Option.bind_some, if_pos (show gi (si (si SM 1 (nI 0)) 0 (nI 0)) 0 = 0 from rfl), hI, e, Option.bind_some, if_pos (show bi false = (0 : Int32) from rfl)]
            unfold fX12_lawOf_37
            rw [if_neg (show ¬ gi (si (si (si SM 1 (nI 0)) 0 (nI 0)) 0 5) 0 ≤ 0 from z_50)]
            rfl
        · refine ⟨(nM, si SC 0 (nI 5)), (nM, si (si (si SM 1 (nI 0)) 0 (nI 0)) 0 (nI 5)), ?_, ?_, rfl, rl_st2 hR _ _⟩
          · unfold fX11_lawOf
            rw [p1, Option.bind_some, if_pos zz, if_neg (show ¬ a3 < 0 from h2'), if_neg (show ¬ a3 ≤ (1 : Int32) from of_eq_false (q_bgle (a := 1) h (by omega) (by omega)))]
            exact ex
          · unfold fX12_lawOf
            rw [show si SM 1 (0 : Int32) = si SM 1 (nI 0) from rfl, p2, Option.bind_some, if_pos (show gi (si (si SM 1 (nI 0)) 0 (nI 0)) 0 = 0 from rfl), hI, e, Option.bind_some, if_pos (show bi false = (0 : Int32) from rfl)]
            unfold fX12_lawOf_37
            rw [if_neg (show ¬ gi (si (si (si SM 1 (nI 0)) 0 (nI 0)) 0 5) 0 ≤ 0 from z_50)]
            rfl
        · have ey : inb (nI y) 2 = true := q_inT hy (by omega)
          obtain ⟨M', m1, m2, m3, m4, m5⟩ := M_lays (M := si (si SM 1 (nI 0)) 0 (nI 0)) (j := 2) (by omega) hn (lok_cong hn er hlok)
          have eX : lwX (rowOf (si (si SM 1 (nI 0)) 0 (nI 0)) 2) n = lwX (rl SY2 1) n := (lwX_cong hn er).symm
          rw [eX] at m2 m3
          obtain ⟨r, v, S', f1, f2, f3⟩ := lawOf_eq (SC := SC) (SY0 := SY0) (SY1 := SY1) (SY2 := SY2) (SY3 := SY3) (y := nI y) m3
          refine ⟨(r, si SC 0 v), (r, S'), ?_, ?_, rfl, ?_⟩
          · unfold fX11_lawOf
            rw [p1, Option.bind_some, if_pos zz, if_neg (show ¬ nI y < 0 from nI_pos (by omega)), if_pos (show nI y ≤ (1 : Int32) from nI_le (b := 1) (by omega) (by omega)), if_neg (show ¬ nI 2 = (0 : Int32) by decide), if_neg (show ¬ nI 2 = (1 : Int32) by decide), if_pos (show nI 2 = (2 : Int32) from rfl), k1, Option.bind_some]
            exact f1
          · unfold fX12_lawOf
            rw [show si SM 1 (0 : Int32) = si SM 1 (nI 0) from rfl, p2, Option.bind_some, if_pos (show gi (si (si SM 1 (nI 0)) 0 (nI 0)) 0 = 0 from rfl), hI, ey, Option.bind_some, if_neg (show ¬ bi true = (0 : Int32) by decide)]
            unfold fX12_lawOf_37
            rw [if_pos (show gi (si (si SM 1 (nI 0)) 0 (nI 0)) 0 ≤ 0 from z_00), m1, Option.bind_some]
            exact f2
          · rcases f3 with ⟨rfl, rfl⟩ | ⟨rfl, rfl⟩
            · exact rl_scrL hR m4 m5
            · refine rl_scrL (M' := si M' 0 (nI 8)) (v := nI 8) hR (fun k h1 h2 => ?_) m5
              rw [q_gi, q_gi]
              by_cases k0 : k = 0
              · rw [if_pos k0, if_pos k0]
              · rw [if_neg k0, if_neg k0, m4 k h1 h2, q_gi, if_neg k0]
      · exact bad s (by omega) s10 p1 p2
    · obtain ⟨s, s10, p1, p2, p3⟩ := law_w3 (SC := SC) (SY0 := SY0) (SY1 := SY1) (SY2 := SY2) (SY3 := SY3) (M := si SM 1 (nI 0)) hY3 a2
      by_cases c : s = 0
      · subst c
        obtain ⟨n, hn, rfl, hlok⟩ := p3 rfl
        have er : ∀ i, i < 60 → rl SY3 1 i = rowOf SM 3 i := fun i hi => hY3.2.2 i hi
        have k1 := Y_fit hn hlok
        have k2 := lwX_cnt hlok
        have zz : nI 0 = (0 : Int32) := rfl
        rcases q_ix a3 2 (by omega) with ⟨h, e⟩ | ⟨h, h2', e⟩ | ⟨y, hy, rfl⟩
        · refine ⟨(nM, si SC 0 (nI 5)), (nM, si (si (si SM 1 (nI 0)) 0 (nI 0)) 0 (nI 5)), ?_, ?_, rfl, rl_st2 hR _ _⟩
          · unfold fX11_lawOf
            rw [p1, Option.bind_some, if_pos zz, if_pos (show a3 < 0 from h)]
            exact ex
          · unfold fX12_lawOf
            rw [show si SM 1 (0 : Int32) = si SM 1 (nI 0) from rfl, p2, Option.bind_some, if_pos (show gi (si (si SM 1 (nI 0)) 0 (nI 0)) 0 = 0 from rfl), hI, e, Option.bind_some, if_pos (show bi false = (0 : Int32) from rfl)]
            unfold fX12_lawOf_37
            rw [if_neg (show ¬ gi (si (si (si SM 1 (nI 0)) 0 (nI 0)) 0 5) 0 ≤ 0 from z_50)]
            rfl
        · refine ⟨(nM, si SC 0 (nI 5)), (nM, si (si (si SM 1 (nI 0)) 0 (nI 0)) 0 (nI 5)), ?_, ?_, rfl, rl_st2 hR _ _⟩
          · unfold fX11_lawOf
            rw [p1, Option.bind_some, if_pos zz, if_neg (show ¬ a3 < 0 from h2'), if_neg (show ¬ a3 ≤ (1 : Int32) from of_eq_false (q_bgle (a := 1) h (by omega) (by omega)))]
            exact ex
          · unfold fX12_lawOf
            rw [show si SM 1 (0 : Int32) = si SM 1 (nI 0) from rfl, p2, Option.bind_some, if_pos (show gi (si (si SM 1 (nI 0)) 0 (nI 0)) 0 = 0 from rfl), hI, e, Option.bind_some, if_pos (show bi false = (0 : Int32) from rfl)]
            unfold fX12_lawOf_37
            rw [if_neg (show ¬ gi (si (si (si SM 1 (nI 0)) 0 (nI 0)) 0 5) 0 ≤ 0 from z_50)]
            rfl
        · have ey : inb (nI y) 2 = true := q_inT hy (by omega)
          obtain ⟨M', m1, m2, m3, m4, m5⟩ := M_lays (M := si (si SM 1 (nI 0)) 0 (nI 0)) (j := 3) (by omega) hn (lok_cong hn er hlok)
          have eX : lwX (rowOf (si (si SM 1 (nI 0)) 0 (nI 0)) 3) n = lwX (rl SY3 1) n := (lwX_cong hn er).symm
          rw [eX] at m2 m3
          obtain ⟨r, v, S', f1, f2, f3⟩ := lawOf_eq (SC := SC) (SY0 := SY0) (SY1 := SY1) (SY2 := SY2) (SY3 := SY3) (y := nI y) m3
          refine ⟨(r, si SC 0 v), (r, S'), ?_, ?_, rfl, ?_⟩
          · unfold fX11_lawOf
            rw [p1, Option.bind_some, if_pos zz, if_neg (show ¬ nI y < 0 from nI_pos (by omega)), if_pos (show nI y ≤ (1 : Int32) from nI_le (b := 1) (by omega) (by omega)), if_neg (show ¬ nI 3 = (0 : Int32) by decide), if_neg (show ¬ nI 3 = (1 : Int32) by decide), if_neg (show ¬ nI 3 = (2 : Int32) by decide), if_pos (show nI 3 = (3 : Int32) from rfl), k1, Option.bind_some]
            exact f1
          · unfold fX12_lawOf
            rw [show si SM 1 (0 : Int32) = si SM 1 (nI 0) from rfl, p2, Option.bind_some, if_pos (show gi (si (si SM 1 (nI 0)) 0 (nI 0)) 0 = 0 from rfl), hI, ey, Option.bind_some, if_neg (show ¬ bi true = (0 : Int32) by decide)]
            unfold fX12_lawOf_37
            rw [if_pos (show gi (si (si SM 1 (nI 0)) 0 (nI 0)) 0 ≤ 0 from z_00), m1, Option.bind_some]
            exact f2
          · rcases f3 with ⟨rfl, rfl⟩ | ⟨rfl, rfl⟩
            · exact rl_scrL hR m4 m5
            · refine rl_scrL (M' := si M' 0 (nI 8)) (v := nI 8) hR (fun k h1 h2 => ?_) m5
              rw [q_gi, q_gi]
              by_cases k0 : k = 0
              · rw [if_pos k0, if_pos k0]
              · rw [if_neg k0, if_neg k0, m4 k h1 h2, q_gi, if_neg k0]
      · exact bad s (by omega) s10 p1 p2
theorem o_ask : op_ask Rl := by
  intro SC SY0 SY1 SY2 SY3 SB ST0 SE0 ST2 SE2 ST3 SE3 ST4 SE4 SV0 SM  hR a1 a2
  obtain ⟨hs, hF, hU, hT, ⟨hY0, hY1, hY2, hY3⟩, ⟨t, w, hC, hN0, n1, n2, n3, hE⟩, hK, hV⟩ := id hR
  have hN := tb_N0 hN0
  have hN2 : tb_N (si (si SM 1 (nI 0)) 0 (nI 0)) t := hN
  have hNu : ∀ i, i < 92 → ra SM 5 i = nI (t i) := hN
  obtain ⟨w0, w1, w2, w3, w4, w5, w6, w7, w8, w9⟩ := id w
  obtain ⟨h0, h1, h2, h3, h4, h5, h6, h7, h8, h9, h10, h11, h12, h13, h14, h15, h16⟩ := id hC
  have bad : ∀ v : Nat, 0 < v → v < 10 → fX11_lawStatus SC SY0 SY1 SY2 SY3 a1 a2 = some (nI v) → fX12_whyNoLaw (si SM 1 (nI 0)) a1 a2 = some (nI v) → ∃ (z : Int32 × ms_T) (w : Int32 × ms_T), fX11_ask SC SY0 SY1 SY2 SY3 a1 a2 = some z ∧ fX12_ask SM a1 a2 = some w ∧ z.1 = w.1 ∧ Rl z.2 SY0 SY1 SY2 SY3 SB ST0 SE0 ST2 SE2 ST3 SE3 ST4 SE4 SV0 w.2 := by
    intro v hv hv2 g1 g2
    refine ⟨(nM, si SC 0 (nI v)), (nM, si (si SM 1 (nI 0)) 0 (nI v)), ?_, ?_, rfl, rl_st hR _⟩
    · unfold fX11_ask
      rw [g1, Option.bind_some, if_neg (show ¬ nI v = (0 : Int32) from fun e => absurd ((nI_eq (b := 0) (by omega) (by omega)).mp e) (by omega))]
      rfl
    · unfold fX12_ask
      rw [show si SM 1 (0 : Int32) = si SM 1 (nI 0) from rfl, g2, Option.bind_some]
      rw [if_neg (show ¬ gi (si (si SM 1 (nI 0)) 0 (nI v)) 0 ≤ 0 from nI_ge (a := 0) hv (by omega))]
      rfl
  rcases q_ix a1 4 (by omega) with ⟨h, e⟩ | ⟨h, h2', e⟩ | ⟨j, hj, rfl⟩
  · exact bad 1 (by omega) (by omega) (C_law1 e) (M_law1 e)
  · exact bad 1 (by omega) (by omega) (C_law1 e) (M_law1 e)
  · rcases (by omega : j = 0 ∨ j = 1 ∨ j = 2 ∨ j = 3) with rfl | rfl | rfl | rfl
    · obtain ⟨s, s10, p1, p2, p3⟩ := law_w0 (SC := SC) (SY0 := SY0) (SY1 := SY1) (SY2 := SY2) (SY3 := SY3) (M := si SM 1 (nI 0)) hY0 a2
      by_cases c : s = 0
      · subst c
        obtain ⟨n, hn, rfl, hlok⟩ := p3 rfl
        have er : ∀ i, i < 60 → rl SY0 1 i = rowOf SM 0 i := fun i hi => hY0.2.2 i hi
        have k1 := Y_fit hn hlok
        have k2 := lwX_cnt hlok
        have zz : nI 0 = (0 : Int32) := rfl
        obtain ⟨M', m1, m2, m3, m4, m5⟩ := M_lays (M := si (si SM 1 (nI 0)) 0 (nI 0)) (j := 0) (by omega) hn (lok_cong hn er hlok)
        have eX : lwX (rowOf (si (si SM 1 (nI 0)) 0 (nI 0)) 0) n = lwX (rl SY0 1) n := (lwX_cong hn er).symm
        rw [eX] at m2 m3
        have hsz : siz (lwX (rl SY0 1) n) 32 ≤ 32 * 1 := sm_le (fun i _ => b2_le _)
        by_cases d : 2 ≤ siz (lwX (rl SY0 1) n) 32
        · refine ⟨(nI (bbs (lwX (rl SY0 1) n) 9), si SC 0 (nI 0)), (nI (bbs (lwX (rl SY0 1) n) 9), M'), ?_, ?_, rfl, rl_scrL hR m4 m5⟩
          · unfold fX11_ask
            rw [p1, Option.bind_some, if_pos zz, if_pos (show nI 0 = (0 : Int32) from rfl), k1, Option.bind_some, k2, Option.bind_some, if_pos (show (2 : Int32) ≤ nI (siz (lwX (rl SY0 1) n) 32) from nI_le d (by omega)), show fX11_mostAtOne (nI (lwX (rl SY0 1) n)) 1 = some (nI (mst (lwX (rl SY0 1) n) 1)) from C_most (h := 1) (by omega), Option.bind_some]
            exact C_ask
          · unfold fX12_ask
            rw [show si SM 1 (0 : Int32) = si SM 1 (nI 0) from rfl, p2, Option.bind_some, if_pos (show gi (si (si SM 1 (nI 0)) 0 (nI 0)) 0 ≤ 0 from z_00), m1, Option.bind_some, m2, if_pos (show (2 : Int32) ≤ nI (siz (lwX (rl SY0 1) n) 32) from nI_le d (by omega))]
            exact N_ask m3
        · refine ⟨(nM, si SC 0 (nI 8)), (nM, si M' 0 (nI 8)), ?_, ?_, rfl, rl_scrL (M' := si M' 0 (nI 8)) (v := nI 8) hR (fun k h1 h2 => ?_) m5⟩
          · unfold fX11_ask
            rw [p1, Option.bind_some, if_pos zz, if_pos (show nI 0 = (0 : Int32) from rfl), k1, Option.bind_some, k2, Option.bind_some, if_neg (show ¬ (2 : Int32) ≤ nI (siz (lwX (rl SY0 1) n) 32) from nI_ge (b := 2) (by omega) (by omega))]
            rfl
          · unfold fX12_ask
            rw [show si SM 1 (0 : Int32) = si SM 1 (nI 0) from rfl, p2, Option.bind_some, if_pos (show gi (si (si SM 1 (nI 0)) 0 (nI 0)) 0 ≤ 0 from z_00), m1, Option.bind_some, m2, if_neg (show ¬ (2 : Int32) ≤ nI (siz (lwX (rl SY0 1) n) 32) from nI_ge (b := 2) (by omega) (by omega))]
            rfl
          · rw [q_gi, q_gi]
            by_cases k0 : k = 0
            · rw [if_pos k0, if_pos k0]
            · rw [if_neg k0, if_neg k0, m4 k h1 h2, q_gi, if_neg k0]
      · exact bad s (by omega) s10 p1 p2
    · obtain ⟨s, s10, p1, p2, p3⟩ := law_w1 (SC := SC) (SY0 := SY0) (SY1 := SY1) (SY2 := SY2) (SY3 := SY3) (M := si SM 1 (nI 0)) hY1 a2
      by_cases c : s = 0
      · subst c
        obtain ⟨n, hn, rfl, hlok⟩ := p3 rfl
        have er : ∀ i, i < 60 → rl SY1 1 i = rowOf SM 1 i := fun i hi => hY1.2.2 i hi
        have k1 := Y_fit hn hlok
        have k2 := lwX_cnt hlok
        have zz : nI 0 = (0 : Int32) := rfl
        obtain ⟨M', m1, m2, m3, m4, m5⟩ := M_lays (M := si (si SM 1 (nI 0)) 0 (nI 0)) (j := 1) (by omega) hn (lok_cong hn er hlok)
        have eX : lwX (rowOf (si (si SM 1 (nI 0)) 0 (nI 0)) 1) n = lwX (rl SY1 1) n := (lwX_cong hn er).symm
        rw [eX] at m2 m3
        have hsz : siz (lwX (rl SY1 1) n) 32 ≤ 32 * 1 := sm_le (fun i _ => b2_le _)
        by_cases d : 2 ≤ siz (lwX (rl SY1 1) n) 32
        · refine ⟨(nI (bbs (lwX (rl SY1 1) n) 9), si SC 0 (nI 0)), (nI (bbs (lwX (rl SY1 1) n) 9), M'), ?_, ?_, rfl, rl_scrL hR m4 m5⟩
          · unfold fX11_ask
            rw [p1, Option.bind_some, if_pos zz, if_neg (show ¬ nI 1 = (0 : Int32) by decide), if_pos (show nI 1 = (1 : Int32) from rfl), k1, Option.bind_some, k2, Option.bind_some, if_pos (show (2 : Int32) ≤ nI (siz (lwX (rl SY1 1) n) 32) from nI_le d (by omega)), show fX11_mostAtOne (nI (lwX (rl SY1 1) n)) 1 = some (nI (mst (lwX (rl SY1 1) n) 1)) from C_most (h := 1) (by omega), Option.bind_some]
            exact C_ask
          · unfold fX12_ask
            rw [show si SM 1 (0 : Int32) = si SM 1 (nI 0) from rfl, p2, Option.bind_some, if_pos (show gi (si (si SM 1 (nI 0)) 0 (nI 0)) 0 ≤ 0 from z_00), m1, Option.bind_some, m2, if_pos (show (2 : Int32) ≤ nI (siz (lwX (rl SY1 1) n) 32) from nI_le d (by omega))]
            exact N_ask m3
        · refine ⟨(nM, si SC 0 (nI 8)), (nM, si M' 0 (nI 8)), ?_, ?_, rfl, rl_scrL (M' := si M' 0 (nI 8)) (v := nI 8) hR (fun k h1 h2 => ?_) m5⟩
          · unfold fX11_ask
            rw [p1, Option.bind_some, if_pos zz, if_neg (show ¬ nI 1 = (0 : Int32) by decide), if_pos (show nI 1 = (1 : Int32) from rfl), k1, Option.bind_some, k2, Option.bind_some, if_neg (show ¬ (2 : Int32) ≤ nI (siz (lwX (rl SY1 1) n) 32) from nI_ge (b := 2) (by omega) (by omega))]
            rfl
          · unfold fX12_ask
            rw [show si SM 1 (0 : Int32) = si SM 1 (nI 0) from rfl, p2, Option.bind_some, if_pos (show gi (si (si SM 1 (nI 0)) 0 (nI 0)) 0 ≤ 0 from z_00), m1, Option.bind_some, m2, if_neg (show ¬ (2 : Int32) ≤ nI (siz (lwX (rl SY1 1) n) 32) from nI_ge (b := 2) (by omega) (by omega))]
            rfl
          · rw [q_gi, q_gi]
            by_cases k0 : k = 0
            · rw [if_pos k0, if_pos k0]
            · rw [if_neg k0, if_neg k0, m4 k h1 h2, q_gi, if_neg k0]
      · exact bad s (by omega) s10 p1 p2
    · obtain ⟨s, s10, p1, p2, p3⟩ := law_w2 (SC := SC) (SY0 := SY0) (SY1 := SY1) (SY2 := SY2) (SY3 := SY3) (M := si SM 1 (nI 0)) hY2 a2
      by_cases c : s = 0
      · subst c
        obtain ⟨n, hn, rfl, hlok⟩ := p3 rfl
        have er : ∀ i, i < 60 → rl SY2 1 i = rowOf SM 2 i := fun i hi => hY2.2.2 i hi
        have k1 := Y_fit hn hlok
        have k2 := lwX_cnt hlok
        have zz : nI 0 = (0 : Int32) := rfl
        obtain ⟨M', m1, m2, m3, m4, m5⟩ := M_lays (M := si (si SM 1 (nI 0)) 0 (nI 0)) (j := 2) (by omega) hn (lok_cong hn er hlok)
        have eX : lwX (rowOf (si (si SM 1 (nI 0)) 0 (nI 0)) 2) n = lwX (rl SY2 1) n := (lwX_cong hn er).symm
        rw [eX] at m2 m3
        have hsz : siz (lwX (rl SY2 1) n) 32 ≤ 32 * 1 := sm_le (fun i _ => b2_le _)
        by_cases d : 2 ≤ siz (lwX (rl SY2 1) n) 32
        · refine ⟨(nI (bbs (lwX (rl SY2 1) n) 9), si SC 0 (nI 0)), (nI (bbs (lwX (rl SY2 1) n) 9), M'), ?_, ?_, rfl, rl_scrL hR m4 m5⟩
          · unfold fX11_ask
            rw [p1, Option.bind_some, if_pos zz, if_neg (show ¬ nI 2 = (0 : Int32) by decide), if_neg (show ¬ nI 2 = (1 : Int32) by decide), if_pos (show nI 2 = (2 : Int32) from rfl), k1, Option.bind_some, k2, Option.bind_some, if_pos (show (2 : Int32) ≤ nI (siz (lwX (rl SY2 1) n) 32) from nI_le d (by omega)), show fX11_mostAtOne (nI (lwX (rl SY2 1) n)) 1 = some (nI (mst (lwX (rl SY2 1) n) 1)) from C_most (h := 1) (by omega), Option.bind_some]
            exact C_ask
          · unfold fX12_ask
            rw [show si SM 1 (0 : Int32) = si SM 1 (nI 0) from rfl, p2, Option.bind_some, if_pos (show gi (si (si SM 1 (nI 0)) 0 (nI 0)) 0 ≤ 0 from z_00), m1, Option.bind_some, m2, if_pos (show (2 : Int32) ≤ nI (siz (lwX (rl SY2 1) n) 32) from nI_le d (by omega))]
            exact N_ask m3
        · refine ⟨(nM, si SC 0 (nI 8)), (nM, si M' 0 (nI 8)), ?_, ?_, rfl, rl_scrL (M' := si M' 0 (nI 8)) (v := nI 8) hR (fun k h1 h2 => ?_) m5⟩
          · unfold fX11_ask
            rw [p1, Option.bind_some, if_pos zz, if_neg (show ¬ nI 2 = (0 : Int32) by decide), if_neg (show ¬ nI 2 = (1 : Int32) by decide), if_pos (show nI 2 = (2 : Int32) from rfl), k1, Option.bind_some, k2, Option.bind_some, if_neg (show ¬ (2 : Int32) ≤ nI (siz (lwX (rl SY2 1) n) 32) from nI_ge (b := 2) (by omega) (by omega))]
            rfl
          · unfold fX12_ask
            rw [show si SM 1 (0 : Int32) = si SM 1 (nI 0) from rfl, p2, Option.bind_some, if_pos (show gi (si (si SM 1 (nI 0)) 0 (nI 0)) 0 ≤ 0 from z_00), m1, Option.bind_some, m2, if_neg (show ¬ (2 : Int32) ≤ nI (siz (lwX (rl SY2 1) n) 32) from nI_ge (b := 2) (by omega) (by omega))]
            rfl
          · rw [q_gi, q_gi]
            by_cases k0 : k = 0
            · rw [if_pos k0, if_pos k0]
            · rw [if_neg k0, if_neg k0, m4 k h1 h2, q_gi, if_neg k0]
      · exact bad s (by omega) s10 p1 p2
    · obtain ⟨s, s10, p1, p2, p3⟩ := law_w3 (SC := SC) (SY0 := SY0) (SY1 := SY1) (SY2 := SY2) (SY3 := SY3) (M := si SM 1 (nI 0)) hY3 a2
      by_cases c : s = 0
      · subst c
        obtain ⟨n, hn, rfl, hlok⟩ := p3 rfl
        have er : ∀ i, i < 60 → rl SY3 1 i = rowOf SM 3 i := fun i hi => hY3.2.2 i hi
        have k1 := Y_fit hn hlok
        have k2 := lwX_cnt hlok
        have zz : nI 0 = (0 : Int32) := rfl
        obtain ⟨M', m1, m2, m3, m4, m5⟩ := M_lays (M := si (si SM 1 (nI 0)) 0 (nI 0)) (j := 3) (by omega) hn (lok_cong hn er hlok)
        have eX : lwX (rowOf (si (si SM 1 (nI 0)) 0 (nI 0)) 3) n = lwX (rl SY3 1) n := (lwX_cong hn er).symm
        rw [eX] at m2 m3
        have hsz : siz (lwX (rl SY3 1) n) 32 ≤ 32 * 1 := sm_le (fun i _ => b2_le _)
        by_cases d : 2 ≤ siz (lwX (rl SY3 1) n) 32
        · refine ⟨(nI (bbs (lwX (rl SY3 1) n) 9), si SC 0 (nI 0)), (nI (bbs (lwX (rl SY3 1) n) 9), M'), ?_, ?_, rfl, rl_scrL hR m4 m5⟩
          · unfold fX11_ask
            rw [p1, Option.bind_some, if_pos zz, if_neg (show ¬ nI 3 = (0 : Int32) by decide), if_neg (show ¬ nI 3 = (1 : Int32) by decide), if_neg (show ¬ nI 3 = (2 : Int32) by decide), if_pos (show nI 3 = (3 : Int32) from rfl), k1, Option.bind_some, k2, Option.bind_some, if_pos (show (2 : Int32) ≤ nI (siz (lwX (rl SY3 1) n) 32) from nI_le d (by omega)), show fX11_mostAtOne (nI (lwX (rl SY3 1) n)) 1 = some (nI (mst (lwX (rl SY3 1) n) 1)) from C_most (h := 1) (by omega), Option.bind_some]
            exact C_ask
          · unfold fX12_ask
            rw [show si SM 1 (0 : Int32) = si SM 1 (nI 0) from rfl, p2, Option.bind_some, if_pos (show gi (si (si SM 1 (nI 0)) 0 (nI 0)) 0 ≤ 0 from z_00), m1, Option.bind_some, m2, if_pos (show (2 : Int32) ≤ nI (siz (lwX (rl SY3 1) n) 32) from nI_le d (by omega))]
            exact N_ask m3
        · refine ⟨(nM, si SC 0 (nI 8)), (nM, si M' 0 (nI 8)), ?_, ?_, rfl, rl_scrL (M' := si M' 0 (nI 8)) (v := nI 8) hR (fun k h1 h2 => ?_) m5⟩
          · unfold fX11_ask
            rw [p1, Option.bind_some, if_pos zz, if_neg (show ¬ nI 3 = (0 : Int32) by decide), if_neg (show ¬ nI 3 = (1 : Int32) by decide), if_neg (show ¬ nI 3 = (2 : Int32) by decide), if_pos (show nI 3 = (3 : Int32) from rfl), k1, Option.bind_some, k2, Option.bind_some, if_neg (show ¬ (2 : Int32) ≤ nI (siz (lwX (rl SY3 1) n) 32) from nI_ge (b := 2) (by omega) (by omega))]
            rfl
          · unfold fX12_ask
            rw [show si SM 1 (0 : Int32) = si SM 1 (nI 0) from rfl, p2, Option.bind_some, if_pos (show gi (si (si SM 1 (nI 0)) 0 (nI 0)) 0 ≤ 0 from z_00), m1, Option.bind_some, m2, if_neg (show ¬ (2 : Int32) ≤ nI (siz (lwX (rl SY3 1) n) 32) from nI_ge (b := 2) (by omega) (by omega))]
            rfl
          · rw [q_gi, q_gi]
            by_cases k0 : k = 0
            · rw [if_pos k0, if_pos k0]
            · rw [if_neg k0, if_neg k0, m4 k h1 h2, q_gi, if_neg k0]
      · exact bad s (by omega) s10 p1 p2
