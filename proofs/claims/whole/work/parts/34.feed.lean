/-! feed, lived -/
def fedC (SC SC' : ms_T) (n : Nat) : Prop := gi SC' 5 = nI n ∧ (∀ k, k ≠ 5 → gi SC' k = gi SC k) ∧ SC'.2 = SC.2
def fedM (M M' : ms_T) (n : Nat) : Prop := gi M' 8 = nI n ∧ (∀ k, k ≠ 8 → gi M' k = gi M k) ∧ M'.2.1 = M.2.1 ∧ (∀ a, a ≠ 4 → ra M' a = ra M a) ∧ M'.2.2.2 = M.2.2.2
theorem fedC.tr {A B C : ms_T} {n m : Nat} (h : fedC A B n) (h2 : fedC B C m) : fedC A C m := ⟨h2.1, fun k hk => (h2.2.1 k hk).trans (h.2.1 k hk), h2.2.2.trans h.2.2⟩
theorem fedM.tr {A B C : ms_T} {n m : Nat} (h : fedM A B n) (h2 : fedM B C m) : fedM A C m := ⟨h2.1, fun k hk => (h2.2.1 k hk).trans (h.2.1 k hk), h2.2.2.1.trans h.2.2.1, fun a ha => (h2.2.2.2.1 a ha).trans (h.2.2.2.1 a ha), h2.2.2.2.2.trans h.2.2.2.2⟩
def tapes (SB M : ms_T) : Prop := ∀ i, i < 900 → ra SB 0 i = ra M 4 i ∧ (ra SB 0 i).toInt8.toInt32 = ra SB 0 i
theorem by_norm (x : Int32) : (x.toInt8.toInt32).toInt8.toInt32 = x.toInt8.toInt32 := by
  have h := pk_vb x
  unfold vp_nar at h
  simpa using congrArg (fun y : Int32 => y.toInt8.toInt32) (rfl : x.toInt8.toInt32 = x.toInt8.toInt32)
theorem put_one {SC SB M : ms_T} {n f f2 : Nat} {v a b : Int32} (h5 : gi SC 5 = nI n) (h8 : gi M 8 = nI n) (hn : n < 900) (hT : tapes SB M) (ha : ¬ a < 0) (hb : ¬ b < 0) (hab : a = (8 : Int32) * b) :
    ∃ SC' SB' M', fX11_putOnTape_3 (f + 1) SC SB v a = fX11_putOnTape_3 f SC' SB' v (a + (-8 : Int32)) ∧ fX12_lay_2 (f2 + 1) M v b = fX12_lay_2 f2 M' v (b + (-1 : Int32)) ∧ fedC SC SC' (n + 1) ∧ fedM M M' (n + 1) ∧ tapes SB' M' := by
  subst hab
  refine ⟨si SC 5 (nI (n + 1)), sr SB 0 (upd (ra SB 0) n ((v >>> (((8 : Int32) * b) &&& 31)).toInt8.toInt32)), si (sr M 4 (upd (ra M 4) n ((v >>> (((8 : Int32) * b) &&& 31)).toInt8.toInt32))) 8 (nI (n + 1)), ?_, ?_, ⟨rfl, fun k hk => ?_, rfl⟩, ⟨rfl, fun k hk => ?_, rfl, fun k hk => ?_, rfl⟩, ?_⟩
  · have e : inb (nI n) 900 = true := q_inT hn (by omega)
    show (if _ then _ else _) = _
    rw [if_neg ha, h5, if_pos e, pk_vb, nI_1]
    show fX11_putOnTape_3 f _ (sr SB 0 (upd (ra SB 0) (nI n).toNatClampNeg _)) v _ = _
    rw [nI_clamp (by omega)]
  · have e : inb (nI n) 900 = true := q_inT hn (by omega)
    show (if _ then _ else _) = _
    rw [if_neg hb, h8, if_pos e, pk_vb]
    show fX12_lay_2 f2 (si (sr M 4 (upd (ra M 4) (nI n).toNatClampNeg _)) 8 (gi M 8 + 1)) v _ = _
    rw [nI_clamp (by omega), h8, nI_1]
  · rw [q_gi, if_neg hk]
  · rw [q_gi, if_neg hk]; rfl
  · show (if k = 4 then _ else _) = _
    rw [if_neg hk]; rfl
  · intro i hi
    show upd (ra SB 0) n _ i = upd (ra M 4) n _ i ∧ (upd (ra SB 0) n _ i).toInt8.toInt32 = upd (ra SB 0) n _ i
    by_cases c : i = n
    · rw [up_e _ _ _ c, up_e _ _ _ c]
      exact ⟨rfl, by_norm _⟩
    · rw [up_n _ _ _ c, up_n _ _ _ c]
      exact hT i hi
theorem feed1 {SC SB M : ms_T} {n : Nat} (v : Int32) (h5 : gi SC 5 = nI n) (h8 : gi M 8 = nI n) (hn : n + 4 ≤ 900) (hT : tapes SB M) :
    ∃ SC' SB' M', fX11_putOnTape SC SB v = some (SC', SB') ∧ fX12_lay M v = some M' ∧ fedC SC SC' (n + 4) ∧ fedM M M' (n + 4) ∧ tapes SB' M' := by
  obtain ⟨C1, B1, M1, a1, a2, a3, a4, a5⟩ := put_one (f := 999999) (f2 := 999999) (v := v) (a := 24) (b := 3) h5 h8 (by omega) hT (by decide) (by decide) rfl
  obtain ⟨C2, B2, M2, b1, b2, b3, b4, b5⟩ := put_one (f := 999998) (f2 := 999998) (v := v) (a := 24 + (-8 : Int32)) (b := 3 + (-1 : Int32)) a3.1 a4.1 (by omega) a5 (by decide) (by decide) (by decide)
  obtain ⟨C3, B3, M3, c1, c2, c3, c4, c5⟩ := put_one (f := 999997) (f2 := 999997) (v := v) (a := 24 + (-8 : Int32) + (-8 : Int32)) (b := 3 + (-1 : Int32) + (-1 : Int32)) b3.1 b4.1 (by omega) b5 (by decide) (by decide) (by decide)
  obtain ⟨C4, B4, M4, d1, d2, d3, d4, d5⟩ := put_one (f := 999996) (f2 := 999996) (v := v) (a := 24 + (-8 : Int32) + (-8 : Int32) + (-8 : Int32)) (b := 3 + (-1 : Int32) + (-1 : Int32) + (-1 : Int32)) c3.1 c4.1 (by omega) c5 (by decide) (by decide) (by decide)
  refine ⟨C4, B4, M4, ?_, ?_, ((a3.tr b3).tr c3).tr d3, ((a4.tr b4).tr c4).tr d4, d5⟩
  · show fX11_putOnTape_3 (999999 + 1) SC SB v 24 = _
    rw [a1]
    show fX11_putOnTape_3 (999998 + 1) C1 B1 v _ = _
    rw [b1]
    show fX11_putOnTape_3 (999997 + 1) C2 B2 v _ = _
    rw [c1]
    show fX11_putOnTape_3 (999996 + 1) C3 B3 v _ = _
    rw [d1]
    show (if _ then _ else _) = _
    rw [if_pos (by decide)]
  · show fX12_lay_2 (999999 + 1) M v 3 = _
    rw [a2]
    show fX12_lay_2 (999998 + 1) M1 v _ = _
    rw [b2]
    show fX12_lay_2 (999997 + 1) M2 v _ = _
    rw [c2]
    show fX12_lay_2 (999996 + 1) M3 v _ = _
    rw [d2]
    show (if _ then _ else _) = _
    rw [if_pos (by decide)]
theorem rl_fed {SC SY0 SY1 SY2 SY3 SB ST0 SE0 ST2 SE2 ST3 SE3 ST4 SE4 SV0 SM C' B' M' : ms_T} {n : Nat} (hR : Rl SC SY0 SY1 SY2 SY3 SB ST0 SE0 ST2 SE2 ST3 SE3 ST4 SE4 SV0 SM) (hn : n ≤ 900) (h1 : fedC SC C' n) (h2 : fedM SM M' n) (h3 : tapes B' M') : Rl C' SY0 SY1 SY2 SY3 B' ST0 SE0 ST2 SE2 ST3 SE3 ST4 SE4 SV0 M' := by
  obtain ⟨hs, hF, hU, hT, hY, hB, hK, hV⟩ := hR
  obtain ⟨c5, ck, c2⟩ := h1
  obtain ⟨m8, mk, m2, ma, m3⟩ := h2
  have r5 : ra M' 5 = ra SM 5 := ma 5 (by omega)
  have r7 : rl M' 7 = rl SM 7 := by show M'.2.2.2 7 = SM.2.2.2 7; rw [m3]
  have r3 : rl M' 3 = rl SM 3 := by show M'.2.2.2 3 = SM.2.2.2 3; rw [m3]
  have g : ∀ k, gl M' k = gl SM k := fun k => by show M'.2.1 k = SM.2.1 k; rw [m2]
  have gc : ∀ k, gl C' k = gl SC k := fun k => by show C'.2.1 k = SC.2.1 k; rw [c2]
  refine ⟨?_, ?_, ?_, ⟨⟨n, hn, c5, m8⟩, h3⟩, ?_, rl_B_keep2 r5 r7 hB, ?_, ?_⟩
  · rw [ck 0 (by omega), mk 0 (by omega)]; exact hs
  · unfold rl_F at *; rw [gc, gc, g, g]; exact hF
  · unfold rl_U at *; rw [ck 8 (by omega), ck 9 (by omega), mk 10 (by omega), mk 11 (by omega)]; exact hU
  · unfold rl_Y at *; rw [ma 1 (by omega), ma 2 (by omega), r3]; exact hY
  · unfold rl_K at *
    rw [ck 13 (by omega), mk 23 (by omega)]
    obtain ⟨k, k1, k2, k3, k4, k5, k6⟩ := hK
    exact ⟨k, k1, k2, k3, fun h => rl_B_keep2 r5 r7 (k4 h), fun h => rl_B_keep2 r5 r7 (k5 h), fun h => rl_B_keep2 r5 r7 (k6 h)⟩
  · unfold rl_V at *; rw [ck 16 (by omega), mk 40 (by omega), ma 12 (by omega)]; exact hV
theorem o_feed : op_feed Rl := by
  intro SC SY0 SY1 SY2 SY3 SB ST0 SE0 ST2 SE2 ST3 SE3 ST4 SE4 SV0 SM hR a1 a2 a3 a4 a5
  obtain ⟨hs, hF, hU, ⟨⟨n, hn, c5, m8⟩, hT⟩, -⟩ := id hR
  have m8' : gi (si SM 1 (0 : Int32)) 8 = nI n := m8
  by_cases c : n + 20 ≤ 900
  · obtain ⟨C1, B1, M1, x1, x2, x3, x4, x5⟩ := feed1 (M := si SM 1 (0 : Int32)) a1 c5 m8 (by omega) hT
    obtain ⟨C2, B2, M2, y1, y2, y3, y4, y5⟩ := feed1 a2 x3.1 x4.1 (by omega) x5
    obtain ⟨C3, B3, M3, z1, z2, z3, z4, z5⟩ := feed1 a3 y3.1 y4.1 (by omega) y5
    obtain ⟨C4, B4, M4, u1, u2, u3, u4, u5⟩ := feed1 a4 z3.1 z4.1 (by omega) z5
    obtain ⟨C5, B5, M5, v1, v2, v3, v4, v5⟩ := feed1 a5 u3.1 u4.1 (by omega) u5
    have t3 := (((x3.tr y3).tr z3).tr u3).tr v3
    have t4 := (((x4.tr y4).tr z4).tr u4).tr v4
    have g1 : nI n + 20 ≤ (900 : Int32) := by
      have : nI n + nI 20 ≤ nI 900 := by rw [nI_add]; exact nI_le (by omega) (by omega)
      exact this
    refine ⟨(gi C5 5, C5, B5), (gi M5 8, M5), ?_, ?_, ?_, rl_fed (rl_st0 hR) (by omega) t3 t4 v5⟩
    · unfold fX11_feed
      rw [c5, if_pos g1, x1, Option.bind_some, y1, Option.bind_some, z1, Option.bind_some, u1, Option.bind_some, v1, Option.bind_some]
    · unfold fX12_feed
      rw [m8', if_pos g1, x2, Option.bind_some, y2, Option.bind_some, z2, Option.bind_some, u2, Option.bind_some, v2, Option.bind_some]
    · show gi C5 5 = gi M5 8
      rw [v3.1, v4.1]
  · have g1 : ¬ nI n + 20 ≤ (900 : Int32) := by
      have : ¬ nI n + nI 20 ≤ nI 900 := by rw [nI_add]; exact nI_ge (by omega) (by omega)
      exact this
    refine ⟨(-1, SC, SB), (-1, si SM 1 (0 : Int32)), ?_, ?_, rfl, rl_st0 hR⟩
    · unfold fX11_feed; rw [c5, if_neg g1]
    · unfold fX12_feed; rw [m8', if_neg g1]
