theorem lw_63 (x : Int32) : ∃ k : Nat, k < 64 ∧ (x &&& (63 : Int32)) = nI k := by
  refine ⟨(x.toBitVec &&& 63#32).toNat, ?_, ?_⟩
  · rw [BitVec.toNat_and]
    exact Nat.lt_of_le_of_lt Nat.and_le_right (by decide)
  · apply Int32.toBitVec_inj.1
    rw [Int32.toBitVec_and]
    show x.toBitVec &&& 63#32 = BitVec.ofNat 32 (x.toBitVec &&& 63#32).toNat
    apply BitVec.eq_of_toNat_eq
    rw [BitVec.toNat_ofNat, Nat.mod_eq_of_lt (BitVec.isLt _)]
theorem lw_vp {j L : Nat} (h : j < L) (hL : L ≤ 3072) : vp_in (nI j) L := inb_vp (q_inT h (by omega))
section LO
variable {p : Program} {l : Launch} {e : Env} {s : State} {m : MethodId} {args : Array Value} {below : List Frame} {meth : Method} {c : Code} {cells slots : Nat} {Q : State → Prop}
variable {dC : Nat → ClassId} {dI : Nat → Nat → Nat} {ca : Nat → ClassId} {A : Nat → Prop} {b L : Nat} {xs : Nat → Int32} {q : Nat → Nat → Nat} {i : Int32} {Rel : lw_RT}
def lw_M (p : Program) (l : Launch) (e : Env) (s : State) (m : MethodId) (args : Array Value) (below : List Frame) (meth : Method) (c : Code) (cells slots : Nat) (Q : State → Prop) (dC : Nat → ClassId) (dI : Nat → Nat → Nat) (ca : Nat → ClassId) (A : Nat → Prop) (q : Nat → Nat → Nat) (b : Nat) (i : Int32) (Rel : lw_RT) (v : Int32) (pc : Nat) : Prop :=
  ∀ (vR vG1 vG2 vV00 vV01 vV10 vV11 vW vU : Value) (SC SY0 SY1 SY2 SY3 SB SR SG SP0 ST0 SE0 SP1 ST1 SE1 SP2 ST2 SE2 SP3 ST3 SE3 SP4 ST4 SE4 SV0 SV1 SW SU SK SM : ms_T), Rel SC SY0 SY1 SY2 SY3 SB ST0 SE0 ST2 SE2 ST3 SE3 ST4 SE4 SV0 SM → ∀ (H : Heap) (locs : List Loc) (ls : Array Slot), va_P (dC, dI) classes (lw_W ca q vR vG1 vG2 vV00 vV01 vV10 vV11 vW vU SC SY0 SY1 SY2 SY3 SB SR SG SP0 ST0 SE0 SP1 ST1 SE1 SP2 ST2 SE2 SP3 ST3 SE3 SP4 ST4 SE4 SV0 SV1 SW SU SK SM) H → va_D A (lw_W ca q vR vG1 vG2 vV00 vV01 vV10 vV11 vW vU SC SY0 SY1 SY2 SY3 SB SR SG SP0 ST0 SE0 SP1 ST1 SE1 SP2 ST2 SE2 SP3 ST3 SE3 SP4 ST4 SE4 SV0 SV1 SW SU SK SM) → va_S A s.heap H locs → lv_has ls 4 [(0, .ref b), (1, .ref (q 0 0)), (2, .ref (q 30 0)), (3, .int i)] → W p l e room_1 s m args below meth c H locs cells slots Q (F0 m pc ls [.int v])
theorem lw_in {v : Int32} {off : Int} {tgt : Nat} (k : Nat) (X : tc_X dC dI ca A RL code 4 ret p s m args meth c) (hv : v = nI k) (hk : k < 52) (ho : (#[223, 236, 250, 264, 307, 380, 414, 477, 540, 563, 586, 609, 632, 665, 698, 731, 764, 787, 820, 853, 902, 925, 948, 981, 1024, 1057, 1090, 1113, 1136, 1159, 1182, 1215, 1268, 1291, 1324, 1357, 1400, 1433, 1466, 1499, 1512, 1535, 1568, 1581, 1604, 1647, 1690, 1713, 1736, 1759, 1792, 1805] : Array Int)[k]? = some off) (ht : ((33 : Nat) : Int) + off = (tgt : Int)) (K : lw_N p l e s m args below meth c cells slots Q dC dI ca A q b i Rel tgt) : lw_M p l e s m args below meth c cells slots Q dC dI ca A q b i Rel v 33 := by
  obtain ⟨hx, hb, hr, hml, hown, hts, hlk, hK, hA, hG⟩ := id X
  intro vR vG1 vG2 vV00 vV01 vV10 vV11 vW vU SC SY0 SY1 SY2 SY3 SB SR SG SP0 ST0 SE0 SP1 ST1 SE1 SP2 ST2 SE2 SP3 ST3 SE3 SP4 ST4 SE4 SV0 SV1 SW SU SK SM hRel H locs ls hP hD hS hl
  have hv2 : v.toInt = (k : Int) := by rw [hv, nI_toInt (by omega)]
  refine lv_tableIn (tgt := tgt) hx hb dL_33 (by omega) (by omega) (by rw [hv2, show ((k : Int) - 0).toNat = k by omega]; exact ho) ht ?_
  exact K vR vG1 vG2 vV00 vV01 vV10 vV11 vW vU SC SY0 SY1 SY2 SY3 SB SR SG SP0 ST0 SE0 SP1 ST1 SE1 SP2 ST2 SE2 SP3 ST3 SE3 SP4 ST4 SE4 SV0 SV1 SW SU SK SM hRel H locs ls hP hD hS hl
theorem lw_out {v : Int32} (k : Nat) (X : tc_X dC dI ca A RL code 4 ret p s m args meth c) (hv : v = nI k) (hk : 52 ≤ k) (hk2 : k < 64) (K : lw_N p l e s m args below meth c cells slots Q dC dI ca A q b i Rel 1851) : lw_M p l e s m args below meth c cells slots Q dC dI ca A q b i Rel v 33 := by
  obtain ⟨hx, hb, hr, hml, hown, hts, hlk, hK, hA, hG⟩ := id X
  intro vR vG1 vG2 vV00 vV01 vV10 vV11 vW vU SC SY0 SY1 SY2 SY3 SB SR SG SP0 ST0 SE0 SP1 ST1 SE1 SP2 ST2 SE2 SP3 ST3 SE3 SP4 ST4 SE4 SV0 SV1 SW SU SK SM hRel H locs ls hP hD hS hl
  have hv2 : v.toInt = (k : Int) := by rw [hv, nI_toInt (by omega)]
  refine lv_tableOut (tgt := 1851) hx hb dL_33 (Or.inr (by omega)) (by decide) ?_
  exact K vR vG1 vG2 vV00 vV01 vV10 vV11 vW vU SC SY0 SY1 SY2 SY3 SB SR SG SP0 ST0 SE0 SP1 ST1 SE1 SP2 ST2 SE2 SP3 ST3 SE3 SP4 ST4 SE4 SV0 SV1 SW SU SK SM hRel H locs ls hP hD hS hl
set_option maxRecDepth 20000 in
theorem lw_sw {v : Int32} (X : tc_X dC dI ca A RL code 4 ret p s m args meth c) (hX : va_X b L xs s s.heap) (hbl : b < s.heap.size) (hbA : ¬ A b) (hfit : cells + 0 ≤ room_1.cells ∧ slots + 0 ≤ room_1.slots) (ops : op_status Rel ∧ op_top Rel ∧ op_bottom Rel ∧ op_tray Rel ∧ op_write Rel ∧ op_read Rel ∧ op_pour Rel ∧ op_feed Rel ∧ op_table Rel ∧ op_evenings Rel ∧ op_fault Rel ∧ op_many Rel ∧ op_topic Rel ∧ op_claim Rel ∧ op_talker Rel ∧ op_feud Rel ∧ op_copyHeights Rel ∧ op_say Rel ∧ op_drop Rel ∧ op_pull Rel ∧ op_prop Rel ∧ op_cut Rel ∧ op_lift Rel ∧ op_rewrite Rel ∧ op_think Rel ∧ op_anger Rel ∧ op_rule Rel ∧ op_holdsUp Rel ∧ op_holdsUpSet Rel ∧ op_bringsDown Rel ∧ op_way Rel ∧ op_wayAt Rel ∧ op_from Rel ∧ op_oddsThat Rel ∧ op_laws Rel ∧ op_lawOf Rel ∧ op_ask Rel ∧ op_best Rel ∧ op_bestAt Rel ∧ op_peace Rel ∧ op_quarrels Rel ∧ op_spread Rel ∧ op_seating Rel ∧ op_seatOf Rel ∧ op_game Rel ∧ op_moveOf Rel ∧ op_chutes Rel ∧ op_live Rel ∧ op_lived Rel ∧ op_mean Rel ∧ op_mark Rel ∧ op_back Rel) (hi1 : vp_in (i + (1 : Int32)) L) (hi2 : vp_in (i + (2 : Int32)) L) (hi3 : vp_in (i + (3 : Int32)) L) (hi4 : vp_in (i + (4 : Int32)) L) (hi5 : vp_in (i + (5 : Int32)) L) (k : Nat) (hv : v = nI k) (hk : k < 64) (next : lw_N p l e s m args below meth c cells slots Q dC dI ca A q b i Rel 1851) : lw_M p l e s m args below meth c cells slots Q dC dI ca A q b i Rel v 33 := by
  obtain ⟨o_z0, o_z1, o_z2, o_z3, o_z4, o_z5, o_z6, o_z7, o_z8, o_z9, o_z10, o_z11, o_z12, o_z13, o_z14, o_z15, o_z16, o_z17, o_z18, o_z19, o_z20, o_z21, o_z22, o_z23, o_z24, o_z25, o_z26, o_z27, o_z28, o_z29, o_z30, o_z31, o_z32, o_z33, o_z34, o_z35, o_z36, o_z37, o_z38, o_z39, o_z40, o_z41, o_z42, o_z43, o_z44, o_z45, o_z46, o_z47, o_z48, o_z49, o_z50, o_z51⟩ := ops
  have h0 : 0 ≤ k := Nat.zero_le k
  rcases Nat.eq_or_lt_of_le h0 with h | h1
  · exact lw_in (tgt := 256) 0 X (by rw [hv, ← h]) (by decide) rfl (by decide) (lw_c_status X hX hbl hbA hfit o_z0 hi1 hi2 hi3 hi4 hi5 next)
  rcases Nat.eq_or_lt_of_le (show 1 ≤ k from h1) with h | h2
  · exact lw_in (tgt := 269) 1 X (by rw [hv, ← h]) (by decide) rfl (by decide) (lw_c_top X hX hbl hbA hfit o_z1 hi1 hi2 hi3 hi4 hi5 next)
  rcases Nat.eq_or_lt_of_le (show 2 ≤ k from h2) with h | h3
  · exact lw_in (tgt := 283) 2 X (by rw [hv, ← h]) (by decide) rfl (by decide) (lw_c_bottom X hX hbl hbA hfit o_z2 hi1 hi2 hi3 hi4 hi5 next)
  rcases Nat.eq_or_lt_of_le (show 3 ≤ k from h3) with h | h4
  · exact lw_in (tgt := 297) 3 X (by rw [hv, ← h]) (by decide) rfl (by decide) (lw_c_tray X hX hbl hbA hfit o_z3 hi1 hi2 hi3 hi4 hi5 next)
  rcases Nat.eq_or_lt_of_le (show 4 ≤ k from h4) with h | h5
  · exact lw_in (tgt := 340) 4 X (by rw [hv, ← h]) (by decide) rfl (by decide) (lw_c_write X hX hbl hbA hfit o_z4 hi1 hi2 hi3 hi4 hi5 next)
  rcases Nat.eq_or_lt_of_le (show 5 ≤ k from h5) with h | h6
  · exact lw_in (tgt := 413) 5 X (by rw [hv, ← h]) (by decide) rfl (by decide) (lw_c_read X hX hbl hbA hfit o_z5 hi1 hi2 hi3 hi4 hi5 next)
  rcases Nat.eq_or_lt_of_le (show 6 ≤ k from h6) with h | h7
  · exact lw_in (tgt := 447) 6 X (by rw [hv, ← h]) (by decide) rfl (by decide) (lw_c_pour X hX hbl hbA hfit o_z6 hi1 hi2 hi3 hi4 hi5 next)
  rcases Nat.eq_or_lt_of_le (show 7 ≤ k from h7) with h | h8
  · exact lw_in (tgt := 510) 7 X (by rw [hv, ← h]) (by decide) rfl (by decide) (lw_c_feed X hX hbl hbA hfit o_z7 hi1 hi2 hi3 hi4 hi5 next)
  rcases Nat.eq_or_lt_of_le (show 8 ≤ k from h8) with h | h9
  · exact lw_in (tgt := 573) 8 X (by rw [hv, ← h]) (by decide) rfl (by decide) (lw_c_table X hX hbl hbA hfit o_z8 hi1 hi2 hi3 hi4 hi5 next)
  rcases Nat.eq_or_lt_of_le (show 9 ≤ k from h9) with h | h10
  · exact lw_in (tgt := 596) 9 X (by rw [hv, ← h]) (by decide) rfl (by decide) (lw_c_evenings X hX hbl hbA hfit o_z9 hi1 hi2 hi3 hi4 hi5 next)
  rcases Nat.eq_or_lt_of_le (show 10 ≤ k from h10) with h | h11
  · exact lw_in (tgt := 619) 10 X (by rw [hv, ← h]) (by decide) rfl (by decide) (lw_c_fault X hX hbl hbA hfit o_z10 hi1 hi2 hi3 hi4 hi5 next)
  rcases Nat.eq_or_lt_of_le (show 11 ≤ k from h11) with h | h12
  · exact lw_in (tgt := 642) 11 X (by rw [hv, ← h]) (by decide) rfl (by decide) (lw_c_many X hX hbl hbA hfit o_z11 hi1 hi2 hi3 hi4 hi5 next)
  rcases Nat.eq_or_lt_of_le (show 12 ≤ k from h12) with h | h13
  · exact lw_in (tgt := 665) 12 X (by rw [hv, ← h]) (by decide) rfl (by decide) (lw_c_topic X hX hbl hbA hfit o_z12 hi1 hi2 hi3 hi4 hi5 next)
  rcases Nat.eq_or_lt_of_le (show 13 ≤ k from h13) with h | h14
  · exact lw_in (tgt := 698) 13 X (by rw [hv, ← h]) (by decide) rfl (by decide) (lw_c_claim X hX hbl hbA hfit o_z13 hi1 hi2 hi3 hi4 hi5 next)
  rcases Nat.eq_or_lt_of_le (show 14 ≤ k from h14) with h | h15
  · exact lw_in (tgt := 731) 14 X (by rw [hv, ← h]) (by decide) rfl (by decide) (lw_c_talker X hX hbl hbA hfit o_z14 hi1 hi2 hi3 hi4 hi5 next)
  rcases Nat.eq_or_lt_of_le (show 15 ≤ k from h15) with h | h16
  · exact lw_in (tgt := 764) 15 X (by rw [hv, ← h]) (by decide) rfl (by decide) (lw_c_feud X hX hbl hbA hfit o_z15 hi1 hi2 hi3 hi4 hi5 next)
  rcases Nat.eq_or_lt_of_le (show 16 ≤ k from h16) with h | h17
  · exact lw_in (tgt := 797) 16 X (by rw [hv, ← h]) (by decide) rfl (by decide) (lw_c_copyHeights X hX hbl hbA hfit o_z16 hi1 hi2 hi3 hi4 hi5 next)
  rcases Nat.eq_or_lt_of_le (show 17 ≤ k from h17) with h | h18
  · exact lw_in (tgt := 820) 17 X (by rw [hv, ← h]) (by decide) rfl (by decide) (lw_c_say X hX hbl hbA hfit o_z17 hi1 hi2 hi3 hi4 hi5 next)
  rcases Nat.eq_or_lt_of_le (show 18 ≤ k from h18) with h | h19
  · exact lw_in (tgt := 853) 18 X (by rw [hv, ← h]) (by decide) rfl (by decide) (lw_c_drop X hX hbl hbA hfit o_z18 hi1 hi2 hi3 hi4 hi5 next)
  rcases Nat.eq_or_lt_of_le (show 19 ≤ k from h19) with h | h20
  · exact lw_in (tgt := 886) 19 X (by rw [hv, ← h]) (by decide) rfl (by decide) (lw_c_pull X hX hbl hbA hfit o_z19 hi1 hi2 hi3 hi4 hi5 next)
  rcases Nat.eq_or_lt_of_le (show 20 ≤ k from h20) with h | h21
  · exact lw_in (tgt := 935) 20 X (by rw [hv, ← h]) (by decide) rfl (by decide) (lw_c_prop X hX hbl hbA hfit o_z20 hi1 hi2 hi3 hi4 hi5 next)
  rcases Nat.eq_or_lt_of_le (show 21 ≤ k from h21) with h | h22
  · exact lw_in (tgt := 958) 21 X (by rw [hv, ← h]) (by decide) rfl (by decide) (lw_c_cut X hX hbl hbA hfit o_z21 hi1 hi2 hi3 hi4 hi5 next)
  rcases Nat.eq_or_lt_of_le (show 22 ≤ k from h22) with h | h23
  · exact lw_in (tgt := 981) 22 X (by rw [hv, ← h]) (by decide) rfl (by decide) (lw_c_lift X hX hbl hbA hfit o_z22 hi1 hi2 hi3 hi4 hi5 next)
  rcases Nat.eq_or_lt_of_le (show 23 ≤ k from h23) with h | h24
  · exact lw_in (tgt := 1014) 23 X (by rw [hv, ← h]) (by decide) rfl (by decide) (lw_c_rewrite X hX hbl hbA hfit o_z23 hi1 hi2 hi3 hi4 hi5 next)
  rcases Nat.eq_or_lt_of_le (show 24 ≤ k from h24) with h | h25
  · exact lw_in (tgt := 1057) 24 X (by rw [hv, ← h]) (by decide) rfl (by decide) (lw_c_think X hX hbl hbA hfit o_z24 hi1 hi2 hi3 hi4 hi5 next)
  rcases Nat.eq_or_lt_of_le (show 25 ≤ k from h25) with h | h26
  · exact lw_in (tgt := 1090) 25 X (by rw [hv, ← h]) (by decide) rfl (by decide) (lw_c_anger X hX hbl hbA hfit o_z25 hi1 hi2 hi3 hi4 hi5 next)
  rcases Nat.eq_or_lt_of_le (show 26 ≤ k from h26) with h | h27
  · exact lw_in (tgt := 1123) 26 X (by rw [hv, ← h]) (by decide) rfl (by decide) (lw_c_rule X hX hbl hbA hfit o_z26 hi1 hi2 hi3 hi4 hi5 next)
  rcases Nat.eq_or_lt_of_le (show 27 ≤ k from h27) with h | h28
  · exact lw_in (tgt := 1146) 27 X (by rw [hv, ← h]) (by decide) rfl (by decide) (lw_c_holdsUp X hX hbl hbA hfit o_z27 hi1 hi2 hi3 hi4 hi5 next)
  rcases Nat.eq_or_lt_of_le (show 28 ≤ k from h28) with h | h29
  · exact lw_in (tgt := 1169) 28 X (by rw [hv, ← h]) (by decide) rfl (by decide) (lw_c_holdsUpSet X hX hbl hbA hfit o_z28 hi1 hi2 hi3 hi4 hi5 next)
  rcases Nat.eq_or_lt_of_le (show 29 ≤ k from h29) with h | h30
  · exact lw_in (tgt := 1192) 29 X (by rw [hv, ← h]) (by decide) rfl (by decide) (lw_c_bringsDown X hX hbl hbA hfit o_z29 hi1 hi2 hi3 hi4 hi5 next)
  rcases Nat.eq_or_lt_of_le (show 30 ≤ k from h30) with h | h31
  · exact lw_in (tgt := 1215) 30 X (by rw [hv, ← h]) (by decide) rfl (by decide) (lw_c_way X hX hbl hbA hfit o_z30 hi1 hi2 hi3 hi4 hi5 next)
  rcases Nat.eq_or_lt_of_le (show 31 ≤ k from h31) with h | h32
  · exact lw_in (tgt := 1248) 31 X (by rw [hv, ← h]) (by decide) rfl (by decide) (lw_c_wayAt X hX hbl hbA hfit o_z31 hi1 hi2 hi3 hi4 hi5 next)
  rcases Nat.eq_or_lt_of_le (show 32 ≤ k from h32) with h | h33
  · exact lw_in (tgt := 1301) 32 X (by rw [hv, ← h]) (by decide) rfl (by decide) (lw_c_from X hX hbl hbA hfit o_z32 hi1 hi2 hi3 hi4 hi5 next)
  rcases Nat.eq_or_lt_of_le (show 33 ≤ k from h33) with h | h34
  · exact lw_in (tgt := 1324) 33 X (by rw [hv, ← h]) (by decide) rfl (by decide) (lw_c_oddsThat X hX hbl hbA hfit o_z33 hi1 hi2 hi3 hi4 hi5 next)
  rcases Nat.eq_or_lt_of_le (show 34 ≤ k from h34) with h | h35
  · exact lw_in (tgt := 1357) 34 X (by rw [hv, ← h]) (by decide) rfl (by decide) (lw_c_laws X hX hbl hbA hfit o_z34 hi1 hi2 hi3 hi4 hi5 next)
  rcases Nat.eq_or_lt_of_le (show 35 ≤ k from h35) with h | h36
  · exact lw_in (tgt := 1390) 35 X (by rw [hv, ← h]) (by decide) rfl (by decide) (lw_c_lawOf X hX hbl hbA hfit o_z35 hi1 hi2 hi3 hi4 hi5 next)
  rcases Nat.eq_or_lt_of_le (show 36 ≤ k from h36) with h | h37
  · exact lw_in (tgt := 1433) 36 X (by rw [hv, ← h]) (by decide) rfl (by decide) (lw_c_ask X hX hbl hbA hfit o_z36 hi1 hi2 hi3 hi4 hi5 next)
  rcases Nat.eq_or_lt_of_le (show 37 ≤ k from h37) with h | h38
  · exact lw_in (tgt := 1466) 37 X (by rw [hv, ← h]) (by decide) rfl (by decide) (lw_c_best X hX hbl hbA hfit o_z37 hi1 hi2 hi3 hi4 hi5 next)
  rcases Nat.eq_or_lt_of_le (show 38 ≤ k from h38) with h | h39
  · exact lw_in (tgt := 1499) 38 X (by rw [hv, ← h]) (by decide) rfl (by decide) (lw_c_bestAt X hX hbl hbA hfit o_z38 hi1 hi2 hi3 hi4 hi5 next)
  rcases Nat.eq_or_lt_of_le (show 39 ≤ k from h39) with h | h40
  · exact lw_in (tgt := 1532) 39 X (by rw [hv, ← h]) (by decide) rfl (by decide) (lw_c_peace X hX hbl hbA hfit o_z39 hi1 hi2 hi3 hi4 hi5 next)
  rcases Nat.eq_or_lt_of_le (show 40 ≤ k from h40) with h | h41
  · exact lw_in (tgt := 1545) 40 X (by rw [hv, ← h]) (by decide) rfl (by decide) (lw_c_quarrels X hX hbl hbA hfit o_z40 hi1 hi2 hi3 hi4 hi5 next)
  rcases Nat.eq_or_lt_of_le (show 41 ≤ k from h41) with h | h42
  · exact lw_in (tgt := 1568) 41 X (by rw [hv, ← h]) (by decide) rfl (by decide) (lw_c_spread X hX hbl hbA hfit o_z41 hi1 hi2 hi3 hi4 hi5 next)
  rcases Nat.eq_or_lt_of_le (show 42 ≤ k from h42) with h | h43
  · exact lw_in (tgt := 1601) 42 X (by rw [hv, ← h]) (by decide) rfl (by decide) (lw_c_seating X hX hbl hbA hfit o_z42 hi1 hi2 hi3 hi4 hi5 next)
  rcases Nat.eq_or_lt_of_le (show 43 ≤ k from h43) with h | h44
  · exact lw_in (tgt := 1614) 43 X (by rw [hv, ← h]) (by decide) rfl (by decide) (lw_c_seatOf X hX hbl hbA hfit o_z43 hi1 hi2 hi3 hi4 hi5 next)
  rcases Nat.eq_or_lt_of_le (show 44 ≤ k from h44) with h | h45
  · exact lw_in (tgt := 1637) 44 X (by rw [hv, ← h]) (by decide) rfl (by decide) (lw_c_game X hX hbl hbA hfit o_z44 hi1 hi2 hi3 hi4 hi5 next)
  rcases Nat.eq_or_lt_of_le (show 45 ≤ k from h45) with h | h46
  · exact lw_in (tgt := 1680) 45 X (by rw [hv, ← h]) (by decide) rfl (by decide) (lw_c_moveOf X hX hbl hbA hfit o_z45 hi1 hi2 hi3 hi4 hi5 next)
  rcases Nat.eq_or_lt_of_le (show 46 ≤ k from h46) with h | h47
  · exact lw_in (tgt := 1723) 46 X (by rw [hv, ← h]) (by decide) rfl (by decide) (lw_c_chutes X hX hbl hbA hfit o_z46 hi1 hi2 hi3 hi4 hi5 next)
  rcases Nat.eq_or_lt_of_le (show 47 ≤ k from h47) with h | h48
  · exact lw_in (tgt := 1746) 47 X (by rw [hv, ← h]) (by decide) rfl (by decide) (lw_c_live X hX hbl hbA hfit o_z47 hi1 hi2 hi3 hi4 hi5 next)
  rcases Nat.eq_or_lt_of_le (show 48 ≤ k from h48) with h | h49
  · exact lw_in (tgt := 1769) 48 X (by rw [hv, ← h]) (by decide) rfl (by decide) (lw_c_lived X hX hbl hbA hfit o_z48 hi1 hi2 hi3 hi4 hi5 next)
  rcases Nat.eq_or_lt_of_le (show 49 ≤ k from h49) with h | h50
  · exact lw_in (tgt := 1792) 49 X (by rw [hv, ← h]) (by decide) rfl (by decide) (lw_c_mean X hX hbl hbA hfit o_z49 hi1 hi2 hi3 hi4 hi5 next)
  rcases Nat.eq_or_lt_of_le (show 50 ≤ k from h50) with h | h51
  · exact lw_in (tgt := 1825) 50 X (by rw [hv, ← h]) (by decide) rfl (by decide) (lw_c_mark X hX hbl hbA hfit o_z50 hi1 hi2 hi3 hi4 hi5 next)
  rcases Nat.eq_or_lt_of_le (show 51 ≤ k from h51) with h | h52
  · exact lw_in (tgt := 1838) 51 X (by rw [hv, ← h]) (by decide) rfl (by decide) (lw_c_back X hX hbl hbA hfit o_z51 hi1 hi2 hi3 hi4 hi5 next)
  exact lw_out k X hv h52 hk next
theorem lw_exit (X : tc_X dC dI ca A RL code 4 ret p s m args meth c) (hX : va_X b L xs s s.heap) (hbl : b < s.heap.size) (hbA : ¬ A b) (hL : L ≤ 3072) (j : Nat) (hj : j ≤ L) (hc : L < j + 6) (fin : lw_N p l e s m args below meth c cells slots Q dC dI ca A q b (nI j) Rel 1857) : lw_N p l e s m args below meth c cells slots Q dC dI ca A q b (nI j) Rel 18 := by
  obtain ⟨hx, hb, hr, hml, hown, hts, hlk, hK, hA, hG⟩ := id X
  intro vR vG1 vG2 vV00 vV01 vV10 vV11 vW vU SC SY0 SY1 SY2 SY3 SB SR SG SP0 ST0 SE0 SP1 ST1 SE1 SP2 ST2 SE2 SP3 ST3 SE3 SP4 ST4 SE4 SV0 SV1 SW SU SK SM hRel H locs ls hP hD hS hl
  refine lv_iload_n hx hb dL_18 rfl (lv_at hl 3 rfl) ?_
  refine lv_aload_n hx hb dL_19 rfl (lv_at hl 0 rfl) ?_
  refine va_slen hx hb hX hbl hbA hS dL_20 ?_
  refine lv_bipush (v := (6 : Int32)) hx hb dL_21 (by decide) ?_
  refine lv_isub hx hb dL_23 ?_
  have hlt : Int32.ofNat L - 6 < nI j := by
    rw [Int32.lt_iff_toInt_lt]
    show (nI L - nI 6).toInt < (nI j).toInt
    rw [q_dif (by omega) (by omega), nI_toInt (by omega)]
    omega
  refine lv_icmp_gt (tgt := 1857) hx hb dL_24 (by decide) (fun _ => ?_) (fun h => absurd hlt h)
  exact fin vR vG1 vG2 vV00 vV01 vV10 vV11 vW vU SC SY0 SY1 SY2 SY3 SB SR SG SP0 ST0 SE0 SP1 ST1 SE1 SP2 ST2 SE2 SP3 ST3 SE3 SP4 ST4 SE4 SV0 SV1 SW SU SK SM hRel H locs ls hP hD hS hl
theorem lw_body (X : tc_X dC dI ca A RL code 4 ret p s m args meth c) (hX : va_X b L xs s s.heap) (hbl : b < s.heap.size) (hbA : ¬ A b) (hfit : cells + 0 ≤ room_1.cells ∧ slots + 0 ≤ room_1.slots) (ops : op_status Rel ∧ op_top Rel ∧ op_bottom Rel ∧ op_tray Rel ∧ op_write Rel ∧ op_read Rel ∧ op_pour Rel ∧ op_feed Rel ∧ op_table Rel ∧ op_evenings Rel ∧ op_fault Rel ∧ op_many Rel ∧ op_topic Rel ∧ op_claim Rel ∧ op_talker Rel ∧ op_feud Rel ∧ op_copyHeights Rel ∧ op_say Rel ∧ op_drop Rel ∧ op_pull Rel ∧ op_prop Rel ∧ op_cut Rel ∧ op_lift Rel ∧ op_rewrite Rel ∧ op_think Rel ∧ op_anger Rel ∧ op_rule Rel ∧ op_holdsUp Rel ∧ op_holdsUpSet Rel ∧ op_bringsDown Rel ∧ op_way Rel ∧ op_wayAt Rel ∧ op_from Rel ∧ op_oddsThat Rel ∧ op_laws Rel ∧ op_lawOf Rel ∧ op_ask Rel ∧ op_best Rel ∧ op_bestAt Rel ∧ op_peace Rel ∧ op_quarrels Rel ∧ op_spread Rel ∧ op_seating Rel ∧ op_seatOf Rel ∧ op_game Rel ∧ op_moveOf Rel ∧ op_chutes Rel ∧ op_live Rel ∧ op_lived Rel ∧ op_mean Rel ∧ op_mark Rel ∧ op_back Rel) (hL : L ≤ 3072) (j : Nat) (hc : j + 6 ≤ L) (next : lw_N p l e s m args below meth c cells slots Q dC dI ca A q b (nI (j + 6)) Rel 18) : lw_N p l e s m args below meth c cells slots Q dC dI ca A q b (nI j) Rel 18 := by
  obtain ⟨hx, hb, hr, hml, hown, hts, hlk, hK, hA, hG⟩ := id X
  have hinc : lw_N p l e s m args below meth c cells slots Q dC dI ca A q b (nI j) Rel 1851 := by
    intro vR vG1 vG2 vV00 vV01 vV10 vV11 vW vU SC SY0 SY1 SY2 SY3 SB SR SG SP0 ST0 SE0 SP1 ST1 SE1 SP2 ST2 SE2 SP3 ST3 SE3 SP4 ST4 SE4 SV0 SV1 SW SU SK SM hRel H locs ls hP hD hS hl
    refine lv_iinc (v := nI (j + 6)) (lv' := [(3, .int (nI (j + 6))), (0, .ref b), (1, .ref (q 0 0)), (2, .ref (q 30 0))]) hx hb dL_1851 hl (k := 3) rfl (nI_add j 6) (by decide) rfl (fun ls hl => ?_)
    refine lv_goto (tgt := 18) hx hb dL_1854 (by decide) ?_
    refine next vR vG1 vG2 vV00 vV01 vV10 vV11 vW vU SC SY0 SY1 SY2 SY3 SB SR SG SP0 ST0 SE0 SP1 ST1 SE1 SP2 ST2 SE2 SP3 ST3 SE3 SP4 ST4 SE4 SV0 SV1 SW SU SK SM hRel H locs ls hP hD hS ⟨hl.1, hl.2.1, fun z hz => hl.2.2 z ?_⟩
    simp only [List.mem_cons] at hz ⊢
    rcases hz with h | h | h | h | h
    · exact Or.inr (Or.inl h)
    · exact Or.inr (Or.inr (Or.inl h))
    · exact Or.inr (Or.inr (Or.inr (Or.inl h)))
    · exact Or.inl h
    · exact absurd h (by simp)
  intro vR vG1 vG2 vV00 vV01 vV10 vV11 vW vU SC SY0 SY1 SY2 SY3 SB SR SG SP0 ST0 SE0 SP1 ST1 SE1 SP2 ST2 SE2 SP3 ST3 SE3 SP4 ST4 SE4 SV0 SV1 SW SU SK SM hRel H locs ls hP hD hS hl
  refine lv_iload_n hx hb dL_18 rfl (lv_at hl 3 rfl) ?_
  refine lv_aload_n hx hb dL_19 rfl (lv_at hl 0 rfl) ?_
  refine va_slen hx hb hX hbl hbA hS dL_20 ?_
  refine lv_bipush (v := (6 : Int32)) hx hb dL_21 (by decide) ?_
  refine lv_isub hx hb dL_23 ?_
  have hlt : ¬ Int32.ofNat L - 6 < nI j := by
    rw [Int32.lt_iff_toInt_lt]
    show ¬ (nI L - nI 6).toInt < (nI j).toInt
    rw [q_dif (by omega) (by omega), nI_toInt (by omega)]
    omega
  refine lv_icmp_gt (tgt := 1857) hx hb dL_24 (by decide) (fun h => absurd h hlt) (fun _ => ?_)
  refine lv_aload_n hx hb dL_27 rfl (lv_at hl 0 rfl) ?_
  refine lv_iload_n hx hb dL_28 rfl (lv_at hl 3 rfl) ?_
  refine va_sld hx hb hX hbl hbA hS (lw_vp (by omega) hL) dL_29 ?_
  refine lv_bipush (v := (63 : Int32)) hx hb dL_30 (by decide) ?_
  refine lv_iand hx hb dL_32 ?_
  obtain ⟨k, hk, hk2⟩ := lw_63 (xs (nI j).toNatClampNeg)
  have hv : ∀ d : Nat, 0 < d → d < 6 → vp_in (nI j + nI d) L := fun d _ h => by rw [nI_add]; exact lw_vp (by omega) hL
  exact lw_sw X hX hbl hbA hfit ops (hv 1 (by decide) (by decide)) (hv 2 (by decide) (by decide)) (hv 3 (by decide) (by decide)) (hv 4 (by decide) (by decide)) (hv 5 (by decide) (by decide)) k hk2 hk hinc vR vG1 vG2 vV00 vV01 vV10 vV11 vW vU SC SY0 SY1 SY2 SY3 SB SR SG SP0 ST0 SE0 SP1 ST1 SE1 SP2 ST2 SE2 SP3 ST3 SE3 SP4 ST4 SE4 SV0 SV1 SW SU SK SM hRel H locs ls hP hD hS hl
theorem lw_loop (X : tc_X dC dI ca A RL code 4 ret p s m args meth c) (hX : va_X b L xs s s.heap) (hbl : b < s.heap.size) (hbA : ¬ A b) (hfit : cells + 0 ≤ room_1.cells ∧ slots + 0 ≤ room_1.slots) (ops : op_status Rel ∧ op_top Rel ∧ op_bottom Rel ∧ op_tray Rel ∧ op_write Rel ∧ op_read Rel ∧ op_pour Rel ∧ op_feed Rel ∧ op_table Rel ∧ op_evenings Rel ∧ op_fault Rel ∧ op_many Rel ∧ op_topic Rel ∧ op_claim Rel ∧ op_talker Rel ∧ op_feud Rel ∧ op_copyHeights Rel ∧ op_say Rel ∧ op_drop Rel ∧ op_pull Rel ∧ op_prop Rel ∧ op_cut Rel ∧ op_lift Rel ∧ op_rewrite Rel ∧ op_think Rel ∧ op_anger Rel ∧ op_rule Rel ∧ op_holdsUp Rel ∧ op_holdsUpSet Rel ∧ op_bringsDown Rel ∧ op_way Rel ∧ op_wayAt Rel ∧ op_from Rel ∧ op_oddsThat Rel ∧ op_laws Rel ∧ op_lawOf Rel ∧ op_ask Rel ∧ op_best Rel ∧ op_bestAt Rel ∧ op_peace Rel ∧ op_quarrels Rel ∧ op_spread Rel ∧ op_seating Rel ∧ op_seatOf Rel ∧ op_game Rel ∧ op_moveOf Rel ∧ op_chutes Rel ∧ op_live Rel ∧ op_lived Rel ∧ op_mean Rel ∧ op_mark Rel ∧ op_back Rel) (hL : L ≤ 3072) (fin : ∀ i, lw_N p l e s m args below meth c cells slots Q dC dI ca A q b i Rel 1857) : ∀ (n j : Nat), j ≤ L → L ≤ j + n → lw_N p l e s m args below meth c cells slots Q dC dI ca A q b (nI j) Rel 18 := by
  intro n
  induction n with
  | zero => intro j hj hn; exact lw_exit X hX hbl hbA hL j hj (by omega) (fin _)
  | succ n ih =>
    intro j hj hn
    by_cases hc : j + 6 ≤ L
    · exact lw_body X hX hbl hbA hfit ops hL j hc (ih (j + 6) hc (by omega))
    · exact lw_exit X hX hbl hbA hL j hj (by omega) (fin _)
end LO
