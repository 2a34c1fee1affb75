/-! evenings: the reader's other make does the same; the rest of a step -/
section Q88
variable {R B M T E : ms_T} {g t : Nat → Nat} {n a e k wn : Nat}
theorem v_wn (R B : ms_T) : ∀ n a b c d, fX4_wordNumberE_12 R B n a b c d = fX4_wordNumberT_12 R B n a b c d := by
  intro n
  induction n with
  | zero => intro a b c d; rfl
  | succ n ih => intro a b c d; rw [fX4_wordNumberE_12, fX4_wordNumberT_12]; simp only [ih]
theorem v_256 (B R : ms_T) : fX4_advanceE_256 B R = fX4_advanceT_256 B R := rfl
theorem v_180 (B : ms_T) : ∀ n R, fX4_advanceE_180 B n R = fX4_advanceT_180 B n R := by
  intro n
  induction n with
  | zero => intro R; rfl
  | succ n ih => intro R; rw [fX4_advanceE_180, fX4_advanceT_180]; simp only [ih, v_256]
theorem v_155 (B R : ms_T) : fX4_advanceE_155 B R = fX4_advanceT_155 B R := by
  unfold fX4_advanceE_155 fX4_advanceT_155 fX4_wordNumberE fX4_wordNumberT
  simp only [v_180, v_wn]
theorem v_75 (B : ms_T) : ∀ n R, fX4_advanceE_75 B n R = fX4_advanceT_75 B n R := by
  intro n
  induction n with
  | zero => intro R; rfl
  | succ n ih => intro R; rw [fX4_advanceE_75, fX4_advanceT_75]; simp only [ih, v_155]
theorem v_0 (B : ms_T) : ∀ n R, fX4_advanceE_0 B n R = fX4_advanceT_0 B n R := by
  intro n
  induction n with
  | zero => intro R; rfl
  | succ n ih => intro R; rw [fX4_advanceE_0, fX4_advanceT_0]; simp only [ih, fX4_advanceE_52, fX4_advanceT_52, v_75]
theorem v_adv (R B : ms_T) : fX4_advanceE R B = fX4_advanceT R B := v_0 B FU R
theorem v_ref (R : ms_T) (x : Int32) : fX4_refuseHereE R x = fX4_refuseHereT R x := rfl
theorem v_num (R : ms_T) (x y : Int32) : fX4_isNumberHereE R x y = fX4_isNumberHereT R x y := rfl
theorem v_named (R T : ms_T) (x y : Int32) : fX4_numberNamedE R T x y = fX4_numberNamedT R T x y := rfl
theorem v_semi (R B : ms_T) : fX4_passSemicolonE R B = fX4_passSemicolonT R B := by
  unfold fX4_passSemicolonE fX4_passSemicolonT
  simp only [v_adv]
  rfl
theorem v_begin (R B : ms_T) (x : Int32) : fX4_beginE R B x = fX4_beginT R B x := by
  unfold fX4_beginE fX4_beginT
  simp only [v_adv]
/-- the table at hand, for the names in evenings -/
def et (T M : ms_T) (t : Nat → Nat) : Prop := tb_W t ∧ tb_C T t ∧ (∀ i, i < 92 → ra M 5 i = nI (t i)) ∧ nms T M 0 t
/-- what reading a step with number s leaves as it is -/
def mz (s : Nat) (M M' : ms_T) : Prop := (∀ j, (j < 12 ∨ 18 < j) ∧ j ≠ 25 → gi M' j = gi M j) ∧ (∀ j, j ≠ 19 → gl M' j = gl M j) ∧ (∀ k, k ≠ 5 → ra M' k = ra M k) ∧ (∀ i, i < 1550 + 9 * s → ra M' 5 i = ra M 5 i) ∧ ∀ k, rl M' k = rl M k
theorem mz_id (s : Nat) (M : ms_T) : mz s M M := ⟨fun _ _ => rfl, fun _ _ => rfl, fun _ _ => rfl, fun _ _ => rfl, fun _ => rfl⟩
theorem mz_tr {s : Nat} {A B C : ms_T} (h : mz s A B) (k : mz s B C) : mz s A C := ⟨fun j hj => (k.1 j hj).trans (h.1 j hj), fun j hj => (k.2.1 j hj).trans (h.2.1 j hj), fun j hj => (k.2.2.1 j hj).trans (h.2.2.1 j hj), fun j hj => (k.2.2.2.1 j hj).trans (h.2.2.2.1 j hj), fun j => (k.2.2.2.2 j).trans (h.2.2.2.2 j)⟩
theorem mz_le {s s' : Nat} {A B : ms_T} (h : mz s A B) (hs : s' ≤ s) : mz s' A B := ⟨h.1, h.2.1, h.2.2.1, fun i hi => h.2.2.2.1 i (by omega), h.2.2.2.2⟩
theorem mg_mz {s : Nat} {M M' : ms_T} (h : mg M M') : mz s M M' := ⟨fun j hj => h.1 j hj.1, h.2.1, fun k _ => mg_ra h k, fun i _ => by rw [mg_ra h], fun k => mg_rl h k⟩
theorem mz_5 {s p : Nat} {M : ms_T} {x : Int32} (h : 1550 + 9 * s ≤ p) : mz s M (sr M 5 (upd (ra M 5) p x)) := ⟨fun _ _ => rfl, fun _ _ => rfl, fun k hk => by rw [q_ra, if_neg hk], fun i hi => by rw [q_ra, if_pos rfl, up_n _ _ _ (by omega)], fun _ => rfl⟩
theorem mz_25 {s : Nat} {M : ms_T} {x : Int32} : mz s M (si M 25 x) := ⟨fun j hj => by rw [q_gi, if_neg (by omega)], fun _ _ => rfl, fun _ _ => rfl, fun _ _ => rfl, fun _ => rfl⟩
theorem et_mz {s : Nat} {M' : ms_T} (h : et T M t) (m : mz s M M') : et T M' t := by
  obtain ⟨w, hC, hN, ⟨m1, m2, m3⟩⟩ := h
  exact ⟨w, hC, fun i hi => by rw [m.2.2.2.1 i (by omega)]; exact hN i hi, ⟨fun i hi => by rw [m.2.2.2.2]; exact m1 i hi, fun i hi => by rw [m.2.2.2.2]; exact m2 i hi, fun i hi => by rw [m.2.2.2.2]; exact m3 i hi⟩⟩
theorem rd_si25 {x : Int32} (h : rd B R M g n a e k wn) : rd B R (si M 25 x) g n a e k wn := h
/-- a talker's name, read into the step -/
theorem here_talker (h : rd B R M g n a e k wn) (ht : et T M t) {p : Nat} (hp : gi E 2 = nI p) (hp6 : p < 60) :
    (∃ x R' M' a' e' k' wn', x < t 2 ∧ fX2_readTalkerHere R B T E = some (nI 1, R', sr E 2 (upd (ra E 2) p (nI x))) ∧ fX12_readTold M (nI 0) (nI 2) = some (nI x, M') ∧ rd B R' M' g n a' e' k' wn' ∧ e ≤ a' ∧ rg R R' ∧ mg M M') ∨
    (∃ R' M', fX2_readTalkerHere R B T E = some (nI 0, R', E) ∧ fX12_readTold M (nI 0) (nI 2) = some (nI 0, M') ∧ bd R' M' ∧ rg R R' ∧ mg M M') := by
  obtain ⟨w, hC, hN, ⟨m1, m2, m3⟩⟩ := ht
  have w2 := w.2.2.1
  have h8 := hC.2.2.2.2.1
  have ip : inb (nI p) 60 = true := q_inT hp6 (by omega)
  have cp : (nI p).toNatClampNeg = p := nI_clamp (by omega)
  have nf2 : nfr 2 = 17 := rfl
  have nmm : (nM = nM) = True := eq_self _
  rcases rd_readTold (T := T) h (b := 0) (s := 2) (cnt := t 2) (by omega) (by omega) (by show 17 + t 2 ≤ 23; omega) (hN 2 (by omega)) (fun i hi => m3 i hi) with ⟨x, R', M', a', e', k', wn', c0, c1, c2, c3, c4, c5, c6, c7, c8⟩ | ⟨R', M', c1, c3, c4, c5, c6⟩
  · have xm : (nI x = nM) = False := q_mne2 (by omega)
    rw [nf2] at c1
    refine Or.inl ⟨x, R', M', a', e', k', wn', c0, ?_, c3, c4, c5, c7, c8⟩
    simp only [fX2_readTalkerHere, fX4_talkerNamedE, v_named, v_adv, h8, hp, ip, cp, sa, c1, c2, xm, l_0, l_1, l_2, l_3, l_4, l_5, l_6, l_7, l_8, l_9, l_10, l_11, l_12, l_13, l_14, l_15, l_16, l_17, l_18, l_19, l_20, l_21, l_22, l_23, l_24, l_25, l_30, l_31, l_32, l_40, l_48, l_54, l_57, l_59, l_60, l_61, l_62, l_63, l_65, l_66, l_72, l_82, l_92, l_93, l_94, l_97, l_99, l_100, l_101, l_102, l_103, l_104, l_105, l_107, l_108, l_109, l_110, l_111, l_112, l_114, l_115, l_116, l_117, l_119, l_121, l_122, l_136, l_200, l_255, l_300, l_364, l_900, l_1000, l_1456, l_1458, l_1459, l_1460, l_1462, l_1471, l_1504, l_1510, l_1522, l_1550, l_2971, l_9999, l_10000, l_10979, l_65536, l_m1, if_true, if_false, Option.bind_some]
  · rw [nf2] at c1
    refine Or.inr ⟨R', M', ?_, c3, c4, c5, c6⟩
    simp only [fX2_readTalkerHere, fX4_talkerNamedE, v_named, h8, c1, nmm, l_0, l_1, l_2, l_3, l_4, l_5, l_6, l_7, l_8, l_9, l_10, l_11, l_12, l_13, l_14, l_15, l_16, l_17, l_18, l_19, l_20, l_21, l_22, l_23, l_24, l_25, l_30, l_31, l_32, l_40, l_48, l_54, l_57, l_59, l_60, l_61, l_62, l_63, l_65, l_66, l_72, l_82, l_92, l_93, l_94, l_97, l_99, l_100, l_101, l_102, l_103, l_104, l_105, l_107, l_108, l_109, l_110, l_111, l_112, l_114, l_115, l_116, l_117, l_119, l_121, l_122, l_136, l_200, l_255, l_300, l_364, l_900, l_1000, l_1456, l_1458, l_1459, l_1460, l_1462, l_1471, l_1504, l_1510, l_1522, l_1550, l_2971, l_9999, l_10000, l_10979, l_65536, l_m1, if_true, Option.bind_some]
theorem here_claim (h : rd B R M g n a e k wn) (ht : et T M t) {p : Nat} (hp : gi E 2 = nI p) (hp6 : p < 60) :
    (∃ x R' M' a' e' k' wn', x < t 1 ∧ fX2_readClaimHereo R B T E = some (nI 1, R', sr E 2 (upd (ra E 2) p (nI x))) ∧ fX2_readClaimHeret R B T E = some (nI 1, R', sr E 3 (upd (ra E 3) p (nI x))) ∧ fX12_readTold M (nI 0) (nI 1) = some (nI x, M') ∧ rd B R' M' g n a' e' k' wn' ∧ e ≤ a' ∧ rg R R' ∧ mg M M') ∨
    (∃ R' M', fX2_readClaimHereo R B T E = some (nI 0, R', E) ∧ fX2_readClaimHeret R B T E = some (nI 0, R', E) ∧ fX12_readTold M (nI 0) (nI 1) = some (nI 0, M') ∧ bd R' M' ∧ rg R R' ∧ mg M M') := by
  obtain ⟨w, hC, hN, ⟨m1, m2, m3⟩⟩ := ht
  have w1 := w.2.1
  have h4 := hC.2.2.1
  have ip : inb (nI p) 60 = true := q_inT hp6 (by omega)
  have cp : (nI p).toNatClampNeg = p := nI_clamp (by omega)
  have nf1 : nfr 1 = 9 := rfl
  have nmm : (nM = nM) = True := eq_self _
  rcases rd_readTold (T := T) h (b := 0) (s := 1) (cnt := t 1) (by omega) (by omega) (by show 9 + t 1 ≤ 23; omega) (hN 1 (by omega)) (fun i hi => m2 i hi) with ⟨x, R', M', a', e', k', wn', c0, c1, c2, c3, c4, c5, c6, c7, c8⟩ | ⟨R', M', c1, c3, c4, c5, c6⟩
  · have xm : (nI x = nM) = False := q_mne2 (by omega)
    rw [nf1] at c1
    refine Or.inl ⟨x, R', M', a', e', k', wn', c0, ?_, ?_, c3, c4, c5, c7, c8⟩
    · simp only [fX2_readClaimHereo, fX4_claimNamedE, v_named, v_adv, h4, hp, ip, cp, sa, c1, c2, xm, l_0, l_1, l_2, l_3, l_4, l_5, l_6, l_7, l_8, l_9, l_10, l_11, l_12, l_13, l_14, l_15, l_16, l_17, l_18, l_19, l_20, l_21, l_22, l_23, l_24, l_25, l_30, l_31, l_32, l_40, l_48, l_54, l_57, l_59, l_60, l_61, l_62, l_63, l_65, l_66, l_72, l_82, l_92, l_93, l_94, l_97, l_99, l_100, l_101, l_102, l_103, l_104, l_105, l_107, l_108, l_109, l_110, l_111, l_112, l_114, l_115, l_116, l_117, l_119, l_121, l_122, l_136, l_200, l_255, l_300, l_364, l_900, l_1000, l_1456, l_1458, l_1459, l_1460, l_1462, l_1471, l_1504, l_1510, l_1522, l_1550, l_2971, l_9999, l_10000, l_10979, l_65536, l_m1, if_true, if_false, Option.bind_some]
    · simp only [fX2_readClaimHeret, fX4_claimNamedE, v_named, v_adv, h4, hp, ip, cp, sa, c1, c2, xm, l_0, l_1, l_2, l_3, l_4, l_5, l_6, l_7, l_8, l_9, l_10, l_11, l_12, l_13, l_14, l_15, l_16, l_17, l_18, l_19, l_20, l_21, l_22, l_23, l_24, l_25, l_30, l_31, l_32, l_40, l_48, l_54, l_57, l_59, l_60, l_61, l_62, l_63, l_65, l_66, l_72, l_82, l_92, l_93, l_94, l_97, l_99, l_100, l_101, l_102, l_103, l_104, l_105, l_107, l_108, l_109, l_110, l_111, l_112, l_114, l_115, l_116, l_117, l_119, l_121, l_122, l_136, l_200, l_255, l_300, l_364, l_900, l_1000, l_1456, l_1458, l_1459, l_1460, l_1462, l_1471, l_1504, l_1510, l_1522, l_1550, l_2971, l_9999, l_10000, l_10979, l_65536, l_m1, if_true, if_false, Option.bind_some]
  · rw [nf1] at c1
    refine Or.inr ⟨R', M', ?_, ?_, c3, c4, c5, c6⟩
    · simp only [fX2_readClaimHereo, fX4_claimNamedE, v_named, h4, c1, nmm, l_0, l_1, l_2, l_3, l_4, l_5, l_6, l_7, l_8, l_9, l_10, l_11, l_12, l_13, l_14, l_15, l_16, l_17, l_18, l_19, l_20, l_21, l_22, l_23, l_24, l_25, l_30, l_31, l_32, l_40, l_48, l_54, l_57, l_59, l_60, l_61, l_62, l_63, l_65, l_66, l_72, l_82, l_92, l_93, l_94, l_97, l_99, l_100, l_101, l_102, l_103, l_104, l_105, l_107, l_108, l_109, l_110, l_111, l_112, l_114, l_115, l_116, l_117, l_119, l_121, l_122, l_136, l_200, l_255, l_300, l_364, l_900, l_1000, l_1456, l_1458, l_1459, l_1460, l_1462, l_1471, l_1504, l_1510, l_1522, l_1550, l_2971, l_9999, l_10000, l_10979, l_65536, l_m1, if_true, Option.bind_some]
    · simp only [fX2_readClaimHeret, fX4_claimNamedE, v_named, h4, c1, nmm, l_0, l_1, l_2, l_3, l_4, l_5, l_6, l_7, l_8, l_9, l_10, l_11, l_12, l_13, l_14, l_15, l_16, l_17, l_18, l_19, l_20, l_21, l_22, l_23, l_24, l_25, l_30, l_31, l_32, l_40, l_48, l_54, l_57, l_59, l_60, l_61, l_62, l_63, l_65, l_66, l_72, l_82, l_92, l_93, l_94, l_97, l_99, l_100, l_101, l_102, l_103, l_104, l_105, l_107, l_108, l_109, l_110, l_111, l_112, l_114, l_115, l_116, l_117, l_119, l_121, l_122, l_136, l_200, l_255, l_300, l_364, l_900, l_1000, l_1456, l_1458, l_1459, l_1460, l_1462, l_1471, l_1504, l_1510, l_1522, l_1550, l_2971, l_9999, l_10000, l_10979, l_65536, l_m1, if_true, Option.bind_some]
theorem here_num (h : rd B R M g n a e k wn) {lo hi p : Nat} (h1 : lo ≤ hi) (h2 : hi ≤ 9999) (hp : gi E 2 = nI p) (hp6 : p < 60) :
    (∃ x R' M' a' e' k' wn', lo ≤ x ∧ x ≤ hi ∧ fX2_readNumberHere R B E (nI lo) (nI hi) = some (nI 1, R', sr E 3 (upd (ra E 3) p (nI x))) ∧ fX12_count M (nI lo) (nI hi) = some (nI x, M') ∧ rd B R' M' g n a' e' k' wn' ∧ e ≤ a' ∧ rg R R' ∧ mg M M') ∨
    (∃ R' M', fX2_readNumberHere R B E (nI lo) (nI hi) = some (nI 0, R', E) ∧ fX12_count M (nI lo) (nI hi) = some (nI 0, M') ∧ bd R' M' ∧ rg R R' ∧ mg M M') := by
  have ip : inb (nI p) 60 = true := q_inT hp6 (by omega)
  have cp : (nI p).toNatClampNeg = p := nI_clamp (by omega)
  rcases rd_num h h1 h2 with ⟨v, v1, v2, v3, v4, v5, v6, v7⟩ | ⟨R', M', q1, q2, q3, q4, q5⟩
  · obtain ⟨R', M', a', e', k', wn', s1, s2, s3, s4, s5, s6⟩ := k_count h v5 v7
    refine Or.inl ⟨v, R', M', a', e', k', wn', v1, v2, ?_, s2, s3, s4, s5, s6⟩
    simp only [fX2_readNumberHere, v_num, v_adv, v6, v4, s1, hp, ip, cp, sa, n_10, l_0, l_1, l_2, l_3, l_4, l_5, l_6, l_7, l_8, l_9, l_10, l_11, l_12, l_13, l_14, l_15, l_16, l_17, l_18, l_19, l_20, l_21, l_22, l_23, l_24, l_25, l_30, l_31, l_32, l_40, l_48, l_54, l_57, l_59, l_60, l_61, l_62, l_63, l_65, l_66, l_72, l_82, l_92, l_93, l_94, l_97, l_99, l_100, l_101, l_102, l_103, l_104, l_105, l_107, l_108, l_109, l_110, l_111, l_112, l_114, l_115, l_116, l_117, l_119, l_121, l_122, l_136, l_200, l_255, l_300, l_364, l_900, l_1000, l_1456, l_1458, l_1459, l_1460, l_1462, l_1471, l_1504, l_1510, l_1522, l_1550, l_2971, l_9999, l_10000, l_10979, l_65536, l_m1, if_true, if_false, Option.bind_some]
  · refine Or.inr ⟨R', M', ?_, b_count2 q2 (bd_bm q3), q3, q4, q5⟩
    simp only [fX2_readNumberHere, v_num, q1, l_0, l_1, l_2, l_3, l_4, l_5, l_6, l_7, l_8, l_9, l_10, l_11, l_12, l_13, l_14, l_15, l_16, l_17, l_18, l_19, l_20, l_21, l_22, l_23, l_24, l_25, l_30, l_31, l_32, l_40, l_48, l_54, l_57, l_59, l_60, l_61, l_62, l_63, l_65, l_66, l_72, l_82, l_92, l_93, l_94, l_97, l_99, l_100, l_101, l_102, l_103, l_104, l_105, l_107, l_108, l_109, l_110, l_111, l_112, l_114, l_115, l_116, l_117, l_119, l_121, l_122, l_136, l_200, l_255, l_300, l_364, l_900, l_1000, l_1456, l_1458, l_1459, l_1460, l_1462, l_1471, l_1504, l_1510, l_1522, l_1550, l_2971, l_9999, l_10000, l_10979, l_65536, l_m1, if_true, Option.bind_some]
end Q88
