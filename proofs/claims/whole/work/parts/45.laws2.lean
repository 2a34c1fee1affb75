def cl_L : List Nat := [0, 15, 240, 256, 271, 496, 512, 752, 768, 783, 1008, 1024, 1264, 1536, 1776, 1792, 2032, 2048, 2288, 3072, 3312, 3584, 3824, 3840, 4080, 4096, 6144, 6384, 7168, 7680, 8192, 12288, 14336, 15360, 16384, 24576, 28672, 30720, 32768, 49152, 57344, 61440, 196608, 197632, 198144, 200704, 202752, 204016, 204528, 204800, 208896, 210944, 212992, 221184, 225280, 227328, 229376, 245760, 253952, 786432, 794624, 798720, 819200, 835584, 843776, 847872, 983040, 995328, 1032192, 1044480, 3145728, 3178496, 3932160, 3964928, 12582912, 15728640, 16777216, 16974848, 16975631, 17563648, 19922944, 20742144, 29360128, 33554432, 34349056, 34355440, 36700160, 46137344, 49283072, 50331648, 51126272, 51330288, 53477376, 62914560, 66060288, 67108864, 70254592, 70303744, 79691776, 100663296, 103809024, 104652800, 113246208, 117440512, 120586240, 121430016, 130023424, 134217728, 146800640, 201326592, 213909504, 217055232, 234881024, 247463936, 250609664, 251658240, 267386880, 268435456, 402653184, 415236096, 469762048, 482344960, 503316480, 515899392, 536870912, 805306368, 939524096, 1006632960, 1073741824, 1610612736, 1879048192, 2013265920, 2147483648, 3221225472, 3758096384, 4026531840, 4173332480, 4243636224, 4277991664, 4294967295]
def cl_S : List Nat := [0, 15, 240, 271, 496, 783, 1008, 1792, 2032, 3840, 4080, 7680, 15360, 30720, 61440, 204528, 227328, 229376, 253952, 983040, 1032192, 1044480, 3932160, 15728640, 16975631, 20742144, 29360128, 51330288, 66060288, 121430016, 130023424, 251658240, 267386880, 503316480, 515899392, 1006632960, 2013265920, 2147483648, 3221225472, 3758096384, 4026531840, 4173332480, 4243636224, 4277991664]
def lsS (h l : Nat) : Nat := bs (fun _ law => decide (lnl law h = l)) 32
theorem cl_s : ∀ h, h < 10 → ∀ l, l < 10 → 1 ≤ h → cl_S.contains (lsS h l) = true := by decide +kernel
theorem cl_c : cl_L.all (fun x => cl_S.all (fun s => cl_L.contains (x &&& s))) = true := by decide +kernel
theorem cl_p : cl_L.all (fun x => decide (fJ6_bitCount_0f7a4 (nI x) = some (nI (siz x 32)))) = true := by decide +kernel
theorem cl_0 : cl_L.contains (bs (fun _ _ => true) 32) = true := by decide +kernel
def hv (v : Nat → Int64) (i : Nat) : Nat := (v (2 * i)).toInt.toNat
def lv (v : Nat → Int64) (i : Nat) : Nat := (v (2 * i + 1)).toInt.toNat
theorem lok_e {v : Nat → Int64} {i : Nat} (h : lok v i) : 1 ≤ hv v i ∧ hv v i ≤ 9 ∧ lv v i ≤ 9 ∧ v (2 * i) = lN (hv v i) ∧ v (2 * i + 1) = lN (lv v i) := by
  obtain ⟨a, b, h1, h2, h3, h4, h5⟩ := h
  have e1 : hv v i = a := by unfold hv; rw [h4, pk_lT (by omega)]; omega
  have e2 : lv v i = b := by unfold lv; rw [h5, pk_lT (by omega)]; omega
  rw [e1, e2]
  exact ⟨h1, h2, h3, h4, h5⟩
def nfit (v : Nat → Int64) (law i : Nat) : Bool := decide (lnl law (hv v i) ≠ lv v i)
/-- the laws that fit -/
def lwX (v : Nat → Int64) (n : Nat) : Nat := bs (fun _ law => !anyb (nfit v law) n) 32
theorem lwX_s (v : Nat → Int64) (n : Nat) : lwX v (n + 1) = lwX v n &&& lsS (hv v n) (lv v n) := by
  apply Nat.eq_of_testBit_eq
  intro i
  unfold lwX lsS
  rw [Nat.testBit_and, bs_bit, bs_bit, bs_bit]
  show (decide (i < 32) && !(anyb (nfit v i) n || nfit v i n)) = _
  unfold nfit
  cases decide (i < 32) <;> cases anyb (nfit v i) n <;> by_cases c : lnl i (hv v n) = lv v n <;> simp_all [nfit]
theorem lwX_in {v : Nat → Int64} : ∀ n, (∀ i, i < n → lok v i) → cl_L.contains (lwX v n) = true
  | 0, _ => cl_0
  | n + 1, h => by
    have ih := lwX_in n (fun i hi => h i (by omega))
    obtain ⟨a1, a2, a3, -, -⟩ := lok_e (h n (by omega))
    have hs := cl_s (hv v n) (by omega) (lv v n) (by omega) a1
    have hc := List.all_eq_true.mp cl_c (lwX v n) (List.contains_iff_mem.mp ih)
    have hc2 := List.all_eq_true.mp hc (lsS (hv v n) (lv v n)) (List.contains_iff_mem.mp hs)
    rw [lwX_s]
    exact hc2
theorem lwX_cnt {v : Nat → Int64} {n : Nat} (h : ∀ i, i < n → lok v i) : fJ6_bitCount_0f7a4 (nI (lwX v n)) = some (nI (siz (lwX v n) 32)) :=
  of_decide_eq_true (List.all_eq_true.mp cl_p (lwX v n) (List.contains_iff_mem.mp (lwX_in n h)))
theorem lwX_sm (v : Nat → Int64) (n : Nat) : siz (lwX v n) 32 = sm (fun law => b2 (!anyb (nfit v law) n)) 32 := sm_cong (fun law hl => by
  show b2 ((bs _ 32).testBit law) = _
  rw [bs_bit]; simp [hl])
theorem lp_eqx {σ β : Type} (L : Nat → Int32 → σ → Option β) (fin : σ → Option β) (m : Nat) (I : Nat → σ → Prop)
    (hx : ∀ n s, I m s → L (n + 1) (nI m) s = fin s)
    (hs : ∀ n k s, k < m → I k s → (∃ s', I (k + 1) s' ∧ L (n + 1) (nI k) s = L n (nI (k + 1)) s') ∨ (∃ s', I m s' ∧ L (n + 1) (nI k) s = fin s')) :
    ∀ s fuel, I 0 s → m < fuel → ∃ s', I m s' ∧ L fuel (nI 0) s = fin s' := by
  have key : ∀ d k s fuel, k + d = m → I k s → d < fuel → ∃ s', I m s' ∧ L fuel (nI k) s = fin s' := by
    intro d
    induction d with
    | zero =>
      intro k s fuel h hI hf
      obtain ⟨n, rfl⟩ : ∃ n, fuel = n + 1 := ⟨fuel - 1, by omega⟩
      have : k = m := by omega
      subst this
      exact ⟨s, hI, hx n s hI⟩
    | succ d ih =>
      intro k s fuel h hI hf
      obtain ⟨n, rfl⟩ : ∃ n, fuel = n + 1 := ⟨fuel - 1, by omega⟩
      rcases hs n k s (by omega) hI with ⟨s', hI', e⟩ | h2
      · obtain ⟨s2, h2, e2⟩ := ih (k + 1) s' n (by omega) hI' (by omega)
        exact ⟨s2, h2, by rw [e, e2]⟩
      · exact h2
  intro s fuel hI hf
  exact key m 0 s fuel (by omega) hI hf
theorem anyb_mono {p : Nat → Bool} {k m : Nat} (h : k ≤ m) (hk : anyb p k = true) : anyb p m = true := by
  obtain ⟨i, hi, e⟩ := (anyb_iff p k).mp hk
  exact (anyb_iff p m).mpr ⟨i, by omega, e⟩
section Q45
variable {Y M : ms_T}
theorem Y_fit {n : Nat} (hn : n ≤ 20) (h : ∀ i, i < n → lok (rl Y 1) i) : fX11_fittingLaws Y (nI n) = some (nI (lwX (rl Y 1) n)) := by
  unfold fX11_fittingLaws
  refine lp_set (fun f acc k => fX11_fittingLaws_4 Y f (nI n) acc k) 32 (fun _ law => !anyb (nfit (rl Y 1) law) n) ?_ ?_ FU (FU_big (by omega))
  · intro f acc
    simp (disch := omega) only [fX11_fittingLaws_4, l_0, l_1, l_2, l_3, l_4, l_5, l_6, l_7, l_8, l_9, l_10, l_11, l_12, l_13, l_14, l_15, l_16, l_17, l_18, l_19, l_20, l_21, l_22, l_23, l_24, l_25, l_30, l_31, l_32, l_40, l_48, l_54, l_57, l_59, l_60, l_61, l_62, l_63, l_65, l_66, l_72, l_82, l_92, l_93, l_94, l_97, l_99, l_100, l_101, l_102, l_103, l_104, l_105, l_107, l_108, l_109, l_110, l_111, l_112, l_114, l_115, l_116, l_117, l_119, l_121, l_122, l_136, l_200, l_255, l_300, l_364, l_900, l_1000, l_1456, l_1458, l_1459, l_1460, l_1462, l_1471, l_1504, l_1510, l_1522, l_1550, l_2971, l_9999, l_10000, l_10979, l_65536, l_m1, nI_add, pk_mul, q_sub, q_ltT, q_ltF, q_leT, q_leF, q_eqT, q_eqF, q_inT, q_inF, nI_clamp, q_mlt, q_mle, q_mne, q_mne2, q_mnlt, q_mnle, Option.bind_some, if_true, if_false, reduceIte, ite_not, not_true_eq_false, not_false_eq_true, q_z1, Nat.reduceEqDiff]
  · intro f law hl
    obtain ⟨s', i1, i2⟩ := lp_eqx (fun q i s => fX11_fittingLaws_16 Y (fX11_fittingLaws_4 Y f) q (nI n) (nI (bs (fun _ law => !anyb (nfit (rl Y 1) law) n) law)) (nI law) s i) (fun s => fX11_fittingLaws_70 Y (fX11_fittingLaws_4 Y f) (nI n) (nI (bs (fun _ law => !anyb (nfit (rl Y 1) law) n) law)) (nI law) s) n (fun k s => s = nI (b2 (!anyb (nfit (rl Y 1) law) k)))
      (fun q s hs => by simp (disch := omega) only [fX11_fittingLaws_16, l_0, l_1, l_2, l_3, l_4, l_5, l_6, l_7, l_8, l_9, l_10, l_11, l_12, l_13, l_14, l_15, l_16, l_17, l_18, l_19, l_20, l_21, l_22, l_23, l_24, l_25, l_30, l_31, l_32, l_40, l_48, l_54, l_57, l_59, l_60, l_61, l_62, l_63, l_65, l_66, l_72, l_82, l_92, l_93, l_94, l_97, l_99, l_100, l_101, l_102, l_103, l_104, l_105, l_107, l_108, l_109, l_110, l_111, l_112, l_114, l_115, l_116, l_117, l_119, l_121, l_122, l_136, l_200, l_255, l_300, l_364, l_900, l_1000, l_1456, l_1458, l_1459, l_1460, l_1462, l_1471, l_1504, l_1510, l_1522, l_1550, l_2971, l_9999, l_10000, l_10979, l_65536, l_m1, nI_add, pk_mul, q_sub, q_ltT, q_ltF, q_leT, q_leF, q_eqT, q_eqF, q_inT, q_inF, nI_clamp, q_mlt, q_mle, q_mne, q_mne2, q_mnlt, q_mnle, Option.bind_some, if_true, if_false, reduceIte, ite_not, not_true_eq_false, not_false_eq_true, q_z1, Nat.reduceEqDiff])
      (fun q k s hk hs => by
        subst hs
        cases hb : anyb (nfit (rl Y 1) law) k
        · left
          obtain ⟨a1, a2, a3, a4, a5⟩ := lok_e (h k hk)
          have el := C_lands hl (h := hv (rl Y 1) k) (by omega)
          have e32 : (lN (hv (rl Y 1) k)).toInt32 = nI (hv (rl Y 1) k) := lN_i _
          have hle : lnl law (hv (rl Y 1) k) ≤ hv (rl Y 1) k := by unfold lnl; omega
          have e64 : (nI (lnl law (hv (rl Y 1) k))).toInt64 = lN (lnl law (hv (rl Y 1) k)) := nI_l (by omega)
          have ec := lgc_eq (lN (lnl law (hv (rl Y 1) k))) (lN (lv (rl Y 1) k))
          rw [pk_lEQ (by omega) (by omega)] at ec
          by_cases c : lnl law (hv (rl Y 1) k) = lv (rl Y 1) k
          · refine ⟨nI 1, ?_, ?_⟩
            · show nI 1 = nI (b2 (!(anyb (nfit (rl Y 1) law) k || nfit (rl Y 1) law k)))
              rw [hb]; unfold nfit; simp [c]; rfl
            · have ec' : (lg_cmp (lN (lnl law (hv (rl Y 1) k))) (lN (lv (rl Y 1) k)) = nI 0) = True := eq_true (ec.mpr c)
              simp (disch := omega) only [fX11_fittingLaws_16, a4, a5, e32, el, e64, ec', Bool.not_false, b2_1, la, l_0, l_1, l_2, l_3, l_4, l_5, l_6, l_7, l_8, l_9, l_10, l_11, l_12, l_13, l_14, l_15, l_16, l_17, l_18, l_19, l_20, l_21, l_22, l_23, l_24, l_25, l_30, l_31, l_32, l_40, l_48, l_54, l_57, l_59, l_60, l_61, l_62, l_63, l_65, l_66, l_72, l_82, l_92, l_93, l_94, l_97, l_99, l_100, l_101, l_102, l_103, l_104, l_105, l_107, l_108, l_109, l_110, l_111, l_112, l_114, l_115, l_116, l_117, l_119, l_121, l_122, l_136, l_200, l_255, l_300, l_364, l_900, l_1000, l_1456, l_1458, l_1459, l_1460, l_1462, l_1471, l_1504, l_1510, l_1522, l_1550, l_2971, l_9999, l_10000, l_10979, l_65536, l_m1, nI_add, pk_mul, q_sub, q_ltT, q_ltF, q_leT, q_leF, q_eqT, q_eqF, q_inT, q_inF, nI_clamp, q_mlt, q_mle, q_mne, q_mne2, q_mnlt, q_mnle, Option.bind_some, if_true, if_false, reduceIte, ite_not, not_true_eq_false, not_false_eq_true, q_z1, Nat.reduceEqDiff]
          · refine ⟨nI 0, ?_, ?_⟩
            · show nI 0 = nI (b2 (!(anyb (nfit (rl Y 1) law) k || nfit (rl Y 1) law k)))
              rw [hb]; unfold nfit; simp [c]; rfl
            · have ec' : (lg_cmp (lN (lnl law (hv (rl Y 1) k))) (lN (lv (rl Y 1) k)) = nI 0) = False := eq_false (fun g => c (ec.mp g))
              simp (disch := omega) only [fX11_fittingLaws_16, a4, a5, e32, el, e64, ec', Bool.not_false, b2_1, la, l_0, l_1, l_2, l_3, l_4, l_5, l_6, l_7, l_8, l_9, l_10, l_11, l_12, l_13, l_14, l_15, l_16, l_17, l_18, l_19, l_20, l_21, l_22, l_23, l_24, l_25, l_30, l_31, l_32, l_40, l_48, l_54, l_57, l_59, l_60, l_61, l_62, l_63, l_65, l_66, l_72, l_82, l_92, l_93, l_94, l_97, l_99, l_100, l_101, l_102, l_103, l_104, l_105, l_107, l_108, l_109, l_110, l_111, l_112, l_114, l_115, l_116, l_117, l_119, l_121, l_122, l_136, l_200, l_255, l_300, l_364, l_900, l_1000, l_1456, l_1458, l_1459, l_1460, l_1462, l_1471, l_1504, l_1510, l_1522, l_1550, l_2971, l_9999, l_10000, l_10979, l_65536, l_m1, nI_add, pk_mul, q_sub, q_ltT, q_ltF, q_leT, q_leF, q_eqT, q_eqF, q_inT, q_inF, nI_clamp, q_mlt, q_mle, q_mne, q_mne2, q_mnlt, q_mnle, Option.bind_some, if_true, if_false, reduceIte, ite_not, not_true_eq_false, not_false_eq_true, q_z1, Nat.reduceEqDiff]
        · right
          refine ⟨nI 0, ?_, ?_⟩
          · rw [anyb_mono (by omega) hb]; rfl
          · simp (disch := omega) only [fX11_fittingLaws_16, Bool.not_true, b2_0, l_0, l_1, l_2, l_3, l_4, l_5, l_6, l_7, l_8, l_9, l_10, l_11, l_12, l_13, l_14, l_15, l_16, l_17, l_18, l_19, l_20, l_21, l_22, l_23, l_24, l_25, l_30, l_31, l_32, l_40, l_48, l_54, l_57, l_59, l_60, l_61, l_62, l_63, l_65, l_66, l_72, l_82, l_92, l_93, l_94, l_97, l_99, l_100, l_101, l_102, l_103, l_104, l_105, l_107, l_108, l_109, l_110, l_111, l_112, l_114, l_115, l_116, l_117, l_119, l_121, l_122, l_136, l_200, l_255, l_300, l_364, l_900, l_1000, l_1456, l_1458, l_1459, l_1460, l_1462, l_1471, l_1504, l_1510, l_1522, l_1550, l_2971, l_9999, l_10000, l_10979, l_65536, l_m1, nI_add, pk_mul, q_sub, q_ltT, q_ltF, q_leT, q_leF, q_eqT, q_eqF, q_inT, q_inF, nI_clamp, q_mlt, q_mle, q_mne, q_mne2, q_mnlt, q_mnle, Option.bind_some, if_true, if_false, reduceIte, ite_not, not_true_eq_false, not_false_eq_true, q_z1, Nat.reduceEqDiff]) (nI 1) FU rfl (by unfold FU; omega)
    subst i1
    simp (disch := omega) only [fX11_fittingLaws_4, l_0, l_1, l_2, l_3, l_4, l_5, l_6, l_7, l_8, l_9, l_10, l_11, l_12, l_13, l_14, l_15, l_16, l_17, l_18, l_19, l_20, l_21, l_22, l_23, l_24, l_25, l_30, l_31, l_32, l_40, l_48, l_54, l_57, l_59, l_60, l_61, l_62, l_63, l_65, l_66, l_72, l_82, l_92, l_93, l_94, l_97, l_99, l_100, l_101, l_102, l_103, l_104, l_105, l_107, l_108, l_109, l_110, l_111, l_112, l_114, l_115, l_116, l_117, l_119, l_121, l_122, l_136, l_200, l_255, l_300, l_364, l_900, l_1000, l_1456, l_1458, l_1459, l_1460, l_1462, l_1471, l_1504, l_1510, l_1522, l_1550, l_2971, l_9999, l_10000, l_10979, l_65536, l_m1, nI_add, pk_mul, q_sub, q_ltT, q_ltF, q_leT, q_leF, q_eqT, q_eqF, q_inT, q_inF, nI_clamp, q_mlt, q_mle, q_mne, q_mne2, q_mnlt, q_mnle, Option.bind_some, if_true, if_false, reduceIte, ite_not, not_true_eq_false, not_false_eq_true, q_z1, Nat.reduceEqDiff]
    rw [i2]
    cases anyb (nfit (rl Y 1) law) n
    · simp (disch := omega) only [fX11_fittingLaws_70, Bool.not_false, b2_1, q_one32, q_or, l_0, l_1, l_2, l_3, l_4, l_5, l_6, l_7, l_8, l_9, l_10, l_11, l_12, l_13, l_14, l_15, l_16, l_17, l_18, l_19, l_20, l_21, l_22, l_23, l_24, l_25, l_30, l_31, l_32, l_40, l_48, l_54, l_57, l_59, l_60, l_61, l_62, l_63, l_65, l_66, l_72, l_82, l_92, l_93, l_94, l_97, l_99, l_100, l_101, l_102, l_103, l_104, l_105, l_107, l_108, l_109, l_110, l_111, l_112, l_114, l_115, l_116, l_117, l_119, l_121, l_122, l_136, l_200, l_255, l_300, l_364, l_900, l_1000, l_1456, l_1458, l_1459, l_1460, l_1462, l_1471, l_1504, l_1510, l_1522, l_1550, l_2971, l_9999, l_10000, l_10979, l_65536, l_m1, nI_add, pk_mul, q_sub, q_ltT, q_ltF, q_leT, q_leF, q_eqT, q_eqF, q_inT, q_inF, nI_clamp, q_mlt, q_mle, q_mne, q_mne2, q_mnlt, q_mnle, Option.bind_some, if_true, if_false, reduceIte, ite_not, not_true_eq_false, not_false_eq_true, q_z1, Nat.reduceEqDiff]
    · simp (disch := omega) only [fX11_fittingLaws_70, Bool.not_true, b2_0, l_0, l_1, l_2, l_3, l_4, l_5, l_6, l_7, l_8, l_9, l_10, l_11, l_12, l_13, l_14, l_15, l_16, l_17, l_18, l_19, l_20, l_21, l_22, l_23, l_24, l_25, l_30, l_31, l_32, l_40, l_48, l_54, l_57, l_59, l_60, l_61, l_62, l_63, l_65, l_66, l_72, l_82, l_92, l_93, l_94, l_97, l_99, l_100, l_101, l_102, l_103, l_104, l_105, l_107, l_108, l_109, l_110, l_111, l_112, l_114, l_115, l_116, l_117, l_119, l_121, l_122, l_136, l_200, l_255, l_300, l_364, l_900, l_1000, l_1456, l_1458, l_1459, l_1460, l_1462, l_1471, l_1504, l_1510, l_1522, l_1550, l_2971, l_9999, l_10000, l_10979, l_65536, l_m1, nI_add, pk_mul, q_sub, q_ltT, q_ltF, q_leT, q_leF, q_eqT, q_eqF, q_inT, q_inF, nI_clamp, q_mlt, q_mle, q_mne, q_mne2, q_mnlt, q_mnle, Option.bind_some, if_true, if_false, reduceIte, ite_not, not_true_eq_false, not_false_eq_true, q_z1, Nat.reduceEqDiff, Bool.false_eq_true]
def rowOf (M : ms_T) (j : Nat) : Nat → Int64 := fun i => rl M 3 (60 * j + i)
theorem M_num {j i : Nat} (hj : j < 4) (hi : i < 60) : fX12_numberOf M (nI j) (nI i) = some (rowOf M j i) := by
  simp (disch := omega) only [fX12_numberOf, l_0, l_1, l_2, l_3, l_4, l_5, l_6, l_7, l_8, l_9, l_10, l_11, l_12, l_13, l_14, l_15, l_16, l_17, l_18, l_19, l_20, l_21, l_22, l_23, l_24, l_25, l_30, l_31, l_32, l_40, l_48, l_54, l_57, l_59, l_60, l_61, l_62, l_63, l_65, l_66, l_72, l_82, l_92, l_93, l_94, l_97, l_99, l_100, l_101, l_102, l_103, l_104, l_105, l_107, l_108, l_109, l_110, l_111, l_112, l_114, l_115, l_116, l_117, l_119, l_121, l_122, l_136, l_200, l_255, l_300, l_364, l_900, l_1000, l_1456, l_1458, l_1459, l_1460, l_1462, l_1471, l_1504, l_1510, l_1522, l_1550, l_2971, l_9999, l_10000, l_10979, l_65536, l_m1, nI_add, pk_mul, q_sub, q_ltT, q_ltF, q_leT, q_leF, q_eqT, q_eqF, q_inT, q_inF, nI_clamp, q_mlt, q_mle, q_mne, q_mne2, q_mnlt, q_mnle, la, Option.bind_some, if_true, if_false, reduceIte, ite_not, not_true_eq_false, not_false_eq_true, q_z1, Nat.reduceEqDiff]
  rfl
theorem M_lays {j n : Nat} (hj : j < 4) (hn : n ≤ 20) (h : ∀ i, i < n → lok (rowOf M j) i) : ∃ M', fX12_laysLaws M (nI j) (nI n) = some M' ∧ gi M' 27 = nI (siz (lwX (rowOf M j) n) 32) ∧ gi M' 28 = nI (lwX (rowOf M j) n) ∧ (∀ k, k ≠ 27 → k ≠ 28 → gi M' k = gi M k) ∧ M'.2 = M.2 := by
  unfold fX12_laysLaws
  rw [lwX_sm]
  obtain ⟨r, e, hr⟩ := lp_up (fun f i S => fX12_laysLaws_12 f S (nI j) (nI n) i) 32 (fun k S => gi S 27 = nI (sm (fun law => b2 (!anyb (nfit (rowOf M j) law) n)) k) ∧ gi S 28 = nI (bs (fun _ law => !anyb (nfit (rowOf M j) law) n) k) ∧ (∀ k, k ≠ 27 → k ≠ 28 → gi S k = gi M k) ∧ S.2 = M.2)
    (fun M' => gi M' 27 = nI (sm (fun law => b2 (!anyb (nfit (rowOf M j) law) n)) 32) ∧ gi M' 28 = nI (lwX (rowOf M j) n) ∧ (∀ k, k ≠ 27 → k ≠ 28 → gi M' k = gi M k) ∧ M'.2 = M.2)
    (fun f S hI => ⟨S, by simp (disch := omega) only [fX12_laysLaws_12, l_0, l_1, l_2, l_3, l_4, l_5, l_6, l_7, l_8, l_9, l_10, l_11, l_12, l_13, l_14, l_15, l_16, l_17, l_18, l_19, l_20, l_21, l_22, l_23, l_24, l_25, l_30, l_31, l_32, l_40, l_48, l_54, l_57, l_59, l_60, l_61, l_62, l_63, l_65, l_66, l_72, l_82, l_92, l_93, l_94, l_97, l_99, l_100, l_101, l_102, l_103, l_104, l_105, l_107, l_108, l_109, l_110, l_111, l_112, l_114, l_115, l_116, l_117, l_119, l_121, l_122, l_136, l_200, l_255, l_300, l_364, l_900, l_1000, l_1456, l_1458, l_1459, l_1460, l_1462, l_1471, l_1504, l_1510, l_1522, l_1550, l_2971, l_9999, l_10000, l_10979, l_65536, l_m1, nI_add, pk_mul, q_sub, q_ltT, q_ltF, q_leT, q_leF, q_eqT, q_eqF, q_inT, q_inF, nI_clamp, q_mlt, q_mle, q_mne, q_mne2, q_mnlt, q_mnle, Option.bind_some, if_true, if_false, reduceIte, ite_not, not_true_eq_false, not_false_eq_true, q_z1, Nat.reduceEqDiff], hI⟩)
    (fun f law S hl hI => by
      left
      obtain ⟨c1, c2, c3, c4⟩ := hI
      have er : rowOf S j = rowOf M j := by
        funext i
        show S.2.2.2 3 _ = M.2.2.2 3 _
        rw [c4]
      obtain ⟨s', i1, i2⟩ := lp_eq (fun q i s => fX12_laysLaws_24 (fX12_laysLaws_12 f) q S (nI j) (nI n) (nI law) s i) (fun s => if s = nI 0 then fX12_laysLaws_93 (fX12_laysLaws_12 f) S (nI j) (nI n) (nI law) s (nI 0) (gi S 27) else fX12_laysLaws_93 (fX12_laysLaws_12 f) S (nI j) (nI n) (nI law) s (nI 1) (gi S 27)) n (fun k s => s = nI (b2 (!anyb (nfit (rowOf M j) law) k)))
        (fun q s hs => by by_cases c : s = nI 0 <;> simp (disch := omega) only [fX12_laysLaws_24, c, l_0, l_1, l_2, l_3, l_4, l_5, l_6, l_7, l_8, l_9, l_10, l_11, l_12, l_13, l_14, l_15, l_16, l_17, l_18, l_19, l_20, l_21, l_22, l_23, l_24, l_25, l_30, l_31, l_32, l_40, l_48, l_54, l_57, l_59, l_60, l_61, l_62, l_63, l_65, l_66, l_72, l_82, l_92, l_93, l_94, l_97, l_99, l_100, l_101, l_102, l_103, l_104, l_105, l_107, l_108, l_109, l_110, l_111, l_112, l_114, l_115, l_116, l_117, l_119, l_121, l_122, l_136, l_200, l_255, l_300, l_364, l_900, l_1000, l_1456, l_1458, l_1459, l_1460, l_1462, l_1471, l_1504, l_1510, l_1522, l_1550, l_2971, l_9999, l_10000, l_10979, l_65536, l_m1, nI_add, pk_mul, q_sub, q_ltT, q_ltF, q_leT, q_leF, q_eqT, q_eqF, q_inT, q_inF, nI_clamp, q_mlt, q_mle, q_mne, q_mne2, q_mnlt, q_mnle, Option.bind_some, if_true, if_false, reduceIte, ite_not, not_true_eq_false, not_false_eq_true, q_z1, Nat.reduceEqDiff])
        (fun q k s hk hs => by
          subst hs
          cases hb : anyb (nfit (rowOf M j) law) k
          · obtain ⟨a1, a2, a3, a4, a5⟩ := lok_e (h k hk)
            have n1 := M_num (M := S) (j := j) (i := 2 * k) hj (by omega)
            have n2 := M_num (M := S) (j := j) (i := 2 * k + 1) hj (by omega)
            rw [er, a4] at n1
            rw [er, a5] at n2
            have el := N_lands hl (h := hv (rowOf M j) k) (by omega)
            have e32 : (lN (hv (rowOf M j) k)).toInt32 = nI (hv (rowOf M j) k) := lN_i _
            have hle : lnl law (hv (rowOf M j) k) ≤ hv (rowOf M j) k := by unfold lnl; omega
            have e64 : (nI (lnl law (hv (rowOf M j) k))).toInt64 = lN (lnl law (hv (rowOf M j) k)) := nI_l (by omega)
            have ec := lgc_eq (lN (lnl law (hv (rowOf M j) k))) (lN (lv (rowOf M j) k))
            rw [pk_lEQ (by omega) (by omega)] at ec
            by_cases c : lnl law (hv (rowOf M j) k) = lv (rowOf M j) k
            · refine ⟨nI 1, ?_, ?_⟩
              · show nI 1 = nI (b2 (!(anyb (nfit (rowOf M j) law) k || nfit (rowOf M j) law k)))
                rw [hb]; unfold nfit; simp [c]; rfl
              · have ec' : (lg_cmp (lN (lnl law (hv (rowOf M j) k))) (lN (lv (rowOf M j) k)) = nI 0) = True := eq_true (ec.mpr c)
                simp (disch := omega) only [fX12_laysLaws_24, n1, n2, e32, el, e64, ec', Bool.not_false, b2_1, l_0, l_1, l_2, l_3, l_4, l_5, l_6, l_7, l_8, l_9, l_10, l_11, l_12, l_13, l_14, l_15, l_16, l_17, l_18, l_19, l_20, l_21, l_22, l_23, l_24, l_25, l_30, l_31, l_32, l_40, l_48, l_54, l_57, l_59, l_60, l_61, l_62, l_63, l_65, l_66, l_72, l_82, l_92, l_93, l_94, l_97, l_99, l_100, l_101, l_102, l_103, l_104, l_105, l_107, l_108, l_109, l_110, l_111, l_112, l_114, l_115, l_116, l_117, l_119, l_121, l_122, l_136, l_200, l_255, l_300, l_364, l_900, l_1000, l_1456, l_1458, l_1459, l_1460, l_1462, l_1471, l_1504, l_1510, l_1522, l_1550, l_2971, l_9999, l_10000, l_10979, l_65536, l_m1, nI_add, pk_mul, q_sub, q_ltT, q_ltF, q_leT, q_leF, q_eqT, q_eqF, q_inT, q_inF, nI_clamp, q_mlt, q_mle, q_mne, q_mne2, q_mnlt, q_mnle, Option.bind_some, if_true, if_false, reduceIte, ite_not, not_true_eq_false, not_false_eq_true, q_z1, Nat.reduceEqDiff]
            · refine ⟨nI 0, ?_, ?_⟩
              · show nI 0 = nI (b2 (!(anyb (nfit (rowOf M j) law) k || nfit (rowOf M j) law k)))
                rw [hb]; unfold nfit; simp [c]; rfl
              · have ec' : (lg_cmp (lN (lnl law (hv (rowOf M j) k))) (lN (lv (rowOf M j) k)) = nI 0) = False := eq_false (fun g => c (ec.mp g))
                simp (disch := omega) only [fX12_laysLaws_24, n1, n2, e32, el, e64, ec', Bool.not_false, b2_1, l_0, l_1, l_2, l_3, l_4, l_5, l_6, l_7, l_8, l_9, l_10, l_11, l_12, l_13, l_14, l_15, l_16, l_17, l_18, l_19, l_20, l_21, l_22, l_23, l_24, l_25, l_30, l_31, l_32, l_40, l_48, l_54, l_57, l_59, l_60, l_61, l_62, l_63, l_65, l_66, l_72, l_82, l_92, l_93, l_94, l_97, l_99, l_100, l_101, l_102, l_103, l_104, l_105, l_107, l_108, l_109, l_110, l_111, l_112, l_114, l_115, l_116, l_117, l_119, l_121, l_122, l_136, l_200, l_255, l_300, l_364, l_900, l_1000, l_1456, l_1458, l_1459, l_1460, l_1462, l_1471, l_1504, l_1510, l_1522, l_1550, l_2971, l_9999, l_10000, l_10979, l_65536, l_m1, nI_add, pk_mul, q_sub, q_ltT, q_ltF, q_leT, q_leF, q_eqT, q_eqF, q_inT, q_inF, nI_clamp, q_mlt, q_mle, q_mne, q_mne2, q_mnlt, q_mnle, Option.bind_some, if_true, if_false, reduceIte, ite_not, not_true_eq_false, not_false_eq_true, q_z1, Nat.reduceEqDiff]
          · refine ⟨nI 0, ?_, ?_⟩
            · show nI 0 = nI (b2 (!(anyb (nfit (rowOf M j) law) k || nfit (rowOf M j) law k)))
              rw [hb]; rfl
            · simp (disch := omega) only [fX12_laysLaws_24, Bool.not_true, b2_0, l_0, l_1, l_2, l_3, l_4, l_5, l_6, l_7, l_8, l_9, l_10, l_11, l_12, l_13, l_14, l_15, l_16, l_17, l_18, l_19, l_20, l_21, l_22, l_23, l_24, l_25, l_30, l_31, l_32, l_40, l_48, l_54, l_57, l_59, l_60, l_61, l_62, l_63, l_65, l_66, l_72, l_82, l_92, l_93, l_94, l_97, l_99, l_100, l_101, l_102, l_103, l_104, l_105, l_107, l_108, l_109, l_110, l_111, l_112, l_114, l_115, l_116, l_117, l_119, l_121, l_122, l_136, l_200, l_255, l_300, l_364, l_900, l_1000, l_1456, l_1458, l_1459, l_1460, l_1462, l_1471, l_1504, l_1510, l_1522, l_1550, l_2971, l_9999, l_10000, l_10979, l_65536, l_m1, nI_add, pk_mul, q_sub, q_ltT, q_ltF, q_leT, q_leF, q_eqT, q_eqF, q_inT, q_inF, nI_clamp, q_mlt, q_mle, q_mne, q_mne2, q_mnlt, q_mnle, Option.bind_some, if_true, if_false, reduceIte, ite_not, not_true_eq_false, not_false_eq_true, q_z1, Nat.reduceEqDiff]) (nI 1) FU rfl (by unfold FU; omega)
      subst i1
      cases hb : anyb (nfit (rowOf M j) law) n
      · rw [hb] at i2
        refine ⟨si (si S 27 (nI (sm (fun law => b2 (!anyb (nfit (rowOf M j) law) n)) (law + 1)))) 28 (nI (bs (fun _ law => !anyb (nfit (rowOf M j) law) n) (law + 1))), ⟨rfl, rfl, fun k h1 h2 => by rw [q_gi, if_neg h2, q_gi, if_neg h1]; exact c3 k h1 h2, c4⟩, ?_⟩
        simp (disch := omega) only [fX12_laysLaws_12, l_0, l_1, l_2, l_3, l_4, l_5, l_6, l_7, l_8, l_9, l_10, l_11, l_12, l_13, l_14, l_15, l_16, l_17, l_18, l_19, l_20, l_21, l_22, l_23, l_24, l_25, l_30, l_31, l_32, l_40, l_48, l_54, l_57, l_59, l_60, l_61, l_62, l_63, l_65, l_66, l_72, l_82, l_92, l_93, l_94, l_97, l_99, l_100, l_101, l_102, l_103, l_104, l_105, l_107, l_108, l_109, l_110, l_111, l_112, l_114, l_115, l_116, l_117, l_119, l_121, l_122, l_136, l_200, l_255, l_300, l_364, l_900, l_1000, l_1456, l_1458, l_1459, l_1460, l_1462, l_1471, l_1504, l_1510, l_1522, l_1550, l_2971, l_9999, l_10000, l_10979, l_65536, l_m1, nI_add, pk_mul, q_sub, q_ltT, q_ltF, q_leT, q_leF, q_eqT, q_eqF, q_inT, q_inF, nI_clamp, q_mlt, q_mle, q_mne, q_mne2, q_mnlt, q_mnle, Option.bind_some, if_true, if_false, reduceIte, ite_not, not_true_eq_false, not_false_eq_true, q_z1, Nat.reduceEqDiff]
        rw [i2, sm_s, bs_s, hb]
        simp (disch := omega) only [fX12_laysLaws_93, c1, c2, Bool.not_false, b2_1, q_one32, q_or, l_0, l_1, l_2, l_3, l_4, l_5, l_6, l_7, l_8, l_9, l_10, l_11, l_12, l_13, l_14, l_15, l_16, l_17, l_18, l_19, l_20, l_21, l_22, l_23, l_24, l_25, l_30, l_31, l_32, l_40, l_48, l_54, l_57, l_59, l_60, l_61, l_62, l_63, l_65, l_66, l_72, l_82, l_92, l_93, l_94, l_97, l_99, l_100, l_101, l_102, l_103, l_104, l_105, l_107, l_108, l_109, l_110, l_111, l_112, l_114, l_115, l_116, l_117, l_119, l_121, l_122, l_136, l_200, l_255, l_300, l_364, l_900, l_1000, l_1456, l_1458, l_1459, l_1460, l_1462, l_1471, l_1504, l_1510, l_1522, l_1550, l_2971, l_9999, l_10000, l_10979, l_65536, l_m1, nI_add, pk_mul, q_sub, q_ltT, q_ltF, q_leT, q_leF, q_eqT, q_eqF, q_inT, q_inF, nI_clamp, q_mlt, q_mle, q_mne, q_mne2, q_mnlt, q_mnle, q_gi, q_gil, q_gir, q_giR, q_gl, q_gli, q_glr, q_glR, q_ra, q_rai, q_ral, q_raR, q_rl, q_rli, q_rll, q_rlr, sa, sA, ia, la, q_srsr, q_sRsR, Option.bind_some, if_true, if_false, reduceIte, ite_not, not_true_eq_false, not_false_eq_true, q_z1, Nat.reduceEqDiff]
      · rw [hb] at i2
        refine ⟨si (si S 27 (nI (sm (fun law => b2 (!anyb (nfit (rowOf M j) law) n)) (law + 1)))) 28 (nI (bs (fun _ law => !anyb (nfit (rowOf M j) law) n) (law + 1))), ⟨rfl, rfl, fun k h1 h2 => by rw [q_gi, if_neg h2, q_gi, if_neg h1]; exact c3 k h1 h2, c4⟩, ?_⟩
        simp (disch := omega) only [fX12_laysLaws_12, l_0, l_1, l_2, l_3, l_4, l_5, l_6, l_7, l_8, l_9, l_10, l_11, l_12, l_13, l_14, l_15, l_16, l_17, l_18, l_19, l_20, l_21, l_22, l_23, l_24, l_25, l_30, l_31, l_32, l_40, l_48, l_54, l_57, l_59, l_60, l_61, l_62, l_63, l_65, l_66, l_72, l_82, l_92, l_93, l_94, l_97, l_99, l_100, l_101, l_102, l_103, l_104, l_105, l_107, l_108, l_109, l_110, l_111, l_112, l_114, l_115, l_116, l_117, l_119, l_121, l_122, l_136, l_200, l_255, l_300, l_364, l_900, l_1000, l_1456, l_1458, l_1459, l_1460, l_1462, l_1471, l_1504, l_1510, l_1522, l_1550, l_2971, l_9999, l_10000, l_10979, l_65536, l_m1, nI_add, pk_mul, q_sub, q_ltT, q_ltF, q_leT, q_leF, q_eqT, q_eqF, q_inT, q_inF, nI_clamp, q_mlt, q_mle, q_mne, q_mne2, q_mnlt, q_mnle, Option.bind_some, if_true, if_false, reduceIte, ite_not, not_true_eq_false, not_false_eq_true, q_z1, Nat.reduceEqDiff]
        rw [i2, sm_s, bs_s, hb]
        simp (disch := omega) only [fX12_laysLaws_93, c1, c2, Bool.not_true, b2_0, q_or0, Bool.false_eq_true, Nat.add_zero, l_0, l_1, l_2, l_3, l_4, l_5, l_6, l_7, l_8, l_9, l_10, l_11, l_12, l_13, l_14, l_15, l_16, l_17, l_18, l_19, l_20, l_21, l_22, l_23, l_24, l_25, l_30, l_31, l_32, l_40, l_48, l_54, l_57, l_59, l_60, l_61, l_62, l_63, l_65, l_66, l_72, l_82, l_92, l_93, l_94, l_97, l_99, l_100, l_101, l_102, l_103, l_104, l_105, l_107, l_108, l_109, l_110, l_111, l_112, l_114, l_115, l_116, l_117, l_119, l_121, l_122, l_136, l_200, l_255, l_300, l_364, l_900, l_1000, l_1456, l_1458, l_1459, l_1460, l_1462, l_1471, l_1504, l_1510, l_1522, l_1550, l_2971, l_9999, l_10000, l_10979, l_65536, l_m1, nI_add, pk_mul, q_sub, q_ltT, q_ltF, q_leT, q_leF, q_eqT, q_eqF, q_inT, q_inF, nI_clamp, q_mlt, q_mle, q_mne, q_mne2, q_mnlt, q_mnle, q_gi, q_gil, q_gir, q_giR, q_gl, q_gli, q_glr, q_glR, q_ra, q_rai, q_ral, q_raR, q_rl, q_rli, q_rll, q_rlr, sa, sA, ia, la, q_srsr, q_sRsR, Option.bind_some, if_true, if_false, reduceIte, ite_not, not_true_eq_false, not_false_eq_true, q_z1, Nat.reduceEqDiff]) 0 (si (si M 27 (nI 0)) 28 (nI 0)) FU (by omega) ⟨rfl, rfl, fun k h1 h2 => by rw [q_gi, if_neg h2, q_gi, if_neg h1], rfl⟩ (by unfold FU; omega)
  exact ⟨r, e, hr⟩
end Q45
