/-! feuds as rows of bits -/
section Q59
variable {T M U : ms_T} {t : Nat → Nat}
/-- the class's rows of bits, after k feuds -/
def fbs (t : Nat → Nat) (k : Nat) (f : Nat → Int32) : Prop := ∀ i, i < 6 → ∃ s, f i = nI s ∧ s < 64 ∧ ∀ j, s.testBit j = anyb (fdb t i j) k
theorem q_b64 {s b : Nat} (hs : s < 64) (hb : b < 6) : s ||| 2 ^ b < 64 := by
  have h2 : (2 : Nat) ^ b < 2 ^ 6 := Nat.pow_lt_pow_right (by decide) hb
  exact Nat.or_lt_two_pow (n := 6) hs h2
theorem q_set1 {s b : Nat} (hb : b < 6) : nI s ||| ((nI 1) <<< (nI b &&& nI 31)) = nI (s ||| 2 ^ b) := by
  have h2 : (2 : Nat) ^ b < 2 ^ 6 := Nat.pow_lt_pow_right (by decide) hb
  rw [q_shl (by omega) (by omega), q_or, Nat.one_mul]
theorem U_begin (w : tb_W t) (h : tb_C T t) : ∃ f, fX3_begin U T = some (sr U 1 f) ∧ fbs t (t 3) f := by
  obtain ⟨w0, w1, w2, w3, w4, w5, w6, w7, w8, w9⟩ := id w
  obtain ⟨h0, h1, h2, h3, h4, h5, h6, h7, h8, h9, h10, h11, h12, h13, h14, h15, h16⟩ := id h
  have e0 : U = sr U 1 (ra U 1) := by
    unfold sr
    refine Prod.ext rfl (Prod.ext rfl (Prod.ext ?_ rfl))
    funext b
    show U.2.2.1 b = if b = 1 then U.2.2.1 1 else U.2.2.1 b
    split
    · next c => rw [c]
    · rfl
  have fin : ∀ f, fbs t 0 f → ∃ r, fX3_begin_28 T FU (sr U 1 f) (nI 0) = some r ∧ ∃ f, r = sr U 1 f ∧ fbs t (t 3) f := by
    intro f hf
    exact lp_up (fun x i f => fX3_begin_28 T x (sr U 1 f) i) (t 3) (fun k f => fbs t k f) (fun r => ∃ f, r = sr U 1 f ∧ fbs t (t 3) f)
      (fun x f hf => ⟨sr U 1 f, by simp (disch := omega) only [fX3_begin_28, h6, l_0, l_1, l_2, l_3, l_4, l_5, l_6, l_7, l_8, l_9, l_10, l_11, l_12, l_13, l_14, l_15, l_16, l_17, l_18, l_19, l_20, l_21, l_22, l_23, l_24, l_25, l_30, l_31, l_32, l_40, l_48, l_54, l_57, l_59, l_60, l_61, l_62, l_63, l_65, l_66, l_72, l_82, l_92, l_93, l_94, l_97, l_99, l_100, l_101, l_102, l_103, l_104, l_105, l_107, l_108, l_109, l_110, l_111, l_112, l_114, l_115, l_116, l_117, l_119, l_121, l_122, l_136, l_200, l_255, l_300, l_364, l_900, l_1000, l_1456, l_1458, l_1459, l_1460, l_1462, l_1471, l_1504, l_1510, l_1522, l_1550, l_2971, l_9999, l_10000, l_10979, l_65536, l_m1, nI_add, pk_mul, q_sub, q_ltT, q_ltF, q_leT, q_leF, q_eqT, q_eqF, q_inT, q_inF, nI_clamp, q_mlt, q_mle, q_mne, q_mne2, q_mnlt, q_mnle, Option.bind_some, if_true, if_false, reduceIte, ite_not, not_true_eq_false, not_false_eq_true, q_z1, Nat.reduceEqDiff], f, rfl, hf⟩)
      (fun x k f hk hf => by
        left
        have b8 := w8 k hk
        have ea := h15 k hk
        have eb := h16 k hk
        generalize hA : t (72 + k) = a at *
        generalize hB : t (82 + k) = b at *
        obtain ⟨sa', a1, a2, a3⟩ := hf a (by omega)
        obtain ⟨sb', b1, b2', b3⟩ := hf b (by omega)
        have eu : upd f a (nI (sa' ||| 2 ^ b)) b = nI sb' := by rw [up_n _ _ _ (by omega)]; exact b1
        refine ⟨upd (upd f a (nI (sa' ||| 2 ^ b))) b (nI (sb' ||| 2 ^ a)), fun i hi => ?_, ?_⟩
        · have ef : ∀ j, fdb t i j k = ((decide (a = i) && decide (b = j)) || (decide (a = j) && decide (b = i))) := fun j => by rw [← hA, ← hB]; rfl
          by_cases c1 : i = b
          · refine ⟨sb' ||| 2 ^ a, by rw [up_e _ _ _ c1], q_b64 b2' (by omega), fun j => ?_⟩
            rw [Nat.testBit_or, b3, Nat.testBit_two_pow]
            show _ = (anyb (fdb t i j) k || fdb t i j k)
            rw [ef, ← c1]
            have : ¬ a = i := by omega
            simp [this]
          · by_cases c2 : i = a
            · refine ⟨sa' ||| 2 ^ b, by rw [up_n _ _ _ c1, up_e _ _ _ c2], q_b64 a2 (by omega), fun j => ?_⟩
              rw [Nat.testBit_or, a3, Nat.testBit_two_pow]
              show _ = (anyb (fdb t i j) k || fdb t i j k)
              rw [ef, ← c2]
              have : ¬ b = i := by omega
              simp [this]
            · obtain ⟨s, s1, s2, s3⟩ := hf i hi
              refine ⟨s, by rw [up_n _ _ _ c1, up_n _ _ _ c2]; exact s1, s2, fun j => ?_⟩
              rw [s3]
              show _ = (anyb (fdb t i j) k || fdb t i j k)
              rw [ef]
              have q1 : ¬ a = i := by omega
              have q2 : ¬ b = i := by omega
              simp [q1, q2]
        · simp (disch := omega) only [fX3_begin_28, h6, ea, eb, a1, q_set1, eu, l_0, l_1, l_2, l_3, l_4, l_5, l_6, l_7, l_8, l_9, l_10, l_11, l_12, l_13, l_14, l_15, l_16, l_17, l_18, l_19, l_20, l_21, l_22, l_23, l_24, l_25, l_30, l_31, l_32, l_40, l_48, l_54, l_57, l_59, l_60, l_61, l_62, l_63, l_65, l_66, l_72, l_82, l_92, l_93, l_94, l_97, l_99, l_100, l_101, l_102, l_103, l_104, l_105, l_107, l_108, l_109, l_110, l_111, l_112, l_114, l_115, l_116, l_117, l_119, l_121, l_122, l_136, l_200, l_255, l_300, l_364, l_900, l_1000, l_1456, l_1458, l_1459, l_1460, l_1462, l_1471, l_1504, l_1510, l_1522, l_1550, l_2971, l_9999, l_10000, l_10979, l_65536, l_m1, nI_add, pk_mul, q_sub, q_ltT, q_ltF, q_leT, q_leF, q_eqT, q_eqF, q_inT, q_inF, nI_clamp, q_mlt, q_mle, q_mne, q_mne2, q_mnlt, q_mnle, q_gi, q_gil, q_gir, q_giR, q_gl, q_gli, q_glr, q_glR, q_ra, q_rai, q_ral, q_raR, q_rl, q_rli, q_rll, q_rlr, sa, sA, ia, la, q_srsr, q_sRsR, Option.bind_some, if_true, if_false, reduceIte, ite_not, not_true_eq_false, not_false_eq_true, q_z1, Nat.reduceEqDiff]) 0 f FU (by omega) hf (by unfold FU; omega)
  obtain ⟨r, g1, f, rfl, g2⟩ := lp_up (fun x i f => fX3_begin_7 T x (sr U 1 f) i) 6 (fun k f => ∀ i, i < k → f i = nI 0) (fun r => ∃ f, r = sr U 1 f ∧ fbs t (t 3) f)
    (fun x f hf => by
      obtain ⟨r, e, hr⟩ := fin f (fun i hi => ⟨0, hf i hi, by omega, fun j => by rw [Nat.zero_testBit]; rfl⟩)
      exact ⟨r, by rw [← e]; simp (disch := omega) only [fX3_begin_7, l_0, l_1, l_2, l_3, l_4, l_5, l_6, l_7, l_8, l_9, l_10, l_11, l_12, l_13, l_14, l_15, l_16, l_17, l_18, l_19, l_20, l_21, l_22, l_23, l_24, l_25, l_30, l_31, l_32, l_40, l_48, l_54, l_57, l_59, l_60, l_61, l_62, l_63, l_65, l_66, l_72, l_82, l_92, l_93, l_94, l_97, l_99, l_100, l_101, l_102, l_103, l_104, l_105, l_107, l_108, l_109, l_110, l_111, l_112, l_114, l_115, l_116, l_117, l_119, l_121, l_122, l_136, l_200, l_255, l_300, l_364, l_900, l_1000, l_1456, l_1458, l_1459, l_1460, l_1462, l_1471, l_1504, l_1510, l_1522, l_1550, l_2971, l_9999, l_10000, l_10979, l_65536, l_m1, nI_add, pk_mul, q_sub, q_ltT, q_ltF, q_leT, q_leF, q_eqT, q_eqF, q_inT, q_inF, nI_clamp, q_mlt, q_mle, q_mne, q_mne2, q_mnlt, q_mnle, Option.bind_some, if_true, if_false, reduceIte, ite_not, not_true_eq_false, not_false_eq_true, q_z1, Nat.reduceEqDiff], hr⟩)
    (fun x k f hk hf => by
      left
      refine ⟨upd f k (nI 0), fun i hi => ?_, ?_⟩
      · by_cases c : i = k
        · rw [up_e _ _ _ c]
        · rw [up_n _ _ _ c]; exact hf i (by omega)
      · simp (disch := omega) only [fX3_begin_7, l_0, l_1, l_2, l_3, l_4, l_5, l_6, l_7, l_8, l_9, l_10, l_11, l_12, l_13, l_14, l_15, l_16, l_17, l_18, l_19, l_20, l_21, l_22, l_23, l_24, l_25, l_30, l_31, l_32, l_40, l_48, l_54, l_57, l_59, l_60, l_61, l_62, l_63, l_65, l_66, l_72, l_82, l_92, l_93, l_94, l_97, l_99, l_100, l_101, l_102, l_103, l_104, l_105, l_107, l_108, l_109, l_110, l_111, l_112, l_114, l_115, l_116, l_117, l_119, l_121, l_122, l_136, l_200, l_255, l_300, l_364, l_900, l_1000, l_1456, l_1458, l_1459, l_1460, l_1462, l_1471, l_1504, l_1510, l_1522, l_1550, l_2971, l_9999, l_10000, l_10979, l_65536, l_m1, nI_add, pk_mul, q_sub, q_ltT, q_ltF, q_leT, q_leF, q_eqT, q_eqF, q_inT, q_inF, nI_clamp, q_mlt, q_mle, q_mne, q_mne2, q_mnlt, q_mnle, q_gi, q_gil, q_gir, q_giR, q_gl, q_gli, q_glr, q_glR, q_ra, q_rai, q_ral, q_raR, q_rl, q_rli, q_rll, q_rlr, sa, sA, ia, la, q_srsr, q_sRsR, Option.bind_some, if_true, if_false, reduceIte, ite_not, not_true_eq_false, not_false_eq_true, q_z1, Nat.reduceEqDiff]) 0 (ra U 1) FU (by omega) (fun i hi => by omega) (by unfold FU; omega)
  refine ⟨f, ?_, g2⟩
  unfold fX3_begin
  rw [← g1]
  exact congrArg (fun m => fX3_begin_7 T FU m 0) e0
end Q59
