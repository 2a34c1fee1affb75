/-! a search that keeps the first least; the class's search for topics -/
/-- from best m and row k the search through C comes to m' and k' -/
def pst (Q cd : (Nat → Nat) → Nat) (C : (Nat → Nat) → Prop) (m : Nat) (k : Nat → Nat) (m' : Nat) (k' : Nat → Nat) : Prop :=
  (∀ s, C s → m' ≤ Q s) ∧ ((m' = m ∧ k' = k) ∨ (m' < m ∧ C k' ∧ Q k' = m' ∧ ∀ s, C s → cd s < cd k' → m' < Q s))
section Q65a
variable {Q cd : (Nat → Nat) → Nat} {C C1 C2 : (Nat → Nat) → Prop} {m m1 m2 m' : Nat} {k k1 k2 k' : Nat → Nat}
theorem pst_le (h : pst Q cd C m k m' k') : m' ≤ m := by rcases h.2 with ⟨h, _⟩ | ⟨h, _⟩ <;> omega
theorem pst_nil (h : ∀ s, C s → m ≤ Q s) : pst Q cd C m k m k := ⟨h, Or.inl ⟨rfl, rfl⟩⟩
theorem pst_iff (h : pst Q cd C1 m k m' k') (hC : ∀ s, C s ↔ C1 s) : pst Q cd C m k m' k' := by
  refine ⟨fun s hs => h.1 s ((hC s).mp hs), ?_⟩
  rcases h.2 with g | ⟨a1, a2, a3, a4⟩
  · exact Or.inl g
  · exact Or.inr ⟨a1, (hC _).mpr a2, a3, fun s hs => a4 s ((hC s).mp hs)⟩
theorem pst_cat (h1 : pst Q cd C1 m k m1 k1) (h2 : pst Q cd C2 m1 k1 m2 k2) (lt : ∀ a b, C1 a → C2 b → cd a < cd b) (hC : ∀ s, C s ↔ C1 s ∨ C2 s) : pst Q cd C m k m2 k2 := by
  have l2 := pst_le h2
  have l1 := pst_le h1
  refine ⟨fun s hs => ?_, ?_⟩
  · rcases (hC s).mp hs with h | h
    · exact Nat.le_trans l2 (h1.1 s h)
    · exact h2.1 s h
  · rcases h2.2 with ⟨e1, e2⟩ | ⟨a1, a2, a3, a4⟩
    · subst e1; subst e2
      rcases h1.2 with g | ⟨b1, b3, b4, b5⟩
      · exact Or.inl g
      · refine Or.inr ⟨b1, (hC _).mpr (Or.inl b3), b4, fun s hs hlt => ?_⟩
        rcases (hC s).mp hs with h | h
        · exact b5 s h hlt
        · have := lt _ s b3 h; omega
    · refine Or.inr ⟨by omega, (hC _).mpr (Or.inr a2), a3, fun s hs hlt => ?_⟩
      rcases (hC s).mp hs with h | h
      · have := h1.1 s h; omega
      · exact a4 s h hlt
end Q65a
theorem sm_mono {f : Nat → Nat} {d n : Nat} (h : d ≤ n) : sm f d ≤ sm f n := by
  obtain ⟨e, rfl⟩ : ∃ e, n = d + e := ⟨n - d, by omega⟩
  rw [sm_split]; omega
theorem mxu_cong {r s : Nat → Nat} : ∀ {i : Nat}, (∀ j, j < i → r j = s j) → mxu r i = mxu s i
  | 0, _ => rfl
  | i + 1, h => by
    show max (mxu r i) (r i + 1) = max (mxu s i) (s i + 1)
    rw [mxu_cong (fun j hj => h j (by omega)), h i (by omega)]
theorem qe_cong {t r s : Nat → Nat} {i : Nat} (h : ∀ j, j ≤ i → r j = s j) : qe t r i = qe t s i := by
  unfold qe
  exact sm_cong (fun j hj => by rw [h j (by omega), h i (by omega)])
theorem qe_le (t r : Nat → Nat) (i : Nat) : qe t r i ≤ i := by
  have := sm_le (f := fun j => if r j = r i then b2 (anyb (fdb t i j) (t 3)) else 0) (c := 1) (n := i) (fun j _ => by
    show (if r j = r i then b2 (anyb (fdb t i j) (t 3)) else 0) ≤ 1
    split
    · exact b2_le _
    · omega)
  unfold qe; omega
theorem qs_cong {t r s : Nat → Nat} {d : Nat} (h : ∀ j, j < d → r j = s j) : sm (qe t r) d = sm (qe t s) d := sm_cong (fun i hi => qe_cong (fun j hj => h j (by omega)))
theorem qs_le (t r : Nat → Nat) {d : Nat} (hd : d ≤ 6) : sm (qe t r) d ≤ 36 := by
  have := sm_le (f := qe t r) (c := 6) (n := d) (fun j hj => Nat.le_trans (qe_le t r j) (by omega))
  omega
theorem nI_bv (x : Int32) : nI x.toBitVec.toNat = x := by
  apply Int32.toBitVec_inj.1
  show BitVec.ofNat 32 x.toBitVec.toNat = x.toBitVec
  simp
def cnd (wd n : Nat) (r : Nat → Nat) (d : Nat) (s : Nat → Nat) : Prop := (∀ j, j < d → s j = r j) ∧ (∀ j, j < n → s j < wd) ∧ rgs s n
def ust (t : Nat → Nat) (U : ms_T) (wd d : Nat) (r : Nat → Nat) (m : Nat) (k : Nat → Nat) : Prop :=
  fbs t (t 3) (ra U 1) ∧ gi U 1 = nI wd ∧ gi U 2 = nI m ∧ (∀ j, j < d → ra U 2 j = nI (r j)) ∧ ∀ j, j < t 2 → ra U 3 j = nI (k j)
section Q65
variable {T M U : ms_T} {t : Nat → Nat}
theorem cnd_ge (w : tb_W t) {r s : Nat → Nat} {d : Nat} (hd : d ≤ t 2) (hs : ∀ j, j < d → s j = r j) : sm (qe t r) d ≤ qf t s := by
  rw [← qe_qf w s, ← qs_cong hs]; exact sm_mono hd
theorem U_put (w : tb_W t) (h : tb_C T t) {wd : Nat} (hwd : wd ≤ 6) : ∀ e fu d U r m k, d + e = t 2 → e < fu → m ≤ 11 → (∀ j, j < d → r j < wd) → rgs r d → ust t U wd d r m k →
    ∃ U' m' k', fX3_putOnTopic fu U T (nI d) (nI (mxu r d)) (nI (sm (qe t r) d)) = some (U', T) ∧ ust t U' wd d r m' k' ∧ pst (qf t) (fun s => cdw wd s (t 2)) (cnd wd (t 2) r d) m k m' k' := by
  obtain ⟨w0, w1, w2, w3, w4, w5, w6, w7, w8, w9⟩ := id w
  obtain ⟨h0, h1, h2, h3, h4, h5, h6, h7, h8, h9, h10, h11, h12, h13, h14, h15, h16⟩ := id h
  intro e
  induction e with
  | zero =>
    intro fu d U r m k hd hf hm hr hg hu
    obtain ⟨fu, rfl⟩ : ∃ x, fu = x + 1 := ⟨fu - 1, by omega⟩
    obtain rfl : d = t 2 := by omega
    obtain ⟨u1, u2, u3, u4, u5⟩ := hu
    have ba := qs_le t r w2
    by_cases c : sm (qe t r) (t 2) < m
    · obtain ⟨f, k1, k2⟩ := U_keep (U := U) h w (q := nI (sm (qe t r) (t 2)))
      refine ⟨sr (si U 2 (nI (sm (qe t r) (t 2)))) 3 f, sm (qe t r) (t 2), r, ?_, ⟨u1, u2, rfl, u4, fun j hj => ?_⟩, ?_⟩
      · show fX3_putOnTopic_0 (fX3_putOnTopic fu) U T _ _ _ = _
        unfold fX3_putOnTopic_0
        simp (disch := omega) only [u3, h4, k1, nI_add, pk_mul, q_sub, q_ltT, q_ltF, q_leT, q_leF, q_eqT, q_eqF, q_inT, q_inF, nI_clamp, q_mlt, q_mle, q_mne, q_mne2, q_mnlt, q_mnle, Option.bind_some, if_true, if_false, reduceIte, ite_not, not_true_eq_false, not_false_eq_true, q_z1, Nat.reduceEqDiff]
      · show f j = _
        rw [k2 j hj, u4 j hj]
      · refine ⟨fun s hs => cnd_ge w (by omega) hs.1, Or.inr ⟨c, ⟨fun j _ => rfl, hr, hg⟩, (qe_qf w r).symm, fun s hs hlt => ?_⟩⟩
        have hlt : cdw wd s (t 2) < cdw wd r (t 2) := hlt
        rw [cdw_cong hs.1] at hlt
        omega
    · refine ⟨U, m, k, ?_, ⟨u1, u2, u3, u4, u5⟩, pst_nil (fun s hs => ?_)⟩
      · show fX3_putOnTopic_0 (fX3_putOnTopic fu) U T _ _ _ = _
        unfold fX3_putOnTopic_0
        simp (disch := omega) only [u3, h4, nI_add, pk_mul, q_sub, q_ltT, q_ltF, q_leT, q_leF, q_eqT, q_eqF, q_inT, q_inF, nI_clamp, q_mlt, q_mle, q_mne, q_mne2, q_mnlt, q_mnle, Option.bind_some, if_true, if_false, reduceIte, ite_not, not_true_eq_false, not_false_eq_true, q_z1, Nat.reduceEqDiff]
      · have := cnd_ge w (by omega) hs.1; omega
  | succ e ih =>
    intro fu d U r m k hd hf hm hr hg hu
    obtain ⟨fu, rfl⟩ : ∃ x, fu = x + 1 := ⟨fu - 1, by omega⟩
    have ba := qs_le t r (d := d) (by omega)
    by_cases c : sm (qe t r) d < m
    · have hmx : mxu r d ≤ 6 := by
        have : ∀ i, i ≤ d → mxu r i ≤ 6 := by
          intro i
          induction i with
          | zero => intro _; show 0 ≤ 6; omega
          | succ i ihi =>
            intro hi
            have a1 := ihi (by omega)
            have a2 := hr i (by omega)
            show max (mxu r i) (r i + 1) ≤ 6
            omega
        exact this d (Nat.le_refl _)
      obtain ⟨z, e1, U', m', k', rfl, e2, e3⟩ := lp_up (fun x i S => fX3_putOnTopic_29 (fX3_putOnTopic fu) x S T (nI d) (nI (mxu r d)) (nI (sm (qe t r) d)) i) (min (mxu r d + 1) wd)
        (fun x S => ∃ m' k', ust t S wd d r m' k' ∧ pst (qf t) (fun s => cdw wd s (t 2)) (fun s => cnd wd (t 2) r d s ∧ s d < x) m k m' k')
        (fun z => ∃ U' m' k', z = (U', T) ∧ ust t U' wd d r m' k' ∧ pst (qf t) (fun s => cdw wd s (t 2)) (cnd wd (t 2) r d) m k m' k')
        (fun x S hS => by
          obtain ⟨m', k', hu', hp⟩ := hS
          refine ⟨(S, T), ?_, S, m', k', rfl, hu', pst_iff hp (fun s => ⟨fun g => ⟨g, ?_⟩, fun g => g.1⟩)⟩
          · have u2 := hu'.2.1
            by_cases q : mxu r d + 1 ≤ wd
            · rw [Nat.min_eq_left q]
              simp (disch := omega) only [fX3_putOnTopic_29, nI_add, pk_mul, q_sub, q_ltT, q_ltF, q_leT, q_leF, q_eqT, q_eqF, q_inT, q_inF, nI_clamp, q_mlt, q_mle, q_mne, q_mne2, q_mnlt, q_mnle, Option.bind_some, if_true, if_false, reduceIte, ite_not, not_true_eq_false, not_false_eq_true, q_z1, Nat.reduceEqDiff]
            · rw [Nat.min_eq_right (by omega)]
              simp (disch := omega) only [fX3_putOnTopic_29, u2, nI_add, pk_mul, q_sub, q_ltT, q_ltF, q_leT, q_leF, q_eqT, q_eqF, q_inT, q_inF, nI_clamp, q_mlt, q_mle, q_mne, q_mne2, q_mnlt, q_mnle, Option.bind_some, if_true, if_false, reduceIte, ite_not, not_true_eq_false, not_false_eq_true, q_z1, Nat.reduceEqDiff]
          · have g1 := g.2.1 d (by omega)
            have g2 := g.2.2 d (by omega)
            rw [mxu_cong g.1] at g2
            omega)
        (fun n x S hx hS => by
          left
          obtain ⟨m', k', ⟨u1, u2, u3, u4, u5⟩, hp⟩ := hS
          have lm := pst_le hp
          have rr : ∀ j, j < d → tu r d x j = r j := fun j hj => tu_n _ _ _ (by omega)
          have rd : tu r d x d = x := tu_e _ _ _ rfl
          have hrow : ∀ j, j < d + 1 → upd (ra S 2) d (nI x) j = nI (tu r d x j) := fun j hj => by
            by_cases q : j = d
            · rw [up_e _ _ _ q, tu_e _ _ _ q]
            · rw [up_n _ _ _ q, tu_n _ _ _ q]; exact u4 j (by omega)
          have hr' : ∀ j, j < d + 1 → tu r d x j < wd := fun j hj => by
            by_cases q : j = d
            · rw [q, rd]; omega
            · rw [rr j (by omega)]; exact hr j (by omega)
          have emx : mxu (tu r d x) (d + 1) = max (mxu r d) (x + 1) := by
            show max (mxu (tu r d x) d) (tu r d x d + 1) = _
            rw [mxu_cong rr, rd]
          have esm : sm (qe t (tu r d x)) (d + 1) = sm (qe t r) d + qe t (tu r d x) d := by rw [sm_s, qs_cong rr]
          have hg' : rgs (tu r d x) (d + 1) := fun i hi => by
            by_cases q : i = d
            · rw [q, rd, mxu_cong rr]; omega
            · rw [rr i (by omega), mxu_cong (fun j hj => rr j (by omega))]; exact hg i (by omega)
          obtain ⟨U', m2, k2, i1, ⟨v1, v2, v3, v4, v5⟩, i3⟩ := ih fu (d + 1) (sr S 2 (upd (ra S 2) d (nI x))) (tu r d x) m' k' (by omega) (by omega) (by omega) hr' hg' ⟨u1, u2, u3, hrow, u5⟩
          rw [emx, esm] at i1
          have be := qe_le t (tu r d x) d
          have eq := U_earlier (t := t) (U := sr S 2 (upd (ra S 2) d (nI x))) u1 (r := tu r d x) (i := d) (by omega) (fun j hj => hrow j (by omega)) (fun j hj => by have := hr' j (by omega); omega)
          refine ⟨U', ⟨m2, k2, ⟨v1, v2, v3, fun j hj => by rw [v4 j (by omega), rr j hj], v5⟩, pst_cat hp i3 (fun a b ha hb => ?_) (fun s => ?_)⟩, ?_⟩
          · have b1 := hb.1 d (by omega)
            rw [rd] at b1
            exact cdw_lt (i := d) (by omega) (fun j hj => by rw [ha.1.1 j hj, hb.1 j (by omega), rr j hj]) (by have := ha.2; omega) ha.1.2.1
          · constructor
            · intro ⟨g1, g2⟩
              by_cases q : s d < x
              · exact Or.inl ⟨g1, q⟩
              · refine Or.inr ⟨fun j hj => ?_, g1.2⟩
                by_cases q2 : j = d
                · rw [q2, rd]; omega
                · rw [rr j (by omega)]; exact g1.1 j (by omega)
            · intro g
              rcases g with ⟨g1, g2⟩ | g
              · exact ⟨g1, by omega⟩
              · refine ⟨⟨fun j hj => by rw [g.1 j (by omega), rr j hj], g.2⟩, ?_⟩
                have := g.1 d (by omega)
                rw [rd] at this; omega
          · have ej : jmax (nI (mxu r d)) (nI (x + 1)) = nI (max (mxu r d) (x + 1)) := q_maxi (by omega) (by omega)
            simp (disch := omega) only [fX3_putOnTopic_29, u2, eq, ej, i1, l_0, l_1, l_2, l_3, l_4, l_5, l_6, l_7, l_8, l_9, l_10, l_11, l_12, l_13, l_14, l_15, l_16, l_17, l_18, l_19, l_20, l_21, l_22, l_23, l_24, l_25, l_30, l_31, l_32, l_40, l_48, l_54, l_57, l_59, l_60, l_61, l_62, l_63, l_65, l_66, l_72, l_82, l_92, l_93, l_94, l_97, l_99, l_100, l_101, l_102, l_103, l_104, l_105, l_107, l_108, l_109, l_110, l_111, l_112, l_114, l_115, l_116, l_117, l_119, l_121, l_122, l_136, l_200, l_255, l_300, l_364, l_900, l_1000, l_1456, l_1458, l_1459, l_1460, l_1462, l_1471, l_1504, l_1510, l_1522, l_1550, l_2971, l_9999, l_10000, l_10979, l_65536, l_m1, nI_add, pk_mul, q_sub, q_ltT, q_ltF, q_leT, q_leF, q_eqT, q_eqF, q_inT, q_inF, nI_clamp, q_mlt, q_mle, q_mne, q_mne2, q_mnlt, q_mnle, q_gi, q_gil, q_gir, q_giR, q_gl, q_gli, q_glr, q_glR, q_ra, q_rai, q_ral, q_raR, q_rl, q_rli, q_rll, q_rlr, sa, sA, ia, la, q_srsr, q_sRsR, Option.bind_some, if_true, if_false, reduceIte, ite_not, not_true_eq_false, not_false_eq_true, q_z1, Nat.reduceEqDiff]) 0 U FU (by omega) ⟨m, k, hu, pst_nil (fun s hs => absurd hs.2 (by omega))⟩ (by unfold FU; omega)
      refine ⟨U', m', k', ?_, e2, e3⟩
      show fX3_putOnTopic_0 (fX3_putOnTopic fu) U T _ _ _ = _
      unfold fX3_putOnTopic_0
      rw [← e1]
      have u3 := hu.2.2.1
      simp (disch := omega) only [u3, h4, l_0, l_1, l_2, l_3, l_4, l_5, l_6, l_7, l_8, l_9, l_10, l_11, l_12, l_13, l_14, l_15, l_16, l_17, l_18, l_19, l_20, l_21, l_22, l_23, l_24, l_25, l_30, l_31, l_32, l_40, l_48, l_54, l_57, l_59, l_60, l_61, l_62, l_63, l_65, l_66, l_72, l_82, l_92, l_93, l_94, l_97, l_99, l_100, l_101, l_102, l_103, l_104, l_105, l_107, l_108, l_109, l_110, l_111, l_112, l_114, l_115, l_116, l_117, l_119, l_121, l_122, l_136, l_200, l_255, l_300, l_364, l_900, l_1000, l_1456, l_1458, l_1459, l_1460, l_1462, l_1471, l_1504, l_1510, l_1522, l_1550, l_2971, l_9999, l_10000, l_10979, l_65536, l_m1, nI_add, pk_mul, q_sub, q_ltT, q_ltF, q_leT, q_leF, q_eqT, q_eqF, q_inT, q_inF, nI_clamp, q_mlt, q_mle, q_mne, q_mne2, q_mnlt, q_mnle, Option.bind_some, if_true, if_false, reduceIte, ite_not, not_true_eq_false, not_false_eq_true, q_z1, Nat.reduceEqDiff]
    · refine ⟨U, m, k, ?_, hu, pst_nil (fun s hs => ?_)⟩
      · show fX3_putOnTopic_0 (fX3_putOnTopic fu) U T _ _ _ = _
        unfold fX3_putOnTopic_0
        have u3 := hu.2.2.1
        simp (disch := omega) only [u3, h4, l_0, l_1, l_2, l_3, l_4, l_5, l_6, l_7, l_8, l_9, l_10, l_11, l_12, l_13, l_14, l_15, l_16, l_17, l_18, l_19, l_20, l_21, l_22, l_23, l_24, l_25, l_30, l_31, l_32, l_40, l_48, l_54, l_57, l_59, l_60, l_61, l_62, l_63, l_65, l_66, l_72, l_82, l_92, l_93, l_94, l_97, l_99, l_100, l_101, l_102, l_103, l_104, l_105, l_107, l_108, l_109, l_110, l_111, l_112, l_114, l_115, l_116, l_117, l_119, l_121, l_122, l_136, l_200, l_255, l_300, l_364, l_900, l_1000, l_1456, l_1458, l_1459, l_1460, l_1462, l_1471, l_1504, l_1510, l_1522, l_1550, l_2971, l_9999, l_10000, l_10979, l_65536, l_m1, nI_add, pk_mul, q_sub, q_ltT, q_ltF, q_leT, q_leF, q_eqT, q_eqF, q_inT, q_inF, nI_clamp, q_mlt, q_mle, q_mne, q_mne2, q_mnlt, q_mnle, Option.bind_some, if_true, if_false, reduceIte, ite_not, not_true_eq_false, not_false_eq_true, q_z1, Nat.reduceEqDiff]
      · have := cnd_ge w (by omega) hs.1; omega
/-- the class's fewest quarrels on so many topics, and the row -/
theorem U_fewest (w : tb_W t) (h : tb_C T t) {wd : Nat} (hw0 : 0 < wd) (hwd : wd ≤ 6) (hb : fbs t (t 3) (ra U 1)) : ∃ U' m k, fX3_fewestOn U T (nI wd) = some (nI m, U', T) ∧ fbs t (t 3) (ra U' 1) ∧ (∀ j, j < t 2 → ra U' 3 j = nI (k j)) ∧ m ≤ 10 ∧ cnd wd (t 2) k 0 k ∧ qf t k = m ∧ (∀ s, cnd wd (t 2) s 0 s → m ≤ qf t s) ∧ (∀ s, cnd wd (t 2) s 0 s → cdw wd s (t 2) < cdw wd k (t 2) → m < qf t s) := by
  obtain ⟨w0, w1, w2, w3, w4, w5, w6, w7, w8, w9⟩ := id w
  obtain ⟨h0, h1, h2, h3, h4, h5, h6, h7, h8, h9, h10, h11, h12, h13, h14, h15, h16⟩ := id h
  obtain ⟨U', m, k, e1, ⟨v1, v2, v3, v4, v5⟩, e3, e4⟩ := U_put w h hwd (t 2) 8 0 (si (si U 1 (nI wd)) 2 (nI (t 3 + 1))) (fun _ => 0) (t 3 + 1) (fun j => (ra U 3 j).toBitVec.toNat) (by omega) (by omega) (by omega) (fun j hj => by omega) (fun j hj => by omega) ⟨hb, rfl, rfl, fun j hj => by omega, fun j _ => (nI_bv _).symm⟩
  have z0 : cnd wd (t 2) (fun _ => 0) 0 (fun _ => 0) := ⟨fun j hj => by omega, fun j _ => hw0, fun i hi => Nat.zero_le _⟩
  have cc : ∀ s, cnd wd (t 2) s 0 s → cnd wd (t 2) (fun _ => 0) 0 s := fun s hs => ⟨fun j hj => by omega, hs.2⟩
  have q0 := e3 _ z0
  have q1 := qf_le t (fun _ => 0)
  rcases e4 with ⟨g, _⟩ | ⟨g1, g2, g3, g4⟩
  · omega
  · refine ⟨U', m, k, ?_, v1, v5, by omega, ⟨fun j hj => by omega, g2.2⟩, g3, fun s hs => e3 s (cc s hs), fun s hs hl => g4 s (cc s hs) hl⟩
    unfold fX3_fewestOn
    have e1' : fX3_putOnTopic 8 (si (si U 1 (nI wd)) 2 (nI (t 3 + 1))) T (nI 0) (nI 0) (nI 0) = some (U', T) := e1
    simp (disch := omega) only [h6, e1', v3, l_0, l_1, l_2, l_3, l_4, l_5, l_6, l_7, l_8, l_9, l_10, l_11, l_12, l_13, l_14, l_15, l_16, l_17, l_18, l_19, l_20, l_21, l_22, l_23, l_24, l_25, l_30, l_31, l_32, l_40, l_48, l_54, l_57, l_59, l_60, l_61, l_62, l_63, l_65, l_66, l_72, l_82, l_92, l_93, l_94, l_97, l_99, l_100, l_101, l_102, l_103, l_104, l_105, l_107, l_108, l_109, l_110, l_111, l_112, l_114, l_115, l_116, l_117, l_119, l_121, l_122, l_136, l_200, l_255, l_300, l_364, l_900, l_1000, l_1456, l_1458, l_1459, l_1460, l_1462, l_1471, l_1504, l_1510, l_1522, l_1550, l_2971, l_9999, l_10000, l_10979, l_65536, l_m1, nI_add, pk_mul, q_sub, q_ltT, q_ltF, q_leT, q_leF, q_eqT, q_eqF, q_inT, q_inF, nI_clamp, q_mlt, q_mle, q_mne, q_mne2, q_mnlt, q_mnle, Option.bind_some, if_true, if_false, reduceIte, ite_not, not_true_eq_false, not_false_eq_true, q_z1, Nat.reduceEqDiff]
end Q65
