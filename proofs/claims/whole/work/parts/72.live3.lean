/-! live: nested steps -/
def pt (d x : Nat) : Nat := (d + 1) * (300 - x)
theorem pt_s (d x : Nat) : pt (d + 1) x = pt d x + (300 - x) := Nat.succ_mul _ _
theorem pt_x {d x : Nat} (h : x < 300) : pt d x = pt d (x + 1) + (d + 1) := by
  unfold pt
  rw [show 300 - x = (300 - (x + 1)) + 1 by omega, Nat.mul_succ]
theorem pt_m {d x y : Nat} (h : x ≤ y) : pt d y ≤ pt d x := Nat.mul_le_mul_left _ (by omega)
/-- how a piece of a run ends: the run is over, or it goes on at F -/
def oe (E V T M : ms_T) (t : Nat → Nat) (x0 dd : Nat) (st : Prop) (R : Option ms_T) (W : Option (ms_T × ms_T)) (F P v n : Nat) : Prop :=
  (∃ M' V' T' t', R = some M' ∧ W = some (V', T') ∧ lvr T' V' M' t' ∧ fr T M t T' M' t' ∧ gi M' 41 = nI 1) ∨
  (∃ M' V' T' t' n' v' x', R = some M' ∧ W = fX0_run_51 E n' V' T' (nI F) (nI v') ∧ n' + v' = n + v ∧ lvr T' V' M' t' ∧ fr T M t T' M' t' ∧ gi M' 41 = nI 0 ∧ gi V' 4 = nI x' ∧ x' ≤ 300 ∧ x0 ≤ x' ∧ (st → x0 < x') ∧ v' + pt dd x' ≤ v + pt dd x0 ∧ ∀ j, j < P → ra V' 1 j = ra V 1 j)
theorem oe_seq {E V T M V1 T1 M1 : ms_T} {t t1 : Nat → Nat} {x0 x1 dd F P P1 v n v1 n1 : Nat} {st st1 : Prop} {R : Option ms_T} {W : Option (ms_T × ms_T)} (hn : n1 + v1 = n + v) (hf : fr T M t T1 M1 t1) (hx : x0 ≤ x1) (hs : st → x0 < x1) (hv : v1 + pt dd x1 ≤ v + pt dd x0) (hr : ∀ j, j < P → ra V1 1 j = ra V 1 j) (hP : P ≤ P1) (h : oe E V1 T1 M1 t1 x1 dd st1 R W F P1 v1 n1) : oe E V T M t x0 dd st R W F P v n := by
  rcases h with ⟨M', V', T', t', a1, a2, a3, a4, a5⟩ | ⟨M', V', T', t', n', v', x', a1, a2, a3, a4, a5, a6, a7, a8, a9, a10, a11, a12⟩
  · exact Or.inl ⟨M', V', T', t', a1, a2, a3, fr_tr hf a4, a5⟩
  · exact Or.inr ⟨M', V', T', t', n', v', x', a1, a2, by omega, a4, fr_tr hf a5, a6, a7, a8, by omega, fun g => by have := hs g; omega, by omega, fun j hj => by rw [a12 j (by omega), hr j hj]⟩
theorem lvr_one {T V M : ms_T} {t : Nat → Nat} {d : Nat} (h : lvr T V M t) (hd : d < 300) : lvr T (si V 4 (nI (d + 1))) (si M 43 (nI (d + 1))) t := by
  obtain ⟨w, hC, hN, h2, -, h5, h6, h7, h8, h9⟩ := h
  exact ⟨w, hC, hN, h2, ⟨d + 1, by omega, rfl, rfl⟩, h5, h6, h7, h8, h9⟩
theorem lvr_V1 {T V M : ms_T} {t : Nat → Nat} {f : Nat → Int32} (h : lvr T V M t) : lvr T (sr V 1 f) M t := h
theorem lvr_M41 {T V M : ms_T} {t : Nat → Nat} {x : Int32} (h : lvr T V M t) : lvr T V (si M 41 x) t := h
theorem lvr_43 {T V M : ms_T} {t : Nat → Nat} {d : Nat} (h : lvr T V M t) (hd : gi V 4 = nI d) (hd2 : d ≤ 300) : gi M 43 = nI d := by
  obtain ⟨w, hC, hN, h2, ⟨e, e1, e2, e3⟩, -⟩ := h
  have : d = e := (nI_eq (by omega) (by omega)).mp (hd.symm.trans e2)
  rw [this]; exact e3
theorem lvr_full {T V M : ms_T} {t : Nat → Nat} (h : lvr T V M t) : lvr T (si V 9 (nI 1)) (si (si M 41 (nI 1)) 48 (nI 1)) t := by
  obtain ⟨w, hC, hN, h2, h4, h5, h6, h7, h8, h9⟩ := h
  exact ⟨w, hC, hN, h2, h4, h5, h6, h7, h8, rfl⟩
section Q72
variable {E : ms_T} {c : Nat → Int32} {L nc nt : Nat}
/-- the rounds of a loop that isn't empty -/
theorem ev_rounds (hL : gi E 2 = nI L) (hL60 : L ≤ 60) {a a2 P e cnt d2 D : Nat} (ha : a < 30) (haa : a + 1 < a2) (hPe : P + 1 < e) (heL : e < L) (hcnt : cnt < 100) (c1 : c (94 + 9 * a + 1) = nI cnt) (c8 : c (94 + 9 * a + 8) = nI a2) (eP : ra E 1 P = nI 23) (ee : ra E 1 e = nI 24) (e5 : ra E 5 e = nI P)
    (inner : ∀ n v x0 T V M t, lvr T V M t → (∀ i, 92 ≤ i → i < 364 → ra M 5 i = c i) → t 1 = nc → t 2 = nt → gi M 41 = nI 0 → gi V 4 = nI x0 → x0 ≤ 300 → v + pt d2 x0 ≤ 5000 → 10000 < n + v → oe E V T M t x0 d2 (a + 1 < a2) (fX12_doAll (D + 1) M (nI (a + 1)) (nI a2)) (fX0_run_51 E n V T (nI (P + 1)) (nI v)) e (P + 1) v n) :
    ∀ rem j fu n v x0 T V M t, j + (rem + 1) = cnt → rem + 1 < fu → ra V 1 P = nI (rem + 1) → lvr T V M t → (∀ i, 92 ≤ i → i < 364 → ra M 5 i = c i) → t 1 = nc → t 2 = nt → gi M 41 = nI 0 → gi V 4 = nI x0 → x0 ≤ 300 → v + pt (d2 + 1) x0 ≤ 5000 → 10000 < n + v →
      oe E V T M t x0 (d2 + 1) True (fX12_doOne_119 (fX12_doAll (D + 1)) fu M (nI a) (nI (94 + 9 * a)) (nI j)) (fX0_run_51 E n V T (nI (P + 1)) (nI v)) (e + 1) P v n := by
  intro rem
  induction rem with
  | zero =>
    intro j fu n v x0 T V M t hj hfu hV hl hc ht1 ht2 h41 h4 hx hv hn
    obtain ⟨fu, rfl⟩ : ∃ y, fu = y + 1 := ⟨fu - 1, by omega⟩
    have ps := pt_s d2 x0
    have m1 : ra M 5 (94 + 9 * a + 1) = nI cnt := by rw [hc _ (by omega) (by omega)]; exact c1
    have m8 : ra M 5 (94 + 9 * a + 8) = nI a2 := by rw [hc _ (by omega) (by omega)]; exact c8
    rcases inner n v x0 T V M t hl hc ht1 ht2 h41 h4 hx (by omega) hn with ⟨M', V', T', t', a1, b1, a3, a4, a5⟩ | ⟨M', V', T', t', n', v', x', a1, b1, a3, a4, a5, a6, a7, a8, a9, a10, a11, a12⟩
    · have m1' : ra M' 5 (94 + 9 * a + 1) = nI cnt := by rw [a4.2.2.2.2.2.2.2.1 _ (by omega)]; exact m1
      obtain ⟨fu, rfl⟩ : ∃ y, fu = y + 1 := ⟨fu - 1, by omega⟩
      exact Or.inl ⟨M', V', T', t', by rw [lo_step ha m1 hcnt (by omega) h41 m8 a1]; exact lo_over ha m1' hcnt (by omega) a5, b1, a3, a4, a5⟩
    · have m1' : ra M' 5 (94 + 9 * a + 1) = nI cnt := by rw [a5.2.2.2.2.2.2.2.1 _ (by omega)]; exact m1
      obtain ⟨fu, rfl⟩ : ∃ y, fu = y + 1 := ⟨fu - 1, by omega⟩
      have xx := a10 haa
      have ps' := pt_s d2 x'
      obtain ⟨n', rfl⟩ : ∃ y, n' = y + 1 := ⟨n' - 1, by omega⟩
      have bl := be_loop (V := V') e5 eP (by omega) hPe (r := 0) (by rw [a12 P (by omega)]; exact hV) (by omega)
      rw [if_pos rfl] at bl
      refine Or.inr ⟨M', sr V' 1 (upd (ra V' 1) P (nI 0)), T', t', n', v' + 1, x', ?_, ?_, by omega, lvr_V1 a4, a5, a6, a7, a8, by omega, fun _ => xx, by omega, fun k hk => ?_⟩
      · rw [lo_step ha m1 hcnt (by omega) h41 m8 a1]
        exact lo_end ha m1' hcnt (by omega) (by omega)
      · rw [b1, run_end hL heL hL60 (by omega) ee bl]
      · rw [q_ra, if_pos rfl, up_n _ _ _ (by omega)]
        exact a12 k (by omega)
  | succ rem ih =>
    intro j fu n v x0 T V M t hj hfu hV hl hc ht1 ht2 h41 h4 hx hv hn
    obtain ⟨fu, rfl⟩ : ∃ y, fu = y + 1 := ⟨fu - 1, by omega⟩
    have ps := pt_s d2 x0
    have m1 : ra M 5 (94 + 9 * a + 1) = nI cnt := by rw [hc _ (by omega) (by omega)]; exact c1
    have m8 : ra M 5 (94 + 9 * a + 8) = nI a2 := by rw [hc _ (by omega) (by omega)]; exact c8
    rcases inner n v x0 T V M t hl hc ht1 ht2 h41 h4 hx (by omega) hn with ⟨M', V', T', t', a1, b1, a3, a4, a5⟩ | ⟨M', V', T', t', n', v', x', a1, b1, a3, a4, a5, a6, a7, a8, a9, a10, a11, a12⟩
    · have m1' : ra M' 5 (94 + 9 * a + 1) = nI cnt := by rw [a4.2.2.2.2.2.2.2.1 _ (by omega)]; exact m1
      obtain ⟨fu, rfl⟩ : ∃ y, fu = y + 1 := ⟨fu - 1, by omega⟩
      exact Or.inl ⟨M', V', T', t', by rw [lo_step ha m1 hcnt (by omega) h41 m8 a1]; exact lo_over ha m1' hcnt (by omega) a5, b1, a3, a4, a5⟩
    · have xx := a10 haa
      have ps' := pt_s d2 x'
      obtain ⟨n', rfl⟩ : ∃ y, n' = y + 1 := ⟨n' - 1, by omega⟩
      have bl := be_loop (V := V') e5 eP (by omega) hPe (r := rem + 1) (by rw [a12 P (by omega)]; exact hV) (by omega)
      rw [if_neg (by omega)] at bl
      have hc' : ∀ i, 92 ≤ i → i < 364 → ra M' 5 i = c i := fun i g1 g2 => by rw [a5.2.2.2.2.2.2.2.1 _ g1]; exact hc i g1 g2
      have nx := ih (j + 1) fu n' (v' + 1) x' T' (sr V' 1 (upd (ra V' 1) P (nI (rem + 1)))) M' t' (by omega) (by omega) (by rw [q_ra, if_pos rfl, up_e _ _ _ rfl]) (lvr_V1 a4) hc' (by rw [a5.2.2.1]; exact ht1) (by rw [a5.2.2.2.1]; exact ht2) a6 a7 a8 (by omega) (by omega)
      rw [lo_step ha m1 hcnt (by omega) h41 m8 a1, b1, run_end hL heL hL60 (by omega) ee bl]
      refine oe_seq (by omega) a5 (by omega) (fun _ => xx) (by omega) (fun k hk => ?_) (Nat.le_refl _) nx
      rw [q_ra, if_pos rfl, up_n _ _ _ (by omega)]
      exact a12 k (by omega)
theorem ev_run (hL : gi E 2 = nI L) (hL60 : L ≤ 60) : ∀ f d a b P F, f ≤ 1000 → ev_B E c nc nt f d a b P F → b ≤ 30 → F ≤ L → ∀ D m n v x0 T V M t, d ≤ D → f ≤ m → lvr T V M t → (∀ i, 92 ≤ i → i < 364 → ra M 5 i = c i) → t 1 = nc → t 2 = nt → gi M 41 = nI 0 → gi V 4 = nI x0 → x0 ≤ 300 → v + pt d x0 ≤ 5000 → 10000 < n + v →
    oe E V T M t x0 d (a < b) (fX12_doAll_2 (fX12_doAll D) m M (nI b) (nI a)) (fX0_run_51 E n V T (nI P) (nI v)) F P v n := by
  intro f
  induction f with
  | zero => intro d a b P F _ h; exact absurd h id
  | succ f ih =>
    intro d a b P F hf0 hB hb hF D m n v x0 T V M t hdD hfm hl hc ht1 ht2 h41 h4 hx hv hn
    obtain ⟨m, rfl⟩ : ∃ y, m = y + 1 := ⟨m - 1, by omega⟩
    have f1 : ∀ {d a b P F}, ev_B E c nc nt f d a b P F → 1 ≤ f := by
      intro d a b P F g
      cases f with
      | zero => exact absurd g id
      | succ f => omega
    rcases hB with ⟨rfl, rfl⟩ | ⟨hab, hPF, hS, h8, hR⟩ | ⟨hab, hPF, hK, a2, e, d2, rfl, ha2, ha2b, hPe, heF, h8, ee, e5, eP5, hI, hR⟩
    · exact Or.inr ⟨M, V, T, t, n, v, x0, all_end, rfl, rfl, hl, fr_id _ _ _, h41, h4, hx, Nat.le_refl _, fun g => absurd g (by omega), Nat.le_refl _, fun _ _ => rfl⟩
    · -- a step that nests nothing
      have ff := f1 hR
      obtain ⟨m, rfl⟩ : ∃ y, m = y + 1 := ⟨m - 1, by omega⟩
      obtain ⟨n, rfl⟩ : ∃ y, n = y + 1 := ⟨n - 1, by omega⟩
      have m0 : ra M 5 (94 + 9 * a) = c (94 + 9 * a) := hc _ (by omega) (by omega)
      have m8 : ra M 5 (94 + 9 * a + 8) = nI (a + 1) := by rw [hc _ (by omega) (by omega)]; exact h8
      have hM43 := lvr_43 hl h4 hx
      by_cases full : x0 = 300
      · subst full
        have key : ∃ k, ra E 1 P = nI k ∧ k ≠ 24 ∧ k < 30 := by
          rcases hS with g | g | g | g | g | g | g
          · exact ⟨13, g.2.1, by omega, by omega⟩
          · exact ⟨14, g.2.1, by omega, by omega⟩
          · exact ⟨15, g.2.1, by omega, by omega⟩
          · exact ⟨16, g.2.1, by omega, by omega⟩
          · exact ⟨17, g.2.1, by omega, by omega⟩
          · exact ⟨18, g.2, by omega, by omega⟩
          · exact ⟨25, g.2, by omega, by omega⟩
        obtain ⟨k, k1, k2, k3⟩ := key
        refine Or.inl ⟨si (si M 41 (nI 1)) 48 (nI 1), si V 9 (nI 1), T, t, ?_, run_full hL (by omega) hL60 (by omega) k1 k2 k3 h4, lvr_full hl, fr_tr (fr_si (k := 41) (x := nI 1) (by omega) (by omega)) (fr_si (by omega) (by omega)), rfl⟩
        rw [all_step hab hb h41 (on_full hM43) (a2 := a + 1) m8]
        exact all_over rfl _ _
      · have hl1 := lvr_one (d := x0) hl (by omega)
        rw [← ht1, ← ht2] at hS
        have px := pt_x (d := d) (x := x0) (by omega)
        rcases one_S (c := c) hl1 hc (by omega) (by omega) hS with ⟨g1, g2⟩ | ⟨T', V', M', bb, k, ek, g1, g2, ⟨t', g3, g4, g5, g6, g7⟩, g8, g9, g10, g11⟩
        · rw [g1] at m0
          have hst : fX0_behindStep (si V 4 (nI (x0 + 1))) T E (nI P) = some (nI L, si V 4 (nI (x0 + 1)), T) := by
            simp (disch := omega) only [fX0_behindStep, g2, hL, l_0, l_1, l_2, l_3, l_4, l_5, l_6, l_7, l_8, l_9, l_10, l_11, l_12, l_13, l_14, l_15, l_16, l_17, l_18, l_19, l_20, l_21, l_22, l_23, l_24, l_25, l_30, l_31, l_32, l_40, l_48, l_54, l_57, l_59, l_60, l_61, l_62, l_63, l_65, l_66, l_72, l_82, l_92, l_93, l_94, l_97, l_99, l_100, l_101, l_102, l_103, l_104, l_105, l_107, l_108, l_109, l_110, l_111, l_112, l_114, l_115, l_116, l_117, l_119, l_121, l_122, l_136, l_200, l_255, l_300, l_364, l_900, l_1000, l_1456, l_1458, l_1459, l_1460, l_1462, l_1471, l_1504, l_1510, l_1522, l_1550, l_2971, l_9999, l_10000, l_10979, l_65536, l_m1, nI_add, pk_mul, q_sub, q_ltT, q_ltF, q_leT, q_leF, q_eqT, q_eqF, q_inT, q_inF, nI_clamp, q_mlt, q_mle, q_mne, q_mne2, q_mnlt, q_mnle, q_gi, q_gil, q_gir, q_giR, q_gl, q_gli, q_glr, q_glR, q_ra, q_rai, q_ral, q_raR, q_rl, q_rli, q_rll, q_rlr, sa, sA, ia, la, q_srsr, q_sRsR, Option.bind_some, if_true, if_false, reduceIte, ite_not, not_true_eq_false, not_false_eq_true, q_z1, Nat.reduceEqDiff]
          obtain ⟨n, rfl⟩ : ∃ y, n = y + 1 := ⟨n - 1, by omega⟩
          refine Or.inl ⟨si (si M 43 (nI (x0 + 1))) 41 (nI 1), si V 4 (nI (x0 + 1)), T, t, ?_, ?_, lvr_M41 hl1, fr_tr (fr_si (k := 43) (x := nI (x0 + 1)) (by omega) (by omega)) (fr_si (by omega) (by omega)), rfl⟩
          · rw [all_step hab hb h41 (on_stop hM43 (by omega) (by omega) m0) (a2 := a + 1) m8]
            exact all_over rfl _ _
          · rw [run_step hL (by omega) hL60 (by omega) g2 (by omega) (by omega) h4 (by omega) hst]
            exact run_out hL hL60 (by omega)
        · rw [g9] at m0
          have g3 : lvr T' V' (si M' 44 (gi M 44 + nI (b2 (!bb)))) t' := g3
          have fr1 : fr T M t T' (si M' 44 (gi M 44 + nI (b2 (!bb)))) t' := fr_tr (fr_tr (fr_si (k := 43) (x := nI (x0 + 1)) (by omega) (by omega)) g4) (fr_si (by omega) (by omega))
          have hc' : ∀ i, 92 ≤ i → i < 364 → ra (si M' 44 (gi M 44 + nI (b2 (!bb)))) 5 i = c i := fun i q1 q2 => by rw [fr1.2.2.2.2.2.2.2.1 _ q1]; exact hc i q1 q2
          have nx := ih d (a + 1) b (P + 1) F (by omega) hR hb hF D (m + 1) n (v + 1) (x0 + 1) T' V' (si M' 44 (gi M 44 + nI (b2 (!bb)))) t' hdD (by omega) g3 hc' (by rw [fr1.2.2.1]; exact ht1) (by rw [fr1.2.2.2.1]; exact ht2) (by rw [q_gi, if_neg (by omega), g6]; exact h41) g7 (by omega) (by omega) (by omega)
          rw [all_step hab hb h41 (on_simple hM43 (by omega) (by omega) m0 g8 g2) (a2 := a + 1) ((hc' (94 + 9 * a + 8) (by omega) (by omega)).trans h8), run_step hL (by omega) hL60 (by omega) g10 (by omega) (by omega) h4 (by omega) g1]
          exact oe_seq (by omega) fr1 (by omega) (fun _ => by omega) (by omega) (fun j _ => by rw [g5]; rfl) (by omega) nx
    · -- a step that nests others
      have ff := f1 hR
      obtain ⟨m, rfl⟩ : ∃ y, m = y + 1 := ⟨m - 1, by omega⟩
      obtain ⟨n, rfl⟩ : ∃ y, n = y + 1 := ⟨n - 1, by omega⟩
      obtain ⟨D, rfl⟩ : ∃ y, D = y + 1 := ⟨D - 1, by omega⟩
      have m0 : ra M 5 (94 + 9 * a) = c (94 + 9 * a) := hc _ (by omega) (by omega)
      have m8 : ra M 5 (94 + 9 * a + 8) = nI a2 := by rw [hc _ (by omega) (by omega)]; exact h8
      have hM43 := lvr_43 hl h4 hx
      have ps := pt_s d2 x0
      by_cases full : x0 = 300
      · subst full
        have key : ∃ k, ra E 1 P = nI k ∧ k ≠ 24 ∧ k < 30 := by
          rcases hK with g | g
          · exact ⟨23, g.2.1, by omega, by omega⟩
          · exact ⟨19, g.2.1, by omega, by omega⟩
        obtain ⟨k, k1, k2, k3⟩ := key
        refine Or.inl ⟨si (si M 41 (nI 1)) 48 (nI 1), si V 9 (nI 1), T, t, ?_, run_full hL (by omega) hL60 (by omega) k1 k2 k3 h4, lvr_full hl, fr_tr (fr_si (k := 41) (x := nI 1) (by omega) (by omega)) (fr_si (by omega) (by omega)), rfl⟩
        rw [all_step hab hb h41 (on_full hM43) (a2 := a2) m8]
        exact all_over rfl _ _
      · have hl1 := lvr_one (d := x0) hl (by omega)
        have px := pt_x (d := d2) (x := x0) (by omega)
        have ps1 := pt_s d2 (x0 + 1)
        have fr0 : fr T M t T (si M 43 (nI (x0 + 1))) t := fr_si (by omega) (by omega)
        have inner : ∀ n v x0 T V M t, lvr T V M t → (∀ i, 92 ≤ i → i < 364 → ra M 5 i = c i) → t 1 = nc → t 2 = nt → gi M 41 = nI 0 → gi V 4 = nI x0 → x0 ≤ 300 → v + pt d2 x0 ≤ 5000 → 10000 < n + v → oe E V T M t x0 d2 (a + 1 < a2) (fX12_doAll (D + 1) M (nI (a + 1)) (nI a2)) (fX0_run_51 E n V T (nI (P + 1)) (nI v)) e (P + 1) v n := by
          intro n v x0 T V M t q1 q2 q3 q4 q5 q6 q7 q8 q9
          exact ih d2 (a + 1) a2 (P + 1) e (by omega) hI (by omega) (by omega) D FU n v x0 T V M t (by omega) (by unfold FU; omega) q1 q2 q3 q4 q5 q6 q7 q8 q9
        rcases hK with ⟨l1, l2, l3, cnt, l4, l5, l6⟩ | hH
        · -- a loop
          rw [l1] at m0
          rw [l6] at l3
          have hst : fX0_behindStep (si V 4 (nI (x0 + 1))) T E (nI P) = some (nI (P + 1), sr (si V 4 (nI (x0 + 1))) 1 (upd (ra V 1) P (nI cnt)), T) := by
            simp (disch := omega) only [fX0_behindStep, l2, l3, l_0, l_1, l_2, l_3, l_4, l_5, l_6, l_7, l_8, l_9, l_10, l_11, l_12, l_13, l_14, l_15, l_16, l_17, l_18, l_19, l_20, l_21, l_22, l_23, l_24, l_25, l_30, l_31, l_32, l_40, l_48, l_54, l_57, l_59, l_60, l_61, l_62, l_63, l_65, l_66, l_72, l_82, l_92, l_93, l_94, l_97, l_99, l_100, l_101, l_102, l_103, l_104, l_105, l_107, l_108, l_109, l_110, l_111, l_112, l_114, l_115, l_116, l_117, l_119, l_121, l_122, l_136, l_200, l_255, l_300, l_364, l_900, l_1000, l_1456, l_1458, l_1459, l_1460, l_1462, l_1471, l_1504, l_1510, l_1522, l_1550, l_2971, l_9999, l_10000, l_10979, l_65536, l_m1, nI_add, pk_mul, q_sub, q_ltT, q_ltF, q_leT, q_leF, q_eqT, q_eqF, q_inT, q_inF, nI_clamp, q_mlt, q_mle, q_mne, q_mne2, q_mnlt, q_mnle, q_gi, q_gil, q_gir, q_giR, q_gl, q_gli, q_glr, q_glR, q_ra, q_rai, q_ral, q_raR, q_rl, q_rli, q_rll, q_rlr, sa, sA, ia, la, q_srsr, q_sRsR, Option.bind_some, if_true, if_false, reduceIte, ite_not, not_true_eq_false, not_false_eq_true, q_z1, Nat.reduceEqDiff]
          rw [run_step hL (by omega) hL60 (by omega) l2 (by omega) (by omega) h4 (by omega) hst]
          have hl2 : lvr T (sr (si V 4 (nI (x0 + 1))) 1 (upd (ra V 1) P (nI cnt))) (si M 43 (nI (x0 + 1))) t := lvr_V1 hl1
          by_cases emp : P + 1 = e
          · have eI : a + 1 = a2 := by
              cases f with
              | zero => omega
              | succ f =>
                rcases hI with g | g | g
                · exact g.1
                · omega
                · omega
            obtain ⟨n, rfl⟩ : ∃ y, n = y + 1 := ⟨n - 1, by omega⟩
            have loop0 : ∀ rem j fu, j + rem = cnt → rem < fu → fX12_doOne_119 (fX12_doAll (D + 1)) fu (si M 43 (nI (x0 + 1))) (nI a) (nI (94 + 9 * a)) (nI j) = some (si M 43 (nI (x0 + 1))) := by
              have m1 : ra (si M 43 (nI (x0 + 1))) 5 (94 + 9 * a + 1) = nI cnt := by
                show ra M 5 (94 + 9 * a + 1) = _
                rw [hc _ (by omega) (by omega)]; exact l6
              intro rem
              induction rem with
              | zero =>
                intro j fu hj hfu
                obtain ⟨fu, rfl⟩ : ∃ y, fu = y + 1 := ⟨fu - 1, by omega⟩
                exact lo_end (by omega) m1 (by omega) (by omega) (by omega)
              | succ rem ihr =>
                intro j fu hj hfu
                obtain ⟨fu, rfl⟩ : ∃ y, fu = y + 1 := ⟨fu - 1, by omega⟩
                have er : fX12_doAll (D + 1) (si M 43 (nI (x0 + 1))) (nI (a + 1)) (nI a2) = some (si M 43 (nI (x0 + 1))) := by
                  show fX12_doAll_2 (fX12_doAll D) FU _ (nI a2) (nI (a + 1)) = _
                  rw [← eI]; exact all_end (m := 999999)
                rw [lo_step (by omega) m1 (by omega) (by omega) h41 m8 er]
                exact ihr (j + 1) fu (by omega) (by omega)
            have h1 := loop0 cnt 0 FU (by omega) (by unfold FU; omega)
            have nx := ih (d2 + 1) a2 b (e + 1) F (by omega) hR hb hF (D + 1) (m + 1) n (v + 1 + 1) (x0 + 1) T (sr (si V 4 (nI (x0 + 1))) 1 (upd (ra V 1) P (nI cnt))) (si M 43 (nI (x0 + 1))) t hdD (by omega) hl2 hc ht1 ht2 h41 rfl (by omega) (by omega) (by omega)
            have hon := on_loop (rc := fX12_doAll (D + 1)) hM43 (by omega) (by omega) m0
            rw [h1] at hon
            rw [all_step hab hb h41 hon (a2 := a2) m8, emp, run_end hL (by omega) hL60 (by omega) ee (be_empty e5 l2 (by omega) emp)]
            refine oe_seq (by omega) fr0 (by omega) (fun _ => by omega) (by omega) (fun j hj => ?_) (by omega) nx
            rw [q_ra, if_pos rfl, up_n _ _ _ (by omega)]
          · have haa : a + 1 < a2 := by
              cases f with
              | zero => omega
              | succ f =>
                rcases hI with g | g | g
                · omega
                · exact g.1
                · exact g.1
            have c1 := l6
            obtain ⟨rem, rfl⟩ : ∃ y, cnt = y + 1 := ⟨cnt - 1, by omega⟩
            have hon := on_loop (rc := fX12_doAll (D + 1)) hM43 (by omega) (by omega) m0
            have rd := ev_rounds hL hL60 (by omega) haa (by omega) (by omega) l5 c1 h8 l2 ee e5 inner rem 0 FU n (v + 1) (x0 + 1) T (sr (si V 4 (nI (x0 + 1))) 1 (upd (ra V 1) P (nI (rem + 1)))) (si M 43 (nI (x0 + 1))) t (by omega) (by unfold FU; omega) (by rw [q_ra, if_pos rfl, up_e _ _ _ rfl]) hl2 hc ht1 ht2 h41 rfl (by omega) (by omega) (by omega)
            rcases rd with ⟨M', V', T', t', a1, b1, a3, a4, a5⟩ | ⟨M', V', T', t', n', v', x', a1, b1, a3, a4, a5, a6, a7, a8, a9, a10, a11, a12⟩
            · rw [a1] at hon
              refine Or.inl ⟨M', V', T', t', ?_, b1, a3, fr_tr fr0 a4, a5⟩
              rw [all_step hab hb h41 hon (a2 := a2) (by rw [a4.2.2.2.2.2.2.2.1 _ (by omega)]; exact m8)]
              exact all_over a5 _ _
            · rw [a1] at hon
              have fr1 := fr_tr fr0 a5
              have hc' : ∀ i, 92 ≤ i → i < 364 → ra M' 5 i = c i := fun i q1 q2 => by rw [fr1.2.2.2.2.2.2.2.1 _ q1]; exact hc i q1 q2
              have nx := ih (d2 + 1) a2 b (e + 1) F (by omega) hR hb hF (D + 1) (m + 1) n' v' x' T' V' M' t' hdD (by omega) a4 hc' (by rw [fr1.2.2.1]; exact ht1) (by rw [fr1.2.2.2.1]; exact ht2) a6 a7 a8 (by omega) (by omega)
              rw [all_step hab hb h41 hon (a2 := a2) (by rw [hc' _ (by omega) (by omega)]; exact h8), b1]
              refine oe_seq (by omega) fr1 (by omega) (fun _ => by omega) (by omega) (fun j hj => ?_) (by omega) nx
              rw [a12 j hj, q_ra, if_pos rfl, up_n _ _ _ (by omega)]
        · -- a when
          have hk := hH
          rw [← ht1, ← ht2] at hH
          obtain ⟨bb, q1, q2⟩ := hold_H (c := c) hl1 hc (by omega) (by omega) hH
          obtain ⟨k1, k2, k3, -⟩ := hk
          rw [k1] at m0
          cases bb
          · have hst : fX0_behindStep (si V 4 (nI (x0 + 1))) T E (nI P) = some (nI (e + 1), si V 4 (nI (x0 + 1)), T) := by
              simp (disch := omega) only [fX0_behindStep, k2, q1, eP5, bi, b2_0, l_0, l_1, l_2, l_3, l_4, l_5, l_6, l_7, l_8, l_9, l_10, l_11, l_12, l_13, l_14, l_15, l_16, l_17, l_18, l_19, l_20, l_21, l_22, l_23, l_24, l_25, l_30, l_31, l_32, l_40, l_48, l_54, l_57, l_59, l_60, l_61, l_62, l_63, l_65, l_66, l_72, l_82, l_92, l_93, l_94, l_97, l_99, l_100, l_101, l_102, l_103, l_104, l_105, l_107, l_108, l_109, l_110, l_111, l_112, l_114, l_115, l_116, l_117, l_119, l_121, l_122, l_136, l_200, l_255, l_300, l_364, l_900, l_1000, l_1456, l_1458, l_1459, l_1460, l_1462, l_1471, l_1504, l_1510, l_1522, l_1550, l_2971, l_9999, l_10000, l_10979, l_65536, l_m1, nI_add, pk_mul, q_sub, q_ltT, q_ltF, q_leT, q_leF, q_eqT, q_eqF, q_inT, q_inF, nI_clamp, q_mlt, q_mle, q_mne, q_mne2, q_mnlt, q_mnle, q_gi, q_gil, q_gir, q_giR, q_gl, q_gli, q_glr, q_glR, q_ra, q_rai, q_ral, q_raR, q_rl, q_rli, q_rll, q_rlr, sa, sA, ia, la, q_srsr, q_sRsR, Option.bind_some, if_true, if_false, reduceIte, ite_not, not_true_eq_false, not_false_eq_true, q_z1, Nat.reduceEqDiff]
            have nx := ih (d2 + 1) a2 b (e + 1) F (by omega) hR hb hF (D + 1) (m + 1) n (v + 1) (x0 + 1) T (si V 4 (nI (x0 + 1))) (si M 43 (nI (x0 + 1))) t hdD (by omega) hl1 hc ht1 ht2 h41 rfl (by omega) (by omega) (by omega)
            rw [all_step hab hb h41 (on_when0 hM43 (by omega) (by omega) m0 q2) (a2 := a2) m8, run_step hL (by omega) hL60 (by omega) k2 (by omega) (by omega) h4 (by omega) hst]
            exact oe_seq (by omega) fr0 (by omega) (fun _ => by omega) (by omega) (fun _ _ => rfl) (by omega) nx
          · have hst : fX0_behindStep (si V 4 (nI (x0 + 1))) T E (nI P) = some (nI (P + 1), si V 4 (nI (x0 + 1)), T) := by
              simp (disch := omega) only [fX0_behindStep, k2, q1, bi, b2_1, l_0, l_1, l_2, l_3, l_4, l_5, l_6, l_7, l_8, l_9, l_10, l_11, l_12, l_13, l_14, l_15, l_16, l_17, l_18, l_19, l_20, l_21, l_22, l_23, l_24, l_25, l_30, l_31, l_32, l_40, l_48, l_54, l_57, l_59, l_60, l_61, l_62, l_63, l_65, l_66, l_72, l_82, l_92, l_93, l_94, l_97, l_99, l_100, l_101, l_102, l_103, l_104, l_105, l_107, l_108, l_109, l_110, l_111, l_112, l_114, l_115, l_116, l_117, l_119, l_121, l_122, l_136, l_200, l_255, l_300, l_364, l_900, l_1000, l_1456, l_1458, l_1459, l_1460, l_1462, l_1471, l_1504, l_1510, l_1522, l_1550, l_2971, l_9999, l_10000, l_10979, l_65536, l_m1, nI_add, pk_mul, q_sub, q_ltT, q_ltF, q_leT, q_leF, q_eqT, q_eqF, q_inT, q_inF, nI_clamp, q_mlt, q_mle, q_mne, q_mne2, q_mnlt, q_mnle, q_gi, q_gil, q_gir, q_giR, q_gl, q_gli, q_glr, q_glR, q_ra, q_rai, q_ral, q_raR, q_rl, q_rli, q_rll, q_rlr, sa, sA, ia, la, q_srsr, q_sRsR, Option.bind_some, if_true, if_false, reduceIte, ite_not, not_true_eq_false, not_false_eq_true, q_z1, Nat.reduceEqDiff]
            rw [run_step hL (by omega) hL60 (by omega) k2 (by omega) (by omega) h4 (by omega) hst]
            rcases inner n (v + 1) (x0 + 1) T (si V 4 (nI (x0 + 1))) (si M 43 (nI (x0 + 1))) t hl1 hc ht1 ht2 h41 rfl (by omega) (by omega) (by omega) with ⟨M', V', T', t', a1, b1, a3, a4, a5⟩ | ⟨M', V', T', t', n', v', x', a1, b1, a3, a4, a5, a6, a7, a8, a9, a10, a11, a12⟩
            · refine Or.inl ⟨M', V', T', t', ?_, b1, a3, fr_tr fr0 a4, a5⟩
              rw [all_step hab hb h41 (on_when1 hM43 (by omega) (by omega) m0 m8 q2 a1) (a2 := a2) (by rw [a4.2.2.2.2.2.2.2.1 _ (by omega)]; exact m8)]
              exact all_over a5 _ _
            · have fr1 := fr_tr fr0 a5
              have ps' := pt_s d2 x'
              obtain ⟨n', rfl⟩ : ∃ y, n' = y + 1 := ⟨n' - 1, by omega⟩
              have hc' : ∀ i, 92 ≤ i → i < 364 → ra M' 5 i = c i := fun i q1 q2 => by rw [fr1.2.2.2.2.2.2.2.1 _ q1]; exact hc i q1 q2
              have nx := ih (d2 + 1) a2 b (e + 1) F (by omega) hR hb hF (D + 1) (m + 1) n' (v' + 1) x' T' V' M' t' hdD (by omega) a4 hc' (by rw [fr1.2.2.1]; exact ht1) (by rw [fr1.2.2.2.1]; exact ht2) a6 a7 a8 (by omega) (by omega)
              rw [all_step hab hb h41 (on_when1 hM43 (by omega) (by omega) m0 m8 q2 a1) (a2 := a2) (by rw [hc' _ (by omega) (by omega)]; exact h8), b1, run_end hL (by omega) hL60 (by omega) ee (be_when e5 k2 (by omega) (by omega))]
              exact oe_seq (by omega) fr1 (by omega) (fun _ => by omega) (by omega) (fun j hj => by rw [a12 j (by omega)]; rfl) (by omega) nx
end Q72
