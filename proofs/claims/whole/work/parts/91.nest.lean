/-! evenings: what is built keeps its form -/
section Q91
variable {E E' : ms_T} {c c' : Nat → Int32} {nc nt : Nat}
theorem ev_S_keep {P s : Nat} (hE : ∀ k, ra E' k P = ra E k P) (hc : ∀ j, j < 9 → c' (94 + 9 * s + j) = c (94 + 9 * s + j)) (h : ev_S E c nc nt P s) : ev_S E' c' nc nt P s := by
  have h0 : c' (94 + 9 * s) = c (94 + 9 * s) := hc 0 (by omega)
  have h1 := hc 1 (by omega)
  have h2 := hc 2 (by omega)
  unfold ev_S at *
  rw [hE, hE, hE, h0, h1, h2]; exact h
theorem ev_L_keep {P s : Nat} (hE : ∀ k, ra E' k P = ra E k P) (hc : ∀ j, j < 9 → c' (94 + 9 * s + j) = c (94 + 9 * s + j)) (h : ev_L E c P s) : ev_L E' c' P s := by
  have h0 : c' (94 + 9 * s) = c (94 + 9 * s) := hc 0 (by omega)
  have h1 := hc 1 (by omega)
  unfold ev_L at *
  rw [hE, hE, h0, h1]; exact h
theorem ev_H_keep {P s : Nat} (hE : ∀ k, ra E' k P = ra E k P) (hc : ∀ j, j < 9 → c' (94 + 9 * s + j) = c (94 + 9 * s + j)) (h : ev_H E c nc nt P s) : ev_H E' c' nc nt P s := by
  have h0 : c' (94 + 9 * s) = c (94 + 9 * s) := hc 0 (by omega)
  have h1 := hc 1 (by omega)
  have h5 := hc 5 (by omega)
  have h6 := hc 6 (by omega)
  have h7 := hc 7 (by omega)
  unfold ev_H at *
  rw [hE, hE, hE, hE, h0, h1, h5, h6, h7]; exact h
theorem ev_B_up : ∀ f f' d a b P F, f ≤ f' → ev_B E c nc nt f d a b P F → ev_B E c nc nt f' d a b P F
  | 0, _, _, _, _, _, _, _, h => absurd h id
  | f + 1, f', d, a, b, P, F, hf, h => by
    obtain ⟨f', rfl⟩ : ∃ y, f' = y + 1 := ⟨f' - 1, by omega⟩
    rcases h with h | ⟨g1, g2, g3, g4, g5⟩ | ⟨g1, g2, g3, a2, e, d2, g4, g5, g6, g7, g8, g9, g10, g11, g12, g13, g14⟩
    · exact Or.inl h
    · exact Or.inr (Or.inl ⟨g1, g2, g3, g4, ev_B_up f f' d _ b _ F (by omega) g5⟩)
    · exact Or.inr (Or.inr ⟨g1, g2, g3, a2, e, d2, g4, g5, g6, g7, g8, g9, g10, g11, g12, ev_B_up f f' d2 _ a2 _ e (by omega) g13, ev_B_up f f' d a2 b _ F (by omega) g14⟩)
theorem ev_B_le : ∀ f d a b P F, ev_B E c nc nt f d a b P F → a ≤ b ∧ P ≤ F
  | 0, _, _, _, _, _, h => absurd h id
  | f + 1, d, a, b, P, F, h => by
    rcases h with ⟨h1, h2⟩ | ⟨g1, g2, -⟩ | ⟨g1, g2, -⟩ <;> omega
theorem ev_B_keep : ∀ f d a b P F, (∀ k j, P ≤ j → j < F → ra E' k j = ra E k j) → (∀ i, 94 + 9 * a ≤ i → i < 94 + 9 * b → c' i = c i) → ev_B E c nc nt f d a b P F → ev_B E' c' nc nt f d a b P F
  | 0, _, _, _, _, _, _, _, h => absurd h id
  | f + 1, d, a, b, P, F, hE, hc, h => by
    rcases h with h | ⟨g1, g2, g3, g4, g5⟩ | ⟨g1, g2, g3, a2, e, d2, g4, g5, g6, g7, g8, g9, g10, g11, g12, g13, g14⟩
    · exact Or.inl h
    · refine Or.inr (Or.inl ⟨g1, g2, ev_S_keep (fun k => hE k P (by omega) g2) (fun j hj => hc _ (by omega) (by omega)) g3, by rw [hc _ (by omega) (by omega)]; exact g4, ev_B_keep f d _ b _ F (fun k j q1 q2 => hE k j (by omega) q2) (fun i q1 q2 => hc i (by omega) q2) g5⟩)
    · refine Or.inr (Or.inr ⟨g1, g2, ?_, a2, e, d2, g4, g5, g6, g7, g8, by rw [hc _ (by omega) (by omega)]; exact g9, by rw [hE 1 e (by omega) g8]; exact g10, by rw [hE 5 e (by omega) g8]; exact g11, by rw [hE 5 P (by omega) (by omega)]; exact g12, ev_B_keep f d2 _ a2 _ e (fun k j q1 q2 => hE k j (by omega) (by omega)) (fun i q1 q2 => hc i (by omega) (by omega)) g13, ev_B_keep f d a2 b _ F (fun k j q1 q2 => hE k j (by omega) q2) (fun i q1 q2 => hc i (by omega) q2) g14⟩)
      rcases g3 with q | q
      · exact Or.inl (ev_L_keep (fun k => hE k P (by omega) g2) (fun j hj => hc _ (by omega) (by omega)) q)
      · exact Or.inr (ev_H_keep (fun k => hE k P (by omega) g2) (fun j hj => hc _ (by omega) (by omega)) q)
/-- one step, with all that it nests -/
def ev_1 (E : ms_T) (c : Nat → Int32) (nc nt d s s1 p p1 : Nat) : Prop :=
  (s1 = s + 1 ∧ p1 = p + 1 ∧ ev_S E c nc nt p s ∧ c (94 + 9 * s + 8) = nI (s + 1)) ∨
  ((ev_L E c p s ∨ ev_H E c nc nt p s) ∧ ∃ e d2, d = d2 + 1 ∧ s < s1 ∧ p < e ∧ p1 = e + 1 ∧ c (94 + 9 * s + 8) = nI s1 ∧ ra E 1 e = nI 24 ∧ ra E 5 e = nI p ∧ ra E 5 p = nI e ∧ ev_B E c nc nt (s1 - s) d2 (s + 1) s1 (p + 1) e)
theorem ev_1_keep {d s s1 p p1 : Nat} (hE : ∀ k j, p ≤ j → j < p1 → ra E' k j = ra E k j) (hc : ∀ i, 94 + 9 * s ≤ i → i < 94 + 9 * s1 → c' i = c i) (h : ev_1 E c nc nt d s s1 p p1) : ev_1 E' c' nc nt d s s1 p p1 := by
  rcases h with ⟨h1, h2, h3, h4⟩ | ⟨h0, e, d2, h1, h2, h3, h4, h5, h6, h7, h8, h9⟩
  · exact Or.inl ⟨h1, h2, ev_S_keep (fun k => hE k p (by omega) (by omega)) (fun j hj => hc _ (by omega) (by omega)) h3, by rw [hc _ (by omega) (by omega)]; exact h4⟩
  · refine Or.inr ⟨?_, e, d2, h1, h2, h3, h4, by rw [hc _ (by omega) (by omega)]; exact h5, by rw [hE 1 e (by omega) (by omega)]; exact h6, by rw [hE 5 e (by omega) (by omega)]; exact h7, by rw [hE 5 p (by omega) (by omega)]; exact h8, ev_B_keep _ _ _ _ _ _ (fun k j q1 q2 => hE k j (by omega) (by omega)) (fun i q1 q2 => hc i (by omega) q2) h9⟩
    rcases h0 with q | q
    · exact Or.inl (ev_L_keep (fun k => hE k p (by omega) (by omega)) (fun j hj => hc _ (by omega) (by omega)) q)
    · exact Or.inr (ev_H_keep (fun k => hE k p (by omega) (by omega)) (fun j hj => hc _ (by omega) (by omega)) q)
/-- a step, and the steps behind it -/
theorem ev_cons {d s s1 b p p1 F : Nat} (hb : s1 ≤ b) (hF : p1 ≤ F) (h : ev_1 E c nc nt d s s1 p p1) (k : ev_B E c nc nt (b - s1 + 1) d s1 b p1 F) : ev_B E c nc nt (b - s + 1) d s b p F := by
  rcases h with ⟨h1, h2, h3, h4⟩ | ⟨h0, e, d2, h1, h2, h3, h4, h5, h6, h7, h8, h9⟩
  · refine Or.inr (Or.inl ⟨by omega, by omega, h3, h4, ?_⟩)
    subst h1; subst h2
    exact ev_B_up _ _ _ _ _ _ _ (by omega) k
  · subst h4
    exact Or.inr (Or.inr ⟨by omega, by omega, h0, s1, e, d2, h1, h2, hb, h3, by omega, h5, h6, h7, h8, ev_B_up _ _ _ _ _ _ _ (by omega) h9, ev_B_up _ _ _ _ _ _ _ (by omega) k⟩)
end Q91
section Q91b
variable {R B M T E : ms_T} {g t : Nat → Nat} {n a e k wn p s w : Nat}
/-- where the reading of evenings is -/
def es (R M E : ms_T) (s p w : Nat) : Prop := gi E 1 = nI s ∧ gi M 25 = nI s ∧ s ≤ 30 ∧ gi E 2 = nI p ∧ p + w ≤ 2 * s ∧ gi R 13 = nI w ∧ w ≤ 3 ∧ gi E 0 = nI 0
/-- how one step goes, on both sides -/
def zo (B T R M E : ms_T) (t g : Nat → Nat) (n a s p w fu i : Nat) (D : Option ms_T) : Prop :=
  (∃ R' M' E' a' e' k' wn' s1 p1 i' fu', D = some M' ∧ fX2_readEvenings_30 B T fu R E (nI i) = fX2_readEvenings_30 B T fu' R' E' (nI i') ∧ rd B R' M' g n a' e' k' wn' ∧ a < a' ∧ i' ≤ a' ∧ n < a' + fu' ∧ es R' M' E' s1 p1 w ∧ s < s1 ∧ p < p1 ∧ mz s M M' ∧ (∀ j, j < w → ra R' 1 j = ra R 1 j) ∧ (∀ k j, j < p → ra E' k j = ra E k j) ∧ ev_1 E' (cM M') (t 1) (t 2) (3 - w) s s1 p p1) ∨
  (∃ R' M' E', D = some M' ∧ fX2_readEvenings_30 B T fu R E (nI i) = some (nI 0, R', E') ∧ bd R' M' ∧ mz s M M')
theorem b_83 {rc : ms_T → Int32 → Option ms_T} (h : bm M) (x y z : Int32) : fX12_readStep_83 rc M x y z = some M := by
  obtain ⟨f, f1, f2, f3⟩ := h
  have nle : (nI f ≤ nI 0) = False := q_leF (by omega) (by omega)
  simp only [fX12_readStep_83, l_0, l_1, l_2, l_3, l_4, l_5, l_6, l_7, l_8, l_9, l_10, l_11, l_12, l_13, l_14, l_15, l_16, l_17, l_18, l_19, l_20, l_21, l_22, l_23, l_24, l_25, l_30, l_31, l_32, l_40, l_48, l_54, l_57, l_59, l_60, l_61, l_62, l_63, l_65, l_66, l_72, l_82, l_92, l_93, l_94, l_97, l_99, l_100, l_101, l_102, l_103, l_104, l_105, l_107, l_108, l_109, l_110, l_111, l_112, l_114, l_115, l_116, l_117, l_119, l_121, l_122, l_136, l_200, l_255, l_300, l_364, l_900, l_1000, l_1456, l_1458, l_1459, l_1460, l_1462, l_1471, l_1504, l_1510, l_1522, l_1550, l_2971, l_9999, l_10000, l_10979, l_65536, l_m1, f3, nle, if_false]
theorem b_57 {rc : ms_T → Int32 → Option ms_T} (h : bm M) (x y z : Int32) : fX12_readStep_57 rc M x y z = some M := by
  have b1 := b_83 (rc := rc) h x y z
  obtain ⟨f, f1, f2, f3⟩ := h
  have n0 : (nI f = nI 0) = False := q_eqF (by omega) (by omega) (by omega)
  simp only [fX12_readStep_57, l_0, l_1, l_2, l_3, l_4, l_5, l_6, l_7, l_8, l_9, l_10, l_11, l_12, l_13, l_14, l_15, l_16, l_17, l_18, l_19, l_20, l_21, l_22, l_23, l_24, l_25, l_30, l_31, l_32, l_40, l_48, l_54, l_57, l_59, l_60, l_61, l_62, l_63, l_65, l_66, l_72, l_82, l_92, l_93, l_94, l_97, l_99, l_100, l_101, l_102, l_103, l_104, l_105, l_107, l_108, l_109, l_110, l_111, l_112, l_114, l_115, l_116, l_117, l_119, l_121, l_122, l_136, l_200, l_255, l_300, l_364, l_900, l_1000, l_1456, l_1458, l_1459, l_1460, l_1462, l_1471, l_1504, l_1510, l_1522, l_1550, l_2971, l_9999, l_10000, l_10979, l_65536, l_m1, f3, n0, b1, if_false]
theorem b_31 {rc : ms_T → Int32 → Option ms_T} (h : bm M) (x y z : Int32) : fX12_readStep_31 rc M x y z = some M := by
  have b1 := b_57 (rc := rc) h x y z
  obtain ⟨f, f1, f2, f3⟩ := h
  have n0 : (nI f = nI 0) = False := q_eqF (by omega) (by omega) (by omega)
  simp only [fX12_readStep_31, l_0, l_1, l_2, l_3, l_4, l_5, l_6, l_7, l_8, l_9, l_10, l_11, l_12, l_13, l_14, l_15, l_16, l_17, l_18, l_19, l_20, l_21, l_22, l_23, l_24, l_25, l_30, l_31, l_32, l_40, l_48, l_54, l_57, l_59, l_60, l_61, l_62, l_63, l_65, l_66, l_72, l_82, l_92, l_93, l_94, l_97, l_99, l_100, l_101, l_102, l_103, l_104, l_105, l_107, l_108, l_109, l_110, l_111, l_112, l_114, l_115, l_116, l_117, l_119, l_121, l_122, l_136, l_200, l_255, l_300, l_364, l_900, l_1000, l_1456, l_1458, l_1459, l_1460, l_1462, l_1471, l_1504, l_1510, l_1522, l_1550, l_2971, l_9999, l_10000, l_10979, l_65536, l_m1, f3, n0, b1, if_false]
/-- behind a fault, a step's end is only laid down -/
theorem b_142 {rc : ms_T → Int32 → Option ms_T} (h : bm M) (hs : s < 30) (f : Nat) (x v : Int32) : fX12_readStep_142 rc (f + 1) M x v (nI (1550 + 9 * s)) = some (sr M 5 (upd (ra M 5) (1550 + 9 * s + 8) (gi M 25))) := by
  have j8 : inb (nI (1550 + 9 * s + 8)) 1820 = true := q_inT (by omega) (by omega)
  have c8 : (nI (1550 + 9 * s + 8)).toNatClampNeg = 1550 + 9 * s + 8 := nI_clamp (by omega)
  have e192 : fX12_readStep_192 rc M (nI (1550 + 9 * s)) = some (sr M 5 (upd (ra M 5) (1550 + 9 * s + 8) (gi M 25))) := by
    simp only [fX12_readStep_192, l_0, l_1, l_2, l_3, l_4, l_5, l_6, l_7, l_8, l_9, l_10, l_11, l_12, l_13, l_14, l_15, l_16, l_17, l_18, l_19, l_20, l_21, l_22, l_23, l_24, l_25, l_30, l_31, l_32, l_40, l_48, l_54, l_57, l_59, l_60, l_61, l_62, l_63, l_65, l_66, l_72, l_82, l_92, l_93, l_94, l_97, l_99, l_100, l_101, l_102, l_103, l_104, l_105, l_107, l_108, l_109, l_110, l_111, l_112, l_114, l_115, l_116, l_117, l_119, l_121, l_122, l_136, l_200, l_255, l_300, l_364, l_900, l_1000, l_1456, l_1458, l_1459, l_1460, l_1462, l_1471, l_1504, l_1510, l_1522, l_1550, l_2971, l_9999, l_10000, l_10979, l_65536, l_m1, nI_add, j8, sa, c8, if_true]
  have b1 := b_must h
  obtain ⟨z, z1⟩ := M_isSign (M := M) (nI 59)
  have e170 : fX12_readStep_170 rc M v (nI (1550 + 9 * s)) = some (sr M 5 (upd (ra M 5) (1550 + 9 * s + 8) (gi M 25))) := by
    unfold fX12_readStep_170
    simp only [l_0, l_1, l_2, l_3, l_4, l_5, l_6, l_7, l_8, l_9, l_10, l_11, l_12, l_13, l_14, l_15, l_16, l_17, l_18, l_19, l_20, l_21, l_22, l_23, l_24, l_25, l_30, l_31, l_32, l_40, l_48, l_54, l_57, l_59, l_60, l_61, l_62, l_63, l_65, l_66, l_72, l_82, l_92, l_93, l_94, l_97, l_99, l_100, l_101, l_102, l_103, l_104, l_105, l_107, l_108, l_109, l_110, l_111, l_112, l_114, l_115, l_116, l_117, l_119, l_121, l_122, l_136, l_200, l_255, l_300, l_364, l_900, l_1000, l_1456, l_1458, l_1459, l_1460, l_1462, l_1471, l_1504, l_1510, l_1522, l_1550, l_2971, l_9999, l_10000, l_10979, l_65536, l_m1, w_24, b1, z1, e192, Option.bind_some]
    split <;> rfl
  obtain ⟨f', f1, f2, f3⟩ := h
  have n0 : (nI f' = nI 0) = False := q_eqF (by omega) (by omega) (by omega)
  rw [fX12_readStep_142]
  simp only [l_0, l_1, l_2, l_3, l_4, l_5, l_6, l_7, l_8, l_9, l_10, l_11, l_12, l_13, l_14, l_15, l_16, l_17, l_18, l_19, l_20, l_21, l_22, l_23, l_24, l_25, l_30, l_31, l_32, l_40, l_48, l_54, l_57, l_59, l_60, l_61, l_62, l_63, l_65, l_66, l_72, l_82, l_92, l_93, l_94, l_97, l_99, l_100, l_101, l_102, l_103, l_104, l_105, l_107, l_108, l_109, l_110, l_111, l_112, l_114, l_115, l_116, l_117, l_119, l_121, l_122, l_136, l_200, l_255, l_300, l_364, l_900, l_1000, l_1456, l_1458, l_1459, l_1460, l_1462, l_1471, l_1504, l_1510, l_1522, l_1550, l_2971, l_9999, l_10000, l_10979, l_65536, l_m1, f3, n0, e170, if_false]
  split <;> rfl
theorem readStep_bad {C : Option (Int32 × ms_T × ms_T)} {R' : ms_T} {fu i : Nat} {K : ms_T → ms_T → Int32 → Option (Int32 × ms_T × ms_T)} (h : cb C R') : ∃ E', (C.bind fun z4 => fX2_readEvenings_65 B T K z4.2.1 z4.2.2 (nI i) z4.1) = some (nI 0, R', E') := by
  obtain ⟨E', h⟩ := cb_ex h
  refine ⟨E', ?_⟩
  rw [h, Option.bind_some]
  simp only [fX2_readEvenings_65, l_0, l_1, l_2, l_3, l_4, l_5, l_6, l_7, l_8, l_9, l_10, l_11, l_12, l_13, l_14, l_15, l_16, l_17, l_18, l_19, l_20, l_21, l_22, l_23, l_24, l_25, l_30, l_31, l_32, l_40, l_48, l_54, l_57, l_59, l_60, l_61, l_62, l_63, l_65, l_66, l_72, l_82, l_92, l_93, l_94, l_97, l_99, l_100, l_101, l_102, l_103, l_104, l_105, l_107, l_108, l_109, l_110, l_111, l_112, l_114, l_115, l_116, l_117, l_119, l_121, l_122, l_136, l_200, l_255, l_300, l_364, l_900, l_1000, l_1456, l_1458, l_1459, l_1460, l_1462, l_1471, l_1504, l_1510, l_1522, l_1550, l_2971, l_9999, l_10000, l_10979, l_65536, l_m1, if_true]
/-- no step: the word isn't one, there are too many, or they nest too deep -/
theorem step_no (h : rd B R M g n a e k wn) (he : es R M E s p w) {D : Nat} (hno : stw wn = 9 ∨ s = 30 ∨ ((wn = 19 ∨ wn = 23) ∧ w = 3)) : ∃ R' M', cb (fX2_readStep R B T E) R' ∧ fX12_readStep (D + 1) M (nI w) = some M' ∧ bd R' M' ∧ mg M M' := by
  have hw := h.2.2.2.1
  have e3 := h.2.2.2.2.1
  have e4 := h.2.2.2.2.2.2.2.1
  have sw := M_stepWord h.2.2.2.2.2.1 hw
  obtain ⟨s1, s2, s3, s4, s5, s6, s7, s8⟩ := he
  have z00 : (nI 0 &&& nI 1 = nI 0) = True := q_z0
  have x19 := wnI_eq (wn := wn) (j := 19) hw (by omega)
  have x23 := wnI_eq (wn := wn) (j := 23) hw (by omega)
  have x25 := wnI_eq (wn := wn) (j := 25) hw (by omega)
  have hR : ∀ rc, fX12_readStep_0 rc M (nI w) = fX12_readStep_22 rc M (nI w) (if stw wn = 9 then nM else nI (stw wn)) (if stw wn = 6 ∨ stw wn = 7 then nI 1 else nI 0) := by
    intro rc
    have st8 : stw wn ≤ 9 := by unfold stw; split <;> (try split) <;> (try split) <;> omega
    unfold fX12_readStep_0
    rw [sw, Option.bind_some]
    by_cases c9 : stw wn = 9
    · have n6 : (nM = nI 6) = False := q_mne (by omega)
      have n7 : (nM = nI 7) = False := q_mne (by omega)
      have ev : (if stw wn = 6 ∨ stw wn = 7 then nI 1 else nI 0) = nI 0 := if_neg (by omega)
      rw [ev, if_pos c9]
      simp only [l_0, l_1, l_2, l_3, l_4, l_5, l_6, l_7, l_8, l_9, l_10, l_11, l_12, l_13, l_14, l_15, l_16, l_17, l_18, l_19, l_20, l_21, l_22, l_23, l_24, l_25, l_30, l_31, l_32, l_40, l_48, l_54, l_57, l_59, l_60, l_61, l_62, l_63, l_65, l_66, l_72, l_82, l_92, l_93, l_94, l_97, l_99, l_100, l_101, l_102, l_103, l_104, l_105, l_107, l_108, l_109, l_110, l_111, l_112, l_114, l_115, l_116, l_117, l_119, l_121, l_122, l_136, l_200, l_255, l_300, l_364, l_900, l_1000, l_1456, l_1458, l_1459, l_1460, l_1462, l_1471, l_1504, l_1510, l_1522, l_1550, l_2971, l_9999, l_10000, l_10979, l_65536, l_m1, n6, n7, if_false]
    · rw [if_neg c9]
      by_cases c6 : stw wn = 6
      · have ev : (if stw wn = 6 ∨ stw wn = 7 then nI 1 else nI 0) = nI 1 := if_pos (Or.inl c6)
        rw [ev, c6]; simp only [l_0, l_1, l_2, l_3, l_4, l_5, l_6, l_7, l_8, l_9, l_10, l_11, l_12, l_13, l_14, l_15, l_16, l_17, l_18, l_19, l_20, l_21, l_22, l_23, l_24, l_25, l_30, l_31, l_32, l_40, l_48, l_54, l_57, l_59, l_60, l_61, l_62, l_63, l_65, l_66, l_72, l_82, l_92, l_93, l_94, l_97, l_99, l_100, l_101, l_102, l_103, l_104, l_105, l_107, l_108, l_109, l_110, l_111, l_112, l_114, l_115, l_116, l_117, l_119, l_121, l_122, l_136, l_200, l_255, l_300, l_364, l_900, l_1000, l_1456, l_1458, l_1459, l_1460, l_1462, l_1471, l_1504, l_1510, l_1522, l_1550, l_2971, l_9999, l_10000, l_10979, l_65536, l_m1, if_true]
      · by_cases c7 : stw wn = 7
        · have n6 : (nI 7 = nI 6) = False := q_eqF (by omega) (by omega) (by omega)
          have ev : (if stw wn = 6 ∨ stw wn = 7 then nI 1 else nI 0) = nI 1 := if_pos (Or.inr c7)
          rw [ev, c7]; simp only [l_0, l_1, l_2, l_3, l_4, l_5, l_6, l_7, l_8, l_9, l_10, l_11, l_12, l_13, l_14, l_15, l_16, l_17, l_18, l_19, l_20, l_21, l_22, l_23, l_24, l_25, l_30, l_31, l_32, l_40, l_48, l_54, l_57, l_59, l_60, l_61, l_62, l_63, l_65, l_66, l_72, l_82, l_92, l_93, l_94, l_97, l_99, l_100, l_101, l_102, l_103, l_104, l_105, l_107, l_108, l_109, l_110, l_111, l_112, l_114, l_115, l_116, l_117, l_119, l_121, l_122, l_136, l_200, l_255, l_300, l_364, l_900, l_1000, l_1456, l_1458, l_1459, l_1460, l_1462, l_1471, l_1504, l_1510, l_1522, l_1550, l_2971, l_9999, l_10000, l_10979, l_65536, l_m1, n6, if_true, if_false]
        · have n6 : (nI (stw wn) = nI 6) = False := q_eqF c6 (by omega) (by omega)
          have n7 : (nI (stw wn) = nI 7) = False := q_eqF c7 (by omega) (by omega)
          have ev : (if stw wn = 6 ∨ stw wn = 7 then nI 1 else nI 0) = nI 0 := if_neg (by omega)
          rw [ev]; simp only [l_0, l_1, l_2, l_3, l_4, l_5, l_6, l_7, l_8, l_9, l_10, l_11, l_12, l_13, l_14, l_15, l_16, l_17, l_18, l_19, l_20, l_21, l_22, l_23, l_24, l_25, l_30, l_31, l_32, l_40, l_48, l_54, l_57, l_59, l_60, l_61, l_62, l_63, l_65, l_66, l_72, l_82, l_92, l_93, l_94, l_97, l_99, l_100, l_101, l_102, l_103, l_104, l_105, l_107, l_108, l_109, l_110, l_111, l_112, l_114, l_115, l_116, l_117, l_119, l_121, l_122, l_136, l_200, l_255, l_300, l_364, l_900, l_1000, l_1456, l_1458, l_1459, l_1460, l_1462, l_1471, l_1504, l_1510, l_1522, l_1550, l_2971, l_9999, l_10000, l_10979, l_65536, l_m1, n6, n7, if_false]
  by_cases c9 : stw wn = 9
  · obtain ⟨R', M', q1, q2, q3, q4, q5⟩ := rd_amiss h
    have b31 := fun rc x y z => b_31 (rc := rc) (bd_bm q3) x y z
    refine ⟨R', M', ?_, ?_, q3, q5⟩
    · have c55 : fX2_readStep_55 B T R E = some (nI 0, R', E) := by
        simp only [fX2_readStep_55, l_0, l_1, l_2, l_3, l_4, l_5, l_6, l_7, l_8, l_9, l_10, l_11, l_12, l_13, l_14, l_15, l_16, l_17, l_18, l_19, l_20, l_21, l_22, l_23, l_24, l_25, l_30, l_31, l_32, l_40, l_48, l_54, l_57, l_59, l_60, l_61, l_62, l_63, l_65, l_66, l_72, l_82, l_92, l_93, l_94, l_97, l_99, l_100, l_101, l_102, l_103, l_104, l_105, l_107, l_108, l_109, l_110, l_111, l_112, l_114, l_115, l_116, l_117, l_119, l_121, l_122, l_136, l_200, l_255, l_300, l_364, l_900, l_1000, l_1456, l_1458, l_1459, l_1460, l_1462, l_1471, l_1504, l_1510, l_1522, l_1550, l_2971, l_9999, l_10000, l_10979, l_65536, l_m1, v_ref, q1, z00, if_true, Option.bind_some]
      have n19 : wn ≠ 19 := fun q => by rw [q] at c9; exact absurd c9 (by decide)
      have n23 : wn ≠ 23 := fun q => by rw [q] at c9; exact absurd c9 (by decide)
      have n25 : wn ≠ 25 := fun q => by rw [q] at c9; exact absurd c9 (by decide)
      have nb : wn < 13 ∨ 18 < wn := by
        refine Classical.byContradiction (fun q => ?_)
        unfold stw at c9; rw [if_pos (by omega)] at c9; omega
      unfold cb fX2_readStep
      simp only [l_0, l_1, l_2, l_3, l_4, l_5, l_6, l_7, l_8, l_9, l_10, l_11, l_12, l_13, l_14, l_15, l_16, l_17, l_18, l_19, l_20, l_21, l_22, l_23, l_24, l_25, l_30, l_31, l_32, l_40, l_48, l_54, l_57, l_59, l_60, l_61, l_62, l_63, l_65, l_66, l_72, l_82, l_92, l_93, l_94, l_97, l_99, l_100, l_101, l_102, l_103, l_104, l_105, l_107, l_108, l_109, l_110, l_111, l_112, l_114, l_115, l_116, l_117, l_119, l_121, l_122, l_136, l_200, l_255, l_300, l_364, l_900, l_1000, l_1456, l_1458, l_1459, l_1460, l_1462, l_1471, l_1504, l_1510, l_1522, l_1550, l_2971, l_9999, l_10000, l_10979, l_65536, l_m1, e3, x19, x23, n19, n23, if_false]
      unfold fX2_readStep_23
      simp only [l_0, l_1, l_2, l_3, l_4, l_5, l_6, l_7, l_8, l_9, l_10, l_11, l_12, l_13, l_14, l_15, l_16, l_17, l_18, l_19, l_20, l_21, l_22, l_23, l_24, l_25, l_30, l_31, l_32, l_40, l_48, l_54, l_57, l_59, l_60, l_61, l_62, l_63, l_65, l_66, l_72, l_82, l_92, l_93, l_94, l_97, l_99, l_100, l_101, l_102, l_103, l_104, l_105, l_107, l_108, l_109, l_110, l_111, l_112, l_114, l_115, l_116, l_117, l_119, l_121, l_122, l_136, l_200, l_255, l_300, l_364, l_900, l_1000, l_1456, l_1458, l_1459, l_1460, l_1462, l_1471, l_1504, l_1510, l_1522, l_1550, l_2971, l_9999, l_10000, l_10979, l_65536, l_m1, e3, x25, n25, if_true, if_false, c55]
      by_cases m26 : wn = 26
      · have l : (wnI wn < nI 13) = True := eq_true (by rw [m26]; decide)
        simp only [l, if_true, Option.map_some]
      · have ew : wnI wn = nI wn := by unfold wnI; rw [if_neg m26]
        rw [ew]
        by_cases l13 : wn < 13
        · rw [if_pos (nI_lt l13 (by omega)), Option.map_some]
        · rw [if_neg (nI_nlt (by omega) (by omega)), if_neg (nI_ge (by omega) (by omega)), Option.map_some]
    · show fX12_readStep_0 (fX12_readStep D) M (nI w) = _
      rw [hR, if_pos c9]
      have lm : (nI 0 ≤ nM) = False := eq_false (by decide)
      unfold fX12_readStep_22
      simp only [l_0, l_1, l_2, l_3, l_4, l_5, l_6, l_7, l_8, l_9, l_10, l_11, l_12, l_13, l_14, l_15, l_16, l_17, l_18, l_19, l_20, l_21, l_22, l_23, l_24, l_25, l_30, l_31, l_32, l_40, l_48, l_54, l_57, l_59, l_60, l_61, l_62, l_63, l_65, l_66, l_72, l_82, l_92, l_93, l_94, l_97, l_99, l_100, l_101, l_102, l_103, l_104, l_105, l_107, l_108, l_109, l_110, l_111, l_112, l_114, l_115, l_116, l_117, l_119, l_121, l_122, l_136, l_200, l_255, l_300, l_364, l_900, l_1000, l_1456, l_1458, l_1459, l_1460, l_1462, l_1471, l_1504, l_1510, l_1522, l_1550, l_2971, l_9999, l_10000, l_10979, l_65536, l_m1, lm, q2, b31, if_false, Option.bind_some]
  · have hk : k = 1 := by
      have : wn < 26 := by
        refine Nat.lt_of_le_of_ne hw (fun q => c9 ?_)
        rw [q]; decide
      exact h.2.2.2.2.2.2.1 this
    have st8 : stw wn ≤ 9 := by unfold stw; split <;> (try split) <;> (try split) <;> omega
    have le0 : (nI 0 ≤ nI (stw wn)) = True := q_leT (by omega) (by omega)
    -- the class comes to where it counts
    have c61 : ∃ v, (v = nI 0 ∨ v = nI 1) ∧ (v = nI 1 ↔ wn = 19 ∨ wn = 23) ∧ fX2_readStep R B T E = fX2_readStep_61 B T R E v := by
      by_cases n19 : wn = 19
      · refine ⟨nI 1, Or.inr rfl, ⟨fun _ => Or.inl n19, fun _ => rfl⟩, ?_⟩
        have y19 : (wnI wn = nI 19) = True := by rw [x19]; exact eq_true n19
        unfold fX2_readStep
        simp only [l_0, l_1, l_2, l_3, l_4, l_5, l_6, l_7, l_8, l_9, l_10, l_11, l_12, l_13, l_14, l_15, l_16, l_17, l_18, l_19, l_20, l_21, l_22, l_23, l_24, l_25, l_30, l_31, l_32, l_40, l_48, l_54, l_57, l_59, l_60, l_61, l_62, l_63, l_65, l_66, l_72, l_82, l_92, l_93, l_94, l_97, l_99, l_100, l_101, l_102, l_103, l_104, l_105, l_107, l_108, l_109, l_110, l_111, l_112, l_114, l_115, l_116, l_117, l_119, l_121, l_122, l_136, l_200, l_255, l_300, l_364, l_900, l_1000, l_1456, l_1458, l_1459, l_1460, l_1462, l_1471, l_1504, l_1510, l_1522, l_1550, l_2971, l_9999, l_10000, l_10979, l_65536, l_m1, e3, y19, if_true]
        simp only [fX2_readStep_23, l_0, l_1, l_2, l_3, l_4, l_5, l_6, l_7, l_8, l_9, l_10, l_11, l_12, l_13, l_14, l_15, l_16, l_17, l_18, l_19, l_20, l_21, l_22, l_23, l_24, l_25, l_30, l_31, l_32, l_40, l_48, l_54, l_57, l_59, l_60, l_61, l_62, l_63, l_65, l_66, l_72, l_82, l_92, l_93, l_94, l_97, l_99, l_100, l_101, l_102, l_103, l_104, l_105, l_107, l_108, l_109, l_110, l_111, l_112, l_114, l_115, l_116, l_117, l_119, l_121, l_122, l_136, l_200, l_255, l_300, l_364, l_900, l_1000, l_1456, l_1458, l_1459, l_1460, l_1462, l_1471, l_1504, l_1510, l_1522, l_1550, l_2971, l_9999, l_10000, l_10979, l_65536, l_m1, n_10, if_false]
      · by_cases n23 : wn = 23
        · refine ⟨nI 1, Or.inr rfl, ⟨fun _ => Or.inr n23, fun _ => rfl⟩, ?_⟩
          have y23 : (wnI wn = nI 23) = True := by rw [x23]; exact eq_true n23
          have y19 : (wnI wn = nI 19) = False := by rw [x19]; exact eq_false n19
          unfold fX2_readStep
          simp only [l_0, l_1, l_2, l_3, l_4, l_5, l_6, l_7, l_8, l_9, l_10, l_11, l_12, l_13, l_14, l_15, l_16, l_17, l_18, l_19, l_20, l_21, l_22, l_23, l_24, l_25, l_30, l_31, l_32, l_40, l_48, l_54, l_57, l_59, l_60, l_61, l_62, l_63, l_65, l_66, l_72, l_82, l_92, l_93, l_94, l_97, l_99, l_100, l_101, l_102, l_103, l_104, l_105, l_107, l_108, l_109, l_110, l_111, l_112, l_114, l_115, l_116, l_117, l_119, l_121, l_122, l_136, l_200, l_255, l_300, l_364, l_900, l_1000, l_1456, l_1458, l_1459, l_1460, l_1462, l_1471, l_1504, l_1510, l_1522, l_1550, l_2971, l_9999, l_10000, l_10979, l_65536, l_m1, e3, y19, y23, if_true, if_false]
          simp only [fX2_readStep_23, l_0, l_1, l_2, l_3, l_4, l_5, l_6, l_7, l_8, l_9, l_10, l_11, l_12, l_13, l_14, l_15, l_16, l_17, l_18, l_19, l_20, l_21, l_22, l_23, l_24, l_25, l_30, l_31, l_32, l_40, l_48, l_54, l_57, l_59, l_60, l_61, l_62, l_63, l_65, l_66, l_72, l_82, l_92, l_93, l_94, l_97, l_99, l_100, l_101, l_102, l_103, l_104, l_105, l_107, l_108, l_109, l_110, l_111, l_112, l_114, l_115, l_116, l_117, l_119, l_121, l_122, l_136, l_200, l_255, l_300, l_364, l_900, l_1000, l_1456, l_1458, l_1459, l_1460, l_1462, l_1471, l_1504, l_1510, l_1522, l_1550, l_2971, l_9999, l_10000, l_10979, l_65536, l_m1, n_10, if_false]
        · refine ⟨nI 0, Or.inl rfl, ⟨fun q => absurd ((nI_eq (by omega) (by omega)).mp q) (by omega), fun q => by omega⟩, ?_⟩
          unfold fX2_readStep
          simp only [l_0, l_1, l_2, l_3, l_4, l_5, l_6, l_7, l_8, l_9, l_10, l_11, l_12, l_13, l_14, l_15, l_16, l_17, l_18, l_19, l_20, l_21, l_22, l_23, l_24, l_25, l_30, l_31, l_32, l_40, l_48, l_54, l_57, l_59, l_60, l_61, l_62, l_63, l_65, l_66, l_72, l_82, l_92, l_93, l_94, l_97, l_99, l_100, l_101, l_102, l_103, l_104, l_105, l_107, l_108, l_109, l_110, l_111, l_112, l_114, l_115, l_116, l_117, l_119, l_121, l_122, l_136, l_200, l_255, l_300, l_364, l_900, l_1000, l_1456, l_1458, l_1459, l_1460, l_1462, l_1471, l_1504, l_1510, l_1522, l_1550, l_2971, l_9999, l_10000, l_10979, l_65536, l_m1, e3, x19, x23, n19, n23, if_false]
          unfold fX2_readStep_23
          by_cases n25 : wn = 25
          · have y25 : (wnI wn = nI 25) = True := by rw [x25]; exact eq_true n25
            simp only [l_0, l_1, l_2, l_3, l_4, l_5, l_6, l_7, l_8, l_9, l_10, l_11, l_12, l_13, l_14, l_15, l_16, l_17, l_18, l_19, l_20, l_21, l_22, l_23, l_24, l_25, l_30, l_31, l_32, l_40, l_48, l_54, l_57, l_59, l_60, l_61, l_62, l_63, l_65, l_66, l_72, l_82, l_92, l_93, l_94, l_97, l_99, l_100, l_101, l_102, l_103, l_104, l_105, l_107, l_108, l_109, l_110, l_111, l_112, l_114, l_115, l_116, l_117, l_119, l_121, l_122, l_136, l_200, l_255, l_300, l_364, l_900, l_1000, l_1456, l_1458, l_1459, l_1460, l_1462, l_1471, l_1504, l_1510, l_1522, l_1550, l_2971, l_9999, l_10000, l_10979, l_65536, l_m1, e3, y25, if_true]
          · have ew : wnI wn = nI wn := by unfold wnI; rw [if_neg (fun q => c9 (by rw [q]; decide))]
            have rng : 13 ≤ wn ∧ wn ≤ 18 := by
              refine Classical.byContradiction (fun q => c9 ?_)
              unfold stw; rw [if_neg (by omega), if_neg n23, if_neg n25]
            simp only [l_0, l_1, l_2, l_3, l_4, l_5, l_6, l_7, l_8, l_9, l_10, l_11, l_12, l_13, l_14, l_15, l_16, l_17, l_18, l_19, l_20, l_21, l_22, l_23, l_24, l_25, l_30, l_31, l_32, l_40, l_48, l_54, l_57, l_59, l_60, l_61, l_62, l_63, l_65, l_66, l_72, l_82, l_92, l_93, l_94, l_97, l_99, l_100, l_101, l_102, l_103, l_104, l_105, l_107, l_108, l_109, l_110, l_111, l_112, l_114, l_115, l_116, l_117, l_119, l_121, l_122, l_136, l_200, l_255, l_300, l_364, l_900, l_1000, l_1456, l_1458, l_1459, l_1460, l_1462, l_1471, l_1504, l_1510, l_1522, l_1550, l_2971, l_9999, l_10000, l_10979, l_65536, l_m1, e3, x25, n25, if_true, if_false]
            rw [ew, if_neg (nI_nlt rng.1 (by omega)), if_pos (nI_le rng.2 (by omega))]
    obtain ⟨v, v1, v2, v3⟩ := c61
    have bl : (stw wn = 6 ∨ stw wn = 7) ↔ (wn = 19 ∨ wn = 23) := by
      unfold stw at c9 ⊢
      split
      · omega
      · split
        · omega
        · split <;> omega
    by_cases c30 : s = 30
    · subst c30
      obtain ⟨R', M', q1, q2, q3, q4, q5⟩ := rd_fail h (f := 6) (by omega) (by omega) (by omega)
      refine ⟨R', M', ?_, ?_, q3, q5⟩
      · rw [v3]
        simp only [cb, fX2_readStep_61, s1, l_0, l_1, l_2, l_3, l_4, l_5, l_6, l_7, l_8, l_9, l_10, l_11, l_12, l_13, l_14, l_15, l_16, l_17, l_18, l_19, l_20, l_21, l_22, l_23, l_24, l_25, l_30, l_31, l_32, l_40, l_48, l_54, l_57, l_59, l_60, l_61, l_62, l_63, l_65, l_66, l_72, l_82, l_92, l_93, l_94, l_97, l_99, l_100, l_101, l_102, l_103, l_104, l_105, l_107, l_108, l_109, l_110, l_111, l_112, l_114, l_115, l_116, l_117, l_119, l_121, l_122, l_136, l_200, l_255, l_300, l_364, l_900, l_1000, l_1456, l_1458, l_1459, l_1460, l_1462, l_1471, l_1504, l_1510, l_1522, l_1550, l_2971, l_9999, l_10000, l_10979, l_65536, l_m1, v_ref, q1, z00, if_true, Option.bind_some, Option.map_some]
      · show fX12_readStep_0 (fX12_readStep D) M (nI w) = _
        have b57 := fun rc x y z => b_57 (rc := rc) (bd_bm q3) x y z
        rw [hR, if_neg c9]
        simp only [fX12_readStep_22, fX12_readStep_31, l_0, l_1, l_2, l_3, l_4, l_5, l_6, l_7, l_8, l_9, l_10, l_11, l_12, l_13, l_14, l_15, l_16, l_17, l_18, l_19, l_20, l_21, l_22, l_23, l_24, l_25, l_30, l_31, l_32, l_40, l_48, l_54, l_57, l_59, l_60, l_61, l_62, l_63, l_65, l_66, l_72, l_82, l_92, l_93, l_94, l_97, l_99, l_100, l_101, l_102, l_103, l_104, l_105, l_107, l_108, l_109, l_110, l_111, l_112, l_114, l_115, l_116, l_117, l_119, l_121, l_122, l_136, l_200, l_255, l_300, l_364, l_900, l_1000, l_1456, l_1458, l_1459, l_1460, l_1462, l_1471, l_1504, l_1510, l_1522, l_1550, l_2971, l_9999, l_10000, l_10979, l_65536, l_m1, le0, e4, s2, q2, b57, if_true, Option.bind_some]
    · have hblk : (wn = 19 ∨ wn = 23) ∧ w = 3 := by
        rcases hno with q | q | q
        · exact absurd q c9
        · exact absurd q c30
        · exact q
      obtain ⟨hb1, rfl⟩ := hblk
      obtain ⟨R', M', q1, q2, q3, q4, q5⟩ := rd_fail h (f := 7) (by omega) (by omega) (by omega)
      have n30 : (nI s = nI 30) = False := q_eqF c30 (by omega) (by omega)
      have vv : v = nI 1 := v2.mpr hb1
      subst vv
      refine ⟨R', M', ?_, ?_, q3, q5⟩
      · rw [v3]
        simp only [cb, fX2_readStep_61, s1, n30, s6, n_10, l_0, l_1, l_2, l_3, l_4, l_5, l_6, l_7, l_8, l_9, l_10, l_11, l_12, l_13, l_14, l_15, l_16, l_17, l_18, l_19, l_20, l_21, l_22, l_23, l_24, l_25, l_30, l_31, l_32, l_40, l_48, l_54, l_57, l_59, l_60, l_61, l_62, l_63, l_65, l_66, l_72, l_82, l_92, l_93, l_94, l_97, l_99, l_100, l_101, l_102, l_103, l_104, l_105, l_107, l_108, l_109, l_110, l_111, l_112, l_114, l_115, l_116, l_117, l_119, l_121, l_122, l_136, l_200, l_255, l_300, l_364, l_900, l_1000, l_1456, l_1458, l_1459, l_1460, l_1462, l_1471, l_1504, l_1510, l_1522, l_1550, l_2971, l_9999, l_10000, l_10979, l_65536, l_m1, v_ref, q1, z00, if_true, if_false, Option.bind_some, Option.map_some]
      · show fX12_readStep_0 (fX12_readStep D) M (nI 3) = _
        have b83 := fun rc x y z => b_83 (rc := rc) (bd_bm q3) x y z
        rw [hR, if_neg c9, if_pos (bl.mpr hb1)]
        simp only [fX12_readStep_22, fX12_readStep_31, fX12_readStep_57, l_0, l_1, l_2, l_3, l_4, l_5, l_6, l_7, l_8, l_9, l_10, l_11, l_12, l_13, l_14, l_15, l_16, l_17, l_18, l_19, l_20, l_21, l_22, l_23, l_24, l_25, l_30, l_31, l_32, l_40, l_48, l_54, l_57, l_59, l_60, l_61, l_62, l_63, l_65, l_66, l_72, l_82, l_92, l_93, l_94, l_97, l_99, l_100, l_101, l_102, l_103, l_104, l_105, l_107, l_108, l_109, l_110, l_111, l_112, l_114, l_115, l_116, l_117, l_119, l_121, l_122, l_136, l_200, l_255, l_300, l_364, l_900, l_1000, l_1456, l_1458, l_1459, l_1460, l_1462, l_1471, l_1504, l_1510, l_1522, l_1550, l_2971, l_9999, l_10000, l_10979, l_65536, l_m1, le0, e4, s2, n30, n_10, q2, b83, if_true, if_false, Option.bind_some]
end Q91b
