/-! ways: the least number of sayings -/
theorem sm_lt {f g : Nat → Nat} {k : Nat} : ∀ {n : Nat}, k < n → (∀ j, j < n → f j ≤ g j) → f k < g k → sm f n + 1 ≤ sm g n
  | 0, h, _, _ => absurd h (by omega)
  | n + 1, h, hl, hk => by
    have hm : ∀ m, m ≤ n → sm f m ≤ sm g m := by
      intro m
      induction m with
      | zero => intro _; exact Nat.le_refl _
      | succ m ih =>
        intro hm
        have h1 := ih (by omega)
        have h2 := hl m (by omega)
        rw [sm_s, sm_s]; omega
    rw [sm_s, sm_s]
    have e1 := hl n (by omega)
    by_cases c : k = n
    · subst c
      have e2 := hm k (Nat.le_refl _)
      omega
    · have e2 := sm_lt (f := f) (g := g) (k := k) (n := n) (by omega) (fun j hj => hl j (by omega)) hk
      omega
section Q53
variable {T M W : ms_T} {t : Nat → Nat} {g : Nat}
/-- a saying leads from height h to height q -/
def eg (t : Nat → Nat) (h q : Nat) : Prop := ∃ k b, k < t 1 ∧ b < 4 ∧ nrb (t (24 + k) + 1) h = true ∧ evv t k b = nI q
/-- in at most n sayings -/
def rc (t : Nat → Nat) (g : Nat) : Nat → Nat → Prop
  | 0, h => h = g
  | n + 1, h => rc t g n h ∨ (1 ≤ h ∧ h ≤ t 0 ∧ ∃ q, q ≤ t 0 ∧ eg t h q ∧ rc t g n q)
theorem rc_mono {n m h : Nat} (hnm : n ≤ m) (hr : rc t g n h) : rc t g m h := by
  induction hnm with
  | refl => exact hr
  | step _ ih => exact Or.inl ih
/-- exactly n -/
def rx (t : Nat → Nat) (g n h : Nat) : Prop := rc t g n h ∧ ∀ m, m < n → ¬ rc t g m h
theorem rx_of {n h : Nat} (hr : rc t g n h) : ∃ m, m ≤ n ∧ rx t g m h := by
  induction n with
  | zero => exact ⟨0, Nat.le_refl _, hr, fun m hm => by omega⟩
  | succ n ih =>
    by_cases c : rc t g n h
    · obtain ⟨m, h1, h2⟩ := ih c
      exact ⟨m, by omega, h2⟩
    · exact ⟨n + 1, Nat.le_refl _, hr, fun m hm hc => c (rc_mono (by omega) hc)⟩
theorem rx_u {n m h : Nat} (h1 : rx t g n h) (h2 : rx t g m h) : n = m := by
  rcases Nat.lt_trichotomy n m with c | c | c
  · exact absurd h1.1 (h2.2 n c)
  · exact c
  · exact absurd h2.1 (h1.2 m c)
theorem rx_b {n h : Nat} (hx : rx t g (n + 1) h) : 1 ≤ h ∧ h ≤ t 0 ∧ ∃ q, q ≤ t 0 ∧ eg t h q ∧ rx t g n q := by
  rcases hx.1 with c | ⟨c1, c2, q, c3, c4, c5⟩
  · exact absurd c (hx.2 n (by omega))
  · refine ⟨c1, c2, q, c3, c4, c5, fun m hm hc => ?_⟩
    exact hx.2 (m + 1) (by omega) (Or.inr ⟨c1, c2, q, c3, c4, hc⟩)
noncomputable def pd (p : Prop) : Nat := @ite _ p (Classical.propDecidable p) 1 0
theorem pd_t {p : Prop} (h : p) : pd p = 1 := @if_pos p (Classical.propDecidable p) h _ _ _
theorem pd_f {p : Prop} (h : ¬ p) : pd p = 0 := @if_neg p (Classical.propDecidable p) h _ _ _
theorem pd_le (p : Prop) : pd p ≤ 1 := by
  by_cases c : p
  · rw [pd_t c]; exact Nat.le_refl _
  · rw [pd_f c]; exact Nat.zero_le _
noncomputable def cn (t : Nat → Nat) (g n : Nat) : Nat := sm (fun h => pd (rc t g n h)) (t 0 + 1)
theorem cn_le (n : Nat) : cn t g n ≤ t 0 + 1 := by
  have := sm_le (f := fun h => pd (rc t g n h)) (c := 1) (n := t 0 + 1) (fun k _ => pd_le _)
  unfold cn; omega
theorem rx_cn : ∀ {n h : Nat}, h ≤ t 0 → rx t g n h → n + 1 ≤ cn t g n
  | 0, h, hh, hx => by
    have z : ∀ m, sm (fun _ => 0) m = 0 := fun m => by induction m with | zero => rfl | succ m ih => rw [sm_s, ih]
    have := sm_lt (f := fun _ => 0) (g := fun h => pd (rc t g 0 h)) (k := h) (n := t 0 + 1) (by omega) (fun j _ => Nat.zero_le _) (by
      show 0 < pd _
      rw [pd_t hx.1]; exact Nat.one_pos)
    rw [z] at this
    unfold cn; omega
  | n + 1, h, hh, hx => by
    obtain ⟨c1, c2, q, c3, c4, c5⟩ := rx_b hx
    have ih := rx_cn c3 c5
    have := sm_lt (f := fun h => pd (rc t g n h)) (g := fun h => pd (rc t g (n + 1) h)) (k := h) (n := t 0 + 1) (by omega) (fun j _ => by
      show pd _ ≤ pd _
      by_cases c : rc t g n j
      · rw [pd_t c, pd_t (show rc t g (n + 1) j from Or.inl c)]; exact Nat.le_refl _
      · rw [pd_f c]; exact Nat.zero_le _) (by
      show pd _ < pd _
      rw [pd_f (hx.2 n (by omega)), pd_t hx.1]; exact Nat.one_pos)
    unfold cn at *; omega
theorem rx_le {n h : Nat} (hh : h ≤ t 0) (hx : rx t g n h) : n ≤ t 0 := by
  have h1 := rx_cn hh hx
  have h2 := cn_le (t := t) (g := g) n
  omega
theorem rc_0 {n : Nat} : rc t g (n + 1) 0 ↔ rc t g n 0 := ⟨fun h => by
  rcases h with c | ⟨c1, _⟩
  · exact c
  · omega, Or.inl⟩
/-- the reference's value of a height after n layers -/
def hdw (t : Nat → Nat) (g n h : Nat) (v : Int32) : Prop := (∃ m, m ≤ n ∧ rx t g m h ∧ v = nI m) ∨ (¬ rc t g n h ∧ v = nM)
theorem hdw_0 {n : Nat} {v : Int32} (h : hdw t g n 0 v) : hdw t g (n + 1) 0 v := by
  rcases h with ⟨m, h1, h2, h3⟩ | ⟨h1, h2⟩
  · exact Or.inl ⟨m, by omega, h2, h3⟩
  · exact Or.inr ⟨fun c => h1 (rc_0.mp c), h2⟩
theorem hdw_v {n N q : Nat} {v : Int32} (h : hdw t g N q v) (hn : n ≤ N) (hN : N < 100) : v = nI n ↔ rx t g n q := by
  rcases h with ⟨m, h1, h2, rfl⟩ | ⟨h1, rfl⟩
  · rw [nI_eq (by omega) (by omega)]
    exact ⟨fun e => e ▸ h2, fun e => rx_u h2 e⟩
  · constructor
    · intro e
      have := q_mne (a := n) (by omega)
      exact absurd e (by rw [this]; exact id)
    · intro e
      exact absurd (rc_mono hn e.1) h1
theorem hdw_keep {n h : Nat} {v : Int32} (hv : hdw t g n h v) (no : ¬ ∃ q, q ≤ t 0 ∧ eg t h q ∧ rx t g n q) : hdw t g (n + 1) h v := by
  rcases hv with ⟨m, h1, h2, h3⟩ | ⟨h1, h2⟩
  · exact Or.inl ⟨m, by omega, h2, h3⟩
  · refine Or.inr ⟨fun c => ?_, h2⟩
    have hx : rx t g (n + 1) h := ⟨c, fun m hm hc => h1 (rc_mono (by omega) hc)⟩
    exact no (rx_b hx).2.2
theorem N_isNearTo (w : tb_W t) (h : tb_N M t) {k a : Nat} (hk : k < t 1) (ha : a < 100) : fX12_isNearTo M (nI a) (nI k) = some (bi (nrb (t (24 + k) + 1) a)) := by
  have b := w.2.2.2.2.2.2.1 k hk
  have b0 := w.1
  have b1 := w.2.1
  have hu : ∀ i, i < 92 → ra M 5 i = nI (t i) := h
  unfold fX12_isNearTo nrb
  by_cases c : (t (24 + k) + 1 ≤ a + 1 ∧ a ≤ t (24 + k) + 1 + 1)
  · rw [decide_eq_true c]
    simp (disch := omega) only [l_0, l_1, l_2, l_3, l_4, l_5, l_6, l_7, l_8, l_9, l_10, l_11, l_12, l_13, l_14, l_15, l_16, l_17, l_18, l_19, l_20, l_21, l_22, l_23, l_24, l_25, l_30, l_31, l_32, l_40, l_48, l_54, l_57, l_59, l_60, l_61, l_62, l_63, l_65, l_66, l_72, l_82, l_92, l_93, l_94, l_97, l_99, l_100, l_101, l_102, l_103, l_104, l_105, l_107, l_108, l_109, l_110, l_111, l_112, l_114, l_115, l_116, l_117, l_119, l_121, l_122, l_136, l_200, l_255, l_300, l_364, l_900, l_1000, l_1456, l_1458, l_1459, l_1460, l_1462, l_1471, l_1504, l_1510, l_1522, l_1550, l_2971, l_9999, l_10000, l_10979, l_65536, l_m1, nI_add, q_inT, hu, nI_clamp, ia, q_abs, q_leF, Option.bind_some, if_true, if_false, reduceIte, ite_not, not_true_eq_false, not_false_eq_true, q_z1, Nat.reduceEqDiff]
    rfl
  · rw [decide_eq_false c]
    simp (disch := omega) only [l_0, l_1, l_2, l_3, l_4, l_5, l_6, l_7, l_8, l_9, l_10, l_11, l_12, l_13, l_14, l_15, l_16, l_17, l_18, l_19, l_20, l_21, l_22, l_23, l_24, l_25, l_30, l_31, l_32, l_40, l_48, l_54, l_57, l_59, l_60, l_61, l_62, l_63, l_65, l_66, l_72, l_82, l_92, l_93, l_94, l_97, l_99, l_100, l_101, l_102, l_103, l_104, l_105, l_107, l_108, l_109, l_110, l_111, l_112, l_114, l_115, l_116, l_117, l_119, l_121, l_122, l_136, l_200, l_255, l_300, l_364, l_900, l_1000, l_1456, l_1458, l_1459, l_1460, l_1462, l_1471, l_1504, l_1510, l_1522, l_1550, l_2971, l_9999, l_10000, l_10979, l_65536, l_m1, nI_add, q_inT, hu, nI_clamp, ia, q_abs, q_leT, Option.bind_some, if_true, if_false, reduceIte, ite_not, not_true_eq_false, not_false_eq_true, q_z1, Nat.reduceEqDiff]
    rfl
end Q53
