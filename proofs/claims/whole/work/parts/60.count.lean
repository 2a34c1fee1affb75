/-! quarrels counted by feuds and by pairs of talkers -/
theorem sm_z : ∀ n, sm (fun _ => 0) n = 0
  | 0 => rfl
  | n + 1 => by rw [sm_s, sm_z n]
theorem sm_nil {f : Nat → Nat} {n : Nat} (h : ∀ k, k < n → f k = 0) : sm f n = 0 := by rw [sm_cong (g := fun _ => 0) h, sm_z]
theorem sm_ad (f g : Nat → Nat) : ∀ n, sm (fun k => f k + g k) n = sm f n + sm g n
  | 0 => rfl
  | n + 1 => by rw [sm_s, sm_s, sm_s, sm_ad f g n]; omega
theorem sm_swap (F : Nat → Nat → Nat) (m : Nat) : ∀ n, sm (fun i => sm (F i) m) n = sm (fun k => sm (fun i => F i k) n) m
  | 0 => (sm_z m).symm
  | n + 1 => by
    rw [sm_s, sm_swap F m n, ← sm_ad]
    exact sm_cong (fun k _ => rfl)
theorem sm_any {p : Nat → Bool} : ∀ {m : Nat}, (∀ i j, i < j → j < m → ¬ (p i = true ∧ p j = true)) → b2 (anyb p m) = sm (fun k => b2 (p k)) m
  | 0, _ => rfl
  | m + 1, h => by
    have ih := sm_any (p := p) (m := m) (fun i j hi hj => h i j hi (by omega))
    rw [sm_s, ← ih]
    show b2 (anyb p m || p m) = _
    cases c : p m
    · rw [Bool.or_false, b2_0, Nat.add_zero]
    · have : anyb p m = false := anyb_no (fun i hi => by
        cases d : p i
        · rfl
        · exact absurd ⟨d, c⟩ (h i m hi (by omega)))
      rw [this]; rfl
section Q60
variable {T M U : ms_T} {t : Nat → Nat}
theorem fdb_iff {i j k : Nat} : fdb t i j k = true ↔ (t (72 + k) = i ∧ t (82 + k) = j) ∨ (t (72 + k) = j ∧ t (82 + k) = i) := by
  unfold fdb; simp
theorem fdb_one (w : tb_W t) {i j : Nat} : ∀ k k', k < k' → k' < t 3 → ¬ (fdb t i j k = true ∧ fdb t i j k' = true) := by
  intro k k' h1 h2 ⟨h3, h4⟩
  have w9 := w.2.2.2.2.2.2.2.2.2 k k' h1 h2
  rw [fdb_iff] at h3 h4
  omega
/-- by feuds -/
def qf (t : Nat → Nat) (r : Nat → Nat) : Nat := sm (fun k => b2 (decide (r (t (72 + k)) = r (t (82 + k))))) (t 3)
/-- by talkers: those of the earlier ones that quarrel with i -/
def qe (t : Nat → Nat) (r : Nat → Nat) (i : Nat) : Nat := sm (fun j => if r j = r i then b2 (anyb (fdb t i j) (t 3)) else 0) i
theorem qe_qf (w : tb_W t) (r : Nat → Nat) : sm (qe t r) (t 2) = qf t r := by
  have e1 : ∀ i, qe t r i = sm (fun k => sm (fun j => if r j = r i then b2 (fdb t i j k) else 0) i) (t 3) := by
    intro i
    rw [← sm_swap (fun j k => if r j = r i then b2 (fdb t i j k) else 0)]
    unfold qe
    refine sm_cong (fun j _ => ?_)
    by_cases c : r j = r i
    · simp only [c, if_true]
      exact sm_any (fdb_one w)
    · simp only [c, if_false]
      exact (sm_z _).symm
  rw [sm_cong (g := fun i => sm (fun k => sm (fun j => if r j = r i then b2 (fdb t i j k) else 0) i) (t 3)) (fun i _ => e1 i), sm_swap (fun i k => sm (fun j => if r j = r i then b2 (fdb t i j k) else 0) i)]
  unfold qf
  refine sm_cong (fun k hk => ?_)
  have b8 := w.2.2.2.2.2.2.2.2.1 k hk
  have key : ∀ hi lo, lo < hi → hi < t 2 → ((t (72 + k) = hi ∧ t (82 + k) = lo) ∨ (t (72 + k) = lo ∧ t (82 + k) = hi)) → sm (fun i => sm (fun j => if r j = r i then b2 (fdb t i j k) else 0) i) (t 2) = if r lo = r hi then 1 else 0 := by
    intro hi lo h1 h2 h3
    have no : ∀ i j, j < i → (i ≠ hi ∨ j ≠ lo) → (if r j = r i then b2 (fdb t i j k) else 0) = 0 := by
      intro i j hj hne
      have : fdb t i j k = false := by
        cases c : fdb t i j k
        · rfl
        · rw [fdb_iff] at c; omega
      rw [this, b2_0]; split <;> rfl
    rw [sm_one (k := hi) h2 (fun i hi2 hne => sm_nil (fun j hj => no i j hj (Or.inl hne)))]
    show sm (fun j => if r j = r hi then b2 (fdb t hi j k) else 0) hi = _
    rw [sm_one (k := lo) h1 (fun j hj hne => no hi j hj (Or.inr hne))]
    show (if r lo = r hi then b2 (fdb t hi lo k) else 0) = _
    have : fdb t hi lo k = true := by rw [fdb_iff]; exact h3
    rw [this, b2_1]
  rcases Nat.lt_or_gt_of_ne b8.2.2 with c | c
  · rw [key (t (82 + k)) (t (72 + k)) c b8.2.1 (Or.inr ⟨rfl, rfl⟩)]
    by_cases d : r (t (72 + k)) = r (t (82 + k))
    · rw [if_pos d, decide_eq_true d]; rfl
    · rw [if_neg d, decide_eq_false d]; rfl
  · rw [key (t (72 + k)) (t (82 + k)) c b8.1 (Or.inl ⟨rfl, rfl⟩)]
    by_cases d : r (t (72 + k)) = r (t (82 + k))
    · rw [if_pos d.symm, decide_eq_true d]; rfl
    · rw [if_neg (fun e => d e.symm), decide_eq_false d]; rfl
end Q60
