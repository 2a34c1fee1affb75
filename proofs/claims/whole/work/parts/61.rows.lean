/-! rows of topics and their numbers -/
def cdw (w : Nat) (r : Nat → Nat) : Nat → Nat
  | 0 => 0
  | k + 1 => cdw w r k * w + r k
theorem cdw_cong {w : Nat} {r s : Nat → Nat} : ∀ {n : Nat}, (∀ i, i < n → r i = s i) → cdw w r n = cdw w s n
  | 0, _ => rfl
  | n + 1, h => by
    show cdw w r n * w + r n = cdw w s n * w + s n
    rw [cdw_cong (fun i hi => h i (by omega)), h n (by omega)]
/-- rows in the order of their numbers -/
theorem cdw_lt {w : Nat} {r s : Nat → Nat} {i : Nat} : ∀ {n : Nat}, i < n → (∀ j, j < i → r j = s j) → r i < s i → (∀ j, j < n → r j < w) → cdw w r n < cdw w s n
  | 0, h, _, _, _ => absurd h (by omega)
  | n + 1, h, he, hl, hw => by
    show cdw w r n * w + r n < cdw w s n * w + s n
    by_cases c : i = n
    · subst c
      rw [cdw_cong he]; omega
    · have ih := cdw_lt (n := n) (by omega) he hl (fun j hj => hw j (by omega))
      have h1 := hw n (by omega)
      have h2 : (cdw w r n + 1) * w ≤ cdw w s n * w := Nat.mul_le_mul_right _ ih
      rw [Nat.add_mul, Nat.one_mul] at h2
      omega
theorem cdw_b {w : Nat} {r : Nat → Nat} : ∀ {n : Nat}, (∀ j, j < n → r j < w) → cdw w r n < w ^ n
  | 0, _ => by simp [cdw]
  | n + 1, h => by
    have ih := cdw_b (n := n) (fun j hj => h j (by omega))
    have h1 := h n (by omega)
    have h2 : (cdw w r n + 1) * w ≤ w ^ n * w := Nat.mul_le_mul_right _ ih
    rw [Nat.add_mul, Nat.one_mul] at h2
    show cdw w r n * w + r n < w ^ (n + 1)
    rw [Nat.pow_succ]; omega
/-- the topic of talker i in the row with number c -/
def rw_ (w n c : Nat) (i : Nat) : Nat := c / w ^ (n - 1 - i) % w
theorem rw_cdw {w : Nat} : ∀ {n c : Nat}, 0 < w → c < w ^ n → cdw w (rw_ w n c) n = c
  | 0, c, _, h => by
    have : c = 0 := by simp at h; exact h
    rw [this]; rfl
  | n + 1, c, hw, h => by
    show cdw w (rw_ w (n + 1) c) n * w + rw_ w (n + 1) c n = c
    have hc : c / w < w ^ n := by
      rw [Nat.div_lt_iff_lt_mul hw]
      rw [Nat.pow_succ] at h; exact h
    have ih := rw_cdw (n := n) hw hc
    have e1 : cdw w (rw_ w (n + 1) c) n = cdw w (rw_ w n (c / w)) n := cdw_cong (fun i hi => by
      unfold rw_
      rw [Nat.div_div_eq_div_mul, ← Nat.pow_succ', show n + 1 - 1 - i = (n - 1 - i) + 1 by omega])
    have e2 : rw_ w (n + 1) c n = c % w := by
      unfold rw_
      rw [show n + 1 - 1 - n = 0 by omega, Nat.pow_zero, Nat.div_one]
    rw [e1, ih, e2]
    have := Nat.div_add_mod c w
    rw [Nat.mul_comm] at this; omega
theorem rw_lt {w n c i : Nat} (hw : 0 < w) : rw_ w n c i < w := Nat.mod_lt _ hw
/-- how many topics at least the first i use -/
def mxu (r : Nat → Nat) : Nat → Nat
  | 0 => 0
  | i + 1 => max (mxu r i) (r i + 1)
theorem mxu_gt {r : Nat → Nat} : ∀ {i j : Nat}, j < i → r j < mxu r i
  | 0, _, h => absurd h (by omega)
  | i + 1, j, h => by
    show r j < max (mxu r i) (r i + 1)
    by_cases c : j = i
    · subst c; omega
    · have := mxu_gt (r := r) (i := i) (j := j) (by omega)
      omega
def rgs (r : Nat → Nat) (n : Nat) : Prop := ∀ i, i < n → r i ≤ mxu r i
/-- two topics changed for each other -/
def swp (u x : Nat) (r : Nat → Nat) (i : Nat) : Nat := if r i = u then x else if r i = x then u else r i
theorem swp_eq {u x : Nat} {r : Nat → Nat} {i j : Nat} : swp u x r i = swp u x r j ↔ r i = r j := by
  unfold swp
  constructor
  · intro h
    split at h <;> split at h <;> (try split at h) <;> (try split at h) <;> omega
  · intro h; rw [h]
theorem swp_qf {t : Nat → Nat} {u x : Nat} {r : Nat → Nat} : qf t (swp u x r) = qf t r := by
  unfold qf
  exact sm_cong (fun k _ => by
    by_cases c : r (t (72 + k)) = r (t (82 + k))
    · rw [decide_eq_true c, decide_eq_true (swp_eq.mpr c)]
    · rw [decide_eq_false c, decide_eq_false (fun d => c (swp_eq.mp d))])
/-- a row that isn't of restricted growth has a smaller one with as many quarrels -/
theorem rgs_less {t : Nat → Nat} {w n : Nat} {r : Nat → Nat} (hr : ∀ j, j < n → r j < w) (no : ¬ rgs r n) : ∃ s, (∀ j, j < n → s j < w) ∧ qf t s = qf t r ∧ cdw w s n < cdw w r n := by
  have ex : ∃ i, i < n ∧ mxu r i < r i := by
    refine Classical.byContradiction (fun c => no (fun i hi => ?_))
    exact Nat.le_of_not_lt (fun d => c ⟨i, hi, d⟩)
  obtain ⟨i, hi, hx⟩ := ex
  refine ⟨swp (mxu r i) (r i) r, fun j hj => ?_, swp_qf, cdw_lt (i := i) hi (fun j hj => ?_) ?_ (fun j hj => ?_)⟩
  · have := hr j hj; have := hr i hi
    unfold swp; split
    · exact hr i hi
    · split <;> omega
  · have := mxu_gt (r := r) hj
    unfold swp; rw [if_neg (by omega), if_neg (by omega)]
  · unfold swp; rw [if_neg (by omega), if_pos rfl]; exact hx
  · have := hr j hj; have := hr i hi
    unfold swp; split
    · exact hr i hi
    · split <;> omega
theorem rgs_least {t : Nat → Nat} {w n : Nat} : ∀ (m : Nat) (r : Nat → Nat), cdw w r n ≤ m → (∀ j, j < n → r j < w) → ∃ s, (∀ j, j < n → s j < w) ∧ rgs s n ∧ qf t s = qf t r ∧ cdw w s n ≤ cdw w r n := by
  intro m
  induction m with
  | zero =>
    intro r hm hr
    by_cases c : rgs r n
    · exact ⟨r, hr, c, rfl, Nat.le_refl _⟩
    · obtain ⟨s, _, _, h3⟩ := rgs_less (t := t) hr c
      omega
  | succ m ih =>
    intro r hm hr
    by_cases c : rgs r n
    · exact ⟨r, hr, c, rfl, Nat.le_refl _⟩
    · obtain ⟨s, h1, h2, h3⟩ := rgs_less (t := t) hr c
      obtain ⟨s', g1, g2, g3, g4⟩ := ih s (by omega) h1
      exact ⟨s', g1, g2, by rw [g3, h2], by omega⟩
