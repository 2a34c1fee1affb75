/-! seats: the pure part -/
/-- a row in which no two are the same -/
def ij (r : Nat → Nat) (n : Nat) : Prop := ∀ i j, i < j → j < n → r i ≠ r j
def prm (n : Nat) (s : Nat → Nat) : Prop := (∀ j, j < n → s j < n) ∧ ij s n
theorem php : ∀ (n : Nat) (s : Nat → Nat), (∀ j, j < n + 1 → s j < n) → ij s (n + 1) → False
  | 0, s, h, _ => absurd (h 0 (by omega)) (by omega)
  | n + 1, s, h, hi => by
    refine php n (fun j => if s (n + 1) < s j then s j - 1 else s j) (fun j hj => ?_) (fun i j hij hj e => ?_)
    · have a1 := h j (by omega)
      have a2 := h (n + 1) (by omega)
      have a3 := hi j (n + 1) (by omega) (by omega)
      show (if s (n + 1) < s j then s j - 1 else s j) < n
      split <;> omega
    · have e : (if s (n + 1) < s i then s i - 1 else s i) = (if s (n + 1) < s j then s j - 1 else s j) := e
      have a1 := hi i j hij (by omega)
      have a2 := hi i (n + 1) (by omega) (by omega)
      have a3 := hi j (n + 1) (by omega) (by omega)
      split at e <;> split at e <;> omega
theorem prm_on {n : Nat} {s : Nat → Nat} (h : prm n s) {x : Nat} (hx : x < n) : ∃ a, a < n ∧ s a = x := by
  refine Classical.byContradiction (fun no => ?_)
  obtain ⟨n, rfl⟩ : ∃ y, n = y + 1 := ⟨n - 1, by omega⟩
  have ne : ∀ j, j < n + 1 → s j ≠ x := fun j hj e => no ⟨j, hj, e⟩
  refine php n (fun j => if x < s j then s j - 1 else s j) (fun j hj => ?_) (fun i j hij hj e => ?_)
  · have a1 := h.1 j hj
    have a3 := ne j hj
    show (if x < s j then s j - 1 else s j) < n
    split <;> omega
  · have e : (if x < s i then s i - 1 else s i) = (if x < s j then s j - 1 else s j) := e
    have a1 := h.2 i j hij hj
    have a2 := ne i (by omega)
    have a3 := ne j hj
    split at e <;> split at e <;> omega
theorem ij_eq {n : Nat} {s : Nat → Nat} (h : ij s n) {i j : Nat} (hi : i < n) (hj : j < n) (e : s i = s j) : i = j := by
  rcases Nat.lt_trichotomy i j with c | c | c
  · exact absurd e (h i j c hj)
  · exact c
  · exact absurd e.symm (h j i c hi)
/-- where one sits, as the reference looks for it -/
def ps (r : Nat → Nat) (x : Nat) : Nat → Nat
  | 0 => 0
  | k + 1 => if r k = x then k else ps r x k
theorem ps_s (r : Nat → Nat) (x k : Nat) : ps r x (k + 1) = if r k = x then k else ps r x k := rfl
theorem ps_lt {r : Nat → Nat} {x : Nat} : ∀ k, ps r x k ≤ k
  | 0 => Nat.le_refl _
  | k + 1 => by
    have := ps_lt (r := r) (x := x) k
    rw [ps_s]; split <;> omega
theorem ps_at {n : Nat} {s : Nat → Nat} (h : ij s n) {a : Nat} (ha : a < n) : ∀ k, a < k → k ≤ n → ps s (s a) k = a
  | 0, h0, _ => absurd h0 (by omega)
  | k + 1, h1, h2 => by
    rw [ps_s]
    by_cases c : s k = s a
    · rw [if_pos c]; exact ij_eq h (by omega) ha c
    · rw [if_neg c]
      refine ps_at h ha k ?_ (by omega)
      rcases Nat.lt_or_ge a k with d | d
      · exact d
      · exact absurd (by rw [show k = a by omega]) c
theorem ps_cong {r s : Nat → Nat} {x : Nat} : ∀ {n : Nat}, (∀ j, j < n → r j = s j) → ps r x n = ps s x n
  | 0, _ => rfl
  | n + 1, h => by rw [ps_s, ps_s, h n (by omega), ps_cong (fun j hj => h j (by omega))]
def bsb (n a b : Nat) : Bool := decide ((a + 1) % n = b) || decide ((b + 1) % n = a)
theorem md1 {n a : Nat} (ha : a < n) : (a + 1) % n = if a + 1 = n then 0 else a + 1 := by
  split
  · next c => rw [c, Nat.mod_self]
  · exact Nat.mod_eq_of_lt (by omega)
theorem bsb_iff {n a b : Nat} (ha : a < n) (hb : b < n) : bsb n a b = true ↔ (a + 1 = b ∨ b + 1 = a ∨ (a + 1 = n ∧ b = 0) ∨ (b + 1 = n ∧ a = 0)) := by
  unfold bsb
  rw [md1 ha, md1 hb]
  simp only [Bool.or_eq_true, decide_eq_true_eq]
  split <;> split <;> omega
/-- how many feud beside each other, by feuds -/
def bsd (t r : Nat → Nat) : Nat := sm (fun k => b2 (bsb (t 2) (ps r (t (72 + k)) (t 2)) (ps r (t (82 + k)) (t 2)))) (t 3)
theorem bsd_le (t r : Nat → Nat) : bsd t r ≤ t 3 := by
  have := sm_le (f := fun k => b2 (bsb (t 2) (ps r (t (72 + k)) (t 2)) (ps r (t (82 + k)) (t 2)))) (c := 1) (n := t 3) (fun k _ => b2_le _)
  unfold bsd; omega
theorem bsd_cong {t r s : Nat → Nat} (h : ∀ j, j < t 2 → r j = s j) : bsd t r = bsd t s := by
  unfold bsd
  exact sm_cong (fun k _ => by rw [ps_cong h, ps_cong h])
/-- by seats: whether one feuds with the one ahead of him -/
def bea (t r : Nat → Nat) (j : Nat) : Nat := if j = 0 then 0 else b2 (anyb (fdb t (r j) (r (j - 1))) (t 3))
def clo (t r : Nat → Nat) : Nat := if 2 < t 2 then b2 (anyb (fdb t (r (t 2 - 1)) (r 0)) (t 3)) else 0
def bsq (t r : Nat → Nat) : Nat := sm (bea t r) (t 2) + clo t r
theorem b2_iff {b : Bool} {p : Prop} [Decidable p] (h : b = true ↔ p) : b2 b = if p then 1 else 0 := by
  by_cases c : p
  · rw [if_pos c, h.mpr c]; rfl
  · rw [if_neg c]
    cases d : b
    · rfl
    · exact absurd (h.mp d) c
theorem bsq_bsd {t s : Nat → Nat} (w : tb_W t) (hp : prm (t 2) s) : bsq t s = bsd t s := by
  have e1 : ∀ j, bea t s j = sm (fun k => if j = 0 then 0 else b2 (fdb t (s j) (s (j - 1)) k)) (t 3) := by
    intro j
    unfold bea
    by_cases c : j = 0
    · simp only [c, if_true]; exact (sm_z _).symm
    · simp only [c, if_false]; exact sm_any (fdb_one w)
  have e2 : clo t s = sm (fun k => if 2 < t 2 then b2 (fdb t (s (t 2 - 1)) (s 0) k) else 0) (t 3) := by
    unfold clo
    by_cases c : 2 < t 2
    · simp only [c, if_true]; exact sm_any (fdb_one w)
    · simp only [c, if_false]; exact (sm_z _).symm
  unfold bsq bsd
  rw [e2, sm_cong (g := fun j => sm (fun k => if j = 0 then 0 else b2 (fdb t (s j) (s (j - 1)) k)) (t 3)) (fun j _ => e1 j), sm_swap (fun j k => if j = 0 then 0 else b2 (fdb t (s j) (s (j - 1)) k)), ← sm_ad]
  refine sm_cong (fun k hk => ?_)
  have b8 := w.2.2.2.2.2.2.2.2.1 k hk
  obtain ⟨a, ha, ea⟩ := prm_on hp b8.1
  obtain ⟨b, hb, eb⟩ := prm_on hp b8.2.1
  have hab : a ≠ b := fun c => b8.2.2 (by rw [← ea, ← eb, c])
  have pa : ps s (t (72 + k)) (t 2) = a := by rw [← ea]; exact ps_at hp.2 ha (t 2) ha (Nat.le_refl _)
  have pb : ps s (t (82 + k)) (t 2) = b := by rw [← eb]; exact ps_at hp.2 hb (t 2) hb (Nat.le_refl _)
  have se : ∀ i j, i < t 2 → j < t 2 → (s i = s j ↔ i = j) := fun i j hi hj => ⟨ij_eq hp.2 hi hj, fun c => by rw [c]⟩
  have ff : ∀ i j, i < t 2 → j < t 2 → (fdb t (s i) (s j) k = true ↔ (a = i ∧ b = j) ∨ (a = j ∧ b = i)) := fun i j hi hj => by
    rw [fdb_iff, ← ea, ← eb, se a i ha hi, se b j hb hj, se a j ha hj, se b i hb hi]
  rw [pa, pb, b2_iff (bsb_iff ha hb)]
  have g1 : sm (fun j => if j = 0 then 0 else b2 (fdb t (s j) (s (j - 1)) k)) (t 2) = if a + 1 = b ∨ b + 1 = a then 1 else 0 := by
    by_cases c1 : a + 1 = b
    · rw [if_pos (Or.inl c1), sm_one (k := b) hb (fun j hj hne => ?_)]
      · show (if b = 0 then 0 else b2 (fdb t (s b) (s (b - 1)) k)) = 1
        rw [if_neg (by omega), (ff b (b - 1) hb (by omega)).mpr (by omega)]; rfl
      · show (if j = 0 then 0 else b2 (fdb t (s j) (s (j - 1)) k)) = 0
        by_cases c : j = 0
        · rw [if_pos c]
        · rw [if_neg c, b2_iff (ff j (j - 1) hj (by omega)), if_neg (by omega)]
    · by_cases c2 : b + 1 = a
      · rw [if_pos (Or.inr c2), sm_one (k := a) ha (fun j hj hne => ?_)]
        · show (if a = 0 then 0 else b2 (fdb t (s a) (s (a - 1)) k)) = 1
          rw [if_neg (by omega), (ff a (a - 1) ha (by omega)).mpr (by omega)]; rfl
        · show (if j = 0 then 0 else b2 (fdb t (s j) (s (j - 1)) k)) = 0
          by_cases c : j = 0
          · rw [if_pos c]
          · rw [if_neg c, b2_iff (ff j (j - 1) hj (by omega)), if_neg (by omega)]
      · rw [if_neg (by omega)]
        refine sm_nil (fun j hj => ?_)
        show (if j = 0 then 0 else b2 (fdb t (s j) (s (j - 1)) k)) = 0
        by_cases c : j = 0
        · rw [if_pos c]
        · rw [if_neg c, b2_iff (ff j (j - 1) hj (by omega)), if_neg (by omega)]
  rw [g1]
  by_cases c : 2 < t 2
  · rw [if_pos c, b2_iff (ff (t 2 - 1) 0 (by omega) (by omega))]
    by_cases d1 : a + 1 = b ∨ b + 1 = a
    · rw [if_pos d1, if_neg (by omega), if_pos (by omega)]
    · rw [if_neg d1]
      by_cases d2 : (a = t 2 - 1 ∧ b = 0) ∨ (a = 0 ∧ b = t 2 - 1)
      · rw [if_pos d2, if_pos (by omega)]
      · rw [if_neg d2, if_neg (by omega)]
  · rw [if_neg c]
    rw [if_pos (by omega), if_pos (by omega)]
/-- the table turned round -/
def rot (n p : Nat) (s : Nat → Nat) (j : Nat) : Nat := s (if j + p < n then j + p else j + p - n)
theorem rot_prm {n p : Nat} {s : Nat → Nat} (hp : p < n) (h : prm n s) : prm n (rot n p s) := by
  refine ⟨fun j hj => ?_, fun i j hij hj e => ?_⟩
  · unfold rot; exact h.1 _ (by split <;> omega)
  · unfold rot at e
    have := ij_eq h.2 (by split <;> omega) (by split <;> omega) e
    split at this <;> split at this <;> omega
theorem rot_bsd {t s : Nat → Nat} {p : Nat} (w : tb_W t) (hp : p < t 2) (h : prm (t 2) s) : bsd t (rot (t 2) p s) = bsd t s := by
  have hr := rot_prm hp h
  unfold bsd
  refine sm_cong (fun k hk => ?_)
  have b8 := w.2.2.2.2.2.2.2.2.1 k hk
  obtain ⟨a, ha, ea⟩ := prm_on h b8.1
  obtain ⟨b, hb, eb⟩ := prm_on h b8.2.1
  have pa : ps s (t (72 + k)) (t 2) = a := by rw [← ea]; exact ps_at h.2 ha (t 2) ha (Nat.le_refl _)
  have pb : ps s (t (82 + k)) (t 2) = b := by rw [← eb]; exact ps_at h.2 hb (t 2) hb (Nat.le_refl _)
  have key : ∀ x, x < t 2 → ps (rot (t 2) p s) (s x) (t 2) = if p ≤ x then x - p else x + t 2 - p := by
    intro x hx
    have e : rot (t 2) p s (if p ≤ x then x - p else x + t 2 - p) = s x := by
      unfold rot
      congr 1
      split <;> split <;> omega
    rw [← e]
    have hl : (if p ≤ x then x - p else x + t 2 - p) < t 2 := by split <;> omega
    exact ps_at hr.2 hl (t 2) hl (Nat.le_refl _)
  rw [pa, pb, ← ea, ← eb, key a ha, key b hb]
  have la : (if p ≤ a then a - p else a + t 2 - p) < t 2 := by split <;> omega
  have lb : (if p ≤ b then b - p else b + t 2 - p) < t 2 := by split <;> omega
  rw [b2_iff (bsb_iff la lb), b2_iff (bsb_iff ha hb)]
  have : ((if p ≤ a then a - p else a + t 2 - p) + 1 = (if p ≤ b then b - p else b + t 2 - p) ∨ (if p ≤ b then b - p else b + t 2 - p) + 1 = (if p ≤ a then a - p else a + t 2 - p) ∨ ((if p ≤ a then a - p else a + t 2 - p) + 1 = t 2 ∧ (if p ≤ b then b - p else b + t 2 - p) = 0) ∨ ((if p ≤ b then b - p else b + t 2 - p) + 1 = t 2 ∧ (if p ≤ a then a - p else a + t 2 - p) = 0)) ↔ (a + 1 = b ∨ b + 1 = a ∨ (a + 1 = t 2 ∧ b = 0) ∨ (b + 1 = t 2 ∧ a = 0)) := by
    split <;> split <;> omega
  by_cases c : (a + 1 = b ∨ b + 1 = a ∨ (a + 1 = t 2 ∧ b = 0) ∨ (b + 1 = t 2 ∧ a = 0))
  · rw [if_pos (this.mpr c), if_pos c]
  · rw [if_neg (fun d => c (this.mp d)), if_neg c]
/-- the two searches find the same row -/
theorem seat_join {t k k2 : Nat → Nat} {m m2 : Nat} (w : tb_W t) (hn : 0 < t 2) (a1 : prm (t 2) k) (a2 : bsd t k = m) (a3 : ∀ s, prm (t 2) s → m ≤ bsd t s) (a4 : ∀ s, prm (t 2) s → cdw (t 2) s (t 2) < cdw (t 2) k (t 2) → m < bsd t s)
    (c0 : k2 0 = 0) (c1 : prm (t 2) k2) (c2 : bsq t k2 = m2) (c3 : ∀ s, s 0 = 0 → prm (t 2) s → m2 ≤ bsq t s) (c4 : ∀ s, s 0 = 0 → prm (t 2) s → cdw (t 2) s (t 2) < cdw (t 2) k2 (t 2) → m2 < bsq t s) : m2 = m ∧ ∀ j, j < t 2 → k2 j = k j := by
  rw [bsq_bsd w c1] at c2
  have b1 := a3 k2 c1
  have k0 : k 0 = 0 := by
    refine Classical.byContradiction (fun no => ?_)
    obtain ⟨p, hp, ep⟩ := prm_on a1 hn
    have e0 : rot (t 2) p k 0 = 0 := by unfold rot; rw [Nat.zero_add, if_pos hp, ep]
    have hr := rot_prm hp a1
    have := a4 _ hr (cdw_lt (i := 0) hn (fun j hj => by omega) (by rw [e0]; omega) hr.1)
    rw [rot_bsd w hp a1] at this
    omega
  have b3 := c3 k k0 a1
  rw [bsq_bsd w a1] at b3
  have em : m2 = m := by omega
  refine ⟨em, ?_⟩
  have g1 : ¬ cdw (t 2) k2 (t 2) < cdw (t 2) k (t 2) := fun c => by have := a4 k2 c1 c; omega
  have g2 : ¬ cdw (t 2) k (t 2) < cdw (t 2) k2 (t 2) := fun c => by
    have := c4 k k0 a1 c
    rw [bsq_bsd w a1] at this; omega
  exact cdw_inj c1.1 a1.1 (by omega)
/-- who sits already, as a set -/
def usd (r : Nat → Nat) : Nat → Nat
  | 0 => 0
  | d + 1 => usd r d ||| 2 ^ r d
theorem usd_s (r : Nat → Nat) (d : Nat) : usd r (d + 1) = usd r d ||| 2 ^ r d := rfl
theorem usd_cong {r s : Nat → Nat} : ∀ {d : Nat}, (∀ j, j < d → r j = s j) → usd r d = usd s d
  | 0, _ => rfl
  | d + 1, h => by rw [usd_s, usd_s, h d (by omega), usd_cong (fun j hj => h j (by omega))]
theorem usd_bit {r : Nat → Nat} {x : Nat} : ∀ d, (usd r d).testBit x = true ↔ ∃ j, j < d ∧ r j = x
  | 0 => by
    constructor
    · intro h; rw [show usd r 0 = 0 from rfl, Nat.zero_testBit] at h; cases h
    · intro ⟨j, hj, _⟩; omega
  | d + 1 => by
    have ih := usd_bit (r := r) (x := x) d
    rw [usd_s, Nat.testBit_or, Bool.or_eq_true, ih, Nat.testBit_two_pow, decide_eq_true_eq]
    constructor
    · intro h
      rcases h with ⟨j, hj, e⟩ | h
      · exact ⟨j, by omega, e⟩
      · exact ⟨d, by omega, h⟩
    · intro ⟨j, hj, e⟩
      by_cases c : j = d
      · subst c; exact Or.inr e
      · exact Or.inl ⟨j, by omega, e⟩
theorem usd_lt {r : Nat → Nat} : ∀ {d : Nat}, (∀ j, j < d → r j < 6) → usd r d < 64
  | 0, _ => by show 0 < 64; omega
  | d + 1, h => q_b64 (usd_lt (fun j hj => h j (by omega))) (h d (by omega))
def prc (n : Nat) (r : Nat → Nat) (d : Nat) (s : Nat → Nat) : Prop := (∀ j, j < d → s j = r j) ∧ prm n s
/-- one more seat: what a search over those that sit there does -/
theorem prc_iff {n d x : Nat} {r s : Nat → Nat} : (prc n r d s ∧ s d < x + 1) ↔ ((prc n r d s ∧ s d < x) ∨ prc n (tu r d x) (d + 1) s) := by
  have rr : ∀ j, j < d → tu r d x j = r j := fun j hj => tu_n _ _ _ (by omega)
  have rd : tu r d x d = x := tu_e _ _ _ rfl
  constructor
  · intro ⟨g1, g2⟩
    by_cases q : s d < x
    · exact Or.inl ⟨g1, q⟩
    · refine Or.inr ⟨fun j hj => ?_, g1.2⟩
      by_cases q2 : j = d
      · rw [q2, rd]; omega
      · rw [rr j (by omega)]; exact g1.1 j (by omega)
  · intro g
    rcases g with ⟨g1, g2⟩ | g
    · exact ⟨g1, by omega⟩
    · refine ⟨⟨fun j hj => by rw [g.1 j (by omega), rr j hj], g.2⟩, ?_⟩
      have := g.1 d (by omega)
      rw [rd] at this; omega
theorem prc_lt {n d x : Nat} {r a b : Nat → Nat} (hd : d < n) (ha : prc n r d a ∧ a d < x) (hb : prc n (tu r d x) (d + 1) b) : cdw n a n < cdw n b n := by
  have rr : ∀ j, j < d → tu r d x j = r j := fun j hj => tu_n _ _ _ (by omega)
  have b1 := hb.1 d (by omega)
  rw [tu_e _ _ _ rfl] at b1
  exact cdw_lt (i := d) hd (fun j hj => by rw [ha.1.1 j hj, hb.1 j (by omega), rr j hj]) (by have := ha.2; omega) ha.1.2.1
theorem prc_no {n d x : Nat} {r s : Nat → Nat} (hd : d < n) (hu : (usd r d).testBit x = true) : ¬ prc n (tu r d x) (d + 1) s := by
  intro h
  obtain ⟨j, hj, e⟩ := (usd_bit d).mp hu
  have h1 := h.1 d (by omega)
  rw [tu_e _ _ _ rfl] at h1
  have h2 := h.1 j (by omega)
  rw [tu_n _ _ _ (show j ≠ d by omega), e] at h2
  exact h.2.2 j d hj hd (by rw [h1, h2])
theorem ij_tu {d x : Nat} {r : Nat → Nat} (h : ij r d) (hu : (usd r d).testBit x = false) : ij (tu r d x) (d + 1) := by
  intro i j hij hj e
  by_cases c : j = d
  · rw [c, tu_e _ _ _ rfl, tu_n _ _ _ (show i ≠ d by omega)] at e
    have := (usd_bit (r := r) (x := x) d).mpr ⟨i, by omega, e⟩
    rw [hu] at this; cases this
  · rw [tu_n _ _ _ c, tu_n _ _ _ (show i ≠ d by omega)] at e
    exact h i j hij (by omega) e
theorem usd_tu {d x : Nat} {r : Nat → Nat} : usd (tu r d x) (d + 1) = usd r d ||| 2 ^ x := by
  rw [usd_s, tu_e _ _ _ rfl, usd_cong (fun j hj => tu_n _ _ _ (show j ≠ d by omega))]
