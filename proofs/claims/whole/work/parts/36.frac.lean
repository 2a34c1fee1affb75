/-! fractions -/
theorem lp_eq {σ β : Type} (L : Nat → Int32 → σ → Option β) (fin : σ → Option β) (m : Nat) (I : Nat → σ → Prop)
    (hx : ∀ n s, I m s → L (n + 1) (nI m) s = fin s)
    (hs : ∀ n k s, k < m → I k s → ∃ s', I (k + 1) s' ∧ L (n + 1) (nI k) s = L n (nI (k + 1)) s') :
    ∀ s fuel, I 0 s → m < fuel → ∃ s', I m s' ∧ L fuel (nI 0) s = fin s' := by
  have key : ∀ d k s fuel, k + d = m → I k s → d < fuel → ∃ s', I m s' ∧ L fuel (nI k) s = fin s' := by
    intro d
    induction d with
    | zero =>
      intro k s fuel h hI hf
      obtain ⟨n, rfl⟩ : ∃ n, fuel = n + 1 := ⟨fuel - 1, by omega⟩
      have : k = m := by omega
      subst this
      exact ⟨s, hI, hx n s hI⟩
    | succ d ih =>
      intro k s fuel h hI hf
      obtain ⟨n, rfl⟩ : ∃ n, fuel = n + 1 := ⟨fuel - 1, by omega⟩
      obtain ⟨s', hI', e⟩ := hs n k s (by omega) hI
      obtain ⟨s2, h2, e2⟩ := ih (k + 1) s' n (by omega) hI' (by omega)
      exact ⟨s2, h2, by rw [e, e2]⟩
  intro s fuel hI hf
  exact key m 0 s fuel (by omega) hI hf
theorem q_cmp0 {b : Nat} (hb : b < 2 ^ 63) : (lg_cmp (lN b) (0 : Int64) = 0) ↔ b = 0 := by
  have e0 : (0 : Int64) = lN 0 := rfl
  unfold lg_cmp
  rw [e0]
  by_cases c : b = 0
  · subst c
    rw [if_neg (by rw [gt_iff_lt, pk_lLT (by omega) (by omega)]; omega), if_pos rfl]; simp
  · rw [if_pos (by rw [gt_iff_lt, pk_lLT (by omega) (by omega)]; omega)]
    constructor
    · intro h; exact absurd h (by decide)
    · intro h; exact absurd h c
theorem q_cmple {b : Nat} (hb : b < 2 ^ 63) : (lg_cmp (lN b) (0 : Int64) ≤ 0) ↔ b = 0 := by
  have e0 : (0 : Int64) = lN 0 := rfl
  unfold lg_cmp
  rw [e0]
  by_cases c : b = 0
  · subst c
    rw [if_neg (by rw [gt_iff_lt, pk_lLT (by omega) (by omega)]; omega), if_pos rfl]; simp
  · rw [if_pos (by rw [gt_iff_lt, pk_lLT (by omega) (by omega)]; omega)]
    constructor
    · intro h; exact absurd h (by decide)
    · intro h; exact absurd h c
theorem q_lne {b : Nat} (hb : b < 2 ^ 63) (h : b ≠ 0) : ¬ lN b = 0 := by
  have e0 : (0 : Int64) = lN 0 := rfl
  rw [e0, pk_lEQ hb (by omega)]; exact h
theorem gcd_st (a b : Nat) : Nat.gcd a b = Nat.gcd b (a % b) := by
  rw [Nat.gcd_comm a b, Nat.gcd_rec b a, Nat.gcd_comm]
theorem q_half {a b : Nat} (k : Nat) (hb : b < 2 ^ (k + 1)) (hb0 : b ≠ 0) (hc : a % b ≠ 0) : b % (a % b) < 2 ^ k := by
  have h1 : a % b < b := Nat.mod_lt _ (by omega)
  have h2 : b % (a % b) < a % b := Nat.mod_lt _ (by omega)
  have h3 : a % b + b % (a % b) ≤ b := by
    have h4 := Nat.div_add_mod b (a % b)
    have h5 : 1 ≤ b / (a % b) := (Nat.one_le_div_iff (by omega)).mpr (by omega)
    have h6 : a % b * 1 ≤ a % b * (b / (a % b)) := Nat.mul_le_mul_left _ h5
    omega
  have h7 : 2 ^ (k + 1) = 2 * 2 ^ k := by rw [Nat.pow_succ]; omega
  omega
theorem gcd_C : ∀ k a b i fuel, a < 2 ^ 62 → b < 2 ^ 62 → b < 2 ^ k → i + 2 * k < 198 → 2 * k + 1 ≤ fuel → fX11_commonDivisor_9 fuel (lN a) (lN b) (nI i) = some (lN (Nat.gcd a b)) := by
  intro k
  induction k with
  | zero =>
    intro a b i fuel ha hb hk hi hf
    obtain ⟨n, rfl⟩ : ∃ n, fuel = n + 1 := ⟨fuel - 1, by omega⟩
    have : b = 0 := by simpa using hk
    subst this
    show (if _ then _ else _) = _
    rw [if_neg (show ¬ (200 : Int32) ≤ nI i from nI_ge (b := 200) (by omega) (by omega)), if_pos ((q_cmp0 (by omega)).mpr rfl), Nat.gcd_zero_right]
  | succ k ih =>
    intro a b i fuel ha hb hk hi hf
    obtain ⟨n, rfl⟩ : ∃ n, fuel = n + 2 := ⟨fuel - 2, by omega⟩
    show (if _ then _ else _) = _
    rw [if_neg (show ¬ (200 : Int32) ≤ nI i from nI_ge (b := 200) (by omega) (by omega))]
    by_cases c : b = 0
    · subst c
      rw [if_pos ((q_cmp0 (by omega)).mpr rfl), Nat.gcd_zero_right]
    · rw [if_neg (fun h => c ((q_cmp0 (by omega)).mp h)), if_pos (q_lne (by omega) c), pk_lRem (by omega) (by omega) (by omega), nI_1]
      have h1 : a % b < b := Nat.mod_lt _ (by omega)
      show (if _ then _ else _) = _
      rw [if_neg (show ¬ (200 : Int32) ≤ nI (i + 1) from nI_ge (b := 200) (by omega) (by omega)), gcd_st a b]
      by_cases d : a % b = 0
      · rw [d, if_pos ((q_cmp0 (by omega)).mpr rfl), Nat.gcd_zero_right]
      · have h2 := q_half k hk c d
        have h3 : b % (a % b) < a % b := Nat.mod_lt _ (by omega)
        rw [if_neg (fun h => d ((q_cmp0 (by omega)).mp h)), if_pos (q_lne (by omega) d), pk_lRem (by omega) (by omega) (by omega), nI_1, gcd_st b (a % b)]
        exact ih (a % b) (b % (a % b)) (i + 1 + 1) n (by omega) (by omega) h2 (by omega) (by omega)
theorem gcd_M (S : ms_T) (x y : Int64) : ∀ k a b fuel, a < 2 ^ 62 → b < 2 ^ 62 → b < 2 ^ k → Nat.gcd a b ≠ 0 → 2 * k + 1 ≤ fuel → fX12_fraction_9 fuel S x y (lN a) (lN b) = some (nI 1, sl (sl S 2 (x / lN (Nat.gcd a b))) 3 (y / lN (Nat.gcd a b))) := by
  intro k
  induction k with
  | zero =>
    intro a b fuel ha hb hk hg hf
    obtain ⟨n, rfl⟩ : ∃ n, fuel = n + 1 := ⟨fuel - 1, by omega⟩
    have : b = 0 := by simpa using hk
    subst this
    rw [Nat.gcd_zero_right] at *
    show (if _ then _ else _) = _
    rw [if_pos ((q_cmp0 (by omega)).mpr rfl), if_pos (q_lne (by omega) hg), if_pos (q_lne (by omega) hg)]
    rfl
  | succ k ih =>
    intro a b fuel ha hb hk hg hf
    obtain ⟨n, rfl⟩ : ∃ n, fuel = n + 2 := ⟨fuel - 2, by omega⟩
    show (if _ then _ else _) = _
    by_cases c : b = 0
    · subst c
      rw [Nat.gcd_zero_right] at *
      rw [if_pos ((q_cmp0 (by omega)).mpr rfl), if_pos (q_lne (by omega) hg), if_pos (q_lne (by omega) hg)]
      rfl
    · rw [if_neg (fun h => c ((q_cmp0 (by omega)).mp h)), if_pos (q_lne (by omega) c), pk_lRem (by omega) (by omega) (by omega)]
      have h1 : a % b < b := Nat.mod_lt _ (by omega)
      rw [gcd_st a b] at *
      show (if _ then _ else _) = _
      by_cases d : a % b = 0
      · rw [d, Nat.gcd_zero_right]
        rw [if_pos ((q_cmp0 (by omega)).mpr rfl), if_pos (q_lne (by omega) c), if_pos (q_lne (by omega) c)]
        rfl
      · have h2 := q_half k hk c d
        have h3 : b % (a % b) < a % b := Nat.mod_lt _ (by omega)
        rw [gcd_st b (a % b)] at *
        rw [if_neg (fun h => d ((q_cmp0 (by omega)).mp h)), if_pos (q_lne (by omega) d), pk_lRem (by omega) (by omega) (by omega)]
        exact ih (a % b) (b % (a % b)) n (by omega) (by omega) h2 hg (by omega)
theorem C_tell (S : ms_T) {x y : Nat} (hx : x < 2 ^ 62) (hy : y < 2 ^ 62) (hy0 : y ≠ 0) : fX11_tell S (lN x) (lN y) = some (nI 1, si (sl (sl S 1 (lN (x / Nat.gcd x y))) 2 (lN (y / Nat.gcd x y))) 0 (nI 0)) := by
  have hg : Nat.gcd x y ≠ 0 := fun h => hy0 (Nat.eq_zero_of_gcd_eq_zero_right h)
  have hg2 : Nat.gcd x y ≤ y := Nat.le_of_dvd (by omega) (Nat.gcd_dvd_right x y)
  unfold fX11_tell fX11_commonDivisor
  rw [show fX11_commonDivisor_9 FU (lN x) (lN y) (0 : Int32) = some (lN (Nat.gcd x y)) from gcd_C 62 x y 0 FU hx hy hy (by omega) (by unfold FU; omega), Option.bind_some, if_neg (fun h => hg ((q_cmple (by omega)).mp h)), if_pos (q_lne (by omega) hg), if_pos (q_lne (by omega) hg), pk_lDiv (by omega) (by omega) (by omega), pk_lDiv (by omega) (by omega) (by omega)]
  simp only [fX11_answer, fX11_refuse, fX11_deny, fX11_grant, fX12_refuse, fX12_no, l_0, l_1, l_2, l_3, l_4, l_5, l_6, l_7, l_8, l_9, l_10, l_11, l_12, l_13, l_14, l_15, l_16, l_17, l_18, l_19, l_20, l_21, l_22, l_23, l_24, l_25, l_30, l_31, l_32, l_40, l_48, l_54, l_57, l_59, l_60, l_61, l_62, l_63, l_65, l_66, l_72, l_82, l_92, l_93, l_94, l_97, l_99, l_100, l_101, l_102, l_103, l_104, l_105, l_107, l_108, l_109, l_110, l_111, l_112, l_114, l_115, l_116, l_117, l_119, l_121, l_122, l_136, l_200, l_255, l_300, l_364, l_900, l_1000, l_1456, l_1458, l_1459, l_1460, l_1462, l_1471, l_1504, l_1510, l_1522, l_1550, l_2971, l_9999, l_10000, l_10979, l_65536, l_m1, Option.bind_some, if_true, if_false, reduceIte, ite_not, not_true_eq_false, not_false_eq_true, q_z1, Nat.reduceEqDiff]
theorem M_fraction (S : ms_T) {x y : Nat} (hx : x < 2 ^ 62) (hy : y < 2 ^ 62) (hy0 : y ≠ 0) : fX12_fraction S (lN x) (lN y) = some (nI 1, sl (sl S 2 (lN (x / Nat.gcd x y))) 3 (lN (y / Nat.gcd x y))) := by
  have hg : Nat.gcd x y ≠ 0 := fun h => hy0 (Nat.eq_zero_of_gcd_eq_zero_right h)
  have hg2 : Nat.gcd x y ≤ y := Nat.le_of_dvd (by omega) (Nat.gcd_dvd_right x y)
  have ha : jabsl (lN x) = lN x := by
    unfold jabsl
    by_cases c : x = 0
    · subst c; rfl
    · rw [if_pos (show (0 : Int64) < lN x from by rw [show (0 : Int64) = lN 0 from rfl, pk_lLT (by omega) (by omega)]; omega)]
  unfold fX12_fraction
  rw [ha, gcd_M S _ _ 62 x y FU hx hy hy hg (by unfold FU; omega), pk_lDiv (by omega) (by omega) (by omega), pk_lDiv (by omega) (by omega) (by omega)]
/-- only what is reckoned on in between has changed -/
theorem rl_scr {SC SY0 SY1 SY2 SY3 SB ST0 SE0 ST2 SE2 ST3 SE3 ST4 SE4 SV0 SM M' : ms_T} (hR : Rl SC SY0 SY1 SY2 SY3 SB ST0 SE0 ST2 SE2 ST3 SE3 ST4 SE4 SV0 SM) {v : Int32} (hs : rl_sameY SM M') (h1 : ra M' 1 = ra SM 1) (h2 : ra M' 2 = ra SM 2) (h3 : rl M' 3 = rl SM 3) (hst : gi M' 0 = v) : Rl (si SC 0 v) SY0 SY1 SY2 SY3 SB ST0 SE0 ST2 SE2 ST3 SE3 ST4 SE4 SV0 M' := by
  obtain ⟨y0, y1, y2, y3⟩ := hR.2.2.2.2.1
  exact rl_mutY hR hs hst (rl_Y_keep (by rw [h1]) (by rw [h2]) (fun x _ => by rw [h3]) y0) (rl_Y_keep (by rw [h1]) (by rw [h2]) (fun x _ => by rw [h3]) y1) (rl_Y_keep (by rw [h1]) (by rw [h2]) (fun x _ => by rw [h3]) y2) (rl_Y_keep (by rw [h1]) (by rw [h2]) (fun x _ => by rw [h3]) y3)
/-- a fraction was told, on both sides -/
theorem rl_frac {SC SY0 SY1 SY2 SY3 SB ST0 SE0 ST2 SE2 ST3 SE3 ST4 SE4 SV0 SM : ms_T} (hR : Rl SC SY0 SY1 SY2 SY3 SB ST0 SE0 ST2 SE2 ST3 SE3 ST4 SE4 SV0 SM) (x y : Int64) : Rl (sl (sl SC 1 x) 2 y) SY0 SY1 SY2 SY3 SB ST0 SE0 ST2 SE2 ST3 SE3 ST4 SE4 SV0 (sl (sl SM 2 x) 3 y) := ⟨hR.1, ⟨rfl, rfl⟩, hR.2.2⟩
