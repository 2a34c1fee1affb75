/-! the relation between the class's modules and the reference -/
/-- step s of the reference's block (cells c) as the class's entry at P -/
def ev_S (E : ms_T) (c : Nat → Int32) (nc nt P s : Nat) : Prop :=
  (c (94 + 9 * s) = nI 0 ∧ ra E 1 P = nI 13 ∧ ra E 2 P = c (94 + 9 * s + 1) ∧ ra E 3 P = c (94 + 9 * s + 2) ∧ (∃ a, a < nt ∧ c (94 + 9 * s + 1) = nI a) ∧ (∃ a, a < nc ∧ c (94 + 9 * s + 2) = nI a)) ∨
  (c (94 + 9 * s) = nI 1 ∧ ra E 1 P = nI 14 ∧ ra E 2 P = c (94 + 9 * s + 1) ∧ ra E 3 P = c (94 + 9 * s + 2) ∧ (∃ a, a < nt ∧ c (94 + 9 * s + 1) = nI a) ∧ (∃ a, a < 10 ∧ c (94 + 9 * s + 2) = nI a)) ∨
  (c (94 + 9 * s) = nI 2 ∧ ra E 1 P = nI 15 ∧ ra E 2 P = c (94 + 9 * s + 1) ∧ (∃ a, a < nt ∧ c (94 + 9 * s + 1) = nI a)) ∨
  (c (94 + 9 * s) = nI 3 ∧ ra E 1 P = nI 16 ∧ ra E 2 P = c (94 + 9 * s + 1) ∧ (∃ a, a < nc ∧ c (94 + 9 * s + 1) = nI a)) ∨
  (c (94 + 9 * s) = nI 4 ∧ ra E 1 P = nI 17 ∧ ra E 2 P = c (94 + 9 * s + 1) ∧ (∃ a, a < nc ∧ c (94 + 9 * s + 1) = nI a)) ∨
  (c (94 + 9 * s) = nI 5 ∧ ra E 1 P = nI 18) ∨
  (c (94 + 9 * s) = nI 8 ∧ ra E 1 P = nI 25)
def ev_L (E : ms_T) (c : Nat → Int32) (P s : Nat) : Prop := c (94 + 9 * s) = nI 7 ∧ ra E 1 P = nI 23 ∧ ra E 3 P = c (94 + 9 * s + 1) ∧ (∃ a, 1 ≤ a ∧ a < 100 ∧ c (94 + 9 * s + 1) = nI a)
def ev_H (E : ms_T) (c : Nat → Int32) (nc nt P s : Nat) : Prop := c (94 + 9 * s) = nI 6 ∧ ra E 1 P = nI 19 ∧ ra E 2 P = c (94 + 9 * s + 1) ∧
  ((c (94 + 9 * s + 5) = nI 0 ∧ ra E 4 P = nI 20 ∧ (∃ a, a < nc ∧ c (94 + 9 * s + 1) = nI a)) ∨
   (c (94 + 9 * s + 5) = nI 1 ∧ ra E 4 P = nI 21 ∧ (∃ a, a < nt ∧ c (94 + 9 * s + 1) = nI a)) ∨
   (c (94 + 9 * s + 5) = nI 2 ∧ ra E 4 P = c (94 + 9 * s + 7) ∧ (c (94 + 9 * s + 7) = nI 60 ∨ c (94 + 9 * s + 7) = nI 61 ∨ c (94 + 9 * s + 7) = nI 62) ∧ ra E 3 P = c (94 + 9 * s + 6) ∧ (∃ a, a < nt ∧ c (94 + 9 * s + 1) = nI a) ∧ (∃ a, a < 10 ∧ c (94 + 9 * s + 6) = nI a)))
/-- the entries from P to F are the steps from a to b, nested at most d deep; f: how many at most -/
def ev_B (E : ms_T) (c : Nat → Int32) (nc nt : Nat) : Nat → Nat → Nat → Nat → Nat → Nat → Prop
  | 0, _, _, _, _, _ => False
  | f + 1, d, a, b, P, F =>
    (a = b ∧ P = F) ∨
    (a < b ∧ P < F ∧ ev_S E c nc nt P a ∧ c (94 + 9 * a + 8) = nI (a + 1) ∧ ev_B E c nc nt f d (a + 1) b (P + 1) F) ∨
    (a < b ∧ P < F ∧ (ev_L E c P a ∨ ev_H E c nc nt P a) ∧ ∃ a2 e d2, d = d2 + 1 ∧ a < a2 ∧ a2 ≤ b ∧ P < e ∧ e < F ∧ c (94 + 9 * a + 8) = nI a2 ∧ ra E 1 e = nI 24 ∧ ra E 5 e = nI P ∧ ra E 5 P = nI e ∧ ev_B E c nc nt f d2 (a + 1) a2 (P + 1) e ∧ ev_B E c nc nt f d a2 b (e + 1) F)
def ev_R (E : ms_T) (c : Nat → Int32) (nc nt : Nat) : Prop :=
  gi E 0 = c 92 ∧ ∃ m, m ≤ 60 ∧ gi E 2 = nI m ∧ (c 92 = nI 0 ∨ (c 92 = nI 1 ∧ ∃ n, n ≤ 30 ∧ c 93 = nI n ∧ gi E 1 = nI n ∧ ev_B E c nc nt 100 3 0 n 0 m))
theorem ev_S_mono {E : ms_T} {c c' : Nat → Int32} {nc nt nc' nt' P s : Nat} (hc : ∀ i, 92 ≤ i → i < 364 → c' i = c i) (h1 : nc ≤ nc') (h2 : nt ≤ nt') (hs : s < 30) (h : ev_S E c nc nt P s) : ev_S E c' nc' nt' P s := by
  unfold ev_S at *
  rw [hc (94 + 9 * s) (by omega) (by omega), hc (94 + 9 * s + 1) (by omega) (by omega), hc (94 + 9 * s + 2) (by omega) (by omega)]
  rcases h with ⟨a1, a2, a3, a4, ⟨x, hx, ex⟩, ⟨y, hy, ey⟩⟩ | ⟨a1, a2, a3, a4, ⟨x, hx, ex⟩, ⟨y, hy, ey⟩⟩ | ⟨a1, a2, a3, ⟨x, hx, ex⟩⟩ | ⟨a1, a2, a3, ⟨x, hx, ex⟩⟩ | ⟨a1, a2, a3, ⟨x, hx, ex⟩⟩ | h | h
  · exact Or.inl ⟨a1, a2, a3, a4, ⟨x, by omega, ex⟩, ⟨y, by omega, ey⟩⟩
  · exact Or.inr (Or.inl ⟨a1, a2, a3, a4, ⟨x, by omega, ex⟩, ⟨y, by omega, ey⟩⟩)
  · exact Or.inr (Or.inr (Or.inl ⟨a1, a2, a3, ⟨x, by omega, ex⟩⟩))
  · exact Or.inr (Or.inr (Or.inr (Or.inl ⟨a1, a2, a3, ⟨x, by omega, ex⟩⟩)))
  · exact Or.inr (Or.inr (Or.inr (Or.inr (Or.inl ⟨a1, a2, a3, ⟨x, by omega, ex⟩⟩))))
  · exact Or.inr (Or.inr (Or.inr (Or.inr (Or.inr (Or.inl h)))))
  · exact Or.inr (Or.inr (Or.inr (Or.inr (Or.inr (Or.inr h)))))
theorem ev_B_mono {E : ms_T} {c c' : Nat → Int32} {nc nt nc' nt' : Nat} (hc : ∀ i, 92 ≤ i → i < 364 → c' i = c i) (h1 : nc ≤ nc') (h2 : nt ≤ nt') : ∀ f d a b P F, b ≤ 30 → ev_B E c nc nt f d a b P F → ev_B E c' nc' nt' f d a b P F
  | 0, _, _, _, _, _, _, h => h
  | f + 1, d, a, b, P, F, hb, h => by
    rcases h with h | ⟨g1, g2, g3, g4, g5⟩ | ⟨g1, g2, g3, a2, e, d2, g4, g5, g6, g7, g8, g9, g10, g11, g12, g13, g14⟩
    · exact Or.inl h
    · exact Or.inr (Or.inl ⟨g1, g2, ev_S_mono hc h1 h2 (by omega) g3, by rw [hc _ (by omega) (by omega)]; exact g4, ev_B_mono hc h1 h2 f d _ b _ F hb g5⟩)
    · refine Or.inr (Or.inr ⟨g1, g2, ?_, a2, e, d2, g4, g5, g6, g7, g8, by rw [hc _ (by omega) (by omega)]; exact g9, g10, g11, g12, ev_B_mono hc h1 h2 f d2 _ a2 _ e (by omega) g13, ev_B_mono hc h1 h2 f d a2 b _ F hb g14⟩)
      rcases g3 with k | k
      · left
        unfold ev_L at *
        rw [hc (94 + 9 * a) (by omega) (by omega), hc (94 + 9 * a + 1) (by omega) (by omega)]
        exact k
      · right
        unfold ev_H at *
        rw [hc (94 + 9 * a) (by omega) (by omega), hc (94 + 9 * a + 1) (by omega) (by omega), hc (94 + 9 * a + 5) (by omega) (by omega), hc (94 + 9 * a + 6) (by omega) (by omega), hc (94 + 9 * a + 7) (by omega) (by omega)]
        obtain ⟨k1, k2, k3, k4⟩ := k
        refine ⟨k1, k2, k3, ?_⟩
        rcases k4 with ⟨m1, m2, x, hx, ex⟩ | ⟨m1, m2, x, hx, ex⟩ | ⟨m1, m2, m3, m4, ⟨x, hx, ex⟩, y⟩
        · exact Or.inl ⟨m1, m2, x, by omega, ex⟩
        · exact Or.inr (Or.inl ⟨m1, m2, x, by omega, ex⟩)
        · exact Or.inr (Or.inr ⟨m1, m2, m3, m4, ⟨x, by omega, ex⟩, y⟩)
theorem ev_R_mono {E : ms_T} {c c' : Nat → Int32} {nc nt nc' nt' : Nat} (hc : ∀ i, 92 ≤ i → i < 364 → c' i = c i) (h1 : nc ≤ nc') (h2 : nt ≤ nt') (h : ev_R E c nc nt) : ev_R E c' nc' nt' := by
  unfold ev_R at *
  rw [hc 92 (by omega) (by omega), hc 93 (by omega) (by omega)]
  obtain ⟨h0, m, m1, m2, h3⟩ := h
  refine ⟨h0, m, m1, m2, ?_⟩
  rcases h3 with h | ⟨e, n, k1, k3, k4, k6⟩
  · exact Or.inl h
  · exact Or.inr ⟨e, n, k1, k3, k4, ev_B_mono hc h1 h2 100 3 0 n 0 m k1 k6⟩
/-- a table and its evenings, as block b -/
def rl_B (T E M : ms_T) (b : Nat) : Prop := ∃ t : Nat → Nat, tb_W t ∧ tb_C T t ∧ (∀ i, i < 92 → ra M 5 (b * 364 + i) = nI (t i)) ∧
  (∀ i, i < t 0 → rl T 10 i = rl M 7 (b * 23 + i)) ∧ (∀ i, i < t 1 → rl T 10 (9 + i) = rl M 7 (b * 23 + (9 + i))) ∧ (∀ i, i < t 2 → rl T 10 (17 + i) = rl M 7 (b * 23 + (17 + i))) ∧
  ev_R E (fun i => ra M 5 (b * 364 + i)) (t 1) (t 2)
def rl_Y (Y M : ms_T) (k : Nat) : Prop :=
  (∃ s, s ≤ 3 ∧ gi Y 1 = nI s ∧ ra M 1 k = nI s) ∧ ((gi Y 2 = nM ∧ ra M 2 k = nM) ∨ ∃ n, n ≤ 60 ∧ gi Y 2 = nI n ∧ ra M 2 k = nI n) ∧ (∀ i, i < 60 → rl Y 1 i = rl M 3 (60 * k + i))
def rl_T (C B M : ms_T) : Prop := (∃ n, n ≤ 900 ∧ gi C 5 = nI n ∧ gi M 8 = nI n) ∧ ∀ i, i < 900 → ra B 0 i = ra M 4 i ∧ (ra B 0 i).toInt8.toInt32 = ra B 0 i
def rl_K (C T2 E2 T3 E3 T4 E4 M : ms_T) : Prop := ∃ k, k ≤ 3 ∧ gi C 13 = nI k ∧ gi M 23 = nI k ∧ (1 ≤ k → rl_B T2 E2 M 1) ∧ (2 ≤ k → rl_B T3 E3 M 2) ∧ (3 ≤ k → rl_B T4 E4 M 3)
def rl_V (C V M : ms_T) : Prop := gi C 16 = gi M 40 ∧ (gi C 16 = nI 0 ∨ (gi C 16 = nI 1 ∧ gi V 5 = ra M 12 0 ∧ gi V 6 = ra M 12 1 ∧ gi V 7 = ra M 12 2 ∧ gi V 8 = ra M 12 3 ∧ gi V 9 = ra M 12 4))
def rl_F (C M : ms_T) : Prop := gl C 1 = gl M 2 ∧ gl C 2 = gl M 3
def rl_U (C M : ms_T) : Prop := gi C 8 = gi M 10 ∧ gi C 9 = gi M 11
def rl_R (C Y0 Y1 Y2 Y3 B T0 E0 T2 E2 T3 E3 T4 E4 V0 M : ms_T) : Prop :=
  rl_F C M ∧ rl_U C M ∧ rl_T C B M ∧ (rl_Y Y0 M 0 ∧ rl_Y Y1 M 1 ∧ rl_Y Y2 M 2 ∧ rl_Y Y3 M 3) ∧ rl_B T0 E0 M 0 ∧ rl_K C T2 E2 T3 E3 T4 E4 M ∧ rl_V C V0 M
def Rl (C Y0 Y1 Y2 Y3 B T0 E0 T2 E2 T3 E3 T4 E4 V0 M : ms_T) : Prop := gi C 0 = gi M 0 ∧ rl_R C Y0 Y1 Y2 Y3 B T0 E0 T2 E2 T3 E3 T4 E4 V0 M
section Q23
variable {SC SY0 SY1 SY2 SY3 SB ST0 SE0 ST2 SE2 ST3 SE3 ST4 SE4 SV0 SM : ms_T}
theorem rl_st (h : Rl SC SY0 SY1 SY2 SY3 SB ST0 SE0 ST2 SE2 ST3 SE3 ST4 SE4 SV0 SM) (v : Int32) : Rl (si SC 0 v) SY0 SY1 SY2 SY3 SB ST0 SE0 ST2 SE2 ST3 SE3 ST4 SE4 SV0 (si (si SM 1 (nI 0)) 0 v) := ⟨rfl, h.2⟩
theorem rl_st2 (h : Rl SC SY0 SY1 SY2 SY3 SB ST0 SE0 ST2 SE2 ST3 SE3 ST4 SE4 SV0 SM) (v x : Int32) : Rl (si SC 0 v) SY0 SY1 SY2 SY3 SB ST0 SE0 ST2 SE2 ST3 SE3 ST4 SE4 SV0 (si (si (si SM 1 (nI 0)) 0 x) 0 v) := ⟨rfl, h.2⟩
theorem rl_st0 (h : Rl SC SY0 SY1 SY2 SY3 SB ST0 SE0 ST2 SE2 ST3 SE3 ST4 SE4 SV0 SM) : Rl SC SY0 SY1 SY2 SY3 SB ST0 SE0 ST2 SE2 ST3 SE3 ST4 SE4 SV0 (si SM 1 (nI 0)) := ⟨h.1, h.2⟩
end Q23
