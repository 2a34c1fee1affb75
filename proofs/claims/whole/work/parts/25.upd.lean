/-! changes of one cell -/
def tu (t : Nat → Nat) (k v : Nat) : Nat → Nat := fun j => if j = k then v else t j
theorem tu_e (t : Nat → Nat) (k v : Nat) {j : Nat} (h : j = k) : tu t k v j = v := by unfold tu; rw [if_pos h]
theorem tu_n (t : Nat → Nat) (k v : Nat) {j : Nat} (h : j ≠ k) : tu t k v j = t j := by unfold tu; rw [if_neg h]
theorem up_e (f : Nat → Int32) (k : Nat) (v : Int32) {j : Nat} (h : j = k) : upd f k v j = v := by subst h; exact pk_us
theorem up_n (f : Nat → Int32) (k : Nat) (v : Int32) {j : Nat} (h : j ≠ k) : upd f k v j = f j := pk_un h
section Q25
variable {T M : ms_T} {t : Nat → Nat}
theorem W_upd (w : tb_W t) {k v : Nat} (hk : 4 ≤ k) (hk2 : k < 72) (v4 : k = 4 → v ≤ 16) (v6 : ∀ i, i < t 0 → k = 6 + i → v ≤ 20) (v15 : ∀ i, i < t 0 → k = 15 + i → v ≤ 3)
    (v24 : ∀ i, i < t 1 → k = 24 + i → v < t 0) (v32 : ∀ i, i < t 1 → k = 32 + i → v < 2 ^ i) (v40 : ∀ i, i < t 1 → k = 40 + i → v ≤ 1)
    (v48 : ∀ i, i < t 2 → k = 48 + i → v ≤ 9) (v54 : ∀ i, i < t 2 → k = 54 + i → v ≤ t 0) (v60 : ∀ i, i < t 2 → k = 60 + i → v ≤ 1) (v66 : ∀ i, i < t 2 → k = 66 + i → v ≤ 16) : tb_W (tu t k v) := by
  obtain ⟨w0, w1, w2, w3, w4, w5, w6, w7, w8, w9⟩ := w
  have e0 : tu t k v 0 = t 0 := tu_n _ _ _ (by omega)
  have e1 : tu t k v 1 = t 1 := tu_n _ _ _ (by omega)
  have e2 : tu t k v 2 = t 2 := tu_n _ _ _ (by omega)
  have e3 : tu t k v 3 = t 3 := tu_n _ _ _ (by omega)
  have ey : ∀ j, 72 ≤ j → tu t k v j = t j := fun j hj => tu_n _ _ _ (by omega)
  unfold tb_W
  rw [e0, e1, e2, e3]
  refine ⟨w0, w1, w2, w3, ?_, ?_, ?_, ?_, ?_, ?_⟩
  · unfold tu; split
    · exact v4 (by omega)
    · exact w4
  · intro i hi
    have := w5 i hi
    refine ⟨?_, ?_⟩
    · unfold tu; split
      · exact v6 i hi (by omega)
      · exact this.1
    · unfold tu; split
      · exact v15 i hi (by omega)
      · exact this.2
  · intro i hi
    have := w6 i hi
    refine ⟨?_, ?_, ?_⟩
    · unfold tu; split
      · exact v24 i hi (by omega)
      · exact this.1
    · unfold tu; split
      · exact v32 i hi (by omega)
      · exact this.2.1
    · unfold tu; split
      · exact v40 i hi (by omega)
      · exact this.2.2
  · intro i hi
    have := w7 i hi
    refine ⟨?_, ?_, ?_, ?_⟩
    · unfold tu; split
      · exact v48 i hi (by omega)
      · exact this.1
    · unfold tu; split
      · exact v54 i hi (by omega)
      · exact this.2.1
    · unfold tu; split
      · exact v60 i hi (by omega)
      · exact this.2.2.1
    · unfold tu; split
      · exact v66 i hi (by omega)
      · exact this.2.2.2
  · intro i hi
    rw [ey _ (by omega), ey _ (by omega)]
    exact w8 i hi
  · intro i j hi hj
    rw [ey _ (by omega), ey _ (by omega), ey _ (by omega), ey _ (by omega)]
    exact w9 i j hi hj
theorem pp_keep {k v n : Nat} (hn : n ≤ 8) (h : k < 40 ∨ 48 ≤ k) : bs (tb_pp (tu t k v)) n = bs (tb_pp t) n :=
  bs_eq (fun j hj => by unfold tb_pp; rw [tu_n _ _ _ (by omega)])
theorem ff_keep {k v n : Nat} (hn : n ≤ 6) (h : k < 60 ∨ 66 ≤ k) : bs (tb_ff (tu t k v)) n = bs (tb_ff t) n :=
  bs_eq (fun j hj => by unfold tb_ff; rw [tu_n _ _ _ (by omega)])
theorem bs_up {p q : Nat → Nat → Bool} {n c : Nat} (hc : c < n) (hq : ∀ x, q x c = true) (h : ∀ x k, k < n → k ≠ c → q x k = p 0 k) (hp : ∀ x y k, p x k = p y k) : bs q n = bs p n ||| 2 ^ c := by
  symm
  refine bs_ext (Nat.or_lt_two_pow (bs_lt p n) (Nat.pow_lt_pow_right (by decide) hc)) (fun k hk => ?_)
  rw [Nat.testBit_or, Nat.testBit_two_pow, bs_bit]
  by_cases e : k = c
  · subst e; simp [hq]
  · have e2 : ¬ c = k := fun x => e x.symm
    simp [hk, e2, h _ k hk e, hp (bs p k) 0 k]
theorem bs_dn {p q : Nat → Nat → Bool} {n c : Nat} (hq : ∀ x, q x c = false) (h : ∀ x k, k < n → k ≠ c → q x k = p 0 k) (hp : ∀ x y k, p x k = p y k) : bs q n = bs p n ^^^ (bs p n &&& 2 ^ c) := by
  symm
  refine bs_ext (Nat.xor_lt_two_pow (bs_lt p n) (Nat.lt_of_le_of_lt Nat.and_le_left (bs_lt p n))) (fun k hk => ?_)
  rw [Nat.testBit_xor, Nat.testBit_and, Nat.testBit_two_pow, bs_bit]
  by_cases e : k = c
  · subst e; simp [hq]
  · have e2 : ¬ c = k := fun x => e x.symm
    simp [hk, e2, h _ k hk e, hp (bs p k) 0 k]
theorem pp_on {c n : Nat} (hc : c < n) : bs (tb_pp (tu t (40 + c) 1)) n = bs (tb_pp t) n ||| 2 ^ c :=
  bs_up hc (fun x => by unfold tb_pp; rw [tu_e _ _ _ rfl]; rfl) (fun x k _ hk => by unfold tb_pp; rw [tu_n _ _ _ (by omega)]) (fun x y k => rfl)
theorem pp_off {c n : Nat} : bs (tb_pp (tu t (40 + c) 0)) n = bs (tb_pp t) n ^^^ (bs (tb_pp t) n &&& 2 ^ c) :=
  bs_dn (fun x => by unfold tb_pp; rw [tu_e _ _ _ rfl]; rfl) (fun x k _ hk => by unfold tb_pp; rw [tu_n _ _ _ (by omega)]) (fun x y k => rfl)
theorem ff_on {c n : Nat} (hc : c < n) : bs (tb_ff (tu t (60 + c) 1)) n = bs (tb_ff t) n ||| 2 ^ c :=
  bs_up hc (fun x => by unfold tb_ff; rw [tu_e _ _ _ rfl]; rfl) (fun x k _ hk => by unfold tb_ff; rw [tu_n _ _ _ (by omega)]) (fun x y k => rfl)
theorem ff_off {c n : Nat} : bs (tb_ff (tu t (60 + c) 0)) n = bs (tb_ff t) n ^^^ (bs (tb_ff t) n &&& 2 ^ c) :=
  bs_dn (fun x => by unfold tb_ff; rw [tu_e _ _ _ rfl]; rfl) (fun x k _ hk => by unfold tb_ff; rw [tu_n _ _ _ (by omega)]) (fun x y k => rfl)
theorem N_upd (h : tb_N M t) {k v : Nat} {M' : ms_T} (e : ra M' 5 = upd (ra M 5) k (nI v)) : tb_N M' (tu t k v) := by
  intro i hi
  rw [e]
  by_cases c : i = k
  · rw [up_e _ _ _ c, tu_e _ _ _ c]
  · rw [up_n _ _ _ c, tu_n _ _ _ c, h i hi]
theorem C_said (w : tb_W t) (h : tb_C T t) {v : Nat} : tb_C (si T 16 (nI v)) (tu t (5) v) := by
  obtain ⟨w0, w1, w2, w3, w4, w5, w6, w7, w8, w9⟩ := w
  obtain ⟨h0, h1, h2, h3, h4, h5, h6, h7, h8, h9, h10, h11, h12, h13, h14, h15, h16⟩ := h
  have e0 : tu t (5) v 0 = t 0 := tu_n _ _ _ (by omega)
  have e1 : tu t (5) v 1 = t 1 := tu_n _ _ _ (by omega)
  have e2 : tu t (5) v 2 = t 2 := tu_n _ _ _ (by omega)
  have e3 : tu t (5) v 3 = t 3 := tu_n _ _ _ (by omega)
  refine ⟨?_, ?_, ?_, ?_, ?_, ?_, ?_, ?_, ?_, ?_, ?_, ?_, ?_, ?_, ?_, ?_, ?_⟩
  · rw [tu_n _ _ _ (by omega)]; exact h0
  · rw [tu_n _ _ _ (by omega)]; exact h1
  · rw [tu_n _ _ _ (by omega)]; exact h2
  · rw [e1, pp_keep (by omega) (by omega)]; exact h3
  · rw [tu_n _ _ _ (by omega)]; exact h4
  · rw [e2, ff_keep (by omega) (by omega)]; exact h5
  · rw [tu_n _ _ _ (by omega)]; exact h6
  · rw [tu_e _ _ _ rfl]; rfl
  · intro i hi; rw [e0] at hi; rw [tu_n _ _ _ (by omega)]; exact h8 i hi
  · intro i hi; rw [e0] at hi; rw [tu_n _ _ _ (by omega)]; exact h9 i hi
  · intro i hi; rw [e1] at hi; rw [tu_n _ _ _ (by omega)]; exact h10 i hi
  · intro i hi; rw [e1] at hi; rw [tu_n _ _ _ (by omega)]; exact h11 i hi
  · intro i hi; rw [e2] at hi; rw [tu_n _ _ _ (by omega)]; exact h12 i hi
  · intro i hi; rw [e2] at hi; rw [tu_n _ _ _ (by omega)]; exact h13 i hi
  · intro i hi; rw [e2] at hi; rw [tu_n _ _ _ (by omega)]; exact h14 i hi
  · intro i hi; rw [e3] at hi; rw [tu_n _ _ _ (by omega)]; exact h15 i hi
  · intro i hi; rw [e3] at hi; rw [tu_n _ _ _ (by omega)]; exact h16 i hi

theorem C_odds (w : tb_W t) (h : tb_C T t) {v : Nat} : tb_C (si T 0 (nI v)) (tu t (4) v) := by
  obtain ⟨w0, w1, w2, w3, w4, w5, w6, w7, w8, w9⟩ := w
  obtain ⟨h0, h1, h2, h3, h4, h5, h6, h7, h8, h9, h10, h11, h12, h13, h14, h15, h16⟩ := h
  have e0 : tu t (4) v 0 = t 0 := tu_n _ _ _ (by omega)
  have e1 : tu t (4) v 1 = t 1 := tu_n _ _ _ (by omega)
  have e2 : tu t (4) v 2 = t 2 := tu_n _ _ _ (by omega)
  have e3 : tu t (4) v 3 = t 3 := tu_n _ _ _ (by omega)
  refine ⟨?_, ?_, ?_, ?_, ?_, ?_, ?_, ?_, ?_, ?_, ?_, ?_, ?_, ?_, ?_, ?_, ?_⟩
  · rw [tu_e _ _ _ rfl]; rfl
  · rw [tu_n _ _ _ (by omega)]; exact h1
  · rw [tu_n _ _ _ (by omega)]; exact h2
  · rw [e1, pp_keep (by omega) (by omega)]; exact h3
  · rw [tu_n _ _ _ (by omega)]; exact h4
  · rw [e2, ff_keep (by omega) (by omega)]; exact h5
  · rw [tu_n _ _ _ (by omega)]; exact h6
  · rw [tu_n _ _ _ (by omega)]; exact h7
  · intro i hi; rw [e0] at hi; rw [tu_n _ _ _ (by omega)]; exact h8 i hi
  · intro i hi; rw [e0] at hi; rw [tu_n _ _ _ (by omega)]; exact h9 i hi
  · intro i hi; rw [e1] at hi; rw [tu_n _ _ _ (by omega)]; exact h10 i hi
  · intro i hi; rw [e1] at hi; rw [tu_n _ _ _ (by omega)]; exact h11 i hi
  · intro i hi; rw [e2] at hi; rw [tu_n _ _ _ (by omega)]; exact h12 i hi
  · intro i hi; rw [e2] at hi; rw [tu_n _ _ _ (by omega)]; exact h13 i hi
  · intro i hi; rw [e2] at hi; rw [tu_n _ _ _ (by omega)]; exact h14 i hi
  · intro i hi; rw [e3] at hi; rw [tu_n _ _ _ (by omega)]; exact h15 i hi
  · intro i hi; rw [e3] at hi; rw [tu_n _ _ _ (by omega)]; exact h16 i hi

theorem C_worth (w : tb_W t) (h : tb_C T t) {v p : Nat} (hp : p < t 0) : tb_C (sr T 1 (upd (ra T 1) p (nI v))) (tu t (6 + p) v) := by
  obtain ⟨w0, w1, w2, w3, w4, w5, w6, w7, w8, w9⟩ := w
  obtain ⟨h0, h1, h2, h3, h4, h5, h6, h7, h8, h9, h10, h11, h12, h13, h14, h15, h16⟩ := h
  have e0 : tu t (6 + p) v 0 = t 0 := tu_n _ _ _ (by omega)
  have e1 : tu t (6 + p) v 1 = t 1 := tu_n _ _ _ (by omega)
  have e2 : tu t (6 + p) v 2 = t 2 := tu_n _ _ _ (by omega)
  have e3 : tu t (6 + p) v 3 = t 3 := tu_n _ _ _ (by omega)
  refine ⟨?_, ?_, ?_, ?_, ?_, ?_, ?_, ?_, ?_, ?_, ?_, ?_, ?_, ?_, ?_, ?_, ?_⟩
  · rw [tu_n _ _ _ (by omega)]; exact h0
  · rw [tu_n _ _ _ (by omega)]; exact h1
  · rw [tu_n _ _ _ (by omega)]; exact h2
  · rw [e1, pp_keep (by omega) (by omega)]; exact h3
  · rw [tu_n _ _ _ (by omega)]; exact h4
  · rw [e2, ff_keep (by omega) (by omega)]; exact h5
  · rw [tu_n _ _ _ (by omega)]; exact h6
  · rw [tu_n _ _ _ (by omega)]; exact h7
  · intro i hi; rw [e0] at hi; show upd (ra T 1) p (nI v) i = _; by_cases c : i = p
    · rw [up_e _ _ _ c, tu_e _ _ _ (by omega)]
    · rw [up_n _ _ _ c, tu_n _ _ _ (by omega)]; exact h8 i hi
  · intro i hi; rw [e0] at hi; rw [tu_n _ _ _ (by omega)]; exact h9 i hi
  · intro i hi; rw [e1] at hi; rw [tu_n _ _ _ (by omega)]; exact h10 i hi
  · intro i hi; rw [e1] at hi; rw [tu_n _ _ _ (by omega)]; exact h11 i hi
  · intro i hi; rw [e2] at hi; rw [tu_n _ _ _ (by omega)]; exact h12 i hi
  · intro i hi; rw [e2] at hi; rw [tu_n _ _ _ (by omega)]; exact h13 i hi
  · intro i hi; rw [e2] at hi; rw [tu_n _ _ _ (by omega)]; exact h14 i hi
  · intro i hi; rw [e3] at hi; rw [tu_n _ _ _ (by omega)]; exact h15 i hi
  · intro i hi; rw [e3] at hi; rw [tu_n _ _ _ (by omega)]; exact h16 i hi

theorem C_drift (w : tb_W t) (h : tb_C T t) {v p : Nat} (hp : p < t 0) : tb_C (sr T 2 (upd (ra T 2) p (nI v))) (tu t (15 + p) v) := by
  obtain ⟨w0, w1, w2, w3, w4, w5, w6, w7, w8, w9⟩ := w
  obtain ⟨h0, h1, h2, h3, h4, h5, h6, h7, h8, h9, h10, h11, h12, h13, h14, h15, h16⟩ := h
  have e0 : tu t (15 + p) v 0 = t 0 := tu_n _ _ _ (by omega)
  have e1 : tu t (15 + p) v 1 = t 1 := tu_n _ _ _ (by omega)
  have e2 : tu t (15 + p) v 2 = t 2 := tu_n _ _ _ (by omega)
  have e3 : tu t (15 + p) v 3 = t 3 := tu_n _ _ _ (by omega)
  refine ⟨?_, ?_, ?_, ?_, ?_, ?_, ?_, ?_, ?_, ?_, ?_, ?_, ?_, ?_, ?_, ?_, ?_⟩
  · rw [tu_n _ _ _ (by omega)]; exact h0
  · rw [tu_n _ _ _ (by omega)]; exact h1
  · rw [tu_n _ _ _ (by omega)]; exact h2
  · rw [e1, pp_keep (by omega) (by omega)]; exact h3
  · rw [tu_n _ _ _ (by omega)]; exact h4
  · rw [e2, ff_keep (by omega) (by omega)]; exact h5
  · rw [tu_n _ _ _ (by omega)]; exact h6
  · rw [tu_n _ _ _ (by omega)]; exact h7
  · intro i hi; rw [e0] at hi; rw [tu_n _ _ _ (by omega)]; exact h8 i hi
  · intro i hi; rw [e0] at hi; show upd (ra T 2) p (nI v) i = _; by_cases c : i = p
    · rw [up_e _ _ _ c, tu_e _ _ _ (by omega)]
    · rw [up_n _ _ _ c, tu_n _ _ _ (by omega)]; exact h9 i hi
  · intro i hi; rw [e1] at hi; rw [tu_n _ _ _ (by omega)]; exact h10 i hi
  · intro i hi; rw [e1] at hi; rw [tu_n _ _ _ (by omega)]; exact h11 i hi
  · intro i hi; rw [e2] at hi; rw [tu_n _ _ _ (by omega)]; exact h12 i hi
  · intro i hi; rw [e2] at hi; rw [tu_n _ _ _ (by omega)]; exact h13 i hi
  · intro i hi; rw [e2] at hi; rw [tu_n _ _ _ (by omega)]; exact h14 i hi
  · intro i hi; rw [e3] at hi; rw [tu_n _ _ _ (by omega)]; exact h15 i hi
  · intro i hi; rw [e3] at hi; rw [tu_n _ _ _ (by omega)]; exact h16 i hi

theorem C_height (w : tb_W t) (h : tb_C T t) {v p : Nat} (hp : p < t 2) : tb_C (sr T 6 (upd (ra T 6) p (nI v))) (tu t (54 + p) v) := by
  obtain ⟨w0, w1, w2, w3, w4, w5, w6, w7, w8, w9⟩ := w
  obtain ⟨h0, h1, h2, h3, h4, h5, h6, h7, h8, h9, h10, h11, h12, h13, h14, h15, h16⟩ := h
  have e0 : tu t (54 + p) v 0 = t 0 := tu_n _ _ _ (by omega)
  have e1 : tu t (54 + p) v 1 = t 1 := tu_n _ _ _ (by omega)
  have e2 : tu t (54 + p) v 2 = t 2 := tu_n _ _ _ (by omega)
  have e3 : tu t (54 + p) v 3 = t 3 := tu_n _ _ _ (by omega)
  refine ⟨?_, ?_, ?_, ?_, ?_, ?_, ?_, ?_, ?_, ?_, ?_, ?_, ?_, ?_, ?_, ?_, ?_⟩
  · rw [tu_n _ _ _ (by omega)]; exact h0
  · rw [tu_n _ _ _ (by omega)]; exact h1
  · rw [tu_n _ _ _ (by omega)]; exact h2
  · rw [e1, pp_keep (by omega) (by omega)]; exact h3
  · rw [tu_n _ _ _ (by omega)]; exact h4
  · rw [e2, ff_keep (by omega) (by omega)]; exact h5
  · rw [tu_n _ _ _ (by omega)]; exact h6
  · rw [tu_n _ _ _ (by omega)]; exact h7
  · intro i hi; rw [e0] at hi; rw [tu_n _ _ _ (by omega)]; exact h8 i hi
  · intro i hi; rw [e0] at hi; rw [tu_n _ _ _ (by omega)]; exact h9 i hi
  · intro i hi; rw [e1] at hi; rw [tu_n _ _ _ (by omega)]; exact h10 i hi
  · intro i hi; rw [e1] at hi; rw [tu_n _ _ _ (by omega)]; exact h11 i hi
  · intro i hi; rw [e2] at hi; rw [tu_n _ _ _ (by omega)]; exact h12 i hi
  · intro i hi; rw [e2] at hi; show upd (ra T 6) p (nI v) i = _; by_cases c : i = p
    · rw [up_e _ _ _ c, tu_e _ _ _ (by omega)]
    · rw [up_n _ _ _ c, tu_n _ _ _ (by omega)]; exact h13 i hi
  · intro i hi; rw [e2] at hi; rw [tu_n _ _ _ (by omega)]; exact h14 i hi
  · intro i hi; rw [e3] at hi; rw [tu_n _ _ _ (by omega)]; exact h15 i hi
  · intro i hi; rw [e3] at hi; rw [tu_n _ _ _ (by omega)]; exact h16 i hi

theorem C_prop (w : tb_W t) (h : tb_C T t) {v p : Nat} (hp : p < t 1) : tb_C (si T 7 (nI (bs (tb_pp (tu t (40 + p) v)) (t 1)))) (tu t (40 + p) v) := by
  obtain ⟨w0, w1, w2, w3, w4, w5, w6, w7, w8, w9⟩ := w
  obtain ⟨h0, h1, h2, h3, h4, h5, h6, h7, h8, h9, h10, h11, h12, h13, h14, h15, h16⟩ := h
  have e0 : tu t (40 + p) v 0 = t 0 := tu_n _ _ _ (by omega)
  have e1 : tu t (40 + p) v 1 = t 1 := tu_n _ _ _ (by omega)
  have e2 : tu t (40 + p) v 2 = t 2 := tu_n _ _ _ (by omega)
  have e3 : tu t (40 + p) v 3 = t 3 := tu_n _ _ _ (by omega)
  refine ⟨?_, ?_, ?_, ?_, ?_, ?_, ?_, ?_, ?_, ?_, ?_, ?_, ?_, ?_, ?_, ?_, ?_⟩
  · rw [tu_n _ _ _ (by omega)]; exact h0
  · rw [tu_n _ _ _ (by omega)]; exact h1
  · rw [tu_n _ _ _ (by omega)]; exact h2
  · show _ = nI (bs _ _); rw [e1]; rfl
  · rw [tu_n _ _ _ (by omega)]; exact h4
  · rw [e2, ff_keep (by omega) (by omega)]; exact h5
  · rw [tu_n _ _ _ (by omega)]; exact h6
  · rw [tu_n _ _ _ (by omega)]; exact h7
  · intro i hi; rw [e0] at hi; rw [tu_n _ _ _ (by omega)]; exact h8 i hi
  · intro i hi; rw [e0] at hi; rw [tu_n _ _ _ (by omega)]; exact h9 i hi
  · intro i hi; rw [e1] at hi; rw [tu_n _ _ _ (by omega)]; exact h10 i hi
  · intro i hi; rw [e1] at hi; rw [tu_n _ _ _ (by omega)]; exact h11 i hi
  · intro i hi; rw [e2] at hi; rw [tu_n _ _ _ (by omega)]; exact h12 i hi
  · intro i hi; rw [e2] at hi; rw [tu_n _ _ _ (by omega)]; exact h13 i hi
  · intro i hi; rw [e2] at hi; rw [tu_n _ _ _ (by omega)]; exact h14 i hi
  · intro i hi; rw [e3] at hi; rw [tu_n _ _ _ (by omega)]; exact h15 i hi
  · intro i hi; rw [e3] at hi; rw [tu_n _ _ _ (by omega)]; exact h16 i hi

theorem C_fall (w : tb_W t) (h : tb_C T t) {v p : Nat} (hp : p < t 2) : tb_C (si T 12 (nI (bs (tb_ff (tu t (60 + p) v)) (t 2)))) (tu t (60 + p) v) := by
  obtain ⟨w0, w1, w2, w3, w4, w5, w6, w7, w8, w9⟩ := w
  obtain ⟨h0, h1, h2, h3, h4, h5, h6, h7, h8, h9, h10, h11, h12, h13, h14, h15, h16⟩ := h
  have e0 : tu t (60 + p) v 0 = t 0 := tu_n _ _ _ (by omega)
  have e1 : tu t (60 + p) v 1 = t 1 := tu_n _ _ _ (by omega)
  have e2 : tu t (60 + p) v 2 = t 2 := tu_n _ _ _ (by omega)
  have e3 : tu t (60 + p) v 3 = t 3 := tu_n _ _ _ (by omega)
  refine ⟨?_, ?_, ?_, ?_, ?_, ?_, ?_, ?_, ?_, ?_, ?_, ?_, ?_, ?_, ?_, ?_, ?_⟩
  · rw [tu_n _ _ _ (by omega)]; exact h0
  · rw [tu_n _ _ _ (by omega)]; exact h1
  · rw [tu_n _ _ _ (by omega)]; exact h2
  · rw [e1, pp_keep (by omega) (by omega)]; exact h3
  · rw [tu_n _ _ _ (by omega)]; exact h4
  · show _ = nI (bs _ _); rw [e2]; rfl
  · rw [tu_n _ _ _ (by omega)]; exact h6
  · rw [tu_n _ _ _ (by omega)]; exact h7
  · intro i hi; rw [e0] at hi; rw [tu_n _ _ _ (by omega)]; exact h8 i hi
  · intro i hi; rw [e0] at hi; rw [tu_n _ _ _ (by omega)]; exact h9 i hi
  · intro i hi; rw [e1] at hi; rw [tu_n _ _ _ (by omega)]; exact h10 i hi
  · intro i hi; rw [e1] at hi; rw [tu_n _ _ _ (by omega)]; exact h11 i hi
  · intro i hi; rw [e2] at hi; rw [tu_n _ _ _ (by omega)]; exact h12 i hi
  · intro i hi; rw [e2] at hi; rw [tu_n _ _ _ (by omega)]; exact h13 i hi
  · intro i hi; rw [e2] at hi; rw [tu_n _ _ _ (by omega)]; exact h14 i hi
  · intro i hi; rw [e3] at hi; rw [tu_n _ _ _ (by omega)]; exact h15 i hi
  · intro i hi; rw [e3] at hi; rw [tu_n _ _ _ (by omega)]; exact h16 i hi

/-! what the rest of the relation needs of a changed reference -/
def rl_same (M M' : ms_T) : Prop := (gl M' 2 = gl M 2 ∧ gl M' 3 = gl M 3) ∧ gi M' 8 = gi M 8 ∧ gi M' 10 = gi M 10 ∧ gi M' 11 = gi M 11 ∧ gi M' 23 = gi M 23 ∧ gi M' 40 = gi M 40 ∧ ra M' 1 = ra M 1 ∧ ra M' 2 = ra M 2 ∧ ra M' 4 = ra M 4 ∧ ra M' 12 = ra M 12 ∧ rl M' 3 = rl M 3
theorem rl_B_keep {T E M M' : ms_T} {b : Nat} (h5 : ∀ i, i < 364 → ra M' 5 (b * 364 + i) = ra M 5 (b * 364 + i)) (h7 : ∀ i, i < 23 → rl M' 7 (b * 23 + i) = rl M 7 (b * 23 + i)) (h : rl_B T E M b) : rl_B T E M' b := by
  obtain ⟨t, w, hC, hN, n1, n2, n3, hE⟩ := h
  obtain ⟨w0, w1, w2, -⟩ := id w
  refine ⟨t, w, hC, fun i hi => by rw [h5 i (by omega)]; exact hN i hi, fun i hi => by rw [h7 i (by omega)]; exact n1 i hi, fun i hi => by rw [h7 _ (by omega)]; exact n2 i hi, fun i hi => by rw [h7 _ (by omega)]; exact n3 i hi, ev_R_mono (fun i h1 h2 => h5 i h2) (Nat.le_refl _) (Nat.le_refl _) hE⟩
theorem rl_mut {SC SY0 SY1 SY2 SY3 SB ST0 SE0 ST2 SE2 ST3 SE3 ST4 SE4 SV0 SM : ms_T} (hR : Rl SC SY0 SY1 SY2 SY3 SB ST0 SE0 ST2 SE2 ST3 SE3 ST4 SE4 SV0 SM) {T' E' M' : ms_T} {v : Int32} (hs : rl_same SM M') (hst : gi M' 0 = v) (h5 : ∀ i, 364 ≤ i → ra M' 5 i = ra SM 5 i) (h7 : ∀ i, 23 ≤ i → rl M' 7 i = rl SM 7 i) (hB : rl_B T' E' M' 0) :
    Rl (si SC 0 v) SY0 SY1 SY2 SY3 SB T' E' ST2 SE2 ST3 SE3 ST4 SE4 SV0 M' := by
  obtain ⟨-, hF, hU, hT, hY, -, hK, hV⟩ := hR
  obtain ⟨⟨s1, s2⟩, s3, s4, s5, s6, s7, s8, s9, s10, s11, s12⟩ := hs
  refine ⟨hst.symm, ?_, ?_, ?_, ?_, hB, ?_, ?_⟩
  · unfold rl_F at *; rw [s1, s2]; exact hF
  · unfold rl_U at *; rw [s4, s5]; exact hU
  · unfold rl_T at *; rw [s3, s10]; exact hT
  · unfold rl_Y at *; rw [s8, s9, s12]; exact hY
  · unfold rl_K at *
    rw [s6]
    obtain ⟨k, k1, k2, k3, k4, k5, k6⟩ := hK
    refine ⟨k, k1, k2, k3, fun h => ?_, fun h => ?_, fun h => ?_⟩
    · exact rl_B_keep (fun i hi => h5 _ (by omega)) (fun i hi => h7 _ (by omega)) (k4 h)
    · exact rl_B_keep (fun i hi => h5 _ (by omega)) (fun i hi => h7 _ (by omega)) (k5 h)
    · exact rl_B_keep (fun i hi => h5 _ (by omega)) (fun i hi => h7 _ (by omega)) (k6 h)
  · unfold rl_V at *; rw [s7, s11]; exact hV
/-- a change of cells of the table at hand that leaves names and counts -/
theorem rl_mut1 {SC SY0 SY1 SY2 SY3 SB ST0 SE0 ST2 SE2 ST3 SE3 ST4 SE4 SV0 SM : ms_T} (hR : Rl SC SY0 SY1 SY2 SY3 SB ST0 SE0 ST2 SE2 ST3 SE3 ST4 SE4 SV0 SM) {t t' : Nat → Nat} (hw : tb_W t) (n1 : ∀ i, i < t 0 → rl ST0 10 i = rl SM 7 (0 * 23 + i)) (n2 : ∀ i, i < t 1 → rl ST0 10 (9 + i) = rl SM 7 (0 * 23 + (9 + i))) (n3 : ∀ i, i < t 2 → rl ST0 10 (17 + i) = rl SM 7 (0 * 23 + (17 + i))) (hE : ev_R SE0 (fun i => ra SM 5 (0 * 364 + i)) (t 1) (t 2))
    {T' M' : ms_T} {v : Int32} (hs : rl_same SM M') (hst : gi M' 0 = v) (h5 : ∀ i, 92 ≤ i → ra M' 5 i = ra SM 5 i) (h7 : rl M' 7 = rl SM 7) (hT : rl T' 10 = rl ST0 10) (e0 : t' 0 = t 0) (e1 : t' 1 = t 1) (e2 : t' 2 = t 2) (w' : tb_W t') (hC' : tb_C T' t') (hN' : tb_N M' t') :
    Rl (si SC 0 v) SY0 SY1 SY2 SY3 SB T' SE0 ST2 SE2 ST3 SE3 ST4 SE4 SV0 M' := by
  refine rl_mut hR hs hst (fun i hi => h5 i (by omega)) (fun i _ => by rw [h7]) ⟨t', w', hC', ?_, ?_, ?_, ?_, ?_⟩
  · intro i hi; rw [Nat.zero_mul, Nat.zero_add]; exact hN' i hi
  · rw [h7, hT, e0]; exact n1
  · rw [h7, hT, e1]; exact n2
  · rw [h7, hT, e2]; exact n3
  · rw [e1, e2]
    refine ev_R_mono (fun i h1 h2 => ?_) (Nat.le_refl _) (Nat.le_refl _) hE
    show ra M' 5 (0 * 364 + i) = ra SM 5 (0 * 364 + i)
    exact h5 _ (by omega)
end Q25
