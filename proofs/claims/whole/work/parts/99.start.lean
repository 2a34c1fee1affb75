section LS
variable {s : State} {args : Array Value}
theorem le_sel {C : String} {y z : MethodName} (hyz : z.cls = y.cls) (hy : y.cls ≠ "java/lang/invoke/MethodHandle" ∧ y.cls ≠ "java/lang/invoke/VarHandle") (hz : (Cond.selects C z z).before args s = true) (hpriv : (Cond.privateMethod y).before args s = true) (hinst : (Cond.instanceMethod y).before args s = true) : (Cond.selects C y y).before args s = true := by
  obtain ⟨mk, methM, hnamed, hmethM, -, -⟩ := Cond.instanceMethod_spec hinst
  have hfound : s.methodFound? y.cls y.name y.desc = some mk := State.methodFound?_of_named hnamed hy
  have hcl := findClass_of_methodNamed hnamed
  obtain ⟨c, r, m, h1, -, h3, -, k, h5, h6⟩ := Cond.selects_spec hz
  have hcz := findClass_of_methodNamed h3
  rw [hyz] at hcz
  have hmm : m.cls = mk.cls := Option.some.inj (hcz.symm.trans hcl)
  rw [hmm] at h5
  have hsel : selectMethod {} s.vm c mk = .method mk := selectMethod_private hmethM (Cond.privateMethod_at hpriv mk methM hnamed hmethM)
  simp only [Cond.before, Cond.holds, Cond.value, h1, hfound, hnamed, hsel, h5]
  simp; exact h6
theorem le_y : yX4_wordNumber.cls ≠ "java/lang/invoke/MethodHandle" ∧ yX4_wordNumber.cls ≠ "java/lang/invoke/VarHandle" := ⟨by decide, by decide⟩
theorem le_ts (hts : ∀ w ∈ lw_tbl, w.before args s = true) : ∀ w ∈ lw_g, w.before args s = true := by
  have hg : ∀ w ∈ lw_tbl.filter goodWord, w.before args s = true := fun w h => hts w (List.mem_filter.mp h).1
  have h8 : (Cond.selects RX8 yX4_advance yX4_advance).before args s = true := hts _ (tb_3 _ (List.mem_of_getElem? (i := 112) rfl))
  have h2 : (Cond.selects RX2 yX4_advance yX4_advance).before args s = true := hts _ (tb_3 _ (List.mem_of_getElem? (i := 111) rfl))
  have p1 : (Cond.privateMethod yX4_wordNumber).before args s = true := hts _ (tb_3 _ (List.mem_of_getElem? (i := 116) rfl))
  have q1 : (Cond.instanceMethod yX4_wordNumber).before args s = true := hts _ (tb_3 _ (List.mem_of_getElem? (i := 117) rfl))
  have p2 : (Cond.privateMethod yX4_readSign).before args s = true := hts _ (tb_3 _ (List.mem_of_getElem? (i := 169) rfl))
  have q2 : (Cond.instanceMethod yX4_readSign).before args s = true := hts _ (tb_3 _ (List.mem_of_getElem? (i := 170) rfl))
  intro w hw
  rcases List.mem_append.mp hw with hw | hw
  · rcases List.mem_cons.mp hw with rfl | hw
    · exact le_sel (z := yX4_advance) rfl le_y h8 p1 q1
    rcases List.mem_cons.mp hw with rfl | hw
    · exact le_sel (z := yX4_advance) rfl le_y h8 p2 q2
    rcases List.mem_cons.mp hw with rfl | hw
    · exact le_sel (z := yX4_advance) rfl le_y h2 p1 q1
    rcases List.mem_cons.mp hw with rfl | hw
    · exact le_sel (z := yX4_advance) rfl le_y h2 p2 q2
    exact absurd hw List.not_mem_nil
  · exact hg w hw
theorem le_aB (h : (Cond.arrayClass .byte).before args s = true) : ∃ cA : ClassId, ArrOfT s cA .byte ∧ va_RA s cA .byte := by
  obtain ⟨c, k, comp, h1, h2, h3⟩ := Cond.arrayClass_spec h
  exact ⟨c, fun n z => ⟨(fun _ h => by cases h), k, h2, comp, h3⟩, h1⟩
theorem le_aI (h : (Cond.arrayClass .int).before args s = true) : ∃ cA : ClassId, ArrOfT s cA .int ∧ va_RA s cA .int := by
  obtain ⟨c, k, comp, h1, h2, h3⟩ := Cond.arrayClass_spec h
  exact ⟨c, fun n z => ⟨(fun _ h => by cases h), k, h2, comp, h3⟩, h1⟩
theorem le_aJ (h : (Cond.arrayClass .long).before args s = true) : ∃ cA : ClassId, ArrOfT s cA .long ∧ va_RA s cA .long := by
  obtain ⟨c, k, comp, h1, h2, h3⟩ := Cond.arrayClass_spec h
  exact ⟨c, fun n z => ⟨(fun _ h => by cases h), k, h2, comp, h3⟩, h1⟩
theorem le_aO {C : String} (h : (Cond.arrayOver (.object C)).before args s = true) : ∃ cA : ClassId, ArrOfT s cA (.object C) ∧ va_RA s cA (.object C) := by
  obtain ⟨comp, c, k, h1, -, h3, h4, h5⟩ := Cond.arrayOver_spec h
  exact ⟨c, fun n z => ⟨(fun _ h => by cases h), k, h3, comp, h4⟩, k, comp, h3, h4, h1, h5⟩
theorem le_K (hts : ∀ w ∈ lw_tbl, w.before args s = true) : ∃ (dC : Nat → ClassId) (dI : Nat → Nat → Nat) (ca : Nat → ClassId), va_K (dC, dI) classes (ty_ ca) s := by
  have hg := le_ts hts
  obtain ⟨c0, i0, k0⟩ := u_known hg i_X0 (hg _ wk_in_X0)
  obtain ⟨c1, i1, k1⟩ := u_known hg i_X1 (hg _ wk_in_X1)
  obtain ⟨c2, i2, k2⟩ := u_known hg i_X2 (hg _ wk_in_X2)
  obtain ⟨c3, i3, k3⟩ := u_known hg i_X3 (hg _ wk_in_X3)
  obtain ⟨c5, i5, k5⟩ := u_known hg i_X5 (hg _ wk_in_X5)
  obtain ⟨c6, i6, k6⟩ := u_known hg i_X6 (hg _ wk_in_X6)
  obtain ⟨c7, i7, k7⟩ := u_known hg i_X7 (hg _ wk_in_X7)
  obtain ⟨c8, i8, k8⟩ := u_known hg i_X8 (hg _ wk_in_X8)
  obtain ⟨c9, i9, k9⟩ := u_known hg i_X9 (hg _ wk_in_X9)
  obtain ⟨c10, i10, k10⟩ := u_known hg i_X10 (hg _ wk_in_X10)
  obtain ⟨c11, i11, k11⟩ := u_known hg i_X11 (hg _ wk_in_X11)
  obtain ⟨c12, i12, k12⟩ := u_known hg i_X12 (hg _ wk_in_X12)
  obtain ⟨a0, b0⟩ := le_aB (hg _ wa_B)
  obtain ⟨a1, b1⟩ := le_aI (hg _ wa_I)
  obtain ⟨a2, b2⟩ := le_aJ (hg _ wa_J)
  obtain ⟨a3, b3⟩ := le_aO (C := "TalkChutes$State") (hts _ (tb_2 _ (List.mem_of_getElem? (i := 80) rfl)))
  obtain ⟨a4, b4⟩ := le_aO (C := "TalkChutes$Tray") (hts _ (tb_1 _ (List.mem_of_getElem? (i := 30) rfl)))
  refine ⟨fun c => [c0, c1, c2, c3, c9, c5, c6, c7, c8, c9, c10, c11, c12].getD c 0, fun c => [i0, i1, i2, i3, i9, i5, i6, i7, i8, i9, i10, i11, i12].getD c (fun _ => 0), fun c => [a0, a1, a2, a3, a4].getD c 0, ?_, ?_⟩
  · intro c q h
    match c, h with
    | 0, h => obtain rfl : (RX0, TX0, 10) = q := Option.some.inj h; exact k0
    | 1, h => obtain rfl : (RX1, TX1, 8) = q := Option.some.inj h; exact k1
    | 2, h => obtain rfl : (RX2, TX2, 15) = q := Option.some.inj h; exact k2
    | 3, h => obtain rfl : (RX3, TX3, 6) = q := Option.some.inj h; exact k3
    | 4, h => obtain rfl : (RX9, TX9, 3) = q := Option.some.inj h; exact k9
    | 5, h => obtain rfl : (RX5, TX5, 4) = q := Option.some.inj h; exact k5
    | 6, h => obtain rfl : (RX6, TX6, 2) = q := Option.some.inj h; exact k6
    | 7, h => obtain rfl : (RX7, TX7, 18) = q := Option.some.inj h; exact k7
    | 8, h => obtain rfl : (RX8, TX8, 13) = q := Option.some.inj h; exact k8
    | 9, h => obtain rfl : (RX9, TX9, 3) = q := Option.some.inj h; exact k9
    | 10, h => obtain rfl : (RX10, TX10, 4) = q := Option.some.inj h; exact k10
    | 11, h => obtain rfl : (RX11, TX11, 20) = q := Option.some.inj h; exact k11
    | 12, h => obtain rfl : (RX12, TX12, 49) = q := Option.some.inj h; exact k12
    | c + 13, h => exact absurd h (by simp)
  · intro c q h
    match c, h with
    | 0, h => obtain rfl : (a0, (.byte : FieldType)) = q := Option.some.inj h; exact b0
    | 1, h => obtain rfl : (a1, (.int : FieldType)) = q := Option.some.inj h; exact b1
    | 2, h => obtain rfl : (a2, (.long : FieldType)) = q := Option.some.inj h; exact b2
    | 3, h => obtain rfl : (a3, (.object "TalkChutes$State" : FieldType)) = q := Option.some.inj h; exact b3
    | 4, h => obtain rfl : (a4, (.object "TalkChutes$Tray" : FieldType)) = q := Option.some.inj h; exact b4
    | c + 5, h => exact absurd h (by simp)
theorem le_N (hts : ∀ w ∈ lw_tbl, w.before args s = true) : kc_N s := ⟨va_Nw.of (w := .methodLinkNest RX11 15 yX9_init RX11) rfl (hts _ (tb_1 _ (List.mem_of_getElem? (i := 32) rfl))), va_Nw.of (w := .methodLinkNest RX11 38 yX6_init RX11) rfl (hts _ (tb_1 _ (List.mem_of_getElem? (i := 151) rfl))), va_Nw.of (w := .methodLinkNest RX6 9 yX7_init RX11) rfl (hts _ (tb_1 _ (List.mem_of_getElem? (i := 157) rfl))), va_Nw.of (w := .methodLinkNest RX6 18 yX1_init RX11) rfl (hts _ (tb_2 _ (List.mem_of_getElem? (i := 26) rfl))), va_Nw.of (w := .methodLinkNest RX11 52 yX0_init RX11) rfl (hts _ (tb_2 _ (List.mem_of_getElem? (i := 83) rfl))), va_Nw.of (w := .methodLinkNest RX11 62 yX10_init RX11) rfl (hts _ (tb_2 _ (List.mem_of_getElem? (i := 126) rfl))), va_Nw.of (w := .methodLinkNest RX11 69 yX3_init RX11) rfl (hts _ (tb_2 _ (List.mem_of_getElem? (i := 145) rfl))), va_Nw.of (w := .methodLinkNest RX11 76 yX5_init RX11) rfl (hts _ (tb_2 _ (List.mem_of_getElem? (i := 171) rfl))), va_AO.of (hts _ (tb_1 _ (List.mem_of_getElem? (i := 30) rfl))), va_AO.of (hts _ (tb_2 _ (List.mem_of_getElem? (i := 80) rfl)))⟩
theorem le_el : ∀ j : Nat, j < 136 → (flatC (Jvm.Cond.and given_1 narrow_1))[37 + j]? = some (Cond.eq (.elem (.field (.string RX4 68) "java/lang/String" "value" "[B") (.int (Int32.ofNat j))) (.int (wordsB.getD j 0))) := by decide +kernel
theorem le_f4 : (flatC (Jvm.Cond.and given_1 narrow_1))[4]? = some (Cond.eq (.static "java/lang/String" "COMPACT_STRINGS" "Z") (.int 1)) := by decide +kernel
theorem le_f5 : (flatC (Jvm.Cond.and given_1 narrow_1))[5]? = some (Cond.isRef (.static "jdk/internal/util/Preconditions" "SIOOBE_FORMATTER" "Ljava/util/function/BiFunction;")) := by decide +kernel
theorem le_f33 : (flatC (Jvm.Cond.and given_1 narrow_1))[33]? = some (Cond.exactly (.string RX4 68) "java/lang/String") := by decide +kernel
theorem le_f34 : (flatC (Jvm.Cond.and given_1 narrow_1))[34]? = some (Cond.eq (.field (.string RX4 68) "java/lang/String" "coder" "B") (.int 0)) := by decide +kernel
theorem le_f35 : (flatC (Jvm.Cond.and given_1 narrow_1))[35]? = some (Cond.arrayOf (.field (.string RX4 68) "java/lang/String" "value" "[B") .byte) := by decide +kernel
theorem le_f36 : (flatC (Jvm.Cond.and given_1 narrow_1))[36]? = some (Cond.eq (.length (.field (.string RX4 68) "java/lang/String" "value" "[B")) (.int (Int32.ofNat 136))) := by decide +kernel
theorem le_G (hts : ∀ w ∈ lw_tbl, w.before args s = true) (h : (Jvm.Cond.and given_1 narrow_1).before args s = true) : tc_G (fun q => s.heap.size ≤ q) s := by
  have hs := flat_of_before _ h
  have hA : ∀ a : Nat, a < s.heap.size → ¬ (fun q => s.heap.size ≤ q) a := fun a h1 h2 => Nat.not_le.mpr h1 h2
  obtain ⟨adK, adV, h1, h2⟩ := vk_Sof (args := args) (s := s) (N := 1) (tm := fun _ => (.string RX4 68)) (len := [136]) (byt := [wordsB]) (A := fun q => s.heap.size ≤ q)
    (fun i hi => by obtain rfl : i = 0 := by omega
                    show 136 < 2 ^ 31
                    decide)
    (fun i hi => hs _ (List.mem_of_getElem? le_f33))
    (fun i hi => hs _ (List.mem_of_getElem? le_f34))
    (fun i hi => hs _ (List.mem_of_getElem? le_f35))
    (fun i hi => by obtain rfl : i = 0 := by omega
                    exact hs _ (List.mem_of_getElem? le_f36))
    (fun i hi j hj => by obtain rfl : i = 0 := by omega
                         exact hs _ (List.mem_of_getElem? (le_el j hj)))
    (fun i j hi hj hij => absurd (show i = j by omega) hij) hA
  refine ⟨adK 0, adV 0, vk_R.of (A := args) (hts _ (tb_3 _ (List.mem_of_getElem? (i := 119) rfl))) (h2 0 (by omega)), ⟨fun i hi => ?_, fun i j hi hj _ => by omega⟩, va_Zof (args := args) (hts _ (tb_3 _ (List.mem_of_getElem? (i := 129) rfl))) (le_ts hts _ wn_J0) (va_eqt (hs _ (List.mem_of_getElem? le_f4))) hA, va_Zqof (args := args) (hts _ (tb_3 _ (List.mem_of_getElem? (i := 145) rfl))) (le_ts hts _ wn_J3) (hs _ (List.mem_of_getElem? le_f5)) hA⟩
  obtain rfl : i = 0 := by omega
  exact h1.1 0 hi
end LS
