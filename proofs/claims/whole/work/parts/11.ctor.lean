theorem wa_I : Cond.arrayClass .int ∈ lw_g := lw_m (tb_1 _ (List.mem_of_getElem? (i := 148) rfl)) rfl
theorem wa_J : Cond.arrayClass .long ∈ lw_g := lw_m (tb_1 _ (List.mem_of_getElem? (i := 49) rfl)) rfl
theorem wa_B : Cond.arrayClass .byte ∈ lw_g := lw_m (tb_1 _ (List.mem_of_getElem? (i := 117) rfl)) rfl
theorem w_oi : Cond.instanceMethod objectInit ∈ lw_g := lw_m (tb_1 _ (List.mem_of_getElem? (i := 27) rfl)) rfl
theorem w_oc : Cond.code objectInit ⟨#[0xb1]⟩ 1 none ∈ lw_g := lw_m (tb_1 _ (List.mem_of_getElem? (i := 28) rfl)) rfl
theorem wo_X9_3 : Cond.methodLink RX9 3 objectInit ∈ lw_g := lw_m (tb_1 _ (List.mem_of_getElem? (i := 35) rfl)) rfl
theorem wo_X7_5 : Cond.methodLink RX7 5 objectInit ∈ lw_g := lw_m (tb_1 _ (List.mem_of_getElem? (i := 160) rfl)) rfl
theorem wo_X1_3 : Cond.methodLink RX1 3 objectInit ∈ lw_g := lw_m (tb_2 _ (List.mem_of_getElem? (i := 29) rfl)) rfl
theorem wo_X0_1 : Cond.methodLink RX0 1 objectInit ∈ lw_g := lw_m (tb_2 _ (List.mem_of_getElem? (i := 86) rfl)) rfl
theorem wo_X10_3 : Cond.methodLink RX10 3 objectInit ∈ lw_g := lw_m (tb_2 _ (List.mem_of_getElem? (i := 129) rfl)) rfl
theorem wo_X3_1 : Cond.methodLink RX3 1 objectInit ∈ lw_g := lw_m (tb_2 _ (List.mem_of_getElem? (i := 148) rfl)) rfl
theorem wo_X5_1 : Cond.methodLink RX5 1 objectInit ∈ lw_g := lw_m (tb_2 _ (List.mem_of_getElem? (i := 174) rfl)) rfl
def z0 : ms_T := (fun _ => 0, fun _ => 0, fun _ _ => 0, fun _ _ => 0)
def kc_N (U : State) : Prop := va_Nw (.methodLinkNest RX11 15 yX9_init RX11) U ∧ va_Nw (.methodLinkNest RX11 38 yX6_init RX11) U ∧ va_Nw (.methodLinkNest RX6 9 yX7_init RX11) U ∧ va_Nw (.methodLinkNest RX6 18 yX1_init RX11) U ∧ va_Nw (.methodLinkNest RX11 52 yX0_init RX11) U ∧ va_Nw (.methodLinkNest RX11 62 yX10_init RX11) U ∧ va_Nw (.methodLinkNest RX11 69 yX3_init RX11) U ∧ va_Nw (.methodLinkNest RX11 76 yX5_init RX11) U ∧ va_AO "TalkChutes$Tray" U ∧ va_AO "TalkChutes$State" U
theorem kc_N.same {u U : State} (h : u.vm = U.vm) (hN : kc_N u) : kc_N U := by
  obtain ⟨h1, h2, h3, h4, h5, h6, h7, h8, h9, h10⟩ := hN
  exact ⟨va_Nw.same rfl h h1, va_Nw.same rfl h h2, va_Nw.same rfl h h3, va_Nw.same rfl h h4, va_Nw.same rfl h h5, va_Nw.same rfl h h6, va_Nw.same rfl h h7, va_Nw.same rfl h h8, va_AO.moved (by rw [h]; exact Vm.Alike.refl _) h9, va_AO.moved (by rw [h]; exact Vm.Alike.refl _) h10⟩
theorem kc_N.go {s U : State} (hW : s.WarmedH U.vm) (hN : kc_N s) : kc_N U := by
  obtain ⟨h1, h2, h3, h4, h5, h6, h7, h8, h9, h10⟩ := hN
  exact ⟨va_Nw.warmM hW h1, va_Nw.warmM hW h2, va_Nw.warmM hW h3, va_Nw.warmM hW h4, va_Nw.warmM hW h5, va_Nw.warmM hW h6, va_Nw.warmM hW h7, va_Nw.warmM hW h8, va_AO.moved hW.alike h9, va_AO.moved hW.alike h10⟩
def kc_Pre (dC : Nat → ClassId) (dI : Nat → Nat → Nat) (ca : Nat → ClassId) (av : List Value) (w0 : va_W) (sz : Nat) : Array Value → State → Prop := fun v U => tc_Pre dC dI ca av w0 sz v U ∧ kc_N U
def kc_Q (dC : Nat → ClassId) (dI : Nat → Nat → Nat) (ca : Nat → ClassId) (A : Nat → Prop) (w1 : (Nat → Nat → Nat) → va_W) (P1 : (Nat → Nat → Nat) → Prop) := va_Qv P1 (fun q t => va_P (dC, dI) classes (w1 q) t.heap ∧ va_K (dC, dI) classes (ty_ ca) t ∧ va_D A (w1 q)) A
/-- a constructor: from the world w0 it comes to the world w1 of some new addresses; mc cells of ms slots are new -/
def kc_M (l : Launch) (dC : Nat → ClassId) (dI : Nat → Nat → Nat) (ca : Nat → ClassId) (y : MethodName) (cc : ByteArray) (nL : Nat) (rm : Room) (av : List Value) (w0 : va_W) (w1 : (Nat → Nat → Nat) → va_W) (P1 : (Nat → Nat → Nat) → Prop) (mc ms : Nat) : Prop :=
  ∀ sz, Met l y (wB y cc nL none) rm (kc_Pre dC dI ca av w0 sz) (kc_Q dC dI ca (va_A w0 sz) w1 P1) mc ms (va_A w0 sz)
theorem kc_blind {dC : Nat → ClassId} {dI : Nat → Nat → Nat} {ca : Nat → ClassId} {av : List Value} {w0 : va_W} {sz : Nat} : FrameBlind (kc_Pre dC dI ca av w0 sz) := fun a U g mk q => ⟨tc_blind a U g mk q.1, kc_N.same (u := U) (U := U.calling g mk a) rfl q.2⟩
section KC
variable {p : Program} {l : Launch} {e : Env} {R : Room} {s : State} {m : MethodId} {args : Array Value} {below : List Frame} {meth : Method} {c : Code} {H : Heap} {locs : List Loc} {cells slots : Nat} {Q : State → Prop}
variable {dC : Nat → ClassId} {dI : Nat → Nat → Nat} {ca : Nat → ClassId} {A : Nat → Prop} {own : String} {cc : ByteArray} {nL : Nat} {ret : Option FieldType}
variable {y : MethodName} {bytes : ByteArray} {maxL idx k mc ms : Nat} {rm : Room} {av As rest : List Value} {b : Nat} {ws wc wr w0 : va_W} {w1 : (Nat → Nat → Nat) → va_W} {P1 : (Nat → Nat → Nat) → Prop} {pc : Nat} {ls : Array Slot}
theorem kc_met (hy : plainName y.cls = true) (hcls : y.cls = own) (hnm : y.name = "<init>")
    (body : ∀ p e s m below meth c (A : Nat → Prop), tc_X dC dI ca A own cc nL none p s m av.toArray meth c → kc_N s → meth.name = "<init>" → va_P (dC, dI) classes w0 s.heap → va_D A w0 → va_S A s.heap s.heap [] → ∀ ls : Array Slot, lv_has ls nL (lv_args 0 av) →
      W p l e rm s m av.toArray below meth c s.heap [] 0 0 (MQ below (kc_Q dC dI ca A w1 P1) av.toArray s mc ms A) (F0 m 0 ls [])) (hlen : (lg_sl av).length ≤ nL) : kc_M l dC dI ca y cc nL rm av w0 w1 P1 mc ms := fun sz => by
  refine Met.ofW (cc := cc) (maxL := nL) (ret := none) hy rfl ?_
  intro p e s m args below meth c s₁ B hml hv
  obtain ⟨⟨rfl, hsz, hP, hK, hD0, hG⟩, hN⟩ := hv
  have hts := atoms_spec (ws := wB y cc nL none) B.pre
  have hown : s.vm.findClass y.cls = some m.cls := findClass_of_methodNamed B.named
  have hin : meth.name = y.name := (name_of_methodNamed B.named B.method).1
  rw [hnm] at hin
  subst hsz; subst hcls
  have hl := lv_entry av (n := nL) hlen
  rw [lg_entry_eq]
  exact body p e s m below meth c _ ⟨B.exec, B.bytes, B.returns, hml, hown, fun w h => hts w (List.mem_cons_of_mem _ h), B.notSynchronized, hK, fun q h => Or.inr h, hG⟩ hN hin hP (hD0.self (sz := s.heap.size)) va_S.rf _ hl
theorem kc_ret (X : tc_X dC dI ca A own cc nL none p s m args meth c) (hP : va_P (dC, dI) classes ws H) (hD : va_D A ws) (hS : va_S A s.heap H locs) (hd : decode cc pc = .ok (.return_, 1)) (q : Nat → Nat → Nat) (hw : ws = w1 q) (hq : P1 q) :
    W p l e R s m args below meth c H locs cells slots (MQ below (kc_Q dC dI ca A w1 P1) args s cells slots A) (F0 m pc ls []) := by
  obtain ⟨hx, hb, hr, hml, hown, hts, hlocks, hK, hA, hG⟩ := X
  subst hw
  exact W.vret hx hb hr (fun t ht hW => ⟨⟨q, rfl, hq, by rw [ht]; exact hP, va_K.moved hW.alike hK, hD⟩, hS.F ht⟩) hS.2.2 hd
theorem kc_obj (X : tc_X dC dI ca A own cc nL ret p s m args meth c) (hnl : ls.size = nL) (hlk : Cond.methodLink own idx objectInit ∈ lw_g) (hoi : Cond.instanceMethod objectInit ∈ lw_g) (hoc : Cond.code objectInit ⟨#[0xb1]⟩ 1 none ∈ lw_g) (hfr : 1 ≤ R.frames) (hlo : (rest.map fun v => v.category).sum + 12 ≤ R.locals) (hd : decode cc pc = .ok (.invokespecial idx, 3))
    (kk : W p l e R s m args below meth c H locs cells slots Q (F0 m (pc + 3) ls rest)) : W p l e R s m args below meth c H locs cells slots Q (F0 m pc ls (.ref b :: rest)) := by
  obtain ⟨hx, hb, hr, hml, hown, hts, hlocks, hK, hA, hG⟩ := X
  exact W.objInit hx hb hown (hts _ hlk) (hts _ hoi) (hts _ hoc) rfl (hnl.trans hml.symm) rfl hd hfr (by simpa [JFrame.monitorRoom] using hlo) kk
theorem kc_newI {n : Int32} {N : Nat} (X : tc_X dC dI ca A own cc nL ret p s m args meth c) (hP : va_P (dC, dI) classes ws H) (hD : va_D A ws) (hS : va_S A s.heap H locs) (hn : ¬ n < 0) (hN : n.toNatClampNeg = N) (hby : N * 4 ≤ 536870912) (hcells : cells + 1 ≤ R.cells) (hslots : slots + N ≤ R.slots) (hd : decode cc pc = .ok (.newarray .int, 2))
    (kk : ∀ (q : Nat) (H1 : Heap), va_P (dC, dI) classes (ws ++ [(q, .inl (ca 1, N, .inl (fun _ => 0)))]) H1 → va_D A (ws ++ [(q, .inl (ca 1, N, .inl (fun _ => 0)))]) → va_S A s.heap H1 locs → W p l e R s m args below meth c H1 locs (cells + 1) (slots + N) Q (F0 m (pc + 2) ls (.ref q :: rest))) :
    W p l e R s m args below meth c H locs cells slots Q (F0 m pc ls (.int n :: rest)) := by
  obtain ⟨hx, hb, hr, hml, hown, hts, hlocks, hK, hA, hG⟩ := X
  refine va_newa (atype := .int) (ty := .int) (a0 := (N, .inl (fun _ => 0))) hx hb (hts _ wa_I) rfl hK hP hD hS hA (fun cA => rfl) hn hN hby hcells hslots hd (fun q cA H1 hK1 hP1 hD1 hS1 => ?_)
  have h1 : s.vm.findClass _ = some cA := (hK1.2 5 (cA, .int) rfl).2
  have h2 : s.vm.findClass _ = some (ca 1) := (hK.2 1 (ca 1, .int) rfl).2
  have h3 : cA = ca 1 := Option.some.inj (h1.symm.trans h2)
  subst h3
  exact kk q H1 hP1 hD1 hS1
theorem kc_newJ {n : Int32} {N : Nat} (X : tc_X dC dI ca A own cc nL ret p s m args meth c) (hP : va_P (dC, dI) classes ws H) (hD : va_D A ws) (hS : va_S A s.heap H locs) (hn : ¬ n < 0) (hN : n.toNatClampNeg = N) (hby : N * 8 ≤ 536870912) (hcells : cells + 1 ≤ R.cells) (hslots : slots + N ≤ R.slots) (hd : decode cc pc = .ok (.newarray .long, 2))
    (kk : ∀ (q : Nat) (H1 : Heap), va_P (dC, dI) classes (ws ++ [(q, .inl (ca 2, N, .inr (.inl (fun _ => 0))))]) H1 → va_D A (ws ++ [(q, .inl (ca 2, N, .inr (.inl (fun _ => 0))))]) → va_S A s.heap H1 locs → W p l e R s m args below meth c H1 locs (cells + 1) (slots + N) Q (F0 m (pc + 2) ls (.ref q :: rest))) :
    W p l e R s m args below meth c H locs cells slots Q (F0 m pc ls (.int n :: rest)) := by
  obtain ⟨hx, hb, hr, hml, hown, hts, hlocks, hK, hA, hG⟩ := X
  refine va_newa (atype := .long) (ty := .long) (a0 := (N, .inr (.inl (fun _ => 0)))) hx hb (hts _ wa_J) rfl hK hP hD hS hA (fun cA => rfl) hn hN hby hcells hslots hd (fun q cA H1 hK1 hP1 hD1 hS1 => ?_)
  have h1 : s.vm.findClass _ = some cA := (hK1.2 5 (cA, .long) rfl).2
  have h2 : s.vm.findClass _ = some (ca 2) := (hK.2 2 (ca 2, .long) rfl).2
  have h3 : cA = ca 2 := Option.some.inj (h1.symm.trans h2)
  subst h3
  exact kk q H1 hP1 hD1 hS1
theorem kc_newB {n : Int32} {N : Nat} (X : tc_X dC dI ca A own cc nL ret p s m args meth c) (hP : va_P (dC, dI) classes ws H) (hD : va_D A ws) (hS : va_S A s.heap H locs) (hn : ¬ n < 0) (hN : n.toNatClampNeg = N) (hby : N * 1 ≤ 536870912) (hcells : cells + 1 ≤ R.cells) (hslots : slots + N ≤ R.slots) (hd : decode cc pc = .ok (.newarray .byte, 2))
    (kk : ∀ (q : Nat) (H1 : Heap), va_P (dC, dI) classes (ws ++ [(q, .inl (ca 0, N, .inl (fun _ => 0)))]) H1 → va_D A (ws ++ [(q, .inl (ca 0, N, .inl (fun _ => 0)))]) → va_S A s.heap H1 locs → W p l e R s m args below meth c H1 locs (cells + 1) (slots + N) Q (F0 m (pc + 2) ls (.ref q :: rest))) :
    W p l e R s m args below meth c H locs cells slots Q (F0 m pc ls (.int n :: rest)) := by
  obtain ⟨hx, hb, hr, hml, hown, hts, hlocks, hK, hA, hG⟩ := X
  refine va_newa (atype := .byte) (ty := .byte) (a0 := (N, .inl (fun _ => 0))) hx hb (hts _ wa_B) rfl hK hP hD hS hA (fun cA => rfl) hn hN hby hcells hslots hd (fun q cA H1 hK1 hP1 hD1 hS1 => ?_)
  have h1 : s.vm.findClass _ = some cA := (hK1.2 5 (cA, .byte) rfl).2
  have h2 : s.vm.findClass _ = some (ca 0) := (hK.2 0 (ca 0, .byte) rfl).2
  have h3 : cA = ca 0 := Option.some.inj (h1.symm.trans h2)
  subst h3
  exact kk q H1 hP1 hD1 hS1
theorem kc_pre (hK : va_K (dC, dI) classes (ty_ ca) s) (hPc : va_P (dC, dI) classes wc H) (hDc : va_D A wc) (hG : tc_G A s) (hN : kc_N s) (hS : va_S A s.heap H locs) (hFc : ∀ q, va_A wc H.size q → A q) : PreS s H (kc_Pre dC dI ca av wc H.size) av :=
  ⟨kc_blind, fun U hU hW => ⟨(tc_preS hK hPc hDc hG hS hFc).2 U hU hW, kc_N.go hW hN⟩⟩
/-- a constructor's call, its object being the world's last cell -/
theorem kc_call (nest : Bool) (X : tc_X dC dI ca A own cc nL ret p s m args meth c) (hN : kc_N s) (hP : va_P (dC, dI) classes (wr ++ wc) H) (hD : va_D A (wr ++ wc)) (hS : va_S A s.heap H locs)
    (hM : kc_M l dC dI ca y bytes maxL rm (.ref b :: As) wc w1 P1 mc ms) (ok : tc_ok y bytes maxL none k) (hlk : if nest then va_Nw (.methodLinkNest own idx y RX11) s else Cond.methodLink own idx y ∈ lw_g) (him : Cond.instanceMethod y ∈ lw_g) (hnm : y.name = "<init>")
    (hrc : rm.cells = mc) (hrs : rm.slots = ms) (hrm : rm.frames + 1 ≤ R.frames ∧ 8 + (maxL + 11) + rm.locals ≤ R.locals) (hk : As.length = k) (hnl : ls.size = nL) (hcat : (rest.map fun v => v.category).sum ≤ 8) (hf : cells + mc ≤ R.cells ∧ slots + ms ≤ R.slots) (hd : decode cc pc = .ok (.invokespecial idx, 3))
    (kk : ∀ (q : Nat → Nat → Nat) (H1 : Heap) (locs1 : List Loc), P1 q → va_P (dC, dI) classes (wr ++ w1 q) H1 → va_D A (wr ++ w1 q) → va_S A s.heap H1 locs1 → W p l e R s m args below meth c H1 locs1 (cells + mc) (slots + ms) Q (F0 m (pc + 3) ls rest)) :
    W p l e R s m args below meth c H locs cells slots Q (F0 m pc ls (As.reverse ++ .ref b :: rest)) := by
  obtain ⟨hx, hb, hr, hml, hown, hts, hlocks, hK, hA, hG⟩ := X
  obtain ⟨o1, o2, o3, o4, o5⟩ := ok
  obtain ⟨hC, hR, hnR, hnC, hdis⟩ := tc_app wr wc
  have hPc := hP.sub (ws' := wc) _ (tc_fm hC)
  have hDc := hD.sub (ws' := wc) _ hnC hC
  have hFc := va_free (wc := wc) hD hS hA _ hC
  have hpre : PreS s H (kc_Pre dC dI ca (.ref b :: As) wc H.size) (.ref b :: As) := kc_pre hK hPc hDc hG hN hS hFc
  have go : va_Run p l e R s m args below meth c H locs cells slots mc ms (F0 m pc ls (As.reverse ++ .ref b :: rest)) rest (kc_Q dC dI ca (va_A wc H.size) w1 P1 (Value.ref b :: As).toArray) (va_A wc H.size) := by
    cases nest with
    | true => exact va_runIN (As := As) (rest := rest) ⟨hx, hb, hml, hown, hts⟩ (hM H.size) ⟨va_cnB k hts (wB_good o1) rfl hrc hrs hlk (hts _ o2) ⟨o3, o4, o5⟩ hrm, hnm, hts _ him⟩ hpre rfl hk hnl rfl (lv_room hcat) hd hf
    | false => exact va_runI (As := As) (rest := rest) ⟨hx, hb, hml, hown, hts⟩ (hM H.size) ⟨callB_of k hts (wB_good o1) rfl hrc hrs (hts _ o2) (hts _ hlk) ⟨o3, o4, o5⟩ hrm, hnm, hts _ him⟩ hpre rfl hk hnl rfl (lv_room hcat) hd hf
  refine va_callv go hS (fun q _ h => hFc q h) hFc (fun u t H1 locs1 ht hvm hw hB hz1 hk1 hS1 => ?_)
  obtain ⟨hP1, hK1, hD1⟩ := hB
  rw [ht] at hP1
  obtain ⟨hP2, hD2⟩ := va_join (wr := wr) (w1 := w1 u) hP hD _ _ hC hR hnR hdis hk1 hFc hP1 hD1
  exact kk u H1 locs1 hw hP2 hD2 hS1
end KC
theorem dX9_init_0 : decode cX9_init 0 = .ok (.aload_n 0, 1) := by decide +kernel
theorem dX9_init_1 : decode cX9_init 1 = .ok (.invokespecial 3, 3) := by decide +kernel
theorem dX9_init_4 : decode cX9_init 4 = .ok (.aload_n 0, 1) := by decide +kernel
theorem dX9_init_5 : decode cX9_init 5 = .ok (.bipush 60, 2) := by decide +kernel
theorem dX9_init_7 : decode cX9_init 7 = .ok (.newarray .long, 2) := by decide +kernel
theorem dX9_init_9 : decode cX9_init 9 = .ok (.putfield 11, 3) := by decide +kernel
theorem dX9_init_12 : decode cX9_init 12 = .ok (.aload_n 0, 1) := by decide +kernel
theorem dX9_init_13 : decode cX9_init 13 = .ok (.iconst (-1), 1) := by decide +kernel
theorem dX9_init_14 : decode cX9_init 14 = .ok (.putfield 15, 3) := by decide +kernel
theorem dX9_init_17 : decode cX9_init 17 = .ok (.return_, 1) := by decide +kernel
theorem dX7_init_0 : decode cX7_init 0 = .ok (.aload_n 0, 1) := by decide +kernel
theorem dX7_init_1 : decode cX7_init 1 = .ok (.invokespecial 5, 3) := by decide +kernel
theorem dX7_init_4 : decode cX7_init 4 = .ok (.aload_n 0, 1) := by decide +kernel
theorem dX7_init_5 : decode cX7_init 5 = .ok (.iconst 4, 1) := by decide +kernel
theorem dX7_init_6 : decode cX7_init 6 = .ok (.putfield 11, 3) := by decide +kernel
theorem dX7_init_9 : decode cX7_init 9 = .ok (.aload_n 0, 1) := by decide +kernel
theorem dX7_init_10 : decode cX7_init 10 = .ok (.bipush 9, 2) := by decide +kernel
theorem dX7_init_12 : decode cX7_init 12 = .ok (.newarray .int, 2) := by decide +kernel
theorem dX7_init_14 : decode cX7_init 14 = .ok (.putfield 15, 3) := by decide +kernel
theorem dX7_init_17 : decode cX7_init 17 = .ok (.aload_n 0, 1) := by decide +kernel
theorem dX7_init_18 : decode cX7_init 18 = .ok (.bipush 9, 2) := by decide +kernel
theorem dX7_init_20 : decode cX7_init 20 = .ok (.newarray .int, 2) := by decide +kernel
theorem dX7_init_22 : decode cX7_init 22 = .ok (.putfield 19, 3) := by decide +kernel
theorem dX7_init_25 : decode cX7_init 25 = .ok (.aload_n 0, 1) := by decide +kernel
theorem dX7_init_26 : decode cX7_init 26 = .ok (.bipush 8, 2) := by decide +kernel
theorem dX7_init_28 : decode cX7_init 28 = .ok (.newarray .int, 2) := by decide +kernel
theorem dX7_init_30 : decode cX7_init 30 = .ok (.putfield 22, 3) := by decide +kernel
theorem dX7_init_33 : decode cX7_init 33 = .ok (.aload_n 0, 1) := by decide +kernel
theorem dX7_init_34 : decode cX7_init 34 = .ok (.bipush 8, 2) := by decide +kernel
theorem dX7_init_36 : decode cX7_init 36 = .ok (.newarray .int, 2) := by decide +kernel
theorem dX7_init_38 : decode cX7_init 38 = .ok (.putfield 25, 3) := by decide +kernel
theorem dX7_init_41 : decode cX7_init 41 = .ok (.aload_n 0, 1) := by decide +kernel
theorem dX7_init_42 : decode cX7_init 42 = .ok (.bipush 6, 2) := by decide +kernel
theorem dX7_init_44 : decode cX7_init 44 = .ok (.newarray .int, 2) := by decide +kernel
theorem dX7_init_46 : decode cX7_init 46 = .ok (.putfield 28, 3) := by decide +kernel
theorem dX7_init_49 : decode cX7_init 49 = .ok (.aload_n 0, 1) := by decide +kernel
theorem dX7_init_50 : decode cX7_init 50 = .ok (.bipush 6, 2) := by decide +kernel
theorem dX7_init_52 : decode cX7_init 52 = .ok (.newarray .int, 2) := by decide +kernel
theorem dX7_init_54 : decode cX7_init 54 = .ok (.putfield 31, 3) := by decide +kernel
theorem dX7_init_57 : decode cX7_init 57 = .ok (.aload_n 0, 1) := by decide +kernel
theorem dX7_init_58 : decode cX7_init 58 = .ok (.bipush 6, 2) := by decide +kernel
theorem dX7_init_60 : decode cX7_init 60 = .ok (.newarray .int, 2) := by decide +kernel
theorem dX7_init_62 : decode cX7_init 62 = .ok (.putfield 34, 3) := by decide +kernel
theorem dX7_init_65 : decode cX7_init 65 = .ok (.aload_n 0, 1) := by decide +kernel
theorem dX7_init_66 : decode cX7_init 66 = .ok (.bipush 10, 2) := by decide +kernel
theorem dX7_init_68 : decode cX7_init 68 = .ok (.newarray .int, 2) := by decide +kernel
theorem dX7_init_70 : decode cX7_init 70 = .ok (.putfield 37, 3) := by decide +kernel
theorem dX7_init_73 : decode cX7_init 73 = .ok (.aload_n 0, 1) := by decide +kernel
theorem dX7_init_74 : decode cX7_init 74 = .ok (.bipush 10, 2) := by decide +kernel
theorem dX7_init_76 : decode cX7_init 76 = .ok (.newarray .int, 2) := by decide +kernel
theorem dX7_init_78 : decode cX7_init 78 = .ok (.putfield 40, 3) := by decide +kernel
theorem dX7_init_81 : decode cX7_init 81 = .ok (.aload_n 0, 1) := by decide +kernel
theorem dX7_init_82 : decode cX7_init 82 = .ok (.bipush 23, 2) := by decide +kernel
theorem dX7_init_84 : decode cX7_init 84 = .ok (.newarray .long, 2) := by decide +kernel
theorem dX7_init_86 : decode cX7_init 86 = .ok (.putfield 43, 3) := by decide +kernel
theorem dX7_init_89 : decode cX7_init 89 = .ok (.return_, 1) := by decide +kernel
theorem dX1_init_0 : decode cX1_init 0 = .ok (.aload_n 0, 1) := by decide +kernel
theorem dX1_init_1 : decode cX1_init 1 = .ok (.invokespecial 3, 3) := by decide +kernel
theorem dX1_init_4 : decode cX1_init 4 = .ok (.aload_n 0, 1) := by decide +kernel
theorem dX1_init_5 : decode cX1_init 5 = .ok (.bipush 60, 2) := by decide +kernel
theorem dX1_init_7 : decode cX1_init 7 = .ok (.newarray .int, 2) := by decide +kernel
theorem dX1_init_9 : decode cX1_init 9 = .ok (.putfield 9, 3) := by decide +kernel
theorem dX1_init_12 : decode cX1_init 12 = .ok (.aload_n 0, 1) := by decide +kernel
theorem dX1_init_13 : decode cX1_init 13 = .ok (.bipush 60, 2) := by decide +kernel
theorem dX1_init_15 : decode cX1_init 15 = .ok (.newarray .int, 2) := by decide +kernel
theorem dX1_init_17 : decode cX1_init 17 = .ok (.putfield 13, 3) := by decide +kernel
theorem dX1_init_20 : decode cX1_init 20 = .ok (.aload_n 0, 1) := by decide +kernel
theorem dX1_init_21 : decode cX1_init 21 = .ok (.bipush 60, 2) := by decide +kernel
theorem dX1_init_23 : decode cX1_init 23 = .ok (.newarray .int, 2) := by decide +kernel
theorem dX1_init_25 : decode cX1_init 25 = .ok (.putfield 16, 3) := by decide +kernel
theorem dX1_init_28 : decode cX1_init 28 = .ok (.aload_n 0, 1) := by decide +kernel
theorem dX1_init_29 : decode cX1_init 29 = .ok (.bipush 60, 2) := by decide +kernel
theorem dX1_init_31 : decode cX1_init 31 = .ok (.newarray .int, 2) := by decide +kernel
theorem dX1_init_33 : decode cX1_init 33 = .ok (.putfield 19, 3) := by decide +kernel
theorem dX1_init_36 : decode cX1_init 36 = .ok (.aload_n 0, 1) := by decide +kernel
theorem dX1_init_37 : decode cX1_init 37 = .ok (.bipush 60, 2) := by decide +kernel
theorem dX1_init_39 : decode cX1_init 39 = .ok (.newarray .int, 2) := by decide +kernel
theorem dX1_init_41 : decode cX1_init 41 = .ok (.putfield 22, 3) := by decide +kernel
theorem dX1_init_44 : decode cX1_init 44 = .ok (.return_, 1) := by decide +kernel
theorem dX0_init_0 : decode cX0_init 0 = .ok (.aload_n 0, 1) := by decide +kernel
theorem dX0_init_1 : decode cX0_init 1 = .ok (.invokespecial 1, 3) := by decide +kernel
theorem dX0_init_4 : decode cX0_init 4 = .ok (.aload_n 0, 1) := by decide +kernel
theorem dX0_init_5 : decode cX0_init 5 = .ok (.bipush 60, 2) := by decide +kernel
theorem dX0_init_7 : decode cX0_init 7 = .ok (.newarray .int, 2) := by decide +kernel
theorem dX0_init_9 : decode cX0_init 9 = .ok (.putfield 9, 3) := by decide +kernel
theorem dX0_init_12 : decode cX0_init 12 = .ok (.return_, 1) := by decide +kernel
theorem dX10_init_0 : decode cX10_init 0 = .ok (.aload_n 0, 1) := by decide +kernel
theorem dX10_init_1 : decode cX10_init 1 = .ok (.invokespecial 3, 3) := by decide +kernel
theorem dX10_init_4 : decode cX10_init 4 = .ok (.aload_n 0, 1) := by decide +kernel
theorem dX10_init_5 : decode cX10_init 5 = .ok (.bipush 32, 2) := by decide +kernel
theorem dX10_init_7 : decode cX10_init 7 = .ok (.newarray .int, 2) := by decide +kernel
theorem dX10_init_9 : decode cX10_init 9 = .ok (.putfield 13, 3) := by decide +kernel
theorem dX10_init_12 : decode cX10_init 12 = .ok (.aload_n 0, 1) := by decide +kernel
theorem dX10_init_13 : decode cX10_init 13 = .ok (.bipush 10, 2) := by decide +kernel
theorem dX10_init_15 : decode cX10_init 15 = .ok (.newarray .int, 2) := by decide +kernel
theorem dX10_init_17 : decode cX10_init 17 = .ok (.putfield 17, 3) := by decide +kernel
theorem dX10_init_20 : decode cX10_init 20 = .ok (.return_, 1) := by decide +kernel
theorem dX3_init_0 : decode cX3_init 0 = .ok (.aload_n 0, 1) := by decide +kernel
theorem dX3_init_1 : decode cX3_init 1 = .ok (.invokespecial 1, 3) := by decide +kernel
theorem dX3_init_4 : decode cX3_init 4 = .ok (.aload_n 0, 1) := by decide +kernel
theorem dX3_init_5 : decode cX3_init 5 = .ok (.bipush 6, 2) := by decide +kernel
theorem dX3_init_7 : decode cX3_init 7 = .ok (.newarray .int, 2) := by decide +kernel
theorem dX3_init_9 : decode cX3_init 9 = .ok (.putfield 9, 3) := by decide +kernel
theorem dX3_init_12 : decode cX3_init 12 = .ok (.aload_n 0, 1) := by decide +kernel
theorem dX3_init_13 : decode cX3_init 13 = .ok (.bipush 6, 2) := by decide +kernel
theorem dX3_init_15 : decode cX3_init 15 = .ok (.newarray .int, 2) := by decide +kernel
theorem dX3_init_17 : decode cX3_init 17 = .ok (.putfield 15, 3) := by decide +kernel
theorem dX3_init_20 : decode cX3_init 20 = .ok (.aload_n 0, 1) := by decide +kernel
theorem dX3_init_21 : decode cX3_init 21 = .ok (.bipush 6, 2) := by decide +kernel
theorem dX3_init_23 : decode cX3_init 23 = .ok (.newarray .int, 2) := by decide +kernel
theorem dX3_init_25 : decode cX3_init 25 = .ok (.putfield 18, 3) := by decide +kernel
theorem dX3_init_28 : decode cX3_init 28 = .ok (.return_, 1) := by decide +kernel
theorem dX5_init_0 : decode cX5_init 0 = .ok (.aload_n 0, 1) := by decide +kernel
theorem dX5_init_1 : decode cX5_init 1 = .ok (.invokespecial 1, 3) := by decide +kernel
theorem dX5_init_4 : decode cX5_init 4 = .ok (.aload_n 0, 1) := by decide +kernel
theorem dX5_init_5 : decode cX5_init 5 = .ok (.bipush 10, 2) := by decide +kernel
theorem dX5_init_7 : decode cX5_init 7 = .ok (.newarray .long, 2) := by decide +kernel
theorem dX5_init_9 : decode cX5_init 9 = .ok (.putfield 9, 3) := by decide +kernel
theorem dX5_init_12 : decode cX5_init 12 = .ok (.aload_n 0, 1) := by decide +kernel
theorem dX5_init_13 : decode cX5_init 13 = .ok (.bipush 10, 2) := by decide +kernel
theorem dX5_init_15 : decode cX5_init 15 = .ok (.newarray .long, 2) := by decide +kernel
theorem dX5_init_17 : decode cX5_init 17 = .ok (.putfield 15, 3) := by decide +kernel
theorem dX5_init_20 : decode cX5_init 20 = .ok (.aload_n 0, 1) := by decide +kernel
theorem dX5_init_21 : decode cX5_init 21 = .ok (.bipush 10, 2) := by decide +kernel
theorem dX5_init_23 : decode cX5_init 23 = .ok (.newarray .long, 2) := by decide +kernel
theorem dX5_init_25 : decode cX5_init 25 = .ok (.putfield 18, 3) := by decide +kernel
theorem dX5_init_28 : decode cX5_init 28 = .ok (.aload_n 0, 1) := by decide +kernel
theorem dX5_init_29 : decode cX5_init 29 = .ok (.bipush 7, 2) := by decide +kernel
theorem dX5_init_31 : decode cX5_init 31 = .ok (.newarray .long, 2) := by decide +kernel
theorem dX5_init_33 : decode cX5_init 33 = .ok (.putfield 21, 3) := by decide +kernel
theorem dX5_init_36 : decode cX5_init 36 = .ok (.return_, 1) := by decide +kernel
section G
variable {p : Program} {l : Launch} {e : Env} {s : State} {m : MethodId} {args : Array Value} {below : List Frame} {meth : Method} {c : Code} {dC : Nat → ClassId} {dI : Nat → Nat → Nat} {ca : Nat → ClassId} {A : Nat → Prop}
theorem okX9_init : tc_ok yX9_init cX9_init 1 none 0 := ⟨wc_X9_init, wn_X9, by decide, by decide, by decide +kernel⟩
set_option maxRecDepth 20000 in
theorem kX9_init {h0 : Nat} : kc_M l dC dI ca yX9_init cX9_init 1 { frames := 1, cells := 1, slots := 60, locals := 20 } [.ref h0] [(h0, .inr (9, (.null :: .int 0 :: .int 0 :: [])))] (fun q => w9 ca (q 0) (si z0 2 (-1))) (fun q => q 0 0 = h0) 1 60 := by
  refine kc_met (own := RX9) (by decide) rfl rfl ?_ (Nat.le_of_ble_eq_true rfl)
  intro p e s m below meth c A X hN hin hP hD hS ls hl
  obtain ⟨hx, hb, hr, hml, hown, hts, hlk, hK, hA, hG⟩ := id X
  have hl : lv_has ls 1 [(0, .ref h0)] := hl
  refine lv_aload_n hx hb dX9_init_0 rfl (lv_at hl 0 rfl) ?_
  refine kc_obj (rest := []) X hl.1 wo_X9_3 w_oi w_oc (Nat.le_of_ble_eq_true rfl) (Nat.le_of_ble_eq_true rfl) dX9_init_1 ?_
  refine lv_aload_n hx hb dX9_init_4 rfl (lv_at hl 0 rfl) ?_
  refine lv_bipush (v := (60 : Int32)) hx hb dX9_init_5 (by decide) ?_
  refine kc_newJ (rest := [.ref h0]) X hP hD hS (by decide) (by decide : ((60 : Int32)).toNatClampNeg = 60) (by decide) (Nat.le_of_ble_eq_true rfl) (Nat.le_of_ble_eq_true rfl) dX9_init_7 (fun q1 H hP hD hS => ?_)
  have hP : va_P (dC, dI) classes ([(h0, .inr (9, (.null :: .int 0 :: .int 0 :: [])))] ++ [(q1, .inl (ca 2, 60, .inr (.inl (fun _ => 0))))]) H := hP
  have hD : va_D A ([(h0, .inr (9, (.null :: .int 0 :: .int 0 :: [])))] ++ [(q1, .inl (ca 2, 60, .inr (.inl (fun _ => 0))))]) := hD
  refine va_putF (D := (dC, dI)) (ci := 9) (v := .ref q1) (ty := .array .long) (C := RX9) (T := TX9) (N := 3) hx hb hts i_X9 tyX9 tyX9_ok nmX9 hown hK hP hD hS 0 rfl rfl 0 (by decide) (hts _ wf_X9_11) (fun _ h9 => h9) rfl hin rfl (tyX9_ok 0 (by decide)) rfl rfl (Nat.le_of_ble_eq_true rfl) dX9_init_9 (fun H locs hP hD hS => ?_)
  have hP : va_P (dC, dI) classes ([(h0, .inr (9, (.ref q1 :: .int 0 :: .int 0 :: [])))] ++ [(q1, .inl (ca 2, 60, .inr (.inl (fun _ => 0))))]) H := hP
  have hD : va_D A ([(h0, .inr (9, (.ref q1 :: .int 0 :: .int 0 :: [])))] ++ [(q1, .inl (ca 2, 60, .inr (.inl (fun _ => 0))))]) := hD
  refine lv_aload_n hx hb dX9_init_12 rfl (lv_at hl 0 rfl) ?_
  refine lv_iconst (v := (-1 : Int32)) hx hb dX9_init_13 (by decide) ?_
  refine va_put (D := (dC, dI)) (ci := 9) (v := .int (-1 : Int32)) (ty := .int) (C := RX9) (T := TX9) (N := 3) hx hb hts i_X9 tyX9 tyX9_ok nmX9 hown hK hP hD hS 0 rfl rfl 2 (by decide) (hts _ wf_X9_15) (fun _ h9 => h9) rfl (tyX9_ok 2 (by decide)) rfl rfl (Nat.le_of_ble_eq_true rfl) dX9_init_14 (fun H locs hP hD hS => ?_)
  have hP : va_P (dC, dI) classes ([(h0, .inr (9, (.ref q1 :: .int 0 :: .int (-1 : Int32) :: [])))] ++ [(q1, .inl (ca 2, 60, .inr (.inl (fun _ => 0))))]) H := hP
  have hD : va_D A ([(h0, .inr (9, (.ref q1 :: .int 0 :: .int (-1 : Int32) :: [])))] ++ [(q1, .inl (ca 2, 60, .inr (.inl (fun _ => 0))))]) := hD
  exact kc_ret X hP hD hS dX9_init_17 (fun _ i => if i = 0 then h0 else q1) rfl rfl
theorem okX7_init : tc_ok yX7_init cX7_init 1 none 0 := ⟨wc_X7_init, wn_X7, by decide, by decide, by decide +kernel⟩
set_option maxRecDepth 20000 in
theorem kX7_init {h0 : Nat} : kc_M l dC dI ca yX7_init cX7_init 1 { frames := 1, cells := 10, slots := 95, locals := 20 } [.ref h0] [(h0, .inr (7, (.int 0 :: .int 0 :: .null :: .null :: .int 0 :: .null :: .null :: .int 0 :: .int 0 :: .null :: .null :: .null :: .int 0 :: .int 0 :: .null :: .null :: .int 0 :: .null :: [])))] (fun q => w7 ca (q 0) (si z0 0 4)) (fun q => q 0 0 = h0) 10 95 := by
  refine kc_met (own := RX7) (by decide) rfl rfl ?_ (Nat.le_of_ble_eq_true rfl)
  intro p e s m below meth c A X hN hin hP hD hS ls hl
  obtain ⟨hx, hb, hr, hml, hown, hts, hlk, hK, hA, hG⟩ := id X
  have hl : lv_has ls 1 [(0, .ref h0)] := hl
  refine lv_aload_n hx hb dX7_init_0 rfl (lv_at hl 0 rfl) ?_
  refine kc_obj (rest := []) X hl.1 wo_X7_5 w_oi w_oc (Nat.le_of_ble_eq_true rfl) (Nat.le_of_ble_eq_true rfl) dX7_init_1 ?_
  refine lv_aload_n hx hb dX7_init_4 rfl (lv_at hl 0 rfl) ?_
  refine lv_iconst (v := (4 : Int32)) hx hb dX7_init_5 (by decide) ?_
  refine va_put (D := (dC, dI)) (ci := 7) (v := .int (4 : Int32)) (ty := .int) (C := RX7) (T := TX7) (N := 18) hx hb hts i_X7 tyX7 tyX7_ok nmX7 hown hK hP hD hS 0 rfl rfl 0 (by decide) (hts _ wf_X7_11) (fun _ h9 => h9) rfl (tyX7_ok 0 (by decide)) rfl rfl (Nat.le_of_ble_eq_true rfl) dX7_init_6 (fun H locs hP hD hS => ?_)
  have hP : va_P (dC, dI) classes ([(h0, .inr (7, (.int (4 : Int32) :: .int 0 :: .null :: .null :: .int 0 :: .null :: .null :: .int 0 :: .int 0 :: .null :: .null :: .null :: .int 0 :: .int 0 :: .null :: .null :: .int 0 :: .null :: [])))]) H := hP
  have hD : va_D A ([(h0, .inr (7, (.int (4 : Int32) :: .int 0 :: .null :: .null :: .int 0 :: .null :: .null :: .int 0 :: .int 0 :: .null :: .null :: .null :: .int 0 :: .int 0 :: .null :: .null :: .int 0 :: .null :: [])))]) := hD
  refine lv_aload_n hx hb dX7_init_9 rfl (lv_at hl 0 rfl) ?_
  refine lv_bipush (v := (9 : Int32)) hx hb dX7_init_10 (by decide) ?_
  refine kc_newI (rest := [.ref h0]) X hP hD hS (by decide) (by decide : ((9 : Int32)).toNatClampNeg = 9) (by decide) (Nat.le_of_ble_eq_true rfl) (Nat.le_of_ble_eq_true rfl) dX7_init_12 (fun q1 H hP hD hS => ?_)
  have hP : va_P (dC, dI) classes ([(h0, .inr (7, (.int (4 : Int32) :: .int 0 :: .null :: .null :: .int 0 :: .null :: .null :: .int 0 :: .int 0 :: .null :: .null :: .null :: .int 0 :: .int 0 :: .null :: .null :: .int 0 :: .null :: [])))] ++ [(q1, .inl (ca 1, 9, .inl (fun _ => 0)))]) H := hP
  have hD : va_D A ([(h0, .inr (7, (.int (4 : Int32) :: .int 0 :: .null :: .null :: .int 0 :: .null :: .null :: .int 0 :: .int 0 :: .null :: .null :: .null :: .int 0 :: .int 0 :: .null :: .null :: .int 0 :: .null :: [])))] ++ [(q1, .inl (ca 1, 9, .inl (fun _ => 0)))]) := hD
  refine va_putF (D := (dC, dI)) (ci := 7) (v := .ref q1) (ty := .array .int) (C := RX7) (T := TX7) (N := 18) hx hb hts i_X7 tyX7 tyX7_ok nmX7 hown hK hP hD hS 0 rfl rfl 2 (by decide) (hts _ wf_X7_15) (fun _ h9 => h9) rfl hin rfl (tyX7_ok 2 (by decide)) rfl rfl (Nat.le_of_ble_eq_true rfl) dX7_init_14 (fun H locs hP hD hS => ?_)
  have hP : va_P (dC, dI) classes ([(h0, .inr (7, (.int (4 : Int32) :: .int 0 :: .ref q1 :: .null :: .int 0 :: .null :: .null :: .int 0 :: .int 0 :: .null :: .null :: .null :: .int 0 :: .int 0 :: .null :: .null :: .int 0 :: .null :: [])))] ++ [(q1, .inl (ca 1, 9, .inl (fun _ => 0)))]) H := hP
  have hD : va_D A ([(h0, .inr (7, (.int (4 : Int32) :: .int 0 :: .ref q1 :: .null :: .int 0 :: .null :: .null :: .int 0 :: .int 0 :: .null :: .null :: .null :: .int 0 :: .int 0 :: .null :: .null :: .int 0 :: .null :: [])))] ++ [(q1, .inl (ca 1, 9, .inl (fun _ => 0)))]) := hD
  refine lv_aload_n hx hb dX7_init_17 rfl (lv_at hl 0 rfl) ?_
  refine lv_bipush (v := (9 : Int32)) hx hb dX7_init_18 (by decide) ?_
  refine kc_newI (rest := [.ref h0]) X hP hD hS (by decide) (by decide : ((9 : Int32)).toNatClampNeg = 9) (by decide) (Nat.le_of_ble_eq_true rfl) (Nat.le_of_ble_eq_true rfl) dX7_init_20 (fun q2 H hP hD hS => ?_)
  have hP : va_P (dC, dI) classes ([(h0, .inr (7, (.int (4 : Int32) :: .int 0 :: .ref q1 :: .null :: .int 0 :: .null :: .null :: .int 0 :: .int 0 :: .null :: .null :: .null :: .int 0 :: .int 0 :: .null :: .null :: .int 0 :: .null :: [])))] ++ [(q1, .inl (ca 1, 9, .inl (fun _ => 0)))] ++ [(q2, .inl (ca 1, 9, .inl (fun _ => 0)))]) H := hP
  have hD : va_D A ([(h0, .inr (7, (.int (4 : Int32) :: .int 0 :: .ref q1 :: .null :: .int 0 :: .null :: .null :: .int 0 :: .int 0 :: .null :: .null :: .null :: .int 0 :: .int 0 :: .null :: .null :: .int 0 :: .null :: [])))] ++ [(q1, .inl (ca 1, 9, .inl (fun _ => 0)))] ++ [(q2, .inl (ca 1, 9, .inl (fun _ => 0)))]) := hD
  refine va_putF (D := (dC, dI)) (ci := 7) (v := .ref q2) (ty := .array .int) (C := RX7) (T := TX7) (N := 18) hx hb hts i_X7 tyX7 tyX7_ok nmX7 hown hK hP hD hS 0 rfl rfl 3 (by decide) (hts _ wf_X7_19) (fun _ h9 => h9) rfl hin rfl (tyX7_ok 3 (by decide)) rfl rfl (Nat.le_of_ble_eq_true rfl) dX7_init_22 (fun H locs hP hD hS => ?_)
  have hP : va_P (dC, dI) classes ([(h0, .inr (7, (.int (4 : Int32) :: .int 0 :: .ref q1 :: .ref q2 :: .int 0 :: .null :: .null :: .int 0 :: .int 0 :: .null :: .null :: .null :: .int 0 :: .int 0 :: .null :: .null :: .int 0 :: .null :: [])))] ++ [(q1, .inl (ca 1, 9, .inl (fun _ => 0)))] ++ [(q2, .inl (ca 1, 9, .inl (fun _ => 0)))]) H := hP
  have hD : va_D A ([(h0, .inr (7, (.int (4 : Int32) :: .int 0 :: .ref q1 :: .ref q2 :: .int 0 :: .null :: .null :: .int 0 :: .int 0 :: .null :: .null :: .null :: .int 0 :: .int 0 :: .null :: .null :: .int 0 :: .null :: [])))] ++ [(q1, .inl (ca 1, 9, .inl (fun _ => 0)))] ++ [(q2, .inl (ca 1, 9, .inl (fun _ => 0)))]) := hD
  refine lv_aload_n hx hb dX7_init_25 rfl (lv_at hl 0 rfl) ?_
  refine lv_bipush (v := (8 : Int32)) hx hb dX7_init_26 (by decide) ?_
  refine kc_newI (rest := [.ref h0]) X hP hD hS (by decide) (by decide : ((8 : Int32)).toNatClampNeg = 8) (by decide) (Nat.le_of_ble_eq_true rfl) (Nat.le_of_ble_eq_true rfl) dX7_init_28 (fun q3 H hP hD hS => ?_)
  have hP : va_P (dC, dI) classes ([(h0, .inr (7, (.int (4 : Int32) :: .int 0 :: .ref q1 :: .ref q2 :: .int 0 :: .null :: .null :: .int 0 :: .int 0 :: .null :: .null :: .null :: .int 0 :: .int 0 :: .null :: .null :: .int 0 :: .null :: [])))] ++ [(q1, .inl (ca 1, 9, .inl (fun _ => 0)))] ++ [(q2, .inl (ca 1, 9, .inl (fun _ => 0)))] ++ [(q3, .inl (ca 1, 8, .inl (fun _ => 0)))]) H := hP
  have hD : va_D A ([(h0, .inr (7, (.int (4 : Int32) :: .int 0 :: .ref q1 :: .ref q2 :: .int 0 :: .null :: .null :: .int 0 :: .int 0 :: .null :: .null :: .null :: .int 0 :: .int 0 :: .null :: .null :: .int 0 :: .null :: [])))] ++ [(q1, .inl (ca 1, 9, .inl (fun _ => 0)))] ++ [(q2, .inl (ca 1, 9, .inl (fun _ => 0)))] ++ [(q3, .inl (ca 1, 8, .inl (fun _ => 0)))]) := hD
  refine va_putF (D := (dC, dI)) (ci := 7) (v := .ref q3) (ty := .array .int) (C := RX7) (T := TX7) (N := 18) hx hb hts i_X7 tyX7 tyX7_ok nmX7 hown hK hP hD hS 0 rfl rfl 5 (by decide) (hts _ wf_X7_22) (fun _ h9 => h9) rfl hin rfl (tyX7_ok 5 (by decide)) rfl rfl (Nat.le_of_ble_eq_true rfl) dX7_init_30 (fun H locs hP hD hS => ?_)
  have hP : va_P (dC, dI) classes ([(h0, .inr (7, (.int (4 : Int32) :: .int 0 :: .ref q1 :: .ref q2 :: .int 0 :: .ref q3 :: .null :: .int 0 :: .int 0 :: .null :: .null :: .null :: .int 0 :: .int 0 :: .null :: .null :: .int 0 :: .null :: [])))] ++ [(q1, .inl (ca 1, 9, .inl (fun _ => 0)))] ++ [(q2, .inl (ca 1, 9, .inl (fun _ => 0)))] ++ [(q3, .inl (ca 1, 8, .inl (fun _ => 0)))]) H := hP
  have hD : va_D A ([(h0, .inr (7, (.int (4 : Int32) :: .int 0 :: .ref q1 :: .ref q2 :: .int 0 :: .ref q3 :: .null :: .int 0 :: .int 0 :: .null :: .null :: .null :: .int 0 :: .int 0 :: .null :: .null :: .int 0 :: .null :: [])))] ++ [(q1, .inl (ca 1, 9, .inl (fun _ => 0)))] ++ [(q2, .inl (ca 1, 9, .inl (fun _ => 0)))] ++ [(q3, .inl (ca 1, 8, .inl (fun _ => 0)))]) := hD
  refine lv_aload_n hx hb dX7_init_33 rfl (lv_at hl 0 rfl) ?_
  refine lv_bipush (v := (8 : Int32)) hx hb dX7_init_34 (by decide) ?_
  refine kc_newI (rest := [.ref h0]) X hP hD hS (by decide) (by decide : ((8 : Int32)).toNatClampNeg = 8) (by decide) (Nat.le_of_ble_eq_true rfl) (Nat.le_of_ble_eq_true rfl) dX7_init_36 (fun q4 H hP hD hS => ?_)
  have hP : va_P (dC, dI) classes ([(h0, .inr (7, (.int (4 : Int32) :: .int 0 :: .ref q1 :: .ref q2 :: .int 0 :: .ref q3 :: .null :: .int 0 :: .int 0 :: .null :: .null :: .null :: .int 0 :: .int 0 :: .null :: .null :: .int 0 :: .null :: [])))] ++ [(q1, .inl (ca 1, 9, .inl (fun _ => 0)))] ++ [(q2, .inl (ca 1, 9, .inl (fun _ => 0)))] ++ [(q3, .inl (ca 1, 8, .inl (fun _ => 0)))] ++ [(q4, .inl (ca 1, 8, .inl (fun _ => 0)))]) H := hP
  have hD : va_D A ([(h0, .inr (7, (.int (4 : Int32) :: .int 0 :: .ref q1 :: .ref q2 :: .int 0 :: .ref q3 :: .null :: .int 0 :: .int 0 :: .null :: .null :: .null :: .int 0 :: .int 0 :: .null :: .null :: .int 0 :: .null :: [])))] ++ [(q1, .inl (ca 1, 9, .inl (fun _ => 0)))] ++ [(q2, .inl (ca 1, 9, .inl (fun _ => 0)))] ++ [(q3, .inl (ca 1, 8, .inl (fun _ => 0)))] ++ [(q4, .inl (ca 1, 8, .inl (fun _ => 0)))]) := hD
  refine va_putF (D := (dC, dI)) (ci := 7) (v := .ref q4) (ty := .array .int) (C := RX7) (T := TX7) (N := 18) hx hb hts i_X7 tyX7 tyX7_ok nmX7 hown hK hP hD hS 0 rfl rfl 6 (by decide) (hts _ wf_X7_25) (fun _ h9 => h9) rfl hin rfl (tyX7_ok 6 (by decide)) rfl rfl (Nat.le_of_ble_eq_true rfl) dX7_init_38 (fun H locs hP hD hS => ?_)
  have hP : va_P (dC, dI) classes ([(h0, .inr (7, (.int (4 : Int32) :: .int 0 :: .ref q1 :: .ref q2 :: .int 0 :: .ref q3 :: .ref q4 :: .int 0 :: .int 0 :: .null :: .null :: .null :: .int 0 :: .int 0 :: .null :: .null :: .int 0 :: .null :: [])))] ++ [(q1, .inl (ca 1, 9, .inl (fun _ => 0)))] ++ [(q2, .inl (ca 1, 9, .inl (fun _ => 0)))] ++ [(q3, .inl (ca 1, 8, .inl (fun _ => 0)))] ++ [(q4, .inl (ca 1, 8, .inl (fun _ => 0)))]) H := hP
  have hD : va_D A ([(h0, .inr (7, (.int (4 : Int32) :: .int 0 :: .ref q1 :: .ref q2 :: .int 0 :: .ref q3 :: .ref q4 :: .int 0 :: .int 0 :: .null :: .null :: .null :: .int 0 :: .int 0 :: .null :: .null :: .int 0 :: .null :: [])))] ++ [(q1, .inl (ca 1, 9, .inl (fun _ => 0)))] ++ [(q2, .inl (ca 1, 9, .inl (fun _ => 0)))] ++ [(q3, .inl (ca 1, 8, .inl (fun _ => 0)))] ++ [(q4, .inl (ca 1, 8, .inl (fun _ => 0)))]) := hD
  refine lv_aload_n hx hb dX7_init_41 rfl (lv_at hl 0 rfl) ?_
  refine lv_bipush (v := (6 : Int32)) hx hb dX7_init_42 (by decide) ?_
  refine kc_newI (rest := [.ref h0]) X hP hD hS (by decide) (by decide : ((6 : Int32)).toNatClampNeg = 6) (by decide) (Nat.le_of_ble_eq_true rfl) (Nat.le_of_ble_eq_true rfl) dX7_init_44 (fun q5 H hP hD hS => ?_)
  have hP : va_P (dC, dI) classes ([(h0, .inr (7, (.int (4 : Int32) :: .int 0 :: .ref q1 :: .ref q2 :: .int 0 :: .ref q3 :: .ref q4 :: .int 0 :: .int 0 :: .null :: .null :: .null :: .int 0 :: .int 0 :: .null :: .null :: .int 0 :: .null :: [])))] ++ [(q1, .inl (ca 1, 9, .inl (fun _ => 0)))] ++ [(q2, .inl (ca 1, 9, .inl (fun _ => 0)))] ++ [(q3, .inl (ca 1, 8, .inl (fun _ => 0)))] ++ [(q4, .inl (ca 1, 8, .inl (fun _ => 0)))] ++ [(q5, .inl (ca 1, 6, .inl (fun _ => 0)))]) H := hP
  have hD : va_D A ([(h0, .inr (7, (.int (4 : Int32) :: .int 0 :: .ref q1 :: .ref q2 :: .int 0 :: .ref q3 :: .ref q4 :: .int 0 :: .int 0 :: .null :: .null :: .null :: .int 0 :: .int 0 :: .null :: .null :: .int 0 :: .null :: [])))] ++ [(q1, .inl (ca 1, 9, .inl (fun _ => 0)))] ++ [(q2, .inl (ca 1, 9, .inl (fun _ => 0)))] ++ [(q3, .inl (ca 1, 8, .inl (fun _ => 0)))] ++ [(q4, .inl (ca 1, 8, .inl (fun _ => 0)))] ++ [(q5, .inl (ca 1, 6, .inl (fun _ => 0)))]) := hD
  refine va_putF (D := (dC, dI)) (ci := 7) (v := .ref q5) (ty := .array .int) (C := RX7) (T := TX7) (N := 18) hx hb hts i_X7 tyX7 tyX7_ok nmX7 hown hK hP hD hS 0 rfl rfl 9 (by decide) (hts _ wf_X7_28) (fun _ h9 => h9) rfl hin rfl (tyX7_ok 9 (by decide)) rfl rfl (Nat.le_of_ble_eq_true rfl) dX7_init_46 (fun H locs hP hD hS => ?_)
  have hP : va_P (dC, dI) classes ([(h0, .inr (7, (.int (4 : Int32) :: .int 0 :: .ref q1 :: .ref q2 :: .int 0 :: .ref q3 :: .ref q4 :: .int 0 :: .int 0 :: .ref q5 :: .null :: .null :: .int 0 :: .int 0 :: .null :: .null :: .int 0 :: .null :: [])))] ++ [(q1, .inl (ca 1, 9, .inl (fun _ => 0)))] ++ [(q2, .inl (ca 1, 9, .inl (fun _ => 0)))] ++ [(q3, .inl (ca 1, 8, .inl (fun _ => 0)))] ++ [(q4, .inl (ca 1, 8, .inl (fun _ => 0)))] ++ [(q5, .inl (ca 1, 6, .inl (fun _ => 0)))]) H := hP
  have hD : va_D A ([(h0, .inr (7, (.int (4 : Int32) :: .int 0 :: .ref q1 :: .ref q2 :: .int 0 :: .ref q3 :: .ref q4 :: .int 0 :: .int 0 :: .ref q5 :: .null :: .null :: .int 0 :: .int 0 :: .null :: .null :: .int 0 :: .null :: [])))] ++ [(q1, .inl (ca 1, 9, .inl (fun _ => 0)))] ++ [(q2, .inl (ca 1, 9, .inl (fun _ => 0)))] ++ [(q3, .inl (ca 1, 8, .inl (fun _ => 0)))] ++ [(q4, .inl (ca 1, 8, .inl (fun _ => 0)))] ++ [(q5, .inl (ca 1, 6, .inl (fun _ => 0)))]) := hD
  refine lv_aload_n hx hb dX7_init_49 rfl (lv_at hl 0 rfl) ?_
  refine lv_bipush (v := (6 : Int32)) hx hb dX7_init_50 (by decide) ?_
  refine kc_newI (rest := [.ref h0]) X hP hD hS (by decide) (by decide : ((6 : Int32)).toNatClampNeg = 6) (by decide) (Nat.le_of_ble_eq_true rfl) (Nat.le_of_ble_eq_true rfl) dX7_init_52 (fun q6 H hP hD hS => ?_)
  have hP : va_P (dC, dI) classes ([(h0, .inr (7, (.int (4 : Int32) :: .int 0 :: .ref q1 :: .ref q2 :: .int 0 :: .ref q3 :: .ref q4 :: .int 0 :: .int 0 :: .ref q5 :: .null :: .null :: .int 0 :: .int 0 :: .null :: .null :: .int 0 :: .null :: [])))] ++ [(q1, .inl (ca 1, 9, .inl (fun _ => 0)))] ++ [(q2, .inl (ca 1, 9, .inl (fun _ => 0)))] ++ [(q3, .inl (ca 1, 8, .inl (fun _ => 0)))] ++ [(q4, .inl (ca 1, 8, .inl (fun _ => 0)))] ++ [(q5, .inl (ca 1, 6, .inl (fun _ => 0)))] ++ [(q6, .inl (ca 1, 6, .inl (fun _ => 0)))]) H := hP
  have hD : va_D A ([(h0, .inr (7, (.int (4 : Int32) :: .int 0 :: .ref q1 :: .ref q2 :: .int 0 :: .ref q3 :: .ref q4 :: .int 0 :: .int 0 :: .ref q5 :: .null :: .null :: .int 0 :: .int 0 :: .null :: .null :: .int 0 :: .null :: [])))] ++ [(q1, .inl (ca 1, 9, .inl (fun _ => 0)))] ++ [(q2, .inl (ca 1, 9, .inl (fun _ => 0)))] ++ [(q3, .inl (ca 1, 8, .inl (fun _ => 0)))] ++ [(q4, .inl (ca 1, 8, .inl (fun _ => 0)))] ++ [(q5, .inl (ca 1, 6, .inl (fun _ => 0)))] ++ [(q6, .inl (ca 1, 6, .inl (fun _ => 0)))]) := hD
  refine va_putF (D := (dC, dI)) (ci := 7) (v := .ref q6) (ty := .array .int) (C := RX7) (T := TX7) (N := 18) hx hb hts i_X7 tyX7 tyX7_ok nmX7 hown hK hP hD hS 0 rfl rfl 10 (by decide) (hts _ wf_X7_31) (fun _ h9 => h9) rfl hin rfl (tyX7_ok 10 (by decide)) rfl rfl (Nat.le_of_ble_eq_true rfl) dX7_init_54 (fun H locs hP hD hS => ?_)
  have hP : va_P (dC, dI) classes ([(h0, .inr (7, (.int (4 : Int32) :: .int 0 :: .ref q1 :: .ref q2 :: .int 0 :: .ref q3 :: .ref q4 :: .int 0 :: .int 0 :: .ref q5 :: .ref q6 :: .null :: .int 0 :: .int 0 :: .null :: .null :: .int 0 :: .null :: [])))] ++ [(q1, .inl (ca 1, 9, .inl (fun _ => 0)))] ++ [(q2, .inl (ca 1, 9, .inl (fun _ => 0)))] ++ [(q3, .inl (ca 1, 8, .inl (fun _ => 0)))] ++ [(q4, .inl (ca 1, 8, .inl (fun _ => 0)))] ++ [(q5, .inl (ca 1, 6, .inl (fun _ => 0)))] ++ [(q6, .inl (ca 1, 6, .inl (fun _ => 0)))]) H := hP
  have hD : va_D A ([(h0, .inr (7, (.int (4 : Int32) :: .int 0 :: .ref q1 :: .ref q2 :: .int 0 :: .ref q3 :: .ref q4 :: .int 0 :: .int 0 :: .ref q5 :: .ref q6 :: .null :: .int 0 :: .int 0 :: .null :: .null :: .int 0 :: .null :: [])))] ++ [(q1, .inl (ca 1, 9, .inl (fun _ => 0)))] ++ [(q2, .inl (ca 1, 9, .inl (fun _ => 0)))] ++ [(q3, .inl (ca 1, 8, .inl (fun _ => 0)))] ++ [(q4, .inl (ca 1, 8, .inl (fun _ => 0)))] ++ [(q5, .inl (ca 1, 6, .inl (fun _ => 0)))] ++ [(q6, .inl (ca 1, 6, .inl (fun _ => 0)))]) := hD
  refine lv_aload_n hx hb dX7_init_57 rfl (lv_at hl 0 rfl) ?_
  refine lv_bipush (v := (6 : Int32)) hx hb dX7_init_58 (by decide) ?_
  refine kc_newI (rest := [.ref h0]) X hP hD hS (by decide) (by decide : ((6 : Int32)).toNatClampNeg = 6) (by decide) (Nat.le_of_ble_eq_true rfl) (Nat.le_of_ble_eq_true rfl) dX7_init_60 (fun q7 H hP hD hS => ?_)
  have hP : va_P (dC, dI) classes ([(h0, .inr (7, (.int (4 : Int32) :: .int 0 :: .ref q1 :: .ref q2 :: .int 0 :: .ref q3 :: .ref q4 :: .int 0 :: .int 0 :: .ref q5 :: .ref q6 :: .null :: .int 0 :: .int 0 :: .null :: .null :: .int 0 :: .null :: [])))] ++ [(q1, .inl (ca 1, 9, .inl (fun _ => 0)))] ++ [(q2, .inl (ca 1, 9, .inl (fun _ => 0)))] ++ [(q3, .inl (ca 1, 8, .inl (fun _ => 0)))] ++ [(q4, .inl (ca 1, 8, .inl (fun _ => 0)))] ++ [(q5, .inl (ca 1, 6, .inl (fun _ => 0)))] ++ [(q6, .inl (ca 1, 6, .inl (fun _ => 0)))] ++ [(q7, .inl (ca 1, 6, .inl (fun _ => 0)))]) H := hP
  have hD : va_D A ([(h0, .inr (7, (.int (4 : Int32) :: .int 0 :: .ref q1 :: .ref q2 :: .int 0 :: .ref q3 :: .ref q4 :: .int 0 :: .int 0 :: .ref q5 :: .ref q6 :: .null :: .int 0 :: .int 0 :: .null :: .null :: .int 0 :: .null :: [])))] ++ [(q1, .inl (ca 1, 9, .inl (fun _ => 0)))] ++ [(q2, .inl (ca 1, 9, .inl (fun _ => 0)))] ++ [(q3, .inl (ca 1, 8, .inl (fun _ => 0)))] ++ [(q4, .inl (ca 1, 8, .inl (fun _ => 0)))] ++ [(q5, .inl (ca 1, 6, .inl (fun _ => 0)))] ++ [(q6, .inl (ca 1, 6, .inl (fun _ => 0)))] ++ [(q7, .inl (ca 1, 6, .inl (fun _ => 0)))]) := hD
  refine va_putF (D := (dC, dI)) (ci := 7) (v := .ref q7) (ty := .array .int) (C := RX7) (T := TX7) (N := 18) hx hb hts i_X7 tyX7 tyX7_ok nmX7 hown hK hP hD hS 0 rfl rfl 11 (by decide) (hts _ wf_X7_34) (fun _ h9 => h9) rfl hin rfl (tyX7_ok 11 (by decide)) rfl rfl (Nat.le_of_ble_eq_true rfl) dX7_init_62 (fun H locs hP hD hS => ?_)
  have hP : va_P (dC, dI) classes ([(h0, .inr (7, (.int (4 : Int32) :: .int 0 :: .ref q1 :: .ref q2 :: .int 0 :: .ref q3 :: .ref q4 :: .int 0 :: .int 0 :: .ref q5 :: .ref q6 :: .ref q7 :: .int 0 :: .int 0 :: .null :: .null :: .int 0 :: .null :: [])))] ++ [(q1, .inl (ca 1, 9, .inl (fun _ => 0)))] ++ [(q2, .inl (ca 1, 9, .inl (fun _ => 0)))] ++ [(q3, .inl (ca 1, 8, .inl (fun _ => 0)))] ++ [(q4, .inl (ca 1, 8, .inl (fun _ => 0)))] ++ [(q5, .inl (ca 1, 6, .inl (fun _ => 0)))] ++ [(q6, .inl (ca 1, 6, .inl (fun _ => 0)))] ++ [(q7, .inl (ca 1, 6, .inl (fun _ => 0)))]) H := hP
  have hD : va_D A ([(h0, .inr (7, (.int (4 : Int32) :: .int 0 :: .ref q1 :: .ref q2 :: .int 0 :: .ref q3 :: .ref q4 :: .int 0 :: .int 0 :: .ref q5 :: .ref q6 :: .ref q7 :: .int 0 :: .int 0 :: .null :: .null :: .int 0 :: .null :: [])))] ++ [(q1, .inl (ca 1, 9, .inl (fun _ => 0)))] ++ [(q2, .inl (ca 1, 9, .inl (fun _ => 0)))] ++ [(q3, .inl (ca 1, 8, .inl (fun _ => 0)))] ++ [(q4, .inl (ca 1, 8, .inl (fun _ => 0)))] ++ [(q5, .inl (ca 1, 6, .inl (fun _ => 0)))] ++ [(q6, .inl (ca 1, 6, .inl (fun _ => 0)))] ++ [(q7, .inl (ca 1, 6, .inl (fun _ => 0)))]) := hD
  refine lv_aload_n hx hb dX7_init_65 rfl (lv_at hl 0 rfl) ?_
  refine lv_bipush (v := (10 : Int32)) hx hb dX7_init_66 (by decide) ?_
  refine kc_newI (rest := [.ref h0]) X hP hD hS (by decide) (by decide : ((10 : Int32)).toNatClampNeg = 10) (by decide) (Nat.le_of_ble_eq_true rfl) (Nat.le_of_ble_eq_true rfl) dX7_init_68 (fun q8 H hP hD hS => ?_)
  have hP : va_P (dC, dI) classes ([(h0, .inr (7, (.int (4 : Int32) :: .int 0 :: .ref q1 :: .ref q2 :: .int 0 :: .ref q3 :: .ref q4 :: .int 0 :: .int 0 :: .ref q5 :: .ref q6 :: .ref q7 :: .int 0 :: .int 0 :: .null :: .null :: .int 0 :: .null :: [])))] ++ [(q1, .inl (ca 1, 9, .inl (fun _ => 0)))] ++ [(q2, .inl (ca 1, 9, .inl (fun _ => 0)))] ++ [(q3, .inl (ca 1, 8, .inl (fun _ => 0)))] ++ [(q4, .inl (ca 1, 8, .inl (fun _ => 0)))] ++ [(q5, .inl (ca 1, 6, .inl (fun _ => 0)))] ++ [(q6, .inl (ca 1, 6, .inl (fun _ => 0)))] ++ [(q7, .inl (ca 1, 6, .inl (fun _ => 0)))] ++ [(q8, .inl (ca 1, 10, .inl (fun _ => 0)))]) H := hP
  have hD : va_D A ([(h0, .inr (7, (.int (4 : Int32) :: .int 0 :: .ref q1 :: .ref q2 :: .int 0 :: .ref q3 :: .ref q4 :: .int 0 :: .int 0 :: .ref q5 :: .ref q6 :: .ref q7 :: .int 0 :: .int 0 :: .null :: .null :: .int 0 :: .null :: [])))] ++ [(q1, .inl (ca 1, 9, .inl (fun _ => 0)))] ++ [(q2, .inl (ca 1, 9, .inl (fun _ => 0)))] ++ [(q3, .inl (ca 1, 8, .inl (fun _ => 0)))] ++ [(q4, .inl (ca 1, 8, .inl (fun _ => 0)))] ++ [(q5, .inl (ca 1, 6, .inl (fun _ => 0)))] ++ [(q6, .inl (ca 1, 6, .inl (fun _ => 0)))] ++ [(q7, .inl (ca 1, 6, .inl (fun _ => 0)))] ++ [(q8, .inl (ca 1, 10, .inl (fun _ => 0)))]) := hD
  refine va_putF (D := (dC, dI)) (ci := 7) (v := .ref q8) (ty := .array .int) (C := RX7) (T := TX7) (N := 18) hx hb hts i_X7 tyX7 tyX7_ok nmX7 hown hK hP hD hS 0 rfl rfl 14 (by decide) (hts _ wf_X7_37) (fun _ h9 => h9) rfl hin rfl (tyX7_ok 14 (by decide)) rfl rfl (Nat.le_of_ble_eq_true rfl) dX7_init_70 (fun H locs hP hD hS => ?_)
  have hP : va_P (dC, dI) classes ([(h0, .inr (7, (.int (4 : Int32) :: .int 0 :: .ref q1 :: .ref q2 :: .int 0 :: .ref q3 :: .ref q4 :: .int 0 :: .int 0 :: .ref q5 :: .ref q6 :: .ref q7 :: .int 0 :: .int 0 :: .ref q8 :: .null :: .int 0 :: .null :: [])))] ++ [(q1, .inl (ca 1, 9, .inl (fun _ => 0)))] ++ [(q2, .inl (ca 1, 9, .inl (fun _ => 0)))] ++ [(q3, .inl (ca 1, 8, .inl (fun _ => 0)))] ++ [(q4, .inl (ca 1, 8, .inl (fun _ => 0)))] ++ [(q5, .inl (ca 1, 6, .inl (fun _ => 0)))] ++ [(q6, .inl (ca 1, 6, .inl (fun _ => 0)))] ++ [(q7, .inl (ca 1, 6, .inl (fun _ => 0)))] ++ [(q8, .inl (ca 1, 10, .inl (fun _ => 0)))]) H := hP
  have hD : va_D A ([(h0, .inr (7, (.int (4 : Int32) :: .int 0 :: .ref q1 :: .ref q2 :: .int 0 :: .ref q3 :: .ref q4 :: .int 0 :: .int 0 :: .ref q5 :: .ref q6 :: .ref q7 :: .int 0 :: .int 0 :: .ref q8 :: .null :: .int 0 :: .null :: [])))] ++ [(q1, .inl (ca 1, 9, .inl (fun _ => 0)))] ++ [(q2, .inl (ca 1, 9, .inl (fun _ => 0)))] ++ [(q3, .inl (ca 1, 8, .inl (fun _ => 0)))] ++ [(q4, .inl (ca 1, 8, .inl (fun _ => 0)))] ++ [(q5, .inl (ca 1, 6, .inl (fun _ => 0)))] ++ [(q6, .inl (ca 1, 6, .inl (fun _ => 0)))] ++ [(q7, .inl (ca 1, 6, .inl (fun _ => 0)))] ++ [(q8, .inl (ca 1, 10, .inl (fun _ => 0)))]) := hD
  refine lv_aload_n hx hb dX7_init_73 rfl (lv_at hl 0 rfl) ?_
  refine lv_bipush (v := (10 : Int32)) hx hb dX7_init_74 (by decide) ?_
  refine kc_newI (rest := [.ref h0]) X hP hD hS (by decide) (by decide : ((10 : Int32)).toNatClampNeg = 10) (by decide) (Nat.le_of_ble_eq_true rfl) (Nat.le_of_ble_eq_true rfl) dX7_init_76 (fun q9 H hP hD hS => ?_)
  have hP : va_P (dC, dI) classes ([(h0, .inr (7, (.int (4 : Int32) :: .int 0 :: .ref q1 :: .ref q2 :: .int 0 :: .ref q3 :: .ref q4 :: .int 0 :: .int 0 :: .ref q5 :: .ref q6 :: .ref q7 :: .int 0 :: .int 0 :: .ref q8 :: .null :: .int 0 :: .null :: [])))] ++ [(q1, .inl (ca 1, 9, .inl (fun _ => 0)))] ++ [(q2, .inl (ca 1, 9, .inl (fun _ => 0)))] ++ [(q3, .inl (ca 1, 8, .inl (fun _ => 0)))] ++ [(q4, .inl (ca 1, 8, .inl (fun _ => 0)))] ++ [(q5, .inl (ca 1, 6, .inl (fun _ => 0)))] ++ [(q6, .inl (ca 1, 6, .inl (fun _ => 0)))] ++ [(q7, .inl (ca 1, 6, .inl (fun _ => 0)))] ++ [(q8, .inl (ca 1, 10, .inl (fun _ => 0)))] ++ [(q9, .inl (ca 1, 10, .inl (fun _ => 0)))]) H := hP
  have hD : va_D A ([(h0, .inr (7, (.int (4 : Int32) :: .int 0 :: .ref q1 :: .ref q2 :: .int 0 :: .ref q3 :: .ref q4 :: .int 0 :: .int 0 :: .ref q5 :: .ref q6 :: .ref q7 :: .int 0 :: .int 0 :: .ref q8 :: .null :: .int 0 :: .null :: [])))] ++ [(q1, .inl (ca 1, 9, .inl (fun _ => 0)))] ++ [(q2, .inl (ca 1, 9, .inl (fun _ => 0)))] ++ [(q3, .inl (ca 1, 8, .inl (fun _ => 0)))] ++ [(q4, .inl (ca 1, 8, .inl (fun _ => 0)))] ++ [(q5, .inl (ca 1, 6, .inl (fun _ => 0)))] ++ [(q6, .inl (ca 1, 6, .inl (fun _ => 0)))] ++ [(q7, .inl (ca 1, 6, .inl (fun _ => 0)))] ++ [(q8, .inl (ca 1, 10, .inl (fun _ => 0)))] ++ [(q9, .inl (ca 1, 10, .inl (fun _ => 0)))]) := hD
  refine va_putF (D := (dC, dI)) (ci := 7) (v := .ref q9) (ty := .array .int) (C := RX7) (T := TX7) (N := 18) hx hb hts i_X7 tyX7 tyX7_ok nmX7 hown hK hP hD hS 0 rfl rfl 15 (by decide) (hts _ wf_X7_40) (fun _ h9 => h9) rfl hin rfl (tyX7_ok 15 (by decide)) rfl rfl (Nat.le_of_ble_eq_true rfl) dX7_init_78 (fun H locs hP hD hS => ?_)
  have hP : va_P (dC, dI) classes ([(h0, .inr (7, (.int (4 : Int32) :: .int 0 :: .ref q1 :: .ref q2 :: .int 0 :: .ref q3 :: .ref q4 :: .int 0 :: .int 0 :: .ref q5 :: .ref q6 :: .ref q7 :: .int 0 :: .int 0 :: .ref q8 :: .ref q9 :: .int 0 :: .null :: [])))] ++ [(q1, .inl (ca 1, 9, .inl (fun _ => 0)))] ++ [(q2, .inl (ca 1, 9, .inl (fun _ => 0)))] ++ [(q3, .inl (ca 1, 8, .inl (fun _ => 0)))] ++ [(q4, .inl (ca 1, 8, .inl (fun _ => 0)))] ++ [(q5, .inl (ca 1, 6, .inl (fun _ => 0)))] ++ [(q6, .inl (ca 1, 6, .inl (fun _ => 0)))] ++ [(q7, .inl (ca 1, 6, .inl (fun _ => 0)))] ++ [(q8, .inl (ca 1, 10, .inl (fun _ => 0)))] ++ [(q9, .inl (ca 1, 10, .inl (fun _ => 0)))]) H := hP
  have hD : va_D A ([(h0, .inr (7, (.int (4 : Int32) :: .int 0 :: .ref q1 :: .ref q2 :: .int 0 :: .ref q3 :: .ref q4 :: .int 0 :: .int 0 :: .ref q5 :: .ref q6 :: .ref q7 :: .int 0 :: .int 0 :: .ref q8 :: .ref q9 :: .int 0 :: .null :: [])))] ++ [(q1, .inl (ca 1, 9, .inl (fun _ => 0)))] ++ [(q2, .inl (ca 1, 9, .inl (fun _ => 0)))] ++ [(q3, .inl (ca 1, 8, .inl (fun _ => 0)))] ++ [(q4, .inl (ca 1, 8, .inl (fun _ => 0)))] ++ [(q5, .inl (ca 1, 6, .inl (fun _ => 0)))] ++ [(q6, .inl (ca 1, 6, .inl (fun _ => 0)))] ++ [(q7, .inl (ca 1, 6, .inl (fun _ => 0)))] ++ [(q8, .inl (ca 1, 10, .inl (fun _ => 0)))] ++ [(q9, .inl (ca 1, 10, .inl (fun _ => 0)))]) := hD
  refine lv_aload_n hx hb dX7_init_81 rfl (lv_at hl 0 rfl) ?_
  refine lv_bipush (v := (23 : Int32)) hx hb dX7_init_82 (by decide) ?_
  refine kc_newJ (rest := [.ref h0]) X hP hD hS (by decide) (by decide : ((23 : Int32)).toNatClampNeg = 23) (by decide) (Nat.le_of_ble_eq_true rfl) (Nat.le_of_ble_eq_true rfl) dX7_init_84 (fun q10 H hP hD hS => ?_)
  have hP : va_P (dC, dI) classes ([(h0, .inr (7, (.int (4 : Int32) :: .int 0 :: .ref q1 :: .ref q2 :: .int 0 :: .ref q3 :: .ref q4 :: .int 0 :: .int 0 :: .ref q5 :: .ref q6 :: .ref q7 :: .int 0 :: .int 0 :: .ref q8 :: .ref q9 :: .int 0 :: .null :: [])))] ++ [(q1, .inl (ca 1, 9, .inl (fun _ => 0)))] ++ [(q2, .inl (ca 1, 9, .inl (fun _ => 0)))] ++ [(q3, .inl (ca 1, 8, .inl (fun _ => 0)))] ++ [(q4, .inl (ca 1, 8, .inl (fun _ => 0)))] ++ [(q5, .inl (ca 1, 6, .inl (fun _ => 0)))] ++ [(q6, .inl (ca 1, 6, .inl (fun _ => 0)))] ++ [(q7, .inl (ca 1, 6, .inl (fun _ => 0)))] ++ [(q8, .inl (ca 1, 10, .inl (fun _ => 0)))] ++ [(q9, .inl (ca 1, 10, .inl (fun _ => 0)))] ++ [(q10, .inl (ca 2, 23, .inr (.inl (fun _ => 0))))]) H := hP
  have hD : va_D A ([(h0, .inr (7, (.int (4 : Int32) :: .int 0 :: .ref q1 :: .ref q2 :: .int 0 :: .ref q3 :: .ref q4 :: .int 0 :: .int 0 :: .ref q5 :: .ref q6 :: .ref q7 :: .int 0 :: .int 0 :: .ref q8 :: .ref q9 :: .int 0 :: .null :: [])))] ++ [(q1, .inl (ca 1, 9, .inl (fun _ => 0)))] ++ [(q2, .inl (ca 1, 9, .inl (fun _ => 0)))] ++ [(q3, .inl (ca 1, 8, .inl (fun _ => 0)))] ++ [(q4, .inl (ca 1, 8, .inl (fun _ => 0)))] ++ [(q5, .inl (ca 1, 6, .inl (fun _ => 0)))] ++ [(q6, .inl (ca 1, 6, .inl (fun _ => 0)))] ++ [(q7, .inl (ca 1, 6, .inl (fun _ => 0)))] ++ [(q8, .inl (ca 1, 10, .inl (fun _ => 0)))] ++ [(q9, .inl (ca 1, 10, .inl (fun _ => 0)))] ++ [(q10, .inl (ca 2, 23, .inr (.inl (fun _ => 0))))]) := hD
  refine va_putF (D := (dC, dI)) (ci := 7) (v := .ref q10) (ty := .array .long) (C := RX7) (T := TX7) (N := 18) hx hb hts i_X7 tyX7 tyX7_ok nmX7 hown hK hP hD hS 0 rfl rfl 17 (by decide) (hts _ wf_X7_43) (fun _ h9 => h9) rfl hin rfl (tyX7_ok 17 (by decide)) rfl rfl (Nat.le_of_ble_eq_true rfl) dX7_init_86 (fun H locs hP hD hS => ?_)
  have hP : va_P (dC, dI) classes ([(h0, .inr (7, (.int (4 : Int32) :: .int 0 :: .ref q1 :: .ref q2 :: .int 0 :: .ref q3 :: .ref q4 :: .int 0 :: .int 0 :: .ref q5 :: .ref q6 :: .ref q7 :: .int 0 :: .int 0 :: .ref q8 :: .ref q9 :: .int 0 :: .ref q10 :: [])))] ++ [(q1, .inl (ca 1, 9, .inl (fun _ => 0)))] ++ [(q2, .inl (ca 1, 9, .inl (fun _ => 0)))] ++ [(q3, .inl (ca 1, 8, .inl (fun _ => 0)))] ++ [(q4, .inl (ca 1, 8, .inl (fun _ => 0)))] ++ [(q5, .inl (ca 1, 6, .inl (fun _ => 0)))] ++ [(q6, .inl (ca 1, 6, .inl (fun _ => 0)))] ++ [(q7, .inl (ca 1, 6, .inl (fun _ => 0)))] ++ [(q8, .inl (ca 1, 10, .inl (fun _ => 0)))] ++ [(q9, .inl (ca 1, 10, .inl (fun _ => 0)))] ++ [(q10, .inl (ca 2, 23, .inr (.inl (fun _ => 0))))]) H := hP
  have hD : va_D A ([(h0, .inr (7, (.int (4 : Int32) :: .int 0 :: .ref q1 :: .ref q2 :: .int 0 :: .ref q3 :: .ref q4 :: .int 0 :: .int 0 :: .ref q5 :: .ref q6 :: .ref q7 :: .int 0 :: .int 0 :: .ref q8 :: .ref q9 :: .int 0 :: .ref q10 :: [])))] ++ [(q1, .inl (ca 1, 9, .inl (fun _ => 0)))] ++ [(q2, .inl (ca 1, 9, .inl (fun _ => 0)))] ++ [(q3, .inl (ca 1, 8, .inl (fun _ => 0)))] ++ [(q4, .inl (ca 1, 8, .inl (fun _ => 0)))] ++ [(q5, .inl (ca 1, 6, .inl (fun _ => 0)))] ++ [(q6, .inl (ca 1, 6, .inl (fun _ => 0)))] ++ [(q7, .inl (ca 1, 6, .inl (fun _ => 0)))] ++ [(q8, .inl (ca 1, 10, .inl (fun _ => 0)))] ++ [(q9, .inl (ca 1, 10, .inl (fun _ => 0)))] ++ [(q10, .inl (ca 2, 23, .inr (.inl (fun _ => 0))))]) := hD
  exact kc_ret X hP hD hS dX7_init_89 (fun _ i => if i = 0 then h0 else if i = 1 then q1 else if i = 2 then q2 else if i = 3 then q3 else if i = 4 then q4 else if i = 5 then q5 else if i = 6 then q6 else if i = 7 then q7 else if i = 8 then q8 else if i = 9 then q9 else q10) rfl rfl
theorem okX1_init : tc_ok yX1_init cX1_init 1 none 0 := ⟨wc_X1_init, wn_X1, by decide, by decide, by decide +kernel⟩
set_option maxRecDepth 20000 in
theorem kX1_init {h0 : Nat} : kc_M l dC dI ca yX1_init cX1_init 1 { frames := 1, cells := 5, slots := 300, locals := 20 } [.ref h0] [(h0, .inr (1, (.int 0 :: .int 0 :: .int 0 :: .null :: .null :: .null :: .null :: .null :: [])))] (fun q => w1 ca (q 0) z0) (fun q => q 0 0 = h0) 5 300 := by
  refine kc_met (own := RX1) (by decide) rfl rfl ?_ (Nat.le_of_ble_eq_true rfl)
  intro p e s m below meth c A X hN hin hP hD hS ls hl
  obtain ⟨hx, hb, hr, hml, hown, hts, hlk, hK, hA, hG⟩ := id X
  have hl : lv_has ls 1 [(0, .ref h0)] := hl
  refine lv_aload_n hx hb dX1_init_0 rfl (lv_at hl 0 rfl) ?_
  refine kc_obj (rest := []) X hl.1 wo_X1_3 w_oi w_oc (Nat.le_of_ble_eq_true rfl) (Nat.le_of_ble_eq_true rfl) dX1_init_1 ?_
  refine lv_aload_n hx hb dX1_init_4 rfl (lv_at hl 0 rfl) ?_
  refine lv_bipush (v := (60 : Int32)) hx hb dX1_init_5 (by decide) ?_
  refine kc_newI (rest := [.ref h0]) X hP hD hS (by decide) (by decide : ((60 : Int32)).toNatClampNeg = 60) (by decide) (Nat.le_of_ble_eq_true rfl) (Nat.le_of_ble_eq_true rfl) dX1_init_7 (fun q1 H hP hD hS => ?_)
  have hP : va_P (dC, dI) classes ([(h0, .inr (1, (.int 0 :: .int 0 :: .int 0 :: .null :: .null :: .null :: .null :: .null :: [])))] ++ [(q1, .inl (ca 1, 60, .inl (fun _ => 0)))]) H := hP
  have hD : va_D A ([(h0, .inr (1, (.int 0 :: .int 0 :: .int 0 :: .null :: .null :: .null :: .null :: .null :: [])))] ++ [(q1, .inl (ca 1, 60, .inl (fun _ => 0)))]) := hD
  refine va_putF (D := (dC, dI)) (ci := 1) (v := .ref q1) (ty := .array .int) (C := RX1) (T := TX1) (N := 8) hx hb hts i_X1 tyX1 tyX1_ok nmX1 hown hK hP hD hS 0 rfl rfl 3 (by decide) (hts _ wf_X1_9) (fun _ h9 => h9) rfl hin rfl (tyX1_ok 3 (by decide)) rfl rfl (Nat.le_of_ble_eq_true rfl) dX1_init_9 (fun H locs hP hD hS => ?_)
  have hP : va_P (dC, dI) classes ([(h0, .inr (1, (.int 0 :: .int 0 :: .int 0 :: .ref q1 :: .null :: .null :: .null :: .null :: [])))] ++ [(q1, .inl (ca 1, 60, .inl (fun _ => 0)))]) H := hP
  have hD : va_D A ([(h0, .inr (1, (.int 0 :: .int 0 :: .int 0 :: .ref q1 :: .null :: .null :: .null :: .null :: [])))] ++ [(q1, .inl (ca 1, 60, .inl (fun _ => 0)))]) := hD
  refine lv_aload_n hx hb dX1_init_12 rfl (lv_at hl 0 rfl) ?_
  refine lv_bipush (v := (60 : Int32)) hx hb dX1_init_13 (by decide) ?_
  refine kc_newI (rest := [.ref h0]) X hP hD hS (by decide) (by decide : ((60 : Int32)).toNatClampNeg = 60) (by decide) (Nat.le_of_ble_eq_true rfl) (Nat.le_of_ble_eq_true rfl) dX1_init_15 (fun q2 H hP hD hS => ?_)
  have hP : va_P (dC, dI) classes ([(h0, .inr (1, (.int 0 :: .int 0 :: .int 0 :: .ref q1 :: .null :: .null :: .null :: .null :: [])))] ++ [(q1, .inl (ca 1, 60, .inl (fun _ => 0)))] ++ [(q2, .inl (ca 1, 60, .inl (fun _ => 0)))]) H := hP
  have hD : va_D A ([(h0, .inr (1, (.int 0 :: .int 0 :: .int 0 :: .ref q1 :: .null :: .null :: .null :: .null :: [])))] ++ [(q1, .inl (ca 1, 60, .inl (fun _ => 0)))] ++ [(q2, .inl (ca 1, 60, .inl (fun _ => 0)))]) := hD
  refine va_putF (D := (dC, dI)) (ci := 1) (v := .ref q2) (ty := .array .int) (C := RX1) (T := TX1) (N := 8) hx hb hts i_X1 tyX1 tyX1_ok nmX1 hown hK hP hD hS 0 rfl rfl 4 (by decide) (hts _ wf_X1_13) (fun _ h9 => h9) rfl hin rfl (tyX1_ok 4 (by decide)) rfl rfl (Nat.le_of_ble_eq_true rfl) dX1_init_17 (fun H locs hP hD hS => ?_)
  have hP : va_P (dC, dI) classes ([(h0, .inr (1, (.int 0 :: .int 0 :: .int 0 :: .ref q1 :: .ref q2 :: .null :: .null :: .null :: [])))] ++ [(q1, .inl (ca 1, 60, .inl (fun _ => 0)))] ++ [(q2, .inl (ca 1, 60, .inl (fun _ => 0)))]) H := hP
  have hD : va_D A ([(h0, .inr (1, (.int 0 :: .int 0 :: .int 0 :: .ref q1 :: .ref q2 :: .null :: .null :: .null :: [])))] ++ [(q1, .inl (ca 1, 60, .inl (fun _ => 0)))] ++ [(q2, .inl (ca 1, 60, .inl (fun _ => 0)))]) := hD
  refine lv_aload_n hx hb dX1_init_20 rfl (lv_at hl 0 rfl) ?_
  refine lv_bipush (v := (60 : Int32)) hx hb dX1_init_21 (by decide) ?_
  refine kc_newI (rest := [.ref h0]) X hP hD hS (by decide) (by decide : ((60 : Int32)).toNatClampNeg = 60) (by decide) (Nat.le_of_ble_eq_true rfl) (Nat.le_of_ble_eq_true rfl) dX1_init_23 (fun q3 H hP hD hS => ?_)
  have hP : va_P (dC, dI) classes ([(h0, .inr (1, (.int 0 :: .int 0 :: .int 0 :: .ref q1 :: .ref q2 :: .null :: .null :: .null :: [])))] ++ [(q1, .inl (ca 1, 60, .inl (fun _ => 0)))] ++ [(q2, .inl (ca 1, 60, .inl (fun _ => 0)))] ++ [(q3, .inl (ca 1, 60, .inl (fun _ => 0)))]) H := hP
  have hD : va_D A ([(h0, .inr (1, (.int 0 :: .int 0 :: .int 0 :: .ref q1 :: .ref q2 :: .null :: .null :: .null :: [])))] ++ [(q1, .inl (ca 1, 60, .inl (fun _ => 0)))] ++ [(q2, .inl (ca 1, 60, .inl (fun _ => 0)))] ++ [(q3, .inl (ca 1, 60, .inl (fun _ => 0)))]) := hD
  refine va_putF (D := (dC, dI)) (ci := 1) (v := .ref q3) (ty := .array .int) (C := RX1) (T := TX1) (N := 8) hx hb hts i_X1 tyX1 tyX1_ok nmX1 hown hK hP hD hS 0 rfl rfl 5 (by decide) (hts _ wf_X1_16) (fun _ h9 => h9) rfl hin rfl (tyX1_ok 5 (by decide)) rfl rfl (Nat.le_of_ble_eq_true rfl) dX1_init_25 (fun H locs hP hD hS => ?_)
  have hP : va_P (dC, dI) classes ([(h0, .inr (1, (.int 0 :: .int 0 :: .int 0 :: .ref q1 :: .ref q2 :: .ref q3 :: .null :: .null :: [])))] ++ [(q1, .inl (ca 1, 60, .inl (fun _ => 0)))] ++ [(q2, .inl (ca 1, 60, .inl (fun _ => 0)))] ++ [(q3, .inl (ca 1, 60, .inl (fun _ => 0)))]) H := hP
  have hD : va_D A ([(h0, .inr (1, (.int 0 :: .int 0 :: .int 0 :: .ref q1 :: .ref q2 :: .ref q3 :: .null :: .null :: [])))] ++ [(q1, .inl (ca 1, 60, .inl (fun _ => 0)))] ++ [(q2, .inl (ca 1, 60, .inl (fun _ => 0)))] ++ [(q3, .inl (ca 1, 60, .inl (fun _ => 0)))]) := hD
  refine lv_aload_n hx hb dX1_init_28 rfl (lv_at hl 0 rfl) ?_
  refine lv_bipush (v := (60 : Int32)) hx hb dX1_init_29 (by decide) ?_
  refine kc_newI (rest := [.ref h0]) X hP hD hS (by decide) (by decide : ((60 : Int32)).toNatClampNeg = 60) (by decide) (Nat.le_of_ble_eq_true rfl) (Nat.le_of_ble_eq_true rfl) dX1_init_31 (fun q4 H hP hD hS => ?_)
  have hP : va_P (dC, dI) classes ([(h0, .inr (1, (.int 0 :: .int 0 :: .int 0 :: .ref q1 :: .ref q2 :: .ref q3 :: .null :: .null :: [])))] ++ [(q1, .inl (ca 1, 60, .inl (fun _ => 0)))] ++ [(q2, .inl (ca 1, 60, .inl (fun _ => 0)))] ++ [(q3, .inl (ca 1, 60, .inl (fun _ => 0)))] ++ [(q4, .inl (ca 1, 60, .inl (fun _ => 0)))]) H := hP
  have hD : va_D A ([(h0, .inr (1, (.int 0 :: .int 0 :: .int 0 :: .ref q1 :: .ref q2 :: .ref q3 :: .null :: .null :: [])))] ++ [(q1, .inl (ca 1, 60, .inl (fun _ => 0)))] ++ [(q2, .inl (ca 1, 60, .inl (fun _ => 0)))] ++ [(q3, .inl (ca 1, 60, .inl (fun _ => 0)))] ++ [(q4, .inl (ca 1, 60, .inl (fun _ => 0)))]) := hD
  refine va_putF (D := (dC, dI)) (ci := 1) (v := .ref q4) (ty := .array .int) (C := RX1) (T := TX1) (N := 8) hx hb hts i_X1 tyX1 tyX1_ok nmX1 hown hK hP hD hS 0 rfl rfl 6 (by decide) (hts _ wf_X1_19) (fun _ h9 => h9) rfl hin rfl (tyX1_ok 6 (by decide)) rfl rfl (Nat.le_of_ble_eq_true rfl) dX1_init_33 (fun H locs hP hD hS => ?_)
  have hP : va_P (dC, dI) classes ([(h0, .inr (1, (.int 0 :: .int 0 :: .int 0 :: .ref q1 :: .ref q2 :: .ref q3 :: .ref q4 :: .null :: [])))] ++ [(q1, .inl (ca 1, 60, .inl (fun _ => 0)))] ++ [(q2, .inl (ca 1, 60, .inl (fun _ => 0)))] ++ [(q3, .inl (ca 1, 60, .inl (fun _ => 0)))] ++ [(q4, .inl (ca 1, 60, .inl (fun _ => 0)))]) H := hP
  have hD : va_D A ([(h0, .inr (1, (.int 0 :: .int 0 :: .int 0 :: .ref q1 :: .ref q2 :: .ref q3 :: .ref q4 :: .null :: [])))] ++ [(q1, .inl (ca 1, 60, .inl (fun _ => 0)))] ++ [(q2, .inl (ca 1, 60, .inl (fun _ => 0)))] ++ [(q3, .inl (ca 1, 60, .inl (fun _ => 0)))] ++ [(q4, .inl (ca 1, 60, .inl (fun _ => 0)))]) := hD
  refine lv_aload_n hx hb dX1_init_36 rfl (lv_at hl 0 rfl) ?_
  refine lv_bipush (v := (60 : Int32)) hx hb dX1_init_37 (by decide) ?_
  refine kc_newI (rest := [.ref h0]) X hP hD hS (by decide) (by decide : ((60 : Int32)).toNatClampNeg = 60) (by decide) (Nat.le_of_ble_eq_true rfl) (Nat.le_of_ble_eq_true rfl) dX1_init_39 (fun q5 H hP hD hS => ?_)
  have hP : va_P (dC, dI) classes ([(h0, .inr (1, (.int 0 :: .int 0 :: .int 0 :: .ref q1 :: .ref q2 :: .ref q3 :: .ref q4 :: .null :: [])))] ++ [(q1, .inl (ca 1, 60, .inl (fun _ => 0)))] ++ [(q2, .inl (ca 1, 60, .inl (fun _ => 0)))] ++ [(q3, .inl (ca 1, 60, .inl (fun _ => 0)))] ++ [(q4, .inl (ca 1, 60, .inl (fun _ => 0)))] ++ [(q5, .inl (ca 1, 60, .inl (fun _ => 0)))]) H := hP
  have hD : va_D A ([(h0, .inr (1, (.int 0 :: .int 0 :: .int 0 :: .ref q1 :: .ref q2 :: .ref q3 :: .ref q4 :: .null :: [])))] ++ [(q1, .inl (ca 1, 60, .inl (fun _ => 0)))] ++ [(q2, .inl (ca 1, 60, .inl (fun _ => 0)))] ++ [(q3, .inl (ca 1, 60, .inl (fun _ => 0)))] ++ [(q4, .inl (ca 1, 60, .inl (fun _ => 0)))] ++ [(q5, .inl (ca 1, 60, .inl (fun _ => 0)))]) := hD
  refine va_putF (D := (dC, dI)) (ci := 1) (v := .ref q5) (ty := .array .int) (C := RX1) (T := TX1) (N := 8) hx hb hts i_X1 tyX1 tyX1_ok nmX1 hown hK hP hD hS 0 rfl rfl 7 (by decide) (hts _ wf_X1_22) (fun _ h9 => h9) rfl hin rfl (tyX1_ok 7 (by decide)) rfl rfl (Nat.le_of_ble_eq_true rfl) dX1_init_41 (fun H locs hP hD hS => ?_)
  have hP : va_P (dC, dI) classes ([(h0, .inr (1, (.int 0 :: .int 0 :: .int 0 :: .ref q1 :: .ref q2 :: .ref q3 :: .ref q4 :: .ref q5 :: [])))] ++ [(q1, .inl (ca 1, 60, .inl (fun _ => 0)))] ++ [(q2, .inl (ca 1, 60, .inl (fun _ => 0)))] ++ [(q3, .inl (ca 1, 60, .inl (fun _ => 0)))] ++ [(q4, .inl (ca 1, 60, .inl (fun _ => 0)))] ++ [(q5, .inl (ca 1, 60, .inl (fun _ => 0)))]) H := hP
  have hD : va_D A ([(h0, .inr (1, (.int 0 :: .int 0 :: .int 0 :: .ref q1 :: .ref q2 :: .ref q3 :: .ref q4 :: .ref q5 :: [])))] ++ [(q1, .inl (ca 1, 60, .inl (fun _ => 0)))] ++ [(q2, .inl (ca 1, 60, .inl (fun _ => 0)))] ++ [(q3, .inl (ca 1, 60, .inl (fun _ => 0)))] ++ [(q4, .inl (ca 1, 60, .inl (fun _ => 0)))] ++ [(q5, .inl (ca 1, 60, .inl (fun _ => 0)))]) := hD
  exact kc_ret X hP hD hS dX1_init_44 (fun _ i => if i = 0 then h0 else if i = 1 then q1 else if i = 2 then q2 else if i = 3 then q3 else if i = 4 then q4 else q5) rfl rfl
theorem okX0_init : tc_ok yX0_init cX0_init 1 none 0 := ⟨wc_X0_init, wn_X0, by decide, by decide, by decide +kernel⟩
set_option maxRecDepth 20000 in
theorem kX0_init {h0 : Nat} : kc_M l dC dI ca yX0_init cX0_init 1 { frames := 1, cells := 1, slots := 60, locals := 20 } [.ref h0] [(h0, .inr (0, (.null :: .null :: .int 0 :: .null :: .int 0 :: .int 0 :: .int 0 :: .int 0 :: .int 0 :: .int 0 :: [])))] (fun q => w0 ca (q 0) (.null) (.null) z0) (fun q => q 0 0 = h0) 1 60 := by
  refine kc_met (own := RX0) (by decide) rfl rfl ?_ (Nat.le_of_ble_eq_true rfl)
  intro p e s m below meth c A X hN hin hP hD hS ls hl
  obtain ⟨hx, hb, hr, hml, hown, hts, hlk, hK, hA, hG⟩ := id X
  have hl : lv_has ls 1 [(0, .ref h0)] := hl
  refine lv_aload_n hx hb dX0_init_0 rfl (lv_at hl 0 rfl) ?_
  refine kc_obj (rest := []) X hl.1 wo_X0_1 w_oi w_oc (Nat.le_of_ble_eq_true rfl) (Nat.le_of_ble_eq_true rfl) dX0_init_1 ?_
  refine lv_aload_n hx hb dX0_init_4 rfl (lv_at hl 0 rfl) ?_
  refine lv_bipush (v := (60 : Int32)) hx hb dX0_init_5 (by decide) ?_
  refine kc_newI (rest := [.ref h0]) X hP hD hS (by decide) (by decide : ((60 : Int32)).toNatClampNeg = 60) (by decide) (Nat.le_of_ble_eq_true rfl) (Nat.le_of_ble_eq_true rfl) dX0_init_7 (fun q1 H hP hD hS => ?_)
  have hP : va_P (dC, dI) classes ([(h0, .inr (0, (.null :: .null :: .int 0 :: .null :: .int 0 :: .int 0 :: .int 0 :: .int 0 :: .int 0 :: .int 0 :: [])))] ++ [(q1, .inl (ca 1, 60, .inl (fun _ => 0)))]) H := hP
  have hD : va_D A ([(h0, .inr (0, (.null :: .null :: .int 0 :: .null :: .int 0 :: .int 0 :: .int 0 :: .int 0 :: .int 0 :: .int 0 :: [])))] ++ [(q1, .inl (ca 1, 60, .inl (fun _ => 0)))]) := hD
  refine va_putF (D := (dC, dI)) (ci := 0) (v := .ref q1) (ty := .array .int) (C := RX0) (T := TX0) (N := 10) hx hb hts i_X0 tyX0 tyX0_ok nmX0 hown hK hP hD hS 0 rfl rfl 3 (by decide) (hts _ wf_X0_9) (fun _ h9 => h9) rfl hin rfl (tyX0_ok 3 (by decide)) rfl rfl (Nat.le_of_ble_eq_true rfl) dX0_init_9 (fun H locs hP hD hS => ?_)
  have hP : va_P (dC, dI) classes ([(h0, .inr (0, (.null :: .null :: .int 0 :: .ref q1 :: .int 0 :: .int 0 :: .int 0 :: .int 0 :: .int 0 :: .int 0 :: [])))] ++ [(q1, .inl (ca 1, 60, .inl (fun _ => 0)))]) H := hP
  have hD : va_D A ([(h0, .inr (0, (.null :: .null :: .int 0 :: .ref q1 :: .int 0 :: .int 0 :: .int 0 :: .int 0 :: .int 0 :: .int 0 :: [])))] ++ [(q1, .inl (ca 1, 60, .inl (fun _ => 0)))]) := hD
  exact kc_ret X hP hD hS dX0_init_12 (fun _ i => if i = 0 then h0 else q1) rfl rfl
theorem okX10_init : tc_ok yX10_init cX10_init 1 none 0 := ⟨wc_X10_init, wn_X10, by decide, by decide, by decide +kernel⟩
set_option maxRecDepth 20000 in
theorem kX10_init {h0 : Nat} : kc_M l dC dI ca yX10_init cX10_init 1 { frames := 1, cells := 2, slots := 42, locals := 20 } [.ref h0] [(h0, .inr (10, (.null :: .int 0 :: .null :: .null :: [])))] (fun q => w10 ca (q 0) (.null) z0) (fun q => q 0 0 = h0) 2 42 := by
  refine kc_met (own := RX10) (by decide) rfl rfl ?_ (Nat.le_of_ble_eq_true rfl)
  intro p e s m below meth c A X hN hin hP hD hS ls hl
  obtain ⟨hx, hb, hr, hml, hown, hts, hlk, hK, hA, hG⟩ := id X
  have hl : lv_has ls 1 [(0, .ref h0)] := hl
  refine lv_aload_n hx hb dX10_init_0 rfl (lv_at hl 0 rfl) ?_
  refine kc_obj (rest := []) X hl.1 wo_X10_3 w_oi w_oc (Nat.le_of_ble_eq_true rfl) (Nat.le_of_ble_eq_true rfl) dX10_init_1 ?_
  refine lv_aload_n hx hb dX10_init_4 rfl (lv_at hl 0 rfl) ?_
  refine lv_bipush (v := (32 : Int32)) hx hb dX10_init_5 (by decide) ?_
  refine kc_newI (rest := [.ref h0]) X hP hD hS (by decide) (by decide : ((32 : Int32)).toNatClampNeg = 32) (by decide) (Nat.le_of_ble_eq_true rfl) (Nat.le_of_ble_eq_true rfl) dX10_init_7 (fun q1 H hP hD hS => ?_)
  have hP : va_P (dC, dI) classes ([(h0, .inr (10, (.null :: .int 0 :: .null :: .null :: [])))] ++ [(q1, .inl (ca 1, 32, .inl (fun _ => 0)))]) H := hP
  have hD : va_D A ([(h0, .inr (10, (.null :: .int 0 :: .null :: .null :: [])))] ++ [(q1, .inl (ca 1, 32, .inl (fun _ => 0)))]) := hD
  refine va_putF (D := (dC, dI)) (ci := 10) (v := .ref q1) (ty := .array .int) (C := RX10) (T := TX10) (N := 4) hx hb hts i_X10 tyX10 tyX10_ok nmX10 hown hK hP hD hS 0 rfl rfl 2 (by decide) (hts _ wf_X10_13) (fun _ h9 => h9) rfl hin rfl (tyX10_ok 2 (by decide)) rfl rfl (Nat.le_of_ble_eq_true rfl) dX10_init_9 (fun H locs hP hD hS => ?_)
  have hP : va_P (dC, dI) classes ([(h0, .inr (10, (.null :: .int 0 :: .ref q1 :: .null :: [])))] ++ [(q1, .inl (ca 1, 32, .inl (fun _ => 0)))]) H := hP
  have hD : va_D A ([(h0, .inr (10, (.null :: .int 0 :: .ref q1 :: .null :: [])))] ++ [(q1, .inl (ca 1, 32, .inl (fun _ => 0)))]) := hD
  refine lv_aload_n hx hb dX10_init_12 rfl (lv_at hl 0 rfl) ?_
  refine lv_bipush (v := (10 : Int32)) hx hb dX10_init_13 (by decide) ?_
  refine kc_newI (rest := [.ref h0]) X hP hD hS (by decide) (by decide : ((10 : Int32)).toNatClampNeg = 10) (by decide) (Nat.le_of_ble_eq_true rfl) (Nat.le_of_ble_eq_true rfl) dX10_init_15 (fun q2 H hP hD hS => ?_)
  have hP : va_P (dC, dI) classes ([(h0, .inr (10, (.null :: .int 0 :: .ref q1 :: .null :: [])))] ++ [(q1, .inl (ca 1, 32, .inl (fun _ => 0)))] ++ [(q2, .inl (ca 1, 10, .inl (fun _ => 0)))]) H := hP
  have hD : va_D A ([(h0, .inr (10, (.null :: .int 0 :: .ref q1 :: .null :: [])))] ++ [(q1, .inl (ca 1, 32, .inl (fun _ => 0)))] ++ [(q2, .inl (ca 1, 10, .inl (fun _ => 0)))]) := hD
  refine va_putF (D := (dC, dI)) (ci := 10) (v := .ref q2) (ty := .array .int) (C := RX10) (T := TX10) (N := 4) hx hb hts i_X10 tyX10 tyX10_ok nmX10 hown hK hP hD hS 0 rfl rfl 3 (by decide) (hts _ wf_X10_17) (fun _ h9 => h9) rfl hin rfl (tyX10_ok 3 (by decide)) rfl rfl (Nat.le_of_ble_eq_true rfl) dX10_init_17 (fun H locs hP hD hS => ?_)
  have hP : va_P (dC, dI) classes ([(h0, .inr (10, (.null :: .int 0 :: .ref q1 :: .ref q2 :: [])))] ++ [(q1, .inl (ca 1, 32, .inl (fun _ => 0)))] ++ [(q2, .inl (ca 1, 10, .inl (fun _ => 0)))]) H := hP
  have hD : va_D A ([(h0, .inr (10, (.null :: .int 0 :: .ref q1 :: .ref q2 :: [])))] ++ [(q1, .inl (ca 1, 32, .inl (fun _ => 0)))] ++ [(q2, .inl (ca 1, 10, .inl (fun _ => 0)))]) := hD
  exact kc_ret X hP hD hS dX10_init_20 (fun _ i => if i = 0 then h0 else if i = 1 then q1 else q2) rfl rfl
theorem okX3_init : tc_ok yX3_init cX3_init 1 none 0 := ⟨wc_X3_init, wn_X3, by decide, by decide, by decide +kernel⟩
set_option maxRecDepth 20000 in
theorem kX3_init {h0 : Nat} : kc_M l dC dI ca yX3_init cX3_init 1 { frames := 1, cells := 3, slots := 18, locals := 20 } [.ref h0] [(h0, .inr (3, (.null :: .int 0 :: .int 0 :: .null :: .null :: .null :: [])))] (fun q => w3 ca (q 0) (.null) z0) (fun q => q 0 0 = h0) 3 18 := by
  refine kc_met (own := RX3) (by decide) rfl rfl ?_ (Nat.le_of_ble_eq_true rfl)
  intro p e s m below meth c A X hN hin hP hD hS ls hl
  obtain ⟨hx, hb, hr, hml, hown, hts, hlk, hK, hA, hG⟩ := id X
  have hl : lv_has ls 1 [(0, .ref h0)] := hl
  refine lv_aload_n hx hb dX3_init_0 rfl (lv_at hl 0 rfl) ?_
  refine kc_obj (rest := []) X hl.1 wo_X3_1 w_oi w_oc (Nat.le_of_ble_eq_true rfl) (Nat.le_of_ble_eq_true rfl) dX3_init_1 ?_
  refine lv_aload_n hx hb dX3_init_4 rfl (lv_at hl 0 rfl) ?_
  refine lv_bipush (v := (6 : Int32)) hx hb dX3_init_5 (by decide) ?_
  refine kc_newI (rest := [.ref h0]) X hP hD hS (by decide) (by decide : ((6 : Int32)).toNatClampNeg = 6) (by decide) (Nat.le_of_ble_eq_true rfl) (Nat.le_of_ble_eq_true rfl) dX3_init_7 (fun q1 H hP hD hS => ?_)
  have hP : va_P (dC, dI) classes ([(h0, .inr (3, (.null :: .int 0 :: .int 0 :: .null :: .null :: .null :: [])))] ++ [(q1, .inl (ca 1, 6, .inl (fun _ => 0)))]) H := hP
  have hD : va_D A ([(h0, .inr (3, (.null :: .int 0 :: .int 0 :: .null :: .null :: .null :: [])))] ++ [(q1, .inl (ca 1, 6, .inl (fun _ => 0)))]) := hD
  refine va_putF (D := (dC, dI)) (ci := 3) (v := .ref q1) (ty := .array .int) (C := RX3) (T := TX3) (N := 6) hx hb hts i_X3 tyX3 tyX3_ok nmX3 hown hK hP hD hS 0 rfl rfl 3 (by decide) (hts _ wf_X3_9) (fun _ h9 => h9) rfl hin rfl (tyX3_ok 3 (by decide)) rfl rfl (Nat.le_of_ble_eq_true rfl) dX3_init_9 (fun H locs hP hD hS => ?_)
  have hP : va_P (dC, dI) classes ([(h0, .inr (3, (.null :: .int 0 :: .int 0 :: .ref q1 :: .null :: .null :: [])))] ++ [(q1, .inl (ca 1, 6, .inl (fun _ => 0)))]) H := hP
  have hD : va_D A ([(h0, .inr (3, (.null :: .int 0 :: .int 0 :: .ref q1 :: .null :: .null :: [])))] ++ [(q1, .inl (ca 1, 6, .inl (fun _ => 0)))]) := hD
  refine lv_aload_n hx hb dX3_init_12 rfl (lv_at hl 0 rfl) ?_
  refine lv_bipush (v := (6 : Int32)) hx hb dX3_init_13 (by decide) ?_
  refine kc_newI (rest := [.ref h0]) X hP hD hS (by decide) (by decide : ((6 : Int32)).toNatClampNeg = 6) (by decide) (Nat.le_of_ble_eq_true rfl) (Nat.le_of_ble_eq_true rfl) dX3_init_15 (fun q2 H hP hD hS => ?_)
  have hP : va_P (dC, dI) classes ([(h0, .inr (3, (.null :: .int 0 :: .int 0 :: .ref q1 :: .null :: .null :: [])))] ++ [(q1, .inl (ca 1, 6, .inl (fun _ => 0)))] ++ [(q2, .inl (ca 1, 6, .inl (fun _ => 0)))]) H := hP
  have hD : va_D A ([(h0, .inr (3, (.null :: .int 0 :: .int 0 :: .ref q1 :: .null :: .null :: [])))] ++ [(q1, .inl (ca 1, 6, .inl (fun _ => 0)))] ++ [(q2, .inl (ca 1, 6, .inl (fun _ => 0)))]) := hD
  refine va_putF (D := (dC, dI)) (ci := 3) (v := .ref q2) (ty := .array .int) (C := RX3) (T := TX3) (N := 6) hx hb hts i_X3 tyX3 tyX3_ok nmX3 hown hK hP hD hS 0 rfl rfl 4 (by decide) (hts _ wf_X3_15) (fun _ h9 => h9) rfl hin rfl (tyX3_ok 4 (by decide)) rfl rfl (Nat.le_of_ble_eq_true rfl) dX3_init_17 (fun H locs hP hD hS => ?_)
  have hP : va_P (dC, dI) classes ([(h0, .inr (3, (.null :: .int 0 :: .int 0 :: .ref q1 :: .ref q2 :: .null :: [])))] ++ [(q1, .inl (ca 1, 6, .inl (fun _ => 0)))] ++ [(q2, .inl (ca 1, 6, .inl (fun _ => 0)))]) H := hP
  have hD : va_D A ([(h0, .inr (3, (.null :: .int 0 :: .int 0 :: .ref q1 :: .ref q2 :: .null :: [])))] ++ [(q1, .inl (ca 1, 6, .inl (fun _ => 0)))] ++ [(q2, .inl (ca 1, 6, .inl (fun _ => 0)))]) := hD
  refine lv_aload_n hx hb dX3_init_20 rfl (lv_at hl 0 rfl) ?_
  refine lv_bipush (v := (6 : Int32)) hx hb dX3_init_21 (by decide) ?_
  refine kc_newI (rest := [.ref h0]) X hP hD hS (by decide) (by decide : ((6 : Int32)).toNatClampNeg = 6) (by decide) (Nat.le_of_ble_eq_true rfl) (Nat.le_of_ble_eq_true rfl) dX3_init_23 (fun q3 H hP hD hS => ?_)
  have hP : va_P (dC, dI) classes ([(h0, .inr (3, (.null :: .int 0 :: .int 0 :: .ref q1 :: .ref q2 :: .null :: [])))] ++ [(q1, .inl (ca 1, 6, .inl (fun _ => 0)))] ++ [(q2, .inl (ca 1, 6, .inl (fun _ => 0)))] ++ [(q3, .inl (ca 1, 6, .inl (fun _ => 0)))]) H := hP
  have hD : va_D A ([(h0, .inr (3, (.null :: .int 0 :: .int 0 :: .ref q1 :: .ref q2 :: .null :: [])))] ++ [(q1, .inl (ca 1, 6, .inl (fun _ => 0)))] ++ [(q2, .inl (ca 1, 6, .inl (fun _ => 0)))] ++ [(q3, .inl (ca 1, 6, .inl (fun _ => 0)))]) := hD
  refine va_putF (D := (dC, dI)) (ci := 3) (v := .ref q3) (ty := .array .int) (C := RX3) (T := TX3) (N := 6) hx hb hts i_X3 tyX3 tyX3_ok nmX3 hown hK hP hD hS 0 rfl rfl 5 (by decide) (hts _ wf_X3_18) (fun _ h9 => h9) rfl hin rfl (tyX3_ok 5 (by decide)) rfl rfl (Nat.le_of_ble_eq_true rfl) dX3_init_25 (fun H locs hP hD hS => ?_)
  have hP : va_P (dC, dI) classes ([(h0, .inr (3, (.null :: .int 0 :: .int 0 :: .ref q1 :: .ref q2 :: .ref q3 :: [])))] ++ [(q1, .inl (ca 1, 6, .inl (fun _ => 0)))] ++ [(q2, .inl (ca 1, 6, .inl (fun _ => 0)))] ++ [(q3, .inl (ca 1, 6, .inl (fun _ => 0)))]) H := hP
  have hD : va_D A ([(h0, .inr (3, (.null :: .int 0 :: .int 0 :: .ref q1 :: .ref q2 :: .ref q3 :: [])))] ++ [(q1, .inl (ca 1, 6, .inl (fun _ => 0)))] ++ [(q2, .inl (ca 1, 6, .inl (fun _ => 0)))] ++ [(q3, .inl (ca 1, 6, .inl (fun _ => 0)))]) := hD
  exact kc_ret X hP hD hS dX3_init_28 (fun _ i => if i = 0 then h0 else if i = 1 then q1 else if i = 2 then q2 else q3) rfl rfl
theorem okX5_init : tc_ok yX5_init cX5_init 1 none 0 := ⟨wc_X5_init, wn_X5, by decide, by decide, by decide +kernel⟩
set_option maxRecDepth 20000 in
theorem kX5_init {h0 : Nat} : kc_M l dC dI ca yX5_init cX5_init 1 { frames := 1, cells := 4, slots := 37, locals := 20 } [.ref h0] [(h0, .inr (5, (.null :: .null :: .null :: .null :: [])))] (fun q => w5 ca (q 0) z0) (fun q => q 0 0 = h0) 4 37 := by
  refine kc_met (own := RX5) (by decide) rfl rfl ?_ (Nat.le_of_ble_eq_true rfl)
  intro p e s m below meth c A X hN hin hP hD hS ls hl
  obtain ⟨hx, hb, hr, hml, hown, hts, hlk, hK, hA, hG⟩ := id X
  have hl : lv_has ls 1 [(0, .ref h0)] := hl
  refine lv_aload_n hx hb dX5_init_0 rfl (lv_at hl 0 rfl) ?_
  refine kc_obj (rest := []) X hl.1 wo_X5_1 w_oi w_oc (Nat.le_of_ble_eq_true rfl) (Nat.le_of_ble_eq_true rfl) dX5_init_1 ?_
  refine lv_aload_n hx hb dX5_init_4 rfl (lv_at hl 0 rfl) ?_
  refine lv_bipush (v := (10 : Int32)) hx hb dX5_init_5 (by decide) ?_
  refine kc_newJ (rest := [.ref h0]) X hP hD hS (by decide) (by decide : ((10 : Int32)).toNatClampNeg = 10) (by decide) (Nat.le_of_ble_eq_true rfl) (Nat.le_of_ble_eq_true rfl) dX5_init_7 (fun q1 H hP hD hS => ?_)
  have hP : va_P (dC, dI) classes ([(h0, .inr (5, (.null :: .null :: .null :: .null :: [])))] ++ [(q1, .inl (ca 2, 10, .inr (.inl (fun _ => 0))))]) H := hP
  have hD : va_D A ([(h0, .inr (5, (.null :: .null :: .null :: .null :: [])))] ++ [(q1, .inl (ca 2, 10, .inr (.inl (fun _ => 0))))]) := hD
  refine va_putF (D := (dC, dI)) (ci := 5) (v := .ref q1) (ty := .array .long) (C := RX5) (T := TX5) (N := 4) hx hb hts i_X5 tyX5 tyX5_ok nmX5 hown hK hP hD hS 0 rfl rfl 0 (by decide) (hts _ wf_X5_9) (fun _ h9 => h9) rfl hin rfl (tyX5_ok 0 (by decide)) rfl rfl (Nat.le_of_ble_eq_true rfl) dX5_init_9 (fun H locs hP hD hS => ?_)
  have hP : va_P (dC, dI) classes ([(h0, .inr (5, (.ref q1 :: .null :: .null :: .null :: [])))] ++ [(q1, .inl (ca 2, 10, .inr (.inl (fun _ => 0))))]) H := hP
  have hD : va_D A ([(h0, .inr (5, (.ref q1 :: .null :: .null :: .null :: [])))] ++ [(q1, .inl (ca 2, 10, .inr (.inl (fun _ => 0))))]) := hD
  refine lv_aload_n hx hb dX5_init_12 rfl (lv_at hl 0 rfl) ?_
  refine lv_bipush (v := (10 : Int32)) hx hb dX5_init_13 (by decide) ?_
  refine kc_newJ (rest := [.ref h0]) X hP hD hS (by decide) (by decide : ((10 : Int32)).toNatClampNeg = 10) (by decide) (Nat.le_of_ble_eq_true rfl) (Nat.le_of_ble_eq_true rfl) dX5_init_15 (fun q2 H hP hD hS => ?_)
  have hP : va_P (dC, dI) classes ([(h0, .inr (5, (.ref q1 :: .null :: .null :: .null :: [])))] ++ [(q1, .inl (ca 2, 10, .inr (.inl (fun _ => 0))))] ++ [(q2, .inl (ca 2, 10, .inr (.inl (fun _ => 0))))]) H := hP
  have hD : va_D A ([(h0, .inr (5, (.ref q1 :: .null :: .null :: .null :: [])))] ++ [(q1, .inl (ca 2, 10, .inr (.inl (fun _ => 0))))] ++ [(q2, .inl (ca 2, 10, .inr (.inl (fun _ => 0))))]) := hD
  refine va_putF (D := (dC, dI)) (ci := 5) (v := .ref q2) (ty := .array .long) (C := RX5) (T := TX5) (N := 4) hx hb hts i_X5 tyX5 tyX5_ok nmX5 hown hK hP hD hS 0 rfl rfl 1 (by decide) (hts _ wf_X5_15) (fun _ h9 => h9) rfl hin rfl (tyX5_ok 1 (by decide)) rfl rfl (Nat.le_of_ble_eq_true rfl) dX5_init_17 (fun H locs hP hD hS => ?_)
  have hP : va_P (dC, dI) classes ([(h0, .inr (5, (.ref q1 :: .ref q2 :: .null :: .null :: [])))] ++ [(q1, .inl (ca 2, 10, .inr (.inl (fun _ => 0))))] ++ [(q2, .inl (ca 2, 10, .inr (.inl (fun _ => 0))))]) H := hP
  have hD : va_D A ([(h0, .inr (5, (.ref q1 :: .ref q2 :: .null :: .null :: [])))] ++ [(q1, .inl (ca 2, 10, .inr (.inl (fun _ => 0))))] ++ [(q2, .inl (ca 2, 10, .inr (.inl (fun _ => 0))))]) := hD
  refine lv_aload_n hx hb dX5_init_20 rfl (lv_at hl 0 rfl) ?_
  refine lv_bipush (v := (10 : Int32)) hx hb dX5_init_21 (by decide) ?_
  refine kc_newJ (rest := [.ref h0]) X hP hD hS (by decide) (by decide : ((10 : Int32)).toNatClampNeg = 10) (by decide) (Nat.le_of_ble_eq_true rfl) (Nat.le_of_ble_eq_true rfl) dX5_init_23 (fun q3 H hP hD hS => ?_)
  have hP : va_P (dC, dI) classes ([(h0, .inr (5, (.ref q1 :: .ref q2 :: .null :: .null :: [])))] ++ [(q1, .inl (ca 2, 10, .inr (.inl (fun _ => 0))))] ++ [(q2, .inl (ca 2, 10, .inr (.inl (fun _ => 0))))] ++ [(q3, .inl (ca 2, 10, .inr (.inl (fun _ => 0))))]) H := hP
  have hD : va_D A ([(h0, .inr (5, (.ref q1 :: .ref q2 :: .null :: .null :: [])))] ++ [(q1, .inl (ca 2, 10, .inr (.inl (fun _ => 0))))] ++ [(q2, .inl (ca 2, 10, .inr (.inl (fun _ => 0))))] ++ [(q3, .inl (ca 2, 10, .inr (.inl (fun _ => 0))))]) := hD
  refine va_putF (D := (dC, dI)) (ci := 5) (v := .ref q3) (ty := .array .long) (C := RX5) (T := TX5) (N := 4) hx hb hts i_X5 tyX5 tyX5_ok nmX5 hown hK hP hD hS 0 rfl rfl 2 (by decide) (hts _ wf_X5_18) (fun _ h9 => h9) rfl hin rfl (tyX5_ok 2 (by decide)) rfl rfl (Nat.le_of_ble_eq_true rfl) dX5_init_25 (fun H locs hP hD hS => ?_)
  have hP : va_P (dC, dI) classes ([(h0, .inr (5, (.ref q1 :: .ref q2 :: .ref q3 :: .null :: [])))] ++ [(q1, .inl (ca 2, 10, .inr (.inl (fun _ => 0))))] ++ [(q2, .inl (ca 2, 10, .inr (.inl (fun _ => 0))))] ++ [(q3, .inl (ca 2, 10, .inr (.inl (fun _ => 0))))]) H := hP
  have hD : va_D A ([(h0, .inr (5, (.ref q1 :: .ref q2 :: .ref q3 :: .null :: [])))] ++ [(q1, .inl (ca 2, 10, .inr (.inl (fun _ => 0))))] ++ [(q2, .inl (ca 2, 10, .inr (.inl (fun _ => 0))))] ++ [(q3, .inl (ca 2, 10, .inr (.inl (fun _ => 0))))]) := hD
  refine lv_aload_n hx hb dX5_init_28 rfl (lv_at hl 0 rfl) ?_
  refine lv_bipush (v := (7 : Int32)) hx hb dX5_init_29 (by decide) ?_
  refine kc_newJ (rest := [.ref h0]) X hP hD hS (by decide) (by decide : ((7 : Int32)).toNatClampNeg = 7) (by decide) (Nat.le_of_ble_eq_true rfl) (Nat.le_of_ble_eq_true rfl) dX5_init_31 (fun q4 H hP hD hS => ?_)
  have hP : va_P (dC, dI) classes ([(h0, .inr (5, (.ref q1 :: .ref q2 :: .ref q3 :: .null :: [])))] ++ [(q1, .inl (ca 2, 10, .inr (.inl (fun _ => 0))))] ++ [(q2, .inl (ca 2, 10, .inr (.inl (fun _ => 0))))] ++ [(q3, .inl (ca 2, 10, .inr (.inl (fun _ => 0))))] ++ [(q4, .inl (ca 2, 7, .inr (.inl (fun _ => 0))))]) H := hP
  have hD : va_D A ([(h0, .inr (5, (.ref q1 :: .ref q2 :: .ref q3 :: .null :: [])))] ++ [(q1, .inl (ca 2, 10, .inr (.inl (fun _ => 0))))] ++ [(q2, .inl (ca 2, 10, .inr (.inl (fun _ => 0))))] ++ [(q3, .inl (ca 2, 10, .inr (.inl (fun _ => 0))))] ++ [(q4, .inl (ca 2, 7, .inr (.inl (fun _ => 0))))]) := hD
  refine va_putF (D := (dC, dI)) (ci := 5) (v := .ref q4) (ty := .array .long) (C := RX5) (T := TX5) (N := 4) hx hb hts i_X5 tyX5 tyX5_ok nmX5 hown hK hP hD hS 0 rfl rfl 3 (by decide) (hts _ wf_X5_21) (fun _ h9 => h9) rfl hin rfl (tyX5_ok 3 (by decide)) rfl rfl (Nat.le_of_ble_eq_true rfl) dX5_init_33 (fun H locs hP hD hS => ?_)
  have hP : va_P (dC, dI) classes ([(h0, .inr (5, (.ref q1 :: .ref q2 :: .ref q3 :: .ref q4 :: [])))] ++ [(q1, .inl (ca 2, 10, .inr (.inl (fun _ => 0))))] ++ [(q2, .inl (ca 2, 10, .inr (.inl (fun _ => 0))))] ++ [(q3, .inl (ca 2, 10, .inr (.inl (fun _ => 0))))] ++ [(q4, .inl (ca 2, 7, .inr (.inl (fun _ => 0))))]) H := hP
  have hD : va_D A ([(h0, .inr (5, (.ref q1 :: .ref q2 :: .ref q3 :: .ref q4 :: [])))] ++ [(q1, .inl (ca 2, 10, .inr (.inl (fun _ => 0))))] ++ [(q2, .inl (ca 2, 10, .inr (.inl (fun _ => 0))))] ++ [(q3, .inl (ca 2, 10, .inr (.inl (fun _ => 0))))] ++ [(q4, .inl (ca 2, 7, .inr (.inl (fun _ => 0))))]) := hD
  exact kc_ret X hP hD hS dX5_init_36 (fun _ i => if i = 0 then h0 else if i = 1 then q1 else if i = 2 then q2 else if i = 3 then q3 else q4) rfl rfl
end G
