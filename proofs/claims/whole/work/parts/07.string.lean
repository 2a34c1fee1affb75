theorem tc_sw {x k : Int32} {P : Int32 → Prop} (h : x = k) (hk : P k) : P x := h ▸ hk
def wch (i : Int32) : Int32 := wordsB.getD i.toNatClampNeg 0
/-! the library's own: length() and charAt(int) of the one text, walked -/
theorem wf_J0_38 : Cond.fieldLink RJ0 38 "java/lang/String" "COMPACT_STRINGS" "Z" ∈ lw_g := lw_m (tb_3 _ (List.mem_of_getElem? (i := 128) rfl)) rfl
theorem wf_J0_1053 : Cond.fieldLink RJ0 1053 "jdk/internal/util/Preconditions" "SIOOBE_FORMATTER" "Ljava/util/function/BiFunction;" ∈ lw_g := lw_m (tb_3 _ (List.mem_of_getElem? (i := 144) rfl)) rfl
theorem wf_J0_9 : Cond.fieldLink RJ0 9 "java/lang/String" "value" "[B" ∈ lw_g := lw_m (tb_9 _ (List.mem_of_getElem? (i := 229) rfl)) rfl
theorem wf_J0_15 : Cond.fieldLink RJ0 15 "java/lang/String" "coder" "B" ∈ lw_g := lw_m (tb_9 _ (List.mem_of_getElem? (i := 230) rfl)) rfl
def tc_Gx (aS aV : Nat) (A : Nat → Prop) (U : State) : Prop := vk_R RX4 68 wordsT aS U ∧ vk_S 1 [136] [wordsB] (fun _ => aS) (fun _ => aV) A U U.heap ∧ va_Z "java/lang/String" "COMPACT_STRINGS" "Z" (.int 1) A U U.heap ∧ va_Zq "jdk/internal/util/Preconditions" "SIOOBE_FORMATTER" "Ljava/util/function/BiFunction;" A U U.heap
theorem tc_Gx.go {aS aV : Nat} {A B : Nat → Prop} {s U : State} (hW : s.WarmedH U.vm) (hq : ∀ a : Nat, a < s.heap.size → ¬ A a → U.heap[a]? = s.heap[a]?) (hAB : ∀ q, B q → A q) (h : tc_Gx aS aV A s) : tc_Gx aS aV B U := by
  obtain ⟨h1, h2, h3, h4⟩ := h
  exact ⟨vk_R.warm hW h1, ((vk_S.moved hW.alike h2).kept hq).narrow hAB, ((va_Z.moved hW.alike h3).kept hq).narrow hAB, ((va_Zq.moved hW.alike h4).kept hq).narrow hAB⟩
theorem tc_Gx.same {aS aV : Nat} {A : Nat → Prop} {u U : State} (hv : U.vm = u.vm) (hh : U.heap = u.heap) (h : tc_Gx aS aV A u) : tc_Gx aS aV A U := by
  obtain ⟨h1, h2, h3, h4⟩ := h
  refine ⟨vk_R.same hv h1, ?_, ?_, ?_⟩
  · rw [hh]; exact vk_S.moved (by rw [hv]; exact Vm.Alike.refl _) h2
  · rw [hh]; exact va_Z.moved (by rw [hv]; exact Vm.Alike.refl _) h3
  · rw [hh]; exact va_Zq.moved (by rw [hv]; exact Vm.Alike.refl _) h4
/-- at a library method's entry -/
def sx_X (aS aV : Nat) (A : Nat → Prop) (own : String) (cc : ByteArray) (nL : Nat) (ret : Option FieldType) (p : Program) (s : State) (m : MethodId) (args : Array Value) (meth : Method) (c : Code) : Prop :=
  p.tables.exec = Jvm.exec ∧ c.code = cc ∧ meth.sig.returnType = ret ∧ c.maxLocals = nL ∧ s.vm.findClass own = some m.cls ∧ (∀ w ∈ lw_g, w.before args s = true) ∧ meth.locks = false ∧ (∀ q, s.heap.size ≤ q → A q) ∧ tc_Gx aS aV A s
def sx_Pre (aS aV : Nat) (av : List Value) (sz : Nat) : Array Value → State → Prop := va_Pc av (fun U => U.heap.size = sz ∧ tc_Gx aS aV (fun q => sz ≤ q) U)
def sx_MI (l : Launch) (aS aV : Nat) (y : MethodName) (cc : ByteArray) (nL : Nat) (ret : Option FieldType) (rm : Room) (av : List Value) (r : Int32) : Prop :=
  ∀ sz, Met l y (wB y cc nL ret) rm (sx_Pre aS aV av sz) (va_Qi (fun r' (_ : Unit) => r' = r) (fun _ _ => True) (fun q => sz ≤ q)) 0 0 (fun q => sz ≤ q)
def sx_MV (l : Launch) (aS aV : Nat) (y : MethodName) (cc : ByteArray) (nL : Nat) (ret : Option FieldType) (rm : Room) (av : List Value) : Prop :=
  ∀ sz, Met l y (wB y cc nL ret) rm (sx_Pre aS aV av sz) (va_Qv (fun (_ : Unit) => True) (fun _ _ => True) (fun q => sz ≤ q)) 0 0 (fun q => sz ≤ q)
theorem sx_blind {aS aV : Nat} {av : List Value} {sz : Nat} : FrameBlind (sx_Pre aS aV av sz) := fun a U g mk q => ⟨q.1, q.2.1, tc_Gx.same rfl rfl q.2.2⟩
section SX
variable {p : Program} {l : Launch} {e : Env} {R : Room} {s : State} {m : MethodId} {args : Array Value} {below : List Frame} {meth : Method} {c : Code} {H : Heap} {locs : List Loc} {Q : State → Prop}
variable {A : Nat → Prop} {own : String} {cc : ByteArray} {nL : Nat} {ret : Option FieldType} {aS aV : Nat}
variable {y : MethodName} {bytes : ByteArray} {maxL idx k : Nat} {ret' : Option FieldType} {rm : Room} {av As rest : List Value} {b : Nat} {pc : Nat} {ls : Array Slot}
theorem sx_metI {r : Int32} (hy : plainName y.cls = true) (hcls : y.cls = own)
    (body : ∀ p e s m below meth c (A : Nat → Prop), sx_X aS aV A own cc nL ret p s m av.toArray meth c → va_S A s.heap s.heap [] → ∀ ls : Array Slot, lv_has ls nL (lv_args 0 av) →
      W p l e rm s m av.toArray below meth c s.heap [] 0 0 (MQ below (va_Qi (fun r' (_ : Unit) => r' = r) (fun _ _ => True) A) av.toArray s 0 0 A) (F0 m 0 ls [])) (hlen : (lg_sl av).length ≤ nL) : sx_MI l aS aV y cc nL ret rm av r := fun sz => by
  refine Met.ofW (cc := cc) (maxL := nL) (ret := ret) hy rfl ?_
  intro p e s m args below meth c s₁ B hml hv
  obtain ⟨rfl, hsz, hG⟩ := hv
  have hts := atoms_spec (ws := wB y cc nL ret) B.pre
  have hown : s.vm.findClass y.cls = some m.cls := findClass_of_methodNamed B.named
  subst hsz; subst hcls
  have hl := lv_entry av (n := nL) hlen
  rw [lg_entry_eq]
  exact body p e s m below meth c _ ⟨B.exec, B.bytes, B.returns, hml, hown, fun w h => hts w (List.mem_cons_of_mem _ h), B.notSynchronized, fun q h => h, hG⟩ va_S.rf _ hl
theorem sx_metV (hy : plainName y.cls = true) (hcls : y.cls = own)
    (body : ∀ p e s m below meth c (A : Nat → Prop), sx_X aS aV A own cc nL ret p s m av.toArray meth c → va_S A s.heap s.heap [] → ∀ ls : Array Slot, lv_has ls nL (lv_args 0 av) →
      W p l e rm s m av.toArray below meth c s.heap [] 0 0 (MQ below (va_Qv (fun (_ : Unit) => True) (fun _ _ => True) A) av.toArray s 0 0 A) (F0 m 0 ls [])) (hlen : (lg_sl av).length ≤ nL) : sx_MV l aS aV y cc nL ret rm av := fun sz => by
  refine Met.ofW (cc := cc) (maxL := nL) (ret := ret) hy rfl ?_
  intro p e s m args below meth c s₁ B hml hv
  obtain ⟨rfl, hsz, hG⟩ := hv
  have hts := atoms_spec (ws := wB y cc nL ret) B.pre
  have hown : s.vm.findClass y.cls = some m.cls := findClass_of_methodNamed B.named
  subst hsz; subst hcls
  have hl := lv_entry av (n := nL) hlen
  rw [lg_entry_eq]
  exact body p e s m below meth c _ ⟨B.exec, B.bytes, B.returns, hml, hown, fun w h => hts w (List.mem_cons_of_mem _ h), B.notSynchronized, fun q h => h, hG⟩ va_S.rf _ hl
theorem sx_cb (hts : ∀ w ∈ lw_g, w.before args s = true) (ok : tc_ok y bytes maxL ret' k) (hlk : Cond.methodLink own idx y ∈ lw_g) (hrm : tc_rm rm R maxL) : CallB R s args own idx y bytes maxL ret' (wB y bytes maxL ret') rm 0 0 k := by
  obtain ⟨o1, o2, o3, o4, o5⟩ := ok
  exact callB_of k hts (wB_good o1) rfl hrm.1 hrm.2.1 (hts _ o2) (hts _ hlk) ⟨o3, o4, o5⟩ ⟨hrm.2.2.1, hrm.2.2.2⟩
theorem sx_pre (hG : tc_Gx aS aV A s) (hA : ∀ q, s.heap.size ≤ q → A q) (hS : va_S A s.heap H locs) : PreS s H (sx_Pre aS aV av H.size) av :=
  ⟨sx_blind, fun U hU hW => ⟨rfl, by rw [hU], tc_Gx.go hW (fun a h1 h2 => by rw [hU]; exact hS.2.1 a h1 h2) (fun q h => hA q (Nat.le_trans hS.1 h)) hG⟩⟩
/-- a call of an int method of the text itself -/
theorem sx_iV {r : Int32} (hx : p.tables.exec = Jvm.exec) (hb : c.code = cc) (hml : c.maxLocals = nL) (hown : s.vm.findClass own = some m.cls) (hts : ∀ w ∈ lw_g, w.before args s = true) (hA : ∀ q, s.heap.size ≤ q → A q) (hG : tc_Gx aS aV A s) (hS : va_S A s.heap H locs)
    (hM : sx_MI l aS aV y bytes maxL ret' rm (.ref aS :: As) r) (ok : tc_ok y bytes maxL ret' k) (hlk : Cond.methodLink own idx y ∈ lw_g) (him : Cond.instanceMethod y ∈ lw_g) (hse : Cond.selects RJ0 y y ∈ lw_g) (hrm : tc_rm rm R maxL) (hk : As.length = k) (hnl : ls.size = nL) (hcat : (rest.map fun v => v.category).sum ≤ 8) (hd : decode cc pc = .ok (.invokevirtual idx, 3))
    (kk : ∀ (H1 : Heap) (locs1 : List Loc), H.size ≤ H1.size → (∀ q, q < H.size → H1[q]? = H[q]?) → va_S A s.heap H1 locs1 → W p l e R s m args below meth c H1 locs1 0 0 Q (F0 m (pc + 3) ls (.int r :: rest))) :
    W p l e R s m args below meth c H locs 0 0 Q (F0 m pc ls (As.reverse ++ .ref aS :: rest)) := by
  refine va_calli (va_runV (As := As) (rest := rest) (b := aS) ⟨hx, hb, hml, hown, hts⟩ (hM H.size) ⟨sx_cb hts ok hlk hrm, hts _ him, hts _ hse⟩ ⟨sx_blind, vk_recv hG.2.1 (i := 0) (by decide) hS, (sx_pre hG hA hS).2⟩ rfl hk hnl rfl (lv_room hcat) hd ⟨Nat.zero_le _, Nat.zero_le _⟩) hS (fun q h1 h2 => absurd h2 (Nat.not_le.mpr h1)) (fun q h => hA q (Nat.le_trans hS.1 h)) (fun r2 u t H1 locs1 ht hvm hw hB hz1 hk1 hS1 => ?_)
  cases hw
  exact kk H1 locs1 hz1 (fun q h => hk1 q h (Nat.not_le.mpr h)) hS1
theorem sx_iS {r : Int32} (hx : p.tables.exec = Jvm.exec) (hb : c.code = cc) (hml : c.maxLocals = nL) (hown : s.vm.findClass own = some m.cls) (hts : ∀ w ∈ lw_g, w.before args s = true) (hA : ∀ q, s.heap.size ≤ q → A q) (hG : tc_Gx aS aV A s) (hS : va_S A s.heap H locs)
    (hM : sx_MI l aS aV y bytes maxL ret' rm As r) (ok : tc_ok y bytes maxL ret' k) (hlk : Cond.methodLink own idx y ∈ lw_g) (hst : Cond.static y ∈ lw_g) (hrm : tc_rm rm R maxL) (hk : As.length = k) (hnl : ls.size = nL) (hcat : (rest.map fun v => v.category).sum ≤ 8) (hd : decode cc pc = .ok (.invokestatic idx, 3))
    (kk : ∀ (H1 : Heap) (locs1 : List Loc), H.size ≤ H1.size → (∀ q, q < H.size → H1[q]? = H[q]?) → va_S A s.heap H1 locs1 → W p l e R s m args below meth c H1 locs1 0 0 Q (F0 m (pc + 3) ls (.int r :: rest))) :
    W p l e R s m args below meth c H locs 0 0 Q (F0 m pc ls (As.reverse ++ rest)) := by
  refine va_calli (va_runS (As := As) (rest := rest) ⟨hx, hb, hml, hown, hts⟩ (hM H.size) ⟨sx_cb hts ok hlk hrm, hts _ hst⟩ (sx_pre hG hA hS) rfl hk hnl rfl (lv_room hcat) hd ⟨Nat.zero_le _, Nat.zero_le _⟩) hS (fun q h1 h2 => absurd h2 (Nat.not_le.mpr h1)) (fun q h => hA q (Nat.le_trans hS.1 h)) (fun r2 u t H1 locs1 ht hvm hw hB hz1 hk1 hS1 => ?_)
  cases hw
  exact kk H1 locs1 hz1 (fun q h => hk1 q h (Nat.not_le.mpr h)) hS1
theorem sx_vS (hx : p.tables.exec = Jvm.exec) (hb : c.code = cc) (hml : c.maxLocals = nL) (hown : s.vm.findClass own = some m.cls) (hts : ∀ w ∈ lw_g, w.before args s = true) (hA : ∀ q, s.heap.size ≤ q → A q) (hG : tc_Gx aS aV A s) (hS : va_S A s.heap H locs)
    (hM : sx_MV l aS aV y bytes maxL ret' rm As) (ok : tc_ok y bytes maxL ret' k) (hlk : Cond.methodLink own idx y ∈ lw_g) (hst : Cond.static y ∈ lw_g) (hrm : tc_rm rm R maxL) (hk : As.length = k) (hnl : ls.size = nL) (hcat : (rest.map fun v => v.category).sum ≤ 8) (hd : decode cc pc = .ok (.invokestatic idx, 3))
    (kk : ∀ (H1 : Heap) (locs1 : List Loc), va_S A s.heap H1 locs1 → W p l e R s m args below meth c H1 locs1 0 0 Q (F0 m (pc + 3) ls rest)) :
    W p l e R s m args below meth c H locs 0 0 Q (F0 m pc ls (As.reverse ++ rest)) := by
  refine va_callv (va_runS (As := As) (rest := rest) ⟨hx, hb, hml, hown, hts⟩ (hM H.size) ⟨sx_cb hts ok hlk hrm, hts _ hst⟩ (sx_pre hG hA hS) rfl hk hnl rfl (lv_room hcat) hd ⟨Nat.zero_le _, Nat.zero_le _⟩) hS (fun q h1 h2 => absurd h2 (Nat.not_le.mpr h1)) (fun q h => hA q (Nat.le_trans hS.1 h)) (fun u t H1 locs1 ht hvm hw hB hz1 hk1 hS1 => ?_)
  exact kk H1 locs1 hS1
end SX
theorem dJ0_length_8abf5_0 : decode cJ0_length_8abf5 0 = .ok (.aload_n 0, 1) := by decide +kernel
theorem dJ0_length_8abf5_1 : decode cJ0_length_8abf5 1 = .ok (.getfield 9, 3) := by decide +kernel
theorem dJ0_length_8abf5_4 : decode cJ0_length_8abf5 4 = .ok (.arraylength, 1) := by decide +kernel
theorem dJ0_length_8abf5_5 : decode cJ0_length_8abf5 5 = .ok (.aload_n 0, 1) := by decide +kernel
theorem dJ0_length_8abf5_6 : decode cJ0_length_8abf5 6 = .ok (.invokevirtual 335, 3) := by decide +kernel
theorem dJ0_length_8abf5_9 : decode cJ0_length_8abf5 9 = .ok (.ishr, 1) := by decide +kernel
theorem dJ0_length_8abf5_10 : decode cJ0_length_8abf5 10 = .ok (.ireturn, 1) := by decide +kernel
theorem okJ0_length_8abf5 : tc_ok yJ0_length_8abf5 cJ0_length_8abf5 1 (some .int) 0 := ⟨wc_J0_length_8abf5, wn_J0, by decide, by decide, by decide +kernel⟩
theorem dJ0_coder_7d493_0 : decode cJ0_coder_7d493 0 = .ok (.getstatic 38, 3) := by decide +kernel
theorem dJ0_coder_7d493_3 : decode cJ0_coder_7d493 3 = .ok (.ifCond .eq 10, 3) := by decide +kernel
theorem dJ0_coder_7d493_6 : decode cJ0_coder_7d493 6 = .ok (.aload_n 0, 1) := by decide +kernel
theorem dJ0_coder_7d493_7 : decode cJ0_coder_7d493 7 = .ok (.getfield 15, 3) := by decide +kernel
theorem dJ0_coder_7d493_10 : decode cJ0_coder_7d493 10 = .ok (.goto 4, 3) := by decide +kernel
theorem dJ0_coder_7d493_13 : decode cJ0_coder_7d493 13 = .ok (.iconst 1, 1) := by decide +kernel
theorem dJ0_coder_7d493_14 : decode cJ0_coder_7d493 14 = .ok (.ireturn, 1) := by decide +kernel
theorem okJ0_coder_7d493 : tc_ok yJ0_coder_7d493 cJ0_coder_7d493 1 (some .byte) 0 := ⟨wc_J0_coder_7d493, wn_J0, by decide, by decide, by decide +kernel⟩
theorem dJ0_charAt_5068e_0 : decode cJ0_charAt_5068e 0 = .ok (.aload_n 0, 1) := by decide +kernel
theorem dJ0_charAt_5068e_1 : decode cJ0_charAt_5068e 1 = .ok (.invokevirtual 492, 3) := by decide +kernel
theorem dJ0_charAt_5068e_4 : decode cJ0_charAt_5068e 4 = .ok (.ifCond .eq 12, 3) := by decide +kernel
theorem dJ0_charAt_5068e_7 : decode cJ0_charAt_5068e 7 = .ok (.aload_n 0, 1) := by decide +kernel
theorem dJ0_charAt_5068e_8 : decode cJ0_charAt_5068e 8 = .ok (.getfield 9, 3) := by decide +kernel
theorem dJ0_charAt_5068e_11 : decode cJ0_charAt_5068e 11 = .ok (.iload_n 1, 1) := by decide +kernel
theorem dJ0_charAt_5068e_12 : decode cJ0_charAt_5068e 12 = .ok (.invokestatic 495, 3) := by decide +kernel
theorem dJ0_charAt_5068e_15 : decode cJ0_charAt_5068e 15 = .ok (.ireturn, 1) := by decide +kernel
theorem dJ0_charAt_5068e_16 : decode cJ0_charAt_5068e 16 = .ok (.aload_n 0, 1) := by decide +kernel
theorem dJ0_charAt_5068e_17 : decode cJ0_charAt_5068e 17 = .ok (.getfield 9, 3) := by decide +kernel
theorem dJ0_charAt_5068e_20 : decode cJ0_charAt_5068e 20 = .ok (.iload_n 1, 1) := by decide +kernel
theorem dJ0_charAt_5068e_21 : decode cJ0_charAt_5068e 21 = .ok (.invokestatic 498, 3) := by decide +kernel
theorem dJ0_charAt_5068e_24 : decode cJ0_charAt_5068e 24 = .ok (.ireturn, 1) := by decide +kernel
theorem okJ0_charAt_5068e : tc_ok yJ0_charAt_5068e cJ0_charAt_5068e 2 (some .char) 1 := ⟨wc_J0_charAt_5068e, wn_J0, by decide, by decide, by decide +kernel⟩
theorem dJ0_isLatin1_aae02_0 : decode cJ0_isLatin1_aae02 0 = .ok (.getstatic 38, 3) := by decide +kernel
theorem dJ0_isLatin1_aae02_3 : decode cJ0_isLatin1_aae02 3 = .ok (.ifCond .eq 14, 3) := by decide +kernel
theorem dJ0_isLatin1_aae02_6 : decode cJ0_isLatin1_aae02 6 = .ok (.aload_n 0, 1) := by decide +kernel
theorem dJ0_isLatin1_aae02_7 : decode cJ0_isLatin1_aae02 7 = .ok (.getfield 15, 3) := by decide +kernel
theorem dJ0_isLatin1_aae02_10 : decode cJ0_isLatin1_aae02 10 = .ok (.ifCond .ne 7, 3) := by decide +kernel
theorem dJ0_isLatin1_aae02_13 : decode cJ0_isLatin1_aae02 13 = .ok (.iconst 1, 1) := by decide +kernel
theorem dJ0_isLatin1_aae02_14 : decode cJ0_isLatin1_aae02 14 = .ok (.goto 4, 3) := by decide +kernel
theorem dJ0_isLatin1_aae02_17 : decode cJ0_isLatin1_aae02 17 = .ok (.iconst 0, 1) := by decide +kernel
theorem dJ0_isLatin1_aae02_18 : decode cJ0_isLatin1_aae02 18 = .ok (.ireturn, 1) := by decide +kernel
theorem okJ0_isLatin1_aae02 : tc_ok yJ0_isLatin1_aae02 cJ0_isLatin1_aae02 1 (some .boolean) 0 := ⟨wc_J0_isLatin1_aae02, wn_J0, by decide, by decide, by decide +kernel⟩
theorem dJ0_checkIndex_df160_0 : decode cJ0_checkIndex_df160 0 = .ok (.iload_n 0, 1) := by decide +kernel
theorem dJ0_checkIndex_df160_1 : decode cJ0_checkIndex_df160 1 = .ok (.iload_n 1, 1) := by decide +kernel
theorem dJ0_checkIndex_df160_2 : decode cJ0_checkIndex_df160 2 = .ok (.getstatic 1053, 3) := by decide +kernel
theorem dJ0_checkIndex_df160_5 : decode cJ0_checkIndex_df160 5 = .ok (.invokestatic 1059, 3) := by decide +kernel
theorem dJ0_checkIndex_df160_8 : decode cJ0_checkIndex_df160 8 = .ok (.pop, 1) := by decide +kernel
theorem dJ0_checkIndex_df160_9 : decode cJ0_checkIndex_df160 9 = .ok (.return_, 1) := by decide +kernel
theorem okJ0_checkIndex_df160 : tc_ok yJ0_checkIndex_df160 cJ0_checkIndex_df160 2 none 2 := ⟨wc_J0_checkIndex_df160, wn_J0, by decide, by decide, by decide +kernel⟩
theorem dJ1_charAt_3b067_0 : decode cJ1_charAt_3b067 0 = .ok (.iload_n 1, 1) := by decide +kernel
theorem dJ1_charAt_3b067_1 : decode cJ1_charAt_3b067 1 = .ok (.aload_n 0, 1) := by decide +kernel
theorem dJ1_charAt_3b067_2 : decode cJ1_charAt_3b067 2 = .ok (.arraylength, 1) := by decide +kernel
theorem dJ1_charAt_3b067_3 : decode cJ1_charAt_3b067 3 = .ok (.invokestatic 9, 3) := by decide +kernel
theorem dJ1_charAt_3b067_6 : decode cJ1_charAt_3b067 6 = .ok (.aload_n 0, 1) := by decide +kernel
theorem dJ1_charAt_3b067_7 : decode cJ1_charAt_3b067 7 = .ok (.iload_n 1, 1) := by decide +kernel
theorem dJ1_charAt_3b067_8 : decode cJ1_charAt_3b067 8 = .ok (.baload, 1) := by decide +kernel
theorem dJ1_charAt_3b067_9 : decode cJ1_charAt_3b067 9 = .ok (.sipush 255, 3) := by decide +kernel
theorem dJ1_charAt_3b067_12 : decode cJ1_charAt_3b067 12 = .ok (.iand, 1) := by decide +kernel
theorem dJ1_charAt_3b067_13 : decode cJ1_charAt_3b067 13 = .ok (.i2c, 1) := by decide +kernel
theorem dJ1_charAt_3b067_14 : decode cJ1_charAt_3b067 14 = .ok (.ireturn, 1) := by decide +kernel
theorem okJ1_charAt_3b067 : tc_ok yJ1_charAt_3b067 cJ1_charAt_3b067 2 (some .char) 2 := ⟨wc_J1_charAt_3b067, wn_J1, by decide, by decide, by decide +kernel⟩
theorem dJ3_checkIndex_8e157_0 : decode cJ3_checkIndex_8e157 0 = .ok (.iload_n 0, 1) := by decide +kernel
theorem dJ3_checkIndex_8e157_1 : decode cJ3_checkIndex_8e157 1 = .ok (.ifCond .lt 8, 3) := by decide +kernel
theorem dJ3_checkIndex_8e157_4 : decode cJ3_checkIndex_8e157 4 = .ok (.iload_n 0, 1) := by decide +kernel
theorem dJ3_checkIndex_8e157_5 : decode cJ3_checkIndex_8e157 5 = .ok (.iload_n 1, 1) := by decide +kernel
theorem dJ3_checkIndex_8e157_6 : decode cJ3_checkIndex_8e157 6 = .ok (.if_icmp .lt 10, 3) := by decide +kernel
theorem dJ3_checkIndex_8e157_9 : decode cJ3_checkIndex_8e157 9 = .ok (.aload_n 2, 1) := by decide +kernel
theorem dJ3_checkIndex_8e157_10 : decode cJ3_checkIndex_8e157 10 = .ok (.iload_n 0, 1) := by decide +kernel
theorem dJ3_checkIndex_8e157_11 : decode cJ3_checkIndex_8e157 11 = .ok (.iload_n 1, 1) := by decide +kernel
theorem dJ3_checkIndex_8e157_12 : decode cJ3_checkIndex_8e157 12 = .ok (.invokestatic 95, 3) := by decide +kernel
theorem dJ3_checkIndex_8e157_15 : decode cJ3_checkIndex_8e157 15 = .ok (.athrow, 1) := by decide +kernel
theorem dJ3_checkIndex_8e157_16 : decode cJ3_checkIndex_8e157 16 = .ok (.iload_n 0, 1) := by decide +kernel
theorem dJ3_checkIndex_8e157_17 : decode cJ3_checkIndex_8e157 17 = .ok (.ireturn, 1) := by decide +kernel
theorem okJ3_checkIndex_8e157 : tc_ok yJ3_checkIndex_8e157 cJ3_checkIndex_8e157 3 (some .int) 3 := ⟨wc_J3_checkIndex_8e157, wn_J3, by decide, by decide, by decide +kernel⟩
theorem wb_ok : ∀ j, j < 136 → ((wordsB.getD j 0 &&& 255).toUInt32 % 65536).toInt32 = wordsB.getD j 0 ∧ narrow .char (.int (wordsB.getD j 0)) = .int (wordsB.getD j 0) := by decide +kernel
abbrev rmS (n k : Nat) : Room := { frames := n, cells := 0, slots := 0, locals := k }
section SY
variable {l : Launch} {aS aV : Nat}
theorem sJ0_coder : sx_MI l aS aV yJ0_coder_7d493 cJ0_coder_7d493 1 (some .byte) (rmS 0 0) [.ref aS] 0 := by
  refine sx_metI (own := RJ0) (by decide) rfl ?_ (Nat.le_of_ble_eq_true rfl)
  intro p e s m below meth c A X hS ls hl
  obtain ⟨hx, hb, hr, hml, hown, hts, hlk, hA, hG1, hG2, hG3, hG4⟩ := X
  have hl : lv_has ls 1 [(0, .ref aS)] := hl
  refine va_gets hx hb hG3 hS hown (hts _ wf_J0_38) (fun _ h => h) dJ0_coder_7d493_0 ?_
  refine lv_if_eq (tgt := 13) hx hb dJ0_coder_7d493_3 (by decide) (fun h => absurd h (by decide)) (fun _ => ?_)
  refine lv_aload_n hx hb dJ0_coder_7d493_6 rfl (lv_at hl 0 rfl) ?_
  refine vk_getf hx hb (hG2.1 0 (by decide)).2.1 hS hown (hts _ wf_J0_15) (fun _ h => h) dJ0_coder_7d493_7 ?_
  refine lv_goto (tgt := 14) hx hb dJ0_coder_7d493_10 (by decide) ?_
  exact W.zret (v := 0) hx hb hr rfl (fun t ht hW => ⟨⟨0, (), rfl, rfl, trivial⟩, hS.F ht⟩) hS.2.2 dJ0_coder_7d493_14
theorem sJ0_isLatin1 : sx_MI l aS aV yJ0_isLatin1_aae02 cJ0_isLatin1_aae02 1 (some .boolean) (rmS 0 0) [.ref aS] 1 := by
  refine sx_metI (own := RJ0) (by decide) rfl ?_ (Nat.le_of_ble_eq_true rfl)
  intro p e s m below meth c A X hS ls hl
  obtain ⟨hx, hb, hr, hml, hown, hts, hlk, hA, hG1, hG2, hG3, hG4⟩ := X
  have hl : lv_has ls 1 [(0, .ref aS)] := hl
  refine va_gets hx hb hG3 hS hown (hts _ wf_J0_38) (fun _ h => h) dJ0_isLatin1_aae02_0 ?_
  refine lv_if_eq (tgt := 17) hx hb dJ0_isLatin1_aae02_3 (by decide) (fun h => absurd h (by decide)) (fun _ => ?_)
  refine lv_aload_n hx hb dJ0_isLatin1_aae02_6 rfl (lv_at hl 0 rfl) ?_
  refine vk_getf hx hb (hG2.1 0 (by decide)).2.1 hS hown (hts _ wf_J0_15) (fun _ h => h) dJ0_isLatin1_aae02_7 ?_
  refine lv_if_ne (tgt := 17) hx hb dJ0_isLatin1_aae02_10 (by decide) (fun h => absurd rfl h) (fun _ => ?_)
  refine lv_iconst (v := 1) hx hb dJ0_isLatin1_aae02_13 (by decide) ?_
  refine lv_goto (tgt := 18) hx hb dJ0_isLatin1_aae02_14 (by decide) ?_
  exact W.zret (v := 1) hx hb hr rfl (fun t ht hW => ⟨⟨1, (), rfl, rfl, trivial⟩, hS.F ht⟩) hS.2.2 dJ0_isLatin1_aae02_18
theorem sJ0_length : sx_MI l aS aV yJ0_length_8abf5 cJ0_length_8abf5 1 (some .int) (rmS 1 20) [.ref aS] 136 := by
  refine sx_metI (own := RJ0) (by decide) rfl ?_ (Nat.le_of_ble_eq_true rfl)
  intro p e s m below meth c A X hS ls hl
  obtain ⟨hx, hb, hr, hml, hown, hts, hlk, hA, hG⟩ := X
  obtain ⟨hG1, hG2, hG3, hG4⟩ := id hG
  have hl : lv_has ls 1 [(0, .ref aS)] := hl
  refine lv_aload_n hx hb dJ0_length_8abf5_0 rfl (lv_at hl 0 rfl) ?_
  refine vk_getf hx hb (hG2.1 0 (by decide)).2.2.1 hS hown (hts _ wf_J0_9) (fun _ h => h) dJ0_length_8abf5_1 ?_
  refine va_tlen (v := 136) hx hb (hG2.1 0 (by decide)).2.2.2 hS rfl dJ0_length_8abf5_4 ?_
  refine lv_aload_n hx hb dJ0_length_8abf5_5 rfl (lv_at hl 0 rfl) ?_
  refine sx_iV (As := []) (rest := [.int 136]) hx hb hml hown hts hA hG hS sJ0_coder okJ0_coder_7d493 wl_J0_335 wi_J0_coder_7d493 ws_J0_J0_coder_7d493_J0_coder_7d493 ⟨rfl, rfl, Nat.le_of_ble_eq_true rfl, Nat.le_of_ble_eq_true rfl⟩ rfl hl.1 (Nat.le_of_ble_eq_true rfl) dJ0_length_8abf5_6 (fun H locs _ _ hS => ?_)
  refine lv_ishr hx hb dJ0_length_8abf5_9 ?_
  exact W.iret (v := (136 : Int32) >>> ((0 : Int32) &&& 31)) hx hb hr (fun t ht hW => ⟨⟨(136 : Int32) >>> ((0 : Int32) &&& 31), (), rfl, by decide, trivial⟩, hS.F ht⟩) hS.2.2 dJ0_length_8abf5_10
theorem sJ3_checkIndex {i n : Int32} {fv : Value} (hfv : fv = .null ∨ ∃ t, fv = .ref t) (h0 : ¬ i < 0) (h1 : i < n) : sx_MI l aS aV yJ3_checkIndex_8e157 cJ3_checkIndex_8e157 3 (some .int) (rmS 0 0) [.int i, .int n, fv] i := by
  have key : ∀ (hlen : (lg_sl [.int i, .int n, fv]).length ≤ 3), sx_MI l aS aV yJ3_checkIndex_8e157 cJ3_checkIndex_8e157 3 (some .int) (rmS 0 0) [.int i, .int n, fv] i := by
    intro hlen
    refine sx_metI (own := RJ3) (by decide) rfl ?_ hlen
    intro p e s m below meth c A X hS ls hl
    obtain ⟨hx, hb, hr, hml, hown, hts, hlk, hA, hG⟩ := X
    have hl : lv_has ls 3 [(0, .int i), (1, .int n), (2, fv)] := hl
    refine lv_iload_n hx hb dJ3_checkIndex_8e157_0 rfl (lv_at hl 0 rfl) ?_
    refine lv_if_lt (tgt := 9) hx hb dJ3_checkIndex_8e157_1 (by decide) (fun h => absurd h h0) (fun _ => ?_)
    refine lv_iload_n hx hb dJ3_checkIndex_8e157_4 rfl (lv_at hl 0 rfl) ?_
    refine lv_iload_n hx hb dJ3_checkIndex_8e157_5 rfl (lv_at hl 1 rfl) ?_
    refine lv_icmp_lt (tgt := 16) hx hb dJ3_checkIndex_8e157_6 (by decide) (fun _ => ?_) (fun h => absurd h1 h)
    refine lv_iload_n hx hb dJ3_checkIndex_8e157_16 rfl (lv_at hl 0 rfl) ?_
    exact W.iret (v := i) hx hb hr (fun t ht hW => ⟨⟨i, (), rfl, rfl, trivial⟩, hS.F ht⟩) hS.2.2 dJ3_checkIndex_8e157_17
  rcases hfv with rfl | ⟨t, rfl⟩
  · exact key (Nat.le_of_ble_eq_true rfl)
  · exact key (Nat.le_of_ble_eq_true rfl)
theorem sJ0_checkIndex {i n : Int32} (h0 : ¬ i < 0) (h1 : i < n) : sx_MV l aS aV yJ0_checkIndex_df160 cJ0_checkIndex_df160 2 none (rmS 1 22) [.int i, .int n] := by
  refine sx_metV (own := RJ0) (by decide) rfl ?_ (Nat.le_of_ble_eq_true rfl)
  intro p e s m below meth c A X hS ls hl
  obtain ⟨hx, hb, hr, hml, hown, hts, hlk, hA, hG⟩ := X
  obtain ⟨hG1, hG2, hG3, hG4⟩ := id hG
  have hl : lv_has ls 2 [(0, .int i), (1, .int n)] := hl
  refine lv_iload_n hx hb dJ0_checkIndex_df160_0 rfl (lv_at hl 0 rfl) ?_
  refine lv_iload_n hx hb dJ0_checkIndex_df160_1 rfl (lv_at hl 1 rfl) ?_
  have go : ∀ fv : Value, (fv = .null ∨ ∃ t, fv = .ref t) → W p l e (rmS 1 22) s m [Value.int i, .int n].toArray below meth c s.heap [] 0 0 (MQ below (va_Qv (fun (_ : Unit) => True) (fun _ _ => True) A) [Value.int i, .int n].toArray s 0 0 A) (F0 m 5 ls [fv, .int n, .int i]) := by
    intro fv hfv
    refine sx_iS (As := [.int i, .int n, fv]) (rest := []) hx hb hml hown hts hA hG hS (sJ3_checkIndex hfv h0 h1) okJ3_checkIndex_8e157 wl_J0_1059 wt_J3_checkIndex_8e157 ⟨rfl, rfl, Nat.le_of_ble_eq_true rfl, Nat.le_of_ble_eq_true rfl⟩ rfl hl.1 (Nat.le_of_ble_eq_true rfl) dJ0_checkIndex_df160_5 (fun H locs _ _ hS => ?_)
    refine lv_pop hx hb dJ0_checkIndex_df160_8 rfl ?_
    exact W.vret hx hb hr (fun t ht hW => ⟨⟨(), rfl, trivial, trivial⟩, hS.F ht⟩) hS.2.2 dJ0_checkIndex_df160_9
  rcases hG4 with h | ⟨t, h⟩
  · refine va_gets hx hb h hS hown (hts _ wf_J0_1053) (fun _ h => h) dJ0_checkIndex_df160_2 ?_
    exact go _ (Or.inl rfl)
  · refine va_gets hx hb h hS hown (hts _ wf_J0_1053) (fun _ h => h) dJ0_checkIndex_df160_2 ?_
    exact go _ (Or.inr ⟨t, rfl⟩)
theorem wch_lt {i : Int32} (hin : vp_in i 136) : ¬ i < 0 ∧ i < 136 ∧ i.toNatClampNeg < 136 := by
  obtain ⟨j, hj, rfl⟩ := vp_in_of hin (by decide)
  refine ⟨nI_pos (by omega), ?_, by rw [nI_clamp (by omega)]; exact hj⟩
  exact nI_lt (a := j) (b := 136) hj (by decide)
theorem sJ1_charAt {i : Int32} (hin : vp_in i 136) : sx_MI l aS aV yJ1_charAt_3b067 cJ1_charAt_3b067 2 (some .char) (rmS 2 43) [.ref aV, .int i] (wch i) := by
  refine sx_metI (own := RJ1) (by decide) rfl ?_ (Nat.le_of_ble_eq_true rfl)
  intro p e s m below meth c A X hS ls hl
  obtain ⟨hx, hb, hr, hml, hown, hts, hlk, hA, hG⟩ := X
  obtain ⟨hG1, hG2, hG3, hG4⟩ := id hG
  obtain ⟨h0, h1, h2⟩ := wch_lt hin
  have hl : lv_has ls 2 [(0, .ref aV), (1, .int i)] := hl
  refine lv_iload_n hx hb dJ1_charAt_3b067_0 rfl (lv_at hl 1 rfl) ?_
  refine lv_aload_n hx hb dJ1_charAt_3b067_1 rfl (lv_at hl 0 rfl) ?_
  refine va_tlen (v := 136) hx hb (hG2.1 0 (by decide)).2.2.2 hS rfl dJ1_charAt_3b067_2 ?_
  refine sx_vS (As := [.int i, .int 136]) (rest := []) hx hb hml hown hts hA hG hS (sJ0_checkIndex h0 h1) okJ0_checkIndex_df160 wl_J1_9 wt_J0_checkIndex_df160 ⟨rfl, rfl, Nat.le_of_ble_eq_true rfl, Nat.le_of_ble_eq_true rfl⟩ rfl hl.1 (Nat.le_of_ble_eq_true rfl) dJ1_charAt_3b067_3 (fun H locs hS => ?_)
  refine lv_aload_n hx hb dJ1_charAt_3b067_6 rfl (lv_at hl 0 rfl) ?_
  refine lv_iload_n hx hb dJ1_charAt_3b067_7 rfl (lv_at hl 1 rfl) ?_
  refine va_tb (v := .int (wch i)) hx hb (hG2.1 0 (by decide)).2.2.2 hS hin rfl dJ1_charAt_3b067_8 ?_
  refine lv_sipush (v := 255) hx hb dJ1_charAt_3b067_9 (by decide) ?_
  refine lv_iand hx hb dJ1_charAt_3b067_12 ?_
  refine lv_i2c (v := wch i) hx hb dJ1_charAt_3b067_13 (wb_ok _ h2).1 ?_
  exact W.zret (v := wch i) hx hb hr (wb_ok _ h2).2 (fun t ht hW => ⟨⟨wch i, (), rfl, rfl, trivial⟩, hS.F ht⟩) hS.2.2 dJ1_charAt_3b067_14
theorem sJ0_charAt {i : Int32} (hin : vp_in i 136) : sx_MI l aS aV yJ0_charAt_5068e cJ0_charAt_5068e 2 (some .char) (rmS 3 64) [.ref aS, .int i] (wch i) := by
  refine sx_metI (own := RJ0) (by decide) rfl ?_ (Nat.le_of_ble_eq_true rfl)
  intro p e s m below meth c A X hS ls hl
  obtain ⟨hx, hb, hr, hml, hown, hts, hlk, hA, hG⟩ := X
  obtain ⟨hG1, hG2, hG3, hG4⟩ := id hG
  obtain ⟨h0, h1, h2⟩ := wch_lt hin
  have hl : lv_has ls 2 [(0, .ref aS), (1, .int i)] := hl
  refine lv_aload_n hx hb dJ0_charAt_5068e_0 rfl (lv_at hl 0 rfl) ?_
  refine sx_iV (As := []) (rest := []) hx hb hml hown hts hA hG hS sJ0_isLatin1 okJ0_isLatin1_aae02 wl_J0_492 wi_J0_isLatin1_aae02 ws_J0_J0_isLatin1_aae02_J0_isLatin1_aae02 ⟨rfl, rfl, Nat.le_of_ble_eq_true rfl, Nat.le_of_ble_eq_true rfl⟩ rfl hl.1 (Nat.le_of_ble_eq_true rfl) dJ0_charAt_5068e_1 (fun H locs _ _ hS => ?_)
  refine lv_if_eq (tgt := 16) hx hb dJ0_charAt_5068e_4 (by decide) (fun h => absurd h (by decide)) (fun _ => ?_)
  refine lv_aload_n hx hb dJ0_charAt_5068e_7 rfl (lv_at hl 0 rfl) ?_
  refine vk_getf hx hb (hG2.1 0 (by decide)).2.2.1 hS hown (hts _ wf_J0_9) (fun _ h => h) dJ0_charAt_5068e_8 ?_
  refine lv_iload_n hx hb dJ0_charAt_5068e_11 rfl (lv_at hl 1 rfl) ?_
  refine sx_iS (As := [.ref aV, .int i]) (rest := []) hx hb hml hown hts hA hG hS (sJ1_charAt hin) okJ1_charAt_3b067 wl_J0_495 wt_J1_charAt_3b067 ⟨rfl, rfl, Nat.le_of_ble_eq_true rfl, Nat.le_of_ble_eq_true rfl⟩ rfl hl.1 (Nat.le_of_ble_eq_true rfl) dJ0_charAt_5068e_12 (fun H locs _ _ hS => ?_)
  exact W.zret (v := wch i) hx hb hr (wb_ok _ h2).2 (fun t ht hW => ⟨⟨wch i, (), rfl, rfl, trivial⟩, hS.F ht⟩) hS.2.2 dJ0_charAt_5068e_15
end SY
section SZ
variable {p : Program} {l : Launch} {e : Env} {R : Room} {s : State} {m : MethodId} {args : Array Value} {below : List Frame} {meth : Method} {c : Code} {H : Heap} {locs : List Loc} {Q : State → Prop}
variable {dC : Nat → ClassId} {dI : Nat → Nat → Nat} {ca : Nat → ClassId} {A : Nat → Prop} {own : String} {cc : ByteArray} {nL : Nat} {ret : Option FieldType} {idx pc : Nat} {ls : Array Slot} {rest : List Value} {ws : va_W} {aS aV : Nat}
theorem tc_keep {H1 : Heap} (hP : va_P (dC, dI) classes ws H) (hD : va_D A ws) (hA : ∀ q, H.size ≤ q → A q) (hk : ∀ q, q < H.size → H1[q]? = H[q]?) : va_P (dC, dI) classes ws H1 := by
  have h1 := va_join (D := (dC, dI)) (cl := classes) (wc := []) (wr := ws) (w1 := []) (H1 := H1) hP hD [] (List.range ws.length) rfl (tc_range ws) (tc_ndr _) (fun _ _ h => by cases h) (fun q h _ => hk q h) (fun q h => by
    rcases h with ⟨k, e, h⟩ | h
    · simp at h
    · exact hA q h) (fun k q h => by simp at h) ⟨fun i j p q h => by simp at h, fun k q h => by simp at h⟩
  rw [List.append_nil] at h1
  exact h1.1
theorem tc_slen (X : tc_X dC dI ca A own cc nL ret p s m args meth c) (hP : va_P (dC, dI) classes ws H) (hD : va_D A ws) (hS : va_S A s.heap H locs) (h1 : vk_R RX4 68 wordsT aS s) (h2 : vk_S 1 [136] [wordsB] (fun _ => aS) (fun _ => aV) A s s.heap) (h3 : va_Z "java/lang/String" "COMPACT_STRINGS" "Z" (.int 1) A s s.heap) (h4 : va_Zq "jdk/internal/util/Preconditions" "SIOOBE_FORMATTER" "Ljava/util/function/BiFunction;" A s s.heap) (hnl : ls.size = nL) (hlk : Cond.methodLink own idx yJ0_length_8abf5 ∈ lw_g) (hfr : 6 ≤ R.frames) (hlo : 200 ≤ R.locals) (hcat : (rest.map fun v => v.category).sum ≤ 8) (hd : decode cc pc = .ok (.invokevirtual idx, 3))
    (kk : ∀ (H1 : Heap) (locs1 : List Loc), va_P (dC, dI) classes ws H1 → va_D A ws → va_S A s.heap H1 locs1 → W p l e R s m args below meth c H1 locs1 0 0 Q (F0 m (pc + 3) ls (.int 136 :: rest))) : W p l e R s m args below meth c H locs 0 0 Q (F0 m pc ls (.ref aS :: rest)) := by
  obtain ⟨hx, hb, hr, hml, hown, hts, hlk2, hK, hA, hG⟩ := X
  exact sx_iV (As := []) (rest := rest) hx hb hml hown hts hA ⟨h1, h2, h3, h4⟩ hS sJ0_length okJ0_length_8abf5 hlk wi_J0_length_8abf5 ws_J0_J0_length_8abf5_J0_length_8abf5 ⟨rfl, rfl, by show 1 + 1 ≤ R.frames; omega, by show 8 + (1 + 11) + 20 ≤ R.locals; omega⟩ rfl hnl hcat hd (fun H1 locs1 hz hk hS1 => kk H1 locs1 (tc_keep hP hD (fun q h => hA q (Nat.le_trans hS.1 h)) hk) hD hS1)
theorem tc_sch {i : Int32} (X : tc_X dC dI ca A own cc nL ret p s m args meth c) (hP : va_P (dC, dI) classes ws H) (hD : va_D A ws) (hS : va_S A s.heap H locs) (h1 : vk_R RX4 68 wordsT aS s) (h2 : vk_S 1 [136] [wordsB] (fun _ => aS) (fun _ => aV) A s s.heap) (h3 : va_Z "java/lang/String" "COMPACT_STRINGS" "Z" (.int 1) A s s.heap) (h4 : va_Zq "jdk/internal/util/Preconditions" "SIOOBE_FORMATTER" "Ljava/util/function/BiFunction;" A s s.heap) (hnl : ls.size = nL) (hlk : Cond.methodLink own idx yJ0_charAt_5068e ∈ lw_g) (hfr : 6 ≤ R.frames) (hlo : 200 ≤ R.locals) (hcat : (rest.map fun v => v.category).sum ≤ 8) (hin : vp_in i 136) (hd : decode cc pc = .ok (.invokevirtual idx, 3))
    (kk : ∀ (H1 : Heap) (locs1 : List Loc), va_P (dC, dI) classes ws H1 → va_D A ws → va_S A s.heap H1 locs1 → W p l e R s m args below meth c H1 locs1 0 0 Q (F0 m (pc + 3) ls (.int (wch i) :: rest))) : W p l e R s m args below meth c H locs 0 0 Q (F0 m pc ls (.int i :: .ref aS :: rest)) := by
  obtain ⟨hx, hb, hr, hml, hown, hts, hlk2, hK, hA, hG⟩ := X
  exact sx_iV (As := [.int i]) (rest := rest) hx hb hml hown hts hA ⟨h1, h2, h3, h4⟩ hS (sJ0_charAt hin) okJ0_charAt_5068e hlk wi_J0_charAt_5068e ws_J0_J0_charAt_5068e_J0_charAt_5068e ⟨rfl, rfl, by show 3 + 1 ≤ R.frames; omega, by show 8 + (2 + 11) + 64 ≤ R.locals; omega⟩ rfl hnl hcat hd (fun H1 locs1 hz hk hS1 => kk H1 locs1 (tc_keep hP hD (fun q h => hA q (Nat.le_trans hS.1 h)) hk) hD hS1)
end SZ
theorem tc_Pm {D : va_G} {cl : List vw_C} {ws ws' : va_W} {H : Heap} (h : ws.Perm ws') (hP : va_P D cl ws H) : va_P D cl ws' H := fun k q hk => by
  have h1 : q ∈ ws := h.mem_iff.mpr (List.mem_of_getElem? hk)
  obtain ⟨i, hi⟩ := List.mem_iff_getElem?.mp h1
  exact hP i q hi
theorem tc_Dn {A : Nat → Prop} {ws : va_W} : va_D A ws ↔ (ws.map (fun q => q.1)).Nodup ∧ ∀ q ∈ ws, A q.1 := by
  constructor
  · intro h
    refine ⟨?_, fun q hq => ?_⟩
    · refine List.pairwise_iff_getElem.mpr (fun i j hi hj hij he => ?_)
      rw [List.length_map] at hi hj
      rw [List.getElem_map, List.getElem_map] at he
      have := h.1 i j _ _ (List.getElem?_eq_getElem hi) (List.getElem?_eq_getElem hj) he
      omega
    · obtain ⟨i, hi⟩ := List.mem_iff_getElem?.mp hq
      exact h.2 i q hi
  · intro h
    refine ⟨fun i j p q hi hj he => ?_, fun k q hk => h.2 q (List.mem_of_getElem? hk)⟩
    have h1 := List.pairwise_iff_getElem.mp h.1
    obtain ⟨hi', ei⟩ := List.getElem?_eq_some_iff.mp hi
    obtain ⟨hj', ej⟩ := List.getElem?_eq_some_iff.mp hj
    rcases Nat.lt_trichotomy i j with hl | hl | hl
    · exact absurd (by rw [List.getElem_map, List.getElem_map, ei, ej]; exact he) (h1 i j (by rw [List.length_map]; exact hi') (by rw [List.length_map]; exact hj') hl)
    · exact hl
    · exact absurd (by rw [List.getElem_map, List.getElem_map, ei, ej]; exact he.symm) (h1 j i (by rw [List.length_map]; exact hj') (by rw [List.length_map]; exact hi') hl)
theorem tc_Dm {A : Nat → Prop} {ws ws' : va_W} (h : ws.Perm ws') (hD : va_D A ws) : va_D A ws' := by
  have h1 := tc_Dn.mp hD
  exact tc_Dn.mpr ⟨(h.map _).nodup_iff.mp h1.1, fun q hq => h1.2 q (h.mem_iff.mpr hq)⟩
theorem tc_app (wr wc : va_W) : tc_cut (wr ++ wc) wc wr ((List.range wc.length).map (fun i => wr.length + i)) (List.range wr.length) := by
  refine ⟨?_, ?_, tc_ndr _, tc_ndm _ ?_, ?_⟩
  · rw [List.map_map]
    have := tc_range wc
    rw [← this]
    apply List.map_congr_left
    intro i _
    simp [List.getElem?_append_right]
  · rw [← tc_range wr]
    apply List.map_congr_left
    intro i hi
    rw [List.getElem?_append_left (List.mem_range.mp hi)]
  · exact List.Pairwise.map _ (fun a b h => by simpa using h) List.nodup_range
  · intro i hi hc
    obtain ⟨j, _, rfl⟩ := List.mem_map.mp hc
    have := List.mem_range.mp hi
    omega
theorem tc_flat {L1 L2 : List va_W} (h : L1.Perm L2) : L1.flatten.Perm L2.flatten := by
  induction h with
  | nil => exact List.Perm.refl _
  | cons x _ ih => simp only [List.flatten_cons]; exact ih.append_left x
  | swap x y l =>
    simp only [List.flatten_cons]
    rw [← List.append_assoc, ← List.append_assoc]
    exact List.perm_append_comm.append_right _
  | trans _ _ h1 h2 => exact h1.trans h2
/-- one of the list comes to its head -/
theorem tc_pk {α : Type} (l1 l2 : List α) (a : α) {t : List α} (h : (l1 ++ l2).Perm t) : (l1 ++ a :: l2).Perm (a :: t) := List.perm_middle.trans (h.cons a)
section TP
variable {p : Program} {l : Launch} {e : Env} {R : Room} {s : State} {m : MethodId} {args : Array Value} {below : List Frame} {meth : Method} {c : Code} {H : Heap} {locs : List Loc} {cells slots : Nat} {Q : State → Prop}
variable {dC : Nat → ClassId} {dI : Nat → Nat → Nat} {ca : Nat → ClassId} {A : Nat → Prop} {own : String} {cc : ByteArray} {nL : Nat} {ret : Option FieldType}
variable {y : MethodName} {bytes : ByteArray} {maxL idx k : Nat} {ret' : Option FieldType} {rm : Room} {av As rest : List Value} {b : Nat} {ws wc wr w1 : va_W} {pc : Nat} {ls : Array Slot}
theorem tc_iVp {r : Int32} (X : tc_X dC dI ca A own cc nL ret p s m args meth c) (hP : va_P (dC, dI) classes ws H) (hD : va_D A ws) (hS : va_S A s.heap H locs)
    (hM : tc_MI l dC dI ca y bytes maxL ret' rm (.ref b :: As) wc w1 r) (ok : tc_ok y bytes maxL ret' k) (hlk : Cond.methodLink own idx y ∈ lw_g) (him : Cond.instanceMethod y ∈ lw_g) {C : String} (hse : Cond.selects C y y ∈ lw_g) (hrm : tc_rm rm R maxL)
    (ci q0 : Nat) {T : u_T} {N : Nat} {fs : List Value} (hc : classes[ci]? = some (C, T, N)) (he : wc[q0]? = some (b, .inr (ci, fs)))
    (hpm : ws.Perm (wr ++ wc)) (hk : As.length = k) (hnl : ls.size = nL) (hcat : (rest.map fun v => v.category).sum ≤ 8) (hd : decode cc pc = .ok (.invokevirtual idx, 3))
    (kk : ∀ (H1 : Heap) (locs1 : List Loc), va_P (dC, dI) classes (wr ++ w1) H1 → va_D A (wr ++ w1) → va_S A s.heap H1 locs1 → W p l e R s m args below meth c H1 locs1 0 0 Q (F0 m (pc + 3) ls (.int r :: rest))) :
    W p l e R s m args below meth c H locs 0 0 Q (F0 m pc ls (As.reverse ++ .ref b :: rest)) :=
  tc_iV X (tc_Pm hpm hP) (tc_Dm hpm hD) hS hM ok hlk him hse hrm ci q0 hc he _ _ (tc_app wr wc) hk hnl hcat hd kk
theorem tc_lVp {r : Int64} (X : tc_X dC dI ca A own cc nL ret p s m args meth c) (hP : va_P (dC, dI) classes ws H) (hD : va_D A ws) (hS : va_S A s.heap H locs)
    (hM : tc_ML l dC dI ca y bytes maxL ret' rm (.ref b :: As) wc w1 r) (ok : tc_ok y bytes maxL ret' k) (hlk : Cond.methodLink own idx y ∈ lw_g) (him : Cond.instanceMethod y ∈ lw_g) {C : String} (hse : Cond.selects C y y ∈ lw_g) (hrm : tc_rm rm R maxL)
    (ci q0 : Nat) {T : u_T} {N : Nat} {fs : List Value} (hc : classes[ci]? = some (C, T, N)) (he : wc[q0]? = some (b, .inr (ci, fs)))
    (hpm : ws.Perm (wr ++ wc)) (hk : As.length = k) (hnl : ls.size = nL) (hcat : (rest.map fun v => v.category).sum ≤ 8) (hd : decode cc pc = .ok (.invokevirtual idx, 3))
    (kk : ∀ (H1 : Heap) (locs1 : List Loc), va_P (dC, dI) classes (wr ++ w1) H1 → va_D A (wr ++ w1) → va_S A s.heap H1 locs1 → W p l e R s m args below meth c H1 locs1 0 0 Q (F0 m (pc + 3) ls (.long r :: rest))) :
    W p l e R s m args below meth c H locs 0 0 Q (F0 m pc ls (As.reverse ++ .ref b :: rest)) :=
  tc_lV X (tc_Pm hpm hP) (tc_Dm hpm hD) hS hM ok hlk him hse hrm ci q0 hc he _ _ (tc_app wr wc) hk hnl hcat hd kk
theorem tc_vVp (X : tc_X dC dI ca A own cc nL ret p s m args meth c) (hP : va_P (dC, dI) classes ws H) (hD : va_D A ws) (hS : va_S A s.heap H locs)
    (hM : tc_MV l dC dI ca y bytes maxL ret' rm (.ref b :: As) wc w1) (ok : tc_ok y bytes maxL ret' k) (hlk : Cond.methodLink own idx y ∈ lw_g) (him : Cond.instanceMethod y ∈ lw_g) {C : String} (hse : Cond.selects C y y ∈ lw_g) (hrm : tc_rm rm R maxL)
    (ci q0 : Nat) {T : u_T} {N : Nat} {fs : List Value} (hc : classes[ci]? = some (C, T, N)) (he : wc[q0]? = some (b, .inr (ci, fs)))
    (hpm : ws.Perm (wr ++ wc)) (hk : As.length = k) (hnl : ls.size = nL) (hcat : (rest.map fun v => v.category).sum ≤ 8) (hd : decode cc pc = .ok (.invokevirtual idx, 3))
    (kk : ∀ (H1 : Heap) (locs1 : List Loc), va_P (dC, dI) classes (wr ++ w1) H1 → va_D A (wr ++ w1) → va_S A s.heap H1 locs1 → W p l e R s m args below meth c H1 locs1 0 0 Q (F0 m (pc + 3) ls rest)) :
    W p l e R s m args below meth c H locs 0 0 Q (F0 m pc ls (As.reverse ++ .ref b :: rest)) :=
  tc_vV X (tc_Pm hpm hP) (tc_Dm hpm hD) hS hM ok hlk him hse hrm ci q0 hc he _ _ (tc_app wr wc) hk hnl hcat hd kk
theorem tc_iSp {r : Int32} (X : tc_X dC dI ca A own cc nL ret p s m args meth c) (hP : va_P (dC, dI) classes ws H) (hD : va_D A ws) (hS : va_S A s.heap H locs)
    (hM : tc_MI l dC dI ca y bytes maxL ret' rm As wc w1 r) (ok : tc_ok y bytes maxL ret' k) (hlk : Cond.methodLink own idx y ∈ lw_g) (hst : Cond.static y ∈ lw_g) (hrm : tc_rm rm R maxL)
    (hpm : ws.Perm (wr ++ wc)) (hk : As.length = k) (hnl : ls.size = nL) (hcat : (rest.map fun v => v.category).sum ≤ 8) (hd : decode cc pc = .ok (.invokestatic idx, 3))
    (kk : ∀ (H1 : Heap) (locs1 : List Loc), va_P (dC, dI) classes (wr ++ w1) H1 → va_D A (wr ++ w1) → va_S A s.heap H1 locs1 → W p l e R s m args below meth c H1 locs1 0 0 Q (F0 m (pc + 3) ls (.int r :: rest))) :
    W p l e R s m args below meth c H locs 0 0 Q (F0 m pc ls (As.reverse ++ rest)) :=
  tc_iS X (tc_Pm hpm hP) (tc_Dm hpm hD) hS hM ok hlk hst hrm _ _ (tc_app wr wc) hk hnl hcat hd kk
theorem tc_lSp {r : Int64} (X : tc_X dC dI ca A own cc nL ret p s m args meth c) (hP : va_P (dC, dI) classes ws H) (hD : va_D A ws) (hS : va_S A s.heap H locs)
    (hM : tc_ML l dC dI ca y bytes maxL ret' rm As wc w1 r) (ok : tc_ok y bytes maxL ret' k) (hlk : Cond.methodLink own idx y ∈ lw_g) (hst : Cond.static y ∈ lw_g) (hrm : tc_rm rm R maxL)
    (hpm : ws.Perm (wr ++ wc)) (hk : As.length = k) (hnl : ls.size = nL) (hcat : (rest.map fun v => v.category).sum ≤ 8) (hd : decode cc pc = .ok (.invokestatic idx, 3))
    (kk : ∀ (H1 : Heap) (locs1 : List Loc), va_P (dC, dI) classes (wr ++ w1) H1 → va_D A (wr ++ w1) → va_S A s.heap H1 locs1 → W p l e R s m args below meth c H1 locs1 0 0 Q (F0 m (pc + 3) ls (.long r :: rest))) :
    W p l e R s m args below meth c H locs 0 0 Q (F0 m pc ls (As.reverse ++ rest)) :=
  tc_lS X (tc_Pm hpm hP) (tc_Dm hpm hD) hS hM ok hlk hst hrm _ _ (tc_app wr wc) hk hnl hcat hd kk
theorem tc_vSp (X : tc_X dC dI ca A own cc nL ret p s m args meth c) (hP : va_P (dC, dI) classes ws H) (hD : va_D A ws) (hS : va_S A s.heap H locs)
    (hM : tc_MV l dC dI ca y bytes maxL ret' rm As wc w1) (ok : tc_ok y bytes maxL ret' k) (hlk : Cond.methodLink own idx y ∈ lw_g) (hst : Cond.static y ∈ lw_g) (hrm : tc_rm rm R maxL)
    (hpm : ws.Perm (wr ++ wc)) (hk : As.length = k) (hnl : ls.size = nL) (hcat : (rest.map fun v => v.category).sum ≤ 8) (hd : decode cc pc = .ok (.invokestatic idx, 3))
    (kk : ∀ (H1 : Heap) (locs1 : List Loc), va_P (dC, dI) classes (wr ++ w1) H1 → va_D A (wr ++ w1) → va_S A s.heap H1 locs1 → W p l e R s m args below meth c H1 locs1 0 0 Q (F0 m (pc + 3) ls rest)) :
    W p l e R s m args below meth c H locs 0 0 Q (F0 m pc ls (As.reverse ++ rest)) :=
  tc_vS X (tc_Pm hpm hP) (tc_Dm hpm hD) hS hM ok hlk hst hrm _ _ (tc_app wr wc) hk hnl hcat hd kk
theorem tc_iUp {r : Int32} (X : tc_X dC dI ca A own cc nL ret p s m args meth c) (hP : va_P (dC, dI) classes ws H) (hD : va_D A ws) (hS : va_S A s.heap H locs)
    (hM : tc_MI l dC dI ca y bytes maxL ret' rm (.ref b :: As) wc w1 r) (ok : tc_ok y bytes maxL ret' k) {x : MethodName} {owner : String} (hlk : Cond.methodLink own idx x ∈ lw_g) (hsm : Cond.sameMethod x.cls owner x.name x.desc ∈ lw_g) (hyx : y = ⟨owner, x.name, x.desc⟩) (him : Cond.instanceMethod y ∈ lw_g) {C : String} (hse : Cond.selects C x y ∈ lw_g) (hrm : tc_rm rm R maxL)
    (ci q0 : Nat) {T : u_T} {N : Nat} {fs : List Value} (hc : classes[ci]? = some (C, T, N)) (he : wc[q0]? = some (b, .inr (ci, fs)))
    (hpm : ws.Perm (wr ++ wc)) (hk : As.length = k) (hnl : ls.size = nL) (hcat : (rest.map fun v => v.category).sum ≤ 8) (hd : decode cc pc = .ok (.invokevirtual idx, 3))
    (kk : ∀ (H1 : Heap) (locs1 : List Loc), va_P (dC, dI) classes (wr ++ w1) H1 → va_D A (wr ++ w1) → va_S A s.heap H1 locs1 → W p l e R s m args below meth c H1 locs1 0 0 Q (F0 m (pc + 3) ls (.int r :: rest))) :
    W p l e R s m args below meth c H locs 0 0 Q (F0 m pc ls (As.reverse ++ .ref b :: rest)) :=
  tc_iU X (tc_Pm hpm hP) (tc_Dm hpm hD) hS hM ok hlk hsm hyx him hse hrm ci q0 hc he _ _ (tc_app wr wc) hk hnl hcat hd kk
theorem tc_lUp {r : Int64} (X : tc_X dC dI ca A own cc nL ret p s m args meth c) (hP : va_P (dC, dI) classes ws H) (hD : va_D A ws) (hS : va_S A s.heap H locs)
    (hM : tc_ML l dC dI ca y bytes maxL ret' rm (.ref b :: As) wc w1 r) (ok : tc_ok y bytes maxL ret' k) {x : MethodName} {owner : String} (hlk : Cond.methodLink own idx x ∈ lw_g) (hsm : Cond.sameMethod x.cls owner x.name x.desc ∈ lw_g) (hyx : y = ⟨owner, x.name, x.desc⟩) (him : Cond.instanceMethod y ∈ lw_g) {C : String} (hse : Cond.selects C x y ∈ lw_g) (hrm : tc_rm rm R maxL)
    (ci q0 : Nat) {T : u_T} {N : Nat} {fs : List Value} (hc : classes[ci]? = some (C, T, N)) (he : wc[q0]? = some (b, .inr (ci, fs)))
    (hpm : ws.Perm (wr ++ wc)) (hk : As.length = k) (hnl : ls.size = nL) (hcat : (rest.map fun v => v.category).sum ≤ 8) (hd : decode cc pc = .ok (.invokevirtual idx, 3))
    (kk : ∀ (H1 : Heap) (locs1 : List Loc), va_P (dC, dI) classes (wr ++ w1) H1 → va_D A (wr ++ w1) → va_S A s.heap H1 locs1 → W p l e R s m args below meth c H1 locs1 0 0 Q (F0 m (pc + 3) ls (.long r :: rest))) :
    W p l e R s m args below meth c H locs 0 0 Q (F0 m pc ls (As.reverse ++ .ref b :: rest)) :=
  tc_lU X (tc_Pm hpm hP) (tc_Dm hpm hD) hS hM ok hlk hsm hyx him hse hrm ci q0 hc he _ _ (tc_app wr wc) hk hnl hcat hd kk
theorem tc_vUp (X : tc_X dC dI ca A own cc nL ret p s m args meth c) (hP : va_P (dC, dI) classes ws H) (hD : va_D A ws) (hS : va_S A s.heap H locs)
    (hM : tc_MV l dC dI ca y bytes maxL ret' rm (.ref b :: As) wc w1) (ok : tc_ok y bytes maxL ret' k) {x : MethodName} {owner : String} (hlk : Cond.methodLink own idx x ∈ lw_g) (hsm : Cond.sameMethod x.cls owner x.name x.desc ∈ lw_g) (hyx : y = ⟨owner, x.name, x.desc⟩) (him : Cond.instanceMethod y ∈ lw_g) {C : String} (hse : Cond.selects C x y ∈ lw_g) (hrm : tc_rm rm R maxL)
    (ci q0 : Nat) {T : u_T} {N : Nat} {fs : List Value} (hc : classes[ci]? = some (C, T, N)) (he : wc[q0]? = some (b, .inr (ci, fs)))
    (hpm : ws.Perm (wr ++ wc)) (hk : As.length = k) (hnl : ls.size = nL) (hcat : (rest.map fun v => v.category).sum ≤ 8) (hd : decode cc pc = .ok (.invokevirtual idx, 3))
    (kk : ∀ (H1 : Heap) (locs1 : List Loc), va_P (dC, dI) classes (wr ++ w1) H1 → va_D A (wr ++ w1) → va_S A s.heap H1 locs1 → W p l e R s m args below meth c H1 locs1 0 0 Q (F0 m (pc + 3) ls rest)) :
    W p l e R s m args below meth c H locs 0 0 Q (F0 m pc ls (As.reverse ++ .ref b :: rest)) :=
  tc_vU X (tc_Pm hpm hP) (tc_Dm hpm hD) hS hM ok hlk hsm hyx him hse hrm ci q0 hc he _ _ (tc_app wr wc) hk hnl hcat hd kk
end TP
section TQ
variable {p : Program} {l : Launch} {e : Env} {R : Room} {s : State} {m : MethodId} {args : Array Value} {below : List Frame} {meth : Method} {c : Code} {H : Heap} {locs : List Loc} {cells slots : Nat} {Q : State → Prop}
variable {dC : Nat → ClassId} {dI : Nat → Nat → Nat} {ca : Nat → ClassId} {A : Nat → Prop} {own : String} {cc : ByteArray} {nL : Nat} {ret : Option FieldType}
variable {y : MethodName} {bytes : ByteArray} {maxL idx k : Nat} {ret' : Option FieldType} {rm : Room} {av As rest : List Value} {b : Nat} {ws wc wr : va_W} {w1 : (Nat → Value) → va_W} {pc : Nat} {ls : Array Slot}
theorem tc_iVxp {r : Int32} (X : tc_X dC dI ca A own cc nL ret p s m args meth c) (hP : va_P (dC, dI) classes ws H) (hD : va_D A ws) (hS : va_S A s.heap H locs)
    (hM : tc_MIx l dC dI ca y bytes maxL ret' rm (.ref b :: As) wc w1 r) (ok : tc_ok y bytes maxL ret' k) (hlk : Cond.methodLink own idx y ∈ lw_g) (him : Cond.instanceMethod y ∈ lw_g) {C : String} (hse : Cond.selects C y y ∈ lw_g) (hrm : tc_rm rm R maxL)
    (ci q0 : Nat) {T : u_T} {N : Nat} {fs : List Value} (hc : classes[ci]? = some (C, T, N)) (he : wc[q0]? = some (b, .inr (ci, fs)))
    (hpm : ws.Perm (wr ++ wc)) (hk : As.length = k) (hnl : ls.size = nL) (hcat : (rest.map fun v => v.category).sum ≤ 8) (hd : decode cc pc = .ok (.invokevirtual idx, 3))
    (kk : ∀ (u : Nat → Value) (H1 : Heap) (locs1 : List Loc), va_P (dC, dI) classes (wr ++ w1 u) H1 → va_D A (wr ++ w1 u) → va_S A s.heap H1 locs1 → W p l e R s m args below meth c H1 locs1 0 0 Q (F0 m (pc + 3) ls (.int r :: rest))) :
    W p l e R s m args below meth c H locs 0 0 Q (F0 m pc ls (As.reverse ++ .ref b :: rest)) :=
  tc_iVx X (tc_Pm hpm hP) (tc_Dm hpm hD) hS hM ok hlk him hse hrm ci q0 hc he _ _ (tc_app wr wc) hk hnl hcat hd kk
end TQ
