/-! the worlds' words: a state of a module is four tables of numbers; contracts by equations; calls -/
abbrev classes : List vw_C := [(RX0, TX0, 10), (RX1, TX1, 8), (RX2, TX2, 15), (RX3, TX3, 6), (RX9, TX9, 3), (RX5, TX5, 4), (RX6, TX6, 2), (RX7, TX7, 18), (RX8, TX8, 13), (RX9, TX9, 3), (RX10, TX10, 4), (RX11, TX11, 20), (RX12, TX12, 49)]
abbrev ms_T : Type := (Nat → Int32) × (Nat → Int64) × (Nat → Nat → Int32) × (Nat → Nat → Int64)
def gi (S : ms_T) (k : Nat) : Int32 := S.1 k
def gl (S : ms_T) (k : Nat) : Int64 := S.2.1 k
def ra (S : ms_T) (a : Nat) : Nat → Int32 := S.2.2.1 a
def rl (S : ms_T) (a : Nat) : Nat → Int64 := S.2.2.2 a
def si (S : ms_T) (k : Nat) (v : Int32) : ms_T := (fun j => if j = k then v else S.1 j, S.2)
def sl (S : ms_T) (k : Nat) (v : Int64) : ms_T := (S.1, fun j => if j = k then v else S.2.1 j, S.2.2)
def sr (S : ms_T) (a : Nat) (f : Nat → Int32) : ms_T := (S.1, S.2.1, fun b => if b = a then f else S.2.2.1 b, S.2.2.2)
def sR (S : ms_T) (a : Nat) (f : Nat → Int64) : ms_T := (S.1, S.2.1, S.2.2.1, fun b => if b = a then f else S.2.2.2 b)
def sa (S : ms_T) (a : Nat) (i v : Int32) : ms_T := sr S a (upd (ra S a) i.toNatClampNeg v)
def sA (S : ms_T) (a : Nat) (i : Int32) (v : Int64) : ms_T := sR S a (vp_updL (rl S a) i.toNatClampNeg v)
def ia (S : ms_T) (a : Nat) (i : Int32) : Int32 := ra S a i.toNatClampNeg
def la (S : ms_T) (a : Nat) (i : Int32) : Int64 := rl S a i.toNatClampNeg
def inb (i : Int32) (n : Nat) : Bool := !(decide (i < 0) || decide (n ≤ i.toNatClampNeg))
theorem inb_vp {i : Int32} {n : Nat} (h : inb i n = true) : vp_in i n := by
  unfold inb at h; unfold vp_in
  simpa [not_or] using h
def jmax (x y : Int32) : Int32 := if x < y then y else x
def jmin (x y : Int32) : Int32 := if y < x then y else x
def jabs (x : Int32) : Int32 := if 0 ≤ x then x else 0 - x
def jmaxl (x y : Int64) : Int64 := if y < x then x else y
def jabsl (x : Int64) : Int64 := if 0 < x then x else -x
def FU : Nat := 1000000
theorem tc_pos {α : Type} {c : Prop} [Decidable c] {a b r : α} (hc : c) (h : (if c then a else b) = r) : a = r := by rwa [if_pos hc] at h
theorem tc_neg {α : Type} {c : Prop} [Decidable c] {a b r : α} (hc : ¬ c) (h : (if c then a else b) = r) : b = r := by rwa [if_neg hc] at h
theorem tc_ck {α : Type} {c : Prop} [Decidable c] {a : Option α} {r : α} (h : (if c then a else none) = some r) : c ∧ a = some r := by
  by_cases hc : c
  · rw [if_pos hc] at h; exact ⟨hc, h⟩
  · rw [if_neg hc] at h; cases h
theorem tc_in {α : Type} {i : Int32} {n : Nat} {a : Option α} {r : α} (h : (if inb i n = true then a else none) = some r) : vp_in i n ∧ a = some r := ⟨inb_vp (tc_ck h).1, (tc_ck h).2⟩
theorem tc_bi {α β : Type} {o : Option α} {f : α → Option β} {r : β} (h : o.bind f = some r) : ∃ x, o = some x ∧ f x = some r := by
  cases o with
  | none => cases h
  | some x => exact ⟨x, rfl, h⟩
abbrev ty_ (ca : Nat → ClassId) : List (ClassId × FieldType) := [(ca 0, .byte), (ca 1, .int), (ca 2, .long), (ca 3, .object "TalkChutes$State"), (ca 4, .object "TalkChutes$Tray")]
def wB (y : MethodName) (cc : ByteArray) (n : Nat) (r : Option FieldType) : List Cond := .code y cc n r :: lw_g
theorem wB_good {y : MethodName} {cc : ByteArray} {n : Nat} {r : Option FieldType} (h : Cond.code y cc n r ∈ lw_g) : GoodIn lw_g (wB y cc n r) := fun w hw => by
  rcases List.mem_cons.mp hw with rfl | hw
  · exact ⟨h, lw_good _ h⟩
  · exact ⟨hw, lw_good _ hw⟩
/-- what is known of a method by its name: its code's word, its class is there, how many it takes -/
def tc_ok (y : MethodName) (cc : ByteArray) (n : Nat) (r : Option FieldType) (k : Nat) : Prop :=
  Cond.code y cc n r ∈ lw_g ∧ Cond.initialized y.cls ∈ lw_g ∧ y.cls ≠ "java/lang/invoke/MethodHandle" ∧ y.cls ≠ "java/lang/invoke/VarHandle" ∧ (parseMethodDescriptor y.desc).map (fun d => d.parameters.length) = some k
def wordsT : String := "odds topic worth drift claim at propped needs talker seat on fails feud say drop pull prop cut any when stands falls high loop end stop "
def wordsB : List Int32 := [111, 100, 100, 115, 32, 116, 111, 112, 105, 99, 32, 119, 111, 114, 116, 104, 32, 100, 114, 105, 102, 116, 32, 99, 108, 97, 105, 109, 32, 97, 116, 32, 112, 114, 111, 112, 112, 101, 100, 32, 110, 101, 101, 100, 115, 32, 116, 97, 108, 107, 101, 114, 32, 115, 101, 97, 116, 32, 111, 110, 32, 102, 97, 105, 108, 115, 32, 102, 101, 117, 100, 32, 115, 97, 121, 32, 100, 114, 111, 112, 32, 112, 117, 108, 108, 32, 112, 114, 111, 112, 32, 99, 117, 116, 32, 97, 110, 121, 32, 119, 104, 101, 110, 32, 115, 116, 97, 110, 100, 115, 32, 102, 97, 108, 108, 115, 32, 104, 105, 103, 104, 32, 108, 111, 111, 112, 32, 101, 110, 100, 32, 115, 116, 111, 112, 32]
/-- what lies outside every world: the text of the words, and the statics that the library reads -/
def tc_G (A : Nat → Prop) (U : State) : Prop := ∃ aS aV : Nat, vk_R RX4 68 wordsT aS U ∧ vk_S 1 [136] [wordsB] (fun _ => aS) (fun _ => aV) A U U.heap ∧ va_Z "java/lang/String" "COMPACT_STRINGS" "Z" (.int 1) A U U.heap ∧ va_Zq "jdk/internal/util/Preconditions" "SIOOBE_FORMATTER" "Ljava/util/function/BiFunction;" A U U.heap
theorem tc_G.same {A : Nat → Prop} {u U : State} (hv : U.vm = u.vm) (hh : U.heap = u.heap) (h : tc_G A u) : tc_G A U := by
  obtain ⟨aS, aV, h1, h2, h3, h4⟩ := h
  refine ⟨aS, aV, vk_R.same hv h1, ?_, ?_, ?_⟩
  · rw [hh]; exact vk_S.moved (by rw [hv]; exact Vm.Alike.refl _) h2
  · rw [hh]; exact va_Z.moved (by rw [hv]; exact Vm.Alike.refl _) h3
  · rw [hh]; exact va_Zq.moved (by rw [hv]; exact Vm.Alike.refl _) h4
theorem tc_G.go {A B : Nat → Prop} {s U : State} (hW : s.WarmedH U.vm) (hq : ∀ a : Nat, a < s.heap.size → ¬ A a → U.heap[a]? = s.heap[a]?) (hAB : ∀ q, B q → A q) (h : tc_G A s) : tc_G B U := by
  obtain ⟨aS, aV, h1, h2, h3, h4⟩ := h
  exact ⟨aS, aV, vk_R.warm hW h1, ((vk_S.moved hW.alike h2).kept hq).narrow hAB, ((va_Z.moved hW.alike h3).kept hq).narrow hAB, ((va_Zq.moved hW.alike h4).kept hq).narrow hAB⟩
/-- at a method's entry: the machine, the code, the words, the arrays' classes, which cells are its own -/
def tc_X (dC : Nat → ClassId) (dI : Nat → Nat → Nat) (ca : Nat → ClassId) (A : Nat → Prop) (own : String) (cc : ByteArray) (nL : Nat) (ret : Option FieldType) (p : Program) (s : State) (m : MethodId) (args : Array Value) (meth : Method) (c : Code) : Prop :=
  p.tables.exec = Jvm.exec ∧ c.code = cc ∧ meth.sig.returnType = ret ∧ c.maxLocals = nL ∧ s.vm.findClass own = some m.cls ∧ (∀ w ∈ lw_g, w.before args s = true) ∧ meth.locks = false ∧ va_K (dC, dI) classes (ty_ ca) s ∧ (∀ q, s.heap.size ≤ q → A q) ∧ tc_G A s
def tc_Pre (dC : Nat → ClassId) (dI : Nat → Nat → Nat) (ca : Nat → ClassId) (av : List Value) (w0 : va_W) (sz : Nat) : Array Value → State → Prop :=
  va_Pc av (fun U => U.heap.size = sz ∧ va_P (dC, dI) classes w0 U.heap ∧ va_K (dC, dI) classes (ty_ ca) U ∧ va_D (fun _ => True) w0 ∧ tc_G (va_A w0 sz) U)
def tc_B (dC : Nat → ClassId) (dI : Nat → Nat → Nat) (ca : Nat → ClassId) (A : Nat → Prop) (w1 : va_W) : Unit → State → Prop :=
  fun _ t => va_P (dC, dI) classes w1 t.heap ∧ va_K (dC, dI) classes (ty_ ca) t ∧ va_D A w1
def tc_QI (dC : Nat → ClassId) (dI : Nat → Nat → Nat) (ca : Nat → ClassId) (A : Nat → Prop) (w1 : va_W) (r : Int32) := va_Qi (fun r' (_ : Unit) => r' = r) (tc_B dC dI ca A w1) A
def tc_QL (dC : Nat → ClassId) (dI : Nat → Nat → Nat) (ca : Nat → ClassId) (A : Nat → Prop) (w1 : va_W) (r : Int64) := va_Ql (fun r' (_ : Unit) => r' = r) (tc_B dC dI ca A w1) A
def tc_QV (dC : Nat → ClassId) (dI : Nat → Nat → Nat) (ca : Nat → ClassId) (A : Nat → Prop) (w1 : va_W) := va_Qv (fun (_ : Unit) => True) (tc_B dC dI ca A w1) A
/-- the contracts: from the world w0 the method comes to the world w1, and answers r; nothing else changes, nothing is made -/
def tc_MI (l : Launch) (dC : Nat → ClassId) (dI : Nat → Nat → Nat) (ca : Nat → ClassId) (y : MethodName) (cc : ByteArray) (nL : Nat) (ret : Option FieldType) (rm : Room) (av : List Value) (w0 w1 : va_W) (r : Int32) : Prop :=
  ∀ sz, Met l y (wB y cc nL ret) rm (tc_Pre dC dI ca av w0 sz) (tc_QI dC dI ca (va_A w0 sz) w1 r) 0 0 (va_A w0 sz)
def tc_ML (l : Launch) (dC : Nat → ClassId) (dI : Nat → Nat → Nat) (ca : Nat → ClassId) (y : MethodName) (cc : ByteArray) (nL : Nat) (ret : Option FieldType) (rm : Room) (av : List Value) (w0 w1 : va_W) (r : Int64) : Prop :=
  ∀ sz, Met l y (wB y cc nL ret) rm (tc_Pre dC dI ca av w0 sz) (tc_QL dC dI ca (va_A w0 sz) w1 r) 0 0 (va_A w0 sz)
def tc_MV (l : Launch) (dC : Nat → ClassId) (dI : Nat → Nat → Nat) (ca : Nat → ClassId) (y : MethodName) (cc : ByteArray) (nL : Nat) (ret : Option FieldType) (rm : Room) (av : List Value) (w0 w1 : va_W) : Prop :=
  ∀ sz, Met l y (wB y cc nL ret) rm (tc_Pre dC dI ca av w0 sz) (tc_QV dC dI ca (va_A w0 sz) w1) 0 0 (va_A w0 sz)
theorem tc_blind {dC : Nat → ClassId} {dI : Nat → Nat → Nat} {ca : Nat → ClassId} {av : List Value} {w0 : va_W} {sz : Nat} : FrameBlind (tc_Pre dC dI ca av w0 sz) := fun a U g mk q => by
  obtain ⟨q0, q1, qP, qK, qD, qG⟩ := q
  exact ⟨q0, q1, qP, va_K.moved (u := U) (U := U.calling g mk a) (Vm.Alike.refl U.vm) qK, qD, tc_G.same rfl rfl qG⟩
theorem tc_fm {ws wc : va_W} {isC : List Nat} (h : isC.map (fun i => ws[i]?) = wc.map some) : isC.filterMap (fun i => ws[i]?) = wc := by
  have h2 : isC.filterMap (fun i => ws[i]?) = (isC.map (fun i => ws[i]?)).filterMap id := by
    induction isC generalizing wc with
    | nil => rfl
    | cons a t ih =>
      cases wc with
      | nil => cases h
      | cons x xs =>
        obtain ⟨h1, h3⟩ := List.cons.inj h
        simp only [List.map_cons, List.filterMap_cons, h1, id]
        rw [ih h3]
  rw [h2, h]
  induction wc with
  | nil => rfl
  | cons x xs ih => simp [List.filterMap_cons]
def tc_cut (ws wc wr : va_W) (isC isR : List Nat) : Prop := isC.map (fun i => ws[i]?) = wc.map some ∧ isR.map (fun i => ws[i]?) = wr.map some ∧ va_nd isR = true ∧ va_nd isC = true ∧ ∀ i ∈ isR, i ∉ isC
theorem tc_range (ws : va_W) : (List.range ws.length).map (fun i => ws[i]?) = ws.map some := by
  apply List.ext_getElem?
  intro i
  simp only [List.getElem?_map]
  by_cases h : i < ws.length
  · simp [h]
  · have h2 : ws.length ≤ i := Nat.le_of_not_lt h
    simp [h2]
theorem tc_ndm (l : List Nat) (h : l.Nodup) : va_nd l = true := by
  induction l with
  | nil => rfl
  | cons a t ih =>
    have h2 := List.nodup_cons.mp h
    simp [va_nd, h2.1, ih h2.2]
theorem tc_ndr (n : Nat) : va_nd (List.range n) = true := tc_ndm _ List.nodup_range
theorem tc_self (ws : va_W) : tc_cut ws ws [] (List.range ws.length) [] := ⟨tc_range ws, rfl, rfl, tc_ndr _, fun _ h => by cases h⟩
theorem tc_none (ws : va_W) : tc_cut ws [] ws [] (List.range ws.length) := ⟨rfl, tc_range ws, tc_ndr _, rfl, fun _ _ h => by cases h⟩
section TC
variable {p : Program} {l : Launch} {e : Env} {R : Room} {s : State} {m : MethodId} {args : Array Value} {below : List Frame} {meth : Method} {c : Code} {H : Heap} {locs : List Loc} {cells slots : Nat} {Q : State → Prop}
variable {dC : Nat → ClassId} {dI : Nat → Nat → Nat} {ca : Nat → ClassId} {A : Nat → Prop} {own : String} {cc : ByteArray} {nL : Nat} {ret : Option FieldType}
variable {y : MethodName} {bytes : ByteArray} {maxL idx k : Nat} {ret' : Option FieldType} {rm : Room} {av As rest : List Value} {b : Nat} {ws wc wr w1 : va_W} {pc : Nat} {ls : Array Slot}
/-- a method's body, from its entry on, gives its contract -/
theorem tc_metI {w0 : va_W} {r : Int32} (hy : plainName y.cls = true) (hcls : y.cls = own)
    (body : ∀ p e s m below meth c (A : Nat → Prop), tc_X dC dI ca A own cc nL ret p s m av.toArray meth c → va_P (dC, dI) classes w0 s.heap → va_D A w0 → va_S A s.heap s.heap [] → ∀ ls : Array Slot, lv_has ls nL (lv_args 0 av) →
      W p l e rm s m av.toArray below meth c s.heap [] 0 0 (MQ below (tc_QI dC dI ca A w1 r) av.toArray s 0 0 A) (F0 m 0 ls [])) (hlen : (lg_sl av).length ≤ nL) : tc_MI l dC dI ca y cc nL ret rm av w0 w1 r := fun sz => by
  refine Met.ofW (cc := cc) (maxL := nL) (ret := ret) hy rfl ?_
  intro p e s m args below meth c s₁ B hml hv
  obtain ⟨rfl, hsz, hP, hK, hD0, hG⟩ := hv
  have hts := atoms_spec (ws := wB y cc nL ret) B.pre
  have hown : s.vm.findClass y.cls = some m.cls := findClass_of_methodNamed B.named
  subst hsz; subst hcls
  have hl := lv_entry av (n := nL) hlen
  rw [lg_entry_eq]
  exact body p e s m below meth c _ ⟨B.exec, B.bytes, B.returns, hml, hown, fun w h => hts w (List.mem_cons_of_mem _ h), B.notSynchronized, hK, fun q h => Or.inr h, hG⟩ hP (hD0.self (sz := s.heap.size)) va_S.rf _ hl
theorem tc_metL {w0 : va_W} {r : Int64} (hy : plainName y.cls = true) (hcls : y.cls = own)
    (body : ∀ p e s m below meth c (A : Nat → Prop), tc_X dC dI ca A own cc nL ret p s m av.toArray meth c → va_P (dC, dI) classes w0 s.heap → va_D A w0 → va_S A s.heap s.heap [] → ∀ ls : Array Slot, lv_has ls nL (lv_args 0 av) →
      W p l e rm s m av.toArray below meth c s.heap [] 0 0 (MQ below (tc_QL dC dI ca A w1 r) av.toArray s 0 0 A) (F0 m 0 ls [])) (hlen : (lg_sl av).length ≤ nL) : tc_ML l dC dI ca y cc nL ret rm av w0 w1 r := fun sz => by
  refine Met.ofW (cc := cc) (maxL := nL) (ret := ret) hy rfl ?_
  intro p e s m args below meth c s₁ B hml hv
  obtain ⟨rfl, hsz, hP, hK, hD0, hG⟩ := hv
  have hts := atoms_spec (ws := wB y cc nL ret) B.pre
  have hown : s.vm.findClass y.cls = some m.cls := findClass_of_methodNamed B.named
  subst hsz; subst hcls
  have hl := lv_entry av (n := nL) hlen
  rw [lg_entry_eq]
  exact body p e s m below meth c _ ⟨B.exec, B.bytes, B.returns, hml, hown, fun w h => hts w (List.mem_cons_of_mem _ h), B.notSynchronized, hK, fun q h => Or.inr h, hG⟩ hP (hD0.self (sz := s.heap.size)) va_S.rf _ hl
theorem tc_metV {w0 : va_W} (hy : plainName y.cls = true) (hcls : y.cls = own)
    (body : ∀ p e s m below meth c (A : Nat → Prop), tc_X dC dI ca A own cc nL ret p s m av.toArray meth c → va_P (dC, dI) classes w0 s.heap → va_D A w0 → va_S A s.heap s.heap [] → ∀ ls : Array Slot, lv_has ls nL (lv_args 0 av) →
      W p l e rm s m av.toArray below meth c s.heap [] 0 0 (MQ below (tc_QV dC dI ca A w1) av.toArray s 0 0 A) (F0 m 0 ls [])) (hlen : (lg_sl av).length ≤ nL) : tc_MV l dC dI ca y cc nL ret rm av w0 w1 := fun sz => by
  refine Met.ofW (cc := cc) (maxL := nL) (ret := ret) hy rfl ?_
  intro p e s m args below meth c s₁ B hml hv
  obtain ⟨rfl, hsz, hP, hK, hD0, hG⟩ := hv
  have hts := atoms_spec (ws := wB y cc nL ret) B.pre
  have hown : s.vm.findClass y.cls = some m.cls := findClass_of_methodNamed B.named
  subst hsz; subst hcls
  have hl := lv_entry av (n := nL) hlen
  rw [lg_entry_eq]
  exact body p e s m below meth c _ ⟨B.exec, B.bytes, B.returns, hml, hown, fun w h => hts w (List.mem_cons_of_mem _ h), B.notSynchronized, hK, fun q h => Or.inr h, hG⟩ hP (hD0.self (sz := s.heap.size)) va_S.rf _ hl
/-- a room that fits -/
def tc_rm (rm R : Room) (maxL : Nat) : Prop := rm.cells = 0 ∧ rm.slots = 0 ∧ rm.frames + 1 ≤ R.frames ∧ 8 + (maxL + 11) + rm.locals ≤ R.locals
theorem tc_cb (X : tc_X dC dI ca A own cc nL ret p s m args meth c) (ok : tc_ok y bytes maxL ret' k) (hlk : Cond.methodLink own idx y ∈ lw_g) (hrm : tc_rm rm R maxL) : CallB R s args own idx y bytes maxL ret' (wB y bytes maxL ret') rm 0 0 k := by
  obtain ⟨hx, hb, hr, hml, hown, hts, hlocks, hK, hA, hG⟩ := X
  obtain ⟨o1, o2, o3, o4, o5⟩ := ok
  exact callB_of k hts (wB_good o1) rfl hrm.1 hrm.2.1 (hts _ o2) (hts _ hlk) ⟨o3, o4, o5⟩ ⟨hrm.2.2.1, hrm.2.2.2⟩
theorem tc_preS (hK : va_K (dC, dI) classes (ty_ ca) s) (hPc : va_P (dC, dI) classes wc H) (hDc : va_D A wc) (hG : tc_G A s) (hS : va_S A s.heap H locs) (hFc : ∀ q, va_A wc H.size q → A q) : PreS s H (tc_Pre dC dI ca av wc H.size) av :=
  ⟨tc_blind, fun U hU hW => ⟨rfl, by rw [hU], by rw [hU]; exact hPc, va_K.moved hW.alike hK, hDc.weaken (fun _ _ _ _ => trivial), tc_G.go hW (fun a h1 h2 => by rw [hU]; exact hS.2.1 a h1 h2) hFc hG⟩⟩
theorem tc_iV {r : Int32} (X : tc_X dC dI ca A own cc nL ret p s m args meth c) (hP : va_P (dC, dI) classes ws H) (hD : va_D A ws) (hS : va_S A s.heap H locs)
    (hM : tc_MI l dC dI ca y bytes maxL ret' rm (.ref b :: As) wc w1 r) (ok : tc_ok y bytes maxL ret' k) (hlk : Cond.methodLink own idx y ∈ lw_g) (him : Cond.instanceMethod y ∈ lw_g) {C : String} (hse : Cond.selects C y y ∈ lw_g) (hrm : tc_rm rm R maxL)
    (ci q0 : Nat) {T : u_T} {N : Nat} {fs : List Value} (hc : classes[ci]? = some (C, T, N)) (he : wc[q0]? = some (b, .inr (ci, fs)))
    (isC isR : List Nat) (hcut : tc_cut ws wc wr isC isR) (hk : As.length = k) (hnl : ls.size = nL) (hcat : (rest.map fun v => v.category).sum ≤ 8) (hd : decode cc pc = .ok (.invokevirtual idx, 3))
    (kk : ∀ (H1 : Heap) (locs1 : List Loc), va_P (dC, dI) classes (wr ++ w1) H1 → va_D A (wr ++ w1) → va_S A s.heap H1 locs1 → W p l e R s m args below meth c H1 locs1 0 0 Q (F0 m (pc + 3) ls (.int r :: rest))) :
    W p l e R s m args below meth c H locs 0 0 Q (F0 m pc ls (As.reverse ++ .ref b :: rest)) := by
  have hcb := tc_cb X ok hlk hrm
  obtain ⟨hx, hb, hr, hml, hown, hts, hlocks, hK, hA, hG⟩ := X
  obtain ⟨hC, hR, hnR, hnC, hdis⟩ := hcut
  have hC' := tc_fm hC
  have hPc := hP.sub (ws' := wc) isC hC'
  have hDc := hD.sub (ws' := wc) isC hnC hC
  have hFc := va_free (wc := wc) hD hS hA isC hC
  refine va_calli (va_runV (As := As) (rest := rest) (b := b) ⟨hx, hb, hml, hown, hts⟩ (hM H.size) ⟨hcb, hts _ him, hts _ hse⟩ ⟨tc_blind, va_recv hK hPc hc he, (tc_preS hK hPc hDc hG hS hFc).2⟩ rfl hk hnl rfl (lv_room hcat) hd ⟨Nat.zero_le _, Nat.zero_le _⟩) hS (fun q _ h => hFc q h) hFc (fun r2 u t H1 locs1 ht hvm hw hB hz1 hk1 hS1 => ?_)
  obtain ⟨hP1, hK1, hD1⟩ := hB
  rw [ht] at hP1
  obtain ⟨hP2, hD2⟩ := va_join (wr := wr) (w1 := w1) hP hD isC isR hC hR hnR hdis hk1 hFc hP1 hD1
  cases hw
  exact kk H1 locs1 hP2 hD2 hS1
theorem tc_lV {r : Int64} (X : tc_X dC dI ca A own cc nL ret p s m args meth c) (hP : va_P (dC, dI) classes ws H) (hD : va_D A ws) (hS : va_S A s.heap H locs)
    (hM : tc_ML l dC dI ca y bytes maxL ret' rm (.ref b :: As) wc w1 r) (ok : tc_ok y bytes maxL ret' k) (hlk : Cond.methodLink own idx y ∈ lw_g) (him : Cond.instanceMethod y ∈ lw_g) {C : String} (hse : Cond.selects C y y ∈ lw_g) (hrm : tc_rm rm R maxL)
    (ci q0 : Nat) {T : u_T} {N : Nat} {fs : List Value} (hc : classes[ci]? = some (C, T, N)) (he : wc[q0]? = some (b, .inr (ci, fs)))
    (isC isR : List Nat) (hcut : tc_cut ws wc wr isC isR) (hk : As.length = k) (hnl : ls.size = nL) (hcat : (rest.map fun v => v.category).sum ≤ 8) (hd : decode cc pc = .ok (.invokevirtual idx, 3))
    (kk : ∀ (H1 : Heap) (locs1 : List Loc), va_P (dC, dI) classes (wr ++ w1) H1 → va_D A (wr ++ w1) → va_S A s.heap H1 locs1 → W p l e R s m args below meth c H1 locs1 0 0 Q (F0 m (pc + 3) ls (.long r :: rest))) :
    W p l e R s m args below meth c H locs 0 0 Q (F0 m pc ls (As.reverse ++ .ref b :: rest)) := by
  have hcb := tc_cb X ok hlk hrm
  obtain ⟨hx, hb, hr, hml, hown, hts, hlocks, hK, hA, hG⟩ := X
  obtain ⟨hC, hR, hnR, hnC, hdis⟩ := hcut
  have hC' := tc_fm hC
  have hPc := hP.sub (ws' := wc) isC hC'
  have hDc := hD.sub (ws' := wc) isC hnC hC
  have hFc := va_free (wc := wc) hD hS hA isC hC
  refine va_calll (va_runV (As := As) (rest := rest) (b := b) ⟨hx, hb, hml, hown, hts⟩ (hM H.size) ⟨hcb, hts _ him, hts _ hse⟩ ⟨tc_blind, va_recv hK hPc hc he, (tc_preS hK hPc hDc hG hS hFc).2⟩ rfl hk hnl rfl (lv_room hcat) hd ⟨Nat.zero_le _, Nat.zero_le _⟩) hS (fun q _ h => hFc q h) hFc (fun r2 u t H1 locs1 ht hvm hw hB hz1 hk1 hS1 => ?_)
  obtain ⟨hP1, hK1, hD1⟩ := hB
  rw [ht] at hP1
  obtain ⟨hP2, hD2⟩ := va_join (wr := wr) (w1 := w1) hP hD isC isR hC hR hnR hdis hk1 hFc hP1 hD1
  cases hw
  exact kk H1 locs1 hP2 hD2 hS1
theorem tc_vV (X : tc_X dC dI ca A own cc nL ret p s m args meth c) (hP : va_P (dC, dI) classes ws H) (hD : va_D A ws) (hS : va_S A s.heap H locs)
    (hM : tc_MV l dC dI ca y bytes maxL ret' rm (.ref b :: As) wc w1) (ok : tc_ok y bytes maxL ret' k) (hlk : Cond.methodLink own idx y ∈ lw_g) (him : Cond.instanceMethod y ∈ lw_g) {C : String} (hse : Cond.selects C y y ∈ lw_g) (hrm : tc_rm rm R maxL)
    (ci q0 : Nat) {T : u_T} {N : Nat} {fs : List Value} (hc : classes[ci]? = some (C, T, N)) (he : wc[q0]? = some (b, .inr (ci, fs)))
    (isC isR : List Nat) (hcut : tc_cut ws wc wr isC isR) (hk : As.length = k) (hnl : ls.size = nL) (hcat : (rest.map fun v => v.category).sum ≤ 8) (hd : decode cc pc = .ok (.invokevirtual idx, 3))
    (kk : ∀ (H1 : Heap) (locs1 : List Loc), va_P (dC, dI) classes (wr ++ w1) H1 → va_D A (wr ++ w1) → va_S A s.heap H1 locs1 → W p l e R s m args below meth c H1 locs1 0 0 Q (F0 m (pc + 3) ls rest)) :
    W p l e R s m args below meth c H locs 0 0 Q (F0 m pc ls (As.reverse ++ .ref b :: rest)) := by
  have hcb := tc_cb X ok hlk hrm
  obtain ⟨hx, hb, hr, hml, hown, hts, hlocks, hK, hA, hG⟩ := X
  obtain ⟨hC, hR, hnR, hnC, hdis⟩ := hcut
  have hC' := tc_fm hC
  have hPc := hP.sub (ws' := wc) isC hC'
  have hDc := hD.sub (ws' := wc) isC hnC hC
  have hFc := va_free (wc := wc) hD hS hA isC hC
  refine va_callv (va_runV (As := As) (rest := rest) (b := b) ⟨hx, hb, hml, hown, hts⟩ (hM H.size) ⟨hcb, hts _ him, hts _ hse⟩ ⟨tc_blind, va_recv hK hPc hc he, (tc_preS hK hPc hDc hG hS hFc).2⟩ rfl hk hnl rfl (lv_room hcat) hd ⟨Nat.zero_le _, Nat.zero_le _⟩) hS (fun q _ h => hFc q h) hFc (fun u t H1 locs1 ht hvm hw hB hz1 hk1 hS1 => ?_)
  obtain ⟨hP1, hK1, hD1⟩ := hB
  rw [ht] at hP1
  obtain ⟨hP2, hD2⟩ := va_join (wr := wr) (w1 := w1) hP hD isC isR hC hR hnR hdis hk1 hFc hP1 hD1
  exact kk H1 locs1 hP2 hD2 hS1
theorem tc_iS {r : Int32} (X : tc_X dC dI ca A own cc nL ret p s m args meth c) (hP : va_P (dC, dI) classes ws H) (hD : va_D A ws) (hS : va_S A s.heap H locs)
    (hM : tc_MI l dC dI ca y bytes maxL ret' rm As wc w1 r) (ok : tc_ok y bytes maxL ret' k) (hlk : Cond.methodLink own idx y ∈ lw_g) (hst : Cond.static y ∈ lw_g) (hrm : tc_rm rm R maxL)
    (isC isR : List Nat) (hcut : tc_cut ws wc wr isC isR) (hk : As.length = k) (hnl : ls.size = nL) (hcat : (rest.map fun v => v.category).sum ≤ 8) (hd : decode cc pc = .ok (.invokestatic idx, 3))
    (kk : ∀ (H1 : Heap) (locs1 : List Loc), va_P (dC, dI) classes (wr ++ w1) H1 → va_D A (wr ++ w1) → va_S A s.heap H1 locs1 → W p l e R s m args below meth c H1 locs1 0 0 Q (F0 m (pc + 3) ls (.int r :: rest))) :
    W p l e R s m args below meth c H locs 0 0 Q (F0 m pc ls (As.reverse ++ rest)) := by
  have hcb := tc_cb X ok hlk hrm
  obtain ⟨hx, hb, hr, hml, hown, hts, hlocks, hK, hA, hG⟩ := X
  obtain ⟨hC, hR, hnR, hnC, hdis⟩ := hcut
  have hC' := tc_fm hC
  have hPc := hP.sub (ws' := wc) isC hC'
  have hDc := hD.sub (ws' := wc) isC hnC hC
  have hFc := va_free (wc := wc) hD hS hA isC hC
  refine va_calli (va_runS (As := As) (rest := rest) ⟨hx, hb, hml, hown, hts⟩ (hM H.size) ⟨hcb, hts _ hst⟩ (tc_preS hK hPc hDc hG hS hFc) rfl hk hnl rfl (lv_room hcat) hd ⟨Nat.zero_le _, Nat.zero_le _⟩) hS (fun q _ h => hFc q h) hFc (fun r2 u t H1 locs1 ht hvm hw hB hz1 hk1 hS1 => ?_)
  obtain ⟨hP1, hK1, hD1⟩ := hB
  rw [ht] at hP1
  obtain ⟨hP2, hD2⟩ := va_join (wr := wr) (w1 := w1) hP hD isC isR hC hR hnR hdis hk1 hFc hP1 hD1
  cases hw
  exact kk H1 locs1 hP2 hD2 hS1
theorem tc_lS {r : Int64} (X : tc_X dC dI ca A own cc nL ret p s m args meth c) (hP : va_P (dC, dI) classes ws H) (hD : va_D A ws) (hS : va_S A s.heap H locs)
    (hM : tc_ML l dC dI ca y bytes maxL ret' rm As wc w1 r) (ok : tc_ok y bytes maxL ret' k) (hlk : Cond.methodLink own idx y ∈ lw_g) (hst : Cond.static y ∈ lw_g) (hrm : tc_rm rm R maxL)
    (isC isR : List Nat) (hcut : tc_cut ws wc wr isC isR) (hk : As.length = k) (hnl : ls.size = nL) (hcat : (rest.map fun v => v.category).sum ≤ 8) (hd : decode cc pc = .ok (.invokestatic idx, 3))
    (kk : ∀ (H1 : Heap) (locs1 : List Loc), va_P (dC, dI) classes (wr ++ w1) H1 → va_D A (wr ++ w1) → va_S A s.heap H1 locs1 → W p l e R s m args below meth c H1 locs1 0 0 Q (F0 m (pc + 3) ls (.long r :: rest))) :
    W p l e R s m args below meth c H locs 0 0 Q (F0 m pc ls (As.reverse ++ rest)) := by
  have hcb := tc_cb X ok hlk hrm
  obtain ⟨hx, hb, hr, hml, hown, hts, hlocks, hK, hA, hG⟩ := X
  obtain ⟨hC, hR, hnR, hnC, hdis⟩ := hcut
  have hC' := tc_fm hC
  have hPc := hP.sub (ws' := wc) isC hC'
  have hDc := hD.sub (ws' := wc) isC hnC hC
  have hFc := va_free (wc := wc) hD hS hA isC hC
  refine va_calll (va_runS (As := As) (rest := rest) ⟨hx, hb, hml, hown, hts⟩ (hM H.size) ⟨hcb, hts _ hst⟩ (tc_preS hK hPc hDc hG hS hFc) rfl hk hnl rfl (lv_room hcat) hd ⟨Nat.zero_le _, Nat.zero_le _⟩) hS (fun q _ h => hFc q h) hFc (fun r2 u t H1 locs1 ht hvm hw hB hz1 hk1 hS1 => ?_)
  obtain ⟨hP1, hK1, hD1⟩ := hB
  rw [ht] at hP1
  obtain ⟨hP2, hD2⟩ := va_join (wr := wr) (w1 := w1) hP hD isC isR hC hR hnR hdis hk1 hFc hP1 hD1
  cases hw
  exact kk H1 locs1 hP2 hD2 hS1
theorem tc_vS (X : tc_X dC dI ca A own cc nL ret p s m args meth c) (hP : va_P (dC, dI) classes ws H) (hD : va_D A ws) (hS : va_S A s.heap H locs)
    (hM : tc_MV l dC dI ca y bytes maxL ret' rm As wc w1) (ok : tc_ok y bytes maxL ret' k) (hlk : Cond.methodLink own idx y ∈ lw_g) (hst : Cond.static y ∈ lw_g) (hrm : tc_rm rm R maxL)
    (isC isR : List Nat) (hcut : tc_cut ws wc wr isC isR) (hk : As.length = k) (hnl : ls.size = nL) (hcat : (rest.map fun v => v.category).sum ≤ 8) (hd : decode cc pc = .ok (.invokestatic idx, 3))
    (kk : ∀ (H1 : Heap) (locs1 : List Loc), va_P (dC, dI) classes (wr ++ w1) H1 → va_D A (wr ++ w1) → va_S A s.heap H1 locs1 → W p l e R s m args below meth c H1 locs1 0 0 Q (F0 m (pc + 3) ls rest)) :
    W p l e R s m args below meth c H locs 0 0 Q (F0 m pc ls (As.reverse ++ rest)) := by
  have hcb := tc_cb X ok hlk hrm
  obtain ⟨hx, hb, hr, hml, hown, hts, hlocks, hK, hA, hG⟩ := X
  obtain ⟨hC, hR, hnR, hnC, hdis⟩ := hcut
  have hC' := tc_fm hC
  have hPc := hP.sub (ws' := wc) isC hC'
  have hDc := hD.sub (ws' := wc) isC hnC hC
  have hFc := va_free (wc := wc) hD hS hA isC hC
  refine va_callv (va_runS (As := As) (rest := rest) ⟨hx, hb, hml, hown, hts⟩ (hM H.size) ⟨hcb, hts _ hst⟩ (tc_preS hK hPc hDc hG hS hFc) rfl hk hnl rfl (lv_room hcat) hd ⟨Nat.zero_le _, Nat.zero_le _⟩) hS (fun q _ h => hFc q h) hFc (fun u t H1 locs1 ht hvm hw hB hz1 hk1 hS1 => ?_)
  obtain ⟨hP1, hK1, hD1⟩ := hB
  rw [ht] at hP1
  obtain ⟨hP2, hD2⟩ := va_join (wr := wr) (w1 := w1) hP hD isC isR hC hR hnR hdis hk1 hFc hP1 hD1
  exact kk H1 locs1 hP2 hD2 hS1
theorem tc_iVs {r : Int32} (X : tc_X dC dI ca A own cc nL ret p s m args meth c) (hP : va_P (dC, dI) classes ws H) (hD : va_D A ws) (hS : va_S A s.heap H locs)
    (hM : tc_MI l dC dI ca y bytes maxL ret' rm (.ref b :: As) ws w1 r) (ok : tc_ok y bytes maxL ret' k) (hlk : Cond.methodLink own idx y ∈ lw_g) (him : Cond.instanceMethod y ∈ lw_g) {C : String} (hse : Cond.selects C y y ∈ lw_g) (hrm : tc_rm rm R maxL)
    (ci q0 : Nat) {T : u_T} {N : Nat} {fs : List Value} (hc : classes[ci]? = some (C, T, N)) (he : ws[q0]? = some (b, .inr (ci, fs)))
    (hk : As.length = k) (hnl : ls.size = nL) (hcat : (rest.map fun v => v.category).sum ≤ 8) (hd : decode cc pc = .ok (.invokevirtual idx, 3))
    (kk : ∀ (H1 : Heap) (locs1 : List Loc), va_P (dC, dI) classes w1 H1 → va_D A w1 → va_S A s.heap H1 locs1 → W p l e R s m args below meth c H1 locs1 0 0 Q (F0 m (pc + 3) ls (.int r :: rest))) :
    W p l e R s m args below meth c H locs 0 0 Q (F0 m pc ls (As.reverse ++ .ref b :: rest)) :=
  tc_iV X hP hD hS hM ok hlk him hse hrm ci q0 hc he _ _ (tc_self ws) hk hnl hcat hd kk
theorem tc_lVs {r : Int64} (X : tc_X dC dI ca A own cc nL ret p s m args meth c) (hP : va_P (dC, dI) classes ws H) (hD : va_D A ws) (hS : va_S A s.heap H locs)
    (hM : tc_ML l dC dI ca y bytes maxL ret' rm (.ref b :: As) ws w1 r) (ok : tc_ok y bytes maxL ret' k) (hlk : Cond.methodLink own idx y ∈ lw_g) (him : Cond.instanceMethod y ∈ lw_g) {C : String} (hse : Cond.selects C y y ∈ lw_g) (hrm : tc_rm rm R maxL)
    (ci q0 : Nat) {T : u_T} {N : Nat} {fs : List Value} (hc : classes[ci]? = some (C, T, N)) (he : ws[q0]? = some (b, .inr (ci, fs)))
    (hk : As.length = k) (hnl : ls.size = nL) (hcat : (rest.map fun v => v.category).sum ≤ 8) (hd : decode cc pc = .ok (.invokevirtual idx, 3))
    (kk : ∀ (H1 : Heap) (locs1 : List Loc), va_P (dC, dI) classes w1 H1 → va_D A w1 → va_S A s.heap H1 locs1 → W p l e R s m args below meth c H1 locs1 0 0 Q (F0 m (pc + 3) ls (.long r :: rest))) :
    W p l e R s m args below meth c H locs 0 0 Q (F0 m pc ls (As.reverse ++ .ref b :: rest)) :=
  tc_lV X hP hD hS hM ok hlk him hse hrm ci q0 hc he _ _ (tc_self ws) hk hnl hcat hd kk
theorem tc_vVs (X : tc_X dC dI ca A own cc nL ret p s m args meth c) (hP : va_P (dC, dI) classes ws H) (hD : va_D A ws) (hS : va_S A s.heap H locs)
    (hM : tc_MV l dC dI ca y bytes maxL ret' rm (.ref b :: As) ws w1) (ok : tc_ok y bytes maxL ret' k) (hlk : Cond.methodLink own idx y ∈ lw_g) (him : Cond.instanceMethod y ∈ lw_g) {C : String} (hse : Cond.selects C y y ∈ lw_g) (hrm : tc_rm rm R maxL)
    (ci q0 : Nat) {T : u_T} {N : Nat} {fs : List Value} (hc : classes[ci]? = some (C, T, N)) (he : ws[q0]? = some (b, .inr (ci, fs)))
    (hk : As.length = k) (hnl : ls.size = nL) (hcat : (rest.map fun v => v.category).sum ≤ 8) (hd : decode cc pc = .ok (.invokevirtual idx, 3))
    (kk : ∀ (H1 : Heap) (locs1 : List Loc), va_P (dC, dI) classes w1 H1 → va_D A w1 → va_S A s.heap H1 locs1 → W p l e R s m args below meth c H1 locs1 0 0 Q (F0 m (pc + 3) ls rest)) :
    W p l e R s m args below meth c H locs 0 0 Q (F0 m pc ls (As.reverse ++ .ref b :: rest)) :=
  tc_vV X hP hD hS hM ok hlk him hse hrm ci q0 hc he _ _ (tc_self ws) hk hnl hcat hd kk
theorem tc_iS0 {r : Int32} (X : tc_X dC dI ca A own cc nL ret p s m args meth c) (hP : va_P (dC, dI) classes ws H) (hD : va_D A ws) (hS : va_S A s.heap H locs)
    (hM : tc_MI l dC dI ca y bytes maxL ret' rm As [] [] r) (ok : tc_ok y bytes maxL ret' k) (hlk : Cond.methodLink own idx y ∈ lw_g) (hst : Cond.static y ∈ lw_g) (hrm : tc_rm rm R maxL)
    (hk : As.length = k) (hnl : ls.size = nL) (hcat : (rest.map fun v => v.category).sum ≤ 8) (hd : decode cc pc = .ok (.invokestatic idx, 3))
    (kk : ∀ (H1 : Heap) (locs1 : List Loc), va_P (dC, dI) classes ws H1 → va_D A ws → va_S A s.heap H1 locs1 → W p l e R s m args below meth c H1 locs1 0 0 Q (F0 m (pc + 3) ls (.int r :: rest))) :
    W p l e R s m args below meth c H locs 0 0 Q (F0 m pc ls (As.reverse ++ rest)) :=
  tc_iS X hP hD hS hM ok hlk hst hrm _ _ (tc_none ws) hk hnl hcat hd (fun H1 locs1 hP hD hS => kk H1 locs1 (by rw [List.append_nil] at hP; exact hP) (by rw [List.append_nil] at hD; exact hD) hS)
theorem tc_lS0 {r : Int64} (X : tc_X dC dI ca A own cc nL ret p s m args meth c) (hP : va_P (dC, dI) classes ws H) (hD : va_D A ws) (hS : va_S A s.heap H locs)
    (hM : tc_ML l dC dI ca y bytes maxL ret' rm As [] [] r) (ok : tc_ok y bytes maxL ret' k) (hlk : Cond.methodLink own idx y ∈ lw_g) (hst : Cond.static y ∈ lw_g) (hrm : tc_rm rm R maxL)
    (hk : As.length = k) (hnl : ls.size = nL) (hcat : (rest.map fun v => v.category).sum ≤ 8) (hd : decode cc pc = .ok (.invokestatic idx, 3))
    (kk : ∀ (H1 : Heap) (locs1 : List Loc), va_P (dC, dI) classes ws H1 → va_D A ws → va_S A s.heap H1 locs1 → W p l e R s m args below meth c H1 locs1 0 0 Q (F0 m (pc + 3) ls (.long r :: rest))) :
    W p l e R s m args below meth c H locs 0 0 Q (F0 m pc ls (As.reverse ++ rest)) :=
  tc_lS X hP hD hS hM ok hlk hst hrm _ _ (tc_none ws) hk hnl hcat hd (fun H1 locs1 hP hD hS => kk H1 locs1 (by rw [List.append_nil] at hP; exact hP) (by rw [List.append_nil] at hD; exact hD) hS)
theorem tc_vS0 (X : tc_X dC dI ca A own cc nL ret p s m args meth c) (hP : va_P (dC, dI) classes ws H) (hD : va_D A ws) (hS : va_S A s.heap H locs)
    (hM : tc_MV l dC dI ca y bytes maxL ret' rm As [] []) (ok : tc_ok y bytes maxL ret' k) (hlk : Cond.methodLink own idx y ∈ lw_g) (hst : Cond.static y ∈ lw_g) (hrm : tc_rm rm R maxL)
    (hk : As.length = k) (hnl : ls.size = nL) (hcat : (rest.map fun v => v.category).sum ≤ 8) (hd : decode cc pc = .ok (.invokestatic idx, 3))
    (kk : ∀ (H1 : Heap) (locs1 : List Loc), va_P (dC, dI) classes ws H1 → va_D A ws → va_S A s.heap H1 locs1 → W p l e R s m args below meth c H1 locs1 0 0 Q (F0 m (pc + 3) ls rest)) :
    W p l e R s m args below meth c H locs 0 0 Q (F0 m pc ls (As.reverse ++ rest)) :=
  tc_vS X hP hD hS hM ok hlk hst hrm _ _ (tc_none ws) hk hnl hcat hd (fun H1 locs1 hP hD hS => kk H1 locs1 (by rw [List.append_nil] at hP; exact hP) (by rw [List.append_nil] at hD; exact hD) hS)
theorem tc_cu {x : MethodName} {owner C : String} (X : tc_X dC dI ca A own cc nL ret p s m args meth c) (ok : tc_ok y bytes maxL ret' k) (hlk : Cond.methodLink own idx x ∈ lw_g) (hsm : Cond.sameMethod x.cls owner x.name x.desc ∈ lw_g) (hyx : y = ⟨owner, x.name, x.desc⟩) (him : Cond.instanceMethod y ∈ lw_g) (hse : Cond.selects C x y ∈ lw_g) (hrm : tc_rm rm R maxL) : va_CU R s args own C owner idx x y bytes maxL ret' (wB y bytes maxL ret') rm 0 0 k := by
  obtain ⟨hx, hb, hr, hml, hown, hts, hlocks, hK, hA, hG⟩ := X
  obtain ⟨o1, o2, o3, o4, o5⟩ := ok
  subst hyx
  refine ⟨⟨hrm.1, hrm.2.1, hrm.2.2.1, hrm.2.2.2, pay_in hts (wB_good o1), List.mem_cons_self⟩, hts _ o1, hts _ o2, ⟨o3, o4⟩, fun sig h => ?_, hts _ hlk, hts _ hsm, va_Decl.of (hts _ him) (hts _ o1), hts _ hse, hts _ him⟩
  have h2 := o5
  rw [h] at h2
  exact (Option.some.inj h2).symm
theorem tc_iU {r : Int32} (X : tc_X dC dI ca A own cc nL ret p s m args meth c) (hP : va_P (dC, dI) classes ws H) (hD : va_D A ws) (hS : va_S A s.heap H locs)
    (hM : tc_MI l dC dI ca y bytes maxL ret' rm (.ref b :: As) wc w1 r) (ok : tc_ok y bytes maxL ret' k) {x : MethodName} {owner : String} (hlk : Cond.methodLink own idx x ∈ lw_g) (hsm : Cond.sameMethod x.cls owner x.name x.desc ∈ lw_g) (hyx : y = ⟨owner, x.name, x.desc⟩) (him : Cond.instanceMethod y ∈ lw_g) {C : String} (hse : Cond.selects C x y ∈ lw_g) (hrm : tc_rm rm R maxL)
    (ci q0 : Nat) {T : u_T} {N : Nat} {fs : List Value} (hc : classes[ci]? = some (C, T, N)) (he : wc[q0]? = some (b, .inr (ci, fs)))
    (isC isR : List Nat) (hcut : tc_cut ws wc wr isC isR) (hk : As.length = k) (hnl : ls.size = nL) (hcat : (rest.map fun v => v.category).sum ≤ 8) (hd : decode cc pc = .ok (.invokevirtual idx, 3))
    (kk : ∀ (H1 : Heap) (locs1 : List Loc), va_P (dC, dI) classes (wr ++ w1) H1 → va_D A (wr ++ w1) → va_S A s.heap H1 locs1 → W p l e R s m args below meth c H1 locs1 0 0 Q (F0 m (pc + 3) ls (.int r :: rest))) :
    W p l e R s m args below meth c H locs 0 0 Q (F0 m pc ls (As.reverse ++ .ref b :: rest)) := by
  have hcu := tc_cu X ok hlk hsm hyx him hse hrm
  obtain ⟨hx, hb, hr, hml, hown, hts, hlocks, hK, hA, hG⟩ := X
  obtain ⟨hC, hR, hnR, hnC, hdis⟩ := hcut
  have hC' := tc_fm hC
  have hPc := hP.sub (ws' := wc) isC hC'
  have hDc := hD.sub (ws' := wc) isC hnC hC
  have hFc := va_free (wc := wc) hD hS hA isC hC
  refine va_calli (va_runU (As := As) (rest := rest) (b := b) ⟨hx, hb, hml, hown, hts⟩ (hM H.size) hcu ⟨tc_blind, va_recv hK hPc hc he, (tc_preS hK hPc hDc hG hS hFc).2⟩ rfl hk hnl rfl (lv_room hcat) hd ⟨Nat.zero_le _, Nat.zero_le _⟩) hS (fun q _ h => hFc q h) hFc (fun r2 u t H1 locs1 ht hvm hw hB hz1 hk1 hS1 => ?_)
  obtain ⟨hP1, hK1, hD1⟩ := hB
  rw [ht] at hP1
  obtain ⟨hP2, hD2⟩ := va_join (wr := wr) (w1 := w1) hP hD isC isR hC hR hnR hdis hk1 hFc hP1 hD1
  cases hw
  exact kk H1 locs1 hP2 hD2 hS1
theorem tc_lU {r : Int64} (X : tc_X dC dI ca A own cc nL ret p s m args meth c) (hP : va_P (dC, dI) classes ws H) (hD : va_D A ws) (hS : va_S A s.heap H locs)
    (hM : tc_ML l dC dI ca y bytes maxL ret' rm (.ref b :: As) wc w1 r) (ok : tc_ok y bytes maxL ret' k) {x : MethodName} {owner : String} (hlk : Cond.methodLink own idx x ∈ lw_g) (hsm : Cond.sameMethod x.cls owner x.name x.desc ∈ lw_g) (hyx : y = ⟨owner, x.name, x.desc⟩) (him : Cond.instanceMethod y ∈ lw_g) {C : String} (hse : Cond.selects C x y ∈ lw_g) (hrm : tc_rm rm R maxL)
    (ci q0 : Nat) {T : u_T} {N : Nat} {fs : List Value} (hc : classes[ci]? = some (C, T, N)) (he : wc[q0]? = some (b, .inr (ci, fs)))
    (isC isR : List Nat) (hcut : tc_cut ws wc wr isC isR) (hk : As.length = k) (hnl : ls.size = nL) (hcat : (rest.map fun v => v.category).sum ≤ 8) (hd : decode cc pc = .ok (.invokevirtual idx, 3))
    (kk : ∀ (H1 : Heap) (locs1 : List Loc), va_P (dC, dI) classes (wr ++ w1) H1 → va_D A (wr ++ w1) → va_S A s.heap H1 locs1 → W p l e R s m args below meth c H1 locs1 0 0 Q (F0 m (pc + 3) ls (.long r :: rest))) :
    W p l e R s m args below meth c H locs 0 0 Q (F0 m pc ls (As.reverse ++ .ref b :: rest)) := by
  have hcu := tc_cu X ok hlk hsm hyx him hse hrm
  obtain ⟨hx, hb, hr, hml, hown, hts, hlocks, hK, hA, hG⟩ := X
  obtain ⟨hC, hR, hnR, hnC, hdis⟩ := hcut
  have hC' := tc_fm hC
  have hPc := hP.sub (ws' := wc) isC hC'
  have hDc := hD.sub (ws' := wc) isC hnC hC
  have hFc := va_free (wc := wc) hD hS hA isC hC
  refine va_calll (va_runU (As := As) (rest := rest) (b := b) ⟨hx, hb, hml, hown, hts⟩ (hM H.size) hcu ⟨tc_blind, va_recv hK hPc hc he, (tc_preS hK hPc hDc hG hS hFc).2⟩ rfl hk hnl rfl (lv_room hcat) hd ⟨Nat.zero_le _, Nat.zero_le _⟩) hS (fun q _ h => hFc q h) hFc (fun r2 u t H1 locs1 ht hvm hw hB hz1 hk1 hS1 => ?_)
  obtain ⟨hP1, hK1, hD1⟩ := hB
  rw [ht] at hP1
  obtain ⟨hP2, hD2⟩ := va_join (wr := wr) (w1 := w1) hP hD isC isR hC hR hnR hdis hk1 hFc hP1 hD1
  cases hw
  exact kk H1 locs1 hP2 hD2 hS1
theorem tc_vU (X : tc_X dC dI ca A own cc nL ret p s m args meth c) (hP : va_P (dC, dI) classes ws H) (hD : va_D A ws) (hS : va_S A s.heap H locs)
    (hM : tc_MV l dC dI ca y bytes maxL ret' rm (.ref b :: As) wc w1) (ok : tc_ok y bytes maxL ret' k) {x : MethodName} {owner : String} (hlk : Cond.methodLink own idx x ∈ lw_g) (hsm : Cond.sameMethod x.cls owner x.name x.desc ∈ lw_g) (hyx : y = ⟨owner, x.name, x.desc⟩) (him : Cond.instanceMethod y ∈ lw_g) {C : String} (hse : Cond.selects C x y ∈ lw_g) (hrm : tc_rm rm R maxL)
    (ci q0 : Nat) {T : u_T} {N : Nat} {fs : List Value} (hc : classes[ci]? = some (C, T, N)) (he : wc[q0]? = some (b, .inr (ci, fs)))
    (isC isR : List Nat) (hcut : tc_cut ws wc wr isC isR) (hk : As.length = k) (hnl : ls.size = nL) (hcat : (rest.map fun v => v.category).sum ≤ 8) (hd : decode cc pc = .ok (.invokevirtual idx, 3))
    (kk : ∀ (H1 : Heap) (locs1 : List Loc), va_P (dC, dI) classes (wr ++ w1) H1 → va_D A (wr ++ w1) → va_S A s.heap H1 locs1 → W p l e R s m args below meth c H1 locs1 0 0 Q (F0 m (pc + 3) ls rest)) :
    W p l e R s m args below meth c H locs 0 0 Q (F0 m pc ls (As.reverse ++ .ref b :: rest)) := by
  have hcu := tc_cu X ok hlk hsm hyx him hse hrm
  obtain ⟨hx, hb, hr, hml, hown, hts, hlocks, hK, hA, hG⟩ := X
  obtain ⟨hC, hR, hnR, hnC, hdis⟩ := hcut
  have hC' := tc_fm hC
  have hPc := hP.sub (ws' := wc) isC hC'
  have hDc := hD.sub (ws' := wc) isC hnC hC
  have hFc := va_free (wc := wc) hD hS hA isC hC
  refine va_callv (va_runU (As := As) (rest := rest) (b := b) ⟨hx, hb, hml, hown, hts⟩ (hM H.size) hcu ⟨tc_blind, va_recv hK hPc hc he, (tc_preS hK hPc hDc hG hS hFc).2⟩ rfl hk hnl rfl (lv_room hcat) hd ⟨Nat.zero_le _, Nat.zero_le _⟩) hS (fun q _ h => hFc q h) hFc (fun u t H1 locs1 ht hvm hw hB hz1 hk1 hS1 => ?_)
  obtain ⟨hP1, hK1, hD1⟩ := hB
  rw [ht] at hP1
  obtain ⟨hP2, hD2⟩ := va_join (wr := wr) (w1 := w1) hP hD isC isR hC hR hnR hdis hk1 hFc hP1 hD1
  exact kk H1 locs1 hP2 hD2 hS1
theorem tc_iUs {r : Int32} (X : tc_X dC dI ca A own cc nL ret p s m args meth c) (hP : va_P (dC, dI) classes ws H) (hD : va_D A ws) (hS : va_S A s.heap H locs)
    (hM : tc_MI l dC dI ca y bytes maxL ret' rm (.ref b :: As) ws w1 r) (ok : tc_ok y bytes maxL ret' k) {x : MethodName} {owner : String} (hlk : Cond.methodLink own idx x ∈ lw_g) (hsm : Cond.sameMethod x.cls owner x.name x.desc ∈ lw_g) (hyx : y = ⟨owner, x.name, x.desc⟩) (him : Cond.instanceMethod y ∈ lw_g) {C : String} (hse : Cond.selects C x y ∈ lw_g) (hrm : tc_rm rm R maxL)
    (ci q0 : Nat) {T : u_T} {N : Nat} {fs : List Value} (hc : classes[ci]? = some (C, T, N)) (he : ws[q0]? = some (b, .inr (ci, fs)))
    (hk : As.length = k) (hnl : ls.size = nL) (hcat : (rest.map fun v => v.category).sum ≤ 8) (hd : decode cc pc = .ok (.invokevirtual idx, 3))
    (kk : ∀ (H1 : Heap) (locs1 : List Loc), va_P (dC, dI) classes w1 H1 → va_D A w1 → va_S A s.heap H1 locs1 → W p l e R s m args below meth c H1 locs1 0 0 Q (F0 m (pc + 3) ls (.int r :: rest))) :
    W p l e R s m args below meth c H locs 0 0 Q (F0 m pc ls (As.reverse ++ .ref b :: rest)) :=
  tc_iU X hP hD hS hM ok hlk hsm hyx him hse hrm ci q0 hc he _ _ (tc_self ws) hk hnl hcat hd kk
theorem tc_lUs {r : Int64} (X : tc_X dC dI ca A own cc nL ret p s m args meth c) (hP : va_P (dC, dI) classes ws H) (hD : va_D A ws) (hS : va_S A s.heap H locs)
    (hM : tc_ML l dC dI ca y bytes maxL ret' rm (.ref b :: As) ws w1 r) (ok : tc_ok y bytes maxL ret' k) {x : MethodName} {owner : String} (hlk : Cond.methodLink own idx x ∈ lw_g) (hsm : Cond.sameMethod x.cls owner x.name x.desc ∈ lw_g) (hyx : y = ⟨owner, x.name, x.desc⟩) (him : Cond.instanceMethod y ∈ lw_g) {C : String} (hse : Cond.selects C x y ∈ lw_g) (hrm : tc_rm rm R maxL)
    (ci q0 : Nat) {T : u_T} {N : Nat} {fs : List Value} (hc : classes[ci]? = some (C, T, N)) (he : ws[q0]? = some (b, .inr (ci, fs)))
    (hk : As.length = k) (hnl : ls.size = nL) (hcat : (rest.map fun v => v.category).sum ≤ 8) (hd : decode cc pc = .ok (.invokevirtual idx, 3))
    (kk : ∀ (H1 : Heap) (locs1 : List Loc), va_P (dC, dI) classes w1 H1 → va_D A w1 → va_S A s.heap H1 locs1 → W p l e R s m args below meth c H1 locs1 0 0 Q (F0 m (pc + 3) ls (.long r :: rest))) :
    W p l e R s m args below meth c H locs 0 0 Q (F0 m pc ls (As.reverse ++ .ref b :: rest)) :=
  tc_lU X hP hD hS hM ok hlk hsm hyx him hse hrm ci q0 hc he _ _ (tc_self ws) hk hnl hcat hd kk
theorem tc_vUs (X : tc_X dC dI ca A own cc nL ret p s m args meth c) (hP : va_P (dC, dI) classes ws H) (hD : va_D A ws) (hS : va_S A s.heap H locs)
    (hM : tc_MV l dC dI ca y bytes maxL ret' rm (.ref b :: As) ws w1) (ok : tc_ok y bytes maxL ret' k) {x : MethodName} {owner : String} (hlk : Cond.methodLink own idx x ∈ lw_g) (hsm : Cond.sameMethod x.cls owner x.name x.desc ∈ lw_g) (hyx : y = ⟨owner, x.name, x.desc⟩) (him : Cond.instanceMethod y ∈ lw_g) {C : String} (hse : Cond.selects C x y ∈ lw_g) (hrm : tc_rm rm R maxL)
    (ci q0 : Nat) {T : u_T} {N : Nat} {fs : List Value} (hc : classes[ci]? = some (C, T, N)) (he : ws[q0]? = some (b, .inr (ci, fs)))
    (hk : As.length = k) (hnl : ls.size = nL) (hcat : (rest.map fun v => v.category).sum ≤ 8) (hd : decode cc pc = .ok (.invokevirtual idx, 3))
    (kk : ∀ (H1 : Heap) (locs1 : List Loc), va_P (dC, dI) classes w1 H1 → va_D A w1 → va_S A s.heap H1 locs1 → W p l e R s m args below meth c H1 locs1 0 0 Q (F0 m (pc + 3) ls rest)) :
    W p l e R s m args below meth c H locs 0 0 Q (F0 m pc ls (As.reverse ++ .ref b :: rest)) :=
  tc_vU X hP hD hS hM ok hlk hsm hyx him hse hrm ci q0 hc he _ _ (tc_self ws) hk hnl hcat hd kk
theorem tc_ri {v r : Int32} {ret : Option FieldType} (X : tc_X dC dI ca A own cc nL ret p s m args meth c) (hP : va_P (dC, dI) classes ws H) (hD : va_D A ws) (hS : va_S A s.heap H locs) (hret : ret = some .int) (hd : decode cc pc = .ok (.ireturn, 1)) (hw : ws = w1) (hv : v = r) :
    W p l e R s m args below meth c H locs 0 0 (MQ below (tc_QI dC dI ca A w1 r) args s 0 0 A) (F0 m pc ls [.int v]) := by
  obtain ⟨hx, hb, hr, hml, hown, hts, hlocks, hK, hA, hG⟩ := X
  subst hret; subst hw; subst hv
  exact W.iret (v := v) hx hb hr (fun t ht hW => ⟨⟨v, (), rfl, rfl, by rw [ht]; exact hP, va_K.moved hW.alike hK, hD⟩, hS.F ht⟩) hS.2.2 hd
theorem tc_rz {v r : Int32} {ret : Option FieldType} (X : tc_X dC dI ca A own cc nL ret p s m args meth c) (hP : va_P (dC, dI) classes ws H) (hD : va_D A ws) (hS : va_S A s.heap H locs) (hret : ret = some .boolean) (hd : decode cc pc = .ok (.ireturn, 1)) (hn : v &&& 1 = v) (hw : ws = w1) (hv : v = r) :
    W p l e R s m args below meth c H locs 0 0 (MQ below (tc_QI dC dI ca A w1 r) args s 0 0 A) (F0 m pc ls [.int v]) := by
  obtain ⟨hx, hb, hr, hml, hown, hts, hlocks, hK, hA, hG⟩ := X
  subst hret; subst hw; subst hv
  exact W.zret (v := v) hx hb hr (by show Value.int (v &&& 1) = Value.int v; rw [hn]) (fun t ht hW => ⟨⟨v, (), rfl, rfl, by rw [ht]; exact hP, va_K.moved hW.alike hK, hD⟩, hS.F ht⟩) hS.2.2 hd
theorem tc_rl {v r : Int64} {ret : Option FieldType} (X : tc_X dC dI ca A own cc nL ret p s m args meth c) (hP : va_P (dC, dI) classes ws H) (hD : va_D A ws) (hS : va_S A s.heap H locs) (hret : ret = some .long) (hd : decode cc pc = .ok (.lreturn, 1)) (hw : ws = w1) (hv : v = r) :
    W p l e R s m args below meth c H locs 0 0 (MQ below (tc_QL dC dI ca A w1 r) args s 0 0 A) (F0 m pc ls [.long v]) := by
  obtain ⟨hx, hb, hr, hml, hown, hts, hlocks, hK, hA, hG⟩ := X
  subst hret; subst hw; subst hv
  exact W.lret (v := v) hx hb hr (fun t ht hW => ⟨⟨v, (), rfl, rfl, by rw [ht]; exact hP, va_K.moved hW.alike hK, hD⟩, hS.F ht⟩) hS.2.2 hd
theorem tc_rv {ret : Option FieldType} (X : tc_X dC dI ca A own cc nL ret p s m args meth c) (hP : va_P (dC, dI) classes ws H) (hD : va_D A ws) (hS : va_S A s.heap H locs) (hret : ret = none) (hd : decode cc pc = .ok (.return_, 1)) (hw : ws = w1) :
    W p l e R s m args below meth c H locs 0 0 (MQ below (tc_QV dC dI ca A w1) args s 0 0 A) (F0 m pc ls []) := by
  obtain ⟨hx, hb, hr, hml, hown, hts, hlocks, hK, hA, hG⟩ := X
  subst hret; subst hw
  exact W.vret hx hb hr (fun t ht hW => ⟨⟨(), rfl, trivial, by rw [ht]; exact hP, va_K.moved hW.alike hK, hD⟩, hS.F ht⟩) hS.2.2 hd
/-- a number outside a table of cases -/
theorem tc_ne {x y : Int32} (h : ¬ x = y) : x.toInt ≠ y.toInt := fun g => h (Int32.toInt_inj.mp g)
end TC
theorem tc_b01 {v : Int32} (h : v &&& 1 = v) : v = 0 ∨ v = 1 := by
  have h2 := pk_andE v (m := 1) 1 (by decide)
  obtain ⟨j, hj, e⟩ := h2
  rw [h] at e
  rcases (show j = 0 ∨ j = 1 by omega) with rfl | rfl
  · exact Or.inl e
  · exact Or.inr e
theorem tc_nb {v : Int32} (h : v &&& 1 = v) : narrow .boolean (.int v) = .int v := by show Value.int (v &&& 1) = Value.int v; rw [h]
theorem tc_fb {v : Int32} (h : v &&& 1 = v) : fits .boolean (.int v) = true := by rcases tc_b01 h with rfl | rfl <;> rfl
section TM
variable {p : Program} {l : Launch} {e : Env} {R : Room} {s : State} {m : MethodId} {args : Array Value} {below : List Frame} {meth : Method} {c : Code} {H : Heap} {locs : List Loc} {Q : State → Prop}
variable {dC : Nat → ClassId} {dI : Nat → Nat → Nat} {ca : Nat → ClassId} {A : Nat → Prop} {own : String} {cc : ByteArray} {nL : Nat} {ret : Option FieldType} {idx pc : Nat} {ls : Array Slot} {rest : List Value}
theorem tc_mmax {x y : Int32} (X : tc_X dC dI ca A own cc nL ret p s m args meth c) (hnl : ls.size = nL) (hlk : Cond.methodLink own idx yJ9_max_7cf53 ∈ lw_g) (hfr : 1 ≤ R.frames) (hlo : (rest.map fun v => v.category).sum + 13 ≤ R.locals) (hd : decode cc pc = .ok (.invokestatic idx, 3))
    (kk : W p l e R s m args below meth c H locs 0 0 Q (F0 m (pc + 3) ls (.int (jmax x y) :: rest))) : W p l e R s m args below meth c H locs 0 0 Q (F0 m pc ls (.int y :: .int x :: rest)) := by
  obtain ⟨hx, hb, hr, hml, hown, hts, hlocks, hK, hA, hG⟩ := X
  exact va_mmax hx hb (hml.trans hnl.symm) hown (hts _ hlk) (hts _ wt_J9_max_7cf53) (hts _ wn_J9) (hts _ wc_J9_max_7cf53) hfr hlo (Nat.zero_le _) (Nat.zero_le _) hd kk
theorem tc_mmin {x y : Int32} (X : tc_X dC dI ca A own cc nL ret p s m args meth c) (hnl : ls.size = nL) (hlk : Cond.methodLink own idx yJ9_min_7cf53 ∈ lw_g) (hfr : 1 ≤ R.frames) (hlo : (rest.map fun v => v.category).sum + 13 ≤ R.locals) (hd : decode cc pc = .ok (.invokestatic idx, 3))
    (kk : W p l e R s m args below meth c H locs 0 0 Q (F0 m (pc + 3) ls (.int (jmin x y) :: rest))) : W p l e R s m args below meth c H locs 0 0 Q (F0 m pc ls (.int y :: .int x :: rest)) := by
  obtain ⟨hx, hb, hr, hml, hown, hts, hlocks, hK, hA, hG⟩ := X
  exact va_mmin hx hb (hml.trans hnl.symm) hown (hts _ hlk) (hts _ wt_J9_min_7cf53) (hts _ wn_J9) (hts _ wc_J9_min_7cf53) hfr hlo (Nat.zero_le _) (Nat.zero_le _) hd kk
theorem tc_mabs {x : Int32} (X : tc_X dC dI ca A own cc nL ret p s m args meth c) (hnl : ls.size = nL) (hlk : Cond.methodLink own idx yJ9_abs_0f7a4 ∈ lw_g) (hfr : 1 ≤ R.frames) (hlo : (rest.map fun v => v.category).sum + 13 ≤ R.locals) (hd : decode cc pc = .ok (.invokestatic idx, 3))
    (kk : W p l e R s m args below meth c H locs 0 0 Q (F0 m (pc + 3) ls (.int (jabs x) :: rest))) : W p l e R s m args below meth c H locs 0 0 Q (F0 m pc ls (.int x :: rest)) := by
  obtain ⟨hx, hb, hr, hml, hown, hts, hlocks, hK, hA, hG⟩ := X
  exact va_mabs hx hb (hml.trans hnl.symm) hown (hts _ hlk) (hts _ wt_J9_abs_0f7a4) (hts _ wn_J9) (hts _ wc_J9_abs_0f7a4) hfr hlo (Nat.zero_le _) (Nat.zero_le _) hd kk
theorem tc_mmaxl {x y : Int64} (X : tc_X dC dI ca A own cc nL ret p s m args meth c) (hnl : ls.size = nL) (hlk : Cond.methodLink own idx yJ9_max_f86c9 ∈ lw_g) (hfr : 1 ≤ R.frames) (hlo : (rest.map fun v => v.category).sum + 15 ≤ R.locals) (hd : decode cc pc = .ok (.invokestatic idx, 3))
    (kk : W p l e R s m args below meth c H locs 0 0 Q (F0 m (pc + 3) ls (.long (jmaxl x y) :: rest))) : W p l e R s m args below meth c H locs 0 0 Q (F0 m pc ls (.long y :: .long x :: rest)) := by
  obtain ⟨hx, hb, hr, hml, hown, hts, hlocks, hK, hA, hG⟩ := X
  exact va_mmax_long hx hb (hml.trans hnl.symm) hown (hts _ hlk) (hts _ wt_J9_max_f86c9) (hts _ wn_J9) (hts _ wc_J9_max_f86c9) hfr hlo (Nat.zero_le _) (Nat.zero_le _) hd kk
theorem tc_mabsl {x : Int64} (X : tc_X dC dI ca A own cc nL ret p s m args meth c) (hnl : ls.size = nL) (hlk : Cond.methodLink own idx yJ9_abs_067f4 ∈ lw_g) (hfr : 1 ≤ R.frames) (hlo : (rest.map fun v => v.category).sum + 13 ≤ R.locals) (hd : decode cc pc = .ok (.invokestatic idx, 3))
    (kk : W p l e R s m args below meth c H locs 0 0 Q (F0 m (pc + 3) ls (.long (jabsl x) :: rest))) : W p l e R s m args below meth c H locs 0 0 Q (F0 m pc ls (.long x :: rest)) := by
  obtain ⟨hx, hb, hr, hml, hown, hts, hlocks, hK, hA, hG⟩ := X
  exact va_mabs_long hx hb (hml.trans hnl.symm) hown (hts _ hlk) (hts _ wt_J9_abs_067f4) (hts _ wn_J9) (hts _ wc_J9_abs_067f4) hfr hlo (Nat.zero_le _) (Nat.zero_le _) hd kk
end TM
theorem tc_eP {D : va_G} {cl : List vw_C} {w w' : va_W} {H : Heap} (h : w = w') (hP : va_P D cl w H) : va_P D cl w' H := h ▸ hP
theorem tc_eD {A : Nat → Prop} {w w' : va_W} (h : w = w') (hD : va_D A w) : va_D A w' := h ▸ hD
def tc_Bx (dC : Nat → ClassId) (dI : Nat → Nat → Nat) (ca : Nat → ClassId) (A : Nat → Prop) (w1 : (Nat → Value) → va_W) : (Nat → Value) → State → Prop :=
  fun u t => va_P (dC, dI) classes (w1 u) t.heap ∧ va_K (dC, dI) classes (ty_ ca) t ∧ va_D A (w1 u)
def tc_QIx (dC : Nat → ClassId) (dI : Nat → Nat → Nat) (ca : Nat → ClassId) (A : Nat → Prop) (w1 : (Nat → Value) → va_W) (r : Int32) := va_Qi (fun r' (_ : Nat → Value) => r' = r) (tc_Bx dC dI ca A w1) A
/-- as tc_MI, where some references of the world behind it are left open -/
def tc_MIx (l : Launch) (dC : Nat → ClassId) (dI : Nat → Nat → Nat) (ca : Nat → ClassId) (y : MethodName) (cc : ByteArray) (nL : Nat) (ret : Option FieldType) (rm : Room) (av : List Value) (w0 : va_W) (w1 : (Nat → Value) → va_W) (r : Int32) : Prop :=
  ∀ sz, Met l y (wB y cc nL ret) rm (tc_Pre dC dI ca av w0 sz) (tc_QIx dC dI ca (va_A w0 sz) w1 r) 0 0 (va_A w0 sz)
section TX
variable {p : Program} {l : Launch} {e : Env} {R : Room} {s : State} {m : MethodId} {args : Array Value} {below : List Frame} {meth : Method} {c : Code} {H : Heap} {locs : List Loc} {cells slots : Nat} {Q : State → Prop}
variable {dC : Nat → ClassId} {dI : Nat → Nat → Nat} {ca : Nat → ClassId} {A : Nat → Prop} {own : String} {cc : ByteArray} {nL : Nat} {ret : Option FieldType}
variable {y : MethodName} {bytes : ByteArray} {maxL idx k : Nat} {ret' : Option FieldType} {rm : Room} {av As rest : List Value} {b : Nat} {ws wc wr : va_W} {w1 : (Nat → Value) → va_W} {pc : Nat} {ls : Array Slot}
theorem tc_metIx {w0 : va_W} {r : Int32} (hy : plainName y.cls = true) (hcls : y.cls = own)
    (body : ∀ p e s m below meth c (A : Nat → Prop), tc_X dC dI ca A own cc nL ret p s m av.toArray meth c → va_P (dC, dI) classes w0 s.heap → va_D A w0 → va_S A s.heap s.heap [] → ∀ ls : Array Slot, lv_has ls nL (lv_args 0 av) →
      W p l e rm s m av.toArray below meth c s.heap [] 0 0 (MQ below (tc_QIx dC dI ca A w1 r) av.toArray s 0 0 A) (F0 m 0 ls [])) (hlen : (lg_sl av).length ≤ nL) : tc_MIx l dC dI ca y cc nL ret rm av w0 w1 r := fun sz => by
  refine Met.ofW (cc := cc) (maxL := nL) (ret := ret) hy rfl ?_
  intro p e s m args below meth c s₁ B hml hv
  obtain ⟨rfl, hsz, hP, hK, hD0, hG⟩ := hv
  have hts := atoms_spec (ws := wB y cc nL ret) B.pre
  have hown : s.vm.findClass y.cls = some m.cls := findClass_of_methodNamed B.named
  subst hsz; subst hcls
  have hl := lv_entry av (n := nL) hlen
  rw [lg_entry_eq]
  exact body p e s m below meth c _ ⟨B.exec, B.bytes, B.returns, hml, hown, fun w h => hts w (List.mem_cons_of_mem _ h), B.notSynchronized, hK, fun q h => Or.inr h, hG⟩ hP (hD0.self (sz := s.heap.size)) va_S.rf _ hl
theorem tc_iVx {r : Int32} (X : tc_X dC dI ca A own cc nL ret p s m args meth c) (hP : va_P (dC, dI) classes ws H) (hD : va_D A ws) (hS : va_S A s.heap H locs)
    (hM : tc_MIx l dC dI ca y bytes maxL ret' rm (.ref b :: As) wc w1 r) (ok : tc_ok y bytes maxL ret' k) (hlk : Cond.methodLink own idx y ∈ lw_g) (him : Cond.instanceMethod y ∈ lw_g) {C : String} (hse : Cond.selects C y y ∈ lw_g) (hrm : tc_rm rm R maxL)
    (ci q0 : Nat) {T : u_T} {N : Nat} {fs : List Value} (hc : classes[ci]? = some (C, T, N)) (he : wc[q0]? = some (b, .inr (ci, fs)))
    (isC isR : List Nat) (hcut : tc_cut ws wc wr isC isR) (hk : As.length = k) (hnl : ls.size = nL) (hcat : (rest.map fun v => v.category).sum ≤ 8) (hd : decode cc pc = .ok (.invokevirtual idx, 3))
    (kk : ∀ (u : Nat → Value) (H1 : Heap) (locs1 : List Loc), va_P (dC, dI) classes (wr ++ w1 u) H1 → va_D A (wr ++ w1 u) → va_S A s.heap H1 locs1 → W p l e R s m args below meth c H1 locs1 0 0 Q (F0 m (pc + 3) ls (.int r :: rest))) :
    W p l e R s m args below meth c H locs 0 0 Q (F0 m pc ls (As.reverse ++ .ref b :: rest)) := by
  have hcb := tc_cb X ok hlk hrm
  obtain ⟨hx, hb, hr, hml, hown, hts, hlocks, hK, hA, hG⟩ := X
  obtain ⟨hC, hR, hnR, hnC, hdis⟩ := hcut
  have hC' := tc_fm hC
  have hPc := hP.sub (ws' := wc) isC hC'
  have hDc := hD.sub (ws' := wc) isC hnC hC
  have hFc := va_free (wc := wc) hD hS hA isC hC
  refine va_calli (va_runV (As := As) (rest := rest) (b := b) ⟨hx, hb, hml, hown, hts⟩ (hM H.size) ⟨hcb, hts _ him, hts _ hse⟩ ⟨tc_blind, va_recv hK hPc hc he, (tc_preS hK hPc hDc hG hS hFc).2⟩ rfl hk hnl rfl (lv_room hcat) hd ⟨Nat.zero_le _, Nat.zero_le _⟩) hS (fun q _ h => hFc q h) hFc (fun r2 u t H1 locs1 ht hvm hw hB hz1 hk1 hS1 => ?_)
  obtain ⟨hP1, hK1, hD1⟩ := hB
  rw [ht] at hP1
  obtain ⟨hP2, hD2⟩ := va_join (wr := wr) (w1 := w1 u) hP hD isC isR hC hR hnR hdis hk1 hFc hP1 hD1
  cases hw
  exact kk u H1 locs1 hP2 hD2 hS1
theorem tc_rix {v r : Int32} {ret : Option FieldType} (X : tc_X dC dI ca A own cc nL ret p s m args meth c) (hP : va_P (dC, dI) classes ws H) (hD : va_D A ws) (hS : va_S A s.heap H locs) (hret : ret = some .int) (hd : decode cc pc = .ok (.ireturn, 1)) (u : Nat → Value) (hw : ws = w1 u) (hv : v = r) :
    W p l e R s m args below meth c H locs 0 0 (MQ below (tc_QIx dC dI ca A w1 r) args s 0 0 A) (F0 m pc ls [.int v]) := by
  obtain ⟨hx, hb, hr, hml, hown, hts, hlocks, hK, hA, hG⟩ := X
  subst hret; subst hw; subst hv
  exact W.iret (v := v) hx hb hr (fun t ht hW => ⟨⟨v, u, rfl, rfl, by rw [ht]; exact hP, va_K.moved hW.alike hK, hD⟩, hS.F ht⟩) hS.2.2 hd
theorem tc_rzx {v r : Int32} {ret : Option FieldType} (X : tc_X dC dI ca A own cc nL ret p s m args meth c) (hP : va_P (dC, dI) classes ws H) (hD : va_D A ws) (hS : va_S A s.heap H locs) (hret : ret = some .boolean) (hd : decode cc pc = .ok (.ireturn, 1)) (hn : v &&& 1 = v) (u : Nat → Value) (hw : ws = w1 u) (hv : v = r) :
    W p l e R s m args below meth c H locs 0 0 (MQ below (tc_QIx dC dI ca A w1 r) args s 0 0 A) (F0 m pc ls [.int v]) := by
  obtain ⟨hx, hb, hr, hml, hown, hts, hlocks, hK, hA, hG⟩ := X
  subst hret; subst hw; subst hv
  exact W.zret (v := v) hx hb hr (by show Value.int (v &&& 1) = Value.int v; rw [hn]) (fun t ht hW => ⟨⟨v, u, rfl, rfl, by rw [ht]; exact hP, va_K.moved hW.alike hK, hD⟩, hS.F ht⟩) hS.2.2 hd
end TX
def rf3 (a b c : Nat) : Nat → Option Nat := fun i => if i = 0 then some a else if i = 1 then some b else if i = 2 then some c else none
def rf4 (a b c d : Nat) : Nat → Option Nat := fun i => if i = 0 then some a else if i = 1 then some b else if i = 2 then some c else if i = 3 then some d else none
def cpb (sp dp n : Int32) (n0 n1 : Nat) : Bool := decide (¬ sp < 0 ∧ ¬ dp < 0 ∧ ¬ n < 0 ∧ sp.toNatClampNeg + n.toNatClampNeg ≤ n0 ∧ dp.toNatClampNeg + n.toNatClampNeg ≤ n1)
def cpi (f g : Nat → Int32) (sp dp n : Int32) : Nat → Int32 := va_cpy f g sp.toNatClampNeg dp.toNatClampNeg n.toNatClampNeg
def cpl (f g : Nat → Int64) (sp dp n : Int32) : Nat → Int64 := va_cpy f g sp.toNatClampNeg dp.toNatClampNeg n.toNatClampNeg
section TA
variable {p : Program} {l : Launch} {e : Env} {R : Room} {s : State} {m : MethodId} {args : Array Value} {below : List Frame} {meth : Method} {c : Code} {H : Heap} {locs : List Loc} {Q : State → Prop}
variable {dC : Nat → ClassId} {dI : Nat → Nat → Nat} {ca : Nat → ClassId} {A : Nat → Prop} {own : String} {cc : ByteArray} {nL : Nat} {ret : Option FieldType} {idx pc : Nat} {ls : Array Slot} {rest : List Value} {ws : va_W}
theorem tc_ald (X : tc_X dC dI ca A own cc nL ret p s m args meth c) (hP : va_P (dC, dI) classes ws H) (q0 t0 : Nat) {a : Nat} {cA : ClassId} {C : String} {n : Nat} {f : Nat → Option Nat} (ha : ws[q0]? = some (a, .inl (cA, n, .inr (.inr (.inr (.inr f)))))) (ht : (ty_ ca)[t0]? = some (cA, .object C)) {i : Int32} (j : Nat) {b : Nat} (hj : i.toNatClampNeg = j) (hin : vp_in i n) (hb : f j = some b) (hd : decode cc pc = .ok (.aaload, 1))
    (kk : W p l e R s m args below meth c H locs 0 0 Q (F0 m (pc + 1) ls (.ref b :: rest))) : W p l e R s m args below meth c H locs 0 0 Q (F0 m pc ls (.int i :: .ref a :: rest)) := by
  obtain ⟨hx, hb', hr, hml, hown, hts, hlocks, hK, hA, hG⟩ := X
  refine va_aldq hx hb' hK hP q0 t0 ha ht hin hd ?_
  rw [hj, hb]; exact kk
theorem tc_cpi (X : tc_X dC dI ca A own cc nL ret p s m args meth c) (hnl : ls.size = nL) (hlk : Cond.methodLink own idx arraycopyName ∈ lw_g) (hP : va_P (dC, dI) classes ws H) (hD : va_D A ws) (hS : va_S A s.heap H locs) (q0 q1 t0 t1 : Nat) {a a0 : Nat} {c0 c1 : ClassId} {n0 n1 : Nat} {f g : Nat → Int32} (ha0 : ws[q0]? = some (a0, .inl (c0, n0, .inl f))) (ha1 : ws[q1]? = some (a, .inl (c1, n1, .inl g))) (ht0 : (ty_ ca)[t0]? = some (c0, .int)) (ht1 : (ty_ ca)[t1]? = some (c1, .int))
    {sp dp n : Int32} (hc : cpb sp dp n n0 n1 = true) (hfr : 1 ≤ R.frames) (hlo : (rest.map fun v => v.category).sum + (nativeFrameWords "java/lang/System" "arraycopy" 5 + 11) ≤ R.locals) (hd : decode cc pc = .ok (.invokestatic idx, 3))
    (kk : ∀ (H1 : Heap) (locs1 : List Loc), va_P (dC, dI) classes (ws.set q1 (a, .inl (c1, n1, .inl (cpi f g sp dp n)))) H1 → va_D A (ws.set q1 (a, .inl (c1, n1, .inl (cpi f g sp dp n)))) → va_S A s.heap H1 locs1 → W p l e R s m args below meth c H1 locs1 0 0 Q (F0 m (pc + 3) ls rest)) :
    W p l e R s m args below meth c H locs 0 0 Q (F0 m pc ls (.int n :: .int dp :: .ref a :: .int sp :: .ref a0 :: rest)) := by
  obtain ⟨hx, hb', hr, hml, hown, hts, hlocks, hK, hA, hG⟩ := X
  obtain ⟨h1, h2, h3, h4, h5⟩ := of_decide_eq_true hc
  exact va_copyi hx hb' (hml.trans hnl.symm) hown (hts _ hlk) (hts _ w_cpn) (hts _ w_cps) (hts _ w_cpi) hK hP hD hS q0 q1 t0 t1 ha0 ha1 ht0 ht1 rfl h1 h2 h3 h4 h5 (fun _ _ => rfl) hfr hlo hd kk
theorem tc_cpl (X : tc_X dC dI ca A own cc nL ret p s m args meth c) (hnl : ls.size = nL) (hlk : Cond.methodLink own idx arraycopyName ∈ lw_g) (hP : va_P (dC, dI) classes ws H) (hD : va_D A ws) (hS : va_S A s.heap H locs) (q0 q1 t0 t1 : Nat) {a a0 : Nat} {c0 c1 : ClassId} {n0 n1 : Nat} {f g : Nat → Int64} (ha0 : ws[q0]? = some (a0, .inl (c0, n0, .inr (.inl f)))) (ha1 : ws[q1]? = some (a, .inl (c1, n1, .inr (.inl g)))) (ht0 : (ty_ ca)[t0]? = some (c0, .long)) (ht1 : (ty_ ca)[t1]? = some (c1, .long))
    {sp dp n : Int32} (hc : cpb sp dp n n0 n1 = true) (hfr : 1 ≤ R.frames) (hlo : (rest.map fun v => v.category).sum + (nativeFrameWords "java/lang/System" "arraycopy" 5 + 11) ≤ R.locals) (hd : decode cc pc = .ok (.invokestatic idx, 3))
    (kk : ∀ (H1 : Heap) (locs1 : List Loc), va_P (dC, dI) classes (ws.set q1 (a, .inl (c1, n1, .inr (.inl (cpl f g sp dp n))))) H1 → va_D A (ws.set q1 (a, .inl (c1, n1, .inr (.inl (cpl f g sp dp n))))) → va_S A s.heap H1 locs1 → W p l e R s m args below meth c H1 locs1 0 0 Q (F0 m (pc + 3) ls rest)) :
    W p l e R s m args below meth c H locs 0 0 Q (F0 m pc ls (.int n :: .int dp :: .ref a :: .int sp :: .ref a0 :: rest)) := by
  obtain ⟨hx, hb', hr, hml, hown, hts, hlocks, hK, hA, hG⟩ := X
  obtain ⟨h1, h2, h3, h4, h5⟩ := of_decide_eq_true hc
  exact va_copyl hx hb' (hml.trans hnl.symm) hown (hts _ hlk) (hts _ w_cpn) (hts _ w_cps) (hts _ w_cpi) hK hP hD hS q0 q1 t0 t1 ha0 ha1 ht0 ht1 rfl h1 h2 h3 h4 h5 (fun _ _ => rfl) hfr hlo hd kk
end TA
