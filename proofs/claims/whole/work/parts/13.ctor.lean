theorem wo_X12_1 : Cond.methodLink RX12 1 objectInit ∈ lw_g := lw_m (tb_6 _ (List.mem_of_getElem? (i := 108) rfl)) rfl
theorem dX12_init_0 : decode cX12_init 0 = .ok (.aload_n 0, 1) := by decide +kernel
theorem dX12_init_1 : decode cX12_init 1 = .ok (.invokespecial 1, 3) := by decide +kernel
theorem dX12_init_4 : decode cX12_init 4 = .ok (.aload_n 0, 1) := by decide +kernel
theorem dX12_init_5 : decode cX12_init 5 = .ok (.lconst 1, 1) := by decide +kernel
theorem dX12_init_6 : decode cX12_init 6 = .ok (.putfield 7, 3) := by decide +kernel
theorem dX12_init_9 : decode cX12_init 9 = .ok (.aload_n 0, 1) := by decide +kernel
theorem dX12_init_10 : decode cX12_init 10 = .ok (.iconst 4, 1) := by decide +kernel
theorem dX12_init_11 : decode cX12_init 11 = .ok (.newarray .int, 2) := by decide +kernel
theorem dX12_init_13 : decode cX12_init 13 = .ok (.putfield 13, 3) := by decide +kernel
theorem dX12_init_16 : decode cX12_init 16 = .ok (.aload_n 0, 1) := by decide +kernel
theorem dX12_init_17 : decode cX12_init 17 = .ok (.iconst 4, 1) := by decide +kernel
theorem dX12_init_18 : decode cX12_init 18 = .ok (.newarray .int, 2) := by decide +kernel
theorem dX12_init_20 : decode cX12_init 20 = .ok (.putfield 17, 3) := by decide +kernel
theorem dX12_init_23 : decode cX12_init 23 = .ok (.aload_n 0, 1) := by decide +kernel
theorem dX12_init_24 : decode cX12_init 24 = .ok (.sipush 240, 3) := by decide +kernel
theorem dX12_init_27 : decode cX12_init 27 = .ok (.newarray .long, 2) := by decide +kernel
theorem dX12_init_29 : decode cX12_init 29 = .ok (.putfield 20, 3) := by decide +kernel
theorem dX12_init_32 : decode cX12_init 32 = .ok (.aload_n 0, 1) := by decide +kernel
theorem dX12_init_33 : decode cX12_init 33 = .ok (.sipush 900, 3) := by decide +kernel
theorem dX12_init_36 : decode cX12_init 36 = .ok (.newarray .byte, 2) := by decide +kernel
theorem dX12_init_38 : decode cX12_init 38 = .ok (.putfield 24, 3) := by decide +kernel
theorem dX12_init_41 : decode cX12_init 41 = .ok (.aload_n 0, 1) := by decide +kernel
theorem dX12_init_42 : decode cX12_init 42 = .ok (.iconst (-1), 1) := by decide +kernel
theorem dX12_init_43 : decode cX12_init 43 = .ok (.putfield 28, 3) := by decide +kernel
theorem dX12_init_46 : decode cX12_init 46 = .ok (.aload_n 0, 1) := by decide +kernel
theorem dX12_init_47 : decode cX12_init 47 = .ok (.iconst (-1), 1) := by decide +kernel
theorem dX12_init_48 : decode cX12_init 48 = .ok (.putfield 32, 3) := by decide +kernel
theorem dX12_init_51 : decode cX12_init 51 = .ok (.aload_n 0, 1) := by decide +kernel
theorem dX12_init_52 : decode cX12_init 52 = .ok (.sipush 1820, 3) := by decide +kernel
theorem dX12_init_55 : decode cX12_init 55 = .ok (.newarray .int, 2) := by decide +kernel
theorem dX12_init_57 : decode cX12_init 57 = .ok (.putfield 35, 3) := by decide +kernel
theorem dX12_init_60 : decode cX12_init 60 = .ok (.aload_n 0, 1) := by decide +kernel
theorem dX12_init_61 : decode cX12_init 61 = .ok (.bipush 92, 2) := by decide +kernel
theorem dX12_init_63 : decode cX12_init 63 = .ok (.newarray .int, 2) := by decide +kernel
theorem dX12_init_65 : decode cX12_init 65 = .ok (.putfield 38, 3) := by decide +kernel
theorem dX12_init_68 : decode cX12_init 68 = .ok (.aload_n 0, 1) := by decide +kernel
theorem dX12_init_69 : decode cX12_init 69 = .ok (.bipush 115, 2) := by decide +kernel
theorem dX12_init_71 : decode cX12_init 71 = .ok (.newarray .long, 2) := by decide +kernel
theorem dX12_init_73 : decode cX12_init 73 = .ok (.putfield 41, 3) := by decide +kernel
theorem dX12_init_76 : decode cX12_init 76 = .ok (.aload_n 0, 1) := by decide +kernel
theorem dX12_init_77 : decode cX12_init 77 = .ok (.bipush 10, 2) := by decide +kernel
theorem dX12_init_79 : decode cX12_init 79 = .ok (.newarray .int, 2) := by decide +kernel
theorem dX12_init_81 : decode cX12_init 81 = .ok (.putfield 44, 3) := by decide +kernel
theorem dX12_init_84 : decode cX12_init 84 = .ok (.aload_n 0, 1) := by decide +kernel
theorem dX12_init_85 : decode cX12_init 85 = .ok (.bipush 6, 2) := by decide +kernel
theorem dX12_init_87 : decode cX12_init 87 = .ok (.newarray .int, 2) := by decide +kernel
theorem dX12_init_89 : decode cX12_init 89 = .ok (.putfield 47, 3) := by decide +kernel
theorem dX12_init_92 : decode cX12_init 92 = .ok (.aload_n 0, 1) := by decide +kernel
theorem dX12_init_93 : decode cX12_init 93 = .ok (.bipush 6, 2) := by decide +kernel
theorem dX12_init_95 : decode cX12_init 95 = .ok (.newarray .int, 2) := by decide +kernel
theorem dX12_init_97 : decode cX12_init 97 = .ok (.putfield 50, 3) := by decide +kernel
theorem dX12_init_100 : decode cX12_init 100 = .ok (.aload_n 0, 1) := by decide +kernel
theorem dX12_init_101 : decode cX12_init 101 = .ok (.bipush 6, 2) := by decide +kernel
theorem dX12_init_103 : decode cX12_init 103 = .ok (.newarray .int, 2) := by decide +kernel
theorem dX12_init_105 : decode cX12_init 105 = .ok (.putfield 53, 3) := by decide +kernel
theorem dX12_init_108 : decode cX12_init 108 = .ok (.aload_n 0, 1) := by decide +kernel
theorem dX12_init_109 : decode cX12_init 109 = .ok (.iconst 5, 1) := by decide +kernel
theorem dX12_init_110 : decode cX12_init 110 = .ok (.newarray .int, 2) := by decide +kernel
theorem dX12_init_112 : decode cX12_init 112 = .ok (.putfield 56, 3) := by decide +kernel
theorem dX12_init_115 : decode cX12_init 115 = .ok (.iconst 0, 1) := by decide +kernel
theorem dX12_init_116 : decode cX12_init 116 = .ok (.istore_n 1, 1) := by decide +kernel
theorem dX12_init_117 : decode cX12_init 117 = .ok (.iload_n 1, 1) := by decide +kernel
theorem dX12_init_118 : decode cX12_init 118 = .ok (.iconst 4, 1) := by decide +kernel
theorem dX12_init_119 : decode cX12_init 119 = .ok (.if_icmp .ge 16, 3) := by decide +kernel
theorem dX12_init_122 : decode cX12_init 122 = .ok (.aload_n 0, 1) := by decide +kernel
theorem dX12_init_123 : decode cX12_init 123 = .ok (.getfield 17, 3) := by decide +kernel
theorem dX12_init_126 : decode cX12_init 126 = .ok (.iload_n 1, 1) := by decide +kernel
theorem dX12_init_127 : decode cX12_init 127 = .ok (.iconst (-1), 1) := by decide +kernel
theorem dX12_init_128 : decode cX12_init 128 = .ok (.iastore, 1) := by decide +kernel
theorem dX12_init_129 : decode cX12_init 129 = .ok (.iinc 1 1, 3) := by decide +kernel
theorem dX12_init_132 : decode cX12_init 132 = .ok (.goto (-15), 3) := by decide +kernel
theorem dX12_init_135 : decode cX12_init 135 = .ok (.aload_n 0, 1) := by decide +kernel
theorem dX12_init_136 : decode cX12_init 136 = .ok (.iconst 0, 1) := by decide +kernel
theorem dX12_init_137 : decode cX12_init 137 = .ok (.invokevirtual 59, 3) := by decide +kernel
theorem dX12_init_140 : decode cX12_init 140 = .ok (.return_, 1) := by decide +kernel
theorem dX11_init_0 : decode cX11_init 0 = .ok (.aload_n 0, 1) := by decide +kernel
theorem dX11_init_1 : decode cX11_init 1 = .ok (.invokespecial 1, 3) := by decide +kernel
theorem dX11_init_4 : decode cX11_init 4 = .ok (.aload_n 0, 1) := by decide +kernel
theorem dX11_init_5 : decode cX11_init 5 = .ok (.iconst 4, 1) := by decide +kernel
theorem dX11_init_6 : decode cX11_init 6 = .ok (.anewarray 9, 3) := by decide +kernel
theorem dX11_init_9 : decode cX11_init 9 = .ok (.putfield 11, 3) := by decide +kernel
theorem dX11_init_12 : decode cX11_init 12 = .ok (.iconst 0, 1) := by decide +kernel
theorem dX11_init_13 : decode cX11_init 13 = .ok (.istore_n 1, 1) := by decide +kernel
theorem dX11_init_14 : decode cX11_init 14 = .ok (.iload_n 1, 1) := by decide +kernel
theorem dX11_init_15 : decode cX11_init 15 = .ok (.iconst 4, 1) := by decide +kernel
theorem dX11_init_16 : decode cX11_init 16 = .ok (.if_icmp .ge 22, 3) := by decide +kernel
theorem dX11_init_19 : decode cX11_init 19 = .ok (.aload_n 0, 1) := by decide +kernel
theorem dX11_init_20 : decode cX11_init 20 = .ok (.getfield 11, 3) := by decide +kernel
theorem dX11_init_23 : decode cX11_init 23 = .ok (.iload_n 1, 1) := by decide +kernel
theorem dX11_init_24 : decode cX11_init 24 = .ok (.new 9, 3) := by decide +kernel
theorem dX11_init_27 : decode cX11_init 27 = .ok (.dup, 1) := by decide +kernel
theorem dX11_init_28 : decode cX11_init 28 = .ok (.invokespecial 15, 3) := by decide +kernel
theorem dX11_init_31 : decode cX11_init 31 = .ok (.aastore, 1) := by decide +kernel
theorem dX11_init_32 : decode cX11_init 32 = .ok (.iinc 1 1, 3) := by decide +kernel
theorem dX11_init_35 : decode cX11_init 35 = .ok (.goto (-21), 3) := by decide +kernel
theorem dX11_init_38 : decode cX11_init 38 = .ok (.aload_n 0, 1) := by decide +kernel
theorem dX11_init_39 : decode cX11_init 39 = .ok (.sipush 900, 3) := by decide +kernel
theorem dX11_init_42 : decode cX11_init 42 = .ok (.newarray .byte, 2) := by decide +kernel
theorem dX11_init_44 : decode cX11_init 44 = .ok (.putfield 16, 3) := by decide +kernel
theorem dX11_init_47 : decode cX11_init 47 = .ok (.aload_n 0, 1) := by decide +kernel
theorem dX11_init_48 : decode cX11_init 48 = .ok (.new 20, 3) := by decide +kernel
theorem dX11_init_51 : decode cX11_init 51 = .ok (.dup, 1) := by decide +kernel
theorem dX11_init_52 : decode cX11_init 52 = .ok (.aload_n 0, 1) := by decide +kernel
theorem dX11_init_53 : decode cX11_init 53 = .ok (.getfield 16, 3) := by decide +kernel
theorem dX11_init_56 : decode cX11_init 56 = .ok (.invokespecial 22, 3) := by decide +kernel
theorem dX11_init_59 : decode cX11_init 59 = .ok (.putfield 25, 3) := by decide +kernel
theorem dX11_init_62 : decode cX11_init 62 = .ok (.aload_n 0, 1) := by decide +kernel
theorem dX11_init_63 : decode cX11_init 63 = .ok (.new 29, 3) := by decide +kernel
theorem dX11_init_66 : decode cX11_init 66 = .ok (.dup, 1) := by decide +kernel
theorem dX11_init_67 : decode cX11_init 67 = .ok (.aload_n 0, 1) := by decide +kernel
theorem dX11_init_68 : decode cX11_init 68 = .ok (.getfield 16, 3) := by decide +kernel
theorem dX11_init_71 : decode cX11_init 71 = .ok (.invokespecial 31, 3) := by decide +kernel
theorem dX11_init_74 : decode cX11_init 74 = .ok (.putfield 32, 3) := by decide +kernel
theorem dX11_init_77 : decode cX11_init 77 = .ok (.aload_n 0, 1) := by decide +kernel
theorem dX11_init_78 : decode cX11_init 78 = .ok (.new 36, 3) := by decide +kernel
theorem dX11_init_81 : decode cX11_init 81 = .ok (.dup, 1) := by decide +kernel
theorem dX11_init_82 : decode cX11_init 82 = .ok (.invokespecial 38, 3) := by decide +kernel
theorem dX11_init_85 : decode cX11_init 85 = .ok (.putfield 39, 3) := by decide +kernel
theorem dX11_init_88 : decode cX11_init 88 = .ok (.aload_n 0, 1) := by decide +kernel
theorem dX11_init_89 : decode cX11_init 89 = .ok (.new 36, 3) := by decide +kernel
theorem dX11_init_92 : decode cX11_init 92 = .ok (.dup, 1) := by decide +kernel
theorem dX11_init_93 : decode cX11_init 93 = .ok (.invokespecial 38, 3) := by decide +kernel
theorem dX11_init_96 : decode cX11_init 96 = .ok (.putfield 43, 3) := by decide +kernel
theorem dX11_init_99 : decode cX11_init 99 = .ok (.aload_n 0, 1) := by decide +kernel
theorem dX11_init_100 : decode cX11_init 100 = .ok (.iconst 3, 1) := by decide +kernel
theorem dX11_init_101 : decode cX11_init 101 = .ok (.anewarray 36, 3) := by decide +kernel
theorem dX11_init_104 : decode cX11_init 104 = .ok (.putfield 46, 3) := by decide +kernel
theorem dX11_init_107 : decode cX11_init 107 = .ok (.iconst 0, 1) := by decide +kernel
theorem dX11_init_108 : decode cX11_init 108 = .ok (.istore_n 1, 1) := by decide +kernel
theorem dX11_init_109 : decode cX11_init 109 = .ok (.iload_n 1, 1) := by decide +kernel
theorem dX11_init_110 : decode cX11_init 110 = .ok (.iconst 3, 1) := by decide +kernel
theorem dX11_init_111 : decode cX11_init 111 = .ok (.if_icmp .ge 22, 3) := by decide +kernel
theorem dX11_init_114 : decode cX11_init 114 = .ok (.aload_n 0, 1) := by decide +kernel
theorem dX11_init_115 : decode cX11_init 115 = .ok (.getfield 46, 3) := by decide +kernel
theorem dX11_init_118 : decode cX11_init 118 = .ok (.iload_n 1, 1) := by decide +kernel
theorem dX11_init_119 : decode cX11_init 119 = .ok (.new 36, 3) := by decide +kernel
theorem dX11_init_122 : decode cX11_init 122 = .ok (.dup, 1) := by decide +kernel
theorem dX11_init_123 : decode cX11_init 123 = .ok (.invokespecial 38, 3) := by decide +kernel
theorem dX11_init_126 : decode cX11_init 126 = .ok (.aastore, 1) := by decide +kernel
theorem dX11_init_127 : decode cX11_init 127 = .ok (.iinc 1 1, 3) := by decide +kernel
theorem dX11_init_130 : decode cX11_init 130 = .ok (.goto (-21), 3) := by decide +kernel
theorem dX11_init_133 : decode cX11_init 133 = .ok (.aload_n 0, 1) := by decide +kernel
theorem dX11_init_134 : decode cX11_init 134 = .ok (.new 50, 3) := by decide +kernel
theorem dX11_init_137 : decode cX11_init 137 = .ok (.dup, 1) := by decide +kernel
theorem dX11_init_138 : decode cX11_init 138 = .ok (.invokespecial 52, 3) := by decide +kernel
theorem dX11_init_141 : decode cX11_init 141 = .ok (.putfield 53, 3) := by decide +kernel
theorem dX11_init_144 : decode cX11_init 144 = .ok (.aload_n 0, 1) := by decide +kernel
theorem dX11_init_145 : decode cX11_init 145 = .ok (.new 50, 3) := by decide +kernel
theorem dX11_init_148 : decode cX11_init 148 = .ok (.dup, 1) := by decide +kernel
theorem dX11_init_149 : decode cX11_init 149 = .ok (.invokespecial 52, 3) := by decide +kernel
theorem dX11_init_152 : decode cX11_init 152 = .ok (.putfield 57, 3) := by decide +kernel
theorem dX11_init_155 : decode cX11_init 155 = .ok (.aload_n 0, 1) := by decide +kernel
theorem dX11_init_156 : decode cX11_init 156 = .ok (.new 60, 3) := by decide +kernel
theorem dX11_init_159 : decode cX11_init 159 = .ok (.dup, 1) := by decide +kernel
theorem dX11_init_160 : decode cX11_init 160 = .ok (.invokespecial 62, 3) := by decide +kernel
theorem dX11_init_163 : decode cX11_init 163 = .ok (.putfield 63, 3) := by decide +kernel
theorem dX11_init_166 : decode cX11_init 166 = .ok (.aload_n 0, 1) := by decide +kernel
theorem dX11_init_167 : decode cX11_init 167 = .ok (.new 67, 3) := by decide +kernel
theorem dX11_init_170 : decode cX11_init 170 = .ok (.dup, 1) := by decide +kernel
theorem dX11_init_171 : decode cX11_init 171 = .ok (.invokespecial 69, 3) := by decide +kernel
theorem dX11_init_174 : decode cX11_init 174 = .ok (.putfield 70, 3) := by decide +kernel
theorem dX11_init_177 : decode cX11_init 177 = .ok (.aload_n 0, 1) := by decide +kernel
theorem dX11_init_178 : decode cX11_init 178 = .ok (.new 74, 3) := by decide +kernel
theorem dX11_init_181 : decode cX11_init 181 = .ok (.dup, 1) := by decide +kernel
theorem dX11_init_182 : decode cX11_init 182 = .ok (.invokespecial 76, 3) := by decide +kernel
theorem dX11_init_185 : decode cX11_init 185 = .ok (.putfield 77, 3) := by decide +kernel
theorem dX11_init_188 : decode cX11_init 188 = .ok (.aload_n 0, 1) := by decide +kernel
theorem dX11_init_189 : decode cX11_init 189 = .ok (.lconst 1, 1) := by decide +kernel
theorem dX11_init_190 : decode cX11_init 190 = .ok (.putfield 81, 3) := by decide +kernel
theorem dX11_init_193 : decode cX11_init 193 = .ok (.aload_n 0, 1) := by decide +kernel
theorem dX11_init_194 : decode cX11_init 194 = .ok (.iconst (-1), 1) := by decide +kernel
theorem dX11_init_195 : decode cX11_init 195 = .ok (.putfield 85, 3) := by decide +kernel
theorem dX11_init_198 : decode cX11_init 198 = .ok (.aload_n 0, 1) := by decide +kernel
theorem dX11_init_199 : decode cX11_init 199 = .ok (.iconst (-1), 1) := by decide +kernel
theorem dX11_init_200 : decode cX11_init 200 = .ok (.putfield 89, 3) := by decide +kernel
theorem dX11_init_203 : decode cX11_init 203 = .ok (.return_, 1) := by decide +kernel
def s12_0 : ms_T := (sr (si (si (sl z0 3 (1 : Int64)) 10 (-1 : Int32)) 11 (-1 : Int32)) 2 (upd (upd (upd (upd (fun _ => 0) 0 (-1 : Int32)) 1 (-1 : Int32)) 2 (-1 : Int32)) 3 (-1 : Int32)))
theorem kc_rf4 (a b c d : Nat) : va_up (va_up (va_up (va_up (fun _ => none) 0 (some a)) 1 (some b)) 2 (some c)) 3 (some d) = rf4 a b c d := by
  funext i
  by_cases h0 : i = 0
  · subst h0; rfl
  by_cases h1 : i = 1
  · subst h1; rfl
  by_cases h2 : i = 2
  · subst h2; rfl
  by_cases h3 : i = 3
  · subst h3; rfl
  simp [va_up, rf4, h0, h1, h2, h3]
theorem kc_rf3 (a b c : Nat) : va_up (va_up (va_up (fun _ => none) 0 (some a)) 1 (some b)) 2 (some c) = rf3 a b c := by
  funext i
  by_cases h0 : i = 0
  · subst h0; rfl
  by_cases h1 : i = 1
  · subst h1; rfl
  by_cases h2 : i = 2
  · subst h2; rfl
  simp [va_up, rf3, h0, h1, h2]
section KD
variable {p : Program} {l : Launch} {e : Env} {R : Room} {s : State} {m : MethodId} {args : Array Value} {below : List Frame} {meth : Method} {c : Code} {H : Heap} {locs : List Loc} {cells slots : Nat} {Q : State → Prop}
variable {dC : Nat → ClassId} {dI : Nat → Nat → Nat} {ca : Nat → ClassId} {A : Nat → Prop} {own : String} {cc : ByteArray} {nL : Nat} {ret : Option FieldType}
variable {y : MethodName} {bytes : ByteArray} {maxL idx k : Nat} {ret' : Option FieldType} {rm : Room} {As rest : List Value} {b : Nat} {ws w2 : va_W} {pc : Nat} {ls : Array Slot}
theorem kc_vV (X : tc_X dC dI ca A own cc nL ret p s m args meth c) (hP : va_P (dC, dI) classes ws H) (hD : va_D A ws) (hS : va_S A s.heap H locs)
    (hM : tc_MV l dC dI ca y bytes maxL ret' rm (.ref b :: As) ws w2) (ok : tc_ok y bytes maxL ret' k) (hlk : Cond.methodLink own idx y ∈ lw_g) (him : Cond.instanceMethod y ∈ lw_g) {C : String} (hse : Cond.selects C y y ∈ lw_g) (hrm : tc_rm rm R maxL)
    (ci q0 : Nat) {T : u_T} {N : Nat} {fs : List Value} (hc : classes[ci]? = some (C, T, N)) (he : ws[q0]? = some (b, .inr (ci, fs))) (hk : As.length = k) (hnl : ls.size = nL) (hcat : (rest.map fun v => v.category).sum ≤ 8) (hfc : cells ≤ R.cells ∧ slots ≤ R.slots) (hd : decode cc pc = .ok (.invokevirtual idx, 3))
    (kk : ∀ (H1 : Heap) (locs1 : List Loc), va_P (dC, dI) classes w2 H1 → va_D A w2 → va_S A s.heap H1 locs1 → W p l e R s m args below meth c H1 locs1 cells slots Q (F0 m (pc + 3) ls rest)) :
    W p l e R s m args below meth c H locs cells slots Q (F0 m pc ls (As.reverse ++ .ref b :: rest)) := by
  have hcb := tc_cb X ok hlk hrm
  obtain ⟨hx, hb, hr, hml, hown, hts, hlocks, hK, hA, hG⟩ := X
  obtain ⟨hC, hR, hnR, hnC, hdis⟩ := tc_self ws
  have hFc := va_free (wc := ws) hD hS hA _ hC
  refine va_callv (va_runV (As := As) (rest := rest) (b := b) ⟨hx, hb, hml, hown, hts⟩ (hM H.size) ⟨hcb, hts _ him, hts _ hse⟩ ⟨tc_blind, va_recv hK hP hc he, (tc_preS hK hP hD hG hS hFc).2⟩ rfl hk hnl rfl (lv_room hcat) hd hfc) hS (fun q _ h => hFc q h) hFc (fun u t H1 locs1 ht hvm hw hB hz1 hk1 hS1 => ?_)
  obtain ⟨hP1, hK1, hD1⟩ := hB
  rw [ht] at hP1
  obtain ⟨hP2, hD2⟩ := va_join (wr := []) (w1 := w2) hP hD _ _ hC hR hnR hdis hk1 hFc hP1 hD1
  exact kk H1 locs1 hP2 hD2 hS1
theorem kc_newq4 {n : Int32} {N : Nat} (X : tc_X dC dI ca A own cc nL ret p s m args meth c) (hN : kc_N s) (hP : va_P (dC, dI) classes ws H) (hD : va_D A ws) (hS : va_S A s.heap H locs) (hn : ¬ n < 0) (hN' : n.toNatClampNeg = N) (hby : N * 4 ≤ 536870912) (hcells : cells + 1 ≤ R.cells) (hslots : slots + N ≤ R.slots) (hcl : Cond.classLink own idx RX9 ∈ lw_g) (hd : decode cc pc = .ok (.anewarray idx, 3))
    (kk : ∀ (q : Nat) (H1 : Heap), va_P (dC, dI) classes (ws ++ [(q, .inl (ca 4, N, .inr (.inr (.inr (.inr (fun _ => none))))))]) H1 → va_D A (ws ++ [(q, .inl (ca 4, N, .inr (.inr (.inr (.inr (fun _ => none))))))]) → va_S A s.heap H1 locs → W p l e R s m args below meth c H1 locs (cells + 1) (slots + N) Q (F0 m (pc + 3) ls (.ref q :: rest))) :
    W p l e R s m args below meth c H locs cells slots Q (F0 m pc ls (.int n :: rest)) := by
  obtain ⟨hx, hb, hr, hml, hown, hts, hlocks, hK, hA, hG⟩ := X
  refine va_newq hx hb hown (hts _ hcl) hN.2.2.2.2.2.2.2.2.1 hK hP hD hS hA hn hN' hby hcells hslots hd (fun q cA H1 hK1 hP1 hD1 hS1 => ?_)
  obtain ⟨kA, comp, a1, a2, a3, a4⟩ := (hK1.2 5 (cA, .object "TalkChutes$Tray") rfl).2
  obtain ⟨kB, comB, b1, b2, b3, b4⟩ := (hK.2 4 (ca 4, .object "TalkChutes$Tray") rfl).2
  have h3 : cA = ca 4 := Option.some.inj (a4.symm.trans b4)
  subst h3
  exact kk q H1 hP1 hD1 hS1
theorem kc_newq3 {n : Int32} {N : Nat} (X : tc_X dC dI ca A own cc nL ret p s m args meth c) (hN : kc_N s) (hP : va_P (dC, dI) classes ws H) (hD : va_D A ws) (hS : va_S A s.heap H locs) (hn : ¬ n < 0) (hN' : n.toNatClampNeg = N) (hby : N * 4 ≤ 536870912) (hcells : cells + 1 ≤ R.cells) (hslots : slots + N ≤ R.slots) (hcl : Cond.classLink own idx RX6 ∈ lw_g) (hd : decode cc pc = .ok (.anewarray idx, 3))
    (kk : ∀ (q : Nat) (H1 : Heap), va_P (dC, dI) classes (ws ++ [(q, .inl (ca 3, N, .inr (.inr (.inr (.inr (fun _ => none))))))]) H1 → va_D A (ws ++ [(q, .inl (ca 3, N, .inr (.inr (.inr (.inr (fun _ => none))))))]) → va_S A s.heap H1 locs → W p l e R s m args below meth c H1 locs (cells + 1) (slots + N) Q (F0 m (pc + 3) ls (.ref q :: rest))) :
    W p l e R s m args below meth c H locs cells slots Q (F0 m pc ls (.int n :: rest)) := by
  obtain ⟨hx, hb, hr, hml, hown, hts, hlocks, hK, hA, hG⟩ := X
  refine va_newq hx hb hown (hts _ hcl) hN.2.2.2.2.2.2.2.2.2 hK hP hD hS hA hn hN' hby hcells hslots hd (fun q cA H1 hK1 hP1 hD1 hS1 => ?_)
  obtain ⟨kA, comp, a1, a2, a3, a4⟩ := (hK1.2 5 (cA, .object "TalkChutes$State") rfl).2
  obtain ⟨kB, comB, b1, b2, b3, b4⟩ := (hK.2 3 (ca 3, .object "TalkChutes$State") rfl).2
  have h3 : cA = ca 3 := Option.some.inj (a4.symm.trans b4)
  subst h3
  exact kk q H1 hP1 hD1 hS1
end KD
section G
variable {p : Program} {l : Launch} {e : Env} {s : State} {m : MethodId} {args : Array Value} {below : List Frame} {meth : Method} {c : Code} {dC : Nat → ClassId} {dI : Nat → Nat → Nat} {ca : Nat → ClassId} {A : Nat → Prop}
theorem okX12_init : tc_ok yX12_init cX12_init 2 none 0 := ⟨wc_X12_init, wn_X12, by decide, by decide, by decide +kernel⟩
theorem okX11_init : tc_ok yX11_init cX11_init 2 none 0 := ⟨wc_X11_init, wn_X11, by decide, by decide, by decide +kernel⟩
set_option maxHeartbeats 4000000 in
set_option maxRecDepth 20000 in
theorem kX12_init {h0 : Nat} {z : ms_T} (hz : fX12_empties s12_0 0 = some z) : kc_M l dC dI ca yX12_init cX12_init 2 { frames := 1, cells := 12, slots := 3208, locals := 22 } [.ref h0] [(h0, .inr (12, (.int 0 :: .int 0 :: .long 0 :: .long 0 :: .null :: .null :: .null :: .null :: .int 0 :: .int 0 :: .int 0 :: .int 0 :: .int 0 :: .int 0 :: .int 0 :: .int 0 :: .int 0 :: .int 0 :: .int 0 :: .long 0 :: .null :: .null :: .null :: .int 0 :: .int 0 :: .int 0 :: .null :: .int 0 :: .int 0 :: .long 0 :: .long 0 :: .int 0 :: .null :: .int 0 :: .int 0 :: .null :: .null :: .int 0 :: .int 0 :: .null :: .int 0 :: .int 0 :: .int 0 :: .int 0 :: .int 0 :: .int 0 :: .int 0 :: .int 0 :: .int 0 :: [])))] (fun q => w12 ca (q 0) z) (fun q => q 0 0 = h0) 12 3208 := by
  refine kc_met (own := RX12) (by decide) rfl rfl ?_ (Nat.le_of_ble_eq_true rfl)
  intro p e s m below meth c A X hN hin hP hD hS ls hl
  obtain ⟨hx, hb, hr, hml, hown, hts, hlk, hK, hA, hG⟩ := id X
  have hl : lv_has ls 2 [(0, .ref h0)] := hl
  refine lv_aload_n hx hb dX12_init_0 rfl (lv_at hl 0 rfl) ?_
  refine kc_obj (rest := []) X hl.1 wo_X12_1 w_oi w_oc (Nat.le_of_ble_eq_true rfl) (Nat.le_of_ble_eq_true rfl) dX12_init_1 ?_
  refine lv_aload_n hx hb dX12_init_4 rfl (lv_at hl 0 rfl) ?_
  refine lv_lconst (v := (1 : Int64)) hx hb dX12_init_5 (by decide) ?_
  refine va_put (D := (dC, dI)) (ci := 12) (v := .long (1 : Int64)) (ty := .long) (C := RX12) (T := TX12) (N := 49) hx hb hts i_X12 tyX12 tyX12_ok nmX12 hown hK hP hD hS 0 rfl rfl 3 (by decide) (hts _ wf_X12_7) (fun _ h9 => h9) rfl (tyX12_ok 3 (by decide)) rfl rfl (Nat.le_of_ble_eq_true rfl) dX12_init_6 (fun H locs hP hD hS => ?_)
  have hP : va_P (dC, dI) classes ([(h0, .inr (12, (.int 0 :: .int 0 :: .long 0 :: .long (1 : Int64) :: .null :: .null :: .null :: .null :: .int 0 :: .int 0 :: .int 0 :: .int 0 :: .int 0 :: .int 0 :: .int 0 :: .int 0 :: .int 0 :: .int 0 :: .int 0 :: .long 0 :: .null :: .null :: .null :: .int 0 :: .int 0 :: .int 0 :: .null :: .int 0 :: .int 0 :: .long 0 :: .long 0 :: .int 0 :: .null :: .int 0 :: .int 0 :: .null :: .null :: .int 0 :: .int 0 :: .null :: .int 0 :: .int 0 :: .int 0 :: .int 0 :: .int 0 :: .int 0 :: .int 0 :: .int 0 :: .int 0 :: [])))]) H := hP
  have hD : va_D A ([(h0, .inr (12, (.int 0 :: .int 0 :: .long 0 :: .long (1 : Int64) :: .null :: .null :: .null :: .null :: .int 0 :: .int 0 :: .int 0 :: .int 0 :: .int 0 :: .int 0 :: .int 0 :: .int 0 :: .int 0 :: .int 0 :: .int 0 :: .long 0 :: .null :: .null :: .null :: .int 0 :: .int 0 :: .int 0 :: .null :: .int 0 :: .int 0 :: .long 0 :: .long 0 :: .int 0 :: .null :: .int 0 :: .int 0 :: .null :: .null :: .int 0 :: .int 0 :: .null :: .int 0 :: .int 0 :: .int 0 :: .int 0 :: .int 0 :: .int 0 :: .int 0 :: .int 0 :: .int 0 :: [])))]) := hD
  refine lv_aload_n hx hb dX12_init_9 rfl (lv_at hl 0 rfl) ?_
  refine lv_iconst (v := (4 : Int32)) hx hb dX12_init_10 (by decide) ?_
  refine kc_newI (rest := [.ref h0]) X hP hD hS (by decide) (by decide : ((4 : Int32)).toNatClampNeg = 4) (by decide) (Nat.le_of_ble_eq_true rfl) (Nat.le_of_ble_eq_true rfl) dX12_init_11 (fun q1 H hP hD hS => ?_)
  refine va_putF (D := (dC, dI)) (ci := 12) (v := .ref q1) (ty := .array .int) (C := RX12) (T := TX12) (N := 49) hx hb hts i_X12 tyX12 tyX12_ok nmX12 hown hK hP hD hS 0 rfl rfl 4 (by decide) (hts _ wf_X12_13) (fun _ h9 => h9) rfl hin rfl (tyX12_ok 4 (by decide)) rfl rfl (Nat.le_of_ble_eq_true rfl) dX12_init_13 (fun H locs hP hD hS => ?_)
  have hP : va_P (dC, dI) classes ([(h0, .inr (12, (.int 0 :: .int 0 :: .long 0 :: .long (1 : Int64) :: .ref q1 :: .null :: .null :: .null :: .int 0 :: .int 0 :: .int 0 :: .int 0 :: .int 0 :: .int 0 :: .int 0 :: .int 0 :: .int 0 :: .int 0 :: .int 0 :: .long 0 :: .null :: .null :: .null :: .int 0 :: .int 0 :: .int 0 :: .null :: .int 0 :: .int 0 :: .long 0 :: .long 0 :: .int 0 :: .null :: .int 0 :: .int 0 :: .null :: .null :: .int 0 :: .int 0 :: .null :: .int 0 :: .int 0 :: .int 0 :: .int 0 :: .int 0 :: .int 0 :: .int 0 :: .int 0 :: .int 0 :: [])))] ++ [(q1, .inl (ca 1, 4, .inl (fun _ => 0)))]) H := hP
  have hD : va_D A ([(h0, .inr (12, (.int 0 :: .int 0 :: .long 0 :: .long (1 : Int64) :: .ref q1 :: .null :: .null :: .null :: .int 0 :: .int 0 :: .int 0 :: .int 0 :: .int 0 :: .int 0 :: .int 0 :: .int 0 :: .int 0 :: .int 0 :: .int 0 :: .long 0 :: .null :: .null :: .null :: .int 0 :: .int 0 :: .int 0 :: .null :: .int 0 :: .int 0 :: .long 0 :: .long 0 :: .int 0 :: .null :: .int 0 :: .int 0 :: .null :: .null :: .int 0 :: .int 0 :: .null :: .int 0 :: .int 0 :: .int 0 :: .int 0 :: .int 0 :: .int 0 :: .int 0 :: .int 0 :: .int 0 :: [])))] ++ [(q1, .inl (ca 1, 4, .inl (fun _ => 0)))]) := hD
  refine lv_aload_n hx hb dX12_init_16 rfl (lv_at hl 0 rfl) ?_
  refine lv_iconst (v := (4 : Int32)) hx hb dX12_init_17 (by decide) ?_
  refine kc_newI (rest := [.ref h0]) X hP hD hS (by decide) (by decide : ((4 : Int32)).toNatClampNeg = 4) (by decide) (Nat.le_of_ble_eq_true rfl) (Nat.le_of_ble_eq_true rfl) dX12_init_18 (fun q2 H hP hD hS => ?_)
  refine va_putF (D := (dC, dI)) (ci := 12) (v := .ref q2) (ty := .array .int) (C := RX12) (T := TX12) (N := 49) hx hb hts i_X12 tyX12 tyX12_ok nmX12 hown hK hP hD hS 0 rfl rfl 5 (by decide) (hts _ wf_X12_17) (fun _ h9 => h9) rfl hin rfl (tyX12_ok 5 (by decide)) rfl rfl (Nat.le_of_ble_eq_true rfl) dX12_init_20 (fun H locs hP hD hS => ?_)
  have hP : va_P (dC, dI) classes ([(h0, .inr (12, (.int 0 :: .int 0 :: .long 0 :: .long (1 : Int64) :: .ref q1 :: .ref q2 :: .null :: .null :: .int 0 :: .int 0 :: .int 0 :: .int 0 :: .int 0 :: .int 0 :: .int 0 :: .int 0 :: .int 0 :: .int 0 :: .int 0 :: .long 0 :: .null :: .null :: .null :: .int 0 :: .int 0 :: .int 0 :: .null :: .int 0 :: .int 0 :: .long 0 :: .long 0 :: .int 0 :: .null :: .int 0 :: .int 0 :: .null :: .null :: .int 0 :: .int 0 :: .null :: .int 0 :: .int 0 :: .int 0 :: .int 0 :: .int 0 :: .int 0 :: .int 0 :: .int 0 :: .int 0 :: [])))] ++ [(q1, .inl (ca 1, 4, .inl (fun _ => 0)))] ++ [(q2, .inl (ca 1, 4, .inl (fun _ => 0)))]) H := hP
  have hD : va_D A ([(h0, .inr (12, (.int 0 :: .int 0 :: .long 0 :: .long (1 : Int64) :: .ref q1 :: .ref q2 :: .null :: .null :: .int 0 :: .int 0 :: .int 0 :: .int 0 :: .int 0 :: .int 0 :: .int 0 :: .int 0 :: .int 0 :: .int 0 :: .int 0 :: .long 0 :: .null :: .null :: .null :: .int 0 :: .int 0 :: .int 0 :: .null :: .int 0 :: .int 0 :: .long 0 :: .long 0 :: .int 0 :: .null :: .int 0 :: .int 0 :: .null :: .null :: .int 0 :: .int 0 :: .null :: .int 0 :: .int 0 :: .int 0 :: .int 0 :: .int 0 :: .int 0 :: .int 0 :: .int 0 :: .int 0 :: [])))] ++ [(q1, .inl (ca 1, 4, .inl (fun _ => 0)))] ++ [(q2, .inl (ca 1, 4, .inl (fun _ => 0)))]) := hD
  refine lv_aload_n hx hb dX12_init_23 rfl (lv_at hl 0 rfl) ?_
  refine lv_sipush (v := (240 : Int32)) hx hb dX12_init_24 (by decide) ?_
  refine kc_newJ (rest := [.ref h0]) X hP hD hS (by decide) (by decide : ((240 : Int32)).toNatClampNeg = 240) (by decide) (Nat.le_of_ble_eq_true rfl) (Nat.le_of_ble_eq_true rfl) dX12_init_27 (fun q3 H hP hD hS => ?_)
  refine va_putF (D := (dC, dI)) (ci := 12) (v := .ref q3) (ty := .array .long) (C := RX12) (T := TX12) (N := 49) hx hb hts i_X12 tyX12 tyX12_ok nmX12 hown hK hP hD hS 0 rfl rfl 6 (by decide) (hts _ wf_X12_20) (fun _ h9 => h9) rfl hin rfl (tyX12_ok 6 (by decide)) rfl rfl (Nat.le_of_ble_eq_true rfl) dX12_init_29 (fun H locs hP hD hS => ?_)
  have hP : va_P (dC, dI) classes ([(h0, .inr (12, (.int 0 :: .int 0 :: .long 0 :: .long (1 : Int64) :: .ref q1 :: .ref q2 :: .ref q3 :: .null :: .int 0 :: .int 0 :: .int 0 :: .int 0 :: .int 0 :: .int 0 :: .int 0 :: .int 0 :: .int 0 :: .int 0 :: .int 0 :: .long 0 :: .null :: .null :: .null :: .int 0 :: .int 0 :: .int 0 :: .null :: .int 0 :: .int 0 :: .long 0 :: .long 0 :: .int 0 :: .null :: .int 0 :: .int 0 :: .null :: .null :: .int 0 :: .int 0 :: .null :: .int 0 :: .int 0 :: .int 0 :: .int 0 :: .int 0 :: .int 0 :: .int 0 :: .int 0 :: .int 0 :: [])))] ++ [(q1, .inl (ca 1, 4, .inl (fun _ => 0)))] ++ [(q2, .inl (ca 1, 4, .inl (fun _ => 0)))] ++ [(q3, .inl (ca 2, 240, .inr (.inl (fun _ => 0))))]) H := hP
  have hD : va_D A ([(h0, .inr (12, (.int 0 :: .int 0 :: .long 0 :: .long (1 : Int64) :: .ref q1 :: .ref q2 :: .ref q3 :: .null :: .int 0 :: .int 0 :: .int 0 :: .int 0 :: .int 0 :: .int 0 :: .int 0 :: .int 0 :: .int 0 :: .int 0 :: .int 0 :: .long 0 :: .null :: .null :: .null :: .int 0 :: .int 0 :: .int 0 :: .null :: .int 0 :: .int 0 :: .long 0 :: .long 0 :: .int 0 :: .null :: .int 0 :: .int 0 :: .null :: .null :: .int 0 :: .int 0 :: .null :: .int 0 :: .int 0 :: .int 0 :: .int 0 :: .int 0 :: .int 0 :: .int 0 :: .int 0 :: .int 0 :: [])))] ++ [(q1, .inl (ca 1, 4, .inl (fun _ => 0)))] ++ [(q2, .inl (ca 1, 4, .inl (fun _ => 0)))] ++ [(q3, .inl (ca 2, 240, .inr (.inl (fun _ => 0))))]) := hD
  refine lv_aload_n hx hb dX12_init_32 rfl (lv_at hl 0 rfl) ?_
  refine lv_sipush (v := (900 : Int32)) hx hb dX12_init_33 (by decide) ?_
  refine kc_newB (rest := [.ref h0]) X hP hD hS (by decide) (by decide : ((900 : Int32)).toNatClampNeg = 900) (by decide) (Nat.le_of_ble_eq_true rfl) (Nat.le_of_ble_eq_true rfl) dX12_init_36 (fun q4 H hP hD hS => ?_)
  refine va_putF (D := (dC, dI)) (ci := 12) (v := .ref q4) (ty := .array .byte) (C := RX12) (T := TX12) (N := 49) hx hb hts i_X12 tyX12 tyX12_ok nmX12 hown hK hP hD hS 0 rfl rfl 7 (by decide) (hts _ wf_X12_24) (fun _ h9 => h9) rfl hin rfl (tyX12_ok 7 (by decide)) rfl rfl (Nat.le_of_ble_eq_true rfl) dX12_init_38 (fun H locs hP hD hS => ?_)
  have hP : va_P (dC, dI) classes ([(h0, .inr (12, (.int 0 :: .int 0 :: .long 0 :: .long (1 : Int64) :: .ref q1 :: .ref q2 :: .ref q3 :: .ref q4 :: .int 0 :: .int 0 :: .int 0 :: .int 0 :: .int 0 :: .int 0 :: .int 0 :: .int 0 :: .int 0 :: .int 0 :: .int 0 :: .long 0 :: .null :: .null :: .null :: .int 0 :: .int 0 :: .int 0 :: .null :: .int 0 :: .int 0 :: .long 0 :: .long 0 :: .int 0 :: .null :: .int 0 :: .int 0 :: .null :: .null :: .int 0 :: .int 0 :: .null :: .int 0 :: .int 0 :: .int 0 :: .int 0 :: .int 0 :: .int 0 :: .int 0 :: .int 0 :: .int 0 :: [])))] ++ [(q1, .inl (ca 1, 4, .inl (fun _ => 0)))] ++ [(q2, .inl (ca 1, 4, .inl (fun _ => 0)))] ++ [(q3, .inl (ca 2, 240, .inr (.inl (fun _ => 0))))] ++ [(q4, .inl (ca 0, 900, .inl (fun _ => 0)))]) H := hP
  have hD : va_D A ([(h0, .inr (12, (.int 0 :: .int 0 :: .long 0 :: .long (1 : Int64) :: .ref q1 :: .ref q2 :: .ref q3 :: .ref q4 :: .int 0 :: .int 0 :: .int 0 :: .int 0 :: .int 0 :: .int 0 :: .int 0 :: .int 0 :: .int 0 :: .int 0 :: .int 0 :: .long 0 :: .null :: .null :: .null :: .int 0 :: .int 0 :: .int 0 :: .null :: .int 0 :: .int 0 :: .long 0 :: .long 0 :: .int 0 :: .null :: .int 0 :: .int 0 :: .null :: .null :: .int 0 :: .int 0 :: .null :: .int 0 :: .int 0 :: .int 0 :: .int 0 :: .int 0 :: .int 0 :: .int 0 :: .int 0 :: .int 0 :: [])))] ++ [(q1, .inl (ca 1, 4, .inl (fun _ => 0)))] ++ [(q2, .inl (ca 1, 4, .inl (fun _ => 0)))] ++ [(q3, .inl (ca 2, 240, .inr (.inl (fun _ => 0))))] ++ [(q4, .inl (ca 0, 900, .inl (fun _ => 0)))]) := hD
  refine lv_aload_n hx hb dX12_init_41 rfl (lv_at hl 0 rfl) ?_
  refine lv_iconst (v := (-1 : Int32)) hx hb dX12_init_42 (by decide) ?_
  refine va_put (D := (dC, dI)) (ci := 12) (v := .int (-1 : Int32)) (ty := .int) (C := RX12) (T := TX12) (N := 49) hx hb hts i_X12 tyX12 tyX12_ok nmX12 hown hK hP hD hS 0 rfl rfl 10 (by decide) (hts _ wf_X12_28) (fun _ h9 => h9) rfl (tyX12_ok 10 (by decide)) rfl rfl (Nat.le_of_ble_eq_true rfl) dX12_init_43 (fun H locs hP hD hS => ?_)
  have hP : va_P (dC, dI) classes ([(h0, .inr (12, (.int 0 :: .int 0 :: .long 0 :: .long (1 : Int64) :: .ref q1 :: .ref q2 :: .ref q3 :: .ref q4 :: .int 0 :: .int 0 :: .int (-1 : Int32) :: .int 0 :: .int 0 :: .int 0 :: .int 0 :: .int 0 :: .int 0 :: .int 0 :: .int 0 :: .long 0 :: .null :: .null :: .null :: .int 0 :: .int 0 :: .int 0 :: .null :: .int 0 :: .int 0 :: .long 0 :: .long 0 :: .int 0 :: .null :: .int 0 :: .int 0 :: .null :: .null :: .int 0 :: .int 0 :: .null :: .int 0 :: .int 0 :: .int 0 :: .int 0 :: .int 0 :: .int 0 :: .int 0 :: .int 0 :: .int 0 :: [])))] ++ [(q1, .inl (ca 1, 4, .inl (fun _ => 0)))] ++ [(q2, .inl (ca 1, 4, .inl (fun _ => 0)))] ++ [(q3, .inl (ca 2, 240, .inr (.inl (fun _ => 0))))] ++ [(q4, .inl (ca 0, 900, .inl (fun _ => 0)))]) H := hP
  have hD : va_D A ([(h0, .inr (12, (.int 0 :: .int 0 :: .long 0 :: .long (1 : Int64) :: .ref q1 :: .ref q2 :: .ref q3 :: .ref q4 :: .int 0 :: .int 0 :: .int (-1 : Int32) :: .int 0 :: .int 0 :: .int 0 :: .int 0 :: .int 0 :: .int 0 :: .int 0 :: .int 0 :: .long 0 :: .null :: .null :: .null :: .int 0 :: .int 0 :: .int 0 :: .null :: .int 0 :: .int 0 :: .long 0 :: .long 0 :: .int 0 :: .null :: .int 0 :: .int 0 :: .null :: .null :: .int 0 :: .int 0 :: .null :: .int 0 :: .int 0 :: .int 0 :: .int 0 :: .int 0 :: .int 0 :: .int 0 :: .int 0 :: .int 0 :: [])))] ++ [(q1, .inl (ca 1, 4, .inl (fun _ => 0)))] ++ [(q2, .inl (ca 1, 4, .inl (fun _ => 0)))] ++ [(q3, .inl (ca 2, 240, .inr (.inl (fun _ => 0))))] ++ [(q4, .inl (ca 0, 900, .inl (fun _ => 0)))]) := hD
  refine lv_aload_n hx hb dX12_init_46 rfl (lv_at hl 0 rfl) ?_
  refine lv_iconst (v := (-1 : Int32)) hx hb dX12_init_47 (by decide) ?_
  refine va_put (D := (dC, dI)) (ci := 12) (v := .int (-1 : Int32)) (ty := .int) (C := RX12) (T := TX12) (N := 49) hx hb hts i_X12 tyX12 tyX12_ok nmX12 hown hK hP hD hS 0 rfl rfl 11 (by decide) (hts _ wf_X12_32) (fun _ h9 => h9) rfl (tyX12_ok 11 (by decide)) rfl rfl (Nat.le_of_ble_eq_true rfl) dX12_init_48 (fun H locs hP hD hS => ?_)
  have hP : va_P (dC, dI) classes ([(h0, .inr (12, (.int 0 :: .int 0 :: .long 0 :: .long (1 : Int64) :: .ref q1 :: .ref q2 :: .ref q3 :: .ref q4 :: .int 0 :: .int 0 :: .int (-1 : Int32) :: .int (-1 : Int32) :: .int 0 :: .int 0 :: .int 0 :: .int 0 :: .int 0 :: .int 0 :: .int 0 :: .long 0 :: .null :: .null :: .null :: .int 0 :: .int 0 :: .int 0 :: .null :: .int 0 :: .int 0 :: .long 0 :: .long 0 :: .int 0 :: .null :: .int 0 :: .int 0 :: .null :: .null :: .int 0 :: .int 0 :: .null :: .int 0 :: .int 0 :: .int 0 :: .int 0 :: .int 0 :: .int 0 :: .int 0 :: .int 0 :: .int 0 :: [])))] ++ [(q1, .inl (ca 1, 4, .inl (fun _ => 0)))] ++ [(q2, .inl (ca 1, 4, .inl (fun _ => 0)))] ++ [(q3, .inl (ca 2, 240, .inr (.inl (fun _ => 0))))] ++ [(q4, .inl (ca 0, 900, .inl (fun _ => 0)))]) H := hP
  have hD : va_D A ([(h0, .inr (12, (.int 0 :: .int 0 :: .long 0 :: .long (1 : Int64) :: .ref q1 :: .ref q2 :: .ref q3 :: .ref q4 :: .int 0 :: .int 0 :: .int (-1 : Int32) :: .int (-1 : Int32) :: .int 0 :: .int 0 :: .int 0 :: .int 0 :: .int 0 :: .int 0 :: .int 0 :: .long 0 :: .null :: .null :: .null :: .int 0 :: .int 0 :: .int 0 :: .null :: .int 0 :: .int 0 :: .long 0 :: .long 0 :: .int 0 :: .null :: .int 0 :: .int 0 :: .null :: .null :: .int 0 :: .int 0 :: .null :: .int 0 :: .int 0 :: .int 0 :: .int 0 :: .int 0 :: .int 0 :: .int 0 :: .int 0 :: .int 0 :: [])))] ++ [(q1, .inl (ca 1, 4, .inl (fun _ => 0)))] ++ [(q2, .inl (ca 1, 4, .inl (fun _ => 0)))] ++ [(q3, .inl (ca 2, 240, .inr (.inl (fun _ => 0))))] ++ [(q4, .inl (ca 0, 900, .inl (fun _ => 0)))]) := hD
  refine lv_aload_n hx hb dX12_init_51 rfl (lv_at hl 0 rfl) ?_
  refine lv_sipush (v := (1820 : Int32)) hx hb dX12_init_52 (by decide) ?_
  refine kc_newI (rest := [.ref h0]) X hP hD hS (by decide) (by decide : ((1820 : Int32)).toNatClampNeg = 1820) (by decide) (Nat.le_of_ble_eq_true rfl) (Nat.le_of_ble_eq_true rfl) dX12_init_55 (fun q5 H hP hD hS => ?_)
  refine va_putF (D := (dC, dI)) (ci := 12) (v := .ref q5) (ty := .array .int) (C := RX12) (T := TX12) (N := 49) hx hb hts i_X12 tyX12 tyX12_ok nmX12 hown hK hP hD hS 0 rfl rfl 20 (by decide) (hts _ wf_X12_35) (fun _ h9 => h9) rfl hin rfl (tyX12_ok 20 (by decide)) rfl rfl (Nat.le_of_ble_eq_true rfl) dX12_init_57 (fun H locs hP hD hS => ?_)
  have hP : va_P (dC, dI) classes ([(h0, .inr (12, (.int 0 :: .int 0 :: .long 0 :: .long (1 : Int64) :: .ref q1 :: .ref q2 :: .ref q3 :: .ref q4 :: .int 0 :: .int 0 :: .int (-1 : Int32) :: .int (-1 : Int32) :: .int 0 :: .int 0 :: .int 0 :: .int 0 :: .int 0 :: .int 0 :: .int 0 :: .long 0 :: .ref q5 :: .null :: .null :: .int 0 :: .int 0 :: .int 0 :: .null :: .int 0 :: .int 0 :: .long 0 :: .long 0 :: .int 0 :: .null :: .int 0 :: .int 0 :: .null :: .null :: .int 0 :: .int 0 :: .null :: .int 0 :: .int 0 :: .int 0 :: .int 0 :: .int 0 :: .int 0 :: .int 0 :: .int 0 :: .int 0 :: [])))] ++ [(q1, .inl (ca 1, 4, .inl (fun _ => 0)))] ++ [(q2, .inl (ca 1, 4, .inl (fun _ => 0)))] ++ [(q3, .inl (ca 2, 240, .inr (.inl (fun _ => 0))))] ++ [(q4, .inl (ca 0, 900, .inl (fun _ => 0)))] ++ [(q5, .inl (ca 1, 1820, .inl (fun _ => 0)))]) H := hP
  have hD : va_D A ([(h0, .inr (12, (.int 0 :: .int 0 :: .long 0 :: .long (1 : Int64) :: .ref q1 :: .ref q2 :: .ref q3 :: .ref q4 :: .int 0 :: .int 0 :: .int (-1 : Int32) :: .int (-1 : Int32) :: .int 0 :: .int 0 :: .int 0 :: .int 0 :: .int 0 :: .int 0 :: .int 0 :: .long 0 :: .ref q5 :: .null :: .null :: .int 0 :: .int 0 :: .int 0 :: .null :: .int 0 :: .int 0 :: .long 0 :: .long 0 :: .int 0 :: .null :: .int 0 :: .int 0 :: .null :: .null :: .int 0 :: .int 0 :: .null :: .int 0 :: .int 0 :: .int 0 :: .int 0 :: .int 0 :: .int 0 :: .int 0 :: .int 0 :: .int 0 :: [])))] ++ [(q1, .inl (ca 1, 4, .inl (fun _ => 0)))] ++ [(q2, .inl (ca 1, 4, .inl (fun _ => 0)))] ++ [(q3, .inl (ca 2, 240, .inr (.inl (fun _ => 0))))] ++ [(q4, .inl (ca 0, 900, .inl (fun _ => 0)))] ++ [(q5, .inl (ca 1, 1820, .inl (fun _ => 0)))]) := hD
  refine lv_aload_n hx hb dX12_init_60 rfl (lv_at hl 0 rfl) ?_
  refine lv_bipush (v := (92 : Int32)) hx hb dX12_init_61 (by decide) ?_
  refine kc_newI (rest := [.ref h0]) X hP hD hS (by decide) (by decide : ((92 : Int32)).toNatClampNeg = 92) (by decide) (Nat.le_of_ble_eq_true rfl) (Nat.le_of_ble_eq_true rfl) dX12_init_63 (fun q6 H hP hD hS => ?_)
  refine va_putF (D := (dC, dI)) (ci := 12) (v := .ref q6) (ty := .array .int) (C := RX12) (T := TX12) (N := 49) hx hb hts i_X12 tyX12 tyX12_ok nmX12 hown hK hP hD hS 0 rfl rfl 21 (by decide) (hts _ wf_X12_38) (fun _ h9 => h9) rfl hin rfl (tyX12_ok 21 (by decide)) rfl rfl (Nat.le_of_ble_eq_true rfl) dX12_init_65 (fun H locs hP hD hS => ?_)
  have hP : va_P (dC, dI) classes ([(h0, .inr (12, (.int 0 :: .int 0 :: .long 0 :: .long (1 : Int64) :: .ref q1 :: .ref q2 :: .ref q3 :: .ref q4 :: .int 0 :: .int 0 :: .int (-1 : Int32) :: .int (-1 : Int32) :: .int 0 :: .int 0 :: .int 0 :: .int 0 :: .int 0 :: .int 0 :: .int 0 :: .long 0 :: .ref q5 :: .ref q6 :: .null :: .int 0 :: .int 0 :: .int 0 :: .null :: .int 0 :: .int 0 :: .long 0 :: .long 0 :: .int 0 :: .null :: .int 0 :: .int 0 :: .null :: .null :: .int 0 :: .int 0 :: .null :: .int 0 :: .int 0 :: .int 0 :: .int 0 :: .int 0 :: .int 0 :: .int 0 :: .int 0 :: .int 0 :: [])))] ++ [(q1, .inl (ca 1, 4, .inl (fun _ => 0)))] ++ [(q2, .inl (ca 1, 4, .inl (fun _ => 0)))] ++ [(q3, .inl (ca 2, 240, .inr (.inl (fun _ => 0))))] ++ [(q4, .inl (ca 0, 900, .inl (fun _ => 0)))] ++ [(q5, .inl (ca 1, 1820, .inl (fun _ => 0)))] ++ [(q6, .inl (ca 1, 92, .inl (fun _ => 0)))]) H := hP
  have hD : va_D A ([(h0, .inr (12, (.int 0 :: .int 0 :: .long 0 :: .long (1 : Int64) :: .ref q1 :: .ref q2 :: .ref q3 :: .ref q4 :: .int 0 :: .int 0 :: .int (-1 : Int32) :: .int (-1 : Int32) :: .int 0 :: .int 0 :: .int 0 :: .int 0 :: .int 0 :: .int 0 :: .int 0 :: .long 0 :: .ref q5 :: .ref q6 :: .null :: .int 0 :: .int 0 :: .int 0 :: .null :: .int 0 :: .int 0 :: .long 0 :: .long 0 :: .int 0 :: .null :: .int 0 :: .int 0 :: .null :: .null :: .int 0 :: .int 0 :: .null :: .int 0 :: .int 0 :: .int 0 :: .int 0 :: .int 0 :: .int 0 :: .int 0 :: .int 0 :: .int 0 :: [])))] ++ [(q1, .inl (ca 1, 4, .inl (fun _ => 0)))] ++ [(q2, .inl (ca 1, 4, .inl (fun _ => 0)))] ++ [(q3, .inl (ca 2, 240, .inr (.inl (fun _ => 0))))] ++ [(q4, .inl (ca 0, 900, .inl (fun _ => 0)))] ++ [(q5, .inl (ca 1, 1820, .inl (fun _ => 0)))] ++ [(q6, .inl (ca 1, 92, .inl (fun _ => 0)))]) := hD
  refine lv_aload_n hx hb dX12_init_68 rfl (lv_at hl 0 rfl) ?_
  refine lv_bipush (v := (115 : Int32)) hx hb dX12_init_69 (by decide) ?_
  refine kc_newJ (rest := [.ref h0]) X hP hD hS (by decide) (by decide : ((115 : Int32)).toNatClampNeg = 115) (by decide) (Nat.le_of_ble_eq_true rfl) (Nat.le_of_ble_eq_true rfl) dX12_init_71 (fun q7 H hP hD hS => ?_)
  refine va_putF (D := (dC, dI)) (ci := 12) (v := .ref q7) (ty := .array .long) (C := RX12) (T := TX12) (N := 49) hx hb hts i_X12 tyX12 tyX12_ok nmX12 hown hK hP hD hS 0 rfl rfl 22 (by decide) (hts _ wf_X12_41) (fun _ h9 => h9) rfl hin rfl (tyX12_ok 22 (by decide)) rfl rfl (Nat.le_of_ble_eq_true rfl) dX12_init_73 (fun H locs hP hD hS => ?_)
  have hP : va_P (dC, dI) classes ([(h0, .inr (12, (.int 0 :: .int 0 :: .long 0 :: .long (1 : Int64) :: .ref q1 :: .ref q2 :: .ref q3 :: .ref q4 :: .int 0 :: .int 0 :: .int (-1 : Int32) :: .int (-1 : Int32) :: .int 0 :: .int 0 :: .int 0 :: .int 0 :: .int 0 :: .int 0 :: .int 0 :: .long 0 :: .ref q5 :: .ref q6 :: .ref q7 :: .int 0 :: .int 0 :: .int 0 :: .null :: .int 0 :: .int 0 :: .long 0 :: .long 0 :: .int 0 :: .null :: .int 0 :: .int 0 :: .null :: .null :: .int 0 :: .int 0 :: .null :: .int 0 :: .int 0 :: .int 0 :: .int 0 :: .int 0 :: .int 0 :: .int 0 :: .int 0 :: .int 0 :: [])))] ++ [(q1, .inl (ca 1, 4, .inl (fun _ => 0)))] ++ [(q2, .inl (ca 1, 4, .inl (fun _ => 0)))] ++ [(q3, .inl (ca 2, 240, .inr (.inl (fun _ => 0))))] ++ [(q4, .inl (ca 0, 900, .inl (fun _ => 0)))] ++ [(q5, .inl (ca 1, 1820, .inl (fun _ => 0)))] ++ [(q6, .inl (ca 1, 92, .inl (fun _ => 0)))] ++ [(q7, .inl (ca 2, 115, .inr (.inl (fun _ => 0))))]) H := hP
  have hD : va_D A ([(h0, .inr (12, (.int 0 :: .int 0 :: .long 0 :: .long (1 : Int64) :: .ref q1 :: .ref q2 :: .ref q3 :: .ref q4 :: .int 0 :: .int 0 :: .int (-1 : Int32) :: .int (-1 : Int32) :: .int 0 :: .int 0 :: .int 0 :: .int 0 :: .int 0 :: .int 0 :: .int 0 :: .long 0 :: .ref q5 :: .ref q6 :: .ref q7 :: .int 0 :: .int 0 :: .int 0 :: .null :: .int 0 :: .int 0 :: .long 0 :: .long 0 :: .int 0 :: .null :: .int 0 :: .int 0 :: .null :: .null :: .int 0 :: .int 0 :: .null :: .int 0 :: .int 0 :: .int 0 :: .int 0 :: .int 0 :: .int 0 :: .int 0 :: .int 0 :: .int 0 :: [])))] ++ [(q1, .inl (ca 1, 4, .inl (fun _ => 0)))] ++ [(q2, .inl (ca 1, 4, .inl (fun _ => 0)))] ++ [(q3, .inl (ca 2, 240, .inr (.inl (fun _ => 0))))] ++ [(q4, .inl (ca 0, 900, .inl (fun _ => 0)))] ++ [(q5, .inl (ca 1, 1820, .inl (fun _ => 0)))] ++ [(q6, .inl (ca 1, 92, .inl (fun _ => 0)))] ++ [(q7, .inl (ca 2, 115, .inr (.inl (fun _ => 0))))]) := hD
  refine lv_aload_n hx hb dX12_init_76 rfl (lv_at hl 0 rfl) ?_
  refine lv_bipush (v := (10 : Int32)) hx hb dX12_init_77 (by decide) ?_
  refine kc_newI (rest := [.ref h0]) X hP hD hS (by decide) (by decide : ((10 : Int32)).toNatClampNeg = 10) (by decide) (Nat.le_of_ble_eq_true rfl) (Nat.le_of_ble_eq_true rfl) dX12_init_79 (fun q8 H hP hD hS => ?_)
  refine va_putF (D := (dC, dI)) (ci := 12) (v := .ref q8) (ty := .array .int) (C := RX12) (T := TX12) (N := 49) hx hb hts i_X12 tyX12 tyX12_ok nmX12 hown hK hP hD hS 0 rfl rfl 26 (by decide) (hts _ wf_X12_44) (fun _ h9 => h9) rfl hin rfl (tyX12_ok 26 (by decide)) rfl rfl (Nat.le_of_ble_eq_true rfl) dX12_init_81 (fun H locs hP hD hS => ?_)
  have hP : va_P (dC, dI) classes ([(h0, .inr (12, (.int 0 :: .int 0 :: .long 0 :: .long (1 : Int64) :: .ref q1 :: .ref q2 :: .ref q3 :: .ref q4 :: .int 0 :: .int 0 :: .int (-1 : Int32) :: .int (-1 : Int32) :: .int 0 :: .int 0 :: .int 0 :: .int 0 :: .int 0 :: .int 0 :: .int 0 :: .long 0 :: .ref q5 :: .ref q6 :: .ref q7 :: .int 0 :: .int 0 :: .int 0 :: .ref q8 :: .int 0 :: .int 0 :: .long 0 :: .long 0 :: .int 0 :: .null :: .int 0 :: .int 0 :: .null :: .null :: .int 0 :: .int 0 :: .null :: .int 0 :: .int 0 :: .int 0 :: .int 0 :: .int 0 :: .int 0 :: .int 0 :: .int 0 :: .int 0 :: [])))] ++ [(q1, .inl (ca 1, 4, .inl (fun _ => 0)))] ++ [(q2, .inl (ca 1, 4, .inl (fun _ => 0)))] ++ [(q3, .inl (ca 2, 240, .inr (.inl (fun _ => 0))))] ++ [(q4, .inl (ca 0, 900, .inl (fun _ => 0)))] ++ [(q5, .inl (ca 1, 1820, .inl (fun _ => 0)))] ++ [(q6, .inl (ca 1, 92, .inl (fun _ => 0)))] ++ [(q7, .inl (ca 2, 115, .inr (.inl (fun _ => 0))))] ++ [(q8, .inl (ca 1, 10, .inl (fun _ => 0)))]) H := hP
  have hD : va_D A ([(h0, .inr (12, (.int 0 :: .int 0 :: .long 0 :: .long (1 : Int64) :: .ref q1 :: .ref q2 :: .ref q3 :: .ref q4 :: .int 0 :: .int 0 :: .int (-1 : Int32) :: .int (-1 : Int32) :: .int 0 :: .int 0 :: .int 0 :: .int 0 :: .int 0 :: .int 0 :: .int 0 :: .long 0 :: .ref q5 :: .ref q6 :: .ref q7 :: .int 0 :: .int 0 :: .int 0 :: .ref q8 :: .int 0 :: .int 0 :: .long 0 :: .long 0 :: .int 0 :: .null :: .int 0 :: .int 0 :: .null :: .null :: .int 0 :: .int 0 :: .null :: .int 0 :: .int 0 :: .int 0 :: .int 0 :: .int 0 :: .int 0 :: .int 0 :: .int 0 :: .int 0 :: [])))] ++ [(q1, .inl (ca 1, 4, .inl (fun _ => 0)))] ++ [(q2, .inl (ca 1, 4, .inl (fun _ => 0)))] ++ [(q3, .inl (ca 2, 240, .inr (.inl (fun _ => 0))))] ++ [(q4, .inl (ca 0, 900, .inl (fun _ => 0)))] ++ [(q5, .inl (ca 1, 1820, .inl (fun _ => 0)))] ++ [(q6, .inl (ca 1, 92, .inl (fun _ => 0)))] ++ [(q7, .inl (ca 2, 115, .inr (.inl (fun _ => 0))))] ++ [(q8, .inl (ca 1, 10, .inl (fun _ => 0)))]) := hD
  refine lv_aload_n hx hb dX12_init_84 rfl (lv_at hl 0 rfl) ?_
  refine lv_bipush (v := (6 : Int32)) hx hb dX12_init_85 (by decide) ?_
  refine kc_newI (rest := [.ref h0]) X hP hD hS (by decide) (by decide : ((6 : Int32)).toNatClampNeg = 6) (by decide) (Nat.le_of_ble_eq_true rfl) (Nat.le_of_ble_eq_true rfl) dX12_init_87 (fun q9 H hP hD hS => ?_)
  refine va_putF (D := (dC, dI)) (ci := 12) (v := .ref q9) (ty := .array .int) (C := RX12) (T := TX12) (N := 49) hx hb hts i_X12 tyX12 tyX12_ok nmX12 hown hK hP hD hS 0 rfl rfl 32 (by decide) (hts _ wf_X12_47) (fun _ h9 => h9) rfl hin rfl (tyX12_ok 32 (by decide)) rfl rfl (Nat.le_of_ble_eq_true rfl) dX12_init_89 (fun H locs hP hD hS => ?_)
  have hP : va_P (dC, dI) classes ([(h0, .inr (12, (.int 0 :: .int 0 :: .long 0 :: .long (1 : Int64) :: .ref q1 :: .ref q2 :: .ref q3 :: .ref q4 :: .int 0 :: .int 0 :: .int (-1 : Int32) :: .int (-1 : Int32) :: .int 0 :: .int 0 :: .int 0 :: .int 0 :: .int 0 :: .int 0 :: .int 0 :: .long 0 :: .ref q5 :: .ref q6 :: .ref q7 :: .int 0 :: .int 0 :: .int 0 :: .ref q8 :: .int 0 :: .int 0 :: .long 0 :: .long 0 :: .int 0 :: .ref q9 :: .int 0 :: .int 0 :: .null :: .null :: .int 0 :: .int 0 :: .null :: .int 0 :: .int 0 :: .int 0 :: .int 0 :: .int 0 :: .int 0 :: .int 0 :: .int 0 :: .int 0 :: [])))] ++ [(q1, .inl (ca 1, 4, .inl (fun _ => 0)))] ++ [(q2, .inl (ca 1, 4, .inl (fun _ => 0)))] ++ [(q3, .inl (ca 2, 240, .inr (.inl (fun _ => 0))))] ++ [(q4, .inl (ca 0, 900, .inl (fun _ => 0)))] ++ [(q5, .inl (ca 1, 1820, .inl (fun _ => 0)))] ++ [(q6, .inl (ca 1, 92, .inl (fun _ => 0)))] ++ [(q7, .inl (ca 2, 115, .inr (.inl (fun _ => 0))))] ++ [(q8, .inl (ca 1, 10, .inl (fun _ => 0)))] ++ [(q9, .inl (ca 1, 6, .inl (fun _ => 0)))]) H := hP
  have hD : va_D A ([(h0, .inr (12, (.int 0 :: .int 0 :: .long 0 :: .long (1 : Int64) :: .ref q1 :: .ref q2 :: .ref q3 :: .ref q4 :: .int 0 :: .int 0 :: .int (-1 : Int32) :: .int (-1 : Int32) :: .int 0 :: .int 0 :: .int 0 :: .int 0 :: .int 0 :: .int 0 :: .int 0 :: .long 0 :: .ref q5 :: .ref q6 :: .ref q7 :: .int 0 :: .int 0 :: .int 0 :: .ref q8 :: .int 0 :: .int 0 :: .long 0 :: .long 0 :: .int 0 :: .ref q9 :: .int 0 :: .int 0 :: .null :: .null :: .int 0 :: .int 0 :: .null :: .int 0 :: .int 0 :: .int 0 :: .int 0 :: .int 0 :: .int 0 :: .int 0 :: .int 0 :: .int 0 :: [])))] ++ [(q1, .inl (ca 1, 4, .inl (fun _ => 0)))] ++ [(q2, .inl (ca 1, 4, .inl (fun _ => 0)))] ++ [(q3, .inl (ca 2, 240, .inr (.inl (fun _ => 0))))] ++ [(q4, .inl (ca 0, 900, .inl (fun _ => 0)))] ++ [(q5, .inl (ca 1, 1820, .inl (fun _ => 0)))] ++ [(q6, .inl (ca 1, 92, .inl (fun _ => 0)))] ++ [(q7, .inl (ca 2, 115, .inr (.inl (fun _ => 0))))] ++ [(q8, .inl (ca 1, 10, .inl (fun _ => 0)))] ++ [(q9, .inl (ca 1, 6, .inl (fun _ => 0)))]) := hD
  refine lv_aload_n hx hb dX12_init_92 rfl (lv_at hl 0 rfl) ?_
  refine lv_bipush (v := (6 : Int32)) hx hb dX12_init_93 (by decide) ?_
  refine kc_newI (rest := [.ref h0]) X hP hD hS (by decide) (by decide : ((6 : Int32)).toNatClampNeg = 6) (by decide) (Nat.le_of_ble_eq_true rfl) (Nat.le_of_ble_eq_true rfl) dX12_init_95 (fun q10 H hP hD hS => ?_)
  refine va_putF (D := (dC, dI)) (ci := 12) (v := .ref q10) (ty := .array .int) (C := RX12) (T := TX12) (N := 49) hx hb hts i_X12 tyX12 tyX12_ok nmX12 hown hK hP hD hS 0 rfl rfl 35 (by decide) (hts _ wf_X12_50) (fun _ h9 => h9) rfl hin rfl (tyX12_ok 35 (by decide)) rfl rfl (Nat.le_of_ble_eq_true rfl) dX12_init_97 (fun H locs hP hD hS => ?_)
  have hP : va_P (dC, dI) classes ([(h0, .inr (12, (.int 0 :: .int 0 :: .long 0 :: .long (1 : Int64) :: .ref q1 :: .ref q2 :: .ref q3 :: .ref q4 :: .int 0 :: .int 0 :: .int (-1 : Int32) :: .int (-1 : Int32) :: .int 0 :: .int 0 :: .int 0 :: .int 0 :: .int 0 :: .int 0 :: .int 0 :: .long 0 :: .ref q5 :: .ref q6 :: .ref q7 :: .int 0 :: .int 0 :: .int 0 :: .ref q8 :: .int 0 :: .int 0 :: .long 0 :: .long 0 :: .int 0 :: .ref q9 :: .int 0 :: .int 0 :: .ref q10 :: .null :: .int 0 :: .int 0 :: .null :: .int 0 :: .int 0 :: .int 0 :: .int 0 :: .int 0 :: .int 0 :: .int 0 :: .int 0 :: .int 0 :: [])))] ++ [(q1, .inl (ca 1, 4, .inl (fun _ => 0)))] ++ [(q2, .inl (ca 1, 4, .inl (fun _ => 0)))] ++ [(q3, .inl (ca 2, 240, .inr (.inl (fun _ => 0))))] ++ [(q4, .inl (ca 0, 900, .inl (fun _ => 0)))] ++ [(q5, .inl (ca 1, 1820, .inl (fun _ => 0)))] ++ [(q6, .inl (ca 1, 92, .inl (fun _ => 0)))] ++ [(q7, .inl (ca 2, 115, .inr (.inl (fun _ => 0))))] ++ [(q8, .inl (ca 1, 10, .inl (fun _ => 0)))] ++ [(q9, .inl (ca 1, 6, .inl (fun _ => 0)))] ++ [(q10, .inl (ca 1, 6, .inl (fun _ => 0)))]) H := hP
  have hD : va_D A ([(h0, .inr (12, (.int 0 :: .int 0 :: .long 0 :: .long (1 : Int64) :: .ref q1 :: .ref q2 :: .ref q3 :: .ref q4 :: .int 0 :: .int 0 :: .int (-1 : Int32) :: .int (-1 : Int32) :: .int 0 :: .int 0 :: .int 0 :: .int 0 :: .int 0 :: .int 0 :: .int 0 :: .long 0 :: .ref q5 :: .ref q6 :: .ref q7 :: .int 0 :: .int 0 :: .int 0 :: .ref q8 :: .int 0 :: .int 0 :: .long 0 :: .long 0 :: .int 0 :: .ref q9 :: .int 0 :: .int 0 :: .ref q10 :: .null :: .int 0 :: .int 0 :: .null :: .int 0 :: .int 0 :: .int 0 :: .int 0 :: .int 0 :: .int 0 :: .int 0 :: .int 0 :: .int 0 :: [])))] ++ [(q1, .inl (ca 1, 4, .inl (fun _ => 0)))] ++ [(q2, .inl (ca 1, 4, .inl (fun _ => 0)))] ++ [(q3, .inl (ca 2, 240, .inr (.inl (fun _ => 0))))] ++ [(q4, .inl (ca 0, 900, .inl (fun _ => 0)))] ++ [(q5, .inl (ca 1, 1820, .inl (fun _ => 0)))] ++ [(q6, .inl (ca 1, 92, .inl (fun _ => 0)))] ++ [(q7, .inl (ca 2, 115, .inr (.inl (fun _ => 0))))] ++ [(q8, .inl (ca 1, 10, .inl (fun _ => 0)))] ++ [(q9, .inl (ca 1, 6, .inl (fun _ => 0)))] ++ [(q10, .inl (ca 1, 6, .inl (fun _ => 0)))]) := hD
  refine lv_aload_n hx hb dX12_init_100 rfl (lv_at hl 0 rfl) ?_
  refine lv_bipush (v := (6 : Int32)) hx hb dX12_init_101 (by decide) ?_
  refine kc_newI (rest := [.ref h0]) X hP hD hS (by decide) (by decide : ((6 : Int32)).toNatClampNeg = 6) (by decide) (Nat.le_of_ble_eq_true rfl) (Nat.le_of_ble_eq_true rfl) dX12_init_103 (fun q11 H hP hD hS => ?_)
  refine va_putF (D := (dC, dI)) (ci := 12) (v := .ref q11) (ty := .array .int) (C := RX12) (T := TX12) (N := 49) hx hb hts i_X12 tyX12 tyX12_ok nmX12 hown hK hP hD hS 0 rfl rfl 36 (by decide) (hts _ wf_X12_53) (fun _ h9 => h9) rfl hin rfl (tyX12_ok 36 (by decide)) rfl rfl (Nat.le_of_ble_eq_true rfl) dX12_init_105 (fun H locs hP hD hS => ?_)
  have hP : va_P (dC, dI) classes ([(h0, .inr (12, (.int 0 :: .int 0 :: .long 0 :: .long (1 : Int64) :: .ref q1 :: .ref q2 :: .ref q3 :: .ref q4 :: .int 0 :: .int 0 :: .int (-1 : Int32) :: .int (-1 : Int32) :: .int 0 :: .int 0 :: .int 0 :: .int 0 :: .int 0 :: .int 0 :: .int 0 :: .long 0 :: .ref q5 :: .ref q6 :: .ref q7 :: .int 0 :: .int 0 :: .int 0 :: .ref q8 :: .int 0 :: .int 0 :: .long 0 :: .long 0 :: .int 0 :: .ref q9 :: .int 0 :: .int 0 :: .ref q10 :: .ref q11 :: .int 0 :: .int 0 :: .null :: .int 0 :: .int 0 :: .int 0 :: .int 0 :: .int 0 :: .int 0 :: .int 0 :: .int 0 :: .int 0 :: [])))] ++ [(q1, .inl (ca 1, 4, .inl (fun _ => 0)))] ++ [(q2, .inl (ca 1, 4, .inl (fun _ => 0)))] ++ [(q3, .inl (ca 2, 240, .inr (.inl (fun _ => 0))))] ++ [(q4, .inl (ca 0, 900, .inl (fun _ => 0)))] ++ [(q5, .inl (ca 1, 1820, .inl (fun _ => 0)))] ++ [(q6, .inl (ca 1, 92, .inl (fun _ => 0)))] ++ [(q7, .inl (ca 2, 115, .inr (.inl (fun _ => 0))))] ++ [(q8, .inl (ca 1, 10, .inl (fun _ => 0)))] ++ [(q9, .inl (ca 1, 6, .inl (fun _ => 0)))] ++ [(q10, .inl (ca 1, 6, .inl (fun _ => 0)))] ++ [(q11, .inl (ca 1, 6, .inl (fun _ => 0)))]) H := hP
  have hD : va_D A ([(h0, .inr (12, (.int 0 :: .int 0 :: .long 0 :: .long (1 : Int64) :: .ref q1 :: .ref q2 :: .ref q3 :: .ref q4 :: .int 0 :: .int 0 :: .int (-1 : Int32) :: .int (-1 : Int32) :: .int 0 :: .int 0 :: .int 0 :: .int 0 :: .int 0 :: .int 0 :: .int 0 :: .long 0 :: .ref q5 :: .ref q6 :: .ref q7 :: .int 0 :: .int 0 :: .int 0 :: .ref q8 :: .int 0 :: .int 0 :: .long 0 :: .long 0 :: .int 0 :: .ref q9 :: .int 0 :: .int 0 :: .ref q10 :: .ref q11 :: .int 0 :: .int 0 :: .null :: .int 0 :: .int 0 :: .int 0 :: .int 0 :: .int 0 :: .int 0 :: .int 0 :: .int 0 :: .int 0 :: [])))] ++ [(q1, .inl (ca 1, 4, .inl (fun _ => 0)))] ++ [(q2, .inl (ca 1, 4, .inl (fun _ => 0)))] ++ [(q3, .inl (ca 2, 240, .inr (.inl (fun _ => 0))))] ++ [(q4, .inl (ca 0, 900, .inl (fun _ => 0)))] ++ [(q5, .inl (ca 1, 1820, .inl (fun _ => 0)))] ++ [(q6, .inl (ca 1, 92, .inl (fun _ => 0)))] ++ [(q7, .inl (ca 2, 115, .inr (.inl (fun _ => 0))))] ++ [(q8, .inl (ca 1, 10, .inl (fun _ => 0)))] ++ [(q9, .inl (ca 1, 6, .inl (fun _ => 0)))] ++ [(q10, .inl (ca 1, 6, .inl (fun _ => 0)))] ++ [(q11, .inl (ca 1, 6, .inl (fun _ => 0)))]) := hD
  refine lv_aload_n hx hb dX12_init_108 rfl (lv_at hl 0 rfl) ?_
  refine lv_iconst (v := (5 : Int32)) hx hb dX12_init_109 (by decide) ?_
  refine kc_newI (rest := [.ref h0]) X hP hD hS (by decide) (by decide : ((5 : Int32)).toNatClampNeg = 5) (by decide) (Nat.le_of_ble_eq_true rfl) (Nat.le_of_ble_eq_true rfl) dX12_init_110 (fun q12 H hP hD hS => ?_)
  refine va_putF (D := (dC, dI)) (ci := 12) (v := .ref q12) (ty := .array .int) (C := RX12) (T := TX12) (N := 49) hx hb hts i_X12 tyX12 tyX12_ok nmX12 hown hK hP hD hS 0 rfl rfl 39 (by decide) (hts _ wf_X12_56) (fun _ h9 => h9) rfl hin rfl (tyX12_ok 39 (by decide)) rfl rfl (Nat.le_of_ble_eq_true rfl) dX12_init_112 (fun H locs hP hD hS => ?_)
  have hP : va_P (dC, dI) classes ([(h0, .inr (12, (.int 0 :: .int 0 :: .long 0 :: .long (1 : Int64) :: .ref q1 :: .ref q2 :: .ref q3 :: .ref q4 :: .int 0 :: .int 0 :: .int (-1 : Int32) :: .int (-1 : Int32) :: .int 0 :: .int 0 :: .int 0 :: .int 0 :: .int 0 :: .int 0 :: .int 0 :: .long 0 :: .ref q5 :: .ref q6 :: .ref q7 :: .int 0 :: .int 0 :: .int 0 :: .ref q8 :: .int 0 :: .int 0 :: .long 0 :: .long 0 :: .int 0 :: .ref q9 :: .int 0 :: .int 0 :: .ref q10 :: .ref q11 :: .int 0 :: .int 0 :: .ref q12 :: .int 0 :: .int 0 :: .int 0 :: .int 0 :: .int 0 :: .int 0 :: .int 0 :: .int 0 :: .int 0 :: [])))] ++ [(q1, .inl (ca 1, 4, .inl (fun _ => 0)))] ++ [(q2, .inl (ca 1, 4, .inl (fun _ => 0)))] ++ [(q3, .inl (ca 2, 240, .inr (.inl (fun _ => 0))))] ++ [(q4, .inl (ca 0, 900, .inl (fun _ => 0)))] ++ [(q5, .inl (ca 1, 1820, .inl (fun _ => 0)))] ++ [(q6, .inl (ca 1, 92, .inl (fun _ => 0)))] ++ [(q7, .inl (ca 2, 115, .inr (.inl (fun _ => 0))))] ++ [(q8, .inl (ca 1, 10, .inl (fun _ => 0)))] ++ [(q9, .inl (ca 1, 6, .inl (fun _ => 0)))] ++ [(q10, .inl (ca 1, 6, .inl (fun _ => 0)))] ++ [(q11, .inl (ca 1, 6, .inl (fun _ => 0)))] ++ [(q12, .inl (ca 1, 5, .inl (fun _ => 0)))]) H := hP
  have hD : va_D A ([(h0, .inr (12, (.int 0 :: .int 0 :: .long 0 :: .long (1 : Int64) :: .ref q1 :: .ref q2 :: .ref q3 :: .ref q4 :: .int 0 :: .int 0 :: .int (-1 : Int32) :: .int (-1 : Int32) :: .int 0 :: .int 0 :: .int 0 :: .int 0 :: .int 0 :: .int 0 :: .int 0 :: .long 0 :: .ref q5 :: .ref q6 :: .ref q7 :: .int 0 :: .int 0 :: .int 0 :: .ref q8 :: .int 0 :: .int 0 :: .long 0 :: .long 0 :: .int 0 :: .ref q9 :: .int 0 :: .int 0 :: .ref q10 :: .ref q11 :: .int 0 :: .int 0 :: .ref q12 :: .int 0 :: .int 0 :: .int 0 :: .int 0 :: .int 0 :: .int 0 :: .int 0 :: .int 0 :: .int 0 :: [])))] ++ [(q1, .inl (ca 1, 4, .inl (fun _ => 0)))] ++ [(q2, .inl (ca 1, 4, .inl (fun _ => 0)))] ++ [(q3, .inl (ca 2, 240, .inr (.inl (fun _ => 0))))] ++ [(q4, .inl (ca 0, 900, .inl (fun _ => 0)))] ++ [(q5, .inl (ca 1, 1820, .inl (fun _ => 0)))] ++ [(q6, .inl (ca 1, 92, .inl (fun _ => 0)))] ++ [(q7, .inl (ca 2, 115, .inr (.inl (fun _ => 0))))] ++ [(q8, .inl (ca 1, 10, .inl (fun _ => 0)))] ++ [(q9, .inl (ca 1, 6, .inl (fun _ => 0)))] ++ [(q10, .inl (ca 1, 6, .inl (fun _ => 0)))] ++ [(q11, .inl (ca 1, 6, .inl (fun _ => 0)))] ++ [(q12, .inl (ca 1, 5, .inl (fun _ => 0)))]) := hD
  refine lv_iconst (v := (0 : Int32)) hx hb dX12_init_115 (by decide) ?_
  refine lv_istore_n (lv' := [(1, .int (0 : Int32)), (0, .ref h0)]) hx hb dX12_init_116 rfl hl (by decide) rfl (fun ls hl => ?_)
  refine lv_iload_n hx hb dX12_init_117 rfl (lv_at hl 0 rfl) ?_
  refine lv_iconst (v := (4 : Int32)) hx hb dX12_init_118 (by decide) ?_
  refine lv_icmp_ge (tgt := 135) hx hb dX12_init_119 (by decide) (fun h => absurd h (by decide)) (fun _ => ?_)
  refine lv_aload_n hx hb dX12_init_122 rfl (lv_at hl 1 rfl) ?_
  refine va_get (D := (dC, dI)) (ci := 12) (v := .ref q2) (C := RX12) (T := TX12) (N := 49) hx hb hts i_X12 hown hK hP 0 rfl rfl 5 (by decide) (hts _ wf_X12_17) (fun _ h9 => h9) rfl dX12_init_123 ?_
  refine lv_iload_n hx hb dX12_init_126 rfl (lv_at hl 0 rfl) ?_
  refine lv_iconst (v := (-1 : Int32)) hx hb dX12_init_127 (by decide) ?_
  refine va_iast hx hb hK hP hD hS 2 1 rfl rfl (inb_vp (by decide)) dX12_init_128 (fun H locs hP hD hS => ?_)
  have hP : va_P (dC, dI) classes ([(h0, .inr (12, (.int 0 :: .int 0 :: .long 0 :: .long (1 : Int64) :: .ref q1 :: .ref q2 :: .ref q3 :: .ref q4 :: .int 0 :: .int 0 :: .int (-1 : Int32) :: .int (-1 : Int32) :: .int 0 :: .int 0 :: .int 0 :: .int 0 :: .int 0 :: .int 0 :: .int 0 :: .long 0 :: .ref q5 :: .ref q6 :: .ref q7 :: .int 0 :: .int 0 :: .int 0 :: .ref q8 :: .int 0 :: .int 0 :: .long 0 :: .long 0 :: .int 0 :: .ref q9 :: .int 0 :: .int 0 :: .ref q10 :: .ref q11 :: .int 0 :: .int 0 :: .ref q12 :: .int 0 :: .int 0 :: .int 0 :: .int 0 :: .int 0 :: .int 0 :: .int 0 :: .int 0 :: .int 0 :: [])))] ++ [(q1, .inl (ca 1, 4, .inl (fun _ => 0)))] ++ [(q2, .inl (ca 1, 4, .inl (upd (fun _ => 0) 0 (-1 : Int32))))] ++ [(q3, .inl (ca 2, 240, .inr (.inl (fun _ => 0))))] ++ [(q4, .inl (ca 0, 900, .inl (fun _ => 0)))] ++ [(q5, .inl (ca 1, 1820, .inl (fun _ => 0)))] ++ [(q6, .inl (ca 1, 92, .inl (fun _ => 0)))] ++ [(q7, .inl (ca 2, 115, .inr (.inl (fun _ => 0))))] ++ [(q8, .inl (ca 1, 10, .inl (fun _ => 0)))] ++ [(q9, .inl (ca 1, 6, .inl (fun _ => 0)))] ++ [(q10, .inl (ca 1, 6, .inl (fun _ => 0)))] ++ [(q11, .inl (ca 1, 6, .inl (fun _ => 0)))] ++ [(q12, .inl (ca 1, 5, .inl (fun _ => 0)))]) H := hP
  have hD : va_D A ([(h0, .inr (12, (.int 0 :: .int 0 :: .long 0 :: .long (1 : Int64) :: .ref q1 :: .ref q2 :: .ref q3 :: .ref q4 :: .int 0 :: .int 0 :: .int (-1 : Int32) :: .int (-1 : Int32) :: .int 0 :: .int 0 :: .int 0 :: .int 0 :: .int 0 :: .int 0 :: .int 0 :: .long 0 :: .ref q5 :: .ref q6 :: .ref q7 :: .int 0 :: .int 0 :: .int 0 :: .ref q8 :: .int 0 :: .int 0 :: .long 0 :: .long 0 :: .int 0 :: .ref q9 :: .int 0 :: .int 0 :: .ref q10 :: .ref q11 :: .int 0 :: .int 0 :: .ref q12 :: .int 0 :: .int 0 :: .int 0 :: .int 0 :: .int 0 :: .int 0 :: .int 0 :: .int 0 :: .int 0 :: [])))] ++ [(q1, .inl (ca 1, 4, .inl (fun _ => 0)))] ++ [(q2, .inl (ca 1, 4, .inl (upd (fun _ => 0) 0 (-1 : Int32))))] ++ [(q3, .inl (ca 2, 240, .inr (.inl (fun _ => 0))))] ++ [(q4, .inl (ca 0, 900, .inl (fun _ => 0)))] ++ [(q5, .inl (ca 1, 1820, .inl (fun _ => 0)))] ++ [(q6, .inl (ca 1, 92, .inl (fun _ => 0)))] ++ [(q7, .inl (ca 2, 115, .inr (.inl (fun _ => 0))))] ++ [(q8, .inl (ca 1, 10, .inl (fun _ => 0)))] ++ [(q9, .inl (ca 1, 6, .inl (fun _ => 0)))] ++ [(q10, .inl (ca 1, 6, .inl (fun _ => 0)))] ++ [(q11, .inl (ca 1, 6, .inl (fun _ => 0)))] ++ [(q12, .inl (ca 1, 5, .inl (fun _ => 0)))]) := hD
  refine lv_iinc (v := (1 : Int32)) (lv' := [(1, .int (1 : Int32)), (0, .ref h0)]) hx hb dX12_init_129 hl (k := 0) rfl (by decide) (by decide) rfl (fun ls hl => ?_)
  refine lv_goto (tgt := 117) hx hb dX12_init_132 (by decide) ?_
  refine lv_iload_n hx hb dX12_init_117 rfl (lv_at hl 0 rfl) ?_
  refine lv_iconst (v := (4 : Int32)) hx hb dX12_init_118 (by decide) ?_
  refine lv_icmp_ge (tgt := 135) hx hb dX12_init_119 (by decide) (fun h => absurd h (by decide)) (fun _ => ?_)
  refine lv_aload_n hx hb dX12_init_122 rfl (lv_at hl 1 rfl) ?_
  refine va_get (D := (dC, dI)) (ci := 12) (v := .ref q2) (C := RX12) (T := TX12) (N := 49) hx hb hts i_X12 hown hK hP 0 rfl rfl 5 (by decide) (hts _ wf_X12_17) (fun _ h9 => h9) rfl dX12_init_123 ?_
  refine lv_iload_n hx hb dX12_init_126 rfl (lv_at hl 0 rfl) ?_
  refine lv_iconst (v := (-1 : Int32)) hx hb dX12_init_127 (by decide) ?_
  refine va_iast hx hb hK hP hD hS 2 1 rfl rfl (inb_vp (by decide)) dX12_init_128 (fun H locs hP hD hS => ?_)
  have hP : va_P (dC, dI) classes ([(h0, .inr (12, (.int 0 :: .int 0 :: .long 0 :: .long (1 : Int64) :: .ref q1 :: .ref q2 :: .ref q3 :: .ref q4 :: .int 0 :: .int 0 :: .int (-1 : Int32) :: .int (-1 : Int32) :: .int 0 :: .int 0 :: .int 0 :: .int 0 :: .int 0 :: .int 0 :: .int 0 :: .long 0 :: .ref q5 :: .ref q6 :: .ref q7 :: .int 0 :: .int 0 :: .int 0 :: .ref q8 :: .int 0 :: .int 0 :: .long 0 :: .long 0 :: .int 0 :: .ref q9 :: .int 0 :: .int 0 :: .ref q10 :: .ref q11 :: .int 0 :: .int 0 :: .ref q12 :: .int 0 :: .int 0 :: .int 0 :: .int 0 :: .int 0 :: .int 0 :: .int 0 :: .int 0 :: .int 0 :: [])))] ++ [(q1, .inl (ca 1, 4, .inl (fun _ => 0)))] ++ [(q2, .inl (ca 1, 4, .inl (upd (upd (fun _ => 0) 0 (-1 : Int32)) 1 (-1 : Int32))))] ++ [(q3, .inl (ca 2, 240, .inr (.inl (fun _ => 0))))] ++ [(q4, .inl (ca 0, 900, .inl (fun _ => 0)))] ++ [(q5, .inl (ca 1, 1820, .inl (fun _ => 0)))] ++ [(q6, .inl (ca 1, 92, .inl (fun _ => 0)))] ++ [(q7, .inl (ca 2, 115, .inr (.inl (fun _ => 0))))] ++ [(q8, .inl (ca 1, 10, .inl (fun _ => 0)))] ++ [(q9, .inl (ca 1, 6, .inl (fun _ => 0)))] ++ [(q10, .inl (ca 1, 6, .inl (fun _ => 0)))] ++ [(q11, .inl (ca 1, 6, .inl (fun _ => 0)))] ++ [(q12, .inl (ca 1, 5, .inl (fun _ => 0)))]) H := hP
  have hD : va_D A ([(h0, .inr (12, (.int 0 :: .int 0 :: .long 0 :: .long (1 : Int64) :: .ref q1 :: .ref q2 :: .ref q3 :: .ref q4 :: .int 0 :: .int 0 :: .int (-1 : Int32) :: .int (-1 : Int32) :: .int 0 :: .int 0 :: .int 0 :: .int 0 :: .int 0 :: .int 0 :: .int 0 :: .long 0 :: .ref q5 :: .ref q6 :: .ref q7 :: .int 0 :: .int 0 :: .int 0 :: .ref q8 :: .int 0 :: .int 0 :: .long 0 :: .long 0 :: .int 0 :: .ref q9 :: .int 0 :: .int 0 :: .ref q10 :: .ref q11 :: .int 0 :: .int 0 :: .ref q12 :: .int 0 :: .int 0 :: .int 0 :: .int 0 :: .int 0 :: .int 0 :: .int 0 :: .int 0 :: .int 0 :: [])))] ++ [(q1, .inl (ca 1, 4, .inl (fun _ => 0)))] ++ [(q2, .inl (ca 1, 4, .inl (upd (upd (fun _ => 0) 0 (-1 : Int32)) 1 (-1 : Int32))))] ++ [(q3, .inl (ca 2, 240, .inr (.inl (fun _ => 0))))] ++ [(q4, .inl (ca 0, 900, .inl (fun _ => 0)))] ++ [(q5, .inl (ca 1, 1820, .inl (fun _ => 0)))] ++ [(q6, .inl (ca 1, 92, .inl (fun _ => 0)))] ++ [(q7, .inl (ca 2, 115, .inr (.inl (fun _ => 0))))] ++ [(q8, .inl (ca 1, 10, .inl (fun _ => 0)))] ++ [(q9, .inl (ca 1, 6, .inl (fun _ => 0)))] ++ [(q10, .inl (ca 1, 6, .inl (fun _ => 0)))] ++ [(q11, .inl (ca 1, 6, .inl (fun _ => 0)))] ++ [(q12, .inl (ca 1, 5, .inl (fun _ => 0)))]) := hD
  refine lv_iinc (v := (2 : Int32)) (lv' := [(1, .int (2 : Int32)), (0, .ref h0)]) hx hb dX12_init_129 hl (k := 0) rfl (by decide) (by decide) rfl (fun ls hl => ?_)
  refine lv_goto (tgt := 117) hx hb dX12_init_132 (by decide) ?_
  refine lv_iload_n hx hb dX12_init_117 rfl (lv_at hl 0 rfl) ?_
  refine lv_iconst (v := (4 : Int32)) hx hb dX12_init_118 (by decide) ?_
  refine lv_icmp_ge (tgt := 135) hx hb dX12_init_119 (by decide) (fun h => absurd h (by decide)) (fun _ => ?_)
  refine lv_aload_n hx hb dX12_init_122 rfl (lv_at hl 1 rfl) ?_
  refine va_get (D := (dC, dI)) (ci := 12) (v := .ref q2) (C := RX12) (T := TX12) (N := 49) hx hb hts i_X12 hown hK hP 0 rfl rfl 5 (by decide) (hts _ wf_X12_17) (fun _ h9 => h9) rfl dX12_init_123 ?_
  refine lv_iload_n hx hb dX12_init_126 rfl (lv_at hl 0 rfl) ?_
  refine lv_iconst (v := (-1 : Int32)) hx hb dX12_init_127 (by decide) ?_
  refine va_iast hx hb hK hP hD hS 2 1 rfl rfl (inb_vp (by decide)) dX12_init_128 (fun H locs hP hD hS => ?_)
  have hP : va_P (dC, dI) classes ([(h0, .inr (12, (.int 0 :: .int 0 :: .long 0 :: .long (1 : Int64) :: .ref q1 :: .ref q2 :: .ref q3 :: .ref q4 :: .int 0 :: .int 0 :: .int (-1 : Int32) :: .int (-1 : Int32) :: .int 0 :: .int 0 :: .int 0 :: .int 0 :: .int 0 :: .int 0 :: .int 0 :: .long 0 :: .ref q5 :: .ref q6 :: .ref q7 :: .int 0 :: .int 0 :: .int 0 :: .ref q8 :: .int 0 :: .int 0 :: .long 0 :: .long 0 :: .int 0 :: .ref q9 :: .int 0 :: .int 0 :: .ref q10 :: .ref q11 :: .int 0 :: .int 0 :: .ref q12 :: .int 0 :: .int 0 :: .int 0 :: .int 0 :: .int 0 :: .int 0 :: .int 0 :: .int 0 :: .int 0 :: [])))] ++ [(q1, .inl (ca 1, 4, .inl (fun _ => 0)))] ++ [(q2, .inl (ca 1, 4, .inl (upd (upd (upd (fun _ => 0) 0 (-1 : Int32)) 1 (-1 : Int32)) 2 (-1 : Int32))))] ++ [(q3, .inl (ca 2, 240, .inr (.inl (fun _ => 0))))] ++ [(q4, .inl (ca 0, 900, .inl (fun _ => 0)))] ++ [(q5, .inl (ca 1, 1820, .inl (fun _ => 0)))] ++ [(q6, .inl (ca 1, 92, .inl (fun _ => 0)))] ++ [(q7, .inl (ca 2, 115, .inr (.inl (fun _ => 0))))] ++ [(q8, .inl (ca 1, 10, .inl (fun _ => 0)))] ++ [(q9, .inl (ca 1, 6, .inl (fun _ => 0)))] ++ [(q10, .inl (ca 1, 6, .inl (fun _ => 0)))] ++ [(q11, .inl (ca 1, 6, .inl (fun _ => 0)))] ++ [(q12, .inl (ca 1, 5, .inl (fun _ => 0)))]) H := hP
  have hD : va_D A ([(h0, .inr (12, (.int 0 :: .int 0 :: .long 0 :: .long (1 : Int64) :: .ref q1 :: .ref q2 :: .ref q3 :: .ref q4 :: .int 0 :: .int 0 :: .int (-1 : Int32) :: .int (-1 : Int32) :: .int 0 :: .int 0 :: .int 0 :: .int 0 :: .int 0 :: .int 0 :: .int 0 :: .long 0 :: .ref q5 :: .ref q6 :: .ref q7 :: .int 0 :: .int 0 :: .int 0 :: .ref q8 :: .int 0 :: .int 0 :: .long 0 :: .long 0 :: .int 0 :: .ref q9 :: .int 0 :: .int 0 :: .ref q10 :: .ref q11 :: .int 0 :: .int 0 :: .ref q12 :: .int 0 :: .int 0 :: .int 0 :: .int 0 :: .int 0 :: .int 0 :: .int 0 :: .int 0 :: .int 0 :: [])))] ++ [(q1, .inl (ca 1, 4, .inl (fun _ => 0)))] ++ [(q2, .inl (ca 1, 4, .inl (upd (upd (upd (fun _ => 0) 0 (-1 : Int32)) 1 (-1 : Int32)) 2 (-1 : Int32))))] ++ [(q3, .inl (ca 2, 240, .inr (.inl (fun _ => 0))))] ++ [(q4, .inl (ca 0, 900, .inl (fun _ => 0)))] ++ [(q5, .inl (ca 1, 1820, .inl (fun _ => 0)))] ++ [(q6, .inl (ca 1, 92, .inl (fun _ => 0)))] ++ [(q7, .inl (ca 2, 115, .inr (.inl (fun _ => 0))))] ++ [(q8, .inl (ca 1, 10, .inl (fun _ => 0)))] ++ [(q9, .inl (ca 1, 6, .inl (fun _ => 0)))] ++ [(q10, .inl (ca 1, 6, .inl (fun _ => 0)))] ++ [(q11, .inl (ca 1, 6, .inl (fun _ => 0)))] ++ [(q12, .inl (ca 1, 5, .inl (fun _ => 0)))]) := hD
  refine lv_iinc (v := (3 : Int32)) (lv' := [(1, .int (3 : Int32)), (0, .ref h0)]) hx hb dX12_init_129 hl (k := 0) rfl (by decide) (by decide) rfl (fun ls hl => ?_)
  refine lv_goto (tgt := 117) hx hb dX12_init_132 (by decide) ?_
  refine lv_iload_n hx hb dX12_init_117 rfl (lv_at hl 0 rfl) ?_
  refine lv_iconst (v := (4 : Int32)) hx hb dX12_init_118 (by decide) ?_
  refine lv_icmp_ge (tgt := 135) hx hb dX12_init_119 (by decide) (fun h => absurd h (by decide)) (fun _ => ?_)
  refine lv_aload_n hx hb dX12_init_122 rfl (lv_at hl 1 rfl) ?_
  refine va_get (D := (dC, dI)) (ci := 12) (v := .ref q2) (C := RX12) (T := TX12) (N := 49) hx hb hts i_X12 hown hK hP 0 rfl rfl 5 (by decide) (hts _ wf_X12_17) (fun _ h9 => h9) rfl dX12_init_123 ?_
  refine lv_iload_n hx hb dX12_init_126 rfl (lv_at hl 0 rfl) ?_
  refine lv_iconst (v := (-1 : Int32)) hx hb dX12_init_127 (by decide) ?_
  refine va_iast hx hb hK hP hD hS 2 1 rfl rfl (inb_vp (by decide)) dX12_init_128 (fun H locs hP hD hS => ?_)
  have hP : va_P (dC, dI) classes ([(h0, .inr (12, (.int 0 :: .int 0 :: .long 0 :: .long (1 : Int64) :: .ref q1 :: .ref q2 :: .ref q3 :: .ref q4 :: .int 0 :: .int 0 :: .int (-1 : Int32) :: .int (-1 : Int32) :: .int 0 :: .int 0 :: .int 0 :: .int 0 :: .int 0 :: .int 0 :: .int 0 :: .long 0 :: .ref q5 :: .ref q6 :: .ref q7 :: .int 0 :: .int 0 :: .int 0 :: .ref q8 :: .int 0 :: .int 0 :: .long 0 :: .long 0 :: .int 0 :: .ref q9 :: .int 0 :: .int 0 :: .ref q10 :: .ref q11 :: .int 0 :: .int 0 :: .ref q12 :: .int 0 :: .int 0 :: .int 0 :: .int 0 :: .int 0 :: .int 0 :: .int 0 :: .int 0 :: .int 0 :: [])))] ++ [(q1, .inl (ca 1, 4, .inl (fun _ => 0)))] ++ [(q2, .inl (ca 1, 4, .inl (upd (upd (upd (upd (fun _ => 0) 0 (-1 : Int32)) 1 (-1 : Int32)) 2 (-1 : Int32)) 3 (-1 : Int32))))] ++ [(q3, .inl (ca 2, 240, .inr (.inl (fun _ => 0))))] ++ [(q4, .inl (ca 0, 900, .inl (fun _ => 0)))] ++ [(q5, .inl (ca 1, 1820, .inl (fun _ => 0)))] ++ [(q6, .inl (ca 1, 92, .inl (fun _ => 0)))] ++ [(q7, .inl (ca 2, 115, .inr (.inl (fun _ => 0))))] ++ [(q8, .inl (ca 1, 10, .inl (fun _ => 0)))] ++ [(q9, .inl (ca 1, 6, .inl (fun _ => 0)))] ++ [(q10, .inl (ca 1, 6, .inl (fun _ => 0)))] ++ [(q11, .inl (ca 1, 6, .inl (fun _ => 0)))] ++ [(q12, .inl (ca 1, 5, .inl (fun _ => 0)))]) H := hP
  have hD : va_D A ([(h0, .inr (12, (.int 0 :: .int 0 :: .long 0 :: .long (1 : Int64) :: .ref q1 :: .ref q2 :: .ref q3 :: .ref q4 :: .int 0 :: .int 0 :: .int (-1 : Int32) :: .int (-1 : Int32) :: .int 0 :: .int 0 :: .int 0 :: .int 0 :: .int 0 :: .int 0 :: .int 0 :: .long 0 :: .ref q5 :: .ref q6 :: .ref q7 :: .int 0 :: .int 0 :: .int 0 :: .ref q8 :: .int 0 :: .int 0 :: .long 0 :: .long 0 :: .int 0 :: .ref q9 :: .int 0 :: .int 0 :: .ref q10 :: .ref q11 :: .int 0 :: .int 0 :: .ref q12 :: .int 0 :: .int 0 :: .int 0 :: .int 0 :: .int 0 :: .int 0 :: .int 0 :: .int 0 :: .int 0 :: [])))] ++ [(q1, .inl (ca 1, 4, .inl (fun _ => 0)))] ++ [(q2, .inl (ca 1, 4, .inl (upd (upd (upd (upd (fun _ => 0) 0 (-1 : Int32)) 1 (-1 : Int32)) 2 (-1 : Int32)) 3 (-1 : Int32))))] ++ [(q3, .inl (ca 2, 240, .inr (.inl (fun _ => 0))))] ++ [(q4, .inl (ca 0, 900, .inl (fun _ => 0)))] ++ [(q5, .inl (ca 1, 1820, .inl (fun _ => 0)))] ++ [(q6, .inl (ca 1, 92, .inl (fun _ => 0)))] ++ [(q7, .inl (ca 2, 115, .inr (.inl (fun _ => 0))))] ++ [(q8, .inl (ca 1, 10, .inl (fun _ => 0)))] ++ [(q9, .inl (ca 1, 6, .inl (fun _ => 0)))] ++ [(q10, .inl (ca 1, 6, .inl (fun _ => 0)))] ++ [(q11, .inl (ca 1, 6, .inl (fun _ => 0)))] ++ [(q12, .inl (ca 1, 5, .inl (fun _ => 0)))]) := hD
  refine lv_iinc (v := (4 : Int32)) (lv' := [(1, .int (4 : Int32)), (0, .ref h0)]) hx hb dX12_init_129 hl (k := 0) rfl (by decide) (by decide) rfl (fun ls hl => ?_)
  refine lv_goto (tgt := 117) hx hb dX12_init_132 (by decide) ?_
  refine lv_iload_n hx hb dX12_init_117 rfl (lv_at hl 0 rfl) ?_
  refine lv_iconst (v := (4 : Int32)) hx hb dX12_init_118 (by decide) ?_
  refine lv_icmp_ge (tgt := 135) hx hb dX12_init_119 (by decide) (fun _ => ?_) (fun h => absurd (by decide) h)
  refine lv_aload_n hx hb dX12_init_135 rfl (lv_at hl 1 rfl) ?_
  refine lv_iconst (v := (0 : Int32)) hx hb dX12_init_136 (by decide) ?_
  have hP : va_P (dC, dI) classes (w12 ca (fun i => if i = 0 then h0 else if i = 1 then q1 else if i = 2 then q2 else if i = 3 then q3 else if i = 4 then q4 else if i = 5 then q5 else if i = 6 then q6 else if i = 7 then q7 else if i = 8 then q8 else if i = 9 then q9 else if i = 10 then q10 else if i = 11 then q11 else q12) s12_0) H := hP
  have hD : va_D A (w12 ca (fun i => if i = 0 then h0 else if i = 1 then q1 else if i = 2 then q2 else if i = 3 then q3 else if i = 4 then q4 else if i = 5 then q5 else if i = 6 then q6 else if i = 7 then q7 else if i = 8 then q8 else if i = 9 then q9 else if i = 10 then q10 else if i = 11 then q11 else q12) s12_0) := hD
  refine kc_vV (rm := rmX12_empties) (As := [.int (0 : Int32)]) (rest := []) (b := h0) X hP hD hS (mX12_empties (q := (fun i => if i = 0 then h0 else if i = 1 then q1 else if i = 2 then q2 else if i = 3 then q3 else if i = 4 then q4 else if i = 5 then q5 else if i = 6 then q6 else if i = 7 then q7 else if i = 8 then q8 else if i = 9 then q9 else if i = 10 then q10 else if i = 11 then q11 else q12)) hz) okX12_empties wl_X12_59 wi_X12_empties ws_X12_X12_empties_X12_empties ⟨rfl, rfl, Nat.le_of_ble_eq_true rfl, Nat.le_of_ble_eq_true rfl⟩ 12 0 rfl rfl rfl hl.1 (Nat.le_of_ble_eq_true rfl) ⟨Nat.le_of_ble_eq_true rfl, Nat.le_of_ble_eq_true rfl⟩ dX12_init_137 (fun H locs hP hD hS => ?_)
  exact kc_ret X hP hD hS dX12_init_140 (fun _ => (fun i => if i = 0 then h0 else if i = 1 then q1 else if i = 2 then q2 else if i = 3 then q3 else if i = 4 then q4 else if i = 5 then q5 else if i = 6 then q6 else if i = 7 then q7 else if i = 8 then q8 else if i = 9 then q9 else if i = 10 then q10 else if i = 11 then q11 else q12)) rfl rfl
end G
