/-! the law's helpers -/
def jl_Q (X : jj_X) (cL : ClassId) (post : Int32 → jj_Mem → (Nat → Int64) → Prop) : Array Value → State → Outcome → State → Prop := fun _ st oc t =>
  (∃ (k : Int32) (x : jj_Mem) (f : Nat → Int64), oc = .returned (some (.int k)) ∧ post k x f ∧ va_P X.2.2.1 Y0.2.2.1 (jl_w X cL x f) t.heap ∧ va_K X.2.2.1 Y0.2.2.1 (jl_t X cL) t) ∧ va_F (jl_A X) st t
abbrev jl_H : Type := MethodName × ByteArray × Nat × List (Nat × Nat × Nat × Nat)
def jl_Met (X : jj_X) (cL : ClassId) (s0 : State) (d : Nat) (N : jl_H) (av : List Value) (x : jj_Mem) (f : Nat → Int64) (post : Int32 → jj_Mem → (Nat → Int64) → Prop) : Prop :=
  Met X.1 N.1 [.codeWith N.1 N.2.1 N.2.2.1 (some .int) N.2.2.2] ({ frames := d, cells := 1, slots := 6, locals := 40 * d }) (va_Pc av (fun U => va_P X.2.2.1 Y0.2.2.1 (jl_w X cL x f) U.heap ∧ jl_ok X cL s0 U)) (jl_Q X cL post) 1 6 (jl_A X)
/-- what a helper's body stands on -/
def jl_B (X : jj_X) (cL : ClassId) (s0 : State) (d : Nat) (N : jl_H) (x : jj_Mem) (f : Nat → Int64) (p : Program) (R : Room) (s : State) (m : MethodId) (args : Array Value) (meth : Method) (c : Code) : Prop :=
  jl_fx p m c N.2.1 N.2.2.1 s args "VerifiedCodeLaw" R d ∧ 1 ≤ R.cells ∧ 6 ≤ R.slots ∧ meth.sig.returnType = some .int ∧ meth.locks = false ∧ c.exceptionTable.toList.map (fun h => (h.startPc, h.endPc, h.handlerPc, h.catchType)) = N.2.2.2 ∧ jl_ok X cL s0 s ∧ va_P X.2.2.1 Y0.2.2.1 (jl_w X cL x f) s.heap
theorem jl_met {X : jj_X} {cL : ClassId} {s0 : State} {d : Nat} {N : jl_H} {av : List Value} {x : jj_Mem} {f : Nat → Int64} {post : Int32 → jj_Mem → (Nat → Int64) → Prop} (hy : plainName N.1.cls = true) (hown : N.1.cls = "VerifiedCodeLaw") (hn : (lg_sl av).length ≤ N.2.2.1)
    (h : ∀ (p : Program) (e : Env) (R : Room) (s : State) (m : MethodId) (args : Array Value) (below : List Frame) (meth : Method) (c : Code) (ls : Array Slot), jl_B X cL s0 d N x f p R s m args meth c → lv_has ls N.2.2.1 (lv_args 0 av) → W p X.1 e R s m args below meth c s.heap [] 0 0 (MQ below (jl_Q X cL post) args s 1 6 (jl_A X)) (F0 m 0 ls [])) : jl_Met X cL s0 d N av x f post := by
  refine va_MetW (cc := N.2.1) (maxL := N.2.2.1) (ret := some .int) (hh := N.2.2.2) hy rfl ?_
  intro p e s m args below meth c s₁ B hml hv
  obtain ⟨rfl, hP, hok⟩ := hv
  have hl := lv_entry av (n := N.2.2.1) hn
  rw [lg_entry_eq]
  have hcl : s.vm.findClass "VerifiedCodeLaw" = some m.cls := by rw [← hown]; exact findClass_of_methodNamed B.named
  obtain ⟨m9, meth9, c9, hn9, h1, h2, -, -, h5, -⟩ := Cond.codeWith_spec (atoms_spec (ws := [.codeWith N.1 N.2.1 N.2.2.1 (some .int) N.2.2.2]) B.pre _ (List.mem_singleton.mpr rfl))
  cases B.named.symm.trans hn9
  cases B.method.symm.trans h1
  cases (Stand.of_body B).code.symm.trans h2
  exact h p e _ s m _ below meth c _ ⟨⟨⟨B.exec, B.bytes, hml, hcl, fun w hw => hok.2.1 w hw _ _ (jj_wrefl s)⟩, Nat.le_refl _, Nat.le_refl _⟩, Nat.le_refl _, Nat.le_refl _, B.returns, B.notSynchronized, h5, hok, hP⟩ hl
theorem jl_tab1 {l : List ExceptionTableEntry} {a b c d : Nat} (h : l.map (fun h => (h.startPc, h.endPc, h.handlerPc, h.catchType)) = [(a, b, c, d)]) : ∃ x, l = [x] ∧ x.startPc = a ∧ x.endPc = b ∧ x.handlerPc = c ∧ x.catchType = d := by
  match l, h with
  | [x], h =>
    simp at h
    exact ⟨x, rfl, h⟩
theorem jl_tab2 {l : List ExceptionTableEntry} {a b c d a2 b2 c2 d2 : Nat} (h : l.map (fun h => (h.startPc, h.endPc, h.handlerPc, h.catchType)) = [(a, b, c, d), (a2, b2, c2, d2)]) : ∃ x y, l = [x, y] ∧ (x.startPc = a ∧ x.endPc = b ∧ x.handlerPc = c ∧ x.catchType = d) ∧ y.startPc = a2 ∧ y.endPc = b2 ∧ y.handlerPc = c2 ∧ y.catchType = d2 := by
  match l, h with
  | [x, y], h =>
    simp at h
    exact ⟨x, y, rfl, h.1, h.2⟩
/-- what is known of exceptions' kinds at the law's entry -/
def je_nots (s0 : State) (args0 : Array Value) : Prop := (Cond.not (.castable je_S je_A)).before args0 s0 = true ∧ (Cond.not (.castable je_A je_B)).before args0 s0 = true ∧ (Cond.not (.castable je_A je_S)).before args0 s0 = true
theorem je_not {s0 U : State} (hO : je_O s0 U) {a b : String} {args0 args : Array Value} (h : (Cond.not (.castable a b)).before args0 s0 = true) : (Cond.not (.castable a b)).before args U = true := by
  simp only [Cond.before, Cond.holds, Cond.value, hO.1.alike.findClass, hO.1.alike.assignable] at h ⊢
  exact h
theorem je_cls {s : State} {args : Array Value} {cls : String} (h : (Cond.instantiable cls 6).before args s = true) (cc : ClassId) (hc : s.vm.findClass cls = some cc) : ∃ k, s.vm.classes[cc]? = some k := by
  obtain ⟨cI, kI, h1, h2, -⟩ := Cond.instantiable_spec h
  cases hc.symm.trans h1
  exact ⟨kI, h2⟩
section JLR
variable {X : jj_X} {cL : ClassId} {s0 : State} {p : Program} {e : Env} {R : Room} {s : State} {m : MethodId} {args : Array Value} {below : List Frame} {meth : Method} {c : Code} {H : Heap} {locs : List Loc} {cc : ByteArray} {pc : Nat} {ls : Array Slot} {x : jj_Mem} {f : Nat → Int64} {post : Int32 → jj_Mem → (Nat → Int64) → Prop}
theorem jl_ret {k : Int32} (hx : p.tables.exec = Jvm.exec) (hb : c.code = cc) (hr : meth.sig.returnType = some .int) (hlk : meth.locks = false) (hok : jl_ok X cL s0 s) (hP : va_P X.2.2.1 Y0.2.2.1 (jl_w X cL x f) H) (hS : va_S (jl_A X) s.heap H locs) (hd : decode cc pc = .ok (.ireturn, 1)) (hp : post k x f) : W p X.1 e R s m args below meth c H locs 1 6 (MQ below (jl_Q X cL post) args s 1 6 (jl_A X)) (F0 m pc ls [.int k]) :=
  W.iret hx hb hr (fun t ht hW => ⟨⟨k, x, f, rfl, hp, by rw [ht]; exact hP, va_K.moved hW.alike hok.1⟩, hS.F ht⟩) hS.2.2 hd hlk
theorem jl_c1 {own cls : String} {stk rest : List Value} {hpc a b ct : Nat} (hown : s.vm.findClass own = some m.cls) (htab : c.exceptionTable.toList.map (fun h => (h.startPc, h.endPc, h.handlerPc, h.catchType)) = [(a, b, hpc, ct)]) (hc1 : a ≤ pc) (hc2 : pc < b) (h0 : ct ≠ 0) (hlink : (Cond.classLink own ct cls).before args s = true) (hinst : (Cond.instantiable cls 6).before args s = true) (hcast : (Cond.castable cls cls).before args s = true) :
    ∀ (T : State) (lo2 : List Loc) (k2 n2 : Nat) (q : Addr) (ce : Cell), Stand p X.1 e R s m args below meth c T lo2 k2 n2 → T.heap[q]? = some ce → s.vm.findClass cls = some ce.cls → ce.vm = .none → ∃ vm', Stand p X.1 e R s m args below meth c (T.setVm vm') lo2 k2 n2 ∧ ∀ target, Steps p.tables e below ((T.setVm vm').setTop { F0 m pc ls stk with pc := hpc, stack := [.ref q] }) target → Steps p.tables e below ((T.setTop { F0 m pc ls stk with stack := rest }).pushFrame (.throwing q)) target := by
  intro T lo2 k2 n2 q ce Z h1 h2 h3
  obtain ⟨x, hx, rfl, rfl, rfl, rfl⟩ := jl_tab1 htab
  exact je_catch1 Z (g := { F0 m pc ls stk with stack := rest }) rfl hown hx (by simp [covers, hc1, hc2]) h0 hlink h1 (fun k => by rw [h3]; simp) h2 (je_cls hinst _ h2) (je_cls hinst) hcast
theorem jl_c2a {own cls : String} {stk rest : List Value} {hpc a b ct a2 b2 hpc2 ct2 : Nat} (hown : s.vm.findClass own = some m.cls) (htab : c.exceptionTable.toList.map (fun h => (h.startPc, h.endPc, h.handlerPc, h.catchType)) = [(a, b, hpc, ct), (a2, b2, hpc2, ct2)]) (hc1 : a ≤ pc) (hc2 : pc < b) (h0 : ct ≠ 0) (hlink : (Cond.classLink own ct cls).before args s = true) (hinst : (Cond.instantiable cls 6).before args s = true) (hcast : (Cond.castable cls cls).before args s = true) :
    ∀ (T : State) (lo2 : List Loc) (k2 n2 : Nat) (q : Addr) (ce : Cell), Stand p X.1 e R s m args below meth c T lo2 k2 n2 → T.heap[q]? = some ce → s.vm.findClass cls = some ce.cls → ce.vm = .none → ∃ vm', Stand p X.1 e R s m args below meth c (T.setVm vm') lo2 k2 n2 ∧ ∀ target, Steps p.tables e below ((T.setVm vm').setTop { F0 m pc ls stk with pc := hpc, stack := [.ref q] }) target → Steps p.tables e below ((T.setTop { F0 m pc ls stk with stack := rest }).pushFrame (.throwing q)) target := by
  intro T lo2 k2 n2 q ce Z h1 h2 h3
  obtain ⟨x, y, hx, ⟨rfl, rfl, rfl, rfl⟩, -⟩ := jl_tab2 htab
  exact je_catch1 Z (g := { F0 m pc ls stk with stack := rest }) rfl hown hx (by simp [covers, hc1, hc2]) h0 hlink h1 (fun k => by rw [h3]; simp) h2 (je_cls hinst _ h2) (je_cls hinst) hcast
theorem jl_c2b {own cls nm : String} {stk rest : List Value} {hpc a b ct a2 b2 hpc2 ct2 : Nat} (hown : s.vm.findClass own = some m.cls) (htab : c.exceptionTable.toList.map (fun h => (h.startPc, h.endPc, h.handlerPc, h.catchType)) = [(a, b, hpc, ct), (a2, b2, hpc2, ct2)]) (hc1 : a ≤ pc) (hc2 : pc < b) (hc3 : a2 ≤ pc) (hc4 : pc < b2) (h0 : ct ≠ 0) (h02 : ct2 ≠ 0) (hlink : (Cond.classLink own ct nm).before args s = true) (hlink2 : (Cond.classLink own ct2 cls).before args s = true) (hinst : (Cond.instantiable nm 6).before args s = true) (hinst2 : (Cond.instantiable cls 6).before args s = true) (hno : (Cond.not (.castable cls nm)).before args s = true) (hcast : (Cond.castable cls cls).before args s = true) :
    ∀ (T : State) (lo2 : List Loc) (k2 n2 : Nat) (q : Addr) (ce : Cell), Stand p X.1 e R s m args below meth c T lo2 k2 n2 → T.heap[q]? = some ce → s.vm.findClass cls = some ce.cls → ce.vm = .none → ∃ vm', Stand p X.1 e R s m args below meth c (T.setVm vm') lo2 k2 n2 ∧ ∀ target, Steps p.tables e below ((T.setVm vm').setTop { F0 m pc ls stk with pc := hpc2, stack := [.ref q] }) target → Steps p.tables e below ((T.setTop { F0 m pc ls stk with stack := rest }).pushFrame (.throwing q)) target := by
  intro T lo2 k2 n2 q ce Z h1 h2 h3
  obtain ⟨x, y, hx, ⟨rfl, rfl, rfl, rfl⟩, rfl, rfl, rfl, rfl⟩ := jl_tab2 htab
  exact je_catch2 Z (g := { F0 m pc ls stk with stack := rest }) rfl hown hx (by simp [covers, hc1, hc2]) h0 (by simp [covers, hc3, hc4]) h02 hlink hlink2 h1 (fun k => by rw [h3]; simp) h2 (je_cls hinst2 _ h2) (je_cls hinst) (je_cls hinst2) hno hcast
end JLR
theorem je_A_c : Cond.castable je_A je_A ∈ tables_1 := (List.mem_append_right _ (List.mem_append_left _ (List.mem_of_getElem? (i := 109) rfl)))
theorem je_S_c : Cond.castable je_S je_S ∈ tables_1 := (List.mem_append_right _ (List.mem_append_left _ (List.mem_of_getElem? (i := 177) rfl)))
theorem je_B_c : Cond.castable je_B je_B ∈ tables_1 := (List.mem_append_right _ (List.mem_append_left _ (List.mem_of_getElem? (i := 201) rfl)))
theorem je_A_l : Cond.classLink "VerifiedCodeLaw" 13 je_A ∈ j_W := (jw_2 (List.mem_of_getElem? (i := 101) rfl) rfl)
theorem je_S_l : Cond.classLink "VerifiedCodeLaw" 15 je_S ∈ j_W := (jw_2 (List.mem_of_getElem? (i := 102) rfl) rfl)
theorem je_B_l : Cond.classLink "VerifiedCodeLaw" 21 je_B ∈ j_W := (jw_2 (List.mem_of_getElem? (i := 194) rfl) rfl)
abbrev h_type : jl_H := (⟨"VerifiedCodeLaw", "type", "(LVerifiedCode;JI[J)I"⟩, method_3_code, 6, [(0, 11, 14, 13), (0, 11, 18, 15)])
theorem d_La_type_0 : decode h_type.2.1 0 = .ok (.aload 4, 2) := by decide +kernel
theorem d_La_type_2 : decode h_type.2.1 2 = .ok (.iconst 0, 1) := by decide +kernel
theorem d_La_type_3 : decode h_type.2.1 3 = .ok (.aload_n 0, 1) := by decide +kernel
theorem d_La_type_4 : decode h_type.2.1 4 = .ok (.lload_n 1, 1) := by decide +kernel
theorem d_La_type_5 : decode h_type.2.1 5 = .ok (.iload_n 3, 1) := by decide +kernel
theorem d_La_type_6 : decode h_type.2.1 6 = .ok (.invokevirtual 7, 3) := by decide +kernel
theorem d_La_type_9 : decode h_type.2.1 9 = .ok (.i2l, 1) := by decide +kernel
theorem d_La_type_10 : decode h_type.2.1 10 = .ok (.lastore, 1) := by decide +kernel
theorem d_La_type_11 : decode h_type.2.1 11 = .ok (.goto 11, 3) := by decide +kernel
theorem d_La_type_14 : decode h_type.2.1 14 = .ok (.astore 5, 2) := by decide +kernel
theorem d_La_type_16 : decode h_type.2.1 16 = .ok (.iconst 1, 1) := by decide +kernel
theorem d_La_type_17 : decode h_type.2.1 17 = .ok (.ireturn, 1) := by decide +kernel
theorem d_La_type_18 : decode h_type.2.1 18 = .ok (.astore 5, 2) := by decide +kernel
theorem d_La_type_20 : decode h_type.2.1 20 = .ok (.iconst 2, 1) := by decide +kernel
theorem d_La_type_21 : decode h_type.2.1 21 = .ok (.ireturn, 1) := by decide +kernel
theorem d_La_type_22 : decode h_type.2.1 22 = .ok (.iconst 0, 1) := by decide +kernel
theorem d_La_type_23 : decode h_type.2.1 23 = .ok (.ireturn, 1) := by decide +kernel
theorem cm_VC_type : jj_cm Y0 m_VC_type 2 := ⟨(jw_1 (List.mem_of_getElem? (i := 1) rfl) rfl), (jw_2 (List.mem_of_getElem? (i := 106) rfl) rfl), ⟨by decide, by decide, by decide +kernel⟩, by decide⟩
theorem ck_La_7 : jj_cv Y0 "VerifiedCodeLaw" 7 m_VC_type 2 := ⟨cm_VC_type, (jw_2 (List.mem_of_getElem? (i := 103) rfl) rfl), (jw_2 (List.mem_of_getElem? (i := 104) rfl) rfl), (jw_2 (List.mem_of_getElem? (i := 105) rfl) rfl)⟩
abbrev h_poke : jl_H := (⟨"VerifiedCodeLaw", "poke", "(LVerifiedCode;II)I"⟩, method_4_code, 4, [(0, 6, 9, 21), (0, 6, 12, 13)])
theorem d_La_poke_0 : decode h_poke.2.1 0 = .ok (.aload_n 0, 1) := by decide +kernel
theorem d_La_poke_1 : decode h_poke.2.1 1 = .ok (.iload_n 1, 1) := by decide +kernel
theorem d_La_poke_2 : decode h_poke.2.1 2 = .ok (.iload_n 2, 1) := by decide +kernel
theorem d_La_poke_3 : decode h_poke.2.1 3 = .ok (.invokevirtual 17, 3) := by decide +kernel
theorem d_La_poke_6 : decode h_poke.2.1 6 = .ok (.goto 9, 3) := by decide +kernel
theorem d_La_poke_9 : decode h_poke.2.1 9 = .ok (.astore_n 3, 1) := by decide +kernel
theorem d_La_poke_10 : decode h_poke.2.1 10 = .ok (.iconst 1, 1) := by decide +kernel
theorem d_La_poke_11 : decode h_poke.2.1 11 = .ok (.ireturn, 1) := by decide +kernel
theorem d_La_poke_12 : decode h_poke.2.1 12 = .ok (.astore_n 3, 1) := by decide +kernel
theorem d_La_poke_13 : decode h_poke.2.1 13 = .ok (.iconst 2, 1) := by decide +kernel
theorem d_La_poke_14 : decode h_poke.2.1 14 = .ok (.ireturn, 1) := by decide +kernel
theorem d_La_poke_15 : decode h_poke.2.1 15 = .ok (.iconst 0, 1) := by decide +kernel
theorem d_La_poke_16 : decode h_poke.2.1 16 = .ok (.ireturn, 1) := by decide +kernel
theorem cm_VC_poke : jj_cm Y0 m_VC_poke 2 := ⟨(jw_1 (List.mem_of_getElem? (i := 1) rfl) rfl), (jw_2 (List.mem_of_getElem? (i := 198) rfl) rfl), ⟨by decide, by decide, by decide +kernel⟩, by decide⟩
theorem ck_La_17 : jj_cv Y0 "VerifiedCodeLaw" 17 m_VC_poke 2 := ⟨cm_VC_poke, (jw_2 (List.mem_of_getElem? (i := 195) rfl) rfl), (jw_2 (List.mem_of_getElem? (i := 196) rfl) rfl), (jw_2 (List.mem_of_getElem? (i := 197) rfl) rfl)⟩
abbrev h_byteAt : jl_H := (⟨"VerifiedCodeLaw", "byteAt", "(LVerifiedCode;I[J)I"⟩, method_5_code, 4, [(0, 9, 12, 21)])
theorem d_La_byteAt_0 : decode h_byteAt.2.1 0 = .ok (.aload_n 2, 1) := by decide +kernel
theorem d_La_byteAt_1 : decode h_byteAt.2.1 1 = .ok (.iconst 0, 1) := by decide +kernel
theorem d_La_byteAt_2 : decode h_byteAt.2.1 2 = .ok (.aload_n 0, 1) := by decide +kernel
theorem d_La_byteAt_3 : decode h_byteAt.2.1 3 = .ok (.iload_n 1, 1) := by decide +kernel
theorem d_La_byteAt_4 : decode h_byteAt.2.1 4 = .ok (.invokevirtual 23, 3) := by decide +kernel
theorem d_La_byteAt_7 : decode h_byteAt.2.1 7 = .ok (.i2l, 1) := by decide +kernel
theorem d_La_byteAt_8 : decode h_byteAt.2.1 8 = .ok (.lastore, 1) := by decide +kernel
theorem d_La_byteAt_9 : decode h_byteAt.2.1 9 = .ok (.goto 6, 3) := by decide +kernel
theorem d_La_byteAt_12 : decode h_byteAt.2.1 12 = .ok (.astore_n 3, 1) := by decide +kernel
theorem d_La_byteAt_13 : decode h_byteAt.2.1 13 = .ok (.iconst 1, 1) := by decide +kernel
theorem d_La_byteAt_14 : decode h_byteAt.2.1 14 = .ok (.ireturn, 1) := by decide +kernel
theorem d_La_byteAt_15 : decode h_byteAt.2.1 15 = .ok (.iconst 0, 1) := by decide +kernel
theorem d_La_byteAt_16 : decode h_byteAt.2.1 16 = .ok (.ireturn, 1) := by decide +kernel
theorem cm_VC_byteAt : jj_cm Y0 m_VC_byteAt 1 := ⟨(jw_1 (List.mem_of_getElem? (i := 1) rfl) rfl), (jw_2 (List.mem_of_getElem? (i := 222) rfl) rfl), ⟨by decide, by decide, by decide +kernel⟩, by decide⟩
theorem ck_La_23 : jj_cv Y0 "VerifiedCodeLaw" 23 m_VC_byteAt 1 := ⟨cm_VC_byteAt, (jw_2 (List.mem_of_getElem? (i := 219) rfl) rfl), (jw_2 (List.mem_of_getElem? (i := 220) rfl) rfl), (jw_2 (List.mem_of_getElem? (i := 221) rfl) rfl)⟩
abbrev h_write : jl_H := (⟨"VerifiedCodeLaw", "write", "(LVerifiedCode;[J)I"⟩, method_6_code, 3, [(0, 8, 11, 15)])
theorem d_La_write_0 : decode h_write.2.1 0 = .ok (.aload_n 1, 1) := by decide +kernel
theorem d_La_write_1 : decode h_write.2.1 1 = .ok (.iconst 0, 1) := by decide +kernel
theorem d_La_write_2 : decode h_write.2.1 2 = .ok (.aload_n 0, 1) := by decide +kernel
theorem d_La_write_3 : decode h_write.2.1 3 = .ok (.invokevirtual 27, 3) := by decide +kernel
theorem d_La_write_6 : decode h_write.2.1 6 = .ok (.i2l, 1) := by decide +kernel
theorem d_La_write_7 : decode h_write.2.1 7 = .ok (.lastore, 1) := by decide +kernel
theorem d_La_write_8 : decode h_write.2.1 8 = .ok (.goto 6, 3) := by decide +kernel
theorem d_La_write_11 : decode h_write.2.1 11 = .ok (.astore_n 2, 1) := by decide +kernel
theorem d_La_write_12 : decode h_write.2.1 12 = .ok (.iconst 1, 1) := by decide +kernel
theorem d_La_write_13 : decode h_write.2.1 13 = .ok (.ireturn, 1) := by decide +kernel
theorem d_La_write_14 : decode h_write.2.1 14 = .ok (.iconst 0, 1) := by decide +kernel
theorem d_La_write_15 : decode h_write.2.1 15 = .ok (.ireturn, 1) := by decide +kernel
theorem cm_VC_write : jj_cm Y0 m_VC_write 0 := ⟨(jw_1 (List.mem_of_getElem? (i := 1) rfl) rfl), (jw_2 (List.mem_of_getElem? (i := 229) rfl) rfl), ⟨by decide, by decide, by decide +kernel⟩, by decide⟩
theorem ck_La_27 : jj_cv Y0 "VerifiedCodeLaw" 27 m_VC_write 0 := ⟨cm_VC_write, (jw_2 (List.mem_of_getElem? (i := 226) rfl) rfl), (jw_2 (List.mem_of_getElem? (i := 227) rfl) rfl), (jw_2 (List.mem_of_getElem? (i := 228) rfl) rfl)⟩
abbrev h_check : jl_H := (⟨"VerifiedCodeLaw", "check", "(LVerifiedCode;I[J)I"⟩, method_7_code, 4, [(0, 9, 12, 15), (0, 9, 15, 13)])
theorem d_La_check_0 : decode h_check.2.1 0 = .ok (.aload_n 2, 1) := by decide +kernel
theorem d_La_check_1 : decode h_check.2.1 1 = .ok (.iconst 0, 1) := by decide +kernel
theorem d_La_check_2 : decode h_check.2.1 2 = .ok (.aload_n 0, 1) := by decide +kernel
theorem d_La_check_3 : decode h_check.2.1 3 = .ok (.iload_n 1, 1) := by decide +kernel
theorem d_La_check_4 : decode h_check.2.1 4 = .ok (.invokevirtual 31, 3) := by decide +kernel
theorem d_La_check_7 : decode h_check.2.1 7 = .ok (.i2l, 1) := by decide +kernel
theorem d_La_check_8 : decode h_check.2.1 8 = .ok (.lastore, 1) := by decide +kernel
theorem d_La_check_9 : decode h_check.2.1 9 = .ok (.goto 9, 3) := by decide +kernel
theorem d_La_check_12 : decode h_check.2.1 12 = .ok (.astore_n 3, 1) := by decide +kernel
theorem d_La_check_13 : decode h_check.2.1 13 = .ok (.iconst 1, 1) := by decide +kernel
theorem d_La_check_14 : decode h_check.2.1 14 = .ok (.ireturn, 1) := by decide +kernel
theorem d_La_check_15 : decode h_check.2.1 15 = .ok (.astore_n 3, 1) := by decide +kernel
theorem d_La_check_16 : decode h_check.2.1 16 = .ok (.iconst 2, 1) := by decide +kernel
theorem d_La_check_17 : decode h_check.2.1 17 = .ok (.ireturn, 1) := by decide +kernel
theorem d_La_check_18 : decode h_check.2.1 18 = .ok (.iconst 0, 1) := by decide +kernel
theorem d_La_check_19 : decode h_check.2.1 19 = .ok (.ireturn, 1) := by decide +kernel
theorem cm_VC_check : jj_cm Y0 m_VC_check 1 := ⟨(jw_1 (List.mem_of_getElem? (i := 1) rfl) rfl), (jw_2 (List.mem_of_getElem? (i := 238) rfl) rfl), ⟨by decide, by decide, by decide +kernel⟩, by decide⟩
theorem ck_La_31 : jj_cv Y0 "VerifiedCodeLaw" 31 m_VC_check 1 := ⟨cm_VC_check, (jw_2 (List.mem_of_getElem? (i := 235) rfl) rfl), (jw_2 (List.mem_of_getElem? (i := 236) rfl) rfl), (jw_2 (List.mem_of_getElem? (i := 237) rfl) rfl)⟩
abbrev h_run : jl_H := (⟨"VerifiedCodeLaw", "run", "(LVerifiedCode;IIII[J)I"⟩, method_8_code, 7, [(0, 14, 17, 15), (0, 14, 21, 13)])
theorem d_La_run_0 : decode h_run.2.1 0 = .ok (.aload 5, 2) := by decide +kernel
theorem d_La_run_2 : decode h_run.2.1 2 = .ok (.iconst 0, 1) := by decide +kernel
theorem d_La_run_3 : decode h_run.2.1 3 = .ok (.aload_n 0, 1) := by decide +kernel
theorem d_La_run_4 : decode h_run.2.1 4 = .ok (.iload_n 1, 1) := by decide +kernel
theorem d_La_run_5 : decode h_run.2.1 5 = .ok (.iload_n 2, 1) := by decide +kernel
theorem d_La_run_6 : decode h_run.2.1 6 = .ok (.iload_n 3, 1) := by decide +kernel
theorem d_La_run_7 : decode h_run.2.1 7 = .ok (.iload 4, 2) := by decide +kernel
theorem d_La_run_9 : decode h_run.2.1 9 = .ok (.invokevirtual 34, 3) := by decide +kernel
theorem d_La_run_12 : decode h_run.2.1 12 = .ok (.i2l, 1) := by decide +kernel
theorem d_La_run_13 : decode h_run.2.1 13 = .ok (.lastore, 1) := by decide +kernel
theorem d_La_run_14 : decode h_run.2.1 14 = .ok (.goto 11, 3) := by decide +kernel
theorem d_La_run_17 : decode h_run.2.1 17 = .ok (.astore 6, 2) := by decide +kernel
theorem d_La_run_19 : decode h_run.2.1 19 = .ok (.iconst 1, 1) := by decide +kernel
theorem d_La_run_20 : decode h_run.2.1 20 = .ok (.ireturn, 1) := by decide +kernel
theorem d_La_run_21 : decode h_run.2.1 21 = .ok (.astore 6, 2) := by decide +kernel
theorem d_La_run_23 : decode h_run.2.1 23 = .ok (.iconst 2, 1) := by decide +kernel
theorem d_La_run_24 : decode h_run.2.1 24 = .ok (.ireturn, 1) := by decide +kernel
theorem d_La_run_25 : decode h_run.2.1 25 = .ok (.iconst 0, 1) := by decide +kernel
theorem d_La_run_26 : decode h_run.2.1 26 = .ok (.ireturn, 1) := by decide +kernel
theorem cm_VC_run : jj_cm Y0 m_VC_run 4 := ⟨(jw_1 (List.mem_of_getElem? (i := 1) rfl) rfl), (jw_3 (List.mem_of_getElem? (i := 166) rfl) rfl), ⟨by decide, by decide, by decide +kernel⟩, by decide⟩
theorem ck_La_34 : jj_cv Y0 "VerifiedCodeLaw" 34 m_VC_run 4 := ⟨cm_VC_run, (jw_3 (List.mem_of_getElem? (i := 163) rfl) rfl), (jw_3 (List.mem_of_getElem? (i := 164) rfl) rfl), (jw_3 (List.mem_of_getElem? (i := 165) rfl) rfl)⟩
theorem l_type_0 {X : jj_X} {cL : ClassId} {s0 : State} {d : Nat} {p0 : Int64} {b0 : Int32} {x x1 : jj_Mem} {f : Nat → Int64} {r : Int32} (h : f_VC_type 0 p0 b0 x = some (r, x1)) : jl_Met X cL s0 (d + 7) h_type [.ref (X.2.1 0), .long p0, .int b0, .ref X.2.2.2.2.2] x f (fun k x' f' => k = 0 ∧ x' = x1 ∧ f' = vp_updL f 0 r.toInt64) := by
  refine jl_met rfl rfl (Nat.le_of_ble_eq_true rfl) ?_
  intro p e R s m args below meth c ls B hl
  obtain ⟨F, hc1, hs6, hr, hlk, htab, hok, hP⟩ := B
  have hx := F.1.1
  have hb := F.1.2.1
  have hts := F.1.2.2.2.2
  have hS : va_S (jl_A X) s.heap s.heap [] := va_S.rf
  refine lv_aload hx hb d_La_type_0 (lv_at hl 3 rfl) ?_
  refine lv_iconst (v := 0) hx hb d_La_type_2 (by decide) ?_
  refine lv_aload_n hx hb d_La_type_3 rfl (lv_at hl 0 rfl) ?_
  refine lv_lload_n hx hb d_La_type_4 rfl (lv_at hl 1 rfl) ?_
  refine lv_iload_n hx hb d_La_type_5 rfl (lv_at hl 2 rfl) ?_
  refine jl_callV (d := d + 6) (as := [.long p0, .int b0]) (rest := [.int 0, .ref X.2.2.2.2.2]) F hok hP hS hl.1 (c_VC_type (d := d + 6) (this := 0) rfl h) d_La_type_6 ck_La_7 (sh_VC (i := 0) rfl).2 (sh_VC (i := 0) rfl).1 ⟨_, rfl, rfl⟩ rfl rfl (Nat.le_of_ble_eq_true rfl) ⟨Nat.zero_le _, Nat.zero_le _⟩ (fun r' x' H locs hp hP hS => ?_)
  obtain ⟨rfl, rfl⟩ := hp
  refine lv_i2l (v := r.toInt64) hx hb d_La_type_9 rfl ?_
  refine va_last (D := X.2.2.1) hx hb hok.1 hP (jl_D hok.2.2.2.1 hok.2.2.2.2.2.1) hS 70 4 jl_out rfl (i := 0) (by unfold vp_in; decide) d_La_type_10 (fun H locs hP hD hS => ?_)
  rw [jl_set] at hP
  refine lv_goto (tgt := 22) hx hb d_La_type_11 rfl ?_
  refine lv_iconst (v := 0) hx hb d_La_type_22 (by decide) ?_
  refine W.widen (k := 1) (n := 6) (Nat.zero_le _) (Nat.zero_le _) ?_
  exact jl_ret hx hb hr hlk hok hP hS d_La_type_23 ⟨rfl, rfl, rfl⟩
theorem l_type_1 {X : jj_X} {cL : ClassId} {s0 : State} {d : Nat} {args0 : Array Value} {p0 : Int64} {b0 : Int32} {x : jj_Mem} {f : Nat → Int64} (hB : je_base s0 args0) (hN : je_nots s0 args0) (h : je_Met X s0 (d + 6) m_VC_type [.ref 0, .long p0, .int b0] x je_A) : jl_Met X cL s0 (d + 7) h_type [.ref (X.2.1 0), .long p0, .int b0, .ref X.2.2.2.2.2] x f (fun k x' f' => k = 1 ∧ x' = x ∧ f' = f) := by
  refine jl_met rfl rfl (Nat.le_of_ble_eq_true rfl) ?_
  intro p e R s m args below meth c ls B hl
  obtain ⟨F, hc1, hs6, hr, hlk, htab, hok, hP⟩ := B
  have hx := F.1.1
  have hb := F.1.2.1
  have hts := F.1.2.2.2.2
  have hS : va_S (jl_A X) s.heap s.heap [] := va_S.rf
  obtain ⟨hK, hw, hz, hk, hO, ho, he⟩ := id hok
  refine lv_aload hx hb d_La_type_0 (lv_at hl 3 rfl) ?_
  refine lv_iconst (v := 0) hx hb d_La_type_2 (by decide) ?_
  refine lv_aload_n hx hb d_La_type_3 rfl (lv_at hl 0 rfl) ?_
  refine lv_lload_n hx hb d_La_type_4 rfl (lv_at hl 1 rfl) ?_
  refine lv_iload_n hx hb d_La_type_5 rfl (lv_at hl 2 rfl) ?_
  refine jl_callT (hpc := 14) (d := d + 6) (as := [.long p0, .int b0]) (rest := [.int 0, .ref X.2.2.2.2.2]) F hok hP hS hl.1 h d_La_type_6 ck_La_7 (sh_VC (i := 0) rfl).2 (sh_VC (i := 0) rfl).1 ⟨_, rfl, rfl⟩ rfl rfl (Nat.le_of_ble_eq_true rfl) ⟨hc1, hs6⟩ (jl_c2a F.1.2.2.2.1 htab (by decide) (by decide) (by decide) (hts _ je_A_l) (hts _ je_A_2) (je_table hO rfl (hB.1 _ je_A_c))) (fun H q hP hS => ?_)
  refine lv_astore hx hb d_La_type_14 hl (by decide) rfl (fun ls hl => ?_)
  refine lv_iconst (v := 1) hx hb d_La_type_16 (by decide) ?_
  exact jl_ret hx hb hr hlk hok hP hS d_La_type_17 ⟨rfl, rfl, rfl⟩
theorem l_type_2 {X : jj_X} {cL : ClassId} {s0 : State} {d : Nat} {args0 : Array Value} {p0 : Int64} {b0 : Int32} {x : jj_Mem} {f : Nat → Int64} (hB : je_base s0 args0) (hN : je_nots s0 args0) (h : je_Met X s0 (d + 6) m_VC_type [.ref 0, .long p0, .int b0] x je_S) : jl_Met X cL s0 (d + 7) h_type [.ref (X.2.1 0), .long p0, .int b0, .ref X.2.2.2.2.2] x f (fun k x' f' => k = 2 ∧ x' = x ∧ f' = f) := by
  refine jl_met rfl rfl (Nat.le_of_ble_eq_true rfl) ?_
  intro p e R s m args below meth c ls B hl
  obtain ⟨F, hc1, hs6, hr, hlk, htab, hok, hP⟩ := B
  have hx := F.1.1
  have hb := F.1.2.1
  have hts := F.1.2.2.2.2
  have hS : va_S (jl_A X) s.heap s.heap [] := va_S.rf
  obtain ⟨hK, hw, hz, hk, hO, ho, he⟩ := id hok
  refine lv_aload hx hb d_La_type_0 (lv_at hl 3 rfl) ?_
  refine lv_iconst (v := 0) hx hb d_La_type_2 (by decide) ?_
  refine lv_aload_n hx hb d_La_type_3 rfl (lv_at hl 0 rfl) ?_
  refine lv_lload_n hx hb d_La_type_4 rfl (lv_at hl 1 rfl) ?_
  refine lv_iload_n hx hb d_La_type_5 rfl (lv_at hl 2 rfl) ?_
  refine jl_callT (hpc := 18) (d := d + 6) (as := [.long p0, .int b0]) (rest := [.int 0, .ref X.2.2.2.2.2]) F hok hP hS hl.1 h d_La_type_6 ck_La_7 (sh_VC (i := 0) rfl).2 (sh_VC (i := 0) rfl).1 ⟨_, rfl, rfl⟩ rfl rfl (Nat.le_of_ble_eq_true rfl) ⟨hc1, hs6⟩ (jl_c2b F.1.2.2.2.1 htab (by decide) (by decide) (by decide) (by decide) (by decide) (by decide) (hts _ je_A_l) (hts _ je_S_l) (hts _ je_A_2) (hts _ je_S_2) (je_not hO hN.1) (je_table hO rfl (hB.1 _ je_S_c))) (fun H q hP hS => ?_)
  refine lv_astore hx hb d_La_type_18 hl (by decide) rfl (fun ls hl => ?_)
  refine lv_iconst (v := 2) hx hb d_La_type_20 (by decide) ?_
  exact jl_ret hx hb hr hlk hok hP hS d_La_type_21 ⟨rfl, rfl, rfl⟩
theorem l_poke_0 {X : jj_X} {cL : ClassId} {s0 : State} {d : Nat} {b0 b1 : Int32} {x x1 : jj_Mem} {f : Nat → Int64} (h : f_VC_poke 0 b0 b1 x = some x1) : jl_Met X cL s0 (d + 7) h_poke [.ref (X.2.1 0), .int b0, .int b1] x f (fun k x' f' => k = 0 ∧ x' = x1 ∧ f' = f) := by
  refine jl_met rfl rfl (Nat.le_of_ble_eq_true rfl) ?_
  intro p e R s m args below meth c ls B hl
  obtain ⟨F, hc1, hs6, hr, hlk, htab, hok, hP⟩ := B
  have hx := F.1.1
  have hb := F.1.2.1
  have hts := F.1.2.2.2.2
  have hS : va_S (jl_A X) s.heap s.heap [] := va_S.rf
  refine lv_aload_n hx hb d_La_poke_0 rfl (lv_at hl 0 rfl) ?_
  refine lv_iload_n hx hb d_La_poke_1 rfl (lv_at hl 1 rfl) ?_
  refine lv_iload_n hx hb d_La_poke_2 rfl (lv_at hl 2 rfl) ?_
  refine jl_callV (d := d + 6) (as := [.int b0, .int b1]) (rest := []) F hok hP hS hl.1 (c_VC_poke (d := d + 6) (this := 0) rfl h) d_La_poke_3 ck_La_17 (sh_VC (i := 0) rfl).2 (sh_VC (i := 0) rfl).1 ⟨_, rfl, rfl⟩ rfl rfl (Nat.le_of_ble_eq_true rfl) ⟨Nat.zero_le _, Nat.zero_le _⟩ (fun r' x' H locs hp hP hS => ?_)
  obtain ⟨rfl, rfl⟩ := hp
  refine lv_goto (tgt := 15) hx hb d_La_poke_6 rfl ?_
  refine lv_iconst (v := 0) hx hb d_La_poke_15 (by decide) ?_
  refine W.widen (k := 1) (n := 6) (Nat.zero_le _) (Nat.zero_le _) ?_
  exact jl_ret hx hb hr hlk hok hP hS d_La_poke_16 ⟨rfl, rfl, rfl⟩
theorem l_poke_1 {X : jj_X} {cL : ClassId} {s0 : State} {d : Nat} {args0 : Array Value} {b0 b1 : Int32} {x : jj_Mem} {f : Nat → Int64} (hB : je_base s0 args0) (hN : je_nots s0 args0) (h : je_Met X s0 (d + 6) m_VC_poke [.ref 0, .int b0, .int b1] x je_B) : jl_Met X cL s0 (d + 7) h_poke [.ref (X.2.1 0), .int b0, .int b1] x f (fun k x' f' => k = 1 ∧ x' = x ∧ f' = f) := by
  refine jl_met rfl rfl (Nat.le_of_ble_eq_true rfl) ?_
  intro p e R s m args below meth c ls B hl
  obtain ⟨F, hc1, hs6, hr, hlk, htab, hok, hP⟩ := B
  have hx := F.1.1
  have hb := F.1.2.1
  have hts := F.1.2.2.2.2
  have hS : va_S (jl_A X) s.heap s.heap [] := va_S.rf
  obtain ⟨hK, hw, hz, hk, hO, ho, he⟩ := id hok
  refine lv_aload_n hx hb d_La_poke_0 rfl (lv_at hl 0 rfl) ?_
  refine lv_iload_n hx hb d_La_poke_1 rfl (lv_at hl 1 rfl) ?_
  refine lv_iload_n hx hb d_La_poke_2 rfl (lv_at hl 2 rfl) ?_
  refine jl_callT (hpc := 9) (d := d + 6) (as := [.int b0, .int b1]) (rest := []) F hok hP hS hl.1 h d_La_poke_3 ck_La_17 (sh_VC (i := 0) rfl).2 (sh_VC (i := 0) rfl).1 ⟨_, rfl, rfl⟩ rfl rfl (Nat.le_of_ble_eq_true rfl) ⟨hc1, hs6⟩ (jl_c2a F.1.2.2.2.1 htab (by decide) (by decide) (by decide) (hts _ je_B_l) (hts _ je_B_2) (je_table hO rfl (hB.1 _ je_B_c))) (fun H q hP hS => ?_)
  refine lv_astore_n hx hb d_La_poke_9 rfl hl (by decide) rfl (fun ls hl => ?_)
  refine lv_iconst (v := 1) hx hb d_La_poke_10 (by decide) ?_
  exact jl_ret hx hb hr hlk hok hP hS d_La_poke_11 ⟨rfl, rfl, rfl⟩
theorem l_poke_2 {X : jj_X} {cL : ClassId} {s0 : State} {d : Nat} {args0 : Array Value} {b0 b1 : Int32} {x : jj_Mem} {f : Nat → Int64} (hB : je_base s0 args0) (hN : je_nots s0 args0) (h : je_Met X s0 (d + 6) m_VC_poke [.ref 0, .int b0, .int b1] x je_A) : jl_Met X cL s0 (d + 7) h_poke [.ref (X.2.1 0), .int b0, .int b1] x f (fun k x' f' => k = 2 ∧ x' = x ∧ f' = f) := by
  refine jl_met rfl rfl (Nat.le_of_ble_eq_true rfl) ?_
  intro p e R s m args below meth c ls B hl
  obtain ⟨F, hc1, hs6, hr, hlk, htab, hok, hP⟩ := B
  have hx := F.1.1
  have hb := F.1.2.1
  have hts := F.1.2.2.2.2
  have hS : va_S (jl_A X) s.heap s.heap [] := va_S.rf
  obtain ⟨hK, hw, hz, hk, hO, ho, he⟩ := id hok
  refine lv_aload_n hx hb d_La_poke_0 rfl (lv_at hl 0 rfl) ?_
  refine lv_iload_n hx hb d_La_poke_1 rfl (lv_at hl 1 rfl) ?_
  refine lv_iload_n hx hb d_La_poke_2 rfl (lv_at hl 2 rfl) ?_
  refine jl_callT (hpc := 12) (d := d + 6) (as := [.int b0, .int b1]) (rest := []) F hok hP hS hl.1 h d_La_poke_3 ck_La_17 (sh_VC (i := 0) rfl).2 (sh_VC (i := 0) rfl).1 ⟨_, rfl, rfl⟩ rfl rfl (Nat.le_of_ble_eq_true rfl) ⟨hc1, hs6⟩ (jl_c2b F.1.2.2.2.1 htab (by decide) (by decide) (by decide) (by decide) (by decide) (by decide) (hts _ je_B_l) (hts _ je_A_l) (hts _ je_B_2) (hts _ je_A_2) (je_not hO hN.2.1) (je_table hO rfl (hB.1 _ je_A_c))) (fun H q hP hS => ?_)
  refine lv_astore_n hx hb d_La_poke_12 rfl hl (by decide) rfl (fun ls hl => ?_)
  refine lv_iconst (v := 2) hx hb d_La_poke_13 (by decide) ?_
  exact jl_ret hx hb hr hlk hok hP hS d_La_poke_14 ⟨rfl, rfl, rfl⟩
theorem l_byteAt_0 {X : jj_X} {cL : ClassId} {s0 : State} {d : Nat} {b0 : Int32} {x x1 : jj_Mem} {f : Nat → Int64} {r : Int32} (h : f_VC_byteAt 0 b0 x = some (r, x1)) : jl_Met X cL s0 (d + 7) h_byteAt [.ref (X.2.1 0), .int b0, .ref X.2.2.2.2.2] x f (fun k x' f' => k = 0 ∧ x' = x1 ∧ f' = vp_updL f 0 r.toInt64) := by
  refine jl_met rfl rfl (Nat.le_of_ble_eq_true rfl) ?_
  intro p e R s m args below meth c ls B hl
  obtain ⟨F, hc1, hs6, hr, hlk, htab, hok, hP⟩ := B
  have hx := F.1.1
  have hb := F.1.2.1
  have hts := F.1.2.2.2.2
  have hS : va_S (jl_A X) s.heap s.heap [] := va_S.rf
  refine lv_aload_n hx hb d_La_byteAt_0 rfl (lv_at hl 2 rfl) ?_
  refine lv_iconst (v := 0) hx hb d_La_byteAt_1 (by decide) ?_
  refine lv_aload_n hx hb d_La_byteAt_2 rfl (lv_at hl 0 rfl) ?_
  refine lv_iload_n hx hb d_La_byteAt_3 rfl (lv_at hl 1 rfl) ?_
  refine jl_callV (d := d + 6) (as := [.int b0]) (rest := [.int 0, .ref X.2.2.2.2.2]) F hok hP hS hl.1 (c_VC_byteAt (d := d + 6) (this := 0) rfl h) d_La_byteAt_4 ck_La_23 (sh_VC (i := 0) rfl).2 (sh_VC (i := 0) rfl).1 ⟨_, rfl, rfl⟩ rfl rfl (Nat.le_of_ble_eq_true rfl) ⟨Nat.zero_le _, Nat.zero_le _⟩ (fun r' x' H locs hp hP hS => ?_)
  obtain ⟨rfl, rfl⟩ := hp
  refine lv_i2l (v := r.toInt64) hx hb d_La_byteAt_7 rfl ?_
  refine va_last (D := X.2.2.1) hx hb hok.1 hP (jl_D hok.2.2.2.1 hok.2.2.2.2.2.1) hS 70 4 jl_out rfl (i := 0) (by unfold vp_in; decide) d_La_byteAt_8 (fun H locs hP hD hS => ?_)
  rw [jl_set] at hP
  refine lv_goto (tgt := 15) hx hb d_La_byteAt_9 rfl ?_
  refine lv_iconst (v := 0) hx hb d_La_byteAt_15 (by decide) ?_
  refine W.widen (k := 1) (n := 6) (Nat.zero_le _) (Nat.zero_le _) ?_
  exact jl_ret hx hb hr hlk hok hP hS d_La_byteAt_16 ⟨rfl, rfl, rfl⟩
theorem l_byteAt_1 {X : jj_X} {cL : ClassId} {s0 : State} {d : Nat} {args0 : Array Value} {b0 : Int32} {x : jj_Mem} {f : Nat → Int64} (hB : je_base s0 args0) (hN : je_nots s0 args0) (h : je_Met X s0 (d + 6) m_VC_byteAt [.ref 0, .int b0] x je_B) : jl_Met X cL s0 (d + 7) h_byteAt [.ref (X.2.1 0), .int b0, .ref X.2.2.2.2.2] x f (fun k x' f' => k = 1 ∧ x' = x ∧ f' = f) := by
  refine jl_met rfl rfl (Nat.le_of_ble_eq_true rfl) ?_
  intro p e R s m args below meth c ls B hl
  obtain ⟨F, hc1, hs6, hr, hlk, htab, hok, hP⟩ := B
  have hx := F.1.1
  have hb := F.1.2.1
  have hts := F.1.2.2.2.2
  have hS : va_S (jl_A X) s.heap s.heap [] := va_S.rf
  obtain ⟨hK, hw, hz, hk, hO, ho, he⟩ := id hok
  refine lv_aload_n hx hb d_La_byteAt_0 rfl (lv_at hl 2 rfl) ?_
  refine lv_iconst (v := 0) hx hb d_La_byteAt_1 (by decide) ?_
  refine lv_aload_n hx hb d_La_byteAt_2 rfl (lv_at hl 0 rfl) ?_
  refine lv_iload_n hx hb d_La_byteAt_3 rfl (lv_at hl 1 rfl) ?_
  refine jl_callT (hpc := 12) (d := d + 6) (as := [.int b0]) (rest := [.int 0, .ref X.2.2.2.2.2]) F hok hP hS hl.1 h d_La_byteAt_4 ck_La_23 (sh_VC (i := 0) rfl).2 (sh_VC (i := 0) rfl).1 ⟨_, rfl, rfl⟩ rfl rfl (Nat.le_of_ble_eq_true rfl) ⟨hc1, hs6⟩ (jl_c1 F.1.2.2.2.1 htab (by decide) (by decide) (by decide) (hts _ je_B_l) (hts _ je_B_2) (je_table hO rfl (hB.1 _ je_B_c))) (fun H q hP hS => ?_)
  refine lv_astore_n hx hb d_La_byteAt_12 rfl hl (by decide) rfl (fun ls hl => ?_)
  refine lv_iconst (v := 1) hx hb d_La_byteAt_13 (by decide) ?_
  exact jl_ret hx hb hr hlk hok hP hS d_La_byteAt_14 ⟨rfl, rfl, rfl⟩
theorem l_write_0 {X : jj_X} {cL : ClassId} {s0 : State} {d : Nat} {x x1 : jj_Mem} {f : Nat → Int64} {r : Int32} (h : f_VC_write 0  x = some (r, x1)) : jl_Met X cL s0 (d + 7) h_write [.ref (X.2.1 0), .ref X.2.2.2.2.2] x f (fun k x' f' => k = 0 ∧ x' = x1 ∧ f' = vp_updL f 0 r.toInt64) := by
  refine jl_met rfl rfl (Nat.le_of_ble_eq_true rfl) ?_
  intro p e R s m args below meth c ls B hl
  obtain ⟨F, hc1, hs6, hr, hlk, htab, hok, hP⟩ := B
  have hx := F.1.1
  have hb := F.1.2.1
  have hts := F.1.2.2.2.2
  have hS : va_S (jl_A X) s.heap s.heap [] := va_S.rf
  refine lv_aload_n hx hb d_La_write_0 rfl (lv_at hl 1 rfl) ?_
  refine lv_iconst (v := 0) hx hb d_La_write_1 (by decide) ?_
  refine lv_aload_n hx hb d_La_write_2 rfl (lv_at hl 0 rfl) ?_
  refine jl_callV (d := d + 6) (as := []) (rest := [.int 0, .ref X.2.2.2.2.2]) F hok hP hS hl.1 (c_VC_write (d := d + 5) (this := 0) rfl h) d_La_write_3 ck_La_27 (sh_VC (i := 0) rfl).2 (sh_VC (i := 0) rfl).1 ⟨_, rfl, rfl⟩ rfl rfl (Nat.le_of_ble_eq_true rfl) ⟨Nat.zero_le _, Nat.zero_le _⟩ (fun r' x' H locs hp hP hS => ?_)
  obtain ⟨rfl, rfl⟩ := hp
  refine lv_i2l (v := r.toInt64) hx hb d_La_write_6 rfl ?_
  refine va_last (D := X.2.2.1) hx hb hok.1 hP (jl_D hok.2.2.2.1 hok.2.2.2.2.2.1) hS 70 4 jl_out rfl (i := 0) (by unfold vp_in; decide) d_La_write_7 (fun H locs hP hD hS => ?_)
  rw [jl_set] at hP
  refine lv_goto (tgt := 14) hx hb d_La_write_8 rfl ?_
  refine lv_iconst (v := 0) hx hb d_La_write_14 (by decide) ?_
  refine W.widen (k := 1) (n := 6) (Nat.zero_le _) (Nat.zero_le _) ?_
  exact jl_ret hx hb hr hlk hok hP hS d_La_write_15 ⟨rfl, rfl, rfl⟩
theorem l_write_1 {X : jj_X} {cL : ClassId} {s0 : State} {d : Nat} {args0 : Array Value} {x : jj_Mem} {f : Nat → Int64} (hB : je_base s0 args0) (hN : je_nots s0 args0) (h : je_Met X s0 (d + 6) m_VC_write [.ref 0] x je_S) : jl_Met X cL s0 (d + 7) h_write [.ref (X.2.1 0), .ref X.2.2.2.2.2] x f (fun k x' f' => k = 1 ∧ x' = x ∧ f' = f) := by
  refine jl_met rfl rfl (Nat.le_of_ble_eq_true rfl) ?_
  intro p e R s m args below meth c ls B hl
  obtain ⟨F, hc1, hs6, hr, hlk, htab, hok, hP⟩ := B
  have hx := F.1.1
  have hb := F.1.2.1
  have hts := F.1.2.2.2.2
  have hS : va_S (jl_A X) s.heap s.heap [] := va_S.rf
  obtain ⟨hK, hw, hz, hk, hO, ho, he⟩ := id hok
  refine lv_aload_n hx hb d_La_write_0 rfl (lv_at hl 1 rfl) ?_
  refine lv_iconst (v := 0) hx hb d_La_write_1 (by decide) ?_
  refine lv_aload_n hx hb d_La_write_2 rfl (lv_at hl 0 rfl) ?_
  refine jl_callT (hpc := 11) (d := d + 6) (as := []) (rest := [.int 0, .ref X.2.2.2.2.2]) F hok hP hS hl.1 h d_La_write_3 ck_La_27 (sh_VC (i := 0) rfl).2 (sh_VC (i := 0) rfl).1 ⟨_, rfl, rfl⟩ rfl rfl (Nat.le_of_ble_eq_true rfl) ⟨hc1, hs6⟩ (jl_c1 F.1.2.2.2.1 htab (by decide) (by decide) (by decide) (hts _ je_S_l) (hts _ je_S_2) (je_table hO rfl (hB.1 _ je_S_c))) (fun H q hP hS => ?_)
  refine lv_astore_n hx hb d_La_write_11 rfl hl (by decide) rfl (fun ls hl => ?_)
  refine lv_iconst (v := 1) hx hb d_La_write_12 (by decide) ?_
  exact jl_ret hx hb hr hlk hok hP hS d_La_write_13 ⟨rfl, rfl, rfl⟩
theorem l_check_0 {X : jj_X} {cL : ClassId} {s0 : State} {d : Nat} {b0 : Int32} {x x1 : jj_Mem} {f : Nat → Int64} {r : Int32} (h : f_VC_check 0 b0 x = some (r, x1)) : jl_Met X cL s0 (d + 7) h_check [.ref (X.2.1 0), .int b0, .ref X.2.2.2.2.2] x f (fun k x' f' => k = 0 ∧ x' = x1 ∧ f' = vp_updL f 0 r.toInt64) := by
  refine jl_met rfl rfl (Nat.le_of_ble_eq_true rfl) ?_
  intro p e R s m args below meth c ls B hl
  obtain ⟨F, hc1, hs6, hr, hlk, htab, hok, hP⟩ := B
  have hx := F.1.1
  have hb := F.1.2.1
  have hts := F.1.2.2.2.2
  have hS : va_S (jl_A X) s.heap s.heap [] := va_S.rf
  refine lv_aload_n hx hb d_La_check_0 rfl (lv_at hl 2 rfl) ?_
  refine lv_iconst (v := 0) hx hb d_La_check_1 (by decide) ?_
  refine lv_aload_n hx hb d_La_check_2 rfl (lv_at hl 0 rfl) ?_
  refine lv_iload_n hx hb d_La_check_3 rfl (lv_at hl 1 rfl) ?_
  refine jl_callV (d := d + 6) (as := [.int b0]) (rest := [.int 0, .ref X.2.2.2.2.2]) F hok hP hS hl.1 (c_VC_check (d := d + 1) (this := 0) rfl h) d_La_check_4 ck_La_31 (sh_VC (i := 0) rfl).2 (sh_VC (i := 0) rfl).1 ⟨_, rfl, rfl⟩ rfl rfl (Nat.le_of_ble_eq_true rfl) ⟨Nat.zero_le _, Nat.zero_le _⟩ (fun r' x' H locs hp hP hS => ?_)
  obtain ⟨rfl, rfl⟩ := hp
  refine lv_i2l (v := r.toInt64) hx hb d_La_check_7 rfl ?_
  refine va_last (D := X.2.2.1) hx hb hok.1 hP (jl_D hok.2.2.2.1 hok.2.2.2.2.2.1) hS 70 4 jl_out rfl (i := 0) (by unfold vp_in; decide) d_La_check_8 (fun H locs hP hD hS => ?_)
  rw [jl_set] at hP
  refine lv_goto (tgt := 18) hx hb d_La_check_9 rfl ?_
  refine lv_iconst (v := 0) hx hb d_La_check_18 (by decide) ?_
  refine W.widen (k := 1) (n := 6) (Nat.zero_le _) (Nat.zero_le _) ?_
  exact jl_ret hx hb hr hlk hok hP hS d_La_check_19 ⟨rfl, rfl, rfl⟩
theorem l_check_1 {X : jj_X} {cL : ClassId} {s0 : State} {d : Nat} {args0 : Array Value} {b0 : Int32} {x : jj_Mem} {f : Nat → Int64} (hB : je_base s0 args0) (hN : je_nots s0 args0) (h : je_Met X s0 (d + 6) m_VC_check [.ref 0, .int b0] x je_S) : jl_Met X cL s0 (d + 7) h_check [.ref (X.2.1 0), .int b0, .ref X.2.2.2.2.2] x f (fun k x' f' => k = 1 ∧ x' = x ∧ f' = f) := by
  refine jl_met rfl rfl (Nat.le_of_ble_eq_true rfl) ?_
  intro p e R s m args below meth c ls B hl
  obtain ⟨F, hc1, hs6, hr, hlk, htab, hok, hP⟩ := B
  have hx := F.1.1
  have hb := F.1.2.1
  have hts := F.1.2.2.2.2
  have hS : va_S (jl_A X) s.heap s.heap [] := va_S.rf
  obtain ⟨hK, hw, hz, hk, hO, ho, he⟩ := id hok
  refine lv_aload_n hx hb d_La_check_0 rfl (lv_at hl 2 rfl) ?_
  refine lv_iconst (v := 0) hx hb d_La_check_1 (by decide) ?_
  refine lv_aload_n hx hb d_La_check_2 rfl (lv_at hl 0 rfl) ?_
  refine lv_iload_n hx hb d_La_check_3 rfl (lv_at hl 1 rfl) ?_
  refine jl_callT (hpc := 12) (d := d + 6) (as := [.int b0]) (rest := [.int 0, .ref X.2.2.2.2.2]) F hok hP hS hl.1 h d_La_check_4 ck_La_31 (sh_VC (i := 0) rfl).2 (sh_VC (i := 0) rfl).1 ⟨_, rfl, rfl⟩ rfl rfl (Nat.le_of_ble_eq_true rfl) ⟨hc1, hs6⟩ (jl_c2a F.1.2.2.2.1 htab (by decide) (by decide) (by decide) (hts _ je_S_l) (hts _ je_S_2) (je_table hO rfl (hB.1 _ je_S_c))) (fun H q hP hS => ?_)
  refine lv_astore_n hx hb d_La_check_12 rfl hl (by decide) rfl (fun ls hl => ?_)
  refine lv_iconst (v := 1) hx hb d_La_check_13 (by decide) ?_
  exact jl_ret hx hb hr hlk hok hP hS d_La_check_14 ⟨rfl, rfl, rfl⟩
theorem l_check_2 {X : jj_X} {cL : ClassId} {s0 : State} {d : Nat} {args0 : Array Value} {b0 : Int32} {x : jj_Mem} {f : Nat → Int64} (hB : je_base s0 args0) (hN : je_nots s0 args0) (h : je_Met X s0 (d + 6) m_VC_check [.ref 0, .int b0] x je_A) : jl_Met X cL s0 (d + 7) h_check [.ref (X.2.1 0), .int b0, .ref X.2.2.2.2.2] x f (fun k x' f' => k = 2 ∧ x' = x ∧ f' = f) := by
  refine jl_met rfl rfl (Nat.le_of_ble_eq_true rfl) ?_
  intro p e R s m args below meth c ls B hl
  obtain ⟨F, hc1, hs6, hr, hlk, htab, hok, hP⟩ := B
  have hx := F.1.1
  have hb := F.1.2.1
  have hts := F.1.2.2.2.2
  have hS : va_S (jl_A X) s.heap s.heap [] := va_S.rf
  obtain ⟨hK, hw, hz, hk, hO, ho, he⟩ := id hok
  refine lv_aload_n hx hb d_La_check_0 rfl (lv_at hl 2 rfl) ?_
  refine lv_iconst (v := 0) hx hb d_La_check_1 (by decide) ?_
  refine lv_aload_n hx hb d_La_check_2 rfl (lv_at hl 0 rfl) ?_
  refine lv_iload_n hx hb d_La_check_3 rfl (lv_at hl 1 rfl) ?_
  refine jl_callT (hpc := 15) (d := d + 6) (as := [.int b0]) (rest := [.int 0, .ref X.2.2.2.2.2]) F hok hP hS hl.1 h d_La_check_4 ck_La_31 (sh_VC (i := 0) rfl).2 (sh_VC (i := 0) rfl).1 ⟨_, rfl, rfl⟩ rfl rfl (Nat.le_of_ble_eq_true rfl) ⟨hc1, hs6⟩ (jl_c2b F.1.2.2.2.1 htab (by decide) (by decide) (by decide) (by decide) (by decide) (by decide) (hts _ je_S_l) (hts _ je_A_l) (hts _ je_S_2) (hts _ je_A_2) (je_not hO hN.2.2) (je_table hO rfl (hB.1 _ je_A_c))) (fun H q hP hS => ?_)
  refine lv_astore_n hx hb d_La_check_15 rfl hl (by decide) rfl (fun ls hl => ?_)
  refine lv_iconst (v := 2) hx hb d_La_check_16 (by decide) ?_
  exact jl_ret hx hb hr hlk hok hP hS d_La_check_17 ⟨rfl, rfl, rfl⟩
theorem l_run_0 {X : jj_X} {cL : ClassId} {s0 : State} {d : Nat} {b0 b1 b2 b3 : Int32} {x x1 : jj_Mem} {f : Nat → Int64} {r : Int32} (h : f_VC_run 0 b0 b1 b2 b3 x = some (r, x1)) : jl_Met X cL s0 (d + 7) h_run [.ref (X.2.1 0), .int b0, .int b1, .int b2, .int b3, .ref X.2.2.2.2.2] x f (fun k x' f' => k = 0 ∧ x' = x1 ∧ f' = vp_updL f 0 r.toInt64) := by
  refine jl_met rfl rfl (Nat.le_of_ble_eq_true rfl) ?_
  intro p e R s m args below meth c ls B hl
  obtain ⟨F, hc1, hs6, hr, hlk, htab, hok, hP⟩ := B
  have hx := F.1.1
  have hb := F.1.2.1
  have hts := F.1.2.2.2.2
  have hS : va_S (jl_A X) s.heap s.heap [] := va_S.rf
  refine lv_aload hx hb d_La_run_0 (lv_at hl 5 rfl) ?_
  refine lv_iconst (v := 0) hx hb d_La_run_2 (by decide) ?_
  refine lv_aload_n hx hb d_La_run_3 rfl (lv_at hl 0 rfl) ?_
  refine lv_iload_n hx hb d_La_run_4 rfl (lv_at hl 1 rfl) ?_
  refine lv_iload_n hx hb d_La_run_5 rfl (lv_at hl 2 rfl) ?_
  refine lv_iload_n hx hb d_La_run_6 rfl (lv_at hl 3 rfl) ?_
  refine lv_iload hx hb d_La_run_7 (lv_at hl 4 rfl) ?_
  refine jl_callV (d := d + 6) (as := [.int b0, .int b1, .int b2, .int b3]) (rest := [.int 0, .ref X.2.2.2.2.2]) F hok hP hS hl.1 (c_VC_run (d := d + 0) (this := 0) rfl h) d_La_run_9 ck_La_34 (sh_VC (i := 0) rfl).2 (sh_VC (i := 0) rfl).1 ⟨_, rfl, rfl⟩ rfl rfl (Nat.le_of_ble_eq_true rfl) ⟨Nat.zero_le _, Nat.zero_le _⟩ (fun r' x' H locs hp hP hS => ?_)
  obtain ⟨rfl, rfl⟩ := hp
  refine lv_i2l (v := r.toInt64) hx hb d_La_run_12 rfl ?_
  refine va_last (D := X.2.2.1) hx hb hok.1 hP (jl_D hok.2.2.2.1 hok.2.2.2.2.2.1) hS 70 4 jl_out rfl (i := 0) (by unfold vp_in; decide) d_La_run_13 (fun H locs hP hD hS => ?_)
  rw [jl_set] at hP
  refine lv_goto (tgt := 25) hx hb d_La_run_14 rfl ?_
  refine lv_iconst (v := 0) hx hb d_La_run_25 (by decide) ?_
  refine W.widen (k := 1) (n := 6) (Nat.zero_le _) (Nat.zero_le _) ?_
  exact jl_ret hx hb hr hlk hok hP hS d_La_run_26 ⟨rfl, rfl, rfl⟩
theorem l_run_1 {X : jj_X} {cL : ClassId} {s0 : State} {d : Nat} {args0 : Array Value} {b0 b1 b2 b3 : Int32} {x : jj_Mem} {f : Nat → Int64} (hB : je_base s0 args0) (hN : je_nots s0 args0) (h : je_Met X s0 (d + 6) m_VC_run [.ref 0, .int b0, .int b1, .int b2, .int b3] x je_S) : jl_Met X cL s0 (d + 7) h_run [.ref (X.2.1 0), .int b0, .int b1, .int b2, .int b3, .ref X.2.2.2.2.2] x f (fun k x' f' => k = 1 ∧ x' = x ∧ f' = f) := by
  refine jl_met rfl rfl (Nat.le_of_ble_eq_true rfl) ?_
  intro p e R s m args below meth c ls B hl
  obtain ⟨F, hc1, hs6, hr, hlk, htab, hok, hP⟩ := B
  have hx := F.1.1
  have hb := F.1.2.1
  have hts := F.1.2.2.2.2
  have hS : va_S (jl_A X) s.heap s.heap [] := va_S.rf
  obtain ⟨hK, hw, hz, hk, hO, ho, he⟩ := id hok
  refine lv_aload hx hb d_La_run_0 (lv_at hl 5 rfl) ?_
  refine lv_iconst (v := 0) hx hb d_La_run_2 (by decide) ?_
  refine lv_aload_n hx hb d_La_run_3 rfl (lv_at hl 0 rfl) ?_
  refine lv_iload_n hx hb d_La_run_4 rfl (lv_at hl 1 rfl) ?_
  refine lv_iload_n hx hb d_La_run_5 rfl (lv_at hl 2 rfl) ?_
  refine lv_iload_n hx hb d_La_run_6 rfl (lv_at hl 3 rfl) ?_
  refine lv_iload hx hb d_La_run_7 (lv_at hl 4 rfl) ?_
  refine jl_callT (hpc := 17) (d := d + 6) (as := [.int b0, .int b1, .int b2, .int b3]) (rest := [.int 0, .ref X.2.2.2.2.2]) F hok hP hS hl.1 h d_La_run_9 ck_La_34 (sh_VC (i := 0) rfl).2 (sh_VC (i := 0) rfl).1 ⟨_, rfl, rfl⟩ rfl rfl (Nat.le_of_ble_eq_true rfl) ⟨hc1, hs6⟩ (jl_c2a F.1.2.2.2.1 htab (by decide) (by decide) (by decide) (hts _ je_S_l) (hts _ je_S_2) (je_table hO rfl (hB.1 _ je_S_c))) (fun H q hP hS => ?_)
  refine lv_astore hx hb d_La_run_17 hl (by decide) rfl (fun ls hl => ?_)
  refine lv_iconst (v := 1) hx hb d_La_run_19 (by decide) ?_
  exact jl_ret hx hb hr hlk hok hP hS d_La_run_20 ⟨rfl, rfl, rfl⟩
theorem l_run_2 {X : jj_X} {cL : ClassId} {s0 : State} {d : Nat} {args0 : Array Value} {b0 b1 b2 b3 : Int32} {x : jj_Mem} {f : Nat → Int64} (hB : je_base s0 args0) (hN : je_nots s0 args0) (h : je_Met X s0 (d + 6) m_VC_run [.ref 0, .int b0, .int b1, .int b2, .int b3] x je_A) : jl_Met X cL s0 (d + 7) h_run [.ref (X.2.1 0), .int b0, .int b1, .int b2, .int b3, .ref X.2.2.2.2.2] x f (fun k x' f' => k = 2 ∧ x' = x ∧ f' = f) := by
  refine jl_met rfl rfl (Nat.le_of_ble_eq_true rfl) ?_
  intro p e R s m args below meth c ls B hl
  obtain ⟨F, hc1, hs6, hr, hlk, htab, hok, hP⟩ := B
  have hx := F.1.1
  have hb := F.1.2.1
  have hts := F.1.2.2.2.2
  have hS : va_S (jl_A X) s.heap s.heap [] := va_S.rf
  obtain ⟨hK, hw, hz, hk, hO, ho, he⟩ := id hok
  refine lv_aload hx hb d_La_run_0 (lv_at hl 5 rfl) ?_
  refine lv_iconst (v := 0) hx hb d_La_run_2 (by decide) ?_
  refine lv_aload_n hx hb d_La_run_3 rfl (lv_at hl 0 rfl) ?_
  refine lv_iload_n hx hb d_La_run_4 rfl (lv_at hl 1 rfl) ?_
  refine lv_iload_n hx hb d_La_run_5 rfl (lv_at hl 2 rfl) ?_
  refine lv_iload_n hx hb d_La_run_6 rfl (lv_at hl 3 rfl) ?_
  refine lv_iload hx hb d_La_run_7 (lv_at hl 4 rfl) ?_
  refine jl_callT (hpc := 21) (d := d + 6) (as := [.int b0, .int b1, .int b2, .int b3]) (rest := [.int 0, .ref X.2.2.2.2.2]) F hok hP hS hl.1 h d_La_run_9 ck_La_34 (sh_VC (i := 0) rfl).2 (sh_VC (i := 0) rfl).1 ⟨_, rfl, rfl⟩ rfl rfl (Nat.le_of_ble_eq_true rfl) ⟨hc1, hs6⟩ (jl_c2b F.1.2.2.2.1 htab (by decide) (by decide) (by decide) (by decide) (by decide) (by decide) (hts _ je_S_l) (hts _ je_A_l) (hts _ je_S_2) (hts _ je_A_2) (je_not hO hN.2.2) (je_table hO rfl (hB.1 _ je_A_c))) (fun H q hP hS => ?_)
  refine lv_astore hx hb d_La_run_21 hl (by decide) rfl (fun ls hl => ?_)
  refine lv_iconst (v := 2) hx hb d_La_run_23 (by decide) ?_
  exact jl_ret hx hb hr hlk hok hP hS d_La_run_24 ⟨rfl, rfl, rfl⟩
