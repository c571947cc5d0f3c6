/-! a call that throws, caught where it was made -/
theorem je_same {s t : State} {k n : Nat} (h : s.sameButNew t [] k n) : s.heap.size ≤ t.heap.size ∧ ∀ q : Nat, q < s.heap.size → t.heap[q]? = s.heap[q]? := by
  obtain ⟨-, h1, -, -, -, h5⟩ := h
  refine ⟨h1, fun q hq => ?_⟩
  obtain ⟨c', g1, g2, g3, g4⟩ := h5 q _ (Array.getElem?_eq_getElem hq)
  rw [g1, Array.getElem?_eq_getElem hq]
  have e1 : c'.slots = (s.heap[q]).slots := by
    apply Array.ext_getElem?
    intro i
    exact g4 i (by simp)
  rw [g2, e1]
/-- the contract of a road that throws -/
def je_Met (X : jj_X) (s0 : State) (d : Nat) (M : jj_M) (as : List Value) (x : jj_Mem) (cls : String) : Prop :=
  MetFree X.1 M.1 (headSpec [.code M.1 M.2.1 M.2.2.1 M.2.2.2] ({ frames := d, cells := 1, slots := 6, locals := 40 * d })) (va_Pc (as.map (jj_v X)) (fun U => jj_in Y0 X x U ∧ je_O s0 U)) (fun _ _ _ _ _ => True) (fun _ st o t => je_Q cls st o t)
theorem je_met {X : jj_X} {s0 : State} {d : Nat} {M : jj_M} {as : List Value} {x : jj_Mem} {cls : String} (k : Nat) {lo : List (Option Value)} (hy : plainName M.1.cls = true) (hn : (lg_sl as).length ≤ M.2.2.1) (hlo : jj_lo as ++ List.replicate k none = lo) (h : jj_G Y0 X d M 0 lo [] x (je_O s0) (je_K cls)) : je_Met X s0 d M as x cls := by
  refine MetFree.of_bodyS (code := M.2.1) (maxLocals := M.2.2.1) (ret := M.2.2.2) hy ?_ ?_
  · intro args s m h hn
    obtain ⟨meth, c, h1, h2, h3, h4, h5, h6, -, -⟩ := Cond.code_spec hn (atoms_spec (ws := [.code M.1 M.2.1 M.2.2.1 M.2.2.2]) h _ (List.mem_singleton.mpr rfl))
    exact ⟨meth, c, h1, h2, h3, h4, h5, h6⟩
  · intro p e s m args below meth c s₁ B hml hPc _
    obtain ⟨rfl, ⟨hP, hK, hw, hsz, hok⟩, hO⟩ := hPc
    have hh0 : s₁.heap = s.heap := by rw [B.state]; rfl
    have hl := lv_entry (as.map (jj_v X)) (n := M.2.2.1) (by rw [jj_lg]; exact hn)
    have hex : c.exceptionTable.toList = [] := by
      have := BodyLoose.noHandlers B (atoms_spec (ws := [.code M.1 M.2.1 M.2.2.1 M.2.2.2]) B.pre _ (List.mem_singleton.mpr rfl))
      simpa using this
    have F : jj_fr Y0 X d M p (headSpec [.code M.1 M.2.1 M.2.2.1 M.2.2.2] ({ frames := d, cells := 1, slots := 6, locals := 40 * d })).room s m (as.map (jj_v X)).toArray meth c := ⟨B.exec, B.bytes, hml, findClass_of_methodNamed B.named, B.returns, B.notSynchronized, hw, hK, Nat.le_refl _, Nat.le_refl _, hok, hsz, fun w hw2 => hw w hw2 _ _ (jj_wrefl s)⟩
    have key := h p e _ s m _ below meth c ⟨F, hex, Nat.le_refl _, Nat.le_refl _, hO⟩ ((lg_sl (as.map (jj_v X)) ++ List.replicate (M.2.2.1 - (lg_sl (as.map (jj_v X))).length) Slot.unset).toArray) hP ⟨hl.1, hl.2.1, fun i v hi => by
      subst hlo
      have hi2 : (jj_lo as)[i]? = some (some v) := by
        by_cases q : i < (jj_lo as).length
        · rwa [List.getElem?_append_left q] at hi
        · rw [List.getElem?_append_right (by omega), List.getElem?_replicate] at hi
          split at hi <;> simp at hi
      have := jj_lo_args X as i 0 v hi2
      rw [Nat.zero_add] at this
      exact hl.2.2 _ this⟩
    obtain ⟨t, a1, o, b1, b2, b3⟩ := key s₁ hh0 (Stand.of_body B)
    rw [lg_entry_eq]
    exact ⟨t, o, a1, b1, b2, b3⟩
section JEK
variable {p : Program} {l : Launch} {e : Env} {R : Room} {s : State} {m : MethodId} {args : Array Value} {below : List Frame} {meth : Method} {c : Code} {H : Heap} {locs : List Loc} {cells slots : Nat} {Q : State → Prop}
variable {y : MethodName} {bytes cc : ByteArray} {maxL nL n index : Nat} {ret : Option FieldType} {ws : List Cond} {rm : Room} {Pc : Array Value → State → Prop} {Ts : List Cond} {own C cls : String} {b : Addr} {As rest : List Value} {g : JFrame}
theorem je_call {hpc : Nat} (S : CallFix p m c cc nL s args Ts own) (hM : MetFree l y (headSpec ws rm) Pc (fun _ _ _ _ _ => True) (fun _ st o t => je_Q cls st o t)) (cw : CallW R s args own C index y bytes maxL ret ws rm 1 6 n) (hp : PreV s H C b Pc As)
    (hg : g.method = m) (hn : As.length = n) (hsize : g.locals.size = nL) (hstack : g.stack = As.reverse ++ .ref b :: rest) (hW : 2 * g.monitorRoom + (rest.map fun v => v.category).sum ≤ 8) (hdg : decode cc g.pc = .ok (.invokevirtual index, 3)) (hf : cells + 1 ≤ R.cells ∧ slots + 6 ≤ R.slots)
    (hcatch : ∀ (T : State) (lo2 : List Loc) (k2 n2 : Nat) (q : Addr) (ce : Cell), Stand p l e R s m args below meth c T lo2 k2 n2 → T.heap[q]? = some ce → s.vm.findClass cls = some ce.cls → ce.vm = .none → ∃ vm', Stand p l e R s m args below meth c (T.setVm vm') lo2 k2 n2 ∧ ∀ target, Steps p.tables e below ((T.setVm vm').setTop { g with pc := hpc, stack := [.ref q] }) target → Steps p.tables e below ((T.setTop { g with stack := rest }).pushFrame (.throwing q)) target)
    (kk : ∀ (H1 : Heap) (q : Nat), H.size ≤ H1.size → (∀ a : Nat, a < H.size → H1[a]? = H[a]?) → W p l e R s m args below meth c H1 locs (cells + 1) (slots + 6) Q { g with pc := hpc, stack := [.ref q] }) : W p l e R s m args below meth c H locs cells slots Q g := by
  obtain ⟨⟨hrc, hrs, hfr, hlo, hws, hcw, hcode, hini, hy, hlen, hlk⟩, hin, hse⟩ := cw
  obtain ⟨hx, hb, hml, ho, -⟩ := S
  obtain ⟨hbl, ⟨cellB, hcB, hoB, hclB⟩, hPc⟩ := hp
  intro T hT X
  obtain ⟨mk, methM, hnamed, hmethM, hstM, habM⟩ := Cond.instanceMethod_spec hin
  obtain ⟨methM', cM, hmethM', hcM, -, hlM, -, -, -, hsigM⟩ := Cond.code_spec hnamed hcode
  cases hmethM.symm.trans hmethM'
  obtain ⟨c2, r2, m2, q1, q2, q3, q4, kP, hkP, hkPi⟩ := Cond.selects_spec hse
  cases hclB.symm.trans q1
  cases (State.methodFound?_of_named hnamed hy).symm.trans q2
  cases hnamed.symm.trans q3
  have hselP : selectMethod e.platform s.vm cellB.cls mk = .method mk := by rw [Launch.admits_selectMethod X.admits]; exact q4
  obtain ⟨vm₁, X₁, hstep₁⟩ := X.invokevirtual hx ho hlk hnamed hmethM hstM hkP hkPi hy (a := b) (cell := cellB) (by rw [hT]; exact hcB) (fun z h => by rw [h] at hoB; cases hoB) hselP hmethM habM hkP hkPi (g := g) hg (argsL := As) (rest := rest) (by rw [hn]; exact hlen _ hsigM) hstack (by rw [hb]; exact hdg)
  have hg2 : ({ g with stack := rest } : JFrame).method = m := hg
  have h : At (T.setVm vm₁) ({ g with stack := rest } : JFrame).method c below := by rw [hg2]; exact X₁.here
  have hn1 : (T.setVm vm₁).methodNamed? y = some mk := X₁.named hnamed
  obtain ⟨kY, hkY, -⟩ := className_of_methodNamed hn1
  have hinitY : kY.init = .initialized := Cond.initialized_spec (args := args) (findClass_of_methodNamed hn1) hkY (word_at X₁.warmed (Or.inl (by first | rfl | simp [Cond.onTables, Cond.keeps, Cond.steady])) hini)
  have hmY : (T.setVm vm₁).vm.method? mk = some methM := by rw [X₁.warmed.alike.method?]; exact hmethM
  have happ : (headSpec ws rm).appliesLoose y e.platform ((T.setVm vm₁).calling { g with stack := rest } mk (Value.ref b :: As).toArray) = true :=
    Spec.appliesLoose_calling (g := { g with stack := rest }) h (by rw [hb]; exact hdg) hn1 hkY hinitY
      (X₁.room_calling (g := { g with stack := rest }) (R' := (headSpec ws rm).room) (hsize.trans hml.symm) hmY hcM hfr (by
        rw [hlM]
        have e0 : (headSpec ws rm).room.locals = rm.locals := rfl
        have hW' : 2 * ({ g with stack := rest } : JFrame).monitorRoom + (rest.map fun v => v.category).sum ≤ 8 := hW
        show 2 * ({ g with stack := rest } : JFrame).monitorRoom + (rest.map fun v => v.category).sum + (maxL + 11) + (headSpec ws rm).room.locals ≤ R.locals
        omega) (by rw [show (headSpec ws rm).room.cells = 1 from hrc]; exact hf.1) (by rw [show (headSpec ws rm).room.slots = 6 from hrs]; exact hf.2)) (atoms_intro fun w hw => hws w hw _ _ X₁.warmed)
  obtain ⟨mid, hmid⟩ := h.above
  have hfr2 : ((T.setVm vm₁).setTop { g with stack := rest }).frames = (.java { g with stack := rest } :: mid) ++ below := by rw [State.frames_setTop' _ h.top, hmid]; rfl
  obtain ⟨o, s₂, hsteps, -, hend, hq⟩ := Steps.callFree hM p X₁.admits X₁.cas X₁.clock (acts := []) hfr2 happ (hbl _ _ _ _ (hPc (T.setVm vm₁) hT X₁.warmed)) trivial
  obtain ⟨q, ce, rfl, hqs, hqW, hqsame, hqc, hqf, hqn⟩ := hq
  rw [State.frames_setTop' _ h.top] at hend
  obtain ⟨g₀, hfe⟩ := X₁.frames_eq
  rw [hfe] at hend
  obtain ⟨T', X₂, hW2, hsame2, rfl⟩ := X₁.outOfThrown (g := { g with stack := rest }) hg2 hend hqW hqsame
  have hal : s.vm.Alike ((T.setVm vm₁).calling { g with stack := rest } mk (Value.ref b :: As).toArray).vm := X₁.warmed.alike
  have hheap : ∀ a : Nat, ((T'.setTop { g with stack := rest }).pushFrame (.throwing q)).heap[a]? = T'.heap[a]? := fun a => by rw [Stand.throwing_heap]
  obtain ⟨vm', X₃, go⟩ := hcatch T' _ _ _ q ce X₂ (by rw [← hheap]; exact hqc) (by rw [← hal.findClass]; exact hqf) hqn
  obtain ⟨z1, z2⟩ := je_same hqsame
  have X₄ : Stand p l e R s m args below meth c (T'.setVm vm') locs (cells + 1) (slots + 6) := by simpa using X₃
  obtain ⟨t, a1, b1⟩ := kk T'.heap q (by
    have : H.size ≤ ((T'.setTop { g with stack := rest }).pushFrame (.throwing q)).heap.size := by rw [← hT]; exact z1
    rwa [Stand.throwing_heap] at this) (fun a ha => by
    have := z2 a (by show a < T.heap.size; rw [hT]; exact ha)
    rw [← hheap]
    refine Eq.trans this ?_
    show T.heap[a]? = H[a]?
    rw [hT]) (T'.setVm vm') rfl X₄
  exact ⟨t, hstep₁ _ (fun acts => by rw [doInvoke_state]; exact hsteps.trans (go t a1)), b1⟩
end JEK
