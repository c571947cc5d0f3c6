/-! exceptions: the words that their constructors want, from the law's entry on -/
def je_N : List String := ["java/lang/RuntimeException", "java/lang/Exception"]
def je_A : String := "java/lang/IllegalArgumentException"
def je_S : String := "java/lang/IllegalStateException"
def je_B : String := "java/lang/IndexOutOfBoundsException"
/-- a state that came of s0, with the old cells as they were -/
def je_O (s0 U : State) : Prop := s0.WarmedH U.vm ∧ ∀ q : Nat, q < s0.heap.size → U.heap[q]? = s0.heap[q]?
theorem je_found {s0 U : State} (hO : je_O s0 U) {C n d : String} {c i : Nat} {k : Class} {f : Field} (h : s0.fieldFound? C n d = some (c, k, i, f)) : ∃ k' : Class, U.fieldFound? C n d = some (c, k', i, f) ∧ k'.statics = k.statics ∧ k'.staticTypes = k.staticTypes := by
  obtain ⟨k', h1, he⟩ := State.fieldFound?_setVm (s := s0) hO.1.alike h
  exact ⟨k', h1, by rw [he], by rw [he]⟩
theorem je_laysStatic {s0 U : State} (hO : je_O s0 U) {args a : Array Value} {C n d : String} (h : (Cond.laysStatic C n d).before args s0 = true) : (Cond.laysStatic C n d).before a U = true := by
  obtain ⟨c, k, i, f, st, cell, hc, hi, hst, hsa, hcell, hss, hcls, hlt, hty⟩ := Cond.laysStatic_spec h
  obtain ⟨k', hi', e1, e2⟩ := je_found hO hi
  have hc' : U.vm.findClass C = some c := by rw [hO.1.alike.findClass]; exact hc
  have hl : st < s0.heap.size := (Array.getElem?_eq_some_iff.mp hcell).1
  have hcell' : U.heap[st]? = some cell := by rw [hO.2 st hl]; exact hcell
  simp [Cond.before, Cond.holds, Cond.value, hc', hi', e1, hsa, hcell', hst, hss, hcls, hlt, e2, hty]
theorem je_static {s0 U : State} (hO : je_O s0 U) {args a : Array Value} {C n d : String} {v : Value} (h : (Term.static C n d).eval args s0 none [] s0 = some v) : (Term.static C n d).eval a U none [] U = some v := by
  cases hf : s0.fieldFound? C n d with
  | none => simp [Term.eval, State.fieldNamed?, hf] at h
  | some q =>
    obtain ⟨c, k, i, f⟩ := q
    obtain ⟨k', hi', e1, e2⟩ := je_found hO hf
    by_cases hst : f.isStatic = true
    · cases hs : k.statics with
      | none => simp [Term.eval, State.fieldNamed?, hf, hst, hs] at h
      | some st =>
        cases hc : s0.heap[st]? with
        | none => simp [Term.eval, State.fieldNamed?, hf, hst, hs, hc] at h
        | some cell =>
          have hl : st < s0.heap.size := (Array.getElem?_eq_some_iff.mp hc).1
          have hcell' : U.heap[st]? = some cell := by rw [hO.2 st hl]; exact hc
          simp [Term.eval, State.fieldNamed?, hf, hst, hs, hc] at h
          simp [Term.eval, State.fieldNamed?, hi', hst, e1, hs, hcell', h]
    · simp [Term.eval, State.fieldNamed?, hf, hst] at h
theorem je_isRef {s0 U : State} (hO : je_O s0 U) {args a : Array Value} {C n d : String} (h : (Cond.isRef (.static C n d)).before args s0 = true) : (Cond.isRef (.static C n d)).before a U = true := by
  cases hv : (Term.static C n d).eval args s0 none [] s0 with
  | none => simp [Cond.before, Cond.holds, Cond.value, hv] at h
  | some v =>
    have h2 := je_static (a := a) hO hv
    simp only [Cond.before, Cond.holds, Cond.value, hv] at h
    simp only [Cond.before, Cond.holds, Cond.value, h2]
    exact h
def je_r1 : Cond := .isRef (.static "java/lang/Throwable" "UNASSIGNED_STACK" "[Ljava/lang/StackTraceElement;")
def je_r2 : Cond := .isRef (.static "java/lang/Throwable" "SUPPRESSED_SENTINEL" "Ljava/util/List;")
def je_kind (w : Cond) : Bool := goodWord w || (match w with
  | .declares _ => true
  | .castable _ _ => true
  | .laysStatic _ _ _ => true
  | _ => false)
theorem je_table {s0 U : State} (hO : je_O s0 U) {args a : Array Value} {w : Cond} (hk : je_kind w = true) (h : w.before args s0 = true) : w.before a U = true := by
  by_cases hg : goodWord w = true
  · exact word_at hO.1 (good_of_word hg) h
  · cases w <;> first
      | (exact va_Nw.use rfl (va_Nw.warmD hO.1 (va_Nw.of rfl h)))
      | (exact va_Nw.use rfl (va_Nw.warmC hO.1 (va_Nw.of rfl h)))
      | (exact je_laysStatic hO h)
      | (exact absurd hk (by simp [je_kind, hg]))
/-- what is known of the law's entry -/
def je_base (s0 : State) (args : Array Value) : Prop := (∀ w ∈ tables_1, w.before args s0 = true) ∧ je_r1.before args s0 = true ∧ je_r2.before args s0 = true
def je_in (l : List Cond) : Bool := l.all (fun w => (decide (w ∈ tables_1) && je_kind w) || decide (w = je_r1) || decide (w = je_r2))
theorem je_all {s0 U : State} {args : Array Value} (hB : je_base s0 args) (hO : je_O s0 U) {l : List Cond} (h : je_in l = true) (a : Array Value) : ∀ w ∈ l, w.before a U = true := by
  intro w hw
  have h1 := List.all_eq_true.mp h w hw
  simp only [Bool.or_eq_true, Bool.and_eq_true, decide_eq_true_eq] at h1
  rcases h1 with (⟨h1, h2⟩ | rfl) | rfl
  · exact je_table hO h2 (hB.1 w h1)
  · exact je_isRef hO hB.2.1
  · exact je_isRef hO hB.2.2
theorem je_inA : je_in (Bundle.ownAtoms "VerifiedCode" 48 je_A je_N) = true := by decide +kernel
theorem je_inS : je_in (Bundle.ownAtoms "VerifiedCode" 59 je_S je_N) = true := by decide +kernel
theorem je_inB : je_in (Bundle.ownAtoms "VerifiedCode" 64 je_B je_N) = true := by decide +kernel
