/-! ONE WORLD: cells by number (place in the list), addresses by a map, shapes by a table; the ints of all cells in one memory.
A shape: an array (kind 0: ints, 1: booleans, k + 2: references, by the numbers that they refer to; how many), or an object (class number; fields: none: an int of the memory, some none: a reference whose number the memory holds, some (some j): always cell j). -/
abbrev jj_Mem : Type := Nat → Nat → Int32
abbrev jj_Sh : Type := (Nat × Nat × (Nat → Nat)) ⊕ (Nat × List (Option (Option Nat)))
/-- shapes, how many cells, classes, array kinds' types, words -/
abbrev jj_Y : Type := (Nat → jj_Sh) × Nat × List vw_C × List FieldType × List Cond
/-- launch, addresses, classes' and slots' numbers, array classes' numbers, the size of the heap from which on all is ours, but for one address -/
abbrev jj_X : Type := Launch × (Nat → Nat) × va_G × (Nat → ClassId) × (Nat × Nat)
/-- a method: name, code, locals, what it returns -/
abbrev jj_M : Type := MethodName × ByteArray × Nat × Option FieldType
def jj_set (x : jj_Mem) (i k : Nat) (v : Int32) : jj_Mem := va_up x i (upd (x i) k v)
theorem jj_set_get (x : jj_Mem) (i k : Nat) (v : Int32) (j l : Nat) : jj_set x i k v j l = if j = i ∧ l = k then v else x j l := by
  unfold jj_set va_up
  by_cases h : j = i
  · subst h
    by_cases h2 : l = k
    · subst h2; simp [upd]
    · simp [upd, h2]
  · simp [h]
def jj_v (X : jj_X) (v : Value) : Value := match v with
  | .ref i => .ref (X.2.1 i)
  | v => v
theorem jj_v_cat (X : jj_X) (v : Value) : (jj_v X v).category = v.category := by cases v <;> rfl
def jj_fv (X : jj_X) (f : Option (Option Nat)) (v : Int32) : Value := match f with
  | none => .int v
  | some none => .ref (X.2.1 v.toNatClampNeg)
  | some (some j) => .ref (X.2.1 j)
def jj_fl (X : jj_X) (y : Nat → Int32) : Nat → List (Option (Option Nat)) → List Value
  | _, [] => []
  | k, f :: r => jj_fv X f (y k) :: jj_fl X y (k + 1) r
theorem jj_fl_len (X : jj_X) (y : Nat → Int32) : ∀ (fs : List (Option (Option Nat))) (k0 : Nat), (jj_fl X y k0 fs).length = fs.length
  | [], _ => rfl
  | f :: r, k0 => by simp [jj_fl, jj_fl_len X y r (k0 + 1)]
theorem jj_fl_get (X : jj_X) (y : Nat → Int32) : ∀ (fs : List (Option (Option Nat))) (k0 k : Nat) (f : Option (Option Nat)), fs[k]? = some f → (jj_fl X y k0 fs)[k]? = some (jj_fv X f (y (k0 + k)))
  | [], _, k, f, h => by simp at h
  | g :: r, k0, 0, f, h => by
    simp at h
    subst h
    simp [jj_fl]
  | g :: r, k0, k + 1, f, h => by
    rw [List.getElem?_cons_succ] at h
    have := jj_fl_get X y r (k0 + 1) k f h
    simp only [jj_fl, List.getElem?_cons_succ]
    rw [this]
    congr 3
    omega
theorem jj_fl_out (X : jj_X) (y : Nat → Int32) (k : Nat) (v : Int32) : ∀ (fs : List (Option (Option Nat))) (k0 : Nat), k < k0 → jj_fl X (upd y k v) k0 fs = jj_fl X y k0 fs
  | [], _, _ => rfl
  | f :: r, k0, h => by
    have e : upd y k v k0 = y k0 := by unfold upd; rw [if_neg (by omega)]
    simp only [jj_fl, e, jj_fl_out X y k v r (k0 + 1) (by omega)]
theorem jj_fl_set (X : jj_X) (y : Nat → Int32) (v : Int32) : ∀ (fs : List (Option (Option Nat))) (k0 k : Nat) (f : Option (Option Nat)), fs[k]? = some f → (jj_fl X y k0 fs).set k (jj_fv X f v) = jj_fl X (upd y (k0 + k) v) k0 fs
  | [], _, k, f, h => by simp at h
  | g :: r, k0, 0, f, h => by
    simp at h
    subst h
    have e : upd y (k0 + 0) v k0 = v := by unfold upd; rw [if_pos (by omega)]
    simp only [jj_fl, List.set_cons_zero, e]
    rw [jj_fl_out X y (k0 + 0) v r (k0 + 1) (by omega)]
  | g :: r, k0, k + 1, f, h => by
    rw [List.getElem?_cons_succ] at h
    have e : upd y (k0 + (k + 1)) v k0 = y k0 := by unfold upd; rw [if_neg (by omega)]
    have e2 : k0 + (k + 1) = k0 + 1 + k := by omega
    simp only [jj_fl, List.set_cons_succ, e]
    rw [jj_fl_set X y v r (k0 + 1) k f h, e2]
def jj_e (X : jj_X) (sh : jj_Sh) (y : Nat → Int32) : va_E := match sh with
  | .inl (0, n, _) => .inl (X.2.2.2.1 0, n, .inl y)
  | .inl (1, n, _) => .inl (X.2.2.2.1 1, n, .inl y)
  | .inl (k + 2, n, f) => .inl (X.2.2.2.1 (k + 2), n, .inr (.inr (.inr (.inr (fun j => some (X.2.1 (f j)))))))
  | .inr (ci, fs) => .inr (ci, jj_fl X y 0 fs)
def jj_ws (Y : jj_Y) (X : jj_X) (x : jj_Mem) : va_W := (List.range Y.2.1).map (fun i => (X.2.1 i, jj_e X (Y.1 i) (x i)))
theorem jj_ws_get {Y : jj_Y} {X : jj_X} {x : jj_Mem} {i : Nat} (h : i < Y.2.1) : (jj_ws Y X x)[i]? = some (X.2.1 i, jj_e X (Y.1 i) (x i)) := by
  simp [jj_ws, h]
theorem jj_ws_of {Y : jj_Y} {X : jj_X} {x : jj_Mem} {i : Nat} {q : Nat × va_E} (h : (jj_ws Y X x)[i]? = some q) : i < Y.2.1 ∧ q = (X.2.1 i, jj_e X (Y.1 i) (x i)) := by
  have hl : i < Y.2.1 := by
    have := (List.getElem?_eq_some_iff.mp h).1
    simpa [jj_ws] using this
  rw [jj_ws_get hl] at h
  exact ⟨hl, (Option.some.inj h).symm⟩
theorem jj_ws_set {Y : jj_Y} {X : jj_X} {x : jj_Mem} {i : Nat} (h : i < Y.2.1) (y : Nat → Int32) : (jj_ws Y X x).set i (X.2.1 i, jj_e X (Y.1 i) y) = jj_ws Y X (va_up x i y) := by
  apply List.ext_getElem?
  intro j
  by_cases hj : j = i
  · subst hj
    rw [List.getElem?_set_self (by simpa [jj_ws] using h), jj_ws_get h, va_up_self]
  · rw [List.getElem?_set_ne (Ne.symm hj)]
    by_cases hl : j < Y.2.1
    · rw [jj_ws_get hl, jj_ws_get hl, va_up_ne _ _ hj]
    · rw [List.getElem?_eq_none (by simp [jj_ws]; omega), List.getElem?_eq_none (by simp [jj_ws]; omega)]
def jj_tys (Y : jj_Y) (X : jj_X) : List (ClassId × FieldType) := (List.range Y.2.2.2.1.length).map (fun k => (X.2.2.2.1 k, Y.2.2.2.1.getD k .int))
theorem jj_tys_get {Y : jj_Y} {X : jj_X} {k : Nat} {ty : FieldType} (h : Y.2.2.2.1[k]? = some ty) : (jj_tys Y X)[k]? = some (X.2.2.2.1 k, ty) := by
  have hl := (List.getElem?_eq_some_iff.mp h).1
  simp only [jj_tys, List.getElem?_map, List.getElem?_range hl, Option.map_some, List.getD_eq_getElem?_getD, h]
  rfl
def jj_A (X : jj_X) : Nat → Prop := fun q => X.2.2.2.2.1 ≤ q ∧ q ≠ X.2.2.2.2.2
def jj_hz (X : jj_X) (n : Nat) : Prop := X.2.2.2.2.1 ≤ n ∧ X.2.2.2.2.2 < n
theorem jj_hz.mono {X : jj_X} {n m : Nat} (h : jj_hz X n) (hm : n ≤ m) : jj_hz X m := ⟨Nat.le_trans h.1 hm, Nat.lt_of_lt_of_le h.2 hm⟩
def jj_ok (Y : jj_Y) (X : jj_X) : Prop := (∀ i j, i < Y.2.1 → j < Y.2.1 → X.2.1 i = X.2.1 j → i = j) ∧ ∀ i, i < Y.2.1 → jj_A X (X.2.1 i)
theorem jj_D {Y : jj_Y} {X : jj_X} (h : jj_ok Y X) (x : jj_Mem) : va_D (jj_A X) (jj_ws Y X x) := by
  refine ⟨fun i j p q hi hj e => ?_, fun k q hk => ?_⟩
  · obtain ⟨h1, rfl⟩ := jj_ws_of hi
    obtain ⟨h2, rfl⟩ := jj_ws_of hj
    exact h.1 i j h1 h2 e
  · obtain ⟨h1, rfl⟩ := jj_ws_of hk
    exact h.2 k h1
theorem jj_wrefl (s : State) : s.WarmedH s.vm := ⟨rfl, rfl, fun d k h => ⟨k, h, rfl, rfl, fun i => Or.inl rfl, Or.inl ⟨rfl, rfl⟩⟩⟩
/-- words that hold in a state and in all that come of it -/
def jj_wd (ws : List Cond) (U : State) : Prop := ∀ w ∈ ws, ∀ (a : Array Value) (V : State), U.WarmedH V.vm → w.before a V = true
theorem jj_wd.moved {ws : List Cond} {s U : State} (hW : s.WarmedH U.vm) (h : jj_wd ws s) : jj_wd ws U := fun w hw a V hV => h w hw a V (State.WarmedH.trans hW hV)
def jj_fr (Y : jj_Y) (X : jj_X) (d : Nat) (M : jj_M) (p : Program) (R : Room) (s : State) (m : MethodId) (args : Array Value) (meth : Method) (c : Code) : Prop :=
  p.tables.exec = Jvm.exec ∧ c.code = M.2.1 ∧ c.maxLocals = M.2.2.1 ∧ s.vm.findClass M.1.cls = some m.cls ∧ meth.sig.returnType = M.2.2.2 ∧ meth.locks = false ∧ jj_wd Y.2.2.2.2 s ∧ va_K X.2.2.1 Y.2.2.1 (jj_tys Y X) s ∧ d ≤ R.frames ∧ 40 * d ≤ R.locals ∧ jj_ok Y X ∧ jj_hz X s.heap.size ∧ (∀ w ∈ Y.2.2.2.2, w.before args s = true)
def jj_in (Y : jj_Y) (X : jj_X) (x : jj_Mem) (U : State) : Prop := va_P X.2.2.1 Y.2.2.1 (jj_ws Y X x) U.heap ∧ va_K X.2.2.1 Y.2.2.1 (jj_tys Y X) U ∧ jj_wd Y.2.2.2.2 U ∧ jj_hz X U.heap.size ∧ jj_ok Y X
def jj_Q (Y : jj_Y) (X : jj_X) (post : Option Value → jj_Mem → Prop) : Array Value → State → Outcome → State → Prop := fun _ st oc t =>
  (∃ (r : Option Value) (x : jj_Mem), oc = .returned (r.map (jj_v X)) ∧ post r x ∧ va_P X.2.2.1 Y.2.2.1 (jj_ws Y X x) t.heap ∧ va_K X.2.2.1 Y.2.2.1 (jj_tys Y X) t) ∧ va_F (jj_A X) st t
def jj_has (X : jj_X) (ls : Array Slot) (nL : Nat) (lo : List (Option Value)) : Prop := ls.size = nL ∧ lv_wf ls ∧ ∀ (i : Nat) (v : Value), lo[i]? = some (some v) → ls[i]? = some (.val (jj_v X v))
/-- THE JUDGEMENT: a frame of method M at pc with these locals and this stack, the memory x: it comes to its return, with post -/
def jj_J (Y : jj_Y) (X : jj_X) (d : Nat) (M : jj_M) (pc : Nat) (lo : List (Option Value)) (st : List Value) (x : jj_Mem) (post : Option Value → jj_Mem → Prop) : Prop :=
  ∀ (p : Program) (e : Env) (R : Room) (s : State) (m : MethodId) (args : Array Value) (below : List Frame) (meth : Method) (c : Code), jj_fr Y X d M p R s m args meth c →
    ∀ (H : Heap) (locs : List Loc) (ls : Array Slot), va_P X.2.2.1 Y.2.2.1 (jj_ws Y X x) H → va_S (jj_A X) s.heap H locs → jj_has X ls M.2.2.1 lo →
      W p X.1 e R s m args below meth c H locs 0 0 (MQ below (jj_Q Y X post) args s 0 0 (jj_A X)) (F0 m pc ls (st.map (jj_v X)))
/-- a method's contract -/
def jj_Met (Y : jj_Y) (X : jj_X) (d : Nat) (M : jj_M) (as : List Value) (x : jj_Mem) (post : Option Value → jj_Mem → Prop) : Prop :=
  Met X.1 M.1 [.code M.1 M.2.1 M.2.2.1 M.2.2.2] ({ frames := d, cells := 0, slots := 0, locals := 40 * d }) (va_Pc (as.map (jj_v X)) (jj_in Y X x)) (jj_Q Y X post) 0 0 (jj_A X)
/-- locals at a method's entry -/
def jj_lo : List Value → List (Option Value)
  | [] => []
  | v :: vs => if v.category = 2 then some v :: none :: jj_lo vs else some v :: jj_lo vs
theorem jj_lo_args (X : jj_X) : ∀ (vs : List Value) (i k : Nat) (v : Value), (jj_lo vs)[i]? = some (some v) → (k + i, jj_v X v) ∈ lv_args k (vs.map (jj_v X))
  | [], i, k, v, h => by simp [jj_lo] at h
  | u :: us, i, k, v, h => by
    simp only [List.map_cons, lv_args, jj_v_cat]
    by_cases hc : u.category = 2
    · rw [if_pos hc]
      rw [jj_lo, if_pos hc] at h
      match i, h with
      | 0, h => simp at h; subst h; simp
      | 1, h => simp at h
      | i + 2, h =>
        rw [List.getElem?_cons_succ, List.getElem?_cons_succ] at h
        have := jj_lo_args X us i (k + 2) v h
        rw [show k + 2 + i = k + (i + 2) by omega] at this
        exact List.mem_cons_of_mem _ this
    · rw [if_neg hc]
      rw [jj_lo, if_neg hc] at h
      match i, h with
      | 0, h => simp at h; subst h; simp
      | i + 1, h =>
        rw [List.getElem?_cons_succ] at h
        have := jj_lo_args X us i (k + 1) v h
        rw [show k + 1 + i = k + (i + 1) by omega] at this
        exact List.mem_cons_of_mem _ this
theorem jj_lg (X : jj_X) : ∀ vs : List Value, (lg_sl (vs.map (jj_v X))).length = (lg_sl vs).length
  | [] => rfl
  | u :: us => by
    have := jj_lg X us
    simp only [lg_sl, List.map_cons, List.flatMap_cons, List.length_append, jj_v_cat] at this ⊢
    rw [this]
    by_cases hc : u.category = 2 <;> simp [hc]
/-- a contract, from the judgement at the entry -/
theorem jj_met {Y : jj_Y} {X : jj_X} {d : Nat} {M : jj_M} {as : List Value} {x : jj_Mem} {post : Option Value → jj_Mem → Prop} {lo : List (Option Value)} (hy : plainName M.1.cls = true) (hn : (lg_sl as).length ≤ M.2.2.1) (hlo : ∀ (i : Nat) (v : Value), lo[i]? = some (some v) → (jj_lo as)[i]? = some (some v)) (h : jj_J Y X d M 0 lo [] x post) : jj_Met Y X d M as x post := by
  refine Met.ofW (cc := M.2.1) (maxL := M.2.2.1) (ret := M.2.2.2) hy rfl ?_
  intro p e s m args below meth c s₁ B hml hv
  obtain ⟨rfl, hP, hK, hw, hsz, hok⟩ := hv
  have hl := lv_entry (as.map (jj_v X)) (n := M.2.2.1) (by rw [jj_lg]; exact hn)
  rw [lg_entry_eq]
  refine h p e _ s m _ below meth c ⟨B.exec, B.bytes, hml, findClass_of_methodNamed B.named, B.returns, B.notSynchronized, hw, hK, Nat.le_refl _, Nat.le_refl _, hok, hsz, fun w hw2 => hw w hw2 _ _ (jj_wrefl s)⟩ s.heap [] _ hP va_S.rf ⟨hl.1, hl.2.1, fun i v hi => ?_⟩
  have := jj_lo_args X as i 0 v (hlo i v hi)
  rw [Nat.zero_add] at this
  exact hl.2.2 _ this
