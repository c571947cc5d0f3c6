/-! frames of the law and of its helpers: the one world, and behind it the row of one long -/
def jl_w (X : jj_X) (cL : ClassId) (x : jj_Mem) (f : Nat → Int64) : va_W := jj_ws Y0 X x ++ [(X.2.2.2.2.2, .inl (cL, 1, .inr (.inl f)))]
def jl_A (X : jj_X) : Nat → Prop := fun q => X.2.2.2.2.1 ≤ q
def jl_t (X : jj_X) (cL : ClassId) : List (ClassId × FieldType) := jj_tys Y0 X ++ [(cL, .long)]
/-- what is known of a state at which a frame of the law's begins -/
def jl_ok (X : jj_X) (cL : ClassId) (s0 : State) (U : State) : Prop := va_K X.2.2.1 Y0.2.2.1 (jl_t X cL) U ∧ jj_wd j_W U ∧ X.2.2.2.2.1 ≤ U.heap.size ∧ jj_ok Y0 X ∧ je_O s0 U ∧ X.2.2.2.2.1 ≤ X.2.2.2.2.2 ∧ s0.heap.size = X.2.2.2.2.1
theorem jl_len (X : jj_X) (x : jj_Mem) : (jj_ws Y0 X x).length = 70 := by simp [jj_ws, Y0]
theorem jl_out {X : jj_X} {cL : ClassId} {x : jj_Mem} {f : Nat → Int64} : (jl_w X cL x f)[70]? = some (X.2.2.2.2.2, .inl (cL, 1, .inr (.inl f))) := by
  unfold jl_w
  rw [List.getElem?_append_right (by rw [jl_len]; exact Nat.le_refl _), jl_len]
  rfl
theorem jl_fst {D : va_G} {cl : List vw_C} {X : jj_X} {cL : ClassId} {x : jj_Mem} {f : Nat → Int64} {H : Heap} (h : va_P D cl (jl_w X cL x f) H) : va_P D cl (jj_ws Y0 X x) H := fun k q hk => h k q (by
  unfold jl_w
  rw [List.getElem?_append_left (List.getElem?_eq_some_iff.mp hk).1]
  exact hk)
theorem jl_mk {D : va_G} {cl : List vw_C} {X : jj_X} {cL : ClassId} {x x' : jj_Mem} {f : Nat → Int64} {H H1 : Heap} (h : va_P D cl (jl_w X cL x f) H) (h1 : va_P D cl (jj_ws Y0 X x') H1) (ho : H1[X.2.2.2.2.2]? = H[X.2.2.2.2.2]?) : va_P D cl (jl_w X cL x' f) H1 := by
  refine va_P.app h1 (fun k q hk => ?_)
  have hz : k < 1 := (List.getElem?_eq_some_iff.mp hk).1
  rw [show k = 0 by omega] at hk
  cases hk
  exact (h 70 _ jl_out).kept ho
theorem jl_D {X : jj_X} (hok : jj_ok Y0 X) (ho : X.2.2.2.2.1 ≤ X.2.2.2.2.2) {cL : ClassId} {x : jj_Mem} {f : Nat → Int64} : va_D (jl_A X) (jl_w X cL x f) := by
  refine va_D.app ((jj_D hok x).weaken (fun _ _ _ h => h.1)) ⟨fun i j p q hi hj _ => ?_, fun k q hk => ?_⟩ (fun i j p q hi hj => ?_)
  · have h1 := (List.getElem?_eq_some_iff.mp hi).1
    have h2 := (List.getElem?_eq_some_iff.mp hj).1
    simp at h1 h2
    omega
  · have hz : k < 1 := (List.getElem?_eq_some_iff.mp hk).1
    rw [show k = 0 by omega] at hk
    cases hk
    exact ho
  · have h1 := (jj_D hok x).2 i p hi
    have hz : j < 1 := (List.getElem?_eq_some_iff.mp hj).1
    rw [show j = 0 by omega] at hj
    cases hj
    exact h1.2
theorem jl_set {X : jj_X} {cL : ClassId} {x : jj_Mem} {f g : Nat → Int64} : (jl_w X cL x f).set 70 (X.2.2.2.2.2, .inl (cL, 1, .inr (.inl g))) = jl_w X cL x g := by
  unfold jl_w
  rw [List.set_append_right _ _ (by rw [jl_len]; exact Nat.le_refl _), jl_len]
  rfl
/-- the start of a method of the object or of the reference, from such a frame -/
theorem jl_in {X : jj_X} {cL : ClassId} {s0 s U : State} {x : jj_Mem} {f : Nat → Int64} {H : Heap} {locs : List Loc} (h : jl_ok X cL s0 s) (hP : va_P X.2.2.1 Y0.2.2.1 (jl_w X cL x f) H) (hS : va_S (jl_A X) s.heap H locs) (hU : U.heap = H) (hW : s.WarmedH U.vm) : jj_in Y0 X x U ∧ je_O s0 U := by
  obtain ⟨hK, hw, hz, hok, hO, ho, he⟩ := h
  refine ⟨⟨by rw [hU]; exact jl_fst hP, va_K.moved hW.alike (hK.sub (tys' := jj_tys Y0 X) [0, 1, 2, 3] rfl), hw.moved hW, by rw [hU]; exact ⟨Nat.le_trans hz hS.1, (hP 70 _ jl_out).lt⟩, hok⟩, State.WarmedH.trans hO.1 hW, fun q hq => ?_⟩
  have hlt : q < s.heap.size := by omega
  rw [hU, hS.2.1 q hlt (by show ¬ X.2.2.2.2.1 ≤ q; omega)]
  exact hO.2 q hq
section JLF
variable {X : jj_X} {cL : ClassId} {s0 : State} {p : Program} {e : Env} {R : Room} {s : State} {m : MethodId} {args : Array Value} {below : List Frame} {meth : Method} {c : Code} {H : Heap} {locs : List Loc} {cells slots : Nat} {Q : State → Prop} {cc : ByteArray} {nL d pc : Nat} {ls : Array Slot} {own : String} {N : jj_M} {x : jj_Mem} {f : Nat → Int64} {post : Option Value → jj_Mem → Prop}
abbrev jl_fx (p : Program) (m : MethodId) (c : Code) (cc : ByteArray) (nL : Nat) (s : State) (args : Array Value) (own : String) (R : Room) (d : Nat) : Prop := CallFix p m c cc nL s args j_W own ∧ d ≤ R.frames ∧ 40 * d ≤ R.locals
theorem jl_cb {n idx : Nat} {ws : List Cond} {k1 k2 : Nat} (F : jl_fx p m c cc nL s args own R (d + 1)) (hw : jj_wd j_W s) (hk : jj_cm Y0 N n) (hlk : Cond.methodLink own idx N.1 ∈ j_W) : CallB R s args own idx N.1 N.2.1 N.2.2.1 N.2.2.2 [.code N.1 N.2.1 N.2.2.1 N.2.2.2] ({ frames := d, cells := k1, slots := k2, locals := 40 * d }) k1 k2 n := by
  obtain ⟨⟨hx, hb, hml, hown, hts⟩, hfr, hlo⟩ := F
  obtain ⟨h1, h2, h3, h4⟩ := hk
  refine ⟨rfl, rfl, hfr, ?_, fun w hw2 a' U hW => ?_, List.mem_singleton.mpr rfl, hts _ h2, hts _ h1, ⟨h3.1, h3.2.1⟩, fun sig h => ?_, hts _ hlk⟩
  · show 8 + (N.2.2.1 + 11) + 40 * d ≤ R.locals
    omega
  · rw [List.mem_singleton.mp hw2]
    exact hw _ h2 a' U hW
  · have q2 := h3.2.2
    rw [h] at q2
    exact (Option.some.inj q2).symm
/-- a call of one of their methods that returns -/
theorem jl_callV {i idx ci n : Nat} {fs : List (Option (Option Nat))} {as rest : List Value} {stk : List Value} (F : jl_fx p m c cc nL s args own R (d + 1)) (h : jl_ok X cL s0 s) (hP : va_P X.2.2.1 Y0.2.2.1 (jl_w X cL x f) H) (hS : va_S (jl_A X) s.heap H locs) (hls : ls.size = nL) (hM : jj_Met Y0 X d N (.ref i :: as) x post) (hd : decode cc pc = .ok (.invokevirtual idx, 3)) (hk : jj_cv Y0 own idx N n) (hi : i < Y0.2.1) (hs : Y0.1 i = .inr (ci, fs)) (hc : ∃ q, Y0.2.2.1[ci]? = some q ∧ q.1 = N.1.cls) (hn : as.length = n) (hst : stk = (as.map (jj_v X)).reverse ++ .ref (X.2.1 i) :: rest) (hroom : (rest.map fun v => v.category).sum ≤ 8) (hf : cells ≤ R.cells ∧ slots ≤ R.slots)
    (kk : ∀ (r : Option Value) (x' : jj_Mem) (H1 : Heap) (locs1 : List Loc), post r x' → va_P X.2.2.1 Y0.2.2.1 (jl_w X cL x' f) H1 → va_S (jl_A X) s.heap H1 locs1 → W p X.1 e R s m args below meth c H1 locs1 cells slots Q (F0 m (pc + 3) ls ((r.map (jj_v X)).toList ++ rest))) : W p X.1 e R s m args below meth c H locs cells slots Q (F0 m pc ls stk) := by
  obtain ⟨hK, hw, hz, hok, hO, ho, he⟩ := id h
  obtain ⟨q, hq, hqn⟩ := hc
  have hrecv := va_recv (D := X.2.2.1) (a := X.2.1 i) (q0 := i) (fs := jj_fl X (x i) 0 fs) hK (jl_fst hP) hq (by rw [jj_ws_get hi, hs]; rfl)
  rw [hqn] at hrecv
  have hr := va_runV (p := p) (l := X.1) (e := e) (R := R) (below := below) (meth := meth) (H := H) (locs := locs) (cells := cells) (slots := slots) (n := n) (nL := nL) (C := N.1.cls) (As := as.map (jj_v X)) (b := X.2.1 i) (rest := rest) (g := F0 m pc ls stk) F.1 hM ⟨jl_cb (ws := []) F hw hk.1 hk.2.1, F.1.2.2.2.2 _ hk.2.2.1, F.1.2.2.2.2 _ hk.2.2.2⟩ ⟨jj_in.blind, hrecv, fun U hU hW => ⟨rfl, (jl_in h hP hS hU hW).1⟩⟩ rfl (by rw [List.length_map]; exact hn) hls hst (lv_room hroom) hd hf
  intro T hT Z
  obtain ⟨v, st₀, t, T', L, h0, Z', hL, e1, e2, ⟨⟨r, x', hv, hp, hPt, hKt⟩, hz1, hk1⟩, go⟩ := hr T hT Z
  cases hv
  rw [h0] at hz1 hk1
  have hH : T'.heap.size = t.heap.size := by rw [e1]
  have hS' : va_S (jl_A X) s.heap T'.heap (locs ++ L) := ⟨Nat.le_trans hS.1 (by rw [e1]; exact hz1), fun q h1 h2 => by rw [e1, hk1 q (Nat.lt_of_lt_of_le h1 hS.1) (fun h3 => h2 h3.1)]; exact hS.2.1 q h1 h2, fun q hq => by
      rcases List.mem_append.mp hq with h | h
      · exact hS.2.2 q h
      · exact (hL q h).1⟩
  have hP' : va_P X.2.2.1 Y0.2.2.1 (jl_w X cL x' f) T'.heap := jl_mk hP (by rw [e1]; exact hPt) (by
    rw [e1]
    exact hk1 _ (hP 70 _ jl_out).lt (fun h3 => h3.2 rfl))
  obtain ⟨t2, a1, b1⟩ := kk r x' T'.heap (locs ++ L) hp hP' hS' T' rfl Z'
  exact ⟨t2, go t2 a1, b1⟩
/-- a call of one of the object's methods that throws: what was there stays, and the walk goes on at the handler -/
theorem jl_callT {i idx ci n hpc : Nat} {cls : String} {fs : List (Option (Option Nat))} {as rest : List Value} {stk : List Value} (F : jl_fx p m c cc nL s args own R (d + 1)) (h : jl_ok X cL s0 s) (hP : va_P X.2.2.1 Y0.2.2.1 (jl_w X cL x f) H) (hS : va_S (jl_A X) s.heap H locs) (hls : ls.size = nL) (hM : je_Met X s0 d N (.ref i :: as) x cls) (hd : decode cc pc = .ok (.invokevirtual idx, 3)) (hk : jj_cv Y0 own idx N n) (hi : i < Y0.2.1) (hs : Y0.1 i = .inr (ci, fs)) (hc : ∃ q, Y0.2.2.1[ci]? = some q ∧ q.1 = N.1.cls) (hn : as.length = n) (hst : stk = (as.map (jj_v X)).reverse ++ .ref (X.2.1 i) :: rest) (hroom : (rest.map fun v => v.category).sum ≤ 8) (hf : cells + 1 ≤ R.cells ∧ slots + 6 ≤ R.slots)
    (hcatch : ∀ (T : State) (lo2 : List Loc) (k2 n2 : Nat) (q : Addr) (ce : Cell), Stand p X.1 e R s m args below meth c T lo2 k2 n2 → T.heap[q]? = some ce → s.vm.findClass cls = some ce.cls → ce.vm = .none → ∃ vm', Stand p X.1 e R s m args below meth c (T.setVm vm') lo2 k2 n2 ∧ ∀ target, Steps p.tables e below ((T.setVm vm').setTop { F0 m pc ls stk with pc := hpc, stack := [.ref q] }) target → Steps p.tables e below ((T.setTop { F0 m pc ls stk with stack := rest }).pushFrame (.throwing q)) target)
    (kk : ∀ (H1 : Heap) (q : Nat), va_P X.2.2.1 Y0.2.2.1 (jl_w X cL x f) H1 → va_S (jl_A X) s.heap H1 locs → W p X.1 e R s m args below meth c H1 locs (cells + 1) (slots + 6) Q (F0 m hpc ls [.ref q])) : W p X.1 e R s m args below meth c H locs cells slots Q (F0 m pc ls stk) := by
  obtain ⟨hK, hw, hz, hok, hO, ho, he⟩ := id h
  obtain ⟨q, hq, hqn⟩ := hc
  have hrecv := va_recv (D := X.2.2.1) (a := X.2.1 i) (q0 := i) (fs := jj_fl X (x i) 0 fs) hK (jl_fst hP) hq (by rw [jj_ws_get hi, hs]; rfl)
  rw [hqn] at hrecv
  refine je_call (hpc := hpc) (n := n) (nL := nL) (C := N.1.cls) (As := as.map (jj_v X)) (b := X.2.1 i) (rest := rest) F.1 hM ⟨jl_cb (ws := []) F hw hk.1 hk.2.1, F.1.2.2.2.2 _ hk.2.2.1, F.1.2.2.2.2 _ hk.2.2.2⟩ ⟨fun a U g mk z => ⟨z.1, (jj_in.blind (av := []) #[] U g mk ⟨rfl, z.2.1⟩).2, State.WarmedH.trans z.2.2.1 (jj_wrefl U), z.2.2.2⟩, hrecv, fun U hU hW => ⟨rfl, jl_in h hP hS hU hW⟩⟩ rfl (by rw [List.length_map]; exact hn) hls hst (lv_room hroom) hd hf hcatch (fun H1 q hz1 hk1 => ?_)
  refine kk H1 q (hP.kept (fun k z hk => hk1 z.1 (hP k z hk).lt)) ⟨Nat.le_trans hS.1 hz1, fun q h1 h2 => by rw [hk1 q (Nat.lt_of_lt_of_le h1 hS.1)]; exact hS.2.1 q h1 h2, hS.2.2⟩
end JLF
