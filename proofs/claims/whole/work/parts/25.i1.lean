/-! constructors -/
abbrev ja_T (cI cZ cM cS : ClassId) : List (ClassId × FieldType) := [(cI, .int), (cZ, .boolean), (cM, .object "VerifiedCode$Method"), (cS, .object "VerifiedCode$State")]
theorem ja_p {D : va_G} {cl : List vw_C} {T : List (ClassId × FieldType)} {s : State} {i : Nat} {cA cB : ClassId} {ty : FieldType} (hi : T[i]? = some (cB, ty)) (h : va_K D cl (T ++ [(cA, ty)]) s) : cA = cB := by
  have hl := (List.getElem?_eq_some_iff.mp hi).1
  have h1 := (h.2 i (cB, ty) (by rw [List.getElem?_append_left hl]; exact hi)).2
  have h2 := (h.2 T.length (cA, ty) (by simp)).2
  cases ty with
  | object C =>
    obtain ⟨_, _, _, _, _, g1⟩ := h1
    obtain ⟨_, _, _, _, _, g2⟩ := h2
    exact Option.some.inj (g2.symm.trans g1)
  | _ => exact Option.some.inj (h2.symm.trans h1)
def ja_ao (U : State) : Prop := va_AO "VerifiedCode$Method" U ∧ va_AO "VerifiedCode$State" U
theorem ja_ao.moved {s U : State} (hvm : s.vm.Alike U.vm) (h : ja_ao s) : ja_ao U := ⟨h.1.moved hvm, h.2.moved hvm⟩
/-- what a constructor stands on -/
def ja_in (D : va_G) (T : List (ClassId × FieldType)) (ws : va_W) (sz : Nat) (U : State) : Prop := U.heap.size = sz ∧ va_P D j_cl ws U.heap ∧ va_K D j_cl T U ∧ va_D (fun _ => True) ws ∧ jj_wd j_W U ∧ ja_ao U
theorem ja_blind {D : va_G} {T : List (ClassId × FieldType)} {ws : va_W} {sz : Nat} {av : List Value} : FrameBlind (va_Pc av (ja_in D T ws sz)) := by
  intro a U g mk h
  obtain ⟨h0, h1, h2, h3, h4, h5, h6⟩ := h
  exact ⟨h0, h1, h2, va_K.moved (u := U) (U := U.calling g mk a) (Vm.Alike.refl U.vm) h3, h4, fun w hw a2 V hV => h5 w hw a2 V (State.WarmedH.of_rootvm (s := U.calling g mk a) (u := U) rfl hV), ja_ao.moved (s := U) (U := U.calling g mk a) (Vm.Alike.refl U.vm) h6⟩
def ja_out (D : va_G) (T : List (ClassId × FieldType)) (A : Nat → Prop) (B : va_W → Prop) (t : State) : Prop := ∃ ws, B ws ∧ va_P D j_cl ws t.heap ∧ va_K D j_cl T t ∧ va_D A ws
abbrev ja_Met (l : Launch) (D : va_G) (T : List (ClassId × FieldType)) (M : jj_M) (d mc ms : Nat) (h0 : Nat) (w0 : va_W) (sz : Nat) (B : va_W → Prop) : Prop := Met l M.1 [.code M.1 M.2.1 M.2.2.1 M.2.2.2] ({ frames := d, cells := mc, slots := ms, locals := 40 * d }) (va_Pc [.ref h0] (ja_in D T w0 sz)) (va_Qv (fun _ : Unit => True) (fun _ => ja_out D T (va_A w0 sz) B) (va_A w0 sz)) mc ms (va_A w0 sz)
theorem ja_cw {R : Room} {s : State} {args : Array Value} {own : String} {idx d mc ms : Nat} {N : jj_M} (hw : jj_wd j_W s) (hts : ∀ w ∈ j_W, w.before args s = true) (hr : N.2.2.2 = none) (h1 : Cond.initialized N.1.cls ∈ j_W) (h2 : Cond.code N.1 N.2.1 N.2.2.1 N.2.2.2 ∈ j_W) (h3 : Cond.methodLink own idx N.1 ∈ j_W) (h4 : Cond.instanceMethod N.1 ∈ j_W) (hn : N.1.name = "<init>") (h5 : N.1.cls ≠ "java/lang/invoke/MethodHandle" ∧ N.1.cls ≠ "java/lang/invoke/VarHandle" ∧ (parseMethodDescriptor N.1.desc).map (fun d => d.parameters.length) = some 0) (h6 : N.2.2.1 ≤ 21) (hR : d + 1 ≤ R.frames ∧ 40 * (d + 1) ≤ R.locals) :
    CallB R s args own idx N.1 N.2.1 N.2.2.1 none [.code N.1 N.2.1 N.2.2.1 N.2.2.2] ({ frames := d, cells := mc, slots := ms, locals := 40 * d }) mc ms 0 ∧ N.1.name = "<init>" ∧ (Cond.instanceMethod N.1).before args s = true := by
  refine ⟨⟨rfl, rfl, hR.1, ?_, fun w hw2 a' U hW => ?_, List.mem_singleton.mpr (by rw [hr]), by rw [← hr]; exact hts _ h2, hts _ h1, ⟨h5.1, h5.2.1⟩, fun sig h => ?_, hts _ h3⟩, hn, hts _ h4⟩
  · show 8 + (N.2.2.1 + 11) + 40 * d ≤ R.locals
    have := hR.2
    omega
  · rw [List.mem_singleton.mp hw2]
    exact hw _ h2 a' U hW
  · have q2 := h5.2.2
    rw [h] at q2
    exact (Option.some.inj q2).symm
abbrev m_St_init : jj_M := (⟨"VerifiedCode$State", "<init>", "()V"⟩, prog_8_method_1_code, 1, none)
theorem d_St_init_0 : decode m_St_init.2.1 0 = .ok (.aload_n 0, 1) := by decide +kernel
theorem d_St_init_1 : decode m_St_init.2.1 1 = .ok (.invokespecial 3, 3) := by decide +kernel
theorem d_St_init_4 : decode m_St_init.2.1 4 = .ok (.aload_n 0, 1) := by decide +kernel
theorem d_St_init_5 : decode m_St_init.2.1 5 = .ok (.bipush 6, 2) := by decide +kernel
theorem d_St_init_7 : decode m_St_init.2.1 7 = .ok (.newarray .int, 2) := by decide +kernel
theorem d_St_init_9 : decode m_St_init.2.1 9 = .ok (.putfield 9, 3) := by decide +kernel
theorem d_St_init_12 : decode m_St_init.2.1 12 = .ok (.aload_n 0, 1) := by decide +kernel
theorem d_St_init_13 : decode m_St_init.2.1 13 = .ok (.bipush 6, 2) := by decide +kernel
theorem d_St_init_15 : decode m_St_init.2.1 15 = .ok (.newarray .int, 2) := by decide +kernel
theorem d_St_init_17 : decode m_St_init.2.1 17 = .ok (.putfield 15, 3) := by decide +kernel
theorem d_St_init_20 : decode m_St_init.2.1 20 = .ok (.aload_n 0, 1) := by decide +kernel
theorem d_St_init_21 : decode m_St_init.2.1 21 = .ok (.bipush 6, 2) := by decide +kernel
theorem d_St_init_23 : decode m_St_init.2.1 23 = .ok (.newarray .int, 2) := by decide +kernel
theorem d_St_init_25 : decode m_St_init.2.1 25 = .ok (.putfield 18, 3) := by decide +kernel
theorem d_St_init_28 : decode m_St_init.2.1 28 = .ok (.aload_n 0, 1) := by decide +kernel
theorem d_St_init_29 : decode m_St_init.2.1 29 = .ok (.bipush 6, 2) := by decide +kernel
theorem d_St_init_31 : decode m_St_init.2.1 31 = .ok (.newarray .int, 2) := by decide +kernel
theorem d_St_init_33 : decode m_St_init.2.1 33 = .ok (.putfield 21, 3) := by decide +kernel
theorem d_St_init_36 : decode m_St_init.2.1 36 = .ok (.return_, 1) := by decide +kernel
set_option maxHeartbeats 8000000 in
set_option maxRecDepth 100000 in
theorem i_St {d : Nat} (l : Launch) (D : va_G) (cI cZ cM cS : ClassId) (h0 sz : Nat) : ja_Met l D (ja_T cI cZ cM cS) m_St_init (d + 1) 4 24 h0 [(h0, .inr (4, [.null, .null, .null, .null, .int 0]))] sz (fun ws => ∃ q1 q2 q3 q4 : Nat, ws = [(h0, .inr (4, [.ref q1, .ref q2, .ref q3, .ref q4, .int 0])), (q1, .inl (cI, 6, .inl (fun _ => 0))), (q2, .inl (cI, 6, .inl (fun _ => 0))), (q3, .inl (cI, 6, .inl (fun _ => 0))), (q4, .inl (cI, 6, .inl (fun _ => 0)))]) := by
  refine Met.ofW (cc := m_St_init.2.1) (maxL := 1) (ret := none) rfl rfl ?_
  intro p e s m args below meth c s₁ B hml hv
  obtain ⟨rfl, hsz, hP, hK, hD0, hw, hao⟩ := hv
  have hx := B.exec
  have hb := B.bytes
  have hr := B.returns
  have hlocks := B.notSynchronized
  have hts : ∀ w ∈ j_W, w.before _ s = true := fun w h => hw w h ([Value.ref h0] : List Value).toArray s (jj_wrefl s)
  have hown : s.vm.findClass "VerifiedCode$State" = some m.cls := findClass_of_methodNamed B.named
  have hin : meth.name = "<init>" := (name_of_methodNamed B.named B.method).1
  subst hsz
  have hD := hD0.self (sz := s.heap.size)
  generalize hAe : va_A [(h0, .inr (4, [.null, .null, .null, .null, .int 0]))] s.heap.size = A at hD ⊢
  have hA : ∀ q : Nat, s.heap.size ≤ q → A q := fun q h => by rw [← hAe]; exact Or.inr h
  have hS : va_S A s.heap s.heap [] := va_S.rf
  have hP : va_P D j_cl [(h0, .inr (4, [.null, .null, .null, .null, .int 0]))] s.heap := hP
  have hl := lv_entry ([.ref h0]) (n := 1) (Nat.le_of_ble_eq_true rfl)
  rw [lg_entry_eq]
  generalize (lg_sl ([.ref h0]) ++ List.replicate (1 - (lg_sl ([.ref h0])).length) Slot.unset).toArray = ls at hl ⊢
  have hl : lv_has ls 1 [(0, .ref h0)] := hl
  refine lv_aload_n hx hb d_St_init_0 rfl (lv_at hl 0 rfl) ?_
  refine W.objInit hx hb hown (hts (.methodLink "VerifiedCode$State" 3 Lib.objectInit) (jw_1 (List.mem_of_getElem? (i := 141) rfl) rfl)) (hts (.instanceMethod Lib.objectInit) (jw_1 (List.mem_of_getElem? (i := 24) rfl) rfl)) (hts (.code Lib.objectInit ⟨#[0xb1]⟩ 1 none) (jw_1 (List.mem_of_getElem? (i := 25) rfl) rfl)) rfl (by rw [hml]; exact hl.1) rfl d_St_init_1 (Nat.le_of_ble_eq_true rfl) (Nat.le_of_ble_eq_true rfl) ?_
  refine W.eq (g2 := F0 m 4 ls []) rfl ?_
  refine lv_aload_n hx hb d_St_init_4 rfl (lv_at hl 0 rfl) ?_
  refine lv_bipush (v := 6) hx hb d_St_init_5 (by decide) ?_
  refine va_newa (D := D) (atype := .int) (a0 := (6, .inl (fun _ => 0))) hx hb (hts (.arrayClass .int) (jw_1 (List.mem_of_getElem? (i := 83) rfl) rfl)) (ty := .int) rfl hK hP hD hS hA (N' := 6) (fun _ => rfl) (by decide) (by decide) (Nat.le_of_ble_eq_true rfl) (Nat.le_of_ble_eq_true rfl) (Nat.le_of_ble_eq_true rfl) d_St_init_7 (fun q1 cA H hK2 hP hD hS => ?_)
  obtain rfl := (ja_p (i := 0) rfl hK2).symm
  have hP : va_P D j_cl [(h0, .inr (4, [.null, .null, .null, .null, .int 0])), (q1, .inl (cI, 6, .inl (fun _ => 0)))] H := hP
  have hD : va_D A [(h0, .inr (4, [.null, .null, .null, .null, .int 0])), (q1, .inl (cI, 6, .inl (fun _ => 0)))] := hD
  refine va_putF (D := D) (ci := 4) (v := .ref q1) (ty := (.array .int)) (C := jR_St) (T := jF_St) (N := 5) hx hb hts ji_St jt_St jt_St_ok jn_St hown hK hP hD hS 0 rfl rfl 0 (by decide) (hts _ (jw_1 (List.mem_of_getElem? (i := 142) rfl) rfl)) (fun _ h9 => h9) rfl hin rfl (by decide +kernel) rfl rfl (Nat.le_of_ble_eq_true rfl) d_St_init_9 (fun H locs hP hD hS => ?_)
  have hP : va_P D j_cl [(h0, .inr (4, [.ref q1, .null, .null, .null, .int 0])), (q1, .inl (cI, 6, .inl (fun _ => 0)))] H := hP
  have hD : va_D A [(h0, .inr (4, [.ref q1, .null, .null, .null, .int 0])), (q1, .inl (cI, 6, .inl (fun _ => 0)))] := hD
  refine lv_aload_n hx hb d_St_init_12 rfl (lv_at hl 0 rfl) ?_
  refine lv_bipush (v := 6) hx hb d_St_init_13 (by decide) ?_
  refine va_newa (D := D) (atype := .int) (a0 := (6, .inl (fun _ => 0))) hx hb (hts (.arrayClass .int) (jw_1 (List.mem_of_getElem? (i := 83) rfl) rfl)) (ty := .int) rfl hK hP hD hS hA (N' := 6) (fun _ => rfl) (by decide) (by decide) (Nat.le_of_ble_eq_true rfl) (Nat.le_of_ble_eq_true rfl) (Nat.le_of_ble_eq_true rfl) d_St_init_15 (fun q2 cA H hK2 hP hD hS => ?_)
  obtain rfl := (ja_p (i := 0) rfl hK2).symm
  have hP : va_P D j_cl [(h0, .inr (4, [.ref q1, .null, .null, .null, .int 0])), (q1, .inl (cI, 6, .inl (fun _ => 0))), (q2, .inl (cI, 6, .inl (fun _ => 0)))] H := hP
  have hD : va_D A [(h0, .inr (4, [.ref q1, .null, .null, .null, .int 0])), (q1, .inl (cI, 6, .inl (fun _ => 0))), (q2, .inl (cI, 6, .inl (fun _ => 0)))] := hD
  refine va_putF (D := D) (ci := 4) (v := .ref q2) (ty := (.array .int)) (C := jR_St) (T := jF_St) (N := 5) hx hb hts ji_St jt_St jt_St_ok jn_St hown hK hP hD hS 0 rfl rfl 1 (by decide) (hts _ (jw_1 (List.mem_of_getElem? (i := 144) rfl) rfl)) (fun _ h9 => h9) rfl hin rfl (by decide +kernel) rfl rfl (Nat.le_of_ble_eq_true rfl) d_St_init_17 (fun H locs hP hD hS => ?_)
  have hP : va_P D j_cl [(h0, .inr (4, [.ref q1, .ref q2, .null, .null, .int 0])), (q1, .inl (cI, 6, .inl (fun _ => 0))), (q2, .inl (cI, 6, .inl (fun _ => 0)))] H := hP
  have hD : va_D A [(h0, .inr (4, [.ref q1, .ref q2, .null, .null, .int 0])), (q1, .inl (cI, 6, .inl (fun _ => 0))), (q2, .inl (cI, 6, .inl (fun _ => 0)))] := hD
  refine lv_aload_n hx hb d_St_init_20 rfl (lv_at hl 0 rfl) ?_
  refine lv_bipush (v := 6) hx hb d_St_init_21 (by decide) ?_
  refine va_newa (D := D) (atype := .int) (a0 := (6, .inl (fun _ => 0))) hx hb (hts (.arrayClass .int) (jw_1 (List.mem_of_getElem? (i := 83) rfl) rfl)) (ty := .int) rfl hK hP hD hS hA (N' := 6) (fun _ => rfl) (by decide) (by decide) (Nat.le_of_ble_eq_true rfl) (Nat.le_of_ble_eq_true rfl) (Nat.le_of_ble_eq_true rfl) d_St_init_23 (fun q3 cA H hK2 hP hD hS => ?_)
  obtain rfl := (ja_p (i := 0) rfl hK2).symm
  have hP : va_P D j_cl [(h0, .inr (4, [.ref q1, .ref q2, .null, .null, .int 0])), (q1, .inl (cI, 6, .inl (fun _ => 0))), (q2, .inl (cI, 6, .inl (fun _ => 0))), (q3, .inl (cI, 6, .inl (fun _ => 0)))] H := hP
  have hD : va_D A [(h0, .inr (4, [.ref q1, .ref q2, .null, .null, .int 0])), (q1, .inl (cI, 6, .inl (fun _ => 0))), (q2, .inl (cI, 6, .inl (fun _ => 0))), (q3, .inl (cI, 6, .inl (fun _ => 0)))] := hD
  refine va_putF (D := D) (ci := 4) (v := .ref q3) (ty := (.array .int)) (C := jR_St) (T := jF_St) (N := 5) hx hb hts ji_St jt_St jt_St_ok jn_St hown hK hP hD hS 0 rfl rfl 2 (by decide) (hts _ (jw_1 (List.mem_of_getElem? (i := 146) rfl) rfl)) (fun _ h9 => h9) rfl hin rfl (by decide +kernel) rfl rfl (Nat.le_of_ble_eq_true rfl) d_St_init_25 (fun H locs hP hD hS => ?_)
  have hP : va_P D j_cl [(h0, .inr (4, [.ref q1, .ref q2, .ref q3, .null, .int 0])), (q1, .inl (cI, 6, .inl (fun _ => 0))), (q2, .inl (cI, 6, .inl (fun _ => 0))), (q3, .inl (cI, 6, .inl (fun _ => 0)))] H := hP
  have hD : va_D A [(h0, .inr (4, [.ref q1, .ref q2, .ref q3, .null, .int 0])), (q1, .inl (cI, 6, .inl (fun _ => 0))), (q2, .inl (cI, 6, .inl (fun _ => 0))), (q3, .inl (cI, 6, .inl (fun _ => 0)))] := hD
  refine lv_aload_n hx hb d_St_init_28 rfl (lv_at hl 0 rfl) ?_
  refine lv_bipush (v := 6) hx hb d_St_init_29 (by decide) ?_
  refine va_newa (D := D) (atype := .int) (a0 := (6, .inl (fun _ => 0))) hx hb (hts (.arrayClass .int) (jw_1 (List.mem_of_getElem? (i := 83) rfl) rfl)) (ty := .int) rfl hK hP hD hS hA (N' := 6) (fun _ => rfl) (by decide) (by decide) (Nat.le_of_ble_eq_true rfl) (Nat.le_of_ble_eq_true rfl) (Nat.le_of_ble_eq_true rfl) d_St_init_31 (fun q4 cA H hK2 hP hD hS => ?_)
  obtain rfl := (ja_p (i := 0) rfl hK2).symm
  have hP : va_P D j_cl [(h0, .inr (4, [.ref q1, .ref q2, .ref q3, .null, .int 0])), (q1, .inl (cI, 6, .inl (fun _ => 0))), (q2, .inl (cI, 6, .inl (fun _ => 0))), (q3, .inl (cI, 6, .inl (fun _ => 0))), (q4, .inl (cI, 6, .inl (fun _ => 0)))] H := hP
  have hD : va_D A [(h0, .inr (4, [.ref q1, .ref q2, .ref q3, .null, .int 0])), (q1, .inl (cI, 6, .inl (fun _ => 0))), (q2, .inl (cI, 6, .inl (fun _ => 0))), (q3, .inl (cI, 6, .inl (fun _ => 0))), (q4, .inl (cI, 6, .inl (fun _ => 0)))] := hD
  refine va_putF (D := D) (ci := 4) (v := .ref q4) (ty := (.array .int)) (C := jR_St) (T := jF_St) (N := 5) hx hb hts ji_St jt_St jt_St_ok jn_St hown hK hP hD hS 0 rfl rfl 3 (by decide) (hts _ (jw_1 (List.mem_of_getElem? (i := 148) rfl) rfl)) (fun _ h9 => h9) rfl hin rfl (by decide +kernel) rfl rfl (Nat.le_of_ble_eq_true rfl) d_St_init_33 (fun H locs hP hD hS => ?_)
  have hP : va_P D j_cl [(h0, .inr (4, [.ref q1, .ref q2, .ref q3, .ref q4, .int 0])), (q1, .inl (cI, 6, .inl (fun _ => 0))), (q2, .inl (cI, 6, .inl (fun _ => 0))), (q3, .inl (cI, 6, .inl (fun _ => 0))), (q4, .inl (cI, 6, .inl (fun _ => 0)))] H := hP
  have hD : va_D A [(h0, .inr (4, [.ref q1, .ref q2, .ref q3, .ref q4, .int 0])), (q1, .inl (cI, 6, .inl (fun _ => 0))), (q2, .inl (cI, 6, .inl (fun _ => 0))), (q3, .inl (cI, 6, .inl (fun _ => 0))), (q4, .inl (cI, 6, .inl (fun _ => 0)))] := hD
  exact W.vret hx hb hr (fun t ht hW => ⟨⟨(), rfl, trivial, [(h0, .inr (4, [.ref q1, .ref q2, .ref q3, .ref q4, .int 0])), (q1, .inl (cI, 6, .inl (fun _ => 0))), (q2, .inl (cI, 6, .inl (fun _ => 0))), (q3, .inl (cI, 6, .inl (fun _ => 0))), (q4, .inl (cI, 6, .inl (fun _ => 0)))], ⟨q1, q2, q3, q4, rfl⟩, by rw [ht]; exact hP, va_K.moved hW.alike hK, hD⟩, hS.F ht⟩) hS.2.2 d_St_init_36
abbrev m_Me_init : jj_M := (⟨"VerifiedCode$Method", "<init>", "()V"⟩, prog_5_method_1_code, 1, none)
theorem d_Me_init_0 : decode m_Me_init.2.1 0 = .ok (.aload_n 0, 1) := by decide +kernel
theorem d_Me_init_1 : decode m_Me_init.2.1 1 = .ok (.invokespecial 3, 3) := by decide +kernel
theorem d_Me_init_4 : decode m_Me_init.2.1 4 = .ok (.aload_n 0, 1) := by decide +kernel
theorem d_Me_init_5 : decode m_Me_init.2.1 5 = .ok (.bipush 8, 2) := by decide +kernel
theorem d_Me_init_7 : decode m_Me_init.2.1 7 = .ok (.newarray .int, 2) := by decide +kernel
theorem d_Me_init_9 : decode m_Me_init.2.1 9 = .ok (.putfield 9, 3) := by decide +kernel
theorem d_Me_init_12 : decode m_Me_init.2.1 12 = .ok (.return_, 1) := by decide +kernel
set_option maxHeartbeats 8000000 in
set_option maxRecDepth 100000 in
theorem i_Me {d : Nat} (l : Launch) (D : va_G) (cI cZ cM cS : ClassId) (h0 sz : Nat) : ja_Met l D (ja_T cI cZ cM cS) m_Me_init (d + 1) 1 8 h0 [(h0, .inr (2, [.int 0, .int 0, .int 0, .int 0, .int 0, .int 0, .int 0, .int 0, .null]))] sz (fun ws => ∃ q1 : Nat, ws = [(h0, .inr (2, [.int 0, .int 0, .int 0, .int 0, .int 0, .int 0, .int 0, .int 0, .ref q1])), (q1, .inl (cI, 8, .inl (fun _ => 0)))]) := by
  refine Met.ofW (cc := m_Me_init.2.1) (maxL := 1) (ret := none) rfl rfl ?_
  intro p e s m args below meth c s₁ B hml hv
  obtain ⟨rfl, hsz, hP, hK, hD0, hw, hao⟩ := hv
  have hx := B.exec
  have hb := B.bytes
  have hr := B.returns
  have hlocks := B.notSynchronized
  have hts : ∀ w ∈ j_W, w.before _ s = true := fun w h => hw w h ([Value.ref h0] : List Value).toArray s (jj_wrefl s)
  have hown : s.vm.findClass "VerifiedCode$Method" = some m.cls := findClass_of_methodNamed B.named
  have hin : meth.name = "<init>" := (name_of_methodNamed B.named B.method).1
  subst hsz
  have hD := hD0.self (sz := s.heap.size)
  generalize hAe : va_A [(h0, .inr (2, [.int 0, .int 0, .int 0, .int 0, .int 0, .int 0, .int 0, .int 0, .null]))] s.heap.size = A at hD ⊢
  have hA : ∀ q : Nat, s.heap.size ≤ q → A q := fun q h => by rw [← hAe]; exact Or.inr h
  have hS : va_S A s.heap s.heap [] := va_S.rf
  have hP : va_P D j_cl [(h0, .inr (2, [.int 0, .int 0, .int 0, .int 0, .int 0, .int 0, .int 0, .int 0, .null]))] s.heap := hP
  have hl := lv_entry ([.ref h0]) (n := 1) (Nat.le_of_ble_eq_true rfl)
  rw [lg_entry_eq]
  generalize (lg_sl ([.ref h0]) ++ List.replicate (1 - (lg_sl ([.ref h0])).length) Slot.unset).toArray = ls at hl ⊢
  have hl : lv_has ls 1 [(0, .ref h0)] := hl
  refine lv_aload_n hx hb d_Me_init_0 rfl (lv_at hl 0 rfl) ?_
  refine W.objInit hx hb hown (hts (.methodLink "VerifiedCode$Method" 3 Lib.objectInit) (jw_1 (List.mem_of_getElem? (i := 38) rfl) rfl)) (hts (.instanceMethod Lib.objectInit) (jw_1 (List.mem_of_getElem? (i := 24) rfl) rfl)) (hts (.code Lib.objectInit ⟨#[0xb1]⟩ 1 none) (jw_1 (List.mem_of_getElem? (i := 25) rfl) rfl)) rfl (by rw [hml]; exact hl.1) rfl d_Me_init_1 (Nat.le_of_ble_eq_true rfl) (Nat.le_of_ble_eq_true rfl) ?_
  refine W.eq (g2 := F0 m 4 ls []) rfl ?_
  refine lv_aload_n hx hb d_Me_init_4 rfl (lv_at hl 0 rfl) ?_
  refine lv_bipush (v := 8) hx hb d_Me_init_5 (by decide) ?_
  refine va_newa (D := D) (atype := .int) (a0 := (8, .inl (fun _ => 0))) hx hb (hts (.arrayClass .int) (jw_1 (List.mem_of_getElem? (i := 83) rfl) rfl)) (ty := .int) rfl hK hP hD hS hA (N' := 8) (fun _ => rfl) (by decide) (by decide) (Nat.le_of_ble_eq_true rfl) (Nat.le_of_ble_eq_true rfl) (Nat.le_of_ble_eq_true rfl) d_Me_init_7 (fun q1 cA H hK2 hP hD hS => ?_)
  obtain rfl := (ja_p (i := 0) rfl hK2).symm
  have hP : va_P D j_cl [(h0, .inr (2, [.int 0, .int 0, .int 0, .int 0, .int 0, .int 0, .int 0, .int 0, .null])), (q1, .inl (cI, 8, .inl (fun _ => 0)))] H := hP
  have hD : va_D A [(h0, .inr (2, [.int 0, .int 0, .int 0, .int 0, .int 0, .int 0, .int 0, .int 0, .null])), (q1, .inl (cI, 8, .inl (fun _ => 0)))] := hD
  refine va_putF (D := D) (ci := 2) (v := .ref q1) (ty := (.array .int)) (C := jR_Me) (T := jF_Me) (N := 9) hx hb hts ji_Me jt_Me jt_Me_ok jn_Me hown hK hP hD hS 0 rfl rfl 8 (by decide) (hts _ (jw_1 (List.mem_of_getElem? (i := 61) rfl) rfl)) (fun _ h9 => h9) rfl hin rfl (by decide +kernel) rfl rfl (Nat.le_of_ble_eq_true rfl) d_Me_init_9 (fun H locs hP hD hS => ?_)
  have hP : va_P D j_cl [(h0, .inr (2, [.int 0, .int 0, .int 0, .int 0, .int 0, .int 0, .int 0, .int 0, .ref q1])), (q1, .inl (cI, 8, .inl (fun _ => 0)))] H := hP
  have hD : va_D A [(h0, .inr (2, [.int 0, .int 0, .int 0, .int 0, .int 0, .int 0, .int 0, .int 0, .ref q1])), (q1, .inl (cI, 8, .inl (fun _ => 0)))] := hD
  exact W.vret hx hb hr (fun t ht hW => ⟨⟨(), rfl, trivial, [(h0, .inr (2, [.int 0, .int 0, .int 0, .int 0, .int 0, .int 0, .int 0, .int 0, .ref q1])), (q1, .inl (cI, 8, .inl (fun _ => 0)))], ⟨q1, rfl⟩, by rw [ht]; exact hP, va_K.moved hW.alike hK, hD⟩, hS.F ht⟩) hS.2.2 d_Me_init_12
abbrev m_Rd_init : jj_M := (⟨"VerifiedCode$Reader", "<init>", "()V"⟩, prog_7_method_1_code, 1, none)
theorem d_Rd_init_0 : decode m_Rd_init.2.1 0 = .ok (.aload_n 0, 1) := by decide +kernel
theorem d_Rd_init_1 : decode m_Rd_init.2.1 1 = .ok (.invokespecial 3, 3) := by decide +kernel
theorem d_Rd_init_4 : decode m_Rd_init.2.1 4 = .ok (.aload_n 0, 1) := by decide +kernel
theorem d_Rd_init_5 : decode m_Rd_init.2.1 5 = .ok (.bipush 60, 2) := by decide +kernel
theorem d_Rd_init_7 : decode m_Rd_init.2.1 7 = .ok (.newarray .boolean, 2) := by decide +kernel
theorem d_Rd_init_9 : decode m_Rd_init.2.1 9 = .ok (.putfield 9, 3) := by decide +kernel
theorem d_Rd_init_12 : decode m_Rd_init.2.1 12 = .ok (.return_, 1) := by decide +kernel
set_option maxHeartbeats 8000000 in
set_option maxRecDepth 100000 in
theorem i_Rd {d : Nat} (l : Launch) (D : va_G) (cI cZ cM cS : ClassId) (h0 sz : Nat) : ja_Met l D (ja_T cI cZ cM cS) m_Rd_init (d + 1) 1 60 h0 [(h0, .inr (3, [.int 0, .int 0, .null]))] sz (fun ws => ∃ q1 : Nat, ws = [(h0, .inr (3, [.int 0, .int 0, .ref q1])), (q1, .inl (cZ, 60, .inl (fun _ => 0)))]) := by
  refine Met.ofW (cc := m_Rd_init.2.1) (maxL := 1) (ret := none) rfl rfl ?_
  intro p e s m args below meth c s₁ B hml hv
  obtain ⟨rfl, hsz, hP, hK, hD0, hw, hao⟩ := hv
  have hx := B.exec
  have hb := B.bytes
  have hr := B.returns
  have hlocks := B.notSynchronized
  have hts : ∀ w ∈ j_W, w.before _ s = true := fun w h => hw w h ([Value.ref h0] : List Value).toArray s (jj_wrefl s)
  have hown : s.vm.findClass "VerifiedCode$Reader" = some m.cls := findClass_of_methodNamed B.named
  have hin : meth.name = "<init>" := (name_of_methodNamed B.named B.method).1
  subst hsz
  have hD := hD0.self (sz := s.heap.size)
  generalize hAe : va_A [(h0, .inr (3, [.int 0, .int 0, .null]))] s.heap.size = A at hD ⊢
  have hA : ∀ q : Nat, s.heap.size ≤ q → A q := fun q h => by rw [← hAe]; exact Or.inr h
  have hS : va_S A s.heap s.heap [] := va_S.rf
  have hP : va_P D j_cl [(h0, .inr (3, [.int 0, .int 0, .null]))] s.heap := hP
  have hl := lv_entry ([.ref h0]) (n := 1) (Nat.le_of_ble_eq_true rfl)
  rw [lg_entry_eq]
  generalize (lg_sl ([.ref h0]) ++ List.replicate (1 - (lg_sl ([.ref h0])).length) Slot.unset).toArray = ls at hl ⊢
  have hl : lv_has ls 1 [(0, .ref h0)] := hl
  refine lv_aload_n hx hb d_Rd_init_0 rfl (lv_at hl 0 rfl) ?_
  refine W.objInit hx hb hown (hts (.methodLink "VerifiedCode$Reader" 3 Lib.objectInit) (jw_1 (List.mem_of_getElem? (i := 117) rfl) rfl)) (hts (.instanceMethod Lib.objectInit) (jw_1 (List.mem_of_getElem? (i := 24) rfl) rfl)) (hts (.code Lib.objectInit ⟨#[0xb1]⟩ 1 none) (jw_1 (List.mem_of_getElem? (i := 25) rfl) rfl)) rfl (by rw [hml]; exact hl.1) rfl d_Rd_init_1 (Nat.le_of_ble_eq_true rfl) (Nat.le_of_ble_eq_true rfl) ?_
  refine W.eq (g2 := F0 m 4 ls []) rfl ?_
  refine lv_aload_n hx hb d_Rd_init_4 rfl (lv_at hl 0 rfl) ?_
  refine lv_bipush (v := 60) hx hb d_Rd_init_5 (by decide) ?_
  refine va_newa (D := D) (atype := .boolean) (a0 := (60, .inl (fun _ => 0))) hx hb (hts (.arrayClass .boolean) (jw_1 (List.mem_of_getElem? (i := 129) rfl) rfl)) (ty := .boolean) rfl hK hP hD hS hA (N' := 60) (fun _ => rfl) (by decide) (by decide) (Nat.le_of_ble_eq_true rfl) (Nat.le_of_ble_eq_true rfl) (Nat.le_of_ble_eq_true rfl) d_Rd_init_7 (fun q1 cA H hK2 hP hD hS => ?_)
  obtain rfl := (ja_p (i := 1) rfl hK2).symm
  have hP : va_P D j_cl [(h0, .inr (3, [.int 0, .int 0, .null])), (q1, .inl (cZ, 60, .inl (fun _ => 0)))] H := hP
  have hD : va_D A [(h0, .inr (3, [.int 0, .int 0, .null])), (q1, .inl (cZ, 60, .inl (fun _ => 0)))] := hD
  refine va_putF (D := D) (ci := 3) (v := .ref q1) (ty := (.array .boolean)) (C := jR_Rd) (T := jF_Rd) (N := 3) hx hb hts ji_Rd jt_Rd jt_Rd_ok jn_Rd hown hK hP hD hS 0 rfl rfl 2 (by decide) (hts _ (jw_1 (List.mem_of_getElem? (i := 121) rfl) rfl)) (fun _ h9 => h9) rfl hin rfl (by decide +kernel) rfl rfl (Nat.le_of_ble_eq_true rfl) d_Rd_init_9 (fun H locs hP hD hS => ?_)
  have hP : va_P D j_cl [(h0, .inr (3, [.int 0, .int 0, .ref q1])), (q1, .inl (cZ, 60, .inl (fun _ => 0)))] H := hP
  have hD : va_D A [(h0, .inr (3, [.int 0, .int 0, .ref q1])), (q1, .inl (cZ, 60, .inl (fun _ => 0)))] := hD
  exact W.vret hx hb hr (fun t ht hW => ⟨⟨(), rfl, trivial, [(h0, .inr (3, [.int 0, .int 0, .ref q1])), (q1, .inl (cZ, 60, .inl (fun _ => 0)))], ⟨q1, rfl⟩, by rw [ht]; exact hP, va_K.moved hW.alike hK, hD⟩, hS.F ht⟩) hS.2.2 d_Rd_init_12
