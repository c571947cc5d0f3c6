/-! the law calls its helpers -/
section JLH
variable {X : jj_X} {cL : ClassId} {s0 : State} {p : Program} {e : Env} {R : Room} {s : State} {m : MethodId} {args : Array Value} {below : List Frame} {meth : Method} {c : Code} {H : Heap} {locs : List Loc} {cells slots : Nat} {Q : State → Prop} {cc : ByteArray} {nL d pc : Nat} {ls : Array Slot} {own : String} {N : jl_H} {x : jj_Mem} {f : Nat → Int64} {post : Int32 → jj_Mem → (Nat → Int64) → Prop}
def jl_ch (own : String) (idx : Nat) (N : jl_H) (n : Nat) : Prop := Cond.initialized N.1.cls ∈ j_W ∧ Cond.codeWith N.1 N.2.1 N.2.2.1 (some .int) N.2.2.2 ∈ j_W ∧ (N.1.cls ≠ "java/lang/invoke/MethodHandle" ∧ N.1.cls ≠ "java/lang/invoke/VarHandle" ∧ (parseMethodDescriptor N.1.desc).map (fun d => d.parameters.length) = some n) ∧ N.2.2.1 ≤ 21 ∧ Cond.methodLink own idx N.1 ∈ j_W ∧ Cond.static N.1 ∈ j_W
theorem jl_callH {idx n : Nat} {av rest stk : List Value} (F : jl_fx p m c cc nL s args own R (d + 1)) (h : jl_ok X cL s0 s) (hP : va_P X.2.2.1 Y0.2.2.1 (jl_w X cL x f) H) (hS : va_S (jl_A X) s.heap H locs) (hls : ls.size = nL) (hM : jl_Met X cL s0 d N av x f post) (hd : decode cc pc = .ok (.invokestatic idx, 3)) (hk : jl_ch own idx N n) (hn : av.length = n) (hst : stk = av.reverse ++ rest) (hroom : (rest.map fun v => v.category).sum ≤ 8) (hf : cells + 1 ≤ R.cells ∧ slots + 6 ≤ R.slots)
    (kk : ∀ (k : Int32) (x' : jj_Mem) (f' : Nat → Int64) (H1 : Heap) (locs1 : List Loc), post k x' f' → va_P X.2.2.1 Y0.2.2.1 (jl_w X cL x' f') H1 → va_S (jl_A X) s.heap H1 locs1 → W p X.1 e R s m args below meth c H1 locs1 (cells + 1) (slots + 6) Q (F0 m (pc + 3) ls (.int k :: rest))) : W p X.1 e R s m args below meth c H locs cells slots Q (F0 m pc ls stk) := by
  obtain ⟨hK, hw, hz, hok, hO, ho, he⟩ := id h
  obtain ⟨⟨hx, hb, hml, hown, hts⟩, hfr, hlo⟩ := F
  obtain ⟨k1, k2, k3, k4, k5, k6⟩ := hk
  have hblind : FrameBlind (va_Pc av (fun U => va_P X.2.2.1 Y0.2.2.1 (jl_w X cL x f) U.heap ∧ jl_ok X cL s0 U)) := by
    intro a U g mk z
    obtain ⟨z0, z1, q1, q2, q3, q4, q5, q6⟩ := z
    exact ⟨z0, z1, va_K.moved (u := U) (U := U.calling g mk a) (Vm.Alike.refl U.vm) q1, fun w hw2 a2 V hV => q2 w hw2 a2 V (State.WarmedH.of_rootvm (s := U.calling g mk a) (u := U) rfl hV), q3, q4, ⟨q5.1, q5.2⟩, q6⟩
  have hB : Back X.1 R p e below s args N.1 3 8 (PreOf R 1 6 (va_Pc av (fun U => va_P X.2.2.1 Y0.2.2.1 (jl_w X cL x f) U.heap ∧ jl_ok X cL s0 U))) (PostOf (jl_Q X cL post) 1 6 (jl_A X)) :=
    va_backW (hh := N.2.2.2) (bytes := N.2.1) (maxL := N.2.2.1) (ret := some .int) hM hblind rfl rfl hfr (by show 8 + (N.2.2.1 + 11) + 40 * d ≤ R.locals; omega) (fun w hw2 a' U hW => by
      rw [List.mem_singleton.mp hw2]
      exact hw _ k2 a' U hW) (List.mem_singleton.mpr rfl) (fun a' U hW => hw _ k1 a' U hW)
  intro T hT Z
  obtain ⟨mk, methM, cM, hnamed, hmethM, -, -, -, -, -, -, hsigM⟩ := Cond.codeWith_spec (hts _ k2)
  have hstatic : methM.isStatic = true := Cond.static_spec hnamed hmethM (hts _ k6)
  obtain ⟨kP, hkP, -⟩ := className_of_methodNamed hnamed
  have hinitP : kP.init = .initialized := Cond.initialized_spec (findClass_of_methodNamed hnamed) hkP (hts _ k1)
  have hlen : av.length = methM.sig.parameters.length := by
    have q2 := k3.2.2
    rw [hsigM] at q2
    rw [hn]
    exact (Option.some.inj q2).symm
  obtain ⟨vm₁, X₁, hstep₁⟩ := Z.invokestatic hx hown (hts _ k5) hnamed hmethM hstatic hkP hinitP ⟨k3.1, k3.2.1⟩ (g := F0 m pc ls stk) rfl (argsL := av) (rest := rest) hlen hst (by rw [hb]; exact hd)
  have hpre : PreOf R 1 6 (va_Pc av (fun U => va_P X.2.2.1 Y0.2.2.1 (jl_w X cL x f) U.heap ∧ jl_ok X cL s0 U)) ⟨T.setVm vm₁, locs, cells, slots⟩ av.toArray := by
    refine ⟨hf.1, hf.2, rfl, ?_, ?_⟩
    · show va_P _ _ _ T.heap
      rw [hT]
      exact hP
    · have hj := jl_in (U := T.setVm vm₁) h hP hS hT X₁.warmed
      exact ⟨va_K.moved X₁.warmed.alike hK, hj.1.2.2.1, hj.1.2.2.2.1.1, hok, hj.2, ho, he⟩
  obtain ⟨v, ⟨U', l2, c2, s2⟩, X', ⟨g', mk', t, L, e1, e2, hq, h1, hL, h2, h3⟩, hsteps⟩ := hB m meth c ⟨T.setVm vm₁, locs, cells, slots⟩ { F0 m pc ls stk with stack := rest } (.invokestatic idx) mk av.toArray X₁ rfl (hls.trans hml.symm) (by rw [hb]; exact hd) (lv_room hroom) (X₁.named hnamed) hpre
  dsimp only [Pt.U, Pt.locs, Pt.cells, Pt.slots] at X' e1 e2 h1 h2 h3 hsteps
  subst h1; subst h2; subst h3
  obtain ⟨⟨k, x', f', hv, hp, hPt, hKt⟩, hz1, hk1⟩ := hq
  cases hv
  have hst0 : ((T.setVm vm₁).calling g' mk' av.toArray).heap = H := hT
  have hz2 : H.size ≤ t.heap.size := by rw [← hst0]; exact hz1
  have hk2 : ∀ q : Nat, q < H.size → ¬ jl_A X q → t.heap[q]? = H[q]? := fun q a1 a2 => by
    have := hk1 q (by rw [hst0]; exact a1) a2
    rw [hst0] at this
    exact this
  have hS' : va_S (jl_A X) s.heap U'.heap (locs ++ L) := ⟨Nat.le_trans hS.1 (by rw [e1]; exact hz2), fun q a1 a2 => by rw [e1, hk2 q (Nat.lt_of_lt_of_le a1 hS.1) a2]; exact hS.2.1 q a1 a2, fun q hq => by
      rcases List.mem_append.mp hq with h | h
      · exact hS.2.2 q h
      · exact hL q h⟩
  obtain ⟨t2, a1, b1⟩ := kk k x' f' U'.heap (locs ++ L) hp (by rw [e1]; exact hPt) hS' U' rfl X'
  exact ⟨t2, hstep₁ _ (fun acts => by rw [doInvoke_state]; exact hsteps.trans a1), b1⟩
end JLH
/-! the contracts of the roads that throw -/
section JEZ
variable {X : jj_X} {d : Nat} {x : jj_Mem} {s0 : State} {args0 : Array Value} {P : Nat} {p0 : Int64} {b0 b1 b2 b3 : Int32}
theorem z_type1 (hB : je_base s0 args0) (hT : je_str s0) (htr : X.1.stackTraces = false) (h : b0 < 1 ∨ ¬ b0 ≤ 8) : je_Met X s0 (d + 6) m_VC_type [.ref 0, .long p0, .int b0] x je_A := je_met 1 rfl (Nat.le_of_ble_eq_true rfl) rfl (e_type1 hB hT htr h)
theorem z_type2 (hB : je_base s0 args0) (hT : je_str s0) (htr : X.1.stackTraces = false) (h1 : ¬ b0 < 1) (h2 : b0 ≤ 8) (h3 : ¬ x 0 1 + b0 ≤ 240) : je_Met X s0 (d + 6) m_VC_type [.ref 0, .long p0, .int b0] x je_S := je_met 1 rfl (Nat.le_of_ble_eq_true rfl) rfl (e_type2 rfl hB hT htr h1 h2 h3)
theorem z_poke1 (hB : je_base s0 args0) (hT : je_str s0) (htr : X.1.stackTraces = false) (h : b0 < 0 ∨ ¬ b0 < x 0 1) : je_Met X s0 (d + 6) m_VC_poke [.ref 0, .int b0, .int b1] x je_B := je_met 0 rfl (Nat.le_of_ble_eq_true rfl) rfl (e_poke1 rfl hB hT htr h)
theorem z_poke2 (hB : je_base s0 args0) (hT : je_str s0) (htr : X.1.stackTraces = false) (h1 : ¬ b0 < 0) (h2 : b0 < x 0 1) (h : b1 < 0 ∨ ¬ b1 ≤ 255) : je_Met X s0 (d + 6) m_VC_poke [.ref 0, .int b0, .int b1] x je_A := je_met 0 rfl (Nat.le_of_ble_eq_true rfl) rfl (e_poke2 rfl hB hT htr h1 h2 h)
theorem z_byteAt1 (hB : je_base s0 args0) (hT : je_str s0) (htr : X.1.stackTraces = false) (h : b0 < 0 ∨ ¬ b0 < x 0 1) : je_Met X s0 (d + 6) m_VC_byteAt [.ref 0, .int b0] x je_B := je_met 0 rfl (Nat.le_of_ble_eq_true rfl) rfl (e_byteAt1 rfl hB hT htr h)
theorem z_write1 (hB : je_base s0 args0) (hT : je_str s0) (htr : X.1.stackTraces = false) (hq : Int32.toNatClampNeg (x 0 2) = P) (hP : o_Pr P) (h : x P 4 = 0) : je_Met X s0 (d + 6) m_VC_write [.ref 0] x je_S := je_met 0 rfl (Nat.le_of_ble_eq_true rfl) rfl (e_write1 rfl hB hT htr hq hP h)
theorem z_check1 (hB : je_base s0 args0) (hT : je_str s0) (htr : X.1.stackTraces = false) (hq : Int32.toNatClampNeg (x 0 2) = P) (hP : o_Pr P) (h : x P 4 = 0) : je_Met X s0 (d + 6) m_VC_check [.ref 0, .int b0] x je_S := je_met 0 rfl (Nat.le_of_ble_eq_true rfl) rfl (e_check1 rfl hB hT htr hq hP h)
theorem z_check2 (hB : je_base s0 args0) (hT : je_str s0) (htr : X.1.stackTraces = false) (hq : Int32.toNatClampNeg (x 0 2) = P) (hP : o_Pr P) (h0 : ¬ x P 4 = 0) (h : b0 < 0 ∨ ¬ b0 < x P 4) : je_Met X s0 (d + 6) m_VC_check [.ref 0, .int b0] x je_A := je_met 0 rfl (Nat.le_of_ble_eq_true rfl) rfl (e_check2 rfl hB hT htr hq hP h0 h)
theorem z_run1 (hB : je_base s0 args0) (hT : je_str s0) (htr : X.1.stackTraces = false) (hq : Int32.toNatClampNeg (x 0 2) = P) (hP : o_Pr P) (h : x P 4 = 0) : je_Met X s0 (d + 6) m_VC_run [.ref 0, .int b0, .int b1, .int b2, .int b3] x je_S := je_met 0 rfl (Nat.le_of_ble_eq_true rfl) rfl (e_run1 rfl hB hT htr hq hP h)
theorem z_run2 (hB : je_base s0 args0) (hT : je_str s0) (htr : X.1.stackTraces = false) (hq : Int32.toNatClampNeg (x 0 2) = P) (hP : o_Pr P) (h0 : ¬ x P 4 = 0) (h : b0 < 0 ∨ ¬ b0 < x P 4) : je_Met X s0 (d + 6) m_VC_run [.ref 0, .int b0, .int b1, .int b2, .int b3] x je_A := je_met 0 rfl (Nat.le_of_ble_eq_true rfl) rfl (e_run2 rfl hB hT htr hq hP h0 h)
end JEZ
