def R_law : String := "VerifiedCodeLaw"
def lw_P (b : Addr) (xs : List Int32) (args : Array Value) (s : State) : Prop := args = #[.ref b] ∧ s.IntsAt b xs ∧ xs.length ≤ 2560 ∧ (Jvm.Cond.and given_1 narrow_1).before args s = true
def lw_Q (_ : Array Value) (s : State) (o : Outcome) (t : State) : Prop := o = .returned (some (.int 1)) ∧ Framed s o t [] 601024 7293034
def lw_Z (below : List Frame) (a : Array Value) (s : State) : State → Prop := fun t => ∃ o, t.status = .running ∧ Ended t below o ∧ lw_Q a s o t
/-- the law's own end, with 1 on the stack, nothing written that was there before, its room as the claim has it -/
theorem lw_ret {p : Program} {l : Launch} {e : Env} {s : State} {m : MethodId} {below : List Frame} {meth : Method} {c : Code} {b : Nat} (hx : p.tables.exec = Jvm.exec) (hb : c.code = code) (hr : meth.sig.returnType = ret) (hlocks : meth.locks = false) {pc : Nat} {H : Heap} {ls : Array Slot} (hdg : decode code pc = .ok (.ireturn, 1)) : W p l e room_1 s m #[Value.ref b] below meth c H [] 601024 7293034 (lw_Z below #[Value.ref b] s) (F0 m pc ls [.int 1]) := by
  intro T hT X
  obtain ⟨fs, hret, hrun, hended, hW, hframe⟩ := X.leave (v := some (.int 1)) (hlocks := hlocks) (fun h => by rw [hr] at h; cases h)
  have hmeth' : T.vm.method? m = some meth := X.method'
  refine ⟨T.setFrames fs, ?_, .returned (some (.int 1)), hrun, hended, rfl, ⟨_, rfl⟩, hW, hframe⟩
  jvm_step X.here [X.here.top, hx, hb, hdg, hmeth', hr, ret, narrow_b1]
  (try refine ⟨rfl, ?_⟩); (try refine ⟨rfl, ?_⟩)
  first | (intro acts; rw [hret _ acts rfl rfl rfl]) | rw [hret _ _ rfl rfl rfl]
  exact Steps.refl _
/-- what holds at the law's entry: the machine, the code, the tables' words (any of lw_tbl by 'hts w (by decide +kernel)'), the script of L ints xs at the cell b, what the Statement gives of the start (any of its parts by flat_of_before) -/
def lw_At (p : Program) (s : State) (m : MethodId) (meth : Method) (c : Code) (b L : Nat) (xs : Nat → Int32) : Prop :=
  p.tables.exec = Jvm.exec ∧ c.code = code ∧ meth.sig.returnType = ret ∧ c.maxLocals = 7 ∧ s.vm.findClass R_law = some m.cls ∧ (∀ w ∈ lw_tbl, w.before #[Value.ref b] s = true) ∧ va_X b L xs s s.heap ∧ b < s.heap.size ∧ meth.locks = false ∧ (Jvm.Cond.and given_1 narrow_1).before #[Value.ref b] s = true
/-! what is asked of the object's and of the reference's functions: Rel is kept, and the answers are the same -/
section SIM
variable (Rel : jj_Mem → Prop) (x : jj_Mem)
def S_type (p0 : Int64) (b0 : Int32) : Prop := ∃ (k r b : Int32) (x1 x2 : jj_Mem), ((k = 0 ∧ f_VC_type 0 p0 b0 x = some (r, x1)) ∨ (k = 1 ∧ x1 = x ∧ (b0 < 1 ∨ ¬ b0 ≤ 8)) ∨ (k = 2 ∧ x1 = x ∧ ¬ b0 < 1 ∧ b0 ≤ 8 ∧ ¬ x 0 1 + b0 ≤ 240)) ∧ f_Mo_type 58 p0 b0 x1 = some (b, x2) ∧ x2 58 0 = k ∧ (k = 0 → r = b) ∧ Rel x2
def S_poke (b0 b1 : Int32) : Prop := ∃ (k : Int32) (x1 x2 : jj_Mem), ((k = 0 ∧ f_VC_poke 0 b0 b1 x = some x1) ∨ (k = 1 ∧ x1 = x ∧ (b0 < 0 ∨ ¬ b0 < x 0 1)) ∨ (k = 2 ∧ x1 = x ∧ ¬ b0 < 0 ∧ b0 < x 0 1 ∧ (b1 < 0 ∨ ¬ b1 ≤ 255))) ∧ f_Mo_poke 58 b0 b1 x1 = some x2 ∧ x2 58 0 = k ∧ Rel x2
def S_byteAt (b0 : Int32) : Prop := ∃ (k r b : Int32) (x1 x2 : jj_Mem), ((k = 0 ∧ f_VC_byteAt 0 b0 x = some (r, x1)) ∨ (k = 1 ∧ x1 = x ∧ (b0 < 0 ∨ ¬ b0 < x 0 1))) ∧ f_Mo_byteAt 58 b0 x1 = some (b, x2) ∧ x2 58 0 = k ∧ (k = 0 → r = b) ∧ Rel x2
def S_write : Prop := ∃ (k r b : Int32) (x1 x2 : jj_Mem), ((k = 0 ∧ f_VC_write 0 x = some (r, x1)) ∨ (k = 1 ∧ x1 = x ∧ o_Pr (Int32.toNatClampNeg (x 0 2)) ∧ x (Int32.toNatClampNeg (x 0 2)) 4 = 0)) ∧ f_Mo_write 58 x1 = some (b, x2) ∧ x2 58 0 = k ∧ (k = 0 → r = b) ∧ Rel x2
def S_check (b0 : Int32) : Prop := ∃ (k r b : Int32) (x1 x2 : jj_Mem), ((k = 0 ∧ f_VC_check 0 b0 x = some (r, x1)) ∨ (k = 1 ∧ x1 = x ∧ o_Pr (Int32.toNatClampNeg (x 0 2)) ∧ x (Int32.toNatClampNeg (x 0 2)) 4 = 0) ∨ (k = 2 ∧ x1 = x ∧ o_Pr (Int32.toNatClampNeg (x 0 2)) ∧ ¬ x (Int32.toNatClampNeg (x 0 2)) 4 = 0 ∧ (b0 < 0 ∨ ¬ b0 < x (Int32.toNatClampNeg (x 0 2)) 4))) ∧ f_Mo_check 58 b0 x1 = some (b, x2) ∧ x2 58 0 = k ∧ (k = 0 → r = b) ∧ Rel x2
def S_run (b0 b1 b2 b3 : Int32) : Prop := ∃ (k r b : Int32) (x1 x2 : jj_Mem), ((k = 0 ∧ f_VC_run 0 b0 b1 b2 b3 x = some (r, x1)) ∨ (k = 1 ∧ x1 = x ∧ o_Pr (Int32.toNatClampNeg (x 0 2)) ∧ x (Int32.toNatClampNeg (x 0 2)) 4 = 0) ∨ (k = 2 ∧ x1 = x ∧ o_Pr (Int32.toNatClampNeg (x 0 2)) ∧ ¬ x (Int32.toNatClampNeg (x 0 2)) 4 = 0 ∧ (b0 < 0 ∨ ¬ b0 < x (Int32.toNatClampNeg (x 0 2)) 4))) ∧ f_Mo_run 58 b0 b1 b2 b3 x1 = some (b, x2) ∧ x2 58 0 = k ∧ (k = 0 → r = b) ∧ Rel x2
def S_clear : Prop := ∃ (x1 x2 : jj_Mem), f_VC_clear 0 x = some x1 ∧ f_Mo_clear 58 x1 = some x2 ∧ Rel x2
def S_size : Prop := ∃ (r : Int32) (x1 x2 : jj_Mem), f_VC_size 0 x = some (r, x1) ∧ f_Mo_size 58 x1 = some (r, x2) ∧ Rel x2
def S_read : Prop := ∃ (r : Int32) (x1 x2 : jj_Mem), f_VC_read 0 x = some (r, x1) ∧ f_Mo_read 58 x1 = some (r, x2) ∧ Rel x2
def S_methods : Prop := ∃ (r : Int32) (x1 x2 : jj_Mem), f_VC_methods 0 x = some (r, x1) ∧ f_Mo_methods 58 x1 = some (r, x2) ∧ Rel x2
def S_result : Prop := ∃ (r : Int32) (x1 x2 : jj_Mem), f_VC_result 0 x = some (r, x1) ∧ f_Mo_result 58 x1 = some (r, x2) ∧ Rel x2
def S_steps : Prop := ∃ (r : Int32) (x1 x2 : jj_Mem), f_VC_steps 0 x = some (r, x1) ∧ f_Mo_steps 58 x1 = some (r, x2) ∧ Rel x2
end SIM
def Sim (Rel : jj_Mem → Prop) : Prop := ∀ x, Rel x → (∀ p0 b0, S_type Rel x p0 b0) ∧ (∀ b0 b1, S_poke Rel x b0 b1) ∧ S_size Rel x ∧ (∀ b0, S_byteAt Rel x b0) ∧ S_clear Rel x ∧ S_read Rel x ∧ S_write Rel x ∧ S_methods Rel x ∧ (∀ b0, S_check Rel x b0) ∧ (∀ b0 b1 b2 b3, S_run Rel x b0 b1 b2 b3) ∧ S_result Rel x ∧ S_steps Rel x
theorem jl_Met.mono {X : jj_X} {cL : ClassId} {s0 : State} {d : Nat} {N : jl_H} {av : List Value} {x : jj_Mem} {f : Nat → Int64} {post post' : Int32 → jj_Mem → (Nat → Int64) → Prop} (h : jl_Met X cL s0 d N av x f post) (hp : ∀ k x' f', post k x' f' → post' k x' f') : jl_Met X cL s0 d N av x f post' := by
  intro p e h1 h2 h3 s m args below h4 h5 h6 h7
  obtain ⟨n, o, a1, a2, a3, ⟨⟨⟨k, x', f', b1, b2, b3⟩, b4⟩, b5⟩⟩ := h p e h1 h2 h3 s m args below h4 h5 h6 h7
  exact ⟨n, o, a1, a2, a3, ⟨⟨⟨k, x', f', b1, hp _ _ _ b2, b3⟩, b4⟩, b5⟩⟩
theorem jl_cmp0 (a : Int64) : lg_cmp a a = 0 := by simp [lg_cmp]
theorem jl_thrown (x : jj_Mem) : f_Mo_thrown 58 x = some (x 58 0, x) := rfl
/-- the law's frame -/
def jl_G (X : jj_X) (cL : ClassId) (p : Program) (s : State) (m : MethodId) (c : Code) (b L : Nat) (xs : Nat → Int32) : Prop := jl_fx p m c code 7 s #[Value.ref b] "VerifiedCodeLaw" room_1 9 ∧ jl_ok X cL s s ∧ va_X b L xs s s.heap ∧ b < s.heap.size ∧ je_base s #[Value.ref b] ∧ je_str s ∧ je_nots s #[Value.ref b] ∧ X.1.stackTraces = false
theorem ch_type : jl_ch "VerifiedCodeLaw" 44 h_type 4 := ⟨(jw_1 (List.mem_of_getElem? (i := 0) rfl) rfl), (jw_2 (List.mem_of_getElem? (i := 100) rfl) rfl), ⟨by decide, by decide, by decide +kernel⟩, by decide, (jw_2 (List.mem_of_getElem? (i := 98) rfl) rfl), (jw_2 (List.mem_of_getElem? (i := 99) rfl) rfl)⟩
theorem ch_poke : jl_ch "VerifiedCodeLaw" 53 h_poke 3 := ⟨(jw_1 (List.mem_of_getElem? (i := 0) rfl) rfl), (jw_2 (List.mem_of_getElem? (i := 193) rfl) rfl), ⟨by decide, by decide, by decide +kernel⟩, by decide, (jw_2 (List.mem_of_getElem? (i := 191) rfl) rfl), (jw_2 (List.mem_of_getElem? (i := 192) rfl) rfl)⟩
theorem ch_byteAt : jl_ch "VerifiedCodeLaw" 61 h_byteAt 3 := ⟨(jw_1 (List.mem_of_getElem? (i := 0) rfl) rfl), (jw_2 (List.mem_of_getElem? (i := 218) rfl) rfl), ⟨by decide, by decide, by decide +kernel⟩, by decide, (jw_2 (List.mem_of_getElem? (i := 216) rfl) rfl), (jw_2 (List.mem_of_getElem? (i := 217) rfl) rfl)⟩
theorem ch_write : jl_ch "VerifiedCodeLaw" 73 h_write 2 := ⟨(jw_1 (List.mem_of_getElem? (i := 0) rfl) rfl), (jw_2 (List.mem_of_getElem? (i := 225) rfl) rfl), ⟨by decide, by decide, by decide +kernel⟩, by decide, (jw_2 (List.mem_of_getElem? (i := 223) rfl) rfl), (jw_2 (List.mem_of_getElem? (i := 224) rfl) rfl)⟩
theorem ch_check : jl_ch "VerifiedCodeLaw" 81 h_check 3 := ⟨(jw_1 (List.mem_of_getElem? (i := 0) rfl) rfl), (jw_2 (List.mem_of_getElem? (i := 234) rfl) rfl), ⟨by decide, by decide, by decide +kernel⟩, by decide, (jw_2 (List.mem_of_getElem? (i := 232) rfl) rfl), (jw_2 (List.mem_of_getElem? (i := 233) rfl) rfl)⟩
theorem ch_run : jl_ch "VerifiedCodeLaw" 84 h_run 6 := ⟨(jw_1 (List.mem_of_getElem? (i := 0) rfl) rfl), (jw_3 (List.mem_of_getElem? (i := 162) rfl) rfl), ⟨by decide, by decide, by decide +kernel⟩, by decide, (jw_3 (List.mem_of_getElem? (i := 160) rfl) rfl), (jw_3 (List.mem_of_getElem? (i := 161) rfl) rfl)⟩
theorem cmL_Mo_type : jj_cm Y0 m_Mo_type 2 := ⟨(jw_1 (List.mem_of_getElem? (i := 8) rfl) rfl), (jw_4 (List.mem_of_getElem? (i := 120) rfl) rfl), ⟨by decide, by decide, by decide +kernel⟩, by decide⟩
theorem ckL_49 : jj_cv Y0 "VerifiedCodeLaw" 49 m_Mo_type 2 := ⟨cmL_Mo_type, (jw_4 (List.mem_of_getElem? (i := 117) rfl) rfl), (jw_4 (List.mem_of_getElem? (i := 118) rfl) rfl), (jw_4 (List.mem_of_getElem? (i := 119) rfl) rfl)⟩
theorem cmL_Mo_thrown : jj_cm Y0 m_Mo_thrown 0 := ⟨(jw_1 (List.mem_of_getElem? (i := 8) rfl) rfl), (jw_4 (List.mem_of_getElem? (i := 116) rfl) rfl), ⟨by decide, by decide, by decide +kernel⟩, by decide⟩
theorem ckL_50 : jj_cv Y0 "VerifiedCodeLaw" 50 m_Mo_thrown 0 := ⟨cmL_Mo_thrown, (jw_4 (List.mem_of_getElem? (i := 113) rfl) rfl), (jw_4 (List.mem_of_getElem? (i := 114) rfl) rfl), (jw_4 (List.mem_of_getElem? (i := 115) rfl) rfl)⟩
theorem cmL_Mo_poke : jj_cm Y0 m_Mo_poke 2 := ⟨(jw_1 (List.mem_of_getElem? (i := 8) rfl) rfl), (jw_4 (List.mem_of_getElem? (i := 127) rfl) rfl), ⟨by decide, by decide, by decide +kernel⟩, by decide⟩
theorem ckL_56 : jj_cv Y0 "VerifiedCodeLaw" 56 m_Mo_poke 2 := ⟨cmL_Mo_poke, (jw_4 (List.mem_of_getElem? (i := 124) rfl) rfl), (jw_4 (List.mem_of_getElem? (i := 125) rfl) rfl), (jw_4 (List.mem_of_getElem? (i := 126) rfl) rfl)⟩
theorem cmL_VC_size : jj_cm Y0 m_VC_size 0 := ⟨(jw_1 (List.mem_of_getElem? (i := 1) rfl) rfl), (jw_1 (List.mem_of_getElem? (i := 233) rfl) rfl), ⟨by decide, by decide, by decide +kernel⟩, by decide⟩
theorem ckL_57 : jj_cv Y0 "VerifiedCodeLaw" 57 m_VC_size 0 := ⟨cmL_VC_size, (jw_1 (List.mem_of_getElem? (i := 230) rfl) rfl), (jw_1 (List.mem_of_getElem? (i := 231) rfl) rfl), (jw_1 (List.mem_of_getElem? (i := 232) rfl) rfl)⟩
theorem cmL_Mo_size : jj_cm Y0 m_Mo_size 0 := ⟨(jw_1 (List.mem_of_getElem? (i := 8) rfl) rfl), (jw_4 (List.mem_of_getElem? (i := 131) rfl) rfl), ⟨by decide, by decide, by decide +kernel⟩, by decide⟩
theorem ckL_60 : jj_cv Y0 "VerifiedCodeLaw" 60 m_Mo_size 0 := ⟨cmL_Mo_size, (jw_4 (List.mem_of_getElem? (i := 128) rfl) rfl), (jw_4 (List.mem_of_getElem? (i := 129) rfl) rfl), (jw_4 (List.mem_of_getElem? (i := 130) rfl) rfl)⟩
theorem cmL_Mo_byteAt : jj_cm Y0 m_Mo_byteAt 1 := ⟨(jw_1 (List.mem_of_getElem? (i := 8) rfl) rfl), (jw_4 (List.mem_of_getElem? (i := 135) rfl) rfl), ⟨by decide, by decide, by decide +kernel⟩, by decide⟩
theorem ckL_64 : jj_cv Y0 "VerifiedCodeLaw" 64 m_Mo_byteAt 1 := ⟨cmL_Mo_byteAt, (jw_4 (List.mem_of_getElem? (i := 132) rfl) rfl), (jw_4 (List.mem_of_getElem? (i := 133) rfl) rfl), (jw_4 (List.mem_of_getElem? (i := 134) rfl) rfl)⟩
theorem cmL_VC_clear : jj_cm Y0 m_VC_clear 0 := ⟨(jw_1 (List.mem_of_getElem? (i := 1) rfl) rfl), (jw_1 (List.mem_of_getElem? (i := 237) rfl) rfl), ⟨by decide, by decide, by decide +kernel⟩, by decide⟩
theorem ckL_65 : jj_cv Y0 "VerifiedCodeLaw" 65 m_VC_clear 0 := ⟨cmL_VC_clear, (jw_1 (List.mem_of_getElem? (i := 234) rfl) rfl), (jw_1 (List.mem_of_getElem? (i := 235) rfl) rfl), (jw_1 (List.mem_of_getElem? (i := 236) rfl) rfl)⟩
theorem cmL_Mo_clear : jj_cm Y0 m_Mo_clear 0 := ⟨(jw_1 (List.mem_of_getElem? (i := 8) rfl) rfl), (jw_4 (List.mem_of_getElem? (i := 139) rfl) rfl), ⟨by decide, by decide, by decide +kernel⟩, by decide⟩
theorem ckL_68 : jj_cv Y0 "VerifiedCodeLaw" 68 m_Mo_clear 0 := ⟨cmL_Mo_clear, (jw_4 (List.mem_of_getElem? (i := 136) rfl) rfl), (jw_4 (List.mem_of_getElem? (i := 137) rfl) rfl), (jw_4 (List.mem_of_getElem? (i := 138) rfl) rfl)⟩
theorem cmL_VC_read : jj_cm Y0 m_VC_read 0 := ⟨(jw_1 (List.mem_of_getElem? (i := 1) rfl) rfl), (jw_2 (List.mem_of_getElem? (i := 1) rfl) rfl), ⟨by decide, by decide, by decide +kernel⟩, by decide⟩
theorem ckL_69 : jj_cv Y0 "VerifiedCodeLaw" 69 m_VC_read 0 := ⟨cmL_VC_read, (jw_1 (List.mem_of_getElem? (i := 238) rfl) rfl), (jw_1 (List.mem_of_getElem? (i := 239) rfl) rfl), (jw_2 (List.mem_of_getElem? (i := 0) rfl) rfl)⟩
theorem cmL_Mo_read : jj_cm Y0 m_Mo_read 0 := ⟨(jw_1 (List.mem_of_getElem? (i := 8) rfl) rfl), (jw_4 (List.mem_of_getElem? (i := 143) rfl) rfl), ⟨by decide, by decide, by decide +kernel⟩, by decide⟩
theorem ckL_72 : jj_cv Y0 "VerifiedCodeLaw" 72 m_Mo_read 0 := ⟨cmL_Mo_read, (jw_4 (List.mem_of_getElem? (i := 140) rfl) rfl), (jw_4 (List.mem_of_getElem? (i := 141) rfl) rfl), (jw_4 (List.mem_of_getElem? (i := 142) rfl) rfl)⟩
theorem cmL_Mo_write : jj_cm Y0 m_Mo_write 0 := ⟨(jw_1 (List.mem_of_getElem? (i := 8) rfl) rfl), (jw_4 (List.mem_of_getElem? (i := 187) rfl) rfl), ⟨by decide, by decide, by decide +kernel⟩, by decide⟩
theorem ckL_76 : jj_cv Y0 "VerifiedCodeLaw" 76 m_Mo_write 0 := ⟨cmL_Mo_write, (jw_4 (List.mem_of_getElem? (i := 184) rfl) rfl), (jw_4 (List.mem_of_getElem? (i := 185) rfl) rfl), (jw_4 (List.mem_of_getElem? (i := 186) rfl) rfl)⟩
theorem cmL_VC_methods : jj_cm Y0 m_VC_methods 0 := ⟨(jw_1 (List.mem_of_getElem? (i := 1) rfl) rfl), (jw_2 (List.mem_of_getElem? (i := 89) rfl) rfl), ⟨by decide, by decide, by decide +kernel⟩, by decide⟩
theorem ckL_77 : jj_cv Y0 "VerifiedCodeLaw" 77 m_VC_methods 0 := ⟨cmL_VC_methods, (jw_2 (List.mem_of_getElem? (i := 86) rfl) rfl), (jw_2 (List.mem_of_getElem? (i := 87) rfl) rfl), (jw_2 (List.mem_of_getElem? (i := 88) rfl) rfl)⟩
theorem cmL_Mo_methods : jj_cm Y0 m_Mo_methods 0 := ⟨(jw_1 (List.mem_of_getElem? (i := 8) rfl) rfl), (jw_4 (List.mem_of_getElem? (i := 191) rfl) rfl), ⟨by decide, by decide, by decide +kernel⟩, by decide⟩
theorem ckL_80 : jj_cv Y0 "VerifiedCodeLaw" 80 m_Mo_methods 0 := ⟨cmL_Mo_methods, (jw_4 (List.mem_of_getElem? (i := 188) rfl) rfl), (jw_4 (List.mem_of_getElem? (i := 189) rfl) rfl), (jw_4 (List.mem_of_getElem? (i := 190) rfl) rfl)⟩
theorem cmL_Mo_check : jj_cm Y0 m_Mo_check 1 := ⟨(jw_1 (List.mem_of_getElem? (i := 8) rfl) rfl), (jw_4 (List.mem_of_getElem? (i := 199) rfl) rfl), ⟨by decide, by decide, by decide +kernel⟩, by decide⟩
theorem ckL_83 : jj_cv Y0 "VerifiedCodeLaw" 83 m_Mo_check 1 := ⟨cmL_Mo_check, (jw_4 (List.mem_of_getElem? (i := 196) rfl) rfl), (jw_4 (List.mem_of_getElem? (i := 197) rfl) rfl), (jw_4 (List.mem_of_getElem? (i := 198) rfl) rfl)⟩
theorem cmL_Mo_run : jj_cm Y0 m_Mo_run 4 := ⟨(jw_1 (List.mem_of_getElem? (i := 8) rfl) rfl), (jw_5 (List.mem_of_getElem? (i := 52) rfl) rfl), ⟨by decide, by decide, by decide +kernel⟩, by decide⟩
theorem ckL_87 : jj_cv Y0 "VerifiedCodeLaw" 87 m_Mo_run 4 := ⟨cmL_Mo_run, (jw_5 (List.mem_of_getElem? (i := 49) rfl) rfl), (jw_5 (List.mem_of_getElem? (i := 50) rfl) rfl), (jw_5 (List.mem_of_getElem? (i := 51) rfl) rfl)⟩
theorem cmL_VC_result : jj_cm Y0 m_VC_result 0 := ⟨(jw_1 (List.mem_of_getElem? (i := 1) rfl) rfl), (jw_2 (List.mem_of_getElem? (i := 93) rfl) rfl), ⟨by decide, by decide, by decide +kernel⟩, by decide⟩
theorem ckL_88 : jj_cv Y0 "VerifiedCodeLaw" 88 m_VC_result 0 := ⟨cmL_VC_result, (jw_2 (List.mem_of_getElem? (i := 90) rfl) rfl), (jw_2 (List.mem_of_getElem? (i := 91) rfl) rfl), (jw_2 (List.mem_of_getElem? (i := 92) rfl) rfl)⟩
theorem cmL_Mo_result : jj_cm Y0 m_Mo_result 0 := ⟨(jw_1 (List.mem_of_getElem? (i := 8) rfl) rfl), (jw_5 (List.mem_of_getElem? (i := 99) rfl) rfl), ⟨by decide, by decide, by decide +kernel⟩, by decide⟩
theorem ckL_91 : jj_cv Y0 "VerifiedCodeLaw" 91 m_Mo_result 0 := ⟨cmL_Mo_result, (jw_5 (List.mem_of_getElem? (i := 96) rfl) rfl), (jw_5 (List.mem_of_getElem? (i := 97) rfl) rfl), (jw_5 (List.mem_of_getElem? (i := 98) rfl) rfl)⟩
theorem cmL_VC_steps : jj_cm Y0 m_VC_steps 0 := ⟨(jw_1 (List.mem_of_getElem? (i := 1) rfl) rfl), (jw_2 (List.mem_of_getElem? (i := 97) rfl) rfl), ⟨by decide, by decide, by decide +kernel⟩, by decide⟩
theorem ckL_92 : jj_cv Y0 "VerifiedCodeLaw" 92 m_VC_steps 0 := ⟨cmL_VC_steps, (jw_2 (List.mem_of_getElem? (i := 94) rfl) rfl), (jw_2 (List.mem_of_getElem? (i := 95) rfl) rfl), (jw_2 (List.mem_of_getElem? (i := 96) rfl) rfl)⟩
theorem cmL_Mo_steps : jj_cm Y0 m_Mo_steps 0 := ⟨(jw_1 (List.mem_of_getElem? (i := 8) rfl) rfl), (jw_5 (List.mem_of_getElem? (i := 103) rfl) rfl), ⟨by decide, by decide, by decide +kernel⟩, by decide⟩
theorem ckL_95 : jj_cv Y0 "VerifiedCodeLaw" 95 m_Mo_steps 0 := ⟨cmL_Mo_steps, (jw_5 (List.mem_of_getElem? (i := 100) rfl) rfl), (jw_5 (List.mem_of_getElem? (i := 101) rfl) rfl), (jw_5 (List.mem_of_getElem? (i := 102) rfl) rfl)⟩
theorem wl_long : Cond.constantLong "VerifiedCodeLaw" 42 4294967295 ∈ j_W := (jw_5 (List.mem_of_getElem? (i := 104) rfl) rfl)
set_option maxHeartbeats 2000000 in
theorem lc_type {X : jj_X} {cL : ClassId} {p : Program} {e : Env} {s : State} {m : MethodId} {below : List Frame} {meth : Method} {c : Code} {b L : Nat} {xs : Nat → Int32} {H : Heap} {locs : List Loc} {k1 k2 : Nat} {Q : State → Prop} {ls : Array Slot} {x : jj_Mem} {f : Nat → Int64} {i : Int32} {Rel : jj_Mem → Prop} (G : jl_G X cL p s m c b L xs) (hl : lv_has ls 7 [(4, .int i), (0, .ref b), (1, .ref (X.2.1 0)), (2, .ref (X.2.1 58)), (3, .ref X.2.2.2.2.2)]) (hP : va_P X.2.2.1 Y0.2.2.1 (jl_w X cL x f) H) (hS : va_S (jl_A X) s.heap H locs) (hc : k1 + 1 ≤ 601024 ∧ k2 + 6 ≤ 7293034) (hi : ∀ j : Nat, j < 5 → vp_in (i + nI j) L) (S : S_type Rel x (Int32.toInt64 (xs (Int32.toNatClampNeg (i + 1))) <<< ((32 : Int32).toInt64 &&& 63) ||| (Int32.toInt64 (xs (Int32.toNatClampNeg (i + 2))) &&& 4294967295)) (xs (Int32.toNatClampNeg (i + 3)))) (kk : ∀ (x' : jj_Mem) (f' : Nat → Int64) (H' : Heap) (locs' : List Loc) (ls' : Array Slot), Rel x' → va_P X.2.2.1 Y0.2.2.1 (jl_w X cL x' f') H' → va_S (jl_A X) s.heap H' locs' → lv_has ls' 7 [(4, .int (i + 5)), (0, .ref b), (1, .ref (X.2.1 0)), (2, .ref (X.2.1 58)), (3, .ref X.2.2.2.2.2)] → W p X.1 e room_1 s m #[Value.ref b] below meth c H' locs' (k1 + 1) (k2 + 6) Q (F0 m 23 ls' [])) : W p X.1 e room_1 s m #[Value.ref b] below meth c H locs k1 k2 Q (F0 m 100 ls []) := by
  obtain ⟨k, r, v, x1, x2, hcase, h2, h3, h4, h5⟩ := S
  obtain ⟨F, hok, hX, hbl, hB, hT, hN, htr⟩ := G
  have hx := F.1.1
  have hb := F.1.2.1
  have hown := F.1.2.2.2.1
  have hts := F.1.2.2.2.2
  have hbA : ¬ jl_A X b := by have := hok.2.2.2.2.2.2; show ¬ X.2.2.2.2.1 ≤ b; omega
  have hH : jl_Met X cL s 8 h_type [.ref (X.2.1 0), .long (Int32.toInt64 (xs (Int32.toNatClampNeg (i + 1))) <<< ((32 : Int32).toInt64 &&& 63) ||| (Int32.toInt64 (xs (Int32.toNatClampNeg (i + 2))) &&& 4294967295)), .int (xs (Int32.toNatClampNeg (i + 3))), .ref X.2.2.2.2.2] x f (fun k' x' f' => k' = k ∧ x' = x1 ∧ (k = 0 → f' 0 = r.toInt64)) := by
    rcases hcase with ⟨rfl, g1⟩ | ⟨rfl, rfl, g1⟩ | ⟨rfl, rfl, g1, g2, g3⟩
    · exact (l_type_0 (d := 1) g1).mono (fun _ _ _ z => ⟨z.1, z.2.1, fun _ => by rw [z.2.2]; rfl⟩)
    · exact (l_type_1 (d := 1) hB hN (z_type1 (d := 1) hB hT htr g1)).mono (fun _ _ _ z => ⟨z.1, z.2.1, fun q => absurd q (by decide)⟩)
    · exact (l_type_2 (d := 1) hB hN (z_type2 (d := 1) hB hT htr g1 g2 g3)).mono (fun _ _ _ z => ⟨z.1, z.2.1, fun q => absurd q (by decide)⟩)
  refine lv_aload_n hx hb d_La_law_100 rfl (lv_at hl 2 rfl) ?_
  refine lv_aload_n hx hb d_La_law_101 rfl (lv_at hl 1 rfl) ?_
  refine lv_iload hx hb d_La_law_102 (lv_at hl 0 rfl) ?_
  refine lv_iconst (v := 1) hx hb d_La_law_104 (by decide) ?_
  refine lv_iadd hx hb d_La_law_105 ?_
  refine va_sld hx hb hX hbl hbA hS (hi 1 (by decide)) d_La_law_106 ?_
  refine lv_i2l hx hb d_La_law_107 rfl ?_
  refine lv_bipush (v := 32) hx hb d_La_law_108 (by decide) ?_
  refine lv_lshl hx hb d_La_law_110 rfl ?_
  refine lv_aload_n hx hb d_La_law_111 rfl (lv_at hl 1 rfl) ?_
  refine lv_iload hx hb d_La_law_112 (lv_at hl 0 rfl) ?_
  refine lv_iconst (v := 2) hx hb d_La_law_114 (by decide) ?_
  refine lv_iadd hx hb d_La_law_115 ?_
  refine va_sld hx hb hX hbl hbA hS (hi 2 (by decide)) d_La_law_116 ?_
  refine lv_i2l hx hb d_La_law_117 rfl ?_
  refine lv_ldc2 hx hb hown (hts _ wl_long) d_La_law_118 ?_
  refine lv_land hx hb d_La_law_121 ?_
  refine lv_lor hx hb d_La_law_122 ?_
  refine lv_aload_n hx hb d_La_law_123 rfl (lv_at hl 1 rfl) ?_
  refine lv_iload hx hb d_La_law_124 (lv_at hl 0 rfl) ?_
  refine lv_iconst (v := 3) hx hb d_La_law_126 (by decide) ?_
  refine lv_iadd hx hb d_La_law_127 ?_
  refine va_sld hx hb hX hbl hbA hS (hi 3 (by decide)) d_La_law_128 ?_
  refine lv_aload_n hx hb d_La_law_129 rfl (lv_at hl 4 rfl) ?_
  refine jl_callH (d := 8) (av := [.ref (X.2.1 0), .long (Int32.toInt64 (xs (Int32.toNatClampNeg (i + 1))) <<< ((32 : Int32).toInt64 &&& 63) ||| (Int32.toInt64 (xs (Int32.toNatClampNeg (i + 2))) &&& 4294967295)), .int (xs (Int32.toNatClampNeg (i + 3))), .ref X.2.2.2.2.2]) (rest := []) F hok hP hS hl.1 hH d_La_law_130 ch_type rfl rfl (Nat.le_of_ble_eq_true rfl) hc (fun k' x' f' H1 locs1 hp hP1 hS1 => ?_)
  obtain ⟨rfl, rfl, hf0⟩ := hp
  refine lv_istore hx hb d_La_law_133 hl (by decide) rfl (fun ls hl => ?_)
  refine lv_aload_n hx hb d_La_law_135 rfl (lv_at hl 4 rfl) ?_
  refine lv_aload_n hx hb d_La_law_136 rfl (lv_at hl 2 rfl) ?_
  refine lv_iload hx hb d_La_law_137 (lv_at hl 1 rfl) ?_
  refine lv_iconst (v := 1) hx hb d_La_law_139 (by decide) ?_
  refine lv_iadd hx hb d_La_law_140 ?_
  refine va_sld hx hb hX hbl hbA hS1 (hi 1 (by decide)) d_La_law_141 ?_
  refine lv_i2l hx hb d_La_law_142 rfl ?_
  refine lv_bipush (v := 32) hx hb d_La_law_143 (by decide) ?_
  refine lv_lshl hx hb d_La_law_145 rfl ?_
  refine lv_aload_n hx hb d_La_law_146 rfl (lv_at hl 2 rfl) ?_
  refine lv_iload hx hb d_La_law_147 (lv_at hl 1 rfl) ?_
  refine lv_iconst (v := 2) hx hb d_La_law_149 (by decide) ?_
  refine lv_iadd hx hb d_La_law_150 ?_
  refine va_sld hx hb hX hbl hbA hS1 (hi 2 (by decide)) d_La_law_151 ?_
  refine lv_i2l hx hb d_La_law_152 rfl ?_
  refine lv_ldc2 hx hb hown (hts _ wl_long) d_La_law_153 ?_
  refine lv_land hx hb d_La_law_156 ?_
  refine lv_lor hx hb d_La_law_157 ?_
  refine lv_aload_n hx hb d_La_law_158 rfl (lv_at hl 2 rfl) ?_
  refine lv_iload hx hb d_La_law_159 (lv_at hl 1 rfl) ?_
  refine lv_iconst (v := 3) hx hb d_La_law_161 (by decide) ?_
  refine lv_iadd hx hb d_La_law_162 ?_
  refine va_sld hx hb hX hbl hbA hS1 (hi 3 (by decide)) d_La_law_163 ?_
  refine jl_callV (d := 8) (as := [.long (Int32.toInt64 (xs (Int32.toNatClampNeg (i + 1))) <<< ((32 : Int32).toInt64 &&& 63) ||| (Int32.toInt64 (xs (Int32.toNatClampNeg (i + 2))) &&& 4294967295)), .int (xs (Int32.toNatClampNeg (i + 3)))]) (rest := []) F hok hP1 hS1 hl.1 (c_Mo_type (d := 7) (this := 58) rfl h2) d_La_law_164 ckL_49 (sh_Mo (i := 58) rfl).2 (sh_Mo (i := 58) rfl).1 ⟨_, rfl, rfl⟩ rfl rfl (Nat.le_of_ble_eq_true rfl) ⟨hc.1, hc.2⟩ (fun r' x' H2 locs2 hp hP2 hS2 => ?_)
  obtain ⟨rfl, rfl⟩ := hp
  refine lv_istore hx hb d_La_law_167 hl (by decide) rfl (fun ls hl => ?_)
  refine lv_aload_n hx hb d_La_law_169 rfl (lv_at hl 5 rfl) ?_
  refine jl_callV (d := 8) (as := []) (rest := []) F hok hP2 hS2 hl.1 (c_Mo_thrown (d := 8) (this := 58) rfl (jl_thrown _)) d_La_law_170 ckL_50 (sh_Mo (i := 58) rfl).2 (sh_Mo (i := 58) rfl).1 ⟨_, rfl, rfl⟩ rfl rfl (Nat.le_of_ble_eq_true rfl) ⟨hc.1, hc.2⟩ (fun r' x' H3 locs3 hp hP3 hS3 => ?_)
  obtain ⟨rfl, rfl⟩ := hp
  refine lv_iload hx hb d_La_law_173 (lv_at hl 1 rfl) ?_
  refine lv_icmp_eq (tgt := 180) hx hb d_La_law_175 rfl (fun _ => ?_) (fun z => absurd h3 z)
  refine lv_iload hx hb d_La_law_180 (lv_at hl 1 rfl) ?_
  have tail : ∀ (ls : Array Slot), lv_has ls 7 [(6, .int v), (5, .int k'), (4, .int i), (0, .ref b), (1, .ref (X.2.1 0)), (2, .ref (X.2.1 58)), (3, .ref X.2.2.2.2.2)] → W p X.1 e room_1 s m #[Value.ref b] below meth c H3 locs3 (k1 + 1) (k2 + 6) Q (F0 m 197 ls []) := by
    intro ls hl
    refine lv_goto (tgt := 572) hx hb d_La_law_197 rfl ?_
    refine lv_iinc (k := 2) hx hb d_La_law_572 hl rfl rfl (by decide) rfl (fun ls hl => ?_)
    refine lv_goto (tgt := 23) hx hb d_La_law_575 rfl ?_
    exact kk _ _ _ _ _ h5 hP3 hS3 (lv_sub hl [0, 3, 4, 5, 6] rfl)
  refine lv_if_ne (tgt := 197) hx hb d_La_law_182 rfl (fun _ => tail _ hl) (fun z => ?_)
  refine lv_aload_n hx hb d_La_law_185 rfl (lv_at hl 6 rfl) ?_
  refine lv_iconst (v := 0) hx hb d_La_law_186 (by decide) ?_
  refine va_lald (D := X.2.2.1) hx hb hok.1 hP3 70 4 jl_out rfl (i := 0) (by unfold vp_in; decide) d_La_law_187 ?_
  refine lv_iload hx hb d_La_law_188 (lv_at hl 0 rfl) ?_
  refine lv_i2l hx hb d_La_law_190 rfl ?_
  refine W.lcmp hx hb d_La_law_191 ?_
  exact lv_if_eq (tgt := 197) hx hb d_La_law_192 rfl (fun _ => tail _ hl) (fun q => absurd (by rw [show (0 : Int32).toNatClampNeg = 0 from rfl, hf0 z, h4 z]; exact jl_cmp0 _) q)
set_option maxHeartbeats 2000000 in
theorem lc_poke {X : jj_X} {cL : ClassId} {p : Program} {e : Env} {s : State} {m : MethodId} {below : List Frame} {meth : Method} {c : Code} {b L : Nat} {xs : Nat → Int32} {H : Heap} {locs : List Loc} {k1 k2 : Nat} {Q : State → Prop} {ls : Array Slot} {x : jj_Mem} {f : Nat → Int64} {i : Int32} {Rel : jj_Mem → Prop} (G : jl_G X cL p s m c b L xs) (hl : lv_has ls 7 [(4, .int i), (0, .ref b), (1, .ref (X.2.1 0)), (2, .ref (X.2.1 58)), (3, .ref X.2.2.2.2.2)]) (hP : va_P X.2.2.1 Y0.2.2.1 (jl_w X cL x f) H) (hS : va_S (jl_A X) s.heap H locs) (hc : k1 + 1 ≤ 601024 ∧ k2 + 6 ≤ 7293034) (hi : ∀ j : Nat, j < 5 → vp_in (i + nI j) L) (S : S_poke Rel x (xs (Int32.toNatClampNeg (i + 1))) (xs (Int32.toNatClampNeg (i + 2)))) (kk : ∀ (x' : jj_Mem) (f' : Nat → Int64) (H' : Heap) (locs' : List Loc) (ls' : Array Slot), Rel x' → va_P X.2.2.1 Y0.2.2.1 (jl_w X cL x' f') H' → va_S (jl_A X) s.heap H' locs' → lv_has ls' 7 [(4, .int (i + 5)), (0, .ref b), (1, .ref (X.2.1 0)), (2, .ref (X.2.1 58)), (3, .ref X.2.2.2.2.2)] → W p X.1 e room_1 s m #[Value.ref b] below meth c H' locs' (k1 + 1) (k2 + 6) Q (F0 m 23 ls' [])) : W p X.1 e room_1 s m #[Value.ref b] below meth c H locs k1 k2 Q (F0 m 200 ls []) := by
  obtain ⟨k, x1, x2, hcase, h2, h3, h5⟩ := S
  obtain ⟨F, hok, hX, hbl, hB, hT, hN, htr⟩ := G
  have hx := F.1.1
  have hb := F.1.2.1
  have hown := F.1.2.2.2.1
  have hts := F.1.2.2.2.2
  have hbA : ¬ jl_A X b := by have := hok.2.2.2.2.2.2; show ¬ X.2.2.2.2.1 ≤ b; omega
  have hH : jl_Met X cL s 8 h_poke [.ref (X.2.1 0), .int (xs (Int32.toNatClampNeg (i + 1))), .int (xs (Int32.toNatClampNeg (i + 2)))] x f (fun k' x' _ => k' = k ∧ x' = x1) := by
    rcases hcase with ⟨rfl, g1⟩ | ⟨rfl, rfl, g1⟩ | ⟨rfl, rfl, g1, g2, g3⟩
    · exact (l_poke_0 (d := 1) g1).mono (fun _ _ _ z => ⟨z.1, z.2.1⟩)
    · exact (l_poke_1 (d := 1) hB hN (z_poke1 (d := 1) hB hT htr g1)).mono (fun _ _ _ z => ⟨z.1, z.2.1⟩)
    · exact (l_poke_2 (d := 1) hB hN (z_poke2 (d := 1) hB hT htr g1 g2 g3)).mono (fun _ _ _ z => ⟨z.1, z.2.1⟩)
  refine lv_aload_n hx hb d_La_law_200 rfl (lv_at hl 2 rfl) ?_
  refine lv_aload_n hx hb d_La_law_201 rfl (lv_at hl 1 rfl) ?_
  refine lv_iload hx hb d_La_law_202 (lv_at hl 0 rfl) ?_
  refine lv_iconst (v := 1) hx hb d_La_law_204 (by decide) ?_
  refine lv_iadd hx hb d_La_law_205 ?_
  refine va_sld hx hb hX hbl hbA hS (hi 1 (by decide)) d_La_law_206 ?_
  refine lv_aload_n hx hb d_La_law_207 rfl (lv_at hl 1 rfl) ?_
  refine lv_iload hx hb d_La_law_208 (lv_at hl 0 rfl) ?_
  refine lv_iconst (v := 2) hx hb d_La_law_210 (by decide) ?_
  refine lv_iadd hx hb d_La_law_211 ?_
  refine va_sld hx hb hX hbl hbA hS (hi 2 (by decide)) d_La_law_212 ?_
  refine jl_callH (d := 8) (av := [.ref (X.2.1 0), .int (xs (Int32.toNatClampNeg (i + 1))), .int (xs (Int32.toNatClampNeg (i + 2)))]) (rest := []) F hok hP hS hl.1 hH d_La_law_213 ch_poke rfl rfl (Nat.le_of_ble_eq_true rfl) hc (fun k' x' f' H1 locs1 hp hP1 hS1 => ?_)
  obtain ⟨rfl, rfl⟩ := hp
  refine lv_istore hx hb d_La_law_216 hl (by decide) rfl (fun ls hl => ?_)
  refine lv_aload_n hx hb d_La_law_218 rfl (lv_at hl 4 rfl) ?_
  refine lv_aload_n hx hb d_La_law_219 rfl (lv_at hl 2 rfl) ?_
  refine lv_iload hx hb d_La_law_220 (lv_at hl 1 rfl) ?_
  refine lv_iconst (v := 1) hx hb d_La_law_222 (by decide) ?_
  refine lv_iadd hx hb d_La_law_223 ?_
  refine va_sld hx hb hX hbl hbA hS1 (hi 1 (by decide)) d_La_law_224 ?_
  refine lv_aload_n hx hb d_La_law_225 rfl (lv_at hl 2 rfl) ?_
  refine lv_iload hx hb d_La_law_226 (lv_at hl 1 rfl) ?_
  refine lv_iconst (v := 2) hx hb d_La_law_228 (by decide) ?_
  refine lv_iadd hx hb d_La_law_229 ?_
  refine va_sld hx hb hX hbl hbA hS1 (hi 2 (by decide)) d_La_law_230 ?_
  refine jl_callV (d := 8) (as := [.int (xs (Int32.toNatClampNeg (i + 1))), .int (xs (Int32.toNatClampNeg (i + 2)))]) (rest := []) F hok hP1 hS1 hl.1 (c_Mo_poke (d := 7) (this := 58) rfl h2) d_La_law_231 ckL_56 (sh_Mo (i := 58) rfl).2 (sh_Mo (i := 58) rfl).1 ⟨_, rfl, rfl⟩ rfl rfl (Nat.le_of_ble_eq_true rfl) ⟨hc.1, hc.2⟩ (fun r' x' H2 locs2 hp hP2 hS2 => ?_)
  obtain ⟨rfl, rfl⟩ := hp
  refine lv_aload_n hx hb d_La_law_234 rfl (lv_at hl 4 rfl) ?_
  refine jl_callV (d := 8) (as := []) (rest := []) F hok hP2 hS2 hl.1 (c_Mo_thrown (d := 8) (this := 58) rfl (jl_thrown _)) d_La_law_235 ckL_50 (sh_Mo (i := 58) rfl).2 (sh_Mo (i := 58) rfl).1 ⟨_, rfl, rfl⟩ rfl rfl (Nat.le_of_ble_eq_true rfl) ⟨hc.1, hc.2⟩ (fun r' x' H3 locs3 hp hP3 hS3 => ?_)
  obtain ⟨rfl, rfl⟩ := hp
  refine lv_iload hx hb d_La_law_238 (lv_at hl 0 rfl) ?_
  refine lv_icmp_eq (tgt := 245) hx hb d_La_law_240 rfl (fun _ => ?_) (fun z => absurd h3 z)
  refine lv_goto (tgt := 572) hx hb d_La_law_245 rfl ?_
  refine lv_iinc (k := 1) hx hb d_La_law_572 hl rfl rfl (by decide) rfl (fun ls hl => ?_)
  refine lv_goto (tgt := 23) hx hb d_La_law_575 rfl ?_
  exact kk _ _ _ _ _ h5 hP3 hS3 (lv_sub hl [0, 2, 3, 4, 5] rfl)
set_option maxHeartbeats 2000000 in
theorem lc_size {X : jj_X} {cL : ClassId} {p : Program} {e : Env} {s : State} {m : MethodId} {below : List Frame} {meth : Method} {c : Code} {b L : Nat} {xs : Nat → Int32} {H : Heap} {locs : List Loc} {k1 k2 : Nat} {Q : State → Prop} {ls : Array Slot} {x : jj_Mem} {f : Nat → Int64} {i : Int32} {Rel : jj_Mem → Prop} (G : jl_G X cL p s m c b L xs) (hl : lv_has ls 7 [(4, .int i), (0, .ref b), (1, .ref (X.2.1 0)), (2, .ref (X.2.1 58)), (3, .ref X.2.2.2.2.2)]) (hP : va_P X.2.2.1 Y0.2.2.1 (jl_w X cL x f) H) (hS : va_S (jl_A X) s.heap H locs) (hc : k1 + 1 ≤ 601024 ∧ k2 + 6 ≤ 7293034) (hi : ∀ j : Nat, j < 5 → vp_in (i + nI j) L) (S : S_size Rel x ) (kk : ∀ (x' : jj_Mem) (f' : Nat → Int64) (H' : Heap) (locs' : List Loc) (ls' : Array Slot), Rel x' → va_P X.2.2.1 Y0.2.2.1 (jl_w X cL x' f') H' → va_S (jl_A X) s.heap H' locs' → lv_has ls' 7 [(4, .int (i + 5)), (0, .ref b), (1, .ref (X.2.1 0)), (2, .ref (X.2.1 58)), (3, .ref X.2.2.2.2.2)] → W p X.1 e room_1 s m #[Value.ref b] below meth c H' locs' (k1 + 1) (k2 + 6) Q (F0 m 23 ls' [])) : W p X.1 e room_1 s m #[Value.ref b] below meth c H locs k1 k2 Q (F0 m 248 ls []) := by
  obtain ⟨r, x1, x2, h1, h2, h5⟩ := S
  obtain ⟨F, hok, hX, hbl, hB, hT, hN, htr⟩ := G
  have hx := F.1.1
  have hb := F.1.2.1
  have hown := F.1.2.2.2.1
  have hts := F.1.2.2.2.2
  have hbA : ¬ jl_A X b := by have := hok.2.2.2.2.2.2; show ¬ X.2.2.2.2.1 ≤ b; omega
  refine lv_aload_n hx hb d_La_law_248 rfl (lv_at hl 2 rfl) ?_
  refine jl_callV (d := 8) (as := []) (rest := []) F hok hP hS hl.1 (c_VC_size (d := 8) (this := 0) rfl h1) d_La_law_249 ckL_57 (sh_VC (i := 0) rfl).2 (sh_VC (i := 0) rfl).1 ⟨_, rfl, rfl⟩ rfl rfl (Nat.le_of_ble_eq_true rfl) ⟨by have := hc.1; exact Nat.le_trans (Nat.le_succ _) this, Nat.le_trans (Nat.le_add_right _ 6) hc.2⟩ (fun r' x' H1 locs1 hp hP1 hS1 => ?_)
  obtain ⟨rfl, rfl⟩ := hp
  refine lv_aload_n hx hb d_La_law_252 rfl (lv_at hl 3 rfl) ?_
  refine jl_callV (d := 8) (as := []) (rest := [.int r]) F hok hP1 hS1 hl.1 (c_Mo_size (d := 8) (this := 58) rfl h2) d_La_law_253 ckL_60 (sh_Mo (i := 58) rfl).2 (sh_Mo (i := 58) rfl).1 ⟨_, rfl, rfl⟩ rfl rfl (Nat.le_of_ble_eq_true rfl) ⟨by have := hc.1; exact Nat.le_trans (Nat.le_succ _) this, Nat.le_trans (Nat.le_add_right _ 6) hc.2⟩ (fun r' x' H2 locs2 hp hP2 hS2 => ?_)
  obtain ⟨rfl, rfl⟩ := hp
  refine lv_icmp_eq (tgt := 572) hx hb d_La_law_256 rfl (fun _ => ?_) (fun z => absurd rfl z)
  refine lv_iinc (k := 0) hx hb d_La_law_572 hl rfl rfl (by decide) rfl (fun ls hl => ?_)
  refine lv_goto (tgt := 23) hx hb d_La_law_575 rfl ?_
  refine W.widen (k := k1 + 1) (n := k2 + 6) (Nat.le_succ _) (Nat.le_add_right _ 6) ?_
  exact kk _ _ _ _ _ h5 hP2 hS2 (lv_sub hl [0, 1, 2, 3, 4] rfl)
set_option maxHeartbeats 2000000 in
theorem lc_byteAt {X : jj_X} {cL : ClassId} {p : Program} {e : Env} {s : State} {m : MethodId} {below : List Frame} {meth : Method} {c : Code} {b L : Nat} {xs : Nat → Int32} {H : Heap} {locs : List Loc} {k1 k2 : Nat} {Q : State → Prop} {ls : Array Slot} {x : jj_Mem} {f : Nat → Int64} {i : Int32} {Rel : jj_Mem → Prop} (G : jl_G X cL p s m c b L xs) (hl : lv_has ls 7 [(4, .int i), (0, .ref b), (1, .ref (X.2.1 0)), (2, .ref (X.2.1 58)), (3, .ref X.2.2.2.2.2)]) (hP : va_P X.2.2.1 Y0.2.2.1 (jl_w X cL x f) H) (hS : va_S (jl_A X) s.heap H locs) (hc : k1 + 1 ≤ 601024 ∧ k2 + 6 ≤ 7293034) (hi : ∀ j : Nat, j < 5 → vp_in (i + nI j) L) (S : S_byteAt Rel x (xs (Int32.toNatClampNeg (i + 1)))) (kk : ∀ (x' : jj_Mem) (f' : Nat → Int64) (H' : Heap) (locs' : List Loc) (ls' : Array Slot), Rel x' → va_P X.2.2.1 Y0.2.2.1 (jl_w X cL x' f') H' → va_S (jl_A X) s.heap H' locs' → lv_has ls' 7 [(4, .int (i + 5)), (0, .ref b), (1, .ref (X.2.1 0)), (2, .ref (X.2.1 58)), (3, .ref X.2.2.2.2.2)] → W p X.1 e room_1 s m #[Value.ref b] below meth c H' locs' (k1 + 1) (k2 + 6) Q (F0 m 23 ls' [])) : W p X.1 e room_1 s m #[Value.ref b] below meth c H locs k1 k2 Q (F0 m 261 ls []) := by
  obtain ⟨k, r, v, x1, x2, hcase, h2, h3, h4, h5⟩ := S
  obtain ⟨F, hok, hX, hbl, hB, hT, hN, htr⟩ := G
  have hx := F.1.1
  have hb := F.1.2.1
  have hown := F.1.2.2.2.1
  have hts := F.1.2.2.2.2
  have hbA : ¬ jl_A X b := by have := hok.2.2.2.2.2.2; show ¬ X.2.2.2.2.1 ≤ b; omega
  have hH : jl_Met X cL s 8 h_byteAt [.ref (X.2.1 0), .int (xs (Int32.toNatClampNeg (i + 1))), .ref X.2.2.2.2.2] x f (fun k' x' f' => k' = k ∧ x' = x1 ∧ (k = 0 → f' 0 = r.toInt64)) := by
    rcases hcase with ⟨rfl, g1⟩ | ⟨rfl, rfl, g1⟩
    · exact (l_byteAt_0 (d := 1) g1).mono (fun _ _ _ z => ⟨z.1, z.2.1, fun _ => by rw [z.2.2]; rfl⟩)
    · exact (l_byteAt_1 (d := 1) hB hN (z_byteAt1 (d := 1) hB hT htr g1)).mono (fun _ _ _ z => ⟨z.1, z.2.1, fun q => absurd q (by decide)⟩)
  refine lv_aload_n hx hb d_La_law_261 rfl (lv_at hl 2 rfl) ?_
  refine lv_aload_n hx hb d_La_law_262 rfl (lv_at hl 1 rfl) ?_
  refine lv_iload hx hb d_La_law_263 (lv_at hl 0 rfl) ?_
  refine lv_iconst (v := 1) hx hb d_La_law_265 (by decide) ?_
  refine lv_iadd hx hb d_La_law_266 ?_
  refine va_sld hx hb hX hbl hbA hS (hi 1 (by decide)) d_La_law_267 ?_
  refine lv_aload_n hx hb d_La_law_268 rfl (lv_at hl 4 rfl) ?_
  refine jl_callH (d := 8) (av := [.ref (X.2.1 0), .int (xs (Int32.toNatClampNeg (i + 1))), .ref X.2.2.2.2.2]) (rest := []) F hok hP hS hl.1 hH d_La_law_269 ch_byteAt rfl rfl (Nat.le_of_ble_eq_true rfl) hc (fun k' x' f' H1 locs1 hp hP1 hS1 => ?_)
  obtain ⟨rfl, rfl, hf0⟩ := hp
  refine lv_istore hx hb d_La_law_272 hl (by decide) rfl (fun ls hl => ?_)
  refine lv_aload_n hx hb d_La_law_274 rfl (lv_at hl 4 rfl) ?_
  refine lv_aload_n hx hb d_La_law_275 rfl (lv_at hl 2 rfl) ?_
  refine lv_iload hx hb d_La_law_276 (lv_at hl 1 rfl) ?_
  refine lv_iconst (v := 1) hx hb d_La_law_278 (by decide) ?_
  refine lv_iadd hx hb d_La_law_279 ?_
  refine va_sld hx hb hX hbl hbA hS1 (hi 1 (by decide)) d_La_law_280 ?_
  refine jl_callV (d := 8) (as := [.int (xs (Int32.toNatClampNeg (i + 1)))]) (rest := []) F hok hP1 hS1 hl.1 (c_Mo_byteAt (d := 7) (this := 58) rfl h2) d_La_law_281 ckL_64 (sh_Mo (i := 58) rfl).2 (sh_Mo (i := 58) rfl).1 ⟨_, rfl, rfl⟩ rfl rfl (Nat.le_of_ble_eq_true rfl) ⟨hc.1, hc.2⟩ (fun r' x' H2 locs2 hp hP2 hS2 => ?_)
  obtain ⟨rfl, rfl⟩ := hp
  refine lv_istore hx hb d_La_law_284 hl (by decide) rfl (fun ls hl => ?_)
  refine lv_aload_n hx hb d_La_law_286 rfl (lv_at hl 5 rfl) ?_
  refine jl_callV (d := 8) (as := []) (rest := []) F hok hP2 hS2 hl.1 (c_Mo_thrown (d := 8) (this := 58) rfl (jl_thrown _)) d_La_law_287 ckL_50 (sh_Mo (i := 58) rfl).2 (sh_Mo (i := 58) rfl).1 ⟨_, rfl, rfl⟩ rfl rfl (Nat.le_of_ble_eq_true rfl) ⟨hc.1, hc.2⟩ (fun r' x' H3 locs3 hp hP3 hS3 => ?_)
  obtain ⟨rfl, rfl⟩ := hp
  refine lv_iload hx hb d_La_law_290 (lv_at hl 1 rfl) ?_
  refine lv_icmp_eq (tgt := 297) hx hb d_La_law_292 rfl (fun _ => ?_) (fun z => absurd h3 z)
  refine lv_iload hx hb d_La_law_297 (lv_at hl 1 rfl) ?_
  have tail : ∀ (ls : Array Slot), lv_has ls 7 [(6, .int v), (5, .int k'), (4, .int i), (0, .ref b), (1, .ref (X.2.1 0)), (2, .ref (X.2.1 58)), (3, .ref X.2.2.2.2.2)] → W p X.1 e room_1 s m #[Value.ref b] below meth c H3 locs3 (k1 + 1) (k2 + 6) Q (F0 m 314 ls []) := by
    intro ls hl
    refine lv_goto (tgt := 572) hx hb d_La_law_314 rfl ?_
    refine lv_iinc (k := 2) hx hb d_La_law_572 hl rfl rfl (by decide) rfl (fun ls hl => ?_)
    refine lv_goto (tgt := 23) hx hb d_La_law_575 rfl ?_
    exact kk _ _ _ _ _ h5 hP3 hS3 (lv_sub hl [0, 3, 4, 5, 6] rfl)
  refine lv_if_ne (tgt := 314) hx hb d_La_law_299 rfl (fun _ => tail _ hl) (fun z => ?_)
  refine lv_aload_n hx hb d_La_law_302 rfl (lv_at hl 6 rfl) ?_
  refine lv_iconst (v := 0) hx hb d_La_law_303 (by decide) ?_
  refine va_lald (D := X.2.2.1) hx hb hok.1 hP3 70 4 jl_out rfl (i := 0) (by unfold vp_in; decide) d_La_law_304 ?_
  refine lv_iload hx hb d_La_law_305 (lv_at hl 0 rfl) ?_
  refine lv_i2l hx hb d_La_law_307 rfl ?_
  refine W.lcmp hx hb d_La_law_308 ?_
  exact lv_if_eq (tgt := 314) hx hb d_La_law_309 rfl (fun _ => tail _ hl) (fun q => absurd (by rw [show (0 : Int32).toNatClampNeg = 0 from rfl, hf0 z, h4 z]; exact jl_cmp0 _) q)
set_option maxHeartbeats 2000000 in
theorem lc_clear {X : jj_X} {cL : ClassId} {p : Program} {e : Env} {s : State} {m : MethodId} {below : List Frame} {meth : Method} {c : Code} {b L : Nat} {xs : Nat → Int32} {H : Heap} {locs : List Loc} {k1 k2 : Nat} {Q : State → Prop} {ls : Array Slot} {x : jj_Mem} {f : Nat → Int64} {i : Int32} {Rel : jj_Mem → Prop} (G : jl_G X cL p s m c b L xs) (hl : lv_has ls 7 [(4, .int i), (0, .ref b), (1, .ref (X.2.1 0)), (2, .ref (X.2.1 58)), (3, .ref X.2.2.2.2.2)]) (hP : va_P X.2.2.1 Y0.2.2.1 (jl_w X cL x f) H) (hS : va_S (jl_A X) s.heap H locs) (hc : k1 + 1 ≤ 601024 ∧ k2 + 6 ≤ 7293034) (hi : ∀ j : Nat, j < 5 → vp_in (i + nI j) L) (S : S_clear Rel x ) (kk : ∀ (x' : jj_Mem) (f' : Nat → Int64) (H' : Heap) (locs' : List Loc) (ls' : Array Slot), Rel x' → va_P X.2.2.1 Y0.2.2.1 (jl_w X cL x' f') H' → va_S (jl_A X) s.heap H' locs' → lv_has ls' 7 [(4, .int (i + 5)), (0, .ref b), (1, .ref (X.2.1 0)), (2, .ref (X.2.1 58)), (3, .ref X.2.2.2.2.2)] → W p X.1 e room_1 s m #[Value.ref b] below meth c H' locs' (k1 + 1) (k2 + 6) Q (F0 m 23 ls' [])) : W p X.1 e room_1 s m #[Value.ref b] below meth c H locs k1 k2 Q (F0 m 317 ls []) := by
  obtain ⟨x1, x2, h1, h2, h5⟩ := S
  obtain ⟨F, hok, hX, hbl, hB, hT, hN, htr⟩ := G
  have hx := F.1.1
  have hb := F.1.2.1
  have hown := F.1.2.2.2.1
  have hts := F.1.2.2.2.2
  have hbA : ¬ jl_A X b := by have := hok.2.2.2.2.2.2; show ¬ X.2.2.2.2.1 ≤ b; omega
  refine lv_aload_n hx hb d_La_law_317 rfl (lv_at hl 2 rfl) ?_
  refine jl_callV (d := 8) (as := []) (rest := []) F hok hP hS hl.1 (c_VC_clear (d := 8) (this := 0) rfl h1) d_La_law_318 ckL_65 (sh_VC (i := 0) rfl).2 (sh_VC (i := 0) rfl).1 ⟨_, rfl, rfl⟩ rfl rfl (Nat.le_of_ble_eq_true rfl) ⟨by have := hc.1; exact Nat.le_trans (Nat.le_succ _) this, Nat.le_trans (Nat.le_add_right _ 6) hc.2⟩ (fun r' x' H1 locs1 hp hP1 hS1 => ?_)
  obtain ⟨rfl, rfl⟩ := hp
  refine lv_aload_n hx hb d_La_law_321 rfl (lv_at hl 3 rfl) ?_
  refine jl_callV (d := 8) (as := []) (rest := []) F hok hP1 hS1 hl.1 (c_Mo_clear (d := 8) (this := 58) rfl h2) d_La_law_322 ckL_68 (sh_Mo (i := 58) rfl).2 (sh_Mo (i := 58) rfl).1 ⟨_, rfl, rfl⟩ rfl rfl (Nat.le_of_ble_eq_true rfl) ⟨by have := hc.1; exact Nat.le_trans (Nat.le_succ _) this, Nat.le_trans (Nat.le_add_right _ 6) hc.2⟩ (fun r' x' H2 locs2 hp hP2 hS2 => ?_)
  obtain ⟨rfl, rfl⟩ := hp
  refine lv_goto (tgt := 572) hx hb d_La_law_325 rfl ?_
  refine lv_iinc (k := 0) hx hb d_La_law_572 hl rfl rfl (by decide) rfl (fun ls hl => ?_)
  refine lv_goto (tgt := 23) hx hb d_La_law_575 rfl ?_
  refine W.widen (k := k1 + 1) (n := k2 + 6) (Nat.le_succ _) (Nat.le_add_right _ 6) ?_
  exact kk _ _ _ _ _ h5 hP2 hS2 (lv_sub hl [0, 1, 2, 3, 4] rfl)
set_option maxHeartbeats 2000000 in
theorem lc_read {X : jj_X} {cL : ClassId} {p : Program} {e : Env} {s : State} {m : MethodId} {below : List Frame} {meth : Method} {c : Code} {b L : Nat} {xs : Nat → Int32} {H : Heap} {locs : List Loc} {k1 k2 : Nat} {Q : State → Prop} {ls : Array Slot} {x : jj_Mem} {f : Nat → Int64} {i : Int32} {Rel : jj_Mem → Prop} (G : jl_G X cL p s m c b L xs) (hl : lv_has ls 7 [(4, .int i), (0, .ref b), (1, .ref (X.2.1 0)), (2, .ref (X.2.1 58)), (3, .ref X.2.2.2.2.2)]) (hP : va_P X.2.2.1 Y0.2.2.1 (jl_w X cL x f) H) (hS : va_S (jl_A X) s.heap H locs) (hc : k1 + 1 ≤ 601024 ∧ k2 + 6 ≤ 7293034) (hi : ∀ j : Nat, j < 5 → vp_in (i + nI j) L) (S : S_read Rel x ) (kk : ∀ (x' : jj_Mem) (f' : Nat → Int64) (H' : Heap) (locs' : List Loc) (ls' : Array Slot), Rel x' → va_P X.2.2.1 Y0.2.2.1 (jl_w X cL x' f') H' → va_S (jl_A X) s.heap H' locs' → lv_has ls' 7 [(4, .int (i + 5)), (0, .ref b), (1, .ref (X.2.1 0)), (2, .ref (X.2.1 58)), (3, .ref X.2.2.2.2.2)] → W p X.1 e room_1 s m #[Value.ref b] below meth c H' locs' (k1 + 1) (k2 + 6) Q (F0 m 23 ls' [])) : W p X.1 e room_1 s m #[Value.ref b] below meth c H locs k1 k2 Q (F0 m 328 ls []) := by
  obtain ⟨r, x1, x2, h1, h2, h5⟩ := S
  obtain ⟨F, hok, hX, hbl, hB, hT, hN, htr⟩ := G
  have hx := F.1.1
  have hb := F.1.2.1
  have hown := F.1.2.2.2.1
  have hts := F.1.2.2.2.2
  have hbA : ¬ jl_A X b := by have := hok.2.2.2.2.2.2; show ¬ X.2.2.2.2.1 ≤ b; omega
  refine lv_aload_n hx hb d_La_law_328 rfl (lv_at hl 2 rfl) ?_
  refine jl_callV (d := 8) (as := []) (rest := []) F hok hP hS hl.1 (c_VC_read (d := 2) (this := 0) rfl h1) d_La_law_329 ckL_69 (sh_VC (i := 0) rfl).2 (sh_VC (i := 0) rfl).1 ⟨_, rfl, rfl⟩ rfl rfl (Nat.le_of_ble_eq_true rfl) ⟨by have := hc.1; exact Nat.le_trans (Nat.le_succ _) this, Nat.le_trans (Nat.le_add_right _ 6) hc.2⟩ (fun r' x' H1 locs1 hp hP1 hS1 => ?_)
  obtain ⟨rfl, rfl⟩ := hp
  refine lv_aload_n hx hb d_La_law_332 rfl (lv_at hl 3 rfl) ?_
  refine jl_callV (d := 8) (as := []) (rest := [.int r]) F hok hP1 hS1 hl.1 (c_Mo_read (d := 2) (this := 58) rfl h2) d_La_law_333 ckL_72 (sh_Mo (i := 58) rfl).2 (sh_Mo (i := 58) rfl).1 ⟨_, rfl, rfl⟩ rfl rfl (Nat.le_of_ble_eq_true rfl) ⟨by have := hc.1; exact Nat.le_trans (Nat.le_succ _) this, Nat.le_trans (Nat.le_add_right _ 6) hc.2⟩ (fun r' x' H2 locs2 hp hP2 hS2 => ?_)
  obtain ⟨rfl, rfl⟩ := hp
  refine lv_icmp_eq (tgt := 572) hx hb d_La_law_336 rfl (fun _ => ?_) (fun z => absurd rfl z)
  refine lv_iinc (k := 0) hx hb d_La_law_572 hl rfl rfl (by decide) rfl (fun ls hl => ?_)
  refine lv_goto (tgt := 23) hx hb d_La_law_575 rfl ?_
  refine W.widen (k := k1 + 1) (n := k2 + 6) (Nat.le_succ _) (Nat.le_add_right _ 6) ?_
  exact kk _ _ _ _ _ h5 hP2 hS2 (lv_sub hl [0, 1, 2, 3, 4] rfl)
set_option maxHeartbeats 2000000 in
theorem lc_write {X : jj_X} {cL : ClassId} {p : Program} {e : Env} {s : State} {m : MethodId} {below : List Frame} {meth : Method} {c : Code} {b L : Nat} {xs : Nat → Int32} {H : Heap} {locs : List Loc} {k1 k2 : Nat} {Q : State → Prop} {ls : Array Slot} {x : jj_Mem} {f : Nat → Int64} {i : Int32} {Rel : jj_Mem → Prop} (G : jl_G X cL p s m c b L xs) (hl : lv_has ls 7 [(4, .int i), (0, .ref b), (1, .ref (X.2.1 0)), (2, .ref (X.2.1 58)), (3, .ref X.2.2.2.2.2)]) (hP : va_P X.2.2.1 Y0.2.2.1 (jl_w X cL x f) H) (hS : va_S (jl_A X) s.heap H locs) (hc : k1 + 1 ≤ 601024 ∧ k2 + 6 ≤ 7293034) (hi : ∀ j : Nat, j < 5 → vp_in (i + nI j) L) (S : S_write Rel x ) (kk : ∀ (x' : jj_Mem) (f' : Nat → Int64) (H' : Heap) (locs' : List Loc) (ls' : Array Slot), Rel x' → va_P X.2.2.1 Y0.2.2.1 (jl_w X cL x' f') H' → va_S (jl_A X) s.heap H' locs' → lv_has ls' 7 [(4, .int (i + 5)), (0, .ref b), (1, .ref (X.2.1 0)), (2, .ref (X.2.1 58)), (3, .ref X.2.2.2.2.2)] → W p X.1 e room_1 s m #[Value.ref b] below meth c H' locs' (k1 + 1) (k2 + 6) Q (F0 m 23 ls' [])) : W p X.1 e room_1 s m #[Value.ref b] below meth c H locs k1 k2 Q (F0 m 341 ls []) := by
  obtain ⟨k, r, v, x1, x2, hcase, h2, h3, h4, h5⟩ := S
  obtain ⟨F, hok, hX, hbl, hB, hT, hN, htr⟩ := G
  have hx := F.1.1
  have hb := F.1.2.1
  have hown := F.1.2.2.2.1
  have hts := F.1.2.2.2.2
  have hbA : ¬ jl_A X b := by have := hok.2.2.2.2.2.2; show ¬ X.2.2.2.2.1 ≤ b; omega
  have hH : jl_Met X cL s 8 h_write [.ref (X.2.1 0), .ref X.2.2.2.2.2] x f (fun k' x' f' => k' = k ∧ x' = x1 ∧ (k = 0 → f' 0 = r.toInt64)) := by
    rcases hcase with ⟨rfl, g1⟩ | ⟨rfl, rfl, g1, g2⟩
    · exact (l_write_0 (d := 1) g1).mono (fun _ _ _ z => ⟨z.1, z.2.1, fun _ => by rw [z.2.2]; rfl⟩)
    · exact (l_write_1 (d := 1) hB hN (z_write1 (d := 1) hB hT htr rfl g1 g2)).mono (fun _ _ _ z => ⟨z.1, z.2.1, fun q => absurd q (by decide)⟩)
  refine lv_aload_n hx hb d_La_law_341 rfl (lv_at hl 2 rfl) ?_
  refine lv_aload_n hx hb d_La_law_342 rfl (lv_at hl 4 rfl) ?_
  refine jl_callH (d := 8) (av := [.ref (X.2.1 0), .ref X.2.2.2.2.2]) (rest := []) F hok hP hS hl.1 hH d_La_law_343 ch_write rfl rfl (Nat.le_of_ble_eq_true rfl) hc (fun k' x' f' H1 locs1 hp hP1 hS1 => ?_)
  obtain ⟨rfl, rfl, hf0⟩ := hp
  refine lv_istore hx hb d_La_law_346 hl (by decide) rfl (fun ls hl => ?_)
  refine lv_aload_n hx hb d_La_law_348 rfl (lv_at hl 4 rfl) ?_
  refine jl_callV (d := 8) (as := []) (rest := []) F hok hP1 hS1 hl.1 (c_Mo_write (d := 8) (this := 58) rfl h2) d_La_law_349 ckL_76 (sh_Mo (i := 58) rfl).2 (sh_Mo (i := 58) rfl).1 ⟨_, rfl, rfl⟩ rfl rfl (Nat.le_of_ble_eq_true rfl) ⟨hc.1, hc.2⟩ (fun r' x' H2 locs2 hp hP2 hS2 => ?_)
  obtain ⟨rfl, rfl⟩ := hp
  refine lv_istore hx hb d_La_law_352 hl (by decide) rfl (fun ls hl => ?_)
  refine lv_aload_n hx hb d_La_law_354 rfl (lv_at hl 5 rfl) ?_
  refine jl_callV (d := 8) (as := []) (rest := []) F hok hP2 hS2 hl.1 (c_Mo_thrown (d := 8) (this := 58) rfl (jl_thrown _)) d_La_law_355 ckL_50 (sh_Mo (i := 58) rfl).2 (sh_Mo (i := 58) rfl).1 ⟨_, rfl, rfl⟩ rfl rfl (Nat.le_of_ble_eq_true rfl) ⟨hc.1, hc.2⟩ (fun r' x' H3 locs3 hp hP3 hS3 => ?_)
  obtain ⟨rfl, rfl⟩ := hp
  refine lv_iload hx hb d_La_law_358 (lv_at hl 1 rfl) ?_
  refine lv_icmp_eq (tgt := 365) hx hb d_La_law_360 rfl (fun _ => ?_) (fun z => absurd h3 z)
  refine lv_iload hx hb d_La_law_365 (lv_at hl 1 rfl) ?_
  have tail : ∀ (ls : Array Slot), lv_has ls 7 [(6, .int v), (5, .int k'), (4, .int i), (0, .ref b), (1, .ref (X.2.1 0)), (2, .ref (X.2.1 58)), (3, .ref X.2.2.2.2.2)] → W p X.1 e room_1 s m #[Value.ref b] below meth c H3 locs3 (k1 + 1) (k2 + 6) Q (F0 m 382 ls []) := by
    intro ls hl
    refine lv_goto (tgt := 572) hx hb d_La_law_382 rfl ?_
    refine lv_iinc (k := 2) hx hb d_La_law_572 hl rfl rfl (by decide) rfl (fun ls hl => ?_)
    refine lv_goto (tgt := 23) hx hb d_La_law_575 rfl ?_
    exact kk _ _ _ _ _ h5 hP3 hS3 (lv_sub hl [0, 3, 4, 5, 6] rfl)
  refine lv_if_ne (tgt := 382) hx hb d_La_law_367 rfl (fun _ => tail _ hl) (fun z => ?_)
  refine lv_aload_n hx hb d_La_law_370 rfl (lv_at hl 6 rfl) ?_
  refine lv_iconst (v := 0) hx hb d_La_law_371 (by decide) ?_
  refine va_lald (D := X.2.2.1) hx hb hok.1 hP3 70 4 jl_out rfl (i := 0) (by unfold vp_in; decide) d_La_law_372 ?_
  refine lv_iload hx hb d_La_law_373 (lv_at hl 0 rfl) ?_
  refine lv_i2l hx hb d_La_law_375 rfl ?_
  refine W.lcmp hx hb d_La_law_376 ?_
  exact lv_if_eq (tgt := 382) hx hb d_La_law_377 rfl (fun _ => tail _ hl) (fun q => absurd (by rw [show (0 : Int32).toNatClampNeg = 0 from rfl, hf0 z, h4 z]; exact jl_cmp0 _) q)
set_option maxHeartbeats 2000000 in
theorem lc_methods {X : jj_X} {cL : ClassId} {p : Program} {e : Env} {s : State} {m : MethodId} {below : List Frame} {meth : Method} {c : Code} {b L : Nat} {xs : Nat → Int32} {H : Heap} {locs : List Loc} {k1 k2 : Nat} {Q : State → Prop} {ls : Array Slot} {x : jj_Mem} {f : Nat → Int64} {i : Int32} {Rel : jj_Mem → Prop} (G : jl_G X cL p s m c b L xs) (hl : lv_has ls 7 [(4, .int i), (0, .ref b), (1, .ref (X.2.1 0)), (2, .ref (X.2.1 58)), (3, .ref X.2.2.2.2.2)]) (hP : va_P X.2.2.1 Y0.2.2.1 (jl_w X cL x f) H) (hS : va_S (jl_A X) s.heap H locs) (hc : k1 + 1 ≤ 601024 ∧ k2 + 6 ≤ 7293034) (hi : ∀ j : Nat, j < 5 → vp_in (i + nI j) L) (S : S_methods Rel x ) (kk : ∀ (x' : jj_Mem) (f' : Nat → Int64) (H' : Heap) (locs' : List Loc) (ls' : Array Slot), Rel x' → va_P X.2.2.1 Y0.2.2.1 (jl_w X cL x' f') H' → va_S (jl_A X) s.heap H' locs' → lv_has ls' 7 [(4, .int (i + 5)), (0, .ref b), (1, .ref (X.2.1 0)), (2, .ref (X.2.1 58)), (3, .ref X.2.2.2.2.2)] → W p X.1 e room_1 s m #[Value.ref b] below meth c H' locs' (k1 + 1) (k2 + 6) Q (F0 m 23 ls' [])) : W p X.1 e room_1 s m #[Value.ref b] below meth c H locs k1 k2 Q (F0 m 385 ls []) := by
  obtain ⟨r, x1, x2, h1, h2, h5⟩ := S
  obtain ⟨F, hok, hX, hbl, hB, hT, hN, htr⟩ := G
  have hx := F.1.1
  have hb := F.1.2.1
  have hown := F.1.2.2.2.1
  have hts := F.1.2.2.2.2
  have hbA : ¬ jl_A X b := by have := hok.2.2.2.2.2.2; show ¬ X.2.2.2.2.1 ≤ b; omega
  refine lv_aload_n hx hb d_La_law_385 rfl (lv_at hl 2 rfl) ?_
  refine jl_callV (d := 8) (as := []) (rest := []) F hok hP hS hl.1 (c_VC_methods (d := 8) (this := 0) rfl h1) d_La_law_386 ckL_77 (sh_VC (i := 0) rfl).2 (sh_VC (i := 0) rfl).1 ⟨_, rfl, rfl⟩ rfl rfl (Nat.le_of_ble_eq_true rfl) ⟨by have := hc.1; exact Nat.le_trans (Nat.le_succ _) this, Nat.le_trans (Nat.le_add_right _ 6) hc.2⟩ (fun r' x' H1 locs1 hp hP1 hS1 => ?_)
  obtain ⟨rfl, rfl⟩ := hp
  refine lv_aload_n hx hb d_La_law_389 rfl (lv_at hl 3 rfl) ?_
  refine jl_callV (d := 8) (as := []) (rest := [.int r]) F hok hP1 hS1 hl.1 (c_Mo_methods (d := 7) (this := 58) rfl h2) d_La_law_390 ckL_80 (sh_Mo (i := 58) rfl).2 (sh_Mo (i := 58) rfl).1 ⟨_, rfl, rfl⟩ rfl rfl (Nat.le_of_ble_eq_true rfl) ⟨by have := hc.1; exact Nat.le_trans (Nat.le_succ _) this, Nat.le_trans (Nat.le_add_right _ 6) hc.2⟩ (fun r' x' H2 locs2 hp hP2 hS2 => ?_)
  obtain ⟨rfl, rfl⟩ := hp
  refine lv_icmp_eq (tgt := 572) hx hb d_La_law_393 rfl (fun _ => ?_) (fun z => absurd rfl z)
  refine lv_iinc (k := 0) hx hb d_La_law_572 hl rfl rfl (by decide) rfl (fun ls hl => ?_)
  refine lv_goto (tgt := 23) hx hb d_La_law_575 rfl ?_
  refine W.widen (k := k1 + 1) (n := k2 + 6) (Nat.le_succ _) (Nat.le_add_right _ 6) ?_
  exact kk _ _ _ _ _ h5 hP2 hS2 (lv_sub hl [0, 1, 2, 3, 4] rfl)
set_option maxHeartbeats 2000000 in
theorem lc_check {X : jj_X} {cL : ClassId} {p : Program} {e : Env} {s : State} {m : MethodId} {below : List Frame} {meth : Method} {c : Code} {b L : Nat} {xs : Nat → Int32} {H : Heap} {locs : List Loc} {k1 k2 : Nat} {Q : State → Prop} {ls : Array Slot} {x : jj_Mem} {f : Nat → Int64} {i : Int32} {Rel : jj_Mem → Prop} (G : jl_G X cL p s m c b L xs) (hl : lv_has ls 7 [(4, .int i), (0, .ref b), (1, .ref (X.2.1 0)), (2, .ref (X.2.1 58)), (3, .ref X.2.2.2.2.2)]) (hP : va_P X.2.2.1 Y0.2.2.1 (jl_w X cL x f) H) (hS : va_S (jl_A X) s.heap H locs) (hc : k1 + 1 ≤ 601024 ∧ k2 + 6 ≤ 7293034) (hi : ∀ j : Nat, j < 5 → vp_in (i + nI j) L) (S : S_check Rel x (xs (Int32.toNatClampNeg (i + 1)))) (kk : ∀ (x' : jj_Mem) (f' : Nat → Int64) (H' : Heap) (locs' : List Loc) (ls' : Array Slot), Rel x' → va_P X.2.2.1 Y0.2.2.1 (jl_w X cL x' f') H' → va_S (jl_A X) s.heap H' locs' → lv_has ls' 7 [(4, .int (i + 5)), (0, .ref b), (1, .ref (X.2.1 0)), (2, .ref (X.2.1 58)), (3, .ref X.2.2.2.2.2)] → W p X.1 e room_1 s m #[Value.ref b] below meth c H' locs' (k1 + 1) (k2 + 6) Q (F0 m 23 ls' [])) : W p X.1 e room_1 s m #[Value.ref b] below meth c H locs k1 k2 Q (F0 m 398 ls []) := by
  obtain ⟨k, r, v, x1, x2, hcase, h2, h3, h4, h5⟩ := S
  obtain ⟨F, hok, hX, hbl, hB, hT, hN, htr⟩ := G
  have hx := F.1.1
  have hb := F.1.2.1
  have hown := F.1.2.2.2.1
  have hts := F.1.2.2.2.2
  have hbA : ¬ jl_A X b := by have := hok.2.2.2.2.2.2; show ¬ X.2.2.2.2.1 ≤ b; omega
  have hH : jl_Met X cL s 8 h_check [.ref (X.2.1 0), .int (xs (Int32.toNatClampNeg (i + 1))), .ref X.2.2.2.2.2] x f (fun k' x' f' => k' = k ∧ x' = x1 ∧ (k = 0 → f' 0 = r.toInt64)) := by
    rcases hcase with ⟨rfl, g1⟩ | ⟨rfl, rfl, g1, g2⟩ | ⟨rfl, rfl, g1, g2, g3⟩
    · exact (l_check_0 (d := 1) g1).mono (fun _ _ _ z => ⟨z.1, z.2.1, fun _ => by rw [z.2.2]; rfl⟩)
    · exact (l_check_1 (d := 1) hB hN (z_check1 (d := 1) hB hT htr rfl g1 g2)).mono (fun _ _ _ z => ⟨z.1, z.2.1, fun q => absurd q (by decide)⟩)
    · exact (l_check_2 (d := 1) hB hN (z_check2 (d := 1) hB hT htr rfl g1 g2 g3)).mono (fun _ _ _ z => ⟨z.1, z.2.1, fun q => absurd q (by decide)⟩)
  refine lv_aload_n hx hb d_La_law_398 rfl (lv_at hl 2 rfl) ?_
  refine lv_aload_n hx hb d_La_law_399 rfl (lv_at hl 1 rfl) ?_
  refine lv_iload hx hb d_La_law_400 (lv_at hl 0 rfl) ?_
  refine lv_iconst (v := 1) hx hb d_La_law_402 (by decide) ?_
  refine lv_iadd hx hb d_La_law_403 ?_
  refine va_sld hx hb hX hbl hbA hS (hi 1 (by decide)) d_La_law_404 ?_
  refine lv_aload_n hx hb d_La_law_405 rfl (lv_at hl 4 rfl) ?_
  refine jl_callH (d := 8) (av := [.ref (X.2.1 0), .int (xs (Int32.toNatClampNeg (i + 1))), .ref X.2.2.2.2.2]) (rest := []) F hok hP hS hl.1 hH d_La_law_406 ch_check rfl rfl (Nat.le_of_ble_eq_true rfl) hc (fun k' x' f' H1 locs1 hp hP1 hS1 => ?_)
  obtain ⟨rfl, rfl, hf0⟩ := hp
  refine lv_istore hx hb d_La_law_409 hl (by decide) rfl (fun ls hl => ?_)
  refine lv_aload_n hx hb d_La_law_411 rfl (lv_at hl 4 rfl) ?_
  refine lv_aload_n hx hb d_La_law_412 rfl (lv_at hl 2 rfl) ?_
  refine lv_iload hx hb d_La_law_413 (lv_at hl 1 rfl) ?_
  refine lv_iconst (v := 1) hx hb d_La_law_415 (by decide) ?_
  refine lv_iadd hx hb d_La_law_416 ?_
  refine va_sld hx hb hX hbl hbA hS1 (hi 1 (by decide)) d_La_law_417 ?_
  refine jl_callV (d := 8) (as := [.int (xs (Int32.toNatClampNeg (i + 1)))]) (rest := []) F hok hP1 hS1 hl.1 (c_Mo_check (d := 1) (this := 58) rfl h2) d_La_law_418 ckL_83 (sh_Mo (i := 58) rfl).2 (sh_Mo (i := 58) rfl).1 ⟨_, rfl, rfl⟩ rfl rfl (Nat.le_of_ble_eq_true rfl) ⟨hc.1, hc.2⟩ (fun r' x' H2 locs2 hp hP2 hS2 => ?_)
  obtain ⟨rfl, rfl⟩ := hp
  refine lv_istore hx hb d_La_law_421 hl (by decide) rfl (fun ls hl => ?_)
  refine lv_aload_n hx hb d_La_law_423 rfl (lv_at hl 5 rfl) ?_
  refine jl_callV (d := 8) (as := []) (rest := []) F hok hP2 hS2 hl.1 (c_Mo_thrown (d := 8) (this := 58) rfl (jl_thrown _)) d_La_law_424 ckL_50 (sh_Mo (i := 58) rfl).2 (sh_Mo (i := 58) rfl).1 ⟨_, rfl, rfl⟩ rfl rfl (Nat.le_of_ble_eq_true rfl) ⟨hc.1, hc.2⟩ (fun r' x' H3 locs3 hp hP3 hS3 => ?_)
  obtain ⟨rfl, rfl⟩ := hp
  refine lv_iload hx hb d_La_law_427 (lv_at hl 1 rfl) ?_
  refine lv_icmp_eq (tgt := 434) hx hb d_La_law_429 rfl (fun _ => ?_) (fun z => absurd h3 z)
  refine lv_iload hx hb d_La_law_434 (lv_at hl 1 rfl) ?_
  have tail : ∀ (ls : Array Slot), lv_has ls 7 [(6, .int v), (5, .int k'), (4, .int i), (0, .ref b), (1, .ref (X.2.1 0)), (2, .ref (X.2.1 58)), (3, .ref X.2.2.2.2.2)] → W p X.1 e room_1 s m #[Value.ref b] below meth c H3 locs3 (k1 + 1) (k2 + 6) Q (F0 m 451 ls []) := by
    intro ls hl
    refine lv_goto (tgt := 572) hx hb d_La_law_451 rfl ?_
    refine lv_iinc (k := 2) hx hb d_La_law_572 hl rfl rfl (by decide) rfl (fun ls hl => ?_)
    refine lv_goto (tgt := 23) hx hb d_La_law_575 rfl ?_
    exact kk _ _ _ _ _ h5 hP3 hS3 (lv_sub hl [0, 3, 4, 5, 6] rfl)
  refine lv_if_ne (tgt := 451) hx hb d_La_law_436 rfl (fun _ => tail _ hl) (fun z => ?_)
  refine lv_aload_n hx hb d_La_law_439 rfl (lv_at hl 6 rfl) ?_
  refine lv_iconst (v := 0) hx hb d_La_law_440 (by decide) ?_
  refine va_lald (D := X.2.2.1) hx hb hok.1 hP3 70 4 jl_out rfl (i := 0) (by unfold vp_in; decide) d_La_law_441 ?_
  refine lv_iload hx hb d_La_law_442 (lv_at hl 0 rfl) ?_
  refine lv_i2l hx hb d_La_law_444 rfl ?_
  refine W.lcmp hx hb d_La_law_445 ?_
  exact lv_if_eq (tgt := 451) hx hb d_La_law_446 rfl (fun _ => tail _ hl) (fun q => absurd (by rw [show (0 : Int32).toNatClampNeg = 0 from rfl, hf0 z, h4 z]; exact jl_cmp0 _) q)
set_option maxHeartbeats 2000000 in
theorem lc_run {X : jj_X} {cL : ClassId} {p : Program} {e : Env} {s : State} {m : MethodId} {below : List Frame} {meth : Method} {c : Code} {b L : Nat} {xs : Nat → Int32} {H : Heap} {locs : List Loc} {k1 k2 : Nat} {Q : State → Prop} {ls : Array Slot} {x : jj_Mem} {f : Nat → Int64} {i : Int32} {Rel : jj_Mem → Prop} (G : jl_G X cL p s m c b L xs) (hl : lv_has ls 7 [(4, .int i), (0, .ref b), (1, .ref (X.2.1 0)), (2, .ref (X.2.1 58)), (3, .ref X.2.2.2.2.2)]) (hP : va_P X.2.2.1 Y0.2.2.1 (jl_w X cL x f) H) (hS : va_S (jl_A X) s.heap H locs) (hc : k1 + 1 ≤ 601024 ∧ k2 + 6 ≤ 7293034) (hi : ∀ j : Nat, j < 5 → vp_in (i + nI j) L) (S : S_run Rel x (xs (Int32.toNatClampNeg (i + 1))) (xs (Int32.toNatClampNeg (i + 2))) (xs (Int32.toNatClampNeg (i + 3))) (xs (Int32.toNatClampNeg (i + 4)))) (kk : ∀ (x' : jj_Mem) (f' : Nat → Int64) (H' : Heap) (locs' : List Loc) (ls' : Array Slot), Rel x' → va_P X.2.2.1 Y0.2.2.1 (jl_w X cL x' f') H' → va_S (jl_A X) s.heap H' locs' → lv_has ls' 7 [(4, .int (i + 5)), (0, .ref b), (1, .ref (X.2.1 0)), (2, .ref (X.2.1 58)), (3, .ref X.2.2.2.2.2)] → W p X.1 e room_1 s m #[Value.ref b] below meth c H' locs' (k1 + 1) (k2 + 6) Q (F0 m 23 ls' [])) : W p X.1 e room_1 s m #[Value.ref b] below meth c H locs k1 k2 Q (F0 m 454 ls []) := by
  obtain ⟨k, r, v, x1, x2, hcase, h2, h3, h4, h5⟩ := S
  obtain ⟨F, hok, hX, hbl, hB, hT, hN, htr⟩ := G
  have hx := F.1.1
  have hb := F.1.2.1
  have hown := F.1.2.2.2.1
  have hts := F.1.2.2.2.2
  have hbA : ¬ jl_A X b := by have := hok.2.2.2.2.2.2; show ¬ X.2.2.2.2.1 ≤ b; omega
  have hH : jl_Met X cL s 8 h_run [.ref (X.2.1 0), .int (xs (Int32.toNatClampNeg (i + 1))), .int (xs (Int32.toNatClampNeg (i + 2))), .int (xs (Int32.toNatClampNeg (i + 3))), .int (xs (Int32.toNatClampNeg (i + 4))), .ref X.2.2.2.2.2] x f (fun k' x' f' => k' = k ∧ x' = x1 ∧ (k = 0 → f' 0 = r.toInt64)) := by
    rcases hcase with ⟨rfl, g1⟩ | ⟨rfl, rfl, g1, g2⟩ | ⟨rfl, rfl, g1, g2, g3⟩
    · exact (l_run_0 (d := 1) g1).mono (fun _ _ _ z => ⟨z.1, z.2.1, fun _ => by rw [z.2.2]; rfl⟩)
    · exact (l_run_1 (d := 1) hB hN (z_run1 (d := 1) hB hT htr rfl g1 g2)).mono (fun _ _ _ z => ⟨z.1, z.2.1, fun q => absurd q (by decide)⟩)
    · exact (l_run_2 (d := 1) hB hN (z_run2 (d := 1) hB hT htr rfl g1 g2 g3)).mono (fun _ _ _ z => ⟨z.1, z.2.1, fun q => absurd q (by decide)⟩)
  refine lv_aload_n hx hb d_La_law_454 rfl (lv_at hl 2 rfl) ?_
  refine lv_aload_n hx hb d_La_law_455 rfl (lv_at hl 1 rfl) ?_
  refine lv_iload hx hb d_La_law_456 (lv_at hl 0 rfl) ?_
  refine lv_iconst (v := 1) hx hb d_La_law_458 (by decide) ?_
  refine lv_iadd hx hb d_La_law_459 ?_
  refine va_sld hx hb hX hbl hbA hS (hi 1 (by decide)) d_La_law_460 ?_
  refine lv_aload_n hx hb d_La_law_461 rfl (lv_at hl 1 rfl) ?_
  refine lv_iload hx hb d_La_law_462 (lv_at hl 0 rfl) ?_
  refine lv_iconst (v := 2) hx hb d_La_law_464 (by decide) ?_
  refine lv_iadd hx hb d_La_law_465 ?_
  refine va_sld hx hb hX hbl hbA hS (hi 2 (by decide)) d_La_law_466 ?_
  refine lv_aload_n hx hb d_La_law_467 rfl (lv_at hl 1 rfl) ?_
  refine lv_iload hx hb d_La_law_468 (lv_at hl 0 rfl) ?_
  refine lv_iconst (v := 3) hx hb d_La_law_470 (by decide) ?_
  refine lv_iadd hx hb d_La_law_471 ?_
  refine va_sld hx hb hX hbl hbA hS (hi 3 (by decide)) d_La_law_472 ?_
  refine lv_aload_n hx hb d_La_law_473 rfl (lv_at hl 1 rfl) ?_
  refine lv_iload hx hb d_La_law_474 (lv_at hl 0 rfl) ?_
  refine lv_iconst (v := 4) hx hb d_La_law_476 (by decide) ?_
  refine lv_iadd hx hb d_La_law_477 ?_
  refine va_sld hx hb hX hbl hbA hS (hi 4 (by decide)) d_La_law_478 ?_
  refine lv_aload_n hx hb d_La_law_479 rfl (lv_at hl 4 rfl) ?_
  refine jl_callH (d := 8) (av := [.ref (X.2.1 0), .int (xs (Int32.toNatClampNeg (i + 1))), .int (xs (Int32.toNatClampNeg (i + 2))), .int (xs (Int32.toNatClampNeg (i + 3))), .int (xs (Int32.toNatClampNeg (i + 4))), .ref X.2.2.2.2.2]) (rest := []) F hok hP hS hl.1 hH d_La_law_480 ch_run rfl rfl (Nat.le_of_ble_eq_true rfl) hc (fun k' x' f' H1 locs1 hp hP1 hS1 => ?_)
  obtain ⟨rfl, rfl, hf0⟩ := hp
  refine lv_istore hx hb d_La_law_483 hl (by decide) rfl (fun ls hl => ?_)
  refine lv_aload_n hx hb d_La_law_485 rfl (lv_at hl 4 rfl) ?_
  refine lv_aload_n hx hb d_La_law_486 rfl (lv_at hl 2 rfl) ?_
  refine lv_iload hx hb d_La_law_487 (lv_at hl 1 rfl) ?_
  refine lv_iconst (v := 1) hx hb d_La_law_489 (by decide) ?_
  refine lv_iadd hx hb d_La_law_490 ?_
  refine va_sld hx hb hX hbl hbA hS1 (hi 1 (by decide)) d_La_law_491 ?_
  refine lv_aload_n hx hb d_La_law_492 rfl (lv_at hl 2 rfl) ?_
  refine lv_iload hx hb d_La_law_493 (lv_at hl 1 rfl) ?_
  refine lv_iconst (v := 2) hx hb d_La_law_495 (by decide) ?_
  refine lv_iadd hx hb d_La_law_496 ?_
  refine va_sld hx hb hX hbl hbA hS1 (hi 2 (by decide)) d_La_law_497 ?_
  refine lv_aload_n hx hb d_La_law_498 rfl (lv_at hl 2 rfl) ?_
  refine lv_iload hx hb d_La_law_499 (lv_at hl 1 rfl) ?_
  refine lv_iconst (v := 3) hx hb d_La_law_501 (by decide) ?_
  refine lv_iadd hx hb d_La_law_502 ?_
  refine va_sld hx hb hX hbl hbA hS1 (hi 3 (by decide)) d_La_law_503 ?_
  refine lv_aload_n hx hb d_La_law_504 rfl (lv_at hl 2 rfl) ?_
  refine lv_iload hx hb d_La_law_505 (lv_at hl 1 rfl) ?_
  refine lv_iconst (v := 4) hx hb d_La_law_507 (by decide) ?_
  refine lv_iadd hx hb d_La_law_508 ?_
  refine va_sld hx hb hX hbl hbA hS1 (hi 4 (by decide)) d_La_law_509 ?_
  refine jl_callV (d := 8) (as := [.int (xs (Int32.toNatClampNeg (i + 1))), .int (xs (Int32.toNatClampNeg (i + 2))), .int (xs (Int32.toNatClampNeg (i + 3))), .int (xs (Int32.toNatClampNeg (i + 4)))]) (rest := []) F hok hP1 hS1 hl.1 (c_Mo_run (d := 2) (this := 58) rfl h2) d_La_law_510 ckL_87 (sh_Mo (i := 58) rfl).2 (sh_Mo (i := 58) rfl).1 ⟨_, rfl, rfl⟩ rfl rfl (Nat.le_of_ble_eq_true rfl) ⟨hc.1, hc.2⟩ (fun r' x' H2 locs2 hp hP2 hS2 => ?_)
  obtain ⟨rfl, rfl⟩ := hp
  refine lv_istore hx hb d_La_law_513 hl (by decide) rfl (fun ls hl => ?_)
  refine lv_aload_n hx hb d_La_law_515 rfl (lv_at hl 5 rfl) ?_
  refine jl_callV (d := 8) (as := []) (rest := []) F hok hP2 hS2 hl.1 (c_Mo_thrown (d := 8) (this := 58) rfl (jl_thrown _)) d_La_law_516 ckL_50 (sh_Mo (i := 58) rfl).2 (sh_Mo (i := 58) rfl).1 ⟨_, rfl, rfl⟩ rfl rfl (Nat.le_of_ble_eq_true rfl) ⟨hc.1, hc.2⟩ (fun r' x' H3 locs3 hp hP3 hS3 => ?_)
  obtain ⟨rfl, rfl⟩ := hp
  refine lv_iload hx hb d_La_law_519 (lv_at hl 1 rfl) ?_
  refine lv_icmp_eq (tgt := 526) hx hb d_La_law_521 rfl (fun _ => ?_) (fun z => absurd h3 z)
  refine lv_iload hx hb d_La_law_526 (lv_at hl 1 rfl) ?_
  have tail : ∀ (ls : Array Slot), lv_has ls 7 [(6, .int v), (5, .int k'), (4, .int i), (0, .ref b), (1, .ref (X.2.1 0)), (2, .ref (X.2.1 58)), (3, .ref X.2.2.2.2.2)] → W p X.1 e room_1 s m #[Value.ref b] below meth c H3 locs3 (k1 + 1) (k2 + 6) Q (F0 m 543 ls []) := by
    intro ls hl
    refine lv_goto (tgt := 572) hx hb d_La_law_543 rfl ?_
    refine lv_iinc (k := 2) hx hb d_La_law_572 hl rfl rfl (by decide) rfl (fun ls hl => ?_)
    refine lv_goto (tgt := 23) hx hb d_La_law_575 rfl ?_
    exact kk _ _ _ _ _ h5 hP3 hS3 (lv_sub hl [0, 3, 4, 5, 6] rfl)
  refine lv_if_ne (tgt := 543) hx hb d_La_law_528 rfl (fun _ => tail _ hl) (fun z => ?_)
  refine lv_aload_n hx hb d_La_law_531 rfl (lv_at hl 6 rfl) ?_
  refine lv_iconst (v := 0) hx hb d_La_law_532 (by decide) ?_
  refine va_lald (D := X.2.2.1) hx hb hok.1 hP3 70 4 jl_out rfl (i := 0) (by unfold vp_in; decide) d_La_law_533 ?_
  refine lv_iload hx hb d_La_law_534 (lv_at hl 0 rfl) ?_
  refine lv_i2l hx hb d_La_law_536 rfl ?_
  refine W.lcmp hx hb d_La_law_537 ?_
  exact lv_if_eq (tgt := 543) hx hb d_La_law_538 rfl (fun _ => tail _ hl) (fun q => absurd (by rw [show (0 : Int32).toNatClampNeg = 0 from rfl, hf0 z, h4 z]; exact jl_cmp0 _) q)
set_option maxHeartbeats 2000000 in
theorem lc_result {X : jj_X} {cL : ClassId} {p : Program} {e : Env} {s : State} {m : MethodId} {below : List Frame} {meth : Method} {c : Code} {b L : Nat} {xs : Nat → Int32} {H : Heap} {locs : List Loc} {k1 k2 : Nat} {Q : State → Prop} {ls : Array Slot} {x : jj_Mem} {f : Nat → Int64} {i : Int32} {Rel : jj_Mem → Prop} (G : jl_G X cL p s m c b L xs) (hl : lv_has ls 7 [(4, .int i), (0, .ref b), (1, .ref (X.2.1 0)), (2, .ref (X.2.1 58)), (3, .ref X.2.2.2.2.2)]) (hP : va_P X.2.2.1 Y0.2.2.1 (jl_w X cL x f) H) (hS : va_S (jl_A X) s.heap H locs) (hc : k1 + 1 ≤ 601024 ∧ k2 + 6 ≤ 7293034) (hi : ∀ j : Nat, j < 5 → vp_in (i + nI j) L) (S : S_result Rel x ) (kk : ∀ (x' : jj_Mem) (f' : Nat → Int64) (H' : Heap) (locs' : List Loc) (ls' : Array Slot), Rel x' → va_P X.2.2.1 Y0.2.2.1 (jl_w X cL x' f') H' → va_S (jl_A X) s.heap H' locs' → lv_has ls' 7 [(4, .int (i + 5)), (0, .ref b), (1, .ref (X.2.1 0)), (2, .ref (X.2.1 58)), (3, .ref X.2.2.2.2.2)] → W p X.1 e room_1 s m #[Value.ref b] below meth c H' locs' (k1 + 1) (k2 + 6) Q (F0 m 23 ls' [])) : W p X.1 e room_1 s m #[Value.ref b] below meth c H locs k1 k2 Q (F0 m 546 ls []) := by
  obtain ⟨r, x1, x2, h1, h2, h5⟩ := S
  obtain ⟨F, hok, hX, hbl, hB, hT, hN, htr⟩ := G
  have hx := F.1.1
  have hb := F.1.2.1
  have hown := F.1.2.2.2.1
  have hts := F.1.2.2.2.2
  have hbA : ¬ jl_A X b := by have := hok.2.2.2.2.2.2; show ¬ X.2.2.2.2.1 ≤ b; omega
  refine lv_aload_n hx hb d_La_law_546 rfl (lv_at hl 2 rfl) ?_
  refine jl_callV (d := 8) (as := []) (rest := []) F hok hP hS hl.1 (c_VC_result (d := 8) (this := 0) rfl h1) d_La_law_547 ckL_88 (sh_VC (i := 0) rfl).2 (sh_VC (i := 0) rfl).1 ⟨_, rfl, rfl⟩ rfl rfl (Nat.le_of_ble_eq_true rfl) ⟨by have := hc.1; exact Nat.le_trans (Nat.le_succ _) this, Nat.le_trans (Nat.le_add_right _ 6) hc.2⟩ (fun r' x' H1 locs1 hp hP1 hS1 => ?_)
  obtain ⟨rfl, rfl⟩ := hp
  refine lv_aload_n hx hb d_La_law_550 rfl (lv_at hl 3 rfl) ?_
  refine jl_callV (d := 8) (as := []) (rest := [.int r]) F hok hP1 hS1 hl.1 (c_Mo_result (d := 8) (this := 58) rfl h2) d_La_law_551 ckL_91 (sh_Mo (i := 58) rfl).2 (sh_Mo (i := 58) rfl).1 ⟨_, rfl, rfl⟩ rfl rfl (Nat.le_of_ble_eq_true rfl) ⟨by have := hc.1; exact Nat.le_trans (Nat.le_succ _) this, Nat.le_trans (Nat.le_add_right _ 6) hc.2⟩ (fun r' x' H2 locs2 hp hP2 hS2 => ?_)
  obtain ⟨rfl, rfl⟩ := hp
  refine lv_icmp_eq (tgt := 572) hx hb d_La_law_554 rfl (fun _ => ?_) (fun z => absurd rfl z)
  refine lv_iinc (k := 0) hx hb d_La_law_572 hl rfl rfl (by decide) rfl (fun ls hl => ?_)
  refine lv_goto (tgt := 23) hx hb d_La_law_575 rfl ?_
  refine W.widen (k := k1 + 1) (n := k2 + 6) (Nat.le_succ _) (Nat.le_add_right _ 6) ?_
  exact kk _ _ _ _ _ h5 hP2 hS2 (lv_sub hl [0, 1, 2, 3, 4] rfl)
set_option maxHeartbeats 2000000 in
theorem lc_steps {X : jj_X} {cL : ClassId} {p : Program} {e : Env} {s : State} {m : MethodId} {below : List Frame} {meth : Method} {c : Code} {b L : Nat} {xs : Nat → Int32} {H : Heap} {locs : List Loc} {k1 k2 : Nat} {Q : State → Prop} {ls : Array Slot} {x : jj_Mem} {f : Nat → Int64} {i : Int32} {Rel : jj_Mem → Prop} (G : jl_G X cL p s m c b L xs) (hl : lv_has ls 7 [(4, .int i), (0, .ref b), (1, .ref (X.2.1 0)), (2, .ref (X.2.1 58)), (3, .ref X.2.2.2.2.2)]) (hP : va_P X.2.2.1 Y0.2.2.1 (jl_w X cL x f) H) (hS : va_S (jl_A X) s.heap H locs) (hc : k1 + 1 ≤ 601024 ∧ k2 + 6 ≤ 7293034) (hi : ∀ j : Nat, j < 5 → vp_in (i + nI j) L) (S : S_steps Rel x ) (kk : ∀ (x' : jj_Mem) (f' : Nat → Int64) (H' : Heap) (locs' : List Loc) (ls' : Array Slot), Rel x' → va_P X.2.2.1 Y0.2.2.1 (jl_w X cL x' f') H' → va_S (jl_A X) s.heap H' locs' → lv_has ls' 7 [(4, .int (i + 5)), (0, .ref b), (1, .ref (X.2.1 0)), (2, .ref (X.2.1 58)), (3, .ref X.2.2.2.2.2)] → W p X.1 e room_1 s m #[Value.ref b] below meth c H' locs' (k1 + 1) (k2 + 6) Q (F0 m 23 ls' [])) : W p X.1 e room_1 s m #[Value.ref b] below meth c H locs k1 k2 Q (F0 m 559 ls []) := by
  obtain ⟨r, x1, x2, h1, h2, h5⟩ := S
  obtain ⟨F, hok, hX, hbl, hB, hT, hN, htr⟩ := G
  have hx := F.1.1
  have hb := F.1.2.1
  have hown := F.1.2.2.2.1
  have hts := F.1.2.2.2.2
  have hbA : ¬ jl_A X b := by have := hok.2.2.2.2.2.2; show ¬ X.2.2.2.2.1 ≤ b; omega
  refine lv_aload_n hx hb d_La_law_559 rfl (lv_at hl 2 rfl) ?_
  refine jl_callV (d := 8) (as := []) (rest := []) F hok hP hS hl.1 (c_VC_steps (d := 8) (this := 0) rfl h1) d_La_law_560 ckL_92 (sh_VC (i := 0) rfl).2 (sh_VC (i := 0) rfl).1 ⟨_, rfl, rfl⟩ rfl rfl (Nat.le_of_ble_eq_true rfl) ⟨by have := hc.1; exact Nat.le_trans (Nat.le_succ _) this, Nat.le_trans (Nat.le_add_right _ 6) hc.2⟩ (fun r' x' H1 locs1 hp hP1 hS1 => ?_)
  obtain ⟨rfl, rfl⟩ := hp
  refine lv_aload_n hx hb d_La_law_563 rfl (lv_at hl 3 rfl) ?_
  refine jl_callV (d := 8) (as := []) (rest := [.int r]) F hok hP1 hS1 hl.1 (c_Mo_steps (d := 8) (this := 58) rfl h2) d_La_law_564 ckL_95 (sh_Mo (i := 58) rfl).2 (sh_Mo (i := 58) rfl).1 ⟨_, rfl, rfl⟩ rfl rfl (Nat.le_of_ble_eq_true rfl) ⟨by have := hc.1; exact Nat.le_trans (Nat.le_succ _) this, Nat.le_trans (Nat.le_add_right _ 6) hc.2⟩ (fun r' x' H2 locs2 hp hP2 hS2 => ?_)
  obtain ⟨rfl, rfl⟩ := hp
  refine lv_icmp_eq (tgt := 572) hx hb d_La_law_567 rfl (fun _ => ?_) (fun z => absurd rfl z)
  refine lv_iinc (k := 0) hx hb d_La_law_572 hl rfl rfl (by decide) rfl (fun ls hl => ?_)
  refine lv_goto (tgt := 23) hx hb d_La_law_575 rfl ?_
  refine W.widen (k := k1 + 1) (n := k2 + 6) (Nat.le_succ _) (Nat.le_add_right _ 6) ?_
  exact kk _ _ _ _ _ h5 hP2 hS2 (lv_sub hl [0, 1, 2, 3, 4] rfl)
