/-! the roads of the object's methods that throw -/
theorem je_A_2 : Cond.instantiable je_A 6 ∈ j_W := (jw_2 (List.mem_of_getElem? (i := 108) rfl) rfl)
theorem je_A_3 : Cond.initialized je_A ∈ j_W := (jw_1 (List.mem_of_getElem? (i := 12) rfl) rfl)
theorem je_S_2 : Cond.instantiable je_S 6 ∈ j_W := (jw_2 (List.mem_of_getElem? (i := 176) rfl) rfl)
theorem je_S_3 : Cond.initialized je_S ∈ j_W := (jw_1 (List.mem_of_getElem? (i := 13) rfl) rfl)
theorem je_B_2 : Cond.instantiable je_B 6 ∈ j_W := (jw_2 (List.mem_of_getElem? (i := 200) rfl) rfl)
theorem je_B_3 : Cond.initialized je_B ∈ j_W := (jw_1 (List.mem_of_getElem? (i := 14) rfl) rfl)
theorem je_A_1 : Cond.classLink "VerifiedCode" 44 je_A ∈ j_W := (jw_2 (List.mem_of_getElem? (i := 107) rfl) rfl)
theorem je_S_1 : Cond.classLink "VerifiedCode" 55 je_S ∈ j_W := (jw_2 (List.mem_of_getElem? (i := 175) rfl) rfl)
theorem je_B_1 : Cond.classLink "VerifiedCode" 60 je_B ∈ j_W := (jw_2 (List.mem_of_getElem? (i := 199) rfl) rfl)
theorem d_VC_type_11 : decode m_VC_type.2.1 11 = .ok (.new 44, 3) := by decide +kernel
theorem d_VC_type_14 : decode m_VC_type.2.1 14 = .ok (.dup, 1) := by decide +kernel
theorem d_VC_type_15 : decode m_VC_type.2.1 15 = .ok (.ldc 46, 2) := by decide +kernel
theorem d_VC_type_17 : decode m_VC_type.2.1 17 = .ok (.invokespecial 48, 3) := by decide +kernel
theorem d_VC_type_20 : decode m_VC_type.2.1 20 = .ok (.athrow, 1) := by decide +kernel
theorem g_VC_type_11 {X : jj_X} {d : Nat} {lo : List (Option Value)} {x : jj_Mem} {s0 : State} {args0 : Array Value} (hB : je_base s0 args0) (hT : je_str s0) (htr : X.1.stackTraces = false) : jj_G Y0 X (d + 6) m_VC_type 11 lo [] x (je_O s0) (je_K je_A) := gg_throw (tx := _) hB hT htr rfl d_VC_type_11 d_VC_type_14 d_VC_type_15 d_VC_type_17 d_VC_type_20 je_A_1 je_A_2 je_A_3 (by decide +kernel) je_inA (List.mem_of_getElem? (i := 0) rfl) (by omega)
theorem d_VC_type_33 : decode m_VC_type.2.1 33 = .ok (.new 55, 3) := by decide +kernel
theorem d_VC_type_36 : decode m_VC_type.2.1 36 = .ok (.dup, 1) := by decide +kernel
theorem d_VC_type_37 : decode m_VC_type.2.1 37 = .ok (.ldc 57, 2) := by decide +kernel
theorem d_VC_type_39 : decode m_VC_type.2.1 39 = .ok (.invokespecial 59, 3) := by decide +kernel
theorem d_VC_type_42 : decode m_VC_type.2.1 42 = .ok (.athrow, 1) := by decide +kernel
theorem g_VC_type_33 {X : jj_X} {d : Nat} {lo : List (Option Value)} {x : jj_Mem} {s0 : State} {args0 : Array Value} (hB : je_base s0 args0) (hT : je_str s0) (htr : X.1.stackTraces = false) : jj_G Y0 X (d + 6) m_VC_type 33 lo [] x (je_O s0) (je_K je_S) := gg_throw (tx := _) hB hT htr rfl d_VC_type_33 d_VC_type_36 d_VC_type_37 d_VC_type_39 d_VC_type_42 je_S_1 je_S_2 je_S_3 (by decide +kernel) je_inS (List.mem_of_getElem? (i := 1) rfl) (by omega)
theorem d_VC_poke_12 : decode m_VC_poke.2.1 12 = .ok (.new 60, 3) := by decide +kernel
theorem d_VC_poke_15 : decode m_VC_poke.2.1 15 = .ok (.dup, 1) := by decide +kernel
theorem d_VC_poke_16 : decode m_VC_poke.2.1 16 = .ok (.ldc 62, 2) := by decide +kernel
theorem d_VC_poke_18 : decode m_VC_poke.2.1 18 = .ok (.invokespecial 64, 3) := by decide +kernel
theorem d_VC_poke_21 : decode m_VC_poke.2.1 21 = .ok (.athrow, 1) := by decide +kernel
theorem g_VC_poke_12 {X : jj_X} {d : Nat} {lo : List (Option Value)} {x : jj_Mem} {s0 : State} {args0 : Array Value} (hB : je_base s0 args0) (hT : je_str s0) (htr : X.1.stackTraces = false) : jj_G Y0 X (d + 6) m_VC_poke 12 lo [] x (je_O s0) (je_K je_B) := gg_throw (tx := _) hB hT htr rfl d_VC_poke_12 d_VC_poke_15 d_VC_poke_16 d_VC_poke_18 d_VC_poke_21 je_B_1 je_B_2 je_B_3 (by decide +kernel) je_inB (List.mem_of_getElem? (i := 2) rfl) (by omega)
theorem d_VC_poke_33 : decode m_VC_poke.2.1 33 = .ok (.new 44, 3) := by decide +kernel
theorem d_VC_poke_36 : decode m_VC_poke.2.1 36 = .ok (.dup, 1) := by decide +kernel
theorem d_VC_poke_37 : decode m_VC_poke.2.1 37 = .ok (.ldc 65, 2) := by decide +kernel
theorem d_VC_poke_39 : decode m_VC_poke.2.1 39 = .ok (.invokespecial 48, 3) := by decide +kernel
theorem d_VC_poke_42 : decode m_VC_poke.2.1 42 = .ok (.athrow, 1) := by decide +kernel
theorem g_VC_poke_33 {X : jj_X} {d : Nat} {lo : List (Option Value)} {x : jj_Mem} {s0 : State} {args0 : Array Value} (hB : je_base s0 args0) (hT : je_str s0) (htr : X.1.stackTraces = false) : jj_G Y0 X (d + 6) m_VC_poke 33 lo [] x (je_O s0) (je_K je_A) := gg_throw (tx := _) hB hT htr rfl d_VC_poke_33 d_VC_poke_36 d_VC_poke_37 d_VC_poke_39 d_VC_poke_42 je_A_1 je_A_2 je_A_3 (by decide +kernel) je_inA (List.mem_of_getElem? (i := 3) rfl) (by omega)
theorem d_VC_byteAt_12 : decode m_VC_byteAt.2.1 12 = .ok (.new 60, 3) := by decide +kernel
theorem d_VC_byteAt_15 : decode m_VC_byteAt.2.1 15 = .ok (.dup, 1) := by decide +kernel
theorem d_VC_byteAt_16 : decode m_VC_byteAt.2.1 16 = .ok (.ldc 62, 2) := by decide +kernel
theorem d_VC_byteAt_18 : decode m_VC_byteAt.2.1 18 = .ok (.invokespecial 64, 3) := by decide +kernel
theorem d_VC_byteAt_21 : decode m_VC_byteAt.2.1 21 = .ok (.athrow, 1) := by decide +kernel
theorem g_VC_byteAt_12 {X : jj_X} {d : Nat} {lo : List (Option Value)} {x : jj_Mem} {s0 : State} {args0 : Array Value} (hB : je_base s0 args0) (hT : je_str s0) (htr : X.1.stackTraces = false) : jj_G Y0 X (d + 6) m_VC_byteAt 12 lo [] x (je_O s0) (je_K je_B) := gg_throw (tx := _) hB hT htr rfl d_VC_byteAt_12 d_VC_byteAt_15 d_VC_byteAt_16 d_VC_byteAt_18 d_VC_byteAt_21 je_B_1 je_B_2 je_B_3 (by decide +kernel) je_inB (List.mem_of_getElem? (i := 2) rfl) (by omega)
theorem d_VC_write_10 : decode m_VC_write.2.1 10 = .ok (.new 55, 3) := by decide +kernel
theorem d_VC_write_13 : decode m_VC_write.2.1 13 = .ok (.dup, 1) := by decide +kernel
theorem d_VC_write_14 : decode m_VC_write.2.1 14 = .ok (.ldc 81, 2) := by decide +kernel
theorem d_VC_write_16 : decode m_VC_write.2.1 16 = .ok (.invokespecial 59, 3) := by decide +kernel
theorem d_VC_write_19 : decode m_VC_write.2.1 19 = .ok (.athrow, 1) := by decide +kernel
theorem g_VC_write_10 {X : jj_X} {d : Nat} {lo : List (Option Value)} {x : jj_Mem} {s0 : State} {args0 : Array Value} (hB : je_base s0 args0) (hT : je_str s0) (htr : X.1.stackTraces = false) : jj_G Y0 X (d + 6) m_VC_write 10 lo [] x (je_O s0) (je_K je_S) := gg_throw (tx := _) hB hT htr rfl d_VC_write_10 d_VC_write_13 d_VC_write_14 d_VC_write_16 d_VC_write_19 je_S_1 je_S_2 je_S_3 (by decide +kernel) je_inS (List.mem_of_getElem? (i := 4) rfl) (by omega)
theorem d_VC_check_10 : decode m_VC_check.2.1 10 = .ok (.new 55, 3) := by decide +kernel
theorem d_VC_check_13 : decode m_VC_check.2.1 13 = .ok (.dup, 1) := by decide +kernel
theorem d_VC_check_14 : decode m_VC_check.2.1 14 = .ok (.ldc 81, 2) := by decide +kernel
theorem d_VC_check_16 : decode m_VC_check.2.1 16 = .ok (.invokespecial 59, 3) := by decide +kernel
theorem d_VC_check_19 : decode m_VC_check.2.1 19 = .ok (.athrow, 1) := by decide +kernel
theorem g_VC_check_10 {X : jj_X} {d : Nat} {lo : List (Option Value)} {x : jj_Mem} {s0 : State} {args0 : Array Value} (hB : je_base s0 args0) (hT : je_str s0) (htr : X.1.stackTraces = false) : jj_G Y0 X (d + 6) m_VC_check 10 lo [] x (je_O s0) (je_K je_S) := gg_throw (tx := _) hB hT htr rfl d_VC_check_10 d_VC_check_13 d_VC_check_14 d_VC_check_16 d_VC_check_19 je_S_1 je_S_2 je_S_3 (by decide +kernel) je_inS (List.mem_of_getElem? (i := 4) rfl) (by omega)
theorem d_VC_check_35 : decode m_VC_check.2.1 35 = .ok (.new 44, 3) := by decide +kernel
theorem d_VC_check_38 : decode m_VC_check.2.1 38 = .ok (.dup, 1) := by decide +kernel
theorem d_VC_check_39 : decode m_VC_check.2.1 39 = .ok (.ldc 95, 2) := by decide +kernel
theorem d_VC_check_41 : decode m_VC_check.2.1 41 = .ok (.invokespecial 48, 3) := by decide +kernel
theorem d_VC_check_44 : decode m_VC_check.2.1 44 = .ok (.athrow, 1) := by decide +kernel
theorem g_VC_check_35 {X : jj_X} {d : Nat} {lo : List (Option Value)} {x : jj_Mem} {s0 : State} {args0 : Array Value} (hB : je_base s0 args0) (hT : je_str s0) (htr : X.1.stackTraces = false) : jj_G Y0 X (d + 6) m_VC_check 35 lo [] x (je_O s0) (je_K je_A) := gg_throw (tx := _) hB hT htr rfl d_VC_check_35 d_VC_check_38 d_VC_check_39 d_VC_check_41 d_VC_check_44 je_A_1 je_A_2 je_A_3 (by decide +kernel) je_inA (List.mem_of_getElem? (i := 5) rfl) (by omega)
theorem d_VC_run_10 : decode m_VC_run.2.1 10 = .ok (.new 55, 3) := by decide +kernel
theorem d_VC_run_13 : decode m_VC_run.2.1 13 = .ok (.dup, 1) := by decide +kernel
theorem d_VC_run_14 : decode m_VC_run.2.1 14 = .ok (.ldc 81, 2) := by decide +kernel
theorem d_VC_run_16 : decode m_VC_run.2.1 16 = .ok (.invokespecial 59, 3) := by decide +kernel
theorem d_VC_run_19 : decode m_VC_run.2.1 19 = .ok (.athrow, 1) := by decide +kernel
theorem g_VC_run_10 {X : jj_X} {d : Nat} {lo : List (Option Value)} {x : jj_Mem} {s0 : State} {args0 : Array Value} (hB : je_base s0 args0) (hT : je_str s0) (htr : X.1.stackTraces = false) : jj_G Y0 X (d + 6) m_VC_run 10 lo [] x (je_O s0) (je_K je_S) := gg_throw (tx := _) hB hT htr rfl d_VC_run_10 d_VC_run_13 d_VC_run_14 d_VC_run_16 d_VC_run_19 je_S_1 je_S_2 je_S_3 (by decide +kernel) je_inS (List.mem_of_getElem? (i := 4) rfl) (by omega)
theorem d_VC_run_35 : decode m_VC_run.2.1 35 = .ok (.new 44, 3) := by decide +kernel
theorem d_VC_run_38 : decode m_VC_run.2.1 38 = .ok (.dup, 1) := by decide +kernel
theorem d_VC_run_39 : decode m_VC_run.2.1 39 = .ok (.ldc 95, 2) := by decide +kernel
theorem d_VC_run_41 : decode m_VC_run.2.1 41 = .ok (.invokespecial 48, 3) := by decide +kernel
theorem d_VC_run_44 : decode m_VC_run.2.1 44 = .ok (.athrow, 1) := by decide +kernel
theorem g_VC_run_35 {X : jj_X} {d : Nat} {lo : List (Option Value)} {x : jj_Mem} {s0 : State} {args0 : Array Value} (hB : je_base s0 args0) (hT : je_str s0) (htr : X.1.stackTraces = false) : jj_G Y0 X (d + 6) m_VC_run 35 lo [] x (je_O s0) (je_K je_A) := gg_throw (tx := _) hB hT htr rfl d_VC_run_35 d_VC_run_38 d_VC_run_39 d_VC_run_41 d_VC_run_44 je_A_1 je_A_2 je_A_3 (by decide +kernel) je_inA (List.mem_of_getElem? (i := 5) rfl) (by omega)
theorem e_type1 {X : jj_X} {d : Nat} {x : jj_Mem} {s0 : State} {args0 : Array Value} {this : Nat} {a1 : Int64} {a2 : Int32} (hB : je_base s0 args0) (hT : je_str s0) (htr : X.1.stackTraces = false) (h : a2 < 1 ∨ ¬ a2 ≤ 8) : jj_G Y0 X (d + 6) m_VC_type 0 [some (.ref this), some (.long a1), none, some (.int a2), none] [] x (je_O s0) (je_K je_A) := by
  refine gg_iload_n d_VC_type_0 rfl ?_
  refine gg_iconst d_VC_type_1 jc_i_1 ?_
  refine gg_ic_lt (tgt := 11) d_VC_type_2 rfl (fun _ => g_VC_type_11 hB hT htr) (fun c1 => ?_)
  refine gg_iload_n d_VC_type_5 rfl ?_
  refine gg_bipush d_VC_type_6 jc_b_8 ?_
  exact gg_ic_le (tgt := 21) d_VC_type_8 rfl (fun c2 => absurd h (fun q => q.elim c1 (fun r => r c2))) (fun _ => g_VC_type_11 hB hT htr)
theorem e_type2 {X : jj_X} {d : Nat} {x : jj_Mem} {s0 : State} {args0 : Array Value} {this : Nat} {a1 : Int64} {a2 : Int32} (h_this : o_VC this) (hB : je_base s0 args0) (hT : je_str s0) (htr : X.1.stackTraces = false) (h1 : ¬ a2 < 1) (h2 : a2 ≤ 8) (h3 : ¬ x this 1 + a2 ≤ 240) : jj_G Y0 X (d + 6) m_VC_type 0 [some (.ref this), some (.long a1), none, some (.int a2), none] [] x (je_O s0) (je_K je_S) := by
  refine gg_iload_n d_VC_type_0 rfl ?_
  refine gg_iconst d_VC_type_1 jc_i_1 ?_
  refine gg_ic_lt (tgt := 11) d_VC_type_2 rfl (fun c => absurd c h1) (fun _ => ?_)
  refine gg_iload_n d_VC_type_5 rfl ?_
  refine gg_bipush d_VC_type_6 jc_b_8 ?_
  refine gg_ic_le (tgt := 21) d_VC_type_8 rfl (fun _ => ?_) (fun c => absurd h2 c)
  refine gg_aload_n d_VC_type_21 rfl ?_
  refine gg_getI d_VC_type_22 fk_VC_51 (sh_VC h_this).2 (sh_VC h_this).1 rfl rfl ?_
  refine gg_iload_n d_VC_type_25 rfl ?_
  refine gg_iadd d_VC_type_26 ?_
  refine gg_sipush d_VC_type_27 jc_s_240 ?_
  exact gg_ic_le (tgt := 43) d_VC_type_30 rfl (fun c => absurd c h3) (fun _ => g_VC_type_33 hB hT htr)
theorem e_poke1 {X : jj_X} {d : Nat} {x : jj_Mem} {s0 : State} {args0 : Array Value} {this : Nat} {a1 a2 : Int32} (h_this : o_VC this) (hB : je_base s0 args0) (hT : je_str s0) (htr : X.1.stackTraces = false) (h : a1 < 0 ∨ ¬ a1 < x this 1) : jj_G Y0 X (d + 6) m_VC_poke 0 [some (.ref this), some (.int a1), some (.int a2)] [] x (je_O s0) (je_K je_B) := by
  refine gg_iload_n d_VC_poke_0 rfl ?_
  refine gg_if_lt (tgt := 12) d_VC_poke_1 rfl (fun _ => g_VC_poke_12 hB hT htr) (fun c1 => ?_)
  refine gg_iload_n d_VC_poke_4 rfl ?_
  refine gg_aload_n d_VC_poke_5 rfl ?_
  refine gg_getI d_VC_poke_6 fk_VC_51 (sh_VC h_this).2 (sh_VC h_this).1 rfl rfl ?_
  exact gg_ic_lt (tgt := 22) d_VC_poke_9 rfl (fun c2 => absurd h (fun q => q.elim c1 (fun r => r c2))) (fun _ => g_VC_poke_12 hB hT htr)
theorem e_poke2 {X : jj_X} {d : Nat} {x : jj_Mem} {s0 : State} {args0 : Array Value} {this : Nat} {a1 a2 : Int32} (h_this : o_VC this) (hB : je_base s0 args0) (hT : je_str s0) (htr : X.1.stackTraces = false) (h1 : ¬ a1 < 0) (h2 : a1 < x this 1) (h : a2 < 0 ∨ ¬ a2 ≤ 255) : jj_G Y0 X (d + 6) m_VC_poke 0 [some (.ref this), some (.int a1), some (.int a2)] [] x (je_O s0) (je_K je_A) := by
  refine gg_iload_n d_VC_poke_0 rfl ?_
  refine gg_if_lt (tgt := 12) d_VC_poke_1 rfl (fun c => absurd c h1) (fun _ => ?_)
  refine gg_iload_n d_VC_poke_4 rfl ?_
  refine gg_aload_n d_VC_poke_5 rfl ?_
  refine gg_getI d_VC_poke_6 fk_VC_51 (sh_VC h_this).2 (sh_VC h_this).1 rfl rfl ?_
  refine gg_ic_lt (tgt := 22) d_VC_poke_9 rfl (fun _ => ?_) (fun c => absurd h2 c)
  refine gg_iload_n d_VC_poke_22 rfl ?_
  refine gg_if_lt (tgt := 33) d_VC_poke_23 rfl (fun _ => g_VC_poke_33 hB hT htr) (fun c1 => ?_)
  refine gg_iload_n d_VC_poke_26 rfl ?_
  refine gg_sipush d_VC_poke_27 jc_s_255 ?_
  exact gg_ic_le (tgt := 43) d_VC_poke_30 rfl (fun c2 => absurd h (fun q => q.elim c1 (fun r => r c2))) (fun _ => g_VC_poke_33 hB hT htr)
theorem e_byteAt1 {X : jj_X} {d : Nat} {x : jj_Mem} {s0 : State} {args0 : Array Value} {this : Nat} {a1 : Int32} (h_this : o_VC this) (hB : je_base s0 args0) (hT : je_str s0) (htr : X.1.stackTraces = false) (h : a1 < 0 ∨ ¬ a1 < x this 1) : jj_G Y0 X (d + 6) m_VC_byteAt 0 [some (.ref this), some (.int a1)] [] x (je_O s0) (je_K je_B) := by
  refine gg_iload_n d_VC_byteAt_0 rfl ?_
  refine gg_if_lt (tgt := 12) d_VC_byteAt_1 rfl (fun _ => g_VC_byteAt_12 hB hT htr) (fun c1 => ?_)
  refine gg_iload_n d_VC_byteAt_4 rfl ?_
  refine gg_aload_n d_VC_byteAt_5 rfl ?_
  refine gg_getI d_VC_byteAt_6 fk_VC_51 (sh_VC h_this).2 (sh_VC h_this).1 rfl rfl ?_
  exact gg_ic_lt (tgt := 22) d_VC_byteAt_9 rfl (fun c2 => absurd h (fun q => q.elim c1 (fun r => r c2))) (fun _ => g_VC_byteAt_12 hB hT htr)
theorem e_write1 {X : jj_X} {d : Nat} {x : jj_Mem} {s0 : State} {args0 : Array Value} {this P : Nat} (h_this : o_VC this) (hB : je_base s0 args0) (hT : je_str s0) (htr : X.1.stackTraces = false) (hq : Int32.toNatClampNeg (x this 2) = P) (hP : o_Pr P) (h : x P 4 = 0) : jj_G Y0 X (d + 6) m_VC_write 0 [some (.ref this)] [] x (je_O s0) (je_K je_S) := by
  refine gg_aload_n d_VC_write_0 rfl ?_
  refine gg_getD d_VC_write_1 fk_VC_16 (sh_VC h_this).2 (sh_VC h_this).1 rfl hq ?_
  refine gg_getI d_VC_write_4 fk_VC_78 (sh_Pr hP).2 (sh_Pr hP).1 rfl rfl ?_
  exact gg_if_ne (tgt := 20) d_VC_write_7 rfl (fun c => absurd h c) (fun _ => g_VC_write_10 hB hT htr)
theorem e_check1 {X : jj_X} {d : Nat} {x : jj_Mem} {s0 : State} {args0 : Array Value} {this P : Nat} {a1 : Int32} (h_this : o_VC this) (hB : je_base s0 args0) (hT : je_str s0) (htr : X.1.stackTraces = false) (hq : Int32.toNatClampNeg (x this 2) = P) (hP : o_Pr P) (h : x P 4 = 0) : jj_G Y0 X (d + 6) m_VC_check 0 [some (.ref this), some (.int a1)] [] x (je_O s0) (je_K je_S) := by
  refine gg_aload_n d_VC_check_0 rfl ?_
  refine gg_getD d_VC_check_1 fk_VC_16 (sh_VC h_this).2 (sh_VC h_this).1 rfl hq ?_
  refine gg_getI d_VC_check_4 fk_VC_78 (sh_Pr hP).2 (sh_Pr hP).1 rfl rfl ?_
  exact gg_if_ne (tgt := 20) d_VC_check_7 rfl (fun c => absurd h c) (fun _ => g_VC_check_10 hB hT htr)
theorem e_check2 {X : jj_X} {d : Nat} {x : jj_Mem} {s0 : State} {args0 : Array Value} {this P : Nat} {a1 : Int32} (h_this : o_VC this) (hB : je_base s0 args0) (hT : je_str s0) (htr : X.1.stackTraces = false) (hq : Int32.toNatClampNeg (x this 2) = P) (hP : o_Pr P) (h0 : ¬ x P 4 = 0) (h : a1 < 0 ∨ ¬ a1 < x P 4) : jj_G Y0 X (d + 6) m_VC_check 0 [some (.ref this), some (.int a1)] [] x (je_O s0) (je_K je_A) := by
  refine gg_aload_n d_VC_check_0 rfl ?_
  refine gg_getD d_VC_check_1 fk_VC_16 (sh_VC h_this).2 (sh_VC h_this).1 rfl hq ?_
  refine gg_getI d_VC_check_4 fk_VC_78 (sh_Pr hP).2 (sh_Pr hP).1 rfl rfl ?_
  refine gg_if_ne (tgt := 20) d_VC_check_7 rfl (fun _ => ?_) (fun c => absurd c h0)
  refine gg_iload_n d_VC_check_20 rfl ?_
  refine gg_if_lt (tgt := 35) d_VC_check_21 rfl (fun _ => g_VC_check_35 hB hT htr) (fun c1 => ?_)
  refine gg_iload_n d_VC_check_24 rfl ?_
  refine gg_aload_n d_VC_check_25 rfl ?_
  refine gg_getD d_VC_check_26 fk_VC_16 (sh_VC h_this).2 (sh_VC h_this).1 rfl hq ?_
  refine gg_getI d_VC_check_29 fk_VC_78 (sh_Pr hP).2 (sh_Pr hP).1 rfl rfl ?_
  exact gg_ic_lt (tgt := 45) d_VC_check_32 rfl (fun c2 => absurd h (fun q => q.elim c1 (fun r => r c2))) (fun _ => g_VC_check_35 hB hT htr)
theorem e_run1 {X : jj_X} {d : Nat} {x : jj_Mem} {s0 : State} {args0 : Array Value} {this P : Nat} {a1 a2 a3 a4 : Int32} (h_this : o_VC this) (hB : je_base s0 args0) (hT : je_str s0) (htr : X.1.stackTraces = false) (hq : Int32.toNatClampNeg (x this 2) = P) (hP : o_Pr P) (h : x P 4 = 0) : jj_G Y0 X (d + 6) m_VC_run 0 [some (.ref this), some (.int a1), some (.int a2), some (.int a3), some (.int a4)] [] x (je_O s0) (je_K je_S) := by
  refine gg_aload_n d_VC_run_0 rfl ?_
  refine gg_getD d_VC_run_1 fk_VC_16 (sh_VC h_this).2 (sh_VC h_this).1 rfl hq ?_
  refine gg_getI d_VC_run_4 fk_VC_78 (sh_Pr hP).2 (sh_Pr hP).1 rfl rfl ?_
  exact gg_if_ne (tgt := 20) d_VC_run_7 rfl (fun c => absurd h c) (fun _ => g_VC_run_10 hB hT htr)
theorem e_run2 {X : jj_X} {d : Nat} {x : jj_Mem} {s0 : State} {args0 : Array Value} {this P : Nat} {a1 a2 a3 a4 : Int32} (h_this : o_VC this) (hB : je_base s0 args0) (hT : je_str s0) (htr : X.1.stackTraces = false) (hq : Int32.toNatClampNeg (x this 2) = P) (hP : o_Pr P) (h0 : ¬ x P 4 = 0) (h : a1 < 0 ∨ ¬ a1 < x P 4) : jj_G Y0 X (d + 6) m_VC_run 0 [some (.ref this), some (.int a1), some (.int a2), some (.int a3), some (.int a4)] [] x (je_O s0) (je_K je_A) := by
  refine gg_aload_n d_VC_run_0 rfl ?_
  refine gg_getD d_VC_run_1 fk_VC_16 (sh_VC h_this).2 (sh_VC h_this).1 rfl hq ?_
  refine gg_getI d_VC_run_4 fk_VC_78 (sh_Pr hP).2 (sh_Pr hP).1 rfl rfl ?_
  refine gg_if_ne (tgt := 20) d_VC_run_7 rfl (fun _ => ?_) (fun c => absurd c h0)
  refine gg_iload_n d_VC_run_20 rfl ?_
  refine gg_if_lt (tgt := 35) d_VC_run_21 rfl (fun _ => g_VC_run_35 hB hT htr) (fun c1 => ?_)
  refine gg_iload_n d_VC_run_24 rfl ?_
  refine gg_aload_n d_VC_run_25 rfl ?_
  refine gg_getD d_VC_run_26 fk_VC_16 (sh_VC h_this).2 (sh_VC h_this).1 rfl hq ?_
  refine gg_getI d_VC_run_29 fk_VC_78 (sh_Pr hP).2 (sh_Pr hP).1 rfl rfl ?_
  exact gg_ic_lt (tgt := 45) d_VC_run_32 rfl (fun c2 => absurd h (fun q => q.elim c1 (fun r => r c2))) (fun _ => g_VC_run_35 hB hT htr)
