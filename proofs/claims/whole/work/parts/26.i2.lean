abbrev m_Pr_init : jj_M := (⟨"VerifiedCode$Program", "<init>", "()V"⟩, prog_6_method_1_code, 2, none)
theorem d_Pr_init_0 : decode m_Pr_init.2.1 0 = .ok (.aload_n 0, 1) := by decide +kernel
theorem d_Pr_init_1 : decode m_Pr_init.2.1 1 = .ok (.invokespecial 3, 3) := by decide +kernel
theorem d_Pr_init_4 : decode m_Pr_init.2.1 4 = .ok (.aload_n 0, 1) := by decide +kernel
theorem d_Pr_init_5 : decode m_Pr_init.2.1 5 = .ok (.sipush 240, 3) := by decide +kernel
theorem d_Pr_init_8 : decode m_Pr_init.2.1 8 = .ok (.newarray .int, 2) := by decide +kernel
theorem d_Pr_init_10 : decode m_Pr_init.2.1 10 = .ok (.putfield 9, 3) := by decide +kernel
theorem d_Pr_init_13 : decode m_Pr_init.2.1 13 = .ok (.aload_n 0, 1) := by decide +kernel
theorem d_Pr_init_14 : decode m_Pr_init.2.1 14 = .ok (.iconst 4, 1) := by decide +kernel
theorem d_Pr_init_15 : decode m_Pr_init.2.1 15 = .ok (.anewarray 15, 3) := by decide +kernel
theorem d_Pr_init_18 : decode m_Pr_init.2.1 18 = .ok (.putfield 17, 3) := by decide +kernel
theorem d_Pr_init_21 : decode m_Pr_init.2.1 21 = .ok (.iconst 0, 1) := by decide +kernel
theorem d_Pr_init_22 : decode m_Pr_init.2.1 22 = .ok (.istore_n 1, 1) := by decide +kernel
theorem d_Pr_init_23 : decode m_Pr_init.2.1 23 = .ok (.iload_n 1, 1) := by decide +kernel
theorem d_Pr_init_24 : decode m_Pr_init.2.1 24 = .ok (.iconst 4, 1) := by decide +kernel
theorem d_Pr_init_25 : decode m_Pr_init.2.1 25 = .ok (.if_icmp .ge 22, 3) := by decide +kernel
theorem d_Pr_init_28 : decode m_Pr_init.2.1 28 = .ok (.aload_n 0, 1) := by decide +kernel
theorem d_Pr_init_29 : decode m_Pr_init.2.1 29 = .ok (.getfield 17, 3) := by decide +kernel
theorem d_Pr_init_32 : decode m_Pr_init.2.1 32 = .ok (.iload_n 1, 1) := by decide +kernel
theorem d_Pr_init_33 : decode m_Pr_init.2.1 33 = .ok (.new 15, 3) := by decide +kernel
theorem d_Pr_init_36 : decode m_Pr_init.2.1 36 = .ok (.dup, 1) := by decide +kernel
theorem d_Pr_init_37 : decode m_Pr_init.2.1 37 = .ok (.invokespecial 21, 3) := by decide +kernel
theorem d_Pr_init_40 : decode m_Pr_init.2.1 40 = .ok (.aastore, 1) := by decide +kernel
theorem d_Pr_init_41 : decode m_Pr_init.2.1 41 = .ok (.iinc 1 1, 3) := by decide +kernel
theorem d_Pr_init_44 : decode m_Pr_init.2.1 44 = .ok (.goto (-21), 3) := by decide +kernel
theorem d_Pr_init_47 : decode m_Pr_init.2.1 47 = .ok (.return_, 1) := by decide +kernel
set_option maxHeartbeats 8000000 in
set_option maxRecDepth 100000 in
theorem i_Pr {d : Nat} (l : Launch) (D : va_G) (cI cZ cM cS : ClassId) (h0 sz : Nat) : ja_Met l D (ja_T cI cZ cM cS) m_Pr_init (d + 2) 10 312 h0 [(h0, .inr (1, [.null, .int 0, .int 0, .int 0, .int 0, .null]))] sz (fun ws => ∃ q1 q2 q3 q4 q5 q6 q7 q8 q9 q10 : Nat, ws = [(h0, .inr (1, [.ref q1, .int 0, .int 0, .int 0, .int 0, .ref q2])), (q1, .inl (cI, 240, .inl (fun _ => 0))), (q2, .inl (cM, 4, .inr (.inr (.inr (.inr (va_up (va_up (va_up (va_up (fun _ => none) 0 (some q3)) 1 (some q5)) 2 (some q7)) 3 (some q9))))))), (q3, .inr (2, [.int 0, .int 0, .int 0, .int 0, .int 0, .int 0, .int 0, .int 0, .ref q4])), (q4, .inl (cI, 8, .inl (fun _ => 0))), (q5, .inr (2, [.int 0, .int 0, .int 0, .int 0, .int 0, .int 0, .int 0, .int 0, .ref q6])), (q6, .inl (cI, 8, .inl (fun _ => 0))), (q7, .inr (2, [.int 0, .int 0, .int 0, .int 0, .int 0, .int 0, .int 0, .int 0, .ref q8])), (q8, .inl (cI, 8, .inl (fun _ => 0))), (q9, .inr (2, [.int 0, .int 0, .int 0, .int 0, .int 0, .int 0, .int 0, .int 0, .ref q10])), (q10, .inl (cI, 8, .inl (fun _ => 0)))]) := by
  refine Met.ofW (cc := m_Pr_init.2.1) (maxL := 2) (ret := none) rfl rfl ?_
  intro p e s m args below meth c s₁ B hml hv
  obtain ⟨rfl, hsz, hP, hK, hD0, hw, hao⟩ := hv
  have hx := B.exec
  have hb := B.bytes
  have hr := B.returns
  have hlocks := B.notSynchronized
  have hts : ∀ w ∈ j_W, w.before _ s = true := fun w h => hw w h ([Value.ref h0] : List Value).toArray s (jj_wrefl s)
  have hown : s.vm.findClass "VerifiedCode$Program" = some m.cls := findClass_of_methodNamed B.named
  have hin : meth.name = "<init>" := (name_of_methodNamed B.named B.method).1
  subst hsz
  have hD := hD0.self (sz := s.heap.size)
  generalize hAe : va_A [(h0, .inr (1, [.null, .int 0, .int 0, .int 0, .int 0, .null]))] s.heap.size = A at hD ⊢
  have hA : ∀ q : Nat, s.heap.size ≤ q → A q := fun q h => by rw [← hAe]; exact Or.inr h
  have hS : va_S A s.heap s.heap [] := va_S.rf
  have hP : va_P D j_cl [(h0, .inr (1, [.null, .int 0, .int 0, .int 0, .int 0, .null]))] s.heap := hP
  have hl := lv_entry ([.ref h0]) (n := 2) (Nat.le_of_ble_eq_true rfl)
  rw [lg_entry_eq]
  generalize (lg_sl ([.ref h0]) ++ List.replicate (2 - (lg_sl ([.ref h0])).length) Slot.unset).toArray = ls at hl ⊢
  have hl : lv_has ls 2 [(0, .ref h0)] := hl
  refine lv_aload_n hx hb d_Pr_init_0 rfl (lv_at hl 0 rfl) ?_
  refine W.objInit hx hb hown (hts (.methodLink "VerifiedCode$Program" 3 Lib.objectInit) (jw_1 (List.mem_of_getElem? (i := 31) rfl) rfl)) (hts (.instanceMethod Lib.objectInit) (jw_1 (List.mem_of_getElem? (i := 24) rfl) rfl)) (hts (.code Lib.objectInit ⟨#[0xb1]⟩ 1 none) (jw_1 (List.mem_of_getElem? (i := 25) rfl) rfl)) rfl (by rw [hml]; exact hl.1) rfl d_Pr_init_1 (Nat.le_of_ble_eq_true rfl) (Nat.le_of_ble_eq_true rfl) ?_
  refine W.eq (g2 := F0 m 4 ls []) rfl ?_
  refine lv_aload_n hx hb d_Pr_init_4 rfl (lv_at hl 0 rfl) ?_
  refine lv_sipush (v := 240) hx hb d_Pr_init_5 (by decide) ?_
  refine va_newa (D := D) (atype := .int) (a0 := (240, .inl (fun _ => 0))) hx hb (hts (.arrayClass .int) (jw_1 (List.mem_of_getElem? (i := 83) rfl) rfl)) (ty := .int) rfl hK hP hD hS hA (N' := 240) (fun _ => rfl) (by decide) (by decide) (Nat.le_of_ble_eq_true rfl) (Nat.le_of_ble_eq_true rfl) (Nat.le_of_ble_eq_true rfl) d_Pr_init_8 (fun q1 cA H hK2 hP hD hS => ?_)
  obtain rfl := (ja_p (i := 0) rfl hK2).symm
  have hP : va_P D j_cl [(h0, .inr (1, [.null, .int 0, .int 0, .int 0, .int 0, .null])), (q1, .inl (cI, 240, .inl (fun _ => 0)))] H := hP
  have hD : va_D A [(h0, .inr (1, [.null, .int 0, .int 0, .int 0, .int 0, .null])), (q1, .inl (cI, 240, .inl (fun _ => 0)))] := hD
  refine va_putF (D := D) (ci := 1) (v := .ref q1) (ty := (.array .int)) (C := jR_Pr) (T := jF_Pr) (N := 6) hx hb hts ji_Pr jt_Pr jt_Pr_ok jn_Pr hown hK hP hD hS 0 rfl rfl 0 (by decide) (hts _ (jw_1 (List.mem_of_getElem? (i := 84) rfl) rfl)) (fun _ h9 => h9) rfl hin rfl (by decide +kernel) rfl rfl (Nat.le_of_ble_eq_true rfl) d_Pr_init_10 (fun H locs hP hD hS => ?_)
  have hP : va_P D j_cl [(h0, .inr (1, [.ref q1, .int 0, .int 0, .int 0, .int 0, .null])), (q1, .inl (cI, 240, .inl (fun _ => 0)))] H := hP
  have hD : va_D A [(h0, .inr (1, [.ref q1, .int 0, .int 0, .int 0, .int 0, .null])), (q1, .inl (cI, 240, .inl (fun _ => 0)))] := hD
  refine lv_aload_n hx hb d_Pr_init_13 rfl (lv_at hl 0 rfl) ?_
  refine lv_iconst (v := 4) hx hb d_Pr_init_14 (by decide) ?_
  refine va_newq (D := D) hx hb hown (hts (.classLink "VerifiedCode$Program" 15 "VerifiedCode$Method") (jw_1 (List.mem_of_getElem? (i := 32) rfl) rfl)) hao.1 hK hP hD hS hA (N' := 4) (by decide) (by decide) (Nat.le_of_ble_eq_true rfl) (Nat.le_of_ble_eq_true rfl) (Nat.le_of_ble_eq_true rfl) d_Pr_init_15 (fun q2 cA H hK2 hP hD hS => ?_)
  obtain rfl := (ja_p (i := 2) rfl hK2).symm
  have hP : va_P D j_cl [(h0, .inr (1, [.ref q1, .int 0, .int 0, .int 0, .int 0, .null])), (q1, .inl (cI, 240, .inl (fun _ => 0))), (q2, .inl (cM, 4, .inr (.inr (.inr (.inr (fun _ => none))))))] H := hP
  have hD : va_D A [(h0, .inr (1, [.ref q1, .int 0, .int 0, .int 0, .int 0, .null])), (q1, .inl (cI, 240, .inl (fun _ => 0))), (q2, .inl (cM, 4, .inr (.inr (.inr (.inr (fun _ => none))))))] := hD
  refine va_putF (D := D) (ci := 1) (v := .ref q2) (ty := (.array (.object "VerifiedCode$Method"))) (C := jR_Pr) (T := jF_Pr) (N := 6) hx hb hts ji_Pr jt_Pr jt_Pr_ok jn_Pr hown hK hP hD hS 0 rfl rfl 5 (by decide) (hts _ (jw_1 (List.mem_of_getElem? (i := 95) rfl) rfl)) (fun _ h9 => h9) rfl hin rfl (by decide +kernel) rfl rfl (Nat.le_of_ble_eq_true rfl) d_Pr_init_18 (fun H locs hP hD hS => ?_)
  have hP : va_P D j_cl [(h0, .inr (1, [.ref q1, .int 0, .int 0, .int 0, .int 0, .ref q2])), (q1, .inl (cI, 240, .inl (fun _ => 0))), (q2, .inl (cM, 4, .inr (.inr (.inr (.inr (fun _ => none))))))] H := hP
  have hD : va_D A [(h0, .inr (1, [.ref q1, .int 0, .int 0, .int 0, .int 0, .ref q2])), (q1, .inl (cI, 240, .inl (fun _ => 0))), (q2, .inl (cM, 4, .inr (.inr (.inr (.inr (fun _ => none))))))] := hD
  refine lv_iconst (v := 0) hx hb d_Pr_init_21 (by decide) ?_
  refine lv_istore_n hx hb d_Pr_init_22 rfl hl (by decide) rfl (fun ls hl => ?_)
  refine lv_iload_n hx hb d_Pr_init_23 rfl (lv_at hl 0 rfl) ?_
  refine lv_iconst (v := 4) hx hb d_Pr_init_24 (by decide) ?_
  refine lv_icmp_ge (tgt := 47) hx hb d_Pr_init_25 rfl (fun z => absurd z (by decide)) (fun _ => ?_)
  refine lv_aload_n hx hb d_Pr_init_28 rfl (lv_at hl 1 rfl) ?_
  refine va_get (D := D) (ci := 1) (v := .ref q2) (C := jR_Pr) (T := jF_Pr) (N := 6) hx hb hts ji_Pr hown hK hP 0 rfl rfl 5 (by decide) (hts _ (jw_1 (List.mem_of_getElem? (i := 95) rfl) rfl)) (fun _ h9 => h9) rfl d_Pr_init_29 ?_
  refine lv_iload_n hx hb d_Pr_init_32 rfl (lv_at hl 0 rfl) ?_
  refine va_new (D := D) (ci := 2) (fs := [.int 0, .int 0, .int 0, .int 0, .int 0, .int 0, .int 0, .int 0, .null]) (C := jR_Me) (T := jF_Me) (N := 9) hx hb hts ji_Me jt_Me jt_Me_ok hown (hts (.classLink "VerifiedCode$Program" 15 "VerifiedCode$Method") (jw_1 (List.mem_of_getElem? (i := 32) rfl) rfl)) (hts (.instantiable "VerifiedCode$Method" 9) (jw_1 (List.mem_of_getElem? (i := 34) rfl) rfl)) (hts (.initialized "VerifiedCode$Method") (jw_1 (List.mem_of_getElem? (i := 3) rfl) rfl)) hK hP hD hS hA rfl (fun j hj => by match j, hj with | 0, _ => rfl | 1, _ => rfl | 2, _ => rfl | 3, _ => rfl | 4, _ => rfl | 5, _ => rfl | 6, _ => rfl | 7, _ => rfl | 8, _ => rfl | z + 9, hz => exact absurd hz (by omega)) (Nat.le_of_ble_eq_true rfl) (Nat.le_of_ble_eq_true rfl) d_Pr_init_33 (fun q3 H hP hD hS => ?_)
  have hP : va_P D j_cl [(h0, .inr (1, [.ref q1, .int 0, .int 0, .int 0, .int 0, .ref q2])), (q1, .inl (cI, 240, .inl (fun _ => 0))), (q2, .inl (cM, 4, .inr (.inr (.inr (.inr (fun _ => none)))))), (q3, .inr (2, [.int 0, .int 0, .int 0, .int 0, .int 0, .int 0, .int 0, .int 0, .null]))] H := hP
  have hD : va_D A [(h0, .inr (1, [.ref q1, .int 0, .int 0, .int 0, .int 0, .ref q2])), (q1, .inl (cI, 240, .inl (fun _ => 0))), (q2, .inl (cM, 4, .inr (.inr (.inr (.inr (fun _ => none)))))), (q3, .inr (2, [.int 0, .int 0, .int 0, .int 0, .int 0, .int 0, .int 0, .int 0, .null]))] := hD
  refine lv_dup hx hb d_Pr_init_36 rfl ?_
  have hPc := hP.sub (ws' := [(q3, .inr (2, [.int 0, .int 0, .int 0, .int 0, .int 0, .int 0, .int 0, .int 0, .null]))]) [3] rfl
  have hDc := hD.sub (ws' := [(q3, .inr (2, [.int 0, .int 0, .int 0, .int 0, .int 0, .int 0, .int 0, .int 0, .null]))]) [3] (by decide) rfl
  have hFc := va_free (wc := [(q3, .inr (2, [.int 0, .int 0, .int 0, .int 0, .int 0, .int 0, .int 0, .int 0, .null]))]) hD hS hA [3] rfl
  refine va_callv (va_runI (As := []) (rest := [.ref q3, .int 0, .ref q2]) ⟨hx, hb, hml, hown, hts⟩ (i_Me (d := d + 0) l D cI cZ cM cS q3 H.size) (ja_cw hw hts rfl (jw_1 (List.mem_of_getElem? (i := 3) rfl) rfl) (jw_1 (List.mem_of_getElem? (i := 37) rfl) rfl) (jw_1 (List.mem_of_getElem? (i := 35) rfl) rfl) (jw_1 (List.mem_of_getElem? (i := 36) rfl) rfl) rfl (by decide +kernel) (by decide) ⟨Nat.le_refl _, Nat.le_refl _⟩) ⟨ja_blind, fun U hU hW => ⟨rfl, by rw [hU], by rw [hU]; exact hPc, va_K.moved hW.alike hK, hDc.weaken (fun _ _ _ _ => trivial), hw.moved hW, hao.moved hW.alike⟩⟩ rfl rfl hl.1 rfl (lv_room (Nat.le_of_ble_eq_true rfl)) d_Pr_init_37 ⟨Nat.le_of_ble_eq_true rfl, Nat.le_of_ble_eq_true rfl⟩) hS (fun q _ h => hFc q h) hFc (fun u t H1 locs ht hvm hu hB hz1 hk1 hS => ?_)
  obtain ⟨w1, hw1, hP1, hK1, hD1⟩ := hB
  obtain ⟨q4, rfl⟩ := hw1
  rw [ht] at hP1
  obtain ⟨hP, hD⟩ := va_join (wr := [(h0, .inr (1, [.ref q1, .int 0, .int 0, .int 0, .int 0, .ref q2])), (q1, .inl (cI, 240, .inl (fun _ => 0))), (q2, .inl (cM, 4, .inr (.inr (.inr (.inr (fun _ => none))))))]) (w1 := [(q3, .inr (2, [.int 0, .int 0, .int 0, .int 0, .int 0, .int 0, .int 0, .int 0, .ref q4])), (q4, .inl (cI, 8, .inl (fun _ => 0)))]) hP hD [3] [0, 1, 2] rfl rfl (by decide) (by decide) hk1 hFc hP1 hD1
  generalize H1 = H at hP hS ⊢
  have hP : va_P D j_cl [(h0, .inr (1, [.ref q1, .int 0, .int 0, .int 0, .int 0, .ref q2])), (q1, .inl (cI, 240, .inl (fun _ => 0))), (q2, .inl (cM, 4, .inr (.inr (.inr (.inr (fun _ => none)))))), (q3, .inr (2, [.int 0, .int 0, .int 0, .int 0, .int 0, .int 0, .int 0, .int 0, .ref q4])), (q4, .inl (cI, 8, .inl (fun _ => 0)))] H := hP
  have hD : va_D A [(h0, .inr (1, [.ref q1, .int 0, .int 0, .int 0, .int 0, .ref q2])), (q1, .inl (cI, 240, .inl (fun _ => 0))), (q2, .inl (cM, 4, .inr (.inr (.inr (.inr (fun _ => none)))))), (q3, .inr (2, [.int 0, .int 0, .int 0, .int 0, .int 0, .int 0, .int 0, .int 0, .ref q4])), (q4, .inl (cI, 8, .inl (fun _ => 0)))] := hD
  refine va_astq (D := D) (r := (jR_Me, jF_Me, 9)) hx hb hK hP hD hS 2 2 3 2 rfl rfl rfl rfl (i := 0) (by unfold vp_in; decide) d_Pr_init_40 (fun H locs hP hD hS => ?_)
  have hP : va_P D j_cl [(h0, .inr (1, [.ref q1, .int 0, .int 0, .int 0, .int 0, .ref q2])), (q1, .inl (cI, 240, .inl (fun _ => 0))), (q2, .inl (cM, 4, .inr (.inr (.inr (.inr (va_up (fun _ => none) 0 (some q3))))))), (q3, .inr (2, [.int 0, .int 0, .int 0, .int 0, .int 0, .int 0, .int 0, .int 0, .ref q4])), (q4, .inl (cI, 8, .inl (fun _ => 0)))] H := hP
  have hD : va_D A [(h0, .inr (1, [.ref q1, .int 0, .int 0, .int 0, .int 0, .ref q2])), (q1, .inl (cI, 240, .inl (fun _ => 0))), (q2, .inl (cM, 4, .inr (.inr (.inr (.inr (va_up (fun _ => none) 0 (some q3))))))), (q3, .inr (2, [.int 0, .int 0, .int 0, .int 0, .int 0, .int 0, .int 0, .int 0, .ref q4])), (q4, .inl (cI, 8, .inl (fun _ => 0)))] := hD
  refine lv_iinc (k := 0) (v := 1) hx hb d_Pr_init_41 hl rfl (by decide) (by decide) rfl (fun ls hl => ?_)
  refine lv_goto (tgt := 23) hx hb d_Pr_init_44 rfl ?_
  refine lv_iload_n hx hb d_Pr_init_23 rfl (lv_at hl 0 rfl) ?_
  refine lv_iconst (v := 4) hx hb d_Pr_init_24 (by decide) ?_
  refine lv_icmp_ge (tgt := 47) hx hb d_Pr_init_25 rfl (fun z => absurd z (by decide)) (fun _ => ?_)
  refine lv_aload_n hx hb d_Pr_init_28 rfl (lv_at hl 1 rfl) ?_
  refine va_get (D := D) (ci := 1) (v := .ref q2) (C := jR_Pr) (T := jF_Pr) (N := 6) hx hb hts ji_Pr hown hK hP 0 rfl rfl 5 (by decide) (hts _ (jw_1 (List.mem_of_getElem? (i := 95) rfl) rfl)) (fun _ h9 => h9) rfl d_Pr_init_29 ?_
  refine lv_iload_n hx hb d_Pr_init_32 rfl (lv_at hl 0 rfl) ?_
  refine va_new (D := D) (ci := 2) (fs := [.int 0, .int 0, .int 0, .int 0, .int 0, .int 0, .int 0, .int 0, .null]) (C := jR_Me) (T := jF_Me) (N := 9) hx hb hts ji_Me jt_Me jt_Me_ok hown (hts (.classLink "VerifiedCode$Program" 15 "VerifiedCode$Method") (jw_1 (List.mem_of_getElem? (i := 32) rfl) rfl)) (hts (.instantiable "VerifiedCode$Method" 9) (jw_1 (List.mem_of_getElem? (i := 34) rfl) rfl)) (hts (.initialized "VerifiedCode$Method") (jw_1 (List.mem_of_getElem? (i := 3) rfl) rfl)) hK hP hD hS hA rfl (fun j hj => by match j, hj with | 0, _ => rfl | 1, _ => rfl | 2, _ => rfl | 3, _ => rfl | 4, _ => rfl | 5, _ => rfl | 6, _ => rfl | 7, _ => rfl | 8, _ => rfl | z + 9, hz => exact absurd hz (by omega)) (Nat.le_of_ble_eq_true rfl) (Nat.le_of_ble_eq_true rfl) d_Pr_init_33 (fun q5 H hP hD hS => ?_)
  have hP : va_P D j_cl [(h0, .inr (1, [.ref q1, .int 0, .int 0, .int 0, .int 0, .ref q2])), (q1, .inl (cI, 240, .inl (fun _ => 0))), (q2, .inl (cM, 4, .inr (.inr (.inr (.inr (va_up (fun _ => none) 0 (some q3))))))), (q3, .inr (2, [.int 0, .int 0, .int 0, .int 0, .int 0, .int 0, .int 0, .int 0, .ref q4])), (q4, .inl (cI, 8, .inl (fun _ => 0))), (q5, .inr (2, [.int 0, .int 0, .int 0, .int 0, .int 0, .int 0, .int 0, .int 0, .null]))] H := hP
  have hD : va_D A [(h0, .inr (1, [.ref q1, .int 0, .int 0, .int 0, .int 0, .ref q2])), (q1, .inl (cI, 240, .inl (fun _ => 0))), (q2, .inl (cM, 4, .inr (.inr (.inr (.inr (va_up (fun _ => none) 0 (some q3))))))), (q3, .inr (2, [.int 0, .int 0, .int 0, .int 0, .int 0, .int 0, .int 0, .int 0, .ref q4])), (q4, .inl (cI, 8, .inl (fun _ => 0))), (q5, .inr (2, [.int 0, .int 0, .int 0, .int 0, .int 0, .int 0, .int 0, .int 0, .null]))] := hD
  refine lv_dup hx hb d_Pr_init_36 rfl ?_
  have hPc := hP.sub (ws' := [(q5, .inr (2, [.int 0, .int 0, .int 0, .int 0, .int 0, .int 0, .int 0, .int 0, .null]))]) [5] rfl
  have hDc := hD.sub (ws' := [(q5, .inr (2, [.int 0, .int 0, .int 0, .int 0, .int 0, .int 0, .int 0, .int 0, .null]))]) [5] (by decide) rfl
  have hFc := va_free (wc := [(q5, .inr (2, [.int 0, .int 0, .int 0, .int 0, .int 0, .int 0, .int 0, .int 0, .null]))]) hD hS hA [5] rfl
  refine va_callv (va_runI (As := []) (rest := [.ref q5, .int 1, .ref q2]) ⟨hx, hb, hml, hown, hts⟩ (i_Me (d := d + 0) l D cI cZ cM cS q5 H.size) (ja_cw hw hts rfl (jw_1 (List.mem_of_getElem? (i := 3) rfl) rfl) (jw_1 (List.mem_of_getElem? (i := 37) rfl) rfl) (jw_1 (List.mem_of_getElem? (i := 35) rfl) rfl) (jw_1 (List.mem_of_getElem? (i := 36) rfl) rfl) rfl (by decide +kernel) (by decide) ⟨Nat.le_refl _, Nat.le_refl _⟩) ⟨ja_blind, fun U hU hW => ⟨rfl, by rw [hU], by rw [hU]; exact hPc, va_K.moved hW.alike hK, hDc.weaken (fun _ _ _ _ => trivial), hw.moved hW, hao.moved hW.alike⟩⟩ rfl rfl hl.1 rfl (lv_room (Nat.le_of_ble_eq_true rfl)) d_Pr_init_37 ⟨Nat.le_of_ble_eq_true rfl, Nat.le_of_ble_eq_true rfl⟩) hS (fun q _ h => hFc q h) hFc (fun u t H1 locs ht hvm hu hB hz1 hk1 hS => ?_)
  obtain ⟨w1, hw1, hP1, hK1, hD1⟩ := hB
  obtain ⟨q6, rfl⟩ := hw1
  rw [ht] at hP1
  obtain ⟨hP, hD⟩ := va_join (wr := [(h0, .inr (1, [.ref q1, .int 0, .int 0, .int 0, .int 0, .ref q2])), (q1, .inl (cI, 240, .inl (fun _ => 0))), (q2, .inl (cM, 4, .inr (.inr (.inr (.inr (va_up (fun _ => none) 0 (some q3))))))), (q3, .inr (2, [.int 0, .int 0, .int 0, .int 0, .int 0, .int 0, .int 0, .int 0, .ref q4])), (q4, .inl (cI, 8, .inl (fun _ => 0)))]) (w1 := [(q5, .inr (2, [.int 0, .int 0, .int 0, .int 0, .int 0, .int 0, .int 0, .int 0, .ref q6])), (q6, .inl (cI, 8, .inl (fun _ => 0)))]) hP hD [5] [0, 1, 2, 3, 4] rfl rfl (by decide) (by decide) hk1 hFc hP1 hD1
  generalize H1 = H at hP hS ⊢
  have hP : va_P D j_cl [(h0, .inr (1, [.ref q1, .int 0, .int 0, .int 0, .int 0, .ref q2])), (q1, .inl (cI, 240, .inl (fun _ => 0))), (q2, .inl (cM, 4, .inr (.inr (.inr (.inr (va_up (fun _ => none) 0 (some q3))))))), (q3, .inr (2, [.int 0, .int 0, .int 0, .int 0, .int 0, .int 0, .int 0, .int 0, .ref q4])), (q4, .inl (cI, 8, .inl (fun _ => 0))), (q5, .inr (2, [.int 0, .int 0, .int 0, .int 0, .int 0, .int 0, .int 0, .int 0, .ref q6])), (q6, .inl (cI, 8, .inl (fun _ => 0)))] H := hP
  have hD : va_D A [(h0, .inr (1, [.ref q1, .int 0, .int 0, .int 0, .int 0, .ref q2])), (q1, .inl (cI, 240, .inl (fun _ => 0))), (q2, .inl (cM, 4, .inr (.inr (.inr (.inr (va_up (fun _ => none) 0 (some q3))))))), (q3, .inr (2, [.int 0, .int 0, .int 0, .int 0, .int 0, .int 0, .int 0, .int 0, .ref q4])), (q4, .inl (cI, 8, .inl (fun _ => 0))), (q5, .inr (2, [.int 0, .int 0, .int 0, .int 0, .int 0, .int 0, .int 0, .int 0, .ref q6])), (q6, .inl (cI, 8, .inl (fun _ => 0)))] := hD
  refine va_astq (D := D) (r := (jR_Me, jF_Me, 9)) hx hb hK hP hD hS 2 2 5 2 rfl rfl rfl rfl (i := 1) (by unfold vp_in; decide) d_Pr_init_40 (fun H locs hP hD hS => ?_)
  have hP : va_P D j_cl [(h0, .inr (1, [.ref q1, .int 0, .int 0, .int 0, .int 0, .ref q2])), (q1, .inl (cI, 240, .inl (fun _ => 0))), (q2, .inl (cM, 4, .inr (.inr (.inr (.inr (va_up (va_up (fun _ => none) 0 (some q3)) 1 (some q5))))))), (q3, .inr (2, [.int 0, .int 0, .int 0, .int 0, .int 0, .int 0, .int 0, .int 0, .ref q4])), (q4, .inl (cI, 8, .inl (fun _ => 0))), (q5, .inr (2, [.int 0, .int 0, .int 0, .int 0, .int 0, .int 0, .int 0, .int 0, .ref q6])), (q6, .inl (cI, 8, .inl (fun _ => 0)))] H := hP
  have hD : va_D A [(h0, .inr (1, [.ref q1, .int 0, .int 0, .int 0, .int 0, .ref q2])), (q1, .inl (cI, 240, .inl (fun _ => 0))), (q2, .inl (cM, 4, .inr (.inr (.inr (.inr (va_up (va_up (fun _ => none) 0 (some q3)) 1 (some q5))))))), (q3, .inr (2, [.int 0, .int 0, .int 0, .int 0, .int 0, .int 0, .int 0, .int 0, .ref q4])), (q4, .inl (cI, 8, .inl (fun _ => 0))), (q5, .inr (2, [.int 0, .int 0, .int 0, .int 0, .int 0, .int 0, .int 0, .int 0, .ref q6])), (q6, .inl (cI, 8, .inl (fun _ => 0)))] := hD
  refine lv_iinc (k := 0) (v := 2) hx hb d_Pr_init_41 hl rfl (by decide) (by decide) rfl (fun ls hl => ?_)
  refine lv_goto (tgt := 23) hx hb d_Pr_init_44 rfl ?_
  refine lv_iload_n hx hb d_Pr_init_23 rfl (lv_at hl 0 rfl) ?_
  refine lv_iconst (v := 4) hx hb d_Pr_init_24 (by decide) ?_
  refine lv_icmp_ge (tgt := 47) hx hb d_Pr_init_25 rfl (fun z => absurd z (by decide)) (fun _ => ?_)
  refine lv_aload_n hx hb d_Pr_init_28 rfl (lv_at hl 1 rfl) ?_
  refine va_get (D := D) (ci := 1) (v := .ref q2) (C := jR_Pr) (T := jF_Pr) (N := 6) hx hb hts ji_Pr hown hK hP 0 rfl rfl 5 (by decide) (hts _ (jw_1 (List.mem_of_getElem? (i := 95) rfl) rfl)) (fun _ h9 => h9) rfl d_Pr_init_29 ?_
  refine lv_iload_n hx hb d_Pr_init_32 rfl (lv_at hl 0 rfl) ?_
  refine va_new (D := D) (ci := 2) (fs := [.int 0, .int 0, .int 0, .int 0, .int 0, .int 0, .int 0, .int 0, .null]) (C := jR_Me) (T := jF_Me) (N := 9) hx hb hts ji_Me jt_Me jt_Me_ok hown (hts (.classLink "VerifiedCode$Program" 15 "VerifiedCode$Method") (jw_1 (List.mem_of_getElem? (i := 32) rfl) rfl)) (hts (.instantiable "VerifiedCode$Method" 9) (jw_1 (List.mem_of_getElem? (i := 34) rfl) rfl)) (hts (.initialized "VerifiedCode$Method") (jw_1 (List.mem_of_getElem? (i := 3) rfl) rfl)) hK hP hD hS hA rfl (fun j hj => by match j, hj with | 0, _ => rfl | 1, _ => rfl | 2, _ => rfl | 3, _ => rfl | 4, _ => rfl | 5, _ => rfl | 6, _ => rfl | 7, _ => rfl | 8, _ => rfl | z + 9, hz => exact absurd hz (by omega)) (Nat.le_of_ble_eq_true rfl) (Nat.le_of_ble_eq_true rfl) d_Pr_init_33 (fun q7 H hP hD hS => ?_)
  have hP : va_P D j_cl [(h0, .inr (1, [.ref q1, .int 0, .int 0, .int 0, .int 0, .ref q2])), (q1, .inl (cI, 240, .inl (fun _ => 0))), (q2, .inl (cM, 4, .inr (.inr (.inr (.inr (va_up (va_up (fun _ => none) 0 (some q3)) 1 (some q5))))))), (q3, .inr (2, [.int 0, .int 0, .int 0, .int 0, .int 0, .int 0, .int 0, .int 0, .ref q4])), (q4, .inl (cI, 8, .inl (fun _ => 0))), (q5, .inr (2, [.int 0, .int 0, .int 0, .int 0, .int 0, .int 0, .int 0, .int 0, .ref q6])), (q6, .inl (cI, 8, .inl (fun _ => 0))), (q7, .inr (2, [.int 0, .int 0, .int 0, .int 0, .int 0, .int 0, .int 0, .int 0, .null]))] H := hP
  have hD : va_D A [(h0, .inr (1, [.ref q1, .int 0, .int 0, .int 0, .int 0, .ref q2])), (q1, .inl (cI, 240, .inl (fun _ => 0))), (q2, .inl (cM, 4, .inr (.inr (.inr (.inr (va_up (va_up (fun _ => none) 0 (some q3)) 1 (some q5))))))), (q3, .inr (2, [.int 0, .int 0, .int 0, .int 0, .int 0, .int 0, .int 0, .int 0, .ref q4])), (q4, .inl (cI, 8, .inl (fun _ => 0))), (q5, .inr (2, [.int 0, .int 0, .int 0, .int 0, .int 0, .int 0, .int 0, .int 0, .ref q6])), (q6, .inl (cI, 8, .inl (fun _ => 0))), (q7, .inr (2, [.int 0, .int 0, .int 0, .int 0, .int 0, .int 0, .int 0, .int 0, .null]))] := hD
  refine lv_dup hx hb d_Pr_init_36 rfl ?_
  have hPc := hP.sub (ws' := [(q7, .inr (2, [.int 0, .int 0, .int 0, .int 0, .int 0, .int 0, .int 0, .int 0, .null]))]) [7] rfl
  have hDc := hD.sub (ws' := [(q7, .inr (2, [.int 0, .int 0, .int 0, .int 0, .int 0, .int 0, .int 0, .int 0, .null]))]) [7] (by decide) rfl
  have hFc := va_free (wc := [(q7, .inr (2, [.int 0, .int 0, .int 0, .int 0, .int 0, .int 0, .int 0, .int 0, .null]))]) hD hS hA [7] rfl
  refine va_callv (va_runI (As := []) (rest := [.ref q7, .int 2, .ref q2]) ⟨hx, hb, hml, hown, hts⟩ (i_Me (d := d + 0) l D cI cZ cM cS q7 H.size) (ja_cw hw hts rfl (jw_1 (List.mem_of_getElem? (i := 3) rfl) rfl) (jw_1 (List.mem_of_getElem? (i := 37) rfl) rfl) (jw_1 (List.mem_of_getElem? (i := 35) rfl) rfl) (jw_1 (List.mem_of_getElem? (i := 36) rfl) rfl) rfl (by decide +kernel) (by decide) ⟨Nat.le_refl _, Nat.le_refl _⟩) ⟨ja_blind, fun U hU hW => ⟨rfl, by rw [hU], by rw [hU]; exact hPc, va_K.moved hW.alike hK, hDc.weaken (fun _ _ _ _ => trivial), hw.moved hW, hao.moved hW.alike⟩⟩ rfl rfl hl.1 rfl (lv_room (Nat.le_of_ble_eq_true rfl)) d_Pr_init_37 ⟨Nat.le_of_ble_eq_true rfl, Nat.le_of_ble_eq_true rfl⟩) hS (fun q _ h => hFc q h) hFc (fun u t H1 locs ht hvm hu hB hz1 hk1 hS => ?_)
  obtain ⟨w1, hw1, hP1, hK1, hD1⟩ := hB
  obtain ⟨q8, rfl⟩ := hw1
  rw [ht] at hP1
  obtain ⟨hP, hD⟩ := va_join (wr := [(h0, .inr (1, [.ref q1, .int 0, .int 0, .int 0, .int 0, .ref q2])), (q1, .inl (cI, 240, .inl (fun _ => 0))), (q2, .inl (cM, 4, .inr (.inr (.inr (.inr (va_up (va_up (fun _ => none) 0 (some q3)) 1 (some q5))))))), (q3, .inr (2, [.int 0, .int 0, .int 0, .int 0, .int 0, .int 0, .int 0, .int 0, .ref q4])), (q4, .inl (cI, 8, .inl (fun _ => 0))), (q5, .inr (2, [.int 0, .int 0, .int 0, .int 0, .int 0, .int 0, .int 0, .int 0, .ref q6])), (q6, .inl (cI, 8, .inl (fun _ => 0)))]) (w1 := [(q7, .inr (2, [.int 0, .int 0, .int 0, .int 0, .int 0, .int 0, .int 0, .int 0, .ref q8])), (q8, .inl (cI, 8, .inl (fun _ => 0)))]) hP hD [7] [0, 1, 2, 3, 4, 5, 6] rfl rfl (by decide) (by decide) hk1 hFc hP1 hD1
  generalize H1 = H at hP hS ⊢
  have hP : va_P D j_cl [(h0, .inr (1, [.ref q1, .int 0, .int 0, .int 0, .int 0, .ref q2])), (q1, .inl (cI, 240, .inl (fun _ => 0))), (q2, .inl (cM, 4, .inr (.inr (.inr (.inr (va_up (va_up (fun _ => none) 0 (some q3)) 1 (some q5))))))), (q3, .inr (2, [.int 0, .int 0, .int 0, .int 0, .int 0, .int 0, .int 0, .int 0, .ref q4])), (q4, .inl (cI, 8, .inl (fun _ => 0))), (q5, .inr (2, [.int 0, .int 0, .int 0, .int 0, .int 0, .int 0, .int 0, .int 0, .ref q6])), (q6, .inl (cI, 8, .inl (fun _ => 0))), (q7, .inr (2, [.int 0, .int 0, .int 0, .int 0, .int 0, .int 0, .int 0, .int 0, .ref q8])), (q8, .inl (cI, 8, .inl (fun _ => 0)))] H := hP
  have hD : va_D A [(h0, .inr (1, [.ref q1, .int 0, .int 0, .int 0, .int 0, .ref q2])), (q1, .inl (cI, 240, .inl (fun _ => 0))), (q2, .inl (cM, 4, .inr (.inr (.inr (.inr (va_up (va_up (fun _ => none) 0 (some q3)) 1 (some q5))))))), (q3, .inr (2, [.int 0, .int 0, .int 0, .int 0, .int 0, .int 0, .int 0, .int 0, .ref q4])), (q4, .inl (cI, 8, .inl (fun _ => 0))), (q5, .inr (2, [.int 0, .int 0, .int 0, .int 0, .int 0, .int 0, .int 0, .int 0, .ref q6])), (q6, .inl (cI, 8, .inl (fun _ => 0))), (q7, .inr (2, [.int 0, .int 0, .int 0, .int 0, .int 0, .int 0, .int 0, .int 0, .ref q8])), (q8, .inl (cI, 8, .inl (fun _ => 0)))] := hD
  refine va_astq (D := D) (r := (jR_Me, jF_Me, 9)) hx hb hK hP hD hS 2 2 7 2 rfl rfl rfl rfl (i := 2) (by unfold vp_in; decide) d_Pr_init_40 (fun H locs hP hD hS => ?_)
  have hP : va_P D j_cl [(h0, .inr (1, [.ref q1, .int 0, .int 0, .int 0, .int 0, .ref q2])), (q1, .inl (cI, 240, .inl (fun _ => 0))), (q2, .inl (cM, 4, .inr (.inr (.inr (.inr (va_up (va_up (va_up (fun _ => none) 0 (some q3)) 1 (some q5)) 2 (some q7))))))), (q3, .inr (2, [.int 0, .int 0, .int 0, .int 0, .int 0, .int 0, .int 0, .int 0, .ref q4])), (q4, .inl (cI, 8, .inl (fun _ => 0))), (q5, .inr (2, [.int 0, .int 0, .int 0, .int 0, .int 0, .int 0, .int 0, .int 0, .ref q6])), (q6, .inl (cI, 8, .inl (fun _ => 0))), (q7, .inr (2, [.int 0, .int 0, .int 0, .int 0, .int 0, .int 0, .int 0, .int 0, .ref q8])), (q8, .inl (cI, 8, .inl (fun _ => 0)))] H := hP
  have hD : va_D A [(h0, .inr (1, [.ref q1, .int 0, .int 0, .int 0, .int 0, .ref q2])), (q1, .inl (cI, 240, .inl (fun _ => 0))), (q2, .inl (cM, 4, .inr (.inr (.inr (.inr (va_up (va_up (va_up (fun _ => none) 0 (some q3)) 1 (some q5)) 2 (some q7))))))), (q3, .inr (2, [.int 0, .int 0, .int 0, .int 0, .int 0, .int 0, .int 0, .int 0, .ref q4])), (q4, .inl (cI, 8, .inl (fun _ => 0))), (q5, .inr (2, [.int 0, .int 0, .int 0, .int 0, .int 0, .int 0, .int 0, .int 0, .ref q6])), (q6, .inl (cI, 8, .inl (fun _ => 0))), (q7, .inr (2, [.int 0, .int 0, .int 0, .int 0, .int 0, .int 0, .int 0, .int 0, .ref q8])), (q8, .inl (cI, 8, .inl (fun _ => 0)))] := hD
  refine lv_iinc (k := 0) (v := 3) hx hb d_Pr_init_41 hl rfl (by decide) (by decide) rfl (fun ls hl => ?_)
  refine lv_goto (tgt := 23) hx hb d_Pr_init_44 rfl ?_
  refine lv_iload_n hx hb d_Pr_init_23 rfl (lv_at hl 0 rfl) ?_
  refine lv_iconst (v := 4) hx hb d_Pr_init_24 (by decide) ?_
  refine lv_icmp_ge (tgt := 47) hx hb d_Pr_init_25 rfl (fun z => absurd z (by decide)) (fun _ => ?_)
  refine lv_aload_n hx hb d_Pr_init_28 rfl (lv_at hl 1 rfl) ?_
  refine va_get (D := D) (ci := 1) (v := .ref q2) (C := jR_Pr) (T := jF_Pr) (N := 6) hx hb hts ji_Pr hown hK hP 0 rfl rfl 5 (by decide) (hts _ (jw_1 (List.mem_of_getElem? (i := 95) rfl) rfl)) (fun _ h9 => h9) rfl d_Pr_init_29 ?_
  refine lv_iload_n hx hb d_Pr_init_32 rfl (lv_at hl 0 rfl) ?_
  refine va_new (D := D) (ci := 2) (fs := [.int 0, .int 0, .int 0, .int 0, .int 0, .int 0, .int 0, .int 0, .null]) (C := jR_Me) (T := jF_Me) (N := 9) hx hb hts ji_Me jt_Me jt_Me_ok hown (hts (.classLink "VerifiedCode$Program" 15 "VerifiedCode$Method") (jw_1 (List.mem_of_getElem? (i := 32) rfl) rfl)) (hts (.instantiable "VerifiedCode$Method" 9) (jw_1 (List.mem_of_getElem? (i := 34) rfl) rfl)) (hts (.initialized "VerifiedCode$Method") (jw_1 (List.mem_of_getElem? (i := 3) rfl) rfl)) hK hP hD hS hA rfl (fun j hj => by match j, hj with | 0, _ => rfl | 1, _ => rfl | 2, _ => rfl | 3, _ => rfl | 4, _ => rfl | 5, _ => rfl | 6, _ => rfl | 7, _ => rfl | 8, _ => rfl | z + 9, hz => exact absurd hz (by omega)) (Nat.le_of_ble_eq_true rfl) (Nat.le_of_ble_eq_true rfl) d_Pr_init_33 (fun q9 H hP hD hS => ?_)
  have hP : va_P D j_cl [(h0, .inr (1, [.ref q1, .int 0, .int 0, .int 0, .int 0, .ref q2])), (q1, .inl (cI, 240, .inl (fun _ => 0))), (q2, .inl (cM, 4, .inr (.inr (.inr (.inr (va_up (va_up (va_up (fun _ => none) 0 (some q3)) 1 (some q5)) 2 (some q7))))))), (q3, .inr (2, [.int 0, .int 0, .int 0, .int 0, .int 0, .int 0, .int 0, .int 0, .ref q4])), (q4, .inl (cI, 8, .inl (fun _ => 0))), (q5, .inr (2, [.int 0, .int 0, .int 0, .int 0, .int 0, .int 0, .int 0, .int 0, .ref q6])), (q6, .inl (cI, 8, .inl (fun _ => 0))), (q7, .inr (2, [.int 0, .int 0, .int 0, .int 0, .int 0, .int 0, .int 0, .int 0, .ref q8])), (q8, .inl (cI, 8, .inl (fun _ => 0))), (q9, .inr (2, [.int 0, .int 0, .int 0, .int 0, .int 0, .int 0, .int 0, .int 0, .null]))] H := hP
  have hD : va_D A [(h0, .inr (1, [.ref q1, .int 0, .int 0, .int 0, .int 0, .ref q2])), (q1, .inl (cI, 240, .inl (fun _ => 0))), (q2, .inl (cM, 4, .inr (.inr (.inr (.inr (va_up (va_up (va_up (fun _ => none) 0 (some q3)) 1 (some q5)) 2 (some q7))))))), (q3, .inr (2, [.int 0, .int 0, .int 0, .int 0, .int 0, .int 0, .int 0, .int 0, .ref q4])), (q4, .inl (cI, 8, .inl (fun _ => 0))), (q5, .inr (2, [.int 0, .int 0, .int 0, .int 0, .int 0, .int 0, .int 0, .int 0, .ref q6])), (q6, .inl (cI, 8, .inl (fun _ => 0))), (q7, .inr (2, [.int 0, .int 0, .int 0, .int 0, .int 0, .int 0, .int 0, .int 0, .ref q8])), (q8, .inl (cI, 8, .inl (fun _ => 0))), (q9, .inr (2, [.int 0, .int 0, .int 0, .int 0, .int 0, .int 0, .int 0, .int 0, .null]))] := hD
  refine lv_dup hx hb d_Pr_init_36 rfl ?_
  have hPc := hP.sub (ws' := [(q9, .inr (2, [.int 0, .int 0, .int 0, .int 0, .int 0, .int 0, .int 0, .int 0, .null]))]) [9] rfl
  have hDc := hD.sub (ws' := [(q9, .inr (2, [.int 0, .int 0, .int 0, .int 0, .int 0, .int 0, .int 0, .int 0, .null]))]) [9] (by decide) rfl
  have hFc := va_free (wc := [(q9, .inr (2, [.int 0, .int 0, .int 0, .int 0, .int 0, .int 0, .int 0, .int 0, .null]))]) hD hS hA [9] rfl
  refine va_callv (va_runI (As := []) (rest := [.ref q9, .int 3, .ref q2]) ⟨hx, hb, hml, hown, hts⟩ (i_Me (d := d + 0) l D cI cZ cM cS q9 H.size) (ja_cw hw hts rfl (jw_1 (List.mem_of_getElem? (i := 3) rfl) rfl) (jw_1 (List.mem_of_getElem? (i := 37) rfl) rfl) (jw_1 (List.mem_of_getElem? (i := 35) rfl) rfl) (jw_1 (List.mem_of_getElem? (i := 36) rfl) rfl) rfl (by decide +kernel) (by decide) ⟨Nat.le_refl _, Nat.le_refl _⟩) ⟨ja_blind, fun U hU hW => ⟨rfl, by rw [hU], by rw [hU]; exact hPc, va_K.moved hW.alike hK, hDc.weaken (fun _ _ _ _ => trivial), hw.moved hW, hao.moved hW.alike⟩⟩ rfl rfl hl.1 rfl (lv_room (Nat.le_of_ble_eq_true rfl)) d_Pr_init_37 ⟨Nat.le_of_ble_eq_true rfl, Nat.le_of_ble_eq_true rfl⟩) hS (fun q _ h => hFc q h) hFc (fun u t H1 locs ht hvm hu hB hz1 hk1 hS => ?_)
  obtain ⟨w1, hw1, hP1, hK1, hD1⟩ := hB
  obtain ⟨q10, rfl⟩ := hw1
  rw [ht] at hP1
  obtain ⟨hP, hD⟩ := va_join (wr := [(h0, .inr (1, [.ref q1, .int 0, .int 0, .int 0, .int 0, .ref q2])), (q1, .inl (cI, 240, .inl (fun _ => 0))), (q2, .inl (cM, 4, .inr (.inr (.inr (.inr (va_up (va_up (va_up (fun _ => none) 0 (some q3)) 1 (some q5)) 2 (some q7))))))), (q3, .inr (2, [.int 0, .int 0, .int 0, .int 0, .int 0, .int 0, .int 0, .int 0, .ref q4])), (q4, .inl (cI, 8, .inl (fun _ => 0))), (q5, .inr (2, [.int 0, .int 0, .int 0, .int 0, .int 0, .int 0, .int 0, .int 0, .ref q6])), (q6, .inl (cI, 8, .inl (fun _ => 0))), (q7, .inr (2, [.int 0, .int 0, .int 0, .int 0, .int 0, .int 0, .int 0, .int 0, .ref q8])), (q8, .inl (cI, 8, .inl (fun _ => 0)))]) (w1 := [(q9, .inr (2, [.int 0, .int 0, .int 0, .int 0, .int 0, .int 0, .int 0, .int 0, .ref q10])), (q10, .inl (cI, 8, .inl (fun _ => 0)))]) hP hD [9] [0, 1, 2, 3, 4, 5, 6, 7, 8] rfl rfl (by decide) (by decide) hk1 hFc hP1 hD1
  generalize H1 = H at hP hS ⊢
  have hP : va_P D j_cl [(h0, .inr (1, [.ref q1, .int 0, .int 0, .int 0, .int 0, .ref q2])), (q1, .inl (cI, 240, .inl (fun _ => 0))), (q2, .inl (cM, 4, .inr (.inr (.inr (.inr (va_up (va_up (va_up (fun _ => none) 0 (some q3)) 1 (some q5)) 2 (some q7))))))), (q3, .inr (2, [.int 0, .int 0, .int 0, .int 0, .int 0, .int 0, .int 0, .int 0, .ref q4])), (q4, .inl (cI, 8, .inl (fun _ => 0))), (q5, .inr (2, [.int 0, .int 0, .int 0, .int 0, .int 0, .int 0, .int 0, .int 0, .ref q6])), (q6, .inl (cI, 8, .inl (fun _ => 0))), (q7, .inr (2, [.int 0, .int 0, .int 0, .int 0, .int 0, .int 0, .int 0, .int 0, .ref q8])), (q8, .inl (cI, 8, .inl (fun _ => 0))), (q9, .inr (2, [.int 0, .int 0, .int 0, .int 0, .int 0, .int 0, .int 0, .int 0, .ref q10])), (q10, .inl (cI, 8, .inl (fun _ => 0)))] H := hP
  have hD : va_D A [(h0, .inr (1, [.ref q1, .int 0, .int 0, .int 0, .int 0, .ref q2])), (q1, .inl (cI, 240, .inl (fun _ => 0))), (q2, .inl (cM, 4, .inr (.inr (.inr (.inr (va_up (va_up (va_up (fun _ => none) 0 (some q3)) 1 (some q5)) 2 (some q7))))))), (q3, .inr (2, [.int 0, .int 0, .int 0, .int 0, .int 0, .int 0, .int 0, .int 0, .ref q4])), (q4, .inl (cI, 8, .inl (fun _ => 0))), (q5, .inr (2, [.int 0, .int 0, .int 0, .int 0, .int 0, .int 0, .int 0, .int 0, .ref q6])), (q6, .inl (cI, 8, .inl (fun _ => 0))), (q7, .inr (2, [.int 0, .int 0, .int 0, .int 0, .int 0, .int 0, .int 0, .int 0, .ref q8])), (q8, .inl (cI, 8, .inl (fun _ => 0))), (q9, .inr (2, [.int 0, .int 0, .int 0, .int 0, .int 0, .int 0, .int 0, .int 0, .ref q10])), (q10, .inl (cI, 8, .inl (fun _ => 0)))] := hD
  refine va_astq (D := D) (r := (jR_Me, jF_Me, 9)) hx hb hK hP hD hS 2 2 9 2 rfl rfl rfl rfl (i := 3) (by unfold vp_in; decide) d_Pr_init_40 (fun H locs hP hD hS => ?_)
  have hP : va_P D j_cl [(h0, .inr (1, [.ref q1, .int 0, .int 0, .int 0, .int 0, .ref q2])), (q1, .inl (cI, 240, .inl (fun _ => 0))), (q2, .inl (cM, 4, .inr (.inr (.inr (.inr (va_up (va_up (va_up (va_up (fun _ => none) 0 (some q3)) 1 (some q5)) 2 (some q7)) 3 (some q9))))))), (q3, .inr (2, [.int 0, .int 0, .int 0, .int 0, .int 0, .int 0, .int 0, .int 0, .ref q4])), (q4, .inl (cI, 8, .inl (fun _ => 0))), (q5, .inr (2, [.int 0, .int 0, .int 0, .int 0, .int 0, .int 0, .int 0, .int 0, .ref q6])), (q6, .inl (cI, 8, .inl (fun _ => 0))), (q7, .inr (2, [.int 0, .int 0, .int 0, .int 0, .int 0, .int 0, .int 0, .int 0, .ref q8])), (q8, .inl (cI, 8, .inl (fun _ => 0))), (q9, .inr (2, [.int 0, .int 0, .int 0, .int 0, .int 0, .int 0, .int 0, .int 0, .ref q10])), (q10, .inl (cI, 8, .inl (fun _ => 0)))] H := hP
  have hD : va_D A [(h0, .inr (1, [.ref q1, .int 0, .int 0, .int 0, .int 0, .ref q2])), (q1, .inl (cI, 240, .inl (fun _ => 0))), (q2, .inl (cM, 4, .inr (.inr (.inr (.inr (va_up (va_up (va_up (va_up (fun _ => none) 0 (some q3)) 1 (some q5)) 2 (some q7)) 3 (some q9))))))), (q3, .inr (2, [.int 0, .int 0, .int 0, .int 0, .int 0, .int 0, .int 0, .int 0, .ref q4])), (q4, .inl (cI, 8, .inl (fun _ => 0))), (q5, .inr (2, [.int 0, .int 0, .int 0, .int 0, .int 0, .int 0, .int 0, .int 0, .ref q6])), (q6, .inl (cI, 8, .inl (fun _ => 0))), (q7, .inr (2, [.int 0, .int 0, .int 0, .int 0, .int 0, .int 0, .int 0, .int 0, .ref q8])), (q8, .inl (cI, 8, .inl (fun _ => 0))), (q9, .inr (2, [.int 0, .int 0, .int 0, .int 0, .int 0, .int 0, .int 0, .int 0, .ref q10])), (q10, .inl (cI, 8, .inl (fun _ => 0)))] := hD
  refine lv_iinc (k := 0) (v := 4) hx hb d_Pr_init_41 hl rfl (by decide) (by decide) rfl (fun ls hl => ?_)
  refine lv_goto (tgt := 23) hx hb d_Pr_init_44 rfl ?_
  refine lv_iload_n hx hb d_Pr_init_23 rfl (lv_at hl 0 rfl) ?_
  refine lv_iconst (v := 4) hx hb d_Pr_init_24 (by decide) ?_
  refine lv_icmp_ge (tgt := 47) hx hb d_Pr_init_25 rfl (fun _ => ?_) (fun z => absurd (by decide) z)
  exact W.vret hx hb hr (fun t ht hW => ⟨⟨(), rfl, trivial, [(h0, .inr (1, [.ref q1, .int 0, .int 0, .int 0, .int 0, .ref q2])), (q1, .inl (cI, 240, .inl (fun _ => 0))), (q2, .inl (cM, 4, .inr (.inr (.inr (.inr (va_up (va_up (va_up (va_up (fun _ => none) 0 (some q3)) 1 (some q5)) 2 (some q7)) 3 (some q9))))))), (q3, .inr (2, [.int 0, .int 0, .int 0, .int 0, .int 0, .int 0, .int 0, .int 0, .ref q4])), (q4, .inl (cI, 8, .inl (fun _ => 0))), (q5, .inr (2, [.int 0, .int 0, .int 0, .int 0, .int 0, .int 0, .int 0, .int 0, .ref q6])), (q6, .inl (cI, 8, .inl (fun _ => 0))), (q7, .inr (2, [.int 0, .int 0, .int 0, .int 0, .int 0, .int 0, .int 0, .int 0, .ref q8])), (q8, .inl (cI, 8, .inl (fun _ => 0))), (q9, .inr (2, [.int 0, .int 0, .int 0, .int 0, .int 0, .int 0, .int 0, .int 0, .ref q10])), (q10, .inl (cI, 8, .inl (fun _ => 0)))], ⟨q1, q2, q3, q4, q5, q6, q7, q8, q9, q10, rfl⟩, by rw [ht]; exact hP, va_K.moved hW.alike hK, hD⟩, hS.F ht⟩) hS.2.2 d_Pr_init_47
abbrev m_Ck_init : jj_M := (⟨"VerifiedCode$Checker", "<init>", "()V"⟩, prog_2_method_1_code, 1, none)
theorem d_Ck_init_0 : decode m_Ck_init.2.1 0 = .ok (.aload_n 0, 1) := by decide +kernel
theorem d_Ck_init_1 : decode m_Ck_init.2.1 1 = .ok (.invokespecial 3, 3) := by decide +kernel
theorem d_Ck_init_4 : decode m_Ck_init.2.1 4 = .ok (.aload_n 0, 1) := by decide +kernel
theorem d_Ck_init_5 : decode m_Ck_init.2.1 5 = .ok (.new 9, 3) := by decide +kernel
theorem d_Ck_init_8 : decode m_Ck_init.2.1 8 = .ok (.dup, 1) := by decide +kernel
theorem d_Ck_init_9 : decode m_Ck_init.2.1 9 = .ok (.invokespecial 11, 3) := by decide +kernel
theorem d_Ck_init_12 : decode m_Ck_init.2.1 12 = .ok (.putfield 12, 3) := by decide +kernel
theorem d_Ck_init_15 : decode m_Ck_init.2.1 15 = .ok (.return_, 1) := by decide +kernel
set_option maxHeartbeats 8000000 in
set_option maxRecDepth 100000 in
theorem i_Ck {d : Nat} (l : Launch) (D : va_G) (cI cZ cM cS : ClassId) (h0 sz : Nat) : ja_Met l D (ja_T cI cZ cM cS) m_Ck_init (d + 2) 5 29 h0 [(h0, .inr (5, [.null, .int 0]))] sz (fun ws => ∃ q1 q2 q3 q4 q5 : Nat, ws = [(h0, .inr (5, [.ref q1, .int 0])), (q1, .inr (4, [.ref q2, .ref q3, .ref q4, .ref q5, .int 0])), (q2, .inl (cI, 6, .inl (fun _ => 0))), (q3, .inl (cI, 6, .inl (fun _ => 0))), (q4, .inl (cI, 6, .inl (fun _ => 0))), (q5, .inl (cI, 6, .inl (fun _ => 0)))]) := by
  refine Met.ofW (cc := m_Ck_init.2.1) (maxL := 1) (ret := none) rfl rfl ?_
  intro p e s m args below meth c s₁ B hml hv
  obtain ⟨rfl, hsz, hP, hK, hD0, hw, hao⟩ := hv
  have hx := B.exec
  have hb := B.bytes
  have hr := B.returns
  have hlocks := B.notSynchronized
  have hts : ∀ w ∈ j_W, w.before _ s = true := fun w h => hw w h ([Value.ref h0] : List Value).toArray s (jj_wrefl s)
  have hown : s.vm.findClass "VerifiedCode$Checker" = some m.cls := findClass_of_methodNamed B.named
  have hin : meth.name = "<init>" := (name_of_methodNamed B.named B.method).1
  subst hsz
  have hD := hD0.self (sz := s.heap.size)
  generalize hAe : va_A [(h0, .inr (5, [.null, .int 0]))] s.heap.size = A at hD ⊢
  have hA : ∀ q : Nat, s.heap.size ≤ q → A q := fun q h => by rw [← hAe]; exact Or.inr h
  have hS : va_S A s.heap s.heap [] := va_S.rf
  have hP : va_P D j_cl [(h0, .inr (5, [.null, .int 0]))] s.heap := hP
  have hl := lv_entry ([.ref h0]) (n := 1) (Nat.le_of_ble_eq_true rfl)
  rw [lg_entry_eq]
  generalize (lg_sl ([.ref h0]) ++ List.replicate (1 - (lg_sl ([.ref h0])).length) Slot.unset).toArray = ls at hl ⊢
  have hl : lv_has ls 1 [(0, .ref h0)] := hl
  refine lv_aload_n hx hb d_Ck_init_0 rfl (lv_at hl 0 rfl) ?_
  refine W.objInit hx hb hown (hts (.methodLink "VerifiedCode$Checker" 3 Lib.objectInit) (jw_1 (List.mem_of_getElem? (i := 135) rfl) rfl)) (hts (.instanceMethod Lib.objectInit) (jw_1 (List.mem_of_getElem? (i := 24) rfl) rfl)) (hts (.code Lib.objectInit ⟨#[0xb1]⟩ 1 none) (jw_1 (List.mem_of_getElem? (i := 25) rfl) rfl)) rfl (by rw [hml]; exact hl.1) rfl d_Ck_init_1 (Nat.le_of_ble_eq_true rfl) (Nat.le_of_ble_eq_true rfl) ?_
  refine W.eq (g2 := F0 m 4 ls []) rfl ?_
  refine lv_aload_n hx hb d_Ck_init_4 rfl (lv_at hl 0 rfl) ?_
  refine va_new (D := D) (ci := 4) (fs := [.null, .null, .null, .null, .int 0]) (C := jR_St) (T := jF_St) (N := 5) hx hb hts ji_St jt_St jt_St_ok hown (hts (.classLink "VerifiedCode$Checker" 9 "VerifiedCode$State") (jw_1 (List.mem_of_getElem? (i := 136) rfl) rfl)) (hts (.instantiable "VerifiedCode$State" 5) (jw_1 (List.mem_of_getElem? (i := 137) rfl) rfl)) (hts (.initialized "VerifiedCode$State") (jw_1 (List.mem_of_getElem? (i := 6) rfl) rfl)) hK hP hD hS hA rfl (fun j hj => by match j, hj with | 0, _ => rfl | 1, _ => rfl | 2, _ => rfl | 3, _ => rfl | 4, _ => rfl | z + 5, hz => exact absurd hz (by omega)) (Nat.le_of_ble_eq_true rfl) (Nat.le_of_ble_eq_true rfl) d_Ck_init_5 (fun q1 H hP hD hS => ?_)
  have hP : va_P D j_cl [(h0, .inr (5, [.null, .int 0])), (q1, .inr (4, [.null, .null, .null, .null, .int 0]))] H := hP
  have hD : va_D A [(h0, .inr (5, [.null, .int 0])), (q1, .inr (4, [.null, .null, .null, .null, .int 0]))] := hD
  refine lv_dup hx hb d_Ck_init_8 rfl ?_
  have hPc := hP.sub (ws' := [(q1, .inr (4, [.null, .null, .null, .null, .int 0]))]) [1] rfl
  have hDc := hD.sub (ws' := [(q1, .inr (4, [.null, .null, .null, .null, .int 0]))]) [1] (by decide) rfl
  have hFc := va_free (wc := [(q1, .inr (4, [.null, .null, .null, .null, .int 0]))]) hD hS hA [1] rfl
  refine va_callv (va_runI (As := []) (rest := [.ref q1, .ref h0]) ⟨hx, hb, hml, hown, hts⟩ (i_St (d := d + 0) l D cI cZ cM cS q1 H.size) (ja_cw hw hts rfl (jw_1 (List.mem_of_getElem? (i := 6) rfl) rfl) (jw_1 (List.mem_of_getElem? (i := 140) rfl) rfl) (jw_1 (List.mem_of_getElem? (i := 138) rfl) rfl) (jw_1 (List.mem_of_getElem? (i := 139) rfl) rfl) rfl (by decide +kernel) (by decide) ⟨Nat.le_refl _, Nat.le_refl _⟩) ⟨ja_blind, fun U hU hW => ⟨rfl, by rw [hU], by rw [hU]; exact hPc, va_K.moved hW.alike hK, hDc.weaken (fun _ _ _ _ => trivial), hw.moved hW, hao.moved hW.alike⟩⟩ rfl rfl hl.1 rfl (lv_room (Nat.le_of_ble_eq_true rfl)) d_Ck_init_9 ⟨Nat.le_of_ble_eq_true rfl, Nat.le_of_ble_eq_true rfl⟩) hS (fun q _ h => hFc q h) hFc (fun u t H1 locs ht hvm hu hB hz1 hk1 hS => ?_)
  obtain ⟨w1, hw1, hP1, hK1, hD1⟩ := hB
  obtain ⟨q2, q3, q4, q5, rfl⟩ := hw1
  rw [ht] at hP1
  obtain ⟨hP, hD⟩ := va_join (wr := [(h0, .inr (5, [.null, .int 0]))]) (w1 := [(q1, .inr (4, [.ref q2, .ref q3, .ref q4, .ref q5, .int 0])), (q2, .inl (cI, 6, .inl (fun _ => 0))), (q3, .inl (cI, 6, .inl (fun _ => 0))), (q4, .inl (cI, 6, .inl (fun _ => 0))), (q5, .inl (cI, 6, .inl (fun _ => 0)))]) hP hD [1] [0] rfl rfl (by decide) (by decide) hk1 hFc hP1 hD1
  generalize H1 = H at hP hS ⊢
  have hP : va_P D j_cl [(h0, .inr (5, [.null, .int 0])), (q1, .inr (4, [.ref q2, .ref q3, .ref q4, .ref q5, .int 0])), (q2, .inl (cI, 6, .inl (fun _ => 0))), (q3, .inl (cI, 6, .inl (fun _ => 0))), (q4, .inl (cI, 6, .inl (fun _ => 0))), (q5, .inl (cI, 6, .inl (fun _ => 0)))] H := hP
  have hD : va_D A [(h0, .inr (5, [.null, .int 0])), (q1, .inr (4, [.ref q2, .ref q3, .ref q4, .ref q5, .int 0])), (q2, .inl (cI, 6, .inl (fun _ => 0))), (q3, .inl (cI, 6, .inl (fun _ => 0))), (q4, .inl (cI, 6, .inl (fun _ => 0))), (q5, .inl (cI, 6, .inl (fun _ => 0)))] := hD
  refine va_putF (D := D) (ci := 5) (v := .ref q1) (ty := (.object "VerifiedCode$State")) (C := jR_Ck) (T := jF_Ck) (N := 2) hx hb hts ji_Ck jt_Ck jt_Ck_ok jn_Ck hown hK hP hD hS 0 rfl rfl 0 (by decide) (hts _ (jw_1 (List.mem_of_getElem? (i := 162) rfl) rfl)) (fun _ h9 => h9) rfl hin rfl (by decide +kernel) rfl rfl (Nat.le_of_ble_eq_true rfl) d_Ck_init_12 (fun H locs hP hD hS => ?_)
  have hP : va_P D j_cl [(h0, .inr (5, [.ref q1, .int 0])), (q1, .inr (4, [.ref q2, .ref q3, .ref q4, .ref q5, .int 0])), (q2, .inl (cI, 6, .inl (fun _ => 0))), (q3, .inl (cI, 6, .inl (fun _ => 0))), (q4, .inl (cI, 6, .inl (fun _ => 0))), (q5, .inl (cI, 6, .inl (fun _ => 0)))] H := hP
  have hD : va_D A [(h0, .inr (5, [.ref q1, .int 0])), (q1, .inr (4, [.ref q2, .ref q3, .ref q4, .ref q5, .int 0])), (q2, .inl (cI, 6, .inl (fun _ => 0))), (q3, .inl (cI, 6, .inl (fun _ => 0))), (q4, .inl (cI, 6, .inl (fun _ => 0))), (q5, .inl (cI, 6, .inl (fun _ => 0)))] := hD
  exact W.vret hx hb hr (fun t ht hW => ⟨⟨(), rfl, trivial, [(h0, .inr (5, [.ref q1, .int 0])), (q1, .inr (4, [.ref q2, .ref q3, .ref q4, .ref q5, .int 0])), (q2, .inl (cI, 6, .inl (fun _ => 0))), (q3, .inl (cI, 6, .inl (fun _ => 0))), (q4, .inl (cI, 6, .inl (fun _ => 0))), (q5, .inl (cI, 6, .inl (fun _ => 0)))], ⟨q1, q2, q3, q4, q5, rfl⟩, by rw [ht]; exact hP, va_K.moved hW.alike hK, hD⟩, hS.F ht⟩) hS.2.2 d_Ck_init_15
