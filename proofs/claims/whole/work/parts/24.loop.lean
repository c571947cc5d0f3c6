/-! the law's loop -/
theorem jl_cond {L i : Nat} (hL : L ≤ 2560) (hi : i ≤ 3000) : nI L - 5 < nI i ↔ L < i + 5 := by
  rw [show (5 : Int32) = nI 5 from rfl, Int32.lt_iff_toInt_lt, pk_sub_toInt (by omega) (by omega), nI_toInt (by omega)]
  omega
set_option maxHeartbeats 4000000 in
theorem law_loop {X : jj_X} {cL : ClassId} {p : Program} {e : Env} {s : State} {m : MethodId} {below : List Frame} {meth : Method} {c : Code} {b L : Nat} {xs : Nat → Int32} {Rel : jj_Mem → Prop} (G : jl_G X cL p s m c b L xs) (hL : L ≤ 2560) (hSim : Sim Rel) (hr : meth.sig.returnType = ret) (hlk : meth.locks = false) {C0 S0 : Nat} (hC0 : C0 + 600 ≤ 601024) (hS0 : S0 + 6000 ≤ 7293034) :
    ∀ (n j : Nat) (x : jj_Mem) (f : Nat → Int64) (H : Heap) (locs : List Loc) (ls : Array Slot), L + 5 ≤ n + 5 * j → j ≤ 513 → Rel x → va_P X.2.2.1 Y0.2.2.1 (jl_w X cL x f) H → va_S (jl_A X) s.heap H locs → lv_has ls 7 [(4, .int (nI (5 * j))), (0, .ref b), (1, .ref (X.2.1 0)), (2, .ref (X.2.1 58)), (3, .ref X.2.2.2.2.2)] →
      W p X.1 e room_1 s m #[Value.ref b] below meth c H locs (C0 + j) (S0 + 6 * j) (lw_Z below #[Value.ref b] s) (F0 m 23 ls []) := by
  obtain ⟨F, hok, hX, hbl, hB, hT, hN, htr⟩ := id G
  have hx := F.1.1
  have hb := F.1.2.1
  have hbA : ¬ jl_A X b := by have := hok.2.2.2.2.2.2; show ¬ X.2.2.2.2.1 ≤ b; omega
  intro n
  induction n with
  | zero =>
    intro j x f H locs ls hn hj hR hP hS hl
    refine lv_iload hx hb d_La_law_23 (lv_at hl 0 rfl) ?_
    refine lv_aload_n hx hb d_La_law_25 rfl (lv_at hl 1 rfl) ?_
    refine va_slen hx hb hX hbl hbA hS d_La_law_26 ?_
    refine lv_iconst (v := 5) hx hb d_La_law_27 (by decide) ?_
    refine lv_isub hx hb d_La_law_28 ?_
    refine lv_icmp_gt (tgt := 578) hx hb d_La_law_29 rfl (fun _ => ?_) (fun q => absurd ((jl_cond hL (by omega)).mpr (by omega)) q)
    refine lv_iconst (v := 1) hx hb d_La_law_578 (by decide) ?_
    refine va_forget (fun q hq => by have h1 := hS.2.2 q hq; have h2 := hok.2.2.2.2.2.2; show s.heap.size ≤ q.base; rw [h2]; exact h1) ?_
    refine W.widen (k := 601024) (n := 7293034) (by omega) (by omega) ?_
    exact lw_ret hx hb hr hlk d_La_law_579
  | succ n ih =>
    intro j x f H locs ls hn hj hR hP hS hl
    refine lv_iload hx hb d_La_law_23 (lv_at hl 0 rfl) ?_
    refine lv_aload_n hx hb d_La_law_25 rfl (lv_at hl 1 rfl) ?_
    refine va_slen hx hb hX hbl hbA hS d_La_law_26 ?_
    refine lv_iconst (v := 5) hx hb d_La_law_27 (by decide) ?_
    refine lv_isub hx hb d_La_law_28 ?_
    refine lv_icmp_gt (tgt := 578) hx hb d_La_law_29 rfl (fun _ => ?_) (fun q => ?_)
    · refine lv_iconst (v := 1) hx hb d_La_law_578 (by decide) ?_
      refine va_forget (fun q hq => by have h1 := hS.2.2 q hq; have h2 := hok.2.2.2.2.2.2; show s.heap.size ≤ q.base; rw [h2]; exact h1) ?_
      refine W.widen (k := 601024) (n := 7293034) (by omega) (by omega) ?_
      exact lw_ret hx hb hr hlk d_La_law_579
    · have hlt : 5 * j + 5 ≤ L := by
        have h9 : ¬ L < 5 * j + 5 := fun z => q ((jl_cond hL (by omega)).mpr z)
        omega
      have hi : ∀ k : Nat, k < 5 → vp_in (nI (5 * j) + nI k) L := fun k hk => by
        rw [nI_add]
        exact vp_in_nI (by omega) (by omega)
      have hc : C0 + j + 1 ≤ 601024 ∧ S0 + 6 * j + 6 ≤ 7293034 := by omega
      have e5 : nI (5 * j) + 5 = nI (5 * (j + 1)) := by
        rw [show (5 : Int32) = nI 5 from rfl, nI_add]
        rfl
      have kk : ∀ (x' : jj_Mem) (f' : Nat → Int64) (H' : Heap) (locs' : List Loc) (ls' : Array Slot), Rel x' → va_P X.2.2.1 Y0.2.2.1 (jl_w X cL x' f') H' → va_S (jl_A X) s.heap H' locs' → lv_has ls' 7 [(4, .int (nI (5 * j) + 5)), (0, .ref b), (1, .ref (X.2.1 0)), (2, .ref (X.2.1 58)), (3, .ref X.2.2.2.2.2)] → W p X.1 e room_1 s m #[Value.ref b] below meth c H' locs' (C0 + j + 1) (S0 + 6 * j + 6) (lw_Z below #[Value.ref b] s) (F0 m 23 ls' []) := by
        intro x' f' H' locs' ls' q1 q2 q3 q4
        rw [e5] at q4
        have := ih (j + 1) x' f' H' locs' ls' (by omega) (by omega) q1 q2 q3 q4
        rw [show S0 + 6 * (j + 1) = S0 + 6 * j + 6 by omega, show C0 + (j + 1) = C0 + j + 1 by omega] at this
        exact this
      refine lv_aload_n hx hb d_La_law_32 rfl (lv_at hl 1 rfl) ?_
      refine lv_iload hx hb d_La_law_33 (lv_at hl 0 rfl) ?_
      refine va_sld hx hb hX hbl hbA hS (vp_in_nI (by omega) (by omega)) d_La_law_35 ?_
      refine lv_bipush (v := 15) hx hb d_La_law_36 (by decide) ?_
      refine lv_iand hx hb d_La_law_38 ?_
      obtain ⟨k, hk, e1⟩ := pk_andE (xs (Int32.toNatClampNeg (nI (5 * j)))) (m := 15) 4 (by decide)
      rw [e1]
      have hs := hSim x hR
      have hcs : k = 0 ∨ k = 1 ∨ k = 2 ∨ k = 3 ∨ k = 4 ∨ k = 5 ∨ k = 6 ∨ k = 7 ∨ k = 8 ∨ k = 9 ∨ k = 10 ∨ k = 11 ∨ (12 ≤ k ∧ k < 16) := by omega
      rcases hcs with rfl | rfl | rfl | rfl | rfl | rfl | rfl | rfl | rfl | rfl | rfl | rfl | hk2
      · refine lv_tableIn (tgt := 100) hx hb d_La_law_39 (by decide) (by decide) rfl rfl ?_
        exact lc_type G hl hP hS hc hi (hs.1 _ _) kk
      · refine lv_tableIn (tgt := 200) hx hb d_La_law_39 (by decide) (by decide) rfl rfl ?_
        exact lc_poke G hl hP hS hc hi (hs.2.1 _ _) kk
      · refine lv_tableIn (tgt := 248) hx hb d_La_law_39 (by decide) (by decide) rfl rfl ?_
        exact lc_size G hl hP hS hc hi (hs.2.2.1) kk
      · refine lv_tableIn (tgt := 261) hx hb d_La_law_39 (by decide) (by decide) rfl rfl ?_
        exact lc_byteAt G hl hP hS hc hi (hs.2.2.2.1 _) kk
      · refine lv_tableIn (tgt := 317) hx hb d_La_law_39 (by decide) (by decide) rfl rfl ?_
        exact lc_clear G hl hP hS hc hi (hs.2.2.2.2.1) kk
      · refine lv_tableIn (tgt := 328) hx hb d_La_law_39 (by decide) (by decide) rfl rfl ?_
        exact lc_read G hl hP hS hc hi (hs.2.2.2.2.2.1) kk
      · refine lv_tableIn (tgt := 341) hx hb d_La_law_39 (by decide) (by decide) rfl rfl ?_
        exact lc_write G hl hP hS hc hi (hs.2.2.2.2.2.2.1) kk
      · refine lv_tableIn (tgt := 385) hx hb d_La_law_39 (by decide) (by decide) rfl rfl ?_
        exact lc_methods G hl hP hS hc hi (hs.2.2.2.2.2.2.2.1) kk
      · refine lv_tableIn (tgt := 398) hx hb d_La_law_39 (by decide) (by decide) rfl rfl ?_
        exact lc_check G hl hP hS hc hi (hs.2.2.2.2.2.2.2.2.1 _) kk
      · refine lv_tableIn (tgt := 454) hx hb d_La_law_39 (by decide) (by decide) rfl rfl ?_
        exact lc_run G hl hP hS hc hi (hs.2.2.2.2.2.2.2.2.2.1 _ _ _ _) kk
      · refine lv_tableIn (tgt := 546) hx hb d_La_law_39 (by decide) (by decide) rfl rfl ?_
        exact lc_result G hl hP hS hc hi (hs.2.2.2.2.2.2.2.2.2.2.1) kk
      · refine lv_tableIn (tgt := 559) hx hb d_La_law_39 (by decide) (by decide) rfl rfl ?_
        exact lc_steps G hl hP hS hc hi (hs.2.2.2.2.2.2.2.2.2.2.2) kk
      · refine lv_tableOut (tgt := 572) hx hb d_La_law_39 (by rw [nI_toInt (by omega)]; omega) rfl ?_
        refine lv_iinc (k := 0) hx hb d_La_law_572 hl rfl rfl (by decide) rfl (fun ls2 hl2 => ?_)
        refine lv_goto (tgt := 23) hx hb d_La_law_575 rfl ?_
        refine W.widen (k := C0 + j + 1) (n := S0 + 6 * j + 6) (Nat.le_succ _) (Nat.le_add_right _ 6) ?_
        exact kk _ _ _ _ _ hR hP hS (lv_sub hl2 [0, 1, 2, 3, 4] rfl)
