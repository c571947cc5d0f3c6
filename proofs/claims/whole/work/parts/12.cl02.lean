def k_Ma_leave_39 (l0 : Nat) (l3 : Int32) (l4 : Int32) (s0 : Int32) (x : jj_Mem) : Option (Int32 × jj_Mem) :=
  (if (x l0 5) = 0 then jj_b2 (f_Ma_resultOf l0 s0 l4 x) (fun r5 x5 => some (0, (jj_set x5 l0 0 r5))) else (if l3 = 0 then some ((-1), (jj_set x l0 5 ((x l0 5) - 1))) else if jj_inb ((jj_set x l0 5 ((x l0 5) - 1)) l0 5) 4 = true then jj_b1 (f_St_put (l0 + 2 + 5 * (Int32.toNatClampNeg ((jj_set x l0 5 ((x l0 5) - 1)) l0 5))) s0 l4 (jj_set x l0 5 ((x l0 5) - 1))) (fun x4 => some ((-1), x4)) else none))
set_option maxHeartbeats 2000000 in
theorem t_Ma_leave_39 {X : jj_X} {d : Nat} {l0 : Nat} {l3 : Int32} {l4 : Int32} {s0 : Int32} (h_l0 : o_Ma l0) {x : jj_Mem} {q : Int32 × jj_Mem} (h : k_Ma_leave_39 l0 l3 l4 s0 x = some q) : jj_J Y0 X (d + 1) m_Ma_leave 39 [some (.ref l0), none, none, some (.int l3), some (.int l4), none] [.int s0] x (jp_i q) := by
  unfold k_Ma_leave_39 at h
  refine jj_istore (lo' := [_, _, _, _, _, _]) d_Ma_leave_39 rfl (by decide) rfl ?_
  refine jj_aload_n d_Ma_leave_41 rfl ?_
  refine jj_getI d_Ma_leave_42 fk_Ma_38 (sh_Ma h_l0).2 (sh_Ma h_l0).1 rfl rfl ?_
  refine jj_if_ne (tgt := 62) d_Ma_leave_45 rfl (fun c1 => ?_) (fun c1 => ?_)
  · rw [if_neg c1] at h
    refine jj_aload_n d_Ma_leave_62 rfl ?_
    refine jj_dup d_Ma_leave_63 rfl ?_
    refine jj_getI d_Ma_leave_64 fk_Ma_38 (sh_Ma h_l0).2 (sh_Ma h_l0).1 rfl rfl ?_
    refine jj_iconst d_Ma_leave_67 jc_i_1 ?_
    refine jj_isub d_Ma_leave_68 ?_
    refine jj_putI d_Ma_leave_69 pk_Ma_38 (sh_Ma h_l0).2 (sh_Ma h_l0).1 rfl ?_
    refine jj_iload_n d_Ma_leave_72 rfl ?_
    refine jj_if_eq (tgt := 92) d_Ma_leave_73 rfl (fun c2 => ?_) (fun c2 => ?_)
    · rw [if_pos c2] at h
      refine jj_iconst d_Ma_leave_92 jc_i_m1 ?_
      cases h
      exact jj_ireturn d_Ma_leave_93 rfl ⟨rfl, rfl⟩
    · rw [if_neg c2] at h
      refine jj_aload_n d_Ma_leave_76 rfl ?_
      refine jj_getR d_Ma_leave_77 fk_Ma_11 (sh_Ma h_l0).2 (sh_Ma h_l0).1 rfl ?_
      refine jj_aload_n d_Ma_leave_80 rfl ?_
      refine jj_getI d_Ma_leave_81 fk_Ma_38 (sh_Ma h_l0).2 (sh_Ma h_l0).1 rfl rfl ?_
      obtain ⟨i3, h⟩ := jj_gt h
      refine jj_aaload d_Ma_leave_84 rfl (pa_Ma_states h_l0).1 (pa_Ma_states h_l0).2 (jj_inn i3) rfl ?_
      refine jj_iload d_Ma_leave_85 rfl ?_
      refine jj_iload d_Ma_leave_87 rfl ?_
      obtain ⟨x4, e4, h⟩ := jj_b1o h
      refine jj_callVv (as := [.int s0, .int l4]) (c_St_put (d := d + 0) (el_Ma_states h_l0 i3) e4) d_Ma_leave_89 ck_Ma_153 (sh_St (el_Ma_states h_l0 i3)).2 (sh_St (el_Ma_states h_l0 i3)).1 ⟨_, rfl, rfl⟩ rfl rfl (Nat.le_of_ble_eq_true rfl) ?_
      refine jj_iconst d_Ma_leave_92 jc_i_m1 ?_
      cases h
      exact jj_ireturn d_Ma_leave_93 rfl ⟨rfl, rfl⟩
  · rw [if_pos c1] at h
    refine jj_aload_n d_Ma_leave_48 rfl ?_
    refine jj_aload_n d_Ma_leave_49 rfl ?_
    refine jj_iload d_Ma_leave_50 rfl ?_
    refine jj_iload d_Ma_leave_52 rfl ?_
    obtain ⟨r5, x5, e5, h⟩ := jj_b2o h
    refine jj_callVi (as := [.int s0, .int l4]) (c_Ma_resultOf (d := d + 0) h_l0 e5) d_Ma_leave_54 ck_Ma_146 (sh_Ma h_l0).2 (sh_Ma h_l0).1 ⟨_, rfl, rfl⟩ rfl rfl (Nat.le_of_ble_eq_true rfl) ?_
    refine jj_putI d_Ma_leave_57 pk_Ma_150 (sh_Ma h_l0).2 (sh_Ma h_l0).1 rfl ?_
    refine jj_iconst d_Ma_leave_60 jc_i_0 ?_
    cases h
    exact jj_ireturn d_Ma_leave_61 rfl ⟨rfl, rfl⟩
def k_Ma_leave_25 (l0 : Nat) (l1 : Nat) (l3 : Int32) (s0 : Int32) (x : jj_Mem) : Option (Int32 × jj_Mem) :=
  (if l3 = 0 then k_Ma_leave_39 l0 l3 s0 0 x else jj_b2 (f_St_kindTaken l1 x) (fun r2 x2 => k_Ma_leave_39 l0 l3 s0 r2 x2))
set_option maxHeartbeats 2000000 in
theorem t_Ma_leave_25 {X : jj_X} {d : Nat} {l0 : Nat} {l1 : Nat} {l3 : Int32} {s0 : Int32} (h_l0 : o_Ma l0) (h_l1 : o_St l1) {x : jj_Mem} {q : Int32 × jj_Mem} (h : k_Ma_leave_25 l0 l1 l3 s0 x = some q) : jj_J Y0 X (d + 1) m_Ma_leave 25 [some (.ref l0), some (.ref l1), none, some (.int l3), none, none] [.int s0] x (jp_i q) := by
  unfold k_Ma_leave_25 at h
  refine jj_istore (lo' := [_, _, _, _, _, _]) d_Ma_leave_25 rfl (by decide) rfl ?_
  refine jj_iload_n d_Ma_leave_27 rfl ?_
  refine jj_if_eq (tgt := 38) d_Ma_leave_28 rfl (fun c1 => ?_) (fun c1 => ?_)
  · rw [if_pos c1] at h
    refine jj_iconst d_Ma_leave_38 jc_i_0 ?_
    exact jj_J.sub (t_Ma_leave_39 h_l0 h) (fun i v hi => jj_mask_ok [true, false, false, true, true, false] hi)
  · rw [if_neg c1] at h
    refine jj_aload_n d_Ma_leave_31 rfl ?_
    obtain ⟨r2, x2, e2, h⟩ := jj_b2o h
    refine jj_callVi (as := []) (c_St_kindTaken (d := d + 0) h_l1 e2) d_Ma_leave_32 ck_Ma_143 (sh_St h_l1).2 (sh_St h_l1).1 ⟨_, rfl, rfl⟩ rfl rfl (Nat.le_of_ble_eq_true rfl) ?_
    refine jj_goto (tgt := 39) d_Ma_leave_35 rfl ?_
    exact jj_J.sub (t_Ma_leave_39 h_l0 h) (fun i v hi => jj_mask_ok [true, false, false, true, true, false] hi)
def k_Ma_leave_12 (l0 : Nat) (l1 : Nat) (s0 : Int32) (x : jj_Mem) : Option (Int32 × jj_Mem) :=
  (if s0 = 0 then k_Ma_leave_25 l0 l1 s0 0 x else jj_b2 (f_St_take l1 x) (fun r2 x2 => k_Ma_leave_25 l0 l1 s0 r2 x2))
set_option maxHeartbeats 2000000 in
theorem t_Ma_leave_12 {X : jj_X} {d : Nat} {l0 : Nat} {l1 : Nat} {s0 : Int32} (h_l0 : o_Ma l0) (h_l1 : o_St l1) {x : jj_Mem} {q : Int32 × jj_Mem} (h : k_Ma_leave_12 l0 l1 s0 x = some q) : jj_J Y0 X (d + 1) m_Ma_leave 12 [some (.ref l0), some (.ref l1), none, none, none, none] [.int s0] x (jp_i q) := by
  unfold k_Ma_leave_12 at h
  refine jj_istore_n (lo' := [_, _, _, _, _, _]) d_Ma_leave_12 rfl (by decide) rfl ?_
  refine jj_iload_n d_Ma_leave_13 rfl ?_
  refine jj_if_eq (tgt := 24) d_Ma_leave_14 rfl (fun c1 => ?_) (fun c1 => ?_)
  · rw [if_pos c1] at h
    refine jj_iconst d_Ma_leave_24 jc_i_0 ?_
    exact jj_J.sub (t_Ma_leave_25 h_l0 h_l1 h) (fun i v hi => jj_mask_ok [true, true, false, true, false, false] hi)
  · rw [if_neg c1] at h
    refine jj_aload_n d_Ma_leave_17 rfl ?_
    obtain ⟨r2, x2, e2, h⟩ := jj_b2o h
    refine jj_callVi (as := []) (c_St_take (d := d + 0) h_l1 e2) d_Ma_leave_18 ck_Ma_139 (sh_St h_l1).2 (sh_St h_l1).1 ⟨_, rfl, rfl⟩ rfl rfl (Nat.le_of_ble_eq_true rfl) ?_
    refine jj_goto (tgt := 25) d_Ma_leave_21 rfl ?_
    exact jj_J.sub (t_Ma_leave_25 h_l0 h_l1 h) (fun i v hi => jj_mask_ok [true, true, false, true, false, false] hi)
def f_Ma_leave (this : Nat) (a1 : Nat) (a2 : Int32) (x : jj_Mem) : Option (Int32 × jj_Mem) :=
  (if a2 = 177 then k_Ma_leave_12 this a1 0 x else k_Ma_leave_12 this a1 1 x)
set_option maxHeartbeats 2000000 in
theorem t_Ma_leave_0 {X : jj_X} {d : Nat} {this : Nat} {a1 : Nat} {a2 : Int32} (h_this : o_Ma this) (h_a1 : o_St a1) {x : jj_Mem} {q : Int32 × jj_Mem} (h : f_Ma_leave this a1 a2 x = some q) : jj_J Y0 X (d + 1) m_Ma_leave 0 [some (.ref this), some (.ref a1), some (.int a2), none, none, none] [] x (jp_i q) := by
  unfold f_Ma_leave at h
  refine jj_iload_n d_Ma_leave_0 rfl ?_
  refine jj_sipush d_Ma_leave_1 jc_s_177 ?_
  refine jj_ic_eq (tgt := 11) d_Ma_leave_4 rfl (fun c1 => ?_) (fun c1 => ?_)
  · rw [if_pos c1] at h
    refine jj_iconst d_Ma_leave_11 jc_i_0 ?_
    exact jj_J.sub (t_Ma_leave_12 h_this h_a1 h) (fun i v hi => jj_mask_ok [true, true, false, false, false, false] hi)
  · rw [if_neg c1] at h
    refine jj_iconst d_Ma_leave_7 jc_i_1 ?_
    refine jj_goto (tgt := 12) d_Ma_leave_8 rfl ?_
    exact jj_J.sub (t_Ma_leave_12 h_this h_a1 h) (fun i v hi => jj_mask_ok [true, true, false, false, false, false] hi)
theorem c_Ma_leave {X : jj_X} {d : Nat} {this : Nat} {a1 : Nat} {a2 : Int32} (h_this : o_Ma this) (h_a1 : o_St a1) {x : jj_Mem} {q : Int32 × jj_Mem} (h : f_Ma_leave this a1 a2 x = some q) : jj_Met Y0 X (d + 1) m_Ma_leave [.ref this, .ref a1, .int a2] x (jp_i q) :=
  jj_metp 3 (lo := [some (.ref this), some (.ref a1), some (.int a2), none, none, none]) rfl (Nat.le_of_ble_eq_true rfl) rfl (t_Ma_leave_0 h_this h_a1 h)
def k_Ma_setArgument_67 (rec : Nat → List (Option Value) → jj_Mem → Option (jj_Mem)) (l0 : Nat) (l2 : Int32) (l3 : Int32) (l4 : Int32) (l5 : Int32) (x : jj_Mem) : Option (jj_Mem) :=
  if jj_inb l4 8 = true then (if (x (l0 + 25) (Int32.toNatClampNeg l4)) ≤ l5 then if jj_inb 0 4 = true then jj_b1 (f_St_setPlace (l0 + 2 + 5 * (Int32.toNatClampNeg 0)) l2 2 l4 x) (fun x4 => some x4) else none else if jj_inb ((l4 * 8) + l5) 64 = true then rec 67 [some (.ref l0), none, some (.int l2), some (.int l3), some (.int l4), some (.int (l5 + 1))] (jj_set x (l0 + 24) (Int32.toNatClampNeg ((l4 * 8) + l5)) (l3 + l5)) else none) else none
set_option maxHeartbeats 2000000 in
theorem t_Ma_setArgument_67 {X : jj_X} {d : Nat} (rec : Nat → List (Option Value) → jj_Mem → Option (jj_Mem)) (hrec : ∀ (L : Nat) (lo : List (Option Value)) (x : jj_Mem) (q : jj_Mem), rec L lo x = some q → jj_J Y0 X (d + 1) m_Ma_setArgument L lo [] x (jp_v q)) {l0 : Nat} {l2 : Int32} {l3 : Int32} {l4 : Int32} {l5 : Int32} (h_l0 : o_Ma l0) {x : jj_Mem} {q : jj_Mem} (h : k_Ma_setArgument_67 rec l0 l2 l3 l4 l5 x = some q) : jj_J Y0 X (d + 1) m_Ma_setArgument 67 [some (.ref l0), none, some (.int l2), some (.int l3), some (.int l4), some (.int l5)] [] x (jp_v q) := by
  unfold k_Ma_setArgument_67 at h
  refine jj_iload d_Ma_setArgument_67 rfl ?_
  refine jj_aload_n d_Ma_setArgument_69 rfl ?_
  refine jj_getR d_Ma_setArgument_70 fk_Ma_28 (sh_Ma h_l0).2 (sh_Ma h_l0).1 rfl ?_
  refine jj_iload d_Ma_setArgument_73 rfl ?_
  obtain ⟨i1, h⟩ := jj_gt h
  refine jj_iaload d_Ma_setArgument_75 rfl (ar_Ma_lengths h_l0).1 (ar_Ma_lengths h_l0).2 (jj_inn i1) rfl ?_
  refine jj_ic_ge (tgt := 102) d_Ma_setArgument_76 rfl (fun c2 => ?_) (fun c2 => ?_)
  · rw [if_pos c2] at h
    refine jj_aload_n d_Ma_setArgument_102 rfl ?_
    refine jj_getR d_Ma_setArgument_103 fk_Ma_11 (sh_Ma h_l0).2 (sh_Ma h_l0).1 rfl ?_
    refine jj_iconst d_Ma_setArgument_106 jc_i_0 ?_
    obtain ⟨i3, h⟩ := jj_gt h
    refine jj_aaload d_Ma_setArgument_107 rfl (pa_Ma_states h_l0).1 (pa_Ma_states h_l0).2 (jj_inn i3) rfl ?_
    refine jj_iload_n d_Ma_setArgument_108 rfl ?_
    refine jj_iconst d_Ma_setArgument_109 jc_i_2 ?_
    refine jj_iload d_Ma_setArgument_110 rfl ?_
    obtain ⟨x4, e4, h⟩ := jj_b1o h
    refine jj_callVv (as := [.int l2, .int 2, .int l4]) (c_St_setPlace (d := d + 0) (el_Ma_states h_l0 i3) e4) d_Ma_setArgument_112 ck_Ma_67 (sh_St (el_Ma_states h_l0 i3)).2 (sh_St (el_Ma_states h_l0 i3)).1 ⟨_, rfl, rfl⟩ rfl rfl (Nat.le_of_ble_eq_true rfl) ?_
    cases h
    exact jj_return d_Ma_setArgument_115 rfl ⟨rfl, rfl⟩
  · rw [if_neg c2] at h
    refine jj_aload_n d_Ma_setArgument_79 rfl ?_
    refine jj_getR d_Ma_setArgument_80 fk_Ma_25 (sh_Ma h_l0).2 (sh_Ma h_l0).1 rfl ?_
    refine jj_iload d_Ma_setArgument_83 rfl ?_
    refine jj_bipush d_Ma_setArgument_85 jc_b_8 ?_
    refine jj_imul d_Ma_setArgument_87 ?_
    refine jj_iload d_Ma_setArgument_88 rfl ?_
    refine jj_iadd d_Ma_setArgument_90 ?_
    refine jj_iload_n d_Ma_setArgument_91 rfl ?_
    refine jj_iload d_Ma_setArgument_92 rfl ?_
    refine jj_iadd d_Ma_setArgument_94 ?_
    obtain ⟨i5, h⟩ := jj_gt h
    refine jj_iastore d_Ma_setArgument_95 rfl (ar_Ma_elements h_l0).1 (ar_Ma_elements h_l0).2 (jj_inn i5) ?_
    refine jj_iinc (lo' := [_, _, _, _, _, _]) (v := (l5 + 1)) d_Ma_setArgument_96 rfl (jc_a_1 _) rfl (by decide) rfl ?_
    refine jj_goto (tgt := 67) d_Ma_setArgument_99 rfl ?_
    exact jj_J.sub (hrec _ _ _ _ h) (fun i v hi => jj_mask_ok [true, false, true, true, true, true] hi)
def g_Ma_setArgument : Nat → Nat → List (Option Value) → jj_Mem → Option (jj_Mem)
  | 0, _, _, _ => none
  | f + 1, L, lo, x => match L, lo with
    | 67, [some (.ref l0), none, some (.int l2), some (.int l3), some (.int l4), some (.int l5)] => if (bo_Ma l0) = true then k_Ma_setArgument_67 (g_Ma_setArgument f) l0 l2 l3 l4 l5 x else none
    | _, _ => none
set_option maxHeartbeats 2000000 in
theorem t_Ma_setArgument_g {X : jj_X} {d : Nat} : ∀ (f L : Nat) (lo : List (Option Value)) (x : jj_Mem) (q : jj_Mem), g_Ma_setArgument f L lo x = some q → jj_J Y0 X (d + 1) m_Ma_setArgument L lo [] x (jp_v q) := by
  intro f
  induction f with
  | zero => intro L lo x q h; simp [g_Ma_setArgument] at h
  | succ f ih =>
    intro L lo x q h
    unfold g_Ma_setArgument at h
    split at h
    · obtain ⟨i1, h⟩ := jj_gt h
      exact t_Ma_setArgument_67 _ ih (ob_Ma i1) h
    · cases h
def k_Ma_setArgument_0 (rec : Nat → List (Option Value) → jj_Mem → Option (jj_Mem)) (this : Nat) (a1 : Nat) (a2 : Int32) (a3 : Int32) (x : jj_Mem) : Option (jj_Mem) :=
  if jj_inb 0 4 = true then if jj_inb (x (this + 22) (Int32.toNatClampNeg 0)) 4 = true then jj_b2 (f_Pr_parameterType a1 (a1 + 3 + 2 * (Int32.toNatClampNeg (x (this + 22) (Int32.toNatClampNeg 0)))) a2 x) (fun r3 x3 => (if r3 = 1 then if jj_inb 0 4 = true then jj_b1 (f_St_setPlace (this + 2 + 5 * (Int32.toNatClampNeg 0)) a2 1 a3 x3) (fun x10 => some x10) else none else (if 0 ≤ a3 then jj_b2 (f_Ma_newRow this (a3 &&& 7) x3) (fun r6 x6 => rec 67 [some (.ref this), none, some (.int a2), some (.int a3), some (.int r6), some (.int 0)] x6) else if jj_inb 0 4 = true then jj_b1 (f_St_setPlace (this + 2 + 5 * (Int32.toNatClampNeg 0)) a2 3 0 x3) (fun x8 => some x8) else none))) else none else none
set_option maxHeartbeats 2000000 in
theorem t_Ma_setArgument_0 {X : jj_X} {d : Nat} (rec : Nat → List (Option Value) → jj_Mem → Option (jj_Mem)) (hrec : ∀ (L : Nat) (lo : List (Option Value)) (x : jj_Mem) (q : jj_Mem), rec L lo x = some q → jj_J Y0 X (d + 1) m_Ma_setArgument L lo [] x (jp_v q)) {this : Nat} {a1 : Nat} {a2 : Int32} {a3 : Int32} (h_this : o_Ma this) (h_a1 : o_Pr a1) {x : jj_Mem} {q : jj_Mem} (h : k_Ma_setArgument_0 rec this a1 a2 a3 x = some q) : jj_J Y0 X (d + 1) m_Ma_setArgument 0 [some (.ref this), some (.ref a1), some (.int a2), some (.int a3), none, none] [] x (jp_v q) := by
  unfold k_Ma_setArgument_0 at h
  refine jj_aload_n d_Ma_setArgument_0 rfl ?_
  refine jj_aload_n d_Ma_setArgument_1 rfl ?_
  refine jj_getR d_Ma_setArgument_2 fk_Ma_45 (sh_Pr h_a1).2 (sh_Pr h_a1).1 rfl ?_
  refine jj_aload_n d_Ma_setArgument_5 rfl ?_
  refine jj_getR d_Ma_setArgument_6 fk_Ma_18 (sh_Ma h_this).2 (sh_Ma h_this).1 rfl ?_
  refine jj_iconst d_Ma_setArgument_9 jc_i_0 ?_
  obtain ⟨i1, h⟩ := jj_gt h
  refine jj_iaload d_Ma_setArgument_10 rfl (ar_Ma_running h_this).1 (ar_Ma_running h_this).2 (jj_inn i1) rfl ?_
  obtain ⟨i2, h⟩ := jj_gt h
  refine jj_aaload d_Ma_setArgument_11 rfl (pa_Pr_parts h_a1).1 (pa_Pr_parts h_a1).2 (jj_inn i2) rfl ?_
  refine jj_iload_n d_Ma_setArgument_12 rfl ?_
  obtain ⟨r3, x3, e3, h⟩ := jj_b2o h
  refine jj_callVi (as := [.ref (a1 + 3 + 2 * (Int32.toNatClampNeg (x (this + 22) (Int32.toNatClampNeg 0)))), .int a2]) (c_Pr_parameterType (d := d + 0) h_a1 (el_Pr_parts h_a1 i2) e3) d_Ma_setArgument_13 ck_Ma_63 (sh_Pr h_a1).2 (sh_Pr h_a1).1 ⟨_, rfl, rfl⟩ rfl rfl (Nat.le_of_ble_eq_true rfl) ?_
  refine jj_iconst d_Ma_setArgument_16 jc_i_1 ?_
  refine jj_ic_ne (tgt := 35) d_Ma_setArgument_17 rfl (fun c4 => ?_) (fun c4 => ?_)
  · rw [if_neg c4] at h
    refine jj_iload_n d_Ma_setArgument_35 rfl ?_
    refine jj_if_ge (tgt := 54) d_Ma_setArgument_36 rfl (fun c5 => ?_) (fun c5 => ?_)
    · rw [if_pos c5] at h
      refine jj_aload_n d_Ma_setArgument_54 rfl ?_
      refine jj_iload_n d_Ma_setArgument_55 rfl ?_
      refine jj_bipush d_Ma_setArgument_56 jc_b_7 ?_
      refine jj_iand d_Ma_setArgument_58 ?_
      obtain ⟨r6, x6, e6, h⟩ := jj_b2o h
      refine jj_callVi (as := [.int (a3 &&& 7)]) (c_Ma_newRow (d := d + 0) h_this e6) d_Ma_setArgument_59 ck_Ma_71 (sh_Ma h_this).2 (sh_Ma h_this).1 ⟨_, rfl, rfl⟩ rfl rfl (Nat.le_of_ble_eq_true rfl) ?_
      refine jj_istore (lo' := [_, _, _, _, _, _]) d_Ma_setArgument_62 rfl (by decide) rfl ?_
      refine jj_iconst d_Ma_setArgument_64 jc_i_0 ?_
      refine jj_istore (lo' := [_, _, _, _, _, _]) d_Ma_setArgument_65 rfl (by decide) rfl ?_
      exact jj_J.sub (hrec _ _ _ _ h) (fun i v hi => jj_mask_ok [true, false, true, true, true, true] hi)
    · rw [if_neg c5] at h
      refine jj_aload_n d_Ma_setArgument_39 rfl ?_
      refine jj_getR d_Ma_setArgument_40 fk_Ma_11 (sh_Ma h_this).2 (sh_Ma h_this).1 rfl ?_
      refine jj_iconst d_Ma_setArgument_43 jc_i_0 ?_
      obtain ⟨i7, h⟩ := jj_gt h
      refine jj_aaload d_Ma_setArgument_44 rfl (pa_Ma_states h_this).1 (pa_Ma_states h_this).2 (jj_inn i7) rfl ?_
      refine jj_iload_n d_Ma_setArgument_45 rfl ?_
      refine jj_iconst d_Ma_setArgument_46 jc_i_3 ?_
      refine jj_iconst d_Ma_setArgument_47 jc_i_0 ?_
      obtain ⟨x8, e8, h⟩ := jj_b1o h
      refine jj_callVv (as := [.int a2, .int 3, .int 0]) (c_St_setPlace (d := d + 0) (el_Ma_states h_this i7) e8) d_Ma_setArgument_48 ck_Ma_67 (sh_St (el_Ma_states h_this i7)).2 (sh_St (el_Ma_states h_this i7)).1 ⟨_, rfl, rfl⟩ rfl rfl (Nat.le_of_ble_eq_true rfl) ?_
      refine jj_goto (tgt := 115) d_Ma_setArgument_51 rfl ?_
      cases h
      exact jj_return d_Ma_setArgument_115 rfl ⟨rfl, rfl⟩
  · rw [if_pos c4] at h
    refine jj_aload_n d_Ma_setArgument_20 rfl ?_
    refine jj_getR d_Ma_setArgument_21 fk_Ma_11 (sh_Ma h_this).2 (sh_Ma h_this).1 rfl ?_
    refine jj_iconst d_Ma_setArgument_24 jc_i_0 ?_
    obtain ⟨i9, h⟩ := jj_gt h
    refine jj_aaload d_Ma_setArgument_25 rfl (pa_Ma_states h_this).1 (pa_Ma_states h_this).2 (jj_inn i9) rfl ?_
    refine jj_iload_n d_Ma_setArgument_26 rfl ?_
    refine jj_iconst d_Ma_setArgument_27 jc_i_1 ?_
    refine jj_iload_n d_Ma_setArgument_28 rfl ?_
    obtain ⟨x10, e10, h⟩ := jj_b1o h
    refine jj_callVv (as := [.int a2, .int 1, .int a3]) (c_St_setPlace (d := d + 0) (el_Ma_states h_this i9) e10) d_Ma_setArgument_29 ck_Ma_67 (sh_St (el_Ma_states h_this i9)).2 (sh_St (el_Ma_states h_this i9)).1 ⟨_, rfl, rfl⟩ rfl rfl (Nat.le_of_ble_eq_true rfl) ?_
    refine jj_goto (tgt := 115) d_Ma_setArgument_32 rfl ?_
    cases h
    exact jj_return d_Ma_setArgument_115 rfl ⟨rfl, rfl⟩
def f_Ma_setArgument (this : Nat) (a1 : Nat) (a2 : Int32) (a3 : Int32) (x : jj_Mem) : Option (jj_Mem) := k_Ma_setArgument_0 (g_Ma_setArgument 1000) this a1 a2 a3 x
theorem c_Ma_setArgument {X : jj_X} {d : Nat} {this : Nat} {a1 : Nat} {a2 : Int32} {a3 : Int32} (h_this : o_Ma this) (h_a1 : o_Pr a1) {x : jj_Mem} {q : jj_Mem} (h : f_Ma_setArgument this a1 a2 a3 x = some q) : jj_Met Y0 X (d + 1) m_Ma_setArgument [.ref this, .ref a1, .int a2, .int a3] x (jp_v q) :=
  jj_metp 2 (lo := [some (.ref this), some (.ref a1), some (.int a2), some (.int a3), none, none]) rfl (Nat.le_of_ble_eq_true rfl) rfl (t_Ma_setArgument_0 _ (t_Ma_setArgument_g 1000) h_this h_a1 h)
def f_Ma_storeElement (this : Nat) (a1 : Nat) (x : jj_Mem) : Option (jj_Mem) :=
  jj_b2 (f_St_take a1 x) (fun r1 x1 => jj_b2 (f_St_take a1 x1) (fun r2 x2 => jj_b2 (f_St_take a1 x2) (fun r3 x3 => if jj_inb ((r3 * 8) + r2) 64 = true then some (jj_set x3 (this + 24) (Int32.toNatClampNeg ((r3 * 8) + r2)) r1) else none)))
set_option maxHeartbeats 2000000 in
theorem t_Ma_storeElement_0 {X : jj_X} {d : Nat} {this : Nat} {a1 : Nat} (h_this : o_Ma this) (h_a1 : o_St a1) {x : jj_Mem} {q : jj_Mem} (h : f_Ma_storeElement this a1 x = some q) : jj_J Y0 X (d + 1) m_Ma_storeElement 0 [some (.ref this), some (.ref a1), none, none] [] x (jp_v q) := by
  unfold f_Ma_storeElement at h
  refine jj_aload_n d_Ma_storeElement_0 rfl ?_
  obtain ⟨r1, x1, e1, h⟩ := jj_b2o h
  refine jj_callVi (as := []) (c_St_take (d := d + 0) h_a1 e1) d_Ma_storeElement_1 ck_Ma_139 (sh_St h_a1).2 (sh_St h_a1).1 ⟨_, rfl, rfl⟩ rfl rfl (Nat.le_of_ble_eq_true rfl) ?_
  refine jj_istore_n (lo' := [_, _, _, _]) d_Ma_storeElement_4 rfl (by decide) rfl ?_
  refine jj_aload_n d_Ma_storeElement_5 rfl ?_
  obtain ⟨r2, x2, e2, h⟩ := jj_b2o h
  refine jj_callVi (as := []) (c_St_take (d := d + 0) h_a1 e2) d_Ma_storeElement_6 ck_Ma_139 (sh_St h_a1).2 (sh_St h_a1).1 ⟨_, rfl, rfl⟩ rfl rfl (Nat.le_of_ble_eq_true rfl) ?_
  refine jj_istore_n (lo' := [_, _, _, _]) d_Ma_storeElement_9 rfl (by decide) rfl ?_
  refine jj_aload_n d_Ma_storeElement_10 rfl ?_
  refine jj_getR d_Ma_storeElement_11 fk_Ma_25 (sh_Ma h_this).2 (sh_Ma h_this).1 rfl ?_
  refine jj_aload_n d_Ma_storeElement_14 rfl ?_
  obtain ⟨r3, x3, e3, h⟩ := jj_b2o h
  refine jj_callVi (as := []) (c_St_take (d := d + 0) h_a1 e3) d_Ma_storeElement_15 ck_Ma_139 (sh_St h_a1).2 (sh_St h_a1).1 ⟨_, rfl, rfl⟩ rfl rfl (Nat.le_of_ble_eq_true rfl) ?_
  refine jj_bipush d_Ma_storeElement_18 jc_b_8 ?_
  refine jj_imul d_Ma_storeElement_20 ?_
  refine jj_iload_n d_Ma_storeElement_21 rfl ?_
  refine jj_iadd d_Ma_storeElement_22 ?_
  refine jj_iload_n d_Ma_storeElement_23 rfl ?_
  obtain ⟨i4, h⟩ := jj_gt h
  refine jj_iastore d_Ma_storeElement_24 rfl (ar_Ma_elements h_this).1 (ar_Ma_elements h_this).2 (jj_inn i4) ?_
  cases h
  exact jj_return d_Ma_storeElement_25 rfl ⟨rfl, rfl⟩
theorem c_Ma_storeElement {X : jj_X} {d : Nat} {this : Nat} {a1 : Nat} (h_this : o_Ma this) (h_a1 : o_St a1) {x : jj_Mem} {q : jj_Mem} (h : f_Ma_storeElement this a1 x = some q) : jj_Met Y0 X (d + 1) m_Ma_storeElement [.ref this, .ref a1] x (jp_v q) :=
  jj_metp 2 (lo := [some (.ref this), some (.ref a1), none, none]) rfl (Nat.le_of_ble_eq_true rfl) rfl (t_Ma_storeElement_0 h_this h_a1 h)
def k_Ma_troubleOfElement_37  (x : jj_Mem) : Option (Int32 × jj_Mem) :=
  some (3, x)
set_option maxHeartbeats 2000000 in
theorem t_Ma_troubleOfElement_37 {X : jj_X} {d : Nat}   {x : jj_Mem} {q : Int32 × jj_Mem} (h : k_Ma_troubleOfElement_37  x = some q) : jj_J Y0 X (d + 1) m_Ma_troubleOfElement 37 [none, none, none, none] [] x (jp_i q) := by
  unfold k_Ma_troubleOfElement_37 at h
  refine jj_iconst d_Ma_troubleOfElement_37 jc_i_3 ?_
  refine jj_goto (tgt := 42) d_Ma_troubleOfElement_38 rfl ?_
  cases h
  exact jj_ireturn d_Ma_troubleOfElement_42 rfl ⟨rfl, rfl⟩
def f_Ma_troubleOfElement (this : Nat) (a1 : Nat) (a2 : Int32) (x : jj_Mem) : Option (Int32 × jj_Mem) :=
  jj_b2 (f_St_kindBelow a1 a2 x) (fun r1 x1 => (if r1 = 3 then some (4, x1) else jj_b2 (f_St_valueBelow a1 (a2 - 1) x1) (fun r3 x3 => (if r3 < 0 then k_Ma_troubleOfElement_37  x3 else jj_b2 (f_St_valueBelow a1 a2 x3) (fun r5 x5 => if jj_inb r5 8 = true then (if r3 < (x5 (this + 25) (Int32.toNatClampNeg r5)) then some ((-1), x5) else k_Ma_troubleOfElement_37  x5) else none)))))
set_option maxHeartbeats 2000000 in
theorem t_Ma_troubleOfElement_0 {X : jj_X} {d : Nat} {this : Nat} {a1 : Nat} {a2 : Int32} (h_this : o_Ma this) (h_a1 : o_St a1) {x : jj_Mem} {q : Int32 × jj_Mem} (h : f_Ma_troubleOfElement this a1 a2 x = some q) : jj_J Y0 X (d + 1) m_Ma_troubleOfElement 0 [some (.ref this), some (.ref a1), some (.int a2), none] [] x (jp_i q) := by
  unfold f_Ma_troubleOfElement at h
  refine jj_aload_n d_Ma_troubleOfElement_0 rfl ?_
  refine jj_iload_n d_Ma_troubleOfElement_1 rfl ?_
  obtain ⟨r1, x1, e1, h⟩ := jj_b2o h
  refine jj_callVi (as := [.int a2]) (c_St_kindBelow (d := d + 0) h_a1 e1) d_Ma_troubleOfElement_2 ck_Ma_133 (sh_St h_a1).2 (sh_St h_a1).1 ⟨_, rfl, rfl⟩ rfl rfl (Nat.le_of_ble_eq_true rfl) ?_
  refine jj_iconst d_Ma_troubleOfElement_5 jc_i_3 ?_
  refine jj_ic_ne (tgt := 11) d_Ma_troubleOfElement_6 rfl (fun c2 => ?_) (fun c2 => ?_)
  · rw [if_neg c2] at h
    refine jj_aload_n d_Ma_troubleOfElement_11 rfl ?_
    refine jj_iload_n d_Ma_troubleOfElement_12 rfl ?_
    refine jj_iconst d_Ma_troubleOfElement_13 jc_i_1 ?_
    refine jj_isub d_Ma_troubleOfElement_14 ?_
    obtain ⟨r3, x3, e3, h⟩ := jj_b2o h
    refine jj_callVi (as := [.int (a2 - 1)]) (c_St_valueBelow (d := d + 0) h_a1 e3) d_Ma_troubleOfElement_15 ck_Ma_130 (sh_St h_a1).2 (sh_St h_a1).1 ⟨_, rfl, rfl⟩ rfl rfl (Nat.le_of_ble_eq_true rfl) ?_
    refine jj_istore_n (lo' := [_, _, _, _]) d_Ma_troubleOfElement_18 rfl (by decide) rfl ?_
    refine jj_iload_n d_Ma_troubleOfElement_19 rfl ?_
    refine jj_if_lt (tgt := 37) d_Ma_troubleOfElement_20 rfl (fun c4 => ?_) (fun c4 => ?_)
    · rw [if_pos c4] at h
      exact jj_J.sub (t_Ma_troubleOfElement_37  h) (fun i v hi => jj_mask_ok [false, false, false, false] hi)
    · rw [if_neg c4] at h
      refine jj_iload_n d_Ma_troubleOfElement_23 rfl ?_
      refine jj_aload_n d_Ma_troubleOfElement_24 rfl ?_
      refine jj_getR d_Ma_troubleOfElement_25 fk_Ma_28 (sh_Ma h_this).2 (sh_Ma h_this).1 rfl ?_
      refine jj_aload_n d_Ma_troubleOfElement_28 rfl ?_
      refine jj_iload_n d_Ma_troubleOfElement_29 rfl ?_
      obtain ⟨r5, x5, e5, h⟩ := jj_b2o h
      refine jj_callVi (as := [.int a2]) (c_St_valueBelow (d := d + 0) h_a1 e5) d_Ma_troubleOfElement_30 ck_Ma_130 (sh_St h_a1).2 (sh_St h_a1).1 ⟨_, rfl, rfl⟩ rfl rfl (Nat.le_of_ble_eq_true rfl) ?_
      obtain ⟨i6, h⟩ := jj_gt h
      refine jj_iaload d_Ma_troubleOfElement_33 rfl (ar_Ma_lengths h_this).1 (ar_Ma_lengths h_this).2 (jj_inn i6) rfl ?_
      refine jj_ic_lt (tgt := 41) d_Ma_troubleOfElement_34 rfl (fun c7 => ?_) (fun c7 => ?_)
      · rw [if_pos c7] at h
        refine jj_iconst d_Ma_troubleOfElement_41 jc_i_m1 ?_
        cases h
        exact jj_ireturn d_Ma_troubleOfElement_42 rfl ⟨rfl, rfl⟩
      · rw [if_neg c7] at h
        exact jj_J.sub (t_Ma_troubleOfElement_37  h) (fun i v hi => jj_mask_ok [false, false, false, false] hi)
  · rw [if_pos c2] at h
    refine jj_iconst d_Ma_troubleOfElement_9 jc_i_4 ?_
    cases h
    exact jj_ireturn d_Ma_troubleOfElement_10 rfl ⟨rfl, rfl⟩
theorem c_Ma_troubleOfElement {X : jj_X} {d : Nat} {this : Nat} {a1 : Nat} {a2 : Int32} (h_this : o_Ma this) (h_a1 : o_St a1) {x : jj_Mem} {q : Int32 × jj_Mem} (h : f_Ma_troubleOfElement this a1 a2 x = some q) : jj_Met Y0 X (d + 1) m_Ma_troubleOfElement [.ref this, .ref a1, .int a2] x (jp_i q) :=
  jj_metp 1 (lo := [some (.ref this), some (.ref a1), some (.int a2), none]) rfl (Nat.le_of_ble_eq_true rfl) rfl (t_Ma_troubleOfElement_0 h_this h_a1 h)
def k_Pr_frameAt_2 (rec : Nat → List (Option Value) → jj_Mem → Option (Int32 × jj_Mem)) (l0 : Nat) (l1 : Nat) (l2 : Int32) (l3 : Int32) (x : jj_Mem) : Option (Int32 × jj_Mem) :=
  (if (x l1 7) ≤ l3 then some ((-1), x) else jj_b2 (f_Pr_frameOffset l0 l1 l3 x) (fun r2 x2 => (if r2 = l2 then some (l3, x2) else rec 2 [some (.ref l0), some (.ref l1), some (.int l2), some (.int (l3 + 1))] x2)))
set_option maxHeartbeats 2000000 in
theorem t_Pr_frameAt_2 {X : jj_X} {d : Nat} (rec : Nat → List (Option Value) → jj_Mem → Option (Int32 × jj_Mem)) (hrec : ∀ (L : Nat) (lo : List (Option Value)) (x : jj_Mem) (q : Int32 × jj_Mem), rec L lo x = some q → jj_J Y0 X (d + 1) m_Pr_frameAt L lo [] x (jp_i q)) {l0 : Nat} {l1 : Nat} {l2 : Int32} {l3 : Int32} (h_l0 : o_Pr l0) (h_l1 : o_Me l1) {x : jj_Mem} {q : Int32 × jj_Mem} (h : k_Pr_frameAt_2 rec l0 l1 l2 l3 x = some q) : jj_J Y0 X (d + 1) m_Pr_frameAt 2 [some (.ref l0), some (.ref l1), some (.int l2), some (.int l3)] [] x (jp_i q) := by
  unfold k_Pr_frameAt_2 at h
  refine jj_iload_n d_Pr_frameAt_2 rfl ?_
  refine jj_aload_n d_Pr_frameAt_3 rfl ?_
  refine jj_getI d_Pr_frameAt_4 fk_Pr_53 (sh_Me h_l1).2 (sh_Me h_l1).1 rfl rfl ?_
  refine jj_ic_ge (tgt := 28) d_Pr_frameAt_7 rfl (fun c1 => ?_) (fun c1 => ?_)
  · rw [if_pos c1] at h
    refine jj_iconst d_Pr_frameAt_28 jc_i_m1 ?_
    cases h
    exact jj_ireturn d_Pr_frameAt_29 rfl ⟨rfl, rfl⟩
  · rw [if_neg c1] at h
    refine jj_aload_n d_Pr_frameAt_10 rfl ?_
    refine jj_aload_n d_Pr_frameAt_11 rfl ?_
    refine jj_iload_n d_Pr_frameAt_12 rfl ?_
    obtain ⟨r2, x2, e2, h⟩ := jj_b2o h
    refine jj_callVi (as := [.ref l1, .int l3]) (c_Pr_frameOffset (d := d + 0) h_l0 h_l1 e2) d_Pr_frameAt_13 ck_Pr_56 (sh_Pr h_l0).2 (sh_Pr h_l0).1 ⟨_, rfl, rfl⟩ rfl rfl (Nat.le_of_ble_eq_true rfl) ?_
    refine jj_iload_n d_Pr_frameAt_16 rfl ?_
    refine jj_ic_ne (tgt := 22) d_Pr_frameAt_17 rfl (fun c3 => ?_) (fun c3 => ?_)
    · rw [if_neg c3] at h
      refine jj_iinc (lo' := [_, _, _, _]) (v := (l3 + 1)) d_Pr_frameAt_22 rfl (jc_a_1 _) rfl (by decide) rfl ?_
      refine jj_goto (tgt := 2) d_Pr_frameAt_25 rfl ?_
      exact jj_J.sub (hrec _ _ _ _ h) (fun i v hi => jj_mask_ok [true, true, true, true] hi)
    · rw [if_pos c3] at h
      refine jj_iload_n d_Pr_frameAt_20 rfl ?_
      cases h
      exact jj_ireturn d_Pr_frameAt_21 rfl ⟨rfl, rfl⟩
def g_Pr_frameAt : Nat → Nat → List (Option Value) → jj_Mem → Option (Int32 × jj_Mem)
  | 0, _, _, _ => none
  | f + 1, L, lo, x => match L, lo with
    | 2, [some (.ref l0), some (.ref l1), some (.int l2), some (.int l3)] => if (bo_Pr l0 && bo_Me l1) = true then k_Pr_frameAt_2 (g_Pr_frameAt f) l0 l1 l2 l3 x else none
    | _, _ => none
set_option maxHeartbeats 2000000 in
theorem t_Pr_frameAt_g {X : jj_X} {d : Nat} : ∀ (f L : Nat) (lo : List (Option Value)) (x : jj_Mem) (q : Int32 × jj_Mem), g_Pr_frameAt f L lo x = some q → jj_J Y0 X (d + 1) m_Pr_frameAt L lo [] x (jp_i q) := by
  intro f
  induction f with
  | zero => intro L lo x q h; simp [g_Pr_frameAt] at h
  | succ f ih =>
    intro L lo x q h
    unfold g_Pr_frameAt at h
    split at h
    · obtain ⟨i1, h⟩ := jj_gt h
      exact t_Pr_frameAt_2 _ ih (ob_Pr (jj_andl i1)) (ob_Me (jj_andr i1)) h
    · cases h
def k_Pr_frameAt_0 (rec : Nat → List (Option Value) → jj_Mem → Option (Int32 × jj_Mem)) (this : Nat) (a1 : Nat) (a2 : Int32) (x : jj_Mem) : Option (Int32 × jj_Mem) :=
  rec 2 [some (.ref this), some (.ref a1), some (.int a2), some (.int 0)] x
set_option maxHeartbeats 2000000 in
theorem t_Pr_frameAt_0 {X : jj_X} {d : Nat} (rec : Nat → List (Option Value) → jj_Mem → Option (Int32 × jj_Mem)) (hrec : ∀ (L : Nat) (lo : List (Option Value)) (x : jj_Mem) (q : Int32 × jj_Mem), rec L lo x = some q → jj_J Y0 X (d + 1) m_Pr_frameAt L lo [] x (jp_i q)) {this : Nat} {a1 : Nat} {a2 : Int32} (h_this : o_Pr this) (h_a1 : o_Me a1) {x : jj_Mem} {q : Int32 × jj_Mem} (h : k_Pr_frameAt_0 rec this a1 a2 x = some q) : jj_J Y0 X (d + 1) m_Pr_frameAt 0 [some (.ref this), some (.ref a1), some (.int a2), none] [] x (jp_i q) := by
  unfold k_Pr_frameAt_0 at h
  refine jj_iconst d_Pr_frameAt_0 jc_i_0 ?_
  refine jj_istore_n (lo' := [_, _, _, _]) d_Pr_frameAt_1 rfl (by decide) rfl ?_
  exact jj_J.sub (hrec _ _ _ _ h) (fun i v hi => jj_mask_ok [true, true, true, true] hi)
def f_Pr_frameAt (this : Nat) (a1 : Nat) (a2 : Int32) (x : jj_Mem) : Option (Int32 × jj_Mem) := k_Pr_frameAt_0 (g_Pr_frameAt 1000) this a1 a2 x
theorem c_Pr_frameAt {X : jj_X} {d : Nat} {this : Nat} {a1 : Nat} {a2 : Int32} (h_this : o_Pr this) (h_a1 : o_Me a1) {x : jj_Mem} {q : Int32 × jj_Mem} (h : f_Pr_frameAt this a1 a2 x = some q) : jj_Met Y0 X (d + 1) m_Pr_frameAt [.ref this, .ref a1, .int a2] x (jp_i q) :=
  jj_metp 1 (lo := [some (.ref this), some (.ref a1), some (.int a2), none]) rfl (Nat.le_of_ble_eq_true rfl) rfl (t_Pr_frameAt_0 _ (t_Pr_frameAt_g 1000) h_this h_a1 h)
def f_Pr_putCount (this : Nat) (a1 : Nat) (a2 : Int32) (x : jj_Mem) : Option (Int32 × jj_Mem) :=
  jj_b2 (f_Pr_code this a1 a2 x) (fun r1 x1 => (if r1 = 184 then jj_b2 (f_Pr_called this a1 a2 x1) (fun r4 x4 => if bo_Me r4 = true then (if (x4 r4 2) = 0 then some (0, x4) else some (1, x4)) else none) else jj_b1 (s_In_puts r1) (fun r3 => some (r3, x1))))
set_option maxHeartbeats 2000000 in
theorem t_Pr_putCount_0 {X : jj_X} {d : Nat} {this : Nat} {a1 : Nat} {a2 : Int32} (h_this : o_Pr this) (h_a1 : o_Me a1) {x : jj_Mem} {q : Int32 × jj_Mem} (h : f_Pr_putCount this a1 a2 x = some q) : jj_J Y0 X (d + 1) m_Pr_putCount 0 [some (.ref this), some (.ref a1), some (.int a2), none] [] x (jp_i q) := by
  unfold f_Pr_putCount at h
  refine jj_aload_n d_Pr_putCount_0 rfl ?_
  refine jj_aload_n d_Pr_putCount_1 rfl ?_
  refine jj_iload_n d_Pr_putCount_2 rfl ?_
  obtain ⟨r1, x1, e1, h⟩ := jj_b2o h
  refine jj_callVi (as := [.ref a1, .int a2]) (c_Pr_code (d := d + 0) h_this h_a1 e1) d_Pr_putCount_3 ck_Pr_41 (sh_Pr h_this).2 (sh_Pr h_this).1 ⟨_, rfl, rfl⟩ rfl rfl (Nat.le_of_ble_eq_true rfl) ?_
  refine jj_istore_n (lo' := [_, _, _, _]) d_Pr_putCount_6 rfl (by decide) rfl ?_
  refine jj_iload_n d_Pr_putCount_7 rfl ?_
  refine jj_sipush d_Pr_putCount_8 jc_s_184 ?_
  refine jj_ic_ne (tgt := 32) d_Pr_putCount_11 rfl (fun c2 => ?_) (fun c2 => ?_)
  · rw [if_neg c2] at h
    refine jj_iload_n d_Pr_putCount_32 rfl ?_
    obtain ⟨r3, e3, h⟩ := jj_b1o h
    refine jj_callSi (as := [.int r1]) (c_In_puts (d := d + 0)  e3) d_Pr_putCount_33 ck_Pr_82 rfl rfl (Nat.le_of_ble_eq_true rfl) ?_
    cases h
    exact jj_ireturn d_Pr_putCount_36 rfl ⟨rfl, rfl⟩
  · rw [if_pos c2] at h
    refine jj_aload_n d_Pr_putCount_14 rfl ?_
    refine jj_aload_n d_Pr_putCount_15 rfl ?_
    refine jj_iload_n d_Pr_putCount_16 rfl ?_
    obtain ⟨r4, x4, e4, h⟩ := jj_b2o h
    obtain ⟨i5, h⟩ := jj_gt h
    refine jj_callVr (as := [.ref a1, .int a2]) (c_Pr_called (d := d + 0) h_this h_a1 e4) d_Pr_putCount_17 ck_Pr_61 (sh_Pr h_this).2 (sh_Pr h_this).1 ⟨_, rfl, rfl⟩ rfl rfl (Nat.le_of_ble_eq_true rfl) ?_
    refine jj_getI d_Pr_putCount_20 fk_Pr_79 (sh_Me (ob_Me i5)).2 (sh_Me (ob_Me i5)).1 rfl rfl ?_
    refine jj_if_ne (tgt := 30) d_Pr_putCount_23 rfl (fun c6 => ?_) (fun c6 => ?_)
    · rw [if_neg c6] at h
      refine jj_iconst d_Pr_putCount_30 jc_i_1 ?_
      cases h
      exact jj_ireturn d_Pr_putCount_31 rfl ⟨rfl, rfl⟩
    · rw [if_pos c6] at h
      refine jj_iconst d_Pr_putCount_26 jc_i_0 ?_
      refine jj_goto (tgt := 31) d_Pr_putCount_27 rfl ?_
      cases h
      exact jj_ireturn d_Pr_putCount_31 rfl ⟨rfl, rfl⟩
theorem c_Pr_putCount {X : jj_X} {d : Nat} {this : Nat} {a1 : Nat} {a2 : Int32} (h_this : o_Pr this) (h_a1 : o_Me a1) {x : jj_Mem} {q : Int32 × jj_Mem} (h : f_Pr_putCount this a1 a2 x = some q) : jj_Met Y0 X (d + 1) m_Pr_putCount [.ref this, .ref a1, .int a2] x (jp_i q) :=
  jj_metp 1 (lo := [some (.ref this), some (.ref a1), some (.int a2), none]) rfl (Nat.le_of_ble_eq_true rfl) rfl (t_Pr_putCount_0 h_this h_a1 h)
def f_Pr_signedByte (this : Nat) (a1 : Nat) (a2 : Int32) (x : jj_Mem) : Option (Int32 × jj_Mem) :=
  jj_b2 (f_Pr_code this a1 a2 x) (fun r1 x1 => (if r1 < 128 then some (r1, x1) else some ((r1 - 256), x1)))
set_option maxHeartbeats 2000000 in
theorem t_Pr_signedByte_0 {X : jj_X} {d : Nat} {this : Nat} {a1 : Nat} {a2 : Int32} (h_this : o_Pr this) (h_a1 : o_Me a1) {x : jj_Mem} {q : Int32 × jj_Mem} (h : f_Pr_signedByte this a1 a2 x = some q) : jj_J Y0 X (d + 1) m_Pr_signedByte 0 [some (.ref this), some (.ref a1), some (.int a2), none] [] x (jp_i q) := by
  unfold f_Pr_signedByte at h
  refine jj_aload_n d_Pr_signedByte_0 rfl ?_
  refine jj_aload_n d_Pr_signedByte_1 rfl ?_
  refine jj_iload_n d_Pr_signedByte_2 rfl ?_
  obtain ⟨r1, x1, e1, h⟩ := jj_b2o h
  refine jj_callVi (as := [.ref a1, .int a2]) (c_Pr_code (d := d + 0) h_this h_a1 e1) d_Pr_signedByte_3 ck_Pr_41 (sh_Pr h_this).2 (sh_Pr h_this).1 ⟨_, rfl, rfl⟩ rfl rfl (Nat.le_of_ble_eq_true rfl) ?_
  refine jj_istore_n (lo' := [_, _, _, _]) d_Pr_signedByte_6 rfl (by decide) rfl ?_
  refine jj_iload_n d_Pr_signedByte_7 rfl ?_
  refine jj_sipush d_Pr_signedByte_8 jc_s_128 ?_
  refine jj_ic_lt (tgt := 22) d_Pr_signedByte_11 rfl (fun c2 => ?_) (fun c2 => ?_)
  · rw [if_pos c2] at h
    refine jj_iload_n d_Pr_signedByte_22 rfl ?_
    cases h
    exact jj_ireturn d_Pr_signedByte_23 rfl ⟨rfl, rfl⟩
  · rw [if_neg c2] at h
    refine jj_iload_n d_Pr_signedByte_14 rfl ?_
    refine jj_sipush d_Pr_signedByte_15 jc_s_256 ?_
    refine jj_isub d_Pr_signedByte_18 ?_
    refine jj_goto (tgt := 23) d_Pr_signedByte_19 rfl ?_
    cases h
    exact jj_ireturn d_Pr_signedByte_23 rfl ⟨rfl, rfl⟩
theorem c_Pr_signedByte {X : jj_X} {d : Nat} {this : Nat} {a1 : Nat} {a2 : Int32} (h_this : o_Pr this) (h_a1 : o_Me a1) {x : jj_Mem} {q : Int32 × jj_Mem} (h : f_Pr_signedByte this a1 a2 x = some q) : jj_Met Y0 X (d + 1) m_Pr_signedByte [.ref this, .ref a1, .int a2] x (jp_i q) :=
  jj_metp 1 (lo := [some (.ref this), some (.ref a1), some (.int a2), none]) rfl (Nat.le_of_ble_eq_true rfl) rfl (t_Pr_signedByte_0 h_this h_a1 h)
def f_Pr_takeFile (this : Nat) (a1 : Nat) (a2 : Int32) (x : jj_Mem) : Option (jj_Mem) :=
  if jj_cpb 0 0 a2 240 240 = true then some (jj_set (va_up x (this + 1) (va_cpy (x a1) (x (this + 1)) (Int32.toNatClampNeg 0) (Int32.toNatClampNeg 0) (Int32.toNatClampNeg a2))) this 1 a2) else none
set_option maxHeartbeats 2000000 in
theorem t_Pr_takeFile_0 {X : jj_X} {d : Nat} {this : Nat} {a1 : Nat} {a2 : Int32} (h_this : o_Pr this) (h_a1 : oA 0 240 a1) {x : jj_Mem} {q : jj_Mem} (h : f_Pr_takeFile this a1 a2 x = some q) : jj_J Y0 X (d + 1) m_Pr_takeFile 0 [some (.ref this), some (.ref a1), some (.int a2)] [] x (jp_v q) := by
  unfold f_Pr_takeFile at h
  refine jj_aload_n d_Pr_takeFile_0 rfl ?_
  refine jj_iconst d_Pr_takeFile_1 jc_i_0 ?_
  refine jj_aload_n d_Pr_takeFile_2 rfl ?_
  refine jj_getR d_Pr_takeFile_3 fk_Pr_9 (sh_Pr h_this).2 (sh_Pr h_this).1 rfl ?_
  refine jj_iconst d_Pr_takeFile_6 jc_i_0 ?_
  refine jj_iload_n d_Pr_takeFile_7 rfl ?_
  obtain ⟨i1, h⟩ := jj_gt h
  refine jj_copy d_Pr_takeFile_8 cw_copy_Pr_22 cw_copy2 cw_copy3 cw_copy4 rfl (Nat.le_of_ble_eq_true rfl) h_a1.1 h_a1.2 (ar_Pr_file h_this).1 (ar_Pr_file h_this).2 (jj_cpo i1).1 (jj_cpo i1).2.1 (jj_cpo i1).2.2.1 (jj_cpo i1).2.2.2.1 (jj_cpo i1).2.2.2.2 ?_
  refine jj_aload_n d_Pr_takeFile_11 rfl ?_
  refine jj_iload_n d_Pr_takeFile_12 rfl ?_
  refine jj_putI d_Pr_takeFile_13 pk_Pr_28 (sh_Pr h_this).2 (sh_Pr h_this).1 rfl ?_
  cases h
  exact jj_return d_Pr_takeFile_16 rfl ⟨rfl, rfl⟩
theorem c_Pr_takeFile {X : jj_X} {d : Nat} {this : Nat} {a1 : Nat} {a2 : Int32} (h_this : o_Pr this) (h_a1 : oA 0 240 a1) {x : jj_Mem} {q : jj_Mem} (h : f_Pr_takeFile this a1 a2 x = some q) : jj_Met Y0 X (d + 1) m_Pr_takeFile [.ref this, .ref a1, .int a2] x (jp_v q) :=
  jj_metp 0 (lo := [some (.ref this), some (.ref a1), some (.int a2)]) rfl (Nat.le_of_ble_eq_true rfl) rfl (t_Pr_takeFile_0 h_this h_a1 h)
def f_Pr_takenCount (this : Nat) (a1 : Nat) (a2 : Int32) (x : jj_Mem) : Option (Int32 × jj_Mem) :=
  jj_b2 (f_Pr_code this a1 a2 x) (fun r1 x1 => (if r1 = 184 then jj_b2 (f_Pr_called this a1 a2 x1) (fun r4 x4 => if bo_Me r4 = true then some ((x4 r4 0), x4) else none) else jj_b1 (s_In_takes r1) (fun r3 => some (r3, x1))))
set_option maxHeartbeats 2000000 in
theorem t_Pr_takenCount_0 {X : jj_X} {d : Nat} {this : Nat} {a1 : Nat} {a2 : Int32} (h_this : o_Pr this) (h_a1 : o_Me a1) {x : jj_Mem} {q : Int32 × jj_Mem} (h : f_Pr_takenCount this a1 a2 x = some q) : jj_J Y0 X (d + 1) m_Pr_takenCount 0 [some (.ref this), some (.ref a1), some (.int a2), none] [] x (jp_i q) := by
  unfold f_Pr_takenCount at h
  refine jj_aload_n d_Pr_takenCount_0 rfl ?_
  refine jj_aload_n d_Pr_takenCount_1 rfl ?_
  refine jj_iload_n d_Pr_takenCount_2 rfl ?_
  obtain ⟨r1, x1, e1, h⟩ := jj_b2o h
  refine jj_callVi (as := [.ref a1, .int a2]) (c_Pr_code (d := d + 0) h_this h_a1 e1) d_Pr_takenCount_3 ck_Pr_41 (sh_Pr h_this).2 (sh_Pr h_this).1 ⟨_, rfl, rfl⟩ rfl rfl (Nat.le_of_ble_eq_true rfl) ?_
  refine jj_istore_n (lo' := [_, _, _, _]) d_Pr_takenCount_6 rfl (by decide) rfl ?_
  refine jj_iload_n d_Pr_takenCount_7 rfl ?_
  refine jj_sipush d_Pr_takenCount_8 jc_s_184 ?_
  refine jj_ic_ne (tgt := 26) d_Pr_takenCount_11 rfl (fun c2 => ?_) (fun c2 => ?_)
  · rw [if_neg c2] at h
    refine jj_iload_n d_Pr_takenCount_26 rfl ?_
    obtain ⟨r3, e3, h⟩ := jj_b1o h
    refine jj_callSi (as := [.int r1]) (c_In_takes (d := d + 0)  e3) d_Pr_takenCount_27 ck_Pr_68 rfl rfl (Nat.le_of_ble_eq_true rfl) ?_
    cases h
    exact jj_ireturn d_Pr_takenCount_30 rfl ⟨rfl, rfl⟩
  · rw [if_pos c2] at h
    refine jj_aload_n d_Pr_takenCount_14 rfl ?_
    refine jj_aload_n d_Pr_takenCount_15 rfl ?_
    refine jj_iload_n d_Pr_takenCount_16 rfl ?_
    obtain ⟨r4, x4, e4, h⟩ := jj_b2o h
    obtain ⟨i5, h⟩ := jj_gt h
    refine jj_callVr (as := [.ref a1, .int a2]) (c_Pr_called (d := d + 0) h_this h_a1 e4) d_Pr_takenCount_17 ck_Pr_61 (sh_Pr h_this).2 (sh_Pr h_this).1 ⟨_, rfl, rfl⟩ rfl rfl (Nat.le_of_ble_eq_true rfl) ?_
    refine jj_getI d_Pr_takenCount_20 fk_Pr_65 (sh_Me (ob_Me i5)).2 (sh_Me (ob_Me i5)).1 rfl rfl ?_
    refine jj_goto (tgt := 30) d_Pr_takenCount_23 rfl ?_
    cases h
    exact jj_ireturn d_Pr_takenCount_30 rfl ⟨rfl, rfl⟩
theorem c_Pr_takenCount {X : jj_X} {d : Nat} {this : Nat} {a1 : Nat} {a2 : Int32} (h_this : o_Pr this) (h_a1 : o_Me a1) {x : jj_Mem} {q : Int32 × jj_Mem} (h : f_Pr_takenCount this a1 a2 x = some q) : jj_Met Y0 X (d + 1) m_Pr_takenCount [.ref this, .ref a1, .int a2] x (jp_i q) :=
  jj_metp 1 (lo := [some (.ref this), some (.ref a1), some (.int a2), none]) rfl (Nat.le_of_ble_eq_true rfl) rfl (t_Pr_takenCount_0 h_this h_a1 h)
def f_Pr_takenType (this : Nat) (a1 : Nat) (a2 : Int32) (a3 : Int32) (x : jj_Mem) : Option (Int32 × jj_Mem) :=
  jj_b2 (f_Pr_code this a1 a2 x) (fun r1 x1 => (if r1 = 184 then jj_b2 (f_Pr_called this a1 a2 x1) (fun r4 x4 => if bo_Me r4 = true then jj_b2 (f_Pr_parameterType this r4 a3 x4) (fun r6 x6 => some (r6, x6)) else none) else jj_b1 (s_In_typeTaken r1 a3) (fun r3 => some (r3, x1))))
set_option maxHeartbeats 2000000 in
theorem t_Pr_takenType_0 {X : jj_X} {d : Nat} {this : Nat} {a1 : Nat} {a2 : Int32} {a3 : Int32} (h_this : o_Pr this) (h_a1 : o_Me a1) {x : jj_Mem} {q : Int32 × jj_Mem} (h : f_Pr_takenType this a1 a2 a3 x = some q) : jj_J Y0 X (d + 1) m_Pr_takenType 0 [some (.ref this), some (.ref a1), some (.int a2), some (.int a3), none] [] x (jp_i q) := by
  unfold f_Pr_takenType at h
  refine jj_aload_n d_Pr_takenType_0 rfl ?_
  refine jj_aload_n d_Pr_takenType_1 rfl ?_
  refine jj_iload_n d_Pr_takenType_2 rfl ?_
  obtain ⟨r1, x1, e1, h⟩ := jj_b2o h
  refine jj_callVi (as := [.ref a1, .int a2]) (c_Pr_code (d := d + 0) h_this h_a1 e1) d_Pr_takenType_3 ck_Pr_41 (sh_Pr h_this).2 (sh_Pr h_this).1 ⟨_, rfl, rfl⟩ rfl rfl (Nat.le_of_ble_eq_true rfl) ?_
  refine jj_istore (lo' := [_, _, _, _, _]) d_Pr_takenType_6 rfl (by decide) rfl ?_
  refine jj_iload d_Pr_takenType_8 rfl ?_
  refine jj_sipush d_Pr_takenType_10 jc_s_184 ?_
  refine jj_ic_ne (tgt := 30) d_Pr_takenType_13 rfl (fun c2 => ?_) (fun c2 => ?_)
  · rw [if_neg c2] at h
    refine jj_iload d_Pr_takenType_30 rfl ?_
    refine jj_iload_n d_Pr_takenType_32 rfl ?_
    obtain ⟨r3, e3, h⟩ := jj_b1o h
    refine jj_callSi (as := [.int r1, .int a3]) (c_In_typeTaken (d := d + 0)  e3) d_Pr_takenType_33 ck_Pr_75 rfl rfl (Nat.le_of_ble_eq_true rfl) ?_
    cases h
    exact jj_ireturn d_Pr_takenType_36 rfl ⟨rfl, rfl⟩
  · rw [if_pos c2] at h
    refine jj_aload_n d_Pr_takenType_16 rfl ?_
    refine jj_aload_n d_Pr_takenType_17 rfl ?_
    refine jj_aload_n d_Pr_takenType_18 rfl ?_
    refine jj_iload_n d_Pr_takenType_19 rfl ?_
    obtain ⟨r4, x4, e4, h⟩ := jj_b2o h
    obtain ⟨i5, h⟩ := jj_gt h
    refine jj_callVr (as := [.ref a1, .int a2]) (c_Pr_called (d := d + 0) h_this h_a1 e4) d_Pr_takenType_20 ck_Pr_61 (sh_Pr h_this).2 (sh_Pr h_this).1 ⟨_, rfl, rfl⟩ rfl rfl (Nat.le_of_ble_eq_true rfl) ?_
    refine jj_iload_n d_Pr_takenType_23 rfl ?_
    obtain ⟨r6, x6, e6, h⟩ := jj_b2o h
    refine jj_callVi (as := [.ref r4, .int a3]) (c_Pr_parameterType (d := d + 0) h_this (ob_Me i5) e6) d_Pr_takenType_24 ck_Pr_72 (sh_Pr h_this).2 (sh_Pr h_this).1 ⟨_, rfl, rfl⟩ rfl rfl (Nat.le_of_ble_eq_true rfl) ?_
    refine jj_goto (tgt := 36) d_Pr_takenType_27 rfl ?_
    cases h
    exact jj_ireturn d_Pr_takenType_36 rfl ⟨rfl, rfl⟩
theorem c_Pr_takenType {X : jj_X} {d : Nat} {this : Nat} {a1 : Nat} {a2 : Int32} {a3 : Int32} (h_this : o_Pr this) (h_a1 : o_Me a1) {x : jj_Mem} {q : Int32 × jj_Mem} (h : f_Pr_takenType this a1 a2 a3 x = some q) : jj_Met Y0 X (d + 1) m_Pr_takenType [.ref this, .ref a1, .int a2, .int a3] x (jp_i q) :=
  jj_metp 1 (lo := [some (.ref this), some (.ref a1), some (.int a2), some (.int a3), none]) rfl (Nat.le_of_ble_eq_true rfl) rfl (t_Pr_takenType_0 h_this h_a1 h)
def f_Pr_target (this : Nat) (a1 : Nat) (a2 : Int32) (x : jj_Mem) : Option (Int32 × jj_Mem) :=
  jj_b2 (f_Pr_code this a1 (a2 + 1) x) (fun r1 x1 => jj_b2 (f_Pr_code this a1 (a2 + 2) x1) (fun r2 x2 => (if ((r1 * 256) + r2) < 32768 then some ((a2 + ((r1 * 256) + r2)), x2) else some ((a2 + (((r1 * 256) + r2) - 65536)), x2))))
set_option maxHeartbeats 2000000 in
theorem t_Pr_target_0 {X : jj_X} {d : Nat} {this : Nat} {a1 : Nat} {a2 : Int32} (h_this : o_Pr this) (h_a1 : o_Me a1) {x : jj_Mem} {q : Int32 × jj_Mem} (h : f_Pr_target this a1 a2 x = some q) : jj_J Y0 X (d + 1) m_Pr_target 0 [some (.ref this), some (.ref a1), some (.int a2), none] [] x (jp_i q) := by
  unfold f_Pr_target at h
  refine jj_aload_n d_Pr_target_0 rfl ?_
  refine jj_aload_n d_Pr_target_1 rfl ?_
  refine jj_iload_n d_Pr_target_2 rfl ?_
  refine jj_iconst d_Pr_target_3 jc_i_1 ?_
  refine jj_iadd d_Pr_target_4 ?_
  obtain ⟨r1, x1, e1, h⟩ := jj_b2o h
  refine jj_callVi (as := [.ref a1, .int (a2 + 1)]) (c_Pr_code (d := d + 0) h_this h_a1 e1) d_Pr_target_5 ck_Pr_41 (sh_Pr h_this).2 (sh_Pr h_this).1 ⟨_, rfl, rfl⟩ rfl rfl (Nat.le_of_ble_eq_true rfl) ?_
  refine jj_sipush d_Pr_target_8 jc_s_256 ?_
  refine jj_imul d_Pr_target_11 ?_
  refine jj_aload_n d_Pr_target_12 rfl ?_
  refine jj_aload_n d_Pr_target_13 rfl ?_
  refine jj_iload_n d_Pr_target_14 rfl ?_
  refine jj_iconst d_Pr_target_15 jc_i_2 ?_
  refine jj_iadd d_Pr_target_16 ?_
  obtain ⟨r2, x2, e2, h⟩ := jj_b2o h
  refine jj_callVi (as := [.ref a1, .int (a2 + 2)]) (c_Pr_code (d := d + 0) h_this h_a1 e2) d_Pr_target_17 ck_Pr_41 (sh_Pr h_this).2 (sh_Pr h_this).1 ⟨_, rfl, rfl⟩ rfl rfl (Nat.le_of_ble_eq_true rfl) ?_
  refine jj_iadd d_Pr_target_20 ?_
  refine jj_istore_n (lo' := [_, _, _, _]) d_Pr_target_21 rfl (by decide) rfl ?_
  refine jj_iload_n d_Pr_target_22 rfl ?_
  refine jj_iload_n d_Pr_target_23 rfl ?_
  refine jj_ldc d_Pr_target_24 lc_Pr_45 ?_
  refine jj_ic_lt (tgt := 36) d_Pr_target_26 rfl (fun c3 => ?_) (fun c3 => ?_)
  · rw [if_pos c3] at h
    refine jj_iload_n d_Pr_target_36 rfl ?_
    refine jj_iadd d_Pr_target_37 ?_
    cases h
    exact jj_ireturn d_Pr_target_38 rfl ⟨rfl, rfl⟩
  · rw [if_neg c3] at h
    refine jj_iload_n d_Pr_target_29 rfl ?_
    refine jj_ldc d_Pr_target_30 lc_Pr_46 ?_
    refine jj_isub d_Pr_target_32 ?_
    refine jj_goto (tgt := 37) d_Pr_target_33 rfl ?_
    refine jj_iadd d_Pr_target_37 ?_
    cases h
    exact jj_ireturn d_Pr_target_38 rfl ⟨rfl, rfl⟩
theorem c_Pr_target {X : jj_X} {d : Nat} {this : Nat} {a1 : Nat} {a2 : Int32} (h_this : o_Pr this) (h_a1 : o_Me a1) {x : jj_Mem} {q : Int32 × jj_Mem} (h : f_Pr_target this a1 a2 x = some q) : jj_Met Y0 X (d + 1) m_Pr_target [.ref this, .ref a1, .int a2] x (jp_i q) :=
  jj_metp 1 (lo := [some (.ref this), some (.ref a1), some (.int a2), none]) rfl (Nat.le_of_ble_eq_true rfl) rfl (t_Pr_target_0 h_this h_a1 h)
def k_Rd_framesBegin_2 (rec : Nat → List (Option Value) → jj_Mem → Option (Int32 × jj_Mem)) (l0 : Nat) (l1 : Nat) (l2 : Nat) (l3 : Int32) (x : jj_Mem) : Option (Int32 × jj_Mem) :=
  (if (x l2 7) ≤ l3 then some (1, x) else jj_b2 (f_Pr_frameOffset l1 l2 l3 x) (fun r2 x2 => jj_b2 (f_Rd_beginsAt l0 l2 r2 x2) (fun r3 x3 => (if r3 = 0 then some (0, x3) else rec 2 [some (.ref l0), some (.ref l1), some (.ref l2), some (.int (l3 + 1))] x3))))
set_option maxHeartbeats 2000000 in
theorem t_Rd_framesBegin_2 {X : jj_X} {d : Nat} (rec : Nat → List (Option Value) → jj_Mem → Option (Int32 × jj_Mem)) (hrec : ∀ (L : Nat) (lo : List (Option Value)) (x : jj_Mem) (q : Int32 × jj_Mem), rec L lo x = some q → jj_J Y0 X (d + 1) m_Rd_framesBegin L lo [] x (jp_i q)) {l0 : Nat} {l1 : Nat} {l2 : Nat} {l3 : Int32} (h_l0 : o_Rd l0) (h_l1 : o_Pr l1) (h_l2 : o_Me l2) {x : jj_Mem} {q : Int32 × jj_Mem} (h : k_Rd_framesBegin_2 rec l0 l1 l2 l3 x = some q) : jj_J Y0 X (d + 1) m_Rd_framesBegin 2 [some (.ref l0), some (.ref l1), some (.ref l2), some (.int l3)] [] x (jp_i q) := by
  unfold k_Rd_framesBegin_2 at h
  refine jj_iload_n d_Rd_framesBegin_2 rfl ?_
  refine jj_aload_n d_Rd_framesBegin_3 rfl ?_
  refine jj_getI d_Rd_framesBegin_4 fk_Rd_116 (sh_Me h_l2).2 (sh_Me h_l2).1 rfl rfl ?_
  refine jj_ic_ge (tgt := 32) d_Rd_framesBegin_7 rfl (fun c1 => ?_) (fun c1 => ?_)
  · rw [if_pos c1] at h
    refine jj_iconst d_Rd_framesBegin_32 jc_i_1 ?_
    cases h
    exact jj_zreturn d_Rd_framesBegin_33 rfl (Or.inr rfl) ⟨rfl, rfl⟩
  · rw [if_neg c1] at h
    refine jj_aload_n d_Rd_framesBegin_10 rfl ?_
    refine jj_aload_n d_Rd_framesBegin_11 rfl ?_
    refine jj_aload_n d_Rd_framesBegin_12 rfl ?_
    refine jj_aload_n d_Rd_framesBegin_13 rfl ?_
    refine jj_iload_n d_Rd_framesBegin_14 rfl ?_
    obtain ⟨r2, x2, e2, h⟩ := jj_b2o h
    refine jj_callVi (as := [.ref l2, .int l3]) (c_Pr_frameOffset (d := d + 0) h_l1 h_l2 e2) d_Rd_framesBegin_15 ck_Rd_136 (sh_Pr h_l1).2 (sh_Pr h_l1).1 ⟨_, rfl, rfl⟩ rfl rfl (Nat.le_of_ble_eq_true rfl) ?_
    obtain ⟨r3, x3, e3, h⟩ := jj_b2o h
    refine jj_callVi (as := [.ref l2, .int r2]) (c_Rd_beginsAt (d := d + 0) h_l0 h_l2 e3) d_Rd_framesBegin_18 ck_Rd_132 (sh_Rd h_l0).2 (sh_Rd h_l0).1 ⟨_, rfl, rfl⟩ rfl rfl (Nat.le_of_ble_eq_true rfl) ?_
    refine jj_if_ne (tgt := 26) d_Rd_framesBegin_21 rfl (fun c4 => ?_) (fun c4 => ?_)
    · rw [if_neg c4] at h
      refine jj_iinc (lo' := [_, _, _, _]) (v := (l3 + 1)) d_Rd_framesBegin_26 rfl (jc_a_1 _) rfl (by decide) rfl ?_
      refine jj_goto (tgt := 2) d_Rd_framesBegin_29 rfl ?_
      exact jj_J.sub (hrec _ _ _ _ h) (fun i v hi => jj_mask_ok [true, true, true, true] hi)
    · rw [if_pos c4] at h
      refine jj_iconst d_Rd_framesBegin_24 jc_i_0 ?_
      cases h
      exact jj_zreturn d_Rd_framesBegin_25 rfl (Or.inl rfl) ⟨rfl, rfl⟩
def g_Rd_framesBegin : Nat → Nat → List (Option Value) → jj_Mem → Option (Int32 × jj_Mem)
  | 0, _, _, _ => none
  | f + 1, L, lo, x => match L, lo with
    | 2, [some (.ref l0), some (.ref l1), some (.ref l2), some (.int l3)] => if (bo_Rd l0 && bo_Pr l1 && bo_Me l2) = true then k_Rd_framesBegin_2 (g_Rd_framesBegin f) l0 l1 l2 l3 x else none
    | _, _ => none
set_option maxHeartbeats 2000000 in
theorem t_Rd_framesBegin_g {X : jj_X} {d : Nat} : ∀ (f L : Nat) (lo : List (Option Value)) (x : jj_Mem) (q : Int32 × jj_Mem), g_Rd_framesBegin f L lo x = some q → jj_J Y0 X (d + 1) m_Rd_framesBegin L lo [] x (jp_i q) := by
  intro f
  induction f with
  | zero => intro L lo x q h; simp [g_Rd_framesBegin] at h
  | succ f ih =>
    intro L lo x q h
    unfold g_Rd_framesBegin at h
    split at h
    · obtain ⟨i1, h⟩ := jj_gt h
      exact t_Rd_framesBegin_2 _ ih (ob_Rd (jj_andl (jj_andl i1))) (ob_Pr (jj_andr (jj_andl i1))) (ob_Me (jj_andr i1)) h
    · cases h
def k_Rd_framesBegin_0 (rec : Nat → List (Option Value) → jj_Mem → Option (Int32 × jj_Mem)) (this : Nat) (a1 : Nat) (a2 : Nat) (x : jj_Mem) : Option (Int32 × jj_Mem) :=
  rec 2 [some (.ref this), some (.ref a1), some (.ref a2), some (.int 0)] x
set_option maxHeartbeats 2000000 in
theorem t_Rd_framesBegin_0 {X : jj_X} {d : Nat} (rec : Nat → List (Option Value) → jj_Mem → Option (Int32 × jj_Mem)) (hrec : ∀ (L : Nat) (lo : List (Option Value)) (x : jj_Mem) (q : Int32 × jj_Mem), rec L lo x = some q → jj_J Y0 X (d + 1) m_Rd_framesBegin L lo [] x (jp_i q)) {this : Nat} {a1 : Nat} {a2 : Nat} (h_this : o_Rd this) (h_a1 : o_Pr a1) (h_a2 : o_Me a2) {x : jj_Mem} {q : Int32 × jj_Mem} (h : k_Rd_framesBegin_0 rec this a1 a2 x = some q) : jj_J Y0 X (d + 1) m_Rd_framesBegin 0 [some (.ref this), some (.ref a1), some (.ref a2), none] [] x (jp_i q) := by
  unfold k_Rd_framesBegin_0 at h
  refine jj_iconst d_Rd_framesBegin_0 jc_i_0 ?_
  refine jj_istore_n (lo' := [_, _, _, _]) d_Rd_framesBegin_1 rfl (by decide) rfl ?_
  exact jj_J.sub (hrec _ _ _ _ h) (fun i v hi => jj_mask_ok [true, true, true, true] hi)
def f_Rd_framesBegin (this : Nat) (a1 : Nat) (a2 : Nat) (x : jj_Mem) : Option (Int32 × jj_Mem) := k_Rd_framesBegin_0 (g_Rd_framesBegin 1000) this a1 a2 x
theorem c_Rd_framesBegin {X : jj_X} {d : Nat} {this : Nat} {a1 : Nat} {a2 : Nat} (h_this : o_Rd this) (h_a1 : o_Pr a1) (h_a2 : o_Me a2) {x : jj_Mem} {q : Int32 × jj_Mem} (h : f_Rd_framesBegin this a1 a2 x = some q) : jj_Met Y0 X (d + 1) m_Rd_framesBegin [.ref this, .ref a1, .ref a2] x (jp_i q) :=
  jj_metp 1 (lo := [some (.ref this), some (.ref a1), some (.ref a2), none]) rfl (Nat.le_of_ble_eq_true rfl) rfl (t_Rd_framesBegin_0 _ (t_Rd_framesBegin_g 1000) h_this h_a1 h_a2 h)
def k_Rd_highestOperand_20 (l1 : Nat) (l3 : Int32) (x : jj_Mem) : Option (Int32 × jj_Mem) :=
  (if l3 = 18 then some (((x l1 2) - 1), x) else (if l3 = 184 then some (((x l1 4) - 1), x) else some (255, x)))
set_option maxHeartbeats 2000000 in
theorem t_Rd_highestOperand_20 {X : jj_X} {d : Nat} {l1 : Nat} {l3 : Int32} (h_l1 : o_Pr l1) {x : jj_Mem} {q : Int32 × jj_Mem} (h : k_Rd_highestOperand_20 l1 l3 x = some q) : jj_J Y0 X (d + 1) m_Rd_highestOperand 20 [none, some (.ref l1), none, some (.int l3), none] [] x (jp_i q) := by
  unfold k_Rd_highestOperand_20 at h
  refine jj_iload_n d_Rd_highestOperand_20 rfl ?_
  refine jj_bipush d_Rd_highestOperand_21 jc_b_18 ?_
  refine jj_ic_ne (tgt := 33) d_Rd_highestOperand_23 rfl (fun c1 => ?_) (fun c1 => ?_)
  · rw [if_neg c1] at h
    refine jj_iload_n d_Rd_highestOperand_33 rfl ?_
    refine jj_sipush d_Rd_highestOperand_34 jc_s_184 ?_
    refine jj_ic_ne (tgt := 49) d_Rd_highestOperand_37 rfl (fun c2 => ?_) (fun c2 => ?_)
    · rw [if_neg c2] at h
      refine jj_sipush d_Rd_highestOperand_49 jc_s_255 ?_
      cases h
      exact jj_ireturn d_Rd_highestOperand_52 rfl ⟨rfl, rfl⟩
    · rw [if_pos c2] at h
      refine jj_aload_n d_Rd_highestOperand_40 rfl ?_
      refine jj_getI d_Rd_highestOperand_41 fk_Rd_30 (sh_Pr h_l1).2 (sh_Pr h_l1).1 rfl rfl ?_
      refine jj_iconst d_Rd_highestOperand_44 jc_i_1 ?_
      refine jj_isub d_Rd_highestOperand_45 ?_
      refine jj_goto (tgt := 52) d_Rd_highestOperand_46 rfl ?_
      cases h
      exact jj_ireturn d_Rd_highestOperand_52 rfl ⟨rfl, rfl⟩
  · rw [if_pos c1] at h
    refine jj_aload_n d_Rd_highestOperand_26 rfl ?_
    refine jj_getI d_Rd_highestOperand_27 fk_Rd_50 (sh_Pr h_l1).2 (sh_Pr h_l1).1 rfl rfl ?_
    refine jj_iconst d_Rd_highestOperand_30 jc_i_1 ?_
    refine jj_isub d_Rd_highestOperand_31 ?_
    cases h
    exact jj_ireturn d_Rd_highestOperand_32 rfl ⟨rfl, rfl⟩
def f_Rd_highestOperand (this : Nat) (a1 : Nat) (a2 : Nat) (a3 : Int32) (a4 : Int32) (x : jj_Mem) : Option (Int32 × jj_Mem) :=
  (if a4 = 1 then jj_b1 (s_In_hasPlace a3) (fun r2 => (if r2 = 0 then k_Rd_highestOperand_20 a1 a3 x else some (((x a2 4) - 1), x))) else k_Rd_highestOperand_20 a1 a3 x)
set_option maxHeartbeats 2000000 in
theorem t_Rd_highestOperand_0 {X : jj_X} {d : Nat} {this : Nat} {a1 : Nat} {a2 : Nat} {a3 : Int32} {a4 : Int32} (h_this : o_Rd this) (h_a1 : o_Pr a1) (h_a2 : o_Me a2) {x : jj_Mem} {q : Int32 × jj_Mem} (h : f_Rd_highestOperand this a1 a2 a3 a4 x = some q) : jj_J Y0 X (d + 1) m_Rd_highestOperand 0 [some (.ref this), some (.ref a1), some (.ref a2), some (.int a3), some (.int a4)] [] x (jp_i q) := by
  unfold f_Rd_highestOperand at h
  refine jj_iload d_Rd_highestOperand_0 rfl ?_
  refine jj_iconst d_Rd_highestOperand_2 jc_i_1 ?_
  refine jj_ic_ne (tgt := 20) d_Rd_highestOperand_3 rfl (fun c1 => ?_) (fun c1 => ?_)
  · rw [if_neg c1] at h
    exact jj_J.sub (t_Rd_highestOperand_20 h_a1 h) (fun i v hi => jj_mask_ok [false, true, false, true, false] hi)
  · rw [if_pos c1] at h
    refine jj_iload_n d_Rd_highestOperand_6 rfl ?_
    obtain ⟨r2, e2, h⟩ := jj_b1o h
    refine jj_callSi (as := [.int a3]) (c_In_hasPlace (d := d + 0)  e2) d_Rd_highestOperand_7 ck_Rd_112 rfl rfl (Nat.le_of_ble_eq_true rfl) ?_
    refine jj_if_eq (tgt := 20) d_Rd_highestOperand_10 rfl (fun c3 => ?_) (fun c3 => ?_)
    · rw [if_pos c3] at h
      exact jj_J.sub (t_Rd_highestOperand_20 h_a1 h) (fun i v hi => jj_mask_ok [false, true, false, true, false] hi)
    · rw [if_neg c3] at h
      refine jj_aload_n d_Rd_highestOperand_13 rfl ?_
      refine jj_getI d_Rd_highestOperand_14 fk_Rd_89 (sh_Me h_a2).2 (sh_Me h_a2).1 rfl rfl ?_
      refine jj_iconst d_Rd_highestOperand_17 jc_i_1 ?_
      refine jj_isub d_Rd_highestOperand_18 ?_
      cases h
      exact jj_ireturn d_Rd_highestOperand_19 rfl ⟨rfl, rfl⟩
theorem c_Rd_highestOperand {X : jj_X} {d : Nat} {this : Nat} {a1 : Nat} {a2 : Nat} {a3 : Int32} {a4 : Int32} (h_this : o_Rd this) (h_a1 : o_Pr a1) (h_a2 : o_Me a2) {x : jj_Mem} {q : Int32 × jj_Mem} (h : f_Rd_highestOperand this a1 a2 a3 a4 x = some q) : jj_Met Y0 X (d + 1) m_Rd_highestOperand [.ref this, .ref a1, .ref a2, .int a3, .int a4] x (jp_i q) :=
  jj_metp 0 (lo := [some (.ref this), some (.ref a1), some (.ref a2), some (.int a3), some (.int a4)]) rfl (Nat.le_of_ble_eq_true rfl) rfl (t_Rd_highestOperand_0 h_this h_a1 h_a2 h)
def k_Rd_nextOnes_3 (rec : Nat → List (Option Value) → jj_Mem → Option (Int32 × jj_Mem)) (l0 : Nat) (l1 : Nat) (l2 : Int32) (l3 : Int32) (l4 : Int32) (l5 : Int32) (x : jj_Mem) : Option (Int32 × jj_Mem) :=
  (if l2 ≤ l5 then some (1, x) else jj_b2 (f_Rd_next l0 l1 l3 l4 x) (fun r2 x2 => (if r2 = 0 then some (0, x2) else rec 3 [some (.ref l0), some (.ref l1), some (.int l2), some (.int l3), some (.int l4), some (.int (l5 + 1))] x2)))
set_option maxHeartbeats 2000000 in
theorem t_Rd_nextOnes_3 {X : jj_X} {d : Nat} (rec : Nat → List (Option Value) → jj_Mem → Option (Int32 × jj_Mem)) (hrec : ∀ (L : Nat) (lo : List (Option Value)) (x : jj_Mem) (q : Int32 × jj_Mem), rec L lo x = some q → jj_J Y0 X (d + 1) m_Rd_nextOnes L lo [] x (jp_i q)) {l0 : Nat} {l1 : Nat} {l2 : Int32} {l3 : Int32} {l4 : Int32} {l5 : Int32} (h_l0 : o_Rd l0) (h_l1 : o_Pr l1) {x : jj_Mem} {q : Int32 × jj_Mem} (h : k_Rd_nextOnes_3 rec l0 l1 l2 l3 l4 l5 x = some q) : jj_J Y0 X (d + 1) m_Rd_nextOnes 3 [some (.ref l0), some (.ref l1), some (.int l2), some (.int l3), some (.int l4), some (.int l5)] [] x (jp_i q) := by
  unfold k_Rd_nextOnes_3 at h
  refine jj_iload d_Rd_nextOnes_3 rfl ?_
  refine jj_iload_n d_Rd_nextOnes_5 rfl ?_
  refine jj_ic_ge (tgt := 28) d_Rd_nextOnes_6 rfl (fun c1 => ?_) (fun c1 => ?_)
  · rw [if_pos c1] at h
    refine jj_iconst d_Rd_nextOnes_28 jc_i_1 ?_
    cases h
    exact jj_zreturn d_Rd_nextOnes_29 rfl (Or.inr rfl) ⟨rfl, rfl⟩
  · rw [if_neg c1] at h
    refine jj_aload_n d_Rd_nextOnes_9 rfl ?_
    refine jj_aload_n d_Rd_nextOnes_10 rfl ?_
    refine jj_iload_n d_Rd_nextOnes_11 rfl ?_
    refine jj_iload d_Rd_nextOnes_12 rfl ?_
    obtain ⟨r2, x2, e2, h⟩ := jj_b2o h
    refine jj_callVi (as := [.ref l1, .int l3, .int l4]) (c_Rd_next (d := d + 0) h_l0 h_l1 e2) d_Rd_nextOnes_14 ck_Rd_19 (sh_Rd h_l0).2 (sh_Rd h_l0).1 ⟨_, rfl, rfl⟩ rfl rfl (Nat.le_of_ble_eq_true rfl) ?_
    refine jj_if_ne (tgt := 22) d_Rd_nextOnes_17 rfl (fun c3 => ?_) (fun c3 => ?_)
    · rw [if_neg c3] at h
      refine jj_iinc (lo' := [_, _, _, _, _, _]) (v := (l5 + 1)) d_Rd_nextOnes_22 rfl (jc_a_1 _) rfl (by decide) rfl ?_
      refine jj_goto (tgt := 3) d_Rd_nextOnes_25 rfl ?_
      exact jj_J.sub (hrec _ _ _ _ h) (fun i v hi => jj_mask_ok [true, true, true, true, true, true] hi)
    · rw [if_pos c3] at h
      refine jj_iconst d_Rd_nextOnes_20 jc_i_0 ?_
      cases h
      exact jj_zreturn d_Rd_nextOnes_21 rfl (Or.inl rfl) ⟨rfl, rfl⟩
def g_Rd_nextOnes : Nat → Nat → List (Option Value) → jj_Mem → Option (Int32 × jj_Mem)
  | 0, _, _, _ => none
  | f + 1, L, lo, x => match L, lo with
    | 3, [some (.ref l0), some (.ref l1), some (.int l2), some (.int l3), some (.int l4), some (.int l5)] => if (bo_Rd l0 && bo_Pr l1) = true then k_Rd_nextOnes_3 (g_Rd_nextOnes f) l0 l1 l2 l3 l4 l5 x else none
    | _, _ => none
set_option maxHeartbeats 2000000 in
theorem t_Rd_nextOnes_g {X : jj_X} {d : Nat} : ∀ (f L : Nat) (lo : List (Option Value)) (x : jj_Mem) (q : Int32 × jj_Mem), g_Rd_nextOnes f L lo x = some q → jj_J Y0 X (d + 1) m_Rd_nextOnes L lo [] x (jp_i q) := by
  intro f
  induction f with
  | zero => intro L lo x q h; simp [g_Rd_nextOnes] at h
  | succ f ih =>
    intro L lo x q h
    unfold g_Rd_nextOnes at h
    split at h
    · obtain ⟨i1, h⟩ := jj_gt h
      exact t_Rd_nextOnes_3 _ ih (ob_Rd (jj_andl i1)) (ob_Pr (jj_andr i1)) h
    · cases h
def k_Rd_nextOnes_0 (rec : Nat → List (Option Value) → jj_Mem → Option (Int32 × jj_Mem)) (this : Nat) (a1 : Nat) (a2 : Int32) (a3 : Int32) (a4 : Int32) (x : jj_Mem) : Option (Int32 × jj_Mem) :=
  rec 3 [some (.ref this), some (.ref a1), some (.int a2), some (.int a3), some (.int a4), some (.int 0)] x
set_option maxHeartbeats 2000000 in
theorem t_Rd_nextOnes_0 {X : jj_X} {d : Nat} (rec : Nat → List (Option Value) → jj_Mem → Option (Int32 × jj_Mem)) (hrec : ∀ (L : Nat) (lo : List (Option Value)) (x : jj_Mem) (q : Int32 × jj_Mem), rec L lo x = some q → jj_J Y0 X (d + 1) m_Rd_nextOnes L lo [] x (jp_i q)) {this : Nat} {a1 : Nat} {a2 : Int32} {a3 : Int32} {a4 : Int32} (h_this : o_Rd this) (h_a1 : o_Pr a1) {x : jj_Mem} {q : Int32 × jj_Mem} (h : k_Rd_nextOnes_0 rec this a1 a2 a3 a4 x = some q) : jj_J Y0 X (d + 1) m_Rd_nextOnes 0 [some (.ref this), some (.ref a1), some (.int a2), some (.int a3), some (.int a4), none] [] x (jp_i q) := by
  unfold k_Rd_nextOnes_0 at h
  refine jj_iconst d_Rd_nextOnes_0 jc_i_0 ?_
  refine jj_istore (lo' := [_, _, _, _, _, _]) d_Rd_nextOnes_1 rfl (by decide) rfl ?_
  exact jj_J.sub (hrec _ _ _ _ h) (fun i v hi => jj_mask_ok [true, true, true, true, true, true] hi)
def f_Rd_nextOnes (this : Nat) (a1 : Nat) (a2 : Int32) (a3 : Int32) (a4 : Int32) (x : jj_Mem) : Option (Int32 × jj_Mem) := k_Rd_nextOnes_0 (g_Rd_nextOnes 1000) this a1 a2 a3 a4 x
theorem c_Rd_nextOnes {X : jj_X} {d : Nat} {this : Nat} {a1 : Nat} {a2 : Int32} {a3 : Int32} {a4 : Int32} (h_this : o_Rd this) (h_a1 : o_Pr a1) {x : jj_Mem} {q : Int32 × jj_Mem} (h : f_Rd_nextOnes this a1 a2 a3 a4 x = some q) : jj_Met Y0 X (d + 1) m_Rd_nextOnes [.ref this, .ref a1, .int a2, .int a3, .int a4] x (jp_i q) :=
  jj_metp 1 (lo := [some (.ref this), some (.ref a1), some (.int a2), some (.int a3), some (.int a4), none]) rfl (Nat.le_of_ble_eq_true rfl) rfl (t_Rd_nextOnes_0 _ (t_Rd_nextOnes_g 1000) h_this h_a1 h)
def f_St_exchange (this : Nat) (x : jj_Mem) : Option (jj_Mem) :=
  jj_b2 (f_St_take this x) (fun r1 x1 => jj_b2 (f_St_kindTaken this x1) (fun r2 x2 => jj_b2 (f_St_take this x2) (fun r3 x3 => jj_b2 (f_St_kindTaken this x3) (fun r4 x4 => jj_b1 (f_St_put this r2 r1 x4) (fun x5 => jj_b1 (f_St_put this r4 r3 x5) (fun x6 => some x6))))))
set_option maxHeartbeats 2000000 in
theorem t_St_exchange_0 {X : jj_X} {d : Nat} {this : Nat} (h_this : o_St this) {x : jj_Mem} {q : jj_Mem} (h : f_St_exchange this x = some q) : jj_J Y0 X (d + 1) m_St_exchange 0 [some (.ref this), none, none, none, none] [] x (jp_v q) := by
  unfold f_St_exchange at h
  refine jj_aload_n d_St_exchange_0 rfl ?_
  obtain ⟨r1, x1, e1, h⟩ := jj_b2o h
  refine jj_callVi (as := []) (c_St_take (d := d + 0) h_this e1) d_St_exchange_1 ck_St_43 (sh_St h_this).2 (sh_St h_this).1 ⟨_, rfl, rfl⟩ rfl rfl (Nat.le_of_ble_eq_true rfl) ?_
  refine jj_istore_n (lo' := [_, _, _, _, _]) d_St_exchange_4 rfl (by decide) rfl ?_
  refine jj_aload_n d_St_exchange_5 rfl ?_
  obtain ⟨r2, x2, e2, h⟩ := jj_b2o h
  refine jj_callVi (as := []) (c_St_kindTaken (d := d + 0) h_this e2) d_St_exchange_6 ck_St_47 (sh_St h_this).2 (sh_St h_this).1 ⟨_, rfl, rfl⟩ rfl rfl (Nat.le_of_ble_eq_true rfl) ?_
  refine jj_istore_n (lo' := [_, _, _, _, _]) d_St_exchange_9 rfl (by decide) rfl ?_
  refine jj_aload_n d_St_exchange_10 rfl ?_
  obtain ⟨r3, x3, e3, h⟩ := jj_b2o h
  refine jj_callVi (as := []) (c_St_take (d := d + 0) h_this e3) d_St_exchange_11 ck_St_43 (sh_St h_this).2 (sh_St h_this).1 ⟨_, rfl, rfl⟩ rfl rfl (Nat.le_of_ble_eq_true rfl) ?_
  refine jj_istore_n (lo' := [_, _, _, _, _]) d_St_exchange_14 rfl (by decide) rfl ?_
  refine jj_aload_n d_St_exchange_15 rfl ?_
  obtain ⟨r4, x4, e4, h⟩ := jj_b2o h
  refine jj_callVi (as := []) (c_St_kindTaken (d := d + 0) h_this e4) d_St_exchange_16 ck_St_47 (sh_St h_this).2 (sh_St h_this).1 ⟨_, rfl, rfl⟩ rfl rfl (Nat.le_of_ble_eq_true rfl) ?_
  refine jj_istore (lo' := [_, _, _, _, _]) d_St_exchange_19 rfl (by decide) rfl ?_
  refine jj_aload_n d_St_exchange_21 rfl ?_
  refine jj_iload_n d_St_exchange_22 rfl ?_
  refine jj_iload_n d_St_exchange_23 rfl ?_
  obtain ⟨x5, e5, h⟩ := jj_b1o h
  refine jj_callVv (as := [.int r2, .int r1]) (c_St_put (d := d + 0) h_this e5) d_St_exchange_24 ck_St_39 (sh_St h_this).2 (sh_St h_this).1 ⟨_, rfl, rfl⟩ rfl rfl (Nat.le_of_ble_eq_true rfl) ?_
  refine jj_aload_n d_St_exchange_27 rfl ?_
  refine jj_iload d_St_exchange_28 rfl ?_
  refine jj_iload_n d_St_exchange_30 rfl ?_
  obtain ⟨x6, e6, h⟩ := jj_b1o h
  refine jj_callVv (as := [.int r4, .int r3]) (c_St_put (d := d + 0) h_this e6) d_St_exchange_31 ck_St_39 (sh_St h_this).2 (sh_St h_this).1 ⟨_, rfl, rfl⟩ rfl rfl (Nat.le_of_ble_eq_true rfl) ?_
  cases h
  exact jj_return d_St_exchange_34 rfl ⟨rfl, rfl⟩
theorem c_St_exchange {X : jj_X} {d : Nat} {this : Nat} (h_this : o_St this) {x : jj_Mem} {q : jj_Mem} (h : f_St_exchange this x = some q) : jj_Met Y0 X (d + 1) m_St_exchange [.ref this] x (jp_v q) :=
  jj_metp 4 (lo := [some (.ref this), none, none, none, none]) rfl (Nat.le_of_ble_eq_true rfl) rfl (t_St_exchange_0 h_this h)
def k_St_hasPlace_38  (x : jj_Mem) : Option (Int32 × jj_Mem) :=
  some (1, x)
set_option maxHeartbeats 2000000 in
theorem t_St_hasPlace_38 {X : jj_X} {d : Nat}   {x : jj_Mem} {q : Int32 × jj_Mem} (h : k_St_hasPlace_38  x = some q) : jj_J Y0 X (d + 1) m_St_hasPlace 38 [none, none, none, none, none] [] x (jp_i q) := by
  unfold k_St_hasPlace_38 at h
  refine jj_iconst d_St_hasPlace_38 jc_i_1 ?_
  refine jj_goto (tgt := 43) d_St_hasPlace_39 rfl ?_
  cases h
  exact jj_zreturn d_St_hasPlace_43 rfl (Or.inr rfl) ⟨rfl, rfl⟩
def f_St_hasPlace (this : Nat) (a1 : Nat) (a2 : Nat) (a3 : Int32) (x : jj_Mem) : Option (Int32 × jj_Mem) :=
  jj_b2 (f_Pr_code a1 a2 a3 x) (fun r1 x1 => jj_b1 (s_In_hasPlace r1) (fun r2 => (if r2 = 0 then k_St_hasPlace_38  x1 else jj_b2 (f_Pr_operand a1 a2 a3 x1) (fun r4 x4 => if jj_inb r4 6 = true then jj_b1 (s_In_typeOfPlace r1) (fun r6 => jj_b2 (f_VC_isGoodFor (x4 (this + 1) (Int32.toNatClampNeg r4)) r6 x4) (fun r7 x7 => (if r7 = 0 then some (0, x7) else k_St_hasPlace_38  x7))) else none))))
set_option maxHeartbeats 2000000 in
theorem t_St_hasPlace_0 {X : jj_X} {d : Nat} {this : Nat} {a1 : Nat} {a2 : Nat} {a3 : Int32} (h_this : o_St this) (h_a1 : o_Pr a1) (h_a2 : o_Me a2) {x : jj_Mem} {q : Int32 × jj_Mem} (h : f_St_hasPlace this a1 a2 a3 x = some q) : jj_J Y0 X (d + 1) m_St_hasPlace 0 [some (.ref this), some (.ref a1), some (.ref a2), some (.int a3), none] [] x (jp_i q) := by
  unfold f_St_hasPlace at h
  refine jj_aload_n d_St_hasPlace_0 rfl ?_
  refine jj_aload_n d_St_hasPlace_1 rfl ?_
  refine jj_iload_n d_St_hasPlace_2 rfl ?_
  obtain ⟨r1, x1, e1, h⟩ := jj_b2o h
  refine jj_callVi (as := [.ref a2, .int a3]) (c_Pr_code (d := d + 0) h_a1 h_a2 e1) d_St_hasPlace_3 ck_St_50 (sh_Pr h_a1).2 (sh_Pr h_a1).1 ⟨_, rfl, rfl⟩ rfl rfl (Nat.le_of_ble_eq_true rfl) ?_
  refine jj_istore (lo' := [_, _, _, _, _]) d_St_hasPlace_6 rfl (by decide) rfl ?_
  refine jj_iload d_St_hasPlace_8 rfl ?_
  obtain ⟨r2, e2, h⟩ := jj_b1o h
  refine jj_callSi (as := [.int r1]) (c_In_hasPlace (d := d + 0)  e2) d_St_hasPlace_10 ck_St_95 rfl rfl (Nat.le_of_ble_eq_true rfl) ?_
  refine jj_if_eq (tgt := 38) d_St_hasPlace_13 rfl (fun c3 => ?_) (fun c3 => ?_)
  · rw [if_pos c3] at h
    exact jj_J.sub (t_St_hasPlace_38  h) (fun i v hi => jj_mask_ok [false, false, false, false, false] hi)
  · rw [if_neg c3] at h
    refine jj_aload_n d_St_hasPlace_16 rfl ?_
    refine jj_getR d_St_hasPlace_17 fk_St_9 (sh_St h_this).2 (sh_St h_this).1 rfl ?_
    refine jj_aload_n d_St_hasPlace_20 rfl ?_
    refine jj_aload_n d_St_hasPlace_21 rfl ?_
    refine jj_iload_n d_St_hasPlace_22 rfl ?_
    obtain ⟨r4, x4, e4, h⟩ := jj_b2o h
    refine jj_callVi (as := [.ref a2, .int a3]) (c_Pr_operand (d := d + 0) h_a1 h_a2 e4) d_St_hasPlace_23 ck_St_97 (sh_Pr h_a1).2 (sh_Pr h_a1).1 ⟨_, rfl, rfl⟩ rfl rfl (Nat.le_of_ble_eq_true rfl) ?_
    obtain ⟨i5, h⟩ := jj_gt h
    refine jj_iaload d_St_hasPlace_26 rfl (ar_St_placeKinds h_this).1 (ar_St_placeKinds h_this).2 (jj_inn i5) rfl ?_
    refine jj_iload d_St_hasPlace_27 rfl ?_
    obtain ⟨r6, e6, h⟩ := jj_b1o h
    refine jj_callSi (as := [.int r1]) (c_In_typeOfPlace (d := d + 0)  e6) d_St_hasPlace_29 ck_St_100 rfl rfl (Nat.le_of_ble_eq_true rfl) ?_
    obtain ⟨r7, x7, e7, h⟩ := jj_b2o h
    refine jj_callSNi (as := [.int (x4 (this + 1) (Int32.toNatClampNeg r4)), .int r6]) (c_VC_isGoodFor (d := d + 0)  e7) d_St_hasPlace_32 ck_St_91 rfl rfl (Nat.le_of_ble_eq_true rfl) ?_
    refine jj_if_eq (tgt := 42) d_St_hasPlace_35 rfl (fun c8 => ?_) (fun c8 => ?_)
    · rw [if_pos c8] at h
      refine jj_iconst d_St_hasPlace_42 jc_i_0 ?_
      cases h
      exact jj_zreturn d_St_hasPlace_43 rfl (Or.inl rfl) ⟨rfl, rfl⟩
    · rw [if_neg c8] at h
      exact jj_J.sub (t_St_hasPlace_38  h) (fun i v hi => jj_mask_ok [false, false, false, false, false] hi)
theorem c_St_hasPlace {X : jj_X} {d : Nat} {this : Nat} {a1 : Nat} {a2 : Nat} {a3 : Int32} (h_this : o_St this) (h_a1 : o_Pr a1) (h_a2 : o_Me a2) {x : jj_Mem} {q : Int32 × jj_Mem} (h : f_St_hasPlace this a1 a2 a3 x = some q) : jj_Met Y0 X (d + 1) m_St_hasPlace [.ref this, .ref a1, .ref a2, .int a3] x (jp_i q) :=
  jj_metp 1 (lo := [some (.ref this), some (.ref a1), some (.ref a2), some (.int a3), none]) rfl (Nat.le_of_ble_eq_true rfl) rfl (t_St_hasPlace_0 h_this h_a1 h_a2 h)
def k_St_makeEmpty_2 (rec : Nat → List (Option Value) → jj_Mem → Option (jj_Mem)) (l0 : Nat) (l1 : Int32) (x : jj_Mem) : Option (jj_Mem) :=
  (if 6 ≤ l1 then some (jj_set x l0 4 0) else jj_b1 (f_St_setPlace l0 l1 0 0 x) (fun x2 => rec 2 [some (.ref l0), some (.int (l1 + 1))] x2))
set_option maxHeartbeats 2000000 in
theorem t_St_makeEmpty_2 {X : jj_X} {d : Nat} (rec : Nat → List (Option Value) → jj_Mem → Option (jj_Mem)) (hrec : ∀ (L : Nat) (lo : List (Option Value)) (x : jj_Mem) (q : jj_Mem), rec L lo x = some q → jj_J Y0 X (d + 1) m_St_makeEmpty L lo [] x (jp_v q)) {l0 : Nat} {l1 : Int32} (h_l0 : o_St l0) {x : jj_Mem} {q : jj_Mem} (h : k_St_makeEmpty_2 rec l0 l1 x = some q) : jj_J Y0 X (d + 1) m_St_makeEmpty 2 [some (.ref l0), some (.int l1)] [] x (jp_v q) := by
  unfold k_St_makeEmpty_2 at h
  refine jj_iload_n d_St_makeEmpty_2 rfl ?_
  refine jj_bipush d_St_makeEmpty_3 jc_b_6 ?_
  refine jj_ic_ge (tgt := 21) d_St_makeEmpty_5 rfl (fun c1 => ?_) (fun c1 => ?_)
  · rw [if_pos c1] at h
    refine jj_aload_n d_St_makeEmpty_21 rfl ?_
    refine jj_iconst d_St_makeEmpty_22 jc_i_0 ?_
    refine jj_putI d_St_makeEmpty_23 pk_St_28 (sh_St h_l0).2 (sh_St h_l0).1 rfl ?_
    cases h
    exact jj_return d_St_makeEmpty_26 rfl ⟨rfl, rfl⟩
  · rw [if_neg c1] at h
    refine jj_aload_n d_St_makeEmpty_8 rfl ?_
    refine jj_iload_n d_St_makeEmpty_9 rfl ?_
    refine jj_iconst d_St_makeEmpty_10 jc_i_0 ?_
    refine jj_iconst d_St_makeEmpty_11 jc_i_0 ?_
    obtain ⟨x2, e2, h⟩ := jj_b1o h
    refine jj_callVv (as := [.int l1, .int 0, .int 0]) (c_St_setPlace (d := d + 0) h_l0 e2) d_St_makeEmpty_12 ck_St_24 (sh_St h_l0).2 (sh_St h_l0).1 ⟨_, rfl, rfl⟩ rfl rfl (Nat.le_of_ble_eq_true rfl) ?_
    refine jj_iinc (lo' := [_, _]) (v := (l1 + 1)) d_St_makeEmpty_15 rfl (jc_a_1 _) rfl (by decide) rfl ?_
    refine jj_goto (tgt := 2) d_St_makeEmpty_18 rfl ?_
    exact jj_J.sub (hrec _ _ _ _ h) (fun i v hi => jj_mask_ok [true, true] hi)
def g_St_makeEmpty : Nat → Nat → List (Option Value) → jj_Mem → Option (jj_Mem)
  | 0, _, _, _ => none
  | f + 1, L, lo, x => match L, lo with
    | 2, [some (.ref l0), some (.int l1)] => if (bo_St l0) = true then k_St_makeEmpty_2 (g_St_makeEmpty f) l0 l1 x else none
    | _, _ => none
set_option maxHeartbeats 2000000 in
theorem t_St_makeEmpty_g {X : jj_X} {d : Nat} : ∀ (f L : Nat) (lo : List (Option Value)) (x : jj_Mem) (q : jj_Mem), g_St_makeEmpty f L lo x = some q → jj_J Y0 X (d + 1) m_St_makeEmpty L lo [] x (jp_v q) := by
  intro f
  induction f with
  | zero => intro L lo x q h; simp [g_St_makeEmpty] at h
  | succ f ih =>
    intro L lo x q h
    unfold g_St_makeEmpty at h
    split at h
    · obtain ⟨i1, h⟩ := jj_gt h
      exact t_St_makeEmpty_2 _ ih (ob_St i1) h
    · cases h
def k_St_makeEmpty_0 (rec : Nat → List (Option Value) → jj_Mem → Option (jj_Mem)) (this : Nat) (x : jj_Mem) : Option (jj_Mem) :=
  rec 2 [some (.ref this), some (.int 0)] x
set_option maxHeartbeats 2000000 in
theorem t_St_makeEmpty_0 {X : jj_X} {d : Nat} (rec : Nat → List (Option Value) → jj_Mem → Option (jj_Mem)) (hrec : ∀ (L : Nat) (lo : List (Option Value)) (x : jj_Mem) (q : jj_Mem), rec L lo x = some q → jj_J Y0 X (d + 1) m_St_makeEmpty L lo [] x (jp_v q)) {this : Nat} (h_this : o_St this) {x : jj_Mem} {q : jj_Mem} (h : k_St_makeEmpty_0 rec this x = some q) : jj_J Y0 X (d + 1) m_St_makeEmpty 0 [some (.ref this), none] [] x (jp_v q) := by
  unfold k_St_makeEmpty_0 at h
  refine jj_iconst d_St_makeEmpty_0 jc_i_0 ?_
  refine jj_istore_n (lo' := [_, _]) d_St_makeEmpty_1 rfl (by decide) rfl ?_
  exact jj_J.sub (hrec _ _ _ _ h) (fun i v hi => jj_mask_ok [true, true] hi)
def f_St_makeEmpty (this : Nat) (x : jj_Mem) : Option (jj_Mem) := k_St_makeEmpty_0 (g_St_makeEmpty 1000) this x
theorem c_St_makeEmpty {X : jj_X} {d : Nat} {this : Nat} (h_this : o_St this) {x : jj_Mem} {q : jj_Mem} (h : f_St_makeEmpty this x = some q) : jj_Met Y0 X (d + 1) m_St_makeEmpty [.ref this] x (jp_v q) :=
  jj_metp 1 (lo := [some (.ref this), none]) rfl (Nat.le_of_ble_eq_true rfl) rfl (t_St_makeEmpty_0 _ (t_St_makeEmpty_g 1000) h_this h)
def f_St_moveToPlace (this : Nat) (a1 : Int32) (x : jj_Mem) : Option (jj_Mem) :=
  jj_b2 (f_St_take this x) (fun r1 x1 => jj_b2 (f_St_kindTaken this x1) (fun r2 x2 => jj_b1 (f_St_setPlace this a1 r2 r1 x2) (fun x3 => some x3)))
set_option maxHeartbeats 2000000 in
theorem t_St_moveToPlace_0 {X : jj_X} {d : Nat} {this : Nat} {a1 : Int32} (h_this : o_St this) {x : jj_Mem} {q : jj_Mem} (h : f_St_moveToPlace this a1 x = some q) : jj_J Y0 X (d + 1) m_St_moveToPlace 0 [some (.ref this), some (.int a1), none] [] x (jp_v q) := by
  unfold f_St_moveToPlace at h
  refine jj_aload_n d_St_moveToPlace_0 rfl ?_
  obtain ⟨r1, x1, e1, h⟩ := jj_b2o h
  refine jj_callVi (as := []) (c_St_take (d := d + 0) h_this e1) d_St_moveToPlace_1 ck_St_43 (sh_St h_this).2 (sh_St h_this).1 ⟨_, rfl, rfl⟩ rfl rfl (Nat.le_of_ble_eq_true rfl) ?_
  refine jj_istore_n (lo' := [_, _, _]) d_St_moveToPlace_4 rfl (by decide) rfl ?_
  refine jj_aload_n d_St_moveToPlace_5 rfl ?_
  refine jj_iload_n d_St_moveToPlace_6 rfl ?_
  refine jj_aload_n d_St_moveToPlace_7 rfl ?_
  obtain ⟨r2, x2, e2, h⟩ := jj_b2o h
  refine jj_callVi (as := []) (c_St_kindTaken (d := d + 0) h_this e2) d_St_moveToPlace_8 ck_St_47 (sh_St h_this).2 (sh_St h_this).1 ⟨_, rfl, rfl⟩ rfl rfl (Nat.le_of_ble_eq_true rfl) ?_
  refine jj_iload_n d_St_moveToPlace_11 rfl ?_
  obtain ⟨x3, e3, h⟩ := jj_b1o h
  refine jj_callVv (as := [.int a1, .int r2, .int r1]) (c_St_setPlace (d := d + 0) h_this e3) d_St_moveToPlace_12 ck_St_24 (sh_St h_this).2 (sh_St h_this).1 ⟨_, rfl, rfl⟩ rfl rfl (Nat.le_of_ble_eq_true rfl) ?_
  cases h
  exact jj_return d_St_moveToPlace_15 rfl ⟨rfl, rfl⟩
theorem c_St_moveToPlace {X : jj_X} {d : Nat} {this : Nat} {a1 : Int32} (h_this : o_St this) {x : jj_Mem} {q : jj_Mem} (h : f_St_moveToPlace this a1 x = some q) : jj_Met Y0 X (d + 1) m_St_moveToPlace [.ref this, .int a1] x (jp_v q) :=
  jj_metp 1 (lo := [some (.ref this), some (.int a1), none]) rfl (Nat.le_of_ble_eq_true rfl) rfl (t_St_moveToPlace_0 h_this h)
def f_St_putAgain (this : Nat) (x : jj_Mem) : Option (jj_Mem) :=
  jj_b2 (f_St_kindBelow this 0 x) (fun r1 x1 => jj_b2 (f_St_valueBelow this 0 x1) (fun r2 x2 => jj_b1 (f_St_put this r1 r2 x2) (fun x3 => some x3)))
set_option maxHeartbeats 2000000 in
theorem t_St_putAgain_0 {X : jj_X} {d : Nat} {this : Nat} (h_this : o_St this) {x : jj_Mem} {q : jj_Mem} (h : f_St_putAgain this x = some q) : jj_J Y0 X (d + 1) m_St_putAgain 0 [some (.ref this)] [] x (jp_v q) := by
  unfold f_St_putAgain at h
  refine jj_aload_n d_St_putAgain_0 rfl ?_
  refine jj_aload_n d_St_putAgain_1 rfl ?_
  refine jj_iconst d_St_putAgain_2 jc_i_0 ?_
  obtain ⟨r1, x1, e1, h⟩ := jj_b2o h
  refine jj_callVi (as := [.int 0]) (c_St_kindBelow (d := d + 0) h_this e1) d_St_putAgain_3 ck_St_32 (sh_St h_this).2 (sh_St h_this).1 ⟨_, rfl, rfl⟩ rfl rfl (Nat.le_of_ble_eq_true rfl) ?_
  refine jj_aload_n d_St_putAgain_6 rfl ?_
  refine jj_iconst d_St_putAgain_7 jc_i_0 ?_
  obtain ⟨r2, x2, e2, h⟩ := jj_b2o h
  refine jj_callVi (as := [.int 0]) (c_St_valueBelow (d := d + 0) h_this e2) d_St_putAgain_8 ck_St_36 (sh_St h_this).2 (sh_St h_this).1 ⟨_, rfl, rfl⟩ rfl rfl (Nat.le_of_ble_eq_true rfl) ?_
  obtain ⟨x3, e3, h⟩ := jj_b1o h
  refine jj_callVv (as := [.int r1, .int r2]) (c_St_put (d := d + 0) h_this e3) d_St_putAgain_11 ck_St_39 (sh_St h_this).2 (sh_St h_this).1 ⟨_, rfl, rfl⟩ rfl rfl (Nat.le_of_ble_eq_true rfl) ?_
  cases h
  exact jj_return d_St_putAgain_14 rfl ⟨rfl, rfl⟩
theorem c_St_putAgain {X : jj_X} {d : Nat} {this : Nat} (h_this : o_St this) {x : jj_Mem} {q : jj_Mem} (h : f_St_putAgain this x = some q) : jj_Met Y0 X (d + 1) m_St_putAgain [.ref this] x (jp_v q) :=
  jj_metp 0 (lo := [some (.ref this)]) rfl (Nat.le_of_ble_eq_true rfl) rfl (t_St_putAgain_0 h_this h)
def f_St_putPlace (this : Nat) (a1 : Int32) (x : jj_Mem) : Option (jj_Mem) :=
  if jj_inb a1 6 = true then if jj_inb a1 6 = true then jj_b1 (f_St_put this (x (this + 1) (Int32.toNatClampNeg a1)) (x (this + 2) (Int32.toNatClampNeg a1)) x) (fun x3 => some x3) else none else none
set_option maxHeartbeats 2000000 in
theorem t_St_putPlace_0 {X : jj_X} {d : Nat} {this : Nat} {a1 : Int32} (h_this : o_St this) {x : jj_Mem} {q : jj_Mem} (h : f_St_putPlace this a1 x = some q) : jj_J Y0 X (d + 1) m_St_putPlace 0 [some (.ref this), some (.int a1)] [] x (jp_v q) := by
  unfold f_St_putPlace at h
  refine jj_aload_n d_St_putPlace_0 rfl ?_
  refine jj_aload_n d_St_putPlace_1 rfl ?_
  refine jj_getR d_St_putPlace_2 fk_St_9 (sh_St h_this).2 (sh_St h_this).1 rfl ?_
  refine jj_iload_n d_St_putPlace_5 rfl ?_
  obtain ⟨i1, h⟩ := jj_gt h
  refine jj_iaload d_St_putPlace_6 rfl (ar_St_placeKinds h_this).1 (ar_St_placeKinds h_this).2 (jj_inn i1) rfl ?_
  refine jj_aload_n d_St_putPlace_7 rfl ?_
  refine jj_getR d_St_putPlace_8 fk_St_15 (sh_St h_this).2 (sh_St h_this).1 rfl ?_
  refine jj_iload_n d_St_putPlace_11 rfl ?_
  obtain ⟨i2, h⟩ := jj_gt h
  refine jj_iaload d_St_putPlace_12 rfl (ar_St_placeValues h_this).1 (ar_St_placeValues h_this).2 (jj_inn i2) rfl ?_
  obtain ⟨x3, e3, h⟩ := jj_b1o h
  refine jj_callVv (as := [.int (x (this + 1) (Int32.toNatClampNeg a1)), .int (x (this + 2) (Int32.toNatClampNeg a1))]) (c_St_put (d := d + 0) h_this e3) d_St_putPlace_13 ck_St_39 (sh_St h_this).2 (sh_St h_this).1 ⟨_, rfl, rfl⟩ rfl rfl (Nat.le_of_ble_eq_true rfl) ?_
  cases h
  exact jj_return d_St_putPlace_16 rfl ⟨rfl, rfl⟩
theorem c_St_putPlace {X : jj_X} {d : Nat} {this : Nat} {a1 : Int32} (h_this : o_St this) {x : jj_Mem} {q : jj_Mem} (h : f_St_putPlace this a1 x = some q) : jj_Met Y0 X (d + 1) m_St_putPlace [.ref this, .int a1] x (jp_v q) :=
  jj_metp 0 (lo := [some (.ref this), some (.int a1)]) rfl (Nat.le_of_ble_eq_true rfl) rfl (t_St_putPlace_0 h_this h)
def f_VC_write (this : Nat) (x : jj_Mem) : Option (Int32 × jj_Mem) :=
  if bo_Pr (Int32.toNatClampNeg (x this 2)) = true then (if (x (Int32.toNatClampNeg (x this 2)) 4) = 0 then none else if bo_Pr (Int32.toNatClampNeg (x this 2)) = true then if bo_Pr (Int32.toNatClampNeg (x this 2)) = true then if jj_cpb 0 0 (x (Int32.toNatClampNeg (x this 2)) 1) 240 240 = true then if bo_Pr (Int32.toNatClampNeg ((va_up x (this + 1) (va_cpy (x ((Int32.toNatClampNeg (x this 2)) + 1)) (x (this + 1)) (Int32.toNatClampNeg 0) (Int32.toNatClampNeg 0) (Int32.toNatClampNeg (x (Int32.toNatClampNeg (x this 2)) 1)))) this 2)) = true then some (((jj_set (va_up x (this + 1) (va_cpy (x ((Int32.toNatClampNeg (x this 2)) + 1)) (x (this + 1)) (Int32.toNatClampNeg 0) (Int32.toNatClampNeg 0) (Int32.toNatClampNeg (x (Int32.toNatClampNeg (x this 2)) 1)))) this 1 ((va_up x (this + 1) (va_cpy (x ((Int32.toNatClampNeg (x this 2)) + 1)) (x (this + 1)) (Int32.toNatClampNeg 0) (Int32.toNatClampNeg 0) (Int32.toNatClampNeg (x (Int32.toNatClampNeg (x this 2)) 1)))) (Int32.toNatClampNeg ((va_up x (this + 1) (va_cpy (x ((Int32.toNatClampNeg (x this 2)) + 1)) (x (this + 1)) (Int32.toNatClampNeg 0) (Int32.toNatClampNeg 0) (Int32.toNatClampNeg (x (Int32.toNatClampNeg (x this 2)) 1)))) this 2)) 1)) this 1), (jj_set (va_up x (this + 1) (va_cpy (x ((Int32.toNatClampNeg (x this 2)) + 1)) (x (this + 1)) (Int32.toNatClampNeg 0) (Int32.toNatClampNeg 0) (Int32.toNatClampNeg (x (Int32.toNatClampNeg (x this 2)) 1)))) this 1 ((va_up x (this + 1) (va_cpy (x ((Int32.toNatClampNeg (x this 2)) + 1)) (x (this + 1)) (Int32.toNatClampNeg 0) (Int32.toNatClampNeg 0) (Int32.toNatClampNeg (x (Int32.toNatClampNeg (x this 2)) 1)))) (Int32.toNatClampNeg ((va_up x (this + 1) (va_cpy (x ((Int32.toNatClampNeg (x this 2)) + 1)) (x (this + 1)) (Int32.toNatClampNeg 0) (Int32.toNatClampNeg 0) (Int32.toNatClampNeg (x (Int32.toNatClampNeg (x this 2)) 1)))) this 2)) 1))) else none else none else none else none) else none
set_option maxHeartbeats 2000000 in
theorem t_VC_write_0 {X : jj_X} {d : Nat} {this : Nat} (h_this : o_VC this) {x : jj_Mem} {q : Int32 × jj_Mem} (h : f_VC_write this x = some q) : jj_J Y0 X (d + 1) m_VC_write 0 [some (.ref this)] [] x (jp_i q) := by
  unfold f_VC_write at h
  refine jj_aload_n d_VC_write_0 rfl ?_
  obtain ⟨i1, h⟩ := jj_gt h
  refine jj_getD d_VC_write_1 fk_VC_16 (sh_VC h_this).2 (sh_VC h_this).1 rfl rfl ?_
  refine jj_getI d_VC_write_4 fk_VC_78 (sh_Pr (ob_Pr i1)).2 (sh_Pr (ob_Pr i1)).1 rfl rfl ?_
  refine jj_if_ne (tgt := 20) d_VC_write_7 rfl (fun c2 => ?_) (fun c2 => ?_)
  · rw [if_neg c2] at h
    refine jj_aload_n d_VC_write_20 rfl ?_
    obtain ⟨i3, h⟩ := jj_gt h
    refine jj_getD d_VC_write_21 fk_VC_16 (sh_VC h_this).2 (sh_VC h_this).1 rfl rfl ?_
    refine jj_getR d_VC_write_24 fk_VC_83 (sh_Pr (ob_Pr i3)).2 (sh_Pr (ob_Pr i3)).1 rfl ?_
    refine jj_iconst d_VC_write_27 jc_i_0 ?_
    refine jj_aload_n d_VC_write_28 rfl ?_
    refine jj_getR d_VC_write_29 fk_VC_9 (sh_VC h_this).2 (sh_VC h_this).1 rfl ?_
    refine jj_iconst d_VC_write_32 jc_i_0 ?_
    refine jj_aload_n d_VC_write_33 rfl ?_
    obtain ⟨i4, h⟩ := jj_gt h
    refine jj_getD d_VC_write_34 fk_VC_16 (sh_VC h_this).2 (sh_VC h_this).1 rfl rfl ?_
    refine jj_getI d_VC_write_37 fk_VC_86 (sh_Pr (ob_Pr i4)).2 (sh_Pr (ob_Pr i4)).1 rfl rfl ?_
    obtain ⟨i5, h⟩ := jj_gt h
    refine jj_copy d_VC_write_40 cw_copy_VC_89 cw_copy2 cw_copy3 cw_copy4 rfl (Nat.le_of_ble_eq_true rfl) (ar_Pr_file (ob_Pr i3)).1 (ar_Pr_file (ob_Pr i3)).2 (ar_VC_typed h_this).1 (ar_VC_typed h_this).2 (jj_cpo i5).1 (jj_cpo i5).2.1 (jj_cpo i5).2.2.1 (jj_cpo i5).2.2.2.1 (jj_cpo i5).2.2.2.2 ?_
    refine jj_aload_n d_VC_write_43 rfl ?_
    refine jj_aload_n d_VC_write_44 rfl ?_
    obtain ⟨i6, h⟩ := jj_gt h
    refine jj_getD d_VC_write_45 fk_VC_16 (sh_VC h_this).2 (sh_VC h_this).1 rfl rfl ?_
    refine jj_getI d_VC_write_48 fk_VC_86 (sh_Pr (ob_Pr i6)).2 (sh_Pr (ob_Pr i6)).1 rfl rfl ?_
    refine jj_putI d_VC_write_51 pk_VC_51 (sh_VC h_this).2 (sh_VC h_this).1 rfl ?_
    refine jj_aload_n d_VC_write_54 rfl ?_
    refine jj_getI d_VC_write_55 fk_VC_51 (sh_VC h_this).2 (sh_VC h_this).1 rfl rfl ?_
    cases h
    exact jj_ireturn d_VC_write_58 rfl ⟨rfl, rfl⟩
  · rw [if_pos c2] at h
    cases h
theorem c_VC_write {X : jj_X} {d : Nat} {this : Nat} (h_this : o_VC this) {x : jj_Mem} {q : Int32 × jj_Mem} (h : f_VC_write this x = some q) : jj_Met Y0 X (d + 1) m_VC_write [.ref this] x (jp_i q) :=
  jj_metp 0 (lo := [some (.ref this)]) rfl (Nat.le_of_ble_eq_true rfl) rfl (t_VC_write_0 h_this h)
def k_Ck_change_76 (l0 : Nat) (l1 : Nat) (l2 : Nat) (l3 : Int32) (x : jj_Mem) : Option (jj_Mem) :=
  jj_b2 (f_Pr_operand l1 l2 l3 x) (fun r1 x1 => jj_b1 (f_St_moveToPlace (l0 + 1) r1 x1) (fun x2 => some x2))
set_option maxHeartbeats 2000000 in
theorem t_Ck_change_76 {X : jj_X} {d : Nat} {l0 : Nat} {l1 : Nat} {l2 : Nat} {l3 : Int32} (h_l0 : o_Ck l0) (h_l1 : o_Pr l1) (h_l2 : o_Me l2) {x : jj_Mem} {q : jj_Mem} (h : k_Ck_change_76 l0 l1 l2 l3 x = some q) : jj_J Y0 X (d + 2) m_Ck_change 76 [some (.ref l0), some (.ref l1), some (.ref l2), some (.int l3), none] [] x (jp_v q) := by
  unfold k_Ck_change_76 at h
  refine jj_aload_n d_Ck_change_76 rfl ?_
  refine jj_getR d_Ck_change_77 fk_Ck_12 (sh_Ck h_l0).2 (sh_Ck h_l0).1 rfl ?_
  refine jj_aload_n d_Ck_change_80 rfl ?_
  refine jj_aload_n d_Ck_change_81 rfl ?_
  refine jj_iload_n d_Ck_change_82 rfl ?_
  obtain ⟨r1, x1, e1, h⟩ := jj_b2o h
  refine jj_callVi (as := [.ref l2, .int l3]) (c_Pr_operand (d := d + 1) h_l1 h_l2 e1) d_Ck_change_83 ck_Ck_120 (sh_Pr h_l1).2 (sh_Pr h_l1).1 ⟨_, rfl, rfl⟩ rfl rfl (Nat.le_of_ble_eq_true rfl) ?_
  obtain ⟨x2, e2, h⟩ := jj_b1o h
  refine jj_callVv (as := [.int r1]) (c_St_moveToPlace (d := d + 0) (ro_Ck_state h_l0) e2) d_Ck_change_86 ck_Ck_127 (sh_St (ro_Ck_state h_l0)).2 (sh_St (ro_Ck_state h_l0)).1 ⟨_, rfl, rfl⟩ rfl rfl (Nat.le_of_ble_eq_true rfl) ?_
  refine jj_goto (tgt := 155) d_Ck_change_89 rfl ?_
  cases h
  exact jj_return d_Ck_change_155 rfl ⟨rfl, rfl⟩
def f_Ck_change (this : Nat) (a1 : Nat) (a2 : Nat) (a3 : Int32) (x : jj_Mem) : Option (jj_Mem) :=
  jj_b2 (f_Pr_code a1 a2 a3 x) (fun r1 x1 => (if r1 = 25 then jj_b2 (f_Pr_operand a1 a2 a3 x1) (fun r3 x3 => jj_b1 (f_St_putPlace (this + 1) r3 x3) (fun x4 => some x4)) else if r1 = 54 then k_Ck_change_76 this a1 a2 a3 x1 else if r1 = 58 then k_Ck_change_76 this a1 a2 a3 x1 else if r1 = 89 then jj_b1 (f_St_putAgain (this + 1) x1) (fun x8 => some x8) else if r1 = 95 then jj_b1 (f_St_exchange (this + 1) x1) (fun x10 => some x10) else jj_b2 (f_Pr_takenCount a1 a2 a3 x1) (fun r11 x11 => jj_b2 (f_Pr_putCount a1 a2 a3 (jj_set x11 (this + 1) 4 ((x1 (this + 1) 4) - r11))) (fun r12 x12 => (if r12 = 1 then jj_b2 (f_Ck_typePut this a1 a2 a3 x12) (fun r14 x14 => jj_b1 (f_St_put (this + 1) r14 0 x14) (fun x15 => some x15)) else some x12)))))
set_option maxHeartbeats 2000000 in
theorem t_Ck_change_0 {X : jj_X} {d : Nat} {this : Nat} {a1 : Nat} {a2 : Nat} {a3 : Int32} (h_this : o_Ck this) (h_a1 : o_Pr a1) (h_a2 : o_Me a2) {x : jj_Mem} {q : jj_Mem} (h : f_Ck_change this a1 a2 a3 x = some q) : jj_J Y0 X (d + 2) m_Ck_change 0 [some (.ref this), some (.ref a1), some (.ref a2), some (.int a3), none] [] x (jp_v q) := by
  unfold f_Ck_change at h
  refine jj_aload_n d_Ck_change_0 rfl ?_
  refine jj_aload_n d_Ck_change_1 rfl ?_
  refine jj_iload_n d_Ck_change_2 rfl ?_
  obtain ⟨r1, x1, e1, h⟩ := jj_b2o h
  refine jj_callVi (as := [.ref a2, .int a3]) (c_Pr_code (d := d + 1) h_a1 h_a2 e1) d_Ck_change_3 ck_Ck_44 (sh_Pr h_a1).2 (sh_Pr h_a1).1 ⟨_, rfl, rfl⟩ rfl rfl (Nat.le_of_ble_eq_true rfl) ?_
  refine jj_istore (lo' := [_, _, _, _, _]) d_Ck_change_6 rfl (by decide) rfl ?_
  refine jj_iload d_Ck_change_8 rfl ?_
  by_cases c2 : r1 = 25
  · rw [if_pos c2] at h
    refine jj_lookup (tgt := 60) d_Ck_change_10 rfl (by rw [c2] <;> rfl) rfl ?_
    refine jj_aload_n d_Ck_change_60 rfl ?_
    refine jj_getR d_Ck_change_61 fk_Ck_12 (sh_Ck h_this).2 (sh_Ck h_this).1 rfl ?_
    refine jj_aload_n d_Ck_change_64 rfl ?_
    refine jj_aload_n d_Ck_change_65 rfl ?_
    refine jj_iload_n d_Ck_change_66 rfl ?_
    obtain ⟨r3, x3, e3, h⟩ := jj_b2o h
    refine jj_callVi (as := [.ref a2, .int a3]) (c_Pr_operand (d := d + 1) h_a1 h_a2 e3) d_Ck_change_67 ck_Ck_120 (sh_Pr h_a1).2 (sh_Pr h_a1).1 ⟨_, rfl, rfl⟩ rfl rfl (Nat.le_of_ble_eq_true rfl) ?_
    obtain ⟨x4, e4, h⟩ := jj_b1o h
    refine jj_callVv (as := [.int r3]) (c_St_putPlace (d := d + 0) (ro_Ck_state h_this) e4) d_Ck_change_70 ck_Ck_123 (sh_St (ro_Ck_state h_this)).2 (sh_St (ro_Ck_state h_this)).1 ⟨_, rfl, rfl⟩ rfl rfl (Nat.le_of_ble_eq_true rfl) ?_
    refine jj_goto (tgt := 155) d_Ck_change_73 rfl ?_
    cases h
    exact jj_return d_Ck_change_155 rfl ⟨rfl, rfl⟩
  rw [if_neg c2] at h
  by_cases c5 : r1 = 54
  · rw [if_pos c5] at h
    refine jj_lookup (tgt := 76) d_Ck_change_10 rfl (by rw [c5] <;> rfl) rfl ?_
    exact jj_J.sub (t_Ck_change_76 h_this h_a1 h_a2 h) (fun i v hi => jj_mask_ok [true, true, true, true, false] hi)
  rw [if_neg c5] at h
  by_cases c6 : r1 = 58
  · rw [if_pos c6] at h
    refine jj_lookup (tgt := 76) d_Ck_change_10 rfl (by rw [c6] <;> rfl) rfl ?_
    exact jj_J.sub (t_Ck_change_76 h_this h_a1 h_a2 h) (fun i v hi => jj_mask_ok [true, true, true, true, false] hi)
  rw [if_neg c6] at h
  by_cases c7 : r1 = 89
  · rw [if_pos c7] at h
    refine jj_lookup (tgt := 92) d_Ck_change_10 rfl (by rw [c7] <;> rfl) rfl ?_
    refine jj_aload_n d_Ck_change_92 rfl ?_
    refine jj_getR d_Ck_change_93 fk_Ck_12 (sh_Ck h_this).2 (sh_Ck h_this).1 rfl ?_
    obtain ⟨x8, e8, h⟩ := jj_b1o h
    refine jj_callVv (as := []) (c_St_putAgain (d := d + 0) (ro_Ck_state h_this) e8) d_Ck_change_96 ck_Ck_130 (sh_St (ro_Ck_state h_this)).2 (sh_St (ro_Ck_state h_this)).1 ⟨_, rfl, rfl⟩ rfl rfl (Nat.le_of_ble_eq_true rfl) ?_
    refine jj_goto (tgt := 155) d_Ck_change_99 rfl ?_
    cases h
    exact jj_return d_Ck_change_155 rfl ⟨rfl, rfl⟩
  rw [if_neg c7] at h
  by_cases c9 : r1 = 95
  · rw [if_pos c9] at h
    refine jj_lookup (tgt := 102) d_Ck_change_10 rfl (by rw [c9] <;> rfl) rfl ?_
    refine jj_aload_n d_Ck_change_102 rfl ?_
    refine jj_getR d_Ck_change_103 fk_Ck_12 (sh_Ck h_this).2 (sh_Ck h_this).1 rfl ?_
    obtain ⟨x10, e10, h⟩ := jj_b1o h
    refine jj_callVv (as := []) (c_St_exchange (d := d + 0) (ro_Ck_state h_this) e10) d_Ck_change_106 ck_Ck_133 (sh_St (ro_Ck_state h_this)).2 (sh_St (ro_Ck_state h_this)).1 ⟨_, rfl, rfl⟩ rfl rfl (Nat.le_of_ble_eq_true rfl) ?_
    refine jj_goto (tgt := 155) d_Ck_change_109 rfl ?_
    cases h
    exact jj_return d_Ck_change_155 rfl ⟨rfl, rfl⟩
  rw [if_neg c9] at h
  refine jj_lookup (tgt := 112) d_Ck_change_10 rfl ((lv_osw c2 (by decide)).trans ((lv_osw c5 (by decide)).trans ((lv_osw c6 (by decide)).trans ((lv_osw c7 (by decide)).trans ((lv_osw c9 (by decide)).trans (rfl)))))) rfl ?_
  refine jj_aload_n d_Ck_change_112 rfl ?_
  refine jj_getR d_Ck_change_113 fk_Ck_12 (sh_Ck h_this).2 (sh_Ck h_this).1 rfl ?_
  refine jj_dup d_Ck_change_116 rfl ?_
  refine jj_getI d_Ck_change_117 fk_Ck_90 (sh_St (ro_Ck_state h_this)).2 (sh_St (ro_Ck_state h_this)).1 rfl rfl ?_
  refine jj_aload_n d_Ck_change_120 rfl ?_
  refine jj_aload_n d_Ck_change_121 rfl ?_
  refine jj_iload_n d_Ck_change_122 rfl ?_
  obtain ⟨r11, x11, e11, h⟩ := jj_b2o h
  refine jj_callVi (as := [.ref a2, .int a3]) (c_Pr_takenCount (d := d + 0) h_a1 h_a2 e11) d_Ck_change_123 ck_Ck_136 (sh_Pr h_a1).2 (sh_Pr h_a1).1 ⟨_, rfl, rfl⟩ rfl rfl (Nat.le_of_ble_eq_true rfl) ?_
  refine jj_isub d_Ck_change_126 ?_
  refine jj_putI d_Ck_change_127 pk_Ck_90 (sh_St (ro_Ck_state h_this)).2 (sh_St (ro_Ck_state h_this)).1 rfl ?_
  refine jj_aload_n d_Ck_change_130 rfl ?_
  refine jj_aload_n d_Ck_change_131 rfl ?_
  refine jj_iload_n d_Ck_change_132 rfl ?_
  obtain ⟨r12, x12, e12, h⟩ := jj_b2o h
  refine jj_callVi (as := [.ref a2, .int a3]) (c_Pr_putCount (d := d + 0) h_a1 h_a2 e12) d_Ck_change_133 ck_Ck_139 (sh_Pr h_a1).2 (sh_Pr h_a1).1 ⟨_, rfl, rfl⟩ rfl rfl (Nat.le_of_ble_eq_true rfl) ?_
  refine jj_iconst d_Ck_change_136 jc_i_1 ?_
  refine jj_ic_ne (tgt := 155) d_Ck_change_137 rfl (fun c13 => ?_) (fun c13 => ?_)
  · rw [if_neg c13] at h
    cases h
    exact jj_return d_Ck_change_155 rfl ⟨rfl, rfl⟩
  · rw [if_pos c13] at h
    refine jj_aload_n d_Ck_change_140 rfl ?_
    refine jj_getR d_Ck_change_141 fk_Ck_12 (sh_Ck h_this).2 (sh_Ck h_this).1 rfl ?_
    refine jj_aload_n d_Ck_change_144 rfl ?_
    refine jj_aload_n d_Ck_change_145 rfl ?_
    refine jj_aload_n d_Ck_change_146 rfl ?_
    refine jj_iload_n d_Ck_change_147 rfl ?_
    obtain ⟨r14, x14, e14, h⟩ := jj_b2o h
    refine jj_callVi (as := [.ref a1, .ref a2, .int a3]) (c_Ck_typePut (d := d + 0) h_this h_a1 h_a2 e14) d_Ck_change_148 ck_Ck_142 (sh_Ck h_this).2 (sh_Ck h_this).1 ⟨_, rfl, rfl⟩ rfl rfl (Nat.le_of_ble_eq_true rfl) ?_
    refine jj_iconst d_Ck_change_151 jc_i_0 ?_
    obtain ⟨x15, e15, h⟩ := jj_b1o h
    refine jj_callVv (as := [.int r14, .int 0]) (c_St_put (d := d + 1) (ro_Ck_state h_this) e15) d_Ck_change_152 ck_Ck_99 (sh_St (ro_Ck_state h_this)).2 (sh_St (ro_Ck_state h_this)).1 ⟨_, rfl, rfl⟩ rfl rfl (Nat.le_of_ble_eq_true rfl) ?_
    cases h
    exact jj_return d_Ck_change_155 rfl ⟨rfl, rfl⟩
theorem c_Ck_change {X : jj_X} {d : Nat} {this : Nat} {a1 : Nat} {a2 : Nat} {a3 : Int32} (h_this : o_Ck this) (h_a1 : o_Pr a1) (h_a2 : o_Me a2) {x : jj_Mem} {q : jj_Mem} (h : f_Ck_change this a1 a2 a3 x = some q) : jj_Met Y0 X (d + 2) m_Ck_change [.ref this, .ref a1, .ref a2, .int a3] x (jp_v q) :=
  jj_metp 1 (lo := [some (.ref this), some (.ref a1), some (.ref a2), some (.int a3), none]) rfl (Nat.le_of_ble_eq_true rfl) rfl (t_Ck_change_0 h_this h_a1 h_a2 h)
