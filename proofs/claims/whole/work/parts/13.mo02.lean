def k_Mo_byteAt_20 (l0 : Nat) (l1 : Int32) (s0 : Nat) (s1 : Int32) (x : jj_Mem) : Option (Int32 × jj_Mem) :=
  (if ((jj_set x s0 0 s1) l0 0) ≤ 0 then if jj_inb l1 240 = true then some (((jj_set x s0 0 s1) (l0 + 1) (Int32.toNatClampNeg l1)), (jj_set x s0 0 s1)) else none else some (0, (jj_set x s0 0 s1)))
set_option maxHeartbeats 2000000 in
theorem t_Mo_byteAt_20 {X : jj_X} {d : Nat} {l0 : Nat} {l1 : Int32} {s0 : Nat} {s1 : Int32} (h_l0 : o_Mo l0) (h_s0 : o_Mo s0) {x : jj_Mem} {q : Int32 × jj_Mem} (h : k_Mo_byteAt_20 l0 l1 s0 s1 x = some q) : jj_J Y0 X (d + 1) m_Mo_byteAt 20 [some (.ref l0), some (.int l1)] [.int s1, .ref s0] x (jp_i q) := by
  unfold k_Mo_byteAt_20 at h
  refine jj_putI d_Mo_byteAt_20 pk_Mo_43 (sh_Mo h_s0).2 (sh_Mo h_s0).1 rfl ?_
  refine jj_aload_n d_Mo_byteAt_23 rfl ?_
  refine jj_getI d_Mo_byteAt_24 fk_Mo_43 (sh_Mo h_l0).2 (sh_Mo h_l0).1 rfl rfl ?_
  refine jj_if_le (tgt := 34) d_Mo_byteAt_27 rfl (fun c1 => ?_) (fun c1 => ?_)
  · rw [if_pos c1] at h
    refine jj_aload_n d_Mo_byteAt_34 rfl ?_
    refine jj_getR d_Mo_byteAt_35 fk_Mo_7 (sh_Mo h_l0).2 (sh_Mo h_l0).1 rfl ?_
    refine jj_iload_n d_Mo_byteAt_38 rfl ?_
    obtain ⟨i2, h⟩ := jj_gt h
    refine jj_iaload d_Mo_byteAt_39 rfl (ar_Mo_file h_l0).1 (ar_Mo_file h_l0).2 (jj_inn i2) rfl ?_
    cases h
    exact jj_ireturn d_Mo_byteAt_40 rfl ⟨rfl, rfl⟩
  · rw [if_neg c1] at h
    refine jj_iconst d_Mo_byteAt_30 jc_i_0 ?_
    refine jj_goto (tgt := 40) d_Mo_byteAt_31 rfl ?_
    cases h
    exact jj_ireturn d_Mo_byteAt_40 rfl ⟨rfl, rfl⟩
def f_Mo_byteAt (this : Nat) (a1 : Int32) (x : jj_Mem) : Option (Int32 × jj_Mem) :=
  jj_b1 (s_Mo_within a1 0 ((x this 1) - 1)) (fun r1 => (if r1 = 0 then k_Mo_byteAt_20 this a1 this 1 x else k_Mo_byteAt_20 this a1 this 0 x))
set_option maxHeartbeats 2000000 in
theorem t_Mo_byteAt_0 {X : jj_X} {d : Nat} {this : Nat} {a1 : Int32} (h_this : o_Mo this) {x : jj_Mem} {q : Int32 × jj_Mem} (h : f_Mo_byteAt this a1 x = some q) : jj_J Y0 X (d + 1) m_Mo_byteAt 0 [some (.ref this), some (.int a1)] [] x (jp_i q) := by
  unfold f_Mo_byteAt at h
  refine jj_aload_n d_Mo_byteAt_0 rfl ?_
  refine jj_iload_n d_Mo_byteAt_1 rfl ?_
  refine jj_iconst d_Mo_byteAt_2 jc_i_0 ?_
  refine jj_aload_n d_Mo_byteAt_3 rfl ?_
  refine jj_getI d_Mo_byteAt_4 fk_Mo_61 (sh_Mo h_this).2 (sh_Mo h_this).1 rfl rfl ?_
  refine jj_iconst d_Mo_byteAt_7 jc_i_1 ?_
  refine jj_isub d_Mo_byteAt_8 ?_
  obtain ⟨r1, e1, h⟩ := jj_b1o h
  refine jj_callSi (as := [.int a1, .int 0, .int ((x this 1) - 1)]) (c_Mo_within (d := d + 0)  e1) d_Mo_byteAt_9 ck_Mo_47 rfl rfl (Nat.le_of_ble_eq_true rfl) ?_
  refine jj_if_eq (tgt := 19) d_Mo_byteAt_12 rfl (fun c2 => ?_) (fun c2 => ?_)
  · rw [if_pos c2] at h
    refine jj_iconst d_Mo_byteAt_19 jc_i_1 ?_
    exact jj_J.sub (t_Mo_byteAt_20 h_this h_this h) (fun i v hi => jj_mask_ok [true, true] hi)
  · rw [if_neg c2] at h
    refine jj_iconst d_Mo_byteAt_15 jc_i_0 ?_
    refine jj_goto (tgt := 20) d_Mo_byteAt_16 rfl ?_
    exact jj_J.sub (t_Mo_byteAt_20 h_this h_this h) (fun i v hi => jj_mask_ok [true, true] hi)
theorem c_Mo_byteAt {X : jj_X} {d : Nat} {this : Nat} {a1 : Int32} (h_this : o_Mo this) {x : jj_Mem} {q : Int32 × jj_Mem} (h : f_Mo_byteAt this a1 x = some q) : jj_Met Y0 X (d + 1) m_Mo_byteAt [.ref this, .int a1] x (jp_i q) :=
  jj_metp 0 (lo := [some (.ref this), some (.int a1)]) rfl (Nat.le_of_ble_eq_true rfl) rfl (t_Mo_byteAt_0 h_this h)
def k_Mo_fits_82 (rec : Nat → List (Option Value) → jj_Mem → Option (Int32 × jj_Mem)) (l0 : Nat) (l1 : Int32) (l3 : Int32) (s0 : Int32) (x : jj_Mem) : Option (Int32 × jj_Mem) :=
  rec 30 [some (.ref l0), some (.int l1), some (.int s0), some (.int (l3 + 1))] x
set_option maxHeartbeats 2000000 in
theorem t_Mo_fits_82 {X : jj_X} {d : Nat} (rec : Nat → List (Option Value) → jj_Mem → Option (Int32 × jj_Mem)) (hrec : ∀ (L : Nat) (lo : List (Option Value)) (x : jj_Mem) (q : Int32 × jj_Mem), rec L lo x = some q → jj_J Y0 X (d + 1) m_Mo_fits L lo [] x (jp_i q)) {l0 : Nat} {l1 : Int32} {l3 : Int32} {s0 : Int32} (h_l0 : o_Mo l0) {x : jj_Mem} {q : Int32 × jj_Mem} (h : k_Mo_fits_82 rec l0 l1 l3 s0 x = some q) : jj_J Y0 X (d + 1) m_Mo_fits 82 [some (.ref l0), some (.int l1), none, some (.int l3)] [.int s0] x (jp_i q) := by
  unfold k_Mo_fits_82 at h
  refine jj_istore_n (lo' := [_, _, _, _]) d_Mo_fits_82 rfl (by decide) rfl ?_
  refine jj_iinc (lo' := [_, _, _, _]) (v := (l3 + 1)) d_Mo_fits_83 rfl (jc_a_1 _) rfl (by decide) rfl ?_
  refine jj_goto (tgt := 30) d_Mo_fits_86 rfl ?_
  exact jj_J.sub (hrec _ _ _ _ h) (fun i v hi => jj_mask_ok [true, true, true, true] hi)
def k_Mo_fits_81 (rec : Nat → List (Option Value) → jj_Mem → Option (Int32 × jj_Mem)) (l0 : Nat) (l1 : Int32) (l3 : Int32) (x : jj_Mem) : Option (Int32 × jj_Mem) :=
  k_Mo_fits_82 rec l0 l1 l3 0 x
set_option maxHeartbeats 2000000 in
theorem t_Mo_fits_81 {X : jj_X} {d : Nat} (rec : Nat → List (Option Value) → jj_Mem → Option (Int32 × jj_Mem)) (hrec : ∀ (L : Nat) (lo : List (Option Value)) (x : jj_Mem) (q : Int32 × jj_Mem), rec L lo x = some q → jj_J Y0 X (d + 1) m_Mo_fits L lo [] x (jp_i q)) {l0 : Nat} {l1 : Int32} {l3 : Int32} (h_l0 : o_Mo l0) {x : jj_Mem} {q : Int32 × jj_Mem} (h : k_Mo_fits_81 rec l0 l1 l3 x = some q) : jj_J Y0 X (d + 1) m_Mo_fits 81 [some (.ref l0), some (.int l1), none, some (.int l3)] [] x (jp_i q) := by
  unfold k_Mo_fits_81 at h
  refine jj_iconst d_Mo_fits_81 jc_i_0 ?_
  exact jj_J.sub (t_Mo_fits_82 rec hrec h_l0 h) (fun i v hi => jj_mask_ok [true, true, false, true] hi)
def k_Mo_fits_77 (rec : Nat → List (Option Value) → jj_Mem → Option (Int32 × jj_Mem)) (l0 : Nat) (l1 : Int32) (l3 : Int32) (x : jj_Mem) : Option (Int32 × jj_Mem) :=
  k_Mo_fits_82 rec l0 l1 l3 1 x
set_option maxHeartbeats 2000000 in
theorem t_Mo_fits_77 {X : jj_X} {d : Nat} (rec : Nat → List (Option Value) → jj_Mem → Option (Int32 × jj_Mem)) (hrec : ∀ (L : Nat) (lo : List (Option Value)) (x : jj_Mem) (q : Int32 × jj_Mem), rec L lo x = some q → jj_J Y0 X (d + 1) m_Mo_fits L lo [] x (jp_i q)) {l0 : Nat} {l1 : Int32} {l3 : Int32} (h_l0 : o_Mo l0) {x : jj_Mem} {q : Int32 × jj_Mem} (h : k_Mo_fits_77 rec l0 l1 l3 x = some q) : jj_J Y0 X (d + 1) m_Mo_fits 77 [some (.ref l0), some (.int l1), none, some (.int l3)] [] x (jp_i q) := by
  unfold k_Mo_fits_77 at h
  refine jj_iconst d_Mo_fits_77 jc_i_1 ?_
  refine jj_goto (tgt := 82) d_Mo_fits_78 rfl ?_
  exact jj_J.sub (t_Mo_fits_82 rec hrec h_l0 h) (fun i v hi => jj_mask_ok [true, true, false, true] hi)
def k_Mo_fits_27 (rec : Nat → List (Option Value) → jj_Mem → Option (Int32 × jj_Mem)) (l0 : Nat) (l1 : Int32) (s0 : Int32) (x : jj_Mem) : Option (Int32 × jj_Mem) :=
  rec 30 [some (.ref l0), some (.int l1), some (.int s0), some (.int 0)] x
set_option maxHeartbeats 2000000 in
theorem t_Mo_fits_27 {X : jj_X} {d : Nat} (rec : Nat → List (Option Value) → jj_Mem → Option (Int32 × jj_Mem)) (hrec : ∀ (L : Nat) (lo : List (Option Value)) (x : jj_Mem) (q : Int32 × jj_Mem), rec L lo x = some q → jj_J Y0 X (d + 1) m_Mo_fits L lo [] x (jp_i q)) {l0 : Nat} {l1 : Int32} {s0 : Int32} (h_l0 : o_Mo l0) {x : jj_Mem} {q : Int32 × jj_Mem} (h : k_Mo_fits_27 rec l0 l1 s0 x = some q) : jj_J Y0 X (d + 1) m_Mo_fits 27 [some (.ref l0), some (.int l1), none, none] [.int s0] x (jp_i q) := by
  unfold k_Mo_fits_27 at h
  refine jj_istore_n (lo' := [_, _, _, _]) d_Mo_fits_27 rfl (by decide) rfl ?_
  refine jj_iconst d_Mo_fits_28 jc_i_0 ?_
  refine jj_istore_n (lo' := [_, _, _, _]) d_Mo_fits_29 rfl (by decide) rfl ?_
  exact jj_J.sub (hrec _ _ _ _ h) (fun i v hi => jj_mask_ok [true, true, true, true] hi)
def k_Mo_fits_91 (rec : Nat → List (Option Value) → jj_Mem → Option (Int32 × jj_Mem)) (l0 : Nat) (l1 : Int32) (l2 : Int32) (l3 : Int32) (x : jj_Mem) : Option (Int32 × jj_Mem) :=
  if jj_inb 0 4 = true then (if (x (l0 + 7) (Int32.toNatClampNeg 0)) ≤ l3 then if jj_zb l2 = true then some (l2, x) else none else (if l2 = 0 then if jj_zb l2 = true then some (l2, x) else none else if jj_inb l3 24 = true then if jj_inb (((l1 + 2) + (x l0 11)) + l3) 240 = true then jj_b2 (f_Mo_good (x (l0 + 5) (Int32.toNatClampNeg l3)) (x (l0 + 2) (Int32.toNatClampNeg (((l1 + 2) + (x l0 11)) + l3))) x) (fun r8 x8 => rec 91 [some (.ref l0), some (.int l1), some (.int r8), some (.int (l3 + 1))] x8) else none else none)) else none
set_option maxHeartbeats 2000000 in
theorem t_Mo_fits_91 {X : jj_X} {d : Nat} (rec : Nat → List (Option Value) → jj_Mem → Option (Int32 × jj_Mem)) (hrec : ∀ (L : Nat) (lo : List (Option Value)) (x : jj_Mem) (q : Int32 × jj_Mem), rec L lo x = some q → jj_J Y0 X (d + 1) m_Mo_fits L lo [] x (jp_i q)) {l0 : Nat} {l1 : Int32} {l2 : Int32} {l3 : Int32} (h_l0 : o_Mo l0) {x : jj_Mem} {q : Int32 × jj_Mem} (h : k_Mo_fits_91 rec l0 l1 l2 l3 x = some q) : jj_J Y0 X (d + 1) m_Mo_fits 91 [some (.ref l0), some (.int l1), some (.int l2), some (.int l3)] [] x (jp_i q) := by
  unfold k_Mo_fits_91 at h
  refine jj_iload_n d_Mo_fits_91 rfl ?_
  refine jj_aload_n d_Mo_fits_92 rfl ?_
  refine jj_getR d_Mo_fits_93 fk_Mo_28 (sh_Mo h_l0).2 (sh_Mo h_l0).1 rfl ?_
  refine jj_iconst d_Mo_fits_96 jc_i_0 ?_
  obtain ⟨i1, h⟩ := jj_gt h
  refine jj_iaload d_Mo_fits_97 rfl (ar_Mo_height h_l0).1 (ar_Mo_height h_l0).2 (jj_inn i1) rfl ?_
  refine jj_ic_ge (tgt := 136) d_Mo_fits_98 rfl (fun c2 => ?_) (fun c2 => ?_)
  · rw [if_pos c2] at h
    refine jj_iload_n d_Mo_fits_136 rfl ?_
    obtain ⟨i3, h⟩ := jj_gt h
    cases h
    exact jj_zreturn d_Mo_fits_137 rfl (jj_zbo i3) ⟨rfl, rfl⟩
  · rw [if_neg c2] at h
    refine jj_iload_n d_Mo_fits_101 rfl ?_
    refine jj_if_eq (tgt := 136) d_Mo_fits_102 rfl (fun c4 => ?_) (fun c4 => ?_)
    · rw [if_pos c4] at h
      refine jj_iload_n d_Mo_fits_136 rfl ?_
      obtain ⟨i5, h⟩ := jj_gt h
      cases h
      exact jj_zreturn d_Mo_fits_137 rfl (jj_zbo i5) ⟨rfl, rfl⟩
    · rw [if_neg c4] at h
      refine jj_aload_n d_Mo_fits_105 rfl ?_
      refine jj_getR d_Mo_fits_106 fk_Mo_22 (sh_Mo h_l0).2 (sh_Mo h_l0).1 rfl ?_
      refine jj_iload_n d_Mo_fits_109 rfl ?_
      obtain ⟨i6, h⟩ := jj_gt h
      refine jj_iaload d_Mo_fits_110 rfl (ar_Mo_stackKind h_l0).1 (ar_Mo_stackKind h_l0).2 (jj_inn i6) rfl ?_
      refine jj_aload_n d_Mo_fits_111 rfl ?_
      refine jj_getR d_Mo_fits_112 fk_Mo_13 (sh_Mo h_l0).2 (sh_Mo h_l0).1 rfl ?_
      refine jj_iload_n d_Mo_fits_115 rfl ?_
      refine jj_iconst d_Mo_fits_116 jc_i_2 ?_
      refine jj_iadd d_Mo_fits_117 ?_
      refine jj_aload_n d_Mo_fits_118 rfl ?_
      refine jj_getI d_Mo_fits_119 fk_Mo_133 (sh_Mo h_l0).2 (sh_Mo h_l0).1 rfl rfl ?_
      refine jj_iadd d_Mo_fits_122 ?_
      refine jj_iload_n d_Mo_fits_123 rfl ?_
      refine jj_iadd d_Mo_fits_124 ?_
      obtain ⟨i7, h⟩ := jj_gt h
      refine jj_iaload d_Mo_fits_125 rfl (ar_Mo_kept h_l0).1 (ar_Mo_kept h_l0).2 (jj_inn i7) rfl ?_
      obtain ⟨r8, x8, e8, h⟩ := jj_b2o h
      refine jj_callSi (as := [.int (x (l0 + 5) (Int32.toNatClampNeg l3)), .int (x (l0 + 2) (Int32.toNatClampNeg (((l1 + 2) + (x l0 11)) + l3)))]) (c_Mo_good (d := d + 0)  e8) d_Mo_fits_126 ck_Mo_160 rfl rfl (Nat.le_of_ble_eq_true rfl) ?_
      refine jj_istore_n (lo' := [_, _, _, _]) d_Mo_fits_129 rfl (by decide) rfl ?_
      refine jj_iinc (lo' := [_, _, _, _]) (v := (l3 + 1)) d_Mo_fits_130 rfl (jc_a_1 _) rfl (by decide) rfl ?_
      refine jj_goto (tgt := 91) d_Mo_fits_133 rfl ?_
      exact jj_J.sub (hrec _ _ _ _ h) (fun i v hi => jj_mask_ok [true, true, true, true] hi)
def k_Mo_fits_30 (rec : Nat → List (Option Value) → jj_Mem → Option (Int32 × jj_Mem)) (l0 : Nat) (l1 : Int32) (l2 : Int32) (l3 : Int32) (x : jj_Mem) : Option (Int32 × jj_Mem) :=
  (if (x l0 11) ≤ l3 then rec 91 [some (.ref l0), some (.int l1), some (.int l2), some (.int 0)] x else (if l2 = 0 then k_Mo_fits_81 rec l0 l1 l3 x else if jj_inb ((l1 + 1) + l3) 240 = true then (if (x (l0 + 2) (Int32.toNatClampNeg ((l1 + 1) + l3))) = 0 then k_Mo_fits_77 rec l0 l1 l3 x else if jj_inb l3 24 = true then if jj_inb ((l1 + 1) + l3) 240 = true then jj_b2 (f_Mo_good (x (l0 + 3) (Int32.toNatClampNeg l3)) (x (l0 + 2) (Int32.toNatClampNeg ((l1 + 1) + l3))) x) (fun r7 x7 => (if r7 = 0 then k_Mo_fits_81 rec l0 l1 l3 x7 else k_Mo_fits_77 rec l0 l1 l3 x7)) else none else none) else none))
set_option maxHeartbeats 2000000 in
theorem t_Mo_fits_30 {X : jj_X} {d : Nat} (rec : Nat → List (Option Value) → jj_Mem → Option (Int32 × jj_Mem)) (hrec : ∀ (L : Nat) (lo : List (Option Value)) (x : jj_Mem) (q : Int32 × jj_Mem), rec L lo x = some q → jj_J Y0 X (d + 1) m_Mo_fits L lo [] x (jp_i q)) {l0 : Nat} {l1 : Int32} {l2 : Int32} {l3 : Int32} (h_l0 : o_Mo l0) {x : jj_Mem} {q : Int32 × jj_Mem} (h : k_Mo_fits_30 rec l0 l1 l2 l3 x = some q) : jj_J Y0 X (d + 1) m_Mo_fits 30 [some (.ref l0), some (.int l1), some (.int l2), some (.int l3)] [] x (jp_i q) := by
  unfold k_Mo_fits_30 at h
  refine jj_iload_n d_Mo_fits_30 rfl ?_
  refine jj_aload_n d_Mo_fits_31 rfl ?_
  refine jj_getI d_Mo_fits_32 fk_Mo_133 (sh_Mo h_l0).2 (sh_Mo h_l0).1 rfl rfl ?_
  refine jj_ic_ge (tgt := 89) d_Mo_fits_35 rfl (fun c1 => ?_) (fun c1 => ?_)
  · rw [if_pos c1] at h
    refine jj_iconst d_Mo_fits_89 jc_i_0 ?_
    refine jj_istore_n (lo' := [_, _, _, _]) d_Mo_fits_90 rfl (by decide) rfl ?_
    exact jj_J.sub (hrec _ _ _ _ h) (fun i v hi => jj_mask_ok [true, true, true, true] hi)
  · rw [if_neg c1] at h
    refine jj_iload_n d_Mo_fits_38 rfl ?_
    refine jj_if_eq (tgt := 81) d_Mo_fits_39 rfl (fun c2 => ?_) (fun c2 => ?_)
    · rw [if_pos c2] at h
      exact jj_J.sub (t_Mo_fits_81 rec hrec h_l0 h) (fun i v hi => jj_mask_ok [true, true, false, true] hi)
    · rw [if_neg c2] at h
      refine jj_aload_n d_Mo_fits_42 rfl ?_
      refine jj_getR d_Mo_fits_43 fk_Mo_13 (sh_Mo h_l0).2 (sh_Mo h_l0).1 rfl ?_
      refine jj_iload_n d_Mo_fits_46 rfl ?_
      refine jj_iconst d_Mo_fits_47 jc_i_1 ?_
      refine jj_iadd d_Mo_fits_48 ?_
      refine jj_iload_n d_Mo_fits_49 rfl ?_
      refine jj_iadd d_Mo_fits_50 ?_
      obtain ⟨i3, h⟩ := jj_gt h
      refine jj_iaload d_Mo_fits_51 rfl (ar_Mo_kept h_l0).1 (ar_Mo_kept h_l0).2 (jj_inn i3) rfl ?_
      refine jj_if_eq (tgt := 77) d_Mo_fits_52 rfl (fun c4 => ?_) (fun c4 => ?_)
      · rw [if_pos c4] at h
        exact jj_J.sub (t_Mo_fits_77 rec hrec h_l0 h) (fun i v hi => jj_mask_ok [true, true, false, true] hi)
      · rw [if_neg c4] at h
        refine jj_aload_n d_Mo_fits_55 rfl ?_
        refine jj_getR d_Mo_fits_56 fk_Mo_16 (sh_Mo h_l0).2 (sh_Mo h_l0).1 rfl ?_
        refine jj_iload_n d_Mo_fits_59 rfl ?_
        obtain ⟨i5, h⟩ := jj_gt h
        refine jj_iaload d_Mo_fits_60 rfl (ar_Mo_placeKind h_l0).1 (ar_Mo_placeKind h_l0).2 (jj_inn i5) rfl ?_
        refine jj_aload_n d_Mo_fits_61 rfl ?_
        refine jj_getR d_Mo_fits_62 fk_Mo_13 (sh_Mo h_l0).2 (sh_Mo h_l0).1 rfl ?_
        refine jj_iload_n d_Mo_fits_65 rfl ?_
        refine jj_iconst d_Mo_fits_66 jc_i_1 ?_
        refine jj_iadd d_Mo_fits_67 ?_
        refine jj_iload_n d_Mo_fits_68 rfl ?_
        refine jj_iadd d_Mo_fits_69 ?_
        obtain ⟨i6, h⟩ := jj_gt h
        refine jj_iaload d_Mo_fits_70 rfl (ar_Mo_kept h_l0).1 (ar_Mo_kept h_l0).2 (jj_inn i6) rfl ?_
        obtain ⟨r7, x7, e7, h⟩ := jj_b2o h
        refine jj_callSi (as := [.int (x (l0 + 3) (Int32.toNatClampNeg l3)), .int (x (l0 + 2) (Int32.toNatClampNeg ((l1 + 1) + l3)))]) (c_Mo_good (d := d + 0)  e7) d_Mo_fits_71 ck_Mo_160 rfl rfl (Nat.le_of_ble_eq_true rfl) ?_
        refine jj_if_eq (tgt := 81) d_Mo_fits_74 rfl (fun c8 => ?_) (fun c8 => ?_)
        · rw [if_pos c8] at h
          exact jj_J.sub (t_Mo_fits_81 rec hrec h_l0 h) (fun i v hi => jj_mask_ok [true, true, false, true] hi)
        · rw [if_neg c8] at h
          exact jj_J.sub (t_Mo_fits_77 rec hrec h_l0 h) (fun i v hi => jj_mask_ok [true, true, false, true] hi)
def g_Mo_fits : Nat → Nat → List (Option Value) → jj_Mem → Option (Int32 × jj_Mem)
  | 0, _, _, _ => none
  | f + 1, L, lo, x => match L, lo with
    | 30, [some (.ref l0), some (.int l1), some (.int l2), some (.int l3)] => if (bo_Mo l0) = true then k_Mo_fits_30 (g_Mo_fits f) l0 l1 l2 l3 x else none
    | 91, [some (.ref l0), some (.int l1), some (.int l2), some (.int l3)] => if (bo_Mo l0) = true then k_Mo_fits_91 (g_Mo_fits f) l0 l1 l2 l3 x else none
    | _, _ => none
set_option maxHeartbeats 2000000 in
theorem t_Mo_fits_g {X : jj_X} {d : Nat} : ∀ (f L : Nat) (lo : List (Option Value)) (x : jj_Mem) (q : Int32 × jj_Mem), g_Mo_fits f L lo x = some q → jj_J Y0 X (d + 1) m_Mo_fits L lo [] x (jp_i q) := by
  intro f
  induction f with
  | zero => intro L lo x q h; simp [g_Mo_fits] at h
  | succ f ih =>
    intro L lo x q h
    unfold g_Mo_fits at h
    split at h
    · obtain ⟨i1, h⟩ := jj_gt h
      exact t_Mo_fits_30 _ ih (ob_Mo i1) h
    · obtain ⟨i1, h⟩ := jj_gt h
      exact t_Mo_fits_91 _ ih (ob_Mo i1) h
    · cases h
def k_Mo_fits_0 (rec : Nat → List (Option Value) → jj_Mem → Option (Int32 × jj_Mem)) (this : Nat) (a1 : Int32) (x : jj_Mem) : Option (Int32 × jj_Mem) :=
  if jj_inb 0 4 = true then if jj_inb ((a1 + 1) + (x this 11)) 240 = true then (if (x (this + 7) (Int32.toNatClampNeg 0)) = (x (this + 2) (Int32.toNatClampNeg ((a1 + 1) + (x this 11)))) then k_Mo_fits_27 rec this a1 1 x else k_Mo_fits_27 rec this a1 0 x) else none else none
set_option maxHeartbeats 2000000 in
theorem t_Mo_fits_0 {X : jj_X} {d : Nat} (rec : Nat → List (Option Value) → jj_Mem → Option (Int32 × jj_Mem)) (hrec : ∀ (L : Nat) (lo : List (Option Value)) (x : jj_Mem) (q : Int32 × jj_Mem), rec L lo x = some q → jj_J Y0 X (d + 1) m_Mo_fits L lo [] x (jp_i q)) {this : Nat} {a1 : Int32} (h_this : o_Mo this) {x : jj_Mem} {q : Int32 × jj_Mem} (h : k_Mo_fits_0 rec this a1 x = some q) : jj_J Y0 X (d + 1) m_Mo_fits 0 [some (.ref this), some (.int a1), none, none] [] x (jp_i q) := by
  unfold k_Mo_fits_0 at h
  refine jj_aload_n d_Mo_fits_0 rfl ?_
  refine jj_getR d_Mo_fits_1 fk_Mo_28 (sh_Mo h_this).2 (sh_Mo h_this).1 rfl ?_
  refine jj_iconst d_Mo_fits_4 jc_i_0 ?_
  obtain ⟨i1, h⟩ := jj_gt h
  refine jj_iaload d_Mo_fits_5 rfl (ar_Mo_height h_this).1 (ar_Mo_height h_this).2 (jj_inn i1) rfl ?_
  refine jj_aload_n d_Mo_fits_6 rfl ?_
  refine jj_getR d_Mo_fits_7 fk_Mo_13 (sh_Mo h_this).2 (sh_Mo h_this).1 rfl ?_
  refine jj_iload_n d_Mo_fits_10 rfl ?_
  refine jj_iconst d_Mo_fits_11 jc_i_1 ?_
  refine jj_iadd d_Mo_fits_12 ?_
  refine jj_aload_n d_Mo_fits_13 rfl ?_
  refine jj_getI d_Mo_fits_14 fk_Mo_133 (sh_Mo h_this).2 (sh_Mo h_this).1 rfl rfl ?_
  refine jj_iadd d_Mo_fits_17 ?_
  obtain ⟨i2, h⟩ := jj_gt h
  refine jj_iaload d_Mo_fits_18 rfl (ar_Mo_kept h_this).1 (ar_Mo_kept h_this).2 (jj_inn i2) rfl ?_
  refine jj_ic_ne (tgt := 26) d_Mo_fits_19 rfl (fun c3 => ?_) (fun c3 => ?_)
  · rw [if_neg c3] at h
    refine jj_iconst d_Mo_fits_26 jc_i_0 ?_
    exact jj_J.sub (t_Mo_fits_27 rec hrec h_this h) (fun i v hi => jj_mask_ok [true, true, false, false] hi)
  · rw [if_pos c3] at h
    refine jj_iconst d_Mo_fits_22 jc_i_1 ?_
    refine jj_goto (tgt := 27) d_Mo_fits_23 rfl ?_
    exact jj_J.sub (t_Mo_fits_27 rec hrec h_this h) (fun i v hi => jj_mask_ok [true, true, false, false] hi)
def f_Mo_fits (this : Nat) (a1 : Int32) (x : jj_Mem) : Option (Int32 × jj_Mem) := k_Mo_fits_0 (g_Mo_fits 1000) this a1 x
theorem c_Mo_fits {X : jj_X} {d : Nat} {this : Nat} {a1 : Int32} (h_this : o_Mo this) {x : jj_Mem} {q : Int32 × jj_Mem} (h : f_Mo_fits this a1 x = some q) : jj_Met Y0 X (d + 1) m_Mo_fits [.ref this, .int a1] x (jp_i q) :=
  jj_metp 2 (lo := [some (.ref this), some (.int a1), none, none]) rfl (Nat.le_of_ble_eq_true rfl) rfl (t_Mo_fits_0 _ (t_Mo_fits_g 1000) h_this h)
def sc_Mo_jumps : Nat → Option (Nat × (List Int32 → Option Int32)) := fun k => match k with
  | 47 => some (3, fun l => match l with | [b0, b1, b2] => s_Mo_within b0 b1 b2 | _ => none)
  | _ => none
def s_Mo_jumps (a1 : Int32) : Option Int32 := se_run true 1 (sc_Mo_jumps) (se_code m_Mo_jumps.2.1) 400 0 [a1] []
theorem c_Mo_jumps {X : jj_X} {d : Nat} {a1 : Int32} {x : jj_Mem} {v : Int32} (h : s_Mo_jumps a1 = some v) : jj_Met Y0 X (d + 1) m_Mo_jumps [.int a1] x (jp_i (v, x)) := by
  refine jj_metp 0 (lo := [some (.int a1)]) rfl (Nat.le_of_ble_eq_true rfl) rfl ?_
  refine jj_J.sub (se_sound (Y := Y0) (X := X) (D := d + 1) (M := m_Mo_jumps) (x := x) rfl rfl (fun _ _ h => se_code_ok h) ?_ 400 0 [a1] [] v h) (fun i u hi => jj_pad 0 hi)
  intro idx n g hc
  unfold sc_Mo_jumps at hc
  split at hc
  · cases hc
    refine ⟨d + 0, m_Mo_within, rfl, Or.inl ck_Mo_47, fun as w hl hg => ?_⟩
    obtain ⟨b0, b1, b2, rfl⟩ := jj_l3 hl
    exact c_Mo_within (d := d + 0) hg
  · cases hc
def f_Mo_lackOfMethod (this : Nat) (a1 : Int32) (x : jj_Mem) : Option (Int32 × jj_Mem) :=
  (if (x this 5) = 0 then some (1, x) else jj_b2 (f_Mo_methodCount this x) (fun r2 x2 => jj_b1 (s_Mo_within a1 0 (r2 - 1)) (fun r3 => (if r3 = 0 then some (2, x2) else some (0, x2)))))
set_option maxHeartbeats 2000000 in
theorem t_Mo_lackOfMethod_0 {X : jj_X} {d : Nat} {this : Nat} {a1 : Int32} (h_this : o_Mo this) {x : jj_Mem} {q : Int32 × jj_Mem} (h : f_Mo_lackOfMethod this a1 x = some q) : jj_J Y0 X (d + 1) m_Mo_lackOfMethod 0 [some (.ref this), some (.int a1)] [] x (jp_i q) := by
  unfold f_Mo_lackOfMethod at h
  refine jj_aload_n d_Mo_lackOfMethod_0 rfl ?_
  refine jj_getI d_Mo_lackOfMethod_1 fk_Mo_102 (sh_Mo h_this).2 (sh_Mo h_this).1 rfl rfl ?_
  refine jj_if_ne (tgt := 11) d_Mo_lackOfMethod_4 rfl (fun c1 => ?_) (fun c1 => ?_)
  · rw [if_neg c1] at h
    refine jj_iload_n d_Mo_lackOfMethod_11 rfl ?_
    refine jj_iconst d_Mo_lackOfMethod_12 jc_i_0 ?_
    refine jj_aload_n d_Mo_lackOfMethod_13 rfl ?_
    obtain ⟨r2, x2, e2, h⟩ := jj_b2o h
    refine jj_callVi (as := []) (c_Mo_methodCount (d := d + 0) h_this e2) d_Mo_lackOfMethod_14 ck_Mo_108 (sh_Mo h_this).2 (sh_Mo h_this).1 ⟨_, rfl, rfl⟩ rfl rfl (Nat.le_of_ble_eq_true rfl) ?_
    refine jj_iconst d_Mo_lackOfMethod_17 jc_i_1 ?_
    refine jj_isub d_Mo_lackOfMethod_18 ?_
    obtain ⟨r3, e3, h⟩ := jj_b1o h
    refine jj_callSi (as := [.int a1, .int 0, .int (r2 - 1)]) (c_Mo_within (d := d + 0)  e3) d_Mo_lackOfMethod_19 ck_Mo_47 rfl rfl (Nat.le_of_ble_eq_true rfl) ?_
    refine jj_if_eq (tgt := 29) d_Mo_lackOfMethod_22 rfl (fun c4 => ?_) (fun c4 => ?_)
    · rw [if_pos c4] at h
      refine jj_iconst d_Mo_lackOfMethod_29 jc_i_2 ?_
      cases h
      exact jj_ireturn d_Mo_lackOfMethod_30 rfl ⟨rfl, rfl⟩
    · rw [if_neg c4] at h
      refine jj_iconst d_Mo_lackOfMethod_25 jc_i_0 ?_
      refine jj_goto (tgt := 30) d_Mo_lackOfMethod_26 rfl ?_
      cases h
      exact jj_ireturn d_Mo_lackOfMethod_30 rfl ⟨rfl, rfl⟩
  · rw [if_pos c1] at h
    refine jj_iconst d_Mo_lackOfMethod_7 jc_i_1 ?_
    refine jj_goto (tgt := 30) d_Mo_lackOfMethod_8 rfl ?_
    cases h
    exact jj_ireturn d_Mo_lackOfMethod_30 rfl ⟨rfl, rfl⟩
theorem c_Mo_lackOfMethod {X : jj_X} {d : Nat} {this : Nat} {a1 : Int32} (h_this : o_Mo this) {x : jj_Mem} {q : Int32 × jj_Mem} (h : f_Mo_lackOfMethod this a1 x = some q) : jj_Met Y0 X (d + 1) m_Mo_lackOfMethod [.ref this, .int a1] x (jp_i q) :=
  jj_metp 0 (lo := [some (.ref this), some (.int a1)]) rfl (Nat.le_of_ble_eq_true rfl) rfl (t_Mo_lackOfMethod_0 h_this h)
def k_Mo_leave_43 (l0 : Nat) (l2 : Int32) (l3 : Int32) (x : jj_Mem) : Option (Int32 × jj_Mem) :=
  (if (x l0 21) ≤ 0 then (if l2 = 177 then some (0, (jj_set x l0 27 0)) else (if l2 = 172 then if jj_inb l3 24 = true then some (0, (jj_set x l0 27 (x (l0 + 6) (Int32.toNatClampNeg l3)))) else none else if jj_inb l3 24 = true then (if (x (l0 + 5) (Int32.toNatClampNeg l3)) = 3 then some (0, (jj_set x l0 27 (-1))) else if jj_inb l3 24 = true then if jj_inb (x (l0 + 6) (Int32.toNatClampNeg l3)) 8 = true then some (0, (jj_set x l0 27 (x (l0 + 10) (Int32.toNatClampNeg (x (l0 + 6) (Int32.toNatClampNeg l3)))))) else none else none) else none)) else some ((-1), x))
set_option maxHeartbeats 2000000 in
theorem t_Mo_leave_43 {X : jj_X} {d : Nat} {l0 : Nat} {l2 : Int32} {l3 : Int32} (h_l0 : o_Mo l0) {x : jj_Mem} {q : Int32 × jj_Mem} (h : k_Mo_leave_43 l0 l2 l3 x = some q) : jj_J Y0 X (d + 1) m_Mo_leave 43 [some (.ref l0), none, some (.int l2), some (.int l3)] [] x (jp_i q) := by
  unfold k_Mo_leave_43 at h
  refine jj_aload_n d_Mo_leave_43 rfl ?_
  refine jj_getI d_Mo_leave_44 fk_Mo_210 (sh_Mo h_l0).2 (sh_Mo h_l0).1 rfl rfl ?_
  refine jj_if_le (tgt := 52) d_Mo_leave_47 rfl (fun c1 => ?_) (fun c1 => ?_)
  · rw [if_pos c1] at h
    refine jj_iload_n d_Mo_leave_52 rfl ?_
    refine jj_sipush d_Mo_leave_53 jc_s_177 ?_
    refine jj_ic_ne (tgt := 67) d_Mo_leave_56 rfl (fun c2 => ?_) (fun c2 => ?_)
    · rw [if_neg c2] at h
      refine jj_iload_n d_Mo_leave_67 rfl ?_
      refine jj_sipush d_Mo_leave_68 jc_s_172 ?_
      refine jj_ic_ne (tgt := 87) d_Mo_leave_71 rfl (fun c3 => ?_) (fun c3 => ?_)
      · rw [if_neg c3] at h
        refine jj_aload_n d_Mo_leave_87 rfl ?_
        refine jj_aload_n d_Mo_leave_88 rfl ?_
        refine jj_getR d_Mo_leave_89 fk_Mo_22 (sh_Mo h_l0).2 (sh_Mo h_l0).1 rfl ?_
        refine jj_iload_n d_Mo_leave_92 rfl ?_
        obtain ⟨i4, h⟩ := jj_gt h
        refine jj_iaload d_Mo_leave_93 rfl (ar_Mo_stackKind h_l0).1 (ar_Mo_stackKind h_l0).2 (jj_inn i4) rfl ?_
        refine jj_iconst d_Mo_leave_94 jc_i_3 ?_
        refine jj_ic_ne (tgt := 102) d_Mo_leave_95 rfl (fun c5 => ?_) (fun c5 => ?_)
        · rw [if_neg c5] at h
          refine jj_aload_n d_Mo_leave_102 rfl ?_
          refine jj_getR d_Mo_leave_103 fk_Mo_37 (sh_Mo h_l0).2 (sh_Mo h_l0).1 rfl ?_
          refine jj_aload_n d_Mo_leave_106 rfl ?_
          refine jj_getR d_Mo_leave_107 fk_Mo_25 (sh_Mo h_l0).2 (sh_Mo h_l0).1 rfl ?_
          refine jj_iload_n d_Mo_leave_110 rfl ?_
          obtain ⟨i6, h⟩ := jj_gt h
          refine jj_iaload d_Mo_leave_111 rfl (ar_Mo_stackValue h_l0).1 (ar_Mo_stackValue h_l0).2 (jj_inn i6) rfl ?_
          obtain ⟨i7, h⟩ := jj_gt h
          refine jj_iaload d_Mo_leave_112 rfl (ar_Mo_rowSize h_l0).1 (ar_Mo_rowSize h_l0).2 (jj_inn i7) rfl ?_
          refine jj_putI d_Mo_leave_113 pk_Mo_237 (sh_Mo h_l0).2 (sh_Mo h_l0).1 rfl ?_
          refine jj_iconst d_Mo_leave_116 jc_i_0 ?_
          cases h
          exact jj_ireturn d_Mo_leave_117 rfl ⟨rfl, rfl⟩
        · rw [if_pos c5] at h
          refine jj_iconst d_Mo_leave_98 jc_i_m1 ?_
          refine jj_goto (tgt := 113) d_Mo_leave_99 rfl ?_
          refine jj_putI d_Mo_leave_113 pk_Mo_237 (sh_Mo h_l0).2 (sh_Mo h_l0).1 rfl ?_
          refine jj_iconst d_Mo_leave_116 jc_i_0 ?_
          cases h
          exact jj_ireturn d_Mo_leave_117 rfl ⟨rfl, rfl⟩
      · rw [if_pos c3] at h
        refine jj_aload_n d_Mo_leave_74 rfl ?_
        refine jj_aload_n d_Mo_leave_75 rfl ?_
        refine jj_getR d_Mo_leave_76 fk_Mo_25 (sh_Mo h_l0).2 (sh_Mo h_l0).1 rfl ?_
        refine jj_iload_n d_Mo_leave_79 rfl ?_
        obtain ⟨i8, h⟩ := jj_gt h
        refine jj_iaload d_Mo_leave_80 rfl (ar_Mo_stackValue h_l0).1 (ar_Mo_stackValue h_l0).2 (jj_inn i8) rfl ?_
        refine jj_putI d_Mo_leave_81 pk_Mo_237 (sh_Mo h_l0).2 (sh_Mo h_l0).1 rfl ?_
        refine jj_goto (tgt := 116) d_Mo_leave_84 rfl ?_
        refine jj_iconst d_Mo_leave_116 jc_i_0 ?_
        cases h
        exact jj_ireturn d_Mo_leave_117 rfl ⟨rfl, rfl⟩
    · rw [if_pos c2] at h
      refine jj_aload_n d_Mo_leave_59 rfl ?_
      refine jj_iconst d_Mo_leave_60 jc_i_0 ?_
      refine jj_putI d_Mo_leave_61 pk_Mo_237 (sh_Mo h_l0).2 (sh_Mo h_l0).1 rfl ?_
      refine jj_goto (tgt := 116) d_Mo_leave_64 rfl ?_
      refine jj_iconst d_Mo_leave_116 jc_i_0 ?_
      cases h
      exact jj_ireturn d_Mo_leave_117 rfl ⟨rfl, rfl⟩
  · rw [if_neg c1] at h
    refine jj_iconst d_Mo_leave_50 jc_i_m1 ?_
    cases h
    exact jj_ireturn d_Mo_leave_51 rfl ⟨rfl, rfl⟩
def f_Mo_leave (this : Nat) (a1 : Int32) (a2 : Int32) (a3 : Int32) (x : jj_Mem) : Option (Int32 × jj_Mem) :=
  (if ((jj_set x this 21 ((x this 21) - 1)) this 21) ≤ 0 then k_Mo_leave_43 this a2 a3 (jj_set x this 21 ((x this 21) - 1)) else (if a2 = 177 then k_Mo_leave_43 this a2 a3 (jj_set x this 21 ((x this 21) - 1)) else if jj_inb a3 24 = true then if jj_inb a3 24 = true then jj_b1 (f_Mo_push this (a1 - 1) ((jj_set x this 21 ((x this 21) - 1)) (this + 5) (Int32.toNatClampNeg a3)) ((jj_set x this 21 ((x this 21) - 1)) (this + 6) (Int32.toNatClampNeg a3)) (jj_set x this 21 ((x this 21) - 1))) (fun x5 => k_Mo_leave_43 this a2 a3 x5) else none else none))
set_option maxHeartbeats 2000000 in
theorem t_Mo_leave_0 {X : jj_X} {d : Nat} {this : Nat} {a1 : Int32} {a2 : Int32} {a3 : Int32} (h_this : o_Mo this) {x : jj_Mem} {q : Int32 × jj_Mem} (h : f_Mo_leave this a1 a2 a3 x = some q) : jj_J Y0 X (d + 1) m_Mo_leave 0 [some (.ref this), some (.int a1), some (.int a2), some (.int a3)] [] x (jp_i q) := by
  unfold f_Mo_leave at h
  refine jj_aload_n d_Mo_leave_0 rfl ?_
  refine jj_dup d_Mo_leave_1 rfl ?_
  refine jj_getI d_Mo_leave_2 fk_Mo_210 (sh_Mo h_this).2 (sh_Mo h_this).1 rfl rfl ?_
  refine jj_iconst d_Mo_leave_5 jc_i_1 ?_
  refine jj_isub d_Mo_leave_6 ?_
  refine jj_putI d_Mo_leave_7 pk_Mo_210 (sh_Mo h_this).2 (sh_Mo h_this).1 rfl ?_
  refine jj_aload_n d_Mo_leave_10 rfl ?_
  refine jj_getI d_Mo_leave_11 fk_Mo_210 (sh_Mo h_this).2 (sh_Mo h_this).1 rfl rfl ?_
  refine jj_if_le (tgt := 43) d_Mo_leave_14 rfl (fun c1 => ?_) (fun c1 => ?_)
  · rw [if_pos c1] at h
    exact jj_J.sub (t_Mo_leave_43 h_this h) (fun i v hi => jj_mask_ok [true, false, true, true] hi)
  · rw [if_neg c1] at h
    refine jj_iload_n d_Mo_leave_17 rfl ?_
    refine jj_sipush d_Mo_leave_18 jc_s_177 ?_
    refine jj_ic_eq (tgt := 43) d_Mo_leave_21 rfl (fun c2 => ?_) (fun c2 => ?_)
    · rw [if_pos c2] at h
      exact jj_J.sub (t_Mo_leave_43 h_this h) (fun i v hi => jj_mask_ok [true, false, true, true] hi)
    · rw [if_neg c2] at h
      refine jj_aload_n d_Mo_leave_24 rfl ?_
      refine jj_iload_n d_Mo_leave_25 rfl ?_
      refine jj_iconst d_Mo_leave_26 jc_i_1 ?_
      refine jj_isub d_Mo_leave_27 ?_
      refine jj_aload_n d_Mo_leave_28 rfl ?_
      refine jj_getR d_Mo_leave_29 fk_Mo_22 (sh_Mo h_this).2 (sh_Mo h_this).1 rfl ?_
      refine jj_iload_n d_Mo_leave_32 rfl ?_
      obtain ⟨i3, h⟩ := jj_gt h
      refine jj_iaload d_Mo_leave_33 rfl (ar_Mo_stackKind h_this).1 (ar_Mo_stackKind h_this).2 (jj_inn i3) rfl ?_
      refine jj_aload_n d_Mo_leave_34 rfl ?_
      refine jj_getR d_Mo_leave_35 fk_Mo_25 (sh_Mo h_this).2 (sh_Mo h_this).1 rfl ?_
      refine jj_iload_n d_Mo_leave_38 rfl ?_
      obtain ⟨i4, h⟩ := jj_gt h
      refine jj_iaload d_Mo_leave_39 rfl (ar_Mo_stackValue h_this).1 (ar_Mo_stackValue h_this).2 (jj_inn i4) rfl ?_
      obtain ⟨x5, e5, h⟩ := jj_b1o h
      refine jj_callVv (as := [.int (a1 - 1), .int ((jj_set x this 21 ((x this 21) - 1)) (this + 5) (Int32.toNatClampNeg a3)), .int ((jj_set x this 21 ((x this 21) - 1)) (this + 6) (Int32.toNatClampNeg a3))]) (c_Mo_push (d := d + 0) h_this e5) d_Mo_leave_40 ck_Mo_166 (sh_Mo h_this).2 (sh_Mo h_this).1 ⟨_, rfl, rfl⟩ rfl rfl (Nat.le_of_ble_eq_true rfl) ?_
      exact jj_J.sub (t_Mo_leave_43 h_this h) (fun i v hi => jj_mask_ok [true, false, true, true] hi)
theorem c_Mo_leave {X : jj_X} {d : Nat} {this : Nat} {a1 : Int32} {a2 : Int32} {a3 : Int32} (h_this : o_Mo this) {x : jj_Mem} {q : Int32 × jj_Mem} (h : f_Mo_leave this a1 a2 a3 x = some q) : jj_Met Y0 X (d + 1) m_Mo_leave [.ref this, .int a1, .int a2, .int a3] x (jp_i q) :=
  jj_metp 0 (lo := [some (.ref this), some (.int a1), some (.int a2), some (.int a3)]) rfl (Nat.le_of_ble_eq_true rfl) rfl (t_Mo_leave_0 h_this h)
def k_Mo_methodAt_46 (rec : Nat → List (Option Value) → jj_Mem → Option (Int32 × jj_Mem)) (l0 : Nat) (l1 : Int32) (l2 : Int32) (l3 : Int32) (l4 : Int32) (l5 : Int32) (l6 : Int32) (x : jj_Mem) : Option (Int32 × jj_Mem) :=
  (if l5 ≤ l6 then rec 13 [some (.ref l0), some (.int l1), some (.int l4), some (.int (l3 + 1)), none, none, none, none] x else jj_b2 (f_Mo_placesOf l0 l2 x) (fun r2 x2 => if jj_inb ((l4 + 1) + r2) 240 = true then rec 46 [some (.ref l0), some (.int l1), some (.int l2), some (.int l3), some (.int ((((l4 + 1) + r2) + 1) + (x2 (l0 + 2) (Int32.toNatClampNeg ((l4 + 1) + r2))))), some (.int l5), some (.int (l6 + 1)), none] x2 else none))
set_option maxHeartbeats 2000000 in
theorem t_Mo_methodAt_46 {X : jj_X} {d : Nat} (rec : Nat → List (Option Value) → jj_Mem → Option (Int32 × jj_Mem)) (hrec : ∀ (L : Nat) (lo : List (Option Value)) (x : jj_Mem) (q : Int32 × jj_Mem), rec L lo x = some q → jj_J Y0 X (d + 1) m_Mo_methodAt L lo [] x (jp_i q)) {l0 : Nat} {l1 : Int32} {l2 : Int32} {l3 : Int32} {l4 : Int32} {l5 : Int32} {l6 : Int32} (h_l0 : o_Mo l0) {x : jj_Mem} {q : Int32 × jj_Mem} (h : k_Mo_methodAt_46 rec l0 l1 l2 l3 l4 l5 l6 x = some q) : jj_J Y0 X (d + 1) m_Mo_methodAt 46 [some (.ref l0), some (.int l1), some (.int l2), some (.int l3), some (.int l4), some (.int l5), some (.int l6), none] [] x (jp_i q) := by
  unfold k_Mo_methodAt_46 at h
  refine jj_iload d_Mo_methodAt_46 rfl ?_
  refine jj_iload d_Mo_methodAt_48 rfl ?_
  refine jj_ic_ge (tgt := 85) d_Mo_methodAt_50 rfl (fun c1 => ?_) (fun c1 => ?_)
  · rw [if_pos c1] at h
    refine jj_iload d_Mo_methodAt_85 rfl ?_
    refine jj_istore_n (lo' := [_, _, _, _, _, _, _, _]) d_Mo_methodAt_87 rfl (by decide) rfl ?_
    refine jj_iinc (lo' := [_, _, _, _, _, _, _, _]) (v := (l3 + 1)) d_Mo_methodAt_88 rfl (jc_a_1 _) rfl (by decide) rfl ?_
    refine jj_goto (tgt := 13) d_Mo_methodAt_91 rfl ?_
    exact jj_J.sub (hrec _ _ _ _ h) (fun i v hi => jj_mask_ok [true, true, true, true, false, false, false, false] hi)
  · rw [if_neg c1] at h
    refine jj_iload d_Mo_methodAt_53 rfl ?_
    refine jj_iconst d_Mo_methodAt_55 jc_i_1 ?_
    refine jj_iadd d_Mo_methodAt_56 ?_
    refine jj_aload_n d_Mo_methodAt_57 rfl ?_
    refine jj_iload_n d_Mo_methodAt_58 rfl ?_
    obtain ⟨r2, x2, e2, h⟩ := jj_b2o h
    refine jj_callVi (as := [.int l2]) (c_Mo_placesOf (d := d + 0) h_l0 e2) d_Mo_methodAt_59 ck_Mo_118 (sh_Mo h_l0).2 (sh_Mo h_l0).1 ⟨_, rfl, rfl⟩ rfl rfl (Nat.le_of_ble_eq_true rfl) ?_
    refine jj_iadd d_Mo_methodAt_62 ?_
    refine jj_istore (lo' := [_, _, _, _, _, _, _, _]) d_Mo_methodAt_63 rfl (by decide) rfl ?_
    refine jj_iload d_Mo_methodAt_65 rfl ?_
    refine jj_iconst d_Mo_methodAt_67 jc_i_1 ?_
    refine jj_iadd d_Mo_methodAt_68 ?_
    refine jj_aload_n d_Mo_methodAt_69 rfl ?_
    refine jj_getR d_Mo_methodAt_70 fk_Mo_13 (sh_Mo h_l0).2 (sh_Mo h_l0).1 rfl ?_
    refine jj_iload d_Mo_methodAt_73 rfl ?_
    obtain ⟨i3, h⟩ := jj_gt h
    refine jj_iaload d_Mo_methodAt_75 rfl (ar_Mo_kept h_l0).1 (ar_Mo_kept h_l0).2 (jj_inn i3) rfl ?_
    refine jj_iadd d_Mo_methodAt_76 ?_
    refine jj_istore (lo' := [_, _, _, _, _, _, _, _]) d_Mo_methodAt_77 rfl (by decide) rfl ?_
    refine jj_iinc (lo' := [_, _, _, _, _, _, _, _]) (v := (l6 + 1)) d_Mo_methodAt_79 rfl (jc_a_1 _) rfl (by decide) rfl ?_
    refine jj_goto (tgt := 46) d_Mo_methodAt_82 rfl ?_
    exact jj_J.sub (hrec _ _ _ _ h) (fun i v hi => jj_mask_ok [true, true, true, true, true, true, true, false] hi)
def k_Mo_methodAt_13 (rec : Nat → List (Option Value) → jj_Mem → Option (Int32 × jj_Mem)) (l0 : Nat) (l1 : Int32) (l2 : Int32) (l3 : Int32) (x : jj_Mem) : Option (Int32 × jj_Mem) :=
  (if l1 ≤ l3 then some (l2, x) else jj_b2 (f_Mo_codeOf l0 l2 x) (fun r2 x2 => jj_b2 (f_Mo_lengthOf l0 l2 x2) (fun r3 x3 => if jj_inb (r2 + r3) 240 = true then rec 46 [some (.ref l0), some (.int l1), some (.int l2), some (.int l3), some (.int ((r2 + r3) + 1)), some (.int (x3 (l0 + 2) (Int32.toNatClampNeg (r2 + r3)))), some (.int 0), none] x3 else none)))
set_option maxHeartbeats 2000000 in
theorem t_Mo_methodAt_13 {X : jj_X} {d : Nat} (rec : Nat → List (Option Value) → jj_Mem → Option (Int32 × jj_Mem)) (hrec : ∀ (L : Nat) (lo : List (Option Value)) (x : jj_Mem) (q : Int32 × jj_Mem), rec L lo x = some q → jj_J Y0 X (d + 1) m_Mo_methodAt L lo [] x (jp_i q)) {l0 : Nat} {l1 : Int32} {l2 : Int32} {l3 : Int32} (h_l0 : o_Mo l0) {x : jj_Mem} {q : Int32 × jj_Mem} (h : k_Mo_methodAt_13 rec l0 l1 l2 l3 x = some q) : jj_J Y0 X (d + 1) m_Mo_methodAt 13 [some (.ref l0), some (.int l1), some (.int l2), some (.int l3), none, none, none, none] [] x (jp_i q) := by
  unfold k_Mo_methodAt_13 at h
  refine jj_iload_n d_Mo_methodAt_13 rfl ?_
  refine jj_iload_n d_Mo_methodAt_14 rfl ?_
  refine jj_ic_ge (tgt := 94) d_Mo_methodAt_15 rfl (fun c1 => ?_) (fun c1 => ?_)
  · rw [if_pos c1] at h
    refine jj_iload_n d_Mo_methodAt_94 rfl ?_
    cases h
    exact jj_ireturn d_Mo_methodAt_95 rfl ⟨rfl, rfl⟩
  · rw [if_neg c1] at h
    refine jj_aload_n d_Mo_methodAt_18 rfl ?_
    refine jj_iload_n d_Mo_methodAt_19 rfl ?_
    obtain ⟨r2, x2, e2, h⟩ := jj_b2o h
    refine jj_callVi (as := [.int l2]) (c_Mo_codeOf (d := d + 0) h_l0 e2) d_Mo_methodAt_20 ck_Mo_112 (sh_Mo h_l0).2 (sh_Mo h_l0).1 ⟨_, rfl, rfl⟩ rfl rfl (Nat.le_of_ble_eq_true rfl) ?_
    refine jj_aload_n d_Mo_methodAt_23 rfl ?_
    refine jj_iload_n d_Mo_methodAt_24 rfl ?_
    obtain ⟨r3, x3, e3, h⟩ := jj_b2o h
    refine jj_callVi (as := [.int l2]) (c_Mo_lengthOf (d := d + 0) h_l0 e3) d_Mo_methodAt_25 ck_Mo_115 (sh_Mo h_l0).2 (sh_Mo h_l0).1 ⟨_, rfl, rfl⟩ rfl rfl (Nat.le_of_ble_eq_true rfl) ?_
    refine jj_iadd d_Mo_methodAt_28 ?_
    refine jj_istore (lo' := [_, _, _, _, _, _, _, _]) d_Mo_methodAt_29 rfl (by decide) rfl ?_
    refine jj_aload_n d_Mo_methodAt_31 rfl ?_
    refine jj_getR d_Mo_methodAt_32 fk_Mo_13 (sh_Mo h_l0).2 (sh_Mo h_l0).1 rfl ?_
    refine jj_iload d_Mo_methodAt_35 rfl ?_
    obtain ⟨i4, h⟩ := jj_gt h
    refine jj_iaload d_Mo_methodAt_37 rfl (ar_Mo_kept h_l0).1 (ar_Mo_kept h_l0).2 (jj_inn i4) rfl ?_
    refine jj_istore (lo' := [_, _, _, _, _, _, _, _]) d_Mo_methodAt_38 rfl (by decide) rfl ?_
    refine jj_iinc (lo' := [_, _, _, _, _, _, _, _]) (v := ((r2 + r3) + 1)) d_Mo_methodAt_40 rfl (jc_a_1 _) rfl (by decide) rfl ?_
    refine jj_iconst d_Mo_methodAt_43 jc_i_0 ?_
    refine jj_istore (lo' := [_, _, _, _, _, _, _, _]) d_Mo_methodAt_44 rfl (by decide) rfl ?_
    exact jj_J.sub (hrec _ _ _ _ h) (fun i v hi => jj_mask_ok [true, true, true, true, true, true, true, false] hi)
def g_Mo_methodAt : Nat → Nat → List (Option Value) → jj_Mem → Option (Int32 × jj_Mem)
  | 0, _, _, _ => none
  | f + 1, L, lo, x => match L, lo with
    | 13, [some (.ref l0), some (.int l1), some (.int l2), some (.int l3), none, none, none, none] => if (bo_Mo l0) = true then k_Mo_methodAt_13 (g_Mo_methodAt f) l0 l1 l2 l3 x else none
    | 46, [some (.ref l0), some (.int l1), some (.int l2), some (.int l3), some (.int l4), some (.int l5), some (.int l6), none] => if (bo_Mo l0) = true then k_Mo_methodAt_46 (g_Mo_methodAt f) l0 l1 l2 l3 l4 l5 l6 x else none
    | _, _ => none
set_option maxHeartbeats 2000000 in
theorem t_Mo_methodAt_g {X : jj_X} {d : Nat} : ∀ (f L : Nat) (lo : List (Option Value)) (x : jj_Mem) (q : Int32 × jj_Mem), g_Mo_methodAt f L lo x = some q → jj_J Y0 X (d + 1) m_Mo_methodAt L lo [] x (jp_i q) := by
  intro f
  induction f with
  | zero => intro L lo x q h; simp [g_Mo_methodAt] at h
  | succ f ih =>
    intro L lo x q h
    unfold g_Mo_methodAt at h
    split at h
    · obtain ⟨i1, h⟩ := jj_gt h
      exact t_Mo_methodAt_13 _ ih (ob_Mo i1) h
    · obtain ⟨i1, h⟩ := jj_gt h
      exact t_Mo_methodAt_46 _ ih (ob_Mo i1) h
    · cases h
def k_Mo_methodAt_0 (rec : Nat → List (Option Value) → jj_Mem → Option (Int32 × jj_Mem)) (this : Nat) (a1 : Int32) (x : jj_Mem) : Option (Int32 × jj_Mem) :=
  if jj_inb 1 240 = true then rec 13 [some (.ref this), some (.int a1), some (.int (3 + (4 * (x (this + 2) (Int32.toNatClampNeg 1))))), some (.int 0), none, none, none, none] x else none
set_option maxHeartbeats 2000000 in
theorem t_Mo_methodAt_0 {X : jj_X} {d : Nat} (rec : Nat → List (Option Value) → jj_Mem → Option (Int32 × jj_Mem)) (hrec : ∀ (L : Nat) (lo : List (Option Value)) (x : jj_Mem) (q : Int32 × jj_Mem), rec L lo x = some q → jj_J Y0 X (d + 1) m_Mo_methodAt L lo [] x (jp_i q)) {this : Nat} {a1 : Int32} (h_this : o_Mo this) {x : jj_Mem} {q : Int32 × jj_Mem} (h : k_Mo_methodAt_0 rec this a1 x = some q) : jj_J Y0 X (d + 1) m_Mo_methodAt 0 [some (.ref this), some (.int a1), none, none, none, none, none, none] [] x (jp_i q) := by
  unfold k_Mo_methodAt_0 at h
  refine jj_iconst d_Mo_methodAt_0 jc_i_3 ?_
  refine jj_iconst d_Mo_methodAt_1 jc_i_4 ?_
  refine jj_aload_n d_Mo_methodAt_2 rfl ?_
  refine jj_getR d_Mo_methodAt_3 fk_Mo_13 (sh_Mo h_this).2 (sh_Mo h_this).1 rfl ?_
  refine jj_iconst d_Mo_methodAt_6 jc_i_1 ?_
  obtain ⟨i1, h⟩ := jj_gt h
  refine jj_iaload d_Mo_methodAt_7 rfl (ar_Mo_kept h_this).1 (ar_Mo_kept h_this).2 (jj_inn i1) rfl ?_
  refine jj_imul d_Mo_methodAt_8 ?_
  refine jj_iadd d_Mo_methodAt_9 ?_
  refine jj_istore_n (lo' := [_, _, _, _, _, _, _, _]) d_Mo_methodAt_10 rfl (by decide) rfl ?_
  refine jj_iconst d_Mo_methodAt_11 jc_i_0 ?_
  refine jj_istore_n (lo' := [_, _, _, _, _, _, _, _]) d_Mo_methodAt_12 rfl (by decide) rfl ?_
  exact jj_J.sub (hrec _ _ _ _ h) (fun i v hi => jj_mask_ok [true, true, true, true, false, false, false, false] hi)
def f_Mo_methodAt (this : Nat) (a1 : Int32) (x : jj_Mem) : Option (Int32 × jj_Mem) := k_Mo_methodAt_0 (g_Mo_methodAt 1000) this a1 x
theorem c_Mo_methodAt {X : jj_X} {d : Nat} {this : Nat} {a1 : Int32} (h_this : o_Mo this) {x : jj_Mem} {q : Int32 × jj_Mem} (h : f_Mo_methodAt this a1 x = some q) : jj_Met Y0 X (d + 1) m_Mo_methodAt [.ref this, .int a1] x (jp_i q) :=
  jj_metp 6 (lo := [some (.ref this), some (.int a1), none, none, none, none, none, none]) rfl (Nat.le_of_ble_eq_true rfl) rfl (t_Mo_methodAt_0 _ (t_Mo_methodAt_g 1000) h_this h)
def f_Mo_methods (this : Nat) (x : jj_Mem) : Option (Int32 × jj_Mem) :=
  jj_b2 (f_Mo_methodCount this (jj_set x this 0 0)) (fun r1 x1 => some (r1, x1))
set_option maxHeartbeats 2000000 in
theorem t_Mo_methods_0 {X : jj_X} {d : Nat} {this : Nat} (h_this : o_Mo this) {x : jj_Mem} {q : Int32 × jj_Mem} (h : f_Mo_methods this x = some q) : jj_J Y0 X (d + 1) m_Mo_methods 0 [some (.ref this)] [] x (jp_i q) := by
  unfold f_Mo_methods at h
  refine jj_aload_n d_Mo_methods_0 rfl ?_
  refine jj_iconst d_Mo_methods_1 jc_i_0 ?_
  refine jj_putI d_Mo_methods_2 pk_Mo_43 (sh_Mo h_this).2 (sh_Mo h_this).1 rfl ?_
  refine jj_aload_n d_Mo_methods_5 rfl ?_
  obtain ⟨r1, x1, e1, h⟩ := jj_b2o h
  refine jj_callVi (as := []) (c_Mo_methodCount (d := d + 0) h_this e1) d_Mo_methods_6 ck_Mo_108 (sh_Mo h_this).2 (sh_Mo h_this).1 ⟨_, rfl, rfl⟩ rfl rfl (Nat.le_of_ble_eq_true rfl) ?_
  cases h
  exact jj_ireturn d_Mo_methods_9 rfl ⟨rfl, rfl⟩
theorem c_Mo_methods {X : jj_X} {d : Nat} {this : Nat} (h_this : o_Mo this) {x : jj_Mem} {q : Int32 × jj_Mem} (h : f_Mo_methods this x = some q) : jj_Met Y0 X (d + 1) m_Mo_methods [.ref this] x (jp_i q) :=
  jj_metp 0 (lo := [some (.ref this)]) rfl (Nat.le_of_ble_eq_true rfl) rfl (t_Mo_methods_0 h_this h)
def sc_Mo_need : Nat → Option (Nat × (List Int32 → Option Int32)) := fun k => match k with
  | 47 => some (3, fun l => match l with | [b0, b1, b2] => s_Mo_within b0 b1 b2 | _ => none)
  | _ => none
def s_Mo_need (a1 a2 : Int32) : Option Int32 := se_run false 3 (sc_Mo_need) (se_code m_Mo_need.2.1) 400 0 [a1, a2] []
theorem c_Mo_need {X : jj_X} {d : Nat} {a1 a2 : Int32} {x : jj_Mem} {v : Int32} (h : s_Mo_need a1 a2 = some v) : jj_Met Y0 X (d + 1) m_Mo_need [.int a1, .int a2] x (jp_i (v, x)) := by
  refine jj_metp 1 (lo := [some (.int a1), some (.int a2), none]) rfl (Nat.le_of_ble_eq_true rfl) rfl ?_
  refine jj_J.sub (se_sound (Y := Y0) (X := X) (D := d + 1) (M := m_Mo_need) (x := x) rfl rfl (fun _ _ h => se_code_ok h) ?_ 400 0 [a1, a2] [] v h) (fun i u hi => jj_pad 1 hi)
  intro idx n g hc
  unfold sc_Mo_need at hc
  split at hc
  · cases hc
    refine ⟨d + 0, m_Mo_within, rfl, Or.inl ck_Mo_47, fun as w hl hg => ?_⟩
    obtain ⟨b0, b1, b2, rfl⟩ := jj_l3 hl
    exact c_Mo_within (d := d + 0) hg
  · cases hc
def f_Mo_next (this : Nat) (a1 : Int32) (a2 : Int32) (x : jj_Mem) : Option (Int32 × jj_Mem) :=
  (if (x this 4) = 0 then (if (x this 1) ≤ (x this 3) then some (0, (jj_set x this 4 1)) else if jj_inb (x this 3) 240 = true then jj_b1 (s_Mo_within (x (this + 1) (Int32.toNatClampNeg (x this 3))) a1 a2) (fun r4 => (if r4 = 0 then some (0, (jj_set x this 4 1)) else if jj_inb (((jj_set x this 3 ((x this 3) + 1)) this 3) - 1) 240 = true then some (((jj_set x this 3 ((x this 3) + 1)) (this + 1) (Int32.toNatClampNeg (((jj_set x this 3 ((x this 3) + 1)) this 3) - 1))), (jj_set x this 3 ((x this 3) + 1))) else none)) else none) else some (0, (jj_set x this 4 1)))
set_option maxHeartbeats 2000000 in
theorem t_Mo_next_0 {X : jj_X} {d : Nat} {this : Nat} {a1 : Int32} {a2 : Int32} (h_this : o_Mo this) {x : jj_Mem} {q : Int32 × jj_Mem} (h : f_Mo_next this a1 a2 x = some q) : jj_J Y0 X (d + 1) m_Mo_next 0 [some (.ref this), some (.int a1), some (.int a2)] [] x (jp_i q) := by
  unfold f_Mo_next at h
  refine jj_aload_n d_Mo_next_0 rfl ?_
  refine jj_getI d_Mo_next_1 fk_Mo_64 (sh_Mo h_this).2 (sh_Mo h_this).1 rfl rfl ?_
  refine jj_if_ne (tgt := 35) d_Mo_next_4 rfl (fun c1 => ?_) (fun c1 => ?_)
  · rw [if_neg c1] at h
    refine jj_aload_n d_Mo_next_35 rfl ?_
    refine jj_iconst d_Mo_next_36 jc_i_1 ?_
    refine jj_putZ d_Mo_next_37 pk_Mo_64 (sh_Mo h_this).2 (sh_Mo h_this).1 rfl (Or.inr rfl) ?_
    refine jj_iconst d_Mo_next_40 jc_i_0 ?_
    cases h
    exact jj_ireturn d_Mo_next_41 rfl ⟨rfl, rfl⟩
  · rw [if_pos c1] at h
    refine jj_aload_n d_Mo_next_7 rfl ?_
    refine jj_getI d_Mo_next_8 fk_Mo_68 (sh_Mo h_this).2 (sh_Mo h_this).1 rfl rfl ?_
    refine jj_aload_n d_Mo_next_11 rfl ?_
    refine jj_getI d_Mo_next_12 fk_Mo_61 (sh_Mo h_this).2 (sh_Mo h_this).1 rfl rfl ?_
    refine jj_ic_ge (tgt := 35) d_Mo_next_15 rfl (fun c2 => ?_) (fun c2 => ?_)
    · rw [if_pos c2] at h
      refine jj_aload_n d_Mo_next_35 rfl ?_
      refine jj_iconst d_Mo_next_36 jc_i_1 ?_
      refine jj_putZ d_Mo_next_37 pk_Mo_64 (sh_Mo h_this).2 (sh_Mo h_this).1 rfl (Or.inr rfl) ?_
      refine jj_iconst d_Mo_next_40 jc_i_0 ?_
      cases h
      exact jj_ireturn d_Mo_next_41 rfl ⟨rfl, rfl⟩
    · rw [if_neg c2] at h
      refine jj_aload_n d_Mo_next_18 rfl ?_
      refine jj_getR d_Mo_next_19 fk_Mo_7 (sh_Mo h_this).2 (sh_Mo h_this).1 rfl ?_
      refine jj_aload_n d_Mo_next_22 rfl ?_
      refine jj_getI d_Mo_next_23 fk_Mo_68 (sh_Mo h_this).2 (sh_Mo h_this).1 rfl rfl ?_
      obtain ⟨i3, h⟩ := jj_gt h
      refine jj_iaload d_Mo_next_26 rfl (ar_Mo_file h_this).1 (ar_Mo_file h_this).2 (jj_inn i3) rfl ?_
      refine jj_iload_n d_Mo_next_27 rfl ?_
      refine jj_iload_n d_Mo_next_28 rfl ?_
      obtain ⟨r4, e4, h⟩ := jj_b1o h
      refine jj_callSi (as := [.int (x (this + 1) (Int32.toNatClampNeg (x this 3))), .int a1, .int a2]) (c_Mo_within (d := d + 0)  e4) d_Mo_next_29 ck_Mo_47 rfl rfl (Nat.le_of_ble_eq_true rfl) ?_
      refine jj_if_ne (tgt := 42) d_Mo_next_32 rfl (fun c5 => ?_) (fun c5 => ?_)
      · rw [if_neg c5] at h
        refine jj_aload_n d_Mo_next_42 rfl ?_
        refine jj_dup d_Mo_next_43 rfl ?_
        refine jj_getI d_Mo_next_44 fk_Mo_68 (sh_Mo h_this).2 (sh_Mo h_this).1 rfl rfl ?_
        refine jj_iconst d_Mo_next_47 jc_i_1 ?_
        refine jj_iadd d_Mo_next_48 ?_
        refine jj_putI d_Mo_next_49 pk_Mo_68 (sh_Mo h_this).2 (sh_Mo h_this).1 rfl ?_
        refine jj_aload_n d_Mo_next_52 rfl ?_
        refine jj_getR d_Mo_next_53 fk_Mo_7 (sh_Mo h_this).2 (sh_Mo h_this).1 rfl ?_
        refine jj_aload_n d_Mo_next_56 rfl ?_
        refine jj_getI d_Mo_next_57 fk_Mo_68 (sh_Mo h_this).2 (sh_Mo h_this).1 rfl rfl ?_
        refine jj_iconst d_Mo_next_60 jc_i_1 ?_
        refine jj_isub d_Mo_next_61 ?_
        obtain ⟨i6, h⟩ := jj_gt h
        refine jj_iaload d_Mo_next_62 rfl (ar_Mo_file h_this).1 (ar_Mo_file h_this).2 (jj_inn i6) rfl ?_
        cases h
        exact jj_ireturn d_Mo_next_63 rfl ⟨rfl, rfl⟩
      · rw [if_pos c5] at h
        refine jj_aload_n d_Mo_next_35 rfl ?_
        refine jj_iconst d_Mo_next_36 jc_i_1 ?_
        refine jj_putZ d_Mo_next_37 pk_Mo_64 (sh_Mo h_this).2 (sh_Mo h_this).1 rfl (Or.inr rfl) ?_
        refine jj_iconst d_Mo_next_40 jc_i_0 ?_
        cases h
        exact jj_ireturn d_Mo_next_41 rfl ⟨rfl, rfl⟩
theorem c_Mo_next {X : jj_X} {d : Nat} {this : Nat} {a1 : Int32} {a2 : Int32} (h_this : o_Mo this) {x : jj_Mem} {q : Int32 × jj_Mem} (h : f_Mo_next this a1 a2 x = some q) : jj_Met Y0 X (d + 1) m_Mo_next [.ref this, .int a1, .int a2] x (jp_i q) :=
  jj_metp 0 (lo := [some (.ref this), some (.int a1), some (.int a2)]) rfl (Nat.le_of_ble_eq_true rfl) rfl (t_Mo_next_0 h_this h)
def k_Mo_poke_35 (l0 : Nat) (l1 : Int32) (l2 : Int32) (s0 : Nat) (s1 : Int32) (x : jj_Mem) : Option (jj_Mem) :=
  (if ((jj_set x s0 0 s1) l0 0) = 0 then if jj_inb l1 240 = true then some (jj_set (jj_set x s0 0 s1) (l0 + 1) (Int32.toNatClampNeg l1) l2) else none else some (jj_set x s0 0 s1))
set_option maxHeartbeats 2000000 in
theorem t_Mo_poke_35 {X : jj_X} {d : Nat} {l0 : Nat} {l1 : Int32} {l2 : Int32} {s0 : Nat} {s1 : Int32} (h_l0 : o_Mo l0) (h_s0 : o_Mo s0) {x : jj_Mem} {q : jj_Mem} (h : k_Mo_poke_35 l0 l1 l2 s0 s1 x = some q) : jj_J Y0 X (d + 1) m_Mo_poke 35 [some (.ref l0), some (.int l1), some (.int l2)] [.int s1, .ref s0] x (jp_v q) := by
  unfold k_Mo_poke_35 at h
  refine jj_putI d_Mo_poke_35 pk_Mo_43 (sh_Mo h_s0).2 (sh_Mo h_s0).1 rfl ?_
  refine jj_aload_n d_Mo_poke_38 rfl ?_
  refine jj_getI d_Mo_poke_39 fk_Mo_43 (sh_Mo h_l0).2 (sh_Mo h_l0).1 rfl rfl ?_
  refine jj_if_ne (tgt := 52) d_Mo_poke_42 rfl (fun c1 => ?_) (fun c1 => ?_)
  · rw [if_neg c1] at h
    cases h
    exact jj_return d_Mo_poke_52 rfl ⟨rfl, rfl⟩
  · rw [if_pos c1] at h
    refine jj_aload_n d_Mo_poke_45 rfl ?_
    refine jj_getR d_Mo_poke_46 fk_Mo_7 (sh_Mo h_l0).2 (sh_Mo h_l0).1 rfl ?_
    refine jj_iload_n d_Mo_poke_49 rfl ?_
    refine jj_iload_n d_Mo_poke_50 rfl ?_
    obtain ⟨i2, h⟩ := jj_gt h
    refine jj_iastore d_Mo_poke_51 rfl (ar_Mo_file h_l0).1 (ar_Mo_file h_l0).2 (jj_inn i2) ?_
    cases h
    exact jj_return d_Mo_poke_52 rfl ⟨rfl, rfl⟩
def f_Mo_poke (this : Nat) (a1 : Int32) (a2 : Int32) (x : jj_Mem) : Option (jj_Mem) :=
  jj_b1 (s_Mo_within a1 0 ((x this 1) - 1)) (fun r1 => (if r1 = 0 then k_Mo_poke_35 this a1 a2 this 1 x else jj_b1 (s_Mo_within a2 0 255) (fun r3 => (if r3 = 0 then k_Mo_poke_35 this a1 a2 this 2 x else k_Mo_poke_35 this a1 a2 this 0 x))))
set_option maxHeartbeats 2000000 in
theorem t_Mo_poke_0 {X : jj_X} {d : Nat} {this : Nat} {a1 : Int32} {a2 : Int32} (h_this : o_Mo this) {x : jj_Mem} {q : jj_Mem} (h : f_Mo_poke this a1 a2 x = some q) : jj_J Y0 X (d + 1) m_Mo_poke 0 [some (.ref this), some (.int a1), some (.int a2)] [] x (jp_v q) := by
  unfold f_Mo_poke at h
  refine jj_aload_n d_Mo_poke_0 rfl ?_
  refine jj_iload_n d_Mo_poke_1 rfl ?_
  refine jj_iconst d_Mo_poke_2 jc_i_0 ?_
  refine jj_aload_n d_Mo_poke_3 rfl ?_
  refine jj_getI d_Mo_poke_4 fk_Mo_61 (sh_Mo h_this).2 (sh_Mo h_this).1 rfl rfl ?_
  refine jj_iconst d_Mo_poke_7 jc_i_1 ?_
  refine jj_isub d_Mo_poke_8 ?_
  obtain ⟨r1, e1, h⟩ := jj_b1o h
  refine jj_callSi (as := [.int a1, .int 0, .int ((x this 1) - 1)]) (c_Mo_within (d := d + 0)  e1) d_Mo_poke_9 ck_Mo_47 rfl rfl (Nat.le_of_ble_eq_true rfl) ?_
  refine jj_if_ne (tgt := 19) d_Mo_poke_12 rfl (fun c2 => ?_) (fun c2 => ?_)
  · rw [if_neg c2] at h
    refine jj_iload_n d_Mo_poke_19 rfl ?_
    refine jj_iconst d_Mo_poke_20 jc_i_0 ?_
    refine jj_sipush d_Mo_poke_21 jc_s_255 ?_
    obtain ⟨r3, e3, h⟩ := jj_b1o h
    refine jj_callSi (as := [.int a2, .int 0, .int 255]) (c_Mo_within (d := d + 0)  e3) d_Mo_poke_24 ck_Mo_47 rfl rfl (Nat.le_of_ble_eq_true rfl) ?_
    refine jj_if_eq (tgt := 34) d_Mo_poke_27 rfl (fun c4 => ?_) (fun c4 => ?_)
    · rw [if_pos c4] at h
      refine jj_iconst d_Mo_poke_34 jc_i_2 ?_
      exact jj_J.sub (t_Mo_poke_35 h_this h_this h) (fun i v hi => jj_mask_ok [true, true, true] hi)
    · rw [if_neg c4] at h
      refine jj_iconst d_Mo_poke_30 jc_i_0 ?_
      refine jj_goto (tgt := 35) d_Mo_poke_31 rfl ?_
      exact jj_J.sub (t_Mo_poke_35 h_this h_this h) (fun i v hi => jj_mask_ok [true, true, true] hi)
  · rw [if_pos c2] at h
    refine jj_iconst d_Mo_poke_15 jc_i_1 ?_
    refine jj_goto (tgt := 35) d_Mo_poke_16 rfl ?_
    exact jj_J.sub (t_Mo_poke_35 h_this h_this h) (fun i v hi => jj_mask_ok [true, true, true] hi)
theorem c_Mo_poke {X : jj_X} {d : Nat} {this : Nat} {a1 : Int32} {a2 : Int32} (h_this : o_Mo this) {x : jj_Mem} {q : jj_Mem} (h : f_Mo_poke this a1 a2 x = some q) : jj_Met Y0 X (d + 1) m_Mo_poke [.ref this, .int a1, .int a2] x (jp_v q) :=
  jj_metp 0 (lo := [some (.ref this), some (.int a1), some (.int a2)]) rfl (Nat.le_of_ble_eq_true rfl) rfl (t_Mo_poke_0 h_this h)
def f_Mo_target (this : Nat) (a1 : Int32) (x : jj_Mem) : Option (Int32 × jj_Mem) :=
  if jj_inb (((x this 13) + a1) + 1) 240 = true then if jj_inb (((x this 13) + a1) + 2) 240 = true then jj_b2 (f_Mo_jump (x (this + 2) (Int32.toNatClampNeg (((x this 13) + a1) + 1))) (x (this + 2) (Int32.toNatClampNeg (((x this 13) + a1) + 2))) x) (fun r3 x3 => some ((a1 + r3), x3)) else none else none
set_option maxHeartbeats 2000000 in
theorem t_Mo_target_0 {X : jj_X} {d : Nat} {this : Nat} {a1 : Int32} (h_this : o_Mo this) {x : jj_Mem} {q : Int32 × jj_Mem} (h : f_Mo_target this a1 x = some q) : jj_J Y0 X (d + 1) m_Mo_target 0 [some (.ref this), some (.int a1)] [] x (jp_i q) := by
  unfold f_Mo_target at h
  refine jj_iload_n d_Mo_target_0 rfl ?_
  refine jj_aload_n d_Mo_target_1 rfl ?_
  refine jj_getR d_Mo_target_2 fk_Mo_13 (sh_Mo h_this).2 (sh_Mo h_this).1 rfl ?_
  refine jj_aload_n d_Mo_target_5 rfl ?_
  refine jj_getI d_Mo_target_6 fk_Mo_139 (sh_Mo h_this).2 (sh_Mo h_this).1 rfl rfl ?_
  refine jj_iload_n d_Mo_target_9 rfl ?_
  refine jj_iadd d_Mo_target_10 ?_
  refine jj_iconst d_Mo_target_11 jc_i_1 ?_
  refine jj_iadd d_Mo_target_12 ?_
  obtain ⟨i1, h⟩ := jj_gt h
  refine jj_iaload d_Mo_target_13 rfl (ar_Mo_kept h_this).1 (ar_Mo_kept h_this).2 (jj_inn i1) rfl ?_
  refine jj_aload_n d_Mo_target_14 rfl ?_
  refine jj_getR d_Mo_target_15 fk_Mo_13 (sh_Mo h_this).2 (sh_Mo h_this).1 rfl ?_
  refine jj_aload_n d_Mo_target_18 rfl ?_
  refine jj_getI d_Mo_target_19 fk_Mo_139 (sh_Mo h_this).2 (sh_Mo h_this).1 rfl rfl ?_
  refine jj_iload_n d_Mo_target_22 rfl ?_
  refine jj_iadd d_Mo_target_23 ?_
  refine jj_iconst d_Mo_target_24 jc_i_2 ?_
  refine jj_iadd d_Mo_target_25 ?_
  obtain ⟨i2, h⟩ := jj_gt h
  refine jj_iaload d_Mo_target_26 rfl (ar_Mo_kept h_this).1 (ar_Mo_kept h_this).2 (jj_inn i2) rfl ?_
  obtain ⟨r3, x3, e3, h⟩ := jj_b2o h
  refine jj_callSi (as := [.int (x (this + 2) (Int32.toNatClampNeg (((x this 13) + a1) + 1))), .int (x (this + 2) (Int32.toNatClampNeg (((x this 13) + a1) + 2)))]) (c_Mo_jump (d := d + 0)  e3) d_Mo_target_27 ck_Mo_84 rfl rfl (Nat.le_of_ble_eq_true rfl) ?_
  refine jj_iadd d_Mo_target_30 ?_
  cases h
  exact jj_ireturn d_Mo_target_31 rfl ⟨rfl, rfl⟩
theorem c_Mo_target {X : jj_X} {d : Nat} {this : Nat} {a1 : Int32} (h_this : o_Mo this) {x : jj_Mem} {q : Int32 × jj_Mem} (h : f_Mo_target this a1 x = some q) : jj_Met Y0 X (d + 1) m_Mo_target [.ref this, .int a1] x (jp_i q) :=
  jj_metp 0 (lo := [some (.ref this), some (.int a1)]) rfl (Nat.le_of_ble_eq_true rfl) rfl (t_Mo_target_0 h_this h)
def k_Mo_type_32 (rec : Nat → List (Option Value) → jj_Mem → Option (Int32 × jj_Mem)) (l0 : Nat) (l1 : Int64) (l3 : Int32) (s0 : Nat) (s1 : Int32) (x : jj_Mem) : Option (Int32 × jj_Mem) :=
  (if ((jj_set x s0 0 s1) l0 0) ≤ 0 then rec 49 [some (.ref l0), some (.long l1), none, none, some (.int (l3 - 1))] (jj_set x s0 0 s1) else some (0, (jj_set x s0 0 s1)))
set_option maxHeartbeats 2000000 in
theorem t_Mo_type_32 {X : jj_X} {d : Nat} (rec : Nat → List (Option Value) → jj_Mem → Option (Int32 × jj_Mem)) (hrec : ∀ (L : Nat) (lo : List (Option Value)) (x : jj_Mem) (q : Int32 × jj_Mem), rec L lo x = some q → jj_J Y0 X (d + 1) m_Mo_type L lo [] x (jp_i q)) {l0 : Nat} {l1 : Int64} {l3 : Int32} {s0 : Nat} {s1 : Int32} (h_l0 : o_Mo l0) (h_s0 : o_Mo s0) {x : jj_Mem} {q : Int32 × jj_Mem} (h : k_Mo_type_32 rec l0 l1 l3 s0 s1 x = some q) : jj_J Y0 X (d + 1) m_Mo_type 32 [some (.ref l0), some (.long l1), none, some (.int l3), none] [.int s1, .ref s0] x (jp_i q) := by
  unfold k_Mo_type_32 at h
  refine jj_putI d_Mo_type_32 pk_Mo_43 (sh_Mo h_s0).2 (sh_Mo h_s0).1 rfl ?_
  refine jj_aload_n d_Mo_type_35 rfl ?_
  refine jj_getI d_Mo_type_36 fk_Mo_43 (sh_Mo h_l0).2 (sh_Mo h_l0).1 rfl rfl ?_
  refine jj_if_le (tgt := 44) d_Mo_type_39 rfl (fun c1 => ?_) (fun c1 => ?_)
  · rw [if_pos c1] at h
    refine jj_iload_n d_Mo_type_44 rfl ?_
    refine jj_iconst d_Mo_type_45 jc_i_1 ?_
    refine jj_isub d_Mo_type_46 ?_
    refine jj_istore (lo' := [_, _, _, _, _]) d_Mo_type_47 rfl (by decide) rfl ?_
    exact jj_J.sub (hrec _ _ _ _ h) (fun i v hi => jj_mask_ok [true, true, false, false, true] hi)
  · rw [if_neg c1] at h
    refine jj_iconst d_Mo_type_42 jc_i_0 ?_
    cases h
    exact jj_ireturn d_Mo_type_43 rfl ⟨rfl, rfl⟩
def k_Mo_type_49 (rec : Nat → List (Option Value) → jj_Mem → Option (Int32 × jj_Mem)) (l0 : Nat) (l1 : Int64) (l4 : Int32) (x : jj_Mem) : Option (Int32 × jj_Mem) :=
  (if l4 < 0 then some ((x l0 1), x) else if jj_inb (x l0 1) 240 = true then rec 49 [some (.ref l0), some (.long l1), none, none, some (.int (l4 + (-1)))] (jj_set (jj_set x (l0 + 1) (Int32.toNatClampNeg (x l0 1)) ((Int64.toInt32 (l1 >>> (Int32.toInt64 (8 * l4) &&& 63))) &&& 255)) l0 1 (((jj_set x (l0 + 1) (Int32.toNatClampNeg (x l0 1)) ((Int64.toInt32 (l1 >>> (Int32.toInt64 (8 * l4) &&& 63))) &&& 255)) l0 1) + 1)) else none)
set_option maxHeartbeats 2000000 in
theorem t_Mo_type_49 {X : jj_X} {d : Nat} (rec : Nat → List (Option Value) → jj_Mem → Option (Int32 × jj_Mem)) (hrec : ∀ (L : Nat) (lo : List (Option Value)) (x : jj_Mem) (q : Int32 × jj_Mem), rec L lo x = some q → jj_J Y0 X (d + 1) m_Mo_type L lo [] x (jp_i q)) {l0 : Nat} {l1 : Int64} {l4 : Int32} (h_l0 : o_Mo l0) {x : jj_Mem} {q : Int32 × jj_Mem} (h : k_Mo_type_49 rec l0 l1 l4 x = some q) : jj_J Y0 X (d + 1) m_Mo_type 49 [some (.ref l0), some (.long l1), none, none, some (.int l4)] [] x (jp_i q) := by
  unfold k_Mo_type_49 at h
  refine jj_iload d_Mo_type_49 rfl ?_
  refine jj_if_lt (tgt := 91) d_Mo_type_51 rfl (fun c1 => ?_) (fun c1 => ?_)
  · rw [if_pos c1] at h
    refine jj_aload_n d_Mo_type_91 rfl ?_
    refine jj_getI d_Mo_type_92 fk_Mo_61 (sh_Mo h_l0).2 (sh_Mo h_l0).1 rfl rfl ?_
    cases h
    exact jj_ireturn d_Mo_type_95 rfl ⟨rfl, rfl⟩
  · rw [if_neg c1] at h
    refine jj_aload_n d_Mo_type_54 rfl ?_
    refine jj_getR d_Mo_type_55 fk_Mo_7 (sh_Mo h_l0).2 (sh_Mo h_l0).1 rfl ?_
    refine jj_aload_n d_Mo_type_58 rfl ?_
    refine jj_getI d_Mo_type_59 fk_Mo_61 (sh_Mo h_l0).2 (sh_Mo h_l0).1 rfl rfl ?_
    refine jj_lload_n d_Mo_type_62 rfl ?_
    refine jj_bipush d_Mo_type_63 jc_b_8 ?_
    refine jj_iload d_Mo_type_65 rfl ?_
    refine jj_imul d_Mo_type_67 ?_
    refine jj_lshr d_Mo_type_68 ?_
    refine jj_l2i d_Mo_type_69 ?_
    refine jj_sipush d_Mo_type_70 jc_s_255 ?_
    refine jj_iand d_Mo_type_73 ?_
    obtain ⟨i2, h⟩ := jj_gt h
    refine jj_iastore d_Mo_type_74 rfl (ar_Mo_file h_l0).1 (ar_Mo_file h_l0).2 (jj_inn i2) ?_
    refine jj_aload_n d_Mo_type_75 rfl ?_
    refine jj_dup d_Mo_type_76 rfl ?_
    refine jj_getI d_Mo_type_77 fk_Mo_61 (sh_Mo h_l0).2 (sh_Mo h_l0).1 rfl rfl ?_
    refine jj_iconst d_Mo_type_80 jc_i_1 ?_
    refine jj_iadd d_Mo_type_81 ?_
    refine jj_putI d_Mo_type_82 pk_Mo_61 (sh_Mo h_l0).2 (sh_Mo h_l0).1 rfl ?_
    refine jj_iinc (lo' := [_, _, _, _, _]) (v := (l4 + (-1))) d_Mo_type_85 rfl (jc_a_m1 _) rfl (by decide) rfl ?_
    refine jj_goto (tgt := 49) d_Mo_type_88 rfl ?_
    exact jj_J.sub (hrec _ _ _ _ h) (fun i v hi => jj_mask_ok [true, true, false, false, true] hi)
def g_Mo_type : Nat → Nat → List (Option Value) → jj_Mem → Option (Int32 × jj_Mem)
  | 0, _, _, _ => none
  | f + 1, L, lo, x => match L, lo with
    | 49, [some (.ref l0), some (.long l1), none, none, some (.int l4)] => if (bo_Mo l0) = true then k_Mo_type_49 (g_Mo_type f) l0 l1 l4 x else none
    | _, _ => none
set_option maxHeartbeats 2000000 in
theorem t_Mo_type_g {X : jj_X} {d : Nat} : ∀ (f L : Nat) (lo : List (Option Value)) (x : jj_Mem) (q : Int32 × jj_Mem), g_Mo_type f L lo x = some q → jj_J Y0 X (d + 1) m_Mo_type L lo [] x (jp_i q) := by
  intro f
  induction f with
  | zero => intro L lo x q h; simp [g_Mo_type] at h
  | succ f ih =>
    intro L lo x q h
    unfold g_Mo_type at h
    split at h
    · obtain ⟨i1, h⟩ := jj_gt h
      exact t_Mo_type_49 _ ih (ob_Mo i1) h
    · cases h
def k_Mo_type_0 (rec : Nat → List (Option Value) → jj_Mem → Option (Int32 × jj_Mem)) (this : Nat) (a1 : Int64) (a2 : Int32) (x : jj_Mem) : Option (Int32 × jj_Mem) :=
  jj_b1 (s_Mo_within a2 1 8) (fun r1 => (if r1 = 0 then k_Mo_type_32 rec this a1 a2 this 1 x else (if ((x this 1) + a2) ≤ 240 then k_Mo_type_32 rec this a1 a2 this 0 x else k_Mo_type_32 rec this a1 a2 this 2 x)))
set_option maxHeartbeats 2000000 in
theorem t_Mo_type_0 {X : jj_X} {d : Nat} (rec : Nat → List (Option Value) → jj_Mem → Option (Int32 × jj_Mem)) (hrec : ∀ (L : Nat) (lo : List (Option Value)) (x : jj_Mem) (q : Int32 × jj_Mem), rec L lo x = some q → jj_J Y0 X (d + 1) m_Mo_type L lo [] x (jp_i q)) {this : Nat} {a1 : Int64} {a2 : Int32} (h_this : o_Mo this) {x : jj_Mem} {q : Int32 × jj_Mem} (h : k_Mo_type_0 rec this a1 a2 x = some q) : jj_J Y0 X (d + 1) m_Mo_type 0 [some (.ref this), some (.long a1), none, some (.int a2), none] [] x (jp_i q) := by
  unfold k_Mo_type_0 at h
  refine jj_aload_n d_Mo_type_0 rfl ?_
  refine jj_iload_n d_Mo_type_1 rfl ?_
  refine jj_iconst d_Mo_type_2 jc_i_1 ?_
  refine jj_bipush d_Mo_type_3 jc_b_8 ?_
  obtain ⟨r1, e1, h⟩ := jj_b1o h
  refine jj_callSi (as := [.int a2, .int 1, .int 8]) (c_Mo_within (d := d + 0)  e1) d_Mo_type_5 ck_Mo_47 rfl rfl (Nat.le_of_ble_eq_true rfl) ?_
  refine jj_if_ne (tgt := 15) d_Mo_type_8 rfl (fun c2 => ?_) (fun c2 => ?_)
  · rw [if_neg c2] at h
    refine jj_aload_n d_Mo_type_15 rfl ?_
    refine jj_getI d_Mo_type_16 fk_Mo_61 (sh_Mo h_this).2 (sh_Mo h_this).1 rfl rfl ?_
    refine jj_iload_n d_Mo_type_19 rfl ?_
    refine jj_iadd d_Mo_type_20 ?_
    refine jj_sipush d_Mo_type_21 jc_s_240 ?_
    refine jj_ic_le (tgt := 31) d_Mo_type_24 rfl (fun c3 => ?_) (fun c3 => ?_)
    · rw [if_pos c3] at h
      refine jj_iconst d_Mo_type_31 jc_i_0 ?_
      exact jj_J.sub (t_Mo_type_32 rec hrec h_this h_this h) (fun i v hi => jj_mask_ok [true, true, false, true, false] hi)
    · rw [if_neg c3] at h
      refine jj_iconst d_Mo_type_27 jc_i_2 ?_
      refine jj_goto (tgt := 32) d_Mo_type_28 rfl ?_
      exact jj_J.sub (t_Mo_type_32 rec hrec h_this h_this h) (fun i v hi => jj_mask_ok [true, true, false, true, false] hi)
  · rw [if_pos c2] at h
    refine jj_iconst d_Mo_type_11 jc_i_1 ?_
    refine jj_goto (tgt := 32) d_Mo_type_12 rfl ?_
    exact jj_J.sub (t_Mo_type_32 rec hrec h_this h_this h) (fun i v hi => jj_mask_ok [true, true, false, true, false] hi)
def f_Mo_type (this : Nat) (a1 : Int64) (a2 : Int32) (x : jj_Mem) : Option (Int32 × jj_Mem) := k_Mo_type_0 (g_Mo_type 1000) this a1 a2 x
theorem c_Mo_type {X : jj_X} {d : Nat} {this : Nat} {a1 : Int64} {a2 : Int32} (h_this : o_Mo this) {x : jj_Mem} {q : Int32 × jj_Mem} (h : f_Mo_type this a1 a2 x = some q) : jj_Met Y0 X (d + 1) m_Mo_type [.ref this, .long a1, .int a2] x (jp_i q) :=
  jj_metp 1 (lo := [some (.ref this), some (.long a1), none, some (.int a2), none]) rfl (Nat.le_of_ble_eq_true rfl) rfl (t_Mo_type_0 _ (t_Mo_type_g 1000) h_this h)
def f_Mo_value (this : Nat) (a1 : Int32) (a2 : Int32) (a3 : Int32) (a4 : Int32) (x : jj_Mem) : Option (Int32 × jj_Mem) :=
  (if a1 = 1 then some (0, x) else if a1 = 16 then if jj_inb a2 240 = true then jj_b2 (f_Mo_small (x (this + 2) (Int32.toNatClampNeg a2)) x) (fun r4 x4 => some (r4, x4)) else none else if a1 = 18 then if jj_inb a2 240 = true then jj_b2 (f_Mo_constant this (x (this + 2) (Int32.toNatClampNeg a2)) x) (fun r7 x7 => some (r7, x7)) else none else if a1 = 46 then if jj_inb ((8 * a3) + a4) 64 = true then some ((x (this + 11) (Int32.toNatClampNeg ((8 * a3) + a4))), x) else none else if a1 = 96 then some ((a3 + a4), x) else if a1 = 100 then some ((a3 - a4), x) else if a1 = 104 then some ((a3 * a4), x) else if a1 = 108 then if jj_nz a4 = true then some ((a3 / a4), x) else none else if a1 = 116 then some ((-a4), x) else if a1 = 188 then jj_b2 (f_Mo_makeRow this a4 x) (fun r17 x17 => some (r17, x17)) else if jj_inb a4 8 = true then some ((x (this + 10) (Int32.toNatClampNeg a4)), x) else none)
set_option maxHeartbeats 2000000 in
theorem t_Mo_value_0 {X : jj_X} {d : Nat} {this : Nat} {a1 : Int32} {a2 : Int32} {a3 : Int32} {a4 : Int32} (h_this : o_Mo this) {x : jj_Mem} {q : Int32 × jj_Mem} (h : f_Mo_value this a1 a2 a3 a4 x = some q) : jj_J Y0 X (d + 1) m_Mo_value 0 [some (.ref this), some (.int a1), some (.int a2), some (.int a3), some (.int a4)] [] x (jp_i q) := by
  unfold f_Mo_value at h
  refine jj_iload_n d_Mo_value_0 rfl ?_
  by_cases c1 : a1 = 1
  · rw [if_pos c1] at h
    refine jj_lookup (tgt := 92) d_Mo_value_1 rfl (by rw [c1] <;> rfl) rfl ?_
    refine jj_iconst d_Mo_value_92 jc_i_0 ?_
    cases h
    exact jj_ireturn d_Mo_value_93 rfl ⟨rfl, rfl⟩
  rw [if_neg c1] at h
  by_cases c2 : a1 = 16
  · rw [if_pos c2] at h
    refine jj_lookup (tgt := 94) d_Mo_value_1 rfl (by rw [c2] <;> rfl) rfl ?_
    refine jj_aload_n d_Mo_value_94 rfl ?_
    refine jj_getR d_Mo_value_95 fk_Mo_13 (sh_Mo h_this).2 (sh_Mo h_this).1 rfl ?_
    refine jj_iload_n d_Mo_value_98 rfl ?_
    obtain ⟨i3, h⟩ := jj_gt h
    refine jj_iaload d_Mo_value_99 rfl (ar_Mo_kept h_this).1 (ar_Mo_kept h_this).2 (jj_inn i3) rfl ?_
    obtain ⟨r4, x4, e4, h⟩ := jj_b2o h
    refine jj_callSi (as := [.int (x (this + 2) (Int32.toNatClampNeg a2))]) (c_Mo_small (d := d + 0)  e4) d_Mo_value_100 ck_Mo_240 rfl rfl (Nat.le_of_ble_eq_true rfl) ?_
    cases h
    exact jj_ireturn d_Mo_value_103 rfl ⟨rfl, rfl⟩
  rw [if_neg c2] at h
  by_cases c5 : a1 = 18
  · rw [if_pos c5] at h
    refine jj_lookup (tgt := 104) d_Mo_value_1 rfl (by rw [c5] <;> rfl) rfl ?_
    refine jj_aload_n d_Mo_value_104 rfl ?_
    refine jj_aload_n d_Mo_value_105 rfl ?_
    refine jj_getR d_Mo_value_106 fk_Mo_13 (sh_Mo h_this).2 (sh_Mo h_this).1 rfl ?_
    refine jj_iload_n d_Mo_value_109 rfl ?_
    obtain ⟨i6, h⟩ := jj_gt h
    refine jj_iaload d_Mo_value_110 rfl (ar_Mo_kept h_this).1 (ar_Mo_kept h_this).2 (jj_inn i6) rfl ?_
    obtain ⟨r7, x7, e7, h⟩ := jj_b2o h
    refine jj_callVi (as := [.int (x (this + 2) (Int32.toNatClampNeg a2))]) (c_Mo_constant (d := d + 0) h_this e7) d_Mo_value_111 ck_Mo_247 (sh_Mo h_this).2 (sh_Mo h_this).1 ⟨_, rfl, rfl⟩ rfl rfl (Nat.le_of_ble_eq_true rfl) ?_
    cases h
    exact jj_ireturn d_Mo_value_114 rfl ⟨rfl, rfl⟩
  rw [if_neg c5] at h
  by_cases c8 : a1 = 46
  · rw [if_pos c8] at h
    refine jj_lookup (tgt := 115) d_Mo_value_1 rfl (by rw [c8] <;> rfl) rfl ?_
    refine jj_aload_n d_Mo_value_115 rfl ?_
    refine jj_getR d_Mo_value_116 fk_Mo_40 (sh_Mo h_this).2 (sh_Mo h_this).1 rfl ?_
    refine jj_bipush d_Mo_value_119 jc_b_8 ?_
    refine jj_iload_n d_Mo_value_121 rfl ?_
    refine jj_imul d_Mo_value_122 ?_
    refine jj_iload d_Mo_value_123 rfl ?_
    refine jj_iadd d_Mo_value_125 ?_
    obtain ⟨i9, h⟩ := jj_gt h
    refine jj_iaload d_Mo_value_126 rfl (ar_Mo_cells h_this).1 (ar_Mo_cells h_this).2 (jj_inn i9) rfl ?_
    cases h
    exact jj_ireturn d_Mo_value_127 rfl ⟨rfl, rfl⟩
  rw [if_neg c8] at h
  by_cases c10 : a1 = 96
  · rw [if_pos c10] at h
    refine jj_lookup (tgt := 128) d_Mo_value_1 rfl (by rw [c10] <;> rfl) rfl ?_
    refine jj_iload_n d_Mo_value_128 rfl ?_
    refine jj_iload d_Mo_value_129 rfl ?_
    refine jj_iadd d_Mo_value_131 ?_
    cases h
    exact jj_ireturn d_Mo_value_132 rfl ⟨rfl, rfl⟩
  rw [if_neg c10] at h
  by_cases c11 : a1 = 100
  · rw [if_pos c11] at h
    refine jj_lookup (tgt := 133) d_Mo_value_1 rfl (by rw [c11] <;> rfl) rfl ?_
    refine jj_iload_n d_Mo_value_133 rfl ?_
    refine jj_iload d_Mo_value_134 rfl ?_
    refine jj_isub d_Mo_value_136 ?_
    cases h
    exact jj_ireturn d_Mo_value_137 rfl ⟨rfl, rfl⟩
  rw [if_neg c11] at h
  by_cases c12 : a1 = 104
  · rw [if_pos c12] at h
    refine jj_lookup (tgt := 138) d_Mo_value_1 rfl (by rw [c12] <;> rfl) rfl ?_
    refine jj_iload_n d_Mo_value_138 rfl ?_
    refine jj_iload d_Mo_value_139 rfl ?_
    refine jj_imul d_Mo_value_141 ?_
    cases h
    exact jj_ireturn d_Mo_value_142 rfl ⟨rfl, rfl⟩
  rw [if_neg c12] at h
  by_cases c13 : a1 = 108
  · rw [if_pos c13] at h
    refine jj_lookup (tgt := 143) d_Mo_value_1 rfl (by rw [c13] <;> rfl) rfl ?_
    refine jj_iload_n d_Mo_value_143 rfl ?_
    refine jj_iload d_Mo_value_144 rfl ?_
    obtain ⟨i14, h⟩ := jj_gt h
    refine jj_idiv d_Mo_value_146 (jj_nzo i14) ?_
    cases h
    exact jj_ireturn d_Mo_value_147 rfl ⟨rfl, rfl⟩
  rw [if_neg c13] at h
  by_cases c15 : a1 = 116
  · rw [if_pos c15] at h
    refine jj_lookup (tgt := 148) d_Mo_value_1 rfl (by rw [c15] <;> rfl) rfl ?_
    refine jj_iload d_Mo_value_148 rfl ?_
    refine jj_ineg d_Mo_value_150 ?_
    cases h
    exact jj_ireturn d_Mo_value_151 rfl ⟨rfl, rfl⟩
  rw [if_neg c15] at h
  by_cases c16 : a1 = 188
  · rw [if_pos c16] at h
    refine jj_lookup (tgt := 152) d_Mo_value_1 rfl (by rw [c16] <;> rfl) rfl ?_
    refine jj_aload_n d_Mo_value_152 rfl ?_
    refine jj_iload d_Mo_value_153 rfl ?_
    obtain ⟨r17, x17, e17, h⟩ := jj_b2o h
    refine jj_callVi (as := [.int a4]) (c_Mo_makeRow (d := d + 0) h_this e17) d_Mo_value_155 ck_Mo_207 (sh_Mo h_this).2 (sh_Mo h_this).1 ⟨_, rfl, rfl⟩ rfl rfl (Nat.le_of_ble_eq_true rfl) ?_
    cases h
    exact jj_ireturn d_Mo_value_158 rfl ⟨rfl, rfl⟩
  rw [if_neg c16] at h
  refine jj_lookup (tgt := 159) d_Mo_value_1 rfl ((lv_osw c1 (by decide)).trans ((lv_osw c2 (by decide)).trans ((lv_osw c5 (by decide)).trans ((lv_osw c8 (by decide)).trans ((lv_osw c10 (by decide)).trans ((lv_osw c11 (by decide)).trans ((lv_osw c12 (by decide)).trans ((lv_osw c13 (by decide)).trans ((lv_osw c15 (by decide)).trans ((lv_osw c16 (by decide)).trans (rfl))))))))))) rfl ?_
  refine jj_aload_n d_Mo_value_159 rfl ?_
  refine jj_getR d_Mo_value_160 fk_Mo_37 (sh_Mo h_this).2 (sh_Mo h_this).1 rfl ?_
  refine jj_iload d_Mo_value_163 rfl ?_
  obtain ⟨i18, h⟩ := jj_gt h
  refine jj_iaload d_Mo_value_165 rfl (ar_Mo_rowSize h_this).1 (ar_Mo_rowSize h_this).2 (jj_inn i18) rfl ?_
  cases h
  exact jj_ireturn d_Mo_value_166 rfl ⟨rfl, rfl⟩
theorem c_Mo_value {X : jj_X} {d : Nat} {this : Nat} {a1 : Int32} {a2 : Int32} {a3 : Int32} {a4 : Int32} (h_this : o_Mo this) {x : jj_Mem} {q : Int32 × jj_Mem} (h : f_Mo_value this a1 a2 a3 a4 x = some q) : jj_Met Y0 X (d + 1) m_Mo_value [.ref this, .int a1, .int a2, .int a3, .int a4] x (jp_i q) :=
  jj_metp 0 (lo := [some (.ref this), some (.int a1), some (.int a2), some (.int a3), some (.int a4)]) rfl (Nat.le_of_ble_eq_true rfl) rfl (t_Mo_value_0 h_this h)
def k_Mo_wrong_27 (l0 : Nat) (s0 : Int32) (x : jj_Mem) : Option (Int32 × jj_Mem) :=
  if jj_inb (s0 + 1) 24 = true then if jj_inb s0 24 = true then (if (x (l0 + 5) (Int32.toNatClampNeg s0)) = 3 then some (4, x) else if jj_inb s0 24 = true then if jj_inb (x (l0 + 6) (Int32.toNatClampNeg s0)) 8 = true then jj_b1 (s_Mo_within (x (l0 + 6) (Int32.toNatClampNeg (s0 + 1))) 0 ((x (l0 + 10) (Int32.toNatClampNeg (x (l0 + 6) (Int32.toNatClampNeg s0)))) - 1)) (fun r6 => (if r6 = 0 then some (3, x) else some ((-1), x))) else none else none) else none else none
set_option maxHeartbeats 2000000 in
theorem t_Mo_wrong_27 {X : jj_X} {d : Nat} {l0 : Nat} {s0 : Int32} (h_l0 : o_Mo l0) {x : jj_Mem} {q : Int32 × jj_Mem} (h : k_Mo_wrong_27 l0 s0 x = some q) : jj_J Y0 X (d + 1) m_Mo_wrong 27 [some (.ref l0), none, none, none, none] [.int s0] x (jp_i q) := by
  unfold k_Mo_wrong_27 at h
  refine jj_istore_n (lo' := [_, _, _, _, _]) d_Mo_wrong_27 rfl (by decide) rfl ?_
  refine jj_aload_n d_Mo_wrong_28 rfl ?_
  refine jj_getR d_Mo_wrong_29 fk_Mo_25 (sh_Mo h_l0).2 (sh_Mo h_l0).1 rfl ?_
  refine jj_iload_n d_Mo_wrong_32 rfl ?_
  refine jj_iconst d_Mo_wrong_33 jc_i_1 ?_
  refine jj_iadd d_Mo_wrong_34 ?_
  obtain ⟨i1, h⟩ := jj_gt h
  refine jj_iaload d_Mo_wrong_35 rfl (ar_Mo_stackValue h_l0).1 (ar_Mo_stackValue h_l0).2 (jj_inn i1) rfl ?_
  refine jj_istore (lo' := [_, _, _, _, _]) d_Mo_wrong_36 rfl (by decide) rfl ?_
  refine jj_aload_n d_Mo_wrong_38 rfl ?_
  refine jj_getR d_Mo_wrong_39 fk_Mo_22 (sh_Mo h_l0).2 (sh_Mo h_l0).1 rfl ?_
  refine jj_iload_n d_Mo_wrong_42 rfl ?_
  obtain ⟨i2, h⟩ := jj_gt h
  refine jj_iaload d_Mo_wrong_43 rfl (ar_Mo_stackKind h_l0).1 (ar_Mo_stackKind h_l0).2 (jj_inn i2) rfl ?_
  refine jj_iconst d_Mo_wrong_44 jc_i_3 ?_
  refine jj_ic_ne (tgt := 52) d_Mo_wrong_45 rfl (fun c3 => ?_) (fun c3 => ?_)
  · rw [if_neg c3] at h
    refine jj_iload d_Mo_wrong_52 rfl ?_
    refine jj_iconst d_Mo_wrong_54 jc_i_0 ?_
    refine jj_aload_n d_Mo_wrong_55 rfl ?_
    refine jj_getR d_Mo_wrong_56 fk_Mo_37 (sh_Mo h_l0).2 (sh_Mo h_l0).1 rfl ?_
    refine jj_aload_n d_Mo_wrong_59 rfl ?_
    refine jj_getR d_Mo_wrong_60 fk_Mo_25 (sh_Mo h_l0).2 (sh_Mo h_l0).1 rfl ?_
    refine jj_iload_n d_Mo_wrong_63 rfl ?_
    obtain ⟨i4, h⟩ := jj_gt h
    refine jj_iaload d_Mo_wrong_64 rfl (ar_Mo_stackValue h_l0).1 (ar_Mo_stackValue h_l0).2 (jj_inn i4) rfl ?_
    obtain ⟨i5, h⟩ := jj_gt h
    refine jj_iaload d_Mo_wrong_65 rfl (ar_Mo_rowSize h_l0).1 (ar_Mo_rowSize h_l0).2 (jj_inn i5) rfl ?_
    refine jj_iconst d_Mo_wrong_66 jc_i_1 ?_
    refine jj_isub d_Mo_wrong_67 ?_
    obtain ⟨r6, e6, h⟩ := jj_b1o h
    refine jj_callSi (as := [.int (x (l0 + 6) (Int32.toNatClampNeg (s0 + 1))), .int 0, .int ((x (l0 + 10) (Int32.toNatClampNeg (x (l0 + 6) (Int32.toNatClampNeg s0)))) - 1)]) (c_Mo_within (d := d + 0)  e6) d_Mo_wrong_68 ck_Mo_47 rfl rfl (Nat.le_of_ble_eq_true rfl) ?_
    refine jj_if_eq (tgt := 78) d_Mo_wrong_71 rfl (fun c7 => ?_) (fun c7 => ?_)
    · rw [if_pos c7] at h
      refine jj_iconst d_Mo_wrong_78 jc_i_3 ?_
      cases h
      exact jj_ireturn d_Mo_wrong_79 rfl ⟨rfl, rfl⟩
    · rw [if_neg c7] at h
      refine jj_iconst d_Mo_wrong_74 jc_i_m1 ?_
      refine jj_goto (tgt := 79) d_Mo_wrong_75 rfl ?_
      cases h
      exact jj_ireturn d_Mo_wrong_79 rfl ⟨rfl, rfl⟩
  · rw [if_pos c3] at h
    refine jj_iconst d_Mo_wrong_48 jc_i_4 ?_
    refine jj_goto (tgt := 79) d_Mo_wrong_49 rfl ?_
    cases h
    exact jj_ireturn d_Mo_wrong_79 rfl ⟨rfl, rfl⟩
def k_Mo_wrong_12 (l0 : Nat) (l1 : Int32) (l2 : Int32) (x : jj_Mem) : Option (Int32 × jj_Mem) :=
  (if l1 = 46 then k_Mo_wrong_27 l0 (l2 - 1) x else k_Mo_wrong_27 l0 (l2 - 2) x)
set_option maxHeartbeats 2000000 in
theorem t_Mo_wrong_12 {X : jj_X} {d : Nat} {l0 : Nat} {l1 : Int32} {l2 : Int32} (h_l0 : o_Mo l0) {x : jj_Mem} {q : Int32 × jj_Mem} (h : k_Mo_wrong_12 l0 l1 l2 x = some q) : jj_J Y0 X (d + 1) m_Mo_wrong 12 [some (.ref l0), some (.int l1), some (.int l2), none, none] [] x (jp_i q) := by
  unfold k_Mo_wrong_12 at h
  refine jj_iload_n d_Mo_wrong_12 rfl ?_
  refine jj_bipush d_Mo_wrong_13 jc_b_46 ?_
  refine jj_ic_ne (tgt := 24) d_Mo_wrong_15 rfl (fun c1 => ?_) (fun c1 => ?_)
  · rw [if_neg c1] at h
    refine jj_iload_n d_Mo_wrong_24 rfl ?_
    refine jj_iconst d_Mo_wrong_25 jc_i_2 ?_
    refine jj_isub d_Mo_wrong_26 ?_
    exact jj_J.sub (t_Mo_wrong_27 h_l0 h) (fun i v hi => jj_mask_ok [true, false, false, false, false] hi)
  · rw [if_pos c1] at h
    refine jj_iload_n d_Mo_wrong_18 rfl ?_
    refine jj_iconst d_Mo_wrong_19 jc_i_1 ?_
    refine jj_isub d_Mo_wrong_20 ?_
    refine jj_goto (tgt := 27) d_Mo_wrong_21 rfl ?_
    exact jj_J.sub (t_Mo_wrong_27 h_l0 h) (fun i v hi => jj_mask_ok [true, false, false, false, false] hi)
def f_Mo_wrong (this : Nat) (a1 : Int32) (a2 : Int32) (x : jj_Mem) : Option (Int32 × jj_Mem) :=
  (if a1 = 46 then k_Mo_wrong_12 this a1 a2 x else (if a1 = 79 then k_Mo_wrong_12 this a1 a2 x else (if a1 = 190 then if jj_inb a2 24 = true then (if (x (this + 5) (Int32.toNatClampNeg a2)) = 3 then some (4, x) else some ((-1), x)) else none else (if a1 = 188 then if jj_inb a2 24 = true then jj_b1 (s_Mo_within (x (this + 6) (Int32.toNatClampNeg a2)) 0 8) (fun r11 => (if r11 = 0 then some (5, x) else (if 8 ≤ (x this 23) then some (5, x) else some ((-1), x)))) else none else (if a1 = 108 then if jj_inb a2 24 = true then (if (x (this + 6) (Int32.toNatClampNeg a2)) = 0 then some (2, x) else some ((-1), x)) else none else (if a1 = 184 then (if (x this 21) = 4 then some (6, x) else some ((-1), x)) else some ((-1), x)))))))
set_option maxHeartbeats 2000000 in
theorem t_Mo_wrong_0 {X : jj_X} {d : Nat} {this : Nat} {a1 : Int32} {a2 : Int32} (h_this : o_Mo this) {x : jj_Mem} {q : Int32 × jj_Mem} (h : f_Mo_wrong this a1 a2 x = some q) : jj_J Y0 X (d + 1) m_Mo_wrong 0 [some (.ref this), some (.int a1), some (.int a2), none, none] [] x (jp_i q) := by
  unfold f_Mo_wrong at h
  refine jj_iload_n d_Mo_wrong_0 rfl ?_
  refine jj_bipush d_Mo_wrong_1 jc_b_46 ?_
  refine jj_ic_eq (tgt := 12) d_Mo_wrong_3 rfl (fun c1 => ?_) (fun c1 => ?_)
  · rw [if_pos c1] at h
    exact jj_J.sub (t_Mo_wrong_12 h_this h) (fun i v hi => jj_mask_ok [true, true, true, false, false] hi)
  · rw [if_neg c1] at h
    refine jj_iload_n d_Mo_wrong_6 rfl ?_
    refine jj_bipush d_Mo_wrong_7 jc_b_79 ?_
    refine jj_ic_ne (tgt := 80) d_Mo_wrong_9 rfl (fun c2 => ?_) (fun c2 => ?_)
    · rw [if_neg c2] at h
      refine jj_iload_n d_Mo_wrong_80 rfl ?_
      refine jj_sipush d_Mo_wrong_81 jc_s_190 ?_
      refine jj_ic_ne (tgt := 103) d_Mo_wrong_84 rfl (fun c3 => ?_) (fun c3 => ?_)
      · rw [if_neg c3] at h
        refine jj_iload_n d_Mo_wrong_103 rfl ?_
        refine jj_sipush d_Mo_wrong_104 jc_s_188 ?_
        refine jj_ic_ne (tgt := 140) d_Mo_wrong_107 rfl (fun c4 => ?_) (fun c4 => ?_)
        · rw [if_neg c4] at h
          refine jj_iload_n d_Mo_wrong_140 rfl ?_
          refine jj_bipush d_Mo_wrong_141 jc_b_108 ?_
          refine jj_ic_ne (tgt := 161) d_Mo_wrong_143 rfl (fun c5 => ?_) (fun c5 => ?_)
          · rw [if_neg c5] at h
            refine jj_iload_n d_Mo_wrong_161 rfl ?_
            refine jj_sipush d_Mo_wrong_162 jc_s_184 ?_
            refine jj_ic_ne (tgt := 181) d_Mo_wrong_165 rfl (fun c6 => ?_) (fun c6 => ?_)
            · rw [if_neg c6] at h
              refine jj_iconst d_Mo_wrong_181 jc_i_m1 ?_
              cases h
              exact jj_ireturn d_Mo_wrong_182 rfl ⟨rfl, rfl⟩
            · rw [if_pos c6] at h
              refine jj_aload_n d_Mo_wrong_168 rfl ?_
              refine jj_getI d_Mo_wrong_169 fk_Mo_210 (sh_Mo h_this).2 (sh_Mo h_this).1 rfl rfl ?_
              refine jj_iconst d_Mo_wrong_172 jc_i_4 ?_
              refine jj_ic_ne (tgt := 181) d_Mo_wrong_173 rfl (fun c7 => ?_) (fun c7 => ?_)
              · rw [if_neg c7] at h
                refine jj_iconst d_Mo_wrong_181 jc_i_m1 ?_
                cases h
                exact jj_ireturn d_Mo_wrong_182 rfl ⟨rfl, rfl⟩
              · rw [if_pos c7] at h
                refine jj_bipush d_Mo_wrong_176 jc_b_6 ?_
                refine jj_goto (tgt := 182) d_Mo_wrong_178 rfl ?_
                cases h
                exact jj_ireturn d_Mo_wrong_182 rfl ⟨rfl, rfl⟩
          · rw [if_pos c5] at h
            refine jj_aload_n d_Mo_wrong_146 rfl ?_
            refine jj_getR d_Mo_wrong_147 fk_Mo_25 (sh_Mo h_this).2 (sh_Mo h_this).1 rfl ?_
            refine jj_iload_n d_Mo_wrong_150 rfl ?_
            obtain ⟨i8, h⟩ := jj_gt h
            refine jj_iaload d_Mo_wrong_151 rfl (ar_Mo_stackValue h_this).1 (ar_Mo_stackValue h_this).2 (jj_inn i8) rfl ?_
            refine jj_if_ne (tgt := 159) d_Mo_wrong_152 rfl (fun c9 => ?_) (fun c9 => ?_)
            · rw [if_neg c9] at h
              refine jj_iconst d_Mo_wrong_159 jc_i_m1 ?_
              cases h
              exact jj_ireturn d_Mo_wrong_160 rfl ⟨rfl, rfl⟩
            · rw [if_pos c9] at h
              refine jj_iconst d_Mo_wrong_155 jc_i_2 ?_
              refine jj_goto (tgt := 160) d_Mo_wrong_156 rfl ?_
              cases h
              exact jj_ireturn d_Mo_wrong_160 rfl ⟨rfl, rfl⟩
        · rw [if_pos c4] at h
          refine jj_aload_n d_Mo_wrong_110 rfl ?_
          refine jj_getR d_Mo_wrong_111 fk_Mo_25 (sh_Mo h_this).2 (sh_Mo h_this).1 rfl ?_
          refine jj_iload_n d_Mo_wrong_114 rfl ?_
          obtain ⟨i10, h⟩ := jj_gt h
          refine jj_iaload d_Mo_wrong_115 rfl (ar_Mo_stackValue h_this).1 (ar_Mo_stackValue h_this).2 (jj_inn i10) rfl ?_
          refine jj_iconst d_Mo_wrong_116 jc_i_0 ?_
          refine jj_bipush d_Mo_wrong_117 jc_b_8 ?_
          obtain ⟨r11, e11, h⟩ := jj_b1o h
          refine jj_callSi (as := [.int (x (this + 6) (Int32.toNatClampNeg a2)), .int 0, .int 8]) (c_Mo_within (d := d + 0)  e11) d_Mo_wrong_119 ck_Mo_47 rfl rfl (Nat.le_of_ble_eq_true rfl) ?_
          refine jj_if_eq (tgt := 138) d_Mo_wrong_122 rfl (fun c12 => ?_) (fun c12 => ?_)
          · rw [if_pos c12] at h
            refine jj_iconst d_Mo_wrong_138 jc_i_5 ?_
            cases h
            exact jj_ireturn d_Mo_wrong_139 rfl ⟨rfl, rfl⟩
          · rw [if_neg c12] at h
            refine jj_aload_n d_Mo_wrong_125 rfl ?_
            refine jj_getI d_Mo_wrong_126 fk_Mo_204 (sh_Mo h_this).2 (sh_Mo h_this).1 rfl rfl ?_
            refine jj_bipush d_Mo_wrong_129 jc_b_8 ?_
            refine jj_ic_ge (tgt := 138) d_Mo_wrong_131 rfl (fun c13 => ?_) (fun c13 => ?_)
            · rw [if_pos c13] at h
              refine jj_iconst d_Mo_wrong_138 jc_i_5 ?_
              cases h
              exact jj_ireturn d_Mo_wrong_139 rfl ⟨rfl, rfl⟩
            · rw [if_neg c13] at h
              refine jj_iconst d_Mo_wrong_134 jc_i_m1 ?_
              refine jj_goto (tgt := 139) d_Mo_wrong_135 rfl ?_
              cases h
              exact jj_ireturn d_Mo_wrong_139 rfl ⟨rfl, rfl⟩
      · rw [if_pos c3] at h
        refine jj_aload_n d_Mo_wrong_87 rfl ?_
        refine jj_getR d_Mo_wrong_88 fk_Mo_22 (sh_Mo h_this).2 (sh_Mo h_this).1 rfl ?_
        refine jj_iload_n d_Mo_wrong_91 rfl ?_
        obtain ⟨i14, h⟩ := jj_gt h
        refine jj_iaload d_Mo_wrong_92 rfl (ar_Mo_stackKind h_this).1 (ar_Mo_stackKind h_this).2 (jj_inn i14) rfl ?_
        refine jj_iconst d_Mo_wrong_93 jc_i_3 ?_
        refine jj_ic_ne (tgt := 101) d_Mo_wrong_94 rfl (fun c15 => ?_) (fun c15 => ?_)
        · rw [if_neg c15] at h
          refine jj_iconst d_Mo_wrong_101 jc_i_m1 ?_
          cases h
          exact jj_ireturn d_Mo_wrong_102 rfl ⟨rfl, rfl⟩
        · rw [if_pos c15] at h
          refine jj_iconst d_Mo_wrong_97 jc_i_4 ?_
          refine jj_goto (tgt := 102) d_Mo_wrong_98 rfl ?_
          cases h
          exact jj_ireturn d_Mo_wrong_102 rfl ⟨rfl, rfl⟩
    · rw [if_pos c2] at h
      exact jj_J.sub (t_Mo_wrong_12 h_this h) (fun i v hi => jj_mask_ok [true, true, true, false, false] hi)
theorem c_Mo_wrong {X : jj_X} {d : Nat} {this : Nat} {a1 : Int32} {a2 : Int32} (h_this : o_Mo this) {x : jj_Mem} {q : Int32 × jj_Mem} (h : f_Mo_wrong this a1 a2 x = some q) : jj_Met Y0 X (d + 1) m_Mo_wrong [.ref this, .int a1, .int a2] x (jp_i q) :=
  jj_metp 2 (lo := [some (.ref this), some (.int a1), some (.int a2), none, none]) rfl (Nat.le_of_ble_eq_true rfl) rfl (t_Mo_wrong_0 h_this h)
def sc_Mo_bytes : Nat → Option (Nat × (List Int32 → Option Int32)) := fun k => match k with
  | 51 => some (1, fun l => match l with | [b0] => s_Mo_jumps b0 | _ => none)
  | 55 => some (1, fun l => match l with | [b0] => s_Mo_names b0 | _ => none)
  | 58 => some (1, fun l => match l with | [b0] => s_Mo_returns b0 | _ => none)
  | _ => none
def s_Mo_bytes (a1 : Int32) : Option Int32 := se_run false 2 (sc_Mo_bytes) (se_code m_Mo_bytes.2.1) 400 0 [a1] []
theorem c_Mo_bytes {X : jj_X} {d : Nat} {a1 : Int32} {x : jj_Mem} {v : Int32} (h : s_Mo_bytes a1 = some v) : jj_Met Y0 X (d + 2) m_Mo_bytes [.int a1] x (jp_i (v, x)) := by
  refine jj_metp 1 (lo := [some (.int a1), none]) rfl (Nat.le_of_ble_eq_true rfl) rfl ?_
  refine jj_J.sub (se_sound (Y := Y0) (X := X) (D := d + 2) (M := m_Mo_bytes) (x := x) rfl rfl (fun _ _ h => se_code_ok h) ?_ 400 0 [a1] [] v h) (fun i u hi => jj_pad 1 hi)
  intro idx n g hc
  unfold sc_Mo_bytes at hc
  split at hc
  · cases hc
    refine ⟨d + 1, m_Mo_jumps, rfl, Or.inl ck_Mo_51, fun as w hl hg => ?_⟩
    obtain ⟨b0, rfl⟩ := jj_l1 hl
    exact c_Mo_jumps (d := d + 0) hg
  · cases hc
    refine ⟨d + 1, m_Mo_names, rfl, Or.inl ck_Mo_55, fun as w hl hg => ?_⟩
    obtain ⟨b0, rfl⟩ := jj_l1 hl
    exact c_Mo_names (d := d + 1) hg
  · cases hc
    refine ⟨d + 1, m_Mo_returns, rfl, Or.inl ck_Mo_58, fun as w hl hg => ?_⟩
    obtain ⟨b0, rfl⟩ := jj_l1 hl
    exact c_Mo_returns (d := d + 1) hg
  · cases hc
def k_Mo_gives_78  (x : jj_Mem) : Option (Int32 × jj_Mem) :=
  some (1, x)
set_option maxHeartbeats 2000000 in
theorem t_Mo_gives_78 {X : jj_X} {d : Nat}   {x : jj_Mem} {q : Int32 × jj_Mem} (h : k_Mo_gives_78  x = some q) : jj_J Y0 X (d + 2) m_Mo_gives 78 [none, none, none] [] x (jp_i q) := by
  unfold k_Mo_gives_78 at h
  refine jj_iconst d_Mo_gives_78 jc_i_1 ?_
  refine jj_goto (tgt := 83) d_Mo_gives_79 rfl ?_
  cases h
  exact jj_ireturn d_Mo_gives_83 rfl ⟨rfl, rfl⟩
def k_Mo_gives_61  (x : jj_Mem) : Option (Int32 × jj_Mem) :=
  some (2, x)
set_option maxHeartbeats 2000000 in
theorem t_Mo_gives_61 {X : jj_X} {d : Nat}   {x : jj_Mem} {q : Int32 × jj_Mem} (h : k_Mo_gives_61  x = some q) : jj_J Y0 X (d + 2) m_Mo_gives 61 [none, none, none] [] x (jp_i q) := by
  unfold k_Mo_gives_61 at h
  refine jj_iconst d_Mo_gives_61 jc_i_2 ?_
  refine jj_goto (tgt := 83) d_Mo_gives_62 rfl ?_
  cases h
  exact jj_ireturn d_Mo_gives_83 rfl ⟨rfl, rfl⟩
def f_Mo_gives (this : Nat) (a1 : Int32) (x : jj_Mem) : Option (Int32 × jj_Mem) :=
  if jj_inb ((x this 13) + a1) 240 = true then (if (x (this + 2) (Int32.toNatClampNeg ((x this 13) + a1))) = 184 then if jj_inb (((x this 13) + a1) + 1) 240 = true then jj_b2 (f_Mo_methodAt this (x (this + 2) (Int32.toNatClampNeg (((x this 13) + a1) + 1))) x) (fun r9 x9 => jj_b2 (f_Mo_returnsOf this r9 x9) (fun r10 x10 => (if r10 ≤ 0 then some (0, x10) else some (1, x10)))) else none else (if (x (this + 2) (Int32.toNatClampNeg ((x this 13) + a1))) = 89 then k_Mo_gives_61  x else (if (x (this + 2) (Int32.toNatClampNeg ((x this 13) + a1))) = 95 then k_Mo_gives_61  x else (if (x (this + 2) (Int32.toNatClampNeg ((x this 13) + a1))) = 25 then k_Mo_gives_78  x else jj_b1 (s_Mo_puts (x (this + 2) (Int32.toNatClampNeg ((x this 13) + a1)))) (fun r6 => (if r6 ≤ 0 then some (0, x) else k_Mo_gives_78  x)))))) else none
set_option maxHeartbeats 2000000 in
theorem t_Mo_gives_0 {X : jj_X} {d : Nat} {this : Nat} {a1 : Int32} (h_this : o_Mo this) {x : jj_Mem} {q : Int32 × jj_Mem} (h : f_Mo_gives this a1 x = some q) : jj_J Y0 X (d + 2) m_Mo_gives 0 [some (.ref this), some (.int a1), none] [] x (jp_i q) := by
  unfold f_Mo_gives at h
  refine jj_aload_n d_Mo_gives_0 rfl ?_
  refine jj_getR d_Mo_gives_1 fk_Mo_13 (sh_Mo h_this).2 (sh_Mo h_this).1 rfl ?_
  refine jj_aload_n d_Mo_gives_4 rfl ?_
  refine jj_getI d_Mo_gives_5 fk_Mo_139 (sh_Mo h_this).2 (sh_Mo h_this).1 rfl rfl ?_
  refine jj_iload_n d_Mo_gives_8 rfl ?_
  refine jj_iadd d_Mo_gives_9 ?_
  obtain ⟨i1, h⟩ := jj_gt h
  refine jj_iaload d_Mo_gives_10 rfl (ar_Mo_kept h_this).1 (ar_Mo_kept h_this).2 (jj_inn i1) rfl ?_
  refine jj_istore_n (lo' := [_, _, _]) d_Mo_gives_11 rfl (by decide) rfl ?_
  refine jj_iload_n d_Mo_gives_12 rfl ?_
  refine jj_sipush d_Mo_gives_13 jc_s_184 ?_
  refine jj_ic_ne (tgt := 49) d_Mo_gives_16 rfl (fun c2 => ?_) (fun c2 => ?_)
  · rw [if_neg c2] at h
    refine jj_iload_n d_Mo_gives_49 rfl ?_
    refine jj_bipush d_Mo_gives_50 jc_b_89 ?_
    refine jj_ic_eq (tgt := 61) d_Mo_gives_52 rfl (fun c3 => ?_) (fun c3 => ?_)
    · rw [if_pos c3] at h
      exact jj_J.sub (t_Mo_gives_61  h) (fun i v hi => jj_mask_ok [false, false, false] hi)
    · rw [if_neg c3] at h
      refine jj_iload_n d_Mo_gives_55 rfl ?_
      refine jj_bipush d_Mo_gives_56 jc_b_95 ?_
      refine jj_ic_ne (tgt := 65) d_Mo_gives_58 rfl (fun c4 => ?_) (fun c4 => ?_)
      · rw [if_neg c4] at h
        refine jj_iload_n d_Mo_gives_65 rfl ?_
        refine jj_bipush d_Mo_gives_66 jc_b_25 ?_
        refine jj_ic_eq (tgt := 78) d_Mo_gives_68 rfl (fun c5 => ?_) (fun c5 => ?_)
        · rw [if_pos c5] at h
          exact jj_J.sub (t_Mo_gives_78  h) (fun i v hi => jj_mask_ok [false, false, false] hi)
        · rw [if_neg c5] at h
          refine jj_iload_n d_Mo_gives_71 rfl ?_
          obtain ⟨r6, e6, h⟩ := jj_b1o h
          refine jj_callSi (as := [.int (x (this + 2) (Int32.toNatClampNeg ((x this 13) + a1)))]) (c_Mo_puts (d := d + 1)  e6) d_Mo_gives_72 ck_Mo_151 rfl rfl (Nat.le_of_ble_eq_true rfl) ?_
          refine jj_if_le (tgt := 82) d_Mo_gives_75 rfl (fun c7 => ?_) (fun c7 => ?_)
          · rw [if_pos c7] at h
            refine jj_iconst d_Mo_gives_82 jc_i_0 ?_
            cases h
            exact jj_ireturn d_Mo_gives_83 rfl ⟨rfl, rfl⟩
          · rw [if_neg c7] at h
            exact jj_J.sub (t_Mo_gives_78  h) (fun i v hi => jj_mask_ok [false, false, false] hi)
      · rw [if_pos c4] at h
        exact jj_J.sub (t_Mo_gives_61  h) (fun i v hi => jj_mask_ok [false, false, false] hi)
  · rw [if_pos c2] at h
    refine jj_aload_n d_Mo_gives_19 rfl ?_
    refine jj_aload_n d_Mo_gives_20 rfl ?_
    refine jj_aload_n d_Mo_gives_21 rfl ?_
    refine jj_getR d_Mo_gives_22 fk_Mo_13 (sh_Mo h_this).2 (sh_Mo h_this).1 rfl ?_
    refine jj_aload_n d_Mo_gives_25 rfl ?_
    refine jj_getI d_Mo_gives_26 fk_Mo_139 (sh_Mo h_this).2 (sh_Mo h_this).1 rfl rfl ?_
    refine jj_iload_n d_Mo_gives_29 rfl ?_
    refine jj_iadd d_Mo_gives_30 ?_
    refine jj_iconst d_Mo_gives_31 jc_i_1 ?_
    refine jj_iadd d_Mo_gives_32 ?_
    obtain ⟨i8, h⟩ := jj_gt h
    refine jj_iaload d_Mo_gives_33 rfl (ar_Mo_kept h_this).1 (ar_Mo_kept h_this).2 (jj_inn i8) rfl ?_
    obtain ⟨r9, x9, e9, h⟩ := jj_b2o h
    refine jj_callVi (as := [.int (x (this + 2) (Int32.toNatClampNeg (((x this 13) + a1) + 1)))]) (c_Mo_methodAt (d := d + 0) h_this e9) d_Mo_gives_34 ck_Mo_121 (sh_Mo h_this).2 (sh_Mo h_this).1 ⟨_, rfl, rfl⟩ rfl rfl (Nat.le_of_ble_eq_true rfl) ?_
    obtain ⟨r10, x10, e10, h⟩ := jj_b2o h
    refine jj_callVi (as := [.int r9]) (c_Mo_returnsOf (d := d + 1) h_this e10) d_Mo_gives_37 ck_Mo_148 (sh_Mo h_this).2 (sh_Mo h_this).1 ⟨_, rfl, rfl⟩ rfl rfl (Nat.le_of_ble_eq_true rfl) ?_
    refine jj_if_le (tgt := 47) d_Mo_gives_40 rfl (fun c11 => ?_) (fun c11 => ?_)
    · rw [if_pos c11] at h
      refine jj_iconst d_Mo_gives_47 jc_i_0 ?_
      cases h
      exact jj_ireturn d_Mo_gives_48 rfl ⟨rfl, rfl⟩
    · rw [if_neg c11] at h
      refine jj_iconst d_Mo_gives_43 jc_i_1 ?_
      refine jj_goto (tgt := 48) d_Mo_gives_44 rfl ?_
      cases h
      exact jj_ireturn d_Mo_gives_48 rfl ⟨rfl, rfl⟩
theorem c_Mo_gives {X : jj_X} {d : Nat} {this : Nat} {a1 : Int32} (h_this : o_Mo this) {x : jj_Mem} {q : Int32 × jj_Mem} (h : f_Mo_gives this a1 x = some q) : jj_Met Y0 X (d + 2) m_Mo_gives [.ref this, .int a1] x (jp_i q) :=
  jj_metp 1 (lo := [some (.ref this), some (.int a1), none]) rfl (Nat.le_of_ble_eq_true rfl) rfl (t_Mo_gives_0 h_this h)
def f_Mo_needs (this : Nat) (a1 : Int32) (a2 : Int32) (x : jj_Mem) : Option (Int32 × jj_Mem) :=
  if jj_inb ((x this 13) + a1) 240 = true then (if (x (this + 2) (Int32.toNatClampNeg ((x this 13) + a1))) = 184 then if jj_inb (((x this 13) + a1) + 1) 240 = true then jj_b2 (f_Mo_methodAt this (x (this + 2) (Int32.toNatClampNeg (((x this 13) + a1) + 1))) x) (fun r4 x4 => if jj_inb r4 240 = true then (if (x4 (this + 2) (Int32.toNatClampNeg r4)) ≤ a2 then some (0, x4) else if jj_inb r4 240 = true then if jj_inb ((r4 + (x4 (this + 2) (Int32.toNatClampNeg r4))) - a2) 240 = true then some ((x4 (this + 2) (Int32.toNatClampNeg ((r4 + (x4 (this + 2) (Int32.toNatClampNeg r4))) - a2))), x4) else none else none) else none) else none else jj_b1 (s_Mo_need (x (this + 2) (Int32.toNatClampNeg ((x this 13) + a1))) a2) (fun r9 => some (r9, x))) else none
set_option maxHeartbeats 2000000 in
theorem t_Mo_needs_0 {X : jj_X} {d : Nat} {this : Nat} {a1 : Int32} {a2 : Int32} (h_this : o_Mo this) {x : jj_Mem} {q : Int32 × jj_Mem} (h : f_Mo_needs this a1 a2 x = some q) : jj_J Y0 X (d + 2) m_Mo_needs 0 [some (.ref this), some (.int a1), some (.int a2), none, none] [] x (jp_i q) := by
  unfold f_Mo_needs at h
  refine jj_aload_n d_Mo_needs_0 rfl ?_
  refine jj_getR d_Mo_needs_1 fk_Mo_13 (sh_Mo h_this).2 (sh_Mo h_this).1 rfl ?_
  refine jj_aload_n d_Mo_needs_4 rfl ?_
  refine jj_getI d_Mo_needs_5 fk_Mo_139 (sh_Mo h_this).2 (sh_Mo h_this).1 rfl rfl ?_
  refine jj_iload_n d_Mo_needs_8 rfl ?_
  refine jj_iadd d_Mo_needs_9 ?_
  obtain ⟨i1, h⟩ := jj_gt h
  refine jj_iaload d_Mo_needs_10 rfl (ar_Mo_kept h_this).1 (ar_Mo_kept h_this).2 (jj_inn i1) rfl ?_
  refine jj_istore_n (lo' := [_, _, _, _, _]) d_Mo_needs_11 rfl (by decide) rfl ?_
  refine jj_iload_n d_Mo_needs_12 rfl ?_
  refine jj_sipush d_Mo_needs_13 jc_s_184 ?_
  refine jj_ic_eq (tgt := 25) d_Mo_needs_16 rfl (fun c2 => ?_) (fun c2 => ?_)
  · rw [if_pos c2] at h
    refine jj_aload_n d_Mo_needs_25 rfl ?_
    refine jj_aload_n d_Mo_needs_26 rfl ?_
    refine jj_getR d_Mo_needs_27 fk_Mo_13 (sh_Mo h_this).2 (sh_Mo h_this).1 rfl ?_
    refine jj_aload_n d_Mo_needs_30 rfl ?_
    refine jj_getI d_Mo_needs_31 fk_Mo_139 (sh_Mo h_this).2 (sh_Mo h_this).1 rfl rfl ?_
    refine jj_iload_n d_Mo_needs_34 rfl ?_
    refine jj_iadd d_Mo_needs_35 ?_
    refine jj_iconst d_Mo_needs_36 jc_i_1 ?_
    refine jj_iadd d_Mo_needs_37 ?_
    obtain ⟨i3, h⟩ := jj_gt h
    refine jj_iaload d_Mo_needs_38 rfl (ar_Mo_kept h_this).1 (ar_Mo_kept h_this).2 (jj_inn i3) rfl ?_
    obtain ⟨r4, x4, e4, h⟩ := jj_b2o h
    refine jj_callVi (as := [.int (x (this + 2) (Int32.toNatClampNeg (((x this 13) + a1) + 1)))]) (c_Mo_methodAt (d := d + 0) h_this e4) d_Mo_needs_39 ck_Mo_121 (sh_Mo h_this).2 (sh_Mo h_this).1 ⟨_, rfl, rfl⟩ rfl rfl (Nat.le_of_ble_eq_true rfl) ?_
    refine jj_istore (lo' := [_, _, _, _, _]) d_Mo_needs_42 rfl (by decide) rfl ?_
    refine jj_iload_n d_Mo_needs_44 rfl ?_
    refine jj_aload_n d_Mo_needs_45 rfl ?_
    refine jj_getR d_Mo_needs_46 fk_Mo_13 (sh_Mo h_this).2 (sh_Mo h_this).1 rfl ?_
    refine jj_iload d_Mo_needs_49 rfl ?_
    obtain ⟨i5, h⟩ := jj_gt h
    refine jj_iaload d_Mo_needs_51 rfl (ar_Mo_kept h_this).1 (ar_Mo_kept h_this).2 (jj_inn i5) rfl ?_
    refine jj_ic_ge (tgt := 75) d_Mo_needs_52 rfl (fun c6 => ?_) (fun c6 => ?_)
    · rw [if_pos c6] at h
      refine jj_iconst d_Mo_needs_75 jc_i_0 ?_
      cases h
      exact jj_ireturn d_Mo_needs_76 rfl ⟨rfl, rfl⟩
    · rw [if_neg c6] at h
      refine jj_aload_n d_Mo_needs_55 rfl ?_
      refine jj_getR d_Mo_needs_56 fk_Mo_13 (sh_Mo h_this).2 (sh_Mo h_this).1 rfl ?_
      refine jj_iload d_Mo_needs_59 rfl ?_
      refine jj_aload_n d_Mo_needs_61 rfl ?_
      refine jj_getR d_Mo_needs_62 fk_Mo_13 (sh_Mo h_this).2 (sh_Mo h_this).1 rfl ?_
      refine jj_iload d_Mo_needs_65 rfl ?_
      obtain ⟨i7, h⟩ := jj_gt h
      refine jj_iaload d_Mo_needs_67 rfl (ar_Mo_kept h_this).1 (ar_Mo_kept h_this).2 (jj_inn i7) rfl ?_
      refine jj_iadd d_Mo_needs_68 ?_
      refine jj_iload_n d_Mo_needs_69 rfl ?_
      refine jj_isub d_Mo_needs_70 ?_
      obtain ⟨i8, h⟩ := jj_gt h
      refine jj_iaload d_Mo_needs_71 rfl (ar_Mo_kept h_this).1 (ar_Mo_kept h_this).2 (jj_inn i8) rfl ?_
      refine jj_goto (tgt := 76) d_Mo_needs_72 rfl ?_
      cases h
      exact jj_ireturn d_Mo_needs_76 rfl ⟨rfl, rfl⟩
  · rw [if_neg c2] at h
    refine jj_iload_n d_Mo_needs_19 rfl ?_
    refine jj_iload_n d_Mo_needs_20 rfl ?_
    obtain ⟨r9, e9, h⟩ := jj_b1o h
    refine jj_callSi (as := [.int (x (this + 2) (Int32.toNatClampNeg ((x this 13) + a1))), .int a2]) (c_Mo_need (d := d + 0)  e9) d_Mo_needs_21 ck_Mo_142 rfl rfl (Nat.le_of_ble_eq_true rfl) ?_
    cases h
    exact jj_ireturn d_Mo_needs_24 rfl ⟨rfl, rfl⟩
theorem c_Mo_needs {X : jj_X} {d : Nat} {this : Nat} {a1 : Int32} {a2 : Int32} (h_this : o_Mo this) {x : jj_Mem} {q : Int32 × jj_Mem} (h : f_Mo_needs this a1 a2 x = some q) : jj_Met Y0 X (d + 2) m_Mo_needs [.ref this, .int a1, .int a2] x (jp_i q) :=
  jj_metp 2 (lo := [some (.ref this), some (.int a1), some (.int a2), none, none]) rfl (Nat.le_of_ble_eq_true rfl) rfl (t_Mo_needs_0 h_this h)
