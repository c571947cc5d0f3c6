def k_Mo_passes_38 (l0 : Nat) (l1 : Int32) (x : jj_Mem) : Option (Int32 × jj_Mem) :=
  (if (x l0 22) = 0 then some (0, x) else jj_b2 (f_Mo_can l0 0 l1 x) (fun r2 x2 => (if r2 = 0 then some (0, x2) else jj_b1 (f_Mo_pass l0 l1 x2) (fun x4 => if jj_inb ((x4 l0 13) + l1) 240 = true then jj_b1 (s_Mo_jumps (x4 (l0 + 2) (Int32.toNatClampNeg ((x4 l0 13) + l1)))) (fun r6 => (if r6 = 0 then some (1, x4) else jj_b2 (f_Mo_target l0 l1 x4) (fun r8 x8 => jj_b2 (f_Mo_frame l0 r8 0 x8) (fun r9 x9 => (if r9 < 0 then some (0, x9) else jj_b2 (f_Mo_fits l0 r9 x9) (fun r11 x11 => (if r11 = 0 then some (0, x11) else some (1, x11)))))))) else none))))
set_option maxHeartbeats 2000000 in
theorem t_Mo_passes_38 {X : jj_X} {d : Nat} {l0 : Nat} {l1 : Int32} (h_l0 : o_Mo l0) {x : jj_Mem} {q : Int32 × jj_Mem} (h : k_Mo_passes_38 l0 l1 x = some q) : jj_J Y0 X (d + 6) m_Mo_passes 38 [some (.ref l0), some (.int l1), none, none] [] x (jp_i q) := by
  unfold k_Mo_passes_38 at h
  refine jj_aload_n d_Mo_passes_38 rfl ?_
  refine jj_getI d_Mo_passes_39 fk_Mo_163 (sh_Mo h_l0).2 (sh_Mo h_l0).1 rfl rfl ?_
  refine jj_if_eq (tgt := 54) d_Mo_passes_42 rfl (fun c1 => ?_) (fun c1 => ?_)
  · rw [if_pos c1] at h
    refine jj_iconst d_Mo_passes_54 jc_i_0 ?_
    cases h
    exact jj_zreturn d_Mo_passes_55 rfl (Or.inl rfl) ⟨rfl, rfl⟩
  · rw [if_neg c1] at h
    refine jj_aload_n d_Mo_passes_45 rfl ?_
    refine jj_iconst d_Mo_passes_46 jc_i_0 ?_
    refine jj_iload_n d_Mo_passes_47 rfl ?_
    obtain ⟨r2, x2, e2, h⟩ := jj_b2o h
    refine jj_callVi (as := [.int 0, .int l1]) (c_Mo_can (d := d + 1) h_l0 e2) d_Mo_passes_48 ck_Mo_189 (sh_Mo h_l0).2 (sh_Mo h_l0).1 ⟨_, rfl, rfl⟩ rfl rfl (Nat.le_of_ble_eq_true rfl) ?_
    refine jj_if_ne (tgt := 56) d_Mo_passes_51 rfl (fun c3 => ?_) (fun c3 => ?_)
    · rw [if_neg c3] at h
      refine jj_aload_n d_Mo_passes_56 rfl ?_
      refine jj_iload_n d_Mo_passes_57 rfl ?_
      obtain ⟨x4, e4, h⟩ := jj_b1o h
      refine jj_callVv (as := [.int l1]) (c_Mo_pass (d := d + 1) h_l0 e4) d_Mo_passes_58 ck_Mo_180 (sh_Mo h_l0).2 (sh_Mo h_l0).1 ⟨_, rfl, rfl⟩ rfl rfl (Nat.le_of_ble_eq_true rfl) ?_
      refine jj_aload_n d_Mo_passes_61 rfl ?_
      refine jj_getR d_Mo_passes_62 fk_Mo_13 (sh_Mo h_l0).2 (sh_Mo h_l0).1 rfl ?_
      refine jj_aload_n d_Mo_passes_65 rfl ?_
      refine jj_getI d_Mo_passes_66 fk_Mo_139 (sh_Mo h_l0).2 (sh_Mo h_l0).1 rfl rfl ?_
      refine jj_iload_n d_Mo_passes_69 rfl ?_
      refine jj_iadd d_Mo_passes_70 ?_
      obtain ⟨i5, h⟩ := jj_gt h
      refine jj_iaload d_Mo_passes_71 rfl (ar_Mo_kept h_l0).1 (ar_Mo_kept h_l0).2 (jj_inn i5) rfl ?_
      obtain ⟨r6, e6, h⟩ := jj_b1o h
      refine jj_callSi (as := [.int (x4 (l0 + 2) (Int32.toNatClampNeg ((x4 l0 13) + l1)))]) (c_Mo_jumps (d := d + 4)  e6) d_Mo_passes_72 ck_Mo_51 rfl rfl (Nat.le_of_ble_eq_true rfl) ?_
      refine jj_if_ne (tgt := 80) d_Mo_passes_75 rfl (fun c7 => ?_) (fun c7 => ?_)
      · rw [if_neg c7] at h
        refine jj_aload_n d_Mo_passes_80 rfl ?_
        refine jj_aload_n d_Mo_passes_81 rfl ?_
        refine jj_iload_n d_Mo_passes_82 rfl ?_
        obtain ⟨r8, x8, e8, h⟩ := jj_b2o h
        refine jj_callVi (as := [.int l1]) (c_Mo_target (d := d + 4) h_l0 e8) d_Mo_passes_83 ck_Mo_192 (sh_Mo h_l0).2 (sh_Mo h_l0).1 ⟨_, rfl, rfl⟩ rfl rfl (Nat.le_of_ble_eq_true rfl) ?_
        refine jj_iconst d_Mo_passes_86 jc_i_0 ?_
        obtain ⟨r9, x9, e9, h⟩ := jj_b2o h
        refine jj_callVi (as := [.int r8, .int 0]) (c_Mo_frame (d := d + 5) h_l0 e9) d_Mo_passes_87 ck_Mo_173 (sh_Mo h_l0).2 (sh_Mo h_l0).1 ⟨_, rfl, rfl⟩ rfl rfl (Nat.le_of_ble_eq_true rfl) ?_
        refine jj_istore_n (lo' := [_, _, _, _]) d_Mo_passes_90 rfl (by decide) rfl ?_
        refine jj_iload_n d_Mo_passes_91 rfl ?_
        refine jj_if_lt (tgt := 107) d_Mo_passes_92 rfl (fun c10 => ?_) (fun c10 => ?_)
        · rw [if_pos c10] at h
          refine jj_iconst d_Mo_passes_107 jc_i_0 ?_
          cases h
          exact jj_zreturn d_Mo_passes_108 rfl (Or.inl rfl) ⟨rfl, rfl⟩
        · rw [if_neg c10] at h
          refine jj_aload_n d_Mo_passes_95 rfl ?_
          refine jj_iload_n d_Mo_passes_96 rfl ?_
          obtain ⟨r11, x11, e11, h⟩ := jj_b2o h
          refine jj_callVi (as := [.int r9]) (c_Mo_fits (d := d + 4) h_l0 e11) d_Mo_passes_97 ck_Mo_186 (sh_Mo h_l0).2 (sh_Mo h_l0).1 ⟨_, rfl, rfl⟩ rfl rfl (Nat.le_of_ble_eq_true rfl) ?_
          refine jj_if_eq (tgt := 107) d_Mo_passes_100 rfl (fun c12 => ?_) (fun c12 => ?_)
          · rw [if_pos c12] at h
            refine jj_iconst d_Mo_passes_107 jc_i_0 ?_
            cases h
            exact jj_zreturn d_Mo_passes_108 rfl (Or.inl rfl) ⟨rfl, rfl⟩
          · rw [if_neg c12] at h
            refine jj_iconst d_Mo_passes_103 jc_i_1 ?_
            refine jj_goto (tgt := 108) d_Mo_passes_104 rfl ?_
            cases h
            exact jj_zreturn d_Mo_passes_108 rfl (Or.inr rfl) ⟨rfl, rfl⟩
      · rw [if_pos c7] at h
        refine jj_iconst d_Mo_passes_78 jc_i_1 ?_
        cases h
        exact jj_zreturn d_Mo_passes_79 rfl (Or.inr rfl) ⟨rfl, rfl⟩
    · rw [if_pos c3] at h
      refine jj_iconst d_Mo_passes_54 jc_i_0 ?_
      cases h
      exact jj_zreturn d_Mo_passes_55 rfl (Or.inl rfl) ⟨rfl, rfl⟩
def k_Mo_passes_33 (l0 : Nat) (l1 : Int32) (l2 : Int32) (x : jj_Mem) : Option (Int32 × jj_Mem) :=
  jj_b1 (f_Mo_become l0 l2 x) (fun x1 => k_Mo_passes_38 l0 l1 x1)
set_option maxHeartbeats 2000000 in
theorem t_Mo_passes_33 {X : jj_X} {d : Nat} {l0 : Nat} {l1 : Int32} {l2 : Int32} (h_l0 : o_Mo l0) {x : jj_Mem} {q : Int32 × jj_Mem} (h : k_Mo_passes_33 l0 l1 l2 x = some q) : jj_J Y0 X (d + 6) m_Mo_passes 33 [some (.ref l0), some (.int l1), some (.int l2), none] [] x (jp_i q) := by
  unfold k_Mo_passes_33 at h
  refine jj_aload_n d_Mo_passes_33 rfl ?_
  refine jj_iload_n d_Mo_passes_34 rfl ?_
  obtain ⟨x1, e1, h⟩ := jj_b1o h
  refine jj_callVv (as := [.int l2]) (c_Mo_become (d := d + 5) h_l0 e1) d_Mo_passes_35 ck_Mo_177 (sh_Mo h_l0).2 (sh_Mo h_l0).1 ⟨_, rfl, rfl⟩ rfl rfl (Nat.le_of_ble_eq_true rfl) ?_
  exact jj_J.sub (t_Mo_passes_38 h_l0 h) (fun i v hi => jj_mask_ok [true, true, false, false] hi)
def f_Mo_passes (this : Nat) (a1 : Int32) (x : jj_Mem) : Option (Int32 × jj_Mem) :=
  jj_b1 (f_Mo_arrive this a1 x) (fun x1 => jj_b2 (f_Mo_frame this a1 0 x1) (fun r2 x2 => (if r2 < 0 then k_Mo_passes_38 this a1 x2 else (if (x2 this 22) = 0 then k_Mo_passes_33 this a1 r2 x2 else jj_b2 (f_Mo_fits this r2 x2) (fun r5 x5 => (if r5 = 0 then some (0, x5) else k_Mo_passes_33 this a1 r2 x5))))))
set_option maxHeartbeats 2000000 in
theorem t_Mo_passes_0 {X : jj_X} {d : Nat} {this : Nat} {a1 : Int32} (h_this : o_Mo this) {x : jj_Mem} {q : Int32 × jj_Mem} (h : f_Mo_passes this a1 x = some q) : jj_J Y0 X (d + 6) m_Mo_passes 0 [some (.ref this), some (.int a1), none, none] [] x (jp_i q) := by
  unfold f_Mo_passes at h
  refine jj_aload_n d_Mo_passes_0 rfl ?_
  refine jj_iload_n d_Mo_passes_1 rfl ?_
  obtain ⟨x1, e1, h⟩ := jj_b1o h
  refine jj_callVv (as := [.int a1]) (c_Mo_arrive (d := d + 0) h_this e1) d_Mo_passes_2 ck_Mo_183 (sh_Mo h_this).2 (sh_Mo h_this).1 ⟨_, rfl, rfl⟩ rfl rfl (Nat.le_of_ble_eq_true rfl) ?_
  refine jj_aload_n d_Mo_passes_5 rfl ?_
  refine jj_iload_n d_Mo_passes_6 rfl ?_
  refine jj_iconst d_Mo_passes_7 jc_i_0 ?_
  obtain ⟨r2, x2, e2, h⟩ := jj_b2o h
  refine jj_callVi (as := [.int a1, .int 0]) (c_Mo_frame (d := d + 5) h_this e2) d_Mo_passes_8 ck_Mo_173 (sh_Mo h_this).2 (sh_Mo h_this).1 ⟨_, rfl, rfl⟩ rfl rfl (Nat.le_of_ble_eq_true rfl) ?_
  refine jj_istore_n (lo' := [_, _, _, _]) d_Mo_passes_11 rfl (by decide) rfl ?_
  refine jj_iload_n d_Mo_passes_12 rfl ?_
  refine jj_if_lt (tgt := 38) d_Mo_passes_13 rfl (fun c3 => ?_) (fun c3 => ?_)
  · rw [if_pos c3] at h
    exact jj_J.sub (t_Mo_passes_38 h_this h) (fun i v hi => jj_mask_ok [true, true, false, false] hi)
  · rw [if_neg c3] at h
    refine jj_aload_n d_Mo_passes_16 rfl ?_
    refine jj_getI d_Mo_passes_17 fk_Mo_163 (sh_Mo h_this).2 (sh_Mo h_this).1 rfl rfl ?_
    refine jj_if_eq (tgt := 33) d_Mo_passes_20 rfl (fun c4 => ?_) (fun c4 => ?_)
    · rw [if_pos c4] at h
      exact jj_J.sub (t_Mo_passes_33 h_this h) (fun i v hi => jj_mask_ok [true, true, true, false] hi)
    · rw [if_neg c4] at h
      refine jj_aload_n d_Mo_passes_23 rfl ?_
      refine jj_iload_n d_Mo_passes_24 rfl ?_
      obtain ⟨r5, x5, e5, h⟩ := jj_b2o h
      refine jj_callVi (as := [.int r2]) (c_Mo_fits (d := d + 4) h_this e5) d_Mo_passes_25 ck_Mo_186 (sh_Mo h_this).2 (sh_Mo h_this).1 ⟨_, rfl, rfl⟩ rfl rfl (Nat.le_of_ble_eq_true rfl) ?_
      refine jj_if_ne (tgt := 33) d_Mo_passes_28 rfl (fun c6 => ?_) (fun c6 => ?_)
      · rw [if_neg c6] at h
        exact jj_J.sub (t_Mo_passes_33 h_this h) (fun i v hi => jj_mask_ok [true, true, true, false] hi)
      · rw [if_pos c6] at h
        refine jj_iconst d_Mo_passes_31 jc_i_0 ?_
        cases h
        exact jj_zreturn d_Mo_passes_32 rfl (Or.inl rfl) ⟨rfl, rfl⟩
theorem c_Mo_passes {X : jj_X} {d : Nat} {this : Nat} {a1 : Int32} (h_this : o_Mo this) {x : jj_Mem} {q : Int32 × jj_Mem} (h : f_Mo_passes this a1 x = some q) : jj_Met Y0 X (d + 6) m_Mo_passes [.ref this, .int a1] x (jp_i q) :=
  jj_metp 2 (lo := [some (.ref this), some (.int a1), none, none]) rfl (Nat.le_of_ble_eq_true rfl) rfl (t_Mo_passes_0 h_this h)
def k_Mo_read_77 (rec : Nat → List (Option Value) → jj_Mem → Option (Int32 × jj_Mem)) (l0 : Nat) (x : jj_Mem) : Option (Int32 × jj_Mem) :=
  (if (x l0 4) = 0 then (if (x l0 1) ≤ (x l0 3) then rec 115 [some (.ref l0), none, none, some (.int 0)] (jj_set (jj_set x l0 5 1) l0 6 ((jj_set x l0 5 1) l0 1)) else some ((x l0 3), x)) else some ((x l0 3), x))
set_option maxHeartbeats 2000000 in
theorem t_Mo_read_77 {X : jj_X} {d : Nat} (rec : Nat → List (Option Value) → jj_Mem → Option (Int32 × jj_Mem)) (hrec : ∀ (L : Nat) (lo : List (Option Value)) (x : jj_Mem) (q : Int32 × jj_Mem), rec L lo x = some q → jj_J Y0 X (d + 6) m_Mo_read L lo [] x (jp_i q)) {l0 : Nat} (h_l0 : o_Mo l0) {x : jj_Mem} {q : Int32 × jj_Mem} (h : k_Mo_read_77 rec l0 x = some q) : jj_J Y0 X (d + 6) m_Mo_read 77 [some (.ref l0), none, none, none] [] x (jp_i q) := by
  unfold k_Mo_read_77 at h
  refine jj_aload_n d_Mo_read_77 rfl ?_
  refine jj_getI d_Mo_read_78 fk_Mo_64 (sh_Mo h_l0).2 (sh_Mo h_l0).1 rfl rfl ?_
  refine jj_if_ne (tgt := 95) d_Mo_read_81 rfl (fun c1 => ?_) (fun c1 => ?_)
  · rw [if_neg c1] at h
    refine jj_aload_n d_Mo_read_95 rfl ?_
    refine jj_getI d_Mo_read_96 fk_Mo_68 (sh_Mo h_l0).2 (sh_Mo h_l0).1 rfl rfl ?_
    cases h
    exact jj_ireturn d_Mo_read_99 rfl ⟨rfl, rfl⟩
  · rw [if_pos c1] at h
    refine jj_aload_n d_Mo_read_84 rfl ?_
    refine jj_getI d_Mo_read_85 fk_Mo_68 (sh_Mo h_l0).2 (sh_Mo h_l0).1 rfl rfl ?_
    refine jj_aload_n d_Mo_read_88 rfl ?_
    refine jj_getI d_Mo_read_89 fk_Mo_61 (sh_Mo h_l0).2 (sh_Mo h_l0).1 rfl rfl ?_
    refine jj_ic_ge (tgt := 100) d_Mo_read_92 rfl (fun c2 => ?_) (fun c2 => ?_)
    · rw [if_pos c2] at h
      refine jj_aload_n d_Mo_read_100 rfl ?_
      refine jj_iconst d_Mo_read_101 jc_i_1 ?_
      refine jj_putZ d_Mo_read_102 pk_Mo_102 (sh_Mo h_l0).2 (sh_Mo h_l0).1 rfl (Or.inr rfl) ?_
      refine jj_aload_n d_Mo_read_105 rfl ?_
      refine jj_aload_n d_Mo_read_106 rfl ?_
      refine jj_getI d_Mo_read_107 fk_Mo_61 (sh_Mo h_l0).2 (sh_Mo h_l0).1 rfl rfl ?_
      refine jj_putI d_Mo_read_110 pk_Mo_105 (sh_Mo h_l0).2 (sh_Mo h_l0).1 rfl ?_
      refine jj_iconst d_Mo_read_113 jc_i_0 ?_
      refine jj_istore_n (lo' := [_, _, _, _]) d_Mo_read_114 rfl (by decide) rfl ?_
      exact jj_J.sub (hrec _ _ _ _ h) (fun i v hi => jj_mask_ok [true, false, false, true] hi)
    · rw [if_neg c2] at h
      refine jj_aload_n d_Mo_read_95 rfl ?_
      refine jj_getI d_Mo_read_96 fk_Mo_68 (sh_Mo h_l0).2 (sh_Mo h_l0).1 rfl rfl ?_
      cases h
      exact jj_ireturn d_Mo_read_99 rfl ⟨rfl, rfl⟩
def k_Mo_read_115 (rec : Nat → List (Option Value) → jj_Mem → Option (Int32 × jj_Mem)) (l0 : Nat) (l3 : Int32) (x : jj_Mem) : Option (Int32 × jj_Mem) :=
  (if (x l0 1) ≤ l3 then some ((-1), x) else if jj_inb l3 240 = true then if jj_inb l3 240 = true then rec 115 [some (.ref l0), none, none, some (.int (l3 + 1))] (jj_set x (l0 + 2) (Int32.toNatClampNeg l3) (x (l0 + 1) (Int32.toNatClampNeg l3))) else none else none)
set_option maxHeartbeats 2000000 in
theorem t_Mo_read_115 {X : jj_X} {d : Nat} (rec : Nat → List (Option Value) → jj_Mem → Option (Int32 × jj_Mem)) (hrec : ∀ (L : Nat) (lo : List (Option Value)) (x : jj_Mem) (q : Int32 × jj_Mem), rec L lo x = some q → jj_J Y0 X (d + 6) m_Mo_read L lo [] x (jp_i q)) {l0 : Nat} {l3 : Int32} (h_l0 : o_Mo l0) {x : jj_Mem} {q : Int32 × jj_Mem} (h : k_Mo_read_115 rec l0 l3 x = some q) : jj_J Y0 X (d + 6) m_Mo_read 115 [some (.ref l0), none, none, some (.int l3)] [] x (jp_i q) := by
  unfold k_Mo_read_115 at h
  refine jj_iload_n d_Mo_read_115 rfl ?_
  refine jj_aload_n d_Mo_read_116 rfl ?_
  refine jj_getI d_Mo_read_117 fk_Mo_61 (sh_Mo h_l0).2 (sh_Mo h_l0).1 rfl rfl ?_
  refine jj_ic_ge (tgt := 141) d_Mo_read_120 rfl (fun c1 => ?_) (fun c1 => ?_)
  · rw [if_pos c1] at h
    refine jj_iconst d_Mo_read_141 jc_i_m1 ?_
    cases h
    exact jj_ireturn d_Mo_read_142 rfl ⟨rfl, rfl⟩
  · rw [if_neg c1] at h
    refine jj_aload_n d_Mo_read_123 rfl ?_
    refine jj_getR d_Mo_read_124 fk_Mo_13 (sh_Mo h_l0).2 (sh_Mo h_l0).1 rfl ?_
    refine jj_iload_n d_Mo_read_127 rfl ?_
    refine jj_aload_n d_Mo_read_128 rfl ?_
    refine jj_getR d_Mo_read_129 fk_Mo_7 (sh_Mo h_l0).2 (sh_Mo h_l0).1 rfl ?_
    refine jj_iload_n d_Mo_read_132 rfl ?_
    obtain ⟨i2, h⟩ := jj_gt h
    refine jj_iaload d_Mo_read_133 rfl (ar_Mo_file h_l0).1 (ar_Mo_file h_l0).2 (jj_inn i2) rfl ?_
    obtain ⟨i3, h⟩ := jj_gt h
    refine jj_iastore d_Mo_read_134 rfl (ar_Mo_kept h_l0).1 (ar_Mo_kept h_l0).2 (jj_inn i3) ?_
    refine jj_iinc (lo' := [_, _, _, _]) (v := (l3 + 1)) d_Mo_read_135 rfl (jc_a_1 _) rfl (by decide) rfl ?_
    refine jj_goto (tgt := 115) d_Mo_read_138 rfl ?_
    exact jj_J.sub (hrec _ _ _ _ h) (fun i v hi => jj_mask_ok [true, false, false, true] hi)
def k_Mo_read_53 (rec : Nat → List (Option Value) → jj_Mem → Option (Int32 × jj_Mem)) (l0 : Nat) (l1 : Int32) (l2 : Int32) (l3 : Int32) (x : jj_Mem) : Option (Int32 × jj_Mem) :=
  (if l2 ≤ l3 then k_Mo_read_77 rec l0 x else (if (x l0 4) = 0 then jj_b1 (f_Mo_readMethod l0 l1 l2 x) (fun x3 => rec 53 [some (.ref l0), some (.int l1), some (.int l2), some (.int (l3 + 1))] x3) else k_Mo_read_77 rec l0 x))
set_option maxHeartbeats 2000000 in
theorem t_Mo_read_53 {X : jj_X} {d : Nat} (rec : Nat → List (Option Value) → jj_Mem → Option (Int32 × jj_Mem)) (hrec : ∀ (L : Nat) (lo : List (Option Value)) (x : jj_Mem) (q : Int32 × jj_Mem), rec L lo x = some q → jj_J Y0 X (d + 6) m_Mo_read L lo [] x (jp_i q)) {l0 : Nat} {l1 : Int32} {l2 : Int32} {l3 : Int32} (h_l0 : o_Mo l0) {x : jj_Mem} {q : Int32 × jj_Mem} (h : k_Mo_read_53 rec l0 l1 l2 l3 x = some q) : jj_J Y0 X (d + 6) m_Mo_read 53 [some (.ref l0), some (.int l1), some (.int l2), some (.int l3)] [] x (jp_i q) := by
  unfold k_Mo_read_53 at h
  refine jj_iload_n d_Mo_read_53 rfl ?_
  refine jj_iload_n d_Mo_read_54 rfl ?_
  refine jj_ic_ge (tgt := 77) d_Mo_read_55 rfl (fun c1 => ?_) (fun c1 => ?_)
  · rw [if_pos c1] at h
    exact jj_J.sub (t_Mo_read_77 rec hrec h_l0 h) (fun i v hi => jj_mask_ok [true, false, false, false] hi)
  · rw [if_neg c1] at h
    refine jj_aload_n d_Mo_read_58 rfl ?_
    refine jj_getI d_Mo_read_59 fk_Mo_64 (sh_Mo h_l0).2 (sh_Mo h_l0).1 rfl rfl ?_
    refine jj_if_ne (tgt := 77) d_Mo_read_62 rfl (fun c2 => ?_) (fun c2 => ?_)
    · rw [if_neg c2] at h
      exact jj_J.sub (t_Mo_read_77 rec hrec h_l0 h) (fun i v hi => jj_mask_ok [true, false, false, false] hi)
    · rw [if_pos c2] at h
      refine jj_aload_n d_Mo_read_65 rfl ?_
      refine jj_iload_n d_Mo_read_66 rfl ?_
      refine jj_iload_n d_Mo_read_67 rfl ?_
      obtain ⟨x3, e3, h⟩ := jj_b1o h
      refine jj_callVv (as := [.int l1, .int l2]) (c_Mo_readMethod (d := d + 0) h_l0 e3) d_Mo_read_68 ck_Mo_98 (sh_Mo h_l0).2 (sh_Mo h_l0).1 ⟨_, rfl, rfl⟩ rfl rfl (Nat.le_of_ble_eq_true rfl) ?_
      refine jj_iinc (lo' := [_, _, _, _]) (v := (l3 + 1)) d_Mo_read_71 rfl (jc_a_1 _) rfl (by decide) rfl ?_
      refine jj_goto (tgt := 53) d_Mo_read_74 rfl ?_
      exact jj_J.sub (hrec _ _ _ _ h) (fun i v hi => jj_mask_ok [true, true, true, true] hi)
def g_Mo_read : Nat → Nat → List (Option Value) → jj_Mem → Option (Int32 × jj_Mem)
  | 0, _, _, _ => none
  | f + 1, L, lo, x => match L, lo with
    | 53, [some (.ref l0), some (.int l1), some (.int l2), some (.int l3)] => if (bo_Mo l0) = true then k_Mo_read_53 (g_Mo_read f) l0 l1 l2 l3 x else none
    | 115, [some (.ref l0), none, none, some (.int l3)] => if (bo_Mo l0) = true then k_Mo_read_115 (g_Mo_read f) l0 l3 x else none
    | _, _ => none
set_option maxHeartbeats 2000000 in
theorem t_Mo_read_g {X : jj_X} {d : Nat} : ∀ (f L : Nat) (lo : List (Option Value)) (x : jj_Mem) (q : Int32 × jj_Mem), g_Mo_read f L lo x = some q → jj_J Y0 X (d + 6) m_Mo_read L lo [] x (jp_i q) := by
  intro f
  induction f with
  | zero => intro L lo x q h; simp [g_Mo_read] at h
  | succ f ih =>
    intro L lo x q h
    unfold g_Mo_read at h
    split at h
    · obtain ⟨i1, h⟩ := jj_gt h
      exact t_Mo_read_53 _ ih (ob_Mo i1) h
    · obtain ⟨i1, h⟩ := jj_gt h
      exact t_Mo_read_115 _ ih (ob_Mo i1) h
    · cases h
def k_Mo_read_0 (rec : Nat → List (Option Value) → jj_Mem → Option (Int32 × jj_Mem)) (this : Nat) (x : jj_Mem) : Option (Int32 × jj_Mem) :=
  jj_b1 (f_Mo_skip this 1 202 202 (jj_set (jj_set (jj_set x this 0 0) this 3 0) this 4 0)) (fun x1 => jj_b2 (f_Mo_next this 0 4 x1) (fun r2 x2 => jj_b1 (f_Mo_skip this (4 * r2) 0 255 x2) (fun x3 => jj_b2 (f_Mo_next this 1 4 x3) (fun r4 x4 => rec 53 [some (.ref this), some (.int r2), some (.int r4), some (.int 0)] x4))))
set_option maxHeartbeats 2000000 in
theorem t_Mo_read_0 {X : jj_X} {d : Nat} (rec : Nat → List (Option Value) → jj_Mem → Option (Int32 × jj_Mem)) (hrec : ∀ (L : Nat) (lo : List (Option Value)) (x : jj_Mem) (q : Int32 × jj_Mem), rec L lo x = some q → jj_J Y0 X (d + 6) m_Mo_read L lo [] x (jp_i q)) {this : Nat} (h_this : o_Mo this) {x : jj_Mem} {q : Int32 × jj_Mem} (h : k_Mo_read_0 rec this x = some q) : jj_J Y0 X (d + 6) m_Mo_read 0 [some (.ref this), none, none, none] [] x (jp_i q) := by
  unfold k_Mo_read_0 at h
  refine jj_aload_n d_Mo_read_0 rfl ?_
  refine jj_iconst d_Mo_read_1 jc_i_0 ?_
  refine jj_putI d_Mo_read_2 pk_Mo_43 (sh_Mo h_this).2 (sh_Mo h_this).1 rfl ?_
  refine jj_aload_n d_Mo_read_5 rfl ?_
  refine jj_iconst d_Mo_read_6 jc_i_0 ?_
  refine jj_putI d_Mo_read_7 pk_Mo_68 (sh_Mo h_this).2 (sh_Mo h_this).1 rfl ?_
  refine jj_aload_n d_Mo_read_10 rfl ?_
  refine jj_iconst d_Mo_read_11 jc_i_0 ?_
  refine jj_putZ d_Mo_read_12 pk_Mo_64 (sh_Mo h_this).2 (sh_Mo h_this).1 rfl (Or.inl rfl) ?_
  refine jj_aload_n d_Mo_read_15 rfl ?_
  refine jj_iconst d_Mo_read_16 jc_i_1 ?_
  refine jj_sipush d_Mo_read_17 jc_s_202 ?_
  refine jj_sipush d_Mo_read_20 jc_s_202 ?_
  obtain ⟨x1, e1, h⟩ := jj_b1o h
  refine jj_callVv (as := [.int 1, .int 202, .int 202]) (c_Mo_skip (d := d + 3) h_this e1) d_Mo_read_23 ck_Mo_79 (sh_Mo h_this).2 (sh_Mo h_this).1 ⟨_, rfl, rfl⟩ rfl rfl (Nat.le_of_ble_eq_true rfl) ?_
  refine jj_aload_n d_Mo_read_26 rfl ?_
  refine jj_iconst d_Mo_read_27 jc_i_0 ?_
  refine jj_iconst d_Mo_read_28 jc_i_4 ?_
  obtain ⟨r2, x2, e2, h⟩ := jj_b2o h
  refine jj_callVi (as := [.int 0, .int 4]) (c_Mo_next (d := d + 4) h_this e2) d_Mo_read_29 ck_Mo_71 (sh_Mo h_this).2 (sh_Mo h_this).1 ⟨_, rfl, rfl⟩ rfl rfl (Nat.le_of_ble_eq_true rfl) ?_
  refine jj_istore_n (lo' := [_, _, _, _]) d_Mo_read_32 rfl (by decide) rfl ?_
  refine jj_aload_n d_Mo_read_33 rfl ?_
  refine jj_iconst d_Mo_read_34 jc_i_4 ?_
  refine jj_iload_n d_Mo_read_35 rfl ?_
  refine jj_imul d_Mo_read_36 ?_
  refine jj_iconst d_Mo_read_37 jc_i_0 ?_
  refine jj_sipush d_Mo_read_38 jc_s_255 ?_
  obtain ⟨x3, e3, h⟩ := jj_b1o h
  refine jj_callVv (as := [.int (4 * r2), .int 0, .int 255]) (c_Mo_skip (d := d + 3) h_this e3) d_Mo_read_41 ck_Mo_79 (sh_Mo h_this).2 (sh_Mo h_this).1 ⟨_, rfl, rfl⟩ rfl rfl (Nat.le_of_ble_eq_true rfl) ?_
  refine jj_aload_n d_Mo_read_44 rfl ?_
  refine jj_iconst d_Mo_read_45 jc_i_1 ?_
  refine jj_iconst d_Mo_read_46 jc_i_4 ?_
  obtain ⟨r4, x4, e4, h⟩ := jj_b2o h
  refine jj_callVi (as := [.int 1, .int 4]) (c_Mo_next (d := d + 4) h_this e4) d_Mo_read_47 ck_Mo_71 (sh_Mo h_this).2 (sh_Mo h_this).1 ⟨_, rfl, rfl⟩ rfl rfl (Nat.le_of_ble_eq_true rfl) ?_
  refine jj_istore_n (lo' := [_, _, _, _]) d_Mo_read_50 rfl (by decide) rfl ?_
  refine jj_iconst d_Mo_read_51 jc_i_0 ?_
  refine jj_istore_n (lo' := [_, _, _, _]) d_Mo_read_52 rfl (by decide) rfl ?_
  exact jj_J.sub (hrec _ _ _ _ h) (fun i v hi => jj_mask_ok [true, true, true, true] hi)
def f_Mo_read (this : Nat) (x : jj_Mem) : Option (Int32 × jj_Mem) := k_Mo_read_0 (g_Mo_read 1000) this x
theorem c_Mo_read {X : jj_X} {d : Nat} {this : Nat} (h_this : o_Mo this) {x : jj_Mem} {q : Int32 × jj_Mem} (h : f_Mo_read this x = some q) : jj_Met Y0 X (d + 6) m_Mo_read [.ref this] x (jp_i q) :=
  jj_metp 3 (lo := [some (.ref this), none, none, none]) rfl (Nat.le_of_ble_eq_true rfl) rfl (t_Mo_read_0 _ (t_Mo_read_g 1000) h_this h)
def k_Mo_run_151 (rec : Nat → List (Option Value) → jj_Mem → Option (Int32 × jj_Mem)) (l0 : Nat) (l5 : Int32) (s0 : Nat) (s1 : Int32) (x : jj_Mem) : Option (Int32 × jj_Mem) :=
  rec 105 [some (.ref l0), none, none, none, none, some (.int l5)] (jj_set x s0 26 s1)
set_option maxHeartbeats 2000000 in
theorem t_Mo_run_151 {X : jj_X} {d : Nat} (rec : Nat → List (Option Value) → jj_Mem → Option (Int32 × jj_Mem)) (hrec : ∀ (L : Nat) (lo : List (Option Value)) (x : jj_Mem) (q : Int32 × jj_Mem), rec L lo x = some q → jj_J Y0 X (d + 6) m_Mo_run L lo [] x (jp_i q)) {l0 : Nat} {l5 : Int32} {s0 : Nat} {s1 : Int32} (h_l0 : o_Mo l0) (h_s0 : o_Mo s0) {x : jj_Mem} {q : Int32 × jj_Mem} (h : k_Mo_run_151 rec l0 l5 s0 s1 x = some q) : jj_J Y0 X (d + 6) m_Mo_run 151 [some (.ref l0), none, none, none, none, some (.int l5)] [.int s1, .ref s0] x (jp_i q) := by
  unfold k_Mo_run_151 at h
  refine jj_putI d_Mo_run_151 pk_Mo_212 (sh_Mo h_s0).2 (sh_Mo h_s0).1 rfl ?_
  refine jj_goto (tgt := 105) d_Mo_run_154 rfl ?_
  exact jj_J.sub (hrec _ _ _ _ h) (fun i v hi => jj_mask_ok [true, false, false, false, false, true] hi)
def k_Mo_run_130 (rec : Nat → List (Option Value) → jj_Mem → Option (Int32 × jj_Mem)) (l0 : Nat) (s0 : Int32) (x : jj_Mem) : Option (Int32 × jj_Mem) :=
  (if 0 < s0 then k_Mo_run_151 rec l0 s0 l0 (x l0 26) x else k_Mo_run_151 rec l0 s0 l0 ((x l0 26) + 1) x)
set_option maxHeartbeats 2000000 in
theorem t_Mo_run_130 {X : jj_X} {d : Nat} (rec : Nat → List (Option Value) → jj_Mem → Option (Int32 × jj_Mem)) (hrec : ∀ (L : Nat) (lo : List (Option Value)) (x : jj_Mem) (q : Int32 × jj_Mem), rec L lo x = some q → jj_J Y0 X (d + 6) m_Mo_run L lo [] x (jp_i q)) {l0 : Nat} {s0 : Int32} (h_l0 : o_Mo l0) {x : jj_Mem} {q : Int32 × jj_Mem} (h : k_Mo_run_130 rec l0 s0 x = some q) : jj_J Y0 X (d + 6) m_Mo_run 130 [some (.ref l0), none, none, none, none, none] [.int s0] x (jp_i q) := by
  unfold k_Mo_run_130 at h
  refine jj_istore (lo' := [_, _, _, _, _, _]) d_Mo_run_130 rfl (by decide) rfl ?_
  refine jj_aload_n d_Mo_run_132 rfl ?_
  refine jj_iload d_Mo_run_133 rfl ?_
  refine jj_if_gt (tgt := 147) d_Mo_run_135 rfl (fun c1 => ?_) (fun c1 => ?_)
  · rw [if_pos c1] at h
    refine jj_aload_n d_Mo_run_147 rfl ?_
    refine jj_getI d_Mo_run_148 fk_Mo_212 (sh_Mo h_l0).2 (sh_Mo h_l0).1 rfl rfl ?_
    exact jj_J.sub (t_Mo_run_151 rec hrec h_l0 h_l0 h) (fun i v hi => jj_mask_ok [true, false, false, false, false, true] hi)
  · rw [if_neg c1] at h
    refine jj_aload_n d_Mo_run_138 rfl ?_
    refine jj_getI d_Mo_run_139 fk_Mo_212 (sh_Mo h_l0).2 (sh_Mo h_l0).1 rfl rfl ?_
    refine jj_iconst d_Mo_run_142 jc_i_1 ?_
    refine jj_iadd d_Mo_run_143 ?_
    refine jj_goto (tgt := 151) d_Mo_run_144 rfl ?_
    exact jj_J.sub (t_Mo_run_151 rec hrec h_l0 h_l0 h) (fun i v hi => jj_mask_ok [true, false, false, false, false, true] hi)
def k_Mo_run_93 (rec : Nat → List (Option Value) → jj_Mem → Option (Int32 × jj_Mem)) (l0 : Nat) (l2 : Int32) (l3 : Int32) (l4 : Int32) (l5 : Int32) (s0 : Nat) (s1 : Int32) (s2 : Int32) (x : jj_Mem) : Option (Int32 × jj_Mem) :=
  jj_b1 (f_Mo_argue s0 s1 s2 x) (fun x1 => rec 60 [some (.ref l0), none, some (.int l2), some (.int l3), some (.int l4), some (.int (l5 + 1))] x1)
set_option maxHeartbeats 2000000 in
theorem t_Mo_run_93 {X : jj_X} {d : Nat} (rec : Nat → List (Option Value) → jj_Mem → Option (Int32 × jj_Mem)) (hrec : ∀ (L : Nat) (lo : List (Option Value)) (x : jj_Mem) (q : Int32 × jj_Mem), rec L lo x = some q → jj_J Y0 X (d + 6) m_Mo_run L lo [] x (jp_i q)) {l0 : Nat} {l2 : Int32} {l3 : Int32} {l4 : Int32} {l5 : Int32} {s0 : Nat} {s1 : Int32} {s2 : Int32} (h_l0 : o_Mo l0) (h_s0 : o_Mo s0) {x : jj_Mem} {q : Int32 × jj_Mem} (h : k_Mo_run_93 rec l0 l2 l3 l4 l5 s0 s1 s2 x = some q) : jj_J Y0 X (d + 6) m_Mo_run 93 [some (.ref l0), none, some (.int l2), some (.int l3), some (.int l4), some (.int l5)] [.int s2, .int s1, .ref s0] x (jp_i q) := by
  unfold k_Mo_run_93 at h
  obtain ⟨x1, e1, h⟩ := jj_b1o h
  refine jj_callVv (as := [.int s1, .int s2]) (c_Mo_argue (d := d + 4) h_s0 e1) d_Mo_run_93 ck_Mo_215 (sh_Mo h_s0).2 (sh_Mo h_s0).1 ⟨_, rfl, rfl⟩ rfl rfl (Nat.le_of_ble_eq_true rfl) ?_
  refine jj_iinc (lo' := [_, _, _, _, _, _]) (v := (l5 + 1)) d_Mo_run_96 rfl (jc_a_1 _) rfl (by decide) rfl ?_
  refine jj_goto (tgt := 60) d_Mo_run_99 rfl ?_
  exact jj_J.sub (hrec _ _ _ _ h) (fun i v hi => jj_mask_ok [true, false, true, true, true, true] hi)
def k_Mo_run_105 (rec : Nat → List (Option Value) → jj_Mem → Option (Int32 × jj_Mem)) (l0 : Nat) (l5 : Int32) (x : jj_Mem) : Option (Int32 × jj_Mem) :=
  (if l5 = (-1) then (if (x l0 26) = 200 then k_Mo_run_130 rec l0 6 x else jj_b2 (f_Mo_step l0 x) (fun r3 x3 => k_Mo_run_130 rec l0 r3 x3)) else some (l5, x))
set_option maxHeartbeats 2000000 in
theorem t_Mo_run_105 {X : jj_X} {d : Nat} (rec : Nat → List (Option Value) → jj_Mem → Option (Int32 × jj_Mem)) (hrec : ∀ (L : Nat) (lo : List (Option Value)) (x : jj_Mem) (q : Int32 × jj_Mem), rec L lo x = some q → jj_J Y0 X (d + 6) m_Mo_run L lo [] x (jp_i q)) {l0 : Nat} {l5 : Int32} (h_l0 : o_Mo l0) {x : jj_Mem} {q : Int32 × jj_Mem} (h : k_Mo_run_105 rec l0 l5 x = some q) : jj_J Y0 X (d + 6) m_Mo_run 105 [some (.ref l0), none, none, none, none, some (.int l5)] [] x (jp_i q) := by
  unfold k_Mo_run_105 at h
  refine jj_iload d_Mo_run_105 rfl ?_
  refine jj_iconst d_Mo_run_107 jc_i_m1 ?_
  refine jj_ic_ne (tgt := 157) d_Mo_run_108 rfl (fun c1 => ?_) (fun c1 => ?_)
  · rw [if_neg c1] at h
    refine jj_iload d_Mo_run_157 rfl ?_
    cases h
    exact jj_ireturn d_Mo_run_159 rfl ⟨rfl, rfl⟩
  · rw [if_pos c1] at h
    refine jj_aload_n d_Mo_run_111 rfl ?_
    refine jj_getI d_Mo_run_112 fk_Mo_212 (sh_Mo h_l0).2 (sh_Mo h_l0).1 rfl rfl ?_
    refine jj_sipush d_Mo_run_115 jc_s_200 ?_
    refine jj_ic_ne (tgt := 126) d_Mo_run_118 rfl (fun c2 => ?_) (fun c2 => ?_)
    · rw [if_neg c2] at h
      refine jj_aload_n d_Mo_run_126 rfl ?_
      obtain ⟨r3, x3, e3, h⟩ := jj_b2o h
      refine jj_callVi (as := []) (c_Mo_step (d := d + 0) h_l0 e3) d_Mo_run_127 ck_Mo_218 (sh_Mo h_l0).2 (sh_Mo h_l0).1 ⟨_, rfl, rfl⟩ rfl rfl (Nat.le_of_ble_eq_true rfl) ?_
      exact jj_J.sub (t_Mo_run_130 rec hrec h_l0 h) (fun i v hi => jj_mask_ok [true, false, false, false, false, false] hi)
    · rw [if_pos c2] at h
      refine jj_bipush d_Mo_run_121 jc_b_6 ?_
      refine jj_goto (tgt := 130) d_Mo_run_123 rfl ?_
      exact jj_J.sub (t_Mo_run_130 rec hrec h_l0 h) (fun i v hi => jj_mask_ok [true, false, false, false, false, false] hi)
def k_Mo_run_60 (rec : Nat → List (Option Value) → jj_Mem → Option (Int32 × jj_Mem)) (l0 : Nat) (l2 : Int32) (l3 : Int32) (l4 : Int32) (l5 : Int32) (x : jj_Mem) : Option (Int32 × jj_Mem) :=
  (if (x l0 9) ≤ l5 then rec 105 [some (.ref l0), none, none, none, none, some (.int (-1))] x else (if l5 = 0 then k_Mo_run_93 rec l0 l2 l3 l4 l5 l0 l5 l2 x else (if l5 = 1 then k_Mo_run_93 rec l0 l2 l3 l4 l5 l0 l5 l3 x else k_Mo_run_93 rec l0 l2 l3 l4 l5 l0 l5 l4 x)))
set_option maxHeartbeats 2000000 in
theorem t_Mo_run_60 {X : jj_X} {d : Nat} (rec : Nat → List (Option Value) → jj_Mem → Option (Int32 × jj_Mem)) (hrec : ∀ (L : Nat) (lo : List (Option Value)) (x : jj_Mem) (q : Int32 × jj_Mem), rec L lo x = some q → jj_J Y0 X (d + 6) m_Mo_run L lo [] x (jp_i q)) {l0 : Nat} {l2 : Int32} {l3 : Int32} {l4 : Int32} {l5 : Int32} (h_l0 : o_Mo l0) {x : jj_Mem} {q : Int32 × jj_Mem} (h : k_Mo_run_60 rec l0 l2 l3 l4 l5 x = some q) : jj_J Y0 X (d + 6) m_Mo_run 60 [some (.ref l0), none, some (.int l2), some (.int l3), some (.int l4), some (.int l5)] [] x (jp_i q) := by
  unfold k_Mo_run_60 at h
  refine jj_iload d_Mo_run_60 rfl ?_
  refine jj_aload_n d_Mo_run_62 rfl ?_
  refine jj_getI d_Mo_run_63 fk_Mo_127 (sh_Mo h_l0).2 (sh_Mo h_l0).1 rfl rfl ?_
  refine jj_ic_ge (tgt := 102) d_Mo_run_66 rfl (fun c1 => ?_) (fun c1 => ?_)
  · rw [if_pos c1] at h
    refine jj_iconst d_Mo_run_102 jc_i_m1 ?_
    refine jj_istore (lo' := [_, _, _, _, _, _]) d_Mo_run_103 rfl (by decide) rfl ?_
    exact jj_J.sub (hrec _ _ _ _ h) (fun i v hi => jj_mask_ok [true, false, false, false, false, true] hi)
  · rw [if_neg c1] at h
    refine jj_aload_n d_Mo_run_69 rfl ?_
    refine jj_iload d_Mo_run_70 rfl ?_
    refine jj_iload d_Mo_run_72 rfl ?_
    refine jj_if_ne (tgt := 81) d_Mo_run_74 rfl (fun c2 => ?_) (fun c2 => ?_)
    · rw [if_neg c2] at h
      refine jj_iload d_Mo_run_81 rfl ?_
      refine jj_iconst d_Mo_run_83 jc_i_1 ?_
      refine jj_ic_ne (tgt := 91) d_Mo_run_84 rfl (fun c3 => ?_) (fun c3 => ?_)
      · rw [if_neg c3] at h
        refine jj_iload d_Mo_run_91 rfl ?_
        exact jj_J.sub (t_Mo_run_93 rec hrec h_l0 h_l0 h) (fun i v hi => jj_mask_ok [true, false, true, true, true, true] hi)
      · rw [if_pos c3] at h
        refine jj_iload_n d_Mo_run_87 rfl ?_
        refine jj_goto (tgt := 93) d_Mo_run_88 rfl ?_
        exact jj_J.sub (t_Mo_run_93 rec hrec h_l0 h_l0 h) (fun i v hi => jj_mask_ok [true, false, true, true, true, true] hi)
    · rw [if_pos c2] at h
      refine jj_iload_n d_Mo_run_77 rfl ?_
      refine jj_goto (tgt := 93) d_Mo_run_78 rfl ?_
      exact jj_J.sub (t_Mo_run_93 rec hrec h_l0 h_l0 h) (fun i v hi => jj_mask_ok [true, false, true, true, true, true] hi)
def g_Mo_run : Nat → Nat → List (Option Value) → jj_Mem → Option (Int32 × jj_Mem)
  | 0, _, _, _ => none
  | f + 1, L, lo, x => match L, lo with
    | 60, [some (.ref l0), none, some (.int l2), some (.int l3), some (.int l4), some (.int l5)] => if (bo_Mo l0) = true then k_Mo_run_60 (g_Mo_run f) l0 l2 l3 l4 l5 x else none
    | 105, [some (.ref l0), none, none, none, none, some (.int l5)] => if (bo_Mo l0) = true then k_Mo_run_105 (g_Mo_run f) l0 l5 x else none
    | _, _ => none
set_option maxHeartbeats 2000000 in
theorem t_Mo_run_g {X : jj_X} {d : Nat} : ∀ (f L : Nat) (lo : List (Option Value)) (x : jj_Mem) (q : Int32 × jj_Mem), g_Mo_run f L lo x = some q → jj_J Y0 X (d + 6) m_Mo_run L lo [] x (jp_i q) := by
  intro f
  induction f with
  | zero => intro L lo x q h; simp [g_Mo_run] at h
  | succ f ih =>
    intro L lo x q h
    unfold g_Mo_run at h
    split at h
    · obtain ⟨i1, h⟩ := jj_gt h
      exact t_Mo_run_60 _ ih (ob_Mo i1) h
    · obtain ⟨i1, h⟩ := jj_gt h
      exact t_Mo_run_105 _ ih (ob_Mo i1) h
    · cases h
def k_Mo_run_0 (rec : Nat → List (Option Value) → jj_Mem → Option (Int32 × jj_Mem)) (this : Nat) (a1 : Int32) (a2 : Int32) (a3 : Int32) (a4 : Int32) (x : jj_Mem) : Option (Int32 × jj_Mem) :=
  jj_b2 (f_Mo_lackOfMethod this a1 x) (fun r1 x1 => (if ((jj_set x1 this 0 r1) this 0) ≤ 0 then if jj_inb 0 4 = true then if jj_inb 0 4 = true then jj_b1 (f_Mo_open this a1 (jj_set (jj_set (jj_set (jj_set (jj_set (jj_set x1 this 0 r1) this 23 0) this 21 1) this 26 0) (this + 9) (Int32.toNatClampNeg 0) a1) (this + 8) (Int32.toNatClampNeg 0) 0)) (fun x5 => jj_b1 (f_Mo_begin this 0 x5) (fun x6 => rec 60 [some (.ref this), none, some (.int a2), some (.int a3), some (.int a4), some (.int 0)] x6)) else none else none else some (0, (jj_set x1 this 0 r1))))
set_option maxHeartbeats 2000000 in
theorem t_Mo_run_0 {X : jj_X} {d : Nat} (rec : Nat → List (Option Value) → jj_Mem → Option (Int32 × jj_Mem)) (hrec : ∀ (L : Nat) (lo : List (Option Value)) (x : jj_Mem) (q : Int32 × jj_Mem), rec L lo x = some q → jj_J Y0 X (d + 6) m_Mo_run L lo [] x (jp_i q)) {this : Nat} {a1 : Int32} {a2 : Int32} {a3 : Int32} {a4 : Int32} (h_this : o_Mo this) {x : jj_Mem} {q : Int32 × jj_Mem} (h : k_Mo_run_0 rec this a1 a2 a3 a4 x = some q) : jj_J Y0 X (d + 6) m_Mo_run 0 [some (.ref this), some (.int a1), some (.int a2), some (.int a3), some (.int a4), none] [] x (jp_i q) := by
  unfold k_Mo_run_0 at h
  refine jj_aload_n d_Mo_run_0 rfl ?_
  refine jj_aload_n d_Mo_run_1 rfl ?_
  refine jj_iload_n d_Mo_run_2 rfl ?_
  obtain ⟨r1, x1, e1, h⟩ := jj_b2o h
  refine jj_callVi (as := [.int a1]) (c_Mo_lackOfMethod (d := d + 4) h_this e1) d_Mo_run_3 ck_Mo_195 (sh_Mo h_this).2 (sh_Mo h_this).1 ⟨_, rfl, rfl⟩ rfl rfl (Nat.le_of_ble_eq_true rfl) ?_
  refine jj_putI d_Mo_run_6 pk_Mo_43 (sh_Mo h_this).2 (sh_Mo h_this).1 rfl ?_
  refine jj_aload_n d_Mo_run_9 rfl ?_
  refine jj_getI d_Mo_run_10 fk_Mo_43 (sh_Mo h_this).2 (sh_Mo h_this).1 rfl rfl ?_
  refine jj_if_le (tgt := 18) d_Mo_run_13 rfl (fun c2 => ?_) (fun c2 => ?_)
  · rw [if_pos c2] at h
    refine jj_aload_n d_Mo_run_18 rfl ?_
    refine jj_iconst d_Mo_run_19 jc_i_0 ?_
    refine jj_putI d_Mo_run_20 pk_Mo_204 (sh_Mo h_this).2 (sh_Mo h_this).1 rfl ?_
    refine jj_aload_n d_Mo_run_23 rfl ?_
    refine jj_iconst d_Mo_run_24 jc_i_1 ?_
    refine jj_putI d_Mo_run_25 pk_Mo_210 (sh_Mo h_this).2 (sh_Mo h_this).1 rfl ?_
    refine jj_aload_n d_Mo_run_28 rfl ?_
    refine jj_iconst d_Mo_run_29 jc_i_0 ?_
    refine jj_putI d_Mo_run_30 pk_Mo_212 (sh_Mo h_this).2 (sh_Mo h_this).1 rfl ?_
    refine jj_aload_n d_Mo_run_33 rfl ?_
    refine jj_getR d_Mo_run_34 fk_Mo_34 (sh_Mo h_this).2 (sh_Mo h_this).1 rfl ?_
    refine jj_iconst d_Mo_run_37 jc_i_0 ?_
    refine jj_iload_n d_Mo_run_38 rfl ?_
    obtain ⟨i3, h⟩ := jj_gt h
    refine jj_iastore d_Mo_run_39 rfl (ar_Mo_which h_this).1 (ar_Mo_which h_this).2 (jj_inn i3) ?_
    refine jj_aload_n d_Mo_run_40 rfl ?_
    refine jj_getR d_Mo_run_41 fk_Mo_31 (sh_Mo h_this).2 (sh_Mo h_this).1 rfl ?_
    refine jj_iconst d_Mo_run_44 jc_i_0 ?_
    refine jj_iconst d_Mo_run_45 jc_i_0 ?_
    obtain ⟨i4, h⟩ := jj_gt h
    refine jj_iastore d_Mo_run_46 rfl (ar_Mo_where h_this).1 (ar_Mo_where h_this).2 (jj_inn i4) ?_
    refine jj_aload_n d_Mo_run_47 rfl ?_
    refine jj_iload_n d_Mo_run_48 rfl ?_
    obtain ⟨x5, e5, h⟩ := jj_b1o h
    refine jj_callVv (as := [.int a1]) (c_Mo_open (d := d + 3) h_this e5) d_Mo_run_49 ck_Mo_198 (sh_Mo h_this).2 (sh_Mo h_this).1 ⟨_, rfl, rfl⟩ rfl rfl (Nat.le_of_ble_eq_true rfl) ?_
    refine jj_aload_n d_Mo_run_52 rfl ?_
    refine jj_iconst d_Mo_run_53 jc_i_0 ?_
    obtain ⟨x6, e6, h⟩ := jj_b1o h
    refine jj_callVv (as := [.int 0]) (c_Mo_begin (d := d + 5) h_this e6) d_Mo_run_54 ck_Mo_169 (sh_Mo h_this).2 (sh_Mo h_this).1 ⟨_, rfl, rfl⟩ rfl rfl (Nat.le_of_ble_eq_true rfl) ?_
    refine jj_iconst d_Mo_run_57 jc_i_0 ?_
    refine jj_istore (lo' := [_, _, _, _, _, _]) d_Mo_run_58 rfl (by decide) rfl ?_
    exact jj_J.sub (hrec _ _ _ _ h) (fun i v hi => jj_mask_ok [true, false, true, true, true, true] hi)
  · rw [if_neg c2] at h
    refine jj_iconst d_Mo_run_16 jc_i_0 ?_
    cases h
    exact jj_ireturn d_Mo_run_17 rfl ⟨rfl, rfl⟩
def f_Mo_run (this : Nat) (a1 : Int32) (a2 : Int32) (a3 : Int32) (a4 : Int32) (x : jj_Mem) : Option (Int32 × jj_Mem) := k_Mo_run_0 (g_Mo_run 1000) this a1 a2 a3 a4 x
theorem c_Mo_run {X : jj_X} {d : Nat} {this : Nat} {a1 : Int32} {a2 : Int32} {a3 : Int32} {a4 : Int32} (h_this : o_Mo this) {x : jj_Mem} {q : Int32 × jj_Mem} (h : f_Mo_run this a1 a2 a3 a4 x = some q) : jj_Met Y0 X (d + 6) m_Mo_run [.ref this, .int a1, .int a2, .int a3, .int a4] x (jp_i q) :=
  jj_metp 1 (lo := [some (.ref this), some (.int a1), some (.int a2), some (.int a3), some (.int a4), none]) rfl (Nat.le_of_ble_eq_true rfl) rfl (t_Mo_run_0 _ (t_Mo_run_g 1000) h_this h)
def k_Mo_check_25 (rec : Nat → List (Option Value) → jj_Mem → Option (Int32 × jj_Mem)) (l0 : Nat) (l2 : Int32) (x : jj_Mem) : Option (Int32 × jj_Mem) :=
  (if (x l0 12) ≤ l2 then jj_b1 (f_Mo_arrive l0 (x l0 12) x) (fun x2 => (if (x2 l0 22) = 0 then some ((-1), x2) else some ((x2 l0 12), x2))) else jj_b2 (f_Mo_passes l0 l2 x) (fun r4 x4 => (if r4 = 0 then some (l2, x4) else if jj_inb ((x4 l0 13) + l2) 240 = true then jj_b1 (s_Mo_bytes (x4 (l0 + 2) (Int32.toNatClampNeg ((x4 l0 13) + l2)))) (fun r7 => rec 25 [some (.ref l0), none, some (.int (l2 + r7))] x4) else none)))
set_option maxHeartbeats 2000000 in
theorem t_Mo_check_25 {X : jj_X} {d : Nat} (rec : Nat → List (Option Value) → jj_Mem → Option (Int32 × jj_Mem)) (hrec : ∀ (L : Nat) (lo : List (Option Value)) (x : jj_Mem) (q : Int32 × jj_Mem), rec L lo x = some q → jj_J Y0 X (d + 7) m_Mo_check L lo [] x (jp_i q)) {l0 : Nat} {l2 : Int32} (h_l0 : o_Mo l0) {x : jj_Mem} {q : Int32 × jj_Mem} (h : k_Mo_check_25 rec l0 l2 x = some q) : jj_J Y0 X (d + 7) m_Mo_check 25 [some (.ref l0), none, some (.int l2)] [] x (jp_i q) := by
  unfold k_Mo_check_25 at h
  refine jj_iload_n d_Mo_check_25 rfl ?_
  refine jj_aload_n d_Mo_check_26 rfl ?_
  refine jj_getI d_Mo_check_27 fk_Mo_136 (sh_Mo h_l0).2 (sh_Mo h_l0).1 rfl rfl ?_
  refine jj_ic_ge (tgt := 63) d_Mo_check_30 rfl (fun c1 => ?_) (fun c1 => ?_)
  · rw [if_pos c1] at h
    refine jj_aload_n d_Mo_check_63 rfl ?_
    refine jj_aload_n d_Mo_check_64 rfl ?_
    refine jj_getI d_Mo_check_65 fk_Mo_136 (sh_Mo h_l0).2 (sh_Mo h_l0).1 rfl rfl ?_
    obtain ⟨x2, e2, h⟩ := jj_b1o h
    refine jj_callVv (as := [.int (x l0 12)]) (c_Mo_arrive (d := d + 1) h_l0 e2) d_Mo_check_68 ck_Mo_183 (sh_Mo h_l0).2 (sh_Mo h_l0).1 ⟨_, rfl, rfl⟩ rfl rfl (Nat.le_of_ble_eq_true rfl) ?_
    refine jj_aload_n d_Mo_check_71 rfl ?_
    refine jj_getI d_Mo_check_72 fk_Mo_163 (sh_Mo h_l0).2 (sh_Mo h_l0).1 rfl rfl ?_
    refine jj_if_eq (tgt := 85) d_Mo_check_75 rfl (fun c3 => ?_) (fun c3 => ?_)
    · rw [if_pos c3] at h
      refine jj_iconst d_Mo_check_85 jc_i_m1 ?_
      cases h
      exact jj_ireturn d_Mo_check_86 rfl ⟨rfl, rfl⟩
    · rw [if_neg c3] at h
      refine jj_aload_n d_Mo_check_78 rfl ?_
      refine jj_getI d_Mo_check_79 fk_Mo_136 (sh_Mo h_l0).2 (sh_Mo h_l0).1 rfl rfl ?_
      refine jj_goto (tgt := 86) d_Mo_check_82 rfl ?_
      cases h
      exact jj_ireturn d_Mo_check_86 rfl ⟨rfl, rfl⟩
  · rw [if_neg c1] at h
    refine jj_aload_n d_Mo_check_33 rfl ?_
    refine jj_iload_n d_Mo_check_34 rfl ?_
    obtain ⟨r4, x4, e4, h⟩ := jj_b2o h
    refine jj_callVi (as := [.int l2]) (c_Mo_passes (d := d + 0) h_l0 e4) d_Mo_check_35 ck_Mo_201 (sh_Mo h_l0).2 (sh_Mo h_l0).1 ⟨_, rfl, rfl⟩ rfl rfl (Nat.le_of_ble_eq_true rfl) ?_
    refine jj_if_ne (tgt := 43) d_Mo_check_38 rfl (fun c5 => ?_) (fun c5 => ?_)
    · rw [if_neg c5] at h
      refine jj_iload_n d_Mo_check_43 rfl ?_
      refine jj_aload_n d_Mo_check_44 rfl ?_
      refine jj_getR d_Mo_check_45 fk_Mo_13 (sh_Mo h_l0).2 (sh_Mo h_l0).1 rfl ?_
      refine jj_aload_n d_Mo_check_48 rfl ?_
      refine jj_getI d_Mo_check_49 fk_Mo_139 (sh_Mo h_l0).2 (sh_Mo h_l0).1 rfl rfl ?_
      refine jj_iload_n d_Mo_check_52 rfl ?_
      refine jj_iadd d_Mo_check_53 ?_
      obtain ⟨i6, h⟩ := jj_gt h
      refine jj_iaload d_Mo_check_54 rfl (ar_Mo_kept h_l0).1 (ar_Mo_kept h_l0).2 (jj_inn i6) rfl ?_
      obtain ⟨r7, e7, h⟩ := jj_b1o h
      refine jj_callSi (as := [.int (x4 (l0 + 2) (Int32.toNatClampNeg ((x4 l0 13) + l2)))]) (c_Mo_bytes (d := d + 4)  e7) d_Mo_check_55 ck_Mo_75 rfl rfl (Nat.le_of_ble_eq_true rfl) ?_
      refine jj_iadd d_Mo_check_58 ?_
      refine jj_istore_n (lo' := [_, _, _]) d_Mo_check_59 rfl (by decide) rfl ?_
      refine jj_goto (tgt := 25) d_Mo_check_60 rfl ?_
      exact jj_J.sub (hrec _ _ _ _ h) (fun i v hi => jj_mask_ok [true, false, true] hi)
    · rw [if_pos c5] at h
      refine jj_iload_n d_Mo_check_41 rfl ?_
      cases h
      exact jj_ireturn d_Mo_check_42 rfl ⟨rfl, rfl⟩
def g_Mo_check : Nat → Nat → List (Option Value) → jj_Mem → Option (Int32 × jj_Mem)
  | 0, _, _, _ => none
  | f + 1, L, lo, x => match L, lo with
    | 25, [some (.ref l0), none, some (.int l2)] => if (bo_Mo l0) = true then k_Mo_check_25 (g_Mo_check f) l0 l2 x else none
    | _, _ => none
set_option maxHeartbeats 2000000 in
theorem t_Mo_check_g {X : jj_X} {d : Nat} : ∀ (f L : Nat) (lo : List (Option Value)) (x : jj_Mem) (q : Int32 × jj_Mem), g_Mo_check f L lo x = some q → jj_J Y0 X (d + 7) m_Mo_check L lo [] x (jp_i q) := by
  intro f
  induction f with
  | zero => intro L lo x q h; simp [g_Mo_check] at h
  | succ f ih =>
    intro L lo x q h
    unfold g_Mo_check at h
    split at h
    · obtain ⟨i1, h⟩ := jj_gt h
      exact t_Mo_check_25 _ ih (ob_Mo i1) h
    · cases h
def k_Mo_check_0 (rec : Nat → List (Option Value) → jj_Mem → Option (Int32 × jj_Mem)) (this : Nat) (a1 : Int32) (x : jj_Mem) : Option (Int32 × jj_Mem) :=
  jj_b2 (f_Mo_lackOfMethod this a1 x) (fun r1 x1 => (if ((jj_set x1 this 0 r1) this 0) ≤ 0 then jj_b1 (f_Mo_open this a1 (jj_set x1 this 0 r1)) (fun x3 => rec 25 [some (.ref this), none, some (.int 0)] x3) else some (0, (jj_set x1 this 0 r1))))
set_option maxHeartbeats 2000000 in
theorem t_Mo_check_0 {X : jj_X} {d : Nat} (rec : Nat → List (Option Value) → jj_Mem → Option (Int32 × jj_Mem)) (hrec : ∀ (L : Nat) (lo : List (Option Value)) (x : jj_Mem) (q : Int32 × jj_Mem), rec L lo x = some q → jj_J Y0 X (d + 7) m_Mo_check L lo [] x (jp_i q)) {this : Nat} {a1 : Int32} (h_this : o_Mo this) {x : jj_Mem} {q : Int32 × jj_Mem} (h : k_Mo_check_0 rec this a1 x = some q) : jj_J Y0 X (d + 7) m_Mo_check 0 [some (.ref this), some (.int a1), none] [] x (jp_i q) := by
  unfold k_Mo_check_0 at h
  refine jj_aload_n d_Mo_check_0 rfl ?_
  refine jj_aload_n d_Mo_check_1 rfl ?_
  refine jj_iload_n d_Mo_check_2 rfl ?_
  obtain ⟨r1, x1, e1, h⟩ := jj_b2o h
  refine jj_callVi (as := [.int a1]) (c_Mo_lackOfMethod (d := d + 5) h_this e1) d_Mo_check_3 ck_Mo_195 (sh_Mo h_this).2 (sh_Mo h_this).1 ⟨_, rfl, rfl⟩ rfl rfl (Nat.le_of_ble_eq_true rfl) ?_
  refine jj_putI d_Mo_check_6 pk_Mo_43 (sh_Mo h_this).2 (sh_Mo h_this).1 rfl ?_
  refine jj_aload_n d_Mo_check_9 rfl ?_
  refine jj_getI d_Mo_check_10 fk_Mo_43 (sh_Mo h_this).2 (sh_Mo h_this).1 rfl rfl ?_
  refine jj_if_le (tgt := 18) d_Mo_check_13 rfl (fun c2 => ?_) (fun c2 => ?_)
  · rw [if_pos c2] at h
    refine jj_aload_n d_Mo_check_18 rfl ?_
    refine jj_iload_n d_Mo_check_19 rfl ?_
    obtain ⟨x3, e3, h⟩ := jj_b1o h
    refine jj_callVv (as := [.int a1]) (c_Mo_open (d := d + 4) h_this e3) d_Mo_check_20 ck_Mo_198 (sh_Mo h_this).2 (sh_Mo h_this).1 ⟨_, rfl, rfl⟩ rfl rfl (Nat.le_of_ble_eq_true rfl) ?_
    refine jj_iconst d_Mo_check_23 jc_i_0 ?_
    refine jj_istore_n (lo' := [_, _, _]) d_Mo_check_24 rfl (by decide) rfl ?_
    exact jj_J.sub (hrec _ _ _ _ h) (fun i v hi => jj_mask_ok [true, false, true] hi)
  · rw [if_neg c2] at h
    refine jj_iconst d_Mo_check_16 jc_i_0 ?_
    cases h
    exact jj_ireturn d_Mo_check_17 rfl ⟨rfl, rfl⟩
def f_Mo_check (this : Nat) (a1 : Int32) (x : jj_Mem) : Option (Int32 × jj_Mem) := k_Mo_check_0 (g_Mo_check 1000) this a1 x
theorem c_Mo_check {X : jj_X} {d : Nat} {this : Nat} {a1 : Int32} (h_this : o_Mo this) {x : jj_Mem} {q : Int32 × jj_Mem} (h : f_Mo_check this a1 x = some q) : jj_Met Y0 X (d + 7) m_Mo_check [.ref this, .int a1] x (jp_i q) :=
  jj_metp 1 (lo := [some (.ref this), some (.int a1), none]) rfl (Nat.le_of_ble_eq_true rfl) rfl (t_Mo_check_0 _ (t_Mo_check_g 1000) h_this h)
