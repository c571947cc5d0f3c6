def k_VC_check_35  (x : jj_Mem) : Option (Int32 × jj_Mem) :=
  none
set_option maxHeartbeats 2000000 in
theorem t_VC_check_35 {X : jj_X} {d : Nat}   {x : jj_Mem} {q : Int32 × jj_Mem} (h : k_VC_check_35  x = some q) : jj_J Y0 X (d + 5) m_VC_check 35 [none, none] [] x (jp_i q) := by
  unfold k_VC_check_35 at h
  cases h
def f_VC_check (this : Nat) (a1 : Int32) (x : jj_Mem) : Option (Int32 × jj_Mem) :=
  if bo_Pr (Int32.toNatClampNeg (x this 2)) = true then (if (x (Int32.toNatClampNeg (x this 2)) 4) = 0 then none else (if a1 < 0 then k_VC_check_35  x else if bo_Pr (Int32.toNatClampNeg (x this 2)) = true then (if a1 < (x (Int32.toNatClampNeg (x this 2)) 4) then if bo_Pr (Int32.toNatClampNeg (x this 2)) = true then if bo_Pr (Int32.toNatClampNeg (x this 2)) = true then if jj_inb a1 4 = true then jj_b2 (f_Ck_firstRefused (this + 26) (Int32.toNatClampNeg (x this 2)) ((Int32.toNatClampNeg (x this 2)) + 3 + 2 * (Int32.toNatClampNeg a1)) x) (fun r9 x9 => some (r9, x9)) else none else none else none else k_VC_check_35  x) else none)) else none
set_option maxHeartbeats 2000000 in
theorem t_VC_check_0 {X : jj_X} {d : Nat} {this : Nat} {a1 : Int32} (h_this : o_VC this) {x : jj_Mem} {q : Int32 × jj_Mem} (h : f_VC_check this a1 x = some q) : jj_J Y0 X (d + 5) m_VC_check 0 [some (.ref this), some (.int a1)] [] x (jp_i q) := by
  unfold f_VC_check at h
  refine jj_aload_n d_VC_check_0 rfl ?_
  obtain ⟨i1, h⟩ := jj_gt h
  refine jj_getD d_VC_check_1 fk_VC_16 (sh_VC h_this).2 (sh_VC h_this).1 rfl rfl ?_
  refine jj_getI d_VC_check_4 fk_VC_78 (sh_Pr (ob_Pr i1)).2 (sh_Pr (ob_Pr i1)).1 rfl rfl ?_
  refine jj_if_ne (tgt := 20) d_VC_check_7 rfl (fun c2 => ?_) (fun c2 => ?_)
  · rw [if_neg c2] at h
    refine jj_iload_n d_VC_check_20 rfl ?_
    refine jj_if_lt (tgt := 35) d_VC_check_21 rfl (fun c3 => ?_) (fun c3 => ?_)
    · rw [if_pos c3] at h
      exact jj_J.sub (t_VC_check_35  h) (fun i v hi => jj_mask_ok [false, false] hi)
    · rw [if_neg c3] at h
      refine jj_iload_n d_VC_check_24 rfl ?_
      refine jj_aload_n d_VC_check_25 rfl ?_
      obtain ⟨i4, h⟩ := jj_gt h
      refine jj_getD d_VC_check_26 fk_VC_16 (sh_VC h_this).2 (sh_VC h_this).1 rfl rfl ?_
      refine jj_getI d_VC_check_29 fk_VC_78 (sh_Pr (ob_Pr i4)).2 (sh_Pr (ob_Pr i4)).1 rfl rfl ?_
      refine jj_ic_lt (tgt := 45) d_VC_check_32 rfl (fun c5 => ?_) (fun c5 => ?_)
      · rw [if_pos c5] at h
        refine jj_aload_n d_VC_check_45 rfl ?_
        refine jj_getR d_VC_check_46 fk_VC_33 (sh_VC h_this).2 (sh_VC h_this).1 rfl ?_
        refine jj_aload_n d_VC_check_49 rfl ?_
        obtain ⟨i6, h⟩ := jj_gt h
        refine jj_getD d_VC_check_50 fk_VC_16 (sh_VC h_this).2 (sh_VC h_this).1 rfl rfl ?_
        refine jj_aload_n d_VC_check_53 rfl ?_
        obtain ⟨i7, h⟩ := jj_gt h
        refine jj_getD d_VC_check_54 fk_VC_16 (sh_VC h_this).2 (sh_VC h_this).1 rfl rfl ?_
        refine jj_getR d_VC_check_57 fk_VC_97 (sh_Pr (ob_Pr i7)).2 (sh_Pr (ob_Pr i7)).1 rfl ?_
        refine jj_iload_n d_VC_check_60 rfl ?_
        obtain ⟨i8, h⟩ := jj_gt h
        refine jj_aaload d_VC_check_61 rfl (pa_Pr_parts (ob_Pr i7)).1 (pa_Pr_parts (ob_Pr i7)).2 (jj_inn i8) rfl ?_
        obtain ⟨r9, x9, e9, h⟩ := jj_b2o h
        refine jj_callVi (as := [.ref (Int32.toNatClampNeg (x this 2)), .ref ((Int32.toNatClampNeg (x this 2)) + 3 + 2 * (Int32.toNatClampNeg a1))]) (c_Ck_firstRefused (d := d + 0) (ro_VC_checker h_this) (ob_Pr i6) (el_Pr_parts (ob_Pr i7) i8) e9) d_VC_check_62 ck_VC_101 (sh_Ck (ro_VC_checker h_this)).2 (sh_Ck (ro_VC_checker h_this)).1 ⟨_, rfl, rfl⟩ rfl rfl (Nat.le_of_ble_eq_true rfl) ?_
        cases h
        exact jj_ireturn d_VC_check_65 rfl ⟨rfl, rfl⟩
      · rw [if_neg c5] at h
        exact jj_J.sub (t_VC_check_35  h) (fun i v hi => jj_mask_ok [false, false] hi)
  · rw [if_pos c2] at h
    cases h
theorem c_VC_check {X : jj_X} {d : Nat} {this : Nat} {a1 : Int32} (h_this : o_VC this) {x : jj_Mem} {q : Int32 × jj_Mem} (h : f_VC_check this a1 x = some q) : jj_Met Y0 X (d + 5) m_VC_check [.ref this, .int a1] x (jp_i q) :=
  jj_metp 0 (lo := [some (.ref this), some (.int a1)]) rfl (Nat.le_of_ble_eq_true rfl) rfl (t_VC_check_0 h_this h)
def f_VC_read (this : Nat) (x : jj_Mem) : Option (Int32 × jj_Mem) :=
  if bo_Pr (Int32.toNatClampNeg (x this 3)) = true then jj_b1 (f_Pr_takeFile (Int32.toNatClampNeg (x this 3)) (this + 1) (x this 1) x) (fun x2 => if bo_Pr (Int32.toNatClampNeg (x2 this 3)) = true then jj_b2 (f_Rd_readsFile (this + 24) (Int32.toNatClampNeg (x2 this 3)) x2) (fun r4 x4 => (if r4 = 0 then some ((x4 (this + 24) 0), x4) else if bo_Pr (Int32.toNatClampNeg (x4 this 2)) = true then if bo_Pr (Int32.toNatClampNeg (x4 this 3)) = true then some ((-1), (jj_set (jj_set x4 this 2 (nI (Int32.toNatClampNeg (x4 this 3)))) this 3 (nI (Int32.toNatClampNeg (x4 this 2))))) else none else none)) else none) else none
set_option maxHeartbeats 2000000 in
theorem t_VC_read_0 {X : jj_X} {d : Nat} {this : Nat} (h_this : o_VC this) {x : jj_Mem} {q : Int32 × jj_Mem} (h : f_VC_read this x = some q) : jj_J Y0 X (d + 6) m_VC_read 0 [some (.ref this), none] [] x (jp_i q) := by
  unfold f_VC_read at h
  refine jj_aload_n d_VC_read_0 rfl ?_
  obtain ⟨i1, h⟩ := jj_gt h
  refine jj_getD d_VC_read_1 fk_VC_20 (sh_VC h_this).2 (sh_VC h_this).1 rfl rfl ?_
  refine jj_aload_n d_VC_read_4 rfl ?_
  refine jj_getR d_VC_read_5 fk_VC_9 (sh_VC h_this).2 (sh_VC h_this).1 rfl ?_
  refine jj_aload_n d_VC_read_8 rfl ?_
  refine jj_getI d_VC_read_9 fk_VC_51 (sh_VC h_this).2 (sh_VC h_this).1 rfl rfl ?_
  obtain ⟨x2, e2, h⟩ := jj_b1o h
  refine jj_callVv (as := [.ref (this + 1), .int (x this 1)]) (c_Pr_takeFile (d := d + 4) (ob_Pr i1) (ar_VC_typed h_this) e2) d_VC_read_12 ck_VC_67 (sh_Pr (ob_Pr i1)).2 (sh_Pr (ob_Pr i1)).1 ⟨_, rfl, rfl⟩ rfl rfl (Nat.le_of_ble_eq_true rfl) ?_
  refine jj_aload_n d_VC_read_15 rfl ?_
  refine jj_getR d_VC_read_16 fk_VC_26 (sh_VC h_this).2 (sh_VC h_this).1 rfl ?_
  refine jj_aload_n d_VC_read_19 rfl ?_
  obtain ⟨i3, h⟩ := jj_gt h
  refine jj_getD d_VC_read_20 fk_VC_20 (sh_VC h_this).2 (sh_VC h_this).1 rfl rfl ?_
  obtain ⟨r4, x4, e4, h⟩ := jj_b2o h
  refine jj_callVi (as := [.ref (Int32.toNatClampNeg (x2 this 3))]) (c_Rd_readsFile (d := d + 0) (ro_VC_reader h_this) (ob_Pr i3) e4) d_VC_read_23 ck_VC_71 (sh_Rd (ro_VC_reader h_this)).2 (sh_Rd (ro_VC_reader h_this)).1 ⟨_, rfl, rfl⟩ rfl rfl (Nat.le_of_ble_eq_true rfl) ?_
  refine jj_if_ne (tgt := 37) d_VC_read_26 rfl (fun c5 => ?_) (fun c5 => ?_)
  · rw [if_neg c5] at h
    refine jj_aload_n d_VC_read_37 rfl ?_
    obtain ⟨i6, h⟩ := jj_gt h
    refine jj_getD d_VC_read_38 fk_VC_16 (sh_VC h_this).2 (sh_VC h_this).1 rfl rfl ?_
    refine jj_astore_n (lo' := [_, _]) d_VC_read_41 rfl (by decide) rfl ?_
    refine jj_aload_n d_VC_read_42 rfl ?_
    refine jj_aload_n d_VC_read_43 rfl ?_
    obtain ⟨i7, h⟩ := jj_gt h
    refine jj_getD d_VC_read_44 fk_VC_20 (sh_VC h_this).2 (sh_VC h_this).1 rfl rfl ?_
    refine jj_putD d_VC_read_47 pk_VC_16 (sh_VC h_this).2 (sh_VC h_this).1 rfl (lt_Pr (ob_Pr i7)) ?_
    refine jj_aload_n d_VC_read_50 rfl ?_
    refine jj_aload_n d_VC_read_51 rfl ?_
    refine jj_putD d_VC_read_52 pk_VC_20 (sh_VC h_this).2 (sh_VC h_this).1 rfl (lt_Pr (ob_Pr i6)) ?_
    refine jj_iconst d_VC_read_55 jc_i_m1 ?_
    cases h
    exact jj_ireturn d_VC_read_56 rfl ⟨rfl, rfl⟩
  · rw [if_pos c5] at h
    refine jj_aload_n d_VC_read_29 rfl ?_
    refine jj_getR d_VC_read_30 fk_VC_26 (sh_VC h_this).2 (sh_VC h_this).1 rfl ?_
    refine jj_getI d_VC_read_33 fk_VC_75 (sh_Rd (ro_VC_reader h_this)).2 (sh_Rd (ro_VC_reader h_this)).1 rfl rfl ?_
    cases h
    exact jj_ireturn d_VC_read_36 rfl ⟨rfl, rfl⟩
theorem c_VC_read {X : jj_X} {d : Nat} {this : Nat} (h_this : o_VC this) {x : jj_Mem} {q : Int32 × jj_Mem} (h : f_VC_read this x = some q) : jj_Met Y0 X (d + 6) m_VC_read [.ref this] x (jp_i q) :=
  jj_metp 1 (lo := [some (.ref this), none]) rfl (Nat.le_of_ble_eq_true rfl) rfl (t_VC_read_0 h_this h)
def k_VC_run_35  (x : jj_Mem) : Option (Int32 × jj_Mem) :=
  none
set_option maxHeartbeats 2000000 in
theorem t_VC_run_35 {X : jj_X} {d : Nat}   {x : jj_Mem} {q : Int32 × jj_Mem} (h : k_VC_run_35  x = some q) : jj_J Y0 X (d + 6) m_VC_run 35 [none, none, none, none, none] [] x (jp_i q) := by
  unfold k_VC_run_35 at h
  cases h
def f_VC_run (this : Nat) (a1 : Int32) (a2 : Int32) (a3 : Int32) (a4 : Int32) (x : jj_Mem) : Option (Int32 × jj_Mem) :=
  if bo_Pr (Int32.toNatClampNeg (x this 2)) = true then (if (x (Int32.toNatClampNeg (x this 2)) 4) = 0 then none else (if a1 < 0 then k_VC_run_35  x else if bo_Pr (Int32.toNatClampNeg (x this 2)) = true then (if a1 < (x (Int32.toNatClampNeg (x this 2)) 4) then if bo_Pr (Int32.toNatClampNeg (x this 2)) = true then jj_b1 (f_Ma_begin (this + 32) (Int32.toNatClampNeg (x this 2)) a1 a2 a3 a4 x) (fun x7 => if bo_Pr (Int32.toNatClampNeg (x7 this 2)) = true then jj_b2 (f_Ma_goToEnd (this + 32) (Int32.toNatClampNeg (x7 this 2)) x7) (fun r9 x9 => some (r9, x9)) else none) else none else k_VC_run_35  x) else none)) else none
set_option maxHeartbeats 2000000 in
theorem t_VC_run_0 {X : jj_X} {d : Nat} {this : Nat} {a1 : Int32} {a2 : Int32} {a3 : Int32} {a4 : Int32} (h_this : o_VC this) {x : jj_Mem} {q : Int32 × jj_Mem} (h : f_VC_run this a1 a2 a3 a4 x = some q) : jj_J Y0 X (d + 6) m_VC_run 0 [some (.ref this), some (.int a1), some (.int a2), some (.int a3), some (.int a4)] [] x (jp_i q) := by
  unfold f_VC_run at h
  refine jj_aload_n d_VC_run_0 rfl ?_
  obtain ⟨i1, h⟩ := jj_gt h
  refine jj_getD d_VC_run_1 fk_VC_16 (sh_VC h_this).2 (sh_VC h_this).1 rfl rfl ?_
  refine jj_getI d_VC_run_4 fk_VC_78 (sh_Pr (ob_Pr i1)).2 (sh_Pr (ob_Pr i1)).1 rfl rfl ?_
  refine jj_if_ne (tgt := 20) d_VC_run_7 rfl (fun c2 => ?_) (fun c2 => ?_)
  · rw [if_neg c2] at h
    refine jj_iload_n d_VC_run_20 rfl ?_
    refine jj_if_lt (tgt := 35) d_VC_run_21 rfl (fun c3 => ?_) (fun c3 => ?_)
    · rw [if_pos c3] at h
      exact jj_J.sub (t_VC_run_35  h) (fun i v hi => jj_mask_ok [false, false, false, false, false] hi)
    · rw [if_neg c3] at h
      refine jj_iload_n d_VC_run_24 rfl ?_
      refine jj_aload_n d_VC_run_25 rfl ?_
      obtain ⟨i4, h⟩ := jj_gt h
      refine jj_getD d_VC_run_26 fk_VC_16 (sh_VC h_this).2 (sh_VC h_this).1 rfl rfl ?_
      refine jj_getI d_VC_run_29 fk_VC_78 (sh_Pr (ob_Pr i4)).2 (sh_Pr (ob_Pr i4)).1 rfl rfl ?_
      refine jj_ic_lt (tgt := 45) d_VC_run_32 rfl (fun c5 => ?_) (fun c5 => ?_)
      · rw [if_pos c5] at h
        refine jj_aload_n d_VC_run_45 rfl ?_
        refine jj_getR d_VC_run_46 fk_VC_40 (sh_VC h_this).2 (sh_VC h_this).1 rfl ?_
        refine jj_aload_n d_VC_run_49 rfl ?_
        obtain ⟨i6, h⟩ := jj_gt h
        refine jj_getD d_VC_run_50 fk_VC_16 (sh_VC h_this).2 (sh_VC h_this).1 rfl rfl ?_
        refine jj_iload_n d_VC_run_53 rfl ?_
        refine jj_iload_n d_VC_run_54 rfl ?_
        refine jj_iload_n d_VC_run_55 rfl ?_
        refine jj_iload d_VC_run_56 rfl ?_
        obtain ⟨x7, e7, h⟩ := jj_b1o h
        refine jj_callVv (as := [.ref (Int32.toNatClampNeg (x this 2)), .int a1, .int a2, .int a3, .int a4]) (c_Ma_begin (d := d + 2) (ro_VC_machine h_this) (ob_Pr i6) e7) d_VC_run_58 ck_VC_105 (sh_Ma (ro_VC_machine h_this)).2 (sh_Ma (ro_VC_machine h_this)).1 ⟨_, rfl, rfl⟩ rfl rfl (Nat.le_of_ble_eq_true rfl) ?_
        refine jj_aload_n d_VC_run_61 rfl ?_
        refine jj_getR d_VC_run_62 fk_VC_40 (sh_VC h_this).2 (sh_VC h_this).1 rfl ?_
        refine jj_aload_n d_VC_run_65 rfl ?_
        obtain ⟨i8, h⟩ := jj_gt h
        refine jj_getD d_VC_run_66 fk_VC_16 (sh_VC h_this).2 (sh_VC h_this).1 rfl rfl ?_
        obtain ⟨r9, x9, e9, h⟩ := jj_b2o h
        refine jj_callVi (as := [.ref (Int32.toNatClampNeg (x7 this 2))]) (c_Ma_goToEnd (d := d + 0) (ro_VC_machine h_this) (ob_Pr i8) e9) d_VC_run_69 ck_VC_109 (sh_Ma (ro_VC_machine h_this)).2 (sh_Ma (ro_VC_machine h_this)).1 ⟨_, rfl, rfl⟩ rfl rfl (Nat.le_of_ble_eq_true rfl) ?_
        cases h
        exact jj_ireturn d_VC_run_72 rfl ⟨rfl, rfl⟩
      · rw [if_neg c5] at h
        exact jj_J.sub (t_VC_run_35  h) (fun i v hi => jj_mask_ok [false, false, false, false, false] hi)
  · rw [if_pos c2] at h
    cases h
theorem c_VC_run {X : jj_X} {d : Nat} {this : Nat} {a1 : Int32} {a2 : Int32} {a3 : Int32} {a4 : Int32} (h_this : o_VC this) {x : jj_Mem} {q : Int32 × jj_Mem} (h : f_VC_run this a1 a2 a3 a4 x = some q) : jj_Met Y0 X (d + 6) m_VC_run [.ref this, .int a1, .int a2, .int a3, .int a4] x (jp_i q) :=
  jj_metp 0 (lo := [some (.ref this), some (.int a1), some (.int a2), some (.int a3), some (.int a4)]) rfl (Nat.le_of_ble_eq_true rfl) rfl (t_VC_run_0 h_this h)
