def k_St_hasTaken_3 (rec : Nat → List (Option Value) → jj_Mem → Option (Int32 × jj_Mem)) (l0 : Nat) (l1 : Nat) (l2 : Nat) (l3 : Int32) (l4 : Int32) (l5 : Int32) (x : jj_Mem) : Option (Int32 × jj_Mem) :=
  (if l4 ≤ l5 then some (1, x) else if jj_inb (((x l0 4) - l4) + l5) 6 = true then jj_b2 (f_Pr_takenType l1 l2 l3 l5 x) (fun r3 x3 => jj_b2 (f_VC_isGoodFor (x (l0 + 3) (Int32.toNatClampNeg (((x l0 4) - l4) + l5))) r3 x3) (fun r4 x4 => (if r4 = 0 then some (0, x4) else rec 3 [some (.ref l0), some (.ref l1), some (.ref l2), some (.int l3), some (.int l4), some (.int (l5 + 1))] x4))) else none)
set_option maxHeartbeats 2000000 in
theorem t_St_hasTaken_3 {X : jj_X} {d : Nat} (rec : Nat → List (Option Value) → jj_Mem → Option (Int32 × jj_Mem)) (hrec : ∀ (L : Nat) (lo : List (Option Value)) (x : jj_Mem) (q : Int32 × jj_Mem), rec L lo x = some q → jj_J Y0 X (d + 2) m_St_hasTaken L lo [] x (jp_i q)) {l0 : Nat} {l1 : Nat} {l2 : Nat} {l3 : Int32} {l4 : Int32} {l5 : Int32} (h_l0 : o_St l0) (h_l1 : o_Pr l1) (h_l2 : o_Me l2) {x : jj_Mem} {q : Int32 × jj_Mem} (h : k_St_hasTaken_3 rec l0 l1 l2 l3 l4 l5 x = some q) : jj_J Y0 X (d + 2) m_St_hasTaken 3 [some (.ref l0), some (.ref l1), some (.ref l2), some (.int l3), some (.int l4), some (.int l5)] [] x (jp_i q) := by
  unfold k_St_hasTaken_3 at h
  refine jj_iload d_St_hasTaken_3 rfl ?_
  refine jj_iload d_St_hasTaken_5 rfl ?_
  refine jj_ic_ge (tgt := 47) d_St_hasTaken_7 rfl (fun c1 => ?_) (fun c1 => ?_)
  · rw [if_pos c1] at h
    refine jj_iconst d_St_hasTaken_47 jc_i_1 ?_
    cases h
    exact jj_zreturn d_St_hasTaken_48 rfl (Or.inr rfl) ⟨rfl, rfl⟩
  · rw [if_neg c1] at h
    refine jj_aload_n d_St_hasTaken_10 rfl ?_
    refine jj_getR d_St_hasTaken_11 fk_St_18 (sh_St h_l0).2 (sh_St h_l0).1 rfl ?_
    refine jj_aload_n d_St_hasTaken_14 rfl ?_
    refine jj_getI d_St_hasTaken_15 fk_St_28 (sh_St h_l0).2 (sh_St h_l0).1 rfl rfl ?_
    refine jj_iload d_St_hasTaken_18 rfl ?_
    refine jj_isub d_St_hasTaken_20 ?_
    refine jj_iload d_St_hasTaken_21 rfl ?_
    refine jj_iadd d_St_hasTaken_23 ?_
    obtain ⟨i2, h⟩ := jj_gt h
    refine jj_iaload d_St_hasTaken_24 rfl (ar_St_kinds h_l0).1 (ar_St_kinds h_l0).2 (jj_inn i2) rfl ?_
    refine jj_aload_n d_St_hasTaken_25 rfl ?_
    refine jj_aload_n d_St_hasTaken_26 rfl ?_
    refine jj_iload_n d_St_hasTaken_27 rfl ?_
    refine jj_iload d_St_hasTaken_28 rfl ?_
    obtain ⟨r3, x3, e3, h⟩ := jj_b2o h
    refine jj_callVi (as := [.ref l2, .int l3, .int l5]) (c_Pr_takenType (d := d + 0) h_l1 h_l2 e3) d_St_hasTaken_30 ck_St_87 (sh_Pr h_l1).2 (sh_Pr h_l1).1 ⟨_, rfl, rfl⟩ rfl rfl (Nat.le_of_ble_eq_true rfl) ?_
    obtain ⟨r4, x4, e4, h⟩ := jj_b2o h
    refine jj_callSNi (as := [.int (x (l0 + 3) (Int32.toNatClampNeg (((x l0 4) - l4) + l5))), .int r3]) (c_VC_isGoodFor (d := d + 1)  e4) d_St_hasTaken_33 ck_St_91 rfl rfl (Nat.le_of_ble_eq_true rfl) ?_
    refine jj_if_ne (tgt := 41) d_St_hasTaken_36 rfl (fun c5 => ?_) (fun c5 => ?_)
    · rw [if_neg c5] at h
      refine jj_iinc (lo' := [_, _, _, _, _, _]) (v := (l5 + 1)) d_St_hasTaken_41 rfl (jc_a_1 _) rfl (by decide) rfl ?_
      refine jj_goto (tgt := 3) d_St_hasTaken_44 rfl ?_
      exact jj_J.sub (hrec _ _ _ _ h) (fun i v hi => jj_mask_ok [true, true, true, true, true, true] hi)
    · rw [if_pos c5] at h
      refine jj_iconst d_St_hasTaken_39 jc_i_0 ?_
      cases h
      exact jj_zreturn d_St_hasTaken_40 rfl (Or.inl rfl) ⟨rfl, rfl⟩
def g_St_hasTaken : Nat → Nat → List (Option Value) → jj_Mem → Option (Int32 × jj_Mem)
  | 0, _, _, _ => none
  | f + 1, L, lo, x => match L, lo with
    | 3, [some (.ref l0), some (.ref l1), some (.ref l2), some (.int l3), some (.int l4), some (.int l5)] => if (bo_St l0 && bo_Pr l1 && bo_Me l2) = true then k_St_hasTaken_3 (g_St_hasTaken f) l0 l1 l2 l3 l4 l5 x else none
    | _, _ => none
set_option maxHeartbeats 2000000 in
theorem t_St_hasTaken_g {X : jj_X} {d : Nat} : ∀ (f L : Nat) (lo : List (Option Value)) (x : jj_Mem) (q : Int32 × jj_Mem), g_St_hasTaken f L lo x = some q → jj_J Y0 X (d + 2) m_St_hasTaken L lo [] x (jp_i q) := by
  intro f
  induction f with
  | zero => intro L lo x q h; simp [g_St_hasTaken] at h
  | succ f ih =>
    intro L lo x q h
    unfold g_St_hasTaken at h
    split at h
    · obtain ⟨i1, h⟩ := jj_gt h
      exact t_St_hasTaken_3 _ ih (ob_St (jj_andl (jj_andl i1))) (ob_Pr (jj_andr (jj_andl i1))) (ob_Me (jj_andr i1)) h
    · cases h
def k_St_hasTaken_0 (rec : Nat → List (Option Value) → jj_Mem → Option (Int32 × jj_Mem)) (this : Nat) (a1 : Nat) (a2 : Nat) (a3 : Int32) (a4 : Int32) (x : jj_Mem) : Option (Int32 × jj_Mem) :=
  rec 3 [some (.ref this), some (.ref a1), some (.ref a2), some (.int a3), some (.int a4), some (.int 0)] x
set_option maxHeartbeats 2000000 in
theorem t_St_hasTaken_0 {X : jj_X} {d : Nat} (rec : Nat → List (Option Value) → jj_Mem → Option (Int32 × jj_Mem)) (hrec : ∀ (L : Nat) (lo : List (Option Value)) (x : jj_Mem) (q : Int32 × jj_Mem), rec L lo x = some q → jj_J Y0 X (d + 2) m_St_hasTaken L lo [] x (jp_i q)) {this : Nat} {a1 : Nat} {a2 : Nat} {a3 : Int32} {a4 : Int32} (h_this : o_St this) (h_a1 : o_Pr a1) (h_a2 : o_Me a2) {x : jj_Mem} {q : Int32 × jj_Mem} (h : k_St_hasTaken_0 rec this a1 a2 a3 a4 x = some q) : jj_J Y0 X (d + 2) m_St_hasTaken 0 [some (.ref this), some (.ref a1), some (.ref a2), some (.int a3), some (.int a4), none] [] x (jp_i q) := by
  unfold k_St_hasTaken_0 at h
  refine jj_iconst d_St_hasTaken_0 jc_i_0 ?_
  refine jj_istore (lo' := [_, _, _, _, _, _]) d_St_hasTaken_1 rfl (by decide) rfl ?_
  exact jj_J.sub (hrec _ _ _ _ h) (fun i v hi => jj_mask_ok [true, true, true, true, true, true] hi)
def f_St_hasTaken (this : Nat) (a1 : Nat) (a2 : Nat) (a3 : Int32) (a4 : Int32) (x : jj_Mem) : Option (Int32 × jj_Mem) := k_St_hasTaken_0 (g_St_hasTaken 1000) this a1 a2 a3 a4 x
theorem c_St_hasTaken {X : jj_X} {d : Nat} {this : Nat} {a1 : Nat} {a2 : Nat} {a3 : Int32} {a4 : Int32} (h_this : o_St this) (h_a1 : o_Pr a1) (h_a2 : o_Me a2) {x : jj_Mem} {q : Int32 × jj_Mem} (h : f_St_hasTaken this a1 a2 a3 a4 x = some q) : jj_Met Y0 X (d + 2) m_St_hasTaken [.ref this, .ref a1, .ref a2, .int a3, .int a4] x (jp_i q) :=
  jj_metp 1 (lo := [some (.ref this), some (.ref a1), some (.ref a2), some (.int a3), some (.int a4), none]) rfl (Nat.le_of_ble_eq_true rfl) rfl (t_St_hasTaken_0 _ (t_St_hasTaken_g 1000) h_this h_a1 h_a2 h)
def k_Ma_begin_57 (l0 : Nat) (l1 : Nat) (l5 : Int32) (l6 : Int32) (x : jj_Mem) : Option (jj_Mem) :=
  (if l6 ≤ 2 then some x else jj_b1 (f_Ma_setArgument l0 l1 2 l5 x) (fun x2 => some x2))
set_option maxHeartbeats 2000000 in
theorem t_Ma_begin_57 {X : jj_X} {d : Nat} {l0 : Nat} {l1 : Nat} {l5 : Int32} {l6 : Int32} (h_l0 : o_Ma l0) (h_l1 : o_Pr l1) {x : jj_Mem} {q : jj_Mem} (h : k_Ma_begin_57 l0 l1 l5 l6 x = some q) : jj_J Y0 X (d + 3) m_Ma_begin 57 [some (.ref l0), some (.ref l1), none, none, none, some (.int l5), some (.int l6)] [] x (jp_v q) := by
  unfold k_Ma_begin_57 at h
  refine jj_iload d_Ma_begin_57 rfl ?_
  refine jj_iconst d_Ma_begin_59 jc_i_2 ?_
  refine jj_ic_le (tgt := 71) d_Ma_begin_60 rfl (fun c1 => ?_) (fun c1 => ?_)
  · rw [if_pos c1] at h
    cases h
    exact jj_return d_Ma_begin_71 rfl ⟨rfl, rfl⟩
  · rw [if_neg c1] at h
    refine jj_aload_n d_Ma_begin_63 rfl ?_
    refine jj_aload_n d_Ma_begin_64 rfl ?_
    refine jj_iconst d_Ma_begin_65 jc_i_2 ?_
    refine jj_iload d_Ma_begin_66 rfl ?_
    obtain ⟨x2, e2, h⟩ := jj_b1o h
    refine jj_callVv (as := [.ref l1, .int 2, .int l5]) (c_Ma_setArgument (d := d + 1) h_l0 h_l1 e2) d_Ma_begin_68 ck_Ma_56 (sh_Ma h_l0).2 (sh_Ma h_l0).1 ⟨_, rfl, rfl⟩ rfl rfl (Nat.le_of_ble_eq_true rfl) ?_
    cases h
    exact jj_return d_Ma_begin_71 rfl ⟨rfl, rfl⟩
def k_Ma_begin_43 (l0 : Nat) (l1 : Nat) (l4 : Int32) (l5 : Int32) (l6 : Int32) (x : jj_Mem) : Option (jj_Mem) :=
  (if l6 ≤ 1 then k_Ma_begin_57 l0 l1 l5 l6 x else jj_b1 (f_Ma_setArgument l0 l1 1 l4 x) (fun x2 => k_Ma_begin_57 l0 l1 l5 l6 x2))
set_option maxHeartbeats 2000000 in
theorem t_Ma_begin_43 {X : jj_X} {d : Nat} {l0 : Nat} {l1 : Nat} {l4 : Int32} {l5 : Int32} {l6 : Int32} (h_l0 : o_Ma l0) (h_l1 : o_Pr l1) {x : jj_Mem} {q : jj_Mem} (h : k_Ma_begin_43 l0 l1 l4 l5 l6 x = some q) : jj_J Y0 X (d + 3) m_Ma_begin 43 [some (.ref l0), some (.ref l1), none, none, some (.int l4), some (.int l5), some (.int l6)] [] x (jp_v q) := by
  unfold k_Ma_begin_43 at h
  refine jj_iload d_Ma_begin_43 rfl ?_
  refine jj_iconst d_Ma_begin_45 jc_i_1 ?_
  refine jj_ic_le (tgt := 57) d_Ma_begin_46 rfl (fun c1 => ?_) (fun c1 => ?_)
  · rw [if_pos c1] at h
    exact jj_J.sub (t_Ma_begin_57 h_l0 h_l1 h) (fun i v hi => jj_mask_ok [true, true, false, false, false, true, true] hi)
  · rw [if_neg c1] at h
    refine jj_aload_n d_Ma_begin_49 rfl ?_
    refine jj_aload_n d_Ma_begin_50 rfl ?_
    refine jj_iconst d_Ma_begin_51 jc_i_1 ?_
    refine jj_iload d_Ma_begin_52 rfl ?_
    obtain ⟨x2, e2, h⟩ := jj_b1o h
    refine jj_callVv (as := [.ref l1, .int 1, .int l4]) (c_Ma_setArgument (d := d + 1) h_l0 h_l1 e2) d_Ma_begin_54 ck_Ma_56 (sh_Ma h_l0).2 (sh_Ma h_l0).1 ⟨_, rfl, rfl⟩ rfl rfl (Nat.le_of_ble_eq_true rfl) ?_
    exact jj_J.sub (t_Ma_begin_57 h_l0 h_l1 h) (fun i v hi => jj_mask_ok [true, true, false, false, false, true, true] hi)
def f_Ma_begin (this : Nat) (a1 : Nat) (a2 : Int32) (a3 : Int32) (a4 : Int32) (a5 : Int32) (x : jj_Mem) : Option (jj_Mem) :=
  jj_b1 (f_Ma_enter this a2 (jj_set (jj_set (jj_set x this 1 0) this 8 0) this 5 0)) (fun x1 => if jj_inb a2 4 = true then (if (x1 (a1 + 3 + 2 * (Int32.toNatClampNeg a2)) 0) ≤ 0 then k_Ma_begin_43 this a1 a4 a5 (x1 (a1 + 3 + 2 * (Int32.toNatClampNeg a2)) 0) x1 else jj_b1 (f_Ma_setArgument this a1 0 a3 x1) (fun x4 => k_Ma_begin_43 this a1 a4 a5 (x1 (a1 + 3 + 2 * (Int32.toNatClampNeg a2)) 0) x4)) else none)
set_option maxHeartbeats 2000000 in
theorem t_Ma_begin_0 {X : jj_X} {d : Nat} {this : Nat} {a1 : Nat} {a2 : Int32} {a3 : Int32} {a4 : Int32} {a5 : Int32} (h_this : o_Ma this) (h_a1 : o_Pr a1) {x : jj_Mem} {q : jj_Mem} (h : f_Ma_begin this a1 a2 a3 a4 a5 x = some q) : jj_J Y0 X (d + 3) m_Ma_begin 0 [some (.ref this), some (.ref a1), some (.int a2), some (.int a3), some (.int a4), some (.int a5), none] [] x (jp_v q) := by
  unfold f_Ma_begin at h
  refine jj_aload_n d_Ma_begin_0 rfl ?_
  refine jj_iconst d_Ma_begin_1 jc_i_0 ?_
  refine jj_putI d_Ma_begin_2 pk_Ma_31 (sh_Ma h_this).2 (sh_Ma h_this).1 rfl ?_
  refine jj_aload_n d_Ma_begin_5 rfl ?_
  refine jj_iconst d_Ma_begin_6 jc_i_0 ?_
  refine jj_putI d_Ma_begin_7 pk_Ma_35 (sh_Ma h_this).2 (sh_Ma h_this).1 rfl ?_
  refine jj_aload_n d_Ma_begin_10 rfl ?_
  refine jj_iconst d_Ma_begin_11 jc_i_0 ?_
  refine jj_putI d_Ma_begin_12 pk_Ma_38 (sh_Ma h_this).2 (sh_Ma h_this).1 rfl ?_
  refine jj_aload_n d_Ma_begin_15 rfl ?_
  refine jj_iload_n d_Ma_begin_16 rfl ?_
  obtain ⟨x1, e1, h⟩ := jj_b1o h
  refine jj_callVv (as := [.int a2]) (c_Ma_enter (d := d + 0) h_this e1) d_Ma_begin_17 ck_Ma_41 (sh_Ma h_this).2 (sh_Ma h_this).1 ⟨_, rfl, rfl⟩ rfl rfl (Nat.le_of_ble_eq_true rfl) ?_
  refine jj_aload_n d_Ma_begin_20 rfl ?_
  refine jj_getR d_Ma_begin_21 fk_Ma_45 (sh_Pr h_a1).2 (sh_Pr h_a1).1 rfl ?_
  refine jj_iload_n d_Ma_begin_24 rfl ?_
  obtain ⟨i2, h⟩ := jj_gt h
  refine jj_aaload d_Ma_begin_25 rfl (pa_Pr_parts h_a1).1 (pa_Pr_parts h_a1).2 (jj_inn i2) rfl ?_
  refine jj_getI d_Ma_begin_26 fk_Ma_51 (sh_Me (el_Pr_parts h_a1 i2)).2 (sh_Me (el_Pr_parts h_a1 i2)).1 rfl rfl ?_
  refine jj_istore (lo' := [_, _, _, _, _, _, _]) d_Ma_begin_29 rfl (by decide) rfl ?_
  refine jj_iload d_Ma_begin_31 rfl ?_
  refine jj_if_le (tgt := 43) d_Ma_begin_33 rfl (fun c3 => ?_) (fun c3 => ?_)
  · rw [if_pos c3] at h
    exact jj_J.sub (t_Ma_begin_43 h_this h_a1 h) (fun i v hi => jj_mask_ok [true, true, false, false, true, true, true] hi)
  · rw [if_neg c3] at h
    refine jj_aload_n d_Ma_begin_36 rfl ?_
    refine jj_aload_n d_Ma_begin_37 rfl ?_
    refine jj_iconst d_Ma_begin_38 jc_i_0 ?_
    refine jj_iload_n d_Ma_begin_39 rfl ?_
    obtain ⟨x4, e4, h⟩ := jj_b1o h
    refine jj_callVv (as := [.ref a1, .int 0, .int a3]) (c_Ma_setArgument (d := d + 1) h_this h_a1 e4) d_Ma_begin_40 ck_Ma_56 (sh_Ma h_this).2 (sh_Ma h_this).1 ⟨_, rfl, rfl⟩ rfl rfl (Nat.le_of_ble_eq_true rfl) ?_
    exact jj_J.sub (t_Ma_begin_43 h_this h_a1 h) (fun i v hi => jj_mask_ok [true, true, false, false, true, true, true] hi)
theorem c_Ma_begin {X : jj_X} {d : Nat} {this : Nat} {a1 : Nat} {a2 : Int32} {a3 : Int32} {a4 : Int32} {a5 : Int32} (h_this : o_Ma this) (h_a1 : o_Pr a1) {x : jj_Mem} {q : jj_Mem} (h : f_Ma_begin this a1 a2 a3 a4 a5 x = some q) : jj_Met Y0 X (d + 3) m_Ma_begin [.ref this, .ref a1, .int a2, .int a3, .int a4, .int a5] x (jp_v q) :=
  jj_metp 1 (lo := [some (.ref this), some (.ref a1), some (.int a2), some (.int a3), some (.int a4), some (.int a5), none]) rfl (Nat.le_of_ble_eq_true rfl) rfl (t_Ma_begin_0 h_this h_a1 h)
def k_Ma_call_38 (rec : Nat → List (Option Value) → jj_Mem → Option (jj_Mem)) (l0 : Nat) (l3 : Nat) (l4 : Int32) (x : jj_Mem) : Option (jj_Mem) :=
  (if l4 < 0 then some x else jj_b2 (f_St_take l3 x) (fun r2 x2 => if jj_inb (x2 l0 5) 4 = true then jj_b2 (f_St_kindTaken l3 x2) (fun r4 x4 => jj_b1 (f_St_setPlace (l0 + 2 + 5 * (Int32.toNatClampNeg (x2 l0 5))) l4 r4 r2 x4) (fun x5 => rec 38 [some (.ref l0), none, none, some (.ref l3), some (.int (l4 + (-1))), none] x5)) else none))
set_option maxHeartbeats 2000000 in
theorem t_Ma_call_38 {X : jj_X} {d : Nat} (rec : Nat → List (Option Value) → jj_Mem → Option (jj_Mem)) (hrec : ∀ (L : Nat) (lo : List (Option Value)) (x : jj_Mem) (q : jj_Mem), rec L lo x = some q → jj_J Y0 X (d + 3) m_Ma_call L lo [] x (jp_v q)) {l0 : Nat} {l3 : Nat} {l4 : Int32} (h_l0 : o_Ma l0) (h_l3 : o_St l3) {x : jj_Mem} {q : jj_Mem} (h : k_Ma_call_38 rec l0 l3 l4 x = some q) : jj_J Y0 X (d + 3) m_Ma_call 38 [some (.ref l0), none, none, some (.ref l3), some (.int l4), none] [] x (jp_v q) := by
  unfold k_Ma_call_38 at h
  refine jj_iload d_Ma_call_38 rfl ?_
  refine jj_if_lt (tgt := 75) d_Ma_call_40 rfl (fun c1 => ?_) (fun c1 => ?_)
  · rw [if_pos c1] at h
    cases h
    exact jj_return d_Ma_call_75 rfl ⟨rfl, rfl⟩
  · rw [if_neg c1] at h
    refine jj_aload_n d_Ma_call_43 rfl ?_
    obtain ⟨r2, x2, e2, h⟩ := jj_b2o h
    refine jj_callVi (as := []) (c_St_take (d := d + 2) h_l3 e2) d_Ma_call_44 ck_Ma_139 (sh_St h_l3).2 (sh_St h_l3).1 ⟨_, rfl, rfl⟩ rfl rfl (Nat.le_of_ble_eq_true rfl) ?_
    refine jj_istore (lo' := [_, _, _, _, _, _]) d_Ma_call_47 rfl (by decide) rfl ?_
    refine jj_aload_n d_Ma_call_49 rfl ?_
    refine jj_getR d_Ma_call_50 fk_Ma_11 (sh_Ma h_l0).2 (sh_Ma h_l0).1 rfl ?_
    refine jj_aload_n d_Ma_call_53 rfl ?_
    refine jj_getI d_Ma_call_54 fk_Ma_38 (sh_Ma h_l0).2 (sh_Ma h_l0).1 rfl rfl ?_
    obtain ⟨i3, h⟩ := jj_gt h
    refine jj_aaload d_Ma_call_57 rfl (pa_Ma_states h_l0).1 (pa_Ma_states h_l0).2 (jj_inn i3) rfl ?_
    refine jj_iload d_Ma_call_58 rfl ?_
    refine jj_aload_n d_Ma_call_60 rfl ?_
    obtain ⟨r4, x4, e4, h⟩ := jj_b2o h
    refine jj_callVi (as := []) (c_St_kindTaken (d := d + 2) h_l3 e4) d_Ma_call_61 ck_Ma_143 (sh_St h_l3).2 (sh_St h_l3).1 ⟨_, rfl, rfl⟩ rfl rfl (Nat.le_of_ble_eq_true rfl) ?_
    refine jj_iload d_Ma_call_64 rfl ?_
    obtain ⟨x5, e5, h⟩ := jj_b1o h
    refine jj_callVv (as := [.int l4, .int r4, .int r2]) (c_St_setPlace (d := d + 2) (el_Ma_states h_l0 i3) e5) d_Ma_call_66 ck_Ma_67 (sh_St (el_Ma_states h_l0 i3)).2 (sh_St (el_Ma_states h_l0 i3)).1 ⟨_, rfl, rfl⟩ rfl rfl (Nat.le_of_ble_eq_true rfl) ?_
    refine jj_iinc (lo' := [_, _, _, _, _, _]) (v := (l4 + (-1))) d_Ma_call_69 rfl (jc_a_m1 _) rfl (by decide) rfl ?_
    refine jj_goto (tgt := 38) d_Ma_call_72 rfl ?_
    exact jj_J.sub (hrec _ _ _ _ h) (fun i v hi => jj_mask_ok [true, false, false, true, true, false] hi)
def g_Ma_call : Nat → Nat → List (Option Value) → jj_Mem → Option (jj_Mem)
  | 0, _, _, _ => none
  | f + 1, L, lo, x => match L, lo with
    | 38, [some (.ref l0), none, none, some (.ref l3), some (.int l4), none] => if (bo_Ma l0 && bo_St l3) = true then k_Ma_call_38 (g_Ma_call f) l0 l3 l4 x else none
    | _, _ => none
set_option maxHeartbeats 2000000 in
theorem t_Ma_call_g {X : jj_X} {d : Nat} : ∀ (f L : Nat) (lo : List (Option Value)) (x : jj_Mem) (q : jj_Mem), g_Ma_call f L lo x = some q → jj_J Y0 X (d + 3) m_Ma_call L lo [] x (jp_v q) := by
  intro f
  induction f with
  | zero => intro L lo x q h; simp [g_Ma_call] at h
  | succ f ih =>
    intro L lo x q h
    unfold g_Ma_call at h
    split at h
    · obtain ⟨i1, h⟩ := jj_gt h
      exact t_Ma_call_38 _ ih (ob_Ma (jj_andl i1)) (ob_St (jj_andr i1)) h
    · cases h
def k_Ma_call_0 (rec : Nat → List (Option Value) → jj_Mem → Option (jj_Mem)) (this : Nat) (a1 : Nat) (a2 : Int32) (x : jj_Mem) : Option (jj_Mem) :=
  if jj_inb (x this 5) 4 = true then jj_b1 (f_Ma_enter this a2 (jj_set x this 5 ((x this 5) + 1))) (fun x2 => if jj_inb a2 4 = true then rec 38 [some (.ref this), none, none, some (.ref (this + 2 + 5 * (Int32.toNatClampNeg (x this 5)))), some (.int ((x2 (a1 + 3 + 2 * (Int32.toNatClampNeg a2)) 0) - 1)), none] x2 else none) else none
set_option maxHeartbeats 2000000 in
theorem t_Ma_call_0 {X : jj_X} {d : Nat} (rec : Nat → List (Option Value) → jj_Mem → Option (jj_Mem)) (hrec : ∀ (L : Nat) (lo : List (Option Value)) (x : jj_Mem) (q : jj_Mem), rec L lo x = some q → jj_J Y0 X (d + 3) m_Ma_call L lo [] x (jp_v q)) {this : Nat} {a1 : Nat} {a2 : Int32} (h_this : o_Ma this) (h_a1 : o_Pr a1) {x : jj_Mem} {q : jj_Mem} (h : k_Ma_call_0 rec this a1 a2 x = some q) : jj_J Y0 X (d + 3) m_Ma_call 0 [some (.ref this), some (.ref a1), some (.int a2), none, none, none] [] x (jp_v q) := by
  unfold k_Ma_call_0 at h
  refine jj_aload_n d_Ma_call_0 rfl ?_
  refine jj_getR d_Ma_call_1 fk_Ma_11 (sh_Ma h_this).2 (sh_Ma h_this).1 rfl ?_
  refine jj_aload_n d_Ma_call_4 rfl ?_
  refine jj_getI d_Ma_call_5 fk_Ma_38 (sh_Ma h_this).2 (sh_Ma h_this).1 rfl rfl ?_
  obtain ⟨i1, h⟩ := jj_gt h
  refine jj_aaload d_Ma_call_8 rfl (pa_Ma_states h_this).1 (pa_Ma_states h_this).2 (jj_inn i1) rfl ?_
  refine jj_astore_n (lo' := [_, _, _, _, _, _]) d_Ma_call_9 rfl (by decide) rfl ?_
  refine jj_aload_n d_Ma_call_10 rfl ?_
  refine jj_dup d_Ma_call_11 rfl ?_
  refine jj_getI d_Ma_call_12 fk_Ma_38 (sh_Ma h_this).2 (sh_Ma h_this).1 rfl rfl ?_
  refine jj_iconst d_Ma_call_15 jc_i_1 ?_
  refine jj_iadd d_Ma_call_16 ?_
  refine jj_putI d_Ma_call_17 pk_Ma_38 (sh_Ma h_this).2 (sh_Ma h_this).1 rfl ?_
  refine jj_aload_n d_Ma_call_20 rfl ?_
  refine jj_iload_n d_Ma_call_21 rfl ?_
  obtain ⟨x2, e2, h⟩ := jj_b1o h
  refine jj_callVv (as := [.int a2]) (c_Ma_enter (d := d + 0) h_this e2) d_Ma_call_22 ck_Ma_41 (sh_Ma h_this).2 (sh_Ma h_this).1 ⟨_, rfl, rfl⟩ rfl rfl (Nat.le_of_ble_eq_true rfl) ?_
  refine jj_aload_n d_Ma_call_25 rfl ?_
  refine jj_getR d_Ma_call_26 fk_Ma_45 (sh_Pr h_a1).2 (sh_Pr h_a1).1 rfl ?_
  refine jj_iload_n d_Ma_call_29 rfl ?_
  obtain ⟨i3, h⟩ := jj_gt h
  refine jj_aaload d_Ma_call_30 rfl (pa_Pr_parts h_a1).1 (pa_Pr_parts h_a1).2 (jj_inn i3) rfl ?_
  refine jj_getI d_Ma_call_31 fk_Ma_51 (sh_Me (el_Pr_parts h_a1 i3)).2 (sh_Me (el_Pr_parts h_a1 i3)).1 rfl rfl ?_
  refine jj_iconst d_Ma_call_34 jc_i_1 ?_
  refine jj_isub d_Ma_call_35 ?_
  refine jj_istore (lo' := [_, _, _, _, _, _]) d_Ma_call_36 rfl (by decide) rfl ?_
  exact jj_J.sub (hrec _ _ _ _ h) (fun i v hi => jj_mask_ok [true, false, false, true, true, false] hi)
def f_Ma_call (this : Nat) (a1 : Nat) (a2 : Int32) (x : jj_Mem) : Option (jj_Mem) := k_Ma_call_0 (g_Ma_call 1000) this a1 a2 x
theorem c_Ma_call {X : jj_X} {d : Nat} {this : Nat} {a1 : Nat} {a2 : Int32} (h_this : o_Ma this) (h_a1 : o_Pr a1) {x : jj_Mem} {q : jj_Mem} (h : f_Ma_call this a1 a2 x = some q) : jj_Met Y0 X (d + 3) m_Ma_call [.ref this, .ref a1, .int a2] x (jp_v q) :=
  jj_metp 3 (lo := [some (.ref this), some (.ref a1), some (.int a2), none, none, none]) rfl (Nat.le_of_ble_eq_true rfl) rfl (t_Ma_call_0 _ (t_Ma_call_g 1000) h_this h_a1 h)
def k_Rd_readsCode_34 (rec : Nat → List (Option Value) → jj_Mem → Option (Int32 × jj_Mem)) (l0 : Nat) (l1 : Nat) (l2 : Nat) (l3 : Int32) (l4 : Int32) (x : jj_Mem) : Option (Int32 × jj_Mem) :=
  (if 60 ≤ l4 then some (1, x) else (if l3 ≤ (x l0 0) then some (1, x) else if jj_inb ((x l0 0) - (x l2 5)) 60 = true then jj_b2 (f_Rd_readsInstruction l0 l1 l2 l3 (jj_set x (l0 + 1) (Int32.toNatClampNeg ((x l0 0) - (x l2 5))) 1)) (fun r4 x4 => (if r4 = 0 then some (0, x4) else rec 34 [some (.ref l0), some (.ref l1), some (.ref l2), some (.int l3), some (.int (l4 + 1))] x4)) else none))
set_option maxHeartbeats 2000000 in
theorem t_Rd_readsCode_34 {X : jj_X} {d : Nat} (rec : Nat → List (Option Value) → jj_Mem → Option (Int32 × jj_Mem)) (hrec : ∀ (L : Nat) (lo : List (Option Value)) (x : jj_Mem) (q : Int32 × jj_Mem), rec L lo x = some q → jj_J Y0 X (d + 3) m_Rd_readsCode L lo [] x (jp_i q)) {l0 : Nat} {l1 : Nat} {l2 : Nat} {l3 : Int32} {l4 : Int32} (h_l0 : o_Rd l0) (h_l1 : o_Pr l1) (h_l2 : o_Me l2) {x : jj_Mem} {q : Int32 × jj_Mem} (h : k_Rd_readsCode_34 rec l0 l1 l2 l3 l4 x = some q) : jj_J Y0 X (d + 3) m_Rd_readsCode 34 [some (.ref l0), some (.ref l1), some (.ref l2), some (.int l3), some (.int l4)] [] x (jp_i q) := by
  unfold k_Rd_readsCode_34 at h
  refine jj_iload d_Rd_readsCode_34 rfl ?_
  refine jj_bipush d_Rd_readsCode_36 jc_b_60 ?_
  refine jj_ic_ge (tgt := 82) d_Rd_readsCode_38 rfl (fun c1 => ?_) (fun c1 => ?_)
  · rw [if_pos c1] at h
    refine jj_iconst d_Rd_readsCode_82 jc_i_1 ?_
    cases h
    exact jj_zreturn d_Rd_readsCode_83 rfl (Or.inr rfl) ⟨rfl, rfl⟩
  · rw [if_neg c1] at h
    refine jj_aload_n d_Rd_readsCode_41 rfl ?_
    refine jj_getI d_Rd_readsCode_42 fk_Rd_15 (sh_Rd h_l0).2 (sh_Rd h_l0).1 rfl rfl ?_
    refine jj_iload_n d_Rd_readsCode_45 rfl ?_
    refine jj_ic_ge (tgt := 82) d_Rd_readsCode_46 rfl (fun c2 => ?_) (fun c2 => ?_)
    · rw [if_pos c2] at h
      refine jj_iconst d_Rd_readsCode_82 jc_i_1 ?_
      cases h
      exact jj_zreturn d_Rd_readsCode_83 rfl (Or.inr rfl) ⟨rfl, rfl⟩
    · rw [if_neg c2] at h
      refine jj_aload_n d_Rd_readsCode_49 rfl ?_
      refine jj_getR d_Rd_readsCode_50 fk_Rd_9 (sh_Rd h_l0).2 (sh_Rd h_l0).1 rfl ?_
      refine jj_aload_n d_Rd_readsCode_53 rfl ?_
      refine jj_getI d_Rd_readsCode_54 fk_Rd_15 (sh_Rd h_l0).2 (sh_Rd h_l0).1 rfl rfl ?_
      refine jj_aload_n d_Rd_readsCode_57 rfl ?_
      refine jj_getI d_Rd_readsCode_58 fk_Rd_95 (sh_Me h_l2).2 (sh_Me h_l2).1 rfl rfl ?_
      refine jj_isub d_Rd_readsCode_61 ?_
      refine jj_iconst d_Rd_readsCode_62 jc_i_1 ?_
      obtain ⟨i3, h⟩ := jj_gt h
      refine jj_bastore d_Rd_readsCode_63 rfl (ar_Rd_begins h_l0).1 (ar_Rd_begins h_l0).2 (jj_inn i3) (Or.inr rfl) ?_
      refine jj_aload_n d_Rd_readsCode_64 rfl ?_
      refine jj_aload_n d_Rd_readsCode_65 rfl ?_
      refine jj_aload_n d_Rd_readsCode_66 rfl ?_
      refine jj_iload_n d_Rd_readsCode_67 rfl ?_
      obtain ⟨r4, x4, e4, h⟩ := jj_b2o h
      refine jj_callVi (as := [.ref l1, .ref l2, .int l3]) (c_Rd_readsInstruction (d := d + 0) h_l0 h_l1 h_l2 e4) d_Rd_readsCode_68 ck_Rd_98 (sh_Rd h_l0).2 (sh_Rd h_l0).1 ⟨_, rfl, rfl⟩ rfl rfl (Nat.le_of_ble_eq_true rfl) ?_
      refine jj_if_ne (tgt := 76) d_Rd_readsCode_71 rfl (fun c5 => ?_) (fun c5 => ?_)
      · rw [if_neg c5] at h
        refine jj_iinc (lo' := [_, _, _, _, _]) (v := (l4 + 1)) d_Rd_readsCode_76 rfl (jc_a_1 _) rfl (by decide) rfl ?_
        refine jj_goto (tgt := 34) d_Rd_readsCode_79 rfl ?_
        exact jj_J.sub (hrec _ _ _ _ h) (fun i v hi => jj_mask_ok [true, true, true, true, true] hi)
      · rw [if_pos c5] at h
        refine jj_iconst d_Rd_readsCode_74 jc_i_0 ?_
        cases h
        exact jj_zreturn d_Rd_readsCode_75 rfl (Or.inl rfl) ⟨rfl, rfl⟩
def k_Rd_readsCode_2 (rec : Nat → List (Option Value) → jj_Mem → Option (Int32 × jj_Mem)) (l0 : Nat) (l1 : Nat) (l2 : Nat) (l3 : Int32) (x : jj_Mem) : Option (Int32 × jj_Mem) :=
  (if 60 ≤ l3 then rec 34 [some (.ref l0), some (.ref l1), some (.ref l2), some (.int ((x l2 5) + (x l2 6))), some (.int 0)] x else if jj_inb l3 60 = true then rec 2 [some (.ref l0), some (.ref l1), some (.ref l2), some (.int (l3 + 1)), none] (jj_set x (l0 + 1) (Int32.toNatClampNeg l3) 0) else none)
set_option maxHeartbeats 2000000 in
theorem t_Rd_readsCode_2 {X : jj_X} {d : Nat} (rec : Nat → List (Option Value) → jj_Mem → Option (Int32 × jj_Mem)) (hrec : ∀ (L : Nat) (lo : List (Option Value)) (x : jj_Mem) (q : Int32 × jj_Mem), rec L lo x = some q → jj_J Y0 X (d + 3) m_Rd_readsCode L lo [] x (jp_i q)) {l0 : Nat} {l1 : Nat} {l2 : Nat} {l3 : Int32} (h_l0 : o_Rd l0) (h_l1 : o_Pr l1) (h_l2 : o_Me l2) {x : jj_Mem} {q : Int32 × jj_Mem} (h : k_Rd_readsCode_2 rec l0 l1 l2 l3 x = some q) : jj_J Y0 X (d + 3) m_Rd_readsCode 2 [some (.ref l0), some (.ref l1), some (.ref l2), some (.int l3), none] [] x (jp_i q) := by
  unfold k_Rd_readsCode_2 at h
  refine jj_iload_n d_Rd_readsCode_2 rfl ?_
  refine jj_bipush d_Rd_readsCode_3 jc_b_60 ?_
  refine jj_ic_ge (tgt := 21) d_Rd_readsCode_5 rfl (fun c1 => ?_) (fun c1 => ?_)
  · rw [if_pos c1] at h
    refine jj_aload_n d_Rd_readsCode_21 rfl ?_
    refine jj_getI d_Rd_readsCode_22 fk_Rd_95 (sh_Me h_l2).2 (sh_Me h_l2).1 rfl rfl ?_
    refine jj_aload_n d_Rd_readsCode_25 rfl ?_
    refine jj_getI d_Rd_readsCode_26 fk_Rd_92 (sh_Me h_l2).2 (sh_Me h_l2).1 rfl rfl ?_
    refine jj_iadd d_Rd_readsCode_29 ?_
    refine jj_istore_n (lo' := [_, _, _, _, _]) d_Rd_readsCode_30 rfl (by decide) rfl ?_
    refine jj_iconst d_Rd_readsCode_31 jc_i_0 ?_
    refine jj_istore (lo' := [_, _, _, _, _]) d_Rd_readsCode_32 rfl (by decide) rfl ?_
    exact jj_J.sub (hrec _ _ _ _ h) (fun i v hi => jj_mask_ok [true, true, true, true, true] hi)
  · rw [if_neg c1] at h
    refine jj_aload_n d_Rd_readsCode_8 rfl ?_
    refine jj_getR d_Rd_readsCode_9 fk_Rd_9 (sh_Rd h_l0).2 (sh_Rd h_l0).1 rfl ?_
    refine jj_iload_n d_Rd_readsCode_12 rfl ?_
    refine jj_iconst d_Rd_readsCode_13 jc_i_0 ?_
    obtain ⟨i2, h⟩ := jj_gt h
    refine jj_bastore d_Rd_readsCode_14 rfl (ar_Rd_begins h_l0).1 (ar_Rd_begins h_l0).2 (jj_inn i2) (Or.inl rfl) ?_
    refine jj_iinc (lo' := [_, _, _, _, _]) (v := (l3 + 1)) d_Rd_readsCode_15 rfl (jc_a_1 _) rfl (by decide) rfl ?_
    refine jj_goto (tgt := 2) d_Rd_readsCode_18 rfl ?_
    exact jj_J.sub (hrec _ _ _ _ h) (fun i v hi => jj_mask_ok [true, true, true, true, false] hi)
def g_Rd_readsCode : Nat → Nat → List (Option Value) → jj_Mem → Option (Int32 × jj_Mem)
  | 0, _, _, _ => none
  | f + 1, L, lo, x => match L, lo with
    | 2, [some (.ref l0), some (.ref l1), some (.ref l2), some (.int l3), none] => if (bo_Rd l0 && bo_Pr l1 && bo_Me l2) = true then k_Rd_readsCode_2 (g_Rd_readsCode f) l0 l1 l2 l3 x else none
    | 34, [some (.ref l0), some (.ref l1), some (.ref l2), some (.int l3), some (.int l4)] => if (bo_Rd l0 && bo_Pr l1 && bo_Me l2) = true then k_Rd_readsCode_34 (g_Rd_readsCode f) l0 l1 l2 l3 l4 x else none
    | _, _ => none
set_option maxHeartbeats 2000000 in
theorem t_Rd_readsCode_g {X : jj_X} {d : Nat} : ∀ (f L : Nat) (lo : List (Option Value)) (x : jj_Mem) (q : Int32 × jj_Mem), g_Rd_readsCode f L lo x = some q → jj_J Y0 X (d + 3) m_Rd_readsCode L lo [] x (jp_i q) := by
  intro f
  induction f with
  | zero => intro L lo x q h; simp [g_Rd_readsCode] at h
  | succ f ih =>
    intro L lo x q h
    unfold g_Rd_readsCode at h
    split at h
    · obtain ⟨i1, h⟩ := jj_gt h
      exact t_Rd_readsCode_2 _ ih (ob_Rd (jj_andl (jj_andl i1))) (ob_Pr (jj_andr (jj_andl i1))) (ob_Me (jj_andr i1)) h
    · obtain ⟨i1, h⟩ := jj_gt h
      exact t_Rd_readsCode_34 _ ih (ob_Rd (jj_andl (jj_andl i1))) (ob_Pr (jj_andr (jj_andl i1))) (ob_Me (jj_andr i1)) h
    · cases h
def k_Rd_readsCode_0 (rec : Nat → List (Option Value) → jj_Mem → Option (Int32 × jj_Mem)) (this : Nat) (a1 : Nat) (a2 : Nat) (x : jj_Mem) : Option (Int32 × jj_Mem) :=
  rec 2 [some (.ref this), some (.ref a1), some (.ref a2), some (.int 0), none] x
set_option maxHeartbeats 2000000 in
theorem t_Rd_readsCode_0 {X : jj_X} {d : Nat} (rec : Nat → List (Option Value) → jj_Mem → Option (Int32 × jj_Mem)) (hrec : ∀ (L : Nat) (lo : List (Option Value)) (x : jj_Mem) (q : Int32 × jj_Mem), rec L lo x = some q → jj_J Y0 X (d + 3) m_Rd_readsCode L lo [] x (jp_i q)) {this : Nat} {a1 : Nat} {a2 : Nat} (h_this : o_Rd this) (h_a1 : o_Pr a1) (h_a2 : o_Me a2) {x : jj_Mem} {q : Int32 × jj_Mem} (h : k_Rd_readsCode_0 rec this a1 a2 x = some q) : jj_J Y0 X (d + 3) m_Rd_readsCode 0 [some (.ref this), some (.ref a1), some (.ref a2), none, none] [] x (jp_i q) := by
  unfold k_Rd_readsCode_0 at h
  refine jj_iconst d_Rd_readsCode_0 jc_i_0 ?_
  refine jj_istore_n (lo' := [_, _, _, _, _]) d_Rd_readsCode_1 rfl (by decide) rfl ?_
  exact jj_J.sub (hrec _ _ _ _ h) (fun i v hi => jj_mask_ok [true, true, true, true, false] hi)
def f_Rd_readsCode (this : Nat) (a1 : Nat) (a2 : Nat) (x : jj_Mem) : Option (Int32 × jj_Mem) := k_Rd_readsCode_0 (g_Rd_readsCode 1000) this a1 a2 x
theorem c_Rd_readsCode {X : jj_X} {d : Nat} {this : Nat} {a1 : Nat} {a2 : Nat} (h_this : o_Rd this) (h_a1 : o_Pr a1) (h_a2 : o_Me a2) {x : jj_Mem} {q : Int32 × jj_Mem} (h : f_Rd_readsCode this a1 a2 x = some q) : jj_Met Y0 X (d + 3) m_Rd_readsCode [.ref this, .ref a1, .ref a2] x (jp_i q) :=
  jj_metp 2 (lo := [some (.ref this), some (.ref a1), some (.ref a2), none, none]) rfl (Nat.le_of_ble_eq_true rfl) rfl (t_Rd_readsCode_0 _ (t_Rd_readsCode_g 1000) h_this h_a1 h_a2 h)
def k_St_allows_67 (l0 : Nat) (l1 : Nat) (l2 : Nat) (l3 : Int32) (l5 : Int32) (x : jj_Mem) : Option (Int32 × jj_Mem) :=
  jj_b2 (f_Pr_putCount l1 l2 l3 x) (fun r1 x1 => (if (x1 l2 3) < (((x l0 4) - l5) + r1) then some (0, x1) else some (1, x1)))
set_option maxHeartbeats 2000000 in
theorem t_St_allows_67 {X : jj_X} {d : Nat} {l0 : Nat} {l1 : Nat} {l2 : Nat} {l3 : Int32} {l5 : Int32} (h_l0 : o_St l0) (h_l1 : o_Pr l1) (h_l2 : o_Me l2) {x : jj_Mem} {q : Int32 × jj_Mem} (h : k_St_allows_67 l0 l1 l2 l3 l5 x = some q) : jj_J Y0 X (d + 3) m_St_allows 67 [some (.ref l0), some (.ref l1), some (.ref l2), some (.int l3), none, some (.int l5)] [] x (jp_i q) := by
  unfold k_St_allows_67 at h
  refine jj_aload_n d_St_allows_67 rfl ?_
  refine jj_getI d_St_allows_68 fk_St_28 (sh_St h_l0).2 (sh_St h_l0).1 rfl rfl ?_
  refine jj_iload d_St_allows_71 rfl ?_
  refine jj_isub d_St_allows_73 ?_
  refine jj_aload_n d_St_allows_74 rfl ?_
  refine jj_aload_n d_St_allows_75 rfl ?_
  refine jj_iload_n d_St_allows_76 rfl ?_
  obtain ⟨r1, x1, e1, h⟩ := jj_b2o h
  refine jj_callVi (as := [.ref l2, .int l3]) (c_Pr_putCount (d := d + 1) h_l1 h_l2 e1) d_St_allows_77 ck_St_81 (sh_Pr h_l1).2 (sh_Pr h_l1).1 ⟨_, rfl, rfl⟩ rfl rfl (Nat.le_of_ble_eq_true rfl) ?_
  refine jj_iadd d_St_allows_80 ?_
  refine jj_aload_n d_St_allows_81 rfl ?_
  refine jj_getI d_St_allows_82 fk_St_84 (sh_Me h_l2).2 (sh_Me h_l2).1 rfl rfl ?_
  refine jj_ic_gt (tgt := 92) d_St_allows_85 rfl (fun c2 => ?_) (fun c2 => ?_)
  · rw [if_pos c2] at h
    refine jj_iconst d_St_allows_92 jc_i_0 ?_
    cases h
    exact jj_zreturn d_St_allows_93 rfl (Or.inl rfl) ⟨rfl, rfl⟩
  · rw [if_neg c2] at h
    refine jj_iconst d_St_allows_88 jc_i_1 ?_
    refine jj_goto (tgt := 93) d_St_allows_89 rfl ?_
    cases h
    exact jj_zreturn d_St_allows_93 rfl (Or.inr rfl) ⟨rfl, rfl⟩
def f_St_allows (this : Nat) (a1 : Nat) (a2 : Nat) (a3 : Int32) (x : jj_Mem) : Option (Int32 × jj_Mem) :=
  jj_b2 (f_Pr_code a1 a2 a3 x) (fun r1 x1 => jj_b2 (f_Pr_takenCount a1 a2 a3 x1) (fun r2 x2 => (if (x2 this 4) < r2 then some (0, x2) else jj_b2 (f_St_hasTaken this a1 a2 a3 r2 x2) (fun r4 x4 => (if r4 = 0 then some (0, x4) else jj_b2 (f_St_hasPlace this a1 a2 a3 x4) (fun r6 x6 => (if r6 = 0 then some (0, x6) else jj_b1 (s_In_isReturn r1) (fun r8 => (if r8 = 0 then k_St_allows_67 this a1 a2 a3 r2 x6 else jj_b1 (s_In_typeOfReturn r1) (fun r10 => (if (x6 a2 2) = r10 then k_St_allows_67 this a1 a2 a3 r2 x6 else some (0, x6))))))))))))
set_option maxHeartbeats 2000000 in
theorem t_St_allows_0 {X : jj_X} {d : Nat} {this : Nat} {a1 : Nat} {a2 : Nat} {a3 : Int32} (h_this : o_St this) (h_a1 : o_Pr a1) (h_a2 : o_Me a2) {x : jj_Mem} {q : Int32 × jj_Mem} (h : f_St_allows this a1 a2 a3 x = some q) : jj_J Y0 X (d + 3) m_St_allows 0 [some (.ref this), some (.ref a1), some (.ref a2), some (.int a3), none, none] [] x (jp_i q) := by
  unfold f_St_allows at h
  refine jj_aload_n d_St_allows_0 rfl ?_
  refine jj_aload_n d_St_allows_1 rfl ?_
  refine jj_iload_n d_St_allows_2 rfl ?_
  obtain ⟨r1, x1, e1, h⟩ := jj_b2o h
  refine jj_callVi (as := [.ref a2, .int a3]) (c_Pr_code (d := d + 2) h_a1 h_a2 e1) d_St_allows_3 ck_St_50 (sh_Pr h_a1).2 (sh_Pr h_a1).1 ⟨_, rfl, rfl⟩ rfl rfl (Nat.le_of_ble_eq_true rfl) ?_
  refine jj_istore (lo' := [_, _, _, _, _, _]) d_St_allows_6 rfl (by decide) rfl ?_
  refine jj_aload_n d_St_allows_8 rfl ?_
  refine jj_aload_n d_St_allows_9 rfl ?_
  refine jj_iload_n d_St_allows_10 rfl ?_
  obtain ⟨r2, x2, e2, h⟩ := jj_b2o h
  refine jj_callVi (as := [.ref a2, .int a3]) (c_Pr_takenCount (d := d + 1) h_a1 h_a2 e2) d_St_allows_11 ck_St_56 (sh_Pr h_a1).2 (sh_Pr h_a1).1 ⟨_, rfl, rfl⟩ rfl rfl (Nat.le_of_ble_eq_true rfl) ?_
  refine jj_istore (lo' := [_, _, _, _, _, _]) d_St_allows_14 rfl (by decide) rfl ?_
  refine jj_aload_n d_St_allows_16 rfl ?_
  refine jj_getI d_St_allows_17 fk_St_28 (sh_St h_this).2 (sh_St h_this).1 rfl rfl ?_
  refine jj_iload d_St_allows_20 rfl ?_
  refine jj_ic_lt (tgt := 92) d_St_allows_22 rfl (fun c3 => ?_) (fun c3 => ?_)
  · rw [if_pos c3] at h
    refine jj_iconst d_St_allows_92 jc_i_0 ?_
    cases h
    exact jj_zreturn d_St_allows_93 rfl (Or.inl rfl) ⟨rfl, rfl⟩
  · rw [if_neg c3] at h
    refine jj_aload_n d_St_allows_25 rfl ?_
    refine jj_aload_n d_St_allows_26 rfl ?_
    refine jj_aload_n d_St_allows_27 rfl ?_
    refine jj_iload_n d_St_allows_28 rfl ?_
    refine jj_iload d_St_allows_29 rfl ?_
    obtain ⟨r4, x4, e4, h⟩ := jj_b2o h
    refine jj_callVi (as := [.ref a1, .ref a2, .int a3, .int r2]) (c_St_hasTaken (d := d + 0) h_this h_a1 h_a2 e4) d_St_allows_31 ck_St_59 (sh_St h_this).2 (sh_St h_this).1 ⟨_, rfl, rfl⟩ rfl rfl (Nat.le_of_ble_eq_true rfl) ?_
    refine jj_if_eq (tgt := 92) d_St_allows_34 rfl (fun c5 => ?_) (fun c5 => ?_)
    · rw [if_pos c5] at h
      refine jj_iconst d_St_allows_92 jc_i_0 ?_
      cases h
      exact jj_zreturn d_St_allows_93 rfl (Or.inl rfl) ⟨rfl, rfl⟩
    · rw [if_neg c5] at h
      refine jj_aload_n d_St_allows_37 rfl ?_
      refine jj_aload_n d_St_allows_38 rfl ?_
      refine jj_aload_n d_St_allows_39 rfl ?_
      refine jj_iload_n d_St_allows_40 rfl ?_
      obtain ⟨r6, x6, e6, h⟩ := jj_b2o h
      refine jj_callVi (as := [.ref a1, .ref a2, .int a3]) (c_St_hasPlace (d := d + 1) h_this h_a1 h_a2 e6) d_St_allows_41 ck_St_63 (sh_St h_this).2 (sh_St h_this).1 ⟨_, rfl, rfl⟩ rfl rfl (Nat.le_of_ble_eq_true rfl) ?_
      refine jj_if_eq (tgt := 92) d_St_allows_44 rfl (fun c7 => ?_) (fun c7 => ?_)
      · rw [if_pos c7] at h
        refine jj_iconst d_St_allows_92 jc_i_0 ?_
        cases h
        exact jj_zreturn d_St_allows_93 rfl (Or.inl rfl) ⟨rfl, rfl⟩
      · rw [if_neg c7] at h
        refine jj_iload d_St_allows_47 rfl ?_
        obtain ⟨r8, e8, h⟩ := jj_b1o h
        refine jj_callSi (as := [.int r1]) (c_In_isReturn (d := d + 2)  e8) d_St_allows_49 ck_St_67 rfl rfl (Nat.le_of_ble_eq_true rfl) ?_
        refine jj_if_eq (tgt := 67) d_St_allows_52 rfl (fun c9 => ?_) (fun c9 => ?_)
        · rw [if_pos c9] at h
          exact jj_J.sub (t_St_allows_67 h_this h_a1 h_a2 h) (fun i v hi => jj_mask_ok [true, true, true, true, false, true] hi)
        · rw [if_neg c9] at h
          refine jj_aload_n d_St_allows_55 rfl ?_
          refine jj_getI d_St_allows_56 fk_St_73 (sh_Me h_a2).2 (sh_Me h_a2).1 rfl rfl ?_
          refine jj_iload d_St_allows_59 rfl ?_
          obtain ⟨r10, e10, h⟩ := jj_b1o h
          refine jj_callSi (as := [.int r1]) (c_In_typeOfReturn (d := d + 2)  e10) d_St_allows_61 ck_St_78 rfl rfl (Nat.le_of_ble_eq_true rfl) ?_
          refine jj_ic_ne (tgt := 92) d_St_allows_64 rfl (fun c11 => ?_) (fun c11 => ?_)
          · rw [if_neg c11] at h
            refine jj_iconst d_St_allows_92 jc_i_0 ?_
            cases h
            exact jj_zreturn d_St_allows_93 rfl (Or.inl rfl) ⟨rfl, rfl⟩
          · rw [if_pos c11] at h
            exact jj_J.sub (t_St_allows_67 h_this h_a1 h_a2 h) (fun i v hi => jj_mask_ok [true, true, true, true, false, true] hi)
theorem c_St_allows {X : jj_X} {d : Nat} {this : Nat} {a1 : Nat} {a2 : Nat} {a3 : Int32} (h_this : o_St this) (h_a1 : o_Pr a1) (h_a2 : o_Me a2) {x : jj_Mem} {q : Int32 × jj_Mem} (h : f_St_allows this a1 a2 a3 x = some q) : jj_Met Y0 X (d + 3) m_St_allows [.ref this, .ref a1, .ref a2, .int a3] x (jp_i q) :=
  jj_metp 2 (lo := [some (.ref this), some (.ref a1), some (.ref a2), some (.int a3), none, none]) rfl (Nat.le_of_ble_eq_true rfl) rfl (t_St_allows_0 h_this h_a1 h_a2 h)
def k_Ck_firstRefused_142 (rec : Nat → List (Option Value) → jj_Mem → Option (Int32 × jj_Mem)) (l0 : Nat) (l1 : Nat) (l2 : Nat) (l3 : Int32) (l4 : Int32) (s0 : Nat) (s1 : Int32) (x : jj_Mem) : Option (Int32 × jj_Mem) :=
  if jj_zb s1 = true then jj_b1 (s_In_length l3) (fun r2 => rec 48 [some (.ref l0), some (.ref l1), some (.ref l2), none, some (.int (l4 + (if 1 < r2 then r2 else 1)))] (jj_set x s0 1 s1)) else none
set_option maxHeartbeats 2000000 in
theorem t_Ck_firstRefused_142 {X : jj_X} {d : Nat} (rec : Nat → List (Option Value) → jj_Mem → Option (Int32 × jj_Mem)) (hrec : ∀ (L : Nat) (lo : List (Option Value)) (x : jj_Mem) (q : Int32 × jj_Mem), rec L lo x = some q → jj_J Y0 X (d + 4) m_Ck_firstRefused L lo [] x (jp_i q)) {l0 : Nat} {l1 : Nat} {l2 : Nat} {l3 : Int32} {l4 : Int32} {s0 : Nat} {s1 : Int32} (h_l0 : o_Ck l0) (h_l1 : o_Pr l1) (h_l2 : o_Me l2) (h_s0 : o_Ck s0) {x : jj_Mem} {q : Int32 × jj_Mem} (h : k_Ck_firstRefused_142 rec l0 l1 l2 l3 l4 s0 s1 x = some q) : jj_J Y0 X (d + 4) m_Ck_firstRefused 142 [some (.ref l0), some (.ref l1), some (.ref l2), some (.int l3), some (.int l4)] [.int s1, .ref s0] x (jp_i q) := by
  unfold k_Ck_firstRefused_142 at h
  obtain ⟨i1, h⟩ := jj_gt h
  refine jj_putZ d_Ck_firstRefused_142 pk_Ck_37 (sh_Ck h_s0).2 (sh_Ck h_s0).1 rfl (jj_zbo i1) ?_
  refine jj_iload d_Ck_firstRefused_145 rfl ?_
  refine jj_iconst d_Ck_firstRefused_147 jc_i_1 ?_
  refine jj_iload_n d_Ck_firstRefused_148 rfl ?_
  obtain ⟨r2, e2, h⟩ := jj_b1o h
  refine jj_callSi (as := [.int l3]) (c_In_length (d := d + 2)  e2) d_Ck_firstRefused_149 ck_Ck_67 rfl rfl (Nat.le_of_ble_eq_true rfl) ?_
  refine jj_max d_Ck_firstRefused_152 cw_max_Ck_71 cw_max2 cw_max3 cw_max4 (Nat.le_of_ble_eq_true rfl) ?_
  refine jj_iadd d_Ck_firstRefused_155 ?_
  refine jj_istore (lo' := [_, _, _, _, _]) d_Ck_firstRefused_156 rfl (by decide) rfl ?_
  refine jj_goto (tgt := 48) d_Ck_firstRefused_158 rfl ?_
  exact jj_J.sub (hrec _ _ _ _ h) (fun i v hi => jj_mask_ok [true, true, true, false, true] hi)
def k_Ck_firstRefused_141 (rec : Nat → List (Option Value) → jj_Mem → Option (Int32 × jj_Mem)) (l0 : Nat) (l1 : Nat) (l2 : Nat) (l3 : Int32) (l4 : Int32) (s0 : Nat) (x : jj_Mem) : Option (Int32 × jj_Mem) :=
  k_Ck_firstRefused_142 rec l0 l1 l2 l3 l4 s0 0 x
set_option maxHeartbeats 2000000 in
theorem t_Ck_firstRefused_141 {X : jj_X} {d : Nat} (rec : Nat → List (Option Value) → jj_Mem → Option (Int32 × jj_Mem)) (hrec : ∀ (L : Nat) (lo : List (Option Value)) (x : jj_Mem) (q : Int32 × jj_Mem), rec L lo x = some q → jj_J Y0 X (d + 4) m_Ck_firstRefused L lo [] x (jp_i q)) {l0 : Nat} {l1 : Nat} {l2 : Nat} {l3 : Int32} {l4 : Int32} {s0 : Nat} (h_l0 : o_Ck l0) (h_l1 : o_Pr l1) (h_l2 : o_Me l2) (h_s0 : o_Ck s0) {x : jj_Mem} {q : Int32 × jj_Mem} (h : k_Ck_firstRefused_141 rec l0 l1 l2 l3 l4 s0 x = some q) : jj_J Y0 X (d + 4) m_Ck_firstRefused 141 [some (.ref l0), some (.ref l1), some (.ref l2), some (.int l3), some (.int l4)] [.ref s0] x (jp_i q) := by
  unfold k_Ck_firstRefused_141 at h
  refine jj_iconst d_Ck_firstRefused_141 jc_i_0 ?_
  exact jj_J.sub (t_Ck_firstRefused_142 rec hrec h_l0 h_l1 h_l2 h_s0 h) (fun i v hi => jj_mask_ok [true, true, true, true, true] hi)
def k_Ck_firstRefused_48 (rec : Nat → List (Option Value) → jj_Mem → Option (Int32 × jj_Mem)) (l0 : Nat) (l1 : Nat) (l2 : Nat) (l4 : Int32) (x : jj_Mem) : Option (Int32 × jj_Mem) :=
  (if (x l2 6) ≤ l4 then (if (x l0 1) = 0 then some ((-1), x) else some ((x l2 6), x)) else jj_b2 (f_Pr_code l1 l2 l4 x) (fun r3 x3 => jj_b2 (f_Ck_entersFrame l0 l1 l2 l4 x3) (fun r4 x4 => (if r4 = 0 then some (l4, x4) else (if (x4 l0 1) = 0 then some (l4, x4) else jj_b2 (f_St_allows (l0 + 1) l1 l2 l4 x4) (fun r7 x7 => (if r7 = 0 then some (l4, x7) else jj_b1 (f_Ck_change l0 l1 l2 l4 x7) (fun x9 => jj_b2 (f_Ck_mayGoToTarget l0 l1 l2 l4 x9) (fun r10 x10 => (if r10 = 0 then some (l4, x10) else (if r3 = 167 then k_Ck_firstRefused_141 rec l0 l1 l2 r3 l4 l0 x10 else jj_b1 (s_In_isReturn r3) (fun r13 => (if r13 = 0 then k_Ck_firstRefused_142 rec l0 l1 l2 r3 l4 l0 1 x10 else k_Ck_firstRefused_141 rec l0 l1 l2 r3 l4 l0 x10)))))))))))))
set_option maxHeartbeats 2000000 in
theorem t_Ck_firstRefused_48 {X : jj_X} {d : Nat} (rec : Nat → List (Option Value) → jj_Mem → Option (Int32 × jj_Mem)) (hrec : ∀ (L : Nat) (lo : List (Option Value)) (x : jj_Mem) (q : Int32 × jj_Mem), rec L lo x = some q → jj_J Y0 X (d + 4) m_Ck_firstRefused L lo [] x (jp_i q)) {l0 : Nat} {l1 : Nat} {l2 : Nat} {l4 : Int32} (h_l0 : o_Ck l0) (h_l1 : o_Pr l1) (h_l2 : o_Me l2) {x : jj_Mem} {q : Int32 × jj_Mem} (h : k_Ck_firstRefused_48 rec l0 l1 l2 l4 x = some q) : jj_J Y0 X (d + 4) m_Ck_firstRefused 48 [some (.ref l0), some (.ref l1), some (.ref l2), none, some (.int l4)] [] x (jp_i q) := by
  unfold k_Ck_firstRefused_48 at h
  refine jj_iload d_Ck_firstRefused_48 rfl ?_
  refine jj_aload_n d_Ck_firstRefused_50 rfl ?_
  refine jj_getI d_Ck_firstRefused_51 fk_Ck_41 (sh_Me h_l2).2 (sh_Me h_l2).1 rfl rfl ?_
  refine jj_ic_ge (tgt := 161) d_Ck_firstRefused_54 rfl (fun c1 => ?_) (fun c1 => ?_)
  · rw [if_pos c1] at h
    refine jj_aload_n d_Ck_firstRefused_161 rfl ?_
    refine jj_getI d_Ck_firstRefused_162 fk_Ck_37 (sh_Ck h_l0).2 (sh_Ck h_l0).1 rfl rfl ?_
    refine jj_if_eq (tgt := 175) d_Ck_firstRefused_165 rfl (fun c2 => ?_) (fun c2 => ?_)
    · rw [if_pos c2] at h
      refine jj_iconst d_Ck_firstRefused_175 jc_i_m1 ?_
      cases h
      exact jj_ireturn d_Ck_firstRefused_176 rfl ⟨rfl, rfl⟩
    · rw [if_neg c2] at h
      refine jj_aload_n d_Ck_firstRefused_168 rfl ?_
      refine jj_getI d_Ck_firstRefused_169 fk_Ck_41 (sh_Me h_l2).2 (sh_Me h_l2).1 rfl rfl ?_
      refine jj_goto (tgt := 176) d_Ck_firstRefused_172 rfl ?_
      cases h
      exact jj_ireturn d_Ck_firstRefused_176 rfl ⟨rfl, rfl⟩
  · rw [if_neg c1] at h
    refine jj_aload_n d_Ck_firstRefused_57 rfl ?_
    refine jj_aload_n d_Ck_firstRefused_58 rfl ?_
    refine jj_iload d_Ck_firstRefused_59 rfl ?_
    obtain ⟨r3, x3, e3, h⟩ := jj_b2o h
    refine jj_callVi (as := [.ref l2, .int l4]) (c_Pr_code (d := d + 3) h_l1 h_l2 e3) d_Ck_firstRefused_61 ck_Ck_44 (sh_Pr h_l1).2 (sh_Pr h_l1).1 ⟨_, rfl, rfl⟩ rfl rfl (Nat.le_of_ble_eq_true rfl) ?_
    refine jj_istore_n (lo' := [_, _, _, _, _]) d_Ck_firstRefused_64 rfl (by decide) rfl ?_
    refine jj_aload_n d_Ck_firstRefused_65 rfl ?_
    refine jj_aload_n d_Ck_firstRefused_66 rfl ?_
    refine jj_aload_n d_Ck_firstRefused_67 rfl ?_
    refine jj_iload d_Ck_firstRefused_68 rfl ?_
    obtain ⟨r4, x4, e4, h⟩ := jj_b2o h
    refine jj_callVi (as := [.ref l1, .ref l2, .int l4]) (c_Ck_entersFrame (d := d + 1) h_l0 h_l1 h_l2 e4) d_Ck_firstRefused_70 ck_Ck_47 (sh_Ck h_l0).2 (sh_Ck h_l0).1 ⟨_, rfl, rfl⟩ rfl rfl (Nat.le_of_ble_eq_true rfl) ?_
    refine jj_if_eq (tgt := 97) d_Ck_firstRefused_73 rfl (fun c5 => ?_) (fun c5 => ?_)
    · rw [if_pos c5] at h
      refine jj_iload d_Ck_firstRefused_97 rfl ?_
      cases h
      exact jj_ireturn d_Ck_firstRefused_99 rfl ⟨rfl, rfl⟩
    · rw [if_neg c5] at h
      refine jj_aload_n d_Ck_firstRefused_76 rfl ?_
      refine jj_getI d_Ck_firstRefused_77 fk_Ck_37 (sh_Ck h_l0).2 (sh_Ck h_l0).1 rfl rfl ?_
      refine jj_if_eq (tgt := 97) d_Ck_firstRefused_80 rfl (fun c6 => ?_) (fun c6 => ?_)
      · rw [if_pos c6] at h
        refine jj_iload d_Ck_firstRefused_97 rfl ?_
        cases h
        exact jj_ireturn d_Ck_firstRefused_99 rfl ⟨rfl, rfl⟩
      · rw [if_neg c6] at h
        refine jj_aload_n d_Ck_firstRefused_83 rfl ?_
        refine jj_getR d_Ck_firstRefused_84 fk_Ck_12 (sh_Ck h_l0).2 (sh_Ck h_l0).1 rfl ?_
        refine jj_aload_n d_Ck_firstRefused_87 rfl ?_
        refine jj_aload_n d_Ck_firstRefused_88 rfl ?_
        refine jj_iload d_Ck_firstRefused_89 rfl ?_
        obtain ⟨r7, x7, e7, h⟩ := jj_b2o h
        refine jj_callVi (as := [.ref l1, .ref l2, .int l4]) (c_St_allows (d := d + 0) (ro_Ck_state h_l0) h_l1 h_l2 e7) d_Ck_firstRefused_91 ck_Ck_51 (sh_St (ro_Ck_state h_l0)).2 (sh_St (ro_Ck_state h_l0)).1 ⟨_, rfl, rfl⟩ rfl rfl (Nat.le_of_ble_eq_true rfl) ?_
        refine jj_if_ne (tgt := 100) d_Ck_firstRefused_94 rfl (fun c8 => ?_) (fun c8 => ?_)
        · rw [if_neg c8] at h
          refine jj_aload_n d_Ck_firstRefused_100 rfl ?_
          refine jj_aload_n d_Ck_firstRefused_101 rfl ?_
          refine jj_aload_n d_Ck_firstRefused_102 rfl ?_
          refine jj_iload d_Ck_firstRefused_103 rfl ?_
          obtain ⟨x9, e9, h⟩ := jj_b1o h
          refine jj_callVv (as := [.ref l1, .ref l2, .int l4]) (c_Ck_change (d := d + 1) h_l0 h_l1 h_l2 e9) d_Ck_firstRefused_105 ck_Ck_54 (sh_Ck h_l0).2 (sh_Ck h_l0).1 ⟨_, rfl, rfl⟩ rfl rfl (Nat.le_of_ble_eq_true rfl) ?_
          refine jj_aload_n d_Ck_firstRefused_108 rfl ?_
          refine jj_aload_n d_Ck_firstRefused_109 rfl ?_
          refine jj_aload_n d_Ck_firstRefused_110 rfl ?_
          refine jj_iload d_Ck_firstRefused_111 rfl ?_
          obtain ⟨r10, x10, e10, h⟩ := jj_b2o h
          refine jj_callVi (as := [.ref l1, .ref l2, .int l4]) (c_Ck_mayGoToTarget (d := d + 1) h_l0 h_l1 h_l2 e10) d_Ck_firstRefused_113 ck_Ck_58 (sh_Ck h_l0).2 (sh_Ck h_l0).1 ⟨_, rfl, rfl⟩ rfl rfl (Nat.le_of_ble_eq_true rfl) ?_
          refine jj_if_ne (tgt := 122) d_Ck_firstRefused_116 rfl (fun c11 => ?_) (fun c11 => ?_)
          · rw [if_neg c11] at h
            refine jj_aload_n d_Ck_firstRefused_122 rfl ?_
            refine jj_iload_n d_Ck_firstRefused_123 rfl ?_
            refine jj_sipush d_Ck_firstRefused_124 jc_s_167 ?_
            refine jj_ic_eq (tgt := 141) d_Ck_firstRefused_127 rfl (fun c12 => ?_) (fun c12 => ?_)
            · rw [if_pos c12] at h
              exact jj_J.sub (t_Ck_firstRefused_141 rec hrec h_l0 h_l1 h_l2 h_l0 h) (fun i v hi => jj_mask_ok [true, true, true, true, true] hi)
            · rw [if_neg c12] at h
              refine jj_iload_n d_Ck_firstRefused_130 rfl ?_
              obtain ⟨r13, e13, h⟩ := jj_b1o h
              refine jj_callSi (as := [.int r3]) (c_In_isReturn (d := d + 3)  e13) d_Ck_firstRefused_131 ck_Ck_63 rfl rfl (Nat.le_of_ble_eq_true rfl) ?_
              refine jj_if_ne (tgt := 141) d_Ck_firstRefused_134 rfl (fun c14 => ?_) (fun c14 => ?_)
              · rw [if_neg c14] at h
                exact jj_J.sub (t_Ck_firstRefused_141 rec hrec h_l0 h_l1 h_l2 h_l0 h) (fun i v hi => jj_mask_ok [true, true, true, true, true] hi)
              · rw [if_pos c14] at h
                refine jj_iconst d_Ck_firstRefused_137 jc_i_1 ?_
                refine jj_goto (tgt := 142) d_Ck_firstRefused_138 rfl ?_
                exact jj_J.sub (t_Ck_firstRefused_142 rec hrec h_l0 h_l1 h_l2 h_l0 h) (fun i v hi => jj_mask_ok [true, true, true, true, true] hi)
          · rw [if_pos c11] at h
            refine jj_iload d_Ck_firstRefused_119 rfl ?_
            cases h
            exact jj_ireturn d_Ck_firstRefused_121 rfl ⟨rfl, rfl⟩
        · rw [if_pos c8] at h
          refine jj_iload d_Ck_firstRefused_97 rfl ?_
          cases h
          exact jj_ireturn d_Ck_firstRefused_99 rfl ⟨rfl, rfl⟩
def k_Ck_firstRefused_9 (rec : Nat → List (Option Value) → jj_Mem → Option (Int32 × jj_Mem)) (l0 : Nat) (l1 : Nat) (l2 : Nat) (l3 : Int32) (x : jj_Mem) : Option (Int32 × jj_Mem) :=
  (if (x l2 0) ≤ l3 then rec 48 [some (.ref l0), some (.ref l1), some (.ref l2), none, some (.int 0)] (jj_set x l0 1 1) else jj_b2 (f_Pr_parameterType l1 l2 l3 x) (fun r2 x2 => jj_b1 (f_St_setPlace (l0 + 1) l3 r2 0 x2) (fun x3 => rec 9 [some (.ref l0), some (.ref l1), some (.ref l2), some (.int (l3 + 1)), none] x3)))
set_option maxHeartbeats 2000000 in
theorem t_Ck_firstRefused_9 {X : jj_X} {d : Nat} (rec : Nat → List (Option Value) → jj_Mem → Option (Int32 × jj_Mem)) (hrec : ∀ (L : Nat) (lo : List (Option Value)) (x : jj_Mem) (q : Int32 × jj_Mem), rec L lo x = some q → jj_J Y0 X (d + 4) m_Ck_firstRefused L lo [] x (jp_i q)) {l0 : Nat} {l1 : Nat} {l2 : Nat} {l3 : Int32} (h_l0 : o_Ck l0) (h_l1 : o_Pr l1) (h_l2 : o_Me l2) {x : jj_Mem} {q : Int32 × jj_Mem} (h : k_Ck_firstRefused_9 rec l0 l1 l2 l3 x = some q) : jj_J Y0 X (d + 4) m_Ck_firstRefused 9 [some (.ref l0), some (.ref l1), some (.ref l2), some (.int l3), none] [] x (jp_i q) := by
  unfold k_Ck_firstRefused_9 at h
  refine jj_iload_n d_Ck_firstRefused_9 rfl ?_
  refine jj_aload_n d_Ck_firstRefused_10 rfl ?_
  refine jj_getI d_Ck_firstRefused_11 fk_Ck_21 (sh_Me h_l2).2 (sh_Me h_l2).1 rfl rfl ?_
  refine jj_ic_ge (tgt := 38) d_Ck_firstRefused_14 rfl (fun c1 => ?_) (fun c1 => ?_)
  · rw [if_pos c1] at h
    refine jj_aload_n d_Ck_firstRefused_38 rfl ?_
    refine jj_iconst d_Ck_firstRefused_39 jc_i_1 ?_
    refine jj_putZ d_Ck_firstRefused_40 pk_Ck_37 (sh_Ck h_l0).2 (sh_Ck h_l0).1 rfl (Or.inr rfl) ?_
    refine jj_iconst d_Ck_firstRefused_43 jc_i_0 ?_
    refine jj_istore_n (lo' := [_, _, _, _, _]) d_Ck_firstRefused_44 rfl (by decide) rfl ?_
    refine jj_iconst d_Ck_firstRefused_45 jc_i_0 ?_
    refine jj_istore (lo' := [_, _, _, _, _]) d_Ck_firstRefused_46 rfl (by decide) rfl ?_
    exact jj_J.sub (hrec _ _ _ _ h) (fun i v hi => jj_mask_ok [true, true, true, false, true] hi)
  · rw [if_neg c1] at h
    refine jj_aload_n d_Ck_firstRefused_17 rfl ?_
    refine jj_getR d_Ck_firstRefused_18 fk_Ck_12 (sh_Ck h_l0).2 (sh_Ck h_l0).1 rfl ?_
    refine jj_iload_n d_Ck_firstRefused_21 rfl ?_
    refine jj_aload_n d_Ck_firstRefused_22 rfl ?_
    refine jj_aload_n d_Ck_firstRefused_23 rfl ?_
    refine jj_iload_n d_Ck_firstRefused_24 rfl ?_
    obtain ⟨r2, x2, e2, h⟩ := jj_b2o h
    refine jj_callVi (as := [.ref l2, .int l3]) (c_Pr_parameterType (d := d + 3) h_l1 h_l2 e2) d_Ck_firstRefused_25 ck_Ck_27 (sh_Pr h_l1).2 (sh_Pr h_l1).1 ⟨_, rfl, rfl⟩ rfl rfl (Nat.le_of_ble_eq_true rfl) ?_
    refine jj_iconst d_Ck_firstRefused_28 jc_i_0 ?_
    obtain ⟨x3, e3, h⟩ := jj_b1o h
    refine jj_callVv (as := [.int l3, .int r2, .int 0]) (c_St_setPlace (d := d + 3) (ro_Ck_state h_l0) e3) d_Ck_firstRefused_29 ck_Ck_33 (sh_St (ro_Ck_state h_l0)).2 (sh_St (ro_Ck_state h_l0)).1 ⟨_, rfl, rfl⟩ rfl rfl (Nat.le_of_ble_eq_true rfl) ?_
    refine jj_iinc (lo' := [_, _, _, _, _]) (v := (l3 + 1)) d_Ck_firstRefused_32 rfl (jc_a_1 _) rfl (by decide) rfl ?_
    refine jj_goto (tgt := 9) d_Ck_firstRefused_35 rfl ?_
    exact jj_J.sub (hrec _ _ _ _ h) (fun i v hi => jj_mask_ok [true, true, true, true, false] hi)
def g_Ck_firstRefused : Nat → Nat → List (Option Value) → jj_Mem → Option (Int32 × jj_Mem)
  | 0, _, _, _ => none
  | f + 1, L, lo, x => match L, lo with
    | 9, [some (.ref l0), some (.ref l1), some (.ref l2), some (.int l3), none] => if (bo_Ck l0 && bo_Pr l1 && bo_Me l2) = true then k_Ck_firstRefused_9 (g_Ck_firstRefused f) l0 l1 l2 l3 x else none
    | 48, [some (.ref l0), some (.ref l1), some (.ref l2), none, some (.int l4)] => if (bo_Ck l0 && bo_Pr l1 && bo_Me l2) = true then k_Ck_firstRefused_48 (g_Ck_firstRefused f) l0 l1 l2 l4 x else none
    | _, _ => none
set_option maxHeartbeats 2000000 in
theorem t_Ck_firstRefused_g {X : jj_X} {d : Nat} : ∀ (f L : Nat) (lo : List (Option Value)) (x : jj_Mem) (q : Int32 × jj_Mem), g_Ck_firstRefused f L lo x = some q → jj_J Y0 X (d + 4) m_Ck_firstRefused L lo [] x (jp_i q) := by
  intro f
  induction f with
  | zero => intro L lo x q h; simp [g_Ck_firstRefused] at h
  | succ f ih =>
    intro L lo x q h
    unfold g_Ck_firstRefused at h
    split at h
    · obtain ⟨i1, h⟩ := jj_gt h
      exact t_Ck_firstRefused_9 _ ih (ob_Ck (jj_andl (jj_andl i1))) (ob_Pr (jj_andr (jj_andl i1))) (ob_Me (jj_andr i1)) h
    · obtain ⟨i1, h⟩ := jj_gt h
      exact t_Ck_firstRefused_48 _ ih (ob_Ck (jj_andl (jj_andl i1))) (ob_Pr (jj_andr (jj_andl i1))) (ob_Me (jj_andr i1)) h
    · cases h
def k_Ck_firstRefused_0 (rec : Nat → List (Option Value) → jj_Mem → Option (Int32 × jj_Mem)) (this : Nat) (a1 : Nat) (a2 : Nat) (x : jj_Mem) : Option (Int32 × jj_Mem) :=
  jj_b1 (f_St_makeEmpty (this + 1) x) (fun x1 => rec 9 [some (.ref this), some (.ref a1), some (.ref a2), some (.int 0), none] x1)
set_option maxHeartbeats 2000000 in
theorem t_Ck_firstRefused_0 {X : jj_X} {d : Nat} (rec : Nat → List (Option Value) → jj_Mem → Option (Int32 × jj_Mem)) (hrec : ∀ (L : Nat) (lo : List (Option Value)) (x : jj_Mem) (q : Int32 × jj_Mem), rec L lo x = some q → jj_J Y0 X (d + 4) m_Ck_firstRefused L lo [] x (jp_i q)) {this : Nat} {a1 : Nat} {a2 : Nat} (h_this : o_Ck this) (h_a1 : o_Pr a1) (h_a2 : o_Me a2) {x : jj_Mem} {q : Int32 × jj_Mem} (h : k_Ck_firstRefused_0 rec this a1 a2 x = some q) : jj_J Y0 X (d + 4) m_Ck_firstRefused 0 [some (.ref this), some (.ref a1), some (.ref a2), none, none] [] x (jp_i q) := by
  unfold k_Ck_firstRefused_0 at h
  refine jj_aload_n d_Ck_firstRefused_0 rfl ?_
  refine jj_getR d_Ck_firstRefused_1 fk_Ck_12 (sh_Ck h_this).2 (sh_Ck h_this).1 rfl ?_
  obtain ⟨x1, e1, h⟩ := jj_b1o h
  refine jj_callVv (as := []) (c_St_makeEmpty (d := d + 2) (ro_Ck_state h_this) e1) d_Ck_firstRefused_4 ck_Ck_18 (sh_St (ro_Ck_state h_this)).2 (sh_St (ro_Ck_state h_this)).1 ⟨_, rfl, rfl⟩ rfl rfl (Nat.le_of_ble_eq_true rfl) ?_
  refine jj_iconst d_Ck_firstRefused_7 jc_i_0 ?_
  refine jj_istore_n (lo' := [_, _, _, _, _]) d_Ck_firstRefused_8 rfl (by decide) rfl ?_
  exact jj_J.sub (hrec _ _ _ _ h) (fun i v hi => jj_mask_ok [true, true, true, true, false] hi)
def f_Ck_firstRefused (this : Nat) (a1 : Nat) (a2 : Nat) (x : jj_Mem) : Option (Int32 × jj_Mem) := k_Ck_firstRefused_0 (g_Ck_firstRefused 1000) this a1 a2 x
theorem c_Ck_firstRefused {X : jj_X} {d : Nat} {this : Nat} {a1 : Nat} {a2 : Nat} (h_this : o_Ck this) (h_a1 : o_Pr a1) (h_a2 : o_Me a2) {x : jj_Mem} {q : Int32 × jj_Mem} (h : f_Ck_firstRefused this a1 a2 x = some q) : jj_Met Y0 X (d + 4) m_Ck_firstRefused [.ref this, .ref a1, .ref a2] x (jp_i q) :=
  jj_metp 2 (lo := [some (.ref this), some (.ref a1), some (.ref a2), none, none]) rfl (Nat.le_of_ble_eq_true rfl) rfl (t_Ck_firstRefused_0 _ (t_Ck_firstRefused_g 1000) h_this h_a1 h_a2 h)
def f_Ma_doOne (this : Nat) (a1 : Nat) (x : jj_Mem) : Option (Int32 × jj_Mem) :=
  if jj_inb (x this 5) 4 = true then if jj_inb (x this 5) 4 = true then if jj_inb (x (this + 22) (Int32.toNatClampNeg (x this 5))) 4 = true then if jj_inb (x this 5) 4 = true then (if (x (a1 + 3 + 2 * (Int32.toNatClampNeg (x (this + 22) (Int32.toNatClampNeg (x this 5))))) 6) ≤ (x (this + 23) (Int32.toNatClampNeg (x this 5))) then some (1, x) else jj_b2 (f_St_allows (this + 2 + 5 * (Int32.toNatClampNeg (x this 5))) a1 (a1 + 3 + 2 * (Int32.toNatClampNeg (x (this + 22) (Int32.toNatClampNeg (x this 5))))) (x (this + 23) (Int32.toNatClampNeg (x this 5))) x) (fun r6 x6 => (if r6 = 0 then some (1, x6) else jj_b2 (f_Pr_code a1 (a1 + 3 + 2 * (Int32.toNatClampNeg (x (this + 22) (Int32.toNatClampNeg (x this 5))))) (x (this + 23) (Int32.toNatClampNeg (x this 5))) x6) (fun r8 x8 => jj_b2 (f_Ma_trouble this (this + 2 + 5 * (Int32.toNatClampNeg (x this 5))) r8 x8) (fun r9 x9 => (if r9 = (-1) then jj_b1 (s_In_isReturn r8) (fun r11 => (if r11 = 0 then jj_b1 (s_In_length r8) (fun r13 => if jj_inb (x9 this 5) 4 = true then (if r8 = 184 then jj_b2 (f_Pr_operand a1 (a1 + 3 + 2 * (Int32.toNatClampNeg (x (this + 22) (Int32.toNatClampNeg (x this 5))))) (x (this + 23) (Int32.toNatClampNeg (x this 5))) (jj_set x9 (this + 23) (Int32.toNatClampNeg (x9 this 5)) ((x (this + 23) (Int32.toNatClampNeg (x this 5))) + r13))) (fun r26 x26 => jj_b1 (f_Ma_call this a1 r26 x26) (fun x27 => some ((-1), x27))) else jj_b1 (s_In_hasTarget r8) (fun r16 => (if r16 = 0 then jj_b1 (s_In_length r8) (fun r18 => (if r18 ≤ 1 then jj_b1 (f_Ma_doAlone this (this + 2 + 5 * (Int32.toNatClampNeg (x this 5))) r8 (jj_set x9 (this + 23) (Int32.toNatClampNeg (x9 this 5)) ((x (this + 23) (Int32.toNatClampNeg (x this 5))) + r13))) (fun x20 => some ((-1), x20)) else jj_b1 (f_Ma_doWithOperand this (this + 2 + 5 * (Int32.toNatClampNeg (x this 5))) a1 (a1 + 3 + 2 * (Int32.toNatClampNeg (x (this + 22) (Int32.toNatClampNeg (x this 5))))) (x (this + 23) (Int32.toNatClampNeg (x this 5))) (jj_set x9 (this + 23) (Int32.toNatClampNeg (x9 this 5)) ((x (this + 23) (Int32.toNatClampNeg (x this 5))) + r13))) (fun x21 => some ((-1), x21)))) else jj_b2 (f_Ma_goesToTarget this (this + 2 + 5 * (Int32.toNatClampNeg (x this 5))) r8 (jj_set x9 (this + 23) (Int32.toNatClampNeg (x9 this 5)) ((x (this + 23) (Int32.toNatClampNeg (x this 5))) + r13))) (fun r22 x22 => (if r22 = 0 then some ((-1), x22) else jj_b2 (f_Pr_target a1 (a1 + 3 + 2 * (Int32.toNatClampNeg (x (this + 22) (Int32.toNatClampNeg (x this 5))))) (x (this + 23) (Int32.toNatClampNeg (x this 5))) x22) (fun r24 x24 => if jj_inb (x22 this 5) 4 = true then some ((-1), (jj_set x24 (this + 23) (Int32.toNatClampNeg (x22 this 5)) r24)) else none)))))) else none) else jj_b2 (f_Ma_leave this (this + 2 + 5 * (Int32.toNatClampNeg (x this 5))) r8 x9) (fun r28 x28 => some (r28, x28)))) else some (r9, x9))))))) else none else none else none else none
set_option maxHeartbeats 2000000 in
theorem t_Ma_doOne_0 {X : jj_X} {d : Nat} {this : Nat} {a1 : Nat} (h_this : o_Ma this) (h_a1 : o_Pr a1) {x : jj_Mem} {q : Int32 × jj_Mem} (h : f_Ma_doOne this a1 x = some q) : jj_J Y0 X (d + 4) m_Ma_doOne 0 [some (.ref this), some (.ref a1), none, none, none, none, none] [] x (jp_i q) := by
  unfold f_Ma_doOne at h
  refine jj_aload_n d_Ma_doOne_0 rfl ?_
  refine jj_getR d_Ma_doOne_1 fk_Ma_11 (sh_Ma h_this).2 (sh_Ma h_this).1 rfl ?_
  refine jj_aload_n d_Ma_doOne_4 rfl ?_
  refine jj_getI d_Ma_doOne_5 fk_Ma_38 (sh_Ma h_this).2 (sh_Ma h_this).1 rfl rfl ?_
  obtain ⟨i1, h⟩ := jj_gt h
  refine jj_aaload d_Ma_doOne_8 rfl (pa_Ma_states h_this).1 (pa_Ma_states h_this).2 (jj_inn i1) rfl ?_
  refine jj_astore_n (lo' := [_, _, _, _, _, _, _]) d_Ma_doOne_9 rfl (by decide) rfl ?_
  refine jj_aload_n d_Ma_doOne_10 rfl ?_
  refine jj_getR d_Ma_doOne_11 fk_Ma_45 (sh_Pr h_a1).2 (sh_Pr h_a1).1 rfl ?_
  refine jj_aload_n d_Ma_doOne_14 rfl ?_
  refine jj_getR d_Ma_doOne_15 fk_Ma_18 (sh_Ma h_this).2 (sh_Ma h_this).1 rfl ?_
  refine jj_aload_n d_Ma_doOne_18 rfl ?_
  refine jj_getI d_Ma_doOne_19 fk_Ma_38 (sh_Ma h_this).2 (sh_Ma h_this).1 rfl rfl ?_
  obtain ⟨i2, h⟩ := jj_gt h
  refine jj_iaload d_Ma_doOne_22 rfl (ar_Ma_running h_this).1 (ar_Ma_running h_this).2 (jj_inn i2) rfl ?_
  obtain ⟨i3, h⟩ := jj_gt h
  refine jj_aaload d_Ma_doOne_23 rfl (pa_Pr_parts h_a1).1 (pa_Pr_parts h_a1).2 (jj_inn i3) rfl ?_
  refine jj_astore_n (lo' := [_, _, _, _, _, _, _]) d_Ma_doOne_24 rfl (by decide) rfl ?_
  refine jj_aload_n d_Ma_doOne_25 rfl ?_
  refine jj_getR d_Ma_doOne_26 fk_Ma_22 (sh_Ma h_this).2 (sh_Ma h_this).1 rfl ?_
  refine jj_aload_n d_Ma_doOne_29 rfl ?_
  refine jj_getI d_Ma_doOne_30 fk_Ma_38 (sh_Ma h_this).2 (sh_Ma h_this).1 rfl rfl ?_
  obtain ⟨i4, h⟩ := jj_gt h
  refine jj_iaload d_Ma_doOne_33 rfl (ar_Ma_offsets h_this).1 (ar_Ma_offsets h_this).2 (jj_inn i4) rfl ?_
  refine jj_istore (lo' := [_, _, _, _, _, _, _]) d_Ma_doOne_34 rfl (by decide) rfl ?_
  refine jj_iload d_Ma_doOne_36 rfl ?_
  refine jj_aload_n d_Ma_doOne_38 rfl ?_
  refine jj_getI d_Ma_doOne_39 fk_Ma_79 (sh_Me (el_Pr_parts h_a1 i3)).2 (sh_Me (el_Pr_parts h_a1 i3)).1 rfl rfl ?_
  refine jj_ic_ge (tgt := 56) d_Ma_doOne_42 rfl (fun c5 => ?_) (fun c5 => ?_)
  · rw [if_pos c5] at h
    refine jj_iconst d_Ma_doOne_56 jc_i_1 ?_
    cases h
    exact jj_ireturn d_Ma_doOne_57 rfl ⟨rfl, rfl⟩
  · rw [if_neg c5] at h
    refine jj_aload_n d_Ma_doOne_45 rfl ?_
    refine jj_aload_n d_Ma_doOne_46 rfl ?_
    refine jj_aload_n d_Ma_doOne_47 rfl ?_
    refine jj_iload d_Ma_doOne_48 rfl ?_
    obtain ⟨r6, x6, e6, h⟩ := jj_b2o h
    refine jj_callVi (as := [.ref a1, .ref (a1 + 3 + 2 * (Int32.toNatClampNeg (x (this + 22) (Int32.toNatClampNeg (x this 5))))), .int (x (this + 23) (Int32.toNatClampNeg (x this 5)))]) (c_St_allows (d := d + 0) (el_Ma_states h_this i1) h_a1 (el_Pr_parts h_a1 i3) e6) d_Ma_doOne_50 ck_Ma_82 (sh_St (el_Ma_states h_this i1)).2 (sh_St (el_Ma_states h_this i1)).1 ⟨_, rfl, rfl⟩ rfl rfl (Nat.le_of_ble_eq_true rfl) ?_
    refine jj_if_ne (tgt := 58) d_Ma_doOne_53 rfl (fun c7 => ?_) (fun c7 => ?_)
    · rw [if_neg c7] at h
      refine jj_aload_n d_Ma_doOne_58 rfl ?_
      refine jj_aload_n d_Ma_doOne_59 rfl ?_
      refine jj_iload d_Ma_doOne_60 rfl ?_
      obtain ⟨r8, x8, e8, h⟩ := jj_b2o h
      refine jj_callVi (as := [.ref (a1 + 3 + 2 * (Int32.toNatClampNeg (x (this + 22) (Int32.toNatClampNeg (x this 5))))), .int (x (this + 23) (Int32.toNatClampNeg (x this 5)))]) (c_Pr_code (d := d + 3) h_a1 (el_Pr_parts h_a1 i3) e8) d_Ma_doOne_62 ck_Ma_86 (sh_Pr h_a1).2 (sh_Pr h_a1).1 ⟨_, rfl, rfl⟩ rfl rfl (Nat.le_of_ble_eq_true rfl) ?_
      refine jj_istore (lo' := [_, _, _, _, _, _, _]) d_Ma_doOne_65 rfl (by decide) rfl ?_
      refine jj_aload_n d_Ma_doOne_67 rfl ?_
      refine jj_aload_n d_Ma_doOne_68 rfl ?_
      refine jj_iload d_Ma_doOne_69 rfl ?_
      obtain ⟨r9, x9, e9, h⟩ := jj_b2o h
      refine jj_callVi (as := [.ref (this + 2 + 5 * (Int32.toNatClampNeg (x this 5))), .int r8]) (c_Ma_trouble (d := d + 1) h_this (el_Ma_states h_this i1) e9) d_Ma_doOne_71 ck_Ma_89 (sh_Ma h_this).2 (sh_Ma h_this).1 ⟨_, rfl, rfl⟩ rfl rfl (Nat.le_of_ble_eq_true rfl) ?_
      refine jj_istore (lo' := [_, _, _, _, _, _, _]) d_Ma_doOne_74 rfl (by decide) rfl ?_
      refine jj_iload d_Ma_doOne_76 rfl ?_
      refine jj_iconst d_Ma_doOne_78 jc_i_m1 ?_
      refine jj_ic_eq (tgt := 85) d_Ma_doOne_79 rfl (fun c10 => ?_) (fun c10 => ?_)
      · rw [if_pos c10] at h
        refine jj_iload d_Ma_doOne_85 rfl ?_
        obtain ⟨r11, e11, h⟩ := jj_b1o h
        refine jj_callSi (as := [.int r8]) (c_In_isReturn (d := d + 3)  e11) d_Ma_doOne_87 ck_Ma_93 rfl rfl (Nat.le_of_ble_eq_true rfl) ?_
        refine jj_if_eq (tgt := 101) d_Ma_doOne_90 rfl (fun c12 => ?_) (fun c12 => ?_)
        · rw [if_pos c12] at h
          refine jj_aload_n d_Ma_doOne_101 rfl ?_
          refine jj_getR d_Ma_doOne_102 fk_Ma_22 (sh_Ma h_this).2 (sh_Ma h_this).1 rfl ?_
          refine jj_aload_n d_Ma_doOne_105 rfl ?_
          refine jj_getI d_Ma_doOne_106 fk_Ma_38 (sh_Ma h_this).2 (sh_Ma h_this).1 rfl rfl ?_
          refine jj_iload d_Ma_doOne_109 rfl ?_
          refine jj_iload d_Ma_doOne_111 rfl ?_
          obtain ⟨r13, e13, h⟩ := jj_b1o h
          refine jj_callSi (as := [.int r8]) (c_In_length (d := d + 2)  e13) d_Ma_doOne_113 ck_Ma_102 rfl rfl (Nat.le_of_ble_eq_true rfl) ?_
          refine jj_iadd d_Ma_doOne_116 ?_
          obtain ⟨i14, h⟩ := jj_gt h
          refine jj_iastore d_Ma_doOne_117 rfl (ar_Ma_offsets h_this).1 (ar_Ma_offsets h_this).2 (jj_inn i14) ?_
          refine jj_iload d_Ma_doOne_118 rfl ?_
          refine jj_sipush d_Ma_doOne_120 jc_s_184 ?_
          refine jj_ic_ne (tgt := 141) d_Ma_doOne_123 rfl (fun c15 => ?_) (fun c15 => ?_)
          · rw [if_neg c15] at h
            refine jj_iload d_Ma_doOne_141 rfl ?_
            obtain ⟨r16, e16, h⟩ := jj_b1o h
            refine jj_callSi (as := [.int r8]) (c_In_hasTarget (d := d + 3)  e16) d_Ma_doOne_143 ck_Ma_112 rfl rfl (Nat.le_of_ble_eq_true rfl) ?_
            refine jj_if_eq (tgt := 178) d_Ma_doOne_146 rfl (fun c17 => ?_) (fun c17 => ?_)
            · rw [if_pos c17] at h
              refine jj_iload d_Ma_doOne_178 rfl ?_
              obtain ⟨r18, e18, h⟩ := jj_b1o h
              refine jj_callSi (as := [.int r8]) (c_In_length (d := d + 2)  e18) d_Ma_doOne_180 ck_Ma_102 rfl rfl (Nat.le_of_ble_eq_true rfl) ?_
              refine jj_iconst d_Ma_doOne_183 jc_i_1 ?_
              refine jj_ic_le (tgt := 199) d_Ma_doOne_184 rfl (fun c19 => ?_) (fun c19 => ?_)
              · rw [if_pos c19] at h
                refine jj_aload_n d_Ma_doOne_199 rfl ?_
                refine jj_aload_n d_Ma_doOne_200 rfl ?_
                refine jj_iload d_Ma_doOne_201 rfl ?_
                obtain ⟨x20, e20, h⟩ := jj_b1o h
                refine jj_callVv (as := [.ref (this + 2 + 5 * (Int32.toNatClampNeg (x this 5))), .int r8]) (c_Ma_doAlone (d := d + 1) h_this (el_Ma_states h_this i1) e20) d_Ma_doOne_203 ck_Ma_126 (sh_Ma h_this).2 (sh_Ma h_this).1 ⟨_, rfl, rfl⟩ rfl rfl (Nat.le_of_ble_eq_true rfl) ?_
                refine jj_iconst d_Ma_doOne_206 jc_i_m1 ?_
                cases h
                exact jj_ireturn d_Ma_doOne_207 rfl ⟨rfl, rfl⟩
              · rw [if_neg c19] at h
                refine jj_aload_n d_Ma_doOne_187 rfl ?_
                refine jj_aload_n d_Ma_doOne_188 rfl ?_
                refine jj_aload_n d_Ma_doOne_189 rfl ?_
                refine jj_aload_n d_Ma_doOne_190 rfl ?_
                refine jj_iload d_Ma_doOne_191 rfl ?_
                obtain ⟨x21, e21, h⟩ := jj_b1o h
                refine jj_callVv (as := [.ref (this + 2 + 5 * (Int32.toNatClampNeg (x this 5))), .ref a1, .ref (a1 + 3 + 2 * (Int32.toNatClampNeg (x (this + 22) (Int32.toNatClampNeg (x this 5))))), .int (x (this + 23) (Int32.toNatClampNeg (x this 5)))]) (c_Ma_doWithOperand (d := d + 1) h_this (el_Ma_states h_this i1) h_a1 (el_Pr_parts h_a1 i3) e21) d_Ma_doOne_193 ck_Ma_122 (sh_Ma h_this).2 (sh_Ma h_this).1 ⟨_, rfl, rfl⟩ rfl rfl (Nat.le_of_ble_eq_true rfl) ?_
                refine jj_goto (tgt := 206) d_Ma_doOne_196 rfl ?_
                refine jj_iconst d_Ma_doOne_206 jc_i_m1 ?_
                cases h
                exact jj_ireturn d_Ma_doOne_207 rfl ⟨rfl, rfl⟩
            · rw [if_neg c17] at h
              refine jj_aload_n d_Ma_doOne_149 rfl ?_
              refine jj_aload_n d_Ma_doOne_150 rfl ?_
              refine jj_iload d_Ma_doOne_151 rfl ?_
              obtain ⟨r22, x22, e22, h⟩ := jj_b2o h
              refine jj_callVi (as := [.ref (this + 2 + 5 * (Int32.toNatClampNeg (x this 5))), .int r8]) (c_Ma_goesToTarget (d := d + 2) h_this (el_Ma_states h_this i1) e22) d_Ma_doOne_153 ck_Ma_115 (sh_Ma h_this).2 (sh_Ma h_this).1 ⟨_, rfl, rfl⟩ rfl rfl (Nat.le_of_ble_eq_true rfl) ?_
              refine jj_if_eq (tgt := 206) d_Ma_doOne_156 rfl (fun c23 => ?_) (fun c23 => ?_)
              · rw [if_pos c23] at h
                refine jj_iconst d_Ma_doOne_206 jc_i_m1 ?_
                cases h
                exact jj_ireturn d_Ma_doOne_207 rfl ⟨rfl, rfl⟩
              · rw [if_neg c23] at h
                refine jj_aload_n d_Ma_doOne_159 rfl ?_
                refine jj_getR d_Ma_doOne_160 fk_Ma_22 (sh_Ma h_this).2 (sh_Ma h_this).1 rfl ?_
                refine jj_aload_n d_Ma_doOne_163 rfl ?_
                refine jj_getI d_Ma_doOne_164 fk_Ma_38 (sh_Ma h_this).2 (sh_Ma h_this).1 rfl rfl ?_
                refine jj_aload_n d_Ma_doOne_167 rfl ?_
                refine jj_aload_n d_Ma_doOne_168 rfl ?_
                refine jj_iload d_Ma_doOne_169 rfl ?_
                obtain ⟨r24, x24, e24, h⟩ := jj_b2o h
                refine jj_callVi (as := [.ref (a1 + 3 + 2 * (Int32.toNatClampNeg (x (this + 22) (Int32.toNatClampNeg (x this 5))))), .int (x (this + 23) (Int32.toNatClampNeg (x this 5)))]) (c_Pr_target (d := d + 2) h_a1 (el_Pr_parts h_a1 i3) e24) d_Ma_doOne_171 ck_Ma_119 (sh_Pr h_a1).2 (sh_Pr h_a1).1 ⟨_, rfl, rfl⟩ rfl rfl (Nat.le_of_ble_eq_true rfl) ?_
                obtain ⟨i25, h⟩ := jj_gt h
                refine jj_iastore d_Ma_doOne_174 rfl (ar_Ma_offsets h_this).1 (ar_Ma_offsets h_this).2 (jj_inn i25) ?_
                refine jj_goto (tgt := 206) d_Ma_doOne_175 rfl ?_
                refine jj_iconst d_Ma_doOne_206 jc_i_m1 ?_
                cases h
                exact jj_ireturn d_Ma_doOne_207 rfl ⟨rfl, rfl⟩
          · rw [if_pos c15] at h
            refine jj_aload_n d_Ma_doOne_126 rfl ?_
            refine jj_aload_n d_Ma_doOne_127 rfl ?_
            refine jj_aload_n d_Ma_doOne_128 rfl ?_
            refine jj_aload_n d_Ma_doOne_129 rfl ?_
            refine jj_iload d_Ma_doOne_130 rfl ?_
            obtain ⟨r26, x26, e26, h⟩ := jj_b2o h
            refine jj_callVi (as := [.ref (a1 + 3 + 2 * (Int32.toNatClampNeg (x (this + 22) (Int32.toNatClampNeg (x this 5))))), .int (x (this + 23) (Int32.toNatClampNeg (x this 5)))]) (c_Pr_operand (d := d + 3) h_a1 (el_Pr_parts h_a1 i3) e26) d_Ma_doOne_132 ck_Ma_105 (sh_Pr h_a1).2 (sh_Pr h_a1).1 ⟨_, rfl, rfl⟩ rfl rfl (Nat.le_of_ble_eq_true rfl) ?_
            obtain ⟨x27, e27, h⟩ := jj_b1o h
            refine jj_callVv (as := [.ref a1, .int r26]) (c_Ma_call (d := d + 0) h_this h_a1 e27) d_Ma_doOne_135 ck_Ma_108 (sh_Ma h_this).2 (sh_Ma h_this).1 ⟨_, rfl, rfl⟩ rfl rfl (Nat.le_of_ble_eq_true rfl) ?_
            refine jj_goto (tgt := 206) d_Ma_doOne_138 rfl ?_
            refine jj_iconst d_Ma_doOne_206 jc_i_m1 ?_
            cases h
            exact jj_ireturn d_Ma_doOne_207 rfl ⟨rfl, rfl⟩
        · rw [if_neg c12] at h
          refine jj_aload_n d_Ma_doOne_93 rfl ?_
          refine jj_aload_n d_Ma_doOne_94 rfl ?_
          refine jj_iload d_Ma_doOne_95 rfl ?_
          obtain ⟨r28, x28, e28, h⟩ := jj_b2o h
          refine jj_callVi (as := [.ref (this + 2 + 5 * (Int32.toNatClampNeg (x this 5))), .int r8]) (c_Ma_leave (d := d + 2) h_this (el_Ma_states h_this i1) e28) d_Ma_doOne_97 ck_Ma_99 (sh_Ma h_this).2 (sh_Ma h_this).1 ⟨_, rfl, rfl⟩ rfl rfl (Nat.le_of_ble_eq_true rfl) ?_
          cases h
          exact jj_ireturn d_Ma_doOne_100 rfl ⟨rfl, rfl⟩
      · rw [if_neg c10] at h
        refine jj_iload d_Ma_doOne_82 rfl ?_
        cases h
        exact jj_ireturn d_Ma_doOne_84 rfl ⟨rfl, rfl⟩
    · rw [if_pos c7] at h
      refine jj_iconst d_Ma_doOne_56 jc_i_1 ?_
      cases h
      exact jj_ireturn d_Ma_doOne_57 rfl ⟨rfl, rfl⟩
theorem c_Ma_doOne {X : jj_X} {d : Nat} {this : Nat} {a1 : Nat} (h_this : o_Ma this) (h_a1 : o_Pr a1) {x : jj_Mem} {q : Int32 × jj_Mem} (h : f_Ma_doOne this a1 x = some q) : jj_Met Y0 X (d + 4) m_Ma_doOne [.ref this, .ref a1] x (jp_i q) :=
  jj_metp 5 (lo := [some (.ref this), some (.ref a1), none, none, none, none, none]) rfl (Nat.le_of_ble_eq_true rfl) rfl (t_Ma_doOne_0 h_this h_a1 h)
def f_Rd_readsMethod (this : Nat) (a1 : Nat) (a2 : Nat) (x : jj_Mem) : Option (Int32 × jj_Mem) :=
  jj_b2 (f_Rd_readsHead this a1 a2 x) (fun r1 x1 => (if r1 = 0 then some (0, x1) else jj_b2 (f_Rd_readsCode this a1 a2 x1) (fun r3 x3 => (if r3 = 0 then some (0, x3) else jj_b2 (f_Rd_readsFrames this a1 a2 x3) (fun r5 x5 => (if r5 = 0 then some (0, x5) else jj_b2 (f_Rd_targetsBegin this a1 a2 x5) (fun r7 x7 => (if r7 = 0 then some (0, x7) else jj_b2 (f_Rd_framesBegin this a1 a2 x7) (fun r9 x9 => (if r9 = 0 then some (0, x9) else some (1, x9)))))))))))
set_option maxHeartbeats 2000000 in
theorem t_Rd_readsMethod_0 {X : jj_X} {d : Nat} {this : Nat} {a1 : Nat} {a2 : Nat} (h_this : o_Rd this) (h_a1 : o_Pr a1) (h_a2 : o_Me a2) {x : jj_Mem} {q : Int32 × jj_Mem} (h : f_Rd_readsMethod this a1 a2 x = some q) : jj_J Y0 X (d + 4) m_Rd_readsMethod 0 [some (.ref this), some (.ref a1), some (.ref a2)] [] x (jp_i q) := by
  unfold f_Rd_readsMethod at h
  refine jj_aload_n d_Rd_readsMethod_0 rfl ?_
  refine jj_aload_n d_Rd_readsMethod_1 rfl ?_
  refine jj_aload_n d_Rd_readsMethod_2 rfl ?_
  obtain ⟨r1, x1, e1, h⟩ := jj_b2o h
  refine jj_callVi (as := [.ref a1, .ref a2]) (c_Rd_readsHead (d := d + 1) h_this h_a1 h_a2 e1) d_Rd_readsMethod_3 ck_Rd_60 (sh_Rd h_this).2 (sh_Rd h_this).1 ⟨_, rfl, rfl⟩ rfl rfl (Nat.le_of_ble_eq_true rfl) ?_
  refine jj_if_eq (tgt := 49) d_Rd_readsMethod_6 rfl (fun c2 => ?_) (fun c2 => ?_)
  · rw [if_pos c2] at h
    refine jj_iconst d_Rd_readsMethod_49 jc_i_0 ?_
    cases h
    exact jj_zreturn d_Rd_readsMethod_50 rfl (Or.inl rfl) ⟨rfl, rfl⟩
  · rw [if_neg c2] at h
    refine jj_aload_n d_Rd_readsMethod_9 rfl ?_
    refine jj_aload_n d_Rd_readsMethod_10 rfl ?_
    refine jj_aload_n d_Rd_readsMethod_11 rfl ?_
    obtain ⟨r3, x3, e3, h⟩ := jj_b2o h
    refine jj_callVi (as := [.ref a1, .ref a2]) (c_Rd_readsCode (d := d + 0) h_this h_a1 h_a2 e3) d_Rd_readsMethod_12 ck_Rd_63 (sh_Rd h_this).2 (sh_Rd h_this).1 ⟨_, rfl, rfl⟩ rfl rfl (Nat.le_of_ble_eq_true rfl) ?_
    refine jj_if_eq (tgt := 49) d_Rd_readsMethod_15 rfl (fun c4 => ?_) (fun c4 => ?_)
    · rw [if_pos c4] at h
      refine jj_iconst d_Rd_readsMethod_49 jc_i_0 ?_
      cases h
      exact jj_zreturn d_Rd_readsMethod_50 rfl (Or.inl rfl) ⟨rfl, rfl⟩
    · rw [if_neg c4] at h
      refine jj_aload_n d_Rd_readsMethod_18 rfl ?_
      refine jj_aload_n d_Rd_readsMethod_19 rfl ?_
      refine jj_aload_n d_Rd_readsMethod_20 rfl ?_
      obtain ⟨r5, x5, e5, h⟩ := jj_b2o h
      refine jj_callVi (as := [.ref a1, .ref a2]) (c_Rd_readsFrames (d := d + 1) h_this h_a1 h_a2 e5) d_Rd_readsMethod_21 ck_Rd_66 (sh_Rd h_this).2 (sh_Rd h_this).1 ⟨_, rfl, rfl⟩ rfl rfl (Nat.le_of_ble_eq_true rfl) ?_
      refine jj_if_eq (tgt := 49) d_Rd_readsMethod_24 rfl (fun c6 => ?_) (fun c6 => ?_)
      · rw [if_pos c6] at h
        refine jj_iconst d_Rd_readsMethod_49 jc_i_0 ?_
        cases h
        exact jj_zreturn d_Rd_readsMethod_50 rfl (Or.inl rfl) ⟨rfl, rfl⟩
      · rw [if_neg c6] at h
        refine jj_aload_n d_Rd_readsMethod_27 rfl ?_
        refine jj_aload_n d_Rd_readsMethod_28 rfl ?_
        refine jj_aload_n d_Rd_readsMethod_29 rfl ?_
        obtain ⟨r7, x7, e7, h⟩ := jj_b2o h
        refine jj_callVi (as := [.ref a1, .ref a2]) (c_Rd_targetsBegin (d := d + 1) h_this h_a1 h_a2 e7) d_Rd_readsMethod_30 ck_Rd_69 (sh_Rd h_this).2 (sh_Rd h_this).1 ⟨_, rfl, rfl⟩ rfl rfl (Nat.le_of_ble_eq_true rfl) ?_
        refine jj_if_eq (tgt := 49) d_Rd_readsMethod_33 rfl (fun c8 => ?_) (fun c8 => ?_)
        · rw [if_pos c8] at h
          refine jj_iconst d_Rd_readsMethod_49 jc_i_0 ?_
          cases h
          exact jj_zreturn d_Rd_readsMethod_50 rfl (Or.inl rfl) ⟨rfl, rfl⟩
        · rw [if_neg c8] at h
          refine jj_aload_n d_Rd_readsMethod_36 rfl ?_
          refine jj_aload_n d_Rd_readsMethod_37 rfl ?_
          refine jj_aload_n d_Rd_readsMethod_38 rfl ?_
          obtain ⟨r9, x9, e9, h⟩ := jj_b2o h
          refine jj_callVi (as := [.ref a1, .ref a2]) (c_Rd_framesBegin (d := d + 2) h_this h_a1 h_a2 e9) d_Rd_readsMethod_39 ck_Rd_72 (sh_Rd h_this).2 (sh_Rd h_this).1 ⟨_, rfl, rfl⟩ rfl rfl (Nat.le_of_ble_eq_true rfl) ?_
          refine jj_if_eq (tgt := 49) d_Rd_readsMethod_42 rfl (fun c10 => ?_) (fun c10 => ?_)
          · rw [if_pos c10] at h
            refine jj_iconst d_Rd_readsMethod_49 jc_i_0 ?_
            cases h
            exact jj_zreturn d_Rd_readsMethod_50 rfl (Or.inl rfl) ⟨rfl, rfl⟩
          · rw [if_neg c10] at h
            refine jj_iconst d_Rd_readsMethod_45 jc_i_1 ?_
            refine jj_goto (tgt := 50) d_Rd_readsMethod_46 rfl ?_
            cases h
            exact jj_zreturn d_Rd_readsMethod_50 rfl (Or.inr rfl) ⟨rfl, rfl⟩
theorem c_Rd_readsMethod {X : jj_X} {d : Nat} {this : Nat} {a1 : Nat} {a2 : Nat} (h_this : o_Rd this) (h_a1 : o_Pr a1) (h_a2 : o_Me a2) {x : jj_Mem} {q : Int32 × jj_Mem} (h : f_Rd_readsMethod this a1 a2 x = some q) : jj_Met Y0 X (d + 4) m_Rd_readsMethod [.ref this, .ref a1, .ref a2] x (jp_i q) :=
  jj_metp 0 (lo := [some (.ref this), some (.ref a1), some (.ref a2)]) rfl (Nat.le_of_ble_eq_true rfl) rfl (t_Rd_readsMethod_0 h_this h_a1 h_a2 h)
def k_Ma_goToEnd_47 (rec : Nat → List (Option Value) → jj_Mem → Option (Int32 × jj_Mem)) (l2 : Int32) (x : jj_Mem) : Option (Int32 × jj_Mem) :=
  (if l2 = (-1) then some (6, x) else some (l2, x))
set_option maxHeartbeats 2000000 in
theorem t_Ma_goToEnd_47 {X : jj_X} {d : Nat} (rec : Nat → List (Option Value) → jj_Mem → Option (Int32 × jj_Mem)) (hrec : ∀ (L : Nat) (lo : List (Option Value)) (x : jj_Mem) (q : Int32 × jj_Mem), rec L lo x = some q → jj_J Y0 X (d + 5) m_Ma_goToEnd L lo [] x (jp_i q)) {l2 : Int32}  {x : jj_Mem} {q : Int32 × jj_Mem} (h : k_Ma_goToEnd_47 rec l2 x = some q) : jj_J Y0 X (d + 5) m_Ma_goToEnd 47 [none, none, some (.int l2), none] [] x (jp_i q) := by
  unfold k_Ma_goToEnd_47 at h
  refine jj_iload_n d_Ma_goToEnd_47 rfl ?_
  refine jj_iconst d_Ma_goToEnd_48 jc_i_m1 ?_
  refine jj_ic_ne (tgt := 57) d_Ma_goToEnd_49 rfl (fun c1 => ?_) (fun c1 => ?_)
  · rw [if_neg c1] at h
    refine jj_iload_n d_Ma_goToEnd_57 rfl ?_
    cases h
    exact jj_ireturn d_Ma_goToEnd_58 rfl ⟨rfl, rfl⟩
  · rw [if_pos c1] at h
    refine jj_bipush d_Ma_goToEnd_52 jc_b_6 ?_
    refine jj_goto (tgt := 58) d_Ma_goToEnd_54 rfl ?_
    cases h
    exact jj_ireturn d_Ma_goToEnd_58 rfl ⟨rfl, rfl⟩
def k_Ma_goToEnd_41 (rec : Nat → List (Option Value) → jj_Mem → Option (Int32 × jj_Mem)) (l0 : Nat) (l1 : Nat) (l2 : Int32) (l3 : Int32) (x : jj_Mem) : Option (Int32 × jj_Mem) :=
  rec 4 [some (.ref l0), some (.ref l1), some (.int l2), some (.int (l3 + 1))] x
set_option maxHeartbeats 2000000 in
theorem t_Ma_goToEnd_41 {X : jj_X} {d : Nat} (rec : Nat → List (Option Value) → jj_Mem → Option (Int32 × jj_Mem)) (hrec : ∀ (L : Nat) (lo : List (Option Value)) (x : jj_Mem) (q : Int32 × jj_Mem), rec L lo x = some q → jj_J Y0 X (d + 5) m_Ma_goToEnd L lo [] x (jp_i q)) {l0 : Nat} {l1 : Nat} {l2 : Int32} {l3 : Int32} (h_l0 : o_Ma l0) (h_l1 : o_Pr l1) {x : jj_Mem} {q : Int32 × jj_Mem} (h : k_Ma_goToEnd_41 rec l0 l1 l2 l3 x = some q) : jj_J Y0 X (d + 5) m_Ma_goToEnd 41 [some (.ref l0), some (.ref l1), some (.int l2), some (.int l3)] [] x (jp_i q) := by
  unfold k_Ma_goToEnd_41 at h
  refine jj_iinc (lo' := [_, _, _, _]) (v := (l3 + 1)) d_Ma_goToEnd_41 rfl (jc_a_1 _) rfl (by decide) rfl ?_
  refine jj_goto (tgt := 4) d_Ma_goToEnd_44 rfl ?_
  exact jj_J.sub (hrec _ _ _ _ h) (fun i v hi => jj_mask_ok [true, true, true, true] hi)
def k_Ma_goToEnd_31 (rec : Nat → List (Option Value) → jj_Mem → Option (Int32 × jj_Mem)) (l0 : Nat) (l1 : Nat) (l2 : Int32) (l3 : Int32) (x : jj_Mem) : Option (Int32 × jj_Mem) :=
  k_Ma_goToEnd_41 rec l0 l1 l2 l3 (jj_set x l0 1 ((x l0 1) + 1))
set_option maxHeartbeats 2000000 in
theorem t_Ma_goToEnd_31 {X : jj_X} {d : Nat} (rec : Nat → List (Option Value) → jj_Mem → Option (Int32 × jj_Mem)) (hrec : ∀ (L : Nat) (lo : List (Option Value)) (x : jj_Mem) (q : Int32 × jj_Mem), rec L lo x = some q → jj_J Y0 X (d + 5) m_Ma_goToEnd L lo [] x (jp_i q)) {l0 : Nat} {l1 : Nat} {l2 : Int32} {l3 : Int32} (h_l0 : o_Ma l0) (h_l1 : o_Pr l1) {x : jj_Mem} {q : Int32 × jj_Mem} (h : k_Ma_goToEnd_31 rec l0 l1 l2 l3 x = some q) : jj_J Y0 X (d + 5) m_Ma_goToEnd 31 [some (.ref l0), some (.ref l1), some (.int l2), some (.int l3)] [] x (jp_i q) := by
  unfold k_Ma_goToEnd_31 at h
  refine jj_aload_n d_Ma_goToEnd_31 rfl ?_
  refine jj_dup d_Ma_goToEnd_32 rfl ?_
  refine jj_getI d_Ma_goToEnd_33 fk_Ma_31 (sh_Ma h_l0).2 (sh_Ma h_l0).1 rfl rfl ?_
  refine jj_iconst d_Ma_goToEnd_36 jc_i_1 ?_
  refine jj_iadd d_Ma_goToEnd_37 ?_
  refine jj_putI d_Ma_goToEnd_38 pk_Ma_31 (sh_Ma h_l0).2 (sh_Ma h_l0).1 rfl ?_
  exact jj_J.sub (t_Ma_goToEnd_41 rec hrec h_l0 h_l1 h) (fun i v hi => jj_mask_ok [true, true, true, true] hi)
def k_Ma_goToEnd_4 (rec : Nat → List (Option Value) → jj_Mem → Option (Int32 × jj_Mem)) (l0 : Nat) (l1 : Nat) (l2 : Int32) (l3 : Int32) (x : jj_Mem) : Option (Int32 × jj_Mem) :=
  (if 200 ≤ l3 then k_Ma_goToEnd_47 rec l2 x else (if l2 = (-1) then jj_b2 (f_Ma_doOne l0 l1 x) (fun r3 x3 => (if r3 = (-1) then k_Ma_goToEnd_31 rec l0 l1 r3 l3 x3 else (if r3 = 0 then k_Ma_goToEnd_31 rec l0 l1 r3 l3 x3 else k_Ma_goToEnd_41 rec l0 l1 r3 l3 x3))) else k_Ma_goToEnd_47 rec l2 x))
set_option maxHeartbeats 2000000 in
theorem t_Ma_goToEnd_4 {X : jj_X} {d : Nat} (rec : Nat → List (Option Value) → jj_Mem → Option (Int32 × jj_Mem)) (hrec : ∀ (L : Nat) (lo : List (Option Value)) (x : jj_Mem) (q : Int32 × jj_Mem), rec L lo x = some q → jj_J Y0 X (d + 5) m_Ma_goToEnd L lo [] x (jp_i q)) {l0 : Nat} {l1 : Nat} {l2 : Int32} {l3 : Int32} (h_l0 : o_Ma l0) (h_l1 : o_Pr l1) {x : jj_Mem} {q : Int32 × jj_Mem} (h : k_Ma_goToEnd_4 rec l0 l1 l2 l3 x = some q) : jj_J Y0 X (d + 5) m_Ma_goToEnd 4 [some (.ref l0), some (.ref l1), some (.int l2), some (.int l3)] [] x (jp_i q) := by
  unfold k_Ma_goToEnd_4 at h
  refine jj_iload_n d_Ma_goToEnd_4 rfl ?_
  refine jj_sipush d_Ma_goToEnd_5 jc_s_200 ?_
  refine jj_ic_ge (tgt := 47) d_Ma_goToEnd_8 rfl (fun c1 => ?_) (fun c1 => ?_)
  · rw [if_pos c1] at h
    exact jj_J.sub (t_Ma_goToEnd_47 rec hrec  h) (fun i v hi => jj_mask_ok [false, false, true, false] hi)
  · rw [if_neg c1] at h
    refine jj_iload_n d_Ma_goToEnd_11 rfl ?_
    refine jj_iconst d_Ma_goToEnd_12 jc_i_m1 ?_
    refine jj_ic_ne (tgt := 47) d_Ma_goToEnd_13 rfl (fun c2 => ?_) (fun c2 => ?_)
    · rw [if_neg c2] at h
      exact jj_J.sub (t_Ma_goToEnd_47 rec hrec  h) (fun i v hi => jj_mask_ok [false, false, true, false] hi)
    · rw [if_pos c2] at h
      refine jj_aload_n d_Ma_goToEnd_16 rfl ?_
      refine jj_aload_n d_Ma_goToEnd_17 rfl ?_
      obtain ⟨r3, x3, e3, h⟩ := jj_b2o h
      refine jj_callVi (as := [.ref l1]) (c_Ma_doOne (d := d + 0) h_l0 h_l1 e3) d_Ma_goToEnd_18 ck_Ma_75 (sh_Ma h_l0).2 (sh_Ma h_l0).1 ⟨_, rfl, rfl⟩ rfl rfl (Nat.le_of_ble_eq_true rfl) ?_
      refine jj_istore_n (lo' := [_, _, _, _]) d_Ma_goToEnd_21 rfl (by decide) rfl ?_
      refine jj_iload_n d_Ma_goToEnd_22 rfl ?_
      refine jj_iconst d_Ma_goToEnd_23 jc_i_m1 ?_
      refine jj_ic_eq (tgt := 31) d_Ma_goToEnd_24 rfl (fun c4 => ?_) (fun c4 => ?_)
      · rw [if_pos c4] at h
        exact jj_J.sub (t_Ma_goToEnd_31 rec hrec h_l0 h_l1 h) (fun i v hi => jj_mask_ok [true, true, true, true] hi)
      · rw [if_neg c4] at h
        refine jj_iload_n d_Ma_goToEnd_27 rfl ?_
        refine jj_if_ne (tgt := 41) d_Ma_goToEnd_28 rfl (fun c5 => ?_) (fun c5 => ?_)
        · rw [if_neg c5] at h
          exact jj_J.sub (t_Ma_goToEnd_41 rec hrec h_l0 h_l1 h) (fun i v hi => jj_mask_ok [true, true, true, true] hi)
        · rw [if_pos c5] at h
          exact jj_J.sub (t_Ma_goToEnd_31 rec hrec h_l0 h_l1 h) (fun i v hi => jj_mask_ok [true, true, true, true] hi)
def g_Ma_goToEnd : Nat → Nat → List (Option Value) → jj_Mem → Option (Int32 × jj_Mem)
  | 0, _, _, _ => none
  | f + 1, L, lo, x => match L, lo with
    | 4, [some (.ref l0), some (.ref l1), some (.int l2), some (.int l3)] => if (bo_Ma l0 && bo_Pr l1) = true then k_Ma_goToEnd_4 (g_Ma_goToEnd f) l0 l1 l2 l3 x else none
    | _, _ => none
set_option maxHeartbeats 2000000 in
theorem t_Ma_goToEnd_g {X : jj_X} {d : Nat} : ∀ (f L : Nat) (lo : List (Option Value)) (x : jj_Mem) (q : Int32 × jj_Mem), g_Ma_goToEnd f L lo x = some q → jj_J Y0 X (d + 5) m_Ma_goToEnd L lo [] x (jp_i q) := by
  intro f
  induction f with
  | zero => intro L lo x q h; simp [g_Ma_goToEnd] at h
  | succ f ih =>
    intro L lo x q h
    unfold g_Ma_goToEnd at h
    split at h
    · obtain ⟨i1, h⟩ := jj_gt h
      exact t_Ma_goToEnd_4 _ ih (ob_Ma (jj_andl i1)) (ob_Pr (jj_andr i1)) h
    · cases h
def k_Ma_goToEnd_0 (rec : Nat → List (Option Value) → jj_Mem → Option (Int32 × jj_Mem)) (this : Nat) (a1 : Nat) (x : jj_Mem) : Option (Int32 × jj_Mem) :=
  rec 4 [some (.ref this), some (.ref a1), some (.int (-1)), some (.int 0)] x
set_option maxHeartbeats 2000000 in
theorem t_Ma_goToEnd_0 {X : jj_X} {d : Nat} (rec : Nat → List (Option Value) → jj_Mem → Option (Int32 × jj_Mem)) (hrec : ∀ (L : Nat) (lo : List (Option Value)) (x : jj_Mem) (q : Int32 × jj_Mem), rec L lo x = some q → jj_J Y0 X (d + 5) m_Ma_goToEnd L lo [] x (jp_i q)) {this : Nat} {a1 : Nat} (h_this : o_Ma this) (h_a1 : o_Pr a1) {x : jj_Mem} {q : Int32 × jj_Mem} (h : k_Ma_goToEnd_0 rec this a1 x = some q) : jj_J Y0 X (d + 5) m_Ma_goToEnd 0 [some (.ref this), some (.ref a1), none, none] [] x (jp_i q) := by
  unfold k_Ma_goToEnd_0 at h
  refine jj_iconst d_Ma_goToEnd_0 jc_i_m1 ?_
  refine jj_istore_n (lo' := [_, _, _, _]) d_Ma_goToEnd_1 rfl (by decide) rfl ?_
  refine jj_iconst d_Ma_goToEnd_2 jc_i_0 ?_
  refine jj_istore_n (lo' := [_, _, _, _]) d_Ma_goToEnd_3 rfl (by decide) rfl ?_
  exact jj_J.sub (hrec _ _ _ _ h) (fun i v hi => jj_mask_ok [true, true, true, true] hi)
def f_Ma_goToEnd (this : Nat) (a1 : Nat) (x : jj_Mem) : Option (Int32 × jj_Mem) := k_Ma_goToEnd_0 (g_Ma_goToEnd 1000) this a1 x
theorem c_Ma_goToEnd {X : jj_X} {d : Nat} {this : Nat} {a1 : Nat} (h_this : o_Ma this) (h_a1 : o_Pr a1) {x : jj_Mem} {q : Int32 × jj_Mem} (h : f_Ma_goToEnd this a1 x = some q) : jj_Met Y0 X (d + 5) m_Ma_goToEnd [.ref this, .ref a1] x (jp_i q) :=
  jj_metp 2 (lo := [some (.ref this), some (.ref a1), none, none]) rfl (Nat.le_of_ble_eq_true rfl) rfl (t_Ma_goToEnd_0 _ (t_Ma_goToEnd_g 1000) h_this h_a1 h)
def k_Rd_readsFile_49 (rec : Nat → List (Option Value) → jj_Mem → Option (Int32 × jj_Mem)) (l0 : Nat) (l1 : Nat) (l2 : Int32) (x : jj_Mem) : Option (Int32 × jj_Mem) :=
  (if (x l1 4) ≤ l2 then (if (x l0 0) = (x l1 1) then some (1, x) else some (0, x)) else if jj_inb l2 4 = true then jj_b2 (f_Rd_readsMethod l0 l1 (l1 + 3 + 2 * (Int32.toNatClampNeg l2)) x) (fun r4 x4 => (if r4 = 0 then some (0, x4) else rec 49 [some (.ref l0), some (.ref l1), some (.int (l2 + 1))] x4)) else none)
set_option maxHeartbeats 2000000 in
theorem t_Rd_readsFile_49 {X : jj_X} {d : Nat} (rec : Nat → List (Option Value) → jj_Mem → Option (Int32 × jj_Mem)) (hrec : ∀ (L : Nat) (lo : List (Option Value)) (x : jj_Mem) (q : Int32 × jj_Mem), rec L lo x = some q → jj_J Y0 X (d + 5) m_Rd_readsFile L lo [] x (jp_i q)) {l0 : Nat} {l1 : Nat} {l2 : Int32} (h_l0 : o_Rd l0) (h_l1 : o_Pr l1) {x : jj_Mem} {q : Int32 × jj_Mem} (h : k_Rd_readsFile_49 rec l0 l1 l2 x = some q) : jj_J Y0 X (d + 5) m_Rd_readsFile 49 [some (.ref l0), some (.ref l1), some (.int l2)] [] x (jp_i q) := by
  unfold k_Rd_readsFile_49 at h
  refine jj_iload_n d_Rd_readsFile_49 rfl ?_
  refine jj_aload_n d_Rd_readsFile_50 rfl ?_
  refine jj_getI d_Rd_readsFile_51 fk_Rd_30 (sh_Pr h_l1).2 (sh_Pr h_l1).1 rfl rfl ?_
  refine jj_ic_ge (tgt := 79) d_Rd_readsFile_54 rfl (fun c1 => ?_) (fun c1 => ?_)
  · rw [if_pos c1] at h
    refine jj_aload_n d_Rd_readsFile_79 rfl ?_
    refine jj_getI d_Rd_readsFile_80 fk_Rd_15 (sh_Rd h_l0).2 (sh_Rd h_l0).1 rfl rfl ?_
    refine jj_aload_n d_Rd_readsFile_83 rfl ?_
    refine jj_getI d_Rd_readsFile_84 fk_Rd_43 (sh_Pr h_l1).2 (sh_Pr h_l1).1 rfl rfl ?_
    refine jj_ic_ne (tgt := 94) d_Rd_readsFile_87 rfl (fun c2 => ?_) (fun c2 => ?_)
    · rw [if_neg c2] at h
      refine jj_iconst d_Rd_readsFile_94 jc_i_0 ?_
      cases h
      exact jj_zreturn d_Rd_readsFile_95 rfl (Or.inl rfl) ⟨rfl, rfl⟩
    · rw [if_pos c2] at h
      refine jj_iconst d_Rd_readsFile_90 jc_i_1 ?_
      refine jj_goto (tgt := 95) d_Rd_readsFile_91 rfl ?_
      cases h
      exact jj_zreturn d_Rd_readsFile_95 rfl (Or.inr rfl) ⟨rfl, rfl⟩
  · rw [if_neg c1] at h
    refine jj_aload_n d_Rd_readsFile_57 rfl ?_
    refine jj_aload_n d_Rd_readsFile_58 rfl ?_
    refine jj_aload_n d_Rd_readsFile_59 rfl ?_
    refine jj_getR d_Rd_readsFile_60 fk_Rd_35 (sh_Pr h_l1).2 (sh_Pr h_l1).1 rfl ?_
    refine jj_iload_n d_Rd_readsFile_63 rfl ?_
    obtain ⟨i3, h⟩ := jj_gt h
    refine jj_aaload d_Rd_readsFile_64 rfl (pa_Pr_parts h_l1).1 (pa_Pr_parts h_l1).2 (jj_inn i3) rfl ?_
    obtain ⟨r4, x4, e4, h⟩ := jj_b2o h
    refine jj_callVi (as := [.ref l1, .ref (l1 + 3 + 2 * (Int32.toNatClampNeg l2))]) (c_Rd_readsMethod (d := d + 0) h_l0 h_l1 (el_Pr_parts h_l1 i3) e4) d_Rd_readsFile_65 ck_Rd_39 (sh_Rd h_l0).2 (sh_Rd h_l0).1 ⟨_, rfl, rfl⟩ rfl rfl (Nat.le_of_ble_eq_true rfl) ?_
    refine jj_if_ne (tgt := 73) d_Rd_readsFile_68 rfl (fun c5 => ?_) (fun c5 => ?_)
    · rw [if_neg c5] at h
      refine jj_iinc (lo' := [_, _, _]) (v := (l2 + 1)) d_Rd_readsFile_73 rfl (jc_a_1 _) rfl (by decide) rfl ?_
      refine jj_goto (tgt := 49) d_Rd_readsFile_76 rfl ?_
      exact jj_J.sub (hrec _ _ _ _ h) (fun i v hi => jj_mask_ok [true, true, true] hi)
    · rw [if_pos c5] at h
      refine jj_iconst d_Rd_readsFile_71 jc_i_0 ?_
      cases h
      exact jj_zreturn d_Rd_readsFile_72 rfl (Or.inl rfl) ⟨rfl, rfl⟩
def g_Rd_readsFile : Nat → Nat → List (Option Value) → jj_Mem → Option (Int32 × jj_Mem)
  | 0, _, _, _ => none
  | f + 1, L, lo, x => match L, lo with
    | 49, [some (.ref l0), some (.ref l1), some (.int l2)] => if (bo_Rd l0 && bo_Pr l1) = true then k_Rd_readsFile_49 (g_Rd_readsFile f) l0 l1 l2 x else none
    | _, _ => none
set_option maxHeartbeats 2000000 in
theorem t_Rd_readsFile_g {X : jj_X} {d : Nat} : ∀ (f L : Nat) (lo : List (Option Value)) (x : jj_Mem) (q : Int32 × jj_Mem), g_Rd_readsFile f L lo x = some q → jj_J Y0 X (d + 5) m_Rd_readsFile L lo [] x (jp_i q) := by
  intro f
  induction f with
  | zero => intro L lo x q h; simp [g_Rd_readsFile] at h
  | succ f ih =>
    intro L lo x q h
    unfold g_Rd_readsFile at h
    split at h
    · obtain ⟨i1, h⟩ := jj_gt h
      exact t_Rd_readsFile_49 _ ih (ob_Rd (jj_andl i1)) (ob_Pr (jj_andr i1)) h
    · cases h
def k_Rd_readsFile_0 (rec : Nat → List (Option Value) → jj_Mem → Option (Int32 × jj_Mem)) (this : Nat) (a1 : Nat) (x : jj_Mem) : Option (Int32 × jj_Mem) :=
  jj_b2 (f_Rd_next this a1 202 202 (jj_set x this 0 0)) (fun r1 x1 => (if r1 = 0 then some (0, x1) else jj_b2 (f_Rd_readsConstants this a1 x1) (fun r3 x3 => (if r3 = 0 then some (0, x3) else jj_b2 (f_Rd_next this a1 1 4 x3) (fun r5 x5 => (if r5 = 0 then some (0, x5) else rec 49 [some (.ref this), some (.ref a1), some (.int 0)] (jj_set x5 a1 4 (x5 this 1))))))))
set_option maxHeartbeats 2000000 in
theorem t_Rd_readsFile_0 {X : jj_X} {d : Nat} (rec : Nat → List (Option Value) → jj_Mem → Option (Int32 × jj_Mem)) (hrec : ∀ (L : Nat) (lo : List (Option Value)) (x : jj_Mem) (q : Int32 × jj_Mem), rec L lo x = some q → jj_J Y0 X (d + 5) m_Rd_readsFile L lo [] x (jp_i q)) {this : Nat} {a1 : Nat} (h_this : o_Rd this) (h_a1 : o_Pr a1) {x : jj_Mem} {q : Int32 × jj_Mem} (h : k_Rd_readsFile_0 rec this a1 x = some q) : jj_J Y0 X (d + 5) m_Rd_readsFile 0 [some (.ref this), some (.ref a1), none] [] x (jp_i q) := by
  unfold k_Rd_readsFile_0 at h
  refine jj_aload_n d_Rd_readsFile_0 rfl ?_
  refine jj_iconst d_Rd_readsFile_1 jc_i_0 ?_
  refine jj_putI d_Rd_readsFile_2 pk_Rd_15 (sh_Rd h_this).2 (sh_Rd h_this).1 rfl ?_
  refine jj_aload_n d_Rd_readsFile_5 rfl ?_
  refine jj_aload_n d_Rd_readsFile_6 rfl ?_
  refine jj_sipush d_Rd_readsFile_7 jc_s_202 ?_
  refine jj_sipush d_Rd_readsFile_10 jc_s_202 ?_
  obtain ⟨r1, x1, e1, h⟩ := jj_b2o h
  refine jj_callVi (as := [.ref a1, .int 202, .int 202]) (c_Rd_next (d := d + 4) h_this h_a1 e1) d_Rd_readsFile_13 ck_Rd_19 (sh_Rd h_this).2 (sh_Rd h_this).1 ⟨_, rfl, rfl⟩ rfl rfl (Nat.le_of_ble_eq_true rfl) ?_
  refine jj_if_eq (tgt := 37) d_Rd_readsFile_16 rfl (fun c2 => ?_) (fun c2 => ?_)
  · rw [if_pos c2] at h
    refine jj_iconst d_Rd_readsFile_37 jc_i_0 ?_
    cases h
    exact jj_zreturn d_Rd_readsFile_38 rfl (Or.inl rfl) ⟨rfl, rfl⟩
  · rw [if_neg c2] at h
    refine jj_aload_n d_Rd_readsFile_19 rfl ?_
    refine jj_aload_n d_Rd_readsFile_20 rfl ?_
    obtain ⟨r3, x3, e3, h⟩ := jj_b2o h
    refine jj_callVi (as := [.ref a1]) (c_Rd_readsConstants (d := d + 2) h_this h_a1 e3) d_Rd_readsFile_21 ck_Rd_23 (sh_Rd h_this).2 (sh_Rd h_this).1 ⟨_, rfl, rfl⟩ rfl rfl (Nat.le_of_ble_eq_true rfl) ?_
    refine jj_if_eq (tgt := 37) d_Rd_readsFile_24 rfl (fun c4 => ?_) (fun c4 => ?_)
    · rw [if_pos c4] at h
      refine jj_iconst d_Rd_readsFile_37 jc_i_0 ?_
      cases h
      exact jj_zreturn d_Rd_readsFile_38 rfl (Or.inl rfl) ⟨rfl, rfl⟩
    · rw [if_neg c4] at h
      refine jj_aload_n d_Rd_readsFile_27 rfl ?_
      refine jj_aload_n d_Rd_readsFile_28 rfl ?_
      refine jj_iconst d_Rd_readsFile_29 jc_i_1 ?_
      refine jj_iconst d_Rd_readsFile_30 jc_i_4 ?_
      obtain ⟨r5, x5, e5, h⟩ := jj_b2o h
      refine jj_callVi (as := [.ref a1, .int 1, .int 4]) (c_Rd_next (d := d + 4) h_this h_a1 e5) d_Rd_readsFile_31 ck_Rd_19 (sh_Rd h_this).2 (sh_Rd h_this).1 ⟨_, rfl, rfl⟩ rfl rfl (Nat.le_of_ble_eq_true rfl) ?_
      refine jj_if_ne (tgt := 39) d_Rd_readsFile_34 rfl (fun c6 => ?_) (fun c6 => ?_)
      · rw [if_neg c6] at h
        refine jj_aload_n d_Rd_readsFile_39 rfl ?_
        refine jj_aload_n d_Rd_readsFile_40 rfl ?_
        refine jj_getI d_Rd_readsFile_41 fk_Rd_27 (sh_Rd h_this).2 (sh_Rd h_this).1 rfl rfl ?_
        refine jj_putI d_Rd_readsFile_44 pk_Rd_30 (sh_Pr h_a1).2 (sh_Pr h_a1).1 rfl ?_
        refine jj_iconst d_Rd_readsFile_47 jc_i_0 ?_
        refine jj_istore_n (lo' := [_, _, _]) d_Rd_readsFile_48 rfl (by decide) rfl ?_
        exact jj_J.sub (hrec _ _ _ _ h) (fun i v hi => jj_mask_ok [true, true, true] hi)
      · rw [if_pos c6] at h
        refine jj_iconst d_Rd_readsFile_37 jc_i_0 ?_
        cases h
        exact jj_zreturn d_Rd_readsFile_38 rfl (Or.inl rfl) ⟨rfl, rfl⟩
def f_Rd_readsFile (this : Nat) (a1 : Nat) (x : jj_Mem) : Option (Int32 × jj_Mem) := k_Rd_readsFile_0 (g_Rd_readsFile 1000) this a1 x
theorem c_Rd_readsFile {X : jj_X} {d : Nat} {this : Nat} {a1 : Nat} (h_this : o_Rd this) (h_a1 : o_Pr a1) {x : jj_Mem} {q : Int32 × jj_Mem} (h : f_Rd_readsFile this a1 x = some q) : jj_Met Y0 X (d + 5) m_Rd_readsFile [.ref this, .ref a1] x (jp_i q) :=
  jj_metp 1 (lo := [some (.ref this), some (.ref a1), none]) rfl (Nat.le_of_ble_eq_true rfl) rfl (t_Rd_readsFile_0 _ (t_Rd_readsFile_g 1000) h_this h_a1 h)
