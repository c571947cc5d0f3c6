def f_Mo_open (this : Nat) (a1 : Int32) (x : jj_Mem) : Option (jj_Mem) :=
  jj_b2 (f_Mo_methodAt this a1 x) (fun r1 x1 => if jj_inb ((jj_set x1 this 8 r1) this 8) 240 = true then if jj_inb ((((jj_set (jj_set x1 this 8 r1) this 9 ((jj_set x1 this 8 r1) (this + 2) (Int32.toNatClampNeg ((jj_set x1 this 8 r1) this 8)))) this 8) + 2) + ((jj_set (jj_set x1 this 8 r1) this 9 ((jj_set x1 this 8 r1) (this + 2) (Int32.toNatClampNeg ((jj_set x1 this 8 r1) this 8)))) this 9)) 240 = true then jj_b2 (f_Mo_placesOf this ((jj_set (jj_set (jj_set x1 this 8 r1) this 9 ((jj_set x1 this 8 r1) (this + 2) (Int32.toNatClampNeg ((jj_set x1 this 8 r1) this 8)))) this 10 ((jj_set (jj_set x1 this 8 r1) this 9 ((jj_set x1 this 8 r1) (this + 2) (Int32.toNatClampNeg ((jj_set x1 this 8 r1) this 8)))) (this + 2) (Int32.toNatClampNeg ((((jj_set (jj_set x1 this 8 r1) this 9 ((jj_set x1 this 8 r1) (this + 2) (Int32.toNatClampNeg ((jj_set x1 this 8 r1) this 8)))) this 8) + 2) + ((jj_set (jj_set x1 this 8 r1) this 9 ((jj_set x1 this 8 r1) (this + 2) (Int32.toNatClampNeg ((jj_set x1 this 8 r1) this 8)))) this 9))))) this 8) (jj_set (jj_set (jj_set x1 this 8 r1) this 9 ((jj_set x1 this 8 r1) (this + 2) (Int32.toNatClampNeg ((jj_set x1 this 8 r1) this 8)))) this 10 ((jj_set (jj_set x1 this 8 r1) this 9 ((jj_set x1 this 8 r1) (this + 2) (Int32.toNatClampNeg ((jj_set x1 this 8 r1) this 8)))) (this + 2) (Int32.toNatClampNeg ((((jj_set (jj_set x1 this 8 r1) this 9 ((jj_set x1 this 8 r1) (this + 2) (Int32.toNatClampNeg ((jj_set x1 this 8 r1) this 8)))) this 8) + 2) + ((jj_set (jj_set x1 this 8 r1) this 9 ((jj_set x1 this 8 r1) (this + 2) (Int32.toNatClampNeg ((jj_set x1 this 8 r1) this 8)))) this 9)))))) (fun r4 x4 => jj_b2 (f_Mo_lengthOf this ((jj_set x4 this 11 r4) this 8) (jj_set x4 this 11 r4)) (fun r5 x5 => jj_b2 (f_Mo_codeOf this ((jj_set x5 this 12 r5) this 8) (jj_set x5 this 12 r5)) (fun r6 x6 => some (jj_set x6 this 13 r6)))) else none else none)
set_option maxHeartbeats 2000000 in
theorem t_Mo_open_0 {X : jj_X} {d : Nat} {this : Nat} {a1 : Int32} (h_this : o_Mo this) {x : jj_Mem} {q : jj_Mem} (h : f_Mo_open this a1 x = some q) : jj_J Y0 X (d + 2) m_Mo_open 0 [some (.ref this), some (.int a1)] [] x (jp_v q) := by
  unfold f_Mo_open at h
  refine jj_aload_n d_Mo_open_0 rfl ?_
  refine jj_aload_n d_Mo_open_1 rfl ?_
  refine jj_iload_n d_Mo_open_2 rfl ?_
  obtain ⟨r1, x1, e1, h⟩ := jj_b2o h
  refine jj_callVi (as := [.int a1]) (c_Mo_methodAt (d := d + 0) h_this e1) d_Mo_open_3 ck_Mo_121 (sh_Mo h_this).2 (sh_Mo h_this).1 ⟨_, rfl, rfl⟩ rfl rfl (Nat.le_of_ble_eq_true rfl) ?_
  refine jj_putI d_Mo_open_6 pk_Mo_124 (sh_Mo h_this).2 (sh_Mo h_this).1 rfl ?_
  refine jj_aload_n d_Mo_open_9 rfl ?_
  refine jj_aload_n d_Mo_open_10 rfl ?_
  refine jj_getR d_Mo_open_11 fk_Mo_13 (sh_Mo h_this).2 (sh_Mo h_this).1 rfl ?_
  refine jj_aload_n d_Mo_open_14 rfl ?_
  refine jj_getI d_Mo_open_15 fk_Mo_124 (sh_Mo h_this).2 (sh_Mo h_this).1 rfl rfl ?_
  obtain ⟨i2, h⟩ := jj_gt h
  refine jj_iaload d_Mo_open_18 rfl (ar_Mo_kept h_this).1 (ar_Mo_kept h_this).2 (jj_inn i2) rfl ?_
  refine jj_putI d_Mo_open_19 pk_Mo_127 (sh_Mo h_this).2 (sh_Mo h_this).1 rfl ?_
  refine jj_aload_n d_Mo_open_22 rfl ?_
  refine jj_aload_n d_Mo_open_23 rfl ?_
  refine jj_getR d_Mo_open_24 fk_Mo_13 (sh_Mo h_this).2 (sh_Mo h_this).1 rfl ?_
  refine jj_aload_n d_Mo_open_27 rfl ?_
  refine jj_getI d_Mo_open_28 fk_Mo_124 (sh_Mo h_this).2 (sh_Mo h_this).1 rfl rfl ?_
  refine jj_iconst d_Mo_open_31 jc_i_2 ?_
  refine jj_iadd d_Mo_open_32 ?_
  refine jj_aload_n d_Mo_open_33 rfl ?_
  refine jj_getI d_Mo_open_34 fk_Mo_127 (sh_Mo h_this).2 (sh_Mo h_this).1 rfl rfl ?_
  refine jj_iadd d_Mo_open_37 ?_
  obtain ⟨i3, h⟩ := jj_gt h
  refine jj_iaload d_Mo_open_38 rfl (ar_Mo_kept h_this).1 (ar_Mo_kept h_this).2 (jj_inn i3) rfl ?_
  refine jj_putI d_Mo_open_39 pk_Mo_130 (sh_Mo h_this).2 (sh_Mo h_this).1 rfl ?_
  refine jj_aload_n d_Mo_open_42 rfl ?_
  refine jj_aload_n d_Mo_open_43 rfl ?_
  refine jj_aload_n d_Mo_open_44 rfl ?_
  refine jj_getI d_Mo_open_45 fk_Mo_124 (sh_Mo h_this).2 (sh_Mo h_this).1 rfl rfl ?_
  obtain ⟨r4, x4, e4, h⟩ := jj_b2o h
  refine jj_callVi (as := [.int ((jj_set (jj_set (jj_set x1 this 8 r1) this 9 ((jj_set x1 this 8 r1) (this + 2) (Int32.toNatClampNeg ((jj_set x1 this 8 r1) this 8)))) this 10 ((jj_set (jj_set x1 this 8 r1) this 9 ((jj_set x1 this 8 r1) (this + 2) (Int32.toNatClampNeg ((jj_set x1 this 8 r1) this 8)))) (this + 2) (Int32.toNatClampNeg ((((jj_set (jj_set x1 this 8 r1) this 9 ((jj_set x1 this 8 r1) (this + 2) (Int32.toNatClampNeg ((jj_set x1 this 8 r1) this 8)))) this 8) + 2) + ((jj_set (jj_set x1 this 8 r1) this 9 ((jj_set x1 this 8 r1) (this + 2) (Int32.toNatClampNeg ((jj_set x1 this 8 r1) this 8)))) this 9))))) this 8)]) (c_Mo_placesOf (d := d + 1) h_this e4) d_Mo_open_48 ck_Mo_118 (sh_Mo h_this).2 (sh_Mo h_this).1 ⟨_, rfl, rfl⟩ rfl rfl (Nat.le_of_ble_eq_true rfl) ?_
  refine jj_putI d_Mo_open_51 pk_Mo_133 (sh_Mo h_this).2 (sh_Mo h_this).1 rfl ?_
  refine jj_aload_n d_Mo_open_54 rfl ?_
  refine jj_aload_n d_Mo_open_55 rfl ?_
  refine jj_aload_n d_Mo_open_56 rfl ?_
  refine jj_getI d_Mo_open_57 fk_Mo_124 (sh_Mo h_this).2 (sh_Mo h_this).1 rfl rfl ?_
  obtain ⟨r5, x5, e5, h⟩ := jj_b2o h
  refine jj_callVi (as := [.int ((jj_set x4 this 11 r4) this 8)]) (c_Mo_lengthOf (d := d + 1) h_this e5) d_Mo_open_60 ck_Mo_115 (sh_Mo h_this).2 (sh_Mo h_this).1 ⟨_, rfl, rfl⟩ rfl rfl (Nat.le_of_ble_eq_true rfl) ?_
  refine jj_putI d_Mo_open_63 pk_Mo_136 (sh_Mo h_this).2 (sh_Mo h_this).1 rfl ?_
  refine jj_aload_n d_Mo_open_66 rfl ?_
  refine jj_aload_n d_Mo_open_67 rfl ?_
  refine jj_aload_n d_Mo_open_68 rfl ?_
  refine jj_getI d_Mo_open_69 fk_Mo_124 (sh_Mo h_this).2 (sh_Mo h_this).1 rfl rfl ?_
  obtain ⟨r6, x6, e6, h⟩ := jj_b2o h
  refine jj_callVi (as := [.int ((jj_set x5 this 12 r5) this 8)]) (c_Mo_codeOf (d := d + 1) h_this e6) d_Mo_open_72 ck_Mo_112 (sh_Mo h_this).2 (sh_Mo h_this).1 ⟨_, rfl, rfl⟩ rfl rfl (Nat.le_of_ble_eq_true rfl) ?_
  refine jj_putI d_Mo_open_75 pk_Mo_139 (sh_Mo h_this).2 (sh_Mo h_this).1 rfl ?_
  cases h
  exact jj_return d_Mo_open_78 rfl ⟨rfl, rfl⟩
theorem c_Mo_open {X : jj_X} {d : Nat} {this : Nat} {a1 : Int32} (h_this : o_Mo this) {x : jj_Mem} {q : jj_Mem} (h : f_Mo_open this a1 x = some q) : jj_Met Y0 X (d + 2) m_Mo_open [.ref this, .int a1] x (jp_v q) :=
  jj_metp 0 (lo := [some (.ref this), some (.int a1)]) rfl (Nat.le_of_ble_eq_true rfl) rfl (t_Mo_open_0 h_this h)
def k_Mo_skip_35 (rec : Nat → List (Option Value) → jj_Mem → Option (jj_Mem)) (l0 : Nat) (l1 : Int32) (l2 : Int32) (l3 : Int32) (l4 : Int32) (s0 : Nat) (s1 : Int32) (x : jj_Mem) : Option (jj_Mem) :=
  if jj_zb s1 = true then rec 3 [some (.ref l0), some (.int l1), some (.int l2), some (.int l3), some (.int (l4 + 1)), none] (jj_set x s0 4 s1) else none
set_option maxHeartbeats 2000000 in
theorem t_Mo_skip_35 {X : jj_X} {d : Nat} (rec : Nat → List (Option Value) → jj_Mem → Option (jj_Mem)) (hrec : ∀ (L : Nat) (lo : List (Option Value)) (x : jj_Mem) (q : jj_Mem), rec L lo x = some q → jj_J Y0 X (d + 2) m_Mo_skip L lo [] x (jp_v q)) {l0 : Nat} {l1 : Int32} {l2 : Int32} {l3 : Int32} {l4 : Int32} {s0 : Nat} {s1 : Int32} (h_l0 : o_Mo l0) (h_s0 : o_Mo s0) {x : jj_Mem} {q : jj_Mem} (h : k_Mo_skip_35 rec l0 l1 l2 l3 l4 s0 s1 x = some q) : jj_J Y0 X (d + 2) m_Mo_skip 35 [some (.ref l0), some (.int l1), some (.int l2), some (.int l3), some (.int l4), none] [.int s1, .ref s0] x (jp_v q) := by
  unfold k_Mo_skip_35 at h
  obtain ⟨i1, h⟩ := jj_gt h
  refine jj_putZ d_Mo_skip_35 pk_Mo_64 (sh_Mo h_s0).2 (sh_Mo h_s0).1 rfl (jj_zbo i1) ?_
  refine jj_iinc (lo' := [_, _, _, _, _, _]) (v := (l4 + 1)) d_Mo_skip_38 rfl (jc_a_1 _) rfl (by decide) rfl ?_
  refine jj_goto (tgt := 3) d_Mo_skip_41 rfl ?_
  exact jj_J.sub (hrec _ _ _ _ h) (fun i v hi => jj_mask_ok [true, true, true, true, true, false] hi)
def k_Mo_skip_30 (rec : Nat → List (Option Value) → jj_Mem → Option (jj_Mem)) (l0 : Nat) (l1 : Int32) (l2 : Int32) (l3 : Int32) (l4 : Int32) (s0 : Nat) (x : jj_Mem) : Option (jj_Mem) :=
  k_Mo_skip_35 rec l0 l1 l2 l3 l4 s0 1 x
set_option maxHeartbeats 2000000 in
theorem t_Mo_skip_30 {X : jj_X} {d : Nat} (rec : Nat → List (Option Value) → jj_Mem → Option (jj_Mem)) (hrec : ∀ (L : Nat) (lo : List (Option Value)) (x : jj_Mem) (q : jj_Mem), rec L lo x = some q → jj_J Y0 X (d + 2) m_Mo_skip L lo [] x (jp_v q)) {l0 : Nat} {l1 : Int32} {l2 : Int32} {l3 : Int32} {l4 : Int32} {s0 : Nat} (h_l0 : o_Mo l0) (h_s0 : o_Mo s0) {x : jj_Mem} {q : jj_Mem} (h : k_Mo_skip_30 rec l0 l1 l2 l3 l4 s0 x = some q) : jj_J Y0 X (d + 2) m_Mo_skip 30 [some (.ref l0), some (.int l1), some (.int l2), some (.int l3), some (.int l4), none] [.ref s0] x (jp_v q) := by
  unfold k_Mo_skip_30 at h
  refine jj_iconst d_Mo_skip_30 jc_i_1 ?_
  refine jj_goto (tgt := 35) d_Mo_skip_31 rfl ?_
  exact jj_J.sub (t_Mo_skip_35 rec hrec h_l0 h_s0 h) (fun i v hi => jj_mask_ok [true, true, true, true, true, false] hi)
def k_Mo_skip_3 (rec : Nat → List (Option Value) → jj_Mem → Option (jj_Mem)) (l0 : Nat) (l1 : Int32) (l2 : Int32) (l3 : Int32) (l4 : Int32) (x : jj_Mem) : Option (jj_Mem) :=
  (if l1 ≤ l4 then some x else jj_b2 (f_Mo_next l0 l2 l3 x) (fun r2 x2 => (if (x2 l0 4) = 0 then (if 0 ≤ r2 then k_Mo_skip_35 rec l0 l1 l2 l3 l4 l0 0 x2 else k_Mo_skip_30 rec l0 l1 l2 l3 l4 l0 x2) else k_Mo_skip_30 rec l0 l1 l2 l3 l4 l0 x2)))
set_option maxHeartbeats 2000000 in
theorem t_Mo_skip_3 {X : jj_X} {d : Nat} (rec : Nat → List (Option Value) → jj_Mem → Option (jj_Mem)) (hrec : ∀ (L : Nat) (lo : List (Option Value)) (x : jj_Mem) (q : jj_Mem), rec L lo x = some q → jj_J Y0 X (d + 2) m_Mo_skip L lo [] x (jp_v q)) {l0 : Nat} {l1 : Int32} {l2 : Int32} {l3 : Int32} {l4 : Int32} (h_l0 : o_Mo l0) {x : jj_Mem} {q : jj_Mem} (h : k_Mo_skip_3 rec l0 l1 l2 l3 l4 x = some q) : jj_J Y0 X (d + 2) m_Mo_skip 3 [some (.ref l0), some (.int l1), some (.int l2), some (.int l3), some (.int l4), none] [] x (jp_v q) := by
  unfold k_Mo_skip_3 at h
  refine jj_iload d_Mo_skip_3 rfl ?_
  refine jj_iload_n d_Mo_skip_5 rfl ?_
  refine jj_ic_ge (tgt := 44) d_Mo_skip_6 rfl (fun c1 => ?_) (fun c1 => ?_)
  · rw [if_pos c1] at h
    cases h
    exact jj_return d_Mo_skip_44 rfl ⟨rfl, rfl⟩
  · rw [if_neg c1] at h
    refine jj_aload_n d_Mo_skip_9 rfl ?_
    refine jj_iload_n d_Mo_skip_10 rfl ?_
    refine jj_iload_n d_Mo_skip_11 rfl ?_
    obtain ⟨r2, x2, e2, h⟩ := jj_b2o h
    refine jj_callVi (as := [.int l2, .int l3]) (c_Mo_next (d := d + 0) h_l0 e2) d_Mo_skip_12 ck_Mo_71 (sh_Mo h_l0).2 (sh_Mo h_l0).1 ⟨_, rfl, rfl⟩ rfl rfl (Nat.le_of_ble_eq_true rfl) ?_
    refine jj_istore (lo' := [_, _, _, _, _, _]) d_Mo_skip_15 rfl (by decide) rfl ?_
    refine jj_aload_n d_Mo_skip_17 rfl ?_
    refine jj_aload_n d_Mo_skip_18 rfl ?_
    refine jj_getI d_Mo_skip_19 fk_Mo_64 (sh_Mo h_l0).2 (sh_Mo h_l0).1 rfl rfl ?_
    refine jj_if_ne (tgt := 30) d_Mo_skip_22 rfl (fun c3 => ?_) (fun c3 => ?_)
    · rw [if_neg c3] at h
      exact jj_J.sub (t_Mo_skip_30 rec hrec h_l0 h_l0 h) (fun i v hi => jj_mask_ok [true, true, true, true, true, false] hi)
    · rw [if_pos c3] at h
      refine jj_iload d_Mo_skip_25 rfl ?_
      refine jj_if_ge (tgt := 34) d_Mo_skip_27 rfl (fun c4 => ?_) (fun c4 => ?_)
      · rw [if_pos c4] at h
        refine jj_iconst d_Mo_skip_34 jc_i_0 ?_
        exact jj_J.sub (t_Mo_skip_35 rec hrec h_l0 h_l0 h) (fun i v hi => jj_mask_ok [true, true, true, true, true, false] hi)
      · rw [if_neg c4] at h
        exact jj_J.sub (t_Mo_skip_30 rec hrec h_l0 h_l0 h) (fun i v hi => jj_mask_ok [true, true, true, true, true, false] hi)
def g_Mo_skip : Nat → Nat → List (Option Value) → jj_Mem → Option (jj_Mem)
  | 0, _, _, _ => none
  | f + 1, L, lo, x => match L, lo with
    | 3, [some (.ref l0), some (.int l1), some (.int l2), some (.int l3), some (.int l4), none] => if (bo_Mo l0) = true then k_Mo_skip_3 (g_Mo_skip f) l0 l1 l2 l3 l4 x else none
    | _, _ => none
set_option maxHeartbeats 2000000 in
theorem t_Mo_skip_g {X : jj_X} {d : Nat} : ∀ (f L : Nat) (lo : List (Option Value)) (x : jj_Mem) (q : jj_Mem), g_Mo_skip f L lo x = some q → jj_J Y0 X (d + 2) m_Mo_skip L lo [] x (jp_v q) := by
  intro f
  induction f with
  | zero => intro L lo x q h; simp [g_Mo_skip] at h
  | succ f ih =>
    intro L lo x q h
    unfold g_Mo_skip at h
    split at h
    · obtain ⟨i1, h⟩ := jj_gt h
      exact t_Mo_skip_3 _ ih (ob_Mo i1) h
    · cases h
def k_Mo_skip_0 (rec : Nat → List (Option Value) → jj_Mem → Option (jj_Mem)) (this : Nat) (a1 : Int32) (a2 : Int32) (a3 : Int32) (x : jj_Mem) : Option (jj_Mem) :=
  rec 3 [some (.ref this), some (.int a1), some (.int a2), some (.int a3), some (.int 0), none] x
set_option maxHeartbeats 2000000 in
theorem t_Mo_skip_0 {X : jj_X} {d : Nat} (rec : Nat → List (Option Value) → jj_Mem → Option (jj_Mem)) (hrec : ∀ (L : Nat) (lo : List (Option Value)) (x : jj_Mem) (q : jj_Mem), rec L lo x = some q → jj_J Y0 X (d + 2) m_Mo_skip L lo [] x (jp_v q)) {this : Nat} {a1 : Int32} {a2 : Int32} {a3 : Int32} (h_this : o_Mo this) {x : jj_Mem} {q : jj_Mem} (h : k_Mo_skip_0 rec this a1 a2 a3 x = some q) : jj_J Y0 X (d + 2) m_Mo_skip 0 [some (.ref this), some (.int a1), some (.int a2), some (.int a3), none, none] [] x (jp_v q) := by
  unfold k_Mo_skip_0 at h
  refine jj_iconst d_Mo_skip_0 jc_i_0 ?_
  refine jj_istore (lo' := [_, _, _, _, _, _]) d_Mo_skip_1 rfl (by decide) rfl ?_
  exact jj_J.sub (hrec _ _ _ _ h) (fun i v hi => jj_mask_ok [true, true, true, true, true, false] hi)
def f_Mo_skip (this : Nat) (a1 : Int32) (a2 : Int32) (a3 : Int32) (x : jj_Mem) : Option (jj_Mem) := k_Mo_skip_0 (g_Mo_skip 1000) this a1 a2 a3 x
theorem c_Mo_skip {X : jj_X} {d : Nat} {this : Nat} {a1 : Int32} {a2 : Int32} {a3 : Int32} (h_this : o_Mo this) {x : jj_Mem} {q : jj_Mem} (h : f_Mo_skip this a1 a2 a3 x = some q) : jj_Met Y0 X (d + 2) m_Mo_skip [.ref this, .int a1, .int a2, .int a3] x (jp_v q) :=
  jj_metp 2 (lo := [some (.ref this), some (.int a1), some (.int a2), some (.int a3), none, none]) rfl (Nat.le_of_ble_eq_true rfl) rfl (t_Mo_skip_0 _ (t_Mo_skip_g 1000) h_this h)
def k_Mo_begins_35 (rec : Nat → List (Option Value) → jj_Mem → Option (Int32 × jj_Mem)) (l2 : Int32) (l3 : Int32) (l4 : Int32) (x : jj_Mem) : Option (Int32 × jj_Mem) :=
  (if l4 = l3 then (if l2 ≤ l4 then some (0, x) else some (1, x)) else some (0, x))
set_option maxHeartbeats 2000000 in
theorem t_Mo_begins_35 {X : jj_X} {d : Nat} (rec : Nat → List (Option Value) → jj_Mem → Option (Int32 × jj_Mem)) (hrec : ∀ (L : Nat) (lo : List (Option Value)) (x : jj_Mem) (q : Int32 × jj_Mem), rec L lo x = some q → jj_J Y0 X (d + 3) m_Mo_begins L lo [] x (jp_i q)) {l2 : Int32} {l3 : Int32} {l4 : Int32}  {x : jj_Mem} {q : Int32 × jj_Mem} (h : k_Mo_begins_35 rec l2 l3 l4 x = some q) : jj_J Y0 X (d + 3) m_Mo_begins 35 [none, none, some (.int l2), some (.int l3), some (.int l4)] [] x (jp_i q) := by
  unfold k_Mo_begins_35 at h
  refine jj_iload d_Mo_begins_35 rfl ?_
  refine jj_iload_n d_Mo_begins_37 rfl ?_
  refine jj_ic_ne (tgt := 51) d_Mo_begins_38 rfl (fun c1 => ?_) (fun c1 => ?_)
  · rw [if_neg c1] at h
    refine jj_iconst d_Mo_begins_51 jc_i_0 ?_
    cases h
    exact jj_zreturn d_Mo_begins_52 rfl (Or.inl rfl) ⟨rfl, rfl⟩
  · rw [if_pos c1] at h
    refine jj_iload d_Mo_begins_41 rfl ?_
    refine jj_iload_n d_Mo_begins_43 rfl ?_
    refine jj_ic_ge (tgt := 51) d_Mo_begins_44 rfl (fun c2 => ?_) (fun c2 => ?_)
    · rw [if_pos c2] at h
      refine jj_iconst d_Mo_begins_51 jc_i_0 ?_
      cases h
      exact jj_zreturn d_Mo_begins_52 rfl (Or.inl rfl) ⟨rfl, rfl⟩
    · rw [if_neg c2] at h
      refine jj_iconst d_Mo_begins_47 jc_i_1 ?_
      refine jj_goto (tgt := 52) d_Mo_begins_48 rfl ?_
      cases h
      exact jj_zreturn d_Mo_begins_52 rfl (Or.inr rfl) ⟨rfl, rfl⟩
def k_Mo_begins_3 (rec : Nat → List (Option Value) → jj_Mem → Option (Int32 × jj_Mem)) (l0 : Nat) (l1 : Int32) (l2 : Int32) (l3 : Int32) (l4 : Int32) (x : jj_Mem) : Option (Int32 × jj_Mem) :=
  (if l2 ≤ l4 then k_Mo_begins_35 rec l2 l3 l4 x else (if l3 ≤ l4 then k_Mo_begins_35 rec l2 l3 l4 x else if jj_inb (l1 + l4) 240 = true then jj_b1 (s_Mo_bytes (x (l0 + 1) (Int32.toNatClampNeg (l1 + l4)))) (fun r4 => rec 3 [some (.ref l0), some (.int l1), some (.int l2), some (.int l3), some (.int (l4 + r4))] x) else none))
set_option maxHeartbeats 2000000 in
theorem t_Mo_begins_3 {X : jj_X} {d : Nat} (rec : Nat → List (Option Value) → jj_Mem → Option (Int32 × jj_Mem)) (hrec : ∀ (L : Nat) (lo : List (Option Value)) (x : jj_Mem) (q : Int32 × jj_Mem), rec L lo x = some q → jj_J Y0 X (d + 3) m_Mo_begins L lo [] x (jp_i q)) {l0 : Nat} {l1 : Int32} {l2 : Int32} {l3 : Int32} {l4 : Int32} (h_l0 : o_Mo l0) {x : jj_Mem} {q : Int32 × jj_Mem} (h : k_Mo_begins_3 rec l0 l1 l2 l3 l4 x = some q) : jj_J Y0 X (d + 3) m_Mo_begins 3 [some (.ref l0), some (.int l1), some (.int l2), some (.int l3), some (.int l4)] [] x (jp_i q) := by
  unfold k_Mo_begins_3 at h
  refine jj_iload d_Mo_begins_3 rfl ?_
  refine jj_iload_n d_Mo_begins_5 rfl ?_
  refine jj_ic_ge (tgt := 35) d_Mo_begins_6 rfl (fun c1 => ?_) (fun c1 => ?_)
  · rw [if_pos c1] at h
    exact jj_J.sub (t_Mo_begins_35 rec hrec  h) (fun i v hi => jj_mask_ok [false, false, true, true, true] hi)
  · rw [if_neg c1] at h
    refine jj_iload d_Mo_begins_9 rfl ?_
    refine jj_iload_n d_Mo_begins_11 rfl ?_
    refine jj_ic_ge (tgt := 35) d_Mo_begins_12 rfl (fun c2 => ?_) (fun c2 => ?_)
    · rw [if_pos c2] at h
      exact jj_J.sub (t_Mo_begins_35 rec hrec  h) (fun i v hi => jj_mask_ok [false, false, true, true, true] hi)
    · rw [if_neg c2] at h
      refine jj_iload d_Mo_begins_15 rfl ?_
      refine jj_aload_n d_Mo_begins_17 rfl ?_
      refine jj_getR d_Mo_begins_18 fk_Mo_7 (sh_Mo h_l0).2 (sh_Mo h_l0).1 rfl ?_
      refine jj_iload_n d_Mo_begins_21 rfl ?_
      refine jj_iload d_Mo_begins_22 rfl ?_
      refine jj_iadd d_Mo_begins_24 ?_
      obtain ⟨i3, h⟩ := jj_gt h
      refine jj_iaload d_Mo_begins_25 rfl (ar_Mo_file h_l0).1 (ar_Mo_file h_l0).2 (jj_inn i3) rfl ?_
      obtain ⟨r4, e4, h⟩ := jj_b1o h
      refine jj_callSi (as := [.int (x (l0 + 1) (Int32.toNatClampNeg (l1 + l4)))]) (c_Mo_bytes (d := d + 0)  e4) d_Mo_begins_26 ck_Mo_75 rfl rfl (Nat.le_of_ble_eq_true rfl) ?_
      refine jj_iadd d_Mo_begins_29 ?_
      refine jj_istore (lo' := [_, _, _, _, _]) d_Mo_begins_30 rfl (by decide) rfl ?_
      refine jj_goto (tgt := 3) d_Mo_begins_32 rfl ?_
      exact jj_J.sub (hrec _ _ _ _ h) (fun i v hi => jj_mask_ok [true, true, true, true, true] hi)
def g_Mo_begins : Nat → Nat → List (Option Value) → jj_Mem → Option (Int32 × jj_Mem)
  | 0, _, _, _ => none
  | f + 1, L, lo, x => match L, lo with
    | 3, [some (.ref l0), some (.int l1), some (.int l2), some (.int l3), some (.int l4)] => if (bo_Mo l0) = true then k_Mo_begins_3 (g_Mo_begins f) l0 l1 l2 l3 l4 x else none
    | _, _ => none
set_option maxHeartbeats 2000000 in
theorem t_Mo_begins_g {X : jj_X} {d : Nat} : ∀ (f L : Nat) (lo : List (Option Value)) (x : jj_Mem) (q : Int32 × jj_Mem), g_Mo_begins f L lo x = some q → jj_J Y0 X (d + 3) m_Mo_begins L lo [] x (jp_i q) := by
  intro f
  induction f with
  | zero => intro L lo x q h; simp [g_Mo_begins] at h
  | succ f ih =>
    intro L lo x q h
    unfold g_Mo_begins at h
    split at h
    · obtain ⟨i1, h⟩ := jj_gt h
      exact t_Mo_begins_3 _ ih (ob_Mo i1) h
    · cases h
def k_Mo_begins_0 (rec : Nat → List (Option Value) → jj_Mem → Option (Int32 × jj_Mem)) (this : Nat) (a1 : Int32) (a2 : Int32) (a3 : Int32) (x : jj_Mem) : Option (Int32 × jj_Mem) :=
  rec 3 [some (.ref this), some (.int a1), some (.int a2), some (.int a3), some (.int 0)] x
set_option maxHeartbeats 2000000 in
theorem t_Mo_begins_0 {X : jj_X} {d : Nat} (rec : Nat → List (Option Value) → jj_Mem → Option (Int32 × jj_Mem)) (hrec : ∀ (L : Nat) (lo : List (Option Value)) (x : jj_Mem) (q : Int32 × jj_Mem), rec L lo x = some q → jj_J Y0 X (d + 3) m_Mo_begins L lo [] x (jp_i q)) {this : Nat} {a1 : Int32} {a2 : Int32} {a3 : Int32} (h_this : o_Mo this) {x : jj_Mem} {q : Int32 × jj_Mem} (h : k_Mo_begins_0 rec this a1 a2 a3 x = some q) : jj_J Y0 X (d + 3) m_Mo_begins 0 [some (.ref this), some (.int a1), some (.int a2), some (.int a3), none] [] x (jp_i q) := by
  unfold k_Mo_begins_0 at h
  refine jj_iconst d_Mo_begins_0 jc_i_0 ?_
  refine jj_istore (lo' := [_, _, _, _, _]) d_Mo_begins_1 rfl (by decide) rfl ?_
  exact jj_J.sub (hrec _ _ _ _ h) (fun i v hi => jj_mask_ok [true, true, true, true, true] hi)
def f_Mo_begins (this : Nat) (a1 : Int32) (a2 : Int32) (a3 : Int32) (x : jj_Mem) : Option (Int32 × jj_Mem) := k_Mo_begins_0 (g_Mo_begins 1000) this a1 a2 a3 x
theorem c_Mo_begins {X : jj_X} {d : Nat} {this : Nat} {a1 : Int32} {a2 : Int32} {a3 : Int32} (h_this : o_Mo this) {x : jj_Mem} {q : Int32 × jj_Mem} (h : f_Mo_begins this a1 a2 a3 x = some q) : jj_Met Y0 X (d + 3) m_Mo_begins [.ref this, .int a1, .int a2, .int a3] x (jp_i q) :=
  jj_metp 1 (lo := [some (.ref this), some (.int a1), some (.int a2), some (.int a3), none]) rfl (Nat.le_of_ble_eq_true rfl) rfl (t_Mo_begins_0 _ (t_Mo_begins_g 1000) h_this h)
def k_Mo_enter_47 (rec : Nat → List (Option Value) → jj_Mem → Option (jj_Mem)) (l0 : Nat) (l1 : Int32) (l3 : Int32) (l4 : Int32) (x : jj_Mem) : Option (jj_Mem) :=
  (if l4 < 0 then some x else if jj_inb l1 4 = true then if jj_inb l1 4 = true then if jj_inb l1 4 = true then if jj_inb ((6 * l1) + ((jj_set x (l0 + 7) (Int32.toNatClampNeg l1) ((x (l0 + 7) (Int32.toNatClampNeg l1)) - 1)) (l0 + 7) (Int32.toNatClampNeg l1))) 24 = true then if jj_inb ((6 * l3) + l4) 24 = true then if jj_inb l1 4 = true then if jj_inb ((6 * l1) + ((jj_set (jj_set x (l0 + 7) (Int32.toNatClampNeg l1) ((x (l0 + 7) (Int32.toNatClampNeg l1)) - 1)) (l0 + 3) (Int32.toNatClampNeg ((6 * l3) + l4)) ((jj_set x (l0 + 7) (Int32.toNatClampNeg l1) ((x (l0 + 7) (Int32.toNatClampNeg l1)) - 1)) (l0 + 5) (Int32.toNatClampNeg ((6 * l1) + ((jj_set x (l0 + 7) (Int32.toNatClampNeg l1) ((x (l0 + 7) (Int32.toNatClampNeg l1)) - 1)) (l0 + 7) (Int32.toNatClampNeg l1)))))) (l0 + 7) (Int32.toNatClampNeg l1))) 24 = true then if jj_inb ((6 * l3) + l4) 24 = true then rec 47 [some (.ref l0), some (.int l1), none, some (.int l3), some (.int (l4 + (-1)))] (jj_set (jj_set (jj_set x (l0 + 7) (Int32.toNatClampNeg l1) ((x (l0 + 7) (Int32.toNatClampNeg l1)) - 1)) (l0 + 3) (Int32.toNatClampNeg ((6 * l3) + l4)) ((jj_set x (l0 + 7) (Int32.toNatClampNeg l1) ((x (l0 + 7) (Int32.toNatClampNeg l1)) - 1)) (l0 + 5) (Int32.toNatClampNeg ((6 * l1) + ((jj_set x (l0 + 7) (Int32.toNatClampNeg l1) ((x (l0 + 7) (Int32.toNatClampNeg l1)) - 1)) (l0 + 7) (Int32.toNatClampNeg l1)))))) (l0 + 4) (Int32.toNatClampNeg ((6 * l3) + l4)) ((jj_set (jj_set x (l0 + 7) (Int32.toNatClampNeg l1) ((x (l0 + 7) (Int32.toNatClampNeg l1)) - 1)) (l0 + 3) (Int32.toNatClampNeg ((6 * l3) + l4)) ((jj_set x (l0 + 7) (Int32.toNatClampNeg l1) ((x (l0 + 7) (Int32.toNatClampNeg l1)) - 1)) (l0 + 5) (Int32.toNatClampNeg ((6 * l1) + ((jj_set x (l0 + 7) (Int32.toNatClampNeg l1) ((x (l0 + 7) (Int32.toNatClampNeg l1)) - 1)) (l0 + 7) (Int32.toNatClampNeg l1)))))) (l0 + 6) (Int32.toNatClampNeg ((6 * l1) + ((jj_set (jj_set x (l0 + 7) (Int32.toNatClampNeg l1) ((x (l0 + 7) (Int32.toNatClampNeg l1)) - 1)) (l0 + 3) (Int32.toNatClampNeg ((6 * l3) + l4)) ((jj_set x (l0 + 7) (Int32.toNatClampNeg l1) ((x (l0 + 7) (Int32.toNatClampNeg l1)) - 1)) (l0 + 5) (Int32.toNatClampNeg ((6 * l1) + ((jj_set x (l0 + 7) (Int32.toNatClampNeg l1) ((x (l0 + 7) (Int32.toNatClampNeg l1)) - 1)) (l0 + 7) (Int32.toNatClampNeg l1)))))) (l0 + 7) (Int32.toNatClampNeg l1)))))) else none else none else none else none else none else none else none else none)
set_option maxHeartbeats 2000000 in
theorem t_Mo_enter_47 {X : jj_X} {d : Nat} (rec : Nat → List (Option Value) → jj_Mem → Option (jj_Mem)) (hrec : ∀ (L : Nat) (lo : List (Option Value)) (x : jj_Mem) (q : jj_Mem), rec L lo x = some q → jj_J Y0 X (d + 3) m_Mo_enter L lo [] x (jp_v q)) {l0 : Nat} {l1 : Int32} {l3 : Int32} {l4 : Int32} (h_l0 : o_Mo l0) {x : jj_Mem} {q : jj_Mem} (h : k_Mo_enter_47 rec l0 l1 l3 l4 x = some q) : jj_J Y0 X (d + 3) m_Mo_enter 47 [some (.ref l0), some (.int l1), none, some (.int l3), some (.int l4)] [] x (jp_v q) := by
  unfold k_Mo_enter_47 at h
  refine jj_iload d_Mo_enter_47 rfl ?_
  refine jj_if_lt (tgt := 128) d_Mo_enter_49 rfl (fun c1 => ?_) (fun c1 => ?_)
  · rw [if_pos c1] at h
    cases h
    exact jj_return d_Mo_enter_128 rfl ⟨rfl, rfl⟩
  · rw [if_neg c1] at h
    refine jj_aload_n d_Mo_enter_52 rfl ?_
    refine jj_getR d_Mo_enter_53 fk_Mo_28 (sh_Mo h_l0).2 (sh_Mo h_l0).1 rfl ?_
    refine jj_iload_n d_Mo_enter_56 rfl ?_
    refine jj_aload_n d_Mo_enter_57 rfl ?_
    refine jj_getR d_Mo_enter_58 fk_Mo_28 (sh_Mo h_l0).2 (sh_Mo h_l0).1 rfl ?_
    refine jj_iload_n d_Mo_enter_61 rfl ?_
    obtain ⟨i2, h⟩ := jj_gt h
    refine jj_iaload d_Mo_enter_62 rfl (ar_Mo_height h_l0).1 (ar_Mo_height h_l0).2 (jj_inn i2) rfl ?_
    refine jj_iconst d_Mo_enter_63 jc_i_1 ?_
    refine jj_isub d_Mo_enter_64 ?_
    obtain ⟨i3, h⟩ := jj_gt h
    refine jj_iastore d_Mo_enter_65 rfl (ar_Mo_height h_l0).1 (ar_Mo_height h_l0).2 (jj_inn i3) ?_
    refine jj_aload_n d_Mo_enter_66 rfl ?_
    refine jj_getR d_Mo_enter_67 fk_Mo_16 (sh_Mo h_l0).2 (sh_Mo h_l0).1 rfl ?_
    refine jj_bipush d_Mo_enter_70 jc_b_6 ?_
    refine jj_iload_n d_Mo_enter_72 rfl ?_
    refine jj_imul d_Mo_enter_73 ?_
    refine jj_iload d_Mo_enter_74 rfl ?_
    refine jj_iadd d_Mo_enter_76 ?_
    refine jj_aload_n d_Mo_enter_77 rfl ?_
    refine jj_getR d_Mo_enter_78 fk_Mo_22 (sh_Mo h_l0).2 (sh_Mo h_l0).1 rfl ?_
    refine jj_bipush d_Mo_enter_81 jc_b_6 ?_
    refine jj_iload_n d_Mo_enter_83 rfl ?_
    refine jj_imul d_Mo_enter_84 ?_
    refine jj_aload_n d_Mo_enter_85 rfl ?_
    refine jj_getR d_Mo_enter_86 fk_Mo_28 (sh_Mo h_l0).2 (sh_Mo h_l0).1 rfl ?_
    refine jj_iload_n d_Mo_enter_89 rfl ?_
    obtain ⟨i4, h⟩ := jj_gt h
    refine jj_iaload d_Mo_enter_90 rfl (ar_Mo_height h_l0).1 (ar_Mo_height h_l0).2 (jj_inn i4) rfl ?_
    refine jj_iadd d_Mo_enter_91 ?_
    obtain ⟨i5, h⟩ := jj_gt h
    refine jj_iaload d_Mo_enter_92 rfl (ar_Mo_stackKind h_l0).1 (ar_Mo_stackKind h_l0).2 (jj_inn i5) rfl ?_
    obtain ⟨i6, h⟩ := jj_gt h
    refine jj_iastore d_Mo_enter_93 rfl (ar_Mo_placeKind h_l0).1 (ar_Mo_placeKind h_l0).2 (jj_inn i6) ?_
    refine jj_aload_n d_Mo_enter_94 rfl ?_
    refine jj_getR d_Mo_enter_95 fk_Mo_19 (sh_Mo h_l0).2 (sh_Mo h_l0).1 rfl ?_
    refine jj_bipush d_Mo_enter_98 jc_b_6 ?_
    refine jj_iload_n d_Mo_enter_100 rfl ?_
    refine jj_imul d_Mo_enter_101 ?_
    refine jj_iload d_Mo_enter_102 rfl ?_
    refine jj_iadd d_Mo_enter_104 ?_
    refine jj_aload_n d_Mo_enter_105 rfl ?_
    refine jj_getR d_Mo_enter_106 fk_Mo_25 (sh_Mo h_l0).2 (sh_Mo h_l0).1 rfl ?_
    refine jj_bipush d_Mo_enter_109 jc_b_6 ?_
    refine jj_iload_n d_Mo_enter_111 rfl ?_
    refine jj_imul d_Mo_enter_112 ?_
    refine jj_aload_n d_Mo_enter_113 rfl ?_
    refine jj_getR d_Mo_enter_114 fk_Mo_28 (sh_Mo h_l0).2 (sh_Mo h_l0).1 rfl ?_
    refine jj_iload_n d_Mo_enter_117 rfl ?_
    obtain ⟨i7, h⟩ := jj_gt h
    refine jj_iaload d_Mo_enter_118 rfl (ar_Mo_height h_l0).1 (ar_Mo_height h_l0).2 (jj_inn i7) rfl ?_
    refine jj_iadd d_Mo_enter_119 ?_
    obtain ⟨i8, h⟩ := jj_gt h
    refine jj_iaload d_Mo_enter_120 rfl (ar_Mo_stackValue h_l0).1 (ar_Mo_stackValue h_l0).2 (jj_inn i8) rfl ?_
    obtain ⟨i9, h⟩ := jj_gt h
    refine jj_iastore d_Mo_enter_121 rfl (ar_Mo_placeValue h_l0).1 (ar_Mo_placeValue h_l0).2 (jj_inn i9) ?_
    refine jj_iinc (lo' := [_, _, _, _, _]) (v := (l4 + (-1))) d_Mo_enter_122 rfl (jc_a_m1 _) rfl (by decide) rfl ?_
    refine jj_goto (tgt := 47) d_Mo_enter_125 rfl ?_
    exact jj_J.sub (hrec _ _ _ _ h) (fun i v hi => jj_mask_ok [true, true, false, true, true] hi)
def g_Mo_enter : Nat → Nat → List (Option Value) → jj_Mem → Option (jj_Mem)
  | 0, _, _, _ => none
  | f + 1, L, lo, x => match L, lo with
    | 47, [some (.ref l0), some (.int l1), none, some (.int l3), some (.int l4)] => if (bo_Mo l0) = true then k_Mo_enter_47 (g_Mo_enter f) l0 l1 l3 l4 x else none
    | _, _ => none
set_option maxHeartbeats 2000000 in
theorem t_Mo_enter_g {X : jj_X} {d : Nat} : ∀ (f L : Nat) (lo : List (Option Value)) (x : jj_Mem) (q : jj_Mem), g_Mo_enter f L lo x = some q → jj_J Y0 X (d + 3) m_Mo_enter L lo [] x (jp_v q) := by
  intro f
  induction f with
  | zero => intro L lo x q h; simp [g_Mo_enter] at h
  | succ f ih =>
    intro L lo x q h
    unfold g_Mo_enter at h
    split at h
    · obtain ⟨i1, h⟩ := jj_gt h
      exact t_Mo_enter_47 _ ih (ob_Mo i1) h
    · cases h
def k_Mo_enter_0 (rec : Nat → List (Option Value) → jj_Mem → Option (jj_Mem)) (this : Nat) (a1 : Int32) (a2 : Int32) (x : jj_Mem) : Option (jj_Mem) :=
  if jj_inb (x this 21) 4 = true then if jj_inb (x this 21) 4 = true then jj_b1 (f_Mo_open this a2 (jj_set (jj_set (jj_set x this 21 ((x this 21) + 1)) (this + 9) (Int32.toNatClampNeg (x this 21)) a2) (this + 8) (Int32.toNatClampNeg (x this 21)) 0)) (fun x3 => jj_b1 (f_Mo_begin this (x this 21) x3) (fun x4 => rec 47 [some (.ref this), some (.int a1), none, some (.int (x this 21)), some (.int ((x4 this 9) - 1))] x4)) else none else none
set_option maxHeartbeats 2000000 in
theorem t_Mo_enter_0 {X : jj_X} {d : Nat} (rec : Nat → List (Option Value) → jj_Mem → Option (jj_Mem)) (hrec : ∀ (L : Nat) (lo : List (Option Value)) (x : jj_Mem) (q : jj_Mem), rec L lo x = some q → jj_J Y0 X (d + 3) m_Mo_enter L lo [] x (jp_v q)) {this : Nat} {a1 : Int32} {a2 : Int32} (h_this : o_Mo this) {x : jj_Mem} {q : jj_Mem} (h : k_Mo_enter_0 rec this a1 a2 x = some q) : jj_J Y0 X (d + 3) m_Mo_enter 0 [some (.ref this), some (.int a1), some (.int a2), none, none] [] x (jp_v q) := by
  unfold k_Mo_enter_0 at h
  refine jj_aload_n d_Mo_enter_0 rfl ?_
  refine jj_getI d_Mo_enter_1 fk_Mo_210 (sh_Mo h_this).2 (sh_Mo h_this).1 rfl rfl ?_
  refine jj_istore_n (lo' := [_, _, _, _, _]) d_Mo_enter_4 rfl (by decide) rfl ?_
  refine jj_aload_n d_Mo_enter_5 rfl ?_
  refine jj_dup d_Mo_enter_6 rfl ?_
  refine jj_getI d_Mo_enter_7 fk_Mo_210 (sh_Mo h_this).2 (sh_Mo h_this).1 rfl rfl ?_
  refine jj_iconst d_Mo_enter_10 jc_i_1 ?_
  refine jj_iadd d_Mo_enter_11 ?_
  refine jj_putI d_Mo_enter_12 pk_Mo_210 (sh_Mo h_this).2 (sh_Mo h_this).1 rfl ?_
  refine jj_aload_n d_Mo_enter_15 rfl ?_
  refine jj_getR d_Mo_enter_16 fk_Mo_34 (sh_Mo h_this).2 (sh_Mo h_this).1 rfl ?_
  refine jj_iload_n d_Mo_enter_19 rfl ?_
  refine jj_iload_n d_Mo_enter_20 rfl ?_
  obtain ⟨i1, h⟩ := jj_gt h
  refine jj_iastore d_Mo_enter_21 rfl (ar_Mo_which h_this).1 (ar_Mo_which h_this).2 (jj_inn i1) ?_
  refine jj_aload_n d_Mo_enter_22 rfl ?_
  refine jj_getR d_Mo_enter_23 fk_Mo_31 (sh_Mo h_this).2 (sh_Mo h_this).1 rfl ?_
  refine jj_iload_n d_Mo_enter_26 rfl ?_
  refine jj_iconst d_Mo_enter_27 jc_i_0 ?_
  obtain ⟨i2, h⟩ := jj_gt h
  refine jj_iastore d_Mo_enter_28 rfl (ar_Mo_where h_this).1 (ar_Mo_where h_this).2 (jj_inn i2) ?_
  refine jj_aload_n d_Mo_enter_29 rfl ?_
  refine jj_iload_n d_Mo_enter_30 rfl ?_
  obtain ⟨x3, e3, h⟩ := jj_b1o h
  refine jj_callVv (as := [.int a2]) (c_Mo_open (d := d + 0) h_this e3) d_Mo_enter_31 ck_Mo_198 (sh_Mo h_this).2 (sh_Mo h_this).1 ⟨_, rfl, rfl⟩ rfl rfl (Nat.le_of_ble_eq_true rfl) ?_
  refine jj_aload_n d_Mo_enter_34 rfl ?_
  refine jj_iload_n d_Mo_enter_35 rfl ?_
  obtain ⟨x4, e4, h⟩ := jj_b1o h
  refine jj_callVv (as := [.int (x this 21)]) (c_Mo_begin (d := d + 2) h_this e4) d_Mo_enter_36 ck_Mo_169 (sh_Mo h_this).2 (sh_Mo h_this).1 ⟨_, rfl, rfl⟩ rfl rfl (Nat.le_of_ble_eq_true rfl) ?_
  refine jj_aload_n d_Mo_enter_39 rfl ?_
  refine jj_getI d_Mo_enter_40 fk_Mo_127 (sh_Mo h_this).2 (sh_Mo h_this).1 rfl rfl ?_
  refine jj_iconst d_Mo_enter_43 jc_i_1 ?_
  refine jj_isub d_Mo_enter_44 ?_
  refine jj_istore (lo' := [_, _, _, _, _]) d_Mo_enter_45 rfl (by decide) rfl ?_
  exact jj_J.sub (hrec _ _ _ _ h) (fun i v hi => jj_mask_ok [true, true, false, true, true] hi)
def f_Mo_enter (this : Nat) (a1 : Int32) (a2 : Int32) (x : jj_Mem) : Option (jj_Mem) := k_Mo_enter_0 (g_Mo_enter 1000) this a1 a2 x
theorem c_Mo_enter {X : jj_X} {d : Nat} {this : Nat} {a1 : Int32} {a2 : Int32} (h_this : o_Mo this) {x : jj_Mem} {q : jj_Mem} (h : f_Mo_enter this a1 a2 x = some q) : jj_Met Y0 X (d + 3) m_Mo_enter [.ref this, .int a1, .int a2] x (jp_v q) :=
  jj_metp 2 (lo := [some (.ref this), some (.int a1), some (.int a2), none, none]) rfl (Nat.le_of_ble_eq_true rfl) rfl (t_Mo_enter_0 _ (t_Mo_enter_g 1000) h_this h)
def k_Mo_readInstruction_161 (rec : Nat → List (Option Value) → jj_Mem → Option (jj_Mem)) (l0 : Nat) (l1 : Int32) (l2 : Int32) (l3 : Int32) (l4 : Int32) (l5 : Int32) (l6 : Int32) (l7 : Int32) (l8 : Int32) (s0 : Nat) (s1 : Int32) (x : jj_Mem) : Option (jj_Mem) :=
  jj_b1 (f_Mo_skip s0 s1 0 l8 x) (fun x1 => rec 58 [some (.ref l0), some (.int l1), some (.int l2), some (.int l3), some (.int l4), some (.int l5), some (.int l6), some (.int (l7 + 1)), none] x1)
set_option maxHeartbeats 2000000 in
theorem t_Mo_readInstruction_161 {X : jj_X} {d : Nat} (rec : Nat → List (Option Value) → jj_Mem → Option (jj_Mem)) (hrec : ∀ (L : Nat) (lo : List (Option Value)) (x : jj_Mem) (q : jj_Mem), rec L lo x = some q → jj_J Y0 X (d + 3) m_Mo_readInstruction L lo [] x (jp_v q)) {l0 : Nat} {l1 : Int32} {l2 : Int32} {l3 : Int32} {l4 : Int32} {l5 : Int32} {l6 : Int32} {l7 : Int32} {l8 : Int32} {s0 : Nat} {s1 : Int32} (h_l0 : o_Mo l0) (h_s0 : o_Mo s0) {x : jj_Mem} {q : jj_Mem} (h : k_Mo_readInstruction_161 rec l0 l1 l2 l3 l4 l5 l6 l7 l8 s0 s1 x = some q) : jj_J Y0 X (d + 3) m_Mo_readInstruction 161 [some (.ref l0), some (.int l1), some (.int l2), some (.int l3), some (.int l4), some (.int l5), some (.int l6), some (.int l7), some (.int l8)] [.int s1, .ref s0] x (jp_v q) := by
  unfold k_Mo_readInstruction_161 at h
  refine jj_iconst d_Mo_readInstruction_161 jc_i_0 ?_
  refine jj_iload d_Mo_readInstruction_162 rfl ?_
  obtain ⟨x1, e1, h⟩ := jj_b1o h
  refine jj_callVv (as := [.int s1, .int 0, .int l8]) (c_Mo_skip (d := d + 0) h_s0 e1) d_Mo_readInstruction_164 ck_Mo_79 (sh_Mo h_s0).2 (sh_Mo h_s0).1 ⟨_, rfl, rfl⟩ rfl rfl (Nat.le_of_ble_eq_true rfl) ?_
  refine jj_iinc (lo' := [_, _, _, _, _, _, _, _, _]) (v := (l7 + 1)) d_Mo_readInstruction_167 rfl (jc_a_1 _) rfl (by decide) rfl ?_
  refine jj_goto (tgt := 58) d_Mo_readInstruction_170 rfl ?_
  exact jj_J.sub (hrec _ _ _ _ h) (fun i v hi => jj_mask_ok [true, true, true, true, true, true, true, true, false] hi)
def k_Mo_readInstruction_145 (rec : Nat → List (Option Value) → jj_Mem → Option (jj_Mem)) (l0 : Nat) (l1 : Int32) (l2 : Int32) (l3 : Int32) (l4 : Int32) (l5 : Int32) (l6 : Int32) (l7 : Int32) (l8 : Int32) (s0 : Nat) (s1 : Int32) (x : jj_Mem) : Option (jj_Mem) :=
  if jj_zb s1 = true then (if ((jj_set x s0 4 s1) l0 4) = 0 then k_Mo_readInstruction_161 rec l0 l1 l2 l3 l4 l5 l6 l7 l8 l0 1 (jj_set x s0 4 s1) else k_Mo_readInstruction_161 rec l0 l1 l2 l3 l4 l5 l6 l7 l8 l0 0 (jj_set x s0 4 s1)) else none
set_option maxHeartbeats 2000000 in
theorem t_Mo_readInstruction_145 {X : jj_X} {d : Nat} (rec : Nat → List (Option Value) → jj_Mem → Option (jj_Mem)) (hrec : ∀ (L : Nat) (lo : List (Option Value)) (x : jj_Mem) (q : jj_Mem), rec L lo x = some q → jj_J Y0 X (d + 3) m_Mo_readInstruction L lo [] x (jp_v q)) {l0 : Nat} {l1 : Int32} {l2 : Int32} {l3 : Int32} {l4 : Int32} {l5 : Int32} {l6 : Int32} {l7 : Int32} {l8 : Int32} {s0 : Nat} {s1 : Int32} (h_l0 : o_Mo l0) (h_s0 : o_Mo s0) {x : jj_Mem} {q : jj_Mem} (h : k_Mo_readInstruction_145 rec l0 l1 l2 l3 l4 l5 l6 l7 l8 s0 s1 x = some q) : jj_J Y0 X (d + 3) m_Mo_readInstruction 145 [some (.ref l0), some (.int l1), some (.int l2), some (.int l3), some (.int l4), some (.int l5), some (.int l6), some (.int l7), some (.int l8)] [.int s1, .ref s0] x (jp_v q) := by
  unfold k_Mo_readInstruction_145 at h
  obtain ⟨i1, h⟩ := jj_gt h
  refine jj_putZ d_Mo_readInstruction_145 pk_Mo_64 (sh_Mo h_s0).2 (sh_Mo h_s0).1 rfl (jj_zbo i1) ?_
  refine jj_aload_n d_Mo_readInstruction_148 rfl ?_
  refine jj_aload_n d_Mo_readInstruction_149 rfl ?_
  refine jj_getI d_Mo_readInstruction_150 fk_Mo_64 (sh_Mo h_l0).2 (sh_Mo h_l0).1 rfl rfl ?_
  refine jj_if_eq (tgt := 160) d_Mo_readInstruction_153 rfl (fun c2 => ?_) (fun c2 => ?_)
  · rw [if_pos c2] at h
    refine jj_iconst d_Mo_readInstruction_160 jc_i_1 ?_
    exact jj_J.sub (t_Mo_readInstruction_161 rec hrec h_l0 h_l0 h) (fun i v hi => jj_mask_ok [true, true, true, true, true, true, true, true, true] hi)
  · rw [if_neg c2] at h
    refine jj_iconst d_Mo_readInstruction_156 jc_i_0 ?_
    refine jj_goto (tgt := 161) d_Mo_readInstruction_157 rfl ?_
    exact jj_J.sub (t_Mo_readInstruction_161 rec hrec h_l0 h_l0 h) (fun i v hi => jj_mask_ok [true, true, true, true, true, true, true, true, true] hi)
def k_Mo_readInstruction_129 (rec : Nat → List (Option Value) → jj_Mem → Option (jj_Mem)) (l0 : Nat) (l1 : Int32) (l2 : Int32) (l3 : Int32) (l4 : Int32) (l5 : Int32) (l6 : Int32) (l7 : Int32) (s0 : Int32) (x : jj_Mem) : Option (jj_Mem) :=
  (if (x l0 3) = l1 then k_Mo_readInstruction_145 rec l0 l1 l2 l3 l4 l5 l6 l7 s0 l0 1 x else k_Mo_readInstruction_145 rec l0 l1 l2 l3 l4 l5 l6 l7 s0 l0 0 x)
set_option maxHeartbeats 2000000 in
theorem t_Mo_readInstruction_129 {X : jj_X} {d : Nat} (rec : Nat → List (Option Value) → jj_Mem → Option (jj_Mem)) (hrec : ∀ (L : Nat) (lo : List (Option Value)) (x : jj_Mem) (q : jj_Mem), rec L lo x = some q → jj_J Y0 X (d + 3) m_Mo_readInstruction L lo [] x (jp_v q)) {l0 : Nat} {l1 : Int32} {l2 : Int32} {l3 : Int32} {l4 : Int32} {l5 : Int32} {l6 : Int32} {l7 : Int32} {s0 : Int32} (h_l0 : o_Mo l0) {x : jj_Mem} {q : jj_Mem} (h : k_Mo_readInstruction_129 rec l0 l1 l2 l3 l4 l5 l6 l7 s0 x = some q) : jj_J Y0 X (d + 3) m_Mo_readInstruction 129 [some (.ref l0), some (.int l1), some (.int l2), some (.int l3), some (.int l4), some (.int l5), some (.int l6), some (.int l7), none] [.int s0] x (jp_v q) := by
  unfold k_Mo_readInstruction_129 at h
  refine jj_istore (lo' := [_, _, _, _, _, _, _, _, _]) d_Mo_readInstruction_129 rfl (by decide) rfl ?_
  refine jj_aload_n d_Mo_readInstruction_131 rfl ?_
  refine jj_aload_n d_Mo_readInstruction_132 rfl ?_
  refine jj_getI d_Mo_readInstruction_133 fk_Mo_68 (sh_Mo h_l0).2 (sh_Mo h_l0).1 rfl rfl ?_
  refine jj_iload_n d_Mo_readInstruction_136 rfl ?_
  refine jj_ic_ne (tgt := 144) d_Mo_readInstruction_137 rfl (fun c1 => ?_) (fun c1 => ?_)
  · rw [if_neg c1] at h
    refine jj_iconst d_Mo_readInstruction_144 jc_i_0 ?_
    exact jj_J.sub (t_Mo_readInstruction_145 rec hrec h_l0 h_l0 h) (fun i v hi => jj_mask_ok [true, true, true, true, true, true, true, true, true] hi)
  · rw [if_pos c1] at h
    refine jj_iconst d_Mo_readInstruction_140 jc_i_1 ?_
    refine jj_goto (tgt := 145) d_Mo_readInstruction_141 rfl ?_
    exact jj_J.sub (t_Mo_readInstruction_145 rec hrec h_l0 h_l0 h) (fun i v hi => jj_mask_ok [true, true, true, true, true, true, true, true, true] hi)
def k_Mo_readInstruction_55 (rec : Nat → List (Option Value) → jj_Mem → Option (jj_Mem)) (l0 : Nat) (l1 : Int32) (l2 : Int32) (l3 : Int32) (l4 : Int32) (l5 : Int32) (l6 : Int32) (x : jj_Mem) : Option (jj_Mem) :=
  rec 58 [some (.ref l0), some (.int l1), some (.int l2), some (.int l3), some (.int l4), some (.int l5), some (.int l6), some (.int 1), none] x
set_option maxHeartbeats 2000000 in
theorem t_Mo_readInstruction_55 {X : jj_X} {d : Nat} (rec : Nat → List (Option Value) → jj_Mem → Option (jj_Mem)) (hrec : ∀ (L : Nat) (lo : List (Option Value)) (x : jj_Mem) (q : jj_Mem), rec L lo x = some q → jj_J Y0 X (d + 3) m_Mo_readInstruction L lo [] x (jp_v q)) {l0 : Nat} {l1 : Int32} {l2 : Int32} {l3 : Int32} {l4 : Int32} {l5 : Int32} {l6 : Int32} (h_l0 : o_Mo l0) {x : jj_Mem} {q : jj_Mem} (h : k_Mo_readInstruction_55 rec l0 l1 l2 l3 l4 l5 l6 x = some q) : jj_J Y0 X (d + 3) m_Mo_readInstruction 55 [some (.ref l0), some (.int l1), some (.int l2), some (.int l3), some (.int l4), some (.int l5), some (.int l6), none, none] [] x (jp_v q) := by
  unfold k_Mo_readInstruction_55 at h
  refine jj_iconst d_Mo_readInstruction_55 jc_i_1 ?_
  refine jj_istore (lo' := [_, _, _, _, _, _, _, _, _]) d_Mo_readInstruction_56 rfl (by decide) rfl ?_
  exact jj_J.sub (hrec _ _ _ _ h) (fun i v hi => jj_mask_ok [true, true, true, true, true, true, true, true, false] hi)
def k_Mo_readInstruction_26 (rec : Nat → List (Option Value) → jj_Mem → Option (jj_Mem)) (l0 : Nat) (l1 : Int32) (l2 : Int32) (l3 : Int32) (l4 : Int32) (l5 : Int32) (s0 : Int32) (x : jj_Mem) : Option (jj_Mem) :=
  (if (x l0 4) = 0 then (if s0 = 0 then k_Mo_readInstruction_55 rec l0 l1 l2 l3 l4 l5 s0 (jj_set (jj_set x l0 3 ((x l0 3) - 1)) l0 4 1) else k_Mo_readInstruction_55 rec l0 l1 l2 l3 l4 l5 s0 x) else k_Mo_readInstruction_55 rec l0 l1 l2 l3 l4 l5 s0 x)
set_option maxHeartbeats 2000000 in
theorem t_Mo_readInstruction_26 {X : jj_X} {d : Nat} (rec : Nat → List (Option Value) → jj_Mem → Option (jj_Mem)) (hrec : ∀ (L : Nat) (lo : List (Option Value)) (x : jj_Mem) (q : jj_Mem), rec L lo x = some q → jj_J Y0 X (d + 3) m_Mo_readInstruction L lo [] x (jp_v q)) {l0 : Nat} {l1 : Int32} {l2 : Int32} {l3 : Int32} {l4 : Int32} {l5 : Int32} {s0 : Int32} (h_l0 : o_Mo l0) {x : jj_Mem} {q : jj_Mem} (h : k_Mo_readInstruction_26 rec l0 l1 l2 l3 l4 l5 s0 x = some q) : jj_J Y0 X (d + 3) m_Mo_readInstruction 26 [some (.ref l0), some (.int l1), some (.int l2), some (.int l3), some (.int l4), some (.int l5), none, none, none] [.int s0] x (jp_v q) := by
  unfold k_Mo_readInstruction_26 at h
  refine jj_istore (lo' := [_, _, _, _, _, _, _, _, _]) d_Mo_readInstruction_26 rfl (by decide) rfl ?_
  refine jj_aload_n d_Mo_readInstruction_28 rfl ?_
  refine jj_getI d_Mo_readInstruction_29 fk_Mo_64 (sh_Mo h_l0).2 (sh_Mo h_l0).1 rfl rfl ?_
  refine jj_if_ne (tgt := 55) d_Mo_readInstruction_32 rfl (fun c1 => ?_) (fun c1 => ?_)
  · rw [if_neg c1] at h
    exact jj_J.sub (t_Mo_readInstruction_55 rec hrec h_l0 h) (fun i v hi => jj_mask_ok [true, true, true, true, true, true, true, false, false] hi)
  · rw [if_pos c1] at h
    refine jj_iload d_Mo_readInstruction_35 rfl ?_
    refine jj_if_ne (tgt := 55) d_Mo_readInstruction_37 rfl (fun c2 => ?_) (fun c2 => ?_)
    · rw [if_neg c2] at h
      exact jj_J.sub (t_Mo_readInstruction_55 rec hrec h_l0 h) (fun i v hi => jj_mask_ok [true, true, true, true, true, true, true, false, false] hi)
    · rw [if_pos c2] at h
      refine jj_aload_n d_Mo_readInstruction_40 rfl ?_
      refine jj_dup d_Mo_readInstruction_41 rfl ?_
      refine jj_getI d_Mo_readInstruction_42 fk_Mo_68 (sh_Mo h_l0).2 (sh_Mo h_l0).1 rfl rfl ?_
      refine jj_iconst d_Mo_readInstruction_45 jc_i_1 ?_
      refine jj_isub d_Mo_readInstruction_46 ?_
      refine jj_putI d_Mo_readInstruction_47 pk_Mo_68 (sh_Mo h_l0).2 (sh_Mo h_l0).1 rfl ?_
      refine jj_aload_n d_Mo_readInstruction_50 rfl ?_
      refine jj_iconst d_Mo_readInstruction_51 jc_i_1 ?_
      refine jj_putZ d_Mo_readInstruction_52 pk_Mo_64 (sh_Mo h_l0).2 (sh_Mo h_l0).1 rfl (Or.inr rfl) ?_
      exact jj_J.sub (t_Mo_readInstruction_55 rec hrec h_l0 h) (fun i v hi => jj_mask_ok [true, true, true, true, true, true, true, false, false] hi)
def k_Mo_readInstruction_58 (rec : Nat → List (Option Value) → jj_Mem → Option (jj_Mem)) (l0 : Nat) (l1 : Int32) (l2 : Int32) (l3 : Int32) (l4 : Int32) (l5 : Int32) (l6 : Int32) (l7 : Int32) (x : jj_Mem) : Option (jj_Mem) :=
  (if l6 ≤ l7 then some x else (if (x l0 4) = 0 then (if l7 ≤ 1 then (if l5 = 18 then k_Mo_readInstruction_129 rec l0 l1 l2 l3 l4 l5 l6 l7 (l2 - 1) x else (if l5 = 184 then k_Mo_readInstruction_129 rec l0 l1 l2 l3 l4 l5 l6 l7 (l3 - 1) x else jj_b1 (s_Mo_names l5) (fun r6 => (if r6 = 0 then k_Mo_readInstruction_129 rec l0 l1 l2 l3 l4 l5 l6 l7 255 x else k_Mo_readInstruction_129 rec l0 l1 l2 l3 l4 l5 l6 l7 (l4 - 1) x)))) else k_Mo_readInstruction_129 rec l0 l1 l2 l3 l4 l5 l6 l7 255 x) else some x))
set_option maxHeartbeats 2000000 in
theorem t_Mo_readInstruction_58 {X : jj_X} {d : Nat} (rec : Nat → List (Option Value) → jj_Mem → Option (jj_Mem)) (hrec : ∀ (L : Nat) (lo : List (Option Value)) (x : jj_Mem) (q : jj_Mem), rec L lo x = some q → jj_J Y0 X (d + 3) m_Mo_readInstruction L lo [] x (jp_v q)) {l0 : Nat} {l1 : Int32} {l2 : Int32} {l3 : Int32} {l4 : Int32} {l5 : Int32} {l6 : Int32} {l7 : Int32} (h_l0 : o_Mo l0) {x : jj_Mem} {q : jj_Mem} (h : k_Mo_readInstruction_58 rec l0 l1 l2 l3 l4 l5 l6 l7 x = some q) : jj_J Y0 X (d + 3) m_Mo_readInstruction 58 [some (.ref l0), some (.int l1), some (.int l2), some (.int l3), some (.int l4), some (.int l5), some (.int l6), some (.int l7), none] [] x (jp_v q) := by
  unfold k_Mo_readInstruction_58 at h
  refine jj_iload d_Mo_readInstruction_58 rfl ?_
  refine jj_iload d_Mo_readInstruction_60 rfl ?_
  refine jj_ic_ge (tgt := 173) d_Mo_readInstruction_62 rfl (fun c1 => ?_) (fun c1 => ?_)
  · rw [if_pos c1] at h
    cases h
    exact jj_return d_Mo_readInstruction_173 rfl ⟨rfl, rfl⟩
  · rw [if_neg c1] at h
    refine jj_aload_n d_Mo_readInstruction_65 rfl ?_
    refine jj_getI d_Mo_readInstruction_66 fk_Mo_64 (sh_Mo h_l0).2 (sh_Mo h_l0).1 rfl rfl ?_
    refine jj_if_ne (tgt := 173) d_Mo_readInstruction_69 rfl (fun c2 => ?_) (fun c2 => ?_)
    · rw [if_neg c2] at h
      cases h
      exact jj_return d_Mo_readInstruction_173 rfl ⟨rfl, rfl⟩
    · rw [if_pos c2] at h
      refine jj_iload d_Mo_readInstruction_72 rfl ?_
      refine jj_iconst d_Mo_readInstruction_74 jc_i_1 ?_
      refine jj_ic_le (tgt := 84) d_Mo_readInstruction_75 rfl (fun c3 => ?_) (fun c3 => ?_)
      · rw [if_pos c3] at h
        refine jj_iload d_Mo_readInstruction_84 rfl ?_
        refine jj_bipush d_Mo_readInstruction_86 jc_b_18 ?_
        refine jj_ic_ne (tgt := 97) d_Mo_readInstruction_88 rfl (fun c4 => ?_) (fun c4 => ?_)
        · rw [if_neg c4] at h
          refine jj_iload d_Mo_readInstruction_97 rfl ?_
          refine jj_sipush d_Mo_readInstruction_99 jc_s_184 ?_
          refine jj_ic_ne (tgt := 111) d_Mo_readInstruction_102 rfl (fun c5 => ?_) (fun c5 => ?_)
          · rw [if_neg c5] at h
            refine jj_iload d_Mo_readInstruction_111 rfl ?_
            obtain ⟨r6, e6, h⟩ := jj_b1o h
            refine jj_callSi (as := [.int l5]) (c_Mo_names (d := d + 2)  e6) d_Mo_readInstruction_113 ck_Mo_55 rfl rfl (Nat.le_of_ble_eq_true rfl) ?_
            refine jj_if_eq (tgt := 126) d_Mo_readInstruction_116 rfl (fun c7 => ?_) (fun c7 => ?_)
            · rw [if_pos c7] at h
              refine jj_sipush d_Mo_readInstruction_126 jc_s_255 ?_
              exact jj_J.sub (t_Mo_readInstruction_129 rec hrec h_l0 h) (fun i v hi => jj_mask_ok [true, true, true, true, true, true, true, true, false] hi)
            · rw [if_neg c7] at h
              refine jj_iload d_Mo_readInstruction_119 rfl ?_
              refine jj_iconst d_Mo_readInstruction_121 jc_i_1 ?_
              refine jj_isub d_Mo_readInstruction_122 ?_
              refine jj_goto (tgt := 129) d_Mo_readInstruction_123 rfl ?_
              exact jj_J.sub (t_Mo_readInstruction_129 rec hrec h_l0 h) (fun i v hi => jj_mask_ok [true, true, true, true, true, true, true, true, false] hi)
          · rw [if_pos c5] at h
            refine jj_iload_n d_Mo_readInstruction_105 rfl ?_
            refine jj_iconst d_Mo_readInstruction_106 jc_i_1 ?_
            refine jj_isub d_Mo_readInstruction_107 ?_
            refine jj_goto (tgt := 129) d_Mo_readInstruction_108 rfl ?_
            exact jj_J.sub (t_Mo_readInstruction_129 rec hrec h_l0 h) (fun i v hi => jj_mask_ok [true, true, true, true, true, true, true, true, false] hi)
        · rw [if_pos c4] at h
          refine jj_iload_n d_Mo_readInstruction_91 rfl ?_
          refine jj_iconst d_Mo_readInstruction_92 jc_i_1 ?_
          refine jj_isub d_Mo_readInstruction_93 ?_
          refine jj_goto (tgt := 129) d_Mo_readInstruction_94 rfl ?_
          exact jj_J.sub (t_Mo_readInstruction_129 rec hrec h_l0 h) (fun i v hi => jj_mask_ok [true, true, true, true, true, true, true, true, false] hi)
      · rw [if_neg c3] at h
        refine jj_sipush d_Mo_readInstruction_78 jc_s_255 ?_
        refine jj_goto (tgt := 129) d_Mo_readInstruction_81 rfl ?_
        exact jj_J.sub (t_Mo_readInstruction_129 rec hrec h_l0 h) (fun i v hi => jj_mask_ok [true, true, true, true, true, true, true, true, false] hi)
def g_Mo_readInstruction : Nat → Nat → List (Option Value) → jj_Mem → Option (jj_Mem)
  | 0, _, _, _ => none
  | f + 1, L, lo, x => match L, lo with
    | 58, [some (.ref l0), some (.int l1), some (.int l2), some (.int l3), some (.int l4), some (.int l5), some (.int l6), some (.int l7), none] => if (bo_Mo l0) = true then k_Mo_readInstruction_58 (g_Mo_readInstruction f) l0 l1 l2 l3 l4 l5 l6 l7 x else none
    | _, _ => none
set_option maxHeartbeats 2000000 in
theorem t_Mo_readInstruction_g {X : jj_X} {d : Nat} : ∀ (f L : Nat) (lo : List (Option Value)) (x : jj_Mem) (q : jj_Mem), g_Mo_readInstruction f L lo x = some q → jj_J Y0 X (d + 3) m_Mo_readInstruction L lo [] x (jp_v q) := by
  intro f
  induction f with
  | zero => intro L lo x q h; simp [g_Mo_readInstruction] at h
  | succ f ih =>
    intro L lo x q h
    unfold g_Mo_readInstruction at h
    split at h
    · obtain ⟨i1, h⟩ := jj_gt h
      exact t_Mo_readInstruction_58 _ ih (ob_Mo i1) h
    · cases h
def k_Mo_readInstruction_0 (rec : Nat → List (Option Value) → jj_Mem → Option (jj_Mem)) (this : Nat) (a1 : Int32) (a2 : Int32) (a3 : Int32) (a4 : Int32) (x : jj_Mem) : Option (jj_Mem) :=
  jj_b2 (f_Mo_next this 0 255 x) (fun r1 x1 => (if (x1 this 4) = 0 then jj_b1 (s_Mo_bytes r1) (fun r3 => k_Mo_readInstruction_26 rec this a1 a2 a3 a4 r1 r3 x1) else k_Mo_readInstruction_26 rec this a1 a2 a3 a4 r1 0 x1))
set_option maxHeartbeats 2000000 in
theorem t_Mo_readInstruction_0 {X : jj_X} {d : Nat} (rec : Nat → List (Option Value) → jj_Mem → Option (jj_Mem)) (hrec : ∀ (L : Nat) (lo : List (Option Value)) (x : jj_Mem) (q : jj_Mem), rec L lo x = some q → jj_J Y0 X (d + 3) m_Mo_readInstruction L lo [] x (jp_v q)) {this : Nat} {a1 : Int32} {a2 : Int32} {a3 : Int32} {a4 : Int32} (h_this : o_Mo this) {x : jj_Mem} {q : jj_Mem} (h : k_Mo_readInstruction_0 rec this a1 a2 a3 a4 x = some q) : jj_J Y0 X (d + 3) m_Mo_readInstruction 0 [some (.ref this), some (.int a1), some (.int a2), some (.int a3), some (.int a4), none, none, none, none] [] x (jp_v q) := by
  unfold k_Mo_readInstruction_0 at h
  refine jj_aload_n d_Mo_readInstruction_0 rfl ?_
  refine jj_iconst d_Mo_readInstruction_1 jc_i_0 ?_
  refine jj_sipush d_Mo_readInstruction_2 jc_s_255 ?_
  obtain ⟨r1, x1, e1, h⟩ := jj_b2o h
  refine jj_callVi (as := [.int 0, .int 255]) (c_Mo_next (d := d + 1) h_this e1) d_Mo_readInstruction_5 ck_Mo_71 (sh_Mo h_this).2 (sh_Mo h_this).1 ⟨_, rfl, rfl⟩ rfl rfl (Nat.le_of_ble_eq_true rfl) ?_
  refine jj_istore (lo' := [_, _, _, _, _, _, _, _, _]) d_Mo_readInstruction_8 rfl (by decide) rfl ?_
  refine jj_aload_n d_Mo_readInstruction_10 rfl ?_
  refine jj_getI d_Mo_readInstruction_11 fk_Mo_64 (sh_Mo h_this).2 (sh_Mo h_this).1 rfl rfl ?_
  refine jj_if_eq (tgt := 21) d_Mo_readInstruction_14 rfl (fun c2 => ?_) (fun c2 => ?_)
  · rw [if_pos c2] at h
    refine jj_iload d_Mo_readInstruction_21 rfl ?_
    obtain ⟨r3, e3, h⟩ := jj_b1o h
    refine jj_callSi (as := [.int r1]) (c_Mo_bytes (d := d + 0)  e3) d_Mo_readInstruction_23 ck_Mo_75 rfl rfl (Nat.le_of_ble_eq_true rfl) ?_
    exact jj_J.sub (t_Mo_readInstruction_26 rec hrec h_this h) (fun i v hi => jj_mask_ok [true, true, true, true, true, true, false, false, false] hi)
  · rw [if_neg c2] at h
    refine jj_iconst d_Mo_readInstruction_17 jc_i_0 ?_
    refine jj_goto (tgt := 26) d_Mo_readInstruction_18 rfl ?_
    exact jj_J.sub (t_Mo_readInstruction_26 rec hrec h_this h) (fun i v hi => jj_mask_ok [true, true, true, true, true, true, false, false, false] hi)
def f_Mo_readInstruction (this : Nat) (a1 : Int32) (a2 : Int32) (a3 : Int32) (a4 : Int32) (x : jj_Mem) : Option (jj_Mem) := k_Mo_readInstruction_0 (g_Mo_readInstruction 1000) this a1 a2 a3 a4 x
theorem c_Mo_readInstruction {X : jj_X} {d : Nat} {this : Nat} {a1 : Int32} {a2 : Int32} {a3 : Int32} {a4 : Int32} (h_this : o_Mo this) {x : jj_Mem} {q : jj_Mem} (h : f_Mo_readInstruction this a1 a2 a3 a4 x = some q) : jj_Met Y0 X (d + 3) m_Mo_readInstruction [.ref this, .int a1, .int a2, .int a3, .int a4] x (jp_v q) :=
  jj_metp 4 (lo := [some (.ref this), some (.int a1), some (.int a2), some (.int a3), some (.int a4), none, none, none, none]) rfl (Nat.le_of_ble_eq_true rfl) rfl (t_Mo_readInstruction_0 _ (t_Mo_readInstruction_g 1000) h_this h)
def k_Mo_takes_2 (rec : Nat → List (Option Value) → jj_Mem → Option (Int32 × jj_Mem)) (l0 : Nat) (l1 : Int32) (l2 : Int32) (x : jj_Mem) : Option (Int32 × jj_Mem) :=
  jj_b2 (f_Mo_needs l0 l1 l2 x) (fun r1 x1 => (if r1 ≤ 0 then some (l2, x1) else rec 2 [some (.ref l0), some (.int l1), some (.int (l2 + 1))] x1))
set_option maxHeartbeats 2000000 in
theorem t_Mo_takes_2 {X : jj_X} {d : Nat} (rec : Nat → List (Option Value) → jj_Mem → Option (Int32 × jj_Mem)) (hrec : ∀ (L : Nat) (lo : List (Option Value)) (x : jj_Mem) (q : Int32 × jj_Mem), rec L lo x = some q → jj_J Y0 X (d + 3) m_Mo_takes L lo [] x (jp_i q)) {l0 : Nat} {l1 : Int32} {l2 : Int32} (h_l0 : o_Mo l0) {x : jj_Mem} {q : Int32 × jj_Mem} (h : k_Mo_takes_2 rec l0 l1 l2 x = some q) : jj_J Y0 X (d + 3) m_Mo_takes 2 [some (.ref l0), some (.int l1), some (.int l2)] [] x (jp_i q) := by
  unfold k_Mo_takes_2 at h
  refine jj_aload_n d_Mo_takes_2 rfl ?_
  refine jj_iload_n d_Mo_takes_3 rfl ?_
  refine jj_iload_n d_Mo_takes_4 rfl ?_
  obtain ⟨r1, x1, e1, h⟩ := jj_b2o h
  refine jj_callVi (as := [.int l1, .int l2]) (c_Mo_needs (d := d + 0) h_l0 e1) d_Mo_takes_5 ck_Mo_145 (sh_Mo h_l0).2 (sh_Mo h_l0).1 ⟨_, rfl, rfl⟩ rfl rfl (Nat.le_of_ble_eq_true rfl) ?_
  refine jj_if_le (tgt := 17) d_Mo_takes_8 rfl (fun c2 => ?_) (fun c2 => ?_)
  · rw [if_pos c2] at h
    refine jj_iload_n d_Mo_takes_17 rfl ?_
    cases h
    exact jj_ireturn d_Mo_takes_18 rfl ⟨rfl, rfl⟩
  · rw [if_neg c2] at h
    refine jj_iinc (lo' := [_, _, _]) (v := (l2 + 1)) d_Mo_takes_11 rfl (jc_a_1 _) rfl (by decide) rfl ?_
    refine jj_goto (tgt := 2) d_Mo_takes_14 rfl ?_
    exact jj_J.sub (hrec _ _ _ _ h) (fun i v hi => jj_mask_ok [true, true, true] hi)
def g_Mo_takes : Nat → Nat → List (Option Value) → jj_Mem → Option (Int32 × jj_Mem)
  | 0, _, _, _ => none
  | f + 1, L, lo, x => match L, lo with
    | 2, [some (.ref l0), some (.int l1), some (.int l2)] => if (bo_Mo l0) = true then k_Mo_takes_2 (g_Mo_takes f) l0 l1 l2 x else none
    | _, _ => none
set_option maxHeartbeats 2000000 in
theorem t_Mo_takes_g {X : jj_X} {d : Nat} : ∀ (f L : Nat) (lo : List (Option Value)) (x : jj_Mem) (q : Int32 × jj_Mem), g_Mo_takes f L lo x = some q → jj_J Y0 X (d + 3) m_Mo_takes L lo [] x (jp_i q) := by
  intro f
  induction f with
  | zero => intro L lo x q h; simp [g_Mo_takes] at h
  | succ f ih =>
    intro L lo x q h
    unfold g_Mo_takes at h
    split at h
    · obtain ⟨i1, h⟩ := jj_gt h
      exact t_Mo_takes_2 _ ih (ob_Mo i1) h
    · cases h
def k_Mo_takes_0 (rec : Nat → List (Option Value) → jj_Mem → Option (Int32 × jj_Mem)) (this : Nat) (a1 : Int32) (x : jj_Mem) : Option (Int32 × jj_Mem) :=
  rec 2 [some (.ref this), some (.int a1), some (.int 0)] x
set_option maxHeartbeats 2000000 in
theorem t_Mo_takes_0 {X : jj_X} {d : Nat} (rec : Nat → List (Option Value) → jj_Mem → Option (Int32 × jj_Mem)) (hrec : ∀ (L : Nat) (lo : List (Option Value)) (x : jj_Mem) (q : Int32 × jj_Mem), rec L lo x = some q → jj_J Y0 X (d + 3) m_Mo_takes L lo [] x (jp_i q)) {this : Nat} {a1 : Int32} (h_this : o_Mo this) {x : jj_Mem} {q : Int32 × jj_Mem} (h : k_Mo_takes_0 rec this a1 x = some q) : jj_J Y0 X (d + 3) m_Mo_takes 0 [some (.ref this), some (.int a1), none] [] x (jp_i q) := by
  unfold k_Mo_takes_0 at h
  refine jj_iconst d_Mo_takes_0 jc_i_0 ?_
  refine jj_istore_n (lo' := [_, _, _]) d_Mo_takes_1 rfl (by decide) rfl ?_
  exact jj_J.sub (hrec _ _ _ _ h) (fun i v hi => jj_mask_ok [true, true, true] hi)
def f_Mo_takes (this : Nat) (a1 : Int32) (x : jj_Mem) : Option (Int32 × jj_Mem) := k_Mo_takes_0 (g_Mo_takes 1000) this a1 x
theorem c_Mo_takes {X : jj_X} {d : Nat} {this : Nat} {a1 : Int32} (h_this : o_Mo this) {x : jj_Mem} {q : Int32 × jj_Mem} (h : f_Mo_takes this a1 x = some q) : jj_Met Y0 X (d + 3) m_Mo_takes [.ref this, .int a1] x (jp_i q) :=
  jj_metp 1 (lo := [some (.ref this), some (.int a1), none]) rfl (Nat.le_of_ble_eq_true rfl) rfl (t_Mo_takes_0 _ (t_Mo_takes_g 1000) h_this h)
def k_Mo_can_230 (rec : Nat → List (Option Value) → jj_Mem → Option (Int32 × jj_Mem))  (x : jj_Mem) : Option (Int32 × jj_Mem) :=
  some (1, x)
set_option maxHeartbeats 2000000 in
theorem t_Mo_can_230 {X : jj_X} {d : Nat} (rec : Nat → List (Option Value) → jj_Mem → Option (Int32 × jj_Mem)) (hrec : ∀ (L : Nat) (lo : List (Option Value)) (x : jj_Mem) (q : Int32 × jj_Mem), rec L lo x = some q → jj_J Y0 X (d + 4) m_Mo_can L lo [] x (jp_i q))   {x : jj_Mem} {q : Int32 × jj_Mem} (h : k_Mo_can_230 rec  x = some q) : jj_J Y0 X (d + 4) m_Mo_can 230 [none, none, none, none, none, none, none] [] x (jp_i q) := by
  unfold k_Mo_can_230 at h
  refine jj_iconst d_Mo_can_230 jc_i_1 ?_
  refine jj_goto (tgt := 235) d_Mo_can_231 rfl ?_
  cases h
  exact jj_zreturn d_Mo_can_235 rfl (Or.inr rfl) ⟨rfl, rfl⟩
def k_Mo_can_227 (rec : Nat → List (Option Value) → jj_Mem → Option (Int32 × jj_Mem)) (s0 : Int32) (s1 : Int32) (x : jj_Mem) : Option (Int32 × jj_Mem) :=
  (if s0 = s1 then k_Mo_can_230 rec  x else some (0, x))
set_option maxHeartbeats 2000000 in
theorem t_Mo_can_227 {X : jj_X} {d : Nat} (rec : Nat → List (Option Value) → jj_Mem → Option (Int32 × jj_Mem)) (hrec : ∀ (L : Nat) (lo : List (Option Value)) (x : jj_Mem) (q : Int32 × jj_Mem), rec L lo x = some q → jj_J Y0 X (d + 4) m_Mo_can L lo [] x (jp_i q)) {s0 : Int32} {s1 : Int32}  {x : jj_Mem} {q : Int32 × jj_Mem} (h : k_Mo_can_227 rec s0 s1 x = some q) : jj_J Y0 X (d + 4) m_Mo_can 227 [none, none, none, none, none, none, none] [.int s1, .int s0] x (jp_i q) := by
  unfold k_Mo_can_227 at h
  refine jj_ic_ne (tgt := 234) d_Mo_can_227 rfl (fun c1 => ?_) (fun c1 => ?_)
  · rw [if_neg c1] at h
    refine jj_iconst d_Mo_can_234 jc_i_0 ?_
    cases h
    exact jj_zreturn d_Mo_can_235 rfl (Or.inl rfl) ⟨rfl, rfl⟩
  · rw [if_pos c1] at h
    exact jj_J.sub (t_Mo_can_230 rec hrec  h) (fun i v hi => jj_mask_ok [false, false, false, false, false, false, false] hi)
def k_Mo_can_185 (rec : Nat → List (Option Value) → jj_Mem → Option (Int32 × jj_Mem)) (l0 : Nat) (l3 : Int32) (x : jj_Mem) : Option (Int32 × jj_Mem) :=
  jj_b2 (f_Mo_returnsOf l0 (x l0 8) x) (fun r1 x1 => jj_b1 (s_Mo_returns l3) (fun r2 => (if r2 = 0 then k_Mo_can_230 rec  x1 else (if l3 = 172 then k_Mo_can_227 rec r1 1 x1 else (if l3 = 176 then k_Mo_can_227 rec r1 2 x1 else k_Mo_can_227 rec r1 0 x1)))))
set_option maxHeartbeats 2000000 in
theorem t_Mo_can_185 {X : jj_X} {d : Nat} (rec : Nat → List (Option Value) → jj_Mem → Option (Int32 × jj_Mem)) (hrec : ∀ (L : Nat) (lo : List (Option Value)) (x : jj_Mem) (q : Int32 × jj_Mem), rec L lo x = some q → jj_J Y0 X (d + 4) m_Mo_can L lo [] x (jp_i q)) {l0 : Nat} {l3 : Int32} (h_l0 : o_Mo l0) {x : jj_Mem} {q : Int32 × jj_Mem} (h : k_Mo_can_185 rec l0 l3 x = some q) : jj_J Y0 X (d + 4) m_Mo_can 185 [some (.ref l0), none, none, some (.int l3), none, none, none] [] x (jp_i q) := by
  unfold k_Mo_can_185 at h
  refine jj_aload_n d_Mo_can_185 rfl ?_
  refine jj_aload_n d_Mo_can_186 rfl ?_
  refine jj_getI d_Mo_can_187 fk_Mo_124 (sh_Mo h_l0).2 (sh_Mo h_l0).1 rfl rfl ?_
  obtain ⟨r1, x1, e1, h⟩ := jj_b2o h
  refine jj_callVi (as := [.int (x l0 8)]) (c_Mo_returnsOf (d := d + 3) h_l0 e1) d_Mo_can_190 ck_Mo_148 (sh_Mo h_l0).2 (sh_Mo h_l0).1 ⟨_, rfl, rfl⟩ rfl rfl (Nat.le_of_ble_eq_true rfl) ?_
  refine jj_istore (lo' := [_, _, _, _, _, _, _]) d_Mo_can_193 rfl (by decide) rfl ?_
  refine jj_iload_n d_Mo_can_195 rfl ?_
  obtain ⟨r2, e2, h⟩ := jj_b1o h
  refine jj_callSi (as := [.int l3]) (c_Mo_returns (d := d + 3)  e2) d_Mo_can_196 ck_Mo_58 rfl rfl (Nat.le_of_ble_eq_true rfl) ?_
  refine jj_if_eq (tgt := 230) d_Mo_can_199 rfl (fun c3 => ?_) (fun c3 => ?_)
  · rw [if_pos c3] at h
    exact jj_J.sub (t_Mo_can_230 rec hrec  h) (fun i v hi => jj_mask_ok [false, false, false, false, false, false, false] hi)
  · rw [if_neg c3] at h
    refine jj_iload d_Mo_can_202 rfl ?_
    refine jj_iload_n d_Mo_can_204 rfl ?_
    refine jj_sipush d_Mo_can_205 jc_s_172 ?_
    refine jj_ic_ne (tgt := 215) d_Mo_can_208 rfl (fun c4 => ?_) (fun c4 => ?_)
    · rw [if_neg c4] at h
      refine jj_iload_n d_Mo_can_215 rfl ?_
      refine jj_sipush d_Mo_can_216 jc_s_176 ?_
      refine jj_ic_ne (tgt := 226) d_Mo_can_219 rfl (fun c5 => ?_) (fun c5 => ?_)
      · rw [if_neg c5] at h
        refine jj_iconst d_Mo_can_226 jc_i_0 ?_
        exact jj_J.sub (t_Mo_can_227 rec hrec  h) (fun i v hi => jj_mask_ok [false, false, false, false, false, false, false] hi)
      · rw [if_pos c5] at h
        refine jj_iconst d_Mo_can_222 jc_i_2 ?_
        refine jj_goto (tgt := 227) d_Mo_can_223 rfl ?_
        exact jj_J.sub (t_Mo_can_227 rec hrec  h) (fun i v hi => jj_mask_ok [false, false, false, false, false, false, false] hi)
    · rw [if_pos c4] at h
      refine jj_iconst d_Mo_can_211 jc_i_1 ?_
      refine jj_goto (tgt := 227) d_Mo_can_212 rfl ?_
      exact jj_J.sub (t_Mo_can_227 rec hrec  h) (fun i v hi => jj_mask_ok [false, false, false, false, false, false, false] hi)
def k_Mo_can_171 (rec : Nat → List (Option Value) → jj_Mem → Option (Int32 × jj_Mem)) (l0 : Nat) (l3 : Int32) (l5 : Int32) (x : jj_Mem) : Option (Int32 × jj_Mem) :=
  (if l3 = 25 then (if 2 ≤ l5 then k_Mo_can_185 rec l0 l3 x else some (0, x)) else k_Mo_can_185 rec l0 l3 x)
set_option maxHeartbeats 2000000 in
theorem t_Mo_can_171 {X : jj_X} {d : Nat} (rec : Nat → List (Option Value) → jj_Mem → Option (Int32 × jj_Mem)) (hrec : ∀ (L : Nat) (lo : List (Option Value)) (x : jj_Mem) (q : Int32 × jj_Mem), rec L lo x = some q → jj_J Y0 X (d + 4) m_Mo_can L lo [] x (jp_i q)) {l0 : Nat} {l3 : Int32} {l5 : Int32} (h_l0 : o_Mo l0) {x : jj_Mem} {q : Int32 × jj_Mem} (h : k_Mo_can_171 rec l0 l3 l5 x = some q) : jj_J Y0 X (d + 4) m_Mo_can 171 [some (.ref l0), none, none, some (.int l3), none, some (.int l5), none] [] x (jp_i q) := by
  unfold k_Mo_can_171 at h
  refine jj_iload_n d_Mo_can_171 rfl ?_
  refine jj_bipush d_Mo_can_172 jc_b_25 ?_
  refine jj_ic_ne (tgt := 185) d_Mo_can_174 rfl (fun c1 => ?_) (fun c1 => ?_)
  · rw [if_neg c1] at h
    exact jj_J.sub (t_Mo_can_185 rec hrec h_l0 h) (fun i v hi => jj_mask_ok [true, false, false, true, false, false, false] hi)
  · rw [if_pos c1] at h
    refine jj_iload d_Mo_can_177 rfl ?_
    refine jj_iconst d_Mo_can_179 jc_i_2 ?_
    refine jj_ic_ge (tgt := 185) d_Mo_can_180 rfl (fun c2 => ?_) (fun c2 => ?_)
    · rw [if_pos c2] at h
      exact jj_J.sub (t_Mo_can_185 rec hrec h_l0 h) (fun i v hi => jj_mask_ok [true, false, false, true, false, false, false] hi)
    · rw [if_neg c2] at h
      refine jj_iconst d_Mo_can_183 jc_i_0 ?_
      cases h
      exact jj_zreturn d_Mo_can_184 rfl (Or.inl rfl) ⟨rfl, rfl⟩
def k_Mo_can_165 (rec : Nat → List (Option Value) → jj_Mem → Option (Int32 × jj_Mem)) (l0 : Nat) (l3 : Int32) (l5 : Int32) (x : jj_Mem) : Option (Int32 × jj_Mem) :=
  (if l5 = 1 then k_Mo_can_171 rec l0 l3 l5 x else some (0, x))
set_option maxHeartbeats 2000000 in
theorem t_Mo_can_165 {X : jj_X} {d : Nat} (rec : Nat → List (Option Value) → jj_Mem → Option (Int32 × jj_Mem)) (hrec : ∀ (L : Nat) (lo : List (Option Value)) (x : jj_Mem) (q : Int32 × jj_Mem), rec L lo x = some q → jj_J Y0 X (d + 4) m_Mo_can L lo [] x (jp_i q)) {l0 : Nat} {l3 : Int32} {l5 : Int32} (h_l0 : o_Mo l0) {x : jj_Mem} {q : Int32 × jj_Mem} (h : k_Mo_can_165 rec l0 l3 l5 x = some q) : jj_J Y0 X (d + 4) m_Mo_can 165 [some (.ref l0), none, none, some (.int l3), none, some (.int l5), none] [] x (jp_i q) := by
  unfold k_Mo_can_165 at h
  refine jj_iload d_Mo_can_165 rfl ?_
  refine jj_iconst d_Mo_can_167 jc_i_1 ?_
  refine jj_ic_ne (tgt := 183) d_Mo_can_168 rfl (fun c1 => ?_) (fun c1 => ?_)
  · rw [if_neg c1] at h
    refine jj_iconst d_Mo_can_183 jc_i_0 ?_
    cases h
    exact jj_zreturn d_Mo_can_184 rfl (Or.inl rfl) ⟨rfl, rfl⟩
  · rw [if_pos c1] at h
    exact jj_J.sub (t_Mo_can_171 rec hrec h_l0 h) (fun i v hi => jj_mask_ok [true, false, false, true, false, true, false] hi)
def k_Mo_can_150 (rec : Nat → List (Option Value) → jj_Mem → Option (Int32 × jj_Mem)) (l0 : Nat) (l3 : Int32) (s0 : Int32) (x : jj_Mem) : Option (Int32 × jj_Mem) :=
  (if l3 = 21 then k_Mo_can_165 rec l0 l3 s0 x else (if l3 = 132 then k_Mo_can_165 rec l0 l3 s0 x else k_Mo_can_171 rec l0 l3 s0 x))
set_option maxHeartbeats 2000000 in
theorem t_Mo_can_150 {X : jj_X} {d : Nat} (rec : Nat → List (Option Value) → jj_Mem → Option (Int32 × jj_Mem)) (hrec : ∀ (L : Nat) (lo : List (Option Value)) (x : jj_Mem) (q : Int32 × jj_Mem), rec L lo x = some q → jj_J Y0 X (d + 4) m_Mo_can L lo [] x (jp_i q)) {l0 : Nat} {l3 : Int32} {s0 : Int32} (h_l0 : o_Mo l0) {x : jj_Mem} {q : Int32 × jj_Mem} (h : k_Mo_can_150 rec l0 l3 s0 x = some q) : jj_J Y0 X (d + 4) m_Mo_can 150 [some (.ref l0), none, none, some (.int l3), none, none, none] [.int s0] x (jp_i q) := by
  unfold k_Mo_can_150 at h
  refine jj_istore (lo' := [_, _, _, _, _, _, _]) d_Mo_can_150 rfl (by decide) rfl ?_
  refine jj_iload_n d_Mo_can_152 rfl ?_
  refine jj_bipush d_Mo_can_153 jc_b_21 ?_
  refine jj_ic_eq (tgt := 165) d_Mo_can_155 rfl (fun c1 => ?_) (fun c1 => ?_)
  · rw [if_pos c1] at h
    exact jj_J.sub (t_Mo_can_165 rec hrec h_l0 h) (fun i v hi => jj_mask_ok [true, false, false, true, false, true, false] hi)
  · rw [if_neg c1] at h
    refine jj_iload_n d_Mo_can_158 rfl ?_
    refine jj_sipush d_Mo_can_159 jc_s_132 ?_
    refine jj_ic_ne (tgt := 171) d_Mo_can_162 rfl (fun c2 => ?_) (fun c2 => ?_)
    · rw [if_neg c2] at h
      exact jj_J.sub (t_Mo_can_171 rec hrec h_l0 h) (fun i v hi => jj_mask_ok [true, false, false, true, false, true, false] hi)
    · rw [if_pos c2] at h
      exact jj_J.sub (t_Mo_can_165 rec hrec h_l0 h) (fun i v hi => jj_mask_ok [true, false, false, true, false, true, false] hi)
def k_Mo_can_110 (rec : Nat → List (Option Value) → jj_Mem → Option (Int32 × jj_Mem)) (l0 : Nat) (l1 : Int32) (l2 : Int32) (l3 : Int32) (l4 : Int32) (l5 : Int32) (x : jj_Mem) : Option (Int32 × jj_Mem) :=
  rec 57 [some (.ref l0), some (.int l1), some (.int l2), some (.int l3), some (.int l4), some (.int (l5 + 1)), none] x
set_option maxHeartbeats 2000000 in
theorem t_Mo_can_110 {X : jj_X} {d : Nat} (rec : Nat → List (Option Value) → jj_Mem → Option (Int32 × jj_Mem)) (hrec : ∀ (L : Nat) (lo : List (Option Value)) (x : jj_Mem) (q : Int32 × jj_Mem), rec L lo x = some q → jj_J Y0 X (d + 4) m_Mo_can L lo [] x (jp_i q)) {l0 : Nat} {l1 : Int32} {l2 : Int32} {l3 : Int32} {l4 : Int32} {l5 : Int32} (h_l0 : o_Mo l0) {x : jj_Mem} {q : Int32 × jj_Mem} (h : k_Mo_can_110 rec l0 l1 l2 l3 l4 l5 x = some q) : jj_J Y0 X (d + 4) m_Mo_can 110 [some (.ref l0), some (.int l1), some (.int l2), some (.int l3), some (.int l4), some (.int l5), none] [] x (jp_i q) := by
  unfold k_Mo_can_110 at h
  refine jj_iinc (lo' := [_, _, _, _, _, _, _]) (v := (l5 + 1)) d_Mo_can_110 rfl (jc_a_1 _) rfl (by decide) rfl ?_
  refine jj_goto (tgt := 57) d_Mo_can_113 rfl ?_
  exact jj_J.sub (hrec _ _ _ _ h) (fun i v hi => jj_mask_ok [true, true, true, true, true, true, false] hi)
def k_Mo_can_57 (rec : Nat → List (Option Value) → jj_Mem → Option (Int32 × jj_Mem)) (l0 : Nat) (l1 : Int32) (l2 : Int32) (l3 : Int32) (l4 : Int32) (l5 : Int32) (x : jj_Mem) : Option (Int32 × jj_Mem) :=
  (if l4 ≤ l5 then jj_b1 (s_Mo_names l3) (fun r2 => (if r2 = 0 then k_Mo_can_150 rec l0 l3 0 x else if jj_inb (((x l0 13) + l2) + 1) 240 = true then if jj_inb ((6 * l1) + (x (l0 + 2) (Int32.toNatClampNeg (((x l0 13) + l2) + 1)))) 24 = true then k_Mo_can_150 rec l0 l3 (x (l0 + 3) (Int32.toNatClampNeg ((6 * l1) + (x (l0 + 2) (Int32.toNatClampNeg (((x l0 13) + l2) + 1)))))) x else none else none)) else jj_b2 (f_Mo_needs l0 l2 l5 x) (fun r6 x6 => (if r6 = 3 then k_Mo_can_110 rec l0 l1 l2 l3 l4 l5 x6 else if jj_inb l1 4 = true then if jj_inb ((((6 * l1) + (x6 (l0 + 7) (Int32.toNatClampNeg l1))) - 1) - l5) 24 = true then jj_b2 (f_Mo_good (x6 (l0 + 5) (Int32.toNatClampNeg ((((6 * l1) + (x6 (l0 + 7) (Int32.toNatClampNeg l1))) - 1) - l5))) r6 x6) (fun r10 x10 => (if r10 = 0 then some (0, x10) else k_Mo_can_110 rec l0 l1 l2 l3 l4 l5 x10)) else none else none)))
set_option maxHeartbeats 2000000 in
theorem t_Mo_can_57 {X : jj_X} {d : Nat} (rec : Nat → List (Option Value) → jj_Mem → Option (Int32 × jj_Mem)) (hrec : ∀ (L : Nat) (lo : List (Option Value)) (x : jj_Mem) (q : Int32 × jj_Mem), rec L lo x = some q → jj_J Y0 X (d + 4) m_Mo_can L lo [] x (jp_i q)) {l0 : Nat} {l1 : Int32} {l2 : Int32} {l3 : Int32} {l4 : Int32} {l5 : Int32} (h_l0 : o_Mo l0) {x : jj_Mem} {q : Int32 × jj_Mem} (h : k_Mo_can_57 rec l0 l1 l2 l3 l4 l5 x = some q) : jj_J Y0 X (d + 4) m_Mo_can 57 [some (.ref l0), some (.int l1), some (.int l2), some (.int l3), some (.int l4), some (.int l5), none] [] x (jp_i q) := by
  unfold k_Mo_can_57 at h
  refine jj_iload d_Mo_can_57 rfl ?_
  refine jj_iload d_Mo_can_59 rfl ?_
  refine jj_ic_ge (tgt := 116) d_Mo_can_61 rfl (fun c1 => ?_) (fun c1 => ?_)
  · rw [if_pos c1] at h
    refine jj_iload_n d_Mo_can_116 rfl ?_
    obtain ⟨r2, e2, h⟩ := jj_b1o h
    refine jj_callSi (as := [.int l3]) (c_Mo_names (d := d + 3)  e2) d_Mo_can_117 ck_Mo_55 rfl rfl (Nat.le_of_ble_eq_true rfl) ?_
    refine jj_if_eq (tgt := 149) d_Mo_can_120 rfl (fun c3 => ?_) (fun c3 => ?_)
    · rw [if_pos c3] at h
      refine jj_iconst d_Mo_can_149 jc_i_0 ?_
      exact jj_J.sub (t_Mo_can_150 rec hrec h_l0 h) (fun i v hi => jj_mask_ok [true, false, false, true, false, false, false] hi)
    · rw [if_neg c3] at h
      refine jj_aload_n d_Mo_can_123 rfl ?_
      refine jj_getR d_Mo_can_124 fk_Mo_16 (sh_Mo h_l0).2 (sh_Mo h_l0).1 rfl ?_
      refine jj_bipush d_Mo_can_127 jc_b_6 ?_
      refine jj_iload_n d_Mo_can_129 rfl ?_
      refine jj_imul d_Mo_can_130 ?_
      refine jj_aload_n d_Mo_can_131 rfl ?_
      refine jj_getR d_Mo_can_132 fk_Mo_13 (sh_Mo h_l0).2 (sh_Mo h_l0).1 rfl ?_
      refine jj_aload_n d_Mo_can_135 rfl ?_
      refine jj_getI d_Mo_can_136 fk_Mo_139 (sh_Mo h_l0).2 (sh_Mo h_l0).1 rfl rfl ?_
      refine jj_iload_n d_Mo_can_139 rfl ?_
      refine jj_iadd d_Mo_can_140 ?_
      refine jj_iconst d_Mo_can_141 jc_i_1 ?_
      refine jj_iadd d_Mo_can_142 ?_
      obtain ⟨i4, h⟩ := jj_gt h
      refine jj_iaload d_Mo_can_143 rfl (ar_Mo_kept h_l0).1 (ar_Mo_kept h_l0).2 (jj_inn i4) rfl ?_
      refine jj_iadd d_Mo_can_144 ?_
      obtain ⟨i5, h⟩ := jj_gt h
      refine jj_iaload d_Mo_can_145 rfl (ar_Mo_placeKind h_l0).1 (ar_Mo_placeKind h_l0).2 (jj_inn i5) rfl ?_
      refine jj_goto (tgt := 150) d_Mo_can_146 rfl ?_
      exact jj_J.sub (t_Mo_can_150 rec hrec h_l0 h) (fun i v hi => jj_mask_ok [true, false, false, true, false, false, false] hi)
  · rw [if_neg c1] at h
    refine jj_aload_n d_Mo_can_64 rfl ?_
    refine jj_iload_n d_Mo_can_65 rfl ?_
    refine jj_iload d_Mo_can_66 rfl ?_
    obtain ⟨r6, x6, e6, h⟩ := jj_b2o h
    refine jj_callVi (as := [.int l2, .int l5]) (c_Mo_needs (d := d + 1) h_l0 e6) d_Mo_can_68 ck_Mo_145 (sh_Mo h_l0).2 (sh_Mo h_l0).1 ⟨_, rfl, rfl⟩ rfl rfl (Nat.le_of_ble_eq_true rfl) ?_
    refine jj_istore (lo' := [_, _, _, _, _, _, _]) d_Mo_can_71 rfl (by decide) rfl ?_
    refine jj_iload d_Mo_can_73 rfl ?_
    refine jj_iconst d_Mo_can_75 jc_i_3 ?_
    refine jj_ic_eq (tgt := 110) d_Mo_can_76 rfl (fun c7 => ?_) (fun c7 => ?_)
    · rw [if_pos c7] at h
      exact jj_J.sub (t_Mo_can_110 rec hrec h_l0 h) (fun i v hi => jj_mask_ok [true, true, true, true, true, true, false] hi)
    · rw [if_neg c7] at h
      refine jj_aload_n d_Mo_can_79 rfl ?_
      refine jj_getR d_Mo_can_80 fk_Mo_22 (sh_Mo h_l0).2 (sh_Mo h_l0).1 rfl ?_
      refine jj_bipush d_Mo_can_83 jc_b_6 ?_
      refine jj_iload_n d_Mo_can_85 rfl ?_
      refine jj_imul d_Mo_can_86 ?_
      refine jj_aload_n d_Mo_can_87 rfl ?_
      refine jj_getR d_Mo_can_88 fk_Mo_28 (sh_Mo h_l0).2 (sh_Mo h_l0).1 rfl ?_
      refine jj_iload_n d_Mo_can_91 rfl ?_
      obtain ⟨i8, h⟩ := jj_gt h
      refine jj_iaload d_Mo_can_92 rfl (ar_Mo_height h_l0).1 (ar_Mo_height h_l0).2 (jj_inn i8) rfl ?_
      refine jj_iadd d_Mo_can_93 ?_
      refine jj_iconst d_Mo_can_94 jc_i_1 ?_
      refine jj_isub d_Mo_can_95 ?_
      refine jj_iload d_Mo_can_96 rfl ?_
      refine jj_isub d_Mo_can_98 ?_
      obtain ⟨i9, h⟩ := jj_gt h
      refine jj_iaload d_Mo_can_99 rfl (ar_Mo_stackKind h_l0).1 (ar_Mo_stackKind h_l0).2 (jj_inn i9) rfl ?_
      refine jj_iload d_Mo_can_100 rfl ?_
      obtain ⟨r10, x10, e10, h⟩ := jj_b2o h
      refine jj_callSi (as := [.int (x6 (l0 + 5) (Int32.toNatClampNeg ((((6 * l1) + (x6 (l0 + 7) (Int32.toNatClampNeg l1))) - 1) - l5))), .int r6]) (c_Mo_good (d := d + 3)  e10) d_Mo_can_102 ck_Mo_160 rfl rfl (Nat.le_of_ble_eq_true rfl) ?_
      refine jj_if_ne (tgt := 110) d_Mo_can_105 rfl (fun c11 => ?_) (fun c11 => ?_)
      · rw [if_neg c11] at h
        exact jj_J.sub (t_Mo_can_110 rec hrec h_l0 h) (fun i v hi => jj_mask_ok [true, true, true, true, true, true, false] hi)
      · rw [if_pos c11] at h
        refine jj_iconst d_Mo_can_108 jc_i_0 ?_
        cases h
        exact jj_zreturn d_Mo_can_109 rfl (Or.inl rfl) ⟨rfl, rfl⟩
def g_Mo_can : Nat → Nat → List (Option Value) → jj_Mem → Option (Int32 × jj_Mem)
  | 0, _, _, _ => none
  | f + 1, L, lo, x => match L, lo with
    | 57, [some (.ref l0), some (.int l1), some (.int l2), some (.int l3), some (.int l4), some (.int l5), none] => if (bo_Mo l0) = true then k_Mo_can_57 (g_Mo_can f) l0 l1 l2 l3 l4 l5 x else none
    | _, _ => none
set_option maxHeartbeats 2000000 in
theorem t_Mo_can_g {X : jj_X} {d : Nat} : ∀ (f L : Nat) (lo : List (Option Value)) (x : jj_Mem) (q : Int32 × jj_Mem), g_Mo_can f L lo x = some q → jj_J Y0 X (d + 4) m_Mo_can L lo [] x (jp_i q) := by
  intro f
  induction f with
  | zero => intro L lo x q h; simp [g_Mo_can] at h
  | succ f ih =>
    intro L lo x q h
    unfold g_Mo_can at h
    split at h
    · obtain ⟨i1, h⟩ := jj_gt h
      exact t_Mo_can_57 _ ih (ob_Mo i1) h
    · cases h
def k_Mo_can_0 (rec : Nat → List (Option Value) → jj_Mem → Option (Int32 × jj_Mem)) (this : Nat) (a1 : Int32) (a2 : Int32) (x : jj_Mem) : Option (Int32 × jj_Mem) :=
  if jj_inb ((x this 13) + a2) 240 = true then jj_b2 (f_Mo_takes this a2 x) (fun r2 x2 => if jj_inb a1 4 = true then (if (x2 (this + 7) (Int32.toNatClampNeg a1)) < r2 then some (0, x2) else if jj_inb a1 4 = true then jj_b2 (f_Mo_gives this a2 x2) (fun r6 x6 => (if (((x2 (this + 7) (Int32.toNatClampNeg a1)) - r2) + r6) ≤ (x6 this 10) then rec 57 [some (.ref this), some (.int a1), some (.int a2), some (.int (x (this + 2) (Int32.toNatClampNeg ((x this 13) + a2)))), some (.int r2), some (.int 0), none] x6 else some (0, x6))) else none) else none) else none
set_option maxHeartbeats 2000000 in
theorem t_Mo_can_0 {X : jj_X} {d : Nat} (rec : Nat → List (Option Value) → jj_Mem → Option (Int32 × jj_Mem)) (hrec : ∀ (L : Nat) (lo : List (Option Value)) (x : jj_Mem) (q : Int32 × jj_Mem), rec L lo x = some q → jj_J Y0 X (d + 4) m_Mo_can L lo [] x (jp_i q)) {this : Nat} {a1 : Int32} {a2 : Int32} (h_this : o_Mo this) {x : jj_Mem} {q : Int32 × jj_Mem} (h : k_Mo_can_0 rec this a1 a2 x = some q) : jj_J Y0 X (d + 4) m_Mo_can 0 [some (.ref this), some (.int a1), some (.int a2), none, none, none, none] [] x (jp_i q) := by
  unfold k_Mo_can_0 at h
  refine jj_aload_n d_Mo_can_0 rfl ?_
  refine jj_getR d_Mo_can_1 fk_Mo_13 (sh_Mo h_this).2 (sh_Mo h_this).1 rfl ?_
  refine jj_aload_n d_Mo_can_4 rfl ?_
  refine jj_getI d_Mo_can_5 fk_Mo_139 (sh_Mo h_this).2 (sh_Mo h_this).1 rfl rfl ?_
  refine jj_iload_n d_Mo_can_8 rfl ?_
  refine jj_iadd d_Mo_can_9 ?_
  obtain ⟨i1, h⟩ := jj_gt h
  refine jj_iaload d_Mo_can_10 rfl (ar_Mo_kept h_this).1 (ar_Mo_kept h_this).2 (jj_inn i1) rfl ?_
  refine jj_istore_n (lo' := [_, _, _, _, _, _, _]) d_Mo_can_11 rfl (by decide) rfl ?_
  refine jj_aload_n d_Mo_can_12 rfl ?_
  refine jj_iload_n d_Mo_can_13 rfl ?_
  obtain ⟨r2, x2, e2, h⟩ := jj_b2o h
  refine jj_callVi (as := [.int a2]) (c_Mo_takes (d := d + 0) h_this e2) d_Mo_can_14 ck_Mo_154 (sh_Mo h_this).2 (sh_Mo h_this).1 ⟨_, rfl, rfl⟩ rfl rfl (Nat.le_of_ble_eq_true rfl) ?_
  refine jj_istore (lo' := [_, _, _, _, _, _, _]) d_Mo_can_17 rfl (by decide) rfl ?_
  refine jj_iload d_Mo_can_19 rfl ?_
  refine jj_aload_n d_Mo_can_21 rfl ?_
  refine jj_getR d_Mo_can_22 fk_Mo_28 (sh_Mo h_this).2 (sh_Mo h_this).1 rfl ?_
  refine jj_iload_n d_Mo_can_25 rfl ?_
  obtain ⟨i3, h⟩ := jj_gt h
  refine jj_iaload d_Mo_can_26 rfl (ar_Mo_height h_this).1 (ar_Mo_height h_this).2 (jj_inn i3) rfl ?_
  refine jj_ic_gt (tgt := 52) d_Mo_can_27 rfl (fun c4 => ?_) (fun c4 => ?_)
  · rw [if_pos c4] at h
    refine jj_iconst d_Mo_can_52 jc_i_0 ?_
    cases h
    exact jj_zreturn d_Mo_can_53 rfl (Or.inl rfl) ⟨rfl, rfl⟩
  · rw [if_neg c4] at h
    refine jj_aload_n d_Mo_can_30 rfl ?_
    refine jj_getR d_Mo_can_31 fk_Mo_28 (sh_Mo h_this).2 (sh_Mo h_this).1 rfl ?_
    refine jj_iload_n d_Mo_can_34 rfl ?_
    obtain ⟨i5, h⟩ := jj_gt h
    refine jj_iaload d_Mo_can_35 rfl (ar_Mo_height h_this).1 (ar_Mo_height h_this).2 (jj_inn i5) rfl ?_
    refine jj_iload d_Mo_can_36 rfl ?_
    refine jj_isub d_Mo_can_38 ?_
    refine jj_aload_n d_Mo_can_39 rfl ?_
    refine jj_iload_n d_Mo_can_40 rfl ?_
    obtain ⟨r6, x6, e6, h⟩ := jj_b2o h
    refine jj_callVi (as := [.int a2]) (c_Mo_gives (d := d + 1) h_this e6) d_Mo_can_41 ck_Mo_157 (sh_Mo h_this).2 (sh_Mo h_this).1 ⟨_, rfl, rfl⟩ rfl rfl (Nat.le_of_ble_eq_true rfl) ?_
    refine jj_iadd d_Mo_can_44 ?_
    refine jj_aload_n d_Mo_can_45 rfl ?_
    refine jj_getI d_Mo_can_46 fk_Mo_130 (sh_Mo h_this).2 (sh_Mo h_this).1 rfl rfl ?_
    refine jj_ic_le (tgt := 54) d_Mo_can_49 rfl (fun c7 => ?_) (fun c7 => ?_)
    · rw [if_pos c7] at h
      refine jj_iconst d_Mo_can_54 jc_i_0 ?_
      refine jj_istore (lo' := [_, _, _, _, _, _, _]) d_Mo_can_55 rfl (by decide) rfl ?_
      exact jj_J.sub (hrec _ _ _ _ h) (fun i v hi => jj_mask_ok [true, true, true, true, true, true, false] hi)
    · rw [if_neg c7] at h
      refine jj_iconst d_Mo_can_52 jc_i_0 ?_
      cases h
      exact jj_zreturn d_Mo_can_53 rfl (Or.inl rfl) ⟨rfl, rfl⟩
def f_Mo_can (this : Nat) (a1 : Int32) (a2 : Int32) (x : jj_Mem) : Option (Int32 × jj_Mem) := k_Mo_can_0 (g_Mo_can 1000) this a1 a2 x
theorem c_Mo_can {X : jj_X} {d : Nat} {this : Nat} {a1 : Int32} {a2 : Int32} (h_this : o_Mo this) {x : jj_Mem} {q : Int32 × jj_Mem} (h : f_Mo_can this a1 a2 x = some q) : jj_Met Y0 X (d + 4) m_Mo_can [.ref this, .int a1, .int a2] x (jp_i q) :=
  jj_metp 4 (lo := [some (.ref this), some (.int a1), some (.int a2), none, none, none, none]) rfl (Nat.le_of_ble_eq_true rfl) rfl (t_Mo_can_0 _ (t_Mo_can_g 1000) h_this h)
def k_Mo_pass_261 (l0 : Nat) (l2 : Int32) (x : jj_Mem) : Option (jj_Mem) :=
  (if l2 = 167 then some (jj_set x l0 22 0) else jj_b1 (s_Mo_returns l2) (fun r2 => (if r2 = 0 then some (jj_set x l0 22 1) else some (jj_set x l0 22 0))))
set_option maxHeartbeats 2000000 in
theorem t_Mo_pass_261 {X : jj_X} {d : Nat} {l0 : Nat} {l2 : Int32} (h_l0 : o_Mo l0) {x : jj_Mem} {q : jj_Mem} (h : k_Mo_pass_261 l0 l2 x = some q) : jj_J Y0 X (d + 4) m_Mo_pass 261 [some (.ref l0), none, some (.int l2), none, none, none] [] x (jp_v q) := by
  unfold k_Mo_pass_261 at h
  refine jj_aload_n d_Mo_pass_261 rfl ?_
  refine jj_iload_n d_Mo_pass_262 rfl ?_
  refine jj_sipush d_Mo_pass_263 jc_s_167 ?_
  refine jj_ic_eq (tgt := 280) d_Mo_pass_266 rfl (fun c1 => ?_) (fun c1 => ?_)
  · rw [if_pos c1] at h
    refine jj_iconst d_Mo_pass_280 jc_i_0 ?_
    refine jj_putZ d_Mo_pass_281 pk_Mo_163 (sh_Mo h_l0).2 (sh_Mo h_l0).1 rfl (Or.inl rfl) ?_
    cases h
    exact jj_return d_Mo_pass_284 rfl ⟨rfl, rfl⟩
  · rw [if_neg c1] at h
    refine jj_iload_n d_Mo_pass_269 rfl ?_
    obtain ⟨r2, e2, h⟩ := jj_b1o h
    refine jj_callSi (as := [.int l2]) (c_Mo_returns (d := d + 3)  e2) d_Mo_pass_270 ck_Mo_58 rfl rfl (Nat.le_of_ble_eq_true rfl) ?_
    refine jj_if_ne (tgt := 280) d_Mo_pass_273 rfl (fun c3 => ?_) (fun c3 => ?_)
    · rw [if_neg c3] at h
      refine jj_iconst d_Mo_pass_280 jc_i_0 ?_
      refine jj_putZ d_Mo_pass_281 pk_Mo_163 (sh_Mo h_l0).2 (sh_Mo h_l0).1 rfl (Or.inl rfl) ?_
      cases h
      exact jj_return d_Mo_pass_284 rfl ⟨rfl, rfl⟩
    · rw [if_pos c3] at h
      refine jj_iconst d_Mo_pass_276 jc_i_1 ?_
      refine jj_goto (tgt := 281) d_Mo_pass_277 rfl ?_
      refine jj_putZ d_Mo_pass_281 pk_Mo_163 (sh_Mo h_l0).2 (sh_Mo h_l0).1 rfl (Or.inr rfl) ?_
      cases h
      exact jj_return d_Mo_pass_284 rfl ⟨rfl, rfl⟩
def k_Mo_pass_237 (l0 : Nat) (l2 : Int32) (s0 : Nat) (s1 : Int32) (s2 : Int32) (x : jj_Mem) : Option (jj_Mem) :=
  jj_b1 (f_Mo_push s0 s1 s2 0 x) (fun x1 => k_Mo_pass_261 l0 l2 x1)
set_option maxHeartbeats 2000000 in
theorem t_Mo_pass_237 {X : jj_X} {d : Nat} {l0 : Nat} {l2 : Int32} {s0 : Nat} {s1 : Int32} {s2 : Int32} (h_l0 : o_Mo l0) (h_s0 : o_Mo s0) {x : jj_Mem} {q : jj_Mem} (h : k_Mo_pass_237 l0 l2 s0 s1 s2 x = some q) : jj_J Y0 X (d + 4) m_Mo_pass 237 [some (.ref l0), none, some (.int l2), none, none, none] [.int s2, .int s1, .ref s0] x (jp_v q) := by
  unfold k_Mo_pass_237 at h
  refine jj_iconst d_Mo_pass_237 jc_i_0 ?_
  obtain ⟨x1, e1, h⟩ := jj_b1o h
  refine jj_callVv (as := [.int s1, .int s2, .int 0]) (c_Mo_push (d := d + 3) h_s0 e1) d_Mo_pass_238 ck_Mo_166 (sh_Mo h_s0).2 (sh_Mo h_s0).1 ⟨_, rfl, rfl⟩ rfl rfl (Nat.le_of_ble_eq_true rfl) ?_
  refine jj_goto (tgt := 261) d_Mo_pass_241 rfl ?_
  exact jj_J.sub (t_Mo_pass_261 h_l0 h) (fun i v hi => jj_mask_ok [true, false, true, false, false, false] hi)
def k_Mo_pass_214 (l0 : Nat) (l2 : Int32) (l4 : Int32) (l5 : Int32) (x : jj_Mem) : Option (jj_Mem) :=
  jj_b1 (f_Mo_push l0 0 l4 0 x) (fun x1 => (if l2 = 89 then k_Mo_pass_237 l0 l2 l0 0 l4 x1 else k_Mo_pass_237 l0 l2 l0 0 l5 x1))
set_option maxHeartbeats 2000000 in
theorem t_Mo_pass_214 {X : jj_X} {d : Nat} {l0 : Nat} {l2 : Int32} {l4 : Int32} {l5 : Int32} (h_l0 : o_Mo l0) {x : jj_Mem} {q : jj_Mem} (h : k_Mo_pass_214 l0 l2 l4 l5 x = some q) : jj_J Y0 X (d + 4) m_Mo_pass 214 [some (.ref l0), none, some (.int l2), none, some (.int l4), some (.int l5)] [] x (jp_v q) := by
  unfold k_Mo_pass_214 at h
  refine jj_aload_n d_Mo_pass_214 rfl ?_
  refine jj_iconst d_Mo_pass_215 jc_i_0 ?_
  refine jj_iload d_Mo_pass_216 rfl ?_
  refine jj_iconst d_Mo_pass_218 jc_i_0 ?_
  obtain ⟨x1, e1, h⟩ := jj_b1o h
  refine jj_callVv (as := [.int 0, .int l4, .int 0]) (c_Mo_push (d := d + 3) h_l0 e1) d_Mo_pass_219 ck_Mo_166 (sh_Mo h_l0).2 (sh_Mo h_l0).1 ⟨_, rfl, rfl⟩ rfl rfl (Nat.le_of_ble_eq_true rfl) ?_
  refine jj_aload_n d_Mo_pass_222 rfl ?_
  refine jj_iconst d_Mo_pass_223 jc_i_0 ?_
  refine jj_iload_n d_Mo_pass_224 rfl ?_
  refine jj_bipush d_Mo_pass_225 jc_b_89 ?_
  refine jj_ic_ne (tgt := 235) d_Mo_pass_227 rfl (fun c2 => ?_) (fun c2 => ?_)
  · rw [if_neg c2] at h
    refine jj_iload d_Mo_pass_235 rfl ?_
    exact jj_J.sub (t_Mo_pass_237 h_l0 h_l0 h) (fun i v hi => jj_mask_ok [true, false, true, false, false, false] hi)
  · rw [if_pos c2] at h
    refine jj_iload d_Mo_pass_230 rfl ?_
    refine jj_goto (tgt := 237) d_Mo_pass_232 rfl ?_
    exact jj_J.sub (t_Mo_pass_237 h_l0 h_l0 h) (fun i v hi => jj_mask_ok [true, false, true, false, false, false] hi)
def k_Mo_pass_179 (l0 : Nat) (l1 : Int32) (l2 : Int32) (l4 : Int32) (x : jj_Mem) : Option (jj_Mem) :=
  if jj_inb (((x l0 13) + l1) + 1) 240 = true then if jj_inb (x (l0 + 2) (Int32.toNatClampNeg (((x l0 13) + l1) + 1))) 24 = true then k_Mo_pass_261 l0 l2 (jj_set x (l0 + 3) (Int32.toNatClampNeg (x (l0 + 2) (Int32.toNatClampNeg (((x l0 13) + l1) + 1)))) l4) else none else none
set_option maxHeartbeats 2000000 in
theorem t_Mo_pass_179 {X : jj_X} {d : Nat} {l0 : Nat} {l1 : Int32} {l2 : Int32} {l4 : Int32} (h_l0 : o_Mo l0) {x : jj_Mem} {q : jj_Mem} (h : k_Mo_pass_179 l0 l1 l2 l4 x = some q) : jj_J Y0 X (d + 4) m_Mo_pass 179 [some (.ref l0), some (.int l1), some (.int l2), none, some (.int l4), none] [] x (jp_v q) := by
  unfold k_Mo_pass_179 at h
  refine jj_aload_n d_Mo_pass_179 rfl ?_
  refine jj_getR d_Mo_pass_180 fk_Mo_16 (sh_Mo h_l0).2 (sh_Mo h_l0).1 rfl ?_
  refine jj_aload_n d_Mo_pass_183 rfl ?_
  refine jj_getR d_Mo_pass_184 fk_Mo_13 (sh_Mo h_l0).2 (sh_Mo h_l0).1 rfl ?_
  refine jj_aload_n d_Mo_pass_187 rfl ?_
  refine jj_getI d_Mo_pass_188 fk_Mo_139 (sh_Mo h_l0).2 (sh_Mo h_l0).1 rfl rfl ?_
  refine jj_iload_n d_Mo_pass_191 rfl ?_
  refine jj_iadd d_Mo_pass_192 ?_
  refine jj_iconst d_Mo_pass_193 jc_i_1 ?_
  refine jj_iadd d_Mo_pass_194 ?_
  obtain ⟨i1, h⟩ := jj_gt h
  refine jj_iaload d_Mo_pass_195 rfl (ar_Mo_kept h_l0).1 (ar_Mo_kept h_l0).2 (jj_inn i1) rfl ?_
  refine jj_iload d_Mo_pass_196 rfl ?_
  obtain ⟨i2, h⟩ := jj_gt h
  refine jj_iastore d_Mo_pass_198 rfl (ar_Mo_placeKind h_l0).1 (ar_Mo_placeKind h_l0).2 (jj_inn i2) ?_
  refine jj_goto (tgt := 261) d_Mo_pass_199 rfl ?_
  exact jj_J.sub (t_Mo_pass_261 h_l0 h) (fun i v hi => jj_mask_ok [true, false, true, false, false, false] hi)
def k_Mo_pass_134 (l0 : Nat) (l1 : Int32) (l2 : Int32) (l4 : Int32) (l5 : Int32) (x : jj_Mem) : Option (jj_Mem) :=
  (if l2 = 25 then if jj_inb (((x l0 13) + l1) + 1) 240 = true then if jj_inb (x (l0 + 2) (Int32.toNatClampNeg (((x l0 13) + l1) + 1))) 24 = true then jj_b1 (f_Mo_push l0 0 (x (l0 + 3) (Int32.toNatClampNeg (x (l0 + 2) (Int32.toNatClampNeg (((x l0 13) + l1) + 1))))) 0 x) (fun x12 => k_Mo_pass_261 l0 l2 x12) else none else none else (if l2 = 54 then k_Mo_pass_179 l0 l1 l2 l4 x else (if l2 = 58 then k_Mo_pass_179 l0 l1 l2 l4 x else (if l2 = 89 then k_Mo_pass_214 l0 l2 l4 l5 x else (if l2 = 95 then k_Mo_pass_214 l0 l2 l4 l5 x else jj_b1 (s_Mo_puts l2) (fun r6 => (if r6 ≤ 0 then k_Mo_pass_261 l0 l2 x else jj_b1 (s_Mo_puts l2) (fun r8 => jj_b1 (f_Mo_push l0 0 r8 0 x) (fun x9 => k_Mo_pass_261 l0 l2 x9)))))))))
set_option maxHeartbeats 2000000 in
theorem t_Mo_pass_134 {X : jj_X} {d : Nat} {l0 : Nat} {l1 : Int32} {l2 : Int32} {l4 : Int32} {l5 : Int32} (h_l0 : o_Mo l0) {x : jj_Mem} {q : jj_Mem} (h : k_Mo_pass_134 l0 l1 l2 l4 l5 x = some q) : jj_J Y0 X (d + 4) m_Mo_pass 134 [some (.ref l0), some (.int l1), some (.int l2), none, some (.int l4), some (.int l5)] [] x (jp_v q) := by
  unfold k_Mo_pass_134 at h
  refine jj_iload_n d_Mo_pass_134 rfl ?_
  refine jj_bipush d_Mo_pass_135 jc_b_25 ?_
  refine jj_ic_ne (tgt := 167) d_Mo_pass_137 rfl (fun c1 => ?_) (fun c1 => ?_)
  · rw [if_neg c1] at h
    refine jj_iload_n d_Mo_pass_167 rfl ?_
    refine jj_bipush d_Mo_pass_168 jc_b_54 ?_
    refine jj_ic_eq (tgt := 179) d_Mo_pass_170 rfl (fun c2 => ?_) (fun c2 => ?_)
    · rw [if_pos c2] at h
      exact jj_J.sub (t_Mo_pass_179 h_l0 h) (fun i v hi => jj_mask_ok [true, true, true, false, true, false] hi)
    · rw [if_neg c2] at h
      refine jj_iload_n d_Mo_pass_173 rfl ?_
      refine jj_bipush d_Mo_pass_174 jc_b_58 ?_
      refine jj_ic_ne (tgt := 202) d_Mo_pass_176 rfl (fun c3 => ?_) (fun c3 => ?_)
      · rw [if_neg c3] at h
        refine jj_iload_n d_Mo_pass_202 rfl ?_
        refine jj_bipush d_Mo_pass_203 jc_b_89 ?_
        refine jj_ic_eq (tgt := 214) d_Mo_pass_205 rfl (fun c4 => ?_) (fun c4 => ?_)
        · rw [if_pos c4] at h
          exact jj_J.sub (t_Mo_pass_214 h_l0 h) (fun i v hi => jj_mask_ok [true, false, true, false, true, true] hi)
        · rw [if_neg c4] at h
          refine jj_iload_n d_Mo_pass_208 rfl ?_
          refine jj_bipush d_Mo_pass_209 jc_b_95 ?_
          refine jj_ic_ne (tgt := 244) d_Mo_pass_211 rfl (fun c5 => ?_) (fun c5 => ?_)
          · rw [if_neg c5] at h
            refine jj_iload_n d_Mo_pass_244 rfl ?_
            obtain ⟨r6, e6, h⟩ := jj_b1o h
            refine jj_callSi (as := [.int l2]) (c_Mo_puts (d := d + 3)  e6) d_Mo_pass_245 ck_Mo_151 rfl rfl (Nat.le_of_ble_eq_true rfl) ?_
            refine jj_if_le (tgt := 261) d_Mo_pass_248 rfl (fun c7 => ?_) (fun c7 => ?_)
            · rw [if_pos c7] at h
              exact jj_J.sub (t_Mo_pass_261 h_l0 h) (fun i v hi => jj_mask_ok [true, false, true, false, false, false] hi)
            · rw [if_neg c7] at h
              refine jj_aload_n d_Mo_pass_251 rfl ?_
              refine jj_iconst d_Mo_pass_252 jc_i_0 ?_
              refine jj_iload_n d_Mo_pass_253 rfl ?_
              obtain ⟨r8, e8, h⟩ := jj_b1o h
              refine jj_callSi (as := [.int l2]) (c_Mo_puts (d := d + 3)  e8) d_Mo_pass_254 ck_Mo_151 rfl rfl (Nat.le_of_ble_eq_true rfl) ?_
              refine jj_iconst d_Mo_pass_257 jc_i_0 ?_
              obtain ⟨x9, e9, h⟩ := jj_b1o h
              refine jj_callVv (as := [.int 0, .int r8, .int 0]) (c_Mo_push (d := d + 3) h_l0 e9) d_Mo_pass_258 ck_Mo_166 (sh_Mo h_l0).2 (sh_Mo h_l0).1 ⟨_, rfl, rfl⟩ rfl rfl (Nat.le_of_ble_eq_true rfl) ?_
              exact jj_J.sub (t_Mo_pass_261 h_l0 h) (fun i v hi => jj_mask_ok [true, false, true, false, false, false] hi)
          · rw [if_pos c5] at h
            exact jj_J.sub (t_Mo_pass_214 h_l0 h) (fun i v hi => jj_mask_ok [true, false, true, false, true, true] hi)
      · rw [if_pos c3] at h
        exact jj_J.sub (t_Mo_pass_179 h_l0 h) (fun i v hi => jj_mask_ok [true, true, true, false, true, false] hi)
  · rw [if_pos c1] at h
    refine jj_aload_n d_Mo_pass_140 rfl ?_
    refine jj_iconst d_Mo_pass_141 jc_i_0 ?_
    refine jj_aload_n d_Mo_pass_142 rfl ?_
    refine jj_getR d_Mo_pass_143 fk_Mo_16 (sh_Mo h_l0).2 (sh_Mo h_l0).1 rfl ?_
    refine jj_aload_n d_Mo_pass_146 rfl ?_
    refine jj_getR d_Mo_pass_147 fk_Mo_13 (sh_Mo h_l0).2 (sh_Mo h_l0).1 rfl ?_
    refine jj_aload_n d_Mo_pass_150 rfl ?_
    refine jj_getI d_Mo_pass_151 fk_Mo_139 (sh_Mo h_l0).2 (sh_Mo h_l0).1 rfl rfl ?_
    refine jj_iload_n d_Mo_pass_154 rfl ?_
    refine jj_iadd d_Mo_pass_155 ?_
    refine jj_iconst d_Mo_pass_156 jc_i_1 ?_
    refine jj_iadd d_Mo_pass_157 ?_
    obtain ⟨i10, h⟩ := jj_gt h
    refine jj_iaload d_Mo_pass_158 rfl (ar_Mo_kept h_l0).1 (ar_Mo_kept h_l0).2 (jj_inn i10) rfl ?_
    obtain ⟨i11, h⟩ := jj_gt h
    refine jj_iaload d_Mo_pass_159 rfl (ar_Mo_placeKind h_l0).1 (ar_Mo_placeKind h_l0).2 (jj_inn i11) rfl ?_
    refine jj_iconst d_Mo_pass_160 jc_i_0 ?_
    obtain ⟨x12, e12, h⟩ := jj_b1o h
    refine jj_callVv (as := [.int 0, .int (x (l0 + 3) (Int32.toNatClampNeg (x (l0 + 2) (Int32.toNatClampNeg (((x l0 13) + l1) + 1))))), .int 0]) (c_Mo_push (d := d + 3) h_l0 e12) d_Mo_pass_161 ck_Mo_166 (sh_Mo h_l0).2 (sh_Mo h_l0).1 ⟨_, rfl, rfl⟩ rfl rfl (Nat.le_of_ble_eq_true rfl) ?_
    refine jj_goto (tgt := 261) d_Mo_pass_164 rfl ?_
    exact jj_J.sub (t_Mo_pass_261 h_l0 h) (fun i v hi => jj_mask_ok [true, false, true, false, false, false] hi)
def k_Mo_pass_73 (l0 : Nat) (l1 : Int32) (l2 : Int32) (l3 : Int32) (l4 : Int32) (s0 : Int32) (x : jj_Mem) : Option (jj_Mem) :=
  if jj_inb 0 4 = true then if jj_inb 0 4 = true then (if l2 = 184 then jj_b2 (f_Mo_gives l0 l1 (jj_set x (l0 + 7) (Int32.toNatClampNeg 0) ((x (l0 + 7) (Int32.toNatClampNeg 0)) - l3))) (fun r4 x4 => (if r4 ≤ 0 then k_Mo_pass_134 l0 l1 l2 l4 s0 x4 else if jj_inb (((x4 l0 13) + l1) + 1) 240 = true then jj_b2 (f_Mo_methodAt l0 (x4 (l0 + 2) (Int32.toNatClampNeg (((x4 l0 13) + l1) + 1))) x4) (fun r7 x7 => jj_b2 (f_Mo_returnsOf l0 r7 x7) (fun r8 x8 => jj_b1 (f_Mo_push l0 0 r8 0 x8) (fun x9 => k_Mo_pass_261 l0 l2 x9))) else none)) else k_Mo_pass_134 l0 l1 l2 l4 s0 (jj_set x (l0 + 7) (Int32.toNatClampNeg 0) ((x (l0 + 7) (Int32.toNatClampNeg 0)) - l3))) else none else none
set_option maxHeartbeats 2000000 in
theorem t_Mo_pass_73 {X : jj_X} {d : Nat} {l0 : Nat} {l1 : Int32} {l2 : Int32} {l3 : Int32} {l4 : Int32} {s0 : Int32} (h_l0 : o_Mo l0) {x : jj_Mem} {q : jj_Mem} (h : k_Mo_pass_73 l0 l1 l2 l3 l4 s0 x = some q) : jj_J Y0 X (d + 4) m_Mo_pass 73 [some (.ref l0), some (.int l1), some (.int l2), some (.int l3), some (.int l4), none] [.int s0] x (jp_v q) := by
  unfold k_Mo_pass_73 at h
  refine jj_istore (lo' := [_, _, _, _, _, _]) d_Mo_pass_73 rfl (by decide) rfl ?_
  refine jj_aload_n d_Mo_pass_75 rfl ?_
  refine jj_getR d_Mo_pass_76 fk_Mo_28 (sh_Mo h_l0).2 (sh_Mo h_l0).1 rfl ?_
  refine jj_iconst d_Mo_pass_79 jc_i_0 ?_
  refine jj_aload_n d_Mo_pass_80 rfl ?_
  refine jj_getR d_Mo_pass_81 fk_Mo_28 (sh_Mo h_l0).2 (sh_Mo h_l0).1 rfl ?_
  refine jj_iconst d_Mo_pass_84 jc_i_0 ?_
  obtain ⟨i1, h⟩ := jj_gt h
  refine jj_iaload d_Mo_pass_85 rfl (ar_Mo_height h_l0).1 (ar_Mo_height h_l0).2 (jj_inn i1) rfl ?_
  refine jj_iload_n d_Mo_pass_86 rfl ?_
  refine jj_isub d_Mo_pass_87 ?_
  obtain ⟨i2, h⟩ := jj_gt h
  refine jj_iastore d_Mo_pass_88 rfl (ar_Mo_height h_l0).1 (ar_Mo_height h_l0).2 (jj_inn i2) ?_
  refine jj_iload_n d_Mo_pass_89 rfl ?_
  refine jj_sipush d_Mo_pass_90 jc_s_184 ?_
  refine jj_ic_ne (tgt := 134) d_Mo_pass_93 rfl (fun c3 => ?_) (fun c3 => ?_)
  · rw [if_neg c3] at h
    exact jj_J.sub (t_Mo_pass_134 h_l0 h) (fun i v hi => jj_mask_ok [true, true, true, false, true, true] hi)
  · rw [if_pos c3] at h
    refine jj_aload_n d_Mo_pass_96 rfl ?_
    refine jj_iload_n d_Mo_pass_97 rfl ?_
    obtain ⟨r4, x4, e4, h⟩ := jj_b2o h
    refine jj_callVi (as := [.int l1]) (c_Mo_gives (d := d + 1) h_l0 e4) d_Mo_pass_98 ck_Mo_157 (sh_Mo h_l0).2 (sh_Mo h_l0).1 ⟨_, rfl, rfl⟩ rfl rfl (Nat.le_of_ble_eq_true rfl) ?_
    refine jj_if_le (tgt := 134) d_Mo_pass_101 rfl (fun c5 => ?_) (fun c5 => ?_)
    · rw [if_pos c5] at h
      exact jj_J.sub (t_Mo_pass_134 h_l0 h) (fun i v hi => jj_mask_ok [true, true, true, false, true, true] hi)
    · rw [if_neg c5] at h
      refine jj_aload_n d_Mo_pass_104 rfl ?_
      refine jj_iconst d_Mo_pass_105 jc_i_0 ?_
      refine jj_aload_n d_Mo_pass_106 rfl ?_
      refine jj_aload_n d_Mo_pass_107 rfl ?_
      refine jj_aload_n d_Mo_pass_108 rfl ?_
      refine jj_getR d_Mo_pass_109 fk_Mo_13 (sh_Mo h_l0).2 (sh_Mo h_l0).1 rfl ?_
      refine jj_aload_n d_Mo_pass_112 rfl ?_
      refine jj_getI d_Mo_pass_113 fk_Mo_139 (sh_Mo h_l0).2 (sh_Mo h_l0).1 rfl rfl ?_
      refine jj_iload_n d_Mo_pass_116 rfl ?_
      refine jj_iadd d_Mo_pass_117 ?_
      refine jj_iconst d_Mo_pass_118 jc_i_1 ?_
      refine jj_iadd d_Mo_pass_119 ?_
      obtain ⟨i6, h⟩ := jj_gt h
      refine jj_iaload d_Mo_pass_120 rfl (ar_Mo_kept h_l0).1 (ar_Mo_kept h_l0).2 (jj_inn i6) rfl ?_
      obtain ⟨r7, x7, e7, h⟩ := jj_b2o h
      refine jj_callVi (as := [.int (x4 (l0 + 2) (Int32.toNatClampNeg (((x4 l0 13) + l1) + 1)))]) (c_Mo_methodAt (d := d + 2) h_l0 e7) d_Mo_pass_121 ck_Mo_121 (sh_Mo h_l0).2 (sh_Mo h_l0).1 ⟨_, rfl, rfl⟩ rfl rfl (Nat.le_of_ble_eq_true rfl) ?_
      obtain ⟨r8, x8, e8, h⟩ := jj_b2o h
      refine jj_callVi (as := [.int r7]) (c_Mo_returnsOf (d := d + 3) h_l0 e8) d_Mo_pass_124 ck_Mo_148 (sh_Mo h_l0).2 (sh_Mo h_l0).1 ⟨_, rfl, rfl⟩ rfl rfl (Nat.le_of_ble_eq_true rfl) ?_
      refine jj_iconst d_Mo_pass_127 jc_i_0 ?_
      obtain ⟨x9, e9, h⟩ := jj_b1o h
      refine jj_callVv (as := [.int 0, .int r8, .int 0]) (c_Mo_push (d := d + 3) h_l0 e9) d_Mo_pass_128 ck_Mo_166 (sh_Mo h_l0).2 (sh_Mo h_l0).1 ⟨_, rfl, rfl⟩ rfl rfl (Nat.le_of_ble_eq_true rfl) ?_
      refine jj_goto (tgt := 261) d_Mo_pass_131 rfl ?_
      exact jj_J.sub (t_Mo_pass_261 h_l0 h) (fun i v hi => jj_mask_ok [true, false, true, false, false, false] hi)
def k_Mo_pass_44 (l0 : Nat) (l1 : Int32) (l2 : Int32) (l3 : Int32) (s0 : Int32) (x : jj_Mem) : Option (jj_Mem) :=
  if jj_inb 0 4 = true then (if (x (l0 + 7) (Int32.toNatClampNeg 0)) ≤ 1 then k_Mo_pass_73 l0 l1 l2 l3 s0 0 x else if jj_inb 0 4 = true then if jj_inb ((x (l0 + 7) (Int32.toNatClampNeg 0)) - 2) 24 = true then k_Mo_pass_73 l0 l1 l2 l3 s0 (x (l0 + 5) (Int32.toNatClampNeg ((x (l0 + 7) (Int32.toNatClampNeg 0)) - 2))) x else none else none) else none
set_option maxHeartbeats 2000000 in
theorem t_Mo_pass_44 {X : jj_X} {d : Nat} {l0 : Nat} {l1 : Int32} {l2 : Int32} {l3 : Int32} {s0 : Int32} (h_l0 : o_Mo l0) {x : jj_Mem} {q : jj_Mem} (h : k_Mo_pass_44 l0 l1 l2 l3 s0 x = some q) : jj_J Y0 X (d + 4) m_Mo_pass 44 [some (.ref l0), some (.int l1), some (.int l2), some (.int l3), none, none] [.int s0] x (jp_v q) := by
  unfold k_Mo_pass_44 at h
  refine jj_istore (lo' := [_, _, _, _, _, _]) d_Mo_pass_44 rfl (by decide) rfl ?_
  refine jj_aload_n d_Mo_pass_46 rfl ?_
  refine jj_getR d_Mo_pass_47 fk_Mo_28 (sh_Mo h_l0).2 (sh_Mo h_l0).1 rfl ?_
  refine jj_iconst d_Mo_pass_50 jc_i_0 ?_
  obtain ⟨i1, h⟩ := jj_gt h
  refine jj_iaload d_Mo_pass_51 rfl (ar_Mo_height h_l0).1 (ar_Mo_height h_l0).2 (jj_inn i1) rfl ?_
  refine jj_iconst d_Mo_pass_52 jc_i_1 ?_
  refine jj_ic_le (tgt := 72) d_Mo_pass_53 rfl (fun c2 => ?_) (fun c2 => ?_)
  · rw [if_pos c2] at h
    refine jj_iconst d_Mo_pass_72 jc_i_0 ?_
    exact jj_J.sub (t_Mo_pass_73 h_l0 h) (fun i v hi => jj_mask_ok [true, true, true, true, true, false] hi)
  · rw [if_neg c2] at h
    refine jj_aload_n d_Mo_pass_56 rfl ?_
    refine jj_getR d_Mo_pass_57 fk_Mo_22 (sh_Mo h_l0).2 (sh_Mo h_l0).1 rfl ?_
    refine jj_aload_n d_Mo_pass_60 rfl ?_
    refine jj_getR d_Mo_pass_61 fk_Mo_28 (sh_Mo h_l0).2 (sh_Mo h_l0).1 rfl ?_
    refine jj_iconst d_Mo_pass_64 jc_i_0 ?_
    obtain ⟨i3, h⟩ := jj_gt h
    refine jj_iaload d_Mo_pass_65 rfl (ar_Mo_height h_l0).1 (ar_Mo_height h_l0).2 (jj_inn i3) rfl ?_
    refine jj_iconst d_Mo_pass_66 jc_i_2 ?_
    refine jj_isub d_Mo_pass_67 ?_
    obtain ⟨i4, h⟩ := jj_gt h
    refine jj_iaload d_Mo_pass_68 rfl (ar_Mo_stackKind h_l0).1 (ar_Mo_stackKind h_l0).2 (jj_inn i4) rfl ?_
    refine jj_goto (tgt := 73) d_Mo_pass_69 rfl ?_
    exact jj_J.sub (t_Mo_pass_73 h_l0 h) (fun i v hi => jj_mask_ok [true, true, true, true, true, false] hi)
def f_Mo_pass (this : Nat) (a1 : Int32) (x : jj_Mem) : Option (jj_Mem) :=
  if jj_inb ((x this 13) + a1) 240 = true then jj_b2 (f_Mo_takes this a1 x) (fun r2 x2 => if jj_inb 0 4 = true then (if (x2 (this + 7) (Int32.toNatClampNeg 0)) ≤ 0 then k_Mo_pass_44 this a1 (x (this + 2) (Int32.toNatClampNeg ((x this 13) + a1))) r2 0 x2 else if jj_inb 0 4 = true then if jj_inb ((x2 (this + 7) (Int32.toNatClampNeg 0)) - 1) 24 = true then k_Mo_pass_44 this a1 (x (this + 2) (Int32.toNatClampNeg ((x this 13) + a1))) r2 (x2 (this + 5) (Int32.toNatClampNeg ((x2 (this + 7) (Int32.toNatClampNeg 0)) - 1))) x2 else none else none) else none) else none
set_option maxHeartbeats 2000000 in
theorem t_Mo_pass_0 {X : jj_X} {d : Nat} {this : Nat} {a1 : Int32} (h_this : o_Mo this) {x : jj_Mem} {q : jj_Mem} (h : f_Mo_pass this a1 x = some q) : jj_J Y0 X (d + 4) m_Mo_pass 0 [some (.ref this), some (.int a1), none, none, none, none] [] x (jp_v q) := by
  unfold f_Mo_pass at h
  refine jj_aload_n d_Mo_pass_0 rfl ?_
  refine jj_getR d_Mo_pass_1 fk_Mo_13 (sh_Mo h_this).2 (sh_Mo h_this).1 rfl ?_
  refine jj_aload_n d_Mo_pass_4 rfl ?_
  refine jj_getI d_Mo_pass_5 fk_Mo_139 (sh_Mo h_this).2 (sh_Mo h_this).1 rfl rfl ?_
  refine jj_iload_n d_Mo_pass_8 rfl ?_
  refine jj_iadd d_Mo_pass_9 ?_
  obtain ⟨i1, h⟩ := jj_gt h
  refine jj_iaload d_Mo_pass_10 rfl (ar_Mo_kept h_this).1 (ar_Mo_kept h_this).2 (jj_inn i1) rfl ?_
  refine jj_istore_n (lo' := [_, _, _, _, _, _]) d_Mo_pass_11 rfl (by decide) rfl ?_
  refine jj_aload_n d_Mo_pass_12 rfl ?_
  refine jj_iload_n d_Mo_pass_13 rfl ?_
  obtain ⟨r2, x2, e2, h⟩ := jj_b2o h
  refine jj_callVi (as := [.int a1]) (c_Mo_takes (d := d + 0) h_this e2) d_Mo_pass_14 ck_Mo_154 (sh_Mo h_this).2 (sh_Mo h_this).1 ⟨_, rfl, rfl⟩ rfl rfl (Nat.le_of_ble_eq_true rfl) ?_
  refine jj_istore_n (lo' := [_, _, _, _, _, _]) d_Mo_pass_17 rfl (by decide) rfl ?_
  refine jj_aload_n d_Mo_pass_18 rfl ?_
  refine jj_getR d_Mo_pass_19 fk_Mo_28 (sh_Mo h_this).2 (sh_Mo h_this).1 rfl ?_
  refine jj_iconst d_Mo_pass_22 jc_i_0 ?_
  obtain ⟨i3, h⟩ := jj_gt h
  refine jj_iaload d_Mo_pass_23 rfl (ar_Mo_height h_this).1 (ar_Mo_height h_this).2 (jj_inn i3) rfl ?_
  refine jj_if_le (tgt := 43) d_Mo_pass_24 rfl (fun c4 => ?_) (fun c4 => ?_)
  · rw [if_pos c4] at h
    refine jj_iconst d_Mo_pass_43 jc_i_0 ?_
    exact jj_J.sub (t_Mo_pass_44 h_this h) (fun i v hi => jj_mask_ok [true, true, true, true, false, false] hi)
  · rw [if_neg c4] at h
    refine jj_aload_n d_Mo_pass_27 rfl ?_
    refine jj_getR d_Mo_pass_28 fk_Mo_22 (sh_Mo h_this).2 (sh_Mo h_this).1 rfl ?_
    refine jj_aload_n d_Mo_pass_31 rfl ?_
    refine jj_getR d_Mo_pass_32 fk_Mo_28 (sh_Mo h_this).2 (sh_Mo h_this).1 rfl ?_
    refine jj_iconst d_Mo_pass_35 jc_i_0 ?_
    obtain ⟨i5, h⟩ := jj_gt h
    refine jj_iaload d_Mo_pass_36 rfl (ar_Mo_height h_this).1 (ar_Mo_height h_this).2 (jj_inn i5) rfl ?_
    refine jj_iconst d_Mo_pass_37 jc_i_1 ?_
    refine jj_isub d_Mo_pass_38 ?_
    obtain ⟨i6, h⟩ := jj_gt h
    refine jj_iaload d_Mo_pass_39 rfl (ar_Mo_stackKind h_this).1 (ar_Mo_stackKind h_this).2 (jj_inn i6) rfl ?_
    refine jj_goto (tgt := 44) d_Mo_pass_40 rfl ?_
    exact jj_J.sub (t_Mo_pass_44 h_this h) (fun i v hi => jj_mask_ok [true, true, true, true, false, false] hi)
theorem c_Mo_pass {X : jj_X} {d : Nat} {this : Nat} {a1 : Int32} (h_this : o_Mo this) {x : jj_Mem} {q : jj_Mem} (h : f_Mo_pass this a1 x = some q) : jj_Met Y0 X (d + 4) m_Mo_pass [.ref this, .int a1] x (jp_v q) :=
  jj_metp 4 (lo := [some (.ref this), some (.int a1), none, none, none, none]) rfl (Nat.le_of_ble_eq_true rfl) rfl (t_Mo_pass_0 h_this h)
