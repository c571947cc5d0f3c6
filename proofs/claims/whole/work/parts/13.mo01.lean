def k_Mo_become_53 (rec : Nat → List (Option Value) → jj_Mem → Option (jj_Mem)) (l0 : Nat) (l1 : Int32) (l2 : Int32) (x : jj_Mem) : Option (jj_Mem) :=
  if jj_inb 0 4 = true then (if (x (l0 + 7) (Int32.toNatClampNeg 0)) ≤ l2 then some (jj_set x l0 22 1) else if jj_inb (((l1 + 2) + (x l0 11)) + l2) 240 = true then if jj_inb l2 24 = true then rec 53 [some (.ref l0), some (.int l1), some (.int (l2 + 1))] (jj_set x (l0 + 5) (Int32.toNatClampNeg l2) (x (l0 + 2) (Int32.toNatClampNeg (((l1 + 2) + (x l0 11)) + l2)))) else none else none) else none
set_option maxHeartbeats 2000000 in
theorem t_Mo_become_53 {X : jj_X} {d : Nat} (rec : Nat → List (Option Value) → jj_Mem → Option (jj_Mem)) (hrec : ∀ (L : Nat) (lo : List (Option Value)) (x : jj_Mem) (q : jj_Mem), rec L lo x = some q → jj_J Y0 X (d + 0) m_Mo_become L lo [] x (jp_v q)) {l0 : Nat} {l1 : Int32} {l2 : Int32} (h_l0 : o_Mo l0) {x : jj_Mem} {q : jj_Mem} (h : k_Mo_become_53 rec l0 l1 l2 x = some q) : jj_J Y0 X (d + 0) m_Mo_become 53 [some (.ref l0), some (.int l1), some (.int l2)] [] x (jp_v q) := by
  unfold k_Mo_become_53 at h
  refine jj_iload_n d_Mo_become_53 rfl ?_
  refine jj_aload_n d_Mo_become_54 rfl ?_
  refine jj_getR d_Mo_become_55 fk_Mo_28 (sh_Mo h_l0).2 (sh_Mo h_l0).1 rfl ?_
  refine jj_iconst d_Mo_become_58 jc_i_0 ?_
  obtain ⟨i1, h⟩ := jj_gt h
  refine jj_iaload d_Mo_become_59 rfl (ar_Mo_height h_l0).1 (ar_Mo_height h_l0).2 (jj_inn i1) rfl ?_
  refine jj_ic_ge (tgt := 90) d_Mo_become_60 rfl (fun c2 => ?_) (fun c2 => ?_)
  · rw [if_pos c2] at h
    refine jj_aload_n d_Mo_become_90 rfl ?_
    refine jj_iconst d_Mo_become_91 jc_i_1 ?_
    refine jj_putZ d_Mo_become_92 pk_Mo_163 (sh_Mo h_l0).2 (sh_Mo h_l0).1 rfl (Or.inr rfl) ?_
    cases h
    exact jj_return d_Mo_become_95 rfl ⟨rfl, rfl⟩
  · rw [if_neg c2] at h
    refine jj_aload_n d_Mo_become_63 rfl ?_
    refine jj_getR d_Mo_become_64 fk_Mo_22 (sh_Mo h_l0).2 (sh_Mo h_l0).1 rfl ?_
    refine jj_iload_n d_Mo_become_67 rfl ?_
    refine jj_aload_n d_Mo_become_68 rfl ?_
    refine jj_getR d_Mo_become_69 fk_Mo_13 (sh_Mo h_l0).2 (sh_Mo h_l0).1 rfl ?_
    refine jj_iload_n d_Mo_become_72 rfl ?_
    refine jj_iconst d_Mo_become_73 jc_i_2 ?_
    refine jj_iadd d_Mo_become_74 ?_
    refine jj_aload_n d_Mo_become_75 rfl ?_
    refine jj_getI d_Mo_become_76 fk_Mo_133 (sh_Mo h_l0).2 (sh_Mo h_l0).1 rfl rfl ?_
    refine jj_iadd d_Mo_become_79 ?_
    refine jj_iload_n d_Mo_become_80 rfl ?_
    refine jj_iadd d_Mo_become_81 ?_
    obtain ⟨i3, h⟩ := jj_gt h
    refine jj_iaload d_Mo_become_82 rfl (ar_Mo_kept h_l0).1 (ar_Mo_kept h_l0).2 (jj_inn i3) rfl ?_
    obtain ⟨i4, h⟩ := jj_gt h
    refine jj_iastore d_Mo_become_83 rfl (ar_Mo_stackKind h_l0).1 (ar_Mo_stackKind h_l0).2 (jj_inn i4) ?_
    refine jj_iinc (lo' := [_, _, _]) (v := (l2 + 1)) d_Mo_become_84 rfl (jc_a_1 _) rfl (by decide) rfl ?_
    refine jj_goto (tgt := 53) d_Mo_become_87 rfl ?_
    exact jj_J.sub (hrec _ _ _ _ h) (fun i v hi => jj_mask_ok [true, true, true] hi)
def k_Mo_become_2 (rec : Nat → List (Option Value) → jj_Mem → Option (jj_Mem)) (l0 : Nat) (l1 : Int32) (l2 : Int32) (x : jj_Mem) : Option (jj_Mem) :=
  (if (x l0 11) ≤ l2 then if jj_inb ((l1 + 1) + (x l0 11)) 240 = true then if jj_inb 0 4 = true then rec 53 [some (.ref l0), some (.int l1), some (.int 0)] (jj_set x (l0 + 7) (Int32.toNatClampNeg 0) (x (l0 + 2) (Int32.toNatClampNeg ((l1 + 1) + (x l0 11))))) else none else none else if jj_inb ((l1 + 1) + l2) 240 = true then if jj_inb l2 24 = true then rec 2 [some (.ref l0), some (.int l1), some (.int (l2 + 1))] (jj_set x (l0 + 3) (Int32.toNatClampNeg l2) (x (l0 + 2) (Int32.toNatClampNeg ((l1 + 1) + l2)))) else none else none)
set_option maxHeartbeats 2000000 in
theorem t_Mo_become_2 {X : jj_X} {d : Nat} (rec : Nat → List (Option Value) → jj_Mem → Option (jj_Mem)) (hrec : ∀ (L : Nat) (lo : List (Option Value)) (x : jj_Mem) (q : jj_Mem), rec L lo x = some q → jj_J Y0 X (d + 0) m_Mo_become L lo [] x (jp_v q)) {l0 : Nat} {l1 : Int32} {l2 : Int32} (h_l0 : o_Mo l0) {x : jj_Mem} {q : jj_Mem} (h : k_Mo_become_2 rec l0 l1 l2 x = some q) : jj_J Y0 X (d + 0) m_Mo_become 2 [some (.ref l0), some (.int l1), some (.int l2)] [] x (jp_v q) := by
  unfold k_Mo_become_2 at h
  refine jj_iload_n d_Mo_become_2 rfl ?_
  refine jj_aload_n d_Mo_become_3 rfl ?_
  refine jj_getI d_Mo_become_4 fk_Mo_133 (sh_Mo h_l0).2 (sh_Mo h_l0).1 rfl rfl ?_
  refine jj_ic_ge (tgt := 32) d_Mo_become_7 rfl (fun c1 => ?_) (fun c1 => ?_)
  · rw [if_pos c1] at h
    refine jj_aload_n d_Mo_become_32 rfl ?_
    refine jj_getR d_Mo_become_33 fk_Mo_28 (sh_Mo h_l0).2 (sh_Mo h_l0).1 rfl ?_
    refine jj_iconst d_Mo_become_36 jc_i_0 ?_
    refine jj_aload_n d_Mo_become_37 rfl ?_
    refine jj_getR d_Mo_become_38 fk_Mo_13 (sh_Mo h_l0).2 (sh_Mo h_l0).1 rfl ?_
    refine jj_iload_n d_Mo_become_41 rfl ?_
    refine jj_iconst d_Mo_become_42 jc_i_1 ?_
    refine jj_iadd d_Mo_become_43 ?_
    refine jj_aload_n d_Mo_become_44 rfl ?_
    refine jj_getI d_Mo_become_45 fk_Mo_133 (sh_Mo h_l0).2 (sh_Mo h_l0).1 rfl rfl ?_
    refine jj_iadd d_Mo_become_48 ?_
    obtain ⟨i2, h⟩ := jj_gt h
    refine jj_iaload d_Mo_become_49 rfl (ar_Mo_kept h_l0).1 (ar_Mo_kept h_l0).2 (jj_inn i2) rfl ?_
    obtain ⟨i3, h⟩ := jj_gt h
    refine jj_iastore d_Mo_become_50 rfl (ar_Mo_height h_l0).1 (ar_Mo_height h_l0).2 (jj_inn i3) ?_
    refine jj_iconst d_Mo_become_51 jc_i_0 ?_
    refine jj_istore_n (lo' := [_, _, _]) d_Mo_become_52 rfl (by decide) rfl ?_
    exact jj_J.sub (hrec _ _ _ _ h) (fun i v hi => jj_mask_ok [true, true, true] hi)
  · rw [if_neg c1] at h
    refine jj_aload_n d_Mo_become_10 rfl ?_
    refine jj_getR d_Mo_become_11 fk_Mo_16 (sh_Mo h_l0).2 (sh_Mo h_l0).1 rfl ?_
    refine jj_iload_n d_Mo_become_14 rfl ?_
    refine jj_aload_n d_Mo_become_15 rfl ?_
    refine jj_getR d_Mo_become_16 fk_Mo_13 (sh_Mo h_l0).2 (sh_Mo h_l0).1 rfl ?_
    refine jj_iload_n d_Mo_become_19 rfl ?_
    refine jj_iconst d_Mo_become_20 jc_i_1 ?_
    refine jj_iadd d_Mo_become_21 ?_
    refine jj_iload_n d_Mo_become_22 rfl ?_
    refine jj_iadd d_Mo_become_23 ?_
    obtain ⟨i4, h⟩ := jj_gt h
    refine jj_iaload d_Mo_become_24 rfl (ar_Mo_kept h_l0).1 (ar_Mo_kept h_l0).2 (jj_inn i4) rfl ?_
    obtain ⟨i5, h⟩ := jj_gt h
    refine jj_iastore d_Mo_become_25 rfl (ar_Mo_placeKind h_l0).1 (ar_Mo_placeKind h_l0).2 (jj_inn i5) ?_
    refine jj_iinc (lo' := [_, _, _]) (v := (l2 + 1)) d_Mo_become_26 rfl (jc_a_1 _) rfl (by decide) rfl ?_
    refine jj_goto (tgt := 2) d_Mo_become_29 rfl ?_
    exact jj_J.sub (hrec _ _ _ _ h) (fun i v hi => jj_mask_ok [true, true, true] hi)
def g_Mo_become : Nat → Nat → List (Option Value) → jj_Mem → Option (jj_Mem)
  | 0, _, _, _ => none
  | f + 1, L, lo, x => match L, lo with
    | 2, [some (.ref l0), some (.int l1), some (.int l2)] => if (bo_Mo l0) = true then k_Mo_become_2 (g_Mo_become f) l0 l1 l2 x else none
    | 53, [some (.ref l0), some (.int l1), some (.int l2)] => if (bo_Mo l0) = true then k_Mo_become_53 (g_Mo_become f) l0 l1 l2 x else none
    | _, _ => none
set_option maxHeartbeats 2000000 in
theorem t_Mo_become_g {X : jj_X} {d : Nat} : ∀ (f L : Nat) (lo : List (Option Value)) (x : jj_Mem) (q : jj_Mem), g_Mo_become f L lo x = some q → jj_J Y0 X (d + 0) m_Mo_become L lo [] x (jp_v q) := by
  intro f
  induction f with
  | zero => intro L lo x q h; simp [g_Mo_become] at h
  | succ f ih =>
    intro L lo x q h
    unfold g_Mo_become at h
    split at h
    · obtain ⟨i1, h⟩ := jj_gt h
      exact t_Mo_become_2 _ ih (ob_Mo i1) h
    · obtain ⟨i1, h⟩ := jj_gt h
      exact t_Mo_become_53 _ ih (ob_Mo i1) h
    · cases h
def k_Mo_become_0 (rec : Nat → List (Option Value) → jj_Mem → Option (jj_Mem)) (this : Nat) (a1 : Int32) (x : jj_Mem) : Option (jj_Mem) :=
  rec 2 [some (.ref this), some (.int a1), some (.int 0)] x
set_option maxHeartbeats 2000000 in
theorem t_Mo_become_0 {X : jj_X} {d : Nat} (rec : Nat → List (Option Value) → jj_Mem → Option (jj_Mem)) (hrec : ∀ (L : Nat) (lo : List (Option Value)) (x : jj_Mem) (q : jj_Mem), rec L lo x = some q → jj_J Y0 X (d + 0) m_Mo_become L lo [] x (jp_v q)) {this : Nat} {a1 : Int32} (h_this : o_Mo this) {x : jj_Mem} {q : jj_Mem} (h : k_Mo_become_0 rec this a1 x = some q) : jj_J Y0 X (d + 0) m_Mo_become 0 [some (.ref this), some (.int a1), none] [] x (jp_v q) := by
  unfold k_Mo_become_0 at h
  refine jj_iconst d_Mo_become_0 jc_i_0 ?_
  refine jj_istore_n (lo' := [_, _, _]) d_Mo_become_1 rfl (by decide) rfl ?_
  exact jj_J.sub (hrec _ _ _ _ h) (fun i v hi => jj_mask_ok [true, true, true] hi)
def f_Mo_become (this : Nat) (a1 : Int32) (x : jj_Mem) : Option (jj_Mem) := k_Mo_become_0 (g_Mo_become 1000) this a1 x
theorem c_Mo_become {X : jj_X} {d : Nat} {this : Nat} {a1 : Int32} (h_this : o_Mo this) {x : jj_Mem} {q : jj_Mem} (h : f_Mo_become this a1 x = some q) : jj_Met Y0 X (d + 0) m_Mo_become [.ref this, .int a1] x (jp_v q) :=
  jj_metp 1 (lo := [some (.ref this), some (.int a1), none]) rfl (Nat.le_of_ble_eq_true rfl) rfl (t_Mo_become_0 _ (t_Mo_become_g 1000) h_this h)
def k_Mo_begin_50 (rec : Nat → List (Option Value) → jj_Mem → Option (jj_Mem)) (l0 : Nat) (l1 : Int32) (l2 : Int32) (s0 : Nat) (s1 : Int32) (s2 : Int32) (x : jj_Mem) : Option (jj_Mem) :=
  if jj_inb s1 24 = true then if jj_inb ((6 * l1) + l2) 24 = true then rec 9 [some (.ref l0), some (.int l1), some (.int (l2 + 1))] (jj_set (jj_set x s0 (Int32.toNatClampNeg s1) s2) (l0 + 4) (Int32.toNatClampNeg ((6 * l1) + l2)) 0) else none else none
set_option maxHeartbeats 2000000 in
theorem t_Mo_begin_50 {X : jj_X} {d : Nat} (rec : Nat → List (Option Value) → jj_Mem → Option (jj_Mem)) (hrec : ∀ (L : Nat) (lo : List (Option Value)) (x : jj_Mem) (q : jj_Mem), rec L lo x = some q → jj_J Y0 X (d + 0) m_Mo_begin L lo [] x (jp_v q)) {l0 : Nat} {l1 : Int32} {l2 : Int32} {s0 : Nat} {s1 : Int32} {s2 : Int32} (h_l0 : o_Mo l0) (h_s0 : oA 0 24 s0) {x : jj_Mem} {q : jj_Mem} (h : k_Mo_begin_50 rec l0 l1 l2 s0 s1 s2 x = some q) : jj_J Y0 X (d + 0) m_Mo_begin 50 [some (.ref l0), some (.int l1), some (.int l2)] [.int s2, .int s1, .ref s0] x (jp_v q) := by
  unfold k_Mo_begin_50 at h
  obtain ⟨i1, h⟩ := jj_gt h
  refine jj_iastore d_Mo_begin_50 rfl h_s0.1 h_s0.2 (jj_inn i1) ?_
  refine jj_aload_n d_Mo_begin_51 rfl ?_
  refine jj_getR d_Mo_begin_52 fk_Mo_19 (sh_Mo h_l0).2 (sh_Mo h_l0).1 rfl ?_
  refine jj_bipush d_Mo_begin_55 jc_b_6 ?_
  refine jj_iload_n d_Mo_begin_57 rfl ?_
  refine jj_imul d_Mo_begin_58 ?_
  refine jj_iload_n d_Mo_begin_59 rfl ?_
  refine jj_iadd d_Mo_begin_60 ?_
  refine jj_iconst d_Mo_begin_61 jc_i_0 ?_
  obtain ⟨i2, h⟩ := jj_gt h
  refine jj_iastore d_Mo_begin_62 rfl (ar_Mo_placeValue h_l0).1 (ar_Mo_placeValue h_l0).2 (jj_inn i2) ?_
  refine jj_iinc (lo' := [_, _, _]) (v := (l2 + 1)) d_Mo_begin_63 rfl (jc_a_1 _) rfl (by decide) rfl ?_
  refine jj_goto (tgt := 9) d_Mo_begin_66 rfl ?_
  exact jj_J.sub (hrec _ _ _ _ h) (fun i v hi => jj_mask_ok [true, true, true] hi)
def k_Mo_begin_9 (rec : Nat → List (Option Value) → jj_Mem → Option (jj_Mem)) (l0 : Nat) (l1 : Int32) (l2 : Int32) (x : jj_Mem) : Option (jj_Mem) :=
  (if 6 ≤ l2 then some x else (if (x l0 9) ≤ l2 then k_Mo_begin_50 rec l0 l1 l2 (l0 + 3) ((6 * l1) + l2) 0 x else if jj_inb (((x l0 8) + 1) + l2) 240 = true then k_Mo_begin_50 rec l0 l1 l2 (l0 + 3) ((6 * l1) + l2) (x (l0 + 2) (Int32.toNatClampNeg (((x l0 8) + 1) + l2))) x else none))
set_option maxHeartbeats 2000000 in
theorem t_Mo_begin_9 {X : jj_X} {d : Nat} (rec : Nat → List (Option Value) → jj_Mem → Option (jj_Mem)) (hrec : ∀ (L : Nat) (lo : List (Option Value)) (x : jj_Mem) (q : jj_Mem), rec L lo x = some q → jj_J Y0 X (d + 0) m_Mo_begin L lo [] x (jp_v q)) {l0 : Nat} {l1 : Int32} {l2 : Int32} (h_l0 : o_Mo l0) {x : jj_Mem} {q : jj_Mem} (h : k_Mo_begin_9 rec l0 l1 l2 x = some q) : jj_J Y0 X (d + 0) m_Mo_begin 9 [some (.ref l0), some (.int l1), some (.int l2)] [] x (jp_v q) := by
  unfold k_Mo_begin_9 at h
  refine jj_iload_n d_Mo_begin_9 rfl ?_
  refine jj_bipush d_Mo_begin_10 jc_b_6 ?_
  refine jj_ic_ge (tgt := 69) d_Mo_begin_12 rfl (fun c1 => ?_) (fun c1 => ?_)
  · rw [if_pos c1] at h
    cases h
    exact jj_return d_Mo_begin_69 rfl ⟨rfl, rfl⟩
  · rw [if_neg c1] at h
    refine jj_aload_n d_Mo_begin_15 rfl ?_
    refine jj_getR d_Mo_begin_16 fk_Mo_16 (sh_Mo h_l0).2 (sh_Mo h_l0).1 rfl ?_
    refine jj_bipush d_Mo_begin_19 jc_b_6 ?_
    refine jj_iload_n d_Mo_begin_21 rfl ?_
    refine jj_imul d_Mo_begin_22 ?_
    refine jj_iload_n d_Mo_begin_23 rfl ?_
    refine jj_iadd d_Mo_begin_24 ?_
    refine jj_iload_n d_Mo_begin_25 rfl ?_
    refine jj_aload_n d_Mo_begin_26 rfl ?_
    refine jj_getI d_Mo_begin_27 fk_Mo_127 (sh_Mo h_l0).2 (sh_Mo h_l0).1 rfl rfl ?_
    refine jj_ic_ge (tgt := 49) d_Mo_begin_30 rfl (fun c2 => ?_) (fun c2 => ?_)
    · rw [if_pos c2] at h
      refine jj_iconst d_Mo_begin_49 jc_i_0 ?_
      exact jj_J.sub (t_Mo_begin_50 rec hrec h_l0 (ar_Mo_placeKind h_l0) h) (fun i v hi => jj_mask_ok [true, true, true] hi)
    · rw [if_neg c2] at h
      refine jj_aload_n d_Mo_begin_33 rfl ?_
      refine jj_getR d_Mo_begin_34 fk_Mo_13 (sh_Mo h_l0).2 (sh_Mo h_l0).1 rfl ?_
      refine jj_aload_n d_Mo_begin_37 rfl ?_
      refine jj_getI d_Mo_begin_38 fk_Mo_124 (sh_Mo h_l0).2 (sh_Mo h_l0).1 rfl rfl ?_
      refine jj_iconst d_Mo_begin_41 jc_i_1 ?_
      refine jj_iadd d_Mo_begin_42 ?_
      refine jj_iload_n d_Mo_begin_43 rfl ?_
      refine jj_iadd d_Mo_begin_44 ?_
      obtain ⟨i3, h⟩ := jj_gt h
      refine jj_iaload d_Mo_begin_45 rfl (ar_Mo_kept h_l0).1 (ar_Mo_kept h_l0).2 (jj_inn i3) rfl ?_
      refine jj_goto (tgt := 50) d_Mo_begin_46 rfl ?_
      exact jj_J.sub (t_Mo_begin_50 rec hrec h_l0 (ar_Mo_placeKind h_l0) h) (fun i v hi => jj_mask_ok [true, true, true] hi)
def g_Mo_begin : Nat → Nat → List (Option Value) → jj_Mem → Option (jj_Mem)
  | 0, _, _, _ => none
  | f + 1, L, lo, x => match L, lo with
    | 9, [some (.ref l0), some (.int l1), some (.int l2)] => if (bo_Mo l0) = true then k_Mo_begin_9 (g_Mo_begin f) l0 l1 l2 x else none
    | _, _ => none
set_option maxHeartbeats 2000000 in
theorem t_Mo_begin_g {X : jj_X} {d : Nat} : ∀ (f L : Nat) (lo : List (Option Value)) (x : jj_Mem) (q : jj_Mem), g_Mo_begin f L lo x = some q → jj_J Y0 X (d + 0) m_Mo_begin L lo [] x (jp_v q) := by
  intro f
  induction f with
  | zero => intro L lo x q h; simp [g_Mo_begin] at h
  | succ f ih =>
    intro L lo x q h
    unfold g_Mo_begin at h
    split at h
    · obtain ⟨i1, h⟩ := jj_gt h
      exact t_Mo_begin_9 _ ih (ob_Mo i1) h
    · cases h
def k_Mo_begin_0 (rec : Nat → List (Option Value) → jj_Mem → Option (jj_Mem)) (this : Nat) (a1 : Int32) (x : jj_Mem) : Option (jj_Mem) :=
  if jj_inb a1 4 = true then rec 9 [some (.ref this), some (.int a1), some (.int 0)] (jj_set x (this + 7) (Int32.toNatClampNeg a1) 0) else none
set_option maxHeartbeats 2000000 in
theorem t_Mo_begin_0 {X : jj_X} {d : Nat} (rec : Nat → List (Option Value) → jj_Mem → Option (jj_Mem)) (hrec : ∀ (L : Nat) (lo : List (Option Value)) (x : jj_Mem) (q : jj_Mem), rec L lo x = some q → jj_J Y0 X (d + 0) m_Mo_begin L lo [] x (jp_v q)) {this : Nat} {a1 : Int32} (h_this : o_Mo this) {x : jj_Mem} {q : jj_Mem} (h : k_Mo_begin_0 rec this a1 x = some q) : jj_J Y0 X (d + 0) m_Mo_begin 0 [some (.ref this), some (.int a1), none] [] x (jp_v q) := by
  unfold k_Mo_begin_0 at h
  refine jj_aload_n d_Mo_begin_0 rfl ?_
  refine jj_getR d_Mo_begin_1 fk_Mo_28 (sh_Mo h_this).2 (sh_Mo h_this).1 rfl ?_
  refine jj_iload_n d_Mo_begin_4 rfl ?_
  refine jj_iconst d_Mo_begin_5 jc_i_0 ?_
  obtain ⟨i1, h⟩ := jj_gt h
  refine jj_iastore d_Mo_begin_6 rfl (ar_Mo_height h_this).1 (ar_Mo_height h_this).2 (jj_inn i1) ?_
  refine jj_iconst d_Mo_begin_7 jc_i_0 ?_
  refine jj_istore_n (lo' := [_, _, _]) d_Mo_begin_8 rfl (by decide) rfl ?_
  exact jj_J.sub (hrec _ _ _ _ h) (fun i v hi => jj_mask_ok [true, true, true] hi)
def f_Mo_begin (this : Nat) (a1 : Int32) (x : jj_Mem) : Option (jj_Mem) := k_Mo_begin_0 (g_Mo_begin 1000) this a1 x
theorem c_Mo_begin {X : jj_X} {d : Nat} {this : Nat} {a1 : Int32} (h_this : o_Mo this) {x : jj_Mem} {q : jj_Mem} (h : f_Mo_begin this a1 x = some q) : jj_Met Y0 X (d + 0) m_Mo_begin [.ref this, .int a1] x (jp_v q) :=
  jj_metp 1 (lo := [some (.ref this), some (.int a1), none]) rfl (Nat.le_of_ble_eq_true rfl) rfl (t_Mo_begin_0 _ (t_Mo_begin_g 1000) h_this h)
def f_Mo_clear (this : Nat) (x : jj_Mem) : Option (jj_Mem) :=
  some (jj_set (jj_set x this 0 0) this 1 0)
set_option maxHeartbeats 2000000 in
theorem t_Mo_clear_0 {X : jj_X} {d : Nat} {this : Nat} (h_this : o_Mo this) {x : jj_Mem} {q : jj_Mem} (h : f_Mo_clear this x = some q) : jj_J Y0 X (d + 0) m_Mo_clear 0 [some (.ref this)] [] x (jp_v q) := by
  unfold f_Mo_clear at h
  refine jj_aload_n d_Mo_clear_0 rfl ?_
  refine jj_iconst d_Mo_clear_1 jc_i_0 ?_
  refine jj_putI d_Mo_clear_2 pk_Mo_43 (sh_Mo h_this).2 (sh_Mo h_this).1 rfl ?_
  refine jj_aload_n d_Mo_clear_5 rfl ?_
  refine jj_iconst d_Mo_clear_6 jc_i_0 ?_
  refine jj_putI d_Mo_clear_7 pk_Mo_61 (sh_Mo h_this).2 (sh_Mo h_this).1 rfl ?_
  cases h
  exact jj_return d_Mo_clear_10 rfl ⟨rfl, rfl⟩
theorem c_Mo_clear {X : jj_X} {d : Nat} {this : Nat} (h_this : o_Mo this) {x : jj_Mem} {q : jj_Mem} (h : f_Mo_clear this x = some q) : jj_Met Y0 X (d + 0) m_Mo_clear [.ref this] x (jp_v q) :=
  jj_metp 0 (lo := [some (.ref this)]) rfl (Nat.le_of_ble_eq_true rfl) rfl (t_Mo_clear_0 h_this h)
def f_Mo_codeOf (this : Nat) (a1 : Int32) (x : jj_Mem) : Option (Int32 × jj_Mem) :=
  if jj_inb a1 240 = true then some (((a1 + 5) + (x (this + 2) (Int32.toNatClampNeg a1))), x) else none
set_option maxHeartbeats 2000000 in
theorem t_Mo_codeOf_0 {X : jj_X} {d : Nat} {this : Nat} {a1 : Int32} (h_this : o_Mo this) {x : jj_Mem} {q : Int32 × jj_Mem} (h : f_Mo_codeOf this a1 x = some q) : jj_J Y0 X (d + 0) m_Mo_codeOf 0 [some (.ref this), some (.int a1)] [] x (jp_i q) := by
  unfold f_Mo_codeOf at h
  refine jj_iload_n d_Mo_codeOf_0 rfl ?_
  refine jj_iconst d_Mo_codeOf_1 jc_i_5 ?_
  refine jj_iadd d_Mo_codeOf_2 ?_
  refine jj_aload_n d_Mo_codeOf_3 rfl ?_
  refine jj_getR d_Mo_codeOf_4 fk_Mo_13 (sh_Mo h_this).2 (sh_Mo h_this).1 rfl ?_
  refine jj_iload_n d_Mo_codeOf_7 rfl ?_
  obtain ⟨i1, h⟩ := jj_gt h
  refine jj_iaload d_Mo_codeOf_8 rfl (ar_Mo_kept h_this).1 (ar_Mo_kept h_this).2 (jj_inn i1) rfl ?_
  refine jj_iadd d_Mo_codeOf_9 ?_
  cases h
  exact jj_ireturn d_Mo_codeOf_10 rfl ⟨rfl, rfl⟩
theorem c_Mo_codeOf {X : jj_X} {d : Nat} {this : Nat} {a1 : Int32} (h_this : o_Mo this) {x : jj_Mem} {q : Int32 × jj_Mem} (h : f_Mo_codeOf this a1 x = some q) : jj_Met Y0 X (d + 0) m_Mo_codeOf [.ref this, .int a1] x (jp_i q) :=
  jj_metp 0 (lo := [some (.ref this), some (.int a1)]) rfl (Nat.le_of_ble_eq_true rfl) rfl (t_Mo_codeOf_0 h_this h)
def k_Mo_constant_4 (rec : Nat → List (Option Value) → jj_Mem → Option (Int32 × jj_Mem)) (l0 : Nat) (l1 : Int32) (l2 : Int32) (l3 : Int32) (x : jj_Mem) : Option (Int32 × jj_Mem) :=
  (if 4 ≤ l3 then some (l2, x) else if jj_inb ((2 + (4 * l1)) + l3) 240 = true then rec 4 [some (.ref l0), some (.int l1), some (.int ((256 * l2) + (x (l0 + 2) (Int32.toNatClampNeg ((2 + (4 * l1)) + l3))))), some (.int (l3 + 1))] x else none)
set_option maxHeartbeats 2000000 in
theorem t_Mo_constant_4 {X : jj_X} {d : Nat} (rec : Nat → List (Option Value) → jj_Mem → Option (Int32 × jj_Mem)) (hrec : ∀ (L : Nat) (lo : List (Option Value)) (x : jj_Mem) (q : Int32 × jj_Mem), rec L lo x = some q → jj_J Y0 X (d + 0) m_Mo_constant L lo [] x (jp_i q)) {l0 : Nat} {l1 : Int32} {l2 : Int32} {l3 : Int32} (h_l0 : o_Mo l0) {x : jj_Mem} {q : Int32 × jj_Mem} (h : k_Mo_constant_4 rec l0 l1 l2 l3 x = some q) : jj_J Y0 X (d + 0) m_Mo_constant 4 [some (.ref l0), some (.int l1), some (.int l2), some (.int l3)] [] x (jp_i q) := by
  unfold k_Mo_constant_4 at h
  refine jj_iload_n d_Mo_constant_4 rfl ?_
  refine jj_iconst d_Mo_constant_5 jc_i_4 ?_
  refine jj_ic_ge (tgt := 34) d_Mo_constant_6 rfl (fun c1 => ?_) (fun c1 => ?_)
  · rw [if_pos c1] at h
    refine jj_iload_n d_Mo_constant_34 rfl ?_
    cases h
    exact jj_ireturn d_Mo_constant_35 rfl ⟨rfl, rfl⟩
  · rw [if_neg c1] at h
    refine jj_sipush d_Mo_constant_9 jc_s_256 ?_
    refine jj_iload_n d_Mo_constant_12 rfl ?_
    refine jj_imul d_Mo_constant_13 ?_
    refine jj_aload_n d_Mo_constant_14 rfl ?_
    refine jj_getR d_Mo_constant_15 fk_Mo_13 (sh_Mo h_l0).2 (sh_Mo h_l0).1 rfl ?_
    refine jj_iconst d_Mo_constant_18 jc_i_2 ?_
    refine jj_iconst d_Mo_constant_19 jc_i_4 ?_
    refine jj_iload_n d_Mo_constant_20 rfl ?_
    refine jj_imul d_Mo_constant_21 ?_
    refine jj_iadd d_Mo_constant_22 ?_
    refine jj_iload_n d_Mo_constant_23 rfl ?_
    refine jj_iadd d_Mo_constant_24 ?_
    obtain ⟨i2, h⟩ := jj_gt h
    refine jj_iaload d_Mo_constant_25 rfl (ar_Mo_kept h_l0).1 (ar_Mo_kept h_l0).2 (jj_inn i2) rfl ?_
    refine jj_iadd d_Mo_constant_26 ?_
    refine jj_istore_n (lo' := [_, _, _, _]) d_Mo_constant_27 rfl (by decide) rfl ?_
    refine jj_iinc (lo' := [_, _, _, _]) (v := (l3 + 1)) d_Mo_constant_28 rfl (jc_a_1 _) rfl (by decide) rfl ?_
    refine jj_goto (tgt := 4) d_Mo_constant_31 rfl ?_
    exact jj_J.sub (hrec _ _ _ _ h) (fun i v hi => jj_mask_ok [true, true, true, true] hi)
def g_Mo_constant : Nat → Nat → List (Option Value) → jj_Mem → Option (Int32 × jj_Mem)
  | 0, _, _, _ => none
  | f + 1, L, lo, x => match L, lo with
    | 4, [some (.ref l0), some (.int l1), some (.int l2), some (.int l3)] => if (bo_Mo l0) = true then k_Mo_constant_4 (g_Mo_constant f) l0 l1 l2 l3 x else none
    | _, _ => none
set_option maxHeartbeats 2000000 in
theorem t_Mo_constant_g {X : jj_X} {d : Nat} : ∀ (f L : Nat) (lo : List (Option Value)) (x : jj_Mem) (q : Int32 × jj_Mem), g_Mo_constant f L lo x = some q → jj_J Y0 X (d + 0) m_Mo_constant L lo [] x (jp_i q) := by
  intro f
  induction f with
  | zero => intro L lo x q h; simp [g_Mo_constant] at h
  | succ f ih =>
    intro L lo x q h
    unfold g_Mo_constant at h
    split at h
    · obtain ⟨i1, h⟩ := jj_gt h
      exact t_Mo_constant_4 _ ih (ob_Mo i1) h
    · cases h
def k_Mo_constant_0 (rec : Nat → List (Option Value) → jj_Mem → Option (Int32 × jj_Mem)) (this : Nat) (a1 : Int32) (x : jj_Mem) : Option (Int32 × jj_Mem) :=
  rec 4 [some (.ref this), some (.int a1), some (.int 0), some (.int 0)] x
set_option maxHeartbeats 2000000 in
theorem t_Mo_constant_0 {X : jj_X} {d : Nat} (rec : Nat → List (Option Value) → jj_Mem → Option (Int32 × jj_Mem)) (hrec : ∀ (L : Nat) (lo : List (Option Value)) (x : jj_Mem) (q : Int32 × jj_Mem), rec L lo x = some q → jj_J Y0 X (d + 0) m_Mo_constant L lo [] x (jp_i q)) {this : Nat} {a1 : Int32} (h_this : o_Mo this) {x : jj_Mem} {q : Int32 × jj_Mem} (h : k_Mo_constant_0 rec this a1 x = some q) : jj_J Y0 X (d + 0) m_Mo_constant 0 [some (.ref this), some (.int a1), none, none] [] x (jp_i q) := by
  unfold k_Mo_constant_0 at h
  refine jj_iconst d_Mo_constant_0 jc_i_0 ?_
  refine jj_istore_n (lo' := [_, _, _, _]) d_Mo_constant_1 rfl (by decide) rfl ?_
  refine jj_iconst d_Mo_constant_2 jc_i_0 ?_
  refine jj_istore_n (lo' := [_, _, _, _]) d_Mo_constant_3 rfl (by decide) rfl ?_
  exact jj_J.sub (hrec _ _ _ _ h) (fun i v hi => jj_mask_ok [true, true, true, true] hi)
def f_Mo_constant (this : Nat) (a1 : Int32) (x : jj_Mem) : Option (Int32 × jj_Mem) := k_Mo_constant_0 (g_Mo_constant 1000) this a1 x
theorem c_Mo_constant {X : jj_X} {d : Nat} {this : Nat} {a1 : Int32} (h_this : o_Mo this) {x : jj_Mem} {q : Int32 × jj_Mem} (h : f_Mo_constant this a1 x = some q) : jj_Met Y0 X (d + 0) m_Mo_constant [.ref this, .int a1] x (jp_i q) :=
  jj_metp 2 (lo := [some (.ref this), some (.int a1), none, none]) rfl (Nat.le_of_ble_eq_true rfl) rfl (t_Mo_constant_0 _ (t_Mo_constant_g 1000) h_this h)
def k_Mo_frame_84 (rec : Nat → List (Option Value) → jj_Mem → Option (Int32 × jj_Mem)) (l0 : Nat) (l1 : Int32) (l2 : Int32) (l3 : Int32) (l4 : Int32) (l6 : Int32) (s0 : Int32) (x : jj_Mem) : Option (Int32 × jj_Mem) :=
  if jj_inb ((l3 + 1) + (x l0 11)) 240 = true then rec 27 [some (.ref l0), some (.int l1), some (.int l2), some (.int ((((l3 + 1) + (x l0 11)) + 1) + (x (l0 + 2) (Int32.toNatClampNeg ((l3 + 1) + (x l0 11)))))), some (.int l4), some (.int s0), some (.int (l6 + 1)), none, none] x else none
set_option maxHeartbeats 2000000 in
theorem t_Mo_frame_84 {X : jj_X} {d : Nat} (rec : Nat → List (Option Value) → jj_Mem → Option (Int32 × jj_Mem)) (hrec : ∀ (L : Nat) (lo : List (Option Value)) (x : jj_Mem) (q : Int32 × jj_Mem), rec L lo x = some q → jj_J Y0 X (d + 0) m_Mo_frame L lo [] x (jp_i q)) {l0 : Nat} {l1 : Int32} {l2 : Int32} {l3 : Int32} {l4 : Int32} {l6 : Int32} {s0 : Int32} (h_l0 : o_Mo l0) {x : jj_Mem} {q : Int32 × jj_Mem} (h : k_Mo_frame_84 rec l0 l1 l2 l3 l4 l6 s0 x = some q) : jj_J Y0 X (d + 0) m_Mo_frame 84 [some (.ref l0), some (.int l1), some (.int l2), some (.int l3), some (.int l4), none, some (.int l6), none, none] [.int s0] x (jp_i q) := by
  unfold k_Mo_frame_84 at h
  refine jj_istore (lo' := [_, _, _, _, _, _, _, _, _]) d_Mo_frame_84 rfl (by decide) rfl ?_
  refine jj_iload_n d_Mo_frame_86 rfl ?_
  refine jj_iconst d_Mo_frame_87 jc_i_1 ?_
  refine jj_iadd d_Mo_frame_88 ?_
  refine jj_aload_n d_Mo_frame_89 rfl ?_
  refine jj_getI d_Mo_frame_90 fk_Mo_133 (sh_Mo h_l0).2 (sh_Mo h_l0).1 rfl rfl ?_
  refine jj_iadd d_Mo_frame_93 ?_
  refine jj_istore (lo' := [_, _, _, _, _, _, _, _, _]) d_Mo_frame_94 rfl (by decide) rfl ?_
  refine jj_iload d_Mo_frame_96 rfl ?_
  refine jj_iconst d_Mo_frame_98 jc_i_1 ?_
  refine jj_iadd d_Mo_frame_99 ?_
  refine jj_aload_n d_Mo_frame_100 rfl ?_
  refine jj_getR d_Mo_frame_101 fk_Mo_13 (sh_Mo h_l0).2 (sh_Mo h_l0).1 rfl ?_
  refine jj_iload d_Mo_frame_104 rfl ?_
  obtain ⟨i1, h⟩ := jj_gt h
  refine jj_iaload d_Mo_frame_106 rfl (ar_Mo_kept h_l0).1 (ar_Mo_kept h_l0).2 (jj_inn i1) rfl ?_
  refine jj_iadd d_Mo_frame_107 ?_
  refine jj_istore_n (lo' := [_, _, _, _, _, _, _, _, _]) d_Mo_frame_108 rfl (by decide) rfl ?_
  refine jj_iinc (lo' := [_, _, _, _, _, _, _, _, _]) (v := (l6 + 1)) d_Mo_frame_109 rfl (jc_a_1 _) rfl (by decide) rfl ?_
  refine jj_goto (tgt := 27) d_Mo_frame_112 rfl ?_
  exact jj_J.sub (hrec _ _ _ _ h) (fun i v hi => jj_mask_ok [true, true, true, true, true, true, true, false, false] hi)
def k_Mo_frame_71 (rec : Nat → List (Option Value) → jj_Mem → Option (Int32 × jj_Mem)) (l0 : Nat) (l1 : Int32) (l2 : Int32) (l3 : Int32) (l4 : Int32) (l5 : Int32) (l6 : Int32) (s0 : Int32) (x : jj_Mem) : Option (Int32 × jj_Mem) :=
  (if s0 = 0 then k_Mo_frame_84 rec l0 l1 l2 l3 l4 l6 l5 x else k_Mo_frame_84 rec l0 l1 l2 l3 l4 l6 l3 x)
set_option maxHeartbeats 2000000 in
theorem t_Mo_frame_71 {X : jj_X} {d : Nat} (rec : Nat → List (Option Value) → jj_Mem → Option (Int32 × jj_Mem)) (hrec : ∀ (L : Nat) (lo : List (Option Value)) (x : jj_Mem) (q : Int32 × jj_Mem), rec L lo x = some q → jj_J Y0 X (d + 0) m_Mo_frame L lo [] x (jp_i q)) {l0 : Nat} {l1 : Int32} {l2 : Int32} {l3 : Int32} {l4 : Int32} {l5 : Int32} {l6 : Int32} {s0 : Int32} (h_l0 : o_Mo l0) {x : jj_Mem} {q : Int32 × jj_Mem} (h : k_Mo_frame_71 rec l0 l1 l2 l3 l4 l5 l6 s0 x = some q) : jj_J Y0 X (d + 0) m_Mo_frame 71 [some (.ref l0), some (.int l1), some (.int l2), some (.int l3), some (.int l4), some (.int l5), some (.int l6), none, none] [.int s0] x (jp_i q) := by
  unfold k_Mo_frame_71 at h
  refine jj_istore (lo' := [_, _, _, _, _, _, _, _, _]) d_Mo_frame_71 rfl (by decide) rfl ?_
  refine jj_iload d_Mo_frame_73 rfl ?_
  refine jj_if_eq (tgt := 82) d_Mo_frame_75 rfl (fun c1 => ?_) (fun c1 => ?_)
  · rw [if_pos c1] at h
    refine jj_iload d_Mo_frame_82 rfl ?_
    exact jj_J.sub (t_Mo_frame_84 rec hrec h_l0 h) (fun i v hi => jj_mask_ok [true, true, true, true, true, false, true, false, false] hi)
  · rw [if_neg c1] at h
    refine jj_iload_n d_Mo_frame_78 rfl ?_
    refine jj_goto (tgt := 84) d_Mo_frame_79 rfl ?_
    exact jj_J.sub (t_Mo_frame_84 rec hrec h_l0 h) (fun i v hi => jj_mask_ok [true, true, true, true, true, false, true, false, false] hi)
def k_Mo_frame_27 (rec : Nat → List (Option Value) → jj_Mem → Option (Int32 × jj_Mem)) (l0 : Nat) (l1 : Int32) (l2 : Int32) (l3 : Int32) (l4 : Int32) (l5 : Int32) (l6 : Int32) (x : jj_Mem) : Option (Int32 × jj_Mem) :=
  (if l4 ≤ l6 then some (l5, x) else (if l2 = 0 then if jj_inb l3 240 = true then (if (x (l0 + 2) (Int32.toNatClampNeg l3)) = l1 then k_Mo_frame_71 rec l0 l1 l2 l3 l4 l5 l6 1 x else k_Mo_frame_71 rec l0 l1 l2 l3 l4 l5 l6 0 x) else none else if jj_inb l3 240 = true then (if l1 ≤ (x (l0 + 2) (Int32.toNatClampNeg l3)) then k_Mo_frame_71 rec l0 l1 l2 l3 l4 l5 l6 0 x else k_Mo_frame_71 rec l0 l1 l2 l3 l4 l5 l6 1 x) else none))
set_option maxHeartbeats 2000000 in
theorem t_Mo_frame_27 {X : jj_X} {d : Nat} (rec : Nat → List (Option Value) → jj_Mem → Option (Int32 × jj_Mem)) (hrec : ∀ (L : Nat) (lo : List (Option Value)) (x : jj_Mem) (q : Int32 × jj_Mem), rec L lo x = some q → jj_J Y0 X (d + 0) m_Mo_frame L lo [] x (jp_i q)) {l0 : Nat} {l1 : Int32} {l2 : Int32} {l3 : Int32} {l4 : Int32} {l5 : Int32} {l6 : Int32} (h_l0 : o_Mo l0) {x : jj_Mem} {q : Int32 × jj_Mem} (h : k_Mo_frame_27 rec l0 l1 l2 l3 l4 l5 l6 x = some q) : jj_J Y0 X (d + 0) m_Mo_frame 27 [some (.ref l0), some (.int l1), some (.int l2), some (.int l3), some (.int l4), some (.int l5), some (.int l6), none, none] [] x (jp_i q) := by
  unfold k_Mo_frame_27 at h
  refine jj_iload d_Mo_frame_27 rfl ?_
  refine jj_iload d_Mo_frame_29 rfl ?_
  refine jj_ic_ge (tgt := 115) d_Mo_frame_31 rfl (fun c1 => ?_) (fun c1 => ?_)
  · rw [if_pos c1] at h
    refine jj_iload d_Mo_frame_115 rfl ?_
    cases h
    exact jj_ireturn d_Mo_frame_117 rfl ⟨rfl, rfl⟩
  · rw [if_neg c1] at h
    refine jj_iload_n d_Mo_frame_34 rfl ?_
    refine jj_if_eq (tgt := 56) d_Mo_frame_35 rfl (fun c2 => ?_) (fun c2 => ?_)
    · rw [if_pos c2] at h
      refine jj_aload_n d_Mo_frame_56 rfl ?_
      refine jj_getR d_Mo_frame_57 fk_Mo_13 (sh_Mo h_l0).2 (sh_Mo h_l0).1 rfl ?_
      refine jj_iload_n d_Mo_frame_60 rfl ?_
      obtain ⟨i3, h⟩ := jj_gt h
      refine jj_iaload d_Mo_frame_61 rfl (ar_Mo_kept h_l0).1 (ar_Mo_kept h_l0).2 (jj_inn i3) rfl ?_
      refine jj_iload_n d_Mo_frame_62 rfl ?_
      refine jj_ic_ne (tgt := 70) d_Mo_frame_63 rfl (fun c4 => ?_) (fun c4 => ?_)
      · rw [if_neg c4] at h
        refine jj_iconst d_Mo_frame_70 jc_i_0 ?_
        exact jj_J.sub (t_Mo_frame_71 rec hrec h_l0 h) (fun i v hi => jj_mask_ok [true, true, true, true, true, true, true, false, false] hi)
      · rw [if_pos c4] at h
        refine jj_iconst d_Mo_frame_66 jc_i_1 ?_
        refine jj_goto (tgt := 71) d_Mo_frame_67 rfl ?_
        exact jj_J.sub (t_Mo_frame_71 rec hrec h_l0 h) (fun i v hi => jj_mask_ok [true, true, true, true, true, true, true, false, false] hi)
    · rw [if_neg c2] at h
      refine jj_aload_n d_Mo_frame_38 rfl ?_
      refine jj_getR d_Mo_frame_39 fk_Mo_13 (sh_Mo h_l0).2 (sh_Mo h_l0).1 rfl ?_
      refine jj_iload_n d_Mo_frame_42 rfl ?_
      obtain ⟨i5, h⟩ := jj_gt h
      refine jj_iaload d_Mo_frame_43 rfl (ar_Mo_kept h_l0).1 (ar_Mo_kept h_l0).2 (jj_inn i5) rfl ?_
      refine jj_iload_n d_Mo_frame_44 rfl ?_
      refine jj_ic_ge (tgt := 52) d_Mo_frame_45 rfl (fun c6 => ?_) (fun c6 => ?_)
      · rw [if_pos c6] at h
        refine jj_iconst d_Mo_frame_52 jc_i_0 ?_
        refine jj_goto (tgt := 71) d_Mo_frame_53 rfl ?_
        exact jj_J.sub (t_Mo_frame_71 rec hrec h_l0 h) (fun i v hi => jj_mask_ok [true, true, true, true, true, true, true, false, false] hi)
      · rw [if_neg c6] at h
        refine jj_iconst d_Mo_frame_48 jc_i_1 ?_
        refine jj_goto (tgt := 71) d_Mo_frame_49 rfl ?_
        exact jj_J.sub (t_Mo_frame_71 rec hrec h_l0 h) (fun i v hi => jj_mask_ok [true, true, true, true, true, true, true, false, false] hi)
def g_Mo_frame : Nat → Nat → List (Option Value) → jj_Mem → Option (Int32 × jj_Mem)
  | 0, _, _, _ => none
  | f + 1, L, lo, x => match L, lo with
    | 27, [some (.ref l0), some (.int l1), some (.int l2), some (.int l3), some (.int l4), some (.int l5), some (.int l6), none, none] => if (bo_Mo l0) = true then k_Mo_frame_27 (g_Mo_frame f) l0 l1 l2 l3 l4 l5 l6 x else none
    | _, _ => none
set_option maxHeartbeats 2000000 in
theorem t_Mo_frame_g {X : jj_X} {d : Nat} : ∀ (f L : Nat) (lo : List (Option Value)) (x : jj_Mem) (q : Int32 × jj_Mem), g_Mo_frame f L lo x = some q → jj_J Y0 X (d + 0) m_Mo_frame L lo [] x (jp_i q) := by
  intro f
  induction f with
  | zero => intro L lo x q h; simp [g_Mo_frame] at h
  | succ f ih =>
    intro L lo x q h
    unfold g_Mo_frame at h
    split at h
    · obtain ⟨i1, h⟩ := jj_gt h
      exact t_Mo_frame_27 _ ih (ob_Mo i1) h
    · cases h
def k_Mo_frame_0 (rec : Nat → List (Option Value) → jj_Mem → Option (Int32 × jj_Mem)) (this : Nat) (a1 : Int32) (a2 : Int32) (x : jj_Mem) : Option (Int32 × jj_Mem) :=
  if jj_inb ((x this 13) + (x this 12)) 240 = true then rec 27 [some (.ref this), some (.int a1), some (.int a2), some (.int (((x this 13) + (x this 12)) + 1)), some (.int (x (this + 2) (Int32.toNatClampNeg ((x this 13) + (x this 12))))), some (.int (-1)), some (.int 0), none, none] x else none
set_option maxHeartbeats 2000000 in
theorem t_Mo_frame_0 {X : jj_X} {d : Nat} (rec : Nat → List (Option Value) → jj_Mem → Option (Int32 × jj_Mem)) (hrec : ∀ (L : Nat) (lo : List (Option Value)) (x : jj_Mem) (q : Int32 × jj_Mem), rec L lo x = some q → jj_J Y0 X (d + 0) m_Mo_frame L lo [] x (jp_i q)) {this : Nat} {a1 : Int32} {a2 : Int32} (h_this : o_Mo this) {x : jj_Mem} {q : Int32 × jj_Mem} (h : k_Mo_frame_0 rec this a1 a2 x = some q) : jj_J Y0 X (d + 0) m_Mo_frame 0 [some (.ref this), some (.int a1), some (.int a2), none, none, none, none, none, none] [] x (jp_i q) := by
  unfold k_Mo_frame_0 at h
  refine jj_aload_n d_Mo_frame_0 rfl ?_
  refine jj_getI d_Mo_frame_1 fk_Mo_139 (sh_Mo h_this).2 (sh_Mo h_this).1 rfl rfl ?_
  refine jj_aload_n d_Mo_frame_4 rfl ?_
  refine jj_getI d_Mo_frame_5 fk_Mo_136 (sh_Mo h_this).2 (sh_Mo h_this).1 rfl rfl ?_
  refine jj_iadd d_Mo_frame_8 ?_
  refine jj_istore_n (lo' := [_, _, _, _, _, _, _, _, _]) d_Mo_frame_9 rfl (by decide) rfl ?_
  refine jj_aload_n d_Mo_frame_10 rfl ?_
  refine jj_getR d_Mo_frame_11 fk_Mo_13 (sh_Mo h_this).2 (sh_Mo h_this).1 rfl ?_
  refine jj_iload_n d_Mo_frame_14 rfl ?_
  obtain ⟨i1, h⟩ := jj_gt h
  refine jj_iaload d_Mo_frame_15 rfl (ar_Mo_kept h_this).1 (ar_Mo_kept h_this).2 (jj_inn i1) rfl ?_
  refine jj_istore (lo' := [_, _, _, _, _, _, _, _, _]) d_Mo_frame_16 rfl (by decide) rfl ?_
  refine jj_iconst d_Mo_frame_18 jc_i_m1 ?_
  refine jj_istore (lo' := [_, _, _, _, _, _, _, _, _]) d_Mo_frame_19 rfl (by decide) rfl ?_
  refine jj_iinc (lo' := [_, _, _, _, _, _, _, _, _]) (v := (((x this 13) + (x this 12)) + 1)) d_Mo_frame_21 rfl (jc_a_1 _) rfl (by decide) rfl ?_
  refine jj_iconst d_Mo_frame_24 jc_i_0 ?_
  refine jj_istore (lo' := [_, _, _, _, _, _, _, _, _]) d_Mo_frame_25 rfl (by decide) rfl ?_
  exact jj_J.sub (hrec _ _ _ _ h) (fun i v hi => jj_mask_ok [true, true, true, true, true, true, true, false, false] hi)
def f_Mo_frame (this : Nat) (a1 : Int32) (a2 : Int32) (x : jj_Mem) : Option (Int32 × jj_Mem) := k_Mo_frame_0 (g_Mo_frame 1000) this a1 a2 x
theorem c_Mo_frame {X : jj_X} {d : Nat} {this : Nat} {a1 : Int32} {a2 : Int32} (h_this : o_Mo this) {x : jj_Mem} {q : Int32 × jj_Mem} (h : f_Mo_frame this a1 a2 x = some q) : jj_Met Y0 X (d + 0) m_Mo_frame [.ref this, .int a1, .int a2] x (jp_i q) :=
  jj_metp 6 (lo := [some (.ref this), some (.int a1), some (.int a2), none, none, none, none, none, none]) rfl (Nat.le_of_ble_eq_true rfl) rfl (t_Mo_frame_0 _ (t_Mo_frame_g 1000) h_this h)
def k_Mo_goes_203 (s0 : Int32) (s1 : Int32) (x : jj_Mem) : Option (Int32 × jj_Mem) :=
  (if s0 = s1 then some (1, x) else some (0, x))
set_option maxHeartbeats 2000000 in
theorem t_Mo_goes_203 {X : jj_X} {d : Nat} {s0 : Int32} {s1 : Int32}  {x : jj_Mem} {q : Int32 × jj_Mem} (h : k_Mo_goes_203 s0 s1 x = some q) : jj_J Y0 X (d + 0) m_Mo_goes 203 [none, none, none, none, none, none, none, none] [.int s1, .int s0] x (jp_i q) := by
  unfold k_Mo_goes_203 at h
  refine jj_ic_ne (tgt := 210) d_Mo_goes_203 rfl (fun c1 => ?_) (fun c1 => ?_)
  · rw [if_neg c1] at h
    refine jj_iconst d_Mo_goes_210 jc_i_0 ?_
    cases h
    exact jj_zreturn d_Mo_goes_211 rfl (Or.inl rfl) ⟨rfl, rfl⟩
  · rw [if_pos c1] at h
    refine jj_iconst d_Mo_goes_206 jc_i_1 ?_
    refine jj_goto (tgt := 211) d_Mo_goes_207 rfl ?_
    cases h
    exact jj_zreturn d_Mo_goes_211 rfl (Or.inr rfl) ⟨rfl, rfl⟩
def k_Mo_goes_187 (l5 : Int32) (s0 : Int32) (x : jj_Mem) : Option (Int32 × jj_Mem) :=
  if jj_nz 2 = true then (if (l5 - l5 / 2 * 2) = 0 then k_Mo_goes_203 s0 1 x else k_Mo_goes_203 s0 0 x) else none
set_option maxHeartbeats 2000000 in
theorem t_Mo_goes_187 {X : jj_X} {d : Nat} {l5 : Int32} {s0 : Int32}  {x : jj_Mem} {q : Int32 × jj_Mem} (h : k_Mo_goes_187 l5 s0 x = some q) : jj_J Y0 X (d + 0) m_Mo_goes 187 [none, none, none, none, none, some (.int l5), none, none] [.int s0] x (jp_i q) := by
  unfold k_Mo_goes_187 at h
  refine jj_istore (lo' := [_, _, _, _, _, _, _, _]) d_Mo_goes_187 rfl (by decide) rfl ?_
  refine jj_iload d_Mo_goes_189 rfl ?_
  refine jj_iload d_Mo_goes_191 rfl ?_
  refine jj_iconst d_Mo_goes_193 jc_i_2 ?_
  obtain ⟨i1, h⟩ := jj_gt h
  refine jj_irem d_Mo_goes_194 (jj_nzo i1) ?_
  refine jj_if_ne (tgt := 202) d_Mo_goes_195 rfl (fun c2 => ?_) (fun c2 => ?_)
  · rw [if_neg c2] at h
    refine jj_iconst d_Mo_goes_202 jc_i_0 ?_
    exact jj_J.sub (t_Mo_goes_203  h) (fun i v hi => jj_mask_ok [false, false, false, false, false, false, false, false] hi)
  · rw [if_pos c2] at h
    refine jj_iconst d_Mo_goes_198 jc_i_1 ?_
    refine jj_goto (tgt := 203) d_Mo_goes_199 rfl ?_
    exact jj_J.sub (t_Mo_goes_203  h) (fun i v hi => jj_mask_ok [false, false, false, false, false, false, false, false] hi)
def k_Mo_goes_135 (l3 : Int32) (l4 : Int32) (l5 : Int32) (s0 : Int32) (x : jj_Mem) : Option (Int32 × jj_Mem) :=
  (if 2 ≤ l5 then (if s0 = 0 then (if l3 ≤ l4 then k_Mo_goes_187 l5 0 x else k_Mo_goes_187 l5 1 x) else (if l4 ≤ l3 then k_Mo_goes_187 l5 0 x else k_Mo_goes_187 l5 1 x)) else (if l3 = l4 then k_Mo_goes_187 l5 1 x else k_Mo_goes_187 l5 0 x))
set_option maxHeartbeats 2000000 in
theorem t_Mo_goes_135 {X : jj_X} {d : Nat} {l3 : Int32} {l4 : Int32} {l5 : Int32} {s0 : Int32}  {x : jj_Mem} {q : Int32 × jj_Mem} (h : k_Mo_goes_135 l3 l4 l5 s0 x = some q) : jj_J Y0 X (d + 0) m_Mo_goes 135 [none, none, none, some (.int l3), some (.int l4), some (.int l5), none, none] [.int s0] x (jp_i q) := by
  unfold k_Mo_goes_135 at h
  refine jj_istore (lo' := [_, _, _, _, _, _, _, _]) d_Mo_goes_135 rfl (by decide) rfl ?_
  refine jj_iload d_Mo_goes_137 rfl ?_
  refine jj_iconst d_Mo_goes_139 jc_i_2 ?_
  refine jj_ic_ge (tgt := 157) d_Mo_goes_140 rfl (fun c1 => ?_) (fun c1 => ?_)
  · rw [if_pos c1] at h
    refine jj_iload d_Mo_goes_157 rfl ?_
    refine jj_if_eq (tgt := 176) d_Mo_goes_159 rfl (fun c2 => ?_) (fun c2 => ?_)
    · rw [if_pos c2] at h
      refine jj_iload_n d_Mo_goes_176 rfl ?_
      refine jj_iload d_Mo_goes_177 rfl ?_
      refine jj_ic_le (tgt := 186) d_Mo_goes_179 rfl (fun c3 => ?_) (fun c3 => ?_)
      · rw [if_pos c3] at h
        refine jj_iconst d_Mo_goes_186 jc_i_0 ?_
        exact jj_J.sub (t_Mo_goes_187  h) (fun i v hi => jj_mask_ok [false, false, false, false, false, true, false, false] hi)
      · rw [if_neg c3] at h
        refine jj_iconst d_Mo_goes_182 jc_i_1 ?_
        refine jj_goto (tgt := 187) d_Mo_goes_183 rfl ?_
        exact jj_J.sub (t_Mo_goes_187  h) (fun i v hi => jj_mask_ok [false, false, false, false, false, true, false, false] hi)
    · rw [if_neg c2] at h
      refine jj_iload_n d_Mo_goes_162 rfl ?_
      refine jj_iload d_Mo_goes_163 rfl ?_
      refine jj_ic_ge (tgt := 172) d_Mo_goes_165 rfl (fun c4 => ?_) (fun c4 => ?_)
      · rw [if_pos c4] at h
        refine jj_iconst d_Mo_goes_172 jc_i_0 ?_
        refine jj_goto (tgt := 187) d_Mo_goes_173 rfl ?_
        exact jj_J.sub (t_Mo_goes_187  h) (fun i v hi => jj_mask_ok [false, false, false, false, false, true, false, false] hi)
      · rw [if_neg c4] at h
        refine jj_iconst d_Mo_goes_168 jc_i_1 ?_
        refine jj_goto (tgt := 187) d_Mo_goes_169 rfl ?_
        exact jj_J.sub (t_Mo_goes_187  h) (fun i v hi => jj_mask_ok [false, false, false, false, false, true, false, false] hi)
  · rw [if_neg c1] at h
    refine jj_iload_n d_Mo_goes_143 rfl ?_
    refine jj_iload d_Mo_goes_144 rfl ?_
    refine jj_ic_ne (tgt := 153) d_Mo_goes_146 rfl (fun c5 => ?_) (fun c5 => ?_)
    · rw [if_neg c5] at h
      refine jj_iconst d_Mo_goes_153 jc_i_0 ?_
      refine jj_goto (tgt := 187) d_Mo_goes_154 rfl ?_
      exact jj_J.sub (t_Mo_goes_187  h) (fun i v hi => jj_mask_ok [false, false, false, false, false, true, false, false] hi)
    · rw [if_pos c5] at h
      refine jj_iconst d_Mo_goes_149 jc_i_1 ?_
      refine jj_goto (tgt := 187) d_Mo_goes_150 rfl ?_
      exact jj_J.sub (t_Mo_goes_187  h) (fun i v hi => jj_mask_ok [false, false, false, false, false, true, false, false] hi)
def k_Mo_goes_130 (l3 : Int32) (l4 : Int32) (l5 : Int32) (x : jj_Mem) : Option (Int32 × jj_Mem) :=
  k_Mo_goes_135 l3 l4 l5 1 x
set_option maxHeartbeats 2000000 in
theorem t_Mo_goes_130 {X : jj_X} {d : Nat} {l3 : Int32} {l4 : Int32} {l5 : Int32}  {x : jj_Mem} {q : Int32 × jj_Mem} (h : k_Mo_goes_130 l3 l4 l5 x = some q) : jj_J Y0 X (d + 0) m_Mo_goes 130 [none, none, none, some (.int l3), some (.int l4), some (.int l5), none, none] [] x (jp_i q) := by
  unfold k_Mo_goes_130 at h
  refine jj_iconst d_Mo_goes_130 jc_i_1 ?_
  refine jj_goto (tgt := 135) d_Mo_goes_131 rfl ?_
  exact jj_J.sub (t_Mo_goes_135  h) (fun i v hi => jj_mask_ok [false, false, false, true, true, true, false, false] hi)
def k_Mo_goes_116 (l3 : Int32) (l4 : Int32) (s0 : Int32) (x : jj_Mem) : Option (Int32 × jj_Mem) :=
  (if s0 = 2 then k_Mo_goes_130 l3 l4 s0 x else (if s0 = 3 then k_Mo_goes_130 l3 l4 s0 x else k_Mo_goes_135 l3 l4 s0 0 x))
set_option maxHeartbeats 2000000 in
theorem t_Mo_goes_116 {X : jj_X} {d : Nat} {l3 : Int32} {l4 : Int32} {s0 : Int32}  {x : jj_Mem} {q : Int32 × jj_Mem} (h : k_Mo_goes_116 l3 l4 s0 x = some q) : jj_J Y0 X (d + 0) m_Mo_goes 116 [none, none, none, some (.int l3), some (.int l4), none, none, none] [.int s0] x (jp_i q) := by
  unfold k_Mo_goes_116 at h
  refine jj_istore (lo' := [_, _, _, _, _, _, _, _]) d_Mo_goes_116 rfl (by decide) rfl ?_
  refine jj_iload d_Mo_goes_118 rfl ?_
  refine jj_iconst d_Mo_goes_120 jc_i_2 ?_
  refine jj_ic_eq (tgt := 130) d_Mo_goes_121 rfl (fun c1 => ?_) (fun c1 => ?_)
  · rw [if_pos c1] at h
    exact jj_J.sub (t_Mo_goes_130  h) (fun i v hi => jj_mask_ok [false, false, false, true, true, true, false, false] hi)
  · rw [if_neg c1] at h
    refine jj_iload d_Mo_goes_124 rfl ?_
    refine jj_iconst d_Mo_goes_126 jc_i_3 ?_
    refine jj_ic_ne (tgt := 134) d_Mo_goes_127 rfl (fun c2 => ?_) (fun c2 => ?_)
    · rw [if_neg c2] at h
      refine jj_iconst d_Mo_goes_134 jc_i_0 ?_
      exact jj_J.sub (t_Mo_goes_135  h) (fun i v hi => jj_mask_ok [false, false, false, true, true, true, false, false] hi)
    · rw [if_pos c2] at h
      exact jj_J.sub (t_Mo_goes_130  h) (fun i v hi => jj_mask_ok [false, false, false, true, true, true, false, false] hi)
def k_Mo_goes_94 (l1 : Int32) (l3 : Int32) (s0 : Int32) (x : jj_Mem) : Option (Int32 × jj_Mem) :=
  (if 159 ≤ l1 then k_Mo_goes_116 l3 s0 (l1 - 159) x else k_Mo_goes_116 l3 s0 (l1 - 153) x)
set_option maxHeartbeats 2000000 in
theorem t_Mo_goes_94 {X : jj_X} {d : Nat} {l1 : Int32} {l3 : Int32} {s0 : Int32}  {x : jj_Mem} {q : Int32 × jj_Mem} (h : k_Mo_goes_94 l1 l3 s0 x = some q) : jj_J Y0 X (d + 0) m_Mo_goes 94 [none, some (.int l1), none, some (.int l3), none, none, none, none] [.int s0] x (jp_i q) := by
  unfold k_Mo_goes_94 at h
  refine jj_istore (lo' := [_, _, _, _, _, _, _, _]) d_Mo_goes_94 rfl (by decide) rfl ?_
  refine jj_iload_n d_Mo_goes_96 rfl ?_
  refine jj_sipush d_Mo_goes_97 jc_s_159 ?_
  refine jj_ic_ge (tgt := 111) d_Mo_goes_100 rfl (fun c1 => ?_) (fun c1 => ?_)
  · rw [if_pos c1] at h
    refine jj_iload_n d_Mo_goes_111 rfl ?_
    refine jj_sipush d_Mo_goes_112 jc_s_159 ?_
    refine jj_isub d_Mo_goes_115 ?_
    exact jj_J.sub (t_Mo_goes_116  h) (fun i v hi => jj_mask_ok [false, false, false, true, true, false, false, false] hi)
  · rw [if_neg c1] at h
    refine jj_iload_n d_Mo_goes_103 rfl ?_
    refine jj_sipush d_Mo_goes_104 jc_s_153 ?_
    refine jj_isub d_Mo_goes_107 ?_
    refine jj_goto (tgt := 116) d_Mo_goes_108 rfl ?_
    exact jj_J.sub (t_Mo_goes_116  h) (fun i v hi => jj_mask_ok [false, false, false, true, true, false, false, false] hi)
def k_Mo_goes_76 (l0 : Nat) (l1 : Int32) (l2 : Int32) (s0 : Int32) (x : jj_Mem) : Option (Int32 × jj_Mem) :=
  (if 159 ≤ l1 then if jj_inb l2 24 = true then k_Mo_goes_94 l1 s0 (x (l0 + 6) (Int32.toNatClampNeg l2)) x else none else k_Mo_goes_94 l1 s0 0 x)
set_option maxHeartbeats 2000000 in
theorem t_Mo_goes_76 {X : jj_X} {d : Nat} {l0 : Nat} {l1 : Int32} {l2 : Int32} {s0 : Int32} (h_l0 : o_Mo l0) {x : jj_Mem} {q : Int32 × jj_Mem} (h : k_Mo_goes_76 l0 l1 l2 s0 x = some q) : jj_J Y0 X (d + 0) m_Mo_goes 76 [some (.ref l0), some (.int l1), some (.int l2), none, none, none, none, none] [.int s0] x (jp_i q) := by
  unfold k_Mo_goes_76 at h
  refine jj_istore_n (lo' := [_, _, _, _, _, _, _, _]) d_Mo_goes_76 rfl (by decide) rfl ?_
  refine jj_iload_n d_Mo_goes_77 rfl ?_
  refine jj_sipush d_Mo_goes_78 jc_s_159 ?_
  refine jj_ic_ge (tgt := 88) d_Mo_goes_81 rfl (fun c1 => ?_) (fun c1 => ?_)
  · rw [if_pos c1] at h
    refine jj_aload_n d_Mo_goes_88 rfl ?_
    refine jj_getR d_Mo_goes_89 fk_Mo_25 (sh_Mo h_l0).2 (sh_Mo h_l0).1 rfl ?_
    refine jj_iload_n d_Mo_goes_92 rfl ?_
    obtain ⟨i2, h⟩ := jj_gt h
    refine jj_iaload d_Mo_goes_93 rfl (ar_Mo_stackValue h_l0).1 (ar_Mo_stackValue h_l0).2 (jj_inn i2) rfl ?_
    exact jj_J.sub (t_Mo_goes_94  h) (fun i v hi => jj_mask_ok [false, true, false, true, false, false, false, false] hi)
  · rw [if_neg c1] at h
    refine jj_iconst d_Mo_goes_84 jc_i_0 ?_
    refine jj_goto (tgt := 94) d_Mo_goes_85 rfl ?_
    exact jj_J.sub (t_Mo_goes_94  h) (fun i v hi => jj_mask_ok [false, true, false, true, false, false, false, false] hi)
def k_Mo_goes_43 (s0 : Int32) (s1 : Int32) (x : jj_Mem) : Option (Int32 × jj_Mem) :=
  (if s0 = s1 then some (1, x) else some (0, x))
set_option maxHeartbeats 2000000 in
theorem t_Mo_goes_43 {X : jj_X} {d : Nat} {s0 : Int32} {s1 : Int32}  {x : jj_Mem} {q : Int32 × jj_Mem} (h : k_Mo_goes_43 s0 s1 x = some q) : jj_J Y0 X (d + 0) m_Mo_goes 43 [none, none, none, none, none, none, none, none] [.int s1, .int s0] x (jp_i q) := by
  unfold k_Mo_goes_43 at h
  refine jj_ic_ne (tgt := 50) d_Mo_goes_43 rfl (fun c1 => ?_) (fun c1 => ?_)
  · rw [if_neg c1] at h
    refine jj_iconst d_Mo_goes_50 jc_i_0 ?_
    cases h
    exact jj_zreturn d_Mo_goes_51 rfl (Or.inl rfl) ⟨rfl, rfl⟩
  · rw [if_pos c1] at h
    refine jj_iconst d_Mo_goes_46 jc_i_1 ?_
    refine jj_goto (tgt := 51) d_Mo_goes_47 rfl ?_
    cases h
    exact jj_zreturn d_Mo_goes_51 rfl (Or.inr rfl) ⟨rfl, rfl⟩
def k_Mo_goes_31 (l1 : Int32) (s0 : Int32) (x : jj_Mem) : Option (Int32 × jj_Mem) :=
  (if l1 = 198 then k_Mo_goes_43 s0 1 x else k_Mo_goes_43 s0 0 x)
set_option maxHeartbeats 2000000 in
theorem t_Mo_goes_31 {X : jj_X} {d : Nat} {l1 : Int32} {s0 : Int32}  {x : jj_Mem} {q : Int32 × jj_Mem} (h : k_Mo_goes_31 l1 s0 x = some q) : jj_J Y0 X (d + 0) m_Mo_goes 31 [none, some (.int l1), none, none, none, none, none, none] [.int s0] x (jp_i q) := by
  unfold k_Mo_goes_31 at h
  refine jj_iload_n d_Mo_goes_31 rfl ?_
  refine jj_sipush d_Mo_goes_32 jc_s_198 ?_
  refine jj_ic_ne (tgt := 42) d_Mo_goes_35 rfl (fun c1 => ?_) (fun c1 => ?_)
  · rw [if_neg c1] at h
    refine jj_iconst d_Mo_goes_42 jc_i_0 ?_
    exact jj_J.sub (t_Mo_goes_43  h) (fun i v hi => jj_mask_ok [false, false, false, false, false, false, false, false] hi)
  · rw [if_pos c1] at h
    refine jj_iconst d_Mo_goes_38 jc_i_1 ?_
    refine jj_goto (tgt := 43) d_Mo_goes_39 rfl ?_
    exact jj_J.sub (t_Mo_goes_43  h) (fun i v hi => jj_mask_ok [false, false, false, false, false, false, false, false] hi)
def f_Mo_goes (this : Nat) (a1 : Int32) (a2 : Int32) (x : jj_Mem) : Option (Int32 × jj_Mem) :=
  (if a1 = 167 then some (1, x) else (if a1 ≤ 167 then (if 159 ≤ a1 then if jj_inb (a2 - 1) 24 = true then k_Mo_goes_76 this a1 a2 (x (this + 6) (Int32.toNatClampNeg (a2 - 1))) x else none else if jj_inb a2 24 = true then k_Mo_goes_76 this a1 a2 (x (this + 6) (Int32.toNatClampNeg a2)) x else none) else if jj_inb a2 24 = true then (if (x (this + 5) (Int32.toNatClampNeg a2)) = 3 then k_Mo_goes_31 a1 1 x else k_Mo_goes_31 a1 0 x) else none))
set_option maxHeartbeats 2000000 in
theorem t_Mo_goes_0 {X : jj_X} {d : Nat} {this : Nat} {a1 : Int32} {a2 : Int32} (h_this : o_Mo this) {x : jj_Mem} {q : Int32 × jj_Mem} (h : f_Mo_goes this a1 a2 x = some q) : jj_J Y0 X (d + 0) m_Mo_goes 0 [some (.ref this), some (.int a1), some (.int a2), none, none, none, none, none] [] x (jp_i q) := by
  unfold f_Mo_goes at h
  refine jj_iload_n d_Mo_goes_0 rfl ?_
  refine jj_sipush d_Mo_goes_1 jc_s_167 ?_
  refine jj_ic_ne (tgt := 9) d_Mo_goes_4 rfl (fun c1 => ?_) (fun c1 => ?_)
  · rw [if_neg c1] at h
    refine jj_iload_n d_Mo_goes_9 rfl ?_
    refine jj_sipush d_Mo_goes_10 jc_s_167 ?_
    refine jj_ic_le (tgt := 52) d_Mo_goes_13 rfl (fun c2 => ?_) (fun c2 => ?_)
    · rw [if_pos c2] at h
      refine jj_iload_n d_Mo_goes_52 rfl ?_
      refine jj_sipush d_Mo_goes_53 jc_s_159 ?_
      refine jj_ic_ge (tgt := 68) d_Mo_goes_56 rfl (fun c3 => ?_) (fun c3 => ?_)
      · rw [if_pos c3] at h
        refine jj_aload_n d_Mo_goes_68 rfl ?_
        refine jj_getR d_Mo_goes_69 fk_Mo_25 (sh_Mo h_this).2 (sh_Mo h_this).1 rfl ?_
        refine jj_iload_n d_Mo_goes_72 rfl ?_
        refine jj_iconst d_Mo_goes_73 jc_i_1 ?_
        refine jj_isub d_Mo_goes_74 ?_
        obtain ⟨i4, h⟩ := jj_gt h
        refine jj_iaload d_Mo_goes_75 rfl (ar_Mo_stackValue h_this).1 (ar_Mo_stackValue h_this).2 (jj_inn i4) rfl ?_
        exact jj_J.sub (t_Mo_goes_76 h_this h) (fun i v hi => jj_mask_ok [true, true, true, false, false, false, false, false] hi)
      · rw [if_neg c3] at h
        refine jj_aload_n d_Mo_goes_59 rfl ?_
        refine jj_getR d_Mo_goes_60 fk_Mo_25 (sh_Mo h_this).2 (sh_Mo h_this).1 rfl ?_
        refine jj_iload_n d_Mo_goes_63 rfl ?_
        obtain ⟨i5, h⟩ := jj_gt h
        refine jj_iaload d_Mo_goes_64 rfl (ar_Mo_stackValue h_this).1 (ar_Mo_stackValue h_this).2 (jj_inn i5) rfl ?_
        refine jj_goto (tgt := 76) d_Mo_goes_65 rfl ?_
        exact jj_J.sub (t_Mo_goes_76 h_this h) (fun i v hi => jj_mask_ok [true, true, true, false, false, false, false, false] hi)
    · rw [if_neg c2] at h
      refine jj_aload_n d_Mo_goes_16 rfl ?_
      refine jj_getR d_Mo_goes_17 fk_Mo_22 (sh_Mo h_this).2 (sh_Mo h_this).1 rfl ?_
      refine jj_iload_n d_Mo_goes_20 rfl ?_
      obtain ⟨i6, h⟩ := jj_gt h
      refine jj_iaload d_Mo_goes_21 rfl (ar_Mo_stackKind h_this).1 (ar_Mo_stackKind h_this).2 (jj_inn i6) rfl ?_
      refine jj_iconst d_Mo_goes_22 jc_i_3 ?_
      refine jj_ic_ne (tgt := 30) d_Mo_goes_23 rfl (fun c7 => ?_) (fun c7 => ?_)
      · rw [if_neg c7] at h
        refine jj_iconst d_Mo_goes_30 jc_i_0 ?_
        exact jj_J.sub (t_Mo_goes_31  h) (fun i v hi => jj_mask_ok [false, true, false, false, false, false, false, false] hi)
      · rw [if_pos c7] at h
        refine jj_iconst d_Mo_goes_26 jc_i_1 ?_
        refine jj_goto (tgt := 31) d_Mo_goes_27 rfl ?_
        exact jj_J.sub (t_Mo_goes_31  h) (fun i v hi => jj_mask_ok [false, true, false, false, false, false, false, false] hi)
  · rw [if_pos c1] at h
    refine jj_iconst d_Mo_goes_7 jc_i_1 ?_
    cases h
    exact jj_zreturn d_Mo_goes_8 rfl (Or.inr rfl) ⟨rfl, rfl⟩
theorem c_Mo_goes {X : jj_X} {d : Nat} {this : Nat} {a1 : Int32} {a2 : Int32} (h_this : o_Mo this) {x : jj_Mem} {q : Int32 × jj_Mem} (h : f_Mo_goes this a1 a2 x = some q) : jj_Met Y0 X (d + 0) m_Mo_goes [.ref this, .int a1, .int a2] x (jp_i q) :=
  jj_metp 5 (lo := [some (.ref this), some (.int a1), some (.int a2), none, none, none, none, none]) rfl (Nat.le_of_ble_eq_true rfl) rfl (t_Mo_goes_0 h_this h)
def k_Mo_good_15  (x : jj_Mem) : Option (Int32 × jj_Mem) :=
  some (1, x)
set_option maxHeartbeats 2000000 in
theorem t_Mo_good_15 {X : jj_X} {d : Nat}   {x : jj_Mem} {q : Int32 × jj_Mem} (h : k_Mo_good_15  x = some q) : jj_J Y0 X (d + 0) m_Mo_good 15 [none, none] [] x (jp_i q) := by
  unfold k_Mo_good_15 at h
  refine jj_iconst d_Mo_good_15 jc_i_1 ?_
  refine jj_goto (tgt := 20) d_Mo_good_16 rfl ?_
  cases h
  exact jj_zreturn d_Mo_good_20 rfl (Or.inr rfl) ⟨rfl, rfl⟩
def f_Mo_good (a1 : Int32) (a2 : Int32) (x : jj_Mem) : Option (Int32 × jj_Mem) :=
  (if a1 = a2 then k_Mo_good_15  x else (if a2 = 2 then (if a1 = 3 then k_Mo_good_15  x else some (0, x)) else some (0, x)))
set_option maxHeartbeats 2000000 in
theorem t_Mo_good_0 {X : jj_X} {d : Nat} {a1 : Int32} {a2 : Int32}  {x : jj_Mem} {q : Int32 × jj_Mem} (h : f_Mo_good a1 a2 x = some q) : jj_J Y0 X (d + 0) m_Mo_good 0 [some (.int a1), some (.int a2)] [] x (jp_i q) := by
  unfold f_Mo_good at h
  refine jj_iload_n d_Mo_good_0 rfl ?_
  refine jj_iload_n d_Mo_good_1 rfl ?_
  refine jj_ic_eq (tgt := 15) d_Mo_good_2 rfl (fun c1 => ?_) (fun c1 => ?_)
  · rw [if_pos c1] at h
    exact jj_J.sub (t_Mo_good_15  h) (fun i v hi => jj_mask_ok [false, false] hi)
  · rw [if_neg c1] at h
    refine jj_iload_n d_Mo_good_5 rfl ?_
    refine jj_iconst d_Mo_good_6 jc_i_2 ?_
    refine jj_ic_ne (tgt := 19) d_Mo_good_7 rfl (fun c2 => ?_) (fun c2 => ?_)
    · rw [if_neg c2] at h
      refine jj_iconst d_Mo_good_19 jc_i_0 ?_
      cases h
      exact jj_zreturn d_Mo_good_20 rfl (Or.inl rfl) ⟨rfl, rfl⟩
    · rw [if_pos c2] at h
      refine jj_iload_n d_Mo_good_10 rfl ?_
      refine jj_iconst d_Mo_good_11 jc_i_3 ?_
      refine jj_ic_ne (tgt := 19) d_Mo_good_12 rfl (fun c3 => ?_) (fun c3 => ?_)
      · rw [if_neg c3] at h
        refine jj_iconst d_Mo_good_19 jc_i_0 ?_
        cases h
        exact jj_zreturn d_Mo_good_20 rfl (Or.inl rfl) ⟨rfl, rfl⟩
      · rw [if_pos c3] at h
        exact jj_J.sub (t_Mo_good_15  h) (fun i v hi => jj_mask_ok [false, false] hi)
theorem c_Mo_good {X : jj_X} {d : Nat} {a1 : Int32} {a2 : Int32}  {x : jj_Mem} {q : Int32 × jj_Mem} (h : f_Mo_good a1 a2 x = some q) : jj_Met Y0 X (d + 0) m_Mo_good [.int a1, .int a2] x (jp_i q) :=
  jj_metp 0 (lo := [some (.int a1), some (.int a2)]) rfl (Nat.le_of_ble_eq_true rfl) rfl (t_Mo_good_0  h)
def f_Mo_jump (a1 : Int32) (a2 : Int32) (x : jj_Mem) : Option (Int32 × jj_Mem) :=
  (if ((256 * a1) + a2) ≤ 32767 then some (((256 * a1) + a2), x) else some ((((256 * a1) + a2) - 65536), x))
set_option maxHeartbeats 2000000 in
theorem t_Mo_jump_0 {X : jj_X} {d : Nat} {a1 : Int32} {a2 : Int32}  {x : jj_Mem} {q : Int32 × jj_Mem} (h : f_Mo_jump a1 a2 x = some q) : jj_J Y0 X (d + 0) m_Mo_jump 0 [some (.int a1), some (.int a2), none] [] x (jp_i q) := by
  unfold f_Mo_jump at h
  refine jj_sipush d_Mo_jump_0 jc_s_256 ?_
  refine jj_iload_n d_Mo_jump_3 rfl ?_
  refine jj_imul d_Mo_jump_4 ?_
  refine jj_iload_n d_Mo_jump_5 rfl ?_
  refine jj_iadd d_Mo_jump_6 ?_
  refine jj_istore_n (lo' := [_, _, _]) d_Mo_jump_7 rfl (by decide) rfl ?_
  refine jj_iload_n d_Mo_jump_8 rfl ?_
  refine jj_sipush d_Mo_jump_9 jc_s_32767 ?_
  refine jj_ic_le (tgt := 22) d_Mo_jump_12 rfl (fun c1 => ?_) (fun c1 => ?_)
  · rw [if_pos c1] at h
    refine jj_iload_n d_Mo_jump_22 rfl ?_
    cases h
    exact jj_ireturn d_Mo_jump_23 rfl ⟨rfl, rfl⟩
  · rw [if_neg c1] at h
    refine jj_iload_n d_Mo_jump_15 rfl ?_
    refine jj_ldc d_Mo_jump_16 lc_Mo_83 ?_
    refine jj_isub d_Mo_jump_18 ?_
    refine jj_goto (tgt := 23) d_Mo_jump_19 rfl ?_
    cases h
    exact jj_ireturn d_Mo_jump_23 rfl ⟨rfl, rfl⟩
theorem c_Mo_jump {X : jj_X} {d : Nat} {a1 : Int32} {a2 : Int32}  {x : jj_Mem} {q : Int32 × jj_Mem} (h : f_Mo_jump a1 a2 x = some q) : jj_Met Y0 X (d + 0) m_Mo_jump [.int a1, .int a2] x (jp_i q) :=
  jj_metp 1 (lo := [some (.int a1), some (.int a2), none]) rfl (Nat.le_of_ble_eq_true rfl) rfl (t_Mo_jump_0  h)
def f_Mo_lengthOf (this : Nat) (a1 : Int32) (x : jj_Mem) : Option (Int32 × jj_Mem) :=
  if jj_inb a1 240 = true then if jj_inb ((a1 + 4) + (x (this + 2) (Int32.toNatClampNeg a1))) 240 = true then some ((x (this + 2) (Int32.toNatClampNeg ((a1 + 4) + (x (this + 2) (Int32.toNatClampNeg a1))))), x) else none else none
set_option maxHeartbeats 2000000 in
theorem t_Mo_lengthOf_0 {X : jj_X} {d : Nat} {this : Nat} {a1 : Int32} (h_this : o_Mo this) {x : jj_Mem} {q : Int32 × jj_Mem} (h : f_Mo_lengthOf this a1 x = some q) : jj_J Y0 X (d + 0) m_Mo_lengthOf 0 [some (.ref this), some (.int a1)] [] x (jp_i q) := by
  unfold f_Mo_lengthOf at h
  refine jj_aload_n d_Mo_lengthOf_0 rfl ?_
  refine jj_getR d_Mo_lengthOf_1 fk_Mo_13 (sh_Mo h_this).2 (sh_Mo h_this).1 rfl ?_
  refine jj_iload_n d_Mo_lengthOf_4 rfl ?_
  refine jj_iconst d_Mo_lengthOf_5 jc_i_4 ?_
  refine jj_iadd d_Mo_lengthOf_6 ?_
  refine jj_aload_n d_Mo_lengthOf_7 rfl ?_
  refine jj_getR d_Mo_lengthOf_8 fk_Mo_13 (sh_Mo h_this).2 (sh_Mo h_this).1 rfl ?_
  refine jj_iload_n d_Mo_lengthOf_11 rfl ?_
  obtain ⟨i1, h⟩ := jj_gt h
  refine jj_iaload d_Mo_lengthOf_12 rfl (ar_Mo_kept h_this).1 (ar_Mo_kept h_this).2 (jj_inn i1) rfl ?_
  refine jj_iadd d_Mo_lengthOf_13 ?_
  obtain ⟨i2, h⟩ := jj_gt h
  refine jj_iaload d_Mo_lengthOf_14 rfl (ar_Mo_kept h_this).1 (ar_Mo_kept h_this).2 (jj_inn i2) rfl ?_
  cases h
  exact jj_ireturn d_Mo_lengthOf_15 rfl ⟨rfl, rfl⟩
theorem c_Mo_lengthOf {X : jj_X} {d : Nat} {this : Nat} {a1 : Int32} (h_this : o_Mo this) {x : jj_Mem} {q : Int32 × jj_Mem} (h : f_Mo_lengthOf this a1 x = some q) : jj_Met Y0 X (d + 0) m_Mo_lengthOf [.ref this, .int a1] x (jp_i q) :=
  jj_metp 0 (lo := [some (.ref this), some (.int a1)]) rfl (Nat.le_of_ble_eq_true rfl) rfl (t_Mo_lengthOf_0 h_this h)
def k_Mo_makeRow_12 (rec : Nat → List (Option Value) → jj_Mem → Option (Int32 × jj_Mem)) (l0 : Nat) (l2 : Int32) (x : jj_Mem) : Option (Int32 × jj_Mem) :=
  (if 8 ≤ l2 then some ((((jj_set x l0 23 ((x l0 23) + 1)) l0 23) - 1), (jj_set x l0 23 ((x l0 23) + 1))) else if jj_inb ((8 * (x l0 23)) + l2) 64 = true then rec 12 [some (.ref l0), none, some (.int (l2 + 1))] (jj_set x (l0 + 11) (Int32.toNatClampNeg ((8 * (x l0 23)) + l2)) 0) else none)
set_option maxHeartbeats 2000000 in
theorem t_Mo_makeRow_12 {X : jj_X} {d : Nat} (rec : Nat → List (Option Value) → jj_Mem → Option (Int32 × jj_Mem)) (hrec : ∀ (L : Nat) (lo : List (Option Value)) (x : jj_Mem) (q : Int32 × jj_Mem), rec L lo x = some q → jj_J Y0 X (d + 0) m_Mo_makeRow L lo [] x (jp_i q)) {l0 : Nat} {l2 : Int32} (h_l0 : o_Mo l0) {x : jj_Mem} {q : Int32 × jj_Mem} (h : k_Mo_makeRow_12 rec l0 l2 x = some q) : jj_J Y0 X (d + 0) m_Mo_makeRow 12 [some (.ref l0), none, some (.int l2)] [] x (jp_i q) := by
  unfold k_Mo_makeRow_12 at h
  refine jj_iload_n d_Mo_makeRow_12 rfl ?_
  refine jj_bipush d_Mo_makeRow_13 jc_b_8 ?_
  refine jj_ic_ge (tgt := 39) d_Mo_makeRow_15 rfl (fun c1 => ?_) (fun c1 => ?_)
  · rw [if_pos c1] at h
    refine jj_aload_n d_Mo_makeRow_39 rfl ?_
    refine jj_dup d_Mo_makeRow_40 rfl ?_
    refine jj_getI d_Mo_makeRow_41 fk_Mo_204 (sh_Mo h_l0).2 (sh_Mo h_l0).1 rfl rfl ?_
    refine jj_iconst d_Mo_makeRow_44 jc_i_1 ?_
    refine jj_iadd d_Mo_makeRow_45 ?_
    refine jj_putI d_Mo_makeRow_46 pk_Mo_204 (sh_Mo h_l0).2 (sh_Mo h_l0).1 rfl ?_
    refine jj_aload_n d_Mo_makeRow_49 rfl ?_
    refine jj_getI d_Mo_makeRow_50 fk_Mo_204 (sh_Mo h_l0).2 (sh_Mo h_l0).1 rfl rfl ?_
    refine jj_iconst d_Mo_makeRow_53 jc_i_1 ?_
    refine jj_isub d_Mo_makeRow_54 ?_
    cases h
    exact jj_ireturn d_Mo_makeRow_55 rfl ⟨rfl, rfl⟩
  · rw [if_neg c1] at h
    refine jj_aload_n d_Mo_makeRow_18 rfl ?_
    refine jj_getR d_Mo_makeRow_19 fk_Mo_40 (sh_Mo h_l0).2 (sh_Mo h_l0).1 rfl ?_
    refine jj_bipush d_Mo_makeRow_22 jc_b_8 ?_
    refine jj_aload_n d_Mo_makeRow_24 rfl ?_
    refine jj_getI d_Mo_makeRow_25 fk_Mo_204 (sh_Mo h_l0).2 (sh_Mo h_l0).1 rfl rfl ?_
    refine jj_imul d_Mo_makeRow_28 ?_
    refine jj_iload_n d_Mo_makeRow_29 rfl ?_
    refine jj_iadd d_Mo_makeRow_30 ?_
    refine jj_iconst d_Mo_makeRow_31 jc_i_0 ?_
    obtain ⟨i2, h⟩ := jj_gt h
    refine jj_iastore d_Mo_makeRow_32 rfl (ar_Mo_cells h_l0).1 (ar_Mo_cells h_l0).2 (jj_inn i2) ?_
    refine jj_iinc (lo' := [_, _, _]) (v := (l2 + 1)) d_Mo_makeRow_33 rfl (jc_a_1 _) rfl (by decide) rfl ?_
    refine jj_goto (tgt := 12) d_Mo_makeRow_36 rfl ?_
    exact jj_J.sub (hrec _ _ _ _ h) (fun i v hi => jj_mask_ok [true, false, true] hi)
def g_Mo_makeRow : Nat → Nat → List (Option Value) → jj_Mem → Option (Int32 × jj_Mem)
  | 0, _, _, _ => none
  | f + 1, L, lo, x => match L, lo with
    | 12, [some (.ref l0), none, some (.int l2)] => if (bo_Mo l0) = true then k_Mo_makeRow_12 (g_Mo_makeRow f) l0 l2 x else none
    | _, _ => none
set_option maxHeartbeats 2000000 in
theorem t_Mo_makeRow_g {X : jj_X} {d : Nat} : ∀ (f L : Nat) (lo : List (Option Value)) (x : jj_Mem) (q : Int32 × jj_Mem), g_Mo_makeRow f L lo x = some q → jj_J Y0 X (d + 0) m_Mo_makeRow L lo [] x (jp_i q) := by
  intro f
  induction f with
  | zero => intro L lo x q h; simp [g_Mo_makeRow] at h
  | succ f ih =>
    intro L lo x q h
    unfold g_Mo_makeRow at h
    split at h
    · obtain ⟨i1, h⟩ := jj_gt h
      exact t_Mo_makeRow_12 _ ih (ob_Mo i1) h
    · cases h
def k_Mo_makeRow_0 (rec : Nat → List (Option Value) → jj_Mem → Option (Int32 × jj_Mem)) (this : Nat) (a1 : Int32) (x : jj_Mem) : Option (Int32 × jj_Mem) :=
  if jj_inb (x this 23) 8 = true then rec 12 [some (.ref this), none, some (.int 0)] (jj_set x (this + 10) (Int32.toNatClampNeg (x this 23)) a1) else none
set_option maxHeartbeats 2000000 in
theorem t_Mo_makeRow_0 {X : jj_X} {d : Nat} (rec : Nat → List (Option Value) → jj_Mem → Option (Int32 × jj_Mem)) (hrec : ∀ (L : Nat) (lo : List (Option Value)) (x : jj_Mem) (q : Int32 × jj_Mem), rec L lo x = some q → jj_J Y0 X (d + 0) m_Mo_makeRow L lo [] x (jp_i q)) {this : Nat} {a1 : Int32} (h_this : o_Mo this) {x : jj_Mem} {q : Int32 × jj_Mem} (h : k_Mo_makeRow_0 rec this a1 x = some q) : jj_J Y0 X (d + 0) m_Mo_makeRow 0 [some (.ref this), some (.int a1), none] [] x (jp_i q) := by
  unfold k_Mo_makeRow_0 at h
  refine jj_aload_n d_Mo_makeRow_0 rfl ?_
  refine jj_getR d_Mo_makeRow_1 fk_Mo_37 (sh_Mo h_this).2 (sh_Mo h_this).1 rfl ?_
  refine jj_aload_n d_Mo_makeRow_4 rfl ?_
  refine jj_getI d_Mo_makeRow_5 fk_Mo_204 (sh_Mo h_this).2 (sh_Mo h_this).1 rfl rfl ?_
  refine jj_iload_n d_Mo_makeRow_8 rfl ?_
  obtain ⟨i1, h⟩ := jj_gt h
  refine jj_iastore d_Mo_makeRow_9 rfl (ar_Mo_rowSize h_this).1 (ar_Mo_rowSize h_this).2 (jj_inn i1) ?_
  refine jj_iconst d_Mo_makeRow_10 jc_i_0 ?_
  refine jj_istore_n (lo' := [_, _, _]) d_Mo_makeRow_11 rfl (by decide) rfl ?_
  exact jj_J.sub (hrec _ _ _ _ h) (fun i v hi => jj_mask_ok [true, false, true] hi)
def f_Mo_makeRow (this : Nat) (a1 : Int32) (x : jj_Mem) : Option (Int32 × jj_Mem) := k_Mo_makeRow_0 (g_Mo_makeRow 1000) this a1 x
theorem c_Mo_makeRow {X : jj_X} {d : Nat} {this : Nat} {a1 : Int32} (h_this : o_Mo this) {x : jj_Mem} {q : Int32 × jj_Mem} (h : f_Mo_makeRow this a1 x = some q) : jj_Met Y0 X (d + 0) m_Mo_makeRow [.ref this, .int a1] x (jp_i q) :=
  jj_metp 1 (lo := [some (.ref this), some (.int a1), none]) rfl (Nat.le_of_ble_eq_true rfl) rfl (t_Mo_makeRow_0 _ (t_Mo_makeRow_g 1000) h_this h)
def f_Mo_methodCount (this : Nat) (x : jj_Mem) : Option (Int32 × jj_Mem) :=
  (if (x this 5) = 0 then some (0, x) else if jj_inb 1 240 = true then if jj_inb (2 + (4 * (x (this + 2) (Int32.toNatClampNeg 1)))) 240 = true then some ((x (this + 2) (Int32.toNatClampNeg (2 + (4 * (x (this + 2) (Int32.toNatClampNeg 1)))))), x) else none else none)
set_option maxHeartbeats 2000000 in
theorem t_Mo_methodCount_0 {X : jj_X} {d : Nat} {this : Nat} (h_this : o_Mo this) {x : jj_Mem} {q : Int32 × jj_Mem} (h : f_Mo_methodCount this x = some q) : jj_J Y0 X (d + 0) m_Mo_methodCount 0 [some (.ref this)] [] x (jp_i q) := by
  unfold f_Mo_methodCount at h
  refine jj_aload_n d_Mo_methodCount_0 rfl ?_
  refine jj_getI d_Mo_methodCount_1 fk_Mo_102 (sh_Mo h_this).2 (sh_Mo h_this).1 rfl rfl ?_
  refine jj_if_eq (tgt := 25) d_Mo_methodCount_4 rfl (fun c1 => ?_) (fun c1 => ?_)
  · rw [if_pos c1] at h
    refine jj_iconst d_Mo_methodCount_25 jc_i_0 ?_
    cases h
    exact jj_ireturn d_Mo_methodCount_26 rfl ⟨rfl, rfl⟩
  · rw [if_neg c1] at h
    refine jj_aload_n d_Mo_methodCount_7 rfl ?_
    refine jj_getR d_Mo_methodCount_8 fk_Mo_13 (sh_Mo h_this).2 (sh_Mo h_this).1 rfl ?_
    refine jj_iconst d_Mo_methodCount_11 jc_i_2 ?_
    refine jj_iconst d_Mo_methodCount_12 jc_i_4 ?_
    refine jj_aload_n d_Mo_methodCount_13 rfl ?_
    refine jj_getR d_Mo_methodCount_14 fk_Mo_13 (sh_Mo h_this).2 (sh_Mo h_this).1 rfl ?_
    refine jj_iconst d_Mo_methodCount_17 jc_i_1 ?_
    obtain ⟨i2, h⟩ := jj_gt h
    refine jj_iaload d_Mo_methodCount_18 rfl (ar_Mo_kept h_this).1 (ar_Mo_kept h_this).2 (jj_inn i2) rfl ?_
    refine jj_imul d_Mo_methodCount_19 ?_
    refine jj_iadd d_Mo_methodCount_20 ?_
    obtain ⟨i3, h⟩ := jj_gt h
    refine jj_iaload d_Mo_methodCount_21 rfl (ar_Mo_kept h_this).1 (ar_Mo_kept h_this).2 (jj_inn i3) rfl ?_
    refine jj_goto (tgt := 26) d_Mo_methodCount_22 rfl ?_
    cases h
    exact jj_ireturn d_Mo_methodCount_26 rfl ⟨rfl, rfl⟩
theorem c_Mo_methodCount {X : jj_X} {d : Nat} {this : Nat} (h_this : o_Mo this) {x : jj_Mem} {q : Int32 × jj_Mem} (h : f_Mo_methodCount this x = some q) : jj_Met Y0 X (d + 0) m_Mo_methodCount [.ref this] x (jp_i q) :=
  jj_metp 0 (lo := [some (.ref this)]) rfl (Nat.le_of_ble_eq_true rfl) rfl (t_Mo_methodCount_0 h_this h)
def s_Mo_names (a1 : Int32) : Option Int32 := se_run true 1 (fun _ => none) (se_code m_Mo_names.2.1) 400 0 [a1] []
theorem c_Mo_names {X : jj_X} {d : Nat} {a1 : Int32} {x : jj_Mem} {v : Int32} (h : s_Mo_names a1 = some v) : jj_Met Y0 X (d + 0) m_Mo_names [.int a1] x (jp_i (v, x)) := by
  refine jj_metp 0 (lo := [some (.int a1)]) rfl (Nat.le_of_ble_eq_true rfl) rfl ?_
  exact jj_J.sub (se_sound0 (Y := Y0) (X := X) (d := d + 0) (M := m_Mo_names) (x := x) rfl rfl (fun _ _ h => se_code_ok h) 400 0 [a1] [] v h) (fun i u hi => jj_pad 0 hi)
def f_Mo_placesOf (this : Nat) (a1 : Int32) (x : jj_Mem) : Option (Int32 × jj_Mem) :=
  if jj_inb a1 240 = true then if jj_inb ((a1 + 3) + (x (this + 2) (Int32.toNatClampNeg a1))) 240 = true then some ((x (this + 2) (Int32.toNatClampNeg ((a1 + 3) + (x (this + 2) (Int32.toNatClampNeg a1))))), x) else none else none
set_option maxHeartbeats 2000000 in
theorem t_Mo_placesOf_0 {X : jj_X} {d : Nat} {this : Nat} {a1 : Int32} (h_this : o_Mo this) {x : jj_Mem} {q : Int32 × jj_Mem} (h : f_Mo_placesOf this a1 x = some q) : jj_J Y0 X (d + 0) m_Mo_placesOf 0 [some (.ref this), some (.int a1)] [] x (jp_i q) := by
  unfold f_Mo_placesOf at h
  refine jj_aload_n d_Mo_placesOf_0 rfl ?_
  refine jj_getR d_Mo_placesOf_1 fk_Mo_13 (sh_Mo h_this).2 (sh_Mo h_this).1 rfl ?_
  refine jj_iload_n d_Mo_placesOf_4 rfl ?_
  refine jj_iconst d_Mo_placesOf_5 jc_i_3 ?_
  refine jj_iadd d_Mo_placesOf_6 ?_
  refine jj_aload_n d_Mo_placesOf_7 rfl ?_
  refine jj_getR d_Mo_placesOf_8 fk_Mo_13 (sh_Mo h_this).2 (sh_Mo h_this).1 rfl ?_
  refine jj_iload_n d_Mo_placesOf_11 rfl ?_
  obtain ⟨i1, h⟩ := jj_gt h
  refine jj_iaload d_Mo_placesOf_12 rfl (ar_Mo_kept h_this).1 (ar_Mo_kept h_this).2 (jj_inn i1) rfl ?_
  refine jj_iadd d_Mo_placesOf_13 ?_
  obtain ⟨i2, h⟩ := jj_gt h
  refine jj_iaload d_Mo_placesOf_14 rfl (ar_Mo_kept h_this).1 (ar_Mo_kept h_this).2 (jj_inn i2) rfl ?_
  cases h
  exact jj_ireturn d_Mo_placesOf_15 rfl ⟨rfl, rfl⟩
theorem c_Mo_placesOf {X : jj_X} {d : Nat} {this : Nat} {a1 : Int32} (h_this : o_Mo this) {x : jj_Mem} {q : Int32 × jj_Mem} (h : f_Mo_placesOf this a1 x = some q) : jj_Met Y0 X (d + 0) m_Mo_placesOf [.ref this, .int a1] x (jp_i q) :=
  jj_metp 0 (lo := [some (.ref this), some (.int a1)]) rfl (Nat.le_of_ble_eq_true rfl) rfl (t_Mo_placesOf_0 h_this h)
def f_Mo_push (this : Nat) (a1 : Int32) (a2 : Int32) (a3 : Int32) (x : jj_Mem) : Option (jj_Mem) :=
  if jj_inb a1 4 = true then if jj_inb ((6 * a1) + (x (this + 7) (Int32.toNatClampNeg a1))) 24 = true then if jj_inb a1 4 = true then if jj_inb ((6 * a1) + ((jj_set x (this + 5) (Int32.toNatClampNeg ((6 * a1) + (x (this + 7) (Int32.toNatClampNeg a1)))) a2) (this + 7) (Int32.toNatClampNeg a1))) 24 = true then if jj_inb a1 4 = true then if jj_inb a1 4 = true then some (jj_set (jj_set (jj_set x (this + 5) (Int32.toNatClampNeg ((6 * a1) + (x (this + 7) (Int32.toNatClampNeg a1)))) a2) (this + 6) (Int32.toNatClampNeg ((6 * a1) + ((jj_set x (this + 5) (Int32.toNatClampNeg ((6 * a1) + (x (this + 7) (Int32.toNatClampNeg a1)))) a2) (this + 7) (Int32.toNatClampNeg a1)))) a3) (this + 7) (Int32.toNatClampNeg a1) (((jj_set (jj_set x (this + 5) (Int32.toNatClampNeg ((6 * a1) + (x (this + 7) (Int32.toNatClampNeg a1)))) a2) (this + 6) (Int32.toNatClampNeg ((6 * a1) + ((jj_set x (this + 5) (Int32.toNatClampNeg ((6 * a1) + (x (this + 7) (Int32.toNatClampNeg a1)))) a2) (this + 7) (Int32.toNatClampNeg a1)))) a3) (this + 7) (Int32.toNatClampNeg a1)) + 1)) else none else none else none else none else none else none
set_option maxHeartbeats 2000000 in
theorem t_Mo_push_0 {X : jj_X} {d : Nat} {this : Nat} {a1 : Int32} {a2 : Int32} {a3 : Int32} (h_this : o_Mo this) {x : jj_Mem} {q : jj_Mem} (h : f_Mo_push this a1 a2 a3 x = some q) : jj_J Y0 X (d + 0) m_Mo_push 0 [some (.ref this), some (.int a1), some (.int a2), some (.int a3)] [] x (jp_v q) := by
  unfold f_Mo_push at h
  refine jj_aload_n d_Mo_push_0 rfl ?_
  refine jj_getR d_Mo_push_1 fk_Mo_22 (sh_Mo h_this).2 (sh_Mo h_this).1 rfl ?_
  refine jj_bipush d_Mo_push_4 jc_b_6 ?_
  refine jj_iload_n d_Mo_push_6 rfl ?_
  refine jj_imul d_Mo_push_7 ?_
  refine jj_aload_n d_Mo_push_8 rfl ?_
  refine jj_getR d_Mo_push_9 fk_Mo_28 (sh_Mo h_this).2 (sh_Mo h_this).1 rfl ?_
  refine jj_iload_n d_Mo_push_12 rfl ?_
  obtain ⟨i1, h⟩ := jj_gt h
  refine jj_iaload d_Mo_push_13 rfl (ar_Mo_height h_this).1 (ar_Mo_height h_this).2 (jj_inn i1) rfl ?_
  refine jj_iadd d_Mo_push_14 ?_
  refine jj_iload_n d_Mo_push_15 rfl ?_
  obtain ⟨i2, h⟩ := jj_gt h
  refine jj_iastore d_Mo_push_16 rfl (ar_Mo_stackKind h_this).1 (ar_Mo_stackKind h_this).2 (jj_inn i2) ?_
  refine jj_aload_n d_Mo_push_17 rfl ?_
  refine jj_getR d_Mo_push_18 fk_Mo_25 (sh_Mo h_this).2 (sh_Mo h_this).1 rfl ?_
  refine jj_bipush d_Mo_push_21 jc_b_6 ?_
  refine jj_iload_n d_Mo_push_23 rfl ?_
  refine jj_imul d_Mo_push_24 ?_
  refine jj_aload_n d_Mo_push_25 rfl ?_
  refine jj_getR d_Mo_push_26 fk_Mo_28 (sh_Mo h_this).2 (sh_Mo h_this).1 rfl ?_
  refine jj_iload_n d_Mo_push_29 rfl ?_
  obtain ⟨i3, h⟩ := jj_gt h
  refine jj_iaload d_Mo_push_30 rfl (ar_Mo_height h_this).1 (ar_Mo_height h_this).2 (jj_inn i3) rfl ?_
  refine jj_iadd d_Mo_push_31 ?_
  refine jj_iload_n d_Mo_push_32 rfl ?_
  obtain ⟨i4, h⟩ := jj_gt h
  refine jj_iastore d_Mo_push_33 rfl (ar_Mo_stackValue h_this).1 (ar_Mo_stackValue h_this).2 (jj_inn i4) ?_
  refine jj_aload_n d_Mo_push_34 rfl ?_
  refine jj_getR d_Mo_push_35 fk_Mo_28 (sh_Mo h_this).2 (sh_Mo h_this).1 rfl ?_
  refine jj_iload_n d_Mo_push_38 rfl ?_
  refine jj_aload_n d_Mo_push_39 rfl ?_
  refine jj_getR d_Mo_push_40 fk_Mo_28 (sh_Mo h_this).2 (sh_Mo h_this).1 rfl ?_
  refine jj_iload_n d_Mo_push_43 rfl ?_
  obtain ⟨i5, h⟩ := jj_gt h
  refine jj_iaload d_Mo_push_44 rfl (ar_Mo_height h_this).1 (ar_Mo_height h_this).2 (jj_inn i5) rfl ?_
  refine jj_iconst d_Mo_push_45 jc_i_1 ?_
  refine jj_iadd d_Mo_push_46 ?_
  obtain ⟨i6, h⟩ := jj_gt h
  refine jj_iastore d_Mo_push_47 rfl (ar_Mo_height h_this).1 (ar_Mo_height h_this).2 (jj_inn i6) ?_
  cases h
  exact jj_return d_Mo_push_48 rfl ⟨rfl, rfl⟩
theorem c_Mo_push {X : jj_X} {d : Nat} {this : Nat} {a1 : Int32} {a2 : Int32} {a3 : Int32} (h_this : o_Mo this) {x : jj_Mem} {q : jj_Mem} (h : f_Mo_push this a1 a2 a3 x = some q) : jj_Met Y0 X (d + 0) m_Mo_push [.ref this, .int a1, .int a2, .int a3] x (jp_v q) :=
  jj_metp 0 (lo := [some (.ref this), some (.int a1), some (.int a2), some (.int a3)]) rfl (Nat.le_of_ble_eq_true rfl) rfl (t_Mo_push_0 h_this h)
def s_Mo_puts (a1 : Int32) : Option Int32 := se_run false 2 (fun _ => none) (se_code m_Mo_puts.2.1) 400 0 [a1] []
theorem c_Mo_puts {X : jj_X} {d : Nat} {a1 : Int32} {x : jj_Mem} {v : Int32} (h : s_Mo_puts a1 = some v) : jj_Met Y0 X (d + 0) m_Mo_puts [.int a1] x (jp_i (v, x)) := by
  refine jj_metp 1 (lo := [some (.int a1), none]) rfl (Nat.le_of_ble_eq_true rfl) rfl ?_
  exact jj_J.sub (se_sound0 (Y := Y0) (X := X) (d := d + 0) (M := m_Mo_puts) (x := x) rfl rfl (fun _ _ h => se_code_ok h) 400 0 [a1] [] v h) (fun i u hi => jj_pad 1 hi)
def f_Mo_result (this : Nat) (x : jj_Mem) : Option (Int32 × jj_Mem) :=
  some (((jj_set x this 0 0) this 27), (jj_set x this 0 0))
set_option maxHeartbeats 2000000 in
theorem t_Mo_result_0 {X : jj_X} {d : Nat} {this : Nat} (h_this : o_Mo this) {x : jj_Mem} {q : Int32 × jj_Mem} (h : f_Mo_result this x = some q) : jj_J Y0 X (d + 0) m_Mo_result 0 [some (.ref this)] [] x (jp_i q) := by
  unfold f_Mo_result at h
  refine jj_aload_n d_Mo_result_0 rfl ?_
  refine jj_iconst d_Mo_result_1 jc_i_0 ?_
  refine jj_putI d_Mo_result_2 pk_Mo_43 (sh_Mo h_this).2 (sh_Mo h_this).1 rfl ?_
  refine jj_aload_n d_Mo_result_5 rfl ?_
  refine jj_getI d_Mo_result_6 fk_Mo_237 (sh_Mo h_this).2 (sh_Mo h_this).1 rfl rfl ?_
  cases h
  exact jj_ireturn d_Mo_result_9 rfl ⟨rfl, rfl⟩
theorem c_Mo_result {X : jj_X} {d : Nat} {this : Nat} (h_this : o_Mo this) {x : jj_Mem} {q : Int32 × jj_Mem} (h : f_Mo_result this x = some q) : jj_Met Y0 X (d + 0) m_Mo_result [.ref this] x (jp_i q) :=
  jj_metp 0 (lo := [some (.ref this)]) rfl (Nat.le_of_ble_eq_true rfl) rfl (t_Mo_result_0 h_this h)
def s_Mo_returns (a1 : Int32) : Option Int32 := se_run true 1 (fun _ => none) (se_code m_Mo_returns.2.1) 400 0 [a1] []
theorem c_Mo_returns {X : jj_X} {d : Nat} {a1 : Int32} {x : jj_Mem} {v : Int32} (h : s_Mo_returns a1 = some v) : jj_Met Y0 X (d + 0) m_Mo_returns [.int a1] x (jp_i (v, x)) := by
  refine jj_metp 0 (lo := [some (.int a1)]) rfl (Nat.le_of_ble_eq_true rfl) rfl ?_
  exact jj_J.sub (se_sound0 (Y := Y0) (X := X) (d := d + 0) (M := m_Mo_returns) (x := x) rfl rfl (fun _ _ h => se_code_ok h) 400 0 [a1] [] v h) (fun i u hi => jj_pad 0 hi)
def f_Mo_returnsOf (this : Nat) (a1 : Int32) (x : jj_Mem) : Option (Int32 × jj_Mem) :=
  if jj_inb a1 240 = true then if jj_inb ((a1 + 1) + (x (this + 2) (Int32.toNatClampNeg a1))) 240 = true then some ((x (this + 2) (Int32.toNatClampNeg ((a1 + 1) + (x (this + 2) (Int32.toNatClampNeg a1))))), x) else none else none
set_option maxHeartbeats 2000000 in
theorem t_Mo_returnsOf_0 {X : jj_X} {d : Nat} {this : Nat} {a1 : Int32} (h_this : o_Mo this) {x : jj_Mem} {q : Int32 × jj_Mem} (h : f_Mo_returnsOf this a1 x = some q) : jj_J Y0 X (d + 0) m_Mo_returnsOf 0 [some (.ref this), some (.int a1)] [] x (jp_i q) := by
  unfold f_Mo_returnsOf at h
  refine jj_aload_n d_Mo_returnsOf_0 rfl ?_
  refine jj_getR d_Mo_returnsOf_1 fk_Mo_13 (sh_Mo h_this).2 (sh_Mo h_this).1 rfl ?_
  refine jj_iload_n d_Mo_returnsOf_4 rfl ?_
  refine jj_iconst d_Mo_returnsOf_5 jc_i_1 ?_
  refine jj_iadd d_Mo_returnsOf_6 ?_
  refine jj_aload_n d_Mo_returnsOf_7 rfl ?_
  refine jj_getR d_Mo_returnsOf_8 fk_Mo_13 (sh_Mo h_this).2 (sh_Mo h_this).1 rfl ?_
  refine jj_iload_n d_Mo_returnsOf_11 rfl ?_
  obtain ⟨i1, h⟩ := jj_gt h
  refine jj_iaload d_Mo_returnsOf_12 rfl (ar_Mo_kept h_this).1 (ar_Mo_kept h_this).2 (jj_inn i1) rfl ?_
  refine jj_iadd d_Mo_returnsOf_13 ?_
  obtain ⟨i2, h⟩ := jj_gt h
  refine jj_iaload d_Mo_returnsOf_14 rfl (ar_Mo_kept h_this).1 (ar_Mo_kept h_this).2 (jj_inn i2) rfl ?_
  cases h
  exact jj_ireturn d_Mo_returnsOf_15 rfl ⟨rfl, rfl⟩
theorem c_Mo_returnsOf {X : jj_X} {d : Nat} {this : Nat} {a1 : Int32} (h_this : o_Mo this) {x : jj_Mem} {q : Int32 × jj_Mem} (h : f_Mo_returnsOf this a1 x = some q) : jj_Met Y0 X (d + 0) m_Mo_returnsOf [.ref this, .int a1] x (jp_i q) :=
  jj_metp 0 (lo := [some (.ref this), some (.int a1)]) rfl (Nat.le_of_ble_eq_true rfl) rfl (t_Mo_returnsOf_0 h_this h)
def f_Mo_size (this : Nat) (x : jj_Mem) : Option (Int32 × jj_Mem) :=
  some (((jj_set x this 0 0) this 1), (jj_set x this 0 0))
set_option maxHeartbeats 2000000 in
theorem t_Mo_size_0 {X : jj_X} {d : Nat} {this : Nat} (h_this : o_Mo this) {x : jj_Mem} {q : Int32 × jj_Mem} (h : f_Mo_size this x = some q) : jj_J Y0 X (d + 0) m_Mo_size 0 [some (.ref this)] [] x (jp_i q) := by
  unfold f_Mo_size at h
  refine jj_aload_n d_Mo_size_0 rfl ?_
  refine jj_iconst d_Mo_size_1 jc_i_0 ?_
  refine jj_putI d_Mo_size_2 pk_Mo_43 (sh_Mo h_this).2 (sh_Mo h_this).1 rfl ?_
  refine jj_aload_n d_Mo_size_5 rfl ?_
  refine jj_getI d_Mo_size_6 fk_Mo_61 (sh_Mo h_this).2 (sh_Mo h_this).1 rfl rfl ?_
  cases h
  exact jj_ireturn d_Mo_size_9 rfl ⟨rfl, rfl⟩
theorem c_Mo_size {X : jj_X} {d : Nat} {this : Nat} (h_this : o_Mo this) {x : jj_Mem} {q : Int32 × jj_Mem} (h : f_Mo_size this x = some q) : jj_Met Y0 X (d + 0) m_Mo_size [.ref this] x (jp_i q) :=
  jj_metp 0 (lo := [some (.ref this)]) rfl (Nat.le_of_ble_eq_true rfl) rfl (t_Mo_size_0 h_this h)
def f_Mo_small (a1 : Int32) (x : jj_Mem) : Option (Int32 × jj_Mem) :=
  (if a1 ≤ 127 then some (a1, x) else some ((a1 - 256), x))
set_option maxHeartbeats 2000000 in
theorem t_Mo_small_0 {X : jj_X} {d : Nat} {a1 : Int32}  {x : jj_Mem} {q : Int32 × jj_Mem} (h : f_Mo_small a1 x = some q) : jj_J Y0 X (d + 0) m_Mo_small 0 [some (.int a1)] [] x (jp_i q) := by
  unfold f_Mo_small at h
  refine jj_iload_n d_Mo_small_0 rfl ?_
  refine jj_bipush d_Mo_small_1 jc_b_127 ?_
  refine jj_ic_le (tgt := 14) d_Mo_small_3 rfl (fun c1 => ?_) (fun c1 => ?_)
  · rw [if_pos c1] at h
    refine jj_iload_n d_Mo_small_14 rfl ?_
    cases h
    exact jj_ireturn d_Mo_small_15 rfl ⟨rfl, rfl⟩
  · rw [if_neg c1] at h
    refine jj_iload_n d_Mo_small_6 rfl ?_
    refine jj_sipush d_Mo_small_7 jc_s_256 ?_
    refine jj_isub d_Mo_small_10 ?_
    refine jj_goto (tgt := 15) d_Mo_small_11 rfl ?_
    cases h
    exact jj_ireturn d_Mo_small_15 rfl ⟨rfl, rfl⟩
theorem c_Mo_small {X : jj_X} {d : Nat} {a1 : Int32}  {x : jj_Mem} {q : Int32 × jj_Mem} (h : f_Mo_small a1 x = some q) : jj_Met Y0 X (d + 0) m_Mo_small [.int a1] x (jp_i q) :=
  jj_metp 0 (lo := [some (.int a1)]) rfl (Nat.le_of_ble_eq_true rfl) rfl (t_Mo_small_0  h)
def f_Mo_steps (this : Nat) (x : jj_Mem) : Option (Int32 × jj_Mem) :=
  some (((jj_set x this 0 0) this 26), (jj_set x this 0 0))
set_option maxHeartbeats 2000000 in
theorem t_Mo_steps_0 {X : jj_X} {d : Nat} {this : Nat} (h_this : o_Mo this) {x : jj_Mem} {q : Int32 × jj_Mem} (h : f_Mo_steps this x = some q) : jj_J Y0 X (d + 0) m_Mo_steps 0 [some (.ref this)] [] x (jp_i q) := by
  unfold f_Mo_steps at h
  refine jj_aload_n d_Mo_steps_0 rfl ?_
  refine jj_iconst d_Mo_steps_1 jc_i_0 ?_
  refine jj_putI d_Mo_steps_2 pk_Mo_43 (sh_Mo h_this).2 (sh_Mo h_this).1 rfl ?_
  refine jj_aload_n d_Mo_steps_5 rfl ?_
  refine jj_getI d_Mo_steps_6 fk_Mo_212 (sh_Mo h_this).2 (sh_Mo h_this).1 rfl rfl ?_
  cases h
  exact jj_ireturn d_Mo_steps_9 rfl ⟨rfl, rfl⟩
theorem c_Mo_steps {X : jj_X} {d : Nat} {this : Nat} (h_this : o_Mo this) {x : jj_Mem} {q : Int32 × jj_Mem} (h : f_Mo_steps this x = some q) : jj_Met Y0 X (d + 0) m_Mo_steps [.ref this] x (jp_i q) :=
  jj_metp 0 (lo := [some (.ref this)]) rfl (Nat.le_of_ble_eq_true rfl) rfl (t_Mo_steps_0 h_this h)
def f_Mo_thrown (this : Nat) (x : jj_Mem) : Option (Int32 × jj_Mem) :=
  some ((x this 0), x)
set_option maxHeartbeats 2000000 in
theorem t_Mo_thrown_0 {X : jj_X} {d : Nat} {this : Nat} (h_this : o_Mo this) {x : jj_Mem} {q : Int32 × jj_Mem} (h : f_Mo_thrown this x = some q) : jj_J Y0 X (d + 0) m_Mo_thrown 0 [some (.ref this)] [] x (jp_i q) := by
  unfold f_Mo_thrown at h
  refine jj_aload_n d_Mo_thrown_0 rfl ?_
  refine jj_getI d_Mo_thrown_1 fk_Mo_43 (sh_Mo h_this).2 (sh_Mo h_this).1 rfl rfl ?_
  cases h
  exact jj_ireturn d_Mo_thrown_4 rfl ⟨rfl, rfl⟩
theorem c_Mo_thrown {X : jj_X} {d : Nat} {this : Nat} (h_this : o_Mo this) {x : jj_Mem} {q : Int32 × jj_Mem} (h : f_Mo_thrown this x = some q) : jj_Met Y0 X (d + 0) m_Mo_thrown [.ref this] x (jp_i q) :=
  jj_metp 0 (lo := [some (.ref this)]) rfl (Nat.le_of_ble_eq_true rfl) rfl (t_Mo_thrown_0 h_this h)
def s_Mo_within (a1 a2 a3 : Int32) : Option Int32 := se_run true 3 (fun _ => none) (se_code m_Mo_within.2.1) 400 0 [a1, a2, a3] []
theorem c_Mo_within {X : jj_X} {d : Nat} {a1 a2 a3 : Int32} {x : jj_Mem} {v : Int32} (h : s_Mo_within a1 a2 a3 = some v) : jj_Met Y0 X (d + 0) m_Mo_within [.int a1, .int a2, .int a3] x (jp_i (v, x)) := by
  refine jj_metp 0 (lo := [some (.int a1), some (.int a2), some (.int a3)]) rfl (Nat.le_of_ble_eq_true rfl) rfl ?_
  exact jj_J.sub (se_sound0 (Y := Y0) (X := X) (d := d + 0) (M := m_Mo_within) (x := x) rfl rfl (fun _ _ h => se_code_ok h) 400 0 [a1, a2, a3] [] v h) (fun i u hi => jj_pad 0 hi)
def k_Mo_write_13 (rec : Nat → List (Option Value) → jj_Mem → Option (Int32 × jj_Mem)) (l0 : Nat) (s0 : Nat) (s1 : Int32) (x : jj_Mem) : Option (Int32 × jj_Mem) :=
  (if ((jj_set x s0 0 s1) l0 0) ≤ 0 then rec 35 [some (.ref l0), some (.int 0)] (jj_set (jj_set x s0 0 s1) l0 1 ((jj_set x s0 0 s1) l0 6)) else some (0, (jj_set x s0 0 s1)))
set_option maxHeartbeats 2000000 in
theorem t_Mo_write_13 {X : jj_X} {d : Nat} (rec : Nat → List (Option Value) → jj_Mem → Option (Int32 × jj_Mem)) (hrec : ∀ (L : Nat) (lo : List (Option Value)) (x : jj_Mem) (q : Int32 × jj_Mem), rec L lo x = some q → jj_J Y0 X (d + 0) m_Mo_write L lo [] x (jp_i q)) {l0 : Nat} {s0 : Nat} {s1 : Int32} (h_l0 : o_Mo l0) (h_s0 : o_Mo s0) {x : jj_Mem} {q : Int32 × jj_Mem} (h : k_Mo_write_13 rec l0 s0 s1 x = some q) : jj_J Y0 X (d + 0) m_Mo_write 13 [some (.ref l0), none] [.int s1, .ref s0] x (jp_i q) := by
  unfold k_Mo_write_13 at h
  refine jj_putI d_Mo_write_13 pk_Mo_43 (sh_Mo h_s0).2 (sh_Mo h_s0).1 rfl ?_
  refine jj_aload_n d_Mo_write_16 rfl ?_
  refine jj_getI d_Mo_write_17 fk_Mo_43 (sh_Mo h_l0).2 (sh_Mo h_l0).1 rfl rfl ?_
  refine jj_if_le (tgt := 25) d_Mo_write_20 rfl (fun c1 => ?_) (fun c1 => ?_)
  · rw [if_pos c1] at h
    refine jj_aload_n d_Mo_write_25 rfl ?_
    refine jj_aload_n d_Mo_write_26 rfl ?_
    refine jj_getI d_Mo_write_27 fk_Mo_105 (sh_Mo h_l0).2 (sh_Mo h_l0).1 rfl rfl ?_
    refine jj_putI d_Mo_write_30 pk_Mo_61 (sh_Mo h_l0).2 (sh_Mo h_l0).1 rfl ?_
    refine jj_iconst d_Mo_write_33 jc_i_0 ?_
    refine jj_istore_n (lo' := [_, _]) d_Mo_write_34 rfl (by decide) rfl ?_
    exact jj_J.sub (hrec _ _ _ _ h) (fun i v hi => jj_mask_ok [true, true] hi)
  · rw [if_neg c1] at h
    refine jj_iconst d_Mo_write_23 jc_i_0 ?_
    cases h
    exact jj_ireturn d_Mo_write_24 rfl ⟨rfl, rfl⟩
def k_Mo_write_35 (rec : Nat → List (Option Value) → jj_Mem → Option (Int32 × jj_Mem)) (l0 : Nat) (l1 : Int32) (x : jj_Mem) : Option (Int32 × jj_Mem) :=
  (if (x l0 1) ≤ l1 then some ((x l0 1), x) else if jj_inb l1 240 = true then if jj_inb l1 240 = true then rec 35 [some (.ref l0), some (.int (l1 + 1))] (jj_set x (l0 + 1) (Int32.toNatClampNeg l1) (x (l0 + 2) (Int32.toNatClampNeg l1))) else none else none)
set_option maxHeartbeats 2000000 in
theorem t_Mo_write_35 {X : jj_X} {d : Nat} (rec : Nat → List (Option Value) → jj_Mem → Option (Int32 × jj_Mem)) (hrec : ∀ (L : Nat) (lo : List (Option Value)) (x : jj_Mem) (q : Int32 × jj_Mem), rec L lo x = some q → jj_J Y0 X (d + 0) m_Mo_write L lo [] x (jp_i q)) {l0 : Nat} {l1 : Int32} (h_l0 : o_Mo l0) {x : jj_Mem} {q : Int32 × jj_Mem} (h : k_Mo_write_35 rec l0 l1 x = some q) : jj_J Y0 X (d + 0) m_Mo_write 35 [some (.ref l0), some (.int l1)] [] x (jp_i q) := by
  unfold k_Mo_write_35 at h
  refine jj_iload_n d_Mo_write_35 rfl ?_
  refine jj_aload_n d_Mo_write_36 rfl ?_
  refine jj_getI d_Mo_write_37 fk_Mo_61 (sh_Mo h_l0).2 (sh_Mo h_l0).1 rfl rfl ?_
  refine jj_ic_ge (tgt := 61) d_Mo_write_40 rfl (fun c1 => ?_) (fun c1 => ?_)
  · rw [if_pos c1] at h
    refine jj_aload_n d_Mo_write_61 rfl ?_
    refine jj_getI d_Mo_write_62 fk_Mo_61 (sh_Mo h_l0).2 (sh_Mo h_l0).1 rfl rfl ?_
    cases h
    exact jj_ireturn d_Mo_write_65 rfl ⟨rfl, rfl⟩
  · rw [if_neg c1] at h
    refine jj_aload_n d_Mo_write_43 rfl ?_
    refine jj_getR d_Mo_write_44 fk_Mo_7 (sh_Mo h_l0).2 (sh_Mo h_l0).1 rfl ?_
    refine jj_iload_n d_Mo_write_47 rfl ?_
    refine jj_aload_n d_Mo_write_48 rfl ?_
    refine jj_getR d_Mo_write_49 fk_Mo_13 (sh_Mo h_l0).2 (sh_Mo h_l0).1 rfl ?_
    refine jj_iload_n d_Mo_write_52 rfl ?_
    obtain ⟨i2, h⟩ := jj_gt h
    refine jj_iaload d_Mo_write_53 rfl (ar_Mo_kept h_l0).1 (ar_Mo_kept h_l0).2 (jj_inn i2) rfl ?_
    obtain ⟨i3, h⟩ := jj_gt h
    refine jj_iastore d_Mo_write_54 rfl (ar_Mo_file h_l0).1 (ar_Mo_file h_l0).2 (jj_inn i3) ?_
    refine jj_iinc (lo' := [_, _]) (v := (l1 + 1)) d_Mo_write_55 rfl (jc_a_1 _) rfl (by decide) rfl ?_
    refine jj_goto (tgt := 35) d_Mo_write_58 rfl ?_
    exact jj_J.sub (hrec _ _ _ _ h) (fun i v hi => jj_mask_ok [true, true] hi)
def g_Mo_write : Nat → Nat → List (Option Value) → jj_Mem → Option (Int32 × jj_Mem)
  | 0, _, _, _ => none
  | f + 1, L, lo, x => match L, lo with
    | 35, [some (.ref l0), some (.int l1)] => if (bo_Mo l0) = true then k_Mo_write_35 (g_Mo_write f) l0 l1 x else none
    | _, _ => none
set_option maxHeartbeats 2000000 in
theorem t_Mo_write_g {X : jj_X} {d : Nat} : ∀ (f L : Nat) (lo : List (Option Value)) (x : jj_Mem) (q : Int32 × jj_Mem), g_Mo_write f L lo x = some q → jj_J Y0 X (d + 0) m_Mo_write L lo [] x (jp_i q) := by
  intro f
  induction f with
  | zero => intro L lo x q h; simp [g_Mo_write] at h
  | succ f ih =>
    intro L lo x q h
    unfold g_Mo_write at h
    split at h
    · obtain ⟨i1, h⟩ := jj_gt h
      exact t_Mo_write_35 _ ih (ob_Mo i1) h
    · cases h
def k_Mo_write_0 (rec : Nat → List (Option Value) → jj_Mem → Option (Int32 × jj_Mem)) (this : Nat) (x : jj_Mem) : Option (Int32 × jj_Mem) :=
  (if (x this 5) = 0 then k_Mo_write_13 rec this this 1 x else k_Mo_write_13 rec this this 0 x)
set_option maxHeartbeats 2000000 in
theorem t_Mo_write_0 {X : jj_X} {d : Nat} (rec : Nat → List (Option Value) → jj_Mem → Option (Int32 × jj_Mem)) (hrec : ∀ (L : Nat) (lo : List (Option Value)) (x : jj_Mem) (q : Int32 × jj_Mem), rec L lo x = some q → jj_J Y0 X (d + 0) m_Mo_write L lo [] x (jp_i q)) {this : Nat} (h_this : o_Mo this) {x : jj_Mem} {q : Int32 × jj_Mem} (h : k_Mo_write_0 rec this x = some q) : jj_J Y0 X (d + 0) m_Mo_write 0 [some (.ref this), none] [] x (jp_i q) := by
  unfold k_Mo_write_0 at h
  refine jj_aload_n d_Mo_write_0 rfl ?_
  refine jj_aload_n d_Mo_write_1 rfl ?_
  refine jj_getI d_Mo_write_2 fk_Mo_102 (sh_Mo h_this).2 (sh_Mo h_this).1 rfl rfl ?_
  refine jj_if_eq (tgt := 12) d_Mo_write_5 rfl (fun c1 => ?_) (fun c1 => ?_)
  · rw [if_pos c1] at h
    refine jj_iconst d_Mo_write_12 jc_i_1 ?_
    exact jj_J.sub (t_Mo_write_13 rec hrec h_this h_this h) (fun i v hi => jj_mask_ok [true, false] hi)
  · rw [if_neg c1] at h
    refine jj_iconst d_Mo_write_8 jc_i_0 ?_
    refine jj_goto (tgt := 13) d_Mo_write_9 rfl ?_
    exact jj_J.sub (t_Mo_write_13 rec hrec h_this h_this h) (fun i v hi => jj_mask_ok [true, false] hi)
def f_Mo_write (this : Nat) (x : jj_Mem) : Option (Int32 × jj_Mem) := k_Mo_write_0 (g_Mo_write 1000) this x
theorem c_Mo_write {X : jj_X} {d : Nat} {this : Nat} (h_this : o_Mo this) {x : jj_Mem} {q : Int32 × jj_Mem} (h : f_Mo_write this x = some q) : jj_Met Y0 X (d + 0) m_Mo_write [.ref this] x (jp_i q) :=
  jj_metp 1 (lo := [some (.ref this), none]) rfl (Nat.le_of_ble_eq_true rfl) rfl (t_Mo_write_0 _ (t_Mo_write_g 1000) h_this h)
def k_Mo_argue_31 (rec : Nat → List (Option Value) → jj_Mem → Option (jj_Mem)) (l0 : Nat) (l1 : Int32) (l2 : Int32) (x : jj_Mem) : Option (jj_Mem) :=
  if jj_inb l1 24 = true then (if (x (l0 + 3) (Int32.toNatClampNeg l1)) = 2 then jj_b2 (f_Mo_makeRow l0 (l2 &&& 7) x) (fun r3 x3 => rec 53 [some (.ref l0), some (.int l1), some (.int l2), some (.int r3), some (.int 0)] x3) else some x) else none
set_option maxHeartbeats 2000000 in
theorem t_Mo_argue_31 {X : jj_X} {d : Nat} (rec : Nat → List (Option Value) → jj_Mem → Option (jj_Mem)) (hrec : ∀ (L : Nat) (lo : List (Option Value)) (x : jj_Mem) (q : jj_Mem), rec L lo x = some q → jj_J Y0 X (d + 1) m_Mo_argue L lo [] x (jp_v q)) {l0 : Nat} {l1 : Int32} {l2 : Int32} (h_l0 : o_Mo l0) {x : jj_Mem} {q : jj_Mem} (h : k_Mo_argue_31 rec l0 l1 l2 x = some q) : jj_J Y0 X (d + 1) m_Mo_argue 31 [some (.ref l0), some (.int l1), some (.int l2), none, none] [] x (jp_v q) := by
  unfold k_Mo_argue_31 at h
  refine jj_aload_n d_Mo_argue_31 rfl ?_
  refine jj_getR d_Mo_argue_32 fk_Mo_16 (sh_Mo h_l0).2 (sh_Mo h_l0).1 rfl ?_
  refine jj_iload_n d_Mo_argue_35 rfl ?_
  obtain ⟨i1, h⟩ := jj_gt h
  refine jj_iaload d_Mo_argue_36 rfl (ar_Mo_placeKind h_l0).1 (ar_Mo_placeKind h_l0).2 (jj_inn i1) rfl ?_
  refine jj_iconst d_Mo_argue_37 jc_i_2 ?_
  refine jj_ic_ne (tgt := 93) d_Mo_argue_38 rfl (fun c2 => ?_) (fun c2 => ?_)
  · rw [if_neg c2] at h
    cases h
    exact jj_return d_Mo_argue_93 rfl ⟨rfl, rfl⟩
  · rw [if_pos c2] at h
    refine jj_aload_n d_Mo_argue_41 rfl ?_
    refine jj_iload_n d_Mo_argue_42 rfl ?_
    refine jj_bipush d_Mo_argue_43 jc_b_7 ?_
    refine jj_iand d_Mo_argue_45 ?_
    obtain ⟨r3, x3, e3, h⟩ := jj_b2o h
    refine jj_callVi (as := [.int (l2 &&& 7)]) (c_Mo_makeRow (d := d + 0) h_l0 e3) d_Mo_argue_46 ck_Mo_207 (sh_Mo h_l0).2 (sh_Mo h_l0).1 ⟨_, rfl, rfl⟩ rfl rfl (Nat.le_of_ble_eq_true rfl) ?_
    refine jj_istore_n (lo' := [_, _, _, _, _]) d_Mo_argue_49 rfl (by decide) rfl ?_
    refine jj_iconst d_Mo_argue_50 jc_i_0 ?_
    refine jj_istore (lo' := [_, _, _, _, _]) d_Mo_argue_51 rfl (by decide) rfl ?_
    exact jj_J.sub (hrec _ _ _ _ h) (fun i v hi => jj_mask_ok [true, true, true, true, true] hi)
def k_Mo_argue_53 (rec : Nat → List (Option Value) → jj_Mem → Option (jj_Mem)) (l0 : Nat) (l1 : Int32) (l2 : Int32) (l3 : Int32) (l4 : Int32) (x : jj_Mem) : Option (jj_Mem) :=
  if jj_inb l3 8 = true then (if (x (l0 + 10) (Int32.toNatClampNeg l3)) ≤ l4 then if jj_inb l1 24 = true then some (jj_set x (l0 + 4) (Int32.toNatClampNeg l1) l3) else none else if jj_inb ((8 * l3) + l4) 64 = true then rec 53 [some (.ref l0), some (.int l1), some (.int l2), some (.int l3), some (.int (l4 + 1))] (jj_set x (l0 + 11) (Int32.toNatClampNeg ((8 * l3) + l4)) (l2 + l4)) else none) else none
set_option maxHeartbeats 2000000 in
theorem t_Mo_argue_53 {X : jj_X} {d : Nat} (rec : Nat → List (Option Value) → jj_Mem → Option (jj_Mem)) (hrec : ∀ (L : Nat) (lo : List (Option Value)) (x : jj_Mem) (q : jj_Mem), rec L lo x = some q → jj_J Y0 X (d + 1) m_Mo_argue L lo [] x (jp_v q)) {l0 : Nat} {l1 : Int32} {l2 : Int32} {l3 : Int32} {l4 : Int32} (h_l0 : o_Mo l0) {x : jj_Mem} {q : jj_Mem} (h : k_Mo_argue_53 rec l0 l1 l2 l3 l4 x = some q) : jj_J Y0 X (d + 1) m_Mo_argue 53 [some (.ref l0), some (.int l1), some (.int l2), some (.int l3), some (.int l4)] [] x (jp_v q) := by
  unfold k_Mo_argue_53 at h
  refine jj_iload d_Mo_argue_53 rfl ?_
  refine jj_aload_n d_Mo_argue_55 rfl ?_
  refine jj_getR d_Mo_argue_56 fk_Mo_37 (sh_Mo h_l0).2 (sh_Mo h_l0).1 rfl ?_
  refine jj_iload_n d_Mo_argue_59 rfl ?_
  obtain ⟨i1, h⟩ := jj_gt h
  refine jj_iaload d_Mo_argue_60 rfl (ar_Mo_rowSize h_l0).1 (ar_Mo_rowSize h_l0).2 (jj_inn i1) rfl ?_
  refine jj_ic_ge (tgt := 86) d_Mo_argue_61 rfl (fun c2 => ?_) (fun c2 => ?_)
  · rw [if_pos c2] at h
    refine jj_aload_n d_Mo_argue_86 rfl ?_
    refine jj_getR d_Mo_argue_87 fk_Mo_19 (sh_Mo h_l0).2 (sh_Mo h_l0).1 rfl ?_
    refine jj_iload_n d_Mo_argue_90 rfl ?_
    refine jj_iload_n d_Mo_argue_91 rfl ?_
    obtain ⟨i3, h⟩ := jj_gt h
    refine jj_iastore d_Mo_argue_92 rfl (ar_Mo_placeValue h_l0).1 (ar_Mo_placeValue h_l0).2 (jj_inn i3) ?_
    cases h
    exact jj_return d_Mo_argue_93 rfl ⟨rfl, rfl⟩
  · rw [if_neg c2] at h
    refine jj_aload_n d_Mo_argue_64 rfl ?_
    refine jj_getR d_Mo_argue_65 fk_Mo_40 (sh_Mo h_l0).2 (sh_Mo h_l0).1 rfl ?_
    refine jj_bipush d_Mo_argue_68 jc_b_8 ?_
    refine jj_iload_n d_Mo_argue_70 rfl ?_
    refine jj_imul d_Mo_argue_71 ?_
    refine jj_iload d_Mo_argue_72 rfl ?_
    refine jj_iadd d_Mo_argue_74 ?_
    refine jj_iload_n d_Mo_argue_75 rfl ?_
    refine jj_iload d_Mo_argue_76 rfl ?_
    refine jj_iadd d_Mo_argue_78 ?_
    obtain ⟨i4, h⟩ := jj_gt h
    refine jj_iastore d_Mo_argue_79 rfl (ar_Mo_cells h_l0).1 (ar_Mo_cells h_l0).2 (jj_inn i4) ?_
    refine jj_iinc (lo' := [_, _, _, _, _]) (v := (l4 + 1)) d_Mo_argue_80 rfl (jc_a_1 _) rfl (by decide) rfl ?_
    refine jj_goto (tgt := 53) d_Mo_argue_83 rfl ?_
    exact jj_J.sub (hrec _ _ _ _ h) (fun i v hi => jj_mask_ok [true, true, true, true, true] hi)
def g_Mo_argue : Nat → Nat → List (Option Value) → jj_Mem → Option (jj_Mem)
  | 0, _, _, _ => none
  | f + 1, L, lo, x => match L, lo with
    | 53, [some (.ref l0), some (.int l1), some (.int l2), some (.int l3), some (.int l4)] => if (bo_Mo l0) = true then k_Mo_argue_53 (g_Mo_argue f) l0 l1 l2 l3 l4 x else none
    | _, _ => none
set_option maxHeartbeats 2000000 in
theorem t_Mo_argue_g {X : jj_X} {d : Nat} : ∀ (f L : Nat) (lo : List (Option Value)) (x : jj_Mem) (q : jj_Mem), g_Mo_argue f L lo x = some q → jj_J Y0 X (d + 1) m_Mo_argue L lo [] x (jp_v q) := by
  intro f
  induction f with
  | zero => intro L lo x q h; simp [g_Mo_argue] at h
  | succ f ih =>
    intro L lo x q h
    unfold g_Mo_argue at h
    split at h
    · obtain ⟨i1, h⟩ := jj_gt h
      exact t_Mo_argue_53 _ ih (ob_Mo i1) h
    · cases h
def k_Mo_argue_0 (rec : Nat → List (Option Value) → jj_Mem → Option (jj_Mem)) (this : Nat) (a1 : Int32) (a2 : Int32) (x : jj_Mem) : Option (jj_Mem) :=
  if jj_inb a1 24 = true then if jj_inb a1 24 = true then (if ((jj_set x (this + 4) (Int32.toNatClampNeg a1) a2) (this + 3) (Int32.toNatClampNeg a1)) = 2 then (if 0 ≤ a2 then k_Mo_argue_31 rec this a1 a2 (jj_set x (this + 4) (Int32.toNatClampNeg a1) a2) else if jj_inb a1 24 = true then some (jj_set (jj_set x (this + 4) (Int32.toNatClampNeg a1) a2) (this + 3) (Int32.toNatClampNeg a1) 3) else none) else k_Mo_argue_31 rec this a1 a2 (jj_set x (this + 4) (Int32.toNatClampNeg a1) a2)) else none else none
set_option maxHeartbeats 2000000 in
theorem t_Mo_argue_0 {X : jj_X} {d : Nat} (rec : Nat → List (Option Value) → jj_Mem → Option (jj_Mem)) (hrec : ∀ (L : Nat) (lo : List (Option Value)) (x : jj_Mem) (q : jj_Mem), rec L lo x = some q → jj_J Y0 X (d + 1) m_Mo_argue L lo [] x (jp_v q)) {this : Nat} {a1 : Int32} {a2 : Int32} (h_this : o_Mo this) {x : jj_Mem} {q : jj_Mem} (h : k_Mo_argue_0 rec this a1 a2 x = some q) : jj_J Y0 X (d + 1) m_Mo_argue 0 [some (.ref this), some (.int a1), some (.int a2), none, none] [] x (jp_v q) := by
  unfold k_Mo_argue_0 at h
  refine jj_aload_n d_Mo_argue_0 rfl ?_
  refine jj_getR d_Mo_argue_1 fk_Mo_19 (sh_Mo h_this).2 (sh_Mo h_this).1 rfl ?_
  refine jj_iload_n d_Mo_argue_4 rfl ?_
  refine jj_iload_n d_Mo_argue_5 rfl ?_
  obtain ⟨i1, h⟩ := jj_gt h
  refine jj_iastore d_Mo_argue_6 rfl (ar_Mo_placeValue h_this).1 (ar_Mo_placeValue h_this).2 (jj_inn i1) ?_
  refine jj_aload_n d_Mo_argue_7 rfl ?_
  refine jj_getR d_Mo_argue_8 fk_Mo_16 (sh_Mo h_this).2 (sh_Mo h_this).1 rfl ?_
  refine jj_iload_n d_Mo_argue_11 rfl ?_
  obtain ⟨i2, h⟩ := jj_gt h
  refine jj_iaload d_Mo_argue_12 rfl (ar_Mo_placeKind h_this).1 (ar_Mo_placeKind h_this).2 (jj_inn i2) rfl ?_
  refine jj_iconst d_Mo_argue_13 jc_i_2 ?_
  refine jj_ic_ne (tgt := 31) d_Mo_argue_14 rfl (fun c3 => ?_) (fun c3 => ?_)
  · rw [if_neg c3] at h
    exact jj_J.sub (t_Mo_argue_31 rec hrec h_this h) (fun i v hi => jj_mask_ok [true, true, true, false, false] hi)
  · rw [if_pos c3] at h
    refine jj_iload_n d_Mo_argue_17 rfl ?_
    refine jj_if_ge (tgt := 31) d_Mo_argue_18 rfl (fun c4 => ?_) (fun c4 => ?_)
    · rw [if_pos c4] at h
      exact jj_J.sub (t_Mo_argue_31 rec hrec h_this h) (fun i v hi => jj_mask_ok [true, true, true, false, false] hi)
    · rw [if_neg c4] at h
      refine jj_aload_n d_Mo_argue_21 rfl ?_
      refine jj_getR d_Mo_argue_22 fk_Mo_16 (sh_Mo h_this).2 (sh_Mo h_this).1 rfl ?_
      refine jj_iload_n d_Mo_argue_25 rfl ?_
      refine jj_iconst d_Mo_argue_26 jc_i_3 ?_
      obtain ⟨i5, h⟩ := jj_gt h
      refine jj_iastore d_Mo_argue_27 rfl (ar_Mo_placeKind h_this).1 (ar_Mo_placeKind h_this).2 (jj_inn i5) ?_
      refine jj_goto (tgt := 93) d_Mo_argue_28 rfl ?_
      cases h
      exact jj_return d_Mo_argue_93 rfl ⟨rfl, rfl⟩
def f_Mo_argue (this : Nat) (a1 : Int32) (a2 : Int32) (x : jj_Mem) : Option (jj_Mem) := k_Mo_argue_0 (g_Mo_argue 1000) this a1 a2 x
theorem c_Mo_argue {X : jj_X} {d : Nat} {this : Nat} {a1 : Int32} {a2 : Int32} (h_this : o_Mo this) {x : jj_Mem} {q : jj_Mem} (h : f_Mo_argue this a1 a2 x = some q) : jj_Met Y0 X (d + 1) m_Mo_argue [.ref this, .int a1, .int a2] x (jp_v q) :=
  jj_metp 2 (lo := [some (.ref this), some (.int a1), some (.int a2), none, none]) rfl (Nat.le_of_ble_eq_true rfl) rfl (t_Mo_argue_0 _ (t_Mo_argue_g 1000) h_this h)
