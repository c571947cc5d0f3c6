def k_Ck_entersFrame_36 (rec : Nat → List (Option Value) → jj_Mem → Option (Int32 × jj_Mem)) (l0 : Nat) (l1 : Nat) (l2 : Nat) (l4 : Int32) (x : jj_Mem) : Option (Int32 × jj_Mem) :=
  rec 39 [some (.ref l0), some (.ref l1), some (.ref l2), none, some (.int l4), some (.int 0)] x
set_option maxHeartbeats 2000000 in
theorem t_Ck_entersFrame_36 {X : jj_X} {d : Nat} (rec : Nat → List (Option Value) → jj_Mem → Option (Int32 × jj_Mem)) (hrec : ∀ (L : Nat) (lo : List (Option Value)) (x : jj_Mem) (q : Int32 × jj_Mem), rec L lo x = some q → jj_J Y0 X (d + 2) m_Ck_entersFrame L lo [] x (jp_i q)) {l0 : Nat} {l1 : Nat} {l2 : Nat} {l4 : Int32} (h_l0 : o_Ck l0) (h_l1 : o_Pr l1) (h_l2 : o_Me l2) {x : jj_Mem} {q : Int32 × jj_Mem} (h : k_Ck_entersFrame_36 rec l0 l1 l2 l4 x = some q) : jj_J Y0 X (d + 2) m_Ck_entersFrame 36 [some (.ref l0), some (.ref l1), some (.ref l2), none, some (.int l4), none] [] x (jp_i q) := by
  unfold k_Ck_entersFrame_36 at h
  refine jj_iconst d_Ck_entersFrame_36 jc_i_0 ?_
  refine jj_istore (lo' := [_, _, _, _, _, _]) d_Ck_entersFrame_37 rfl (by decide) rfl ?_
  exact jj_J.sub (hrec _ _ _ _ h) (fun i v hi => jj_mask_ok [true, true, true, false, true, true] hi)
def k_Ck_entersFrame_84 (rec : Nat → List (Option Value) → jj_Mem → Option (Int32 × jj_Mem)) (l0 : Nat) (l1 : Nat) (l2 : Nat) (l4 : Int32) (l5 : Int32) (x : jj_Mem) : Option (Int32 × jj_Mem) :=
  jj_b2 (f_Pr_frameHeight l1 l2 l4 x) (fun r1 x1 => (if r1 ≤ l5 then some (1, (jj_set x1 l0 1 1)) else jj_b2 (f_Pr_frameValue l1 l2 l4 l5 x1) (fun r3 x3 => jj_b1 (f_St_put (l0 + 1) r3 0 x3) (fun x4 => rec 84 [some (.ref l0), some (.ref l1), some (.ref l2), none, some (.int l4), some (.int (l5 + 1))] x4))))
set_option maxHeartbeats 2000000 in
theorem t_Ck_entersFrame_84 {X : jj_X} {d : Nat} (rec : Nat → List (Option Value) → jj_Mem → Option (Int32 × jj_Mem)) (hrec : ∀ (L : Nat) (lo : List (Option Value)) (x : jj_Mem) (q : Int32 × jj_Mem), rec L lo x = some q → jj_J Y0 X (d + 2) m_Ck_entersFrame L lo [] x (jp_i q)) {l0 : Nat} {l1 : Nat} {l2 : Nat} {l4 : Int32} {l5 : Int32} (h_l0 : o_Ck l0) (h_l1 : o_Pr l1) (h_l2 : o_Me l2) {x : jj_Mem} {q : Int32 × jj_Mem} (h : k_Ck_entersFrame_84 rec l0 l1 l2 l4 l5 x = some q) : jj_J Y0 X (d + 2) m_Ck_entersFrame 84 [some (.ref l0), some (.ref l1), some (.ref l2), none, some (.int l4), some (.int l5)] [] x (jp_i q) := by
  unfold k_Ck_entersFrame_84 at h
  refine jj_iload d_Ck_entersFrame_84 rfl ?_
  refine jj_aload_n d_Ck_entersFrame_86 rfl ?_
  refine jj_aload_n d_Ck_entersFrame_87 rfl ?_
  refine jj_iload d_Ck_entersFrame_88 rfl ?_
  obtain ⟨r1, x1, e1, h⟩ := jj_b2o h
  refine jj_callVi (as := [.ref l2, .int l4]) (c_Pr_frameHeight (d := d + 1) h_l1 h_l2 e1) d_Ck_entersFrame_90 ck_Ck_93 (sh_Pr h_l1).2 (sh_Pr h_l1).1 ⟨_, rfl, rfl⟩ rfl rfl (Nat.le_of_ble_eq_true rfl) ?_
  refine jj_ic_ge (tgt := 119) d_Ck_entersFrame_93 rfl (fun c2 => ?_) (fun c2 => ?_)
  · rw [if_pos c2] at h
    refine jj_aload_n d_Ck_entersFrame_119 rfl ?_
    refine jj_iconst d_Ck_entersFrame_120 jc_i_1 ?_
    refine jj_putZ d_Ck_entersFrame_121 pk_Ck_37 (sh_Ck h_l0).2 (sh_Ck h_l0).1 rfl (Or.inr rfl) ?_
    refine jj_iconst d_Ck_entersFrame_124 jc_i_1 ?_
    cases h
    exact jj_zreturn d_Ck_entersFrame_125 rfl (Or.inr rfl) ⟨rfl, rfl⟩
  · rw [if_neg c2] at h
    refine jj_aload_n d_Ck_entersFrame_96 rfl ?_
    refine jj_getR d_Ck_entersFrame_97 fk_Ck_12 (sh_Ck h_l0).2 (sh_Ck h_l0).1 rfl ?_
    refine jj_aload_n d_Ck_entersFrame_100 rfl ?_
    refine jj_aload_n d_Ck_entersFrame_101 rfl ?_
    refine jj_iload d_Ck_entersFrame_102 rfl ?_
    refine jj_iload d_Ck_entersFrame_104 rfl ?_
    obtain ⟨r3, x3, e3, h⟩ := jj_b2o h
    refine jj_callVi (as := [.ref l2, .int l4, .int l5]) (c_Pr_frameValue (d := d + 1) h_l1 h_l2 e3) d_Ck_entersFrame_106 ck_Ck_96 (sh_Pr h_l1).2 (sh_Pr h_l1).1 ⟨_, rfl, rfl⟩ rfl rfl (Nat.le_of_ble_eq_true rfl) ?_
    refine jj_iconst d_Ck_entersFrame_109 jc_i_0 ?_
    obtain ⟨x4, e4, h⟩ := jj_b1o h
    refine jj_callVv (as := [.int r3, .int 0]) (c_St_put (d := d + 1) (ro_Ck_state h_l0) e4) d_Ck_entersFrame_110 ck_Ck_99 (sh_St (ro_Ck_state h_l0)).2 (sh_St (ro_Ck_state h_l0)).1 ⟨_, rfl, rfl⟩ rfl rfl (Nat.le_of_ble_eq_true rfl) ?_
    refine jj_iinc (lo' := [_, _, _, _, _, _]) (v := (l5 + 1)) d_Ck_entersFrame_113 rfl (jc_a_1 _) rfl (by decide) rfl ?_
    refine jj_goto (tgt := 84) d_Ck_entersFrame_116 rfl ?_
    exact jj_J.sub (hrec _ _ _ _ h) (fun i v hi => jj_mask_ok [true, true, true, false, true, true] hi)
def k_Ck_entersFrame_39 (rec : Nat → List (Option Value) → jj_Mem → Option (Int32 × jj_Mem)) (l0 : Nat) (l1 : Nat) (l2 : Nat) (l4 : Int32) (l5 : Int32) (x : jj_Mem) : Option (Int32 × jj_Mem) :=
  (if (x l2 4) ≤ l5 then rec 84 [some (.ref l0), some (.ref l1), some (.ref l2), none, some (.int l4), some (.int 0)] (jj_set x (l0 + 1) 4 0) else jj_b2 (f_Pr_framePlace l1 l2 l4 l5 x) (fun r2 x2 => jj_b1 (f_St_setPlace (l0 + 1) l5 r2 0 x2) (fun x3 => rec 39 [some (.ref l0), some (.ref l1), some (.ref l2), none, some (.int l4), some (.int (l5 + 1))] x3)))
set_option maxHeartbeats 2000000 in
theorem t_Ck_entersFrame_39 {X : jj_X} {d : Nat} (rec : Nat → List (Option Value) → jj_Mem → Option (Int32 × jj_Mem)) (hrec : ∀ (L : Nat) (lo : List (Option Value)) (x : jj_Mem) (q : Int32 × jj_Mem), rec L lo x = some q → jj_J Y0 X (d + 2) m_Ck_entersFrame L lo [] x (jp_i q)) {l0 : Nat} {l1 : Nat} {l2 : Nat} {l4 : Int32} {l5 : Int32} (h_l0 : o_Ck l0) (h_l1 : o_Pr l1) (h_l2 : o_Me l2) {x : jj_Mem} {q : Int32 × jj_Mem} (h : k_Ck_entersFrame_39 rec l0 l1 l2 l4 l5 x = some q) : jj_J Y0 X (d + 2) m_Ck_entersFrame 39 [some (.ref l0), some (.ref l1), some (.ref l2), none, some (.int l4), some (.int l5)] [] x (jp_i q) := by
  unfold k_Ck_entersFrame_39 at h
  refine jj_iload d_Ck_entersFrame_39 rfl ?_
  refine jj_aload_n d_Ck_entersFrame_41 rfl ?_
  refine jj_getI d_Ck_entersFrame_42 fk_Ck_83 (sh_Me h_l2).2 (sh_Me h_l2).1 rfl rfl ?_
  refine jj_ic_ge (tgt := 73) d_Ck_entersFrame_45 rfl (fun c1 => ?_) (fun c1 => ?_)
  · rw [if_pos c1] at h
    refine jj_aload_n d_Ck_entersFrame_73 rfl ?_
    refine jj_getR d_Ck_entersFrame_74 fk_Ck_12 (sh_Ck h_l0).2 (sh_Ck h_l0).1 rfl ?_
    refine jj_iconst d_Ck_entersFrame_77 jc_i_0 ?_
    refine jj_putI d_Ck_entersFrame_78 pk_Ck_90 (sh_St (ro_Ck_state h_l0)).2 (sh_St (ro_Ck_state h_l0)).1 rfl ?_
    refine jj_iconst d_Ck_entersFrame_81 jc_i_0 ?_
    refine jj_istore (lo' := [_, _, _, _, _, _]) d_Ck_entersFrame_82 rfl (by decide) rfl ?_
    exact jj_J.sub (hrec _ _ _ _ h) (fun i v hi => jj_mask_ok [true, true, true, false, true, true] hi)
  · rw [if_neg c1] at h
    refine jj_aload_n d_Ck_entersFrame_48 rfl ?_
    refine jj_getR d_Ck_entersFrame_49 fk_Ck_12 (sh_Ck h_l0).2 (sh_Ck h_l0).1 rfl ?_
    refine jj_iload d_Ck_entersFrame_52 rfl ?_
    refine jj_aload_n d_Ck_entersFrame_54 rfl ?_
    refine jj_aload_n d_Ck_entersFrame_55 rfl ?_
    refine jj_iload d_Ck_entersFrame_56 rfl ?_
    refine jj_iload d_Ck_entersFrame_58 rfl ?_
    obtain ⟨r2, x2, e2, h⟩ := jj_b2o h
    refine jj_callVi (as := [.ref l2, .int l4, .int l5]) (c_Pr_framePlace (d := d + 1) h_l1 h_l2 e2) d_Ck_entersFrame_60 ck_Ck_86 (sh_Pr h_l1).2 (sh_Pr h_l1).1 ⟨_, rfl, rfl⟩ rfl rfl (Nat.le_of_ble_eq_true rfl) ?_
    refine jj_iconst d_Ck_entersFrame_63 jc_i_0 ?_
    obtain ⟨x3, e3, h⟩ := jj_b1o h
    refine jj_callVv (as := [.int l5, .int r2, .int 0]) (c_St_setPlace (d := d + 1) (ro_Ck_state h_l0) e3) d_Ck_entersFrame_64 ck_Ck_33 (sh_St (ro_Ck_state h_l0)).2 (sh_St (ro_Ck_state h_l0)).1 ⟨_, rfl, rfl⟩ rfl rfl (Nat.le_of_ble_eq_true rfl) ?_
    refine jj_iinc (lo' := [_, _, _, _, _, _]) (v := (l5 + 1)) d_Ck_entersFrame_67 rfl (jc_a_1 _) rfl (by decide) rfl ?_
    refine jj_goto (tgt := 39) d_Ck_entersFrame_70 rfl ?_
    exact jj_J.sub (hrec _ _ _ _ h) (fun i v hi => jj_mask_ok [true, true, true, false, true, true] hi)
def g_Ck_entersFrame : Nat → Nat → List (Option Value) → jj_Mem → Option (Int32 × jj_Mem)
  | 0, _, _, _ => none
  | f + 1, L, lo, x => match L, lo with
    | 39, [some (.ref l0), some (.ref l1), some (.ref l2), none, some (.int l4), some (.int l5)] => if (bo_Ck l0 && bo_Pr l1 && bo_Me l2) = true then k_Ck_entersFrame_39 (g_Ck_entersFrame f) l0 l1 l2 l4 l5 x else none
    | 84, [some (.ref l0), some (.ref l1), some (.ref l2), none, some (.int l4), some (.int l5)] => if (bo_Ck l0 && bo_Pr l1 && bo_Me l2) = true then k_Ck_entersFrame_84 (g_Ck_entersFrame f) l0 l1 l2 l4 l5 x else none
    | _, _ => none
set_option maxHeartbeats 2000000 in
theorem t_Ck_entersFrame_g {X : jj_X} {d : Nat} : ∀ (f L : Nat) (lo : List (Option Value)) (x : jj_Mem) (q : Int32 × jj_Mem), g_Ck_entersFrame f L lo x = some q → jj_J Y0 X (d + 2) m_Ck_entersFrame L lo [] x (jp_i q) := by
  intro f
  induction f with
  | zero => intro L lo x q h; simp [g_Ck_entersFrame] at h
  | succ f ih =>
    intro L lo x q h
    unfold g_Ck_entersFrame at h
    split at h
    · obtain ⟨i1, h⟩ := jj_gt h
      exact t_Ck_entersFrame_39 _ ih (ob_Ck (jj_andl (jj_andl i1))) (ob_Pr (jj_andr (jj_andl i1))) (ob_Me (jj_andr i1)) h
    · obtain ⟨i1, h⟩ := jj_gt h
      exact t_Ck_entersFrame_84 _ ih (ob_Ck (jj_andl (jj_andl i1))) (ob_Pr (jj_andr (jj_andl i1))) (ob_Me (jj_andr i1)) h
    · cases h
def k_Ck_entersFrame_0 (rec : Nat → List (Option Value) → jj_Mem → Option (Int32 × jj_Mem)) (this : Nat) (a1 : Nat) (a2 : Nat) (a3 : Int32) (x : jj_Mem) : Option (Int32 × jj_Mem) :=
  jj_b2 (f_Pr_frameAt a1 a2 a3 x) (fun r1 x1 => (if r1 = (-1) then some (1, x1) else (if (x1 this 1) = 0 then k_Ck_entersFrame_36 rec this a1 a2 r1 x1 else jj_b2 (f_Ck_isGoodForFrame this a1 a2 r1 x1) (fun r4 x4 => (if r4 = 0 then some (0, x4) else k_Ck_entersFrame_36 rec this a1 a2 r1 x4)))))
set_option maxHeartbeats 2000000 in
theorem t_Ck_entersFrame_0 {X : jj_X} {d : Nat} (rec : Nat → List (Option Value) → jj_Mem → Option (Int32 × jj_Mem)) (hrec : ∀ (L : Nat) (lo : List (Option Value)) (x : jj_Mem) (q : Int32 × jj_Mem), rec L lo x = some q → jj_J Y0 X (d + 2) m_Ck_entersFrame L lo [] x (jp_i q)) {this : Nat} {a1 : Nat} {a2 : Nat} {a3 : Int32} (h_this : o_Ck this) (h_a1 : o_Pr a1) (h_a2 : o_Me a2) {x : jj_Mem} {q : Int32 × jj_Mem} (h : k_Ck_entersFrame_0 rec this a1 a2 a3 x = some q) : jj_J Y0 X (d + 2) m_Ck_entersFrame 0 [some (.ref this), some (.ref a1), some (.ref a2), some (.int a3), none, none] [] x (jp_i q) := by
  unfold k_Ck_entersFrame_0 at h
  refine jj_aload_n d_Ck_entersFrame_0 rfl ?_
  refine jj_aload_n d_Ck_entersFrame_1 rfl ?_
  refine jj_iload_n d_Ck_entersFrame_2 rfl ?_
  obtain ⟨r1, x1, e1, h⟩ := jj_b2o h
  refine jj_callVi (as := [.ref a2, .int a3]) (c_Pr_frameAt (d := d + 0) h_a1 h_a2 e1) d_Ck_entersFrame_3 ck_Ck_77 (sh_Pr h_a1).2 (sh_Pr h_a1).1 ⟨_, rfl, rfl⟩ rfl rfl (Nat.le_of_ble_eq_true rfl) ?_
  refine jj_istore (lo' := [_, _, _, _, _, _]) d_Ck_entersFrame_6 rfl (by decide) rfl ?_
  refine jj_iload d_Ck_entersFrame_8 rfl ?_
  refine jj_iconst d_Ck_entersFrame_10 jc_i_m1 ?_
  refine jj_ic_ne (tgt := 16) d_Ck_entersFrame_11 rfl (fun c2 => ?_) (fun c2 => ?_)
  · rw [if_neg c2] at h
    refine jj_aload_n d_Ck_entersFrame_16 rfl ?_
    refine jj_getI d_Ck_entersFrame_17 fk_Ck_37 (sh_Ck h_this).2 (sh_Ck h_this).1 rfl rfl ?_
    refine jj_if_eq (tgt := 36) d_Ck_entersFrame_20 rfl (fun c3 => ?_) (fun c3 => ?_)
    · rw [if_pos c3] at h
      exact jj_J.sub (t_Ck_entersFrame_36 rec hrec h_this h_a1 h_a2 h) (fun i v hi => jj_mask_ok [true, true, true, false, true, false] hi)
    · rw [if_neg c3] at h
      refine jj_aload_n d_Ck_entersFrame_23 rfl ?_
      refine jj_aload_n d_Ck_entersFrame_24 rfl ?_
      refine jj_aload_n d_Ck_entersFrame_25 rfl ?_
      refine jj_iload d_Ck_entersFrame_26 rfl ?_
      obtain ⟨r4, x4, e4, h⟩ := jj_b2o h
      refine jj_callVi (as := [.ref a1, .ref a2, .int r1]) (c_Ck_isGoodForFrame (d := d + 0) h_this h_a1 h_a2 e4) d_Ck_entersFrame_28 ck_Ck_80 (sh_Ck h_this).2 (sh_Ck h_this).1 ⟨_, rfl, rfl⟩ rfl rfl (Nat.le_of_ble_eq_true rfl) ?_
      refine jj_if_ne (tgt := 36) d_Ck_entersFrame_31 rfl (fun c5 => ?_) (fun c5 => ?_)
      · rw [if_neg c5] at h
        exact jj_J.sub (t_Ck_entersFrame_36 rec hrec h_this h_a1 h_a2 h) (fun i v hi => jj_mask_ok [true, true, true, false, true, false] hi)
      · rw [if_pos c5] at h
        refine jj_iconst d_Ck_entersFrame_34 jc_i_0 ?_
        cases h
        exact jj_zreturn d_Ck_entersFrame_35 rfl (Or.inl rfl) ⟨rfl, rfl⟩
  · rw [if_pos c2] at h
    refine jj_iconst d_Ck_entersFrame_14 jc_i_1 ?_
    cases h
    exact jj_zreturn d_Ck_entersFrame_15 rfl (Or.inr rfl) ⟨rfl, rfl⟩
def f_Ck_entersFrame (this : Nat) (a1 : Nat) (a2 : Nat) (a3 : Int32) (x : jj_Mem) : Option (Int32 × jj_Mem) := k_Ck_entersFrame_0 (g_Ck_entersFrame 1000) this a1 a2 a3 x
theorem c_Ck_entersFrame {X : jj_X} {d : Nat} {this : Nat} {a1 : Nat} {a2 : Nat} {a3 : Int32} (h_this : o_Ck this) (h_a1 : o_Pr a1) (h_a2 : o_Me a2) {x : jj_Mem} {q : Int32 × jj_Mem} (h : f_Ck_entersFrame this a1 a2 a3 x = some q) : jj_Met Y0 X (d + 2) m_Ck_entersFrame [.ref this, .ref a1, .ref a2, .int a3] x (jp_i q) :=
  jj_metp 2 (lo := [some (.ref this), some (.ref a1), some (.ref a2), some (.int a3), none, none]) rfl (Nat.le_of_ble_eq_true rfl) rfl (t_Ck_entersFrame_0 _ (t_Ck_entersFrame_g 1000) h_this h_a1 h_a2 h)
def f_Ck_mayGoToTarget (this : Nat) (a1 : Nat) (a2 : Nat) (a3 : Int32) (x : jj_Mem) : Option (Int32 × jj_Mem) :=
  jj_b2 (f_Pr_code a1 a2 a3 x) (fun r1 x1 => jj_b1 (s_In_hasTarget r1) (fun r2 => (if r2 = 0 then some (1, x1) else jj_b2 (f_Pr_target a1 a2 a3 x1) (fun r4 x4 => jj_b2 (f_Pr_frameAt a1 a2 r4 x4) (fun r5 x5 => (if r5 = (-1) then some (0, x5) else jj_b2 (f_Ck_isGoodForFrame this a1 a2 r5 x5) (fun r7 x7 => (if r7 = 0 then some (0, x7) else some (1, x7)))))))))
set_option maxHeartbeats 2000000 in
theorem t_Ck_mayGoToTarget_0 {X : jj_X} {d : Nat} {this : Nat} {a1 : Nat} {a2 : Nat} {a3 : Int32} (h_this : o_Ck this) (h_a1 : o_Pr a1) (h_a2 : o_Me a2) {x : jj_Mem} {q : Int32 × jj_Mem} (h : f_Ck_mayGoToTarget this a1 a2 a3 x = some q) : jj_J Y0 X (d + 2) m_Ck_mayGoToTarget 0 [some (.ref this), some (.ref a1), some (.ref a2), some (.int a3), none] [] x (jp_i q) := by
  unfold f_Ck_mayGoToTarget at h
  refine jj_aload_n d_Ck_mayGoToTarget_0 rfl ?_
  refine jj_aload_n d_Ck_mayGoToTarget_1 rfl ?_
  refine jj_iload_n d_Ck_mayGoToTarget_2 rfl ?_
  obtain ⟨r1, x1, e1, h⟩ := jj_b2o h
  refine jj_callVi (as := [.ref a2, .int a3]) (c_Pr_code (d := d + 1) h_a1 h_a2 e1) d_Ck_mayGoToTarget_3 ck_Ck_44 (sh_Pr h_a1).2 (sh_Pr h_a1).1 ⟨_, rfl, rfl⟩ rfl rfl (Nat.le_of_ble_eq_true rfl) ?_
  obtain ⟨r2, e2, h⟩ := jj_b1o h
  refine jj_callSi (as := [.int r1]) (c_In_hasTarget (d := d + 1)  e2) d_Ck_mayGoToTarget_6 ck_Ck_114 rfl rfl (Nat.le_of_ble_eq_true rfl) ?_
  refine jj_if_ne (tgt := 14) d_Ck_mayGoToTarget_9 rfl (fun c3 => ?_) (fun c3 => ?_)
  · rw [if_neg c3] at h
    refine jj_aload_n d_Ck_mayGoToTarget_14 rfl ?_
    refine jj_aload_n d_Ck_mayGoToTarget_15 rfl ?_
    refine jj_aload_n d_Ck_mayGoToTarget_16 rfl ?_
    refine jj_aload_n d_Ck_mayGoToTarget_17 rfl ?_
    refine jj_iload_n d_Ck_mayGoToTarget_18 rfl ?_
    obtain ⟨r4, x4, e4, h⟩ := jj_b2o h
    refine jj_callVi (as := [.ref a2, .int a3]) (c_Pr_target (d := d + 0) h_a1 h_a2 e4) d_Ck_mayGoToTarget_19 ck_Ck_117 (sh_Pr h_a1).2 (sh_Pr h_a1).1 ⟨_, rfl, rfl⟩ rfl rfl (Nat.le_of_ble_eq_true rfl) ?_
    obtain ⟨r5, x5, e5, h⟩ := jj_b2o h
    refine jj_callVi (as := [.ref a2, .int r4]) (c_Pr_frameAt (d := d + 0) h_a1 h_a2 e5) d_Ck_mayGoToTarget_22 ck_Ck_77 (sh_Pr h_a1).2 (sh_Pr h_a1).1 ⟨_, rfl, rfl⟩ rfl rfl (Nat.le_of_ble_eq_true rfl) ?_
    refine jj_istore (lo' := [_, _, _, _, _]) d_Ck_mayGoToTarget_25 rfl (by decide) rfl ?_
    refine jj_iload d_Ck_mayGoToTarget_27 rfl ?_
    refine jj_iconst d_Ck_mayGoToTarget_29 jc_i_m1 ?_
    refine jj_ic_eq (tgt := 48) d_Ck_mayGoToTarget_30 rfl (fun c6 => ?_) (fun c6 => ?_)
    · rw [if_pos c6] at h
      refine jj_iconst d_Ck_mayGoToTarget_48 jc_i_0 ?_
      cases h
      exact jj_zreturn d_Ck_mayGoToTarget_49 rfl (Or.inl rfl) ⟨rfl, rfl⟩
    · rw [if_neg c6] at h
      refine jj_aload_n d_Ck_mayGoToTarget_33 rfl ?_
      refine jj_aload_n d_Ck_mayGoToTarget_34 rfl ?_
      refine jj_aload_n d_Ck_mayGoToTarget_35 rfl ?_
      refine jj_iload d_Ck_mayGoToTarget_36 rfl ?_
      obtain ⟨r7, x7, e7, h⟩ := jj_b2o h
      refine jj_callVi (as := [.ref a1, .ref a2, .int r5]) (c_Ck_isGoodForFrame (d := d + 0) h_this h_a1 h_a2 e7) d_Ck_mayGoToTarget_38 ck_Ck_80 (sh_Ck h_this).2 (sh_Ck h_this).1 ⟨_, rfl, rfl⟩ rfl rfl (Nat.le_of_ble_eq_true rfl) ?_
      refine jj_if_eq (tgt := 48) d_Ck_mayGoToTarget_41 rfl (fun c8 => ?_) (fun c8 => ?_)
      · rw [if_pos c8] at h
        refine jj_iconst d_Ck_mayGoToTarget_48 jc_i_0 ?_
        cases h
        exact jj_zreturn d_Ck_mayGoToTarget_49 rfl (Or.inl rfl) ⟨rfl, rfl⟩
      · rw [if_neg c8] at h
        refine jj_iconst d_Ck_mayGoToTarget_44 jc_i_1 ?_
        refine jj_goto (tgt := 49) d_Ck_mayGoToTarget_45 rfl ?_
        cases h
        exact jj_zreturn d_Ck_mayGoToTarget_49 rfl (Or.inr rfl) ⟨rfl, rfl⟩
  · rw [if_pos c3] at h
    refine jj_iconst d_Ck_mayGoToTarget_12 jc_i_1 ?_
    cases h
    exact jj_zreturn d_Ck_mayGoToTarget_13 rfl (Or.inr rfl) ⟨rfl, rfl⟩
theorem c_Ck_mayGoToTarget {X : jj_X} {d : Nat} {this : Nat} {a1 : Nat} {a2 : Nat} {a3 : Int32} (h_this : o_Ck this) (h_a1 : o_Pr a1) (h_a2 : o_Me a2) {x : jj_Mem} {q : Int32 × jj_Mem} (h : f_Ck_mayGoToTarget this a1 a2 a3 x = some q) : jj_Met Y0 X (d + 2) m_Ck_mayGoToTarget [.ref this, .ref a1, .ref a2, .int a3] x (jp_i q) :=
  jj_metp 1 (lo := [some (.ref this), some (.ref a1), some (.ref a2), some (.int a3), none]) rfl (Nat.le_of_ble_eq_true rfl) rfl (t_Ck_mayGoToTarget_0 h_this h_a1 h_a2 h)
def f_Ma_doAlone (this : Nat) (a1 : Nat) (a2 : Int32) (x : jj_Mem) : Option (jj_Mem) :=
  (if a2 = 1 then jj_b1 (f_St_put a1 3 0 x) (fun x2 => some x2) else if a2 = 46 then jj_b2 (f_St_take a1 x) (fun r4 x4 => jj_b2 (f_St_take a1 x4) (fun r5 x5 => if jj_inb ((r5 * 8) + r4) 64 = true then jj_b1 (f_St_put a1 1 (x5 (this + 24) (Int32.toNatClampNeg ((r5 * 8) + r4))) x5) (fun x7 => some x7) else none)) else if a2 = 79 then jj_b1 (f_Ma_storeElement this a1 x) (fun x9 => some x9) else if a2 = 87 then jj_b2 (f_St_take a1 x) (fun r11 x11 => some x11) else if a2 = 89 then jj_b1 (f_St_putAgain a1 x) (fun x13 => some x13) else if a2 = 95 then jj_b1 (f_St_exchange a1 x) (fun x15 => some x15) else if a2 = 116 then jj_b2 (f_St_take a1 x) (fun r17 x17 => jj_b1 (f_St_put a1 1 (-r17) x17) (fun x18 => some x18)) else if a2 = 188 then jj_b2 (f_St_take a1 x) (fun r20 x20 => jj_b2 (f_Ma_newRow this r20 x20) (fun r21 x21 => jj_b1 (f_St_put a1 2 r21 x21) (fun x22 => some x22))) else if a2 = 190 then jj_b2 (f_St_take a1 x) (fun r24 x24 => if jj_inb r24 8 = true then jj_b1 (f_St_put a1 1 (x24 (this + 25) (Int32.toNatClampNeg r24)) x24) (fun x26 => some x26) else none) else jj_b2 (f_St_take a1 x) (fun r27 x27 => jj_b2 (f_St_take a1 x27) (fun r28 x28 => jj_b2 (f_Ma_reckoned this a2 r28 r27 x28) (fun r29 x29 => jj_b1 (f_St_put a1 1 r29 x29) (fun x30 => some x30)))))
set_option maxHeartbeats 2000000 in
theorem t_Ma_doAlone_0 {X : jj_X} {d : Nat} {this : Nat} {a1 : Nat} {a2 : Int32} (h_this : o_Ma this) (h_a1 : o_St a1) {x : jj_Mem} {q : jj_Mem} (h : f_Ma_doAlone this a1 a2 x = some q) : jj_J Y0 X (d + 2) m_Ma_doAlone 0 [some (.ref this), some (.ref a1), some (.int a2), none, none] [] x (jp_v q) := by
  unfold f_Ma_doAlone at h
  refine jj_iload_n d_Ma_doAlone_0 rfl ?_
  by_cases c1 : a2 = 1
  · rw [if_pos c1] at h
    refine jj_lookup (tgt := 84) d_Ma_doAlone_1 rfl (by rw [c1] <;> rfl) rfl ?_
    refine jj_aload_n d_Ma_doAlone_84 rfl ?_
    refine jj_iconst d_Ma_doAlone_85 jc_i_3 ?_
    refine jj_iconst d_Ma_doAlone_86 jc_i_0 ?_
    obtain ⟨x2, e2, h⟩ := jj_b1o h
    refine jj_callVv (as := [.int 3, .int 0]) (c_St_put (d := d + 1) h_a1 e2) d_Ma_doAlone_87 ck_Ma_153 (sh_St h_a1).2 (sh_St h_a1).1 ⟨_, rfl, rfl⟩ rfl rfl (Nat.le_of_ble_eq_true rfl) ?_
    refine jj_goto (tgt := 218) d_Ma_doAlone_90 rfl ?_
    cases h
    exact jj_return d_Ma_doAlone_218 rfl ⟨rfl, rfl⟩
  rw [if_neg c1] at h
  by_cases c3 : a2 = 46
  · rw [if_pos c3] at h
    refine jj_lookup (tgt := 161) d_Ma_doAlone_1 rfl (by rw [c3] <;> rfl) rfl ?_
    refine jj_aload_n d_Ma_doAlone_161 rfl ?_
    obtain ⟨r4, x4, e4, h⟩ := jj_b2o h
    refine jj_callVi (as := []) (c_St_take (d := d + 1) h_a1 e4) d_Ma_doAlone_162 ck_Ma_139 (sh_St h_a1).2 (sh_St h_a1).1 ⟨_, rfl, rfl⟩ rfl rfl (Nat.le_of_ble_eq_true rfl) ?_
    refine jj_istore_n (lo' := [_, _, _, _, _]) d_Ma_doAlone_165 rfl (by decide) rfl ?_
    refine jj_aload_n d_Ma_doAlone_166 rfl ?_
    refine jj_iconst d_Ma_doAlone_167 jc_i_1 ?_
    refine jj_aload_n d_Ma_doAlone_168 rfl ?_
    refine jj_getR d_Ma_doAlone_169 fk_Ma_25 (sh_Ma h_this).2 (sh_Ma h_this).1 rfl ?_
    refine jj_aload_n d_Ma_doAlone_172 rfl ?_
    obtain ⟨r5, x5, e5, h⟩ := jj_b2o h
    refine jj_callVi (as := []) (c_St_take (d := d + 1) h_a1 e5) d_Ma_doAlone_173 ck_Ma_139 (sh_St h_a1).2 (sh_St h_a1).1 ⟨_, rfl, rfl⟩ rfl rfl (Nat.le_of_ble_eq_true rfl) ?_
    refine jj_bipush d_Ma_doAlone_176 jc_b_8 ?_
    refine jj_imul d_Ma_doAlone_178 ?_
    refine jj_iload_n d_Ma_doAlone_179 rfl ?_
    refine jj_iadd d_Ma_doAlone_180 ?_
    obtain ⟨i6, h⟩ := jj_gt h
    refine jj_iaload d_Ma_doAlone_181 rfl (ar_Ma_elements h_this).1 (ar_Ma_elements h_this).2 (jj_inn i6) rfl ?_
    obtain ⟨x7, e7, h⟩ := jj_b1o h
    refine jj_callVv (as := [.int 1, .int (x5 (this + 24) (Int32.toNatClampNeg ((r5 * 8) + r4)))]) (c_St_put (d := d + 1) h_a1 e7) d_Ma_doAlone_182 ck_Ma_153 (sh_St h_a1).2 (sh_St h_a1).1 ⟨_, rfl, rfl⟩ rfl rfl (Nat.le_of_ble_eq_true rfl) ?_
    refine jj_goto (tgt := 218) d_Ma_doAlone_185 rfl ?_
    cases h
    exact jj_return d_Ma_doAlone_218 rfl ⟨rfl, rfl⟩
  rw [if_neg c3] at h
  by_cases c8 : a2 = 79
  · rw [if_pos c8] at h
    refine jj_lookup (tgt := 188) d_Ma_doAlone_1 rfl (by rw [c8] <;> rfl) rfl ?_
    refine jj_aload_n d_Ma_doAlone_188 rfl ?_
    refine jj_aload_n d_Ma_doAlone_189 rfl ?_
    obtain ⟨x9, e9, h⟩ := jj_b1o h
    refine jj_callVv (as := [.ref a1]) (c_Ma_storeElement (d := d + 0) h_this h_a1 e9) d_Ma_doAlone_190 ck_Ma_182 (sh_Ma h_this).2 (sh_Ma h_this).1 ⟨_, rfl, rfl⟩ rfl rfl (Nat.le_of_ble_eq_true rfl) ?_
    refine jj_goto (tgt := 218) d_Ma_doAlone_193 rfl ?_
    cases h
    exact jj_return d_Ma_doAlone_218 rfl ⟨rfl, rfl⟩
  rw [if_neg c8] at h
  by_cases c10 : a2 = 87
  · rw [if_pos c10] at h
    refine jj_lookup (tgt := 93) d_Ma_doAlone_1 rfl (by rw [c10] <;> rfl) rfl ?_
    refine jj_aload_n d_Ma_doAlone_93 rfl ?_
    obtain ⟨r11, x11, e11, h⟩ := jj_b2o h
    refine jj_callVi (as := []) (c_St_take (d := d + 1) h_a1 e11) d_Ma_doAlone_94 ck_Ma_139 (sh_St h_a1).2 (sh_St h_a1).1 ⟨_, rfl, rfl⟩ rfl rfl (Nat.le_of_ble_eq_true rfl) ?_
    refine jj_pop d_Ma_doAlone_97 rfl ?_
    refine jj_goto (tgt := 218) d_Ma_doAlone_98 rfl ?_
    cases h
    exact jj_return d_Ma_doAlone_218 rfl ⟨rfl, rfl⟩
  rw [if_neg c10] at h
  by_cases c12 : a2 = 89
  · rw [if_pos c12] at h
    refine jj_lookup (tgt := 101) d_Ma_doAlone_1 rfl (by rw [c12] <;> rfl) rfl ?_
    refine jj_aload_n d_Ma_doAlone_101 rfl ?_
    obtain ⟨x13, e13, h⟩ := jj_b1o h
    refine jj_callVv (as := []) (c_St_putAgain (d := d + 0) h_a1 e13) d_Ma_doAlone_102 ck_Ma_176 (sh_St h_a1).2 (sh_St h_a1).1 ⟨_, rfl, rfl⟩ rfl rfl (Nat.le_of_ble_eq_true rfl) ?_
    refine jj_goto (tgt := 218) d_Ma_doAlone_105 rfl ?_
    cases h
    exact jj_return d_Ma_doAlone_218 rfl ⟨rfl, rfl⟩
  rw [if_neg c12] at h
  by_cases c14 : a2 = 95
  · rw [if_pos c14] at h
    refine jj_lookup (tgt := 108) d_Ma_doAlone_1 rfl (by rw [c14] <;> rfl) rfl ?_
    refine jj_aload_n d_Ma_doAlone_108 rfl ?_
    obtain ⟨x15, e15, h⟩ := jj_b1o h
    refine jj_callVv (as := []) (c_St_exchange (d := d + 0) h_a1 e15) d_Ma_doAlone_109 ck_Ma_179 (sh_St h_a1).2 (sh_St h_a1).1 ⟨_, rfl, rfl⟩ rfl rfl (Nat.le_of_ble_eq_true rfl) ?_
    refine jj_goto (tgt := 218) d_Ma_doAlone_112 rfl ?_
    cases h
    exact jj_return d_Ma_doAlone_218 rfl ⟨rfl, rfl⟩
  rw [if_neg c14] at h
  by_cases c16 : a2 = 116
  · rw [if_pos c16] at h
    refine jj_lookup (tgt := 115) d_Ma_doAlone_1 rfl (by rw [c16] <;> rfl) rfl ?_
    refine jj_aload_n d_Ma_doAlone_115 rfl ?_
    refine jj_iconst d_Ma_doAlone_116 jc_i_1 ?_
    refine jj_aload_n d_Ma_doAlone_117 rfl ?_
    obtain ⟨r17, x17, e17, h⟩ := jj_b2o h
    refine jj_callVi (as := []) (c_St_take (d := d + 1) h_a1 e17) d_Ma_doAlone_118 ck_Ma_139 (sh_St h_a1).2 (sh_St h_a1).1 ⟨_, rfl, rfl⟩ rfl rfl (Nat.le_of_ble_eq_true rfl) ?_
    refine jj_ineg d_Ma_doAlone_121 ?_
    obtain ⟨x18, e18, h⟩ := jj_b1o h
    refine jj_callVv (as := [.int 1, .int (-r17)]) (c_St_put (d := d + 1) h_a1 e18) d_Ma_doAlone_122 ck_Ma_153 (sh_St h_a1).2 (sh_St h_a1).1 ⟨_, rfl, rfl⟩ rfl rfl (Nat.le_of_ble_eq_true rfl) ?_
    refine jj_goto (tgt := 218) d_Ma_doAlone_125 rfl ?_
    cases h
    exact jj_return d_Ma_doAlone_218 rfl ⟨rfl, rfl⟩
  rw [if_neg c16] at h
  by_cases c19 : a2 = 188
  · rw [if_pos c19] at h
    refine jj_lookup (tgt := 128) d_Ma_doAlone_1 rfl (by rw [c19] <;> rfl) rfl ?_
    refine jj_aload_n d_Ma_doAlone_128 rfl ?_
    refine jj_iconst d_Ma_doAlone_129 jc_i_2 ?_
    refine jj_aload_n d_Ma_doAlone_130 rfl ?_
    refine jj_aload_n d_Ma_doAlone_131 rfl ?_
    obtain ⟨r20, x20, e20, h⟩ := jj_b2o h
    refine jj_callVi (as := []) (c_St_take (d := d + 1) h_a1 e20) d_Ma_doAlone_132 ck_Ma_139 (sh_St h_a1).2 (sh_St h_a1).1 ⟨_, rfl, rfl⟩ rfl rfl (Nat.le_of_ble_eq_true rfl) ?_
    obtain ⟨r21, x21, e21, h⟩ := jj_b2o h
    refine jj_callVi (as := [.int r20]) (c_Ma_newRow (d := d + 1) h_this e21) d_Ma_doAlone_135 ck_Ma_71 (sh_Ma h_this).2 (sh_Ma h_this).1 ⟨_, rfl, rfl⟩ rfl rfl (Nat.le_of_ble_eq_true rfl) ?_
    obtain ⟨x22, e22, h⟩ := jj_b1o h
    refine jj_callVv (as := [.int 2, .int r21]) (c_St_put (d := d + 1) h_a1 e22) d_Ma_doAlone_138 ck_Ma_153 (sh_St h_a1).2 (sh_St h_a1).1 ⟨_, rfl, rfl⟩ rfl rfl (Nat.le_of_ble_eq_true rfl) ?_
    refine jj_goto (tgt := 218) d_Ma_doAlone_141 rfl ?_
    cases h
    exact jj_return d_Ma_doAlone_218 rfl ⟨rfl, rfl⟩
  rw [if_neg c19] at h
  by_cases c23 : a2 = 190
  · rw [if_pos c23] at h
    refine jj_lookup (tgt := 144) d_Ma_doAlone_1 rfl (by rw [c23] <;> rfl) rfl ?_
    refine jj_aload_n d_Ma_doAlone_144 rfl ?_
    refine jj_iconst d_Ma_doAlone_145 jc_i_1 ?_
    refine jj_aload_n d_Ma_doAlone_146 rfl ?_
    refine jj_getR d_Ma_doAlone_147 fk_Ma_28 (sh_Ma h_this).2 (sh_Ma h_this).1 rfl ?_
    refine jj_aload_n d_Ma_doAlone_150 rfl ?_
    obtain ⟨r24, x24, e24, h⟩ := jj_b2o h
    refine jj_callVi (as := []) (c_St_take (d := d + 1) h_a1 e24) d_Ma_doAlone_151 ck_Ma_139 (sh_St h_a1).2 (sh_St h_a1).1 ⟨_, rfl, rfl⟩ rfl rfl (Nat.le_of_ble_eq_true rfl) ?_
    obtain ⟨i25, h⟩ := jj_gt h
    refine jj_iaload d_Ma_doAlone_154 rfl (ar_Ma_lengths h_this).1 (ar_Ma_lengths h_this).2 (jj_inn i25) rfl ?_
    obtain ⟨x26, e26, h⟩ := jj_b1o h
    refine jj_callVv (as := [.int 1, .int (x24 (this + 25) (Int32.toNatClampNeg r24))]) (c_St_put (d := d + 1) h_a1 e26) d_Ma_doAlone_155 ck_Ma_153 (sh_St h_a1).2 (sh_St h_a1).1 ⟨_, rfl, rfl⟩ rfl rfl (Nat.le_of_ble_eq_true rfl) ?_
    refine jj_goto (tgt := 218) d_Ma_doAlone_158 rfl ?_
    cases h
    exact jj_return d_Ma_doAlone_218 rfl ⟨rfl, rfl⟩
  rw [if_neg c23] at h
  refine jj_lookup (tgt := 196) d_Ma_doAlone_1 rfl ((lv_osw c1 (by decide)).trans ((lv_osw c3 (by decide)).trans ((lv_osw c8 (by decide)).trans ((lv_osw c10 (by decide)).trans ((lv_osw c12 (by decide)).trans ((lv_osw c14 (by decide)).trans ((lv_osw c16 (by decide)).trans ((lv_osw c19 (by decide)).trans ((lv_osw c23 (by decide)).trans (rfl)))))))))) rfl ?_
  refine jj_aload_n d_Ma_doAlone_196 rfl ?_
  obtain ⟨r27, x27, e27, h⟩ := jj_b2o h
  refine jj_callVi (as := []) (c_St_take (d := d + 1) h_a1 e27) d_Ma_doAlone_197 ck_Ma_139 (sh_St h_a1).2 (sh_St h_a1).1 ⟨_, rfl, rfl⟩ rfl rfl (Nat.le_of_ble_eq_true rfl) ?_
  refine jj_istore (lo' := [_, _, _, _, _]) d_Ma_doAlone_200 rfl (by decide) rfl ?_
  refine jj_aload_n d_Ma_doAlone_202 rfl ?_
  refine jj_iconst d_Ma_doAlone_203 jc_i_1 ?_
  refine jj_aload_n d_Ma_doAlone_204 rfl ?_
  refine jj_iload_n d_Ma_doAlone_205 rfl ?_
  refine jj_aload_n d_Ma_doAlone_206 rfl ?_
  obtain ⟨r28, x28, e28, h⟩ := jj_b2o h
  refine jj_callVi (as := []) (c_St_take (d := d + 1) h_a1 e28) d_Ma_doAlone_207 ck_Ma_139 (sh_St h_a1).2 (sh_St h_a1).1 ⟨_, rfl, rfl⟩ rfl rfl (Nat.le_of_ble_eq_true rfl) ?_
  refine jj_iload d_Ma_doAlone_210 rfl ?_
  obtain ⟨r29, x29, e29, h⟩ := jj_b2o h
  refine jj_callVi (as := [.int a2, .int r28, .int r27]) (c_Ma_reckoned (d := d + 1) h_this e29) d_Ma_doAlone_212 ck_Ma_186 (sh_Ma h_this).2 (sh_Ma h_this).1 ⟨_, rfl, rfl⟩ rfl rfl (Nat.le_of_ble_eq_true rfl) ?_
  obtain ⟨x30, e30, h⟩ := jj_b1o h
  refine jj_callVv (as := [.int 1, .int r29]) (c_St_put (d := d + 1) h_a1 e30) d_Ma_doAlone_215 ck_Ma_153 (sh_St h_a1).2 (sh_St h_a1).1 ⟨_, rfl, rfl⟩ rfl rfl (Nat.le_of_ble_eq_true rfl) ?_
  cases h
  exact jj_return d_Ma_doAlone_218 rfl ⟨rfl, rfl⟩
theorem c_Ma_doAlone {X : jj_X} {d : Nat} {this : Nat} {a1 : Nat} {a2 : Int32} (h_this : o_Ma this) (h_a1 : o_St a1) {x : jj_Mem} {q : jj_Mem} (h : f_Ma_doAlone this a1 a2 x = some q) : jj_Met Y0 X (d + 2) m_Ma_doAlone [.ref this, .ref a1, .int a2] x (jp_v q) :=
  jj_metp 2 (lo := [some (.ref this), some (.ref a1), some (.int a2), none, none]) rfl (Nat.le_of_ble_eq_true rfl) rfl (t_Ma_doAlone_0 h_this h_a1 h)
def k_Ma_doWithOperand_124 (l1 : Nat) (l5 : Int32) (x : jj_Mem) : Option (jj_Mem) :=
  jj_b1 (f_St_moveToPlace l1 l5 x) (fun x1 => some x1)
set_option maxHeartbeats 2000000 in
theorem t_Ma_doWithOperand_124 {X : jj_X} {d : Nat} {l1 : Nat} {l5 : Int32} (h_l1 : o_St l1) {x : jj_Mem} {q : jj_Mem} (h : k_Ma_doWithOperand_124 l1 l5 x = some q) : jj_J Y0 X (d + 2) m_Ma_doWithOperand 124 [none, some (.ref l1), none, none, none, some (.int l5)] [] x (jp_v q) := by
  unfold k_Ma_doWithOperand_124 at h
  refine jj_aload_n d_Ma_doWithOperand_124 rfl ?_
  refine jj_iload d_Ma_doWithOperand_125 rfl ?_
  obtain ⟨x1, e1, h⟩ := jj_b1o h
  refine jj_callVv (as := [.int l5]) (c_St_moveToPlace (d := d + 0) h_l1 e1) d_Ma_doWithOperand_127 ck_Ma_170 (sh_St h_l1).2 (sh_St h_l1).1 ⟨_, rfl, rfl⟩ rfl rfl (Nat.le_of_ble_eq_true rfl) ?_
  refine jj_goto (tgt := 160) d_Ma_doWithOperand_130 rfl ?_
  cases h
  exact jj_return d_Ma_doWithOperand_160 rfl ⟨rfl, rfl⟩
def k_Ma_doWithOperand_115 (l1 : Nat) (l5 : Int32) (x : jj_Mem) : Option (jj_Mem) :=
  jj_b1 (f_St_putPlace l1 l5 x) (fun x1 => some x1)
set_option maxHeartbeats 2000000 in
theorem t_Ma_doWithOperand_115 {X : jj_X} {d : Nat} {l1 : Nat} {l5 : Int32} (h_l1 : o_St l1) {x : jj_Mem} {q : jj_Mem} (h : k_Ma_doWithOperand_115 l1 l5 x = some q) : jj_J Y0 X (d + 2) m_Ma_doWithOperand 115 [none, some (.ref l1), none, none, none, some (.int l5)] [] x (jp_v q) := by
  unfold k_Ma_doWithOperand_115 at h
  refine jj_aload_n d_Ma_doWithOperand_115 rfl ?_
  refine jj_iload d_Ma_doWithOperand_116 rfl ?_
  obtain ⟨x1, e1, h⟩ := jj_b1o h
  refine jj_callVv (as := [.int l5]) (c_St_putPlace (d := d + 0) h_l1 e1) d_Ma_doWithOperand_118 ck_Ma_167 (sh_St h_l1).2 (sh_St h_l1).1 ⟨_, rfl, rfl⟩ rfl rfl (Nat.le_of_ble_eq_true rfl) ?_
  refine jj_goto (tgt := 160) d_Ma_doWithOperand_121 rfl ?_
  cases h
  exact jj_return d_Ma_doWithOperand_160 rfl ⟨rfl, rfl⟩
def f_Ma_doWithOperand (this : Nat) (a1 : Nat) (a2 : Nat) (a3 : Nat) (a4 : Int32) (x : jj_Mem) : Option (jj_Mem) :=
  jj_b2 (f_Pr_operand a2 a3 a4 x) (fun r1 x1 => jj_b2 (f_Pr_code a2 a3 a4 x1) (fun r2 x2 => (if r2 = 16 then jj_b2 (f_Pr_signedByte a2 a3 (a4 + 1) x2) (fun r4 x4 => jj_b1 (f_St_put a1 1 r4 x4) (fun x5 => some x5)) else if r2 = 18 then jj_b2 (f_Pr_constant a2 r1 x2) (fun r7 x7 => jj_b1 (f_St_put a1 1 r7 x7) (fun x8 => some x8)) else if r2 = 21 then k_Ma_doWithOperand_115 a1 r1 x2 else if r2 = 25 then k_Ma_doWithOperand_115 a1 r1 x2 else if r2 = 54 then k_Ma_doWithOperand_124 a1 r1 x2 else if r2 = 58 then k_Ma_doWithOperand_124 a1 r1 x2 else if r2 = 132 then if jj_inb r1 6 = true then jj_b2 (f_Pr_signedByte a2 a3 (a4 + 2) x2) (fun r15 x15 => jj_b1 (f_St_setPlace a1 r1 1 ((x2 (a1 + 2) (Int32.toNatClampNeg r1)) + r15) x15) (fun x16 => some x16)) else none else some x2)))
set_option maxHeartbeats 2000000 in
theorem t_Ma_doWithOperand_0 {X : jj_X} {d : Nat} {this : Nat} {a1 : Nat} {a2 : Nat} {a3 : Nat} {a4 : Int32} (h_this : o_Ma this) (h_a1 : o_St a1) (h_a2 : o_Pr a2) (h_a3 : o_Me a3) {x : jj_Mem} {q : jj_Mem} (h : f_Ma_doWithOperand this a1 a2 a3 a4 x = some q) : jj_J Y0 X (d + 2) m_Ma_doWithOperand 0 [some (.ref this), some (.ref a1), some (.ref a2), some (.ref a3), some (.int a4), none] [] x (jp_v q) := by
  unfold f_Ma_doWithOperand at h
  refine jj_aload_n d_Ma_doWithOperand_0 rfl ?_
  refine jj_aload_n d_Ma_doWithOperand_1 rfl ?_
  refine jj_iload d_Ma_doWithOperand_2 rfl ?_
  obtain ⟨r1, x1, e1, h⟩ := jj_b2o h
  refine jj_callVi (as := [.ref a3, .int a4]) (c_Pr_operand (d := d + 1) h_a2 h_a3 e1) d_Ma_doWithOperand_4 ck_Ma_105 (sh_Pr h_a2).2 (sh_Pr h_a2).1 ⟨_, rfl, rfl⟩ rfl rfl (Nat.le_of_ble_eq_true rfl) ?_
  refine jj_istore (lo' := [_, _, _, _, _, _]) d_Ma_doWithOperand_7 rfl (by decide) rfl ?_
  refine jj_aload_n d_Ma_doWithOperand_9 rfl ?_
  refine jj_aload_n d_Ma_doWithOperand_10 rfl ?_
  refine jj_iload d_Ma_doWithOperand_11 rfl ?_
  obtain ⟨r2, x2, e2, h⟩ := jj_b2o h
  refine jj_callVi (as := [.ref a3, .int a4]) (c_Pr_code (d := d + 1) h_a2 h_a3 e2) d_Ma_doWithOperand_13 ck_Ma_86 (sh_Pr h_a2).2 (sh_Pr h_a2).1 ⟨_, rfl, rfl⟩ rfl rfl (Nat.le_of_ble_eq_true rfl) ?_
  by_cases c3 : r2 = 16
  · rw [if_pos c3] at h
    refine jj_lookup (tgt := 84) d_Ma_doWithOperand_16 rfl (by rw [c3] <;> rfl) rfl ?_
    refine jj_aload_n d_Ma_doWithOperand_84 rfl ?_
    refine jj_iconst d_Ma_doWithOperand_85 jc_i_1 ?_
    refine jj_aload_n d_Ma_doWithOperand_86 rfl ?_
    refine jj_aload_n d_Ma_doWithOperand_87 rfl ?_
    refine jj_iload d_Ma_doWithOperand_88 rfl ?_
    refine jj_iconst d_Ma_doWithOperand_90 jc_i_1 ?_
    refine jj_iadd d_Ma_doWithOperand_91 ?_
    obtain ⟨r4, x4, e4, h⟩ := jj_b2o h
    refine jj_callVi (as := [.ref a3, .int (a4 + 1)]) (c_Pr_signedByte (d := d + 0) h_a2 h_a3 e4) d_Ma_doWithOperand_92 ck_Ma_161 (sh_Pr h_a2).2 (sh_Pr h_a2).1 ⟨_, rfl, rfl⟩ rfl rfl (Nat.le_of_ble_eq_true rfl) ?_
    obtain ⟨x5, e5, h⟩ := jj_b1o h
    refine jj_callVv (as := [.int 1, .int r4]) (c_St_put (d := d + 1) h_a1 e5) d_Ma_doWithOperand_95 ck_Ma_153 (sh_St h_a1).2 (sh_St h_a1).1 ⟨_, rfl, rfl⟩ rfl rfl (Nat.le_of_ble_eq_true rfl) ?_
    refine jj_goto (tgt := 160) d_Ma_doWithOperand_98 rfl ?_
    cases h
    exact jj_return d_Ma_doWithOperand_160 rfl ⟨rfl, rfl⟩
  rw [if_neg c3] at h
  by_cases c6 : r2 = 18
  · rw [if_pos c6] at h
    refine jj_lookup (tgt := 101) d_Ma_doWithOperand_16 rfl (by rw [c6] <;> rfl) rfl ?_
    refine jj_aload_n d_Ma_doWithOperand_101 rfl ?_
    refine jj_iconst d_Ma_doWithOperand_102 jc_i_1 ?_
    refine jj_aload_n d_Ma_doWithOperand_103 rfl ?_
    refine jj_iload d_Ma_doWithOperand_104 rfl ?_
    obtain ⟨r7, x7, e7, h⟩ := jj_b2o h
    refine jj_callVi (as := [.int r1]) (c_Pr_constant (d := d + 1) h_a2 e7) d_Ma_doWithOperand_106 ck_Ma_164 (sh_Pr h_a2).2 (sh_Pr h_a2).1 ⟨_, rfl, rfl⟩ rfl rfl (Nat.le_of_ble_eq_true rfl) ?_
    obtain ⟨x8, e8, h⟩ := jj_b1o h
    refine jj_callVv (as := [.int 1, .int r7]) (c_St_put (d := d + 1) h_a1 e8) d_Ma_doWithOperand_109 ck_Ma_153 (sh_St h_a1).2 (sh_St h_a1).1 ⟨_, rfl, rfl⟩ rfl rfl (Nat.le_of_ble_eq_true rfl) ?_
    refine jj_goto (tgt := 160) d_Ma_doWithOperand_112 rfl ?_
    cases h
    exact jj_return d_Ma_doWithOperand_160 rfl ⟨rfl, rfl⟩
  rw [if_neg c6] at h
  by_cases c9 : r2 = 21
  · rw [if_pos c9] at h
    refine jj_lookup (tgt := 115) d_Ma_doWithOperand_16 rfl (by rw [c9] <;> rfl) rfl ?_
    exact jj_J.sub (t_Ma_doWithOperand_115 h_a1 h) (fun i v hi => jj_mask_ok [false, true, false, false, false, true] hi)
  rw [if_neg c9] at h
  by_cases c10 : r2 = 25
  · rw [if_pos c10] at h
    refine jj_lookup (tgt := 115) d_Ma_doWithOperand_16 rfl (by rw [c10] <;> rfl) rfl ?_
    exact jj_J.sub (t_Ma_doWithOperand_115 h_a1 h) (fun i v hi => jj_mask_ok [false, true, false, false, false, true] hi)
  rw [if_neg c10] at h
  by_cases c11 : r2 = 54
  · rw [if_pos c11] at h
    refine jj_lookup (tgt := 124) d_Ma_doWithOperand_16 rfl (by rw [c11] <;> rfl) rfl ?_
    exact jj_J.sub (t_Ma_doWithOperand_124 h_a1 h) (fun i v hi => jj_mask_ok [false, true, false, false, false, true] hi)
  rw [if_neg c11] at h
  by_cases c12 : r2 = 58
  · rw [if_pos c12] at h
    refine jj_lookup (tgt := 124) d_Ma_doWithOperand_16 rfl (by rw [c12] <;> rfl) rfl ?_
    exact jj_J.sub (t_Ma_doWithOperand_124 h_a1 h) (fun i v hi => jj_mask_ok [false, true, false, false, false, true] hi)
  rw [if_neg c12] at h
  by_cases c13 : r2 = 132
  · rw [if_pos c13] at h
    refine jj_lookup (tgt := 133) d_Ma_doWithOperand_16 rfl (by rw [c13] <;> rfl) rfl ?_
    refine jj_aload_n d_Ma_doWithOperand_133 rfl ?_
    refine jj_iload d_Ma_doWithOperand_134 rfl ?_
    refine jj_iconst d_Ma_doWithOperand_136 jc_i_1 ?_
    refine jj_aload_n d_Ma_doWithOperand_137 rfl ?_
    refine jj_getR d_Ma_doWithOperand_138 fk_Ma_173 (sh_St h_a1).2 (sh_St h_a1).1 rfl ?_
    refine jj_iload d_Ma_doWithOperand_141 rfl ?_
    obtain ⟨i14, h⟩ := jj_gt h
    refine jj_iaload d_Ma_doWithOperand_143 rfl (ar_St_placeValues h_a1).1 (ar_St_placeValues h_a1).2 (jj_inn i14) rfl ?_
    refine jj_aload_n d_Ma_doWithOperand_144 rfl ?_
    refine jj_aload_n d_Ma_doWithOperand_145 rfl ?_
    refine jj_iload d_Ma_doWithOperand_146 rfl ?_
    refine jj_iconst d_Ma_doWithOperand_148 jc_i_2 ?_
    refine jj_iadd d_Ma_doWithOperand_149 ?_
    obtain ⟨r15, x15, e15, h⟩ := jj_b2o h
    refine jj_callVi (as := [.ref a3, .int (a4 + 2)]) (c_Pr_signedByte (d := d + 0) h_a2 h_a3 e15) d_Ma_doWithOperand_150 ck_Ma_161 (sh_Pr h_a2).2 (sh_Pr h_a2).1 ⟨_, rfl, rfl⟩ rfl rfl (Nat.le_of_ble_eq_true rfl) ?_
    refine jj_iadd d_Ma_doWithOperand_153 ?_
    obtain ⟨x16, e16, h⟩ := jj_b1o h
    refine jj_callVv (as := [.int r1, .int 1, .int ((x2 (a1 + 2) (Int32.toNatClampNeg r1)) + r15)]) (c_St_setPlace (d := d + 1) h_a1 e16) d_Ma_doWithOperand_154 ck_Ma_67 (sh_St h_a1).2 (sh_St h_a1).1 ⟨_, rfl, rfl⟩ rfl rfl (Nat.le_of_ble_eq_true rfl) ?_
    refine jj_goto (tgt := 160) d_Ma_doWithOperand_157 rfl ?_
    cases h
    exact jj_return d_Ma_doWithOperand_160 rfl ⟨rfl, rfl⟩
  rw [if_neg c13] at h
  refine jj_lookup (tgt := 160) d_Ma_doWithOperand_16 rfl ((lv_osw c3 (by decide)).trans ((lv_osw c6 (by decide)).trans ((lv_osw c9 (by decide)).trans ((lv_osw c10 (by decide)).trans ((lv_osw c11 (by decide)).trans ((lv_osw c12 (by decide)).trans ((lv_osw c13 (by decide)).trans (rfl)))))))) rfl ?_
  cases h
  exact jj_return d_Ma_doWithOperand_160 rfl ⟨rfl, rfl⟩
theorem c_Ma_doWithOperand {X : jj_X} {d : Nat} {this : Nat} {a1 : Nat} {a2 : Nat} {a3 : Nat} {a4 : Int32} (h_this : o_Ma this) (h_a1 : o_St a1) (h_a2 : o_Pr a2) (h_a3 : o_Me a3) {x : jj_Mem} {q : jj_Mem} (h : f_Ma_doWithOperand this a1 a2 a3 a4 x = some q) : jj_Met Y0 X (d + 2) m_Ma_doWithOperand [.ref this, .ref a1, .ref a2, .ref a3, .int a4] x (jp_v q) :=
  jj_metp 1 (lo := [some (.ref this), some (.ref a1), some (.ref a2), some (.ref a3), some (.int a4), none]) rfl (Nat.le_of_ble_eq_true rfl) rfl (t_Ma_doWithOperand_0 h_this h_a1 h_a2 h_a3 h)
def f_Ma_enter (this : Nat) (a1 : Int32) (x : jj_Mem) : Option (jj_Mem) :=
  if jj_inb (x this 5) 4 = true then if jj_inb ((jj_set x (this + 22) (Int32.toNatClampNeg (x this 5)) a1) this 5) 4 = true then if jj_inb ((jj_set (jj_set x (this + 22) (Int32.toNatClampNeg (x this 5)) a1) (this + 23) (Int32.toNatClampNeg ((jj_set x (this + 22) (Int32.toNatClampNeg (x this 5)) a1) this 5)) 0) this 5) 4 = true then jj_b1 (f_St_makeEmpty (this + 2 + 5 * (Int32.toNatClampNeg ((jj_set (jj_set x (this + 22) (Int32.toNatClampNeg (x this 5)) a1) (this + 23) (Int32.toNatClampNeg ((jj_set x (this + 22) (Int32.toNatClampNeg (x this 5)) a1) this 5)) 0) this 5))) (jj_set (jj_set x (this + 22) (Int32.toNatClampNeg (x this 5)) a1) (this + 23) (Int32.toNatClampNeg ((jj_set x (this + 22) (Int32.toNatClampNeg (x this 5)) a1) this 5)) 0)) (fun x4 => some x4) else none else none else none
set_option maxHeartbeats 2000000 in
theorem t_Ma_enter_0 {X : jj_X} {d : Nat} {this : Nat} {a1 : Int32} (h_this : o_Ma this) {x : jj_Mem} {q : jj_Mem} (h : f_Ma_enter this a1 x = some q) : jj_J Y0 X (d + 2) m_Ma_enter 0 [some (.ref this), some (.int a1)] [] x (jp_v q) := by
  unfold f_Ma_enter at h
  refine jj_aload_n d_Ma_enter_0 rfl ?_
  refine jj_getR d_Ma_enter_1 fk_Ma_18 (sh_Ma h_this).2 (sh_Ma h_this).1 rfl ?_
  refine jj_aload_n d_Ma_enter_4 rfl ?_
  refine jj_getI d_Ma_enter_5 fk_Ma_38 (sh_Ma h_this).2 (sh_Ma h_this).1 rfl rfl ?_
  refine jj_iload_n d_Ma_enter_8 rfl ?_
  obtain ⟨i1, h⟩ := jj_gt h
  refine jj_iastore d_Ma_enter_9 rfl (ar_Ma_running h_this).1 (ar_Ma_running h_this).2 (jj_inn i1) ?_
  refine jj_aload_n d_Ma_enter_10 rfl ?_
  refine jj_getR d_Ma_enter_11 fk_Ma_22 (sh_Ma h_this).2 (sh_Ma h_this).1 rfl ?_
  refine jj_aload_n d_Ma_enter_14 rfl ?_
  refine jj_getI d_Ma_enter_15 fk_Ma_38 (sh_Ma h_this).2 (sh_Ma h_this).1 rfl rfl ?_
  refine jj_iconst d_Ma_enter_18 jc_i_0 ?_
  obtain ⟨i2, h⟩ := jj_gt h
  refine jj_iastore d_Ma_enter_19 rfl (ar_Ma_offsets h_this).1 (ar_Ma_offsets h_this).2 (jj_inn i2) ?_
  refine jj_aload_n d_Ma_enter_20 rfl ?_
  refine jj_getR d_Ma_enter_21 fk_Ma_11 (sh_Ma h_this).2 (sh_Ma h_this).1 rfl ?_
  refine jj_aload_n d_Ma_enter_24 rfl ?_
  refine jj_getI d_Ma_enter_25 fk_Ma_38 (sh_Ma h_this).2 (sh_Ma h_this).1 rfl rfl ?_
  obtain ⟨i3, h⟩ := jj_gt h
  refine jj_aaload d_Ma_enter_28 rfl (pa_Ma_states h_this).1 (pa_Ma_states h_this).2 (jj_inn i3) rfl ?_
  obtain ⟨x4, e4, h⟩ := jj_b1o h
  refine jj_callVv (as := []) (c_St_makeEmpty (d := d + 0) (el_Ma_states h_this i3) e4) d_Ma_enter_29 ck_Ma_60 (sh_St (el_Ma_states h_this i3)).2 (sh_St (el_Ma_states h_this i3)).1 ⟨_, rfl, rfl⟩ rfl rfl (Nat.le_of_ble_eq_true rfl) ?_
  cases h
  exact jj_return d_Ma_enter_32 rfl ⟨rfl, rfl⟩
theorem c_Ma_enter {X : jj_X} {d : Nat} {this : Nat} {a1 : Int32} (h_this : o_Ma this) {x : jj_Mem} {q : jj_Mem} (h : f_Ma_enter this a1 x = some q) : jj_Met Y0 X (d + 2) m_Ma_enter [.ref this, .int a1] x (jp_v q) :=
  jj_metp 0 (lo := [some (.ref this), some (.int a1)]) rfl (Nat.le_of_ble_eq_true rfl) rfl (t_Ma_enter_0 h_this h)
def k_Ma_trouble_101  (x : jj_Mem) : Option (Int32 × jj_Mem) :=
  some (5, x)
set_option maxHeartbeats 2000000 in
theorem t_Ma_trouble_101 {X : jj_X} {d : Nat}   {x : jj_Mem} {q : Int32 × jj_Mem} (h : k_Ma_trouble_101  x = some q) : jj_J Y0 X (d + 2) m_Ma_trouble 101 [none, none, none] [] x (jp_i q) := by
  unfold k_Ma_trouble_101 at h
  refine jj_iconst d_Ma_trouble_101 jc_i_5 ?_
  refine jj_goto (tgt := 106) d_Ma_trouble_102 rfl ?_
  cases h
  exact jj_ireturn d_Ma_trouble_106 rfl ⟨rfl, rfl⟩
def f_Ma_trouble (this : Nat) (a1 : Nat) (a2 : Int32) (x : jj_Mem) : Option (Int32 × jj_Mem) :=
  (if a2 = 46 then jj_b2 (f_Ma_troubleOfElement this a1 1 x) (fun r2 x2 => some (r2, x2)) else if a2 = 79 then jj_b2 (f_Ma_troubleOfElement this a1 2 x) (fun r4 x4 => some (r4, x4)) else if a2 = 108 then jj_b2 (f_St_valueBelow a1 0 x) (fun r6 x6 => (if r6 = 0 then some (2, x6) else some ((-1), x6))) else if a2 = 184 then (if ((x this 5) + 1) < 4 then some ((-1), x) else some (6, x)) else if a2 = 188 then jj_b2 (f_St_valueBelow a1 0 x) (fun r11 x11 => (if r11 < 0 then k_Ma_trouble_101  x11 else jj_b2 (f_St_valueBelow a1 0 x11) (fun r13 x13 => (if 8 < r13 then k_Ma_trouble_101  x13 else (if (x13 this 8) < 8 then some ((-1), x13) else k_Ma_trouble_101  x13))))) else if a2 = 190 then jj_b2 (f_St_kindBelow a1 0 x) (fun r17 x17 => (if r17 = 3 then some (4, x17) else some ((-1), x17))) else some ((-1), x))
set_option maxHeartbeats 2000000 in
theorem t_Ma_trouble_0 {X : jj_X} {d : Nat} {this : Nat} {a1 : Nat} {a2 : Int32} (h_this : o_Ma this) (h_a1 : o_St a1) {x : jj_Mem} {q : Int32 × jj_Mem} (h : f_Ma_trouble this a1 a2 x = some q) : jj_J Y0 X (d + 2) m_Ma_trouble 0 [some (.ref this), some (.ref a1), some (.int a2)] [] x (jp_i q) := by
  unfold f_Ma_trouble at h
  refine jj_iload_n d_Ma_trouble_0 rfl ?_
  by_cases c1 : a2 = 46
  · rw [if_pos c1] at h
    refine jj_lookup (tgt := 122) d_Ma_trouble_1 rfl (by rw [c1] <;> rfl) rfl ?_
    refine jj_aload_n d_Ma_trouble_122 rfl ?_
    refine jj_aload_n d_Ma_trouble_123 rfl ?_
    refine jj_iconst d_Ma_trouble_124 jc_i_1 ?_
    obtain ⟨r2, x2, e2, h⟩ := jj_b2o h
    refine jj_callVi (as := [.ref a1, .int 1]) (c_Ma_troubleOfElement (d := d + 0) h_this h_a1 e2) d_Ma_trouble_125 ck_Ma_136 (sh_Ma h_this).2 (sh_Ma h_this).1 ⟨_, rfl, rfl⟩ rfl rfl (Nat.le_of_ble_eq_true rfl) ?_
    cases h
    exact jj_ireturn d_Ma_trouble_128 rfl ⟨rfl, rfl⟩
  rw [if_neg c1] at h
  by_cases c3 : a2 = 79
  · rw [if_pos c3] at h
    refine jj_lookup (tgt := 129) d_Ma_trouble_1 rfl (by rw [c3] <;> rfl) rfl ?_
    refine jj_aload_n d_Ma_trouble_129 rfl ?_
    refine jj_aload_n d_Ma_trouble_130 rfl ?_
    refine jj_iconst d_Ma_trouble_131 jc_i_2 ?_
    obtain ⟨r4, x4, e4, h⟩ := jj_b2o h
    refine jj_callVi (as := [.ref a1, .int 2]) (c_Ma_troubleOfElement (d := d + 0) h_this h_a1 e4) d_Ma_trouble_132 ck_Ma_136 (sh_Ma h_this).2 (sh_Ma h_this).1 ⟨_, rfl, rfl⟩ rfl rfl (Nat.le_of_ble_eq_true rfl) ?_
    cases h
    exact jj_ireturn d_Ma_trouble_135 rfl ⟨rfl, rfl⟩
  rw [if_neg c3] at h
  by_cases c5 : a2 = 108
  · rw [if_pos c5] at h
    refine jj_lookup (tgt := 60) d_Ma_trouble_1 rfl (by rw [c5] <;> rfl) rfl ?_
    refine jj_aload_n d_Ma_trouble_60 rfl ?_
    refine jj_iconst d_Ma_trouble_61 jc_i_0 ?_
    obtain ⟨r6, x6, e6, h⟩ := jj_b2o h
    refine jj_callVi (as := [.int 0]) (c_St_valueBelow (d := d + 1) h_a1 e6) d_Ma_trouble_62 ck_Ma_130 (sh_St h_a1).2 (sh_St h_a1).1 ⟨_, rfl, rfl⟩ rfl rfl (Nat.le_of_ble_eq_true rfl) ?_
    refine jj_if_ne (tgt := 72) d_Ma_trouble_65 rfl (fun c7 => ?_) (fun c7 => ?_)
    · rw [if_neg c7] at h
      refine jj_iconst d_Ma_trouble_72 jc_i_m1 ?_
      cases h
      exact jj_ireturn d_Ma_trouble_73 rfl ⟨rfl, rfl⟩
    · rw [if_pos c7] at h
      refine jj_iconst d_Ma_trouble_68 jc_i_2 ?_
      refine jj_goto (tgt := 73) d_Ma_trouble_69 rfl ?_
      cases h
      exact jj_ireturn d_Ma_trouble_73 rfl ⟨rfl, rfl⟩
  rw [if_neg c5] at h
  by_cases c8 : a2 = 184
  · rw [if_pos c8] at h
    refine jj_lookup (tgt := 136) d_Ma_trouble_1 rfl (by rw [c8] <;> rfl) rfl ?_
    refine jj_aload_n d_Ma_trouble_136 rfl ?_
    refine jj_getI d_Ma_trouble_137 fk_Ma_38 (sh_Ma h_this).2 (sh_Ma h_this).1 rfl rfl ?_
    refine jj_iconst d_Ma_trouble_140 jc_i_1 ?_
    refine jj_iadd d_Ma_trouble_141 ?_
    refine jj_iconst d_Ma_trouble_142 jc_i_4 ?_
    refine jj_ic_lt (tgt := 151) d_Ma_trouble_143 rfl (fun c9 => ?_) (fun c9 => ?_)
    · rw [if_pos c9] at h
      refine jj_iconst d_Ma_trouble_151 jc_i_m1 ?_
      cases h
      exact jj_ireturn d_Ma_trouble_152 rfl ⟨rfl, rfl⟩
    · rw [if_neg c9] at h
      refine jj_bipush d_Ma_trouble_146 jc_b_6 ?_
      refine jj_goto (tgt := 152) d_Ma_trouble_148 rfl ?_
      cases h
      exact jj_ireturn d_Ma_trouble_152 rfl ⟨rfl, rfl⟩
  rw [if_neg c8] at h
  by_cases c10 : a2 = 188
  · rw [if_pos c10] at h
    refine jj_lookup (tgt := 74) d_Ma_trouble_1 rfl (by rw [c10] <;> rfl) rfl ?_
    refine jj_aload_n d_Ma_trouble_74 rfl ?_
    refine jj_iconst d_Ma_trouble_75 jc_i_0 ?_
    obtain ⟨r11, x11, e11, h⟩ := jj_b2o h
    refine jj_callVi (as := [.int 0]) (c_St_valueBelow (d := d + 1) h_a1 e11) d_Ma_trouble_76 ck_Ma_130 (sh_St h_a1).2 (sh_St h_a1).1 ⟨_, rfl, rfl⟩ rfl rfl (Nat.le_of_ble_eq_true rfl) ?_
    refine jj_if_lt (tgt := 101) d_Ma_trouble_79 rfl (fun c12 => ?_) (fun c12 => ?_)
    · rw [if_pos c12] at h
      exact jj_J.sub (t_Ma_trouble_101  h) (fun i v hi => jj_mask_ok [false, false, false] hi)
    · rw [if_neg c12] at h
      refine jj_aload_n d_Ma_trouble_82 rfl ?_
      refine jj_iconst d_Ma_trouble_83 jc_i_0 ?_
      obtain ⟨r13, x13, e13, h⟩ := jj_b2o h
      refine jj_callVi (as := [.int 0]) (c_St_valueBelow (d := d + 1) h_a1 e13) d_Ma_trouble_84 ck_Ma_130 (sh_St h_a1).2 (sh_St h_a1).1 ⟨_, rfl, rfl⟩ rfl rfl (Nat.le_of_ble_eq_true rfl) ?_
      refine jj_bipush d_Ma_trouble_87 jc_b_8 ?_
      refine jj_ic_gt (tgt := 101) d_Ma_trouble_89 rfl (fun c14 => ?_) (fun c14 => ?_)
      · rw [if_pos c14] at h
        exact jj_J.sub (t_Ma_trouble_101  h) (fun i v hi => jj_mask_ok [false, false, false] hi)
      · rw [if_neg c14] at h
        refine jj_aload_n d_Ma_trouble_92 rfl ?_
        refine jj_getI d_Ma_trouble_93 fk_Ma_35 (sh_Ma h_this).2 (sh_Ma h_this).1 rfl rfl ?_
        refine jj_bipush d_Ma_trouble_96 jc_b_8 ?_
        refine jj_ic_lt (tgt := 105) d_Ma_trouble_98 rfl (fun c15 => ?_) (fun c15 => ?_)
        · rw [if_pos c15] at h
          refine jj_iconst d_Ma_trouble_105 jc_i_m1 ?_
          cases h
          exact jj_ireturn d_Ma_trouble_106 rfl ⟨rfl, rfl⟩
        · rw [if_neg c15] at h
          exact jj_J.sub (t_Ma_trouble_101  h) (fun i v hi => jj_mask_ok [false, false, false] hi)
  rw [if_neg c10] at h
  by_cases c16 : a2 = 190
  · rw [if_pos c16] at h
    refine jj_lookup (tgt := 107) d_Ma_trouble_1 rfl (by rw [c16] <;> rfl) rfl ?_
    refine jj_aload_n d_Ma_trouble_107 rfl ?_
    refine jj_iconst d_Ma_trouble_108 jc_i_0 ?_
    obtain ⟨r17, x17, e17, h⟩ := jj_b2o h
    refine jj_callVi (as := [.int 0]) (c_St_kindBelow (d := d + 1) h_a1 e17) d_Ma_trouble_109 ck_Ma_133 (sh_St h_a1).2 (sh_St h_a1).1 ⟨_, rfl, rfl⟩ rfl rfl (Nat.le_of_ble_eq_true rfl) ?_
    refine jj_iconst d_Ma_trouble_112 jc_i_3 ?_
    refine jj_ic_ne (tgt := 120) d_Ma_trouble_113 rfl (fun c18 => ?_) (fun c18 => ?_)
    · rw [if_neg c18] at h
      refine jj_iconst d_Ma_trouble_120 jc_i_m1 ?_
      cases h
      exact jj_ireturn d_Ma_trouble_121 rfl ⟨rfl, rfl⟩
    · rw [if_pos c18] at h
      refine jj_iconst d_Ma_trouble_116 jc_i_4 ?_
      refine jj_goto (tgt := 121) d_Ma_trouble_117 rfl ?_
      cases h
      exact jj_ireturn d_Ma_trouble_121 rfl ⟨rfl, rfl⟩
  rw [if_neg c16] at h
  refine jj_lookup (tgt := 153) d_Ma_trouble_1 rfl ((lv_osw c1 (by decide)).trans ((lv_osw c3 (by decide)).trans ((lv_osw c5 (by decide)).trans ((lv_osw c8 (by decide)).trans ((lv_osw c10 (by decide)).trans ((lv_osw c16 (by decide)).trans (rfl))))))) rfl ?_
  refine jj_iconst d_Ma_trouble_153 jc_i_m1 ?_
  cases h
  exact jj_ireturn d_Ma_trouble_154 rfl ⟨rfl, rfl⟩
theorem c_Ma_trouble {X : jj_X} {d : Nat} {this : Nat} {a1 : Nat} {a2 : Int32} (h_this : o_Ma this) (h_a1 : o_St a1) {x : jj_Mem} {q : Int32 × jj_Mem} (h : f_Ma_trouble this a1 a2 x = some q) : jj_Met Y0 X (d + 2) m_Ma_trouble [.ref this, .ref a1, .int a2] x (jp_i q) :=
  jj_metp 0 (lo := [some (.ref this), some (.ref a1), some (.int a2)]) rfl (Nat.le_of_ble_eq_true rfl) rfl (t_Ma_trouble_0 h_this h_a1 h)
def f_Rd_readsConstants (this : Nat) (a1 : Nat) (x : jj_Mem) : Option (Int32 × jj_Mem) :=
  jj_b2 (f_Rd_next this a1 0 4 x) (fun r1 x1 => (if r1 = 0 then some (0, x1) else jj_b2 (f_Rd_nextOnes this a1 (4 * ((jj_set (jj_set x1 a1 2 (x1 this 1)) a1 3 ((jj_set x1 a1 2 (x1 this 1)) this 0)) a1 2)) 0 255 (jj_set (jj_set x1 a1 2 (x1 this 1)) a1 3 ((jj_set x1 a1 2 (x1 this 1)) this 0))) (fun r3 x3 => if jj_zb r3 = true then some (r3, x3) else none)))
set_option maxHeartbeats 2000000 in
theorem t_Rd_readsConstants_0 {X : jj_X} {d : Nat} {this : Nat} {a1 : Nat} (h_this : o_Rd this) (h_a1 : o_Pr a1) {x : jj_Mem} {q : Int32 × jj_Mem} (h : f_Rd_readsConstants this a1 x = some q) : jj_J Y0 X (d + 2) m_Rd_readsConstants 0 [some (.ref this), some (.ref a1)] [] x (jp_i q) := by
  unfold f_Rd_readsConstants at h
  refine jj_aload_n d_Rd_readsConstants_0 rfl ?_
  refine jj_aload_n d_Rd_readsConstants_1 rfl ?_
  refine jj_iconst d_Rd_readsConstants_2 jc_i_0 ?_
  refine jj_iconst d_Rd_readsConstants_3 jc_i_4 ?_
  obtain ⟨r1, x1, e1, h⟩ := jj_b2o h
  refine jj_callVi (as := [.ref a1, .int 0, .int 4]) (c_Rd_next (d := d + 1) h_this h_a1 e1) d_Rd_readsConstants_4 ck_Rd_19 (sh_Rd h_this).2 (sh_Rd h_this).1 ⟨_, rfl, rfl⟩ rfl rfl (Nat.le_of_ble_eq_true rfl) ?_
  refine jj_if_ne (tgt := 12) d_Rd_readsConstants_7 rfl (fun c2 => ?_) (fun c2 => ?_)
  · rw [if_neg c2] at h
    refine jj_aload_n d_Rd_readsConstants_12 rfl ?_
    refine jj_aload_n d_Rd_readsConstants_13 rfl ?_
    refine jj_getI d_Rd_readsConstants_14 fk_Rd_27 (sh_Rd h_this).2 (sh_Rd h_this).1 rfl rfl ?_
    refine jj_putI d_Rd_readsConstants_17 pk_Rd_50 (sh_Pr h_a1).2 (sh_Pr h_a1).1 rfl ?_
    refine jj_aload_n d_Rd_readsConstants_20 rfl ?_
    refine jj_aload_n d_Rd_readsConstants_21 rfl ?_
    refine jj_getI d_Rd_readsConstants_22 fk_Rd_15 (sh_Rd h_this).2 (sh_Rd h_this).1 rfl rfl ?_
    refine jj_putI d_Rd_readsConstants_25 pk_Rd_53 (sh_Pr h_a1).2 (sh_Pr h_a1).1 rfl ?_
    refine jj_aload_n d_Rd_readsConstants_28 rfl ?_
    refine jj_aload_n d_Rd_readsConstants_29 rfl ?_
    refine jj_iconst d_Rd_readsConstants_30 jc_i_4 ?_
    refine jj_aload_n d_Rd_readsConstants_31 rfl ?_
    refine jj_getI d_Rd_readsConstants_32 fk_Rd_50 (sh_Pr h_a1).2 (sh_Pr h_a1).1 rfl rfl ?_
    refine jj_imul d_Rd_readsConstants_35 ?_
    refine jj_iconst d_Rd_readsConstants_36 jc_i_0 ?_
    refine jj_sipush d_Rd_readsConstants_37 jc_s_255 ?_
    obtain ⟨r3, x3, e3, h⟩ := jj_b2o h
    refine jj_callVi (as := [.ref a1, .int (4 * ((jj_set (jj_set x1 a1 2 (x1 this 1)) a1 3 ((jj_set x1 a1 2 (x1 this 1)) this 0)) a1 2)), .int 0, .int 255]) (c_Rd_nextOnes (d := d + 0) h_this h_a1 e3) d_Rd_readsConstants_40 ck_Rd_56 (sh_Rd h_this).2 (sh_Rd h_this).1 ⟨_, rfl, rfl⟩ rfl rfl (Nat.le_of_ble_eq_true rfl) ?_
    obtain ⟨i4, h⟩ := jj_gt h
    cases h
    exact jj_zreturn d_Rd_readsConstants_43 rfl (jj_zbo i4) ⟨rfl, rfl⟩
  · rw [if_pos c2] at h
    refine jj_iconst d_Rd_readsConstants_10 jc_i_0 ?_
    cases h
    exact jj_zreturn d_Rd_readsConstants_11 rfl (Or.inl rfl) ⟨rfl, rfl⟩
theorem c_Rd_readsConstants {X : jj_X} {d : Nat} {this : Nat} {a1 : Nat} (h_this : o_Rd this) (h_a1 : o_Pr a1) {x : jj_Mem} {q : Int32 × jj_Mem} (h : f_Rd_readsConstants this a1 x = some q) : jj_Met Y0 X (d + 2) m_Rd_readsConstants [.ref this, .ref a1] x (jp_i q) :=
  jj_metp 0 (lo := [some (.ref this), some (.ref a1)]) rfl (Nat.le_of_ble_eq_true rfl) rfl (t_Rd_readsConstants_0 h_this h_a1 h)
def k_Rd_readsFrames_26 (rec : Nat → List (Option Value) → jj_Mem → Option (Int32 × jj_Mem)) (l0 : Nat) (l1 : Nat) (l2 : Nat) (l3 : Int32) (l4 : Int32) (x : jj_Mem) : Option (Int32 × jj_Mem) :=
  (if (x l2 7) ≤ l4 then some (1, x) else if jj_inb l4 8 = true then jj_b2 (f_Rd_next l0 l1 l3 (((jj_set x (l2 + 1) (Int32.toNatClampNeg l4) (x l0 0)) l2 6) - 1) (jj_set x (l2 + 1) (Int32.toNatClampNeg l4) (x l0 0))) (fun r3 x3 => (if r3 = 0 then some (0, x3) else jj_b2 (f_Rd_nextOnes l0 l1 (x3 l2 4) 0 3 x3) (fun r5 x5 => (if r5 = 0 then some (0, x5) else jj_b2 (f_Rd_next l0 l1 0 (x5 l2 3) x5) (fun r7 x7 => (if r7 = 0 then some (0, x7) else jj_b2 (f_Rd_nextOnes l0 l1 (x7 l0 1) 1 3 x7) (fun r9 x9 => (if r9 = 0 then some (0, x9) else rec 26 [some (.ref l0), some (.ref l1), some (.ref l2), some (.int ((x3 l0 1) + 1)), some (.int (l4 + 1))] x9)))))))) else none)
set_option maxHeartbeats 2000000 in
theorem t_Rd_readsFrames_26 {X : jj_X} {d : Nat} (rec : Nat → List (Option Value) → jj_Mem → Option (Int32 × jj_Mem)) (hrec : ∀ (L : Nat) (lo : List (Option Value)) (x : jj_Mem) (q : Int32 × jj_Mem), rec L lo x = some q → jj_J Y0 X (d + 2) m_Rd_readsFrames L lo [] x (jp_i q)) {l0 : Nat} {l1 : Nat} {l2 : Nat} {l3 : Int32} {l4 : Int32} (h_l0 : o_Rd l0) (h_l1 : o_Pr l1) (h_l2 : o_Me l2) {x : jj_Mem} {q : Int32 × jj_Mem} (h : k_Rd_readsFrames_26 rec l0 l1 l2 l3 l4 x = some q) : jj_J Y0 X (d + 2) m_Rd_readsFrames 26 [some (.ref l0), some (.ref l1), some (.ref l2), some (.int l3), some (.int l4)] [] x (jp_i q) := by
  unfold k_Rd_readsFrames_26 at h
  refine jj_iload d_Rd_readsFrames_26 rfl ?_
  refine jj_aload_n d_Rd_readsFrames_28 rfl ?_
  refine jj_getI d_Rd_readsFrames_29 fk_Rd_116 (sh_Me h_l2).2 (sh_Me h_l2).1 rfl rfl ?_
  refine jj_ic_ge (tgt := 119) d_Rd_readsFrames_32 rfl (fun c1 => ?_) (fun c1 => ?_)
  · rw [if_pos c1] at h
    refine jj_iconst d_Rd_readsFrames_119 jc_i_1 ?_
    cases h
    exact jj_zreturn d_Rd_readsFrames_120 rfl (Or.inr rfl) ⟨rfl, rfl⟩
  · rw [if_neg c1] at h
    refine jj_aload_n d_Rd_readsFrames_35 rfl ?_
    refine jj_getR d_Rd_readsFrames_36 fk_Rd_119 (sh_Me h_l2).2 (sh_Me h_l2).1 rfl ?_
    refine jj_iload d_Rd_readsFrames_39 rfl ?_
    refine jj_aload_n d_Rd_readsFrames_41 rfl ?_
    refine jj_getI d_Rd_readsFrames_42 fk_Rd_15 (sh_Rd h_l0).2 (sh_Rd h_l0).1 rfl rfl ?_
    obtain ⟨i2, h⟩ := jj_gt h
    refine jj_iastore d_Rd_readsFrames_45 rfl (ar_Me_framesAt h_l2).1 (ar_Me_framesAt h_l2).2 (jj_inn i2) ?_
    refine jj_aload_n d_Rd_readsFrames_46 rfl ?_
    refine jj_aload_n d_Rd_readsFrames_47 rfl ?_
    refine jj_iload_n d_Rd_readsFrames_48 rfl ?_
    refine jj_aload_n d_Rd_readsFrames_49 rfl ?_
    refine jj_getI d_Rd_readsFrames_50 fk_Rd_92 (sh_Me h_l2).2 (sh_Me h_l2).1 rfl rfl ?_
    refine jj_iconst d_Rd_readsFrames_53 jc_i_1 ?_
    refine jj_isub d_Rd_readsFrames_54 ?_
    obtain ⟨r3, x3, e3, h⟩ := jj_b2o h
    refine jj_callVi (as := [.ref l1, .int l3, .int (((jj_set x (l2 + 1) (Int32.toNatClampNeg l4) (x l0 0)) l2 6) - 1)]) (c_Rd_next (d := d + 1) h_l0 h_l1 e3) d_Rd_readsFrames_55 ck_Rd_19 (sh_Rd h_l0).2 (sh_Rd h_l0).1 ⟨_, rfl, rfl⟩ rfl rfl (Nat.le_of_ble_eq_true rfl) ?_
    refine jj_if_ne (tgt := 63) d_Rd_readsFrames_58 rfl (fun c4 => ?_) (fun c4 => ?_)
    · rw [if_neg c4] at h
      refine jj_aload_n d_Rd_readsFrames_63 rfl ?_
      refine jj_getI d_Rd_readsFrames_64 fk_Rd_27 (sh_Rd h_l0).2 (sh_Rd h_l0).1 rfl rfl ?_
      refine jj_iconst d_Rd_readsFrames_67 jc_i_1 ?_
      refine jj_iadd d_Rd_readsFrames_68 ?_
      refine jj_istore_n (lo' := [_, _, _, _, _]) d_Rd_readsFrames_69 rfl (by decide) rfl ?_
      refine jj_aload_n d_Rd_readsFrames_70 rfl ?_
      refine jj_aload_n d_Rd_readsFrames_71 rfl ?_
      refine jj_aload_n d_Rd_readsFrames_72 rfl ?_
      refine jj_getI d_Rd_readsFrames_73 fk_Rd_89 (sh_Me h_l2).2 (sh_Me h_l2).1 rfl rfl ?_
      refine jj_iconst d_Rd_readsFrames_76 jc_i_0 ?_
      refine jj_iconst d_Rd_readsFrames_77 jc_i_3 ?_
      obtain ⟨r5, x5, e5, h⟩ := jj_b2o h
      refine jj_callVi (as := [.ref l1, .int (x3 l2 4), .int 0, .int 3]) (c_Rd_nextOnes (d := d + 0) h_l0 h_l1 e5) d_Rd_readsFrames_78 ck_Rd_56 (sh_Rd h_l0).2 (sh_Rd h_l0).1 ⟨_, rfl, rfl⟩ rfl rfl (Nat.le_of_ble_eq_true rfl) ?_
      refine jj_if_eq (tgt := 111) d_Rd_readsFrames_81 rfl (fun c6 => ?_) (fun c6 => ?_)
      · rw [if_pos c6] at h
        refine jj_iconst d_Rd_readsFrames_111 jc_i_0 ?_
        cases h
        exact jj_zreturn d_Rd_readsFrames_112 rfl (Or.inl rfl) ⟨rfl, rfl⟩
      · rw [if_neg c6] at h
        refine jj_aload_n d_Rd_readsFrames_84 rfl ?_
        refine jj_aload_n d_Rd_readsFrames_85 rfl ?_
        refine jj_iconst d_Rd_readsFrames_86 jc_i_0 ?_
        refine jj_aload_n d_Rd_readsFrames_87 rfl ?_
        refine jj_getI d_Rd_readsFrames_88 fk_Rd_86 (sh_Me h_l2).2 (sh_Me h_l2).1 rfl rfl ?_
        obtain ⟨r7, x7, e7, h⟩ := jj_b2o h
        refine jj_callVi (as := [.ref l1, .int 0, .int (x5 l2 3)]) (c_Rd_next (d := d + 1) h_l0 h_l1 e7) d_Rd_readsFrames_91 ck_Rd_19 (sh_Rd h_l0).2 (sh_Rd h_l0).1 ⟨_, rfl, rfl⟩ rfl rfl (Nat.le_of_ble_eq_true rfl) ?_
        refine jj_if_eq (tgt := 111) d_Rd_readsFrames_94 rfl (fun c8 => ?_) (fun c8 => ?_)
        · rw [if_pos c8] at h
          refine jj_iconst d_Rd_readsFrames_111 jc_i_0 ?_
          cases h
          exact jj_zreturn d_Rd_readsFrames_112 rfl (Or.inl rfl) ⟨rfl, rfl⟩
        · rw [if_neg c8] at h
          refine jj_aload_n d_Rd_readsFrames_97 rfl ?_
          refine jj_aload_n d_Rd_readsFrames_98 rfl ?_
          refine jj_aload_n d_Rd_readsFrames_99 rfl ?_
          refine jj_getI d_Rd_readsFrames_100 fk_Rd_27 (sh_Rd h_l0).2 (sh_Rd h_l0).1 rfl rfl ?_
          refine jj_iconst d_Rd_readsFrames_103 jc_i_1 ?_
          refine jj_iconst d_Rd_readsFrames_104 jc_i_3 ?_
          obtain ⟨r9, x9, e9, h⟩ := jj_b2o h
          refine jj_callVi (as := [.ref l1, .int (x7 l0 1), .int 1, .int 3]) (c_Rd_nextOnes (d := d + 0) h_l0 h_l1 e9) d_Rd_readsFrames_105 ck_Rd_56 (sh_Rd h_l0).2 (sh_Rd h_l0).1 ⟨_, rfl, rfl⟩ rfl rfl (Nat.le_of_ble_eq_true rfl) ?_
          refine jj_if_ne (tgt := 113) d_Rd_readsFrames_108 rfl (fun c10 => ?_) (fun c10 => ?_)
          · rw [if_neg c10] at h
            refine jj_iinc (lo' := [_, _, _, _, _]) (v := (l4 + 1)) d_Rd_readsFrames_113 rfl (jc_a_1 _) rfl (by decide) rfl ?_
            refine jj_goto (tgt := 26) d_Rd_readsFrames_116 rfl ?_
            exact jj_J.sub (hrec _ _ _ _ h) (fun i v hi => jj_mask_ok [true, true, true, true, true] hi)
          · rw [if_pos c10] at h
            refine jj_iconst d_Rd_readsFrames_111 jc_i_0 ?_
            cases h
            exact jj_zreturn d_Rd_readsFrames_112 rfl (Or.inl rfl) ⟨rfl, rfl⟩
    · rw [if_pos c4] at h
      refine jj_iconst d_Rd_readsFrames_61 jc_i_0 ?_
      cases h
      exact jj_zreturn d_Rd_readsFrames_62 rfl (Or.inl rfl) ⟨rfl, rfl⟩
def g_Rd_readsFrames : Nat → Nat → List (Option Value) → jj_Mem → Option (Int32 × jj_Mem)
  | 0, _, _, _ => none
  | f + 1, L, lo, x => match L, lo with
    | 26, [some (.ref l0), some (.ref l1), some (.ref l2), some (.int l3), some (.int l4)] => if (bo_Rd l0 && bo_Pr l1 && bo_Me l2) = true then k_Rd_readsFrames_26 (g_Rd_readsFrames f) l0 l1 l2 l3 l4 x else none
    | _, _ => none
set_option maxHeartbeats 2000000 in
theorem t_Rd_readsFrames_g {X : jj_X} {d : Nat} : ∀ (f L : Nat) (lo : List (Option Value)) (x : jj_Mem) (q : Int32 × jj_Mem), g_Rd_readsFrames f L lo x = some q → jj_J Y0 X (d + 2) m_Rd_readsFrames L lo [] x (jp_i q) := by
  intro f
  induction f with
  | zero => intro L lo x q h; simp [g_Rd_readsFrames] at h
  | succ f ih =>
    intro L lo x q h
    unfold g_Rd_readsFrames at h
    split at h
    · obtain ⟨i1, h⟩ := jj_gt h
      exact t_Rd_readsFrames_26 _ ih (ob_Rd (jj_andl (jj_andl i1))) (ob_Pr (jj_andr (jj_andl i1))) (ob_Me (jj_andr i1)) h
    · cases h
def k_Rd_readsFrames_0 (rec : Nat → List (Option Value) → jj_Mem → Option (Int32 × jj_Mem)) (this : Nat) (a1 : Nat) (a2 : Nat) (x : jj_Mem) : Option (Int32 × jj_Mem) :=
  jj_b2 (f_Rd_next this a1 0 8 x) (fun r1 x1 => (if r1 = 0 then some (0, x1) else rec 26 [some (.ref this), some (.ref a1), some (.ref a2), some (.int 0), some (.int 0)] (jj_set x1 a2 7 (x1 this 1))))
set_option maxHeartbeats 2000000 in
theorem t_Rd_readsFrames_0 {X : jj_X} {d : Nat} (rec : Nat → List (Option Value) → jj_Mem → Option (Int32 × jj_Mem)) (hrec : ∀ (L : Nat) (lo : List (Option Value)) (x : jj_Mem) (q : Int32 × jj_Mem), rec L lo x = some q → jj_J Y0 X (d + 2) m_Rd_readsFrames L lo [] x (jp_i q)) {this : Nat} {a1 : Nat} {a2 : Nat} (h_this : o_Rd this) (h_a1 : o_Pr a1) (h_a2 : o_Me a2) {x : jj_Mem} {q : Int32 × jj_Mem} (h : k_Rd_readsFrames_0 rec this a1 a2 x = some q) : jj_J Y0 X (d + 2) m_Rd_readsFrames 0 [some (.ref this), some (.ref a1), some (.ref a2), none, none] [] x (jp_i q) := by
  unfold k_Rd_readsFrames_0 at h
  refine jj_aload_n d_Rd_readsFrames_0 rfl ?_
  refine jj_aload_n d_Rd_readsFrames_1 rfl ?_
  refine jj_iconst d_Rd_readsFrames_2 jc_i_0 ?_
  refine jj_bipush d_Rd_readsFrames_3 jc_b_8 ?_
  obtain ⟨r1, x1, e1, h⟩ := jj_b2o h
  refine jj_callVi (as := [.ref a1, .int 0, .int 8]) (c_Rd_next (d := d + 1) h_this h_a1 e1) d_Rd_readsFrames_5 ck_Rd_19 (sh_Rd h_this).2 (sh_Rd h_this).1 ⟨_, rfl, rfl⟩ rfl rfl (Nat.le_of_ble_eq_true rfl) ?_
  refine jj_if_ne (tgt := 13) d_Rd_readsFrames_8 rfl (fun c2 => ?_) (fun c2 => ?_)
  · rw [if_neg c2] at h
    refine jj_aload_n d_Rd_readsFrames_13 rfl ?_
    refine jj_aload_n d_Rd_readsFrames_14 rfl ?_
    refine jj_getI d_Rd_readsFrames_15 fk_Rd_27 (sh_Rd h_this).2 (sh_Rd h_this).1 rfl rfl ?_
    refine jj_putI d_Rd_readsFrames_18 pk_Rd_116 (sh_Me h_a2).2 (sh_Me h_a2).1 rfl ?_
    refine jj_iconst d_Rd_readsFrames_21 jc_i_0 ?_
    refine jj_istore_n (lo' := [_, _, _, _, _]) d_Rd_readsFrames_22 rfl (by decide) rfl ?_
    refine jj_iconst d_Rd_readsFrames_23 jc_i_0 ?_
    refine jj_istore (lo' := [_, _, _, _, _]) d_Rd_readsFrames_24 rfl (by decide) rfl ?_
    exact jj_J.sub (hrec _ _ _ _ h) (fun i v hi => jj_mask_ok [true, true, true, true, true] hi)
  · rw [if_pos c2] at h
    refine jj_iconst d_Rd_readsFrames_11 jc_i_0 ?_
    cases h
    exact jj_zreturn d_Rd_readsFrames_12 rfl (Or.inl rfl) ⟨rfl, rfl⟩
def f_Rd_readsFrames (this : Nat) (a1 : Nat) (a2 : Nat) (x : jj_Mem) : Option (Int32 × jj_Mem) := k_Rd_readsFrames_0 (g_Rd_readsFrames 1000) this a1 a2 x
theorem c_Rd_readsFrames {X : jj_X} {d : Nat} {this : Nat} {a1 : Nat} {a2 : Nat} (h_this : o_Rd this) (h_a1 : o_Pr a1) (h_a2 : o_Me a2) {x : jj_Mem} {q : Int32 × jj_Mem} (h : f_Rd_readsFrames this a1 a2 x = some q) : jj_Met Y0 X (d + 2) m_Rd_readsFrames [.ref this, .ref a1, .ref a2] x (jp_i q) :=
  jj_metp 2 (lo := [some (.ref this), some (.ref a1), some (.ref a2), none, none]) rfl (Nat.le_of_ble_eq_true rfl) rfl (t_Rd_readsFrames_0 _ (t_Rd_readsFrames_g 1000) h_this h_a1 h_a2 h)
def f_Rd_readsHead (this : Nat) (a1 : Nat) (a2 : Nat) (x : jj_Mem) : Option (Int32 × jj_Mem) :=
  jj_b2 (f_Rd_next this a1 0 3 x) (fun r1 x1 => (if r1 = 0 then some (0, x1) else jj_b2 (f_Rd_nextOnes this a1 ((jj_set (jj_set x1 a2 0 (x1 this 1)) a2 1 ((jj_set x1 a2 0 (x1 this 1)) this 0)) a2 0) 1 2 (jj_set (jj_set x1 a2 0 (x1 this 1)) a2 1 ((jj_set x1 a2 0 (x1 this 1)) this 0))) (fun r3 x3 => (if r3 = 0 then some (0, x3) else jj_b2 (f_Rd_next this a1 0 2 x3) (fun r5 x5 => (if r5 = 0 then some (0, x5) else jj_b2 (f_Rd_next this a1 0 6 (jj_set x5 a2 2 (x5 this 1))) (fun r7 x7 => (if r7 = 0 then some (0, x7) else jj_b2 (f_Rd_next this a1 ((jj_set x7 a2 3 (x7 this 1)) a2 0) 6 (jj_set x7 a2 3 (x7 this 1))) (fun r9 x9 => (if r9 = 0 then some (0, x9) else jj_b2 (f_Rd_next this a1 1 60 (jj_set x9 a2 4 (x9 this 1))) (fun r11 x11 => (if r11 = 0 then some (0, x11) else some (1, (jj_set (jj_set x11 a2 6 (x11 this 1)) a2 5 ((jj_set x11 a2 6 (x11 this 1)) this 0)))))))))))))))
set_option maxHeartbeats 2000000 in
theorem t_Rd_readsHead_0 {X : jj_X} {d : Nat} {this : Nat} {a1 : Nat} {a2 : Nat} (h_this : o_Rd this) (h_a1 : o_Pr a1) (h_a2 : o_Me a2) {x : jj_Mem} {q : Int32 × jj_Mem} (h : f_Rd_readsHead this a1 a2 x = some q) : jj_J Y0 X (d + 2) m_Rd_readsHead 0 [some (.ref this), some (.ref a1), some (.ref a2)] [] x (jp_i q) := by
  unfold f_Rd_readsHead at h
  refine jj_aload_n d_Rd_readsHead_0 rfl ?_
  refine jj_aload_n d_Rd_readsHead_1 rfl ?_
  refine jj_iconst d_Rd_readsHead_2 jc_i_0 ?_
  refine jj_iconst d_Rd_readsHead_3 jc_i_3 ?_
  obtain ⟨r1, x1, e1, h⟩ := jj_b2o h
  refine jj_callVi (as := [.ref a1, .int 0, .int 3]) (c_Rd_next (d := d + 1) h_this h_a1 e1) d_Rd_readsHead_4 ck_Rd_19 (sh_Rd h_this).2 (sh_Rd h_this).1 ⟨_, rfl, rfl⟩ rfl rfl (Nat.le_of_ble_eq_true rfl) ?_
  refine jj_if_ne (tgt := 12) d_Rd_readsHead_7 rfl (fun c2 => ?_) (fun c2 => ?_)
  · rw [if_neg c2] at h
    refine jj_aload_n d_Rd_readsHead_12 rfl ?_
    refine jj_aload_n d_Rd_readsHead_13 rfl ?_
    refine jj_getI d_Rd_readsHead_14 fk_Rd_27 (sh_Rd h_this).2 (sh_Rd h_this).1 rfl rfl ?_
    refine jj_putI d_Rd_readsHead_17 pk_Rd_75 (sh_Me h_a2).2 (sh_Me h_a2).1 rfl ?_
    refine jj_aload_n d_Rd_readsHead_20 rfl ?_
    refine jj_aload_n d_Rd_readsHead_21 rfl ?_
    refine jj_getI d_Rd_readsHead_22 fk_Rd_15 (sh_Rd h_this).2 (sh_Rd h_this).1 rfl rfl ?_
    refine jj_putI d_Rd_readsHead_25 pk_Rd_80 (sh_Me h_a2).2 (sh_Me h_a2).1 rfl ?_
    refine jj_aload_n d_Rd_readsHead_28 rfl ?_
    refine jj_aload_n d_Rd_readsHead_29 rfl ?_
    refine jj_aload_n d_Rd_readsHead_30 rfl ?_
    refine jj_getI d_Rd_readsHead_31 fk_Rd_75 (sh_Me h_a2).2 (sh_Me h_a2).1 rfl rfl ?_
    refine jj_iconst d_Rd_readsHead_34 jc_i_1 ?_
    refine jj_iconst d_Rd_readsHead_35 jc_i_2 ?_
    obtain ⟨r3, x3, e3, h⟩ := jj_b2o h
    refine jj_callVi (as := [.ref a1, .int ((jj_set (jj_set x1 a2 0 (x1 this 1)) a2 1 ((jj_set x1 a2 0 (x1 this 1)) this 0)) a2 0), .int 1, .int 2]) (c_Rd_nextOnes (d := d + 0) h_this h_a1 e3) d_Rd_readsHead_36 ck_Rd_56 (sh_Rd h_this).2 (sh_Rd h_this).1 ⟨_, rfl, rfl⟩ rfl rfl (Nat.le_of_ble_eq_true rfl) ?_
    refine jj_if_eq (tgt := 52) d_Rd_readsHead_39 rfl (fun c4 => ?_) (fun c4 => ?_)
    · rw [if_pos c4] at h
      refine jj_iconst d_Rd_readsHead_52 jc_i_0 ?_
      cases h
      exact jj_zreturn d_Rd_readsHead_53 rfl (Or.inl rfl) ⟨rfl, rfl⟩
    · rw [if_neg c4] at h
      refine jj_aload_n d_Rd_readsHead_42 rfl ?_
      refine jj_aload_n d_Rd_readsHead_43 rfl ?_
      refine jj_iconst d_Rd_readsHead_44 jc_i_0 ?_
      refine jj_iconst d_Rd_readsHead_45 jc_i_2 ?_
      obtain ⟨r5, x5, e5, h⟩ := jj_b2o h
      refine jj_callVi (as := [.ref a1, .int 0, .int 2]) (c_Rd_next (d := d + 1) h_this h_a1 e5) d_Rd_readsHead_46 ck_Rd_19 (sh_Rd h_this).2 (sh_Rd h_this).1 ⟨_, rfl, rfl⟩ rfl rfl (Nat.le_of_ble_eq_true rfl) ?_
      refine jj_if_ne (tgt := 54) d_Rd_readsHead_49 rfl (fun c6 => ?_) (fun c6 => ?_)
      · rw [if_neg c6] at h
        refine jj_aload_n d_Rd_readsHead_54 rfl ?_
        refine jj_aload_n d_Rd_readsHead_55 rfl ?_
        refine jj_getI d_Rd_readsHead_56 fk_Rd_27 (sh_Rd h_this).2 (sh_Rd h_this).1 rfl rfl ?_
        refine jj_putI d_Rd_readsHead_59 pk_Rd_83 (sh_Me h_a2).2 (sh_Me h_a2).1 rfl ?_
        refine jj_aload_n d_Rd_readsHead_62 rfl ?_
        refine jj_aload_n d_Rd_readsHead_63 rfl ?_
        refine jj_iconst d_Rd_readsHead_64 jc_i_0 ?_
        refine jj_bipush d_Rd_readsHead_65 jc_b_6 ?_
        obtain ⟨r7, x7, e7, h⟩ := jj_b2o h
        refine jj_callVi (as := [.ref a1, .int 0, .int 6]) (c_Rd_next (d := d + 1) h_this h_a1 e7) d_Rd_readsHead_67 ck_Rd_19 (sh_Rd h_this).2 (sh_Rd h_this).1 ⟨_, rfl, rfl⟩ rfl rfl (Nat.le_of_ble_eq_true rfl) ?_
        refine jj_if_ne (tgt := 75) d_Rd_readsHead_70 rfl (fun c8 => ?_) (fun c8 => ?_)
        · rw [if_neg c8] at h
          refine jj_aload_n d_Rd_readsHead_75 rfl ?_
          refine jj_aload_n d_Rd_readsHead_76 rfl ?_
          refine jj_getI d_Rd_readsHead_77 fk_Rd_27 (sh_Rd h_this).2 (sh_Rd h_this).1 rfl rfl ?_
          refine jj_putI d_Rd_readsHead_80 pk_Rd_86 (sh_Me h_a2).2 (sh_Me h_a2).1 rfl ?_
          refine jj_aload_n d_Rd_readsHead_83 rfl ?_
          refine jj_aload_n d_Rd_readsHead_84 rfl ?_
          refine jj_aload_n d_Rd_readsHead_85 rfl ?_
          refine jj_getI d_Rd_readsHead_86 fk_Rd_75 (sh_Me h_a2).2 (sh_Me h_a2).1 rfl rfl ?_
          refine jj_bipush d_Rd_readsHead_89 jc_b_6 ?_
          obtain ⟨r9, x9, e9, h⟩ := jj_b2o h
          refine jj_callVi (as := [.ref a1, .int ((jj_set x7 a2 3 (x7 this 1)) a2 0), .int 6]) (c_Rd_next (d := d + 1) h_this h_a1 e9) d_Rd_readsHead_91 ck_Rd_19 (sh_Rd h_this).2 (sh_Rd h_this).1 ⟨_, rfl, rfl⟩ rfl rfl (Nat.le_of_ble_eq_true rfl) ?_
          refine jj_if_ne (tgt := 99) d_Rd_readsHead_94 rfl (fun c10 => ?_) (fun c10 => ?_)
          · rw [if_neg c10] at h
            refine jj_aload_n d_Rd_readsHead_99 rfl ?_
            refine jj_aload_n d_Rd_readsHead_100 rfl ?_
            refine jj_getI d_Rd_readsHead_101 fk_Rd_27 (sh_Rd h_this).2 (sh_Rd h_this).1 rfl rfl ?_
            refine jj_putI d_Rd_readsHead_104 pk_Rd_89 (sh_Me h_a2).2 (sh_Me h_a2).1 rfl ?_
            refine jj_aload_n d_Rd_readsHead_107 rfl ?_
            refine jj_aload_n d_Rd_readsHead_108 rfl ?_
            refine jj_iconst d_Rd_readsHead_109 jc_i_1 ?_
            refine jj_bipush d_Rd_readsHead_110 jc_b_60 ?_
            obtain ⟨r11, x11, e11, h⟩ := jj_b2o h
            refine jj_callVi (as := [.ref a1, .int 1, .int 60]) (c_Rd_next (d := d + 1) h_this h_a1 e11) d_Rd_readsHead_112 ck_Rd_19 (sh_Rd h_this).2 (sh_Rd h_this).1 ⟨_, rfl, rfl⟩ rfl rfl (Nat.le_of_ble_eq_true rfl) ?_
            refine jj_if_ne (tgt := 120) d_Rd_readsHead_115 rfl (fun c12 => ?_) (fun c12 => ?_)
            · rw [if_neg c12] at h
              refine jj_aload_n d_Rd_readsHead_120 rfl ?_
              refine jj_aload_n d_Rd_readsHead_121 rfl ?_
              refine jj_getI d_Rd_readsHead_122 fk_Rd_27 (sh_Rd h_this).2 (sh_Rd h_this).1 rfl rfl ?_
              refine jj_putI d_Rd_readsHead_125 pk_Rd_92 (sh_Me h_a2).2 (sh_Me h_a2).1 rfl ?_
              refine jj_aload_n d_Rd_readsHead_128 rfl ?_
              refine jj_aload_n d_Rd_readsHead_129 rfl ?_
              refine jj_getI d_Rd_readsHead_130 fk_Rd_15 (sh_Rd h_this).2 (sh_Rd h_this).1 rfl rfl ?_
              refine jj_putI d_Rd_readsHead_133 pk_Rd_95 (sh_Me h_a2).2 (sh_Me h_a2).1 rfl ?_
              refine jj_iconst d_Rd_readsHead_136 jc_i_1 ?_
              cases h
              exact jj_zreturn d_Rd_readsHead_137 rfl (Or.inr rfl) ⟨rfl, rfl⟩
            · rw [if_pos c12] at h
              refine jj_iconst d_Rd_readsHead_118 jc_i_0 ?_
              cases h
              exact jj_zreturn d_Rd_readsHead_119 rfl (Or.inl rfl) ⟨rfl, rfl⟩
          · rw [if_pos c10] at h
            refine jj_iconst d_Rd_readsHead_97 jc_i_0 ?_
            cases h
            exact jj_zreturn d_Rd_readsHead_98 rfl (Or.inl rfl) ⟨rfl, rfl⟩
        · rw [if_pos c8] at h
          refine jj_iconst d_Rd_readsHead_73 jc_i_0 ?_
          cases h
          exact jj_zreturn d_Rd_readsHead_74 rfl (Or.inl rfl) ⟨rfl, rfl⟩
      · rw [if_pos c6] at h
        refine jj_iconst d_Rd_readsHead_52 jc_i_0 ?_
        cases h
        exact jj_zreturn d_Rd_readsHead_53 rfl (Or.inl rfl) ⟨rfl, rfl⟩
  · rw [if_pos c2] at h
    refine jj_iconst d_Rd_readsHead_10 jc_i_0 ?_
    cases h
    exact jj_zreturn d_Rd_readsHead_11 rfl (Or.inl rfl) ⟨rfl, rfl⟩
theorem c_Rd_readsHead {X : jj_X} {d : Nat} {this : Nat} {a1 : Nat} {a2 : Nat} (h_this : o_Rd this) (h_a1 : o_Pr a1) (h_a2 : o_Me a2) {x : jj_Mem} {q : Int32 × jj_Mem} (h : f_Rd_readsHead this a1 a2 x = some q) : jj_Met Y0 X (d + 2) m_Rd_readsHead [.ref this, .ref a1, .ref a2] x (jp_i q) :=
  jj_metp 0 (lo := [some (.ref this), some (.ref a1), some (.ref a2)]) rfl (Nat.le_of_ble_eq_true rfl) rfl (t_Rd_readsHead_0 h_this h_a1 h_a2 h)
def k_Rd_readsInstruction_52 (rec : Nat → List (Option Value) → jj_Mem → Option (Int32 × jj_Mem)) (l0 : Nat) (l1 : Nat) (l2 : Nat) (l3 : Int32) (l4 : Int32) (l5 : Int32) (x : jj_Mem) : Option (Int32 × jj_Mem) :=
  jj_b1 (s_In_length l4) (fun r1 => (if r1 ≤ l5 then some (1, x) else (if l3 ≤ (x l0 0) then some (0, x) else jj_b2 (f_Rd_highestOperand l0 l1 l2 l4 l5 x) (fun r4 x4 => jj_b2 (f_Rd_next l0 l1 0 r4 x4) (fun r5 x5 => (if r5 = 0 then some (0, x5) else rec 52 [some (.ref l0), some (.ref l1), some (.ref l2), some (.int l3), some (.int l4), some (.int (l5 + 1))] x5))))))
set_option maxHeartbeats 2000000 in
theorem t_Rd_readsInstruction_52 {X : jj_X} {d : Nat} (rec : Nat → List (Option Value) → jj_Mem → Option (Int32 × jj_Mem)) (hrec : ∀ (L : Nat) (lo : List (Option Value)) (x : jj_Mem) (q : Int32 × jj_Mem), rec L lo x = some q → jj_J Y0 X (d + 2) m_Rd_readsInstruction L lo [] x (jp_i q)) {l0 : Nat} {l1 : Nat} {l2 : Nat} {l3 : Int32} {l4 : Int32} {l5 : Int32} (h_l0 : o_Rd l0) (h_l1 : o_Pr l1) (h_l2 : o_Me l2) {x : jj_Mem} {q : Int32 × jj_Mem} (h : k_Rd_readsInstruction_52 rec l0 l1 l2 l3 l4 l5 x = some q) : jj_J Y0 X (d + 2) m_Rd_readsInstruction 52 [some (.ref l0), some (.ref l1), some (.ref l2), some (.int l3), some (.int l4), some (.int l5)] [] x (jp_i q) := by
  unfold k_Rd_readsInstruction_52 at h
  refine jj_iload d_Rd_readsInstruction_52 rfl ?_
  refine jj_iload d_Rd_readsInstruction_54 rfl ?_
  obtain ⟨r1, e1, h⟩ := jj_b1o h
  refine jj_callSi (as := [.int l4]) (c_In_length (d := d + 0)  e1) d_Rd_readsInstruction_56 ck_Rd_102 rfl rfl (Nat.le_of_ble_eq_true rfl) ?_
  refine jj_ic_ge (tgt := 97) d_Rd_readsInstruction_59 rfl (fun c2 => ?_) (fun c2 => ?_)
  · rw [if_pos c2] at h
    refine jj_iconst d_Rd_readsInstruction_97 jc_i_1 ?_
    cases h
    exact jj_zreturn d_Rd_readsInstruction_98 rfl (Or.inr rfl) ⟨rfl, rfl⟩
  · rw [if_neg c2] at h
    refine jj_aload_n d_Rd_readsInstruction_62 rfl ?_
    refine jj_getI d_Rd_readsInstruction_63 fk_Rd_15 (sh_Rd h_l0).2 (sh_Rd h_l0).1 rfl rfl ?_
    refine jj_iload_n d_Rd_readsInstruction_66 rfl ?_
    refine jj_ic_ge (tgt := 89) d_Rd_readsInstruction_67 rfl (fun c3 => ?_) (fun c3 => ?_)
    · rw [if_pos c3] at h
      refine jj_iconst d_Rd_readsInstruction_89 jc_i_0 ?_
      cases h
      exact jj_zreturn d_Rd_readsInstruction_90 rfl (Or.inl rfl) ⟨rfl, rfl⟩
    · rw [if_neg c3] at h
      refine jj_aload_n d_Rd_readsInstruction_70 rfl ?_
      refine jj_aload_n d_Rd_readsInstruction_71 rfl ?_
      refine jj_iconst d_Rd_readsInstruction_72 jc_i_0 ?_
      refine jj_aload_n d_Rd_readsInstruction_73 rfl ?_
      refine jj_aload_n d_Rd_readsInstruction_74 rfl ?_
      refine jj_aload_n d_Rd_readsInstruction_75 rfl ?_
      refine jj_iload d_Rd_readsInstruction_76 rfl ?_
      refine jj_iload d_Rd_readsInstruction_78 rfl ?_
      obtain ⟨r4, x4, e4, h⟩ := jj_b2o h
      refine jj_callVi (as := [.ref l1, .ref l2, .int l4, .int l5]) (c_Rd_highestOperand (d := d + 0) h_l0 h_l1 h_l2 e4) d_Rd_readsInstruction_80 ck_Rd_108 (sh_Rd h_l0).2 (sh_Rd h_l0).1 ⟨_, rfl, rfl⟩ rfl rfl (Nat.le_of_ble_eq_true rfl) ?_
      obtain ⟨r5, x5, e5, h⟩ := jj_b2o h
      refine jj_callVi (as := [.ref l1, .int 0, .int r4]) (c_Rd_next (d := d + 1) h_l0 h_l1 e5) d_Rd_readsInstruction_83 ck_Rd_19 (sh_Rd h_l0).2 (sh_Rd h_l0).1 ⟨_, rfl, rfl⟩ rfl rfl (Nat.le_of_ble_eq_true rfl) ?_
      refine jj_if_ne (tgt := 91) d_Rd_readsInstruction_86 rfl (fun c6 => ?_) (fun c6 => ?_)
      · rw [if_neg c6] at h
        refine jj_iinc (lo' := [_, _, _, _, _, _]) (v := (l5 + 1)) d_Rd_readsInstruction_91 rfl (jc_a_1 _) rfl (by decide) rfl ?_
        refine jj_goto (tgt := 52) d_Rd_readsInstruction_94 rfl ?_
        exact jj_J.sub (hrec _ _ _ _ h) (fun i v hi => jj_mask_ok [true, true, true, true, true, true] hi)
      · rw [if_pos c6] at h
        refine jj_iconst d_Rd_readsInstruction_89 jc_i_0 ?_
        cases h
        exact jj_zreturn d_Rd_readsInstruction_90 rfl (Or.inl rfl) ⟨rfl, rfl⟩
def g_Rd_readsInstruction : Nat → Nat → List (Option Value) → jj_Mem → Option (Int32 × jj_Mem)
  | 0, _, _, _ => none
  | f + 1, L, lo, x => match L, lo with
    | 52, [some (.ref l0), some (.ref l1), some (.ref l2), some (.int l3), some (.int l4), some (.int l5)] => if (bo_Rd l0 && bo_Pr l1 && bo_Me l2) = true then k_Rd_readsInstruction_52 (g_Rd_readsInstruction f) l0 l1 l2 l3 l4 l5 x else none
    | _, _ => none
set_option maxHeartbeats 2000000 in
theorem t_Rd_readsInstruction_g {X : jj_X} {d : Nat} : ∀ (f L : Nat) (lo : List (Option Value)) (x : jj_Mem) (q : Int32 × jj_Mem), g_Rd_readsInstruction f L lo x = some q → jj_J Y0 X (d + 2) m_Rd_readsInstruction L lo [] x (jp_i q) := by
  intro f
  induction f with
  | zero => intro L lo x q h; simp [g_Rd_readsInstruction] at h
  | succ f ih =>
    intro L lo x q h
    unfold g_Rd_readsInstruction at h
    split at h
    · obtain ⟨i1, h⟩ := jj_gt h
      exact t_Rd_readsInstruction_52 _ ih (ob_Rd (jj_andl (jj_andl i1))) (ob_Pr (jj_andr (jj_andl i1))) (ob_Me (jj_andr i1)) h
    · cases h
def k_Rd_readsInstruction_0 (rec : Nat → List (Option Value) → jj_Mem → Option (Int32 × jj_Mem)) (this : Nat) (a1 : Nat) (a2 : Nat) (a3 : Int32) (x : jj_Mem) : Option (Int32 × jj_Mem) :=
  (if (x a1 1) ≤ (x this 0) then some (0, x) else if jj_inb (x this 0) 240 = true then jj_b1 (s_In_length (x (a1 + 1) (Int32.toNatClampNeg (x this 0)))) (fun r3 => (if r3 = 0 then some (0, x) else if jj_inb (x this 0) 240 = true then rec 52 [some (.ref this), some (.ref a1), some (.ref a2), some (.int a3), some (.int (x (a1 + 1) (Int32.toNatClampNeg (x this 0)))), some (.int 1)] (jj_set x this 0 ((x this 0) + 1)) else none)) else none)
set_option maxHeartbeats 2000000 in
theorem t_Rd_readsInstruction_0 {X : jj_X} {d : Nat} (rec : Nat → List (Option Value) → jj_Mem → Option (Int32 × jj_Mem)) (hrec : ∀ (L : Nat) (lo : List (Option Value)) (x : jj_Mem) (q : Int32 × jj_Mem), rec L lo x = some q → jj_J Y0 X (d + 2) m_Rd_readsInstruction L lo [] x (jp_i q)) {this : Nat} {a1 : Nat} {a2 : Nat} {a3 : Int32} (h_this : o_Rd this) (h_a1 : o_Pr a1) (h_a2 : o_Me a2) {x : jj_Mem} {q : Int32 × jj_Mem} (h : k_Rd_readsInstruction_0 rec this a1 a2 a3 x = some q) : jj_J Y0 X (d + 2) m_Rd_readsInstruction 0 [some (.ref this), some (.ref a1), some (.ref a2), some (.int a3), none, none] [] x (jp_i q) := by
  unfold k_Rd_readsInstruction_0 at h
  refine jj_aload_n d_Rd_readsInstruction_0 rfl ?_
  refine jj_getI d_Rd_readsInstruction_1 fk_Rd_15 (sh_Rd h_this).2 (sh_Rd h_this).1 rfl rfl ?_
  refine jj_aload_n d_Rd_readsInstruction_4 rfl ?_
  refine jj_getI d_Rd_readsInstruction_5 fk_Rd_43 (sh_Pr h_a1).2 (sh_Pr h_a1).1 rfl rfl ?_
  refine jj_ic_ge (tgt := 26) d_Rd_readsInstruction_8 rfl (fun c1 => ?_) (fun c1 => ?_)
  · rw [if_pos c1] at h
    refine jj_iconst d_Rd_readsInstruction_26 jc_i_0 ?_
    cases h
    exact jj_zreturn d_Rd_readsInstruction_27 rfl (Or.inl rfl) ⟨rfl, rfl⟩
  · rw [if_neg c1] at h
    refine jj_aload_n d_Rd_readsInstruction_11 rfl ?_
    refine jj_getR d_Rd_readsInstruction_12 fk_Rd_46 (sh_Pr h_a1).2 (sh_Pr h_a1).1 rfl ?_
    refine jj_aload_n d_Rd_readsInstruction_15 rfl ?_
    refine jj_getI d_Rd_readsInstruction_16 fk_Rd_15 (sh_Rd h_this).2 (sh_Rd h_this).1 rfl rfl ?_
    obtain ⟨i2, h⟩ := jj_gt h
    refine jj_iaload d_Rd_readsInstruction_19 rfl (ar_Pr_file h_a1).1 (ar_Pr_file h_a1).2 (jj_inn i2) rfl ?_
    obtain ⟨r3, e3, h⟩ := jj_b1o h
    refine jj_callSi (as := [.int (x (a1 + 1) (Int32.toNatClampNeg (x this 0)))]) (c_In_length (d := d + 0)  e3) d_Rd_readsInstruction_20 ck_Rd_102 rfl rfl (Nat.le_of_ble_eq_true rfl) ?_
    refine jj_if_ne (tgt := 28) d_Rd_readsInstruction_23 rfl (fun c4 => ?_) (fun c4 => ?_)
    · rw [if_neg c4] at h
      refine jj_aload_n d_Rd_readsInstruction_28 rfl ?_
      refine jj_getR d_Rd_readsInstruction_29 fk_Rd_46 (sh_Pr h_a1).2 (sh_Pr h_a1).1 rfl ?_
      refine jj_aload_n d_Rd_readsInstruction_32 rfl ?_
      refine jj_getI d_Rd_readsInstruction_33 fk_Rd_15 (sh_Rd h_this).2 (sh_Rd h_this).1 rfl rfl ?_
      obtain ⟨i5, h⟩ := jj_gt h
      refine jj_iaload d_Rd_readsInstruction_36 rfl (ar_Pr_file h_a1).1 (ar_Pr_file h_a1).2 (jj_inn i5) rfl ?_
      refine jj_istore (lo' := [_, _, _, _, _, _]) d_Rd_readsInstruction_37 rfl (by decide) rfl ?_
      refine jj_aload_n d_Rd_readsInstruction_39 rfl ?_
      refine jj_dup d_Rd_readsInstruction_40 rfl ?_
      refine jj_getI d_Rd_readsInstruction_41 fk_Rd_15 (sh_Rd h_this).2 (sh_Rd h_this).1 rfl rfl ?_
      refine jj_iconst d_Rd_readsInstruction_44 jc_i_1 ?_
      refine jj_iadd d_Rd_readsInstruction_45 ?_
      refine jj_putI d_Rd_readsInstruction_46 pk_Rd_15 (sh_Rd h_this).2 (sh_Rd h_this).1 rfl ?_
      refine jj_iconst d_Rd_readsInstruction_49 jc_i_1 ?_
      refine jj_istore (lo' := [_, _, _, _, _, _]) d_Rd_readsInstruction_50 rfl (by decide) rfl ?_
      exact jj_J.sub (hrec _ _ _ _ h) (fun i v hi => jj_mask_ok [true, true, true, true, true, true] hi)
    · rw [if_pos c4] at h
      refine jj_iconst d_Rd_readsInstruction_26 jc_i_0 ?_
      cases h
      exact jj_zreturn d_Rd_readsInstruction_27 rfl (Or.inl rfl) ⟨rfl, rfl⟩
def f_Rd_readsInstruction (this : Nat) (a1 : Nat) (a2 : Nat) (a3 : Int32) (x : jj_Mem) : Option (Int32 × jj_Mem) := k_Rd_readsInstruction_0 (g_Rd_readsInstruction 1000) this a1 a2 a3 x
theorem c_Rd_readsInstruction {X : jj_X} {d : Nat} {this : Nat} {a1 : Nat} {a2 : Nat} {a3 : Int32} (h_this : o_Rd this) (h_a1 : o_Pr a1) (h_a2 : o_Me a2) {x : jj_Mem} {q : Int32 × jj_Mem} (h : f_Rd_readsInstruction this a1 a2 a3 x = some q) : jj_Met Y0 X (d + 2) m_Rd_readsInstruction [.ref this, .ref a1, .ref a2, .int a3] x (jp_i q) :=
  jj_metp 2 (lo := [some (.ref this), some (.ref a1), some (.ref a2), some (.int a3), none, none]) rfl (Nat.le_of_ble_eq_true rfl) rfl (t_Rd_readsInstruction_0 _ (t_Rd_readsInstruction_g 1000) h_this h_a1 h_a2 h)
def k_Rd_targetsBegin_47 (rec : Nat → List (Option Value) → jj_Mem → Option (Int32 × jj_Mem)) (l0 : Nat) (l1 : Nat) (l2 : Nat) (l3 : Int32) (x : jj_Mem) : Option (Int32 × jj_Mem) :=
  rec 2 [some (.ref l0), some (.ref l1), some (.ref l2), some (.int (l3 + 1))] x
set_option maxHeartbeats 2000000 in
theorem t_Rd_targetsBegin_47 {X : jj_X} {d : Nat} (rec : Nat → List (Option Value) → jj_Mem → Option (Int32 × jj_Mem)) (hrec : ∀ (L : Nat) (lo : List (Option Value)) (x : jj_Mem) (q : Int32 × jj_Mem), rec L lo x = some q → jj_J Y0 X (d + 2) m_Rd_targetsBegin L lo [] x (jp_i q)) {l0 : Nat} {l1 : Nat} {l2 : Nat} {l3 : Int32} (h_l0 : o_Rd l0) (h_l1 : o_Pr l1) (h_l2 : o_Me l2) {x : jj_Mem} {q : Int32 × jj_Mem} (h : k_Rd_targetsBegin_47 rec l0 l1 l2 l3 x = some q) : jj_J Y0 X (d + 2) m_Rd_targetsBegin 47 [some (.ref l0), some (.ref l1), some (.ref l2), some (.int l3)] [] x (jp_i q) := by
  unfold k_Rd_targetsBegin_47 at h
  refine jj_iinc (lo' := [_, _, _, _]) (v := (l3 + 1)) d_Rd_targetsBegin_47 rfl (jc_a_1 _) rfl (by decide) rfl ?_
  refine jj_goto (tgt := 2) d_Rd_targetsBegin_50 rfl ?_
  exact jj_J.sub (hrec _ _ _ _ h) (fun i v hi => jj_mask_ok [true, true, true, true] hi)
def k_Rd_targetsBegin_2 (rec : Nat → List (Option Value) → jj_Mem → Option (Int32 × jj_Mem)) (l0 : Nat) (l1 : Nat) (l2 : Nat) (l3 : Int32) (x : jj_Mem) : Option (Int32 × jj_Mem) :=
  (if (x l2 6) ≤ l3 then some (1, x) else if jj_inb l3 60 = true then (if (x (l0 + 1) (Int32.toNatClampNeg l3)) = 0 then k_Rd_targetsBegin_47 rec l0 l1 l2 l3 x else jj_b2 (f_Pr_code l1 l2 l3 x) (fun r4 x4 => jj_b1 (s_In_hasTarget r4) (fun r5 => (if r5 = 0 then k_Rd_targetsBegin_47 rec l0 l1 l2 l3 x4 else jj_b2 (f_Pr_target l1 l2 l3 x4) (fun r7 x7 => jj_b2 (f_Rd_beginsAt l0 l2 r7 x7) (fun r8 x8 => (if r8 = 0 then some (0, x8) else k_Rd_targetsBegin_47 rec l0 l1 l2 l3 x8))))))) else none)
set_option maxHeartbeats 2000000 in
theorem t_Rd_targetsBegin_2 {X : jj_X} {d : Nat} (rec : Nat → List (Option Value) → jj_Mem → Option (Int32 × jj_Mem)) (hrec : ∀ (L : Nat) (lo : List (Option Value)) (x : jj_Mem) (q : Int32 × jj_Mem), rec L lo x = some q → jj_J Y0 X (d + 2) m_Rd_targetsBegin L lo [] x (jp_i q)) {l0 : Nat} {l1 : Nat} {l2 : Nat} {l3 : Int32} (h_l0 : o_Rd l0) (h_l1 : o_Pr l1) (h_l2 : o_Me l2) {x : jj_Mem} {q : Int32 × jj_Mem} (h : k_Rd_targetsBegin_2 rec l0 l1 l2 l3 x = some q) : jj_J Y0 X (d + 2) m_Rd_targetsBegin 2 [some (.ref l0), some (.ref l1), some (.ref l2), some (.int l3)] [] x (jp_i q) := by
  unfold k_Rd_targetsBegin_2 at h
  refine jj_iload_n d_Rd_targetsBegin_2 rfl ?_
  refine jj_aload_n d_Rd_targetsBegin_3 rfl ?_
  refine jj_getI d_Rd_targetsBegin_4 fk_Rd_92 (sh_Me h_l2).2 (sh_Me h_l2).1 rfl rfl ?_
  refine jj_ic_ge (tgt := 53) d_Rd_targetsBegin_7 rfl (fun c1 => ?_) (fun c1 => ?_)
  · rw [if_pos c1] at h
    refine jj_iconst d_Rd_targetsBegin_53 jc_i_1 ?_
    cases h
    exact jj_zreturn d_Rd_targetsBegin_54 rfl (Or.inr rfl) ⟨rfl, rfl⟩
  · rw [if_neg c1] at h
    refine jj_aload_n d_Rd_targetsBegin_10 rfl ?_
    refine jj_getR d_Rd_targetsBegin_11 fk_Rd_9 (sh_Rd h_l0).2 (sh_Rd h_l0).1 rfl ?_
    refine jj_iload_n d_Rd_targetsBegin_14 rfl ?_
    obtain ⟨i2, h⟩ := jj_gt h
    refine jj_baload d_Rd_targetsBegin_15 rfl (ar_Rd_begins h_l0).1 (ar_Rd_begins h_l0).2 (jj_inn i2) rfl ?_
    refine jj_if_eq (tgt := 47) d_Rd_targetsBegin_16 rfl (fun c3 => ?_) (fun c3 => ?_)
    · rw [if_pos c3] at h
      exact jj_J.sub (t_Rd_targetsBegin_47 rec hrec h_l0 h_l1 h_l2 h) (fun i v hi => jj_mask_ok [true, true, true, true] hi)
    · rw [if_neg c3] at h
      refine jj_aload_n d_Rd_targetsBegin_19 rfl ?_
      refine jj_aload_n d_Rd_targetsBegin_20 rfl ?_
      refine jj_iload_n d_Rd_targetsBegin_21 rfl ?_
      obtain ⟨r4, x4, e4, h⟩ := jj_b2o h
      refine jj_callVi (as := [.ref l2, .int l3]) (c_Pr_code (d := d + 1) h_l1 h_l2 e4) d_Rd_targetsBegin_22 ck_Rd_122 (sh_Pr h_l1).2 (sh_Pr h_l1).1 ⟨_, rfl, rfl⟩ rfl rfl (Nat.le_of_ble_eq_true rfl) ?_
      obtain ⟨r5, e5, h⟩ := jj_b1o h
      refine jj_callSi (as := [.int r4]) (c_In_hasTarget (d := d + 1)  e5) d_Rd_targetsBegin_25 ck_Rd_126 rfl rfl (Nat.le_of_ble_eq_true rfl) ?_
      refine jj_if_eq (tgt := 47) d_Rd_targetsBegin_28 rfl (fun c6 => ?_) (fun c6 => ?_)
      · rw [if_pos c6] at h
        exact jj_J.sub (t_Rd_targetsBegin_47 rec hrec h_l0 h_l1 h_l2 h) (fun i v hi => jj_mask_ok [true, true, true, true] hi)
      · rw [if_neg c6] at h
        refine jj_aload_n d_Rd_targetsBegin_31 rfl ?_
        refine jj_aload_n d_Rd_targetsBegin_32 rfl ?_
        refine jj_aload_n d_Rd_targetsBegin_33 rfl ?_
        refine jj_aload_n d_Rd_targetsBegin_34 rfl ?_
        refine jj_iload_n d_Rd_targetsBegin_35 rfl ?_
        obtain ⟨r7, x7, e7, h⟩ := jj_b2o h
        refine jj_callVi (as := [.ref l2, .int l3]) (c_Pr_target (d := d + 0) h_l1 h_l2 e7) d_Rd_targetsBegin_36 ck_Rd_129 (sh_Pr h_l1).2 (sh_Pr h_l1).1 ⟨_, rfl, rfl⟩ rfl rfl (Nat.le_of_ble_eq_true rfl) ?_
        obtain ⟨r8, x8, e8, h⟩ := jj_b2o h
        refine jj_callVi (as := [.ref l2, .int r7]) (c_Rd_beginsAt (d := d + 1) h_l0 h_l2 e8) d_Rd_targetsBegin_39 ck_Rd_132 (sh_Rd h_l0).2 (sh_Rd h_l0).1 ⟨_, rfl, rfl⟩ rfl rfl (Nat.le_of_ble_eq_true rfl) ?_
        refine jj_if_ne (tgt := 47) d_Rd_targetsBegin_42 rfl (fun c9 => ?_) (fun c9 => ?_)
        · rw [if_neg c9] at h
          exact jj_J.sub (t_Rd_targetsBegin_47 rec hrec h_l0 h_l1 h_l2 h) (fun i v hi => jj_mask_ok [true, true, true, true] hi)
        · rw [if_pos c9] at h
          refine jj_iconst d_Rd_targetsBegin_45 jc_i_0 ?_
          cases h
          exact jj_zreturn d_Rd_targetsBegin_46 rfl (Or.inl rfl) ⟨rfl, rfl⟩
def g_Rd_targetsBegin : Nat → Nat → List (Option Value) → jj_Mem → Option (Int32 × jj_Mem)
  | 0, _, _, _ => none
  | f + 1, L, lo, x => match L, lo with
    | 2, [some (.ref l0), some (.ref l1), some (.ref l2), some (.int l3)] => if (bo_Rd l0 && bo_Pr l1 && bo_Me l2) = true then k_Rd_targetsBegin_2 (g_Rd_targetsBegin f) l0 l1 l2 l3 x else none
    | _, _ => none
set_option maxHeartbeats 2000000 in
theorem t_Rd_targetsBegin_g {X : jj_X} {d : Nat} : ∀ (f L : Nat) (lo : List (Option Value)) (x : jj_Mem) (q : Int32 × jj_Mem), g_Rd_targetsBegin f L lo x = some q → jj_J Y0 X (d + 2) m_Rd_targetsBegin L lo [] x (jp_i q) := by
  intro f
  induction f with
  | zero => intro L lo x q h; simp [g_Rd_targetsBegin] at h
  | succ f ih =>
    intro L lo x q h
    unfold g_Rd_targetsBegin at h
    split at h
    · obtain ⟨i1, h⟩ := jj_gt h
      exact t_Rd_targetsBegin_2 _ ih (ob_Rd (jj_andl (jj_andl i1))) (ob_Pr (jj_andr (jj_andl i1))) (ob_Me (jj_andr i1)) h
    · cases h
def k_Rd_targetsBegin_0 (rec : Nat → List (Option Value) → jj_Mem → Option (Int32 × jj_Mem)) (this : Nat) (a1 : Nat) (a2 : Nat) (x : jj_Mem) : Option (Int32 × jj_Mem) :=
  rec 2 [some (.ref this), some (.ref a1), some (.ref a2), some (.int 0)] x
set_option maxHeartbeats 2000000 in
theorem t_Rd_targetsBegin_0 {X : jj_X} {d : Nat} (rec : Nat → List (Option Value) → jj_Mem → Option (Int32 × jj_Mem)) (hrec : ∀ (L : Nat) (lo : List (Option Value)) (x : jj_Mem) (q : Int32 × jj_Mem), rec L lo x = some q → jj_J Y0 X (d + 2) m_Rd_targetsBegin L lo [] x (jp_i q)) {this : Nat} {a1 : Nat} {a2 : Nat} (h_this : o_Rd this) (h_a1 : o_Pr a1) (h_a2 : o_Me a2) {x : jj_Mem} {q : Int32 × jj_Mem} (h : k_Rd_targetsBegin_0 rec this a1 a2 x = some q) : jj_J Y0 X (d + 2) m_Rd_targetsBegin 0 [some (.ref this), some (.ref a1), some (.ref a2), none] [] x (jp_i q) := by
  unfold k_Rd_targetsBegin_0 at h
  refine jj_iconst d_Rd_targetsBegin_0 jc_i_0 ?_
  refine jj_istore_n (lo' := [_, _, _, _]) d_Rd_targetsBegin_1 rfl (by decide) rfl ?_
  exact jj_J.sub (hrec _ _ _ _ h) (fun i v hi => jj_mask_ok [true, true, true, true] hi)
def f_Rd_targetsBegin (this : Nat) (a1 : Nat) (a2 : Nat) (x : jj_Mem) : Option (Int32 × jj_Mem) := k_Rd_targetsBegin_0 (g_Rd_targetsBegin 1000) this a1 a2 x
theorem c_Rd_targetsBegin {X : jj_X} {d : Nat} {this : Nat} {a1 : Nat} {a2 : Nat} (h_this : o_Rd this) (h_a1 : o_Pr a1) (h_a2 : o_Me a2) {x : jj_Mem} {q : Int32 × jj_Mem} (h : f_Rd_targetsBegin this a1 a2 x = some q) : jj_Met Y0 X (d + 2) m_Rd_targetsBegin [.ref this, .ref a1, .ref a2] x (jp_i q) :=
  jj_metp 1 (lo := [some (.ref this), some (.ref a1), some (.ref a2), none]) rfl (Nat.le_of_ble_eq_true rfl) rfl (t_Rd_targetsBegin_0 _ (t_Rd_targetsBegin_g 1000) h_this h_a1 h_a2 h)
