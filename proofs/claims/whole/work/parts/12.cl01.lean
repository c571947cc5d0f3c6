def f_Ma_holds (this : Nat) (a1 : Int32) (a2 : Int32) (a3 : Int32) (x : jj_Mem) : Option (Int32 × jj_Mem) :=
  (if a1 = 0 then (if a2 = a3 then some (1, x) else some (0, x)) else if a1 = 1 then (if a2 = a3 then some (0, x) else some (1, x)) else if a1 = 2 then (if a3 ≤ a2 then some (0, x) else some (1, x)) else if a1 = 3 then (if a2 < a3 then some (0, x) else some (1, x)) else if a1 = 4 then (if a2 ≤ a3 then some (0, x) else some (1, x)) else (if a3 < a2 then some (0, x) else some (1, x)))
set_option maxHeartbeats 2000000 in
theorem t_Ma_holds_0 {X : jj_X} {d : Nat} {this : Nat} {a1 : Int32} {a2 : Int32} {a3 : Int32} (h_this : o_Ma this) {x : jj_Mem} {q : Int32 × jj_Mem} (h : f_Ma_holds this a1 a2 a3 x = some q) : jj_J Y0 X (d + 0) m_Ma_holds 0 [some (.ref this), some (.int a1), some (.int a2), some (.int a3)] [] x (jp_i q) := by
  unfold f_Ma_holds at h
  refine jj_iload_n d_Ma_holds_0 rfl ?_
  by_cases c1 : a1 = 0
  · rw [if_pos c1] at h
    refine jj_tableIn (tgt := 36) d_Ma_holds_1 (by rw [c1] <;> decide) (by rw [c1] <;> decide) (by rw [c1] <;> rfl) rfl ?_
    refine jj_iload_n d_Ma_holds_36 rfl ?_
    refine jj_iload_n d_Ma_holds_37 rfl ?_
    refine jj_ic_ne (tgt := 45) d_Ma_holds_38 rfl (fun c2 => ?_) (fun c2 => ?_)
    · rw [if_neg c2] at h
      refine jj_iconst d_Ma_holds_45 jc_i_0 ?_
      cases h
      exact jj_zreturn d_Ma_holds_46 rfl (Or.inl rfl) ⟨rfl, rfl⟩
    · rw [if_pos c2] at h
      refine jj_iconst d_Ma_holds_41 jc_i_1 ?_
      refine jj_goto (tgt := 46) d_Ma_holds_42 rfl ?_
      cases h
      exact jj_zreturn d_Ma_holds_46 rfl (Or.inr rfl) ⟨rfl, rfl⟩
  rw [if_neg c1] at h
  by_cases c3 : a1 = 1
  · rw [if_pos c3] at h
    refine jj_tableIn (tgt := 47) d_Ma_holds_1 (by rw [c3] <;> decide) (by rw [c3] <;> decide) (by rw [c3] <;> rfl) rfl ?_
    refine jj_iload_n d_Ma_holds_47 rfl ?_
    refine jj_iload_n d_Ma_holds_48 rfl ?_
    refine jj_ic_eq (tgt := 56) d_Ma_holds_49 rfl (fun c4 => ?_) (fun c4 => ?_)
    · rw [if_pos c4] at h
      refine jj_iconst d_Ma_holds_56 jc_i_0 ?_
      cases h
      exact jj_zreturn d_Ma_holds_57 rfl (Or.inl rfl) ⟨rfl, rfl⟩
    · rw [if_neg c4] at h
      refine jj_iconst d_Ma_holds_52 jc_i_1 ?_
      refine jj_goto (tgt := 57) d_Ma_holds_53 rfl ?_
      cases h
      exact jj_zreturn d_Ma_holds_57 rfl (Or.inr rfl) ⟨rfl, rfl⟩
  rw [if_neg c3] at h
  by_cases c5 : a1 = 2
  · rw [if_pos c5] at h
    refine jj_tableIn (tgt := 58) d_Ma_holds_1 (by rw [c5] <;> decide) (by rw [c5] <;> decide) (by rw [c5] <;> rfl) rfl ?_
    refine jj_iload_n d_Ma_holds_58 rfl ?_
    refine jj_iload_n d_Ma_holds_59 rfl ?_
    refine jj_ic_ge (tgt := 67) d_Ma_holds_60 rfl (fun c6 => ?_) (fun c6 => ?_)
    · rw [if_pos c6] at h
      refine jj_iconst d_Ma_holds_67 jc_i_0 ?_
      cases h
      exact jj_zreturn d_Ma_holds_68 rfl (Or.inl rfl) ⟨rfl, rfl⟩
    · rw [if_neg c6] at h
      refine jj_iconst d_Ma_holds_63 jc_i_1 ?_
      refine jj_goto (tgt := 68) d_Ma_holds_64 rfl ?_
      cases h
      exact jj_zreturn d_Ma_holds_68 rfl (Or.inr rfl) ⟨rfl, rfl⟩
  rw [if_neg c5] at h
  by_cases c7 : a1 = 3
  · rw [if_pos c7] at h
    refine jj_tableIn (tgt := 69) d_Ma_holds_1 (by rw [c7] <;> decide) (by rw [c7] <;> decide) (by rw [c7] <;> rfl) rfl ?_
    refine jj_iload_n d_Ma_holds_69 rfl ?_
    refine jj_iload_n d_Ma_holds_70 rfl ?_
    refine jj_ic_lt (tgt := 78) d_Ma_holds_71 rfl (fun c8 => ?_) (fun c8 => ?_)
    · rw [if_pos c8] at h
      refine jj_iconst d_Ma_holds_78 jc_i_0 ?_
      cases h
      exact jj_zreturn d_Ma_holds_79 rfl (Or.inl rfl) ⟨rfl, rfl⟩
    · rw [if_neg c8] at h
      refine jj_iconst d_Ma_holds_74 jc_i_1 ?_
      refine jj_goto (tgt := 79) d_Ma_holds_75 rfl ?_
      cases h
      exact jj_zreturn d_Ma_holds_79 rfl (Or.inr rfl) ⟨rfl, rfl⟩
  rw [if_neg c7] at h
  by_cases c9 : a1 = 4
  · rw [if_pos c9] at h
    refine jj_tableIn (tgt := 80) d_Ma_holds_1 (by rw [c9] <;> decide) (by rw [c9] <;> decide) (by rw [c9] <;> rfl) rfl ?_
    refine jj_iload_n d_Ma_holds_80 rfl ?_
    refine jj_iload_n d_Ma_holds_81 rfl ?_
    refine jj_ic_le (tgt := 89) d_Ma_holds_82 rfl (fun c10 => ?_) (fun c10 => ?_)
    · rw [if_pos c10] at h
      refine jj_iconst d_Ma_holds_89 jc_i_0 ?_
      cases h
      exact jj_zreturn d_Ma_holds_90 rfl (Or.inl rfl) ⟨rfl, rfl⟩
    · rw [if_neg c10] at h
      refine jj_iconst d_Ma_holds_85 jc_i_1 ?_
      refine jj_goto (tgt := 90) d_Ma_holds_86 rfl ?_
      cases h
      exact jj_zreturn d_Ma_holds_90 rfl (Or.inr rfl) ⟨rfl, rfl⟩
  rw [if_neg c9] at h
  refine jj_tableOut (tgt := 91) d_Ma_holds_1 (by have n1 := lv_neT (a := 0) c1 (by decide); have n3 := lv_neT (a := 1) c3 (by decide); have n5 := lv_neT (a := 2) c5 (by decide); have n7 := lv_neT (a := 3) c7 (by decide); have n9 := lv_neT (a := 4) c9 (by decide); omega) rfl ?_
  refine jj_iload_n d_Ma_holds_91 rfl ?_
  refine jj_iload_n d_Ma_holds_92 rfl ?_
  refine jj_ic_gt (tgt := 100) d_Ma_holds_93 rfl (fun c11 => ?_) (fun c11 => ?_)
  · rw [if_pos c11] at h
    refine jj_iconst d_Ma_holds_100 jc_i_0 ?_
    cases h
    exact jj_zreturn d_Ma_holds_101 rfl (Or.inl rfl) ⟨rfl, rfl⟩
  · rw [if_neg c11] at h
    refine jj_iconst d_Ma_holds_96 jc_i_1 ?_
    refine jj_goto (tgt := 101) d_Ma_holds_97 rfl ?_
    cases h
    exact jj_zreturn d_Ma_holds_101 rfl (Or.inr rfl) ⟨rfl, rfl⟩
theorem c_Ma_holds {X : jj_X} {d : Nat} {this : Nat} {a1 : Int32} {a2 : Int32} {a3 : Int32} (h_this : o_Ma this) {x : jj_Mem} {q : Int32 × jj_Mem} (h : f_Ma_holds this a1 a2 a3 x = some q) : jj_Met Y0 X (d + 0) m_Ma_holds [.ref this, .int a1, .int a2, .int a3] x (jp_i q) :=
  jj_metp 0 (lo := [some (.ref this), some (.int a1), some (.int a2), some (.int a3)]) rfl (Nat.le_of_ble_eq_true rfl) rfl (t_Ma_holds_0 h_this h)
def k_Ma_newRow_24 (rec : Nat → List (Option Value) → jj_Mem → Option (Int32 × jj_Mem)) (l0 : Nat) (l1 : Int32) (l2 : Int32) (l3 : Int32) (x : jj_Mem) : Option (Int32 × jj_Mem) :=
  (if l1 ≤ l3 then some (l2, x) else if jj_inb ((l2 * 8) + l3) 64 = true then rec 24 [some (.ref l0), some (.int l1), some (.int l2), some (.int (l3 + 1))] (jj_set x (l0 + 24) (Int32.toNatClampNeg ((l2 * 8) + l3)) 0) else none)
set_option maxHeartbeats 2000000 in
theorem t_Ma_newRow_24 {X : jj_X} {d : Nat} (rec : Nat → List (Option Value) → jj_Mem → Option (Int32 × jj_Mem)) (hrec : ∀ (L : Nat) (lo : List (Option Value)) (x : jj_Mem) (q : Int32 × jj_Mem), rec L lo x = some q → jj_J Y0 X (d + 0) m_Ma_newRow L lo [] x (jp_i q)) {l0 : Nat} {l1 : Int32} {l2 : Int32} {l3 : Int32} (h_l0 : o_Ma l0) {x : jj_Mem} {q : Int32 × jj_Mem} (h : k_Ma_newRow_24 rec l0 l1 l2 l3 x = some q) : jj_J Y0 X (d + 0) m_Ma_newRow 24 [some (.ref l0), some (.int l1), some (.int l2), some (.int l3)] [] x (jp_i q) := by
  unfold k_Ma_newRow_24 at h
  refine jj_iload_n d_Ma_newRow_24 rfl ?_
  refine jj_iload_n d_Ma_newRow_25 rfl ?_
  refine jj_ic_ge (tgt := 47) d_Ma_newRow_26 rfl (fun c1 => ?_) (fun c1 => ?_)
  · rw [if_pos c1] at h
    refine jj_iload_n d_Ma_newRow_47 rfl ?_
    cases h
    exact jj_ireturn d_Ma_newRow_48 rfl ⟨rfl, rfl⟩
  · rw [if_neg c1] at h
    refine jj_aload_n d_Ma_newRow_29 rfl ?_
    refine jj_getR d_Ma_newRow_30 fk_Ma_25 (sh_Ma h_l0).2 (sh_Ma h_l0).1 rfl ?_
    refine jj_iload_n d_Ma_newRow_33 rfl ?_
    refine jj_bipush d_Ma_newRow_34 jc_b_8 ?_
    refine jj_imul d_Ma_newRow_36 ?_
    refine jj_iload_n d_Ma_newRow_37 rfl ?_
    refine jj_iadd d_Ma_newRow_38 ?_
    refine jj_iconst d_Ma_newRow_39 jc_i_0 ?_
    obtain ⟨i2, h⟩ := jj_gt h
    refine jj_iastore d_Ma_newRow_40 rfl (ar_Ma_elements h_l0).1 (ar_Ma_elements h_l0).2 (jj_inn i2) ?_
    refine jj_iinc (lo' := [_, _, _, _]) (v := (l3 + 1)) d_Ma_newRow_41 rfl (jc_a_1 _) rfl (by decide) rfl ?_
    refine jj_goto (tgt := 24) d_Ma_newRow_44 rfl ?_
    exact jj_J.sub (hrec _ _ _ _ h) (fun i v hi => jj_mask_ok [true, true, true, true] hi)
def g_Ma_newRow : Nat → Nat → List (Option Value) → jj_Mem → Option (Int32 × jj_Mem)
  | 0, _, _, _ => none
  | f + 1, L, lo, x => match L, lo with
    | 24, [some (.ref l0), some (.int l1), some (.int l2), some (.int l3)] => if (bo_Ma l0) = true then k_Ma_newRow_24 (g_Ma_newRow f) l0 l1 l2 l3 x else none
    | _, _ => none
set_option maxHeartbeats 2000000 in
theorem t_Ma_newRow_g {X : jj_X} {d : Nat} : ∀ (f L : Nat) (lo : List (Option Value)) (x : jj_Mem) (q : Int32 × jj_Mem), g_Ma_newRow f L lo x = some q → jj_J Y0 X (d + 0) m_Ma_newRow L lo [] x (jp_i q) := by
  intro f
  induction f with
  | zero => intro L lo x q h; simp [g_Ma_newRow] at h
  | succ f ih =>
    intro L lo x q h
    unfold g_Ma_newRow at h
    split at h
    · obtain ⟨i1, h⟩ := jj_gt h
      exact t_Ma_newRow_24 _ ih (ob_Ma i1) h
    · cases h
def k_Ma_newRow_0 (rec : Nat → List (Option Value) → jj_Mem → Option (Int32 × jj_Mem)) (this : Nat) (a1 : Int32) (x : jj_Mem) : Option (Int32 × jj_Mem) :=
  if jj_inb (x this 8) 8 = true then rec 24 [some (.ref this), some (.int a1), some (.int (x this 8)), some (.int 0)] (jj_set (jj_set x this 8 ((x this 8) + 1)) (this + 25) (Int32.toNatClampNeg (x this 8)) a1) else none
set_option maxHeartbeats 2000000 in
theorem t_Ma_newRow_0 {X : jj_X} {d : Nat} (rec : Nat → List (Option Value) → jj_Mem → Option (Int32 × jj_Mem)) (hrec : ∀ (L : Nat) (lo : List (Option Value)) (x : jj_Mem) (q : Int32 × jj_Mem), rec L lo x = some q → jj_J Y0 X (d + 0) m_Ma_newRow L lo [] x (jp_i q)) {this : Nat} {a1 : Int32} (h_this : o_Ma this) {x : jj_Mem} {q : Int32 × jj_Mem} (h : k_Ma_newRow_0 rec this a1 x = some q) : jj_J Y0 X (d + 0) m_Ma_newRow 0 [some (.ref this), some (.int a1), none, none] [] x (jp_i q) := by
  unfold k_Ma_newRow_0 at h
  refine jj_aload_n d_Ma_newRow_0 rfl ?_
  refine jj_getI d_Ma_newRow_1 fk_Ma_35 (sh_Ma h_this).2 (sh_Ma h_this).1 rfl rfl ?_
  refine jj_istore_n (lo' := [_, _, _, _]) d_Ma_newRow_4 rfl (by decide) rfl ?_
  refine jj_aload_n d_Ma_newRow_5 rfl ?_
  refine jj_dup d_Ma_newRow_6 rfl ?_
  refine jj_getI d_Ma_newRow_7 fk_Ma_35 (sh_Ma h_this).2 (sh_Ma h_this).1 rfl rfl ?_
  refine jj_iconst d_Ma_newRow_10 jc_i_1 ?_
  refine jj_iadd d_Ma_newRow_11 ?_
  refine jj_putI d_Ma_newRow_12 pk_Ma_35 (sh_Ma h_this).2 (sh_Ma h_this).1 rfl ?_
  refine jj_aload_n d_Ma_newRow_15 rfl ?_
  refine jj_getR d_Ma_newRow_16 fk_Ma_28 (sh_Ma h_this).2 (sh_Ma h_this).1 rfl ?_
  refine jj_iload_n d_Ma_newRow_19 rfl ?_
  refine jj_iload_n d_Ma_newRow_20 rfl ?_
  obtain ⟨i1, h⟩ := jj_gt h
  refine jj_iastore d_Ma_newRow_21 rfl (ar_Ma_lengths h_this).1 (ar_Ma_lengths h_this).2 (jj_inn i1) ?_
  refine jj_iconst d_Ma_newRow_22 jc_i_0 ?_
  refine jj_istore_n (lo' := [_, _, _, _]) d_Ma_newRow_23 rfl (by decide) rfl ?_
  exact jj_J.sub (hrec _ _ _ _ h) (fun i v hi => jj_mask_ok [true, true, true, true] hi)
def f_Ma_newRow (this : Nat) (a1 : Int32) (x : jj_Mem) : Option (Int32 × jj_Mem) := k_Ma_newRow_0 (g_Ma_newRow 1000) this a1 x
theorem c_Ma_newRow {X : jj_X} {d : Nat} {this : Nat} {a1 : Int32} (h_this : o_Ma this) {x : jj_Mem} {q : Int32 × jj_Mem} (h : f_Ma_newRow this a1 x = some q) : jj_Met Y0 X (d + 0) m_Ma_newRow [.ref this, .int a1] x (jp_i q) :=
  jj_metp 2 (lo := [some (.ref this), some (.int a1), none, none]) rfl (Nat.le_of_ble_eq_true rfl) rfl (t_Ma_newRow_0 _ (t_Ma_newRow_g 1000) h_this h)
def f_Ma_reckoned (this : Nat) (a1 : Int32) (a2 : Int32) (a3 : Int32) (x : jj_Mem) : Option (Int32 × jj_Mem) :=
  (if a1 = 96 then some ((a2 + a3), x) else if a1 = 100 then some ((a2 - a3), x) else if a1 = 104 then some ((a2 * a3), x) else (if a3 = 0 then some (0, x) else if jj_nz a3 = true then some ((a2 / a3), x) else none))
set_option maxHeartbeats 2000000 in
theorem t_Ma_reckoned_0 {X : jj_X} {d : Nat} {this : Nat} {a1 : Int32} {a2 : Int32} {a3 : Int32} (h_this : o_Ma this) {x : jj_Mem} {q : Int32 × jj_Mem} (h : f_Ma_reckoned this a1 a2 a3 x = some q) : jj_J Y0 X (d + 0) m_Ma_reckoned 0 [some (.ref this), some (.int a1), some (.int a2), some (.int a3)] [] x (jp_i q) := by
  unfold f_Ma_reckoned at h
  refine jj_iload_n d_Ma_reckoned_0 rfl ?_
  by_cases c1 : a1 = 96
  · rw [if_pos c1] at h
    refine jj_lookup (tgt := 36) d_Ma_reckoned_1 rfl (by rw [c1] <;> rfl) rfl ?_
    refine jj_iload_n d_Ma_reckoned_36 rfl ?_
    refine jj_iload_n d_Ma_reckoned_37 rfl ?_
    refine jj_iadd d_Ma_reckoned_38 ?_
    cases h
    exact jj_ireturn d_Ma_reckoned_39 rfl ⟨rfl, rfl⟩
  rw [if_neg c1] at h
  by_cases c2 : a1 = 100
  · rw [if_pos c2] at h
    refine jj_lookup (tgt := 40) d_Ma_reckoned_1 rfl (by rw [c2] <;> rfl) rfl ?_
    refine jj_iload_n d_Ma_reckoned_40 rfl ?_
    refine jj_iload_n d_Ma_reckoned_41 rfl ?_
    refine jj_isub d_Ma_reckoned_42 ?_
    cases h
    exact jj_ireturn d_Ma_reckoned_43 rfl ⟨rfl, rfl⟩
  rw [if_neg c2] at h
  by_cases c3 : a1 = 104
  · rw [if_pos c3] at h
    refine jj_lookup (tgt := 44) d_Ma_reckoned_1 rfl (by rw [c3] <;> rfl) rfl ?_
    refine jj_iload_n d_Ma_reckoned_44 rfl ?_
    refine jj_iload_n d_Ma_reckoned_45 rfl ?_
    refine jj_imul d_Ma_reckoned_46 ?_
    cases h
    exact jj_ireturn d_Ma_reckoned_47 rfl ⟨rfl, rfl⟩
  rw [if_neg c3] at h
  refine jj_lookup (tgt := 48) d_Ma_reckoned_1 rfl ((lv_osw c1 (by decide)).trans ((lv_osw c2 (by decide)).trans ((lv_osw c3 (by decide)).trans (rfl)))) rfl ?_
  refine jj_iload_n d_Ma_reckoned_48 rfl ?_
  refine jj_if_ne (tgt := 56) d_Ma_reckoned_49 rfl (fun c4 => ?_) (fun c4 => ?_)
  · rw [if_neg c4] at h
    refine jj_iload_n d_Ma_reckoned_56 rfl ?_
    refine jj_iload_n d_Ma_reckoned_57 rfl ?_
    obtain ⟨i5, h⟩ := jj_gt h
    refine jj_idiv d_Ma_reckoned_58 (jj_nzo i5) ?_
    cases h
    exact jj_ireturn d_Ma_reckoned_59 rfl ⟨rfl, rfl⟩
  · rw [if_pos c4] at h
    refine jj_iconst d_Ma_reckoned_52 jc_i_0 ?_
    refine jj_goto (tgt := 59) d_Ma_reckoned_53 rfl ?_
    cases h
    exact jj_ireturn d_Ma_reckoned_59 rfl ⟨rfl, rfl⟩
theorem c_Ma_reckoned {X : jj_X} {d : Nat} {this : Nat} {a1 : Int32} {a2 : Int32} {a3 : Int32} (h_this : o_Ma this) {x : jj_Mem} {q : Int32 × jj_Mem} (h : f_Ma_reckoned this a1 a2 a3 x = some q) : jj_Met Y0 X (d + 0) m_Ma_reckoned [.ref this, .int a1, .int a2, .int a3] x (jp_i q) :=
  jj_metp 0 (lo := [some (.ref this), some (.int a1), some (.int a2), some (.int a3)]) rfl (Nat.le_of_ble_eq_true rfl) rfl (t_Ma_reckoned_0 h_this h)
def f_Ma_resultOf (this : Nat) (a1 : Int32) (a2 : Int32) (x : jj_Mem) : Option (Int32 × jj_Mem) :=
  (if a1 = 1 then some (a2, x) else if a1 = 2 then if jj_inb a2 8 = true then some ((x (this + 25) (Int32.toNatClampNeg a2)), x) else none else if a1 = 3 then some ((-1), x) else some (0, x))
set_option maxHeartbeats 2000000 in
theorem t_Ma_resultOf_0 {X : jj_X} {d : Nat} {this : Nat} {a1 : Int32} {a2 : Int32} (h_this : o_Ma this) {x : jj_Mem} {q : Int32 × jj_Mem} (h : f_Ma_resultOf this a1 a2 x = some q) : jj_J Y0 X (d + 0) m_Ma_resultOf 0 [some (.ref this), some (.int a1), some (.int a2)] [] x (jp_i q) := by
  unfold f_Ma_resultOf at h
  refine jj_iload_n d_Ma_resultOf_0 rfl ?_
  by_cases c1 : a1 = 1
  · rw [if_pos c1] at h
    refine jj_tableIn (tgt := 28) d_Ma_resultOf_1 (by rw [c1] <;> decide) (by rw [c1] <;> decide) (by rw [c1] <;> rfl) rfl ?_
    refine jj_iload_n d_Ma_resultOf_28 rfl ?_
    cases h
    exact jj_ireturn d_Ma_resultOf_29 rfl ⟨rfl, rfl⟩
  rw [if_neg c1] at h
  by_cases c2 : a1 = 2
  · rw [if_pos c2] at h
    refine jj_tableIn (tgt := 30) d_Ma_resultOf_1 (by rw [c2] <;> decide) (by rw [c2] <;> decide) (by rw [c2] <;> rfl) rfl ?_
    refine jj_aload_n d_Ma_resultOf_30 rfl ?_
    refine jj_getR d_Ma_resultOf_31 fk_Ma_28 (sh_Ma h_this).2 (sh_Ma h_this).1 rfl ?_
    refine jj_iload_n d_Ma_resultOf_34 rfl ?_
    obtain ⟨i3, h⟩ := jj_gt h
    refine jj_iaload d_Ma_resultOf_35 rfl (ar_Ma_lengths h_this).1 (ar_Ma_lengths h_this).2 (jj_inn i3) rfl ?_
    cases h
    exact jj_ireturn d_Ma_resultOf_36 rfl ⟨rfl, rfl⟩
  rw [if_neg c2] at h
  by_cases c4 : a1 = 3
  · rw [if_pos c4] at h
    refine jj_tableIn (tgt := 37) d_Ma_resultOf_1 (by rw [c4] <;> decide) (by rw [c4] <;> decide) (by rw [c4] <;> rfl) rfl ?_
    refine jj_iconst d_Ma_resultOf_37 jc_i_m1 ?_
    cases h
    exact jj_ireturn d_Ma_resultOf_38 rfl ⟨rfl, rfl⟩
  rw [if_neg c4] at h
  refine jj_tableOut (tgt := 39) d_Ma_resultOf_1 (by have n1 := lv_neT (a := 1) c1 (by decide); have n2 := lv_neT (a := 2) c2 (by decide); have n4 := lv_neT (a := 3) c4 (by decide); omega) rfl ?_
  refine jj_iconst d_Ma_resultOf_39 jc_i_0 ?_
  cases h
  exact jj_ireturn d_Ma_resultOf_40 rfl ⟨rfl, rfl⟩
theorem c_Ma_resultOf {X : jj_X} {d : Nat} {this : Nat} {a1 : Int32} {a2 : Int32} (h_this : o_Ma this) {x : jj_Mem} {q : Int32 × jj_Mem} (h : f_Ma_resultOf this a1 a2 x = some q) : jj_Met Y0 X (d + 0) m_Ma_resultOf [.ref this, .int a1, .int a2] x (jp_i q) :=
  jj_metp 0 (lo := [some (.ref this), some (.int a1), some (.int a2)]) rfl (Nat.le_of_ble_eq_true rfl) rfl (t_Ma_resultOf_0 h_this h)
def f_Pr_called (this : Nat) (a1 : Nat) (a2 : Int32) (x : jj_Mem) : Option (Nat × jj_Mem) :=
  if jj_inb (((x a1 5) + a2) + 1) 240 = true then if jj_inb (x (this + 1) (Int32.toNatClampNeg (((x a1 5) + a2) + 1))) 4 = true then some ((this + 3 + 2 * (Int32.toNatClampNeg (x (this + 1) (Int32.toNatClampNeg (((x a1 5) + a2) + 1))))), x) else none else none
set_option maxHeartbeats 2000000 in
theorem t_Pr_called_0 {X : jj_X} {d : Nat} {this : Nat} {a1 : Nat} {a2 : Int32} (h_this : o_Pr this) (h_a1 : o_Me a1) {x : jj_Mem} {q : Nat × jj_Mem} (h : f_Pr_called this a1 a2 x = some q) : jj_J Y0 X (d + 0) m_Pr_called 0 [some (.ref this), some (.ref a1), some (.int a2)] [] x (jp_r q) := by
  unfold f_Pr_called at h
  refine jj_aload_n d_Pr_called_0 rfl ?_
  refine jj_getR d_Pr_called_1 fk_Pr_17 (sh_Pr h_this).2 (sh_Pr h_this).1 rfl ?_
  refine jj_aload_n d_Pr_called_4 rfl ?_
  refine jj_getR d_Pr_called_5 fk_Pr_9 (sh_Pr h_this).2 (sh_Pr h_this).1 rfl ?_
  refine jj_aload_n d_Pr_called_8 rfl ?_
  refine jj_getI d_Pr_called_9 fk_Pr_38 (sh_Me h_a1).2 (sh_Me h_a1).1 rfl rfl ?_
  refine jj_iload_n d_Pr_called_12 rfl ?_
  refine jj_iadd d_Pr_called_13 ?_
  refine jj_iconst d_Pr_called_14 jc_i_1 ?_
  refine jj_iadd d_Pr_called_15 ?_
  obtain ⟨i1, h⟩ := jj_gt h
  refine jj_iaload d_Pr_called_16 rfl (ar_Pr_file h_this).1 (ar_Pr_file h_this).2 (jj_inn i1) rfl ?_
  obtain ⟨i2, h⟩ := jj_gt h
  refine jj_aaload d_Pr_called_17 rfl (pa_Pr_parts h_this).1 (pa_Pr_parts h_this).2 (jj_inn i2) rfl ?_
  cases h
  exact jj_areturn d_Pr_called_18 rfl ⟨rfl, rfl⟩
theorem c_Pr_called {X : jj_X} {d : Nat} {this : Nat} {a1 : Nat} {a2 : Int32} (h_this : o_Pr this) (h_a1 : o_Me a1) {x : jj_Mem} {q : Nat × jj_Mem} (h : f_Pr_called this a1 a2 x = some q) : jj_Met Y0 X (d + 0) m_Pr_called [.ref this, .ref a1, .int a2] x (jp_r q) :=
  jj_metp 0 (lo := [some (.ref this), some (.ref a1), some (.int a2)]) rfl (Nat.le_of_ble_eq_true rfl) rfl (t_Pr_called_0 h_this h_a1 h)
def f_Pr_code (this : Nat) (a1 : Nat) (a2 : Int32) (x : jj_Mem) : Option (Int32 × jj_Mem) :=
  if jj_inb ((x a1 5) + a2) 240 = true then some ((x (this + 1) (Int32.toNatClampNeg ((x a1 5) + a2))), x) else none
set_option maxHeartbeats 2000000 in
theorem t_Pr_code_0 {X : jj_X} {d : Nat} {this : Nat} {a1 : Nat} {a2 : Int32} (h_this : o_Pr this) (h_a1 : o_Me a1) {x : jj_Mem} {q : Int32 × jj_Mem} (h : f_Pr_code this a1 a2 x = some q) : jj_J Y0 X (d + 0) m_Pr_code 0 [some (.ref this), some (.ref a1), some (.int a2)] [] x (jp_i q) := by
  unfold f_Pr_code at h
  refine jj_aload_n d_Pr_code_0 rfl ?_
  refine jj_getR d_Pr_code_1 fk_Pr_9 (sh_Pr h_this).2 (sh_Pr h_this).1 rfl ?_
  refine jj_aload_n d_Pr_code_4 rfl ?_
  refine jj_getI d_Pr_code_5 fk_Pr_38 (sh_Me h_a1).2 (sh_Me h_a1).1 rfl rfl ?_
  refine jj_iload_n d_Pr_code_8 rfl ?_
  refine jj_iadd d_Pr_code_9 ?_
  obtain ⟨i1, h⟩ := jj_gt h
  refine jj_iaload d_Pr_code_10 rfl (ar_Pr_file h_this).1 (ar_Pr_file h_this).2 (jj_inn i1) rfl ?_
  cases h
  exact jj_ireturn d_Pr_code_11 rfl ⟨rfl, rfl⟩
theorem c_Pr_code {X : jj_X} {d : Nat} {this : Nat} {a1 : Nat} {a2 : Int32} (h_this : o_Pr this) (h_a1 : o_Me a1) {x : jj_Mem} {q : Int32 × jj_Mem} (h : f_Pr_code this a1 a2 x = some q) : jj_Met Y0 X (d + 0) m_Pr_code [.ref this, .ref a1, .int a2] x (jp_i q) :=
  jj_metp 0 (lo := [some (.ref this), some (.ref a1), some (.int a2)]) rfl (Nat.le_of_ble_eq_true rfl) rfl (t_Pr_code_0 h_this h_a1 h)
def f_Pr_constant (this : Nat) (a1 : Int32) (x : jj_Mem) : Option (Int32 × jj_Mem) :=
  if jj_inb ((x this 3) + (4 * a1)) 240 = true then if jj_inb (((x this 3) + (4 * a1)) + 1) 240 = true then if jj_inb (((x this 3) + (4 * a1)) + 2) 240 = true then if jj_inb (((x this 3) + (4 * a1)) + 3) 240 = true then some ((((((x (this + 1) (Int32.toNatClampNeg ((x this 3) + (4 * a1)))) <<< (24 &&& 31)) ||| ((x (this + 1) (Int32.toNatClampNeg (((x this 3) + (4 * a1)) + 1))) <<< (16 &&& 31))) ||| ((x (this + 1) (Int32.toNatClampNeg (((x this 3) + (4 * a1)) + 2))) <<< (8 &&& 31))) ||| (x (this + 1) (Int32.toNatClampNeg (((x this 3) + (4 * a1)) + 3)))), x) else none else none else none else none
set_option maxHeartbeats 2000000 in
theorem t_Pr_constant_0 {X : jj_X} {d : Nat} {this : Nat} {a1 : Int32} (h_this : o_Pr this) {x : jj_Mem} {q : Int32 × jj_Mem} (h : f_Pr_constant this a1 x = some q) : jj_J Y0 X (d + 0) m_Pr_constant 0 [some (.ref this), some (.int a1), none] [] x (jp_i q) := by
  unfold f_Pr_constant at h
  refine jj_aload_n d_Pr_constant_0 rfl ?_
  refine jj_getI d_Pr_constant_1 fk_Pr_32 (sh_Pr h_this).2 (sh_Pr h_this).1 rfl rfl ?_
  refine jj_iconst d_Pr_constant_4 jc_i_4 ?_
  refine jj_iload_n d_Pr_constant_5 rfl ?_
  refine jj_imul d_Pr_constant_6 ?_
  refine jj_iadd d_Pr_constant_7 ?_
  refine jj_istore_n (lo' := [_, _, _]) d_Pr_constant_8 rfl (by decide) rfl ?_
  refine jj_aload_n d_Pr_constant_9 rfl ?_
  refine jj_getR d_Pr_constant_10 fk_Pr_9 (sh_Pr h_this).2 (sh_Pr h_this).1 rfl ?_
  refine jj_iload_n d_Pr_constant_13 rfl ?_
  obtain ⟨i1, h⟩ := jj_gt h
  refine jj_iaload d_Pr_constant_14 rfl (ar_Pr_file h_this).1 (ar_Pr_file h_this).2 (jj_inn i1) rfl ?_
  refine jj_bipush d_Pr_constant_15 jc_b_24 ?_
  refine jj_ishl d_Pr_constant_17 ?_
  refine jj_aload_n d_Pr_constant_18 rfl ?_
  refine jj_getR d_Pr_constant_19 fk_Pr_9 (sh_Pr h_this).2 (sh_Pr h_this).1 rfl ?_
  refine jj_iload_n d_Pr_constant_22 rfl ?_
  refine jj_iconst d_Pr_constant_23 jc_i_1 ?_
  refine jj_iadd d_Pr_constant_24 ?_
  obtain ⟨i2, h⟩ := jj_gt h
  refine jj_iaload d_Pr_constant_25 rfl (ar_Pr_file h_this).1 (ar_Pr_file h_this).2 (jj_inn i2) rfl ?_
  refine jj_bipush d_Pr_constant_26 jc_b_16 ?_
  refine jj_ishl d_Pr_constant_28 ?_
  refine jj_ior d_Pr_constant_29 ?_
  refine jj_aload_n d_Pr_constant_30 rfl ?_
  refine jj_getR d_Pr_constant_31 fk_Pr_9 (sh_Pr h_this).2 (sh_Pr h_this).1 rfl ?_
  refine jj_iload_n d_Pr_constant_34 rfl ?_
  refine jj_iconst d_Pr_constant_35 jc_i_2 ?_
  refine jj_iadd d_Pr_constant_36 ?_
  obtain ⟨i3, h⟩ := jj_gt h
  refine jj_iaload d_Pr_constant_37 rfl (ar_Pr_file h_this).1 (ar_Pr_file h_this).2 (jj_inn i3) rfl ?_
  refine jj_bipush d_Pr_constant_38 jc_b_8 ?_
  refine jj_ishl d_Pr_constant_40 ?_
  refine jj_ior d_Pr_constant_41 ?_
  refine jj_aload_n d_Pr_constant_42 rfl ?_
  refine jj_getR d_Pr_constant_43 fk_Pr_9 (sh_Pr h_this).2 (sh_Pr h_this).1 rfl ?_
  refine jj_iload_n d_Pr_constant_46 rfl ?_
  refine jj_iconst d_Pr_constant_47 jc_i_3 ?_
  refine jj_iadd d_Pr_constant_48 ?_
  obtain ⟨i4, h⟩ := jj_gt h
  refine jj_iaload d_Pr_constant_49 rfl (ar_Pr_file h_this).1 (ar_Pr_file h_this).2 (jj_inn i4) rfl ?_
  refine jj_ior d_Pr_constant_50 ?_
  cases h
  exact jj_ireturn d_Pr_constant_51 rfl ⟨rfl, rfl⟩
theorem c_Pr_constant {X : jj_X} {d : Nat} {this : Nat} {a1 : Int32} (h_this : o_Pr this) {x : jj_Mem} {q : Int32 × jj_Mem} (h : f_Pr_constant this a1 x = some q) : jj_Met Y0 X (d + 0) m_Pr_constant [.ref this, .int a1] x (jp_i q) :=
  jj_metp 1 (lo := [some (.ref this), some (.int a1), none]) rfl (Nat.le_of_ble_eq_true rfl) rfl (t_Pr_constant_0 h_this h)
def f_Pr_frameHeight (this : Nat) (a1 : Nat) (a2 : Int32) (x : jj_Mem) : Option (Int32 × jj_Mem) :=
  if jj_inb a2 8 = true then if jj_inb (((x (a1 + 1) (Int32.toNatClampNeg a2)) + 1) + (x a1 4)) 240 = true then some ((x (this + 1) (Int32.toNatClampNeg (((x (a1 + 1) (Int32.toNatClampNeg a2)) + 1) + (x a1 4)))), x) else none else none
set_option maxHeartbeats 2000000 in
theorem t_Pr_frameHeight_0 {X : jj_X} {d : Nat} {this : Nat} {a1 : Nat} {a2 : Int32} (h_this : o_Pr this) (h_a1 : o_Me a1) {x : jj_Mem} {q : Int32 × jj_Mem} (h : f_Pr_frameHeight this a1 a2 x = some q) : jj_J Y0 X (d + 0) m_Pr_frameHeight 0 [some (.ref this), some (.ref a1), some (.int a2)] [] x (jp_i q) := by
  unfold f_Pr_frameHeight at h
  refine jj_aload_n d_Pr_frameHeight_0 rfl ?_
  refine jj_getR d_Pr_frameHeight_1 fk_Pr_9 (sh_Pr h_this).2 (sh_Pr h_this).1 rfl ?_
  refine jj_aload_n d_Pr_frameHeight_4 rfl ?_
  refine jj_getR d_Pr_frameHeight_5 fk_Pr_47 (sh_Me h_a1).2 (sh_Me h_a1).1 rfl ?_
  refine jj_iload_n d_Pr_frameHeight_8 rfl ?_
  obtain ⟨i1, h⟩ := jj_gt h
  refine jj_iaload d_Pr_frameHeight_9 rfl (ar_Me_framesAt h_a1).1 (ar_Me_framesAt h_a1).2 (jj_inn i1) rfl ?_
  refine jj_iconst d_Pr_frameHeight_10 jc_i_1 ?_
  refine jj_iadd d_Pr_frameHeight_11 ?_
  refine jj_aload_n d_Pr_frameHeight_12 rfl ?_
  refine jj_getI d_Pr_frameHeight_13 fk_Pr_50 (sh_Me h_a1).2 (sh_Me h_a1).1 rfl rfl ?_
  refine jj_iadd d_Pr_frameHeight_16 ?_
  obtain ⟨i2, h⟩ := jj_gt h
  refine jj_iaload d_Pr_frameHeight_17 rfl (ar_Pr_file h_this).1 (ar_Pr_file h_this).2 (jj_inn i2) rfl ?_
  cases h
  exact jj_ireturn d_Pr_frameHeight_18 rfl ⟨rfl, rfl⟩
theorem c_Pr_frameHeight {X : jj_X} {d : Nat} {this : Nat} {a1 : Nat} {a2 : Int32} (h_this : o_Pr this) (h_a1 : o_Me a1) {x : jj_Mem} {q : Int32 × jj_Mem} (h : f_Pr_frameHeight this a1 a2 x = some q) : jj_Met Y0 X (d + 0) m_Pr_frameHeight [.ref this, .ref a1, .int a2] x (jp_i q) :=
  jj_metp 0 (lo := [some (.ref this), some (.ref a1), some (.int a2)]) rfl (Nat.le_of_ble_eq_true rfl) rfl (t_Pr_frameHeight_0 h_this h_a1 h)
def f_Pr_frameOffset (this : Nat) (a1 : Nat) (a2 : Int32) (x : jj_Mem) : Option (Int32 × jj_Mem) :=
  if jj_inb a2 8 = true then if jj_inb (x (a1 + 1) (Int32.toNatClampNeg a2)) 240 = true then some ((x (this + 1) (Int32.toNatClampNeg (x (a1 + 1) (Int32.toNatClampNeg a2)))), x) else none else none
set_option maxHeartbeats 2000000 in
theorem t_Pr_frameOffset_0 {X : jj_X} {d : Nat} {this : Nat} {a1 : Nat} {a2 : Int32} (h_this : o_Pr this) (h_a1 : o_Me a1) {x : jj_Mem} {q : Int32 × jj_Mem} (h : f_Pr_frameOffset this a1 a2 x = some q) : jj_J Y0 X (d + 0) m_Pr_frameOffset 0 [some (.ref this), some (.ref a1), some (.int a2)] [] x (jp_i q) := by
  unfold f_Pr_frameOffset at h
  refine jj_aload_n d_Pr_frameOffset_0 rfl ?_
  refine jj_getR d_Pr_frameOffset_1 fk_Pr_9 (sh_Pr h_this).2 (sh_Pr h_this).1 rfl ?_
  refine jj_aload_n d_Pr_frameOffset_4 rfl ?_
  refine jj_getR d_Pr_frameOffset_5 fk_Pr_47 (sh_Me h_a1).2 (sh_Me h_a1).1 rfl ?_
  refine jj_iload_n d_Pr_frameOffset_8 rfl ?_
  obtain ⟨i1, h⟩ := jj_gt h
  refine jj_iaload d_Pr_frameOffset_9 rfl (ar_Me_framesAt h_a1).1 (ar_Me_framesAt h_a1).2 (jj_inn i1) rfl ?_
  obtain ⟨i2, h⟩ := jj_gt h
  refine jj_iaload d_Pr_frameOffset_10 rfl (ar_Pr_file h_this).1 (ar_Pr_file h_this).2 (jj_inn i2) rfl ?_
  cases h
  exact jj_ireturn d_Pr_frameOffset_11 rfl ⟨rfl, rfl⟩
theorem c_Pr_frameOffset {X : jj_X} {d : Nat} {this : Nat} {a1 : Nat} {a2 : Int32} (h_this : o_Pr this) (h_a1 : o_Me a1) {x : jj_Mem} {q : Int32 × jj_Mem} (h : f_Pr_frameOffset this a1 a2 x = some q) : jj_Met Y0 X (d + 0) m_Pr_frameOffset [.ref this, .ref a1, .int a2] x (jp_i q) :=
  jj_metp 0 (lo := [some (.ref this), some (.ref a1), some (.int a2)]) rfl (Nat.le_of_ble_eq_true rfl) rfl (t_Pr_frameOffset_0 h_this h_a1 h)
def f_Pr_framePlace (this : Nat) (a1 : Nat) (a2 : Int32) (a3 : Int32) (x : jj_Mem) : Option (Int32 × jj_Mem) :=
  if jj_inb a2 8 = true then if jj_inb (((x (a1 + 1) (Int32.toNatClampNeg a2)) + 1) + a3) 240 = true then some ((x (this + 1) (Int32.toNatClampNeg (((x (a1 + 1) (Int32.toNatClampNeg a2)) + 1) + a3))), x) else none else none
set_option maxHeartbeats 2000000 in
theorem t_Pr_framePlace_0 {X : jj_X} {d : Nat} {this : Nat} {a1 : Nat} {a2 : Int32} {a3 : Int32} (h_this : o_Pr this) (h_a1 : o_Me a1) {x : jj_Mem} {q : Int32 × jj_Mem} (h : f_Pr_framePlace this a1 a2 a3 x = some q) : jj_J Y0 X (d + 0) m_Pr_framePlace 0 [some (.ref this), some (.ref a1), some (.int a2), some (.int a3)] [] x (jp_i q) := by
  unfold f_Pr_framePlace at h
  refine jj_aload_n d_Pr_framePlace_0 rfl ?_
  refine jj_getR d_Pr_framePlace_1 fk_Pr_9 (sh_Pr h_this).2 (sh_Pr h_this).1 rfl ?_
  refine jj_aload_n d_Pr_framePlace_4 rfl ?_
  refine jj_getR d_Pr_framePlace_5 fk_Pr_47 (sh_Me h_a1).2 (sh_Me h_a1).1 rfl ?_
  refine jj_iload_n d_Pr_framePlace_8 rfl ?_
  obtain ⟨i1, h⟩ := jj_gt h
  refine jj_iaload d_Pr_framePlace_9 rfl (ar_Me_framesAt h_a1).1 (ar_Me_framesAt h_a1).2 (jj_inn i1) rfl ?_
  refine jj_iconst d_Pr_framePlace_10 jc_i_1 ?_
  refine jj_iadd d_Pr_framePlace_11 ?_
  refine jj_iload_n d_Pr_framePlace_12 rfl ?_
  refine jj_iadd d_Pr_framePlace_13 ?_
  obtain ⟨i2, h⟩ := jj_gt h
  refine jj_iaload d_Pr_framePlace_14 rfl (ar_Pr_file h_this).1 (ar_Pr_file h_this).2 (jj_inn i2) rfl ?_
  cases h
  exact jj_ireturn d_Pr_framePlace_15 rfl ⟨rfl, rfl⟩
theorem c_Pr_framePlace {X : jj_X} {d : Nat} {this : Nat} {a1 : Nat} {a2 : Int32} {a3 : Int32} (h_this : o_Pr this) (h_a1 : o_Me a1) {x : jj_Mem} {q : Int32 × jj_Mem} (h : f_Pr_framePlace this a1 a2 a3 x = some q) : jj_Met Y0 X (d + 0) m_Pr_framePlace [.ref this, .ref a1, .int a2, .int a3] x (jp_i q) :=
  jj_metp 0 (lo := [some (.ref this), some (.ref a1), some (.int a2), some (.int a3)]) rfl (Nat.le_of_ble_eq_true rfl) rfl (t_Pr_framePlace_0 h_this h_a1 h)
def f_Pr_frameValue (this : Nat) (a1 : Nat) (a2 : Int32) (a3 : Int32) (x : jj_Mem) : Option (Int32 × jj_Mem) :=
  if jj_inb a2 8 = true then if jj_inb ((((x (a1 + 1) (Int32.toNatClampNeg a2)) + 2) + (x a1 4)) + a3) 240 = true then some ((x (this + 1) (Int32.toNatClampNeg ((((x (a1 + 1) (Int32.toNatClampNeg a2)) + 2) + (x a1 4)) + a3))), x) else none else none
set_option maxHeartbeats 2000000 in
theorem t_Pr_frameValue_0 {X : jj_X} {d : Nat} {this : Nat} {a1 : Nat} {a2 : Int32} {a3 : Int32} (h_this : o_Pr this) (h_a1 : o_Me a1) {x : jj_Mem} {q : Int32 × jj_Mem} (h : f_Pr_frameValue this a1 a2 a3 x = some q) : jj_J Y0 X (d + 0) m_Pr_frameValue 0 [some (.ref this), some (.ref a1), some (.int a2), some (.int a3)] [] x (jp_i q) := by
  unfold f_Pr_frameValue at h
  refine jj_aload_n d_Pr_frameValue_0 rfl ?_
  refine jj_getR d_Pr_frameValue_1 fk_Pr_9 (sh_Pr h_this).2 (sh_Pr h_this).1 rfl ?_
  refine jj_aload_n d_Pr_frameValue_4 rfl ?_
  refine jj_getR d_Pr_frameValue_5 fk_Pr_47 (sh_Me h_a1).2 (sh_Me h_a1).1 rfl ?_
  refine jj_iload_n d_Pr_frameValue_8 rfl ?_
  obtain ⟨i1, h⟩ := jj_gt h
  refine jj_iaload d_Pr_frameValue_9 rfl (ar_Me_framesAt h_a1).1 (ar_Me_framesAt h_a1).2 (jj_inn i1) rfl ?_
  refine jj_iconst d_Pr_frameValue_10 jc_i_2 ?_
  refine jj_iadd d_Pr_frameValue_11 ?_
  refine jj_aload_n d_Pr_frameValue_12 rfl ?_
  refine jj_getI d_Pr_frameValue_13 fk_Pr_50 (sh_Me h_a1).2 (sh_Me h_a1).1 rfl rfl ?_
  refine jj_iadd d_Pr_frameValue_16 ?_
  refine jj_iload_n d_Pr_frameValue_17 rfl ?_
  refine jj_iadd d_Pr_frameValue_18 ?_
  obtain ⟨i2, h⟩ := jj_gt h
  refine jj_iaload d_Pr_frameValue_19 rfl (ar_Pr_file h_this).1 (ar_Pr_file h_this).2 (jj_inn i2) rfl ?_
  cases h
  exact jj_ireturn d_Pr_frameValue_20 rfl ⟨rfl, rfl⟩
theorem c_Pr_frameValue {X : jj_X} {d : Nat} {this : Nat} {a1 : Nat} {a2 : Int32} {a3 : Int32} (h_this : o_Pr this) (h_a1 : o_Me a1) {x : jj_Mem} {q : Int32 × jj_Mem} (h : f_Pr_frameValue this a1 a2 a3 x = some q) : jj_Met Y0 X (d + 0) m_Pr_frameValue [.ref this, .ref a1, .int a2, .int a3] x (jp_i q) :=
  jj_metp 0 (lo := [some (.ref this), some (.ref a1), some (.int a2), some (.int a3)]) rfl (Nat.le_of_ble_eq_true rfl) rfl (t_Pr_frameValue_0 h_this h_a1 h)
def f_Pr_operand (this : Nat) (a1 : Nat) (a2 : Int32) (x : jj_Mem) : Option (Int32 × jj_Mem) :=
  if jj_inb (((x a1 5) + a2) + 1) 240 = true then some ((x (this + 1) (Int32.toNatClampNeg (((x a1 5) + a2) + 1))), x) else none
set_option maxHeartbeats 2000000 in
theorem t_Pr_operand_0 {X : jj_X} {d : Nat} {this : Nat} {a1 : Nat} {a2 : Int32} (h_this : o_Pr this) (h_a1 : o_Me a1) {x : jj_Mem} {q : Int32 × jj_Mem} (h : f_Pr_operand this a1 a2 x = some q) : jj_J Y0 X (d + 0) m_Pr_operand 0 [some (.ref this), some (.ref a1), some (.int a2)] [] x (jp_i q) := by
  unfold f_Pr_operand at h
  refine jj_aload_n d_Pr_operand_0 rfl ?_
  refine jj_getR d_Pr_operand_1 fk_Pr_9 (sh_Pr h_this).2 (sh_Pr h_this).1 rfl ?_
  refine jj_aload_n d_Pr_operand_4 rfl ?_
  refine jj_getI d_Pr_operand_5 fk_Pr_38 (sh_Me h_a1).2 (sh_Me h_a1).1 rfl rfl ?_
  refine jj_iload_n d_Pr_operand_8 rfl ?_
  refine jj_iadd d_Pr_operand_9 ?_
  refine jj_iconst d_Pr_operand_10 jc_i_1 ?_
  refine jj_iadd d_Pr_operand_11 ?_
  obtain ⟨i1, h⟩ := jj_gt h
  refine jj_iaload d_Pr_operand_12 rfl (ar_Pr_file h_this).1 (ar_Pr_file h_this).2 (jj_inn i1) rfl ?_
  cases h
  exact jj_ireturn d_Pr_operand_13 rfl ⟨rfl, rfl⟩
theorem c_Pr_operand {X : jj_X} {d : Nat} {this : Nat} {a1 : Nat} {a2 : Int32} (h_this : o_Pr this) (h_a1 : o_Me a1) {x : jj_Mem} {q : Int32 × jj_Mem} (h : f_Pr_operand this a1 a2 x = some q) : jj_Met Y0 X (d + 0) m_Pr_operand [.ref this, .ref a1, .int a2] x (jp_i q) :=
  jj_metp 0 (lo := [some (.ref this), some (.ref a1), some (.int a2)]) rfl (Nat.le_of_ble_eq_true rfl) rfl (t_Pr_operand_0 h_this h_a1 h)
def f_Pr_parameterType (this : Nat) (a1 : Nat) (a2 : Int32) (x : jj_Mem) : Option (Int32 × jj_Mem) :=
  if jj_inb ((x a1 1) + a2) 240 = true then some ((x (this + 1) (Int32.toNatClampNeg ((x a1 1) + a2))), x) else none
set_option maxHeartbeats 2000000 in
theorem t_Pr_parameterType_0 {X : jj_X} {d : Nat} {this : Nat} {a1 : Nat} {a2 : Int32} (h_this : o_Pr this) (h_a1 : o_Me a1) {x : jj_Mem} {q : Int32 × jj_Mem} (h : f_Pr_parameterType this a1 a2 x = some q) : jj_J Y0 X (d + 0) m_Pr_parameterType 0 [some (.ref this), some (.ref a1), some (.int a2)] [] x (jp_i q) := by
  unfold f_Pr_parameterType at h
  refine jj_aload_n d_Pr_parameterType_0 rfl ?_
  refine jj_getR d_Pr_parameterType_1 fk_Pr_9 (sh_Pr h_this).2 (sh_Pr h_this).1 rfl ?_
  refine jj_aload_n d_Pr_parameterType_4 rfl ?_
  refine jj_getI d_Pr_parameterType_5 fk_Pr_35 (sh_Me h_a1).2 (sh_Me h_a1).1 rfl rfl ?_
  refine jj_iload_n d_Pr_parameterType_8 rfl ?_
  refine jj_iadd d_Pr_parameterType_9 ?_
  obtain ⟨i1, h⟩ := jj_gt h
  refine jj_iaload d_Pr_parameterType_10 rfl (ar_Pr_file h_this).1 (ar_Pr_file h_this).2 (jj_inn i1) rfl ?_
  cases h
  exact jj_ireturn d_Pr_parameterType_11 rfl ⟨rfl, rfl⟩
theorem c_Pr_parameterType {X : jj_X} {d : Nat} {this : Nat} {a1 : Nat} {a2 : Int32} (h_this : o_Pr this) (h_a1 : o_Me a1) {x : jj_Mem} {q : Int32 × jj_Mem} (h : f_Pr_parameterType this a1 a2 x = some q) : jj_Met Y0 X (d + 0) m_Pr_parameterType [.ref this, .ref a1, .int a2] x (jp_i q) :=
  jj_metp 0 (lo := [some (.ref this), some (.ref a1), some (.int a2)]) rfl (Nat.le_of_ble_eq_true rfl) rfl (t_Pr_parameterType_0 h_this h_a1 h)
def f_Rd_beginsAt (this : Nat) (a1 : Nat) (a2 : Int32) (x : jj_Mem) : Option (Int32 × jj_Mem) :=
  (if a2 < 0 then some (0, x) else (if (x a1 6) ≤ a2 then some (0, x) else if jj_inb a2 60 = true then (if (x (this + 1) (Int32.toNatClampNeg a2)) = 0 then some (0, x) else some (1, x)) else none))
set_option maxHeartbeats 2000000 in
theorem t_Rd_beginsAt_0 {X : jj_X} {d : Nat} {this : Nat} {a1 : Nat} {a2 : Int32} (h_this : o_Rd this) (h_a1 : o_Me a1) {x : jj_Mem} {q : Int32 × jj_Mem} (h : f_Rd_beginsAt this a1 a2 x = some q) : jj_J Y0 X (d + 0) m_Rd_beginsAt 0 [some (.ref this), some (.ref a1), some (.int a2)] [] x (jp_i q) := by
  unfold f_Rd_beginsAt at h
  refine jj_iload_n d_Rd_beginsAt_0 rfl ?_
  refine jj_if_lt (tgt := 25) d_Rd_beginsAt_1 rfl (fun c1 => ?_) (fun c1 => ?_)
  · rw [if_pos c1] at h
    refine jj_iconst d_Rd_beginsAt_25 jc_i_0 ?_
    cases h
    exact jj_zreturn d_Rd_beginsAt_26 rfl (Or.inl rfl) ⟨rfl, rfl⟩
  · rw [if_neg c1] at h
    refine jj_iload_n d_Rd_beginsAt_4 rfl ?_
    refine jj_aload_n d_Rd_beginsAt_5 rfl ?_
    refine jj_getI d_Rd_beginsAt_6 fk_Rd_92 (sh_Me h_a1).2 (sh_Me h_a1).1 rfl rfl ?_
    refine jj_ic_ge (tgt := 25) d_Rd_beginsAt_9 rfl (fun c2 => ?_) (fun c2 => ?_)
    · rw [if_pos c2] at h
      refine jj_iconst d_Rd_beginsAt_25 jc_i_0 ?_
      cases h
      exact jj_zreturn d_Rd_beginsAt_26 rfl (Or.inl rfl) ⟨rfl, rfl⟩
    · rw [if_neg c2] at h
      refine jj_aload_n d_Rd_beginsAt_12 rfl ?_
      refine jj_getR d_Rd_beginsAt_13 fk_Rd_9 (sh_Rd h_this).2 (sh_Rd h_this).1 rfl ?_
      refine jj_iload_n d_Rd_beginsAt_16 rfl ?_
      obtain ⟨i3, h⟩ := jj_gt h
      refine jj_baload d_Rd_beginsAt_17 rfl (ar_Rd_begins h_this).1 (ar_Rd_begins h_this).2 (jj_inn i3) rfl ?_
      refine jj_if_eq (tgt := 25) d_Rd_beginsAt_18 rfl (fun c4 => ?_) (fun c4 => ?_)
      · rw [if_pos c4] at h
        refine jj_iconst d_Rd_beginsAt_25 jc_i_0 ?_
        cases h
        exact jj_zreturn d_Rd_beginsAt_26 rfl (Or.inl rfl) ⟨rfl, rfl⟩
      · rw [if_neg c4] at h
        refine jj_iconst d_Rd_beginsAt_21 jc_i_1 ?_
        refine jj_goto (tgt := 26) d_Rd_beginsAt_22 rfl ?_
        cases h
        exact jj_zreturn d_Rd_beginsAt_26 rfl (Or.inr rfl) ⟨rfl, rfl⟩
theorem c_Rd_beginsAt {X : jj_X} {d : Nat} {this : Nat} {a1 : Nat} {a2 : Int32} (h_this : o_Rd this) (h_a1 : o_Me a1) {x : jj_Mem} {q : Int32 × jj_Mem} (h : f_Rd_beginsAt this a1 a2 x = some q) : jj_Met Y0 X (d + 0) m_Rd_beginsAt [.ref this, .ref a1, .int a2] x (jp_i q) :=
  jj_metp 0 (lo := [some (.ref this), some (.ref a1), some (.int a2)]) rfl (Nat.le_of_ble_eq_true rfl) rfl (t_Rd_beginsAt_0 h_this h_a1 h)
def f_Rd_next (this : Nat) (a1 : Nat) (a2 : Int32) (a3 : Int32) (x : jj_Mem) : Option (Int32 × jj_Mem) :=
  (if (x a1 1) ≤ (x this 0) then some (0, x) else if jj_inb (x this 0) 240 = true then (if (x (a1 + 1) (Int32.toNatClampNeg (x this 0))) < a2 then some (0, x) else if jj_inb (x this 0) 240 = true then (if (x (a1 + 1) (Int32.toNatClampNeg (x this 0))) ≤ a3 then if jj_inb (x this 0) 240 = true then some (1, (jj_set (jj_set x this 1 (x (a1 + 1) (Int32.toNatClampNeg (x this 0)))) this 0 (((jj_set x this 1 (x (a1 + 1) (Int32.toNatClampNeg (x this 0)))) this 0) + 1))) else none else some (0, x)) else none) else none)
set_option maxHeartbeats 2000000 in
theorem t_Rd_next_0 {X : jj_X} {d : Nat} {this : Nat} {a1 : Nat} {a2 : Int32} {a3 : Int32} (h_this : o_Rd this) (h_a1 : o_Pr a1) {x : jj_Mem} {q : Int32 × jj_Mem} (h : f_Rd_next this a1 a2 a3 x = some q) : jj_J Y0 X (d + 0) m_Rd_next 0 [some (.ref this), some (.ref a1), some (.int a2), some (.int a3)] [] x (jp_i q) := by
  unfold f_Rd_next at h
  refine jj_aload_n d_Rd_next_0 rfl ?_
  refine jj_getI d_Rd_next_1 fk_Rd_15 (sh_Rd h_this).2 (sh_Rd h_this).1 rfl rfl ?_
  refine jj_aload_n d_Rd_next_4 rfl ?_
  refine jj_getI d_Rd_next_5 fk_Rd_43 (sh_Pr h_a1).2 (sh_Pr h_a1).1 rfl rfl ?_
  refine jj_ic_ge (tgt := 37) d_Rd_next_8 rfl (fun c1 => ?_) (fun c1 => ?_)
  · rw [if_pos c1] at h
    refine jj_iconst d_Rd_next_37 jc_i_0 ?_
    cases h
    exact jj_zreturn d_Rd_next_38 rfl (Or.inl rfl) ⟨rfl, rfl⟩
  · rw [if_neg c1] at h
    refine jj_aload_n d_Rd_next_11 rfl ?_
    refine jj_getR d_Rd_next_12 fk_Rd_46 (sh_Pr h_a1).2 (sh_Pr h_a1).1 rfl ?_
    refine jj_aload_n d_Rd_next_15 rfl ?_
    refine jj_getI d_Rd_next_16 fk_Rd_15 (sh_Rd h_this).2 (sh_Rd h_this).1 rfl rfl ?_
    obtain ⟨i2, h⟩ := jj_gt h
    refine jj_iaload d_Rd_next_19 rfl (ar_Pr_file h_a1).1 (ar_Pr_file h_a1).2 (jj_inn i2) rfl ?_
    refine jj_iload_n d_Rd_next_20 rfl ?_
    refine jj_ic_lt (tgt := 37) d_Rd_next_21 rfl (fun c3 => ?_) (fun c3 => ?_)
    · rw [if_pos c3] at h
      refine jj_iconst d_Rd_next_37 jc_i_0 ?_
      cases h
      exact jj_zreturn d_Rd_next_38 rfl (Or.inl rfl) ⟨rfl, rfl⟩
    · rw [if_neg c3] at h
      refine jj_aload_n d_Rd_next_24 rfl ?_
      refine jj_getR d_Rd_next_25 fk_Rd_46 (sh_Pr h_a1).2 (sh_Pr h_a1).1 rfl ?_
      refine jj_aload_n d_Rd_next_28 rfl ?_
      refine jj_getI d_Rd_next_29 fk_Rd_15 (sh_Rd h_this).2 (sh_Rd h_this).1 rfl rfl ?_
      obtain ⟨i4, h⟩ := jj_gt h
      refine jj_iaload d_Rd_next_32 rfl (ar_Pr_file h_a1).1 (ar_Pr_file h_a1).2 (jj_inn i4) rfl ?_
      refine jj_iload_n d_Rd_next_33 rfl ?_
      refine jj_ic_le (tgt := 39) d_Rd_next_34 rfl (fun c5 => ?_) (fun c5 => ?_)
      · rw [if_pos c5] at h
        refine jj_aload_n d_Rd_next_39 rfl ?_
        refine jj_aload_n d_Rd_next_40 rfl ?_
        refine jj_getR d_Rd_next_41 fk_Rd_46 (sh_Pr h_a1).2 (sh_Pr h_a1).1 rfl ?_
        refine jj_aload_n d_Rd_next_44 rfl ?_
        refine jj_getI d_Rd_next_45 fk_Rd_15 (sh_Rd h_this).2 (sh_Rd h_this).1 rfl rfl ?_
        obtain ⟨i6, h⟩ := jj_gt h
        refine jj_iaload d_Rd_next_48 rfl (ar_Pr_file h_a1).1 (ar_Pr_file h_a1).2 (jj_inn i6) rfl ?_
        refine jj_putI d_Rd_next_49 pk_Rd_27 (sh_Rd h_this).2 (sh_Rd h_this).1 rfl ?_
        refine jj_aload_n d_Rd_next_52 rfl ?_
        refine jj_dup d_Rd_next_53 rfl ?_
        refine jj_getI d_Rd_next_54 fk_Rd_15 (sh_Rd h_this).2 (sh_Rd h_this).1 rfl rfl ?_
        refine jj_iconst d_Rd_next_57 jc_i_1 ?_
        refine jj_iadd d_Rd_next_58 ?_
        refine jj_putI d_Rd_next_59 pk_Rd_15 (sh_Rd h_this).2 (sh_Rd h_this).1 rfl ?_
        refine jj_iconst d_Rd_next_62 jc_i_1 ?_
        cases h
        exact jj_zreturn d_Rd_next_63 rfl (Or.inr rfl) ⟨rfl, rfl⟩
      · rw [if_neg c5] at h
        refine jj_iconst d_Rd_next_37 jc_i_0 ?_
        cases h
        exact jj_zreturn d_Rd_next_38 rfl (Or.inl rfl) ⟨rfl, rfl⟩
theorem c_Rd_next {X : jj_X} {d : Nat} {this : Nat} {a1 : Nat} {a2 : Int32} {a3 : Int32} (h_this : o_Rd this) (h_a1 : o_Pr a1) {x : jj_Mem} {q : Int32 × jj_Mem} (h : f_Rd_next this a1 a2 a3 x = some q) : jj_Met Y0 X (d + 0) m_Rd_next [.ref this, .ref a1, .int a2, .int a3] x (jp_i q) :=
  jj_metp 0 (lo := [some (.ref this), some (.ref a1), some (.int a2), some (.int a3)]) rfl (Nat.le_of_ble_eq_true rfl) rfl (t_Rd_next_0 h_this h_a1 h)
def f_St_kindBelow (this : Nat) (a1 : Int32) (x : jj_Mem) : Option (Int32 × jj_Mem) :=
  if jj_inb (((x this 4) - 1) - a1) 6 = true then some ((x (this + 3) (Int32.toNatClampNeg (((x this 4) - 1) - a1))), x) else none
set_option maxHeartbeats 2000000 in
theorem t_St_kindBelow_0 {X : jj_X} {d : Nat} {this : Nat} {a1 : Int32} (h_this : o_St this) {x : jj_Mem} {q : Int32 × jj_Mem} (h : f_St_kindBelow this a1 x = some q) : jj_J Y0 X (d + 0) m_St_kindBelow 0 [some (.ref this), some (.int a1)] [] x (jp_i q) := by
  unfold f_St_kindBelow at h
  refine jj_aload_n d_St_kindBelow_0 rfl ?_
  refine jj_getR d_St_kindBelow_1 fk_St_18 (sh_St h_this).2 (sh_St h_this).1 rfl ?_
  refine jj_aload_n d_St_kindBelow_4 rfl ?_
  refine jj_getI d_St_kindBelow_5 fk_St_28 (sh_St h_this).2 (sh_St h_this).1 rfl rfl ?_
  refine jj_iconst d_St_kindBelow_8 jc_i_1 ?_
  refine jj_isub d_St_kindBelow_9 ?_
  refine jj_iload_n d_St_kindBelow_10 rfl ?_
  refine jj_isub d_St_kindBelow_11 ?_
  obtain ⟨i1, h⟩ := jj_gt h
  refine jj_iaload d_St_kindBelow_12 rfl (ar_St_kinds h_this).1 (ar_St_kinds h_this).2 (jj_inn i1) rfl ?_
  cases h
  exact jj_ireturn d_St_kindBelow_13 rfl ⟨rfl, rfl⟩
theorem c_St_kindBelow {X : jj_X} {d : Nat} {this : Nat} {a1 : Int32} (h_this : o_St this) {x : jj_Mem} {q : Int32 × jj_Mem} (h : f_St_kindBelow this a1 x = some q) : jj_Met Y0 X (d + 0) m_St_kindBelow [.ref this, .int a1] x (jp_i q) :=
  jj_metp 0 (lo := [some (.ref this), some (.int a1)]) rfl (Nat.le_of_ble_eq_true rfl) rfl (t_St_kindBelow_0 h_this h)
def f_St_kindTaken (this : Nat) (x : jj_Mem) : Option (Int32 × jj_Mem) :=
  if jj_inb (x this 4) 6 = true then some ((x (this + 3) (Int32.toNatClampNeg (x this 4))), x) else none
set_option maxHeartbeats 2000000 in
theorem t_St_kindTaken_0 {X : jj_X} {d : Nat} {this : Nat} (h_this : o_St this) {x : jj_Mem} {q : Int32 × jj_Mem} (h : f_St_kindTaken this x = some q) : jj_J Y0 X (d + 0) m_St_kindTaken 0 [some (.ref this)] [] x (jp_i q) := by
  unfold f_St_kindTaken at h
  refine jj_aload_n d_St_kindTaken_0 rfl ?_
  refine jj_getR d_St_kindTaken_1 fk_St_18 (sh_St h_this).2 (sh_St h_this).1 rfl ?_
  refine jj_aload_n d_St_kindTaken_4 rfl ?_
  refine jj_getI d_St_kindTaken_5 fk_St_28 (sh_St h_this).2 (sh_St h_this).1 rfl rfl ?_
  obtain ⟨i1, h⟩ := jj_gt h
  refine jj_iaload d_St_kindTaken_8 rfl (ar_St_kinds h_this).1 (ar_St_kinds h_this).2 (jj_inn i1) rfl ?_
  cases h
  exact jj_ireturn d_St_kindTaken_9 rfl ⟨rfl, rfl⟩
theorem c_St_kindTaken {X : jj_X} {d : Nat} {this : Nat} (h_this : o_St this) {x : jj_Mem} {q : Int32 × jj_Mem} (h : f_St_kindTaken this x = some q) : jj_Met Y0 X (d + 0) m_St_kindTaken [.ref this] x (jp_i q) :=
  jj_metp 0 (lo := [some (.ref this)]) rfl (Nat.le_of_ble_eq_true rfl) rfl (t_St_kindTaken_0 h_this h)
def f_St_put (this : Nat) (a1 : Int32) (a2 : Int32) (x : jj_Mem) : Option (jj_Mem) :=
  if jj_inb (x this 4) 6 = true then if jj_inb ((jj_set x (this + 3) (Int32.toNatClampNeg (x this 4)) a1) this 4) 6 = true then some (jj_set (jj_set (jj_set x (this + 3) (Int32.toNatClampNeg (x this 4)) a1) (this + 4) (Int32.toNatClampNeg ((jj_set x (this + 3) (Int32.toNatClampNeg (x this 4)) a1) this 4)) a2) this 4 (((jj_set (jj_set x (this + 3) (Int32.toNatClampNeg (x this 4)) a1) (this + 4) (Int32.toNatClampNeg ((jj_set x (this + 3) (Int32.toNatClampNeg (x this 4)) a1) this 4)) a2) this 4) + 1)) else none else none
set_option maxHeartbeats 2000000 in
theorem t_St_put_0 {X : jj_X} {d : Nat} {this : Nat} {a1 : Int32} {a2 : Int32} (h_this : o_St this) {x : jj_Mem} {q : jj_Mem} (h : f_St_put this a1 a2 x = some q) : jj_J Y0 X (d + 0) m_St_put 0 [some (.ref this), some (.int a1), some (.int a2)] [] x (jp_v q) := by
  unfold f_St_put at h
  refine jj_aload_n d_St_put_0 rfl ?_
  refine jj_getR d_St_put_1 fk_St_18 (sh_St h_this).2 (sh_St h_this).1 rfl ?_
  refine jj_aload_n d_St_put_4 rfl ?_
  refine jj_getI d_St_put_5 fk_St_28 (sh_St h_this).2 (sh_St h_this).1 rfl rfl ?_
  refine jj_iload_n d_St_put_8 rfl ?_
  obtain ⟨i1, h⟩ := jj_gt h
  refine jj_iastore d_St_put_9 rfl (ar_St_kinds h_this).1 (ar_St_kinds h_this).2 (jj_inn i1) ?_
  refine jj_aload_n d_St_put_10 rfl ?_
  refine jj_getR d_St_put_11 fk_St_21 (sh_St h_this).2 (sh_St h_this).1 rfl ?_
  refine jj_aload_n d_St_put_14 rfl ?_
  refine jj_getI d_St_put_15 fk_St_28 (sh_St h_this).2 (sh_St h_this).1 rfl rfl ?_
  refine jj_iload_n d_St_put_18 rfl ?_
  obtain ⟨i2, h⟩ := jj_gt h
  refine jj_iastore d_St_put_19 rfl (ar_St_values h_this).1 (ar_St_values h_this).2 (jj_inn i2) ?_
  refine jj_aload_n d_St_put_20 rfl ?_
  refine jj_dup d_St_put_21 rfl ?_
  refine jj_getI d_St_put_22 fk_St_28 (sh_St h_this).2 (sh_St h_this).1 rfl rfl ?_
  refine jj_iconst d_St_put_25 jc_i_1 ?_
  refine jj_iadd d_St_put_26 ?_
  refine jj_putI d_St_put_27 pk_St_28 (sh_St h_this).2 (sh_St h_this).1 rfl ?_
  cases h
  exact jj_return d_St_put_30 rfl ⟨rfl, rfl⟩
theorem c_St_put {X : jj_X} {d : Nat} {this : Nat} {a1 : Int32} {a2 : Int32} (h_this : o_St this) {x : jj_Mem} {q : jj_Mem} (h : f_St_put this a1 a2 x = some q) : jj_Met Y0 X (d + 0) m_St_put [.ref this, .int a1, .int a2] x (jp_v q) :=
  jj_metp 0 (lo := [some (.ref this), some (.int a1), some (.int a2)]) rfl (Nat.le_of_ble_eq_true rfl) rfl (t_St_put_0 h_this h)
def f_St_setPlace (this : Nat) (a1 : Int32) (a2 : Int32) (a3 : Int32) (x : jj_Mem) : Option (jj_Mem) :=
  if jj_inb a1 6 = true then if jj_inb a1 6 = true then some (jj_set (jj_set x (this + 1) (Int32.toNatClampNeg a1) a2) (this + 2) (Int32.toNatClampNeg a1) a3) else none else none
set_option maxHeartbeats 2000000 in
theorem t_St_setPlace_0 {X : jj_X} {d : Nat} {this : Nat} {a1 : Int32} {a2 : Int32} {a3 : Int32} (h_this : o_St this) {x : jj_Mem} {q : jj_Mem} (h : f_St_setPlace this a1 a2 a3 x = some q) : jj_J Y0 X (d + 0) m_St_setPlace 0 [some (.ref this), some (.int a1), some (.int a2), some (.int a3)] [] x (jp_v q) := by
  unfold f_St_setPlace at h
  refine jj_aload_n d_St_setPlace_0 rfl ?_
  refine jj_getR d_St_setPlace_1 fk_St_9 (sh_St h_this).2 (sh_St h_this).1 rfl ?_
  refine jj_iload_n d_St_setPlace_4 rfl ?_
  refine jj_iload_n d_St_setPlace_5 rfl ?_
  obtain ⟨i1, h⟩ := jj_gt h
  refine jj_iastore d_St_setPlace_6 rfl (ar_St_placeKinds h_this).1 (ar_St_placeKinds h_this).2 (jj_inn i1) ?_
  refine jj_aload_n d_St_setPlace_7 rfl ?_
  refine jj_getR d_St_setPlace_8 fk_St_15 (sh_St h_this).2 (sh_St h_this).1 rfl ?_
  refine jj_iload_n d_St_setPlace_11 rfl ?_
  refine jj_iload_n d_St_setPlace_12 rfl ?_
  obtain ⟨i2, h⟩ := jj_gt h
  refine jj_iastore d_St_setPlace_13 rfl (ar_St_placeValues h_this).1 (ar_St_placeValues h_this).2 (jj_inn i2) ?_
  cases h
  exact jj_return d_St_setPlace_14 rfl ⟨rfl, rfl⟩
theorem c_St_setPlace {X : jj_X} {d : Nat} {this : Nat} {a1 : Int32} {a2 : Int32} {a3 : Int32} (h_this : o_St this) {x : jj_Mem} {q : jj_Mem} (h : f_St_setPlace this a1 a2 a3 x = some q) : jj_Met Y0 X (d + 0) m_St_setPlace [.ref this, .int a1, .int a2, .int a3] x (jp_v q) :=
  jj_metp 0 (lo := [some (.ref this), some (.int a1), some (.int a2), some (.int a3)]) rfl (Nat.le_of_ble_eq_true rfl) rfl (t_St_setPlace_0 h_this h)
def f_St_take (this : Nat) (x : jj_Mem) : Option (Int32 × jj_Mem) :=
  if jj_inb ((jj_set x this 4 ((x this 4) - 1)) this 4) 6 = true then some (((jj_set x this 4 ((x this 4) - 1)) (this + 4) (Int32.toNatClampNeg ((jj_set x this 4 ((x this 4) - 1)) this 4))), (jj_set x this 4 ((x this 4) - 1))) else none
set_option maxHeartbeats 2000000 in
theorem t_St_take_0 {X : jj_X} {d : Nat} {this : Nat} (h_this : o_St this) {x : jj_Mem} {q : Int32 × jj_Mem} (h : f_St_take this x = some q) : jj_J Y0 X (d + 0) m_St_take 0 [some (.ref this)] [] x (jp_i q) := by
  unfold f_St_take at h
  refine jj_aload_n d_St_take_0 rfl ?_
  refine jj_dup d_St_take_1 rfl ?_
  refine jj_getI d_St_take_2 fk_St_28 (sh_St h_this).2 (sh_St h_this).1 rfl rfl ?_
  refine jj_iconst d_St_take_5 jc_i_1 ?_
  refine jj_isub d_St_take_6 ?_
  refine jj_putI d_St_take_7 pk_St_28 (sh_St h_this).2 (sh_St h_this).1 rfl ?_
  refine jj_aload_n d_St_take_10 rfl ?_
  refine jj_getR d_St_take_11 fk_St_21 (sh_St h_this).2 (sh_St h_this).1 rfl ?_
  refine jj_aload_n d_St_take_14 rfl ?_
  refine jj_getI d_St_take_15 fk_St_28 (sh_St h_this).2 (sh_St h_this).1 rfl rfl ?_
  obtain ⟨i1, h⟩ := jj_gt h
  refine jj_iaload d_St_take_18 rfl (ar_St_values h_this).1 (ar_St_values h_this).2 (jj_inn i1) rfl ?_
  cases h
  exact jj_ireturn d_St_take_19 rfl ⟨rfl, rfl⟩
theorem c_St_take {X : jj_X} {d : Nat} {this : Nat} (h_this : o_St this) {x : jj_Mem} {q : Int32 × jj_Mem} (h : f_St_take this x = some q) : jj_Met Y0 X (d + 0) m_St_take [.ref this] x (jp_i q) :=
  jj_metp 0 (lo := [some (.ref this)]) rfl (Nat.le_of_ble_eq_true rfl) rfl (t_St_take_0 h_this h)
def f_St_valueBelow (this : Nat) (a1 : Int32) (x : jj_Mem) : Option (Int32 × jj_Mem) :=
  if jj_inb (((x this 4) - 1) - a1) 6 = true then some ((x (this + 4) (Int32.toNatClampNeg (((x this 4) - 1) - a1))), x) else none
set_option maxHeartbeats 2000000 in
theorem t_St_valueBelow_0 {X : jj_X} {d : Nat} {this : Nat} {a1 : Int32} (h_this : o_St this) {x : jj_Mem} {q : Int32 × jj_Mem} (h : f_St_valueBelow this a1 x = some q) : jj_J Y0 X (d + 0) m_St_valueBelow 0 [some (.ref this), some (.int a1)] [] x (jp_i q) := by
  unfold f_St_valueBelow at h
  refine jj_aload_n d_St_valueBelow_0 rfl ?_
  refine jj_getR d_St_valueBelow_1 fk_St_21 (sh_St h_this).2 (sh_St h_this).1 rfl ?_
  refine jj_aload_n d_St_valueBelow_4 rfl ?_
  refine jj_getI d_St_valueBelow_5 fk_St_28 (sh_St h_this).2 (sh_St h_this).1 rfl rfl ?_
  refine jj_iconst d_St_valueBelow_8 jc_i_1 ?_
  refine jj_isub d_St_valueBelow_9 ?_
  refine jj_iload_n d_St_valueBelow_10 rfl ?_
  refine jj_isub d_St_valueBelow_11 ?_
  obtain ⟨i1, h⟩ := jj_gt h
  refine jj_iaload d_St_valueBelow_12 rfl (ar_St_values h_this).1 (ar_St_values h_this).2 (jj_inn i1) rfl ?_
  cases h
  exact jj_ireturn d_St_valueBelow_13 rfl ⟨rfl, rfl⟩
theorem c_St_valueBelow {X : jj_X} {d : Nat} {this : Nat} {a1 : Int32} (h_this : o_St this) {x : jj_Mem} {q : Int32 × jj_Mem} (h : f_St_valueBelow this a1 x = some q) : jj_Met Y0 X (d + 0) m_St_valueBelow [.ref this, .int a1] x (jp_i q) :=
  jj_metp 0 (lo := [some (.ref this), some (.int a1)]) rfl (Nat.le_of_ble_eq_true rfl) rfl (t_St_valueBelow_0 h_this h)
def k_VC_byteAt_12  (x : jj_Mem) : Option (Int32 × jj_Mem) :=
  none
set_option maxHeartbeats 2000000 in
theorem t_VC_byteAt_12 {X : jj_X} {d : Nat}   {x : jj_Mem} {q : Int32 × jj_Mem} (h : k_VC_byteAt_12  x = some q) : jj_J Y0 X (d + 0) m_VC_byteAt 12 [none, none] [] x (jp_i q) := by
  unfold k_VC_byteAt_12 at h
  cases h
def f_VC_byteAt (this : Nat) (a1 : Int32) (x : jj_Mem) : Option (Int32 × jj_Mem) :=
  (if a1 < 0 then k_VC_byteAt_12  x else (if a1 < (x this 1) then if jj_inb a1 240 = true then some ((x (this + 1) (Int32.toNatClampNeg a1)), x) else none else k_VC_byteAt_12  x))
set_option maxHeartbeats 2000000 in
theorem t_VC_byteAt_0 {X : jj_X} {d : Nat} {this : Nat} {a1 : Int32} (h_this : o_VC this) {x : jj_Mem} {q : Int32 × jj_Mem} (h : f_VC_byteAt this a1 x = some q) : jj_J Y0 X (d + 0) m_VC_byteAt 0 [some (.ref this), some (.int a1)] [] x (jp_i q) := by
  unfold f_VC_byteAt at h
  refine jj_iload_n d_VC_byteAt_0 rfl ?_
  refine jj_if_lt (tgt := 12) d_VC_byteAt_1 rfl (fun c1 => ?_) (fun c1 => ?_)
  · rw [if_pos c1] at h
    exact jj_J.sub (t_VC_byteAt_12  h) (fun i v hi => jj_mask_ok [false, false] hi)
  · rw [if_neg c1] at h
    refine jj_iload_n d_VC_byteAt_4 rfl ?_
    refine jj_aload_n d_VC_byteAt_5 rfl ?_
    refine jj_getI d_VC_byteAt_6 fk_VC_51 (sh_VC h_this).2 (sh_VC h_this).1 rfl rfl ?_
    refine jj_ic_lt (tgt := 22) d_VC_byteAt_9 rfl (fun c2 => ?_) (fun c2 => ?_)
    · rw [if_pos c2] at h
      refine jj_aload_n d_VC_byteAt_22 rfl ?_
      refine jj_getR d_VC_byteAt_23 fk_VC_9 (sh_VC h_this).2 (sh_VC h_this).1 rfl ?_
      refine jj_iload_n d_VC_byteAt_26 rfl ?_
      obtain ⟨i3, h⟩ := jj_gt h
      refine jj_iaload d_VC_byteAt_27 rfl (ar_VC_typed h_this).1 (ar_VC_typed h_this).2 (jj_inn i3) rfl ?_
      cases h
      exact jj_ireturn d_VC_byteAt_28 rfl ⟨rfl, rfl⟩
    · rw [if_neg c2] at h
      exact jj_J.sub (t_VC_byteAt_12  h) (fun i v hi => jj_mask_ok [false, false] hi)
theorem c_VC_byteAt {X : jj_X} {d : Nat} {this : Nat} {a1 : Int32} (h_this : o_VC this) {x : jj_Mem} {q : Int32 × jj_Mem} (h : f_VC_byteAt this a1 x = some q) : jj_Met Y0 X (d + 0) m_VC_byteAt [.ref this, .int a1] x (jp_i q) :=
  jj_metp 0 (lo := [some (.ref this), some (.int a1)]) rfl (Nat.le_of_ble_eq_true rfl) rfl (t_VC_byteAt_0 h_this h)
def f_VC_clear (this : Nat) (x : jj_Mem) : Option (jj_Mem) :=
  some (jj_set x this 1 0)
set_option maxHeartbeats 2000000 in
theorem t_VC_clear_0 {X : jj_X} {d : Nat} {this : Nat} (h_this : o_VC this) {x : jj_Mem} {q : jj_Mem} (h : f_VC_clear this x = some q) : jj_J Y0 X (d + 0) m_VC_clear 0 [some (.ref this)] [] x (jp_v q) := by
  unfold f_VC_clear at h
  refine jj_aload_n d_VC_clear_0 rfl ?_
  refine jj_iconst d_VC_clear_1 jc_i_0 ?_
  refine jj_putI d_VC_clear_2 pk_VC_51 (sh_VC h_this).2 (sh_VC h_this).1 rfl ?_
  cases h
  exact jj_return d_VC_clear_5 rfl ⟨rfl, rfl⟩
theorem c_VC_clear {X : jj_X} {d : Nat} {this : Nat} (h_this : o_VC this) {x : jj_Mem} {q : jj_Mem} (h : f_VC_clear this x = some q) : jj_Met Y0 X (d + 0) m_VC_clear [.ref this] x (jp_v q) :=
  jj_metp 0 (lo := [some (.ref this)]) rfl (Nat.le_of_ble_eq_true rfl) rfl (t_VC_clear_0 h_this h)
def k_VC_isGoodFor_19  (x : jj_Mem) : Option (Int32 × jj_Mem) :=
  some (1, x)
set_option maxHeartbeats 2000000 in
theorem t_VC_isGoodFor_19 {X : jj_X} {d : Nat}   {x : jj_Mem} {q : Int32 × jj_Mem} (h : k_VC_isGoodFor_19  x = some q) : jj_J Y0 X (d + 0) m_VC_isGoodFor 19 [none, none] [] x (jp_i q) := by
  unfold k_VC_isGoodFor_19 at h
  refine jj_iconst d_VC_isGoodFor_19 jc_i_1 ?_
  refine jj_goto (tgt := 24) d_VC_isGoodFor_20 rfl ?_
  cases h
  exact jj_zreturn d_VC_isGoodFor_24 rfl (Or.inr rfl) ⟨rfl, rfl⟩
def f_VC_isGoodFor (a1 : Int32) (a2 : Int32) (x : jj_Mem) : Option (Int32 × jj_Mem) :=
  (if a2 = 0 then k_VC_isGoodFor_19  x else (if a1 = a2 then k_VC_isGoodFor_19  x else (if a1 = 3 then (if a2 = 2 then k_VC_isGoodFor_19  x else some (0, x)) else some (0, x))))
set_option maxHeartbeats 2000000 in
theorem t_VC_isGoodFor_0 {X : jj_X} {d : Nat} {a1 : Int32} {a2 : Int32}  {x : jj_Mem} {q : Int32 × jj_Mem} (h : f_VC_isGoodFor a1 a2 x = some q) : jj_J Y0 X (d + 0) m_VC_isGoodFor 0 [some (.int a1), some (.int a2)] [] x (jp_i q) := by
  unfold f_VC_isGoodFor at h
  refine jj_iload_n d_VC_isGoodFor_0 rfl ?_
  refine jj_if_eq (tgt := 19) d_VC_isGoodFor_1 rfl (fun c1 => ?_) (fun c1 => ?_)
  · rw [if_pos c1] at h
    exact jj_J.sub (t_VC_isGoodFor_19  h) (fun i v hi => jj_mask_ok [false, false] hi)
  · rw [if_neg c1] at h
    refine jj_iload_n d_VC_isGoodFor_4 rfl ?_
    refine jj_iload_n d_VC_isGoodFor_5 rfl ?_
    refine jj_ic_eq (tgt := 19) d_VC_isGoodFor_6 rfl (fun c2 => ?_) (fun c2 => ?_)
    · rw [if_pos c2] at h
      exact jj_J.sub (t_VC_isGoodFor_19  h) (fun i v hi => jj_mask_ok [false, false] hi)
    · rw [if_neg c2] at h
      refine jj_iload_n d_VC_isGoodFor_9 rfl ?_
      refine jj_iconst d_VC_isGoodFor_10 jc_i_3 ?_
      refine jj_ic_ne (tgt := 23) d_VC_isGoodFor_11 rfl (fun c3 => ?_) (fun c3 => ?_)
      · rw [if_neg c3] at h
        refine jj_iconst d_VC_isGoodFor_23 jc_i_0 ?_
        cases h
        exact jj_zreturn d_VC_isGoodFor_24 rfl (Or.inl rfl) ⟨rfl, rfl⟩
      · rw [if_pos c3] at h
        refine jj_iload_n d_VC_isGoodFor_14 rfl ?_
        refine jj_iconst d_VC_isGoodFor_15 jc_i_2 ?_
        refine jj_ic_ne (tgt := 23) d_VC_isGoodFor_16 rfl (fun c4 => ?_) (fun c4 => ?_)
        · rw [if_neg c4] at h
          refine jj_iconst d_VC_isGoodFor_23 jc_i_0 ?_
          cases h
          exact jj_zreturn d_VC_isGoodFor_24 rfl (Or.inl rfl) ⟨rfl, rfl⟩
        · rw [if_pos c4] at h
          exact jj_J.sub (t_VC_isGoodFor_19  h) (fun i v hi => jj_mask_ok [false, false] hi)
theorem c_VC_isGoodFor {X : jj_X} {d : Nat} {a1 : Int32} {a2 : Int32}  {x : jj_Mem} {q : Int32 × jj_Mem} (h : f_VC_isGoodFor a1 a2 x = some q) : jj_Met Y0 X (d + 0) m_VC_isGoodFor [.int a1, .int a2] x (jp_i q) :=
  jj_metp 0 (lo := [some (.int a1), some (.int a2)]) rfl (Nat.le_of_ble_eq_true rfl) rfl (t_VC_isGoodFor_0  h)
def f_VC_methods (this : Nat) (x : jj_Mem) : Option (Int32 × jj_Mem) :=
  if bo_Pr (Int32.toNatClampNeg (x this 2)) = true then some ((x (Int32.toNatClampNeg (x this 2)) 4), x) else none
set_option maxHeartbeats 2000000 in
theorem t_VC_methods_0 {X : jj_X} {d : Nat} {this : Nat} (h_this : o_VC this) {x : jj_Mem} {q : Int32 × jj_Mem} (h : f_VC_methods this x = some q) : jj_J Y0 X (d + 0) m_VC_methods 0 [some (.ref this)] [] x (jp_i q) := by
  unfold f_VC_methods at h
  refine jj_aload_n d_VC_methods_0 rfl ?_
  obtain ⟨i1, h⟩ := jj_gt h
  refine jj_getD d_VC_methods_1 fk_VC_16 (sh_VC h_this).2 (sh_VC h_this).1 rfl rfl ?_
  refine jj_getI d_VC_methods_4 fk_VC_78 (sh_Pr (ob_Pr i1)).2 (sh_Pr (ob_Pr i1)).1 rfl rfl ?_
  cases h
  exact jj_ireturn d_VC_methods_7 rfl ⟨rfl, rfl⟩
theorem c_VC_methods {X : jj_X} {d : Nat} {this : Nat} (h_this : o_VC this) {x : jj_Mem} {q : Int32 × jj_Mem} (h : f_VC_methods this x = some q) : jj_Met Y0 X (d + 0) m_VC_methods [.ref this] x (jp_i q) :=
  jj_metp 0 (lo := [some (.ref this)]) rfl (Nat.le_of_ble_eq_true rfl) rfl (t_VC_methods_0 h_this h)
def k_VC_poke_33  (x : jj_Mem) : Option (jj_Mem) :=
  none
set_option maxHeartbeats 2000000 in
theorem t_VC_poke_33 {X : jj_X} {d : Nat}   {x : jj_Mem} {q : jj_Mem} (h : k_VC_poke_33  x = some q) : jj_J Y0 X (d + 0) m_VC_poke 33 [none, none, none] [] x (jp_v q) := by
  unfold k_VC_poke_33 at h
  cases h
def k_VC_poke_12  (x : jj_Mem) : Option (jj_Mem) :=
  none
set_option maxHeartbeats 2000000 in
theorem t_VC_poke_12 {X : jj_X} {d : Nat}   {x : jj_Mem} {q : jj_Mem} (h : k_VC_poke_12  x = some q) : jj_J Y0 X (d + 0) m_VC_poke 12 [none, none, none] [] x (jp_v q) := by
  unfold k_VC_poke_12 at h
  cases h
def f_VC_poke (this : Nat) (a1 : Int32) (a2 : Int32) (x : jj_Mem) : Option (jj_Mem) :=
  (if a1 < 0 then k_VC_poke_12  x else (if a1 < (x this 1) then (if a2 < 0 then k_VC_poke_33  x else (if a2 ≤ 255 then if jj_inb a1 240 = true then some (jj_set x (this + 1) (Int32.toNatClampNeg a1) a2) else none else k_VC_poke_33  x)) else k_VC_poke_12  x))
set_option maxHeartbeats 2000000 in
theorem t_VC_poke_0 {X : jj_X} {d : Nat} {this : Nat} {a1 : Int32} {a2 : Int32} (h_this : o_VC this) {x : jj_Mem} {q : jj_Mem} (h : f_VC_poke this a1 a2 x = some q) : jj_J Y0 X (d + 0) m_VC_poke 0 [some (.ref this), some (.int a1), some (.int a2)] [] x (jp_v q) := by
  unfold f_VC_poke at h
  refine jj_iload_n d_VC_poke_0 rfl ?_
  refine jj_if_lt (tgt := 12) d_VC_poke_1 rfl (fun c1 => ?_) (fun c1 => ?_)
  · rw [if_pos c1] at h
    exact jj_J.sub (t_VC_poke_12  h) (fun i v hi => jj_mask_ok [false, false, false] hi)
  · rw [if_neg c1] at h
    refine jj_iload_n d_VC_poke_4 rfl ?_
    refine jj_aload_n d_VC_poke_5 rfl ?_
    refine jj_getI d_VC_poke_6 fk_VC_51 (sh_VC h_this).2 (sh_VC h_this).1 rfl rfl ?_
    refine jj_ic_lt (tgt := 22) d_VC_poke_9 rfl (fun c2 => ?_) (fun c2 => ?_)
    · rw [if_pos c2] at h
      refine jj_iload_n d_VC_poke_22 rfl ?_
      refine jj_if_lt (tgt := 33) d_VC_poke_23 rfl (fun c3 => ?_) (fun c3 => ?_)
      · rw [if_pos c3] at h
        exact jj_J.sub (t_VC_poke_33  h) (fun i v hi => jj_mask_ok [false, false, false] hi)
      · rw [if_neg c3] at h
        refine jj_iload_n d_VC_poke_26 rfl ?_
        refine jj_sipush d_VC_poke_27 jc_s_255 ?_
        refine jj_ic_le (tgt := 43) d_VC_poke_30 rfl (fun c4 => ?_) (fun c4 => ?_)
        · rw [if_pos c4] at h
          refine jj_aload_n d_VC_poke_43 rfl ?_
          refine jj_getR d_VC_poke_44 fk_VC_9 (sh_VC h_this).2 (sh_VC h_this).1 rfl ?_
          refine jj_iload_n d_VC_poke_47 rfl ?_
          refine jj_iload_n d_VC_poke_48 rfl ?_
          obtain ⟨i5, h⟩ := jj_gt h
          refine jj_iastore d_VC_poke_49 rfl (ar_VC_typed h_this).1 (ar_VC_typed h_this).2 (jj_inn i5) ?_
          cases h
          exact jj_return d_VC_poke_50 rfl ⟨rfl, rfl⟩
        · rw [if_neg c4] at h
          exact jj_J.sub (t_VC_poke_33  h) (fun i v hi => jj_mask_ok [false, false, false] hi)
    · rw [if_neg c2] at h
      exact jj_J.sub (t_VC_poke_12  h) (fun i v hi => jj_mask_ok [false, false, false] hi)
theorem c_VC_poke {X : jj_X} {d : Nat} {this : Nat} {a1 : Int32} {a2 : Int32} (h_this : o_VC this) {x : jj_Mem} {q : jj_Mem} (h : f_VC_poke this a1 a2 x = some q) : jj_Met Y0 X (d + 0) m_VC_poke [.ref this, .int a1, .int a2] x (jp_v q) :=
  jj_metp 0 (lo := [some (.ref this), some (.int a1), some (.int a2)]) rfl (Nat.le_of_ble_eq_true rfl) rfl (t_VC_poke_0 h_this h)
def f_VC_result (this : Nat) (x : jj_Mem) : Option (Int32 × jj_Mem) :=
  some ((x (this + 32) 0), x)
set_option maxHeartbeats 2000000 in
theorem t_VC_result_0 {X : jj_X} {d : Nat} {this : Nat} (h_this : o_VC this) {x : jj_Mem} {q : Int32 × jj_Mem} (h : f_VC_result this x = some q) : jj_J Y0 X (d + 0) m_VC_result 0 [some (.ref this)] [] x (jp_i q) := by
  unfold f_VC_result at h
  refine jj_aload_n d_VC_result_0 rfl ?_
  refine jj_getR d_VC_result_1 fk_VC_40 (sh_VC h_this).2 (sh_VC h_this).1 rfl ?_
  refine jj_getI d_VC_result_4 fk_VC_113 (sh_Ma (ro_VC_machine h_this)).2 (sh_Ma (ro_VC_machine h_this)).1 rfl rfl ?_
  cases h
  exact jj_ireturn d_VC_result_7 rfl ⟨rfl, rfl⟩
theorem c_VC_result {X : jj_X} {d : Nat} {this : Nat} (h_this : o_VC this) {x : jj_Mem} {q : Int32 × jj_Mem} (h : f_VC_result this x = some q) : jj_Met Y0 X (d + 0) m_VC_result [.ref this] x (jp_i q) :=
  jj_metp 0 (lo := [some (.ref this)]) rfl (Nat.le_of_ble_eq_true rfl) rfl (t_VC_result_0 h_this h)
def f_VC_size (this : Nat) (x : jj_Mem) : Option (Int32 × jj_Mem) :=
  some ((x this 1), x)
set_option maxHeartbeats 2000000 in
theorem t_VC_size_0 {X : jj_X} {d : Nat} {this : Nat} (h_this : o_VC this) {x : jj_Mem} {q : Int32 × jj_Mem} (h : f_VC_size this x = some q) : jj_J Y0 X (d + 0) m_VC_size 0 [some (.ref this)] [] x (jp_i q) := by
  unfold f_VC_size at h
  refine jj_aload_n d_VC_size_0 rfl ?_
  refine jj_getI d_VC_size_1 fk_VC_51 (sh_VC h_this).2 (sh_VC h_this).1 rfl rfl ?_
  cases h
  exact jj_ireturn d_VC_size_4 rfl ⟨rfl, rfl⟩
theorem c_VC_size {X : jj_X} {d : Nat} {this : Nat} (h_this : o_VC this) {x : jj_Mem} {q : Int32 × jj_Mem} (h : f_VC_size this x = some q) : jj_Met Y0 X (d + 0) m_VC_size [.ref this] x (jp_i q) :=
  jj_metp 0 (lo := [some (.ref this)]) rfl (Nat.le_of_ble_eq_true rfl) rfl (t_VC_size_0 h_this h)
def f_VC_steps (this : Nat) (x : jj_Mem) : Option (Int32 × jj_Mem) :=
  some ((x (this + 32) 1), x)
set_option maxHeartbeats 2000000 in
theorem t_VC_steps_0 {X : jj_X} {d : Nat} {this : Nat} (h_this : o_VC this) {x : jj_Mem} {q : Int32 × jj_Mem} (h : f_VC_steps this x = some q) : jj_J Y0 X (d + 0) m_VC_steps 0 [some (.ref this)] [] x (jp_i q) := by
  unfold f_VC_steps at h
  refine jj_aload_n d_VC_steps_0 rfl ?_
  refine jj_getR d_VC_steps_1 fk_VC_40 (sh_VC h_this).2 (sh_VC h_this).1 rfl ?_
  refine jj_getI d_VC_steps_4 fk_VC_116 (sh_Ma (ro_VC_machine h_this)).2 (sh_Ma (ro_VC_machine h_this)).1 rfl rfl ?_
  cases h
  exact jj_ireturn d_VC_steps_7 rfl ⟨rfl, rfl⟩
theorem c_VC_steps {X : jj_X} {d : Nat} {this : Nat} (h_this : o_VC this) {x : jj_Mem} {q : Int32 × jj_Mem} (h : f_VC_steps this x = some q) : jj_Met Y0 X (d + 0) m_VC_steps [.ref this] x (jp_i q) :=
  jj_metp 0 (lo := [some (.ref this)]) rfl (Nat.le_of_ble_eq_true rfl) rfl (t_VC_steps_0 h_this h)
def k_VC_type_11 (rec : Nat → List (Option Value) → jj_Mem → Option (Int32 × jj_Mem))  (x : jj_Mem) : Option (Int32 × jj_Mem) :=
  none
set_option maxHeartbeats 2000000 in
theorem t_VC_type_11 {X : jj_X} {d : Nat} (rec : Nat → List (Option Value) → jj_Mem → Option (Int32 × jj_Mem)) (hrec : ∀ (L : Nat) (lo : List (Option Value)) (x : jj_Mem) (q : Int32 × jj_Mem), rec L lo x = some q → jj_J Y0 X (d + 0) m_VC_type L lo [] x (jp_i q))   {x : jj_Mem} {q : Int32 × jj_Mem} (h : k_VC_type_11 rec  x = some q) : jj_J Y0 X (d + 0) m_VC_type 11 [none, none, none, none, none] [] x (jp_i q) := by
  unfold k_VC_type_11 at h
  cases h
def k_VC_type_48 (rec : Nat → List (Option Value) → jj_Mem → Option (Int32 × jj_Mem)) (l0 : Nat) (l1 : Int64) (l4 : Int32) (x : jj_Mem) : Option (Int32 × jj_Mem) :=
  (if l4 < 0 then some ((x l0 1), x) else if jj_inb (x l0 1) 240 = true then rec 48 [some (.ref l0), some (.long l1), none, none, some (.int (l4 + (-1)))] (jj_set (jj_set x (l0 + 1) (Int32.toNatClampNeg (x l0 1)) ((Int64.toInt32 (l1 >>> (Int32.toInt64 (8 * l4) &&& 63))) &&& 255)) l0 1 (((jj_set x (l0 + 1) (Int32.toNatClampNeg (x l0 1)) ((Int64.toInt32 (l1 >>> (Int32.toInt64 (8 * l4) &&& 63))) &&& 255)) l0 1) + 1)) else none)
set_option maxHeartbeats 2000000 in
theorem t_VC_type_48 {X : jj_X} {d : Nat} (rec : Nat → List (Option Value) → jj_Mem → Option (Int32 × jj_Mem)) (hrec : ∀ (L : Nat) (lo : List (Option Value)) (x : jj_Mem) (q : Int32 × jj_Mem), rec L lo x = some q → jj_J Y0 X (d + 0) m_VC_type L lo [] x (jp_i q)) {l0 : Nat} {l1 : Int64} {l4 : Int32} (h_l0 : o_VC l0) {x : jj_Mem} {q : Int32 × jj_Mem} (h : k_VC_type_48 rec l0 l1 l4 x = some q) : jj_J Y0 X (d + 0) m_VC_type 48 [some (.ref l0), some (.long l1), none, none, some (.int l4)] [] x (jp_i q) := by
  unfold k_VC_type_48 at h
  refine jj_iload d_VC_type_48 rfl ?_
  refine jj_if_lt (tgt := 90) d_VC_type_50 rfl (fun c1 => ?_) (fun c1 => ?_)
  · rw [if_pos c1] at h
    refine jj_aload_n d_VC_type_90 rfl ?_
    refine jj_getI d_VC_type_91 fk_VC_51 (sh_VC h_l0).2 (sh_VC h_l0).1 rfl rfl ?_
    cases h
    exact jj_ireturn d_VC_type_94 rfl ⟨rfl, rfl⟩
  · rw [if_neg c1] at h
    refine jj_aload_n d_VC_type_53 rfl ?_
    refine jj_getR d_VC_type_54 fk_VC_9 (sh_VC h_l0).2 (sh_VC h_l0).1 rfl ?_
    refine jj_aload_n d_VC_type_57 rfl ?_
    refine jj_getI d_VC_type_58 fk_VC_51 (sh_VC h_l0).2 (sh_VC h_l0).1 rfl rfl ?_
    refine jj_lload_n d_VC_type_61 rfl ?_
    refine jj_bipush d_VC_type_62 jc_b_8 ?_
    refine jj_iload d_VC_type_64 rfl ?_
    refine jj_imul d_VC_type_66 ?_
    refine jj_lshr d_VC_type_67 ?_
    refine jj_l2i d_VC_type_68 ?_
    refine jj_sipush d_VC_type_69 jc_s_255 ?_
    refine jj_iand d_VC_type_72 ?_
    obtain ⟨i2, h⟩ := jj_gt h
    refine jj_iastore d_VC_type_73 rfl (ar_VC_typed h_l0).1 (ar_VC_typed h_l0).2 (jj_inn i2) ?_
    refine jj_aload_n d_VC_type_74 rfl ?_
    refine jj_dup d_VC_type_75 rfl ?_
    refine jj_getI d_VC_type_76 fk_VC_51 (sh_VC h_l0).2 (sh_VC h_l0).1 rfl rfl ?_
    refine jj_iconst d_VC_type_79 jc_i_1 ?_
    refine jj_iadd d_VC_type_80 ?_
    refine jj_putI d_VC_type_81 pk_VC_51 (sh_VC h_l0).2 (sh_VC h_l0).1 rfl ?_
    refine jj_iinc (lo' := [_, _, _, _, _]) (v := (l4 + (-1))) d_VC_type_84 rfl (jc_a_m1 _) rfl (by decide) rfl ?_
    refine jj_goto (tgt := 48) d_VC_type_87 rfl ?_
    exact jj_J.sub (hrec _ _ _ _ h) (fun i v hi => jj_mask_ok [true, true, false, false, true] hi)
def g_VC_type : Nat → Nat → List (Option Value) → jj_Mem → Option (Int32 × jj_Mem)
  | 0, _, _, _ => none
  | f + 1, L, lo, x => match L, lo with
    | 48, [some (.ref l0), some (.long l1), none, none, some (.int l4)] => if (bo_VC l0) = true then k_VC_type_48 (g_VC_type f) l0 l1 l4 x else none
    | _, _ => none
set_option maxHeartbeats 2000000 in
theorem t_VC_type_g {X : jj_X} {d : Nat} : ∀ (f L : Nat) (lo : List (Option Value)) (x : jj_Mem) (q : Int32 × jj_Mem), g_VC_type f L lo x = some q → jj_J Y0 X (d + 0) m_VC_type L lo [] x (jp_i q) := by
  intro f
  induction f with
  | zero => intro L lo x q h; simp [g_VC_type] at h
  | succ f ih =>
    intro L lo x q h
    unfold g_VC_type at h
    split at h
    · obtain ⟨i1, h⟩ := jj_gt h
      exact t_VC_type_48 _ ih (ob_VC i1) h
    · cases h
def k_VC_type_0 (rec : Nat → List (Option Value) → jj_Mem → Option (Int32 × jj_Mem)) (this : Nat) (a1 : Int64) (a2 : Int32) (x : jj_Mem) : Option (Int32 × jj_Mem) :=
  (if a2 < 1 then k_VC_type_11 rec  x else (if a2 ≤ 8 then (if ((x this 1) + a2) ≤ 240 then rec 48 [some (.ref this), some (.long a1), none, none, some (.int (a2 - 1))] x else none) else k_VC_type_11 rec  x))
set_option maxHeartbeats 2000000 in
theorem t_VC_type_0 {X : jj_X} {d : Nat} (rec : Nat → List (Option Value) → jj_Mem → Option (Int32 × jj_Mem)) (hrec : ∀ (L : Nat) (lo : List (Option Value)) (x : jj_Mem) (q : Int32 × jj_Mem), rec L lo x = some q → jj_J Y0 X (d + 0) m_VC_type L lo [] x (jp_i q)) {this : Nat} {a1 : Int64} {a2 : Int32} (h_this : o_VC this) {x : jj_Mem} {q : Int32 × jj_Mem} (h : k_VC_type_0 rec this a1 a2 x = some q) : jj_J Y0 X (d + 0) m_VC_type 0 [some (.ref this), some (.long a1), none, some (.int a2), none] [] x (jp_i q) := by
  unfold k_VC_type_0 at h
  refine jj_iload_n d_VC_type_0 rfl ?_
  refine jj_iconst d_VC_type_1 jc_i_1 ?_
  refine jj_ic_lt (tgt := 11) d_VC_type_2 rfl (fun c1 => ?_) (fun c1 => ?_)
  · rw [if_pos c1] at h
    exact jj_J.sub (t_VC_type_11 rec hrec  h) (fun i v hi => jj_mask_ok [false, false, false, false, false] hi)
  · rw [if_neg c1] at h
    refine jj_iload_n d_VC_type_5 rfl ?_
    refine jj_bipush d_VC_type_6 jc_b_8 ?_
    refine jj_ic_le (tgt := 21) d_VC_type_8 rfl (fun c2 => ?_) (fun c2 => ?_)
    · rw [if_pos c2] at h
      refine jj_aload_n d_VC_type_21 rfl ?_
      refine jj_getI d_VC_type_22 fk_VC_51 (sh_VC h_this).2 (sh_VC h_this).1 rfl rfl ?_
      refine jj_iload_n d_VC_type_25 rfl ?_
      refine jj_iadd d_VC_type_26 ?_
      refine jj_sipush d_VC_type_27 jc_s_240 ?_
      refine jj_ic_le (tgt := 43) d_VC_type_30 rfl (fun c3 => ?_) (fun c3 => ?_)
      · rw [if_pos c3] at h
        refine jj_iload_n d_VC_type_43 rfl ?_
        refine jj_iconst d_VC_type_44 jc_i_1 ?_
        refine jj_isub d_VC_type_45 ?_
        refine jj_istore (lo' := [_, _, _, _, _]) d_VC_type_46 rfl (by decide) rfl ?_
        exact jj_J.sub (hrec _ _ _ _ h) (fun i v hi => jj_mask_ok [true, true, false, false, true] hi)
      · rw [if_neg c3] at h
        cases h
    · rw [if_neg c2] at h
      exact jj_J.sub (t_VC_type_11 rec hrec  h) (fun i v hi => jj_mask_ok [false, false, false, false, false] hi)
def f_VC_type (this : Nat) (a1 : Int64) (a2 : Int32) (x : jj_Mem) : Option (Int32 × jj_Mem) := k_VC_type_0 (g_VC_type 1000) this a1 a2 x
theorem c_VC_type {X : jj_X} {d : Nat} {this : Nat} {a1 : Int64} {a2 : Int32} (h_this : o_VC this) {x : jj_Mem} {q : Int32 × jj_Mem} (h : f_VC_type this a1 a2 x = some q) : jj_Met Y0 X (d + 0) m_VC_type [.ref this, .long a1, .int a2] x (jp_i q) :=
  jj_metp 1 (lo := [some (.ref this), some (.long a1), none, some (.int a2), none]) rfl (Nat.le_of_ble_eq_true rfl) rfl (t_VC_type_0 _ (t_VC_type_g 1000) h_this h)
def k_Ck_isGoodForFrame_65 (rec : Nat → List (Option Value) → jj_Mem → Option (Int32 × jj_Mem)) (l0 : Nat) (l1 : Nat) (l2 : Nat) (l3 : Int32) (l4 : Int32) (x : jj_Mem) : Option (Int32 × jj_Mem) :=
  (if (x (l0 + 1) 4) ≤ l4 then some (1, x) else if jj_inb l4 6 = true then jj_b2 (f_Pr_frameValue l1 l2 l3 l4 x) (fun r3 x3 => jj_b2 (f_VC_isGoodFor (x ((l0 + 1) + 3) (Int32.toNatClampNeg l4)) r3 x3) (fun r4 x4 => (if r4 = 0 then some (0, x4) else rec 65 [some (.ref l0), some (.ref l1), some (.ref l2), some (.int l3), some (.int (l4 + 1))] x4))) else none)
set_option maxHeartbeats 2000000 in
theorem t_Ck_isGoodForFrame_65 {X : jj_X} {d : Nat} (rec : Nat → List (Option Value) → jj_Mem → Option (Int32 × jj_Mem)) (hrec : ∀ (L : Nat) (lo : List (Option Value)) (x : jj_Mem) (q : Int32 × jj_Mem), rec L lo x = some q → jj_J Y0 X (d + 1) m_Ck_isGoodForFrame L lo [] x (jp_i q)) {l0 : Nat} {l1 : Nat} {l2 : Nat} {l3 : Int32} {l4 : Int32} (h_l0 : o_Ck l0) (h_l1 : o_Pr l1) (h_l2 : o_Me l2) {x : jj_Mem} {q : Int32 × jj_Mem} (h : k_Ck_isGoodForFrame_65 rec l0 l1 l2 l3 l4 x = some q) : jj_J Y0 X (d + 1) m_Ck_isGoodForFrame 65 [some (.ref l0), some (.ref l1), some (.ref l2), some (.int l3), some (.int l4)] [] x (jp_i q) := by
  unfold k_Ck_isGoodForFrame_65 at h
  refine jj_iload d_Ck_isGoodForFrame_65 rfl ?_
  refine jj_aload_n d_Ck_isGoodForFrame_67 rfl ?_
  refine jj_getR d_Ck_isGoodForFrame_68 fk_Ck_12 (sh_Ck h_l0).2 (sh_Ck h_l0).1 rfl ?_
  refine jj_getI d_Ck_isGoodForFrame_71 fk_Ck_90 (sh_St (ro_Ck_state h_l0)).2 (sh_St (ro_Ck_state h_l0)).1 rfl rfl ?_
  refine jj_ic_ge (tgt := 109) d_Ck_isGoodForFrame_74 rfl (fun c1 => ?_) (fun c1 => ?_)
  · rw [if_pos c1] at h
    refine jj_iconst d_Ck_isGoodForFrame_109 jc_i_1 ?_
    cases h
    exact jj_zreturn d_Ck_isGoodForFrame_110 rfl (Or.inr rfl) ⟨rfl, rfl⟩
  · rw [if_neg c1] at h
    refine jj_aload_n d_Ck_isGoodForFrame_77 rfl ?_
    refine jj_getR d_Ck_isGoodForFrame_78 fk_Ck_12 (sh_Ck h_l0).2 (sh_Ck h_l0).1 rfl ?_
    refine jj_getR d_Ck_isGoodForFrame_81 fk_Ck_111 (sh_St (ro_Ck_state h_l0)).2 (sh_St (ro_Ck_state h_l0)).1 rfl ?_
    refine jj_iload d_Ck_isGoodForFrame_84 rfl ?_
    obtain ⟨i2, h⟩ := jj_gt h
    refine jj_iaload d_Ck_isGoodForFrame_86 rfl (ar_St_kinds (ro_Ck_state h_l0)).1 (ar_St_kinds (ro_Ck_state h_l0)).2 (jj_inn i2) rfl ?_
    refine jj_aload_n d_Ck_isGoodForFrame_87 rfl ?_
    refine jj_aload_n d_Ck_isGoodForFrame_88 rfl ?_
    refine jj_iload_n d_Ck_isGoodForFrame_89 rfl ?_
    refine jj_iload d_Ck_isGoodForFrame_90 rfl ?_
    obtain ⟨r3, x3, e3, h⟩ := jj_b2o h
    refine jj_callVi (as := [.ref l2, .int l3, .int l4]) (c_Pr_frameValue (d := d + 0) h_l1 h_l2 e3) d_Ck_isGoodForFrame_92 ck_Ck_96 (sh_Pr h_l1).2 (sh_Pr h_l1).1 ⟨_, rfl, rfl⟩ rfl rfl (Nat.le_of_ble_eq_true rfl) ?_
    obtain ⟨r4, x4, e4, h⟩ := jj_b2o h
    refine jj_callSNi (as := [.int (x ((l0 + 1) + 3) (Int32.toNatClampNeg l4)), .int r3]) (c_VC_isGoodFor (d := d + 0)  e4) d_Ck_isGoodForFrame_95 ck_Ck_107 rfl rfl (Nat.le_of_ble_eq_true rfl) ?_
    refine jj_if_ne (tgt := 103) d_Ck_isGoodForFrame_98 rfl (fun c5 => ?_) (fun c5 => ?_)
    · rw [if_neg c5] at h
      refine jj_iinc (lo' := [_, _, _, _, _]) (v := (l4 + 1)) d_Ck_isGoodForFrame_103 rfl (jc_a_1 _) rfl (by decide) rfl ?_
      refine jj_goto (tgt := 65) d_Ck_isGoodForFrame_106 rfl ?_
      exact jj_J.sub (hrec _ _ _ _ h) (fun i v hi => jj_mask_ok [true, true, true, true, true] hi)
    · rw [if_pos c5] at h
      refine jj_iconst d_Ck_isGoodForFrame_101 jc_i_0 ?_
      cases h
      exact jj_zreturn d_Ck_isGoodForFrame_102 rfl (Or.inl rfl) ⟨rfl, rfl⟩
def k_Ck_isGoodForFrame_21 (rec : Nat → List (Option Value) → jj_Mem → Option (Int32 × jj_Mem)) (l0 : Nat) (l1 : Nat) (l2 : Nat) (l3 : Int32) (l4 : Int32) (x : jj_Mem) : Option (Int32 × jj_Mem) :=
  (if (x l2 4) ≤ l4 then rec 65 [some (.ref l0), some (.ref l1), some (.ref l2), some (.int l3), some (.int 0)] x else if jj_inb l4 6 = true then jj_b2 (f_Pr_framePlace l1 l2 l3 l4 x) (fun r3 x3 => jj_b2 (f_VC_isGoodFor (x ((l0 + 1) + 1) (Int32.toNatClampNeg l4)) r3 x3) (fun r4 x4 => (if r4 = 0 then some (0, x4) else rec 21 [some (.ref l0), some (.ref l1), some (.ref l2), some (.int l3), some (.int (l4 + 1))] x4))) else none)
set_option maxHeartbeats 2000000 in
theorem t_Ck_isGoodForFrame_21 {X : jj_X} {d : Nat} (rec : Nat → List (Option Value) → jj_Mem → Option (Int32 × jj_Mem)) (hrec : ∀ (L : Nat) (lo : List (Option Value)) (x : jj_Mem) (q : Int32 × jj_Mem), rec L lo x = some q → jj_J Y0 X (d + 1) m_Ck_isGoodForFrame L lo [] x (jp_i q)) {l0 : Nat} {l1 : Nat} {l2 : Nat} {l3 : Int32} {l4 : Int32} (h_l0 : o_Ck l0) (h_l1 : o_Pr l1) (h_l2 : o_Me l2) {x : jj_Mem} {q : Int32 × jj_Mem} (h : k_Ck_isGoodForFrame_21 rec l0 l1 l2 l3 l4 x = some q) : jj_J Y0 X (d + 1) m_Ck_isGoodForFrame 21 [some (.ref l0), some (.ref l1), some (.ref l2), some (.int l3), some (.int l4)] [] x (jp_i q) := by
  unfold k_Ck_isGoodForFrame_21 at h
  refine jj_iload d_Ck_isGoodForFrame_21 rfl ?_
  refine jj_aload_n d_Ck_isGoodForFrame_23 rfl ?_
  refine jj_getI d_Ck_isGoodForFrame_24 fk_Ck_83 (sh_Me h_l2).2 (sh_Me h_l2).1 rfl rfl ?_
  refine jj_ic_ge (tgt := 62) d_Ck_isGoodForFrame_27 rfl (fun c1 => ?_) (fun c1 => ?_)
  · rw [if_pos c1] at h
    refine jj_iconst d_Ck_isGoodForFrame_62 jc_i_0 ?_
    refine jj_istore (lo' := [_, _, _, _, _]) d_Ck_isGoodForFrame_63 rfl (by decide) rfl ?_
    exact jj_J.sub (hrec _ _ _ _ h) (fun i v hi => jj_mask_ok [true, true, true, true, true] hi)
  · rw [if_neg c1] at h
    refine jj_aload_n d_Ck_isGoodForFrame_30 rfl ?_
    refine jj_getR d_Ck_isGoodForFrame_31 fk_Ck_12 (sh_Ck h_l0).2 (sh_Ck h_l0).1 rfl ?_
    refine jj_getR d_Ck_isGoodForFrame_34 fk_Ck_103 (sh_St (ro_Ck_state h_l0)).2 (sh_St (ro_Ck_state h_l0)).1 rfl ?_
    refine jj_iload d_Ck_isGoodForFrame_37 rfl ?_
    obtain ⟨i2, h⟩ := jj_gt h
    refine jj_iaload d_Ck_isGoodForFrame_39 rfl (ar_St_placeKinds (ro_Ck_state h_l0)).1 (ar_St_placeKinds (ro_Ck_state h_l0)).2 (jj_inn i2) rfl ?_
    refine jj_aload_n d_Ck_isGoodForFrame_40 rfl ?_
    refine jj_aload_n d_Ck_isGoodForFrame_41 rfl ?_
    refine jj_iload_n d_Ck_isGoodForFrame_42 rfl ?_
    refine jj_iload d_Ck_isGoodForFrame_43 rfl ?_
    obtain ⟨r3, x3, e3, h⟩ := jj_b2o h
    refine jj_callVi (as := [.ref l2, .int l3, .int l4]) (c_Pr_framePlace (d := d + 0) h_l1 h_l2 e3) d_Ck_isGoodForFrame_45 ck_Ck_86 (sh_Pr h_l1).2 (sh_Pr h_l1).1 ⟨_, rfl, rfl⟩ rfl rfl (Nat.le_of_ble_eq_true rfl) ?_
    obtain ⟨r4, x4, e4, h⟩ := jj_b2o h
    refine jj_callSNi (as := [.int (x ((l0 + 1) + 1) (Int32.toNatClampNeg l4)), .int r3]) (c_VC_isGoodFor (d := d + 0)  e4) d_Ck_isGoodForFrame_48 ck_Ck_107 rfl rfl (Nat.le_of_ble_eq_true rfl) ?_
    refine jj_if_ne (tgt := 56) d_Ck_isGoodForFrame_51 rfl (fun c5 => ?_) (fun c5 => ?_)
    · rw [if_neg c5] at h
      refine jj_iinc (lo' := [_, _, _, _, _]) (v := (l4 + 1)) d_Ck_isGoodForFrame_56 rfl (jc_a_1 _) rfl (by decide) rfl ?_
      refine jj_goto (tgt := 21) d_Ck_isGoodForFrame_59 rfl ?_
      exact jj_J.sub (hrec _ _ _ _ h) (fun i v hi => jj_mask_ok [true, true, true, true, true] hi)
    · rw [if_pos c5] at h
      refine jj_iconst d_Ck_isGoodForFrame_54 jc_i_0 ?_
      cases h
      exact jj_zreturn d_Ck_isGoodForFrame_55 rfl (Or.inl rfl) ⟨rfl, rfl⟩
def g_Ck_isGoodForFrame : Nat → Nat → List (Option Value) → jj_Mem → Option (Int32 × jj_Mem)
  | 0, _, _, _ => none
  | f + 1, L, lo, x => match L, lo with
    | 21, [some (.ref l0), some (.ref l1), some (.ref l2), some (.int l3), some (.int l4)] => if (bo_Ck l0 && bo_Pr l1 && bo_Me l2) = true then k_Ck_isGoodForFrame_21 (g_Ck_isGoodForFrame f) l0 l1 l2 l3 l4 x else none
    | 65, [some (.ref l0), some (.ref l1), some (.ref l2), some (.int l3), some (.int l4)] => if (bo_Ck l0 && bo_Pr l1 && bo_Me l2) = true then k_Ck_isGoodForFrame_65 (g_Ck_isGoodForFrame f) l0 l1 l2 l3 l4 x else none
    | _, _ => none
set_option maxHeartbeats 2000000 in
theorem t_Ck_isGoodForFrame_g {X : jj_X} {d : Nat} : ∀ (f L : Nat) (lo : List (Option Value)) (x : jj_Mem) (q : Int32 × jj_Mem), g_Ck_isGoodForFrame f L lo x = some q → jj_J Y0 X (d + 1) m_Ck_isGoodForFrame L lo [] x (jp_i q) := by
  intro f
  induction f with
  | zero => intro L lo x q h; simp [g_Ck_isGoodForFrame] at h
  | succ f ih =>
    intro L lo x q h
    unfold g_Ck_isGoodForFrame at h
    split at h
    · obtain ⟨i1, h⟩ := jj_gt h
      exact t_Ck_isGoodForFrame_21 _ ih (ob_Ck (jj_andl (jj_andl i1))) (ob_Pr (jj_andr (jj_andl i1))) (ob_Me (jj_andr i1)) h
    · obtain ⟨i1, h⟩ := jj_gt h
      exact t_Ck_isGoodForFrame_65 _ ih (ob_Ck (jj_andl (jj_andl i1))) (ob_Pr (jj_andr (jj_andl i1))) (ob_Me (jj_andr i1)) h
    · cases h
def k_Ck_isGoodForFrame_0 (rec : Nat → List (Option Value) → jj_Mem → Option (Int32 × jj_Mem)) (this : Nat) (a1 : Nat) (a2 : Nat) (a3 : Int32) (x : jj_Mem) : Option (Int32 × jj_Mem) :=
  jj_b2 (f_Pr_frameHeight a1 a2 a3 x) (fun r1 x1 => (if (x (this + 1) 4) = r1 then rec 21 [some (.ref this), some (.ref a1), some (.ref a2), some (.int a3), some (.int 0)] x1 else some (0, x1)))
set_option maxHeartbeats 2000000 in
theorem t_Ck_isGoodForFrame_0 {X : jj_X} {d : Nat} (rec : Nat → List (Option Value) → jj_Mem → Option (Int32 × jj_Mem)) (hrec : ∀ (L : Nat) (lo : List (Option Value)) (x : jj_Mem) (q : Int32 × jj_Mem), rec L lo x = some q → jj_J Y0 X (d + 1) m_Ck_isGoodForFrame L lo [] x (jp_i q)) {this : Nat} {a1 : Nat} {a2 : Nat} {a3 : Int32} (h_this : o_Ck this) (h_a1 : o_Pr a1) (h_a2 : o_Me a2) {x : jj_Mem} {q : Int32 × jj_Mem} (h : k_Ck_isGoodForFrame_0 rec this a1 a2 a3 x = some q) : jj_J Y0 X (d + 1) m_Ck_isGoodForFrame 0 [some (.ref this), some (.ref a1), some (.ref a2), some (.int a3), none] [] x (jp_i q) := by
  unfold k_Ck_isGoodForFrame_0 at h
  refine jj_aload_n d_Ck_isGoodForFrame_0 rfl ?_
  refine jj_getR d_Ck_isGoodForFrame_1 fk_Ck_12 (sh_Ck h_this).2 (sh_Ck h_this).1 rfl ?_
  refine jj_getI d_Ck_isGoodForFrame_4 fk_Ck_90 (sh_St (ro_Ck_state h_this)).2 (sh_St (ro_Ck_state h_this)).1 rfl rfl ?_
  refine jj_aload_n d_Ck_isGoodForFrame_7 rfl ?_
  refine jj_aload_n d_Ck_isGoodForFrame_8 rfl ?_
  refine jj_iload_n d_Ck_isGoodForFrame_9 rfl ?_
  obtain ⟨r1, x1, e1, h⟩ := jj_b2o h
  refine jj_callVi (as := [.ref a2, .int a3]) (c_Pr_frameHeight (d := d + 0) h_a1 h_a2 e1) d_Ck_isGoodForFrame_10 ck_Ck_93 (sh_Pr h_a1).2 (sh_Pr h_a1).1 ⟨_, rfl, rfl⟩ rfl rfl (Nat.le_of_ble_eq_true rfl) ?_
  refine jj_ic_eq (tgt := 18) d_Ck_isGoodForFrame_13 rfl (fun c2 => ?_) (fun c2 => ?_)
  · rw [if_pos c2] at h
    refine jj_iconst d_Ck_isGoodForFrame_18 jc_i_0 ?_
    refine jj_istore (lo' := [_, _, _, _, _]) d_Ck_isGoodForFrame_19 rfl (by decide) rfl ?_
    exact jj_J.sub (hrec _ _ _ _ h) (fun i v hi => jj_mask_ok [true, true, true, true, true] hi)
  · rw [if_neg c2] at h
    refine jj_iconst d_Ck_isGoodForFrame_16 jc_i_0 ?_
    cases h
    exact jj_zreturn d_Ck_isGoodForFrame_17 rfl (Or.inl rfl) ⟨rfl, rfl⟩
def f_Ck_isGoodForFrame (this : Nat) (a1 : Nat) (a2 : Nat) (a3 : Int32) (x : jj_Mem) : Option (Int32 × jj_Mem) := k_Ck_isGoodForFrame_0 (g_Ck_isGoodForFrame 1000) this a1 a2 a3 x
theorem c_Ck_isGoodForFrame {X : jj_X} {d : Nat} {this : Nat} {a1 : Nat} {a2 : Nat} {a3 : Int32} (h_this : o_Ck this) (h_a1 : o_Pr a1) (h_a2 : o_Me a2) {x : jj_Mem} {q : Int32 × jj_Mem} (h : f_Ck_isGoodForFrame this a1 a2 a3 x = some q) : jj_Met Y0 X (d + 1) m_Ck_isGoodForFrame [.ref this, .ref a1, .ref a2, .int a3] x (jp_i q) :=
  jj_metp 1 (lo := [some (.ref this), some (.ref a1), some (.ref a2), some (.int a3), none]) rfl (Nat.le_of_ble_eq_true rfl) rfl (t_Ck_isGoodForFrame_0 _ (t_Ck_isGoodForFrame_g 1000) h_this h_a1 h_a2 h)
def f_Ck_typePut (this : Nat) (a1 : Nat) (a2 : Nat) (a3 : Int32) (x : jj_Mem) : Option (Int32 × jj_Mem) :=
  jj_b2 (f_Pr_code a1 a2 a3 x) (fun r1 x1 => (if r1 = 1 then some (3, x1) else if r1 = 184 then jj_b2 (f_Pr_called a1 a2 a3 x1) (fun r4 x4 => if bo_Me r4 = true then some ((x4 r4 2), x4) else none) else if r1 = 188 then some (2, x1) else some (1, x1)))
set_option maxHeartbeats 2000000 in
theorem t_Ck_typePut_0 {X : jj_X} {d : Nat} {this : Nat} {a1 : Nat} {a2 : Nat} {a3 : Int32} (h_this : o_Ck this) (h_a1 : o_Pr a1) (h_a2 : o_Me a2) {x : jj_Mem} {q : Int32 × jj_Mem} (h : f_Ck_typePut this a1 a2 a3 x = some q) : jj_J Y0 X (d + 1) m_Ck_typePut 0 [some (.ref this), some (.ref a1), some (.ref a2), some (.int a3)] [] x (jp_i q) := by
  unfold f_Ck_typePut at h
  refine jj_aload_n d_Ck_typePut_0 rfl ?_
  refine jj_aload_n d_Ck_typePut_1 rfl ?_
  refine jj_iload_n d_Ck_typePut_2 rfl ?_
  obtain ⟨r1, x1, e1, h⟩ := jj_b2o h
  refine jj_callVi (as := [.ref a2, .int a3]) (c_Pr_code (d := d + 0) h_a1 h_a2 e1) d_Ck_typePut_3 ck_Ck_44 (sh_Pr h_a1).2 (sh_Pr h_a1).1 ⟨_, rfl, rfl⟩ rfl rfl (Nat.le_of_ble_eq_true rfl) ?_
  by_cases c2 : r1 = 1
  · rw [if_pos c2] at h
    refine jj_lookup (tgt := 40) d_Ck_typePut_6 rfl (by rw [c2] <;> rfl) rfl ?_
    refine jj_iconst d_Ck_typePut_40 jc_i_3 ?_
    cases h
    exact jj_ireturn d_Ck_typePut_41 rfl ⟨rfl, rfl⟩
  rw [if_neg c2] at h
  by_cases c3 : r1 = 184
  · rw [if_pos c3] at h
    refine jj_lookup (tgt := 44) d_Ck_typePut_6 rfl (by rw [c3] <;> rfl) rfl ?_
    refine jj_aload_n d_Ck_typePut_44 rfl ?_
    refine jj_aload_n d_Ck_typePut_45 rfl ?_
    refine jj_iload_n d_Ck_typePut_46 rfl ?_
    obtain ⟨r4, x4, e4, h⟩ := jj_b2o h
    obtain ⟨i5, h⟩ := jj_gt h
    refine jj_callVr (as := [.ref a2, .int a3]) (c_Pr_called (d := d + 0) h_a1 h_a2 e4) d_Ck_typePut_47 ck_Ck_146 (sh_Pr h_a1).2 (sh_Pr h_a1).1 ⟨_, rfl, rfl⟩ rfl rfl (Nat.le_of_ble_eq_true rfl) ?_
    refine jj_getI d_Ck_typePut_50 fk_Ck_150 (sh_Me (ob_Me i5)).2 (sh_Me (ob_Me i5)).1 rfl rfl ?_
    cases h
    exact jj_ireturn d_Ck_typePut_53 rfl ⟨rfl, rfl⟩
  rw [if_neg c3] at h
  by_cases c6 : r1 = 188
  · rw [if_pos c6] at h
    refine jj_lookup (tgt := 42) d_Ck_typePut_6 rfl (by rw [c6] <;> rfl) rfl ?_
    refine jj_iconst d_Ck_typePut_42 jc_i_2 ?_
    cases h
    exact jj_ireturn d_Ck_typePut_43 rfl ⟨rfl, rfl⟩
  rw [if_neg c6] at h
  refine jj_lookup (tgt := 54) d_Ck_typePut_6 rfl ((lv_osw c2 (by decide)).trans ((lv_osw c3 (by decide)).trans ((lv_osw c6 (by decide)).trans (rfl)))) rfl ?_
  refine jj_iconst d_Ck_typePut_54 jc_i_1 ?_
  cases h
  exact jj_ireturn d_Ck_typePut_55 rfl ⟨rfl, rfl⟩
theorem c_Ck_typePut {X : jj_X} {d : Nat} {this : Nat} {a1 : Nat} {a2 : Nat} {a3 : Int32} (h_this : o_Ck this) (h_a1 : o_Pr a1) (h_a2 : o_Me a2) {x : jj_Mem} {q : Int32 × jj_Mem} (h : f_Ck_typePut this a1 a2 a3 x = some q) : jj_Met Y0 X (d + 1) m_Ck_typePut [.ref this, .ref a1, .ref a2, .int a3] x (jp_i q) :=
  jj_metp 0 (lo := [some (.ref this), some (.ref a1), some (.ref a2), some (.int a3)]) rfl (Nat.le_of_ble_eq_true rfl) rfl (t_Ck_typePut_0 h_this h_a1 h_a2 h)
def k_Ma_goesToTarget_53 (s0 : Int32) (s1 : Int32) (x : jj_Mem) : Option (Int32 × jj_Mem) :=
  (if s0 = s1 then some (1, x) else some (0, x))
set_option maxHeartbeats 2000000 in
theorem t_Ma_goesToTarget_53 {X : jj_X} {d : Nat} {s0 : Int32} {s1 : Int32}  {x : jj_Mem} {q : Int32 × jj_Mem} (h : k_Ma_goesToTarget_53 s0 s1 x = some q) : jj_J Y0 X (d + 1) m_Ma_goesToTarget 53 [none, none, none, none] [.int s1, .int s0] x (jp_i q) := by
  unfold k_Ma_goesToTarget_53 at h
  refine jj_ic_ne (tgt := 60) d_Ma_goesToTarget_53 rfl (fun c1 => ?_) (fun c1 => ?_)
  · rw [if_neg c1] at h
    refine jj_iconst d_Ma_goesToTarget_60 jc_i_0 ?_
    cases h
    exact jj_zreturn d_Ma_goesToTarget_61 rfl (Or.inl rfl) ⟨rfl, rfl⟩
  · rw [if_pos c1] at h
    refine jj_iconst d_Ma_goesToTarget_56 jc_i_1 ?_
    refine jj_goto (tgt := 61) d_Ma_goesToTarget_57 rfl ?_
    cases h
    exact jj_zreturn d_Ma_goesToTarget_61 rfl (Or.inr rfl) ⟨rfl, rfl⟩
def k_Ma_goesToTarget_41 (l2 : Int32) (s0 : Int32) (x : jj_Mem) : Option (Int32 × jj_Mem) :=
  (if l2 = 198 then k_Ma_goesToTarget_53 s0 1 x else k_Ma_goesToTarget_53 s0 0 x)
set_option maxHeartbeats 2000000 in
theorem t_Ma_goesToTarget_41 {X : jj_X} {d : Nat} {l2 : Int32} {s0 : Int32}  {x : jj_Mem} {q : Int32 × jj_Mem} (h : k_Ma_goesToTarget_41 l2 s0 x = some q) : jj_J Y0 X (d + 1) m_Ma_goesToTarget 41 [none, none, some (.int l2), none] [.int s0] x (jp_i q) := by
  unfold k_Ma_goesToTarget_41 at h
  refine jj_iload_n d_Ma_goesToTarget_41 rfl ?_
  refine jj_sipush d_Ma_goesToTarget_42 jc_s_198 ?_
  refine jj_ic_ne (tgt := 52) d_Ma_goesToTarget_45 rfl (fun c1 => ?_) (fun c1 => ?_)
  · rw [if_neg c1] at h
    refine jj_iconst d_Ma_goesToTarget_52 jc_i_0 ?_
    exact jj_J.sub (t_Ma_goesToTarget_53  h) (fun i v hi => jj_mask_ok [false, false, false, false] hi)
  · rw [if_pos c1] at h
    refine jj_iconst d_Ma_goesToTarget_48 jc_i_1 ?_
    refine jj_goto (tgt := 53) d_Ma_goesToTarget_49 rfl ?_
    exact jj_J.sub (t_Ma_goesToTarget_53  h) (fun i v hi => jj_mask_ok [false, false, false, false] hi)
def k_Ma_goesToTarget_28 (l1 : Nat) (l2 : Int32) (x : jj_Mem) : Option (Int32 × jj_Mem) :=
  jj_b2 (f_St_kindTaken l1 x) (fun r1 x1 => (if r1 = 3 then k_Ma_goesToTarget_41 l2 1 x1 else k_Ma_goesToTarget_41 l2 0 x1))
set_option maxHeartbeats 2000000 in
theorem t_Ma_goesToTarget_28 {X : jj_X} {d : Nat} {l1 : Nat} {l2 : Int32} (h_l1 : o_St l1) {x : jj_Mem} {q : Int32 × jj_Mem} (h : k_Ma_goesToTarget_28 l1 l2 x = some q) : jj_J Y0 X (d + 1) m_Ma_goesToTarget 28 [none, some (.ref l1), some (.int l2), none] [] x (jp_i q) := by
  unfold k_Ma_goesToTarget_28 at h
  refine jj_aload_n d_Ma_goesToTarget_28 rfl ?_
  obtain ⟨r1, x1, e1, h⟩ := jj_b2o h
  refine jj_callVi (as := []) (c_St_kindTaken (d := d + 0) h_l1 e1) d_Ma_goesToTarget_29 ck_Ma_143 (sh_St h_l1).2 (sh_St h_l1).1 ⟨_, rfl, rfl⟩ rfl rfl (Nat.le_of_ble_eq_true rfl) ?_
  refine jj_iconst d_Ma_goesToTarget_32 jc_i_3 ?_
  refine jj_ic_ne (tgt := 40) d_Ma_goesToTarget_33 rfl (fun c2 => ?_) (fun c2 => ?_)
  · rw [if_neg c2] at h
    refine jj_iconst d_Ma_goesToTarget_40 jc_i_0 ?_
    exact jj_J.sub (t_Ma_goesToTarget_41  h) (fun i v hi => jj_mask_ok [false, false, true, false] hi)
  · rw [if_pos c2] at h
    refine jj_iconst d_Ma_goesToTarget_36 jc_i_1 ?_
    refine jj_goto (tgt := 41) d_Ma_goesToTarget_37 rfl ?_
    exact jj_J.sub (t_Ma_goesToTarget_41  h) (fun i v hi => jj_mask_ok [false, false, true, false] hi)
def f_Ma_goesToTarget (this : Nat) (a1 : Nat) (a2 : Int32) (x : jj_Mem) : Option (Int32 × jj_Mem) :=
  (if a2 = 167 then some (1, x) else jj_b2 (f_St_take a1 x) (fun r2 x2 => (if a2 = 198 then k_Ma_goesToTarget_28 a1 a2 x2 else (if a2 = 199 then k_Ma_goesToTarget_28 a1 a2 x2 else (if 158 < a2 then jj_b2 (f_St_take a1 x2) (fun r6 x6 => jj_b2 (f_Ma_holds this (a2 - 159) r6 r2 x6) (fun r7 x7 => if jj_zb r7 = true then some (r7, x7) else none)) else jj_b2 (f_Ma_holds this (a2 - 153) r2 0 x2) (fun r9 x9 => if jj_zb r9 = true then some (r9, x9) else none))))))
set_option maxHeartbeats 2000000 in
theorem t_Ma_goesToTarget_0 {X : jj_X} {d : Nat} {this : Nat} {a1 : Nat} {a2 : Int32} (h_this : o_Ma this) (h_a1 : o_St a1) {x : jj_Mem} {q : Int32 × jj_Mem} (h : f_Ma_goesToTarget this a1 a2 x = some q) : jj_J Y0 X (d + 1) m_Ma_goesToTarget 0 [some (.ref this), some (.ref a1), some (.int a2), none] [] x (jp_i q) := by
  unfold f_Ma_goesToTarget at h
  refine jj_iload_n d_Ma_goesToTarget_0 rfl ?_
  refine jj_sipush d_Ma_goesToTarget_1 jc_s_167 ?_
  refine jj_ic_ne (tgt := 9) d_Ma_goesToTarget_4 rfl (fun c1 => ?_) (fun c1 => ?_)
  · rw [if_neg c1] at h
    refine jj_aload_n d_Ma_goesToTarget_9 rfl ?_
    obtain ⟨r2, x2, e2, h⟩ := jj_b2o h
    refine jj_callVi (as := []) (c_St_take (d := d + 0) h_a1 e2) d_Ma_goesToTarget_10 ck_Ma_139 (sh_St h_a1).2 (sh_St h_a1).1 ⟨_, rfl, rfl⟩ rfl rfl (Nat.le_of_ble_eq_true rfl) ?_
    refine jj_istore_n (lo' := [_, _, _, _]) d_Ma_goesToTarget_13 rfl (by decide) rfl ?_
    refine jj_iload_n d_Ma_goesToTarget_14 rfl ?_
    refine jj_sipush d_Ma_goesToTarget_15 jc_s_198 ?_
    refine jj_ic_eq (tgt := 28) d_Ma_goesToTarget_18 rfl (fun c3 => ?_) (fun c3 => ?_)
    · rw [if_pos c3] at h
      exact jj_J.sub (t_Ma_goesToTarget_28 h_a1 h) (fun i v hi => jj_mask_ok [false, true, true, false] hi)
    · rw [if_neg c3] at h
      refine jj_iload_n d_Ma_goesToTarget_21 rfl ?_
      refine jj_sipush d_Ma_goesToTarget_22 jc_s_199 ?_
      refine jj_ic_ne (tgt := 62) d_Ma_goesToTarget_25 rfl (fun c4 => ?_) (fun c4 => ?_)
      · rw [if_neg c4] at h
        refine jj_iload_n d_Ma_goesToTarget_62 rfl ?_
        refine jj_sipush d_Ma_goesToTarget_63 jc_s_158 ?_
        refine jj_ic_gt (tgt := 81) d_Ma_goesToTarget_66 rfl (fun c5 => ?_) (fun c5 => ?_)
        · rw [if_pos c5] at h
          refine jj_aload_n d_Ma_goesToTarget_81 rfl ?_
          refine jj_iload_n d_Ma_goesToTarget_82 rfl ?_
          refine jj_sipush d_Ma_goesToTarget_83 jc_s_159 ?_
          refine jj_isub d_Ma_goesToTarget_86 ?_
          refine jj_aload_n d_Ma_goesToTarget_87 rfl ?_
          obtain ⟨r6, x6, e6, h⟩ := jj_b2o h
          refine jj_callVi (as := []) (c_St_take (d := d + 0) h_a1 e6) d_Ma_goesToTarget_88 ck_Ma_139 (sh_St h_a1).2 (sh_St h_a1).1 ⟨_, rfl, rfl⟩ rfl rfl (Nat.le_of_ble_eq_true rfl) ?_
          refine jj_iload_n d_Ma_goesToTarget_91 rfl ?_
          obtain ⟨r7, x7, e7, h⟩ := jj_b2o h
          refine jj_callVi (as := [.int (a2 - 159), .int r6, .int r2]) (c_Ma_holds (d := d + 0) h_this e7) d_Ma_goesToTarget_92 ck_Ma_157 (sh_Ma h_this).2 (sh_Ma h_this).1 ⟨_, rfl, rfl⟩ rfl rfl (Nat.le_of_ble_eq_true rfl) ?_
          obtain ⟨i8, h⟩ := jj_gt h
          cases h
          exact jj_zreturn d_Ma_goesToTarget_95 rfl (jj_zbo i8) ⟨rfl, rfl⟩
        · rw [if_neg c5] at h
          refine jj_aload_n d_Ma_goesToTarget_69 rfl ?_
          refine jj_iload_n d_Ma_goesToTarget_70 rfl ?_
          refine jj_sipush d_Ma_goesToTarget_71 jc_s_153 ?_
          refine jj_isub d_Ma_goesToTarget_74 ?_
          refine jj_iload_n d_Ma_goesToTarget_75 rfl ?_
          refine jj_iconst d_Ma_goesToTarget_76 jc_i_0 ?_
          obtain ⟨r9, x9, e9, h⟩ := jj_b2o h
          refine jj_callVi (as := [.int (a2 - 153), .int r2, .int 0]) (c_Ma_holds (d := d + 0) h_this e9) d_Ma_goesToTarget_77 ck_Ma_157 (sh_Ma h_this).2 (sh_Ma h_this).1 ⟨_, rfl, rfl⟩ rfl rfl (Nat.le_of_ble_eq_true rfl) ?_
          obtain ⟨i10, h⟩ := jj_gt h
          cases h
          exact jj_zreturn d_Ma_goesToTarget_80 rfl (jj_zbo i10) ⟨rfl, rfl⟩
      · rw [if_pos c4] at h
        exact jj_J.sub (t_Ma_goesToTarget_28 h_a1 h) (fun i v hi => jj_mask_ok [false, true, true, false] hi)
  · rw [if_pos c1] at h
    refine jj_iconst d_Ma_goesToTarget_7 jc_i_1 ?_
    cases h
    exact jj_zreturn d_Ma_goesToTarget_8 rfl (Or.inr rfl) ⟨rfl, rfl⟩
theorem c_Ma_goesToTarget {X : jj_X} {d : Nat} {this : Nat} {a1 : Nat} {a2 : Int32} (h_this : o_Ma this) (h_a1 : o_St a1) {x : jj_Mem} {q : Int32 × jj_Mem} (h : f_Ma_goesToTarget this a1 a2 x = some q) : jj_Met Y0 X (d + 1) m_Ma_goesToTarget [.ref this, .ref a1, .int a2] x (jp_i q) :=
  jj_metp 1 (lo := [some (.ref this), some (.ref a1), some (.int a2), none]) rfl (Nat.le_of_ble_eq_true rfl) rfl (t_Ma_goesToTarget_0 h_this h_a1 h)
