def k_Mo_targetsFit_72 (rec : Nat → List (Option Value) → jj_Mem → Option (Int32 × jj_Mem)) (l0 : Nat) (l1 : Int32) (l2 : Int32) (l4 : Int32) (s0 : Int32) (x : jj_Mem) : Option (Int32 × jj_Mem) :=
  if jj_inb (l1 + l4) 240 = true then jj_b1 (s_Mo_bytes (x (l0 + 1) (Int32.toNatClampNeg (l1 + l4)))) (fun r2 => rec 5 [some (.ref l0), some (.int l1), some (.int l2), some (.int s0), some (.int (l4 + r2)), none] x) else none
set_option maxHeartbeats 2000000 in
theorem t_Mo_targetsFit_72 {X : jj_X} {d : Nat} (rec : Nat → List (Option Value) → jj_Mem → Option (Int32 × jj_Mem)) (hrec : ∀ (L : Nat) (lo : List (Option Value)) (x : jj_Mem) (q : Int32 × jj_Mem), rec L lo x = some q → jj_J Y0 X (d + 4) m_Mo_targetsFit L lo [] x (jp_i q)) {l0 : Nat} {l1 : Int32} {l2 : Int32} {l4 : Int32} {s0 : Int32} (h_l0 : o_Mo l0) {x : jj_Mem} {q : Int32 × jj_Mem} (h : k_Mo_targetsFit_72 rec l0 l1 l2 l4 s0 x = some q) : jj_J Y0 X (d + 4) m_Mo_targetsFit 72 [some (.ref l0), some (.int l1), some (.int l2), none, some (.int l4), none] [.int s0] x (jp_i q) := by
  unfold k_Mo_targetsFit_72 at h
  refine jj_istore_n (lo' := [_, _, _, _, _, _]) d_Mo_targetsFit_72 rfl (by decide) rfl ?_
  refine jj_iload d_Mo_targetsFit_73 rfl ?_
  refine jj_aload_n d_Mo_targetsFit_75 rfl ?_
  refine jj_getR d_Mo_targetsFit_76 fk_Mo_7 (sh_Mo h_l0).2 (sh_Mo h_l0).1 rfl ?_
  refine jj_iload_n d_Mo_targetsFit_79 rfl ?_
  refine jj_iload d_Mo_targetsFit_80 rfl ?_
  refine jj_iadd d_Mo_targetsFit_82 ?_
  obtain ⟨i1, h⟩ := jj_gt h
  refine jj_iaload d_Mo_targetsFit_83 rfl (ar_Mo_file h_l0).1 (ar_Mo_file h_l0).2 (jj_inn i1) rfl ?_
  obtain ⟨r2, e2, h⟩ := jj_b1o h
  refine jj_callSi (as := [.int (x (l0 + 1) (Int32.toNatClampNeg (l1 + l4)))]) (c_Mo_bytes (d := d + 1)  e2) d_Mo_targetsFit_84 ck_Mo_75 rfl rfl (Nat.le_of_ble_eq_true rfl) ?_
  refine jj_iadd d_Mo_targetsFit_87 ?_
  refine jj_istore (lo' := [_, _, _, _, _, _]) d_Mo_targetsFit_88 rfl (by decide) rfl ?_
  refine jj_goto (tgt := 5) d_Mo_targetsFit_90 rfl ?_
  exact jj_J.sub (hrec _ _ _ _ h) (fun i v hi => jj_mask_ok [true, true, true, true, true, false] hi)
def k_Mo_targetsFit_71 (rec : Nat → List (Option Value) → jj_Mem → Option (Int32 × jj_Mem)) (l0 : Nat) (l1 : Int32) (l2 : Int32) (l4 : Int32) (x : jj_Mem) : Option (Int32 × jj_Mem) :=
  k_Mo_targetsFit_72 rec l0 l1 l2 l4 0 x
set_option maxHeartbeats 2000000 in
theorem t_Mo_targetsFit_71 {X : jj_X} {d : Nat} (rec : Nat → List (Option Value) → jj_Mem → Option (Int32 × jj_Mem)) (hrec : ∀ (L : Nat) (lo : List (Option Value)) (x : jj_Mem) (q : Int32 × jj_Mem), rec L lo x = some q → jj_J Y0 X (d + 4) m_Mo_targetsFit L lo [] x (jp_i q)) {l0 : Nat} {l1 : Int32} {l2 : Int32} {l4 : Int32} (h_l0 : o_Mo l0) {x : jj_Mem} {q : Int32 × jj_Mem} (h : k_Mo_targetsFit_71 rec l0 l1 l2 l4 x = some q) : jj_J Y0 X (d + 4) m_Mo_targetsFit 71 [some (.ref l0), some (.int l1), some (.int l2), none, some (.int l4), none] [] x (jp_i q) := by
  unfold k_Mo_targetsFit_71 at h
  refine jj_iconst d_Mo_targetsFit_71 jc_i_0 ?_
  exact jj_J.sub (t_Mo_targetsFit_72 rec hrec h_l0 h) (fun i v hi => jj_mask_ok [true, true, true, false, true, false] hi)
def k_Mo_targetsFit_67 (rec : Nat → List (Option Value) → jj_Mem → Option (Int32 × jj_Mem)) (l0 : Nat) (l1 : Int32) (l2 : Int32) (l4 : Int32) (x : jj_Mem) : Option (Int32 × jj_Mem) :=
  k_Mo_targetsFit_72 rec l0 l1 l2 l4 1 x
set_option maxHeartbeats 2000000 in
theorem t_Mo_targetsFit_67 {X : jj_X} {d : Nat} (rec : Nat → List (Option Value) → jj_Mem → Option (Int32 × jj_Mem)) (hrec : ∀ (L : Nat) (lo : List (Option Value)) (x : jj_Mem) (q : Int32 × jj_Mem), rec L lo x = some q → jj_J Y0 X (d + 4) m_Mo_targetsFit L lo [] x (jp_i q)) {l0 : Nat} {l1 : Int32} {l2 : Int32} {l4 : Int32} (h_l0 : o_Mo l0) {x : jj_Mem} {q : Int32 × jj_Mem} (h : k_Mo_targetsFit_67 rec l0 l1 l2 l4 x = some q) : jj_J Y0 X (d + 4) m_Mo_targetsFit 67 [some (.ref l0), some (.int l1), some (.int l2), none, some (.int l4), none] [] x (jp_i q) := by
  unfold k_Mo_targetsFit_67 at h
  refine jj_iconst d_Mo_targetsFit_67 jc_i_1 ?_
  refine jj_goto (tgt := 72) d_Mo_targetsFit_68 rfl ?_
  exact jj_J.sub (t_Mo_targetsFit_72 rec hrec h_l0 h) (fun i v hi => jj_mask_ok [true, true, true, false, true, false] hi)
def k_Mo_targetsFit_5 (rec : Nat → List (Option Value) → jj_Mem → Option (Int32 × jj_Mem)) (l0 : Nat) (l1 : Int32) (l2 : Int32) (l3 : Int32) (l4 : Int32) (x : jj_Mem) : Option (Int32 × jj_Mem) :=
  (if l2 ≤ l4 then if jj_zb l3 = true then some (l3, x) else none else (if l3 = 0 then k_Mo_targetsFit_71 rec l0 l1 l2 l4 x else if jj_inb (l1 + l4) 240 = true then jj_b1 (s_Mo_jumps (x (l0 + 1) (Int32.toNatClampNeg (l1 + l4)))) (fun r5 => (if r5 = 0 then k_Mo_targetsFit_67 rec l0 l1 l2 l4 x else if jj_inb ((l1 + l4) + 1) 240 = true then if jj_inb ((l1 + l4) + 2) 240 = true then jj_b2 (f_Mo_jump (x (l0 + 1) (Int32.toNatClampNeg ((l1 + l4) + 1))) (x (l0 + 1) (Int32.toNatClampNeg ((l1 + l4) + 2))) x) (fun r9 x9 => jj_b2 (f_Mo_begins l0 l1 l2 (l4 + r9) x9) (fun r10 x10 => (if r10 = 0 then k_Mo_targetsFit_71 rec l0 l1 l2 l4 x10 else k_Mo_targetsFit_67 rec l0 l1 l2 l4 x10))) else none else none)) else none))
set_option maxHeartbeats 2000000 in
theorem t_Mo_targetsFit_5 {X : jj_X} {d : Nat} (rec : Nat → List (Option Value) → jj_Mem → Option (Int32 × jj_Mem)) (hrec : ∀ (L : Nat) (lo : List (Option Value)) (x : jj_Mem) (q : Int32 × jj_Mem), rec L lo x = some q → jj_J Y0 X (d + 4) m_Mo_targetsFit L lo [] x (jp_i q)) {l0 : Nat} {l1 : Int32} {l2 : Int32} {l3 : Int32} {l4 : Int32} (h_l0 : o_Mo l0) {x : jj_Mem} {q : Int32 × jj_Mem} (h : k_Mo_targetsFit_5 rec l0 l1 l2 l3 l4 x = some q) : jj_J Y0 X (d + 4) m_Mo_targetsFit 5 [some (.ref l0), some (.int l1), some (.int l2), some (.int l3), some (.int l4), none] [] x (jp_i q) := by
  unfold k_Mo_targetsFit_5 at h
  refine jj_iload d_Mo_targetsFit_5 rfl ?_
  refine jj_iload_n d_Mo_targetsFit_7 rfl ?_
  refine jj_ic_ge (tgt := 93) d_Mo_targetsFit_8 rfl (fun c1 => ?_) (fun c1 => ?_)
  · rw [if_pos c1] at h
    refine jj_iload_n d_Mo_targetsFit_93 rfl ?_
    obtain ⟨i2, h⟩ := jj_gt h
    cases h
    exact jj_zreturn d_Mo_targetsFit_94 rfl (jj_zbo i2) ⟨rfl, rfl⟩
  · rw [if_neg c1] at h
    refine jj_iload_n d_Mo_targetsFit_11 rfl ?_
    refine jj_iload d_Mo_targetsFit_12 rfl ?_
    refine jj_iadd d_Mo_targetsFit_14 ?_
    refine jj_istore (lo' := [_, _, _, _, _, _]) d_Mo_targetsFit_15 rfl (by decide) rfl ?_
    refine jj_iload_n d_Mo_targetsFit_17 rfl ?_
    refine jj_if_eq (tgt := 71) d_Mo_targetsFit_18 rfl (fun c3 => ?_) (fun c3 => ?_)
    · rw [if_pos c3] at h
      exact jj_J.sub (t_Mo_targetsFit_71 rec hrec h_l0 h) (fun i v hi => jj_mask_ok [true, true, true, false, true, false] hi)
    · rw [if_neg c3] at h
      refine jj_aload_n d_Mo_targetsFit_21 rfl ?_
      refine jj_getR d_Mo_targetsFit_22 fk_Mo_7 (sh_Mo h_l0).2 (sh_Mo h_l0).1 rfl ?_
      refine jj_iload d_Mo_targetsFit_25 rfl ?_
      obtain ⟨i4, h⟩ := jj_gt h
      refine jj_iaload d_Mo_targetsFit_27 rfl (ar_Mo_file h_l0).1 (ar_Mo_file h_l0).2 (jj_inn i4) rfl ?_
      obtain ⟨r5, e5, h⟩ := jj_b1o h
      refine jj_callSi (as := [.int (x (l0 + 1) (Int32.toNatClampNeg (l1 + l4)))]) (c_Mo_jumps (d := d + 2)  e5) d_Mo_targetsFit_28 ck_Mo_51 rfl rfl (Nat.le_of_ble_eq_true rfl) ?_
      refine jj_if_eq (tgt := 67) d_Mo_targetsFit_31 rfl (fun c6 => ?_) (fun c6 => ?_)
      · rw [if_pos c6] at h
        exact jj_J.sub (t_Mo_targetsFit_67 rec hrec h_l0 h) (fun i v hi => jj_mask_ok [true, true, true, false, true, false] hi)
      · rw [if_neg c6] at h
        refine jj_aload_n d_Mo_targetsFit_34 rfl ?_
        refine jj_iload_n d_Mo_targetsFit_35 rfl ?_
        refine jj_iload_n d_Mo_targetsFit_36 rfl ?_
        refine jj_iload d_Mo_targetsFit_37 rfl ?_
        refine jj_aload_n d_Mo_targetsFit_39 rfl ?_
        refine jj_getR d_Mo_targetsFit_40 fk_Mo_7 (sh_Mo h_l0).2 (sh_Mo h_l0).1 rfl ?_
        refine jj_iload d_Mo_targetsFit_43 rfl ?_
        refine jj_iconst d_Mo_targetsFit_45 jc_i_1 ?_
        refine jj_iadd d_Mo_targetsFit_46 ?_
        obtain ⟨i7, h⟩ := jj_gt h
        refine jj_iaload d_Mo_targetsFit_47 rfl (ar_Mo_file h_l0).1 (ar_Mo_file h_l0).2 (jj_inn i7) rfl ?_
        refine jj_aload_n d_Mo_targetsFit_48 rfl ?_
        refine jj_getR d_Mo_targetsFit_49 fk_Mo_7 (sh_Mo h_l0).2 (sh_Mo h_l0).1 rfl ?_
        refine jj_iload d_Mo_targetsFit_52 rfl ?_
        refine jj_iconst d_Mo_targetsFit_54 jc_i_2 ?_
        refine jj_iadd d_Mo_targetsFit_55 ?_
        obtain ⟨i8, h⟩ := jj_gt h
        refine jj_iaload d_Mo_targetsFit_56 rfl (ar_Mo_file h_l0).1 (ar_Mo_file h_l0).2 (jj_inn i8) rfl ?_
        obtain ⟨r9, x9, e9, h⟩ := jj_b2o h
        refine jj_callSi (as := [.int (x (l0 + 1) (Int32.toNatClampNeg ((l1 + l4) + 1))), .int (x (l0 + 1) (Int32.toNatClampNeg ((l1 + l4) + 2)))]) (c_Mo_jump (d := d + 3)  e9) d_Mo_targetsFit_57 ck_Mo_84 rfl rfl (Nat.le_of_ble_eq_true rfl) ?_
        refine jj_iadd d_Mo_targetsFit_60 ?_
        obtain ⟨r10, x10, e10, h⟩ := jj_b2o h
        refine jj_callVi (as := [.int l1, .int l2, .int (l4 + r9)]) (c_Mo_begins (d := d + 0) h_l0 e10) d_Mo_targetsFit_61 ck_Mo_87 (sh_Mo h_l0).2 (sh_Mo h_l0).1 ⟨_, rfl, rfl⟩ rfl rfl (Nat.le_of_ble_eq_true rfl) ?_
        refine jj_if_eq (tgt := 71) d_Mo_targetsFit_64 rfl (fun c11 => ?_) (fun c11 => ?_)
        · rw [if_pos c11] at h
          exact jj_J.sub (t_Mo_targetsFit_71 rec hrec h_l0 h) (fun i v hi => jj_mask_ok [true, true, true, false, true, false] hi)
        · rw [if_neg c11] at h
          exact jj_J.sub (t_Mo_targetsFit_67 rec hrec h_l0 h) (fun i v hi => jj_mask_ok [true, true, true, false, true, false] hi)
def g_Mo_targetsFit : Nat → Nat → List (Option Value) → jj_Mem → Option (Int32 × jj_Mem)
  | 0, _, _, _ => none
  | f + 1, L, lo, x => match L, lo with
    | 5, [some (.ref l0), some (.int l1), some (.int l2), some (.int l3), some (.int l4), none] => if (bo_Mo l0) = true then k_Mo_targetsFit_5 (g_Mo_targetsFit f) l0 l1 l2 l3 l4 x else none
    | _, _ => none
set_option maxHeartbeats 2000000 in
theorem t_Mo_targetsFit_g {X : jj_X} {d : Nat} : ∀ (f L : Nat) (lo : List (Option Value)) (x : jj_Mem) (q : Int32 × jj_Mem), g_Mo_targetsFit f L lo x = some q → jj_J Y0 X (d + 4) m_Mo_targetsFit L lo [] x (jp_i q) := by
  intro f
  induction f with
  | zero => intro L lo x q h; simp [g_Mo_targetsFit] at h
  | succ f ih =>
    intro L lo x q h
    unfold g_Mo_targetsFit at h
    split at h
    · obtain ⟨i1, h⟩ := jj_gt h
      exact t_Mo_targetsFit_5 _ ih (ob_Mo i1) h
    · cases h
def k_Mo_targetsFit_0 (rec : Nat → List (Option Value) → jj_Mem → Option (Int32 × jj_Mem)) (this : Nat) (a1 : Int32) (a2 : Int32) (x : jj_Mem) : Option (Int32 × jj_Mem) :=
  rec 5 [some (.ref this), some (.int a1), some (.int a2), some (.int 1), some (.int 0), none] x
set_option maxHeartbeats 2000000 in
theorem t_Mo_targetsFit_0 {X : jj_X} {d : Nat} (rec : Nat → List (Option Value) → jj_Mem → Option (Int32 × jj_Mem)) (hrec : ∀ (L : Nat) (lo : List (Option Value)) (x : jj_Mem) (q : Int32 × jj_Mem), rec L lo x = some q → jj_J Y0 X (d + 4) m_Mo_targetsFit L lo [] x (jp_i q)) {this : Nat} {a1 : Int32} {a2 : Int32} (h_this : o_Mo this) {x : jj_Mem} {q : Int32 × jj_Mem} (h : k_Mo_targetsFit_0 rec this a1 a2 x = some q) : jj_J Y0 X (d + 4) m_Mo_targetsFit 0 [some (.ref this), some (.int a1), some (.int a2), none, none, none] [] x (jp_i q) := by
  unfold k_Mo_targetsFit_0 at h
  refine jj_iconst d_Mo_targetsFit_0 jc_i_1 ?_
  refine jj_istore_n (lo' := [_, _, _, _, _, _]) d_Mo_targetsFit_1 rfl (by decide) rfl ?_
  refine jj_iconst d_Mo_targetsFit_2 jc_i_0 ?_
  refine jj_istore (lo' := [_, _, _, _, _, _]) d_Mo_targetsFit_3 rfl (by decide) rfl ?_
  exact jj_J.sub (hrec _ _ _ _ h) (fun i v hi => jj_mask_ok [true, true, true, true, true, false] hi)
def f_Mo_targetsFit (this : Nat) (a1 : Int32) (a2 : Int32) (x : jj_Mem) : Option (Int32 × jj_Mem) := k_Mo_targetsFit_0 (g_Mo_targetsFit 1000) this a1 a2 x
theorem c_Mo_targetsFit {X : jj_X} {d : Nat} {this : Nat} {a1 : Int32} {a2 : Int32} (h_this : o_Mo this) {x : jj_Mem} {q : Int32 × jj_Mem} (h : f_Mo_targetsFit this a1 a2 x = some q) : jj_Met Y0 X (d + 4) m_Mo_targetsFit [.ref this, .int a1, .int a2] x (jp_i q) :=
  jj_metp 3 (lo := [some (.ref this), some (.int a1), some (.int a2), none, none, none]) rfl (Nat.le_of_ble_eq_true rfl) rfl (t_Mo_targetsFit_0 _ (t_Mo_targetsFit_g 1000) h_this h)
def k_Mo_work_282 (l0 : Nat) (l5 : Int32) (l7 : Int32) (l8 : Int32) (x : jj_Mem) : Option (jj_Mem) :=
  if jj_inb l5 24 = true then if jj_inb l5 24 = true then some (jj_set (jj_set x (l0 + 3) (Int32.toNatClampNeg l5) l8) (l0 + 4) (Int32.toNatClampNeg l5) l7) else none else none
set_option maxHeartbeats 2000000 in
theorem t_Mo_work_282 {X : jj_X} {d : Nat} {l0 : Nat} {l5 : Int32} {l7 : Int32} {l8 : Int32} (h_l0 : o_Mo l0) {x : jj_Mem} {q : jj_Mem} (h : k_Mo_work_282 l0 l5 l7 l8 x = some q) : jj_J Y0 X (d + 4) m_Mo_work 282 [some (.ref l0), none, none, none, none, some (.int l5), none, some (.int l7), some (.int l8), none, none, none] [] x (jp_v q) := by
  unfold k_Mo_work_282 at h
  refine jj_aload_n d_Mo_work_282 rfl ?_
  refine jj_getR d_Mo_work_283 fk_Mo_16 (sh_Mo h_l0).2 (sh_Mo h_l0).1 rfl ?_
  refine jj_iload d_Mo_work_286 rfl ?_
  refine jj_iload d_Mo_work_288 rfl ?_
  obtain ⟨i1, h⟩ := jj_gt h
  refine jj_iastore d_Mo_work_290 rfl (ar_Mo_placeKind h_l0).1 (ar_Mo_placeKind h_l0).2 (jj_inn i1) ?_
  refine jj_aload_n d_Mo_work_291 rfl ?_
  refine jj_getR d_Mo_work_292 fk_Mo_19 (sh_Mo h_l0).2 (sh_Mo h_l0).1 rfl ?_
  refine jj_iload d_Mo_work_295 rfl ?_
  refine jj_iload d_Mo_work_297 rfl ?_
  obtain ⟨i2, h⟩ := jj_gt h
  refine jj_iastore d_Mo_work_299 rfl (ar_Mo_placeValue h_l0).1 (ar_Mo_placeValue h_l0).2 (jj_inn i2) ?_
  refine jj_goto (tgt := 416) d_Mo_work_300 rfl ?_
  cases h
  exact jj_return d_Mo_work_416 rfl ⟨rfl, rfl⟩
def k_Mo_work_260 (l0 : Nat) (l1 : Int32) (l5 : Int32) (x : jj_Mem) : Option (jj_Mem) :=
  if jj_inb l5 24 = true then if jj_inb l5 24 = true then jj_b1 (f_Mo_push l0 l1 (x (l0 + 3) (Int32.toNatClampNeg l5)) (x (l0 + 4) (Int32.toNatClampNeg l5)) x) (fun x3 => some x3) else none else none
set_option maxHeartbeats 2000000 in
theorem t_Mo_work_260 {X : jj_X} {d : Nat} {l0 : Nat} {l1 : Int32} {l5 : Int32} (h_l0 : o_Mo l0) {x : jj_Mem} {q : jj_Mem} (h : k_Mo_work_260 l0 l1 l5 x = some q) : jj_J Y0 X (d + 4) m_Mo_work 260 [some (.ref l0), some (.int l1), none, none, none, some (.int l5), none, none, none, none, none, none] [] x (jp_v q) := by
  unfold k_Mo_work_260 at h
  refine jj_aload_n d_Mo_work_260 rfl ?_
  refine jj_iload_n d_Mo_work_261 rfl ?_
  refine jj_aload_n d_Mo_work_262 rfl ?_
  refine jj_getR d_Mo_work_263 fk_Mo_16 (sh_Mo h_l0).2 (sh_Mo h_l0).1 rfl ?_
  refine jj_iload d_Mo_work_266 rfl ?_
  obtain ⟨i1, h⟩ := jj_gt h
  refine jj_iaload d_Mo_work_268 rfl (ar_Mo_placeKind h_l0).1 (ar_Mo_placeKind h_l0).2 (jj_inn i1) rfl ?_
  refine jj_aload_n d_Mo_work_269 rfl ?_
  refine jj_getR d_Mo_work_270 fk_Mo_19 (sh_Mo h_l0).2 (sh_Mo h_l0).1 rfl ?_
  refine jj_iload d_Mo_work_273 rfl ?_
  obtain ⟨i2, h⟩ := jj_gt h
  refine jj_iaload d_Mo_work_275 rfl (ar_Mo_placeValue h_l0).1 (ar_Mo_placeValue h_l0).2 (jj_inn i2) rfl ?_
  obtain ⟨x3, e3, h⟩ := jj_b1o h
  refine jj_callVv (as := [.int l1, .int (x (l0 + 3) (Int32.toNatClampNeg l5)), .int (x (l0 + 4) (Int32.toNatClampNeg l5))]) (c_Mo_push (d := d + 3) h_l0 e3) d_Mo_work_276 ck_Mo_166 (sh_Mo h_l0).2 (sh_Mo h_l0).1 ⟨_, rfl, rfl⟩ rfl rfl (Nat.le_of_ble_eq_true rfl) ?_
  refine jj_goto (tgt := 416) d_Mo_work_279 rfl ?_
  cases h
  exact jj_return d_Mo_work_416 rfl ⟨rfl, rfl⟩
def k_Mo_work_158 (l0 : Nat) (l1 : Int32) (l2 : Int32) (l3 : Int32) (l5 : Int32) (l6 : Int32) (l7 : Int32) (l8 : Int32) (l9 : Int32) (l10 : Int32) (s0 : Int32) (x : jj_Mem) : Option (jj_Mem) :=
  if jj_inb l1 4 = true then jj_b2 (f_Mo_takes l0 l2 x) (fun r2 x2 => if jj_inb l1 4 = true then (if l3 = 21 then k_Mo_work_260 l0 l1 l5 (jj_set x2 (l0 + 7) (Int32.toNatClampNeg l1) ((x (l0 + 7) (Int32.toNatClampNeg l1)) - r2)) else if l3 = 25 then k_Mo_work_260 l0 l1 l5 (jj_set x2 (l0 + 7) (Int32.toNatClampNeg l1) ((x (l0 + 7) (Int32.toNatClampNeg l1)) - r2)) else if l3 = 54 then k_Mo_work_282 l0 l5 l7 l8 (jj_set x2 (l0 + 7) (Int32.toNatClampNeg l1) ((x (l0 + 7) (Int32.toNatClampNeg l1)) - r2)) else if l3 = 58 then k_Mo_work_282 l0 l5 l7 l8 (jj_set x2 (l0 + 7) (Int32.toNatClampNeg l1) ((x (l0 + 7) (Int32.toNatClampNeg l1)) - r2)) else if l3 = 79 then if jj_inb ((8 * s0) + l9) 64 = true then some (jj_set (jj_set x2 (l0 + 7) (Int32.toNatClampNeg l1) ((x (l0 + 7) (Int32.toNatClampNeg l1)) - r2)) (l0 + 11) (Int32.toNatClampNeg ((8 * s0) + l9)) l7) else none else if l3 = 87 then some (jj_set x2 (l0 + 7) (Int32.toNatClampNeg l1) ((x (l0 + 7) (Int32.toNatClampNeg l1)) - r2)) else if l3 = 89 then jj_b1 (f_Mo_push l0 l1 l8 l7 (jj_set x2 (l0 + 7) (Int32.toNatClampNeg l1) ((x (l0 + 7) (Int32.toNatClampNeg l1)) - r2))) (fun x12 => jj_b1 (f_Mo_push l0 l1 l8 l7 x12) (fun x13 => some x13)) else if l3 = 95 then jj_b1 (f_Mo_push l0 l1 l8 l7 (jj_set x2 (l0 + 7) (Int32.toNatClampNeg l1) ((x (l0 + 7) (Int32.toNatClampNeg l1)) - r2))) (fun x15 => jj_b1 (f_Mo_push l0 l1 l10 l9 x15) (fun x16 => some x16)) else if l3 = 132 then if jj_inb l5 24 = true then if jj_inb (l6 + 1) 240 = true then jj_b2 (f_Mo_small ((jj_set x2 (l0 + 7) (Int32.toNatClampNeg l1) ((x (l0 + 7) (Int32.toNatClampNeg l1)) - r2)) (l0 + 2) (Int32.toNatClampNeg (l6 + 1))) (jj_set x2 (l0 + 7) (Int32.toNatClampNeg l1) ((x (l0 + 7) (Int32.toNatClampNeg l1)) - r2))) (fun r20 x20 => if jj_inb l5 24 = true then some (jj_set x20 (l0 + 4) (Int32.toNatClampNeg l5) (((jj_set x2 (l0 + 7) (Int32.toNatClampNeg l1) ((x (l0 + 7) (Int32.toNatClampNeg l1)) - r2)) (l0 + 4) (Int32.toNatClampNeg l5)) + r20)) else none) else none else none else jj_b1 (s_Mo_puts l3) (fun r22 => jj_b2 (f_Mo_value l0 l3 l6 l9 l7 (jj_set x2 (l0 + 7) (Int32.toNatClampNeg l1) ((x (l0 + 7) (Int32.toNatClampNeg l1)) - r2))) (fun r23 x23 => jj_b1 (f_Mo_push l0 l1 r22 r23 x23) (fun x24 => some x24)))) else none) else none
set_option maxHeartbeats 2000000 in
theorem t_Mo_work_158 {X : jj_X} {d : Nat} {l0 : Nat} {l1 : Int32} {l2 : Int32} {l3 : Int32} {l5 : Int32} {l6 : Int32} {l7 : Int32} {l8 : Int32} {l9 : Int32} {l10 : Int32} {s0 : Int32} (h_l0 : o_Mo l0) {x : jj_Mem} {q : jj_Mem} (h : k_Mo_work_158 l0 l1 l2 l3 l5 l6 l7 l8 l9 l10 s0 x = some q) : jj_J Y0 X (d + 4) m_Mo_work 158 [some (.ref l0), some (.int l1), some (.int l2), some (.int l3), none, some (.int l5), some (.int l6), some (.int l7), some (.int l8), some (.int l9), some (.int l10), none] [.int s0] x (jp_v q) := by
  unfold k_Mo_work_158 at h
  refine jj_istore (lo' := [_, _, _, _, _, _, _, _, _, _, _, _]) d_Mo_work_158 rfl (by decide) rfl ?_
  refine jj_aload_n d_Mo_work_160 rfl ?_
  refine jj_getR d_Mo_work_161 fk_Mo_28 (sh_Mo h_l0).2 (sh_Mo h_l0).1 rfl ?_
  refine jj_iload_n d_Mo_work_164 rfl ?_
  refine jj_aload_n d_Mo_work_165 rfl ?_
  refine jj_getR d_Mo_work_166 fk_Mo_28 (sh_Mo h_l0).2 (sh_Mo h_l0).1 rfl ?_
  refine jj_iload_n d_Mo_work_169 rfl ?_
  obtain ⟨i1, h⟩ := jj_gt h
  refine jj_iaload d_Mo_work_170 rfl (ar_Mo_height h_l0).1 (ar_Mo_height h_l0).2 (jj_inn i1) rfl ?_
  refine jj_aload_n d_Mo_work_171 rfl ?_
  refine jj_iload_n d_Mo_work_172 rfl ?_
  obtain ⟨r2, x2, e2, h⟩ := jj_b2o h
  refine jj_callVi (as := [.int l2]) (c_Mo_takes (d := d + 0) h_l0 e2) d_Mo_work_173 ck_Mo_154 (sh_Mo h_l0).2 (sh_Mo h_l0).1 ⟨_, rfl, rfl⟩ rfl rfl (Nat.le_of_ble_eq_true rfl) ?_
  refine jj_isub d_Mo_work_176 ?_
  obtain ⟨i3, h⟩ := jj_gt h
  refine jj_iastore d_Mo_work_177 rfl (ar_Mo_height h_l0).1 (ar_Mo_height h_l0).2 (jj_inn i3) ?_
  refine jj_iload_n d_Mo_work_178 rfl ?_
  by_cases c4 : l3 = 21
  · rw [if_pos c4] at h
    refine jj_lookup (tgt := 260) d_Mo_work_179 rfl (by rw [c4] <;> rfl) rfl ?_
    exact jj_J.sub (t_Mo_work_260 h_l0 h) (fun i v hi => jj_mask_ok [true, true, false, false, false, true, false, false, false, false, false, false] hi)
  rw [if_neg c4] at h
  by_cases c5 : l3 = 25
  · rw [if_pos c5] at h
    refine jj_lookup (tgt := 260) d_Mo_work_179 rfl (by rw [c5] <;> rfl) rfl ?_
    exact jj_J.sub (t_Mo_work_260 h_l0 h) (fun i v hi => jj_mask_ok [true, true, false, false, false, true, false, false, false, false, false, false] hi)
  rw [if_neg c5] at h
  by_cases c6 : l3 = 54
  · rw [if_pos c6] at h
    refine jj_lookup (tgt := 282) d_Mo_work_179 rfl (by rw [c6] <;> rfl) rfl ?_
    exact jj_J.sub (t_Mo_work_282 h_l0 h) (fun i v hi => jj_mask_ok [true, false, false, false, false, true, false, true, true, false, false, false] hi)
  rw [if_neg c6] at h
  by_cases c7 : l3 = 58
  · rw [if_pos c7] at h
    refine jj_lookup (tgt := 282) d_Mo_work_179 rfl (by rw [c7] <;> rfl) rfl ?_
    exact jj_J.sub (t_Mo_work_282 h_l0 h) (fun i v hi => jj_mask_ok [true, false, false, false, false, true, false, true, true, false, false, false] hi)
  rw [if_neg c7] at h
  by_cases c8 : l3 = 79
  · rw [if_pos c8] at h
    refine jj_lookup (tgt := 333) d_Mo_work_179 rfl (by rw [c8] <;> rfl) rfl ?_
    refine jj_aload_n d_Mo_work_333 rfl ?_
    refine jj_getR d_Mo_work_334 fk_Mo_40 (sh_Mo h_l0).2 (sh_Mo h_l0).1 rfl ?_
    refine jj_bipush d_Mo_work_337 jc_b_8 ?_
    refine jj_iload d_Mo_work_339 rfl ?_
    refine jj_imul d_Mo_work_341 ?_
    refine jj_iload d_Mo_work_342 rfl ?_
    refine jj_iadd d_Mo_work_344 ?_
    refine jj_iload d_Mo_work_345 rfl ?_
    obtain ⟨i9, h⟩ := jj_gt h
    refine jj_iastore d_Mo_work_347 rfl (ar_Mo_cells h_l0).1 (ar_Mo_cells h_l0).2 (jj_inn i9) ?_
    refine jj_goto (tgt := 416) d_Mo_work_348 rfl ?_
    cases h
    exact jj_return d_Mo_work_416 rfl ⟨rfl, rfl⟩
  rw [if_neg c8] at h
  by_cases c10 : l3 = 87
  · rw [if_pos c10] at h
    refine jj_lookup (tgt := 351) d_Mo_work_179 rfl (by rw [c10] <;> rfl) rfl ?_
    refine jj_goto (tgt := 416) d_Mo_work_351 rfl ?_
    cases h
    exact jj_return d_Mo_work_416 rfl ⟨rfl, rfl⟩
  rw [if_neg c10] at h
  by_cases c11 : l3 = 89
  · rw [if_pos c11] at h
    refine jj_lookup (tgt := 354) d_Mo_work_179 rfl (by rw [c11] <;> rfl) rfl ?_
    refine jj_aload_n d_Mo_work_354 rfl ?_
    refine jj_iload_n d_Mo_work_355 rfl ?_
    refine jj_iload d_Mo_work_356 rfl ?_
    refine jj_iload d_Mo_work_358 rfl ?_
    obtain ⟨x12, e12, h⟩ := jj_b1o h
    refine jj_callVv (as := [.int l1, .int l8, .int l7]) (c_Mo_push (d := d + 3) h_l0 e12) d_Mo_work_360 ck_Mo_166 (sh_Mo h_l0).2 (sh_Mo h_l0).1 ⟨_, rfl, rfl⟩ rfl rfl (Nat.le_of_ble_eq_true rfl) ?_
    refine jj_aload_n d_Mo_work_363 rfl ?_
    refine jj_iload_n d_Mo_work_364 rfl ?_
    refine jj_iload d_Mo_work_365 rfl ?_
    refine jj_iload d_Mo_work_367 rfl ?_
    obtain ⟨x13, e13, h⟩ := jj_b1o h
    refine jj_callVv (as := [.int l1, .int l8, .int l7]) (c_Mo_push (d := d + 3) h_l0 e13) d_Mo_work_369 ck_Mo_166 (sh_Mo h_l0).2 (sh_Mo h_l0).1 ⟨_, rfl, rfl⟩ rfl rfl (Nat.le_of_ble_eq_true rfl) ?_
    refine jj_goto (tgt := 416) d_Mo_work_372 rfl ?_
    cases h
    exact jj_return d_Mo_work_416 rfl ⟨rfl, rfl⟩
  rw [if_neg c11] at h
  by_cases c14 : l3 = 95
  · rw [if_pos c14] at h
    refine jj_lookup (tgt := 375) d_Mo_work_179 rfl (by rw [c14] <;> rfl) rfl ?_
    refine jj_aload_n d_Mo_work_375 rfl ?_
    refine jj_iload_n d_Mo_work_376 rfl ?_
    refine jj_iload d_Mo_work_377 rfl ?_
    refine jj_iload d_Mo_work_379 rfl ?_
    obtain ⟨x15, e15, h⟩ := jj_b1o h
    refine jj_callVv (as := [.int l1, .int l8, .int l7]) (c_Mo_push (d := d + 3) h_l0 e15) d_Mo_work_381 ck_Mo_166 (sh_Mo h_l0).2 (sh_Mo h_l0).1 ⟨_, rfl, rfl⟩ rfl rfl (Nat.le_of_ble_eq_true rfl) ?_
    refine jj_aload_n d_Mo_work_384 rfl ?_
    refine jj_iload_n d_Mo_work_385 rfl ?_
    refine jj_iload d_Mo_work_386 rfl ?_
    refine jj_iload d_Mo_work_388 rfl ?_
    obtain ⟨x16, e16, h⟩ := jj_b1o h
    refine jj_callVv (as := [.int l1, .int l10, .int l9]) (c_Mo_push (d := d + 3) h_l0 e16) d_Mo_work_390 ck_Mo_166 (sh_Mo h_l0).2 (sh_Mo h_l0).1 ⟨_, rfl, rfl⟩ rfl rfl (Nat.le_of_ble_eq_true rfl) ?_
    refine jj_goto (tgt := 416) d_Mo_work_393 rfl ?_
    cases h
    exact jj_return d_Mo_work_416 rfl ⟨rfl, rfl⟩
  rw [if_neg c14] at h
  by_cases c17 : l3 = 132
  · rw [if_pos c17] at h
    refine jj_lookup (tgt := 303) d_Mo_work_179 rfl (by rw [c17] <;> rfl) rfl ?_
    refine jj_aload_n d_Mo_work_303 rfl ?_
    refine jj_getR d_Mo_work_304 fk_Mo_19 (sh_Mo h_l0).2 (sh_Mo h_l0).1 rfl ?_
    refine jj_iload d_Mo_work_307 rfl ?_
    refine jj_aload_n d_Mo_work_309 rfl ?_
    refine jj_getR d_Mo_work_310 fk_Mo_19 (sh_Mo h_l0).2 (sh_Mo h_l0).1 rfl ?_
    refine jj_iload d_Mo_work_313 rfl ?_
    obtain ⟨i18, h⟩ := jj_gt h
    refine jj_iaload d_Mo_work_315 rfl (ar_Mo_placeValue h_l0).1 (ar_Mo_placeValue h_l0).2 (jj_inn i18) rfl ?_
    refine jj_aload_n d_Mo_work_316 rfl ?_
    refine jj_getR d_Mo_work_317 fk_Mo_13 (sh_Mo h_l0).2 (sh_Mo h_l0).1 rfl ?_
    refine jj_iload d_Mo_work_320 rfl ?_
    refine jj_iconst d_Mo_work_322 jc_i_1 ?_
    refine jj_iadd d_Mo_work_323 ?_
    obtain ⟨i19, h⟩ := jj_gt h
    refine jj_iaload d_Mo_work_324 rfl (ar_Mo_kept h_l0).1 (ar_Mo_kept h_l0).2 (jj_inn i19) rfl ?_
    obtain ⟨r20, x20, e20, h⟩ := jj_b2o h
    refine jj_callSi (as := [.int ((jj_set x2 (l0 + 7) (Int32.toNatClampNeg l1) ((x (l0 + 7) (Int32.toNatClampNeg l1)) - r2)) (l0 + 2) (Int32.toNatClampNeg (l6 + 1)))]) (c_Mo_small (d := d + 3)  e20) d_Mo_work_325 ck_Mo_240 rfl rfl (Nat.le_of_ble_eq_true rfl) ?_
    refine jj_iadd d_Mo_work_328 ?_
    obtain ⟨i21, h⟩ := jj_gt h
    refine jj_iastore d_Mo_work_329 rfl (ar_Mo_placeValue h_l0).1 (ar_Mo_placeValue h_l0).2 (jj_inn i21) ?_
    refine jj_goto (tgt := 416) d_Mo_work_330 rfl ?_
    cases h
    exact jj_return d_Mo_work_416 rfl ⟨rfl, rfl⟩
  rw [if_neg c17] at h
  refine jj_lookup (tgt := 396) d_Mo_work_179 rfl ((lv_osw c4 (by decide)).trans ((lv_osw c5 (by decide)).trans ((lv_osw c6 (by decide)).trans ((lv_osw c7 (by decide)).trans ((lv_osw c8 (by decide)).trans ((lv_osw c10 (by decide)).trans ((lv_osw c11 (by decide)).trans ((lv_osw c14 (by decide)).trans ((lv_osw c17 (by decide)).trans (rfl)))))))))) rfl ?_
  refine jj_aload_n d_Mo_work_396 rfl ?_
  refine jj_iload_n d_Mo_work_397 rfl ?_
  refine jj_iload_n d_Mo_work_398 rfl ?_
  obtain ⟨r22, e22, h⟩ := jj_b1o h
  refine jj_callSi (as := [.int l3]) (c_Mo_puts (d := d + 3)  e22) d_Mo_work_399 ck_Mo_151 rfl rfl (Nat.le_of_ble_eq_true rfl) ?_
  refine jj_aload_n d_Mo_work_402 rfl ?_
  refine jj_iload_n d_Mo_work_403 rfl ?_
  refine jj_iload d_Mo_work_404 rfl ?_
  refine jj_iload d_Mo_work_406 rfl ?_
  refine jj_iload d_Mo_work_408 rfl ?_
  obtain ⟨r23, x23, e23, h⟩ := jj_b2o h
  refine jj_callVi (as := [.int l3, .int l6, .int l9, .int l7]) (c_Mo_value (d := d + 2) h_l0 e23) d_Mo_work_410 ck_Mo_243 (sh_Mo h_l0).2 (sh_Mo h_l0).1 ⟨_, rfl, rfl⟩ rfl rfl (Nat.le_of_ble_eq_true rfl) ?_
  obtain ⟨x24, e24, h⟩ := jj_b1o h
  refine jj_callVv (as := [.int l1, .int r22, .int r23]) (c_Mo_push (d := d + 3) h_l0 e24) d_Mo_work_413 ck_Mo_166 (sh_Mo h_l0).2 (sh_Mo h_l0).1 ⟨_, rfl, rfl⟩ rfl rfl (Nat.le_of_ble_eq_true rfl) ?_
  cases h
  exact jj_return d_Mo_work_416 rfl ⟨rfl, rfl⟩
def k_Mo_work_133 (l0 : Nat) (l1 : Int32) (l2 : Int32) (l3 : Int32) (l4 : Int32) (l5 : Int32) (l6 : Int32) (l7 : Int32) (l8 : Int32) (l9 : Int32) (s0 : Int32) (x : jj_Mem) : Option (jj_Mem) :=
  if jj_inb l1 4 = true then (if (x (l0 + 7) (Int32.toNatClampNeg l1)) ≤ 2 then k_Mo_work_158 l0 l1 l2 l3 l5 l6 l7 l8 l9 s0 0 x else if jj_inb (l4 - 2) 24 = true then k_Mo_work_158 l0 l1 l2 l3 l5 l6 l7 l8 l9 s0 (x (l0 + 6) (Int32.toNatClampNeg (l4 - 2))) x else none) else none
set_option maxHeartbeats 2000000 in
theorem t_Mo_work_133 {X : jj_X} {d : Nat} {l0 : Nat} {l1 : Int32} {l2 : Int32} {l3 : Int32} {l4 : Int32} {l5 : Int32} {l6 : Int32} {l7 : Int32} {l8 : Int32} {l9 : Int32} {s0 : Int32} (h_l0 : o_Mo l0) {x : jj_Mem} {q : jj_Mem} (h : k_Mo_work_133 l0 l1 l2 l3 l4 l5 l6 l7 l8 l9 s0 x = some q) : jj_J Y0 X (d + 4) m_Mo_work 133 [some (.ref l0), some (.int l1), some (.int l2), some (.int l3), some (.int l4), some (.int l5), some (.int l6), some (.int l7), some (.int l8), some (.int l9), none, none] [.int s0] x (jp_v q) := by
  unfold k_Mo_work_133 at h
  refine jj_istore (lo' := [_, _, _, _, _, _, _, _, _, _, _, _]) d_Mo_work_133 rfl (by decide) rfl ?_
  refine jj_aload_n d_Mo_work_135 rfl ?_
  refine jj_getR d_Mo_work_136 fk_Mo_28 (sh_Mo h_l0).2 (sh_Mo h_l0).1 rfl ?_
  refine jj_iload_n d_Mo_work_139 rfl ?_
  obtain ⟨i1, h⟩ := jj_gt h
  refine jj_iaload d_Mo_work_140 rfl (ar_Mo_height h_l0).1 (ar_Mo_height h_l0).2 (jj_inn i1) rfl ?_
  refine jj_iconst d_Mo_work_141 jc_i_2 ?_
  refine jj_ic_le (tgt := 157) d_Mo_work_142 rfl (fun c2 => ?_) (fun c2 => ?_)
  · rw [if_pos c2] at h
    refine jj_iconst d_Mo_work_157 jc_i_0 ?_
    exact jj_J.sub (t_Mo_work_158 h_l0 h) (fun i v hi => jj_mask_ok [true, true, true, true, false, true, true, true, true, true, true, false] hi)
  · rw [if_neg c2] at h
    refine jj_aload_n d_Mo_work_145 rfl ?_
    refine jj_getR d_Mo_work_146 fk_Mo_25 (sh_Mo h_l0).2 (sh_Mo h_l0).1 rfl ?_
    refine jj_iload d_Mo_work_149 rfl ?_
    refine jj_iconst d_Mo_work_151 jc_i_2 ?_
    refine jj_isub d_Mo_work_152 ?_
    obtain ⟨i3, h⟩ := jj_gt h
    refine jj_iaload d_Mo_work_153 rfl (ar_Mo_stackValue h_l0).1 (ar_Mo_stackValue h_l0).2 (jj_inn i3) rfl ?_
    refine jj_goto (tgt := 158) d_Mo_work_154 rfl ?_
    exact jj_J.sub (t_Mo_work_158 h_l0 h) (fun i v hi => jj_mask_ok [true, true, true, true, false, true, true, true, true, true, true, false] hi)
def k_Mo_work_108 (l0 : Nat) (l1 : Int32) (l2 : Int32) (l3 : Int32) (l4 : Int32) (l5 : Int32) (l6 : Int32) (l7 : Int32) (l8 : Int32) (s0 : Int32) (x : jj_Mem) : Option (jj_Mem) :=
  if jj_inb l1 4 = true then (if (x (l0 + 7) (Int32.toNatClampNeg l1)) ≤ 1 then k_Mo_work_133 l0 l1 l2 l3 l4 l5 l6 l7 l8 s0 0 x else if jj_inb (l4 - 1) 24 = true then k_Mo_work_133 l0 l1 l2 l3 l4 l5 l6 l7 l8 s0 (x (l0 + 5) (Int32.toNatClampNeg (l4 - 1))) x else none) else none
set_option maxHeartbeats 2000000 in
theorem t_Mo_work_108 {X : jj_X} {d : Nat} {l0 : Nat} {l1 : Int32} {l2 : Int32} {l3 : Int32} {l4 : Int32} {l5 : Int32} {l6 : Int32} {l7 : Int32} {l8 : Int32} {s0 : Int32} (h_l0 : o_Mo l0) {x : jj_Mem} {q : jj_Mem} (h : k_Mo_work_108 l0 l1 l2 l3 l4 l5 l6 l7 l8 s0 x = some q) : jj_J Y0 X (d + 4) m_Mo_work 108 [some (.ref l0), some (.int l1), some (.int l2), some (.int l3), some (.int l4), some (.int l5), some (.int l6), some (.int l7), some (.int l8), none, none, none] [.int s0] x (jp_v q) := by
  unfold k_Mo_work_108 at h
  refine jj_istore (lo' := [_, _, _, _, _, _, _, _, _, _, _, _]) d_Mo_work_108 rfl (by decide) rfl ?_
  refine jj_aload_n d_Mo_work_110 rfl ?_
  refine jj_getR d_Mo_work_111 fk_Mo_28 (sh_Mo h_l0).2 (sh_Mo h_l0).1 rfl ?_
  refine jj_iload_n d_Mo_work_114 rfl ?_
  obtain ⟨i1, h⟩ := jj_gt h
  refine jj_iaload d_Mo_work_115 rfl (ar_Mo_height h_l0).1 (ar_Mo_height h_l0).2 (jj_inn i1) rfl ?_
  refine jj_iconst d_Mo_work_116 jc_i_1 ?_
  refine jj_ic_le (tgt := 132) d_Mo_work_117 rfl (fun c2 => ?_) (fun c2 => ?_)
  · rw [if_pos c2] at h
    refine jj_iconst d_Mo_work_132 jc_i_0 ?_
    exact jj_J.sub (t_Mo_work_133 h_l0 h) (fun i v hi => jj_mask_ok [true, true, true, true, true, true, true, true, true, true, false, false] hi)
  · rw [if_neg c2] at h
    refine jj_aload_n d_Mo_work_120 rfl ?_
    refine jj_getR d_Mo_work_121 fk_Mo_22 (sh_Mo h_l0).2 (sh_Mo h_l0).1 rfl ?_
    refine jj_iload d_Mo_work_124 rfl ?_
    refine jj_iconst d_Mo_work_126 jc_i_1 ?_
    refine jj_isub d_Mo_work_127 ?_
    obtain ⟨i3, h⟩ := jj_gt h
    refine jj_iaload d_Mo_work_128 rfl (ar_Mo_stackKind h_l0).1 (ar_Mo_stackKind h_l0).2 (jj_inn i3) rfl ?_
    refine jj_goto (tgt := 133) d_Mo_work_129 rfl ?_
    exact jj_J.sub (t_Mo_work_133 h_l0 h) (fun i v hi => jj_mask_ok [true, true, true, true, true, true, true, true, true, true, false, false] hi)
def k_Mo_work_83 (l0 : Nat) (l1 : Int32) (l2 : Int32) (l3 : Int32) (l4 : Int32) (l5 : Int32) (l6 : Int32) (l7 : Int32) (s0 : Int32) (x : jj_Mem) : Option (jj_Mem) :=
  if jj_inb l1 4 = true then (if (x (l0 + 7) (Int32.toNatClampNeg l1)) ≤ 1 then k_Mo_work_108 l0 l1 l2 l3 l4 l5 l6 l7 s0 0 x else if jj_inb (l4 - 1) 24 = true then k_Mo_work_108 l0 l1 l2 l3 l4 l5 l6 l7 s0 (x (l0 + 6) (Int32.toNatClampNeg (l4 - 1))) x else none) else none
set_option maxHeartbeats 2000000 in
theorem t_Mo_work_83 {X : jj_X} {d : Nat} {l0 : Nat} {l1 : Int32} {l2 : Int32} {l3 : Int32} {l4 : Int32} {l5 : Int32} {l6 : Int32} {l7 : Int32} {s0 : Int32} (h_l0 : o_Mo l0) {x : jj_Mem} {q : jj_Mem} (h : k_Mo_work_83 l0 l1 l2 l3 l4 l5 l6 l7 s0 x = some q) : jj_J Y0 X (d + 4) m_Mo_work 83 [some (.ref l0), some (.int l1), some (.int l2), some (.int l3), some (.int l4), some (.int l5), some (.int l6), some (.int l7), none, none, none, none] [.int s0] x (jp_v q) := by
  unfold k_Mo_work_83 at h
  refine jj_istore (lo' := [_, _, _, _, _, _, _, _, _, _, _, _]) d_Mo_work_83 rfl (by decide) rfl ?_
  refine jj_aload_n d_Mo_work_85 rfl ?_
  refine jj_getR d_Mo_work_86 fk_Mo_28 (sh_Mo h_l0).2 (sh_Mo h_l0).1 rfl ?_
  refine jj_iload_n d_Mo_work_89 rfl ?_
  obtain ⟨i1, h⟩ := jj_gt h
  refine jj_iaload d_Mo_work_90 rfl (ar_Mo_height h_l0).1 (ar_Mo_height h_l0).2 (jj_inn i1) rfl ?_
  refine jj_iconst d_Mo_work_91 jc_i_1 ?_
  refine jj_ic_le (tgt := 107) d_Mo_work_92 rfl (fun c2 => ?_) (fun c2 => ?_)
  · rw [if_pos c2] at h
    refine jj_iconst d_Mo_work_107 jc_i_0 ?_
    exact jj_J.sub (t_Mo_work_108 h_l0 h) (fun i v hi => jj_mask_ok [true, true, true, true, true, true, true, true, true, false, false, false] hi)
  · rw [if_neg c2] at h
    refine jj_aload_n d_Mo_work_95 rfl ?_
    refine jj_getR d_Mo_work_96 fk_Mo_25 (sh_Mo h_l0).2 (sh_Mo h_l0).1 rfl ?_
    refine jj_iload d_Mo_work_99 rfl ?_
    refine jj_iconst d_Mo_work_101 jc_i_1 ?_
    refine jj_isub d_Mo_work_102 ?_
    obtain ⟨i3, h⟩ := jj_gt h
    refine jj_iaload d_Mo_work_103 rfl (ar_Mo_stackValue h_l0).1 (ar_Mo_stackValue h_l0).2 (jj_inn i3) rfl ?_
    refine jj_goto (tgt := 108) d_Mo_work_104 rfl ?_
    exact jj_J.sub (t_Mo_work_108 h_l0 h) (fun i v hi => jj_mask_ok [true, true, true, true, true, true, true, true, true, false, false, false] hi)
def k_Mo_work_61 (l0 : Nat) (l1 : Int32) (l2 : Int32) (l3 : Int32) (l4 : Int32) (l5 : Int32) (l6 : Int32) (s0 : Int32) (x : jj_Mem) : Option (jj_Mem) :=
  if jj_inb l1 4 = true then (if (x (l0 + 7) (Int32.toNatClampNeg l1)) ≤ 0 then k_Mo_work_83 l0 l1 l2 l3 l4 l5 l6 s0 0 x else if jj_inb l4 24 = true then k_Mo_work_83 l0 l1 l2 l3 l4 l5 l6 s0 (x (l0 + 5) (Int32.toNatClampNeg l4)) x else none) else none
set_option maxHeartbeats 2000000 in
theorem t_Mo_work_61 {X : jj_X} {d : Nat} {l0 : Nat} {l1 : Int32} {l2 : Int32} {l3 : Int32} {l4 : Int32} {l5 : Int32} {l6 : Int32} {s0 : Int32} (h_l0 : o_Mo l0) {x : jj_Mem} {q : jj_Mem} (h : k_Mo_work_61 l0 l1 l2 l3 l4 l5 l6 s0 x = some q) : jj_J Y0 X (d + 4) m_Mo_work 61 [some (.ref l0), some (.int l1), some (.int l2), some (.int l3), some (.int l4), some (.int l5), some (.int l6), none, none, none, none, none] [.int s0] x (jp_v q) := by
  unfold k_Mo_work_61 at h
  refine jj_istore (lo' := [_, _, _, _, _, _, _, _, _, _, _, _]) d_Mo_work_61 rfl (by decide) rfl ?_
  refine jj_aload_n d_Mo_work_63 rfl ?_
  refine jj_getR d_Mo_work_64 fk_Mo_28 (sh_Mo h_l0).2 (sh_Mo h_l0).1 rfl ?_
  refine jj_iload_n d_Mo_work_67 rfl ?_
  obtain ⟨i1, h⟩ := jj_gt h
  refine jj_iaload d_Mo_work_68 rfl (ar_Mo_height h_l0).1 (ar_Mo_height h_l0).2 (jj_inn i1) rfl ?_
  refine jj_if_le (tgt := 82) d_Mo_work_69 rfl (fun c2 => ?_) (fun c2 => ?_)
  · rw [if_pos c2] at h
    refine jj_iconst d_Mo_work_82 jc_i_0 ?_
    exact jj_J.sub (t_Mo_work_83 h_l0 h) (fun i v hi => jj_mask_ok [true, true, true, true, true, true, true, true, false, false, false, false] hi)
  · rw [if_neg c2] at h
    refine jj_aload_n d_Mo_work_72 rfl ?_
    refine jj_getR d_Mo_work_73 fk_Mo_22 (sh_Mo h_l0).2 (sh_Mo h_l0).1 rfl ?_
    refine jj_iload d_Mo_work_76 rfl ?_
    obtain ⟨i3, h⟩ := jj_gt h
    refine jj_iaload d_Mo_work_78 rfl (ar_Mo_stackKind h_l0).1 (ar_Mo_stackKind h_l0).2 (jj_inn i3) rfl ?_
    refine jj_goto (tgt := 83) d_Mo_work_79 rfl ?_
    exact jj_J.sub (t_Mo_work_83 h_l0 h) (fun i v hi => jj_mask_ok [true, true, true, true, true, true, true, true, false, false, false, false] hi)
def k_Mo_work_28 (l0 : Nat) (l1 : Int32) (l2 : Int32) (l3 : Int32) (l4 : Int32) (s0 : Int32) (s1 : Int32) (x : jj_Mem) : Option (jj_Mem) :=
  if jj_inb l1 4 = true then (if (x (l0 + 7) (Int32.toNatClampNeg l1)) ≤ 0 then k_Mo_work_61 l0 l1 l2 l3 l4 (s0 + s1) (((x l0 13) + l2) + 1) 0 x else if jj_inb l4 24 = true then k_Mo_work_61 l0 l1 l2 l3 l4 (s0 + s1) (((x l0 13) + l2) + 1) (x (l0 + 6) (Int32.toNatClampNeg l4)) x else none) else none
set_option maxHeartbeats 2000000 in
theorem t_Mo_work_28 {X : jj_X} {d : Nat} {l0 : Nat} {l1 : Int32} {l2 : Int32} {l3 : Int32} {l4 : Int32} {s0 : Int32} {s1 : Int32} (h_l0 : o_Mo l0) {x : jj_Mem} {q : jj_Mem} (h : k_Mo_work_28 l0 l1 l2 l3 l4 s0 s1 x = some q) : jj_J Y0 X (d + 4) m_Mo_work 28 [some (.ref l0), some (.int l1), some (.int l2), some (.int l3), some (.int l4), none, none, none, none, none, none, none] [.int s1, .int s0] x (jp_v q) := by
  unfold k_Mo_work_28 at h
  refine jj_iadd d_Mo_work_28 ?_
  refine jj_istore (lo' := [_, _, _, _, _, _, _, _, _, _, _, _]) d_Mo_work_29 rfl (by decide) rfl ?_
  refine jj_aload_n d_Mo_work_31 rfl ?_
  refine jj_getI d_Mo_work_32 fk_Mo_139 (sh_Mo h_l0).2 (sh_Mo h_l0).1 rfl rfl ?_
  refine jj_iload_n d_Mo_work_35 rfl ?_
  refine jj_iadd d_Mo_work_36 ?_
  refine jj_iconst d_Mo_work_37 jc_i_1 ?_
  refine jj_iadd d_Mo_work_38 ?_
  refine jj_istore (lo' := [_, _, _, _, _, _, _, _, _, _, _, _]) d_Mo_work_39 rfl (by decide) rfl ?_
  refine jj_aload_n d_Mo_work_41 rfl ?_
  refine jj_getR d_Mo_work_42 fk_Mo_28 (sh_Mo h_l0).2 (sh_Mo h_l0).1 rfl ?_
  refine jj_iload_n d_Mo_work_45 rfl ?_
  obtain ⟨i1, h⟩ := jj_gt h
  refine jj_iaload d_Mo_work_46 rfl (ar_Mo_height h_l0).1 (ar_Mo_height h_l0).2 (jj_inn i1) rfl ?_
  refine jj_if_le (tgt := 60) d_Mo_work_47 rfl (fun c2 => ?_) (fun c2 => ?_)
  · rw [if_pos c2] at h
    refine jj_iconst d_Mo_work_60 jc_i_0 ?_
    exact jj_J.sub (t_Mo_work_61 h_l0 h) (fun i v hi => jj_mask_ok [true, true, true, true, true, true, true, false, false, false, false, false] hi)
  · rw [if_neg c2] at h
    refine jj_aload_n d_Mo_work_50 rfl ?_
    refine jj_getR d_Mo_work_51 fk_Mo_25 (sh_Mo h_l0).2 (sh_Mo h_l0).1 rfl ?_
    refine jj_iload d_Mo_work_54 rfl ?_
    obtain ⟨i3, h⟩ := jj_gt h
    refine jj_iaload d_Mo_work_56 rfl (ar_Mo_stackValue h_l0).1 (ar_Mo_stackValue h_l0).2 (jj_inn i3) rfl ?_
    refine jj_goto (tgt := 61) d_Mo_work_57 rfl ?_
    exact jj_J.sub (t_Mo_work_61 h_l0 h) (fun i v hi => jj_mask_ok [true, true, true, true, true, true, true, false, false, false, false, false] hi)
def f_Mo_work (this : Nat) (a1 : Int32) (a2 : Int32) (a3 : Int32) (a4 : Int32) (x : jj_Mem) : Option (jj_Mem) :=
  jj_b1 (s_Mo_names a3) (fun r1 => (if r1 = 0 then k_Mo_work_28 this a1 a2 a3 a4 (6 * a1) 0 x else if jj_inb (((x this 13) + a2) + 1) 240 = true then k_Mo_work_28 this a1 a2 a3 a4 (6 * a1) (x (this + 2) (Int32.toNatClampNeg (((x this 13) + a2) + 1))) x else none))
set_option maxHeartbeats 2000000 in
theorem t_Mo_work_0 {X : jj_X} {d : Nat} {this : Nat} {a1 : Int32} {a2 : Int32} {a3 : Int32} {a4 : Int32} (h_this : o_Mo this) {x : jj_Mem} {q : jj_Mem} (h : f_Mo_work this a1 a2 a3 a4 x = some q) : jj_J Y0 X (d + 4) m_Mo_work 0 [some (.ref this), some (.int a1), some (.int a2), some (.int a3), some (.int a4), none, none, none, none, none, none, none] [] x (jp_v q) := by
  unfold f_Mo_work at h
  refine jj_bipush d_Mo_work_0 jc_b_6 ?_
  refine jj_iload_n d_Mo_work_2 rfl ?_
  refine jj_imul d_Mo_work_3 ?_
  refine jj_iload_n d_Mo_work_4 rfl ?_
  obtain ⟨r1, e1, h⟩ := jj_b1o h
  refine jj_callSi (as := [.int a3]) (c_Mo_names (d := d + 3)  e1) d_Mo_work_5 ck_Mo_55 rfl rfl (Nat.le_of_ble_eq_true rfl) ?_
  refine jj_if_eq (tgt := 27) d_Mo_work_8 rfl (fun c2 => ?_) (fun c2 => ?_)
  · rw [if_pos c2] at h
    refine jj_iconst d_Mo_work_27 jc_i_0 ?_
    exact jj_J.sub (t_Mo_work_28 h_this h) (fun i v hi => jj_mask_ok [true, true, true, true, true, false, false, false, false, false, false, false] hi)
  · rw [if_neg c2] at h
    refine jj_aload_n d_Mo_work_11 rfl ?_
    refine jj_getR d_Mo_work_12 fk_Mo_13 (sh_Mo h_this).2 (sh_Mo h_this).1 rfl ?_
    refine jj_aload_n d_Mo_work_15 rfl ?_
    refine jj_getI d_Mo_work_16 fk_Mo_139 (sh_Mo h_this).2 (sh_Mo h_this).1 rfl rfl ?_
    refine jj_iload_n d_Mo_work_19 rfl ?_
    refine jj_iadd d_Mo_work_20 ?_
    refine jj_iconst d_Mo_work_21 jc_i_1 ?_
    refine jj_iadd d_Mo_work_22 ?_
    obtain ⟨i3, h⟩ := jj_gt h
    refine jj_iaload d_Mo_work_23 rfl (ar_Mo_kept h_this).1 (ar_Mo_kept h_this).2 (jj_inn i3) rfl ?_
    refine jj_goto (tgt := 28) d_Mo_work_24 rfl ?_
    exact jj_J.sub (t_Mo_work_28 h_this h) (fun i v hi => jj_mask_ok [true, true, true, true, true, false, false, false, false, false, false, false] hi)
theorem c_Mo_work {X : jj_X} {d : Nat} {this : Nat} {a1 : Int32} {a2 : Int32} {a3 : Int32} {a4 : Int32} (h_this : o_Mo this) {x : jj_Mem} {q : jj_Mem} (h : f_Mo_work this a1 a2 a3 a4 x = some q) : jj_Met Y0 X (d + 4) m_Mo_work [.ref this, .int a1, .int a2, .int a3, .int a4] x (jp_v q) :=
  jj_metp 7 (lo := [some (.ref this), some (.int a1), some (.int a2), some (.int a3), some (.int a4), none, none, none, none, none, none, none]) rfl (Nat.le_of_ble_eq_true rfl) rfl (t_Mo_work_0 h_this h)
def k_Mo_arrive_35 (rec : Nat → List (Option Value) → jj_Mem → Option (jj_Mem)) (l0 : Nat) (l1 : Int32) (l3 : Int32) (x : jj_Mem) : Option (jj_Mem) :=
  (if l1 ≤ l3 then some x else jj_b1 (f_Mo_pass l0 l3 x) (fun x2 => if jj_inb ((x2 l0 13) + l3) 240 = true then jj_b1 (s_Mo_bytes (x2 (l0 + 2) (Int32.toNatClampNeg ((x2 l0 13) + l3)))) (fun r4 => rec 35 [some (.ref l0), some (.int l1), none, some (.int (l3 + r4))] x2) else none))
set_option maxHeartbeats 2000000 in
theorem t_Mo_arrive_35 {X : jj_X} {d : Nat} (rec : Nat → List (Option Value) → jj_Mem → Option (jj_Mem)) (hrec : ∀ (L : Nat) (lo : List (Option Value)) (x : jj_Mem) (q : jj_Mem), rec L lo x = some q → jj_J Y0 X (d + 5) m_Mo_arrive L lo [] x (jp_v q)) {l0 : Nat} {l1 : Int32} {l3 : Int32} (h_l0 : o_Mo l0) {x : jj_Mem} {q : jj_Mem} (h : k_Mo_arrive_35 rec l0 l1 l3 x = some q) : jj_J Y0 X (d + 5) m_Mo_arrive 35 [some (.ref l0), some (.int l1), none, some (.int l3)] [] x (jp_v q) := by
  unfold k_Mo_arrive_35 at h
  refine jj_iload_n d_Mo_arrive_35 rfl ?_
  refine jj_iload_n d_Mo_arrive_36 rfl ?_
  refine jj_ic_ge (tgt := 65) d_Mo_arrive_37 rfl (fun c1 => ?_) (fun c1 => ?_)
  · rw [if_pos c1] at h
    cases h
    exact jj_return d_Mo_arrive_65 rfl ⟨rfl, rfl⟩
  · rw [if_neg c1] at h
    refine jj_aload_n d_Mo_arrive_40 rfl ?_
    refine jj_iload_n d_Mo_arrive_41 rfl ?_
    obtain ⟨x2, e2, h⟩ := jj_b1o h
    refine jj_callVv (as := [.int l3]) (c_Mo_pass (d := d + 0) h_l0 e2) d_Mo_arrive_42 ck_Mo_180 (sh_Mo h_l0).2 (sh_Mo h_l0).1 ⟨_, rfl, rfl⟩ rfl rfl (Nat.le_of_ble_eq_true rfl) ?_
    refine jj_iload_n d_Mo_arrive_45 rfl ?_
    refine jj_aload_n d_Mo_arrive_46 rfl ?_
    refine jj_getR d_Mo_arrive_47 fk_Mo_13 (sh_Mo h_l0).2 (sh_Mo h_l0).1 rfl ?_
    refine jj_aload_n d_Mo_arrive_50 rfl ?_
    refine jj_getI d_Mo_arrive_51 fk_Mo_139 (sh_Mo h_l0).2 (sh_Mo h_l0).1 rfl rfl ?_
    refine jj_iload_n d_Mo_arrive_54 rfl ?_
    refine jj_iadd d_Mo_arrive_55 ?_
    obtain ⟨i3, h⟩ := jj_gt h
    refine jj_iaload d_Mo_arrive_56 rfl (ar_Mo_kept h_l0).1 (ar_Mo_kept h_l0).2 (jj_inn i3) rfl ?_
    obtain ⟨r4, e4, h⟩ := jj_b1o h
    refine jj_callSi (as := [.int (x2 (l0 + 2) (Int32.toNatClampNeg ((x2 l0 13) + l3)))]) (c_Mo_bytes (d := d + 2)  e4) d_Mo_arrive_57 ck_Mo_75 rfl rfl (Nat.le_of_ble_eq_true rfl) ?_
    refine jj_iadd d_Mo_arrive_60 ?_
    refine jj_istore_n (lo' := [_, _, _, _]) d_Mo_arrive_61 rfl (by decide) rfl ?_
    refine jj_goto (tgt := 35) d_Mo_arrive_62 rfl ?_
    exact jj_J.sub (hrec _ _ _ _ h) (fun i v hi => jj_mask_ok [true, true, false, true] hi)
def g_Mo_arrive : Nat → Nat → List (Option Value) → jj_Mem → Option (jj_Mem)
  | 0, _, _, _ => none
  | f + 1, L, lo, x => match L, lo with
    | 35, [some (.ref l0), some (.int l1), none, some (.int l3)] => if (bo_Mo l0) = true then k_Mo_arrive_35 (g_Mo_arrive f) l0 l1 l3 x else none
    | _, _ => none
set_option maxHeartbeats 2000000 in
theorem t_Mo_arrive_g {X : jj_X} {d : Nat} : ∀ (f L : Nat) (lo : List (Option Value)) (x : jj_Mem) (q : jj_Mem), g_Mo_arrive f L lo x = some q → jj_J Y0 X (d + 5) m_Mo_arrive L lo [] x (jp_v q) := by
  intro f
  induction f with
  | zero => intro L lo x q h; simp [g_Mo_arrive] at h
  | succ f ih =>
    intro L lo x q h
    unfold g_Mo_arrive at h
    split at h
    · obtain ⟨i1, h⟩ := jj_gt h
      exact t_Mo_arrive_35 _ ih (ob_Mo i1) h
    · cases h
def k_Mo_arrive_0 (rec : Nat → List (Option Value) → jj_Mem → Option (jj_Mem)) (this : Nat) (a1 : Int32) (x : jj_Mem) : Option (jj_Mem) :=
  jj_b1 (f_Mo_begin this 0 x) (fun x1 => jj_b2 (f_Mo_frame this a1 1 (jj_set x1 this 22 1)) (fun r2 x2 => (if r2 < 0 then rec 35 [some (.ref this), some (.int a1), none, some (.int 0)] x2 else jj_b1 (f_Mo_become this r2 x2) (fun x4 => if jj_inb r2 240 = true then rec 35 [some (.ref this), some (.int a1), none, some (.int (x4 (this + 2) (Int32.toNatClampNeg r2)))] x4 else none))))
set_option maxHeartbeats 2000000 in
theorem t_Mo_arrive_0 {X : jj_X} {d : Nat} (rec : Nat → List (Option Value) → jj_Mem → Option (jj_Mem)) (hrec : ∀ (L : Nat) (lo : List (Option Value)) (x : jj_Mem) (q : jj_Mem), rec L lo x = some q → jj_J Y0 X (d + 5) m_Mo_arrive L lo [] x (jp_v q)) {this : Nat} {a1 : Int32} (h_this : o_Mo this) {x : jj_Mem} {q : jj_Mem} (h : k_Mo_arrive_0 rec this a1 x = some q) : jj_J Y0 X (d + 5) m_Mo_arrive 0 [some (.ref this), some (.int a1), none, none] [] x (jp_v q) := by
  unfold k_Mo_arrive_0 at h
  refine jj_aload_n d_Mo_arrive_0 rfl ?_
  refine jj_iconst d_Mo_arrive_1 jc_i_0 ?_
  obtain ⟨x1, e1, h⟩ := jj_b1o h
  refine jj_callVv (as := [.int 0]) (c_Mo_begin (d := d + 4) h_this e1) d_Mo_arrive_2 ck_Mo_169 (sh_Mo h_this).2 (sh_Mo h_this).1 ⟨_, rfl, rfl⟩ rfl rfl (Nat.le_of_ble_eq_true rfl) ?_
  refine jj_aload_n d_Mo_arrive_5 rfl ?_
  refine jj_iconst d_Mo_arrive_6 jc_i_1 ?_
  refine jj_putZ d_Mo_arrive_7 pk_Mo_163 (sh_Mo h_this).2 (sh_Mo h_this).1 rfl (Or.inr rfl) ?_
  refine jj_aload_n d_Mo_arrive_10 rfl ?_
  refine jj_iload_n d_Mo_arrive_11 rfl ?_
  refine jj_iconst d_Mo_arrive_12 jc_i_1 ?_
  obtain ⟨r2, x2, e2, h⟩ := jj_b2o h
  refine jj_callVi (as := [.int a1, .int 1]) (c_Mo_frame (d := d + 4) h_this e2) d_Mo_arrive_13 ck_Mo_173 (sh_Mo h_this).2 (sh_Mo h_this).1 ⟨_, rfl, rfl⟩ rfl rfl (Nat.le_of_ble_eq_true rfl) ?_
  refine jj_istore_n (lo' := [_, _, _, _]) d_Mo_arrive_16 rfl (by decide) rfl ?_
  refine jj_iconst d_Mo_arrive_17 jc_i_0 ?_
  refine jj_istore_n (lo' := [_, _, _, _]) d_Mo_arrive_18 rfl (by decide) rfl ?_
  refine jj_iload_n d_Mo_arrive_19 rfl ?_
  refine jj_if_lt (tgt := 35) d_Mo_arrive_20 rfl (fun c3 => ?_) (fun c3 => ?_)
  · rw [if_pos c3] at h
    exact jj_J.sub (hrec _ _ _ _ h) (fun i v hi => jj_mask_ok [true, true, false, true] hi)
  · rw [if_neg c3] at h
    refine jj_aload_n d_Mo_arrive_23 rfl ?_
    refine jj_iload_n d_Mo_arrive_24 rfl ?_
    obtain ⟨x4, e4, h⟩ := jj_b1o h
    refine jj_callVv (as := [.int r2]) (c_Mo_become (d := d + 4) h_this e4) d_Mo_arrive_25 ck_Mo_177 (sh_Mo h_this).2 (sh_Mo h_this).1 ⟨_, rfl, rfl⟩ rfl rfl (Nat.le_of_ble_eq_true rfl) ?_
    refine jj_aload_n d_Mo_arrive_28 rfl ?_
    refine jj_getR d_Mo_arrive_29 fk_Mo_13 (sh_Mo h_this).2 (sh_Mo h_this).1 rfl ?_
    refine jj_iload_n d_Mo_arrive_32 rfl ?_
    obtain ⟨i5, h⟩ := jj_gt h
    refine jj_iaload d_Mo_arrive_33 rfl (ar_Mo_kept h_this).1 (ar_Mo_kept h_this).2 (jj_inn i5) rfl ?_
    refine jj_istore_n (lo' := [_, _, _, _]) d_Mo_arrive_34 rfl (by decide) rfl ?_
    exact jj_J.sub (hrec _ _ _ _ h) (fun i v hi => jj_mask_ok [true, true, false, true] hi)
def f_Mo_arrive (this : Nat) (a1 : Int32) (x : jj_Mem) : Option (jj_Mem) := k_Mo_arrive_0 (g_Mo_arrive 1000) this a1 x
theorem c_Mo_arrive {X : jj_X} {d : Nat} {this : Nat} {a1 : Int32} (h_this : o_Mo this) {x : jj_Mem} {q : jj_Mem} (h : f_Mo_arrive this a1 x = some q) : jj_Met Y0 X (d + 5) m_Mo_arrive [.ref this, .int a1] x (jp_v q) :=
  jj_metp 2 (lo := [some (.ref this), some (.int a1), none, none]) rfl (Nat.le_of_ble_eq_true rfl) rfl (t_Mo_arrive_0 _ (t_Mo_arrive_g 1000) h_this h)
def k_Mo_readMethod_228 (rec : Nat → List (Option Value) → jj_Mem → Option (jj_Mem)) (s0 : Nat) (x : jj_Mem) : Option (jj_Mem) :=
  some (jj_set x s0 4 1)
set_option maxHeartbeats 2000000 in
theorem t_Mo_readMethod_228 {X : jj_X} {d : Nat} (rec : Nat → List (Option Value) → jj_Mem → Option (jj_Mem)) (hrec : ∀ (L : Nat) (lo : List (Option Value)) (x : jj_Mem) (q : jj_Mem), rec L lo x = some q → jj_J Y0 X (d + 5) m_Mo_readMethod L lo [] x (jp_v q)) {s0 : Nat} (h_s0 : o_Mo s0) {x : jj_Mem} {q : jj_Mem} (h : k_Mo_readMethod_228 rec s0 x = some q) : jj_J Y0 X (d + 5) m_Mo_readMethod 228 [none, none, none, none, none, none, none, none, none, none, none, none, none, none] [.ref s0] x (jp_v q) := by
  unfold k_Mo_readMethod_228 at h
  refine jj_iconst d_Mo_readMethod_228 jc_i_1 ?_
  refine jj_goto (tgt := 233) d_Mo_readMethod_229 rfl ?_
  refine jj_putZ d_Mo_readMethod_233 pk_Mo_64 (sh_Mo h_s0).2 (sh_Mo h_s0).1 rfl (Or.inr rfl) ?_
  cases h
  exact jj_return d_Mo_readMethod_236 rfl ⟨rfl, rfl⟩
def k_Mo_readMethod_204 (rec : Nat → List (Option Value) → jj_Mem → Option (jj_Mem)) (l0 : Nat) (l7 : Int32) (l8 : Int32) (l11 : Int32) (x : jj_Mem) : Option (jj_Mem) :=
  (if (x l0 4) = 0 then (if l11 = 0 then k_Mo_readMethod_228 rec l0 x else jj_b2 (f_Mo_targetsFit l0 l8 l7 x) (fun r3 x3 => (if r3 = 0 then k_Mo_readMethod_228 rec l0 x3 else some (jj_set x3 l0 4 0)))) else k_Mo_readMethod_228 rec l0 x)
set_option maxHeartbeats 2000000 in
theorem t_Mo_readMethod_204 {X : jj_X} {d : Nat} (rec : Nat → List (Option Value) → jj_Mem → Option (jj_Mem)) (hrec : ∀ (L : Nat) (lo : List (Option Value)) (x : jj_Mem) (q : jj_Mem), rec L lo x = some q → jj_J Y0 X (d + 5) m_Mo_readMethod L lo [] x (jp_v q)) {l0 : Nat} {l7 : Int32} {l8 : Int32} {l11 : Int32} (h_l0 : o_Mo l0) {x : jj_Mem} {q : jj_Mem} (h : k_Mo_readMethod_204 rec l0 l7 l8 l11 x = some q) : jj_J Y0 X (d + 5) m_Mo_readMethod 204 [some (.ref l0), none, none, none, none, none, none, some (.int l7), some (.int l8), none, none, some (.int l11), none, none] [] x (jp_v q) := by
  unfold k_Mo_readMethod_204 at h
  refine jj_aload_n d_Mo_readMethod_204 rfl ?_
  refine jj_aload_n d_Mo_readMethod_205 rfl ?_
  refine jj_getI d_Mo_readMethod_206 fk_Mo_64 (sh_Mo h_l0).2 (sh_Mo h_l0).1 rfl rfl ?_
  refine jj_if_ne (tgt := 228) d_Mo_readMethod_209 rfl (fun c1 => ?_) (fun c1 => ?_)
  · rw [if_neg c1] at h
    exact jj_J.sub (t_Mo_readMethod_228 rec hrec h_l0 h) (fun i v hi => jj_mask_ok [false, false, false, false, false, false, false, false, false, false, false, false, false, false] hi)
  · rw [if_pos c1] at h
    refine jj_iload d_Mo_readMethod_212 rfl ?_
    refine jj_if_eq (tgt := 228) d_Mo_readMethod_214 rfl (fun c2 => ?_) (fun c2 => ?_)
    · rw [if_pos c2] at h
      exact jj_J.sub (t_Mo_readMethod_228 rec hrec h_l0 h) (fun i v hi => jj_mask_ok [false, false, false, false, false, false, false, false, false, false, false, false, false, false] hi)
    · rw [if_neg c2] at h
      refine jj_aload_n d_Mo_readMethod_217 rfl ?_
      refine jj_iload d_Mo_readMethod_218 rfl ?_
      refine jj_iload d_Mo_readMethod_220 rfl ?_
      obtain ⟨r3, x3, e3, h⟩ := jj_b2o h
      refine jj_callVi (as := [.int l8, .int l7]) (c_Mo_targetsFit (d := d + 0) h_l0 e3) d_Mo_readMethod_222 ck_Mo_94 (sh_Mo h_l0).2 (sh_Mo h_l0).1 ⟨_, rfl, rfl⟩ rfl rfl (Nat.le_of_ble_eq_true rfl) ?_
      refine jj_if_ne (tgt := 232) d_Mo_readMethod_225 rfl (fun c4 => ?_) (fun c4 => ?_)
      · rw [if_neg c4] at h
        refine jj_iconst d_Mo_readMethod_232 jc_i_0 ?_
        refine jj_putZ d_Mo_readMethod_233 pk_Mo_64 (sh_Mo h_l0).2 (sh_Mo h_l0).1 rfl (Or.inl rfl) ?_
        cases h
        exact jj_return d_Mo_readMethod_236 rfl ⟨rfl, rfl⟩
      · rw [if_pos c4] at h
        exact jj_J.sub (t_Mo_readMethod_228 rec hrec h_l0 h) (fun i v hi => jj_mask_ok [false, false, false, false, false, false, false, false, false, false, false, false, false, false] hi)
def k_Mo_readMethod_171 (rec : Nat → List (Option Value) → jj_Mem → Option (jj_Mem)) (l0 : Nat) (l5 : Int32) (l6 : Int32) (l7 : Int32) (l8 : Int32) (l9 : Int32) (l10 : Int32) (l12 : Int32) (s0 : Int32) (x : jj_Mem) : Option (jj_Mem) :=
  jj_b1 (f_Mo_skip l0 l6 0 3 x) (fun x1 => jj_b2 (f_Mo_next l0 0 l5 x1) (fun r2 x2 => jj_b1 (f_Mo_skip l0 r2 1 3 x2) (fun x3 => rec 113 [some (.ref l0), none, none, none, none, some (.int l5), some (.int l6), some (.int l7), some (.int l8), some (.int l9), some (.int l10), some (.int s0), some (.int (l12 + 1)), none] x3)))
set_option maxHeartbeats 2000000 in
theorem t_Mo_readMethod_171 {X : jj_X} {d : Nat} (rec : Nat → List (Option Value) → jj_Mem → Option (jj_Mem)) (hrec : ∀ (L : Nat) (lo : List (Option Value)) (x : jj_Mem) (q : jj_Mem), rec L lo x = some q → jj_J Y0 X (d + 5) m_Mo_readMethod L lo [] x (jp_v q)) {l0 : Nat} {l5 : Int32} {l6 : Int32} {l7 : Int32} {l8 : Int32} {l9 : Int32} {l10 : Int32} {l12 : Int32} {s0 : Int32} (h_l0 : o_Mo l0) {x : jj_Mem} {q : jj_Mem} (h : k_Mo_readMethod_171 rec l0 l5 l6 l7 l8 l9 l10 l12 s0 x = some q) : jj_J Y0 X (d + 5) m_Mo_readMethod 171 [some (.ref l0), none, none, none, none, some (.int l5), some (.int l6), some (.int l7), some (.int l8), some (.int l9), some (.int l10), none, some (.int l12), none] [.int s0] x (jp_v q) := by
  unfold k_Mo_readMethod_171 at h
  refine jj_istore (lo' := [_, _, _, _, _, _, _, _, _, _, _, _, _, _]) d_Mo_readMethod_171 rfl (by decide) rfl ?_
  refine jj_aload_n d_Mo_readMethod_173 rfl ?_
  refine jj_iload d_Mo_readMethod_174 rfl ?_
  refine jj_iconst d_Mo_readMethod_176 jc_i_0 ?_
  refine jj_iconst d_Mo_readMethod_177 jc_i_3 ?_
  obtain ⟨x1, e1, h⟩ := jj_b1o h
  refine jj_callVv (as := [.int l6, .int 0, .int 3]) (c_Mo_skip (d := d + 2) h_l0 e1) d_Mo_readMethod_178 ck_Mo_79 (sh_Mo h_l0).2 (sh_Mo h_l0).1 ⟨_, rfl, rfl⟩ rfl rfl (Nat.le_of_ble_eq_true rfl) ?_
  refine jj_aload_n d_Mo_readMethod_181 rfl ?_
  refine jj_iconst d_Mo_readMethod_182 jc_i_0 ?_
  refine jj_iload d_Mo_readMethod_183 rfl ?_
  obtain ⟨r2, x2, e2, h⟩ := jj_b2o h
  refine jj_callVi (as := [.int 0, .int l5]) (c_Mo_next (d := d + 3) h_l0 e2) d_Mo_readMethod_185 ck_Mo_71 (sh_Mo h_l0).2 (sh_Mo h_l0).1 ⟨_, rfl, rfl⟩ rfl rfl (Nat.le_of_ble_eq_true rfl) ?_
  refine jj_istore (lo' := [_, _, _, _, _, _, _, _, _, _, _, _, _, _]) d_Mo_readMethod_188 rfl (by decide) rfl ?_
  refine jj_aload_n d_Mo_readMethod_190 rfl ?_
  refine jj_iload d_Mo_readMethod_191 rfl ?_
  refine jj_iconst d_Mo_readMethod_193 jc_i_1 ?_
  refine jj_iconst d_Mo_readMethod_194 jc_i_3 ?_
  obtain ⟨x3, e3, h⟩ := jj_b1o h
  refine jj_callVv (as := [.int r2, .int 1, .int 3]) (c_Mo_skip (d := d + 2) h_l0 e3) d_Mo_readMethod_195 ck_Mo_79 (sh_Mo h_l0).2 (sh_Mo h_l0).1 ⟨_, rfl, rfl⟩ rfl rfl (Nat.le_of_ble_eq_true rfl) ?_
  refine jj_iinc (lo' := [_, _, _, _, _, _, _, _, _, _, _, _, _, _]) (v := (l12 + 1)) d_Mo_readMethod_198 rfl (jc_a_1 _) rfl (by decide) rfl ?_
  refine jj_goto (tgt := 113) d_Mo_readMethod_201 rfl ?_
  exact jj_J.sub (hrec _ _ _ _ h) (fun i v hi => jj_mask_ok [true, false, false, false, false, true, true, true, true, true, true, true, true, false] hi)
def k_Mo_readMethod_170 (rec : Nat → List (Option Value) → jj_Mem → Option (jj_Mem)) (l0 : Nat) (l5 : Int32) (l6 : Int32) (l7 : Int32) (l8 : Int32) (l9 : Int32) (l10 : Int32) (l12 : Int32) (x : jj_Mem) : Option (jj_Mem) :=
  k_Mo_readMethod_171 rec l0 l5 l6 l7 l8 l9 l10 l12 0 x
set_option maxHeartbeats 2000000 in
theorem t_Mo_readMethod_170 {X : jj_X} {d : Nat} (rec : Nat → List (Option Value) → jj_Mem → Option (jj_Mem)) (hrec : ∀ (L : Nat) (lo : List (Option Value)) (x : jj_Mem) (q : jj_Mem), rec L lo x = some q → jj_J Y0 X (d + 5) m_Mo_readMethod L lo [] x (jp_v q)) {l0 : Nat} {l5 : Int32} {l6 : Int32} {l7 : Int32} {l8 : Int32} {l9 : Int32} {l10 : Int32} {l12 : Int32} (h_l0 : o_Mo l0) {x : jj_Mem} {q : jj_Mem} (h : k_Mo_readMethod_170 rec l0 l5 l6 l7 l8 l9 l10 l12 x = some q) : jj_J Y0 X (d + 5) m_Mo_readMethod 170 [some (.ref l0), none, none, none, none, some (.int l5), some (.int l6), some (.int l7), some (.int l8), some (.int l9), some (.int l10), none, some (.int l12), none] [] x (jp_v q) := by
  unfold k_Mo_readMethod_170 at h
  refine jj_iconst d_Mo_readMethod_170 jc_i_0 ?_
  exact jj_J.sub (t_Mo_readMethod_171 rec hrec h_l0 h) (fun i v hi => jj_mask_ok [true, false, false, false, false, true, true, true, true, true, true, false, true, false] hi)
def k_Mo_readMethod_166 (rec : Nat → List (Option Value) → jj_Mem → Option (jj_Mem)) (l0 : Nat) (l5 : Int32) (l6 : Int32) (l7 : Int32) (l8 : Int32) (l9 : Int32) (l10 : Int32) (l12 : Int32) (x : jj_Mem) : Option (jj_Mem) :=
  k_Mo_readMethod_171 rec l0 l5 l6 l7 l8 l9 l10 l12 1 x
set_option maxHeartbeats 2000000 in
theorem t_Mo_readMethod_166 {X : jj_X} {d : Nat} (rec : Nat → List (Option Value) → jj_Mem → Option (jj_Mem)) (hrec : ∀ (L : Nat) (lo : List (Option Value)) (x : jj_Mem) (q : jj_Mem), rec L lo x = some q → jj_J Y0 X (d + 5) m_Mo_readMethod L lo [] x (jp_v q)) {l0 : Nat} {l5 : Int32} {l6 : Int32} {l7 : Int32} {l8 : Int32} {l9 : Int32} {l10 : Int32} {l12 : Int32} (h_l0 : o_Mo l0) {x : jj_Mem} {q : jj_Mem} (h : k_Mo_readMethod_166 rec l0 l5 l6 l7 l8 l9 l10 l12 x = some q) : jj_J Y0 X (d + 5) m_Mo_readMethod 166 [some (.ref l0), none, none, none, none, some (.int l5), some (.int l6), some (.int l7), some (.int l8), some (.int l9), some (.int l10), none, some (.int l12), none] [] x (jp_v q) := by
  unfold k_Mo_readMethod_166 at h
  refine jj_iconst d_Mo_readMethod_166 jc_i_1 ?_
  refine jj_goto (tgt := 171) d_Mo_readMethod_167 rfl ?_
  exact jj_J.sub (t_Mo_readMethod_171 rec hrec h_l0 h) (fun i v hi => jj_mask_ok [true, false, false, false, false, true, true, true, true, true, true, false, true, false] hi)
def k_Mo_readMethod_95 (rec : Nat → List (Option Value) → jj_Mem → Option (jj_Mem)) (l0 : Nat) (l5 : Int32) (l6 : Int32) (l7 : Int32) (l8 : Int32) (x : jj_Mem) : Option (jj_Mem) :=
  jj_b2 (f_Mo_next l0 0 8 x) (fun r1 x1 => rec 113 [some (.ref l0), none, none, none, none, some (.int l5), some (.int l6), some (.int l7), some (.int l8), some (.int r1), some (.int (-1)), some (.int 1), some (.int 0), none] x1)
set_option maxHeartbeats 2000000 in
theorem t_Mo_readMethod_95 {X : jj_X} {d : Nat} (rec : Nat → List (Option Value) → jj_Mem → Option (jj_Mem)) (hrec : ∀ (L : Nat) (lo : List (Option Value)) (x : jj_Mem) (q : jj_Mem), rec L lo x = some q → jj_J Y0 X (d + 5) m_Mo_readMethod L lo [] x (jp_v q)) {l0 : Nat} {l5 : Int32} {l6 : Int32} {l7 : Int32} {l8 : Int32} (h_l0 : o_Mo l0) {x : jj_Mem} {q : jj_Mem} (h : k_Mo_readMethod_95 rec l0 l5 l6 l7 l8 x = some q) : jj_J Y0 X (d + 5) m_Mo_readMethod 95 [some (.ref l0), none, none, none, none, some (.int l5), some (.int l6), some (.int l7), some (.int l8), none, none, none, none, none] [] x (jp_v q) := by
  unfold k_Mo_readMethod_95 at h
  refine jj_aload_n d_Mo_readMethod_95 rfl ?_
  refine jj_iconst d_Mo_readMethod_96 jc_i_0 ?_
  refine jj_bipush d_Mo_readMethod_97 jc_b_8 ?_
  obtain ⟨r1, x1, e1, h⟩ := jj_b2o h
  refine jj_callVi (as := [.int 0, .int 8]) (c_Mo_next (d := d + 3) h_l0 e1) d_Mo_readMethod_99 ck_Mo_71 (sh_Mo h_l0).2 (sh_Mo h_l0).1 ⟨_, rfl, rfl⟩ rfl rfl (Nat.le_of_ble_eq_true rfl) ?_
  refine jj_istore (lo' := [_, _, _, _, _, _, _, _, _, _, _, _, _, _]) d_Mo_readMethod_102 rfl (by decide) rfl ?_
  refine jj_iconst d_Mo_readMethod_104 jc_i_m1 ?_
  refine jj_istore (lo' := [_, _, _, _, _, _, _, _, _, _, _, _, _, _]) d_Mo_readMethod_105 rfl (by decide) rfl ?_
  refine jj_iconst d_Mo_readMethod_107 jc_i_1 ?_
  refine jj_istore (lo' := [_, _, _, _, _, _, _, _, _, _, _, _, _, _]) d_Mo_readMethod_108 rfl (by decide) rfl ?_
  refine jj_iconst d_Mo_readMethod_110 jc_i_0 ?_
  refine jj_istore (lo' := [_, _, _, _, _, _, _, _, _, _, _, _, _, _]) d_Mo_readMethod_111 rfl (by decide) rfl ?_
  exact jj_J.sub (hrec _ _ _ _ h) (fun i v hi => jj_mask_ok [true, false, false, false, false, true, true, true, true, true, true, true, true, false] hi)
def k_Mo_readMethod_113 (rec : Nat → List (Option Value) → jj_Mem → Option (jj_Mem)) (l0 : Nat) (l5 : Int32) (l6 : Int32) (l7 : Int32) (l8 : Int32) (l9 : Int32) (l10 : Int32) (l11 : Int32) (l12 : Int32) (x : jj_Mem) : Option (jj_Mem) :=
  (if l9 ≤ l12 then k_Mo_readMethod_204 rec l0 l7 l8 l11 x else (if (x l0 4) = 0 then jj_b2 (f_Mo_next l0 (l10 + 1) (l7 - 1) x) (fun r3 x3 => (if l11 = 0 then k_Mo_readMethod_170 rec l0 l5 l6 l7 l8 l9 r3 l12 x3 else (if (x3 l0 4) = 0 then jj_b2 (f_Mo_begins l0 l8 l7 r3 x3) (fun r6 x6 => (if r6 = 0 then k_Mo_readMethod_170 rec l0 l5 l6 l7 l8 l9 r3 l12 x6 else k_Mo_readMethod_166 rec l0 l5 l6 l7 l8 l9 r3 l12 x6)) else k_Mo_readMethod_166 rec l0 l5 l6 l7 l8 l9 r3 l12 x3))) else k_Mo_readMethod_204 rec l0 l7 l8 l11 x))
set_option maxHeartbeats 2000000 in
theorem t_Mo_readMethod_113 {X : jj_X} {d : Nat} (rec : Nat → List (Option Value) → jj_Mem → Option (jj_Mem)) (hrec : ∀ (L : Nat) (lo : List (Option Value)) (x : jj_Mem) (q : jj_Mem), rec L lo x = some q → jj_J Y0 X (d + 5) m_Mo_readMethod L lo [] x (jp_v q)) {l0 : Nat} {l5 : Int32} {l6 : Int32} {l7 : Int32} {l8 : Int32} {l9 : Int32} {l10 : Int32} {l11 : Int32} {l12 : Int32} (h_l0 : o_Mo l0) {x : jj_Mem} {q : jj_Mem} (h : k_Mo_readMethod_113 rec l0 l5 l6 l7 l8 l9 l10 l11 l12 x = some q) : jj_J Y0 X (d + 5) m_Mo_readMethod 113 [some (.ref l0), none, none, none, none, some (.int l5), some (.int l6), some (.int l7), some (.int l8), some (.int l9), some (.int l10), some (.int l11), some (.int l12), none] [] x (jp_v q) := by
  unfold k_Mo_readMethod_113 at h
  refine jj_iload d_Mo_readMethod_113 rfl ?_
  refine jj_iload d_Mo_readMethod_115 rfl ?_
  refine jj_ic_ge (tgt := 204) d_Mo_readMethod_117 rfl (fun c1 => ?_) (fun c1 => ?_)
  · rw [if_pos c1] at h
    exact jj_J.sub (t_Mo_readMethod_204 rec hrec h_l0 h) (fun i v hi => jj_mask_ok [true, false, false, false, false, false, false, true, true, false, false, true, false, false] hi)
  · rw [if_neg c1] at h
    refine jj_aload_n d_Mo_readMethod_120 rfl ?_
    refine jj_getI d_Mo_readMethod_121 fk_Mo_64 (sh_Mo h_l0).2 (sh_Mo h_l0).1 rfl rfl ?_
    refine jj_if_ne (tgt := 204) d_Mo_readMethod_124 rfl (fun c2 => ?_) (fun c2 => ?_)
    · rw [if_neg c2] at h
      exact jj_J.sub (t_Mo_readMethod_204 rec hrec h_l0 h) (fun i v hi => jj_mask_ok [true, false, false, false, false, false, false, true, true, false, false, true, false, false] hi)
    · rw [if_pos c2] at h
      refine jj_aload_n d_Mo_readMethod_127 rfl ?_
      refine jj_iload d_Mo_readMethod_128 rfl ?_
      refine jj_iconst d_Mo_readMethod_130 jc_i_1 ?_
      refine jj_iadd d_Mo_readMethod_131 ?_
      refine jj_iload d_Mo_readMethod_132 rfl ?_
      refine jj_iconst d_Mo_readMethod_134 jc_i_1 ?_
      refine jj_isub d_Mo_readMethod_135 ?_
      obtain ⟨r3, x3, e3, h⟩ := jj_b2o h
      refine jj_callVi (as := [.int (l10 + 1), .int (l7 - 1)]) (c_Mo_next (d := d + 3) h_l0 e3) d_Mo_readMethod_136 ck_Mo_71 (sh_Mo h_l0).2 (sh_Mo h_l0).1 ⟨_, rfl, rfl⟩ rfl rfl (Nat.le_of_ble_eq_true rfl) ?_
      refine jj_istore (lo' := [_, _, _, _, _, _, _, _, _, _, _, _, _, _]) d_Mo_readMethod_139 rfl (by decide) rfl ?_
      refine jj_iload d_Mo_readMethod_141 rfl ?_
      refine jj_if_eq (tgt := 170) d_Mo_readMethod_143 rfl (fun c4 => ?_) (fun c4 => ?_)
      · rw [if_pos c4] at h
        exact jj_J.sub (t_Mo_readMethod_170 rec hrec h_l0 h) (fun i v hi => jj_mask_ok [true, false, false, false, false, true, true, true, true, true, true, false, true, false] hi)
      · rw [if_neg c4] at h
        refine jj_aload_n d_Mo_readMethod_146 rfl ?_
        refine jj_getI d_Mo_readMethod_147 fk_Mo_64 (sh_Mo h_l0).2 (sh_Mo h_l0).1 rfl rfl ?_
        refine jj_if_ne (tgt := 166) d_Mo_readMethod_150 rfl (fun c5 => ?_) (fun c5 => ?_)
        · rw [if_neg c5] at h
          exact jj_J.sub (t_Mo_readMethod_166 rec hrec h_l0 h) (fun i v hi => jj_mask_ok [true, false, false, false, false, true, true, true, true, true, true, false, true, false] hi)
        · rw [if_pos c5] at h
          refine jj_aload_n d_Mo_readMethod_153 rfl ?_
          refine jj_iload d_Mo_readMethod_154 rfl ?_
          refine jj_iload d_Mo_readMethod_156 rfl ?_
          refine jj_iload d_Mo_readMethod_158 rfl ?_
          obtain ⟨r6, x6, e6, h⟩ := jj_b2o h
          refine jj_callVi (as := [.int l8, .int l7, .int r3]) (c_Mo_begins (d := d + 1) h_l0 e6) d_Mo_readMethod_160 ck_Mo_87 (sh_Mo h_l0).2 (sh_Mo h_l0).1 ⟨_, rfl, rfl⟩ rfl rfl (Nat.le_of_ble_eq_true rfl) ?_
          refine jj_if_eq (tgt := 170) d_Mo_readMethod_163 rfl (fun c7 => ?_) (fun c7 => ?_)
          · rw [if_pos c7] at h
            exact jj_J.sub (t_Mo_readMethod_170 rec hrec h_l0 h) (fun i v hi => jj_mask_ok [true, false, false, false, false, true, true, true, true, true, true, false, true, false] hi)
          · rw [if_neg c7] at h
            exact jj_J.sub (t_Mo_readMethod_166 rec hrec h_l0 h) (fun i v hi => jj_mask_ok [true, false, false, false, false, true, true, true, true, true, true, false, true, false] hi)
def k_Mo_readMethod_55 (rec : Nat → List (Option Value) → jj_Mem → Option (jj_Mem)) (l0 : Nat) (l1 : Int32) (l2 : Int32) (l4 : Int32) (l5 : Int32) (l6 : Int32) (l7 : Int32) (l8 : Int32) (x : jj_Mem) : Option (jj_Mem) :=
  (if (x l0 4) = 0 then (if l4 < 0 then k_Mo_readMethod_95 rec l0 l5 l6 l7 l8 x else (if (l8 + l7) ≤ (x l0 3) then k_Mo_readMethod_95 rec l0 l5 l6 l7 l8 x else jj_b1 (f_Mo_readInstruction l0 (l8 + l7) l1 l2 l6 x) (fun x4 => rec 55 [some (.ref l0), some (.int l1), some (.int l2), none, some (.int l4), some (.int l5), some (.int l6), some (.int l7), some (.int l8), none, none, none, none, none] x4))) else k_Mo_readMethod_95 rec l0 l5 l6 l7 l8 x)
set_option maxHeartbeats 2000000 in
theorem t_Mo_readMethod_55 {X : jj_X} {d : Nat} (rec : Nat → List (Option Value) → jj_Mem → Option (jj_Mem)) (hrec : ∀ (L : Nat) (lo : List (Option Value)) (x : jj_Mem) (q : jj_Mem), rec L lo x = some q → jj_J Y0 X (d + 5) m_Mo_readMethod L lo [] x (jp_v q)) {l0 : Nat} {l1 : Int32} {l2 : Int32} {l4 : Int32} {l5 : Int32} {l6 : Int32} {l7 : Int32} {l8 : Int32} (h_l0 : o_Mo l0) {x : jj_Mem} {q : jj_Mem} (h : k_Mo_readMethod_55 rec l0 l1 l2 l4 l5 l6 l7 l8 x = some q) : jj_J Y0 X (d + 5) m_Mo_readMethod 55 [some (.ref l0), some (.int l1), some (.int l2), none, some (.int l4), some (.int l5), some (.int l6), some (.int l7), some (.int l8), none, none, none, none, none] [] x (jp_v q) := by
  unfold k_Mo_readMethod_55 at h
  refine jj_aload_n d_Mo_readMethod_55 rfl ?_
  refine jj_getI d_Mo_readMethod_56 fk_Mo_64 (sh_Mo h_l0).2 (sh_Mo h_l0).1 rfl rfl ?_
  refine jj_if_ne (tgt := 95) d_Mo_readMethod_59 rfl (fun c1 => ?_) (fun c1 => ?_)
  · rw [if_neg c1] at h
    exact jj_J.sub (t_Mo_readMethod_95 rec hrec h_l0 h) (fun i v hi => jj_mask_ok [true, false, false, false, false, true, true, true, true, false, false, false, false, false] hi)
  · rw [if_pos c1] at h
    refine jj_iload d_Mo_readMethod_62 rfl ?_
    refine jj_if_lt (tgt := 95) d_Mo_readMethod_64 rfl (fun c2 => ?_) (fun c2 => ?_)
    · rw [if_pos c2] at h
      exact jj_J.sub (t_Mo_readMethod_95 rec hrec h_l0 h) (fun i v hi => jj_mask_ok [true, false, false, false, false, true, true, true, true, false, false, false, false, false] hi)
    · rw [if_neg c2] at h
      refine jj_aload_n d_Mo_readMethod_67 rfl ?_
      refine jj_getI d_Mo_readMethod_68 fk_Mo_68 (sh_Mo h_l0).2 (sh_Mo h_l0).1 rfl rfl ?_
      refine jj_iload d_Mo_readMethod_71 rfl ?_
      refine jj_iload d_Mo_readMethod_73 rfl ?_
      refine jj_iadd d_Mo_readMethod_75 ?_
      refine jj_ic_ge (tgt := 95) d_Mo_readMethod_76 rfl (fun c3 => ?_) (fun c3 => ?_)
      · rw [if_pos c3] at h
        exact jj_J.sub (t_Mo_readMethod_95 rec hrec h_l0 h) (fun i v hi => jj_mask_ok [true, false, false, false, false, true, true, true, true, false, false, false, false, false] hi)
      · rw [if_neg c3] at h
        refine jj_aload_n d_Mo_readMethod_79 rfl ?_
        refine jj_iload d_Mo_readMethod_80 rfl ?_
        refine jj_iload d_Mo_readMethod_82 rfl ?_
        refine jj_iadd d_Mo_readMethod_84 ?_
        refine jj_iload_n d_Mo_readMethod_85 rfl ?_
        refine jj_iload_n d_Mo_readMethod_86 rfl ?_
        refine jj_iload d_Mo_readMethod_87 rfl ?_
        obtain ⟨x4, e4, h⟩ := jj_b1o h
        refine jj_callVv (as := [.int (l8 + l7), .int l1, .int l2, .int l6]) (c_Mo_readInstruction (d := d + 1) h_l0 e4) d_Mo_readMethod_89 ck_Mo_90 (sh_Mo h_l0).2 (sh_Mo h_l0).1 ⟨_, rfl, rfl⟩ rfl rfl (Nat.le_of_ble_eq_true rfl) ?_
        refine jj_goto (tgt := 55) d_Mo_readMethod_92 rfl ?_
        exact jj_J.sub (hrec _ _ _ _ h) (fun i v hi => jj_mask_ok [true, true, true, false, true, true, true, true, true, false, false, false, false, false] hi)
def g_Mo_readMethod : Nat → Nat → List (Option Value) → jj_Mem → Option (jj_Mem)
  | 0, _, _, _ => none
  | f + 1, L, lo, x => match L, lo with
    | 55, [some (.ref l0), some (.int l1), some (.int l2), none, some (.int l4), some (.int l5), some (.int l6), some (.int l7), some (.int l8), none, none, none, none, none] => if (bo_Mo l0) = true then k_Mo_readMethod_55 (g_Mo_readMethod f) l0 l1 l2 l4 l5 l6 l7 l8 x else none
    | 113, [some (.ref l0), none, none, none, none, some (.int l5), some (.int l6), some (.int l7), some (.int l8), some (.int l9), some (.int l10), some (.int l11), some (.int l12), none] => if (bo_Mo l0) = true then k_Mo_readMethod_113 (g_Mo_readMethod f) l0 l5 l6 l7 l8 l9 l10 l11 l12 x else none
    | _, _ => none
set_option maxHeartbeats 2000000 in
theorem t_Mo_readMethod_g {X : jj_X} {d : Nat} : ∀ (f L : Nat) (lo : List (Option Value)) (x : jj_Mem) (q : jj_Mem), g_Mo_readMethod f L lo x = some q → jj_J Y0 X (d + 5) m_Mo_readMethod L lo [] x (jp_v q) := by
  intro f
  induction f with
  | zero => intro L lo x q h; simp [g_Mo_readMethod] at h
  | succ f ih =>
    intro L lo x q h
    unfold g_Mo_readMethod at h
    split at h
    · obtain ⟨i1, h⟩ := jj_gt h
      exact t_Mo_readMethod_55 _ ih (ob_Mo i1) h
    · obtain ⟨i1, h⟩ := jj_gt h
      exact t_Mo_readMethod_113 _ ih (ob_Mo i1) h
    · cases h
def k_Mo_readMethod_0 (rec : Nat → List (Option Value) → jj_Mem → Option (jj_Mem)) (this : Nat) (a1 : Int32) (a2 : Int32) (x : jj_Mem) : Option (jj_Mem) :=
  jj_b2 (f_Mo_next this 0 3 x) (fun r1 x1 => jj_b1 (f_Mo_skip this r1 1 2 x1) (fun x2 => jj_b2 (f_Mo_next this 0 2 x2) (fun r3 x3 => jj_b2 (f_Mo_next this 0 6 x3) (fun r4 x4 => jj_b2 (f_Mo_next this r1 6 x4) (fun r5 x5 => jj_b2 (f_Mo_next this 1 60 x5) (fun r6 x6 => rec 55 [some (.ref this), some (.int a1), some (.int a2), none, some (.int r3), some (.int r4), some (.int r5), some (.int r6), some (.int (x6 this 3)), none, none, none, none, none] x6))))))
set_option maxHeartbeats 2000000 in
theorem t_Mo_readMethod_0 {X : jj_X} {d : Nat} (rec : Nat → List (Option Value) → jj_Mem → Option (jj_Mem)) (hrec : ∀ (L : Nat) (lo : List (Option Value)) (x : jj_Mem) (q : jj_Mem), rec L lo x = some q → jj_J Y0 X (d + 5) m_Mo_readMethod L lo [] x (jp_v q)) {this : Nat} {a1 : Int32} {a2 : Int32} (h_this : o_Mo this) {x : jj_Mem} {q : jj_Mem} (h : k_Mo_readMethod_0 rec this a1 a2 x = some q) : jj_J Y0 X (d + 5) m_Mo_readMethod 0 [some (.ref this), some (.int a1), some (.int a2), none, none, none, none, none, none, none, none, none, none, none] [] x (jp_v q) := by
  unfold k_Mo_readMethod_0 at h
  refine jj_aload_n d_Mo_readMethod_0 rfl ?_
  refine jj_iconst d_Mo_readMethod_1 jc_i_0 ?_
  refine jj_iconst d_Mo_readMethod_2 jc_i_3 ?_
  obtain ⟨r1, x1, e1, h⟩ := jj_b2o h
  refine jj_callVi (as := [.int 0, .int 3]) (c_Mo_next (d := d + 3) h_this e1) d_Mo_readMethod_3 ck_Mo_71 (sh_Mo h_this).2 (sh_Mo h_this).1 ⟨_, rfl, rfl⟩ rfl rfl (Nat.le_of_ble_eq_true rfl) ?_
  refine jj_istore_n (lo' := [_, _, _, _, _, _, _, _, _, _, _, _, _, _]) d_Mo_readMethod_6 rfl (by decide) rfl ?_
  refine jj_aload_n d_Mo_readMethod_7 rfl ?_
  refine jj_iload_n d_Mo_readMethod_8 rfl ?_
  refine jj_iconst d_Mo_readMethod_9 jc_i_1 ?_
  refine jj_iconst d_Mo_readMethod_10 jc_i_2 ?_
  obtain ⟨x2, e2, h⟩ := jj_b1o h
  refine jj_callVv (as := [.int r1, .int 1, .int 2]) (c_Mo_skip (d := d + 2) h_this e2) d_Mo_readMethod_11 ck_Mo_79 (sh_Mo h_this).2 (sh_Mo h_this).1 ⟨_, rfl, rfl⟩ rfl rfl (Nat.le_of_ble_eq_true rfl) ?_
  refine jj_aload_n d_Mo_readMethod_14 rfl ?_
  refine jj_iconst d_Mo_readMethod_15 jc_i_0 ?_
  refine jj_iconst d_Mo_readMethod_16 jc_i_2 ?_
  obtain ⟨r3, x3, e3, h⟩ := jj_b2o h
  refine jj_callVi (as := [.int 0, .int 2]) (c_Mo_next (d := d + 3) h_this e3) d_Mo_readMethod_17 ck_Mo_71 (sh_Mo h_this).2 (sh_Mo h_this).1 ⟨_, rfl, rfl⟩ rfl rfl (Nat.le_of_ble_eq_true rfl) ?_
  refine jj_istore (lo' := [_, _, _, _, _, _, _, _, _, _, _, _, _, _]) d_Mo_readMethod_20 rfl (by decide) rfl ?_
  refine jj_aload_n d_Mo_readMethod_22 rfl ?_
  refine jj_iconst d_Mo_readMethod_23 jc_i_0 ?_
  refine jj_bipush d_Mo_readMethod_24 jc_b_6 ?_
  obtain ⟨r4, x4, e4, h⟩ := jj_b2o h
  refine jj_callVi (as := [.int 0, .int 6]) (c_Mo_next (d := d + 3) h_this e4) d_Mo_readMethod_26 ck_Mo_71 (sh_Mo h_this).2 (sh_Mo h_this).1 ⟨_, rfl, rfl⟩ rfl rfl (Nat.le_of_ble_eq_true rfl) ?_
  refine jj_istore (lo' := [_, _, _, _, _, _, _, _, _, _, _, _, _, _]) d_Mo_readMethod_29 rfl (by decide) rfl ?_
  refine jj_aload_n d_Mo_readMethod_31 rfl ?_
  refine jj_iload_n d_Mo_readMethod_32 rfl ?_
  refine jj_bipush d_Mo_readMethod_33 jc_b_6 ?_
  obtain ⟨r5, x5, e5, h⟩ := jj_b2o h
  refine jj_callVi (as := [.int r1, .int 6]) (c_Mo_next (d := d + 3) h_this e5) d_Mo_readMethod_35 ck_Mo_71 (sh_Mo h_this).2 (sh_Mo h_this).1 ⟨_, rfl, rfl⟩ rfl rfl (Nat.le_of_ble_eq_true rfl) ?_
  refine jj_istore (lo' := [_, _, _, _, _, _, _, _, _, _, _, _, _, _]) d_Mo_readMethod_38 rfl (by decide) rfl ?_
  refine jj_aload_n d_Mo_readMethod_40 rfl ?_
  refine jj_iconst d_Mo_readMethod_41 jc_i_1 ?_
  refine jj_bipush d_Mo_readMethod_42 jc_b_60 ?_
  obtain ⟨r6, x6, e6, h⟩ := jj_b2o h
  refine jj_callVi (as := [.int 1, .int 60]) (c_Mo_next (d := d + 3) h_this e6) d_Mo_readMethod_44 ck_Mo_71 (sh_Mo h_this).2 (sh_Mo h_this).1 ⟨_, rfl, rfl⟩ rfl rfl (Nat.le_of_ble_eq_true rfl) ?_
  refine jj_istore (lo' := [_, _, _, _, _, _, _, _, _, _, _, _, _, _]) d_Mo_readMethod_47 rfl (by decide) rfl ?_
  refine jj_aload_n d_Mo_readMethod_49 rfl ?_
  refine jj_getI d_Mo_readMethod_50 fk_Mo_68 (sh_Mo h_this).2 (sh_Mo h_this).1 rfl rfl ?_
  refine jj_istore (lo' := [_, _, _, _, _, _, _, _, _, _, _, _, _, _]) d_Mo_readMethod_53 rfl (by decide) rfl ?_
  exact jj_J.sub (hrec _ _ _ _ h) (fun i v hi => jj_mask_ok [true, true, true, false, true, true, true, true, true, false, false, false, false, false] hi)
def f_Mo_readMethod (this : Nat) (a1 : Int32) (a2 : Int32) (x : jj_Mem) : Option (jj_Mem) := k_Mo_readMethod_0 (g_Mo_readMethod 1000) this a1 a2 x
theorem c_Mo_readMethod {X : jj_X} {d : Nat} {this : Nat} {a1 : Int32} {a2 : Int32} (h_this : o_Mo this) {x : jj_Mem} {q : jj_Mem} (h : f_Mo_readMethod this a1 a2 x = some q) : jj_Met Y0 X (d + 5) m_Mo_readMethod [.ref this, .int a1, .int a2] x (jp_v q) :=
  jj_metp 11 (lo := [some (.ref this), some (.int a1), some (.int a2), none, none, none, none, none, none, none, none, none, none, none]) rfl (Nat.le_of_ble_eq_true rfl) rfl (t_Mo_readMethod_0 _ (t_Mo_readMethod_g 1000) h_this h)
def k_Mo_step_179 (l0 : Nat) (l1 : Int32) (l2 : Int32) (s0 : Nat) (s1 : Int32) (s2 : Int32) (x : jj_Mem) : Option (Int32 × jj_Mem) :=
  if jj_inb s1 4 = true then if jj_inb l1 4 = true then jj_b2 (f_Mo_takes l0 l2 (jj_set x s0 (Int32.toNatClampNeg s1) s2)) (fun r3 x3 => if jj_inb l1 4 = true then some ((-1), (jj_set x3 (l0 + 7) (Int32.toNatClampNeg l1) (((jj_set x s0 (Int32.toNatClampNeg s1) s2) (l0 + 7) (Int32.toNatClampNeg l1)) - r3))) else none) else none else none
set_option maxHeartbeats 2000000 in
theorem t_Mo_step_179 {X : jj_X} {d : Nat} {l0 : Nat} {l1 : Int32} {l2 : Int32} {s0 : Nat} {s1 : Int32} {s2 : Int32} (h_l0 : o_Mo l0) (h_s0 : oA 0 4 s0) {x : jj_Mem} {q : Int32 × jj_Mem} (h : k_Mo_step_179 l0 l1 l2 s0 s1 s2 x = some q) : jj_J Y0 X (d + 5) m_Mo_step 179 [some (.ref l0), some (.int l1), some (.int l2), none, none, none] [.int s2, .int s1, .ref s0] x (jp_i q) := by
  unfold k_Mo_step_179 at h
  obtain ⟨i1, h⟩ := jj_gt h
  refine jj_iastore d_Mo_step_179 rfl h_s0.1 h_s0.2 (jj_inn i1) ?_
  refine jj_aload_n d_Mo_step_180 rfl ?_
  refine jj_getR d_Mo_step_181 fk_Mo_28 (sh_Mo h_l0).2 (sh_Mo h_l0).1 rfl ?_
  refine jj_iload_n d_Mo_step_184 rfl ?_
  refine jj_aload_n d_Mo_step_185 rfl ?_
  refine jj_getR d_Mo_step_186 fk_Mo_28 (sh_Mo h_l0).2 (sh_Mo h_l0).1 rfl ?_
  refine jj_iload_n d_Mo_step_189 rfl ?_
  obtain ⟨i2, h⟩ := jj_gt h
  refine jj_iaload d_Mo_step_190 rfl (ar_Mo_height h_l0).1 (ar_Mo_height h_l0).2 (jj_inn i2) rfl ?_
  refine jj_aload_n d_Mo_step_191 rfl ?_
  refine jj_iload_n d_Mo_step_192 rfl ?_
  obtain ⟨r3, x3, e3, h⟩ := jj_b2o h
  refine jj_callVi (as := [.int l2]) (c_Mo_takes (d := d + 1) h_l0 e3) d_Mo_step_193 ck_Mo_154 (sh_Mo h_l0).2 (sh_Mo h_l0).1 ⟨_, rfl, rfl⟩ rfl rfl (Nat.le_of_ble_eq_true rfl) ?_
  refine jj_isub d_Mo_step_196 ?_
  obtain ⟨i4, h⟩ := jj_gt h
  refine jj_iastore d_Mo_step_197 rfl (ar_Mo_height h_l0).1 (ar_Mo_height h_l0).2 (jj_inn i4) ?_
  refine jj_iconst d_Mo_step_198 jc_i_m1 ?_
  cases h
  exact jj_ireturn d_Mo_step_199 rfl ⟨rfl, rfl⟩
def f_Mo_step (this : Nat) (x : jj_Mem) : Option (Int32 × jj_Mem) :=
  if jj_inb ((x this 21) - 1) 4 = true then jj_b1 (f_Mo_open this (x (this + 9) (Int32.toNatClampNeg ((x this 21) - 1))) x) (fun x2 => if jj_inb ((x this 21) - 1) 4 = true then (if (x2 this 12) ≤ (x2 (this + 8) (Int32.toNatClampNeg ((x this 21) - 1))) then some (1, x2) else jj_b2 (f_Mo_can this ((x this 21) - 1) (x2 (this + 8) (Int32.toNatClampNeg ((x this 21) - 1))) x2) (fun r5 x5 => (if r5 = 0 then some (1, x5) else if jj_inb ((x5 this 13) + (x2 (this + 8) (Int32.toNatClampNeg ((x this 21) - 1)))) 240 = true then if jj_inb ((x this 21) - 1) 4 = true then jj_b2 (f_Mo_wrong this (x5 (this + 2) (Int32.toNatClampNeg ((x5 this 13) + (x2 (this + 8) (Int32.toNatClampNeg ((x this 21) - 1)))))) (((6 * ((x this 21) - 1)) + (x5 (this + 7) (Int32.toNatClampNeg ((x this 21) - 1)))) - 1) x5) (fun r9 x9 => (if r9 = (-1) then jj_b1 (s_Mo_bytes (x5 (this + 2) (Int32.toNatClampNeg ((x5 this 13) + (x2 (this + 8) (Int32.toNatClampNeg ((x this 21) - 1))))))) (fun r11 => if jj_inb ((x this 21) - 1) 4 = true then (if (x5 (this + 2) (Int32.toNatClampNeg ((x5 this 13) + (x2 (this + 8) (Int32.toNatClampNeg ((x this 21) - 1)))))) = 184 then if jj_inb ((((jj_set x9 (this + 8) (Int32.toNatClampNeg ((x this 21) - 1)) ((x2 (this + 8) (Int32.toNatClampNeg ((x this 21) - 1))) + r11)) this 13) + (x2 (this + 8) (Int32.toNatClampNeg ((x this 21) - 1)))) + 1) 240 = true then jj_b1 (f_Mo_enter this ((x this 21) - 1) ((jj_set x9 (this + 8) (Int32.toNatClampNeg ((x this 21) - 1)) ((x2 (this + 8) (Int32.toNatClampNeg ((x this 21) - 1))) + r11)) (this + 2) (Int32.toNatClampNeg ((((jj_set x9 (this + 8) (Int32.toNatClampNeg ((x this 21) - 1)) ((x2 (this + 8) (Int32.toNatClampNeg ((x this 21) - 1))) + r11)) this 13) + (x2 (this + 8) (Int32.toNatClampNeg ((x this 21) - 1)))) + 1))) (jj_set x9 (this + 8) (Int32.toNatClampNeg ((x this 21) - 1)) ((x2 (this + 8) (Int32.toNatClampNeg ((x this 21) - 1))) + r11))) (fun x25 => some ((-1), x25)) else none else jj_b1 (s_Mo_returns (x5 (this + 2) (Int32.toNatClampNeg ((x5 this 13) + (x2 (this + 8) (Int32.toNatClampNeg ((x this 21) - 1))))))) (fun r14 => (if r14 = 0 then jj_b1 (s_Mo_jumps (x5 (this + 2) (Int32.toNatClampNeg ((x5 this 13) + (x2 (this + 8) (Int32.toNatClampNeg ((x this 21) - 1))))))) (fun r16 => (if r16 = 0 then jj_b1 (f_Mo_work this ((x this 21) - 1) (x2 (this + 8) (Int32.toNatClampNeg ((x this 21) - 1))) (x5 (this + 2) (Int32.toNatClampNeg ((x5 this 13) + (x2 (this + 8) (Int32.toNatClampNeg ((x this 21) - 1)))))) (((6 * ((x this 21) - 1)) + (x5 (this + 7) (Int32.toNatClampNeg ((x this 21) - 1)))) - 1) (jj_set x9 (this + 8) (Int32.toNatClampNeg ((x this 21) - 1)) ((x2 (this + 8) (Int32.toNatClampNeg ((x this 21) - 1))) + r11))) (fun x18 => some ((-1), x18)) else jj_b2 (f_Mo_goes this (x5 (this + 2) (Int32.toNatClampNeg ((x5 this 13) + (x2 (this + 8) (Int32.toNatClampNeg ((x this 21) - 1)))))) (((6 * ((x this 21) - 1)) + (x5 (this + 7) (Int32.toNatClampNeg ((x this 21) - 1)))) - 1) (jj_set x9 (this + 8) (Int32.toNatClampNeg ((x this 21) - 1)) ((x2 (this + 8) (Int32.toNatClampNeg ((x this 21) - 1))) + r11))) (fun r19 x19 => (if r19 = 0 then if jj_inb ((x this 21) - 1) 4 = true then k_Mo_step_179 this ((x this 21) - 1) (x2 (this + 8) (Int32.toNatClampNeg ((x this 21) - 1))) (this + 8) ((x this 21) - 1) (x19 (this + 8) (Int32.toNatClampNeg ((x this 21) - 1))) x19 else none else jj_b2 (f_Mo_target this (x2 (this + 8) (Int32.toNatClampNeg ((x this 21) - 1))) x19) (fun r22 x22 => k_Mo_step_179 this ((x this 21) - 1) (x2 (this + 8) (Int32.toNatClampNeg ((x this 21) - 1))) (this + 8) ((x this 21) - 1) r22 x22))))) else jj_b2 (f_Mo_leave this ((x this 21) - 1) (x5 (this + 2) (Int32.toNatClampNeg ((x5 this 13) + (x2 (this + 8) (Int32.toNatClampNeg ((x this 21) - 1)))))) (((6 * ((x this 21) - 1)) + (x5 (this + 7) (Int32.toNatClampNeg ((x this 21) - 1)))) - 1) (jj_set x9 (this + 8) (Int32.toNatClampNeg ((x this 21) - 1)) ((x2 (this + 8) (Int32.toNatClampNeg ((x this 21) - 1))) + r11))) (fun r23 x23 => some (r23, x23))))) else none) else some (r9, x9))) else none else none))) else none) else none
set_option maxHeartbeats 2000000 in
theorem t_Mo_step_0 {X : jj_X} {d : Nat} {this : Nat} (h_this : o_Mo this) {x : jj_Mem} {q : Int32 × jj_Mem} (h : f_Mo_step this x = some q) : jj_J Y0 X (d + 5) m_Mo_step 0 [some (.ref this), none, none, none, none, none] [] x (jp_i q) := by
  unfold f_Mo_step at h
  refine jj_aload_n d_Mo_step_0 rfl ?_
  refine jj_getI d_Mo_step_1 fk_Mo_210 (sh_Mo h_this).2 (sh_Mo h_this).1 rfl rfl ?_
  refine jj_iconst d_Mo_step_4 jc_i_1 ?_
  refine jj_isub d_Mo_step_5 ?_
  refine jj_istore_n (lo' := [_, _, _, _, _, _]) d_Mo_step_6 rfl (by decide) rfl ?_
  refine jj_aload_n d_Mo_step_7 rfl ?_
  refine jj_aload_n d_Mo_step_8 rfl ?_
  refine jj_getR d_Mo_step_9 fk_Mo_34 (sh_Mo h_this).2 (sh_Mo h_this).1 rfl ?_
  refine jj_iload_n d_Mo_step_12 rfl ?_
  obtain ⟨i1, h⟩ := jj_gt h
  refine jj_iaload d_Mo_step_13 rfl (ar_Mo_which h_this).1 (ar_Mo_which h_this).2 (jj_inn i1) rfl ?_
  obtain ⟨x2, e2, h⟩ := jj_b1o h
  refine jj_callVv (as := [.int (x (this + 9) (Int32.toNatClampNeg ((x this 21) - 1)))]) (c_Mo_open (d := d + 2) h_this e2) d_Mo_step_14 ck_Mo_198 (sh_Mo h_this).2 (sh_Mo h_this).1 ⟨_, rfl, rfl⟩ rfl rfl (Nat.le_of_ble_eq_true rfl) ?_
  refine jj_aload_n d_Mo_step_17 rfl ?_
  refine jj_getR d_Mo_step_18 fk_Mo_31 (sh_Mo h_this).2 (sh_Mo h_this).1 rfl ?_
  refine jj_iload_n d_Mo_step_21 rfl ?_
  obtain ⟨i3, h⟩ := jj_gt h
  refine jj_iaload d_Mo_step_22 rfl (ar_Mo_where h_this).1 (ar_Mo_where h_this).2 (jj_inn i3) rfl ?_
  refine jj_istore_n (lo' := [_, _, _, _, _, _]) d_Mo_step_23 rfl (by decide) rfl ?_
  refine jj_iload_n d_Mo_step_24 rfl ?_
  refine jj_aload_n d_Mo_step_25 rfl ?_
  refine jj_getI d_Mo_step_26 fk_Mo_136 (sh_Mo h_this).2 (sh_Mo h_this).1 rfl rfl ?_
  refine jj_ic_ge (tgt := 41) d_Mo_step_29 rfl (fun c4 => ?_) (fun c4 => ?_)
  · rw [if_pos c4] at h
    refine jj_iconst d_Mo_step_41 jc_i_1 ?_
    cases h
    exact jj_ireturn d_Mo_step_42 rfl ⟨rfl, rfl⟩
  · rw [if_neg c4] at h
    refine jj_aload_n d_Mo_step_32 rfl ?_
    refine jj_iload_n d_Mo_step_33 rfl ?_
    refine jj_iload_n d_Mo_step_34 rfl ?_
    obtain ⟨r5, x5, e5, h⟩ := jj_b2o h
    refine jj_callVi (as := [.int ((x this 21) - 1), .int (x2 (this + 8) (Int32.toNatClampNeg ((x this 21) - 1)))]) (c_Mo_can (d := d + 0) h_this e5) d_Mo_step_35 ck_Mo_189 (sh_Mo h_this).2 (sh_Mo h_this).1 ⟨_, rfl, rfl⟩ rfl rfl (Nat.le_of_ble_eq_true rfl) ?_
    refine jj_if_ne (tgt := 43) d_Mo_step_38 rfl (fun c6 => ?_) (fun c6 => ?_)
    · rw [if_neg c6] at h
      refine jj_aload_n d_Mo_step_43 rfl ?_
      refine jj_getR d_Mo_step_44 fk_Mo_13 (sh_Mo h_this).2 (sh_Mo h_this).1 rfl ?_
      refine jj_aload_n d_Mo_step_47 rfl ?_
      refine jj_getI d_Mo_step_48 fk_Mo_139 (sh_Mo h_this).2 (sh_Mo h_this).1 rfl rfl ?_
      refine jj_iload_n d_Mo_step_51 rfl ?_
      refine jj_iadd d_Mo_step_52 ?_
      obtain ⟨i7, h⟩ := jj_gt h
      refine jj_iaload d_Mo_step_53 rfl (ar_Mo_kept h_this).1 (ar_Mo_kept h_this).2 (jj_inn i7) rfl ?_
      refine jj_istore_n (lo' := [_, _, _, _, _, _]) d_Mo_step_54 rfl (by decide) rfl ?_
      refine jj_bipush d_Mo_step_55 jc_b_6 ?_
      refine jj_iload_n d_Mo_step_57 rfl ?_
      refine jj_imul d_Mo_step_58 ?_
      refine jj_aload_n d_Mo_step_59 rfl ?_
      refine jj_getR d_Mo_step_60 fk_Mo_28 (sh_Mo h_this).2 (sh_Mo h_this).1 rfl ?_
      refine jj_iload_n d_Mo_step_63 rfl ?_
      obtain ⟨i8, h⟩ := jj_gt h
      refine jj_iaload d_Mo_step_64 rfl (ar_Mo_height h_this).1 (ar_Mo_height h_this).2 (jj_inn i8) rfl ?_
      refine jj_iadd d_Mo_step_65 ?_
      refine jj_iconst d_Mo_step_66 jc_i_1 ?_
      refine jj_isub d_Mo_step_67 ?_
      refine jj_istore (lo' := [_, _, _, _, _, _]) d_Mo_step_68 rfl (by decide) rfl ?_
      refine jj_aload_n d_Mo_step_70 rfl ?_
      refine jj_iload_n d_Mo_step_71 rfl ?_
      refine jj_iload d_Mo_step_72 rfl ?_
      obtain ⟨r9, x9, e9, h⟩ := jj_b2o h
      refine jj_callVi (as := [.int (x5 (this + 2) (Int32.toNatClampNeg ((x5 this 13) + (x2 (this + 8) (Int32.toNatClampNeg ((x this 21) - 1)))))), .int (((6 * ((x this 21) - 1)) + (x5 (this + 7) (Int32.toNatClampNeg ((x this 21) - 1)))) - 1)]) (c_Mo_wrong (d := d + 3) h_this e9) d_Mo_step_74 ck_Mo_221 (sh_Mo h_this).2 (sh_Mo h_this).1 ⟨_, rfl, rfl⟩ rfl rfl (Nat.le_of_ble_eq_true rfl) ?_
      refine jj_istore (lo' := [_, _, _, _, _, _]) d_Mo_step_77 rfl (by decide) rfl ?_
      refine jj_iload d_Mo_step_79 rfl ?_
      refine jj_iconst d_Mo_step_81 jc_i_m1 ?_
      refine jj_ic_eq (tgt := 88) d_Mo_step_82 rfl (fun c10 => ?_) (fun c10 => ?_)
      · rw [if_pos c10] at h
        refine jj_aload_n d_Mo_step_88 rfl ?_
        refine jj_getR d_Mo_step_89 fk_Mo_31 (sh_Mo h_this).2 (sh_Mo h_this).1 rfl ?_
        refine jj_iload_n d_Mo_step_92 rfl ?_
        refine jj_iload_n d_Mo_step_93 rfl ?_
        refine jj_iload_n d_Mo_step_94 rfl ?_
        obtain ⟨r11, e11, h⟩ := jj_b1o h
        refine jj_callSi (as := [.int (x5 (this + 2) (Int32.toNatClampNeg ((x5 this 13) + (x2 (this + 8) (Int32.toNatClampNeg ((x this 21) - 1))))))]) (c_Mo_bytes (d := d + 2)  e11) d_Mo_step_95 ck_Mo_75 rfl rfl (Nat.le_of_ble_eq_true rfl) ?_
        refine jj_iadd d_Mo_step_98 ?_
        obtain ⟨i12, h⟩ := jj_gt h
        refine jj_iastore d_Mo_step_99 rfl (ar_Mo_where h_this).1 (ar_Mo_where h_this).2 (jj_inn i12) ?_
        refine jj_iload_n d_Mo_step_100 rfl ?_
        refine jj_sipush d_Mo_step_101 jc_s_184 ?_
        refine jj_ic_ne (tgt := 127) d_Mo_step_104 rfl (fun c13 => ?_) (fun c13 => ?_)
        · rw [if_neg c13] at h
          refine jj_iload_n d_Mo_step_127 rfl ?_
          obtain ⟨r14, e14, h⟩ := jj_b1o h
          refine jj_callSi (as := [.int (x5 (this + 2) (Int32.toNatClampNeg ((x5 this 13) + (x2 (this + 8) (Int32.toNatClampNeg ((x this 21) - 1))))))]) (c_Mo_returns (d := d + 4)  e14) d_Mo_step_128 ck_Mo_58 rfl rfl (Nat.le_of_ble_eq_true rfl) ?_
          refine jj_if_eq (tgt := 143) d_Mo_step_131 rfl (fun c15 => ?_) (fun c15 => ?_)
          · rw [if_pos c15] at h
            refine jj_iload_n d_Mo_step_143 rfl ?_
            obtain ⟨r16, e16, h⟩ := jj_b1o h
            refine jj_callSi (as := [.int (x5 (this + 2) (Int32.toNatClampNeg ((x5 this 13) + (x2 (this + 8) (Int32.toNatClampNeg ((x this 21) - 1))))))]) (c_Mo_jumps (d := d + 3)  e16) d_Mo_step_144 ck_Mo_51 rfl rfl (Nat.le_of_ble_eq_true rfl) ?_
            refine jj_if_eq (tgt := 200) d_Mo_step_147 rfl (fun c17 => ?_) (fun c17 => ?_)
            · rw [if_pos c17] at h
              refine jj_aload_n d_Mo_step_200 rfl ?_
              refine jj_iload_n d_Mo_step_201 rfl ?_
              refine jj_iload_n d_Mo_step_202 rfl ?_
              refine jj_iload_n d_Mo_step_203 rfl ?_
              refine jj_iload d_Mo_step_204 rfl ?_
              obtain ⟨x18, e18, h⟩ := jj_b1o h
              refine jj_callVv (as := [.int ((x this 21) - 1), .int (x2 (this + 8) (Int32.toNatClampNeg ((x this 21) - 1))), .int (x5 (this + 2) (Int32.toNatClampNeg ((x5 this 13) + (x2 (this + 8) (Int32.toNatClampNeg ((x this 21) - 1)))))), .int (((6 * ((x this 21) - 1)) + (x5 (this + 7) (Int32.toNatClampNeg ((x this 21) - 1)))) - 1)]) (c_Mo_work (d := d + 0) h_this e18) d_Mo_step_206 ck_Mo_234 (sh_Mo h_this).2 (sh_Mo h_this).1 ⟨_, rfl, rfl⟩ rfl rfl (Nat.le_of_ble_eq_true rfl) ?_
              refine jj_iconst d_Mo_step_209 jc_i_m1 ?_
              cases h
              exact jj_ireturn d_Mo_step_210 rfl ⟨rfl, rfl⟩
            · rw [if_neg c17] at h
              refine jj_aload_n d_Mo_step_150 rfl ?_
              refine jj_getR d_Mo_step_151 fk_Mo_31 (sh_Mo h_this).2 (sh_Mo h_this).1 rfl ?_
              refine jj_iload_n d_Mo_step_154 rfl ?_
              refine jj_aload_n d_Mo_step_155 rfl ?_
              refine jj_iload_n d_Mo_step_156 rfl ?_
              refine jj_iload d_Mo_step_157 rfl ?_
              obtain ⟨r19, x19, e19, h⟩ := jj_b2o h
              refine jj_callVi (as := [.int (x5 (this + 2) (Int32.toNatClampNeg ((x5 this 13) + (x2 (this + 8) (Int32.toNatClampNeg ((x this 21) - 1)))))), .int (((6 * ((x this 21) - 1)) + (x5 (this + 7) (Int32.toNatClampNeg ((x this 21) - 1)))) - 1)]) (c_Mo_goes (d := d + 4) h_this e19) d_Mo_step_159 ck_Mo_231 (sh_Mo h_this).2 (sh_Mo h_this).1 ⟨_, rfl, rfl⟩ rfl rfl (Nat.le_of_ble_eq_true rfl) ?_
              refine jj_if_eq (tgt := 173) d_Mo_step_162 rfl (fun c20 => ?_) (fun c20 => ?_)
              · rw [if_pos c20] at h
                refine jj_aload_n d_Mo_step_173 rfl ?_
                refine jj_getR d_Mo_step_174 fk_Mo_31 (sh_Mo h_this).2 (sh_Mo h_this).1 rfl ?_
                refine jj_iload_n d_Mo_step_177 rfl ?_
                obtain ⟨i21, h⟩ := jj_gt h
                refine jj_iaload d_Mo_step_178 rfl (ar_Mo_where h_this).1 (ar_Mo_where h_this).2 (jj_inn i21) rfl ?_
                exact jj_J.sub (t_Mo_step_179 h_this (ar_Mo_where h_this) h) (fun i v hi => jj_mask_ok [true, true, true, false, false, false] hi)
              · rw [if_neg c20] at h
                refine jj_aload_n d_Mo_step_165 rfl ?_
                refine jj_iload_n d_Mo_step_166 rfl ?_
                obtain ⟨r22, x22, e22, h⟩ := jj_b2o h
                refine jj_callVi (as := [.int (x2 (this + 8) (Int32.toNatClampNeg ((x this 21) - 1)))]) (c_Mo_target (d := d + 3) h_this e22) d_Mo_step_167 ck_Mo_192 (sh_Mo h_this).2 (sh_Mo h_this).1 ⟨_, rfl, rfl⟩ rfl rfl (Nat.le_of_ble_eq_true rfl) ?_
                refine jj_goto (tgt := 179) d_Mo_step_170 rfl ?_
                exact jj_J.sub (t_Mo_step_179 h_this (ar_Mo_where h_this) h) (fun i v hi => jj_mask_ok [true, true, true, false, false, false] hi)
          · rw [if_neg c15] at h
            refine jj_aload_n d_Mo_step_134 rfl ?_
            refine jj_iload_n d_Mo_step_135 rfl ?_
            refine jj_iload_n d_Mo_step_136 rfl ?_
            refine jj_iload d_Mo_step_137 rfl ?_
            obtain ⟨r23, x23, e23, h⟩ := jj_b2o h
            refine jj_callVi (as := [.int ((x this 21) - 1), .int (x5 (this + 2) (Int32.toNatClampNeg ((x5 this 13) + (x2 (this + 8) (Int32.toNatClampNeg ((x this 21) - 1)))))), .int (((6 * ((x this 21) - 1)) + (x5 (this + 7) (Int32.toNatClampNeg ((x this 21) - 1)))) - 1)]) (c_Mo_leave (d := d + 3) h_this e23) d_Mo_step_139 ck_Mo_227 (sh_Mo h_this).2 (sh_Mo h_this).1 ⟨_, rfl, rfl⟩ rfl rfl (Nat.le_of_ble_eq_true rfl) ?_
            cases h
            exact jj_ireturn d_Mo_step_142 rfl ⟨rfl, rfl⟩
        · rw [if_pos c13] at h
          refine jj_aload_n d_Mo_step_107 rfl ?_
          refine jj_iload_n d_Mo_step_108 rfl ?_
          refine jj_aload_n d_Mo_step_109 rfl ?_
          refine jj_getR d_Mo_step_110 fk_Mo_13 (sh_Mo h_this).2 (sh_Mo h_this).1 rfl ?_
          refine jj_aload_n d_Mo_step_113 rfl ?_
          refine jj_getI d_Mo_step_114 fk_Mo_139 (sh_Mo h_this).2 (sh_Mo h_this).1 rfl rfl ?_
          refine jj_iload_n d_Mo_step_117 rfl ?_
          refine jj_iadd d_Mo_step_118 ?_
          refine jj_iconst d_Mo_step_119 jc_i_1 ?_
          refine jj_iadd d_Mo_step_120 ?_
          obtain ⟨i24, h⟩ := jj_gt h
          refine jj_iaload d_Mo_step_121 rfl (ar_Mo_kept h_this).1 (ar_Mo_kept h_this).2 (jj_inn i24) rfl ?_
          obtain ⟨x25, e25, h⟩ := jj_b1o h
          refine jj_callVv (as := [.int ((x this 21) - 1), .int ((jj_set x9 (this + 8) (Int32.toNatClampNeg ((x this 21) - 1)) ((x2 (this + 8) (Int32.toNatClampNeg ((x this 21) - 1))) + r11)) (this + 2) (Int32.toNatClampNeg ((((jj_set x9 (this + 8) (Int32.toNatClampNeg ((x this 21) - 1)) ((x2 (this + 8) (Int32.toNatClampNeg ((x this 21) - 1))) + r11)) this 13) + (x2 (this + 8) (Int32.toNatClampNeg ((x this 21) - 1)))) + 1)))]) (c_Mo_enter (d := d + 1) h_this e25) d_Mo_step_122 ck_Mo_224 (sh_Mo h_this).2 (sh_Mo h_this).1 ⟨_, rfl, rfl⟩ rfl rfl (Nat.le_of_ble_eq_true rfl) ?_
          refine jj_iconst d_Mo_step_125 jc_i_m1 ?_
          cases h
          exact jj_ireturn d_Mo_step_126 rfl ⟨rfl, rfl⟩
      · rw [if_neg c10] at h
        refine jj_iload d_Mo_step_85 rfl ?_
        cases h
        exact jj_ireturn d_Mo_step_87 rfl ⟨rfl, rfl⟩
    · rw [if_pos c6] at h
      refine jj_iconst d_Mo_step_41 jc_i_1 ?_
      cases h
      exact jj_ireturn d_Mo_step_42 rfl ⟨rfl, rfl⟩
theorem c_Mo_step {X : jj_X} {d : Nat} {this : Nat} (h_this : o_Mo this) {x : jj_Mem} {q : Int32 × jj_Mem} (h : f_Mo_step this x = some q) : jj_Met Y0 X (d + 5) m_Mo_step [.ref this] x (jp_i q) :=
  jj_metp 5 (lo := [some (.ref this), none, none, none, none, none]) rfl (Nat.le_of_ble_eq_true rfl) rfl (t_Mo_step_0 h_this h)
