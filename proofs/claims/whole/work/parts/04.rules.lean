/-! the judgement's rules, one an instruction -/
section JJR
variable {Y : jj_Y} {X : jj_X} {d : Nat} {M : jj_M} {pc : Nat} {lo : List (Option Value)} {st : List Value} {x : jj_Mem} {post : Option Value → jj_Mem → Prop}
theorem jj_iconst {n : Int} {v : Int32} (hd : decode M.2.1 pc = .ok (.iconst n, 1)) (hv : Int32.ofInt n = v) (k : jj_J Y X d M (pc + 1) lo (.int v :: st) x post) : jj_J Y X d M pc lo st x post := by
  intro p e R s m args below meth c F H locs ls hP hS hl
  exact lv_iconst F.1 F.2.1 hd hv (k p e R s m args below meth c F H locs ls hP hS hl)

theorem jj_bipush {n : Int} {v : Int32} (hd : decode M.2.1 pc = .ok (.bipush n, 2)) (hv : (Int8.ofInt n).toInt32 = v) (k : jj_J Y X d M (pc + 2) lo (.int v :: st) x post) : jj_J Y X d M pc lo st x post := by
  intro p e R s m args below meth c F H locs ls hP hS hl
  exact lv_bipush F.1 F.2.1 hd hv (k p e R s m args below meth c F H locs ls hP hS hl)

theorem jj_sipush {n : Int} {v : Int32} (hd : decode M.2.1 pc = .ok (.sipush n, 3)) (hv : (Int16.ofInt n).toInt32 = v) (k : jj_J Y X d M (pc + 3) lo (.int v :: st) x post) : jj_J Y X d M pc lo st x post := by
  intro p e R s m args below meth c F H locs ls hP hS hl
  exact lv_sipush F.1 F.2.1 hd hv (k p e R s m args below meth c F H locs ls hP hS hl)

theorem jj_ldc {index : Nat} {v : Int32} (hd : decode M.2.1 pc = .ok (.ldc index, 2)) (hw : Cond.constant M.1.cls index v ∈ Y.2.2.2.2) (k : jj_J Y X d M (pc + 2) lo (.int v :: st) x post) : jj_J Y X d M pc lo st x post := by
  intro p e R s m args below meth c F H locs ls hP hS hl
  exact lv_ldc F.1 F.2.1 F.2.2.2.1 (F.2.2.2.2.2.2.2.2.2.2.2.2 _ hw) hd (k p e R s m args below meth c F H locs ls hP hS hl)

theorem jj_iload_n {n : Fin 4} {v : Int32} (hd : decode M.2.1 pc = .ok (.iload_n n, 1)) (hl0 : lo[(n : Nat)]? = some (some (.int v))) (k : jj_J Y X d M (pc + 1) lo (.int v :: st) x post) : jj_J Y X d M pc lo st x post := by
  intro p e R s m args below meth c F H locs ls hP hS hl
  exact lv_iload_n F.1 F.2.1 hd rfl (hl.2.2 _ _ hl0) (k p e R s m args below meth c F H locs ls hP hS hl)

theorem jj_iload {i : Nat} {v : Int32} (hd : decode M.2.1 pc = .ok (.iload i, 2)) (hl0 : lo[i]? = some (some (.int v))) (k : jj_J Y X d M (pc + 2) lo (.int v :: st) x post) : jj_J Y X d M pc lo st x post := by
  intro p e R s m args below meth c F H locs ls hP hS hl
  exact lv_iload F.1 F.2.1 hd (hl.2.2 _ _ hl0) (k p e R s m args below meth c F H locs ls hP hS hl)

theorem jj_aload_n {n : Fin 4} {v : Nat} (hd : decode M.2.1 pc = .ok (.aload_n n, 1)) (hl0 : lo[(n : Nat)]? = some (some (.ref v))) (k : jj_J Y X d M (pc + 1) lo (.ref v :: st) x post) : jj_J Y X d M pc lo st x post := by
  intro p e R s m args below meth c F H locs ls hP hS hl
  exact lv_aload_n F.1 F.2.1 hd rfl (hl.2.2 _ _ hl0) (k p e R s m args below meth c F H locs ls hP hS hl)

theorem jj_aload {i : Nat} {v : Nat} (hd : decode M.2.1 pc = .ok (.aload i, 2)) (hl0 : lo[i]? = some (some (.ref v))) (k : jj_J Y X d M (pc + 2) lo (.ref v :: st) x post) : jj_J Y X d M pc lo st x post := by
  intro p e R s m args below meth c F H locs ls hP hS hl
  exact lv_aload F.1 F.2.1 hd (hl.2.2 _ _ hl0) (k p e R s m args below meth c F H locs ls hP hS hl)

theorem jj_lload_n {n : Fin 4} {v : Int64} (hd : decode M.2.1 pc = .ok (.lload_n n, 1)) (hl0 : lo[(n : Nat)]? = some (some (.long v))) (k : jj_J Y X d M (pc + 1) lo (.long v :: st) x post) : jj_J Y X d M pc lo st x post := by
  intro p e R s m args below meth c F H locs ls hP hS hl
  exact lv_lload_n F.1 F.2.1 hd rfl (hl.2.2 _ _ hl0) (k p e R s m args below meth c F H locs ls hP hS hl)

theorem jj_lload {i : Nat} {v : Int64} (hd : decode M.2.1 pc = .ok (.lload i, 2)) (hl0 : lo[i]? = some (some (.long v))) (k : jj_J Y X d M (pc + 2) lo (.long v :: st) x post) : jj_J Y X d M pc lo st x post := by
  intro p e R s m args below meth c F H locs ls hP hS hl
  exact lv_lload F.1 F.2.1 hd (hl.2.2 _ _ hl0) (k p e R s m args below meth c F H locs ls hP hS hl)

/-- all locals, as the kit's list -/
def jj_al (X : jj_X) : Nat → List (Option Value) → List (Nat × Value)
  | _, [] => []
  | k, none :: r => jj_al X (k + 1) r
  | k, some v :: r => (k, jj_v X v) :: jj_al X (k + 1) r
theorem jj_al_of (X : jj_X) : ∀ (lo : List (Option Value)) (k : Nat) (q : Nat × Value), q ∈ jj_al X k lo → ∃ (j : Nat) (v : Value), lo[j]? = some (some v) ∧ q = (k + j, jj_v X v)
  | [], k, q, h => by simp [jj_al] at h
  | none :: r, k, q, h => by
    obtain ⟨j, v, h1, h2⟩ := jj_al_of X r (k + 1) q h
    exact ⟨j + 1, v, by simpa using h1, by rw [h2]; congr 1; omega⟩
  | some u :: r, k, q, h => by
    rcases List.mem_cons.mp h with h | h
    · exact ⟨0, u, rfl, h⟩
    · obtain ⟨j, v, h1, h2⟩ := jj_al_of X r (k + 1) q h
      exact ⟨j + 1, v, by simpa using h1, by rw [h2]; congr 1; omega⟩
theorem jj_al_in (X : jj_X) : ∀ (lo : List (Option Value)) (k j : Nat) (v : Value), lo[j]? = some (some v) → (k + j, jj_v X v) ∈ jj_al X k lo
  | [], k, j, v, h => by simp at h
  | none :: r, k, 0, v, h => by simp at h
  | none :: r, k, j + 1, v, h => by
    rw [List.getElem?_cons_succ] at h
    have := jj_al_in X r (k + 1) j v h
    rw [show k + 1 + j = k + (j + 1) by omega] at this
    exact this
  | some u :: r, k, 0, v, h => by
    simp at h
    subst h
    exact List.mem_cons_self
  | some u :: r, k, j + 1, v, h => by
    rw [List.getElem?_cons_succ] at h
    have := jj_al_in X r (k + 1) j v h
    rw [show k + 1 + j = k + (j + 1) by omega] at this
    exact List.mem_cons_of_mem _ this
theorem jj_has.lv {X : jj_X} {ls : Array Slot} {nL : Nat} {lo : List (Option Value)} (h : jj_has X ls nL lo) : lv_has ls nL (jj_al X 0 lo) := by
  refine ⟨h.1, h.2.1, fun q hq => ?_⟩
  obtain ⟨j, v, h1, rfl⟩ := jj_al_of X lo 0 q hq
  have := h.2.2 j v h1
  simpa using this
/-- no long lies just below place i -/
def jj_k1 (lo : List (Option Value)) (i : Nat) : Bool := match i with
  | 0 => true
  | i + 1 => match lo[i]? with
    | some (some w) => w.category == 1
    | _ => true
theorem jj_has.put {X : jj_X} {ls' : Array Slot} {nL i : Nat} {lo : List (Option Value)} {v : Value} (h : lv_has ls' nL ((i, jj_v X v) :: (jj_al X 0 lo).filter (fun q => !(q.1 == i) && !(q.1 + 1 == i && q.2.category == 2)))) (hk : jj_k1 lo i = true) : jj_has X ls' nL (lo.set i (some v)) := by
  refine ⟨h.1, h.2.1, fun j w hj => ?_⟩
  by_cases e : j = i
  · subst e
    by_cases hl : j < lo.length
    · rw [List.getElem?_set_self hl] at hj
      cases hj
      exact h.2.2 _ List.mem_cons_self
    · rw [List.getElem?_eq_none (by simp; omega)] at hj
      cases hj
  · rw [List.getElem?_set_ne (Ne.symm e)] at hj
    have h1 := jj_al_in X lo 0 j w hj
    rw [Nat.zero_add] at h1
    refine h.2.2 (j, jj_v X w) (List.mem_cons_of_mem _ (List.mem_filter.mpr ⟨h1, ?_⟩))
    simp only [jj_v_cat, Bool.and_eq_true, Bool.not_eq_true', beq_eq_false_iff_ne, ne_eq, e, not_false_eq_true, true_and]
    by_cases e2 : j + 1 = i
    · subst e2
      simp only [jj_k1, hj, beq_iff_eq] at hk
      simp [hk]
    · simp [e2]
theorem jj_istore_n {n : Fin 4} {v : Int32} {lo' : List (Option Value)} (hd : decode M.2.1 pc = .ok (.istore_n n, 1)) (hl0 : lo.set (n : Nat) (some (.int v)) = lo') (hn : (n : Nat) < M.2.2.1) (hk : jj_k1 lo (n : Nat) = true) (k : jj_J Y X d M (pc + 1) lo' st x post) : jj_J Y X d M pc lo (.int v :: st) x post := by
  intro p e R s m args below meth c F H locs ls hP hS hl
  subst hl0
  exact lv_istore_n F.1 F.2.1 hd rfl hl.lv hn rfl (fun ls2 h2 => k p e R s m args below meth c F H locs ls2 hP hS (jj_has.put (v := .int v) h2 hk))

theorem jj_istore {i : Nat} {v : Int32} {lo' : List (Option Value)} (hd : decode M.2.1 pc = .ok (.istore i, 2)) (hl0 : lo.set i (some (.int v)) = lo') (hn : i < M.2.2.1) (hk : jj_k1 lo i = true) (k : jj_J Y X d M (pc + 2) lo' st x post) : jj_J Y X d M pc lo (.int v :: st) x post := by
  intro p e R s m args below meth c F H locs ls hP hS hl
  subst hl0
  exact lv_istore F.1 F.2.1 hd hl.lv hn rfl (fun ls2 h2 => k p e R s m args below meth c F H locs ls2 hP hS (jj_has.put (v := .int v) h2 hk))

theorem jj_astore_n {n : Fin 4} {v : Nat} {lo' : List (Option Value)} (hd : decode M.2.1 pc = .ok (.astore_n n, 1)) (hl0 : lo.set (n : Nat) (some (.ref v)) = lo') (hn : (n : Nat) < M.2.2.1) (hk : jj_k1 lo (n : Nat) = true) (k : jj_J Y X d M (pc + 1) lo' st x post) : jj_J Y X d M pc lo (.ref v :: st) x post := by
  intro p e R s m args below meth c F H locs ls hP hS hl
  subst hl0
  exact lv_astore_n F.1 F.2.1 hd rfl hl.lv hn rfl (fun ls2 h2 => k p e R s m args below meth c F H locs ls2 hP hS (jj_has.put (v := .ref v) h2 hk))

theorem jj_astore {i : Nat} {v : Nat} {lo' : List (Option Value)} (hd : decode M.2.1 pc = .ok (.astore i, 2)) (hl0 : lo.set i (some (.ref v)) = lo') (hn : i < M.2.2.1) (hk : jj_k1 lo i = true) (k : jj_J Y X d M (pc + 2) lo' st x post) : jj_J Y X d M pc lo (.ref v :: st) x post := by
  intro p e R s m args below meth c F H locs ls hP hS hl
  subst hl0
  exact lv_astore F.1 F.2.1 hd hl.lv hn rfl (fun ls2 h2 => k p e R s m args below meth c F H locs ls2 hP hS (jj_has.put (v := .ref v) h2 hk))

theorem jj_iinc {i : Nat} {n : Int} {u v : Int32} {lo' : List (Option Value)} (hd : decode M.2.1 pc = .ok (.iinc i n, 3)) (hu : lo[i]? = some (some (.int u))) (hv : u + Int32.ofInt n = v) (hl0 : lo.set i (some (.int v)) = lo') (hn : i < M.2.2.1) (hk : jj_k1 lo i = true) (k : jj_J Y X d M (pc + 3) lo' st x post) : jj_J Y X d M pc lo st x post := by
  intro p e R s m args below meth c F H locs ls hP hS hl
  subst hl0
  obtain ⟨kk, hkk⟩ := List.getElem?_of_mem (jj_al_in X lo 0 i _ hu)
  rw [Nat.zero_add] at hkk
  exact lv_iinc F.1 F.2.1 hd hl.lv hkk hv hn rfl (fun ls2 h2 => k p e R s m args below meth c F H locs ls2 hP hS (jj_has.put (v := .int v) h2 hk))

theorem jj_iadd {a b : Int32} (hd : decode M.2.1 pc = .ok (.iadd, 1)) (k : jj_J Y X d M (pc + 1) lo (.int (a + b) :: st) x post) : jj_J Y X d M pc lo (.int b :: .int a :: st) x post := by
  intro p e R s m args below meth c F H locs ls hP hS hl
  exact lv_iadd F.1 F.2.1 hd (k p e R s m args below meth c F H locs ls hP hS hl)

theorem jj_isub {a b : Int32} (hd : decode M.2.1 pc = .ok (.isub, 1)) (k : jj_J Y X d M (pc + 1) lo (.int (a - b) :: st) x post) : jj_J Y X d M pc lo (.int b :: .int a :: st) x post := by
  intro p e R s m args below meth c F H locs ls hP hS hl
  exact lv_isub F.1 F.2.1 hd (k p e R s m args below meth c F H locs ls hP hS hl)

theorem jj_imul {a b : Int32} (hd : decode M.2.1 pc = .ok (.imul, 1)) (k : jj_J Y X d M (pc + 1) lo (.int (a * b) :: st) x post) : jj_J Y X d M pc lo (.int b :: .int a :: st) x post := by
  intro p e R s m args below meth c F H locs ls hP hS hl
  exact lv_imul F.1 F.2.1 hd (k p e R s m args below meth c F H locs ls hP hS hl)

theorem jj_iand {a b : Int32} (hd : decode M.2.1 pc = .ok (.iand, 1)) (k : jj_J Y X d M (pc + 1) lo (.int (a &&& b) :: st) x post) : jj_J Y X d M pc lo (.int b :: .int a :: st) x post := by
  intro p e R s m args below meth c F H locs ls hP hS hl
  exact lv_iand F.1 F.2.1 hd (k p e R s m args below meth c F H locs ls hP hS hl)

theorem jj_ior {a b : Int32} (hd : decode M.2.1 pc = .ok (.ior, 1)) (k : jj_J Y X d M (pc + 1) lo (.int (a ||| b) :: st) x post) : jj_J Y X d M pc lo (.int b :: .int a :: st) x post := by
  intro p e R s m args below meth c F H locs ls hP hS hl
  exact lv_ior F.1 F.2.1 hd (k p e R s m args below meth c F H locs ls hP hS hl)

theorem jj_ishl {a b : Int32} (hd : decode M.2.1 pc = .ok (.ishl, 1)) (k : jj_J Y X d M (pc + 1) lo (.int (a <<< (b &&& 31)) :: st) x post) : jj_J Y X d M pc lo (.int b :: .int a :: st) x post := by
  intro p e R s m args below meth c F H locs ls hP hS hl
  exact lv_ishl F.1 F.2.1 hd (k p e R s m args below meth c F H locs ls hP hS hl)

theorem jj_idiv {a b : Int32} (hd : decode M.2.1 pc = .ok (.idiv, 1)) (hb0 : ¬ b = 0) (k : jj_J Y X d M (pc + 1) lo (.int (a / b) :: st) x post) : jj_J Y X d M pc lo (.int b :: .int a :: st) x post := by
  intro p e R s m args below meth c F H locs ls hP hS hl
  exact lv_idiv F.1 F.2.1 hd hb0 (k p e R s m args below meth c F H locs ls hP hS hl)

theorem jj_irem {a b : Int32} (hd : decode M.2.1 pc = .ok (.irem, 1)) (hb0 : ¬ b = 0) (k : jj_J Y X d M (pc + 1) lo (.int (a - a / b * b) :: st) x post) : jj_J Y X d M pc lo (.int b :: .int a :: st) x post := by
  intro p e R s m args below meth c F H locs ls hP hS hl
  exact lv_irem F.1 F.2.1 hd hb0 (k p e R s m args below meth c F H locs ls hP hS hl)

theorem jj_ineg {a : Int32} (hd : decode M.2.1 pc = .ok (.ineg, 1)) (k : jj_J Y X d M (pc + 1) lo (.int (-a) :: st) x post) : jj_J Y X d M pc lo (.int a :: st) x post := by
  intro p e R s m args below meth c F H locs ls hP hS hl
  exact lv_ineg F.1 F.2.1 hd (k p e R s m args below meth c F H locs ls hP hS hl)

theorem jj_l2i {a : Int64} (hd : decode M.2.1 pc = .ok (.l2i, 1)) (k : jj_J Y X d M (pc + 1) lo (.int a.toInt32 :: st) x post) : jj_J Y X d M pc lo (.long a :: st) x post := by
  intro p e R s m args below meth c F H locs ls hP hS hl
  exact lv_l2i F.1 F.2.1 hd rfl (k p e R s m args below meth c F H locs ls hP hS hl)

theorem jj_lshr {a : Int64} {b : Int32} (hd : decode M.2.1 pc = .ok (.lshr, 1)) (k : jj_J Y X d M (pc + 1) lo (.long (a >>> (b.toInt64 &&& 63)) :: st) x post) : jj_J Y X d M pc lo (.int b :: .long a :: st) x post := by
  intro p e R s m args below meth c F H locs ls hP hS hl
  exact lv_lshr F.1 F.2.1 hd rfl (k p e R s m args below meth c F H locs ls hP hS hl)

theorem jj_dup {u : Value} (hd : decode M.2.1 pc = .ok (.dup, 1)) (hu : u.category = 1) (k : jj_J Y X d M (pc + 1) lo (u :: u :: st) x post) : jj_J Y X d M pc lo (u :: st) x post := by
  intro p e R s m args below meth c F H locs ls hP hS hl
  exact lv_dup F.1 F.2.1 hd (by rw [jj_v_cat]; exact hu) (k p e R s m args below meth c F H locs ls hP hS hl)

theorem jj_pop {u : Value} (hd : decode M.2.1 pc = .ok (.pop, 1)) (hu : u.category = 1) (k : jj_J Y X d M (pc + 1) lo st x post) : jj_J Y X d M pc lo (u :: st) x post := by
  intro p e R s m args below meth c F H locs ls hP hS hl
  exact lv_pop F.1 F.2.1 hd (by rw [jj_v_cat]; exact hu) (k p e R s m args below meth c F H locs ls hP hS hl)

theorem jj_if_eq {a : Int32} {off : Int} {tgt : Nat} (hd : decode M.2.1 pc = .ok (.ifCond .eq off, 3)) (ht : (pc : Int) + off = (tgt : Int)) (kt : a = 0 → jj_J Y X d M tgt lo st x post) (kf : ¬ a = 0 → jj_J Y X d M (pc + 3) lo st x post) : jj_J Y X d M pc lo (.int a :: st) x post := by
  intro p e R s m args below meth c F H locs ls hP hS hl
  exact lv_if_eq F.1 F.2.1 hd ht (fun hc => kt hc p e R s m args below meth c F H locs ls hP hS hl) (fun hc => kf hc p e R s m args below meth c F H locs ls hP hS hl)

theorem jj_ic_eq {a b : Int32} {off : Int} {tgt : Nat} (hd : decode M.2.1 pc = .ok (.if_icmp .eq off, 3)) (ht : (pc : Int) + off = (tgt : Int)) (kt : a = b → jj_J Y X d M tgt lo st x post) (kf : ¬ a = b → jj_J Y X d M (pc + 3) lo st x post) : jj_J Y X d M pc lo (.int b :: .int a :: st) x post := by
  intro p e R s m args below meth c F H locs ls hP hS hl
  exact lv_icmp_eq F.1 F.2.1 hd ht (fun hc => kt hc p e R s m args below meth c F H locs ls hP hS hl) (fun hc => kf hc p e R s m args below meth c F H locs ls hP hS hl)

theorem jj_if_ne {a : Int32} {off : Int} {tgt : Nat} (hd : decode M.2.1 pc = .ok (.ifCond .ne off, 3)) (ht : (pc : Int) + off = (tgt : Int)) (kt : ¬ a = 0 → jj_J Y X d M tgt lo st x post) (kf : a = 0 → jj_J Y X d M (pc + 3) lo st x post) : jj_J Y X d M pc lo (.int a :: st) x post := by
  intro p e R s m args below meth c F H locs ls hP hS hl
  exact lv_if_ne F.1 F.2.1 hd ht (fun hc => kt hc p e R s m args below meth c F H locs ls hP hS hl) (fun hc => kf hc p e R s m args below meth c F H locs ls hP hS hl)

theorem jj_ic_ne {a b : Int32} {off : Int} {tgt : Nat} (hd : decode M.2.1 pc = .ok (.if_icmp .ne off, 3)) (ht : (pc : Int) + off = (tgt : Int)) (kt : ¬ a = b → jj_J Y X d M tgt lo st x post) (kf : a = b → jj_J Y X d M (pc + 3) lo st x post) : jj_J Y X d M pc lo (.int b :: .int a :: st) x post := by
  intro p e R s m args below meth c F H locs ls hP hS hl
  exact lv_icmp_ne F.1 F.2.1 hd ht (fun hc => kt hc p e R s m args below meth c F H locs ls hP hS hl) (fun hc => kf hc p e R s m args below meth c F H locs ls hP hS hl)

theorem jj_if_lt {a : Int32} {off : Int} {tgt : Nat} (hd : decode M.2.1 pc = .ok (.ifCond .lt off, 3)) (ht : (pc : Int) + off = (tgt : Int)) (kt : a < 0 → jj_J Y X d M tgt lo st x post) (kf : ¬ a < 0 → jj_J Y X d M (pc + 3) lo st x post) : jj_J Y X d M pc lo (.int a :: st) x post := by
  intro p e R s m args below meth c F H locs ls hP hS hl
  exact lv_if_lt F.1 F.2.1 hd ht (fun hc => kt hc p e R s m args below meth c F H locs ls hP hS hl) (fun hc => kf hc p e R s m args below meth c F H locs ls hP hS hl)

theorem jj_ic_lt {a b : Int32} {off : Int} {tgt : Nat} (hd : decode M.2.1 pc = .ok (.if_icmp .lt off, 3)) (ht : (pc : Int) + off = (tgt : Int)) (kt : a < b → jj_J Y X d M tgt lo st x post) (kf : ¬ a < b → jj_J Y X d M (pc + 3) lo st x post) : jj_J Y X d M pc lo (.int b :: .int a :: st) x post := by
  intro p e R s m args below meth c F H locs ls hP hS hl
  exact lv_icmp_lt F.1 F.2.1 hd ht (fun hc => kt hc p e R s m args below meth c F H locs ls hP hS hl) (fun hc => kf hc p e R s m args below meth c F H locs ls hP hS hl)

theorem jj_if_ge {a : Int32} {off : Int} {tgt : Nat} (hd : decode M.2.1 pc = .ok (.ifCond .ge off, 3)) (ht : (pc : Int) + off = (tgt : Int)) (kt : 0 ≤ a → jj_J Y X d M tgt lo st x post) (kf : ¬ 0 ≤ a → jj_J Y X d M (pc + 3) lo st x post) : jj_J Y X d M pc lo (.int a :: st) x post := by
  intro p e R s m args below meth c F H locs ls hP hS hl
  exact lv_if_ge F.1 F.2.1 hd ht (fun hc => kt hc p e R s m args below meth c F H locs ls hP hS hl) (fun hc => kf hc p e R s m args below meth c F H locs ls hP hS hl)

theorem jj_ic_ge {a b : Int32} {off : Int} {tgt : Nat} (hd : decode M.2.1 pc = .ok (.if_icmp .ge off, 3)) (ht : (pc : Int) + off = (tgt : Int)) (kt : b ≤ a → jj_J Y X d M tgt lo st x post) (kf : ¬ b ≤ a → jj_J Y X d M (pc + 3) lo st x post) : jj_J Y X d M pc lo (.int b :: .int a :: st) x post := by
  intro p e R s m args below meth c F H locs ls hP hS hl
  exact lv_icmp_ge F.1 F.2.1 hd ht (fun hc => kt hc p e R s m args below meth c F H locs ls hP hS hl) (fun hc => kf hc p e R s m args below meth c F H locs ls hP hS hl)

theorem jj_if_gt {a : Int32} {off : Int} {tgt : Nat} (hd : decode M.2.1 pc = .ok (.ifCond .gt off, 3)) (ht : (pc : Int) + off = (tgt : Int)) (kt : 0 < a → jj_J Y X d M tgt lo st x post) (kf : ¬ 0 < a → jj_J Y X d M (pc + 3) lo st x post) : jj_J Y X d M pc lo (.int a :: st) x post := by
  intro p e R s m args below meth c F H locs ls hP hS hl
  exact lv_if_gt F.1 F.2.1 hd ht (fun hc => kt hc p e R s m args below meth c F H locs ls hP hS hl) (fun hc => kf hc p e R s m args below meth c F H locs ls hP hS hl)

theorem jj_ic_gt {a b : Int32} {off : Int} {tgt : Nat} (hd : decode M.2.1 pc = .ok (.if_icmp .gt off, 3)) (ht : (pc : Int) + off = (tgt : Int)) (kt : b < a → jj_J Y X d M tgt lo st x post) (kf : ¬ b < a → jj_J Y X d M (pc + 3) lo st x post) : jj_J Y X d M pc lo (.int b :: .int a :: st) x post := by
  intro p e R s m args below meth c F H locs ls hP hS hl
  exact lv_icmp_gt F.1 F.2.1 hd ht (fun hc => kt hc p e R s m args below meth c F H locs ls hP hS hl) (fun hc => kf hc p e R s m args below meth c F H locs ls hP hS hl)

theorem jj_if_le {a : Int32} {off : Int} {tgt : Nat} (hd : decode M.2.1 pc = .ok (.ifCond .le off, 3)) (ht : (pc : Int) + off = (tgt : Int)) (kt : a ≤ 0 → jj_J Y X d M tgt lo st x post) (kf : ¬ a ≤ 0 → jj_J Y X d M (pc + 3) lo st x post) : jj_J Y X d M pc lo (.int a :: st) x post := by
  intro p e R s m args below meth c F H locs ls hP hS hl
  exact lv_if_le F.1 F.2.1 hd ht (fun hc => kt hc p e R s m args below meth c F H locs ls hP hS hl) (fun hc => kf hc p e R s m args below meth c F H locs ls hP hS hl)

theorem jj_ic_le {a b : Int32} {off : Int} {tgt : Nat} (hd : decode M.2.1 pc = .ok (.if_icmp .le off, 3)) (ht : (pc : Int) + off = (tgt : Int)) (kt : a ≤ b → jj_J Y X d M tgt lo st x post) (kf : ¬ a ≤ b → jj_J Y X d M (pc + 3) lo st x post) : jj_J Y X d M pc lo (.int b :: .int a :: st) x post := by
  intro p e R s m args below meth c F H locs ls hP hS hl
  exact lv_icmp_le F.1 F.2.1 hd ht (fun hc => kt hc p e R s m args below meth c F H locs ls hP hS hl) (fun hc => kf hc p e R s m args below meth c F H locs ls hP hS hl)

theorem jj_goto {off : Int} {tgt : Nat} (hd : decode M.2.1 pc = .ok (.goto off, 3)) (ht : (pc : Int) + off = (tgt : Int)) (k : jj_J Y X d M tgt lo st x post) : jj_J Y X d M pc lo st x post := by
  intro p e R s m args below meth c F H locs ls hP hS hl
  exact lv_goto F.1 F.2.1 hd ht (k p e R s m args below meth c F H locs ls hP hS hl)

theorem jj_lookup {dflt : Int} {ps : Array (Int × Int)} {len : Nat} {a : Int32} {off : Int} {tgt : Nat} (hd : decode M.2.1 pc = .ok (.lookupswitch dflt ps, len)) (hp : (ps.toList.zip (ps.toList.drop 1)).all (fun (a, next) => a.1 < next.1) = true) (ho : Op.lookupswitch.offset ps.toList dflt a.toInt = off) (ht : (pc : Int) + off = (tgt : Int)) (k : jj_J Y X d M tgt lo st x post) : jj_J Y X d M pc lo (.int a :: st) x post := by
  intro p e R s m args below meth c F H locs ls hP hS hl
  exact lv_lookup F.1 F.2.1 hd hp ho ht (k p e R s m args below meth c F H locs ls hP hS hl)

theorem jj_tableOut {dflt lw hi : Int} {offs : Array Int} {len : Nat} {a : Int32} {tgt : Nat} (hd : decode M.2.1 pc = .ok (.tableswitch dflt lw hi offs, len)) (h : a.toInt < lw ∨ hi < a.toInt) (ht : (pc : Int) + dflt = (tgt : Int)) (k : jj_J Y X d M tgt lo st x post) : jj_J Y X d M pc lo (.int a :: st) x post := by
  intro p e R s m args below meth c F H locs ls hP hS hl
  exact lv_tableOut F.1 F.2.1 hd h ht (k p e R s m args below meth c F H locs ls hP hS hl)

theorem jj_tableIn {dflt lw hi : Int} {offs : Array Int} {len : Nat} {a : Int32} {off : Int} {tgt : Nat} (hd : decode M.2.1 pc = .ok (.tableswitch dflt lw hi offs, len)) (h1 : ¬ a.toInt < lw) (h2 : ¬ hi < a.toInt) (ho : offs[(a.toInt - lw).toNat]? = some off) (ht : (pc : Int) + off = (tgt : Int)) (k : jj_J Y X d M tgt lo st x post) : jj_J Y X d M pc lo (.int a :: st) x post := by
  intro p e R s m args below meth c F H locs ls hP hS hl
  exact lv_tableIn F.1 F.2.1 hd h1 h2 ho ht (k p e R s m args below meth c F H locs ls hP hS hl)

end JJR
/-! fields, arrays, calls, returns -/
def jj_fk (Y : jj_Y) (own : String) (idx ci k : Nat) : Prop := ∃ (C : String) (T : u_T) (N : Nat), Y.2.2.1[ci]? = some (C, T, N) ∧ k < N ∧ (∀ w ∈ u_ws C T N, w ∈ Y.2.2.2.2) ∧ Cond.fieldLink own idx (T k).1 (T k).2.1 (T k).2.2.1 ∈ Y.2.2.2.2
def jj_pk (Y : jj_Y) (own : String) (idx ci k : Nat) (ty : FieldType) : Prop := ∃ (C : String) (T : u_T) (N : Nat) (t0 : Nat → FieldType), Y.2.2.1[ci]? = some (C, T, N) ∧ k < N ∧ (∀ w ∈ u_ws C T N, w ∈ Y.2.2.2.2) ∧ Cond.fieldLink own idx (T k).1 (T k).2.1 (T k).2.2.1 ∈ Y.2.2.2.2 ∧ (∀ k, k < N → parseFieldDescriptor (T k).2.2.1 = some (t0 k)) ∧ (∀ a, a < N → ∀ b, b < N → a ≠ b → (T a).2.1 ≠ (T b).2.1) ∧ (T k).2.2.2 = false ∧ parseFieldDescriptor (T k).2.2.1 = some ty
section JJF
variable {Y : jj_Y} {X : jj_X} {d : Nat} {M : jj_M} {pc : Nat} {lo : List (Option Value)} {st : List Value} {x : jj_Mem} {post : Option Value → jj_Mem → Prop}
theorem jj_getV {i idx ci k : Nat} {fs : List (Option (Option Nat))} {f : Option (Option Nat)} {u : Value} (hd : decode M.2.1 pc = .ok (.getfield idx, 3)) (hk : jj_fk Y M.1.cls idx ci k) (hi : i < Y.2.1) (hs : Y.1 i = .inr (ci, fs)) (hf : fs[k]? = some f) (hu : jj_fv X f (x i k) = jj_v X u) (kk : jj_J Y X d M (pc + 3) lo (u :: st) x post) : jj_J Y X d M pc lo (.ref i :: st) x post := by
  intro p e R s m args below meth c F H locs ls hP hS hl
  obtain ⟨hx, hb, -, hown, -, -, -, hK, -, -, -, -, hts⟩ := id F
  obtain ⟨C, T, N, hc, hkN, hin, hlk⟩ := hk
  refine va_get (D := X.2.2.1) (ci := ci) (v := jj_v X u) (C := C) (T := T) (N := N) hx hb hts hin hown hK hP i (fs := jj_fl X (x i) 0 fs) (by rw [jj_ws_get hi, hs]; rfl) hc k hkN (hts _ hlk) (fun _ h => h) ?_ hd (kk p e R s m args below meth c F H locs ls hP hS hl)
  rw [jj_fl_get X (x i) fs 0 k f hf, Nat.zero_add, hu]
theorem jj_getI {i idx ci k : Nat} {fs : List (Option (Option Nat))} {v : Int32} (hd : decode M.2.1 pc = .ok (.getfield idx, 3)) (hk : jj_fk Y M.1.cls idx ci k) (hi : i < Y.2.1) (hs : Y.1 i = .inr (ci, fs)) (hf : fs[k]? = some none) (hv : x i k = v) (kk : jj_J Y X d M (pc + 3) lo (.int v :: st) x post) : jj_J Y X d M pc lo (.ref i :: st) x post := jj_getV hd hk hi hs hf (by rw [hv]; rfl) kk
theorem jj_getR {i idx ci k j : Nat} {fs : List (Option (Option Nat))} (hd : decode M.2.1 pc = .ok (.getfield idx, 3)) (hk : jj_fk Y M.1.cls idx ci k) (hi : i < Y.2.1) (hs : Y.1 i = .inr (ci, fs)) (hf : fs[k]? = some (some (some j))) (kk : jj_J Y X d M (pc + 3) lo (.ref j :: st) x post) : jj_J Y X d M pc lo (.ref i :: st) x post := jj_getV hd hk hi hs hf rfl kk
theorem jj_getD {i idx ci k j : Nat} {fs : List (Option (Option Nat))} (hd : decode M.2.1 pc = .ok (.getfield idx, 3)) (hk : jj_fk Y M.1.cls idx ci k) (hi : i < Y.2.1) (hs : Y.1 i = .inr (ci, fs)) (hf : fs[k]? = some (some none)) (hv : (x i k).toNatClampNeg = j) (kk : jj_J Y X d M (pc + 3) lo (.ref j :: st) x post) : jj_J Y X d M pc lo (.ref i :: st) x post := jj_getV hd hk hi hs hf (by rw [← hv]; rfl) kk
theorem jj_putV {i idx ci k : Nat} {fs : List (Option (Option Nat))} {f : Option (Option Nat)} {u : Value} {v : Int32} {ty : FieldType} (hd : decode M.2.1 pc = .ok (.putfield idx, 3)) (hk : jj_pk Y M.1.cls idx ci k ty) (hi : i < Y.2.1) (hs : Y.1 i = .inr (ci, fs)) (hf : fs[k]? = some f) (hu : jj_fv X f v = jj_v X u) (hn : narrow ty (jj_v X u) = jj_v X u) (hfit : fits ty (jj_v X u) = true) (kk : jj_J Y X d M (pc + 3) lo st (jj_set x i k v) post) : jj_J Y X d M pc lo (u :: .ref i :: st) x post := by
  intro p e R s m args below meth c F H locs ls hP hS hl
  obtain ⟨hx, hb, -, hown, -, -, -, hK, -, -, hok, -, hts⟩ := id F
  obtain ⟨C, T, N, t0, hc, hkN, hin, hlk, ht0, hnm, hfin, hty⟩ := hk
  have hkl : k < fs.length := (List.getElem?_eq_some_iff.mp hf).1
  refine va_put (D := X.2.2.1) (ci := ci) (v := jj_v X u) (ty := ty) (C := C) (T := T) (N := N) hx hb hts hin t0 ht0 hnm hown hK hP (jj_D hok x) hS i (fs := jj_fl X (x i) 0 fs) (by rw [jj_ws_get hi, hs]; rfl) hc k hkN (hts _ hlk) (fun _ h => h) hfin hty hn hfit (by rw [jj_fl_len]; exact hkl) hd (fun H1 locs1 hP1 hD1 hS1 => ?_)
  have e1 : (Sum.inr (ci, (jj_fl X (x i) 0 fs).set k (jj_v X u)) : va_E) = jj_e X (Y.1 i) (upd (x i) k v) := by
    rw [hs]
    show _ = Sum.inr (ci, jj_fl X (upd (x i) k v) 0 fs)
    have := jj_fl_set X (x i) v fs 0 k f hf
    rw [Nat.zero_add] at this
    rw [← this, hu]
  rw [e1, jj_ws_set hi] at hP1
  exact kk p e R s m args below meth c F H1 locs1 ls hP1 hS1 hl
theorem jj_putI {i idx ci k : Nat} {fs : List (Option (Option Nat))} {v : Int32} (hd : decode M.2.1 pc = .ok (.putfield idx, 3)) (hk : jj_pk Y M.1.cls idx ci k .int) (hi : i < Y.2.1) (hs : Y.1 i = .inr (ci, fs)) (hf : fs[k]? = some none) (kk : jj_J Y X d M (pc + 3) lo st (jj_set x i k v) post) : jj_J Y X d M pc lo (.int v :: .ref i :: st) x post := jj_putV hd hk hi hs hf rfl rfl rfl kk
theorem jj_bool {v : Int32} (h : v = 0 ∨ v = 1) : narrow .boolean (.int v) = .int v ∧ fits .boolean (.int v) = true := by
  rcases h with rfl | rfl <;> decide
theorem jj_putZ {i idx ci k : Nat} {fs : List (Option (Option Nat))} {v : Int32} (hd : decode M.2.1 pc = .ok (.putfield idx, 3)) (hk : jj_pk Y M.1.cls idx ci k .boolean) (hi : i < Y.2.1) (hs : Y.1 i = .inr (ci, fs)) (hf : fs[k]? = some none) (hv : v = 0 ∨ v = 1) (kk : jj_J Y X d M (pc + 3) lo st (jj_set x i k v) post) : jj_J Y X d M pc lo (.int v :: .ref i :: st) x post := jj_putV hd hk hi hs hf rfl (jj_bool hv).1 (jj_bool hv).2 kk
theorem jj_putD {i idx ci k j : Nat} {C : String} {fs : List (Option (Option Nat))} (hd : decode M.2.1 pc = .ok (.putfield idx, 3)) (hk : jj_pk Y M.1.cls idx ci k (.object C)) (hi : i < Y.2.1) (hs : Y.1 i = .inr (ci, fs)) (hf : fs[k]? = some (some none)) (hj : j < 2 ^ 31) (kk : jj_J Y X d M (pc + 3) lo st (jj_set x i k (nI j)) post) : jj_J Y X d M pc lo (.ref j :: .ref i :: st) x post := jj_putV (v := nI j) hd hk hi hs hf (by show Value.ref _ = Value.ref _; rw [nI_clamp hj]) rfl rfl kk
theorem jj_iaload {i n : Nat} {f : Nat → Nat} {j v : Int32} (hd : decode M.2.1 pc = .ok (.iaload, 1)) (ht : Y.2.2.2.1[0]? = some .int) (hi : i < Y.2.1) (hs : Y.1 i = .inl (0, n, f)) (hj : vp_in j n) (hv : x i j.toNatClampNeg = v) (kk : jj_J Y X d M (pc + 1) lo (.int v :: st) x post) : jj_J Y X d M pc lo (.int j :: .ref i :: st) x post := by
  intro p e R s m args below meth c F H locs ls hP hS hl
  subst hv
  exact va_iald (D := X.2.2.1) F.1 F.2.1 F.2.2.2.2.2.2.2.1 hP i 0 (by rw [jj_ws_get hi, hs]; rfl) (jj_tys_get ht) hj hd (kk p e R s m args below meth c F H locs ls hP hS hl)
theorem jj_baload {i n : Nat} {f : Nat → Nat} {j v : Int32} (hd : decode M.2.1 pc = .ok (.baload, 1)) (ht : Y.2.2.2.1[1]? = some .boolean) (hi : i < Y.2.1) (hs : Y.1 i = .inl (1, n, f)) (hj : vp_in j n) (hv : x i j.toNatClampNeg = v) (kk : jj_J Y X d M (pc + 1) lo (.int v :: st) x post) : jj_J Y X d M pc lo (.int j :: .ref i :: st) x post := by
  intro p e R s m args below meth c F H locs ls hP hS hl
  subst hv
  exact va_zald (D := X.2.2.1) F.1 F.2.1 F.2.2.2.2.2.2.2.1 hP i 1 (by rw [jj_ws_get hi, hs]; rfl) (jj_tys_get ht) hj hd (kk p e R s m args below meth c F H locs ls hP hS hl)
theorem jj_aaload {i n kd : Nat} {f : Nat → Nat} {C : String} {j : Int32} {q : Nat} (hd : decode M.2.1 pc = .ok (.aaload, 1)) (ht : Y.2.2.2.1[kd + 2]? = some (.object C)) (hi : i < Y.2.1) (hs : Y.1 i = .inl (kd + 2, n, f)) (hj : vp_in j n) (hv : f j.toNatClampNeg = q) (kk : jj_J Y X d M (pc + 1) lo (.ref q :: st) x post) : jj_J Y X d M pc lo (.int j :: .ref i :: st) x post := by
  intro p e R s m args below meth c F H locs ls hP hS hl
  subst hv
  exact va_aldq (D := X.2.2.1) (f := fun z => some (X.2.1 (f z))) F.1 F.2.1 F.2.2.2.2.2.2.2.1 hP i (kd + 2) (by rw [jj_ws_get hi, hs]; rfl) (jj_tys_get ht) hj hd (kk p e R s m args below meth c F H locs ls hP hS hl)
theorem jj_iastore {i n : Nat} {f : Nat → Nat} {j v : Int32} (hd : decode M.2.1 pc = .ok (.iastore, 1)) (ht : Y.2.2.2.1[0]? = some .int) (hi : i < Y.2.1) (hs : Y.1 i = .inl (0, n, f)) (hj : vp_in j n) (kk : jj_J Y X d M (pc + 1) lo st (jj_set x i j.toNatClampNeg v) post) : jj_J Y X d M pc lo (.int v :: .int j :: .ref i :: st) x post := by
  intro p e R s m args below meth c F H locs ls hP hS hl
  obtain ⟨hx, hb, -, hown, -, -, -, hK, -, -, hok, -, hts⟩ := id F
  refine va_iast (D := X.2.2.1) hx hb hK hP (jj_D hok x) hS i 0 (by rw [jj_ws_get hi, hs]; rfl) (jj_tys_get ht) hj hd (fun H1 locs1 hP1 hD1 hS1 => ?_)
  have e1 : (Sum.inl (X.2.2.2.1 0, n, Sum.inl (upd (x i) j.toNatClampNeg v)) : va_E) = jj_e X (Y.1 i) (upd (x i) j.toNatClampNeg v) := by rw [hs]; rfl
  rw [e1, jj_ws_set hi] at hP1
  exact kk p e R s m args below meth c F H1 locs1 ls hP1 hS1 hl
theorem jj_bastore {i n : Nat} {f : Nat → Nat} {j v : Int32} (hd : decode M.2.1 pc = .ok (.bastore, 1)) (ht : Y.2.2.2.1[1]? = some .boolean) (hi : i < Y.2.1) (hs : Y.1 i = .inl (1, n, f)) (hj : vp_in j n) (hv : v = 0 ∨ v = 1) (kk : jj_J Y X d M (pc + 1) lo st (jj_set x i j.toNatClampNeg v) post) : jj_J Y X d M pc lo (.int v :: .int j :: .ref i :: st) x post := by
  intro p e R s m args below meth c F H locs ls hP hS hl
  obtain ⟨hx, hb, -, hown, -, -, -, hK, -, -, hok, -, hts⟩ := id F
  refine va_zast (D := X.2.2.1) hx hb hK hP (jj_D hok x) hS i 1 (by rw [jj_ws_get hi, hs]; rfl) (jj_tys_get ht) hj hd (fun H1 locs1 hP1 hD1 hS1 => ?_)
  have e0 : vp_nar .boolean v = v := by rcases hv with rfl | rfl <;> decide
  have e1 : (Sum.inl (X.2.2.2.1 1, n, Sum.inl (upd (x i) j.toNatClampNeg (vp_nar .boolean v))) : va_E) = jj_e X (Y.1 i) (upd (x i) j.toNatClampNeg v) := by rw [hs, e0]; rfl
  rw [e1, jj_ws_set hi] at hP1
  exact kk p e R s m args below meth c F H1 locs1 ls hP1 hS1 hl
theorem jj_ireturn {v : Int32} (hd : decode M.2.1 pc = .ok (.ireturn, 1)) (hr : M.2.2.2 = some .int) (hp : post (some (.int v)) x) : jj_J Y X d M pc lo [.int v] x post := by
  intro p e R s m args below meth c F H locs ls hP hS hl
  obtain ⟨hx, hb, -, hown, hrt, hlk, -, hK, -, -, hok, -, hts⟩ := id F
  exact W.iret hx hb (hrt.trans hr) (fun t ht hW => ⟨⟨some (.int v), x, rfl, hp, by rw [ht]; exact hP, va_K.moved hW.alike hK⟩, hS.F ht⟩) hS.2.2 hd hlk
theorem jj_zreturn {v : Int32} (hd : decode M.2.1 pc = .ok (.ireturn, 1)) (hr : M.2.2.2 = some .boolean) (hv : v = 0 ∨ v = 1) (hp : post (some (.int v)) x) : jj_J Y X d M pc lo [.int v] x post := by
  intro p e R s m args below meth c F H locs ls hP hS hl
  obtain ⟨hx, hb, -, hown, hrt, hlk, -, hK, -, -, hok, -, hts⟩ := id F
  exact W.zret hx hb (hrt.trans hr) (jj_bool hv).1 (fun t ht hW => ⟨⟨some (.int v), x, rfl, hp, by rw [ht]; exact hP, va_K.moved hW.alike hK⟩, hS.F ht⟩) hS.2.2 hd hlk
theorem jj_return (hd : decode M.2.1 pc = .ok (.return_, 1)) (hr : M.2.2.2 = none) (hp : post none x) : jj_J Y X d M pc lo [] x post := by
  intro p e R s m args below meth c F H locs ls hP hS hl
  obtain ⟨hx, hb, -, hown, hrt, hlk, -, hK, -, -, hok, -, hts⟩ := id F
  exact W.vret hx hb (hrt.trans hr) (fun t ht hW => ⟨⟨none, x, rfl, hp, by rw [ht]; exact hP, va_K.moved hW.alike hK⟩, hS.F ht⟩) hS.2.2 hd hlk
theorem jj_areturn {i : Nat} {C : String} (hd : decode M.2.1 pc = .ok (.areturn, 1)) (hr : M.2.2.2 = some (.object C)) (hp : post (some (.ref i)) x) : jj_J Y X d M pc lo [.ref i] x post := by
  intro p e R s m args below meth c F H locs ls hP hS hl
  obtain ⟨hx, hb, -, hown, hrt, hlk, -, hK, -, -, hok, -, hts⟩ := id F
  exact W.aret (v := .ref (X.2.1 i)) hx hb (hrt.trans hr) (Or.inl ⟨_, rfl⟩) (Or.inr ⟨_, rfl⟩) (fun t ht hW => ⟨⟨some (.ref i), x, rfl, hp, by rw [ht]; exact hP, va_K.moved hW.alike hK⟩, hS.F ht⟩) hS.2.2 hd hlk
end JJF
/-! calls -/
theorem jj_in.blind {Y : jj_Y} {X : jj_X} {x : jj_Mem} {av : List Value} : FrameBlind (va_Pc av (jj_in Y X x)) := by
  intro a U g mk h
  obtain ⟨h0, hP, hK, hw, hz, hok⟩ := h
  exact ⟨h0, hP, va_K.moved (u := U) (U := U.calling g mk a) (Vm.Alike.refl U.vm) hK, fun w hw2 a2 V hV => hw w hw2 a2 V (State.WarmedH.of_rootvm (s := U.calling g mk a) (u := U) rfl hV), hz, hok⟩
def jj_cm (Y : jj_Y) (N : jj_M) (n : Nat) : Prop := Cond.initialized N.1.cls ∈ Y.2.2.2.2 ∧ Cond.code N.1 N.2.1 N.2.2.1 N.2.2.2 ∈ Y.2.2.2.2 ∧ (N.1.cls ≠ "java/lang/invoke/MethodHandle" ∧ N.1.cls ≠ "java/lang/invoke/VarHandle" ∧ (parseMethodDescriptor N.1.desc).map (fun d => d.parameters.length) = some n) ∧ N.2.2.1 ≤ 21
def jj_cv (Y : jj_Y) (own : String) (idx : Nat) (N : jj_M) (n : Nat) : Prop := jj_cm Y N n ∧ Cond.methodLink own idx N.1 ∈ Y.2.2.2.2 ∧ Cond.instanceMethod N.1 ∈ Y.2.2.2.2 ∧ Cond.selects N.1.cls N.1 N.1 ∈ Y.2.2.2.2
def jj_cs (Y : jj_Y) (own : String) (idx : Nat) (N : jj_M) (n : Nat) : Prop := jj_cm Y N n ∧ Cond.methodLink own idx N.1 ∈ Y.2.2.2.2 ∧ Cond.static N.1 ∈ Y.2.2.2.2
def jj_cn (Y : jj_Y) (own : String) (idx : Nat) (N : jj_M) (n : Nat) : Prop := jj_cm Y N n ∧ (∃ host, Cond.methodLinkNest own idx N.1 host ∈ Y.2.2.2.2) ∧ Cond.static N.1 ∈ Y.2.2.2.2
section JJC
variable {Y : jj_Y} {X : jj_X} {d : Nat} {M N : jj_M} {pc : Nat} {lo : List (Option Value)} {st stk : List Value} {x : jj_Mem} {post post' : Option Value → jj_Mem → Prop}
/-- behind a call -/
theorem jj_behind {p : Program} {e : Env} {R : Room} {s : State} {m : MethodId} {args : Array Value} {below : List Frame} {meth : Method} {c : Code} {H : Heap} {locs : List Loc} {ls : Array Slot} {a : Array Value}
    (F : jj_fr Y X d M p R s m args meth c) (hS : va_S (jj_A X) s.heap H locs) (hl : jj_has X ls M.2.2.1 lo)
    (hr : va_Run p X.1 e R s m args below meth c H locs 0 0 0 0 (F0 m pc ls (stk.map (jj_v X))) (st.map (jj_v X)) (jj_Q Y X post' a) (jj_A X))
    (kk : ∀ (r : Option Value) (x' : jj_Mem), post' r x' → jj_J Y X d M (pc + 3) lo (r.toList ++ st) x' post) :
    W p X.1 e R s m args below meth c H locs 0 0 (MQ below (jj_Q Y X post) args s 0 0 (jj_A X)) (F0 m pc ls (stk.map (jj_v X))) := by
  intro T hT Z
  obtain ⟨v, st₀, t, T', L, h0, Z', hL, e1, e2, ⟨⟨r, x', hv, hp, hPt, hKt⟩, hz, hk⟩, go⟩ := hr T hT Z
  cases hv
  rw [h0] at hz hk
  have hS' : va_S (jj_A X) s.heap T'.heap (locs ++ L) := ⟨Nat.le_trans hS.1 (by rw [e1]; exact hz), fun q h1 h2 => by rw [e1, hk q (Nat.lt_of_lt_of_le h1 hS.1) h2]; exact hS.2.1 q h1 h2, fun q hq => by
      rcases List.mem_append.mp hq with h | h
      · exact hS.2.2 q h
      · exact hL q h⟩
  obtain ⟨t2, a1, b1⟩ := kk r x' hp p e R s m args below meth c F T'.heap (locs ++ L) ls (by rw [e1]; exact hPt) hS' hl T' rfl Z'
  refine ⟨t2, go t2 ?_, b1⟩
  have e3 : (r.map (jj_v X)).toList ++ st.map (jj_v X) = (r.toList ++ st).map (jj_v X) := by cases r <;> simp
  rw [e3]
  exact a1
theorem jj_pre {p : Program} {R : Room} {s : State} {m : MethodId} {args : Array Value} {meth : Method} {c : Code} {H : Heap} {locs : List Loc} {as : List Value}
    (F : jj_fr Y X d M p R s m args meth c) (hP : va_P X.2.2.1 Y.2.2.1 (jj_ws Y X x) H) (hS : va_S (jj_A X) s.heap H locs) : PreS s H (va_Pc (as.map (jj_v X)) (jj_in Y X x)) (as.map (jj_v X)) := by
  obtain ⟨hx, hb, -, hown, hrt, hlk, hw, hK, -, -, hok, hsz, hts⟩ := id F
  exact ⟨jj_in.blind, fun U hU hW => ⟨rfl, by rw [hU]; exact hP, va_K.moved hW.alike hK, hw.moved hW, by rw [hU]; exact hsz.mono hS.1, hok⟩⟩
theorem jj_cb {p : Program} {R : Room} {s : State} {m : MethodId} {args : Array Value} {meth : Method} {c : Code} {own : String} {idx n : Nat}
    (F : jj_fr Y X (d + 1) M p R s m args meth c) (hk : jj_cm Y N n) (hlk : Cond.methodLink own idx N.1 ∈ Y.2.2.2.2) : CallB R s args own idx N.1 N.2.1 N.2.2.1 N.2.2.2 [.code N.1 N.2.1 N.2.2.1 N.2.2.2] ({ frames := d, cells := 0, slots := 0, locals := 40 * d }) 0 0 n := by
  obtain ⟨hx, hb, -, hown, hrt, -, hw, hK, hfr, hlo, hok, hsz, hts⟩ := id F
  obtain ⟨k1, k2, k3, k4⟩ := hk
  refine ⟨rfl, rfl, hfr, ?_, fun w hw2 a' U hW => ?_, List.mem_singleton.mpr rfl, hts _ k2, hts _ k1, ⟨k3.1, k3.2.1⟩, fun sig h => ?_, hts _ hlk⟩
  · show 8 + (N.2.2.1 + 11) + 40 * d ≤ R.locals
    omega
  · rw [List.mem_singleton.mp hw2]
    exact hw _ k2 a' U hW
  · have h2 := k3.2.2
    rw [h] at h2
    exact (Option.some.inj h2).symm
theorem jj_callV {i idx ci n : Nat} {fs : List (Option (Option Nat))} {as : List Value} (hM : jj_Met Y X d N (.ref i :: as) x post') (hd : decode M.2.1 pc = .ok (.invokevirtual idx, 3)) (hk : jj_cv Y M.1.cls idx N n) (hi : i < Y.2.1) (hs : Y.1 i = .inr (ci, fs)) (hc : ∃ q, Y.2.2.1[ci]? = some q ∧ q.1 = N.1.cls) (hn : as.length = n) (hst : stk = as.reverse ++ .ref i :: st) (hroom : (st.map fun v => v.category).sum ≤ 8)
    (kk : ∀ (r : Option Value) (x' : jj_Mem), post' r x' → jj_J Y X (d + 1) M (pc + 3) lo (r.toList ++ st) x' post) : jj_J Y X (d + 1) M pc lo stk x post := by
  intro p e R s m args below meth c F H locs ls hP hS hl
  obtain ⟨hx, hb, hml, hown, hrt, hlk, hw, hK, hfr, hlo, hok, hsz, hts⟩ := id F
  obtain ⟨q, hq, hqn⟩ := hc
  have hrecv := va_recv (D := X.2.2.1) (a := X.2.1 i) (q0 := i) (fs := jj_fl X (x i) 0 fs) hK hP hq (by rw [jj_ws_get hi, hs]; rfl)
  rw [hqn] at hrecv
  refine jj_behind F hS hl (va_runV (n := n) (nL := M.2.2.1) (C := N.1.cls) (As := as.map (jj_v X)) (b := X.2.1 i) (rest := st.map (jj_v X)) ⟨hx, hb, hml, hown, hts⟩ hM ⟨jj_cb F hk.1 hk.2.1, hts _ hk.2.2.1, hts _ hk.2.2.2⟩ ⟨jj_in.blind, hrecv, (jj_pre (as := .ref i :: as) F hP hS).2⟩ rfl (by rw [List.length_map]; exact hn) hl.1 ?_ ?_ hd ⟨Nat.zero_le _, Nat.zero_le _⟩) kk
  · show stk.map (jj_v X) = _
    rw [hst, List.map_append, List.map_reverse]
    rfl
  · refine lv_room ?_
    rw [List.map_map]
    rw [show ((fun v : Value => v.category) ∘ jj_v X) = (fun v => v.category) from funext (fun v => jj_v_cat X v)]
    exact hroom
theorem jj_callS {idx n : Nat} {as : List Value} (hM : jj_Met Y X d N as x post') (hd : decode M.2.1 pc = .ok (.invokestatic idx, 3)) (hk : jj_cs Y M.1.cls idx N n) (hn : as.length = n) (hst : stk = as.reverse ++ st) (hroom : (st.map fun v => v.category).sum ≤ 8)
    (kk : ∀ (r : Option Value) (x' : jj_Mem), post' r x' → jj_J Y X (d + 1) M (pc + 3) lo (r.toList ++ st) x' post) : jj_J Y X (d + 1) M pc lo stk x post := by
  intro p e R s m args below meth c F H locs ls hP hS hl
  obtain ⟨hx, hb, hml, hown, hrt, hlk, hw, hK, hfr, hlo, hok, hsz, hts⟩ := id F
  refine jj_behind F hS hl (va_runS (n := n) (nL := M.2.2.1) (As := as.map (jj_v X)) (rest := st.map (jj_v X)) ⟨hx, hb, hml, hown, hts⟩ hM ⟨jj_cb F hk.1 hk.2.1, hts _ hk.2.2⟩ (jj_pre F hP hS) rfl (by rw [List.length_map]; exact hn) hl.1 ?_ ?_ hd ⟨Nat.zero_le _, Nat.zero_le _⟩) kk
  · show stk.map (jj_v X) = _
    rw [hst, List.map_append, List.map_reverse]
  · refine lv_room ?_
    rw [List.map_map]
    rw [show ((fun v : Value => v.category) ∘ jj_v X) = (fun v => v.category) from funext (fun v => jj_v_cat X v)]
    exact hroom
theorem jj_callSN {idx n : Nat} {as : List Value} (hM : jj_Met Y X d N as x post') (hd : decode M.2.1 pc = .ok (.invokestatic idx, 3)) (hk : jj_cn Y M.1.cls idx N n) (hn : as.length = n) (hst : stk = as.reverse ++ st) (hroom : (st.map fun v => v.category).sum ≤ 8)
    (kk : ∀ (r : Option Value) (x' : jj_Mem), post' r x' → jj_J Y X (d + 1) M (pc + 3) lo (r.toList ++ st) x' post) : jj_J Y X (d + 1) M pc lo stk x post := by
  intro p e R s m args below meth c F H locs ls hP hS hl
  obtain ⟨hx, hb, hml, hown, hrt, hlk, hw, hK, hfr, hlo, hok, hsz, hts⟩ := id F
  obtain ⟨⟨k1, k2, k3, k4⟩, ⟨host, k5⟩, k6⟩ := hk
  refine jj_behind F hS hl (va_runSN (n := n) (nL := M.2.2.1) (host := host) (As := as.map (jj_v X)) (rest := st.map (jj_v X)) ⟨hx, hb, hml, hown, hts⟩ hM ⟨⟨⟨rfl, rfl, hfr, ?_, fun w hw2 a' U hW => ?_, List.mem_singleton.mpr rfl⟩, hts _ k2, hts _ k1, ⟨k3.1, k3.2.1⟩, fun sig h => ?_, hts _ k5⟩, hts _ k6, trivial⟩ (jj_pre F hP hS) rfl (by rw [List.length_map]; exact hn) hl.1 ?_ ?_ hd ⟨Nat.zero_le _, Nat.zero_le _⟩) kk
  · show 8 + (N.2.2.1 + 11) + 40 * d ≤ R.locals
    omega
  · rw [List.mem_singleton.mp hw2]
    exact hw _ k2 a' U hW
  · have h2 := k3.2.2
    rw [h] at h2
    exact (Option.some.inj h2).symm
  · show stk.map (jj_v X) = _
    rw [hst, List.map_append, List.map_reverse]
  · refine lv_room ?_
    rw [List.map_map]
    rw [show ((fun v : Value => v.category) ∘ jj_v X) = (fun v => v.category) from funext (fun v => jj_v_cat X v)]
    exact hroom
/-- Math.max -/
theorem jj_max {idx : Nat} {a b : Int32} (hd : decode M.2.1 pc = .ok (.invokestatic idx, 3)) (h1 : Cond.methodLink M.1.cls idx Lib.Math.max.name ∈ Y.2.2.2.2) (h2 : Cond.static Lib.Math.max.name ∈ Y.2.2.2.2) (h3 : Cond.initialized "java/lang/Math" ∈ Y.2.2.2.2) (h4 : Cond.code Lib.Math.max.name Lib.Math.max.code 2 (some .int) ∈ Y.2.2.2.2) (hroom : (st.map fun v => v.category).sum ≤ 8)
    (k : jj_J Y X (d + 1) M (pc + 3) lo (.int (if a < b then b else a) :: st) x post) : jj_J Y X (d + 1) M pc lo (.int b :: .int a :: st) x post := by
  intro p e R s m args below meth c F H locs ls hP hS hl
  obtain ⟨hx, hb, hml, hown, hrt, hlk, hw, hK, hfr, hlo, hok, hsz, hts⟩ := id F
  refine va_mmax hx hb (by rw [hml, hl.1]) hown (hts _ h1) (hts _ h2) (hts _ h3) (hts _ h4) (by omega) ?_ (Nat.zero_le _) (Nat.zero_le _) hd (k p e R s m args below meth c F H locs ls hP hS hl)
  rw [List.map_map]
  rw [show ((fun v : Value => v.category) ∘ jj_v X) = (fun v => v.category) from funext (fun v => jj_v_cat X v)]
  omega
/-- System.arraycopy of ints -/
theorem jj_copy {idx i0 i1 n0 n1 : Nat} {f0 f1 : Nat → Nat} {sp dp n : Int32} (hd : decode M.2.1 pc = .ok (.invokestatic idx, 3)) (k1 : Cond.methodLink M.1.cls idx arraycopyName ∈ Y.2.2.2.2) (k2 : Cond.native arraycopyName ∈ Y.2.2.2.2) (k3 : Cond.static arraycopyName ∈ Y.2.2.2.2) (k4 : Cond.initialized "java/lang/System" ∈ Y.2.2.2.2) (ht : Y.2.2.2.1[0]? = some .int) (hroom : (st.map fun v => v.category).sum ≤ 8)
    (hi0 : i0 < Y.2.1) (hs0 : Y.1 i0 = .inl (0, n0, f0)) (hi1 : i1 < Y.2.1) (hs1 : Y.1 i1 = .inl (0, n1, f1)) (h1 : ¬ sp < 0) (h2 : ¬ dp < 0) (h3 : ¬ n < 0) (h4 : sp.toNatClampNeg + n.toNatClampNeg ≤ n0) (h5 : dp.toNatClampNeg + n.toNatClampNeg ≤ n1)
    (k : jj_J Y X (d + 1) M (pc + 3) lo st (va_up x i1 (va_cpy (x i0) (x i1) sp.toNatClampNeg dp.toNatClampNeg n.toNatClampNeg)) post) : jj_J Y X (d + 1) M pc lo (.int n :: .int dp :: .ref i1 :: .int sp :: .ref i0 :: st) x post := by
  intro p e R s m args below meth c F H locs ls hP hS hl
  obtain ⟨hx, hb, hml, hown, hrt, hlk, hw, hK, hfr, hlo, hok, hsz, hts⟩ := id F
  refine va_copyi (D := X.2.2.1) hx hb (by rw [hml, hl.1]) hown (hts _ k1) (hts _ k2) (hts _ k3) (hts _ k4) hK hP (jj_D hok x) hS i0 i1 0 0 (by rw [jj_ws_get hi0, hs0]; rfl) (by rw [jj_ws_get hi1, hs1]; rfl) (jj_tys_get ht) (jj_tys_get ht) rfl h1 h2 h3 h4 h5 (fun _ _ => rfl) (by omega) ?_ hd (fun H1 locs1 hP1 hD1 hS1 => ?_)
  · rw [List.map_map]
    rw [show ((fun v : Value => v.category) ∘ jj_v X) = (fun v => v.category) from funext (fun v => jj_v_cat X v)]
    have e9 : nativeFrameWords "java/lang/System" "arraycopy" 5 + 11 ≤ 32 := by decide +kernel
    omega
  · have e1 : (Sum.inl (X.2.2.2.1 0, n1, Sum.inl (va_cpy (x i0) (x i1) sp.toNatClampNeg dp.toNatClampNeg n.toNatClampNeg)) : va_E) = jj_e X (Y.1 i1) (va_cpy (x i0) (x i1) sp.toNatClampNeg dp.toNatClampNeg n.toNatClampNeg) := by rw [hs1]; rfl
    rw [e1, jj_ws_set hi1] at hP1
    exact k p e R s m args below meth c F H1 locs1 ls hP1 hS1 hl
end JJC
/-- a contract's post may be weakened -/
theorem jj_J.mono {Y : jj_Y} {X : jj_X} {d : Nat} {M : jj_M} {pc : Nat} {lo : List (Option Value)} {st : List Value} {x : jj_Mem} {post post' : Option Value → jj_Mem → Prop} (h : jj_J Y X d M pc lo st x post) (hp : ∀ r x', post r x' → post' r x') : jj_J Y X d M pc lo st x post' := by
  intro p e R s m args below meth c F H locs ls hP hS hl T hT Z
  obtain ⟨t, a, o, b1, b2, ⟨⟨r, x', q1, q2, q3⟩, q4⟩, b3⟩ := h p e R s m args below meth c F H locs ls hP hS hl T hT Z
  exact ⟨t, a, o, b1, b2, ⟨⟨r, x', q1, hp r x' q2, q3⟩, q4⟩, b3⟩
theorem jj_J.sub {Y : jj_Y} {X : jj_X} {d : Nat} {M : jj_M} {pc : Nat} {lo lo' : List (Option Value)} {st : List Value} {x : jj_Mem} {post : Option Value → jj_Mem → Prop} (h : jj_J Y X d M pc lo' st x post) (hs : ∀ (i : Nat) (v : Value), lo'[i]? = some (some v) → lo[i]? = some (some v)) : jj_J Y X d M pc lo st x post := by
  intro p e R s m args below meth c F H locs ls hP hS hl
  exact h p e R s m args below meth c F H locs ls hP hS ⟨hl.1, hl.2.1, fun i v hi => hl.2.2 i v (hs i v hi)⟩
