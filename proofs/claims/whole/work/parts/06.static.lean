/-! methods over ints alone, by reckoning: se_run walks the code itself; what it answers, the method answers -/
def se_cmp (c : Jvm.ClassFile.Cond) (a b : Int32) : Bool := match c with
  | .eq => a == b
  | .ne => !(a == b)
  | .lt => decide (a < b)
  | .ge => decide (b ≤ a)
  | .gt => decide (b < a)
  | .le => decide (a ≤ b)
def se_code (bs : ByteArray) (pc : Nat) : Option (Instr × Nat) := match decode bs pc with
  | .ok r => some r
  | .error _ => none
theorem se_code_ok {bs : ByteArray} {pc : Nat} {r : Instr × Nat} (h : se_code bs pc = some r) : decode bs pc = .ok r := by
  unfold se_code at h
  split at h
  · next r2 e => rw [e]; exact congrArg _ (Option.some.inj h)
  · cases h
def se_go (pc : Nat) (off : Int) (k : Nat → Option Int32) : Option Int32 := match (pc : Int) + off with
  | .ofNat t => k t
  | .negSucc _ => none
theorem se_go_ok {pc : Nat} {off : Int} {k : Nat → Option Int32} {v : Int32} (h : se_go pc off k = some v) : ∃ t : Nat, (pc : Int) + off = (t : Int) ∧ k t = some v := by
  unfold se_go at h
  split at h
  · next t e => exact ⟨t, e, h⟩
  · cases h
def se_run (bz : Bool) (nL : Nat) (call : Nat → Option (Nat × (List Int32 → Option Int32))) (code : Nat → Option (Instr × Nat)) : Nat → Nat → List Int32 → List Int32 → Option Int32
  | 0, _, _, _ => none
  | f + 1, pc, lo, st => match code pc with
    | some (.iload_n k, 1) => match lo[(k : Nat)]? with
      | some v => se_run bz nL call code f (pc + 1) lo (v :: st)
      | none => none
    | some (.iload k, 2) => match lo[k]? with
      | some v => se_run bz nL call code f (pc + 2) lo (v :: st)
      | none => none
    | some (.iconst n, 1) => se_run bz nL call code f (pc + 1) lo (Int32.ofInt n :: st)
    | some (.bipush n, 2) => se_run bz nL call code f (pc + 2) lo ((Int8.ofInt n).toInt32 :: st)
    | some (.sipush n, 3) => se_run bz nL call code f (pc + 3) lo ((Int16.ofInt n).toInt32 :: st)
    | some (.istore_n k, 1) => match st with
      | v :: st => if (k : Nat) < nL ∧ (k : Nat) ≤ lo.length then se_run bz nL call code f (pc + 1) (if (k : Nat) = lo.length then lo ++ [v] else lo.set k v) st else none
      | [] => none
    | some (.istore k, 2) => match st with
      | v :: st => if k < nL ∧ k ≤ lo.length then se_run bz nL call code f (pc + 2) (if k = lo.length then lo ++ [v] else lo.set k v) st else none
      | [] => none
    | some (.iadd, 1) => match st with
      | b :: a :: st => se_run bz nL call code f (pc + 1) lo ((a + b) :: st)
      | _ => none
    | some (.isub, 1) => match st with
      | b :: a :: st => se_run bz nL call code f (pc + 1) lo ((a - b) :: st)
      | _ => none
    | some (.imul, 1) => match st with
      | b :: a :: st => se_run bz nL call code f (pc + 1) lo ((a * b) :: st)
      | _ => none
    | some (.ifCond c off, 3) => match st with
      | a :: st => se_go pc off (fun t => if se_cmp c a 0 = true then se_run bz nL call code f t lo st else se_run bz nL call code f (pc + 3) lo st)
      | [] => none
    | some (.if_icmp c off, 3) => match st with
      | b :: a :: st => se_go pc off (fun t => if se_cmp c a b = true then se_run bz nL call code f t lo st else se_run bz nL call code f (pc + 3) lo st)
      | _ => none
    | some (.goto off, 3) => se_go pc off (fun t => se_run bz nL call code f t lo st)
    | some (.lookupswitch dflt ps, _) => match st with
      | a :: st => if (ps.toList.zip (ps.toList.drop 1)).all (fun (a, next) => a.1 < next.1) = true then se_go pc (Op.lookupswitch.offset ps.toList dflt a.toInt) (fun t => se_run bz nL call code f t lo st) else none
      | [] => none
    | some (.invokestatic idx, 3) => match call idx with
      | some (n, g) => if n ≤ st.length ∧ (st.drop n).length ≤ 8 then (match g (st.take n).reverse with
        | some v => se_run bz nL call code f (pc + 3) lo (v :: st.drop n)
        | none => none) else none
      | none => none
    | some (.ireturn, 1) => match st with
      | [v] => if bz = true then (if v = 0 ∨ v = 1 then some v else none) else some v
      | _ => none
    | _ => none
def se_lo (lo : List Int32) : List (Option Value) := lo.map (fun v => some (Value.int v))
def se_st (st : List Int32) : List Value := st.map (fun v => Value.int v)
theorem se_lo_get {lo : List Int32} {k : Nat} {v : Int32} (h : lo[k]? = some v) : (se_lo lo)[k]? = some (some (.int v)) := by
  simp [se_lo, h]
theorem se_k1 (lo : List Int32) (k : Nat) : jj_k1 (se_lo lo) k = true := by
  cases k with
  | zero => rfl
  | succ k =>
    simp only [jj_k1, se_lo, List.getElem?_map]
    cases lo[k]? <;> rfl
theorem se_cat : ∀ st : List Int32, ((se_st st).map fun v => v.category).sum = st.length
  | [] => rfl
  | a :: r => by
    have := se_cat r
    simp only [se_st, List.map_cons, List.sum_cons, List.length_cons] at this ⊢
    rw [this]
    simp [Value.category, Nat.add_comm]
theorem se_set {lo : List Int32} {k : Nat} {v : Int32} (hk : k ≤ lo.length) : ∀ (i : Nat) (u : Value), (se_lo (if k = lo.length then lo ++ [v] else lo.set k v))[i]? = some (some u) → ((se_lo lo ++ [none]).set k (some (.int v)))[i]? = some (some u) := by
  intro i u h
  have hl : (se_lo lo).length = lo.length := by simp [se_lo]
  by_cases e : k = lo.length
  · rw [if_pos e] at h
    subst e
    by_cases hi : i < lo.length
    · rw [List.getElem?_set_ne (by omega), List.getElem?_append_left (by omega)]
      simp only [se_lo, List.map_append, List.map_cons, List.map_nil] at h
      rw [List.getElem?_append_left (by simpa using hi)] at h
      exact h
    · simp only [se_lo, List.map_append, List.map_cons, List.map_nil] at h
      rw [List.getElem?_append_right (by simp; omega)] at h
      have hz := (List.getElem?_eq_some_iff.mp h).1
      simp at hz
      have e2 : i = lo.length := by omega
      subst e2
      simp at h
      rw [List.getElem?_set_self (by simp [hl])]
      exact congrArg (fun z => some (some z)) h
  · rw [if_neg e] at h
    have hlt : k < lo.length := by omega
    by_cases hi : i = k
    · subst hi
      simp [se_lo, hlt] at h
      rw [List.getElem?_set_self (by simp [hl]; omega)]
      exact congrArg (fun z => some (some z)) h
    · rw [List.getElem?_set_ne (Ne.symm hi)]
      simp only [se_lo, List.getElem?_map] at h
      rw [List.getElem?_set_ne (Ne.symm hi)] at h
      have hi2 : i < lo.length := by
        by_cases q : i < lo.length
        · exact q
        · rw [List.getElem?_eq_none (by omega)] at h; cases h
      rw [List.getElem?_append_left (by omega)]
      simpa [se_lo] using h
set_option maxHeartbeats 4000000 in
theorem se_sound {Y : jj_Y} {X : jj_X} {D : Nat} {M : jj_M} {x : jj_Mem} {bz : Bool} {nL : Nat} {call : Nat → Option (Nat × (List Int32 → Option Int32))} {code : Nat → Option (Instr × Nat)} (hnL : nL = M.2.2.1) (hret : M.2.2.2 = some (if bz = true then .boolean else .int)) (hcode : ∀ pc r, code pc = some r → decode M.2.1 pc = .ok r)
    (hcall : ∀ idx n g, call idx = some (n, g) → ∃ (d : Nat) (N : jj_M), D = d + 1 ∧ (jj_cs Y M.1.cls idx N n ∨ jj_cn Y M.1.cls idx N n) ∧ ∀ (as : List Int32) (v : Int32), as.length = n → g as = some v → jj_Met Y X d N (se_st as) x (fun r x' => r = some (.int v) ∧ x' = x)) :
    ∀ (f pc : Nat) (lo st : List Int32) (v : Int32), se_run bz nL call code f pc lo st = some v → jj_J Y X D M pc (se_lo lo) (se_st st) x (fun r x' => r = some (.int v) ∧ x' = x) := by
  intro f
  induction f with
  | zero => intro pc lo st v h; simp [se_run] at h
  | succ f ih =>
    intro pc lo st v h
    have hset : ∀ (k : Nat) (w : Int32), k ≤ lo.length → ∀ (pc2 : Nat) (st2 : List Int32), jj_J Y X D M pc2 (se_lo (if k = lo.length then lo ++ [w] else lo.set k w)) (se_st st2) x (fun r x' => r = some (.int v) ∧ x' = x) → jj_J Y X D M pc2 ((se_lo lo ++ [none]).set k (some (.int w))) (se_st st2) x (fun r x' => r = some (.int v) ∧ x' = x) := fun k w hk pc2 st2 hJ => hJ.sub (se_set hk)
    have hwide : ∀ (pc2 : Nat) (st2 : List Value), jj_J Y X D M pc2 (se_lo lo ++ [none]) st2 x (fun r x' => r = some (.int v) ∧ x' = x) → jj_J Y X D M pc2 (se_lo lo) st2 x (fun r x' => r = some (.int v) ∧ x' = x) := fun pc2 st2 hJ => hJ.sub (fun i u hi => by
      by_cases q : i < (se_lo lo).length
      · rwa [List.getElem?_append_left q] at hi
      · rw [List.getElem?_append_right (by omega)] at hi
        have hz := (List.getElem?_eq_some_iff.mp hi).1
        simp at hz
        have e : i - (se_lo lo).length = 0 := by omega
        rw [e] at hi
        simp at hi)
    have hk1 : ∀ k : Nat, jj_k1 (se_lo lo ++ [none]) k = true := by
      intro k
      cases k with
      | zero => rfl
      | succ k =>
        have := se_k1 lo (k + 1)
        simp only [jj_k1] at this ⊢
        by_cases q : k < (se_lo lo).length
        · rwa [List.getElem?_append_left q]
        · rw [List.getElem?_append_right (by omega)]
          cases k - (se_lo lo).length <;> simp
    unfold se_run at h
    split at h
    · next k e =>
      split at h
      · next w hw => exact jj_iload_n (hcode _ _ e) (se_lo_get hw) (ih _ _ _ _ h)
      · cases h
    · next k e =>
      split at h
      · next w hw => exact jj_iload (hcode _ _ e) (se_lo_get hw) (ih _ _ _ _ h)
      · cases h
    · next n e => exact jj_iconst (hcode _ _ e) rfl (ih _ _ _ _ h)
    · next n e => exact jj_bipush (hcode _ _ e) rfl (ih _ _ _ _ h)
    · next n e => exact jj_sipush (hcode _ _ e) rfl (ih _ _ _ _ h)
    · next k e =>
      split at h
      · next w st2 =>
        split at h
        · next hk => exact hwide _ _ (jj_istore_n (hcode _ _ e) rfl (hnL ▸ hk.1) (hk1 _) (hset _ _ hk.2 _ _ (ih _ _ _ _ h)))
        · cases h
      · cases h
    · next k e =>
      split at h
      · next w st2 =>
        split at h
        · next hk => exact hwide _ _ (jj_istore (hcode _ _ e) rfl (hnL ▸ hk.1) (hk1 _) (hset _ _ hk.2 _ _ (ih _ _ _ _ h)))
        · cases h
      · cases h
    · next e =>
      split at h
      · exact jj_iadd (hcode _ _ e) (ih _ _ _ _ h)
      · cases h
    · next e =>
      split at h
      · exact jj_isub (hcode _ _ e) (ih _ _ _ _ h)
      · cases h
    · next e =>
      split at h
      · exact jj_imul (hcode _ _ e) (ih _ _ _ _ h)
      · cases h
    · next cnd off e =>
      split at h
      · next a st2 =>
        obtain ⟨t, ht, h⟩ := se_go_ok h
        have hd := hcode _ _ e
        split at h
        · next hc =>
          have K := ih _ _ _ _ h
          cases cnd <;> simp only [se_cmp, beq_iff_eq, Bool.not_eq_true', beq_eq_false_iff_ne, decide_eq_true_eq, ne_eq] at hc
          · exact jj_if_eq hd ht (fun _ => K) (fun q => absurd hc q)
          · exact jj_if_ne hd ht (fun _ => K) (fun q => absurd q hc)
          · exact jj_if_lt hd ht (fun _ => K) (fun q => absurd hc q)
          · exact jj_if_ge hd ht (fun _ => K) (fun q => absurd hc q)
          · exact jj_if_gt hd ht (fun _ => K) (fun q => absurd hc q)
          · exact jj_if_le hd ht (fun _ => K) (fun q => absurd hc q)
        · next hc =>
          have K := ih _ _ _ _ h
          cases cnd <;> simp only [se_cmp, beq_iff_eq, Bool.not_eq_true', beq_eq_false_iff_ne, decide_eq_true_eq, ne_eq, Classical.not_not] at hc
          · exact jj_if_eq hd ht (fun q => absurd q hc) (fun _ => K)
          · exact jj_if_ne hd ht (fun q => absurd hc q) (fun _ => K)
          · exact jj_if_lt hd ht (fun q => absurd q hc) (fun _ => K)
          · exact jj_if_ge hd ht (fun q => absurd q hc) (fun _ => K)
          · exact jj_if_gt hd ht (fun q => absurd q hc) (fun _ => K)
          · exact jj_if_le hd ht (fun q => absurd q hc) (fun _ => K)
      · cases h
    · next cnd off e =>
      split at h
      · next b a st2 =>
        obtain ⟨t, ht, h⟩ := se_go_ok h
        have hd := hcode _ _ e
        split at h
        · next hc =>
          have K := ih _ _ _ _ h
          cases cnd <;> simp only [se_cmp, beq_iff_eq, Bool.not_eq_true', beq_eq_false_iff_ne, decide_eq_true_eq, ne_eq] at hc
          · exact jj_ic_eq hd ht (fun _ => K) (fun q => absurd hc q)
          · exact jj_ic_ne hd ht (fun _ => K) (fun q => absurd q hc)
          · exact jj_ic_lt hd ht (fun _ => K) (fun q => absurd hc q)
          · exact jj_ic_ge hd ht (fun _ => K) (fun q => absurd hc q)
          · exact jj_ic_gt hd ht (fun _ => K) (fun q => absurd hc q)
          · exact jj_ic_le hd ht (fun _ => K) (fun q => absurd hc q)
        · next hc =>
          have K := ih _ _ _ _ h
          cases cnd <;> simp only [se_cmp, beq_iff_eq, Bool.not_eq_true', beq_eq_false_iff_ne, decide_eq_true_eq, ne_eq, Classical.not_not] at hc
          · exact jj_ic_eq hd ht (fun q => absurd q hc) (fun _ => K)
          · exact jj_ic_ne hd ht (fun q => absurd hc q) (fun _ => K)
          · exact jj_ic_lt hd ht (fun q => absurd q hc) (fun _ => K)
          · exact jj_ic_ge hd ht (fun q => absurd q hc) (fun _ => K)
          · exact jj_ic_gt hd ht (fun q => absurd q hc) (fun _ => K)
          · exact jj_ic_le hd ht (fun q => absurd q hc) (fun _ => K)
      · cases h
    · next off e =>
      obtain ⟨t, ht, h⟩ := se_go_ok h
      exact jj_goto (hcode _ _ e) ht (ih _ _ _ _ h)
    · next dflt ps n e =>
      split at h
      · next a st2 =>
        split at h
        · next hp =>
          obtain ⟨t, ht, h⟩ := se_go_ok h
          exact jj_lookup (hcode _ _ e) hp rfl ht (ih _ _ _ _ h)
        · cases h
      · cases h
    · next idx e =>
      split at h
      · next n g hc =>
        split at h
        · next hn =>
          split at h
          · next w hg =>
            obtain ⟨d, N, rfl, hN, hM⟩ := hcall idx n g hc
            have hM' := hM _ w (by simp; omega) hg
            have hst : se_st st = (se_st (st.take n).reverse).reverse ++ se_st (st.drop n) := by
              simp only [se_st, List.map_reverse, List.reverse_reverse, ← List.map_append, List.take_append_drop]
            have hlen : (se_st (st.take n).reverse).length = n := by simp [se_st]; omega
            have hroom : ((se_st (st.drop n)).map fun v => v.category).sum ≤ 8 := by rw [se_cat]; exact hn.2
            have K := ih _ _ _ _ h
            rcases hN with hN | hN
            · exact jj_callS hM' (hcode _ _ e) hN hlen hst hroom (fun r x' hr => by obtain ⟨rfl, rfl⟩ := hr; exact K)
            · exact jj_callSN hM' (hcode _ _ e) hN hlen hst hroom (fun r x' hr => by obtain ⟨rfl, rfl⟩ := hr; exact K)
          · cases h
        · cases h
      · cases h
    · next e =>
      split at h
      · next w =>
        split at h
        · next hb =>
          split at h
          · next hw =>
            cases h
            exact jj_zreturn (hcode _ _ e) (by rw [hret, if_pos hb]) hw ⟨rfl, rfl⟩
          · cases h
        · next hb =>
          cases h
          exact jj_ireturn (hcode _ _ e) (by rw [hret, if_neg hb]) ⟨rfl, rfl⟩
      · cases h
    · cases h
theorem se_sound0 {Y : jj_Y} {X : jj_X} {d : Nat} {M : jj_M} {x : jj_Mem} {bz : Bool} {nL : Nat} {code : Nat → Option (Instr × Nat)} (hnL : nL = M.2.2.1) (hret : M.2.2.2 = some (if bz = true then .boolean else .int)) (hcode : ∀ pc r, code pc = some r → decode M.2.1 pc = .ok r) :
    ∀ (f pc : Nat) (lo st : List Int32) (v : Int32), se_run bz nL (fun _ => none) code f pc lo st = some v → jj_J Y X d M pc (se_lo lo) (se_st st) x (fun r x' => r = some (.int v) ∧ x' = x) :=
  se_sound hnL hret hcode (fun _ _ _ h => by cases h)
theorem jj_pad (k : Nat) {l : List (Option Value)} {i : Nat} {u : Value} (h : l[i]? = some (some u)) : (l ++ List.replicate k none)[i]? = some (some u) := by
  have hl := (List.getElem?_eq_some_iff.mp h).1
  rw [List.getElem?_append_left hl]
  exact h
