/-! what the laid functions are made of -/
theorem jj_gt {c : Prop} [Decidable c] {α : Type} {a : Option α} {q : α} (h : (if c then a else none) = some q) : c ∧ a = some q := by
  by_cases hc : c
  · rw [if_pos hc] at h; exact ⟨hc, h⟩
  · rw [if_neg hc] at h; cases h
def jj_b1 {α γ : Type} (o : Option α) (k : α → Option γ) : Option γ := match o with
  | some a => k a
  | none => none
def jj_b2 {α β γ : Type} (o : Option (α × β)) (k : α → β → Option γ) : Option γ := match o with
  | some (a, b) => k a b
  | none => none
theorem jj_b1o {α γ : Type} {o : Option α} {k : α → Option γ} {q : γ} (h : jj_b1 o k = some q) : ∃ a, o = some a ∧ k a = some q := by
  cases o with
  | none => cases h
  | some a => exact ⟨a, rfl, h⟩
theorem jj_b2o {α β γ : Type} {o : Option (α × β)} {k : α → β → Option γ} {q : γ} (h : jj_b2 o k = some q) : ∃ a b, o = some (a, b) ∧ k a b = some q := by
  cases o with
  | none => cases h
  | some a => exact ⟨a.1, a.2, rfl, h⟩
def jj_inb (j : Int32) (n : Nat) : Bool := !(decide (j < 0)) && decide (j.toNatClampNeg < n)
theorem jj_inn {j : Int32} {n : Nat} (h : jj_inb j n = true) : vp_in j n := by
  simp only [jj_inb, Bool.and_eq_true, Bool.not_eq_true', decide_eq_false_iff_not, decide_eq_true_eq] at h
  rintro (q | q)
  · exact h.1 q
  · exact Nat.not_le.mpr h.2 q
theorem jj_inb_nI {a n : Nat} (h : a < n) (hn : n < 2 ^ 31) : jj_inb (nI a) n = true := by
  simp only [jj_inb, Bool.and_eq_true, Bool.not_eq_true', decide_eq_false_iff_not, decide_eq_true_eq]
  exact ⟨nI_pos (by omega), by rw [nI_clamp (by omega)]; exact h⟩
def jj_nz (b : Int32) : Bool := !(b == 0)
theorem jj_nzo {b : Int32} (h : jj_nz b = true) : ¬ b = 0 := by
  simpa [jj_nz] using h
def jj_zb (v : Int32) : Bool := v == 0 || v == 1
theorem jj_zbo {v : Int32} (h : jj_zb v = true) : v = 0 ∨ v = 1 := by
  simpa [jj_zb] using h
def jj_cpb (sp dp n : Int32) (n0 n1 : Nat) : Bool := !(decide (sp < 0)) && !(decide (dp < 0)) && !(decide (n < 0)) && decide (sp.toNatClampNeg + n.toNatClampNeg ≤ n0) && decide (dp.toNatClampNeg + n.toNatClampNeg ≤ n1)
theorem jj_cpo {sp dp n : Int32} {n0 n1 : Nat} (h : jj_cpb sp dp n n0 n1 = true) : ¬ sp < 0 ∧ ¬ dp < 0 ∧ ¬ n < 0 ∧ sp.toNatClampNeg + n.toNatClampNeg ≤ n0 ∧ dp.toNatClampNeg + n.toNatClampNeg ≤ n1 := by
  simp only [jj_cpb, Bool.and_eq_true, Bool.not_eq_true', decide_eq_false_iff_not, decide_eq_true_eq] at h
  exact ⟨h.1.1.1.1, h.1.1.1.2, h.1.1.2, h.1.2, h.2⟩
theorem jj_andl {a b : Bool} (h : (a && b) = true) : a = true := by simp at h; exact h.1
theorem jj_andr {a b : Bool} (h : (a && b) = true) : b = true := by simp at h; exact h.2
def jj_mask : List Bool → List (Option Value) → List (Option Value)
  | true :: ks, v :: lo => v :: jj_mask ks lo
  | false :: ks, _ :: lo => none :: jj_mask ks lo
  | _, _ => []
theorem jj_mask_ok : ∀ (ks : List Bool) {lo : List (Option Value)} {i : Nat} {v : Value}, (jj_mask ks lo)[i]? = some (some v) → lo[i]? = some (some v)
  | [], lo, i, v, h => by simp [jj_mask] at h
  | true :: ks, [], i, v, h => by simp [jj_mask] at h
  | false :: ks, [], i, v, h => by simp [jj_mask] at h
  | true :: ks, u :: lo, 0, v, h => by simpa [jj_mask] using h
  | true :: ks, u :: lo, i + 1, v, h => by
    simp only [jj_mask, List.getElem?_cons_succ] at h ⊢
    exact jj_mask_ok ks h
  | false :: ks, u :: lo, 0, v, h => by simp [jj_mask] at h
  | false :: ks, u :: lo, i + 1, v, h => by
    simp only [jj_mask, List.getElem?_cons_succ] at h ⊢
    exact jj_mask_ok ks h
def jp_i (q : Int32 × jj_Mem) : Option Value → jj_Mem → Prop := fun r x => r = some (.int q.1) ∧ x = q.2
def jp_v (q : jj_Mem) : Option Value → jj_Mem → Prop := fun r x => r = none ∧ x = q
def jp_r (q : Nat × jj_Mem) : Option Value → jj_Mem → Prop := fun r x => r = some (.ref q.1) ∧ x = q.2
/-- a contract, from the judgement at the entry, with k empty places behind the arguments -/
theorem jj_metp {Y : jj_Y} {X : jj_X} {d : Nat} {M : jj_M} {as : List Value} {x : jj_Mem} {post : Option Value → jj_Mem → Prop} (k : Nat) {lo : List (Option Value)} (hy : plainName M.1.cls = true) (hn : (lg_sl as).length ≤ M.2.2.1) (hlo : jj_lo as ++ List.replicate k none = lo) (h : jj_J Y X d M 0 lo [] x post) : jj_Met Y X d M as x post := by
  refine jj_met hy hn (fun i v hi => ?_) h
  subst hlo
  by_cases q : i < (jj_lo as).length
  · rwa [List.getElem?_append_left q] at hi
  · rw [List.getElem?_append_right (by omega), List.getElem?_replicate] at hi
    split at hi <;> simp at hi
section JJK
variable {Y : jj_Y} {X : jj_X} {d : Nat} {M N : jj_M} {pc : Nat} {lo : List (Option Value)} {st stk : List Value} {x x1 : jj_Mem} {post : Option Value → jj_Mem → Prop}
theorem jj_callVi {i idx ci n : Nat} {fs : List (Option (Option Nat))} {as : List Value} {r : Int32} (hM : jj_Met Y X d N (.ref i :: as) x (jp_i (r, x1))) (hd : decode M.2.1 pc = .ok (.invokevirtual idx, 3)) (hk : jj_cv Y M.1.cls idx N n) (hi : i < Y.2.1) (hs : Y.1 i = .inr (ci, fs)) (hc : ∃ q, Y.2.2.1[ci]? = some q ∧ q.1 = N.1.cls) (hn : as.length = n) (hst : stk = as.reverse ++ .ref i :: st) (hroom : (st.map fun v => v.category).sum ≤ 8) (kk : jj_J Y X (d + 1) M (pc + 3) lo (.int r :: st) x1 post) : jj_J Y X (d + 1) M pc lo stk x post :=
  jj_callV hM hd hk hi hs hc hn hst hroom (fun r2 x2 h => by obtain ⟨rfl, rfl⟩ := h; exact kk)
theorem jj_callVv {i idx ci n : Nat} {fs : List (Option (Option Nat))} {as : List Value} (hM : jj_Met Y X d N (.ref i :: as) x (jp_v x1)) (hd : decode M.2.1 pc = .ok (.invokevirtual idx, 3)) (hk : jj_cv Y M.1.cls idx N n) (hi : i < Y.2.1) (hs : Y.1 i = .inr (ci, fs)) (hc : ∃ q, Y.2.2.1[ci]? = some q ∧ q.1 = N.1.cls) (hn : as.length = n) (hst : stk = as.reverse ++ .ref i :: st) (hroom : (st.map fun v => v.category).sum ≤ 8) (kk : jj_J Y X (d + 1) M (pc + 3) lo st x1 post) : jj_J Y X (d + 1) M pc lo stk x post :=
  jj_callV hM hd hk hi hs hc hn hst hroom (fun r2 x2 h => by obtain ⟨rfl, rfl⟩ := h; exact kk)
theorem jj_callVr {i idx ci n : Nat} {fs : List (Option (Option Nat))} {as : List Value} {r : Nat} (hM : jj_Met Y X d N (.ref i :: as) x (jp_r (r, x1))) (hd : decode M.2.1 pc = .ok (.invokevirtual idx, 3)) (hk : jj_cv Y M.1.cls idx N n) (hi : i < Y.2.1) (hs : Y.1 i = .inr (ci, fs)) (hc : ∃ q, Y.2.2.1[ci]? = some q ∧ q.1 = N.1.cls) (hn : as.length = n) (hst : stk = as.reverse ++ .ref i :: st) (hroom : (st.map fun v => v.category).sum ≤ 8) (kk : jj_J Y X (d + 1) M (pc + 3) lo (.ref r :: st) x1 post) : jj_J Y X (d + 1) M pc lo stk x post :=
  jj_callV hM hd hk hi hs hc hn hst hroom (fun r2 x2 h => by obtain ⟨rfl, rfl⟩ := h; exact kk)
theorem jj_callSi {idx n : Nat} {as : List Value} {r : Int32} (hM : jj_Met Y X d N as x (jp_i (r, x1))) (hd : decode M.2.1 pc = .ok (.invokestatic idx, 3)) (hk : jj_cs Y M.1.cls idx N n) (hn : as.length = n) (hst : stk = as.reverse ++ st) (hroom : (st.map fun v => v.category).sum ≤ 8) (kk : jj_J Y X (d + 1) M (pc + 3) lo (.int r :: st) x1 post) : jj_J Y X (d + 1) M pc lo stk x post :=
  jj_callS hM hd hk hn hst hroom (fun r2 x2 h => by obtain ⟨rfl, rfl⟩ := h; exact kk)
theorem jj_callSNi {idx n : Nat} {as : List Value} {r : Int32} (hM : jj_Met Y X d N as x (jp_i (r, x1))) (hd : decode M.2.1 pc = .ok (.invokestatic idx, 3)) (hk : jj_cn Y M.1.cls idx N n) (hn : as.length = n) (hst : stk = as.reverse ++ st) (hroom : (st.map fun v => v.category).sum ≤ 8) (kk : jj_J Y X (d + 1) M (pc + 3) lo (.int r :: st) x1 post) : jj_J Y X (d + 1) M pc lo stk x post :=
  jj_callSN hM hd hk hn hst hroom (fun r2 x2 h => by obtain ⟨rfl, rfl⟩ := h; exact kk)
end JJK
