/-! PURE: reading a file of n bytes F, byte by byte, on both sides -/
/-- the object's reader stands at a, over the program S -/
def Cl (S : Nat) (F : Nat → Nat) (n a : Nat) (x : jj_Mem) : Prop := x 24 0 = nI a ∧ x S 1 = nI n ∧ ∀ k, k < n → x (S + 1) k = nI (F k)
/-- the reference's reader stands at a, and has not failed -/
def Mr (F : Nat → Nat) (n a : Nat) (y : jj_Mem) : Prop := y 58 3 = nI a ∧ y 58 1 = nI n ∧ y 58 4 = 0 ∧ ∀ k, k < n → y 59 k = nI (F k)
def By (F : Nat → Nat) (n : Nat) : Prop := n ≤ 240 ∧ ∀ k, k < n → F k < 256
theorem o_Pr_ne {S : Nat} (h : o_Pr S) : S ≠ 24 ∧ S + 1 ≠ 24 ∧ S < 24 := by
  have := oc_Pr h
  omega
/-- the next byte is there and within lo .. hi -/
def nx (F : Nat → Nat) (n a : Nat) (lo hi : Int32) : Prop := a < n ∧ lo ≤ nI (F a) ∧ nI (F a) ≤ hi
theorem rd_next {S n a : Nat} {F : Nat → Nat} {x : jj_Mem} (hS : o_Pr S) (hF : By F n) (ha : a ≤ 240) (h : Cl S F n a x) (lo hi : Int32) :
    (nx F n a lo hi → f_Rd_next 24 S lo hi x = some (1, jj_set (jj_set x 24 1 (nI (F a))) 24 0 (nI (a + 1)))) ∧ (¬ nx F n a lo hi → f_Rd_next 24 S lo hi x = some (0, x)) := by
  obtain ⟨h1, h2, h3⟩ := h
  obtain ⟨g1, g2⟩ := hF
  by_cases c1 : a < n
  · have e1 : ¬ x S 1 ≤ x 24 0 := by rw [h1, h2]; exact nI_ge c1 (by omega)
    have e2 : jj_inb (x 24 0) 240 = true := by rw [h1]; exact jj_inb_nI (by omega) (by decide)
    have e3 : x (S + 1) (Int32.toNatClampNeg (x 24 0)) = nI (F a) := by rw [h1, nI_clamp (by omega)]; exact h3 a c1
    refine ⟨fun hx => ?_, fun hx => ?_⟩
    · unfold f_Rd_next
      rw [if_neg e1, if_pos e2, e3, if_neg (Int32.not_lt.mpr hx.2.1), if_pos e2, if_pos hx.2.2, if_pos e2, jn (j := 24) (l := 0) (by omega), h1, nI_1]
    · unfold f_Rd_next
      rw [if_neg e1, if_pos e2, e3]
      by_cases c2 : nI (F a) < lo
      · rw [if_pos c2]
      · rw [if_neg c2, if_pos e2, if_neg (fun q => hx ⟨c1, Int32.not_lt.mp c2, q⟩)]
  · have e1 : x S 1 ≤ x 24 0 := by rw [h1, h2]; exact nI_le (by omega) (by omega)
    refine ⟨fun hx => absurd hx.1 c1, fun _ => ?_⟩
    unfold f_Rd_next
    rw [if_pos e1]
theorem Cl_step {S n a b : Nat} {F : Nat → Nat} {x : jj_Mem} (hS : o_Pr S) (h : Cl S F n a x) (v : Int32) : Cl S F n b (jj_set (jj_set x 24 1 v) 24 0 (nI b)) := by
  obtain ⟨h1, h2, h3⟩ := h
  obtain ⟨s1, s2, s3⟩ := o_Pr_ne hS
  exact ⟨js _ _ _ _, by rw [jn (by omega), jn (by omega)]; exact h2, fun k hk => by rw [jn (by omega), jn (by omega)]; exact h3 k hk⟩
/-- so many bytes within lo .. hi -/
def ones (F : Nat → Nat) (n : Nat) (lo hi : Int32) : Nat → Nat → Nat ⊕ Nat
  | 0, a => .inr a
  | c + 1, a => if a < n ∧ lo ≤ nI (F a) ∧ nI (F a) ≤ hi then ones F n lo hi c (a + 1) else .inl a
/-- what the reader of the object leaves alone -/
def Ag (x x' : jj_Mem) : Prop := ∀ i k, ¬ (i = 24 ∧ k ≤ 1) → x' i k = x i k
theorem Ag.refl (x : jj_Mem) : Ag x x := fun _ _ _ => rfl
theorem Ag.step {x x' : jj_Mem} (h : Ag x x') (v w : Int32) : Ag x (jj_set (jj_set x' 24 1 v) 24 0 w) := fun i k hn => by
  rw [jn (fun q => hn ⟨q.1, by omega⟩), jn (fun q => hn ⟨q.1, by omega⟩)]
  exact h i k hn
theorem Cl.ag {S n a : Nat} {F : Nat → Nat} {x x' : jj_Mem} (hS : o_Pr S) (h : Cl S F n a x) (hA : Ag x x') {b : Nat} (hb : x' 24 0 = nI b) : Cl S F n b x' := by
  obtain ⟨h1, h2, h3⟩ := h
  obtain ⟨s1, s2, s3⟩ := o_Pr_ne hS
  exact ⟨hb, by rw [hA S 1 (by omega)]; exact h2, fun k hk => by rw [hA (S + 1) k (by omega)]; exact h3 k hk⟩
theorem rd_ones {S n : Nat} {F : Nat → Nat} (hS : o_Pr S) (hF : By F n) (lo hi : Int32) (N : Nat) (hN : N < 2 ^ 31) : ∀ (c j a f : Nat) (x : jj_Mem), j + c = N → c < f → a + c ≤ 300 → a ≤ 240 → Cl S F n a x →
    ∃ x', Ag x x' ∧ ((∃ b, ones F n lo hi c a = .inr b ∧ x' 24 0 = nI b ∧ b = a + c ∧ b ≤ 240 ∧ g_Rd_nextOnes f 3 [some (.ref 24), some (.ref S), some (.int (nI N)), some (.int lo), some (.int hi), some (.int (nI j))] x = some (1, x')) ∨ (∃ b, ones F n lo hi c a = .inl b ∧ x' 24 0 = nI b ∧ b ≤ 240 ∧ g_Rd_nextOnes f 3 [some (.ref 24), some (.ref S), some (.int (nI N)), some (.int lo), some (.int hi), some (.int (nI j))] x = some (0, x'))) := by
  intro c
  induction c with
  | zero =>
    intro j a f x hj hf ha ha2 h
    obtain ⟨f, rfl⟩ : ∃ g, f = g + 1 := ⟨f - 1, by omega⟩
    refine ⟨x, Ag.refl x, Or.inl ⟨a, rfl, h.1, rfl, ha2, ?_⟩⟩
    simp only [g_Rd_nextOnes]
    have hg : (bo_Rd 24 && bo_Pr S) = true := by rw [show bo_Rd 24 = true from rfl, hS]; rfl
    rw [if_pos hg]
    unfold k_Rd_nextOnes_3
    rw [if_pos (nI_le (by omega) (by omega))]
  | succ c ih =>
    intro j a f x hj hf ha ha2 h
    obtain ⟨f, rfl⟩ : ∃ g, f = g + 1 := ⟨f - 1, by omega⟩
    have hg : (bo_Rd 24 && bo_Pr S) = true := by rw [show bo_Rd 24 = true from rfl, hS]; rfl
    have hne : ¬ nI N ≤ nI j := nI_ge (by omega) (by omega)
    by_cases hx : nx F n a lo hi
    · have hlt : a < n := hx.1
      have := hF.1
      obtain ⟨x', g1, g2⟩ := ih (j + 1) (a + 1) f _ (by omega) (by omega) (by omega) (by omega) (Cl_step (b := a + 1) hS h (nI (F a)))
      have e1 : ones F n lo hi (c + 1) a = ones F n lo hi c (a + 1) := by
        show (if a < n ∧ lo ≤ nI (F a) ∧ nI (F a) ≤ hi then ones F n lo hi c (a + 1) else .inl a) = _
        rw [if_pos (show a < n ∧ lo ≤ nI (F a) ∧ nI (F a) ≤ hi from hx)]
      have e2 : g_Rd_nextOnes (f + 1) 3 [some (.ref 24), some (.ref S), some (.int (nI N)), some (.int lo), some (.int hi), some (.int (nI j))] x = g_Rd_nextOnes f 3 [some (.ref 24), some (.ref S), some (.int (nI N)), some (.int lo), some (.int hi), some (.int (nI (j + 1)))] (jj_set (jj_set x 24 1 (nI (F a))) 24 0 (nI (a + 1))) := by
        simp only [g_Rd_nextOnes]
        rw [if_pos hg]
        unfold k_Rd_nextOnes_3
        rw [if_neg hne, (rd_next hS hF ha2 h lo hi).1 hx]
        simp only [jj_b2]
        rw [if_neg (by decide), nI_1]
      refine ⟨x', fun i k hn => ?_, ?_⟩
      · rw [g1 i k hn]
        exact (Ag.refl x).step _ _ i k hn
      · rw [e1, e2]
        rcases g2 with ⟨b, q1, q2, q3, q4, q5⟩ | ⟨b, q1, q2, q3, q4⟩
        · exact Or.inl ⟨b, q1, q2, by omega, q4, q5⟩
        · exact Or.inr ⟨b, q1, q2, q3, q4⟩
    · refine ⟨x, Ag.refl x, Or.inr ⟨a, ?_, h.1, ha2, ?_⟩⟩
      · show (if a < n ∧ lo ≤ nI (F a) ∧ nI (F a) ≤ hi then ones F n lo hi c (a + 1) else .inl a) = _
        rw [if_neg (show ¬ (a < n ∧ lo ≤ nI (F a) ∧ nI (F a) ≤ hi) from hx)]
      · simp only [g_Rd_nextOnes]
        rw [if_pos hg]
        unfold k_Rd_nextOnes_3
        rw [if_neg hne, (rd_next hS hF ha2 h lo hi).2 hx]
        simp only [jj_b2]
        rw [if_pos trivial]
/-- the reference -/
theorem mo_next {n a : Nat} {F : Nat → Nat} {y : jj_Mem} (hF : By F n) (ha : a ≤ 240) (h : Mr F n a y) (lo hi : Int32) :
    (nx F n a lo hi → f_Mo_next 58 lo hi y = some (nI (F a), jj_set y 58 3 (nI (a + 1)))) ∧ (¬ nx F n a lo hi → f_Mo_next 58 lo hi y = some (0, jj_set y 58 4 1)) := by
  obtain ⟨h1, h2, h3, h4⟩ := h
  obtain ⟨g1, g2⟩ := hF
  have e0 : y 58 4 = 0 := h3
  by_cases c1 : a < n
  · have e1 : ¬ y 58 1 ≤ y 58 3 := by rw [h1, h2]; exact nI_ge c1 (by omega)
    have e2 : jj_inb (y 58 3) 240 = true := by rw [h1]; exact jj_inb_nI (by omega) (by decide)
    have e3 : y (58 + 1) (Int32.toNatClampNeg (y 58 3)) = nI (F a) := by rw [h1, nI_clamp (by omega)]; exact h4 a c1
    refine ⟨fun hx => ?_, fun hx => ?_⟩
    · unfold f_Mo_next
      rw [if_pos e0, if_neg e1, if_pos e2, e3, w_within, if_pos hx.2]
      simp only [jj_b1]
      rw [if_neg (by decide), js, h1, nI_1, nI_pred, if_pos (jj_inb_nI (by omega) (by decide)), nI_clamp (by omega), jn (by omega)]
      rw [show y (58 + 1) a = nI (F a) from h4 a c1]
    · unfold f_Mo_next
      rw [if_pos e0, if_neg e1, if_pos e2, e3, w_within, if_neg (fun q => hx ⟨c1, q⟩)]
      simp only [jj_b1]
      rw [if_pos trivial]
  · have e1 : y 58 1 ≤ y 58 3 := by rw [h1, h2]; exact nI_le (by omega) (by omega)
    refine ⟨fun hx => absurd hx.1 c1, fun _ => ?_⟩
    unfold f_Mo_next
    rw [if_pos e0, if_pos e1]
/-- once it has failed it stays so, where it was -/
theorem mo_next_failed {y : jj_Mem} (h : ¬ y 58 4 = 0) (lo hi : Int32) : f_Mo_next 58 lo hi y = some (0, jj_set y 58 4 1) := by
  unfold f_Mo_next
  rw [if_neg h]
