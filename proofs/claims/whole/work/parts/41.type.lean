/-! PURE: type -/
theorem js (x : jj_Mem) (i k : Nat) (v : Int32) : jj_set x i k v i k = v := by simp [jj_set_get]
theorem jn {x : jj_Mem} {i k : Nat} {v : Int32} {j l : Nat} (h : ¬ (j = i ∧ l = k)) : jj_set x i k v j l = x j l := by rw [jj_set_get, if_neg h]
def ty_b (p : Int64) (k : Nat) : Int32 := (Int64.toInt32 (p >>> (Int32.toInt64 (8 * nI k) &&& 63))) &&& 255
/-- k bytes more, the highest first -/
def ty_w (o a : Nat) (p : Int64) : Nat → jj_Mem → jj_Mem
  | 0, x => x
  | k + 1, x => ty_w o a p k (jj_set (jj_set x a (Int32.toNatClampNeg (x o 1)) (ty_b p k)) o 1 (x o 1 + 1))
theorem ty_byte (p : Int64) (k : Nat) : ∃ b : Nat, b < 256 ∧ ty_b p k = nI b := by
  obtain ⟨j, h1, h2⟩ := pk_andE (Int64.toInt32 (p >>> (Int32.toInt64 (8 * nI k) &&& 63))) (m := 255) 8 (by decide)
  exact ⟨j, h1, h2⟩
theorem ty_get {o a : Nat} (hoa : o ≠ a) (p : Int64) : ∀ (k tn : Nat) (x : jj_Mem), tn + k < 2 ^ 31 → x o 1 = nI tn → (ty_w o a p k x) o 1 = nI (tn + k) ∧ (∀ j, (ty_w o a p k x) a j = if tn ≤ j ∧ j < tn + k then ty_b p (k - 1 - (j - tn)) else x a j) ∧ ∀ i j, ¬ (i = o ∧ j = 1) → i ≠ a → (ty_w o a p k x) i j = x i j := by
  intro k
  induction k with
  | zero =>
    intro tn x h1 h2
    refine ⟨h2, fun j => ?_, fun i j _ _ => rfl⟩
    rw [if_neg (by omega)]
    rfl
  | succ k ih =>
    intro tn x h1 h2
    have hc : Int32.toNatClampNeg (x o 1) = tn := by rw [h2, nI_clamp (by omega)]
    have e1 : (jj_set (jj_set x a (Int32.toNatClampNeg (x o 1)) (ty_b p k)) o 1 (x o 1 + 1)) o 1 = nI (tn + 1) := by
      simp [jj_set_get, h2, nI_1]
    obtain ⟨g1, g2, g3⟩ := ih (tn + 1) _ (by omega) e1
    refine ⟨by show (ty_w o a p k _) o 1 = _; rw [g1]; congr 1; omega, fun j => ?_, fun i j n1 n2 => ?_⟩
    · show (ty_w o a p k _) a j = _
      rw [g2 j]
      by_cases c1 : tn + 1 ≤ j ∧ j < tn + 1 + k
      · rw [if_pos c1, if_pos (by omega)]
        congr 1
        omega
      · rw [if_neg c1]
        by_cases c2 : j = tn
        · subst c2
          rw [if_pos (by omega), jj_set_get, if_neg (fun q => hoa q.1.symm), jj_set_get, hc, if_pos ⟨rfl, rfl⟩]
          congr 1
          omega
        · rw [if_neg (by omega), jj_set_get, if_neg (fun q => hoa q.1.symm), jj_set_get, hc, if_neg (fun q => c2 q.2)]
    · show (ty_w o a p k _) i j = _
      rw [g3 i j n1 n2, jj_set_get, if_neg n1, jj_set_get, if_neg (fun q => n2 q.1)]
theorem ty_dec (k : Nat) : nI (k + 1) - 1 = nI k := nI_pred k
theorem ty_neg : (nI 0 - 1 : Int32) < 0 := by decide
theorem ty_VC (p : Int64) : ∀ (k tn f : Nat) (x : jj_Mem), k < f → tn + k ≤ 240 → x 0 1 = nI tn → g_VC_type f 48 [some (.ref 0), some (.long p), none, none, some (.int (nI k - 1))] x = some (nI (tn + k), ty_w 0 1 p k x) := by
  intro k
  induction k with
  | zero =>
    intro tn f x hf h1 h2
    obtain ⟨f, rfl⟩ : ∃ g, f = g + 1 := ⟨f - 1, by omega⟩
    simp only [g_VC_type]
    rw [if_pos (by decide)]
    unfold k_VC_type_48
    rw [if_pos ty_neg, h2]
    rfl
  | succ k ih =>
    intro tn f x hf h1 h2
    obtain ⟨f, rfl⟩ : ∃ g, f = g + 1 := ⟨f - 1, by omega⟩
    simp only [g_VC_type]
    rw [if_pos (by decide)]
    unfold k_VC_type_48
    rw [ty_dec, if_neg (nI_pos (by omega)), h2, if_pos (jj_inb_nI (by omega) (by decide))]
    have e1 : nI k + (-1) = nI k - 1 := by rw [Int32.sub_eq_add_neg]
    rw [e1]
    have K := ih (tn + 1) f (jj_set (jj_set x 1 (Int32.toNatClampNeg (nI tn)) (ty_b p k)) 0 1 (nI tn + 1)) (by omega) (by omega) (by simp [jj_set_get, nI_1])
    have e2 : jj_set x (0 + 1) (Int32.toNatClampNeg (nI tn)) (Int64.toInt32 (p >>> (Int32.toInt64 (8 * nI k) &&& 63)) &&& 255) 0 1 = nI tn := by simp [jj_set_get, h2]
    rw [e2]
    refine Eq.trans K ?_
    rw [show tn + 1 + k = tn + (k + 1) by omega]
    show _ = some (_, ty_w 0 1 p k (jj_set (jj_set x 1 (Int32.toNatClampNeg (x 0 1)) (ty_b p k)) 0 1 (x 0 1 + 1)))
    rw [h2]
theorem ty_Mo (p : Int64) : ∀ (k tn f : Nat) (x : jj_Mem), k < f → tn + k ≤ 240 → x 58 1 = nI tn → g_Mo_type f 49 [some (.ref 58), some (.long p), none, none, some (.int (nI k - 1))] x = some (nI (tn + k), ty_w 58 59 p k x) := by
  intro k
  induction k with
  | zero =>
    intro tn f x hf h1 h2
    obtain ⟨f, rfl⟩ : ∃ g, f = g + 1 := ⟨f - 1, by omega⟩
    simp only [g_Mo_type]
    rw [if_pos (by decide)]
    unfold k_Mo_type_49
    rw [if_pos ty_neg, h2]
    rfl
  | succ k ih =>
    intro tn f x hf h1 h2
    obtain ⟨f, rfl⟩ : ∃ g, f = g + 1 := ⟨f - 1, by omega⟩
    simp only [g_Mo_type]
    rw [if_pos (by decide)]
    unfold k_Mo_type_49
    rw [ty_dec, if_neg (nI_pos (by omega)), h2, if_pos (jj_inb_nI (by omega) (by decide))]
    have e1 : nI k + (-1) = nI k - 1 := by rw [Int32.sub_eq_add_neg]
    rw [e1]
    have K := ih (tn + 1) f (jj_set (jj_set x 59 (Int32.toNatClampNeg (nI tn)) (ty_b p k)) 58 1 (nI tn + 1)) (by omega) (by omega) (by simp [jj_set_get, nI_1])
    have e2 : jj_set x (58 + 1) (Int32.toNatClampNeg (nI tn)) (Int64.toInt32 (p >>> (Int32.toInt64 (8 * nI k) &&& 63)) &&& 255) 58 1 = nI tn := by simp [jj_set_get, h2]
    rw [e2]
    refine Eq.trans K ?_
    rw [show tn + 1 + k = tn + (k + 1) by omega]
    show _ = some (_, ty_w 58 59 p k (jj_set (jj_set x 59 (Int32.toNatClampNeg (x 58 1)) (ty_b p k)) 58 1 (x 58 1 + 1)))
    rw [h2]
theorem sim_type {Q : jj_Mem → Prop} {x : jj_Mem} (hQ : Fr1 Q) (h1 : R1 x) (h2 : Q x) (p0 : Int64) (b0 : Int32) : S_type (fun x => R1 x ∧ Q x) x p0 b0 := by
  obtain ⟨tn, a1, a2, a3, a4, a5⟩ := id h1
  by_cases c0 : 1 ≤ b0 ∧ b0 ≤ 8
  · have c1 : ¬ b0 < 1 := Int32.not_lt.mpr c0.1
    have c1' : ¬ b0 < 0 := by
      intro q
      apply c1
      rw [Int32.lt_iff_toInt_lt] at q ⊢
      exact Int.lt_trans q (by decide)
    obtain ⟨n, hn, rfl⟩ := nI_of2 (M := 8) (n := 8) rfl c1' c0.2
    by_cases c2 : tn + n ≤ 240
    · have e1 : x 0 1 + nI n ≤ 240 := by
        rw [a2, nI_add, show (240 : Int32) = nI 240 from rfl]
        exact nI_le c2 (by decide)
      have y1 := ty_get (o := 0) (a := 1) (by decide) p0 n tn x (by omega) a2
      have hz : (jj_set (ty_w 0 1 p0 n x) 58 0 0) 58 1 = nI tn := by
        rw [jj_set_get, if_neg (by decide), y1.2.2 58 1 (by decide) (by decide)]
        exact a3
      have y2 := ty_get (o := 58) (a := 59) (by decide) p0 n tn (jj_set (ty_w 0 1 p0 n x) 58 0 0) (by omega) hz
      refine ⟨0, nI (tn + n), nI (tn + n), ty_w 0 1 p0 n x, ty_w 58 59 p0 n (jj_set (ty_w 0 1 p0 n x) 58 0 0), Or.inl ⟨rfl, ?_⟩, ?_, ?_, fun _ => rfl, ?_, ?_⟩
      · unfold f_VC_type k_VC_type_0
        rw [if_neg c1, if_pos c0.2, if_pos e1]
        exact ty_VC p0 n tn 1000 x (by omega) c2 a2
      · unfold f_Mo_type k_Mo_type_0 k_Mo_type_32
        have e2 : (ty_w 0 1 p0 n x) 58 1 + nI n ≤ 240 := by
          rw [y1.2.2 58 1 (by decide) (by decide), a3, ← a2]
          exact e1
        rw [w_within, if_pos c0]
        simp only [jj_b1]
        rw [if_neg (by decide), if_pos e2, js, if_pos (by decide)]
        exact ty_Mo p0 n tn 1000 _ (by omega) c2 hz
      · rw [y2.2.2 58 0 (by decide) (by decide), jj_set_get, if_pos ⟨rfl, rfl⟩]
      · refine ⟨tn + n, c2, ?_, y2.1, fun k hk => ?_, fun k hk => ?_⟩
        · rw [y2.2.2 0 1 (by decide) (by decide), jj_set_get, if_neg (by decide)]
          exact y1.1
        · rw [y2.2.1 k, y2.2.2 1 k (by omega) (by decide), jn (j := 59) (l := k) (by omega), jn (j := 1) (l := k) (by omega), y1.2.1 k, y1.2.2 59 k (by omega) (by decide), a4 k hk]
        · rw [y2.2.2 1 k (by omega) (by decide), jj_set_get, if_neg (by omega), y1.2.1 k]
          by_cases c3 : tn ≤ k ∧ k < tn + n
          · rw [if_pos c3]
            exact ty_byte p0 _
          · rw [if_neg c3]
            exact a5 k hk
      · refine hQ x _ (fun i k hT => ?_) h2
        have n1 : ¬ (i = 0 ∧ k = 1) := fun h => hT (Or.inl h)
        have n2 : i ≠ 1 := fun h => hT (Or.inr (Or.inl h))
        have n3 : ¬ (i = 58 ∧ k ≤ 1) := fun h => hT (Or.inr (Or.inr (Or.inl h)))
        have n4 : i ≠ 59 := fun h => hT (Or.inr (Or.inr (Or.inr h)))
        rw [y2.2.2 i k (fun q => n3 ⟨q.1, by omega⟩) n4, jj_set_get, if_neg (fun q => n3 ⟨q.1, by omega⟩), y1.2.2 i k n1 n2]
    · have e1 : ¬ x 0 1 + nI n ≤ 240 := by
        rw [a2, nI_add, show (240 : Int32) = nI 240 from rfl]
        exact nI_ge (by omega) (by omega)
      refine ⟨2, 0, 0, x, jj_set x 58 0 2, Or.inr (Or.inr ⟨rfl, rfl, c1, c0.2, e1⟩), ?_, by simp [jj_set_get], fun q => absurd q (by decide), R1_code h1, Fr1_code hQ h2⟩
      unfold f_Mo_type k_Mo_type_0 k_Mo_type_32
      have e2 : ¬ x 58 1 + nI n ≤ 240 := by rw [a3, ← a2]; exact e1
      rw [w_within, if_pos c0]
      simp only [jj_b1]
      rw [if_neg (by decide), if_neg e2, js, if_neg (by decide)]
  · have c1 : b0 < 1 ∨ ¬ b0 ≤ 8 := by
      by_cases q : b0 < 1
      · exact Or.inl q
      · exact Or.inr (fun r => c0 ⟨Int32.not_lt.mp q, r⟩)
    refine ⟨1, 0, 0, x, jj_set x 58 0 1, Or.inr (Or.inl ⟨rfl, rfl, c1⟩), ?_, by simp [jj_set_get], fun q => absurd q (by decide), R1_code h1, Fr1_code hQ h2⟩
    unfold f_Mo_type k_Mo_type_0 k_Mo_type_32
    rw [w_within, if_neg c0]
    simp only [jj_b1]
    rw [if_pos trivial, js, if_neg (by decide)]
