/-! PURE: reading in step -/
theorem nNG {a : Nat} (h : a < 2147483648) : (nI a = -nI 1) = False := nNF h
theorem nNL {a : Nat} (h : a < 2147483648) : (nI a < -nI 1) = False := eq_false (fun e => by
  rw [Int32.lt_iff_toInt_lt, nI_toInt (by omega)] at e
  have : (-nI 1 : Int32).toInt = -1 := rfl
  omega)
theorem zb0 : jj_zb (nI 0) = true := rfl
theorem zb1 : jj_zb (nI 1) = true := rfl
theorem bM : bo_Mo 58 = true := rfl
theorem bR : bo_Rd 24 = true := rfl
theorem bCk : bo_Ck 26 = true := rfl
theorem bMa : bo_Ma 32 = true := rfl
/-- nothing changes but where W says so -/
def Same (W : Nat → Nat → Prop) (x x' : jj_Mem) : Prop := ∀ i k, ¬ W i k → x' i k = x i k
theorem Same.get {W : Nat → Nat → Prop} {x y : jj_Mem} (h : Same W x y) : ∀ i k, ¬ W i k → y i k = x i k := h
theorem Same.refl {W : Nat → Nat → Prop} (x : jj_Mem) : Same W x x := fun _ _ _ => rfl
theorem Same.trans {W : Nat → Nat → Prop} {x y z : jj_Mem} (h : Same W x y) (g : Same W y z) : Same W x z := fun i k n => (g i k n).trans (h i k n)
theorem Same.mono {W V : Nat → Nat → Prop} {x y : jj_Mem} (h : Same W x y) (g : ∀ i k, W i k → V i k) : Same V x y := fun i k n => h i k (fun q => n (g i k q))
theorem Same.set {W : Nat → Nat → Prop} {x y : jj_Mem} (h : Same W x y) {i k : Nat} (v : Int32) (g : W i k) : Same W x (jj_set y i k v) := fun j l n => by
  rw [jn (fun q => n (by rw [q.1, q.2]; exact g))]
  exact h j l n
theorem jj_set_id {x : jj_Mem} {i k : Nat} {v : Int32} (h : x i k = v) : jj_set x i k v = x := by
  funext j l
  rw [jj_set_get]
  by_cases q : j = i ∧ l = k
  · rw [if_pos q, q.1, q.2, h]
  · rw [if_neg q]
abbrev WA (i k : Nat) : Prop := i = 24 ∧ k ≤ 1
abbrev WM (i k : Nat) : Prop := i = 58 ∧ (k = 3 ∨ k = 4)
theorem Ag.same {x x' : jj_Mem} (h : Ag x x') : Same WA x x' := h
/-- the reference has failed at b -/
def MF (b : Nat) (y : jj_Mem) : Prop := y 58 3 = nI b ∧ y 58 4 = nI 1
theorem mf_next {b : Nat} {y : jj_Mem} (h : MF b y) (lo hi : Int32) : f_Mo_next 58 lo hi y = some (nI 0, y) := by
  rw [mo_next_failed (by rw [h.2]; decide), jj_set_id (show y 58 4 = 1 from h.2)]
  rfl
theorem mf_skip_g {b : Nat} {y : jj_Mem} (h : MF b y) (lo hi : Int32) (N : Nat) (hN : N ≤ 990) : ∀ (c j f : Nat), j + c = N → c < f → g_Mo_skip f 3 [some (.ref 58), some (.int (nI N)), some (.int lo), some (.int hi), some (.int (nI j)), none] y = some y := by
  intro c
  induction c with
  | zero =>
    intro j f hj hf
    obtain ⟨f, rfl⟩ : ∃ g, f = g + 1 := ⟨f - 1, by omega⟩
    simp (disch := omega) only [nA, nS, nM, nLT, nLF, nTT, nTF, nEF, nET, nBT, nBF, nC, nNG, nNL, jj_b1, jj_b2, js, jn, eq_self, if_true, if_false, ite_true, ite_false, ↓reduceIte, and_self, true_and, and_true, zb0, zb1, bM, bR, bCk, bMa, Bool.false_eq_true, Bool.and_self, Bool.and_true, Bool.true_and, li_0, li_1, li_2, li_3, li_4, li_5, li_6, li_7, li_8, li_16, li_18, li_21, li_25, li_46, li_54, li_58, li_60, li_79, li_87, li_89, li_95, li_96, li_100, li_104, li_108, li_116, li_127, li_128, li_132, li_153, li_158, li_159, li_164, li_167, li_172, li_176, li_177, li_184, li_188, li_190, li_198, li_199, li_200, li_202, li_240, li_255, li_256, li_32767, li_32768, li_65536, g_Mo_skip, k_Mo_skip_3]
  | succ c ih =>
    intro j f hj hf
    obtain ⟨f, rfl⟩ : ∃ g, f = g + 1 := ⟨f - 1, by omega⟩
    simp (disch := omega) only [nA, nS, nM, nLT, nLF, nTT, nTF, nEF, nET, nBT, nBF, nC, nNG, nNL, jj_b1, jj_b2, js, jn, eq_self, if_true, if_false, ite_true, ite_false, ↓reduceIte, and_self, true_and, and_true, zb0, zb1, bM, bR, bCk, bMa, Bool.false_eq_true, Bool.and_self, Bool.and_true, Bool.true_and, li_0, li_1, li_2, li_3, li_4, li_5, li_6, li_7, li_8, li_16, li_18, li_21, li_25, li_46, li_54, li_58, li_60, li_79, li_87, li_89, li_95, li_96, li_100, li_104, li_108, li_116, li_127, li_128, li_132, li_153, li_158, li_159, li_164, li_167, li_172, li_176, li_177, li_184, li_188, li_190, li_198, li_199, li_200, li_202, li_240, li_255, li_256, li_32767, li_32768, li_65536, g_Mo_skip, k_Mo_skip_3, k_Mo_skip_30, k_Mo_skip_35, mf_next h, h.2, jj_set_id h.2]
    exact ih (j + 1) f (by omega) (by omega)
theorem mf_skip {b : Nat} {y : jj_Mem} (h : MF b y) (lo hi : Int32) {N : Nat} (hN : N ≤ 990) : f_Mo_skip 58 (nI N) lo hi y = some y :=
  mf_skip_g h lo hi N hN N 0 1000 (by omega) (by omega)
theorem Mr.same {F : Nat → Nat} {n a b : Nat} {y y' : jj_Mem} (h : Mr F n a y) (g : Same WM y y') (h3 : y' 58 3 = nI b) (h4 : y' 58 4 = 0) : Mr F n b y' :=
  ⟨h3, by rw [g 58 1 (by omega)]; exact h.2.1, h4, fun k hk => by rw [g 59 k (by omega)]; exact h.2.2.2 k hk⟩
theorem mo_ones {n : Nat} {F : Nat → Nat} (hF : By F n) (lo hi : Int32) (N : Nat) (hN : N ≤ 990) : ∀ (c j a f : Nat) (y : jj_Mem), j + c = N → c < f → a ≤ 240 → Mr F n a y →
    ∃ y', Same WM y y' ∧ g_Mo_skip f 3 [some (.ref 58), some (.int (nI N)), some (.int lo), some (.int hi), some (.int (nI j)), none] y = some y' ∧ ((∃ b, ones F n lo hi c a = .inr b ∧ Mr F n b y') ∨ (∃ b, ones F n lo hi c a = .inl b ∧ MF b y')) := by
  intro c
  induction c with
  | zero =>
    intro j a f y hj hf ha h
    obtain ⟨f, rfl⟩ : ∃ g, f = g + 1 := ⟨f - 1, by omega⟩
    refine ⟨y, Same.refl y, ?_, Or.inl ⟨a, rfl, h⟩⟩
    simp (disch := omega) only [nA, nS, nM, nLT, nLF, nTT, nTF, nEF, nET, nBT, nBF, nC, nNG, nNL, jj_b1, jj_b2, js, jn, eq_self, if_true, if_false, ite_true, ite_false, ↓reduceIte, and_self, true_and, and_true, zb0, zb1, bM, bR, bCk, bMa, Bool.false_eq_true, Bool.and_self, Bool.and_true, Bool.true_and, li_0, li_1, li_2, li_3, li_4, li_5, li_6, li_7, li_8, li_16, li_18, li_21, li_25, li_46, li_54, li_58, li_60, li_79, li_87, li_89, li_95, li_96, li_100, li_104, li_108, li_116, li_127, li_128, li_132, li_153, li_158, li_159, li_164, li_167, li_172, li_176, li_177, li_184, li_188, li_190, li_198, li_199, li_200, li_202, li_240, li_255, li_256, li_32767, li_32768, li_65536, g_Mo_skip, k_Mo_skip_3]
  | succ c ih =>
    intro j a f y hj hf ha h
    obtain ⟨f, rfl⟩ : ∃ g, f = g + 1 := ⟨f - 1, by omega⟩
    have hb := hF.1
    by_cases hx : nx F n a lo hi
    · have hlt : a < n := hx.1
      have hFa := hF.2 a hlt
      have e1 := (mo_next hF ha h lo hi).1 hx
      have h1 : Mr F n (a + 1) (jj_set (jj_set y 58 3 (nI (a + 1))) 58 4 0) := h.same (((Same.refl y).set _ (by omega)).set _ (by omega)) (by rw [jn (by omega), js]) (js _ _ _ _)
      obtain ⟨y', g1, g2, g3⟩ := ih (j + 1) (a + 1) f _ (by omega) (by omega) (by omega) h1
      refine ⟨y', (((Same.refl y).set _ (by omega)).set _ (by omega)).trans g1, ?_, ?_⟩
      · have h4 := h.2.2.1
        rw [li_0] at h4 g2
        simp (disch := omega) only [nA, nS, nM, nLT, nLF, nTT, nTF, nEF, nET, nBT, nBF, nC, nNG, nNL, jj_b1, jj_b2, js, jn, eq_self, if_true, if_false, ite_true, ite_false, ↓reduceIte, and_self, true_and, and_true, zb0, zb1, bM, bR, bCk, bMa, Bool.false_eq_true, Bool.and_self, Bool.and_true, Bool.true_and, li_0, li_1, li_2, li_3, li_4, li_5, li_6, li_7, li_8, li_16, li_18, li_21, li_25, li_46, li_54, li_58, li_60, li_79, li_87, li_89, li_95, li_96, li_100, li_104, li_108, li_116, li_127, li_128, li_132, li_153, li_158, li_159, li_164, li_167, li_172, li_176, li_177, li_184, li_188, li_190, li_198, li_199, li_200, li_202, li_240, li_255, li_256, li_32767, li_32768, li_65536, g_Mo_skip, k_Mo_skip_3, k_Mo_skip_35, e1, h4]
        exact g2
      · have e2 : ones F n lo hi (c + 1) a = ones F n lo hi c (a + 1) := by
          show (if a < n ∧ lo ≤ nI (F a) ∧ nI (F a) ≤ hi then ones F n lo hi c (a + 1) else .inl a) = _
          rw [if_pos (show a < n ∧ lo ≤ nI (F a) ∧ nI (F a) ≤ hi from hx)]
        rw [e2]
        exact g3
    · have e1 := (mo_next hF ha h lo hi).2 hx
      have hm : MF a (jj_set y 58 4 1) := ⟨by rw [jn (by omega)]; exact h.1, js _ _ _ _⟩
      refine ⟨jj_set y 58 4 1, (Same.refl y).set _ (by omega), ?_, Or.inr ⟨a, ?_, hm⟩⟩
      · have g2 := mf_skip_g hm lo hi N hN c (j + 1) f (by omega) (by omega)
        have g4 := jj_set_id hm.2
        rw [li_1] at g2 g4 hm
        simp (disch := omega) only [nA, nS, nM, nLT, nLF, nTT, nTF, nEF, nET, nBT, nBF, nC, nNG, nNL, jj_b1, jj_b2, js, jn, eq_self, if_true, if_false, ite_true, ite_false, ↓reduceIte, and_self, true_and, and_true, zb0, zb1, bM, bR, bCk, bMa, Bool.false_eq_true, Bool.and_self, Bool.and_true, Bool.true_and, li_0, li_1, li_2, li_3, li_4, li_5, li_6, li_7, li_8, li_16, li_18, li_21, li_25, li_46, li_54, li_58, li_60, li_79, li_87, li_89, li_95, li_96, li_100, li_104, li_108, li_116, li_127, li_128, li_132, li_153, li_158, li_159, li_164, li_167, li_172, li_176, li_177, li_184, li_188, li_190, li_198, li_199, li_200, li_202, li_240, li_255, li_256, li_32767, li_32768, li_65536, g_Mo_skip, k_Mo_skip_3, k_Mo_skip_30, k_Mo_skip_35, e1, g4]
        exact g2
      · show (if a < n ∧ lo ≤ nI (F a) ∧ nI (F a) ≤ hi then ones F n lo hi c (a + 1) else .inl a) = _
        rw [if_neg (show ¬ (a < n ∧ lo ≤ nI (F a) ∧ nI (F a) ≤ hi) from hx)]
theorem ones_ok {n : Nat} {F : Nat → Nat} {lo hi : Int32} : ∀ (c a b : Nat), ones F n lo hi c a = .inr b → b = a + c ∧ ∀ k, k < c → nx F n (a + k) lo hi
  | 0, a, b, h => by
    cases h
    exact ⟨rfl, fun k hk => by omega⟩
  | c + 1, a, b, h => by
    by_cases q : a < n ∧ lo ≤ nI (F a) ∧ nI (F a) ≤ hi
    · rw [show ones F n lo hi (c + 1) a = ones F n lo hi c (a + 1) by
        show (if a < n ∧ lo ≤ nI (F a) ∧ nI (F a) ≤ hi then ones F n lo hi c (a + 1) else .inl a) = _
        rw [if_pos q]] at h
      obtain ⟨h1, h2⟩ := ones_ok c (a + 1) b h
      refine ⟨by omega, fun k hk => ?_⟩
      by_cases k0 : k = 0
      · subst k0; exact q
      · have := h2 (k - 1) (by omega)
        rwa [show a + 1 + (k - 1) = a + k by omega] at this
    · rw [show ones F n lo hi (c + 1) a = .inl a by
        show (if a < n ∧ lo ≤ nI (F a) ∧ nI (F a) ≤ hi then ones F n lo hi c (a + 1) else .inl a) = _
        rw [if_neg q]] at h
      cases h
section TWO
variable {S n a : Nat} {F : Nat → Nat} {x y : jj_Mem}
theorem two_next (hS : o_Pr S) (hF : By F n) (ha : a ≤ 240) (h : Cl S F n a x) (h' : Mr F n a y) (lo hi : Int32) : ∃ x' y', Same WA x x' ∧ Same WM y y' ∧
    ((nx F n a lo hi ∧ f_Rd_next 24 S lo hi x = some (nI 1, x') ∧ x' 24 1 = nI (F a) ∧ Cl S F n (a + 1) x' ∧ f_Mo_next 58 lo hi y = some (nI (F a), y') ∧ Mr F n (a + 1) y' ∧ a + 1 ≤ 240 ∧ a + 1 ≤ n ∧ F a < 256) ∨
     (f_Rd_next 24 S lo hi x = some (nI 0, x') ∧ x' 24 0 = nI a ∧ f_Mo_next 58 lo hi y = some (nI 0, y') ∧ MF a y')) := by
  by_cases hx : nx F n a lo hi
  · have := hF.1
    have hlt : a < n := hx.1
    have := hF.2 a hlt
    refine ⟨_, _, ?_, ?_, Or.inl ⟨hx, (rd_next hS hF ha h lo hi).1 hx, ?_, Cl_step hS h _, (mo_next hF ha h' lo hi).1 hx, ?_, by omega, by omega, by omega⟩⟩
    · exact ((Same.refl x).set _ (by omega)).set _ (by omega)
    · exact (Same.refl y).set _ (by omega)
    · rw [jn (by omega), js]
    · exact h'.same ((Same.refl y).set _ (by omega)) (js _ _ _ _) (by rw [jn (by omega)]; exact h'.2.2.1)
  · refine ⟨_, _, Same.refl x, ?_, Or.inr ⟨(rd_next hS hF ha h lo hi).2 hx, h.1, (mo_next hF ha h' lo hi).2 hx, ?_⟩⟩
    · exact (Same.refl y).set _ (by omega)
    · exact ⟨by rw [jn (by omega)]; exact h'.1, js _ _ _ _⟩
theorem two_ones (hS : o_Pr S) (hF : By F n) (ha : a ≤ 240) (h : Cl S F n a x) (h' : Mr F n a y) (lo hi : Int32) {c : Nat} (hc : c ≤ 60) : ∃ x' y', Same WA x x' ∧ Same WM y y' ∧ f_Mo_skip 58 (nI c) lo hi y = some y' ∧
    ((f_Rd_nextOnes 24 S (nI c) lo hi x = some (nI 1, x') ∧ (∀ k, k < c → nx F n (a + k) lo hi) ∧ Cl S F n (a + c) x' ∧ Mr F n (a + c) y' ∧ a + c ≤ 240) ∨
     (∃ b, b ≤ 240 ∧ f_Rd_nextOnes 24 S (nI c) lo hi x = some (nI 0, x') ∧ x' 24 0 = nI b ∧ MF b y')) := by
  obtain ⟨x', g1, g2⟩ := rd_ones hS hF lo hi c (by omega) c 0 a 1000 x (by omega) (by omega) (by omega) ha h
  obtain ⟨y', k1, k2, k3⟩ := mo_ones hF lo hi c (by omega) c 0 a 1000 y (by omega) (by omega) ha h'
  refine ⟨x', y', g1, k1, k2, ?_⟩
  rcases g2 with ⟨b, q1, q2, q3, q4, q5⟩ | ⟨b, q1, q2, q3, q4⟩
  · subst q3
    rcases k3 with ⟨b', r1, r2⟩ | ⟨b', r1, r2⟩
    · rw [q1] at r1
      cases r1
      exact Or.inl ⟨q5, (ones_ok _ _ _ q1).2, h.ag hS g1 q2, r2, q4⟩
    · rw [q1] at r1
      cases r1
  · rcases k3 with ⟨b', r1, r2⟩ | ⟨b', r1, r2⟩
    · rw [q1] at r1
      cases r1
    · rw [q1] at r1
      cases r1
      exact Or.inr ⟨b, q3, q4, q2, r2⟩
end TWO
theorem nx_nat {F : Nat → Nat} {n a l h : Nat} (hF : By F n) (hl : l < 2147483648) (hh : h < 2147483648) (q : nx F n a (nI l) (nI h)) : l ≤ F a ∧ F a ≤ h := by
  have := hF.2 a q.1
  constructor
  · apply Nat.le_of_not_lt
    intro g
    have := q.2.1
    rw [nLF g hl] at this
    exact this
  · apply Nat.le_of_not_lt
    intro g
    have := q.2.2
    rw [nLF g (by omega)] at this
    exact this
