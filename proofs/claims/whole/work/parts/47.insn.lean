/-! PURE: reading an instruction in step -/
/-- the highest value of operand k -/
def hiO (op k cc mc pl : Nat) : Int32 := if k = 1 ∧ z_nam op = true then nI pl - nI 1 else if op = 18 then nI cc - nI 1 else if op = 184 then nI mc - nI 1 else nI 255
theorem hi_rd {S q op k cc mc pl : Nat} {x : jj_Mem} (hop : op < 256) (hl : z_len op ≠ 0) (hk : k < 4) (h1 : x S 2 = nI cc) (h2 : x S 4 = nI mc) (h3 : x q 4 = nI pl) : f_Rd_highestOperand 24 S q (nI op) (nI k) x = some (hiO op k cc mc pl, x) := by
  unfold f_Rd_highestOperand hiO
  have e := zt_hasPlace op hop hl
  unfold k_Rd_highestOperand_20
  by_cases c1 : k = 1
  · subst c1
    by_cases c2 : z_nam op = true
    · simp (disch := omega) only [nA, nS, nM, nLT, nLF, nTT, nTF, nEF, nET, nBT, nBF, nC, nNF, jj_b1, jj_b2, js, jn, eq_self, if_true, if_false, ite_true, ite_false, ↓reduceIte, and_self, true_and, and_true, zb0, zb1, bM, bR, bCk, bMa, Bool.false_eq_true, Bool.and_self, Bool.and_true, Bool.true_and, li_0, li_1, li_2, li_3, li_4, li_5, li_6, li_7, li_8, li_16, li_18, li_21, li_25, li_46, li_54, li_58, li_60, li_79, li_87, li_89, li_95, li_96, li_100, li_104, li_108, li_116, li_127, li_128, li_132, li_153, li_158, li_159, li_164, li_167, li_172, li_176, li_177, li_184, li_188, li_190, li_198, li_199, li_200, li_202, li_240, li_255, li_256, li_32767, li_32768, li_65536, e, h1, h2, h3, c2, z_b]
    · by_cases c3 : op = 18
      · subst c3; simp (disch := omega) only [nA, nS, nM, nLT, nLF, nTT, nTF, nEF, nET, nBT, nBF, nC, nNF, jj_b1, jj_b2, js, jn, eq_self, if_true, if_false, ite_true, ite_false, ↓reduceIte, and_self, true_and, and_true, zb0, zb1, bM, bR, bCk, bMa, Bool.false_eq_true, Bool.and_self, Bool.and_true, Bool.true_and, li_0, li_1, li_2, li_3, li_4, li_5, li_6, li_7, li_8, li_16, li_18, li_21, li_25, li_46, li_54, li_58, li_60, li_79, li_87, li_89, li_95, li_96, li_100, li_104, li_108, li_116, li_127, li_128, li_132, li_153, li_158, li_159, li_164, li_167, li_172, li_176, li_177, li_184, li_188, li_190, li_198, li_199, li_200, li_202, li_240, li_255, li_256, li_32767, li_32768, li_65536, e, h1, h2, h3, c2, z_b]
      · by_cases c4 : op = 184
        · subst c4; simp (disch := omega) only [nA, nS, nM, nLT, nLF, nTT, nTF, nEF, nET, nBT, nBF, nC, nNF, jj_b1, jj_b2, js, jn, eq_self, if_true, if_false, ite_true, ite_false, ↓reduceIte, and_self, true_and, and_true, zb0, zb1, bM, bR, bCk, bMa, Bool.false_eq_true, Bool.and_self, Bool.and_true, Bool.true_and, li_0, li_1, li_2, li_3, li_4, li_5, li_6, li_7, li_8, li_16, li_18, li_21, li_25, li_46, li_54, li_58, li_60, li_79, li_87, li_89, li_95, li_96, li_100, li_104, li_108, li_116, li_127, li_128, li_132, li_153, li_158, li_159, li_164, li_167, li_172, li_176, li_177, li_184, li_188, li_190, li_198, li_199, li_200, li_202, li_240, li_255, li_256, li_32767, li_32768, li_65536, e, h1, h2, h3, c2, z_b]; try simp
        · simp (disch := omega) only [nA, nS, nM, nLT, nLF, nTT, nTF, nEF, nET, nBT, nBF, nC, nNF, jj_b1, jj_b2, js, jn, eq_self, if_true, if_false, ite_true, ite_false, ↓reduceIte, and_self, true_and, and_true, zb0, zb1, bM, bR, bCk, bMa, Bool.false_eq_true, Bool.and_self, Bool.and_true, Bool.true_and, li_0, li_1, li_2, li_3, li_4, li_5, li_6, li_7, li_8, li_16, li_18, li_21, li_25, li_46, li_54, li_58, li_60, li_79, li_87, li_89, li_95, li_96, li_100, li_104, li_108, li_116, li_127, li_128, li_132, li_153, li_158, li_159, li_164, li_167, li_172, li_176, li_177, li_184, li_188, li_190, li_198, li_199, li_200, li_202, li_240, li_255, li_256, li_32767, li_32768, li_65536, e, h1, h2, h3, c2, z_b]; simp [c3, c4]
  · by_cases c3 : op = 18
    · subst c3; simp (disch := omega) only [nA, nS, nM, nLT, nLF, nTT, nTF, nEF, nET, nBT, nBF, nC, nNF, jj_b1, jj_b2, js, jn, eq_self, if_true, if_false, ite_true, ite_false, ↓reduceIte, and_self, true_and, and_true, zb0, zb1, bM, bR, bCk, bMa, Bool.false_eq_true, Bool.and_self, Bool.and_true, Bool.true_and, li_0, li_1, li_2, li_3, li_4, li_5, li_6, li_7, li_8, li_16, li_18, li_21, li_25, li_46, li_54, li_58, li_60, li_79, li_87, li_89, li_95, li_96, li_100, li_104, li_108, li_116, li_127, li_128, li_132, li_153, li_158, li_159, li_164, li_167, li_172, li_176, li_177, li_184, li_188, li_190, li_198, li_199, li_200, li_202, li_240, li_255, li_256, li_32767, li_32768, li_65536, e, h1, h2, h3, z_b]; simp [c1]
    · by_cases c4 : op = 184
      · subst c4; simp (disch := omega) only [nA, nS, nM, nLT, nLF, nTT, nTF, nEF, nET, nBT, nBF, nC, nNF, jj_b1, jj_b2, js, jn, eq_self, if_true, if_false, ite_true, ite_false, ↓reduceIte, and_self, true_and, and_true, zb0, zb1, bM, bR, bCk, bMa, Bool.false_eq_true, Bool.and_self, Bool.and_true, Bool.true_and, li_0, li_1, li_2, li_3, li_4, li_5, li_6, li_7, li_8, li_16, li_18, li_21, li_25, li_46, li_54, li_58, li_60, li_79, li_87, li_89, li_95, li_96, li_100, li_104, li_108, li_116, li_127, li_128, li_132, li_153, li_158, li_159, li_164, li_167, li_172, li_176, li_177, li_184, li_188, li_190, li_198, li_199, li_200, li_202, li_240, li_255, li_256, li_32767, li_32768, li_65536, e, h1, h2, h3, z_b]; simp [c1]
      · simp (disch := omega) only [nA, nS, nM, nLT, nLF, nTT, nTF, nEF, nET, nBT, nBF, nC, nNF, jj_b1, jj_b2, js, jn, eq_self, if_true, if_false, ite_true, ite_false, ↓reduceIte, and_self, true_and, and_true, zb0, zb1, bM, bR, bCk, bMa, Bool.false_eq_true, Bool.and_self, Bool.and_true, Bool.true_and, li_0, li_1, li_2, li_3, li_4, li_5, li_6, li_7, li_8, li_16, li_18, li_21, li_25, li_46, li_54, li_58, li_60, li_79, li_87, li_89, li_95, li_96, li_100, li_104, li_108, li_116, li_127, li_128, li_132, li_153, li_158, li_159, li_164, li_167, li_172, li_176, li_177, li_184, li_188, li_190, li_198, li_199, li_200, li_202, li_240, li_255, li_256, li_32767, li_32768, li_65536, e, h1, h2, h3, z_b]; simp [c1, c3, c4]
theorem nx_hi {F : Nat → Nat} {n p v : Nat} (hF : By F n) (hv : v < 1000) (h : nx F n p (nI 0) (nI v - nI 1)) : F p < v := by
  have := hF.2 p h.1
  by_cases c : v = 0
  · subst c
    have g := Int32.le_trans h.2.1 h.2.2
    exact absurd g (by decide)
  · have e : nI v - nI 1 = nI (v - 1) := nS (by omega)
    have g := h.2.2
    rw [e] at g
    apply Nat.lt_of_not_le
    intro hc
    rw [nLF (by omega) (by omega)] at g
    exact g
/-- operand 1 of the instruction op at p is as the grammar asks -/
def OpOK (F : Nat → Nat) (op p cc mc pl : Nat) : Prop := (z_nam op = true → F p < pl) ∧ (op = 18 → F p < cc) ∧ (op = 184 → F p < mc)
def InsOK (F : Nat → Nat) (a e cc mc pl : Nat) : Prop := z_len (F a) ≠ 0 ∧ a + z_len (F a) ≤ e ∧ (2 ≤ z_len (F a) → OpOK F (F a) (a + 1) cc mc pl)
theorem z_t3 : ∀ b, b < 256 → z_len b = 3 → b ≠ 18 ∧ b ≠ 184 := by decide +kernel
theorem z_n18 : ∀ b, z_nam b = true → b ≠ 18 ∧ b ≠ 184 := by
  intro b h
  constructor <;> rintro rfl <;> exact absurd h (by decide)
section INSN
variable {S n a q e cc mc pl : Nat} {F : Nat → Nat}
theorem two_opnds (hS : o_Pr S) (hF : By F n) (hq : o_Me q) (hqS : S + 3 ≤ q ∧ q < 24) (ha : a < n) (he : e ≤ 300) (hcc : cc ≤ 4) (hmc : mc ≤ 4) (hpl : pl ≤ 6) (hl : z_len (F a) ≠ 0) : ∀ (r k f f' : Nat) (x y : jj_Mem), k + r = z_len (F a) → 1 ≤ k → r < f → r < f' → a + k ≤ e → a + k ≤ 240 → x S 2 = nI cc → x S 4 = nI mc → x q 4 = nI pl → Cl S F n (a + k) x → Mr F n (a + k) y → ∃ x' y', Same WA x x' ∧ Same WM y y' ∧
    g_Mo_readInstruction f' 58 [some (.ref 58), some (.int (nI e)), some (.int (nI cc)), some (.int (nI mc)), some (.int (nI pl)), some (.int (nI (F a))), some (.int (nI (z_len (F a)))), some (.int (nI k)), none] y = some y' ∧
    ((g_Rd_readsInstruction f 52 [some (.ref 24), some (.ref S), some (.ref q), some (.int (nI e)), some (.int (nI (F a))), some (.int (nI k))] x = some (nI 1, x') ∧ (k = 1 → 1 ≤ r → OpOK F (F a) (a + 1) cc mc pl) ∧ Cl S F n (a + z_len (F a)) x' ∧ Mr F n (a + z_len (F a)) y' ∧ a + z_len (F a) ≤ e ∧ a + z_len (F a) ≤ 240) ∨
     (∃ b, b ≤ 240 ∧ g_Rd_readsInstruction f 52 [some (.ref 24), some (.ref S), some (.ref q), some (.int (nI e)), some (.int (nI (F a))), some (.int (nI k))] x = some (nI 0, x') ∧ x' 24 0 = nI b ∧ MF b y')) := by
  have hop := hF.2 a ha
  have hl3 := z_len3 _ hop
  have hS2 := oc_Pr hS
  have bS : bo_Pr S = true := hS
  have bq : bo_Me q = true := hq
  have E1 := zt_len _ hop
  intro r
  induction r with
  | zero =>
    intro k f f' x y hk hk1 hf hf' hke hk2 h1 h2 h3 h h'
    obtain ⟨f, rfl⟩ : ∃ g, f = g + 1 := ⟨f - 1, by omega⟩
    obtain ⟨f', rfl⟩ : ∃ g, f' = g + 1 := ⟨f' - 1, by omega⟩
    refine ⟨x, y, Same.refl x, Same.refl y, ?_, Or.inl ⟨?_, fun _ z => by omega, ?_, ?_, by omega, by omega⟩⟩
    · simp (disch := omega) only [nA, nS, nM, nLT, nLF, nTT, nTF, nEF, nET, nBT, nBF, nC, nNF, jj_b1, jj_b2, js, jn, eq_self, if_true, if_false, ite_true, ite_false, ↓reduceIte, and_self, true_and, and_true, zb0, zb1, bM, bR, bCk, bMa, Bool.false_eq_true, Bool.and_self, Bool.and_true, Bool.true_and, li_0, li_1, li_2, li_3, li_4, li_5, li_6, li_7, li_8, li_16, li_18, li_21, li_25, li_46, li_54, li_58, li_60, li_79, li_87, li_89, li_95, li_96, li_100, li_104, li_108, li_116, li_127, li_128, li_132, li_153, li_158, li_159, li_164, li_167, li_172, li_176, li_177, li_184, li_188, li_190, li_198, li_199, li_200, li_202, li_240, li_255, li_256, li_32767, li_32768, li_65536, g_Mo_readInstruction, k_Mo_readInstruction_58]
    · simp (disch := omega) only [nA, nS, nM, nLT, nLF, nTT, nTF, nEF, nET, nBT, nBF, nC, nNF, jj_b1, jj_b2, js, jn, eq_self, if_true, if_false, ite_true, ite_false, ↓reduceIte, and_self, true_and, and_true, zb0, zb1, bM, bR, bCk, bMa, Bool.false_eq_true, Bool.and_self, Bool.and_true, Bool.true_and, li_0, li_1, li_2, li_3, li_4, li_5, li_6, li_7, li_8, li_16, li_18, li_21, li_25, li_46, li_54, li_58, li_60, li_79, li_87, li_89, li_95, li_96, li_100, li_104, li_108, li_116, li_127, li_128, li_132, li_153, li_158, li_159, li_164, li_167, li_172, li_176, li_177, li_184, li_188, li_190, li_198, li_199, li_200, li_202, li_240, li_255, li_256, li_32767, li_32768, li_65536, g_Rd_readsInstruction, k_Rd_readsInstruction_52, bS, bq, E1]
    · rw [← hk]; exact h
    · rw [← hk]; exact h'
  | succ r ih =>
    intro k f f' x y hk hk1 hf hf' hke hk2 h1 h2 h3 h h'
    obtain ⟨f, rfl⟩ : ∃ g, f = g + 1 := ⟨f - 1, by omega⟩
    obtain ⟨f', rfl⟩ : ∃ g, f' = g + 1 := ⟨f' - 1, by omega⟩
    have hf4 : y 58 4 = nI 0 := h'.2.2.1
    -- the reference's bound is the same
    have M1 : k_Mo_readInstruction_58 (g_Mo_readInstruction f') 58 (nI e) (nI cc) (nI mc) (nI pl) (nI (F a)) (nI (z_len (F a))) (nI k) y = k_Mo_readInstruction_129 (g_Mo_readInstruction f') 58 (nI e) (nI cc) (nI mc) (nI pl) (nI (F a)) (nI (z_len (F a))) (nI k) (hiO (F a) k cc mc pl) y := by
      unfold k_Mo_readInstruction_58 hiO
      have e2 := zm_names _ hop hl
      by_cases c1 : k = 1
      · subst c1
        by_cases c2 : z_nam (F a) = true
        · obtain ⟨d1, d2⟩ := z_n18 _ c2
          simp (disch := omega) only [nA, nS, nM, nLT, nLF, nTT, nTF, nEF, nET, nBT, nBF, nC, nNF, jj_b1, jj_b2, js, jn, eq_self, if_true, if_false, ite_true, ite_false, ↓reduceIte, and_self, true_and, and_true, zb0, zb1, bM, bR, bCk, bMa, Bool.false_eq_true, Bool.and_self, Bool.and_true, Bool.true_and, li_0, li_1, li_2, li_3, li_4, li_5, li_6, li_7, li_8, li_16, li_18, li_21, li_25, li_46, li_54, li_58, li_60, li_79, li_87, li_89, li_95, li_96, li_100, li_104, li_108, li_116, li_127, li_128, li_132, li_153, li_158, li_159, li_164, li_167, li_172, li_176, li_177, li_184, li_188, li_190, li_198, li_199, li_200, li_202, li_240, li_255, li_256, li_32767, li_32768, li_65536, e2, hf4, c2, z_b]
        · by_cases c3 : F a = 18
          · simp (disch := omega) only [nA, nS, nM, nLT, nLF, nTT, nTF, nEF, nET, nBT, nBF, nC, nNF, jj_b1, jj_b2, js, jn, eq_self, if_true, if_false, ite_true, ite_false, ↓reduceIte, and_self, true_and, and_true, zb0, zb1, bM, bR, bCk, bMa, Bool.false_eq_true, Bool.and_self, Bool.and_true, Bool.true_and, li_0, li_1, li_2, li_3, li_4, li_5, li_6, li_7, li_8, li_16, li_18, li_21, li_25, li_46, li_54, li_58, li_60, li_79, li_87, li_89, li_95, li_96, li_100, li_104, li_108, li_116, li_127, li_128, li_132, li_153, li_158, li_159, li_164, li_167, li_172, li_176, li_177, li_184, li_188, li_190, li_198, li_199, li_200, li_202, li_240, li_255, li_256, li_32767, li_32768, li_65536, e2, hf4, c2, z_b, if_pos c3]
          · by_cases c4 : F a = 184
            · simp (disch := omega) only [nA, nS, nM, nLT, nLF, nTT, nTF, nEF, nET, nBT, nBF, nC, nNF, jj_b1, jj_b2, js, jn, eq_self, if_true, if_false, ite_true, ite_false, ↓reduceIte, and_self, true_and, and_true, zb0, zb1, bM, bR, bCk, bMa, Bool.false_eq_true, Bool.and_self, Bool.and_true, Bool.true_and, li_0, li_1, li_2, li_3, li_4, li_5, li_6, li_7, li_8, li_16, li_18, li_21, li_25, li_46, li_54, li_58, li_60, li_79, li_87, li_89, li_95, li_96, li_100, li_104, li_108, li_116, li_127, li_128, li_132, li_153, li_158, li_159, li_164, li_167, li_172, li_176, li_177, li_184, li_188, li_190, li_198, li_199, li_200, li_202, li_240, li_255, li_256, li_32767, li_32768, li_65536, e2, hf4, c2, z_b, if_neg c3, if_pos c4]
            · simp (disch := omega) only [nA, nS, nM, nLT, nLF, nTT, nTF, nEF, nET, nBT, nBF, nC, nNF, jj_b1, jj_b2, js, jn, eq_self, if_true, if_false, ite_true, ite_false, ↓reduceIte, and_self, true_and, and_true, zb0, zb1, bM, bR, bCk, bMa, Bool.false_eq_true, Bool.and_self, Bool.and_true, Bool.true_and, li_0, li_1, li_2, li_3, li_4, li_5, li_6, li_7, li_8, li_16, li_18, li_21, li_25, li_46, li_54, li_58, li_60, li_79, li_87, li_89, li_95, li_96, li_100, li_104, li_108, li_116, li_127, li_128, li_132, li_153, li_158, li_159, li_164, li_167, li_172, li_176, li_177, li_184, li_188, li_190, li_198, li_199, li_200, li_202, li_240, li_255, li_256, li_32767, li_32768, li_65536, e2, hf4, c2, z_b]; simp [c3, c4]
      · obtain ⟨d1, d2⟩ := z_t3 _ hop (by omega)
        simp (disch := omega) only [nA, nS, nM, nLT, nLF, nTT, nTF, nEF, nET, nBT, nBF, nC, nNF, jj_b1, jj_b2, js, jn, eq_self, if_true, if_false, ite_true, ite_false, ↓reduceIte, and_self, true_and, and_true, zb0, zb1, bM, bR, bCk, bMa, Bool.false_eq_true, Bool.and_self, Bool.and_true, Bool.true_and, li_0, li_1, li_2, li_3, li_4, li_5, li_6, li_7, li_8, li_16, li_18, li_21, li_25, li_46, li_54, li_58, li_60, li_79, li_87, li_89, li_95, li_96, li_100, li_104, li_108, li_116, li_127, li_128, li_132, li_153, li_158, li_159, li_164, li_167, li_172, li_176, li_177, li_184, li_188, li_190, li_198, li_199, li_200, li_202, li_240, li_255, li_256, li_32767, li_32768, li_65536, e2, hf4, z_b]
        simp [c1, d1, d2]
    have C1 := hi_rd (q := q) hop hl (show k < 4 by omega) h1 h2 h3
    by_cases ce : a + k = e
    · -- the byte behind the code
      have hm : MF (a + k) (jj_set y 58 4 (nI 1)) := ⟨by rw [jn (by omega)]; exact h'.1, js _ _ _ _⟩
      refine ⟨x, jj_set y 58 4 (nI 1), Same.refl x, (Same.refl y).set _ (by omega), ?_, Or.inr ⟨a + k, hk2, ?_, h.1, hm⟩⟩
      · obtain ⟨f', rfl⟩ : ∃ g, f' = g + 1 := ⟨f' - 1, by omega⟩
        have M2 := h'.1
        have s0 := mf_skip hm (nI 0) (hiO (F a) k cc mc pl) (N := 0) (by omega)
        have t1 : g_Mo_readInstruction (f' + 1) 58 [some (.ref 58), some (.int (nI e)), some (.int (nI cc)), some (.int (nI mc)), some (.int (nI pl)), some (.int (nI (F a))), some (.int (nI (z_len (F a)))), some (.int (nI (k + 1))), none] (jj_set y 58 4 (nI 1)) = some (jj_set y 58 4 (nI 1)) := by
          by_cases c5 : z_len (F a) ≤ k + 1
          · simp (disch := omega) only [nA, nS, nM, nLT, nLF, nTT, nTF, nEF, nET, nBT, nBF, nC, nNF, jj_b1, jj_b2, js, jn, eq_self, if_true, if_false, ite_true, ite_false, ↓reduceIte, and_self, true_and, and_true, zb0, zb1, bM, bR, bCk, bMa, Bool.false_eq_true, Bool.and_self, Bool.and_true, Bool.true_and, li_0, li_1, li_2, li_3, li_4, li_5, li_6, li_7, li_8, li_16, li_18, li_21, li_25, li_46, li_54, li_58, li_60, li_79, li_87, li_89, li_95, li_96, li_100, li_104, li_108, li_116, li_127, li_128, li_132, li_153, li_158, li_159, li_164, li_167, li_172, li_176, li_177, li_184, li_188, li_190, li_198, li_199, li_200, li_202, li_240, li_255, li_256, li_32767, li_32768, li_65536, g_Mo_readInstruction, k_Mo_readInstruction_58]
          · simp (disch := omega) only [nA, nS, nM, nLT, nLF, nTT, nTF, nEF, nET, nBT, nBF, nC, nNF, jj_b1, jj_b2, js, jn, eq_self, if_true, if_false, ite_true, ite_false, ↓reduceIte, and_self, true_and, and_true, zb0, zb1, bM, bR, bCk, bMa, Bool.false_eq_true, Bool.and_self, Bool.and_true, Bool.true_and, li_0, li_1, li_2, li_3, li_4, li_5, li_6, li_7, li_8, li_16, li_18, li_21, li_25, li_46, li_54, li_58, li_60, li_79, li_87, li_89, li_95, li_96, li_100, li_104, li_108, li_116, li_127, li_128, li_132, li_153, li_158, li_159, li_164, li_167, li_172, li_176, li_177, li_184, li_188, li_190, li_198, li_199, li_200, li_202, li_240, li_255, li_256, li_32767, li_32768, li_65536, g_Mo_readInstruction, k_Mo_readInstruction_58]
        rw [show g_Mo_readInstruction (f' + 1 + 1) 58 [some (.ref 58), some (.int (nI e)), some (.int (nI cc)), some (.int (nI mc)), some (.int (nI pl)), some (.int (nI (F a))), some (.int (nI (z_len (F a)))), some (.int (nI k)), none] y = k_Mo_readInstruction_58 (g_Mo_readInstruction (f' + 1)) 58 (nI e) (nI cc) (nI mc) (nI pl) (nI (F a)) (nI (z_len (F a))) (nI k) y from rfl, M1]
        simp (disch := omega) only [nA, nS, nM, nLT, nLF, nTT, nTF, nEF, nET, nBT, nBF, nC, nNF, jj_b1, jj_b2, js, jn, eq_self, if_true, if_false, ite_true, ite_false, ↓reduceIte, and_self, true_and, and_true, zb0, zb1, bM, bR, bCk, bMa, Bool.false_eq_true, Bool.and_self, Bool.and_true, Bool.true_and, li_0, li_1, li_2, li_3, li_4, li_5, li_6, li_7, li_8, li_16, li_18, li_21, li_25, li_46, li_54, li_58, li_60, li_79, li_87, li_89, li_95, li_96, li_100, li_104, li_108, li_116, li_127, li_128, li_132, li_153, li_158, li_159, li_164, li_167, li_172, li_176, li_177, li_184, li_188, li_190, li_198, li_199, li_200, li_202, li_240, li_255, li_256, li_32767, li_32768, li_65536, k_Mo_readInstruction_129, k_Mo_readInstruction_145, k_Mo_readInstruction_161, M2, s0, t1]
      · have C2 := h.1
        simp (disch := omega) only [nA, nS, nM, nLT, nLF, nTT, nTF, nEF, nET, nBT, nBF, nC, nNF, jj_b1, jj_b2, js, jn, eq_self, if_true, if_false, ite_true, ite_false, ↓reduceIte, and_self, true_and, and_true, zb0, zb1, bM, bR, bCk, bMa, Bool.false_eq_true, Bool.and_self, Bool.and_true, Bool.true_and, li_0, li_1, li_2, li_3, li_4, li_5, li_6, li_7, li_8, li_16, li_18, li_21, li_25, li_46, li_54, li_58, li_60, li_79, li_87, li_89, li_95, li_96, li_100, li_104, li_108, li_116, li_127, li_128, li_132, li_153, li_158, li_159, li_164, li_167, li_172, li_176, li_177, li_184, li_188, li_190, li_198, li_199, li_200, li_202, li_240, li_255, li_256, li_32767, li_32768, li_65536, g_Rd_readsInstruction, k_Rd_readsInstruction_52, bS, bq, E1, C2]
    · have hy : jj_set y 58 4 (nI 0) = y := jj_set_id hf4
      obtain ⟨x1, y1, A1, B1, H1⟩ := two_next hS hF hk2 h h' (nI 0) (hiO (F a) k cc mc pl)
      obtain ⟨x2, y2, A2, B2, D2, H2⟩ := two_ones hS hF hk2 h h' (nI 0) (hiO (F a) k cc mc pl) (c := 1) (by omega)
      have M3 : g_Mo_readInstruction (f' + 1) 58 [some (.ref 58), some (.int (nI e)), some (.int (nI cc)), some (.int (nI mc)), some (.int (nI pl)), some (.int (nI (F a))), some (.int (nI (z_len (F a)))), some (.int (nI k)), none] y = g_Mo_readInstruction f' 58 [some (.ref 58), some (.int (nI e)), some (.int (nI cc)), some (.int (nI mc)), some (.int (nI pl)), some (.int (nI (F a))), some (.int (nI (z_len (F a)))), some (.int (nI (k + 1))), none] y2 := by
        rw [show g_Mo_readInstruction (f' + 1) 58 [some (.ref 58), some (.int (nI e)), some (.int (nI cc)), some (.int (nI mc)), some (.int (nI pl)), some (.int (nI (F a))), some (.int (nI (z_len (F a)))), some (.int (nI k)), none] y = k_Mo_readInstruction_58 (g_Mo_readInstruction f') 58 (nI e) (nI cc) (nI mc) (nI pl) (nI (F a)) (nI (z_len (F a))) (nI k) y from rfl, M1]
        have M2 := h'.1
        simp (disch := omega) only [nA, nS, nM, nLT, nLF, nTT, nTF, nEF, nET, nBT, nBF, nC, nNF, jj_b1, jj_b2, js, jn, eq_self, if_true, if_false, ite_true, ite_false, ↓reduceIte, and_self, true_and, and_true, zb0, zb1, bM, bR, bCk, bMa, Bool.false_eq_true, Bool.and_self, Bool.and_true, Bool.true_and, li_0, li_1, li_2, li_3, li_4, li_5, li_6, li_7, li_8, li_16, li_18, li_21, li_25, li_46, li_54, li_58, li_60, li_79, li_87, li_89, li_95, li_96, li_100, li_104, li_108, li_116, li_127, li_128, li_132, li_153, li_158, li_159, li_164, li_167, li_172, li_176, li_177, li_184, li_188, li_190, li_198, li_199, li_200, li_202, li_240, li_255, li_256, li_32767, li_32768, li_65536, k_Mo_readInstruction_129, k_Mo_readInstruction_145, k_Mo_readInstruction_161, M2, hy, hf4, D2]
      have C2 := h.1
      rcases H1 with ⟨n1, e1, l1, c1, d1, m1, p1, r1, s1⟩ | ⟨e1, l1, d1, m1⟩
      · -- it is there
        have m2 : Mr F n (a + k + 1) y2 := by
          rcases H2 with ⟨_, _, _, m2, _⟩ | ⟨b, hb, e2, l2, m2⟩
          · exact m2
          · exfalso
            have : f_Rd_nextOnes 24 S (nI 1) (nI 0) (hiO (F a) k cc mc pl) x = some (nI 1, x1) := by
              unfold f_Rd_nextOnes k_Rd_nextOnes_0
              simp (disch := omega) only [nA, nS, nM, nLT, nLF, nTT, nTF, nEF, nET, nBT, nBF, nC, nNF, jj_b1, jj_b2, js, jn, eq_self, if_true, if_false, ite_true, ite_false, ↓reduceIte, and_self, true_and, and_true, zb0, zb1, bM, bR, bCk, bMa, Bool.false_eq_true, Bool.and_self, Bool.and_true, Bool.true_and, li_0, li_1, li_2, li_3, li_4, li_5, li_6, li_7, li_8, li_16, li_18, li_21, li_25, li_46, li_54, li_58, li_60, li_79, li_87, li_89, li_95, li_96, li_100, li_104, li_108, li_116, li_127, li_128, li_132, li_153, li_158, li_159, li_164, li_167, li_172, li_176, li_177, li_184, li_188, li_190, li_198, li_199, li_200, li_202, li_240, li_255, li_256, li_32767, li_32768, li_65536, g_Rd_nextOnes, k_Rd_nextOnes_3, bS, e1]
            rw [this] at e2
            exact absurd (congrArg (fun o => o.map Prod.fst) e2) (by simp only [Option.map_some, Option.some.injEq]; decide)
        obtain ⟨x', y', A3, B3, G3, H3⟩ := ih (k + 1) f f' x1 y2 (by omega) (by omega) (by omega) (by omega) (by omega) (by omega) (by rw [A1.get S 2 (by omega)]; exact h1) (by rw [A1.get S 4 (by omega)]; exact h2) (by rw [A1.get q 4 (by omega)]; exact h3) c1 m2
        have C3 : g_Rd_readsInstruction (f + 1) 52 [some (.ref 24), some (.ref S), some (.ref q), some (.int (nI e)), some (.int (nI (F a))), some (.int (nI k))] x = g_Rd_readsInstruction f 52 [some (.ref 24), some (.ref S), some (.ref q), some (.int (nI e)), some (.int (nI (F a))), some (.int (nI (k + 1)))] x1 := by
          rw [show g_Rd_readsInstruction (f + 1) 52 [some (.ref 24), some (.ref S), some (.ref q), some (.int (nI e)), some (.int (nI (F a))), some (.int (nI k))] x = if (bo_Rd 24 && bo_Pr S && bo_Me q) = true then k_Rd_readsInstruction_52 (g_Rd_readsInstruction f) 24 S q (nI e) (nI (F a)) (nI k) x else none from rfl]
          simp (disch := omega) only [nA, nS, nM, nLT, nLF, nTT, nTF, nEF, nET, nBT, nBF, nC, nNF, jj_b1, jj_b2, js, jn, eq_self, if_true, if_false, ite_true, ite_false, ↓reduceIte, and_self, true_and, and_true, zb0, zb1, bM, bR, bCk, bMa, Bool.false_eq_true, Bool.and_self, Bool.and_true, Bool.true_and, li_0, li_1, li_2, li_3, li_4, li_5, li_6, li_7, li_8, li_16, li_18, li_21, li_25, li_46, li_54, li_58, li_60, li_79, li_87, li_89, li_95, li_96, li_100, li_104, li_108, li_116, li_127, li_128, li_132, li_153, li_158, li_159, li_164, li_167, li_172, li_176, li_177, li_184, li_188, li_190, li_198, li_199, li_200, li_202, li_240, li_255, li_256, li_32767, li_32768, li_65536, k_Rd_readsInstruction_52, bS, bq, E1, C1, C2, e1]
        refine ⟨x', y', A1.trans A3, B2.trans B3, by rw [M3]; exact G3, ?_⟩
        rw [C3]
        rcases H3 with ⟨g1, g2, g3, g4, g5, g6⟩ | g1
        · refine Or.inl ⟨g1, fun k1 _ => ?_, g3, g4, g5, g6⟩
          subst k1
          refine ⟨fun z => ?_, fun z => ?_, fun z => ?_⟩
          · have n2 := n1
            rw [hiO, if_pos ⟨rfl, z⟩] at n2
            exact nx_hi hF (by omega) n2
          · have n2 := n1
            rw [hiO, if_neg (fun w => (z_n18 _ w.2).1 z), if_pos z] at n2
            exact nx_hi hF (by omega) n2
          · have n2 := n1
            rw [hiO, if_neg (fun w => (z_n18 _ w.2).2 z), if_neg (by omega), if_pos z] at n2
            exact nx_hi hF (by omega) n2
        · exact Or.inr g1
      · -- it fails there
        have m2 : MF (a + k) y2 := by
          rcases H2 with ⟨e2, _, _, m2, _⟩ | ⟨b, hb, e2, l2, m2⟩
          · exfalso
            have : f_Rd_nextOnes 24 S (nI 1) (nI 0) (hiO (F a) k cc mc pl) x = some (nI 0, x1) := by
              unfold f_Rd_nextOnes k_Rd_nextOnes_0
              simp (disch := omega) only [nA, nS, nM, nLT, nLF, nTT, nTF, nEF, nET, nBT, nBF, nC, nNF, jj_b1, jj_b2, js, jn, eq_self, if_true, if_false, ite_true, ite_false, ↓reduceIte, and_self, true_and, and_true, zb0, zb1, bM, bR, bCk, bMa, Bool.false_eq_true, Bool.and_self, Bool.and_true, Bool.true_and, li_0, li_1, li_2, li_3, li_4, li_5, li_6, li_7, li_8, li_16, li_18, li_21, li_25, li_46, li_54, li_58, li_60, li_79, li_87, li_89, li_95, li_96, li_100, li_104, li_108, li_116, li_127, li_128, li_132, li_153, li_158, li_159, li_164, li_167, li_172, li_176, li_177, li_184, li_188, li_190, li_198, li_199, li_200, li_202, li_240, li_255, li_256, li_32767, li_32768, li_65536, g_Rd_nextOnes, k_Rd_nextOnes_3, bS, e1]
            rw [this] at e2
            exact absurd (congrArg (fun o => o.map Prod.fst) e2) (by simp only [Option.map_some, Option.some.injEq]; decide)
          · have : f_Rd_nextOnes 24 S (nI 1) (nI 0) (hiO (F a) k cc mc pl) x = some (nI 0, x1) := by
              unfold f_Rd_nextOnes k_Rd_nextOnes_0
              simp (disch := omega) only [nA, nS, nM, nLT, nLF, nTT, nTF, nEF, nET, nBT, nBF, nC, nNF, jj_b1, jj_b2, js, jn, eq_self, if_true, if_false, ite_true, ite_false, ↓reduceIte, and_self, true_and, and_true, zb0, zb1, bM, bR, bCk, bMa, Bool.false_eq_true, Bool.and_self, Bool.and_true, Bool.true_and, li_0, li_1, li_2, li_3, li_4, li_5, li_6, li_7, li_8, li_16, li_18, li_21, li_25, li_46, li_54, li_58, li_60, li_79, li_87, li_89, li_95, li_96, li_100, li_104, li_108, li_116, li_127, li_128, li_132, li_153, li_158, li_159, li_164, li_167, li_172, li_176, li_177, li_184, li_188, li_190, li_198, li_199, li_200, li_202, li_240, li_255, li_256, li_32767, li_32768, li_65536, g_Rd_nextOnes, k_Rd_nextOnes_3, bS, e1]
            rw [this] at e2
            have e3 : x1 = x2 := congrArg Prod.snd (Option.some.inj e2)
            subst e3
            rw [l1] at l2
            rw [nInj (by omega) (by omega) l2]
            exact m2
        refine ⟨x1, y2, A1, B2, ?_, Or.inr ⟨a + k, hk2, ?_, l1, m2⟩⟩
        · rw [M3]
          obtain ⟨f', rfl⟩ : ∃ g, f' = g + 1 := ⟨f' - 1, by omega⟩
          have M4 := m2.2
          by_cases c5 : z_len (F a) ≤ k + 1
          · simp (disch := omega) only [nA, nS, nM, nLT, nLF, nTT, nTF, nEF, nET, nBT, nBF, nC, nNF, jj_b1, jj_b2, js, jn, eq_self, if_true, if_false, ite_true, ite_false, ↓reduceIte, and_self, true_and, and_true, zb0, zb1, bM, bR, bCk, bMa, Bool.false_eq_true, Bool.and_self, Bool.and_true, Bool.true_and, li_0, li_1, li_2, li_3, li_4, li_5, li_6, li_7, li_8, li_16, li_18, li_21, li_25, li_46, li_54, li_58, li_60, li_79, li_87, li_89, li_95, li_96, li_100, li_104, li_108, li_116, li_127, li_128, li_132, li_153, li_158, li_159, li_164, li_167, li_172, li_176, li_177, li_184, li_188, li_190, li_198, li_199, li_200, li_202, li_240, li_255, li_256, li_32767, li_32768, li_65536, g_Mo_readInstruction, k_Mo_readInstruction_58]
          · simp (disch := omega) only [nA, nS, nM, nLT, nLF, nTT, nTF, nEF, nET, nBT, nBF, nC, nNF, jj_b1, jj_b2, js, jn, eq_self, if_true, if_false, ite_true, ite_false, ↓reduceIte, and_self, true_and, and_true, zb0, zb1, bM, bR, bCk, bMa, Bool.false_eq_true, Bool.and_self, Bool.and_true, Bool.true_and, li_0, li_1, li_2, li_3, li_4, li_5, li_6, li_7, li_8, li_16, li_18, li_21, li_25, li_46, li_54, li_58, li_60, li_79, li_87, li_89, li_95, li_96, li_100, li_104, li_108, li_116, li_127, li_128, li_132, li_153, li_158, li_159, li_164, li_167, li_172, li_176, li_177, li_184, li_188, li_190, li_198, li_199, li_200, li_202, li_240, li_255, li_256, li_32767, li_32768, li_65536, g_Mo_readInstruction, k_Mo_readInstruction_58, M4]
        · rw [show g_Rd_readsInstruction (f + 1) 52 [some (.ref 24), some (.ref S), some (.ref q), some (.int (nI e)), some (.int (nI (F a))), some (.int (nI k))] x = if (bo_Rd 24 && bo_Pr S && bo_Me q) = true then k_Rd_readsInstruction_52 (g_Rd_readsInstruction f) 24 S q (nI e) (nI (F a)) (nI k) x else none from rfl]
          simp (disch := omega) only [nA, nS, nM, nLT, nLF, nTT, nTF, nEF, nET, nBT, nBF, nC, nNF, jj_b1, jj_b2, js, jn, eq_self, if_true, if_false, ite_true, ite_false, ↓reduceIte, and_self, true_and, and_true, zb0, zb1, bM, bR, bCk, bMa, Bool.false_eq_true, Bool.and_self, Bool.and_true, Bool.true_and, li_0, li_1, li_2, li_3, li_4, li_5, li_6, li_7, li_8, li_16, li_18, li_21, li_25, li_46, li_54, li_58, li_60, li_79, li_87, li_89, li_95, li_96, li_100, li_104, li_108, li_116, li_127, li_128, li_132, li_153, li_158, li_159, li_164, li_167, li_172, li_176, li_177, li_184, li_188, li_190, li_198, li_199, li_200, li_202, li_240, li_255, li_256, li_32767, li_32768, li_65536, k_Rd_readsInstruction_52, bS, bq, E1, C1, C2, e1]
theorem two_insn {x y : jj_Mem} (hS : o_Pr S) (hF : By F n) (hq : o_Me q) (hqS : S + 3 ≤ q ∧ q < 24) (hae : a < e) (ha : a ≤ 240) (he : e ≤ 300) (hcc : cc ≤ 4) (hmc : mc ≤ 4) (hpl : pl ≤ 6) (h1 : x S 2 = nI cc) (h2 : x S 4 = nI mc) (h3 : x q 4 = nI pl) (h : Cl S F n a x) (h' : Mr F n a y) : ∃ x' y', Same WA x x' ∧ Same WM y y' ∧
    f_Mo_readInstruction 58 (nI e) (nI cc) (nI mc) (nI pl) y = some y' ∧
    ((f_Rd_readsInstruction 24 S q (nI e) x = some (nI 1, x') ∧ InsOK F a e cc mc pl ∧ a < n ∧ Cl S F n (a + z_len (F a)) x' ∧ Mr F n (a + z_len (F a)) y' ∧ a + z_len (F a) ≤ 240) ∨
     (∃ b, b ≤ 240 ∧ f_Rd_readsInstruction 24 S q (nI e) x = some (nI 0, x') ∧ x' 24 0 = nI b ∧ MF b y')) := by
  have hS2 := oc_Pr hS
  have bS : bo_Pr S = true := hS
  have hn := hF.1
  have C1 := h.1
  have C2 := h.2.1
  have C4 : y 58 4 = nI 0 := h'.2.2.1
  by_cases ha2 : a < n
  · have hop := hF.2 a ha2
    have hl3 := z_len3 _ hop
    have C3 := h.2.2 a ha2
    have E1 := zt_len _ hop
    have E2 := zm_bytes _ hop
    have N1 := (mo_next hF ha h' (nI 0) (nI 255)).1 ⟨ha2, by rw [nLT (by omega) (by omega)]; trivial, by rw [nLT (by omega) (by omega)]; trivial⟩
    by_cases hl : z_len (F a) = 0
    · refine ⟨x, jj_set (jj_set (jj_set y 58 3 (nI (a + 1))) 58 3 (nI a)) 58 4 (nI 1), Same.refl x, (((Same.refl y).set _ (by omega)).set _ (by omega)).set _ (by omega), ?_, Or.inr ⟨a, ha, ?_, C1, ⟨by rw [jn (by omega), js], js _ _ _ _⟩⟩⟩
      · unfold f_Mo_readInstruction k_Mo_readInstruction_0 k_Mo_readInstruction_26 k_Mo_readInstruction_55
        simp (disch := omega) only [nA, nS, nM, nLT, nLF, nTT, nTF, nEF, nET, nBT, nBF, nC, nNF, jj_b1, jj_b2, js, jn, eq_self, if_true, if_false, ite_true, ite_false, ↓reduceIte, and_self, true_and, and_true, zb0, zb1, bM, bR, bCk, bMa, Bool.false_eq_true, Bool.and_self, Bool.and_true, Bool.true_and, li_0, li_1, li_2, li_3, li_4, li_5, li_6, li_7, li_8, li_16, li_18, li_21, li_25, li_46, li_54, li_58, li_60, li_79, li_87, li_89, li_95, li_96, li_100, li_104, li_108, li_116, li_127, li_128, li_132, li_153, li_158, li_159, li_164, li_167, li_172, li_176, li_177, li_184, li_188, li_190, li_198, li_199, li_200, li_202, li_240, li_255, li_256, li_32767, li_32768, li_65536, N1, C4, E2, hl, g_Mo_readInstruction, k_Mo_readInstruction_58, Nat.add_sub_cancel]
      · unfold f_Rd_readsInstruction k_Rd_readsInstruction_0
        simp (disch := omega) only [nA, nS, nM, nLT, nLF, nTT, nTF, nEF, nET, nBT, nBF, nC, nNF, jj_b1, jj_b2, js, jn, eq_self, if_true, if_false, ite_true, ite_false, ↓reduceIte, and_self, true_and, and_true, zb0, zb1, bM, bR, bCk, bMa, Bool.false_eq_true, Bool.and_self, Bool.and_true, Bool.true_and, li_0, li_1, li_2, li_3, li_4, li_5, li_6, li_7, li_8, li_16, li_18, li_21, li_25, li_46, li_54, li_58, li_60, li_79, li_87, li_89, li_95, li_96, li_100, li_104, li_108, li_116, li_127, li_128, li_132, li_153, li_158, li_159, li_164, li_167, li_172, li_176, li_177, li_184, li_188, li_190, li_198, li_199, li_200, li_202, li_240, li_255, li_256, li_32767, li_32768, li_65536, C1, C2, C3, E1, hl]
    · have c1 : Cl S F n (a + 1) (jj_set x 24 0 (nI (a + 1))) := ⟨js _ _ _ _, by rw [jn (by omega)]; exact C2, fun k hk => by rw [jn (by omega)]; exact h.2.2 k hk⟩
      have m1 : Mr F n (a + 1) (jj_set y 58 3 (nI (a + 1))) := h'.same ((Same.refl y).set _ (by omega)) (js _ _ _ _) (by rw [jn (by omega)]; exact h'.2.2.1)
      obtain ⟨x', y', A3, B3, G3, H3⟩ := two_opnds hS hF hq hqS ha2 he hcc hmc hpl hl (z_len (F a) - 1) 1 1000 1000 (jj_set x 24 0 (nI (a + 1))) (jj_set y 58 3 (nI (a + 1))) (by omega) (by omega) (by omega) (by omega) (by omega) (by omega) (by rw [jn (by omega)]; exact h1) (by rw [jn (by omega)]; exact h2) (by rw [jn (by omega)]; exact h3) c1 m1
      have K1 : f_Rd_readsInstruction 24 S q (nI e) x = g_Rd_readsInstruction 1000 52 [some (.ref 24), some (.ref S), some (.ref q), some (.int (nI e)), some (.int (nI (F a))), some (.int (nI 1))] (jj_set x 24 0 (nI (a + 1))) := by
        unfold f_Rd_readsInstruction k_Rd_readsInstruction_0
        simp (disch := omega) only [nA, nS, nM, nLT, nLF, nTT, nTF, nEF, nET, nBT, nBF, nC, nNF, jj_b1, jj_b2, js, jn, eq_self, if_true, if_false, ite_true, ite_false, ↓reduceIte, and_self, true_and, and_true, zb0, zb1, bM, bR, bCk, bMa, Bool.false_eq_true, Bool.and_self, Bool.and_true, Bool.true_and, li_0, li_1, li_2, li_3, li_4, li_5, li_6, li_7, li_8, li_16, li_18, li_21, li_25, li_46, li_54, li_58, li_60, li_79, li_87, li_89, li_95, li_96, li_100, li_104, li_108, li_116, li_127, li_128, li_132, li_153, li_158, li_159, li_164, li_167, li_172, li_176, li_177, li_184, li_188, li_190, li_198, li_199, li_200, li_202, li_240, li_255, li_256, li_32767, li_32768, li_65536, C1, C2, C3, E1]
      refine ⟨x', y', ((Same.refl x).set _ (by omega)).trans A3, ((Same.refl y).set _ (by omega)).trans B3, ?_, ?_⟩
      · unfold f_Mo_readInstruction k_Mo_readInstruction_0 k_Mo_readInstruction_26 k_Mo_readInstruction_55
        simp (disch := omega) only [nA, nS, nM, nLT, nLF, nTT, nTF, nEF, nET, nBT, nBF, nC, nNF, jj_b1, jj_b2, js, jn, eq_self, if_true, if_false, ite_true, ite_false, ↓reduceIte, and_self, true_and, and_true, zb0, zb1, bM, bR, bCk, bMa, Bool.false_eq_true, Bool.and_self, Bool.and_true, Bool.true_and, li_0, li_1, li_2, li_3, li_4, li_5, li_6, li_7, li_8, li_16, li_18, li_21, li_25, li_46, li_54, li_58, li_60, li_79, li_87, li_89, li_95, li_96, li_100, li_104, li_108, li_116, li_127, li_128, li_132, li_153, li_158, li_159, li_164, li_167, li_172, li_176, li_177, li_184, li_188, li_190, li_198, li_199, li_200, li_202, li_240, li_255, li_256, li_32767, li_32768, li_65536, N1, C4, E2, G3]
      · rw [K1]
        rcases H3 with ⟨g1, g2, g3, g4, g5, g6⟩ | g1
        · exact Or.inl ⟨g1, ⟨hl, g5, fun z => g2 rfl (by omega)⟩, ha2, g3, g4, g6⟩
        · exact Or.inr g1
  · have N1 := (mo_next hF ha h' (nI 0) (nI 255)).2 (fun z => ha2 z.1)
    have hm : MF a (jj_set y 58 4 1) := ⟨by rw [jn (by omega)]; exact h'.1, js _ _ _ _⟩
    refine ⟨x, jj_set y 58 4 1, Same.refl x, (Same.refl y).set _ (by omega), ?_, Or.inr ⟨a, ha, ?_, C1, hm⟩⟩
    · unfold f_Mo_readInstruction k_Mo_readInstruction_0 k_Mo_readInstruction_26 k_Mo_readInstruction_55
      simp (disch := omega) only [nA, nS, nM, nLT, nLF, nTT, nTF, nEF, nET, nBT, nBF, nC, nNF, jj_b1, jj_b2, js, jn, eq_self, if_true, if_false, ite_true, ite_false, ↓reduceIte, and_self, true_and, and_true, zb0, zb1, bM, bR, bCk, bMa, Bool.false_eq_true, Bool.and_self, Bool.and_true, Bool.true_and, li_0, li_1, li_2, li_3, li_4, li_5, li_6, li_7, li_8, li_16, li_18, li_21, li_25, li_46, li_54, li_58, li_60, li_79, li_87, li_89, li_95, li_96, li_100, li_104, li_108, li_116, li_127, li_128, li_132, li_153, li_158, li_159, li_164, li_167, li_172, li_176, li_177, li_184, li_188, li_190, li_198, li_199, li_200, li_202, li_240, li_255, li_256, li_32767, li_32768, li_65536, N1, g_Mo_readInstruction, k_Mo_readInstruction_58]
    · unfold f_Rd_readsInstruction k_Rd_readsInstruction_0
      simp (disch := omega) only [nA, nS, nM, nLT, nLF, nTT, nTF, nEF, nET, nBT, nBF, nC, nNF, jj_b1, jj_b2, js, jn, eq_self, if_true, if_false, ite_true, ite_false, ↓reduceIte, and_self, true_and, and_true, zb0, zb1, bM, bR, bCk, bMa, Bool.false_eq_true, Bool.and_self, Bool.and_true, Bool.true_and, li_0, li_1, li_2, li_3, li_4, li_5, li_6, li_7, li_8, li_16, li_18, li_21, li_25, li_46, li_54, li_58, li_60, li_79, li_87, li_89, li_95, li_96, li_100, li_104, li_108, li_116, li_127, li_128, li_132, li_153, li_158, li_159, li_164, li_167, li_172, li_176, li_177, li_184, li_188, li_190, li_198, li_199, li_200, li_202, li_240, li_255, li_256, li_32767, li_32768, li_65536, C1, C2]
end INSN
