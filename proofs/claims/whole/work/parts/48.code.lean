/-! PURE: reading a method's code in step -/
/-- where instruction i begins -/
def st (F : Nat → Nat) (cd : Nat) : Nat → Nat
  | 0 => 0
  | i + 1 => st F cd i + z_len (F (cd + st F cd i))
theorem st_succ (F : Nat → Nat) (cd i : Nat) : st F cd (i + 1) = st F cd i + z_len (F (cd + st F cd i)) := rfl
def CodeOK (F : Nat → Nat) (cd ln cc mc pl N : Nat) : Prop := N ≤ ln ∧ st F cd N = ln ∧ ∀ j, j < N → st F cd j < ln ∧ InsOK F (cd + st F cd j) (cd + ln) cc mc pl
/-- what the reader of the object knows of the first i instructions -/
def BgC (F : Nat → Nat) (cd i : Nat) (x : jj_Mem) : Prop := (∀ j, j < i → x 25 (st F cd j) = nI 1) ∧ ∀ o, o < 60 → (∀ j, j < i → st F cd j ≠ o) → x 25 o = nI 0
theorem mf_tail {b f : Nat} {y : jj_Mem} (h : MF b y) (hf : 1 ≤ f) (v5 v6 v7 v8 : Int32) : k_Mo_readMethod_95 (g_Mo_readMethod f) 58 v5 v6 v7 v8 y = some y := by
  obtain ⟨f, rfl⟩ : ∃ g, f = g + 1 := ⟨f - 1, by omega⟩
  have e := h.2
  simp (disch := omega) only [nA, nS, nM, nLT, nLF, nTT, nTF, nEF, nET, nBT, nBF, nC, nNF, jj_b1, jj_b2, js, jn, eq_self, if_true, if_false, ite_true, ite_false, ↓reduceIte, and_self, true_and, and_true, zb0, zb1, bM, bR, bCk, bMa, Bool.false_eq_true, Bool.and_self, Bool.and_true, Bool.true_and, li_0, li_1, li_2, li_3, li_4, li_5, li_6, li_7, li_8, li_16, li_18, li_21, li_25, li_46, li_54, li_58, li_60, li_79, li_87, li_89, li_95, li_96, li_100, li_104, li_108, li_116, li_127, li_128, li_132, li_153, li_158, li_159, li_164, li_167, li_172, li_176, li_177, li_184, li_188, li_190, li_198, li_199, li_200, li_202, li_240, li_255, li_256, li_32767, li_32768, li_65536, k_Mo_readMethod_95, mf_next h, g_Mo_readMethod, k_Mo_readMethod_113, k_Mo_readMethod_204, k_Mo_readMethod_228, e, jj_set_id e]
abbrev W25 (i k : Nat) : Prop := (i = 24 ∧ k ≤ 1) ∨ i = 25
theorem Same.a25 {x y : jj_Mem} (h : Same WA x y) : Same W25 x y := h.mono (fun i k z => Or.inl z)
section CODE
variable {S n cd ln q cc mc pl : Nat} {F : Nat → Nat}
theorem two_code_g (hS : o_Pr S) (hF : By F n) (hq : o_Me q) (hqS : S + 3 ≤ q ∧ q < 24) (hcd : cd ≤ 240) (hln : ln ≤ 60) (hcc : cc ≤ 4) (hmc : mc ≤ 4) (hpl : pl ≤ 6) (v4 v5 : Int32) (hv4 : ¬ v4 < nI 0) : ∀ (r i f f' : Nat) (x y : jj_Mem), ln - st F cd i ≤ r → i ≤ st F cd i → st F cd i ≤ ln → (∀ j, j < i → st F cd j < st F cd i ∧ st F cd j < ln ∧ InsOK F (cd + st F cd j) (cd + ln) cc mc pl) → r < f → r < f' → cd + st F cd i ≤ 240 → x S 2 = nI cc → x S 4 = nI mc → x q 4 = nI pl → x q 5 = nI cd → BgC F cd i x → Cl S F n (cd + st F cd i) x → Mr F n (cd + st F cd i) y → ∃ x' y' f'', Same W25 x x' ∧ Same WM y y' ∧ f' ≤ f'' + r + 1 ∧
    g_Mo_readMethod f' 55 [some (.ref 58), some (.int (nI cc)), some (.int (nI mc)), none, some (.int v4), some (.int v5), some (.int (nI pl)), some (.int (nI ln)), some (.int (nI cd)), none, none, none, none, none] y = k_Mo_readMethod_95 (g_Mo_readMethod f'') 58 v5 (nI pl) (nI ln) (nI cd) y' ∧
    ((∃ N, g_Rd_readsCode f 34 [some (.ref 24), some (.ref S), some (.ref q), some (.int (nI (cd + ln))), some (.int (nI i))] x = some (nI 1, x') ∧ CodeOK F cd ln cc mc pl N ∧ BgC F cd N x' ∧ Cl S F n (cd + ln) x' ∧ Mr F n (cd + ln) y' ∧ cd + ln ≤ 240) ∨
     (∃ b, b ≤ 240 ∧ g_Rd_readsCode f 34 [some (.ref 24), some (.ref S), some (.ref q), some (.int (nI (cd + ln))), some (.int (nI i))] x = some (nI 0, x') ∧ x' 24 0 = nI b ∧ MF b y')) := by
  have hS2 := oc_Pr hS
  have bS : bo_Pr S = true := hS
  have bq : bo_Me q = true := hq
  have hv : (v4 < nI 0) = False := eq_false hv4
  intro r
  induction r with
  | zero =>
    intro i f f' x y hr hi hil hj hf hf' h240 h1 h2 h3 h5 hB h h'
    obtain ⟨f, rfl⟩ : ∃ g, f = g + 1 := ⟨f - 1, by omega⟩
    obtain ⟨f', rfl⟩ : ∃ g, f' = g + 1 := ⟨f' - 1, by omega⟩
    have e : st F cd i = ln := by omega
    rw [e] at h h' h240
    have C1 := h.1
    have C2 := h'.1
    have C4 : y 58 4 = nI 0 := h'.2.2.1
    refine ⟨x, y, f', Same.refl x, Same.refl y, by omega, ?_, Or.inl ⟨i, ?_, ⟨by omega, e, fun j hj' => (hj j hj').2⟩, hB, h, h', by omega⟩⟩
    · simp (disch := omega) only [nA, nS, nM, nLT, nLF, nTT, nTF, nEF, nET, nBT, nBF, nC, nNF, jj_b1, jj_b2, js, jn, eq_self, if_true, if_false, ite_true, ite_false, ↓reduceIte, and_self, true_and, and_true, zb0, zb1, bM, bR, bCk, bMa, Bool.false_eq_true, Bool.and_self, Bool.and_true, Bool.true_and, li_0, li_1, li_2, li_3, li_4, li_5, li_6, li_7, li_8, li_16, li_18, li_21, li_25, li_46, li_54, li_58, li_60, li_79, li_87, li_89, li_95, li_96, li_100, li_104, li_108, li_116, li_127, li_128, li_132, li_153, li_158, li_159, li_164, li_167, li_172, li_176, li_177, li_184, li_188, li_190, li_198, li_199, li_200, li_202, li_240, li_255, li_256, li_32767, li_32768, li_65536, g_Mo_readMethod, k_Mo_readMethod_55, C4, C2, hv]
    · by_cases c : 60 ≤ i
      · simp (disch := omega) only [nA, nS, nM, nLT, nLF, nTT, nTF, nEF, nET, nBT, nBF, nC, nNF, jj_b1, jj_b2, js, jn, eq_self, if_true, if_false, ite_true, ite_false, ↓reduceIte, and_self, true_and, and_true, zb0, zb1, bM, bR, bCk, bMa, Bool.false_eq_true, Bool.and_self, Bool.and_true, Bool.true_and, li_0, li_1, li_2, li_3, li_4, li_5, li_6, li_7, li_8, li_16, li_18, li_21, li_25, li_46, li_54, li_58, li_60, li_79, li_87, li_89, li_95, li_96, li_100, li_104, li_108, li_116, li_127, li_128, li_132, li_153, li_158, li_159, li_164, li_167, li_172, li_176, li_177, li_184, li_188, li_190, li_198, li_199, li_200, li_202, li_240, li_255, li_256, li_32767, li_32768, li_65536, g_Rd_readsCode, k_Rd_readsCode_34, bS, bq, C1]
      · simp (disch := omega) only [nA, nS, nM, nLT, nLF, nTT, nTF, nEF, nET, nBT, nBF, nC, nNF, jj_b1, jj_b2, js, jn, eq_self, if_true, if_false, ite_true, ite_false, ↓reduceIte, and_self, true_and, and_true, zb0, zb1, bM, bR, bCk, bMa, Bool.false_eq_true, Bool.and_self, Bool.and_true, Bool.true_and, li_0, li_1, li_2, li_3, li_4, li_5, li_6, li_7, li_8, li_16, li_18, li_21, li_25, li_46, li_54, li_58, li_60, li_79, li_87, li_89, li_95, li_96, li_100, li_104, li_108, li_116, li_127, li_128, li_132, li_153, li_158, li_159, li_164, li_167, li_172, li_176, li_177, li_184, li_188, li_190, li_198, li_199, li_200, li_202, li_240, li_255, li_256, li_32767, li_32768, li_65536, g_Rd_readsCode, k_Rd_readsCode_34, bS, bq, C1]
  | succ r ih =>
    intro i f f' x y hr hi hil hj hf hf' h240 h1 h2 h3 h5 hB h h'
    have C1 := h.1
    have C2 := h'.1
    have C4 : y 58 4 = nI 0 := h'.2.2.1
    by_cases e : st F cd i = ln
    · obtain ⟨f, rfl⟩ : ∃ g, f = g + 1 := ⟨f - 1, by omega⟩
      obtain ⟨f', rfl⟩ : ∃ g, f' = g + 1 := ⟨f' - 1, by omega⟩
      rw [e] at h h' h240 C1 C2
      refine ⟨x, y, f', Same.refl x, Same.refl y, by omega, ?_, Or.inl ⟨i, ?_, ⟨by omega, e, fun j hj' => (hj j hj').2⟩, hB, h, h', by omega⟩⟩
      · simp (disch := omega) only [nA, nS, nM, nLT, nLF, nTT, nTF, nEF, nET, nBT, nBF, nC, nNF, jj_b1, jj_b2, js, jn, eq_self, if_true, if_false, ite_true, ite_false, ↓reduceIte, and_self, true_and, and_true, zb0, zb1, bM, bR, bCk, bMa, Bool.false_eq_true, Bool.and_self, Bool.and_true, Bool.true_and, li_0, li_1, li_2, li_3, li_4, li_5, li_6, li_7, li_8, li_16, li_18, li_21, li_25, li_46, li_54, li_58, li_60, li_79, li_87, li_89, li_95, li_96, li_100, li_104, li_108, li_116, li_127, li_128, li_132, li_153, li_158, li_159, li_164, li_167, li_172, li_176, li_177, li_184, li_188, li_190, li_198, li_199, li_200, li_202, li_240, li_255, li_256, li_32767, li_32768, li_65536, g_Mo_readMethod, k_Mo_readMethod_55, C4, C2, hv]
      · by_cases c : 60 ≤ i
        · simp (disch := omega) only [nA, nS, nM, nLT, nLF, nTT, nTF, nEF, nET, nBT, nBF, nC, nNF, jj_b1, jj_b2, js, jn, eq_self, if_true, if_false, ite_true, ite_false, ↓reduceIte, and_self, true_and, and_true, zb0, zb1, bM, bR, bCk, bMa, Bool.false_eq_true, Bool.and_self, Bool.and_true, Bool.true_and, li_0, li_1, li_2, li_3, li_4, li_5, li_6, li_7, li_8, li_16, li_18, li_21, li_25, li_46, li_54, li_58, li_60, li_79, li_87, li_89, li_95, li_96, li_100, li_104, li_108, li_116, li_127, li_128, li_132, li_153, li_158, li_159, li_164, li_167, li_172, li_176, li_177, li_184, li_188, li_190, li_198, li_199, li_200, li_202, li_240, li_255, li_256, li_32767, li_32768, li_65536, g_Rd_readsCode, k_Rd_readsCode_34, bS, bq, C1]
        · simp (disch := omega) only [nA, nS, nM, nLT, nLF, nTT, nTF, nEF, nET, nBT, nBF, nC, nNF, jj_b1, jj_b2, js, jn, eq_self, if_true, if_false, ite_true, ite_false, ↓reduceIte, and_self, true_and, and_true, zb0, zb1, bM, bR, bCk, bMa, Bool.false_eq_true, Bool.and_self, Bool.and_true, Bool.true_and, li_0, li_1, li_2, li_3, li_4, li_5, li_6, li_7, li_8, li_16, li_18, li_21, li_25, li_46, li_54, li_58, li_60, li_79, li_87, li_89, li_95, li_96, li_100, li_104, li_108, li_116, li_127, li_128, li_132, li_153, li_158, li_159, li_164, li_167, li_172, li_176, li_177, li_184, li_188, li_190, li_198, li_199, li_200, li_202, li_240, li_255, li_256, li_32767, li_32768, li_65536, g_Rd_readsCode, k_Rd_readsCode_34, bS, bq, C1]
    · obtain ⟨f, rfl⟩ : ∃ g, f = g + 1 := ⟨f - 1, by omega⟩
      obtain ⟨f', rfl⟩ : ∃ g, f' = g + 1 := ⟨f' - 1, by omega⟩
      have c0 : Cl S F n (cd + st F cd i) (jj_set x 25 (st F cd i) (nI 1)) := ⟨by rw [jn (by omega)]; exact C1, by rw [jn (by omega)]; exact h.2.1, fun k hk => by rw [jn (by omega)]; exact h.2.2 k hk⟩
      obtain ⟨x1, y1, A1, B1, D1, H1⟩ := two_insn (e := cd + ln) (cc := cc) (mc := mc) (pl := pl) hS hF hq hqS (by omega) h240 (by omega) hcc hmc hpl (x := jj_set x 25 (st F cd i) (nI 1)) (by rw [jn (by omega)]; exact h1) (by rw [jn (by omega)]; exact h2) (by rw [jn (by omega)]; exact h3) c0 h'
      have Q : cd + st F cd i - cd = st F cd i := by omega
      have K2 : g_Mo_readMethod (f' + 1) 55 [some (.ref 58), some (.int (nI cc)), some (.int (nI mc)), none, some (.int v4), some (.int v5), some (.int (nI pl)), some (.int (nI ln)), some (.int (nI cd)), none, none, none, none, none] y = g_Mo_readMethod f' 55 [some (.ref 58), some (.int (nI cc)), some (.int (nI mc)), none, some (.int v4), some (.int v5), some (.int (nI pl)), some (.int (nI ln)), some (.int (nI cd)), none, none, none, none, none] y1 := by
        rw [show g_Mo_readMethod (f' + 1) 55 [some (.ref 58), some (.int (nI cc)), some (.int (nI mc)), none, some (.int v4), some (.int v5), some (.int (nI pl)), some (.int (nI ln)), some (.int (nI cd)), none, none, none, none, none] y = k_Mo_readMethod_55 (g_Mo_readMethod f') 58 (nI cc) (nI mc) v4 v5 (nI pl) (nI ln) (nI cd) y from rfl]
        simp (disch := omega) only [nA, nS, nM, nLT, nLF, nTT, nTF, nEF, nET, nBT, nBF, nC, nNF, jj_b1, jj_b2, js, jn, eq_self, if_true, if_false, ite_true, ite_false, ↓reduceIte, and_self, true_and, and_true, zb0, zb1, bM, bR, bCk, bMa, Bool.false_eq_true, Bool.and_self, Bool.and_true, Bool.true_and, li_0, li_1, li_2, li_3, li_4, li_5, li_6, li_7, li_8, li_16, li_18, li_21, li_25, li_46, li_54, li_58, li_60, li_79, li_87, li_89, li_95, li_96, li_100, li_104, li_108, li_116, li_127, li_128, li_132, li_153, li_158, li_159, li_164, li_167, li_172, li_176, li_177, li_184, li_188, li_190, li_198, li_199, li_200, li_202, li_240, li_255, li_256, li_32767, li_32768, li_65536, k_Mo_readMethod_55, C4, C2, hv, D1]
      rcases H1 with ⟨e1, g1, g2, g3, g4, g5⟩ | ⟨b, hb, e1, l1, m1⟩
      · have Z : st F cd (i + 1) = st F cd i + z_len (F (cd + st F cd i)) := rfl
        have Z2 : cd + st F cd i + z_len (F (cd + st F cd i)) = cd + st F cd (i + 1) := by omega
        rw [Z2] at g3 g4 g5
        have g11 := g1.1
        have g12 := g1.2.1
        have hB1 : BgC F cd (i + 1) x1 := by
          refine ⟨fun j hj' => ?_, fun o ho hn => ?_⟩
          · rw [A1.get 25 _ (by omega)]
            by_cases c : st F cd j = st F cd i
            · rw [c, js]
            · rw [jn (by omega)]
              exact hB.1 j (by
                have : j ≠ i := fun z => c (by rw [z])
                omega)
          · rw [A1.get 25 _ (by omega), jn (by
              have := hn i (by omega)
              omega)]
            exact hB.2 o ho (fun j hj' => hn j (by omega))
        obtain ⟨x', y', f'', a1, a2, a3, a4, a5⟩ := ih (i + 1) f f' x1 y1 (by omega) (by omega) (by omega) (fun j hj' => by
            by_cases c : j = i
            · subst c
              exact ⟨by omega, by omega, g1⟩
            · have := hj j (by omega)
              exact ⟨by omega, this.2⟩) (by omega) (by omega) g5 (by rw [A1.get S 2 (by omega), jn (by omega)]; exact h1) (by rw [A1.get S 4 (by omega), jn (by omega)]; exact h2) (by rw [A1.get q 4 (by omega), jn (by omega)]; exact h3) (by rw [A1.get q 5 (by omega), jn (by omega)]; exact h5) hB1 g3 g4
        have K1 : g_Rd_readsCode (f + 1) 34 [some (.ref 24), some (.ref S), some (.ref q), some (.int (nI (cd + ln))), some (.int (nI i))] x = g_Rd_readsCode f 34 [some (.ref 24), some (.ref S), some (.ref q), some (.int (nI (cd + ln))), some (.int (nI (i + 1)))] x1 := by
          rw [show g_Rd_readsCode (f + 1) 34 [some (.ref 24), some (.ref S), some (.ref q), some (.int (nI (cd + ln))), some (.int (nI i))] x = if (bo_Rd 24 && bo_Pr S && bo_Me q) = true then k_Rd_readsCode_34 (g_Rd_readsCode f) 24 S q (nI (cd + ln)) (nI i) x else none from rfl]
          simp (disch := omega) only [nA, nS, nM, nLT, nLF, nTT, nTF, nEF, nET, nBT, nBF, nC, nNF, jj_b1, jj_b2, js, jn, eq_self, if_true, if_false, ite_true, ite_false, ↓reduceIte, and_self, true_and, and_true, zb0, zb1, bM, bR, bCk, bMa, Bool.false_eq_true, Bool.and_self, Bool.and_true, Bool.true_and, li_0, li_1, li_2, li_3, li_4, li_5, li_6, li_7, li_8, li_16, li_18, li_21, li_25, li_46, li_54, li_58, li_60, li_79, li_87, li_89, li_95, li_96, li_100, li_104, li_108, li_116, li_127, li_128, li_132, li_153, li_158, li_159, li_164, li_167, li_172, li_176, li_177, li_184, li_188, li_190, li_198, li_199, li_200, li_202, li_240, li_255, li_256, li_32767, li_32768, li_65536, k_Rd_readsCode_34, bS, bq, C1, h5, Q, e1]
        refine ⟨x', y', f'', (((Same.refl x).set _ (by omega)).trans A1.a25).trans a1, B1.trans a2, by omega, by rw [K2]; exact a4, ?_⟩
        rw [K1]
        exact a5
      · refine ⟨x1, y1, f' - 1, ((Same.refl x).set _ (by omega)).trans A1.a25, B1, by omega, ?_, Or.inr ⟨b, hb, ?_, l1, m1⟩⟩
        · rw [K2]
          obtain ⟨f', rfl⟩ : ∃ g, f' = g + 1 := ⟨f' - 1, by omega⟩
          have e2 := m1.2
          simp (disch := omega) only [nA, nS, nM, nLT, nLF, nTT, nTF, nEF, nET, nBT, nBF, nC, nNF, jj_b1, jj_b2, js, jn, eq_self, if_true, if_false, ite_true, ite_false, ↓reduceIte, and_self, true_and, and_true, zb0, zb1, bM, bR, bCk, bMa, Bool.false_eq_true, Bool.and_self, Bool.and_true, Bool.true_and, li_0, li_1, li_2, li_3, li_4, li_5, li_6, li_7, li_8, li_16, li_18, li_21, li_25, li_46, li_54, li_58, li_60, li_79, li_87, li_89, li_95, li_96, li_100, li_104, li_108, li_116, li_127, li_128, li_132, li_153, li_158, li_159, li_164, li_167, li_172, li_176, li_177, li_184, li_188, li_190, li_198, li_199, li_200, li_202, li_240, li_255, li_256, li_32767, li_32768, li_65536, g_Mo_readMethod, k_Mo_readMethod_55, e2, Nat.add_sub_cancel]
        · rw [show g_Rd_readsCode (f + 1) 34 [some (.ref 24), some (.ref S), some (.ref q), some (.int (nI (cd + ln))), some (.int (nI i))] x = if (bo_Rd 24 && bo_Pr S && bo_Me q) = true then k_Rd_readsCode_34 (g_Rd_readsCode f) 24 S q (nI (cd + ln)) (nI i) x else none from rfl]
          simp (disch := omega) only [nA, nS, nM, nLT, nLF, nTT, nTF, nEF, nET, nBT, nBF, nC, nNF, jj_b1, jj_b2, js, jn, eq_self, if_true, if_false, ite_true, ite_false, ↓reduceIte, and_self, true_and, and_true, zb0, zb1, bM, bR, bCk, bMa, Bool.false_eq_true, Bool.and_self, Bool.and_true, Bool.true_and, li_0, li_1, li_2, li_3, li_4, li_5, li_6, li_7, li_8, li_16, li_18, li_21, li_25, li_46, li_54, li_58, li_60, li_79, li_87, li_89, li_95, li_96, li_100, li_104, li_108, li_116, li_127, li_128, li_132, li_153, li_158, li_159, li_164, li_167, li_172, li_176, li_177, li_184, li_188, li_190, li_198, li_199, li_200, li_202, li_240, li_255, li_256, li_32767, li_32768, li_65536, k_Rd_readsCode_34, bS, bq, C1, h5, Q, e1]
theorem rd_clear (hS : o_Pr S) (hq : o_Me q) (hqS : S + 3 ≤ q ∧ q < 24) (hcd : cd ≤ 240) (hln : ln ≤ 60) : ∀ (c j f : Nat) (x : jj_Mem), j + c = 60 → x q 5 = nI cd → x q 6 = nI ln → ∃ x', Same (fun i _ => i = 25) x x' ∧ (∀ o, j ≤ o → o < 60 → x' 25 o = nI 0) ∧ (∀ o, o < j → x' 25 o = x 25 o) ∧
    g_Rd_readsCode (f + c + 1) 2 [some (.ref 24), some (.ref S), some (.ref q), some (.int (nI j)), none] x = g_Rd_readsCode f 34 [some (.ref 24), some (.ref S), some (.ref q), some (.int (nI (cd + ln))), some (.int (nI 0))] x' := by
  have bS : bo_Pr S = true := hS
  have bq : bo_Me q = true := hq
  intro c
  induction c with
  | zero =>
    intro j f x hj h5 h6
    refine ⟨x, Same.refl x, fun o h1 h2 => by omega, fun o _ => rfl, ?_⟩
    rw [show g_Rd_readsCode (f + 0 + 1) 2 [some (.ref 24), some (.ref S), some (.ref q), some (.int (nI j)), none] x = if (bo_Rd 24 && bo_Pr S && bo_Me q) = true then k_Rd_readsCode_2 (g_Rd_readsCode f) 24 S q (nI j) x else none from rfl]
    simp (disch := omega) only [nA, nS, nM, nLT, nLF, nTT, nTF, nEF, nET, nBT, nBF, nC, nNF, jj_b1, jj_b2, js, jn, eq_self, if_true, if_false, ite_true, ite_false, ↓reduceIte, and_self, true_and, and_true, zb0, zb1, bM, bR, bCk, bMa, Bool.false_eq_true, Bool.and_self, Bool.and_true, Bool.true_and, li_0, li_1, li_2, li_3, li_4, li_5, li_6, li_7, li_8, li_16, li_18, li_21, li_25, li_46, li_54, li_58, li_60, li_79, li_87, li_89, li_95, li_96, li_100, li_104, li_108, li_116, li_127, li_128, li_132, li_153, li_158, li_159, li_164, li_167, li_172, li_176, li_177, li_184, li_188, li_190, li_198, li_199, li_200, li_202, li_240, li_255, li_256, li_32767, li_32768, li_65536, k_Rd_readsCode_2, bS, bq, h5, h6]
  | succ c ih =>
    intro j f x hj h5 h6
    obtain ⟨x', a1, a2, a3, a4⟩ := ih (j + 1) f (jj_set x 25 j (nI 0)) (by omega) (by rw [jn (by omega)]; exact h5) (by rw [jn (by omega)]; exact h6)
    refine ⟨x', (show Same (fun i _ => i = 25) x (jj_set x 25 j (nI 0)) from (Same.refl x).set _ rfl).trans a1, fun o h1 h2 => ?_, fun o ho => ?_, ?_⟩
    · by_cases k : o = j
      · rw [a3 o (by omega), k, js]
      · exact a2 o (by omega) h2
    · rw [a3 o (by omega), jn (by omega)]
    · rw [show g_Rd_readsCode (f + (c + 1) + 1) 2 [some (.ref 24), some (.ref S), some (.ref q), some (.int (nI j)), none] x = if (bo_Rd 24 && bo_Pr S && bo_Me q) = true then k_Rd_readsCode_2 (g_Rd_readsCode (f + c + 1)) 24 S q (nI j) x else none from rfl, ← a4]
      simp (disch := omega) only [nA, nS, nM, nLT, nLF, nTT, nTF, nEF, nET, nBT, nBF, nC, nNF, jj_b1, jj_b2, js, jn, eq_self, if_true, if_false, ite_true, ite_false, ↓reduceIte, and_self, true_and, and_true, zb0, zb1, bM, bR, bCk, bMa, Bool.false_eq_true, Bool.and_self, Bool.and_true, Bool.true_and, li_0, li_1, li_2, li_3, li_4, li_5, li_6, li_7, li_8, li_16, li_18, li_21, li_25, li_46, li_54, li_58, li_60, li_79, li_87, li_89, li_95, li_96, li_100, li_104, li_108, li_116, li_127, li_128, li_132, li_153, li_158, li_159, li_164, li_167, li_172, li_176, li_177, li_184, li_188, li_190, li_198, li_199, li_200, li_202, li_240, li_255, li_256, li_32767, li_32768, li_65536, k_Rd_readsCode_2, bS, bq]
theorem two_code {x y : jj_Mem} (hS : o_Pr S) (hF : By F n) (hq : o_Me q) (hqS : S + 3 ≤ q ∧ q < 24) (hcd : cd ≤ 240) (hln : ln ≤ 60) (hcc : cc ≤ 4) (hmc : mc ≤ 4) (hpl : pl ≤ 6) (v4 v5 : Int32) (hv4 : ¬ v4 < nI 0) (h1 : x S 2 = nI cc) (h2 : x S 4 = nI mc) (h3 : x q 4 = nI pl) (h5 : x q 5 = nI cd) (h6 : x q 6 = nI ln) (h : Cl S F n cd x) (h' : Mr F n cd y) : ∃ x' y' f'', Same W25 x x' ∧ Same WM y y' ∧ 900 ≤ f'' ∧
    g_Mo_readMethod 1000 55 [some (.ref 58), some (.int (nI cc)), some (.int (nI mc)), none, some (.int v4), some (.int v5), some (.int (nI pl)), some (.int (nI ln)), some (.int (nI cd)), none, none, none, none, none] y = k_Mo_readMethod_95 (g_Mo_readMethod f'') 58 v5 (nI pl) (nI ln) (nI cd) y' ∧
    ((∃ N, f_Rd_readsCode 24 S q x = some (nI 1, x') ∧ CodeOK F cd ln cc mc pl N ∧ BgC F cd N x' ∧ Cl S F n (cd + ln) x' ∧ Mr F n (cd + ln) y' ∧ cd + ln ≤ 240) ∨
     (∃ b, b ≤ 240 ∧ f_Rd_readsCode 24 S q x = some (nI 0, x') ∧ x' 24 0 = nI b ∧ MF b y')) := by
  have hS2 := oc_Pr hS
  obtain ⟨x1, a1, a2, a3, a4⟩ := rd_clear hS hq hqS hcd hln 60 0 939 x (by omega) h5 h6
  have g := fun i k (hi : i ≠ 25) => a1 i k hi
  obtain ⟨x', y', f'', b1, b2, b3, b4, b5⟩ := two_code_g hS hF hq hqS hcd hln hcc hmc hpl v4 v5 hv4 60 0 939 1000 x1 y (by omega) (by omega) (by show 0 ≤ ln; omega) (fun j hj => by omega) (by omega) (by omega) (by show cd + 0 ≤ 240; omega) (by rw [g S 2 (by omega)]; exact h1) (by rw [g S 4 (by omega)]; exact h2) (by rw [g q 4 (by omega)]; exact h3) (by rw [g q 5 (by omega)]; exact h5) ⟨fun j hj => by omega, fun o ho _ => a2 o (by omega) ho⟩ ⟨by rw [g 24 0 (by omega)]; exact h.1, by rw [g S 1 (by omega)]; exact h.2.1, fun k hk => by rw [g (S + 1) k (by omega)]; exact h.2.2 k hk⟩ h'
  have K : f_Rd_readsCode 24 S q x = g_Rd_readsCode 939 34 [some (.ref 24), some (.ref S), some (.ref q), some (.int (nI (cd + ln))), some (.int (nI 0))] x1 := a4
  refine ⟨x', y', f'', (a1.mono (fun i k z => Or.inr z)).trans b1, b2, by omega, b4, ?_⟩
  rw [K]
  exact b5
end CODE
