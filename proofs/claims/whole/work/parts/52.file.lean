/-! PURE: reading a file in step -/
/-- where method m lies -/
def mp (F : Nat → Nat) : Nat → Nat
  | 0 => 3 + 4 * F 1
  | m + 1 => m_en F (mp F m)
def mcn (F : Nat → Nat) : Nat := F (2 + 4 * F 1)
def FileOK (F : Nat → Nat) (n : Nat) : Prop := F 1 ≤ 4 ∧ 1 ≤ mcn F ∧ mcn F ≤ 4 ∧ 3 + 4 * F 1 ≤ n ∧ (∀ m, m < mcn F → ∃ N, MtOK F n (F 1) (mcn F) (mp F m) N) ∧ mp F (mcn F) = n
def FileC (S : Nat) (F : Nat → Nat) (n : Nat) (x : jj_Mem) : Prop := x S 1 = nI n ∧ x S 2 = nI (F 1) ∧ x S 3 = nI 2 ∧ x S 4 = nI (mcn F) ∧ (∀ k, k < n → x (S + 1) k = nI (F k)) ∧ ∀ m, m < mcn F → MtC F (mp F m) (S + 3 + 2 * m) x
abbrev WF (S : Nat) (i k : Nat) : Prop := (i = 24 ∧ k ≤ 1) ∨ i = 25 ∨ (i = S ∧ 2 ≤ k) ∨ (S + 3 ≤ i ∧ i ≤ S + 10)
theorem MtC.same {W : Nat → Nat → Prop} {F : Nat → Nat} {a q : Nat} {x x' : jj_Mem} (h : MtC F a q x) (g : Same W x x') (hW : ∀ k, ¬ W q k) (hW1 : ∀ k, ¬ W (q + 1) k) : MtC F a q x' :=
  ⟨h.1.same g (fun k _ => hW k), by rw [g.get q 7 (hW _)]; exact h.2.1, fun i hi => by rw [g.get (q + 1) i (hW1 _)]; exact h.2.2 i hi⟩
section FILE
variable {S n : Nat} {F : Nat → Nat}
theorem two_methods (hS : o_Pr S) (hF : By F n) (hcc : F 1 ≤ 4) (hmc : mcn F ≤ 4) : ∀ (r m f f' : Nat) (x y : jj_Mem), m + r = mcn F → r < f → r < f' → mp F m ≤ 240 → mp F m ≤ n → x S 2 = nI (F 1) → x S 4 = nI (mcn F) → (∀ i, i < m → ∃ N, MtOK F n (F 1) (mcn F) (mp F i) N) → (∀ i, i < m → MtC F (mp F i) (S + 3 + 2 * i) x) → Cl S F n (mp F m) x → Mr F n (mp F m) y → ∃ x' y' f'', Same (WF S) x x' ∧ Same WM y y' ∧ f' ≤ f'' + r + 1 ∧ g_Mo_read f' 53 [some (.ref 58), some (.int (nI (F 1))), some (.int (nI (mcn F))), some (.int (nI m))] y = k_Mo_read_77 (g_Mo_read f'') 58 y' ∧ x' S 2 = x S 2 ∧ x' S 3 = x S 3 ∧ x' S 4 = x S 4 ∧
    (((∀ i, i < mcn F → ∃ N, MtOK F n (F 1) (mcn F) (mp F i) N) ∧ (∀ i, i < mcn F → MtC F (mp F i) (S + 3 + 2 * i) x') ∧ Cl S F n (mp F (mcn F)) x' ∧ Mr F n (mp F (mcn F)) y' ∧ mp F (mcn F) ≤ n ∧
      (mp F (mcn F) = n → g_Rd_readsFile f 49 [some (.ref 24), some (.ref S), some (.int (nI m))] x = some (nI 1, x')) ∧ (mp F (mcn F) ≠ n → g_Rd_readsFile f 49 [some (.ref 24), some (.ref S), some (.int (nI m))] x = some (nI 0, x'))) ∨
     (∃ b, b ≤ 240 ∧ g_Rd_readsFile f 49 [some (.ref 24), some (.ref S), some (.int (nI m))] x = some (nI 0, x') ∧ x' 24 0 = nI b ∧ MF b y')) := by
  have h240 := hF.1
  have hS2 := oc_Pr hS
  have bS : bo_Pr S = true := hS
  intro r
  induction r with
  | zero =>
    intro m f f' x y hm hf hf' hp hpn h1 h2 hok hC h h'
    obtain ⟨f, rfl⟩ : ∃ g, f = g + 1 := ⟨f - 1, by omega⟩
    obtain ⟨f', rfl⟩ : ∃ g, f' = g + 1 := ⟨f' - 1, by omega⟩
    have e : m = mcn F := by omega
    have C1 := h.1
    have C2 := h.2.1
    refine ⟨x, y, f', Same.refl x, Same.refl y, by omega, ?_, rfl, rfl, rfl, Or.inl ⟨?_, ?_, ?_, ?_, ?_, fun q => ?_, fun q => ?_⟩⟩
    · simp (disch := omega) only [nA, nS, nM, nLT, nLF, nTT, nTF, nEF, nET, nBT, nBF, nC, nNG, nNL, jj_b1, jj_b2, js, jn, eq_self, if_true, if_false, ite_true, ite_false, ↓reduceIte, and_self, true_and, and_true, zb0, zb1, bM, bR, bCk, bMa, Bool.false_eq_true, Bool.and_self, Bool.and_true, Bool.true_and, li_0, li_1, li_2, li_3, li_4, li_5, li_6, li_7, li_8, li_16, li_18, li_21, li_25, li_46, li_54, li_58, li_60, li_79, li_87, li_89, li_95, li_96, li_100, li_104, li_108, li_116, li_127, li_128, li_132, li_153, li_158, li_159, li_164, li_167, li_172, li_176, li_177, li_184, li_188, li_190, li_198, li_199, li_200, li_202, li_240, li_255, li_256, li_32767, li_32768, li_65536, g_Mo_read, k_Mo_read_53]
    · exact fun i hi => hok i (by omega)
    · exact fun i hi => hC i (by omega)
    · rw [← e]; exact h
    · rw [← e]; exact h'
    · rw [← e]; exact hpn
    · rw [← e] at q
      simp (disch := omega) only [nA, nS, nM, nLT, nLF, nTT, nTF, nEF, nET, nBT, nBF, nC, nNG, nNL, jj_b1, jj_b2, js, jn, eq_self, if_true, if_false, ite_true, ite_false, ↓reduceIte, and_self, true_and, and_true, zb0, zb1, bM, bR, bCk, bMa, Bool.false_eq_true, Bool.and_self, Bool.and_true, Bool.true_and, li_0, li_1, li_2, li_3, li_4, li_5, li_6, li_7, li_8, li_16, li_18, li_21, li_25, li_46, li_54, li_58, li_60, li_79, li_87, li_89, li_95, li_96, li_100, li_104, li_108, li_116, li_127, li_128, li_132, li_153, li_158, li_159, li_164, li_167, li_172, li_176, li_177, li_184, li_188, li_190, li_198, li_199, li_200, li_202, li_240, li_255, li_256, li_32767, li_32768, li_65536, g_Rd_readsFile, k_Rd_readsFile_49, bS, h2, C1, C2]
    · rw [← e] at q
      simp (disch := omega) only [nA, nS, nM, nLT, nLF, nTT, nTF, nEF, nET, nBT, nBF, nC, nNG, nNL, jj_b1, jj_b2, js, jn, eq_self, if_true, if_false, ite_true, ite_false, ↓reduceIte, and_self, true_and, and_true, zb0, zb1, bM, bR, bCk, bMa, Bool.false_eq_true, Bool.and_self, Bool.and_true, Bool.true_and, li_0, li_1, li_2, li_3, li_4, li_5, li_6, li_7, li_8, li_16, li_18, li_21, li_25, li_46, li_54, li_58, li_60, li_79, li_87, li_89, li_95, li_96, li_100, li_104, li_108, li_116, li_127, li_128, li_132, li_153, li_158, li_159, li_164, li_167, li_172, li_176, li_177, li_184, li_188, li_190, li_198, li_199, li_200, li_202, li_240, li_255, li_256, li_32767, li_32768, li_65536, g_Rd_readsFile, k_Rd_readsFile_49, bS, h2, C1, C2]
  | succ r ih =>
    intro m f f' x y hm hf hf' hp hpn h1 h2 hok hC h h'
    obtain ⟨f, rfl⟩ : ∃ g, f = g + 1 := ⟨f - 1, by omega⟩
    obtain ⟨f', rfl⟩ : ∃ g, f' = g + 1 := ⟨f' - 1, by omega⟩
    have M4 : y 58 4 = nI 0 := h'.2.2.1
    obtain ⟨x1, y1, A1, B1, D1, H1⟩ := two_method (q := S + 3 + 2 * m) hS hF (by omega) rfl hp hcc hmc h1 h2 h h'
    have V : g_Mo_read (f' + 1) 53 [some (.ref 58), some (.int (nI (F 1))), some (.int (nI (mcn F))), some (.int (nI m))] y = g_Mo_read f' 53 [some (.ref 58), some (.int (nI (F 1))), some (.int (nI (mcn F))), some (.int (nI (m + 1)))] y1 := by
      rw [show g_Mo_read (f' + 1) 53 [some (.ref 58), some (.int (nI (F 1))), some (.int (nI (mcn F))), some (.int (nI m))] y = k_Mo_read_53 (g_Mo_read f') 58 (nI (F 1)) (nI (mcn F)) (nI m) y from rfl]
      simp (disch := omega) only [nA, nS, nM, nLT, nLF, nTT, nTF, nEF, nET, nBT, nBF, nC, nNG, nNL, jj_b1, jj_b2, js, jn, eq_self, if_true, if_false, ite_true, ite_false, ↓reduceIte, and_self, true_and, and_true, zb0, zb1, bM, bR, bCk, bMa, Bool.false_eq_true, Bool.and_self, Bool.and_true, Bool.true_and, li_0, li_1, li_2, li_3, li_4, li_5, li_6, li_7, li_8, li_16, li_18, li_21, li_25, li_46, li_54, li_58, li_60, li_79, li_87, li_89, li_95, li_96, li_100, li_104, li_108, li_116, li_127, li_128, li_132, li_153, li_158, li_159, li_164, li_167, li_172, li_176, li_177, li_184, li_188, li_190, li_198, li_199, li_200, li_202, li_240, li_255, li_256, li_32767, li_32768, li_65536, k_Mo_read_53, M4, D1]
    have U : g_Rd_readsFile (f + 1) 49 [some (.ref 24), some (.ref S), some (.int (nI m))] x = k_Rd_readsFile_49 (g_Rd_readsFile f) 24 S (nI m) x := by
      rw [show g_Rd_readsFile (f + 1) 49 [some (.ref 24), some (.ref S), some (.int (nI m))] x = if (bo_Rd 24 && bo_Pr S) = true then k_Rd_readsFile_49 (g_Rd_readsFile f) 24 S (nI m) x else none from rfl]
      simp (disch := omega) only [nA, nS, nM, nLT, nLF, nTT, nTF, nEF, nET, nBT, nBF, nC, nNG, nNL, jj_b1, jj_b2, js, jn, eq_self, if_true, if_false, ite_true, ite_false, ↓reduceIte, and_self, true_and, and_true, zb0, zb1, bM, bR, bCk, bMa, Bool.false_eq_true, Bool.and_self, Bool.and_true, Bool.true_and, li_0, li_1, li_2, li_3, li_4, li_5, li_6, li_7, li_8, li_16, li_18, li_21, li_25, li_46, li_54, li_58, li_60, li_79, li_87, li_89, li_95, li_96, li_100, li_104, li_108, li_116, li_127, li_128, li_132, li_153, li_158, li_159, li_164, li_167, li_172, li_176, li_177, li_184, li_188, li_190, li_198, li_199, li_200, li_202, li_240, li_255, li_256, li_32767, li_32768, li_65536, bS]
    rw [U, V]
    have A1' : Same (WF S) x x1 := A1.mono (fun i k z => by omega)
    rcases H1 with ⟨N, e1, ok1, mc1, c1, m1, p1⟩ | ⟨b, hb, e1, l1, m1⟩
    · obtain ⟨x', y', f'', a1, a2, a3, a4, s2, s3, s4, a5⟩ := ih (m + 1) f f' x1 y1 (by omega) (by omega) (by omega) p1 ok1.2.2.2.2.2.2 (by rw [A1.get S 2 (by omega)]; exact h1) (by rw [A1.get S 4 (by omega)]; exact h2) (fun i hi => by
          by_cases c : i = m
          · rw [c]; exact ⟨N, ok1⟩
          · exact hok i (by omega)) (fun i hi => by
          by_cases c : i = m
          · rw [c]; exact mc1
          · exact (hC i (by omega)).same A1 (fun k => by omega) (fun k => by omega)) c1 m1
      refine ⟨x', y', f'', A1'.trans a1, B1.trans a2, by omega, a4, ?_, ?_, ?_, ?_⟩
      · rw [s2]; exact A1.get S 2 (by omega)
      · rw [s3]; exact A1.get S 3 (by omega)
      · rw [s4]; exact A1.get S 4 (by omega)
      · have W : k_Rd_readsFile_49 (g_Rd_readsFile f) 24 S (nI m) x = g_Rd_readsFile f 49 [some (.ref 24), some (.ref S), some (.int (nI (m + 1)))] x1 := by
          simp (disch := omega) only [nA, nS, nM, nLT, nLF, nTT, nTF, nEF, nET, nBT, nBF, nC, nNG, nNL, jj_b1, jj_b2, js, jn, eq_self, if_true, if_false, ite_true, ite_false, ↓reduceIte, and_self, true_and, and_true, zb0, zb1, bM, bR, bCk, bMa, Bool.false_eq_true, Bool.and_self, Bool.and_true, Bool.true_and, li_0, li_1, li_2, li_3, li_4, li_5, li_6, li_7, li_8, li_16, li_18, li_21, li_25, li_46, li_54, li_58, li_60, li_79, li_87, li_89, li_95, li_96, li_100, li_104, li_108, li_116, li_127, li_128, li_132, li_153, li_158, li_159, li_164, li_167, li_172, li_176, li_177, li_184, li_188, li_190, li_198, li_199, li_200, li_202, li_240, li_255, li_256, li_32767, li_32768, li_65536, k_Rd_readsFile_49, h2, e1]
        rw [W]
        exact a5
    · refine ⟨x1, y1, f' - 1, A1', B1, by omega, ?_, A1.get S 2 (by omega), A1.get S 3 (by omega), A1.get S 4 (by omega), Or.inr ⟨b, hb, ?_, l1, m1⟩⟩
      · obtain ⟨f', rfl⟩ : ∃ g, f' = g + 1 := ⟨f' - 1, by omega⟩
        have e := m1.2
        rw [show g_Mo_read (f' + 1) 53 [some (.ref 58), some (.int (nI (F 1))), some (.int (nI (mcn F))), some (.int (nI (m + 1)))] y1 = k_Mo_read_53 (g_Mo_read f') 58 (nI (F 1)) (nI (mcn F)) (nI (m + 1)) y1 from rfl, Nat.add_sub_cancel]
        by_cases c : mcn F ≤ m + 1
        · simp (disch := omega) only [nA, nS, nM, nLT, nLF, nTT, nTF, nEF, nET, nBT, nBF, nC, nNG, nNL, jj_b1, jj_b2, js, jn, eq_self, if_true, if_false, ite_true, ite_false, ↓reduceIte, and_self, true_and, and_true, zb0, zb1, bM, bR, bCk, bMa, Bool.false_eq_true, Bool.and_self, Bool.and_true, Bool.true_and, li_0, li_1, li_2, li_3, li_4, li_5, li_6, li_7, li_8, li_16, li_18, li_21, li_25, li_46, li_54, li_58, li_60, li_79, li_87, li_89, li_95, li_96, li_100, li_104, li_108, li_116, li_127, li_128, li_132, li_153, li_158, li_159, li_164, li_167, li_172, li_176, li_177, li_184, li_188, li_190, li_198, li_199, li_200, li_202, li_240, li_255, li_256, li_32767, li_32768, li_65536, k_Mo_read_53]
        · simp (disch := omega) only [nA, nS, nM, nLT, nLF, nTT, nTF, nEF, nET, nBT, nBF, nC, nNG, nNL, jj_b1, jj_b2, js, jn, eq_self, if_true, if_false, ite_true, ite_false, ↓reduceIte, and_self, true_and, and_true, zb0, zb1, bM, bR, bCk, bMa, Bool.false_eq_true, Bool.and_self, Bool.and_true, Bool.true_and, li_0, li_1, li_2, li_3, li_4, li_5, li_6, li_7, li_8, li_16, li_18, li_21, li_25, li_46, li_54, li_58, li_60, li_79, li_87, li_89, li_95, li_96, li_100, li_104, li_108, li_116, li_127, li_128, li_132, li_153, li_158, li_159, li_164, li_167, li_172, li_176, li_177, li_184, li_188, li_190, li_198, li_199, li_200, li_202, li_240, li_255, li_256, li_32767, li_32768, li_65536, k_Mo_read_53, e]
      · simp (disch := omega) only [nA, nS, nM, nLT, nLF, nTT, nTF, nEF, nET, nBT, nBF, nC, nNG, nNL, jj_b1, jj_b2, js, jn, eq_self, if_true, if_false, ite_true, ite_false, ↓reduceIte, and_self, true_and, and_true, zb0, zb1, bM, bR, bCk, bMa, Bool.false_eq_true, Bool.and_self, Bool.and_true, Bool.true_and, li_0, li_1, li_2, li_3, li_4, li_5, li_6, li_7, li_8, li_16, li_18, li_21, li_25, li_46, li_54, li_58, li_60, li_79, li_87, li_89, li_95, li_96, li_100, li_104, li_108, li_116, li_127, li_128, li_132, li_153, li_158, li_159, li_164, li_167, li_172, li_176, li_177, li_184, li_188, li_190, li_198, li_199, li_200, li_202, li_240, li_255, li_256, li_32767, li_32768, li_65536, k_Rd_readsFile_49, h2, e1]
theorem mf_53 {b f : Nat} {y : jj_Mem} (h : MF b y) (v1 v2 : Int32) : g_Mo_read (f + 1) 53 [some (.ref 58), some (.int v1), some (.int v2), some (.int (nI 0))] y = k_Mo_read_77 (g_Mo_read f) 58 y := by
  have e := h.2
  rw [show g_Mo_read (f + 1) 53 [some (.ref 58), some (.int v1), some (.int v2), some (.int (nI 0))] y = k_Mo_read_53 (g_Mo_read f) 58 v1 v2 (nI 0) y from rfl]
  by_cases c : v2 ≤ nI 0
  · simp (disch := omega) only [nA, nS, nM, nLT, nLF, nTT, nTF, nEF, nET, nBT, nBF, nC, nNG, nNL, jj_b1, jj_b2, js, jn, eq_self, if_true, if_false, ite_true, ite_false, ↓reduceIte, and_self, true_and, and_true, zb0, zb1, bM, bR, bCk, bMa, Bool.false_eq_true, Bool.and_self, Bool.and_true, Bool.true_and, li_0, li_1, li_2, li_3, li_4, li_5, li_6, li_7, li_8, li_16, li_18, li_21, li_25, li_46, li_54, li_58, li_60, li_79, li_87, li_89, li_95, li_96, li_100, li_104, li_108, li_116, li_127, li_128, li_132, li_153, li_158, li_159, li_164, li_167, li_172, li_176, li_177, li_184, li_188, li_190, li_198, li_199, li_200, li_202, li_240, li_255, li_256, li_32767, li_32768, li_65536, k_Mo_read_53, c]
  · simp (disch := omega) only [nA, nS, nM, nLT, nLF, nTT, nTF, nEF, nET, nBT, nBF, nC, nNG, nNL, jj_b1, jj_b2, js, jn, eq_self, if_true, if_false, ite_true, ite_false, ↓reduceIte, and_self, true_and, and_true, zb0, zb1, bM, bR, bCk, bMa, Bool.false_eq_true, Bool.and_self, Bool.and_true, Bool.true_and, li_0, li_1, li_2, li_3, li_4, li_5, li_6, li_7, li_8, li_16, li_18, li_21, li_25, li_46, li_54, li_58, li_60, li_79, li_87, li_89, li_95, li_96, li_100, li_104, li_108, li_116, li_127, li_128, li_132, li_153, li_158, li_159, li_164, li_167, li_172, li_176, li_177, li_184, li_188, li_190, li_198, li_199, li_200, li_202, li_240, li_255, li_256, li_32767, li_32768, li_65536, k_Mo_read_53, c, e]
theorem two_skip1 {a : Nat} {x y : jj_Mem} (hS : o_Pr S) (hF : By F n) (ha : a ≤ 240) (h : Cl S F n a x) (h' : Mr F n a y) (lo hi : Int32) : ∃ x' y', Same WA x x' ∧ Same WM y y' ∧ f_Mo_skip 58 (nI 1) lo hi y = some y' ∧
    ((nx F n a lo hi ∧ f_Rd_next 24 S lo hi x = some (nI 1, x') ∧ x' 24 1 = nI (F a) ∧ Cl S F n (a + 1) x' ∧ Mr F n (a + 1) y' ∧ a + 1 ≤ 240 ∧ a + 1 ≤ n ∧ F a < 256) ∨
     (f_Rd_next 24 S lo hi x = some (nI 0, x') ∧ x' 24 0 = nI a ∧ MF a y')) := by
  obtain ⟨x1, y1, A1, B1, H1⟩ := two_next hS hF ha h h' lo hi
  rcases H1 with ⟨n1, e1, l1, c1, d1, m1, p1, r1, s1⟩ | ⟨e1, l1, d1, m1⟩
  · have m14 : y1 58 4 = nI 0 := m1.2.2.1
    refine ⟨x1, y1, A1, B1, ?_, Or.inl ⟨n1, e1, l1, c1, m1, p1, r1, s1⟩⟩
    unfold f_Mo_skip k_Mo_skip_0
    simp (disch := omega) only [nA, nS, nM, nLT, nLF, nTT, nTF, nEF, nET, nBT, nBF, nC, nNG, nNL, jj_b1, jj_b2, js, jn, eq_self, if_true, if_false, ite_true, ite_false, ↓reduceIte, and_self, true_and, and_true, zb0, zb1, bM, bR, bCk, bMa, Bool.false_eq_true, Bool.and_self, Bool.and_true, Bool.true_and, li_0, li_1, li_2, li_3, li_4, li_5, li_6, li_7, li_8, li_16, li_18, li_21, li_25, li_46, li_54, li_58, li_60, li_79, li_87, li_89, li_95, li_96, li_100, li_104, li_108, li_116, li_127, li_128, li_132, li_153, li_158, li_159, li_164, li_167, li_172, li_176, li_177, li_184, li_188, li_190, li_198, li_199, li_200, li_202, li_240, li_255, li_256, li_32767, li_32768, li_65536, g_Mo_skip, k_Mo_skip_3, k_Mo_skip_35, d1, m14, jj_set_id m14]
  · have m14 : y1 58 4 = nI 1 := m1.2
    refine ⟨x1, y1, A1, B1, ?_, Or.inr ⟨e1, l1, m1⟩⟩
    unfold f_Mo_skip k_Mo_skip_0
    simp (disch := omega) only [nA, nS, nM, nLT, nLF, nTT, nTF, nEF, nET, nBT, nBF, nC, nNG, nNL, jj_b1, jj_b2, js, jn, eq_self, if_true, if_false, ite_true, ite_false, ↓reduceIte, and_self, true_and, and_true, zb0, zb1, bM, bR, bCk, bMa, Bool.false_eq_true, Bool.and_self, Bool.and_true, Bool.true_and, li_0, li_1, li_2, li_3, li_4, li_5, li_6, li_7, li_8, li_16, li_18, li_21, li_25, li_46, li_54, li_58, li_60, li_79, li_87, li_89, li_95, li_96, li_100, li_104, li_108, li_116, li_127, li_128, li_132, li_153, li_158, li_159, li_164, li_167, li_172, li_176, li_177, li_184, li_188, li_190, li_198, li_199, li_200, li_202, li_240, li_255, li_256, li_32767, li_32768, li_65536, g_Mo_skip, k_Mo_skip_3, k_Mo_skip_30, k_Mo_skip_35, d1, m14, jj_set_id m14]
/-- the whole file: the object's reader, and the reference up to its last question -/
theorem two_file {x y : jj_Mem} (hS : o_Pr S) (hF : By F n) (hx1 : x S 1 = nI n) (hx : ∀ k, k < n → x (S + 1) k = nI (F k)) (hy1 : y 58 1 = nI n) (hy : ∀ k, k < n → y 59 k = nI (F k)) : ∃ x' y' f'', Same (WF S) x x' ∧ Same (fun i k => i = 58 ∧ (k = 0 ∨ k = 3 ∨ k = 4)) y y' ∧ y' 58 0 = nI 0 ∧ 500 ≤ f'' ∧ f_Mo_read 58 y = k_Mo_read_77 (g_Mo_read f'') 58 y' ∧
    ((FileOK F n ∧ FileC S F n x' ∧ f_Rd_readsFile 24 S x = some (nI 1, x') ∧ Mr F n n y') ∨
     (∃ b, b ≤ 240 ∧ f_Rd_readsFile 24 S x = some (nI 0, x') ∧ x' 24 0 = nI b ∧ y' 58 3 = nI b ∧ (y' 58 4 = nI 1 ∨ (y' 58 4 = nI 0 ∧ y' 58 1 = nI n ∧ b < n)))) := by
  have h240 := hF.1
  have hS2 := oc_Pr hS
  have bS : bo_Pr S = true := hS
  have A0 : Same (WF S) x (jj_set x 24 0 (nI 0)) := (Same.refl x).set _ (by omega)
  have B0 : Same (fun i k => i = 58 ∧ (k = 0 ∨ k = 3 ∨ k = 4)) y (jj_set (jj_set (jj_set y 58 0 (nI 0)) 58 3 (nI 0)) 58 4 (nI 0)) := (((Same.refl y).set _ (by omega)).set _ (by omega)).set _ (by omega)
  have c0 : Cl S F n 0 (jj_set x 24 0 (nI 0)) := ⟨js _ _ _ _, by rw [jn (by omega)]; exact hx1, fun k hk => by rw [jn (by omega)]; exact hx k hk⟩
  have m0 : Mr F n 0 (jj_set (jj_set (jj_set y 58 0 (nI 0)) 58 3 (nI 0)) 58 4 (nI 0)) := ⟨by simp (disch := omega) only [nA, nS, nM, nLT, nLF, nTT, nTF, nEF, nET, nBT, nBF, nC, nNG, nNL, jj_b1, jj_b2, js, jn, eq_self, if_true, if_false, ite_true, ite_false, ↓reduceIte, and_self, true_and, and_true, zb0, zb1, bM, bR, bCk, bMa, Bool.false_eq_true, Bool.and_self, Bool.and_true, Bool.true_and, li_0, li_1, li_2, li_3, li_4, li_5, li_6, li_7, li_8, li_16, li_18, li_21, li_25, li_46, li_54, li_58, li_60, li_79, li_87, li_89, li_95, li_96, li_100, li_104, li_108, li_116, li_127, li_128, li_132, li_153, li_158, li_159, li_164, li_167, li_172, li_176, li_177, li_184, li_188, li_190, li_198, li_199, li_200, li_202, li_240, li_255, li_256, li_32767, li_32768, li_65536], by simp (disch := omega) only [nA, nS, nM, nLT, nLF, nTT, nTF, nEF, nET, nBT, nBF, nC, nNG, nNL, jj_b1, jj_b2, js, jn, eq_self, if_true, if_false, ite_true, ite_false, ↓reduceIte, and_self, true_and, and_true, zb0, zb1, bM, bR, bCk, bMa, Bool.false_eq_true, Bool.and_self, Bool.and_true, Bool.true_and, li_0, li_1, li_2, li_3, li_4, li_5, li_6, li_7, li_8, li_16, li_18, li_21, li_25, li_46, li_54, li_58, li_60, li_79, li_87, li_89, li_95, li_96, li_100, li_104, li_108, li_116, li_127, li_128, li_132, li_153, li_158, li_159, li_164, li_167, li_172, li_176, li_177, li_184, li_188, li_190, li_198, li_199, li_200, li_202, li_240, li_255, li_256, li_32767, li_32768, li_65536, hy1], by simp (disch := omega) only [nA, nS, nM, nLT, nLF, nTT, nTF, nEF, nET, nBT, nBF, nC, nNG, nNL, jj_b1, jj_b2, js, jn, eq_self, if_true, if_false, ite_true, ite_false, ↓reduceIte, and_self, true_and, and_true, zb0, zb1, bM, bR, bCk, bMa, Bool.false_eq_true, Bool.and_self, Bool.and_true, Bool.true_and, li_0, li_1, li_2, li_3, li_4, li_5, li_6, li_7, li_8, li_16, li_18, li_21, li_25, li_46, li_54, li_58, li_60, li_79, li_87, li_89, li_95, li_96, li_100, li_104, li_108, li_116, li_127, li_128, li_132, li_153, li_158, li_159, li_164, li_167, li_172, li_176, li_177, li_184, li_188, li_190, li_198, li_199, li_200, li_202, li_240, li_255, li_256, li_32767, li_32768, li_65536], fun k hk => by simp (disch := omega) only [nA, nS, nM, nLT, nLF, nTT, nTF, nEF, nET, nBT, nBF, nC, nNG, nNL, jj_b1, jj_b2, js, jn, eq_self, if_true, if_false, ite_true, ite_false, ↓reduceIte, and_self, true_and, and_true, zb0, zb1, bM, bR, bCk, bMa, Bool.false_eq_true, Bool.and_self, Bool.and_true, Bool.true_and, li_0, li_1, li_2, li_3, li_4, li_5, li_6, li_7, li_8, li_16, li_18, li_21, li_25, li_46, li_54, li_58, li_60, li_79, li_87, li_89, li_95, li_96, li_100, li_104, li_108, li_116, li_127, li_128, li_132, li_153, li_158, li_159, li_164, li_167, li_172, li_176, li_177, li_184, li_188, li_190, li_198, li_199, li_200, li_202, li_240, li_255, li_256, li_32767, li_32768, li_65536, hy k hk]⟩
  have z0 : (jj_set (jj_set (jj_set y 58 0 (nI 0)) 58 3 (nI 0)) 58 4 (nI 0)) 58 0 = nI 0 := by simp (disch := omega) only [nA, nS, nM, nLT, nLF, nTT, nTF, nEF, nET, nBT, nBF, nC, nNG, nNL, jj_b1, jj_b2, js, jn, eq_self, if_true, if_false, ite_true, ite_false, ↓reduceIte, and_self, true_and, and_true, zb0, zb1, bM, bR, bCk, bMa, Bool.false_eq_true, Bool.and_self, Bool.and_true, Bool.true_and, li_0, li_1, li_2, li_3, li_4, li_5, li_6, li_7, li_8, li_16, li_18, li_21, li_25, li_46, li_54, li_58, li_60, li_79, li_87, li_89, li_95, li_96, li_100, li_104, li_108, li_116, li_127, li_128, li_132, li_153, li_158, li_159, li_164, li_167, li_172, li_176, li_177, li_184, li_188, li_190, li_198, li_199, li_200, li_202, li_240, li_255, li_256, li_32767, li_32768, li_65536]
  have K0 : ∀ rec, k_Mo_read_0 rec 58 y = jj_b1 (f_Mo_skip 58 (nI 1) (nI 202) (nI 202) (jj_set (jj_set (jj_set y 58 0 (nI 0)) 58 3 (nI 0)) 58 4 (nI 0))) (fun x1 => jj_b2 (f_Mo_next 58 (nI 0) (nI 4) x1) (fun r2 x2 => jj_b1 (f_Mo_skip 58 (nI 4 * r2) (nI 0) (nI 255) x2) (fun x3 => jj_b2 (f_Mo_next 58 (nI 1) (nI 4) x3) (fun r4 x4 => rec 53 [some (.ref 58), some (.int r2), some (.int r4), some (.int (nI 0))] x4)))) := fun rec => rfl
  generalize (jj_set (jj_set (jj_set y 58 0 (nI 0)) 58 3 (nI 0)) 58 4 (nI 0)) = y0 at B0 m0 z0 K0
  have WMm : ∀ {u v : jj_Mem}, Same WM u v → Same (fun i k => i = 58 ∧ (k = 0 ∨ k = 3 ∨ k = 4)) u v := fun z => z.mono (fun i k w => by omega)
  have M : f_Mo_read 58 y = k_Mo_read_0 (g_Mo_read 1000) 58 y := rfl
  obtain ⟨x1, y1, A1, B1, D1, H1⟩ := two_skip1 hS hF (by omega) c0 m0 (nI 202) (nI 202)
  have A1' : Same (WF S) x x1 := A0.trans (A1.mono (fun i k w => by omega))
  have B1' := B0.trans (WMm B1)
  have z1 : y1 58 0 = nI 0 := by rw [B1.get 58 0 (by omega)]; exact z0
  rcases H1 with ⟨n1, e1, l1, c1, m1, p1, r1, s1⟩ | ⟨e1, l1, m1⟩
  rotate_left
  · have sk := mf_skip m1 (nI 0) (nI 255) (N := 0) (by omega)
    refine ⟨x1, y1, 999, A1', B1', z1, by omega, ?_, Or.inr ⟨0, by omega, ?_, l1, m1.1, Or.inl m1.2⟩⟩
    · rw [M, K0]
      have e := m1.2
      simp (disch := omega) only [nA, nS, nM, nLT, nLF, nTT, nTF, nEF, nET, nBT, nBF, nC, nNG, nNL, jj_b1, jj_b2, js, jn, eq_self, if_true, if_false, ite_true, ite_false, ↓reduceIte, and_self, true_and, and_true, zb0, zb1, bM, bR, bCk, bMa, Bool.false_eq_true, Bool.and_self, Bool.and_true, Bool.true_and, li_0, li_1, li_2, li_3, li_4, li_5, li_6, li_7, li_8, li_16, li_18, li_21, li_25, li_46, li_54, li_58, li_60, li_79, li_87, li_89, li_95, li_96, li_100, li_104, li_108, li_116, li_127, li_128, li_132, li_153, li_158, li_159, li_164, li_167, li_172, li_176, li_177, li_184, li_188, li_190, li_198, li_199, li_200, li_202, li_240, li_255, li_256, li_32767, li_32768, li_65536, D1, mf_next m1, sk, Nat.mul_zero]
      exact mf_53 (f := 999) m1 _ _
    · unfold f_Rd_readsFile k_Rd_readsFile_0
      simp (disch := omega) only [nA, nS, nM, nLT, nLF, nTT, nTF, nEF, nET, nBT, nBF, nC, nNG, nNL, jj_b1, jj_b2, js, jn, eq_self, if_true, if_false, ite_true, ite_false, ↓reduceIte, and_self, true_and, and_true, zb0, zb1, bM, bR, bCk, bMa, Bool.false_eq_true, Bool.and_self, Bool.and_true, Bool.true_and, li_0, li_1, li_2, li_3, li_4, li_5, li_6, li_7, li_8, li_16, li_18, li_21, li_25, li_46, li_54, li_58, li_60, li_79, li_87, li_89, li_95, li_96, li_100, li_104, li_108, li_116, li_127, li_128, li_132, li_153, li_158, li_159, li_164, li_167, li_172, li_176, li_177, li_184, li_188, li_190, li_198, li_199, li_200, li_202, li_240, li_255, li_256, li_32767, li_32768, li_65536, e1]
  obtain ⟨x2, y2, A2, B2, H2⟩ := two_next hS hF p1 c1 m1 (nI 0) (nI 4)
  have A2' : Same (WF S) x x2 := A1'.trans (A2.mono (fun i k w => by omega))
  have B2' := B1'.trans (WMm B2)
  have z2 : y2 58 0 = nI 0 := by rw [B2.get 58 0 (by omega)]; exact z1
  rcases H2 with ⟨n2, e2, l2, c2, d2, m2, p2, r2, s2⟩ | ⟨e2, l2, d2, m2⟩
  rotate_left
  · have sk := mf_skip m2 (nI 0) (nI 255) (N := 0) (by omega)
    refine ⟨x2, y2, 999, A2', B2', z2, by omega, ?_, Or.inr ⟨0 + 1, by omega, ?_, l2, m2.1, Or.inl m2.2⟩⟩
    · rw [M, K0]
      have e := m2.2
      simp (disch := omega) only [nA, nS, nM, nLT, nLF, nTT, nTF, nEF, nET, nBT, nBF, nC, nNG, nNL, jj_b1, jj_b2, js, jn, eq_self, if_true, if_false, ite_true, ite_false, ↓reduceIte, and_self, true_and, and_true, zb0, zb1, bM, bR, bCk, bMa, Bool.false_eq_true, Bool.and_self, Bool.and_true, Bool.true_and, li_0, li_1, li_2, li_3, li_4, li_5, li_6, li_7, li_8, li_16, li_18, li_21, li_25, li_46, li_54, li_58, li_60, li_79, li_87, li_89, li_95, li_96, li_100, li_104, li_108, li_116, li_127, li_128, li_132, li_153, li_158, li_159, li_164, li_167, li_172, li_176, li_177, li_184, li_188, li_190, li_198, li_199, li_200, li_202, li_240, li_255, li_256, li_32767, li_32768, li_65536, D1, d2, mf_next m2, sk, Nat.mul_zero]
      exact mf_53 (f := 999) m2 _ _
    · unfold f_Rd_readsFile k_Rd_readsFile_0 f_Rd_readsConstants
      simp (disch := omega) only [nA, nS, nM, nLT, nLF, nTT, nTF, nEF, nET, nBT, nBF, nC, nNG, nNL, jj_b1, jj_b2, js, jn, eq_self, if_true, if_false, ite_true, ite_false, ↓reduceIte, and_self, true_and, and_true, zb0, zb1, bM, bR, bCk, bMa, Bool.false_eq_true, Bool.and_self, Bool.and_true, Bool.true_and, li_0, li_1, li_2, li_3, li_4, li_5, li_6, li_7, li_8, li_16, li_18, li_21, li_25, li_46, li_54, li_58, li_60, li_79, li_87, li_89, li_95, li_96, li_100, li_104, li_108, li_116, li_127, li_128, li_132, li_153, li_158, li_159, li_164, li_167, li_172, li_176, li_177, li_184, li_188, li_190, li_198, li_199, li_200, li_202, li_240, li_255, li_256, li_32767, li_32768, li_65536, e1, e2]
  have b2 := nx_nat hF (by omega) (by omega) n2
  rw [show (0 : Nat) + 1 = 1 from rfl] at *
  have A3' : Same (WF S) x (jj_set (jj_set x2 S 2 (nI (F 1))) S 3 (nI 2)) := (A2'.set _ (by omega)).set _ (by omega)
  have c3 : Cl S F n 2 (jj_set (jj_set x2 S 2 (nI (F 1))) S 3 (nI 2)) := ⟨by simp (disch := omega) only [nA, nS, nM, nLT, nLF, nTT, nTF, nEF, nET, nBT, nBF, nC, nNG, nNL, jj_b1, jj_b2, js, jn, eq_self, if_true, if_false, ite_true, ite_false, ↓reduceIte, and_self, true_and, and_true, zb0, zb1, bM, bR, bCk, bMa, Bool.false_eq_true, Bool.and_self, Bool.and_true, Bool.true_and, li_0, li_1, li_2, li_3, li_4, li_5, li_6, li_7, li_8, li_16, li_18, li_21, li_25, li_46, li_54, li_58, li_60, li_79, li_87, li_89, li_95, li_96, li_100, li_104, li_108, li_116, li_127, li_128, li_132, li_153, li_158, li_159, li_164, li_167, li_172, li_176, li_177, li_184, li_188, li_190, li_198, li_199, li_200, li_202, li_240, li_255, li_256, li_32767, li_32768, li_65536]; exact c2.1, by simp (disch := omega) only [nA, nS, nM, nLT, nLF, nTT, nTF, nEF, nET, nBT, nBF, nC, nNG, nNL, jj_b1, jj_b2, js, jn, eq_self, if_true, if_false, ite_true, ite_false, ↓reduceIte, and_self, true_and, and_true, zb0, zb1, bM, bR, bCk, bMa, Bool.false_eq_true, Bool.and_self, Bool.and_true, Bool.true_and, li_0, li_1, li_2, li_3, li_4, li_5, li_6, li_7, li_8, li_16, li_18, li_21, li_25, li_46, li_54, li_58, li_60, li_79, li_87, li_89, li_95, li_96, li_100, li_104, li_108, li_116, li_127, li_128, li_132, li_153, li_158, li_159, li_164, li_167, li_172, li_176, li_177, li_184, li_188, li_190, li_198, li_199, li_200, li_202, li_240, li_255, li_256, li_32767, li_32768, li_65536]; exact c2.2.1, fun k hk => by simp (disch := omega) only [nA, nS, nM, nLT, nLF, nTT, nTF, nEF, nET, nBT, nBF, nC, nNG, nNL, jj_b1, jj_b2, js, jn, eq_self, if_true, if_false, ite_true, ite_false, ↓reduceIte, and_self, true_and, and_true, zb0, zb1, bM, bR, bCk, bMa, Bool.false_eq_true, Bool.and_self, Bool.and_true, Bool.true_and, li_0, li_1, li_2, li_3, li_4, li_5, li_6, li_7, li_8, li_16, li_18, li_21, li_25, li_46, li_54, li_58, li_60, li_79, li_87, li_89, li_95, li_96, li_100, li_104, li_108, li_116, li_127, li_128, li_132, li_153, li_158, li_159, li_164, li_167, li_172, li_176, li_177, li_184, li_188, li_190, li_198, li_199, li_200, li_202, li_240, li_255, li_256, li_32767, li_32768, li_65536]; exact c2.2.2 k hk⟩
  have w2 : x2 24 0 = nI 2 := c2.1
  obtain ⟨x4, y4, A4, B4, D4, H4⟩ := two_ones hS hF p2 c3 m2 (nI 0) (nI 255) (c := 4 * F 1) (by omega)
  have A4' : Same (WF S) x x4 := A3'.trans (A4.mono (fun i k w => by omega))
  have B4' := B2'.trans (WMm B4)
  have z4 : y4 58 0 = nI 0 := by rw [B4.get 58 0 (by omega)]; exact z2
  rcases H4 with ⟨e4, n4, c4, m4, p4⟩ | ⟨b, hb, e4, l4, m4⟩
  rotate_left
  · refine ⟨x4, y4, 999, A4', B4', z4, by omega, ?_, Or.inr ⟨b, hb, ?_, l4, m4.1, Or.inl m4.2⟩⟩
    · rw [M, K0]
      have e := m4.2
      simp (disch := omega) only [nA, nS, nM, nLT, nLF, nTT, nTF, nEF, nET, nBT, nBF, nC, nNG, nNL, jj_b1, jj_b2, js, jn, eq_self, if_true, if_false, ite_true, ite_false, ↓reduceIte, and_self, true_and, and_true, zb0, zb1, bM, bR, bCk, bMa, Bool.false_eq_true, Bool.and_self, Bool.and_true, Bool.true_and, li_0, li_1, li_2, li_3, li_4, li_5, li_6, li_7, li_8, li_16, li_18, li_21, li_25, li_46, li_54, li_58, li_60, li_79, li_87, li_89, li_95, li_96, li_100, li_104, li_108, li_116, li_127, li_128, li_132, li_153, li_158, li_159, li_164, li_167, li_172, li_176, li_177, li_184, li_188, li_190, li_198, li_199, li_200, li_202, li_240, li_255, li_256, li_32767, li_32768, li_65536, D1, d2, D4, mf_next m4]
      exact mf_53 (f := 999) m4 _ _
    · unfold f_Rd_readsFile k_Rd_readsFile_0 f_Rd_readsConstants
      simp (disch := omega) only [nA, nS, nM, nLT, nLF, nTT, nTF, nEF, nET, nBT, nBF, nC, nNG, nNL, jj_b1, jj_b2, js, jn, eq_self, if_true, if_false, ite_true, ite_false, ↓reduceIte, and_self, true_and, and_true, zb0, zb1, bM, bR, bCk, bMa, Bool.false_eq_true, Bool.and_self, Bool.and_true, Bool.true_and, li_0, li_1, li_2, li_3, li_4, li_5, li_6, li_7, li_8, li_16, li_18, li_21, li_25, li_46, li_54, li_58, li_60, li_79, li_87, li_89, li_95, li_96, li_100, li_104, li_108, li_116, li_127, li_128, li_132, li_153, li_158, li_159, li_164, li_167, li_172, li_176, li_177, li_184, li_188, li_190, li_198, li_199, li_200, li_202, li_240, li_255, li_256, li_32767, li_32768, li_65536, e1, e2, l2, w2, e4]
  obtain ⟨x5, y5, A5, B5, H5⟩ := two_next hS hF p4 c4 m4 (nI 1) (nI 4)
  have A5' : Same (WF S) x x5 := A4'.trans (A5.mono (fun i k w => by omega))
  have B5' := B4'.trans (WMm B5)
  have z5 : y5 58 0 = nI 0 := by rw [B5.get 58 0 (by omega)]; exact z4
  rcases H5 with ⟨n5, e5, l5, c5, d5, m5, p5, r5, s5⟩ | ⟨e5, l5, d5, m5⟩
  rotate_left
  · refine ⟨x5, y5, 999, A5', B5', z5, by omega, ?_, Or.inr ⟨_, p4, ?_, l5, m5.1, Or.inl m5.2⟩⟩
    · rw [M, K0]
      have e := m5.2
      simp (disch := omega) only [nA, nS, nM, nLT, nLF, nTT, nTF, nEF, nET, nBT, nBF, nC, nNG, nNL, jj_b1, jj_b2, js, jn, eq_self, if_true, if_false, ite_true, ite_false, ↓reduceIte, and_self, true_and, and_true, zb0, zb1, bM, bR, bCk, bMa, Bool.false_eq_true, Bool.and_self, Bool.and_true, Bool.true_and, li_0, li_1, li_2, li_3, li_4, li_5, li_6, li_7, li_8, li_16, li_18, li_21, li_25, li_46, li_54, li_58, li_60, li_79, li_87, li_89, li_95, li_96, li_100, li_104, li_108, li_116, li_127, li_128, li_132, li_153, li_158, li_159, li_164, li_167, li_172, li_176, li_177, li_184, li_188, li_190, li_198, li_199, li_200, li_202, li_240, li_255, li_256, li_32767, li_32768, li_65536, D1, d2, D4, d5]
      exact mf_53 (f := 999) m5 _ _
    · unfold f_Rd_readsFile k_Rd_readsFile_0 f_Rd_readsConstants
      simp (disch := omega) only [nA, nS, nM, nLT, nLF, nTT, nTF, nEF, nET, nBT, nBF, nC, nNG, nNL, jj_b1, jj_b2, js, jn, eq_self, if_true, if_false, ite_true, ite_false, ↓reduceIte, and_self, true_and, and_true, zb0, zb1, bM, bR, bCk, bMa, Bool.false_eq_true, Bool.and_self, Bool.and_true, Bool.true_and, li_0, li_1, li_2, li_3, li_4, li_5, li_6, li_7, li_8, li_16, li_18, li_21, li_25, li_46, li_54, li_58, li_60, li_79, li_87, li_89, li_95, li_96, li_100, li_104, li_108, li_116, li_127, li_128, li_132, li_153, li_158, li_159, li_164, li_167, li_172, li_176, li_177, li_184, li_188, li_190, li_198, li_199, li_200, li_202, li_240, li_255, li_256, li_32767, li_32768, li_65536, e1, e2, l2, w2, e4, e5]
  have b5 := nx_nat hF (by omega) (by omega) n5
  have hmc : mcn F ≤ 4 := b5.2
  have Z : mp F 0 = 2 + 4 * F 1 + 1 := by show 3 + 4 * F 1 = _; omega
  have A6' : Same (WF S) x (jj_set x5 S 4 (nI (mcn F))) := A5'.set _ (by omega)
  have c6 : Cl S F n (mp F 0) (jj_set x5 S 4 (nI (mcn F))) := by rw [Z]; exact ⟨by simp (disch := omega) only [nA, nS, nM, nLT, nLF, nTT, nTF, nEF, nET, nBT, nBF, nC, nNG, nNL, jj_b1, jj_b2, js, jn, eq_self, if_true, if_false, ite_true, ite_false, ↓reduceIte, and_self, true_and, and_true, zb0, zb1, bM, bR, bCk, bMa, Bool.false_eq_true, Bool.and_self, Bool.and_true, Bool.true_and, li_0, li_1, li_2, li_3, li_4, li_5, li_6, li_7, li_8, li_16, li_18, li_21, li_25, li_46, li_54, li_58, li_60, li_79, li_87, li_89, li_95, li_96, li_100, li_104, li_108, li_116, li_127, li_128, li_132, li_153, li_158, li_159, li_164, li_167, li_172, li_176, li_177, li_184, li_188, li_190, li_198, li_199, li_200, li_202, li_240, li_255, li_256, li_32767, li_32768, li_65536]; exact c5.1, by simp (disch := omega) only [nA, nS, nM, nLT, nLF, nTT, nTF, nEF, nET, nBT, nBF, nC, nNG, nNL, jj_b1, jj_b2, js, jn, eq_self, if_true, if_false, ite_true, ite_false, ↓reduceIte, and_self, true_and, and_true, zb0, zb1, bM, bR, bCk, bMa, Bool.false_eq_true, Bool.and_self, Bool.and_true, Bool.true_and, li_0, li_1, li_2, li_3, li_4, li_5, li_6, li_7, li_8, li_16, li_18, li_21, li_25, li_46, li_54, li_58, li_60, li_79, li_87, li_89, li_95, li_96, li_100, li_104, li_108, li_116, li_127, li_128, li_132, li_153, li_158, li_159, li_164, li_167, li_172, li_176, li_177, li_184, li_188, li_190, li_198, li_199, li_200, li_202, li_240, li_255, li_256, li_32767, li_32768, li_65536]; exact c5.2.1, fun k hk => by simp (disch := omega) only [nA, nS, nM, nLT, nLF, nTT, nTF, nEF, nET, nBT, nBF, nC, nNG, nNL, jj_b1, jj_b2, js, jn, eq_self, if_true, if_false, ite_true, ite_false, ↓reduceIte, and_self, true_and, and_true, zb0, zb1, bM, bR, bCk, bMa, Bool.false_eq_true, Bool.and_self, Bool.and_true, Bool.true_and, li_0, li_1, li_2, li_3, li_4, li_5, li_6, li_7, li_8, li_16, li_18, li_21, li_25, li_46, li_54, li_58, li_60, li_79, li_87, li_89, li_95, li_96, li_100, li_104, li_108, li_116, li_127, li_128, li_132, li_153, li_158, li_159, li_164, li_167, li_172, li_176, li_177, li_184, li_188, li_190, li_198, li_199, li_200, li_202, li_240, li_255, li_256, li_32767, li_32768, li_65536]; exact c5.2.2 k hk⟩
  have f2 : (jj_set x5 S 4 (nI (mcn F))) S 2 = nI (F 1) := by simp (disch := omega) only [nA, nS, nM, nLT, nLF, nTT, nTF, nEF, nET, nBT, nBF, nC, nNG, nNL, jj_b1, jj_b2, js, jn, eq_self, if_true, if_false, ite_true, ite_false, ↓reduceIte, and_self, true_and, and_true, zb0, zb1, bM, bR, bCk, bMa, Bool.false_eq_true, Bool.and_self, Bool.and_true, Bool.true_and, li_0, li_1, li_2, li_3, li_4, li_5, li_6, li_7, li_8, li_16, li_18, li_21, li_25, li_46, li_54, li_58, li_60, li_79, li_87, li_89, li_95, li_96, li_100, li_104, li_108, li_116, li_127, li_128, li_132, li_153, li_158, li_159, li_164, li_167, li_172, li_176, li_177, li_184, li_188, li_190, li_198, li_199, li_200, li_202, li_240, li_255, li_256, li_32767, li_32768, li_65536, A5.get, A4.get]
  have f3 : (jj_set x5 S 4 (nI (mcn F))) S 3 = nI 2 := by simp (disch := omega) only [nA, nS, nM, nLT, nLF, nTT, nTF, nEF, nET, nBT, nBF, nC, nNG, nNL, jj_b1, jj_b2, js, jn, eq_self, if_true, if_false, ite_true, ite_false, ↓reduceIte, and_self, true_and, and_true, zb0, zb1, bM, bR, bCk, bMa, Bool.false_eq_true, Bool.and_self, Bool.and_true, Bool.true_and, li_0, li_1, li_2, li_3, li_4, li_5, li_6, li_7, li_8, li_16, li_18, li_21, li_25, li_46, li_54, li_58, li_60, li_79, li_87, li_89, li_95, li_96, li_100, li_104, li_108, li_116, li_127, li_128, li_132, li_153, li_158, li_159, li_164, li_167, li_172, li_176, li_177, li_184, li_188, li_190, li_198, li_199, li_200, li_202, li_240, li_255, li_256, li_32767, li_32768, li_65536, A5.get, A4.get]
  have f4 : (jj_set x5 S 4 (nI (mcn F))) S 4 = nI (mcn F) := by simp (disch := omega) only [nA, nS, nM, nLT, nLF, nTT, nTF, nEF, nET, nBT, nBF, nC, nNG, nNL, jj_b1, jj_b2, js, jn, eq_self, if_true, if_false, ite_true, ite_false, ↓reduceIte, and_self, true_and, and_true, zb0, zb1, bM, bR, bCk, bMa, Bool.false_eq_true, Bool.and_self, Bool.and_true, Bool.true_and, li_0, li_1, li_2, li_3, li_4, li_5, li_6, li_7, li_8, li_16, li_18, li_21, li_25, li_46, li_54, li_58, li_60, li_79, li_87, li_89, li_95, li_96, li_100, li_104, li_108, li_116, li_127, li_128, li_132, li_153, li_158, li_159, li_164, li_167, li_172, li_176, li_177, li_184, li_188, li_190, li_198, li_199, li_200, li_202, li_240, li_255, li_256, li_32767, li_32768, li_65536]
  rw [← Z] at m5
  obtain ⟨x7, y7, f'', A7, B7, hf, K7, q2, q3, q4, H7⟩ := two_methods hS hF b2.2 b5.2 (mcn F) 0 1000 1000 (jj_set x5 S 4 (nI (mcn F))) y5 (by omega) (by omega) (by omega) (by omega) (by omega) f2 f4 (fun i hi => by omega) (fun i hi => by omega) c6 m5
  have A7' : Same (WF S) x x7 := A6'.trans A7
  have B7' := B5'.trans (WMm B7)
  have z7 : y7 58 0 = nI 0 := by rw [B7.get 58 0 (by omega)]; exact z5
  have KM : f_Mo_read 58 y = k_Mo_read_77 (g_Mo_read f'') 58 y7 := by
    rw [M, K0, ← K7]
    simp (disch := omega) only [nA, nS, nM, nLT, nLF, nTT, nTF, nEF, nET, nBT, nBF, nC, nNG, nNL, jj_b1, jj_b2, js, jn, eq_self, if_true, if_false, ite_true, ite_false, ↓reduceIte, and_self, true_and, and_true, zb0, zb1, bM, bR, bCk, bMa, Bool.false_eq_true, Bool.and_self, Bool.and_true, Bool.true_and, li_0, li_1, li_2, li_3, li_4, li_5, li_6, li_7, li_8, li_16, li_18, li_21, li_25, li_46, li_54, li_58, li_60, li_79, li_87, li_89, li_95, li_96, li_100, li_104, li_108, li_116, li_127, li_128, li_132, li_153, li_158, li_159, li_164, li_167, li_172, li_176, li_177, li_184, li_188, li_190, li_198, li_199, li_200, li_202, li_240, li_255, li_256, li_32767, li_32768, li_65536, D1, d2, D4, d5]
    rfl
  have KC : f_Rd_readsFile 24 S x = g_Rd_readsFile 1000 49 [some (.ref 24), some (.ref S), some (.int (nI 0))] (jj_set x5 S 4 (nI (mcn F))) := by
    unfold f_Rd_readsFile k_Rd_readsFile_0 f_Rd_readsConstants
    simp (disch := omega) only [nA, nS, nM, nLT, nLF, nTT, nTF, nEF, nET, nBT, nBF, nC, nNG, nNL, jj_b1, jj_b2, js, jn, eq_self, if_true, if_false, ite_true, ite_false, ↓reduceIte, and_self, true_and, and_true, zb0, zb1, bM, bR, bCk, bMa, Bool.false_eq_true, Bool.and_self, Bool.and_true, Bool.true_and, li_0, li_1, li_2, li_3, li_4, li_5, li_6, li_7, li_8, li_16, li_18, li_21, li_25, li_46, li_54, li_58, li_60, li_79, li_87, li_89, li_95, li_96, li_100, li_104, li_108, li_116, li_127, li_128, li_132, li_153, li_158, li_159, li_164, li_167, li_172, li_176, li_177, li_184, li_188, li_190, li_198, li_199, li_200, li_202, li_240, li_255, li_256, li_32767, li_32768, li_65536, e1, e2, l2, w2, e4, e5, l5]
    rfl
  refine ⟨x7, y7, f'', A7', B7', z7, by omega, KM, ?_⟩
  rw [KC]
  rcases H7 with ⟨g1, g2, g3, g4, g5, g6, g7⟩ | ⟨b, hb, g1, g2, g3⟩
  · by_cases c : mp F (mcn F) = n
    · refine Or.inl ⟨⟨b2.2, b5.1, b5.2, by omega, g1, c⟩, ⟨g3.2.1, by rw [q2]; exact f2, by rw [q3]; exact f3, by rw [q4]; exact f4, g3.2.2, g2⟩, g6 c, ?_⟩
      rw [c] at g4
      exact g4
    · refine Or.inr ⟨mp F (mcn F), by omega, g7 c, g3.1, g4.1, Or.inr ⟨g4.2.2.1, g4.2.1, by omega⟩⟩
  · exact Or.inr ⟨b, hb, g1, g2, g3.1, Or.inl g3.2⟩
end FILE
