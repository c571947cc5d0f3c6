/-! PURE: reading a method's head in step -/
def m_rt (F : Nat → Nat) (a : Nat) : Nat := F (a + 1 + F a)
def m_dp (F : Nat → Nat) (a : Nat) : Nat := F (a + 2 + F a)
def m_pl (F : Nat → Nat) (a : Nat) : Nat := F (a + 3 + F a)
def m_ln (F : Nat → Nat) (a : Nat) : Nat := F (a + 4 + F a)
def m_cd (F : Nat → Nat) (a : Nat) : Nat := a + 5 + F a
/-- the head of a method at a is as the grammar asks -/
def HdOK (F : Nat → Nat) (n a : Nat) : Prop := F a ≤ 3 ∧ (∀ k, k < F a → 1 ≤ F (a + 1 + k) ∧ F (a + 1 + k) ≤ 2) ∧ m_rt F a ≤ 2 ∧ m_dp F a ≤ 6 ∧ F a ≤ m_pl F a ∧ m_pl F a ≤ 6 ∧ 1 ≤ m_ln F a ∧ m_ln F a ≤ 60 ∧ m_cd F a ≤ n
/-- the head's numbers in the cells of Method q -/
def HdC (F : Nat → Nat) (a q : Nat) (x : jj_Mem) : Prop := x q 0 = nI (F a) ∧ x q 1 = nI (a + 1) ∧ x q 2 = nI (m_rt F a) ∧ x q 3 = nI (m_dp F a) ∧ x q 4 = nI (m_pl F a) ∧ x q 6 = nI (m_ln F a) ∧ x q 5 = nI (m_cd F a)
abbrev WQ (q : Nat) (i k : Nat) : Prop := (i = 24 ∧ k ≤ 1) ∨ i = 25 ∨ i = q ∨ i = q + 1
theorem Same.aq {q : Nat} {x y : jj_Mem} (h : Same WA x y) : Same (WQ q) x y := h.mono (fun i k z => Or.inl z)
theorem Cl_q {S n a q k : Nat} {F : Nat → Nat} {x : jj_Mem} (hS : o_Pr S) (h : Cl S F n a x) (hq : S + 3 ≤ q ∧ q < 24) (v : Int32) : Cl S F n a (jj_set x q k v) := by
  obtain ⟨h1, h2, h3⟩ := h
  have := oc_Pr hS
  exact ⟨by rw [jn (by omega)]; exact h1, by rw [jn (by omega)]; exact h2, fun j hj => by rw [jn (by omega)]; exact h3 j hj⟩
section HEAD
variable {S n a m q : Nat} {F : Nat → Nat} {x y : jj_Mem}
theorem two_head (hS : o_Pr S) (hF : By F n) (hm : m < 4) (hq : q = S + 3 + 2 * m) (ha : a ≤ 240) (h : Cl S F n a x) (h' : Mr F n a y) : ∃ x' y', Same (WQ q) x x' ∧ Same WM y y' ∧
    ((f_Rd_readsHead 24 S q x = some (nI 1, x') ∧ HdOK F n a ∧ HdC F a q x' ∧ Cl S F n (m_cd F a) x' ∧ Mr F n (m_cd F a) y' ∧ m_cd F a ≤ 240 ∧
      ∀ rec cc mm, k_Mo_readMethod_0 rec 58 cc mm y = rec 55 [some (.ref 58), some (.int cc), some (.int mm), none, some (.int (nI (m_rt F a))), some (.int (nI (m_dp F a))), some (.int (nI (m_pl F a))), some (.int (nI (m_ln F a))), some (.int (nI (m_cd F a))), none, none, none, none, none] y') ∨
     (∃ b, b ≤ 240 ∧ f_Rd_readsHead 24 S q x = some (nI 0, x') ∧ x' 24 0 = nI b ∧ MF b y' ∧ ∃ v4 v5 v6 v7 v8, ∀ rec cc mm, k_Mo_readMethod_0 rec 58 cc mm y = rec 55 [some (.ref 58), some (.int cc), some (.int mm), none, some (.int v4), some (.int v5), some (.int v6), some (.int v7), some (.int v8), none, none, none, none, none] y')) := by
  have hS2 := oc_Pr hS
  have hq2 : S + 3 ≤ q ∧ q < 24 := by omega
  obtain ⟨x1, y1, A1, B1, H1⟩ := two_next hS hF ha h h' (nI 0) (nI 3)
  rcases H1 with ⟨n1, e1, l1, c1, d1, m1, p1, r1, s1⟩ | ⟨e1, l1, d1, m1⟩
  rotate_left
  · refine ⟨x1, y1, A1.aq, B1, Or.inr ⟨a, ha, ?_, l1, m1, nI 0, nI 0, nI 0, nI 0, nI a, ?_⟩⟩
    · unfold f_Rd_readsHead
      simp (disch := omega) only [nA, nS, nM, nLT, nLF, nTT, nTF, nEF, nET, nBT, nBF, nC, nNF, jj_b1, jj_b2, js, jn, eq_self, if_true, if_false, ite_true, ite_false, ↓reduceIte, and_self, true_and, and_true, zb0, zb1, bM, bR, bCk, bMa, Bool.and_self, Bool.and_true, Bool.true_and, li_0, li_1, li_2, li_3, li_4, li_5, li_6, li_7, li_8, li_16, li_18, li_21, li_25, li_46, li_54, li_58, li_60, li_79, li_87, li_89, li_95, li_96, li_100, li_104, li_108, li_116, li_127, li_128, li_132, li_153, li_158, li_159, li_164, li_167, li_172, li_176, li_177, li_184, li_188, li_190, li_198, li_199, li_200, li_202, li_240, li_255, li_256, li_32767, li_32768, li_65536, e1]
    · intro rec cc mm
      unfold k_Mo_readMethod_0
      simp (disch := omega) only [nA, nS, nM, nLT, nLF, nTT, nTF, nEF, nET, nBT, nBF, nC, nNF, jj_b1, jj_b2, js, jn, eq_self, if_true, if_false, ite_true, ite_false, ↓reduceIte, and_self, true_and, and_true, zb0, zb1, bM, bR, bCk, bMa, Bool.and_self, Bool.and_true, Bool.true_and, li_0, li_1, li_2, li_3, li_4, li_5, li_6, li_7, li_8, li_16, li_18, li_21, li_25, li_46, li_54, li_58, li_60, li_79, li_87, li_89, li_95, li_96, li_100, li_104, li_108, li_116, li_127, li_128, li_132, li_153, li_158, li_159, li_164, li_167, li_172, li_176, li_177, li_184, li_188, li_190, li_198, li_199, li_200, li_202, li_240, li_255, li_256, li_32767, li_32768, li_65536, d1, mf_next m1, mf_skip m1, m1.1]
  have b1 := nx_nat hF (by omega) (by omega) n1
  have A1' : Same (WQ q) x (jj_set (jj_set x1 q 0 (nI (F a))) q 1 (nI (a + 1))) := (A1.aq.set _ (by omega)).set _ (by omega)
  have c1' : Cl S F n (a + 1) (jj_set (jj_set x1 q 0 (nI (F a))) q 1 (nI (a + 1))) := Cl_q hS (Cl_q hS c1 hq2 _) hq2 _
  obtain ⟨x2, y2, A2, B2, D2, H2⟩ := two_ones hS hF p1 c1' m1 (nI 1) (nI 2) (c := F a) (by omega)
  rcases H2 with ⟨e2, n2, c2, m2, p2⟩ | ⟨b, hb, e2, l2, m2⟩
  rotate_left
  · refine ⟨x2, y2, A1'.trans A2.aq, B1.trans B2, Or.inr ⟨b, hb, ?_, l2, m2, nI 0, nI 0, nI 0, nI 0, nI b, ?_⟩⟩
    · unfold f_Rd_readsHead
      simp (disch := omega) only [nA, nS, nM, nLT, nLF, nTT, nTF, nEF, nET, nBT, nBF, nC, nNF, jj_b1, jj_b2, js, jn, eq_self, if_true, if_false, ite_true, ite_false, ↓reduceIte, and_self, true_and, and_true, zb0, zb1, bM, bR, bCk, bMa, Bool.and_self, Bool.and_true, Bool.true_and, li_0, li_1, li_2, li_3, li_4, li_5, li_6, li_7, li_8, li_16, li_18, li_21, li_25, li_46, li_54, li_58, li_60, li_79, li_87, li_89, li_95, li_96, li_100, li_104, li_108, li_116, li_127, li_128, li_132, li_153, li_158, li_159, li_164, li_167, li_172, li_176, li_177, li_184, li_188, li_190, li_198, li_199, li_200, li_202, li_240, li_255, li_256, li_32767, li_32768, li_65536, e1, l1, c1.1, e2]
    · intro rec cc mm
      unfold k_Mo_readMethod_0
      simp (disch := omega) only [nA, nS, nM, nLT, nLF, nTT, nTF, nEF, nET, nBT, nBF, nC, nNF, jj_b1, jj_b2, js, jn, eq_self, if_true, if_false, ite_true, ite_false, ↓reduceIte, and_self, true_and, and_true, zb0, zb1, bM, bR, bCk, bMa, Bool.and_self, Bool.and_true, Bool.true_and, li_0, li_1, li_2, li_3, li_4, li_5, li_6, li_7, li_8, li_16, li_18, li_21, li_25, li_46, li_54, li_58, li_60, li_79, li_87, li_89, li_95, li_96, li_100, li_104, li_108, li_116, li_127, li_128, li_132, li_153, li_158, li_159, li_164, li_167, li_172, li_176, li_177, li_184, li_188, li_190, li_198, li_199, li_200, li_202, li_240, li_255, li_256, li_32767, li_32768, li_65536, d1, D2, mf_next m2, m2.1]
  have A2' := A1'.trans A2.aq
  have B2' := B1.trans B2
  obtain ⟨x3, y3, A3, B3, H3⟩ := two_next hS hF p2 c2 m2 (nI 0) (nI 2)
  rcases H3 with ⟨n3, e3, l3, c3, d3, m3, p3, r3, s3⟩ | ⟨e3, l3, d3, m3⟩
  rotate_left
  · refine ⟨x3, y3, A2'.trans A3.aq, B2'.trans B3, Or.inr ⟨a + 1 + F a, p2, ?_, l3, m3, nI 0, nI 0, nI 0, nI 0, nI (a + 1 + F a), ?_⟩⟩
    · unfold f_Rd_readsHead
      simp (disch := omega) only [nA, nS, nM, nLT, nLF, nTT, nTF, nEF, nET, nBT, nBF, nC, nNF, jj_b1, jj_b2, js, jn, eq_self, if_true, if_false, ite_true, ite_false, ↓reduceIte, and_self, true_and, and_true, zb0, zb1, bM, bR, bCk, bMa, Bool.and_self, Bool.and_true, Bool.true_and, li_0, li_1, li_2, li_3, li_4, li_5, li_6, li_7, li_8, li_16, li_18, li_21, li_25, li_46, li_54, li_58, li_60, li_79, li_87, li_89, li_95, li_96, li_100, li_104, li_108, li_116, li_127, li_128, li_132, li_153, li_158, li_159, li_164, li_167, li_172, li_176, li_177, li_184, li_188, li_190, li_198, li_199, li_200, li_202, li_240, li_255, li_256, li_32767, li_32768, li_65536, e1, l1, c1.1, e2, e3]
    · intro rec cc mm
      unfold k_Mo_readMethod_0
      simp (disch := omega) only [nA, nS, nM, nLT, nLF, nTT, nTF, nEF, nET, nBT, nBF, nC, nNF, jj_b1, jj_b2, js, jn, eq_self, if_true, if_false, ite_true, ite_false, ↓reduceIte, and_self, true_and, and_true, zb0, zb1, bM, bR, bCk, bMa, Bool.and_self, Bool.and_true, Bool.true_and, li_0, li_1, li_2, li_3, li_4, li_5, li_6, li_7, li_8, li_16, li_18, li_21, li_25, li_46, li_54, li_58, li_60, li_79, li_87, li_89, li_95, li_96, li_100, li_104, li_108, li_116, li_127, li_128, li_132, li_153, li_158, li_159, li_164, li_167, li_172, li_176, li_177, li_184, li_188, li_190, li_198, li_199, li_200, li_202, li_240, li_255, li_256, li_32767, li_32768, li_65536, d1, D2, d3, mf_next m3, m3.1]
  have b3 := nx_nat hF (by omega) (by omega) n3
  have A3' : Same (WQ q) x (jj_set x3 q 2 (nI (m_rt F a))) := ((A2'.trans A3.aq).set _ (by omega))
  have B3' := B2'.trans B3
  have c3' : Cl S F n (a + 1 + F a + 1) (jj_set x3 q 2 (nI (m_rt F a))) := Cl_q hS c3 hq2 _
  obtain ⟨x4, y4, A4, B4, H4⟩ := two_next hS hF p3 c3' m3 (nI 0) (nI 6)
  have E4 : a + 1 + F a + 1 = a + 2 + F a := by omega
  rw [E4] at H4
  rcases H4 with ⟨n4, e4, l4, c4, d4, m4, p4, r4, s4⟩ | ⟨e4, l4, d4, m4⟩
  rotate_left
  · refine ⟨x4, y4, A3'.trans A4.aq, B3'.trans B4, Or.inr ⟨a + 2 + F a, by omega, ?_, l4, m4, nI (m_rt F a), nI 0, nI 0, nI 0, nI (a + 2 + F a), ?_⟩⟩
    · unfold f_Rd_readsHead m_rt at *
      simp (disch := omega) only [nA, nS, nM, nLT, nLF, nTT, nTF, nEF, nET, nBT, nBF, nC, nNF, jj_b1, jj_b2, js, jn, eq_self, if_true, if_false, ite_true, ite_false, ↓reduceIte, and_self, true_and, and_true, zb0, zb1, bM, bR, bCk, bMa, Bool.and_self, Bool.and_true, Bool.true_and, li_0, li_1, li_2, li_3, li_4, li_5, li_6, li_7, li_8, li_16, li_18, li_21, li_25, li_46, li_54, li_58, li_60, li_79, li_87, li_89, li_95, li_96, li_100, li_104, li_108, li_116, li_127, li_128, li_132, li_153, li_158, li_159, li_164, li_167, li_172, li_176, li_177, li_184, li_188, li_190, li_198, li_199, li_200, li_202, li_240, li_255, li_256, li_32767, li_32768, li_65536, e1, l1, c1.1, e2, e3, l3, e4]
    · intro rec cc mm
      unfold k_Mo_readMethod_0 m_rt
      simp (disch := omega) only [nA, nS, nM, nLT, nLF, nTT, nTF, nEF, nET, nBT, nBF, nC, nNF, jj_b1, jj_b2, js, jn, eq_self, if_true, if_false, ite_true, ite_false, ↓reduceIte, and_self, true_and, and_true, zb0, zb1, bM, bR, bCk, bMa, Bool.and_self, Bool.and_true, Bool.true_and, li_0, li_1, li_2, li_3, li_4, li_5, li_6, li_7, li_8, li_16, li_18, li_21, li_25, li_46, li_54, li_58, li_60, li_79, li_87, li_89, li_95, li_96, li_100, li_104, li_108, li_116, li_127, li_128, li_132, li_153, li_158, li_159, li_164, li_167, li_172, li_176, li_177, li_184, li_188, li_190, li_198, li_199, li_200, li_202, li_240, li_255, li_256, li_32767, li_32768, li_65536, d1, D2, d3, d4, mf_next m4, m4.1]
  have b4 := nx_nat hF (by omega) (by omega) n4
  have A4' : Same (WQ q) x (jj_set x4 q 3 (nI (m_dp F a))) := ((A3'.trans A4.aq).set _ (by omega))
  have B4' := B3'.trans B4
  have c4' : Cl S F n (a + 2 + F a + 1) (jj_set x4 q 3 (nI (m_dp F a))) := Cl_q hS c4 hq2 _
  have f4 : x4 q 0 = nI (F a) := by simp (disch := omega) only [nA, nS, nM, nLT, nLF, nTT, nTF, nEF, nET, nBT, nBF, nC, nNF, jj_b1, jj_b2, js, jn, eq_self, if_true, if_false, ite_true, ite_false, ↓reduceIte, and_self, true_and, and_true, zb0, zb1, bM, bR, bCk, bMa, Bool.and_self, Bool.and_true, Bool.true_and, li_0, li_1, li_2, li_3, li_4, li_5, li_6, li_7, li_8, li_16, li_18, li_21, li_25, li_46, li_54, li_58, li_60, li_79, li_87, li_89, li_95, li_96, li_100, li_104, li_108, li_116, li_127, li_128, li_132, li_153, li_158, li_159, li_164, li_167, li_172, li_176, li_177, li_184, li_188, li_190, li_198, li_199, li_200, li_202, li_240, li_255, li_256, li_32767, li_32768, li_65536, A4.get, A3.get, A2.get]
  obtain ⟨x5, y5, A5, B5, H5⟩ := two_next hS hF p4 c4' m4 (nI (F a)) (nI 6)
  have E5 : a + 2 + F a + 1 = a + 3 + F a := by omega
  rw [E5] at H5
  rcases H5 with ⟨n5, e5, l5, c5, d5, m5, p5, r5, s5⟩ | ⟨e5, l5, d5, m5⟩
  rotate_left
  · refine ⟨x5, y5, A4'.trans A5.aq, B4'.trans B5, Or.inr ⟨a + 3 + F a, by omega, ?_, l5, m5, nI (m_rt F a), nI (m_dp F a), nI 0, nI 0, nI (a + 3 + F a), ?_⟩⟩
    · unfold f_Rd_readsHead m_rt m_dp at *
      simp (disch := omega) only [nA, nS, nM, nLT, nLF, nTT, nTF, nEF, nET, nBT, nBF, nC, nNF, jj_b1, jj_b2, js, jn, eq_self, if_true, if_false, ite_true, ite_false, ↓reduceIte, and_self, true_and, and_true, zb0, zb1, bM, bR, bCk, bMa, Bool.and_self, Bool.and_true, Bool.true_and, li_0, li_1, li_2, li_3, li_4, li_5, li_6, li_7, li_8, li_16, li_18, li_21, li_25, li_46, li_54, li_58, li_60, li_79, li_87, li_89, li_95, li_96, li_100, li_104, li_108, li_116, li_127, li_128, li_132, li_153, li_158, li_159, li_164, li_167, li_172, li_176, li_177, li_184, li_188, li_190, li_198, li_199, li_200, li_202, li_240, li_255, li_256, li_32767, li_32768, li_65536, e1, l1, c1.1, e2, e3, l3, e4, l4, f4, e5]
    · intro rec cc mm
      unfold k_Mo_readMethod_0 m_rt m_dp
      simp (disch := omega) only [nA, nS, nM, nLT, nLF, nTT, nTF, nEF, nET, nBT, nBF, nC, nNF, jj_b1, jj_b2, js, jn, eq_self, if_true, if_false, ite_true, ite_false, ↓reduceIte, and_self, true_and, and_true, zb0, zb1, bM, bR, bCk, bMa, Bool.and_self, Bool.and_true, Bool.true_and, li_0, li_1, li_2, li_3, li_4, li_5, li_6, li_7, li_8, li_16, li_18, li_21, li_25, li_46, li_54, li_58, li_60, li_79, li_87, li_89, li_95, li_96, li_100, li_104, li_108, li_116, li_127, li_128, li_132, li_153, li_158, li_159, li_164, li_167, li_172, li_176, li_177, li_184, li_188, li_190, li_198, li_199, li_200, li_202, li_240, li_255, li_256, li_32767, li_32768, li_65536, d1, D2, d3, d4, d5, mf_next m5, m5.1]
  have b5 := nx_nat hF (by omega) (by omega) n5
  have A5' : Same (WQ q) x (jj_set x5 q 4 (nI (m_pl F a))) := ((A4'.trans A5.aq).set _ (by omega))
  have B5' := B4'.trans B5
  have c5' : Cl S F n (a + 3 + F a + 1) (jj_set x5 q 4 (nI (m_pl F a))) := Cl_q hS c5 hq2 _
  obtain ⟨x6, y6, A6, B6, H6⟩ := two_next hS hF p5 c5' m5 (nI 1) (nI 60)
  have E6 : a + 3 + F a + 1 = a + 4 + F a := by omega
  rw [E6] at H6
  rcases H6 with ⟨n6, e6, l6, c6, d6, m6, p6, r6, s6⟩ | ⟨e6, l6, d6, m6⟩
  rotate_left
  · refine ⟨x6, y6, A5'.trans A6.aq, B5'.trans B6, Or.inr ⟨a + 4 + F a, by omega, ?_, l6, m6, nI (m_rt F a), nI (m_dp F a), nI (m_pl F a), nI 0, nI (a + 4 + F a), ?_⟩⟩
    · unfold f_Rd_readsHead m_rt m_dp m_pl at *
      simp (disch := omega) only [nA, nS, nM, nLT, nLF, nTT, nTF, nEF, nET, nBT, nBF, nC, nNF, jj_b1, jj_b2, js, jn, eq_self, if_true, if_false, ite_true, ite_false, ↓reduceIte, and_self, true_and, and_true, zb0, zb1, bM, bR, bCk, bMa, Bool.and_self, Bool.and_true, Bool.true_and, li_0, li_1, li_2, li_3, li_4, li_5, li_6, li_7, li_8, li_16, li_18, li_21, li_25, li_46, li_54, li_58, li_60, li_79, li_87, li_89, li_95, li_96, li_100, li_104, li_108, li_116, li_127, li_128, li_132, li_153, li_158, li_159, li_164, li_167, li_172, li_176, li_177, li_184, li_188, li_190, li_198, li_199, li_200, li_202, li_240, li_255, li_256, li_32767, li_32768, li_65536, e1, l1, c1.1, e2, e3, l3, e4, l4, f4, e5, l5, e6]
    · intro rec cc mm
      unfold k_Mo_readMethod_0 m_rt m_dp m_pl
      simp (disch := omega) only [nA, nS, nM, nLT, nLF, nTT, nTF, nEF, nET, nBT, nBF, nC, nNF, jj_b1, jj_b2, js, jn, eq_self, if_true, if_false, ite_true, ite_false, ↓reduceIte, and_self, true_and, and_true, zb0, zb1, bM, bR, bCk, bMa, Bool.and_self, Bool.and_true, Bool.true_and, li_0, li_1, li_2, li_3, li_4, li_5, li_6, li_7, li_8, li_16, li_18, li_21, li_25, li_46, li_54, li_58, li_60, li_79, li_87, li_89, li_95, li_96, li_100, li_104, li_108, li_116, li_127, li_128, li_132, li_153, li_158, li_159, li_164, li_167, li_172, li_176, li_177, li_184, li_188, li_190, li_198, li_199, li_200, li_202, li_240, li_255, li_256, li_32767, li_32768, li_65536, d1, D2, d3, d4, d5, d6, m6.1]
  have b6 := nx_nat hF (by omega) (by omega) n6
  have E7 : a + 4 + F a + 1 = m_cd F a := by unfold m_cd; omega
  rw [E7] at c6 m6 p6 r6
  refine ⟨jj_set (jj_set x6 q 6 (nI (m_ln F a))) q 5 (nI (m_cd F a)), y6, ((A5'.trans A6.aq).set _ (by omega)).set _ (by omega), B5'.trans B6, Or.inl ⟨?_, ?_, ?_, Cl_q hS (Cl_q hS c6 hq2 _) hq2 _, m6, p6, ?_⟩⟩
  · have k1 := c6.1
    unfold f_Rd_readsHead m_rt m_dp m_pl m_ln at *
    simp (disch := omega) only [nA, nS, nM, nLT, nLF, nTT, nTF, nEF, nET, nBT, nBF, nC, nNF, jj_b1, jj_b2, js, jn, eq_self, if_true, if_false, ite_true, ite_false, ↓reduceIte, and_self, true_and, and_true, zb0, zb1, bM, bR, bCk, bMa, Bool.and_self, Bool.and_true, Bool.true_and, li_0, li_1, li_2, li_3, li_4, li_5, li_6, li_7, li_8, li_16, li_18, li_21, li_25, li_46, li_54, li_58, li_60, li_79, li_87, li_89, li_95, li_96, li_100, li_104, li_108, li_116, li_127, li_128, li_132, li_153, li_158, li_159, li_164, li_167, li_172, li_176, li_177, li_184, li_188, li_190, li_198, li_199, li_200, li_202, li_240, li_255, li_256, li_32767, li_32768, li_65536, e1, l1, c1.1, e2, e3, l3, e4, l4, f4, e5, l5, e6, l6, k1]
  · exact ⟨b1.2, fun k hk => nx_nat hF (by omega) (by omega) (n2 k hk), b3.2, b4.2, b5.1, b5.2, b6.1, b6.2, r6⟩
  · refine ⟨?_, ?_, ?_, ?_, ?_, ?_, ?_⟩ <;> simp (disch := omega) only [nA, nS, nM, nLT, nLF, nTT, nTF, nEF, nET, nBT, nBF, nC, nNF, jj_b1, jj_b2, js, jn, eq_self, if_true, if_false, ite_true, ite_false, ↓reduceIte, and_self, true_and, and_true, zb0, zb1, bM, bR, bCk, bMa, Bool.and_self, Bool.and_true, Bool.true_and, li_0, li_1, li_2, li_3, li_4, li_5, li_6, li_7, li_8, li_16, li_18, li_21, li_25, li_46, li_54, li_58, li_60, li_79, li_87, li_89, li_95, li_96, li_100, li_104, li_108, li_116, li_127, li_128, li_132, li_153, li_158, li_159, li_164, li_167, li_172, li_176, li_177, li_184, li_188, li_190, li_198, li_199, li_200, li_202, li_240, li_255, li_256, li_32767, li_32768, li_65536, A6.get, A5.get, A4.get, A3.get, A2.get]
  · intro rec cc mm
    have k1 := m6.1
    unfold k_Mo_readMethod_0 m_rt m_dp m_pl m_ln
    simp (disch := omega) only [nA, nS, nM, nLT, nLF, nTT, nTF, nEF, nET, nBT, nBF, nC, nNF, jj_b1, jj_b2, js, jn, eq_self, if_true, if_false, ite_true, ite_false, ↓reduceIte, and_self, true_and, and_true, zb0, zb1, bM, bR, bCk, bMa, Bool.and_self, Bool.and_true, Bool.true_and, li_0, li_1, li_2, li_3, li_4, li_5, li_6, li_7, li_8, li_16, li_18, li_21, li_25, li_46, li_54, li_58, li_60, li_79, li_87, li_89, li_95, li_96, li_100, li_104, li_108, li_116, li_127, li_128, li_132, li_153, li_158, li_159, li_164, li_167, li_172, li_176, li_177, li_184, li_188, li_190, li_198, li_199, li_200, li_202, li_240, li_255, li_256, li_32767, li_32768, li_65536, d1, D2, d3, d4, d5, d6, k1]
end HEAD
