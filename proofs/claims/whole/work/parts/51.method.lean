/-! PURE: reading a method in step -/
def m_fc (F : Nat → Nat) (a : Nat) : Nat := F (m_cd F a + m_ln F a)
def m_f0 (F : Nat → Nat) (a : Nat) : Nat := m_cd F a + m_ln F a + 1
def m_fr (F : Nat → Nat) (a k : Nat) : Nat := fr F (m_f0 F a) (m_pl F a) k
def m_en (F : Nat → Nat) (a : Nat) : Nat := m_fr F a (m_fc F a)
/-- the method at a is as the grammar asks; N: how many instructions it has -/
def MtOK (F : Nat → Nat) (n cc mc a N : Nat) : Prop := HdOK F n a ∧ CodeOK F (m_cd F a) (m_ln F a) cc mc (m_pl F a) N ∧ TgOK F (m_cd F a) N ∧ m_fc F a ≤ 8 ∧ (∀ i, i < m_fc F a → frlo F (m_f0 F a) (m_pl F a) i ≤ F (m_fr F a i) ∧ FrOK F n (m_ln F a) (m_pl F a) (m_dp F a) (m_fr F a i) ∧ BgI F (m_cd F a) N (nI (F (m_fr F a i)))) ∧ m_cd F a + m_ln F a < n ∧ m_en F a ≤ n
def MtC (F : Nat → Nat) (a q : Nat) (x : jj_Mem) : Prop := HdC F a q x ∧ x q 7 = nI (m_fc F a) ∧ ∀ i, i < m_fc F a → x (q + 1) i = nI (m_fr F a i)
theorem mf_55 {b f : Nat} {y : jj_Mem} (h : MF b y) (hf : 2 ≤ f) (v1 v2 v4 v5 v6 v7 v8 : Int32) : g_Mo_readMethod f 55 [some (.ref 58), some (.int v1), some (.int v2), none, some (.int v4), some (.int v5), some (.int v6), some (.int v7), some (.int v8), none, none, none, none, none] y = some y := by
  obtain ⟨f, rfl⟩ : ∃ g, f = g + 1 := ⟨f - 1, by omega⟩
  have e := h.2
  have t := mf_tail h (f := f) (by omega) v5 v6 v7 v8
  rw [show g_Mo_readMethod (f + 1) 55 [some (.ref 58), some (.int v1), some (.int v2), none, some (.int v4), some (.int v5), some (.int v6), some (.int v7), some (.int v8), none, none, none, none, none] y = k_Mo_readMethod_55 (g_Mo_readMethod f) 58 v1 v2 v4 v5 v6 v7 v8 y from rfl]
  simp (disch := omega) only [nA, nS, nM, nLT, nLF, nTT, nTF, nEF, nET, nBT, nBF, nC, nNG, nNL, jj_b1, jj_b2, js, jn, eq_self, if_true, if_false, ite_true, ite_false, ↓reduceIte, and_self, true_and, and_true, zb0, zb1, bM, bR, bCk, bMa, Bool.false_eq_true, Bool.and_self, Bool.and_true, Bool.true_and, li_0, li_1, li_2, li_3, li_4, li_5, li_6, li_7, li_8, li_16, li_18, li_21, li_25, li_46, li_54, li_58, li_60, li_79, li_87, li_89, li_95, li_96, li_100, li_104, li_108, li_116, li_127, li_128, li_132, li_153, li_158, li_159, li_164, li_167, li_172, li_176, li_177, li_184, li_188, li_190, li_198, li_199, li_200, li_202, li_240, li_255, li_256, li_32767, li_32768, li_65536, k_Mo_readMethod_55, e, t]
section METHOD
variable {S n a m q cc mc : Nat} {F : Nat → Nat} {x y : jj_Mem}
theorem bq_of (hS : o_Pr S) (hm : m < 4) (hq : q = S + 3 + 2 * m) : o_Me q := by
  have hm4 : m = 0 ∨ m = 1 ∨ m = 2 ∨ m = 3 := by omega
  rcases oc_Pr hS with rfl | rfl <;> rcases hm4 with rfl | rfl | rfl | rfl <;> subst hq <;> rfl
theorem HdC.same {W : Nat → Nat → Prop} (h : HdC F a q x) {x' : jj_Mem} (g : Same W x x') (hW : ∀ k, k < 7 → ¬ W q k) : HdC F a q x' := by
  obtain ⟨h0, h1, h2, h3, h4, h5, h6⟩ := h
  refine ⟨?_, ?_, ?_, ?_, ?_, ?_, ?_⟩ <;> rw [g.get q _ (hW _ (by omega))] <;> assumption
theorem BgC.same {W : Nat → Nat → Prop} {cd N : Nat} (h : BgC F cd N x) {x' : jj_Mem} (g : Same W x x') (hW : ∀ k, ¬ W 25 k) : BgC F cd N x' :=
  ⟨fun j hj => by rw [g.get 25 _ (hW _)]; exact h.1 j hj, fun o ho hn => by rw [g.get 25 _ (hW _)]; exact h.2 o ho hn⟩
theorem two_method (hS : o_Pr S) (hF : By F n) (hm : m < 4) (hq : q = S + 3 + 2 * m) (ha : a ≤ 240) (hcc : cc ≤ 4) (hmc : mc ≤ 4) (h1 : x S 2 = nI cc) (h2 : x S 4 = nI mc) (h : Cl S F n a x) (h' : Mr F n a y) : ∃ x' y', Same (WQ q) x x' ∧ Same WM y y' ∧ f_Mo_readMethod 58 (nI cc) (nI mc) y = some y' ∧
    ((∃ N, f_Rd_readsMethod 24 S q x = some (nI 1, x') ∧ MtOK F n cc mc a N ∧ MtC F a q x' ∧ Cl S F n (m_en F a) x' ∧ Mr F n (m_en F a) y' ∧ m_en F a ≤ 240) ∨
     (∃ b, b ≤ 240 ∧ f_Rd_readsMethod 24 S q x = some (nI 0, x') ∧ x' 24 0 = nI b ∧ MF b y')) := by
  have hS2 := oc_Pr hS
  have hMe := bq_of hS hm hq
  have hqS : S + 3 ≤ q ∧ q < 24 := by omega
  have hqS' : S + 3 ≤ q ∧ q < 23 := by omega
  have h240 := hF.1
  obtain ⟨x1, y1, A1, B1, H1⟩ := two_head hS hF hm hq ha h h'
  rcases H1 with ⟨e1, ok1, hc1, c1, m1, p1, K1⟩ | ⟨b, hb, e1, l1, m1, v4, v5, v6, v7, v8, K1⟩
  rotate_left
  · refine ⟨x1, y1, A1, B1, ?_, Or.inr ⟨b, hb, ?_, l1, m1⟩⟩
    · unfold f_Mo_readMethod
      rw [K1]
      exact mf_55 m1 (by omega) _ _ _ _ _ _ _
    · unfold f_Rd_readsMethod
      simp (disch := omega) only [nA, nS, nM, nLT, nLF, nTT, nTF, nEF, nET, nBT, nBF, nC, nNG, nNL, jj_b1, jj_b2, js, jn, eq_self, if_true, if_false, ite_true, ite_false, ↓reduceIte, and_self, true_and, and_true, zb0, zb1, bM, bR, bCk, bMa, Bool.false_eq_true, Bool.and_self, Bool.and_true, Bool.true_and, li_0, li_1, li_2, li_3, li_4, li_5, li_6, li_7, li_8, li_16, li_18, li_21, li_25, li_46, li_54, li_58, li_60, li_79, li_87, li_89, li_95, li_96, li_100, li_104, li_108, li_116, li_127, li_128, li_132, li_153, li_158, li_159, li_164, li_167, li_172, li_176, li_177, li_184, li_188, li_190, li_198, li_199, li_200, li_202, li_240, li_255, li_256, li_32767, li_32768, li_65536, e1]
  have K1' := K1 (g_Mo_readMethod 1000) (nI cc) (nI mc)
  obtain ⟨hp, htp, hrt, hdp, hpp, hpl, hl1, hln, hcn⟩ := id ok1
  obtain ⟨f0, f1, f2, f3, f4, f6, f5⟩ := id hc1
  have g1 : x1 S 2 = nI cc := by rw [A1.get S 2 (by omega)]; exact h1
  have g2 : x1 S 4 = nI mc := by rw [A1.get S 4 (by omega)]; exact h2
  obtain ⟨x2, y2, f'', A2, B2, hf'', K2, H2⟩ := two_code hS hF hMe hqS p1 hln hcc hmc hpl (nI (m_rt F a)) (nI (m_dp F a)) (nI_ge0 (by omega)) g1 g2 f4 f5 f6 c1 m1
  have A2' : Same (WQ q) x x2 := A1.trans (A2.mono (fun i k z => by omega))
  rcases H2 with ⟨N, e2, ok2, bg2, c2, m2, p2⟩ | ⟨b, hb, e2, l2, m2⟩
  rotate_left
  · refine ⟨x2, y2, A2', B1.trans B2, ?_, Or.inr ⟨b, hb, ?_, l2, m2⟩⟩
    · unfold f_Mo_readMethod
      rw [K1', K2]
      exact mf_tail m2 (by omega) _ _ _ _
    · unfold f_Rd_readsMethod
      simp (disch := omega) only [nA, nS, nM, nLT, nLF, nTT, nTF, nEF, nET, nBT, nBF, nC, nNG, nNL, jj_b1, jj_b2, js, jn, eq_self, if_true, if_false, ite_true, ite_false, ↓reduceIte, and_self, true_and, and_true, zb0, zb1, bM, bR, bCk, bMa, Bool.false_eq_true, Bool.and_self, Bool.and_true, Bool.true_and, li_0, li_1, li_2, li_3, li_4, li_5, li_6, li_7, li_8, li_16, li_18, li_21, li_25, li_46, li_54, li_58, li_60, li_79, li_87, li_89, li_95, li_96, li_100, li_104, li_108, li_116, li_127, li_128, li_132, li_153, li_158, li_159, li_164, li_167, li_172, li_176, li_177, li_184, li_188, li_190, li_198, li_199, li_200, li_202, li_240, li_255, li_256, li_32767, li_32768, li_65536, e1, e2]
  obtain ⟨x3, y3, A3, B3, H3⟩ := two_next hS hF p2 c2 m2 (nI 0) (nI 8)
  have A3' : Same (WQ q) x x3 := A2'.trans (A3.mono (fun i k z => by omega))
  rcases H3 with ⟨n3, e3, l3, c3, d3, m3, p3, r3, s3⟩ | ⟨e3, l3, d3, m3⟩
  rotate_left
  · refine ⟨x3, y3, A3', (B1.trans B2).trans B3, ?_, Or.inr ⟨_, p2, ?_, l3, m3⟩⟩
    · unfold f_Mo_readMethod
      rw [K1', K2]
      have t := mf_113 m3 (f := f'') (by omega) (nI (m_dp F a)) (nI (m_pl F a)) (nI (m_ln F a)) (nI (m_cd F a)) (nI 0) (-nI 1) (nI 1) (nI 0)
      simp (disch := omega) only [nA, nS, nM, nLT, nLF, nTT, nTF, nEF, nET, nBT, nBF, nC, nNG, nNL, jj_b1, jj_b2, js, jn, eq_self, if_true, if_false, ite_true, ite_false, ↓reduceIte, and_self, true_and, and_true, zb0, zb1, bM, bR, bCk, bMa, Bool.false_eq_true, Bool.and_self, Bool.and_true, Bool.true_and, li_0, li_1, li_2, li_3, li_4, li_5, li_6, li_7, li_8, li_16, li_18, li_21, li_25, li_46, li_54, li_58, li_60, li_79, li_87, li_89, li_95, li_96, li_100, li_104, li_108, li_116, li_127, li_128, li_132, li_153, li_158, li_159, li_164, li_167, li_172, li_176, li_177, li_184, li_188, li_190, li_198, li_199, li_200, li_202, li_240, li_255, li_256, li_32767, li_32768, li_65536, k_Mo_readMethod_95, d3, t]
    · unfold f_Rd_readsMethod f_Rd_readsFrames k_Rd_readsFrames_0
      simp (disch := omega) only [nA, nS, nM, nLT, nLF, nTT, nTF, nEF, nET, nBT, nBF, nC, nNG, nNL, jj_b1, jj_b2, js, jn, eq_self, if_true, if_false, ite_true, ite_false, ↓reduceIte, and_self, true_and, and_true, zb0, zb1, bM, bR, bCk, bMa, Bool.false_eq_true, Bool.and_self, Bool.and_true, Bool.true_and, li_0, li_1, li_2, li_3, li_4, li_5, li_6, li_7, li_8, li_16, li_18, li_21, li_25, li_46, li_54, li_58, li_60, li_79, li_87, li_89, li_95, li_96, li_100, li_104, li_108, li_116, li_127, li_128, li_132, li_153, li_158, li_159, li_164, li_167, li_172, li_176, li_177, li_184, li_188, li_190, li_198, li_199, li_200, li_202, li_240, li_255, li_256, li_32767, li_32768, li_65536, e1, e2, e3]
  have b3 := nx_nat hF (by omega) (by omega) n3
  have A4' : Same (WQ q) x (jj_set x3 q 7 (nI (m_fc F a))) := A3'.set _ (by omega)
  have c4 : Cl S F n (m_f0 F a) (jj_set x3 q 7 (nI (m_fc F a))) := Cl_q hS c3 hqS _
  have hd4 : HdC F a q (jj_set x3 q 7 (nI (m_fc F a))) := ((hc1.same A2 (fun k hk => by omega)).same A3 (fun k hk => by omega)).same ((Same.refl (W := fun i k => i = q ∧ k = 7) x3).set _ ⟨rfl, rfl⟩) (fun k hk => by omega)
  have bg4 : BgC F (m_cd F a) N (jj_set x3 q 7 (nI (m_fc F a))) := (bg2.same A3 (fun k => by omega)).same ((Same.refl (W := fun i k => i = q ∧ k = 7) x3).set _ ⟨rfl, rfl⟩) (fun k => by omega)
  obtain ⟨x5, y5, A5, B5, H5⟩ := two_frames_g (p0 := m_f0 F a) (fc := m_fc F a) (dp := m_dp F a) hS hF hMe hqS' ok2 hl1 hln (by omega) hpl hdp b3.2 (m_fc F a) 0 1000 f'' 1 (-nI 1) (jj_set x3 q 7 (nI (m_fc F a))) y3 (by omega) (by unfold m_fc; omega) (by unfold m_fc; omega) (z_p1 (fun i hi => by omega)).symm (show (-nI 1) + nI 1 = nI 0 by decide) p3 (by show 0 ≤ 300; omega) hd4.2.2.2.1 hd4.2.2.2.2.1 hd4.2.2.2.2.2.1 (js _ _ _ _) (fun i hi => by omega) (fun i hi => by omega) c4 m3
  have A5' : Same (WQ q) x x5 := A4'.trans (A5.mono (fun i k z => by omega))
  have B5' : Same WM y y5 := ((B1.trans B2).trans B3).trans B5
  have E3 : f_Rd_readsFrames 24 S q x2 = g_Rd_readsFrames 1000 26 [some (.ref 24), some (.ref S), some (.ref q), some (.int (nI (frlo F (m_f0 F a) (m_pl F a) 0))), some (.int (nI 0))] (jj_set x3 q 7 (nI (m_fc F a))) := by
    show _ = g_Rd_readsFrames 1000 26 [some (.ref 24), some (.ref S), some (.ref q), some (.int (nI 0)), some (.int (nI 0))] (jj_set x3 q 7 (nI (F (m_cd F a + m_ln F a))))
    unfold f_Rd_readsFrames k_Rd_readsFrames_0
    simp (disch := omega) only [nA, nS, nM, nLT, nLF, nTT, nTF, nEF, nET, nBT, nBF, nC, nNG, nNL, jj_b1, jj_b2, js, jn, eq_self, if_true, if_false, ite_true, ite_false, ↓reduceIte, and_self, true_and, and_true, zb0, zb1, bM, bR, bCk, bMa, Bool.false_eq_true, Bool.and_self, Bool.and_true, Bool.true_and, li_0, li_1, li_2, li_3, li_4, li_5, li_6, li_7, li_8, li_16, li_18, li_21, li_25, li_46, li_54, li_58, li_60, li_79, li_87, li_89, li_95, li_96, li_100, li_104, li_108, li_116, li_127, li_128, li_132, li_153, li_158, li_159, li_164, li_167, li_172, li_176, li_177, li_184, li_188, li_190, li_198, li_199, li_200, li_202, li_240, li_255, li_256, li_32767, li_32768, li_65536, e3, l3]
  have K3 : f_Mo_readMethod 58 (nI cc) (nI mc) y = g_Mo_readMethod f'' 113 [some (.ref 58), none, none, none, none, some (.int (nI (m_dp F a))), some (.int (nI (m_pl F a))), some (.int (nI (m_ln F a))), some (.int (nI (m_cd F a))), some (.int (nI (m_fc F a))), some (.int (-nI 1)), some (.int (nI 1)), some (.int (nI 0)), none] y3 := by
    unfold f_Mo_readMethod
    rw [K1', K2]
    show _ = g_Mo_readMethod f'' 113 [some (.ref 58), none, none, none, none, some (.int (nI (m_dp F a))), some (.int (nI (m_pl F a))), some (.int (nI (m_ln F a))), some (.int (nI (m_cd F a))), some (.int (nI (F (m_cd F a + m_ln F a)))), some (.int (-nI 1)), some (.int (nI 1)), some (.int (nI 0)), none] y3
    simp (disch := omega) only [nA, nS, nM, nLT, nLF, nTT, nTF, nEF, nET, nBT, nBF, nC, nNG, nNL, jj_b1, jj_b2, js, jn, eq_self, if_true, if_false, ite_true, ite_false, ↓reduceIte, and_self, true_and, and_true, zb0, zb1, bM, bR, bCk, bMa, Bool.false_eq_true, Bool.and_self, Bool.and_true, Bool.true_and, li_0, li_1, li_2, li_3, li_4, li_5, li_6, li_7, li_8, li_16, li_18, li_21, li_25, li_46, li_54, li_58, li_60, li_79, li_87, li_89, li_95, li_96, li_100, li_104, li_108, li_116, li_127, li_128, li_132, li_153, li_158, li_159, li_164, li_167, li_172, li_176, li_177, li_184, li_188, li_190, li_198, li_199, li_200, li_202, li_240, li_255, li_256, li_32767, li_32768, li_65536, k_Mo_readMethod_95, d3]
  rcases H5 with ⟨e5, at5, ok5, c5, m5, p5, fz, K5⟩ | ⟨b, hb, e5, l5, m5, K5⟩
  rotate_left
  · refine ⟨x5, y5, A5', B5', by rw [K3]; exact K5, Or.inr ⟨b, hb, ?_, l5, m5⟩⟩
    rw [← E3] at e5
    unfold f_Rd_readsMethod
    simp (disch := omega) only [nA, nS, nM, nLT, nLF, nTT, nTF, nEF, nET, nBT, nBF, nC, nNG, nNL, jj_b1, jj_b2, js, jn, eq_self, if_true, if_false, ite_true, ite_false, ↓reduceIte, and_self, true_and, and_true, zb0, zb1, bM, bR, bCk, bMa, Bool.false_eq_true, Bool.and_self, Bool.and_true, Bool.true_and, li_0, li_1, li_2, li_3, li_4, li_5, li_6, li_7, li_8, li_16, li_18, li_21, li_25, li_46, li_54, li_58, li_60, li_79, li_87, li_89, li_95, li_96, li_100, li_104, li_108, li_116, li_127, li_128, li_132, li_153, li_158, li_159, li_164, li_167, li_172, li_176, li_177, li_184, li_188, li_190, li_198, li_199, li_200, li_202, li_240, li_255, li_256, li_32767, li_32768, li_65536, e1, e2, e5]
  rw [← E3] at e5
  rw [← K3] at K5
  have hd5 : HdC F a q x5 := hd4.same A5 (fun k hk => by omega)
  have q7 : x5 q 7 = nI (m_fc F a) := by rw [A5.get q 7 (by omega), js]
  have bg5 : BgC F (m_cd F a) N x5 := bg4.same A5 (fun k => by omega)
  have T := rd_targets hS hMe hF ok2 hln (by omega) hd5.2.2.2.2.2.2 hd5.2.2.2.2.2.1 c5.2.2 bg5 (m_ln F a) 0 1000 (by omega) (by omega)
  have G := rd_framesBegin (p0 := m_f0 F a) (fc := m_fc F a) hS hMe hF ok2 hln b3.2 hd5.2.2.2.2.2.1 q7 c5.2.2 bg5 at5 (fun i hi => by
    have := (ok5 i hi).2.2.2.2.2
    omega) (m_fc F a) 0 1000 (by omega) (by unfold m_fc; omega)
  have U := mo_targets hF ok2 hl1 hln (by omega) m5.2.2.2 N 0 1000 1 (by omega) (by have := ok2.1; omega) (by omega)
  have T' : (TgOK F (m_cd F a) N → f_Rd_targetsBegin 24 S q x5 = some (nI 1, x5)) ∧ (¬ TgOK F (m_cd F a) N → f_Rd_targetsBegin 24 S q x5 = some (nI 0, x5)) := ⟨fun t => T.1 (fun j h1 _ => t j h1), fun t => T.2 (fun z => t (fun j h1 => z j h1 (by omega)))⟩
  have U' : (TgOK F (m_cd F a) N → f_Mo_targetsFit 58 (nI (m_cd F a)) (nI (m_ln F a)) y5 = some (nI 1, y5)) ∧ (¬ TgOK F (m_cd F a) N → f_Mo_targetsFit 58 (nI (m_cd F a)) (nI (m_ln F a)) y5 = some (nI 0, y5)) := ⟨fun t => U.1 ⟨rfl, fun j h1 _ => t j h1⟩, fun t => U.2 (fun z => t (fun j h1 => z.2 j h1 (by omega)))⟩
  have G' : ((∀ i, i < m_fc F a → BgI F (m_cd F a) N (nI (F (fr F (m_f0 F a) (m_pl F a) i)))) → f_Rd_framesBegin 24 S q x5 = some (nI 1, x5)) ∧ (¬ (∀ i, i < m_fc F a → BgI F (m_cd F a) N (nI (F (fr F (m_f0 F a) (m_pl F a) i)))) → f_Rd_framesBegin 24 S q x5 = some (nI 0, x5)) := ⟨fun t => G.1 (fun j h1 _ => t j h1), fun t => G.2 (fun z => t (fun j h1 => z j h1 (by omega)))⟩
  have m54 : y5 58 4 = nI 0 := m5.2.2.1
  have hen : m_en F a ≤ n := by
    have e : m_en F a = fr F (m_f0 F a) (m_pl F a) (m_fc F a) := rfl
    by_cases c : m_fc F a = 0
    · rw [e, c]; exact r3
    · have t := (ok5 (m_fc F a - 1) (by omega)).2.2.2.2.2
      rw [e, show m_fc F a = m_fc F a - 1 + 1 by omega, fr_succ]
      omega
  by_cases t1 : ∀ i, i < m_fc F a → BgI F (m_cd F a) N (nI (F (fr F (m_f0 F a) (m_pl F a) i)))
  · by_cases t2 : TgOK F (m_cd F a) N
    · refine ⟨x5, y5, A5', B5', ?_, Or.inl ⟨N, ?_, ⟨ok1, ok2, t2, b3.2, fun i hi => ⟨(ok5 i hi).1, (ok5 i hi).2, t1 i hi⟩, by omega, hen⟩, ⟨hd5, q7, at5⟩, c5, m5, p5⟩⟩
      · rw [K5, z_p1 t1]
        have u := U'.1 t2
        simp (disch := omega) only [nA, nS, nM, nLT, nLF, nTT, nTF, nEF, nET, nBT, nBF, nC, nNG, nNL, jj_b1, jj_b2, js, jn, eq_self, if_true, if_false, ite_true, ite_false, ↓reduceIte, and_self, true_and, and_true, zb0, zb1, bM, bR, bCk, bMa, Bool.false_eq_true, Bool.and_self, Bool.and_true, Bool.true_and, li_0, li_1, li_2, li_3, li_4, li_5, li_6, li_7, li_8, li_16, li_18, li_21, li_25, li_46, li_54, li_58, li_60, li_79, li_87, li_89, li_95, li_96, li_100, li_104, li_108, li_116, li_127, li_128, li_132, li_153, li_158, li_159, li_164, li_167, li_172, li_176, li_177, li_184, li_188, li_190, li_198, li_199, li_200, li_202, li_240, li_255, li_256, li_32767, li_32768, li_65536, k_Mo_readMethod_204, m54, u, jj_set_id m54]
      · have u := T'.1 t2
        have v := G'.1 t1
        unfold f_Rd_readsMethod
        simp (disch := omega) only [nA, nS, nM, nLT, nLF, nTT, nTF, nEF, nET, nBT, nBF, nC, nNG, nNL, jj_b1, jj_b2, js, jn, eq_self, if_true, if_false, ite_true, ite_false, ↓reduceIte, and_self, true_and, and_true, zb0, zb1, bM, bR, bCk, bMa, Bool.false_eq_true, Bool.and_self, Bool.and_true, Bool.true_and, li_0, li_1, li_2, li_3, li_4, li_5, li_6, li_7, li_8, li_16, li_18, li_21, li_25, li_46, li_54, li_58, li_60, li_79, li_87, li_89, li_95, li_96, li_100, li_104, li_108, li_116, li_127, li_128, li_132, li_153, li_158, li_159, li_164, li_167, li_172, li_176, li_177, li_184, li_188, li_190, li_198, li_199, li_200, li_202, li_240, li_255, li_256, li_32767, li_32768, li_65536, e1, e2, e5, u, v]
    · have hm : MF (m_en F a) (jj_set y5 58 4 (nI 1)) := ⟨by rw [jn (by omega)]; exact m5.1, js _ _ _ _⟩
      refine ⟨x5, jj_set y5 58 4 (nI 1), A5', B5'.set _ (by omega), ?_, Or.inr ⟨m_en F a, p5, ?_, c5.1, hm⟩⟩
      · rw [K5, z_p1 t1]
        have u := U'.2 t2
        simp (disch := omega) only [nA, nS, nM, nLT, nLF, nTT, nTF, nEF, nET, nBT, nBF, nC, nNG, nNL, jj_b1, jj_b2, js, jn, eq_self, if_true, if_false, ite_true, ite_false, ↓reduceIte, and_self, true_and, and_true, zb0, zb1, bM, bR, bCk, bMa, Bool.false_eq_true, Bool.and_self, Bool.and_true, Bool.true_and, li_0, li_1, li_2, li_3, li_4, li_5, li_6, li_7, li_8, li_16, li_18, li_21, li_25, li_46, li_54, li_58, li_60, li_79, li_87, li_89, li_95, li_96, li_100, li_104, li_108, li_116, li_127, li_128, li_132, li_153, li_158, li_159, li_164, li_167, li_172, li_176, li_177, li_184, li_188, li_190, li_198, li_199, li_200, li_202, li_240, li_255, li_256, li_32767, li_32768, li_65536, k_Mo_readMethod_204, k_Mo_readMethod_228, m54, u]
      · have u := T'.2 t2
        unfold f_Rd_readsMethod
        simp (disch := omega) only [nA, nS, nM, nLT, nLF, nTT, nTF, nEF, nET, nBT, nBF, nC, nNG, nNL, jj_b1, jj_b2, js, jn, eq_self, if_true, if_false, ite_true, ite_false, ↓reduceIte, and_self, true_and, and_true, zb0, zb1, bM, bR, bCk, bMa, Bool.false_eq_true, Bool.and_self, Bool.and_true, Bool.true_and, li_0, li_1, li_2, li_3, li_4, li_5, li_6, li_7, li_8, li_16, li_18, li_21, li_25, li_46, li_54, li_58, li_60, li_79, li_87, li_89, li_95, li_96, li_100, li_104, li_108, li_116, li_127, li_128, li_132, li_153, li_158, li_159, li_164, li_167, li_172, li_176, li_177, li_184, li_188, li_190, li_198, li_199, li_200, li_202, li_240, li_255, li_256, li_32767, li_32768, li_65536, e1, e2, e5, u]
  · have hm : MF (m_en F a) (jj_set y5 58 4 (nI 1)) := ⟨by rw [jn (by omega)]; exact m5.1, js _ _ _ _⟩
    refine ⟨x5, jj_set y5 58 4 (nI 1), A5', B5'.set _ (by omega), ?_, Or.inr ⟨m_en F a, p5, ?_, c5.1, hm⟩⟩
    · rw [K5, z_p0 t1]
      simp (disch := omega) only [nA, nS, nM, nLT, nLF, nTT, nTF, nEF, nET, nBT, nBF, nC, nNG, nNL, jj_b1, jj_b2, js, jn, eq_self, if_true, if_false, ite_true, ite_false, ↓reduceIte, and_self, true_and, and_true, zb0, zb1, bM, bR, bCk, bMa, Bool.false_eq_true, Bool.and_self, Bool.and_true, Bool.true_and, li_0, li_1, li_2, li_3, li_4, li_5, li_6, li_7, li_8, li_16, li_18, li_21, li_25, li_46, li_54, li_58, li_60, li_79, li_87, li_89, li_95, li_96, li_100, li_104, li_108, li_116, li_127, li_128, li_132, li_153, li_158, li_159, li_164, li_167, li_172, li_176, li_177, li_184, li_188, li_190, li_198, li_199, li_200, li_202, li_240, li_255, li_256, li_32767, li_32768, li_65536, k_Mo_readMethod_204, k_Mo_readMethod_228, m54]
    · by_cases t2 : TgOK F (m_cd F a) N
      · have u := T'.1 t2
        have v := G'.2 t1
        unfold f_Rd_readsMethod
        simp (disch := omega) only [nA, nS, nM, nLT, nLF, nTT, nTF, nEF, nET, nBT, nBF, nC, nNG, nNL, jj_b1, jj_b2, js, jn, eq_self, if_true, if_false, ite_true, ite_false, ↓reduceIte, and_self, true_and, and_true, zb0, zb1, bM, bR, bCk, bMa, Bool.false_eq_true, Bool.and_self, Bool.and_true, Bool.true_and, li_0, li_1, li_2, li_3, li_4, li_5, li_6, li_7, li_8, li_16, li_18, li_21, li_25, li_46, li_54, li_58, li_60, li_79, li_87, li_89, li_95, li_96, li_100, li_104, li_108, li_116, li_127, li_128, li_132, li_153, li_158, li_159, li_164, li_167, li_172, li_176, li_177, li_184, li_188, li_190, li_198, li_199, li_200, li_202, li_240, li_255, li_256, li_32767, li_32768, li_65536, e1, e2, e5, u, v]
      · have u := T'.2 t2
        unfold f_Rd_readsMethod
        simp (disch := omega) only [nA, nS, nM, nLT, nLF, nTT, nTF, nEF, nET, nBT, nBF, nC, nNG, nNL, jj_b1, jj_b2, js, jn, eq_self, if_true, if_false, ite_true, ite_false, ↓reduceIte, and_self, true_and, and_true, zb0, zb1, bM, bR, bCk, bMa, Bool.false_eq_true, Bool.and_self, Bool.and_true, Bool.true_and, li_0, li_1, li_2, li_3, li_4, li_5, li_6, li_7, li_8, li_16, li_18, li_21, li_25, li_46, li_54, li_58, li_60, li_79, li_87, li_89, li_95, li_96, li_100, li_104, li_108, li_116, li_127, li_128, li_132, li_153, li_158, li_159, li_164, li_167, li_172, li_176, li_177, li_184, li_188, li_190, li_198, li_199, li_200, li_202, li_240, li_255, li_256, li_32767, li_32768, li_65536, e1, e2, e5, u]
end METHOD
