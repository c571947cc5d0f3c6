/-! PURE: reading a method's frames in step -/
noncomputable def z_p (P : Prop) : Nat := @ite Nat P (Classical.propDecidable P) 1 0
theorem z_p1 {P : Prop} (h : P) : z_p P = 1 := if_pos h
theorem z_p0 {P : Prop} (h : ¬ P) : z_p P = 0 := if_neg h
theorem z_ple (P : Prop) : z_p P ≤ 1 := by
  by_cases h : P
  · rw [z_p1 h]; omega
  · rw [z_p0 h]; omega
/-- where frame k lies; p0: the first one's place -/
def fr (F : Nat → Nat) (p0 pl : Nat) : Nat → Nat
  | 0 => p0
  | k + 1 => fr F p0 pl k + 2 + pl + F (fr F p0 pl k + 1 + pl)
theorem fr_succ (F : Nat → Nat) (p0 pl k : Nat) : fr F p0 pl (k + 1) = fr F p0 pl k + 2 + pl + F (fr F p0 pl k + 1 + pl) := rfl
/-- the frame at p is as the grammar asks -/
def FrOK (F : Nat → Nat) (n ln pl dp p : Nat) : Prop := F p < ln ∧ (∀ i, i < pl → F (p + 1 + i) ≤ 3) ∧ F (p + 1 + pl) ≤ dp ∧ (∀ i, i < F (p + 1 + pl) → 1 ≤ F (p + 2 + pl + i) ∧ F (p + 2 + pl + i) ≤ 3) ∧ p + 2 + pl + F (p + 1 + pl) ≤ n
def frlo (F : Nat → Nat) (p0 pl : Nat) : Nat → Nat
  | 0 => 0
  | k + 1 => F (fr F p0 pl k) + 1
theorem mf_113 {b f : Nat} {y : jj_Mem} (h : MF b y) (hf : 1 ≤ f) (v5 v6 v7 v8 v9 v10 v11 v12 : Int32) : g_Mo_readMethod f 113 [some (.ref 58), none, none, none, none, some (.int v5), some (.int v6), some (.int v7), some (.int v8), some (.int v9), some (.int v10), some (.int v11), some (.int v12), none] y = some y := by
  obtain ⟨f, rfl⟩ : ∃ g, f = g + 1 := ⟨f - 1, by omega⟩
  have e := h.2
  rw [show g_Mo_readMethod (f + 1) 113 [some (.ref 58), none, none, none, none, some (.int v5), some (.int v6), some (.int v7), some (.int v8), some (.int v9), some (.int v10), some (.int v11), some (.int v12), none] y = k_Mo_readMethod_113 (g_Mo_readMethod f) 58 v5 v6 v7 v8 v9 v10 v11 v12 y from rfl]
  by_cases c : v9 ≤ v12
  · simp (disch := omega) only [nA, nS, nM, nLT, nLF, nTT, nTF, nEF, nET, nBT, nBF, nC, nNF, jj_b1, jj_b2, js, jn, eq_self, if_true, if_false, ite_true, ite_false, ↓reduceIte, and_self, true_and, and_true, zb0, zb1, bM, bR, bCk, bMa, Bool.false_eq_true, Bool.and_self, Bool.and_true, Bool.true_and, li_0, li_1, li_2, li_3, li_4, li_5, li_6, li_7, li_8, li_16, li_18, li_21, li_25, li_46, li_54, li_58, li_60, li_79, li_87, li_89, li_95, li_96, li_100, li_104, li_108, li_116, li_127, li_128, li_132, li_153, li_158, li_159, li_164, li_167, li_172, li_176, li_177, li_184, li_188, li_190, li_198, li_199, li_200, li_202, li_240, li_255, li_256, li_32767, li_32768, li_65536, k_Mo_readMethod_113, k_Mo_readMethod_204, k_Mo_readMethod_228, e, jj_set_id e, c]
  · simp (disch := omega) only [nA, nS, nM, nLT, nLF, nTT, nTF, nEF, nET, nBT, nBF, nC, nNF, jj_b1, jj_b2, js, jn, eq_self, if_true, if_false, ite_true, ite_false, ↓reduceIte, and_self, true_and, and_true, zb0, zb1, bM, bR, bCk, bMa, Bool.false_eq_true, Bool.and_self, Bool.and_true, Bool.true_and, li_0, li_1, li_2, li_3, li_4, li_5, li_6, li_7, li_8, li_16, li_18, li_21, li_25, li_46, li_54, li_58, li_60, li_79, li_87, li_89, li_95, li_96, li_100, li_104, li_108, li_116, li_127, li_128, li_132, li_153, li_158, li_159, li_164, li_167, li_172, li_176, li_177, li_184, li_188, li_190, li_198, li_199, li_200, li_202, li_240, li_255, li_256, li_32767, li_32768, li_65536, k_Mo_readMethod_113, k_Mo_readMethod_204, k_Mo_readMethod_228, e, jj_set_id e, c]
abbrev WFr (q : Nat) (i k : Nat) : Prop := (i = 24 ∧ k ≤ 1) ∨ i = q + 1
theorem Same.afr {q : Nat} {x y : jj_Mem} (h : Same WA x y) : Same (WFr q) x y := h.mono (fun i k z => Or.inl z)
section FRAMES
variable {S n cd ln q cc mc pl dp p0 N fc : Nat} {F : Nat → Nat}
theorem two_frames_g (hS : o_Pr S) (hF : By F n) (hq : o_Me q) (hqS : S + 3 ≤ q ∧ q < 23) (hC : CodeOK F cd ln cc mc pl N) (hl1 : 1 ≤ ln) (hln : ln ≤ 60) (hn : cd + ln ≤ n) (hpl : pl ≤ 6) (hdp : dp ≤ 6) (hfc : fc ≤ 8) : ∀ (r k f f' g : Nat) (l10 : Int32) (x y : jj_Mem), k + r = fc → r < f → r + 1 < f' → g = z_p (∀ i, i < k → BgI F cd N (nI (F (fr F p0 pl i)))) → l10 + nI 1 = nI (frlo F p0 pl k) → fr F p0 pl k ≤ 240 → frlo F p0 pl k ≤ 300 → x q 3 = nI dp → x q 4 = nI pl → x q 6 = nI ln → x q 7 = nI fc → (∀ i, i < k → x (q + 1) i = nI (fr F p0 pl i)) → (∀ i, i < k → frlo F p0 pl i ≤ F (fr F p0 pl i) ∧ FrOK F n ln pl dp (fr F p0 pl i)) → Cl S F n (fr F p0 pl k) x → Mr F n (fr F p0 pl k) y → ∃ x' y', Same (WFr q) x x' ∧ Same WM y y' ∧
    ((g_Rd_readsFrames f 26 [some (.ref 24), some (.ref S), some (.ref q), some (.int (nI (frlo F p0 pl k))), some (.int (nI k))] x = some (nI 1, x') ∧ (∀ i, i < fc → x' (q + 1) i = nI (fr F p0 pl i)) ∧ (∀ i, i < fc → frlo F p0 pl i ≤ F (fr F p0 pl i) ∧ FrOK F n ln pl dp (fr F p0 pl i)) ∧ Cl S F n (fr F p0 pl fc) x' ∧ Mr F n (fr F p0 pl fc) y' ∧ fr F p0 pl fc ≤ 240 ∧
      ∃ f'', g_Mo_readMethod f' 113 [some (.ref 58), none, none, none, none, some (.int (nI dp)), some (.int (nI pl)), some (.int (nI ln)), some (.int (nI cd)), some (.int (nI fc)), some (.int l10), some (.int (nI g)), some (.int (nI k)), none] y = k_Mo_readMethod_204 (g_Mo_readMethod f'') 58 (nI ln) (nI cd) (nI (z_p (∀ i, i < fc → BgI F cd N (nI (F (fr F p0 pl i)))))) y') ∨
     (∃ b, b ≤ 240 ∧ g_Rd_readsFrames f 26 [some (.ref 24), some (.ref S), some (.ref q), some (.int (nI (frlo F p0 pl k))), some (.int (nI k))] x = some (nI 0, x') ∧ x' 24 0 = nI b ∧ MF b y' ∧ g_Mo_readMethod f' 113 [some (.ref 58), none, none, none, none, some (.int (nI dp)), some (.int (nI pl)), some (.int (nI ln)), some (.int (nI cd)), some (.int (nI fc)), some (.int l10), some (.int (nI g)), some (.int (nI k)), none] y = some y')) := by
  have h240 := hF.1
  have hS2 := oc_Pr hS
  have bS : bo_Pr S = true := hS
  have bq : bo_Me q = true := hq
  intro r
  induction r with
  | zero =>
    intro k f f' g l10 x y hk hf hf' hg hl10 hfr hlo h3 h4 h6 h7 hat hok h h'
    obtain ⟨f, rfl⟩ : ∃ g, f = g + 1 := ⟨f - 1, by omega⟩
    obtain ⟨f', rfl⟩ : ∃ g, f' = g + 1 := ⟨f' - 1, by omega⟩
    have e : k = fc := by omega
    subst e
    refine ⟨x, y, Same.refl x, Same.refl y, Or.inl ⟨?_, hat, hok, h, h', hfr, f', ?_⟩⟩
    · simp (disch := omega) only [nA, nS, nM, nLT, nLF, nTT, nTF, nEF, nET, nBT, nBF, nC, nNF, jj_b1, jj_b2, js, jn, eq_self, if_true, if_false, ite_true, ite_false, ↓reduceIte, and_self, true_and, and_true, zb0, zb1, bM, bR, bCk, bMa, Bool.false_eq_true, Bool.and_self, Bool.and_true, Bool.true_and, li_0, li_1, li_2, li_3, li_4, li_5, li_6, li_7, li_8, li_16, li_18, li_21, li_25, li_46, li_54, li_58, li_60, li_79, li_87, li_89, li_95, li_96, li_100, li_104, li_108, li_116, li_127, li_128, li_132, li_153, li_158, li_159, li_164, li_167, li_172, li_176, li_177, li_184, li_188, li_190, li_198, li_199, li_200, li_202, li_240, li_255, li_256, li_32767, li_32768, li_65536, g_Rd_readsFrames, k_Rd_readsFrames_26, bS, bq, h7]
    · rw [← hg]
      simp (disch := omega) only [nA, nS, nM, nLT, nLF, nTT, nTF, nEF, nET, nBT, nBF, nC, nNF, jj_b1, jj_b2, js, jn, eq_self, if_true, if_false, ite_true, ite_false, ↓reduceIte, and_self, true_and, and_true, zb0, zb1, bM, bR, bCk, bMa, Bool.false_eq_true, Bool.and_self, Bool.and_true, Bool.true_and, li_0, li_1, li_2, li_3, li_4, li_5, li_6, li_7, li_8, li_16, li_18, li_21, li_25, li_46, li_54, li_58, li_60, li_79, li_87, li_89, li_95, li_96, li_100, li_104, li_108, li_116, li_127, li_128, li_132, li_153, li_158, li_159, li_164, li_167, li_172, li_176, li_177, li_184, li_188, li_190, li_198, li_199, li_200, li_202, li_240, li_255, li_256, li_32767, li_32768, li_65536, g_Mo_readMethod, k_Mo_readMethod_113]
  | succ r ih =>
    intro k f f' g l10 x y hk hf hf' hg hl10 hfr hlo h3 h4 h6 h7 hat hok h h'
    obtain ⟨f, rfl⟩ : ∃ g, f = g + 1 := ⟨f - 1, by omega⟩
    obtain ⟨f', rfl⟩ : ∃ g, f' = g + 1 := ⟨f' - 1, by omega⟩
    have hg1 : g ≤ 1 := by rw [hg]; exact z_ple _
    have C0 := h.1
    have M0 : y 58 4 = nI 0 := h'.2.2.1
    have U : g_Rd_readsFrames (f + 1) 26 [some (.ref 24), some (.ref S), some (.ref q), some (.int (nI (frlo F p0 pl k))), some (.int (nI k))] x = k_Rd_readsFrames_26 (g_Rd_readsFrames f) 24 S q (nI (frlo F p0 pl k)) (nI k) x := by
      rw [show g_Rd_readsFrames (f + 1) 26 [some (.ref 24), some (.ref S), some (.ref q), some (.int (nI (frlo F p0 pl k))), some (.int (nI k))] x = if (bo_Rd 24 && bo_Pr S && bo_Me q) = true then k_Rd_readsFrames_26 (g_Rd_readsFrames f) 24 S q (nI (frlo F p0 pl k)) (nI k) x else none from rfl]
      simp (disch := omega) only [nA, nS, nM, nLT, nLF, nTT, nTF, nEF, nET, nBT, nBF, nC, nNF, jj_b1, jj_b2, js, jn, eq_self, if_true, if_false, ite_true, ite_false, ↓reduceIte, and_self, true_and, and_true, zb0, zb1, bM, bR, bCk, bMa, Bool.false_eq_true, Bool.and_self, Bool.and_true, Bool.true_and, li_0, li_1, li_2, li_3, li_4, li_5, li_6, li_7, li_8, li_16, li_18, li_21, li_25, li_46, li_54, li_58, li_60, li_79, li_87, li_89, li_95, li_96, li_100, li_104, li_108, li_116, li_127, li_128, li_132, li_153, li_158, li_159, li_164, li_167, li_172, li_176, li_177, li_184, li_188, li_190, li_198, li_199, li_200, li_202, li_240, li_255, li_256, li_32767, li_32768, li_65536, bS, bq]
    have V : g_Mo_readMethod (f' + 1) 113 [some (.ref 58), none, none, none, none, some (.int (nI dp)), some (.int (nI pl)), some (.int (nI ln)), some (.int (nI cd)), some (.int (nI fc)), some (.int l10), some (.int (nI g)), some (.int (nI k)), none] y = k_Mo_readMethod_113 (g_Mo_readMethod f') 58 (nI dp) (nI pl) (nI ln) (nI cd) (nI fc) l10 (nI g) (nI k) y := rfl
    rw [U, V]
    have c0 : Cl S F n (fr F p0 pl k) (jj_set x (q + 1) k (nI (fr F p0 pl k))) := Cl_q hS h (by omega) _
    obtain ⟨x1, y1, A1, B1, H1⟩ := two_next hS hF hfr c0 h' (nI (frlo F p0 pl k)) (nI (ln - 1))
    have A1' : Same (WFr q) x x1 := ((Same.refl x).set _ (by omega)).trans A1.afr
    rcases H1 with ⟨n1, e1, l1, c1, d1, m1, p1, r1, s1⟩ | ⟨e1, l1, d1, m1⟩
    rotate_left
    · refine ⟨x1, y1, A1', B1, Or.inr ⟨fr F p0 pl k, hfr, ?_, l1, m1, ?_⟩⟩
      · simp (disch := omega) only [nA, nS, nM, nLT, nLF, nTT, nTF, nEF, nET, nBT, nBF, nC, nNF, jj_b1, jj_b2, js, jn, eq_self, if_true, if_false, ite_true, ite_false, ↓reduceIte, and_self, true_and, and_true, zb0, zb1, bM, bR, bCk, bMa, Bool.false_eq_true, Bool.and_self, Bool.and_true, Bool.true_and, li_0, li_1, li_2, li_3, li_4, li_5, li_6, li_7, li_8, li_16, li_18, li_21, li_25, li_46, li_54, li_58, li_60, li_79, li_87, li_89, li_95, li_96, li_100, li_104, li_108, li_116, li_127, li_128, li_132, li_153, li_158, li_159, li_164, li_167, li_172, li_176, li_177, li_184, li_188, li_190, li_198, li_199, li_200, li_202, li_240, li_255, li_256, li_32767, li_32768, li_65536, k_Rd_readsFrames_26, h7, h6, C0, e1]
      · have T := fun v9 v10 v11 v12 => mf_113 m1 (f := f') (by omega) (nI dp) (nI pl) (nI ln) (nI cd) v9 v10 v11 v12
        have m12 := m1.2
        have sk := mf_skip m1 (nI 0) (nI 3) (N := pl) (by omega)
        have sk2 := mf_skip m1 (nI 1) (nI 3) (N := 0) (by omega)
        by_cases c : g = 0
        · subst c
          simp (disch := omega) only [nA, nS, nM, nLT, nLF, nTT, nTF, nEF, nET, nBT, nBF, nC, nNF, jj_b1, jj_b2, js, jn, eq_self, if_true, if_false, ite_true, ite_false, ↓reduceIte, and_self, true_and, and_true, zb0, zb1, bM, bR, bCk, bMa, Bool.false_eq_true, Bool.and_self, Bool.and_true, Bool.true_and, li_0, li_1, li_2, li_3, li_4, li_5, li_6, li_7, li_8, li_16, li_18, li_21, li_25, li_46, li_54, li_58, li_60, li_79, li_87, li_89, li_95, li_96, li_100, li_104, li_108, li_116, li_127, li_128, li_132, li_153, li_158, li_159, li_164, li_167, li_172, li_176, li_177, li_184, li_188, li_190, li_198, li_199, li_200, li_202, li_240, li_255, li_256, li_32767, li_32768, li_65536, k_Mo_readMethod_113, M0, hl10, d1, k_Mo_readMethod_170, k_Mo_readMethod_171, sk, mf_next m1, sk2, T]
        · simp (disch := omega) only [nA, nS, nM, nLT, nLF, nTT, nTF, nEF, nET, nBT, nBF, nC, nNF, jj_b1, jj_b2, js, jn, eq_self, if_true, if_false, ite_true, ite_false, ↓reduceIte, and_self, true_and, and_true, zb0, zb1, bM, bR, bCk, bMa, Bool.false_eq_true, Bool.and_self, Bool.and_true, Bool.true_and, li_0, li_1, li_2, li_3, li_4, li_5, li_6, li_7, li_8, li_16, li_18, li_21, li_25, li_46, li_54, li_58, li_60, li_79, li_87, li_89, li_95, li_96, li_100, li_104, li_108, li_116, li_127, li_128, li_132, li_153, li_158, li_159, li_164, li_167, li_172, li_176, li_177, li_184, li_188, li_190, li_198, li_199, li_200, li_202, li_240, li_255, li_256, li_32767, li_32768, li_65536, k_Mo_readMethod_113, M0, hl10, d1, m12, k_Mo_readMethod_166, k_Mo_readMethod_171, sk, mf_next m1, sk2, T]
    have b1 := nx_nat hF (by omega) (by omega) n1
    -- what the reference finds of the frame's offset
    have gg : ∃ g', g' = z_p (∀ i, i < k + 1 → BgI F cd N (nI (F (fr F p0 pl i)))) ∧ k_Mo_readMethod_113 (g_Mo_readMethod f') 58 (nI dp) (nI pl) (nI ln) (nI cd) (nI fc) l10 (nI g) (nI k) y = k_Mo_readMethod_171 (g_Mo_readMethod f') 58 (nI dp) (nI pl) (nI ln) (nI cd) (nI fc) (nI (F (fr F p0 pl k))) (nI k) (nI g') y1 := by
      have m14 : y1 58 4 = nI 0 := m1.2.2.1
      have R := mo_begins hF hC hl1 hln hn m1.2.2.2 (nI (F (fr F p0 pl k)))
      by_cases c : g = 0
      · refine ⟨0, ?_, ?_⟩
        · rw [z_p0]
          intro hall
          rw [z_p1 (fun i hi => hall i (by omega))] at hg
          omega
        · simp (disch := omega) only [nA, nS, nM, nLT, nLF, nTT, nTF, nEF, nET, nBT, nBF, nC, nNF, jj_b1, jj_b2, js, jn, eq_self, if_true, if_false, ite_true, ite_false, ↓reduceIte, and_self, true_and, and_true, zb0, zb1, bM, bR, bCk, bMa, Bool.false_eq_true, Bool.and_self, Bool.and_true, Bool.true_and, li_0, li_1, li_2, li_3, li_4, li_5, li_6, li_7, li_8, li_16, li_18, li_21, li_25, li_46, li_54, li_58, li_60, li_79, li_87, li_89, li_95, li_96, li_100, li_104, li_108, li_116, li_127, li_128, li_132, li_153, li_158, li_159, li_164, li_167, li_172, li_176, li_177, li_184, li_188, li_190, li_198, li_199, li_200, li_202, li_240, li_255, li_256, li_32767, li_32768, li_65536, k_Mo_readMethod_113, M0, hl10, d1, k_Mo_readMethod_170]
      · have hall : ∀ i, i < k → BgI F cd N (nI (F (fr F p0 pl i))) := by
          apply Classical.byContradiction
          intro hc
          rw [z_p0 hc] at hg
          exact c hg
        by_cases c2 : BgI F cd N (nI (F (fr F p0 pl k)))
        · have R1 := R.1 c2
          refine ⟨1, ?_, ?_⟩
          · rw [z_p1]
            intro i hi
            by_cases c3 : i = k
            · rw [c3]; exact c2
            · exact hall i (by omega)
          · simp (disch := omega) only [nA, nS, nM, nLT, nLF, nTT, nTF, nEF, nET, nBT, nBF, nC, nNF, jj_b1, jj_b2, js, jn, eq_self, if_true, if_false, ite_true, ite_false, ↓reduceIte, and_self, true_and, and_true, zb0, zb1, bM, bR, bCk, bMa, Bool.false_eq_true, Bool.and_self, Bool.and_true, Bool.true_and, li_0, li_1, li_2, li_3, li_4, li_5, li_6, li_7, li_8, li_16, li_18, li_21, li_25, li_46, li_54, li_58, li_60, li_79, li_87, li_89, li_95, li_96, li_100, li_104, li_108, li_116, li_127, li_128, li_132, li_153, li_158, li_159, li_164, li_167, li_172, li_176, li_177, li_184, li_188, li_190, li_198, li_199, li_200, li_202, li_240, li_255, li_256, li_32767, li_32768, li_65536, k_Mo_readMethod_113, M0, hl10, d1, m14, R1, k_Mo_readMethod_166]
        · have R1 := R.2 c2
          refine ⟨0, ?_, ?_⟩
          · rw [z_p0 (fun hc => c2 (hc k (by omega)))]
          · simp (disch := omega) only [nA, nS, nM, nLT, nLF, nTT, nTF, nEF, nET, nBT, nBF, nC, nNF, jj_b1, jj_b2, js, jn, eq_self, if_true, if_false, ite_true, ite_false, ↓reduceIte, and_self, true_and, and_true, zb0, zb1, bM, bR, bCk, bMa, Bool.false_eq_true, Bool.and_self, Bool.and_true, Bool.true_and, li_0, li_1, li_2, li_3, li_4, li_5, li_6, li_7, li_8, li_16, li_18, li_21, li_25, li_46, li_54, li_58, li_60, li_79, li_87, li_89, li_95, li_96, li_100, li_104, li_108, li_116, li_127, li_128, li_132, li_153, li_158, li_159, li_164, li_167, li_172, li_176, li_177, li_184, li_188, li_190, li_198, li_199, li_200, li_202, li_240, li_255, li_256, li_32767, li_32768, li_65536, k_Mo_readMethod_113, M0, hl10, d1, m14, R1, k_Mo_readMethod_170]
    obtain ⟨g', hg', W⟩ := gg
    rw [W]
    have q4 : x1 q 4 = nI pl := by simp (disch := omega) only [nA, nS, nM, nLT, nLF, nTT, nTF, nEF, nET, nBT, nBF, nC, nNF, jj_b1, jj_b2, js, jn, eq_self, if_true, if_false, ite_true, ite_false, ↓reduceIte, and_self, true_and, and_true, zb0, zb1, bM, bR, bCk, bMa, Bool.false_eq_true, Bool.and_self, Bool.and_true, Bool.true_and, li_0, li_1, li_2, li_3, li_4, li_5, li_6, li_7, li_8, li_16, li_18, li_21, li_25, li_46, li_54, li_58, li_60, li_79, li_87, li_89, li_95, li_96, li_100, li_104, li_108, li_116, li_127, li_128, li_132, li_153, li_158, li_159, li_164, li_167, li_172, li_176, li_177, li_184, li_188, li_190, li_198, li_199, li_200, li_202, li_240, li_255, li_256, li_32767, li_32768, li_65536, A1.get, h4]
    have q3 : x1 q 3 = nI dp := by simp (disch := omega) only [nA, nS, nM, nLT, nLF, nTT, nTF, nEF, nET, nBT, nBF, nC, nNF, jj_b1, jj_b2, js, jn, eq_self, if_true, if_false, ite_true, ite_false, ↓reduceIte, and_self, true_and, and_true, zb0, zb1, bM, bR, bCk, bMa, Bool.false_eq_true, Bool.and_self, Bool.and_true, Bool.true_and, li_0, li_1, li_2, li_3, li_4, li_5, li_6, li_7, li_8, li_16, li_18, li_21, li_25, li_46, li_54, li_58, li_60, li_79, li_87, li_89, li_95, li_96, li_100, li_104, li_108, li_116, li_127, li_128, li_132, li_153, li_158, li_159, li_164, li_167, li_172, li_176, li_177, li_184, li_188, li_190, li_198, li_199, li_200, li_202, li_240, li_255, li_256, li_32767, li_32768, li_65536, A1.get, h3]
    obtain ⟨x2, y2, A2, B2, D2, H2⟩ := two_ones hS hF p1 c1 m1 (nI 0) (nI 3) (c := pl) (by omega)
    rcases H2 with ⟨e2, n2, c2, m2, p2⟩ | ⟨b, hb, e2, l2, m2⟩
    rotate_left
    · refine ⟨x2, y2, A1'.trans A2.afr, B1.trans B2, Or.inr ⟨b, hb, ?_, l2, m2, ?_⟩⟩
      · simp (disch := omega) only [nA, nS, nM, nLT, nLF, nTT, nTF, nEF, nET, nBT, nBF, nC, nNF, jj_b1, jj_b2, js, jn, eq_self, if_true, if_false, ite_true, ite_false, ↓reduceIte, and_self, true_and, and_true, zb0, zb1, bM, bR, bCk, bMa, Bool.false_eq_true, Bool.and_self, Bool.and_true, Bool.true_and, li_0, li_1, li_2, li_3, li_4, li_5, li_6, li_7, li_8, li_16, li_18, li_21, li_25, li_46, li_54, li_58, li_60, li_79, li_87, li_89, li_95, li_96, li_100, li_104, li_108, li_116, li_127, li_128, li_132, li_153, li_158, li_159, li_164, li_167, li_172, li_176, li_177, li_184, li_188, li_190, li_198, li_199, li_200, li_202, li_240, li_255, li_256, li_32767, li_32768, li_65536, k_Rd_readsFrames_26, h7, h6, C0, e1, q4, e2]
      · have T := fun v9 v10 v11 v12 => mf_113 m2 (f := f') (by omega) (nI dp) (nI pl) (nI ln) (nI cd) v9 v10 v11 v12
        have sk2 := mf_skip m2 (nI 1) (nI 3) (N := 0) (by omega)
        simp (disch := omega) only [nA, nS, nM, nLT, nLF, nTT, nTF, nEF, nET, nBT, nBF, nC, nNF, jj_b1, jj_b2, js, jn, eq_self, if_true, if_false, ite_true, ite_false, ↓reduceIte, and_self, true_and, and_true, zb0, zb1, bM, bR, bCk, bMa, Bool.false_eq_true, Bool.and_self, Bool.and_true, Bool.true_and, li_0, li_1, li_2, li_3, li_4, li_5, li_6, li_7, li_8, li_16, li_18, li_21, li_25, li_46, li_54, li_58, li_60, li_79, li_87, li_89, li_95, li_96, li_100, li_104, li_108, li_116, li_127, li_128, li_132, li_153, li_158, li_159, li_164, li_167, li_172, li_176, li_177, li_184, li_188, li_190, li_198, li_199, li_200, li_202, li_240, li_255, li_256, li_32767, li_32768, li_65536, k_Mo_readMethod_171, D2, mf_next m2, sk2, T]
    have q23 : x2 q 3 = nI dp := by simp (disch := omega) only [nA, nS, nM, nLT, nLF, nTT, nTF, nEF, nET, nBT, nBF, nC, nNF, jj_b1, jj_b2, js, jn, eq_self, if_true, if_false, ite_true, ite_false, ↓reduceIte, and_self, true_and, and_true, zb0, zb1, bM, bR, bCk, bMa, Bool.false_eq_true, Bool.and_self, Bool.and_true, Bool.true_and, li_0, li_1, li_2, li_3, li_4, li_5, li_6, li_7, li_8, li_16, li_18, li_21, li_25, li_46, li_54, li_58, li_60, li_79, li_87, li_89, li_95, li_96, li_100, li_104, li_108, li_116, li_127, li_128, li_132, li_153, li_158, li_159, li_164, li_167, li_172, li_176, li_177, li_184, li_188, li_190, li_198, li_199, li_200, li_202, li_240, li_255, li_256, li_32767, li_32768, li_65536, A2.get, q3]
    obtain ⟨x3, y3, A3, B3, H3⟩ := two_next hS hF p2 c2 m2 (nI 0) (nI dp)
    rcases H3 with ⟨n3, e3, l3, c3, d3, m3, p3, r3, s3⟩ | ⟨e3, l3, d3, m3⟩
    rotate_left
    · refine ⟨x3, y3, (A1'.trans A2.afr).trans A3.afr, (B1.trans B2).trans B3, Or.inr ⟨_, p2, ?_, l3, m3, ?_⟩⟩
      · simp (disch := omega) only [nA, nS, nM, nLT, nLF, nTT, nTF, nEF, nET, nBT, nBF, nC, nNF, jj_b1, jj_b2, js, jn, eq_self, if_true, if_false, ite_true, ite_false, ↓reduceIte, and_self, true_and, and_true, zb0, zb1, bM, bR, bCk, bMa, Bool.false_eq_true, Bool.and_self, Bool.and_true, Bool.true_and, li_0, li_1, li_2, li_3, li_4, li_5, li_6, li_7, li_8, li_16, li_18, li_21, li_25, li_46, li_54, li_58, li_60, li_79, li_87, li_89, li_95, li_96, li_100, li_104, li_108, li_116, li_127, li_128, li_132, li_153, li_158, li_159, li_164, li_167, li_172, li_176, li_177, li_184, li_188, li_190, li_198, li_199, li_200, li_202, li_240, li_255, li_256, li_32767, li_32768, li_65536, k_Rd_readsFrames_26, h7, h6, C0, e1, q4, e2, q23, e3]
      · have T := fun v9 v10 v11 v12 => mf_113 m3 (f := f') (by omega) (nI dp) (nI pl) (nI ln) (nI cd) v9 v10 v11 v12
        have sk2 := mf_skip m3 (nI 1) (nI 3) (N := 0) (by omega)
        simp (disch := omega) only [nA, nS, nM, nLT, nLF, nTT, nTF, nEF, nET, nBT, nBF, nC, nNF, jj_b1, jj_b2, js, jn, eq_self, if_true, if_false, ite_true, ite_false, ↓reduceIte, and_self, true_and, and_true, zb0, zb1, bM, bR, bCk, bMa, Bool.false_eq_true, Bool.and_self, Bool.and_true, Bool.true_and, li_0, li_1, li_2, li_3, li_4, li_5, li_6, li_7, li_8, li_16, li_18, li_21, li_25, li_46, li_54, li_58, li_60, li_79, li_87, li_89, li_95, li_96, li_100, li_104, li_108, li_116, li_127, li_128, li_132, li_153, li_158, li_159, li_164, li_167, li_172, li_176, li_177, li_184, li_188, li_190, li_198, li_199, li_200, li_202, li_240, li_255, li_256, li_32767, li_32768, li_65536, k_Mo_readMethod_171, D2, d3, sk2, T]
    have b3 := nx_nat hF (by omega) (by omega) n3
    obtain ⟨x4, y4, A4, B4, D4, H4⟩ := two_ones hS hF p3 c3 m3 (nI 1) (nI 3) (c := F (fr F p0 pl k + 1 + pl)) (by omega)
    rcases H4 with ⟨e4, n4, c4, m4, p4⟩ | ⟨b, hb, e4, l4, m4⟩
    rotate_left
    · refine ⟨x4, y4, ((A1'.trans A2.afr).trans A3.afr).trans A4.afr, ((B1.trans B2).trans B3).trans B4, Or.inr ⟨b, hb, ?_, l4, m4, ?_⟩⟩
      · simp (disch := omega) only [nA, nS, nM, nLT, nLF, nTT, nTF, nEF, nET, nBT, nBF, nC, nNF, jj_b1, jj_b2, js, jn, eq_self, if_true, if_false, ite_true, ite_false, ↓reduceIte, and_self, true_and, and_true, zb0, zb1, bM, bR, bCk, bMa, Bool.false_eq_true, Bool.and_self, Bool.and_true, Bool.true_and, li_0, li_1, li_2, li_3, li_4, li_5, li_6, li_7, li_8, li_16, li_18, li_21, li_25, li_46, li_54, li_58, li_60, li_79, li_87, li_89, li_95, li_96, li_100, li_104, li_108, li_116, li_127, li_128, li_132, li_153, li_158, li_159, li_164, li_167, li_172, li_176, li_177, li_184, li_188, li_190, li_198, li_199, li_200, li_202, li_240, li_255, li_256, li_32767, li_32768, li_65536, k_Rd_readsFrames_26, h7, h6, C0, e1, q4, e2, q23, e3, l3, e4]
      · have T := fun v9 v10 v11 v12 => mf_113 m4 (f := f') (by omega) (nI dp) (nI pl) (nI ln) (nI cd) v9 v10 v11 v12
        simp (disch := omega) only [nA, nS, nM, nLT, nLF, nTT, nTF, nEF, nET, nBT, nBF, nC, nNF, jj_b1, jj_b2, js, jn, eq_self, if_true, if_false, ite_true, ite_false, ↓reduceIte, and_self, true_and, and_true, zb0, zb1, bM, bR, bCk, bMa, Bool.false_eq_true, Bool.and_self, Bool.and_true, Bool.true_and, li_0, li_1, li_2, li_3, li_4, li_5, li_6, li_7, li_8, li_16, li_18, li_21, li_25, li_46, li_54, li_58, li_60, li_79, li_87, li_89, li_95, li_96, li_100, li_104, li_108, li_116, li_127, li_128, li_132, li_153, li_158, li_159, li_164, li_167, li_172, li_176, li_177, li_184, li_188, li_190, li_198, li_199, li_200, li_202, li_240, li_255, li_256, li_32767, li_32768, li_65536, k_Mo_readMethod_171, D2, d3, D4, T]
    have Z : fr F p0 pl (k + 1) = fr F p0 pl k + 1 + pl + 1 + F (fr F p0 pl k + 1 + pl) := by rw [fr_succ]; omega
    rw [← Z] at c4 m4 p4
    have A4' : Same (WFr q) x x4 := ((A1'.trans A2.afr).trans A3.afr).trans A4.afr
    have Zn : fr F p0 pl (k + 1) ≤ n := by
      by_cases c : F (fr F p0 pl k + 1 + pl) = 0
      · omega
      · have := (n4 (F (fr F p0 pl k + 1 + pl) - 1) (by omega)).1
        omega
    obtain ⟨x', y', a1, a2, a3⟩ := ih (k + 1) f f' g' (nI (F (fr F p0 pl k))) x4 y4 (by omega) (by omega) (by omega) hg' (by rw [nA]; rfl) p4 (by show F (fr F p0 pl k) + 1 ≤ 300; omega) (by simp (disch := omega) only [nA, nS, nM, nLT, nLF, nTT, nTF, nEF, nET, nBT, nBF, nC, nNF, jj_b1, jj_b2, js, jn, eq_self, if_true, if_false, ite_true, ite_false, ↓reduceIte, and_self, true_and, and_true, zb0, zb1, bM, bR, bCk, bMa, Bool.false_eq_true, Bool.and_self, Bool.and_true, Bool.true_and, li_0, li_1, li_2, li_3, li_4, li_5, li_6, li_7, li_8, li_16, li_18, li_21, li_25, li_46, li_54, li_58, li_60, li_79, li_87, li_89, li_95, li_96, li_100, li_104, li_108, li_116, li_127, li_128, li_132, li_153, li_158, li_159, li_164, li_167, li_172, li_176, li_177, li_184, li_188, li_190, li_198, li_199, li_200, li_202, li_240, li_255, li_256, li_32767, li_32768, li_65536, A4.get, A3.get, q23]) (by simp (disch := omega) only [nA, nS, nM, nLT, nLF, nTT, nTF, nEF, nET, nBT, nBF, nC, nNF, jj_b1, jj_b2, js, jn, eq_self, if_true, if_false, ite_true, ite_false, ↓reduceIte, and_self, true_and, and_true, zb0, zb1, bM, bR, bCk, bMa, Bool.false_eq_true, Bool.and_self, Bool.and_true, Bool.true_and, li_0, li_1, li_2, li_3, li_4, li_5, li_6, li_7, li_8, li_16, li_18, li_21, li_25, li_46, li_54, li_58, li_60, li_79, li_87, li_89, li_95, li_96, li_100, li_104, li_108, li_116, li_127, li_128, li_132, li_153, li_158, li_159, li_164, li_167, li_172, li_176, li_177, li_184, li_188, li_190, li_198, li_199, li_200, li_202, li_240, li_255, li_256, li_32767, li_32768, li_65536, A4.get, A3.get, A2.get, q4]) (by simp (disch := omega) only [nA, nS, nM, nLT, nLF, nTT, nTF, nEF, nET, nBT, nBF, nC, nNF, jj_b1, jj_b2, js, jn, eq_self, if_true, if_false, ite_true, ite_false, ↓reduceIte, and_self, true_and, and_true, zb0, zb1, bM, bR, bCk, bMa, Bool.false_eq_true, Bool.and_self, Bool.and_true, Bool.true_and, li_0, li_1, li_2, li_3, li_4, li_5, li_6, li_7, li_8, li_16, li_18, li_21, li_25, li_46, li_54, li_58, li_60, li_79, li_87, li_89, li_95, li_96, li_100, li_104, li_108, li_116, li_127, li_128, li_132, li_153, li_158, li_159, li_164, li_167, li_172, li_176, li_177, li_184, li_188, li_190, li_198, li_199, li_200, li_202, li_240, li_255, li_256, li_32767, li_32768, li_65536, A4.get, A3.get, A2.get, A1.get, h6]) (by simp (disch := omega) only [nA, nS, nM, nLT, nLF, nTT, nTF, nEF, nET, nBT, nBF, nC, nNF, jj_b1, jj_b2, js, jn, eq_self, if_true, if_false, ite_true, ite_false, ↓reduceIte, and_self, true_and, and_true, zb0, zb1, bM, bR, bCk, bMa, Bool.false_eq_true, Bool.and_self, Bool.and_true, Bool.true_and, li_0, li_1, li_2, li_3, li_4, li_5, li_6, li_7, li_8, li_16, li_18, li_21, li_25, li_46, li_54, li_58, li_60, li_79, li_87, li_89, li_95, li_96, li_100, li_104, li_108, li_116, li_127, li_128, li_132, li_153, li_158, li_159, li_164, li_167, li_172, li_176, li_177, li_184, li_188, li_190, li_198, li_199, li_200, li_202, li_240, li_255, li_256, li_32767, li_32768, li_65536, A4.get, A3.get, A2.get, A1.get, h7]) (fun i hi => by
        rw [A4.get _ _ (by omega), A3.get _ _ (by omega), A2.get _ _ (by omega), A1.get _ _ (by omega)]
        by_cases c : i = k
        · rw [c, js]
        · rw [jn (by omega)]; exact hat i (by omega)) (fun i hi => by
        by_cases c : i = k
        · subst c
          refine ⟨b1.1, by omega, fun j hj => (nx_nat hF (by omega) (by omega) (n2 j hj)).2, b3.2, fun j hj => ?_, by omega⟩
          have := nx_nat hF (by omega) (by omega) (n4 j hj)
          rw [show fr F p0 pl i + 1 + pl + 1 + j = fr F p0 pl i + 2 + pl + j by omega] at this
          exact this
        · exact hok i (by omega)) c4 m4
    have K1 : k_Rd_readsFrames_26 (g_Rd_readsFrames f) 24 S q (nI (frlo F p0 pl k)) (nI k) x = g_Rd_readsFrames f 26 [some (.ref 24), some (.ref S), some (.ref q), some (.int (nI (frlo F p0 pl (k + 1)))), some (.int (nI (k + 1)))] x4 := by
      show _ = g_Rd_readsFrames f 26 [some (.ref 24), some (.ref S), some (.ref q), some (.int (nI (F (fr F p0 pl k) + 1))), some (.int (nI (k + 1)))] x4
      simp (disch := omega) only [nA, nS, nM, nLT, nLF, nTT, nTF, nEF, nET, nBT, nBF, nC, nNF, jj_b1, jj_b2, js, jn, eq_self, if_true, if_false, ite_true, ite_false, ↓reduceIte, and_self, true_and, and_true, zb0, zb1, bM, bR, bCk, bMa, Bool.false_eq_true, Bool.and_self, Bool.and_true, Bool.true_and, li_0, li_1, li_2, li_3, li_4, li_5, li_6, li_7, li_8, li_16, li_18, li_21, li_25, li_46, li_54, li_58, li_60, li_79, li_87, li_89, li_95, li_96, li_100, li_104, li_108, li_116, li_127, li_128, li_132, li_153, li_158, li_159, li_164, li_167, li_172, li_176, li_177, li_184, li_188, li_190, li_198, li_199, li_200, li_202, li_240, li_255, li_256, li_32767, li_32768, li_65536, k_Rd_readsFrames_26, h7, h6, C0, e1, l1, q4, e2, q23, e3, l3, e4]
    have K2 : k_Mo_readMethod_171 (g_Mo_readMethod f') 58 (nI dp) (nI pl) (nI ln) (nI cd) (nI fc) (nI (F (fr F p0 pl k))) (nI k) (nI g') y1 = g_Mo_readMethod f' 113 [some (.ref 58), none, none, none, none, some (.int (nI dp)), some (.int (nI pl)), some (.int (nI ln)), some (.int (nI cd)), some (.int (nI fc)), some (.int (nI (F (fr F p0 pl k)))), some (.int (nI g')), some (.int (nI (k + 1))), none] y4 := by
      simp (disch := omega) only [nA, nS, nM, nLT, nLF, nTT, nTF, nEF, nET, nBT, nBF, nC, nNF, jj_b1, jj_b2, js, jn, eq_self, if_true, if_false, ite_true, ite_false, ↓reduceIte, and_self, true_and, and_true, zb0, zb1, bM, bR, bCk, bMa, Bool.false_eq_true, Bool.and_self, Bool.and_true, Bool.true_and, li_0, li_1, li_2, li_3, li_4, li_5, li_6, li_7, li_8, li_16, li_18, li_21, li_25, li_46, li_54, li_58, li_60, li_79, li_87, li_89, li_95, li_96, li_100, li_104, li_108, li_116, li_127, li_128, li_132, li_153, li_158, li_159, li_164, li_167, li_172, li_176, li_177, li_184, li_188, li_190, li_198, li_199, li_200, li_202, li_240, li_255, li_256, li_32767, li_32768, li_65536, k_Mo_readMethod_171, D2, d3, D4]
    refine ⟨x', y', A4'.trans a1, (((B1.trans B2).trans B3).trans B4).trans a2, ?_⟩
    rw [K1, K2]
    exact a3
theorem rd_framesBegin {x : jj_Mem} (hS : o_Pr S) (hq : o_Me q) (hF : By F n) (hC : CodeOK F cd ln cc mc pl N) (hln : ln ≤ 60) (hfc : fc ≤ 8) (h6 : x q 6 = nI ln) (h7 : x q 7 = nI fc) (hx : ∀ k, k < n → x (S + 1) k = nI (F k)) (hB : BgC F cd N x) (hat : ∀ i, i < fc → x (q + 1) i = nI (fr F p0 pl i)) (hlt : ∀ i, i < fc → fr F p0 pl i < n) : ∀ (r k f : Nat), k + r = fc → r < f →
    ((∀ i, i < fc → k ≤ i → BgI F cd N (nI (F (fr F p0 pl i)))) → g_Rd_framesBegin f 2 [some (.ref 24), some (.ref S), some (.ref q), some (.int (nI k))] x = some (nI 1, x)) ∧
    (¬ (∀ i, i < fc → k ≤ i → BgI F cd N (nI (F (fr F p0 pl i)))) → g_Rd_framesBegin f 2 [some (.ref 24), some (.ref S), some (.ref q), some (.int (nI k))] x = some (nI 0, x)) := by
  have h240 := hF.1
  have bS : bo_Pr S = true := hS
  have bq : bo_Me q = true := hq
  intro r
  induction r with
  | zero =>
    intro k f hk hf
    obtain ⟨f, rfl⟩ : ∃ g, f = g + 1 := ⟨f - 1, by omega⟩
    refine ⟨fun _ => ?_, fun h => absurd (fun j hj hk2 => by omega) h⟩
    simp (disch := omega) only [nA, nS, nM, nLT, nLF, nTT, nTF, nEF, nET, nBT, nBF, nC, nNF, jj_b1, jj_b2, js, jn, eq_self, if_true, if_false, ite_true, ite_false, ↓reduceIte, and_self, true_and, and_true, zb0, zb1, bM, bR, bCk, bMa, Bool.false_eq_true, Bool.and_self, Bool.and_true, Bool.true_and, li_0, li_1, li_2, li_3, li_4, li_5, li_6, li_7, li_8, li_16, li_18, li_21, li_25, li_46, li_54, li_58, li_60, li_79, li_87, li_89, li_95, li_96, li_100, li_104, li_108, li_116, li_127, li_128, li_132, li_153, li_158, li_159, li_164, li_167, li_172, li_176, li_177, li_184, li_188, li_190, li_198, li_199, li_200, li_202, li_240, li_255, li_256, li_32767, li_32768, li_65536, g_Rd_framesBegin, k_Rd_framesBegin_2, bS, bq, h7]
  | succ r ih =>
    intro k f hk hf
    obtain ⟨f, rfl⟩ : ∃ g, f = g + 1 := ⟨f - 1, by omega⟩
    have U : g_Rd_framesBegin (f + 1) 2 [some (.ref 24), some (.ref S), some (.ref q), some (.int (nI k))] x = k_Rd_framesBegin_2 (g_Rd_framesBegin f) 24 S q (nI k) x := by
      rw [show g_Rd_framesBegin (f + 1) 2 [some (.ref 24), some (.ref S), some (.ref q), some (.int (nI k))] x = if (bo_Rd 24 && bo_Pr S && bo_Me q) = true then k_Rd_framesBegin_2 (g_Rd_framesBegin f) 24 S q (nI k) x else none from rfl]
      simp (disch := omega) only [nA, nS, nM, nLT, nLF, nTT, nTF, nEF, nET, nBT, nBF, nC, nNF, jj_b1, jj_b2, js, jn, eq_self, if_true, if_false, ite_true, ite_false, ↓reduceIte, and_self, true_and, and_true, zb0, zb1, bM, bR, bCk, bMa, Bool.false_eq_true, Bool.and_self, Bool.and_true, Bool.true_and, li_0, li_1, li_2, li_3, li_4, li_5, li_6, li_7, li_8, li_16, li_18, li_21, li_25, li_46, li_54, li_58, li_60, li_79, li_87, li_89, li_95, li_96, li_100, li_104, li_108, li_116, li_127, li_128, li_132, li_153, li_158, li_159, li_164, li_167, li_172, li_176, li_177, li_184, li_188, li_190, li_198, li_199, li_200, li_202, li_240, li_255, li_256, li_32767, li_32768, li_65536, bS, bq]
    rw [U]
    have I := ih (k + 1) f (by omega) (by omega)
    have a1 := hat k (by omega)
    have a2 := hlt k (by omega)
    have a3 := hx _ a2
    have R := rd_begins hC hln h6 hB (nI (F (fr F p0 pl k)))
    by_cases c : BgI F cd N (nI (F (fr F p0 pl k)))
    · have R1 := R.1 c
      simp (disch := omega) only [nA, nS, nM, nLT, nLF, nTT, nTF, nEF, nET, nBT, nBF, nC, nNF, jj_b1, jj_b2, js, jn, eq_self, if_true, if_false, ite_true, ite_false, ↓reduceIte, and_self, true_and, and_true, zb0, zb1, bM, bR, bCk, bMa, Bool.false_eq_true, Bool.and_self, Bool.and_true, Bool.true_and, li_0, li_1, li_2, li_3, li_4, li_5, li_6, li_7, li_8, li_16, li_18, li_21, li_25, li_46, li_54, li_58, li_60, li_79, li_87, li_89, li_95, li_96, li_100, li_104, li_108, li_116, li_127, li_128, li_132, li_153, li_158, li_159, li_164, li_167, li_172, li_176, li_177, li_184, li_188, li_190, li_198, li_199, li_200, li_202, li_240, li_255, li_256, li_32767, li_32768, li_65536, k_Rd_framesBegin_2, h7, f_Pr_frameOffset, a1, a3, R1]
      refine ⟨fun h => I.1 (fun i h1 h2 => h i h1 (by omega)), fun h => I.2 (fun g => h (fun i h1 h2 => ?_))⟩
      by_cases c4 : i = k
      · rw [c4]; exact c
      · exact g i h1 (by omega)
    · have R1 := R.2 c
      simp (disch := omega) only [nA, nS, nM, nLT, nLF, nTT, nTF, nEF, nET, nBT, nBF, nC, nNF, jj_b1, jj_b2, js, jn, eq_self, if_true, if_false, ite_true, ite_false, ↓reduceIte, and_self, true_and, and_true, zb0, zb1, bM, bR, bCk, bMa, Bool.false_eq_true, Bool.and_self, Bool.and_true, Bool.true_and, li_0, li_1, li_2, li_3, li_4, li_5, li_6, li_7, li_8, li_16, li_18, li_21, li_25, li_46, li_54, li_58, li_60, li_79, li_87, li_89, li_95, li_96, li_100, li_104, li_108, li_116, li_127, li_128, li_132, li_153, li_158, li_159, li_164, li_167, li_172, li_176, li_177, li_184, li_188, li_190, li_198, li_199, li_200, li_202, li_240, li_255, li_256, li_32767, li_32768, li_65536, k_Rd_framesBegin_2, h7, f_Pr_frameOffset, a1, a3, R1]
      exact ⟨fun h => absurd (h k (by omega) (by omega)) c, fun _ => trivial⟩
end FRAMES
