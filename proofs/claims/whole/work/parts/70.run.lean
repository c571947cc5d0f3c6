/-! PURE: the run to its end, on both sides -/
section RUN
variable {K : Nat → Nat} {n P c mk m h N : Nat} {x y x' y' : jj_Mem}
theorem RR.steps (R : RR K n P c mk x y) (hP : o_Pr P) (hk4 : mcn K ≤ 4) (v w : Int32) : RR K n P c mk (jj_set x 32 1 v) (jj_set y 58 26 w) := by
  obtain ⟨r1, r2, r3, r4, r5, r6, r7, r8, r9, r10, r11, r12⟩ := R
  have hP2 := oc_Pr hP
  have Sx : Same (fun i k => i = 32 ∧ k = 1) x (jj_set x 32 1 v) := (Same.refl x).set _ (by omega)
  have Sy : Same (fun i k => i = 58 ∧ k = 26) y (jj_set y 58 26 w) := (Same.refl y).set _ (by omega)
  exact ⟨r1, r2, r3.same hk4 Sx (fun i k _ _ => by omega), r4.same Sy (fun k => by omega), by rw [jn (by omega)]; exact r5, by rw [jn (by omega)]; exact r6, by rw [jn (by omega)]; exact r7, by rw [jn (by omega)]; exact r8, fun d hd => (r9 d hd).same Sx Sy (by omega) (by omega) (by omega) (by omega), fun d hd => (r10 d hd).same Sx Sy (Nat.le_refl mk) (fun i k z => by omega) (fun i k z => by omega), fun d hd => (r11 d hd).same Sy (by omega) (by omega), r12.same Sx Sy (fun k => by omega) (fun k => by omega) (fun k => by omega) (fun k => by omega)⟩
theorem ma_over {t k f : Nat} (hP : o_Pr P) (ht : t ≤ 6) (hk : k < 1000) : g_Ma_goToEnd (f + 1) 4 [some (.ref 32), some (.ref P), some (.int (nI t)), some (.int (nI k))] x = some (nI t, x) := by
  have bP : bo_Pr P = true := hP
  rw [show g_Ma_goToEnd (f + 1) 4 [some (.ref 32), some (.ref P), some (.int (nI t)), some (.int (nI k))] x = if (bo_Ma 32 && bo_Pr P) = true then k_Ma_goToEnd_4 (g_Ma_goToEnd f) 32 P (nI t) (nI k) x else none from rfl]
  by_cases w : 200 ≤ k
  · simp (disch := omega) only [nA, nS, nM, nLT, nLF, nTT, nTF, nEF, nET, nBT, nBF, nC, nNG, nNL, jj_b1, jj_b2, js, jn, eq_self, if_true, if_false, ite_true, ite_false, ↓reduceIte, and_self, true_and, and_true, zb0, zb1, bM, bR, bCk, bMa, Bool.false_eq_true, Bool.and_self, Bool.and_true, Bool.true_and, li_0, li_1, li_2, li_3, li_4, li_5, li_6, li_7, li_8, li_16, li_18, li_21, li_25, li_46, li_54, li_58, li_60, li_79, li_87, li_89, li_95, li_96, li_100, li_104, li_108, li_116, li_127, li_128, li_132, li_153, li_158, li_159, li_164, li_167, li_172, li_176, li_177, li_184, li_188, li_190, li_198, li_199, li_200, li_202, li_240, li_255, li_256, li_32767, li_32768, li_65536, bP, k_Ma_goToEnd_4, k_Ma_goToEnd_47]
  · simp (disch := omega) only [nA, nS, nM, nLT, nLF, nTT, nTF, nEF, nET, nBT, nBF, nC, nNG, nNL, jj_b1, jj_b2, js, jn, eq_self, if_true, if_false, ite_true, ite_false, ↓reduceIte, and_self, true_and, and_true, zb0, zb1, bM, bR, bCk, bMa, Bool.false_eq_true, Bool.and_self, Bool.and_true, Bool.true_and, li_0, li_1, li_2, li_3, li_4, li_5, li_6, li_7, li_8, li_16, li_18, li_21, li_25, li_46, li_54, li_58, li_60, li_79, li_87, li_89, li_95, li_96, li_100, li_104, li_108, li_116, li_127, li_128, li_132, li_153, li_158, li_159, li_164, li_167, li_172, li_176, li_177, li_184, li_188, li_190, li_198, li_199, li_200, li_202, li_240, li_255, li_256, li_32767, li_32768, li_65536, bP, k_Ma_goToEnd_4, k_Ma_goToEnd_47]
theorem mo_over {t f : Nat} (ht : t ≤ 6) : g_Mo_run (f + 1) 105 [some (.ref 58), none, none, none, none, some (.int (nI t))] y = some (nI t, y) := by
  rw [show g_Mo_run (f + 1) 105 [some (.ref 58), none, none, none, none, some (.int (nI t))] y = k_Mo_run_105 (g_Mo_run f) 58 (nI t) y from rfl]
  simp (disch := omega) only [nA, nS, nM, nLT, nLF, nTT, nTF, nEF, nET, nBT, nBF, nC, nNG, nNL, jj_b1, jj_b2, js, jn, eq_self, if_true, if_false, ite_true, ite_false, ↓reduceIte, and_self, true_and, and_true, zb0, zb1, bM, bR, bCk, bMa, Bool.false_eq_true, Bool.and_self, Bool.and_true, Bool.true_and, li_0, li_1, li_2, li_3, li_4, li_5, li_6, li_7, li_8, li_16, li_18, li_21, li_25, li_46, li_54, li_58, li_60, li_79, li_87, li_89, li_95, li_96, li_100, li_104, li_108, li_116, li_127, li_128, li_132, li_153, li_158, li_159, li_164, li_167, li_172, li_176, li_177, li_184, li_188, li_190, li_198, li_199, li_200, li_202, li_240, li_255, li_256, li_32767, li_32768, li_65536, k_Mo_run_105]
theorem nN0 : (nI 0 < -nI 1) = False := nNL (by omega)
theorem nNN : (-nI 1 = nI 0) = False := eq_false (by decide)
theorem two_loop (hP : o_Pr P) (hF : By K n) (hOK : FileOK K n) : ∀ (r k f f' c mk : Nat) (x y : jj_Mem), k + r = 200 → r + 2 < f → r + 2 < f' → RR K n P c mk x y → x 32 1 = nI k → y 58 26 = nI k → x 32 0 = y 58 27 → ∃ v x' y', g_Ma_goToEnd f 4 [some (.ref 32), some (.ref P), some (.int (-nI 1)), some (.int (nI k))] x = some (v, x') ∧ g_Mo_run f' 105 [some (.ref 58), none, none, none, none, some (.int (-nI 1))] y = some (v, y') ∧ Same WMa x x' ∧ Same (fun i k => (i = 58 ∧ 8 ≤ k) ∨ 61 ≤ i) y y' ∧ x' 32 0 = y' 58 27 ∧ x' 32 1 = y' 58 26 := by
  have bP : bo_Pr P = true := hP
  have hk4 := hOK.2.2.1
  intro r
  induction r with
  | zero =>
    intro k f f' c mk x y hk hf hf' R h1 h26 h0
    obtain ⟨f, rfl⟩ : ∃ g, f = g + 1 := ⟨f - 1, by omega⟩
    obtain ⟨f', rfl⟩ : ∃ g, f' = g + 1 + 1 := ⟨f' - 2, by omega⟩
    refine ⟨nI 6, x, jj_set y 58 26 (nI k), ?_, ?_, Same.refl x, (Same.refl y).set _ (by omega), by rw [jn (by omega)]; exact h0, by rw [js]; exact h1⟩
    · rw [show g_Ma_goToEnd (f + 1) 4 [some (.ref 32), some (.ref P), some (.int (-nI 1)), some (.int (nI k))] x = if (bo_Ma 32 && bo_Pr P) = true then k_Ma_goToEnd_4 (g_Ma_goToEnd f) 32 P (-nI 1) (nI k) x else none from rfl]
      simp (disch := omega) only [nA, nS, nM, nLT, nLF, nTT, nTF, nEF, nET, nBT, nBF, nC, nNG, nNL, jj_b1, jj_b2, js, jn, eq_self, if_true, if_false, ite_true, ite_false, ↓reduceIte, and_self, true_and, and_true, zb0, zb1, bM, bR, bCk, bMa, Bool.false_eq_true, Bool.and_self, Bool.and_true, Bool.true_and, li_0, li_1, li_2, li_3, li_4, li_5, li_6, li_7, li_8, li_16, li_18, li_21, li_25, li_46, li_54, li_58, li_60, li_79, li_87, li_89, li_95, li_96, li_100, li_104, li_108, li_116, li_127, li_128, li_132, li_153, li_158, li_159, li_164, li_167, li_172, li_176, li_177, li_184, li_188, li_190, li_198, li_199, li_200, li_202, li_240, li_255, li_256, li_32767, li_32768, li_65536, bP, k_Ma_goToEnd_4, k_Ma_goToEnd_47]
    · have e := mo_over (y := jj_set y 58 26 (nI k)) (t := 6) (f := f') (by omega)
      rw [show g_Mo_run (f' + 1 + 1) 105 [some (.ref 58), none, none, none, none, some (.int (-nI 1))] y = k_Mo_run_105 (g_Mo_run (f' + 1)) 58 (-nI 1) y from rfl]
      simp (disch := omega) only [nA, nS, nM, nLT, nLF, nTT, nTF, nEF, nET, nBT, nBF, nC, nNG, nNL, jj_b1, jj_b2, js, jn, eq_self, if_true, if_false, ite_true, ite_false, ↓reduceIte, and_self, true_and, and_true, zb0, zb1, bM, bR, bCk, bMa, Bool.false_eq_true, Bool.and_self, Bool.and_true, Bool.true_and, li_0, li_1, li_2, li_3, li_4, li_5, li_6, li_7, li_8, li_16, li_18, li_21, li_25, li_46, li_54, li_58, li_60, li_79, li_87, li_89, li_95, li_96, li_100, li_104, li_108, li_116, li_127, li_128, li_132, li_153, li_158, li_159, li_164, li_167, li_172, li_176, li_177, li_184, li_188, li_190, li_198, li_199, li_200, li_202, li_240, li_255, li_256, li_32767, li_32768, li_65536, k_Mo_run_105, h26, k_Mo_run_130, k_Mo_run_151, e]
  | succ r ih =>
    intro k f f' c mk x y hk hf hf' R h1 h26 h0
    obtain ⟨f, rfl⟩ : ∃ g, f = g + 1 + 1 := ⟨f - 2, by omega⟩
    obtain ⟨f', rfl⟩ : ∃ g, f' = g + 1 + 1 := ⟨f' - 2, by omega⟩
    obtain ⟨v, x1, y1, s1, s2, s3, s4, s5, s6⟩ := two_step hP hF hOK R
    have u1 : x1 32 1 = nI k := by rw [s3.get _ _ (by omega)]; exact h1
    have u26 : y1 58 26 = nI k := by rw [s4.get _ _ (by omega)]; exact h26
    have u0 := s5 h0
    have S3 : Same WMa x x1 := s3.mono (fun i k z => by omega)
    have S4 : Same (fun i k => (i = 58 ∧ 8 ≤ k) ∨ 61 ≤ i) y y1 := s4.mono (fun i k z => by omega)
    have UX : g_Ma_goToEnd (f + 1 + 1) 4 [some (.ref 32), some (.ref P), some (.int (-nI 1)), some (.int (nI k))] x = k_Ma_goToEnd_4 (g_Ma_goToEnd (f + 1)) 32 P (-nI 1) (nI k) x := by
      rw [show g_Ma_goToEnd (f + 1 + 1) 4 [some (.ref 32), some (.ref P), some (.int (-nI 1)), some (.int (nI k))] x = if (bo_Ma 32 && bo_Pr P) = true then k_Ma_goToEnd_4 (g_Ma_goToEnd (f + 1)) 32 P (-nI 1) (nI k) x else none from rfl]
      simp (disch := omega) only [nA, nS, nM, nLT, nLF, nTT, nTF, nEF, nET, nBT, nBF, nC, nNG, nNL, jj_b1, jj_b2, js, jn, eq_self, if_true, if_false, ite_true, ite_false, ↓reduceIte, and_self, true_and, and_true, zb0, zb1, bM, bR, bCk, bMa, Bool.false_eq_true, Bool.and_self, Bool.and_true, Bool.true_and, li_0, li_1, li_2, li_3, li_4, li_5, li_6, li_7, li_8, li_16, li_18, li_21, li_25, li_46, li_54, li_58, li_60, li_79, li_87, li_89, li_95, li_96, li_100, li_104, li_108, li_116, li_127, li_128, li_132, li_153, li_158, li_159, li_164, li_167, li_172, li_176, li_177, li_184, li_188, li_190, li_198, li_199, li_200, li_202, li_240, li_255, li_256, li_32767, li_32768, li_65536, bP]
    have UY : g_Mo_run (f' + 1 + 1) 105 [some (.ref 58), none, none, none, none, some (.int (-nI 1))] y = k_Mo_run_105 (g_Mo_run (f' + 1)) 58 (-nI 1) y := rfl
    rw [UX, UY]
    rcases s6 with ⟨ev, c', mk', R'⟩ | ⟨t, t1, t2⟩
    · rw [ev] at s1 s2
      obtain ⟨v', x2, y2, i1, i2, i3, i4, i5, i6⟩ := ih (k + 1) (f + 1) (f' + 1) c' mk' (jj_set x1 32 1 (nI (k + 1))) (jj_set y1 58 26 (nI (k + 1))) (by omega) (by omega) (by omega) (R'.steps hP hk4 _ _) (js _ _ _ _) (js _ _ _ _) (by rw [jn (by omega), jn (by omega)]; exact u0)
      refine ⟨v', x2, y2, ?_, ?_, (S3.set _ (by omega)).trans i3, (S4.set _ (by omega)).trans i4, i5, i6⟩
      · simp (disch := omega) only [nA, nS, nM, nLT, nLF, nTT, nTF, nEF, nET, nBT, nBF, nC, nNG, nNL, jj_b1, jj_b2, js, jn, eq_self, if_true, if_false, ite_true, ite_false, ↓reduceIte, and_self, true_and, and_true, zb0, zb1, bM, bR, bCk, bMa, Bool.false_eq_true, Bool.and_self, Bool.and_true, Bool.true_and, li_0, li_1, li_2, li_3, li_4, li_5, li_6, li_7, li_8, li_16, li_18, li_21, li_25, li_46, li_54, li_58, li_60, li_79, li_87, li_89, li_95, li_96, li_100, li_104, li_108, li_116, li_127, li_128, li_132, li_153, li_158, li_159, li_164, li_167, li_172, li_176, li_177, li_184, li_188, li_190, li_198, li_199, li_200, li_202, li_240, li_255, li_256, li_32767, li_32768, li_65536, k_Ma_goToEnd_4, s1, k_Ma_goToEnd_31, k_Ma_goToEnd_41, u1, i1]
      · simp (disch := omega) only [nA, nS, nM, nLT, nLF, nTT, nTF, nEF, nET, nBT, nBF, nC, nNG, nNL, jj_b1, jj_b2, js, jn, eq_self, if_true, if_false, ite_true, ite_false, ↓reduceIte, and_self, true_and, and_true, zb0, zb1, bM, bR, bCk, bMa, Bool.false_eq_true, Bool.and_self, Bool.and_true, Bool.true_and, li_0, li_1, li_2, li_3, li_4, li_5, li_6, li_7, li_8, li_16, li_18, li_21, li_25, li_46, li_54, li_58, li_60, li_79, li_87, li_89, li_95, li_96, li_100, li_104, li_108, li_116, li_127, li_128, li_132, li_153, li_158, li_159, li_164, li_167, li_172, li_176, li_177, li_184, li_188, li_190, li_198, li_199, li_200, li_202, li_240, li_255, li_256, li_32767, li_32768, li_65536, k_Mo_run_105, h26, s2, k_Mo_run_130, nN0, k_Mo_run_151, u26, i2]
    · rw [t2] at s1 s2
      by_cases ct : t = 0
      · rw [ct] at s1 s2
        have e1 := ma_over (x := jj_set x1 32 1 (nI (k + 1))) (t := 0) (k := k + 1) (f := f) hP (by omega) (by omega)
        have e2 := mo_over (y := jj_set y1 58 26 (nI (k + 1))) (t := 0) (f := f') (by omega)
        refine ⟨nI 0, jj_set x1 32 1 (nI (k + 1)), jj_set y1 58 26 (nI (k + 1)), ?_, ?_, S3.set _ (by omega), S4.set _ (by omega), by rw [jn (by omega), jn (by omega)]; exact u0, by rw [js, js]⟩
        · simp (disch := omega) only [nA, nS, nM, nLT, nLF, nTT, nTF, nEF, nET, nBT, nBF, nC, nNG, nNL, jj_b1, jj_b2, js, jn, eq_self, if_true, if_false, ite_true, ite_false, ↓reduceIte, and_self, true_and, and_true, zb0, zb1, bM, bR, bCk, bMa, Bool.false_eq_true, Bool.and_self, Bool.and_true, Bool.true_and, li_0, li_1, li_2, li_3, li_4, li_5, li_6, li_7, li_8, li_16, li_18, li_21, li_25, li_46, li_54, li_58, li_60, li_79, li_87, li_89, li_95, li_96, li_100, li_104, li_108, li_116, li_127, li_128, li_132, li_153, li_158, li_159, li_164, li_167, li_172, li_176, li_177, li_184, li_188, li_190, li_198, li_199, li_200, li_202, li_240, li_255, li_256, li_32767, li_32768, li_65536, k_Ma_goToEnd_4, s1, k_Ma_goToEnd_31, k_Ma_goToEnd_41, u1, e1]
        · simp (disch := omega) only [nA, nS, nM, nLT, nLF, nTT, nTF, nEF, nET, nBT, nBF, nC, nNG, nNL, jj_b1, jj_b2, js, jn, eq_self, if_true, if_false, ite_true, ite_false, ↓reduceIte, and_self, true_and, and_true, zb0, zb1, bM, bR, bCk, bMa, Bool.false_eq_true, Bool.and_self, Bool.and_true, Bool.true_and, li_0, li_1, li_2, li_3, li_4, li_5, li_6, li_7, li_8, li_16, li_18, li_21, li_25, li_46, li_54, li_58, li_60, li_79, li_87, li_89, li_95, li_96, li_100, li_104, li_108, li_116, li_127, li_128, li_132, li_153, li_158, li_159, li_164, li_167, li_172, li_176, li_177, li_184, li_188, li_190, li_198, li_199, li_200, li_202, li_240, li_255, li_256, li_32767, li_32768, li_65536, k_Mo_run_105, h26, s2, k_Mo_run_130, k_Mo_run_151, u26, e2]
      · have e1 := ma_over (x := x1) (t := t) (k := k + 1) (f := f) hP (by omega) (by omega)
        have e2 := mo_over (y := jj_set y1 58 26 (nI k)) (t := t) (f := f') (by omega)
        refine ⟨nI t, x1, jj_set y1 58 26 (nI k), ?_, ?_, S3, S4.set _ (by omega), by rw [jn (by omega)]; exact u0, by rw [js]; exact u1⟩
        · simp (disch := omega) only [nA, nS, nM, nLT, nLF, nTT, nTF, nEF, nET, nBT, nBF, nC, nNG, nNL, jj_b1, jj_b2, js, jn, eq_self, if_true, if_false, ite_true, ite_false, ↓reduceIte, and_self, true_and, and_true, zb0, zb1, bM, bR, bCk, bMa, Bool.false_eq_true, Bool.and_self, Bool.and_true, Bool.true_and, li_0, li_1, li_2, li_3, li_4, li_5, li_6, li_7, li_8, li_16, li_18, li_21, li_25, li_46, li_54, li_58, li_60, li_79, li_87, li_89, li_95, li_96, li_100, li_104, li_108, li_116, li_127, li_128, li_132, li_153, li_158, li_159, li_164, li_167, li_172, li_176, li_177, li_184, li_188, li_190, li_198, li_199, li_200, li_202, li_240, li_255, li_256, li_32767, li_32768, li_65536, k_Ma_goToEnd_4, s1, k_Ma_goToEnd_41, e1]
        · simp (disch := omega) only [nA, nS, nM, nLT, nLF, nTT, nTF, nEF, nET, nBT, nBF, nC, nNG, nNL, jj_b1, jj_b2, js, jn, eq_self, if_true, if_false, ite_true, ite_false, ↓reduceIte, and_self, true_and, and_true, zb0, zb1, bM, bR, bCk, bMa, Bool.false_eq_true, Bool.and_self, Bool.and_true, Bool.true_and, li_0, li_1, li_2, li_3, li_4, li_5, li_6, li_7, li_8, li_16, li_18, li_21, li_25, li_46, li_54, li_58, li_60, li_79, li_87, li_89, li_95, li_96, li_100, li_104, li_108, li_116, li_127, li_128, li_132, li_153, li_158, li_159, li_164, li_167, li_172, li_176, li_177, li_184, li_188, li_190, li_198, li_199, li_200, li_202, li_240, li_255, li_256, li_32767, li_32768, li_65536, k_Mo_run_105, h26, s2, k_Mo_run_130, k_Mo_run_151, u26, e2]
end RUN
theorem sim_run {x : jj_Mem} (h : Rel x) (b0 b1 b2 b3 : Int32) : S_run Rel x b0 b1 b2 b3 := by
  have hR1 := h.1
  have hq := h.2
  obtain ⟨P, S, h1, h2, h3, h4, h5, h6⟩ := h.2
  have oP := (oPr h1).1
  have bP : bo_Pr P = true := oP
  have hPS : P < 100 ∧ S < 100 := by omega
  rcases h4 with ⟨a, b⟩ | ⟨a, K, n, b, c, d, e, f⟩
  · refine ⟨1, 0, 0, x, jj_set x 58 0 1, Or.inr (Or.inl ⟨rfl, rfl, ?_, ?_⟩), ?_, js _ _ _ _, fun q => absurd q (by decide), R1_code hR1, Fr1_code Fr1_RQ hq⟩
    · rw [h2, nC (by omega)]; exact oP
    · rw [h2, nC (by omega)]; exact b
    · have l := lack0 a b0
      unfold f_Mo_run k_Mo_run_0
      simp (disch := omega) only [nA, nS, nM, nLT, nLF, nTT, nTF, nEF, nET, nBT, nBF, nC, nNG, nNL, jj_b1, jj_b2, js, jn, eq_self, if_true, if_false, ite_true, ite_false, ↓reduceIte, and_self, true_and, and_true, zb0, zb1, bM, bR, bCk, bMa, Bool.false_eq_true, Bool.and_self, Bool.and_true, Bool.true_and, li_0, li_1, li_2, li_3, li_4, li_5, li_6, li_7, li_8, li_16, li_18, li_21, li_25, li_46, li_54, li_58, li_60, li_79, li_87, li_89, li_95, li_96, li_100, li_104, li_108, li_116, li_127, li_128, li_132, li_153, li_158, li_159, li_164, li_167, li_172, li_176, li_177, li_184, li_188, li_190, li_198, li_199, li_200, li_202, li_240, li_255, li_256, li_32767, li_32768, li_65536, l]
  · have c3 := c.2.2.1
    have c2 := c.2.1
    have d4 := d.2.2.2.1
    rcases ix_cases (tn := mcn K) (by omega) b0 with ⟨g1, g2⟩ | ⟨m, m1, m2, m3, m4, m5⟩
    · refine ⟨2, 0, 0, x, jj_set x 58 0 2, Or.inr (Or.inr ⟨rfl, rfl, ?_, ?_, ?_⟩), ?_, js _ _ _ _, fun q => absurd q (by decide), R1_code hR1, Fr1_code Fr1_RQ hq⟩
      · rw [h2, nC (by omega)]; exact oP
      · rw [h2, nC (by omega), d4]; simp (disch := omega) only [nA, nS, nM, nLT, nLF, nTT, nTF, nEF, nET, nBT, nBF, nC, nNG, nNL, jj_b1, jj_b2, js, jn, eq_self, if_true, if_false, ite_true, ite_false, ↓reduceIte, and_self, true_and, and_true, zb0, zb1, bM, bR, bCk, bMa, Bool.false_eq_true, Bool.and_self, Bool.and_true, Bool.true_and, li_0, li_1, li_2, li_3, li_4, li_5, li_6, li_7, li_8, li_16, li_18, li_21, li_25, li_46, li_54, li_58, li_60, li_79, li_87, li_89, li_95, li_96, li_100, li_104, li_108, li_116, li_127, li_128, li_132, li_153, li_158, li_159, li_164, li_167, li_172, li_176, li_177, li_184, li_188, li_190, li_198, li_199, li_200, li_202, li_240, li_255, li_256, li_32767, li_32768, li_65536]; exact not_false
      · rw [h2, nC (by omega), d4]; exact g1
      · have l := lack1 b c a f g2
        unfold f_Mo_run k_Mo_run_0
        simp (disch := omega) only [nA, nS, nM, nLT, nLF, nTT, nTF, nEF, nET, nBT, nBF, nC, nNG, nNL, jj_b1, jj_b2, js, jn, eq_self, if_true, if_false, ite_true, ite_false, ↓reduceIte, and_self, true_and, and_true, zb0, zb1, bM, bR, bCk, bMa, Bool.false_eq_true, Bool.and_self, Bool.and_true, Bool.true_and, li_0, li_1, li_2, li_3, li_4, li_5, li_6, li_7, li_8, li_16, li_18, li_21, li_25, li_46, li_54, li_58, li_60, li_79, li_87, li_89, li_95, li_96, li_100, li_104, li_108, li_116, li_127, li_128, li_132, li_153, li_158, li_159, li_164, li_167, li_172, li_176, li_177, li_184, li_188, li_190, li_198, li_199, li_200, li_202, li_240, li_255, li_256, li_32767, li_32768, li_65536, l]
    · rw [m2] at m5 ⊢
      obtain ⟨N, hM⟩ := c.2.2.2.2.1 m m1
      -- the object's run, beside a run of the reference that is thrown away
      obtain ⟨x1, ya, mk, fa, u1, u2, u3, u4, u5, u6, u7, u8, u9, u10, u11⟩ := two_begin oP b c m1 hM d f b1 b2 b3 (lack2 b c a f m5)
      obtain ⟨v, xe, ye, v1, v2, v3, v4, v5, v6⟩ := two_loop oP b c 200 0 1000 fa 0 mk x1 ya (by omega) (by omega) (by omega) u4 u8 u10 (by rw [u7, u9]; exact h5)
      have XE : Same WMa x xe := u5.trans v3
      -- the reference's run on what the object left
      have fe : KP K n xe := fun k hk => by rw [XE.get _ _ (by omega)]; exact f k hk
      obtain ⟨x1', yb, mk', fb, w1, w2, w3, w4, w5, w6, w7, w8, w9, w10, w11⟩ := two_begin (y := xe) oP b c m1 hM d fe b1 b2 b3 (lack2 b c (by rw [XE.get _ _ (by omega)]; exact a) fe m5)
      rw [u1] at w1
      cases w1
      obtain ⟨v', xe', yz, z1, z2, z3, z4, z5, z6⟩ := two_loop oP b c 200 0 1000 fb 0 mk' x1 yb (by omega) (by omega) (by omega) w4 u8 w10 (by rw [u7, w9, XE.get _ _ (by omega)]; exact h5)
      rw [v1] at z1
      cases z1
      have YZ : Same WMo xe yz := w6.trans (z4.mono (fun i k z => by omega))
      have D : Same (fun i k => (32 ≤ i ∧ i ≤ 57) ∨ (i = 58 ∧ (k = 0 ∨ 8 ≤ k)) ∨ 61 ≤ i) x yz := (XE.mono (fun i k z => by omega)).trans (YZ.mono (fun i k z => by omega))
      refine ⟨nI 0, v, v, xe, yz, Or.inl ⟨rfl, ?_⟩, ?_, ?_, fun _ => rfl, R1.same hR1 D (by omega) (fun k => by omega) (by omega) (fun k => by omega), P, S, h1, by rw [D.get _ _ (by omega)]; exact h2, by rw [D.get _ _ (by omega)]; exact h3, R3.same (Or.inr ⟨a, K, n, b, c, d, e, f⟩) D (fun i k _ _ => by omega) (by omega) (by omega) (fun k => by omega), by rw [YZ.get _ _ (by omega)]; exact z5, by rw [YZ.get _ _ (by omega)]; exact z6⟩
      · have mm3 : (nI m < nI 0) = False := nTF (by omega) (by omega)
        have e02 : x1 0 2 = nI P := by rw [u5.get _ _ (by omega)]; exact h2
        unfold f_VC_run
        simp (disch := omega) only [nA, nS, nM, nLT, nLF, nTT, nTF, nEF, nET, nBT, nBF, nC, nNG, nNL, jj_b1, jj_b2, js, jn, eq_self, if_true, if_false, ite_true, ite_false, ↓reduceIte, and_self, true_and, and_true, zb0, zb1, bM, bR, bCk, bMa, Bool.false_eq_true, Bool.and_self, Bool.and_true, Bool.true_and, li_0, li_1, li_2, li_3, li_4, li_5, li_6, li_7, li_8, li_16, li_18, li_21, li_25, li_46, li_54, li_58, li_60, li_79, li_87, li_89, li_95, li_96, li_100, li_104, li_108, li_116, li_127, li_128, li_132, li_153, li_158, li_159, li_164, li_167, li_172, li_176, li_177, li_184, li_188, li_190, li_198, li_199, li_200, li_202, li_240, li_255, li_256, li_32767, li_32768, li_65536, h2, bP, d4, mm3, u1, e02, f_Ma_goToEnd, k_Ma_goToEnd_0, v1]
      · rw [w2]; exact z2
      · rw [z4.get _ _ (by omega)]; exact w11
