/-! PURE: what goes wrong in an instruction, on both sides -/
theorem ix_nI {tn : Nat} (h : tn ≤ 240) (a : Int32) : ((a < nI 0 ∨ ¬ a < nI tn) ∧ ¬ (nI 0 ≤ a ∧ a ≤ nI tn - nI 1)) ∨ ∃ j, j < tn ∧ a = nI j := by
  rcases ix_cases h a with g | ⟨j, g1, g2, _⟩
  · exact Or.inl g
  · exact Or.inr ⟨j, g1, g2⟩
theorem w_in {v lw hi : Int32} (h : lw ≤ v ∧ v ≤ hi) : s_Mo_within v lw hi = some (nI 1) := by rw [w_within, if_pos h]; rfl
theorem w_out {v lw hi : Int32} (h : ¬ (lw ≤ v ∧ v ≤ hi)) : s_Mo_within v lw hi = some (nI 0) := by rw [w_within, if_neg h]; rfl
theorem w_nat {j a : Nat} (h : j ≤ a) (ha : a < 2147483648) : s_Mo_within (nI j) (nI 0) (nI a) = some (nI 1) := w_in ⟨by simp (disch := omega) only [nA, nS, nM, nLT, nLF, nTT, nTF, nEF, nET, nBT, nBF, nC, nNG, nNL, jj_b1, jj_b2, js, jn, eq_self, if_true, if_false, ite_true, ite_false, ↓reduceIte, and_self, true_and, and_true, zb0, zb1, bM, bR, bCk, bMa, Bool.false_eq_true, Bool.and_self, Bool.and_true, Bool.true_and, li_0, li_1, li_2, li_3, li_4, li_5, li_6, li_7, li_8, li_16, li_18, li_21, li_25, li_46, li_54, li_58, li_60, li_79, li_87, li_89, li_95, li_96, li_100, li_104, li_108, li_116, li_127, li_128, li_132, li_153, li_158, li_159, li_164, li_167, li_172, li_176, li_177, li_184, li_188, li_190, li_198, li_199, li_200, li_202, li_240, li_255, li_256, li_32767, li_32768, li_65536], by simp (disch := omega) only [nA, nS, nM, nLT, nLF, nTT, nTF, nEF, nET, nBT, nBF, nC, nNG, nNL, jj_b1, jj_b2, js, jn, eq_self, if_true, if_false, ite_true, ite_false, ↓reduceIte, and_self, true_and, and_true, zb0, zb1, bM, bR, bCk, bMa, Bool.false_eq_true, Bool.and_self, Bool.and_true, Bool.true_and, li_0, li_1, li_2, li_3, li_4, li_5, li_6, li_7, li_8, li_16, li_18, li_21, li_25, li_46, li_54, li_58, li_60, li_79, li_87, li_89, li_95, li_96, li_100, li_104, li_108, li_116, li_127, li_128, li_132, li_153, li_158, li_159, li_164, li_167, li_172, li_176, li_177, li_184, li_188, li_190, li_198, li_199, li_200, li_202, li_240, li_255, li_256, li_32767, li_32768, li_65536]⟩
section TAKES
variable {K : Nat → Nat} {p dp rt h a b c : Nat} {pk sk : Nat → Nat}
theorem AL1 (hA : AL K p dp rt pk sk h) (e : tkI K p = [a]) : 1 ≤ h ∧ zgood (sk (h - 1)) a := by
  have l := hA.1
  have g := hA.2.1
  rw [e] at l g
  exact ⟨l, g 0 (by simp)⟩
theorem AL2 (hA : AL K p dp rt pk sk h) (e : tkI K p = [a, b]) : 2 ≤ h ∧ zgood (sk (h - 2)) a ∧ zgood (sk (h - 1)) b := by
  have l := hA.1
  have g := hA.2.1
  rw [e] at l g
  have l2 : 2 ≤ h := l
  refine ⟨l, g 0 (by simp), ?_⟩
  have := g 1 (by simp)
  rw [show h - [a, b].length + 1 = h - 1 from (by show h - 2 + 1 = h - 1; omega)] at this
  exact this
theorem AL3 (hA : AL K p dp rt pk sk h) (e : tkI K p = [a, b, c]) : 3 ≤ h ∧ zgood (sk (h - 3)) a ∧ zgood (sk (h - 2)) b ∧ zgood (sk (h - 1)) c := by
  have l := hA.1
  have g := hA.2.1
  rw [e] at l g
  have l2 : 3 ≤ h := l
  refine ⟨l, g 0 (by simp), ?_, ?_⟩
  · have := g 1 (by simp)
    rw [show h - [a, b, c].length + 1 = h - 2 from (by show h - 3 + 1 = h - 2; omega)] at this
    exact this
  · have := g 2 (by simp)
    rw [show h - [a, b, c].length + 2 = h - 1 from (by show h - 3 + 2 = h - 1; omega)] at this
    exact this
end TAKES
def TRB (v : Int32) : Prop := ∃ k, 1 ≤ k ∧ k ≤ 6 ∧ v = nI k
/-- a row and an index into it -/
def SE (mk : Nat) (x y : jj_Mem) (sv sw : Nat → Int32) (a : Nat) : Prop := ∃ r i, r < mk ∧ i < 8 ∧ sv a = nI r ∧ sw a = nI r ∧ sv (a + 1) = nI i ∧ sw (a + 1) = nI i ∧ x 56 (r * 8 + i) = y 69 (8 * r + i)
section TROUBLE
variable {K : Nat → Nat} {n P c mk h d p dp rt : Nat} {x y : jj_Mem} {pk sk : Nat → Nat} {pv pw sv sw : Nat → Int32}
theorem two_elem (hc : c < 4) (hmk : mk ≤ 8) (hr : RW mk x y) (hR : FR mk c x y pk pv pw sk sv sw h) (hd : d + 1 ≤ h) (hd1 : 1 ≤ d) (k2 : zgood (sk (h - 1 - d)) 2) (k1 : zgood (sk (h - d)) 1) : ∃ v, f_Ma_troubleOfElement 32 (34 + 5 * c) (nI d) x = some (v, x) ∧ k_Mo_wrong_27 58 (nI (6 * c + (h - 1 - d))) y = some (v, y) ∧ (TRB v ∨ (v = -nI 1 ∧ SE mk x y sv sw (h - 1 - d))) := by
  obtain ⟨r1, r2, r3, r4, r5⟩ := hR
  have h6 := r3.1
  have e1 := sp_kindBelow (k := d) r1 (by omega) h6
  have e2 := sp_valueBelow (k := d - 1) r1 (by omega) h6
  rw [show h - 1 - (d - 1) = h - 1 - d + 1 by omega] at e2
  have e3 := sp_valueBelow (k := d) r1 (by omega) h6
  obtain ⟨y1, y2⟩ := r2.2.2 (h - 1 - d) (by omega)
  have y3 : y 64 (6 * c + (h - 1 - d) + 1) = sw (h - 1 - d + 1) := (r2.2.2 (h - 1 - d + 1) (by omega)).2
  have v1 := (r5 (h - 1 - d + 1) (by omega)).1 (by rw [show h - 1 - d + 1 = h - d by omega]; rcases k1 with w | w | w <;> omega)
  rw [← v1] at y3
  have k3 : sk (h - 1 - d) = 2 ∨ sk (h - 1 - d) = 3 := by rcases k2 with w | w | w <;> omega
  rcases k3 with k3 | k3
  · obtain ⟨r, s1, s2⟩ := (r5 (h - 1 - d) (by omega)).2 k3
    have s3 := (r5 (h - 1 - d) (by omega)).1 (by omega)
    rw [k3] at e1 y1
    rw [← s3, s2] at y2
    rw [s2] at e3
    obtain ⟨l, l1, l2, l3, l4⟩ := hr r s1
    rcases ix_nI (tn := l) (by omega) (sv (h - 1 - d + 1)) with ⟨g1, g2⟩ | ⟨j, j1, j2⟩
    · refine ⟨nI 3, ?_, ?_, Or.inl ⟨3, by omega, by omega, rfl⟩⟩
      · by_cases w : sv (h - 1 - d + 1) < nI 0
        · have w' := eq_true w
          unfold f_Ma_troubleOfElement
          simp (disch := omega) only [nA, nS, nM, nLT, nLF, nTT, nTF, nEF, nET, nBT, nBF, nC, nNG, nNL, jj_b1, jj_b2, js, jn, eq_self, if_true, if_false, ite_true, ite_false, ↓reduceIte, and_self, true_and, and_true, zb0, zb1, bM, bR, bCk, bMa, Bool.false_eq_true, Bool.and_self, Bool.and_true, Bool.true_and, li_0, li_1, li_2, li_3, li_4, li_5, li_6, li_7, li_8, li_16, li_18, li_21, li_25, li_46, li_54, li_58, li_60, li_79, li_87, li_89, li_95, li_96, li_100, li_104, li_108, li_116, li_127, li_128, li_132, li_153, li_158, li_159, li_164, li_167, li_172, li_176, li_177, li_184, li_188, li_190, li_198, li_199, li_200, li_202, li_240, li_255, li_256, li_32767, li_32768, li_65536, e1, e2, w', k_Ma_troubleOfElement_37]
        · have w' := eq_false w
          have u' : (sv (h - 1 - d + 1) < nI l) = False := eq_false (g1.resolve_left w)
          unfold f_Ma_troubleOfElement
          simp (disch := omega) only [nA, nS, nM, nLT, nLF, nTT, nTF, nEF, nET, nBT, nBF, nC, nNG, nNL, jj_b1, jj_b2, js, jn, eq_self, if_true, if_false, ite_true, ite_false, ↓reduceIte, and_self, true_and, and_true, zb0, zb1, bM, bR, bCk, bMa, Bool.false_eq_true, Bool.and_self, Bool.and_true, Bool.true_and, li_0, li_1, li_2, li_3, li_4, li_5, li_6, li_7, li_8, li_16, li_18, li_21, li_25, li_46, li_54, li_58, li_60, li_79, li_87, li_89, li_95, li_96, li_100, li_104, li_108, li_116, li_127, li_128, li_132, li_153, li_158, li_159, li_164, li_167, li_172, li_176, li_177, li_184, li_188, li_190, li_198, li_199, li_200, li_202, li_240, li_255, li_256, li_32767, li_32768, li_65536, e1, e2, w', e3, l2, u', k_Ma_troubleOfElement_37]
      · have W := w_out g2
        unfold k_Mo_wrong_27
        by_cases w : 1 ≤ l
        · rw [nS w] at W
          simp (disch := omega) only [nA, nS, nM, nLT, nLF, nTT, nTF, nEF, nET, nBT, nBF, nC, nNG, nNL, jj_b1, jj_b2, js, jn, eq_self, if_true, if_false, ite_true, ite_false, ↓reduceIte, and_self, true_and, and_true, zb0, zb1, bM, bR, bCk, bMa, Bool.false_eq_true, Bool.and_self, Bool.and_true, Bool.true_and, li_0, li_1, li_2, li_3, li_4, li_5, li_6, li_7, li_8, li_16, li_18, li_21, li_25, li_46, li_54, li_58, li_60, li_79, li_87, li_89, li_95, li_96, li_100, li_104, li_108, li_116, li_127, li_128, li_132, li_153, li_158, li_159, li_164, li_167, li_172, li_176, li_177, li_184, li_188, li_190, li_198, li_199, li_200, li_202, li_240, li_255, li_256, li_32767, li_32768, li_65536, y1, y2, y3, l3, W]
        · simp (disch := omega) only [nA, nS, nM, nLT, nLF, nTT, nTF, nEF, nET, nBT, nBF, nC, nNG, nNL, jj_b1, jj_b2, js, jn, eq_self, if_true, if_false, ite_true, ite_false, ↓reduceIte, and_self, true_and, and_true, zb0, zb1, bM, bR, bCk, bMa, Bool.false_eq_true, Bool.and_self, Bool.and_true, Bool.true_and, li_0, li_1, li_2, li_3, li_4, li_5, li_6, li_7, li_8, li_16, li_18, li_21, li_25, li_46, li_54, li_58, li_60, li_79, li_87, li_89, li_95, li_96, li_100, li_104, li_108, li_116, li_127, li_128, li_132, li_153, li_158, li_159, li_164, li_167, li_172, li_176, li_177, li_184, li_188, li_190, li_198, li_199, li_200, li_202, li_240, li_255, li_256, li_32767, li_32768, li_65536, y1, y2, y3, l3, W]
    · rw [j2] at e2 y3 v1
      have W := w_nat (j := j) (a := l - 1) (by omega) (by omega)
      refine ⟨-nI 1, ?_, ?_, Or.inr ⟨rfl, r, j, s1, by omega, s2, by rw [← s3]; exact s2, j2, v1.symm, l4 j j1⟩⟩
      · unfold f_Ma_troubleOfElement
        simp (disch := omega) only [nA, nS, nM, nLT, nLF, nTT, nTF, nEF, nET, nBT, nBF, nC, nNG, nNL, jj_b1, jj_b2, js, jn, eq_self, if_true, if_false, ite_true, ite_false, ↓reduceIte, and_self, true_and, and_true, zb0, zb1, bM, bR, bCk, bMa, Bool.false_eq_true, Bool.and_self, Bool.and_true, Bool.true_and, li_0, li_1, li_2, li_3, li_4, li_5, li_6, li_7, li_8, li_16, li_18, li_21, li_25, li_46, li_54, li_58, li_60, li_79, li_87, li_89, li_95, li_96, li_100, li_104, li_108, li_116, li_127, li_128, li_132, li_153, li_158, li_159, li_164, li_167, li_172, li_176, li_177, li_184, li_188, li_190, li_198, li_199, li_200, li_202, li_240, li_255, li_256, li_32767, li_32768, li_65536, e1, e2, e3, l2]
      · unfold k_Mo_wrong_27
        simp (disch := omega) only [nA, nS, nM, nLT, nLF, nTT, nTF, nEF, nET, nBT, nBF, nC, nNG, nNL, jj_b1, jj_b2, js, jn, eq_self, if_true, if_false, ite_true, ite_false, ↓reduceIte, and_self, true_and, and_true, zb0, zb1, bM, bR, bCk, bMa, Bool.false_eq_true, Bool.and_self, Bool.and_true, Bool.true_and, li_0, li_1, li_2, li_3, li_4, li_5, li_6, li_7, li_8, li_16, li_18, li_21, li_25, li_46, li_54, li_58, li_60, li_79, li_87, li_89, li_95, li_96, li_100, li_104, li_108, li_116, li_127, li_128, li_132, li_153, li_158, li_159, li_164, li_167, li_172, li_176, li_177, li_184, li_188, li_190, li_198, li_199, li_200, li_202, li_240, li_255, li_256, li_32767, li_32768, li_65536, y1, y2, y3, l3, W]
  · rw [k3] at e1 y1
    refine ⟨nI 4, ?_, ?_, Or.inl ⟨4, by omega, by omega, rfl⟩⟩
    · unfold f_Ma_troubleOfElement
      simp (disch := omega) only [nA, nS, nM, nLT, nLF, nTT, nTF, nEF, nET, nBT, nBF, nC, nNG, nNL, jj_b1, jj_b2, js, jn, eq_self, if_true, if_false, ite_true, ite_false, ↓reduceIte, and_self, true_and, and_true, zb0, zb1, bM, bR, bCk, bMa, Bool.false_eq_true, Bool.and_self, Bool.and_true, Bool.true_and, li_0, li_1, li_2, li_3, li_4, li_5, li_6, li_7, li_8, li_16, li_18, li_21, li_25, li_46, li_54, li_58, li_60, li_79, li_87, li_89, li_95, li_96, li_100, li_104, li_108, li_116, li_127, li_128, li_132, li_153, li_158, li_159, li_164, li_167, li_172, li_176, li_177, li_184, li_188, li_190, li_198, li_199, li_200, li_202, li_240, li_255, li_256, li_32767, li_32768, li_65536, e1]
    · unfold k_Mo_wrong_27
      simp (disch := omega) only [nA, nS, nM, nLT, nLF, nTT, nTF, nEF, nET, nBT, nBF, nC, nNG, nNL, jj_b1, jj_b2, js, jn, eq_self, if_true, if_false, ite_true, ite_false, ↓reduceIte, and_self, true_and, and_true, zb0, zb1, bM, bR, bCk, bMa, Bool.false_eq_true, Bool.and_self, Bool.and_true, Bool.true_and, li_0, li_1, li_2, li_3, li_4, li_5, li_6, li_7, li_8, li_16, li_18, li_21, li_25, li_46, li_54, li_58, li_60, li_79, li_87, li_89, li_95, li_96, li_100, li_104, li_108, li_116, li_127, li_128, li_132, li_153, li_158, li_159, li_164, li_167, li_172, li_176, li_177, li_184, li_188, li_190, li_198, li_199, li_200, li_202, li_240, li_255, li_256, li_32767, li_32768, li_65536, y1]
/-- no trouble -/
def SAFE (op c mk h : Nat) (x y : jj_Mem) (sk : Nat → Nat) (sv sw : Nat → Int32) : Prop := (op = 46 → SE mk x y sv sw (h - 2)) ∧ (op = 79 → SE mk x y sv sw (h - 3)) ∧ (op = 108 → sv (h - 1) ≠ nI 0) ∧ (op = 184 → c + 1 < 4) ∧ (op = 188 → mk < 8 ∧ ∃ l, l ≤ 8 ∧ sv (h - 1) = nI l ∧ sw (h - 1) = nI l) ∧ (op = 190 → sk (h - 1) = 2)
theorem two_trouble (hc : c < 4) (hmk : mk ≤ 8) (hr : RW mk x y) (h5 : x 32 5 = nI c) (h21 : y 58 21 = nI (c + 1)) (h8 : x 32 8 = nI mk) (h23 : y 58 23 = nI mk) (hR : FR mk c x y pk pv pw sk sv sw h) (hb : K p < 256) (hA : AL K p dp rt pk sk h) : ∃ v, f_Ma_trouble 32 (34 + 5 * c) (nI (K p)) x = some (v, x) ∧ f_Mo_wrong 58 (nI (K p)) (nI (6 * c + h) - nI 1) y = some (v, y) ∧ (TRB v ∨ (v = -nI 1 ∧ SAFE (K p) c mk h x y sk sv sw)) := by
  have r1 := hR.1
  have r2 := hR.2.1
  have h6 := hR.2.2.1.1
  have r5 := hR.2.2.2.2
  by_cases c46 : K p = 46
  · obtain ⟨t1, t2, t3⟩ := AL2 hA (tk_of c46 (by omega))
    obtain ⟨v, e1, e2, e3⟩ := two_elem (d := 1) hc hmk hr hR (by omega) (by omega) (by rw [show h - 1 - 1 = h - 2 by omega]; exact t2) t3
    rw [show h - 1 - 1 = h - 2 by omega] at e2 e3
    rw [show 6 * c + (h - 2) = 6 * c + h - 1 - 1 by omega] at e2
    refine ⟨v, ?_, ?_, e3.imp id (fun w => ⟨w.1, fun _ => w.2, fun q => by omega, fun q => by omega, fun q => by omega, fun q => by omega, fun q => by omega⟩)⟩
    · rw [c46]
      unfold f_Ma_trouble
      simp (disch := omega) only [nA, nS, nM, nLT, nLF, nTT, nTF, nEF, nET, nBT, nBF, nC, nNG, nNL, jj_b1, jj_b2, js, jn, eq_self, if_true, if_false, ite_true, ite_false, ↓reduceIte, and_self, true_and, and_true, zb0, zb1, bM, bR, bCk, bMa, Bool.false_eq_true, Bool.and_self, Bool.and_true, Bool.true_and, li_0, li_1, li_2, li_3, li_4, li_5, li_6, li_7, li_8, li_16, li_18, li_21, li_25, li_46, li_54, li_58, li_60, li_79, li_87, li_89, li_95, li_96, li_100, li_104, li_108, li_116, li_127, li_128, li_132, li_153, li_158, li_159, li_164, li_167, li_172, li_176, li_177, li_184, li_188, li_190, li_198, li_199, li_200, li_202, li_240, li_255, li_256, li_32767, li_32768, li_65536, e1]
    · rw [c46]
      unfold f_Mo_wrong
      simp (disch := omega) only [nA, nS, nM, nLT, nLF, nTT, nTF, nEF, nET, nBT, nBF, nC, nNG, nNL, jj_b1, jj_b2, js, jn, eq_self, if_true, if_false, ite_true, ite_false, ↓reduceIte, and_self, true_and, and_true, zb0, zb1, bM, bR, bCk, bMa, Bool.false_eq_true, Bool.and_self, Bool.and_true, Bool.true_and, li_0, li_1, li_2, li_3, li_4, li_5, li_6, li_7, li_8, li_16, li_18, li_21, li_25, li_46, li_54, li_58, li_60, li_79, li_87, li_89, li_95, li_96, li_100, li_104, li_108, li_116, li_127, li_128, li_132, li_153, li_158, li_159, li_164, li_167, li_172, li_176, li_177, li_184, li_188, li_190, li_198, li_199, li_200, li_202, li_240, li_255, li_256, li_32767, li_32768, li_65536, k_Mo_wrong_12, e2]
  by_cases c79 : K p = 79
  · obtain ⟨t1, t2, t3, t4⟩ := AL3 hA (tk_of c79 (by omega))
    obtain ⟨v, e1, e2, e3⟩ := two_elem (d := 2) hc hmk hr hR (by omega) (by omega) (by rw [show h - 1 - 2 = h - 3 by omega]; exact t2) t3
    rw [show h - 1 - 2 = h - 3 by omega] at e2 e3
    rw [show 6 * c + (h - 3) = 6 * c + h - 1 - 2 by omega] at e2
    refine ⟨v, ?_, ?_, e3.imp id (fun w => ⟨w.1, fun q => by omega, fun _ => w.2, fun q => by omega, fun q => by omega, fun q => by omega, fun q => by omega⟩)⟩
    · rw [c79]
      unfold f_Ma_trouble
      simp (disch := omega) only [nA, nS, nM, nLT, nLF, nTT, nTF, nEF, nET, nBT, nBF, nC, nNG, nNL, jj_b1, jj_b2, js, jn, eq_self, if_true, if_false, ite_true, ite_false, ↓reduceIte, and_self, true_and, and_true, zb0, zb1, bM, bR, bCk, bMa, Bool.false_eq_true, Bool.and_self, Bool.and_true, Bool.true_and, li_0, li_1, li_2, li_3, li_4, li_5, li_6, li_7, li_8, li_16, li_18, li_21, li_25, li_46, li_54, li_58, li_60, li_79, li_87, li_89, li_95, li_96, li_100, li_104, li_108, li_116, li_127, li_128, li_132, li_153, li_158, li_159, li_164, li_167, li_172, li_176, li_177, li_184, li_188, li_190, li_198, li_199, li_200, li_202, li_240, li_255, li_256, li_32767, li_32768, li_65536, e1]
    · rw [c79]
      unfold f_Mo_wrong
      simp (disch := omega) only [nA, nS, nM, nLT, nLF, nTT, nTF, nEF, nET, nBT, nBF, nC, nNG, nNL, jj_b1, jj_b2, js, jn, eq_self, if_true, if_false, ite_true, ite_false, ↓reduceIte, and_self, true_and, and_true, zb0, zb1, bM, bR, bCk, bMa, Bool.false_eq_true, Bool.and_self, Bool.and_true, Bool.true_and, li_0, li_1, li_2, li_3, li_4, li_5, li_6, li_7, li_8, li_16, li_18, li_21, li_25, li_46, li_54, li_58, li_60, li_79, li_87, li_89, li_95, li_96, li_100, li_104, li_108, li_116, li_127, li_128, li_132, li_153, li_158, li_159, li_164, li_167, li_172, li_176, li_177, li_184, li_188, li_190, li_198, li_199, li_200, li_202, li_240, li_255, li_256, li_32767, li_32768, li_65536, k_Mo_wrong_12, e2]
  by_cases c108 : K p = 108
  · obtain ⟨t1, t2, t3⟩ := AL2 hA (tk_of c108 (by omega))
    have e1 := sp_valueBelow (k := 0) r1 (by omega) h6
    rw [show h - 1 - 0 = h - 1 by omega] at e1
    have v1 := (r5 (h - 1) (by omega)).1 (by rcases t3 with w | w | w <;> omega)
    have y1 := (r2.2.2 (h - 1) (by omega)).2
    rw [← v1, show 6 * c + (h - 1) = 6 * c + h - 1 by omega] at y1
    by_cases w : sv (h - 1) = nI 0
    · rw [w] at e1 y1
      refine ⟨nI 2, ?_, ?_, Or.inl ⟨2, by omega, by omega, rfl⟩⟩
      · rw [c108]
        unfold f_Ma_trouble
        simp (disch := omega) only [nA, nS, nM, nLT, nLF, nTT, nTF, nEF, nET, nBT, nBF, nC, nNG, nNL, jj_b1, jj_b2, js, jn, eq_self, if_true, if_false, ite_true, ite_false, ↓reduceIte, and_self, true_and, and_true, zb0, zb1, bM, bR, bCk, bMa, Bool.false_eq_true, Bool.and_self, Bool.and_true, Bool.true_and, li_0, li_1, li_2, li_3, li_4, li_5, li_6, li_7, li_8, li_16, li_18, li_21, li_25, li_46, li_54, li_58, li_60, li_79, li_87, li_89, li_95, li_96, li_100, li_104, li_108, li_116, li_127, li_128, li_132, li_153, li_158, li_159, li_164, li_167, li_172, li_176, li_177, li_184, li_188, li_190, li_198, li_199, li_200, li_202, li_240, li_255, li_256, li_32767, li_32768, li_65536, e1]
      · rw [c108]
        unfold f_Mo_wrong
        simp (disch := omega) only [nA, nS, nM, nLT, nLF, nTT, nTF, nEF, nET, nBT, nBF, nC, nNG, nNL, jj_b1, jj_b2, js, jn, eq_self, if_true, if_false, ite_true, ite_false, ↓reduceIte, and_self, true_and, and_true, zb0, zb1, bM, bR, bCk, bMa, Bool.false_eq_true, Bool.and_self, Bool.and_true, Bool.true_and, li_0, li_1, li_2, li_3, li_4, li_5, li_6, li_7, li_8, li_16, li_18, li_21, li_25, li_46, li_54, li_58, li_60, li_79, li_87, li_89, li_95, li_96, li_100, li_104, li_108, li_116, li_127, li_128, li_132, li_153, li_158, li_159, li_164, li_167, li_172, li_176, li_177, li_184, li_188, li_190, li_198, li_199, li_200, li_202, li_240, li_255, li_256, li_32767, li_32768, li_65536, y1]
    · have w' := eq_false w
      refine ⟨-nI 1, ?_, ?_, Or.inr ⟨rfl, fun q => by omega, fun q => by omega, fun _ => w, fun q => by omega, fun q => by omega, fun q => by omega⟩⟩
      · rw [c108]
        unfold f_Ma_trouble
        simp (disch := omega) only [nA, nS, nM, nLT, nLF, nTT, nTF, nEF, nET, nBT, nBF, nC, nNG, nNL, jj_b1, jj_b2, js, jn, eq_self, if_true, if_false, ite_true, ite_false, ↓reduceIte, and_self, true_and, and_true, zb0, zb1, bM, bR, bCk, bMa, Bool.false_eq_true, Bool.and_self, Bool.and_true, Bool.true_and, li_0, li_1, li_2, li_3, li_4, li_5, li_6, li_7, li_8, li_16, li_18, li_21, li_25, li_46, li_54, li_58, li_60, li_79, li_87, li_89, li_95, li_96, li_100, li_104, li_108, li_116, li_127, li_128, li_132, li_153, li_158, li_159, li_164, li_167, li_172, li_176, li_177, li_184, li_188, li_190, li_198, li_199, li_200, li_202, li_240, li_255, li_256, li_32767, li_32768, li_65536, e1, w']
      · rw [c108]
        unfold f_Mo_wrong
        simp (disch := omega) only [nA, nS, nM, nLT, nLF, nTT, nTF, nEF, nET, nBT, nBF, nC, nNG, nNL, jj_b1, jj_b2, js, jn, eq_self, if_true, if_false, ite_true, ite_false, ↓reduceIte, and_self, true_and, and_true, zb0, zb1, bM, bR, bCk, bMa, Bool.false_eq_true, Bool.and_self, Bool.and_true, Bool.true_and, li_0, li_1, li_2, li_3, li_4, li_5, li_6, li_7, li_8, li_16, li_18, li_21, li_25, li_46, li_54, li_58, li_60, li_79, li_87, li_89, li_95, li_96, li_100, li_104, li_108, li_116, li_127, li_128, li_132, li_153, li_158, li_159, li_164, li_167, li_172, li_176, li_177, li_184, li_188, li_190, li_198, li_199, li_200, li_202, li_240, li_255, li_256, li_32767, li_32768, li_65536, y1, w']
  by_cases c184 : K p = 184
  · by_cases w : c + 1 < 4
    · refine ⟨-nI 1, ?_, ?_, Or.inr ⟨rfl, fun q => by omega, fun q => by omega, fun q => by omega, fun _ => w, fun q => by omega, fun q => by omega⟩⟩
      · rw [c184]
        unfold f_Ma_trouble
        simp (disch := omega) only [nA, nS, nM, nLT, nLF, nTT, nTF, nEF, nET, nBT, nBF, nC, nNG, nNL, jj_b1, jj_b2, js, jn, eq_self, if_true, if_false, ite_true, ite_false, ↓reduceIte, and_self, true_and, and_true, zb0, zb1, bM, bR, bCk, bMa, Bool.false_eq_true, Bool.and_self, Bool.and_true, Bool.true_and, li_0, li_1, li_2, li_3, li_4, li_5, li_6, li_7, li_8, li_16, li_18, li_21, li_25, li_46, li_54, li_58, li_60, li_79, li_87, li_89, li_95, li_96, li_100, li_104, li_108, li_116, li_127, li_128, li_132, li_153, li_158, li_159, li_164, li_167, li_172, li_176, li_177, li_184, li_188, li_190, li_198, li_199, li_200, li_202, li_240, li_255, li_256, li_32767, li_32768, li_65536, h5]
      · rw [c184]
        unfold f_Mo_wrong
        simp (disch := omega) only [nA, nS, nM, nLT, nLF, nTT, nTF, nEF, nET, nBT, nBF, nC, nNG, nNL, jj_b1, jj_b2, js, jn, eq_self, if_true, if_false, ite_true, ite_false, ↓reduceIte, and_self, true_and, and_true, zb0, zb1, bM, bR, bCk, bMa, Bool.false_eq_true, Bool.and_self, Bool.and_true, Bool.true_and, li_0, li_1, li_2, li_3, li_4, li_5, li_6, li_7, li_8, li_16, li_18, li_21, li_25, li_46, li_54, li_58, li_60, li_79, li_87, li_89, li_95, li_96, li_100, li_104, li_108, li_116, li_127, li_128, li_132, li_153, li_158, li_159, li_164, li_167, li_172, li_176, li_177, li_184, li_188, li_190, li_198, li_199, li_200, li_202, li_240, li_255, li_256, li_32767, li_32768, li_65536, h21]
    · refine ⟨nI 6, ?_, ?_, Or.inl ⟨6, by omega, by omega, rfl⟩⟩
      · rw [c184]
        unfold f_Ma_trouble
        simp (disch := omega) only [nA, nS, nM, nLT, nLF, nTT, nTF, nEF, nET, nBT, nBF, nC, nNG, nNL, jj_b1, jj_b2, js, jn, eq_self, if_true, if_false, ite_true, ite_false, ↓reduceIte, and_self, true_and, and_true, zb0, zb1, bM, bR, bCk, bMa, Bool.false_eq_true, Bool.and_self, Bool.and_true, Bool.true_and, li_0, li_1, li_2, li_3, li_4, li_5, li_6, li_7, li_8, li_16, li_18, li_21, li_25, li_46, li_54, li_58, li_60, li_79, li_87, li_89, li_95, li_96, li_100, li_104, li_108, li_116, li_127, li_128, li_132, li_153, li_158, li_159, li_164, li_167, li_172, li_176, li_177, li_184, li_188, li_190, li_198, li_199, li_200, li_202, li_240, li_255, li_256, li_32767, li_32768, li_65536, h5]
      · rw [c184]
        unfold f_Mo_wrong
        simp (disch := omega) only [nA, nS, nM, nLT, nLF, nTT, nTF, nEF, nET, nBT, nBF, nC, nNG, nNL, jj_b1, jj_b2, js, jn, eq_self, if_true, if_false, ite_true, ite_false, ↓reduceIte, and_self, true_and, and_true, zb0, zb1, bM, bR, bCk, bMa, Bool.false_eq_true, Bool.and_self, Bool.and_true, Bool.true_and, li_0, li_1, li_2, li_3, li_4, li_5, li_6, li_7, li_8, li_16, li_18, li_21, li_25, li_46, li_54, li_58, li_60, li_79, li_87, li_89, li_95, li_96, li_100, li_104, li_108, li_116, li_127, li_128, li_132, li_153, li_158, li_159, li_164, li_167, li_172, li_176, li_177, li_184, li_188, li_190, li_198, li_199, li_200, li_202, li_240, li_255, li_256, li_32767, li_32768, li_65536, h21]
  by_cases c188 : K p = 188
  · obtain ⟨t1, t2⟩ := AL1 hA (tk_of c188 (by omega))
    have e1 := sp_valueBelow (k := 0) r1 (by omega) h6
    rw [show h - 1 - 0 = h - 1 by omega] at e1
    have v1 := (r5 (h - 1) (by omega)).1 (by rcases t2 with w | w | w <;> omega)
    have y1 := (r2.2.2 (h - 1) (by omega)).2
    rw [← v1, show 6 * c + (h - 1) = 6 * c + h - 1 by omega] at y1
    rcases ix_nI (tn := 9) (by omega) (sv (h - 1)) with ⟨g1, g2⟩ | ⟨j, j1, j2⟩
    · rw [show nI 9 - nI 1 = nI 8 from rfl] at g2
      have W := w_out g2
      refine ⟨nI 5, ?_, ?_, Or.inl ⟨5, by omega, by omega, rfl⟩⟩
      · rw [c188]
        unfold f_Ma_trouble
        by_cases w : sv (h - 1) < nI 0
        · have w' := eq_true w
          simp (disch := omega) only [nA, nS, nM, nLT, nLF, nTT, nTF, nEF, nET, nBT, nBF, nC, nNG, nNL, jj_b1, jj_b2, js, jn, eq_self, if_true, if_false, ite_true, ite_false, ↓reduceIte, and_self, true_and, and_true, zb0, zb1, bM, bR, bCk, bMa, Bool.false_eq_true, Bool.and_self, Bool.and_true, Bool.true_and, li_0, li_1, li_2, li_3, li_4, li_5, li_6, li_7, li_8, li_16, li_18, li_21, li_25, li_46, li_54, li_58, li_60, li_79, li_87, li_89, li_95, li_96, li_100, li_104, li_108, li_116, li_127, li_128, li_132, li_153, li_158, li_159, li_164, li_167, li_172, li_176, li_177, li_184, li_188, li_190, li_198, li_199, li_200, li_202, li_240, li_255, li_256, li_32767, li_32768, li_65536, e1, w', k_Ma_trouble_101]
        · have w' := eq_false w
          have u' : (nI 8 < sv (h - 1)) = True := eq_true (by
            rcases Int32.lt_or_le (nI 8) (sv (h - 1)) with u | u
            · exact u
            · exact absurd ⟨Int32.not_lt.mp w, u⟩ g2)
          simp (disch := omega) only [nA, nS, nM, nLT, nLF, nTT, nTF, nEF, nET, nBT, nBF, nC, nNG, nNL, jj_b1, jj_b2, js, jn, eq_self, if_true, if_false, ite_true, ite_false, ↓reduceIte, and_self, true_and, and_true, zb0, zb1, bM, bR, bCk, bMa, Bool.false_eq_true, Bool.and_self, Bool.and_true, Bool.true_and, li_0, li_1, li_2, li_3, li_4, li_5, li_6, li_7, li_8, li_16, li_18, li_21, li_25, li_46, li_54, li_58, li_60, li_79, li_87, li_89, li_95, li_96, li_100, li_104, li_108, li_116, li_127, li_128, li_132, li_153, li_158, li_159, li_164, li_167, li_172, li_176, li_177, li_184, li_188, li_190, li_198, li_199, li_200, li_202, li_240, li_255, li_256, li_32767, li_32768, li_65536, e1, w', u', k_Ma_trouble_101]
      · rw [c188]
        unfold f_Mo_wrong
        simp (disch := omega) only [nA, nS, nM, nLT, nLF, nTT, nTF, nEF, nET, nBT, nBF, nC, nNG, nNL, jj_b1, jj_b2, js, jn, eq_self, if_true, if_false, ite_true, ite_false, ↓reduceIte, and_self, true_and, and_true, zb0, zb1, bM, bR, bCk, bMa, Bool.false_eq_true, Bool.and_self, Bool.and_true, Bool.true_and, li_0, li_1, li_2, li_3, li_4, li_5, li_6, li_7, li_8, li_16, li_18, li_21, li_25, li_46, li_54, li_58, li_60, li_79, li_87, li_89, li_95, li_96, li_100, li_104, li_108, li_116, li_127, li_128, li_132, li_153, li_158, li_159, li_164, li_167, li_172, li_176, li_177, li_184, li_188, li_190, li_198, li_199, li_200, li_202, li_240, li_255, li_256, li_32767, li_32768, li_65536, y1, W]
    · have j3 := j2
      rw [v1] at j3
      rw [j2] at e1 y1
      have W := w_nat (j := j) (a := 8) (by omega) (by omega)
      by_cases w : mk < 8
      · refine ⟨-nI 1, ?_, ?_, Or.inr ⟨rfl, fun q => by omega, fun q => by omega, fun q => by omega, fun q => by omega, fun _ => ⟨w, j, by omega, j2, j3⟩, fun q => by omega⟩⟩
        · rw [c188]
          unfold f_Ma_trouble
          simp (disch := omega) only [nA, nS, nM, nLT, nLF, nTT, nTF, nEF, nET, nBT, nBF, nC, nNG, nNL, jj_b1, jj_b2, js, jn, eq_self, if_true, if_false, ite_true, ite_false, ↓reduceIte, and_self, true_and, and_true, zb0, zb1, bM, bR, bCk, bMa, Bool.false_eq_true, Bool.and_self, Bool.and_true, Bool.true_and, li_0, li_1, li_2, li_3, li_4, li_5, li_6, li_7, li_8, li_16, li_18, li_21, li_25, li_46, li_54, li_58, li_60, li_79, li_87, li_89, li_95, li_96, li_100, li_104, li_108, li_116, li_127, li_128, li_132, li_153, li_158, li_159, li_164, li_167, li_172, li_176, li_177, li_184, li_188, li_190, li_198, li_199, li_200, li_202, li_240, li_255, li_256, li_32767, li_32768, li_65536, e1, h8]
        · rw [c188]
          unfold f_Mo_wrong
          simp (disch := omega) only [nA, nS, nM, nLT, nLF, nTT, nTF, nEF, nET, nBT, nBF, nC, nNG, nNL, jj_b1, jj_b2, js, jn, eq_self, if_true, if_false, ite_true, ite_false, ↓reduceIte, and_self, true_and, and_true, zb0, zb1, bM, bR, bCk, bMa, Bool.false_eq_true, Bool.and_self, Bool.and_true, Bool.true_and, li_0, li_1, li_2, li_3, li_4, li_5, li_6, li_7, li_8, li_16, li_18, li_21, li_25, li_46, li_54, li_58, li_60, li_79, li_87, li_89, li_95, li_96, li_100, li_104, li_108, li_116, li_127, li_128, li_132, li_153, li_158, li_159, li_164, li_167, li_172, li_176, li_177, li_184, li_188, li_190, li_198, li_199, li_200, li_202, li_240, li_255, li_256, li_32767, li_32768, li_65536, y1, W, h23]
      · refine ⟨nI 5, ?_, ?_, Or.inl ⟨5, by omega, by omega, rfl⟩⟩
        · rw [c188]
          unfold f_Ma_trouble
          simp (disch := omega) only [nA, nS, nM, nLT, nLF, nTT, nTF, nEF, nET, nBT, nBF, nC, nNG, nNL, jj_b1, jj_b2, js, jn, eq_self, if_true, if_false, ite_true, ite_false, ↓reduceIte, and_self, true_and, and_true, zb0, zb1, bM, bR, bCk, bMa, Bool.false_eq_true, Bool.and_self, Bool.and_true, Bool.true_and, li_0, li_1, li_2, li_3, li_4, li_5, li_6, li_7, li_8, li_16, li_18, li_21, li_25, li_46, li_54, li_58, li_60, li_79, li_87, li_89, li_95, li_96, li_100, li_104, li_108, li_116, li_127, li_128, li_132, li_153, li_158, li_159, li_164, li_167, li_172, li_176, li_177, li_184, li_188, li_190, li_198, li_199, li_200, li_202, li_240, li_255, li_256, li_32767, li_32768, li_65536, e1, h8, k_Ma_trouble_101]
        · rw [c188]
          unfold f_Mo_wrong
          simp (disch := omega) only [nA, nS, nM, nLT, nLF, nTT, nTF, nEF, nET, nBT, nBF, nC, nNG, nNL, jj_b1, jj_b2, js, jn, eq_self, if_true, if_false, ite_true, ite_false, ↓reduceIte, and_self, true_and, and_true, zb0, zb1, bM, bR, bCk, bMa, Bool.false_eq_true, Bool.and_self, Bool.and_true, Bool.true_and, li_0, li_1, li_2, li_3, li_4, li_5, li_6, li_7, li_8, li_16, li_18, li_21, li_25, li_46, li_54, li_58, li_60, li_79, li_87, li_89, li_95, li_96, li_100, li_104, li_108, li_116, li_127, li_128, li_132, li_153, li_158, li_159, li_164, li_167, li_172, li_176, li_177, li_184, li_188, li_190, li_198, li_199, li_200, li_202, li_240, li_255, li_256, li_32767, li_32768, li_65536, y1, W, h23]
  by_cases c190 : K p = 190
  · obtain ⟨t1, t2⟩ := AL1 hA (tk_of c190 (by omega))
    have e1 := sp_kindBelow (k := 0) r1 (by omega) h6
    rw [show h - 1 - 0 = h - 1 by omega] at e1
    have y1 := (r2.2.2 (h - 1) (by omega)).1
    rw [show 6 * c + (h - 1) = 6 * c + h - 1 by omega] at y1
    have k3 : sk (h - 1) = 2 ∨ sk (h - 1) = 3 := by rcases t2 with w | w | w <;> omega
    rcases k3 with k3 | k3
    · rw [k3] at e1 y1
      refine ⟨-nI 1, ?_, ?_, Or.inr ⟨rfl, fun q => by omega, fun q => by omega, fun q => by omega, fun q => by omega, fun q => by omega, fun _ => k3⟩⟩
      · rw [c190]
        unfold f_Ma_trouble
        simp (disch := omega) only [nA, nS, nM, nLT, nLF, nTT, nTF, nEF, nET, nBT, nBF, nC, nNG, nNL, jj_b1, jj_b2, js, jn, eq_self, if_true, if_false, ite_true, ite_false, ↓reduceIte, and_self, true_and, and_true, zb0, zb1, bM, bR, bCk, bMa, Bool.false_eq_true, Bool.and_self, Bool.and_true, Bool.true_and, li_0, li_1, li_2, li_3, li_4, li_5, li_6, li_7, li_8, li_16, li_18, li_21, li_25, li_46, li_54, li_58, li_60, li_79, li_87, li_89, li_95, li_96, li_100, li_104, li_108, li_116, li_127, li_128, li_132, li_153, li_158, li_159, li_164, li_167, li_172, li_176, li_177, li_184, li_188, li_190, li_198, li_199, li_200, li_202, li_240, li_255, li_256, li_32767, li_32768, li_65536, e1]
      · rw [c190]
        unfold f_Mo_wrong
        simp (disch := omega) only [nA, nS, nM, nLT, nLF, nTT, nTF, nEF, nET, nBT, nBF, nC, nNG, nNL, jj_b1, jj_b2, js, jn, eq_self, if_true, if_false, ite_true, ite_false, ↓reduceIte, and_self, true_and, and_true, zb0, zb1, bM, bR, bCk, bMa, Bool.false_eq_true, Bool.and_self, Bool.and_true, Bool.true_and, li_0, li_1, li_2, li_3, li_4, li_5, li_6, li_7, li_8, li_16, li_18, li_21, li_25, li_46, li_54, li_58, li_60, li_79, li_87, li_89, li_95, li_96, li_100, li_104, li_108, li_116, li_127, li_128, li_132, li_153, li_158, li_159, li_164, li_167, li_172, li_176, li_177, li_184, li_188, li_190, li_198, li_199, li_200, li_202, li_240, li_255, li_256, li_32767, li_32768, li_65536, y1]
    · rw [k3] at e1 y1
      refine ⟨nI 4, ?_, ?_, Or.inl ⟨4, by omega, by omega, rfl⟩⟩
      · rw [c190]
        unfold f_Ma_trouble
        simp (disch := omega) only [nA, nS, nM, nLT, nLF, nTT, nTF, nEF, nET, nBT, nBF, nC, nNG, nNL, jj_b1, jj_b2, js, jn, eq_self, if_true, if_false, ite_true, ite_false, ↓reduceIte, and_self, true_and, and_true, zb0, zb1, bM, bR, bCk, bMa, Bool.false_eq_true, Bool.and_self, Bool.and_true, Bool.true_and, li_0, li_1, li_2, li_3, li_4, li_5, li_6, li_7, li_8, li_16, li_18, li_21, li_25, li_46, li_54, li_58, li_60, li_79, li_87, li_89, li_95, li_96, li_100, li_104, li_108, li_116, li_127, li_128, li_132, li_153, li_158, li_159, li_164, li_167, li_172, li_176, li_177, li_184, li_188, li_190, li_198, li_199, li_200, li_202, li_240, li_255, li_256, li_32767, li_32768, li_65536, e1]
      · rw [c190]
        unfold f_Mo_wrong
        simp (disch := omega) only [nA, nS, nM, nLT, nLF, nTT, nTF, nEF, nET, nBT, nBF, nC, nNG, nNL, jj_b1, jj_b2, js, jn, eq_self, if_true, if_false, ite_true, ite_false, ↓reduceIte, and_self, true_and, and_true, zb0, zb1, bM, bR, bCk, bMa, Bool.false_eq_true, Bool.and_self, Bool.and_true, Bool.true_and, li_0, li_1, li_2, li_3, li_4, li_5, li_6, li_7, li_8, li_16, li_18, li_21, li_25, li_46, li_54, li_58, li_60, li_79, li_87, li_89, li_95, li_96, li_100, li_104, li_108, li_116, li_127, li_128, li_132, li_153, li_158, li_159, li_164, li_167, li_172, li_176, li_177, li_184, li_188, li_190, li_198, li_199, li_200, li_202, li_240, li_255, li_256, li_32767, li_32768, li_65536, y1]
  · refine ⟨-nI 1, ?_, ?_, Or.inr ⟨rfl, fun q => by omega, fun q => by omega, fun q => by omega, fun q => by omega, fun q => by omega, fun q => by omega⟩⟩
    · unfold f_Ma_trouble
      simp (disch := omega) only [nA, nS, nM, nLT, nLF, nTT, nTF, nEF, nET, nBT, nBF, nC, nNG, nNL, jj_b1, jj_b2, js, jn, eq_self, if_true, if_false, ite_true, ite_false, ↓reduceIte, and_self, true_and, and_true, zb0, zb1, bM, bR, bCk, bMa, Bool.false_eq_true, Bool.and_self, Bool.and_true, Bool.true_and, li_0, li_1, li_2, li_3, li_4, li_5, li_6, li_7, li_8, li_16, li_18, li_21, li_25, li_46, li_54, li_58, li_60, li_79, li_87, li_89, li_95, li_96, li_100, li_104, li_108, li_116, li_127, li_128, li_132, li_153, li_158, li_159, li_164, li_167, li_172, li_176, li_177, li_184, li_188, li_190, li_198, li_199, li_200, li_202, li_240, li_255, li_256, li_32767, li_32768, li_65536]
    · unfold f_Mo_wrong
      simp (disch := omega) only [nA, nS, nM, nLT, nLF, nTT, nTF, nEF, nET, nBT, nBF, nC, nNG, nNL, jj_b1, jj_b2, js, jn, eq_self, if_true, if_false, ite_true, ite_false, ↓reduceIte, and_self, true_and, and_true, zb0, zb1, bM, bR, bCk, bMa, Bool.false_eq_true, Bool.and_self, Bool.and_true, Bool.true_and, li_0, li_1, li_2, li_3, li_4, li_5, li_6, li_7, li_8, li_16, li_18, li_21, li_25, li_46, li_54, li_58, li_60, li_79, li_87, li_89, li_95, li_96, li_100, li_104, li_108, li_116, li_127, li_128, li_132, li_153, li_158, li_159, li_164, li_167, li_172, li_176, li_177, li_184, li_188, li_190, li_198, li_199, li_200, li_202, li_240, li_255, li_256, li_32767, li_32768, li_65536]
end TROUBLE
