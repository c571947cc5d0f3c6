/-! PURE: taking a frame's state, and a method's first one, on both sides -/
def ip (K : Nat → Nat) (b : Nat) : Nat → Nat := fun k => if k < K b then K (b + 1 + k) else 0
section BECOME
variable {K : Nat → Nat} {n b N P q h i c : Nat} {x y : jj_Mem} {pk sk : Nat → Nat}
theorem mo_become (hF : By K n) (hM : MtOK K n (K 1) (mcn K) b N) (hK : KP K n y) (hO : MO K b y) (hi : i < m_fc K b) (hB : KB 0 y pk sk h) (hz : ∀ k, m_pl K b ≤ k → pk k = 0) : ∃ y', f_Mo_become 58 (nI (m_fr K b i)) y = some y' ∧ Same WP0 y y' ∧ KB 0 y' (fp K b i) (fs K b i) (fh K b i) ∧ y' 58 22 = nI 1 := by
  have h240 := hF.1
  have h8 := hM.2.2.2.1
  have hpl := hM.1.2.2.2.2.2.1
  have hdp := hM.1.2.2.2.1
  have a0 := fr_ok hM hi
  have a2 := a0.2.2.2.2
  have hfh : fh K b i ≤ 6 := by have := a0.2.2.1; unfold fh; omega
  have hfe : fh K b i = K (m_fr K b i + 1 + m_pl K b) := rfl
  have G2 : ∀ (r k f : Nat) (z : jj_Mem), k + r = fh K b i → r < f → KP K n z → MO K b z → z 65 0 = nI (fh K b i) → (∀ j, j < 6 → z 61 j = nI (fp K b i j)) → (∀ j, j < k → z 63 j = nI (K (m_fr K b i + 2 + m_pl K b + j))) → ∃ y', g_Mo_become f 53 [some (.ref 58), some (.int (nI (m_fr K b i))), some (.int (nI k))] z = some y' ∧ Same WP0 z y' ∧ KB 0 y' (fp K b i) (fs K b i) (fh K b i) ∧ y' 58 22 = nI 1 := by
    intro r
    induction r with
    | zero =>
      intro k f z hk hf hK hO h65 h61 h63
      obtain ⟨f, rfl⟩ : ∃ g, f = g + 1 := ⟨f - 1, by omega⟩
      refine ⟨jj_set z 58 22 (nI 1), ?_, (Same.refl z).set _ (by omega), ⟨by simp (disch := omega) only [nA, nS, nM, nLT, nLF, nTT, nTF, nEF, nET, nBT, nBF, nC, nNG, nNL, jj_b1, jj_b2, js, jn, eq_self, if_true, if_false, ite_true, ite_false, ↓reduceIte, and_self, true_and, and_true, zb0, zb1, bM, bR, bCk, bMa, Bool.false_eq_true, Bool.and_self, Bool.and_true, Bool.true_and, li_0, li_1, li_2, li_3, li_4, li_5, li_6, li_7, li_8, li_16, li_18, li_21, li_25, li_46, li_54, li_58, li_60, li_79, li_87, li_89, li_95, li_96, li_100, li_104, li_108, li_116, li_127, li_128, li_132, li_153, li_158, li_159, li_164, li_167, li_172, li_176, li_177, li_184, li_188, li_190, li_198, li_199, li_200, li_202, li_240, li_255, li_256, li_32767, li_32768, li_65536, h65], fun j hj => ?_, fun j hj => ?_⟩, js _ _ _ _⟩
      · simp (disch := omega) only [nA, nS, nM, nLT, nLF, nTT, nTF, nEF, nET, nBT, nBF, nC, nNG, nNL, jj_b1, jj_b2, js, jn, eq_self, if_true, if_false, ite_true, ite_false, ↓reduceIte, and_self, true_and, and_true, zb0, zb1, bM, bR, bCk, bMa, Bool.false_eq_true, Bool.and_self, Bool.and_true, Bool.true_and, li_0, li_1, li_2, li_3, li_4, li_5, li_6, li_7, li_8, li_16, li_18, li_21, li_25, li_46, li_54, li_58, li_60, li_79, li_87, li_89, li_95, li_96, li_100, li_104, li_108, li_116, li_127, li_128, li_132, li_153, li_158, li_159, li_164, li_167, li_172, li_176, li_177, li_184, li_188, li_190, li_198, li_199, li_200, li_202, li_240, li_255, li_256, li_32767, li_32768, li_65536, g_Mo_become, k_Mo_become_53, h65]
      · rw [show 6 * 0 + j = j by omega]
        simp (disch := omega) only [nA, nS, nM, nLT, nLF, nTT, nTF, nEF, nET, nBT, nBF, nC, nNG, nNL, jj_b1, jj_b2, js, jn, eq_self, if_true, if_false, ite_true, ite_false, ↓reduceIte, and_self, true_and, and_true, zb0, zb1, bM, bR, bCk, bMa, Bool.false_eq_true, Bool.and_self, Bool.and_true, Bool.true_and, li_0, li_1, li_2, li_3, li_4, li_5, li_6, li_7, li_8, li_16, li_18, li_21, li_25, li_46, li_54, li_58, li_60, li_79, li_87, li_89, li_95, li_96, li_100, li_104, li_108, li_116, li_127, li_128, li_132, li_153, li_158, li_159, li_164, li_167, li_172, li_176, li_177, li_184, li_188, li_190, li_198, li_199, li_200, li_202, li_240, li_255, li_256, li_32767, li_32768, li_65536, h61 j hj]
      · rw [show 6 * 0 + j = j by omega]
        have := h63 j (by omega)
        unfold fs
        rw [if_pos hj]
        simp (disch := omega) only [nA, nS, nM, nLT, nLF, nTT, nTF, nEF, nET, nBT, nBF, nC, nNG, nNL, jj_b1, jj_b2, js, jn, eq_self, if_true, if_false, ite_true, ite_false, ↓reduceIte, and_self, true_and, and_true, zb0, zb1, bM, bR, bCk, bMa, Bool.false_eq_true, Bool.and_self, Bool.and_true, Bool.true_and, li_0, li_1, li_2, li_3, li_4, li_5, li_6, li_7, li_8, li_16, li_18, li_21, li_25, li_46, li_54, li_58, li_60, li_79, li_87, li_89, li_95, li_96, li_100, li_104, li_108, li_116, li_127, li_128, li_132, li_153, li_158, li_159, li_164, li_167, li_172, li_176, li_177, li_184, li_188, li_190, li_198, li_199, li_200, li_202, li_240, li_255, li_256, li_32767, li_32768, li_65536, this]
    | succ r ih =>
      intro k f z hk hf hK hO h65 h61 h63
      obtain ⟨f, rfl⟩ : ∃ g, f = g + 1 := ⟨f - 1, by omega⟩
      have e1 := hK (m_fr K b i + 2 + m_pl K b + k) (by omega)
      have q4 := hO.2.2.2.1
      have A : Same WP0 z (jj_set z 63 k (nI (K (m_fr K b i + 2 + m_pl K b + k)))) := (Same.refl z).set _ (by omega)
      obtain ⟨y', d1, d2, d3, d4⟩ := ih (k + 1) f (jj_set z 63 k (nI (K (m_fr K b i + 2 + m_pl K b + k)))) (by omega) (by omega) (hK.same A (fun k => by omega)) (hO.same A (fun k _ _ => by omega)) (by simp (disch := omega) only [nA, nS, nM, nLT, nLF, nTT, nTF, nEF, nET, nBT, nBF, nC, nNG, nNL, jj_b1, jj_b2, js, jn, eq_self, if_true, if_false, ite_true, ite_false, ↓reduceIte, and_self, true_and, and_true, zb0, zb1, bM, bR, bCk, bMa, Bool.false_eq_true, Bool.and_self, Bool.and_true, Bool.true_and, li_0, li_1, li_2, li_3, li_4, li_5, li_6, li_7, li_8, li_16, li_18, li_21, li_25, li_46, li_54, li_58, li_60, li_79, li_87, li_89, li_95, li_96, li_100, li_104, li_108, li_116, li_127, li_128, li_132, li_153, li_158, li_159, li_164, li_167, li_172, li_176, li_177, li_184, li_188, li_190, li_198, li_199, li_200, li_202, li_240, li_255, li_256, li_32767, li_32768, li_65536, h65]) (fun j hj => by simp (disch := omega) only [nA, nS, nM, nLT, nLF, nTT, nTF, nEF, nET, nBT, nBF, nC, nNG, nNL, jj_b1, jj_b2, js, jn, eq_self, if_true, if_false, ite_true, ite_false, ↓reduceIte, and_self, true_and, and_true, zb0, zb1, bM, bR, bCk, bMa, Bool.false_eq_true, Bool.and_self, Bool.and_true, Bool.true_and, li_0, li_1, li_2, li_3, li_4, li_5, li_6, li_7, li_8, li_16, li_18, li_21, li_25, li_46, li_54, li_58, li_60, li_79, li_87, li_89, li_95, li_96, li_100, li_104, li_108, li_116, li_127, li_128, li_132, li_153, li_158, li_159, li_164, li_167, li_172, li_176, li_177, li_184, li_188, li_190, li_198, li_199, li_200, li_202, li_240, li_255, li_256, li_32767, li_32768, li_65536, h61 j hj]) (fun j hj => by
        by_cases w : j = k
        · rw [w, js]
        · have := h63 j (by omega)
          simp (disch := omega) only [nA, nS, nM, nLT, nLF, nTT, nTF, nEF, nET, nBT, nBF, nC, nNG, nNL, jj_b1, jj_b2, js, jn, eq_self, if_true, if_false, ite_true, ite_false, ↓reduceIte, and_self, true_and, and_true, zb0, zb1, bM, bR, bCk, bMa, Bool.false_eq_true, Bool.and_self, Bool.and_true, Bool.true_and, li_0, li_1, li_2, li_3, li_4, li_5, li_6, li_7, li_8, li_16, li_18, li_21, li_25, li_46, li_54, li_58, li_60, li_79, li_87, li_89, li_95, li_96, li_100, li_104, li_108, li_116, li_127, li_128, li_132, li_153, li_158, li_159, li_164, li_167, li_172, li_176, li_177, li_184, li_188, li_190, li_198, li_199, li_200, li_202, li_240, li_255, li_256, li_32767, li_32768, li_65536, this])
      refine ⟨y', ?_, A.trans d2, d3, d4⟩
      rw [show g_Mo_become (f + 1) 53 [some (.ref 58), some (.int (nI (m_fr K b i))), some (.int (nI k))] z = k_Mo_become_53 (g_Mo_become f) 58 (nI (m_fr K b i)) (nI k) z from rfl]
      simp (disch := omega) only [nA, nS, nM, nLT, nLF, nTT, nTF, nEF, nET, nBT, nBF, nC, nNG, nNL, jj_b1, jj_b2, js, jn, eq_self, if_true, if_false, ite_true, ite_false, ↓reduceIte, and_self, true_and, and_true, zb0, zb1, bM, bR, bCk, bMa, Bool.false_eq_true, Bool.and_self, Bool.and_true, Bool.true_and, li_0, li_1, li_2, li_3, li_4, li_5, li_6, li_7, li_8, li_16, li_18, li_21, li_25, li_46, li_54, li_58, li_60, li_79, li_87, li_89, li_95, li_96, li_100, li_104, li_108, li_116, li_127, li_128, li_132, li_153, li_158, li_159, li_164, li_167, li_172, li_176, li_177, li_184, li_188, li_190, li_198, li_199, li_200, li_202, li_240, li_255, li_256, li_32767, li_32768, li_65536, k_Mo_become_53, h65, q4, e1, d1]
  have G1 : ∀ (r k f : Nat) (z : jj_Mem), k + r = m_pl K b → r + 8 < f → KP K n z → MO K b z → (∀ j, j < 6 → (j < k ∨ m_pl K b ≤ j) → z 61 j = nI (fp K b i j)) → ∃ y', g_Mo_become f 2 [some (.ref 58), some (.int (nI (m_fr K b i))), some (.int (nI k))] z = some y' ∧ Same WP0 z y' ∧ KB 0 y' (fp K b i) (fs K b i) (fh K b i) ∧ y' 58 22 = nI 1 := by
    intro r
    induction r with
    | zero =>
      intro k f z hk hf hK hO h61
      obtain ⟨f, rfl⟩ : ∃ g, f = g + 1 := ⟨f - 1, by omega⟩
      have e1 := hK (m_fr K b i + 1 + m_pl K b) (by omega)
      have q4 := hO.2.2.2.1
      have A : Same WP0 z (jj_set z 65 0 (nI (fh K b i))) := (Same.refl z).set _ (by omega)
      obtain ⟨y', d1, d2, d3, d4⟩ := G2 (fh K b i) 0 f (jj_set z 65 0 (nI (fh K b i))) (by omega) (by omega) (hK.same A (fun k => by omega)) (hO.same A (fun k _ _ => by omega)) (js _ _ _ _) (fun j hj => by
        have := h61 j hj (by omega)
        simp (disch := omega) only [nA, nS, nM, nLT, nLF, nTT, nTF, nEF, nET, nBT, nBF, nC, nNG, nNL, jj_b1, jj_b2, js, jn, eq_self, if_true, if_false, ite_true, ite_false, ↓reduceIte, and_self, true_and, and_true, zb0, zb1, bM, bR, bCk, bMa, Bool.false_eq_true, Bool.and_self, Bool.and_true, Bool.true_and, li_0, li_1, li_2, li_3, li_4, li_5, li_6, li_7, li_8, li_16, li_18, li_21, li_25, li_46, li_54, li_58, li_60, li_79, li_87, li_89, li_95, li_96, li_100, li_104, li_108, li_116, li_127, li_128, li_132, li_153, li_158, li_159, li_164, li_167, li_172, li_176, li_177, li_184, li_188, li_190, li_198, li_199, li_200, li_202, li_240, li_255, li_256, li_32767, li_32768, li_65536, this]) (fun j hj => by omega)
      refine ⟨y', ?_, A.trans d2, d3, d4⟩
      rw [show g_Mo_become (f + 1) 2 [some (.ref 58), some (.int (nI (m_fr K b i))), some (.int (nI k))] z = k_Mo_become_2 (g_Mo_become f) 58 (nI (m_fr K b i)) (nI k) z from rfl]
      rw [hfe] at d1
      simp (disch := omega) only [nA, nS, nM, nLT, nLF, nTT, nTF, nEF, nET, nBT, nBF, nC, nNG, nNL, jj_b1, jj_b2, js, jn, eq_self, if_true, if_false, ite_true, ite_false, ↓reduceIte, and_self, true_and, and_true, zb0, zb1, bM, bR, bCk, bMa, Bool.false_eq_true, Bool.and_self, Bool.and_true, Bool.true_and, li_0, li_1, li_2, li_3, li_4, li_5, li_6, li_7, li_8, li_16, li_18, li_21, li_25, li_46, li_54, li_58, li_60, li_79, li_87, li_89, li_95, li_96, li_100, li_104, li_108, li_116, li_127, li_128, li_132, li_153, li_158, li_159, li_164, li_167, li_172, li_176, li_177, li_184, li_188, li_190, li_198, li_199, li_200, li_202, li_240, li_255, li_256, li_32767, li_32768, li_65536, k_Mo_become_2, q4, e1, d1]
    | succ r ih =>
      intro k f z hk hf hK hO h61
      obtain ⟨f, rfl⟩ : ∃ g, f = g + 1 := ⟨f - 1, by omega⟩
      have e1 := hK (m_fr K b i + 1 + k) (by omega)
      have q4 := hO.2.2.2.1
      have A : Same WP0 z (jj_set z 61 k (nI (K (m_fr K b i + 1 + k)))) := (Same.refl z).set _ (by omega)
      obtain ⟨y', d1, d2, d3, d4⟩ := ih (k + 1) f (jj_set z 61 k (nI (K (m_fr K b i + 1 + k)))) (by omega) (by omega) (hK.same A (fun k => by omega)) (hO.same A (fun k _ _ => by omega)) (fun j hj hj2 => by
        by_cases w : j = k
        · rw [w, js]
          unfold fp
          rw [if_pos (by omega)]
        · have := h61 j hj (by omega)
          simp (disch := omega) only [nA, nS, nM, nLT, nLF, nTT, nTF, nEF, nET, nBT, nBF, nC, nNG, nNL, jj_b1, jj_b2, js, jn, eq_self, if_true, if_false, ite_true, ite_false, ↓reduceIte, and_self, true_and, and_true, zb0, zb1, bM, bR, bCk, bMa, Bool.false_eq_true, Bool.and_self, Bool.and_true, Bool.true_and, li_0, li_1, li_2, li_3, li_4, li_5, li_6, li_7, li_8, li_16, li_18, li_21, li_25, li_46, li_54, li_58, li_60, li_79, li_87, li_89, li_95, li_96, li_100, li_104, li_108, li_116, li_127, li_128, li_132, li_153, li_158, li_159, li_164, li_167, li_172, li_176, li_177, li_184, li_188, li_190, li_198, li_199, li_200, li_202, li_240, li_255, li_256, li_32767, li_32768, li_65536, this])
      refine ⟨y', ?_, A.trans d2, d3, d4⟩
      rw [show g_Mo_become (f + 1) 2 [some (.ref 58), some (.int (nI (m_fr K b i))), some (.int (nI k))] z = k_Mo_become_2 (g_Mo_become f) 58 (nI (m_fr K b i)) (nI k) z from rfl]
      simp (disch := omega) only [nA, nS, nM, nLT, nLF, nTT, nTF, nEF, nET, nBT, nBF, nC, nNG, nNL, jj_b1, jj_b2, js, jn, eq_self, if_true, if_false, ite_true, ite_false, ↓reduceIte, and_self, true_and, and_true, zb0, zb1, bM, bR, bCk, bMa, Bool.false_eq_true, Bool.and_self, Bool.and_true, Bool.true_and, li_0, li_1, li_2, li_3, li_4, li_5, li_6, li_7, li_8, li_16, li_18, li_21, li_25, li_46, li_54, li_58, li_60, li_79, li_87, li_89, li_95, li_96, li_100, li_104, li_108, li_116, li_127, li_128, li_132, li_153, li_158, li_159, li_164, li_167, li_172, li_176, li_177, li_184, li_188, li_190, li_198, li_199, li_200, li_202, li_240, li_255, li_256, li_32767, li_32768, li_65536, k_Mo_become_2, q4, e1, d1]
  exact G1 (m_pl K b) 0 1000 y (by omega) (by omega) hK hO (fun j hj hj2 => by
    have := hB.2.1 j hj
    rw [show 6 * 0 + j = j by omega] at this
    rw [this]
    unfold fp
    rw [if_neg (by omega), hz j (by omega)])
abbrev WC (i k : Nat) : Prop := (i = 26 ∧ k = 1) ∨ (i = 27 ∧ k = 4) ∨ (28 ≤ i ∧ i ≤ 31)
theorem Same.ac {x y : jj_Mem} (h : Same (WS 27) x y) : Same WC x y := h.mono (fun i k z => by omega)
theorem ck_become (hP : o_Pr P) (hq : o_Me q) (hqP : P + 3 ≤ q ∧ q < 23) (hF : By K n) (hM : MtOK K n (K 1) (mcn K) b N) (hx : ∀ k, k < n → x (P + 1) k = nI (K k)) (hC : MtC K b q x) (hi : i < m_fc K b) (hA : KA 27 x pk sk h) (hz : ∀ k, m_pl K b ≤ k → pk k = 0) : ∃ x', k_Ck_entersFrame_36 (g_Ck_entersFrame 1000) 26 P q (nI i) x = some (nI 1, x') ∧ Same WC x x' ∧ KA 27 x' (fp K b i) (fs K b i) (fh K b i) ∧ x' 26 1 = nI 1 := by
  have h240 := hF.1
  have hP2 := oc_Pr hP
  have bP : bo_Pr P = true := hP
  have bq : bo_Me q = true := hq
  have h8 := hM.2.2.2.1
  have hpl := hM.1.2.2.2.2.2.1
  have hdp := hM.1.2.2.2.1
  have a0 := fr_ok hM hi
  have a2 := a0.2.2.2.2
  have hfh : fh K b i ≤ 6 := by have := a0.2.2.1; unfold fh; omega
  have hfe : fh K b i = K (m_fr K b i + 1 + m_pl K b) := rfl
  have G2 : ∀ (r k f : Nat) (z : jj_Mem) (pv sv : Nat → Int32) (sk : Nat → Nat), k + r = fh K b i → r < f → (∀ k, k < n → z (P + 1) k = nI (K k)) → MtC K b q z → KV 27 z (fp K b i) pv sk sv k → (∀ j, j < k → sk j = K (m_fr K b i + 2 + m_pl K b + j)) → ∃ x', g_Ck_entersFrame f 84 [some (.ref 26), some (.ref P), some (.ref q), none, some (.int (nI i)), some (.int (nI k))] z = some (nI 1, x') ∧ Same WC z x' ∧ KA 27 x' (fp K b i) (fs K b i) (fh K b i) ∧ x' 26 1 = nI 1 := by
    intro r
    induction r with
    | zero =>
      intro k f z pv sv sk hk hf hx hC hV hs
      obtain ⟨f, rfl⟩ : ∃ g, f = g + 1 := ⟨f - 1, by omega⟩
      have a1 := hC.2.2 i hi
      have q4 := hC.1.2.2.2.2.1
      have a3 := hx (m_fr K b i + 1 + m_pl K b) (by omega)
      have e1 : f_Pr_frameHeight P q (nI i) z = some (nI (fh K b i), z) := by
        unfold f_Pr_frameHeight fh
        simp (disch := omega) only [nA, nS, nM, nLT, nLF, nTT, nTF, nEF, nET, nBT, nBF, nC, nNG, nNL, jj_b1, jj_b2, js, jn, eq_self, if_true, if_false, ite_true, ite_false, ↓reduceIte, and_self, true_and, and_true, zb0, zb1, bM, bR, bCk, bMa, Bool.false_eq_true, Bool.and_self, Bool.and_true, Bool.true_and, li_0, li_1, li_2, li_3, li_4, li_5, li_6, li_7, li_8, li_16, li_18, li_21, li_25, li_46, li_54, li_58, li_60, li_79, li_87, li_89, li_95, li_96, li_100, li_104, li_108, li_116, li_127, li_128, li_132, li_153, li_158, li_159, li_164, li_167, li_172, li_176, li_177, li_184, li_188, li_190, li_198, li_199, li_200, li_202, li_240, li_255, li_256, li_32767, li_32768, li_65536, a1, q4, a3]
      have hV2 := hV.same (W := fun i k => i = 26) (Same.set (Same.refl z) (i := 26) (k := 1) (nI 1) rfl) (by omega) (fun i k _ _ => by omega)
      refine ⟨jj_set z 26 1 (nI 1), ?_, (Same.refl z).set _ (by omega), ?_, js _ _ _ _⟩
      · simp (disch := omega) only [nA, nS, nM, nLT, nLF, nTT, nTF, nEF, nET, nBT, nBF, nC, nNG, nNL, jj_b1, jj_b2, js, jn, eq_self, if_true, if_false, ite_true, ite_false, ↓reduceIte, and_self, true_and, and_true, zb0, zb1, bM, bR, bCk, bMa, Bool.false_eq_true, Bool.and_self, Bool.and_true, Bool.true_and, li_0, li_1, li_2, li_3, li_4, li_5, li_6, li_7, li_8, li_16, li_18, li_21, li_25, li_46, li_54, li_58, li_60, li_79, li_87, li_89, li_95, li_96, li_100, li_104, li_108, li_116, li_127, li_128, li_132, li_153, li_158, li_159, li_164, li_167, li_172, li_176, li_177, li_184, li_188, li_190, li_198, li_199, li_200, li_202, li_240, li_255, li_256, li_32767, li_32768, li_65536, g_Ck_entersFrame, k_Ck_entersFrame_84, bP, bq, e1]
      · refine ⟨by rw [hV2.1, show k = fh K b i by omega], fun j hj => (hV2.2.1 j hj).1, fun j hj => ?_⟩
        rw [(hV2.2.2 j (by omega)).1, hs j (by omega)]
        unfold fs
        rw [if_pos hj]
    | succ r ih =>
      intro k f z pv sv sk hk hf hx hC hV hs
      obtain ⟨f, rfl⟩ : ∃ g, f = g + 1 := ⟨f - 1, by omega⟩
      have a1 := hC.2.2 i hi
      have q4 := hC.1.2.2.2.2.1
      have a3 := hx (m_fr K b i + 1 + m_pl K b) (by omega)
      have e1 : f_Pr_frameHeight P q (nI i) z = some (nI (fh K b i), z) := by
        unfold f_Pr_frameHeight fh
        simp (disch := omega) only [nA, nS, nM, nLT, nLF, nTT, nTF, nEF, nET, nBT, nBF, nC, nNG, nNL, jj_b1, jj_b2, js, jn, eq_self, if_true, if_false, ite_true, ite_false, ↓reduceIte, and_self, true_and, and_true, zb0, zb1, bM, bR, bCk, bMa, Bool.false_eq_true, Bool.and_self, Bool.and_true, Bool.true_and, li_0, li_1, li_2, li_3, li_4, li_5, li_6, li_7, li_8, li_16, li_18, li_21, li_25, li_46, li_54, li_58, li_60, li_79, li_87, li_89, li_95, li_96, li_100, li_104, li_108, li_116, li_127, li_128, li_132, li_153, li_158, li_159, li_164, li_167, li_172, li_176, li_177, li_184, li_188, li_190, li_198, li_199, li_200, li_202, li_240, li_255, li_256, li_32767, li_32768, li_65536, a1, q4, a3]
      have e2 := hx (m_fr K b i + 2 + m_pl K b + k) (by omega)
      have e3 : f_Pr_frameValue P q (nI i) (nI k) z = some (nI (K (m_fr K b i + 2 + m_pl K b + k)), z) := by
        unfold f_Pr_frameValue
        simp (disch := omega) only [nA, nS, nM, nLT, nLF, nTT, nTF, nEF, nET, nBT, nBF, nC, nNG, nNL, jj_b1, jj_b2, js, jn, eq_self, if_true, if_false, ite_true, ite_false, ↓reduceIte, and_self, true_and, and_true, zb0, zb1, bM, bR, bCk, bMa, Bool.false_eq_true, Bool.and_self, Bool.and_true, Bool.true_and, li_0, li_1, li_2, li_3, li_4, li_5, li_6, li_7, li_8, li_16, li_18, li_21, li_25, li_46, li_54, li_58, li_60, li_79, li_87, li_89, li_95, li_96, li_100, li_104, li_108, li_116, li_127, li_128, li_132, li_153, li_158, li_159, li_164, li_167, li_172, li_176, li_177, li_184, li_188, li_190, li_198, li_199, li_200, li_202, li_240, li_255, li_256, li_32767, li_32768, li_65536, a1, q4, e2]
      obtain ⟨z', c1, c2, c3⟩ := sp_put hV (by omega) (K (m_fr K b i + 2 + m_pl K b + k)) (nI 0)
      obtain ⟨x', d1, d2, d3, d4⟩ := ih (k + 1) f z' _ _ _ (by omega) (by omega) (fun k hk => by rw [c2.get _ _ (by omega)]; exact hx k hk) (hC.same c2 (fun k => by omega) (fun k => by omega)) c3 (fun j hj => by
        by_cases w : j = k
        · rw [ud_e w, w]
        · rw [ud_n w]; exact hs j (by omega))
      refine ⟨x', ?_, c2.ac.trans d2, d3, d4⟩
      rw [show g_Ck_entersFrame (f + 1) 84 [some (.ref 26), some (.ref P), some (.ref q), none, some (.int (nI i)), some (.int (nI k))] z = if (bo_Ck 26 && bo_Pr P && bo_Me q) = true then k_Ck_entersFrame_84 (g_Ck_entersFrame f) 26 P q (nI i) (nI k) z else none from rfl]
      simp (disch := omega) only [nA, nS, nM, nLT, nLF, nTT, nTF, nEF, nET, nBT, nBF, nC, nNG, nNL, jj_b1, jj_b2, js, jn, eq_self, if_true, if_false, ite_true, ite_false, ↓reduceIte, and_self, true_and, and_true, zb0, zb1, bM, bR, bCk, bMa, Bool.false_eq_true, Bool.and_self, Bool.and_true, Bool.true_and, li_0, li_1, li_2, li_3, li_4, li_5, li_6, li_7, li_8, li_16, li_18, li_21, li_25, li_46, li_54, li_58, li_60, li_79, li_87, li_89, li_95, li_96, li_100, li_104, li_108, li_116, li_127, li_128, li_132, li_153, li_158, li_159, li_164, li_167, li_172, li_176, li_177, li_184, li_188, li_190, li_198, li_199, li_200, li_202, li_240, li_255, li_256, li_32767, li_32768, li_65536, k_Ck_entersFrame_84, bP, bq, e1, e3, c1, d1]
  have G1 : ∀ (r k f : Nat) (z : jj_Mem) (pv sv : Nat → Int32) (pk sk : Nat → Nat) (h : Nat), k + r = m_pl K b → r + 8 < f → (∀ k, k < n → z (P + 1) k = nI (K k)) → MtC K b q z → KV 27 z pk pv sk sv h → (∀ j, (j < k ∨ m_pl K b ≤ j) → pk j = fp K b i j) → ∃ x', g_Ck_entersFrame f 39 [some (.ref 26), some (.ref P), some (.ref q), none, some (.int (nI i)), some (.int (nI k))] z = some (nI 1, x') ∧ Same WC z x' ∧ KA 27 x' (fp K b i) (fs K b i) (fh K b i) ∧ x' 26 1 = nI 1 := by
    intro r
    induction r with
    | zero =>
      intro k f z pv sv pk sk h hk hf hx hC hV hs
      obtain ⟨f, rfl⟩ : ∃ g, f = g + 1 := ⟨f - 1, by omega⟩
      have q4 := hC.1.2.2.2.2.1
      have A : Same (WS 27) z (jj_set z 27 4 (nI 0)) := (Same.refl z).set _ (by omega)
      have hV0 : KV 27 (jj_set z 27 4 (nI 0)) (fp K b i) pv (fun _ => 0) sv 0 := ⟨js _ _ _ _, fun j hj => by
        obtain ⟨q1, q2⟩ := hV.2.1 j hj
        have := hs j (by omega)
        rw [this] at q1
        exact ⟨by simp (disch := omega) only [nA, nS, nM, nLT, nLF, nTT, nTF, nEF, nET, nBT, nBF, nC, nNG, nNL, jj_b1, jj_b2, js, jn, eq_self, if_true, if_false, ite_true, ite_false, ↓reduceIte, and_self, true_and, and_true, zb0, zb1, bM, bR, bCk, bMa, Bool.false_eq_true, Bool.and_self, Bool.and_true, Bool.true_and, li_0, li_1, li_2, li_3, li_4, li_5, li_6, li_7, li_8, li_16, li_18, li_21, li_25, li_46, li_54, li_58, li_60, li_79, li_87, li_89, li_95, li_96, li_100, li_104, li_108, li_116, li_127, li_128, li_132, li_153, li_158, li_159, li_164, li_167, li_172, li_176, li_177, li_184, li_188, li_190, li_198, li_199, li_200, li_202, li_240, li_255, li_256, li_32767, li_32768, li_65536, q1], by simp (disch := omega) only [nA, nS, nM, nLT, nLF, nTT, nTF, nEF, nET, nBT, nBF, nC, nNG, nNL, jj_b1, jj_b2, js, jn, eq_self, if_true, if_false, ite_true, ite_false, ↓reduceIte, and_self, true_and, and_true, zb0, zb1, bM, bR, bCk, bMa, Bool.false_eq_true, Bool.and_self, Bool.and_true, Bool.true_and, li_0, li_1, li_2, li_3, li_4, li_5, li_6, li_7, li_8, li_16, li_18, li_21, li_25, li_46, li_54, li_58, li_60, li_79, li_87, li_89, li_95, li_96, li_100, li_104, li_108, li_116, li_127, li_128, li_132, li_153, li_158, li_159, li_164, li_167, li_172, li_176, li_177, li_184, li_188, li_190, li_198, li_199, li_200, li_202, li_240, li_255, li_256, li_32767, li_32768, li_65536, q2]⟩, fun j hj => by omega⟩
      obtain ⟨x', d1, d2, d3, d4⟩ := G2 (fh K b i) 0 f (jj_set z 27 4 (nI 0)) _ _ _ (by omega) (by omega) (fun k hk => by rw [A.get _ _ (by omega)]; exact hx k hk) (hC.same A (fun k => by omega) (fun k => by omega)) hV0 (fun j hj => by omega)
      refine ⟨x', ?_, A.ac.trans d2, d3, d4⟩
      rw [show g_Ck_entersFrame (f + 1) 39 [some (.ref 26), some (.ref P), some (.ref q), none, some (.int (nI i)), some (.int (nI k))] z = if (bo_Ck 26 && bo_Pr P && bo_Me q) = true then k_Ck_entersFrame_39 (g_Ck_entersFrame f) 26 P q (nI i) (nI k) z else none from rfl]
      simp (disch := omega) only [nA, nS, nM, nLT, nLF, nTT, nTF, nEF, nET, nBT, nBF, nC, nNG, nNL, jj_b1, jj_b2, js, jn, eq_self, if_true, if_false, ite_true, ite_false, ↓reduceIte, and_self, true_and, and_true, zb0, zb1, bM, bR, bCk, bMa, Bool.false_eq_true, Bool.and_self, Bool.and_true, Bool.true_and, li_0, li_1, li_2, li_3, li_4, li_5, li_6, li_7, li_8, li_16, li_18, li_21, li_25, li_46, li_54, li_58, li_60, li_79, li_87, li_89, li_95, li_96, li_100, li_104, li_108, li_116, li_127, li_128, li_132, li_153, li_158, li_159, li_164, li_167, li_172, li_176, li_177, li_184, li_188, li_190, li_198, li_199, li_200, li_202, li_240, li_255, li_256, li_32767, li_32768, li_65536, k_Ck_entersFrame_39, bP, bq, q4, d1]
    | succ r ih =>
      intro k f z pv sv pk sk h hk hf hx hC hV hs
      obtain ⟨f, rfl⟩ : ∃ g, f = g + 1 := ⟨f - 1, by omega⟩
      have a1 := hC.2.2 i hi
      have q4 := hC.1.2.2.2.2.1
      have e2 := hx (m_fr K b i + 1 + k) (by omega)
      have e3 : f_Pr_framePlace P q (nI i) (nI k) z = some (nI (K (m_fr K b i + 1 + k)), z) := by
        unfold f_Pr_framePlace
        simp (disch := omega) only [nA, nS, nM, nLT, nLF, nTT, nTF, nEF, nET, nBT, nBF, nC, nNG, nNL, jj_b1, jj_b2, js, jn, eq_self, if_true, if_false, ite_true, ite_false, ↓reduceIte, and_self, true_and, and_true, zb0, zb1, bM, bR, bCk, bMa, Bool.false_eq_true, Bool.and_self, Bool.and_true, Bool.true_and, li_0, li_1, li_2, li_3, li_4, li_5, li_6, li_7, li_8, li_16, li_18, li_21, li_25, li_46, li_54, li_58, li_60, li_79, li_87, li_89, li_95, li_96, li_100, li_104, li_108, li_116, li_127, li_128, li_132, li_153, li_158, li_159, li_164, li_167, li_172, li_176, li_177, li_184, li_188, li_190, li_198, li_199, li_200, li_202, li_240, li_255, li_256, li_32767, li_32768, li_65536, a1, q4, e2]
      obtain ⟨z', c1, c2, c3⟩ := sp_setPlace hV (u := k) (by omega) (K (m_fr K b i + 1 + k)) (nI 0)
      obtain ⟨x', d1, d2, d3, d4⟩ := ih (k + 1) f z' _ _ _ _ _ (by omega) (by omega) (fun k hk => by rw [c2.get _ _ (by omega)]; exact hx k hk) (hC.same c2 (fun k => by omega) (fun k => by omega)) c3 (fun j hj => by
        by_cases w : j = k
        · rw [ud_e w, w]
          unfold fp
          rw [if_pos (by omega)]
        · rw [ud_n w]; exact hs j (by omega))
      refine ⟨x', ?_, c2.ac.trans d2, d3, d4⟩
      rw [show g_Ck_entersFrame (f + 1) 39 [some (.ref 26), some (.ref P), some (.ref q), none, some (.int (nI i)), some (.int (nI k))] z = if (bo_Ck 26 && bo_Pr P && bo_Me q) = true then k_Ck_entersFrame_39 (g_Ck_entersFrame f) 26 P q (nI i) (nI k) z else none from rfl]
      simp (disch := omega) only [nA, nS, nM, nLT, nLF, nTT, nTF, nEF, nET, nBT, nBF, nC, nNG, nNL, jj_b1, jj_b2, js, jn, eq_self, if_true, if_false, ite_true, ite_false, ↓reduceIte, and_self, true_and, and_true, zb0, zb1, bM, bR, bCk, bMa, Bool.false_eq_true, Bool.and_self, Bool.and_true, Bool.true_and, li_0, li_1, li_2, li_3, li_4, li_5, li_6, li_7, li_8, li_16, li_18, li_21, li_25, li_46, li_54, li_58, li_60, li_79, li_87, li_89, li_95, li_96, li_100, li_104, li_108, li_116, li_127, li_128, li_132, li_153, li_158, li_159, li_164, li_167, li_172, li_176, li_177, li_184, li_188, li_190, li_198, li_199, li_200, li_202, li_240, li_255, li_256, li_32767, li_32768, li_65536, k_Ck_entersFrame_39, bP, bq, q4, e3, c1, d1]
  exact G1 (m_pl K b) 0 1000 x _ _ _ _ _ (by omega) (by omega) hx hC hA.kv (fun j hj => by
    unfold fp
    rw [if_neg (by omega)]
    exact hz j (by omega))
theorem mo_begin (hc : c < 4) (hF : By K n) (hM : MtOK K n (K 1) (mcn K) b N) (hK : KP K n y) (hO : MO K b y) (sk' : Nat → Nat) (sv' : Nat → Int32) : ∃ y', f_Mo_begin 58 (nI c) y = some y' ∧ Same (WP c) y y' ∧ KVB c y' (ip K b) (fun _ => nI 0) sk' sv' 0 := by
  have h240 := hF.1
  have h3 := hM.1.1
  have h9 := hM.1.2.2.2.2.2.2.2.2
  have e := m_cd.eq_1 K b
  have G : ∀ (r k f : Nat) (z : jj_Mem), k + r = 6 → r < f → KP K n z → MO K b z → z 65 c = nI 0 → (∀ j, j < k → z 61 (6 * c + j) = nI (ip K b j) ∧ z 62 (6 * c + j) = nI 0) → ∃ y', g_Mo_begin f 9 [some (.ref 58), some (.int (nI c)), some (.int (nI k))] z = some y' ∧ Same (WP c) z y' ∧ KVB c y' (ip K b) (fun _ => nI 0) sk' sv' 0 := by
    intro r
    induction r with
    | zero =>
      intro k f z hk hf hK hO h65 hj
      obtain ⟨f, rfl⟩ : ∃ g, f = g + 1 := ⟨f - 1, by omega⟩
      refine ⟨z, ?_, Same.refl z, h65, fun j hj' => hj j (by omega), fun j hj' => by omega⟩
      simp (disch := omega) only [nA, nS, nM, nLT, nLF, nTT, nTF, nEF, nET, nBT, nBF, nC, nNG, nNL, jj_b1, jj_b2, js, jn, eq_self, if_true, if_false, ite_true, ite_false, ↓reduceIte, and_self, true_and, and_true, zb0, zb1, bM, bR, bCk, bMa, Bool.false_eq_true, Bool.and_self, Bool.and_true, Bool.true_and, li_0, li_1, li_2, li_3, li_4, li_5, li_6, li_7, li_8, li_16, li_18, li_21, li_25, li_46, li_54, li_58, li_60, li_79, li_87, li_89, li_95, li_96, li_100, li_104, li_108, li_116, li_127, li_128, li_132, li_153, li_158, li_159, li_164, li_167, li_172, li_176, li_177, li_184, li_188, li_190, li_198, li_199, li_200, li_202, li_240, li_255, li_256, li_32767, li_32768, li_65536, g_Mo_begin, k_Mo_begin_9]
    | succ r ih =>
      intro k f z hk hf hK hO h65 hj
      obtain ⟨f, rfl⟩ : ∃ g, f = g + 1 := ⟨f - 1, by omega⟩
      have A : Same (WP c) z (jj_set (jj_set z 61 (6 * c + k) (nI (ip K b k))) 62 (6 * c + k) (nI 0)) := ((Same.refl z).set _ (by omega)).set _ (by omega)
      obtain ⟨y', d1, d2, d3⟩ := ih (k + 1) f (jj_set (jj_set z 61 (6 * c + k) (nI (ip K b k))) 62 (6 * c + k) (nI 0)) (by omega) (by omega) (hK.same A (fun k => by omega)) (hO.same A (fun k _ _ => by omega)) (by simp (disch := omega) only [nA, nS, nM, nLT, nLF, nTT, nTF, nEF, nET, nBT, nBF, nC, nNG, nNL, jj_b1, jj_b2, js, jn, eq_self, if_true, if_false, ite_true, ite_false, ↓reduceIte, and_self, true_and, and_true, zb0, zb1, bM, bR, bCk, bMa, Bool.false_eq_true, Bool.and_self, Bool.and_true, Bool.true_and, li_0, li_1, li_2, li_3, li_4, li_5, li_6, li_7, li_8, li_16, li_18, li_21, li_25, li_46, li_54, li_58, li_60, li_79, li_87, li_89, li_95, li_96, li_100, li_104, li_108, li_116, li_127, li_128, li_132, li_153, li_158, li_159, li_164, li_167, li_172, li_176, li_177, li_184, li_188, li_190, li_198, li_199, li_200, li_202, li_240, li_255, li_256, li_32767, li_32768, li_65536, h65]) (fun j hj' => by
        by_cases w : j = k
        · rw [w]
          exact ⟨by simp (disch := omega) only [nA, nS, nM, nLT, nLF, nTT, nTF, nEF, nET, nBT, nBF, nC, nNG, nNL, jj_b1, jj_b2, js, jn, eq_self, if_true, if_false, ite_true, ite_false, ↓reduceIte, and_self, true_and, and_true, zb0, zb1, bM, bR, bCk, bMa, Bool.false_eq_true, Bool.and_self, Bool.and_true, Bool.true_and, li_0, li_1, li_2, li_3, li_4, li_5, li_6, li_7, li_8, li_16, li_18, li_21, li_25, li_46, li_54, li_58, li_60, li_79, li_87, li_89, li_95, li_96, li_100, li_104, li_108, li_116, li_127, li_128, li_132, li_153, li_158, li_159, li_164, li_167, li_172, li_176, li_177, li_184, li_188, li_190, li_198, li_199, li_200, li_202, li_240, li_255, li_256, li_32767, li_32768, li_65536], by simp (disch := omega) only [nA, nS, nM, nLT, nLF, nTT, nTF, nEF, nET, nBT, nBF, nC, nNG, nNL, jj_b1, jj_b2, js, jn, eq_self, if_true, if_false, ite_true, ite_false, ↓reduceIte, and_self, true_and, and_true, zb0, zb1, bM, bR, bCk, bMa, Bool.false_eq_true, Bool.and_self, Bool.and_true, Bool.true_and, li_0, li_1, li_2, li_3, li_4, li_5, li_6, li_7, li_8, li_16, li_18, li_21, li_25, li_46, li_54, li_58, li_60, li_79, li_87, li_89, li_95, li_96, li_100, li_104, li_108, li_116, li_127, li_128, li_132, li_153, li_158, li_159, li_164, li_167, li_172, li_176, li_177, li_184, li_188, li_190, li_198, li_199, li_200, li_202, li_240, li_255, li_256, li_32767, li_32768, li_65536]⟩
        · obtain ⟨q1, q2⟩ := hj j (by omega)
          exact ⟨by simp (disch := omega) only [nA, nS, nM, nLT, nLF, nTT, nTF, nEF, nET, nBT, nBF, nC, nNG, nNL, jj_b1, jj_b2, js, jn, eq_self, if_true, if_false, ite_true, ite_false, ↓reduceIte, and_self, true_and, and_true, zb0, zb1, bM, bR, bCk, bMa, Bool.false_eq_true, Bool.and_self, Bool.and_true, Bool.true_and, li_0, li_1, li_2, li_3, li_4, li_5, li_6, li_7, li_8, li_16, li_18, li_21, li_25, li_46, li_54, li_58, li_60, li_79, li_87, li_89, li_95, li_96, li_100, li_104, li_108, li_116, li_127, li_128, li_132, li_153, li_158, li_159, li_164, li_167, li_172, li_176, li_177, li_184, li_188, li_190, li_198, li_199, li_200, li_202, li_240, li_255, li_256, li_32767, li_32768, li_65536, q1], by simp (disch := omega) only [nA, nS, nM, nLT, nLF, nTT, nTF, nEF, nET, nBT, nBF, nC, nNG, nNL, jj_b1, jj_b2, js, jn, eq_self, if_true, if_false, ite_true, ite_false, ↓reduceIte, and_self, true_and, and_true, zb0, zb1, bM, bR, bCk, bMa, Bool.false_eq_true, Bool.and_self, Bool.and_true, Bool.true_and, li_0, li_1, li_2, li_3, li_4, li_5, li_6, li_7, li_8, li_16, li_18, li_21, li_25, li_46, li_54, li_58, li_60, li_79, li_87, li_89, li_95, li_96, li_100, li_104, li_108, li_116, li_127, li_128, li_132, li_153, li_158, li_159, li_164, li_167, li_172, li_176, li_177, li_184, li_188, li_190, li_198, li_199, li_200, li_202, li_240, li_255, li_256, li_32767, li_32768, li_65536, q2]⟩)
      refine ⟨y', ?_, A.trans d2, d3⟩
      have o8 := hO.1
      have o9 := hO.2.1
      rw [show g_Mo_begin (f + 1) 9 [some (.ref 58), some (.int (nI c)), some (.int (nI k))] z = k_Mo_begin_9 (g_Mo_begin f) 58 (nI c) (nI k) z from rfl]
      by_cases w : k < K b
      · have e1 := hK (b + 1 + k) (by omega)
        have e2 : ip K b k = K (b + 1 + k) := by unfold ip; rw [if_pos w]
        rw [e2] at d1
        simp (disch := omega) only [nA, nS, nM, nLT, nLF, nTT, nTF, nEF, nET, nBT, nBF, nC, nNG, nNL, jj_b1, jj_b2, js, jn, eq_self, if_true, if_false, ite_true, ite_false, ↓reduceIte, and_self, true_and, and_true, zb0, zb1, bM, bR, bCk, bMa, Bool.false_eq_true, Bool.and_self, Bool.and_true, Bool.true_and, li_0, li_1, li_2, li_3, li_4, li_5, li_6, li_7, li_8, li_16, li_18, li_21, li_25, li_46, li_54, li_58, li_60, li_79, li_87, li_89, li_95, li_96, li_100, li_104, li_108, li_116, li_127, li_128, li_132, li_153, li_158, li_159, li_164, li_167, li_172, li_176, li_177, li_184, li_188, li_190, li_198, li_199, li_200, li_202, li_240, li_255, li_256, li_32767, li_32768, li_65536, k_Mo_begin_9, k_Mo_begin_50, o8, o9, e1, d1]
      · have e2 : ip K b k = 0 := by unfold ip; rw [if_neg w]
        rw [e2] at d1
        simp (disch := omega) only [nA, nS, nM, nLT, nLF, nTT, nTF, nEF, nET, nBT, nBF, nC, nNG, nNL, jj_b1, jj_b2, js, jn, eq_self, if_true, if_false, ite_true, ite_false, ↓reduceIte, and_self, true_and, and_true, zb0, zb1, bM, bR, bCk, bMa, Bool.false_eq_true, Bool.and_self, Bool.and_true, Bool.true_and, li_0, li_1, li_2, li_3, li_4, li_5, li_6, li_7, li_8, li_16, li_18, li_21, li_25, li_46, li_54, li_58, li_60, li_79, li_87, li_89, li_95, li_96, li_100, li_104, li_108, li_116, li_127, li_128, li_132, li_153, li_158, li_159, li_164, li_167, li_172, li_176, li_177, li_184, li_188, li_190, li_198, li_199, li_200, li_202, li_240, li_255, li_256, li_32767, li_32768, li_65536, k_Mo_begin_9, k_Mo_begin_50, o8, o9, d1]
  have A : Same (WP c) y (jj_set y 65 c (nI 0)) := (Same.refl y).set _ (by omega)
  obtain ⟨y', d1, d2, d3⟩ := G 6 0 1000 (jj_set y 65 c (nI 0)) (by omega) (by omega) (hK.same A (fun k => by omega)) (hO.same A (fun k _ _ => by omega)) (js _ _ _ _) (fun j hj => by omega)
  refine ⟨y', ?_, A.trans d2, d3⟩
  unfold f_Mo_begin k_Mo_begin_0
  simp (disch := omega) only [nA, nS, nM, nLT, nLF, nTT, nTF, nEF, nET, nBT, nBF, nC, nNG, nNL, jj_b1, jj_b2, js, jn, eq_self, if_true, if_false, ite_true, ite_false, ↓reduceIte, and_self, true_and, and_true, zb0, zb1, bM, bR, bCk, bMa, Bool.false_eq_true, Bool.and_self, Bool.and_true, Bool.true_and, li_0, li_1, li_2, li_3, li_4, li_5, li_6, li_7, li_8, li_16, li_18, li_21, li_25, li_46, li_54, li_58, li_60, li_79, li_87, li_89, li_95, li_96, li_100, li_104, li_108, li_116, li_127, li_128, li_132, li_153, li_158, li_159, li_164, li_167, li_172, li_176, li_177, li_184, li_188, li_190, li_198, li_199, li_200, li_202, li_240, li_255, li_256, li_32767, li_32768, li_65536, d1]
end BECOME
