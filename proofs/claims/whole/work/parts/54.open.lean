/-! PURE: the reference's ways into the program it kept -/
def KP (K : Nat → Nat) (n : Nat) (y : jj_Mem) : Prop := ∀ k, k < n → y 60 k = nI (K k)
/-- the reference has method at b before it -/
def MO (K : Nat → Nat) (b : Nat) (y : jj_Mem) : Prop := y 58 8 = nI b ∧ y 58 9 = nI (K b) ∧ y 58 10 = nI (m_dp K b) ∧ y 58 11 = nI (m_pl K b) ∧ y 58 12 = nI (m_ln K b) ∧ y 58 13 = nI (m_cd K b)
theorem KP.same {W : Nat → Nat → Prop} {K : Nat → Nat} {n : Nat} {y y' : jj_Mem} (h : KP K n y) (g : Same W y y') (hW : ∀ k, ¬ W 60 k) : KP K n y' := fun k hk => by rw [g.get _ _ (hW k)]; exact h k hk
theorem MO.same {W : Nat → Nat → Prop} {K : Nat → Nat} {b : Nat} {y y' : jj_Mem} (h : MO K b y) (g : Same W y y') (hW : ∀ k, 8 ≤ k → k ≤ 13 → ¬ W 58 k) : MO K b y' := by
  obtain ⟨h1, h2, h3, h4, h5, h6⟩ := h
  refine ⟨?_, ?_, ?_, ?_, ?_, ?_⟩ <;> rw [g.get _ _ (hW _ (by omega) (by omega))] <;> assumption
section OPEN
variable {K : Nat → Nat} {n b cc mc N : Nat} {y : jj_Mem}
theorem mo_codeOf (hF : By K n) (hM : MtOK K n cc mc b N) (hK : KP K n y) : f_Mo_codeOf 58 (nI b) y = some (nI (m_cd K b), y) := by
  have h240 := hF.1
  have h9 := hM.1.2.2.2.2.2.2.2.2
  have e := m_cd.eq_1 K b
  have e1 := hK b (by omega)
  unfold f_Mo_codeOf
  simp (disch := omega) only [nA, nS, nM, nLT, nLF, nTT, nTF, nEF, nET, nBT, nBF, nC, nNG, nNL, jj_b1, jj_b2, js, jn, eq_self, if_true, if_false, ite_true, ite_false, ↓reduceIte, and_self, true_and, and_true, zb0, zb1, bM, bR, bCk, bMa, Bool.false_eq_true, Bool.and_self, Bool.and_true, Bool.true_and, li_0, li_1, li_2, li_3, li_4, li_5, li_6, li_7, li_8, li_16, li_18, li_21, li_25, li_46, li_54, li_58, li_60, li_79, li_87, li_89, li_95, li_96, li_100, li_104, li_108, li_116, li_127, li_128, li_132, li_153, li_158, li_159, li_164, li_167, li_172, li_176, li_177, li_184, li_188, li_190, li_198, li_199, li_200, li_202, li_240, li_255, li_256, li_32767, li_32768, li_65536, e1, m_cd]
theorem mo_lengthOf (hF : By K n) (hM : MtOK K n cc mc b N) (hK : KP K n y) : f_Mo_lengthOf 58 (nI b) y = some (nI (m_ln K b), y) := by
  have h240 := hF.1
  have h9 := hM.1.2.2.2.2.2.2.2.2
  have e := m_cd.eq_1 K b
  have e1 := hK b (by omega)
  have e2 := hK (b + 4 + K b) (by omega)
  unfold f_Mo_lengthOf
  simp (disch := omega) only [nA, nS, nM, nLT, nLF, nTT, nTF, nEF, nET, nBT, nBF, nC, nNG, nNL, jj_b1, jj_b2, js, jn, eq_self, if_true, if_false, ite_true, ite_false, ↓reduceIte, and_self, true_and, and_true, zb0, zb1, bM, bR, bCk, bMa, Bool.false_eq_true, Bool.and_self, Bool.and_true, Bool.true_and, li_0, li_1, li_2, li_3, li_4, li_5, li_6, li_7, li_8, li_16, li_18, li_21, li_25, li_46, li_54, li_58, li_60, li_79, li_87, li_89, li_95, li_96, li_100, li_104, li_108, li_116, li_127, li_128, li_132, li_153, li_158, li_159, li_164, li_167, li_172, li_176, li_177, li_184, li_188, li_190, li_198, li_199, li_200, li_202, li_240, li_255, li_256, li_32767, li_32768, li_65536, e1, e2, m_ln]
theorem mo_placesOf (hF : By K n) (hM : MtOK K n cc mc b N) (hK : KP K n y) : f_Mo_placesOf 58 (nI b) y = some (nI (m_pl K b), y) := by
  have h240 := hF.1
  have h9 := hM.1.2.2.2.2.2.2.2.2
  have e := m_cd.eq_1 K b
  have e1 := hK b (by omega)
  have e2 := hK (b + 3 + K b) (by omega)
  unfold f_Mo_placesOf
  simp (disch := omega) only [nA, nS, nM, nLT, nLF, nTT, nTF, nEF, nET, nBT, nBF, nC, nNG, nNL, jj_b1, jj_b2, js, jn, eq_self, if_true, if_false, ite_true, ite_false, ↓reduceIte, and_self, true_and, and_true, zb0, zb1, bM, bR, bCk, bMa, Bool.false_eq_true, Bool.and_self, Bool.and_true, Bool.true_and, li_0, li_1, li_2, li_3, li_4, li_5, li_6, li_7, li_8, li_16, li_18, li_21, li_25, li_46, li_54, li_58, li_60, li_79, li_87, li_89, li_95, li_96, li_100, li_104, li_108, li_116, li_127, li_128, li_132, li_153, li_158, li_159, li_164, li_167, li_172, li_176, li_177, li_184, li_188, li_190, li_198, li_199, li_200, li_202, li_240, li_255, li_256, li_32767, li_32768, li_65536, e1, e2, m_pl]
theorem mo_returnsOf (hF : By K n) (hM : MtOK K n cc mc b N) (hK : KP K n y) : f_Mo_returnsOf 58 (nI b) y = some (nI (m_rt K b), y) := by
  have h240 := hF.1
  have h9 := hM.1.2.2.2.2.2.2.2.2
  have e := m_cd.eq_1 K b
  have e1 := hK b (by omega)
  have e2 := hK (b + 1 + K b) (by omega)
  unfold f_Mo_returnsOf
  simp (disch := omega) only [nA, nS, nM, nLT, nLF, nTT, nTF, nEF, nET, nBT, nBF, nC, nNG, nNL, jj_b1, jj_b2, js, jn, eq_self, if_true, if_false, ite_true, ite_false, ↓reduceIte, and_self, true_and, and_true, zb0, zb1, bM, bR, bCk, bMa, Bool.false_eq_true, Bool.and_self, Bool.and_true, Bool.true_and, li_0, li_1, li_2, li_3, li_4, li_5, li_6, li_7, li_8, li_16, li_18, li_21, li_25, li_46, li_54, li_58, li_60, li_79, li_87, li_89, li_95, li_96, li_100, li_104, li_108, li_116, li_127, li_128, li_132, li_153, li_158, li_159, li_164, li_167, li_172, li_176, li_177, li_184, li_188, li_190, li_198, li_199, li_200, li_202, li_240, li_255, li_256, li_32767, li_32768, li_65536, e1, e2, m_rt]
theorem fr_lt (hM : MtOK K n cc mc b N) {i : Nat} (hi : i < m_fc K b) : m_fr K b i + 2 + m_pl K b + K (m_fr K b i + 1 + m_pl K b) ≤ n := (hM.2.2.2.2.1 i hi).2.1.2.2.2.2
theorem mo_mA46 (hF : By K n) (hM : MtOK K n cc mc b N) (hK : KP K n y) (l1 : Int32) (j : Nat) : ∀ (r i f : Nat), i + r = m_fc K b → g_Mo_methodAt (f + r + 1) 46 [some (.ref 58), some (.int l1), some (.int (nI b)), some (.int (nI j)), some (.int (nI (m_fr K b i))), some (.int (nI (m_fc K b))), some (.int (nI i)), none] y = g_Mo_methodAt f 13 [some (.ref 58), some (.int l1), some (.int (nI (m_en K b))), some (.int (nI (j + 1))), none, none, none, none] y := by
  have h240 := hF.1
  have h8 := hM.2.2.2.1
  have P := mo_placesOf hF hM hK
  intro r
  induction r with
  | zero =>
    intro i f hi
    rw [show g_Mo_methodAt (f + 0 + 1) 46 [some (.ref 58), some (.int l1), some (.int (nI b)), some (.int (nI j)), some (.int (nI (m_fr K b i))), some (.int (nI (m_fc K b))), some (.int (nI i)), none] y = k_Mo_methodAt_46 (g_Mo_methodAt f) 58 l1 (nI b) (nI j) (nI (m_fr K b i)) (nI (m_fc K b)) (nI i) y from rfl]
    have e : m_en K b = m_fr K b i := by rw [show i = m_fc K b by omega]; rfl
    rw [e]
    simp (disch := omega) only [nA, nS, nM, nLT, nLF, nTT, nTF, nEF, nET, nBT, nBF, nC, nNG, nNL, jj_b1, jj_b2, js, jn, eq_self, if_true, if_false, ite_true, ite_false, ↓reduceIte, and_self, true_and, and_true, zb0, zb1, bM, bR, bCk, bMa, Bool.false_eq_true, Bool.and_self, Bool.and_true, Bool.true_and, li_0, li_1, li_2, li_3, li_4, li_5, li_6, li_7, li_8, li_16, li_18, li_21, li_25, li_46, li_54, li_58, li_60, li_79, li_87, li_89, li_95, li_96, li_100, li_104, li_108, li_116, li_127, li_128, li_132, li_153, li_158, li_159, li_164, li_167, li_172, li_176, li_177, li_184, li_188, li_190, li_198, li_199, li_200, li_202, li_240, li_255, li_256, li_32767, li_32768, li_65536, k_Mo_methodAt_46]
  | succ r ih =>
    intro i f hi
    have L := fr_lt hM (i := i) (by omega)
    have e1 := hK (m_fr K b i + 1 + m_pl K b) (by omega)
    rw [show g_Mo_methodAt (f + (r + 1) + 1) 46 [some (.ref 58), some (.int l1), some (.int (nI b)), some (.int (nI j)), some (.int (nI (m_fr K b i))), some (.int (nI (m_fc K b))), some (.int (nI i)), none] y = k_Mo_methodAt_46 (g_Mo_methodAt (f + r + 1)) 58 l1 (nI b) (nI j) (nI (m_fr K b i)) (nI (m_fc K b)) (nI i) y from rfl, ← ih (i + 1) f (by omega)]
    have e2 : m_fr K b (i + 1) = m_fr K b i + 1 + m_pl K b + 1 + K (m_fr K b i + 1 + m_pl K b) := by
      show fr K _ _ (i + 1) = _
      rw [fr_succ]
      show m_fr K b i + 2 + m_pl K b + K (m_fr K b i + 1 + m_pl K b) = _
      omega
    rw [e2]
    simp (disch := omega) only [nA, nS, nM, nLT, nLF, nTT, nTF, nEF, nET, nBT, nBF, nC, nNG, nNL, jj_b1, jj_b2, js, jn, eq_self, if_true, if_false, ite_true, ite_false, ↓reduceIte, and_self, true_and, and_true, zb0, zb1, bM, bR, bCk, bMa, Bool.false_eq_true, Bool.and_self, Bool.and_true, Bool.true_and, li_0, li_1, li_2, li_3, li_4, li_5, li_6, li_7, li_8, li_16, li_18, li_21, li_25, li_46, li_54, li_58, li_60, li_79, li_87, li_89, li_95, li_96, li_100, li_104, li_108, li_116, li_127, li_128, li_132, li_153, li_158, li_159, li_164, li_167, li_172, li_176, li_177, li_184, li_188, li_190, li_198, li_199, li_200, li_202, li_240, li_255, li_256, li_32767, li_32768, li_65536, k_Mo_methodAt_46, P, e1]
theorem mo_methodAt_g (hF : By K n) (hOK : FileOK K n) (hK : KP K n y) {m : Nat} (hm : m < mcn K) : ∀ (r j f : Nat), j + r = m → 10 * r < f → g_Mo_methodAt f 13 [some (.ref 58), some (.int (nI m)), some (.int (nI (mp K j))), some (.int (nI j)), none, none, none, none] y = some (nI (mp K m), y) := by
  have h240 := hF.1
  have h4 := hOK.2.2.1
  intro r
  induction r with
  | zero =>
    intro j f hj hf
    obtain ⟨f, rfl⟩ : ∃ g, f = g + 1 := ⟨f - 1, by omega⟩
    rw [show j = m by omega]
    simp (disch := omega) only [nA, nS, nM, nLT, nLF, nTT, nTF, nEF, nET, nBT, nBF, nC, nNG, nNL, jj_b1, jj_b2, js, jn, eq_self, if_true, if_false, ite_true, ite_false, ↓reduceIte, and_self, true_and, and_true, zb0, zb1, bM, bR, bCk, bMa, Bool.false_eq_true, Bool.and_self, Bool.and_true, Bool.true_and, li_0, li_1, li_2, li_3, li_4, li_5, li_6, li_7, li_8, li_16, li_18, li_21, li_25, li_46, li_54, li_58, li_60, li_79, li_87, li_89, li_95, li_96, li_100, li_104, li_108, li_116, li_127, li_128, li_132, li_153, li_158, li_159, li_164, li_167, li_172, li_176, li_177, li_184, li_188, li_190, li_198, li_199, li_200, li_202, li_240, li_255, li_256, li_32767, li_32768, li_65536, g_Mo_methodAt, k_Mo_methodAt_13]
  | succ r ih =>
    intro j f hj hf
    obtain ⟨N, hM⟩ := hOK.2.2.2.2.1 j (by omega)
    have h8 := hM.2.2.2.1
    have hl := hM.2.2.2.2.2.1
    have C := mo_codeOf hF hM hK
    have L := mo_lengthOf hF hM hK
    have e1 := hK (m_cd K (mp K j) + m_ln K (mp K j)) (by omega)
    obtain ⟨g, rfl⟩ : ∃ g, f = g + m_fc K (mp K j) + 1 + 1 := ⟨f - m_fc K (mp K j) - 2, by omega⟩
    have I := ih (j + 1) g (by omega) (by omega)
    have X := mo_mA46 hF hM hK (nI m) j (m_fc K (mp K j)) 0 g (by omega)
    rw [show mp K (j + 1) = m_en K (mp K j) from rfl, ← X] at I
    rw [← I]
    rw [show g_Mo_methodAt (g + m_fc K (mp K j) + 1 + 1) 13 [some (.ref 58), some (.int (nI m)), some (.int (nI (mp K j))), some (.int (nI j)), none, none, none, none] y = k_Mo_methodAt_13 (g_Mo_methodAt (g + m_fc K (mp K j) + 1)) 58 (nI m) (nI (mp K j)) (nI j) y from rfl]
    show _ = g_Mo_methodAt (g + m_fc K (mp K j) + 1) 46 [some (.ref 58), some (.int (nI m)), some (.int (nI (mp K j))), some (.int (nI j)), some (.int (nI (m_cd K (mp K j) + m_ln K (mp K j) + 1))), some (.int (nI (K (m_cd K (mp K j) + m_ln K (mp K j))))), some (.int (nI 0)), none] y
    simp (disch := omega) only [nA, nS, nM, nLT, nLF, nTT, nTF, nEF, nET, nBT, nBF, nC, nNG, nNL, jj_b1, jj_b2, js, jn, eq_self, if_true, if_false, ite_true, ite_false, ↓reduceIte, and_self, true_and, and_true, zb0, zb1, bM, bR, bCk, bMa, Bool.false_eq_true, Bool.and_self, Bool.and_true, Bool.true_and, li_0, li_1, li_2, li_3, li_4, li_5, li_6, li_7, li_8, li_16, li_18, li_21, li_25, li_46, li_54, li_58, li_60, li_79, li_87, li_89, li_95, li_96, li_100, li_104, li_108, li_116, li_127, li_128, li_132, li_153, li_158, li_159, li_164, li_167, li_172, li_176, li_177, li_184, li_188, li_190, li_198, li_199, li_200, li_202, li_240, li_255, li_256, li_32767, li_32768, li_65536, k_Mo_methodAt_13, C, L, e1]
theorem mo_methodAt (hF : By K n) (hOK : FileOK K n) (hK : KP K n y) {m : Nat} (hm : m < mcn K) : f_Mo_methodAt 58 (nI m) y = some (nI (mp K m), y) := by
  have h240 := hF.1
  have h4 := hOK.2.2.1
  have h1 := hOK.1
  have h3 := hOK.2.2.2.1
  have e1 := hK 1 (by omega)
  have := mo_methodAt_g hF hOK hK hm m 0 1000 (by omega) (by omega)
  rw [← this]
  unfold f_Mo_methodAt k_Mo_methodAt_0
  show _ = g_Mo_methodAt 1000 13 [some (.ref 58), some (.int (nI m)), some (.int (nI (3 + 4 * K 1))), some (.int (nI 0)), none, none, none, none] y
  simp (disch := omega) only [nA, nS, nM, nLT, nLF, nTT, nTF, nEF, nET, nBT, nBF, nC, nNG, nNL, jj_b1, jj_b2, js, jn, eq_self, if_true, if_false, ite_true, ite_false, ↓reduceIte, and_self, true_and, and_true, zb0, zb1, bM, bR, bCk, bMa, Bool.false_eq_true, Bool.and_self, Bool.and_true, Bool.true_and, li_0, li_1, li_2, li_3, li_4, li_5, li_6, li_7, li_8, li_16, li_18, li_21, li_25, li_46, li_54, li_58, li_60, li_79, li_87, li_89, li_95, li_96, li_100, li_104, li_108, li_116, li_127, li_128, li_132, li_153, li_158, li_159, li_164, li_167, li_172, li_176, li_177, li_184, li_188, li_190, li_198, li_199, li_200, li_202, li_240, li_255, li_256, li_32767, li_32768, li_65536, e1]
abbrev WO (i k : Nat) : Prop := i = 58 ∧ 8 ≤ k ∧ k ≤ 13
theorem mo_open (hF : By K n) (hOK : FileOK K n) (hK : KP K n y) {m : Nat} (hm : m < mcn K) : ∃ y', f_Mo_open 58 (nI m) y = some y' ∧ Same WO y y' ∧ MO K (mp K m) y' := by
  have h240 := hF.1
  obtain ⟨N, hM⟩ := hOK.2.2.2.2.1 m hm
  have h9 := hM.1.2.2.2.2.2.2.2.2
  have e := m_cd.eq_1 K (mp K m)
  have A := mo_methodAt hF hOK hK hm
  generalize mp K m = b at *
  have e1 := hK b (by omega)
  have e2 := hK (b + 2 + K b) (by omega)
  refine ⟨jj_set (jj_set (jj_set (jj_set (jj_set (jj_set y 58 8 (nI b)) 58 9 (nI (K b))) 58 10 (nI (m_dp K b))) 58 11 (nI (m_pl K b))) 58 12 (nI (m_ln K b))) 58 13 (nI (m_cd K b)), ?_, ?_, ?_⟩
  · have Q : ∀ z : jj_Mem, Same WO y z → KP K n z := fun z hz => hK.same hz (fun k => by omega)
    have S3 : Same WO y (jj_set (jj_set (jj_set y 58 8 (nI b)) 58 9 (nI (K b))) 58 10 (nI (m_dp K b))) := (((Same.refl y).set _ (by omega)).set _ (by omega)).set _ (by omega)
    have P := mo_placesOf hF hM (Q _ S3)
    have S4 : Same WO y (jj_set (jj_set (jj_set (jj_set y 58 8 (nI b)) 58 9 (nI (K b))) 58 10 (nI (m_dp K b))) 58 11 (nI (m_pl K b))) := S3.set _ (by omega)
    have L := mo_lengthOf hF hM (Q _ S4)
    have C := mo_codeOf hF hM (Q _ (S4.set (i := 58) (k := 12) (nI (m_ln K b)) (by omega)))
    rw [m_dp] at *
    unfold f_Mo_open
    simp (disch := omega) only [nA, nS, nM, nLT, nLF, nTT, nTF, nEF, nET, nBT, nBF, nC, nNG, nNL, jj_b1, jj_b2, js, jn, eq_self, if_true, if_false, ite_true, ite_false, ↓reduceIte, and_self, true_and, and_true, zb0, zb1, bM, bR, bCk, bMa, Bool.false_eq_true, Bool.and_self, Bool.and_true, Bool.true_and, li_0, li_1, li_2, li_3, li_4, li_5, li_6, li_7, li_8, li_16, li_18, li_21, li_25, li_46, li_54, li_58, li_60, li_79, li_87, li_89, li_95, li_96, li_100, li_104, li_108, li_116, li_127, li_128, li_132, li_153, li_158, li_159, li_164, li_167, li_172, li_176, li_177, li_184, li_188, li_190, li_198, li_199, li_200, li_202, li_240, li_255, li_256, li_32767, li_32768, li_65536, A, e1, e2, P, L, C]
  · exact ((((((Same.refl y).set _ (by omega)).set _ (by omega)).set _ (by omega)).set _ (by omega)).set _ (by omega)).set _ (by omega)
  · exact ⟨by simp (disch := omega) only [nA, nS, nM, nLT, nLF, nTT, nTF, nEF, nET, nBT, nBF, nC, nNG, nNL, jj_b1, jj_b2, js, jn, eq_self, if_true, if_false, ite_true, ite_false, ↓reduceIte, and_self, true_and, and_true, zb0, zb1, bM, bR, bCk, bMa, Bool.false_eq_true, Bool.and_self, Bool.and_true, Bool.true_and, li_0, li_1, li_2, li_3, li_4, li_5, li_6, li_7, li_8, li_16, li_18, li_21, li_25, li_46, li_54, li_58, li_60, li_79, li_87, li_89, li_95, li_96, li_100, li_104, li_108, li_116, li_127, li_128, li_132, li_153, li_158, li_159, li_164, li_167, li_172, li_176, li_177, li_184, li_188, li_190, li_198, li_199, li_200, li_202, li_240, li_255, li_256, li_32767, li_32768, li_65536], by simp (disch := omega) only [nA, nS, nM, nLT, nLF, nTT, nTF, nEF, nET, nBT, nBF, nC, nNG, nNL, jj_b1, jj_b2, js, jn, eq_self, if_true, if_false, ite_true, ite_false, ↓reduceIte, and_self, true_and, and_true, zb0, zb1, bM, bR, bCk, bMa, Bool.false_eq_true, Bool.and_self, Bool.and_true, Bool.true_and, li_0, li_1, li_2, li_3, li_4, li_5, li_6, li_7, li_8, li_16, li_18, li_21, li_25, li_46, li_54, li_58, li_60, li_79, li_87, li_89, li_95, li_96, li_100, li_104, li_108, li_116, li_127, li_128, li_132, li_153, li_158, li_159, li_164, li_167, li_172, li_176, li_177, li_184, li_188, li_190, li_198, li_199, li_200, li_202, li_240, li_255, li_256, li_32767, li_32768, li_65536], by simp (disch := omega) only [nA, nS, nM, nLT, nLF, nTT, nTF, nEF, nET, nBT, nBF, nC, nNG, nNL, jj_b1, jj_b2, js, jn, eq_self, if_true, if_false, ite_true, ite_false, ↓reduceIte, and_self, true_and, and_true, zb0, zb1, bM, bR, bCk, bMa, Bool.false_eq_true, Bool.and_self, Bool.and_true, Bool.true_and, li_0, li_1, li_2, li_3, li_4, li_5, li_6, li_7, li_8, li_16, li_18, li_21, li_25, li_46, li_54, li_58, li_60, li_79, li_87, li_89, li_95, li_96, li_100, li_104, li_108, li_116, li_127, li_128, li_132, li_153, li_158, li_159, li_164, li_167, li_172, li_176, li_177, li_184, li_188, li_190, li_198, li_199, li_200, li_202, li_240, li_255, li_256, li_32767, li_32768, li_65536], by simp (disch := omega) only [nA, nS, nM, nLT, nLF, nTT, nTF, nEF, nET, nBT, nBF, nC, nNG, nNL, jj_b1, jj_b2, js, jn, eq_self, if_true, if_false, ite_true, ite_false, ↓reduceIte, and_self, true_and, and_true, zb0, zb1, bM, bR, bCk, bMa, Bool.false_eq_true, Bool.and_self, Bool.and_true, Bool.true_and, li_0, li_1, li_2, li_3, li_4, li_5, li_6, li_7, li_8, li_16, li_18, li_21, li_25, li_46, li_54, li_58, li_60, li_79, li_87, li_89, li_95, li_96, li_100, li_104, li_108, li_116, li_127, li_128, li_132, li_153, li_158, li_159, li_164, li_167, li_172, li_176, li_177, li_184, li_188, li_190, li_198, li_199, li_200, li_202, li_240, li_255, li_256, li_32767, li_32768, li_65536], by simp (disch := omega) only [nA, nS, nM, nLT, nLF, nTT, nTF, nEF, nET, nBT, nBF, nC, nNG, nNL, jj_b1, jj_b2, js, jn, eq_self, if_true, if_false, ite_true, ite_false, ↓reduceIte, and_self, true_and, and_true, zb0, zb1, bM, bR, bCk, bMa, Bool.false_eq_true, Bool.and_self, Bool.and_true, Bool.true_and, li_0, li_1, li_2, li_3, li_4, li_5, li_6, li_7, li_8, li_16, li_18, li_21, li_25, li_46, li_54, li_58, li_60, li_79, li_87, li_89, li_95, li_96, li_100, li_104, li_108, li_116, li_127, li_128, li_132, li_153, li_158, li_159, li_164, li_167, li_172, li_176, li_177, li_184, li_188, li_190, li_198, li_199, li_200, li_202, li_240, li_255, li_256, li_32767, li_32768, li_65536], by simp (disch := omega) only [nA, nS, nM, nLT, nLF, nTT, nTF, nEF, nET, nBT, nBF, nC, nNG, nNL, jj_b1, jj_b2, js, jn, eq_self, if_true, if_false, ite_true, ite_false, ↓reduceIte, and_self, true_and, and_true, zb0, zb1, bM, bR, bCk, bMa, Bool.false_eq_true, Bool.and_self, Bool.and_true, Bool.true_and, li_0, li_1, li_2, li_3, li_4, li_5, li_6, li_7, li_8, li_16, li_18, li_21, li_25, li_46, li_54, li_58, li_60, li_79, li_87, li_89, li_95, li_96, li_100, li_104, li_108, li_116, li_127, li_128, li_132, li_153, li_158, li_159, li_164, li_167, li_172, li_176, li_177, li_184, li_188, li_190, li_198, li_199, li_200, li_202, li_240, li_255, li_256, li_32767, li_32768, li_65536]⟩
end OPEN
