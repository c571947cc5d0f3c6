/-! PURE: what an instruction takes and puts, on both sides; p: its place in the file -/
def calB (K : Nat → Nat) (p : Nat) : Nat := mp K (K (p + 1))
def tkI (K : Nat → Nat) (p : Nat) : List Nat := if K p = 184 then (List.range (K (calB K p))).map (fun i => K (calB K p + 1 + i)) else z_tk (K p)
def ptI (K : Nat → Nat) (p : Nat) : Nat := if K p = 184 then (if m_rt K (calB K p) = 0 then 0 else 1) else z_pt (K p)
/-- there is an instruction at p -/
def IA (K : Nat → Nat) (n pl p : Nat) : Prop := z_len (K p) ≠ 0 ∧ p + z_len (K p) < n ∧ (2 ≤ z_len (K p) → OpOK K (K p) (p + 1) (K 1) (mcn K) pl)
theorem mrg {f : Nat → Nat} {n i : Nat} (h : i < n) : ((List.range n).map f)[i]! = f i := by
  rw [getElem!_pos _ _ (by simpa using h)]
  simp
theorem mrl {f : Nat → Nat} {n : Nat} : ((List.range n).map f).length = n := by simp
theorem IA_of {K : Nat → Nat} {n b N j : Nat} (hM : MtOK K n (K 1) (mcn K) b N) (hj : j < N) : IA K n (m_pl K b) (m_cd K b + st K (m_cd K b) j) := by
  have h := (hM.2.1.2.2 j hj).2
  have h2 := hM.2.2.2.2.2.1
  exact ⟨h.1, by have := h.2.1; omega, h.2.2⟩
theorem z_len184 : z_len 184 = 2 := rfl
section TAKE
variable {K : Nat → Nat} {n b N P q p pl o cd : Nat} {x y : jj_Mem}
theorem cal_ok (hOK : FileOK K n) (hI : IA K n pl p) (h : K p = 184) : K (p + 1) < mcn K ∧ ∃ N', MtOK K n (K 1) (mcn K) (calB K p) N' := by
  have e : z_len (K p) = 2 := by rw [h]; rfl
  have h1 := (hI.2.2 (by omega)).2.2 h
  exact ⟨h1, hOK.2.2.2.2.1 _ h1⟩
theorem tk_len (hF : By K n) (hOK : FileOK K n) (hI : IA K n pl p) : (tkI K p).length ≤ 3 := by
  have h := hI.2.1
  have hb := hF.2 p (by omega)
  unfold tkI
  by_cases c : K p = 184
  · obtain ⟨h1, N', h2⟩ := cal_ok hOK hI c
    rw [if_pos c, mrl]
    exact h2.1.1
  · rw [if_neg c]
    exact z_tk3 _ hb
theorem z_pt2 : ∀ b, b < 256 → z_pt b ≤ 2 := by decide +kernel
theorem pt_le (hF : By K n) (hI : IA K n pl p) : ptI K p ≤ 2 := by
  have h := hI.2.1
  have hb := hF.2 p (by omega)
  unfold ptI
  split
  · split <;> omega
  · exact z_pt2 _ hb
theorem z_tk2 : ∀ b, b < 256 → ∀ i, i < (z_tk b).length → (z_tk b)[i]! ≤ 2 := by decide +kernel
theorem tk_le (hF : By K n) (hOK : FileOK K n) (hI : IA K n pl p) {i : Nat} (hi : i < (tkI K p).length) : (tkI K p)[i]! ≤ 2 := by
  have h := hI.2.1
  have hb := hF.2 p (by omega)
  unfold tkI at *
  by_cases c : K p = 184
  · obtain ⟨h1, N', h2⟩ := cal_ok hOK hI c
    rw [if_pos c] at hi ⊢
    rw [mrl] at hi
    rw [mrg hi]
    exact (h2.1.2.1 i hi).2
  · rw [if_neg c] at hi ⊢
    exact z_tk2 _ hb i hi
theorem pr_codeP (h240 : n ≤ 240) (hC : FileC P K n x) (h5 : x q 5 = nI cd) (hp : cd + o < n) : f_Pr_code P q (nI o) x = some (nI (K (cd + o)), x) := pr_code h5 hC.2.2.2.2.1 hp h240
theorem pr_operand (h240 : n ≤ 240) (hC : FileC P K n x) (h5 : x q 5 = nI cd) (hp : cd + o + 1 < n) : f_Pr_operand P q (nI o) x = some (nI (K (cd + o + 1)), x) := by
  have e := hC.2.2.2.2.1 (cd + o + 1) hp
  unfold f_Pr_operand
  simp (disch := omega) only [nA, nS, nM, nLT, nLF, nTT, nTF, nEF, nET, nBT, nBF, nC, nNG, nNL, jj_b1, jj_b2, js, jn, eq_self, if_true, if_false, ite_true, ite_false, ↓reduceIte, and_self, true_and, and_true, zb0, zb1, bM, bR, bCk, bMa, Bool.false_eq_true, Bool.and_self, Bool.and_true, Bool.true_and, li_0, li_1, li_2, li_3, li_4, li_5, li_6, li_7, li_8, li_16, li_18, li_21, li_25, li_46, li_54, li_58, li_60, li_79, li_87, li_89, li_95, li_96, li_100, li_104, li_108, li_116, li_127, li_128, li_132, li_153, li_158, li_159, li_164, li_167, li_172, li_176, li_177, li_184, li_188, li_190, li_198, li_199, li_200, li_202, li_240, li_255, li_256, li_32767, li_32768, li_65536, h5, e]
theorem pr_called (h240 : n ≤ 240) (hC : FileC P K n x) (hk : mcn K ≤ 4) (h5 : x q 5 = nI cd) (hp : cd + o + 1 < n) (hm : K (cd + o + 1) < mcn K) : f_Pr_called P q (nI o) x = some (P + 3 + 2 * K (cd + o + 1), x) := by
  have e := hC.2.2.2.2.1 (cd + o + 1) hp
  unfold f_Pr_called
  simp (disch := omega) only [nA, nS, nM, nLT, nLF, nTT, nTF, nEF, nET, nBT, nBF, nC, nNG, nNL, jj_b1, jj_b2, js, jn, eq_self, if_true, if_false, ite_true, ite_false, ↓reduceIte, and_self, true_and, and_true, zb0, zb1, bM, bR, bCk, bMa, Bool.false_eq_true, Bool.and_self, Bool.and_true, Bool.true_and, li_0, li_1, li_2, li_3, li_4, li_5, li_6, li_7, li_8, li_16, li_18, li_21, li_25, li_46, li_54, li_58, li_60, li_79, li_87, li_89, li_95, li_96, li_100, li_104, li_108, li_116, li_127, li_128, li_132, li_153, li_158, li_159, li_164, li_167, li_172, li_176, li_177, li_184, li_188, li_190, li_198, li_199, li_200, li_202, li_240, li_255, li_256, li_32767, li_32768, li_65536, h5, e]
theorem pr_takenCount (hP : o_Pr P) (hF : By K n) (hOK : FileOK K n) (hC : FileC P K n x) (h5 : x q 5 = nI cd) (hI : IA K n pl (cd + o)) : f_Pr_takenCount P q (nI o) x = some (nI (tkI K (cd + o)).length, x) := by
  have h240 := hF.1
  have h := hI.2.1
  have hb := hF.2 (cd + o) (by omega)
  have e0 := pr_codeP h240 hC h5 (o := o) (by omega)
  unfold f_Pr_takenCount tkI
  by_cases c : K (cd + o) = 184
  · have e : z_len (K (cd + o)) = 2 := by rw [c]; rfl
    obtain ⟨h1, N', h2⟩ := cal_ok hOK hI c
    have e1 := pr_called h240 hC hOK.2.2.1 h5 (o := o) (by omega) h1
    have h3 := (hC.2.2.2.2.2 _ h1).1.1
    have e2 : bo_Me (P + 3 + 2 * K (cd + o + 1)) = true := bq_of hP (by have := hOK.2.2.1; omega) rfl
    rw [if_pos c, mrl]
    simp (disch := omega) only [nA, nS, nM, nLT, nLF, nTT, nTF, nEF, nET, nBT, nBF, nC, nNG, nNL, jj_b1, jj_b2, js, jn, eq_self, if_true, if_false, ite_true, ite_false, ↓reduceIte, and_self, true_and, and_true, zb0, zb1, bM, bR, bCk, bMa, Bool.false_eq_true, Bool.and_self, Bool.and_true, Bool.true_and, li_0, li_1, li_2, li_3, li_4, li_5, li_6, li_7, li_8, li_16, li_18, li_21, li_25, li_46, li_54, li_58, li_60, li_79, li_87, li_89, li_95, li_96, li_100, li_104, li_108, li_116, li_127, li_128, li_132, li_153, li_158, li_159, li_164, li_167, li_172, li_176, li_177, li_184, li_188, li_190, li_198, li_199, li_200, li_202, li_240, li_255, li_256, li_32767, li_32768, li_65536, e0, e1, e2, h3]
    rfl
  · have e1 := zt_takes _ hb hI.1
    rw [if_neg c]
    simp (disch := omega) only [nA, nS, nM, nLT, nLF, nTT, nTF, nEF, nET, nBT, nBF, nC, nNG, nNL, jj_b1, jj_b2, js, jn, eq_self, if_true, if_false, ite_true, ite_false, ↓reduceIte, and_self, true_and, and_true, zb0, zb1, bM, bR, bCk, bMa, Bool.false_eq_true, Bool.and_self, Bool.and_true, Bool.true_and, li_0, li_1, li_2, li_3, li_4, li_5, li_6, li_7, li_8, li_16, li_18, li_21, li_25, li_46, li_54, li_58, li_60, li_79, li_87, li_89, li_95, li_96, li_100, li_104, li_108, li_116, li_127, li_128, li_132, li_153, li_158, li_159, li_164, li_167, li_172, li_176, li_177, li_184, li_188, li_190, li_198, li_199, li_200, li_202, li_240, li_255, li_256, li_32767, li_32768, li_65536, e0, e1]
theorem pr_takenType (hP : o_Pr P) (hF : By K n) (hOK : FileOK K n) (hC : FileC P K n x) (h5 : x q 5 = nI cd) (hI : IA K n pl (cd + o)) {k : Nat} (hk : k < (tkI K (cd + o)).length) : f_Pr_takenType P q (nI o) (nI k) x = some (nI ((tkI K (cd + o))[k]!), x) := by
  have h240 := hF.1
  have h := hI.2.1
  have hb := hF.2 (cd + o) (by omega)
  have e0 := pr_codeP h240 hC h5 (o := o) (by omega)
  unfold f_Pr_takenType
  unfold tkI at hk ⊢
  by_cases c : K (cd + o) = 184
  · have e : z_len (K (cd + o)) = 2 := by rw [c]; rfl
    obtain ⟨h1, N', h2⟩ := cal_ok hOK hI c
    have e1 := pr_called h240 hC hOK.2.2.1 h5 (o := o) (by omega) h1
    have h3 := (hC.2.2.2.2.2 _ h1).1.2.1
    have e2 : bo_Me (P + 3 + 2 * K (cd + o + 1)) = true := bq_of hP (by have := hOK.2.2.1; omega) rfl
    rw [if_pos c] at hk ⊢
    rw [mrl] at hk
    have h9 := h2.1.2.2.2.2.2.2.2.2
    have e4 := m_cd.eq_1 K (calB K (cd + o))
    have e5 := hC.2.2.2.2.1 (calB K (cd + o) + 1 + k) (by omega)
    rw [mrg hk]
    have e6 : f_Pr_parameterType P (P + 3 + 2 * K (cd + o + 1)) (nI k) x = some (nI (K (calB K (cd + o) + 1 + k)), x) := by
      unfold f_Pr_parameterType calB at *
      simp (disch := omega) only [nA, nS, nM, nLT, nLF, nTT, nTF, nEF, nET, nBT, nBF, nC, nNG, nNL, jj_b1, jj_b2, js, jn, eq_self, if_true, if_false, ite_true, ite_false, ↓reduceIte, and_self, true_and, and_true, zb0, zb1, bM, bR, bCk, bMa, Bool.false_eq_true, Bool.and_self, Bool.and_true, Bool.true_and, li_0, li_1, li_2, li_3, li_4, li_5, li_6, li_7, li_8, li_16, li_18, li_21, li_25, li_46, li_54, li_58, li_60, li_79, li_87, li_89, li_95, li_96, li_100, li_104, li_108, li_116, li_127, li_128, li_132, li_153, li_158, li_159, li_164, li_167, li_172, li_176, li_177, li_184, li_188, li_190, li_198, li_199, li_200, li_202, li_240, li_255, li_256, li_32767, li_32768, li_65536, h3, e5]
    simp (disch := omega) only [nA, nS, nM, nLT, nLF, nTT, nTF, nEF, nET, nBT, nBF, nC, nNG, nNL, jj_b1, jj_b2, js, jn, eq_self, if_true, if_false, ite_true, ite_false, ↓reduceIte, and_self, true_and, and_true, zb0, zb1, bM, bR, bCk, bMa, Bool.false_eq_true, Bool.and_self, Bool.and_true, Bool.true_and, li_0, li_1, li_2, li_3, li_4, li_5, li_6, li_7, li_8, li_16, li_18, li_21, li_25, li_46, li_54, li_58, li_60, li_79, li_87, li_89, li_95, li_96, li_100, li_104, li_108, li_116, li_127, li_128, li_132, li_153, li_158, li_159, li_164, li_167, li_172, li_176, li_177, li_184, li_188, li_190, li_198, li_199, li_200, li_202, li_240, li_255, li_256, li_32767, li_32768, li_65536, e0, e1, e2, e6]
  · have e1 := zt_typeTaken _ hb
    rw [if_neg c] at hk ⊢
    have e2 := e1 k hk
    simp (disch := omega) only [nA, nS, nM, nLT, nLF, nTT, nTF, nEF, nET, nBT, nBF, nC, nNG, nNL, jj_b1, jj_b2, js, jn, eq_self, if_true, if_false, ite_true, ite_false, ↓reduceIte, and_self, true_and, and_true, zb0, zb1, bM, bR, bCk, bMa, Bool.false_eq_true, Bool.and_self, Bool.and_true, Bool.true_and, li_0, li_1, li_2, li_3, li_4, li_5, li_6, li_7, li_8, li_16, li_18, li_21, li_25, li_46, li_54, li_58, li_60, li_79, li_87, li_89, li_95, li_96, li_100, li_104, li_108, li_116, li_127, li_128, li_132, li_153, li_158, li_159, li_164, li_167, li_172, li_176, li_177, li_184, li_188, li_190, li_198, li_199, li_200, li_202, li_240, li_255, li_256, li_32767, li_32768, li_65536, e0, e2]
theorem pr_putCount (hP : o_Pr P) (hF : By K n) (hOK : FileOK K n) (hC : FileC P K n x) (h5 : x q 5 = nI cd) (hI : IA K n pl (cd + o)) : f_Pr_putCount P q (nI o) x = some (nI (ptI K (cd + o)), x) := by
  have h240 := hF.1
  have h := hI.2.1
  have hb := hF.2 (cd + o) (by omega)
  have e0 := pr_codeP h240 hC h5 (o := o) (by omega)
  unfold f_Pr_putCount ptI
  by_cases c : K (cd + o) = 184
  · have e : z_len (K (cd + o)) = 2 := by rw [c]; rfl
    obtain ⟨h1, N', h2⟩ := cal_ok hOK hI c
    have e1 := pr_called h240 hC hOK.2.2.1 h5 (o := o) (by omega) h1
    have h3 := (hC.2.2.2.2.2 _ h1).1.2.2.1
    have e2 : bo_Me (P + 3 + 2 * K (cd + o + 1)) = true := bq_of hP (by have := hOK.2.2.1; omega) rfl
    rw [if_pos c]
    have h4 := h2.1.2.2.1
    unfold calB at *
    by_cases c2 : m_rt K (mp K (K (cd + o + 1))) = 0
    · simp (disch := omega) only [nA, nS, nM, nLT, nLF, nTT, nTF, nEF, nET, nBT, nBF, nC, nNG, nNL, jj_b1, jj_b2, js, jn, eq_self, if_true, if_false, ite_true, ite_false, ↓reduceIte, and_self, true_and, and_true, zb0, zb1, bM, bR, bCk, bMa, Bool.false_eq_true, Bool.and_self, Bool.and_true, Bool.true_and, li_0, li_1, li_2, li_3, li_4, li_5, li_6, li_7, li_8, li_16, li_18, li_21, li_25, li_46, li_54, li_58, li_60, li_79, li_87, li_89, li_95, li_96, li_100, li_104, li_108, li_116, li_127, li_128, li_132, li_153, li_158, li_159, li_164, li_167, li_172, li_176, li_177, li_184, li_188, li_190, li_198, li_199, li_200, li_202, li_240, li_255, li_256, li_32767, li_32768, li_65536, e0, e1, e2, h3, c2]
    · simp (disch := omega) only [nA, nS, nM, nLT, nLF, nTT, nTF, nEF, nET, nBT, nBF, nC, nNG, nNL, jj_b1, jj_b2, js, jn, eq_self, if_true, if_false, ite_true, ite_false, ↓reduceIte, and_self, true_and, and_true, zb0, zb1, bM, bR, bCk, bMa, Bool.false_eq_true, Bool.and_self, Bool.and_true, Bool.true_and, li_0, li_1, li_2, li_3, li_4, li_5, li_6, li_7, li_8, li_16, li_18, li_21, li_25, li_46, li_54, li_58, li_60, li_79, li_87, li_89, li_95, li_96, li_100, li_104, li_108, li_116, li_127, li_128, li_132, li_153, li_158, li_159, li_164, li_167, li_172, li_176, li_177, li_184, li_188, li_190, li_198, li_199, li_200, li_202, li_240, li_255, li_256, li_32767, li_32768, li_65536, e0, e1, e2, h3, c2]
  · have e1 := zt_puts _ hb hI.1
    rw [if_neg c]
    simp (disch := omega) only [nA, nS, nM, nLT, nLF, nTT, nTF, nEF, nET, nBT, nBF, nC, nNG, nNL, jj_b1, jj_b2, js, jn, eq_self, if_true, if_false, ite_true, ite_false, ↓reduceIte, and_self, true_and, and_true, zb0, zb1, bM, bR, bCk, bMa, Bool.false_eq_true, Bool.and_self, Bool.and_true, Bool.true_and, li_0, li_1, li_2, li_3, li_4, li_5, li_6, li_7, li_8, li_16, li_18, li_21, li_25, li_46, li_54, li_58, li_60, li_79, li_87, li_89, li_95, li_96, li_100, li_104, li_108, li_116, li_127, li_128, li_132, li_153, li_158, li_159, li_164, li_167, li_172, li_176, li_177, li_184, li_188, li_190, li_198, li_199, li_200, li_202, li_240, li_255, li_256, li_32767, li_32768, li_65536, e0, e1]
theorem mo_needs (hF : By K n) (hOK : FileOK K n) (hK : KP K n y) (h13 : y 58 13 = nI cd) (hI : IA K n pl (cd + o)) {k : Nat} (hk : k < 4) : f_Mo_needs 58 (nI o) (nI k) y = some (nI (z_nd (tkI K (cd + o)) k), y) := by
  have h240 := hF.1
  have h := hI.2.1
  have hb := hF.2 (cd + o) (by omega)
  have e0 := hK (cd + o) (by omega)
  unfold f_Mo_needs tkI
  by_cases c : K (cd + o) = 184
  · have e : z_len (K (cd + o)) = 2 := by rw [c]; rfl
    obtain ⟨h1, N', h2⟩ := cal_ok hOK hI c
    have e1 := hK (cd + o + 1) (by omega)
    have e2 := mo_methodAt hF hOK hK h1
    have h9 := h2.1.2.2.2.2.2.2.2.2
    have e4 := m_cd.eq_1 K (calB K (cd + o))
    rw [if_pos c]
    have e3 : mp K (K (cd + o + 1)) = calB K (cd + o) := rfl
    rw [e3] at e2
    have e5 := hK (calB K (cd + o)) (by omega)
    have hp3 := h2.1.1
    unfold z_nd
    rw [mrl]
    by_cases c2 : k < K (calB K (cd + o))
    · have e6 := hK (calB K (cd + o) + K (calB K (cd + o)) - k) (by omega)
      have g := h2.1.2.1 (K (calB K (cd + o)) - 1 - k) (by omega)
      rw [if_pos c2, mrg (by omega)]
      rw [show calB K (cd + o) + 1 + (K (calB K (cd + o)) - 1 - k) = calB K (cd + o) + K (calB K (cd + o)) - k by omega] at g ⊢
      rw [if_neg (show ¬ K (calB K (cd + o) + K (calB K (cd + o)) - k) = 0 by omega)]
      simp (disch := omega) only [nA, nS, nM, nLT, nLF, nTT, nTF, nEF, nET, nBT, nBF, nC, nNG, nNL, jj_b1, jj_b2, js, jn, eq_self, if_true, if_false, ite_true, ite_false, ↓reduceIte, and_self, true_and, and_true, zb0, zb1, bM, bR, bCk, bMa, Bool.false_eq_true, Bool.and_self, Bool.and_true, Bool.true_and, li_0, li_1, li_2, li_3, li_4, li_5, li_6, li_7, li_8, li_16, li_18, li_21, li_25, li_46, li_54, li_58, li_60, li_79, li_87, li_89, li_95, li_96, li_100, li_104, li_108, li_116, li_127, li_128, li_132, li_153, li_158, li_159, li_164, li_167, li_172, li_176, li_177, li_184, li_188, li_190, li_198, li_199, li_200, li_202, li_240, li_255, li_256, li_32767, li_32768, li_65536, h13, e0, e1, e2, e5, e6]
    · rw [if_neg c2]
      simp (disch := omega) only [nA, nS, nM, nLT, nLF, nTT, nTF, nEF, nET, nBT, nBF, nC, nNG, nNL, jj_b1, jj_b2, js, jn, eq_self, if_true, if_false, ite_true, ite_false, ↓reduceIte, and_self, true_and, and_true, zb0, zb1, bM, bR, bCk, bMa, Bool.false_eq_true, Bool.and_self, Bool.and_true, Bool.true_and, li_0, li_1, li_2, li_3, li_4, li_5, li_6, li_7, li_8, li_16, li_18, li_21, li_25, li_46, li_54, li_58, li_60, li_79, li_87, li_89, li_95, li_96, li_100, li_104, li_108, li_116, li_127, li_128, li_132, li_153, li_158, li_159, li_164, li_167, li_172, li_176, li_177, li_184, li_188, li_190, li_198, li_199, li_200, li_202, li_240, li_255, li_256, li_32767, li_32768, li_65536, h13, e0, e1, e2, e5]
  · have e1 := zm_need hb ⟨hI.1, c⟩ hk
    rw [if_neg c]
    simp (disch := omega) only [nA, nS, nM, nLT, nLF, nTT, nTF, nEF, nET, nBT, nBF, nC, nNG, nNL, jj_b1, jj_b2, js, jn, eq_self, if_true, if_false, ite_true, ite_false, ↓reduceIte, and_self, true_and, and_true, zb0, zb1, bM, bR, bCk, bMa, Bool.false_eq_true, Bool.and_self, Bool.and_true, Bool.true_and, li_0, li_1, li_2, li_3, li_4, li_5, li_6, li_7, li_8, li_16, li_18, li_21, li_25, li_46, li_54, li_58, li_60, li_79, li_87, li_89, li_95, li_96, li_100, li_104, li_108, li_116, li_127, li_128, li_132, li_153, li_158, li_159, li_164, li_167, li_172, li_176, li_177, li_184, li_188, li_190, li_198, li_199, li_200, li_202, li_240, li_255, li_256, li_32767, li_32768, li_65536, h13, e0, e1]
theorem mo_takes (hF : By K n) (hOK : FileOK K n) (hK : KP K n y) (h13 : y 58 13 = nI cd) (hI : IA K n pl (cd + o)) : f_Mo_takes 58 (nI o) y = some (nI (tkI K (cd + o)).length, y) := by
  have hl := tk_len hF hOK hI
  have G : ∀ (r k f : Nat), k + r = (tkI K (cd + o)).length → r < f → g_Mo_takes f 2 [some (.ref 58), some (.int (nI o)), some (.int (nI k))] y = some (nI (tkI K (cd + o)).length, y) := by
    intro r
    induction r with
    | zero =>
      intro k f hk hf
      obtain ⟨f, rfl⟩ : ∃ g, f = g + 1 := ⟨f - 1, by omega⟩
      have e := mo_needs hF hOK hK h13 hI (k := k) (by omega)
      have e2 : z_nd (tkI K (cd + o)) k = 0 := by unfold z_nd; rw [if_neg (by omega)]
      rw [e2] at e
      rw [show (tkI K (cd + o)).length = k by omega]
      simp (disch := omega) only [nA, nS, nM, nLT, nLF, nTT, nTF, nEF, nET, nBT, nBF, nC, nNG, nNL, jj_b1, jj_b2, js, jn, eq_self, if_true, if_false, ite_true, ite_false, ↓reduceIte, and_self, true_and, and_true, zb0, zb1, bM, bR, bCk, bMa, Bool.false_eq_true, Bool.and_self, Bool.and_true, Bool.true_and, li_0, li_1, li_2, li_3, li_4, li_5, li_6, li_7, li_8, li_16, li_18, li_21, li_25, li_46, li_54, li_58, li_60, li_79, li_87, li_89, li_95, li_96, li_100, li_104, li_108, li_116, li_127, li_128, li_132, li_153, li_158, li_159, li_164, li_167, li_172, li_176, li_177, li_184, li_188, li_190, li_198, li_199, li_200, li_202, li_240, li_255, li_256, li_32767, li_32768, li_65536, g_Mo_takes, k_Mo_takes_2, e]
    | succ r ih =>
      intro k f hk hf
      obtain ⟨f, rfl⟩ : ∃ g, f = g + 1 := ⟨f - 1, by omega⟩
      have e := mo_needs hF hOK hK h13 hI (k := k) (by omega)
      have e2 : 0 < z_nd (tkI K (cd + o)) k ∧ z_nd (tkI K (cd + o)) k ≤ 3 := by
        unfold z_nd
        rw [if_pos (by omega)]
        have := tk_le hF hOK hI (i := (tkI K (cd + o)).length - 1 - k) (by omega)
        split <;> omega
      rw [← ih (k + 1) f (by omega) (by omega)]
      rw [show g_Mo_takes (f + 1) 2 [some (.ref 58), some (.int (nI o)), some (.int (nI k))] y = k_Mo_takes_2 (g_Mo_takes f) 58 (nI o) (nI k) y from rfl]
      simp (disch := omega) only [nA, nS, nM, nLT, nLF, nTT, nTF, nEF, nET, nBT, nBF, nC, nNG, nNL, jj_b1, jj_b2, js, jn, eq_self, if_true, if_false, ite_true, ite_false, ↓reduceIte, and_self, true_and, and_true, zb0, zb1, bM, bR, bCk, bMa, Bool.false_eq_true, Bool.and_self, Bool.and_true, Bool.true_and, li_0, li_1, li_2, li_3, li_4, li_5, li_6, li_7, li_8, li_16, li_18, li_21, li_25, li_46, li_54, li_58, li_60, li_79, li_87, li_89, li_95, li_96, li_100, li_104, li_108, li_116, li_127, li_128, li_132, li_153, li_158, li_159, li_164, li_167, li_172, li_176, li_177, li_184, li_188, li_190, li_198, li_199, li_200, li_202, li_240, li_255, li_256, li_32767, li_32768, li_65536, k_Mo_takes_2, e]
  exact G (tkI K (cd + o)).length 0 1000 (by omega) (by omega)
theorem z_py3 : ∀ b, b < 256 → (if z_pt b = 1 then z_py b else 0) ≤ 3 := by decide +kernel
theorem mo_gives (hF : By K n) (hOK : FileOK K n) (hK : KP K n y) (h13 : y 58 13 = nI cd) (hI : IA K n pl (cd + o)) : f_Mo_gives 58 (nI o) y = some (nI (ptI K (cd + o)), y) := by
  have h240 := hF.1
  have h := hI.2.1
  have hb := hF.2 (cd + o) (by omega)
  have e0 := hK (cd + o) (by omega)
  unfold f_Mo_gives ptI
  by_cases c : K (cd + o) = 184
  · have e : z_len (K (cd + o)) = 2 := by rw [c]; rfl
    obtain ⟨h1, N', h2⟩ := cal_ok hOK hI c
    have e1 := hK (cd + o + 1) (by omega)
    have e2 := mo_methodAt hF hOK hK h1
    have e3 := mo_returnsOf hF h2 hK
    have h4 := h2.1.2.2.1
    rw [if_pos c]
    unfold calB at *
    by_cases c2 : m_rt K (mp K (K (cd + o + 1))) = 0
    · simp (disch := omega) only [nA, nS, nM, nLT, nLF, nTT, nTF, nEF, nET, nBT, nBF, nC, nNG, nNL, jj_b1, jj_b2, js, jn, eq_self, if_true, if_false, ite_true, ite_false, ↓reduceIte, and_self, true_and, and_true, zb0, zb1, bM, bR, bCk, bMa, Bool.false_eq_true, Bool.and_self, Bool.and_true, Bool.true_and, li_0, li_1, li_2, li_3, li_4, li_5, li_6, li_7, li_8, li_16, li_18, li_21, li_25, li_46, li_54, li_58, li_60, li_79, li_87, li_89, li_95, li_96, li_100, li_104, li_108, li_116, li_127, li_128, li_132, li_153, li_158, li_159, li_164, li_167, li_172, li_176, li_177, li_184, li_188, li_190, li_198, li_199, li_200, li_202, li_240, li_255, li_256, li_32767, li_32768, li_65536, h13, e0, e1, e2, e3, c2]
    · simp (disch := omega) only [nA, nS, nM, nLT, nLF, nTT, nTF, nEF, nET, nBT, nBF, nC, nNG, nNL, jj_b1, jj_b2, js, jn, eq_self, if_true, if_false, ite_true, ite_false, ↓reduceIte, and_self, true_and, and_true, zb0, zb1, bM, bR, bCk, bMa, Bool.false_eq_true, Bool.and_self, Bool.and_true, Bool.true_and, li_0, li_1, li_2, li_3, li_4, li_5, li_6, li_7, li_8, li_16, li_18, li_21, li_25, li_46, li_54, li_58, li_60, li_79, li_87, li_89, li_95, li_96, li_100, li_104, li_108, li_116, li_127, li_128, li_132, li_153, li_158, li_159, li_164, li_167, li_172, li_176, li_177, li_184, li_188, li_190, li_198, li_199, li_200, li_202, li_240, li_255, li_256, li_32767, li_32768, li_65536, h13, e0, e1, e2, e3, c2]
  · rw [if_neg c]
    by_cases c1 : K (cd + o) = 89
    · rw [c1] at e0 ⊢
      simp (disch := omega) only [nA, nS, nM, nLT, nLF, nTT, nTF, nEF, nET, nBT, nBF, nC, nNG, nNL, jj_b1, jj_b2, js, jn, eq_self, if_true, if_false, ite_true, ite_false, ↓reduceIte, and_self, true_and, and_true, zb0, zb1, bM, bR, bCk, bMa, Bool.false_eq_true, Bool.and_self, Bool.and_true, Bool.true_and, li_0, li_1, li_2, li_3, li_4, li_5, li_6, li_7, li_8, li_16, li_18, li_21, li_25, li_46, li_54, li_58, li_60, li_79, li_87, li_89, li_95, li_96, li_100, li_104, li_108, li_116, li_127, li_128, li_132, li_153, li_158, li_159, li_164, li_167, li_172, li_176, li_177, li_184, li_188, li_190, li_198, li_199, li_200, li_202, li_240, li_255, li_256, li_32767, li_32768, li_65536, h13, e0, k_Mo_gives_61]
      rfl
    · by_cases c2 : K (cd + o) = 95
      · rw [c2] at e0 ⊢
        simp (disch := omega) only [nA, nS, nM, nLT, nLF, nTT, nTF, nEF, nET, nBT, nBF, nC, nNG, nNL, jj_b1, jj_b2, js, jn, eq_self, if_true, if_false, ite_true, ite_false, ↓reduceIte, and_self, true_and, and_true, zb0, zb1, bM, bR, bCk, bMa, Bool.false_eq_true, Bool.and_self, Bool.and_true, Bool.true_and, li_0, li_1, li_2, li_3, li_4, li_5, li_6, li_7, li_8, li_16, li_18, li_21, li_25, li_46, li_54, li_58, li_60, li_79, li_87, li_89, li_95, li_96, li_100, li_104, li_108, li_116, li_127, li_128, li_132, li_153, li_158, li_159, li_164, li_167, li_172, li_176, li_177, li_184, li_188, li_190, li_198, li_199, li_200, li_202, li_240, li_255, li_256, li_32767, li_32768, li_65536, h13, e0, k_Mo_gives_61]
        rfl
      · by_cases c3 : K (cd + o) = 25
        · rw [c3] at e0 ⊢
          simp (disch := omega) only [nA, nS, nM, nLT, nLF, nTT, nTF, nEF, nET, nBT, nBF, nC, nNG, nNL, jj_b1, jj_b2, js, jn, eq_self, if_true, if_false, ite_true, ite_false, ↓reduceIte, and_self, true_and, and_true, zb0, zb1, bM, bR, bCk, bMa, Bool.false_eq_true, Bool.and_self, Bool.and_true, Bool.true_and, li_0, li_1, li_2, li_3, li_4, li_5, li_6, li_7, li_8, li_16, li_18, li_21, li_25, li_46, li_54, li_58, li_60, li_79, li_87, li_89, li_95, li_96, li_100, li_104, li_108, li_116, li_127, li_128, li_132, li_153, li_158, li_159, li_164, li_167, li_172, li_176, li_177, li_184, li_188, li_190, li_198, li_199, li_200, li_202, li_240, li_255, li_256, li_32767, li_32768, li_65536, h13, e0, k_Mo_gives_78]
          rfl
        · have e1 := zm_puts _ hb ⟨hI.1, c3, c1, c2, c⟩
          have hp := z_py3 _ hb
          have hpp : z_pt (K (cd + o)) = 0 ∨ z_pt (K (cd + o)) = 1 := by
            have : z_pt (K (cd + o)) ≤ 1 := by
              unfold z_pt
              rw [if_neg (by simp [c1, c2])]
              split <;> omega
            omega
          have hpy : 1 ≤ z_py (K (cd + o)) ∧ z_py (K (cd + o)) ≤ 3 := by
            unfold z_py
            split
            · omega
            · split <;> omega
          rcases hpp with c4 | c4
          · rw [if_neg (show ¬ z_pt (K (cd + o)) = 1 by omega)] at e1
            rw [c4]
            simp (disch := omega) only [nA, nS, nM, nLT, nLF, nTT, nTF, nEF, nET, nBT, nBF, nC, nNG, nNL, jj_b1, jj_b2, js, jn, eq_self, if_true, if_false, ite_true, ite_false, ↓reduceIte, and_self, true_and, and_true, zb0, zb1, bM, bR, bCk, bMa, Bool.false_eq_true, Bool.and_self, Bool.and_true, Bool.true_and, li_0, li_1, li_2, li_3, li_4, li_5, li_6, li_7, li_8, li_16, li_18, li_21, li_25, li_46, li_54, li_58, li_60, li_79, li_87, li_89, li_95, li_96, li_100, li_104, li_108, li_116, li_127, li_128, li_132, li_153, li_158, li_159, li_164, li_167, li_172, li_176, li_177, li_184, li_188, li_190, li_198, li_199, li_200, li_202, li_240, li_255, li_256, li_32767, li_32768, li_65536, h13, e0, e1]
          · rw [if_pos c4] at e1
            rw [c4]
            simp (disch := omega) only [nA, nS, nM, nLT, nLF, nTT, nTF, nEF, nET, nBT, nBF, nC, nNG, nNL, jj_b1, jj_b2, js, jn, eq_self, if_true, if_false, ite_true, ite_false, ↓reduceIte, and_self, true_and, and_true, zb0, zb1, bM, bR, bCk, bMa, Bool.false_eq_true, Bool.and_self, Bool.and_true, Bool.true_and, li_0, li_1, li_2, li_3, li_4, li_5, li_6, li_7, li_8, li_16, li_18, li_21, li_25, li_46, li_54, li_58, li_60, li_79, li_87, li_89, li_95, li_96, li_100, li_104, li_108, li_116, li_127, li_128, li_132, li_153, li_158, li_159, li_164, li_167, li_172, li_176, li_177, li_184, li_188, li_190, li_198, li_199, li_200, li_202, li_240, li_255, li_256, li_32767, li_32768, li_65536, h13, e0, e1, k_Mo_gives_78]
end TAKE
