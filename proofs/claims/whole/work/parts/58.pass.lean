/-! PURE: what an instruction does to the kinds, on both sides -/
def pyI (K : Nat → Nat) (p : Nat) : Nat := if K p = 184 then m_rt K (calB K p) else z_py (K p)
def ps_pk (K : Nat → Nat) (p : Nat) (pk sk : Nat → Nat) (h : Nat) : Nat → Nat := if K p = 54 ∨ K p = 58 then ud pk (K (p + 1)) (sk (h - 1)) else pk
def ps_sk (K : Nat → Nat) (p : Nat) (pk sk : Nat → Nat) (h : Nat) : Nat → Nat := if K p = 25 then ud sk h (pk (K (p + 1))) else if K p = 54 ∨ K p = 58 then sk else if K p = 89 then ud sk h (sk (h - 1)) else if K p = 95 then ud (ud sk (h - 2) (sk (h - 1))) (h - 1) (sk (h - 2)) else if ptI K p = 1 then ud sk (h - (tkI K p).length) (pyI K p) else sk
def ps_h (K : Nat → Nat) (p h : Nat) : Nat := h - (tkI K p).length + ptI K p
def FL (K : Nat → Nat) (p : Nat) : Nat := if K p = 167 ∨ z_ret (K p) = true then 0 else 1
theorem ud_id {α : Type} {f : Nat → α} {k : Nat} : ud f k (f k) = f := by
  funext j
  by_cases q : j = k
  · rw [ud_e q, q]
  · rw [ud_n q]
theorem ud_le {f : Nat → Nat} {k v b : Nat} (h : ∀ j, f j ≤ b) (hv : v ≤ b) (j : Nat) : ud f k v j ≤ b := by
  by_cases q : j = k
  · rw [ud_e q]; exact hv
  · rw [ud_n q]; exact h j
section PASS
variable {K : Nat → Nat} {n b N P q p pl o cd h dp rt : Nat} {x y : jj_Mem} {pk sk : Nat → Nat}
theorem py_le (hF : By K n) (hOK : FileOK K n) (hI : IA K n pl p) : pyI K p ≤ 3 := by
  unfold pyI
  by_cases c : K p = 184
  · obtain ⟨h1, N', h2⟩ := cal_ok hOK hI c
    rw [if_pos c]
    have := h2.1.2.2.1
    omega
  · rw [if_neg c]
    unfold z_py
    split
    · omega
    · split <;> omega
theorem ps_KS (hF : By K n) (hOK : FileOK K n) (hI : IA K n pl p) (hdp : dp ≤ 6) (hA : AL K p dp rt pk sk h) (hS : KS pk sk h) : KS (ps_pk K p pk sk h) (ps_sk K p pk sk h) (ps_h K p h) := by
  obtain ⟨s1, s2, s3⟩ := hS
  have a5 := hA.2.2.2.2
  have hp := py_le hF hOK hI
  refine ⟨by unfold ps_h; omega, ?_, ?_⟩
  · unfold ps_pk
    split
    · exact ud_le s2 (s3 _)
    · exact s2
  · unfold ps_sk
    split
    · exact ud_le s3 (s2 _)
    · split
      · exact s3
      · split
        · exact ud_le s3 (s3 _)
        · split
          · exact ud_le (ud_le s3 (s3 _)) (s3 _)
          · split
            · exact ud_le s3 hp
            · exact s3
theorem pt_one (hF : By K n) (hI : IA K n pl p) (c1 : K p ≠ 89) (c2 : K p ≠ 95) : ptI K p ≤ 1 := by
  unfold ptI
  split
  · split <;> omega
  · unfold z_pt
    rw [if_neg (by simp [c1, c2])]
    split <;> omega
theorem tk_of {v : Nat} (c : K p = v) (hv : v ≠ 184) : tkI K p = z_tk v := by unfold tkI; rw [c, if_neg hv]
theorem pt_of {v : Nat} (c : K p = v) (hv : v ≠ 184) : ptI K p = z_pt v := by unfold ptI; rw [c, if_neg hv]
theorem ck_typePut (hP : o_Pr P) (hF : By K n) (hOK : FileOK K n) (hC : FileC P K n x) (h5 : x q 5 = nI cd) (hI : IA K n pl (cd + o)) : f_Ck_typePut 26 P q (nI o) x = some (nI (pyI K (cd + o)), x) := by
  have h240 := hF.1
  have hi2 := hI.2.1
  have hb := hF.2 (cd + o) (by omega)
  have e0 := pr_codeP h240 hC h5 (o := o) (by omega)
  unfold f_Ck_typePut pyI
  by_cases c : K (cd + o) = 184
  · have e : z_len (K (cd + o)) = 2 := by rw [c]; rfl
    obtain ⟨h1, N', h2⟩ := cal_ok hOK hI c
    have e1 := pr_called h240 hC hOK.2.2.1 h5 (o := o) (by omega) h1
    have h3 := (hC.2.2.2.2.2 _ h1).1.2.2.1
    have e2 : bo_Me (P + 3 + 2 * K (cd + o + 1)) = true := bq_of hP (by have := hOK.2.2.1; omega) rfl
    rw [if_pos c]
    unfold calB at *
    simp (disch := omega) only [nA, nS, nM, nLT, nLF, nTT, nTF, nEF, nET, nBT, nBF, nC, nNG, nNL, jj_b1, jj_b2, js, jn, eq_self, if_true, if_false, ite_true, ite_false, ↓reduceIte, and_self, true_and, and_true, zb0, zb1, bM, bR, bCk, bMa, Bool.false_eq_true, Bool.and_self, Bool.and_true, Bool.true_and, li_0, li_1, li_2, li_3, li_4, li_5, li_6, li_7, li_8, li_16, li_18, li_21, li_25, li_46, li_54, li_58, li_60, li_79, li_87, li_89, li_95, li_96, li_100, li_104, li_108, li_116, li_127, li_128, li_132, li_153, li_158, li_159, li_164, li_167, li_172, li_176, li_177, li_184, li_188, li_190, li_198, li_199, li_200, li_202, li_240, li_255, li_256, li_32767, li_32768, li_65536, e0, e1, e2, h3]
  · rw [if_neg c]
    unfold z_py
    by_cases c1 : K (cd + o) = 1
    · rw [c1] at e0 ⊢
      simp (disch := omega) only [nA, nS, nM, nLT, nLF, nTT, nTF, nEF, nET, nBT, nBF, nC, nNG, nNL, jj_b1, jj_b2, js, jn, eq_self, if_true, if_false, ite_true, ite_false, ↓reduceIte, and_self, true_and, and_true, zb0, zb1, bM, bR, bCk, bMa, Bool.false_eq_true, Bool.and_self, Bool.and_true, Bool.true_and, li_0, li_1, li_2, li_3, li_4, li_5, li_6, li_7, li_8, li_16, li_18, li_21, li_25, li_46, li_54, li_58, li_60, li_79, li_87, li_89, li_95, li_96, li_100, li_104, li_108, li_116, li_127, li_128, li_132, li_153, li_158, li_159, li_164, li_167, li_172, li_176, li_177, li_184, li_188, li_190, li_198, li_199, li_200, li_202, li_240, li_255, li_256, li_32767, li_32768, li_65536, e0]; rfl
    · by_cases c2 : K (cd + o) = 188
      · rw [c2] at e0 ⊢
        simp (disch := omega) only [nA, nS, nM, nLT, nLF, nTT, nTF, nEF, nET, nBT, nBF, nC, nNG, nNL, jj_b1, jj_b2, js, jn, eq_self, if_true, if_false, ite_true, ite_false, ↓reduceIte, and_self, true_and, and_true, zb0, zb1, bM, bR, bCk, bMa, Bool.false_eq_true, Bool.and_self, Bool.and_true, Bool.true_and, li_0, li_1, li_2, li_3, li_4, li_5, li_6, li_7, li_8, li_16, li_18, li_21, li_25, li_46, li_54, li_58, li_60, li_79, li_87, li_89, li_95, li_96, li_100, li_104, li_108, li_116, li_127, li_128, li_132, li_153, li_158, li_159, li_164, li_167, li_172, li_176, li_177, li_184, li_188, li_190, li_198, li_199, li_200, li_202, li_240, li_255, li_256, li_32767, li_32768, li_65536, e0]; rfl
      · simp (disch := omega) only [nA, nS, nM, nLT, nLF, nTT, nTF, nEF, nET, nBT, nBF, nC, nNG, nNL, jj_b1, jj_b2, js, jn, eq_self, if_true, if_false, ite_true, ite_false, ↓reduceIte, and_self, true_and, and_true, zb0, zb1, bM, bR, bCk, bMa, Bool.false_eq_true, Bool.and_self, Bool.and_true, Bool.true_and, li_0, li_1, li_2, li_3, li_4, li_5, li_6, li_7, li_8, li_16, li_18, li_21, li_25, li_46, li_54, li_58, li_60, li_79, li_87, li_89, li_95, li_96, li_100, li_104, li_108, li_116, li_127, li_128, li_132, li_153, li_158, li_159, li_164, li_167, li_172, li_176, li_177, li_184, li_188, li_190, li_198, li_199, li_200, li_202, li_240, li_255, li_256, li_32767, li_32768, li_65536, e0]
        simp [c1, c2]
theorem ck_change (hP : o_Pr P) (hq : q < 24) (hF : By K n) (hOK : FileOK K n) (hC : FileC P K n x) (h5 : x q 5 = nI cd) (hI : IA K n pl (cd + o)) (hpl : pl ≤ 6) (hdp : dp ≤ 6) (hA : KA 27 x pk sk h) (hS : KS pk sk h) (hL : AL K (cd + o) dp rt pk sk h) : ∃ x', f_Ck_change 26 P q (nI o) x = some x' ∧ Same (WS 27) x x' ∧ KA 27 x' (ps_pk K (cd + o) pk sk h) (ps_sk K (cd + o) pk sk h) (ps_h K (cd + o) h) := by
  have h240 := hF.1
  have hP2 := oc_Pr hP
  have hi2 := hI.2.1
  have hb := hF.2 (cd + o) (by omega)
  have e0 := pr_codeP h240 hC h5 (o := o) (by omega)
  have l1 := hL.1
  have l5 := hL.2.2.2.2
  have g := hA.kv
  have h6 := hS.1
  have nu : z_nam (K (cd + o)) = true → K (cd + o + 1) < 6 ∧ f_Pr_operand P q (nI o) x = some (nI (K (cd + o + 1)), x) := fun c1 => by
    have l2 := z_nl _ hb c1
    have b1 := (hI.2.2 l2).1 c1
    exact ⟨by omega, pr_operand h240 hC h5 (o := o) (by omega)⟩
  unfold f_Ck_change
  by_cases c1 : K (cd + o) = 25
  · obtain ⟨u1, u2⟩ := nu (by rw [c1]; rfl)
    have t1 := tk_of c1 (by omega)
    have t2 := pt_of c1 (by omega)
    have t3 : (tkI K (cd + o)).length = 0 := by rw [t1]; rfl
    have t4 : ptI K (cd + o) = 1 := by rw [t2]; rfl
    obtain ⟨x', d1, d2, d3⟩ := sp_putPlace g u1 (by omega)
    refine ⟨x', ?_, d2, ?_⟩
    · simp (disch := omega) only [nA, nS, nM, nLT, nLF, nTT, nTF, nEF, nET, nBT, nBF, nC, nNG, nNL, jj_b1, jj_b2, js, jn, eq_self, if_true, if_false, ite_true, ite_false, ↓reduceIte, and_self, true_and, and_true, zb0, zb1, bM, bR, bCk, bMa, Bool.false_eq_true, Bool.and_self, Bool.and_true, Bool.true_and, li_0, li_1, li_2, li_3, li_4, li_5, li_6, li_7, li_8, li_16, li_18, li_21, li_25, li_46, li_54, li_58, li_60, li_79, li_87, li_89, li_95, li_96, li_100, li_104, li_108, li_116, li_127, li_128, li_132, li_153, li_158, li_159, li_164, li_167, li_172, li_176, li_177, li_184, li_188, li_190, li_198, li_199, li_200, li_202, li_240, li_255, li_256, li_32767, li_32768, li_65536, e0, u2, d1]
    · unfold ps_pk ps_sk ps_h
      rw [if_neg (by omega), if_pos c1, t3, t4]
      exact d3.ka
  by_cases c2 : K (cd + o) = 54 ∨ K (cd + o) = 58
  · obtain ⟨u1, u2⟩ := nu (by rcases c2 with c2 | c2 <;> rw [c2] <;> rfl)
    have t3 : (tkI K (cd + o)).length = 1 := by rcases c2 with c2 | c2 <;> rw [tk_of c2 (by omega)] <;> rfl
    have t4 : ptI K (cd + o) = 0 := by rcases c2 with c2 | c2 <;> rw [pt_of c2 (by omega)] <;> rfl
    obtain ⟨x', d1, d2, d3⟩ := sp_moveToPlace g u1 (by omega) h6
    refine ⟨x', ?_, d2, ?_⟩
    · rcases c2 with c2 | c2
      · simp (disch := omega) only [nA, nS, nM, nLT, nLF, nTT, nTF, nEF, nET, nBT, nBF, nC, nNG, nNL, jj_b1, jj_b2, js, jn, eq_self, if_true, if_false, ite_true, ite_false, ↓reduceIte, and_self, true_and, and_true, zb0, zb1, bM, bR, bCk, bMa, Bool.false_eq_true, Bool.and_self, Bool.and_true, Bool.true_and, li_0, li_1, li_2, li_3, li_4, li_5, li_6, li_7, li_8, li_16, li_18, li_21, li_25, li_46, li_54, li_58, li_60, li_79, li_87, li_89, li_95, li_96, li_100, li_104, li_108, li_116, li_127, li_128, li_132, li_153, li_158, li_159, li_164, li_167, li_172, li_176, li_177, li_184, li_188, li_190, li_198, li_199, li_200, li_202, li_240, li_255, li_256, li_32767, li_32768, li_65536, e0, u2, d1, k_Ck_change_76]
      · simp (disch := omega) only [nA, nS, nM, nLT, nLF, nTT, nTF, nEF, nET, nBT, nBF, nC, nNG, nNL, jj_b1, jj_b2, js, jn, eq_self, if_true, if_false, ite_true, ite_false, ↓reduceIte, and_self, true_and, and_true, zb0, zb1, bM, bR, bCk, bMa, Bool.false_eq_true, Bool.and_self, Bool.and_true, Bool.true_and, li_0, li_1, li_2, li_3, li_4, li_5, li_6, li_7, li_8, li_16, li_18, li_21, li_25, li_46, li_54, li_58, li_60, li_79, li_87, li_89, li_95, li_96, li_100, li_104, li_108, li_116, li_127, li_128, li_132, li_153, li_158, li_159, li_164, li_167, li_172, li_176, li_177, li_184, li_188, li_190, li_198, li_199, li_200, li_202, li_240, li_255, li_256, li_32767, li_32768, li_65536, e0, u2, d1, k_Ck_change_76]
    · unfold ps_pk ps_sk ps_h
      rw [if_pos c2, if_neg c1, if_pos c2, t3, t4]
      exact d3.ka
  by_cases c3 : K (cd + o) = 89
  · have t3 : (tkI K (cd + o)).length = 1 := by rw [tk_of c3 (by omega)]; rfl
    have t4 : ptI K (cd + o) = 2 := by rw [pt_of c3 (by omega)]; rfl
    obtain ⟨x', d1, d2, d3⟩ := sp_putAgain g (by omega) (by omega)
    refine ⟨x', ?_, d2, ?_⟩
    · simp (disch := omega) only [nA, nS, nM, nLT, nLF, nTT, nTF, nEF, nET, nBT, nBF, nC, nNG, nNL, jj_b1, jj_b2, js, jn, eq_self, if_true, if_false, ite_true, ite_false, ↓reduceIte, and_self, true_and, and_true, zb0, zb1, bM, bR, bCk, bMa, Bool.false_eq_true, Bool.and_self, Bool.and_true, Bool.true_and, li_0, li_1, li_2, li_3, li_4, li_5, li_6, li_7, li_8, li_16, li_18, li_21, li_25, li_46, li_54, li_58, li_60, li_79, li_87, li_89, li_95, li_96, li_100, li_104, li_108, li_116, li_127, li_128, li_132, li_153, li_158, li_159, li_164, li_167, li_172, li_176, li_177, li_184, li_188, li_190, li_198, li_199, li_200, li_202, li_240, li_255, li_256, li_32767, li_32768, li_65536, e0, d1]
    · unfold ps_pk ps_sk ps_h
      rw [if_neg c2, if_neg c1, if_neg c2, if_pos c3, t3, t4, show h - 1 + 2 = h + 1 by omega]
      exact d3.ka
  by_cases c4 : K (cd + o) = 95
  · have t3 : (tkI K (cd + o)).length = 2 := by rw [tk_of c4 (by omega)]; rfl
    have t4 : ptI K (cd + o) = 2 := by rw [pt_of c4 (by omega)]; rfl
    obtain ⟨x', d1, d2, d3⟩ := sp_exchange g (by omega) h6
    refine ⟨x', ?_, d2, ?_⟩
    · simp (disch := omega) only [nA, nS, nM, nLT, nLF, nTT, nTF, nEF, nET, nBT, nBF, nC, nNG, nNL, jj_b1, jj_b2, js, jn, eq_self, if_true, if_false, ite_true, ite_false, ↓reduceIte, and_self, true_and, and_true, zb0, zb1, bM, bR, bCk, bMa, Bool.false_eq_true, Bool.and_self, Bool.and_true, Bool.true_and, li_0, li_1, li_2, li_3, li_4, li_5, li_6, li_7, li_8, li_16, li_18, li_21, li_25, li_46, li_54, li_58, li_60, li_79, li_87, li_89, li_95, li_96, li_100, li_104, li_108, li_116, li_127, li_128, li_132, li_153, li_158, li_159, li_164, li_167, li_172, li_176, li_177, li_184, li_188, li_190, li_198, li_199, li_200, li_202, li_240, li_255, li_256, li_32767, li_32768, li_65536, e0, d1]
    · unfold ps_pk ps_sk ps_h
      rw [if_neg c2, if_neg c1, if_neg c2, if_neg c3, if_pos c4, t3, t4, show h - 2 + 2 = h by omega]
      exact d3.ka
  · have e1 := pr_takenCount hP hF hOK hC h5 hI
    have A1 : Same (WS 27) x (jj_set x 27 4 (nI (h - (tkI K (cd + o)).length))) := (Same.refl x).set _ (by omega)
    have hC1 := hC.same hOK.2.2.1 A1 (fun i k _ _ => by omega)
    have h51 : (jj_set x 27 4 (nI (h - (tkI K (cd + o)).length))) q 5 = nI cd := by simp (disch := omega) only [nA, nS, nM, nLT, nLF, nTT, nTF, nEF, nET, nBT, nBF, nC, nNG, nNL, jj_b1, jj_b2, js, jn, eq_self, if_true, if_false, ite_true, ite_false, ↓reduceIte, and_self, true_and, and_true, zb0, zb1, bM, bR, bCk, bMa, Bool.false_eq_true, Bool.and_self, Bool.and_true, Bool.true_and, li_0, li_1, li_2, li_3, li_4, li_5, li_6, li_7, li_8, li_16, li_18, li_21, li_25, li_46, li_54, li_58, li_60, li_79, li_87, li_89, li_95, li_96, li_100, li_104, li_108, li_116, li_127, li_128, li_132, li_153, li_158, li_159, li_164, li_167, li_172, li_176, li_177, li_184, li_188, li_190, li_198, li_199, li_200, li_202, li_240, li_255, li_256, li_32767, li_32768, li_65536, h5]
    have e2 := pr_putCount hP hF hOK hC1 h51 hI
    have e3 := ck_typePut hP hF hOK hC1 h51 hI
    have g1 : KV 27 (jj_set x 27 4 (nI (h - (tkI K (cd + o)).length))) pk (x 29) sk (x 31) (h - (tkI K (cd + o)).length) := ⟨js _ _ _ _, fun k hk => by
      obtain ⟨q1, q2⟩ := g.2.1 k hk
      exact ⟨by simp (disch := omega) only [nA, nS, nM, nLT, nLF, nTT, nTF, nEF, nET, nBT, nBF, nC, nNG, nNL, jj_b1, jj_b2, js, jn, eq_self, if_true, if_false, ite_true, ite_false, ↓reduceIte, and_self, true_and, and_true, zb0, zb1, bM, bR, bCk, bMa, Bool.false_eq_true, Bool.and_self, Bool.and_true, Bool.true_and, li_0, li_1, li_2, li_3, li_4, li_5, li_6, li_7, li_8, li_16, li_18, li_21, li_25, li_46, li_54, li_58, li_60, li_79, li_87, li_89, li_95, li_96, li_100, li_104, li_108, li_116, li_127, li_128, li_132, li_153, li_158, li_159, li_164, li_167, li_172, li_176, li_177, li_184, li_188, li_190, li_198, li_199, li_200, li_202, li_240, li_255, li_256, li_32767, li_32768, li_65536, q1], by simp (disch := omega) only [nA, nS, nM, nLT, nLF, nTT, nTF, nEF, nET, nBT, nBF, nC, nNG, nNL, jj_b1, jj_b2, js, jn, eq_self, if_true, if_false, ite_true, ite_false, ↓reduceIte, and_self, true_and, and_true, zb0, zb1, bM, bR, bCk, bMa, Bool.false_eq_true, Bool.and_self, Bool.and_true, Bool.true_and, li_0, li_1, li_2, li_3, li_4, li_5, li_6, li_7, li_8, li_16, li_18, li_21, li_25, li_46, li_54, li_58, li_60, li_79, li_87, li_89, li_95, li_96, li_100, li_104, li_108, li_116, li_127, li_128, li_132, li_153, li_158, li_159, li_164, li_167, li_172, li_176, li_177, li_184, li_188, li_190, li_198, li_199, li_200, li_202, li_240, li_255, li_256, li_32767, li_32768, li_65536, q2]⟩, fun k hk => by
      obtain ⟨q1, q2⟩ := g.2.2 k (by omega)
      exact ⟨by simp (disch := omega) only [nA, nS, nM, nLT, nLF, nTT, nTF, nEF, nET, nBT, nBF, nC, nNG, nNL, jj_b1, jj_b2, js, jn, eq_self, if_true, if_false, ite_true, ite_false, ↓reduceIte, and_self, true_and, and_true, zb0, zb1, bM, bR, bCk, bMa, Bool.false_eq_true, Bool.and_self, Bool.and_true, Bool.true_and, li_0, li_1, li_2, li_3, li_4, li_5, li_6, li_7, li_8, li_16, li_18, li_21, li_25, li_46, li_54, li_58, li_60, li_79, li_87, li_89, li_95, li_96, li_100, li_104, li_108, li_116, li_127, li_128, li_132, li_153, li_158, li_159, li_164, li_167, li_172, li_176, li_177, li_184, li_188, li_190, li_198, li_199, li_200, li_202, li_240, li_255, li_256, li_32767, li_32768, li_65536, q1], by simp (disch := omega) only [nA, nS, nM, nLT, nLF, nTT, nTF, nEF, nET, nBT, nBF, nC, nNG, nNL, jj_b1, jj_b2, js, jn, eq_self, if_true, if_false, ite_true, ite_false, ↓reduceIte, and_self, true_and, and_true, zb0, zb1, bM, bR, bCk, bMa, Bool.false_eq_true, Bool.and_self, Bool.and_true, Bool.true_and, li_0, li_1, li_2, li_3, li_4, li_5, li_6, li_7, li_8, li_16, li_18, li_21, li_25, li_46, li_54, li_58, li_60, li_79, li_87, li_89, li_95, li_96, li_100, li_104, li_108, li_116, li_127, li_128, li_132, li_153, li_158, li_159, li_164, li_167, li_172, li_176, li_177, li_184, li_188, li_190, li_198, li_199, li_200, li_202, li_240, li_255, li_256, li_32767, li_32768, li_65536, q2]⟩⟩
    have a1 := hA.1
    have p1 := pt_one hF hI c3 c4
    by_cases c5 : ptI K (cd + o) = 1
    · rw [c5] at e2
      obtain ⟨x', d1, d2, d3⟩ := sp_put g1 (by omega) (pyI K (cd + o)) (nI 0)
      refine ⟨x', ?_, A1.trans d2, ?_⟩
      · simp (disch := omega) only [nA, nS, nM, nLT, nLF, nTT, nTF, nEF, nET, nBT, nBF, nC, nNG, nNL, jj_b1, jj_b2, js, jn, eq_self, if_true, if_false, ite_true, ite_false, ↓reduceIte, and_self, true_and, and_true, zb0, zb1, bM, bR, bCk, bMa, Bool.false_eq_true, Bool.and_self, Bool.and_true, Bool.true_and, li_0, li_1, li_2, li_3, li_4, li_5, li_6, li_7, li_8, li_16, li_18, li_21, li_25, li_46, li_54, li_58, li_60, li_79, li_87, li_89, li_95, li_96, li_100, li_104, li_108, li_116, li_127, li_128, li_132, li_153, li_158, li_159, li_164, li_167, li_172, li_176, li_177, li_184, li_188, li_190, li_198, li_199, li_200, li_202, li_240, li_255, li_256, li_32767, li_32768, li_65536, e0, e1, a1, e2, e3, d1]
      · unfold ps_pk ps_sk ps_h
        rw [if_neg c2, if_neg c1, if_neg c2, if_neg c3, if_neg c4, if_pos c5, c5]
        exact d3.ka
    · have c6 : ptI K (cd + o) = 0 := by omega
      rw [c6] at e2
      refine ⟨jj_set x 27 4 (nI (h - (tkI K (cd + o)).length)), ?_, A1, ?_⟩
      · simp (disch := omega) only [nA, nS, nM, nLT, nLF, nTT, nTF, nEF, nET, nBT, nBF, nC, nNG, nNL, jj_b1, jj_b2, js, jn, eq_self, if_true, if_false, ite_true, ite_false, ↓reduceIte, and_self, true_and, and_true, zb0, zb1, bM, bR, bCk, bMa, Bool.false_eq_true, Bool.and_self, Bool.and_true, Bool.true_and, li_0, li_1, li_2, li_3, li_4, li_5, li_6, li_7, li_8, li_16, li_18, li_21, li_25, li_46, li_54, li_58, li_60, li_79, li_87, li_89, li_95, li_96, li_100, li_104, li_108, li_116, li_127, li_128, li_132, li_153, li_158, li_159, li_164, li_167, li_172, li_176, li_177, li_184, li_188, li_190, li_198, li_199, li_200, li_202, li_240, li_255, li_256, li_32767, li_32768, li_65536, e0, e1, a1, e2]
      · unfold ps_pk ps_sk ps_h
        rw [if_neg c2, if_neg c1, if_neg c2, if_neg c3, if_neg c4, if_neg c5, c6]
        exact g1.ka
/-! the reference -/
abbrev WP0 (i k : Nat) : Prop := (61 ≤ i ∧ i ≤ 64 ∧ k < 6) ∨ (i = 65 ∧ k = 0) ∨ (i = 58 ∧ k = 22)
theorem mo_261 {z : jj_Mem} (hb : K p < 256) (hl : z_len (K p) ≠ 0) : k_Mo_pass_261 58 (nI (K p)) z = some (jj_set z 58 22 (nI (FL K p))) := by
  have e := zm_returns _ hb hl
  unfold k_Mo_pass_261 FL
  by_cases c1 : K p = 167
  · rw [if_pos (Or.inl c1)]
    simp (disch := omega) only [nA, nS, nM, nLT, nLF, nTT, nTF, nEF, nET, nBT, nBF, nC, nNG, nNL, jj_b1, jj_b2, js, jn, eq_self, if_true, if_false, ite_true, ite_false, ↓reduceIte, and_self, true_and, and_true, zb0, zb1, bM, bR, bCk, bMa, Bool.false_eq_true, Bool.and_self, Bool.and_true, Bool.true_and, li_0, li_1, li_2, li_3, li_4, li_5, li_6, li_7, li_8, li_16, li_18, li_21, li_25, li_46, li_54, li_58, li_60, li_79, li_87, li_89, li_95, li_96, li_100, li_104, li_108, li_116, li_127, li_128, li_132, li_153, li_158, li_159, li_164, li_167, li_172, li_176, li_177, li_184, li_188, li_190, li_198, li_199, li_200, li_202, li_240, li_255, li_256, li_32767, li_32768, li_65536]
  · by_cases c2 : z_ret (K p) = true
    · rw [if_pos (Or.inr c2)]
      simp (disch := omega) only [nA, nS, nM, nLT, nLF, nTT, nTF, nEF, nET, nBT, nBF, nC, nNG, nNL, jj_b1, jj_b2, js, jn, eq_self, if_true, if_false, ite_true, ite_false, ↓reduceIte, and_self, true_and, and_true, zb0, zb1, bM, bR, bCk, bMa, Bool.false_eq_true, Bool.and_self, Bool.and_true, Bool.true_and, li_0, li_1, li_2, li_3, li_4, li_5, li_6, li_7, li_8, li_16, li_18, li_21, li_25, li_46, li_54, li_58, li_60, li_79, li_87, li_89, li_95, li_96, li_100, li_104, li_108, li_116, li_127, li_128, li_132, li_153, li_158, li_159, li_164, li_167, li_172, li_176, li_177, li_184, li_188, li_190, li_198, li_199, li_200, li_202, li_240, li_255, li_256, li_32767, li_32768, li_65536, e, c2, z_b]
    · rw [if_neg (show ¬ (K p = 167 ∨ z_ret (K p) = true) from fun w => w.elim c1 c2)]
      simp (disch := omega) only [nA, nS, nM, nLT, nLF, nTT, nTF, nEF, nET, nBT, nBF, nC, nNG, nNL, jj_b1, jj_b2, js, jn, eq_self, if_true, if_false, ite_true, ite_false, ↓reduceIte, and_self, true_and, and_true, zb0, zb1, bM, bR, bCk, bMa, Bool.false_eq_true, Bool.and_self, Bool.and_true, Bool.true_and, li_0, li_1, li_2, li_3, li_4, li_5, li_6, li_7, li_8, li_16, li_18, li_21, li_25, li_46, li_54, li_58, li_60, li_79, li_87, li_89, li_95, li_96, li_100, li_104, li_108, li_116, li_127, li_128, li_132, li_153, li_158, li_159, li_164, li_167, li_172, li_176, li_177, li_184, li_188, li_190, li_198, li_199, li_200, li_202, li_240, li_255, li_256, li_32767, li_32768, li_65536, e, c2, z_b]
theorem zm_p184 : s_Mo_puts (nI 184) = some (nI 0) := by decide +kernel
theorem mo_pass (hF : By K n) (hOK : FileOK K n) (hK : KP K n y) (h13 : y 58 13 = nI cd) (hI : IA K n pl (cd + o)) (hpl : pl ≤ 6) (hdp : dp ≤ 6) (hB : KB 0 y pk sk h) (hS : KS pk sk h) (hL : AL K (cd + o) dp rt pk sk h) : ∃ y', f_Mo_pass 58 (nI o) y = some y' ∧ Same WP0 y y' ∧ KB 0 y' (ps_pk K (cd + o) pk sk h) (ps_sk K (cd + o) pk sk h) (ps_h K (cd + o) h) ∧ y' 58 22 = nI (FL K (cd + o)) := by
  have h240 := hF.1
  have hi2 := hI.2.1
  have hb := hF.2 (cd + o) (by omega)
  have e0 := hK (cd + o) (by omega)
  have e1 := mo_takes hF hOK hK h13 hI
  have l1 := hL.1
  have l5 := hL.2.2.2.2
  have a1 := hB.1
  have h6 := hS.1
  -- the two highest
  have H : ∃ hi lo, f_Mo_pass 58 (nI o) y = k_Mo_pass_73 58 (nI o) (nI (K (cd + o))) (nI (tkI K (cd + o)).length) hi lo y ∧ (1 ≤ h → hi = nI (sk (h - 1))) ∧ (2 ≤ h → lo = nI (sk (h - 2))) := by
    unfold f_Mo_pass
    by_cases c1 : h = 0
    · refine ⟨nI 0, nI 0, ?_, fun _ => by omega, fun _ => by omega⟩
      simp (disch := omega) only [nA, nS, nM, nLT, nLF, nTT, nTF, nEF, nET, nBT, nBF, nC, nNG, nNL, jj_b1, jj_b2, js, jn, eq_self, if_true, if_false, ite_true, ite_false, ↓reduceIte, and_self, true_and, and_true, zb0, zb1, bM, bR, bCk, bMa, Bool.false_eq_true, Bool.and_self, Bool.and_true, Bool.true_and, li_0, li_1, li_2, li_3, li_4, li_5, li_6, li_7, li_8, li_16, li_18, li_21, li_25, li_46, li_54, li_58, li_60, li_79, li_87, li_89, li_95, li_96, li_100, li_104, li_108, li_116, li_127, li_128, li_132, li_153, li_158, li_159, li_164, li_167, li_172, li_176, li_177, li_184, li_188, li_190, li_198, li_199, li_200, li_202, li_240, li_255, li_256, li_32767, li_32768, li_65536, h13, e0, e1, a1, k_Mo_pass_44]
    · have g1 := hB.2.2 (h - 1) (by omega)
      rw [show 6 * 0 + (h - 1) = h - 1 by omega] at g1
      by_cases c2 : h = 1
      · refine ⟨nI (sk (h - 1)), nI 0, ?_, fun _ => rfl, fun _ => by omega⟩
        simp (disch := omega) only [nA, nS, nM, nLT, nLF, nTT, nTF, nEF, nET, nBT, nBF, nC, nNG, nNL, jj_b1, jj_b2, js, jn, eq_self, if_true, if_false, ite_true, ite_false, ↓reduceIte, and_self, true_and, and_true, zb0, zb1, bM, bR, bCk, bMa, Bool.false_eq_true, Bool.and_self, Bool.and_true, Bool.true_and, li_0, li_1, li_2, li_3, li_4, li_5, li_6, li_7, li_8, li_16, li_18, li_21, li_25, li_46, li_54, li_58, li_60, li_79, li_87, li_89, li_95, li_96, li_100, li_104, li_108, li_116, li_127, li_128, li_132, li_153, li_158, li_159, li_164, li_167, li_172, li_176, li_177, li_184, li_188, li_190, li_198, li_199, li_200, li_202, li_240, li_255, li_256, li_32767, li_32768, li_65536, h13, e0, e1, a1, k_Mo_pass_44, g1]
      · have g2 := hB.2.2 (h - 2) (by omega)
        rw [show 6 * 0 + (h - 2) = h - 2 by omega] at g2
        refine ⟨nI (sk (h - 1)), nI (sk (h - 2)), ?_, fun _ => rfl, fun _ => rfl⟩
        simp (disch := omega) only [nA, nS, nM, nLT, nLF, nTT, nTF, nEF, nET, nBT, nBF, nC, nNG, nNL, jj_b1, jj_b2, js, jn, eq_self, if_true, if_false, ite_true, ite_false, ↓reduceIte, and_self, true_and, and_true, zb0, zb1, bM, bR, bCk, bMa, Bool.false_eq_true, Bool.and_self, Bool.and_true, Bool.true_and, li_0, li_1, li_2, li_3, li_4, li_5, li_6, li_7, li_8, li_16, li_18, li_21, li_25, li_46, li_54, li_58, li_60, li_79, li_87, li_89, li_95, li_96, li_100, li_104, li_108, li_116, li_127, li_128, li_132, li_153, li_158, li_159, li_164, li_167, li_172, li_176, li_177, li_184, li_188, li_190, li_198, li_199, li_200, li_202, li_240, li_255, li_256, li_32767, li_32768, li_65536, h13, e0, e1, a1, k_Mo_pass_44, g1, g2]
  obtain ⟨hi, lo, U, hh1, hh2⟩ := H
  rw [U]
  obtain ⟨D1, D2⟩ := bp_drop (t := (tkI K (cd + o)).length) (by omega) hB.kvb l1
  have D3 : Same WP0 y (jj_set y 65 0 (nI (h - (tkI K (cd + o)).length))) := (Same.refl y).set _ (by omega)
  generalize hy1 : jj_set y 65 0 (nI (h - (tkI K (cd + o)).length)) = y1 at D1 D2 D3
  have hK1 : KP K n y1 := hK.same D3 (fun k => by omega)
  have h131 : y1 58 13 = nI cd := by rw [D3.get _ _ (by omega)]; exact h13
  have V : K (cd + o) ≠ 184 → k_Mo_pass_73 58 (nI o) (nI (K (cd + o))) (nI (tkI K (cd + o)).length) hi lo y = k_Mo_pass_134 58 (nI o) (nI (K (cd + o))) hi lo y1 := by
    intro c
    rw [← hy1]
    simp (disch := omega) only [nA, nS, nM, nLT, nLF, nTT, nTF, nEF, nET, nBT, nBF, nC, nNG, nNL, jj_b1, jj_b2, js, jn, eq_self, if_true, if_false, ite_true, ite_false, ↓reduceIte, and_self, true_and, and_true, zb0, zb1, bM, bR, bCk, bMa, Bool.false_eq_true, Bool.and_self, Bool.and_true, Bool.true_and, li_0, li_1, li_2, li_3, li_4, li_5, li_6, li_7, li_8, li_16, li_18, li_21, li_25, li_46, li_54, li_58, li_60, li_79, li_87, li_89, li_95, li_96, li_100, li_104, li_108, li_116, li_127, li_128, li_132, li_153, li_158, li_159, li_164, li_167, li_172, li_176, li_177, li_184, li_188, li_190, li_198, li_199, li_200, li_202, li_240, li_255, li_256, li_32767, li_32768, li_65536, k_Mo_pass_73, a1]
  have M := fun z => mo_261 (z := z) hb hI.1
  have fin : ∀ {z : jj_Mem} {pv : Nat → Int32} {sv : Nat → Int32} {pk' sk' : Nat → Nat} {h' : Nat}, Same (WP 0) y1 z → KVB 0 z pk' pv sk' sv h' → h' ≤ 6 → Same WP0 y (jj_set z 58 22 (nI (FL K (cd + o)))) ∧ KB 0 (jj_set z 58 22 (nI (FL K (cd + o)))) pk' sk' h' ∧ (jj_set z 58 22 (nI (FL K (cd + o)))) 58 22 = nI (FL K (cd + o)) := by
    intro z pv sv pk' sk' h' q1 q2 q3
    refine ⟨(D3.trans (q1.mono (fun i k w => by omega))).set _ (by omega), (q2.same (W := fun i _ => i = 58) (Same.set (Same.refl z) _ rfl) q3 (by omega) (fun i k _ _ _ _ => by omega)).kb, js _ _ _ _⟩
  have nu : z_nam (K (cd + o)) = true → K (cd + o + 1) < 6 ∧ y1 60 (cd + o + 1) = nI (K (cd + o + 1)) ∧ cd + o + 1 < n := fun c1 => by
    have l2 := z_nl _ hb c1
    have b1 := (hI.2.2 l2).1 c1
    exact ⟨by omega, hK1 _ (by omega), by omega⟩
  by_cases c1 : K (cd + o) = 25
  · obtain ⟨u1, u2, u3⟩ := nu (by rw [c1]; rfl)
    have t3 : (tkI K (cd + o)).length = 0 := by rw [tk_of c1 (by omega)]; rfl
    have t4 : ptI K (cd + o) = 1 := by rw [pt_of c1 (by omega)]; rfl
    have u4 := (D2.2.1 _ u1).1
    rw [show 6 * 0 + K (cd + o + 1) = K (cd + o + 1) by omega] at u4
    obtain ⟨z, d1, d2, d3⟩ := bp_push (by omega) D2 (by omega) (pk (K (cd + o + 1))) (nI 0)
    obtain ⟨f1, f2, f3⟩ := fin d2 d3 (by omega)
    refine ⟨_, ?_, f1, ?_, f3⟩
    · rw [V (by omega)]
      simp (disch := omega) only [nA, nS, nM, nLT, nLF, nTT, nTF, nEF, nET, nBT, nBF, nC, nNG, nNL, jj_b1, jj_b2, js, jn, eq_self, if_true, if_false, ite_true, ite_false, ↓reduceIte, and_self, true_and, and_true, zb0, zb1, bM, bR, bCk, bMa, Bool.false_eq_true, Bool.and_self, Bool.and_true, Bool.true_and, li_0, li_1, li_2, li_3, li_4, li_5, li_6, li_7, li_8, li_16, li_18, li_21, li_25, li_46, li_54, li_58, li_60, li_79, li_87, li_89, li_95, li_96, li_100, li_104, li_108, li_116, li_127, li_128, li_132, li_153, li_158, li_159, li_164, li_167, li_172, li_176, li_177, li_184, li_188, li_190, li_198, li_199, li_200, li_202, li_240, li_255, li_256, li_32767, li_32768, li_65536, k_Mo_pass_134, h131, u2, u4, d1, M]
    · unfold ps_pk ps_sk ps_h
      rw [if_neg (by omega), if_pos c1, t4]
      rw [t3, show h - 0 = h by omega] at f2
      rw [t3, show h - 0 = h by omega]
      exact f2
  by_cases c2 : K (cd + o) = 54 ∨ K (cd + o) = 58
  · obtain ⟨u1, u2, u3⟩ := nu (by rcases c2 with c2 | c2 <;> rw [c2] <;> rfl)
    have t3 : (tkI K (cd + o)).length = 1 := by rcases c2 with c2 | c2 <;> rw [tk_of c2 (by omega)] <;> rfl
    have t4 : ptI K (cd + o) = 0 := by rcases c2 with c2 | c2 <;> rw [pt_of c2 (by omega)] <;> rfl
    have q0 := hh1 (by omega)
    subst q0
    have B2 : KB 0 (jj_set y1 61 (K (cd + o + 1)) (nI (sk (h - 1)))) (ud pk (K (cd + o + 1)) (sk (h - 1))) sk (h - (tkI K (cd + o)).length) := by
      refine ⟨by simp (disch := omega) only [nA, nS, nM, nLT, nLF, nTT, nTF, nEF, nET, nBT, nBF, nC, nNG, nNL, jj_b1, jj_b2, js, jn, eq_self, if_true, if_false, ite_true, ite_false, ↓reduceIte, and_self, true_and, and_true, zb0, zb1, bM, bR, bCk, bMa, Bool.false_eq_true, Bool.and_self, Bool.and_true, Bool.true_and, li_0, li_1, li_2, li_3, li_4, li_5, li_6, li_7, li_8, li_16, li_18, li_21, li_25, li_46, li_54, li_58, li_60, li_79, li_87, li_89, li_95, li_96, li_100, li_104, li_108, li_116, li_127, li_128, li_132, li_153, li_158, li_159, li_164, li_167, li_172, li_176, li_177, li_184, li_188, li_190, li_198, li_199, li_200, li_202, li_240, li_255, li_256, li_32767, li_32768, li_65536, D2.1], fun k hk => ?_, fun k hk => ?_⟩
      · rw [show 6 * 0 + k = k by omega]
        by_cases w : k = K (cd + o + 1)
        · rw [w]; simp (disch := omega) only [nA, nS, nM, nLT, nLF, nTT, nTF, nEF, nET, nBT, nBF, nC, nNG, nNL, jj_b1, jj_b2, js, jn, eq_self, if_true, if_false, ite_true, ite_false, ↓reduceIte, and_self, true_and, and_true, zb0, zb1, bM, bR, bCk, bMa, Bool.false_eq_true, Bool.and_self, Bool.and_true, Bool.true_and, li_0, li_1, li_2, li_3, li_4, li_5, li_6, li_7, li_8, li_16, li_18, li_21, li_25, li_46, li_54, li_58, li_60, li_79, li_87, li_89, li_95, li_96, li_100, li_104, li_108, li_116, li_127, li_128, li_132, li_153, li_158, li_159, li_164, li_167, li_172, li_176, li_177, li_184, li_188, li_190, li_198, li_199, li_200, li_202, li_240, li_255, li_256, li_32767, li_32768, li_65536, ud_s]
        · have := (D2.2.1 k hk).1
          rw [show 6 * 0 + k = k by omega] at this
          simp (disch := omega) only [nA, nS, nM, nLT, nLF, nTT, nTF, nEF, nET, nBT, nBF, nC, nNG, nNL, jj_b1, jj_b2, js, jn, eq_self, if_true, if_false, ite_true, ite_false, ↓reduceIte, and_self, true_and, and_true, zb0, zb1, bM, bR, bCk, bMa, Bool.false_eq_true, Bool.and_self, Bool.and_true, Bool.true_and, li_0, li_1, li_2, li_3, li_4, li_5, li_6, li_7, li_8, li_16, li_18, li_21, li_25, li_46, li_54, li_58, li_60, li_79, li_87, li_89, li_95, li_96, li_100, li_104, li_108, li_116, li_127, li_128, li_132, li_153, li_158, li_159, li_164, li_167, li_172, li_176, li_177, li_184, li_188, li_190, li_198, li_199, li_200, li_202, li_240, li_255, li_256, li_32767, li_32768, li_65536, ud_n w, this]
      · have := (D2.2.2 k hk).1
        simp (disch := omega) only [nA, nS, nM, nLT, nLF, nTT, nTF, nEF, nET, nBT, nBF, nC, nNG, nNL, jj_b1, jj_b2, js, jn, eq_self, if_true, if_false, ite_true, ite_false, ↓reduceIte, and_self, true_and, and_true, zb0, zb1, bM, bR, bCk, bMa, Bool.false_eq_true, Bool.and_self, Bool.and_true, Bool.true_and, li_0, li_1, li_2, li_3, li_4, li_5, li_6, li_7, li_8, li_16, li_18, li_21, li_25, li_46, li_54, li_58, li_60, li_79, li_87, li_89, li_95, li_96, li_100, li_104, li_108, li_116, li_127, li_128, li_132, li_153, li_158, li_159, li_164, li_167, li_172, li_176, li_177, li_184, li_188, li_190, li_198, li_199, li_200, li_202, li_240, li_255, li_256, li_32767, li_32768, li_65536, this]
    obtain ⟨f1, f2, f3⟩ := fin (z := jj_set y1 61 (K (cd + o + 1)) (nI (sk (h - 1)))) ((Same.refl y1).set _ (by omega)) B2.kvb (by omega)
    refine ⟨_, ?_, f1, ?_, f3⟩
    · rw [V (by omega)]
      rcases c2 with c2 | c2
      · simp (disch := omega) only [nA, nS, nM, nLT, nLF, nTT, nTF, nEF, nET, nBT, nBF, nC, nNG, nNL, jj_b1, jj_b2, js, jn, eq_self, if_true, if_false, ite_true, ite_false, ↓reduceIte, and_self, true_and, and_true, zb0, zb1, bM, bR, bCk, bMa, Bool.false_eq_true, Bool.and_self, Bool.and_true, Bool.true_and, li_0, li_1, li_2, li_3, li_4, li_5, li_6, li_7, li_8, li_16, li_18, li_21, li_25, li_46, li_54, li_58, li_60, li_79, li_87, li_89, li_95, li_96, li_100, li_104, li_108, li_116, li_127, li_128, li_132, li_153, li_158, li_159, li_164, li_167, li_172, li_176, li_177, li_184, li_188, li_190, li_198, li_199, li_200, li_202, li_240, li_255, li_256, li_32767, li_32768, li_65536, k_Mo_pass_134, k_Mo_pass_179, h131, u2, M]
      · simp (disch := omega) only [nA, nS, nM, nLT, nLF, nTT, nTF, nEF, nET, nBT, nBF, nC, nNG, nNL, jj_b1, jj_b2, js, jn, eq_self, if_true, if_false, ite_true, ite_false, ↓reduceIte, and_self, true_and, and_true, zb0, zb1, bM, bR, bCk, bMa, Bool.false_eq_true, Bool.and_self, Bool.and_true, Bool.true_and, li_0, li_1, li_2, li_3, li_4, li_5, li_6, li_7, li_8, li_16, li_18, li_21, li_25, li_46, li_54, li_58, li_60, li_79, li_87, li_89, li_95, li_96, li_100, li_104, li_108, li_116, li_127, li_128, li_132, li_153, li_158, li_159, li_164, li_167, li_172, li_176, li_177, li_184, li_188, li_190, li_198, li_199, li_200, li_202, li_240, li_255, li_256, li_32767, li_32768, li_65536, k_Mo_pass_134, k_Mo_pass_179, h131, u2, M]
    · unfold ps_pk ps_sk ps_h
      rw [if_pos c2, if_neg c1, if_pos c2, t4]
      exact f2
  by_cases c3 : K (cd + o) = 89
  · have t3 : (tkI K (cd + o)).length = 1 := by rw [tk_of c3 (by omega)]; rfl
    have t4 : ptI K (cd + o) = 2 := by rw [pt_of c3 (by omega)]; rfl
    have q0 := hh1 (by omega)
    subst q0
    obtain ⟨z, d1, d2, d3⟩ := bp_push (by omega) D2 (by omega) (sk (h - 1)) (nI 0)
    obtain ⟨z', d1', d2', d3'⟩ := bp_push (by omega) d3 (by omega) (sk (h - 1)) (nI 0)
    obtain ⟨f1, f2, f3⟩ := fin (d2.trans d2') d3' (by omega)
    refine ⟨_, ?_, f1, ?_, f3⟩
    · rw [V (by omega)]
      simp (disch := omega) only [nA, nS, nM, nLT, nLF, nTT, nTF, nEF, nET, nBT, nBF, nC, nNG, nNL, jj_b1, jj_b2, js, jn, eq_self, if_true, if_false, ite_true, ite_false, ↓reduceIte, and_self, true_and, and_true, zb0, zb1, bM, bR, bCk, bMa, Bool.false_eq_true, Bool.and_self, Bool.and_true, Bool.true_and, li_0, li_1, li_2, li_3, li_4, li_5, li_6, li_7, li_8, li_16, li_18, li_21, li_25, li_46, li_54, li_58, li_60, li_79, li_87, li_89, li_95, li_96, li_100, li_104, li_108, li_116, li_127, li_128, li_132, li_153, li_158, li_159, li_164, li_167, li_172, li_176, li_177, li_184, li_188, li_190, li_198, li_199, li_200, li_202, li_240, li_255, li_256, li_32767, li_32768, li_65536, k_Mo_pass_134, k_Mo_pass_214, k_Mo_pass_237, d1, d1', M]
    · unfold ps_pk ps_sk ps_h
      rw [if_neg c2, if_neg c1, if_neg c2, if_pos c3, t4]
      rw [t3, show h - 1 + 1 = h by omega, ud_id] at f2
      rw [t3, show h - 1 + 2 = h + 1 by omega]
      exact f2
  by_cases c4 : K (cd + o) = 95
  · have t3 : (tkI K (cd + o)).length = 2 := by rw [tk_of c4 (by omega)]; rfl
    have t4 : ptI K (cd + o) = 2 := by rw [pt_of c4 (by omega)]; rfl
    have q0 := hh1 (by omega)
    have q1 := hh2 (by omega)
    subst q0
    subst q1
    obtain ⟨z, d1, d2, d3⟩ := bp_push (by omega) D2 (by omega) (sk (h - 1)) (nI 0)
    obtain ⟨z', d1', d2', d3'⟩ := bp_push (by omega) d3 (by omega) (sk (h - 2)) (nI 0)
    obtain ⟨f1, f2, f3⟩ := fin (d2.trans d2') d3' (by omega)
    refine ⟨_, ?_, f1, ?_, f3⟩
    · rw [V (by omega)]
      simp (disch := omega) only [nA, nS, nM, nLT, nLF, nTT, nTF, nEF, nET, nBT, nBF, nC, nNG, nNL, jj_b1, jj_b2, js, jn, eq_self, if_true, if_false, ite_true, ite_false, ↓reduceIte, and_self, true_and, and_true, zb0, zb1, bM, bR, bCk, bMa, Bool.false_eq_true, Bool.and_self, Bool.and_true, Bool.true_and, li_0, li_1, li_2, li_3, li_4, li_5, li_6, li_7, li_8, li_16, li_18, li_21, li_25, li_46, li_54, li_58, li_60, li_79, li_87, li_89, li_95, li_96, li_100, li_104, li_108, li_116, li_127, li_128, li_132, li_153, li_158, li_159, li_164, li_167, li_172, li_176, li_177, li_184, li_188, li_190, li_198, li_199, li_200, li_202, li_240, li_255, li_256, li_32767, li_32768, li_65536, k_Mo_pass_134, k_Mo_pass_214, k_Mo_pass_237, d1, d1', M]
    · unfold ps_pk ps_sk ps_h
      rw [if_neg c2, if_neg c1, if_neg c2, if_neg c3, if_pos c4, t4]
      rw [t3, show h - 2 + 1 = h - 1 by omega, show h - 1 + 1 = h by omega] at f2
      rw [t3, show h - 2 + 2 = h by omega]
      exact f2
  have p1 := pt_one hF hI c3 c4
  have py := py_le hF hOK hI
  by_cases c5 : K (cd + o) = 184
  · have e : z_len (K (cd + o)) = 2 := by rw [c5]; rfl
    obtain ⟨w1, N', w2⟩ := cal_ok hOK hI c5
    have v1 := mo_gives hF hOK hK1 h131 hI
    have v2 := hK1 (cd + o + 1) (by omega)
    have v3 := mo_methodAt hF hOK hK1 w1
    have v4 := mo_returnsOf hF w2 hK1
    have v5 : pyI K (cd + o) = m_rt K (calB K (cd + o)) := by unfold pyI; rw [if_pos c5]
    rw [← v5] at v4
    unfold calB at v4
    by_cases c6 : ptI K (cd + o) = 1
    · rw [c6] at v1
      obtain ⟨z, d1, d2, d3⟩ := bp_push (by omega) D2 (by omega) (pyI K (cd + o)) (nI 0)
      obtain ⟨f1, f2, f3⟩ := fin d2 d3 (by omega)
      refine ⟨_, ?_, f1, ?_, f3⟩
      · unfold k_Mo_pass_73
        simp (disch := omega) only [nA, nS, nM, nLT, nLF, nTT, nTF, nEF, nET, nBT, nBF, nC, nNG, nNL, jj_b1, jj_b2, js, jn, eq_self, if_true, if_false, ite_true, ite_false, ↓reduceIte, and_self, true_and, and_true, zb0, zb1, bM, bR, bCk, bMa, Bool.false_eq_true, Bool.and_self, Bool.and_true, Bool.true_and, li_0, li_1, li_2, li_3, li_4, li_5, li_6, li_7, li_8, li_16, li_18, li_21, li_25, li_46, li_54, li_58, li_60, li_79, li_87, li_89, li_95, li_96, li_100, li_104, li_108, li_116, li_127, li_128, li_132, li_153, li_158, li_159, li_164, li_167, li_172, li_176, li_177, li_184, li_188, li_190, li_198, li_199, li_200, li_202, li_240, li_255, li_256, li_32767, li_32768, li_65536, a1, hy1, v1, h131, v2, v3, v4, d1, M]
      · unfold ps_pk ps_sk ps_h
        rw [if_neg c2, if_neg c1, if_neg c2, if_neg c3, if_neg c4, if_pos c6, c6]
        exact f2
    · have c7 : ptI K (cd + o) = 0 := by omega
      rw [c7] at v1
      obtain ⟨f1, f2, f3⟩ := fin (Same.refl y1) D2 (by omega)
      refine ⟨_, ?_, f1, ?_, f3⟩
      · have zz := zm_p184
        rw [← c5] at zz
        unfold k_Mo_pass_73
        simp (disch := omega) only [nA, nS, nM, nLT, nLF, nTT, nTF, nEF, nET, nBT, nBF, nC, nNG, nNL, jj_b1, jj_b2, js, jn, eq_self, if_true, if_false, ite_true, ite_false, ↓reduceIte, and_self, true_and, and_true, zb0, zb1, bM, bR, bCk, bMa, Bool.false_eq_true, Bool.and_self, Bool.and_true, Bool.true_and, li_0, li_1, li_2, li_3, li_4, li_5, li_6, li_7, li_8, li_16, li_18, li_21, li_25, li_46, li_54, li_58, li_60, li_79, li_87, li_89, li_95, li_96, li_100, li_104, li_108, li_116, li_127, li_128, li_132, li_153, li_158, li_159, li_164, li_167, li_172, li_176, li_177, li_184, li_188, li_190, li_198, li_199, li_200, li_202, li_240, li_255, li_256, li_32767, li_32768, li_65536, a1, hy1, v1, k_Mo_pass_134, zz, M]
      · unfold ps_pk ps_sk ps_h
        rw [if_neg c2, if_neg c1, if_neg c2, if_neg c3, if_neg c4, if_neg c6, c7]
        exact f2
  · have zz := zm_puts _ hb ⟨hI.1, c1, c3, c4, c5⟩
    have v5 : pyI K (cd + o) = z_py (K (cd + o)) := by unfold pyI; rw [if_neg c5]
    have v6 : ptI K (cd + o) = z_pt (K (cd + o)) := by unfold ptI; rw [if_neg c5]
    have v7 : 1 ≤ z_py (K (cd + o)) := by
      unfold z_py
      split
      · omega
      · split <;> omega
    rw [← v5, ← v6] at zz
    by_cases c6 : ptI K (cd + o) = 1
    · rw [if_pos c6] at zz
      obtain ⟨z, d1, d2, d3⟩ := bp_push (by omega) D2 (by omega) (pyI K (cd + o)) (nI 0)
      obtain ⟨f1, f2, f3⟩ := fin d2 d3 (by omega)
      refine ⟨_, ?_, f1, ?_, f3⟩
      · rw [V c5]
        simp (disch := omega) only [nA, nS, nM, nLT, nLF, nTT, nTF, nEF, nET, nBT, nBF, nC, nNG, nNL, jj_b1, jj_b2, js, jn, eq_self, if_true, if_false, ite_true, ite_false, ↓reduceIte, and_self, true_and, and_true, zb0, zb1, bM, bR, bCk, bMa, Bool.false_eq_true, Bool.and_self, Bool.and_true, Bool.true_and, li_0, li_1, li_2, li_3, li_4, li_5, li_6, li_7, li_8, li_16, li_18, li_21, li_25, li_46, li_54, li_58, li_60, li_79, li_87, li_89, li_95, li_96, li_100, li_104, li_108, li_116, li_127, li_128, li_132, li_153, li_158, li_159, li_164, li_167, li_172, li_176, li_177, li_184, li_188, li_190, li_198, li_199, li_200, li_202, li_240, li_255, li_256, li_32767, li_32768, li_65536, k_Mo_pass_134, zz, d1, M]
      · unfold ps_pk ps_sk ps_h
        rw [if_neg c2, if_neg c1, if_neg c2, if_neg c3, if_neg c4, if_pos c6, c6]
        exact f2
    · have c7 : ptI K (cd + o) = 0 := by omega
      rw [if_neg c6] at zz
      obtain ⟨f1, f2, f3⟩ := fin (Same.refl y1) D2 (by omega)
      refine ⟨_, ?_, f1, ?_, f3⟩
      · rw [V c5]
        simp (disch := omega) only [nA, nS, nM, nLT, nLF, nTT, nTF, nEF, nET, nBT, nBF, nC, nNG, nNL, jj_b1, jj_b2, js, jn, eq_self, if_true, if_false, ite_true, ite_false, ↓reduceIte, and_self, true_and, and_true, zb0, zb1, bM, bR, bCk, bMa, Bool.false_eq_true, Bool.and_self, Bool.and_true, Bool.true_and, li_0, li_1, li_2, li_3, li_4, li_5, li_6, li_7, li_8, li_16, li_18, li_21, li_25, li_46, li_54, li_58, li_60, li_79, li_87, li_89, li_95, li_96, li_100, li_104, li_108, li_116, li_127, li_128, li_132, li_153, li_158, li_159, li_164, li_167, li_172, li_176, li_177, li_184, li_188, li_190, li_198, li_199, li_200, li_202, li_240, li_255, li_256, li_32767, li_32768, li_65536, k_Mo_pass_134, zz, M]
      · unfold ps_pk ps_sk ps_h
        rw [if_neg c2, if_neg c1, if_neg c2, if_neg c3, if_neg c4, if_neg c6, c7]
        exact f2
end PASS
