/-! PURE: instructions with an operand, and jumps, on both sides -/
def sgb (b : Nat) : Int32 := if b < 128 then nI b else nI b - nI 256
/-- a constant's value after j of its bytes -/
def cv (K : Nat → Nat) (k : Nat) : Nat → Nat
  | 0 => 0
  | j + 1 => 256 * cv K k j + K (2 + 4 * k + j)
theorem nOr (u v : Nat) : nI u ||| nI v = nI (u ||| v) := by
  apply Int32.toBitVec_inj.1
  show BitVec.ofNat 32 u ||| BitVec.ofNat 32 v = BitVec.ofNat 32 (u ||| v)
  apply BitVec.eq_of_toNat_eq
  rw [BitVec.toNat_or, BitVec.toNat_ofNat, BitVec.toNat_ofNat, BitVec.toNat_ofNat, Nat.or_mod_two_pow]
theorem sh24 : ∀ a, a < 256 → nI a <<< ((24 : Int32) &&& 31) = nI (2 ^ 24 * a) := by decide +kernel
theorem sh16 : ∀ a, a < 256 → nI a <<< ((16 : Int32) &&& 31) = nI (2 ^ 16 * a) := by decide +kernel
theorem sh8 : ∀ a, a < 256 → nI a <<< ((8 : Int32) &&& 31) = nI (2 ^ 8 * a) := by decide +kernel
theorem cst4 {a b c d : Nat} (ha : a < 256) (hb : b < 256) (hc : c < 256) (hd : d < 256) : (((nI a <<< ((24 : Int32) &&& 31)) ||| (nI b <<< ((16 : Int32) &&& 31))) ||| (nI c <<< ((8 : Int32) &&& 31))) ||| nI d = nI (256 * (256 * (256 * (256 * 0 + a) + b) + c) + d) := by
  rw [sh24 a ha, sh16 b hb, sh8 c hc, nOr, nOr, nOr]
  congr 1
  rw [← Nat.two_pow_add_eq_or_of_lt (i := 24) (b := 2 ^ 16 * b) (by omega) a]
  rw [show 2 ^ 24 * a + 2 ^ 16 * b = 2 ^ 16 * (256 * a + b) by omega]
  rw [← Nat.two_pow_add_eq_or_of_lt (i := 16) (b := 2 ^ 8 * c) (by omega) (256 * a + b)]
  rw [show 2 ^ 16 * (256 * a + b) + 2 ^ 8 * c = 2 ^ 8 * (256 * (256 * a + b) + c) by omega]
  rw [← Nat.two_pow_add_eq_or_of_lt (i := 8) (b := d) (by omega) (256 * (256 * a + b) + c)]
  omega
section OPERAND
variable {K : Nat → Nat} {n P q cd o pl dp rt c mk mk' h h' u a p k : Nat} {x y x' y' : jj_Mem} {pk sk : Nat → Nat} {pv pw sv sw : Nat → Int32} {v w : Int32}
theorem pr_constant (hF : By K n) (hC : FileC P K n x) (hk : k < K 1) (hn : 3 + 4 * K 1 ≤ n) : f_Pr_constant P (nI k) x = some (nI (cv K k 4), x) := by
  have h240 := hF.1
  have h3 := hC.2.2.1
  have e0 := hC.2.2.2.2.1 (2 + 4 * k) (by omega)
  have e1 := hC.2.2.2.2.1 (2 + 4 * k + 1) (by omega)
  have e2 := hC.2.2.2.2.1 (2 + 4 * k + 2) (by omega)
  have e3 := hC.2.2.2.2.1 (2 + 4 * k + 3) (by omega)
  unfold f_Pr_constant
  simp (disch := omega) only [nA, nS, nM, nLT, nLF, nTT, nTF, nEF, nET, nBT, nBF, nC, nNG, nNL, jj_b1, jj_b2, js, jn, eq_self, if_true, if_false, ite_true, ite_false, ↓reduceIte, and_self, true_and, and_true, zb0, zb1, bM, bR, bCk, bMa, Bool.false_eq_true, Bool.and_self, Bool.and_true, Bool.true_and, li_0, li_1, li_2, li_3, li_4, li_5, li_6, li_7, li_8, li_16, li_18, li_21, li_25, li_46, li_54, li_58, li_60, li_79, li_87, li_89, li_95, li_96, li_100, li_104, li_108, li_116, li_127, li_128, li_132, li_153, li_158, li_159, li_164, li_167, li_172, li_176, li_177, li_184, li_188, li_190, li_198, li_199, li_200, li_202, li_240, li_255, li_256, li_32767, li_32768, li_65536, h3, e0, e1, e2, e3]
  exact congrArg (fun v => some (v, x)) (cst4 (hF.2 _ (by omega)) (hF.2 _ (by omega)) (hF.2 _ (by omega)) (hF.2 _ (by omega)))
theorem mo_constant (hF : By K n) (hK : KP K n y) (hk : k < K 1) (hn : 3 + 4 * K 1 ≤ n) : f_Mo_constant 58 (nI k) y = some (nI (cv K k 4), y) := by
  have h240 := hF.1
  have G : ∀ (r j f : Nat), j + r = 4 → r < f → g_Mo_constant f 4 [some (.ref 58), some (.int (nI k)), some (.int (nI (cv K k j))), some (.int (nI j))] y = some (nI (cv K k 4), y) := by
    intro r
    induction r with
    | zero =>
      intro j f hj hf
      obtain ⟨f, rfl⟩ : ∃ g, f = g + 1 := ⟨f - 1, by omega⟩
      have e : j = 4 := by omega
      rw [e]
      simp (disch := omega) only [nA, nS, nM, nLT, nLF, nTT, nTF, nEF, nET, nBT, nBF, nC, nNG, nNL, jj_b1, jj_b2, js, jn, eq_self, if_true, if_false, ite_true, ite_false, ↓reduceIte, and_self, true_and, and_true, zb0, zb1, bM, bR, bCk, bMa, Bool.false_eq_true, Bool.and_self, Bool.and_true, Bool.true_and, li_0, li_1, li_2, li_3, li_4, li_5, li_6, li_7, li_8, li_16, li_18, li_21, li_25, li_46, li_54, li_58, li_60, li_79, li_87, li_89, li_95, li_96, li_100, li_104, li_108, li_116, li_127, li_128, li_132, li_153, li_158, li_159, li_164, li_167, li_172, li_176, li_177, li_184, li_188, li_190, li_198, li_199, li_200, li_202, li_240, li_255, li_256, li_32767, li_32768, li_65536, g_Mo_constant, k_Mo_constant_4]
    | succ r ih =>
      intro j f hj hf
      obtain ⟨f, rfl⟩ : ∃ g, f = g + 1 := ⟨f - 1, by omega⟩
      have e := hK (2 + 4 * k + j) (by omega)
      have d := ih (j + 1) f (by omega) (by omega)
      rw [show cv K k (j + 1) = 256 * cv K k j + K (2 + 4 * k + j) from rfl] at d
      rw [show g_Mo_constant (f + 1) 4 [some (.ref 58), some (.int (nI k)), some (.int (nI (cv K k j))), some (.int (nI j))] y = k_Mo_constant_4 (g_Mo_constant f) 58 (nI k) (nI (cv K k j)) (nI j) y from rfl]
      simp (disch := omega) only [nA, nS, nM, nLT, nLF, nTT, nTF, nEF, nET, nBT, nBF, nC, nNG, nNL, jj_b1, jj_b2, js, jn, eq_self, if_true, if_false, ite_true, ite_false, ↓reduceIte, and_self, true_and, and_true, zb0, zb1, bM, bR, bCk, bMa, Bool.false_eq_true, Bool.and_self, Bool.and_true, Bool.true_and, li_0, li_1, li_2, li_3, li_4, li_5, li_6, li_7, li_8, li_16, li_18, li_21, li_25, li_46, li_54, li_58, li_60, li_79, li_87, li_89, li_95, li_96, li_100, li_104, li_108, li_116, li_127, li_128, li_132, li_153, li_158, li_159, li_164, li_167, li_172, li_176, li_177, li_184, li_188, li_190, li_198, li_199, li_200, li_202, li_240, li_255, li_256, li_32767, li_32768, li_65536, k_Mo_constant_4, e, d]
  have := G 4 0 1000 (by omega) (by omega)
  rw [show cv K k 0 = 0 from rfl] at this
  unfold f_Mo_constant k_Mo_constant_0
  simp (disch := omega) only [nA, nS, nM, nLT, nLF, nTT, nTF, nEF, nET, nBT, nBF, nC, nNG, nNL, jj_b1, jj_b2, js, jn, eq_self, if_true, if_false, ite_true, ite_false, ↓reduceIte, and_self, true_and, and_true, zb0, zb1, bM, bR, bCk, bMa, Bool.false_eq_true, Bool.and_self, Bool.and_true, Bool.true_and, li_0, li_1, li_2, li_3, li_4, li_5, li_6, li_7, li_8, li_16, li_18, li_21, li_25, li_46, li_54, li_58, li_60, li_79, li_87, li_89, li_95, li_96, li_100, li_104, li_108, li_116, li_127, li_128, li_132, li_153, li_158, li_159, li_164, li_167, li_172, li_176, li_177, li_184, li_188, li_190, li_198, li_199, li_200, li_202, li_240, li_255, li_256, li_32767, li_32768, li_65536, this]
theorem mo_small {b : Nat} (hb : b < 256) : f_Mo_small (nI b) y = some (sgb b, y) := by
  unfold f_Mo_small sgb
  by_cases c : b < 128
  · rw [if_pos c]; simp (disch := omega) only [nA, nS, nM, nLT, nLF, nTT, nTF, nEF, nET, nBT, nBF, nC, nNG, nNL, jj_b1, jj_b2, js, jn, eq_self, if_true, if_false, ite_true, ite_false, ↓reduceIte, and_self, true_and, and_true, zb0, zb1, bM, bR, bCk, bMa, Bool.false_eq_true, Bool.and_self, Bool.and_true, Bool.true_and, li_0, li_1, li_2, li_3, li_4, li_5, li_6, li_7, li_8, li_16, li_18, li_21, li_25, li_46, li_54, li_58, li_60, li_79, li_87, li_89, li_95, li_96, li_100, li_104, li_108, li_116, li_127, li_128, li_132, li_153, li_158, li_159, li_164, li_167, li_172, li_176, li_177, li_184, li_188, li_190, li_198, li_199, li_200, li_202, li_240, li_255, li_256, li_32767, li_32768, li_65536]
  · rw [if_neg c]; simp (disch := omega) only [nA, nS, nM, nLT, nLF, nTT, nTF, nEF, nET, nBT, nBF, nC, nNG, nNL, jj_b1, jj_b2, js, jn, eq_self, if_true, if_false, ite_true, ite_false, ↓reduceIte, and_self, true_and, and_true, zb0, zb1, bM, bR, bCk, bMa, Bool.false_eq_true, Bool.and_self, Bool.and_true, Bool.true_and, li_0, li_1, li_2, li_3, li_4, li_5, li_6, li_7, li_8, li_16, li_18, li_21, li_25, li_46, li_54, li_58, li_60, li_79, li_87, li_89, li_95, li_96, li_100, li_104, li_108, li_116, li_127, li_128, li_132, li_153, li_158, li_159, li_164, li_167, li_172, li_176, li_177, li_184, li_188, li_190, li_198, li_199, li_200, li_202, li_240, li_255, li_256, li_32767, li_32768, li_65536]
theorem pr_signed {o' : Nat} (hF : By K n) (hC : FileC P K n x) (h5 : x q 5 = nI cd) (hn : cd + o' < n) : f_Pr_signedByte P q (nI o') x = some (sgb (K (cd + o')), x) := by
  have e := pr_codeP hF.1 hC h5 hn
  have hb := hF.2 _ hn
  unfold f_Pr_signedByte sgb
  by_cases c : K (cd + o') < 128
  · rw [if_pos c]; simp (disch := omega) only [nA, nS, nM, nLT, nLF, nTT, nTF, nEF, nET, nBT, nBF, nC, nNG, nNL, jj_b1, jj_b2, js, jn, eq_self, if_true, if_false, ite_true, ite_false, ↓reduceIte, and_self, true_and, and_true, zb0, zb1, bM, bR, bCk, bMa, Bool.false_eq_true, Bool.and_self, Bool.and_true, Bool.true_and, li_0, li_1, li_2, li_3, li_4, li_5, li_6, li_7, li_8, li_16, li_18, li_21, li_25, li_46, li_54, li_58, li_60, li_79, li_87, li_89, li_95, li_96, li_100, li_104, li_108, li_116, li_127, li_128, li_132, li_153, li_158, li_159, li_164, li_167, li_172, li_176, li_177, li_184, li_188, li_190, li_198, li_199, li_200, li_202, li_240, li_255, li_256, li_32767, li_32768, li_65536, e]
  · rw [if_neg c]; simp (disch := omega) only [nA, nS, nM, nLT, nLF, nTT, nTF, nEF, nET, nBT, nBF, nC, nNG, nNL, jj_b1, jj_b2, js, jn, eq_self, if_true, if_false, ite_true, ite_false, ↓reduceIte, and_self, true_and, and_true, zb0, zb1, bM, bR, bCk, bMa, Bool.false_eq_true, Bool.and_self, Bool.and_true, Bool.true_and, li_0, li_1, li_2, li_3, li_4, li_5, li_6, li_7, li_8, li_16, li_18, li_21, li_25, li_46, li_54, li_58, li_60, li_79, li_87, li_89, li_95, li_96, li_100, li_104, li_108, li_116, li_127, li_128, li_132, li_153, li_158, li_159, li_164, li_167, li_172, li_176, li_177, li_184, li_188, li_190, li_198, li_199, li_200, li_202, li_240, li_255, li_256, li_32767, li_32768, li_65536, e]
theorem two_operand (H : HW K n P q cd o pl dp rt c mk x y pk pv pw sk sv sw h) (hop : K (cd + o) = 16 ∨ K (cd + o) = 18 ∨ K (cd + o) = 21 ∨ K (cd + o) = 25 ∨ K (cd + o) = 54 ∨ K (cd + o) = 58 ∨ K (cd + o) = 132) : ∃ x' y', f_Ma_doWithOperand 32 (34 + 5 * c) P q (nI o) x = some x' ∧ f_Mo_work 58 (nI c) (nI o) (nI (K (cd + o))) (nI (6 * c + h) - nI 1) y = some y' ∧ DW mk c x y x' y' := by
  obtain ⟨hc, hmk, hF, hOK, hFC, hK, h5, h13, hI, hpl, hdp, hR, hA, hS, h8, h23, hr⟩ := H
  have h240 := hF.1
  have r1 := hR.1
  have r2 := hR.2.1
  have pc : PC mk pk pv pw sk sv sw h := hR.2.2
  have h6 := pc.1.1
  have a5 := hA.2.2.2.2
  have g1 := r2.1
  have tk := mo_takes hF hOK hK h13 hI
  have zl : 2 ≤ z_len (K (cd + o)) := by rcases hop with c1 | c1 | c1 | c1 | c1 | c1 | c1 <;> rw [c1] <;> decide
  have hi2 := hI.2.1
  have op := pr_operand h240 hFC h5 (o := o) (by omega)
  have e0 := pr_codeP h240 hFC h5 (o := o) (by omega)
  have k60 := hK (cd + o + 1) (by omega)
  have b60 := hF.2 (cd + o + 1) (by omega)
  have ok := hI.2.2 zl
  obtain ⟨l7, l8, l9, l10, s0, w1, w2, w3, w4⟩ := mo_w hc hF hK h13 hI r2 h6
  rcases hop with c1 | c1 | c1 | c1 | c1 | c1 | c1
  · have t3 : (tkI K (cd + o)).length = 0 := by rw [tk_of c1 (by omega)]; rfl
    have t4 : ptI K (cd + o) = 1 := by rw [pt_of c1 (by omega)]; rfl
    rw [t3] at tk a5
    rw [t4] at a5
    have sb := pr_signed (o' := o + 1) hF hFC h5 (by omega)
    have sm := mo_small (y := jj_set y 65 c (nI (h - 0))) b60
    obtain ⟨x1, b1, b2, b3⟩ := sp_put r1 (by omega) 1 (sgb (K (cd + (o + 1))))
    obtain ⟨d1, d2⟩ := bp_drop (t := 0) hc r2 (by omega)
    obtain ⟨y1, e1, e2, e3⟩ := bp_push hc d2 (by omega) 1 (sgb (K (cd + o + 1)))
    have pu : s_Mo_puts (nI 16) = some (nI 1) := zm_puts 16 (by omega) (by decide)
    rw [c1] at w1 e0 ⊢
    refine ⟨x1, y1, ?_, ?_, DW_plain hc hmk h8 h23 hr b2 (d1.trans e2) (FE_of b3 e3 (pc.put (by omega) (by omega) (VR.self (by omega))))⟩
    · unfold f_Ma_doWithOperand
      simp (disch := omega) only [nA, nS, nM, nLT, nLF, nTT, nTF, nEF, nET, nBT, nBF, nC, nNG, nNL, jj_b1, jj_b2, js, jn, eq_self, if_true, if_false, ite_true, ite_false, ↓reduceIte, and_self, true_and, and_true, zb0, zb1, bM, bR, bCk, bMa, Bool.false_eq_true, Bool.and_self, Bool.and_true, Bool.true_and, li_0, li_1, li_2, li_3, li_4, li_5, li_6, li_7, li_8, li_16, li_18, li_21, li_25, li_46, li_54, li_58, li_60, li_79, li_87, li_89, li_95, li_96, li_100, li_104, li_108, li_116, li_127, li_128, li_132, li_153, li_158, li_159, li_164, li_167, li_172, li_176, li_177, li_184, li_188, li_190, li_198, li_199, li_200, li_202, li_240, li_255, li_256, li_32767, li_32768, li_65536, op, e0, sb, b1]
    · rw [w1]
      simp (disch := omega) only [nA, nS, nM, nLT, nLF, nTT, nTF, nEF, nET, nBT, nBF, nC, nNG, nNL, jj_b1, jj_b2, js, jn, eq_self, if_true, if_false, ite_true, ite_false, ↓reduceIte, and_self, true_and, and_true, zb0, zb1, bM, bR, bCk, bMa, Bool.false_eq_true, Bool.and_self, Bool.and_true, Bool.true_and, li_0, li_1, li_2, li_3, li_4, li_5, li_6, li_7, li_8, li_16, li_18, li_21, li_25, li_46, li_54, li_58, li_60, li_79, li_87, li_89, li_95, li_96, li_100, li_104, li_108, li_116, li_127, li_128, li_132, li_153, li_158, li_159, li_164, li_167, li_172, li_176, li_177, li_184, li_188, li_190, li_198, li_199, li_200, li_202, li_240, li_255, li_256, li_32767, li_32768, li_65536, k_Mo_work_158, g1, tk, pu, f_Mo_value, k60, sm, e1]
  · have t3 : (tkI K (cd + o)).length = 0 := by rw [tk_of c1 (by omega)]; rfl
    have t4 : ptI K (cd + o) = 1 := by rw [pt_of c1 (by omega)]; rfl
    rw [t3] at tk a5
    rw [t4] at a5
    have hk1 := ok.2.1 c1
    have sb := pr_constant hF hFC hk1 hOK.2.2.2.1
    obtain ⟨x1, b1, b2, b3⟩ := sp_put r1 (by omega) 1 (nI (cv K (K (cd + o + 1)) 4))
    obtain ⟨d1, d2⟩ := bp_drop (t := 0) hc r2 (by omega)
    have sm := mo_constant (y := jj_set y 65 c (nI (h - 0))) hF (hK.same d1 (fun k => by omega)) hk1 hOK.2.2.2.1
    obtain ⟨y1, e1, e2, e3⟩ := bp_push hc d2 (by omega) 1 (nI (cv K (K (cd + o + 1)) 4))
    have pu : s_Mo_puts (nI 18) = some (nI 1) := zm_puts 18 (by omega) (by decide)
    rw [c1] at w1 e0 ⊢
    refine ⟨x1, y1, ?_, ?_, DW_plain hc hmk h8 h23 hr b2 (d1.trans e2) (FE_of b3 e3 (pc.put (by omega) (by omega) (VR.self (by omega))))⟩
    · unfold f_Ma_doWithOperand
      simp (disch := omega) only [nA, nS, nM, nLT, nLF, nTT, nTF, nEF, nET, nBT, nBF, nC, nNG, nNL, jj_b1, jj_b2, js, jn, eq_self, if_true, if_false, ite_true, ite_false, ↓reduceIte, and_self, true_and, and_true, zb0, zb1, bM, bR, bCk, bMa, Bool.false_eq_true, Bool.and_self, Bool.and_true, Bool.true_and, li_0, li_1, li_2, li_3, li_4, li_5, li_6, li_7, li_8, li_16, li_18, li_21, li_25, li_46, li_54, li_58, li_60, li_79, li_87, li_89, li_95, li_96, li_100, li_104, li_108, li_116, li_127, li_128, li_132, li_153, li_158, li_159, li_164, li_167, li_172, li_176, li_177, li_184, li_188, li_190, li_198, li_199, li_200, li_202, li_240, li_255, li_256, li_32767, li_32768, li_65536, op, e0, sb, b1]
    · rw [w1]
      simp (disch := omega) only [nA, nS, nM, nLT, nLF, nTT, nTF, nEF, nET, nBT, nBF, nC, nNG, nNL, jj_b1, jj_b2, js, jn, eq_self, if_true, if_false, ite_true, ite_false, ↓reduceIte, and_self, true_and, and_true, zb0, zb1, bM, bR, bCk, bMa, Bool.false_eq_true, Bool.and_self, Bool.and_true, Bool.true_and, li_0, li_1, li_2, li_3, li_4, li_5, li_6, li_7, li_8, li_16, li_18, li_21, li_25, li_46, li_54, li_58, li_60, li_79, li_87, li_89, li_95, li_96, li_100, li_104, li_108, li_116, li_127, li_128, li_132, li_153, li_158, li_159, li_164, li_167, li_172, li_176, li_177, li_184, li_188, li_190, li_198, li_199, li_200, li_202, li_240, li_255, li_256, li_32767, li_32768, li_65536, k_Mo_work_158, g1, tk, pu, f_Mo_value, k60, sm, e1]
  · have t3 : (tkI K (cd + o)).length = 0 := by rw [tk_of c1 (by omega)]; rfl
    have t4 : ptI K (cd + o) = 1 := by rw [pt_of c1 (by omega)]; rfl
    rw [t3] at tk a5
    rw [t4] at a5
    have z1 : z_nam (K (cd + o)) = true := by rw [c1]; rfl
    have hu := ok.1 z1
    obtain ⟨x1, b1, b2, b3⟩ := sp_putPlace r1 (u := K (cd + o + 1)) (by omega) (by omega)
    obtain ⟨d1, d2⟩ := bp_drop (t := 0) hc r2 (by omega)
    obtain ⟨q1, q2⟩ := d2.2.1 (K (cd + o + 1)) (by omega)
    obtain ⟨y1, e1, e2, e3⟩ := bp_push hc d2 (by omega) (pk (K (cd + o + 1))) (pw (K (cd + o + 1)))
    rw [if_pos z1] at w1
    rw [c1] at w1 e0 ⊢
    refine ⟨x1, y1, ?_, ?_, DW_plain hc hmk h8 h23 hr b2 (d1.trans e2) (FE_of b3 e3 (pc.put (by omega) (pc.1.2.1 _) (pc.2.1 _ (by omega))))⟩
    · unfold f_Ma_doWithOperand
      simp (disch := omega) only [nA, nS, nM, nLT, nLF, nTT, nTF, nEF, nET, nBT, nBF, nC, nNG, nNL, jj_b1, jj_b2, js, jn, eq_self, if_true, if_false, ite_true, ite_false, ↓reduceIte, and_self, true_and, and_true, zb0, zb1, bM, bR, bCk, bMa, Bool.false_eq_true, Bool.and_self, Bool.and_true, Bool.true_and, li_0, li_1, li_2, li_3, li_4, li_5, li_6, li_7, li_8, li_16, li_18, li_21, li_25, li_46, li_54, li_58, li_60, li_79, li_87, li_89, li_95, li_96, li_100, li_104, li_108, li_116, li_127, li_128, li_132, li_153, li_158, li_159, li_164, li_167, li_172, li_176, li_177, li_184, li_188, li_190, li_198, li_199, li_200, li_202, li_240, li_255, li_256, li_32767, li_32768, li_65536, op, e0, k_Ma_doWithOperand_115, b1]
    · rw [w1]
      simp (disch := omega) only [nA, nS, nM, nLT, nLF, nTT, nTF, nEF, nET, nBT, nBF, nC, nNG, nNL, jj_b1, jj_b2, js, jn, eq_self, if_true, if_false, ite_true, ite_false, ↓reduceIte, and_self, true_and, and_true, zb0, zb1, bM, bR, bCk, bMa, Bool.false_eq_true, Bool.and_self, Bool.and_true, Bool.true_and, li_0, li_1, li_2, li_3, li_4, li_5, li_6, li_7, li_8, li_16, li_18, li_21, li_25, li_46, li_54, li_58, li_60, li_79, li_87, li_89, li_95, li_96, li_100, li_104, li_108, li_116, li_127, li_128, li_132, li_153, li_158, li_159, li_164, li_167, li_172, li_176, li_177, li_184, li_188, li_190, li_198, li_199, li_200, li_202, li_240, li_255, li_256, li_32767, li_32768, li_65536, k_Mo_work_158, k_Mo_work_260, g1, tk]
      simp (disch := omega) only [jn] at q1 q2
      simp (disch := omega) only [nA, nS, nM, nLT, nLF, nTT, nTF, nEF, nET, nBT, nBF, nC, nNG, nNL, jj_b1, jj_b2, js, jn, eq_self, if_true, if_false, ite_true, ite_false, ↓reduceIte, and_self, true_and, and_true, zb0, zb1, bM, bR, bCk, bMa, Bool.false_eq_true, Bool.and_self, Bool.and_true, Bool.true_and, li_0, li_1, li_2, li_3, li_4, li_5, li_6, li_7, li_8, li_16, li_18, li_21, li_25, li_46, li_54, li_58, li_60, li_79, li_87, li_89, li_95, li_96, li_100, li_104, li_108, li_116, li_127, li_128, li_132, li_153, li_158, li_159, li_164, li_167, li_172, li_176, li_177, li_184, li_188, li_190, li_198, li_199, li_200, li_202, li_240, li_255, li_256, li_32767, li_32768, li_65536, q1, q2, e1]
  · have t3 : (tkI K (cd + o)).length = 0 := by rw [tk_of c1 (by omega)]; rfl
    have t4 : ptI K (cd + o) = 1 := by rw [pt_of c1 (by omega)]; rfl
    rw [t3] at tk a5
    rw [t4] at a5
    have z1 : z_nam (K (cd + o)) = true := by rw [c1]; rfl
    have hu := ok.1 z1
    obtain ⟨x1, b1, b2, b3⟩ := sp_putPlace r1 (u := K (cd + o + 1)) (by omega) (by omega)
    obtain ⟨d1, d2⟩ := bp_drop (t := 0) hc r2 (by omega)
    obtain ⟨q1, q2⟩ := d2.2.1 (K (cd + o + 1)) (by omega)
    obtain ⟨y1, e1, e2, e3⟩ := bp_push hc d2 (by omega) (pk (K (cd + o + 1))) (pw (K (cd + o + 1)))
    rw [if_pos z1] at w1
    rw [c1] at w1 e0 ⊢
    refine ⟨x1, y1, ?_, ?_, DW_plain hc hmk h8 h23 hr b2 (d1.trans e2) (FE_of b3 e3 (pc.put (by omega) (pc.1.2.1 _) (pc.2.1 _ (by omega))))⟩
    · unfold f_Ma_doWithOperand
      simp (disch := omega) only [nA, nS, nM, nLT, nLF, nTT, nTF, nEF, nET, nBT, nBF, nC, nNG, nNL, jj_b1, jj_b2, js, jn, eq_self, if_true, if_false, ite_true, ite_false, ↓reduceIte, and_self, true_and, and_true, zb0, zb1, bM, bR, bCk, bMa, Bool.false_eq_true, Bool.and_self, Bool.and_true, Bool.true_and, li_0, li_1, li_2, li_3, li_4, li_5, li_6, li_7, li_8, li_16, li_18, li_21, li_25, li_46, li_54, li_58, li_60, li_79, li_87, li_89, li_95, li_96, li_100, li_104, li_108, li_116, li_127, li_128, li_132, li_153, li_158, li_159, li_164, li_167, li_172, li_176, li_177, li_184, li_188, li_190, li_198, li_199, li_200, li_202, li_240, li_255, li_256, li_32767, li_32768, li_65536, op, e0, k_Ma_doWithOperand_115, b1]
    · rw [w1]
      simp (disch := omega) only [nA, nS, nM, nLT, nLF, nTT, nTF, nEF, nET, nBT, nBF, nC, nNG, nNL, jj_b1, jj_b2, js, jn, eq_self, if_true, if_false, ite_true, ite_false, ↓reduceIte, and_self, true_and, and_true, zb0, zb1, bM, bR, bCk, bMa, Bool.false_eq_true, Bool.and_self, Bool.and_true, Bool.true_and, li_0, li_1, li_2, li_3, li_4, li_5, li_6, li_7, li_8, li_16, li_18, li_21, li_25, li_46, li_54, li_58, li_60, li_79, li_87, li_89, li_95, li_96, li_100, li_104, li_108, li_116, li_127, li_128, li_132, li_153, li_158, li_159, li_164, li_167, li_172, li_176, li_177, li_184, li_188, li_190, li_198, li_199, li_200, li_202, li_240, li_255, li_256, li_32767, li_32768, li_65536, k_Mo_work_158, k_Mo_work_260, g1, tk]
      simp (disch := omega) only [jn] at q1 q2
      simp (disch := omega) only [nA, nS, nM, nLT, nLF, nTT, nTF, nEF, nET, nBT, nBF, nC, nNG, nNL, jj_b1, jj_b2, js, jn, eq_self, if_true, if_false, ite_true, ite_false, ↓reduceIte, and_self, true_and, and_true, zb0, zb1, bM, bR, bCk, bMa, Bool.false_eq_true, Bool.and_self, Bool.and_true, Bool.true_and, li_0, li_1, li_2, li_3, li_4, li_5, li_6, li_7, li_8, li_16, li_18, li_21, li_25, li_46, li_54, li_58, li_60, li_79, li_87, li_89, li_95, li_96, li_100, li_104, li_108, li_116, li_127, li_128, li_132, li_153, li_158, li_159, li_164, li_167, li_172, li_176, li_177, li_184, li_188, li_190, li_198, li_199, li_200, li_202, li_240, li_255, li_256, li_32767, li_32768, li_65536, q1, q2, e1]
  · have t3 : (tkI K (cd + o)).length = 1 := by rw [tk_of c1 (by omega)]; rfl
    have t0 := hA.1
    rw [t3] at tk a5 t0
    have z1 : z_nam (K (cd + o)) = true := by rw [c1]; rfl
    have hu := ok.1 z1
    obtain ⟨x1, b1, b2, b3⟩ := sp_moveToPlace r1 (u := K (cd + o + 1)) (by omega) (by omega) h6
    obtain ⟨d1, d2⟩ := bp_drop (t := 1) hc r2 (by omega)
    obtain ⟨e1, e2⟩ := bp_place hc d2 (u := K (cd + o + 1)) (by omega) (sk (h - 1)) (sw (h - 1))
    rw [if_pos z1] at w1
    rw [c1] at w1 e0 ⊢
    refine ⟨x1, _, ?_, ?_, DW_plain hc hmk h8 h23 hr b2 (d1.trans e1) (FE_of b3 e2 ((pc.drop (by omega : h - 1 ≤ h)).place (pc.1.2.2 _) (pc.2.2 (h - 1) (by omega))))⟩
    · unfold f_Ma_doWithOperand
      simp (disch := omega) only [nA, nS, nM, nLT, nLF, nTT, nTF, nEF, nET, nBT, nBF, nC, nNG, nNL, jj_b1, jj_b2, js, jn, eq_self, if_true, if_false, ite_true, ite_false, ↓reduceIte, and_self, true_and, and_true, zb0, zb1, bM, bR, bCk, bMa, Bool.false_eq_true, Bool.and_self, Bool.and_true, Bool.true_and, li_0, li_1, li_2, li_3, li_4, li_5, li_6, li_7, li_8, li_16, li_18, li_21, li_25, li_46, li_54, li_58, li_60, li_79, li_87, li_89, li_95, li_96, li_100, li_104, li_108, li_116, li_127, li_128, li_132, li_153, li_158, li_159, li_164, li_167, li_172, li_176, li_177, li_184, li_188, li_190, li_198, li_199, li_200, li_202, li_240, li_255, li_256, li_32767, li_32768, li_65536, op, e0, k_Ma_doWithOperand_124, b1]
    · rw [w1, (w2 (by omega)).1, (w2 (by omega)).2]
      simp (disch := omega) only [nA, nS, nM, nLT, nLF, nTT, nTF, nEF, nET, nBT, nBF, nC, nNG, nNL, jj_b1, jj_b2, js, jn, eq_self, if_true, if_false, ite_true, ite_false, ↓reduceIte, and_self, true_and, and_true, zb0, zb1, bM, bR, bCk, bMa, Bool.false_eq_true, Bool.and_self, Bool.and_true, Bool.true_and, li_0, li_1, li_2, li_3, li_4, li_5, li_6, li_7, li_8, li_16, li_18, li_21, li_25, li_46, li_54, li_58, li_60, li_79, li_87, li_89, li_95, li_96, li_100, li_104, li_108, li_116, li_127, li_128, li_132, li_153, li_158, li_159, li_164, li_167, li_172, li_176, li_177, li_184, li_188, li_190, li_198, li_199, li_200, li_202, li_240, li_255, li_256, li_32767, li_32768, li_65536, k_Mo_work_158, k_Mo_work_282, g1, tk]
  · have t3 : (tkI K (cd + o)).length = 1 := by rw [tk_of c1 (by omega)]; rfl
    have t0 := hA.1
    rw [t3] at tk a5 t0
    have z1 : z_nam (K (cd + o)) = true := by rw [c1]; rfl
    have hu := ok.1 z1
    obtain ⟨x1, b1, b2, b3⟩ := sp_moveToPlace r1 (u := K (cd + o + 1)) (by omega) (by omega) h6
    obtain ⟨d1, d2⟩ := bp_drop (t := 1) hc r2 (by omega)
    obtain ⟨e1, e2⟩ := bp_place hc d2 (u := K (cd + o + 1)) (by omega) (sk (h - 1)) (sw (h - 1))
    rw [if_pos z1] at w1
    rw [c1] at w1 e0 ⊢
    refine ⟨x1, _, ?_, ?_, DW_plain hc hmk h8 h23 hr b2 (d1.trans e1) (FE_of b3 e2 ((pc.drop (by omega : h - 1 ≤ h)).place (pc.1.2.2 _) (pc.2.2 (h - 1) (by omega))))⟩
    · unfold f_Ma_doWithOperand
      simp (disch := omega) only [nA, nS, nM, nLT, nLF, nTT, nTF, nEF, nET, nBT, nBF, nC, nNG, nNL, jj_b1, jj_b2, js, jn, eq_self, if_true, if_false, ite_true, ite_false, ↓reduceIte, and_self, true_and, and_true, zb0, zb1, bM, bR, bCk, bMa, Bool.false_eq_true, Bool.and_self, Bool.and_true, Bool.true_and, li_0, li_1, li_2, li_3, li_4, li_5, li_6, li_7, li_8, li_16, li_18, li_21, li_25, li_46, li_54, li_58, li_60, li_79, li_87, li_89, li_95, li_96, li_100, li_104, li_108, li_116, li_127, li_128, li_132, li_153, li_158, li_159, li_164, li_167, li_172, li_176, li_177, li_184, li_188, li_190, li_198, li_199, li_200, li_202, li_240, li_255, li_256, li_32767, li_32768, li_65536, op, e0, k_Ma_doWithOperand_124, b1]
    · rw [w1, (w2 (by omega)).1, (w2 (by omega)).2]
      simp (disch := omega) only [nA, nS, nM, nLT, nLF, nTT, nTF, nEF, nET, nBT, nBF, nC, nNG, nNL, jj_b1, jj_b2, js, jn, eq_self, if_true, if_false, ite_true, ite_false, ↓reduceIte, and_self, true_and, and_true, zb0, zb1, bM, bR, bCk, bMa, Bool.false_eq_true, Bool.and_self, Bool.and_true, Bool.true_and, li_0, li_1, li_2, li_3, li_4, li_5, li_6, li_7, li_8, li_16, li_18, li_21, li_25, li_46, li_54, li_58, li_60, li_79, li_87, li_89, li_95, li_96, li_100, li_104, li_108, li_116, li_127, li_128, li_132, li_153, li_158, li_159, li_164, li_167, li_172, li_176, li_177, li_184, li_188, li_190, li_198, li_199, li_200, li_202, li_240, li_255, li_256, li_32767, li_32768, li_65536, k_Mo_work_158, k_Mo_work_282, g1, tk]
  · have t3 : (tkI K (cd + o)).length = 0 := by rw [tk_of c1 (by omega)]; rfl
    rw [t3] at tk a5
    have z1 : z_nam (K (cd + o)) = true := by rw [c1]; rfl
    have hu := ok.1 z1
    have zl3 : z_len (K (cd + o)) = 3 := by rw [c1]; rfl
    have kp := hA.2.2.1 z1
    rw [c1] at kp
    have kp1 : pk (K (cd + o + 1)) = 1 := by
      have : z_tp 132 = 1 := rfl
      rw [this] at kp
      rcases kp with w | w | w <;> omega
    have v1 := (pc.2.1 (K (cd + o + 1)) (by omega)).1 (by omega)
    have sb := pr_signed (o' := o + 2) hF hFC h5 (by omega)
    obtain ⟨d1, d2⟩ := bp_drop (t := 0) hc r2 (by omega)
    have k61 := hK (cd + o + 1 + 1) (by omega)
    have sm := mo_small (y := jj_set y 65 c (nI (h - 0))) (hF.2 (cd + o + 1 + 1) (by omega))
    obtain ⟨p1, p2⟩ := r1.2.1 (K (cd + o + 1)) (by omega)
    obtain ⟨q1, q2⟩ := r2.2.1 (K (cd + o + 1)) (by omega)
    obtain ⟨x1, b1, b2, b3⟩ := sp_setPlace r1 (u := K (cd + o + 1)) (by omega) 1 (pv (K (cd + o + 1)) + sgb (K (cd + (o + 2))))
    have e2 := bp_val d2 (u := K (cd + o + 1)) (by omega) (pv (K (cd + o + 1)) + sgb (K (cd + (o + 2))))
    rw [if_pos z1] at w1
    rw [c1] at w1 e0 ⊢
    have eud : ud pk (K (cd + o + 1)) 1 = pk := by
      have := ud_id (f := pk) (k := K (cd + o + 1))
      rw [kp1] at this
      exact this
    have pc2 := (pc.drop (by omega : h - 0 ≤ h)).place (u := K (cd + o + 1)) (a := 1) (v := pv (K (cd + o + 1)) + sgb (K (cd + (o + 2)))) (w := pv (K (cd + o + 1)) + sgb (K (cd + (o + 2)))) (by omega) (VR.self (by omega))
    rw [eud] at b3 pc2
    refine ⟨x1, _, ?_, ?_, DW_plain hc hmk h8 h23 hr b2 (d1.trans ((Same.refl _).set _ (by omega))) (FE_of b3 e2 pc2)⟩
    · unfold f_Ma_doWithOperand
      simp (disch := omega) only [nA, nS, nM, nLT, nLF, nTT, nTF, nEF, nET, nBT, nBF, nC, nNG, nNL, jj_b1, jj_b2, js, jn, eq_self, if_true, if_false, ite_true, ite_false, ↓reduceIte, and_self, true_and, and_true, zb0, zb1, bM, bR, bCk, bMa, Bool.false_eq_true, Bool.and_self, Bool.and_true, Bool.true_and, li_0, li_1, li_2, li_3, li_4, li_5, li_6, li_7, li_8, li_16, li_18, li_21, li_25, li_46, li_54, li_58, li_60, li_79, li_87, li_89, li_95, li_96, li_100, li_104, li_108, li_116, li_127, li_128, li_132, li_153, li_158, li_159, li_164, li_167, li_172, li_176, li_177, li_184, li_188, li_190, li_198, li_199, li_200, li_202, li_240, li_255, li_256, li_32767, li_32768, li_65536, op, e0, p2, sb, b1]
    · rw [w1]
      simp (disch := omega) only [nA, nS, nM, nLT, nLF, nTT, nTF, nEF, nET, nBT, nBF, nC, nNG, nNL, jj_b1, jj_b2, js, jn, eq_self, if_true, if_false, ite_true, ite_false, ↓reduceIte, and_self, true_and, and_true, zb0, zb1, bM, bR, bCk, bMa, Bool.false_eq_true, Bool.and_self, Bool.and_true, Bool.true_and, li_0, li_1, li_2, li_3, li_4, li_5, li_6, li_7, li_8, li_16, li_18, li_21, li_25, li_46, li_54, li_58, li_60, li_79, li_87, li_89, li_95, li_96, li_100, li_104, li_108, li_116, li_127, li_128, li_132, li_153, li_158, li_159, li_164, li_167, li_172, li_176, li_177, li_184, li_188, li_190, li_198, li_199, li_200, li_202, li_240, li_255, li_256, li_32767, li_32768, li_65536, k_Mo_work_158, g1, tk, k61, sm, q2, v1]
      rfl
/-! jumps -/
theorem two_holds {t : Nat} (ht : t < 6) (a b : Int32) : ∃ g, g ≤ 1 ∧ (∀ x, f_Ma_holds 32 (nI t) a b x = some (nI g, x)) ∧ (∀ y, k_Mo_goes_116 a b (nI t) y = some (nI g, y)) := by
  have n2 : jj_nz (nI 2) = true := by decide
  have : t = 0 ∨ t = 1 ∨ t = 2 ∨ t = 3 ∨ t = 4 ∨ t = 5 := by omega
  rcases this with rfl | rfl | rfl | rfl | rfl | rfl
  · have dt : (nI 0 - nI 0 / nI 2 * nI 2 = nI 0) = True := eq_true (by decide)
    by_cases w : a = b
    · have w' := eq_true w
      exact ⟨1, by omega, fun x => by simp (disch := omega) only [nA, nS, nM, nLT, nLF, nTT, nTF, nEF, nET, nBT, nBF, nC, nNG, nNL, jj_b1, jj_b2, js, jn, eq_self, if_true, if_false, ite_true, ite_false, ↓reduceIte, and_self, true_and, and_true, zb0, zb1, bM, bR, bCk, bMa, Bool.false_eq_true, Bool.and_self, Bool.and_true, Bool.true_and, li_0, li_1, li_2, li_3, li_4, li_5, li_6, li_7, li_8, li_16, li_18, li_21, li_25, li_46, li_54, li_58, li_60, li_79, li_87, li_89, li_95, li_96, li_100, li_104, li_108, li_116, li_127, li_128, li_132, li_153, li_158, li_159, li_164, li_167, li_172, li_176, li_177, li_184, li_188, li_190, li_198, li_199, li_200, li_202, li_240, li_255, li_256, li_32767, li_32768, li_65536, f_Ma_holds, w'], fun y => by simp (disch := omega) only [nA, nS, nM, nLT, nLF, nTT, nTF, nEF, nET, nBT, nBF, nC, nNG, nNL, jj_b1, jj_b2, js, jn, eq_self, if_true, if_false, ite_true, ite_false, ↓reduceIte, and_self, true_and, and_true, zb0, zb1, bM, bR, bCk, bMa, Bool.false_eq_true, Bool.and_self, Bool.and_true, Bool.true_and, li_0, li_1, li_2, li_3, li_4, li_5, li_6, li_7, li_8, li_16, li_18, li_21, li_25, li_46, li_54, li_58, li_60, li_79, li_87, li_89, li_95, li_96, li_100, li_104, li_108, li_116, li_127, li_128, li_132, li_153, li_158, li_159, li_164, li_167, li_172, li_176, li_177, li_184, li_188, li_190, li_198, li_199, li_200, li_202, li_240, li_255, li_256, li_32767, li_32768, li_65536, k_Mo_goes_116, k_Mo_goes_135, k_Mo_goes_187, k_Mo_goes_203, w', n2, dt]⟩
    · have w' := eq_false w
      exact ⟨0, by omega, fun x => by simp (disch := omega) only [nA, nS, nM, nLT, nLF, nTT, nTF, nEF, nET, nBT, nBF, nC, nNG, nNL, jj_b1, jj_b2, js, jn, eq_self, if_true, if_false, ite_true, ite_false, ↓reduceIte, and_self, true_and, and_true, zb0, zb1, bM, bR, bCk, bMa, Bool.false_eq_true, Bool.and_self, Bool.and_true, Bool.true_and, li_0, li_1, li_2, li_3, li_4, li_5, li_6, li_7, li_8, li_16, li_18, li_21, li_25, li_46, li_54, li_58, li_60, li_79, li_87, li_89, li_95, li_96, li_100, li_104, li_108, li_116, li_127, li_128, li_132, li_153, li_158, li_159, li_164, li_167, li_172, li_176, li_177, li_184, li_188, li_190, li_198, li_199, li_200, li_202, li_240, li_255, li_256, li_32767, li_32768, li_65536, f_Ma_holds, w'], fun y => by simp (disch := omega) only [nA, nS, nM, nLT, nLF, nTT, nTF, nEF, nET, nBT, nBF, nC, nNG, nNL, jj_b1, jj_b2, js, jn, eq_self, if_true, if_false, ite_true, ite_false, ↓reduceIte, and_self, true_and, and_true, zb0, zb1, bM, bR, bCk, bMa, Bool.false_eq_true, Bool.and_self, Bool.and_true, Bool.true_and, li_0, li_1, li_2, li_3, li_4, li_5, li_6, li_7, li_8, li_16, li_18, li_21, li_25, li_46, li_54, li_58, li_60, li_79, li_87, li_89, li_95, li_96, li_100, li_104, li_108, li_116, li_127, li_128, li_132, li_153, li_158, li_159, li_164, li_167, li_172, li_176, li_177, li_184, li_188, li_190, li_198, li_199, li_200, li_202, li_240, li_255, li_256, li_32767, li_32768, li_65536, k_Mo_goes_116, k_Mo_goes_135, k_Mo_goes_187, k_Mo_goes_203, w', n2, dt]⟩
  · have dt : (nI 1 - nI 1 / nI 2 * nI 2 = nI 0) = False := eq_false (by decide)
    by_cases w : a = b
    · have w' := eq_true w
      exact ⟨0, by omega, fun x => by simp (disch := omega) only [nA, nS, nM, nLT, nLF, nTT, nTF, nEF, nET, nBT, nBF, nC, nNG, nNL, jj_b1, jj_b2, js, jn, eq_self, if_true, if_false, ite_true, ite_false, ↓reduceIte, and_self, true_and, and_true, zb0, zb1, bM, bR, bCk, bMa, Bool.false_eq_true, Bool.and_self, Bool.and_true, Bool.true_and, li_0, li_1, li_2, li_3, li_4, li_5, li_6, li_7, li_8, li_16, li_18, li_21, li_25, li_46, li_54, li_58, li_60, li_79, li_87, li_89, li_95, li_96, li_100, li_104, li_108, li_116, li_127, li_128, li_132, li_153, li_158, li_159, li_164, li_167, li_172, li_176, li_177, li_184, li_188, li_190, li_198, li_199, li_200, li_202, li_240, li_255, li_256, li_32767, li_32768, li_65536, f_Ma_holds, w'], fun y => by simp (disch := omega) only [nA, nS, nM, nLT, nLF, nTT, nTF, nEF, nET, nBT, nBF, nC, nNG, nNL, jj_b1, jj_b2, js, jn, eq_self, if_true, if_false, ite_true, ite_false, ↓reduceIte, and_self, true_and, and_true, zb0, zb1, bM, bR, bCk, bMa, Bool.false_eq_true, Bool.and_self, Bool.and_true, Bool.true_and, li_0, li_1, li_2, li_3, li_4, li_5, li_6, li_7, li_8, li_16, li_18, li_21, li_25, li_46, li_54, li_58, li_60, li_79, li_87, li_89, li_95, li_96, li_100, li_104, li_108, li_116, li_127, li_128, li_132, li_153, li_158, li_159, li_164, li_167, li_172, li_176, li_177, li_184, li_188, li_190, li_198, li_199, li_200, li_202, li_240, li_255, li_256, li_32767, li_32768, li_65536, k_Mo_goes_116, k_Mo_goes_135, k_Mo_goes_187, k_Mo_goes_203, w', n2, dt]⟩
    · have w' := eq_false w
      exact ⟨1, by omega, fun x => by simp (disch := omega) only [nA, nS, nM, nLT, nLF, nTT, nTF, nEF, nET, nBT, nBF, nC, nNG, nNL, jj_b1, jj_b2, js, jn, eq_self, if_true, if_false, ite_true, ite_false, ↓reduceIte, and_self, true_and, and_true, zb0, zb1, bM, bR, bCk, bMa, Bool.false_eq_true, Bool.and_self, Bool.and_true, Bool.true_and, li_0, li_1, li_2, li_3, li_4, li_5, li_6, li_7, li_8, li_16, li_18, li_21, li_25, li_46, li_54, li_58, li_60, li_79, li_87, li_89, li_95, li_96, li_100, li_104, li_108, li_116, li_127, li_128, li_132, li_153, li_158, li_159, li_164, li_167, li_172, li_176, li_177, li_184, li_188, li_190, li_198, li_199, li_200, li_202, li_240, li_255, li_256, li_32767, li_32768, li_65536, f_Ma_holds, w'], fun y => by simp (disch := omega) only [nA, nS, nM, nLT, nLF, nTT, nTF, nEF, nET, nBT, nBF, nC, nNG, nNL, jj_b1, jj_b2, js, jn, eq_self, if_true, if_false, ite_true, ite_false, ↓reduceIte, and_self, true_and, and_true, zb0, zb1, bM, bR, bCk, bMa, Bool.false_eq_true, Bool.and_self, Bool.and_true, Bool.true_and, li_0, li_1, li_2, li_3, li_4, li_5, li_6, li_7, li_8, li_16, li_18, li_21, li_25, li_46, li_54, li_58, li_60, li_79, li_87, li_89, li_95, li_96, li_100, li_104, li_108, li_116, li_127, li_128, li_132, li_153, li_158, li_159, li_164, li_167, li_172, li_176, li_177, li_184, li_188, li_190, li_198, li_199, li_200, li_202, li_240, li_255, li_256, li_32767, li_32768, li_65536, k_Mo_goes_116, k_Mo_goes_135, k_Mo_goes_187, k_Mo_goes_203, w', n2, dt]⟩
  · have dt : (nI 2 - nI 2 / nI 2 * nI 2 = nI 0) = True := eq_true (by decide)
    by_cases w : b ≤ a
    · have w' := eq_true w
      exact ⟨0, by omega, fun x => by simp (disch := omega) only [nA, nS, nM, nLT, nLF, nTT, nTF, nEF, nET, nBT, nBF, nC, nNG, nNL, jj_b1, jj_b2, js, jn, eq_self, if_true, if_false, ite_true, ite_false, ↓reduceIte, and_self, true_and, and_true, zb0, zb1, bM, bR, bCk, bMa, Bool.false_eq_true, Bool.and_self, Bool.and_true, Bool.true_and, li_0, li_1, li_2, li_3, li_4, li_5, li_6, li_7, li_8, li_16, li_18, li_21, li_25, li_46, li_54, li_58, li_60, li_79, li_87, li_89, li_95, li_96, li_100, li_104, li_108, li_116, li_127, li_128, li_132, li_153, li_158, li_159, li_164, li_167, li_172, li_176, li_177, li_184, li_188, li_190, li_198, li_199, li_200, li_202, li_240, li_255, li_256, li_32767, li_32768, li_65536, f_Ma_holds, w'], fun y => by simp (disch := omega) only [nA, nS, nM, nLT, nLF, nTT, nTF, nEF, nET, nBT, nBF, nC, nNG, nNL, jj_b1, jj_b2, js, jn, eq_self, if_true, if_false, ite_true, ite_false, ↓reduceIte, and_self, true_and, and_true, zb0, zb1, bM, bR, bCk, bMa, Bool.false_eq_true, Bool.and_self, Bool.and_true, Bool.true_and, li_0, li_1, li_2, li_3, li_4, li_5, li_6, li_7, li_8, li_16, li_18, li_21, li_25, li_46, li_54, li_58, li_60, li_79, li_87, li_89, li_95, li_96, li_100, li_104, li_108, li_116, li_127, li_128, li_132, li_153, li_158, li_159, li_164, li_167, li_172, li_176, li_177, li_184, li_188, li_190, li_198, li_199, li_200, li_202, li_240, li_255, li_256, li_32767, li_32768, li_65536, k_Mo_goes_116, k_Mo_goes_130, k_Mo_goes_135, k_Mo_goes_187, k_Mo_goes_203, w', n2, dt]⟩
    · have w' := eq_false w
      exact ⟨1, by omega, fun x => by simp (disch := omega) only [nA, nS, nM, nLT, nLF, nTT, nTF, nEF, nET, nBT, nBF, nC, nNG, nNL, jj_b1, jj_b2, js, jn, eq_self, if_true, if_false, ite_true, ite_false, ↓reduceIte, and_self, true_and, and_true, zb0, zb1, bM, bR, bCk, bMa, Bool.false_eq_true, Bool.and_self, Bool.and_true, Bool.true_and, li_0, li_1, li_2, li_3, li_4, li_5, li_6, li_7, li_8, li_16, li_18, li_21, li_25, li_46, li_54, li_58, li_60, li_79, li_87, li_89, li_95, li_96, li_100, li_104, li_108, li_116, li_127, li_128, li_132, li_153, li_158, li_159, li_164, li_167, li_172, li_176, li_177, li_184, li_188, li_190, li_198, li_199, li_200, li_202, li_240, li_255, li_256, li_32767, li_32768, li_65536, f_Ma_holds, w'], fun y => by simp (disch := omega) only [nA, nS, nM, nLT, nLF, nTT, nTF, nEF, nET, nBT, nBF, nC, nNG, nNL, jj_b1, jj_b2, js, jn, eq_self, if_true, if_false, ite_true, ite_false, ↓reduceIte, and_self, true_and, and_true, zb0, zb1, bM, bR, bCk, bMa, Bool.false_eq_true, Bool.and_self, Bool.and_true, Bool.true_and, li_0, li_1, li_2, li_3, li_4, li_5, li_6, li_7, li_8, li_16, li_18, li_21, li_25, li_46, li_54, li_58, li_60, li_79, li_87, li_89, li_95, li_96, li_100, li_104, li_108, li_116, li_127, li_128, li_132, li_153, li_158, li_159, li_164, li_167, li_172, li_176, li_177, li_184, li_188, li_190, li_198, li_199, li_200, li_202, li_240, li_255, li_256, li_32767, li_32768, li_65536, k_Mo_goes_116, k_Mo_goes_130, k_Mo_goes_135, k_Mo_goes_187, k_Mo_goes_203, w', n2, dt]⟩
  · have dt : (nI 3 - nI 3 / nI 2 * nI 2 = nI 0) = False := eq_false (by decide)
    by_cases w : b ≤ a
    · have w' := eq_true w
      have u' : (a < b) = False := eq_false (Int32.not_lt.mpr w)
      exact ⟨1, by omega, fun x => by simp (disch := omega) only [nA, nS, nM, nLT, nLF, nTT, nTF, nEF, nET, nBT, nBF, nC, nNG, nNL, jj_b1, jj_b2, js, jn, eq_self, if_true, if_false, ite_true, ite_false, ↓reduceIte, and_self, true_and, and_true, zb0, zb1, bM, bR, bCk, bMa, Bool.false_eq_true, Bool.and_self, Bool.and_true, Bool.true_and, li_0, li_1, li_2, li_3, li_4, li_5, li_6, li_7, li_8, li_16, li_18, li_21, li_25, li_46, li_54, li_58, li_60, li_79, li_87, li_89, li_95, li_96, li_100, li_104, li_108, li_116, li_127, li_128, li_132, li_153, li_158, li_159, li_164, li_167, li_172, li_176, li_177, li_184, li_188, li_190, li_198, li_199, li_200, li_202, li_240, li_255, li_256, li_32767, li_32768, li_65536, f_Ma_holds, u'], fun y => by simp (disch := omega) only [nA, nS, nM, nLT, nLF, nTT, nTF, nEF, nET, nBT, nBF, nC, nNG, nNL, jj_b1, jj_b2, js, jn, eq_self, if_true, if_false, ite_true, ite_false, ↓reduceIte, and_self, true_and, and_true, zb0, zb1, bM, bR, bCk, bMa, Bool.false_eq_true, Bool.and_self, Bool.and_true, Bool.true_and, li_0, li_1, li_2, li_3, li_4, li_5, li_6, li_7, li_8, li_16, li_18, li_21, li_25, li_46, li_54, li_58, li_60, li_79, li_87, li_89, li_95, li_96, li_100, li_104, li_108, li_116, li_127, li_128, li_132, li_153, li_158, li_159, li_164, li_167, li_172, li_176, li_177, li_184, li_188, li_190, li_198, li_199, li_200, li_202, li_240, li_255, li_256, li_32767, li_32768, li_65536, k_Mo_goes_116, k_Mo_goes_130, k_Mo_goes_135, k_Mo_goes_187, k_Mo_goes_203, w', n2, dt]⟩
    · have w' := eq_false w
      have u' : (a < b) = True := eq_true (Int32.not_le.mp w)
      exact ⟨0, by omega, fun x => by simp (disch := omega) only [nA, nS, nM, nLT, nLF, nTT, nTF, nEF, nET, nBT, nBF, nC, nNG, nNL, jj_b1, jj_b2, js, jn, eq_self, if_true, if_false, ite_true, ite_false, ↓reduceIte, and_self, true_and, and_true, zb0, zb1, bM, bR, bCk, bMa, Bool.false_eq_true, Bool.and_self, Bool.and_true, Bool.true_and, li_0, li_1, li_2, li_3, li_4, li_5, li_6, li_7, li_8, li_16, li_18, li_21, li_25, li_46, li_54, li_58, li_60, li_79, li_87, li_89, li_95, li_96, li_100, li_104, li_108, li_116, li_127, li_128, li_132, li_153, li_158, li_159, li_164, li_167, li_172, li_176, li_177, li_184, li_188, li_190, li_198, li_199, li_200, li_202, li_240, li_255, li_256, li_32767, li_32768, li_65536, f_Ma_holds, u'], fun y => by simp (disch := omega) only [nA, nS, nM, nLT, nLF, nTT, nTF, nEF, nET, nBT, nBF, nC, nNG, nNL, jj_b1, jj_b2, js, jn, eq_self, if_true, if_false, ite_true, ite_false, ↓reduceIte, and_self, true_and, and_true, zb0, zb1, bM, bR, bCk, bMa, Bool.false_eq_true, Bool.and_self, Bool.and_true, Bool.true_and, li_0, li_1, li_2, li_3, li_4, li_5, li_6, li_7, li_8, li_16, li_18, li_21, li_25, li_46, li_54, li_58, li_60, li_79, li_87, li_89, li_95, li_96, li_100, li_104, li_108, li_116, li_127, li_128, li_132, li_153, li_158, li_159, li_164, li_167, li_172, li_176, li_177, li_184, li_188, li_190, li_198, li_199, li_200, li_202, li_240, li_255, li_256, li_32767, li_32768, li_65536, k_Mo_goes_116, k_Mo_goes_130, k_Mo_goes_135, k_Mo_goes_187, k_Mo_goes_203, w', n2, dt]⟩
  · have dt : (nI 4 - nI 4 / nI 2 * nI 2 = nI 0) = True := eq_true (by decide)
    by_cases w : a ≤ b
    · have w' := eq_true w
      exact ⟨0, by omega, fun x => by simp (disch := omega) only [nA, nS, nM, nLT, nLF, nTT, nTF, nEF, nET, nBT, nBF, nC, nNG, nNL, jj_b1, jj_b2, js, jn, eq_self, if_true, if_false, ite_true, ite_false, ↓reduceIte, and_self, true_and, and_true, zb0, zb1, bM, bR, bCk, bMa, Bool.false_eq_true, Bool.and_self, Bool.and_true, Bool.true_and, li_0, li_1, li_2, li_3, li_4, li_5, li_6, li_7, li_8, li_16, li_18, li_21, li_25, li_46, li_54, li_58, li_60, li_79, li_87, li_89, li_95, li_96, li_100, li_104, li_108, li_116, li_127, li_128, li_132, li_153, li_158, li_159, li_164, li_167, li_172, li_176, li_177, li_184, li_188, li_190, li_198, li_199, li_200, li_202, li_240, li_255, li_256, li_32767, li_32768, li_65536, f_Ma_holds, w'], fun y => by simp (disch := omega) only [nA, nS, nM, nLT, nLF, nTT, nTF, nEF, nET, nBT, nBF, nC, nNG, nNL, jj_b1, jj_b2, js, jn, eq_self, if_true, if_false, ite_true, ite_false, ↓reduceIte, and_self, true_and, and_true, zb0, zb1, bM, bR, bCk, bMa, Bool.false_eq_true, Bool.and_self, Bool.and_true, Bool.true_and, li_0, li_1, li_2, li_3, li_4, li_5, li_6, li_7, li_8, li_16, li_18, li_21, li_25, li_46, li_54, li_58, li_60, li_79, li_87, li_89, li_95, li_96, li_100, li_104, li_108, li_116, li_127, li_128, li_132, li_153, li_158, li_159, li_164, li_167, li_172, li_176, li_177, li_184, li_188, li_190, li_198, li_199, li_200, li_202, li_240, li_255, li_256, li_32767, li_32768, li_65536, k_Mo_goes_116, k_Mo_goes_130, k_Mo_goes_135, k_Mo_goes_187, k_Mo_goes_203, w', n2, dt]⟩
    · have w' := eq_false w
      exact ⟨1, by omega, fun x => by simp (disch := omega) only [nA, nS, nM, nLT, nLF, nTT, nTF, nEF, nET, nBT, nBF, nC, nNG, nNL, jj_b1, jj_b2, js, jn, eq_self, if_true, if_false, ite_true, ite_false, ↓reduceIte, and_self, true_and, and_true, zb0, zb1, bM, bR, bCk, bMa, Bool.false_eq_true, Bool.and_self, Bool.and_true, Bool.true_and, li_0, li_1, li_2, li_3, li_4, li_5, li_6, li_7, li_8, li_16, li_18, li_21, li_25, li_46, li_54, li_58, li_60, li_79, li_87, li_89, li_95, li_96, li_100, li_104, li_108, li_116, li_127, li_128, li_132, li_153, li_158, li_159, li_164, li_167, li_172, li_176, li_177, li_184, li_188, li_190, li_198, li_199, li_200, li_202, li_240, li_255, li_256, li_32767, li_32768, li_65536, f_Ma_holds, w'], fun y => by simp (disch := omega) only [nA, nS, nM, nLT, nLF, nTT, nTF, nEF, nET, nBT, nBF, nC, nNG, nNL, jj_b1, jj_b2, js, jn, eq_self, if_true, if_false, ite_true, ite_false, ↓reduceIte, and_self, true_and, and_true, zb0, zb1, bM, bR, bCk, bMa, Bool.false_eq_true, Bool.and_self, Bool.and_true, Bool.true_and, li_0, li_1, li_2, li_3, li_4, li_5, li_6, li_7, li_8, li_16, li_18, li_21, li_25, li_46, li_54, li_58, li_60, li_79, li_87, li_89, li_95, li_96, li_100, li_104, li_108, li_116, li_127, li_128, li_132, li_153, li_158, li_159, li_164, li_167, li_172, li_176, li_177, li_184, li_188, li_190, li_198, li_199, li_200, li_202, li_240, li_255, li_256, li_32767, li_32768, li_65536, k_Mo_goes_116, k_Mo_goes_130, k_Mo_goes_135, k_Mo_goes_187, k_Mo_goes_203, w', n2, dt]⟩
  · have dt : (nI 5 - nI 5 / nI 2 * nI 2 = nI 0) = False := eq_false (by decide)
    by_cases w : a ≤ b
    · have w' := eq_true w
      have u' : (b < a) = False := eq_false (Int32.not_lt.mpr w)
      exact ⟨1, by omega, fun x => by simp (disch := omega) only [nA, nS, nM, nLT, nLF, nTT, nTF, nEF, nET, nBT, nBF, nC, nNG, nNL, jj_b1, jj_b2, js, jn, eq_self, if_true, if_false, ite_true, ite_false, ↓reduceIte, and_self, true_and, and_true, zb0, zb1, bM, bR, bCk, bMa, Bool.false_eq_true, Bool.and_self, Bool.and_true, Bool.true_and, li_0, li_1, li_2, li_3, li_4, li_5, li_6, li_7, li_8, li_16, li_18, li_21, li_25, li_46, li_54, li_58, li_60, li_79, li_87, li_89, li_95, li_96, li_100, li_104, li_108, li_116, li_127, li_128, li_132, li_153, li_158, li_159, li_164, li_167, li_172, li_176, li_177, li_184, li_188, li_190, li_198, li_199, li_200, li_202, li_240, li_255, li_256, li_32767, li_32768, li_65536, f_Ma_holds, u'], fun y => by simp (disch := omega) only [nA, nS, nM, nLT, nLF, nTT, nTF, nEF, nET, nBT, nBF, nC, nNG, nNL, jj_b1, jj_b2, js, jn, eq_self, if_true, if_false, ite_true, ite_false, ↓reduceIte, and_self, true_and, and_true, zb0, zb1, bM, bR, bCk, bMa, Bool.false_eq_true, Bool.and_self, Bool.and_true, Bool.true_and, li_0, li_1, li_2, li_3, li_4, li_5, li_6, li_7, li_8, li_16, li_18, li_21, li_25, li_46, li_54, li_58, li_60, li_79, li_87, li_89, li_95, li_96, li_100, li_104, li_108, li_116, li_127, li_128, li_132, li_153, li_158, li_159, li_164, li_167, li_172, li_176, li_177, li_184, li_188, li_190, li_198, li_199, li_200, li_202, li_240, li_255, li_256, li_32767, li_32768, li_65536, k_Mo_goes_116, k_Mo_goes_130, k_Mo_goes_135, k_Mo_goes_187, k_Mo_goes_203, w', n2, dt]⟩
    · have w' := eq_false w
      have u' : (b < a) = True := eq_true (Int32.not_le.mp w)
      exact ⟨0, by omega, fun x => by simp (disch := omega) only [nA, nS, nM, nLT, nLF, nTT, nTF, nEF, nET, nBT, nBF, nC, nNG, nNL, jj_b1, jj_b2, js, jn, eq_self, if_true, if_false, ite_true, ite_false, ↓reduceIte, and_self, true_and, and_true, zb0, zb1, bM, bR, bCk, bMa, Bool.false_eq_true, Bool.and_self, Bool.and_true, Bool.true_and, li_0, li_1, li_2, li_3, li_4, li_5, li_6, li_7, li_8, li_16, li_18, li_21, li_25, li_46, li_54, li_58, li_60, li_79, li_87, li_89, li_95, li_96, li_100, li_104, li_108, li_116, li_127, li_128, li_132, li_153, li_158, li_159, li_164, li_167, li_172, li_176, li_177, li_184, li_188, li_190, li_198, li_199, li_200, li_202, li_240, li_255, li_256, li_32767, li_32768, li_65536, f_Ma_holds, u'], fun y => by simp (disch := omega) only [nA, nS, nM, nLT, nLF, nTT, nTF, nEF, nET, nBT, nBF, nC, nNG, nNL, jj_b1, jj_b2, js, jn, eq_self, if_true, if_false, ite_true, ite_false, ↓reduceIte, and_self, true_and, and_true, zb0, zb1, bM, bR, bCk, bMa, Bool.false_eq_true, Bool.and_self, Bool.and_true, Bool.true_and, li_0, li_1, li_2, li_3, li_4, li_5, li_6, li_7, li_8, li_16, li_18, li_21, li_25, li_46, li_54, li_58, li_60, li_79, li_87, li_89, li_95, li_96, li_100, li_104, li_108, li_116, li_127, li_128, li_132, li_153, li_158, li_159, li_164, li_167, li_172, li_176, li_177, li_184, li_188, li_190, li_198, li_199, li_200, li_202, li_240, li_255, li_256, li_32767, li_32768, li_65536, k_Mo_goes_116, k_Mo_goes_130, k_Mo_goes_135, k_Mo_goes_187, k_Mo_goes_203, w', n2, dt]⟩
theorem zb_le {g : Nat} (h : g ≤ 1) : jj_zb (nI g) = true := by
  have : g = 0 ∨ g = 1 := by omega
  rcases this with rfl | rfl <;> rfl
theorem z_jc : ∀ b, b < 256 → z_jmp b = true → (153 ≤ b ∧ b ≤ 158 ∧ z_tk b = [1]) ∨ (159 ≤ b ∧ b ≤ 164 ∧ z_tk b = [1, 1]) ∨ (b = 167 ∧ z_tk b = []) ∨ ((b = 198 ∨ b = 199) ∧ z_tk b = [2]) := by decide +kernel
theorem two_goes (hc : c < 4) (hR : FR mk c x y pk pv pw sk sv sw h) (hA : AL K p dp rt pk sk h) (hb : K p < 256) (hj : z_jmp (K p) = true) : ∃ g x', f_Ma_goesToTarget 32 (34 + 5 * c) (nI (K p)) x = some (nI g, x') ∧ f_Mo_goes 58 (nI (K p)) (nI (6 * c + h) - nI 1) y = some (nI g, y) ∧ g ≤ 1 ∧ Same (WS (34 + 5 * c)) x x' ∧ KV (34 + 5 * c) x' pk pv sk sv (h - (tkI K p).length) := by
  have r1 := hR.1
  have r2 := hR.2.1
  have h6 := hR.2.2.1.1
  have r5 := hR.2.2.2.2
  have n184 : K p ≠ 184 := fun e => by rw [e] at hj; exact absurd hj (by decide)
  have et : tkI K p = z_tk (K p) := by unfold tkI; rw [if_neg n184]
  rcases z_jc _ hb hj with ⟨j1, j2, j3⟩ | ⟨j1, j2, j3⟩ | ⟨j1, j3⟩ | ⟨j1, j3⟩
  · rw [j3] at et
    obtain ⟨t0, k1⟩ := AL1 hA et
    rw [et]
    obtain ⟨x1, b1, b2, b3, _⟩ := sp_take r1 t0 h6
    have v1 := (r5 (h - 1) (by omega)).1 (by rcases k1 with w | w | w <;> omega)
    have y1 := (r2.2.2 (h - 1) (by omega)).2
    rw [← v1, show 6 * c + (h - 1) = 6 * c + h - 1 by omega] at y1
    obtain ⟨g, g1, g2, g3⟩ := two_holds (t := K p - 153) (by omega) (sv (h - 1)) (nI 0)
    have g4 := zb_le g1
    refine ⟨g, x1, ?_, ?_, g1, b2, b3⟩
    · unfold f_Ma_goesToTarget
      simp (disch := omega) only [nA, nS, nM, nLT, nLF, nTT, nTF, nEF, nET, nBT, nBF, nC, nNG, nNL, jj_b1, jj_b2, js, jn, eq_self, if_true, if_false, ite_true, ite_false, ↓reduceIte, and_self, true_and, and_true, zb0, zb1, bM, bR, bCk, bMa, Bool.false_eq_true, Bool.and_self, Bool.and_true, Bool.true_and, li_0, li_1, li_2, li_3, li_4, li_5, li_6, li_7, li_8, li_16, li_18, li_21, li_25, li_46, li_54, li_58, li_60, li_79, li_87, li_89, li_95, li_96, li_100, li_104, li_108, li_116, li_127, li_128, li_132, li_153, li_158, li_159, li_164, li_167, li_172, li_176, li_177, li_184, li_188, li_190, li_198, li_199, li_200, li_202, li_240, li_255, li_256, li_32767, li_32768, li_65536, b1, g2, g4]
    · unfold f_Mo_goes
      simp (disch := omega) only [nA, nS, nM, nLT, nLF, nTT, nTF, nEF, nET, nBT, nBF, nC, nNG, nNL, jj_b1, jj_b2, js, jn, eq_self, if_true, if_false, ite_true, ite_false, ↓reduceIte, and_self, true_and, and_true, zb0, zb1, bM, bR, bCk, bMa, Bool.false_eq_true, Bool.and_self, Bool.and_true, Bool.true_and, li_0, li_1, li_2, li_3, li_4, li_5, li_6, li_7, li_8, li_16, li_18, li_21, li_25, li_46, li_54, li_58, li_60, li_79, li_87, li_89, li_95, li_96, li_100, li_104, li_108, li_116, li_127, li_128, li_132, li_153, li_158, li_159, li_164, li_167, li_172, li_176, li_177, li_184, li_188, li_190, li_198, li_199, li_200, li_202, li_240, li_255, li_256, li_32767, li_32768, li_65536, k_Mo_goes_76, k_Mo_goes_94, y1, g3]
  · rw [j3] at et
    obtain ⟨t0, k1, k2⟩ := AL2 hA et
    rw [et]
    obtain ⟨x1, b1, b2, b3, _⟩ := sp_take r1 (by omega) h6
    obtain ⟨x2, f1, f2, f3, _⟩ := sp_take b3 (by omega) (by omega)
    rw [show h - 1 - 1 = h - 2 by omega] at f1 f3
    have v1 := (r5 (h - 1) (by omega)).1 (by rcases k2 with w | w | w <;> omega)
    have v2 := (r5 (h - 2) (by omega)).1 (by rcases k1 with w | w | w <;> omega)
    have y1 := (r2.2.2 (h - 1) (by omega)).2
    have y2 := (r2.2.2 (h - 2) (by omega)).2
    rw [← v1, show 6 * c + (h - 1) = 6 * c + h - 1 by omega] at y1
    rw [← v2, show 6 * c + (h - 2) = 6 * c + h - 1 - 1 by omega] at y2
    obtain ⟨g, g1, g2, g3⟩ := two_holds (t := K p - 159) (by omega) (sv (h - 2)) (sv (h - 1))
    have g4 := zb_le g1
    refine ⟨g, x2, ?_, ?_, g1, b2.trans f2, f3⟩
    · unfold f_Ma_goesToTarget
      simp (disch := omega) only [nA, nS, nM, nLT, nLF, nTT, nTF, nEF, nET, nBT, nBF, nC, nNG, nNL, jj_b1, jj_b2, js, jn, eq_self, if_true, if_false, ite_true, ite_false, ↓reduceIte, and_self, true_and, and_true, zb0, zb1, bM, bR, bCk, bMa, Bool.false_eq_true, Bool.and_self, Bool.and_true, Bool.true_and, li_0, li_1, li_2, li_3, li_4, li_5, li_6, li_7, li_8, li_16, li_18, li_21, li_25, li_46, li_54, li_58, li_60, li_79, li_87, li_89, li_95, li_96, li_100, li_104, li_108, li_116, li_127, li_128, li_132, li_153, li_158, li_159, li_164, li_167, li_172, li_176, li_177, li_184, li_188, li_190, li_198, li_199, li_200, li_202, li_240, li_255, li_256, li_32767, li_32768, li_65536, b1, f1, g2, g4]
    · unfold f_Mo_goes
      simp (disch := omega) only [nA, nS, nM, nLT, nLF, nTT, nTF, nEF, nET, nBT, nBF, nC, nNG, nNL, jj_b1, jj_b2, js, jn, eq_self, if_true, if_false, ite_true, ite_false, ↓reduceIte, and_self, true_and, and_true, zb0, zb1, bM, bR, bCk, bMa, Bool.false_eq_true, Bool.and_self, Bool.and_true, Bool.true_and, li_0, li_1, li_2, li_3, li_4, li_5, li_6, li_7, li_8, li_16, li_18, li_21, li_25, li_46, li_54, li_58, li_60, li_79, li_87, li_89, li_95, li_96, li_100, li_104, li_108, li_116, li_127, li_128, li_132, li_153, li_158, li_159, li_164, li_167, li_172, li_176, li_177, li_184, li_188, li_190, li_198, li_199, li_200, li_202, li_240, li_255, li_256, li_32767, li_32768, li_65536, k_Mo_goes_76, k_Mo_goes_94, y1, y2, g3]
  · rw [j3] at et
    rw [et, j1]
    refine ⟨1, x, ?_, ?_, by omega, Same.refl x, r1⟩
    · unfold f_Ma_goesToTarget
      simp (disch := omega) only [nA, nS, nM, nLT, nLF, nTT, nTF, nEF, nET, nBT, nBF, nC, nNG, nNL, jj_b1, jj_b2, js, jn, eq_self, if_true, if_false, ite_true, ite_false, ↓reduceIte, and_self, true_and, and_true, zb0, zb1, bM, bR, bCk, bMa, Bool.false_eq_true, Bool.and_self, Bool.and_true, Bool.true_and, li_0, li_1, li_2, li_3, li_4, li_5, li_6, li_7, li_8, li_16, li_18, li_21, li_25, li_46, li_54, li_58, li_60, li_79, li_87, li_89, li_95, li_96, li_100, li_104, li_108, li_116, li_127, li_128, li_132, li_153, li_158, li_159, li_164, li_167, li_172, li_176, li_177, li_184, li_188, li_190, li_198, li_199, li_200, li_202, li_240, li_255, li_256, li_32767, li_32768, li_65536]
    · unfold f_Mo_goes
      simp (disch := omega) only [nA, nS, nM, nLT, nLF, nTT, nTF, nEF, nET, nBT, nBF, nC, nNG, nNL, jj_b1, jj_b2, js, jn, eq_self, if_true, if_false, ite_true, ite_false, ↓reduceIte, and_self, true_and, and_true, zb0, zb1, bM, bR, bCk, bMa, Bool.false_eq_true, Bool.and_self, Bool.and_true, Bool.true_and, li_0, li_1, li_2, li_3, li_4, li_5, li_6, li_7, li_8, li_16, li_18, li_21, li_25, li_46, li_54, li_58, li_60, li_79, li_87, li_89, li_95, li_96, li_100, li_104, li_108, li_116, li_127, li_128, li_132, li_153, li_158, li_159, li_164, li_167, li_172, li_176, li_177, li_184, li_188, li_190, li_198, li_199, li_200, li_202, li_240, li_255, li_256, li_32767, li_32768, li_65536]
  · rw [j3] at et
    obtain ⟨t0, k1⟩ := AL1 hA et
    rw [et]
    obtain ⟨x1, b1, b2, b3, b4⟩ := sp_take r1 t0 h6
    have y1 := (r2.2.2 (h - 1) (by omega)).1
    rw [show 6 * c + (h - 1) = 6 * c + h - 1 by omega] at y1
    have k3 : sk (h - 1) = 2 ∨ sk (h - 1) = 3 := by rcases k1 with w | w | w <;> omega
    rcases j1 with j1 | j1 <;> rcases k3 with k3 | k3 <;> rw [k3] at b4 y1 <;> rw [j1]
    · refine ⟨0, x1, ?_, ?_, by omega, b2, b3⟩
      · unfold f_Ma_goesToTarget
        simp (disch := omega) only [nA, nS, nM, nLT, nLF, nTT, nTF, nEF, nET, nBT, nBF, nC, nNG, nNL, jj_b1, jj_b2, js, jn, eq_self, if_true, if_false, ite_true, ite_false, ↓reduceIte, and_self, true_and, and_true, zb0, zb1, bM, bR, bCk, bMa, Bool.false_eq_true, Bool.and_self, Bool.and_true, Bool.true_and, li_0, li_1, li_2, li_3, li_4, li_5, li_6, li_7, li_8, li_16, li_18, li_21, li_25, li_46, li_54, li_58, li_60, li_79, li_87, li_89, li_95, li_96, li_100, li_104, li_108, li_116, li_127, li_128, li_132, li_153, li_158, li_159, li_164, li_167, li_172, li_176, li_177, li_184, li_188, li_190, li_198, li_199, li_200, li_202, li_240, li_255, li_256, li_32767, li_32768, li_65536, b1, k_Ma_goesToTarget_28, k_Ma_goesToTarget_41, k_Ma_goesToTarget_53, b4]
      · unfold f_Mo_goes
        simp (disch := omega) only [nA, nS, nM, nLT, nLF, nTT, nTF, nEF, nET, nBT, nBF, nC, nNG, nNL, jj_b1, jj_b2, js, jn, eq_self, if_true, if_false, ite_true, ite_false, ↓reduceIte, and_self, true_and, and_true, zb0, zb1, bM, bR, bCk, bMa, Bool.false_eq_true, Bool.and_self, Bool.and_true, Bool.true_and, li_0, li_1, li_2, li_3, li_4, li_5, li_6, li_7, li_8, li_16, li_18, li_21, li_25, li_46, li_54, li_58, li_60, li_79, li_87, li_89, li_95, li_96, li_100, li_104, li_108, li_116, li_127, li_128, li_132, li_153, li_158, li_159, li_164, li_167, li_172, li_176, li_177, li_184, li_188, li_190, li_198, li_199, li_200, li_202, li_240, li_255, li_256, li_32767, li_32768, li_65536, k_Mo_goes_31, k_Mo_goes_43, y1]
    · refine ⟨1, x1, ?_, ?_, by omega, b2, b3⟩
      · unfold f_Ma_goesToTarget
        simp (disch := omega) only [nA, nS, nM, nLT, nLF, nTT, nTF, nEF, nET, nBT, nBF, nC, nNG, nNL, jj_b1, jj_b2, js, jn, eq_self, if_true, if_false, ite_true, ite_false, ↓reduceIte, and_self, true_and, and_true, zb0, zb1, bM, bR, bCk, bMa, Bool.false_eq_true, Bool.and_self, Bool.and_true, Bool.true_and, li_0, li_1, li_2, li_3, li_4, li_5, li_6, li_7, li_8, li_16, li_18, li_21, li_25, li_46, li_54, li_58, li_60, li_79, li_87, li_89, li_95, li_96, li_100, li_104, li_108, li_116, li_127, li_128, li_132, li_153, li_158, li_159, li_164, li_167, li_172, li_176, li_177, li_184, li_188, li_190, li_198, li_199, li_200, li_202, li_240, li_255, li_256, li_32767, li_32768, li_65536, b1, k_Ma_goesToTarget_28, k_Ma_goesToTarget_41, k_Ma_goesToTarget_53, b4]
      · unfold f_Mo_goes
        simp (disch := omega) only [nA, nS, nM, nLT, nLF, nTT, nTF, nEF, nET, nBT, nBF, nC, nNG, nNL, jj_b1, jj_b2, js, jn, eq_self, if_true, if_false, ite_true, ite_false, ↓reduceIte, and_self, true_and, and_true, zb0, zb1, bM, bR, bCk, bMa, Bool.false_eq_true, Bool.and_self, Bool.and_true, Bool.true_and, li_0, li_1, li_2, li_3, li_4, li_5, li_6, li_7, li_8, li_16, li_18, li_21, li_25, li_46, li_54, li_58, li_60, li_79, li_87, li_89, li_95, li_96, li_100, li_104, li_108, li_116, li_127, li_128, li_132, li_153, li_158, li_159, li_164, li_167, li_172, li_176, li_177, li_184, li_188, li_190, li_198, li_199, li_200, li_202, li_240, li_255, li_256, li_32767, li_32768, li_65536, k_Mo_goes_31, k_Mo_goes_43, y1]
    · refine ⟨1, x1, ?_, ?_, by omega, b2, b3⟩
      · unfold f_Ma_goesToTarget
        simp (disch := omega) only [nA, nS, nM, nLT, nLF, nTT, nTF, nEF, nET, nBT, nBF, nC, nNG, nNL, jj_b1, jj_b2, js, jn, eq_self, if_true, if_false, ite_true, ite_false, ↓reduceIte, and_self, true_and, and_true, zb0, zb1, bM, bR, bCk, bMa, Bool.false_eq_true, Bool.and_self, Bool.and_true, Bool.true_and, li_0, li_1, li_2, li_3, li_4, li_5, li_6, li_7, li_8, li_16, li_18, li_21, li_25, li_46, li_54, li_58, li_60, li_79, li_87, li_89, li_95, li_96, li_100, li_104, li_108, li_116, li_127, li_128, li_132, li_153, li_158, li_159, li_164, li_167, li_172, li_176, li_177, li_184, li_188, li_190, li_198, li_199, li_200, li_202, li_240, li_255, li_256, li_32767, li_32768, li_65536, b1, k_Ma_goesToTarget_28, k_Ma_goesToTarget_41, k_Ma_goesToTarget_53, b4]
      · unfold f_Mo_goes
        simp (disch := omega) only [nA, nS, nM, nLT, nLF, nTT, nTF, nEF, nET, nBT, nBF, nC, nNG, nNL, jj_b1, jj_b2, js, jn, eq_self, if_true, if_false, ite_true, ite_false, ↓reduceIte, and_self, true_and, and_true, zb0, zb1, bM, bR, bCk, bMa, Bool.false_eq_true, Bool.and_self, Bool.and_true, Bool.true_and, li_0, li_1, li_2, li_3, li_4, li_5, li_6, li_7, li_8, li_16, li_18, li_21, li_25, li_46, li_54, li_58, li_60, li_79, li_87, li_89, li_95, li_96, li_100, li_104, li_108, li_116, li_127, li_128, li_132, li_153, li_158, li_159, li_164, li_167, li_172, li_176, li_177, li_184, li_188, li_190, li_198, li_199, li_200, li_202, li_240, li_255, li_256, li_32767, li_32768, li_65536, k_Mo_goes_31, k_Mo_goes_43, y1]
    · refine ⟨0, x1, ?_, ?_, by omega, b2, b3⟩
      · unfold f_Ma_goesToTarget
        simp (disch := omega) only [nA, nS, nM, nLT, nLF, nTT, nTF, nEF, nET, nBT, nBF, nC, nNG, nNL, jj_b1, jj_b2, js, jn, eq_self, if_true, if_false, ite_true, ite_false, ↓reduceIte, and_self, true_and, and_true, zb0, zb1, bM, bR, bCk, bMa, Bool.false_eq_true, Bool.and_self, Bool.and_true, Bool.true_and, li_0, li_1, li_2, li_3, li_4, li_5, li_6, li_7, li_8, li_16, li_18, li_21, li_25, li_46, li_54, li_58, li_60, li_79, li_87, li_89, li_95, li_96, li_100, li_104, li_108, li_116, li_127, li_128, li_132, li_153, li_158, li_159, li_164, li_167, li_172, li_176, li_177, li_184, li_188, li_190, li_198, li_199, li_200, li_202, li_240, li_255, li_256, li_32767, li_32768, li_65536, b1, k_Ma_goesToTarget_28, k_Ma_goesToTarget_41, k_Ma_goesToTarget_53, b4]
      · unfold f_Mo_goes
        simp (disch := omega) only [nA, nS, nM, nLT, nLF, nTT, nTF, nEF, nET, nBT, nBF, nC, nNG, nNL, jj_b1, jj_b2, js, jn, eq_self, if_true, if_false, ite_true, ite_false, ↓reduceIte, and_self, true_and, and_true, zb0, zb1, bM, bR, bCk, bMa, Bool.false_eq_true, Bool.and_self, Bool.and_true, Bool.true_and, li_0, li_1, li_2, li_3, li_4, li_5, li_6, li_7, li_8, li_16, li_18, li_21, li_25, li_46, li_54, li_58, li_60, li_79, li_87, li_89, li_95, li_96, li_100, li_104, li_108, li_116, li_127, li_128, li_132, li_153, li_158, li_159, li_164, li_167, li_172, li_176, li_177, li_184, li_188, li_190, li_198, li_199, li_200, li_202, li_240, li_255, li_256, li_32767, li_32768, li_65536, k_Mo_goes_31, k_Mo_goes_43, y1]
end OPERAND
