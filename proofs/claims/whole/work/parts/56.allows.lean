/-! PURE: whether an instruction finds what it needs, on both sides -/
abbrev zgood (t d : Nat) : Prop := d = 0 ∨ t = d ∨ (t = 3 ∧ d = 2)
theorem z_pc {A B : Prop} (h : A ↔ B) : z_p A = z_p B := by
  by_cases c : A
  · rw [z_p1 c, z_p1 (h.mp c)]
  · rw [z_p0 c, z_p0 (fun z => c (h.mpr z))]
theorem vc_good {t d : Nat} {x : jj_Mem} (ht : t < 1000) (hd : d < 1000) : f_VC_isGoodFor (nI t) (nI d) x = some (nI (z_p (zgood t d)), x) := by
  unfold f_VC_isGoodFor k_VC_isGoodFor_19
  by_cases c1 : d = 0
  · rw [z_p1 (Or.inl c1)]; simp (disch := omega) only [nA, nS, nM, nLT, nLF, nTT, nTF, nEF, nET, nBT, nBF, nC, nNG, nNL, jj_b1, jj_b2, js, jn, eq_self, if_true, if_false, ite_true, ite_false, ↓reduceIte, and_self, true_and, and_true, zb0, zb1, bM, bR, bCk, bMa, Bool.false_eq_true, Bool.and_self, Bool.and_true, Bool.true_and, li_0, li_1, li_2, li_3, li_4, li_5, li_6, li_7, li_8, li_16, li_18, li_21, li_25, li_46, li_54, li_58, li_60, li_79, li_87, li_89, li_95, li_96, li_100, li_104, li_108, li_116, li_127, li_128, li_132, li_153, li_158, li_159, li_164, li_167, li_172, li_176, li_177, li_184, li_188, li_190, li_198, li_199, li_200, li_202, li_240, li_255, li_256, li_32767, li_32768, li_65536]
  · by_cases c2 : t = d
    · rw [z_p1 (Or.inr (Or.inl c2))]; simp (disch := omega) only [nA, nS, nM, nLT, nLF, nTT, nTF, nEF, nET, nBT, nBF, nC, nNG, nNL, jj_b1, jj_b2, js, jn, eq_self, if_true, if_false, ite_true, ite_false, ↓reduceIte, and_self, true_and, and_true, zb0, zb1, bM, bR, bCk, bMa, Bool.false_eq_true, Bool.and_self, Bool.and_true, Bool.true_and, li_0, li_1, li_2, li_3, li_4, li_5, li_6, li_7, li_8, li_16, li_18, li_21, li_25, li_46, li_54, li_58, li_60, li_79, li_87, li_89, li_95, li_96, li_100, li_104, li_108, li_116, li_127, li_128, li_132, li_153, li_158, li_159, li_164, li_167, li_172, li_176, li_177, li_184, li_188, li_190, li_198, li_199, li_200, li_202, li_240, li_255, li_256, li_32767, li_32768, li_65536]
    · by_cases c3 : t = 3
      · by_cases c4 : d = 2
        · rw [z_p1 (Or.inr (Or.inr ⟨c3, c4⟩))]; simp (disch := omega) only [nA, nS, nM, nLT, nLF, nTT, nTF, nEF, nET, nBT, nBF, nC, nNG, nNL, jj_b1, jj_b2, js, jn, eq_self, if_true, if_false, ite_true, ite_false, ↓reduceIte, and_self, true_and, and_true, zb0, zb1, bM, bR, bCk, bMa, Bool.false_eq_true, Bool.and_self, Bool.and_true, Bool.true_and, li_0, li_1, li_2, li_3, li_4, li_5, li_6, li_7, li_8, li_16, li_18, li_21, li_25, li_46, li_54, li_58, li_60, li_79, li_87, li_89, li_95, li_96, li_100, li_104, li_108, li_116, li_127, li_128, li_132, li_153, li_158, li_159, li_164, li_167, li_172, li_176, li_177, li_184, li_188, li_190, li_198, li_199, li_200, li_202, li_240, li_255, li_256, li_32767, li_32768, li_65536]
        · rw [z_p0 (by omega)]; simp (disch := omega) only [nA, nS, nM, nLT, nLF, nTT, nTF, nEF, nET, nBT, nBF, nC, nNG, nNL, jj_b1, jj_b2, js, jn, eq_self, if_true, if_false, ite_true, ite_false, ↓reduceIte, and_self, true_and, and_true, zb0, zb1, bM, bR, bCk, bMa, Bool.false_eq_true, Bool.and_self, Bool.and_true, Bool.true_and, li_0, li_1, li_2, li_3, li_4, li_5, li_6, li_7, li_8, li_16, li_18, li_21, li_25, li_46, li_54, li_58, li_60, li_79, li_87, li_89, li_95, li_96, li_100, li_104, li_108, li_116, li_127, li_128, li_132, li_153, li_158, li_159, li_164, li_167, li_172, li_176, li_177, li_184, li_188, li_190, li_198, li_199, li_200, li_202, li_240, li_255, li_256, li_32767, li_32768, li_65536]
      · rw [z_p0 (by omega)]; simp (disch := omega) only [nA, nS, nM, nLT, nLF, nTT, nTF, nEF, nET, nBT, nBF, nC, nNG, nNL, jj_b1, jj_b2, js, jn, eq_self, if_true, if_false, ite_true, ite_false, ↓reduceIte, and_self, true_and, and_true, zb0, zb1, bM, bR, bCk, bMa, Bool.false_eq_true, Bool.and_self, Bool.and_true, Bool.true_and, li_0, li_1, li_2, li_3, li_4, li_5, li_6, li_7, li_8, li_16, li_18, li_21, li_25, li_46, li_54, li_58, li_60, li_79, li_87, li_89, li_95, li_96, li_100, li_104, li_108, li_116, li_127, li_128, li_132, li_153, li_158, li_159, li_164, li_167, li_172, li_176, li_177, li_184, li_188, li_190, li_198, li_199, li_200, li_202, li_240, li_255, li_256, li_32767, li_32768, li_65536]
theorem mo_good {t d : Nat} {x : jj_Mem} (ht : t < 1000) (hd : d < 1000) : f_Mo_good (nI t) (nI d) x = some (nI (z_p (t = d ∨ (t = 3 ∧ d = 2))), x) := by
  unfold f_Mo_good k_Mo_good_15
  by_cases c2 : t = d
  · rw [z_p1 (Or.inl c2)]; simp (disch := omega) only [nA, nS, nM, nLT, nLF, nTT, nTF, nEF, nET, nBT, nBF, nC, nNG, nNL, jj_b1, jj_b2, js, jn, eq_self, if_true, if_false, ite_true, ite_false, ↓reduceIte, and_self, true_and, and_true, zb0, zb1, bM, bR, bCk, bMa, Bool.false_eq_true, Bool.and_self, Bool.and_true, Bool.true_and, li_0, li_1, li_2, li_3, li_4, li_5, li_6, li_7, li_8, li_16, li_18, li_21, li_25, li_46, li_54, li_58, li_60, li_79, li_87, li_89, li_95, li_96, li_100, li_104, li_108, li_116, li_127, li_128, li_132, li_153, li_158, li_159, li_164, li_167, li_172, li_176, li_177, li_184, li_188, li_190, li_198, li_199, li_200, li_202, li_240, li_255, li_256, li_32767, li_32768, li_65536]
  · by_cases c4 : d = 2
    · by_cases c3 : t = 3
      · rw [z_p1 (Or.inr ⟨c3, c4⟩)]; simp (disch := omega) only [nA, nS, nM, nLT, nLF, nTT, nTF, nEF, nET, nBT, nBF, nC, nNG, nNL, jj_b1, jj_b2, js, jn, eq_self, if_true, if_false, ite_true, ite_false, ↓reduceIte, and_self, true_and, and_true, zb0, zb1, bM, bR, bCk, bMa, Bool.false_eq_true, Bool.and_self, Bool.and_true, Bool.true_and, li_0, li_1, li_2, li_3, li_4, li_5, li_6, li_7, li_8, li_16, li_18, li_21, li_25, li_46, li_54, li_58, li_60, li_79, li_87, li_89, li_95, li_96, li_100, li_104, li_108, li_116, li_127, li_128, li_132, li_153, li_158, li_159, li_164, li_167, li_172, li_176, li_177, li_184, li_188, li_190, li_198, li_199, li_200, li_202, li_240, li_255, li_256, li_32767, li_32768, li_65536]
      · rw [z_p0 (by omega)]; simp (disch := omega) only [nA, nS, nM, nLT, nLF, nTT, nTF, nEF, nET, nBT, nBF, nC, nNG, nNL, jj_b1, jj_b2, js, jn, eq_self, if_true, if_false, ite_true, ite_false, ↓reduceIte, and_self, true_and, and_true, zb0, zb1, bM, bR, bCk, bMa, Bool.false_eq_true, Bool.and_self, Bool.and_true, Bool.true_and, li_0, li_1, li_2, li_3, li_4, li_5, li_6, li_7, li_8, li_16, li_18, li_21, li_25, li_46, li_54, li_58, li_60, li_79, li_87, li_89, li_95, li_96, li_100, li_104, li_108, li_116, li_127, li_128, li_132, li_153, li_158, li_159, li_164, li_167, li_172, li_176, li_177, li_184, li_188, li_190, li_198, li_199, li_200, li_202, li_240, li_255, li_256, li_32767, li_32768, li_65536]
    · rw [z_p0 (by omega)]; simp (disch := omega) only [nA, nS, nM, nLT, nLF, nTT, nTF, nEF, nET, nBT, nBF, nC, nNG, nNL, jj_b1, jj_b2, js, jn, eq_self, if_true, if_false, ite_true, ite_false, ↓reduceIte, and_self, true_and, and_true, zb0, zb1, bM, bR, bCk, bMa, Bool.false_eq_true, Bool.and_self, Bool.and_true, Bool.true_and, li_0, li_1, li_2, li_3, li_4, li_5, li_6, li_7, li_8, li_16, li_18, li_21, li_25, li_46, li_54, li_58, li_60, li_79, li_87, li_89, li_95, li_96, li_100, li_104, li_108, li_116, li_127, li_128, li_132, li_153, li_158, li_159, li_164, li_167, li_172, li_176, li_177, li_184, li_188, li_190, li_198, li_199, li_200, li_202, li_240, li_255, li_256, li_32767, li_32768, li_65536]
/-- kinds of a State s of the object's -/
def KA (s : Nat) (x : jj_Mem) (pk sk : Nat → Nat) (h : Nat) : Prop := x s 4 = nI h ∧ (∀ k, k < 6 → x (s + 1) k = nI (pk k)) ∧ ∀ k, k < h → x (s + 3) k = nI (sk k)
/-- kinds of the reference's running method c -/
def KB (c : Nat) (y : jj_Mem) (pk sk : Nat → Nat) (h : Nat) : Prop := y 65 c = nI h ∧ (∀ k, k < 6 → y 61 (6 * c + k) = nI (pk k)) ∧ ∀ k, k < h → y 63 (6 * c + k) = nI (sk k)
def KS (pk sk : Nat → Nat) (h : Nat) : Prop := h ≤ 6 ∧ (∀ k, pk k ≤ 3) ∧ ∀ k, sk k ≤ 3
def AL (K : Nat → Nat) (p dp rt : Nat) (pk sk : Nat → Nat) (h : Nat) : Prop := (tkI K p).length ≤ h ∧ (∀ i, i < (tkI K p).length → zgood (sk (h - (tkI K p).length + i)) ((tkI K p)[i]!)) ∧ (z_nam (K p) = true → zgood (pk (K (p + 1))) (z_tp (K p))) ∧ (z_ret (K p) = true → rt = z_tr (K p)) ∧ h - (tkI K p).length + ptI K p ≤ dp
theorem z_nl : ∀ b, b < 256 → z_nam b = true → 2 ≤ z_len b := by decide +kernel
theorem z_tp2 : ∀ b, b < 256 → z_tp b ≤ 2 := by decide +kernel
theorem z_tr2 : ∀ b, b < 256 → z_tr b ≤ 2 := by decide +kernel
section ALLOWS
variable {K : Nat → Nat} {n b N P q p pl o cd s c h dp rt : Nat} {x y : jj_Mem} {pk sk : Nat → Nat}
theorem st_hasTaken (hs : o_St s) (hP : o_Pr P) (hq : o_Me q) (hF : By K n) (hOK : FileOK K n) (hC : FileC P K n x) (h5 : x q 5 = nI cd) (hI : IA K n pl (cd + o)) (hA : KA s x pk sk h) (hS : KS pk sk h) (hT : (tkI K (cd + o)).length ≤ h) : f_St_hasTaken s P q (nI o) (nI (tkI K (cd + o)).length) x = some (nI (z_p (∀ i, i < (tkI K (cd + o)).length → zgood (sk (h - (tkI K (cd + o)).length + i)) ((tkI K (cd + o))[i]!))), x) := by
  have bs : bo_St s = true := hs
  have bP : bo_Pr P = true := hP
  have bq : bo_Me q = true := hq
  have hl := tk_len hF hOK hI
  have h6 := hS.1
  have a1 := hA.1
  have G : ∀ (r k f : Nat), k + r = (tkI K (cd + o)).length → r < f → g_St_hasTaken f 3 [some (.ref s), some (.ref P), some (.ref q), some (.int (nI o)), some (.int (nI (tkI K (cd + o)).length)), some (.int (nI k))] x = some (nI (z_p (∀ i, k ≤ i → i < (tkI K (cd + o)).length → zgood (sk (h - (tkI K (cd + o)).length + i)) ((tkI K (cd + o))[i]!))), x) := by
    intro r
    induction r with
    | zero =>
      intro k f hk hf
      obtain ⟨f, rfl⟩ : ∃ g, f = g + 1 := ⟨f - 1, by omega⟩
      rw [z_p1 (fun i h1 h2 => by omega)]
      simp (disch := omega) only [nA, nS, nM, nLT, nLF, nTT, nTF, nEF, nET, nBT, nBF, nC, nNG, nNL, jj_b1, jj_b2, js, jn, eq_self, if_true, if_false, ite_true, ite_false, ↓reduceIte, and_self, true_and, and_true, zb0, zb1, bM, bR, bCk, bMa, Bool.false_eq_true, Bool.and_self, Bool.and_true, Bool.true_and, li_0, li_1, li_2, li_3, li_4, li_5, li_6, li_7, li_8, li_16, li_18, li_21, li_25, li_46, li_54, li_58, li_60, li_79, li_87, li_89, li_95, li_96, li_100, li_104, li_108, li_116, li_127, li_128, li_132, li_153, li_158, li_159, li_164, li_167, li_172, li_176, li_177, li_184, li_188, li_190, li_198, li_199, li_200, li_202, li_240, li_255, li_256, li_32767, li_32768, li_65536, g_St_hasTaken, k_St_hasTaken_3, bs, bP, bq]
    | succ r ih =>
      intro k f hk hf
      obtain ⟨f, rfl⟩ : ∃ g, f = g + 1 := ⟨f - 1, by omega⟩
      have e1 := pr_takenType hP hF hOK hC h5 hI (k := k) (by omega)
      have e2 := hA.2.2 (h - (tkI K (cd + o)).length + k) (by omega)
      have t1 := hS.2.2 (h - (tkI K (cd + o)).length + k)
      have t2 := tk_le hF hOK hI (i := k) (by omega)
      have e3 := vc_good (x := x) (t := sk (h - (tkI K (cd + o)).length + k)) (d := (tkI K (cd + o))[k]!) (by omega) (by omega)
      have I := ih (k + 1) f (by omega) (by omega)
      rw [show g_St_hasTaken (f + 1) 3 [some (.ref s), some (.ref P), some (.ref q), some (.int (nI o)), some (.int (nI (tkI K (cd + o)).length)), some (.int (nI k))] x = if (bo_St s && bo_Pr P && bo_Me q) = true then k_St_hasTaken_3 (g_St_hasTaken f) s P q (nI o) (nI (tkI K (cd + o)).length) (nI k) x else none from rfl]
      by_cases c1 : zgood (sk (h - (tkI K (cd + o)).length + k)) ((tkI K (cd + o))[k]!)
      · rw [z_p1 c1] at e3
        rw [show z_p (∀ i, k ≤ i → i < (tkI K (cd + o)).length → zgood (sk (h - (tkI K (cd + o)).length + i)) ((tkI K (cd + o))[i]!)) = z_p (∀ i, k + 1 ≤ i → i < (tkI K (cd + o)).length → zgood (sk (h - (tkI K (cd + o)).length + i)) ((tkI K (cd + o))[i]!)) from z_pc ⟨fun g i h1 h2 => g i (by omega) h2, fun g i h1 h2 => by
          by_cases c2 : i = k
          · rw [c2]; exact c1
          · exact g i (by omega) h2⟩, ← I]
        simp (disch := omega) only [nA, nS, nM, nLT, nLF, nTT, nTF, nEF, nET, nBT, nBF, nC, nNG, nNL, jj_b1, jj_b2, js, jn, eq_self, if_true, if_false, ite_true, ite_false, ↓reduceIte, and_self, true_and, and_true, zb0, zb1, bM, bR, bCk, bMa, Bool.false_eq_true, Bool.and_self, Bool.and_true, Bool.true_and, li_0, li_1, li_2, li_3, li_4, li_5, li_6, li_7, li_8, li_16, li_18, li_21, li_25, li_46, li_54, li_58, li_60, li_79, li_87, li_89, li_95, li_96, li_100, li_104, li_108, li_116, li_127, li_128, li_132, li_153, li_158, li_159, li_164, li_167, li_172, li_176, li_177, li_184, li_188, li_190, li_198, li_199, li_200, li_202, li_240, li_255, li_256, li_32767, li_32768, li_65536, k_St_hasTaken_3, bs, bP, bq, a1, e1, e2, e3]
      · rw [z_p0 c1] at e3
        rw [z_p0 (fun g => c1 (g k (by omega) (by omega)))]
        simp (disch := omega) only [nA, nS, nM, nLT, nLF, nTT, nTF, nEF, nET, nBT, nBF, nC, nNG, nNL, jj_b1, jj_b2, js, jn, eq_self, if_true, if_false, ite_true, ite_false, ↓reduceIte, and_self, true_and, and_true, zb0, zb1, bM, bR, bCk, bMa, Bool.false_eq_true, Bool.and_self, Bool.and_true, Bool.true_and, li_0, li_1, li_2, li_3, li_4, li_5, li_6, li_7, li_8, li_16, li_18, li_21, li_25, li_46, li_54, li_58, li_60, li_79, li_87, li_89, li_95, li_96, li_100, li_104, li_108, li_116, li_127, li_128, li_132, li_153, li_158, li_159, li_164, li_167, li_172, li_176, li_177, li_184, li_188, li_190, li_198, li_199, li_200, li_202, li_240, li_255, li_256, li_32767, li_32768, li_65536, k_St_hasTaken_3, bs, bP, bq, a1, e1, e2, e3]
  have := G (tkI K (cd + o)).length 0 1000 (by omega) (by omega)
  rw [show z_p (∀ i, i < (tkI K (cd + o)).length → zgood (sk (h - (tkI K (cd + o)).length + i)) ((tkI K (cd + o))[i]!)) = z_p (∀ i, 0 ≤ i → i < (tkI K (cd + o)).length → zgood (sk (h - (tkI K (cd + o)).length + i)) ((tkI K (cd + o))[i]!)) from z_pc ⟨fun g i _ h2 => g i h2, fun g i h2 => g i (by omega) h2⟩]
  exact this
theorem st_hasPlace (hs : o_St s) (hF : By K n) (hC : FileC P K n x) (h5 : x q 5 = nI cd) (hI : IA K n pl (cd + o)) (hpl : pl ≤ 6) (hA : KA s x pk sk h) (hS : KS pk sk h) : f_St_hasPlace s P q (nI o) x = some (nI (z_p (z_nam (K (cd + o)) = true → zgood (pk (K (cd + o + 1))) (z_tp (K (cd + o))))), x) := by
  have h240 := hF.1
  have hi2 := hI.2.1
  have hb := hF.2 (cd + o) (by omega)
  have e0 := pr_codeP h240 hC h5 (o := o) (by omega)
  have e1 := zt_hasPlace _ hb hI.1
  unfold f_St_hasPlace k_St_hasPlace_38
  by_cases c1 : z_nam (K (cd + o)) = true
  · have l2 := z_nl _ hb c1
    have b1 := (hI.2.2 l2).1 c1
    have e2 := pr_operand h240 hC h5 (o := o) (by omega)
    have e3 := hA.2.1 (K (cd + o + 1)) (by omega)
    have t1 := hS.2.1 (K (cd + o + 1))
    have t2 := z_tp2 _ hb
    have e4 := vc_good (x := x) (t := pk (K (cd + o + 1))) (d := z_tp (K (cd + o))) (by omega) (by omega)
    have e5 := zt_typeOfPlace _ hb hI.1
    by_cases c2 : zgood (pk (K (cd + o + 1))) (z_tp (K (cd + o)))
    · rw [z_p1 c2] at e4
      rw [z_p1 (fun _ => c2)]
      simp (disch := omega) only [nA, nS, nM, nLT, nLF, nTT, nTF, nEF, nET, nBT, nBF, nC, nNG, nNL, jj_b1, jj_b2, js, jn, eq_self, if_true, if_false, ite_true, ite_false, ↓reduceIte, and_self, true_and, and_true, zb0, zb1, bM, bR, bCk, bMa, Bool.false_eq_true, Bool.and_self, Bool.and_true, Bool.true_and, li_0, li_1, li_2, li_3, li_4, li_5, li_6, li_7, li_8, li_16, li_18, li_21, li_25, li_46, li_54, li_58, li_60, li_79, li_87, li_89, li_95, li_96, li_100, li_104, li_108, li_116, li_127, li_128, li_132, li_153, li_158, li_159, li_164, li_167, li_172, li_176, li_177, li_184, li_188, li_190, li_198, li_199, li_200, li_202, li_240, li_255, li_256, li_32767, li_32768, li_65536, e0, e1, c1, z_b, e2, e3, e5, e4]
    · rw [z_p0 c2] at e4
      rw [z_p0 (fun g => c2 (g c1))]
      simp (disch := omega) only [nA, nS, nM, nLT, nLF, nTT, nTF, nEF, nET, nBT, nBF, nC, nNG, nNL, jj_b1, jj_b2, js, jn, eq_self, if_true, if_false, ite_true, ite_false, ↓reduceIte, and_self, true_and, and_true, zb0, zb1, bM, bR, bCk, bMa, Bool.false_eq_true, Bool.and_self, Bool.and_true, Bool.true_and, li_0, li_1, li_2, li_3, li_4, li_5, li_6, li_7, li_8, li_16, li_18, li_21, li_25, li_46, li_54, li_58, li_60, li_79, li_87, li_89, li_95, li_96, li_100, li_104, li_108, li_116, li_127, li_128, li_132, li_153, li_158, li_159, li_164, li_167, li_172, li_176, li_177, li_184, li_188, li_190, li_198, li_199, li_200, li_202, li_240, li_255, li_256, li_32767, li_32768, li_65536, e0, e1, c1, z_b, e2, e3, e5, e4]
  · rw [z_p1 (fun g => absurd g c1)]
    simp (disch := omega) only [nA, nS, nM, nLT, nLF, nTT, nTF, nEF, nET, nBT, nBF, nC, nNG, nNL, jj_b1, jj_b2, js, jn, eq_self, if_true, if_false, ite_true, ite_false, ↓reduceIte, and_self, true_and, and_true, zb0, zb1, bM, bR, bCk, bMa, Bool.false_eq_true, Bool.and_self, Bool.and_true, Bool.true_and, li_0, li_1, li_2, li_3, li_4, li_5, li_6, li_7, li_8, li_16, li_18, li_21, li_25, li_46, li_54, li_58, li_60, li_79, li_87, li_89, li_95, li_96, li_100, li_104, li_108, li_116, li_127, li_128, li_132, li_153, li_158, li_159, li_164, li_167, li_172, li_176, li_177, li_184, li_188, li_190, li_198, li_199, li_200, li_202, li_240, li_255, li_256, li_32767, li_32768, li_65536, e0, e1, c1, z_b]
theorem st_allows (hs : o_St s) (hP : o_Pr P) (hq : o_Me q) (hF : By K n) (hOK : FileOK K n) (hC : FileC P K n x) (h5 : x q 5 = nI cd) (h2 : x q 2 = nI rt) (h3 : x q 3 = nI dp) (hrt : rt ≤ 2) (hdp : dp ≤ 6) (hI : IA K n pl (cd + o)) (hpl : pl ≤ 6) (hA : KA s x pk sk h) (hS : KS pk sk h) : f_St_allows s P q (nI o) x = some (nI (z_p (AL K (cd + o) dp rt pk sk h)), x) := by
  have h240 := hF.1
  have hi2 := hI.2.1
  have hb := hF.2 (cd + o) (by omega)
  have e0 := pr_codeP h240 hC h5 (o := o) (by omega)
  have e1 := pr_takenCount hP hF hOK hC h5 hI
  have e2 := pr_putCount hP hF hOK hC h5 hI
  have hl := tk_len hF hOK hI
  have hp := pt_le hF hI
  have a1 := hA.1
  have h6 := hS.1
  have e4 := st_hasPlace hs hF hC h5 hI hpl hA hS
  have e5 := zt_isReturn _ hb hI.1
  have e6 := zt_typeOfReturn _ hb hI.1
  have e7 := z_tr2 _ hb
  unfold f_St_allows
  by_cases c1 : (tkI K (cd + o)).length ≤ h
  · have e3 := st_hasTaken hs hP hq hF hOK hC h5 hI hA hS c1
    by_cases c2 : ∀ i, i < (tkI K (cd + o)).length → zgood (sk (h - (tkI K (cd + o)).length + i)) ((tkI K (cd + o))[i]!)
    · rw [z_p1 c2] at e3
      by_cases c3 : z_nam (K (cd + o)) = true → zgood (pk (K (cd + o + 1))) (z_tp (K (cd + o)))
      · rw [z_p1 c3] at e4
        have F1 : ∀ c4 : (z_ret (K (cd + o)) = true → rt = z_tr (K (cd + o))), k_St_allows_67 s P q (nI o) (nI (tkI K (cd + o)).length) x = some (nI (z_p (AL K (cd + o) dp rt pk sk h)), x) := by
          intro c4
          by_cases c5 : h - (tkI K (cd + o)).length + ptI K (cd + o) ≤ dp
          · rw [z_p1 ⟨c1, c2, c3, c4, c5⟩]
            simp (disch := omega) only [nA, nS, nM, nLT, nLF, nTT, nTF, nEF, nET, nBT, nBF, nC, nNG, nNL, jj_b1, jj_b2, js, jn, eq_self, if_true, if_false, ite_true, ite_false, ↓reduceIte, and_self, true_and, and_true, zb0, zb1, bM, bR, bCk, bMa, Bool.false_eq_true, Bool.and_self, Bool.and_true, Bool.true_and, li_0, li_1, li_2, li_3, li_4, li_5, li_6, li_7, li_8, li_16, li_18, li_21, li_25, li_46, li_54, li_58, li_60, li_79, li_87, li_89, li_95, li_96, li_100, li_104, li_108, li_116, li_127, li_128, li_132, li_153, li_158, li_159, li_164, li_167, li_172, li_176, li_177, li_184, li_188, li_190, li_198, li_199, li_200, li_202, li_240, li_255, li_256, li_32767, li_32768, li_65536, k_St_allows_67, e2, h3, a1]
          · rw [z_p0 (fun g => c5 g.2.2.2.2)]
            simp (disch := omega) only [nA, nS, nM, nLT, nLF, nTT, nTF, nEF, nET, nBT, nBF, nC, nNG, nNL, jj_b1, jj_b2, js, jn, eq_self, if_true, if_false, ite_true, ite_false, ↓reduceIte, and_self, true_and, and_true, zb0, zb1, bM, bR, bCk, bMa, Bool.false_eq_true, Bool.and_self, Bool.and_true, Bool.true_and, li_0, li_1, li_2, li_3, li_4, li_5, li_6, li_7, li_8, li_16, li_18, li_21, li_25, li_46, li_54, li_58, li_60, li_79, li_87, li_89, li_95, li_96, li_100, li_104, li_108, li_116, li_127, li_128, li_132, li_153, li_158, li_159, li_164, li_167, li_172, li_176, li_177, li_184, li_188, li_190, li_198, li_199, li_200, li_202, li_240, li_255, li_256, li_32767, li_32768, li_65536, k_St_allows_67, e2, h3, a1]
        by_cases c4 : z_ret (K (cd + o)) = true
        · by_cases c5 : rt = z_tr (K (cd + o))
          · have F2 := F1 (fun _ => c5)
            simp (disch := omega) only [nA, nS, nM, nLT, nLF, nTT, nTF, nEF, nET, nBT, nBF, nC, nNG, nNL, jj_b1, jj_b2, js, jn, eq_self, if_true, if_false, ite_true, ite_false, ↓reduceIte, and_self, true_and, and_true, zb0, zb1, bM, bR, bCk, bMa, Bool.false_eq_true, Bool.and_self, Bool.and_true, Bool.true_and, li_0, li_1, li_2, li_3, li_4, li_5, li_6, li_7, li_8, li_16, li_18, li_21, li_25, li_46, li_54, li_58, li_60, li_79, li_87, li_89, li_95, li_96, li_100, li_104, li_108, li_116, li_127, li_128, li_132, li_153, li_158, li_159, li_164, li_167, li_172, li_176, li_177, li_184, li_188, li_190, li_198, li_199, li_200, li_202, li_240, li_255, li_256, li_32767, li_32768, li_65536, e0, e1, a1, e3, e4, e5, c4, z_b, e6, h2, F2]
          · rw [z_p0 (fun g => c5 (g.2.2.2.1 c4))]
            simp (disch := omega) only [nA, nS, nM, nLT, nLF, nTT, nTF, nEF, nET, nBT, nBF, nC, nNG, nNL, jj_b1, jj_b2, js, jn, eq_self, if_true, if_false, ite_true, ite_false, ↓reduceIte, and_self, true_and, and_true, zb0, zb1, bM, bR, bCk, bMa, Bool.false_eq_true, Bool.and_self, Bool.and_true, Bool.true_and, li_0, li_1, li_2, li_3, li_4, li_5, li_6, li_7, li_8, li_16, li_18, li_21, li_25, li_46, li_54, li_58, li_60, li_79, li_87, li_89, li_95, li_96, li_100, li_104, li_108, li_116, li_127, li_128, li_132, li_153, li_158, li_159, li_164, li_167, li_172, li_176, li_177, li_184, li_188, li_190, li_198, li_199, li_200, li_202, li_240, li_255, li_256, li_32767, li_32768, li_65536, e0, e1, a1, e3, e4, e5, c4, z_b, e6, h2]
        · have F2 := F1 (fun g => absurd g c4)
          simp (disch := omega) only [nA, nS, nM, nLT, nLF, nTT, nTF, nEF, nET, nBT, nBF, nC, nNG, nNL, jj_b1, jj_b2, js, jn, eq_self, if_true, if_false, ite_true, ite_false, ↓reduceIte, and_self, true_and, and_true, zb0, zb1, bM, bR, bCk, bMa, Bool.false_eq_true, Bool.and_self, Bool.and_true, Bool.true_and, li_0, li_1, li_2, li_3, li_4, li_5, li_6, li_7, li_8, li_16, li_18, li_21, li_25, li_46, li_54, li_58, li_60, li_79, li_87, li_89, li_95, li_96, li_100, li_104, li_108, li_116, li_127, li_128, li_132, li_153, li_158, li_159, li_164, li_167, li_172, li_176, li_177, li_184, li_188, li_190, li_198, li_199, li_200, li_202, li_240, li_255, li_256, li_32767, li_32768, li_65536, e0, e1, a1, e3, e4, e5, c4, z_b, F2]
      · rw [z_p0 c3] at e4
        rw [z_p0 (fun g => c3 g.2.2.1)]
        simp (disch := omega) only [nA, nS, nM, nLT, nLF, nTT, nTF, nEF, nET, nBT, nBF, nC, nNG, nNL, jj_b1, jj_b2, js, jn, eq_self, if_true, if_false, ite_true, ite_false, ↓reduceIte, and_self, true_and, and_true, zb0, zb1, bM, bR, bCk, bMa, Bool.false_eq_true, Bool.and_self, Bool.and_true, Bool.true_and, li_0, li_1, li_2, li_3, li_4, li_5, li_6, li_7, li_8, li_16, li_18, li_21, li_25, li_46, li_54, li_58, li_60, li_79, li_87, li_89, li_95, li_96, li_100, li_104, li_108, li_116, li_127, li_128, li_132, li_153, li_158, li_159, li_164, li_167, li_172, li_176, li_177, li_184, li_188, li_190, li_198, li_199, li_200, li_202, li_240, li_255, li_256, li_32767, li_32768, li_65536, e0, e1, a1, e3, e4]
    · rw [z_p0 c2] at e3
      rw [z_p0 (fun g => c2 g.2.1)]
      simp (disch := omega) only [nA, nS, nM, nLT, nLF, nTT, nTF, nEF, nET, nBT, nBF, nC, nNG, nNL, jj_b1, jj_b2, js, jn, eq_self, if_true, if_false, ite_true, ite_false, ↓reduceIte, and_self, true_and, and_true, zb0, zb1, bM, bR, bCk, bMa, Bool.false_eq_true, Bool.and_self, Bool.and_true, Bool.true_and, li_0, li_1, li_2, li_3, li_4, li_5, li_6, li_7, li_8, li_16, li_18, li_21, li_25, li_46, li_54, li_58, li_60, li_79, li_87, li_89, li_95, li_96, li_100, li_104, li_108, li_116, li_127, li_128, li_132, li_153, li_158, li_159, li_164, li_167, li_172, li_176, li_177, li_184, li_188, li_190, li_198, li_199, li_200, li_202, li_240, li_255, li_256, li_32767, li_32768, li_65536, e0, e1, a1, e3]
  · rw [z_p0 (fun g => c1 g.1)]
    simp (disch := omega) only [nA, nS, nM, nLT, nLF, nTT, nTF, nEF, nET, nBT, nBF, nC, nNG, nNL, jj_b1, jj_b2, js, jn, eq_self, if_true, if_false, ite_true, ite_false, ↓reduceIte, and_self, true_and, and_true, zb0, zb1, bM, bR, bCk, bMa, Bool.false_eq_true, Bool.and_self, Bool.and_true, Bool.true_and, li_0, li_1, li_2, li_3, li_4, li_5, li_6, li_7, li_8, li_16, li_18, li_21, li_25, li_46, li_54, li_58, li_60, li_79, li_87, li_89, li_95, li_96, li_100, li_104, li_108, li_116, li_127, li_128, li_132, li_153, li_158, li_159, li_164, li_167, li_172, li_176, li_177, li_184, li_188, li_190, li_198, li_199, li_200, li_202, li_240, li_255, li_256, li_32767, li_32768, li_65536, e0, e1, a1]
theorem z_rt3 : ∀ b, z_ret b = true → b = 172 ∨ b = 176 ∨ b = 177 := by
  intro b h
  simp only [z_ret, Bool.or_eq_true, beq_iff_eq] at h
  omega
theorem mo_can_end {rec : Nat → List (Option Value) → jj_Mem → Option (Int32 × jj_Mem)} {op kd : Nat} (hop : op < 256) (hl : z_len op ≠ 0) (hkd : kd ≤ 3) (hF : By K n) (hM : MtOK K n (K 1) (mcn K) b N) (hK : KP K n y) (h8 : y 58 8 = nI b) (hn : z_nam op = true ∨ kd = 0) : k_Mo_can_150 rec 58 (nI op) (nI kd) y = some (nI (z_p ((z_nam op = true → zgood kd (z_tp op)) ∧ (z_ret op = true → m_rt K b = z_tr op))), y) := by
  have e1 := mo_returnsOf hF hM hK
  have e2 := zm_returns _ hop hl
  have hrt := hM.1.2.2.1
  have R : ∀ g : (z_nam op = true → zgood kd (z_tp op)), k_Mo_can_185 rec 58 (nI op) y = some (nI (z_p ((z_nam op = true → zgood kd (z_tp op)) ∧ (z_ret op = true → m_rt K b = z_tr op))), y) := by
    intro g
    by_cases c1 : z_ret op = true
    · rcases z_rt3 _ c1 with c2 | c2 | c2
      · subst c2
        have z : z_tr 172 = 1 := rfl
        by_cases c3 : m_rt K b = 1
        · rw [z_p1 ⟨g, fun _ => c3⟩]
          simp (disch := omega) only [nA, nS, nM, nLT, nLF, nTT, nTF, nEF, nET, nBT, nBF, nC, nNG, nNL, jj_b1, jj_b2, js, jn, eq_self, if_true, if_false, ite_true, ite_false, ↓reduceIte, and_self, true_and, and_true, zb0, zb1, bM, bR, bCk, bMa, Bool.false_eq_true, Bool.and_self, Bool.and_true, Bool.true_and, li_0, li_1, li_2, li_3, li_4, li_5, li_6, li_7, li_8, li_16, li_18, li_21, li_25, li_46, li_54, li_58, li_60, li_79, li_87, li_89, li_95, li_96, li_100, li_104, li_108, li_116, li_127, li_128, li_132, li_153, li_158, li_159, li_164, li_167, li_172, li_176, li_177, li_184, li_188, li_190, li_198, li_199, li_200, li_202, li_240, li_255, li_256, li_32767, li_32768, li_65536, k_Mo_can_185, h8, e1, e2, c1, z_b, k_Mo_can_227, k_Mo_can_230]
        · rw [z_p0 (fun w => c3 (w.2 c1))]
          simp (disch := omega) only [nA, nS, nM, nLT, nLF, nTT, nTF, nEF, nET, nBT, nBF, nC, nNG, nNL, jj_b1, jj_b2, js, jn, eq_self, if_true, if_false, ite_true, ite_false, ↓reduceIte, and_self, true_and, and_true, zb0, zb1, bM, bR, bCk, bMa, Bool.false_eq_true, Bool.and_self, Bool.and_true, Bool.true_and, li_0, li_1, li_2, li_3, li_4, li_5, li_6, li_7, li_8, li_16, li_18, li_21, li_25, li_46, li_54, li_58, li_60, li_79, li_87, li_89, li_95, li_96, li_100, li_104, li_108, li_116, li_127, li_128, li_132, li_153, li_158, li_159, li_164, li_167, li_172, li_176, li_177, li_184, li_188, li_190, li_198, li_199, li_200, li_202, li_240, li_255, li_256, li_32767, li_32768, li_65536, k_Mo_can_185, h8, e1, e2, c1, z_b, k_Mo_can_227, k_Mo_can_230]
      · subst c2
        by_cases c3 : m_rt K b = 2
        · rw [z_p1 ⟨g, fun _ => c3⟩]
          simp (disch := omega) only [nA, nS, nM, nLT, nLF, nTT, nTF, nEF, nET, nBT, nBF, nC, nNG, nNL, jj_b1, jj_b2, js, jn, eq_self, if_true, if_false, ite_true, ite_false, ↓reduceIte, and_self, true_and, and_true, zb0, zb1, bM, bR, bCk, bMa, Bool.false_eq_true, Bool.and_self, Bool.and_true, Bool.true_and, li_0, li_1, li_2, li_3, li_4, li_5, li_6, li_7, li_8, li_16, li_18, li_21, li_25, li_46, li_54, li_58, li_60, li_79, li_87, li_89, li_95, li_96, li_100, li_104, li_108, li_116, li_127, li_128, li_132, li_153, li_158, li_159, li_164, li_167, li_172, li_176, li_177, li_184, li_188, li_190, li_198, li_199, li_200, li_202, li_240, li_255, li_256, li_32767, li_32768, li_65536, k_Mo_can_185, h8, e1, e2, c1, z_b, k_Mo_can_227, k_Mo_can_230]
        · rw [z_p0 (fun w => c3 (w.2 c1))]
          simp (disch := omega) only [nA, nS, nM, nLT, nLF, nTT, nTF, nEF, nET, nBT, nBF, nC, nNG, nNL, jj_b1, jj_b2, js, jn, eq_self, if_true, if_false, ite_true, ite_false, ↓reduceIte, and_self, true_and, and_true, zb0, zb1, bM, bR, bCk, bMa, Bool.false_eq_true, Bool.and_self, Bool.and_true, Bool.true_and, li_0, li_1, li_2, li_3, li_4, li_5, li_6, li_7, li_8, li_16, li_18, li_21, li_25, li_46, li_54, li_58, li_60, li_79, li_87, li_89, li_95, li_96, li_100, li_104, li_108, li_116, li_127, li_128, li_132, li_153, li_158, li_159, li_164, li_167, li_172, li_176, li_177, li_184, li_188, li_190, li_198, li_199, li_200, li_202, li_240, li_255, li_256, li_32767, li_32768, li_65536, k_Mo_can_185, h8, e1, e2, c1, z_b, k_Mo_can_227, k_Mo_can_230]
      · subst c2
        by_cases c3 : m_rt K b = 0
        · rw [z_p1 ⟨g, fun _ => c3⟩]
          simp (disch := omega) only [nA, nS, nM, nLT, nLF, nTT, nTF, nEF, nET, nBT, nBF, nC, nNG, nNL, jj_b1, jj_b2, js, jn, eq_self, if_true, if_false, ite_true, ite_false, ↓reduceIte, and_self, true_and, and_true, zb0, zb1, bM, bR, bCk, bMa, Bool.false_eq_true, Bool.and_self, Bool.and_true, Bool.true_and, li_0, li_1, li_2, li_3, li_4, li_5, li_6, li_7, li_8, li_16, li_18, li_21, li_25, li_46, li_54, li_58, li_60, li_79, li_87, li_89, li_95, li_96, li_100, li_104, li_108, li_116, li_127, li_128, li_132, li_153, li_158, li_159, li_164, li_167, li_172, li_176, li_177, li_184, li_188, li_190, li_198, li_199, li_200, li_202, li_240, li_255, li_256, li_32767, li_32768, li_65536, k_Mo_can_185, h8, e1, e2, c1, z_b, k_Mo_can_227, k_Mo_can_230]
        · rw [z_p0 (fun w => c3 (w.2 c1))]
          simp (disch := omega) only [nA, nS, nM, nLT, nLF, nTT, nTF, nEF, nET, nBT, nBF, nC, nNG, nNL, jj_b1, jj_b2, js, jn, eq_self, if_true, if_false, ite_true, ite_false, ↓reduceIte, and_self, true_and, and_true, zb0, zb1, bM, bR, bCk, bMa, Bool.false_eq_true, Bool.and_self, Bool.and_true, Bool.true_and, li_0, li_1, li_2, li_3, li_4, li_5, li_6, li_7, li_8, li_16, li_18, li_21, li_25, li_46, li_54, li_58, li_60, li_79, li_87, li_89, li_95, li_96, li_100, li_104, li_108, li_116, li_127, li_128, li_132, li_153, li_158, li_159, li_164, li_167, li_172, li_176, li_177, li_184, li_188, li_190, li_198, li_199, li_200, li_202, li_240, li_255, li_256, li_32767, li_32768, li_65536, k_Mo_can_185, h8, e1, e2, c1, z_b, k_Mo_can_227, k_Mo_can_230]
    · rw [z_p1 ⟨g, fun w => absurd w c1⟩]
      simp (disch := omega) only [nA, nS, nM, nLT, nLF, nTT, nTF, nEF, nET, nBT, nBF, nC, nNG, nNL, jj_b1, jj_b2, js, jn, eq_self, if_true, if_false, ite_true, ite_false, ↓reduceIte, and_self, true_and, and_true, zb0, zb1, bM, bR, bCk, bMa, Bool.false_eq_true, Bool.and_self, Bool.and_true, Bool.true_and, li_0, li_1, li_2, li_3, li_4, li_5, li_6, li_7, li_8, li_16, li_18, li_21, li_25, li_46, li_54, li_58, li_60, li_79, li_87, li_89, li_95, li_96, li_100, li_104, li_108, li_116, li_127, li_128, li_132, li_153, li_158, li_159, li_164, li_167, li_172, li_176, li_177, li_184, li_188, li_190, li_198, li_199, li_200, li_202, li_240, li_255, li_256, li_32767, li_32768, li_65536, k_Mo_can_185, h8, e1, e2, c1, z_b, k_Mo_can_230]
  by_cases c1 : op = 21
  · subst c1
    by_cases c2 : kd = 1
    · have R1 := R (fun _ => Or.inr (Or.inl c2))
      simp (disch := omega) only [nA, nS, nM, nLT, nLF, nTT, nTF, nEF, nET, nBT, nBF, nC, nNG, nNL, jj_b1, jj_b2, js, jn, eq_self, if_true, if_false, ite_true, ite_false, ↓reduceIte, and_self, true_and, and_true, zb0, zb1, bM, bR, bCk, bMa, Bool.false_eq_true, Bool.and_self, Bool.and_true, Bool.true_and, li_0, li_1, li_2, li_3, li_4, li_5, li_6, li_7, li_8, li_16, li_18, li_21, li_25, li_46, li_54, li_58, li_60, li_79, li_87, li_89, li_95, li_96, li_100, li_104, li_108, li_116, li_127, li_128, li_132, li_153, li_158, li_159, li_164, li_167, li_172, li_176, li_177, li_184, li_188, li_190, li_198, li_199, li_200, li_202, li_240, li_255, li_256, li_32767, li_32768, li_65536, k_Mo_can_150, k_Mo_can_165, k_Mo_can_171, R1]
    · rw [z_p0 (fun w => by have := w.1 rfl; have z : z_tp 21 = 1 := rfl; omega)]
      simp (disch := omega) only [nA, nS, nM, nLT, nLF, nTT, nTF, nEF, nET, nBT, nBF, nC, nNG, nNL, jj_b1, jj_b2, js, jn, eq_self, if_true, if_false, ite_true, ite_false, ↓reduceIte, and_self, true_and, and_true, zb0, zb1, bM, bR, bCk, bMa, Bool.false_eq_true, Bool.and_self, Bool.and_true, Bool.true_and, li_0, li_1, li_2, li_3, li_4, li_5, li_6, li_7, li_8, li_16, li_18, li_21, li_25, li_46, li_54, li_58, li_60, li_79, li_87, li_89, li_95, li_96, li_100, li_104, li_108, li_116, li_127, li_128, li_132, li_153, li_158, li_159, li_164, li_167, li_172, li_176, li_177, li_184, li_188, li_190, li_198, li_199, li_200, li_202, li_240, li_255, li_256, li_32767, li_32768, li_65536, k_Mo_can_150, k_Mo_can_165]
  · by_cases c2 : op = 132
    · subst c2
      by_cases c2 : kd = 1
      · have R1 := R (fun _ => Or.inr (Or.inl c2))
        simp (disch := omega) only [nA, nS, nM, nLT, nLF, nTT, nTF, nEF, nET, nBT, nBF, nC, nNG, nNL, jj_b1, jj_b2, js, jn, eq_self, if_true, if_false, ite_true, ite_false, ↓reduceIte, and_self, true_and, and_true, zb0, zb1, bM, bR, bCk, bMa, Bool.false_eq_true, Bool.and_self, Bool.and_true, Bool.true_and, li_0, li_1, li_2, li_3, li_4, li_5, li_6, li_7, li_8, li_16, li_18, li_21, li_25, li_46, li_54, li_58, li_60, li_79, li_87, li_89, li_95, li_96, li_100, li_104, li_108, li_116, li_127, li_128, li_132, li_153, li_158, li_159, li_164, li_167, li_172, li_176, li_177, li_184, li_188, li_190, li_198, li_199, li_200, li_202, li_240, li_255, li_256, li_32767, li_32768, li_65536, k_Mo_can_150, k_Mo_can_165, k_Mo_can_171, R1]
      · rw [z_p0 (fun w => by have := w.1 rfl; have z : z_tp 132 = 1 := rfl; omega)]
        simp (disch := omega) only [nA, nS, nM, nLT, nLF, nTT, nTF, nEF, nET, nBT, nBF, nC, nNG, nNL, jj_b1, jj_b2, js, jn, eq_self, if_true, if_false, ite_true, ite_false, ↓reduceIte, and_self, true_and, and_true, zb0, zb1, bM, bR, bCk, bMa, Bool.false_eq_true, Bool.and_self, Bool.and_true, Bool.true_and, li_0, li_1, li_2, li_3, li_4, li_5, li_6, li_7, li_8, li_16, li_18, li_21, li_25, li_46, li_54, li_58, li_60, li_79, li_87, li_89, li_95, li_96, li_100, li_104, li_108, li_116, li_127, li_128, li_132, li_153, li_158, li_159, li_164, li_167, li_172, li_176, li_177, li_184, li_188, li_190, li_198, li_199, li_200, li_202, li_240, li_255, li_256, li_32767, li_32768, li_65536, k_Mo_can_150, k_Mo_can_165]
    · by_cases c3 : op = 25
      · subst c3
        by_cases c2 : 2 ≤ kd
        · have R1 := R (fun _ => by have z : z_tp 25 = 2 := rfl; omega)
          simp (disch := omega) only [nA, nS, nM, nLT, nLF, nTT, nTF, nEF, nET, nBT, nBF, nC, nNG, nNL, jj_b1, jj_b2, js, jn, eq_self, if_true, if_false, ite_true, ite_false, ↓reduceIte, and_self, true_and, and_true, zb0, zb1, bM, bR, bCk, bMa, Bool.false_eq_true, Bool.and_self, Bool.and_true, Bool.true_and, li_0, li_1, li_2, li_3, li_4, li_5, li_6, li_7, li_8, li_16, li_18, li_21, li_25, li_46, li_54, li_58, li_60, li_79, li_87, li_89, li_95, li_96, li_100, li_104, li_108, li_116, li_127, li_128, li_132, li_153, li_158, li_159, li_164, li_167, li_172, li_176, li_177, li_184, li_188, li_190, li_198, li_199, li_200, li_202, li_240, li_255, li_256, li_32767, li_32768, li_65536, k_Mo_can_150, k_Mo_can_171, R1]
        · rw [z_p0 (fun w => by have := w.1 rfl; have z : z_tp 25 = 2 := rfl; omega)]
          simp (disch := omega) only [nA, nS, nM, nLT, nLF, nTT, nTF, nEF, nET, nBT, nBF, nC, nNG, nNL, jj_b1, jj_b2, js, jn, eq_self, if_true, if_false, ite_true, ite_false, ↓reduceIte, and_self, true_and, and_true, zb0, zb1, bM, bR, bCk, bMa, Bool.false_eq_true, Bool.and_self, Bool.and_true, Bool.true_and, li_0, li_1, li_2, li_3, li_4, li_5, li_6, li_7, li_8, li_16, li_18, li_21, li_25, li_46, li_54, li_58, li_60, li_79, li_87, li_89, li_95, li_96, li_100, li_104, li_108, li_116, li_127, li_128, li_132, li_153, li_158, li_159, li_164, li_167, li_172, li_176, li_177, li_184, li_188, li_190, li_198, li_199, li_200, li_202, li_240, li_255, li_256, li_32767, li_32768, li_65536, k_Mo_can_150, k_Mo_can_171]
      · have R1 := R (fun _ => Or.inl (by
          unfold z_tp
          rw [if_neg (by simp [c1, c2]), if_neg (by simp [c3])]))
        simp (disch := omega) only [nA, nS, nM, nLT, nLF, nTT, nTF, nEF, nET, nBT, nBF, nC, nNG, nNL, jj_b1, jj_b2, js, jn, eq_self, if_true, if_false, ite_true, ite_false, ↓reduceIte, and_self, true_and, and_true, zb0, zb1, bM, bR, bCk, bMa, Bool.false_eq_true, Bool.and_self, Bool.and_true, Bool.true_and, li_0, li_1, li_2, li_3, li_4, li_5, li_6, li_7, li_8, li_16, li_18, li_21, li_25, li_46, li_54, li_58, li_60, li_79, li_87, li_89, li_95, li_96, li_100, li_104, li_108, li_116, li_127, li_128, li_132, li_153, li_158, li_159, li_164, li_167, li_172, li_176, li_177, li_184, li_188, li_190, li_198, li_199, li_200, li_202, li_240, li_255, li_256, li_32767, li_32768, li_65536, k_Mo_can_150, k_Mo_can_171, R1]
theorem mo_can (hc : c < 4) (hF : By K n) (hOK : FileOK K n) (hM : MtOK K n (K 1) (mcn K) b N) (hK : KP K n y) (hO : MO K b y) (hI : IA K n (m_pl K b) (m_cd K b + o)) (hB : KB c y pk sk h) (hS : KS pk sk h) : f_Mo_can 58 (nI c) (nI o) y = some (nI (z_p (AL K (m_cd K b + o) (m_dp K b) (m_rt K b) pk sk h)), y) := by
  have h240 := hF.1
  have hi2 := hI.2.1
  have h13 := hO.2.2.2.2.2
  have h10 := hO.2.2.1
  have hpl := hM.1.2.2.2.2.2.1
  have hdp := hM.1.2.2.2.1
  generalize hcd : m_cd K b = cd at *
  have hb := hF.2 (cd + o) (by omega)
  have e0 := hK (cd + o) (by omega)
  have e1 := mo_takes hF hOK hK h13 hI
  have e2 := mo_gives hF hOK hK h13 hI
  have hl := tk_len hF hOK hI
  have hp := pt_le hF hI
  have a1 := hB.1
  have h6 := hS.1
  by_cases c1 : (tkI K (cd + o)).length ≤ h
  rotate_left
  · rw [z_p0 (fun g => c1 g.1)]
    unfold f_Mo_can k_Mo_can_0
    simp (disch := omega) only [nA, nS, nM, nLT, nLF, nTT, nTF, nEF, nET, nBT, nBF, nC, nNG, nNL, jj_b1, jj_b2, js, jn, eq_self, if_true, if_false, ite_true, ite_false, ↓reduceIte, and_self, true_and, and_true, zb0, zb1, bM, bR, bCk, bMa, Bool.false_eq_true, Bool.and_self, Bool.and_true, Bool.true_and, li_0, li_1, li_2, li_3, li_4, li_5, li_6, li_7, li_8, li_16, li_18, li_21, li_25, li_46, li_54, li_58, li_60, li_79, li_87, li_89, li_95, li_96, li_100, li_104, li_108, li_116, li_127, li_128, li_132, li_153, li_158, li_159, li_164, li_167, li_172, li_176, li_177, li_184, li_188, li_190, li_198, li_199, li_200, li_202, li_240, li_255, li_256, li_32767, li_32768, li_65536, h13, e0, e1, a1]
  by_cases c5 : h - (tkI K (cd + o)).length + ptI K (cd + o) ≤ m_dp K b
  rotate_left
  · rw [z_p0 (fun g => c5 g.2.2.2.2)]
    unfold f_Mo_can k_Mo_can_0
    simp (disch := omega) only [nA, nS, nM, nLT, nLF, nTT, nTF, nEF, nET, nBT, nBF, nC, nNG, nNL, jj_b1, jj_b2, js, jn, eq_self, if_true, if_false, ite_true, ite_false, ↓reduceIte, and_self, true_and, and_true, zb0, zb1, bM, bR, bCk, bMa, Bool.false_eq_true, Bool.and_self, Bool.and_true, Bool.true_and, li_0, li_1, li_2, li_3, li_4, li_5, li_6, li_7, li_8, li_16, li_18, li_21, li_25, li_46, li_54, li_58, li_60, li_79, li_87, li_89, li_95, li_96, li_100, li_104, li_108, li_116, li_127, li_128, li_132, li_153, li_158, li_159, li_164, li_167, li_172, li_176, li_177, li_184, li_188, li_190, li_198, li_199, li_200, li_202, li_240, li_255, li_256, li_32767, li_32768, li_65536, h13, e0, e1, a1, e2, h10]
  have U : f_Mo_can 58 (nI c) (nI o) y = g_Mo_can 1000 57 [some (.ref 58), some (.int (nI c)), some (.int (nI o)), some (.int (nI (K (cd + o)))), some (.int (nI (tkI K (cd + o)).length)), some (.int (nI 0)), none] y := by
    unfold f_Mo_can k_Mo_can_0
    simp (disch := omega) only [nA, nS, nM, nLT, nLF, nTT, nTF, nEF, nET, nBT, nBF, nC, nNG, nNL, jj_b1, jj_b2, js, jn, eq_self, if_true, if_false, ite_true, ite_false, ↓reduceIte, and_self, true_and, and_true, zb0, zb1, bM, bR, bCk, bMa, Bool.false_eq_true, Bool.and_self, Bool.and_true, Bool.true_and, li_0, li_1, li_2, li_3, li_4, li_5, li_6, li_7, li_8, li_16, li_18, li_21, li_25, li_46, li_54, li_58, li_60, li_79, li_87, li_89, li_95, li_96, li_100, li_104, li_108, li_116, li_127, li_128, li_132, li_153, li_158, li_159, li_164, li_167, li_172, li_176, li_177, li_184, li_188, li_190, li_198, li_199, li_200, li_202, li_240, li_255, li_256, li_32767, li_32768, li_65536, h13, e0, e1, a1, e2, h10]
  have G : ∀ (r k f : Nat), k + r = (tkI K (cd + o)).length → r < f → g_Mo_can f 57 [some (.ref 58), some (.int (nI c)), some (.int (nI o)), some (.int (nI (K (cd + o)))), some (.int (nI (tkI K (cd + o)).length)), some (.int (nI k)), none] y = some (nI (z_p ((∀ i, k ≤ i → i < (tkI K (cd + o)).length → zgood (sk (h - 1 - i)) ((tkI K (cd + o))[(tkI K (cd + o)).length - 1 - i]!)) ∧ (z_nam (K (cd + o)) = true → zgood (pk (K (cd + o + 1))) (z_tp (K (cd + o)))) ∧ (z_ret (K (cd + o)) = true → m_rt K b = z_tr (K (cd + o))))), y) := by
    intro r
    induction r with
    | zero =>
      intro k f hk hf
      obtain ⟨f, rfl⟩ : ∃ g, f = g + 1 := ⟨f - 1, by omega⟩
      have e3 := zm_names _ hb hI.1
      by_cases c2 : z_nam (K (cd + o)) = true
      · have l2 := z_nl _ hb c2
        have b1 := (hI.2.2 l2).1 c2
        have e4 := hK (cd + o + 1) (by omega)
        have e5 := hB.2.1 (K (cd + o + 1)) (by omega)
        have t1 := hS.2.1 (K (cd + o + 1))
        have E := mo_can_end (rec := g_Mo_can f) hb hI.1 t1 hF hM hK hO.1 (Or.inl c2)
        rw [show z_p ((∀ i, k ≤ i → i < (tkI K (cd + o)).length → zgood (sk (h - 1 - i)) ((tkI K (cd + o))[(tkI K (cd + o)).length - 1 - i]!)) ∧ (z_nam (K (cd + o)) = true → zgood (pk (K (cd + o + 1))) (z_tp (K (cd + o)))) ∧ (z_ret (K (cd + o)) = true → m_rt K b = z_tr (K (cd + o)))) = z_p ((z_nam (K (cd + o)) = true → zgood (pk (K (cd + o + 1))) (z_tp (K (cd + o)))) ∧ (z_ret (K (cd + o)) = true → m_rt K b = z_tr (K (cd + o)))) from z_pc ⟨fun w => w.2, fun w => ⟨fun i h1 h2 => by omega, w⟩⟩, ← E]
        rw [show g_Mo_can (f + 1) 57 [some (.ref 58), some (.int (nI c)), some (.int (nI o)), some (.int (nI (K (cd + o)))), some (.int (nI (tkI K (cd + o)).length)), some (.int (nI k)), none] y = k_Mo_can_57 (g_Mo_can f) 58 (nI c) (nI o) (nI (K (cd + o))) (nI (tkI K (cd + o)).length) (nI k) y from rfl]
        simp (disch := omega) only [nA, nS, nM, nLT, nLF, nTT, nTF, nEF, nET, nBT, nBF, nC, nNG, nNL, jj_b1, jj_b2, js, jn, eq_self, if_true, if_false, ite_true, ite_false, ↓reduceIte, and_self, true_and, and_true, zb0, zb1, bM, bR, bCk, bMa, Bool.false_eq_true, Bool.and_self, Bool.and_true, Bool.true_and, li_0, li_1, li_2, li_3, li_4, li_5, li_6, li_7, li_8, li_16, li_18, li_21, li_25, li_46, li_54, li_58, li_60, li_79, li_87, li_89, li_95, li_96, li_100, li_104, li_108, li_116, li_127, li_128, li_132, li_153, li_158, li_159, li_164, li_167, li_172, li_176, li_177, li_184, li_188, li_190, li_198, li_199, li_200, li_202, li_240, li_255, li_256, li_32767, li_32768, li_65536, k_Mo_can_57, e3, c2, z_b, h13, e4, e5]
      · have E := mo_can_end (rec := g_Mo_can f) (kd := 0) hb hI.1 (by omega) hF hM hK hO.1 (Or.inr rfl)
        rw [show z_p ((∀ i, k ≤ i → i < (tkI K (cd + o)).length → zgood (sk (h - 1 - i)) ((tkI K (cd + o))[(tkI K (cd + o)).length - 1 - i]!)) ∧ (z_nam (K (cd + o)) = true → zgood (pk (K (cd + o + 1))) (z_tp (K (cd + o)))) ∧ (z_ret (K (cd + o)) = true → m_rt K b = z_tr (K (cd + o)))) = z_p ((z_nam (K (cd + o)) = true → zgood 0 (z_tp (K (cd + o)))) ∧ (z_ret (K (cd + o)) = true → m_rt K b = z_tr (K (cd + o)))) from z_pc ⟨fun w => ⟨fun g => absurd g c2, w.2.2⟩, fun w => ⟨fun i h1 h2 => by omega, fun g => absurd g c2, w.2⟩⟩, ← E]
        rw [show g_Mo_can (f + 1) 57 [some (.ref 58), some (.int (nI c)), some (.int (nI o)), some (.int (nI (K (cd + o)))), some (.int (nI (tkI K (cd + o)).length)), some (.int (nI k)), none] y = k_Mo_can_57 (g_Mo_can f) 58 (nI c) (nI o) (nI (K (cd + o))) (nI (tkI K (cd + o)).length) (nI k) y from rfl]
        simp (disch := omega) only [nA, nS, nM, nLT, nLF, nTT, nTF, nEF, nET, nBT, nBF, nC, nNG, nNL, jj_b1, jj_b2, js, jn, eq_self, if_true, if_false, ite_true, ite_false, ↓reduceIte, and_self, true_and, and_true, zb0, zb1, bM, bR, bCk, bMa, Bool.false_eq_true, Bool.and_self, Bool.and_true, Bool.true_and, li_0, li_1, li_2, li_3, li_4, li_5, li_6, li_7, li_8, li_16, li_18, li_21, li_25, li_46, li_54, li_58, li_60, li_79, li_87, li_89, li_95, li_96, li_100, li_104, li_108, li_116, li_127, li_128, li_132, li_153, li_158, li_159, li_164, li_167, li_172, li_176, li_177, li_184, li_188, li_190, li_198, li_199, li_200, li_202, li_240, li_255, li_256, li_32767, li_32768, li_65536, k_Mo_can_57, e3, c2, z_b]
    | succ r ih =>
      intro k f hk hf
      obtain ⟨f, rfl⟩ : ∃ g, f = g + 1 := ⟨f - 1, by omega⟩
      have I := ih (k + 1) f (by omega) (by omega)
      have e3 := mo_needs hF hOK hK h13 hI (k := k) (by omega)
      have t2 := tk_le hF hOK hI (i := (tkI K (cd + o)).length - 1 - k) (by omega)
      have e4 := hB.2.2 (h - 1 - k) (by omega)
      rw [show 6 * c + (h - 1 - k) = 6 * c + h - 1 - k by omega] at e4
      have t1 := hS.2.2 (h - 1 - k)
      rw [show g_Mo_can (f + 1) 57 [some (.ref 58), some (.int (nI c)), some (.int (nI o)), some (.int (nI (K (cd + o)))), some (.int (nI (tkI K (cd + o)).length)), some (.int (nI k)), none] y = k_Mo_can_57 (g_Mo_can f) 58 (nI c) (nI o) (nI (K (cd + o))) (nI (tkI K (cd + o)).length) (nI k) y from rfl]
      have J : zgood (sk (h - 1 - k)) ((tkI K (cd + o))[(tkI K (cd + o)).length - 1 - k]!) → z_p ((∀ i, k ≤ i → i < (tkI K (cd + o)).length → zgood (sk (h - 1 - i)) ((tkI K (cd + o))[(tkI K (cd + o)).length - 1 - i]!)) ∧ (z_nam (K (cd + o)) = true → zgood (pk (K (cd + o + 1))) (z_tp (K (cd + o)))) ∧ (z_ret (K (cd + o)) = true → m_rt K b = z_tr (K (cd + o)))) = z_p ((∀ i, k + 1 ≤ i → i < (tkI K (cd + o)).length → zgood (sk (h - 1 - i)) ((tkI K (cd + o))[(tkI K (cd + o)).length - 1 - i]!)) ∧ (z_nam (K (cd + o)) = true → zgood (pk (K (cd + o + 1))) (z_tp (K (cd + o)))) ∧ (z_ret (K (cd + o)) = true → m_rt K b = z_tr (K (cd + o)))) := fun c1 => z_pc ⟨fun g => ⟨fun i h1 h2 => g.1 i (by omega) h2, g.2⟩, fun g => ⟨fun i h1 h2 => by
          by_cases c2 : i = k
          · rw [c2]; exact c1
          · exact g.1 i (by omega) h2, g.2⟩⟩
      by_cases c2 : (tkI K (cd + o))[(tkI K (cd + o)).length - 1 - k]! = 0
      · have e5 : z_nd (tkI K (cd + o)) k = 3 := by unfold z_nd; rw [if_pos (by omega), if_pos c2]
        rw [e5] at e3
        rw [J (Or.inl c2), ← I]
        simp (disch := omega) only [nA, nS, nM, nLT, nLF, nTT, nTF, nEF, nET, nBT, nBF, nC, nNG, nNL, jj_b1, jj_b2, js, jn, eq_self, if_true, if_false, ite_true, ite_false, ↓reduceIte, and_self, true_and, and_true, zb0, zb1, bM, bR, bCk, bMa, Bool.false_eq_true, Bool.and_self, Bool.and_true, Bool.true_and, li_0, li_1, li_2, li_3, li_4, li_5, li_6, li_7, li_8, li_16, li_18, li_21, li_25, li_46, li_54, li_58, li_60, li_79, li_87, li_89, li_95, li_96, li_100, li_104, li_108, li_116, li_127, li_128, li_132, li_153, li_158, li_159, li_164, li_167, li_172, li_176, li_177, li_184, li_188, li_190, li_198, li_199, li_200, li_202, li_240, li_255, li_256, li_32767, li_32768, li_65536, k_Mo_can_57, e3, k_Mo_can_110]
      · have e5 : z_nd (tkI K (cd + o)) k = (tkI K (cd + o))[(tkI K (cd + o)).length - 1 - k]! := by unfold z_nd; rw [if_pos (by omega), if_neg c2]
        rw [e5] at e3
        have e6 := mo_good (x := y) (t := sk (h - 1 - k)) (d := (tkI K (cd + o))[(tkI K (cd + o)).length - 1 - k]!) (by omega) (by omega)
        by_cases c3 : sk (h - 1 - k) = (tkI K (cd + o))[(tkI K (cd + o)).length - 1 - k]! ∨ (sk (h - 1 - k) = 3 ∧ (tkI K (cd + o))[(tkI K (cd + o)).length - 1 - k]! = 2)
        · rw [z_p1 c3] at e6
          rw [J (Or.inr c3), ← I]
          simp (disch := omega) only [nA, nS, nM, nLT, nLF, nTT, nTF, nEF, nET, nBT, nBF, nC, nNG, nNL, jj_b1, jj_b2, js, jn, eq_self, if_true, if_false, ite_true, ite_false, ↓reduceIte, and_self, true_and, and_true, zb0, zb1, bM, bR, bCk, bMa, Bool.false_eq_true, Bool.and_self, Bool.and_true, Bool.true_and, li_0, li_1, li_2, li_3, li_4, li_5, li_6, li_7, li_8, li_16, li_18, li_21, li_25, li_46, li_54, li_58, li_60, li_79, li_87, li_89, li_95, li_96, li_100, li_104, li_108, li_116, li_127, li_128, li_132, li_153, li_158, li_159, li_164, li_167, li_172, li_176, li_177, li_184, li_188, li_190, li_198, li_199, li_200, li_202, li_240, li_255, li_256, li_32767, li_32768, li_65536, k_Mo_can_57, e3, k_Mo_can_110, a1, e4, e6]
        · rw [z_p0 c3] at e6
          rw [z_p0 (fun g => by
            rcases g.1 k (by omega) (by omega) with w | w
            · exact c2 w
            · exact c3 w)]
          simp (disch := omega) only [nA, nS, nM, nLT, nLF, nTT, nTF, nEF, nET, nBT, nBF, nC, nNG, nNL, jj_b1, jj_b2, js, jn, eq_self, if_true, if_false, ite_true, ite_false, ↓reduceIte, and_self, true_and, and_true, zb0, zb1, bM, bR, bCk, bMa, Bool.false_eq_true, Bool.and_self, Bool.and_true, Bool.true_and, li_0, li_1, li_2, li_3, li_4, li_5, li_6, li_7, li_8, li_16, li_18, li_21, li_25, li_46, li_54, li_58, li_60, li_79, li_87, li_89, li_95, li_96, li_100, li_104, li_108, li_116, li_127, li_128, li_132, li_153, li_158, li_159, li_164, li_167, li_172, li_176, li_177, li_184, li_188, li_190, li_198, li_199, li_200, li_202, li_240, li_255, li_256, li_32767, li_32768, li_65536, k_Mo_can_57, e3, k_Mo_can_110, a1, e4, e6]
  rw [U, G (tkI K (cd + o)).length 0 1000 (by omega) (by omega)]
  congr 3
  refine z_pc ⟨fun g => ⟨c1, fun i hi => ?_, g.2.1, g.2.2, c5⟩, fun g => ⟨fun i _ hi => ?_, g.2.2.1, g.2.2.2.1⟩⟩
  · have := g.1 ((tkI K (cd + o)).length - 1 - i) (by omega) (by omega)
    rw [show h - 1 - ((tkI K (cd + o)).length - 1 - i) = h - (tkI K (cd + o)).length + i by omega, show (tkI K (cd + o)).length - 1 - ((tkI K (cd + o)).length - 1 - i) = i by omega] at this
    exact this
  · have := g.2.1 ((tkI K (cd + o)).length - 1 - i) (by omega)
    rw [show h - (tkI K (cd + o)).length + ((tkI K (cd + o)).length - 1 - i) = h - 1 - i by omega] at this
    exact this
end ALLOWS
