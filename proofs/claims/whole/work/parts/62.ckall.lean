/-! PURE: checking a method: the class's side, and both together -/
section CKALL
variable {K : Nat → Nat} {n b N P q i j J : Nat} {x y : jj_Mem} {A : AS}
theorem ck_enters (hP : o_Pr P) (hq : o_Me q) (hqP : P + 3 ≤ q ∧ q < 23) (hF : By K n) (hM : MtOK K n (K 1) (mcn K) b N) (hx : ∀ k, k < n → x (P + 1) k = nI (K k)) (hC : MtC K b q x) (hj : j < N) (hG : GA K b (trA K b j)) (hA : KAA x (trA K b j)) : ∃ x', f_Ck_entersFrame 26 P q (nI (st K (m_cd K b) j)) x = some (nI (z_p (EN K b j)), x') ∧ Same WC x x' ∧ (EN K b j → KAA x' (enT K b j)) := by
  have h240 := hF.1
  have h8 := hM.2.2.2.1
  have h60 := st_lt60 hM (j := j) (by omega)
  have M := pr_frameAt hP hq hF hM hx hC (nI (st K (m_cd K b) j))
  have h1 := hA.2
  by_cases c : ∃ i, i < m_fc K b ∧ K (m_fr K b i) = st K (m_cd K b) j
  · obtain ⟨i, i1, i2⟩ := c
    have m1 := M.2 i i1 (by rw [i2])
    obtain ⟨x2, c1, c2, c3, c4⟩ := ck_become hP hq hqP hF hM hx hC i1 hA.1 hG.2.1
    have hA2 : KAA x2 (enT K b j) := by
      have : enT K b j = (fp K b i, fs K b i, fh K b i, 1) := enA_at hM i1 i2
      rw [this]; exact ⟨c3, c4⟩
    by_cases c5 : (trA K b j).2.2.2 = 1
    · rw [c5] at h1
      have f1 := ck_good hP hq hF hM hx hC i1 hA.1 hG.1
      by_cases c6 : GFA K b i (trA K b j)
      · have f1' : f_Ck_isGoodForFrame 26 P q (nI i) x = some (nI 1, x) := by rw [f1]; exact congrArg (fun v => some (nI v, x)) (z_p1 c6)
        refine ⟨x2, ?_, c2, fun _ => hA2⟩
        rw [z_p1 (show EN K b j from fun i' w1 w2 _ => by
          have : i' = i := by
            rcases Nat.lt_trichotomy i' i with u | u | u
            · have := fr_lt2 hM u i1; omega
            · exact u
            · have := fr_lt2 hM u w1; omega
          rw [this]; exact c6)]
        unfold f_Ck_entersFrame k_Ck_entersFrame_0
        simp (disch := omega) only [nA, nS, nM, nLT, nLF, nTT, nTF, nEF, nET, nBT, nBF, nC, nNG, nNL, jj_b1, jj_b2, js, jn, eq_self, if_true, if_false, ite_true, ite_false, ↓reduceIte, and_self, true_and, and_true, zb0, zb1, bM, bR, bCk, bMa, Bool.false_eq_true, Bool.and_self, Bool.and_true, Bool.true_and, li_0, li_1, li_2, li_3, li_4, li_5, li_6, li_7, li_8, li_16, li_18, li_21, li_25, li_46, li_54, li_58, li_60, li_79, li_87, li_89, li_95, li_96, li_100, li_104, li_108, li_116, li_127, li_128, li_132, li_153, li_158, li_159, li_164, li_167, li_172, li_176, li_177, li_184, li_188, li_190, li_198, li_199, li_200, li_202, li_240, li_255, li_256, li_32767, li_32768, li_65536, m1, h1, f1', c1]
      · have f1' : f_Ck_isGoodForFrame 26 P q (nI i) x = some (nI 0, x) := by rw [f1]; exact congrArg (fun v => some (nI v, x)) (z_p0 c6)
        have ne : ¬ EN K b j := fun w => c6 (w i i1 i2 c5)
        refine ⟨x, ?_, Same.refl x, fun w => absurd w ne⟩
        rw [z_p0 ne]
        unfold f_Ck_entersFrame k_Ck_entersFrame_0
        simp (disch := omega) only [nA, nS, nM, nLT, nLF, nTT, nTF, nEF, nET, nBT, nBF, nC, nNG, nNL, jj_b1, jj_b2, js, jn, eq_self, if_true, if_false, ite_true, ite_false, ↓reduceIte, and_self, true_and, and_true, zb0, zb1, bM, bR, bCk, bMa, Bool.false_eq_true, Bool.and_self, Bool.and_true, Bool.true_and, li_0, li_1, li_2, li_3, li_4, li_5, li_6, li_7, li_8, li_16, li_18, li_21, li_25, li_46, li_54, li_58, li_60, li_79, li_87, li_89, li_95, li_96, li_100, li_104, li_108, li_116, li_127, li_128, li_132, li_153, li_158, li_159, li_164, li_167, li_172, li_176, li_177, li_184, li_188, li_190, li_198, li_199, li_200, li_202, li_240, li_255, li_256, li_32767, li_32768, li_65536, m1, h1, f1']
    · rw [show (trA K b j).2.2.2 = 0 by have := hG.2.2; omega] at h1
      refine ⟨x2, ?_, c2, fun _ => hA2⟩
      rw [z_p1 (show EN K b j from fun i' w1 w2 w3 => absurd w3 c5)]
      unfold f_Ck_entersFrame k_Ck_entersFrame_0
      simp (disch := omega) only [nA, nS, nM, nLT, nLF, nTT, nTF, nEF, nET, nBT, nBF, nC, nNG, nNL, jj_b1, jj_b2, js, jn, eq_self, if_true, if_false, ite_true, ite_false, ↓reduceIte, and_self, true_and, and_true, zb0, zb1, bM, bR, bCk, bMa, Bool.false_eq_true, Bool.and_self, Bool.and_true, Bool.true_and, li_0, li_1, li_2, li_3, li_4, li_5, li_6, li_7, li_8, li_16, li_18, li_21, li_25, li_46, li_54, li_58, li_60, li_79, li_87, li_89, li_95, li_96, li_100, li_104, li_108, li_116, li_127, li_128, li_132, li_153, li_158, li_159, li_164, li_167, li_172, li_176, li_177, li_184, li_188, li_190, li_198, li_199, li_200, li_202, li_240, li_255, li_256, li_32767, li_32768, li_65536, m1, h1, c1]
  · have m1 := M.1 (fun i i1 i2 => c ⟨i, i1, by
      have f3 := (fr_ok hM i1).1
      exact nInj (by omega) (by omega) i2⟩)
    refine ⟨x, ?_, Same.refl x, fun _ => by
      have : enT K b j = trA K b j := enA_no c
      rw [this]; exact hA⟩
    rw [z_p1 (show EN K b j from fun i' w1 w2 _ => absurd ⟨i', w1, w2⟩ c)]
    unfold f_Ck_entersFrame k_Ck_entersFrame_0
    simp (disch := omega) only [nA, nS, nM, nLT, nLF, nTT, nTF, nEF, nET, nBT, nBF, nC, nNG, nNL, jj_b1, jj_b2, js, jn, eq_self, if_true, if_false, ite_true, ite_false, ↓reduceIte, and_self, true_and, and_true, zb0, zb1, bM, bR, bCk, bMa, Bool.false_eq_true, Bool.and_self, Bool.and_true, Bool.true_and, li_0, li_1, li_2, li_3, li_4, li_5, li_6, li_7, li_8, li_16, li_18, li_21, li_25, li_46, li_54, li_58, li_60, li_79, li_87, li_89, li_95, li_96, li_100, li_104, li_108, li_116, li_127, li_128, li_132, li_153, li_158, li_159, li_164, li_167, li_172, li_176, li_177, li_184, li_188, li_190, li_198, li_199, li_200, li_202, li_240, li_255, li_256, li_32767, li_32768, li_65536, m1]
theorem ck_may (hP : o_Pr P) (hq : o_Me q) (hF : By K n) (hM : MtOK K n (K 1) (mcn K) b N) (hx : ∀ k, k < n → x (P + 1) k = nI (K k)) (hC : MtC K b q x) {o : Nat} (hI : IA K n (m_pl K b) (m_cd K b + o)) (hS : KS A.1 A.2.1 A.2.2.1) (hA : KA 27 x A.1 A.2.1 A.2.2.1) : f_Ck_mayGoToTarget 26 P q (nI o) x = some (nI (z_p (JM K b (m_cd K b + o) o A)), x) := by
  have h240 := hF.1
  have h8 := hM.2.2.2.1
  have hi2 := hI.2.1
  have hb := hF.2 (m_cd K b + o) (by omega)
  have e0 := pr_code (S := P) (o := o) hC.1.2.2.2.2.2.2 hx (by omega) h240
  have e3 := zt_hasTarget _ hb hI.1
  by_cases c2 : z_jmp (K (m_cd K b + o)) = true
  · have l3 := z_j3 _ hb c2
    have t1 := pr_target (S := P) (o := o) hF hC.1.2.2.2.2.2.2 hx (by omega)
    have M := pr_frameAt hP hq hF hM hx hC (tgt K (m_cd K b + o) o)
    by_cases c3 : ∃ i, i < m_fc K b ∧ nI (K (m_fr K b i)) = tgt K (m_cd K b + o) o
    · obtain ⟨i, i1, i2⟩ := c3
      have m1 := M.2 i i1 i2
      have f1 := ck_good hP hq hF hM hx hC i1 hA hS
      by_cases c4 : GFA K b i A
      · have f1' : f_Ck_isGoodForFrame 26 P q (nI i) x = some (nI 1, x) := by rw [f1]; exact congrArg (fun v => some (nI v, x)) (z_p1 c4)
        rw [z_p1 (show JM K b (m_cd K b + o) o A from fun _ => ⟨i, i1, i2, c4⟩)]
        unfold f_Ck_mayGoToTarget
        simp (disch := omega) only [nA, nS, nM, nLT, nLF, nTT, nTF, nEF, nET, nBT, nBF, nC, nNG, nNL, jj_b1, jj_b2, js, jn, eq_self, if_true, if_false, ite_true, ite_false, ↓reduceIte, and_self, true_and, and_true, zb0, zb1, bM, bR, bCk, bMa, Bool.false_eq_true, Bool.and_self, Bool.and_true, Bool.true_and, li_0, li_1, li_2, li_3, li_4, li_5, li_6, li_7, li_8, li_16, li_18, li_21, li_25, li_46, li_54, li_58, li_60, li_79, li_87, li_89, li_95, li_96, li_100, li_104, li_108, li_116, li_127, li_128, li_132, li_153, li_158, li_159, li_164, li_167, li_172, li_176, li_177, li_184, li_188, li_190, li_198, li_199, li_200, li_202, li_240, li_255, li_256, li_32767, li_32768, li_65536, e0, e3, c2, z_b, t1, m1, f1']
      · have f1' : f_Ck_isGoodForFrame 26 P q (nI i) x = some (nI 0, x) := by rw [f1]; exact congrArg (fun v => some (nI v, x)) (z_p0 c4)
        rw [z_p0 (show ¬ JM K b (m_cd K b + o) o A from fun w => by
          obtain ⟨i', w1, w2, w3⟩ := w c2
          have : i' = i := by
            have f3 := (fr_ok hM i1).1
            have f4 := (fr_ok hM w1).1
            have f6 := hM.1.2.2.2.2.2.2.2.1
            have f5 := nInj (by omega) (by omega) (w2.trans i2.symm)
            rcases Nat.lt_trichotomy i' i with u | u | u
            · have := fr_lt2 hM u i1; omega
            · exact u
            · have := fr_lt2 hM u w1; omega
          rw [this] at w3
          exact c4 w3)]
        unfold f_Ck_mayGoToTarget
        simp (disch := omega) only [nA, nS, nM, nLT, nLF, nTT, nTF, nEF, nET, nBT, nBF, nC, nNG, nNL, jj_b1, jj_b2, js, jn, eq_self, if_true, if_false, ite_true, ite_false, ↓reduceIte, and_self, true_and, and_true, zb0, zb1, bM, bR, bCk, bMa, Bool.false_eq_true, Bool.and_self, Bool.and_true, Bool.true_and, li_0, li_1, li_2, li_3, li_4, li_5, li_6, li_7, li_8, li_16, li_18, li_21, li_25, li_46, li_54, li_58, li_60, li_79, li_87, li_89, li_95, li_96, li_100, li_104, li_108, li_116, li_127, li_128, li_132, li_153, li_158, li_159, li_164, li_167, li_172, li_176, li_177, li_184, li_188, li_190, li_198, li_199, li_200, li_202, li_240, li_255, li_256, li_32767, li_32768, li_65536, e0, e3, c2, z_b, t1, m1, f1']
    · have m1 := M.1 (fun i i1 i2 => c3 ⟨i, i1, i2⟩)
      rw [z_p0 (show ¬ JM K b (m_cd K b + o) o A from fun w => by
        obtain ⟨i', w1, w2, w3⟩ := w c2
        exact c3 ⟨i', w1, w2⟩)]
      unfold f_Ck_mayGoToTarget
      simp (disch := omega) only [nA, nS, nM, nLT, nLF, nTT, nTF, nEF, nET, nBT, nBF, nC, nNG, nNL, jj_b1, jj_b2, js, jn, eq_self, if_true, if_false, ite_true, ite_false, ↓reduceIte, and_self, true_and, and_true, zb0, zb1, bM, bR, bCk, bMa, Bool.false_eq_true, Bool.and_self, Bool.and_true, Bool.true_and, li_0, li_1, li_2, li_3, li_4, li_5, li_6, li_7, li_8, li_16, li_18, li_21, li_25, li_46, li_54, li_58, li_60, li_79, li_87, li_89, li_95, li_96, li_100, li_104, li_108, li_116, li_127, li_128, li_132, li_153, li_158, li_159, li_164, li_167, li_172, li_176, li_177, li_184, li_188, li_190, li_198, li_199, li_200, li_202, li_240, li_255, li_256, li_32767, li_32768, li_65536, e0, e3, c2, z_b, t1, m1]
  · rw [z_p1 (show JM K b (m_cd K b + o) o A from fun w => absurd w c2)]
    unfold f_Ck_mayGoToTarget
    simp (disch := omega) only [nA, nS, nM, nLT, nLF, nTT, nTF, nEF, nET, nBT, nBF, nC, nNG, nNL, jj_b1, jj_b2, js, jn, eq_self, if_true, if_false, ite_true, ite_false, ↓reduceIte, and_self, true_and, and_true, zb0, zb1, bM, bR, bCk, bMa, Bool.false_eq_true, Bool.and_self, Bool.and_true, Bool.true_and, li_0, li_1, li_2, li_3, li_4, li_5, li_6, li_7, li_8, li_16, li_18, li_21, li_25, li_46, li_54, li_58, li_60, li_79, li_87, li_89, li_95, li_96, li_100, li_104, li_108, li_116, li_127, li_128, li_132, li_153, li_158, li_159, li_164, li_167, li_172, li_176, li_177, li_184, li_188, li_190, li_198, li_199, li_200, li_202, li_240, li_255, li_256, li_32767, li_32768, li_65536, e0, e3, c2, z_b]
theorem MtC.wc {x' : jj_Mem} (hq : q < 23) (h : MtC K b q x) (g : Same WC x x') : MtC K b q x' := h.same g (fun k => by omega) (fun k => by omega)
theorem ck_48 (hP : o_Pr P) (hq : o_Me q) (hqP : P + 3 ≤ q ∧ q < 23) (hF : By K n) (hOK : FileOK K n) (hM : MtOK K n (K 1) (mcn K) b N) : ∀ (r j f : Nat) (x : jj_Mem), j + r = N → r < f → (∀ i, i < j → PASS K b i) → FileC P K n x → MtC K b q x → KAA x (trA K b j) → ∃ v x', g_Ck_firstRefused f 48 [some (.ref 26), some (.ref P), some (.ref q), none, some (.int (nI (st K (m_cd K b) j)))] x = some (v, x') ∧ RES K b N v ∧ Same WC x x' := by
  have h240 := hF.1
  have bP : bo_Pr P = true := hP
  have bq : bo_Me q = true := hq
  have hP2 := oc_Pr hP
  have hpl := hM.1.2.2.2.2.2.1
  have hdp := hM.1.2.2.2.1
  have hrt := hM.1.2.2.1
  intro r
  induction r with
  | zero =>
    intro j f x hj hf hp hFC hC hA
    obtain ⟨f, rfl⟩ : ∃ g, f = g + 1 := ⟨f - 1, by omega⟩
    have e : j = N := by omega
    subst e
    have e1 := hM.2.1.2.1
    have h60 := st_lt60 hM (Nat.le_refl j)
    have h6 := hC.1.2.2.2.2.2.1
    have h1 := hA.2
    have hG := (GA_tr hF hOK hM j (by omega) hp).2.2
    refine ⟨_, x, ?_, Or.inr ⟨hp, rfl⟩, Same.refl x⟩
    rw [e1]
    by_cases c : (trA K b j).2.2.2 = 0
    · rw [c] at h1
      rw [if_pos c]
      simp (disch := omega) only [nA, nS, nM, nLT, nLF, nTT, nTF, nEF, nET, nBT, nBF, nC, nNG, nNL, jj_b1, jj_b2, js, jn, eq_self, if_true, if_false, ite_true, ite_false, ↓reduceIte, and_self, true_and, and_true, zb0, zb1, bM, bR, bCk, bMa, Bool.false_eq_true, Bool.and_self, Bool.and_true, Bool.true_and, li_0, li_1, li_2, li_3, li_4, li_5, li_6, li_7, li_8, li_16, li_18, li_21, li_25, li_46, li_54, li_58, li_60, li_79, li_87, li_89, li_95, li_96, li_100, li_104, li_108, li_116, li_127, li_128, li_132, li_153, li_158, li_159, li_164, li_167, li_172, li_176, li_177, li_184, li_188, li_190, li_198, li_199, li_200, li_202, li_240, li_255, li_256, li_32767, li_32768, li_65536, g_Ck_firstRefused, k_Ck_firstRefused_48, bP, bq, h6, h1]
    · rw [show (trA K b j).2.2.2 = 1 by omega] at h1
      rw [if_neg c]
      simp (disch := omega) only [nA, nS, nM, nLT, nLF, nTT, nTF, nEF, nET, nBT, nBF, nC, nNG, nNL, jj_b1, jj_b2, js, jn, eq_self, if_true, if_false, ite_true, ite_false, ↓reduceIte, and_self, true_and, and_true, zb0, zb1, bM, bR, bCk, bMa, Bool.false_eq_true, Bool.and_self, Bool.and_true, Bool.true_and, li_0, li_1, li_2, li_3, li_4, li_5, li_6, li_7, li_8, li_16, li_18, li_21, li_25, li_46, li_54, li_58, li_60, li_79, li_87, li_89, li_95, li_96, li_100, li_104, li_108, li_116, li_127, li_128, li_132, li_153, li_158, li_159, li_164, li_167, li_172, li_176, li_177, li_184, li_188, li_190, li_198, li_199, li_200, li_202, li_240, li_255, li_256, li_32767, li_32768, li_65536, g_Ck_firstRefused, k_Ck_firstRefused_48, bP, bq, h6, h1]
  | succ r ih =>
    intro j f x hj hf hp hFC hC hA
    obtain ⟨f, rfl⟩ : ∃ g, f = g + 1 := ⟨f - 1, by omega⟩
    have hjN : j < N := by omega
    have h60 := st_lt60 hM (j := j) (by omega)
    have hlt := (hM.2.1.2.2 j hjN).1
    have hI := IA_of hM hjN
    have hi2 := hI.2.1
    have hz1 : 1 ≤ z_len (K (m_cd K b + st K (m_cd K b) j)) := by have := hI.1; omega
    have hb := hF.2 (m_cd K b + st K (m_cd K b) j) (by omega)
    have hz3 := z_len3 _ hb
    have h6 := hC.1.2.2.2.2.2.1
    have h5 := hC.1.2.2.2.2.2.2
    have e0 := pr_codeP h240 hFC h5 (o := st K (m_cd K b) j) (by omega)
    have hG := GA_tr hF hOK hM j (by omega) hp
    have hGe : GA K b (enT K b j) := GA_en hM hG
    obtain ⟨x1, a1, a2, a3⟩ := ck_enters hP hq hqP hF hM hFC.2.2.2.2.1 hC hjN hG hA
    have U : g_Ck_firstRefused (f + 1) 48 [some (.ref 26), some (.ref P), some (.ref q), none, some (.int (nI (st K (m_cd K b) j)))] x = k_Ck_firstRefused_48 (g_Ck_firstRefused f) 26 P q (nI (st K (m_cd K b) j)) x := by
      rw [show g_Ck_firstRefused (f + 1) 48 [some (.ref 26), some (.ref P), some (.ref q), none, some (.int (nI (st K (m_cd K b) j)))] x = if (bo_Ck 26 && bo_Pr P && bo_Me q) = true then k_Ck_firstRefused_48 (g_Ck_firstRefused f) 26 P q (nI (st K (m_cd K b) j)) x else none from rfl]
      simp (disch := omega) only [nA, nS, nM, nLT, nLF, nTT, nTF, nEF, nET, nBT, nBF, nC, nNG, nNL, jj_b1, jj_b2, js, jn, eq_self, if_true, if_false, ite_true, ite_false, ↓reduceIte, and_self, true_and, and_true, zb0, zb1, bM, bR, bCk, bMa, Bool.false_eq_true, Bool.and_self, Bool.and_true, Bool.true_and, li_0, li_1, li_2, li_3, li_4, li_5, li_6, li_7, li_8, li_16, li_18, li_21, li_25, li_46, li_54, li_58, li_60, li_79, li_87, li_89, li_95, li_96, li_100, li_104, li_108, li_116, li_127, li_128, li_132, li_153, li_158, li_159, li_164, li_167, li_172, li_176, li_177, li_184, li_188, li_190, li_198, li_199, li_200, li_202, li_240, li_255, li_256, li_32767, li_32768, li_65536, bP, bq]
    rw [U]
    by_cases c1 : EN K b j
    · rw [z_p1 c1] at a1
      have hA1 := a3 c1
      have hFC1 := hFC.same hOK.2.2.1 a2 (fun i k _ _ => by omega)
      have hC1 := hC.wc hqP.2 a2
      have h51 := hC1.1.2.2.2.2.2.2
      have h11 := hA1.2
      by_cases c2 : (enT K b j).2.2.2 = 1
      · rw [c2] at h11
        have b1 := st_allows (s := 27) (rt := m_rt K b) (dp := m_dp K b) rfl hP hq hF hOK hFC1 h51 hC1.1.2.2.1 hC1.1.2.2.2.1 hrt hdp hI hpl hA1.1 hGe.1
        by_cases c3 : ALA K b (m_cd K b + st K (m_cd K b) j) (enT K b j)
        · have b1' : f_St_allows 27 P q (nI (st K (m_cd K b) j)) x1 = some (nI 1, x1) := by rw [b1]; exact congrArg (fun v => some (nI v, x1)) (z_p1 c3)
          obtain ⟨x2, d1, d2, d3⟩ := ck_change hP (by omega) hF hOK hFC1 h51 hI hpl hdp hA1.1 hGe.1 c3
          have hFC2 := hFC1.same hOK.2.2.1 d2.ac (fun i k _ _ => by omega)
          have hC2 := hC1.wc hqP.2 d2.ac
          have hG2 : GA K b (trA K b (j + 1)) := GA_nx hF hOK hM hI c3 hGe
          have m1 := ck_may (A := trA K b (j + 1)) hP hq hF hM hFC2.2.2.2.2.1 hC2 hI hG2.1 d3
          by_cases c4 : JM K b (m_cd K b + st K (m_cd K b) j) (st K (m_cd K b) j) (trA K b (j + 1))
          · rw [z_p1 c4] at m1
            have eT : (trA K b (j + 1)).2.2.2 = FL K (m_cd K b + st K (m_cd K b) j) := rfl
            have S3 : Same WC x2 (jj_set x2 26 1 (nI (FL K (m_cd K b + st K (m_cd K b) j)))) := (Same.refl x2).set _ (by omega)
            have hA3 : KAA (jj_set x2 26 1 (nI (FL K (m_cd K b + st K (m_cd K b) j)))) (trA K b (j + 1)) := ⟨((KA.kv d3).same (W := fun i k => i = 26) (Same.set (Same.refl x2) (i := 26) (k := 1) _ rfl) (by omega) (fun i k _ _ => by omega)).ka, by rw [eT, js]⟩
            obtain ⟨v, x', g1, g2, g3⟩ := ih (j + 1) f (jj_set x2 26 1 (nI (FL K (m_cd K b + st K (m_cd K b) j)))) (by omega) (by omega) (fun i hi => by
              by_cases e : i = j
              · rw [e]; exact ⟨c1, c2, c3, c4⟩
              · exact hp i (by omega)) (hFC2.same hOK.2.2.1 S3 (fun i k _ _ => by omega)) (hC2.wc hqP.2 S3) hA3
            refine ⟨v, x', ?_, g2, ((a2.trans d2.ac).trans S3).trans g3⟩
            rw [st_succ] at g1
            have t1 := zt_len _ hb
            have t2 := zt_isReturn _ hb hI.1
            by_cases c5 : K (m_cd K b + st K (m_cd K b) j) = 167
            · have eF : FL K (m_cd K b + st K (m_cd K b) j) = 0 := by unfold FL; rw [if_pos (Or.inl c5)]
              rw [eF] at g1
              have e0' : f_Pr_code P q (nI (st K (m_cd K b) j)) x = some (nI 167, x) := by rw [e0, c5]
              rw [c5, show z_len 167 = 3 from rfl] at t1 g1
              simp (disch := omega) only [nA, nS, nM, nLT, nLF, nTT, nTF, nEF, nET, nBT, nBF, nC, nNG, nNL, jj_b1, jj_b2, js, jn, eq_self, if_true, if_false, ite_true, ite_false, ↓reduceIte, and_self, true_and, and_true, zb0, zb1, bM, bR, bCk, bMa, Bool.false_eq_true, Bool.and_self, Bool.and_true, Bool.true_and, li_0, li_1, li_2, li_3, li_4, li_5, li_6, li_7, li_8, li_16, li_18, li_21, li_25, li_46, li_54, li_58, li_60, li_79, li_87, li_89, li_95, li_96, li_100, li_104, li_108, li_116, li_127, li_128, li_132, li_153, li_158, li_159, li_164, li_167, li_172, li_176, li_177, li_184, li_188, li_190, li_198, li_199, li_200, li_202, li_240, li_255, li_256, li_32767, li_32768, li_65536, k_Ck_firstRefused_48, h6, e0', a1, h11, b1', d1, m1, k_Ck_firstRefused_141, k_Ck_firstRefused_142, t1, g1]
            · by_cases c6 : z_ret (K (m_cd K b + st K (m_cd K b) j)) = true
              · have eF : FL K (m_cd K b + st K (m_cd K b) j) = 0 := by unfold FL; rw [if_pos (Or.inr c6)]
                rw [eF] at g1
                rcases Nat.lt_or_ge 1 (z_len (K (m_cd K b + st K (m_cd K b) j))) with zz | zz
                · simp (disch := omega) only [nA, nS, nM, nLT, nLF, nTT, nTF, nEF, nET, nBT, nBF, nC, nNG, nNL, jj_b1, jj_b2, js, jn, eq_self, if_true, if_false, ite_true, ite_false, ↓reduceIte, and_self, true_and, and_true, zb0, zb1, bM, bR, bCk, bMa, Bool.false_eq_true, Bool.and_self, Bool.and_true, Bool.true_and, li_0, li_1, li_2, li_3, li_4, li_5, li_6, li_7, li_8, li_16, li_18, li_21, li_25, li_46, li_54, li_58, li_60, li_79, li_87, li_89, li_95, li_96, li_100, li_104, li_108, li_116, li_127, li_128, li_132, li_153, li_158, li_159, li_164, li_167, li_172, li_176, li_177, li_184, li_188, li_190, li_198, li_199, li_200, li_202, li_240, li_255, li_256, li_32767, li_32768, li_65536, k_Ck_firstRefused_48, h6, e0, a1, h11, b1', d1, m1, t2, c6, z_b, k_Ck_firstRefused_141, k_Ck_firstRefused_142, t1, g1]
                · rw [show z_len (K (m_cd K b + st K (m_cd K b) j)) = 1 by omega] at t1 g1
                  simp (disch := omega) only [nA, nS, nM, nLT, nLF, nTT, nTF, nEF, nET, nBT, nBF, nC, nNG, nNL, jj_b1, jj_b2, js, jn, eq_self, if_true, if_false, ite_true, ite_false, ↓reduceIte, and_self, true_and, and_true, zb0, zb1, bM, bR, bCk, bMa, Bool.false_eq_true, Bool.and_self, Bool.and_true, Bool.true_and, li_0, li_1, li_2, li_3, li_4, li_5, li_6, li_7, li_8, li_16, li_18, li_21, li_25, li_46, li_54, li_58, li_60, li_79, li_87, li_89, li_95, li_96, li_100, li_104, li_108, li_116, li_127, li_128, li_132, li_153, li_158, li_159, li_164, li_167, li_172, li_176, li_177, li_184, li_188, li_190, li_198, li_199, li_200, li_202, li_240, li_255, li_256, li_32767, li_32768, li_65536, k_Ck_firstRefused_48, h6, e0, a1, h11, b1', d1, m1, t2, c6, z_b, k_Ck_firstRefused_141, k_Ck_firstRefused_142, t1, g1]
              · have eF : FL K (m_cd K b + st K (m_cd K b) j) = 1 := by unfold FL; rw [if_neg (by simp only [c5, c6]; simp)]
                rw [eF] at g1
                rcases Nat.lt_or_ge 1 (z_len (K (m_cd K b + st K (m_cd K b) j))) with zz | zz
                · simp (disch := omega) only [nA, nS, nM, nLT, nLF, nTT, nTF, nEF, nET, nBT, nBF, nC, nNG, nNL, jj_b1, jj_b2, js, jn, eq_self, if_true, if_false, ite_true, ite_false, ↓reduceIte, and_self, true_and, and_true, zb0, zb1, bM, bR, bCk, bMa, Bool.false_eq_true, Bool.and_self, Bool.and_true, Bool.true_and, li_0, li_1, li_2, li_3, li_4, li_5, li_6, li_7, li_8, li_16, li_18, li_21, li_25, li_46, li_54, li_58, li_60, li_79, li_87, li_89, li_95, li_96, li_100, li_104, li_108, li_116, li_127, li_128, li_132, li_153, li_158, li_159, li_164, li_167, li_172, li_176, li_177, li_184, li_188, li_190, li_198, li_199, li_200, li_202, li_240, li_255, li_256, li_32767, li_32768, li_65536, k_Ck_firstRefused_48, h6, e0, a1, h11, b1', d1, m1, t2, c6, z_b, k_Ck_firstRefused_141, k_Ck_firstRefused_142, t1, g1]
                · rw [show z_len (K (m_cd K b + st K (m_cd K b) j)) = 1 by omega] at t1 g1
                  simp (disch := omega) only [nA, nS, nM, nLT, nLF, nTT, nTF, nEF, nET, nBT, nBF, nC, nNG, nNL, jj_b1, jj_b2, js, jn, eq_self, if_true, if_false, ite_true, ite_false, ↓reduceIte, and_self, true_and, and_true, zb0, zb1, bM, bR, bCk, bMa, Bool.false_eq_true, Bool.and_self, Bool.and_true, Bool.true_and, li_0, li_1, li_2, li_3, li_4, li_5, li_6, li_7, li_8, li_16, li_18, li_21, li_25, li_46, li_54, li_58, li_60, li_79, li_87, li_89, li_95, li_96, li_100, li_104, li_108, li_116, li_127, li_128, li_132, li_153, li_158, li_159, li_164, li_167, li_172, li_176, li_177, li_184, li_188, li_190, li_198, li_199, li_200, li_202, li_240, li_255, li_256, li_32767, li_32768, li_65536, k_Ck_firstRefused_48, h6, e0, a1, h11, b1', d1, m1, t2, c6, z_b, k_Ck_firstRefused_141, k_Ck_firstRefused_142, t1, g1]
          · rw [z_p0 c4] at m1
            refine ⟨_, x2, ?_, Or.inl ⟨j, hjN, hp, fun w => c4 w.2.2.2, rfl⟩, a2.trans d2.ac⟩
            simp (disch := omega) only [nA, nS, nM, nLT, nLF, nTT, nTF, nEF, nET, nBT, nBF, nC, nNG, nNL, jj_b1, jj_b2, js, jn, eq_self, if_true, if_false, ite_true, ite_false, ↓reduceIte, and_self, true_and, and_true, zb0, zb1, bM, bR, bCk, bMa, Bool.false_eq_true, Bool.and_self, Bool.and_true, Bool.true_and, li_0, li_1, li_2, li_3, li_4, li_5, li_6, li_7, li_8, li_16, li_18, li_21, li_25, li_46, li_54, li_58, li_60, li_79, li_87, li_89, li_95, li_96, li_100, li_104, li_108, li_116, li_127, li_128, li_132, li_153, li_158, li_159, li_164, li_167, li_172, li_176, li_177, li_184, li_188, li_190, li_198, li_199, li_200, li_202, li_240, li_255, li_256, li_32767, li_32768, li_65536, k_Ck_firstRefused_48, h6, e0, a1, h11, b1', d1, m1]
        · have b1' : f_St_allows 27 P q (nI (st K (m_cd K b) j)) x1 = some (nI 0, x1) := by rw [b1]; exact congrArg (fun v => some (nI v, x1)) (z_p0 c3)
          refine ⟨_, x1, ?_, Or.inl ⟨j, hjN, hp, fun w => c3 w.2.2.1, rfl⟩, a2⟩
          simp (disch := omega) only [nA, nS, nM, nLT, nLF, nTT, nTF, nEF, nET, nBT, nBF, nC, nNG, nNL, jj_b1, jj_b2, js, jn, eq_self, if_true, if_false, ite_true, ite_false, ↓reduceIte, and_self, true_and, and_true, zb0, zb1, bM, bR, bCk, bMa, Bool.false_eq_true, Bool.and_self, Bool.and_true, Bool.true_and, li_0, li_1, li_2, li_3, li_4, li_5, li_6, li_7, li_8, li_16, li_18, li_21, li_25, li_46, li_54, li_58, li_60, li_79, li_87, li_89, li_95, li_96, li_100, li_104, li_108, li_116, li_127, li_128, li_132, li_153, li_158, li_159, li_164, li_167, li_172, li_176, li_177, li_184, li_188, li_190, li_198, li_199, li_200, li_202, li_240, li_255, li_256, li_32767, li_32768, li_65536, k_Ck_firstRefused_48, h6, e0, a1, h11, b1']
      · rw [show (enT K b j).2.2.2 = 0 by have := hGe.2.2; omega] at h11
        refine ⟨_, x1, ?_, Or.inl ⟨j, hjN, hp, fun w => c2 w.2.1, rfl⟩, a2⟩
        simp (disch := omega) only [nA, nS, nM, nLT, nLF, nTT, nTF, nEF, nET, nBT, nBF, nC, nNG, nNL, jj_b1, jj_b2, js, jn, eq_self, if_true, if_false, ite_true, ite_false, ↓reduceIte, and_self, true_and, and_true, zb0, zb1, bM, bR, bCk, bMa, Bool.false_eq_true, Bool.and_self, Bool.and_true, Bool.true_and, li_0, li_1, li_2, li_3, li_4, li_5, li_6, li_7, li_8, li_16, li_18, li_21, li_25, li_46, li_54, li_58, li_60, li_79, li_87, li_89, li_95, li_96, li_100, li_104, li_108, li_116, li_127, li_128, li_132, li_153, li_158, li_159, li_164, li_167, li_172, li_176, li_177, li_184, li_188, li_190, li_198, li_199, li_200, li_202, li_240, li_255, li_256, li_32767, li_32768, li_65536, k_Ck_firstRefused_48, h6, e0, a1, h11]
    · rw [z_p0 c1] at a1
      refine ⟨_, x1, ?_, Or.inl ⟨j, hjN, hp, fun w => c1 w.1, rfl⟩, a2⟩
      simp (disch := omega) only [nA, nS, nM, nLT, nLF, nTT, nTF, nEF, nET, nBT, nBF, nC, nNG, nNL, jj_b1, jj_b2, js, jn, eq_self, if_true, if_false, ite_true, ite_false, ↓reduceIte, and_self, true_and, and_true, zb0, zb1, bM, bR, bCk, bMa, Bool.false_eq_true, Bool.and_self, Bool.and_true, Bool.true_and, li_0, li_1, li_2, li_3, li_4, li_5, li_6, li_7, li_8, li_16, li_18, li_21, li_25, li_46, li_54, li_58, li_60, li_79, li_87, li_89, li_95, li_96, li_100, li_104, li_108, li_116, li_127, li_128, li_132, li_153, li_158, li_159, li_164, li_167, li_172, li_176, li_177, li_184, li_188, li_190, li_198, li_199, li_200, li_202, li_240, li_255, li_256, li_32767, li_32768, li_65536, k_Ck_firstRefused_48, h6, e0, a1]
theorem ck_9 (hP : o_Pr P) (hq : o_Me q) (hqP : P + 3 ≤ q ∧ q < 23) (hF : By K n) (hOK : FileOK K n) (hM : MtOK K n (K 1) (mcn K) b N) : ∀ (r k f : Nat) (x : jj_Mem) (pk : Nat → Nat) (pv sv : Nat → Int32), k + r = K b → r + 100 < f → FileC P K n x → MtC K b q x → KV 27 x pk pv (fun _ => 0) sv 0 → (∀ j, pk j = if j < k then K (b + 1 + j) else 0) → ∃ v x', g_Ck_firstRefused f 9 [some (.ref 26), some (.ref P), some (.ref q), some (.int (nI k)), none] x = some (v, x') ∧ RES K b N v ∧ Same WC x x' := by
  have h240 := hF.1
  have bP : bo_Pr P = true := hP
  have bq : bo_Me q = true := hq
  have hP2 := oc_Pr hP
  have h3 := hM.1.1
  have h9 := hM.1.2.2.2.2.2.2.2.2
  have ecd := m_cd.eq_1 K b
  have hN : N ≤ 60 := by have := hM.2.1.1; have := hM.1.2.2.2.2.2.2.2.1; omega
  intro r
  induction r with
  | zero =>
    intro k f x pk pv sv hk hf hFC hC hV hpk
    obtain ⟨f, rfl⟩ : ∃ g, f = g + 1 := ⟨f - 1, by omega⟩
    have h0 := hC.1.1
    have S1 : Same WC x (jj_set x 26 1 (nI 1)) := (Same.refl x).set _ (by omega)
    have ep : pk = ip K b := by
      funext j
      rw [hpk j]
      unfold ip
      rw [show k = K b by omega]
    have hA : KAA (jj_set x 26 1 (nI 1)) (trA K b 0) := ⟨by
      rw [ep] at hV
      exact (hV.same (W := fun i k => i = 26) (Same.set (Same.refl x) (i := 26) (k := 1) _ rfl) (by omega) (fun i k _ _ => by omega)).ka, js _ _ _ _⟩
    obtain ⟨v, x', g1, g2, g3⟩ := ck_48 hP hq hqP hF hOK hM N 0 f (jj_set x 26 1 (nI 1)) (by omega) (by omega) (fun i hi => by omega) (hFC.same hOK.2.2.1 S1 (fun i k _ _ => by omega)) (hC.wc hqP.2 S1) hA
    refine ⟨v, x', ?_, g2, S1.trans g3⟩
    rw [show st K (m_cd K b) 0 = 0 from rfl] at g1
    rw [show g_Ck_firstRefused (f + 1) 9 [some (.ref 26), some (.ref P), some (.ref q), some (.int (nI k)), none] x = if (bo_Ck 26 && bo_Pr P && bo_Me q) = true then k_Ck_firstRefused_9 (g_Ck_firstRefused f) 26 P q (nI k) x else none from rfl]
    simp (disch := omega) only [nA, nS, nM, nLT, nLF, nTT, nTF, nEF, nET, nBT, nBF, nC, nNG, nNL, jj_b1, jj_b2, js, jn, eq_self, if_true, if_false, ite_true, ite_false, ↓reduceIte, and_self, true_and, and_true, zb0, zb1, bM, bR, bCk, bMa, Bool.false_eq_true, Bool.and_self, Bool.and_true, Bool.true_and, li_0, li_1, li_2, li_3, li_4, li_5, li_6, li_7, li_8, li_16, li_18, li_21, li_25, li_46, li_54, li_58, li_60, li_79, li_87, li_89, li_95, li_96, li_100, li_104, li_108, li_116, li_127, li_128, li_132, li_153, li_158, li_159, li_164, li_167, li_172, li_176, li_177, li_184, li_188, li_190, li_198, li_199, li_200, li_202, li_240, li_255, li_256, li_32767, li_32768, li_65536, k_Ck_firstRefused_9, bP, bq, h0, g1]
  | succ r ih =>
    intro k f x pk pv sv hk hf hFC hC hV hpk
    obtain ⟨f, rfl⟩ : ∃ g, f = g + 1 := ⟨f - 1, by omega⟩
    have h0 := hC.1.1
    have h1 := hC.1.2.1
    have e2 := hFC.2.2.2.2.1 (b + 1 + k) (by omega)
    have e3 : f_Pr_parameterType P q (nI k) x = some (nI (K (b + 1 + k)), x) := by
      unfold f_Pr_parameterType
      simp (disch := omega) only [nA, nS, nM, nLT, nLF, nTT, nTF, nEF, nET, nBT, nBF, nC, nNG, nNL, jj_b1, jj_b2, js, jn, eq_self, if_true, if_false, ite_true, ite_false, ↓reduceIte, and_self, true_and, and_true, zb0, zb1, bM, bR, bCk, bMa, Bool.false_eq_true, Bool.and_self, Bool.and_true, Bool.true_and, li_0, li_1, li_2, li_3, li_4, li_5, li_6, li_7, li_8, li_16, li_18, li_21, li_25, li_46, li_54, li_58, li_60, li_79, li_87, li_89, li_95, li_96, li_100, li_104, li_108, li_116, li_127, li_128, li_132, li_153, li_158, li_159, li_164, li_167, li_172, li_176, li_177, li_184, li_188, li_190, li_198, li_199, li_200, li_202, li_240, li_255, li_256, li_32767, li_32768, li_65536, h1, e2]
    obtain ⟨z', c1, c2, c3⟩ := sp_setPlace hV (u := k) (by omega) (K (b + 1 + k)) (nI 0)
    obtain ⟨v, x', g1, g2, g3⟩ := ih (k + 1) f z' _ _ _ (by omega) (by omega) (hFC.same hOK.2.2.1 c2.ac (fun i k _ _ => by omega)) (hC.wc hqP.2 c2.ac) c3 (fun j => by
      by_cases w : j = k
      · rw [ud_e w, w, if_pos (by omega)]
      · rw [ud_n w, hpk j]
        by_cases w2 : j < k
        · rw [if_pos w2, if_pos (by omega)]
        · rw [if_neg w2, if_neg (by omega)])
    refine ⟨v, x', ?_, g2, c2.ac.trans g3⟩
    rw [show g_Ck_firstRefused (f + 1) 9 [some (.ref 26), some (.ref P), some (.ref q), some (.int (nI k)), none] x = if (bo_Ck 26 && bo_Pr P && bo_Me q) = true then k_Ck_firstRefused_9 (g_Ck_firstRefused f) 26 P q (nI k) x else none from rfl]
    simp (disch := omega) only [nA, nS, nM, nLT, nLF, nTT, nTF, nEF, nET, nBT, nBF, nC, nNG, nNL, jj_b1, jj_b2, js, jn, eq_self, if_true, if_false, ite_true, ite_false, ↓reduceIte, and_self, true_and, and_true, zb0, zb1, bM, bR, bCk, bMa, Bool.false_eq_true, Bool.and_self, Bool.and_true, Bool.true_and, li_0, li_1, li_2, li_3, li_4, li_5, li_6, li_7, li_8, li_16, li_18, li_21, li_25, li_46, li_54, li_58, li_60, li_79, li_87, li_89, li_95, li_96, li_100, li_104, li_108, li_116, li_127, li_128, li_132, li_153, li_158, li_159, li_164, li_167, li_172, li_176, li_177, li_184, li_188, li_190, li_198, li_199, li_200, li_202, li_240, li_255, li_256, li_32767, li_32768, li_65536, k_Ck_firstRefused_9, bP, bq, h0, e3, c1, g1]
theorem ck_first (hP : o_Pr P) (hq : o_Me q) (hqP : P + 3 ≤ q ∧ q < 23) (hF : By K n) (hOK : FileOK K n) (hM : MtOK K n (K 1) (mcn K) b N) (hFC : FileC P K n x) (hC : MtC K b q x) : ∃ v x', f_Ck_firstRefused 26 P q x = some (v, x') ∧ RES K b N v ∧ Same WC x x' := by
  have h3 := hM.1.1
  have hP2 := oc_Pr hP
  obtain ⟨z', c1, c2, c3⟩ := sp_makeEmpty (s := 27) (x := x) rfl (fun _ => 0) (fun _ => 0)
  obtain ⟨v, x', g1, g2, g3⟩ := ck_9 hP hq hqP hF hOK hM (K b) 0 1000 z' _ _ _ (by omega) (by omega) (hFC.same hOK.2.2.1 c2.ac (fun i k _ _ => by omega)) (hC.wc hqP.2 c2.ac) c3 (fun j => by rw [if_neg (by omega)])
  refine ⟨v, x', ?_, g2, c2.ac.trans g3⟩
  unfold f_Ck_firstRefused k_Ck_firstRefused_0
  simp (disch := omega) only [nA, nS, nM, nLT, nLF, nTT, nTF, nEF, nET, nBT, nBF, nC, nNG, nNL, jj_b1, jj_b2, js, jn, eq_self, if_true, if_false, ite_true, ite_false, ↓reduceIte, and_self, true_and, and_true, zb0, zb1, bM, bR, bCk, bMa, Bool.false_eq_true, Bool.and_self, Bool.and_true, Bool.true_and, li_0, li_1, li_2, li_3, li_4, li_5, li_6, li_7, li_8, li_16, li_18, li_21, li_25, li_46, li_54, li_58, li_60, li_79, li_87, li_89, li_95, li_96, li_100, li_104, li_108, li_116, li_127, li_128, li_132, li_153, li_158, li_159, li_164, li_167, li_172, li_176, li_177, li_184, li_188, li_190, li_198, li_199, li_200, li_202, li_240, li_255, li_256, li_32767, li_32768, li_65536, c1, g1]
end CKALL
/-! the lack of a method -/
theorem lack0 {x : jj_Mem} (h5 : x 58 5 = nI 0) (b0 : Int32) : f_Mo_lackOfMethod 58 b0 x = some (nI 1, x) := by
  unfold f_Mo_lackOfMethod
  simp (disch := omega) only [nA, nS, nM, nLT, nLF, nTT, nTF, nEF, nET, nBT, nBF, nC, nNG, nNL, jj_b1, jj_b2, js, jn, eq_self, if_true, if_false, ite_true, ite_false, ↓reduceIte, and_self, true_and, and_true, zb0, zb1, bM, bR, bCk, bMa, Bool.false_eq_true, Bool.and_self, Bool.and_true, Bool.true_and, li_0, li_1, li_2, li_3, li_4, li_5, li_6, li_7, li_8, li_16, li_18, li_21, li_25, li_46, li_54, li_58, li_60, li_79, li_87, li_89, li_95, li_96, li_100, li_104, li_108, li_116, li_127, li_128, li_132, li_153, li_158, li_159, li_164, li_167, li_172, li_176, li_177, li_184, li_188, li_190, li_198, li_199, li_200, li_202, li_240, li_255, li_256, li_32767, li_32768, li_65536, h5]
theorem lack1 {K : Nat → Nat} {n : Nat} {x : jj_Mem} (hF : By K n) (hOK : FileOK K n) (h5 : x 58 5 = nI 1) (hK : ∀ k, k < n → x 60 k = nI (K k)) {b0 : Int32} (h : ¬ (0 ≤ b0 ∧ b0 ≤ nI (mcn K) - 1)) : f_Mo_lackOfMethod 58 b0 x = some (nI 2, x) := by
  have e := mo_count hF hOK h5 hK
  unfold f_Mo_lackOfMethod
  simp only [h5, e, jj_b1, jj_b2, w_within, if_neg h]
  simp (disch := omega) only [nA, nS, nM, nLT, nLF, nTT, nTF, nEF, nET, nBT, nBF, nC, nNG, nNL, jj_b1, jj_b2, js, jn, eq_self, if_true, if_false, ite_true, ite_false, ↓reduceIte, and_self, true_and, and_true, zb0, zb1, bM, bR, bCk, bMa, Bool.false_eq_true, Bool.and_self, Bool.and_true, Bool.true_and, li_0, li_1, li_2, li_3, li_4, li_5, li_6, li_7, li_8, li_16, li_18, li_21, li_25, li_46, li_54, li_58, li_60, li_79, li_87, li_89, li_95, li_96, li_100, li_104, li_108, li_116, li_127, li_128, li_132, li_153, li_158, li_159, li_164, li_167, li_172, li_176, li_177, li_184, li_188, li_190, li_198, li_199, li_200, li_202, li_240, li_255, li_256, li_32767, li_32768, li_65536]
theorem lack2 {K : Nat → Nat} {n : Nat} {x : jj_Mem} (hF : By K n) (hOK : FileOK K n) (h5 : x 58 5 = nI 1) (hK : ∀ k, k < n → x 60 k = nI (K k)) {b0 : Int32} (h : 0 ≤ b0 ∧ b0 ≤ nI (mcn K) - 1) : f_Mo_lackOfMethod 58 b0 x = some (nI 0, x) := by
  have e := mo_count hF hOK h5 hK
  unfold f_Mo_lackOfMethod
  simp only [h5, e, jj_b1, jj_b2, w_within, if_pos h]
  simp (disch := omega) only [nA, nS, nM, nLT, nLF, nTT, nTF, nEF, nET, nBT, nBF, nC, nNG, nNL, jj_b1, jj_b2, js, jn, eq_self, if_true, if_false, ite_true, ite_false, ↓reduceIte, and_self, true_and, and_true, zb0, zb1, bM, bR, bCk, bMa, Bool.false_eq_true, Bool.and_self, Bool.and_true, Bool.true_and, li_0, li_1, li_2, li_3, li_4, li_5, li_6, li_7, li_8, li_16, li_18, li_21, li_25, li_46, li_54, li_58, li_60, li_79, li_87, li_89, li_95, li_96, li_100, li_104, li_108, li_116, li_127, li_128, li_132, li_153, li_158, li_159, li_164, li_167, li_172, li_176, li_177, li_184, li_188, li_190, li_198, li_199, li_200, li_202, li_240, li_255, li_256, li_32767, li_32768, li_65536]
theorem sim_check {x : jj_Mem} (h : Rel x) (b0 : Int32) : S_check Rel x b0 := by
  have hR1 := h.1
  have hq := h.2
  obtain ⟨P, S, h1, h2, h3, h4, h5, h6⟩ := h.2
  have oP := (oPr h1).1
  have bP : bo_Pr P = true := oP
  have hPS : P < 100 ∧ S < 100 := by omega
  rcases h4 with ⟨a, b⟩ | ⟨a, K, n, b, c, d, e, f⟩
  · refine ⟨1, 0, 0, x, jj_set x 58 0 1, Or.inr (Or.inl ⟨rfl, rfl, ?_, ?_⟩), ?_, js _ _ _ _, fun q => absurd q (by decide), R1_code hR1, Fr1_code Fr1_RQ hq⟩
    · rw [h2, nC (by omega)]; exact oP
    · rw [h2, nC (by omega)]; exact b
    · have l := lack0 a b0
      unfold f_Mo_check k_Mo_check_0
      simp (disch := omega) only [nA, nS, nM, nLT, nLF, nTT, nTF, nEF, nET, nBT, nBF, nC, nNG, nNL, jj_b1, jj_b2, js, jn, eq_self, if_true, if_false, ite_true, ite_false, ↓reduceIte, and_self, true_and, and_true, zb0, zb1, bM, bR, bCk, bMa, Bool.false_eq_true, Bool.and_self, Bool.and_true, Bool.true_and, li_0, li_1, li_2, li_3, li_4, li_5, li_6, li_7, li_8, li_16, li_18, li_21, li_25, li_46, li_54, li_58, li_60, li_79, li_87, li_89, li_95, li_96, li_100, li_104, li_108, li_116, li_127, li_128, li_132, li_153, li_158, li_159, li_164, li_167, li_172, li_176, li_177, li_184, li_188, li_190, li_198, li_199, li_200, li_202, li_240, li_255, li_256, li_32767, li_32768, li_65536, l]
  · have c3 := c.2.2.1
    have c2 := c.2.1
    have d4 := d.2.2.2.1
    rcases ix_cases (tn := mcn K) (by omega) b0 with ⟨g1, g2⟩ | ⟨m, m1, m2, m3, m4, m5⟩
    · refine ⟨2, 0, 0, x, jj_set x 58 0 2, Or.inr (Or.inr ⟨rfl, rfl, ?_, ?_, ?_⟩), ?_, js _ _ _ _, fun q => absurd q (by decide), R1_code hR1, Fr1_code Fr1_RQ hq⟩
      · rw [h2, nC (by omega)]; exact oP
      · rw [h2, nC (by omega), d4]; simp (disch := omega) only [nA, nS, nM, nLT, nLF, nTT, nTF, nEF, nET, nBT, nBF, nC, nNG, nNL, jj_b1, jj_b2, js, jn, eq_self, if_true, if_false, ite_true, ite_false, ↓reduceIte, and_self, true_and, and_true, zb0, zb1, bM, bR, bCk, bMa, Bool.false_eq_true, Bool.and_self, Bool.and_true, Bool.true_and, li_0, li_1, li_2, li_3, li_4, li_5, li_6, li_7, li_8, li_16, li_18, li_21, li_25, li_46, li_54, li_58, li_60, li_79, li_87, li_89, li_95, li_96, li_100, li_104, li_108, li_116, li_127, li_128, li_132, li_153, li_158, li_159, li_164, li_167, li_172, li_176, li_177, li_184, li_188, li_190, li_198, li_199, li_200, li_202, li_240, li_255, li_256, li_32767, li_32768, li_65536]; exact not_false
      · rw [h2, nC (by omega), d4]; exact g1
      · have l := lack1 b c a f g2
        unfold f_Mo_check k_Mo_check_0
        simp (disch := omega) only [nA, nS, nM, nLT, nLF, nTT, nTF, nEF, nET, nBT, nBF, nC, nNG, nNL, jj_b1, jj_b2, js, jn, eq_self, if_true, if_false, ite_true, ite_false, ↓reduceIte, and_self, true_and, and_true, zb0, zb1, bM, bR, bCk, bMa, Bool.false_eq_true, Bool.and_self, Bool.and_true, Bool.true_and, li_0, li_1, li_2, li_3, li_4, li_5, li_6, li_7, li_8, li_16, li_18, li_21, li_25, li_46, li_54, li_58, li_60, li_79, li_87, li_89, li_95, li_96, li_100, li_104, li_108, li_116, li_127, li_128, li_132, li_153, li_158, li_159, li_164, li_167, li_172, li_176, li_177, li_184, li_188, li_190, li_198, li_199, li_200, li_202, li_240, li_255, li_256, li_32767, li_32768, li_65536, l]
    · obtain ⟨N, hM⟩ := c.2.2.2.2.1 m m1
      have hMC := d.2.2.2.2.2 m m1
      have oQ : o_Me (P + 3 + 2 * m) := bq_of oP (by omega) rfl
      obtain ⟨v, x1, v1, v2, v3⟩ := ck_first oP oQ (by have := oc_Pr oP; omega) b c hM d hMC
      have f1 : KP K n (jj_set x1 58 0 (nI 0)) := fun k hk => by rw [jn (by omega), v3.get _ _ (by omega)]; exact f k hk
      obtain ⟨y1, w1, w2, w3⟩ := mo_open b c f1 m1
      obtain ⟨v', y', u1, u2, u3⟩ := mo_check_g b c hM N 0 1000 y1 (by omega) (by have := hM.2.1.1; have := hM.1.2.2.2.2.2.2.2.1; omega) (fun i hi => by omega) (f1.same w2 (fun k => by omega)) w3
      have D : Same WK x y' := ((v3.mono (fun i k z => by omega)).set (nI 0) (by omega)).trans ((w2.mono (fun i k z => by omega)).trans (u3.mono (fun i k z => by omega)))
      have D2 : Same (fun i k => 2 ≤ i ∧ ¬ (i = 58 ∧ k = 1) ∧ i ≠ 59) x y' := ((v3.mono (fun i k z => by omega)).set (nI 0) (by omega)).trans ((w2.mono (fun i k z => by omega)).trans (u3.mono (fun i k z => by omega)))
      refine ⟨nI 0, v, v', x1, y', Or.inl ⟨rfl, ?_⟩, ?_, ?_, fun _ => v2.uni u2, R1.same hR1 D2 (by omega) (fun k => by omega) (by omega) (fun k => by omega), hq.same D⟩
      · have mm3 : (nI m < nI 0) = False := nTF (by omega) (by omega)
        rw [m2]
        unfold f_VC_check
        simp (disch := omega) only [nA, nS, nM, nLT, nLF, nTT, nTF, nEF, nET, nBT, nBF, nC, nNG, nNL, jj_b1, jj_b2, js, jn, eq_self, if_true, if_false, ite_true, ite_false, ↓reduceIte, and_self, true_and, and_true, zb0, zb1, bM, bR, bCk, bMa, Bool.false_eq_true, Bool.and_self, Bool.and_true, Bool.true_and, li_0, li_1, li_2, li_3, li_4, li_5, li_6, li_7, li_8, li_16, li_18, li_21, li_25, li_46, li_54, li_58, li_60, li_79, li_87, li_89, li_95, li_96, li_100, li_104, li_108, li_116, li_127, li_128, li_132, li_153, li_158, li_159, li_164, li_167, li_172, li_176, li_177, li_184, li_188, li_190, li_198, li_199, li_200, li_202, li_240, li_255, li_256, li_32767, li_32768, li_65536, h2, bP, d4, mm3, v1]
      · have l := lack2 (x := x1) b c (by rw [v3.get _ _ (by omega)]; exact a) (fun k hk => by rw [v3.get _ _ (by omega)]; exact f k hk) m5
        rw [m2] at l ⊢
        rw [show st K (m_cd K (mp K m)) 0 = 0 from rfl] at u1
        unfold f_Mo_check k_Mo_check_0
        simp (disch := omega) only [nA, nS, nM, nLT, nLF, nTT, nTF, nEF, nET, nBT, nBF, nC, nNG, nNL, jj_b1, jj_b2, js, jn, eq_self, if_true, if_false, ite_true, ite_false, ↓reduceIte, and_self, true_and, and_true, zb0, zb1, bM, bR, bCk, bMa, Bool.false_eq_true, Bool.and_self, Bool.and_true, Bool.true_and, li_0, li_1, li_2, li_3, li_4, li_5, li_6, li_7, li_8, li_16, li_18, li_21, li_25, li_46, li_54, li_58, li_60, li_79, li_87, li_89, li_95, li_96, li_100, li_104, li_108, li_116, li_127, li_128, li_132, li_153, li_158, li_159, li_164, li_167, li_172, li_176, li_177, li_184, li_188, li_190, li_198, li_199, li_200, li_202, li_240, li_255, li_256, li_32767, li_32768, li_65536, l, w1, u1]
      · rw [u3.get _ _ (by omega), w2.get _ _ (by omega), js]
