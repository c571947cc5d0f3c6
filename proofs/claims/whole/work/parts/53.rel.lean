/-! PURE: what holds between the object and the reference -/
def R3 (P : Nat) (x : jj_Mem) : Prop := (x 58 5 = nI 0 ∧ x P 4 = nI 0) ∨ (x 58 5 = nI 1 ∧ ∃ K n, By K n ∧ FileOK K n ∧ FileC P K n x ∧ x 58 6 = nI n ∧ ∀ k, k < n → x 60 k = nI (K k))
def RQ (x : jj_Mem) : Prop := ∃ P S, ((P = 2 ∧ S = 13) ∨ (P = 13 ∧ S = 2)) ∧ x 0 2 = nI P ∧ x 0 3 = nI S ∧ R3 P x ∧ x 32 0 = x 58 27 ∧ x 32 1 = x 58 26
def Rel (x : jj_Mem) : Prop := R1 x ∧ RQ x
theorem oPr {P S : Nat} (h : (P = 2 ∧ S = 13) ∨ (P = 13 ∧ S = 2)) : o_Pr P ∧ o_Pr S := by
  rcases h with ⟨rfl, rfl⟩ | ⟨rfl, rfl⟩ <;> exact ⟨rfl, rfl⟩
theorem FileC.same {W : Nat → Nat → Prop} {P n : Nat} {K : Nat → Nat} {x x' : jj_Mem} (h : FileC P K n x) (hK : mcn K ≤ 4) (g : Same W x x') (hW : ∀ i k, P ≤ i → i ≤ P + 10 → ¬ W i k) : FileC P K n x' := by
  obtain ⟨h1, h2, h3, h4, h5, h6⟩ := h
  refine ⟨?_, ?_, ?_, ?_, fun k hk => ?_, fun m hm => (h6 m hm).same g (fun k => hW _ _ (by omega) (by omega)) (fun k => hW _ _ (by omega) (by omega))⟩
  · rw [g.get _ _ (hW _ _ (by omega) (by omega))]; exact h1
  · rw [g.get _ _ (hW _ _ (by omega) (by omega))]; exact h2
  · rw [g.get _ _ (hW _ _ (by omega) (by omega))]; exact h3
  · rw [g.get _ _ (hW _ _ (by omega) (by omega))]; exact h4
  · rw [g.get _ _ (hW _ _ (by omega) (by omega))]; exact h5 k hk
theorem R3.same {W : Nat → Nat → Prop} {P : Nat} {x x' : jj_Mem} (h : R3 P x) (g : Same W x x') (hW : ∀ i k, P ≤ i → i ≤ P + 10 → ¬ W i k) (h5 : ¬ W 58 5) (h6 : ¬ W 58 6) (h60 : ∀ k, ¬ W 60 k) : R3 P x' := by
  rcases h with ⟨a, b⟩ | ⟨a, K, n, b, c, d, e, f⟩
  · exact Or.inl ⟨by rw [g.get _ _ h5]; exact a, by rw [g.get _ _ (hW _ _ (by omega) (by omega))]; exact b⟩
  · exact Or.inr ⟨by rw [g.get _ _ h5]; exact a, K, n, b, c, d.same c.2.2.1 g hW, by rw [g.get _ _ h6]; exact e, fun k hk => by rw [g.get _ _ (h60 k)]; exact f k hk⟩
/-- what may change and leave RQ as it is -/
abbrev WK (i k : Nat) : Prop := (i = 0 ∧ k = 1) ∨ i = 1 ∨ (24 ≤ i ∧ i ≤ 31) ∨ (33 ≤ i ∧ i ≤ 57) ∨ (i = 32 ∧ 2 ≤ k) ∨ (i = 58 ∧ k ≠ 5 ∧ k ≠ 6 ∧ k ≠ 26 ∧ k ≠ 27) ∨ i = 59 ∨ 61 ≤ i
theorem RQ.same {x x' : jj_Mem} (h : RQ x) (g : Same WK x x') : RQ x' := by
  obtain ⟨P, S, h1, h2, h3, h4, h5, h6⟩ := h
  refine ⟨P, S, h1, ?_, ?_, h4.same g (fun i k _ _ => by omega) (by omega) (by omega) (fun k => by omega), ?_, ?_⟩
  · rw [g.get _ _ (by omega)]; exact h2
  · rw [g.get _ _ (by omega)]; exact h3
  · rw [g.get _ _ (by omega), g.get _ _ (by omega)]; exact h5
  · rw [g.get _ _ (by omega), g.get _ _ (by omega)]; exact h6
theorem Fr1_RQ : Fr1 RQ := fun x x' g h => h.same (fun i k n => g i k (fun z => n (by
  rcases z with z | z | z | z
  · exact Or.inl z
  · exact Or.inr (Or.inl z)
  · have := z.2
    omega
  · omega)))
theorem R1.same {W : Nat → Nat → Prop} {x x' : jj_Mem} (h : R1 x) (g : Same W x x') (h0 : ¬ W 0 1) (h1 : ∀ k, ¬ W 1 k) (h58 : ¬ W 58 1) (h59 : ∀ k, ¬ W 59 k) : R1 x' := by
  obtain ⟨tn, a, b, c, d, e⟩ := h
  exact ⟨tn, a, by rw [g.get _ _ h0]; exact b, by rw [g.get _ _ h58]; exact c, fun k hk => by rw [g.get _ _ (h59 k), g.get _ _ (h1 k)]; exact d k hk, fun k hk => by rw [g.get _ _ (h1 k)]; exact e k hk⟩
theorem sim_result {x : jj_Mem} (h : Rel x) : S_result Rel x := by
  have hq := h.2
  obtain ⟨P, S, h1, h2, h3, h4, h5, h6⟩ := h.2
  refine ⟨x 32 0, x, jj_set x 58 0 0, rfl, ?_, R1_code h.1, Fr1_code Fr1_RQ hq⟩
  unfold f_Mo_result
  rw [jn (by omega), h5]
theorem sim_steps {x : jj_Mem} (h : Rel x) : S_steps Rel x := by
  have hq := h.2
  obtain ⟨P, S, h1, h2, h3, h4, h5, h6⟩ := h.2
  refine ⟨x 32 1, x, jj_set x 58 0 0, rfl, ?_, R1_code h.1, Fr1_code Fr1_RQ hq⟩
  unfold f_Mo_steps
  rw [jn (by omega), h6]
theorem mo_count {K : Nat → Nat} {n : Nat} {y : jj_Mem} (hF : By K n) (hK : FileOK K n) (h5 : y 58 5 = nI 1) (h60 : ∀ k, k < n → y 60 k = nI (K k)) : f_Mo_methodCount 58 y = some (nI (mcn K), y) := by
  have a := hF.1
  obtain ⟨b1, b2, b3, b4, b5, b6⟩ := hK
  have e1 := h60 1 (by omega)
  have e2 := h60 (2 + 4 * K 1) (by omega)
  unfold f_Mo_methodCount
  simp (disch := omega) only [nA, nS, nM, nLT, nLF, nTT, nTF, nEF, nET, nBT, nBF, nC, nNG, nNL, jj_b1, jj_b2, js, jn, eq_self, if_true, if_false, ite_true, ite_false, ↓reduceIte, and_self, true_and, and_true, zb0, zb1, bM, bR, bCk, bMa, Bool.false_eq_true, Bool.and_self, Bool.and_true, Bool.true_and, li_0, li_1, li_2, li_3, li_4, li_5, li_6, li_7, li_8, li_16, li_18, li_21, li_25, li_46, li_54, li_58, li_60, li_79, li_87, li_89, li_95, li_96, li_100, li_104, li_108, li_116, li_127, li_128, li_132, li_153, li_158, li_159, li_164, li_167, li_172, li_176, li_177, li_184, li_188, li_190, li_198, li_199, li_200, li_202, li_240, li_255, li_256, li_32767, li_32768, li_65536, h5, e1, e2]
  rfl
theorem sim_methods {x : jj_Mem} (h : Rel x) : S_methods Rel x := by
  have hq := h.2
  obtain ⟨P, S, h1, h2, h3, h4, h5, h6⟩ := h.2
  have bP : bo_Pr P = true := (oPr h1).1
  have hP : P < 100 := by omega
  refine ⟨x P 4, x, jj_set x 58 0 0, ?_, ?_, R1_code h.1, Fr1_code Fr1_RQ hq⟩
  · unfold f_VC_methods
    simp (disch := omega) only [nA, nS, nM, nLT, nLF, nTT, nTF, nEF, nET, nBT, nBF, nC, nNG, nNL, jj_b1, jj_b2, js, jn, eq_self, if_true, if_false, ite_true, ite_false, ↓reduceIte, and_self, true_and, and_true, zb0, zb1, bM, bR, bCk, bMa, Bool.false_eq_true, Bool.and_self, Bool.and_true, Bool.true_and, li_0, li_1, li_2, li_3, li_4, li_5, li_6, li_7, li_8, li_16, li_18, li_21, li_25, li_46, li_54, li_58, li_60, li_79, li_87, li_89, li_95, li_96, li_100, li_104, li_108, li_116, li_127, li_128, li_132, li_153, li_158, li_159, li_164, li_167, li_172, li_176, li_177, li_184, li_188, li_190, li_198, li_199, li_200, li_202, li_240, li_255, li_256, li_32767, li_32768, li_65536, h2, bP]
  · unfold f_Mo_methods
    rcases h4 with ⟨a, b⟩ | ⟨a, K, n, b, c, d, e, f⟩
    · have g : f_Mo_methodCount 58 (jj_set x 58 0 (nI 0)) = some (nI 0, jj_set x 58 0 (nI 0)) := by
        unfold f_Mo_methodCount
        simp (disch := omega) only [nA, nS, nM, nLT, nLF, nTT, nTF, nEF, nET, nBT, nBF, nC, nNG, nNL, jj_b1, jj_b2, js, jn, eq_self, if_true, if_false, ite_true, ite_false, ↓reduceIte, and_self, true_and, and_true, zb0, zb1, bM, bR, bCk, bMa, Bool.false_eq_true, Bool.and_self, Bool.and_true, Bool.true_and, li_0, li_1, li_2, li_3, li_4, li_5, li_6, li_7, li_8, li_16, li_18, li_21, li_25, li_46, li_54, li_58, li_60, li_79, li_87, li_89, li_95, li_96, li_100, li_104, li_108, li_116, li_127, li_128, li_132, li_153, li_158, li_159, li_164, li_167, li_172, li_176, li_177, li_184, li_188, li_190, li_198, li_199, li_200, li_202, li_240, li_255, li_256, li_32767, li_32768, li_65536, a]
      simp (disch := omega) only [nA, nS, nM, nLT, nLF, nTT, nTF, nEF, nET, nBT, nBF, nC, nNG, nNL, jj_b1, jj_b2, js, jn, eq_self, if_true, if_false, ite_true, ite_false, ↓reduceIte, and_self, true_and, and_true, zb0, zb1, bM, bR, bCk, bMa, Bool.false_eq_true, Bool.and_self, Bool.and_true, Bool.true_and, li_0, li_1, li_2, li_3, li_4, li_5, li_6, li_7, li_8, li_16, li_18, li_21, li_25, li_46, li_54, li_58, li_60, li_79, li_87, li_89, li_95, li_96, li_100, li_104, li_108, li_116, li_127, li_128, li_132, li_153, li_158, li_159, li_164, li_167, li_172, li_176, li_177, li_184, li_188, li_190, li_198, li_199, li_200, li_202, li_240, li_255, li_256, li_32767, li_32768, li_65536, g, b]
    · have g := mo_count (y := jj_set x 58 0 (nI 0)) b c (by rw [jn (by omega)]; exact a) (fun k hk => by rw [jn (by omega)]; exact f k hk)
      simp (disch := omega) only [nA, nS, nM, nLT, nLF, nTT, nTF, nEF, nET, nBT, nBF, nC, nNG, nNL, jj_b1, jj_b2, js, jn, eq_self, if_true, if_false, ite_true, ite_false, ↓reduceIte, and_self, true_and, and_true, zb0, zb1, bM, bR, bCk, bMa, Bool.false_eq_true, Bool.and_self, Bool.and_true, Bool.true_and, li_0, li_1, li_2, li_3, li_4, li_5, li_6, li_7, li_8, li_16, li_18, li_21, li_25, li_46, li_54, li_58, li_60, li_79, li_87, li_89, li_95, li_96, li_100, li_104, li_108, li_116, li_127, li_128, li_132, li_153, li_158, li_159, li_164, li_167, li_172, li_176, li_177, li_184, li_188, li_190, li_198, li_199, li_200, li_202, li_240, li_255, li_256, li_32767, li_32768, li_65536, g, d.2.2.2.1]
theorem cp0 {tn : Nat} (h : tn ≤ 240) : jj_cpb (nI 0) (nI 0) (nI tn) 240 240 = true := by
  simp only [jj_cpb, Bool.and_eq_true, Bool.not_eq_true', decide_eq_false_iff_not, decide_eq_true_eq]
  rw [nI_clamp (by omega), nI_clamp (by omega)]
  exact ⟨⟨⟨⟨by decide, by decide⟩, nI_pos (by omega)⟩, by omega⟩, by omega⟩
theorem vu_s {x : jj_Mem} {i l : Nat} {f : Nat → Int32} : va_up x i f i l = f l := by simp [va_up]
theorem vu_n {x : jj_Mem} {i j l : Nat} {f : Nat → Int32} (h : j ≠ i) : va_up x i f j l = x j l := by simp [va_up, h]
theorem vc_s {f g : Nat → Int32} {n k : Nat} (h : k < n) : va_cpy f g 0 0 n k = f k := by
  unfold va_cpy
  rw [if_pos (by omega)]
  congr 1
  omega
theorem vc_n {f g : Nat → Int32} {n k : Nat} (h : n ≤ k) : va_cpy f g 0 0 n k = g k := by
  unfold va_cpy
  rw [if_neg (by omega)]
theorem tk_file {S tn : Nat} {x : jj_Mem} (hS : o_Pr S) (h : tn ≤ 240) : ∃ x', f_Pr_takeFile S 1 (nI tn) x = some x' ∧ Same (fun i k => i = S + 1 ∨ (i = S ∧ k = 1)) x x' ∧ x' S 1 = nI tn ∧ ∀ k, k < tn → x' (S + 1) k = x 1 k := by
  have hS2 := oc_Pr hS
  refine ⟨jj_set (va_up x (S + 1) (va_cpy (x 1) (x (S + 1)) 0 0 tn)) S 1 (nI tn), ?_, ?_, js _ _ _ _, fun k hk => ?_⟩
  · unfold f_Pr_takeFile
    simp (disch := omega) only [nA, nS, nM, nLT, nLF, nTT, nTF, nEF, nET, nBT, nBF, nC, nNG, nNL, jj_b1, jj_b2, js, jn, eq_self, if_true, if_false, ite_true, ite_false, ↓reduceIte, and_self, true_and, and_true, zb0, zb1, bM, bR, bCk, bMa, Bool.false_eq_true, Bool.and_self, Bool.and_true, Bool.true_and, li_0, li_1, li_2, li_3, li_4, li_5, li_6, li_7, li_8, li_16, li_18, li_21, li_25, li_46, li_54, li_58, li_60, li_79, li_87, li_89, li_95, li_96, li_100, li_104, li_108, li_116, li_127, li_128, li_132, li_153, li_158, li_159, li_164, li_167, li_172, li_176, li_177, li_184, li_188, li_190, li_198, li_199, li_200, li_202, li_240, li_255, li_256, li_32767, li_32768, li_65536, cp0 h]
  · refine Same.set (fun i k hn => ?_) _ (Or.inr ⟨rfl, rfl⟩)
    exact vu_n (fun z => hn (Or.inl z))
  · rw [jn (by omega), vu_s, vc_s hk]
/-- the reference keeps the file -/
theorem mo_copy {n : Nat} (hn : n ≤ 240) : ∀ (c k f : Nat) (y : jj_Mem), k + c = n → c < f → y 58 1 = nI n → ∃ y', g_Mo_read f 115 [some (.ref 58), none, none, some (.int (nI k))] y = some (-nI 1, y') ∧ Same (fun i _ => i = 60) y y' ∧ (∀ j, k ≤ j → j < n → y' 60 j = y 59 j) ∧ (∀ j, j < k → y' 60 j = y 60 j) := by
  intro c
  induction c with
  | zero =>
    intro k f y hk hf h1
    obtain ⟨f, rfl⟩ : ∃ g, f = g + 1 := ⟨f - 1, by omega⟩
    refine ⟨y, ?_, Same.refl y, fun j _ _ => by omega, fun j _ => rfl⟩
    simp (disch := omega) only [nA, nS, nM, nLT, nLF, nTT, nTF, nEF, nET, nBT, nBF, nC, nNG, nNL, jj_b1, jj_b2, js, jn, eq_self, if_true, if_false, ite_true, ite_false, ↓reduceIte, and_self, true_and, and_true, zb0, zb1, bM, bR, bCk, bMa, Bool.false_eq_true, Bool.and_self, Bool.and_true, Bool.true_and, li_0, li_1, li_2, li_3, li_4, li_5, li_6, li_7, li_8, li_16, li_18, li_21, li_25, li_46, li_54, li_58, li_60, li_79, li_87, li_89, li_95, li_96, li_100, li_104, li_108, li_116, li_127, li_128, li_132, li_153, li_158, li_159, li_164, li_167, li_172, li_176, li_177, li_184, li_188, li_190, li_198, li_199, li_200, li_202, li_240, li_255, li_256, li_32767, li_32768, li_65536, g_Mo_read, k_Mo_read_115, h1]
  | succ c ih =>
    intro k f y hk hf h1
    obtain ⟨f, rfl⟩ : ∃ g, f = g + 1 := ⟨f - 1, by omega⟩
    obtain ⟨y', a1, a2, a3, a4⟩ := ih (k + 1) f (jj_set y 60 k (y 59 k)) (by omega) (by omega) (by rw [jn (by omega)]; exact h1)
    refine ⟨y', ?_, (show Same (fun i _ => i = 60) y (jj_set y 60 k (y 59 k)) from (Same.refl y).set _ rfl).trans a2, fun j h2 h3 => ?_, fun j h2 => ?_⟩
    · rw [show g_Mo_read (f + 1) 115 [some (.ref 58), none, none, some (.int (nI k))] y = k_Mo_read_115 (g_Mo_read f) 58 (nI k) y from rfl]
      simp (disch := omega) only [nA, nS, nM, nLT, nLF, nTT, nTF, nEF, nET, nBT, nBF, nC, nNG, nNL, jj_b1, jj_b2, js, jn, eq_self, if_true, if_false, ite_true, ite_false, ↓reduceIte, and_self, true_and, and_true, zb0, zb1, bM, bR, bCk, bMa, Bool.false_eq_true, Bool.and_self, Bool.and_true, Bool.true_and, li_0, li_1, li_2, li_3, li_4, li_5, li_6, li_7, li_8, li_16, li_18, li_21, li_25, li_46, li_54, li_58, li_60, li_79, li_87, li_89, li_95, li_96, li_100, li_104, li_108, li_116, li_127, li_128, li_132, li_153, li_158, li_159, li_164, li_167, li_172, li_176, li_177, li_184, li_188, li_190, li_198, li_199, li_200, li_202, li_240, li_255, li_256, li_32767, li_32768, li_65536, k_Mo_read_115, h1]
      exact a1
    · by_cases q : j = k
      · rw [a4 j (by omega), q, js]
      · rw [a3 j (by omega) h3, jn (by omega)]
    · rw [a4 j (by omega), jn (by omega)]
theorem sim_read {x : jj_Mem} (h : Rel x) : S_read Rel x := by
  have hR1 := h.1
  obtain ⟨tn, t1, t2, t3, t4, t5⟩ := h.1
  obtain ⟨P, S, h1, h2, h3, h4, h5, h6⟩ := h.2
  have oP := (oPr h1).1
  have oS := (oPr h1).2
  have bP : bo_Pr P = true := oP
  have bS : bo_Pr S = true := oS
  have hPS : P < 100 ∧ S < 100 := by omega
  have hF : By (fun k => Int32.toNatClampNeg (x 1 k)) tn := ⟨t1, fun k hk => by
    obtain ⟨b, b1, b2⟩ := t5 k (by omega)
    show Int32.toNatClampNeg (x 1 k) < 256
    rw [b2, nI_clamp (by omega)]
    exact b1⟩
  have hFx : ∀ k, k < tn → x 1 k = nI (Int32.toNatClampNeg (x 1 k)) := fun k hk => by
    obtain ⟨b, b1, b2⟩ := t5 k (by omega)
    rw [b2, nI_clamp (by omega)]
  generalize hFd : (fun k => Int32.toNatClampNeg (x 1 k)) = F at hF
  have hFx' : ∀ k, k < tn → x 1 k = nI (F k) := fun k hk => by rw [← hFd]; exact hFx k hk
  obtain ⟨x2, e2, A2, f2, g2⟩ := tk_file (x := x) oS t1
  have k2 : x2 0 3 = nI S := by rw [A2.get 0 3 (by omega)]; exact h3
  have hx2 : ∀ k, k < tn → x2 (S + 1) k = nI (F k) := fun k hk => by rw [g2 k hk]; exact hFx' k hk
  have yy : ∀ y : jj_Mem, y 58 1 = x 58 1 → (∀ k, y 59 k = x 59 k) → y 58 1 = nI tn ∧ ∀ k, k < tn → y 59 k = nI (F k) := fun y q1 q2 => ⟨by rw [q1]; exact t3, fun k hk => by rw [q2, t4 k (by omega)]; exact hFx' k hk⟩
  obtain ⟨v1, v2⟩ := yy x2 (A2.get 58 1 (by omega)) (fun k => A2.get 59 k (by omega))
  obtain ⟨x4, _, _, A4, _, _, _, _, H4⟩ := two_file oS hF f2 hx2 v1 v2
  have AW : Same (fun i k => (i = 24 ∧ k ≤ 1) ∨ i = 25 ∨ (S ≤ i ∧ i ≤ S + 10)) x x4 := (A2.mono (fun i k z => by omega)).trans (A4.mono (fun i k z => by omega))
  rcases H4 with ⟨ok, fc, e4, _⟩ | ⟨b, hb, e4, l4, _⟩
  · -- read
    have AX : Same (fun i k => (i = 24 ∧ k ≤ 1) ∨ i = 25 ∨ (S ≤ i ∧ i ≤ S + 10) ∨ (i = 0 ∧ (k = 2 ∨ k = 3))) x (jj_set (jj_set x4 0 2 (nI S)) 0 3 (nI P)) := ((AW.mono (fun i k z => by omega)).set _ (by omega)).set _ (by omega)
    obtain ⟨w1, w2⟩ := yy (jj_set (jj_set x4 0 2 (nI S)) 0 3 (nI P)) (AX.get 58 1 (by omega)) (fun k => AX.get 59 k (by omega))
    obtain ⟨x4', y7, f'', _, B7, z7, hf, K7, H7⟩ := two_file oS hF f2 hx2 w1 w2
    rw [e4] at H7
    rcases H7 with ⟨_, _, _, m7⟩ | ⟨b, _, e5, _⟩
    · have m1 := m7.1
      have m2 := m7.2.1
      have m4 : y7 58 4 = nI 0 := m7.2.2.1
      obtain ⟨y8, c1, c2, c3, _⟩ := mo_copy t1 tn 0 f'' (jj_set (jj_set y7 58 5 (nI 1)) 58 6 (nI tn)) (by omega) (by omega) (by simp (disch := omega) only [nA, nS, nM, nLT, nLF, nTT, nTF, nEF, nET, nBT, nBF, nC, nNG, nNL, jj_b1, jj_b2, js, jn, eq_self, if_true, if_false, ite_true, ite_false, ↓reduceIte, and_self, true_and, and_true, zb0, zb1, bM, bR, bCk, bMa, Bool.false_eq_true, Bool.and_self, Bool.and_true, Bool.true_and, li_0, li_1, li_2, li_3, li_4, li_5, li_6, li_7, li_8, li_16, li_18, li_21, li_25, li_46, li_54, li_58, li_60, li_79, li_87, li_89, li_95, li_96, li_100, li_104, li_108, li_116, li_127, li_128, li_132, li_153, li_158, li_159, li_164, li_167, li_172, li_176, li_177, li_184, li_188, li_190, li_198, li_199, li_200, li_202, li_240, li_255, li_256, li_32767, li_32768, li_65536, m2])
      have C : Same (fun i k => (i = 58 ∧ (k = 0 ∨ k = 3 ∨ k = 4 ∨ k = 5 ∨ k = 6)) ∨ i = 60) (jj_set (jj_set x4 0 2 (nI S)) 0 3 (nI P)) y8 := (((B7.mono (fun i k z => by omega)).set _ (by omega)).set _ (by omega)).trans (c2.mono (fun i k z => Or.inr z))
      have D := (AX.mono (V := fun i k => (i = 24 ∧ k ≤ 1) ∨ i = 25 ∨ (S ≤ i ∧ i ≤ S + 10) ∨ (i = 0 ∧ (k = 2 ∨ k = 3)) ∨ (i = 58 ∧ (k = 0 ∨ k = 3 ∨ k = 4 ∨ k = 5 ∨ k = 6)) ∨ i = 60) (fun i k z => by omega)).trans (C.mono (fun i k z => by omega))
      refine ⟨-nI 1, jj_set (jj_set x4 0 2 (nI S)) 0 3 (nI P), y8, ?_, ?_, ?_, ?_⟩
      · have q2 : x4 0 2 = nI P := by rw [AW.get 0 2 (by omega)]; exact h2
        have q3 : x4 0 3 = nI S := by rw [AW.get 0 3 (by omega)]; exact h3
        unfold f_VC_read
        simp (disch := omega) only [nA, nS, nM, nLT, nLF, nTT, nTF, nEF, nET, nBT, nBF, nC, nNG, nNL, jj_b1, jj_b2, js, jn, eq_self, if_true, if_false, ite_true, ite_false, ↓reduceIte, and_self, true_and, and_true, zb0, zb1, bM, bR, bCk, bMa, Bool.false_eq_true, Bool.and_self, Bool.and_true, Bool.true_and, li_0, li_1, li_2, li_3, li_4, li_5, li_6, li_7, li_8, li_16, li_18, li_21, li_25, li_46, li_54, li_58, li_60, li_79, li_87, li_89, li_95, li_96, li_100, li_104, li_108, li_116, li_127, li_128, li_132, li_153, li_158, li_159, li_164, li_167, li_172, li_176, li_177, li_184, li_188, li_190, li_198, li_199, li_200, li_202, li_240, li_255, li_256, li_32767, li_32768, li_65536, h3, bS, t2, e2, k2, e4, q2, q3, bP]
      · rw [K7]
        simp (disch := omega) only [nA, nS, nM, nLT, nLF, nTT, nTF, nEF, nET, nBT, nBF, nC, nNG, nNL, jj_b1, jj_b2, js, jn, eq_self, if_true, if_false, ite_true, ite_false, ↓reduceIte, and_self, true_and, and_true, zb0, zb1, bM, bR, bCk, bMa, Bool.false_eq_true, Bool.and_self, Bool.and_true, Bool.true_and, li_0, li_1, li_2, li_3, li_4, li_5, li_6, li_7, li_8, li_16, li_18, li_21, li_25, li_46, li_54, li_58, li_60, li_79, li_87, li_89, li_95, li_96, li_100, li_104, li_108, li_116, li_127, li_128, li_132, li_153, li_158, li_159, li_164, li_167, li_172, li_176, li_177, li_184, li_188, li_190, li_198, li_199, li_200, li_202, li_240, li_255, li_256, li_32767, li_32768, li_65536, k_Mo_read_77, m4, m2, m1, c1]
      · exact hR1.same D (by omega) (fun k => by omega) (by omega) (fun k => by omega)
      · refine ⟨S, P, by omega, ?_, ?_, Or.inr ⟨?_, F, tn, hF, ok, ?_, ?_, ?_⟩, ?_, ?_⟩
        · rw [C.get _ _ (by omega)]; simp (disch := omega) only [nA, nS, nM, nLT, nLF, nTT, nTF, nEF, nET, nBT, nBF, nC, nNG, nNL, jj_b1, jj_b2, js, jn, eq_self, if_true, if_false, ite_true, ite_false, ↓reduceIte, and_self, true_and, and_true, zb0, zb1, bM, bR, bCk, bMa, Bool.false_eq_true, Bool.and_self, Bool.and_true, Bool.true_and, li_0, li_1, li_2, li_3, li_4, li_5, li_6, li_7, li_8, li_16, li_18, li_21, li_25, li_46, li_54, li_58, li_60, li_79, li_87, li_89, li_95, li_96, li_100, li_104, li_108, li_116, li_127, li_128, li_132, li_153, li_158, li_159, li_164, li_167, li_172, li_176, li_177, li_184, li_188, li_190, li_198, li_199, li_200, li_202, li_240, li_255, li_256, li_32767, li_32768, li_65536]
        · rw [C.get _ _ (by omega)]; simp (disch := omega) only [nA, nS, nM, nLT, nLF, nTT, nTF, nEF, nET, nBT, nBF, nC, nNG, nNL, jj_b1, jj_b2, js, jn, eq_self, if_true, if_false, ite_true, ite_false, ↓reduceIte, and_self, true_and, and_true, zb0, zb1, bM, bR, bCk, bMa, Bool.false_eq_true, Bool.and_self, Bool.and_true, Bool.true_and, li_0, li_1, li_2, li_3, li_4, li_5, li_6, li_7, li_8, li_16, li_18, li_21, li_25, li_46, li_54, li_58, li_60, li_79, li_87, li_89, li_95, li_96, li_100, li_104, li_108, li_116, li_127, li_128, li_132, li_153, li_158, li_159, li_164, li_167, li_172, li_176, li_177, li_184, li_188, li_190, li_198, li_199, li_200, li_202, li_240, li_255, li_256, li_32767, li_32768, li_65536]
        · rw [c2 _ _ (by omega)]; simp (disch := omega) only [nA, nS, nM, nLT, nLF, nTT, nTF, nEF, nET, nBT, nBF, nC, nNG, nNL, jj_b1, jj_b2, js, jn, eq_self, if_true, if_false, ite_true, ite_false, ↓reduceIte, and_self, true_and, and_true, zb0, zb1, bM, bR, bCk, bMa, Bool.false_eq_true, Bool.and_self, Bool.and_true, Bool.true_and, li_0, li_1, li_2, li_3, li_4, li_5, li_6, li_7, li_8, li_16, li_18, li_21, li_25, li_46, li_54, li_58, li_60, li_79, li_87, li_89, li_95, li_96, li_100, li_104, li_108, li_116, li_127, li_128, li_132, li_153, li_158, li_159, li_164, li_167, li_172, li_176, li_177, li_184, li_188, li_190, li_198, li_199, li_200, li_202, li_240, li_255, li_256, li_32767, li_32768, li_65536]
        · exact (fc.same ok.2.2.1 (Same.set (W := fun i _ => i = 0) (Same.set (W := fun i _ => i = 0) (Same.refl x4) (nI S) (i := 0) (k := 2) rfl) (nI P) (i := 0) (k := 3) rfl) (fun i k _ _ => by omega)).same ok.2.2.1 C (fun i k _ _ => by omega)
        · rw [c2 _ _ (by omega)]; simp (disch := omega) only [nA, nS, nM, nLT, nLF, nTT, nTF, nEF, nET, nBT, nBF, nC, nNG, nNL, jj_b1, jj_b2, js, jn, eq_self, if_true, if_false, ite_true, ite_false, ↓reduceIte, and_self, true_and, and_true, zb0, zb1, bM, bR, bCk, bMa, Bool.false_eq_true, Bool.and_self, Bool.and_true, Bool.true_and, li_0, li_1, li_2, li_3, li_4, li_5, li_6, li_7, li_8, li_16, li_18, li_21, li_25, li_46, li_54, li_58, li_60, li_79, li_87, li_89, li_95, li_96, li_100, li_104, li_108, li_116, li_127, li_128, li_132, li_153, li_158, li_159, li_164, li_167, li_172, li_176, li_177, li_184, li_188, li_190, li_198, li_199, li_200, li_202, li_240, li_255, li_256, li_32767, li_32768, li_65536]
        · intro k hk
          rw [c3 k (by omega) hk, jn (by omega), jn (by omega)]
          exact m7.2.2.2 k hk
        · rw [D.get _ _ (by omega), D.get _ _ (by omega)]; exact h5
        · rw [D.get _ _ (by omega), D.get _ _ (by omega)]; exact h6
    · exact absurd (congrArg (fun o => o.map Prod.fst) e5) (by simp only [Option.map_some, Option.some.injEq]; decide)
  · -- refused
    obtain ⟨w1, w2⟩ := yy x4 (AW.get 58 1 (by omega)) (fun k => AW.get 59 k (by omega))
    obtain ⟨x4', y7, f'', _, B7, z7, hf, K7, H7⟩ := two_file oS hF f2 hx2 w1 w2
    rw [e4] at H7
    rcases H7 with ⟨_, _, e5, m7⟩ | ⟨b', hb', e5, l5, m7, H8⟩
    · exact absurd (congrArg (fun o => o.map Prod.fst) e5) (by simp only [Option.map_some, Option.some.injEq]; decide)
    · have e6 : x4 = x4' := congrArg Prod.snd (Option.some.inj e5)
      subst e6
      have D : Same (fun i k => (i = 24 ∧ k ≤ 1) ∨ i = 25 ∨ (S ≤ i ∧ i ≤ S + 10) ∨ (i = 58 ∧ (k = 0 ∨ k = 3 ∨ k = 4))) x y7 := (AW.mono (fun i k z => by omega)).trans (B7.mono (fun i k z => by omega))
      refine ⟨nI b', x4, y7, ?_, ?_, ?_, ?_⟩
      · unfold f_VC_read
        simp (disch := omega) only [nA, nS, nM, nLT, nLF, nTT, nTF, nEF, nET, nBT, nBF, nC, nNG, nNL, jj_b1, jj_b2, js, jn, eq_self, if_true, if_false, ite_true, ite_false, ↓reduceIte, and_self, true_and, and_true, zb0, zb1, bM, bR, bCk, bMa, Bool.false_eq_true, Bool.and_self, Bool.and_true, Bool.true_and, li_0, li_1, li_2, li_3, li_4, li_5, li_6, li_7, li_8, li_16, li_18, li_21, li_25, li_46, li_54, li_58, li_60, li_79, li_87, li_89, li_95, li_96, li_100, li_104, li_108, li_116, li_127, li_128, li_132, li_153, li_158, li_159, li_164, li_167, li_172, li_176, li_177, li_184, li_188, li_190, li_198, li_199, li_200, li_202, li_240, li_255, li_256, li_32767, li_32768, li_65536, h3, bS, t2, e2, k2, e4, l5]
      · rw [K7]
        rcases H8 with q | ⟨q1, q2, q3⟩
        · simp (disch := omega) only [nA, nS, nM, nLT, nLF, nTT, nTF, nEF, nET, nBT, nBF, nC, nNG, nNL, jj_b1, jj_b2, js, jn, eq_self, if_true, if_false, ite_true, ite_false, ↓reduceIte, and_self, true_and, and_true, zb0, zb1, bM, bR, bCk, bMa, Bool.false_eq_true, Bool.and_self, Bool.and_true, Bool.true_and, li_0, li_1, li_2, li_3, li_4, li_5, li_6, li_7, li_8, li_16, li_18, li_21, li_25, li_46, li_54, li_58, li_60, li_79, li_87, li_89, li_95, li_96, li_100, li_104, li_108, li_116, li_127, li_128, li_132, li_153, li_158, li_159, li_164, li_167, li_172, li_176, li_177, li_184, li_188, li_190, li_198, li_199, li_200, li_202, li_240, li_255, li_256, li_32767, li_32768, li_65536, k_Mo_read_77, q, m7]
        · simp (disch := omega) only [nA, nS, nM, nLT, nLF, nTT, nTF, nEF, nET, nBT, nBF, nC, nNG, nNL, jj_b1, jj_b2, js, jn, eq_self, if_true, if_false, ite_true, ite_false, ↓reduceIte, and_self, true_and, and_true, zb0, zb1, bM, bR, bCk, bMa, Bool.false_eq_true, Bool.and_self, Bool.and_true, Bool.true_and, li_0, li_1, li_2, li_3, li_4, li_5, li_6, li_7, li_8, li_16, li_18, li_21, li_25, li_46, li_54, li_58, li_60, li_79, li_87, li_89, li_95, li_96, li_100, li_104, li_108, li_116, li_127, li_128, li_132, li_153, li_158, li_159, li_164, li_167, li_172, li_176, li_177, li_184, li_188, li_190, li_198, li_199, li_200, li_202, li_240, li_255, li_256, li_32767, li_32768, li_65536, k_Mo_read_77, q1, q2, m7]
      · exact hR1.same D (by omega) (fun k => by omega) (by omega) (fun k => by omega)
      · refine ⟨P, S, h1, ?_, ?_, h4.same D (fun i k _ _ => by omega) (by omega) (by omega) (fun k => by omega), ?_, ?_⟩
        · rw [D.get _ _ (by omega)]; exact h2
        · rw [D.get _ _ (by omega)]; exact h3
        · rw [D.get _ _ (by omega), D.get _ _ (by omega)]; exact h5
        · rw [D.get _ _ (by omega), D.get _ _ (by omega)]; exact h6
/-- the reference types what it kept -/
theorem mo_wcopy {n : Nat} (hn : n ≤ 240) : ∀ (c k f : Nat) (y : jj_Mem), k + c = n → c < f → y 58 1 = nI n → ∃ y', g_Mo_write f 35 [some (.ref 58), some (.int (nI k))] y = some (nI n, y') ∧ Same (fun i _ => i = 59) y y' ∧ (∀ j, k ≤ j → j < n → y' 59 j = y 60 j) ∧ (∀ j, (j < k ∨ n ≤ j) → y' 59 j = y 59 j) := by
  intro c
  induction c with
  | zero =>
    intro k f y hk hf h1
    obtain ⟨f, rfl⟩ : ∃ g, f = g + 1 := ⟨f - 1, by omega⟩
    refine ⟨y, ?_, Same.refl y, fun j _ _ => by omega, fun j _ => rfl⟩
    simp (disch := omega) only [nA, nS, nM, nLT, nLF, nTT, nTF, nEF, nET, nBT, nBF, nC, nNG, nNL, jj_b1, jj_b2, js, jn, eq_self, if_true, if_false, ite_true, ite_false, ↓reduceIte, and_self, true_and, and_true, zb0, zb1, bM, bR, bCk, bMa, Bool.false_eq_true, Bool.and_self, Bool.and_true, Bool.true_and, li_0, li_1, li_2, li_3, li_4, li_5, li_6, li_7, li_8, li_16, li_18, li_21, li_25, li_46, li_54, li_58, li_60, li_79, li_87, li_89, li_95, li_96, li_100, li_104, li_108, li_116, li_127, li_128, li_132, li_153, li_158, li_159, li_164, li_167, li_172, li_176, li_177, li_184, li_188, li_190, li_198, li_199, li_200, li_202, li_240, li_255, li_256, li_32767, li_32768, li_65536, g_Mo_write, k_Mo_write_35, h1]
  | succ c ih =>
    intro k f y hk hf h1
    obtain ⟨f, rfl⟩ : ∃ g, f = g + 1 := ⟨f - 1, by omega⟩
    obtain ⟨y', a1, a2, a3, a4⟩ := ih (k + 1) f (jj_set y 59 k (y 60 k)) (by omega) (by omega) (by rw [jn (by omega)]; exact h1)
    refine ⟨y', ?_, (show Same (fun i _ => i = 59) y (jj_set y 59 k (y 60 k)) from (Same.refl y).set _ rfl).trans a2, fun j h2 h3 => ?_, fun j h2 => ?_⟩
    · rw [show g_Mo_write (f + 1) 35 [some (.ref 58), some (.int (nI k))] y = k_Mo_write_35 (g_Mo_write f) 58 (nI k) y from rfl]
      simp (disch := omega) only [nA, nS, nM, nLT, nLF, nTT, nTF, nEF, nET, nBT, nBF, nC, nNG, nNL, jj_b1, jj_b2, js, jn, eq_self, if_true, if_false, ite_true, ite_false, ↓reduceIte, and_self, true_and, and_true, zb0, zb1, bM, bR, bCk, bMa, Bool.false_eq_true, Bool.and_self, Bool.and_true, Bool.true_and, li_0, li_1, li_2, li_3, li_4, li_5, li_6, li_7, li_8, li_16, li_18, li_21, li_25, li_46, li_54, li_58, li_60, li_79, li_87, li_89, li_95, li_96, li_100, li_104, li_108, li_116, li_127, li_128, li_132, li_153, li_158, li_159, li_164, li_167, li_172, li_176, li_177, li_184, li_188, li_190, li_198, li_199, li_200, li_202, li_240, li_255, li_256, li_32767, li_32768, li_65536, k_Mo_write_35, h1]
      exact a1
    · by_cases q : j = k
      · rw [a4 j (by omega), q, js]
      · rw [a3 j (by omega) h3, jn (by omega)]
    · rw [a4 j (by omega), jn (by omega)]
theorem sim_write {x : jj_Mem} (h : Rel x) : S_write Rel x := by
  have hR1 := h.1
  have hq := h.2
  obtain ⟨tn, t1, t2, t3, t4, t5⟩ := h.1
  obtain ⟨P, S, h1, h2, h3, h4, h5, h6⟩ := h.2
  have oP := (oPr h1).1
  have bP : bo_Pr P = true := oP
  have hPS : P < 100 ∧ S < 100 := by omega
  rcases h4 with ⟨a, b⟩ | ⟨a, K, n, b, c, d, e, f⟩
  · refine ⟨1, 0, 0, x, jj_set x 58 0 1, Or.inr ⟨rfl, rfl, ?_, ?_⟩, ?_, js _ _ _ _, fun q => absurd q (by decide), R1_code hR1, Fr1_code Fr1_RQ hq⟩
    · rw [h2, nC (by omega)]; exact oP
    · rw [h2, nC (by omega)]; exact b
    · unfold f_Mo_write k_Mo_write_0
      simp (disch := omega) only [nA, nS, nM, nLT, nLF, nTT, nTF, nEF, nET, nBT, nBF, nC, nNG, nNL, jj_b1, jj_b2, js, jn, eq_self, if_true, if_false, ite_true, ite_false, ↓reduceIte, and_self, true_and, and_true, zb0, zb1, bM, bR, bCk, bMa, Bool.false_eq_true, Bool.and_self, Bool.and_true, Bool.true_and, li_0, li_1, li_2, li_3, li_4, li_5, li_6, li_7, li_8, li_16, li_18, li_21, li_25, li_46, li_54, li_58, li_60, li_79, li_87, li_89, li_95, li_96, li_100, li_104, li_108, li_116, li_127, li_128, li_132, li_153, li_158, li_159, li_164, li_167, li_172, li_176, li_177, li_184, li_188, li_190, li_198, li_199, li_200, li_202, li_240, li_255, li_256, li_32767, li_32768, li_65536, k_Mo_write_13, a]
  · have hn := b.1
    have c2 := c.2.1
    have c3 := c.2.2.1
    have d4 := d.2.2.2.1
    have d1 := d.1
    have X1 : Same (fun i k => (i = 0 ∧ k = 1) ∨ i = 1) x (jj_set (va_up x 1 (va_cpy (x (P + 1)) (x 1) 0 0 n)) 0 1 (nI n)) := Same.set (fun i k hn' => vu_n (fun z => hn' (Or.inr z))) _ (Or.inl ⟨rfl, rfl⟩)
    have V := f
    generalize hx1 : jj_set (va_up x 1 (va_cpy (x (P + 1)) (x 1) 0 0 n)) 0 1 (nI n) = x1 at X1
    obtain ⟨y', g1, g2, g3, g4⟩ := mo_wcopy hn n 0 1000 (jj_set (jj_set x1 58 0 (nI 0)) 58 1 (nI n)) (by omega) (by omega) (js _ _ _ _)
    have D : Same (fun i k => (i = 0 ∧ k = 1) ∨ i = 1 ∨ (i = 58 ∧ k ≤ 1) ∨ i = 59) x y' := (((X1.mono (fun i k z => by omega)).set _ (by omega)).set _ (by omega)).trans (g2.mono (fun i k z => by omega))
    have E1 : ∀ k, y' 1 k = x1 1 k := fun k => by rw [g2 1 k (by omega), jn (by omega), jn (by omega)]
    have E2 : ∀ k, k < n → x1 1 k = nI (K k) := fun k hk => by rw [← hx1, jn (by omega), vu_s, vc_s hk]; exact d.2.2.2.2.1 k hk
    have E3 : ∀ k, n ≤ k → x1 1 k = x 1 k := fun k hk => by rw [← hx1, jn (by omega), vu_s, vc_n hk]
    refine ⟨0, nI n, nI n, x1, y', Or.inl ⟨rfl, ?_⟩, ?_, ?_, fun _ => rfl, ⟨n, hn, ?_, ?_, fun k hk => ?_, fun k hk => ?_⟩, Fr1_RQ x y' (fun i k hn' => D i k (fun z => hn' z)) hq⟩
    · have u2 : (va_up x 1 (va_cpy (x (P + 1)) (x 1) 0 0 n)) 0 2 = nI P := by rw [vu_n (by omega)]; exact h2
      have u1 : (va_up x 1 (va_cpy (x (P + 1)) (x 1) 0 0 n)) P 1 = nI n := by rw [vu_n (by omega)]; exact d1
      unfold f_VC_write
      rw [← hx1]
      simp (disch := omega) only [nA, nS, nM, nLT, nLF, nTT, nTF, nEF, nET, nBT, nBF, nC, nNG, nNL, jj_b1, jj_b2, js, jn, eq_self, if_true, if_false, ite_true, ite_false, ↓reduceIte, and_self, true_and, and_true, zb0, zb1, bM, bR, bCk, bMa, Bool.false_eq_true, Bool.and_self, Bool.and_true, Bool.true_and, li_0, li_1, li_2, li_3, li_4, li_5, li_6, li_7, li_8, li_16, li_18, li_21, li_25, li_46, li_54, li_58, li_60, li_79, li_87, li_89, li_95, li_96, li_100, li_104, li_108, li_116, li_127, li_128, li_132, li_153, li_158, li_159, li_164, li_167, li_172, li_176, li_177, li_184, li_188, li_190, li_198, li_199, li_200, li_202, li_240, li_255, li_256, li_32767, li_32768, li_65536, h2, bP, d4, d1, cp0 hn, u2, u1]
    · have w5 : x1 58 5 = nI 1 := by rw [X1.get _ _ (by omega)]; exact a
      have w6 : x1 58 6 = nI n := by rw [X1.get _ _ (by omega)]; exact e
      unfold f_Mo_write k_Mo_write_0
      simp (disch := omega) only [nA, nS, nM, nLT, nLF, nTT, nTF, nEF, nET, nBT, nBF, nC, nNG, nNL, jj_b1, jj_b2, js, jn, eq_self, if_true, if_false, ite_true, ite_false, ↓reduceIte, and_self, true_and, and_true, zb0, zb1, bM, bR, bCk, bMa, Bool.false_eq_true, Bool.and_self, Bool.and_true, Bool.true_and, li_0, li_1, li_2, li_3, li_4, li_5, li_6, li_7, li_8, li_16, li_18, li_21, li_25, li_46, li_54, li_58, li_60, li_79, li_87, li_89, li_95, li_96, li_100, li_104, li_108, li_116, li_127, li_128, li_132, li_153, li_158, li_159, li_164, li_167, li_172, li_176, li_177, li_184, li_188, li_190, li_198, li_199, li_200, li_202, li_240, li_255, li_256, li_32767, li_32768, li_65536, k_Mo_write_13, w5, w6]
      exact g1
    · rw [g2 _ _ (by omega)]; simp (disch := omega) only [nA, nS, nM, nLT, nLF, nTT, nTF, nEF, nET, nBT, nBF, nC, nNG, nNL, jj_b1, jj_b2, js, jn, eq_self, if_true, if_false, ite_true, ite_false, ↓reduceIte, and_self, true_and, and_true, zb0, zb1, bM, bR, bCk, bMa, Bool.false_eq_true, Bool.and_self, Bool.and_true, Bool.true_and, li_0, li_1, li_2, li_3, li_4, li_5, li_6, li_7, li_8, li_16, li_18, li_21, li_25, li_46, li_54, li_58, li_60, li_79, li_87, li_89, li_95, li_96, li_100, li_104, li_108, li_116, li_127, li_128, li_132, li_153, li_158, li_159, li_164, li_167, li_172, li_176, li_177, li_184, li_188, li_190, li_198, li_199, li_200, li_202, li_240, li_255, li_256, li_32767, li_32768, li_65536]
    · rw [g2 _ _ (by omega)]; simp (disch := omega) only [nA, nS, nM, nLT, nLF, nTT, nTF, nEF, nET, nBT, nBF, nC, nNG, nNL, jj_b1, jj_b2, js, jn, eq_self, if_true, if_false, ite_true, ite_false, ↓reduceIte, and_self, true_and, and_true, zb0, zb1, bM, bR, bCk, bMa, Bool.false_eq_true, Bool.and_self, Bool.and_true, Bool.true_and, li_0, li_1, li_2, li_3, li_4, li_5, li_6, li_7, li_8, li_16, li_18, li_21, li_25, li_46, li_54, li_58, li_60, li_79, li_87, li_89, li_95, li_96, li_100, li_104, li_108, li_116, li_127, li_128, li_132, li_153, li_158, li_159, li_164, li_167, li_172, li_176, li_177, li_184, li_188, li_190, li_198, li_199, li_200, li_202, li_240, li_255, li_256, li_32767, li_32768, li_65536]; rw [← hx1]; simp (disch := omega) only [nA, nS, nM, nLT, nLF, nTT, nTF, nEF, nET, nBT, nBF, nC, nNG, nNL, jj_b1, jj_b2, js, jn, eq_self, if_true, if_false, ite_true, ite_false, ↓reduceIte, and_self, true_and, and_true, zb0, zb1, bM, bR, bCk, bMa, Bool.false_eq_true, Bool.and_self, Bool.and_true, Bool.true_and, li_0, li_1, li_2, li_3, li_4, li_5, li_6, li_7, li_8, li_16, li_18, li_21, li_25, li_46, li_54, li_58, li_60, li_79, li_87, li_89, li_95, li_96, li_100, li_104, li_108, li_116, li_127, li_128, li_132, li_153, li_158, li_159, li_164, li_167, li_172, li_176, li_177, li_184, li_188, li_190, li_198, li_199, li_200, li_202, li_240, li_255, li_256, li_32767, li_32768, li_65536]
    · rw [g2 _ _ (by omega)]; simp (disch := omega) only [nA, nS, nM, nLT, nLF, nTT, nTF, nEF, nET, nBT, nBF, nC, nNG, nNL, jj_b1, jj_b2, js, jn, eq_self, if_true, if_false, ite_true, ite_false, ↓reduceIte, and_self, true_and, and_true, zb0, zb1, bM, bR, bCk, bMa, Bool.false_eq_true, Bool.and_self, Bool.and_true, Bool.true_and, li_0, li_1, li_2, li_3, li_4, li_5, li_6, li_7, li_8, li_16, li_18, li_21, li_25, li_46, li_54, li_58, li_60, li_79, li_87, li_89, li_95, li_96, li_100, li_104, li_108, li_116, li_127, li_128, li_132, li_153, li_158, li_159, li_164, li_167, li_172, li_176, li_177, li_184, li_188, li_190, li_198, li_199, li_200, li_202, li_240, li_255, li_256, li_32767, li_32768, li_65536]
    · by_cases q : k < n
      · rw [g3 k (by omega) q, E1, E2 k q]
        simp (disch := omega) only [nA, nS, nM, nLT, nLF, nTT, nTF, nEF, nET, nBT, nBF, nC, nNG, nNL, jj_b1, jj_b2, js, jn, eq_self, if_true, if_false, ite_true, ite_false, ↓reduceIte, and_self, true_and, and_true, zb0, zb1, bM, bR, bCk, bMa, Bool.false_eq_true, Bool.and_self, Bool.and_true, Bool.true_and, li_0, li_1, li_2, li_3, li_4, li_5, li_6, li_7, li_8, li_16, li_18, li_21, li_25, li_46, li_54, li_58, li_60, li_79, li_87, li_89, li_95, li_96, li_100, li_104, li_108, li_116, li_127, li_128, li_132, li_153, li_158, li_159, li_164, li_167, li_172, li_176, li_177, li_184, li_188, li_190, li_198, li_199, li_200, li_202, li_240, li_255, li_256, li_32767, li_32768, li_65536]
        rw [X1.get _ _ (by omega)]
        exact f k q
      · rw [g4 k (by omega), E1, E3 k (by omega)]
        simp (disch := omega) only [nA, nS, nM, nLT, nLF, nTT, nTF, nEF, nET, nBT, nBF, nC, nNG, nNL, jj_b1, jj_b2, js, jn, eq_self, if_true, if_false, ite_true, ite_false, ↓reduceIte, and_self, true_and, and_true, zb0, zb1, bM, bR, bCk, bMa, Bool.false_eq_true, Bool.and_self, Bool.and_true, Bool.true_and, li_0, li_1, li_2, li_3, li_4, li_5, li_6, li_7, li_8, li_16, li_18, li_21, li_25, li_46, li_54, li_58, li_60, li_79, li_87, li_89, li_95, li_96, li_100, li_104, li_108, li_116, li_127, li_128, li_132, li_153, li_158, li_159, li_164, li_167, li_172, li_176, li_177, li_184, li_188, li_190, li_198, li_199, li_200, li_202, li_240, li_255, li_256, li_32767, li_32768, li_65536]
        rw [X1.get _ _ (by omega)]
        exact t4 k hk
    · rw [E1]
      by_cases q : k < n
      · exact ⟨K k, b.2 k q, E2 k q⟩
      · rw [E3 k (by omega)]; exact t5 k hk
