/-! PURE: where instructions begin, as both ask -/
theorem nI_ge0 {a : Nat} (h : a < 2147483648) : ¬ nI a < nI 0 := by rw [nTF (by omega) h]; exact fun z => z
section BEG
variable {S n cd ln q cc mc pl N : Nat} {F : Nat → Nat}
theorem st_lt (hC : CodeOK F cd ln cc mc pl N) {j : Nat} (hj : j < N) : st F cd j < st F cd (j + 1) := by
  have := (hC.2.2 j hj).2.1
  have := st_succ F cd j
  omega
theorem st_mono (hC : CodeOK F cd ln cc mc pl N) : ∀ (r i : Nat), i + r ≤ N → st F cd i + r ≤ st F cd (i + r)
  | 0, i, _ => by simp
  | r + 1, i, h => by
    have h1 := st_mono hC r i (by omega)
    have h2 := st_lt hC (j := i + r) (by omega)
    have : i + (r + 1) = i + r + 1 := by omega
    rw [this]
    omega
theorem st_inj (hC : CodeOK F cd ln cc mc pl N) {i j : Nat} (hi : i ≤ N) (hj : j ≤ N) (h : st F cd i = st F cd j) : i = j := by
  rcases Nat.lt_trichotomy i j with c | c | c
  · have := st_mono hC (j - i) i (by omega)
    rw [show i + (j - i) = j by omega] at this
    omega
  · exact c
  · have := st_mono hC (i - j) j (by omega)
    rw [show j + (i - j) = i by omega] at this
    omega
theorem st_le_iff (hC : CodeOK F cd ln cc mc pl N) {i j : Nat} (hi : i ≤ N) (hj : j ≤ N) : st F cd i ≤ st F cd j ↔ i ≤ j := by
  constructor
  · intro h
    apply Nat.le_of_not_lt
    intro c
    have := st_mono hC (i - j) j (by omega)
    rw [show j + (i - j) = i by omega] at this
    omega
  · intro h
    have := st_mono hC (j - i) i (by omega)
    rw [show i + (j - i) = j by omega] at this
    omega
/-- an instruction begins at t -/
def BgI (F : Nat → Nat) (cd N : Nat) (t : Int32) : Prop := ∃ j, j < N ∧ nI (st F cd j) = t
theorem mo_begins_g {y : jj_Mem} (hF : By F n) (hC : CodeOK F cd ln cc mc pl N) (hln : ln ≤ 60) (hn : cd + ln ≤ n) (hy : ∀ k, k < n → y 59 k = nI (F k)) {o : Nat} (ho : o < 2147483648) : ∀ (r j f : Nat), j + r = N → r < f → (∀ i, i < j → st F cd i < o) →
    (BgI F cd N (nI o) → g_Mo_begins f 3 [some (.ref 58), some (.int (nI cd)), some (.int (nI ln)), some (.int (nI o)), some (.int (nI (st F cd j)))] y = some (nI 1, y)) ∧ (¬ BgI F cd N (nI o) → g_Mo_begins f 3 [some (.ref 58), some (.int (nI cd)), some (.int (nI ln)), some (.int (nI o)), some (.int (nI (st F cd j)))] y = some (nI 0, y)) := by
  have h240 := hF.1
  intro r
  induction r with
  | zero =>
    intro j f hj hf hi
    obtain ⟨f, rfl⟩ : ∃ g, f = g + 1 := ⟨f - 1, by omega⟩
    have e : st F cd j = ln := by rw [show j = N by omega]; exact hC.2.1
    have nb : ¬ BgI F cd N (nI o) := by
      rintro ⟨i, h1, h2⟩
      have h3 := hi i (by omega)
      have := nInj (by omega) ho h2
      omega
    refine ⟨fun h => absurd h nb, fun _ => ?_⟩
    rw [e]
    by_cases c : ln = o
    · simp (disch := omega) only [nA, nS, nM, nLT, nLF, nTT, nTF, nEF, nET, nBT, nBF, nC, nNF, jj_b1, jj_b2, js, jn, eq_self, if_true, if_false, ite_true, ite_false, ↓reduceIte, and_self, true_and, and_true, zb0, zb1, bM, bR, bCk, bMa, Bool.false_eq_true, Bool.and_self, Bool.and_true, Bool.true_and, li_0, li_1, li_2, li_3, li_4, li_5, li_6, li_7, li_8, li_16, li_18, li_21, li_25, li_46, li_54, li_58, li_60, li_79, li_87, li_89, li_95, li_96, li_100, li_104, li_108, li_116, li_127, li_128, li_132, li_153, li_158, li_159, li_164, li_167, li_172, li_176, li_177, li_184, li_188, li_190, li_198, li_199, li_200, li_202, li_240, li_255, li_256, li_32767, li_32768, li_65536, g_Mo_begins, k_Mo_begins_3, k_Mo_begins_35]
    · simp (disch := omega) only [nA, nS, nM, nLT, nLF, nTT, nTF, nEF, nET, nBT, nBF, nC, nNF, jj_b1, jj_b2, js, jn, eq_self, if_true, if_false, ite_true, ite_false, ↓reduceIte, and_self, true_and, and_true, zb0, zb1, bM, bR, bCk, bMa, Bool.false_eq_true, Bool.and_self, Bool.and_true, Bool.true_and, li_0, li_1, li_2, li_3, li_4, li_5, li_6, li_7, li_8, li_16, li_18, li_21, li_25, li_46, li_54, li_58, li_60, li_79, li_87, li_89, li_95, li_96, li_100, li_104, li_108, li_116, li_127, li_128, li_132, li_153, li_158, li_159, li_164, li_167, li_172, li_176, li_177, li_184, li_188, li_190, li_198, li_199, li_200, li_202, li_240, li_255, li_256, li_32767, li_32768, li_65536, g_Mo_begins, k_Mo_begins_3, k_Mo_begins_35]
  | succ r ih =>
    intro j f hj hf hi
    obtain ⟨f, rfl⟩ : ∃ g, f = g + 1 := ⟨f - 1, by omega⟩
    have hlt := (hC.2.2 j (by omega)).1
    have hy1 := hy (cd + st F cd j) (by omega)
    have hb := hF.2 (cd + st F cd j) (by omega)
    have e2 := zm_bytes _ hb
    by_cases c : o ≤ st F cd j
    · by_cases c2 : o = st F cd j
      · have hb : BgI F cd N (nI o) := ⟨j, by omega, by rw [c2]⟩
        refine ⟨fun _ => ?_, fun h => absurd hb h⟩
        simp (disch := omega) only [nA, nS, nM, nLT, nLF, nTT, nTF, nEF, nET, nBT, nBF, nC, nNF, jj_b1, jj_b2, js, jn, eq_self, if_true, if_false, ite_true, ite_false, ↓reduceIte, and_self, true_and, and_true, zb0, zb1, bM, bR, bCk, bMa, Bool.false_eq_true, Bool.and_self, Bool.and_true, Bool.true_and, li_0, li_1, li_2, li_3, li_4, li_5, li_6, li_7, li_8, li_16, li_18, li_21, li_25, li_46, li_54, li_58, li_60, li_79, li_87, li_89, li_95, li_96, li_100, li_104, li_108, li_116, li_127, li_128, li_132, li_153, li_158, li_159, li_164, li_167, li_172, li_176, li_177, li_184, li_188, li_190, li_198, li_199, li_200, li_202, li_240, li_255, li_256, li_32767, li_32768, li_65536, g_Mo_begins, k_Mo_begins_3, k_Mo_begins_35]
      · have nb : ¬ BgI F cd N (nI o) := by
          rintro ⟨i, h1, h2⟩
          have h4 := (hC.2.2 i h1).1
          have h5 := nInj (by omega) ho h2
          by_cases c3 : i < j
          · have := hi i c3
            omega
          · have := (st_le_iff hC (i := j) (j := i) (by omega) (by omega)).mpr (by omega)
            omega
        refine ⟨fun h => absurd h nb, fun _ => ?_⟩
        simp (disch := omega) only [nA, nS, nM, nLT, nLF, nTT, nTF, nEF, nET, nBT, nBF, nC, nNF, jj_b1, jj_b2, js, jn, eq_self, if_true, if_false, ite_true, ite_false, ↓reduceIte, and_self, true_and, and_true, zb0, zb1, bM, bR, bCk, bMa, Bool.false_eq_true, Bool.and_self, Bool.and_true, Bool.true_and, li_0, li_1, li_2, li_3, li_4, li_5, li_6, li_7, li_8, li_16, li_18, li_21, li_25, li_46, li_54, li_58, li_60, li_79, li_87, li_89, li_95, li_96, li_100, li_104, li_108, li_116, li_127, li_128, li_132, li_153, li_158, li_159, li_164, li_167, li_172, li_176, li_177, li_184, li_188, li_190, li_198, li_199, li_200, li_202, li_240, li_255, li_256, li_32767, li_32768, li_65536, g_Mo_begins, k_Mo_begins_3, k_Mo_begins_35]
    · have := ih (j + 1) f (by omega) (by omega) (fun i h1 => by
        by_cases c3 : i = j
        · subst c3; omega
        · exact hi i (by omega))
      rw [show g_Mo_begins (f + 1) 3 [some (.ref 58), some (.int (nI cd)), some (.int (nI ln)), some (.int (nI o)), some (.int (nI (st F cd j)))] y = k_Mo_begins_3 (g_Mo_begins f) 58 (nI cd) (nI ln) (nI o) (nI (st F cd j)) y from rfl]
      simp (disch := omega) only [nA, nS, nM, nLT, nLF, nTT, nTF, nEF, nET, nBT, nBF, nC, nNF, jj_b1, jj_b2, js, jn, eq_self, if_true, if_false, ite_true, ite_false, ↓reduceIte, and_self, true_and, and_true, zb0, zb1, bM, bR, bCk, bMa, Bool.false_eq_true, Bool.and_self, Bool.and_true, Bool.true_and, li_0, li_1, li_2, li_3, li_4, li_5, li_6, li_7, li_8, li_16, li_18, li_21, li_25, li_46, li_54, li_58, li_60, li_79, li_87, li_89, li_95, li_96, li_100, li_104, li_108, li_116, li_127, li_128, li_132, li_153, li_158, li_159, li_164, li_167, li_172, li_176, li_177, li_184, li_188, li_190, li_198, li_199, li_200, li_202, li_240, li_255, li_256, li_32767, li_32768, li_65536, k_Mo_begins_3, hy1, e2]
      rw [← st_succ]
      exact this
theorem mo_begins {y : jj_Mem} (hF : By F n) (hC : CodeOK F cd ln cc mc pl N) (hl1 : 1 ≤ ln) (hln : ln ≤ 60) (hn : cd + ln ≤ n) (hy : ∀ k, k < n → y 59 k = nI (F k)) (t : Int32) :
    (BgI F cd N t → f_Mo_begins 58 (nI cd) (nI ln) t y = some (nI 1, y)) ∧ (¬ BgI F cd N t → f_Mo_begins 58 (nI cd) (nI ln) t y = some (nI 0, y)) := by
  have hN := hC.1
  by_cases c : t < 0
  · have nb : ¬ BgI F cd N t := by
      rintro ⟨i, h1, h2⟩
      have h4 := (hC.2.2 i h1).1
      rw [← h2] at c
      exact nI_ge0 (by omega) c
    refine ⟨fun h => absurd h nb, fun _ => ?_⟩
    have c1 : (t ≤ nI 0) = True := eq_true (Int32.le_of_lt c)
    have c2 : (nI 0 = t) = False := eq_false (fun e => by rw [← e] at c; exact nI_ge0 (by omega) c)
    unfold f_Mo_begins k_Mo_begins_0
    simp (disch := omega) only [nA, nS, nM, nLT, nLF, nTT, nTF, nEF, nET, nBT, nBF, nC, nNF, jj_b1, jj_b2, js, jn, eq_self, if_true, if_false, ite_true, ite_false, ↓reduceIte, and_self, true_and, and_true, zb0, zb1, bM, bR, bCk, bMa, Bool.false_eq_true, Bool.and_self, Bool.and_true, Bool.true_and, li_0, li_1, li_2, li_3, li_4, li_5, li_6, li_7, li_8, li_16, li_18, li_21, li_25, li_46, li_54, li_58, li_60, li_79, li_87, li_89, li_95, li_96, li_100, li_104, li_108, li_116, li_127, li_128, li_132, li_153, li_158, li_159, li_164, li_167, li_172, li_176, li_177, li_184, li_188, li_190, li_198, li_199, li_200, li_202, li_240, li_255, li_256, li_32767, li_32768, li_65536, g_Mo_begins, k_Mo_begins_3, k_Mo_begins_35, c1, c2]
  · obtain ⟨o, ho, rfl⟩ := nI_of c
    exact mo_begins_g hF hC hln hn hy ho N 0 1000 (by omega) (by omega) (fun i hi => by omega)
theorem rd_begins {x : jj_Mem} (hC : CodeOK F cd ln cc mc pl N) (hln : ln ≤ 60) (h6 : x q 6 = nI ln) (hB : BgC F cd N x) (t : Int32) :
    (BgI F cd N t → f_Rd_beginsAt 24 q t x = some (nI 1, x)) ∧ (¬ BgI F cd N t → f_Rd_beginsAt 24 q t x = some (nI 0, x)) := by
  by_cases c : t < 0
  · have nb : ¬ BgI F cd N t := by
      rintro ⟨i, h1, h2⟩
      have h4 := (hC.2.2 i h1).1
      rw [← h2] at c
      exact nI_ge0 (by omega) c
    refine ⟨fun h => absurd h nb, fun _ => ?_⟩
    unfold f_Rd_beginsAt
    rw [if_pos c]
    rfl
  · obtain ⟨o, ho, rfl⟩ := nI_of c
    by_cases c2 : o < ln
    · constructor
      · rintro ⟨j, hj, hs⟩
        have h4 := (hC.2.2 j hj).1
        have e := nInj (by omega) ho hs
        have b := hB.1 j hj
        rw [e] at b
        unfold f_Rd_beginsAt
        simp (disch := omega) only [nA, nS, nM, nLT, nLF, nTT, nTF, nEF, nET, nBT, nBF, nC, nNF, jj_b1, jj_b2, js, jn, eq_self, if_true, if_false, ite_true, ite_false, ↓reduceIte, and_self, true_and, and_true, zb0, zb1, bM, bR, bCk, bMa, Bool.false_eq_true, Bool.and_self, Bool.and_true, Bool.true_and, li_0, li_1, li_2, li_3, li_4, li_5, li_6, li_7, li_8, li_16, li_18, li_21, li_25, li_46, li_54, li_58, li_60, li_79, li_87, li_89, li_95, li_96, li_100, li_104, li_108, li_116, li_127, li_128, li_132, li_153, li_158, li_159, li_164, li_167, li_172, li_176, li_177, li_184, li_188, li_190, li_198, li_199, li_200, li_202, li_240, li_255, li_256, li_32767, li_32768, li_65536, h6, b]
      · intro nb
        have b := hB.2 o (by omega) (fun j hj e => nb ⟨j, hj, by rw [e]⟩)
        unfold f_Rd_beginsAt
        simp (disch := omega) only [nA, nS, nM, nLT, nLF, nTT, nTF, nEF, nET, nBT, nBF, nC, nNF, jj_b1, jj_b2, js, jn, eq_self, if_true, if_false, ite_true, ite_false, ↓reduceIte, and_self, true_and, and_true, zb0, zb1, bM, bR, bCk, bMa, Bool.false_eq_true, Bool.and_self, Bool.and_true, Bool.true_and, li_0, li_1, li_2, li_3, li_4, li_5, li_6, li_7, li_8, li_16, li_18, li_21, li_25, li_46, li_54, li_58, li_60, li_79, li_87, li_89, li_95, li_96, li_100, li_104, li_108, li_116, li_127, li_128, li_132, li_153, li_158, li_159, li_164, li_167, li_172, li_176, li_177, li_184, li_188, li_190, li_198, li_199, li_200, li_202, li_240, li_255, li_256, li_32767, li_32768, li_65536, h6, b]
    · have nb : ¬ BgI F cd N (nI o) := by
        rintro ⟨i, h1, h2⟩
        have h4 := (hC.2.2 i h1).1
        have := nInj (by omega) ho h2
        omega
      refine ⟨fun h => absurd h nb, fun _ => ?_⟩
      unfold f_Rd_beginsAt
      simp (disch := omega) only [nA, nS, nM, nLT, nLF, nTT, nTF, nEF, nET, nBT, nBF, nC, nNF, jj_b1, jj_b2, js, jn, eq_self, if_true, if_false, ite_true, ite_false, ↓reduceIte, and_self, true_and, and_true, zb0, zb1, bM, bR, bCk, bMa, Bool.false_eq_true, Bool.and_self, Bool.and_true, Bool.true_and, li_0, li_1, li_2, li_3, li_4, li_5, li_6, li_7, li_8, li_16, li_18, li_21, li_25, li_46, li_54, li_58, li_60, li_79, li_87, li_89, li_95, li_96, li_100, li_104, li_108, li_116, li_127, li_128, li_132, li_153, li_158, li_159, li_164, li_167, li_172, li_176, li_177, li_184, li_188, li_190, li_198, li_199, li_200, li_202, li_240, li_255, li_256, li_32767, li_32768, li_65536, h6]
/-- where a jump at offset o leads; p is its place in the file -/
def tgt (F : Nat → Nat) (p o : Nat) : Int32 := if F (p + 1) * 256 + F (p + 2) < 32768 then nI o + nI (F (p + 1) * 256 + F (p + 2)) else nI o + (nI (F (p + 1) * 256 + F (p + 2)) - nI 65536)
def TgOK (F : Nat → Nat) (cd N : Nat) : Prop := ∀ j, j < N → z_jmp (F (cd + st F cd j)) = true → BgI F cd N (tgt F (cd + st F cd j) (st F cd j))
theorem pr_code {x : jj_Mem} {o : Nat} (h5 : x q 5 = nI cd) (hx : ∀ k, k < n → x (S + 1) k = nI (F k)) (hn : cd + o < n) (h240 : n ≤ 240) : f_Pr_code S q (nI o) x = some (nI (F (cd + o)), x) := by
  have e := hx (cd + o) hn
  unfold f_Pr_code
  simp (disch := omega) only [nA, nS, nM, nLT, nLF, nTT, nTF, nEF, nET, nBT, nBF, nC, nNF, jj_b1, jj_b2, js, jn, eq_self, if_true, if_false, ite_true, ite_false, ↓reduceIte, and_self, true_and, and_true, zb0, zb1, bM, bR, bCk, bMa, Bool.false_eq_true, Bool.and_self, Bool.and_true, Bool.true_and, li_0, li_1, li_2, li_3, li_4, li_5, li_6, li_7, li_8, li_16, li_18, li_21, li_25, li_46, li_54, li_58, li_60, li_79, li_87, li_89, li_95, li_96, li_100, li_104, li_108, li_116, li_127, li_128, li_132, li_153, li_158, li_159, li_164, li_167, li_172, li_176, li_177, li_184, li_188, li_190, li_198, li_199, li_200, li_202, li_240, li_255, li_256, li_32767, li_32768, li_65536, h5, e]
theorem pr_target {x : jj_Mem} {o : Nat} (hF : By F n) (h5 : x q 5 = nI cd) (hx : ∀ k, k < n → x (S + 1) k = nI (F k)) (hn : cd + o + 2 < n) : f_Pr_target S q (nI o) x = some (tgt F (cd + o) o, x) := by
  have h240 := hF.1
  have e1 := pr_code (S := S) (o := o + 1) h5 hx (by omega) h240
  have e2 := pr_code (S := S) (o := o + 2) h5 hx (by omega) h240
  have f1 := hF.2 (cd + (o + 1)) (by omega)
  have f2 := hF.2 (cd + (o + 2)) (by omega)
  unfold f_Pr_target tgt
  rw [show cd + (o + 1) = cd + o + 1 by omega] at e1 f1
  rw [show cd + (o + 2) = cd + o + 2 by omega] at e2 f2
  by_cases c : F (cd + o + 1) * 256 + F (cd + o + 2) < 32768
  · simp (disch := omega) only [nA, nS, nM, nLT, nLF, nTT, nTF, nEF, nET, nBT, nBF, nC, nNF, jj_b1, jj_b2, js, jn, eq_self, if_true, if_false, ite_true, ite_false, ↓reduceIte, and_self, true_and, and_true, zb0, zb1, bM, bR, bCk, bMa, Bool.false_eq_true, Bool.and_self, Bool.and_true, Bool.true_and, li_0, li_1, li_2, li_3, li_4, li_5, li_6, li_7, li_8, li_16, li_18, li_21, li_25, li_46, li_54, li_58, li_60, li_79, li_87, li_89, li_95, li_96, li_100, li_104, li_108, li_116, li_127, li_128, li_132, li_153, li_158, li_159, li_164, li_167, li_172, li_176, li_177, li_184, li_188, li_190, li_198, li_199, li_200, li_202, li_240, li_255, li_256, li_32767, li_32768, li_65536, e1, e2, c]
  · simp (disch := omega) only [nA, nS, nM, nLT, nLF, nTT, nTF, nEF, nET, nBT, nBF, nC, nNF, jj_b1, jj_b2, js, jn, eq_self, if_true, if_false, ite_true, ite_false, ↓reduceIte, and_self, true_and, and_true, zb0, zb1, bM, bR, bCk, bMa, Bool.false_eq_true, Bool.and_self, Bool.and_true, Bool.true_and, li_0, li_1, li_2, li_3, li_4, li_5, li_6, li_7, li_8, li_16, li_18, li_21, li_25, li_46, li_54, li_58, li_60, li_79, li_87, li_89, li_95, li_96, li_100, li_104, li_108, li_116, li_127, li_128, li_132, li_153, li_158, li_159, li_164, li_167, li_172, li_176, li_177, li_184, li_188, li_190, li_198, li_199, li_200, li_202, li_240, li_255, li_256, li_32767, li_32768, li_65536, e1, e2, c]
theorem mo_jump {y : jj_Mem} {o p : Nat} (f1 : F (p + 1) < 256) (f2 : F (p + 2) < 256) : ∃ v, f_Mo_jump (nI (F (p + 1))) (nI (F (p + 2))) y = some (v, y) ∧ nI o + v = tgt F p o := by
  unfold tgt f_Mo_jump
  by_cases c : F (p + 1) * 256 + F (p + 2) < 32768
  · refine ⟨nI (F (p + 1) * 256 + F (p + 2)), ?_, by rw [if_pos c]⟩
    simp (disch := omega) only [nA, nS, nM, nLT, nLF, nTT, nTF, nEF, nET, nBT, nBF, nC, nNF, jj_b1, jj_b2, js, jn, eq_self, if_true, if_false, ite_true, ite_false, ↓reduceIte, and_self, true_and, and_true, zb0, zb1, bM, bR, bCk, bMa, Bool.false_eq_true, Bool.and_self, Bool.and_true, Bool.true_and, li_0, li_1, li_2, li_3, li_4, li_5, li_6, li_7, li_8, li_16, li_18, li_21, li_25, li_46, li_54, li_58, li_60, li_79, li_87, li_89, li_95, li_96, li_100, li_104, li_108, li_116, li_127, li_128, li_132, li_153, li_158, li_159, li_164, li_167, li_172, li_176, li_177, li_184, li_188, li_190, li_198, li_199, li_200, li_202, li_240, li_255, li_256, li_32767, li_32768, li_65536, Nat.mul_comm 256]
  · refine ⟨nI (F (p + 1) * 256 + F (p + 2)) - nI 65536, ?_, by rw [if_neg c]⟩
    simp (disch := omega) only [nA, nS, nM, nLT, nLF, nTT, nTF, nEF, nET, nBT, nBF, nC, nNF, jj_b1, jj_b2, js, jn, eq_self, if_true, if_false, ite_true, ite_false, ↓reduceIte, and_self, true_and, and_true, zb0, zb1, bM, bR, bCk, bMa, Bool.false_eq_true, Bool.and_self, Bool.and_true, Bool.true_and, li_0, li_1, li_2, li_3, li_4, li_5, li_6, li_7, li_8, li_16, li_18, li_21, li_25, li_46, li_54, li_58, li_60, li_79, li_87, li_89, li_95, li_96, li_100, li_104, li_108, li_116, li_127, li_128, li_132, li_153, li_158, li_159, li_164, li_167, li_172, li_176, li_177, li_184, li_188, li_190, li_198, li_199, li_200, li_202, li_240, li_255, li_256, li_32767, li_32768, li_65536, Nat.mul_comm 256]
theorem z_j3 : ∀ b, b < 256 → z_jmp b = true → z_len b = 3 := by decide +kernel
theorem rd_targets {x : jj_Mem} (hS : o_Pr S) (hq : o_Me q) (hF : By F n) (hC : CodeOK F cd ln cc mc pl N) (hln : ln ≤ 60) (hn : cd + ln ≤ n) (h5 : x q 5 = nI cd) (h6 : x q 6 = nI ln) (hx : ∀ k, k < n → x (S + 1) k = nI (F k)) (hB : BgC F cd N x) : ∀ (r k f : Nat), k + r = ln → r < f →
    ((∀ j, j < N → k ≤ st F cd j → z_jmp (F (cd + st F cd j)) = true → BgI F cd N (tgt F (cd + st F cd j) (st F cd j))) → g_Rd_targetsBegin f 2 [some (.ref 24), some (.ref S), some (.ref q), some (.int (nI k))] x = some (nI 1, x)) ∧
    (¬ (∀ j, j < N → k ≤ st F cd j → z_jmp (F (cd + st F cd j)) = true → BgI F cd N (tgt F (cd + st F cd j) (st F cd j))) → g_Rd_targetsBegin f 2 [some (.ref 24), some (.ref S), some (.ref q), some (.int (nI k))] x = some (nI 0, x)) := by
  have h240 := hF.1
  have bS : bo_Pr S = true := hS
  have bq : bo_Me q = true := hq
  intro r
  induction r with
  | zero =>
    intro k f hk hf
    obtain ⟨f, rfl⟩ : ∃ g, f = g + 1 := ⟨f - 1, by omega⟩
    refine ⟨fun _ => ?_, fun h => absurd (fun j hj hk2 _ => ?_) h⟩
    · simp (disch := omega) only [nA, nS, nM, nLT, nLF, nTT, nTF, nEF, nET, nBT, nBF, nC, nNF, jj_b1, jj_b2, js, jn, eq_self, if_true, if_false, ite_true, ite_false, ↓reduceIte, and_self, true_and, and_true, zb0, zb1, bM, bR, bCk, bMa, Bool.false_eq_true, Bool.and_self, Bool.and_true, Bool.true_and, li_0, li_1, li_2, li_3, li_4, li_5, li_6, li_7, li_8, li_16, li_18, li_21, li_25, li_46, li_54, li_58, li_60, li_79, li_87, li_89, li_95, li_96, li_100, li_104, li_108, li_116, li_127, li_128, li_132, li_153, li_158, li_159, li_164, li_167, li_172, li_176, li_177, li_184, li_188, li_190, li_198, li_199, li_200, li_202, li_240, li_255, li_256, li_32767, li_32768, li_65536, g_Rd_targetsBegin, k_Rd_targetsBegin_2, bS, bq, h6]
    · have := (hC.2.2 j hj).1
      omega
  | succ r ih =>
    intro k f hk hf
    obtain ⟨f, rfl⟩ : ∃ g, f = g + 1 := ⟨f - 1, by omega⟩
    have U : g_Rd_targetsBegin (f + 1) 2 [some (.ref 24), some (.ref S), some (.ref q), some (.int (nI k))] x = k_Rd_targetsBegin_2 (g_Rd_targetsBegin f) 24 S q (nI k) x := by
      rw [show g_Rd_targetsBegin (f + 1) 2 [some (.ref 24), some (.ref S), some (.ref q), some (.int (nI k))] x = if (bo_Rd 24 && bo_Pr S && bo_Me q) = true then k_Rd_targetsBegin_2 (g_Rd_targetsBegin f) 24 S q (nI k) x else none from rfl]
      simp (disch := omega) only [nA, nS, nM, nLT, nLF, nTT, nTF, nEF, nET, nBT, nBF, nC, nNF, jj_b1, jj_b2, js, jn, eq_self, if_true, if_false, ite_true, ite_false, ↓reduceIte, and_self, true_and, and_true, zb0, zb1, bM, bR, bCk, bMa, Bool.false_eq_true, Bool.and_self, Bool.and_true, Bool.true_and, li_0, li_1, li_2, li_3, li_4, li_5, li_6, li_7, li_8, li_16, li_18, li_21, li_25, li_46, li_54, li_58, li_60, li_79, li_87, li_89, li_95, li_96, li_100, li_104, li_108, li_116, li_127, li_128, li_132, li_153, li_158, li_159, li_164, li_167, li_172, li_176, li_177, li_184, li_188, li_190, li_198, li_199, li_200, li_202, li_240, li_255, li_256, li_32767, li_32768, li_65536, bS, bq]
    rw [U]
    have I := ih (k + 1) f (by omega) (by omega)
    by_cases c : ∃ j, j < N ∧ st F cd j = k
    · obtain ⟨j, hj, hjk⟩ := c
      have b := hB.1 j hj
      rw [hjk] at b
      have e1 := pr_code (S := S) (o := k) h5 hx (by omega) h240
      have hb := hF.2 (cd + k) (by omega)
      have ok := (hC.2.2 j hj).2
      rw [hjk] at ok
      have e2 := zt_hasTarget _ hb ok.1
      by_cases c2 : z_jmp (F (cd + k)) = true
      · have l3 := z_j3 _ hb c2
        have ok2 := ok.2.1
        have e3 := pr_target (S := S) (o := k) hF h5 hx (by omega)
        have R := rd_begins hC hln h6 hB (tgt F (cd + k) k)
        by_cases c3 : BgI F cd N (tgt F (cd + k) k)
        · have R1 := R.1 c3
          simp (disch := omega) only [nA, nS, nM, nLT, nLF, nTT, nTF, nEF, nET, nBT, nBF, nC, nNF, jj_b1, jj_b2, js, jn, eq_self, if_true, if_false, ite_true, ite_false, ↓reduceIte, and_self, true_and, and_true, zb0, zb1, bM, bR, bCk, bMa, Bool.false_eq_true, Bool.and_self, Bool.and_true, Bool.true_and, li_0, li_1, li_2, li_3, li_4, li_5, li_6, li_7, li_8, li_16, li_18, li_21, li_25, li_46, li_54, li_58, li_60, li_79, li_87, li_89, li_95, li_96, li_100, li_104, li_108, li_116, li_127, li_128, li_132, li_153, li_158, li_159, li_164, li_167, li_172, li_176, li_177, li_184, li_188, li_190, li_198, li_199, li_200, li_202, li_240, li_255, li_256, li_32767, li_32768, li_65536, k_Rd_targetsBegin_2, k_Rd_targetsBegin_47, h6, b, e1, e2, c2, z_b, e3, R1]
          refine ⟨fun h => I.1 (fun i h1 h2 => h i h1 (by omega)), fun h => I.2 (fun g => h (fun i h1 h2 h3 => ?_))⟩
          by_cases c4 : st F cd i = k
          · rw [c4]; exact c3
          · exact g i h1 (by omega) h3
        · have R1 := R.2 c3
          simp (disch := omega) only [nA, nS, nM, nLT, nLF, nTT, nTF, nEF, nET, nBT, nBF, nC, nNF, jj_b1, jj_b2, js, jn, eq_self, if_true, if_false, ite_true, ite_false, ↓reduceIte, and_self, true_and, and_true, zb0, zb1, bM, bR, bCk, bMa, Bool.false_eq_true, Bool.and_self, Bool.and_true, Bool.true_and, li_0, li_1, li_2, li_3, li_4, li_5, li_6, li_7, li_8, li_16, li_18, li_21, li_25, li_46, li_54, li_58, li_60, li_79, li_87, li_89, li_95, li_96, li_100, li_104, li_108, li_116, li_127, li_128, li_132, li_153, li_158, li_159, li_164, li_167, li_172, li_176, li_177, li_184, li_188, li_190, li_198, li_199, li_200, li_202, li_240, li_255, li_256, li_32767, li_32768, li_65536, k_Rd_targetsBegin_2, k_Rd_targetsBegin_47, h6, b, e1, e2, c2, z_b, e3, R1]
          refine ⟨fun h => absurd (h j hj (by omega) (by rw [hjk]; exact c2)) (by rw [hjk]; exact c3), fun _ => trivial⟩
      · simp (disch := omega) only [nA, nS, nM, nLT, nLF, nTT, nTF, nEF, nET, nBT, nBF, nC, nNF, jj_b1, jj_b2, js, jn, eq_self, if_true, if_false, ite_true, ite_false, ↓reduceIte, and_self, true_and, and_true, zb0, zb1, bM, bR, bCk, bMa, Bool.false_eq_true, Bool.and_self, Bool.and_true, Bool.true_and, li_0, li_1, li_2, li_3, li_4, li_5, li_6, li_7, li_8, li_16, li_18, li_21, li_25, li_46, li_54, li_58, li_60, li_79, li_87, li_89, li_95, li_96, li_100, li_104, li_108, li_116, li_127, li_128, li_132, li_153, li_158, li_159, li_164, li_167, li_172, li_176, li_177, li_184, li_188, li_190, li_198, li_199, li_200, li_202, li_240, li_255, li_256, li_32767, li_32768, li_65536, k_Rd_targetsBegin_2, k_Rd_targetsBegin_47, h6, b, e1, e2, c2, z_b]
        refine ⟨fun h => I.1 (fun i h1 h2 => h i h1 (by omega)), fun h => I.2 (fun g => h (fun i h1 h2 h3 => ?_))⟩
        by_cases c4 : st F cd i = k
        · rw [c4] at h3; exact absurd h3 c2
        · exact g i h1 (by omega) h3
    · have b := hB.2 k (by omega) (fun j hj e => c ⟨j, hj, e⟩)
      simp (disch := omega) only [nA, nS, nM, nLT, nLF, nTT, nTF, nEF, nET, nBT, nBF, nC, nNF, jj_b1, jj_b2, js, jn, eq_self, if_true, if_false, ite_true, ite_false, ↓reduceIte, and_self, true_and, and_true, zb0, zb1, bM, bR, bCk, bMa, Bool.false_eq_true, Bool.and_self, Bool.and_true, Bool.true_and, li_0, li_1, li_2, li_3, li_4, li_5, li_6, li_7, li_8, li_16, li_18, li_21, li_25, li_46, li_54, li_58, li_60, li_79, li_87, li_89, li_95, li_96, li_100, li_104, li_108, li_116, li_127, li_128, li_132, li_153, li_158, li_159, li_164, li_167, li_172, li_176, li_177, li_184, li_188, li_190, li_198, li_199, li_200, li_202, li_240, li_255, li_256, li_32767, li_32768, li_65536, k_Rd_targetsBegin_2, k_Rd_targetsBegin_47, h6, b]
      refine ⟨fun h => I.1 (fun i h1 h2 => h i h1 (by omega)), fun h => I.2 (fun g => h (fun i h1 h2 h3 => ?_))⟩
      by_cases c4 : st F cd i = k
      · exact absurd ⟨i, h1, c4⟩ c
      · exact g i h1 (by omega) h3
theorem mo_targets {y : jj_Mem} (hF : By F n) (hC : CodeOK F cd ln cc mc pl N) (hl1 : 1 ≤ ln) (hln : ln ≤ 60) (hn : cd + ln ≤ n) (hy : ∀ k, k < n → y 59 k = nI (F k)) : ∀ (r j f g : Nat), j + r = N → r < f → g ≤ 1 →
    ((g = 1 ∧ ∀ i, i < N → j ≤ i → z_jmp (F (cd + st F cd i)) = true → BgI F cd N (tgt F (cd + st F cd i) (st F cd i))) → g_Mo_targetsFit f 5 [some (.ref 58), some (.int (nI cd)), some (.int (nI ln)), some (.int (nI g)), some (.int (nI (st F cd j))), none] y = some (nI 1, y)) ∧
    (¬ (g = 1 ∧ ∀ i, i < N → j ≤ i → z_jmp (F (cd + st F cd i)) = true → BgI F cd N (tgt F (cd + st F cd i) (st F cd i))) → g_Mo_targetsFit f 5 [some (.ref 58), some (.int (nI cd)), some (.int (nI ln)), some (.int (nI g)), some (.int (nI (st F cd j))), none] y = some (nI 0, y)) := by
  have h240 := hF.1
  intro r
  induction r with
  | zero =>
    intro j f g hj hf hg
    obtain ⟨f, rfl⟩ : ∃ g, f = g + 1 := ⟨f - 1, by omega⟩
    have e : st F cd j = ln := by rw [show j = N by omega]; exact hC.2.1
    rw [e]
    by_cases c : g = 1
    · subst c
      refine ⟨fun _ => ?_, fun h => absurd ⟨rfl, fun i h1 h2 => by omega⟩ h⟩
      simp (disch := omega) only [nA, nS, nM, nLT, nLF, nTT, nTF, nEF, nET, nBT, nBF, nC, nNF, jj_b1, jj_b2, js, jn, eq_self, if_true, if_false, ite_true, ite_false, ↓reduceIte, and_self, true_and, and_true, zb0, zb1, bM, bR, bCk, bMa, Bool.false_eq_true, Bool.and_self, Bool.and_true, Bool.true_and, li_0, li_1, li_2, li_3, li_4, li_5, li_6, li_7, li_8, li_16, li_18, li_21, li_25, li_46, li_54, li_58, li_60, li_79, li_87, li_89, li_95, li_96, li_100, li_104, li_108, li_116, li_127, li_128, li_132, li_153, li_158, li_159, li_164, li_167, li_172, li_176, li_177, li_184, li_188, li_190, li_198, li_199, li_200, li_202, li_240, li_255, li_256, li_32767, li_32768, li_65536, g_Mo_targetsFit, k_Mo_targetsFit_5]
    · have : g = 0 := by omega
      subst this
      refine ⟨fun h => absurd h.1 c, fun _ => ?_⟩
      simp (disch := omega) only [nA, nS, nM, nLT, nLF, nTT, nTF, nEF, nET, nBT, nBF, nC, nNF, jj_b1, jj_b2, js, jn, eq_self, if_true, if_false, ite_true, ite_false, ↓reduceIte, and_self, true_and, and_true, zb0, zb1, bM, bR, bCk, bMa, Bool.false_eq_true, Bool.and_self, Bool.and_true, Bool.true_and, li_0, li_1, li_2, li_3, li_4, li_5, li_6, li_7, li_8, li_16, li_18, li_21, li_25, li_46, li_54, li_58, li_60, li_79, li_87, li_89, li_95, li_96, li_100, li_104, li_108, li_116, li_127, li_128, li_132, li_153, li_158, li_159, li_164, li_167, li_172, li_176, li_177, li_184, li_188, li_190, li_198, li_199, li_200, li_202, li_240, li_255, li_256, li_32767, li_32768, li_65536, g_Mo_targetsFit, k_Mo_targetsFit_5]
  | succ r ih =>
    intro j f g hj hf hg
    obtain ⟨f, rfl⟩ : ∃ g, f = g + 1 := ⟨f - 1, by omega⟩
    have hlt := (hC.2.2 j (by omega)).1
    have ok := (hC.2.2 j (by omega)).2
    have hy1 := hy (cd + st F cd j) (by omega)
    have hb := hF.2 (cd + st F cd j) (by omega)
    have e2 := zm_bytes _ hb
    have e3 := zm_jumps _ hb ok.1
    have U : g_Mo_targetsFit (f + 1) 5 [some (.ref 58), some (.int (nI cd)), some (.int (nI ln)), some (.int (nI g)), some (.int (nI (st F cd j))), none] y = k_Mo_targetsFit_5 (g_Mo_targetsFit f) 58 (nI cd) (nI ln) (nI g) (nI (st F cd j)) y := rfl
    rw [U]
    by_cases c : g = 0
    · subst c
      have I := ih (j + 1) f 0 (by omega) (by omega) (by omega)
      simp (disch := omega) only [nA, nS, nM, nLT, nLF, nTT, nTF, nEF, nET, nBT, nBF, nC, nNF, jj_b1, jj_b2, js, jn, eq_self, if_true, if_false, ite_true, ite_false, ↓reduceIte, and_self, true_and, and_true, zb0, zb1, bM, bR, bCk, bMa, Bool.false_eq_true, Bool.and_self, Bool.and_true, Bool.true_and, li_0, li_1, li_2, li_3, li_4, li_5, li_6, li_7, li_8, li_16, li_18, li_21, li_25, li_46, li_54, li_58, li_60, li_79, li_87, li_89, li_95, li_96, li_100, li_104, li_108, li_116, li_127, li_128, li_132, li_153, li_158, li_159, li_164, li_167, li_172, li_176, li_177, li_184, li_188, li_190, li_198, li_199, li_200, li_202, li_240, li_255, li_256, li_32767, li_32768, li_65536, k_Mo_targetsFit_5, k_Mo_targetsFit_71, k_Mo_targetsFit_72, hy1, e2]
      rw [← st_succ]
      exact ⟨fun h => absurd h.1 (by decide), fun _ => I.2 (fun h => absurd h.1 (by decide))⟩
    · have : g = 1 := by omega
      subst this
      have I1 := ih (j + 1) f 1 (by omega) (by omega) (by omega)
      have I0 := (ih (j + 1) f 0 (by omega) (by omega) (by omega)).2 (fun h => absurd h.1 (by decide))
      by_cases c2 : z_jmp (F (cd + st F cd j)) = true
      · have l3 := z_j3 _ hb c2
        have ok2 := ok.2.1
        have p1 := hF.2 (cd + st F cd j + 1) (by omega)
        have p2 := hF.2 (cd + st F cd j + 2) (by omega)
        have q1 := hy (cd + st F cd j + 1) (by omega)
        have q2 := hy (cd + st F cd j + 2) (by omega)
        obtain ⟨v, v1, v2⟩ := mo_jump (y := y) (o := st F cd j) p1 p2
        have R := mo_begins hF hC hl1 hln hn hy (tgt F (cd + st F cd j) (st F cd j))
        by_cases c3 : BgI F cd N (tgt F (cd + st F cd j) (st F cd j))
        · have R1 := R.1 c3
          simp (disch := omega) only [nA, nS, nM, nLT, nLF, nTT, nTF, nEF, nET, nBT, nBF, nC, nNF, jj_b1, jj_b2, js, jn, eq_self, if_true, if_false, ite_true, ite_false, ↓reduceIte, and_self, true_and, and_true, zb0, zb1, bM, bR, bCk, bMa, Bool.false_eq_true, Bool.and_self, Bool.and_true, Bool.true_and, li_0, li_1, li_2, li_3, li_4, li_5, li_6, li_7, li_8, li_16, li_18, li_21, li_25, li_46, li_54, li_58, li_60, li_79, li_87, li_89, li_95, li_96, li_100, li_104, li_108, li_116, li_127, li_128, li_132, li_153, li_158, li_159, li_164, li_167, li_172, li_176, li_177, li_184, li_188, li_190, li_198, li_199, li_200, li_202, li_240, li_255, li_256, li_32767, li_32768, li_65536, k_Mo_targetsFit_5, k_Mo_targetsFit_67, k_Mo_targetsFit_72, hy1, e2, e3, c2, z_b, q1, q2, v1, v2, R1]
          rw [← st_succ]
          refine ⟨fun h => I1.1 ⟨rfl, fun i h1 h2 => h i h1 (by omega)⟩, fun h => I1.2 (fun g => h (fun i h1 h2 h3 => ?_))⟩
          by_cases c4 : i = j
          · rw [c4]; exact c3
          · exact g.2 i h1 (by omega) h3
        · have R1 := R.2 c3
          simp (disch := omega) only [nA, nS, nM, nLT, nLF, nTT, nTF, nEF, nET, nBT, nBF, nC, nNF, jj_b1, jj_b2, js, jn, eq_self, if_true, if_false, ite_true, ite_false, ↓reduceIte, and_self, true_and, and_true, zb0, zb1, bM, bR, bCk, bMa, Bool.false_eq_true, Bool.and_self, Bool.and_true, Bool.true_and, li_0, li_1, li_2, li_3, li_4, li_5, li_6, li_7, li_8, li_16, li_18, li_21, li_25, li_46, li_54, li_58, li_60, li_79, li_87, li_89, li_95, li_96, li_100, li_104, li_108, li_116, li_127, li_128, li_132, li_153, li_158, li_159, li_164, li_167, li_172, li_176, li_177, li_184, li_188, li_190, li_198, li_199, li_200, li_202, li_240, li_255, li_256, li_32767, li_32768, li_65536, k_Mo_targetsFit_5, k_Mo_targetsFit_71, k_Mo_targetsFit_72, hy1, e2, e3, c2, z_b, q1, q2, v1, v2, R1]
          rw [← st_succ]
          exact ⟨fun h => absurd (h j (by omega) (by omega) c2) c3, fun _ => I0⟩
      · simp (disch := omega) only [nA, nS, nM, nLT, nLF, nTT, nTF, nEF, nET, nBT, nBF, nC, nNF, jj_b1, jj_b2, js, jn, eq_self, if_true, if_false, ite_true, ite_false, ↓reduceIte, and_self, true_and, and_true, zb0, zb1, bM, bR, bCk, bMa, Bool.false_eq_true, Bool.and_self, Bool.and_true, Bool.true_and, li_0, li_1, li_2, li_3, li_4, li_5, li_6, li_7, li_8, li_16, li_18, li_21, li_25, li_46, li_54, li_58, li_60, li_79, li_87, li_89, li_95, li_96, li_100, li_104, li_108, li_116, li_127, li_128, li_132, li_153, li_158, li_159, li_164, li_167, li_172, li_176, li_177, li_184, li_188, li_190, li_198, li_199, li_200, li_202, li_240, li_255, li_256, li_32767, li_32768, li_65536, k_Mo_targetsFit_5, k_Mo_targetsFit_67, k_Mo_targetsFit_72, hy1, e2, e3, c2, z_b]
        rw [← st_succ]
        refine ⟨fun h => I1.1 ⟨rfl, fun i h1 h2 => h i h1 (by omega)⟩, fun h => I1.2 (fun g => h (fun i h1 h2 h3 => ?_))⟩
        by_cases c4 : i = j
        · rw [c4] at h3; exact absurd h3 c2
        · exact g.2 i h1 (by omega) h3
end BEG
