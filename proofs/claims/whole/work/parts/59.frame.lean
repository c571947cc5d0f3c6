/-! PURE: frames, on both sides -/
def fh (K : Nat → Nat) (b i : Nat) : Nat := K (m_fr K b i + 1 + m_pl K b)
def fp (K : Nat → Nat) (b i : Nat) : Nat → Nat := fun k => if k < m_pl K b then K (m_fr K b i + 1 + k) else 0
def fs (K : Nat → Nat) (b i : Nat) : Nat → Nat := fun k => if k < fh K b i then K (m_fr K b i + 2 + m_pl K b + k) else 0
/-- the state is good for frame i -/
def GF (K : Nat → Nat) (b i : Nat) (pk sk : Nat → Nat) (h : Nat) : Prop := h = fh K b i ∧ (∀ k, k < m_pl K b → zgood (pk k) (K (m_fr K b i + 1 + k))) ∧ ∀ k, k < h → zgood (sk k) (K (m_fr K b i + 2 + m_pl K b + k))
section FRAME
variable {K : Nat → Nat} {n b N P q h i : Nat} {x y : jj_Mem} {pk sk : Nat → Nat}
theorem fr_ok (hM : MtOK K n (K 1) (mcn K) b N) (hi : i < m_fc K b) : FrOK K n (m_ln K b) (m_pl K b) (m_dp K b) (m_fr K b i) := (hM.2.2.2.2.1 i hi).2.1
theorem fr_off (hM : MtOK K n (K 1) (mcn K) b N) : ∀ (r i : Nat), i + r + 1 < m_fc K b → K (m_fr K b i) < K (m_fr K b (i + r + 1))
  | 0, i, h => by
    have := (hM.2.2.2.2.1 (i + 1) (by omega)).1
    have e : frlo K (m_f0 K b) (m_pl K b) (i + 1) = K (m_fr K b i) + 1 := rfl
    rw [e] at this
    show K (m_fr K b i) < K (m_fr K b (i + 1))
    omega
  | r + 1, i, h => by
    have h1 := fr_off hM r i (by omega)
    have := (hM.2.2.2.2.1 (i + r + 1 + 1) (by omega)).1
    have e : frlo K (m_f0 K b) (m_pl K b) (i + r + 1 + 1) = K (m_fr K b (i + r + 1)) + 1 := rfl
    rw [e] at this
    show K (m_fr K b i) < K (m_fr K b (i + r + 1 + 1))
    omega
theorem fr_lt2 (hM : MtOK K n (K 1) (mcn K) b N) {j : Nat} (hij : i < j) (hj : j < m_fc K b) : K (m_fr K b i) < K (m_fr K b j) := by
  have := fr_off hM (j - i - 1) i (by omega)
  rw [show i + (j - i - 1) + 1 = j by omega] at this
  exact this
theorem pr_frameAt (hP : o_Pr P) (hq : o_Me q) (hF : By K n) (hM : MtOK K n (K 1) (mcn K) b N) (hx : ∀ k, k < n → x (P + 1) k = nI (K k)) (hC : MtC K b q x) (t : Int32) :
    ((∀ i, i < m_fc K b → nI (K (m_fr K b i)) ≠ t) → f_Pr_frameAt P q t x = some (-nI 1, x)) ∧ (∀ i, i < m_fc K b → nI (K (m_fr K b i)) = t → f_Pr_frameAt P q t x = some (nI i, x)) := by
  have h240 := hF.1
  have bP : bo_Pr P = true := hP
  have bq : bo_Me q = true := hq
  have h7 := hC.2.1
  have h8 := hM.2.2.2.1
  have G : ∀ (r k f : Nat), k + r = m_fc K b → r < f → ((∀ i, k ≤ i → i < m_fc K b → nI (K (m_fr K b i)) ≠ t) → g_Pr_frameAt f 2 [some (.ref P), some (.ref q), some (.int t), some (.int (nI k))] x = some (-nI 1, x)) ∧ (∀ i, k ≤ i → i < m_fc K b → nI (K (m_fr K b i)) = t → g_Pr_frameAt f 2 [some (.ref P), some (.ref q), some (.int t), some (.int (nI k))] x = some (nI i, x)) := by
    intro r
    induction r with
    | zero =>
      intro k f hk hf
      obtain ⟨f, rfl⟩ : ∃ g, f = g + 1 := ⟨f - 1, by omega⟩
      refine ⟨fun _ => ?_, fun i h1 h2 => by omega⟩
      simp (disch := omega) only [nA, nS, nM, nLT, nLF, nTT, nTF, nEF, nET, nBT, nBF, nC, nNG, nNL, jj_b1, jj_b2, js, jn, eq_self, if_true, if_false, ite_true, ite_false, ↓reduceIte, and_self, true_and, and_true, zb0, zb1, bM, bR, bCk, bMa, Bool.false_eq_true, Bool.and_self, Bool.and_true, Bool.true_and, li_0, li_1, li_2, li_3, li_4, li_5, li_6, li_7, li_8, li_16, li_18, li_21, li_25, li_46, li_54, li_58, li_60, li_79, li_87, li_89, li_95, li_96, li_100, li_104, li_108, li_116, li_127, li_128, li_132, li_153, li_158, li_159, li_164, li_167, li_172, li_176, li_177, li_184, li_188, li_190, li_198, li_199, li_200, li_202, li_240, li_255, li_256, li_32767, li_32768, li_65536, g_Pr_frameAt, k_Pr_frameAt_2, bP, bq, h7]
    | succ r ih =>
      intro k f hk hf
      obtain ⟨f, rfl⟩ : ∃ g, f = g + 1 := ⟨f - 1, by omega⟩
      have I := ih (k + 1) f (by omega) (by omega)
      have a1 := hC.2.2 k (by omega)
      have a2 := (fr_ok hM (i := k) (by omega)).2.2.2.2
      have a3 := hx (m_fr K b k) (by omega)
      have U : g_Pr_frameAt (f + 1) 2 [some (.ref P), some (.ref q), some (.int t), some (.int (nI k))] x = k_Pr_frameAt_2 (g_Pr_frameAt f) P q t (nI k) x := by
        rw [show g_Pr_frameAt (f + 1) 2 [some (.ref P), some (.ref q), some (.int t), some (.int (nI k))] x = if (bo_Pr P && bo_Me q) = true then k_Pr_frameAt_2 (g_Pr_frameAt f) P q t (nI k) x else none from rfl]
        simp (disch := omega) only [nA, nS, nM, nLT, nLF, nTT, nTF, nEF, nET, nBT, nBF, nC, nNG, nNL, jj_b1, jj_b2, js, jn, eq_self, if_true, if_false, ite_true, ite_false, ↓reduceIte, and_self, true_and, and_true, zb0, zb1, bM, bR, bCk, bMa, Bool.false_eq_true, Bool.and_self, Bool.and_true, Bool.true_and, li_0, li_1, li_2, li_3, li_4, li_5, li_6, li_7, li_8, li_16, li_18, li_21, li_25, li_46, li_54, li_58, li_60, li_79, li_87, li_89, li_95, li_96, li_100, li_104, li_108, li_116, li_127, li_128, li_132, li_153, li_158, li_159, li_164, li_167, li_172, li_176, li_177, li_184, li_188, li_190, li_198, li_199, li_200, li_202, li_240, li_255, li_256, li_32767, li_32768, li_65536, bP, bq]
      rw [U]
      by_cases c : nI (K (m_fr K b k)) = t
      · refine ⟨fun g => absurd c (g k (by omega) (by omega)), fun i h1 h2 h3 => ?_⟩
        have : i = k := by
          apply Classical.byContradiction
          intro hne
          have l := fr_lt2 hM (i := k) (j := i) (by omega) h2
          have b1 := hF.2 (m_fr K b k) (by omega)
          have a4 := (fr_ok hM h2).2.2.2.2
          have b2 := hF.2 (m_fr K b i) (by omega)
          rw [← c] at h3
          have := nInj (by omega) (by omega) h3
          omega
        subst this
        simp (disch := omega) only [nA, nS, nM, nLT, nLF, nTT, nTF, nEF, nET, nBT, nBF, nC, nNG, nNL, jj_b1, jj_b2, js, jn, eq_self, if_true, if_false, ite_true, ite_false, ↓reduceIte, and_self, true_and, and_true, zb0, zb1, bM, bR, bCk, bMa, Bool.false_eq_true, Bool.and_self, Bool.and_true, Bool.true_and, li_0, li_1, li_2, li_3, li_4, li_5, li_6, li_7, li_8, li_16, li_18, li_21, li_25, li_46, li_54, li_58, li_60, li_79, li_87, li_89, li_95, li_96, li_100, li_104, li_108, li_116, li_127, li_128, li_132, li_153, li_158, li_159, li_164, li_167, li_172, li_176, li_177, li_184, li_188, li_190, li_198, li_199, li_200, li_202, li_240, li_255, li_256, li_32767, li_32768, li_65536, k_Pr_frameAt_2, h7, f_Pr_frameOffset, a1, a3, eq_true c]
      · have W : k_Pr_frameAt_2 (g_Pr_frameAt f) P q t (nI k) x = g_Pr_frameAt f 2 [some (.ref P), some (.ref q), some (.int t), some (.int (nI (k + 1)))] x := by
          simp (disch := omega) only [nA, nS, nM, nLT, nLF, nTT, nTF, nEF, nET, nBT, nBF, nC, nNG, nNL, jj_b1, jj_b2, js, jn, eq_self, if_true, if_false, ite_true, ite_false, ↓reduceIte, and_self, true_and, and_true, zb0, zb1, bM, bR, bCk, bMa, Bool.false_eq_true, Bool.and_self, Bool.and_true, Bool.true_and, li_0, li_1, li_2, li_3, li_4, li_5, li_6, li_7, li_8, li_16, li_18, li_21, li_25, li_46, li_54, li_58, li_60, li_79, li_87, li_89, li_95, li_96, li_100, li_104, li_108, li_116, li_127, li_128, li_132, li_153, li_158, li_159, li_164, li_167, li_172, li_176, li_177, li_184, li_188, li_190, li_198, li_199, li_200, li_202, li_240, li_255, li_256, li_32767, li_32768, li_65536, k_Pr_frameAt_2, h7, f_Pr_frameOffset, a1, a3, eq_false c]
        rw [W]
        refine ⟨fun g => I.1 (fun i h1 h2 => g i (by omega) h2), fun i h1 h2 h3 => I.2 i ?_ h2 h3⟩
        by_cases c2 : i = k
        · subst c2; exact absurd h3 c
        · omega
  have := G (m_fc K b) 0 1000 (by omega) (by omega)
  exact ⟨fun g => this.1 (fun i _ h => g i h), fun i h1 h2 => this.2 i (by omega) h1 h2⟩
theorem mo_frame_g (hF : By K n) (hM : MtOK K n (K 1) (mcn K) b N) (hK : KP K n y) (hO : MO K b y) (Is : Nat → Prop) (l1 l2 : Int32) (hst : ∀ k, k < m_fc K b → ∀ rec l5, k_Mo_frame_27 rec 58 l1 l2 (nI (m_fr K b k)) (nI (m_fc K b)) l5 (nI k) y = k_Mo_frame_71 rec 58 l1 l2 (nI (m_fr K b k)) (nI (m_fc K b)) l5 (nI k) (nI (z_p (Is k))) y) :
    ((∀ i, i < m_fc K b → ¬ Is i) → f_Mo_frame 58 l1 l2 y = some (-nI 1, y)) ∧ (∀ i, i < m_fc K b → Is i → (∀ j, i < j → j < m_fc K b → ¬ Is j) → f_Mo_frame 58 l1 l2 y = some (nI (m_fr K b i), y)) := by
  have h240 := hF.1
  have h8 := hM.2.2.2.1
  have h11 := hO.2.2.2.1
  have G : ∀ (r k f : Nat) (l5 : Int32), k + r = m_fc K b → r < f → ((∀ i, k ≤ i → i < m_fc K b → ¬ Is i) → g_Mo_frame f 27 [some (.ref 58), some (.int l1), some (.int l2), some (.int (nI (m_fr K b k))), some (.int (nI (m_fc K b))), some (.int l5), some (.int (nI k)), none, none] y = some (l5, y)) ∧ (∀ i, k ≤ i → i < m_fc K b → Is i → (∀ j, i < j → j < m_fc K b → ¬ Is j) → g_Mo_frame f 27 [some (.ref 58), some (.int l1), some (.int l2), some (.int (nI (m_fr K b k))), some (.int (nI (m_fc K b))), some (.int l5), some (.int (nI k)), none, none] y = some (nI (m_fr K b i), y)) := by
    intro r
    induction r with
    | zero =>
      intro k f l5 hk hf
      obtain ⟨f, rfl⟩ : ∃ g, f = g + 1 := ⟨f - 1, by omega⟩
      refine ⟨fun _ => ?_, fun i h1 h2 => by omega⟩
      simp (disch := omega) only [nA, nS, nM, nLT, nLF, nTT, nTF, nEF, nET, nBT, nBF, nC, nNG, nNL, jj_b1, jj_b2, js, jn, eq_self, if_true, if_false, ite_true, ite_false, ↓reduceIte, and_self, true_and, and_true, zb0, zb1, bM, bR, bCk, bMa, Bool.false_eq_true, Bool.and_self, Bool.and_true, Bool.true_and, li_0, li_1, li_2, li_3, li_4, li_5, li_6, li_7, li_8, li_16, li_18, li_21, li_25, li_46, li_54, li_58, li_60, li_79, li_87, li_89, li_95, li_96, li_100, li_104, li_108, li_116, li_127, li_128, li_132, li_153, li_158, li_159, li_164, li_167, li_172, li_176, li_177, li_184, li_188, li_190, li_198, li_199, li_200, li_202, li_240, li_255, li_256, li_32767, li_32768, li_65536, g_Mo_frame, k_Mo_frame_27]
    | succ r ih =>
      intro k f l5 hk hf
      obtain ⟨f, rfl⟩ : ∃ g, f = g + 1 := ⟨f - 1, by omega⟩
      have a2 := (fr_ok hM (i := k) (by omega)).2.2.2.2
      have a3 := hK (m_fr K b k + 1 + m_pl K b) (by omega)
      have e2 : m_fr K b (k + 1) = m_fr K b k + 1 + m_pl K b + 1 + K (m_fr K b k + 1 + m_pl K b) := by
        show fr K _ _ (k + 1) = _
        rw [fr_succ]
        show m_fr K b k + 2 + m_pl K b + K (m_fr K b k + 1 + m_pl K b) = _
        omega
      have U : g_Mo_frame (f + 1) 27 [some (.ref 58), some (.int l1), some (.int l2), some (.int (nI (m_fr K b k))), some (.int (nI (m_fc K b))), some (.int l5), some (.int (nI k)), none, none] y = k_Mo_frame_71 (g_Mo_frame f) 58 l1 l2 (nI (m_fr K b k)) (nI (m_fc K b)) l5 (nI k) (nI (z_p (Is k))) y := by
        rw [← hst k (by omega)]
        rfl
      rw [U]
      by_cases c : Is k
      · have I := ih (k + 1) f (nI (m_fr K b k)) (by omega) (by omega)
        have W : k_Mo_frame_71 (g_Mo_frame f) 58 l1 l2 (nI (m_fr K b k)) (nI (m_fc K b)) l5 (nI k) (nI (z_p (Is k))) y = g_Mo_frame f 27 [some (.ref 58), some (.int l1), some (.int l2), some (.int (nI (m_fr K b (k + 1)))), some (.int (nI (m_fc K b))), some (.int (nI (m_fr K b k))), some (.int (nI (k + 1))), none, none] y := by
          rw [z_p1 c, e2]
          simp (disch := omega) only [nA, nS, nM, nLT, nLF, nTT, nTF, nEF, nET, nBT, nBF, nC, nNG, nNL, jj_b1, jj_b2, js, jn, eq_self, if_true, if_false, ite_true, ite_false, ↓reduceIte, and_self, true_and, and_true, zb0, zb1, bM, bR, bCk, bMa, Bool.false_eq_true, Bool.and_self, Bool.and_true, Bool.true_and, li_0, li_1, li_2, li_3, li_4, li_5, li_6, li_7, li_8, li_16, li_18, li_21, li_25, li_46, li_54, li_58, li_60, li_79, li_87, li_89, li_95, li_96, li_100, li_104, li_108, li_116, li_127, li_128, li_132, li_153, li_158, li_159, li_164, li_167, li_172, li_176, li_177, li_184, li_188, li_190, li_198, li_199, li_200, li_202, li_240, li_255, li_256, li_32767, li_32768, li_65536, k_Mo_frame_71, k_Mo_frame_84, h11, a3]
        rw [W]
        refine ⟨fun g => absurd c (g k (by omega) (by omega)), fun i h1 h2 h3 h4 => ?_⟩
        by_cases c2 : i = k
        · subst c2
          exact I.1 (fun j w1 w2 => h4 j (by omega) w2)
        · exact I.2 i (by omega) h2 h3 h4
      · have I := ih (k + 1) f l5 (by omega) (by omega)
        have W : k_Mo_frame_71 (g_Mo_frame f) 58 l1 l2 (nI (m_fr K b k)) (nI (m_fc K b)) l5 (nI k) (nI (z_p (Is k))) y = g_Mo_frame f 27 [some (.ref 58), some (.int l1), some (.int l2), some (.int (nI (m_fr K b (k + 1)))), some (.int (nI (m_fc K b))), some (.int l5), some (.int (nI (k + 1))), none, none] y := by
          rw [z_p0 c, e2]
          simp (disch := omega) only [nA, nS, nM, nLT, nLF, nTT, nTF, nEF, nET, nBT, nBF, nC, nNG, nNL, jj_b1, jj_b2, js, jn, eq_self, if_true, if_false, ite_true, ite_false, ↓reduceIte, and_self, true_and, and_true, zb0, zb1, bM, bR, bCk, bMa, Bool.false_eq_true, Bool.and_self, Bool.and_true, Bool.true_and, li_0, li_1, li_2, li_3, li_4, li_5, li_6, li_7, li_8, li_16, li_18, li_21, li_25, li_46, li_54, li_58, li_60, li_79, li_87, li_89, li_95, li_96, li_100, li_104, li_108, li_116, li_127, li_128, li_132, li_153, li_158, li_159, li_164, li_167, li_172, li_176, li_177, li_184, li_188, li_190, li_198, li_199, li_200, li_202, li_240, li_255, li_256, li_32767, li_32768, li_65536, k_Mo_frame_71, k_Mo_frame_84, h11, a3]
        rw [W]
        refine ⟨fun g => I.1 (fun i h1 h2 => g i (by omega) h2), fun i h1 h2 h3 h4 => I.2 i ?_ h2 h3 h4⟩
        by_cases c2 : i = k
        · subst c2; exact absurd h3 c
        · omega
  have h12 := hO.2.2.2.2.1
  have h13 := hO.2.2.2.2.2
  have hl := hM.2.2.2.2.2.1
  have a4 := hK (m_cd K b + m_ln K b) hl
  have V : f_Mo_frame 58 l1 l2 y = g_Mo_frame 1000 27 [some (.ref 58), some (.int l1), some (.int l2), some (.int (nI (m_fr K b 0))), some (.int (nI (m_fc K b))), some (.int (-nI 1)), some (.int (nI 0)), none, none] y := by
    unfold f_Mo_frame k_Mo_frame_0
    show _ = g_Mo_frame 1000 27 [some (.ref 58), some (.int l1), some (.int l2), some (.int (nI (m_cd K b + m_ln K b + 1))), some (.int (nI (K (m_cd K b + m_ln K b)))), some (.int (-nI 1)), some (.int (nI 0)), none, none] y
    simp (disch := omega) only [nA, nS, nM, nLT, nLF, nTT, nTF, nEF, nET, nBT, nBF, nC, nNG, nNL, jj_b1, jj_b2, js, jn, eq_self, if_true, if_false, ite_true, ite_false, ↓reduceIte, and_self, true_and, and_true, zb0, zb1, bM, bR, bCk, bMa, Bool.false_eq_true, Bool.and_self, Bool.and_true, Bool.true_and, li_0, li_1, li_2, li_3, li_4, li_5, li_6, li_7, li_8, li_16, li_18, li_21, li_25, li_46, li_54, li_58, li_60, li_79, li_87, li_89, li_95, li_96, li_100, li_104, li_108, li_116, li_127, li_128, li_132, li_153, li_158, li_159, li_164, li_167, li_172, li_176, li_177, li_184, li_188, li_190, li_198, li_199, li_200, li_202, li_240, li_255, li_256, li_32767, li_32768, li_65536, h13, h12, a4]
  rw [V]
  have := G (m_fc K b) 0 1000 (-nI 1) (by omega) (by omega)
  exact ⟨fun g => this.1 (fun i _ h => g i h), fun i h1 h2 h3 => this.2 i (by omega) h1 h2 h3⟩
theorem mo_frameAt (hF : By K n) (hM : MtOK K n (K 1) (mcn K) b N) (hK : KP K n y) (hO : MO K b y) (t : Int32) :
    ((∀ i, i < m_fc K b → nI (K (m_fr K b i)) ≠ t) → f_Mo_frame 58 t (nI 0) y = some (-nI 1, y)) ∧ (∀ i, i < m_fc K b → nI (K (m_fr K b i)) = t → f_Mo_frame 58 t (nI 0) y = some (nI (m_fr K b i), y)) := by
  have h240 := hF.1
  have h8 := hM.2.2.2.1
  have G := mo_frame_g hF hM hK hO (fun k => nI (K (m_fr K b k)) = t) t (nI 0) (fun k hk rec l5 => by
    have a2 := (fr_ok hM hk).2.2.2.2
    have a3 := hK (m_fr K b k) (by omega)
    by_cases c : nI (K (m_fr K b k)) = t
    · rw [z_p1 c]
      unfold k_Mo_frame_27
      simp (disch := omega) only [nA, nS, nM, nLT, nLF, nTT, nTF, nEF, nET, nBT, nBF, nC, nNG, nNL, jj_b1, jj_b2, js, jn, eq_self, if_true, if_false, ite_true, ite_false, ↓reduceIte, and_self, true_and, and_true, zb0, zb1, bM, bR, bCk, bMa, Bool.false_eq_true, Bool.and_self, Bool.and_true, Bool.true_and, li_0, li_1, li_2, li_3, li_4, li_5, li_6, li_7, li_8, li_16, li_18, li_21, li_25, li_46, li_54, li_58, li_60, li_79, li_87, li_89, li_95, li_96, li_100, li_104, li_108, li_116, li_127, li_128, li_132, li_153, li_158, li_159, li_164, li_167, li_172, li_176, li_177, li_184, li_188, li_190, li_198, li_199, li_200, li_202, li_240, li_255, li_256, li_32767, li_32768, li_65536, a3, eq_true c]
    · rw [z_p0 c]
      unfold k_Mo_frame_27
      simp (disch := omega) only [nA, nS, nM, nLT, nLF, nTT, nTF, nEF, nET, nBT, nBF, nC, nNG, nNL, jj_b1, jj_b2, js, jn, eq_self, if_true, if_false, ite_true, ite_false, ↓reduceIte, and_self, true_and, and_true, zb0, zb1, bM, bR, bCk, bMa, Bool.false_eq_true, Bool.and_self, Bool.and_true, Bool.true_and, li_0, li_1, li_2, li_3, li_4, li_5, li_6, li_7, li_8, li_16, li_18, li_21, li_25, li_46, li_54, li_58, li_60, li_79, li_87, li_89, li_95, li_96, li_100, li_104, li_108, li_116, li_127, li_128, li_132, li_153, li_158, li_159, li_164, li_167, li_172, li_176, li_177, li_184, li_188, li_190, li_198, li_199, li_200, li_202, li_240, li_255, li_256, li_32767, li_32768, li_65536, a3, eq_false c])
  refine ⟨G.1, fun i h1 h2 => G.2 i h1 h2 (fun j h3 h4 h5 => ?_)⟩
  have l := fr_lt2 hM h3 h4
  have b1 := hF.2 (m_fr K b i) (by have := (fr_ok hM h1).2.2.2.2; omega)
  have b2 := hF.2 (m_fr K b j) (by have := (fr_ok hM h4).2.2.2.2; omega)
  rw [← h2] at h5
  have := nInj (by omega) (by omega) h5
  omega
theorem mo_frameBefore (hF : By K n) (hM : MtOK K n (K 1) (mcn K) b N) (hK : KP K n y) (hO : MO K b y) {o : Nat} (ho : o < 1000) :
    ((∀ i, i < m_fc K b → o ≤ K (m_fr K b i)) → f_Mo_frame 58 (nI o) (nI 1) y = some (-nI 1, y)) ∧ (∀ i, i < m_fc K b → K (m_fr K b i) < o → (∀ j, i < j → j < m_fc K b → o ≤ K (m_fr K b j)) → f_Mo_frame 58 (nI o) (nI 1) y = some (nI (m_fr K b i), y)) := by
  have h240 := hF.1
  have h8 := hM.2.2.2.1
  have G := mo_frame_g hF hM hK hO (fun k => K (m_fr K b k) < o) (nI o) (nI 1) (fun k hk rec l5 => by
    have a2 := (fr_ok hM hk).2.2.2.2
    have a3 := hK (m_fr K b k) (by omega)
    have b1 := hF.2 (m_fr K b k) (by omega)
    by_cases c : K (m_fr K b k) < o
    · rw [z_p1 c]
      unfold k_Mo_frame_27
      simp (disch := omega) only [nA, nS, nM, nLT, nLF, nTT, nTF, nEF, nET, nBT, nBF, nC, nNG, nNL, jj_b1, jj_b2, js, jn, eq_self, if_true, if_false, ite_true, ite_false, ↓reduceIte, and_self, true_and, and_true, zb0, zb1, bM, bR, bCk, bMa, Bool.false_eq_true, Bool.and_self, Bool.and_true, Bool.true_and, li_0, li_1, li_2, li_3, li_4, li_5, li_6, li_7, li_8, li_16, li_18, li_21, li_25, li_46, li_54, li_58, li_60, li_79, li_87, li_89, li_95, li_96, li_100, li_104, li_108, li_116, li_127, li_128, li_132, li_153, li_158, li_159, li_164, li_167, li_172, li_176, li_177, li_184, li_188, li_190, li_198, li_199, li_200, li_202, li_240, li_255, li_256, li_32767, li_32768, li_65536, a3]
    · rw [z_p0 c]
      unfold k_Mo_frame_27
      simp (disch := omega) only [nA, nS, nM, nLT, nLF, nTT, nTF, nEF, nET, nBT, nBF, nC, nNG, nNL, jj_b1, jj_b2, js, jn, eq_self, if_true, if_false, ite_true, ite_false, ↓reduceIte, and_self, true_and, and_true, zb0, zb1, bM, bR, bCk, bMa, Bool.false_eq_true, Bool.and_self, Bool.and_true, Bool.true_and, li_0, li_1, li_2, li_3, li_4, li_5, li_6, li_7, li_8, li_16, li_18, li_21, li_25, li_46, li_54, li_58, li_60, li_79, li_87, li_89, li_95, li_96, li_100, li_104, li_108, li_116, li_127, li_128, li_132, li_153, li_158, li_159, li_164, li_167, li_172, li_176, li_177, li_184, li_188, li_190, li_198, li_199, li_200, li_202, li_240, li_255, li_256, li_32767, li_32768, li_65536, a3])
  exact ⟨fun g => G.1 (fun i hi w => by have := g i hi; omega), fun i h1 h2 h3 => G.2 i h1 h2 (fun j w1 w2 w3 => by have := h3 j w1 w2; omega)⟩
/-- the object asks whether its state is good for a frame -/
theorem ck_good (hP : o_Pr P) (hq : o_Me q) (hF : By K n) (hM : MtOK K n (K 1) (mcn K) b N) (hx : ∀ k, k < n → x (P + 1) k = nI (K k)) (hC : MtC K b q x) (hi : i < m_fc K b) (hA : KA 27 x pk sk h) (hS : KS pk sk h) : f_Ck_isGoodForFrame 26 P q (nI i) x = some (nI (z_p (GF K b i pk sk h)), x) := by
  have h240 := hF.1
  have bP : bo_Pr P = true := hP
  have bq : bo_Me q = true := hq
  have h8 := hM.2.2.2.1
  have hpl := hM.1.2.2.2.2.2.1
  have hdp := hM.1.2.2.2.1
  have a0 := fr_ok hM hi
  have a2 := a0.2.2.2.2
  have a1 := hC.2.2 i hi
  have q4 := hC.1.2.2.2.2.1
  have a3 := hx (m_fr K b i + 1 + m_pl K b) (by omega)
  have k1 := hA.1
  have h6 := hS.1
  have e1 : f_Pr_frameHeight P q (nI i) x = some (nI (fh K b i), x) := by
    unfold f_Pr_frameHeight fh
    simp (disch := omega) only [nA, nS, nM, nLT, nLF, nTT, nTF, nEF, nET, nBT, nBF, nC, nNG, nNL, jj_b1, jj_b2, js, jn, eq_self, if_true, if_false, ite_true, ite_false, ↓reduceIte, and_self, true_and, and_true, zb0, zb1, bM, bR, bCk, bMa, Bool.false_eq_true, Bool.and_self, Bool.and_true, Bool.true_and, li_0, li_1, li_2, li_3, li_4, li_5, li_6, li_7, li_8, li_16, li_18, li_21, li_25, li_46, li_54, li_58, li_60, li_79, li_87, li_89, li_95, li_96, li_100, li_104, li_108, li_116, li_127, li_128, li_132, li_153, li_158, li_159, li_164, li_167, li_172, li_176, li_177, li_184, li_188, li_190, li_198, li_199, li_200, li_202, li_240, li_255, li_256, li_32767, li_32768, li_65536, a1, q4, a3]
  have hfh : fh K b i ≤ 6 := by have := a0.2.2.1; unfold fh; omega
  by_cases c1 : h = fh K b i
  rotate_left
  · rw [z_p0 (fun g => c1 g.1)]
    unfold f_Ck_isGoodForFrame k_Ck_isGoodForFrame_0
    simp (disch := omega) only [nA, nS, nM, nLT, nLF, nTT, nTF, nEF, nET, nBT, nBF, nC, nNG, nNL, jj_b1, jj_b2, js, jn, eq_self, if_true, if_false, ite_true, ite_false, ↓reduceIte, and_self, true_and, and_true, zb0, zb1, bM, bR, bCk, bMa, Bool.false_eq_true, Bool.and_self, Bool.and_true, Bool.true_and, li_0, li_1, li_2, li_3, li_4, li_5, li_6, li_7, li_8, li_16, li_18, li_21, li_25, li_46, li_54, li_58, li_60, li_79, li_87, li_89, li_95, li_96, li_100, li_104, li_108, li_116, li_127, li_128, li_132, li_153, li_158, li_159, li_164, li_167, li_172, li_176, li_177, li_184, li_188, li_190, li_198, li_199, li_200, li_202, li_240, li_255, li_256, li_32767, li_32768, li_65536, e1, k1]
  have G2 : ∀ (r k f : Nat), k + r = h → r < f → g_Ck_isGoodForFrame f 65 [some (.ref 26), some (.ref P), some (.ref q), some (.int (nI i)), some (.int (nI k))] x = some (nI (z_p (∀ j, k ≤ j → j < h → zgood (sk j) (K (m_fr K b i + 2 + m_pl K b + j)))), x) := by
    intro r
    induction r with
    | zero =>
      intro k f hk hf
      obtain ⟨f, rfl⟩ : ∃ g, f = g + 1 := ⟨f - 1, by omega⟩
      rw [z_p1 (fun j w1 w2 => by omega)]
      simp (disch := omega) only [nA, nS, nM, nLT, nLF, nTT, nTF, nEF, nET, nBT, nBF, nC, nNG, nNL, jj_b1, jj_b2, js, jn, eq_self, if_true, if_false, ite_true, ite_false, ↓reduceIte, and_self, true_and, and_true, zb0, zb1, bM, bR, bCk, bMa, Bool.false_eq_true, Bool.and_self, Bool.and_true, Bool.true_and, li_0, li_1, li_2, li_3, li_4, li_5, li_6, li_7, li_8, li_16, li_18, li_21, li_25, li_46, li_54, li_58, li_60, li_79, li_87, li_89, li_95, li_96, li_100, li_104, li_108, li_116, li_127, li_128, li_132, li_153, li_158, li_159, li_164, li_167, li_172, li_176, li_177, li_184, li_188, li_190, li_198, li_199, li_200, li_202, li_240, li_255, li_256, li_32767, li_32768, li_65536, g_Ck_isGoodForFrame, k_Ck_isGoodForFrame_65, bP, bq, k1]
    | succ r ih =>
      intro k f hk hf
      obtain ⟨f, rfl⟩ : ∃ g, f = g + 1 := ⟨f - 1, by omega⟩
      have I := ih (k + 1) f (by omega) (by omega)
      have hlt : k < fh K b i := by omega
      have w1 := a0.2.2.2.1 k hlt
      unfold fh at c1
      have e2 := hx (m_fr K b i + 2 + m_pl K b + k) (by omega)
      have e3 : f_Pr_frameValue P q (nI i) (nI k) x = some (nI (K (m_fr K b i + 2 + m_pl K b + k)), x) := by
        unfold f_Pr_frameValue
        simp (disch := omega) only [nA, nS, nM, nLT, nLF, nTT, nTF, nEF, nET, nBT, nBF, nC, nNG, nNL, jj_b1, jj_b2, js, jn, eq_self, if_true, if_false, ite_true, ite_false, ↓reduceIte, and_self, true_and, and_true, zb0, zb1, bM, bR, bCk, bMa, Bool.false_eq_true, Bool.and_self, Bool.and_true, Bool.true_and, li_0, li_1, li_2, li_3, li_4, li_5, li_6, li_7, li_8, li_16, li_18, li_21, li_25, li_46, li_54, li_58, li_60, li_79, li_87, li_89, li_95, li_96, li_100, li_104, li_108, li_116, li_127, li_128, li_132, li_153, li_158, li_159, li_164, li_167, li_172, li_176, li_177, li_184, li_188, li_190, li_198, li_199, li_200, li_202, li_240, li_255, li_256, li_32767, li_32768, li_65536, a1, q4, e2]
      have e4 := hA.2.2 k (by omega)
      have t1 := hS.2.2 k
      have e5 := vc_good (x := x) (t := sk k) (d := K (m_fr K b i + 2 + m_pl K b + k)) (by omega) (by omega)
      rw [show g_Ck_isGoodForFrame (f + 1) 65 [some (.ref 26), some (.ref P), some (.ref q), some (.int (nI i)), some (.int (nI k))] x = if (bo_Ck 26 && bo_Pr P && bo_Me q) = true then k_Ck_isGoodForFrame_65 (g_Ck_isGoodForFrame f) 26 P q (nI i) (nI k) x else none from rfl]
      by_cases c : zgood (sk k) (K (m_fr K b i + 2 + m_pl K b + k))
      · rw [z_p1 c] at e5
        rw [show z_p (∀ j, k ≤ j → j < h → zgood (sk j) (K (m_fr K b i + 2 + m_pl K b + j))) = z_p (∀ j, k + 1 ≤ j → j < h → zgood (sk j) (K (m_fr K b i + 2 + m_pl K b + j))) from z_pc ⟨fun g j u1 u2 => g j (by omega) u2, fun g j u1 u2 => by
          by_cases c2 : j = k
          · rw [c2]; exact c
          · exact g j (by omega) u2⟩, ← I]
        simp (disch := omega) only [nA, nS, nM, nLT, nLF, nTT, nTF, nEF, nET, nBT, nBF, nC, nNG, nNL, jj_b1, jj_b2, js, jn, eq_self, if_true, if_false, ite_true, ite_false, ↓reduceIte, and_self, true_and, and_true, zb0, zb1, bM, bR, bCk, bMa, Bool.false_eq_true, Bool.and_self, Bool.and_true, Bool.true_and, li_0, li_1, li_2, li_3, li_4, li_5, li_6, li_7, li_8, li_16, li_18, li_21, li_25, li_46, li_54, li_58, li_60, li_79, li_87, li_89, li_95, li_96, li_100, li_104, li_108, li_116, li_127, li_128, li_132, li_153, li_158, li_159, li_164, li_167, li_172, li_176, li_177, li_184, li_188, li_190, li_198, li_199, li_200, li_202, li_240, li_255, li_256, li_32767, li_32768, li_65536, k_Ck_isGoodForFrame_65, bP, bq, k1, e3, e4, e5]
      · rw [z_p0 c] at e5
        rw [z_p0 (fun g => c (g k (by omega) (by omega)))]
        simp (disch := omega) only [nA, nS, nM, nLT, nLF, nTT, nTF, nEF, nET, nBT, nBF, nC, nNG, nNL, jj_b1, jj_b2, js, jn, eq_self, if_true, if_false, ite_true, ite_false, ↓reduceIte, and_self, true_and, and_true, zb0, zb1, bM, bR, bCk, bMa, Bool.false_eq_true, Bool.and_self, Bool.and_true, Bool.true_and, li_0, li_1, li_2, li_3, li_4, li_5, li_6, li_7, li_8, li_16, li_18, li_21, li_25, li_46, li_54, li_58, li_60, li_79, li_87, li_89, li_95, li_96, li_100, li_104, li_108, li_116, li_127, li_128, li_132, li_153, li_158, li_159, li_164, li_167, li_172, li_176, li_177, li_184, li_188, li_190, li_198, li_199, li_200, li_202, li_240, li_255, li_256, li_32767, li_32768, li_65536, k_Ck_isGoodForFrame_65, bP, bq, k1, e3, e4, e5]
  have G1 : ∀ (r k f : Nat), k + r = m_pl K b → r + h + 1 < f → g_Ck_isGoodForFrame f 21 [some (.ref 26), some (.ref P), some (.ref q), some (.int (nI i)), some (.int (nI k))] x = some (nI (z_p ((∀ j, k ≤ j → j < m_pl K b → zgood (pk j) (K (m_fr K b i + 1 + j))) ∧ ∀ j, 0 ≤ j → j < h → zgood (sk j) (K (m_fr K b i + 2 + m_pl K b + j)))), x) := by
    intro r
    induction r with
    | zero =>
      intro k f hk hf
      obtain ⟨f, rfl⟩ : ∃ g, f = g + 1 := ⟨f - 1, by omega⟩
      have I := G2 h 0 f (by omega) (by omega)
      rw [show z_p ((∀ j, k ≤ j → j < m_pl K b → zgood (pk j) (K (m_fr K b i + 1 + j))) ∧ ∀ j, 0 ≤ j → j < h → zgood (sk j) (K (m_fr K b i + 2 + m_pl K b + j))) = z_p (∀ j, 0 ≤ j → j < h → zgood (sk j) (K (m_fr K b i + 2 + m_pl K b + j))) from z_pc ⟨fun g => g.2, fun g => ⟨fun j u1 u2 => by omega, g⟩⟩, ← I]
      rw [show g_Ck_isGoodForFrame (f + 1) 21 [some (.ref 26), some (.ref P), some (.ref q), some (.int (nI i)), some (.int (nI k))] x = if (bo_Ck 26 && bo_Pr P && bo_Me q) = true then k_Ck_isGoodForFrame_21 (g_Ck_isGoodForFrame f) 26 P q (nI i) (nI k) x else none from rfl]
      simp (disch := omega) only [nA, nS, nM, nLT, nLF, nTT, nTF, nEF, nET, nBT, nBF, nC, nNG, nNL, jj_b1, jj_b2, js, jn, eq_self, if_true, if_false, ite_true, ite_false, ↓reduceIte, and_self, true_and, and_true, zb0, zb1, bM, bR, bCk, bMa, Bool.false_eq_true, Bool.and_self, Bool.and_true, Bool.true_and, li_0, li_1, li_2, li_3, li_4, li_5, li_6, li_7, li_8, li_16, li_18, li_21, li_25, li_46, li_54, li_58, li_60, li_79, li_87, li_89, li_95, li_96, li_100, li_104, li_108, li_116, li_127, li_128, li_132, li_153, li_158, li_159, li_164, li_167, li_172, li_176, li_177, li_184, li_188, li_190, li_198, li_199, li_200, li_202, li_240, li_255, li_256, li_32767, li_32768, li_65536, k_Ck_isGoodForFrame_21, bP, bq, q4]
    | succ r ih =>
      intro k f hk hf
      obtain ⟨f, rfl⟩ : ∃ g, f = g + 1 := ⟨f - 1, by omega⟩
      have I := ih (k + 1) f (by omega) (by omega)
      have w1 := a0.2.1 k (by omega)
      have e2 := hx (m_fr K b i + 1 + k) (by omega)
      have e3 : f_Pr_framePlace P q (nI i) (nI k) x = some (nI (K (m_fr K b i + 1 + k)), x) := by
        unfold f_Pr_framePlace
        simp (disch := omega) only [nA, nS, nM, nLT, nLF, nTT, nTF, nEF, nET, nBT, nBF, nC, nNG, nNL, jj_b1, jj_b2, js, jn, eq_self, if_true, if_false, ite_true, ite_false, ↓reduceIte, and_self, true_and, and_true, zb0, zb1, bM, bR, bCk, bMa, Bool.false_eq_true, Bool.and_self, Bool.and_true, Bool.true_and, li_0, li_1, li_2, li_3, li_4, li_5, li_6, li_7, li_8, li_16, li_18, li_21, li_25, li_46, li_54, li_58, li_60, li_79, li_87, li_89, li_95, li_96, li_100, li_104, li_108, li_116, li_127, li_128, li_132, li_153, li_158, li_159, li_164, li_167, li_172, li_176, li_177, li_184, li_188, li_190, li_198, li_199, li_200, li_202, li_240, li_255, li_256, li_32767, li_32768, li_65536, a1, q4, e2]
      have e4 := hA.2.1 k (by omega)
      have t1 := hS.2.1 k
      have e5 := vc_good (x := x) (t := pk k) (d := K (m_fr K b i + 1 + k)) (by omega) (by omega)
      rw [show g_Ck_isGoodForFrame (f + 1) 21 [some (.ref 26), some (.ref P), some (.ref q), some (.int (nI i)), some (.int (nI k))] x = if (bo_Ck 26 && bo_Pr P && bo_Me q) = true then k_Ck_isGoodForFrame_21 (g_Ck_isGoodForFrame f) 26 P q (nI i) (nI k) x else none from rfl]
      by_cases c : zgood (pk k) (K (m_fr K b i + 1 + k))
      · rw [z_p1 c] at e5
        rw [show z_p ((∀ j, k ≤ j → j < m_pl K b → zgood (pk j) (K (m_fr K b i + 1 + j))) ∧ ∀ j, 0 ≤ j → j < h → zgood (sk j) (K (m_fr K b i + 2 + m_pl K b + j))) = z_p ((∀ j, k + 1 ≤ j → j < m_pl K b → zgood (pk j) (K (m_fr K b i + 1 + j))) ∧ ∀ j, 0 ≤ j → j < h → zgood (sk j) (K (m_fr K b i + 2 + m_pl K b + j))) from z_pc ⟨fun g => ⟨fun j u1 u2 => g.1 j (by omega) u2, g.2⟩, fun g => ⟨fun j u1 u2 => by
          by_cases c2 : j = k
          · rw [c2]; exact c
          · exact g.1 j (by omega) u2, g.2⟩⟩, ← I]
        simp (disch := omega) only [nA, nS, nM, nLT, nLF, nTT, nTF, nEF, nET, nBT, nBF, nC, nNG, nNL, jj_b1, jj_b2, js, jn, eq_self, if_true, if_false, ite_true, ite_false, ↓reduceIte, and_self, true_and, and_true, zb0, zb1, bM, bR, bCk, bMa, Bool.false_eq_true, Bool.and_self, Bool.and_true, Bool.true_and, li_0, li_1, li_2, li_3, li_4, li_5, li_6, li_7, li_8, li_16, li_18, li_21, li_25, li_46, li_54, li_58, li_60, li_79, li_87, li_89, li_95, li_96, li_100, li_104, li_108, li_116, li_127, li_128, li_132, li_153, li_158, li_159, li_164, li_167, li_172, li_176, li_177, li_184, li_188, li_190, li_198, li_199, li_200, li_202, li_240, li_255, li_256, li_32767, li_32768, li_65536, k_Ck_isGoodForFrame_21, bP, bq, q4, e3, e4, e5]
      · rw [z_p0 c] at e5
        rw [z_p0 (fun g => c (g.1 k (by omega) (by omega)))]
        simp (disch := omega) only [nA, nS, nM, nLT, nLF, nTT, nTF, nEF, nET, nBT, nBF, nC, nNG, nNL, jj_b1, jj_b2, js, jn, eq_self, if_true, if_false, ite_true, ite_false, ↓reduceIte, and_self, true_and, and_true, zb0, zb1, bM, bR, bCk, bMa, Bool.false_eq_true, Bool.and_self, Bool.and_true, Bool.true_and, li_0, li_1, li_2, li_3, li_4, li_5, li_6, li_7, li_8, li_16, li_18, li_21, li_25, li_46, li_54, li_58, li_60, li_79, li_87, li_89, li_95, li_96, li_100, li_104, li_108, li_116, li_127, li_128, li_132, li_153, li_158, li_159, li_164, li_167, li_172, li_176, li_177, li_184, li_188, li_190, li_198, li_199, li_200, li_202, li_240, li_255, li_256, li_32767, li_32768, li_65536, k_Ck_isGoodForFrame_21, bP, bq, q4, e3, e4, e5]
  have I := G1 (m_pl K b) 0 1000 (by omega) (by omega)
  rw [show z_p (GF K b i pk sk h) = z_p ((∀ j, 0 ≤ j → j < m_pl K b → zgood (pk j) (K (m_fr K b i + 1 + j))) ∧ ∀ j, 0 ≤ j → j < h → zgood (sk j) (K (m_fr K b i + 2 + m_pl K b + j))) from z_pc ⟨fun g => ⟨fun j _ u => g.2.1 j u, fun j _ u => g.2.2 j u⟩, fun g => ⟨c1, fun j u => g.1 j (by omega) u, fun j u => g.2 j (by omega) u⟩⟩, ← I]
  unfold f_Ck_isGoodForFrame k_Ck_isGoodForFrame_0
  simp (disch := omega) only [nA, nS, nM, nLT, nLF, nTT, nTF, nEF, nET, nBT, nBF, nC, nNG, nNL, jj_b1, jj_b2, js, jn, eq_self, if_true, if_false, ite_true, ite_false, ↓reduceIte, and_self, true_and, and_true, zb0, zb1, bM, bR, bCk, bMa, Bool.false_eq_true, Bool.and_self, Bool.and_true, Bool.true_and, li_0, li_1, li_2, li_3, li_4, li_5, li_6, li_7, li_8, li_16, li_18, li_21, li_25, li_46, li_54, li_58, li_60, li_79, li_87, li_89, li_95, li_96, li_100, li_104, li_108, li_116, li_127, li_128, li_132, li_153, li_158, li_159, li_164, li_167, li_172, li_176, li_177, li_184, li_188, li_190, li_198, li_199, li_200, li_202, li_240, li_255, li_256, li_32767, li_32768, li_65536, e1, k1]
/-- the reference asks it -/
theorem mo_fits (hF : By K n) (hM : MtOK K n (K 1) (mcn K) b N) (hK : KP K n y) (hO : MO K b y) (hi : i < m_fc K b) (hB : KB 0 y pk sk h) (hS : KS pk sk h) : f_Mo_fits 58 (nI (m_fr K b i)) y = some (nI (z_p (GF K b i pk sk h)), y) := by
  have h240 := hF.1
  have h8 := hM.2.2.2.1
  have hpl := hM.1.2.2.2.2.2.1
  have hdp := hM.1.2.2.2.1
  have a0 := fr_ok hM hi
  have a2 := a0.2.2.2.2
  have q4 := hO.2.2.2.1
  have a3 := hK (m_fr K b i + 1 + m_pl K b) (by omega)
  have k1 := hB.1
  have h6 := hS.1
  have hfh : fh K b i ≤ 6 := by have := a0.2.2.1; unfold fh; omega
  have G2 : ∀ (r k f g : Nat), k + r = h → r < f → g ≤ 1 → (g = 1 → h = fh K b i) → g_Mo_fits f 91 [some (.ref 58), some (.int (nI (m_fr K b i))), some (.int (nI g)), some (.int (nI k))] y = some (nI (z_p (g = 1 ∧ ∀ j, k ≤ j → j < h → zgood (sk j) (K (m_fr K b i + 2 + m_pl K b + j)))), y) := by
    intro r
    induction r with
    | zero =>
      intro k f g hk hf hg hgh
      obtain ⟨f, rfl⟩ : ∃ g, f = g + 1 := ⟨f - 1, by omega⟩
      by_cases c0 : g = 1
      · subst c0
        rw [z_p1 ⟨rfl, fun j w1 w2 => by omega⟩]
        simp (disch := omega) only [nA, nS, nM, nLT, nLF, nTT, nTF, nEF, nET, nBT, nBF, nC, nNG, nNL, jj_b1, jj_b2, js, jn, eq_self, if_true, if_false, ite_true, ite_false, ↓reduceIte, and_self, true_and, and_true, zb0, zb1, bM, bR, bCk, bMa, Bool.false_eq_true, Bool.and_self, Bool.and_true, Bool.true_and, li_0, li_1, li_2, li_3, li_4, li_5, li_6, li_7, li_8, li_16, li_18, li_21, li_25, li_46, li_54, li_58, li_60, li_79, li_87, li_89, li_95, li_96, li_100, li_104, li_108, li_116, li_127, li_128, li_132, li_153, li_158, li_159, li_164, li_167, li_172, li_176, li_177, li_184, li_188, li_190, li_198, li_199, li_200, li_202, li_240, li_255, li_256, li_32767, li_32768, li_65536, g_Mo_fits, k_Mo_fits_91, k1]
      · have : g = 0 := by omega
        subst this
        rw [z_p0 (fun w => c0 w.1)]
        simp (disch := omega) only [nA, nS, nM, nLT, nLF, nTT, nTF, nEF, nET, nBT, nBF, nC, nNG, nNL, jj_b1, jj_b2, js, jn, eq_self, if_true, if_false, ite_true, ite_false, ↓reduceIte, and_self, true_and, and_true, zb0, zb1, bM, bR, bCk, bMa, Bool.false_eq_true, Bool.and_self, Bool.and_true, Bool.true_and, li_0, li_1, li_2, li_3, li_4, li_5, li_6, li_7, li_8, li_16, li_18, li_21, li_25, li_46, li_54, li_58, li_60, li_79, li_87, li_89, li_95, li_96, li_100, li_104, li_108, li_116, li_127, li_128, li_132, li_153, li_158, li_159, li_164, li_167, li_172, li_176, li_177, li_184, li_188, li_190, li_198, li_199, li_200, li_202, li_240, li_255, li_256, li_32767, li_32768, li_65536, g_Mo_fits, k_Mo_fits_91, k1]
    | succ r ih =>
      intro k f g hk hf hg hgh
      obtain ⟨f, rfl⟩ : ∃ g, f = g + 1 := ⟨f - 1, by omega⟩
      rw [show g_Mo_fits (f + 1) 91 [some (.ref 58), some (.int (nI (m_fr K b i))), some (.int (nI g)), some (.int (nI k))] y = k_Mo_fits_91 (g_Mo_fits f) 58 (nI (m_fr K b i)) (nI g) (nI k) y from rfl]
      by_cases c0 : g = 1
      · subst c0
        have hh := hgh rfl
        have hlt : k < fh K b i := by omega
        have w1 := a0.2.2.2.1 k hlt
        unfold fh at hh
        have e2 := hK (m_fr K b i + 2 + m_pl K b + k) (by omega)
        have e4 := hB.2.2 k (by omega)
        rw [show 6 * 0 + k = k by omega] at e4
        have t1 := hS.2.2 k
        have e5 := mo_good (x := y) (t := sk k) (d := K (m_fr K b i + 2 + m_pl K b + k)) (by omega) (by omega)
        by_cases c : sk k = K (m_fr K b i + 2 + m_pl K b + k) ∨ (sk k = 3 ∧ K (m_fr K b i + 2 + m_pl K b + k) = 2)
        · have I := ih (k + 1) f 1 (by omega) (by omega) (by omega) hgh
          rw [z_p1 c] at e5
          rw [show z_p (1 = 1 ∧ ∀ j, k ≤ j → j < h → zgood (sk j) (K (m_fr K b i + 2 + m_pl K b + j))) = z_p (1 = 1 ∧ ∀ j, k + 1 ≤ j → j < h → zgood (sk j) (K (m_fr K b i + 2 + m_pl K b + j))) from z_pc ⟨fun g => ⟨rfl, fun j u1 u2 => g.2 j (by omega) u2⟩, fun g => ⟨rfl, fun j u1 u2 => by
            by_cases c2 : j = k
            · rw [c2]; exact Or.inr c
            · exact g.2 j (by omega) u2⟩⟩, ← I]
          simp (disch := omega) only [nA, nS, nM, nLT, nLF, nTT, nTF, nEF, nET, nBT, nBF, nC, nNG, nNL, jj_b1, jj_b2, js, jn, eq_self, if_true, if_false, ite_true, ite_false, ↓reduceIte, and_self, true_and, and_true, zb0, zb1, bM, bR, bCk, bMa, Bool.false_eq_true, Bool.and_self, Bool.and_true, Bool.true_and, li_0, li_1, li_2, li_3, li_4, li_5, li_6, li_7, li_8, li_16, li_18, li_21, li_25, li_46, li_54, li_58, li_60, li_79, li_87, li_89, li_95, li_96, li_100, li_104, li_108, li_116, li_127, li_128, li_132, li_153, li_158, li_159, li_164, li_167, li_172, li_176, li_177, li_184, li_188, li_190, li_198, li_199, li_200, li_202, li_240, li_255, li_256, li_32767, li_32768, li_65536, k_Mo_fits_91, k1, q4, e2, e4, e5]
        · have I := ih (k + 1) f 0 (by omega) (by omega) (by omega) (fun w => by omega)
          rw [z_p0 (fun w => by omega)] at I
          rw [z_p0 c] at e5
          rw [z_p0 (fun g => by
            rcases g.2 k (by omega) (by omega) with w | w
            · omega
            · exact c w), ← I]
          simp (disch := omega) only [nA, nS, nM, nLT, nLF, nTT, nTF, nEF, nET, nBT, nBF, nC, nNG, nNL, jj_b1, jj_b2, js, jn, eq_self, if_true, if_false, ite_true, ite_false, ↓reduceIte, and_self, true_and, and_true, zb0, zb1, bM, bR, bCk, bMa, Bool.false_eq_true, Bool.and_self, Bool.and_true, Bool.true_and, li_0, li_1, li_2, li_3, li_4, li_5, li_6, li_7, li_8, li_16, li_18, li_21, li_25, li_46, li_54, li_58, li_60, li_79, li_87, li_89, li_95, li_96, li_100, li_104, li_108, li_116, li_127, li_128, li_132, li_153, li_158, li_159, li_164, li_167, li_172, li_176, li_177, li_184, li_188, li_190, li_198, li_199, li_200, li_202, li_240, li_255, li_256, li_32767, li_32768, li_65536, k_Mo_fits_91, k1, q4, e2, e4, e5]
      · have : g = 0 := by omega
        subst this
        rw [z_p0 (fun w => c0 w.1)]
        simp (disch := omega) only [nA, nS, nM, nLT, nLF, nTT, nTF, nEF, nET, nBT, nBF, nC, nNG, nNL, jj_b1, jj_b2, js, jn, eq_self, if_true, if_false, ite_true, ite_false, ↓reduceIte, and_self, true_and, and_true, zb0, zb1, bM, bR, bCk, bMa, Bool.false_eq_true, Bool.and_self, Bool.and_true, Bool.true_and, li_0, li_1, li_2, li_3, li_4, li_5, li_6, li_7, li_8, li_16, li_18, li_21, li_25, li_46, li_54, li_58, li_60, li_79, li_87, li_89, li_95, li_96, li_100, li_104, li_108, li_116, li_127, li_128, li_132, li_153, li_158, li_159, li_164, li_167, li_172, li_176, li_177, li_184, li_188, li_190, li_198, li_199, li_200, li_202, li_240, li_255, li_256, li_32767, li_32768, li_65536, k_Mo_fits_91, k1]
  have G1 : ∀ (r k f g : Nat), k + r = m_pl K b → r + h + 1 < f → g ≤ 1 → (g = 1 → h = fh K b i) → g_Mo_fits f 30 [some (.ref 58), some (.int (nI (m_fr K b i))), some (.int (nI g)), some (.int (nI k))] y = some (nI (z_p (g = 1 ∧ (∀ j, k ≤ j → j < m_pl K b → zgood (pk j) (K (m_fr K b i + 1 + j))) ∧ ∀ j, 0 ≤ j → j < h → zgood (sk j) (K (m_fr K b i + 2 + m_pl K b + j)))), y) := by
    intro r
    induction r with
    | zero =>
      intro k f g hk hf hg hgh
      obtain ⟨f, rfl⟩ : ∃ g, f = g + 1 := ⟨f - 1, by omega⟩
      have I := G2 h 0 f g (by omega) (by omega) hg hgh
      rw [show z_p (g = 1 ∧ (∀ j, k ≤ j → j < m_pl K b → zgood (pk j) (K (m_fr K b i + 1 + j))) ∧ ∀ j, 0 ≤ j → j < h → zgood (sk j) (K (m_fr K b i + 2 + m_pl K b + j))) = z_p (g = 1 ∧ ∀ j, 0 ≤ j → j < h → zgood (sk j) (K (m_fr K b i + 2 + m_pl K b + j))) from z_pc ⟨fun g => ⟨g.1, g.2.2⟩, fun g => ⟨g.1, fun j u1 u2 => by omega, g.2⟩⟩, ← I]
      rw [show g_Mo_fits (f + 1) 30 [some (.ref 58), some (.int (nI (m_fr K b i))), some (.int (nI g)), some (.int (nI k))] y = k_Mo_fits_30 (g_Mo_fits f) 58 (nI (m_fr K b i)) (nI g) (nI k) y from rfl]
      simp (disch := omega) only [nA, nS, nM, nLT, nLF, nTT, nTF, nEF, nET, nBT, nBF, nC, nNG, nNL, jj_b1, jj_b2, js, jn, eq_self, if_true, if_false, ite_true, ite_false, ↓reduceIte, and_self, true_and, and_true, zb0, zb1, bM, bR, bCk, bMa, Bool.false_eq_true, Bool.and_self, Bool.and_true, Bool.true_and, li_0, li_1, li_2, li_3, li_4, li_5, li_6, li_7, li_8, li_16, li_18, li_21, li_25, li_46, li_54, li_58, li_60, li_79, li_87, li_89, li_95, li_96, li_100, li_104, li_108, li_116, li_127, li_128, li_132, li_153, li_158, li_159, li_164, li_167, li_172, li_176, li_177, li_184, li_188, li_190, li_198, li_199, li_200, li_202, li_240, li_255, li_256, li_32767, li_32768, li_65536, k_Mo_fits_30, q4]
    | succ r ih =>
      intro k f g hk hf hg hgh
      obtain ⟨f, rfl⟩ : ∃ g, f = g + 1 := ⟨f - 1, by omega⟩
      rw [show g_Mo_fits (f + 1) 30 [some (.ref 58), some (.int (nI (m_fr K b i))), some (.int (nI g)), some (.int (nI k))] y = k_Mo_fits_30 (g_Mo_fits f) 58 (nI (m_fr K b i)) (nI g) (nI k) y from rfl]
      have I0 := ih (k + 1) f 0 (by omega) (by omega) (by omega) (fun w => by omega)
      rw [z_p0 (fun w => by omega)] at I0
      by_cases c0 : g = 1
      · subst c0
        have I1 := ih (k + 1) f 1 (by omega) (by omega) (by omega) hgh
        have w1 := a0.2.1 k (by omega)
        have e2 := hK (m_fr K b i + 1 + k) (by omega)
        have e4 := hB.2.1 k (by omega)
        rw [show 6 * 0 + k = k by omega] at e4
        have t1 := hS.2.1 k
        have e5 := mo_good (x := y) (t := pk k) (d := K (m_fr K b i + 1 + k)) (by omega) (by omega)
        have J : zgood (pk k) (K (m_fr K b i + 1 + k)) → z_p (1 = 1 ∧ (∀ j, k ≤ j → j < m_pl K b → zgood (pk j) (K (m_fr K b i + 1 + j))) ∧ ∀ j, 0 ≤ j → j < h → zgood (sk j) (K (m_fr K b i + 2 + m_pl K b + j))) = z_p (1 = 1 ∧ (∀ j, k + 1 ≤ j → j < m_pl K b → zgood (pk j) (K (m_fr K b i + 1 + j))) ∧ ∀ j, 0 ≤ j → j < h → zgood (sk j) (K (m_fr K b i + 2 + m_pl K b + j))) := fun c => z_pc ⟨fun g => ⟨rfl, fun j u1 u2 => g.2.1 j (by omega) u2, g.2.2⟩, fun g => ⟨rfl, fun j u1 u2 => by
          by_cases c2 : j = k
          · rw [c2]; exact c
          · exact g.2.1 j (by omega) u2, g.2.2⟩⟩
        by_cases c : K (m_fr K b i + 1 + k) = 0
        · rw [J (Or.inl c), ← I1]
          simp (disch := omega) only [nA, nS, nM, nLT, nLF, nTT, nTF, nEF, nET, nBT, nBF, nC, nNG, nNL, jj_b1, jj_b2, js, jn, eq_self, if_true, if_false, ite_true, ite_false, ↓reduceIte, and_self, true_and, and_true, zb0, zb1, bM, bR, bCk, bMa, Bool.false_eq_true, Bool.and_self, Bool.and_true, Bool.true_and, li_0, li_1, li_2, li_3, li_4, li_5, li_6, li_7, li_8, li_16, li_18, li_21, li_25, li_46, li_54, li_58, li_60, li_79, li_87, li_89, li_95, li_96, li_100, li_104, li_108, li_116, li_127, li_128, li_132, li_153, li_158, li_159, li_164, li_167, li_172, li_176, li_177, li_184, li_188, li_190, li_198, li_199, li_200, li_202, li_240, li_255, li_256, li_32767, li_32768, li_65536, k_Mo_fits_30, k_Mo_fits_77, k_Mo_fits_82, q4, e2, e4, e5]
        · by_cases c2 : pk k = K (m_fr K b i + 1 + k) ∨ (pk k = 3 ∧ K (m_fr K b i + 1 + k) = 2)
          · rw [z_p1 c2] at e5
            rw [J (Or.inr c2), ← I1]
            simp (disch := omega) only [nA, nS, nM, nLT, nLF, nTT, nTF, nEF, nET, nBT, nBF, nC, nNG, nNL, jj_b1, jj_b2, js, jn, eq_self, if_true, if_false, ite_true, ite_false, ↓reduceIte, and_self, true_and, and_true, zb0, zb1, bM, bR, bCk, bMa, Bool.false_eq_true, Bool.and_self, Bool.and_true, Bool.true_and, li_0, li_1, li_2, li_3, li_4, li_5, li_6, li_7, li_8, li_16, li_18, li_21, li_25, li_46, li_54, li_58, li_60, li_79, li_87, li_89, li_95, li_96, li_100, li_104, li_108, li_116, li_127, li_128, li_132, li_153, li_158, li_159, li_164, li_167, li_172, li_176, li_177, li_184, li_188, li_190, li_198, li_199, li_200, li_202, li_240, li_255, li_256, li_32767, li_32768, li_65536, k_Mo_fits_30, k_Mo_fits_77, k_Mo_fits_82, q4, e2, e4, e5]
          · rw [z_p0 c2] at e5
            rw [z_p0 (fun g => by
              rcases g.2.1 k (by omega) (by omega) with w | w
              · omega
              · exact c2 w), ← I0]
            simp (disch := omega) only [nA, nS, nM, nLT, nLF, nTT, nTF, nEF, nET, nBT, nBF, nC, nNG, nNL, jj_b1, jj_b2, js, jn, eq_self, if_true, if_false, ite_true, ite_false, ↓reduceIte, and_self, true_and, and_true, zb0, zb1, bM, bR, bCk, bMa, Bool.false_eq_true, Bool.and_self, Bool.and_true, Bool.true_and, li_0, li_1, li_2, li_3, li_4, li_5, li_6, li_7, li_8, li_16, li_18, li_21, li_25, li_46, li_54, li_58, li_60, li_79, li_87, li_89, li_95, li_96, li_100, li_104, li_108, li_116, li_127, li_128, li_132, li_153, li_158, li_159, li_164, li_167, li_172, li_176, li_177, li_184, li_188, li_190, li_198, li_199, li_200, li_202, li_240, li_255, li_256, li_32767, li_32768, li_65536, k_Mo_fits_30, k_Mo_fits_81, k_Mo_fits_82, q4, e2, e4, e5]
      · have : g = 0 := by omega
        subst this
        rw [z_p0 (fun w => c0 w.1), ← I0]
        simp (disch := omega) only [nA, nS, nM, nLT, nLF, nTT, nTF, nEF, nET, nBT, nBF, nC, nNG, nNL, jj_b1, jj_b2, js, jn, eq_self, if_true, if_false, ite_true, ite_false, ↓reduceIte, and_self, true_and, and_true, zb0, zb1, bM, bR, bCk, bMa, Bool.false_eq_true, Bool.and_self, Bool.and_true, Bool.true_and, li_0, li_1, li_2, li_3, li_4, li_5, li_6, li_7, li_8, li_16, li_18, li_21, li_25, li_46, li_54, li_58, li_60, li_79, li_87, li_89, li_95, li_96, li_100, li_104, li_108, li_116, li_127, li_128, li_132, li_153, li_158, li_159, li_164, li_167, li_172, li_176, li_177, li_184, li_188, li_190, li_198, li_199, li_200, li_202, li_240, li_255, li_256, li_32767, li_32768, li_65536, k_Mo_fits_30, k_Mo_fits_81, k_Mo_fits_82, q4]
  unfold f_Mo_fits k_Mo_fits_0 k_Mo_fits_27
  by_cases c1 : h = fh K b i
  · have I := G1 (m_pl K b) 0 1000 1 (by omega) (by omega) (by omega) (fun _ => c1)
    rw [show z_p (GF K b i pk sk h) = z_p (1 = 1 ∧ (∀ j, 0 ≤ j → j < m_pl K b → zgood (pk j) (K (m_fr K b i + 1 + j))) ∧ ∀ j, 0 ≤ j → j < h → zgood (sk j) (K (m_fr K b i + 2 + m_pl K b + j))) from z_pc ⟨fun g => ⟨rfl, fun j _ u => g.2.1 j u, fun j _ u => g.2.2 j u⟩, fun g => ⟨c1, fun j u => g.2.1 j (by omega) u, fun j u => g.2.2 j (by omega) u⟩⟩, ← I]
    unfold fh at c1
    simp (disch := omega) only [nA, nS, nM, nLT, nLF, nTT, nTF, nEF, nET, nBT, nBF, nC, nNG, nNL, jj_b1, jj_b2, js, jn, eq_self, if_true, if_false, ite_true, ite_false, ↓reduceIte, and_self, true_and, and_true, zb0, zb1, bM, bR, bCk, bMa, Bool.false_eq_true, Bool.and_self, Bool.and_true, Bool.true_and, li_0, li_1, li_2, li_3, li_4, li_5, li_6, li_7, li_8, li_16, li_18, li_21, li_25, li_46, li_54, li_58, li_60, li_79, li_87, li_89, li_95, li_96, li_100, li_104, li_108, li_116, li_127, li_128, li_132, li_153, li_158, li_159, li_164, li_167, li_172, li_176, li_177, li_184, li_188, li_190, li_198, li_199, li_200, li_202, li_240, li_255, li_256, li_32767, li_32768, li_65536, k1, q4, a3]
  · have I := G1 (m_pl K b) 0 1000 0 (by omega) (by omega) (by omega) (fun w => by omega)
    rw [z_p0 (fun w => by omega)] at I
    rw [z_p0 (fun g => c1 g.1), ← I]
    unfold fh at c1 hfh
    simp (disch := omega) only [nA, nS, nM, nLT, nLF, nTT, nTF, nEF, nET, nBT, nBF, nC, nNG, nNL, jj_b1, jj_b2, js, jn, eq_self, if_true, if_false, ite_true, ite_false, ↓reduceIte, and_self, true_and, and_true, zb0, zb1, bM, bR, bCk, bMa, Bool.false_eq_true, Bool.and_self, Bool.and_true, Bool.true_and, li_0, li_1, li_2, li_3, li_4, li_5, li_6, li_7, li_8, li_16, li_18, li_21, li_25, li_46, li_54, li_58, li_60, li_79, li_87, li_89, li_95, li_96, li_100, li_104, li_108, li_116, li_127, li_128, li_132, li_153, li_158, li_159, li_164, li_167, li_172, li_176, li_177, li_184, li_188, li_190, li_198, li_199, li_200, li_202, li_240, li_255, li_256, li_32767, li_32768, li_65536, k1, q4, a3]
end FRAME
