/-! PURE: beginning a run, on both sides -/
/-- u arguments are set -/
def AR (K : Nat → Nat) (b u mk : Nat) (x y : jj_Mem) : Prop := ∃ (ak : Nat → Nat) (av aw : Nat → Int32), KV 34 x (fun j => if j < u then ak j else 0) av (fun _ => 0) (fun _ => 0) 0 ∧ KVB 0 y (fun j => if j < u then ak j else ip K b j) aw (fun _ => 0) (fun _ => 0) 0 ∧ (∀ j, ak j ≤ 3) ∧ (∀ j, j < u → VR mk (ak j) (av j) (aw j)) ∧ (∀ j, u ≤ j → av j = nI 0 ∧ aw j = nI 0) ∧ RW mk x y ∧ x 32 8 = nI mk ∧ y 58 23 = nI mk ∧ mk ≤ u
abbrev WXA (i k : Nat) : Prop := WS 34 i k ∨ i = 56 ∨ i = 57 ∨ (i = 32 ∧ k = 8)
abbrev WYA (i k : Nat) : Prop := WP 0 i k ∨ i = 68 ∨ i = 69 ∨ (i = 58 ∧ k = 23)
section BEGIN
variable {K : Nat → Nat} {n b N P q m u mk l r c h : Nat} {x y : jj_Mem} {pk sk : Nat → Nat} {pv sv : Nat → Int32}
theorem ma_fill (hr : r < 8) (hl : l ≤ 8) (hu : u < 6) (a : Int32) : ∀ (t k f : Nat) (z : jj_Mem), k + t = l → t < f → z 57 r = nI l → KV 34 z pk pv sk sv h → ∃ x', g_Ma_setArgument f 67 [some (.ref 32), none, some (.int (nI u)), some (.int a), some (.int (nI r)), some (.int (nI k))] z = some x' ∧ Same (fun i k => WS 34 i k ∨ (i = 56 ∧ r * 8 ≤ k ∧ k < r * 8 + 8)) z x' ∧ KV 34 x' (ud pk u 2) (ud pv u (nI r)) sk sv h ∧ (∀ j, k ≤ j → j < l → x' 56 (r * 8 + j) = a + nI j) ∧ (∀ j, j < k → x' 56 (r * 8 + j) = z 56 (r * 8 + j)) := by
  intro t
  induction t with
  | zero =>
    intro k f z hk hf h57 hV
    obtain ⟨f, rfl⟩ : ∃ g, f = g + 1 := ⟨f - 1, by omega⟩
    obtain ⟨x', c1, c2, c3⟩ := sp_setPlace hV hu 2 (nI r)
    refine ⟨x', ?_, c2.mono (fun i k z => Or.inl z), c3, fun j h1 h2 => by omega, fun j hj => c2.get _ _ (by omega)⟩
    simp (disch := omega) only [nA, nS, nM, nLT, nLF, nTT, nTF, nEF, nET, nBT, nBF, nC, nNG, nNL, jj_b1, jj_b2, js, jn, eq_self, if_true, if_false, ite_true, ite_false, ↓reduceIte, and_self, true_and, and_true, zb0, zb1, bM, bR, bCk, bMa, Bool.false_eq_true, Bool.and_self, Bool.and_true, Bool.true_and, li_0, li_1, li_2, li_3, li_4, li_5, li_6, li_7, li_8, li_16, li_18, li_21, li_25, li_46, li_54, li_58, li_60, li_79, li_87, li_89, li_95, li_96, li_100, li_104, li_108, li_116, li_127, li_128, li_132, li_153, li_158, li_159, li_164, li_167, li_172, li_176, li_177, li_184, li_188, li_190, li_198, li_199, li_200, li_202, li_240, li_255, li_256, li_32767, li_32768, li_65536, g_Ma_setArgument, k_Ma_setArgument_67, h57, c1]
  | succ t ih =>
    intro k f z hk hf h57 hV
    obtain ⟨f, rfl⟩ : ∃ g, f = g + 1 := ⟨f - 1, by omega⟩
    have A : Same (fun i k => WS 34 i k ∨ (i = 56 ∧ r * 8 ≤ k ∧ k < r * 8 + 8)) z (jj_set z 56 (r * 8 + k) (a + nI k)) := (Same.refl z).set _ (by omega)
    obtain ⟨x', d1, d2, d3, d4, d5⟩ := ih (k + 1) f (jj_set z 56 (r * 8 + k) (a + nI k)) (by omega) (by omega) (by simp (disch := omega) only [nA, nS, nM, nLT, nLF, nTT, nTF, nEF, nET, nBT, nBF, nC, nNG, nNL, jj_b1, jj_b2, js, jn, eq_self, if_true, if_false, ite_true, ite_false, ↓reduceIte, and_self, true_and, and_true, zb0, zb1, bM, bR, bCk, bMa, Bool.false_eq_true, Bool.and_self, Bool.and_true, Bool.true_and, li_0, li_1, li_2, li_3, li_4, li_5, li_6, li_7, li_8, li_16, li_18, li_21, li_25, li_46, li_54, li_58, li_60, li_79, li_87, li_89, li_95, li_96, li_100, li_104, li_108, li_116, li_127, li_128, li_132, li_153, li_158, li_159, li_164, li_167, li_172, li_176, li_177, li_184, li_188, li_190, li_198, li_199, li_200, li_202, li_240, li_255, li_256, li_32767, li_32768, li_65536, h57]) (hV.same (W := fun i k => i = 56) (Same.set (Same.refl z) (i := 56) (k := r * 8 + k) _ rfl) (by omega) (fun i k _ _ => by omega))
    refine ⟨x', ?_, A.trans d2, d3, fun j h1 h2 => ?_, fun j hj => by rw [d5 j (by omega), jn (by omega)]⟩
    · rw [show g_Ma_setArgument (f + 1) 67 [some (.ref 32), none, some (.int (nI u)), some (.int a), some (.int (nI r)), some (.int (nI k))] z = if (bo_Ma 32) = true then k_Ma_setArgument_67 (g_Ma_setArgument f) 32 (nI u) a (nI r) (nI k) z else none from rfl]
      simp (disch := omega) only [nA, nS, nM, nLT, nLF, nTT, nTF, nEF, nET, nBT, nBF, nC, nNG, nNL, jj_b1, jj_b2, js, jn, eq_self, if_true, if_false, ite_true, ite_false, ↓reduceIte, and_self, true_and, and_true, zb0, zb1, bM, bR, bCk, bMa, Bool.false_eq_true, Bool.and_self, Bool.and_true, Bool.true_and, li_0, li_1, li_2, li_3, li_4, li_5, li_6, li_7, li_8, li_16, li_18, li_21, li_25, li_46, li_54, li_58, li_60, li_79, li_87, li_89, li_95, li_96, li_100, li_104, li_108, li_116, li_127, li_128, li_132, li_153, li_158, li_159, li_164, li_167, li_172, li_176, li_177, li_184, li_188, li_190, li_198, li_199, li_200, li_202, li_240, li_255, li_256, li_32767, li_32768, li_65536, k_Ma_setArgument_67, h57, d1]
    · by_cases e : j = k
      · rw [e, d5 k (by omega), js]
      · exact d4 j (by omega) h2
theorem mo_fill (hr : r < 8) (hl : l ≤ 8) (hu : u < 6) (a : Int32) : ∀ (t k f : Nat) (z : jj_Mem), k + t = l → t < f → z 68 r = nI l → ∃ y', g_Mo_argue f 53 [some (.ref 58), some (.int (nI u)), some (.int a), some (.int (nI r)), some (.int (nI k))] z = some y' ∧ Same (fun i k => (i = 62 ∧ k = u) ∨ (i = 69 ∧ 8 * r ≤ k ∧ k < 8 * r + 8)) z y' ∧ y' 62 u = nI r ∧ (∀ j, k ≤ j → j < l → y' 69 (8 * r + j) = a + nI j) ∧ (∀ j, j < k → y' 69 (8 * r + j) = z 69 (8 * r + j)) := by
  intro t
  induction t with
  | zero =>
    intro k f z hk hf h68
    obtain ⟨f, rfl⟩ : ∃ g, f = g + 1 := ⟨f - 1, by omega⟩
    refine ⟨jj_set z 62 u (nI r), ?_, (Same.refl z).set _ (by omega), js _ _ _ _, fun j h1 h2 => by omega, fun j hj => by rw [jn (by omega)]⟩
    simp (disch := omega) only [nA, nS, nM, nLT, nLF, nTT, nTF, nEF, nET, nBT, nBF, nC, nNG, nNL, jj_b1, jj_b2, js, jn, eq_self, if_true, if_false, ite_true, ite_false, ↓reduceIte, and_self, true_and, and_true, zb0, zb1, bM, bR, bCk, bMa, Bool.false_eq_true, Bool.and_self, Bool.and_true, Bool.true_and, li_0, li_1, li_2, li_3, li_4, li_5, li_6, li_7, li_8, li_16, li_18, li_21, li_25, li_46, li_54, li_58, li_60, li_79, li_87, li_89, li_95, li_96, li_100, li_104, li_108, li_116, li_127, li_128, li_132, li_153, li_158, li_159, li_164, li_167, li_172, li_176, li_177, li_184, li_188, li_190, li_198, li_199, li_200, li_202, li_240, li_255, li_256, li_32767, li_32768, li_65536, g_Mo_argue, k_Mo_argue_53, h68]
  | succ t ih =>
    intro k f z hk hf h68
    obtain ⟨f, rfl⟩ : ∃ g, f = g + 1 := ⟨f - 1, by omega⟩
    have A : Same (fun i k => (i = 62 ∧ k = u) ∨ (i = 69 ∧ 8 * r ≤ k ∧ k < 8 * r + 8)) z (jj_set z 69 (8 * r + k) (a + nI k)) := (Same.refl z).set _ (by omega)
    obtain ⟨y', d1, d2, d3, d4, d5⟩ := ih (k + 1) f (jj_set z 69 (8 * r + k) (a + nI k)) (by omega) (by omega) (by simp (disch := omega) only [nA, nS, nM, nLT, nLF, nTT, nTF, nEF, nET, nBT, nBF, nC, nNG, nNL, jj_b1, jj_b2, js, jn, eq_self, if_true, if_false, ite_true, ite_false, ↓reduceIte, and_self, true_and, and_true, zb0, zb1, bM, bR, bCk, bMa, Bool.false_eq_true, Bool.and_self, Bool.and_true, Bool.true_and, li_0, li_1, li_2, li_3, li_4, li_5, li_6, li_7, li_8, li_16, li_18, li_21, li_25, li_46, li_54, li_58, li_60, li_79, li_87, li_89, li_95, li_96, li_100, li_104, li_108, li_116, li_127, li_128, li_132, li_153, li_158, li_159, li_164, li_167, li_172, li_176, li_177, li_184, li_188, li_190, li_198, li_199, li_200, li_202, li_240, li_255, li_256, li_32767, li_32768, li_65536, h68])
    refine ⟨y', ?_, A.trans d2, d3, fun j h1 h2 => ?_, fun j hj => by rw [d5 j (by omega), jn (by omega)]⟩
    · rw [show g_Mo_argue (f + 1) 53 [some (.ref 58), some (.int (nI u)), some (.int a), some (.int (nI r)), some (.int (nI k))] z = k_Mo_argue_53 (g_Mo_argue f) 58 (nI u) a (nI r) (nI k) z from rfl]
      simp (disch := omega) only [nA, nS, nM, nLT, nLF, nTT, nTF, nEF, nET, nBT, nBF, nC, nNG, nNL, jj_b1, jj_b2, js, jn, eq_self, if_true, if_false, ite_true, ite_false, ↓reduceIte, and_self, true_and, and_true, zb0, zb1, bM, bR, bCk, bMa, Bool.false_eq_true, Bool.and_self, Bool.and_true, Bool.true_and, li_0, li_1, li_2, li_3, li_4, li_5, li_6, li_7, li_8, li_16, li_18, li_21, li_25, li_46, li_54, li_58, li_60, li_79, li_87, li_89, li_95, li_96, li_100, li_104, li_108, li_116, li_127, li_128, li_132, li_153, li_158, li_159, li_164, li_167, li_172, li_176, li_177, li_184, li_188, li_190, li_198, li_199, li_200, li_202, li_240, li_255, li_256, li_32767, li_32768, li_65536, k_Mo_argue_53, h68, d1]
    · by_cases e : j = k
      · rw [e, d5 k (by omega), js]
      · exact d4 j (by omega) h2
theorem ma_enter (hc : c < 4) (h5 : x 32 5 = nI c) : ∃ x', f_Ma_enter 32 (nI m) x = some x' ∧ Same (fun i k => (i = 54 ∧ k = c) ∨ (i = 55 ∧ k = c) ∨ WS (34 + 5 * c) i k) x x' ∧ x' 54 c = nI m ∧ x' 55 c = nI 0 ∧ KV (34 + 5 * c) x' (fun _ => 0) (fun _ => nI 0) (fun _ => 0) (fun _ => 0) 0 := by
  have os : o_St (34 + 5 * c) := by
    have : c = 0 ∨ c = 1 ∨ c = 2 ∨ c = 3 := by omega
    rcases this with rfl | rfl | rfl | rfl <;> rfl
  obtain ⟨x', d1, d2, d3⟩ := sp_makeEmpty (s := 34 + 5 * c) (x := jj_set (jj_set x 54 c (nI m)) 55 c (nI 0)) os (fun _ => 0) (fun _ => 0)
  refine ⟨x', ?_, (((Same.refl x).set _ (by omega)).set _ (by omega)).trans (d2.mono (fun i k z => by omega)), by rw [d2.get _ _ (by omega)]; simp (disch := omega) only [nA, nS, nM, nLT, nLF, nTT, nTF, nEF, nET, nBT, nBF, nC, nNG, nNL, jj_b1, jj_b2, js, jn, eq_self, if_true, if_false, ite_true, ite_false, ↓reduceIte, and_self, true_and, and_true, zb0, zb1, bM, bR, bCk, bMa, Bool.false_eq_true, Bool.and_self, Bool.and_true, Bool.true_and, li_0, li_1, li_2, li_3, li_4, li_5, li_6, li_7, li_8, li_16, li_18, li_21, li_25, li_46, li_54, li_58, li_60, li_79, li_87, li_89, li_95, li_96, li_100, li_104, li_108, li_116, li_127, li_128, li_132, li_153, li_158, li_159, li_164, li_167, li_172, li_176, li_177, li_184, li_188, li_190, li_198, li_199, li_200, li_202, li_240, li_255, li_256, li_32767, li_32768, li_65536], by rw [d2.get _ _ (by omega)]; simp (disch := omega) only [nA, nS, nM, nLT, nLF, nTT, nTF, nEF, nET, nBT, nBF, nC, nNG, nNL, jj_b1, jj_b2, js, jn, eq_self, if_true, if_false, ite_true, ite_false, ↓reduceIte, and_self, true_and, and_true, zb0, zb1, bM, bR, bCk, bMa, Bool.false_eq_true, Bool.and_self, Bool.and_true, Bool.true_and, li_0, li_1, li_2, li_3, li_4, li_5, li_6, li_7, li_8, li_16, li_18, li_21, li_25, li_46, li_54, li_58, li_60, li_79, li_87, li_89, li_95, li_96, li_100, li_104, li_108, li_116, li_127, li_128, li_132, li_153, li_158, li_159, li_164, li_167, li_172, li_176, li_177, li_184, li_188, li_190, li_198, li_199, li_200, li_202, li_240, li_255, li_256, li_32767, li_32768, li_65536], d3⟩
  unfold f_Ma_enter
  simp (disch := omega) only [nA, nS, nM, nLT, nLF, nTT, nTF, nEF, nET, nBT, nBF, nC, nNG, nNL, jj_b1, jj_b2, js, jn, eq_self, if_true, if_false, ite_true, ite_false, ↓reduceIte, and_self, true_and, and_true, zb0, zb1, bM, bR, bCk, bMa, Bool.false_eq_true, Bool.and_self, Bool.and_true, Bool.true_and, li_0, li_1, li_2, li_3, li_4, li_5, li_6, li_7, li_8, li_16, li_18, li_21, li_25, li_46, li_54, li_58, li_60, li_79, li_87, li_89, li_95, li_96, li_100, li_104, li_108, li_116, li_127, li_128, li_132, li_153, li_158, li_159, li_164, li_167, li_172, li_176, li_177, li_184, li_188, li_190, li_198, li_199, li_200, li_202, li_240, li_255, li_256, li_32767, li_32768, li_65536, h5, d1]
theorem ifud {u : Nat} {ak g : Nat → Nat} {v : Nat} : ud (fun j => if j < u then ak j else g j) u v = (fun j => if j < u + 1 then (ud ak u v) j else g j) := by
  funext j
  by_cases e : j = u
  · rw [ud_e e]
    show v = if j < u + 1 then (ud ak u v) j else g j
    rw [if_pos (by omega), ud_e e]
  · rw [ud_n e]
    show (if j < u then ak j else g j) = if j < u + 1 then (ud ak u v) j else g j
    by_cases w : j < u
    · rw [if_pos w, if_pos (by omega), ud_n e]
    · rw [if_neg w, if_neg (by omega)]
theorem AR_next {ak : Nat → Nat} {av aw : Nat → Int32} {mk' kd : Nat} {v w : Int32} {x' y' : jj_Mem} (h2 : ∀ j, ak j ≤ 3) (h3 : ∀ j, j < u → VR mk (ak j) (av j) (aw j)) (h4 : ∀ j, u ≤ j → av j = nI 0 ∧ aw j = nI 0) (hkd : kd ≤ 3) (hmk : mk ≤ mk') (hv : VR mk' kd v w) (hx : KV 34 x' (ud (fun j => if j < u then ak j else 0) u kd) (ud av u v) (fun _ => 0) (fun _ => 0) 0) (hy : KVB 0 y' (ud (fun j => if j < u then ak j else ip K b j) u kd) (ud aw u w) (fun _ => 0) (fun _ => 0) 0) (hr : RW mk' x' y') (h8 : x' 32 8 = nI mk') (h23 : y' 58 23 = nI mk') (hu : mk' ≤ u + 1) : AR K b (u + 1) mk' x' y' := by
  refine ⟨ud ak u kd, ud av u v, ud aw u w, ?_, ?_, fun j => ud_le h2 hkd j, fun j hj => ?_, fun j hj => ?_, hr, h8, h23, hu⟩
  · rw [← ifud]; exact hx
  · rw [← ifud (g := ip K b)]; exact hy
  · by_cases e : j = u
    · rw [ud_e e, ud_e e, ud_e e]; exact hv
    · rw [ud_n e, ud_n e, ud_n e]; exact (h3 j (by omega)).mono hmk
  · rw [ud_n (by omega), ud_n (by omega)]; exact h4 j (by omega)
theorem KVB_upd {z : jj_Mem} {v : Int32} (g : KVB 0 y pk pv sk sv 0) (h1 : ∀ i k, 61 ≤ i → i ≤ 65 → ¬ (i = 62 ∧ k = u) → z i k = y i k) (h2 : z 62 u = v) : KVB 0 z pk (ud pv u v) sk sv 0 := by
  refine ⟨by rw [h1 _ _ (by omega) (by omega) (by omega)]; exact g.1, fun k hk => ?_, fun k hk => by omega⟩
  obtain ⟨q1, q2⟩ := g.2.1 k hk
  refine ⟨by rw [h1 _ _ (by omega) (by omega) (by omega)]; exact q1, ?_⟩
  by_cases e : k = u
  · rw [ud_e e, show 6 * 0 + k = u by omega]; exact h2
  · rw [ud_n e, h1 _ _ (by omega) (by omega) (by omega)]; exact q2
theorem KVB_kind {a : Nat} (g : KVB 0 y pk pv sk sv 0) (hu : u < 6) : KVB 0 (jj_set y 61 u (nI a)) (ud pk u a) pv sk sv 0 := by
  have := bp_kind (a := a) g hu
  rw [show 6 * 0 + u = u by omega] at this
  exact this
theorem two_arg (hP : o_Pr P) (hF : By K n) (hM : MtOK K n (K 1) (mcn K) b N) (hm : m < 4) (hFC : FileC P K n x) (hC : MtC K b (P + 3 + 2 * m) x) (h54 : x 54 0 = nI m) (hu : u < K b) (hA : AR K b u mk x y) (a : Int32) : ∃ x' y' mk', f_Ma_setArgument 32 P (nI u) a x = some x' ∧ f_Mo_argue 58 (nI u) a y = some y' ∧ Same WXA x x' ∧ Same WYA y y' ∧ AR K b (u + 1) mk' x' y' := by
  have h240 := hF.1
  have hP2 := oc_Pr hP
  have h3 := hM.1.1
  have h9 := hM.1.2.2.2.2.2.2.2.2
  have ecd := m_cd.eq_1 K b
  have h1 := hC.1.2.1
  have e2 := hFC.2.2.2.2.1 (b + 1 + u) (by omega)
  have e3 : f_Pr_parameterType P (P + 3 + 2 * m) (nI u) x = some (nI (K (b + 1 + u)), x) := by
    unfold f_Pr_parameterType
    simp (disch := omega) only [nA, nS, nM, nLT, nLF, nTT, nTF, nEF, nET, nBT, nBF, nC, nNG, nNL, jj_b1, jj_b2, js, jn, eq_self, if_true, if_false, ite_true, ite_false, ↓reduceIte, and_self, true_and, and_true, zb0, zb1, bM, bR, bCk, bMa, Bool.false_eq_true, Bool.and_self, Bool.and_true, Bool.true_and, li_0, li_1, li_2, li_3, li_4, li_5, li_6, li_7, li_8, li_16, li_18, li_21, li_25, li_46, li_54, li_58, li_60, li_79, li_87, li_89, li_95, li_96, li_100, li_104, li_108, li_116, li_127, li_128, li_132, li_153, li_158, li_159, li_164, li_167, li_172, li_176, li_177, li_184, li_188, li_190, li_198, li_199, li_200, li_202, li_240, li_255, li_256, li_32767, li_32768, li_65536, h1, e2]
  have ty := hM.1.2.1 u hu
  have ei : ip K b u = K (b + 1 + u) := by unfold ip; rw [if_pos hu]
  obtain ⟨ak, av, aw, a1, a2, a3, a4, a5, a6, a7, a8, a9⟩ := hA
  have k61 : y 61 u = nI (K (b + 1 + u)) := by
    have := (a2.2.1 u (by omega)).1
    rw [show 6 * 0 + u = u by omega] at this
    rw [this]
    show nI (if u < u then ak u else ip K b u) = _
    rw [if_neg (show ¬ u < u by omega), ei]
  have eud : ud (fun j => if j < u then ak j else ip K b j) u (K (b + 1 + u)) = (fun j => if j < u then ak j else ip K b j) := by
    have := ud_id (f := fun j => if j < u then ak j else ip K b j) (k := u)
    simp only [Nat.lt_irrefl, if_false] at this
    rw [ei] at this
    exact this
  by_cases c1 : K (b + 1 + u) = 1
  · obtain ⟨x', d1, d2, d3⟩ := sp_setPlace a1 (u := u) (by omega) 1 a
    rw [c1] at e3 k61 eud
    refine ⟨x', jj_set y 62 u a, mk, ?_, ?_, d2.mono (fun i k z => by omega), (Same.refl y).set _ (by omega), AR_next a3 a4 a5 (kd := 1) (by omega) (Nat.le_refl mk) (VR.self (by omega)) d3 ?_ (a6.same d2 ((Same.refl y).set (W := fun i k => i = 62) (i := 62) (k := u) a rfl) (fun k => by omega) (fun k => by omega) (fun k => by omega) (fun k => by omega)) (by rw [d2.get _ _ (by omega)]; exact a7) (by simp (disch := omega) only [nA, nS, nM, nLT, nLF, nTT, nTF, nEF, nET, nBT, nBF, nC, nNG, nNL, jj_b1, jj_b2, js, jn, eq_self, if_true, if_false, ite_true, ite_false, ↓reduceIte, and_self, true_and, and_true, zb0, zb1, bM, bR, bCk, bMa, Bool.false_eq_true, Bool.and_self, Bool.and_true, Bool.true_and, li_0, li_1, li_2, li_3, li_4, li_5, li_6, li_7, li_8, li_16, li_18, li_21, li_25, li_46, li_54, li_58, li_60, li_79, li_87, li_89, li_95, li_96, li_100, li_104, li_108, li_116, li_127, li_128, li_132, li_153, li_158, li_159, li_164, li_167, li_172, li_176, li_177, li_184, li_188, li_190, li_198, li_199, li_200, li_202, li_240, li_255, li_256, li_32767, li_32768, li_65536, a8]) (by omega)⟩
    · unfold f_Ma_setArgument k_Ma_setArgument_0
      simp (disch := omega) only [nA, nS, nM, nLT, nLF, nTT, nTF, nEF, nET, nBT, nBF, nC, nNG, nNL, jj_b1, jj_b2, js, jn, eq_self, if_true, if_false, ite_true, ite_false, ↓reduceIte, and_self, true_and, and_true, zb0, zb1, bM, bR, bCk, bMa, Bool.false_eq_true, Bool.and_self, Bool.and_true, Bool.true_and, li_0, li_1, li_2, li_3, li_4, li_5, li_6, li_7, li_8, li_16, li_18, li_21, li_25, li_46, li_54, li_58, li_60, li_79, li_87, li_89, li_95, li_96, li_100, li_104, li_108, li_116, li_127, li_128, li_132, li_153, li_158, li_159, li_164, li_167, li_172, li_176, li_177, li_184, li_188, li_190, li_198, li_199, li_200, li_202, li_240, li_255, li_256, li_32767, li_32768, li_65536, h54, e3, d1]
    · unfold f_Mo_argue k_Mo_argue_0
      simp (disch := omega) only [nA, nS, nM, nLT, nLF, nTT, nTF, nEF, nET, nBT, nBF, nC, nNG, nNL, jj_b1, jj_b2, js, jn, eq_self, if_true, if_false, ite_true, ite_false, ↓reduceIte, and_self, true_and, and_true, zb0, zb1, bM, bR, bCk, bMa, Bool.false_eq_true, Bool.and_self, Bool.and_true, Bool.true_and, li_0, li_1, li_2, li_3, li_4, li_5, li_6, li_7, li_8, li_16, li_18, li_21, li_25, li_46, li_54, li_58, li_60, li_79, li_87, li_89, li_95, li_96, li_100, li_104, li_108, li_116, li_127, li_128, li_132, li_153, li_158, li_159, li_164, li_167, li_172, li_176, li_177, li_184, li_188, li_190, li_198, li_199, li_200, li_202, li_240, li_255, li_256, li_32767, li_32768, li_65536, k_Mo_argue_31, k61]
    · rw [eud]
      exact KVB_upd a2 (fun i k _ _ z => jn (by omega)) (js _ _ _ _)
  · have c2 : K (b + 1 + u) = 2 := by omega
    rw [c2] at e3 k61 eud
    by_cases c3 : nI 0 ≤ a
    · have c3' : (nI 0 ≤ a) = True := eq_true c3
      obtain ⟨l, l1, l2⟩ := and7 a
      obtain ⟨x1, b1, b2, b3, b4, b5⟩ := ma_newRow (x := x) (l := l) (mk := mk) (by omega) (by omega) a7
      have V1 := a1.same b2 (by omega) (fun i k _ _ => by omega)
      obtain ⟨x2, d1, d2, d3, d4, d5⟩ := ma_fill (r := mk) (l := l) (u := u) (by omega) (by omega) (by omega) a l 0 1000 x1 (by omega) (by omega) b4 V1
      have y23 : (jj_set y 62 u a) 58 23 = nI mk := by simp (disch := omega) only [nA, nS, nM, nLT, nLF, nTT, nTF, nEF, nET, nBT, nBF, nC, nNG, nNL, jj_b1, jj_b2, js, jn, eq_self, if_true, if_false, ite_true, ite_false, ↓reduceIte, and_self, true_and, and_true, zb0, zb1, bM, bR, bCk, bMa, Bool.false_eq_true, Bool.and_self, Bool.and_true, Bool.true_and, li_0, li_1, li_2, li_3, li_4, li_5, li_6, li_7, li_8, li_16, li_18, li_21, li_25, li_46, li_54, li_58, li_60, li_79, li_87, li_89, li_95, li_96, li_100, li_104, li_108, li_116, li_127, li_128, li_132, li_153, li_158, li_159, li_164, li_167, li_172, li_176, li_177, li_184, li_188, li_190, li_198, li_199, li_200, li_202, li_240, li_255, li_256, li_32767, li_32768, li_65536, a8]
      obtain ⟨y1, f1, f2, f3, f4, f5⟩ := mo_makeRow (y := jj_set y 62 u a) (mk := mk) (by omega) y23 (nI l)
      obtain ⟨y2, g1, g2, g3, g4, g5⟩ := mo_fill (r := mk) (l := l) (u := u) (by omega) (by omega) (by omega) a l 0 1000 y1 (by omega) (by omega) f4
      have RW1 : RW (mk + 1) x2 y2 := fun r hr => by
        by_cases e : r = mk
        · rw [e]
          refine ⟨l, by omega, ?_, ?_, fun k hk => by rw [d4 k (by omega) hk, g4 k (by omega) hk]⟩
          · rw [d2.get _ _ (by omega)]; exact b4
          · rw [g2.get _ _ (by omega)]; exact f4
        · obtain ⟨l', c1, c2, c3, c4⟩ := a6 r (by omega)
          refine ⟨l', c1, by rw [d2.get _ _ (by omega), b2.get _ _ (by omega)]; exact c2, by rw [g2.get _ _ (by omega), f2.get _ _ (by omega), jn (by omega)]; exact c3, fun k hk => ?_⟩
          rw [d2.get _ _ (by omega), b2.get _ _ (by omega), g2.get _ _ (by omega), f2.get _ _ (by omega), jn (by omega)]
          exact c4 k hk
      refine ⟨x2, y2, mk + 1, ?_, ?_, (b2.mono (fun i k z => by omega)).trans (d2.mono (fun i k z => by omega)), ((Same.refl y).set (i := 62) (k := u) a (by omega)).trans ((f2.mono (fun i k z => by omega)).trans (g2.mono (fun i k z => by omega))), AR_next a3 a4 a5 (kd := 2) (v := nI mk) (w := nI mk) (by omega) (by omega) ⟨fun _ => rfl, fun _ => ⟨mk, by omega, rfl⟩⟩ d3 ?_ RW1 (by rw [d2.get _ _ (by omega)]; exact b3) (by rw [g2.get _ _ (by omega)]; exact f3) (by omega)⟩
      · unfold f_Ma_setArgument k_Ma_setArgument_0
        simp (disch := omega) only [nA, nS, nM, nLT, nLF, nTT, nTF, nEF, nET, nBT, nBF, nC, nNG, nNL, jj_b1, jj_b2, js, jn, eq_self, if_true, if_false, ite_true, ite_false, ↓reduceIte, and_self, true_and, and_true, zb0, zb1, bM, bR, bCk, bMa, Bool.false_eq_true, Bool.and_self, Bool.and_true, Bool.true_and, li_0, li_1, li_2, li_3, li_4, li_5, li_6, li_7, li_8, li_16, li_18, li_21, li_25, li_46, li_54, li_58, li_60, li_79, li_87, li_89, li_95, li_96, li_100, li_104, li_108, li_116, li_127, li_128, li_132, li_153, li_158, li_159, li_164, li_167, li_172, li_176, li_177, li_184, li_188, li_190, li_198, li_199, li_200, li_202, li_240, li_255, li_256, li_32767, li_32768, li_65536, h54, e3, c3', l2, b1, d1]
      · unfold f_Mo_argue k_Mo_argue_0
        simp (disch := omega) only [nA, nS, nM, nLT, nLF, nTT, nTF, nEF, nET, nBT, nBF, nC, nNG, nNL, jj_b1, jj_b2, js, jn, eq_self, if_true, if_false, ite_true, ite_false, ↓reduceIte, and_self, true_and, and_true, zb0, zb1, bM, bR, bCk, bMa, Bool.false_eq_true, Bool.and_self, Bool.and_true, Bool.true_and, li_0, li_1, li_2, li_3, li_4, li_5, li_6, li_7, li_8, li_16, li_18, li_21, li_25, li_46, li_54, li_58, li_60, li_79, li_87, li_89, li_95, li_96, li_100, li_104, li_108, li_116, li_127, li_128, li_132, li_153, li_158, li_159, li_164, li_167, li_172, li_176, li_177, li_184, li_188, li_190, li_198, li_199, li_200, li_202, li_240, li_255, li_256, li_32767, li_32768, li_65536, k_Mo_argue_31, k61, c3', l2, f1, g1]
      · rw [eud]
        exact KVB_upd a2 (fun i k _ _ z => by rw [g2.get _ _ (by omega), f2.get _ _ (by omega), jn (by omega)]) g3
    · have c3' : (nI 0 ≤ a) = False := eq_false c3
      obtain ⟨x', d1, d2, d3⟩ := sp_setPlace a1 (u := u) (by omega) 3 (nI 0)
      refine ⟨x', jj_set (jj_set y 62 u a) 61 u (nI 3), mk, ?_, ?_, d2.mono (fun i k z => by omega), ((Same.refl y).set _ (by omega)).set _ (by omega), AR_next a3 a4 a5 (kd := 3) (v := nI 0) (w := a) (by omega) (Nat.le_refl mk) ⟨fun e => absurd rfl e, fun e => by omega⟩ d3 ?_ (a6.same d2 (((Same.refl y).set (W := fun i k => i = 62 ∨ i = 61) (i := 62) (k := u) a (by omega)).set _ (by omega)) (fun k => by omega) (fun k => by omega) (fun k => by omega) (fun k => by omega)) (by rw [d2.get _ _ (by omega)]; exact a7) (by simp (disch := omega) only [nA, nS, nM, nLT, nLF, nTT, nTF, nEF, nET, nBT, nBF, nC, nNG, nNL, jj_b1, jj_b2, js, jn, eq_self, if_true, if_false, ite_true, ite_false, ↓reduceIte, and_self, true_and, and_true, zb0, zb1, bM, bR, bCk, bMa, Bool.false_eq_true, Bool.and_self, Bool.and_true, Bool.true_and, li_0, li_1, li_2, li_3, li_4, li_5, li_6, li_7, li_8, li_16, li_18, li_21, li_25, li_46, li_54, li_58, li_60, li_79, li_87, li_89, li_95, li_96, li_100, li_104, li_108, li_116, li_127, li_128, li_132, li_153, li_158, li_159, li_164, li_167, li_172, li_176, li_177, li_184, li_188, li_190, li_198, li_199, li_200, li_202, li_240, li_255, li_256, li_32767, li_32768, li_65536, a8]) (by omega)⟩
      · unfold f_Ma_setArgument k_Ma_setArgument_0
        simp (disch := omega) only [nA, nS, nM, nLT, nLF, nTT, nTF, nEF, nET, nBT, nBF, nC, nNG, nNL, jj_b1, jj_b2, js, jn, eq_self, if_true, if_false, ite_true, ite_false, ↓reduceIte, and_self, true_and, and_true, zb0, zb1, bM, bR, bCk, bMa, Bool.false_eq_true, Bool.and_self, Bool.and_true, Bool.true_and, li_0, li_1, li_2, li_3, li_4, li_5, li_6, li_7, li_8, li_16, li_18, li_21, li_25, li_46, li_54, li_58, li_60, li_79, li_87, li_89, li_95, li_96, li_100, li_104, li_108, li_116, li_127, li_128, li_132, li_153, li_158, li_159, li_164, li_167, li_172, li_176, li_177, li_184, li_188, li_190, li_198, li_199, li_200, li_202, li_240, li_255, li_256, li_32767, li_32768, li_65536, h54, e3, c3', d1]
      · unfold f_Mo_argue k_Mo_argue_0
        simp (disch := omega) only [nA, nS, nM, nLT, nLF, nTT, nTF, nEF, nET, nBT, nBF, nC, nNG, nNL, jj_b1, jj_b2, js, jn, eq_self, if_true, if_false, ite_true, ite_false, ↓reduceIte, and_self, true_and, and_true, zb0, zb1, bM, bR, bCk, bMa, Bool.false_eq_true, Bool.and_self, Bool.and_true, Bool.true_and, li_0, li_1, li_2, li_3, li_4, li_5, li_6, li_7, li_8, li_16, li_18, li_21, li_25, li_46, li_54, li_58, li_60, li_79, li_87, li_89, li_95, li_96, li_100, li_104, li_108, li_116, li_127, li_128, li_132, li_153, li_158, li_159, li_164, li_167, li_172, li_176, li_177, li_184, li_188, li_190, li_198, li_199, li_200, li_202, li_240, li_255, li_256, li_32767, li_32768, li_65536, k_Mo_argue_31, k61, c3']
      · exact KVB_kind (KVB_upd a2 (fun i k _ _ z => jn (by omega)) (js _ _ _ _)) (by omega)
theorem mo_run60 {f : Nat} {a0 a1 a2 : Int32} {y' : jj_Mem} (h3 : K b ≤ 3) (h9 : y 58 9 = nI (K b)) (hu : u < K b) (h : f_Mo_argue 58 (nI u) (if u = 0 then a0 else if u = 1 then a1 else a2) y = some y') : g_Mo_run (f + 1) 60 [some (.ref 58), none, some (.int a0), some (.int a1), some (.int a2), some (.int (nI u))] y = g_Mo_run f 60 [some (.ref 58), none, some (.int a0), some (.int a1), some (.int a2), some (.int (nI (u + 1)))] y' := by
  rw [show g_Mo_run (f + 1) 60 [some (.ref 58), none, some (.int a0), some (.int a1), some (.int a2), some (.int (nI u))] y = k_Mo_run_60 (g_Mo_run f) 58 a0 a1 a2 (nI u) y from rfl]
  by_cases c0 : u = 0
  · rw [if_pos c0] at h
    simp (disch := omega) only [nA, nS, nM, nLT, nLF, nTT, nTF, nEF, nET, nBT, nBF, nC, nNG, nNL, jj_b1, jj_b2, js, jn, eq_self, if_true, if_false, ite_true, ite_false, ↓reduceIte, and_self, true_and, and_true, zb0, zb1, bM, bR, bCk, bMa, Bool.false_eq_true, Bool.and_self, Bool.and_true, Bool.true_and, li_0, li_1, li_2, li_3, li_4, li_5, li_6, li_7, li_8, li_16, li_18, li_21, li_25, li_46, li_54, li_58, li_60, li_79, li_87, li_89, li_95, li_96, li_100, li_104, li_108, li_116, li_127, li_128, li_132, li_153, li_158, li_159, li_164, li_167, li_172, li_176, li_177, li_184, li_188, li_190, li_198, li_199, li_200, li_202, li_240, li_255, li_256, li_32767, li_32768, li_65536, k_Mo_run_60, k_Mo_run_93, h9, h]
  · rw [if_neg c0] at h
    by_cases c1 : u = 1
    · rw [if_pos c1] at h
      simp (disch := omega) only [nA, nS, nM, nLT, nLF, nTT, nTF, nEF, nET, nBT, nBF, nC, nNG, nNL, jj_b1, jj_b2, js, jn, eq_self, if_true, if_false, ite_true, ite_false, ↓reduceIte, and_self, true_and, and_true, zb0, zb1, bM, bR, bCk, bMa, Bool.false_eq_true, Bool.and_self, Bool.and_true, Bool.true_and, li_0, li_1, li_2, li_3, li_4, li_5, li_6, li_7, li_8, li_16, li_18, li_21, li_25, li_46, li_54, li_58, li_60, li_79, li_87, li_89, li_95, li_96, li_100, li_104, li_108, li_116, li_127, li_128, li_132, li_153, li_158, li_159, li_164, li_167, li_172, li_176, li_177, li_184, li_188, li_190, li_198, li_199, li_200, li_202, li_240, li_255, li_256, li_32767, li_32768, li_65536, k_Mo_run_60, k_Mo_run_93, h9, h]
    · rw [if_neg c1] at h
      simp (disch := omega) only [nA, nS, nM, nLT, nLF, nTT, nTF, nEF, nET, nBT, nBF, nC, nNG, nNL, jj_b1, jj_b2, js, jn, eq_self, if_true, if_false, ite_true, ite_false, ↓reduceIte, and_self, true_and, and_true, zb0, zb1, bM, bR, bCk, bMa, Bool.false_eq_true, Bool.and_self, Bool.and_true, Bool.true_and, li_0, li_1, li_2, li_3, li_4, li_5, li_6, li_7, li_8, li_16, li_18, li_21, li_25, li_46, li_54, li_58, li_60, li_79, li_87, li_89, li_95, li_96, li_100, li_104, li_108, li_116, li_127, li_128, li_132, li_153, li_158, li_159, li_164, li_167, li_172, li_176, li_177, li_184, li_188, li_190, li_198, li_199, li_200, li_202, li_240, li_255, li_256, li_32767, li_32768, li_65536, k_Mo_run_60, k_Mo_run_93, h9, h]
theorem mo_run60e {f : Nat} {a0 a1 a2 : Int32} (h3 : K b ≤ 3) (h9 : y 58 9 = nI (K b)) (hu : u = K b) : g_Mo_run (f + 1) 60 [some (.ref 58), none, some (.int a0), some (.int a1), some (.int a2), some (.int (nI u))] y = g_Mo_run f 105 [some (.ref 58), none, none, none, none, some (.int (-nI 1))] y := by
  rw [show g_Mo_run (f + 1) 60 [some (.ref 58), none, some (.int a0), some (.int a1), some (.int a2), some (.int (nI u))] y = k_Mo_run_60 (g_Mo_run f) 58 a0 a1 a2 (nI u) y from rfl]
  simp (disch := omega) only [nA, nS, nM, nLT, nLF, nTT, nTF, nEF, nET, nBT, nBF, nC, nNG, nNL, jj_b1, jj_b2, js, jn, eq_self, if_true, if_false, ite_true, ite_false, ↓reduceIte, and_self, true_and, and_true, zb0, zb1, bM, bR, bCk, bMa, Bool.false_eq_true, Bool.and_self, Bool.and_true, Bool.true_and, li_0, li_1, li_2, li_3, li_4, li_5, li_6, li_7, li_8, li_16, li_18, li_21, li_25, li_46, li_54, li_58, li_60, li_79, li_87, li_89, li_95, li_96, li_100, li_104, li_108, li_116, li_127, li_128, li_132, li_153, li_158, li_159, li_164, li_167, li_172, li_176, li_177, li_184, li_188, li_190, li_198, li_199, li_200, li_202, li_240, li_255, li_256, li_32767, li_32768, li_65536, k_Mo_run_60, h9]
abbrev WMa (i k : Nat) : Prop := (32 ≤ i ∧ i ≤ 57)
abbrev WMo (i k : Nat) : Prop := (i = 58 ∧ (k = 0 ∨ 8 ≤ k)) ∨ 61 ≤ i
theorem AR_end (hP : o_Pr P) (hM : MtOK K n (K 1) (mcn K) (mp K m) N) (hm : m < mcn K) (hFC : FileC P K n x) (hK : KP K n y) (h5 : x 32 5 = nI 0) (h21 : y 58 21 = nI 1) (h54 : x 54 0 = nI m) (h67 : y 67 0 = nI m) (h55 : x 55 0 = nI 0) (h66 : y 66 0 = nI 0) (hA : AR K (mp K m) (K (mp K m)) mk x y) : RR K n P 0 mk x y := by
  have h3 := hM.1.1
  obtain ⟨ak, av, aw, a1, a2, a3, a4, a5, a6, a7, a8, a9⟩ := hA
  refine ⟨by omega, by omega, hFC, hK, h5, h21, a7, a8, fun d hd => ?_, fun d hd => ?_, fun d hd => by omega, a6⟩
  · rw [show d = 0 by omega]
    exact ⟨m, N, 0, hm, hM, Nat.zero_le N, h54, h67, h55, h66⟩
  · rw [show d = 0 by omega]
    have e : (fun j => if j < K (mp K m) then ak j else ip K (mp K m) j) = (fun j => if j < K (mp K m) then ak j else 0) := by
      funext j
      by_cases w : j < K (mp K m)
      · rw [if_pos w, if_pos w]
      · rw [if_neg w, if_neg w]
        unfold ip
        rw [if_neg w]
    rw [e] at a2
    refine ⟨_, av, aw, _, _, _, 0, a1, a2, ⟨by omega, fun k => ?_, fun k => Nat.zero_le 3⟩, fun k hk => ?_, fun k hk => by omega⟩
    · show (if k < K (mp K m) then ak k else 0) ≤ 3
      split
      · exact a3 k
      · omega
    · show VR mk (if k < K (mp K m) then ak k else 0) (av k) (aw k)
      by_cases w : k < K (mp K m)
      · rw [if_pos w]; exact a4 k w
      · rw [if_neg w, (a5 k (by omega)).1, (a5 k (by omega)).2]
        exact VR.self (by omega)
theorem two_begin (hP : o_Pr P) (hF : By K n) (hOK : FileOK K n) (hm : m < mcn K) (hM : MtOK K n (K 1) (mcn K) (mp K m) N) (hFC : FileC P K n x) (hK : KP K n y) (a0 a1 a2 : Int32) (hl : f_Mo_lackOfMethod 58 (nI m) y = some (nI 0, y)) : ∃ x' y' mk f, f_Ma_begin 32 P (nI m) a0 a1 a2 x = some x' ∧ f_Mo_run 58 (nI m) a0 a1 a2 y = g_Mo_run f 105 [some (.ref 58), none, none, none, none, some (.int (-nI 1))] y' ∧ 900 ≤ f ∧ RR K n P 0 mk x' y' ∧ Same WMa x x' ∧ Same WMo y y' ∧ x' 32 0 = x 32 0 ∧ x' 32 1 = nI 0 ∧ y' 58 27 = y 58 27 ∧ y' 58 26 = nI 0 ∧ y' 58 0 = nI 0 := by
  have h240 := hF.1
  have hP2 := oc_Pr hP
  have h3 := hM.1.1
  have hk4 := hOK.2.2.1
  -- the object's side
  have e5 : (jj_set (jj_set (jj_set x 32 1 (nI 0)) 32 8 (nI 0)) 32 5 (nI 0)) 32 5 = nI 0 := js _ _ _ _
  have X0 : Same (fun i k => i = 32 ∧ k ≠ 0) x (jj_set (jj_set (jj_set x 32 1 (nI 0)) 32 8 (nI 0)) 32 5 (nI 0)) := (((Same.refl x).set _ (by omega)).set _ (by omega)).set _ (by omega)
  obtain ⟨x1, b1, b2, b3, b4, b5⟩ := ma_enter (c := 0) (m := m) (by omega) e5
  have X1 : Same (fun i k => (32 ≤ i ∧ i ≤ 57) ∧ ¬ (i = 32 ∧ k = 0)) x x1 := (X0.mono (fun i k z => by omega)).trans (b2.mono (fun i k z => by omega))
  have hFC1 := hFC.same hk4 X1 (fun i k _ _ => by omega)
  have hC1 := hFC1.2.2.2.2.2 m hm
  have q8 : x1 32 8 = nI 0 := by rw [b2.get _ _ (by omega)]; simp (disch := omega) only [nA, nS, nM, nLT, nLF, nTT, nTF, nEF, nET, nBT, nBF, nC, nNG, nNL, jj_b1, jj_b2, js, jn, eq_self, if_true, if_false, ite_true, ite_false, ↓reduceIte, and_self, true_and, and_true, zb0, zb1, bM, bR, bCk, bMa, Bool.false_eq_true, Bool.and_self, Bool.and_true, Bool.true_and, li_0, li_1, li_2, li_3, li_4, li_5, li_6, li_7, li_8, li_16, li_18, li_21, li_25, li_46, li_54, li_58, li_60, li_79, li_87, li_89, li_95, li_96, li_100, li_104, li_108, li_116, li_127, li_128, li_132, li_153, li_158, li_159, li_164, li_167, li_172, li_176, li_177, li_184, li_188, li_190, li_198, li_199, li_200, li_202, li_240, li_255, li_256, li_32767, li_32768, li_65536]
  have q1 : x1 32 1 = nI 0 := by rw [b2.get _ _ (by omega)]; simp (disch := omega) only [nA, nS, nM, nLT, nLF, nTT, nTF, nEF, nET, nBT, nBF, nC, nNG, nNL, jj_b1, jj_b2, js, jn, eq_self, if_true, if_false, ite_true, ite_false, ↓reduceIte, and_self, true_and, and_true, zb0, zb1, bM, bR, bCk, bMa, Bool.false_eq_true, Bool.and_self, Bool.and_true, Bool.true_and, li_0, li_1, li_2, li_3, li_4, li_5, li_6, li_7, li_8, li_16, li_18, li_21, li_25, li_46, li_54, li_58, li_60, li_79, li_87, li_89, li_95, li_96, li_100, li_104, li_108, li_116, li_127, li_128, li_132, li_153, li_158, li_159, li_164, li_167, li_172, li_176, li_177, li_184, li_188, li_190, li_198, li_199, li_200, li_202, li_240, li_255, li_256, li_32767, li_32768, li_65536]
  have q5 : x1 32 5 = nI 0 := by rw [b2.get _ _ (by omega)]; simp (disch := omega) only [nA, nS, nM, nLT, nLF, nTT, nTF, nEF, nET, nBT, nBF, nC, nNG, nNL, jj_b1, jj_b2, js, jn, eq_self, if_true, if_false, ite_true, ite_false, ↓reduceIte, and_self, true_and, and_true, zb0, zb1, bM, bR, bCk, bMa, Bool.false_eq_true, Bool.and_self, Bool.and_true, Bool.true_and, li_0, li_1, li_2, li_3, li_4, li_5, li_6, li_7, li_8, li_16, li_18, li_21, li_25, li_46, li_54, li_58, li_60, li_79, li_87, li_89, li_95, li_96, li_100, li_104, li_108, li_116, li_127, li_128, li_132, li_153, li_158, li_159, li_164, li_167, li_172, li_176, li_177, li_184, li_188, li_190, li_198, li_199, li_200, li_202, li_240, li_255, li_256, li_32767, li_32768, li_65536]
  have q0 : x1 32 0 = x 32 0 := X1.get _ _ (by omega)
  have qn := hC1.1.1
  -- the reference's side
  have Y0 : Same (fun i k => (i = 58 ∧ (k = 0 ∨ 8 ≤ k) ∧ k ≠ 27) ∨ 61 ≤ i) y (jj_set (jj_set (jj_set (jj_set (jj_set (jj_set y 58 0 (nI 0)) 58 23 (nI 0)) 58 21 (nI 1)) 58 26 (nI 0)) 67 0 (nI m)) 66 0 (nI 0)) := ((((((Same.refl y).set _ (by omega)).set _ (by omega)).set _ (by omega)).set _ (by omega)).set _ (by omega)).set _ (by omega)
  have z0 : ∀ (i k : Nat) (v : Int32), (jj_set (jj_set (jj_set (jj_set (jj_set (jj_set y 58 0 (nI 0)) 58 23 (nI 0)) 58 21 (nI 1)) 58 26 (nI 0)) 67 0 (nI m)) 66 0 (nI 0)) i k = v → (jj_set (jj_set (jj_set (jj_set (jj_set (jj_set y 58 0 (nI 0)) 58 23 (nI 0)) 58 21 (nI 1)) 58 26 (nI 0)) 67 0 (nI m)) 66 0 (nI 0)) i k = v := fun _ _ _ h => h
  have z1 := z0 58 23 (nI 0) (by simp (disch := omega) only [nA, nS, nM, nLT, nLF, nTT, nTF, nEF, nET, nBT, nBF, nC, nNG, nNL, jj_b1, jj_b2, js, jn, eq_self, if_true, if_false, ite_true, ite_false, ↓reduceIte, and_self, true_and, and_true, zb0, zb1, bM, bR, bCk, bMa, Bool.false_eq_true, Bool.and_self, Bool.and_true, Bool.true_and, li_0, li_1, li_2, li_3, li_4, li_5, li_6, li_7, li_8, li_16, li_18, li_21, li_25, li_46, li_54, li_58, li_60, li_79, li_87, li_89, li_95, li_96, li_100, li_104, li_108, li_116, li_127, li_128, li_132, li_153, li_158, li_159, li_164, li_167, li_172, li_176, li_177, li_184, li_188, li_190, li_198, li_199, li_200, li_202, li_240, li_255, li_256, li_32767, li_32768, li_65536])
  have z2 := z0 58 21 (nI 1) (by simp (disch := omega) only [nA, nS, nM, nLT, nLF, nTT, nTF, nEF, nET, nBT, nBF, nC, nNG, nNL, jj_b1, jj_b2, js, jn, eq_self, if_true, if_false, ite_true, ite_false, ↓reduceIte, and_self, true_and, and_true, zb0, zb1, bM, bR, bCk, bMa, Bool.false_eq_true, Bool.and_self, Bool.and_true, Bool.true_and, li_0, li_1, li_2, li_3, li_4, li_5, li_6, li_7, li_8, li_16, li_18, li_21, li_25, li_46, li_54, li_58, li_60, li_79, li_87, li_89, li_95, li_96, li_100, li_104, li_108, li_116, li_127, li_128, li_132, li_153, li_158, li_159, li_164, li_167, li_172, li_176, li_177, li_184, li_188, li_190, li_198, li_199, li_200, li_202, li_240, li_255, li_256, li_32767, li_32768, li_65536])
  have z3 := z0 58 26 (nI 0) (by simp (disch := omega) only [nA, nS, nM, nLT, nLF, nTT, nTF, nEF, nET, nBT, nBF, nC, nNG, nNL, jj_b1, jj_b2, js, jn, eq_self, if_true, if_false, ite_true, ite_false, ↓reduceIte, and_self, true_and, and_true, zb0, zb1, bM, bR, bCk, bMa, Bool.false_eq_true, Bool.and_self, Bool.and_true, Bool.true_and, li_0, li_1, li_2, li_3, li_4, li_5, li_6, li_7, li_8, li_16, li_18, li_21, li_25, li_46, li_54, li_58, li_60, li_79, li_87, li_89, li_95, li_96, li_100, li_104, li_108, li_116, li_127, li_128, li_132, li_153, li_158, li_159, li_164, li_167, li_172, li_176, li_177, li_184, li_188, li_190, li_198, li_199, li_200, li_202, li_240, li_255, li_256, li_32767, li_32768, li_65536])
  have z4 := z0 67 0 (nI m) (by simp (disch := omega) only [nA, nS, nM, nLT, nLF, nTT, nTF, nEF, nET, nBT, nBF, nC, nNG, nNL, jj_b1, jj_b2, js, jn, eq_self, if_true, if_false, ite_true, ite_false, ↓reduceIte, and_self, true_and, and_true, zb0, zb1, bM, bR, bCk, bMa, Bool.false_eq_true, Bool.and_self, Bool.and_true, Bool.true_and, li_0, li_1, li_2, li_3, li_4, li_5, li_6, li_7, li_8, li_16, li_18, li_21, li_25, li_46, li_54, li_58, li_60, li_79, li_87, li_89, li_95, li_96, li_100, li_104, li_108, li_116, li_127, li_128, li_132, li_153, li_158, li_159, li_164, li_167, li_172, li_176, li_177, li_184, li_188, li_190, li_198, li_199, li_200, li_202, li_240, li_255, li_256, li_32767, li_32768, li_65536])
  have z5 := z0 66 0 (nI 0) (by simp (disch := omega) only [nA, nS, nM, nLT, nLF, nTT, nTF, nEF, nET, nBT, nBF, nC, nNG, nNL, jj_b1, jj_b2, js, jn, eq_self, if_true, if_false, ite_true, ite_false, ↓reduceIte, and_self, true_and, and_true, zb0, zb1, bM, bR, bCk, bMa, Bool.false_eq_true, Bool.and_self, Bool.and_true, Bool.true_and, li_0, li_1, li_2, li_3, li_4, li_5, li_6, li_7, li_8, li_16, li_18, li_21, li_25, li_46, li_54, li_58, li_60, li_79, li_87, li_89, li_95, li_96, li_100, li_104, li_108, li_116, li_127, li_128, li_132, li_153, li_158, li_159, li_164, li_167, li_172, li_176, li_177, li_184, li_188, li_190, li_198, li_199, li_200, li_202, li_240, li_255, li_256, li_32767, li_32768, li_65536])
  have z6 := z0 58 0 (nI 0) (by simp (disch := omega) only [nA, nS, nM, nLT, nLF, nTT, nTF, nEF, nET, nBT, nBF, nC, nNG, nNL, jj_b1, jj_b2, js, jn, eq_self, if_true, if_false, ite_true, ite_false, ↓reduceIte, and_self, true_and, and_true, zb0, zb1, bM, bR, bCk, bMa, Bool.false_eq_true, Bool.and_self, Bool.and_true, Bool.true_and, li_0, li_1, li_2, li_3, li_4, li_5, li_6, li_7, li_8, li_16, li_18, li_21, li_25, li_46, li_54, li_58, li_60, li_79, li_87, li_89, li_95, li_96, li_100, li_104, li_108, li_116, li_127, li_128, li_132, li_153, li_158, li_159, li_164, li_167, li_172, li_176, li_177, li_184, li_188, li_190, li_198, li_199, li_200, li_202, li_240, li_255, li_256, li_32767, li_32768, li_65536])
  obtain ⟨y1, c1, c2, c3⟩ := mo_open hF hOK (hK.same Y0 (fun k => by omega)) hm
  have hK1 := (hK.same Y0 (fun k => by omega)).same c2 (fun k => by omega)
  obtain ⟨y2, d1, d2, d3⟩ := mo_begin (c := 0) (by omega) hF hM hK1 c3 (fun _ => 0) (fun _ => 0)
  have hK2 := hK1.same d2 (fun k => by omega)
  have hO2 := c3.same d2 (fun k _ _ => by omega)
  have r9 := hO2.2.1
  have w1 : y2 58 23 = nI 0 := by rw [d2.get _ _ (by omega), c2.get _ _ (by omega)]; exact z1
  have w2 : y2 58 21 = nI 1 := by rw [d2.get _ _ (by omega), c2.get _ _ (by omega)]; exact z2
  have w3 : y2 58 26 = nI 0 := by rw [d2.get _ _ (by omega), c2.get _ _ (by omega)]; exact z3
  have w4 : y2 67 0 = nI m := by rw [d2.get _ _ (by omega), c2.get _ _ (by omega)]; exact z4
  have w5 : y2 66 0 = nI 0 := by rw [d2.get _ _ (by omega), c2.get _ _ (by omega)]; exact z5
  have w6 : y2 58 0 = nI 0 := by rw [d2.get _ _ (by omega), c2.get _ _ (by omega)]; exact z6
  have Y2 : Same (fun i k => (i = 58 ∧ (k = 0 ∨ 8 ≤ k) ∧ k ≠ 27) ∨ 61 ≤ i) y y2 := Y0.trans ((c2.mono (fun i k z => by omega)).trans (d2.mono (fun i k z => by omega)))
  have M : f_Mo_run 58 (nI m) a0 a1 a2 y = g_Mo_run 1000 60 [some (.ref 58), none, some (.int a0), some (.int a1), some (.int a2), some (.int (nI 0))] y2 := by
    unfold f_Mo_run k_Mo_run_0
    simp (disch := omega) only [nA, nS, nM, nLT, nLF, nTT, nTF, nEF, nET, nBT, nBF, nC, nNG, nNL, jj_b1, jj_b2, js, jn, eq_self, if_true, if_false, ite_true, ite_false, ↓reduceIte, and_self, true_and, and_true, zb0, zb1, bM, bR, bCk, bMa, Bool.false_eq_true, Bool.and_self, Bool.and_true, Bool.true_and, li_0, li_1, li_2, li_3, li_4, li_5, li_6, li_7, li_8, li_16, li_18, li_21, li_25, li_46, li_54, li_58, li_60, li_79, li_87, li_89, li_95, li_96, li_100, li_104, li_108, li_116, li_127, li_128, li_132, li_153, li_158, li_159, li_164, li_167, li_172, li_176, li_177, li_184, li_188, li_190, li_198, li_199, li_200, li_202, li_240, li_255, li_256, li_32767, li_32768, li_65536, hl, c1, d1]
  have A0 : AR K (mp K m) 0 0 x1 y2 := ⟨fun _ => 0, fun _ => nI 0, fun _ => nI 0, by
    have e : (fun j : Nat => if j < 0 then (0 : Nat) else 0) = fun _ => 0 := by funext j; rw [if_neg (by omega)]
    rw [e]; exact b5, by
    have e : (fun j : Nat => if j < 0 then (0 : Nat) else ip K (mp K m) j) = ip K (mp K m) := by funext j; rw [if_neg (by omega)]
    rw [e]; exact d3, fun _ => Nat.zero_le 3, fun j hj => by omega, fun j hj => ⟨rfl, rfl⟩, fun r hr => by omega, q8, w1, Nat.le_refl 0⟩
  rw [M]
  have G : ∀ (r u mk f : Nat) (x2 y3 : jj_Mem), u + r = K (mp K m) → r < f → Same WXA x1 x2 → Same WYA y2 y3 → AR K (mp K m) u mk x2 y3 → ∃ x' y' mk' , (if u = 0 then (if nI (K (mp K m)) ≤ nI 0 then k_Ma_begin_43 32 P a1 a2 (nI (K (mp K m))) x2 else jj_b1 (f_Ma_setArgument 32 P (nI 0) a0 x2) (fun x4 => k_Ma_begin_43 32 P a1 a2 (nI (K (mp K m))) x4)) else if u = 1 then k_Ma_begin_43 32 P a1 a2 (nI (K (mp K m))) x2 else if u = 2 then k_Ma_begin_57 32 P a2 (nI (K (mp K m))) x2 else some x2) = some x' ∧ g_Mo_run f 60 [some (.ref 58), none, some (.int a0), some (.int a1), some (.int a2), some (.int (nI u))] y3 = g_Mo_run (f - r - 1) 105 [some (.ref 58), none, none, none, none, some (.int (-nI 1))] y' ∧ Same WXA x1 x' ∧ Same WYA y2 y' ∧ AR K (mp K m) (K (mp K m)) mk' x' y' := by
    intro r
    induction r with
    | zero =>
      intro u mk f x2 y3 hu hf sx sy hA
      obtain ⟨f, rfl⟩ : ∃ g, f = g + 1 := ⟨f - 1, by omega⟩
      have e9 : y3 58 9 = nI (K (mp K m)) := by rw [sy.get _ _ (by omega)]; exact r9
      have e : u = K (mp K m) := by omega
      refine ⟨x2, y3, mk, ?_, mo_run60e h3 e9 e, sx, sy, by rw [← e]; exact hA⟩
      rw [← e]
      have : u = 0 ∨ u = 1 ∨ u = 2 ∨ u = 3 := by omega
      rcases this with w | w | w | w <;> rw [w] <;> simp (disch := omega) only [nA, nS, nM, nLT, nLF, nTT, nTF, nEF, nET, nBT, nBF, nC, nNG, nNL, jj_b1, jj_b2, js, jn, eq_self, if_true, if_false, ite_true, ite_false, ↓reduceIte, and_self, true_and, and_true, zb0, zb1, bM, bR, bCk, bMa, Bool.false_eq_true, Bool.and_self, Bool.and_true, Bool.true_and, li_0, li_1, li_2, li_3, li_4, li_5, li_6, li_7, li_8, li_16, li_18, li_21, li_25, li_46, li_54, li_58, li_60, li_79, li_87, li_89, li_95, li_96, li_100, li_104, li_108, li_116, li_127, li_128, li_132, li_153, li_158, li_159, li_164, li_167, li_172, li_176, li_177, li_184, li_188, li_190, li_198, li_199, li_200, li_202, li_240, li_255, li_256, li_32767, li_32768, li_65536, k_Ma_begin_43, k_Ma_begin_57, Nat.reduceEqDiff]
    | succ r ih =>
      intro u mk f x2 y3 hu hf sx sy hA
      obtain ⟨f, rfl⟩ : ∃ g, f = g + 1 := ⟨f - 1, by omega⟩
      have e9 : y3 58 9 = nI (K (mp K m)) := by rw [sy.get _ _ (by omega)]; exact r9
      have hFC2 := hFC1.same hk4 sx (fun i k _ _ => by omega)
      have e54 : x2 54 0 = nI m := by rw [sx.get _ _ (by omega)]; exact b3
      obtain ⟨x3, y4, mk2, g1, g2, g3, g4, g5⟩ := two_arg hP hF hM (by omega) hFC2 (hFC2.2.2.2.2.2 m hm) e54 (by omega : u < K (mp K m)) hA (if u = 0 then a0 else if u = 1 then a1 else a2)
      obtain ⟨x', y', mk3, i1, i2, i3, i4, i5⟩ := ih (u + 1) mk2 f x3 y4 (by omega) (by omega) (sx.trans g3) (sy.trans g4) g5
      refine ⟨x', y', mk3, ?_, ?_, i3, i4, i5⟩
      · have : u = 0 ∨ u = 1 ∨ u = 2 := by omega
        rcases this with w | w | w
        · subst w
          simp only [if_true, if_false, Nat.reduceAdd, Nat.reduceEqDiff] at i1 g1
          simp (disch := omega) only [nA, nS, nM, nLT, nLF, nTT, nTF, nEF, nET, nBT, nBF, nC, nNG, nNL, jj_b1, jj_b2, js, jn, eq_self, if_true, if_false, ite_true, ite_false, ↓reduceIte, and_self, true_and, and_true, zb0, zb1, bM, bR, bCk, bMa, Bool.false_eq_true, Bool.and_self, Bool.and_true, Bool.true_and, li_0, li_1, li_2, li_3, li_4, li_5, li_6, li_7, li_8, li_16, li_18, li_21, li_25, li_46, li_54, li_58, li_60, li_79, li_87, li_89, li_95, li_96, li_100, li_104, li_108, li_116, li_127, li_128, li_132, li_153, li_158, li_159, li_164, li_167, li_172, li_176, li_177, li_184, li_188, li_190, li_198, li_199, li_200, li_202, li_240, li_255, li_256, li_32767, li_32768, li_65536, g1, i1]
        · subst w
          simp only [if_true, if_false, Nat.reduceAdd, Nat.reduceEqDiff] at i1 g1
          simp (disch := omega) only [nA, nS, nM, nLT, nLF, nTT, nTF, nEF, nET, nBT, nBF, nC, nNG, nNL, jj_b1, jj_b2, js, jn, eq_self, if_true, if_false, ite_true, ite_false, ↓reduceIte, and_self, true_and, and_true, zb0, zb1, bM, bR, bCk, bMa, Bool.false_eq_true, Bool.and_self, Bool.and_true, Bool.true_and, li_0, li_1, li_2, li_3, li_4, li_5, li_6, li_7, li_8, li_16, li_18, li_21, li_25, li_46, li_54, li_58, li_60, li_79, li_87, li_89, li_95, li_96, li_100, li_104, li_108, li_116, li_127, li_128, li_132, li_153, li_158, li_159, li_164, li_167, li_172, li_176, li_177, li_184, li_188, li_190, li_198, li_199, li_200, li_202, li_240, li_255, li_256, li_32767, li_32768, li_65536, Nat.reduceEqDiff, k_Ma_begin_43, g1, i1]
        · subst w
          simp only [if_true, if_false, Nat.reduceAdd, Nat.reduceEqDiff] at i1 g1
          simp (disch := omega) only [nA, nS, nM, nLT, nLF, nTT, nTF, nEF, nET, nBT, nBF, nC, nNG, nNL, jj_b1, jj_b2, js, jn, eq_self, if_true, if_false, ite_true, ite_false, ↓reduceIte, and_self, true_and, and_true, zb0, zb1, bM, bR, bCk, bMa, Bool.false_eq_true, Bool.and_self, Bool.and_true, Bool.true_and, li_0, li_1, li_2, li_3, li_4, li_5, li_6, li_7, li_8, li_16, li_18, li_21, li_25, li_46, li_54, li_58, li_60, li_79, li_87, li_89, li_95, li_96, li_100, li_104, li_108, li_116, li_127, li_128, li_132, li_153, li_158, li_159, li_164, li_167, li_172, li_176, li_177, li_184, li_188, li_190, li_198, li_199, li_200, li_202, li_240, li_255, li_256, li_32767, li_32768, li_65536, Nat.reduceEqDiff, k_Ma_begin_57, g1, i1]
      · rw [mo_run60 h3 e9 (by omega) g2, i2, show f + 1 - (r + 1) - 1 = f - r - 1 by omega]
  obtain ⟨x', y', mk, i1, i2, i3, i4, i5⟩ := G (K (mp K m)) 0 0 1000 x1 y2 (by omega) (by omega) (Same.refl x1) (Same.refl y2) A0
  refine ⟨x', y', mk, 1000 - K (mp K m) - 1, ?_, i2, by omega, ?_, (X1.mono (fun i k z => by omega)).trans (i3.mono (fun i k z => by omega)), (Y2.mono (fun i k z => by omega)).trans (i4.mono (fun i k z => by omega)), by rw [i3.get _ _ (by omega)]; exact q0, by rw [i3.get _ _ (by omega)]; exact q1, by rw [i4.get _ _ (by omega), Y2.get _ _ (by omega)], by rw [i4.get _ _ (by omega)]; exact w3, by rw [i4.get _ _ (by omega)]; exact w6⟩
  · rw [if_pos rfl] at i1
    unfold f_Ma_begin
    simp (disch := omega) only [nA, nS, nM, nLT, nLF, nTT, nTF, nEF, nET, nBT, nBF, nC, nNG, nNL, jj_b1, jj_b2, js, jn, eq_self, if_true, if_false, ite_true, ite_false, ↓reduceIte, and_self, true_and, and_true, zb0, zb1, bM, bR, bCk, bMa, Bool.false_eq_true, Bool.and_self, Bool.and_true, Bool.true_and, li_0, li_1, li_2, li_3, li_4, li_5, li_6, li_7, li_8, li_16, li_18, li_21, li_25, li_46, li_54, li_58, li_60, li_79, li_87, li_89, li_95, li_96, li_100, li_104, li_108, li_116, li_127, li_128, li_132, li_153, li_158, li_159, li_164, li_167, li_172, li_176, li_177, li_184, li_188, li_190, li_198, li_199, li_200, li_202, li_240, li_255, li_256, li_32767, li_32768, li_65536, b1, qn]
    exact i1
  · exact AR_end hP hM hm (hFC1.same hk4 i3 (fun i k _ _ => by omega)) (hK2.same i4 (fun k => by omega)) (by rw [i3.get _ _ (by omega)]; exact q5) (by rw [i4.get _ _ (by omega)]; exact w2) (by rw [i3.get _ _ (by omega)]; exact b3) (by rw [i4.get _ _ (by omega)]; exact w4) (by rw [i3.get _ _ (by omega)]; exact b4) (by rw [i4.get _ _ (by omega)]; exact w5) i5
end BEGIN
