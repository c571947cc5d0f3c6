/-! PURE: instructions that work on their own method's stack and places, on both sides -/
def PC (mk : Nat) (pk : Nat → Nat) (pv pw : Nat → Int32) (sk : Nat → Nat) (sv sw : Nat → Int32) (h : Nat) : Prop := KS pk sk h ∧ (∀ k, k < 6 → VR mk (pk k) (pv k) (pw k)) ∧ ∀ k, k < h → VR mk (sk k) (sv k) (sw k)
abbrev WXC (c i k : Nat) : Prop := WS (34 + 5 * c) i k ∨ i = 56 ∨ i = 57 ∨ (i = 32 ∧ k = 8)
abbrev WYC (c i k : Nat) : Prop := WP c i k ∨ i = 68 ∨ i = 69 ∨ (i = 58 ∧ k = 23)
def DW (mk c : Nat) (x y x' y' : jj_Mem) : Prop := Same (WXC c) x x' ∧ Same (WYC c) y y' ∧ ∃ mk', mk ≤ mk' ∧ mk' ≤ 8 ∧ x' 32 8 = nI mk' ∧ y' 58 23 = nI mk' ∧ FE mk' c x' y' ∧ RW mk' x' y'
def HW (K : Nat → Nat) (n P q cd o pl dp rt c mk : Nat) (x y : jj_Mem) (pk : Nat → Nat) (pv pw : Nat → Int32) (sk : Nat → Nat) (sv sw : Nat → Int32) (h : Nat) : Prop := c < 4 ∧ mk ≤ 8 ∧ By K n ∧ FileOK K n ∧ FileC P K n x ∧ KP K n y ∧ x q 5 = nI cd ∧ y 58 13 = nI cd ∧ IA K n pl (cd + o) ∧ pl ≤ 6 ∧ dp ≤ 6 ∧ FR mk c x y pk pv pw sk sv sw h ∧ AL K (cd + o) dp rt pk sk h ∧ SAFE (K (cd + o)) c mk h x y sk sv sw ∧ x 32 8 = nI mk ∧ y 58 23 = nI mk ∧ RW mk x y
section WORK
variable {K : Nat → Nat} {n P q cd o pl dp rt c mk mk' h h' u a : Nat} {x y x' y' : jj_Mem} {pk sk : Nat → Nat} {pv pw sv sw : Nat → Int32} {v w : Int32}
theorem PC.put (g : PC mk pk pv pw sk sv sw h) (hh : h + 1 ≤ 6) (ha : a ≤ 3) (hv : VR mk a v w) : PC mk pk pv pw (ud sk h a) (ud sv h v) (ud sw h w) (h + 1) :=
  ⟨⟨hh, g.1.2.1, fun k => ud_le g.1.2.2 ha k⟩, g.2.1, fun k hk => by
    by_cases e : k = h
    · rw [ud_e e, ud_e e, ud_e e]; exact hv
    · rw [ud_n e, ud_n e, ud_n e]; exact g.2.2 k (by omega)⟩
theorem PC.drop (g : PC mk pk pv pw sk sv sw h) (hh : h' ≤ h) : PC mk pk pv pw sk sv sw h' :=
  ⟨⟨by have := g.1.1; omega, g.1.2⟩, g.2.1, fun k hk => g.2.2 k (by omega)⟩
theorem PC.place (g : PC mk pk pv pw sk sv sw h) (ha : a ≤ 3) (hv : VR mk a v w) : PC mk (ud pk u a) (ud pv u v) (ud pw u w) sk sv sw h :=
  ⟨⟨g.1.1, fun k => ud_le g.1.2.1 ha k, g.1.2.2⟩, fun k hk => by
    by_cases e : k = u
    · rw [ud_e e, ud_e e, ud_e e]; exact hv
    · rw [ud_n e, ud_n e, ud_n e]; exact g.2.1 k hk, g.2.2⟩
theorem PC.mono (g : PC mk pk pv pw sk sv sw h) (e : mk ≤ mk') : PC mk' pk pv pw sk sv sw h := ⟨g.1, fun k hk => (g.2.1 k hk).mono e, fun k hk => (g.2.2 k hk).mono e⟩
theorem FE_of (a : KV (34 + 5 * c) x pk pv sk sv h) (b : KVB c y pk pw sk sw h) (g : PC mk pk pv pw sk sv sw h) : FE mk c x y := ⟨pk, pv, pw, sk, sv, sw, h, a, b, g⟩
theorem DW_plain (hc : c < 4) (hmk : mk ≤ 8) (h8 : x 32 8 = nI mk) (h23 : y 58 23 = nI mk) (hr : RW mk x y) (Sx : Same (WS (34 + 5 * c)) x x') (Sy : Same (WP c) y y') (hf : FE mk c x' y') : DW mk c x y x' y' :=
  ⟨Sx.mono (fun i k z => Or.inl z), Sy.mono (fun i k z => Or.inl z), mk, Nat.le_refl mk, hmk, by rw [Sx.get _ _ (by omega)]; exact h8, by rw [Sy.get _ _ (by omega)]; exact h23, hf, hr.same Sx Sy (fun k => by omega) (fun k => by omega) (fun k => by omega) (fun k => by omega)⟩
theorem mo_w (hc : c < 4) (hF : By K n) (hK : KP K n y) (h13 : y 58 13 = nI cd) (hI : IA K n pl (cd + o)) (hB : KVB c y pk pw sk sw h) (h6 : h ≤ 6) : ∃ l7 l8 l9 l10 s0, f_Mo_work 58 (nI c) (nI o) (nI (K (cd + o))) (nI (6 * c + h) - nI 1) y = k_Mo_work_158 58 (nI c) (nI o) (nI (K (cd + o))) (nI (6 * c + (if z_nam (K (cd + o)) = true then K (cd + o + 1) else 0))) (nI (cd + o + 1)) l7 l8 l9 l10 s0 y ∧ (1 ≤ h → l7 = sw (h - 1) ∧ l8 = nI (sk (h - 1))) ∧ (2 ≤ h → l9 = sw (h - 2) ∧ l10 = nI (sk (h - 2))) ∧ (3 ≤ h → s0 = sw (h - 3)) := by
  have h240 := hF.1
  have hi2 := hI.2.1
  have hb := hF.2 (cd + o) (by omega)
  have g1 := hB.1
  have G : ∀ s0 s1 : Int32, ∃ l7 l8 l9 l10 t0, k_Mo_work_28 58 (nI c) (nI o) (nI (K (cd + o))) (nI (6 * c + h) - nI 1) s0 s1 y = k_Mo_work_158 58 (nI c) (nI o) (nI (K (cd + o))) (s0 + s1) (nI (cd + o + 1)) l7 l8 l9 l10 t0 y ∧ (1 ≤ h → l7 = sw (h - 1) ∧ l8 = nI (sk (h - 1))) ∧ (2 ≤ h → l9 = sw (h - 2) ∧ l10 = nI (sk (h - 2))) ∧ (3 ≤ h → t0 = sw (h - 3)) := by
    intro s0 s1
    by_cases c0 : h = 0
    · refine ⟨nI 0, nI 0, nI 0, nI 0, nI 0, ?_, fun w => by omega, fun w => by omega, fun w => by omega⟩
      simp (disch := omega) only [nA, nS, nM, nLT, nLF, nTT, nTF, nEF, nET, nBT, nBF, nC, nNG, nNL, jj_b1, jj_b2, js, jn, eq_self, if_true, if_false, ite_true, ite_false, ↓reduceIte, and_self, true_and, and_true, zb0, zb1, bM, bR, bCk, bMa, Bool.false_eq_true, Bool.and_self, Bool.and_true, Bool.true_and, li_0, li_1, li_2, li_3, li_4, li_5, li_6, li_7, li_8, li_16, li_18, li_21, li_25, li_46, li_54, li_58, li_60, li_79, li_87, li_89, li_95, li_96, li_100, li_104, li_108, li_116, li_127, li_128, li_132, li_153, li_158, li_159, li_164, li_167, li_172, li_176, li_177, li_184, li_188, li_190, li_198, li_199, li_200, li_202, li_240, li_255, li_256, li_32767, li_32768, li_65536, k_Mo_work_28, k_Mo_work_61, k_Mo_work_83, k_Mo_work_108, k_Mo_work_133, g1, h13]
    obtain ⟨e1, e2⟩ := hB.2.2 (h - 1) (by omega)
    rw [show 6 * c + (h - 1) = 6 * c + h - 1 by omega] at e1 e2
    by_cases c1 : h = 1
    · refine ⟨sw (h - 1), nI (sk (h - 1)), nI 0, nI 0, nI 0, ?_, fun w => ⟨rfl, rfl⟩, fun w => by omega, fun w => by omega⟩
      simp (disch := omega) only [nA, nS, nM, nLT, nLF, nTT, nTF, nEF, nET, nBT, nBF, nC, nNG, nNL, jj_b1, jj_b2, js, jn, eq_self, if_true, if_false, ite_true, ite_false, ↓reduceIte, and_self, true_and, and_true, zb0, zb1, bM, bR, bCk, bMa, Bool.false_eq_true, Bool.and_self, Bool.and_true, Bool.true_and, li_0, li_1, li_2, li_3, li_4, li_5, li_6, li_7, li_8, li_16, li_18, li_21, li_25, li_46, li_54, li_58, li_60, li_79, li_87, li_89, li_95, li_96, li_100, li_104, li_108, li_116, li_127, li_128, li_132, li_153, li_158, li_159, li_164, li_167, li_172, li_176, li_177, li_184, li_188, li_190, li_198, li_199, li_200, li_202, li_240, li_255, li_256, li_32767, li_32768, li_65536, k_Mo_work_28, k_Mo_work_61, k_Mo_work_83, k_Mo_work_108, k_Mo_work_133, g1, h13, e1, e2]
    obtain ⟨e3, e4⟩ := hB.2.2 (h - 2) (by omega)
    rw [show 6 * c + (h - 2) = 6 * c + h - 1 - 1 by omega] at e3 e4
    by_cases c2 : h = 2
    · refine ⟨sw (h - 1), nI (sk (h - 1)), sw (h - 2), nI (sk (h - 2)), nI 0, ?_, fun w => ⟨rfl, rfl⟩, fun w => ⟨rfl, rfl⟩, fun w => by omega⟩
      simp (disch := omega) only [nA, nS, nM, nLT, nLF, nTT, nTF, nEF, nET, nBT, nBF, nC, nNG, nNL, jj_b1, jj_b2, js, jn, eq_self, if_true, if_false, ite_true, ite_false, ↓reduceIte, and_self, true_and, and_true, zb0, zb1, bM, bR, bCk, bMa, Bool.false_eq_true, Bool.and_self, Bool.and_true, Bool.true_and, li_0, li_1, li_2, li_3, li_4, li_5, li_6, li_7, li_8, li_16, li_18, li_21, li_25, li_46, li_54, li_58, li_60, li_79, li_87, li_89, li_95, li_96, li_100, li_104, li_108, li_116, li_127, li_128, li_132, li_153, li_158, li_159, li_164, li_167, li_172, li_176, li_177, li_184, li_188, li_190, li_198, li_199, li_200, li_202, li_240, li_255, li_256, li_32767, li_32768, li_65536, k_Mo_work_28, k_Mo_work_61, k_Mo_work_83, k_Mo_work_108, k_Mo_work_133, g1, h13, e1, e2, e3, e4]
    obtain ⟨e5, e6⟩ := hB.2.2 (h - 3) (by omega)
    rw [show 6 * c + (h - 3) = 6 * c + h - 1 - 2 by omega] at e5 e6
    refine ⟨sw (h - 1), nI (sk (h - 1)), sw (h - 2), nI (sk (h - 2)), sw (h - 3), ?_, fun w => ⟨rfl, rfl⟩, fun w => ⟨rfl, rfl⟩, fun w => rfl⟩
    simp (disch := omega) only [nA, nS, nM, nLT, nLF, nTT, nTF, nEF, nET, nBT, nBF, nC, nNG, nNL, jj_b1, jj_b2, js, jn, eq_self, if_true, if_false, ite_true, ite_false, ↓reduceIte, and_self, true_and, and_true, zb0, zb1, bM, bR, bCk, bMa, Bool.false_eq_true, Bool.and_self, Bool.and_true, Bool.true_and, li_0, li_1, li_2, li_3, li_4, li_5, li_6, li_7, li_8, li_16, li_18, li_21, li_25, li_46, li_54, li_58, li_60, li_79, li_87, li_89, li_95, li_96, li_100, li_104, li_108, li_116, li_127, li_128, li_132, li_153, li_158, li_159, li_164, li_167, li_172, li_176, li_177, li_184, li_188, li_190, li_198, li_199, li_200, li_202, li_240, li_255, li_256, li_32767, li_32768, li_65536, k_Mo_work_28, k_Mo_work_61, k_Mo_work_83, k_Mo_work_108, k_Mo_work_133, g1, h13, e1, e2, e3, e4, e6]
  have nm := zm_names _ hb hI.1
  by_cases c1 : z_nam (K (cd + o)) = true
  · have l2 := z_nl _ hb c1
    have e := hK (cd + o + 1) (by omega)
    obtain ⟨l7, l8, l9, l10, s0, w1, w2⟩ := G (nI (6 * c)) (nI (K (cd + o + 1)))
    refine ⟨l7, l8, l9, l10, s0, ?_, w2⟩
    rw [nA] at w1
    rw [if_pos c1]
    unfold f_Mo_work
    simp (disch := omega) only [nA, nS, nM, nLT, nLF, nTT, nTF, nEF, nET, nBT, nBF, nC, nNG, nNL, jj_b1, jj_b2, js, jn, eq_self, if_true, if_false, ite_true, ite_false, ↓reduceIte, and_self, true_and, and_true, zb0, zb1, bM, bR, bCk, bMa, Bool.false_eq_true, Bool.and_self, Bool.and_true, Bool.true_and, li_0, li_1, li_2, li_3, li_4, li_5, li_6, li_7, li_8, li_16, li_18, li_21, li_25, li_46, li_54, li_58, li_60, li_79, li_87, li_89, li_95, li_96, li_100, li_104, li_108, li_116, li_127, li_128, li_132, li_153, li_158, li_159, li_164, li_167, li_172, li_176, li_177, li_184, li_188, li_190, li_198, li_199, li_200, li_202, li_240, li_255, li_256, li_32767, li_32768, li_65536, nm, c1, z_b, h13, e]
    exact w1
  · obtain ⟨l7, l8, l9, l10, s0, w1, w2⟩ := G (nI (6 * c)) (nI 0)
    refine ⟨l7, l8, l9, l10, s0, ?_, w2⟩
    rw [nA] at w1
    rw [if_neg c1]
    unfold f_Mo_work
    simp (disch := omega) only [nA, nS, nM, nLT, nLF, nTT, nTF, nEF, nET, nBT, nBF, nC, nNG, nNL, jj_b1, jj_b2, js, jn, eq_self, if_true, if_false, ite_true, ite_false, ↓reduceIte, and_self, true_and, and_true, zb0, zb1, bM, bR, bCk, bMa, Bool.false_eq_true, Bool.and_self, Bool.and_true, Bool.true_and, li_0, li_1, li_2, li_3, li_4, li_5, li_6, li_7, li_8, li_16, li_18, li_21, li_25, li_46, li_54, li_58, li_60, li_79, li_87, li_89, li_95, li_96, li_100, li_104, li_108, li_116, li_127, li_128, li_132, li_153, li_158, li_159, li_164, li_167, li_172, li_176, li_177, li_184, li_188, li_190, li_198, li_199, li_200, li_202, li_240, li_255, li_256, li_32767, li_32768, li_65536, nm, c1, z_b]
    exact w1
theorem two_alone1 (H : HW K n P q cd o pl dp rt c mk x y pk pv pw sk sv sw h) (hop : K (cd + o) = 1 ∨ K (cd + o) = 46 ∨ K (cd + o) = 79 ∨ K (cd + o) = 87 ∨ K (cd + o) = 89 ∨ K (cd + o) = 95) : ∃ x' y', f_Ma_doAlone 32 (34 + 5 * c) (nI (K (cd + o))) x = some x' ∧ f_Mo_work 58 (nI c) (nI o) (nI (K (cd + o))) (nI (6 * c + h) - nI 1) y = some y' ∧ DW mk c x y x' y' := by
  obtain ⟨hc, hmk, hF, hOK, hFC, hK, h5, h13, hI, hpl, hdp, hR, hA, hS, h8, h23, hr⟩ := H
  have r1 := hR.1
  have r2 := hR.2.1
  have pc : PC mk pk pv pw sk sv sw h := hR.2.2
  have h6 := pc.1.1
  have a5 := hA.2.2.2.2
  have g1 := r2.1
  have tk := mo_takes hF hOK hK h13 hI
  obtain ⟨l7, l8, l9, l10, s0, w1, w2, w3, w4⟩ := mo_w hc hF hK h13 hI r2 h6
  rcases hop with c1 | c1 | c1 | c1 | c1 | c1
  · have t3 : (tkI K (cd + o)).length = 0 := by rw [tk_of c1 (by omega)]; rfl
    have t4 : ptI K (cd + o) = 1 := by rw [pt_of c1 (by omega)]; rfl
    rw [t3] at tk a5
    rw [t4] at a5
    rw [c1] at w1 ⊢
    obtain ⟨x1, b1, b2, b3⟩ := sp_put r1 (by omega) 3 (nI 0)
    obtain ⟨d1, d2⟩ := bp_drop (t := 0) hc r2 (by omega)
    obtain ⟨y1, e1, e2, e3⟩ := bp_push hc d2 (by omega) 3 (nI 0)
    have pu : s_Mo_puts (nI 1) = some (nI 3) := zm_puts 1 (by omega) (by decide)
    refine ⟨x1, y1, ?_, ?_, DW_plain hc hmk h8 h23 hr b2 (d1.trans e2) (FE_of b3 e3 (pc.put (by omega) (by omega) (VR.self (by omega))))⟩
    · unfold f_Ma_doAlone
      simp (disch := omega) only [nA, nS, nM, nLT, nLF, nTT, nTF, nEF, nET, nBT, nBF, nC, nNG, nNL, jj_b1, jj_b2, js, jn, eq_self, if_true, if_false, ite_true, ite_false, ↓reduceIte, and_self, true_and, and_true, zb0, zb1, bM, bR, bCk, bMa, Bool.false_eq_true, Bool.and_self, Bool.and_true, Bool.true_and, li_0, li_1, li_2, li_3, li_4, li_5, li_6, li_7, li_8, li_16, li_18, li_21, li_25, li_46, li_54, li_58, li_60, li_79, li_87, li_89, li_95, li_96, li_100, li_104, li_108, li_116, li_127, li_128, li_132, li_153, li_158, li_159, li_164, li_167, li_172, li_176, li_177, li_184, li_188, li_190, li_198, li_199, li_200, li_202, li_240, li_255, li_256, li_32767, li_32768, li_65536, b1]
    · rw [w1]
      simp (disch := omega) only [nA, nS, nM, nLT, nLF, nTT, nTF, nEF, nET, nBT, nBF, nC, nNG, nNL, jj_b1, jj_b2, js, jn, eq_self, if_true, if_false, ite_true, ite_false, ↓reduceIte, and_self, true_and, and_true, zb0, zb1, bM, bR, bCk, bMa, Bool.false_eq_true, Bool.and_self, Bool.and_true, Bool.true_and, li_0, li_1, li_2, li_3, li_4, li_5, li_6, li_7, li_8, li_16, li_18, li_21, li_25, li_46, li_54, li_58, li_60, li_79, li_87, li_89, li_95, li_96, li_100, li_104, li_108, li_116, li_127, li_128, li_132, li_153, li_158, li_159, li_164, li_167, li_172, li_176, li_177, li_184, li_188, li_190, li_198, li_199, li_200, li_202, li_240, li_255, li_256, li_32767, li_32768, li_65536, k_Mo_work_158, g1, tk, pu, f_Mo_value, e1]
  · have t3 : (tkI K (cd + o)).length = 2 := by rw [tk_of c1 (by omega)]; rfl
    have t4 : ptI K (cd + o) = 1 := by rw [pt_of c1 (by omega)]; rfl
    have t0 := hA.1
    rw [t3] at tk a5 t0
    rw [t4] at a5
    obtain ⟨r, i, s1, s2, s3, s4, s5, s6, s7⟩ := hS.1 c1
    rw [show h - 2 + 1 = h - 1 by omega] at s5 s6
    rw [c1] at w1 ⊢
    obtain ⟨x1, b1, b2, b3, _⟩ := sp_take r1 (by omega) h6
    obtain ⟨x2, f1, f2, f3, _⟩ := sp_take b3 (by omega) (by omega)
    rw [s5] at b1
    rw [show h - 1 - 1 = h - 2 by omega, s3] at f1
    rw [show h - 1 - 1 = h - 2 by omega] at f3
    have q56 : x2 56 (r * 8 + i) = x 56 (r * 8 + i) := by rw [f2.get _ _ (by omega), b2.get _ _ (by omega)]
    obtain ⟨x3, i1, i2, i3⟩ := sp_put f3 (by omega) 1 (x 56 (r * 8 + i))
    obtain ⟨d1, d2⟩ := bp_drop (t := 2) hc r2 (by omega)
    obtain ⟨y1, e1, e2, e3⟩ := bp_push hc d2 (by omega) 1 (y 69 (8 * r + i))
    have pu : s_Mo_puts (nI 46) = some (nI 1) := zm_puts 46 (by omega) (by decide)
    refine ⟨x3, y1, ?_, ?_, DW_plain hc hmk h8 h23 hr ((b2.trans f2).trans i2) (d1.trans e2) (FE_of i3 e3 ((pc.drop (by omega : h - 2 ≤ h)).put (by omega) (by omega) (by rw [s7]; exact VR.self (by omega))))⟩
    · unfold f_Ma_doAlone
      simp (disch := omega) only [nA, nS, nM, nLT, nLF, nTT, nTF, nEF, nET, nBT, nBF, nC, nNG, nNL, jj_b1, jj_b2, js, jn, eq_self, if_true, if_false, ite_true, ite_false, ↓reduceIte, and_self, true_and, and_true, zb0, zb1, bM, bR, bCk, bMa, Bool.false_eq_true, Bool.and_self, Bool.and_true, Bool.true_and, li_0, li_1, li_2, li_3, li_4, li_5, li_6, li_7, li_8, li_16, li_18, li_21, li_25, li_46, li_54, li_58, li_60, li_79, li_87, li_89, li_95, li_96, li_100, li_104, li_108, li_116, li_127, li_128, li_132, li_153, li_158, li_159, li_164, li_167, li_172, li_176, li_177, li_184, li_188, li_190, li_198, li_199, li_200, li_202, li_240, li_255, li_256, li_32767, li_32768, li_65536, b1, f1, q56, i1]
    · rw [w1, (w2 (by omega)).1, (w3 (by omega)).1, s4, s6]
      simp (disch := omega) only [nA, nS, nM, nLT, nLF, nTT, nTF, nEF, nET, nBT, nBF, nC, nNG, nNL, jj_b1, jj_b2, js, jn, eq_self, if_true, if_false, ite_true, ite_false, ↓reduceIte, and_self, true_and, and_true, zb0, zb1, bM, bR, bCk, bMa, Bool.false_eq_true, Bool.and_self, Bool.and_true, Bool.true_and, li_0, li_1, li_2, li_3, li_4, li_5, li_6, li_7, li_8, li_16, li_18, li_21, li_25, li_46, li_54, li_58, li_60, li_79, li_87, li_89, li_95, li_96, li_100, li_104, li_108, li_116, li_127, li_128, li_132, li_153, li_158, li_159, li_164, li_167, li_172, li_176, li_177, li_184, li_188, li_190, li_198, li_199, li_200, li_202, li_240, li_255, li_256, li_32767, li_32768, li_65536, k_Mo_work_158, g1, tk, pu, f_Mo_value, e1]
  · have t3 : (tkI K (cd + o)).length = 3 := by rw [tk_of c1 (by omega)]; rfl
    have t0 := hA.1
    obtain ⟨_, _, _, k1⟩ := AL3 hA (tk_of c1 (by omega))
    rw [t3] at tk a5 t0
    obtain ⟨r, i, s1, s2, s3, s4, s5, s6, s7⟩ := hS.2.1 c1
    rw [show h - 3 + 1 = h - 2 by omega] at s5 s6
    have v1 := (pc.2.2 (h - 1) (by omega)).1 (by rcases k1 with w | w | w <;> omega)
    rw [c1] at w1 ⊢
    obtain ⟨x1, b1, b2, b3, _⟩ := sp_take r1 (by omega) h6
    obtain ⟨x2, f1, f2, f3, _⟩ := sp_take b3 (by omega) (by omega)
    obtain ⟨x3, i1, i2, i3, _⟩ := sp_take f3 (by omega) (by omega)
    rw [show h - 1 - 1 = h - 2 by omega, s5] at f1
    rw [show h - 1 - 1 - 1 = h - 3 by omega, s3] at i1
    rw [show h - 1 - 1 - 1 = h - 3 by omega] at i3
    obtain ⟨d1, d2⟩ := bp_drop (t := 3) hc r2 (by omega)
    have SX := (b2.trans f2).trans i2
    refine ⟨jj_set x3 56 (r * 8 + i) (sv (h - 1)), jj_set (jj_set y 65 c (nI (h - 3))) 69 (8 * r + i) (sv (h - 1)), ?_, ?_, (SX.mono (fun i k z => Or.inl z)).set _ (by omega), (d1.mono (fun i k z => Or.inl z)).set _ (by omega), mk, Nat.le_refl mk, hmk, ?_, ?_, ?_, fun r' hr' => ?_⟩
    · unfold f_Ma_doAlone f_Ma_storeElement
      simp (disch := omega) only [nA, nS, nM, nLT, nLF, nTT, nTF, nEF, nET, nBT, nBF, nC, nNG, nNL, jj_b1, jj_b2, js, jn, eq_self, if_true, if_false, ite_true, ite_false, ↓reduceIte, and_self, true_and, and_true, zb0, zb1, bM, bR, bCk, bMa, Bool.false_eq_true, Bool.and_self, Bool.and_true, Bool.true_and, li_0, li_1, li_2, li_3, li_4, li_5, li_6, li_7, li_8, li_16, li_18, li_21, li_25, li_46, li_54, li_58, li_60, li_79, li_87, li_89, li_95, li_96, li_100, li_104, li_108, li_116, li_127, li_128, li_132, li_153, li_158, li_159, li_164, li_167, li_172, li_176, li_177, li_184, li_188, li_190, li_198, li_199, li_200, li_202, li_240, li_255, li_256, li_32767, li_32768, li_65536, b1, f1, i1]
    · rw [w1, (w2 (by omega)).1, (w3 (by omega)).1, w4 (by omega), s4, s6, ← v1]
      simp (disch := omega) only [nA, nS, nM, nLT, nLF, nTT, nTF, nEF, nET, nBT, nBF, nC, nNG, nNL, jj_b1, jj_b2, js, jn, eq_self, if_true, if_false, ite_true, ite_false, ↓reduceIte, and_self, true_and, and_true, zb0, zb1, bM, bR, bCk, bMa, Bool.false_eq_true, Bool.and_self, Bool.and_true, Bool.true_and, li_0, li_1, li_2, li_3, li_4, li_5, li_6, li_7, li_8, li_16, li_18, li_21, li_25, li_46, li_54, li_58, li_60, li_79, li_87, li_89, li_95, li_96, li_100, li_104, li_108, li_116, li_127, li_128, li_132, li_153, li_158, li_159, li_164, li_167, li_172, li_176, li_177, li_184, li_188, li_190, li_198, li_199, li_200, li_202, li_240, li_255, li_256, li_32767, li_32768, li_65536, k_Mo_work_158, g1, tk]
    · rw [jn (by omega), SX.get _ _ (by omega)]; exact h8
    · rw [jn (by omega), jn (by omega)]; exact h23
    · exact FE.same (FE_of i3 d2 (pc.drop (by omega : h - 3 ≤ h))) (Same.set (W := fun i k => i = 56) (Same.refl _) (i := 56) (k := r * 8 + i) _ rfl) (Same.set (W := fun i k => i = 69) (Same.refl _) (i := 69) (k := 8 * r + i) _ rfl) (Nat.le_refl mk) (fun i k z => by omega) (fun i k z => by omega)
    · obtain ⟨l, l1, l2, l3, l4⟩ := hr r' hr'
      refine ⟨l, l1, by rw [jn (by omega), SX.get _ _ (by omega)]; exact l2, by rw [jn (by omega), jn (by omega)]; exact l3, fun k hk => ?_⟩
      by_cases e : r' * 8 + k = r * 8 + i
      · rw [e, js, show 8 * r' + k = 8 * r + i by omega, js]
      · rw [jn (by omega), SX.get _ _ (by omega), jn (by omega), jn (by omega)]
        exact l4 k hk
  · have t3 : (tkI K (cd + o)).length = 1 := by rw [tk_of c1 (by omega)]; rfl
    have t0 := hA.1
    rw [t3] at tk a5 t0
    rw [c1] at w1 ⊢
    obtain ⟨x1, b1, b2, b3, _⟩ := sp_take r1 (by omega) h6
    obtain ⟨d1, d2⟩ := bp_drop (t := 1) hc r2 (by omega)
    refine ⟨x1, _, ?_, ?_, DW_plain hc hmk h8 h23 hr b2 d1 (FE_of b3 d2 (pc.drop (by omega : h - 1 ≤ h)))⟩
    · unfold f_Ma_doAlone
      simp (disch := omega) only [nA, nS, nM, nLT, nLF, nTT, nTF, nEF, nET, nBT, nBF, nC, nNG, nNL, jj_b1, jj_b2, js, jn, eq_self, if_true, if_false, ite_true, ite_false, ↓reduceIte, and_self, true_and, and_true, zb0, zb1, bM, bR, bCk, bMa, Bool.false_eq_true, Bool.and_self, Bool.and_true, Bool.true_and, li_0, li_1, li_2, li_3, li_4, li_5, li_6, li_7, li_8, li_16, li_18, li_21, li_25, li_46, li_54, li_58, li_60, li_79, li_87, li_89, li_95, li_96, li_100, li_104, li_108, li_116, li_127, li_128, li_132, li_153, li_158, li_159, li_164, li_167, li_172, li_176, li_177, li_184, li_188, li_190, li_198, li_199, li_200, li_202, li_240, li_255, li_256, li_32767, li_32768, li_65536, b1]
    · rw [w1]
      simp (disch := omega) only [nA, nS, nM, nLT, nLF, nTT, nTF, nEF, nET, nBT, nBF, nC, nNG, nNL, jj_b1, jj_b2, js, jn, eq_self, if_true, if_false, ite_true, ite_false, ↓reduceIte, and_self, true_and, and_true, zb0, zb1, bM, bR, bCk, bMa, Bool.false_eq_true, Bool.and_self, Bool.and_true, Bool.true_and, li_0, li_1, li_2, li_3, li_4, li_5, li_6, li_7, li_8, li_16, li_18, li_21, li_25, li_46, li_54, li_58, li_60, li_79, li_87, li_89, li_95, li_96, li_100, li_104, li_108, li_116, li_127, li_128, li_132, li_153, li_158, li_159, li_164, li_167, li_172, li_176, li_177, li_184, li_188, li_190, li_198, li_199, li_200, li_202, li_240, li_255, li_256, li_32767, li_32768, li_65536, k_Mo_work_158, g1, tk]
  · have t3 : (tkI K (cd + o)).length = 1 := by rw [tk_of c1 (by omega)]; rfl
    have t4 : ptI K (cd + o) = 2 := by rw [pt_of c1 (by omega)]; rfl
    have t0 := hA.1
    rw [t3] at tk a5 t0
    rw [t4] at a5
    rw [c1] at w1 ⊢
    obtain ⟨x1, b1, b2, b3⟩ := sp_putAgain r1 (by omega) (by omega)
    obtain ⟨d1, d2⟩ := bp_drop (t := 1) hc r2 (by omega)
    obtain ⟨y1, e1, e2, e3⟩ := bp_push hc d2 (by omega) (sk (h - 1)) (sw (h - 1))
    rw [ud_id, ud_id] at e3
    obtain ⟨y2, f1, f2, f3⟩ := bp_push hc e3 (by omega) (sk (h - 1)) (sw (h - 1))
    rw [show h - 1 + 1 = h by omega] at f3
    refine ⟨x1, y2, ?_, ?_, DW_plain hc hmk h8 h23 hr b2 ((d1.trans e2).trans f2) (FE_of b3 f3 (pc.put (by omega) (pc.1.2.2 _) (pc.2.2 (h - 1) (by omega))))⟩
    · unfold f_Ma_doAlone
      simp (disch := omega) only [nA, nS, nM, nLT, nLF, nTT, nTF, nEF, nET, nBT, nBF, nC, nNG, nNL, jj_b1, jj_b2, js, jn, eq_self, if_true, if_false, ite_true, ite_false, ↓reduceIte, and_self, true_and, and_true, zb0, zb1, bM, bR, bCk, bMa, Bool.false_eq_true, Bool.and_self, Bool.and_true, Bool.true_and, li_0, li_1, li_2, li_3, li_4, li_5, li_6, li_7, li_8, li_16, li_18, li_21, li_25, li_46, li_54, li_58, li_60, li_79, li_87, li_89, li_95, li_96, li_100, li_104, li_108, li_116, li_127, li_128, li_132, li_153, li_158, li_159, li_164, li_167, li_172, li_176, li_177, li_184, li_188, li_190, li_198, li_199, li_200, li_202, li_240, li_255, li_256, li_32767, li_32768, li_65536, b1]
    · rw [w1, (w2 (by omega)).1, (w2 (by omega)).2]
      simp (disch := omega) only [nA, nS, nM, nLT, nLF, nTT, nTF, nEF, nET, nBT, nBF, nC, nNG, nNL, jj_b1, jj_b2, js, jn, eq_self, if_true, if_false, ite_true, ite_false, ↓reduceIte, and_self, true_and, and_true, zb0, zb1, bM, bR, bCk, bMa, Bool.false_eq_true, Bool.and_self, Bool.and_true, Bool.true_and, li_0, li_1, li_2, li_3, li_4, li_5, li_6, li_7, li_8, li_16, li_18, li_21, li_25, li_46, li_54, li_58, li_60, li_79, li_87, li_89, li_95, li_96, li_100, li_104, li_108, li_116, li_127, li_128, li_132, li_153, li_158, li_159, li_164, li_167, li_172, li_176, li_177, li_184, li_188, li_190, li_198, li_199, li_200, li_202, li_240, li_255, li_256, li_32767, li_32768, li_65536, k_Mo_work_158, g1, tk, e1, f1]
  · have t3 : (tkI K (cd + o)).length = 2 := by rw [tk_of c1 (by omega)]; rfl
    have t0 := hA.1
    rw [t3] at tk a5 t0
    rw [c1] at w1 ⊢
    obtain ⟨x1, b1, b2, b3⟩ := sp_exchange r1 (by omega) h6
    obtain ⟨d1, d2⟩ := bp_drop (t := 2) hc r2 (by omega)
    obtain ⟨y1, e1, e2, e3⟩ := bp_push hc d2 (by omega) (sk (h - 1)) (sw (h - 1))
    obtain ⟨y2, f1, f2, f3⟩ := bp_push hc e3 (by omega) (sk (h - 2)) (sw (h - 2))
    rw [show h - 2 + 1 + 1 = h by omega, show h - 2 + 1 = h - 1 by omega] at f3
    have pc2 := ((pc.drop (by omega : h - 2 ≤ h)).put (by omega) (pc.1.2.2 (h - 1)) (pc.2.2 (h - 1) (by omega))).put (by omega) (pc.1.2.2 (h - 2)) (pc.2.2 (h - 2) (by omega))
    rw [show h - 2 + 1 + 1 = h by omega, show h - 2 + 1 = h - 1 by omega] at pc2
    refine ⟨x1, y2, ?_, ?_, DW_plain hc hmk h8 h23 hr b2 ((d1.trans e2).trans f2) (FE_of b3 f3 pc2)⟩
    · unfold f_Ma_doAlone
      simp (disch := omega) only [nA, nS, nM, nLT, nLF, nTT, nTF, nEF, nET, nBT, nBF, nC, nNG, nNL, jj_b1, jj_b2, js, jn, eq_self, if_true, if_false, ite_true, ite_false, ↓reduceIte, and_self, true_and, and_true, zb0, zb1, bM, bR, bCk, bMa, Bool.false_eq_true, Bool.and_self, Bool.and_true, Bool.true_and, li_0, li_1, li_2, li_3, li_4, li_5, li_6, li_7, li_8, li_16, li_18, li_21, li_25, li_46, li_54, li_58, li_60, li_79, li_87, li_89, li_95, li_96, li_100, li_104, li_108, li_116, li_127, li_128, li_132, li_153, li_158, li_159, li_164, li_167, li_172, li_176, li_177, li_184, li_188, li_190, li_198, li_199, li_200, li_202, li_240, li_255, li_256, li_32767, li_32768, li_65536, b1]
    · rw [w1, (w2 (by omega)).1, (w2 (by omega)).2, (w3 (by omega)).1, (w3 (by omega)).2]
      simp (disch := omega) only [nA, nS, nM, nLT, nLF, nTT, nTF, nEF, nET, nBT, nBF, nC, nNG, nNL, jj_b1, jj_b2, js, jn, eq_self, if_true, if_false, ite_true, ite_false, ↓reduceIte, and_self, true_and, and_true, zb0, zb1, bM, bR, bCk, bMa, Bool.false_eq_true, Bool.and_self, Bool.and_true, Bool.true_and, li_0, li_1, li_2, li_3, li_4, li_5, li_6, li_7, li_8, li_16, li_18, li_21, li_25, li_46, li_54, li_58, li_60, li_79, li_87, li_89, li_95, li_96, li_100, li_104, li_108, li_116, li_127, li_128, li_132, li_153, li_158, li_159, li_164, li_167, li_172, li_176, li_177, li_184, li_188, li_190, li_198, li_199, li_200, li_202, li_240, li_255, li_256, li_32767, li_32768, li_65536, k_Mo_work_158, g1, tk, e1, f1]
theorem two_alone2 (H : HW K n P q cd o pl dp rt c mk x y pk pv pw sk sv sw h) (hop : K (cd + o) = 116 ∨ K (cd + o) = 188 ∨ K (cd + o) = 190) : ∃ x' y', f_Ma_doAlone 32 (34 + 5 * c) (nI (K (cd + o))) x = some x' ∧ f_Mo_work 58 (nI c) (nI o) (nI (K (cd + o))) (nI (6 * c + h) - nI 1) y = some y' ∧ DW mk c x y x' y' := by
  obtain ⟨hc, hmk, hF, hOK, hFC, hK, h5, h13, hI, hpl, hdp, hR, hA, hS, h8, h23, hr⟩ := H
  have r1 := hR.1
  have r2 := hR.2.1
  have pc : PC mk pk pv pw sk sv sw h := hR.2.2
  have h6 := pc.1.1
  have a5 := hA.2.2.2.2
  have g1 := r2.1
  have tk := mo_takes hF hOK hK h13 hI
  obtain ⟨l7, l8, l9, l10, s0, w1, w2, w3, w4⟩ := mo_w hc hF hK h13 hI r2 h6
  rcases hop with c1 | c1 | c1
  · have t3 : (tkI K (cd + o)).length = 1 := by rw [tk_of c1 (by omega)]; rfl
    have t4 : ptI K (cd + o) = 1 := by rw [pt_of c1 (by omega)]; rfl
    have t0 := hA.1
    obtain ⟨_, k1⟩ := AL1 hA (tk_of c1 (by omega))
    rw [t3] at tk a5 t0
    rw [t4] at a5
    have v1 := (pc.2.2 (h - 1) (by omega)).1 (by rcases k1 with w | w | w <;> omega)
    rw [c1] at w1 ⊢
    obtain ⟨x1, b1, b2, b3, _⟩ := sp_take r1 (by omega) h6
    obtain ⟨x3, i1, i2, i3⟩ := sp_put b3 (by omega) 1 (-sv (h - 1))
    obtain ⟨d1, d2⟩ := bp_drop (t := 1) hc r2 (by omega)
    obtain ⟨y1, e1, e2, e3⟩ := bp_push hc d2 (by omega) 1 (-sv (h - 1))
    have pu : s_Mo_puts (nI 116) = some (nI 1) := zm_puts 116 (by omega) (by decide)
    refine ⟨x3, y1, ?_, ?_, DW_plain hc hmk h8 h23 hr (b2.trans i2) (d1.trans e2) (FE_of i3 e3 ((pc.drop (by omega : h - 1 ≤ h)).put (by omega) (by omega) (VR.self (by omega))))⟩
    · unfold f_Ma_doAlone
      simp (disch := omega) only [nA, nS, nM, nLT, nLF, nTT, nTF, nEF, nET, nBT, nBF, nC, nNG, nNL, jj_b1, jj_b2, js, jn, eq_self, if_true, if_false, ite_true, ite_false, ↓reduceIte, and_self, true_and, and_true, zb0, zb1, bM, bR, bCk, bMa, Bool.false_eq_true, Bool.and_self, Bool.and_true, Bool.true_and, li_0, li_1, li_2, li_3, li_4, li_5, li_6, li_7, li_8, li_16, li_18, li_21, li_25, li_46, li_54, li_58, li_60, li_79, li_87, li_89, li_95, li_96, li_100, li_104, li_108, li_116, li_127, li_128, li_132, li_153, li_158, li_159, li_164, li_167, li_172, li_176, li_177, li_184, li_188, li_190, li_198, li_199, li_200, li_202, li_240, li_255, li_256, li_32767, li_32768, li_65536, b1, i1]
    · rw [w1, (w2 (by omega)).1, ← v1]
      simp (disch := omega) only [nA, nS, nM, nLT, nLF, nTT, nTF, nEF, nET, nBT, nBF, nC, nNG, nNL, jj_b1, jj_b2, js, jn, eq_self, if_true, if_false, ite_true, ite_false, ↓reduceIte, and_self, true_and, and_true, zb0, zb1, bM, bR, bCk, bMa, Bool.false_eq_true, Bool.and_self, Bool.and_true, Bool.true_and, li_0, li_1, li_2, li_3, li_4, li_5, li_6, li_7, li_8, li_16, li_18, li_21, li_25, li_46, li_54, li_58, li_60, li_79, li_87, li_89, li_95, li_96, li_100, li_104, li_108, li_116, li_127, li_128, li_132, li_153, li_158, li_159, li_164, li_167, li_172, li_176, li_177, li_184, li_188, li_190, li_198, li_199, li_200, li_202, li_240, li_255, li_256, li_32767, li_32768, li_65536, k_Mo_work_158, g1, tk, pu, f_Mo_value, e1]
  · have t3 : (tkI K (cd + o)).length = 1 := by rw [tk_of c1 (by omega)]; rfl
    have t4 : ptI K (cd + o) = 1 := by rw [pt_of c1 (by omega)]; rfl
    have t0 := hA.1
    rw [t3] at tk a5 t0
    rw [t4] at a5
    obtain ⟨m8, l, l1, l2, l3⟩ := hS.2.2.2.2.1 c1
    rw [c1] at w1 ⊢
    obtain ⟨x1, b1, b2, b3, _⟩ := sp_take r1 (by omega) h6
    rw [l2] at b1
    obtain ⟨x2, f1, f2, f3, f4, f5⟩ := ma_newRow (x := x1) (l := l) (mk := mk) m8 l1 (by rw [b2.get _ _ (by omega)]; exact h8)
    obtain ⟨x3, i1, i2, i3⟩ := sp_put (b3.same f2 (by omega) (fun i k _ _ => by omega)) (by omega) 2 (nI mk)
    obtain ⟨d1, d2⟩ := bp_drop (t := 1) hc r2 (by omega)
    obtain ⟨y2, j1, j2, j3, j4, j5⟩ := mo_makeRow (y := jj_set y 65 c (nI (h - 1))) (mk := mk) m8 (by rw [jn (by omega)]; exact h23) (nI l)
    obtain ⟨y3, e1, e2, e3⟩ := bp_push hc (d2.same j2 (by omega) (by omega) (fun i k _ _ _ _ => by omega)) (by omega) 2 (nI mk)
    have pu : s_Mo_puts (nI 188) = some (nI 2) := zm_puts 188 (by omega) (by decide)
    have RW1 : RW mk x1 (jj_set y 65 c (nI (h - 1))) := hr.same b2 d1 (fun k => by omega) (fun k => by omega) (fun k => by omega) (fun k => by omega)
    have RW2 := (RW1.new l1 f2 j2 f4 f5 j4 j5).same i2 e2 (fun k => by omega) (fun k => by omega) (fun k => by omega) (fun k => by omega)
    refine ⟨x3, y3, ?_, ?_, (b2.mono (fun i k z => by omega)).trans ((f2.mono (fun i k z => by omega)).trans (i2.mono (fun i k z => by omega))), (d1.mono (fun i k z => by omega)).trans ((j2.mono (fun i k z => by omega)).trans (e2.mono (fun i k z => by omega))), mk + 1, by omega, by omega, by rw [i2.get _ _ (by omega)]; exact f3, by rw [e2.get _ _ (by omega)]; exact j3, FE_of i3 e3 (((pc.drop (by omega : h - 1 ≤ h)).mono (by omega)).put (by omega) (by omega) ⟨fun _ => rfl, fun _ => ⟨mk, by omega, rfl⟩⟩), RW2⟩
    · unfold f_Ma_doAlone
      simp (disch := omega) only [nA, nS, nM, nLT, nLF, nTT, nTF, nEF, nET, nBT, nBF, nC, nNG, nNL, jj_b1, jj_b2, js, jn, eq_self, if_true, if_false, ite_true, ite_false, ↓reduceIte, and_self, true_and, and_true, zb0, zb1, bM, bR, bCk, bMa, Bool.false_eq_true, Bool.and_self, Bool.and_true, Bool.true_and, li_0, li_1, li_2, li_3, li_4, li_5, li_6, li_7, li_8, li_16, li_18, li_21, li_25, li_46, li_54, li_58, li_60, li_79, li_87, li_89, li_95, li_96, li_100, li_104, li_108, li_116, li_127, li_128, li_132, li_153, li_158, li_159, li_164, li_167, li_172, li_176, li_177, li_184, li_188, li_190, li_198, li_199, li_200, li_202, li_240, li_255, li_256, li_32767, li_32768, li_65536, b1, f1, i1]
    · rw [w1, (w2 (by omega)).1, l3]
      simp (disch := omega) only [nA, nS, nM, nLT, nLF, nTT, nTF, nEF, nET, nBT, nBF, nC, nNG, nNL, jj_b1, jj_b2, js, jn, eq_self, if_true, if_false, ite_true, ite_false, ↓reduceIte, and_self, true_and, and_true, zb0, zb1, bM, bR, bCk, bMa, Bool.false_eq_true, Bool.and_self, Bool.and_true, Bool.true_and, li_0, li_1, li_2, li_3, li_4, li_5, li_6, li_7, li_8, li_16, li_18, li_21, li_25, li_46, li_54, li_58, li_60, li_79, li_87, li_89, li_95, li_96, li_100, li_104, li_108, li_116, li_127, li_128, li_132, li_153, li_158, li_159, li_164, li_167, li_172, li_176, li_177, li_184, li_188, li_190, li_198, li_199, li_200, li_202, li_240, li_255, li_256, li_32767, li_32768, li_65536, k_Mo_work_158, g1, tk, pu, f_Mo_value, j1, e1]
  · have t3 : (tkI K (cd + o)).length = 1 := by rw [tk_of c1 (by omega)]; rfl
    have t4 : ptI K (cd + o) = 1 := by rw [pt_of c1 (by omega)]; rfl
    have t0 := hA.1
    rw [t3] at tk a5 t0
    rw [t4] at a5
    have k2 := hS.2.2.2.2.2 c1
    obtain ⟨r, s1, s2⟩ := (pc.2.2 (h - 1) (by omega)).2 k2
    have s3 := (pc.2.2 (h - 1) (by omega)).1 (by omega)
    rw [s2] at s3
    obtain ⟨l, l1, l2, l3, l4⟩ := hr r s1
    rw [c1] at w1 ⊢
    obtain ⟨x1, b1, b2, b3, _⟩ := sp_take r1 (by omega) h6
    rw [s2] at b1
    have q57 : x1 57 r = nI l := by rw [b2.get _ _ (by omega)]; exact l2
    obtain ⟨x3, i1, i2, i3⟩ := sp_put b3 (by omega) 1 (nI l)
    obtain ⟨d1, d2⟩ := bp_drop (t := 1) hc r2 (by omega)
    obtain ⟨y1, e1, e2, e3⟩ := bp_push hc d2 (by omega) 1 (nI l)
    have pu : s_Mo_puts (nI 190) = some (nI 1) := zm_puts 190 (by omega) (by decide)
    refine ⟨x3, y1, ?_, ?_, DW_plain hc hmk h8 h23 hr (b2.trans i2) (d1.trans e2) (FE_of i3 e3 ((pc.drop (by omega : h - 1 ≤ h)).put (by omega) (by omega) (VR.self (by omega))))⟩
    · unfold f_Ma_doAlone
      simp (disch := omega) only [nA, nS, nM, nLT, nLF, nTT, nTF, nEF, nET, nBT, nBF, nC, nNG, nNL, jj_b1, jj_b2, js, jn, eq_self, if_true, if_false, ite_true, ite_false, ↓reduceIte, and_self, true_and, and_true, zb0, zb1, bM, bR, bCk, bMa, Bool.false_eq_true, Bool.and_self, Bool.and_true, Bool.true_and, li_0, li_1, li_2, li_3, li_4, li_5, li_6, li_7, li_8, li_16, li_18, li_21, li_25, li_46, li_54, li_58, li_60, li_79, li_87, li_89, li_95, li_96, li_100, li_104, li_108, li_116, li_127, li_128, li_132, li_153, li_158, li_159, li_164, li_167, li_172, li_176, li_177, li_184, li_188, li_190, li_198, li_199, li_200, li_202, li_240, li_255, li_256, li_32767, li_32768, li_65536, b1, q57, i1]
    · rw [w1, (w2 (by omega)).1, ← s3]
      simp (disch := omega) only [nA, nS, nM, nLT, nLF, nTT, nTF, nEF, nET, nBT, nBF, nC, nNG, nNL, jj_b1, jj_b2, js, jn, eq_self, if_true, if_false, ite_true, ite_false, ↓reduceIte, and_self, true_and, and_true, zb0, zb1, bM, bR, bCk, bMa, Bool.false_eq_true, Bool.and_self, Bool.and_true, Bool.true_and, li_0, li_1, li_2, li_3, li_4, li_5, li_6, li_7, li_8, li_16, li_18, li_21, li_25, li_46, li_54, li_58, li_60, li_79, li_87, li_89, li_95, li_96, li_100, li_104, li_108, li_116, li_127, li_128, li_132, li_153, li_158, li_159, li_164, li_167, li_172, li_176, li_177, li_184, li_188, li_190, li_198, li_199, li_200, li_202, li_240, li_255, li_256, li_32767, li_32768, li_65536, k_Mo_work_158, g1, tk, pu, f_Mo_value, l3, e1]
theorem two_alone3 (H : HW K n P q cd o pl dp rt c mk x y pk pv pw sk sv sw h) (hop : K (cd + o) = 96 ∨ K (cd + o) = 100 ∨ K (cd + o) = 104 ∨ K (cd + o) = 108) : ∃ x' y', f_Ma_doAlone 32 (34 + 5 * c) (nI (K (cd + o))) x = some x' ∧ f_Mo_work 58 (nI c) (nI o) (nI (K (cd + o))) (nI (6 * c + h) - nI 1) y = some y' ∧ DW mk c x y x' y' := by
  obtain ⟨hc, hmk, hF, hOK, hFC, hK, h5, h13, hI, hpl, hdp, hR, hA, hS, h8, h23, hr⟩ := H
  have r1 := hR.1
  have r2 := hR.2.1
  have pc : PC mk pk pv pw sk sv sw h := hR.2.2
  have h6 := pc.1.1
  have a5 := hA.2.2.2.2
  have g1 := r2.1
  have tk := mo_takes hF hOK hK h13 hI
  obtain ⟨l7, l8, l9, l10, s0, w1, w2, w3, w4⟩ := mo_w hc hF hK h13 hI r2 h6
  have t3 : tkI K (cd + o) = [1, 1] := by rcases hop with c1 | c1 | c1 | c1 <;> rw [tk_of c1 (by omega)] <;> rfl
  have t4 : ptI K (cd + o) = 1 := by rcases hop with c1 | c1 | c1 | c1 <;> rw [pt_of c1 (by omega)] <;> rfl
  obtain ⟨t0, k1, k2⟩ := AL2 hA t3
  have t5 : (tkI K (cd + o)).length = 2 := by rw [t3]; rfl
  rw [t5] at tk a5
  rw [t4] at a5
  have v1 := (pc.2.2 (h - 1) (by omega)).1 (by rcases k2 with w | w | w <;> omega)
  have v2 := (pc.2.2 (h - 2) (by omega)).1 (by rcases k1 with w | w | w <;> omega)
  obtain ⟨x1, b1, b2, b3, _⟩ := sp_take r1 (by omega) h6
  obtain ⟨x2, f1, f2, f3, _⟩ := sp_take b3 (by omega) (by omega)
  rw [show h - 1 - 1 = h - 2 by omega] at f1 f3
  obtain ⟨d1, d2⟩ := bp_drop (t := 2) hc r2 (by omega)
  have FIN : ∀ z : Int32, ∃ x' y', f_St_put (34 + 5 * c) (nI 1) z x2 = some x' ∧ f_Mo_push 58 (nI c) (nI 1) z (jj_set y 65 c (nI (h - 2))) = some y' ∧ DW mk c x y x' y' := fun z => by
    obtain ⟨x3, i1, i2, i3⟩ := sp_put f3 (by omega) 1 z
    obtain ⟨y1, e1, e2, e3⟩ := bp_push hc d2 (by omega) 1 z
    exact ⟨x3, y1, i1, e1, DW_plain hc hmk h8 h23 hr ((b2.trans f2).trans i2) (d1.trans e2) (FE_of i3 e3 ((pc.drop (by omega : h - 2 ≤ h)).put (by omega) (by omega) (VR.self (by omega))))⟩
  rw [(w2 (by omega)).1, (w3 (by omega)).1, ← v1, ← v2] at w1
  rcases hop with c1 | c1 | c1 | c1
  · obtain ⟨x', y', e1, e2, e3⟩ := FIN (sv (h - 2) + sv (h - 1))
    have pu : s_Mo_puts (nI 96) = some (nI 1) := zm_puts 96 (by omega) (by decide)
    rw [c1] at w1 ⊢
    refine ⟨x', y', ?_, ?_, e3⟩
    · unfold f_Ma_doAlone f_Ma_reckoned
      simp (disch := omega) only [nA, nS, nM, nLT, nLF, nTT, nTF, nEF, nET, nBT, nBF, nC, nNG, nNL, jj_b1, jj_b2, js, jn, eq_self, if_true, if_false, ite_true, ite_false, ↓reduceIte, and_self, true_and, and_true, zb0, zb1, bM, bR, bCk, bMa, Bool.false_eq_true, Bool.and_self, Bool.and_true, Bool.true_and, li_0, li_1, li_2, li_3, li_4, li_5, li_6, li_7, li_8, li_16, li_18, li_21, li_25, li_46, li_54, li_58, li_60, li_79, li_87, li_89, li_95, li_96, li_100, li_104, li_108, li_116, li_127, li_128, li_132, li_153, li_158, li_159, li_164, li_167, li_172, li_176, li_177, li_184, li_188, li_190, li_198, li_199, li_200, li_202, li_240, li_255, li_256, li_32767, li_32768, li_65536, b1, f1, e1]
    · rw [w1]
      simp (disch := omega) only [nA, nS, nM, nLT, nLF, nTT, nTF, nEF, nET, nBT, nBF, nC, nNG, nNL, jj_b1, jj_b2, js, jn, eq_self, if_true, if_false, ite_true, ite_false, ↓reduceIte, and_self, true_and, and_true, zb0, zb1, bM, bR, bCk, bMa, Bool.false_eq_true, Bool.and_self, Bool.and_true, Bool.true_and, li_0, li_1, li_2, li_3, li_4, li_5, li_6, li_7, li_8, li_16, li_18, li_21, li_25, li_46, li_54, li_58, li_60, li_79, li_87, li_89, li_95, li_96, li_100, li_104, li_108, li_116, li_127, li_128, li_132, li_153, li_158, li_159, li_164, li_167, li_172, li_176, li_177, li_184, li_188, li_190, li_198, li_199, li_200, li_202, li_240, li_255, li_256, li_32767, li_32768, li_65536, k_Mo_work_158, g1, tk, pu, f_Mo_value, e2]
  · obtain ⟨x', y', e1, e2, e3⟩ := FIN (sv (h - 2) - sv (h - 1))
    have pu : s_Mo_puts (nI 100) = some (nI 1) := zm_puts 100 (by omega) (by decide)
    rw [c1] at w1 ⊢
    refine ⟨x', y', ?_, ?_, e3⟩
    · unfold f_Ma_doAlone f_Ma_reckoned
      simp (disch := omega) only [nA, nS, nM, nLT, nLF, nTT, nTF, nEF, nET, nBT, nBF, nC, nNG, nNL, jj_b1, jj_b2, js, jn, eq_self, if_true, if_false, ite_true, ite_false, ↓reduceIte, and_self, true_and, and_true, zb0, zb1, bM, bR, bCk, bMa, Bool.false_eq_true, Bool.and_self, Bool.and_true, Bool.true_and, li_0, li_1, li_2, li_3, li_4, li_5, li_6, li_7, li_8, li_16, li_18, li_21, li_25, li_46, li_54, li_58, li_60, li_79, li_87, li_89, li_95, li_96, li_100, li_104, li_108, li_116, li_127, li_128, li_132, li_153, li_158, li_159, li_164, li_167, li_172, li_176, li_177, li_184, li_188, li_190, li_198, li_199, li_200, li_202, li_240, li_255, li_256, li_32767, li_32768, li_65536, b1, f1, e1]
    · rw [w1]
      simp (disch := omega) only [nA, nS, nM, nLT, nLF, nTT, nTF, nEF, nET, nBT, nBF, nC, nNG, nNL, jj_b1, jj_b2, js, jn, eq_self, if_true, if_false, ite_true, ite_false, ↓reduceIte, and_self, true_and, and_true, zb0, zb1, bM, bR, bCk, bMa, Bool.false_eq_true, Bool.and_self, Bool.and_true, Bool.true_and, li_0, li_1, li_2, li_3, li_4, li_5, li_6, li_7, li_8, li_16, li_18, li_21, li_25, li_46, li_54, li_58, li_60, li_79, li_87, li_89, li_95, li_96, li_100, li_104, li_108, li_116, li_127, li_128, li_132, li_153, li_158, li_159, li_164, li_167, li_172, li_176, li_177, li_184, li_188, li_190, li_198, li_199, li_200, li_202, li_240, li_255, li_256, li_32767, li_32768, li_65536, k_Mo_work_158, g1, tk, pu, f_Mo_value, e2]
  · obtain ⟨x', y', e1, e2, e3⟩ := FIN (sv (h - 2) * sv (h - 1))
    have pu : s_Mo_puts (nI 104) = some (nI 1) := zm_puts 104 (by omega) (by decide)
    rw [c1] at w1 ⊢
    refine ⟨x', y', ?_, ?_, e3⟩
    · unfold f_Ma_doAlone f_Ma_reckoned
      simp (disch := omega) only [nA, nS, nM, nLT, nLF, nTT, nTF, nEF, nET, nBT, nBF, nC, nNG, nNL, jj_b1, jj_b2, js, jn, eq_self, if_true, if_false, ite_true, ite_false, ↓reduceIte, and_self, true_and, and_true, zb0, zb1, bM, bR, bCk, bMa, Bool.false_eq_true, Bool.and_self, Bool.and_true, Bool.true_and, li_0, li_1, li_2, li_3, li_4, li_5, li_6, li_7, li_8, li_16, li_18, li_21, li_25, li_46, li_54, li_58, li_60, li_79, li_87, li_89, li_95, li_96, li_100, li_104, li_108, li_116, li_127, li_128, li_132, li_153, li_158, li_159, li_164, li_167, li_172, li_176, li_177, li_184, li_188, li_190, li_198, li_199, li_200, li_202, li_240, li_255, li_256, li_32767, li_32768, li_65536, b1, f1, e1]
    · rw [w1]
      simp (disch := omega) only [nA, nS, nM, nLT, nLF, nTT, nTF, nEF, nET, nBT, nBF, nC, nNG, nNL, jj_b1, jj_b2, js, jn, eq_self, if_true, if_false, ite_true, ite_false, ↓reduceIte, and_self, true_and, and_true, zb0, zb1, bM, bR, bCk, bMa, Bool.false_eq_true, Bool.and_self, Bool.and_true, Bool.true_and, li_0, li_1, li_2, li_3, li_4, li_5, li_6, li_7, li_8, li_16, li_18, li_21, li_25, li_46, li_54, li_58, li_60, li_79, li_87, li_89, li_95, li_96, li_100, li_104, li_108, li_116, li_127, li_128, li_132, li_153, li_158, li_159, li_164, li_167, li_172, li_176, li_177, li_184, li_188, li_190, li_198, li_199, li_200, li_202, li_240, li_255, li_256, li_32767, li_32768, li_65536, k_Mo_work_158, g1, tk, pu, f_Mo_value, e2]
  · have nz := hS.2.2.1 c1
    have nz1 : (sv (h - 1) = nI 0) = False := eq_false nz
    have nz2 : jj_nz (sv (h - 1)) = true := by
      unfold jj_nz
      have : (sv (h - 1) == (0 : Int32)) = false := beq_eq_false_iff_ne.mpr nz
      rw [this]; rfl
    obtain ⟨x', y', e1, e2, e3⟩ := FIN (sv (h - 2) / sv (h - 1))
    have pu : s_Mo_puts (nI 108) = some (nI 1) := zm_puts 108 (by omega) (by decide)
    rw [c1] at w1 ⊢
    refine ⟨x', y', ?_, ?_, e3⟩
    · unfold f_Ma_doAlone f_Ma_reckoned
      simp (disch := omega) only [nA, nS, nM, nLT, nLF, nTT, nTF, nEF, nET, nBT, nBF, nC, nNG, nNL, jj_b1, jj_b2, js, jn, eq_self, if_true, if_false, ite_true, ite_false, ↓reduceIte, and_self, true_and, and_true, zb0, zb1, bM, bR, bCk, bMa, Bool.false_eq_true, Bool.and_self, Bool.and_true, Bool.true_and, li_0, li_1, li_2, li_3, li_4, li_5, li_6, li_7, li_8, li_16, li_18, li_21, li_25, li_46, li_54, li_58, li_60, li_79, li_87, li_89, li_95, li_96, li_100, li_104, li_108, li_116, li_127, li_128, li_132, li_153, li_158, li_159, li_164, li_167, li_172, li_176, li_177, li_184, li_188, li_190, li_198, li_199, li_200, li_202, li_240, li_255, li_256, li_32767, li_32768, li_65536, b1, f1, nz1, nz2, e1]
    · rw [w1]
      simp (disch := omega) only [nA, nS, nM, nLT, nLF, nTT, nTF, nEF, nET, nBT, nBF, nC, nNG, nNL, jj_b1, jj_b2, js, jn, eq_self, if_true, if_false, ite_true, ite_false, ↓reduceIte, and_self, true_and, and_true, zb0, zb1, bM, bR, bCk, bMa, Bool.false_eq_true, Bool.and_self, Bool.and_true, Bool.true_and, li_0, li_1, li_2, li_3, li_4, li_5, li_6, li_7, li_8, li_16, li_18, li_21, li_25, li_46, li_54, li_58, li_60, li_79, li_87, li_89, li_95, li_96, li_100, li_104, li_108, li_116, li_127, li_128, li_132, li_153, li_158, li_159, li_164, li_167, li_172, li_176, li_177, li_184, li_188, li_190, li_198, li_199, li_200, li_202, li_240, li_255, li_256, li_32767, li_32768, li_65536, k_Mo_work_158, g1, tk, pu, f_Mo_value, nz2, e2]
end WORK
