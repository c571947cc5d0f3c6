/-! PURE: leaving a method and calling one, on both sides -/
abbrev WZx (i k : Nat) : Prop := (32 ≤ i ∧ i ≤ 57) ∧ ¬ (i = 32 ∧ k = 1)
abbrev WZy (i k : Nat) : Prop := (i = 58 ∧ 8 ≤ k ∧ k ≠ 26) ∨ 61 ≤ i
def OUT (K : Nat → Nat) (n P : Nat) (v : Int32) (x y x' y' : jj_Mem) : Prop := Same WZx x x' ∧ Same WZy y y' ∧ (x 32 0 = y 58 27 → x' 32 0 = y' 58 27) ∧ ((v = -nI 1 ∧ ∃ c' mk', RR K n P c' mk' x' y') ∨ ∃ k, k ≤ 6 ∧ v = nI k)
abbrev WLx (c i k : Nat) : Prop := WS (34 + 5 * c) i k ∨ WS (34 + 5 * (c - 1)) i k ∨ (i = 32 ∧ k = 5)
abbrev WLy (c i k : Nat) : Prop := WY0 c i k ∨ WP (c - 1) i k ∨ (i = 58 ∧ k = 21)
section CALL
variable {K : Nat → Nat} {n P c mk m p dp h N : Nat} {x y ys x' y' : jj_Mem} {pk sk : Nat → Nat} {pv pw sv sw : Nat → Int32}
theorem RR.pop (R : RR K n P c mk x y) (hP : o_Pr P) (hk4 : mcn K ≤ 4) (hc : 1 ≤ c) (Sx : Same (WLx c) x x') (Sy : Same (WLy c) y y') (h5 : x' 32 5 = nI (c - 1)) (h21 : y' 58 21 = nI (c - 1 + 1)) (hf : FE mk (c - 1) x' y') : RR K n P (c - 1) mk x' y' := by
  obtain ⟨r1, r2, r3, r4, r5, r6, r7, r8, r9, r10, r11, r12⟩ := R
  have hP2 := oc_Pr hP
  refine ⟨by omega, r2, r3.same hk4 Sx (fun i k _ _ => by omega), r4.same Sy (fun k => by omega), h5, h21, by rw [Sx.get _ _ (by omega)]; exact r7, by rw [Sy.get _ _ (by omega)]; exact r8, fun d hd => (r9 d (by omega)).same Sx Sy (by omega) (by omega) (by omega) (by omega), fun d hd => ?_, fun d hd => (r11 d (by omega)).same Sy (by omega) (by omega), r12.same Sx Sy (fun k => by omega) (fun k => by omega) (fun k => by omega) (fun k => by omega)⟩
  by_cases e : d = c - 1
  · rw [e]; exact hf
  · exact (r10 d (by omega)).same Sx Sy (Nat.le_refl mk) (fun i k z => by omega) (fun i k z => by omega)
theorem two_leave (hP : o_Pr P) (hk4 : mcn K ≤ 4) (R : RR K n P c mk x y) (Sy : Same (WY0 c) y ys) (hR : FR mk c x ys pk pv pw sk sv sw h) (hm : m < mcn K) (h67 : y 67 c = nI m) (hA : AL K p dp (m_rt K (mp K m)) pk sk h) (hret : z_ret (K p) = true) : ∃ v x' y', f_Ma_leave 32 (34 + 5 * c) (nI (K p)) x = some (v, x') ∧ f_Mo_leave 58 (nI c) (nI (K p)) (nI (6 * c + h) - nI 1) ys = some (v, y') ∧ OUT K n P v x y x' y' := by
  have hc := R.1
  have hmk := R.2.1
  have h5 := R.2.2.2.2.1
  have h21 : ys 58 21 = nI (c + 1) := by rw [Sy.get _ _ (by omega)]; exact R.2.2.2.2.2.1
  have s27 : ys 58 27 = y 58 27 := Sy.get _ _ (by omega)
  have hrt := hA.2.2.2.1 hret
  have r1 := hR.1
  have r2 := hR.2.1
  have pc : PC mk pk pv pw sk sv sw h := hR.2.2
  have h6 := pc.1.1
  have rw0 := R.2.2.2.2.2.2.2.2.2.2.2
  by_cases c177 : K p = 177
  · -- nothing is given back
    rw [c177]
    by_cases c0 : c = 0
    · refine ⟨nI 0, jj_set x 32 0 (nI 0), jj_set (jj_set ys 58 21 (nI (c + 1 - 1))) 58 27 (nI 0), ?_, ?_, (Same.refl x).set _ (by omega), ((Sy.mono (fun i k z => by omega)).set _ (by omega)).set _ (by omega), fun _ => by rw [js, js], Or.inr ⟨0, by omega, rfl⟩⟩
      · unfold f_Ma_leave
        simp (disch := omega) only [nA, nS, nM, nLT, nLF, nTT, nTF, nEF, nET, nBT, nBF, nC, nNG, nNL, jj_b1, jj_b2, js, jn, eq_self, if_true, if_false, ite_true, ite_false, ↓reduceIte, and_self, true_and, and_true, zb0, zb1, bM, bR, bCk, bMa, Bool.false_eq_true, Bool.and_self, Bool.and_true, Bool.true_and, li_0, li_1, li_2, li_3, li_4, li_5, li_6, li_7, li_8, li_16, li_18, li_21, li_25, li_46, li_54, li_58, li_60, li_79, li_87, li_89, li_95, li_96, li_100, li_104, li_108, li_116, li_127, li_128, li_132, li_153, li_158, li_159, li_164, li_167, li_172, li_176, li_177, li_184, li_188, li_190, li_198, li_199, li_200, li_202, li_240, li_255, li_256, li_32767, li_32768, li_65536, k_Ma_leave_12, k_Ma_leave_25, k_Ma_leave_39, h5, f_Ma_resultOf]
      · unfold f_Mo_leave
        simp (disch := omega) only [nA, nS, nM, nLT, nLF, nTT, nTF, nEF, nET, nBT, nBF, nC, nNG, nNL, jj_b1, jj_b2, js, jn, eq_self, if_true, if_false, ite_true, ite_false, ↓reduceIte, and_self, true_and, and_true, zb0, zb1, bM, bR, bCk, bMa, Bool.false_eq_true, Bool.and_self, Bool.and_true, Bool.true_and, li_0, li_1, li_2, li_3, li_4, li_5, li_6, li_7, li_8, li_16, li_18, li_21, li_25, li_46, li_54, li_58, li_60, li_79, li_87, li_89, li_95, li_96, li_100, li_104, li_108, li_116, li_127, li_128, li_132, li_153, li_158, li_159, li_164, li_167, li_172, li_176, li_177, li_184, li_188, li_190, li_198, li_199, li_200, li_202, li_240, li_255, li_256, li_32767, li_32768, li_65536, k_Mo_leave_43, h21]
    · have X1 : Same (WLx c) x (jj_set x 32 5 (nI (c - 1))) := (Same.refl x).set _ (by omega)
      have Y1 : Same (WLy c) y (jj_set ys 58 21 (nI (c + 1 - 1))) := (Sy.mono (fun i k z => Or.inl z)).set _ (by omega)
      refine ⟨-nI 1, jj_set x 32 5 (nI (c - 1)), jj_set ys 58 21 (nI (c + 1 - 1)), ?_, ?_, (Same.refl x).set _ (by omega), (Sy.mono (fun i k z => by omega)).set _ (by omega), fun e => by rw [jn (by omega), jn (by omega), s27]; exact e, Or.inl ⟨rfl, c - 1, mk, R.pop hP hk4 (by omega) X1 Y1 (js _ _ _ _) (by rw [js, show c + 1 - 1 = c - 1 + 1 by omega]) ?_⟩⟩
      · unfold f_Ma_leave
        simp (disch := omega) only [nA, nS, nM, nLT, nLF, nTT, nTF, nEF, nET, nBT, nBF, nC, nNG, nNL, jj_b1, jj_b2, js, jn, eq_self, if_true, if_false, ite_true, ite_false, ↓reduceIte, and_self, true_and, and_true, zb0, zb1, bM, bR, bCk, bMa, Bool.false_eq_true, Bool.and_self, Bool.and_true, Bool.true_and, li_0, li_1, li_2, li_3, li_4, li_5, li_6, li_7, li_8, li_16, li_18, li_21, li_25, li_46, li_54, li_58, li_60, li_79, li_87, li_89, li_95, li_96, li_100, li_104, li_108, li_116, li_127, li_128, li_132, li_153, li_158, li_159, li_164, li_167, li_172, li_176, li_177, li_184, li_188, li_190, li_198, li_199, li_200, li_202, li_240, li_255, li_256, li_32767, li_32768, li_65536, k_Ma_leave_12, k_Ma_leave_25, k_Ma_leave_39, h5]
      · unfold f_Mo_leave
        simp (disch := omega) only [nA, nS, nM, nLT, nLF, nTT, nTF, nEF, nET, nBT, nBF, nC, nNG, nNL, jj_b1, jj_b2, js, jn, eq_self, if_true, if_false, ite_true, ite_false, ↓reduceIte, and_self, true_and, and_true, zb0, zb1, bM, bR, bCk, bMa, Bool.false_eq_true, Bool.and_self, Bool.and_true, Bool.true_and, li_0, li_1, li_2, li_3, li_4, li_5, li_6, li_7, li_8, li_16, li_18, li_21, li_25, li_46, li_54, li_58, li_60, li_79, li_87, li_89, li_95, li_96, li_100, li_104, li_108, li_116, li_127, li_128, li_132, li_153, li_158, li_159, li_164, li_167, li_172, li_176, li_177, li_184, li_188, li_190, li_198, li_199, li_200, li_202, li_240, li_255, li_256, li_32767, li_32768, li_65536, k_Mo_leave_43, h21]
      · exact (R.2.2.2.2.2.2.2.2.2.1 (c - 1) (by omega)).same (W := fun i k => i = 32) (V := fun i k => WY0 c i k ∨ i = 58) ((Same.refl x).set _ rfl) ((Sy.mono (fun i k z => Or.inl z)).set _ (by omega)) (Nat.le_refl mk) (fun i k z => by omega) (fun i k z => by omega)
  · have c1 : K p = 172 ∨ K p = 176 := by
      rcases z_rt3 _ hret with w | w | w
      · exact Or.inl w
      · exact Or.inr w
      · exact absurd w c177
    have tk : tkI K p = z_tk (K p) := by
      unfold tkI
      rw [if_neg (by omega)]
    have hrt2 : m_rt K (mp K m) ≠ 0 := by rw [hrt]; rcases c1 with c1 | c1 <;> rw [c1] <;> decide
    have h1 : 1 ≤ h := by
      have := hA.1
      rw [tk] at this
      rcases c1 with c1 | c1 <;> rw [c1] at this <;> exact this
    have y1 := (r2.2.2 (h - 1) (by omega)).1
    have y2 := (r2.2.2 (h - 1) (by omega)).2
    rw [show 6 * c + (h - 1) = 6 * c + h - 1 by omega] at y1 y2
    obtain ⟨x1, b1, b2, b3, b4⟩ := sp_take r1 h1 h6
    have b5 : x1 32 5 = nI c := by rw [b2.get _ _ (by omega)]; exact h5
    have vr := pc.2.2 (h - 1) (by omega)
    by_cases c0 : c = 0
    · have FIN : ∀ z : Int32, OUT K n P (nI 0) x y (jj_set x1 32 0 z) (jj_set (jj_set ys 58 21 (nI (c + 1 - 1))) 58 27 z) := fun z => ⟨(b2.mono (fun i k z => by omega)).set _ (by omega), ((Sy.mono (fun i k z => by omega)).set _ (by omega)).set _ (by omega), fun _ => by rw [js, js], Or.inr ⟨0, by omega, rfl⟩⟩
      rcases c1 with c1 | c1
      · obtain ⟨_, k1⟩ := AL1 (a := 1) hA (by rw [tk, c1]; rfl)
        have k2 : sk (h - 1) = 1 := by rcases k1 with w | w | w <;> omega
        have v1 := vr.1 (by omega)
        rw [k2] at b4 y1
        rw [← v1] at y2
        refine ⟨nI 0, _, _, ?_, ?_, FIN (sv (h - 1))⟩
        · rw [c1]
          unfold f_Ma_leave
          simp (disch := omega) only [nA, nS, nM, nLT, nLF, nTT, nTF, nEF, nET, nBT, nBF, nC, nNG, nNL, jj_b1, jj_b2, js, jn, eq_self, if_true, if_false, ite_true, ite_false, ↓reduceIte, and_self, true_and, and_true, zb0, zb1, bM, bR, bCk, bMa, Bool.false_eq_true, Bool.and_self, Bool.and_true, Bool.true_and, li_0, li_1, li_2, li_3, li_4, li_5, li_6, li_7, li_8, li_16, li_18, li_21, li_25, li_46, li_54, li_58, li_60, li_79, li_87, li_89, li_95, li_96, li_100, li_104, li_108, li_116, li_127, li_128, li_132, li_153, li_158, li_159, li_164, li_167, li_172, li_176, li_177, li_184, li_188, li_190, li_198, li_199, li_200, li_202, li_240, li_255, li_256, li_32767, li_32768, li_65536, k_Ma_leave_12, b1, k_Ma_leave_25, b4, k_Ma_leave_39, b5, f_Ma_resultOf]
        · rw [c1]
          unfold f_Mo_leave
          simp (disch := omega) only [nA, nS, nM, nLT, nLF, nTT, nTF, nEF, nET, nBT, nBF, nC, nNG, nNL, jj_b1, jj_b2, js, jn, eq_self, if_true, if_false, ite_true, ite_false, ↓reduceIte, and_self, true_and, and_true, zb0, zb1, bM, bR, bCk, bMa, Bool.false_eq_true, Bool.and_self, Bool.and_true, Bool.true_and, li_0, li_1, li_2, li_3, li_4, li_5, li_6, li_7, li_8, li_16, li_18, li_21, li_25, li_46, li_54, li_58, li_60, li_79, li_87, li_89, li_95, li_96, li_100, li_104, li_108, li_116, li_127, li_128, li_132, li_153, li_158, li_159, li_164, li_167, li_172, li_176, li_177, li_184, li_188, li_190, li_198, li_199, li_200, li_202, li_240, li_255, li_256, li_32767, li_32768, li_65536, k_Mo_leave_43, h21, y2]
      · obtain ⟨_, k1⟩ := AL1 (a := 2) hA (by rw [tk, c1]; rfl)
        have k2 : sk (h - 1) = 2 ∨ sk (h - 1) = 3 := by rcases k1 with w | w | w <;> omega
        rcases k2 with k2 | k2
        · obtain ⟨r, s1, s2⟩ := vr.2 k2
          have v1 := vr.1 (by omega)
          obtain ⟨l, l1, l2, l3, l4⟩ := rw0 r s1
          have l5 : x1 57 r = nI l := by rw [b2.get _ _ (by omega)]; exact l2
          have l6 : ys 68 r = nI l := by rw [Sy.get _ _ (by omega)]; exact l3
          rw [← v1, s2] at y2
          rw [s2] at b1
          rw [k2] at b4 y1
          refine ⟨nI 0, _, _, ?_, ?_, FIN (nI l)⟩
          · rw [c1]
            unfold f_Ma_leave
            simp (disch := omega) only [nA, nS, nM, nLT, nLF, nTT, nTF, nEF, nET, nBT, nBF, nC, nNG, nNL, jj_b1, jj_b2, js, jn, eq_self, if_true, if_false, ite_true, ite_false, ↓reduceIte, and_self, true_and, and_true, zb0, zb1, bM, bR, bCk, bMa, Bool.false_eq_true, Bool.and_self, Bool.and_true, Bool.true_and, li_0, li_1, li_2, li_3, li_4, li_5, li_6, li_7, li_8, li_16, li_18, li_21, li_25, li_46, li_54, li_58, li_60, li_79, li_87, li_89, li_95, li_96, li_100, li_104, li_108, li_116, li_127, li_128, li_132, li_153, li_158, li_159, li_164, li_167, li_172, li_176, li_177, li_184, li_188, li_190, li_198, li_199, li_200, li_202, li_240, li_255, li_256, li_32767, li_32768, li_65536, k_Ma_leave_12, b1, k_Ma_leave_25, b4, k_Ma_leave_39, b5, f_Ma_resultOf, l5]
          · rw [c1]
            unfold f_Mo_leave
            simp (disch := omega) only [nA, nS, nM, nLT, nLF, nTT, nTF, nEF, nET, nBT, nBF, nC, nNG, nNL, jj_b1, jj_b2, js, jn, eq_self, if_true, if_false, ite_true, ite_false, ↓reduceIte, and_self, true_and, and_true, zb0, zb1, bM, bR, bCk, bMa, Bool.false_eq_true, Bool.and_self, Bool.and_true, Bool.true_and, li_0, li_1, li_2, li_3, li_4, li_5, li_6, li_7, li_8, li_16, li_18, li_21, li_25, li_46, li_54, li_58, li_60, li_79, li_87, li_89, li_95, li_96, li_100, li_104, li_108, li_116, li_127, li_128, li_132, li_153, li_158, li_159, li_164, li_167, li_172, li_176, li_177, li_184, li_188, li_190, li_198, li_199, li_200, li_202, li_240, li_255, li_256, li_32767, li_32768, li_65536, k_Mo_leave_43, h21, y1, y2, l6]
        · rw [k2] at b4 y1
          refine ⟨nI 0, _, _, ?_, ?_, FIN (-nI 1)⟩
          · rw [c1]
            unfold f_Ma_leave
            simp (disch := omega) only [nA, nS, nM, nLT, nLF, nTT, nTF, nEF, nET, nBT, nBF, nC, nNG, nNL, jj_b1, jj_b2, js, jn, eq_self, if_true, if_false, ite_true, ite_false, ↓reduceIte, and_self, true_and, and_true, zb0, zb1, bM, bR, bCk, bMa, Bool.false_eq_true, Bool.and_self, Bool.and_true, Bool.true_and, li_0, li_1, li_2, li_3, li_4, li_5, li_6, li_7, li_8, li_16, li_18, li_21, li_25, li_46, li_54, li_58, li_60, li_79, li_87, li_89, li_95, li_96, li_100, li_104, li_108, li_116, li_127, li_128, li_132, li_153, li_158, li_159, li_164, li_167, li_172, li_176, li_177, li_184, li_188, li_190, li_198, li_199, li_200, li_202, li_240, li_255, li_256, li_32767, li_32768, li_65536, k_Ma_leave_12, b1, k_Ma_leave_25, b4, k_Ma_leave_39, b5, f_Ma_resultOf]
          · rw [c1]
            unfold f_Mo_leave
            simp (disch := omega) only [nA, nS, nM, nLT, nLF, nTT, nTF, nEF, nET, nBT, nBF, nC, nNG, nNL, jj_b1, jj_b2, js, jn, eq_self, if_true, if_false, ite_true, ite_false, ↓reduceIte, and_self, true_and, and_true, zb0, zb1, bM, bR, bCk, bMa, Bool.false_eq_true, Bool.and_self, Bool.and_true, Bool.true_and, li_0, li_1, li_2, li_3, li_4, li_5, li_6, li_7, li_8, li_16, li_18, li_21, li_25, li_46, li_54, li_58, li_60, li_79, li_87, li_89, li_95, li_96, li_100, li_104, li_108, li_116, li_127, li_128, li_132, li_153, li_158, li_159, li_164, li_167, li_172, li_176, li_177, li_184, li_188, li_190, li_198, li_199, li_200, li_202, li_240, li_255, li_256, li_32767, li_32768, li_65536, k_Mo_leave_43, h21, y1]
    · obtain ⟨hq, q1, q2⟩ := R.2.2.2.2.2.2.2.2.2.2.1 (c - 1) (by omega) m hm (by rw [show c - 1 + 1 = c by omega]; exact h67) hrt2
      have Y1 : Same (fun i k => WY0 c i k ∨ (i = 58 ∧ k = 21)) y (jj_set ys 58 21 (nI (c + 1 - 1))) := (Sy.mono (fun i k z => Or.inl z)).set _ (by omega)
      have X1 : Same (fun i k => WS (34 + 5 * c) i k ∨ (i = 32 ∧ k = 5)) x (jj_set x1 32 5 (nI (c - 1))) := (b2.mono (fun i k z => Or.inl z)).set _ (by omega)
      have F1 : FE mk (c - 1) (jj_set x1 32 5 (nI (c - 1))) (jj_set ys 58 21 (nI (c + 1 - 1))) := (R.2.2.2.2.2.2.2.2.2.1 (c - 1) (by omega)).same X1 Y1 (Nat.le_refl mk) (fun i k z => by omega) (fun i k z => by omega)
      obtain ⟨pk', pv', pw', sk', sv', sw', h', k1, k2, k3⟩ := F1
      have pc' : PC mk pk' pv' pw' sk' sv' sw' h' := k3
      have eh : h' = hq := by
        have e1 := k2.1
        rw [Y1.get _ _ (by omega), q2] at e1
        have := pc'.1.1
        exact (nInj (by omega) (by omega) e1).symm
      obtain ⟨x2, d1, d2, d3⟩ := sp_put k1 (by omega) (sk (h - 1)) (sv (h - 1))
      obtain ⟨y3, e1, e2, e3⟩ := bp_push (by omega) k2 (by omega) (sk (h - 1)) (sw (h - 1))
      have e4 : y3 58 21 = nI (c + 1 - 1) := by rw [e2.get _ _ (by omega), js]
      refine ⟨-nI 1, x2, y3, ?_, ?_, (X1.mono (fun i k z => by omega)).trans (d2.mono (fun i k z => by omega)), (Y1.mono (fun i k z => by omega)).trans (e2.mono (fun i k z => by omega)), fun e => by rw [d2.get _ _ (by omega), X1.get _ _ (by omega), e2.get _ _ (by omega), Y1.get _ _ (by omega)]; exact e, Or.inl ⟨rfl, c - 1, mk, R.pop hP hk4 (by omega) ((X1.mono (fun i k z => by omega)).trans (d2.mono (fun i k z => by omega))) ((Y1.mono (fun i k z => by omega)).trans (e2.mono (fun i k z => by omega))) (by rw [d2.get _ _ (by omega), js]) (by rw [e4, show c + 1 - 1 = c - 1 + 1 by omega]) (FE_of d3 e3 (pc'.put (by omega) (pc.1.2.2 _) vr))⟩⟩
      · rcases c1 with c1 | c1 <;> rw [c1] <;> unfold f_Ma_leave <;> simp (disch := omega) only [nA, nS, nM, nLT, nLF, nTT, nTF, nEF, nET, nBT, nBF, nC, nNG, nNL, jj_b1, jj_b2, js, jn, eq_self, if_true, if_false, ite_true, ite_false, ↓reduceIte, and_self, true_and, and_true, zb0, zb1, bM, bR, bCk, bMa, Bool.false_eq_true, Bool.and_self, Bool.and_true, Bool.true_and, li_0, li_1, li_2, li_3, li_4, li_5, li_6, li_7, li_8, li_16, li_18, li_21, li_25, li_46, li_54, li_58, li_60, li_79, li_87, li_89, li_95, li_96, li_100, li_104, li_108, li_116, li_127, li_128, li_132, li_153, li_158, li_159, li_164, li_167, li_172, li_176, li_177, li_184, li_188, li_190, li_198, li_199, li_200, li_202, li_240, li_255, li_256, li_32767, li_32768, li_65536, k_Ma_leave_12, b1, k_Ma_leave_25, b4, k_Ma_leave_39, b5, d1]
      · rcases c1 with c1 | c1 <;> rw [c1] <;> unfold f_Mo_leave <;> simp (disch := omega) only [nA, nS, nM, nLT, nLF, nTT, nTF, nEF, nET, nBT, nBF, nC, nNG, nNL, jj_b1, jj_b2, js, jn, eq_self, if_true, if_false, ite_true, ite_false, ↓reduceIte, and_self, true_and, and_true, zb0, zb1, bM, bR, bCk, bMa, Bool.false_eq_true, Bool.and_self, Bool.and_true, Bool.true_and, li_0, li_1, li_2, li_3, li_4, li_5, li_6, li_7, li_8, li_16, li_18, li_21, li_25, li_46, li_54, li_58, li_60, li_79, li_87, li_89, li_95, li_96, li_100, li_104, li_108, li_116, li_127, li_128, li_132, li_153, li_158, li_159, li_164, li_167, li_172, li_176, li_177, li_184, li_188, li_190, li_198, li_199, li_200, li_202, li_240, li_255, li_256, li_32767, li_32768, li_65536, h21, y1, y2, e1, k_Mo_leave_43, e4]
/-! calling -/
def pmI (t : Nat) : Int32 := nI t - nI 1
theorem pmI_0 : (pmI 0 < nI 0) = True := eq_true (by decide)
theorem pmI_s (t : Nat) : pmI (t + 1) = nI t := nS (by omega)
theorem pmI_n (t : Nat) : nI t + -nI 1 = pmI t := by unfold pmI; rw [Int32.sub_eq_add_neg]
/-- places t .. k0-1 hold what lay on the stack from e on -/
def cl {α : Type} (t k0 e : Nat) (f g : Nat → α) : Nat → α := fun j => if t ≤ j ∧ j < k0 then f (e + j) else g j
theorem cl_ud {α : Type} {t k0 e : Nat} {f g : Nat → α} (h : t < k0) : ud (cl (t + 1) k0 e f g) t (f (e + t)) = cl t k0 e f g := by
  funext j
  by_cases w : j = t
  · rw [ud_e w]
    unfold cl
    rw [if_pos (by omega), w]
  · rw [ud_n w]
    unfold cl
    by_cases u : t + 1 ≤ j ∧ j < k0
    · rw [if_pos u, if_pos (by omega)]
    · rw [if_neg u, if_neg (by omega)]
theorem cl_top {α : Type} {k0 e : Nat} {f g : Nat → α} : cl k0 k0 e f g = g := by
  funext j
  unfold cl
  rw [if_neg (by omega)]
theorem call_loop {k0 e : Nat} {s0 : Nat → Nat} {v0 w0 : Nat → Int32} {ipb : Nat → Nat} (hc : c + 1 < 4) (h6 : h ≤ 6) (hk : h = e + k0) (hk3 : k0 ≤ 3) : ∀ (t f : Nat) (x y : jj_Mem), t ≤ k0 → t < f → x 32 5 = nI (c + 1) → KV (34 + 5 * c) x pk pv sk sv (e + t) → KVB c y pk pw sk sw (e + t) → KV (34 + 5 * (c + 1)) x (cl t k0 e sk (fun _ => 0)) (cl t k0 e sv (fun _ => nI 0)) s0 v0 0 → KVB (c + 1) y (cl t k0 e sk ipb) (cl t k0 e sw (fun _ => nI 0)) s0 w0 0 → ∃ x' y', g_Ma_call f 38 [some (.ref 32), none, none, some (.ref (34 + 5 * c)), some (.int (pmI t)), none] x = some x' ∧ g_Mo_enter f 47 [some (.ref 58), some (.int (nI c)), none, some (.int (nI (c + 1))), some (.int (pmI t))] y = some y' ∧ Same (fun i k => WS (34 + 5 * c) i k ∨ WS (34 + 5 * (c + 1)) i k) x x' ∧ Same (fun i k => WP c i k ∨ WP (c + 1) i k) y y' ∧ KV (34 + 5 * c) x' pk pv sk sv e ∧ KVB c y' pk pw sk sw e ∧ KV (34 + 5 * (c + 1)) x' (cl 0 k0 e sk (fun _ => 0)) (cl 0 k0 e sv (fun _ => nI 0)) s0 v0 0 ∧ KVB (c + 1) y' (cl 0 k0 e sk ipb) (cl 0 k0 e sw (fun _ => nI 0)) s0 w0 0 := by
  have bs : bo_St (34 + 5 * c) = true := by
    have : c = 0 ∨ c = 1 ∨ c = 2 := by omega
    rcases this with rfl | rfl | rfl <;> rfl
  intro t
  induction t with
  | zero =>
    intro f x y ht hf h5 k1 k2 k3 k4
    obtain ⟨f, rfl⟩ : ∃ g, f = g + 1 := ⟨f - 1, by omega⟩
    refine ⟨x, y, ?_, ?_, Same.refl x, Same.refl y, k1, k2, k3, k4⟩
    · simp (disch := omega) only [nA, nS, nM, nLT, nLF, nTT, nTF, nEF, nET, nBT, nBF, nC, nNG, nNL, jj_b1, jj_b2, js, jn, eq_self, if_true, if_false, ite_true, ite_false, ↓reduceIte, and_self, true_and, and_true, zb0, zb1, bM, bR, bCk, bMa, Bool.false_eq_true, Bool.and_self, Bool.and_true, Bool.true_and, li_0, li_1, li_2, li_3, li_4, li_5, li_6, li_7, li_8, li_16, li_18, li_21, li_25, li_46, li_54, li_58, li_60, li_79, li_87, li_89, li_95, li_96, li_100, li_104, li_108, li_116, li_127, li_128, li_132, li_153, li_158, li_159, li_164, li_167, li_172, li_176, li_177, li_184, li_188, li_190, li_198, li_199, li_200, li_202, li_240, li_255, li_256, li_32767, li_32768, li_65536, g_Ma_call, bs, k_Ma_call_38, pmI_0]
    · simp (disch := omega) only [nA, nS, nM, nLT, nLF, nTT, nTF, nEF, nET, nBT, nBF, nC, nNG, nNL, jj_b1, jj_b2, js, jn, eq_self, if_true, if_false, ite_true, ite_false, ↓reduceIte, and_self, true_and, and_true, zb0, zb1, bM, bR, bCk, bMa, Bool.false_eq_true, Bool.and_self, Bool.and_true, Bool.true_and, li_0, li_1, li_2, li_3, li_4, li_5, li_6, li_7, li_8, li_16, li_18, li_21, li_25, li_46, li_54, li_58, li_60, li_79, li_87, li_89, li_95, li_96, li_100, li_104, li_108, li_116, li_127, li_128, li_132, li_153, li_158, li_159, li_164, li_167, li_172, li_176, li_177, li_184, li_188, li_190, li_198, li_199, li_200, li_202, li_240, li_255, li_256, li_32767, li_32768, li_65536, g_Mo_enter, k_Mo_enter_47, pmI_0]
  | succ t ih =>
    intro f x y ht hf h5 k1 k2 k3 k4
    obtain ⟨f, rfl⟩ : ∃ g, f = g + 1 := ⟨f - 1, by omega⟩
    obtain ⟨x1, b1, b2, b3, b4⟩ := sp_take k1 (by omega) (by omega)
    rw [show e + (t + 1) - 1 = e + t by omega] at b1 b3 b4
    have b5 : x1 32 5 = nI (c + 1) := by rw [b2.get _ _ (by omega)]; exact h5
    obtain ⟨x2, d1, d2, d3⟩ := sp_setPlace (k3.same b2 (by omega) (fun i k _ _ => by omega)) (u := t) (by omega) (sk (e + t)) (sv (e + t))
    rw [cl_ud (by omega), cl_ud (by omega)] at d3
    obtain ⟨f1, f2⟩ := bp_drop (t := 1) (by omega : c < 4) k2 (by omega)
    rw [show e + (t + 1) - 1 = e + t by omega] at f1 f2
    obtain ⟨g1, g2⟩ := bp_place (by omega : c + 1 < 4) (k4.same f1 (by omega) (by omega) (fun i k _ _ _ _ => by omega)) (u := t) (by omega) (sk (e + t)) (sw (e + t))
    rw [cl_ud (by omega), cl_ud (by omega)] at g2
    obtain ⟨x', y', i1, i2, i3, i4, i5⟩ := ih f x2 _ (by omega) (by omega) (by rw [d2.get _ _ (by omega)]; exact b5) (b3.same d2 (by omega) (fun i k _ _ => by omega)) (f2.same g1 (by omega) (by omega) (fun i k _ _ _ _ => by omega)) d3 g2
    refine ⟨x', y', ?_, ?_, ((b2.mono (fun i k z => Or.inl z)).trans (d2.mono (fun i k z => Or.inr z))).trans i3, ((f1.mono (fun i k z => Or.inl z)).trans (g1.mono (fun i k z => Or.inr z))).trans i4, i5⟩
    · rw [pmI_s, show g_Ma_call (f + 1) 38 [some (.ref 32), none, none, some (.ref (34 + 5 * c)), some (.int (nI t)), none] x = if (bo_Ma 32 && bo_St (34 + 5 * c)) = true then k_Ma_call_38 (g_Ma_call f) 32 (34 + 5 * c) (nI t) x else none from rfl]
      simp (disch := omega) only [nA, nS, nM, nLT, nLF, nTT, nTF, nEF, nET, nBT, nBF, nC, nNG, nNL, jj_b1, jj_b2, js, jn, eq_self, if_true, if_false, ite_true, ite_false, ↓reduceIte, and_self, true_and, and_true, zb0, zb1, bM, bR, bCk, bMa, Bool.false_eq_true, Bool.and_self, Bool.and_true, Bool.true_and, li_0, li_1, li_2, li_3, li_4, li_5, li_6, li_7, li_8, li_16, li_18, li_21, li_25, li_46, li_54, li_58, li_60, li_79, li_87, li_89, li_95, li_96, li_100, li_104, li_108, li_116, li_127, li_128, li_132, li_153, li_158, li_159, li_164, li_167, li_172, li_176, li_177, li_184, li_188, li_190, li_198, li_199, li_200, li_202, li_240, li_255, li_256, li_32767, li_32768, li_65536, bs, k_Ma_call_38, b1, b5, b4, d1, pmI_n, i1]
    · have y1 := k2.1
      obtain ⟨y2, y3⟩ := k2.2.2 (e + t) (by omega)
      rw [pmI_s, show g_Mo_enter (f + 1) 47 [some (.ref 58), some (.int (nI c)), none, some (.int (nI (c + 1))), some (.int (nI t))] y = k_Mo_enter_47 (g_Mo_enter f) 58 (nI c) (nI (c + 1)) (nI t) y from rfl]
      have q1 : e + (t + 1) - 1 = e + t := by omega
      simp (disch := omega) only [nA, nS, nM, nLT, nLF, nTT, nTF, nEF, nET, nBT, nBF, nC, nNG, nNL, jj_b1, jj_b2, js, jn, eq_self, if_true, if_false, ite_true, ite_false, ↓reduceIte, and_self, true_and, and_true, zb0, zb1, bM, bR, bCk, bMa, Bool.false_eq_true, Bool.and_self, Bool.and_true, Bool.true_and, li_0, li_1, li_2, li_3, li_4, li_5, li_6, li_7, li_8, li_16, li_18, li_21, li_25, li_46, li_54, li_58, li_60, li_79, li_87, li_89, li_95, li_96, li_100, li_104, li_108, li_116, li_127, li_128, li_132, li_153, li_158, li_159, li_164, li_167, li_172, li_176, li_177, li_184, li_188, li_190, li_198, li_199, li_200, li_202, li_240, li_255, li_256, li_32767, li_32768, li_65536, k_Mo_enter_47, y1, q1, y2, y3, pmI_n, i2]
theorem two_call (hP : o_Pr P) (hF : By K n) (hOK : FileOK K n) (R : RR K n P c mk x y) (hc1 : c + 1 < 4) (hR : FR mk c x y pk pv pw sk sv sw h) (hm : m < mcn K) (hM : MtOK K n (K 1) (mcn K) (mp K m) N) (hk : K (mp K m) ≤ h) (hroom : m_rt K (mp K m) ≠ 0 → h - K (mp K m) ≤ 5) : ∃ x' y', f_Ma_call 32 P (nI m) x = some x' ∧ f_Mo_enter 58 (nI c) (nI m) y = some y' ∧ Same WZx x x' ∧ Same WZy y y' ∧ x' 32 0 = x 32 0 ∧ y' 58 27 = y 58 27 ∧ RR K n P (c + 1) mk x' y' := by
  obtain ⟨r1, r2, r3, r4, r5, r6, r7, r8, r9, r10, r11, r12⟩ := R
  have hP2 := oc_Pr hP
  have hk4 := hOK.2.2.1
  have h3 := hM.1.1
  have pc : PC mk pk pv pw sk sv sw h := hR.2.2
  have h6 := pc.1.1
  -- the object's side
  have X0 : Same (fun i k => i = 32 ∧ k = 5) x (jj_set x 32 5 (nI (c + 1))) := (Same.refl x).set _ (by omega)
  obtain ⟨x1, b1, b2, b3, b4, b5⟩ := ma_enter (x := jj_set x 32 5 (nI (c + 1))) (c := c + 1) (m := m) hc1 (js _ _ _ _)
  have X1 : Same (fun i k => (i = 32 ∧ k = 5) ∨ ((i = 54 ∧ k = c + 1) ∨ (i = 55 ∧ k = c + 1) ∨ WS (34 + 5 * (c + 1)) i k)) x x1 := (X0.mono (fun i k z => Or.inl z)).trans (b2.mono (fun i k z => Or.inr z))
  have q5 : x1 32 5 = nI (c + 1) := by rw [b2.get _ _ (by omega), js]
  have V1 := hR.1.same X1 (by omega) (fun i k _ _ => by omega)
  have r31 := r3.same hk4 X1 (fun i k _ _ => by omega)
  have q0 := (r31.2.2.2.2.2 m hm).1.1
  -- the reference's side
  have Y0 : Same (fun i k => (i = 58 ∧ k = 21) ∨ (i = 67 ∧ k = c + 1) ∨ (i = 66 ∧ k = c + 1)) y (jj_set (jj_set (jj_set y 58 21 (nI (c + 1 + 1))) 67 (c + 1) (nI m)) 66 (c + 1) (nI 0)) := (((Same.refl y).set _ (by omega)).set _ (by omega)).set _ (by omega)
  obtain ⟨y1, c1, c2, c3⟩ := mo_open hF hOK (r4.same Y0 (fun k => by omega)) hm
  have hK1 := (r4.same Y0 (fun k => by omega)).same c2 (fun k => by omega)
  obtain ⟨y2, d1, d2, d3⟩ := mo_begin (c := c + 1) hc1 hF hM hK1 c3 (fun _ => 0) (fun _ => 0)
  have hO2 := c3.same d2 (fun k _ _ => by omega)
  have q9 := hO2.2.1
  have Y2 : Same (fun i k => (i = 58 ∧ k = 21) ∨ (i = 67 ∧ k = c + 1) ∨ (i = 66 ∧ k = c + 1) ∨ (i = 58 ∧ 8 ≤ k ∧ k ≤ 13) ∨ WP (c + 1) i k) y y2 := (Y0.mono (fun i k z => by omega)).trans ((c2.mono (fun i k z => by omega)).trans (d2.mono (fun i k z => by omega)))
  have V2 := hR.2.1.same Y2 h6 (by omega) (fun i k _ _ _ _ => by omega)
  have w21 : y2 58 21 = nI (c + 1 + 1) := by rw [d2.get _ _ (by omega), c2.get _ _ (by omega)]; simp (disch := omega) only [nA, nS, nM, nLT, nLF, nTT, nTF, nEF, nET, nBT, nBF, nC, nNG, nNL, jj_b1, jj_b2, js, jn, eq_self, if_true, if_false, ite_true, ite_false, ↓reduceIte, and_self, true_and, and_true, zb0, zb1, bM, bR, bCk, bMa, Bool.false_eq_true, Bool.and_self, Bool.and_true, Bool.true_and, li_0, li_1, li_2, li_3, li_4, li_5, li_6, li_7, li_8, li_16, li_18, li_21, li_25, li_46, li_54, li_58, li_60, li_79, li_87, li_89, li_95, li_96, li_100, li_104, li_108, li_116, li_127, li_128, li_132, li_153, li_158, li_159, li_164, li_167, li_172, li_176, li_177, li_184, li_188, li_190, li_198, li_199, li_200, li_202, li_240, li_255, li_256, li_32767, li_32768, li_65536]
  have w67 : y2 67 (c + 1) = nI m := by rw [d2.get _ _ (by omega), c2.get _ _ (by omega)]; simp (disch := omega) only [nA, nS, nM, nLT, nLF, nTT, nTF, nEF, nET, nBT, nBF, nC, nNG, nNL, jj_b1, jj_b2, js, jn, eq_self, if_true, if_false, ite_true, ite_false, ↓reduceIte, and_self, true_and, and_true, zb0, zb1, bM, bR, bCk, bMa, Bool.false_eq_true, Bool.and_self, Bool.and_true, Bool.true_and, li_0, li_1, li_2, li_3, li_4, li_5, li_6, li_7, li_8, li_16, li_18, li_21, li_25, li_46, li_54, li_58, li_60, li_79, li_87, li_89, li_95, li_96, li_100, li_104, li_108, li_116, li_127, li_128, li_132, li_153, li_158, li_159, li_164, li_167, li_172, li_176, li_177, li_184, li_188, li_190, li_198, li_199, li_200, li_202, li_240, li_255, li_256, li_32767, li_32768, li_65536]
  have w66 : y2 66 (c + 1) = nI 0 := by rw [d2.get _ _ (by omega), c2.get _ _ (by omega)]; simp (disch := omega) only [nA, nS, nM, nLT, nLF, nTT, nTF, nEF, nET, nBT, nBF, nC, nNG, nNL, jj_b1, jj_b2, js, jn, eq_self, if_true, if_false, ite_true, ite_false, ↓reduceIte, and_self, true_and, and_true, zb0, zb1, bM, bR, bCk, bMa, Bool.false_eq_true, Bool.and_self, Bool.and_true, Bool.true_and, li_0, li_1, li_2, li_3, li_4, li_5, li_6, li_7, li_8, li_16, li_18, li_21, li_25, li_46, li_54, li_58, li_60, li_79, li_87, li_89, li_95, li_96, li_100, li_104, li_108, li_116, li_127, li_128, li_132, li_153, li_158, li_159, li_164, li_167, li_172, li_176, li_177, li_184, li_188, li_190, li_198, li_199, li_200, li_202, li_240, li_255, li_256, li_32767, li_32768, li_65536]
  have eh : h - K (mp K m) + K (mp K m) = h := by omega
  obtain ⟨x', y', i1, i2, i3, i4, i5, i6, i7, i8⟩ := call_loop (pk := pk) (sk := sk) (pv := pv) (pw := pw) (sv := sv) (sw := sw) (h := h) (k0 := K (mp K m)) (e := h - K (mp K m)) (ipb := ip K (mp K m)) hc1 h6 eh.symm h3 (K (mp K m)) 1000 x1 y2 (Nat.le_refl _) (by omega) q5 (by rw [eh]; exact V1) (by rw [eh]; exact V2) (by rw [cl_top, cl_top]; exact b5) (by rw [cl_top, cl_top]; exact d3)
  have ecl : cl 0 (K (mp K m)) (h - K (mp K m)) sk (ip K (mp K m)) = cl 0 (K (mp K m)) (h - K (mp K m)) sk (fun _ => 0) := by
    funext j
    unfold cl
    by_cases w : 0 ≤ j ∧ j < K (mp K m)
    · rw [if_pos w, if_pos w]
    · rw [if_neg w, if_neg w]
      unfold ip
      rw [if_neg (by omega)]
  rw [ecl] at i8
  have X' : Same (fun i k => ((i = 32 ∧ k = 5) ∨ ((i = 54 ∧ k = c + 1) ∨ (i = 55 ∧ k = c + 1) ∨ WS (34 + 5 * (c + 1)) i k)) ∨ WS (34 + 5 * c) i k) x x' := (X1.mono (fun i k z => Or.inl z)).trans (i3.mono (fun i k z => by omega))
  have Y' : Same (fun i k => ((i = 58 ∧ k = 21) ∨ (i = 67 ∧ k = c + 1) ∨ (i = 66 ∧ k = c + 1) ∨ (i = 58 ∧ 8 ≤ k ∧ k ≤ 13) ∨ WP (c + 1) i k) ∨ WP c i k) y y' := (Y2.mono (fun i k z => Or.inl z)).trans (i4.mono (fun i k z => by omega))
  refine ⟨x', y', ?_, ?_, X'.mono (fun i k z => by omega), Y'.mono (fun i k z => by omega), X'.get _ _ (by omega), Y'.get _ _ (by omega), ⟨hc1, r2, r3.same hk4 X' (fun i k _ _ => by omega), r4.same Y' (fun k => by omega), by rw [i3.get _ _ (by omega)]; exact q5, by rw [i4.get _ _ (by omega)]; exact w21, by rw [X'.get _ _ (by omega)]; exact r7, by rw [Y'.get _ _ (by omega)]; exact r8, fun d hd => ?_, fun d hd => ?_, fun d hd => ?_, r12.same X' Y' (fun k => by omega) (fun k => by omega) (fun k => by omega) (fun k => by omega)⟩⟩
  · unfold f_Ma_call k_Ma_call_0
    unfold pmI at i1
    simp (disch := omega) only [nA, nS, nM, nLT, nLF, nTT, nTF, nEF, nET, nBT, nBF, nC, nNG, nNL, jj_b1, jj_b2, js, jn, eq_self, if_true, if_false, ite_true, ite_false, ↓reduceIte, and_self, true_and, and_true, zb0, zb1, bM, bR, bCk, bMa, Bool.false_eq_true, Bool.and_self, Bool.and_true, Bool.true_and, li_0, li_1, li_2, li_3, li_4, li_5, li_6, li_7, li_8, li_16, li_18, li_21, li_25, li_46, li_54, li_58, li_60, li_79, li_87, li_89, li_95, li_96, li_100, li_104, li_108, li_116, li_127, li_128, li_132, li_153, li_158, li_159, li_164, li_167, li_172, li_176, li_177, li_184, li_188, li_190, li_198, li_199, li_200, li_202, li_240, li_255, li_256, li_32767, li_32768, li_65536, r5, b1, q0]
    exact i1
  · unfold f_Mo_enter k_Mo_enter_0
    unfold pmI at i2
    simp (disch := omega) only [nA, nS, nM, nLT, nLF, nTT, nTF, nEF, nET, nBT, nBF, nC, nNG, nNL, jj_b1, jj_b2, js, jn, eq_self, if_true, if_false, ite_true, ite_false, ↓reduceIte, and_self, true_and, and_true, zb0, zb1, bM, bR, bCk, bMa, Bool.false_eq_true, Bool.and_self, Bool.and_true, Bool.true_and, li_0, li_1, li_2, li_3, li_4, li_5, li_6, li_7, li_8, li_16, li_18, li_21, li_25, li_46, li_54, li_58, li_60, li_79, li_87, li_89, li_95, li_96, li_100, li_104, li_108, li_116, li_127, li_128, li_132, li_153, li_158, li_159, li_164, li_167, li_172, li_176, li_177, li_184, li_188, li_190, li_198, li_199, li_200, li_202, li_240, li_255, li_256, li_32767, li_32768, li_65536, r6, c1, d1, q9]
    exact i2
  · by_cases w : d = c + 1
    · rw [w]
      exact ⟨m, N, 0, hm, hM, Nat.zero_le N, by rw [i3.get _ _ (by omega)]; exact b3, by rw [i4.get _ _ (by omega)]; exact w67, by rw [i3.get _ _ (by omega)]; exact b4, by rw [i4.get _ _ (by omega)]; exact w66⟩
    · exact (r9 d (by omega)).same X' Y' (by omega) (by omega) (by omega) (by omega)
  · by_cases w : d = c + 1
    · rw [w]
      refine FE_of i7 i8 ⟨⟨by omega, fun k => ?_, fun k => Nat.zero_le 3⟩, fun k hk => ?_, fun k hk => by omega⟩
      · unfold cl
        split
        · exact pc.1.2.2 _
        · exact Nat.zero_le 3
      · unfold cl
        by_cases u : 0 ≤ k ∧ k < K (mp K m)
        · rw [if_pos u, if_pos u, if_pos u]
          exact pc.2.2 _ (by omega)
        · rw [if_neg u, if_neg u, if_neg u]
          exact (show VR mk 0 (nI 0) (nI 0) from VR.self (by omega))
    · by_cases w2 : d = c
      · rw [w2]
        exact FE_of i5 i6 (pc.drop (by omega))
      · exact (r10 d (by omega)).same X' Y' (Nat.le_refl mk) (fun i k z => by omega) (fun i k z => by omega)
  · by_cases w2 : d = c
    · rw [w2]
      intro m' hm' e1 e2
      rw [i4.get _ _ (by omega), w67] at e1
      have e3 : m = m' := nInj (by omega) (by omega) e1
      rw [← e3] at e2
      exact ⟨h - K (mp K m), hroom e2, i6.1⟩
    · exact (r11 d (by omega)).same Y' (by omega) (by omega)
end CALL
