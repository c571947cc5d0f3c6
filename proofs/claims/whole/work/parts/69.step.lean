/-! PURE: one step and the run, on both sides -/
theorem z_al0 : ∀ b, b < 256 → (z_len b = 1 ∧ z_ret b = false) → (([1, 46, 79, 87, 89, 95].contains b || [116, 188, 190].contains b) || [96, 100, 104, 108].contains b) = true := by decide +kernel
theorem z_op0 : ∀ b, b < 256 → (2 ≤ z_len b ∧ z_jmp b = false ∧ b ≠ 184) → [16, 18, 21, 25, 54, 58, 132].contains b = true := by decide +kernel
theorem z_al {b : Nat} (h1 : b < 256) (h2 : z_len b = 1) (h3 : z_ret b = false) : (b = 1 ∨ b = 46 ∨ b = 79 ∨ b = 87 ∨ b = 89 ∨ b = 95) ∨ (b = 116 ∨ b = 188 ∨ b = 190) ∨ (b = 96 ∨ b = 100 ∨ b = 104 ∨ b = 108) := by
  have := z_al0 b h1 ⟨h2, h3⟩
  simp only [List.contains_cons, List.contains_nil, Bool.or_false, Bool.or_eq_true, beq_iff_eq] at this
  omega
theorem z_op {b : Nat} (h1 : b < 256) (h2 : 2 ≤ z_len b) (h3 : z_jmp b = false) (h4 : b ≠ 184) : (b = 16 ∨ b = 18 ∨ b = 21 ∨ b = 25 ∨ b = 54 ∨ b = 58 ∨ b = 132) := by
  have := z_op0 b h1 ⟨h2, h3, h4⟩
  simp only [List.contains_cons, List.contains_nil, Bool.or_false, Bool.or_eq_true, beq_iff_eq] at this
  omega
section STEP
variable {K : Nat → Nat} {n P c mk m h N : Nat} {x y xs ys x' y' : jj_Mem} {pk sk : Nat → Nat} {pv pw sv sw : Nat → Int32}
theorem FR.same {W V : Nat → Nat → Prop} (k : FR mk c x y pk pv pw sk sv sw h) (Sx : Same W x x') (Sy : Same V y y') (hx : ∀ i k, WS (34 + 5 * c) i k → ¬ W i k) (hy : ∀ i k, WP c i k → ¬ V i k) : FR mk c x' y' pk pv pw sk sv sw h :=
  ⟨k.1.same Sx (hx _ _ (Or.inl ⟨rfl, rfl⟩)) (fun i k a b => hx i k (Or.inr ⟨a, b⟩)), k.2.1.same Sy k.2.2.1.1 (hy _ _ (Or.inr ⟨rfl, rfl⟩)) (fun i k a b e f => hy i k (Or.inl ⟨a, b, e, f⟩)), k.2.2⟩
theorem SE.same {W V : Nat → Nat → Prop} {a : Nat} (k : SE mk x y sv sw a) (Sx : Same W x x') (Sy : Same V y y') (hx : ∀ k, ¬ W 56 k) (hy : ∀ k, ¬ V 69 k) : SE mk x' y' sv sw a := by
  obtain ⟨r, i, s1, s2, s3, s4, s5, s6, s7⟩ := k
  exact ⟨r, i, s1, s2, s3, s4, s5, s6, by rw [Sx.get _ _ (hx _), Sy.get _ _ (hy _)]; exact s7⟩
theorem SAFE.same {W V : Nat → Nat → Prop} {op : Nat} (k : SAFE op c mk h x y sk sv sw) (Sx : Same W x x') (Sy : Same V y y') (hx : ∀ k, ¬ W 56 k) (hy : ∀ k, ¬ V 69 k) : SAFE op c mk h x' y' sk sv sw :=
  ⟨fun e => (k.1 e).same Sx Sy hx hy, fun e => (k.2.1 e).same Sx Sy hx hy, k.2.2⟩
theorem DW_OUT (hP : o_Pr P) (hk4 : mcn K ≤ 4) (R : RR K n P c mk xs ys) (Sx : Same (WX0 c) x xs) (Sy : Same (WY0 c) y ys) (D : DW mk c xs ys x' y') : OUT K n P (-nI 1) x y x' y' := by
  have hc := R.1
  obtain ⟨d1, d2, mk', e1, e2, e3, e4, e5, e6⟩ := D
  refine ⟨(Sx.mono (fun i k z => by omega)).trans (d1.mono (fun i k z => by omega)), (Sy.mono (fun i k z => by omega)).trans (d2.mono (fun i k z => by omega)), fun e => ?_, Or.inl ⟨rfl, c, mk', R.next hP hk4 (d1.mono (fun i k z => by omega)) (d2.mono (fun i k z => by omega)) e3 e4 e1 e2 ((R.2.2.2.2.2.2.2.2.1 c (Nat.le_refl c)).same d1 d2 (by omega) (by omega) (by omega) (by omega)) e5 e6⟩⟩
  rw [d1.get _ _ (by omega), Sx.get _ _ (by omega), d2.get _ _ (by omega), Sy.get _ _ (by omega)]
  exact e
theorem two_step (hP : o_Pr P) (hF : By K n) (hOK : FileOK K n) (R : RR K n P c mk x y) : ∃ v x' y', f_Ma_doOne 32 P x = some (v, x') ∧ f_Mo_step 58 y = some (v, y') ∧ OUT K n P v x y x' y' := by
  have h240 := hF.1
  have hP2 := oc_Pr hP
  have hk4 := hOK.2.2.1
  have RR0 := R
  obtain ⟨r1, r2, r3, r4, r5, r6, r7, r8, r9, r10, r11, r12⟩ := R
  obtain ⟨m, N, j, hm, hM, hj, p1, p2, p3, p4⟩ := r9 c (Nat.le_refl c)
  have hMC := r3.2.2.2.2.2 m hm
  have q5 := hMC.1.2.2.2.2.2.2
  have q6 := hMC.1.2.2.2.2.2.1
  have hq : o_Me (P + 3 + 2 * m) := bq_of hP (by omega) rfl
  have hpl := hM.1.2.2.2.2.2.1
  have hdp := hM.1.2.2.2.1
  have hrt := hM.1.2.2.1
  have h60 := st_lt60 hM hj
  have os : o_St (34 + 5 * c) := by
    have : c = 0 ∨ c = 1 ∨ c = 2 ∨ c = 3 := by omega
    rcases this with rfl | rfl | rfl | rfl <;> rfl
  obtain ⟨pk, pv, pw, sk, sv, sw, h, hR⟩ := r10 c (Nat.le_refl c)
  obtain ⟨y2, o1, o2, o3⟩ := mo_open hF hOK r4 hm
  have hK2 := r4.same o2 (fun k => by omega)
  have hR2 : FR mk c x y2 pk pv pw sk sv sw h := hR.same (W := fun _ _ => False) (fun _ _ _ => rfl) o2 (fun i k _ z => z) (fun i k z => by omega)
  have m12 := o3.2.2.2.2.1
  have m13 := o3.2.2.2.2.2
  have m66 : y2 66 c = nI (st K (m_cd K (mp K m)) j) := by rw [o2.get _ _ (by omega)]; exact p4
  have m65 := hR2.2.1.1
  have sub1 : nI (c + 1) - nI 1 = nI c := by rw [nS (by omega), show c + 1 - 1 = c by omega]
  have r6' : y 58 21 - nI 1 = nI c := by rw [r6]; exact sub1
  have OUT1 : ∀ t, t ≤ 6 → OUT K n P (nI t) x y x y2 := fun t ht => ⟨Same.refl x, o2.mono (fun i k z => by omega), fun e => by rw [o2.get _ _ (by omega)]; exact e, Or.inr ⟨t, ht, rfl⟩⟩
  have h6 := hR.2.2.1.1
  by_cases cN : j = N
  · have eN := hM.2.1.2.1
    rw [← cN] at eN
    rw [eN] at p3 m66
    refine ⟨nI 1, x, y2, ?_, ?_, OUT1 1 (by omega)⟩
    · unfold f_Ma_doOne
      simp (disch := omega) only [nA, nS, nM, nLT, nLF, nTT, nTF, nEF, nET, nBT, nBF, nC, nNG, nNL, jj_b1, jj_b2, js, jn, eq_self, if_true, if_false, ite_true, ite_false, ↓reduceIte, and_self, true_and, and_true, zb0, zb1, bM, bR, bCk, bMa, Bool.false_eq_true, Bool.and_self, Bool.and_true, Bool.true_and, li_0, li_1, li_2, li_3, li_4, li_5, li_6, li_7, li_8, li_16, li_18, li_21, li_25, li_46, li_54, li_58, li_60, li_79, li_87, li_89, li_95, li_96, li_100, li_104, li_108, li_116, li_127, li_128, li_132, li_153, li_158, li_159, li_164, li_167, li_172, li_176, li_177, li_184, li_188, li_190, li_198, li_199, li_200, li_202, li_240, li_255, li_256, li_32767, li_32768, li_65536, r5, p1, p3, q6]
    · unfold f_Mo_step
      simp (disch := omega) only [nA, nS, nM, nLT, nLF, nTT, nTF, nEF, nET, nBT, nBF, nC, nNG, nNL, jj_b1, jj_b2, js, jn, eq_self, if_true, if_false, ite_true, ite_false, ↓reduceIte, and_self, true_and, and_true, zb0, zb1, bM, bR, bCk, bMa, Bool.false_eq_true, Bool.and_self, Bool.and_true, Bool.true_and, li_0, li_1, li_2, li_3, li_4, li_5, li_6, li_7, li_8, li_16, li_18, li_21, li_25, li_46, li_54, li_58, li_60, li_79, li_87, li_89, li_95, li_96, li_100, li_104, li_108, li_116, li_127, li_128, li_132, li_153, li_158, li_159, li_164, li_167, li_172, li_176, li_177, li_184, li_188, li_190, li_198, li_199, li_200, li_202, li_240, li_255, li_256, li_32767, li_32768, li_65536, r6', p2, o1, m12, m66]
  have hjN : j < N := by omega
  have hlt := (hM.2.1.2.2 j hjN).1
  have hI := IA_of hM hjN
  have hi2 := hI.2.1
  have hb := hF.2 (m_cd K (mp K m) + st K (m_cd K (mp K m)) j) (by omega)
  have hz3 := z_len3 _ hb
  have e1 := st_allows (rt := m_rt K (mp K m)) (dp := m_dp K (mp K m)) os hP hq hF hOK r3 q5 hMC.1.2.2.1 hMC.1.2.2.2.1 hrt hdp hI hpl hR.1.ka hR.2.2.1
  have e2 := mo_can r1 hF hOK hM hK2 o3 hI hR2.2.1.kb hR2.2.2.1
  by_cases cA : AL K (m_cd K (mp K m) + st K (m_cd K (mp K m)) j) (m_dp K (mp K m)) (m_rt K (mp K m)) pk sk h
  rotate_left
  · rw [z_p0 cA] at e1 e2
    refine ⟨nI 1, x, y2, ?_, ?_, OUT1 1 (by omega)⟩
    · unfold f_Ma_doOne
      simp (disch := omega) only [nA, nS, nM, nLT, nLF, nTT, nTF, nEF, nET, nBT, nBF, nC, nNG, nNL, jj_b1, jj_b2, js, jn, eq_self, if_true, if_false, ite_true, ite_false, ↓reduceIte, and_self, true_and, and_true, zb0, zb1, bM, bR, bCk, bMa, Bool.false_eq_true, Bool.and_self, Bool.and_true, Bool.true_and, li_0, li_1, li_2, li_3, li_4, li_5, li_6, li_7, li_8, li_16, li_18, li_21, li_25, li_46, li_54, li_58, li_60, li_79, li_87, li_89, li_95, li_96, li_100, li_104, li_108, li_116, li_127, li_128, li_132, li_153, li_158, li_159, li_164, li_167, li_172, li_176, li_177, li_184, li_188, li_190, li_198, li_199, li_200, li_202, li_240, li_255, li_256, li_32767, li_32768, li_65536, r5, p1, p3, q6, e1]
    · unfold f_Mo_step
      simp (disch := omega) only [nA, nS, nM, nLT, nLF, nTT, nTF, nEF, nET, nBT, nBF, nC, nNG, nNL, jj_b1, jj_b2, js, jn, eq_self, if_true, if_false, ite_true, ite_false, ↓reduceIte, and_self, true_and, and_true, zb0, zb1, bM, bR, bCk, bMa, Bool.false_eq_true, Bool.and_self, Bool.and_true, Bool.true_and, li_0, li_1, li_2, li_3, li_4, li_5, li_6, li_7, li_8, li_16, li_18, li_21, li_25, li_46, li_54, li_58, li_60, li_79, li_87, li_89, li_95, li_96, li_100, li_104, li_108, li_116, li_127, li_128, li_132, li_153, li_158, li_159, li_164, li_167, li_172, li_176, li_177, li_184, li_188, li_190, li_198, li_199, li_200, li_202, li_240, li_255, li_256, li_32767, li_32768, li_65536, r6', p2, o1, m12, m66, e2]
  rw [z_p1 cA] at e1 e2
  have e3 := pr_codeP h240 r3 q5 (o := st K (m_cd K (mp K m)) j) (by omega)
  have e4 := hK2 (m_cd K (mp K m) + st K (m_cd K (mp K m)) j) (by omega)
  have RW2 : RW mk x y2 := r12.same (W := fun _ _ => False) (fun _ _ _ => rfl) o2 (fun k z => z) (fun k z => z) (fun k => by omega) (fun k => by omega)
  obtain ⟨v, t1, t2, t3⟩ := two_trouble r1 r2 RW2 r5 (by rw [o2.get _ _ (by omega)]; exact r6) r7 (by rw [o2.get _ _ (by omega)]; exact r8) hR2 hb cA
  rcases t3 with ⟨t, tt1, tt2, tt3⟩ | ⟨tv, hS⟩
  · rw [tt3] at t1 t2
    refine ⟨nI t, x, y2, ?_, ?_, OUT1 t tt2⟩
    · unfold f_Ma_doOne
      simp (disch := omega) only [nA, nS, nM, nLT, nLF, nTT, nTF, nEF, nET, nBT, nBF, nC, nNG, nNL, jj_b1, jj_b2, js, jn, eq_self, if_true, if_false, ite_true, ite_false, ↓reduceIte, and_self, true_and, and_true, zb0, zb1, bM, bR, bCk, bMa, Bool.false_eq_true, Bool.and_self, Bool.and_true, Bool.true_and, li_0, li_1, li_2, li_3, li_4, li_5, li_6, li_7, li_8, li_16, li_18, li_21, li_25, li_46, li_54, li_58, li_60, li_79, li_87, li_89, li_95, li_96, li_100, li_104, li_108, li_116, li_127, li_128, li_132, li_153, li_158, li_159, li_164, li_167, li_172, li_176, li_177, li_184, li_188, li_190, li_198, li_199, li_200, li_202, li_240, li_255, li_256, li_32767, li_32768, li_65536, r5, p1, p3, q6, e1, e3, t1]
    · unfold f_Mo_step
      simp (disch := omega) only [nA, nS, nM, nLT, nLF, nTT, nTF, nEF, nET, nBT, nBF, nC, nNG, nNL, jj_b1, jj_b2, js, jn, eq_self, if_true, if_false, ite_true, ite_false, ↓reduceIte, and_self, true_and, and_true, zb0, zb1, bM, bR, bCk, bMa, Bool.false_eq_true, Bool.and_self, Bool.and_true, Bool.true_and, li_0, li_1, li_2, li_3, li_4, li_5, li_6, li_7, li_8, li_16, li_18, li_21, li_25, li_46, li_54, li_58, li_60, li_79, li_87, li_89, li_95, li_96, li_100, li_104, li_108, li_116, li_127, li_128, li_132, li_153, li_158, li_159, li_164, li_167, li_172, li_176, li_177, li_184, li_188, li_190, li_198, li_199, li_200, li_202, li_240, li_255, li_256, li_32767, li_32768, li_65536, r6', p2, o1, m12, m66, e2, m13, e4, m65, t2]
  rw [tv] at t1 t2
  have l1 := zt_len _ hb
  have l2 := zm_bytes _ hb
  have ret1 := zt_isReturn _ hb hI.1
  have ret2 := zm_returns _ hb hI.1
  have Sx : Same (WX0 c) x (jj_set x 55 c (nI (st K (m_cd K (mp K m)) j + z_len (K (m_cd K (mp K m) + st K (m_cd K (mp K m)) j))))) := (Same.refl x).set _ (by omega)
  have Sy : Same (WY0 c) y (jj_set y2 66 c (nI (st K (m_cd K (mp K m)) j + z_len (K (m_cd K (mp K m) + st K (m_cd K (mp K m)) j))))) := (o2.mono (fun i k z => by omega)).set _ (by omega)
  have Sx1 : Same (fun i k => i = 55 ∧ k = c) x (jj_set x 55 c (nI (st K (m_cd K (mp K m)) j + z_len (K (m_cd K (mp K m) + st K (m_cd K (mp K m)) j))))) := (Same.refl x).set _ (by omega)
  have Sy1 : Same (fun i k => i = 66 ∧ k = c) y2 (jj_set y2 66 c (nI (st K (m_cd K (mp K m)) j + z_len (K (m_cd K (mp K m) + st K (m_cd K (mp K m)) j))))) := (Same.refl y2).set _ (by omega)
  have m66s : (jj_set y2 66 c (nI (st K (m_cd K (mp K m)) j + z_len (K (m_cd K (mp K m) + st K (m_cd K (mp K m)) j))))) 66 c = nI (st K (m_cd K (mp K m)) (j + 1)) := js _ _ _ _
  have m55s : (jj_set x 55 c (nI (st K (m_cd K (mp K m)) j + z_len (K (m_cd K (mp K m) + st K (m_cd K (mp K m)) j))))) 55 c = nI (st K (m_cd K (mp K m)) (j + 1)) := js _ _ _ _
  generalize hxs : jj_set x 55 c (nI (st K (m_cd K (mp K m)) j + z_len (K (m_cd K (mp K m) + st K (m_cd K (mp K m)) j)))) = xs at Sx Sx1 m55s
  generalize hys : jj_set y2 66 c (nI (st K (m_cd K (mp K m)) j + z_len (K (m_cd K (mp K m) + st K (m_cd K (mp K m)) j)))) = ys at Sy Sy1 m66s
  have hRs : FR mk c xs ys pk pv pw sk sv sw h := hR2.same Sx1 Sy1 (fun i k z => by omega) (fun i k z => by omega)
  have RRs : RR K n P c mk xs ys := RR0.frame hP hk4 Sx Sy ⟨m, N, j + 1, hm, hM, by omega, by rw [Sx1.get _ _ (by omega)]; exact p1, by rw [Sy1.get _ _ (by omega), o2.get _ _ (by omega)]; exact p2, m55s, m66s⟩ ⟨pk, pv, pw, sk, sv, sw, h, hRs⟩
  have s5 := RRs.2.2.2.2.1
  have hKs := RRs.2.2.2.1
  have hFs := RRs.2.2.1
  have q5s : xs (P + 3 + 2 * m) 5 = nI (m_cd K (mp K m)) := by rw [Sx1.get _ _ (by omega)]; exact q5
  have m13s : ys 58 13 = nI (m_cd K (mp K m)) := by rw [Sy1.get _ _ (by omega)]; exact m13
  have n184r : z_ret 184 = false := rfl
  by_cases cR : z_ret (K (m_cd K (mp K m) + st K (m_cd K (mp K m)) j)) = true
  · have hR3 : FR mk c x ys pk pv pw sk sv sw h := hR2.same (W := fun _ _ => False) (fun _ _ _ => rfl) Sy1 (fun i k _ z => z) (fun i k z => by omega)
    obtain ⟨v, x', y', g1, g2, g3⟩ := two_leave hP hk4 RR0 Sy hR3 hm p2 cA cR
    have n184 : K (m_cd K (mp K m) + st K (m_cd K (mp K m)) j) ≠ 184 := fun e => by rw [e, n184r] at cR; cases cR
    refine ⟨v, x', y', ?_, ?_, g3⟩
    · unfold f_Ma_doOne
      simp (disch := omega) only [nA, nS, nM, nLT, nLF, nTT, nTF, nEF, nET, nBT, nBF, nC, nNG, nNL, jj_b1, jj_b2, js, jn, eq_self, if_true, if_false, ite_true, ite_false, ↓reduceIte, and_self, true_and, and_true, zb0, zb1, bM, bR, bCk, bMa, Bool.false_eq_true, Bool.and_self, Bool.and_true, Bool.true_and, li_0, li_1, li_2, li_3, li_4, li_5, li_6, li_7, li_8, li_16, li_18, li_21, li_25, li_46, li_54, li_58, li_60, li_79, li_87, li_89, li_95, li_96, li_100, li_104, li_108, li_116, li_127, li_128, li_132, li_153, li_158, li_159, li_164, li_167, li_172, li_176, li_177, li_184, li_188, li_190, li_198, li_199, li_200, li_202, li_240, li_255, li_256, li_32767, li_32768, li_65536, r5, p1, p3, q6, e1, e3, t1, ret1, cR, z_b, g1]
    · unfold f_Mo_step
      simp (disch := omega) only [nA, nS, nM, nLT, nLF, nTT, nTF, nEF, nET, nBT, nBF, nC, nNG, nNL, jj_b1, jj_b2, js, jn, eq_self, if_true, if_false, ite_true, ite_false, ↓reduceIte, and_self, true_and, and_true, zb0, zb1, bM, bR, bCk, bMa, Bool.false_eq_true, Bool.and_self, Bool.and_true, Bool.true_and, li_0, li_1, li_2, li_3, li_4, li_5, li_6, li_7, li_8, li_16, li_18, li_21, li_25, li_46, li_54, li_58, li_60, li_79, li_87, li_89, li_95, li_96, li_100, li_104, li_108, li_116, li_127, li_128, li_132, li_153, li_158, li_159, li_164, li_167, li_172, li_176, li_177, li_184, li_188, li_190, li_198, li_199, li_200, li_202, li_240, li_255, li_256, li_32767, li_32768, li_65536, r6', p2, o1, m12, m66, e2, m13, e4, m65, t2, l2, hys, ret2, cR, z_b, g2]
  by_cases c184 : K (m_cd K (mp K m) + st K (m_cd K (mp K m)) j) = 184
  · have zl : z_len (K (m_cd K (mp K m) + st K (m_cd K (mp K m)) j)) = 2 := by rw [c184]; rfl
    obtain ⟨k1, N2, k2⟩ := cal_ok hOK hI c184
    have op := pr_operand h240 hFs q5s (o := st K (m_cd K (mp K m)) j) (by omega)
    have e5 := hKs (m_cd K (mp K m) + st K (m_cd K (mp K m)) j + 1) (by omega)
    have e6 := hK2 (m_cd K (mp K m) + st K (m_cd K (mp K m)) j + 1) (by omega)
    have tl : (tkI K (m_cd K (mp K m) + st K (m_cd K (mp K m)) j)).length = K (mp K (K (m_cd K (mp K m) + st K (m_cd K (mp K m)) j + 1))) := by
      unfold tkI
      rw [if_pos c184]
      exact mrl
    have pl : ptI K (m_cd K (mp K m) + st K (m_cd K (mp K m)) j) = if m_rt K (mp K (K (m_cd K (mp K m) + st K (m_cd K (mp K m)) j + 1))) = 0 then 0 else 1 := by
      unfold ptI
      rw [if_pos c184]
      rfl
    have a0 := cA.1
    have a5 := cA.2.2.2.2
    rw [tl] at a0 a5
    rw [pl] at a5
    obtain ⟨x', y', g1, g2, g3, g4, g5, g6, g7⟩ := two_call hP hF hOK RRs (hS.2.2.2.1 c184) hRs k1 k2 a0 (fun w => by rw [if_neg w] at a5; omega)
    refine ⟨-nI 1, x', y', ?_, ?_, (Sx.mono (fun i k z => by omega)).trans g3, (Sy.mono (fun i k z => by omega)).trans g4, fun e => by rw [g5, g6, Sx.get _ _ (by omega), Sy.get _ _ (by omega)]; exact e, Or.inl ⟨rfl, _, _, g7⟩⟩
    · rw [c184] at e3 t1 ret1 l1 hxs
      unfold f_Ma_doOne
      simp (disch := omega) only [nA, nS, nM, nLT, nLF, nTT, nTF, nEF, nET, nBT, nBF, nC, nNG, nNL, jj_b1, jj_b2, js, jn, eq_self, if_true, if_false, ite_true, ite_false, ↓reduceIte, and_self, true_and, and_true, zb0, zb1, bM, bR, bCk, bMa, Bool.false_eq_true, Bool.and_self, Bool.and_true, Bool.true_and, li_0, li_1, li_2, li_3, li_4, li_5, li_6, li_7, li_8, li_16, li_18, li_21, li_25, li_46, li_54, li_58, li_60, li_79, li_87, li_89, li_95, li_96, li_100, li_104, li_108, li_116, li_127, li_128, li_132, li_153, li_158, li_159, li_164, li_167, li_172, li_176, li_177, li_184, li_188, li_190, li_198, li_199, li_200, li_202, li_240, li_255, li_256, li_32767, li_32768, li_65536, r5, p1, p3, q6, e1, e3, t1, ret1, n184r, z_b, l1, hxs, op, g1]
    · rw [c184] at e4 t2 l2 hys
      unfold f_Mo_step
      simp (disch := omega) only [nA, nS, nM, nLT, nLF, nTT, nTF, nEF, nET, nBT, nBF, nC, nNG, nNL, jj_b1, jj_b2, js, jn, eq_self, if_true, if_false, ite_true, ite_false, ↓reduceIte, and_self, true_and, and_true, zb0, zb1, bM, bR, bCk, bMa, Bool.false_eq_true, Bool.and_self, Bool.and_true, Bool.true_and, li_0, li_1, li_2, li_3, li_4, li_5, li_6, li_7, li_8, li_16, li_18, li_21, li_25, li_46, li_54, li_58, li_60, li_79, li_87, li_89, li_95, li_96, li_100, li_104, li_108, li_116, li_127, li_128, li_132, li_153, li_158, li_159, li_164, li_167, li_172, li_176, li_177, li_184, li_188, li_190, li_198, li_199, li_200, li_202, li_240, li_255, li_256, li_32767, li_32768, li_65536, r6', p2, o1, m12, m66, e2, m13, e4, m65, t2, l2, hys, m13s, e5, e6, g2]
  have jm1 := zt_hasTarget _ hb hI.1
  have jm2 := zm_jumps _ hb hI.1
  by_cases cJ : z_jmp (K (m_cd K (mp K m) + st K (m_cd K (mp K m)) j)) = true
  · have zl := z_j3 _ hb cJ
    obtain ⟨g, x1, g1, g2, g3, g4, g5⟩ := two_goes r1 hRs cA hb cJ
    have f5 : x1 32 5 = nI c := by rw [g4.get _ _ (by omega)]; exact s5
    have a0 := cA.1
    have m65s := hRs.2.1.1
    have D : ∀ (jj : Nat), jj ≤ N → OUT K n P (-nI 1) x y (jj_set x1 55 c (nI (st K (m_cd K (mp K m)) jj))) (jj_set (jj_set ys 66 c (nI (st K (m_cd K (mp K m)) jj))) 65 c (nI (h - (tkI K (m_cd K (mp K m) + st K (m_cd K (mp K m)) j)).length))) := by
      intro jj hjj
      have B : Same (WY0 c) ys (jj_set ys 66 c (nI (st K (m_cd K (mp K m)) jj))) := (Same.refl ys).set _ (by omega)
      have kb1 := hRs.2.1.same (W := fun i k => i = 66) ((Same.refl ys).set (i := 66) (k := c) (nI (st K (m_cd K (mp K m)) jj)) rfl) h6 (by omega) (fun i k _ _ _ _ => by omega)
      obtain ⟨d1, d2⟩ := bp_drop r1 kb1 a0
      have kv1 := g5.same (W := fun i k => i = 55) ((Same.refl x1).set (i := 55) (k := c) (nI (st K (m_cd K (mp K m)) jj)) rfl) (by omega) (fun i k _ _ => by omega)
      have SX : Same (WX0 c) xs (jj_set x1 55 c (nI (st K (m_cd K (mp K m)) jj))) := (g4.mono (fun i k z => Or.inr z)).set _ (by omega)
      have SY : Same (WY0 c) ys (jj_set (jj_set ys 66 c (nI (st K (m_cd K (mp K m)) jj))) 65 c (nI (h - (tkI K (m_cd K (mp K m) + st K (m_cd K (mp K m)) j)).length))) := B.set _ (by omega)
      have hpc : PC mk pk pv pw sk sv sw h := hRs.2.2
      refine ⟨(Sx.trans SX).mono (fun i k z => by omega), (Sy.trans SY).mono (fun i k z => by omega), fun e => ?_, Or.inl ⟨rfl, c, mk, RRs.frame hP hk4 SX SY ⟨m, N, jj, hm, hM, hjj, ?_, ?_, js _ _ _ _, ?_⟩ (FE_of kv1 d2 (hpc.drop (by omega)))⟩⟩
      · rw [SX.get _ _ (by omega), Sx.get _ _ (by omega), SY.get _ _ (by omega), Sy.get _ _ (by omega)]; exact e
      · rw [SX.get _ _ (by omega), Sx.get _ _ (by omega)]; exact p1
      · rw [SY.get _ _ (by omega), Sy.get _ _ (by omega)]; exact p2
      · rw [jn (by omega), js]
    have TK : ∀ v : Int32, f_Mo_takes 58 (nI (st K (m_cd K (mp K m)) j)) (jj_set ys 66 c v) = some (nI (tkI K (m_cd K (mp K m) + st K (m_cd K (mp K m)) j)).length, jj_set ys 66 c v) := fun v => mo_takes hF hOK (fun k hk => by rw [jn (by omega)]; exact hKs k hk) (by rw [jn (by omega)]; exact m13s) hI
    have n184' := c184
    by_cases cg : g = 0
    · rw [cg] at g1 g2
      have D0 := D (j + 1) (by omega)
      rw [jj_set_id (show x1 55 c = nI (st K (m_cd K (mp K m)) (j + 1)) by rw [g4.get _ _ (by omega)]; exact m55s)] at D0
      have TK0 := TK (nI (st K (m_cd K (mp K m)) (j + 1)))
      refine ⟨-nI 1, _, _, ?_, ?_, D0⟩
      · unfold f_Ma_doOne
        simp (disch := omega) only [nA, nS, nM, nLT, nLF, nTT, nTF, nEF, nET, nBT, nBF, nC, nNG, nNL, jj_b1, jj_b2, js, jn, eq_self, if_true, if_false, ite_true, ite_false, ↓reduceIte, and_self, true_and, and_true, zb0, zb1, bM, bR, bCk, bMa, Bool.false_eq_true, Bool.and_self, Bool.and_true, Bool.true_and, li_0, li_1, li_2, li_3, li_4, li_5, li_6, li_7, li_8, li_16, li_18, li_21, li_25, li_46, li_54, li_58, li_60, li_79, li_87, li_89, li_95, li_96, li_100, li_104, li_108, li_116, li_127, li_128, li_132, li_153, li_158, li_159, li_164, li_167, li_172, li_176, li_177, li_184, li_188, li_190, li_198, li_199, li_200, li_202, li_240, li_255, li_256, li_32767, li_32768, li_65536, r5, p1, p3, q6, e1, e3, t1, ret1, cR, z_b, l1, hxs, jm1, cJ, g1]
      · unfold f_Mo_step
        simp (disch := omega) only [nA, nS, nM, nLT, nLF, nTT, nTF, nEF, nET, nBT, nBF, nC, nNG, nNL, jj_b1, jj_b2, js, jn, eq_self, if_true, if_false, ite_true, ite_false, ↓reduceIte, and_self, true_and, and_true, zb0, zb1, bM, bR, bCk, bMa, Bool.false_eq_true, Bool.and_self, Bool.and_true, Bool.true_and, li_0, li_1, li_2, li_3, li_4, li_5, li_6, li_7, li_8, li_16, li_18, li_21, li_25, li_46, li_54, li_58, li_60, li_79, li_87, li_89, li_95, li_96, li_100, li_104, li_108, li_116, li_127, li_128, li_132, li_153, li_158, li_159, li_164, li_167, li_172, li_176, li_177, li_184, li_188, li_190, li_198, li_199, li_200, li_202, li_240, li_255, li_256, li_32767, li_32768, li_65536, r6', p2, o1, m12, m66, e2, m13, e4, m65, t2, l2, hys, ret2, cR, z_b, jm2, cJ, g2, m66s, k_Mo_step_179, TK0, m65s]
    · rw [show g = 1 by omega] at g1 g2
      have pt := pr_target (S := P) (q := P + 3 + 2 * m) (x := x1) (o := st K (m_cd K (mp K m)) j) hF (by rw [g4.get _ _ (by omega)]; exact q5s) (fun k hk => by rw [g4.get _ _ (by omega)]; exact hFs.2.2.2.2.1 k hk) (by omega)
      have mt := mo_target hF hKs m13s (o := st K (m_cd K (mp K m)) j) (by omega)
      obtain ⟨jj, j1, j2⟩ := hM.2.2.1 j hjN cJ
      rw [← j2] at pt mt
      have D1 := D jj (by omega)
      have TK1 := TK (nI (st K (m_cd K (mp K m)) jj))
      refine ⟨-nI 1, _, _, ?_, ?_, D1⟩
      · unfold f_Ma_doOne
        simp (disch := omega) only [nA, nS, nM, nLT, nLF, nTT, nTF, nEF, nET, nBT, nBF, nC, nNG, nNL, jj_b1, jj_b2, js, jn, eq_self, if_true, if_false, ite_true, ite_false, ↓reduceIte, and_self, true_and, and_true, zb0, zb1, bM, bR, bCk, bMa, Bool.false_eq_true, Bool.and_self, Bool.and_true, Bool.true_and, li_0, li_1, li_2, li_3, li_4, li_5, li_6, li_7, li_8, li_16, li_18, li_21, li_25, li_46, li_54, li_58, li_60, li_79, li_87, li_89, li_95, li_96, li_100, li_104, li_108, li_116, li_127, li_128, li_132, li_153, li_158, li_159, li_164, li_167, li_172, li_176, li_177, li_184, li_188, li_190, li_198, li_199, li_200, li_202, li_240, li_255, li_256, li_32767, li_32768, li_65536, r5, p1, p3, q6, e1, e3, t1, ret1, cR, z_b, l1, hxs, jm1, cJ, g1, pt, f5]
      · unfold f_Mo_step
        simp (disch := omega) only [nA, nS, nM, nLT, nLF, nTT, nTF, nEF, nET, nBT, nBF, nC, nNG, nNL, jj_b1, jj_b2, js, jn, eq_self, if_true, if_false, ite_true, ite_false, ↓reduceIte, and_self, true_and, and_true, zb0, zb1, bM, bR, bCk, bMa, Bool.false_eq_true, Bool.and_self, Bool.and_true, Bool.true_and, li_0, li_1, li_2, li_3, li_4, li_5, li_6, li_7, li_8, li_16, li_18, li_21, li_25, li_46, li_54, li_58, li_60, li_79, li_87, li_89, li_95, li_96, li_100, li_104, li_108, li_116, li_127, li_128, li_132, li_153, li_158, li_159, li_164, li_167, li_172, li_176, li_177, li_184, li_188, li_190, li_198, li_199, li_200, li_202, li_240, li_255, li_256, li_32767, li_32768, li_65536, r6', p2, o1, m12, m66, e2, m13, e4, m65, t2, l2, hys, ret2, cR, z_b, jm2, cJ, g2, mt, k_Mo_step_179, TK1, m65s]
  · have HS : HW K n P (P + 3 + 2 * m) (m_cd K (mp K m)) (st K (m_cd K (mp K m)) j) (m_pl K (mp K m)) (m_dp K (mp K m)) (m_rt K (mp K m)) c mk xs ys pk pv pw sk sv sw h := ⟨r1, r2, hF, hOK, hFs, hKs, q5s, m13s, hI, hpl, hdp, hRs, cA, hS.same Sx1 Sy1 (fun k => by omega) (fun k => by omega), RRs.2.2.2.2.2.2.1, RRs.2.2.2.2.2.2.2.1, RRs.2.2.2.2.2.2.2.2.2.2.2⟩
    have cR' : z_ret (K (m_cd K (mp K m) + st K (m_cd K (mp K m)) j)) = false := by
      cases e : z_ret (K (m_cd K (mp K m) + st K (m_cd K (mp K m)) j)) with
      | true => exact absurd e cR
      | false => rfl
    have cJ' : z_jmp (K (m_cd K (mp K m) + st K (m_cd K (mp K m)) j)) = false := by
      cases e : z_jmp (K (m_cd K (mp K m) + st K (m_cd K (mp K m)) j)) with
      | true => exact absurd e cJ
      | false => rfl
    by_cases cl1 : z_len (K (m_cd K (mp K m) + st K (m_cd K (mp K m)) j)) = 1
    · have W : ∃ x' y', f_Ma_doAlone 32 (34 + 5 * c) (nI (K (m_cd K (mp K m) + st K (m_cd K (mp K m)) j))) xs = some x' ∧ f_Mo_work 58 (nI c) (nI (st K (m_cd K (mp K m)) j)) (nI (K (m_cd K (mp K m) + st K (m_cd K (mp K m)) j))) (nI (6 * c + h) - nI 1) ys = some y' ∧ DW mk c xs ys x' y' := by
        rcases z_al hb cl1 cR' with w | w | w
        · exact two_alone1 HS w
        · exact two_alone2 HS w
        · exact two_alone3 HS w
      obtain ⟨x', y', g1, g2, g3⟩ := W
      refine ⟨-nI 1, x', y', ?_, ?_, DW_OUT hP hk4 RRs Sx Sy g3⟩
      · unfold f_Ma_doOne
        simp (disch := omega) only [nA, nS, nM, nLT, nLF, nTT, nTF, nEF, nET, nBT, nBF, nC, nNG, nNL, jj_b1, jj_b2, js, jn, eq_self, if_true, if_false, ite_true, ite_false, ↓reduceIte, and_self, true_and, and_true, zb0, zb1, bM, bR, bCk, bMa, Bool.false_eq_true, Bool.and_self, Bool.and_true, Bool.true_and, li_0, li_1, li_2, li_3, li_4, li_5, li_6, li_7, li_8, li_16, li_18, li_21, li_25, li_46, li_54, li_58, li_60, li_79, li_87, li_89, li_95, li_96, li_100, li_104, li_108, li_116, li_127, li_128, li_132, li_153, li_158, li_159, li_164, li_167, li_172, li_176, li_177, li_184, li_188, li_190, li_198, li_199, li_200, li_202, li_240, li_255, li_256, li_32767, li_32768, li_65536, r5, p1, p3, q6, e1, e3, t1, ret1, cR', z_b, l1, hxs, jm1, cJ', g1]
      · unfold f_Mo_step
        simp (disch := omega) only [nA, nS, nM, nLT, nLF, nTT, nTF, nEF, nET, nBT, nBF, nC, nNG, nNL, jj_b1, jj_b2, js, jn, eq_self, if_true, if_false, ite_true, ite_false, ↓reduceIte, and_self, true_and, and_true, zb0, zb1, bM, bR, bCk, bMa, Bool.false_eq_true, Bool.and_self, Bool.and_true, Bool.true_and, li_0, li_1, li_2, li_3, li_4, li_5, li_6, li_7, li_8, li_16, li_18, li_21, li_25, li_46, li_54, li_58, li_60, li_79, li_87, li_89, li_95, li_96, li_100, li_104, li_108, li_116, li_127, li_128, li_132, li_153, li_158, li_159, li_164, li_167, li_172, li_176, li_177, li_184, li_188, li_190, li_198, li_199, li_200, li_202, li_240, li_255, li_256, li_32767, li_32768, li_65536, r6', p2, o1, m12, m66, e2, m13, e4, m65, t2, l2, hys, ret2, cR', z_b, jm2, cJ', g2]
    · have zl : 2 ≤ z_len (K (m_cd K (mp K m) + st K (m_cd K (mp K m)) j)) := by have := hI.1; omega
      obtain ⟨x', y', g1, g2, g3⟩ := two_operand HS (z_op hb zl cJ' c184)
      refine ⟨-nI 1, x', y', ?_, ?_, DW_OUT hP hk4 RRs Sx Sy g3⟩
      · unfold f_Ma_doOne
        simp (disch := omega) only [nA, nS, nM, nLT, nLF, nTT, nTF, nEF, nET, nBT, nBF, nC, nNG, nNL, jj_b1, jj_b2, js, jn, eq_self, if_true, if_false, ite_true, ite_false, ↓reduceIte, and_self, true_and, and_true, zb0, zb1, bM, bR, bCk, bMa, Bool.false_eq_true, Bool.and_self, Bool.and_true, Bool.true_and, li_0, li_1, li_2, li_3, li_4, li_5, li_6, li_7, li_8, li_16, li_18, li_21, li_25, li_46, li_54, li_58, li_60, li_79, li_87, li_89, li_95, li_96, li_100, li_104, li_108, li_116, li_127, li_128, li_132, li_153, li_158, li_159, li_164, li_167, li_172, li_176, li_177, li_184, li_188, li_190, li_198, li_199, li_200, li_202, li_240, li_255, li_256, li_32767, li_32768, li_65536, r5, p1, p3, q6, e1, e3, t1, ret1, cR', z_b, l1, hxs, jm1, cJ', g1]
      · unfold f_Mo_step
        simp (disch := omega) only [nA, nS, nM, nLT, nLF, nTT, nTF, nEF, nET, nBT, nBF, nC, nNG, nNL, jj_b1, jj_b2, js, jn, eq_self, if_true, if_false, ite_true, ite_false, ↓reduceIte, and_self, true_and, and_true, zb0, zb1, bM, bR, bCk, bMa, Bool.false_eq_true, Bool.and_self, Bool.and_true, Bool.true_and, li_0, li_1, li_2, li_3, li_4, li_5, li_6, li_7, li_8, li_16, li_18, li_21, li_25, li_46, li_54, li_58, li_60, li_79, li_87, li_89, li_95, li_96, li_100, li_104, li_108, li_116, li_127, li_128, li_132, li_153, li_158, li_159, li_164, li_167, li_172, li_176, li_177, li_184, li_188, li_190, li_198, li_199, li_200, li_202, li_240, li_255, li_256, li_32767, li_32768, li_65536, r6', p2, o1, m12, m66, e2, m13, e4, m65, t2, l2, hys, ret2, cR', z_b, jm2, cJ', g2]
end STEP
