/-! PURE: checking a method, on both sides -/
theorem zp_congr {A B : Prop} (h : A ↔ B) : z_p A = z_p B := by rw [show A = B from propext h]
theorem nNZ : (-nI 1 < nI 0) = True := eq_true (by decide)
abbrev AS := (Nat → Nat) × (Nat → Nat) × Nat × Nat
noncomputable def enA (K : Nat → Nat) (b t : Nat) (A : AS) : AS := @dite AS (∃ i, i < m_fc K b ∧ K (m_fr K b i) = t) (Classical.propDecidable _) (fun h => (fp K b (Classical.choose h), fs K b (Classical.choose h), fh K b (Classical.choose h), 1)) (fun _ => A)
def nxA (K : Nat → Nat) (p : Nat) (A : AS) : AS := (ps_pk K p A.1 A.2.1 A.2.2.1, ps_sk K p A.1 A.2.1 A.2.2.1, ps_h K p A.2.2.1, FL K p)
/-- the state at instruction j, out of what lies before it -/
noncomputable def trA (K : Nat → Nat) (b : Nat) : Nat → AS
  | 0 => (ip K b, fun _ => 0, 0, 1)
  | j + 1 => nxA K (m_cd K b + st K (m_cd K b) j) (enA K b (st K (m_cd K b) j) (trA K b j))
noncomputable def enT (K : Nat → Nat) (b j : Nat) : AS := enA K b (st K (m_cd K b) j) (trA K b j)
def GFA (K : Nat → Nat) (b i : Nat) (A : AS) : Prop := GF K b i A.1 A.2.1 A.2.2.1
def ALA (K : Nat → Nat) (b p : Nat) (A : AS) : Prop := AL K p (m_dp K b) (m_rt K b) A.1 A.2.1 A.2.2.1
def EN (K : Nat → Nat) (b j : Nat) : Prop := ∀ i, i < m_fc K b → K (m_fr K b i) = st K (m_cd K b) j → (trA K b j).2.2.2 = 1 → GFA K b i (trA K b j)
def JM (K : Nat → Nat) (b p o : Nat) (A : AS) : Prop := z_jmp (K p) = true → ∃ i, i < m_fc K b ∧ nI (K (m_fr K b i)) = tgt K p o ∧ GFA K b i A
def PA2 (K : Nat → Nat) (b j : Nat) : Prop := (enT K b j).2.2.2 = 1 ∧ ALA K b (m_cd K b + st K (m_cd K b) j) (enT K b j) ∧ JM K b (m_cd K b + st K (m_cd K b) j) (st K (m_cd K b) j) (trA K b (j + 1))
def PASS (K : Nat → Nat) (b j : Nat) : Prop := EN K b j ∧ PA2 K b j
def GA (K : Nat → Nat) (b : Nat) (A : AS) : Prop := KS A.1 A.2.1 A.2.2.1 ∧ (∀ k, m_pl K b ≤ k → A.1 k = 0) ∧ A.2.2.2 ≤ 1
def KBA (y : jj_Mem) (A : AS) : Prop := KB 0 y A.1 A.2.1 A.2.2.1 ∧ y 58 22 = nI A.2.2.2
def KAA (x : jj_Mem) (A : AS) : Prop := KA 27 x A.1 A.2.1 A.2.2.1 ∧ x 26 1 = nI A.2.2.2
/-- the answer -/
def RES (K : Nat → Nat) (b N : Nat) (v : Int32) : Prop := (∃ j, j < N ∧ (∀ i, i < j → PASS K b i) ∧ ¬ PASS K b j ∧ v = nI (st K (m_cd K b) j)) ∨ ((∀ i, i < N → PASS K b i) ∧ v = if (trA K b N).2.2.2 = 0 then -nI 1 else nI (m_ln K b))
theorem RES.uni {K : Nat → Nat} {b N : Nat} {v w : Int32} (h : RES K b N v) (g : RES K b N w) : v = w := by
  rcases h with ⟨j, h1, h2, h3, h4⟩ | ⟨h1, h2⟩
  · rcases g with ⟨i, g1, g2, g3, g4⟩ | ⟨g1, g2⟩
    · rcases Nat.lt_trichotomy i j with w | w | w
      · exact absurd (h2 i w) g3
      · rw [h4, g4, w]
      · exact absurd (g2 j w) h3
    · exact absurd (g1 j h1) h3
  · rcases g with ⟨i, g1, g2, g3, g4⟩ | ⟨g1, g2⟩
    · exact absurd (h1 i g1) g3
    · rw [h2, g2]
section CHECK
variable {K : Nat → Nat} {n b N P q i j J : Nat} {x y : jj_Mem} {A : AS}
theorem enA_at (hM : MtOK K n (K 1) (mcn K) b N) {t : Nat} (hi : i < m_fc K b) (ht : K (m_fr K b i) = t) : enA K b t A = (fp K b i, fs K b i, fh K b i, 1) := by
  have h : ∃ i, i < m_fc K b ∧ K (m_fr K b i) = t := ⟨i, hi, ht⟩
  have e : enA K b t A = (fp K b (Classical.choose h), fs K b (Classical.choose h), fh K b (Classical.choose h), 1) := dif_pos h
  have c := Classical.choose_spec h
  have e2 : Classical.choose h = i := by
    rcases Nat.lt_trichotomy (Classical.choose h) i with w | w | w
    · have := fr_lt2 hM w hi; omega
    · exact w
    · have := fr_lt2 hM w c.1; omega
  rw [e, e2]
theorem enA_no {t : Nat} (h : ¬ ∃ i, i < m_fc K b ∧ K (m_fr K b i) = t) : enA K b t A = A := dif_neg h
theorem GA_fr (hM : MtOK K n (K 1) (mcn K) b N) (hi : i < m_fc K b) : GA K b (fp K b i, fs K b i, fh K b i, 1) := by
  have a := fr_ok hM hi
  have hdp := hM.1.2.2.2.1
  have h3 := a.2.2.1
  have e : fh K b i = K (m_fr K b i + 1 + m_pl K b) := rfl
  refine ⟨⟨show fh K b i ≤ 6 by omega, fun k => ?_, fun k => ?_⟩, fun k hk => ?_, Nat.le_refl 1⟩
  · show fp K b i k ≤ 3
    unfold fp
    split
    · rename_i w; exact a.2.1 k w
    · omega
  · show fs K b i k ≤ 3
    unfold fs
    split
    · rename_i w; exact (a.2.2.2.1 k w).2
    · omega
  · show fp K b i k = 0
    unfold fp
    rw [if_neg (by omega)]
theorem GA_en (hM : MtOK K n (K 1) (mcn K) b N) {t : Nat} (g : GA K b A) : GA K b (enA K b t A) := by
  by_cases h : ∃ i, i < m_fc K b ∧ K (m_fr K b i) = t
  · obtain ⟨i, h1, h2⟩ := h
    rw [enA_at hM h1 h2]
    exact GA_fr hM h1
  · rw [enA_no h]; exact g
theorem FL_le (K : Nat → Nat) (p : Nat) : FL K p ≤ 1 := by
  unfold FL
  split <;> omega
theorem GA_nx (hF : By K n) (hOK : FileOK K n) (hM : MtOK K n (K 1) (mcn K) b N) {p : Nat} (hI : IA K n (m_pl K b) p) (hA : ALA K b p A) (g : GA K b A) : GA K b (nxA K p A) := by
  have hdp := hM.1.2.2.2.1
  have hi2 := hI.2.1
  have hb := hF.2 p (by omega)
  refine ⟨ps_KS hF hOK hI hdp hA g.1, fun k hk => ?_, FL_le K p⟩
  show ps_pk K p A.1 A.2.1 A.2.2.1 k = 0
  unfold ps_pk
  split
  · rename_i w
    have c1 : z_nam (K p) = true := by rcases w with w | w <;> rw [w] <;> rfl
    have b1 := (hI.2.2 (z_nl _ hb c1)).1 c1
    rw [ud_n (by omega)]
    exact g.2.1 k hk
  · exact g.2.1 k hk
theorem GA_tr (hF : By K n) (hOK : FileOK K n) (hM : MtOK K n (K 1) (mcn K) b N) : ∀ j, j ≤ N → (∀ i, i < j → PASS K b i) → GA K b (trA K b j)
  | 0, _, _ => by
    have h3 := hM.1.1
    have h5 := hM.1.2.2.2.2.1
    refine ⟨⟨Nat.zero_le 6, fun k => ?_, fun k => Nat.zero_le 3⟩, fun k hk => ?_, Nat.le_refl 1⟩
    · show ip K b k ≤ 3
      unfold ip
      split
      · rename_i w
        have := (hM.1.2.1 k w).2
        omega
      · omega
    · show ip K b k = 0
      unfold ip
      rw [if_neg (by omega)]
  | j + 1, hj, hp => GA_nx hF hOK hM (IA_of hM (by omega)) (hp j (by omega)).2.2.1 (GA_en hM (GA_tr hF hOK hM j (by omega) (fun i hi => hp i (by omega))))
theorem st_lt60 (hM : MtOK K n (K 1) (mcn K) b N) (hj : j ≤ N) : st K (m_cd K b) j ≤ m_ln K b ∧ m_ln K b ≤ 60 := by
  have hC := hM.2.1
  have := (st_le_iff hC hj (Nat.le_refl N)).2 hj
  rw [hC.2.1] at this
  exact ⟨this, hM.1.2.2.2.2.2.2.2.1⟩
theorem st_ltJ (hM : MtOK K n (K 1) (mcn K) b N) (hj : j < J) (hJ : J ≤ N) : st K (m_cd K b) j < st K (m_cd K b) J := by
  have hC := hM.2.1
  have h := st_mono hC (J - j) j (by omega)
  rw [show j + (J - j) = J by omega] at h
  omega
theorem mo_35 (hF : By K n) (hOK : FileOK K n) (hM : MtOK K n (K 1) (mcn K) b N) (hJ : J ≤ N) (hp : ∀ i, i < J → PASS K b i) : ∀ (r j f : Nat) (y : jj_Mem) (A : AS), j + r = J → r < f → KP K n y → MO K b y → (j < J → A = enT K b j) → (j = J → A = trA K b j) → (∀ l, j < l → l < J → ¬ ∃ i, i < m_fc K b ∧ K (m_fr K b i) = st K (m_cd K b) l) → KBA y A → ∃ y', g_Mo_arrive f 35 [some (.ref 58), some (.int (nI (st K (m_cd K b) J))), none, some (.int (nI (st K (m_cd K b) j)))] y = some y' ∧ Same WP0 y y' ∧ KBA y' (trA K b J) := by
  have h240 := hF.1
  have h60 := st_lt60 hM hJ
  have hpl := hM.1.2.2.2.2.2.1
  have hdp := hM.1.2.2.2.1
  intro r
  induction r with
  | zero =>
    intro j f y A hj hf hK hO hA hA2 hn hB
    obtain ⟨f, rfl⟩ : ∃ g, f = g + 1 := ⟨f - 1, by omega⟩
    have e : j = J := by omega
    refine ⟨y, ?_, Same.refl y, ?_⟩
    · rw [e]
      simp (disch := omega) only [nA, nS, nM, nLT, nLF, nTT, nTF, nEF, nET, nBT, nBF, nC, nNG, nNL, jj_b1, jj_b2, js, jn, eq_self, if_true, if_false, ite_true, ite_false, ↓reduceIte, and_self, true_and, and_true, zb0, zb1, bM, bR, bCk, bMa, Bool.false_eq_true, Bool.and_self, Bool.and_true, Bool.true_and, li_0, li_1, li_2, li_3, li_4, li_5, li_6, li_7, li_8, li_16, li_18, li_21, li_25, li_46, li_54, li_58, li_60, li_79, li_87, li_89, li_95, li_96, li_100, li_104, li_108, li_116, li_127, li_128, li_132, li_153, li_158, li_159, li_164, li_167, li_172, li_176, li_177, li_184, li_188, li_190, li_198, li_199, li_200, li_202, li_240, li_255, li_256, li_32767, li_32768, li_65536, g_Mo_arrive, k_Mo_arrive_35]
    · rw [← e, ← hA2 e]; exact hB
  | succ r ih =>
    intro j f y A hj hf hK hO hA hA2 hn hB
    obtain ⟨f, rfl⟩ : ∃ g, f = g + 1 := ⟨f - 1, by omega⟩
    have hjJ : j < J := by omega
    have hlt := st_ltJ hM hjJ hJ
    have eA := hA hjJ
    have hPj := hp j hjJ
    have hG : GA K b A := by rw [eA]; exact GA_en hM (GA_tr hF hOK hM j (by omega) (fun i hi => hp i (by omega)))
    have hI := IA_of hM (j := j) (by omega)
    have hi2 := hI.2.1
    have hL := hPj.2.2.1
    rw [← eA] at hL
    obtain ⟨y1, a1, a2, a3, a4⟩ := mo_pass hF hOK hK hO.2.2.2.2.2 hI hpl hdp hB.1 hG.1 hL
    have hK1 := hK.same a2 (fun k => by omega)
    have hO1 := hO.same a2 (fun k _ _ => by omega)
    have e13 := hO1.2.2.2.2.2
    have eT : nxA K (m_cd K b + st K (m_cd K b) j) A = trA K b (j + 1) := by rw [eA]; rfl
    obtain ⟨y', d1, d2, d3⟩ := ih (j + 1) f y1 (trA K b (j + 1)) (by omega) (by omega) hK1 hO1 (fun w => (enA_no (hn (j + 1) (by omega) w)).symm) (fun _ => rfl) (fun l h1 h2 => hn l (by omega) h2) (by rw [← eT]; exact ⟨a3, a4⟩)
    refine ⟨y', ?_, a2.trans d2, d3⟩
    rw [st_succ] at d1
    have e2 := hK1 (m_cd K b + st K (m_cd K b) j) (by omega)
    have e3 := zm_bytes _ (hF.2 (m_cd K b + st K (m_cd K b) j) (by omega))
    rw [show g_Mo_arrive (f + 1) 35 [some (.ref 58), some (.int (nI (st K (m_cd K b) J))), none, some (.int (nI (st K (m_cd K b) j)))] y = k_Mo_arrive_35 (g_Mo_arrive f) 58 (nI (st K (m_cd K b) J)) (nI (st K (m_cd K b) j)) y from rfl]
    simp (disch := omega) only [nA, nS, nM, nLT, nLF, nTT, nTF, nEF, nET, nBT, nBF, nC, nNG, nNL, jj_b1, jj_b2, js, jn, eq_self, if_true, if_false, ite_true, ite_false, ↓reduceIte, and_self, true_and, and_true, zb0, zb1, bM, bR, bCk, bMa, Bool.false_eq_true, Bool.and_self, Bool.and_true, Bool.true_and, li_0, li_1, li_2, li_3, li_4, li_5, li_6, li_7, li_8, li_16, li_18, li_21, li_25, li_46, li_54, li_58, li_60, li_79, li_87, li_89, li_95, li_96, li_100, li_104, li_108, li_116, li_127, li_128, li_132, li_153, li_158, li_159, li_164, li_167, li_172, li_176, li_177, li_184, li_188, li_190, li_198, li_199, li_200, li_202, li_240, li_255, li_256, li_32767, li_32768, li_65536, k_Mo_arrive_35, a1, e13, e2, e3, d1]
theorem last_of (f : Nat → Nat) (o : Nat) : ∀ m, (∀ i, i < m → o ≤ f i) ∨ ∃ i, i < m ∧ f i < o ∧ ∀ j, i < j → j < m → o ≤ f j
  | 0 => Or.inl (fun i h => by omega)
  | m + 1 => by
    by_cases c : f m < o
    · exact Or.inr ⟨m, by omega, c, fun j h1 h2 => by omega⟩
    · rcases last_of f o m with h | ⟨i, h1, h2, h3⟩
      · refine Or.inl (fun i hi => ?_)
        by_cases e : i = m
        · rw [e]; omega
        · exact h i (by omega)
      · refine Or.inr ⟨i, by omega, h2, fun j h4 h5 => ?_⟩
        by_cases e : j = m
        · rw [e]; omega
        · exact h3 j h4 (by omega)
theorem fr_at (hM : MtOK K n (K 1) (mcn K) b N) (hi : i < m_fc K b) : ∃ j, j < N ∧ st K (m_cd K b) j = K (m_fr K b i) := by
  obtain ⟨j, h1, h2⟩ := (hM.2.2.2.2.1 i hi).2.2
  have h3 := st_lt60 hM (j := j) (by omega)
  have h4 := (fr_ok hM hi).1
  exact ⟨j, h1, nInj (by omega) (by omega) h2⟩
theorem mo_arrive (hF : By K n) (hOK : FileOK K n) (hM : MtOK K n (K 1) (mcn K) b N) (hJ : J ≤ N) (hp : ∀ i, i < J → PASS K b i) (hK : KP K n y) (hO : MO K b y) : ∃ y', f_Mo_arrive 58 (nI (st K (m_cd K b) J)) y = some y' ∧ Same WP0 y y' ∧ KBA y' (trA K b J) := by
  have h240 := hF.1
  have h60 := st_lt60 hM hJ
  have hN : N ≤ 60 := by have := hM.2.1.1; omega
  obtain ⟨y1, a1, a2, a3⟩ := mo_begin (c := 0) (by omega) hF hM hK hO (fun _ => 0) (fun _ => 0)
  have A1 : Same WP0 y (jj_set y1 58 22 (nI 1)) := (a2.mono (fun i k z => by omega)).set _ (by omega)
  have B1 : KBA (jj_set y1 58 22 (nI 1)) (trA K b 0) := ⟨(a3.same (W := fun i k => i = 58) (Same.set (Same.refl y1) (i := 58) (k := 22) (nI 1) rfl) (by omega) (by omega) (fun i k _ _ _ _ => by omega)).kb, js _ _ _ _⟩
  have hK1 := hK.same A1 (fun k => by omega)
  have hO1 := hO.same A1 (fun k _ _ => by omega)
  have M := mo_frameBefore hF hM hK1 hO1 (o := st K (m_cd K b) J) (by omega)
  rcases last_of (fun i => K (m_fr K b i)) (st K (m_cd K b) J) (m_fc K b) with h | ⟨i, h1, h2, h3⟩
  · have m1 := M.1 h
    have no : ∀ l, l < J → ¬ ∃ i, i < m_fc K b ∧ K (m_fr K b i) = st K (m_cd K b) l := fun l hl => fun ⟨i, g1, g2⟩ => by
      have := h i g1
      have := st_ltJ hM hl hJ
      omega
    obtain ⟨y', d1, d2, d3⟩ := mo_35 hF hOK hM hJ hp J 0 1000 (jj_set y1 58 22 (nI 1)) (trA K b 0) (by omega) (by omega) hK1 hO1 (fun w => (enA_no (no 0 w)).symm) (fun _ => rfl) (fun l _ h2 => no l h2) B1
    refine ⟨y', ?_, A1.trans d2, d3⟩
    rw [show st K (m_cd K b) 0 = 0 from rfl] at d1
    unfold f_Mo_arrive k_Mo_arrive_0
    simp (disch := omega) only [nA, nS, nM, nLT, nLF, nTT, nTF, nEF, nET, nBT, nBF, nC, nNG, nNL, jj_b1, jj_b2, js, jn, eq_self, if_true, if_false, ite_true, ite_false, ↓reduceIte, and_self, true_and, and_true, zb0, zb1, bM, bR, bCk, bMa, Bool.false_eq_true, Bool.and_self, Bool.and_true, Bool.true_and, li_0, li_1, li_2, li_3, li_4, li_5, li_6, li_7, li_8, li_16, li_18, li_21, li_25, li_46, li_54, li_58, li_60, li_79, li_87, li_89, li_95, li_96, li_100, li_104, li_108, li_116, li_127, li_128, li_132, li_153, li_158, li_159, li_164, li_167, li_172, li_176, li_177, li_184, li_188, li_190, li_198, li_199, li_200, li_202, li_240, li_255, li_256, li_32767, li_32768, li_65536, a1, m1, nNZ, d1]
  · have m1 := M.2 i h1 h2 h3
    obtain ⟨j, g1, g2⟩ := fr_at hM h1
    have hjJ : j < J := by
      rcases Nat.lt_or_ge j J with w | w
      · exact w
      · have := (st_le_iff hM.2.1 hJ (by omega : j ≤ N)).2 w
        omega
    have fo := fr_ok hM h1
    have a5 := fo.2.2.2.2
    obtain ⟨y2, c1, c2, c3, c4⟩ := mo_become hF hM hK1 hO1 h1 B1.1 (fun k hk => (GA_tr hF hOK hM 0 (by omega) (fun i hi => by omega)).2.1 k hk)
    have hK2 := hK1.same c2 (fun k => by omega)
    have hO2 := hO1.same c2 (fun k _ _ => by omega)
    obtain ⟨y', d1, d2, d3⟩ := mo_35 hF hOK hM hJ hp (J - j) j 1000 y2 (enT K b j) (by omega) (by omega) hK2 hO2 (fun w => rfl) (fun w => by omega) (fun l l1 l2 => fun ⟨i', e1, e2⟩ => by
      have s1 := st_ltJ hM l1 (by omega : l ≤ N)
      have s2 := st_ltJ hM l2 hJ
      rcases Nat.lt_trichotomy i' i with w | w | w
      · have := fr_lt2 hM w h1; omega
      · rw [w] at e2; omega
      · have := h3 i' w e1
        omega) (by
      have : enT K b j = (fp K b i, fs K b i, fh K b i, 1) := enA_at hM h1 g2.symm
      rw [this]
      exact ⟨c3, c4⟩)
    refine ⟨y', ?_, (A1.trans c2).trans d2, d3⟩
    have e1 := hK2 (m_fr K b i) (by omega)
    rw [g2] at d1
    unfold f_Mo_arrive k_Mo_arrive_0
    simp (disch := omega) only [nA, nS, nM, nLT, nLF, nTT, nTF, nEF, nET, nBT, nBF, nC, nNG, nNL, jj_b1, jj_b2, js, jn, eq_self, if_true, if_false, ite_true, ite_false, ↓reduceIte, and_self, true_and, and_true, zb0, zb1, bM, bR, bCk, bMa, Bool.false_eq_true, Bool.and_self, Bool.and_true, Bool.true_and, li_0, li_1, li_2, li_3, li_4, li_5, li_6, li_7, li_8, li_16, li_18, li_21, li_25, li_46, li_54, li_58, li_60, li_79, li_87, li_89, li_95, li_96, li_100, li_104, li_108, li_116, li_127, li_128, li_132, li_153, li_158, li_159, li_164, li_167, li_172, li_176, li_177, li_184, li_188, li_190, li_198, li_199, li_200, li_202, li_240, li_255, li_256, li_32767, li_32768, li_65536, a1, m1, c1, e1, d1]
theorem mo_target (hF : By K n) (hK : KP K n y) {cd o : Nat} (h13 : y 58 13 = nI cd) (hn : cd + o + 2 < n) : f_Mo_target 58 (nI o) y = some (tgt K (cd + o) o, y) := by
  have h240 := hF.1
  have e1 := hK (cd + o + 1) (by omega)
  have e2 := hK (cd + o + 2) (by omega)
  obtain ⟨v, e3, e4⟩ := mo_jump (F := K) (y := y) (o := o) (p := cd + o) (hF.2 _ (by omega)) (hF.2 _ (by omega))
  unfold f_Mo_target
  simp (disch := omega) only [nA, nS, nM, nLT, nLF, nTT, nTF, nEF, nET, nBT, nBF, nC, nNG, nNL, jj_b1, jj_b2, js, jn, eq_self, if_true, if_false, ite_true, ite_false, ↓reduceIte, and_self, true_and, and_true, zb0, zb1, bM, bR, bCk, bMa, Bool.false_eq_true, Bool.and_self, Bool.and_true, Bool.true_and, li_0, li_1, li_2, li_3, li_4, li_5, li_6, li_7, li_8, li_16, li_18, li_21, li_25, li_46, li_54, li_58, li_60, li_79, li_87, li_89, li_95, li_96, li_100, li_104, li_108, li_116, li_127, li_128, li_132, li_153, li_158, li_159, li_164, li_167, li_172, li_176, li_177, li_184, li_188, li_190, li_198, li_199, li_200, li_202, li_240, li_255, li_256, li_32767, li_32768, li_65536, h13, e1, e2, e3]
  rw [e4]
theorem mo_38 (hF : By K n) (hOK : FileOK K n) (hM : MtOK K n (K 1) (mcn K) b N) (hj : j < N) (hG : GA K b (enT K b j)) (hK : KP K n y) (hO : MO K b y) (hB : KBA y (enT K b j)) : ∃ y', k_Mo_passes_38 58 (nI (st K (m_cd K b) j)) y = some (nI (z_p (PA2 K b j)), y') ∧ Same WP0 y y' := by
  have h240 := hF.1
  have hpl := hM.1.2.2.2.2.2.1
  have hdp := hM.1.2.2.2.1
  have h60 := st_lt60 hM (j := j) (by omega)
  have hI := IA_of hM hj
  have hi2 := hI.2.1
  have hb := hF.2 (m_cd K b + st K (m_cd K b) j) (by omega)
  have h22 := hB.2
  have hso := hG.2.2
  by_cases c0 : (enT K b j).2.2.2 = 1
  · rw [c0] at h22
    have e1 := mo_can (c := 0) (by omega) hF hOK hM hK hO hI hB.1 hG.1
    by_cases c1 : ALA K b (m_cd K b + st K (m_cd K b) j) (enT K b j)
    · have e1' : f_Mo_can 58 (nI 0) (nI (st K (m_cd K b) j)) y = some (nI 1, y) := by rw [e1]; exact congrArg (fun v => some (nI v, y)) (z_p1 c1)
      obtain ⟨y1, a1, a2, a3, a4⟩ := mo_pass hF hOK hK hO.2.2.2.2.2 hI hpl hdp hB.1 hG.1 c1
      have hK1 := hK.same a2 (fun k => by omega)
      have hO1 := hO.same a2 (fun k _ _ => by omega)
      have e13 := hO1.2.2.2.2.2
      have e2 := hK1 (m_cd K b + st K (m_cd K b) j) (by omega)
      have e3 := zm_jumps _ hb hI.1
      have hG1 : GA K b (trA K b (j + 1)) := GA_nx hF hOK hM hI c1 hG
      refine ⟨y1, ?_, a2⟩
      by_cases c2 : z_jmp (K (m_cd K b + st K (m_cd K b) j)) = true
      · have l3 := z_j3 _ hb c2
        have t1 := mo_target hF hK1 e13 (o := st K (m_cd K b) j) (by omega)
        have M := mo_frameAt hF hM hK1 hO1 (tgt K (m_cd K b + st K (m_cd K b) j) (st K (m_cd K b) j))
        by_cases c3 : ∃ i, i < m_fc K b ∧ nI (K (m_fr K b i)) = tgt K (m_cd K b + st K (m_cd K b) j) (st K (m_cd K b) j)
        · obtain ⟨i, i1, i2⟩ := c3
          have m1 := M.2 i i1 i2
          have fo := (fr_ok hM i1).2.2.2.2
          have f1 := mo_fits hF hM hK1 hO1 i1 a3 hG1.1
          by_cases c4 : GFA K b i (trA K b (j + 1))
          · have f1' : f_Mo_fits 58 (nI (m_fr K b i)) y1 = some (nI 1, y1) := by rw [f1]; exact congrArg (fun v => some (nI v, y1)) (z_p1 c4)
            rw [z_p1 (show PA2 K b j from ⟨c0, c1, fun _ => ⟨i, i1, i2, c4⟩⟩)]
            simp (disch := omega) only [nA, nS, nM, nLT, nLF, nTT, nTF, nEF, nET, nBT, nBF, nC, nNG, nNL, jj_b1, jj_b2, js, jn, eq_self, if_true, if_false, ite_true, ite_false, ↓reduceIte, and_self, true_and, and_true, zb0, zb1, bM, bR, bCk, bMa, Bool.false_eq_true, Bool.and_self, Bool.and_true, Bool.true_and, li_0, li_1, li_2, li_3, li_4, li_5, li_6, li_7, li_8, li_16, li_18, li_21, li_25, li_46, li_54, li_58, li_60, li_79, li_87, li_89, li_95, li_96, li_100, li_104, li_108, li_116, li_127, li_128, li_132, li_153, li_158, li_159, li_164, li_167, li_172, li_176, li_177, li_184, li_188, li_190, li_198, li_199, li_200, li_202, li_240, li_255, li_256, li_32767, li_32768, li_65536, k_Mo_passes_38, h22, e1', a1, e13, e2, e3, c2, z_b, t1, m1, f1']
          · have f1' : f_Mo_fits 58 (nI (m_fr K b i)) y1 = some (nI 0, y1) := by rw [f1]; exact congrArg (fun v => some (nI v, y1)) (z_p0 c4)
            rw [z_p0 (show ¬ PA2 K b j from fun w => by
              obtain ⟨i', w1, w2, w3⟩ := w.2.2 c2
              have : i' = i := by
                have f3 := (fr_ok hM i1).1
                have f4 := (fr_ok hM w1).1
                have f5 := nInj (by omega) (by omega) (w2.trans i2.symm)
                rcases Nat.lt_trichotomy i' i with u | u | u
                · have := fr_lt2 hM u i1; omega
                · exact u
                · have := fr_lt2 hM u w1; omega
              rw [this] at w3
              exact c4 w3)]
            simp (disch := omega) only [nA, nS, nM, nLT, nLF, nTT, nTF, nEF, nET, nBT, nBF, nC, nNG, nNL, jj_b1, jj_b2, js, jn, eq_self, if_true, if_false, ite_true, ite_false, ↓reduceIte, and_self, true_and, and_true, zb0, zb1, bM, bR, bCk, bMa, Bool.false_eq_true, Bool.and_self, Bool.and_true, Bool.true_and, li_0, li_1, li_2, li_3, li_4, li_5, li_6, li_7, li_8, li_16, li_18, li_21, li_25, li_46, li_54, li_58, li_60, li_79, li_87, li_89, li_95, li_96, li_100, li_104, li_108, li_116, li_127, li_128, li_132, li_153, li_158, li_159, li_164, li_167, li_172, li_176, li_177, li_184, li_188, li_190, li_198, li_199, li_200, li_202, li_240, li_255, li_256, li_32767, li_32768, li_65536, k_Mo_passes_38, h22, e1', a1, e13, e2, e3, c2, z_b, t1, m1, f1']
        · have m1 := M.1 (fun i i1 i2 => c3 ⟨i, i1, i2⟩)
          rw [z_p0 (show ¬ PA2 K b j from fun w => by
            obtain ⟨i', w1, w2, w3⟩ := w.2.2 c2
            exact c3 ⟨i', w1, w2⟩)]
          simp (disch := omega) only [nA, nS, nM, nLT, nLF, nTT, nTF, nEF, nET, nBT, nBF, nC, nNG, nNL, jj_b1, jj_b2, js, jn, eq_self, if_true, if_false, ite_true, ite_false, ↓reduceIte, and_self, true_and, and_true, zb0, zb1, bM, bR, bCk, bMa, Bool.false_eq_true, Bool.and_self, Bool.and_true, Bool.true_and, li_0, li_1, li_2, li_3, li_4, li_5, li_6, li_7, li_8, li_16, li_18, li_21, li_25, li_46, li_54, li_58, li_60, li_79, li_87, li_89, li_95, li_96, li_100, li_104, li_108, li_116, li_127, li_128, li_132, li_153, li_158, li_159, li_164, li_167, li_172, li_176, li_177, li_184, li_188, li_190, li_198, li_199, li_200, li_202, li_240, li_255, li_256, li_32767, li_32768, li_65536, k_Mo_passes_38, h22, e1', a1, e13, e2, e3, c2, z_b, t1, m1, nNZ]
      · rw [z_p1 (show PA2 K b j from ⟨c0, c1, fun w => absurd w c2⟩)]
        simp (disch := omega) only [nA, nS, nM, nLT, nLF, nTT, nTF, nEF, nET, nBT, nBF, nC, nNG, nNL, jj_b1, jj_b2, js, jn, eq_self, if_true, if_false, ite_true, ite_false, ↓reduceIte, and_self, true_and, and_true, zb0, zb1, bM, bR, bCk, bMa, Bool.false_eq_true, Bool.and_self, Bool.and_true, Bool.true_and, li_0, li_1, li_2, li_3, li_4, li_5, li_6, li_7, li_8, li_16, li_18, li_21, li_25, li_46, li_54, li_58, li_60, li_79, li_87, li_89, li_95, li_96, li_100, li_104, li_108, li_116, li_127, li_128, li_132, li_153, li_158, li_159, li_164, li_167, li_172, li_176, li_177, li_184, li_188, li_190, li_198, li_199, li_200, li_202, li_240, li_255, li_256, li_32767, li_32768, li_65536, k_Mo_passes_38, h22, e1', a1, e13, e2, e3, c2, z_b]
    · have e1' : f_Mo_can 58 (nI 0) (nI (st K (m_cd K b) j)) y = some (nI 0, y) := by rw [e1]; exact congrArg (fun v => some (nI v, y)) (z_p0 c1)
      refine ⟨y, ?_, Same.refl y⟩
      rw [z_p0 (show ¬ PA2 K b j from fun w => c1 w.2.1)]
      simp (disch := omega) only [nA, nS, nM, nLT, nLF, nTT, nTF, nEF, nET, nBT, nBF, nC, nNG, nNL, jj_b1, jj_b2, js, jn, eq_self, if_true, if_false, ite_true, ite_false, ↓reduceIte, and_self, true_and, and_true, zb0, zb1, bM, bR, bCk, bMa, Bool.false_eq_true, Bool.and_self, Bool.and_true, Bool.true_and, li_0, li_1, li_2, li_3, li_4, li_5, li_6, li_7, li_8, li_16, li_18, li_21, li_25, li_46, li_54, li_58, li_60, li_79, li_87, li_89, li_95, li_96, li_100, li_104, li_108, li_116, li_127, li_128, li_132, li_153, li_158, li_159, li_164, li_167, li_172, li_176, li_177, li_184, li_188, li_190, li_198, li_199, li_200, li_202, li_240, li_255, li_256, li_32767, li_32768, li_65536, k_Mo_passes_38, h22, e1']
  · rw [show (enT K b j).2.2.2 = 0 by omega] at h22
    refine ⟨y, ?_, Same.refl y⟩
    rw [z_p0 (show ¬ PA2 K b j from fun w => c0 w.1)]
    simp (disch := omega) only [nA, nS, nM, nLT, nLF, nTT, nTF, nEF, nET, nBT, nBF, nC, nNG, nNL, jj_b1, jj_b2, js, jn, eq_self, if_true, if_false, ite_true, ite_false, ↓reduceIte, and_self, true_and, and_true, zb0, zb1, bM, bR, bCk, bMa, Bool.false_eq_true, Bool.and_self, Bool.and_true, Bool.true_and, li_0, li_1, li_2, li_3, li_4, li_5, li_6, li_7, li_8, li_16, li_18, li_21, li_25, li_46, li_54, li_58, li_60, li_79, li_87, li_89, li_95, li_96, li_100, li_104, li_108, li_116, li_127, li_128, li_132, li_153, li_158, li_159, li_164, li_167, li_172, li_176, li_177, li_184, li_188, li_190, li_198, li_199, li_200, li_202, li_240, li_255, li_256, li_32767, li_32768, li_65536, k_Mo_passes_38, h22]
theorem mo_passes (hF : By K n) (hOK : FileOK K n) (hM : MtOK K n (K 1) (mcn K) b N) (hj : j < N) (hp : ∀ i, i < j → PASS K b i) (hK : KP K n y) (hO : MO K b y) : ∃ y', f_Mo_passes 58 (nI (st K (m_cd K b) j)) y = some (nI (z_p (PASS K b j)), y') ∧ Same WP0 y y' := by
  have h240 := hF.1
  have h60 := st_lt60 hM (j := j) (by omega)
  obtain ⟨y1, a1, a2, a3⟩ := mo_arrive hF hOK hM (by omega : j ≤ N) hp hK hO
  have hK1 := hK.same a2 (fun k => by omega)
  have hO1 := hO.same a2 (fun k _ _ => by omega)
  have hG := GA_tr hF hOK hM j (by omega) hp
  have hGe : GA K b (enT K b j) := GA_en hM hG
  have M := mo_frameAt hF hM hK1 hO1 (nI (st K (m_cd K b) j))
  have h22 := a3.2
  by_cases c : ∃ i, i < m_fc K b ∧ K (m_fr K b i) = st K (m_cd K b) j
  · obtain ⟨i, i1, i2⟩ := c
    have m1 := M.2 i i1 (by rw [i2])
    have fo := (fr_ok hM i1).2.2.2.2
    obtain ⟨y2, c1, c2, c3, c4⟩ := mo_become hF hM hK1 hO1 i1 a3.1 hG.2.1
    have hB2 : KBA y2 (enT K b j) := by
      have : enT K b j = (fp K b i, fs K b i, fh K b i, 1) := enA_at hM i1 i2
      rw [this]; exact ⟨c3, c4⟩
    obtain ⟨y3, d1, d2⟩ := mo_38 hF hOK hM hj hGe (hK1.same c2 (fun k => by omega)) (hO1.same c2 (fun k _ _ => by omega)) hB2
    have D : Same WP0 y y3 := (a2.trans c2).trans d2
    by_cases c5 : (trA K b j).2.2.2 = 1
    · rw [c5] at h22
      have f1 := mo_fits hF hM hK1 hO1 i1 a3.1 hG.1
      by_cases c6 : GFA K b i (trA K b j)
      · have f1' : f_Mo_fits 58 (nI (m_fr K b i)) y1 = some (nI 1, y1) := by rw [f1]; exact congrArg (fun v => some (nI v, y1)) (z_p1 c6)
        refine ⟨y3, ?_, D⟩
        rw [zp_congr (show PASS K b j ↔ PA2 K b j from ⟨fun w => w.2, fun w => ⟨fun i' w1 w2 _ => by
          have : i' = i := by
            rcases Nat.lt_trichotomy i' i with u | u | u
            · have := fr_lt2 hM u i1; omega
            · exact u
            · have := fr_lt2 hM u w1; omega
          rw [this]; exact c6, w⟩⟩)]
        unfold f_Mo_passes
        simp (disch := omega) only [nA, nS, nM, nLT, nLF, nTT, nTF, nEF, nET, nBT, nBF, nC, nNG, nNL, jj_b1, jj_b2, js, jn, eq_self, if_true, if_false, ite_true, ite_false, ↓reduceIte, and_self, true_and, and_true, zb0, zb1, bM, bR, bCk, bMa, Bool.false_eq_true, Bool.and_self, Bool.and_true, Bool.true_and, li_0, li_1, li_2, li_3, li_4, li_5, li_6, li_7, li_8, li_16, li_18, li_21, li_25, li_46, li_54, li_58, li_60, li_79, li_87, li_89, li_95, li_96, li_100, li_104, li_108, li_116, li_127, li_128, li_132, li_153, li_158, li_159, li_164, li_167, li_172, li_176, li_177, li_184, li_188, li_190, li_198, li_199, li_200, li_202, li_240, li_255, li_256, li_32767, li_32768, li_65536, a1, m1, h22, f1', k_Mo_passes_33, c1, d1]
      · have f1' : f_Mo_fits 58 (nI (m_fr K b i)) y1 = some (nI 0, y1) := by rw [f1]; exact congrArg (fun v => some (nI v, y1)) (z_p0 c6)
        refine ⟨y1, ?_, a2⟩
        rw [z_p0 (show ¬ PASS K b j from fun w => c6 (w.1 i i1 i2 c5))]
        unfold f_Mo_passes
        simp (disch := omega) only [nA, nS, nM, nLT, nLF, nTT, nTF, nEF, nET, nBT, nBF, nC, nNG, nNL, jj_b1, jj_b2, js, jn, eq_self, if_true, if_false, ite_true, ite_false, ↓reduceIte, and_self, true_and, and_true, zb0, zb1, bM, bR, bCk, bMa, Bool.false_eq_true, Bool.and_self, Bool.and_true, Bool.true_and, li_0, li_1, li_2, li_3, li_4, li_5, li_6, li_7, li_8, li_16, li_18, li_21, li_25, li_46, li_54, li_58, li_60, li_79, li_87, li_89, li_95, li_96, li_100, li_104, li_108, li_116, li_127, li_128, li_132, li_153, li_158, li_159, li_164, li_167, li_172, li_176, li_177, li_184, li_188, li_190, li_198, li_199, li_200, li_202, li_240, li_255, li_256, li_32767, li_32768, li_65536, a1, m1, h22, f1']
    · rw [show (trA K b j).2.2.2 = 0 by have := hG.2.2; omega] at h22
      refine ⟨y3, ?_, D⟩
      rw [zp_congr (show PASS K b j ↔ PA2 K b j from ⟨fun w => w.2, fun w => ⟨fun i' w1 w2 w3 => absurd w3 c5, w⟩⟩)]
      unfold f_Mo_passes
      simp (disch := omega) only [nA, nS, nM, nLT, nLF, nTT, nTF, nEF, nET, nBT, nBF, nC, nNG, nNL, jj_b1, jj_b2, js, jn, eq_self, if_true, if_false, ite_true, ite_false, ↓reduceIte, and_self, true_and, and_true, zb0, zb1, bM, bR, bCk, bMa, Bool.false_eq_true, Bool.and_self, Bool.and_true, Bool.true_and, li_0, li_1, li_2, li_3, li_4, li_5, li_6, li_7, li_8, li_16, li_18, li_21, li_25, li_46, li_54, li_58, li_60, li_79, li_87, li_89, li_95, li_96, li_100, li_104, li_108, li_116, li_127, li_128, li_132, li_153, li_158, li_159, li_164, li_167, li_172, li_176, li_177, li_184, li_188, li_190, li_198, li_199, li_200, li_202, li_240, li_255, li_256, li_32767, li_32768, li_65536, a1, m1, h22, k_Mo_passes_33, c1, d1]
  · have m1 := M.1 (fun i i1 i2 => c ⟨i, i1, by
      have f3 := (fr_ok hM i1).1
      exact nInj (by omega) (by omega) i2⟩)
    have hB2 : KBA y1 (enT K b j) := by
      have : enT K b j = trA K b j := enA_no c
      rw [this]; exact a3
    obtain ⟨y3, d1, d2⟩ := mo_38 hF hOK hM hj hGe hK1 hO1 hB2
    refine ⟨y3, ?_, a2.trans d2⟩
    rw [zp_congr (show PASS K b j ↔ PA2 K b j from ⟨fun w => w.2, fun w => ⟨fun i' w1 w2 w3 => absurd ⟨i', w1, w2⟩ c, w⟩⟩)]
    unfold f_Mo_passes
    simp (disch := omega) only [nA, nS, nM, nLT, nLF, nTT, nTF, nEF, nET, nBT, nBF, nC, nNG, nNL, jj_b1, jj_b2, js, jn, eq_self, if_true, if_false, ite_true, ite_false, ↓reduceIte, and_self, true_and, and_true, zb0, zb1, bM, bR, bCk, bMa, Bool.false_eq_true, Bool.and_self, Bool.and_true, Bool.true_and, li_0, li_1, li_2, li_3, li_4, li_5, li_6, li_7, li_8, li_16, li_18, li_21, li_25, li_46, li_54, li_58, li_60, li_79, li_87, li_89, li_95, li_96, li_100, li_104, li_108, li_116, li_127, li_128, li_132, li_153, li_158, li_159, li_164, li_167, li_172, li_176, li_177, li_184, li_188, li_190, li_198, li_199, li_200, li_202, li_240, li_255, li_256, li_32767, li_32768, li_65536, a1, m1, nNZ, d1]
theorem mo_check_g (hF : By K n) (hOK : FileOK K n) (hM : MtOK K n (K 1) (mcn K) b N) : ∀ (r j f : Nat) (y : jj_Mem), j + r = N → r < f → (∀ i, i < j → PASS K b i) → KP K n y → MO K b y → ∃ v y', g_Mo_check f 25 [some (.ref 58), none, some (.int (nI (st K (m_cd K b) j)))] y = some (v, y') ∧ RES K b N v ∧ Same WP0 y y' := by
  have h240 := hF.1
  intro r
  induction r with
  | zero =>
    intro j f y hj hf hp hK hO
    obtain ⟨f, rfl⟩ : ∃ g, f = g + 1 := ⟨f - 1, by omega⟩
    have e : j = N := by omega
    subst e
    have e1 := hM.2.1.2.1
    have h60 := st_lt60 hM (Nat.le_refl j)
    obtain ⟨y1, a1, a2, a3⟩ := mo_arrive hF hOK hM (Nat.le_refl j) hp hK hO
    have hO1 := hO.same a2 (fun k _ _ => by omega)
    have e12 := hO.2.2.2.2.1
    have f12 := hO1.2.2.2.2.1
    have h22 := a3.2
    have hG := (GA_tr hF hOK hM j (by omega) hp).2.2
    rw [e1] at a1
    refine ⟨_, y1, ?_, Or.inr ⟨hp, rfl⟩, a2⟩
    rw [e1]
    by_cases c : (trA K b j).2.2.2 = 0
    · rw [c] at h22
      rw [if_pos c]
      simp (disch := omega) only [nA, nS, nM, nLT, nLF, nTT, nTF, nEF, nET, nBT, nBF, nC, nNG, nNL, jj_b1, jj_b2, js, jn, eq_self, if_true, if_false, ite_true, ite_false, ↓reduceIte, and_self, true_and, and_true, zb0, zb1, bM, bR, bCk, bMa, Bool.false_eq_true, Bool.and_self, Bool.and_true, Bool.true_and, li_0, li_1, li_2, li_3, li_4, li_5, li_6, li_7, li_8, li_16, li_18, li_21, li_25, li_46, li_54, li_58, li_60, li_79, li_87, li_89, li_95, li_96, li_100, li_104, li_108, li_116, li_127, li_128, li_132, li_153, li_158, li_159, li_164, li_167, li_172, li_176, li_177, li_184, li_188, li_190, li_198, li_199, li_200, li_202, li_240, li_255, li_256, li_32767, li_32768, li_65536, g_Mo_check, k_Mo_check_25, e12, a1, h22]
    · rw [show (trA K b j).2.2.2 = 1 by omega] at h22
      rw [if_neg c]
      simp (disch := omega) only [nA, nS, nM, nLT, nLF, nTT, nTF, nEF, nET, nBT, nBF, nC, nNG, nNL, jj_b1, jj_b2, js, jn, eq_self, if_true, if_false, ite_true, ite_false, ↓reduceIte, and_self, true_and, and_true, zb0, zb1, bM, bR, bCk, bMa, Bool.false_eq_true, Bool.and_self, Bool.and_true, Bool.true_and, li_0, li_1, li_2, li_3, li_4, li_5, li_6, li_7, li_8, li_16, li_18, li_21, li_25, li_46, li_54, li_58, li_60, li_79, li_87, li_89, li_95, li_96, li_100, li_104, li_108, li_116, li_127, li_128, li_132, li_153, li_158, li_159, li_164, li_167, li_172, li_176, li_177, li_184, li_188, li_190, li_198, li_199, li_200, li_202, li_240, li_255, li_256, li_32767, li_32768, li_65536, g_Mo_check, k_Mo_check_25, e12, a1, h22, f12]
  | succ r ih =>
    intro j f y hj hf hp hK hO
    obtain ⟨f, rfl⟩ : ∃ g, f = g + 1 := ⟨f - 1, by omega⟩
    have hjN : j < N := by omega
    have h60 := st_lt60 hM (j := j) (by omega)
    have hlt := (hM.2.1.2.2 j hjN).1
    have hI := IA_of hM hjN
    have hi2 := hI.2.1
    have e12 := hO.2.2.2.2.1
    obtain ⟨y1, a1, a2⟩ := mo_passes hF hOK hM hjN hp hK hO
    have hK1 := hK.same a2 (fun k => by omega)
    have hO1 := hO.same a2 (fun k _ _ => by omega)
    by_cases c : PASS K b j
    · rw [z_p1 c] at a1
      obtain ⟨v, y', d1, d2, d3⟩ := ih (j + 1) f y1 (by omega) (by omega) (fun i hi => by
        by_cases e : i = j
        · rw [e]; exact c
        · exact hp i (by omega)) hK1 hO1
      refine ⟨v, y', ?_, d2, a2.trans d3⟩
      rw [st_succ] at d1
      have e13 := hO1.2.2.2.2.2
      have e2 := hK1 (m_cd K b + st K (m_cd K b) j) (by omega)
      have e3 := zm_bytes _ (hF.2 (m_cd K b + st K (m_cd K b) j) (by omega))
      rw [show g_Mo_check (f + 1) 25 [some (.ref 58), none, some (.int (nI (st K (m_cd K b) j)))] y = k_Mo_check_25 (g_Mo_check f) 58 (nI (st K (m_cd K b) j)) y from rfl]
      simp (disch := omega) only [nA, nS, nM, nLT, nLF, nTT, nTF, nEF, nET, nBT, nBF, nC, nNG, nNL, jj_b1, jj_b2, js, jn, eq_self, if_true, if_false, ite_true, ite_false, ↓reduceIte, and_self, true_and, and_true, zb0, zb1, bM, bR, bCk, bMa, Bool.false_eq_true, Bool.and_self, Bool.and_true, Bool.true_and, li_0, li_1, li_2, li_3, li_4, li_5, li_6, li_7, li_8, li_16, li_18, li_21, li_25, li_46, li_54, li_58, li_60, li_79, li_87, li_89, li_95, li_96, li_100, li_104, li_108, li_116, li_127, li_128, li_132, li_153, li_158, li_159, li_164, li_167, li_172, li_176, li_177, li_184, li_188, li_190, li_198, li_199, li_200, li_202, li_240, li_255, li_256, li_32767, li_32768, li_65536, k_Mo_check_25, e12, a1, e13, e2, e3, d1]
    · rw [z_p0 c] at a1
      refine ⟨_, y1, ?_, Or.inl ⟨j, hjN, hp, c, rfl⟩, a2⟩
      simp (disch := omega) only [nA, nS, nM, nLT, nLF, nTT, nTF, nEF, nET, nBT, nBF, nC, nNG, nNL, jj_b1, jj_b2, js, jn, eq_self, if_true, if_false, ite_true, ite_false, ↓reduceIte, and_self, true_and, and_true, zb0, zb1, bM, bR, bCk, bMa, Bool.false_eq_true, Bool.and_self, Bool.and_true, Bool.true_and, li_0, li_1, li_2, li_3, li_4, li_5, li_6, li_7, li_8, li_16, li_18, li_21, li_25, li_46, li_54, li_58, li_60, li_79, li_87, li_89, li_95, li_96, li_100, li_104, li_108, li_116, li_127, li_128, li_132, li_153, li_158, li_159, li_164, li_167, li_172, li_176, li_177, li_184, li_188, li_190, li_198, li_199, li_200, li_202, li_240, li_255, li_256, li_32767, li_32768, li_65536, g_Mo_check, k_Mo_check_25, e12, a1]
end CHECK
