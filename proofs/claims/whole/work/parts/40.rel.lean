/-! PURE: the typed file -/
theorem se_at {bs : ByteArray} {pc : Nat} {r : Instr × Nat} (h : decode bs pc = .ok r) : se_code bs pc = some r := by
  unfold se_code
  rw [h]
theorem w_within (v lw hi : Int32) : s_Mo_within v lw hi = some (if lw ≤ v ∧ v ≤ hi then 1 else 0) := by
  unfold s_Mo_within
  have h0 := se_at d_Mo_within_0
  have h1 := se_at d_Mo_within_1
  have h2 := se_at d_Mo_within_2
  have h5 := se_at d_Mo_within_5
  have h6 := se_at d_Mo_within_6
  have h7 := se_at d_Mo_within_7
  have h10 := se_at d_Mo_within_10
  have h11 := se_at d_Mo_within_11
  have h14 := se_at d_Mo_within_14
  have h15 := se_at d_Mo_within_15
  by_cases c1 : v < lw
  · have c2 : ¬ lw ≤ v := Int32.not_le.mpr c1
    simp [se_run, se_go, se_cmp, h0, h1, h2, h14, h15, c1, c2]
  · have c2 : lw ≤ v := Int32.not_lt.mp c1
    by_cases c3 : hi < v
    · have c4 : ¬ v ≤ hi := Int32.not_le.mpr c3
      simp [se_run, se_go, se_cmp, h0, h1, h2, h5, h6, h7, h14, h15, c1, c2, c3, c4]
    · have c4 : v ≤ hi := Int32.not_lt.mp c3
      simp [se_run, se_go, se_cmp, h0, h1, h2, h5, h6, h7, h10, h11, h15, c1, c2, c3, c4]
/-- the cells of the typed file on both sides, and the reference's word on exceptions -/
def T1 (i k : Nat) : Prop := (i = 0 ∧ k = 1) ∨ i = 1 ∨ (i = 58 ∧ k ≤ 1) ∨ i = 59
def Fr1 (Q : jj_Mem → Prop) : Prop := ∀ x x', (∀ i k, ¬ T1 i k → x' i k = x i k) → Q x → Q x'
def R1 (x : jj_Mem) : Prop := ∃ tn : Nat, tn ≤ 240 ∧ x 0 1 = nI tn ∧ x 58 1 = nI tn ∧ (∀ k, k < 240 → x 59 k = x 1 k) ∧ ∀ k, k < 240 → ∃ b : Nat, b < 256 ∧ x 1 k = nI b
/-- a write of the reference's word alone -/
theorem R1_code {x : jj_Mem} {v : Int32} (h : R1 x) : R1 (jj_set x 58 0 v) := by
  obtain ⟨tn, h1, h2, h3, h4, h5⟩ := h
  exact ⟨tn, h1, by simp [jj_set_get, h2], by simp [jj_set_get, h3], fun k hk => by simp [jj_set_get, h4 k hk], fun k hk => by
    obtain ⟨b, g1, g2⟩ := h5 k hk
    exact ⟨b, g1, by simp [jj_set_get, g2]⟩⟩
theorem Fr1_code {Q : jj_Mem → Prop} (hQ : Fr1 Q) {x : jj_Mem} {v : Int32} (h : Q x) : Q (jj_set x 58 0 v) := hQ x _ (fun i k hn => by
  rw [jj_set_get, if_neg]
  rintro ⟨rfl, rfl⟩
  exact hn (Or.inr (Or.inr (Or.inl ⟨rfl, Nat.zero_le _⟩)))) h
section SIM1
variable {Q : jj_Mem → Prop} {x : jj_Mem}
theorem sim_size (hQ : Fr1 Q) (h1 : R1 x) (h2 : Q x) : S_size (fun x => R1 x ∧ Q x) x := by
  obtain ⟨tn, a1, a2, a3, a4, a5⟩ := id h1
  refine ⟨x 0 1, x, jj_set x 58 0 0, rfl, ?_, R1_code h1, Fr1_code hQ h2⟩
  unfold f_Mo_size
  simp [jj_set_get, a2, a3]
theorem sim_clear (hQ : Fr1 Q) (h1 : R1 x) (h2 : Q x) : S_clear (fun x => R1 x ∧ Q x) x := by
  obtain ⟨tn, a1, a2, a3, a4, a5⟩ := id h1
  refine ⟨_, _, rfl, rfl, ⟨0, by omega, by simp [jj_set_get]; rfl, by simp [jj_set_get]; rfl, fun k hk => by simp [jj_set_get, a4 k hk], fun k hk => by
    obtain ⟨b, g1, g2⟩ := a5 k hk
    exact ⟨b, g1, by simp [jj_set_get, g2]⟩⟩, hQ x _ (fun i k hn => ?_) h2⟩
  have n1 : ¬ (i = 0 ∧ k = 1) := fun h => hn (Or.inl h)
  have n2 : ¬ (i = 58 ∧ k = 0) := fun h => hn (Or.inr (Or.inr (Or.inl ⟨h.1, by omega⟩)))
  have n3 : ¬ (i = 58 ∧ k = 1) := fun h => hn (Or.inr (Or.inr (Or.inl ⟨h.1, by omega⟩)))
  rw [jj_set_get, if_neg n3, jj_set_get, if_neg n2, jj_set_get, if_neg n1]
/-- an index into the typed file -/
theorem ix_cases {tn : Nat} (h : tn ≤ 240) (a : Int32) : (a < 0 ∨ ¬ a < nI tn) ∧ ¬ (0 ≤ a ∧ a ≤ nI tn - 1) ∨ ∃ j : Nat, j < tn ∧ a = nI j ∧ ¬ a < 0 ∧ a < nI tn ∧ (0 ≤ a ∧ a ≤ nI tn - 1) := by
  have e1 : (nI tn).toInt = (tn : Int) := nI_toInt (by omega)
  have e2 : (nI tn - 1).toInt = (tn : Int) - 1 := by
    have := pk_sub_toInt (a := tn) (b := 1) (by omega) (by omega)
    exact this
  have e0 : (0 : Int32).toInt = 0 := rfl
  by_cases c1 : a < 0
  · left
    refine ⟨Or.inl c1, fun q => ?_⟩
    rw [Int32.lt_iff_toInt_lt, e0] at c1
    have := Int32.le_iff_toInt_le.mp q.1
    rw [e0] at this
    omega
  · by_cases c2 : a < nI tn
    · right
      obtain ⟨j, hj, rfl⟩ := nI_of c1
      have e3 : (nI j).toInt = (j : Int) := nI_toInt hj
      have c3 := Int32.lt_iff_toInt_lt.mp c2
      rw [e3, e1] at c3
      refine ⟨j, by omega, rfl, c1, c2, nI_pos' hj, ?_⟩
      rw [Int32.le_iff_toInt_le, e3, e2]
      omega
    · left
      refine ⟨Or.inr c2, fun q => c2 ?_⟩
      have := Int32.le_iff_toInt_le.mp q.2
      rw [e2] at this
      rw [Int32.lt_iff_toInt_lt, e1]
      omega
theorem sim_byteAt (hQ : Fr1 Q) (h1 : R1 x) (h2 : Q x) (b0 : Int32) : S_byteAt (fun x => R1 x ∧ Q x) x b0 := by
  obtain ⟨tn, a1, a2, a3, a4, a5⟩ := id h1
  rcases ix_cases a1 b0 with ⟨c1, c2⟩ | ⟨j, hj, rfl, c1, c2, c3⟩
  · refine ⟨1, 0, 0, x, jj_set x 58 0 1, Or.inr ⟨rfl, rfl, by rw [a2]; exact c1⟩, ?_, by simp [jj_set_get], fun q => absurd q (by decide), R1_code h1, Fr1_code hQ h2⟩
    unfold f_Mo_byteAt k_Mo_byteAt_20
    rw [w_within, a3, if_neg c2]
    simp [jj_b1, jj_set_get]
  · have hb := jj_inb_nI (a := j) (n := 240) (by omega) (by decide)
    have hc : (nI j).toNatClampNeg = j := nI_clamp (by omega)
    refine ⟨0, x 1 j, x 1 j, x, jj_set x 58 0 0, Or.inl ⟨rfl, ?_⟩, ?_, by simp [jj_set_get], fun _ => rfl, R1_code h1, Fr1_code hQ h2⟩
    · unfold f_VC_byteAt
      rw [if_neg c1, a2, if_pos c2, if_pos hb, hc]
    · unfold f_Mo_byteAt k_Mo_byteAt_20
      rw [w_within, a3, if_pos c3]
      simp [jj_b1, jj_set_get, hb, hc, a4 j (by omega)]
theorem sim_poke (hQ : Fr1 Q) (h1 : R1 x) (h2 : Q x) (b0 b1 : Int32) : S_poke (fun x => R1 x ∧ Q x) x b0 b1 := by
  obtain ⟨tn, a1, a2, a3, a4, a5⟩ := id h1
  rcases ix_cases a1 b0 with ⟨c1, c2⟩ | ⟨j, hj, rfl, c1, c2, c3⟩
  · refine ⟨1, x, jj_set x 58 0 1, Or.inr (Or.inl ⟨rfl, rfl, by rw [a2]; exact c1⟩), ?_, by simp [jj_set_get], R1_code h1, Fr1_code hQ h2⟩
    unfold f_Mo_poke k_Mo_poke_35
    rw [w_within, a3, if_neg c2]
    simp [jj_b1, jj_set_get]
  · have hb := jj_inb_nI (a := j) (n := 240) (by omega) (by decide)
    have hc : (nI j).toNatClampNeg = j := nI_clamp (by omega)
    by_cases d1 : 0 ≤ b1 ∧ b1 ≤ 255
    · have d2 : ¬ b1 < 0 := Int32.not_lt.mpr d1.1
      obtain ⟨bb, hbb, rfl⟩ := nI_of2 (M := 255) (n := 255) rfl d2 d1.2
      refine ⟨0, jj_set x 1 j (nI bb), jj_set (jj_set (jj_set x 1 j (nI bb)) 58 0 0) 59 j (nI bb), Or.inl ⟨rfl, ?_⟩, ?_, by simp [jj_set_get], ?_, ?_⟩
      · unfold f_VC_poke
        rw [if_neg c1, a2, if_pos c2, if_neg d2, if_pos d1.2, if_pos hb, hc]
      · unfold f_Mo_poke k_Mo_poke_35
        have e1 : (jj_set x 1 j (nI bb)) 58 1 = nI tn := by simp [jj_set_get, a3]
        rw [w_within, e1, if_pos c3]
        simp [jj_b1, w_within, d1, jj_set_get, hb, hc]
      · refine ⟨tn, a1, by simp [jj_set_get, a2], by simp [jj_set_get, a3], fun k hk => ?_, fun k hk => ?_⟩
        · by_cases e : k = j
          · subst e; simp [jj_set_get]
          · simp [jj_set_get, e, a4 k hk]
        · by_cases e : k = j
          · subst e; exact ⟨bb, by omega, by simp [jj_set_get]⟩
          · obtain ⟨b, g1, g2⟩ := a5 k hk
            exact ⟨b, g1, by simp [jj_set_get, e, g2]⟩
      · refine hQ x _ (fun i k hn => ?_) h2
        have n1 : ¬ (i = 1 ∧ k = j) := fun h => hn (Or.inr (Or.inl h.1))
        have n2 : ¬ (i = 58 ∧ k = 0) := fun h => hn (Or.inr (Or.inr (Or.inl ⟨h.1, by omega⟩)))
        have n3 : ¬ (i = 59 ∧ k = j) := fun h => hn (Or.inr (Or.inr (Or.inr h.1)))
        rw [jj_set_get, if_neg n3, jj_set_get, if_neg n2, jj_set_get, if_neg n1]
    · have d2 : b1 < 0 ∨ ¬ b1 ≤ 255 := by
        by_cases q : b1 < 0
        · exact Or.inl q
        · exact Or.inr (fun r => d1 ⟨Int32.not_lt.mp q, r⟩)
      refine ⟨2, x, jj_set x 58 0 2, Or.inr (Or.inr ⟨rfl, rfl, c1, by rw [a2]; exact c2, d2⟩), ?_, by simp [jj_set_get], R1_code h1, Fr1_code hQ h2⟩
      unfold f_Mo_poke k_Mo_poke_35
      rw [w_within, a3, if_pos c3]
      simp [jj_b1, w_within, d1, jj_set_get]
end SIM1
