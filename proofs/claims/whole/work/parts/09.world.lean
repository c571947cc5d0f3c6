/-! the cells: 0 the object, 1 its typed file, 2 and 13 the programs, 24 reader, 26 checker, 32 machine, 58 the reference -/
def j_skl : List jj_Sh := [
  .inr (0, [some (some 1), none, some none, some none, some (some 24), some (some 26), some (some 32)]),
  .inl (0, 240, fun z => z),
  .inr (1, [some (some 3), none, none, none, none, some (some 4)]),
  .inl (0, 240, fun z => z),
  .inl (2, 4, fun k => 2 + 3 + 2 * k),
  .inr (2, [none, none, none, none, none, none, none, none, some (some 6)]),
  .inl (0, 8, fun z => z),
  .inr (2, [none, none, none, none, none, none, none, none, some (some 8)]),
  .inl (0, 8, fun z => z),
  .inr (2, [none, none, none, none, none, none, none, none, some (some 10)]),
  .inl (0, 8, fun z => z),
  .inr (2, [none, none, none, none, none, none, none, none, some (some 12)]),
  .inl (0, 8, fun z => z),
  .inr (1, [some (some 14), none, none, none, none, some (some 15)]),
  .inl (0, 240, fun z => z),
  .inl (2, 4, fun k => 13 + 3 + 2 * k),
  .inr (2, [none, none, none, none, none, none, none, none, some (some 17)]),
  .inl (0, 8, fun z => z),
  .inr (2, [none, none, none, none, none, none, none, none, some (some 19)]),
  .inl (0, 8, fun z => z),
  .inr (2, [none, none, none, none, none, none, none, none, some (some 21)]),
  .inl (0, 8, fun z => z),
  .inr (2, [none, none, none, none, none, none, none, none, some (some 23)]),
  .inl (0, 8, fun z => z),
  .inr (3, [none, none, some (some 25)]),
  .inl (1, 60, fun z => z),
  .inr (5, [some (some 27), none]),
  .inr (4, [some (some 28), some (some 29), some (some 30), some (some 31), none]),
  .inl (0, 6, fun z => z),
  .inl (0, 6, fun z => z),
  .inl (0, 6, fun z => z),
  .inl (0, 6, fun z => z),
  .inr (6, [none, none, some (some 33), some (some 54), some (some 55), none, some (some 56), some (some 57), none]),
  .inl (3, 4, fun k => 32 + 2 + 5 * k),
  .inr (4, [some (some 35), some (some 36), some (some 37), some (some 38), none]),
  .inl (0, 6, fun z => z),
  .inl (0, 6, fun z => z),
  .inl (0, 6, fun z => z),
  .inl (0, 6, fun z => z),
  .inr (4, [some (some 40), some (some 41), some (some 42), some (some 43), none]),
  .inl (0, 6, fun z => z),
  .inl (0, 6, fun z => z),
  .inl (0, 6, fun z => z),
  .inl (0, 6, fun z => z),
  .inr (4, [some (some 45), some (some 46), some (some 47), some (some 48), none]),
  .inl (0, 6, fun z => z),
  .inl (0, 6, fun z => z),
  .inl (0, 6, fun z => z),
  .inl (0, 6, fun z => z),
  .inr (4, [some (some 50), some (some 51), some (some 52), some (some 53), none]),
  .inl (0, 6, fun z => z),
  .inl (0, 6, fun z => z),
  .inl (0, 6, fun z => z),
  .inl (0, 6, fun z => z),
  .inl (0, 4, fun z => z),
  .inl (0, 4, fun z => z),
  .inl (0, 64, fun z => z),
  .inl (0, 8, fun z => z),
  .inr (7, [none, none, some (some 59), none, none, none, none, some (some 60), none, none, none, none, none, none, some (some 61), some (some 62), some (some 63), some (some 64), some (some 65), some (some 66), some (some 67), none, none, none, some (some 68), some (some 69), none, none]),
  .inl (0, 240, fun z => z),
  .inl (0, 240, fun z => z),
  .inl (0, 24, fun z => z),
  .inl (0, 24, fun z => z),
  .inl (0, 24, fun z => z),
  .inl (0, 24, fun z => z),
  .inl (0, 4, fun z => z),
  .inl (0, 4, fun z => z),
  .inl (0, 4, fun z => z),
  .inl (0, 8, fun z => z),
  .inl (0, 64, fun z => z)]
def j_sk (i : Nat) : jj_Sh := j_skl.getD i (.inl (0, 0, fun z => z))
def Y0 : jj_Y := (j_sk, 70, j_cl, [.int, .boolean, .object "VerifiedCode$Method", .object "VerifiedCode$State"], j_W)
def bo_VC (i : Nat) : Bool := i == 0
def o_VC (i : Nat) : Prop := bo_VC i = true
theorem ob_VC {i : Nat} (h : bo_VC i = true) : o_VC i := h
theorem oc_VC {i : Nat} (h : o_VC i) : i = 0 := by
  simpa [o_VC, bo_VC, or_assoc] using h
theorem lt_VC {i : Nat} (h : o_VC i) : i < 2 ^ 31 := by
  have := oc_VC h
  omega
theorem sh_VC {i : Nat} (h : o_VC i) : Y0.1 i = .inr (0, [some (some (i + 1)), none, some none, some none, some (some (i + 24)), some (some (i + 26)), some (some (i + 32))]) ∧ i < Y0.2.1 := by
  rcases oc_VC h with rfl <;> exact ⟨rfl, by decide⟩
def bo_Pr (i : Nat) : Bool := i == 2 || i == 13
def o_Pr (i : Nat) : Prop := bo_Pr i = true
theorem ob_Pr {i : Nat} (h : bo_Pr i = true) : o_Pr i := h
theorem oc_Pr {i : Nat} (h : o_Pr i) : i = 2 ∨ i = 13 := by
  simpa [o_Pr, bo_Pr, or_assoc] using h
theorem lt_Pr {i : Nat} (h : o_Pr i) : i < 2 ^ 31 := by
  have := oc_Pr h
  omega
theorem sh_Pr {i : Nat} (h : o_Pr i) : Y0.1 i = .inr (1, [some (some (i + 1)), none, none, none, none, some (some (i + 2))]) ∧ i < Y0.2.1 := by
  rcases oc_Pr h with rfl | rfl <;> exact ⟨rfl, by decide⟩
def bo_Me (i : Nat) : Bool := i == 5 || i == 7 || i == 9 || i == 11 || i == 16 || i == 18 || i == 20 || i == 22
def o_Me (i : Nat) : Prop := bo_Me i = true
theorem ob_Me {i : Nat} (h : bo_Me i = true) : o_Me i := h
theorem oc_Me {i : Nat} (h : o_Me i) : i = 5 ∨ i = 7 ∨ i = 9 ∨ i = 11 ∨ i = 16 ∨ i = 18 ∨ i = 20 ∨ i = 22 := by
  simpa [o_Me, bo_Me, or_assoc] using h
theorem lt_Me {i : Nat} (h : o_Me i) : i < 2 ^ 31 := by
  have := oc_Me h
  omega
theorem sh_Me {i : Nat} (h : o_Me i) : Y0.1 i = .inr (2, [none, none, none, none, none, none, none, none, some (some (i + 1))]) ∧ i < Y0.2.1 := by
  rcases oc_Me h with rfl | rfl | rfl | rfl | rfl | rfl | rfl | rfl <;> exact ⟨rfl, by decide⟩
def bo_Rd (i : Nat) : Bool := i == 24
def o_Rd (i : Nat) : Prop := bo_Rd i = true
theorem ob_Rd {i : Nat} (h : bo_Rd i = true) : o_Rd i := h
theorem oc_Rd {i : Nat} (h : o_Rd i) : i = 24 := by
  simpa [o_Rd, bo_Rd, or_assoc] using h
theorem lt_Rd {i : Nat} (h : o_Rd i) : i < 2 ^ 31 := by
  have := oc_Rd h
  omega
theorem sh_Rd {i : Nat} (h : o_Rd i) : Y0.1 i = .inr (3, [none, none, some (some (i + 1))]) ∧ i < Y0.2.1 := by
  rcases oc_Rd h with rfl <;> exact ⟨rfl, by decide⟩
def bo_St (i : Nat) : Bool := i == 27 || i == 34 || i == 39 || i == 44 || i == 49
def o_St (i : Nat) : Prop := bo_St i = true
theorem ob_St {i : Nat} (h : bo_St i = true) : o_St i := h
theorem oc_St {i : Nat} (h : o_St i) : i = 27 ∨ i = 34 ∨ i = 39 ∨ i = 44 ∨ i = 49 := by
  simpa [o_St, bo_St, or_assoc] using h
theorem lt_St {i : Nat} (h : o_St i) : i < 2 ^ 31 := by
  have := oc_St h
  omega
theorem sh_St {i : Nat} (h : o_St i) : Y0.1 i = .inr (4, [some (some (i + 1)), some (some (i + 2)), some (some (i + 3)), some (some (i + 4)), none]) ∧ i < Y0.2.1 := by
  rcases oc_St h with rfl | rfl | rfl | rfl | rfl <;> exact ⟨rfl, by decide⟩
def bo_Ck (i : Nat) : Bool := i == 26
def o_Ck (i : Nat) : Prop := bo_Ck i = true
theorem ob_Ck {i : Nat} (h : bo_Ck i = true) : o_Ck i := h
theorem oc_Ck {i : Nat} (h : o_Ck i) : i = 26 := by
  simpa [o_Ck, bo_Ck, or_assoc] using h
theorem lt_Ck {i : Nat} (h : o_Ck i) : i < 2 ^ 31 := by
  have := oc_Ck h
  omega
theorem sh_Ck {i : Nat} (h : o_Ck i) : Y0.1 i = .inr (5, [some (some (i + 1)), none]) ∧ i < Y0.2.1 := by
  rcases oc_Ck h with rfl <;> exact ⟨rfl, by decide⟩
def bo_Ma (i : Nat) : Bool := i == 32
def o_Ma (i : Nat) : Prop := bo_Ma i = true
theorem ob_Ma {i : Nat} (h : bo_Ma i = true) : o_Ma i := h
theorem oc_Ma {i : Nat} (h : o_Ma i) : i = 32 := by
  simpa [o_Ma, bo_Ma, or_assoc] using h
theorem lt_Ma {i : Nat} (h : o_Ma i) : i < 2 ^ 31 := by
  have := oc_Ma h
  omega
theorem sh_Ma {i : Nat} (h : o_Ma i) : Y0.1 i = .inr (6, [none, none, some (some (i + 1)), some (some (i + 22)), some (some (i + 23)), none, some (some (i + 24)), some (some (i + 25)), none]) ∧ i < Y0.2.1 := by
  rcases oc_Ma h with rfl <;> exact ⟨rfl, by decide⟩
def bo_Mo (i : Nat) : Bool := i == 58
def o_Mo (i : Nat) : Prop := bo_Mo i = true
theorem ob_Mo {i : Nat} (h : bo_Mo i = true) : o_Mo i := h
theorem oc_Mo {i : Nat} (h : o_Mo i) : i = 58 := by
  simpa [o_Mo, bo_Mo, or_assoc] using h
theorem lt_Mo {i : Nat} (h : o_Mo i) : i < 2 ^ 31 := by
  have := oc_Mo h
  omega
theorem sh_Mo {i : Nat} (h : o_Mo i) : Y0.1 i = .inr (7, [none, none, some (some (i + 1)), none, none, none, none, some (some (i + 2)), none, none, none, none, none, none, some (some (i + 3)), some (some (i + 4)), some (some (i + 5)), some (some (i + 6)), some (some (i + 7)), some (some (i + 8)), some (some (i + 9)), none, none, none, some (some (i + 10)), some (some (i + 11)), none, none]) ∧ i < Y0.2.1 := by
  rcases oc_Mo h with rfl <;> exact ⟨rfl, by decide⟩
def oA (k n i : Nat) : Prop := i < Y0.2.1 ∧ Y0.1 i = .inl (k, n, fun z => z)
theorem ar_VC_typed {i : Nat} (h : o_VC i) : oA 0 240 (i + 1) := by
  rcases oc_VC h with rfl <;> exact ⟨by decide, rfl⟩
theorem ro_VC_reader {i : Nat} (h : o_VC i) : o_Rd (i + 24) := by
  rcases oc_VC h with rfl <;> rfl
theorem ro_VC_checker {i : Nat} (h : o_VC i) : o_Ck (i + 26) := by
  rcases oc_VC h with rfl <;> rfl
theorem ro_VC_machine {i : Nat} (h : o_VC i) : o_Ma (i + 32) := by
  rcases oc_VC h with rfl <;> rfl
theorem ar_Pr_file {i : Nat} (h : o_Pr i) : oA 0 240 (i + 1) := by
  rcases oc_Pr h with rfl | rfl <;> exact ⟨by decide, rfl⟩
theorem pa_Pr_parts {i : Nat} (h : o_Pr i) : i + 2 < Y0.2.1 ∧ Y0.1 (i + 2) = .inl (2, 4, fun k => i + 3 + 2 * k) := by
  rcases oc_Pr h with rfl | rfl <;> exact ⟨by decide, rfl⟩
theorem el_Pr_parts {i : Nat} (h : o_Pr i) {j : Int32} (hj : jj_inb j 4 = true) : o_Me (i + 3 + 2 * j.toNatClampNeg) := by
  have h1 := oc_Pr h
  simp only [jj_inb, Bool.and_eq_true, decide_eq_true_eq] at hj
  simp only [o_Me, bo_Me, Bool.or_eq_true, beq_iff_eq]
  omega
theorem ar_Me_framesAt {i : Nat} (h : o_Me i) : oA 0 8 (i + 1) := by
  rcases oc_Me h with rfl | rfl | rfl | rfl | rfl | rfl | rfl | rfl <;> exact ⟨by decide, rfl⟩
theorem ar_Rd_begins {i : Nat} (h : o_Rd i) : oA 1 60 (i + 1) := by
  rcases oc_Rd h with rfl <;> exact ⟨by decide, rfl⟩
theorem ar_St_placeKinds {i : Nat} (h : o_St i) : oA 0 6 (i + 1) := by
  rcases oc_St h with rfl | rfl | rfl | rfl | rfl <;> exact ⟨by decide, rfl⟩
theorem ar_St_placeValues {i : Nat} (h : o_St i) : oA 0 6 (i + 2) := by
  rcases oc_St h with rfl | rfl | rfl | rfl | rfl <;> exact ⟨by decide, rfl⟩
theorem ar_St_kinds {i : Nat} (h : o_St i) : oA 0 6 (i + 3) := by
  rcases oc_St h with rfl | rfl | rfl | rfl | rfl <;> exact ⟨by decide, rfl⟩
theorem ar_St_values {i : Nat} (h : o_St i) : oA 0 6 (i + 4) := by
  rcases oc_St h with rfl | rfl | rfl | rfl | rfl <;> exact ⟨by decide, rfl⟩
theorem ro_Ck_state {i : Nat} (h : o_Ck i) : o_St (i + 1) := by
  rcases oc_Ck h with rfl <;> rfl
theorem pa_Ma_states {i : Nat} (h : o_Ma i) : i + 1 < Y0.2.1 ∧ Y0.1 (i + 1) = .inl (3, 4, fun k => i + 2 + 5 * k) := by
  rcases oc_Ma h with rfl <;> exact ⟨by decide, rfl⟩
theorem el_Ma_states {i : Nat} (h : o_Ma i) {j : Int32} (hj : jj_inb j 4 = true) : o_St (i + 2 + 5 * j.toNatClampNeg) := by
  have h1 := oc_Ma h
  simp only [jj_inb, Bool.and_eq_true, decide_eq_true_eq] at hj
  simp only [o_St, bo_St, Bool.or_eq_true, beq_iff_eq]
  omega
theorem ar_Ma_running {i : Nat} (h : o_Ma i) : oA 0 4 (i + 22) := by
  rcases oc_Ma h with rfl <;> exact ⟨by decide, rfl⟩
theorem ar_Ma_offsets {i : Nat} (h : o_Ma i) : oA 0 4 (i + 23) := by
  rcases oc_Ma h with rfl <;> exact ⟨by decide, rfl⟩
theorem ar_Ma_elements {i : Nat} (h : o_Ma i) : oA 0 64 (i + 24) := by
  rcases oc_Ma h with rfl <;> exact ⟨by decide, rfl⟩
theorem ar_Ma_lengths {i : Nat} (h : o_Ma i) : oA 0 8 (i + 25) := by
  rcases oc_Ma h with rfl <;> exact ⟨by decide, rfl⟩
theorem ar_Mo_file {i : Nat} (h : o_Mo i) : oA 0 240 (i + 1) := by
  rcases oc_Mo h with rfl <;> exact ⟨by decide, rfl⟩
theorem ar_Mo_kept {i : Nat} (h : o_Mo i) : oA 0 240 (i + 2) := by
  rcases oc_Mo h with rfl <;> exact ⟨by decide, rfl⟩
theorem ar_Mo_placeKind {i : Nat} (h : o_Mo i) : oA 0 24 (i + 3) := by
  rcases oc_Mo h with rfl <;> exact ⟨by decide, rfl⟩
theorem ar_Mo_placeValue {i : Nat} (h : o_Mo i) : oA 0 24 (i + 4) := by
  rcases oc_Mo h with rfl <;> exact ⟨by decide, rfl⟩
theorem ar_Mo_stackKind {i : Nat} (h : o_Mo i) : oA 0 24 (i + 5) := by
  rcases oc_Mo h with rfl <;> exact ⟨by decide, rfl⟩
theorem ar_Mo_stackValue {i : Nat} (h : o_Mo i) : oA 0 24 (i + 6) := by
  rcases oc_Mo h with rfl <;> exact ⟨by decide, rfl⟩
theorem ar_Mo_height {i : Nat} (h : o_Mo i) : oA 0 4 (i + 7) := by
  rcases oc_Mo h with rfl <;> exact ⟨by decide, rfl⟩
theorem ar_Mo_where {i : Nat} (h : o_Mo i) : oA 0 4 (i + 8) := by
  rcases oc_Mo h with rfl <;> exact ⟨by decide, rfl⟩
theorem ar_Mo_which {i : Nat} (h : o_Mo i) : oA 0 4 (i + 9) := by
  rcases oc_Mo h with rfl <;> exact ⟨by decide, rfl⟩
theorem ar_Mo_rowSize {i : Nat} (h : o_Mo i) : oA 0 8 (i + 10) := by
  rcases oc_Mo h with rfl <;> exact ⟨by decide, rfl⟩
theorem ar_Mo_cells {i : Nat} (h : o_Mo i) : oA 0 64 (i + 11) := by
  rcases oc_Mo h with rfl <;> exact ⟨by decide, rfl⟩
def boA (k n i : Nat) : Bool := match k, n with
  | 0, 240 => i == 1
  | _, _ => false
theorem ob_A {k n i : Nat} (h : boA k n i = true) : oA k n i := by
  unfold boA at h
  split at h
  · have e : i = 1 := by simpa using h
    subst e
    exact ⟨by decide, rfl⟩
  · cases h
theorem jc_a_m1 (u : Int32) : u + Int32.ofInt (-1) = u + (-1) := rfl
theorem jc_a_1 (u : Int32) : u + Int32.ofInt 1 = u + 1 := rfl
theorem jc_b_6 : (Int8.ofInt 6).toInt32 = 6 := by decide
theorem jc_b_7 : (Int8.ofInt 7).toInt32 = 7 := by decide
theorem jc_b_8 : (Int8.ofInt 8).toInt32 = 8 := by decide
theorem jc_b_16 : (Int8.ofInt 16).toInt32 = 16 := by decide
theorem jc_b_18 : (Int8.ofInt 18).toInt32 = 18 := by decide
theorem jc_b_21 : (Int8.ofInt 21).toInt32 = 21 := by decide
theorem jc_b_24 : (Int8.ofInt 24).toInt32 = 24 := by decide
theorem jc_b_25 : (Int8.ofInt 25).toInt32 = 25 := by decide
theorem jc_b_46 : (Int8.ofInt 46).toInt32 = 46 := by decide
theorem jc_b_54 : (Int8.ofInt 54).toInt32 = 54 := by decide
theorem jc_b_58 : (Int8.ofInt 58).toInt32 = 58 := by decide
theorem jc_b_60 : (Int8.ofInt 60).toInt32 = 60 := by decide
theorem jc_b_79 : (Int8.ofInt 79).toInt32 = 79 := by decide
theorem jc_b_89 : (Int8.ofInt 89).toInt32 = 89 := by decide
theorem jc_b_95 : (Int8.ofInt 95).toInt32 = 95 := by decide
theorem jc_b_108 : (Int8.ofInt 108).toInt32 = 108 := by decide
theorem jc_b_127 : (Int8.ofInt 127).toInt32 = 127 := by decide
theorem jc_i_m1 : Int32.ofInt (-1) = (-1) := by decide
theorem jc_i_0 : Int32.ofInt 0 = 0 := by decide
theorem jc_i_1 : Int32.ofInt 1 = 1 := by decide
theorem jc_i_2 : Int32.ofInt 2 = 2 := by decide
theorem jc_i_3 : Int32.ofInt 3 = 3 := by decide
theorem jc_i_4 : Int32.ofInt 4 = 4 := by decide
theorem jc_i_5 : Int32.ofInt 5 = 5 := by decide
theorem jc_s_128 : (Int16.ofInt 128).toInt32 = 128 := by decide
theorem jc_s_132 : (Int16.ofInt 132).toInt32 = 132 := by decide
theorem jc_s_153 : (Int16.ofInt 153).toInt32 = 153 := by decide
theorem jc_s_158 : (Int16.ofInt 158).toInt32 = 158 := by decide
theorem jc_s_159 : (Int16.ofInt 159).toInt32 = 159 := by decide
theorem jc_s_167 : (Int16.ofInt 167).toInt32 = 167 := by decide
theorem jc_s_172 : (Int16.ofInt 172).toInt32 = 172 := by decide
theorem jc_s_176 : (Int16.ofInt 176).toInt32 = 176 := by decide
theorem jc_s_177 : (Int16.ofInt 177).toInt32 = 177 := by decide
theorem jc_s_184 : (Int16.ofInt 184).toInt32 = 184 := by decide
theorem jc_s_188 : (Int16.ofInt 188).toInt32 = 188 := by decide
theorem jc_s_190 : (Int16.ofInt 190).toInt32 = 190 := by decide
theorem jc_s_198 : (Int16.ofInt 198).toInt32 = 198 := by decide
theorem jc_s_199 : (Int16.ofInt 199).toInt32 = 199 := by decide
theorem jc_s_200 : (Int16.ofInt 200).toInt32 = 200 := by decide
theorem jc_s_202 : (Int16.ofInt 202).toInt32 = 202 := by decide
theorem jc_s_240 : (Int16.ofInt 240).toInt32 = 240 := by decide
theorem jc_s_255 : (Int16.ofInt 255).toInt32 = 255 := by decide
theorem jc_s_256 : (Int16.ofInt 256).toInt32 = 256 := by decide
theorem jc_s_32767 : (Int16.ofInt 32767).toInt32 = 32767 := by decide
