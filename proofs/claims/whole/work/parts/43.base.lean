/-! PURE: small numbers as ints, what the machine's ints do with them -/
theorem nA (a b : Nat) : nI a + nI b = nI (a + b) := by
  show Int32.ofNat a + Int32.ofNat b = Int32.ofNat (a + b)
  exact (Int32.ofNat_add a b).symm
theorem nM (a b : Nat) : nI a * nI b = nI (a * b) := by
  show Int32.ofNat a * Int32.ofNat b = Int32.ofNat (a * b)
  exact (Int32.ofNat_mul a b).symm
theorem nS {a b : Nat} (h : b ≤ a) : nI a - nI b = nI (a - b) := by
  have e : nI a = nI (a - b) + nI b := by rw [nA]; congr 1; omega
  rw [e, Int32.add_sub_cancel]
theorem nLT {a b : Nat} (h : a ≤ b) (hb : b < 2147483648) : (nI a ≤ nI b) = True := eq_true (by
  rw [Int32.le_iff_toInt_le, nI_toInt (by omega), nI_toInt (by omega)]; omega)
theorem nLF {a b : Nat} (h : b < a) (ha : a < 2147483648) : (nI a ≤ nI b) = False := eq_false (by
  rw [Int32.le_iff_toInt_le, nI_toInt (by omega), nI_toInt (by omega)]; omega)
theorem nTT {a b : Nat} (h : a < b) (hb : b < 2147483648) : (nI a < nI b) = True := eq_true (by
  rw [Int32.lt_iff_toInt_lt, nI_toInt (by omega), nI_toInt (by omega)]; omega)
theorem nTF {a b : Nat} (h : b ≤ a) (ha : a < 2147483648) : (nI a < nI b) = False := eq_false (by
  rw [Int32.lt_iff_toInt_lt, nI_toInt (by omega), nI_toInt (by omega)]; omega)
theorem nEF {a b : Nat} (h : a ≠ b) (ha : a < 2147483648) (hb : b < 2147483648) : (nI a = nI b) = False := eq_false (fun e => by
  have := congrArg Int32.toInt e
  rw [nI_toInt (by omega), nI_toInt (by omega)] at this
  omega)
theorem nET {a b : Nat} (h : a = b) : (nI a = nI b) = True := eq_true (by rw [h])
theorem nBT {a n : Nat} (h : a < n) (hn : n < 2147483648) : (jj_inb (nI a) n = true) = True := eq_true (jj_inb_nI h (by omega))
theorem nBF {a n : Nat} (h : n ≤ a) (hn : a < 2147483648) : (jj_inb (nI a) n = true) = False := eq_false (by
  simp only [jj_inb, Bool.and_eq_true, Bool.not_eq_true', decide_eq_false_iff_not, decide_eq_true_eq]
  rw [nI_clamp (by omega)]
  omega)
theorem nC {a : Nat} (h : a < 2147483648) : Int32.toNatClampNeg (nI a) = a := nI_clamp (by omega)
theorem nNF {a : Nat} (h : a < 2147483648) : (nI a = -1) = False := eq_false (fun e => by
  have := congrArg Int32.toInt e
  rw [nI_toInt (by omega)] at this
  have : (-1 : Int32).toInt = -1 := rfl
  omega)
theorem li_0 : (0 : Int32) = nI 0 := rfl
theorem li_1 : (1 : Int32) = nI 1 := rfl
theorem li_2 : (2 : Int32) = nI 2 := rfl
theorem li_3 : (3 : Int32) = nI 3 := rfl
theorem li_4 : (4 : Int32) = nI 4 := rfl
theorem li_5 : (5 : Int32) = nI 5 := rfl
theorem li_6 : (6 : Int32) = nI 6 := rfl
theorem li_7 : (7 : Int32) = nI 7 := rfl
theorem li_8 : (8 : Int32) = nI 8 := rfl
theorem li_16 : (16 : Int32) = nI 16 := rfl
theorem li_18 : (18 : Int32) = nI 18 := rfl
theorem li_21 : (21 : Int32) = nI 21 := rfl
theorem li_25 : (25 : Int32) = nI 25 := rfl
theorem li_46 : (46 : Int32) = nI 46 := rfl
theorem li_54 : (54 : Int32) = nI 54 := rfl
theorem li_58 : (58 : Int32) = nI 58 := rfl
theorem li_60 : (60 : Int32) = nI 60 := rfl
theorem li_79 : (79 : Int32) = nI 79 := rfl
theorem li_87 : (87 : Int32) = nI 87 := rfl
theorem li_89 : (89 : Int32) = nI 89 := rfl
theorem li_95 : (95 : Int32) = nI 95 := rfl
theorem li_96 : (96 : Int32) = nI 96 := rfl
theorem li_100 : (100 : Int32) = nI 100 := rfl
theorem li_104 : (104 : Int32) = nI 104 := rfl
theorem li_108 : (108 : Int32) = nI 108 := rfl
theorem li_116 : (116 : Int32) = nI 116 := rfl
theorem li_127 : (127 : Int32) = nI 127 := rfl
theorem li_128 : (128 : Int32) = nI 128 := rfl
theorem li_132 : (132 : Int32) = nI 132 := rfl
theorem li_153 : (153 : Int32) = nI 153 := rfl
theorem li_158 : (158 : Int32) = nI 158 := rfl
theorem li_159 : (159 : Int32) = nI 159 := rfl
theorem li_164 : (164 : Int32) = nI 164 := rfl
theorem li_167 : (167 : Int32) = nI 167 := rfl
theorem li_172 : (172 : Int32) = nI 172 := rfl
theorem li_176 : (176 : Int32) = nI 176 := rfl
theorem li_177 : (177 : Int32) = nI 177 := rfl
theorem li_184 : (184 : Int32) = nI 184 := rfl
theorem li_188 : (188 : Int32) = nI 188 := rfl
theorem li_190 : (190 : Int32) = nI 190 := rfl
theorem li_198 : (198 : Int32) = nI 198 := rfl
theorem li_199 : (199 : Int32) = nI 199 := rfl
theorem li_200 : (200 : Int32) = nI 200 := rfl
theorem li_202 : (202 : Int32) = nI 202 := rfl
theorem li_240 : (240 : Int32) = nI 240 := rfl
theorem li_255 : (255 : Int32) = nI 255 := rfl
theorem li_256 : (256 : Int32) = nI 256 := rfl
theorem li_32767 : (32767 : Int32) = nI 32767 := rfl
theorem li_32768 : (32768 : Int32) = nI 32768 := rfl
theorem li_65536 : (65536 : Int32) = nI 65536 := rfl

theorem nInj {a b : Nat} (ha : a < 2147483648) (hb : b < 2147483648) (h : nI a = nI b) : a = b := by
  have := congrArg Int32.toInt h
  rw [nI_toInt (by omega), nI_toInt (by omega)] at this
  omega
/-! the tables of the instructions, by their first byte -/
def z_jmp (b : Nat) : Bool := (153 ≤ b && b ≤ 164) || b == 167 || b == 198 || b == 199
def z_nam (b : Nat) : Bool := b == 21 || b == 25 || b == 54 || b == 58 || b == 132
def z_ret (b : Nat) : Bool := b == 172 || b == 176 || b == 177
def z_len (b : Nat) : Nat := if z_jmp b || b == 132 then 3 else if z_nam b || b == 16 || b == 18 || b == 184 then 2 else if b == 1 || b == 46 || b == 79 || b == 87 || b == 89 || b == 95 || b == 96 || b == 100 || b == 104 || b == 108 || b == 116 || z_ret b || b == 188 || b == 190 then 1 else 0
/-- the types that it takes, the lowest first; 0: any -/
def z_tk (b : Nat) : List Nat :=
  if 153 ≤ b && b ≤ 158 then [1] else if 159 ≤ b && b ≤ 164 then [1, 1] else
  if b == 96 || b == 100 || b == 104 || b == 108 then [1, 1] else
  if b == 54 || b == 116 || b == 172 || b == 188 then [1] else
  if b == 58 || b == 176 || b == 190 || b == 198 || b == 199 then [2] else
  if b == 87 || b == 89 then [0] else if b == 95 then [0, 0] else
  if b == 46 then [2, 1] else if b == 79 then [2, 1, 1] else []
/-- how many it puts -/
def z_pt (b : Nat) : Nat := if b == 89 || b == 95 then 2 else if b == 1 || b == 16 || b == 18 || b == 21 || b == 25 || b == 46 || b == 96 || b == 100 || b == 104 || b == 108 || b == 116 || b == 188 || b == 190 then 1 else 0
/-- of which type -/
def z_py (b : Nat) : Nat := if b == 1 then 3 else if b == 188 then 2 else 1
def z_tp (b : Nat) : Nat := if b == 21 || b == 132 then 1 else if b == 25 then 2 else 0
def z_tr (b : Nat) : Nat := if b == 172 then 1 else if b == 176 then 2 else 0
def z_b (b : Bool) : Nat := if b then 1 else 0
theorem zt_len : ∀ b, b < 256 → s_In_length (nI b) = some (nI (z_len b)) := by decide +kernel
theorem zt_hasTarget : ∀ b, b < 256 → z_len b ≠ 0 → s_In_hasTarget (nI b) = some (nI (z_b (z_jmp b))) := by decide +kernel
theorem zt_hasPlace : ∀ b, b < 256 → z_len b ≠ 0 → s_In_hasPlace (nI b) = some (nI (z_b (z_nam b))) := by decide +kernel
theorem zt_isReturn : ∀ b, b < 256 → z_len b ≠ 0 → s_In_isReturn (nI b) = some (nI (z_b (z_ret b))) := by decide +kernel
theorem zt_takes : ∀ b, b < 256 → z_len b ≠ 0 → s_In_takes (nI b) = some (nI (z_tk b).length) := by decide +kernel
theorem zt_puts : ∀ b, b < 256 → z_len b ≠ 0 → s_In_puts (nI b) = some (nI (z_pt b)) := by decide +kernel
theorem zt_typeOfPlace : ∀ b, b < 256 → z_len b ≠ 0 → s_In_typeOfPlace (nI b) = some (nI (z_tp b)) := by decide +kernel
theorem zt_typeOfReturn : ∀ b, b < 256 → z_len b ≠ 0 → s_In_typeOfReturn (nI b) = some (nI (z_tr b)) := by decide +kernel
theorem zt_typeTaken : ∀ b, b < 256 → ∀ k, k < (z_tk b).length → s_In_typeTaken (nI b) (nI k) = some (nI ((z_tk b)[k]!)) := by decide +kernel
theorem zm_bytes : ∀ b, b < 256 → s_Mo_bytes (nI b) = some (nI (z_len b)) := by decide +kernel
theorem zm_jumps : ∀ b, b < 256 → z_len b ≠ 0 → s_Mo_jumps (nI b) = some (nI (z_b (z_jmp b))) := by decide +kernel
theorem zm_names : ∀ b, b < 256 → z_len b ≠ 0 → s_Mo_names (nI b) = some (nI (z_b (z_nam b))) := by decide +kernel
theorem zm_returns : ∀ b, b < 256 → z_len b ≠ 0 → s_Mo_returns (nI b) = some (nI (z_b (z_ret b))) := by decide +kernel
/-- as the reference counts: from the highest, 3 for any, 0 for no more -/
def z_nd (t : List Nat) (k : Nat) : Nat := if k < t.length then (if t[t.length - 1 - k]! = 0 then 3 else t[t.length - 1 - k]!) else 0
theorem z_len3 : ∀ b, b < 256 → z_len b ≤ 3 := by decide +kernel
theorem z_tk3 : ∀ b, b < 256 → (z_tk b).length ≤ 3 := by decide +kernel
