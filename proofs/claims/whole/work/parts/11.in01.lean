theorem jj_l1 {l : List Int32} (h : l.length = 1) : ∃ a, l = [a] := by
  match l, h with
  | [a], _ => exact ⟨a, rfl⟩
theorem jj_l2 {l : List Int32} (h : l.length = 2) : ∃ a b, l = [a, b] := by
  match l, h with
  | [a, b], _ => exact ⟨a, b, rfl⟩
theorem jj_l3 {l : List Int32} (h : l.length = 3) : ∃ a b c, l = [a, b, c] := by
  match l, h with
  | [a, b, c], _ => exact ⟨a, b, c, rfl⟩
def s_In_hasPlace (a1 : Int32) : Option Int32 := se_run true 1 (fun _ => none) (se_code m_In_hasPlace.2.1) 400 0 [a1] []
theorem c_In_hasPlace {X : jj_X} {d : Nat} {a1 : Int32} {x : jj_Mem} {v : Int32} (h : s_In_hasPlace a1 = some v) : jj_Met Y0 X (d + 0) m_In_hasPlace [.int a1] x (jp_i (v, x)) := by
  refine jj_metp 0 (lo := [some (.int a1)]) rfl (Nat.le_of_ble_eq_true rfl) rfl ?_
  exact jj_J.sub (se_sound0 (Y := Y0) (X := X) (d := d + 0) (M := m_In_hasPlace) (x := x) rfl rfl (fun _ _ h => se_code_ok h) 400 0 [a1] [] v h) (fun i u hi => jj_pad 0 hi)
def s_In_hasTarget (a1 : Int32) : Option Int32 := se_run true 1 (fun _ => none) (se_code m_In_hasTarget.2.1) 400 0 [a1] []
theorem c_In_hasTarget {X : jj_X} {d : Nat} {a1 : Int32} {x : jj_Mem} {v : Int32} (h : s_In_hasTarget a1 = some v) : jj_Met Y0 X (d + 0) m_In_hasTarget [.int a1] x (jp_i (v, x)) := by
  refine jj_metp 0 (lo := [some (.int a1)]) rfl (Nat.le_of_ble_eq_true rfl) rfl ?_
  exact jj_J.sub (se_sound0 (Y := Y0) (X := X) (d := d + 0) (M := m_In_hasTarget) (x := x) rfl rfl (fun _ _ h => se_code_ok h) 400 0 [a1] [] v h) (fun i u hi => jj_pad 0 hi)
def s_In_isReturn (a1 : Int32) : Option Int32 := se_run true 1 (fun _ => none) (se_code m_In_isReturn.2.1) 400 0 [a1] []
theorem c_In_isReturn {X : jj_X} {d : Nat} {a1 : Int32} {x : jj_Mem} {v : Int32} (h : s_In_isReturn a1 = some v) : jj_Met Y0 X (d + 0) m_In_isReturn [.int a1] x (jp_i (v, x)) := by
  refine jj_metp 0 (lo := [some (.int a1)]) rfl (Nat.le_of_ble_eq_true rfl) rfl ?_
  exact jj_J.sub (se_sound0 (Y := Y0) (X := X) (d := d + 0) (M := m_In_isReturn) (x := x) rfl rfl (fun _ _ h => se_code_ok h) 400 0 [a1] [] v h) (fun i u hi => jj_pad 0 hi)
def s_In_puts (a1 : Int32) : Option Int32 := se_run false 1 (fun _ => none) (se_code m_In_puts.2.1) 400 0 [a1] []
theorem c_In_puts {X : jj_X} {d : Nat} {a1 : Int32} {x : jj_Mem} {v : Int32} (h : s_In_puts a1 = some v) : jj_Met Y0 X (d + 0) m_In_puts [.int a1] x (jp_i (v, x)) := by
  refine jj_metp 0 (lo := [some (.int a1)]) rfl (Nat.le_of_ble_eq_true rfl) rfl ?_
  exact jj_J.sub (se_sound0 (Y := Y0) (X := X) (d := d + 0) (M := m_In_puts) (x := x) rfl rfl (fun _ _ h => se_code_ok h) 400 0 [a1] [] v h) (fun i u hi => jj_pad 0 hi)
def s_In_takes (a1 : Int32) : Option Int32 := se_run false 1 (fun _ => none) (se_code m_In_takes.2.1) 400 0 [a1] []
theorem c_In_takes {X : jj_X} {d : Nat} {a1 : Int32} {x : jj_Mem} {v : Int32} (h : s_In_takes a1 = some v) : jj_Met Y0 X (d + 0) m_In_takes [.int a1] x (jp_i (v, x)) := by
  refine jj_metp 0 (lo := [some (.int a1)]) rfl (Nat.le_of_ble_eq_true rfl) rfl ?_
  exact jj_J.sub (se_sound0 (Y := Y0) (X := X) (d := d + 0) (M := m_In_takes) (x := x) rfl rfl (fun _ _ h => se_code_ok h) 400 0 [a1] [] v h) (fun i u hi => jj_pad 0 hi)
def s_In_typeOfPlace (a1 : Int32) : Option Int32 := se_run false 1 (fun _ => none) (se_code m_In_typeOfPlace.2.1) 400 0 [a1] []
theorem c_In_typeOfPlace {X : jj_X} {d : Nat} {a1 : Int32} {x : jj_Mem} {v : Int32} (h : s_In_typeOfPlace a1 = some v) : jj_Met Y0 X (d + 0) m_In_typeOfPlace [.int a1] x (jp_i (v, x)) := by
  refine jj_metp 0 (lo := [some (.int a1)]) rfl (Nat.le_of_ble_eq_true rfl) rfl ?_
  exact jj_J.sub (se_sound0 (Y := Y0) (X := X) (d := d + 0) (M := m_In_typeOfPlace) (x := x) rfl rfl (fun _ _ h => se_code_ok h) 400 0 [a1] [] v h) (fun i u hi => jj_pad 0 hi)
def s_In_typeOfReturn (a1 : Int32) : Option Int32 := se_run false 1 (fun _ => none) (se_code m_In_typeOfReturn.2.1) 400 0 [a1] []
theorem c_In_typeOfReturn {X : jj_X} {d : Nat} {a1 : Int32} {x : jj_Mem} {v : Int32} (h : s_In_typeOfReturn a1 = some v) : jj_Met Y0 X (d + 0) m_In_typeOfReturn [.int a1] x (jp_i (v, x)) := by
  refine jj_metp 0 (lo := [some (.int a1)]) rfl (Nat.le_of_ble_eq_true rfl) rfl ?_
  exact jj_J.sub (se_sound0 (Y := Y0) (X := X) (d := d + 0) (M := m_In_typeOfReturn) (x := x) rfl rfl (fun _ _ h => se_code_ok h) 400 0 [a1] [] v h) (fun i u hi => jj_pad 0 hi)
def s_In_typeTaken (a1 a2 : Int32) : Option Int32 := se_run false 2 (fun _ => none) (se_code m_In_typeTaken.2.1) 400 0 [a1, a2] []
theorem c_In_typeTaken {X : jj_X} {d : Nat} {a1 a2 : Int32} {x : jj_Mem} {v : Int32} (h : s_In_typeTaken a1 a2 = some v) : jj_Met Y0 X (d + 0) m_In_typeTaken [.int a1, .int a2] x (jp_i (v, x)) := by
  refine jj_metp 0 (lo := [some (.int a1), some (.int a2)]) rfl (Nat.le_of_ble_eq_true rfl) rfl ?_
  exact jj_J.sub (se_sound0 (Y := Y0) (X := X) (d := d + 0) (M := m_In_typeTaken) (x := x) rfl rfl (fun _ _ h => se_code_ok h) 400 0 [a1, a2] [] v h) (fun i u hi => jj_pad 0 hi)
def sc_In_length : Nat → Option (Nat × (List Int32 → Option Int32)) := fun k => match k with
  | 11 => some (1, fun l => match l with | [b0] => s_In_hasTarget b0 | _ => none)
  | _ => none
def s_In_length (a1 : Int32) : Option Int32 := se_run false 1 (sc_In_length) (se_code m_In_length.2.1) 400 0 [a1] []
theorem c_In_length {X : jj_X} {d : Nat} {a1 : Int32} {x : jj_Mem} {v : Int32} (h : s_In_length a1 = some v) : jj_Met Y0 X (d + 1) m_In_length [.int a1] x (jp_i (v, x)) := by
  refine jj_metp 0 (lo := [some (.int a1)]) rfl (Nat.le_of_ble_eq_true rfl) rfl ?_
  refine jj_J.sub (se_sound (Y := Y0) (X := X) (D := d + 1) (M := m_In_length) (x := x) rfl rfl (fun _ _ h => se_code_ok h) ?_ 400 0 [a1] [] v h) (fun i u hi => jj_pad 0 hi)
  intro idx n g hc
  unfold sc_In_length at hc
  split at hc
  · cases hc
    refine ⟨d + 0, m_In_hasTarget, rfl, Or.inl ck_In_11, fun as w hl hg => ?_⟩
    obtain ⟨b0, rfl⟩ := jj_l1 hl
    exact c_In_hasTarget (d := d + 0) hg
  · cases hc
