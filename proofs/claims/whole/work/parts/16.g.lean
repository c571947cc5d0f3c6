/-! the judgement of a road that throws: nothing is written on it -/
def jj_G (Y : jj_Y) (X : jj_X) (d : Nat) (M : jj_M) (pc : Nat) (lo : List (Option Value)) (st : List Value) (x : jj_Mem) (Z : State → Prop) (K : Array Value → List Frame → State → State → Prop) : Prop :=
  ∀ (p : Program) (e : Env) (R : Room) (s : State) (m : MethodId) (args : Array Value) (below : List Frame) (meth : Method) (c : Code), jj_fr Y X d M p R s m args meth c ∧ c.exceptionTable.toList = [] ∧ 1 ≤ R.cells ∧ 6 ≤ R.slots ∧ Z s →
    ∀ (ls : Array Slot), va_P X.2.2.1 Y.2.2.1 (jj_ws Y X x) s.heap → jj_has X ls M.2.2.1 lo →
      W p X.1 e R s m args below meth c s.heap [] 0 0 (K args below s) (F0 m pc ls (st.map (jj_v X)))
section JGR
variable {Y : jj_Y} {X : jj_X} {d : Nat} {M : jj_M} {pc : Nat} {lo : List (Option Value)} {st : List Value} {x : jj_Mem} {Z : State → Prop} {K : Array Value → List Frame → State → State → Prop}
theorem gg_iconst {n : Int} {v : Int32} (hd : decode M.2.1 pc = .ok (.iconst n, 1)) (hv : Int32.ofInt n = v) (k : jj_G Y X d M (pc + 1) lo (.int v :: st) x Z K) : jj_G Y X d M pc lo st x Z K := by
  intro p e R s m args below meth c F ls hP hl
  exact lv_iconst F.1.1 F.1.2.1 hd hv (k p e R s m args below meth c F ls hP hl)
theorem gg_bipush {n : Int} {v : Int32} (hd : decode M.2.1 pc = .ok (.bipush n, 2)) (hv : (Int8.ofInt n).toInt32 = v) (k : jj_G Y X d M (pc + 2) lo (.int v :: st) x Z K) : jj_G Y X d M pc lo st x Z K := by
  intro p e R s m args below meth c F ls hP hl
  exact lv_bipush F.1.1 F.1.2.1 hd hv (k p e R s m args below meth c F ls hP hl)
theorem gg_sipush {n : Int} {v : Int32} (hd : decode M.2.1 pc = .ok (.sipush n, 3)) (hv : (Int16.ofInt n).toInt32 = v) (k : jj_G Y X d M (pc + 3) lo (.int v :: st) x Z K) : jj_G Y X d M pc lo st x Z K := by
  intro p e R s m args below meth c F ls hP hl
  exact lv_sipush F.1.1 F.1.2.1 hd hv (k p e R s m args below meth c F ls hP hl)
theorem gg_iload_n {n : Fin 4} {v : Int32} (hd : decode M.2.1 pc = .ok (.iload_n n, 1)) (hl0 : lo[(n : Nat)]? = some (some (.int v))) (k : jj_G Y X d M (pc + 1) lo (.int v :: st) x Z K) : jj_G Y X d M pc lo st x Z K := by
  intro p e R s m args below meth c F ls hP hl
  exact lv_iload_n F.1.1 F.1.2.1 hd rfl (hl.2.2 _ _ hl0) (k p e R s m args below meth c F ls hP hl)
theorem gg_iload {i : Nat} {v : Int32} (hd : decode M.2.1 pc = .ok (.iload i, 2)) (hl0 : lo[i]? = some (some (.int v))) (k : jj_G Y X d M (pc + 2) lo (.int v :: st) x Z K) : jj_G Y X d M pc lo st x Z K := by
  intro p e R s m args below meth c F ls hP hl
  exact lv_iload F.1.1 F.1.2.1 hd (hl.2.2 _ _ hl0) (k p e R s m args below meth c F ls hP hl)
theorem gg_aload_n {n : Fin 4} {v : Nat} (hd : decode M.2.1 pc = .ok (.aload_n n, 1)) (hl0 : lo[(n : Nat)]? = some (some (.ref v))) (k : jj_G Y X d M (pc + 1) lo (.ref v :: st) x Z K) : jj_G Y X d M pc lo st x Z K := by
  intro p e R s m args below meth c F ls hP hl
  exact lv_aload_n F.1.1 F.1.2.1 hd rfl (hl.2.2 _ _ hl0) (k p e R s m args below meth c F ls hP hl)
theorem gg_iadd {a b : Int32} (hd : decode M.2.1 pc = .ok (.iadd, 1)) (k : jj_G Y X d M (pc + 1) lo (.int (a + b) :: st) x Z K) : jj_G Y X d M pc lo (.int b :: .int a :: st) x Z K := by
  intro p e R s m args below meth c F ls hP hl
  exact lv_iadd F.1.1 F.1.2.1 hd (k p e R s m args below meth c F ls hP hl)
theorem gg_goto {off : Int} {tgt : Nat} (hd : decode M.2.1 pc = .ok (.goto off, 3)) (ht : (pc : Int) + off = (tgt : Int)) (k : jj_G Y X d M tgt lo st x Z K) : jj_G Y X d M pc lo st x Z K := by
  intro p e R s m args below meth c F ls hP hl
  exact lv_goto F.1.1 F.1.2.1 hd ht (k p e R s m args below meth c F ls hP hl)
theorem gg_if_eq {a : Int32} {off : Int} {tgt : Nat} (hd : decode M.2.1 pc = .ok (.ifCond .eq off, 3)) (ht : (pc : Int) + off = (tgt : Int)) (kt : a = 0 → jj_G Y X d M tgt lo st x Z K) (kf : ¬ a = 0 → jj_G Y X d M (pc + 3) lo st x Z K) : jj_G Y X d M pc lo (.int a :: st) x Z K := by
  intro p e R s m args below meth c F ls hP hl
  exact lv_if_eq F.1.1 F.1.2.1 hd ht (fun hc => kt hc p e R s m args below meth c F ls hP hl) (fun hc => kf hc p e R s m args below meth c F ls hP hl)
theorem gg_if_ne {a : Int32} {off : Int} {tgt : Nat} (hd : decode M.2.1 pc = .ok (.ifCond .ne off, 3)) (ht : (pc : Int) + off = (tgt : Int)) (kt : ¬ a = 0 → jj_G Y X d M tgt lo st x Z K) (kf : a = 0 → jj_G Y X d M (pc + 3) lo st x Z K) : jj_G Y X d M pc lo (.int a :: st) x Z K := by
  intro p e R s m args below meth c F ls hP hl
  exact lv_if_ne F.1.1 F.1.2.1 hd ht (fun hc => kt hc p e R s m args below meth c F ls hP hl) (fun hc => kf hc p e R s m args below meth c F ls hP hl)
theorem gg_if_lt {a : Int32} {off : Int} {tgt : Nat} (hd : decode M.2.1 pc = .ok (.ifCond .lt off, 3)) (ht : (pc : Int) + off = (tgt : Int)) (kt : a < 0 → jj_G Y X d M tgt lo st x Z K) (kf : ¬ a < 0 → jj_G Y X d M (pc + 3) lo st x Z K) : jj_G Y X d M pc lo (.int a :: st) x Z K := by
  intro p e R s m args below meth c F ls hP hl
  exact lv_if_lt F.1.1 F.1.2.1 hd ht (fun hc => kt hc p e R s m args below meth c F ls hP hl) (fun hc => kf hc p e R s m args below meth c F ls hP hl)
theorem gg_if_ge {a : Int32} {off : Int} {tgt : Nat} (hd : decode M.2.1 pc = .ok (.ifCond .ge off, 3)) (ht : (pc : Int) + off = (tgt : Int)) (kt : 0 ≤ a → jj_G Y X d M tgt lo st x Z K) (kf : ¬ 0 ≤ a → jj_G Y X d M (pc + 3) lo st x Z K) : jj_G Y X d M pc lo (.int a :: st) x Z K := by
  intro p e R s m args below meth c F ls hP hl
  exact lv_if_ge F.1.1 F.1.2.1 hd ht (fun hc => kt hc p e R s m args below meth c F ls hP hl) (fun hc => kf hc p e R s m args below meth c F ls hP hl)
theorem gg_if_gt {a : Int32} {off : Int} {tgt : Nat} (hd : decode M.2.1 pc = .ok (.ifCond .gt off, 3)) (ht : (pc : Int) + off = (tgt : Int)) (kt : 0 < a → jj_G Y X d M tgt lo st x Z K) (kf : ¬ 0 < a → jj_G Y X d M (pc + 3) lo st x Z K) : jj_G Y X d M pc lo (.int a :: st) x Z K := by
  intro p e R s m args below meth c F ls hP hl
  exact lv_if_gt F.1.1 F.1.2.1 hd ht (fun hc => kt hc p e R s m args below meth c F ls hP hl) (fun hc => kf hc p e R s m args below meth c F ls hP hl)
theorem gg_if_le {a : Int32} {off : Int} {tgt : Nat} (hd : decode M.2.1 pc = .ok (.ifCond .le off, 3)) (ht : (pc : Int) + off = (tgt : Int)) (kt : a ≤ 0 → jj_G Y X d M tgt lo st x Z K) (kf : ¬ a ≤ 0 → jj_G Y X d M (pc + 3) lo st x Z K) : jj_G Y X d M pc lo (.int a :: st) x Z K := by
  intro p e R s m args below meth c F ls hP hl
  exact lv_if_le F.1.1 F.1.2.1 hd ht (fun hc => kt hc p e R s m args below meth c F ls hP hl) (fun hc => kf hc p e R s m args below meth c F ls hP hl)
theorem gg_ic_eq {a b : Int32} {off : Int} {tgt : Nat} (hd : decode M.2.1 pc = .ok (.if_icmp .eq off, 3)) (ht : (pc : Int) + off = (tgt : Int)) (kt : a = b → jj_G Y X d M tgt lo st x Z K) (kf : ¬ a = b → jj_G Y X d M (pc + 3) lo st x Z K) : jj_G Y X d M pc lo (.int b :: .int a :: st) x Z K := by
  intro p e R s m args below meth c F ls hP hl
  exact lv_icmp_eq F.1.1 F.1.2.1 hd ht (fun hc => kt hc p e R s m args below meth c F ls hP hl) (fun hc => kf hc p e R s m args below meth c F ls hP hl)
theorem gg_ic_ne {a b : Int32} {off : Int} {tgt : Nat} (hd : decode M.2.1 pc = .ok (.if_icmp .ne off, 3)) (ht : (pc : Int) + off = (tgt : Int)) (kt : ¬ a = b → jj_G Y X d M tgt lo st x Z K) (kf : a = b → jj_G Y X d M (pc + 3) lo st x Z K) : jj_G Y X d M pc lo (.int b :: .int a :: st) x Z K := by
  intro p e R s m args below meth c F ls hP hl
  exact lv_icmp_ne F.1.1 F.1.2.1 hd ht (fun hc => kt hc p e R s m args below meth c F ls hP hl) (fun hc => kf hc p e R s m args below meth c F ls hP hl)
theorem gg_ic_lt {a b : Int32} {off : Int} {tgt : Nat} (hd : decode M.2.1 pc = .ok (.if_icmp .lt off, 3)) (ht : (pc : Int) + off = (tgt : Int)) (kt : a < b → jj_G Y X d M tgt lo st x Z K) (kf : ¬ a < b → jj_G Y X d M (pc + 3) lo st x Z K) : jj_G Y X d M pc lo (.int b :: .int a :: st) x Z K := by
  intro p e R s m args below meth c F ls hP hl
  exact lv_icmp_lt F.1.1 F.1.2.1 hd ht (fun hc => kt hc p e R s m args below meth c F ls hP hl) (fun hc => kf hc p e R s m args below meth c F ls hP hl)
theorem gg_ic_ge {a b : Int32} {off : Int} {tgt : Nat} (hd : decode M.2.1 pc = .ok (.if_icmp .ge off, 3)) (ht : (pc : Int) + off = (tgt : Int)) (kt : b ≤ a → jj_G Y X d M tgt lo st x Z K) (kf : ¬ b ≤ a → jj_G Y X d M (pc + 3) lo st x Z K) : jj_G Y X d M pc lo (.int b :: .int a :: st) x Z K := by
  intro p e R s m args below meth c F ls hP hl
  exact lv_icmp_ge F.1.1 F.1.2.1 hd ht (fun hc => kt hc p e R s m args below meth c F ls hP hl) (fun hc => kf hc p e R s m args below meth c F ls hP hl)
theorem gg_ic_gt {a b : Int32} {off : Int} {tgt : Nat} (hd : decode M.2.1 pc = .ok (.if_icmp .gt off, 3)) (ht : (pc : Int) + off = (tgt : Int)) (kt : b < a → jj_G Y X d M tgt lo st x Z K) (kf : ¬ b < a → jj_G Y X d M (pc + 3) lo st x Z K) : jj_G Y X d M pc lo (.int b :: .int a :: st) x Z K := by
  intro p e R s m args below meth c F ls hP hl
  exact lv_icmp_gt F.1.1 F.1.2.1 hd ht (fun hc => kt hc p e R s m args below meth c F ls hP hl) (fun hc => kf hc p e R s m args below meth c F ls hP hl)
theorem gg_ic_le {a b : Int32} {off : Int} {tgt : Nat} (hd : decode M.2.1 pc = .ok (.if_icmp .le off, 3)) (ht : (pc : Int) + off = (tgt : Int)) (kt : a ≤ b → jj_G Y X d M tgt lo st x Z K) (kf : ¬ a ≤ b → jj_G Y X d M (pc + 3) lo st x Z K) : jj_G Y X d M pc lo (.int b :: .int a :: st) x Z K := by
  intro p e R s m args below meth c F ls hP hl
  exact lv_icmp_le F.1.1 F.1.2.1 hd ht (fun hc => kt hc p e R s m args below meth c F ls hP hl) (fun hc => kf hc p e R s m args below meth c F ls hP hl)
theorem gg_getV {i idx ci k : Nat} {fs : List (Option (Option Nat))} {f : Option (Option Nat)} {u : Value} (hd : decode M.2.1 pc = .ok (.getfield idx, 3)) (hk : jj_fk Y M.1.cls idx ci k) (hi : i < Y.2.1) (hs : Y.1 i = .inr (ci, fs)) (hf : fs[k]? = some f) (hu : jj_fv X f (x i k) = jj_v X u) (kk : jj_G Y X d M (pc + 3) lo (u :: st) x Z K) : jj_G Y X d M pc lo (.ref i :: st) x Z K := by
  intro p e R s m args below meth c F ls hP hl
  obtain ⟨hx, hb, -, hown, -, -, -, hK, -, -, -, -, hts⟩ := id F.1
  obtain ⟨C, T, N, hc, hkN, hin, hlk⟩ := hk
  refine va_get (D := X.2.2.1) (ci := ci) (v := jj_v X u) (C := C) (T := T) (N := N) hx hb hts hin hown hK hP i (fs := jj_fl X (x i) 0 fs) (by rw [jj_ws_get hi, hs]; rfl) hc k hkN (hts _ hlk) (fun _ h => h) ?_ hd (kk p e R s m args below meth c F ls hP hl)
  rw [jj_fl_get X (x i) fs 0 k f hf, Nat.zero_add, hu]
theorem gg_getI {i idx ci k : Nat} {fs : List (Option (Option Nat))} {v : Int32} (hd : decode M.2.1 pc = .ok (.getfield idx, 3)) (hk : jj_fk Y M.1.cls idx ci k) (hi : i < Y.2.1) (hs : Y.1 i = .inr (ci, fs)) (hf : fs[k]? = some none) (hv : x i k = v) (kk : jj_G Y X d M (pc + 3) lo (.int v :: st) x Z K) : jj_G Y X d M pc lo (.ref i :: st) x Z K := gg_getV hd hk hi hs hf (by rw [hv]; rfl) kk
theorem gg_getD {i idx ci k j : Nat} {fs : List (Option (Option Nat))} (hd : decode M.2.1 pc = .ok (.getfield idx, 3)) (hk : jj_fk Y M.1.cls idx ci k) (hi : i < Y.2.1) (hs : Y.1 i = .inr (ci, fs)) (hf : fs[k]? = some (some none)) (hv : (x i k).toNatClampNeg = j) (kk : jj_G Y X d M (pc + 3) lo (.ref j :: st) x Z K) : jj_G Y X d M pc lo (.ref i :: st) x Z K := gg_getV hd hk hi hs hf (by rw [← hv]; rfl) kk
end JGR
/-- how such a road ends: an exception of that kind, new; nothing old is written -/
def je_Q (cls : String) (st : State) (o : Outcome) (t : State) : Prop := ∃ (q : Addr) (ce : Cell), o = .threw q ∧ st.heap.size ≤ q ∧ st.WarmedH t.vm ∧ st.sameButNew ({ t with vm := st.vm } : State) [] 1 6 ∧ t.heap[q]? = some ce ∧ st.vm.findClass cls = some ce.cls ∧ ce.vm = .none
def je_K (cls : String) : Array Value → List Frame → State → State → Prop := fun _ below s t => ∃ o, t.status = .running ∧ Ended t below o ∧ je_Q cls s o t
def je_str (s0 : State) : Prop := ∀ q ∈ ([(46, "n is not 1 .. 8"), (57, "the file would have more than 240 bytes"), (62, "there is no such byte"), (65, "b is not 0 .. 255"), (81, "there is no program"), (95, "there is no such method")] : List (Nat × String)), ∃ a, vk_R "VerifiedCode" q.1 q.2 a s0
set_option maxHeartbeats 1000000 in
theorem gg_throw {X : jj_X} {d : Nat} {M : jj_M} {pc idx ic sx : Nat} {cls tx : String} {lo : List (Option Value)} {x : jj_Mem} {s0 : State} {args0 : Array Value} (hB : je_base s0 args0) (hT : je_str s0) (htr : X.1.stackTraces = false) (hM : M.1.cls = "VerifiedCode")
    (hd0 : decode M.2.1 pc = .ok (.new idx, 3)) (hd3 : decode M.2.1 (pc + 3) = .ok (.dup, 1)) (hd4 : decode M.2.1 (pc + 4) = .ok (.ldc sx, 2)) (hd6 : decode M.2.1 (pc + 6) = .ok (.invokespecial ic, 3)) (hd9 : decode M.2.1 (pc + 9) = .ok (.athrow, 1))
    (h1 : Cond.classLink "VerifiedCode" idx cls ∈ j_W) (h2 : Cond.instantiable cls 6 ∈ j_W) (h3 : Cond.initialized cls ∈ j_W) (hfit : Bundle.fit cls = true) (hin : je_in (Bundle.ownAtoms "VerifiedCode" ic cls je_N) = true) (hsx : (sx, tx) ∈ ([(46, "n is not 1 .. 8"), (57, "the file would have more than 240 bytes"), (62, "there is no such byte"), (65, "b is not 0 .. 255"), (81, "there is no program"), (95, "there is no such method")] : List (Nat × String))) (hd : 6 ≤ d) :
    jj_G Y0 X d M pc lo [] x (je_O s0) (je_K cls) := by
  intro p e R s m args below meth c F ls hP hl
  obtain ⟨⟨hx, hb, hml, hown, hrt, hlk, hw, hK, hfr, hlo, hok, hsz, hts⟩, hex, hc1, hs6, hO⟩ := F
  rw [hM] at hown
  refine W.newc hx hb hown (hts _ h1) (hts _ h2) (hts _ h3) rfl hd0 (by omega) (by omega) (fun cC kC g1 g2 g3 g4 => ?_)
  refine W.eq (g2 := F0 m (pc + 3) ls [.ref s.heap.size]) rfl ?_
  refine lv_dup hx hb hd3 rfl ?_
  obtain ⟨q, hq⟩ := hT _ hsx
  refine va_ldcS hx hb hown (vk_R.warm hO.1 hq) hd4 ?_
  intro T hT2 Z
  have htr' : e.platform.stackTraces = false := by rw [Z.admits.platform]; exact htr
  obtain ⟨U, a1, a2, a3, a4, a5, ce, a6, a7⟩ := Z.ctorThrowS hx htr' hown hfit (names := je_N) (by decide +kernel) (je_all hB hO hin args) (fun y hy => by cases hy) (a := s.heap.size) g1 g2 (by rw [hT2]; simp [Array.getElem?_push]) (Nat.le_refl _) (msg := .ref q) rfl (g := F0 m (pc + 4 + 2) ls [.ref q, .ref s.heap.size, .ref s.heap.size]) rfl (hl.1.trans hml.symm) rfl rfl (rest := []) rfl (by rw [hb]; exact hd6) (by rw [hb]; exact hd9) (by rw [hex]; intro y hy; cases hy) (by show 2 + 3 < R.frames; omega) (by show 2 * 0 + 1 + (13 * (2 + 1) + 42) ≤ R.locals; omega) hlk
  exact ⟨U, a1, .threw s.heap.size, a2, a3, s.heap.size, ce, rfl, Nat.le_refl _, a4, a5, a6, a7.cls, a7.vm⟩
