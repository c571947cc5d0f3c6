/-! names: the objects' kinds, their fields, the methods -/
def jR_VC : String := "VerifiedCode"
def jF_VC : u_T := fun k => match k with
  | 0 => ("VerifiedCode", "typed", "[I", true)
  | 1 => ("VerifiedCode", "typedCount", "I", false)
  | 2 => ("VerifiedCode", "program", "LVerifiedCode$Program;", false)
  | 3 => ("VerifiedCode", "spare", "LVerifiedCode$Program;", false)
  | 4 => ("VerifiedCode", "reader", "LVerifiedCode$Reader;", true)
  | 5 => ("VerifiedCode", "checker", "LVerifiedCode$Checker;", true)
  | _ => ("VerifiedCode", "machine", "LVerifiedCode$Machine;", true)
def jt_VC : Nat → FieldType := fun k => match k with
  | 0 => (.array .int)
  | 1 => .int
  | 2 => (.object "VerifiedCode$Program")
  | 3 => (.object "VerifiedCode$Program")
  | 4 => (.object "VerifiedCode$Reader")
  | 5 => (.object "VerifiedCode$Checker")
  | _ => (.object "VerifiedCode$Machine")
theorem jn_VC : ∀ a, a < 7 → ∀ b, b < 7 → a ≠ b → (jF_VC a).2.1 ≠ (jF_VC b).2.1 := by decide +kernel
theorem jt_VC_ok : ∀ k, k < 7 → parseFieldDescriptor (jF_VC k).2.2.1 = some (jt_VC k) := by decide +kernel
def jR_Pr : String := "VerifiedCode$Program"
def jF_Pr : u_T := fun k => match k with
  | 0 => ("VerifiedCode$Program", "file", "[I", true)
  | 1 => ("VerifiedCode$Program", "fileSize", "I", false)
  | 2 => ("VerifiedCode$Program", "constantCount", "I", false)
  | 3 => ("VerifiedCode$Program", "constantsAt", "I", false)
  | 4 => ("VerifiedCode$Program", "methodCount", "I", false)
  | _ => ("VerifiedCode$Program", "parts", "[LVerifiedCode$Method;", true)
def jt_Pr : Nat → FieldType := fun k => match k with
  | 0 => (.array .int)
  | 1 => .int
  | 2 => .int
  | 3 => .int
  | 4 => .int
  | _ => (.array (.object "VerifiedCode$Method"))
theorem jn_Pr : ∀ a, a < 6 → ∀ b, b < 6 → a ≠ b → (jF_Pr a).2.1 ≠ (jF_Pr b).2.1 := by decide +kernel
theorem jt_Pr_ok : ∀ k, k < 6 → parseFieldDescriptor (jF_Pr k).2.2.1 = some (jt_Pr k) := by decide +kernel
def jR_Me : String := "VerifiedCode$Method"
def jF_Me : u_T := fun k => match k with
  | 0 => ("VerifiedCode$Method", "parameterCount", "I", false)
  | 1 => ("VerifiedCode$Method", "parametersAt", "I", false)
  | 2 => ("VerifiedCode$Method", "returns", "I", false)
  | 3 => ("VerifiedCode$Method", "depth", "I", false)
  | 4 => ("VerifiedCode$Method", "places", "I", false)
  | 5 => ("VerifiedCode$Method", "codeAt", "I", false)
  | 6 => ("VerifiedCode$Method", "codeLength", "I", false)
  | 7 => ("VerifiedCode$Method", "frameCount", "I", false)
  | _ => ("VerifiedCode$Method", "framesAt", "[I", true)
def jt_Me : Nat → FieldType := fun k => match k with
  | 0 => .int
  | 1 => .int
  | 2 => .int
  | 3 => .int
  | 4 => .int
  | 5 => .int
  | 6 => .int
  | 7 => .int
  | _ => (.array .int)
theorem jn_Me : ∀ a, a < 9 → ∀ b, b < 9 → a ≠ b → (jF_Me a).2.1 ≠ (jF_Me b).2.1 := by decide +kernel
theorem jt_Me_ok : ∀ k, k < 9 → parseFieldDescriptor (jF_Me k).2.2.1 = some (jt_Me k) := by decide +kernel
def jR_Rd : String := "VerifiedCode$Reader"
def jF_Rd : u_T := fun k => match k with
  | 0 => ("VerifiedCode$Reader", "at", "I", false)
  | 1 => ("VerifiedCode$Reader", "latest", "I", false)
  | _ => ("VerifiedCode$Reader", "begins", "[Z", true)
def jt_Rd : Nat → FieldType := fun k => match k with
  | 0 => .int
  | 1 => .int
  | _ => (.array .boolean)
theorem jn_Rd : ∀ a, a < 3 → ∀ b, b < 3 → a ≠ b → (jF_Rd a).2.1 ≠ (jF_Rd b).2.1 := by decide +kernel
theorem jt_Rd_ok : ∀ k, k < 3 → parseFieldDescriptor (jF_Rd k).2.2.1 = some (jt_Rd k) := by decide +kernel
def jR_St : String := "VerifiedCode$State"
def jF_St : u_T := fun k => match k with
  | 0 => ("VerifiedCode$State", "placeKinds", "[I", true)
  | 1 => ("VerifiedCode$State", "placeValues", "[I", true)
  | 2 => ("VerifiedCode$State", "kinds", "[I", true)
  | 3 => ("VerifiedCode$State", "values", "[I", true)
  | _ => ("VerifiedCode$State", "height", "I", false)
def jt_St : Nat → FieldType := fun k => match k with
  | 0 => (.array .int)
  | 1 => (.array .int)
  | 2 => (.array .int)
  | 3 => (.array .int)
  | _ => .int
theorem jn_St : ∀ a, a < 5 → ∀ b, b < 5 → a ≠ b → (jF_St a).2.1 ≠ (jF_St b).2.1 := by decide +kernel
theorem jt_St_ok : ∀ k, k < 5 → parseFieldDescriptor (jF_St k).2.2.1 = some (jt_St k) := by decide +kernel
def jR_Ck : String := "VerifiedCode$Checker"
def jF_Ck : u_T := fun k => match k with
  | 0 => ("VerifiedCode$Checker", "state", "LVerifiedCode$State;", true)
  | _ => ("VerifiedCode$Checker", "hasState", "Z", false)
def jt_Ck : Nat → FieldType := fun k => match k with
  | 0 => (.object "VerifiedCode$State")
  | _ => .boolean
theorem jn_Ck : ∀ a, a < 2 → ∀ b, b < 2 → a ≠ b → (jF_Ck a).2.1 ≠ (jF_Ck b).2.1 := by decide +kernel
theorem jt_Ck_ok : ∀ k, k < 2 → parseFieldDescriptor (jF_Ck k).2.2.1 = some (jt_Ck k) := by decide +kernel
def jR_Ma : String := "VerifiedCode$Machine"
def jF_Ma : u_T := fun k => match k with
  | 0 => ("VerifiedCode$Machine", "lastResult", "I", false)
  | 1 => ("VerifiedCode$Machine", "stepsDone", "I", false)
  | 2 => ("VerifiedCode$Machine", "states", "[LVerifiedCode$State;", true)
  | 3 => ("VerifiedCode$Machine", "running", "[I", true)
  | 4 => ("VerifiedCode$Machine", "offsets", "[I", true)
  | 5 => ("VerifiedCode$Machine", "top", "I", false)
  | 6 => ("VerifiedCode$Machine", "elements", "[I", true)
  | 7 => ("VerifiedCode$Machine", "lengths", "[I", true)
  | _ => ("VerifiedCode$Machine", "rowCount", "I", false)
def jt_Ma : Nat → FieldType := fun k => match k with
  | 0 => .int
  | 1 => .int
  | 2 => (.array (.object "VerifiedCode$State"))
  | 3 => (.array .int)
  | 4 => (.array .int)
  | 5 => .int
  | 6 => (.array .int)
  | 7 => (.array .int)
  | _ => .int
theorem jn_Ma : ∀ a, a < 9 → ∀ b, b < 9 → a ≠ b → (jF_Ma a).2.1 ≠ (jF_Ma b).2.1 := by decide +kernel
theorem jt_Ma_ok : ∀ k, k < 9 → parseFieldDescriptor (jF_Ma k).2.2.1 = some (jt_Ma k) := by decide +kernel
def jR_Mo : String := "VerifiedCodeModel"
def jF_Mo : u_T := fun k => match k with
  | 0 => ("VerifiedCodeModel", "code", "I", false)
  | 1 => ("VerifiedCodeModel", "size", "I", false)
  | 2 => ("VerifiedCodeModel", "file", "[I", false)
  | 3 => ("VerifiedCodeModel", "at", "I", false)
  | 4 => ("VerifiedCodeModel", "failed", "Z", false)
  | 5 => ("VerifiedCodeModel", "there", "Z", false)
  | 6 => ("VerifiedCodeModel", "keptSize", "I", false)
  | 7 => ("VerifiedCodeModel", "kept", "[I", false)
  | 8 => ("VerifiedCodeModel", "base", "I", false)
  | 9 => ("VerifiedCodeModel", "params", "I", false)
  | 10 => ("VerifiedCodeModel", "depth", "I", false)
  | 11 => ("VerifiedCodeModel", "places", "I", false)
  | 12 => ("VerifiedCodeModel", "length", "I", false)
  | 13 => ("VerifiedCodeModel", "start", "I", false)
  | 14 => ("VerifiedCodeModel", "placeKind", "[I", false)
  | 15 => ("VerifiedCodeModel", "placeValue", "[I", false)
  | 16 => ("VerifiedCodeModel", "stackKind", "[I", false)
  | 17 => ("VerifiedCodeModel", "stackValue", "[I", false)
  | 18 => ("VerifiedCodeModel", "height", "[I", false)
  | 19 => ("VerifiedCodeModel", "where", "[I", false)
  | 20 => ("VerifiedCodeModel", "which", "[I", false)
  | 21 => ("VerifiedCodeModel", "open", "I", false)
  | 22 => ("VerifiedCodeModel", "some", "Z", false)
  | 23 => ("VerifiedCodeModel", "made", "I", false)
  | 24 => ("VerifiedCodeModel", "rowSize", "[I", false)
  | 25 => ("VerifiedCodeModel", "cells", "[I", false)
  | 26 => ("VerifiedCodeModel", "steps", "I", false)
  | _ => ("VerifiedCodeModel", "result", "I", false)
def jt_Mo : Nat → FieldType := fun k => match k with
  | 0 => .int
  | 1 => .int
  | 2 => (.array .int)
  | 3 => .int
  | 4 => .boolean
  | 5 => .boolean
  | 6 => .int
  | 7 => (.array .int)
  | 8 => .int
  | 9 => .int
  | 10 => .int
  | 11 => .int
  | 12 => .int
  | 13 => .int
  | 14 => (.array .int)
  | 15 => (.array .int)
  | 16 => (.array .int)
  | 17 => (.array .int)
  | 18 => (.array .int)
  | 19 => (.array .int)
  | 20 => (.array .int)
  | 21 => .int
  | 22 => .boolean
  | 23 => .int
  | 24 => (.array .int)
  | 25 => (.array .int)
  | 26 => .int
  | _ => .int
theorem jn_Mo : ∀ a, a < 28 → ∀ b, b < 28 → a ≠ b → (jF_Mo a).2.1 ≠ (jF_Mo b).2.1 := by decide +kernel
theorem jt_Mo_ok : ∀ k, k < 28 → parseFieldDescriptor (jF_Mo k).2.2.1 = some (jt_Mo k) := by decide +kernel
def j_cl : List vw_C := [(jR_VC, jF_VC, 7), (jR_Pr, jF_Pr, 6), (jR_Me, jF_Me, 9), (jR_Rd, jF_Rd, 3), (jR_St, jF_St, 5), (jR_Ck, jF_Ck, 2), (jR_Ma, jF_Ma, 9), (jR_Mo, jF_Mo, 28)]
abbrev m_Ck_firstRefused : jj_M := (⟨"VerifiedCode$Checker", "firstRefused", "(LVerifiedCode$Program;LVerifiedCode$Method;)I"⟩, prog_2_method_2_code, 5, (some .int))
abbrev m_Ck_entersFrame : jj_M := (⟨"VerifiedCode$Checker", "entersFrame", "(LVerifiedCode$Program;LVerifiedCode$Method;I)Z"⟩, prog_2_method_3_code, 6, (some .boolean))
abbrev m_Ck_isGoodForFrame : jj_M := (⟨"VerifiedCode$Checker", "isGoodForFrame", "(LVerifiedCode$Program;LVerifiedCode$Method;I)Z"⟩, prog_2_method_4_code, 5, (some .boolean))
abbrev m_Ck_mayGoToTarget : jj_M := (⟨"VerifiedCode$Checker", "mayGoToTarget", "(LVerifiedCode$Program;LVerifiedCode$Method;I)Z"⟩, prog_2_method_5_code, 5, (some .boolean))
abbrev m_Ck_change : jj_M := (⟨"VerifiedCode$Checker", "change", "(LVerifiedCode$Program;LVerifiedCode$Method;I)V"⟩, prog_2_method_6_code, 5, none)
abbrev m_Ck_typePut : jj_M := (⟨"VerifiedCode$Checker", "typePut", "(LVerifiedCode$Program;LVerifiedCode$Method;I)I"⟩, prog_2_method_7_code, 4, (some .int))
abbrev m_In_hasTarget : jj_M := (⟨"VerifiedCode$Instruction", "hasTarget", "(I)Z"⟩, prog_3_method_2_code, 1, (some .boolean))
abbrev m_In_hasPlace : jj_M := (⟨"VerifiedCode$Instruction", "hasPlace", "(I)Z"⟩, prog_3_method_3_code, 1, (some .boolean))
abbrev m_In_isReturn : jj_M := (⟨"VerifiedCode$Instruction", "isReturn", "(I)Z"⟩, prog_3_method_4_code, 1, (some .boolean))
abbrev m_In_length : jj_M := (⟨"VerifiedCode$Instruction", "length", "(I)I"⟩, prog_3_method_5_code, 1, (some .int))
abbrev m_In_takes : jj_M := (⟨"VerifiedCode$Instruction", "takes", "(I)I"⟩, prog_3_method_6_code, 1, (some .int))
abbrev m_In_typeTaken : jj_M := (⟨"VerifiedCode$Instruction", "typeTaken", "(II)I"⟩, prog_3_method_7_code, 2, (some .int))
abbrev m_In_puts : jj_M := (⟨"VerifiedCode$Instruction", "puts", "(I)I"⟩, prog_3_method_8_code, 1, (some .int))
abbrev m_In_typeOfPlace : jj_M := (⟨"VerifiedCode$Instruction", "typeOfPlace", "(I)I"⟩, prog_3_method_9_code, 1, (some .int))
abbrev m_In_typeOfReturn : jj_M := (⟨"VerifiedCode$Instruction", "typeOfReturn", "(I)I"⟩, prog_3_method_10_code, 1, (some .int))
abbrev m_Ma_begin : jj_M := (⟨"VerifiedCode$Machine", "begin", "(LVerifiedCode$Program;IIII)V"⟩, prog_4_method_2_code, 7, none)
abbrev m_Ma_enter : jj_M := (⟨"VerifiedCode$Machine", "enter", "(I)V"⟩, prog_4_method_3_code, 2, none)
abbrev m_Ma_setArgument : jj_M := (⟨"VerifiedCode$Machine", "setArgument", "(LVerifiedCode$Program;II)V"⟩, prog_4_method_4_code, 6, none)
abbrev m_Ma_newRow : jj_M := (⟨"VerifiedCode$Machine", "newRow", "(I)I"⟩, prog_4_method_5_code, 4, (some .int))
abbrev m_Ma_goToEnd : jj_M := (⟨"VerifiedCode$Machine", "goToEnd", "(LVerifiedCode$Program;)I"⟩, prog_4_method_6_code, 4, (some .int))
abbrev m_Ma_doOne : jj_M := (⟨"VerifiedCode$Machine", "doOne", "(LVerifiedCode$Program;)I"⟩, prog_4_method_7_code, 7, (some .int))
abbrev m_Ma_trouble : jj_M := (⟨"VerifiedCode$Machine", "trouble", "(LVerifiedCode$State;I)I"⟩, prog_4_method_8_code, 3, (some .int))
abbrev m_Ma_troubleOfElement : jj_M := (⟨"VerifiedCode$Machine", "troubleOfElement", "(LVerifiedCode$State;I)I"⟩, prog_4_method_9_code, 4, (some .int))
abbrev m_Ma_call : jj_M := (⟨"VerifiedCode$Machine", "call", "(LVerifiedCode$Program;I)V"⟩, prog_4_method_10_code, 6, none)
abbrev m_Ma_leave : jj_M := (⟨"VerifiedCode$Machine", "leave", "(LVerifiedCode$State;I)I"⟩, prog_4_method_11_code, 6, (some .int))
abbrev m_Ma_resultOf : jj_M := (⟨"VerifiedCode$Machine", "resultOf", "(II)I"⟩, prog_4_method_12_code, 3, (some .int))
abbrev m_Ma_goesToTarget : jj_M := (⟨"VerifiedCode$Machine", "goesToTarget", "(LVerifiedCode$State;I)Z"⟩, prog_4_method_13_code, 4, (some .boolean))
abbrev m_Ma_holds : jj_M := (⟨"VerifiedCode$Machine", "holds", "(III)Z"⟩, prog_4_method_14_code, 4, (some .boolean))
abbrev m_Ma_doWithOperand : jj_M := (⟨"VerifiedCode$Machine", "doWithOperand", "(LVerifiedCode$State;LVerifiedCode$Program;LVerifiedCode$Method;I)V"⟩, prog_4_method_15_code, 6, none)
abbrev m_Ma_doAlone : jj_M := (⟨"VerifiedCode$Machine", "doAlone", "(LVerifiedCode$State;I)V"⟩, prog_4_method_16_code, 5, none)
abbrev m_Ma_storeElement : jj_M := (⟨"VerifiedCode$Machine", "storeElement", "(LVerifiedCode$State;)V"⟩, prog_4_method_17_code, 4, none)
abbrev m_Ma_reckoned : jj_M := (⟨"VerifiedCode$Machine", "reckoned", "(III)I"⟩, prog_4_method_18_code, 4, (some .int))
abbrev m_Pr_takeFile : jj_M := (⟨"VerifiedCode$Program", "takeFile", "([II)V"⟩, prog_6_method_2_code, 3, none)
abbrev m_Pr_constant : jj_M := (⟨"VerifiedCode$Program", "constant", "(I)I"⟩, prog_6_method_3_code, 3, (some .int))
abbrev m_Pr_parameterType : jj_M := (⟨"VerifiedCode$Program", "parameterType", "(LVerifiedCode$Method;I)I"⟩, prog_6_method_4_code, 3, (some .int))
abbrev m_Pr_code : jj_M := (⟨"VerifiedCode$Program", "code", "(LVerifiedCode$Method;I)I"⟩, prog_6_method_5_code, 3, (some .int))
abbrev m_Pr_operand : jj_M := (⟨"VerifiedCode$Program", "operand", "(LVerifiedCode$Method;I)I"⟩, prog_6_method_6_code, 3, (some .int))
abbrev m_Pr_signedByte : jj_M := (⟨"VerifiedCode$Program", "signedByte", "(LVerifiedCode$Method;I)I"⟩, prog_6_method_7_code, 4, (some .int))
abbrev m_Pr_target : jj_M := (⟨"VerifiedCode$Program", "target", "(LVerifiedCode$Method;I)I"⟩, prog_6_method_8_code, 4, (some .int))
abbrev m_Pr_called : jj_M := (⟨"VerifiedCode$Program", "called", "(LVerifiedCode$Method;I)LVerifiedCode$Method;"⟩, prog_6_method_9_code, 3, (some (.object "VerifiedCode$Method")))
abbrev m_Pr_frameOffset : jj_M := (⟨"VerifiedCode$Program", "frameOffset", "(LVerifiedCode$Method;I)I"⟩, prog_6_method_10_code, 3, (some .int))
abbrev m_Pr_framePlace : jj_M := (⟨"VerifiedCode$Program", "framePlace", "(LVerifiedCode$Method;II)I"⟩, prog_6_method_11_code, 4, (some .int))
abbrev m_Pr_frameHeight : jj_M := (⟨"VerifiedCode$Program", "frameHeight", "(LVerifiedCode$Method;I)I"⟩, prog_6_method_12_code, 3, (some .int))
abbrev m_Pr_frameValue : jj_M := (⟨"VerifiedCode$Program", "frameValue", "(LVerifiedCode$Method;II)I"⟩, prog_6_method_13_code, 4, (some .int))
abbrev m_Pr_frameAt : jj_M := (⟨"VerifiedCode$Program", "frameAt", "(LVerifiedCode$Method;I)I"⟩, prog_6_method_14_code, 4, (some .int))
abbrev m_Pr_takenCount : jj_M := (⟨"VerifiedCode$Program", "takenCount", "(LVerifiedCode$Method;I)I"⟩, prog_6_method_15_code, 4, (some .int))
abbrev m_Pr_takenType : jj_M := (⟨"VerifiedCode$Program", "takenType", "(LVerifiedCode$Method;II)I"⟩, prog_6_method_16_code, 5, (some .int))
abbrev m_Pr_putCount : jj_M := (⟨"VerifiedCode$Program", "putCount", "(LVerifiedCode$Method;I)I"⟩, prog_6_method_17_code, 4, (some .int))
abbrev m_Rd_readsFile : jj_M := (⟨"VerifiedCode$Reader", "readsFile", "(LVerifiedCode$Program;)Z"⟩, prog_7_method_2_code, 3, (some .boolean))
abbrev m_Rd_next : jj_M := (⟨"VerifiedCode$Reader", "next", "(LVerifiedCode$Program;II)Z"⟩, prog_7_method_3_code, 4, (some .boolean))
abbrev m_Rd_nextOnes : jj_M := (⟨"VerifiedCode$Reader", "nextOnes", "(LVerifiedCode$Program;III)Z"⟩, prog_7_method_4_code, 6, (some .boolean))
abbrev m_Rd_readsConstants : jj_M := (⟨"VerifiedCode$Reader", "readsConstants", "(LVerifiedCode$Program;)Z"⟩, prog_7_method_5_code, 2, (some .boolean))
abbrev m_Rd_readsMethod : jj_M := (⟨"VerifiedCode$Reader", "readsMethod", "(LVerifiedCode$Program;LVerifiedCode$Method;)Z"⟩, prog_7_method_6_code, 3, (some .boolean))
abbrev m_Rd_readsHead : jj_M := (⟨"VerifiedCode$Reader", "readsHead", "(LVerifiedCode$Program;LVerifiedCode$Method;)Z"⟩, prog_7_method_7_code, 3, (some .boolean))
abbrev m_Rd_readsCode : jj_M := (⟨"VerifiedCode$Reader", "readsCode", "(LVerifiedCode$Program;LVerifiedCode$Method;)Z"⟩, prog_7_method_8_code, 5, (some .boolean))
abbrev m_Rd_readsInstruction : jj_M := (⟨"VerifiedCode$Reader", "readsInstruction", "(LVerifiedCode$Program;LVerifiedCode$Method;I)Z"⟩, prog_7_method_9_code, 6, (some .boolean))
abbrev m_Rd_highestOperand : jj_M := (⟨"VerifiedCode$Reader", "highestOperand", "(LVerifiedCode$Program;LVerifiedCode$Method;II)I"⟩, prog_7_method_10_code, 5, (some .int))
abbrev m_Rd_readsFrames : jj_M := (⟨"VerifiedCode$Reader", "readsFrames", "(LVerifiedCode$Program;LVerifiedCode$Method;)Z"⟩, prog_7_method_11_code, 5, (some .boolean))
abbrev m_Rd_targetsBegin : jj_M := (⟨"VerifiedCode$Reader", "targetsBegin", "(LVerifiedCode$Program;LVerifiedCode$Method;)Z"⟩, prog_7_method_12_code, 4, (some .boolean))
abbrev m_Rd_framesBegin : jj_M := (⟨"VerifiedCode$Reader", "framesBegin", "(LVerifiedCode$Program;LVerifiedCode$Method;)Z"⟩, prog_7_method_13_code, 4, (some .boolean))
abbrev m_Rd_beginsAt : jj_M := (⟨"VerifiedCode$Reader", "beginsAt", "(LVerifiedCode$Method;I)Z"⟩, prog_7_method_14_code, 3, (some .boolean))
abbrev m_St_makeEmpty : jj_M := (⟨"VerifiedCode$State", "makeEmpty", "()V"⟩, prog_8_method_2_code, 2, none)
abbrev m_St_setPlace : jj_M := (⟨"VerifiedCode$State", "setPlace", "(III)V"⟩, prog_8_method_3_code, 4, none)
abbrev m_St_put : jj_M := (⟨"VerifiedCode$State", "put", "(II)V"⟩, prog_8_method_4_code, 3, none)
abbrev m_St_take : jj_M := (⟨"VerifiedCode$State", "take", "()I"⟩, prog_8_method_5_code, 1, (some .int))
abbrev m_St_kindTaken : jj_M := (⟨"VerifiedCode$State", "kindTaken", "()I"⟩, prog_8_method_6_code, 1, (some .int))
abbrev m_St_kindBelow : jj_M := (⟨"VerifiedCode$State", "kindBelow", "(I)I"⟩, prog_8_method_7_code, 2, (some .int))
abbrev m_St_valueBelow : jj_M := (⟨"VerifiedCode$State", "valueBelow", "(I)I"⟩, prog_8_method_8_code, 2, (some .int))
abbrev m_St_putAgain : jj_M := (⟨"VerifiedCode$State", "putAgain", "()V"⟩, prog_8_method_9_code, 1, none)
abbrev m_St_exchange : jj_M := (⟨"VerifiedCode$State", "exchange", "()V"⟩, prog_8_method_10_code, 5, none)
abbrev m_St_moveToPlace : jj_M := (⟨"VerifiedCode$State", "moveToPlace", "(I)V"⟩, prog_8_method_11_code, 3, none)
abbrev m_St_putPlace : jj_M := (⟨"VerifiedCode$State", "putPlace", "(I)V"⟩, prog_8_method_12_code, 2, none)
abbrev m_St_allows : jj_M := (⟨"VerifiedCode$State", "allows", "(LVerifiedCode$Program;LVerifiedCode$Method;I)Z"⟩, prog_8_method_13_code, 6, (some .boolean))
abbrev m_St_hasTaken : jj_M := (⟨"VerifiedCode$State", "hasTaken", "(LVerifiedCode$Program;LVerifiedCode$Method;II)Z"⟩, prog_8_method_14_code, 6, (some .boolean))
abbrev m_St_hasPlace : jj_M := (⟨"VerifiedCode$State", "hasPlace", "(LVerifiedCode$Program;LVerifiedCode$Method;I)Z"⟩, prog_8_method_15_code, 5, (some .boolean))
abbrev m_VC_type : jj_M := (⟨"VerifiedCode", "type", "(JI)I"⟩, prog_1_method_2_code, 5, (some .int))
abbrev m_VC_poke : jj_M := (⟨"VerifiedCode", "poke", "(II)V"⟩, prog_1_method_3_code, 3, none)
abbrev m_VC_size : jj_M := (⟨"VerifiedCode", "size", "()I"⟩, prog_1_method_4_code, 1, (some .int))
abbrev m_VC_byteAt : jj_M := (⟨"VerifiedCode", "byteAt", "(I)I"⟩, prog_1_method_5_code, 2, (some .int))
abbrev m_VC_clear : jj_M := (⟨"VerifiedCode", "clear", "()V"⟩, prog_1_method_6_code, 1, none)
abbrev m_VC_read : jj_M := (⟨"VerifiedCode", "read", "()I"⟩, prog_1_method_7_code, 2, (some .int))
abbrev m_VC_write : jj_M := (⟨"VerifiedCode", "write", "()I"⟩, prog_1_method_8_code, 1, (some .int))
abbrev m_VC_methods : jj_M := (⟨"VerifiedCode", "methods", "()I"⟩, prog_1_method_9_code, 1, (some .int))
abbrev m_VC_check : jj_M := (⟨"VerifiedCode", "check", "(I)I"⟩, prog_1_method_10_code, 2, (some .int))
abbrev m_VC_run : jj_M := (⟨"VerifiedCode", "run", "(IIII)I"⟩, prog_1_method_11_code, 5, (some .int))
abbrev m_VC_result : jj_M := (⟨"VerifiedCode", "result", "()I"⟩, prog_1_method_12_code, 1, (some .int))
abbrev m_VC_steps : jj_M := (⟨"VerifiedCode", "steps", "()I"⟩, prog_1_method_13_code, 1, (some .int))
abbrev m_VC_isGoodFor : jj_M := (⟨"VerifiedCode", "isGoodFor", "(II)Z"⟩, prog_1_method_14_code, 2, (some .boolean))
abbrev m_Mo_thrown : jj_M := (⟨"VerifiedCodeModel", "thrown", "()I"⟩, prog_10_method_2_code, 1, (some .int))
abbrev m_Mo_within : jj_M := (⟨"VerifiedCodeModel", "within", "(III)Z"⟩, prog_10_method_3_code, 3, (some .boolean))
abbrev m_Mo_jumps : jj_M := (⟨"VerifiedCodeModel", "jumps", "(I)Z"⟩, prog_10_method_4_code, 1, (some .boolean))
abbrev m_Mo_names : jj_M := (⟨"VerifiedCodeModel", "names", "(I)Z"⟩, prog_10_method_5_code, 1, (some .boolean))
abbrev m_Mo_returns : jj_M := (⟨"VerifiedCodeModel", "returns", "(I)Z"⟩, prog_10_method_6_code, 1, (some .boolean))
abbrev m_Mo_bytes : jj_M := (⟨"VerifiedCodeModel", "bytes", "(I)I"⟩, prog_10_method_7_code, 2, (some .int))
abbrev m_Mo_need : jj_M := (⟨"VerifiedCodeModel", "need", "(II)I"⟩, prog_10_method_8_code, 3, (some .int))
abbrev m_Mo_puts : jj_M := (⟨"VerifiedCodeModel", "puts", "(I)I"⟩, prog_10_method_9_code, 2, (some .int))
abbrev m_Mo_type : jj_M := (⟨"VerifiedCodeModel", "type", "(JI)I"⟩, prog_10_method_10_code, 5, (some .int))
abbrev m_Mo_poke : jj_M := (⟨"VerifiedCodeModel", "poke", "(II)V"⟩, prog_10_method_11_code, 3, none)
abbrev m_Mo_size : jj_M := (⟨"VerifiedCodeModel", "size", "()I"⟩, prog_10_method_12_code, 1, (some .int))
abbrev m_Mo_byteAt : jj_M := (⟨"VerifiedCodeModel", "byteAt", "(I)I"⟩, prog_10_method_13_code, 2, (some .int))
abbrev m_Mo_clear : jj_M := (⟨"VerifiedCodeModel", "clear", "()V"⟩, prog_10_method_14_code, 1, none)
abbrev m_Mo_next : jj_M := (⟨"VerifiedCodeModel", "next", "(II)I"⟩, prog_10_method_15_code, 3, (some .int))
abbrev m_Mo_skip : jj_M := (⟨"VerifiedCodeModel", "skip", "(III)V"⟩, prog_10_method_16_code, 6, none)
abbrev m_Mo_readInstruction : jj_M := (⟨"VerifiedCodeModel", "readInstruction", "(IIII)V"⟩, prog_10_method_17_code, 9, none)
abbrev m_Mo_begins : jj_M := (⟨"VerifiedCodeModel", "begins", "(III)Z"⟩, prog_10_method_18_code, 5, (some .boolean))
abbrev m_Mo_jump : jj_M := (⟨"VerifiedCodeModel", "jump", "(II)I"⟩, prog_10_method_19_code, 3, (some .int))
abbrev m_Mo_targetsFit : jj_M := (⟨"VerifiedCodeModel", "targetsFit", "(II)Z"⟩, prog_10_method_20_code, 6, (some .boolean))
abbrev m_Mo_readMethod : jj_M := (⟨"VerifiedCodeModel", "readMethod", "(II)V"⟩, prog_10_method_21_code, 14, none)
abbrev m_Mo_read : jj_M := (⟨"VerifiedCodeModel", "read", "()I"⟩, prog_10_method_22_code, 4, (some .int))
abbrev m_Mo_write : jj_M := (⟨"VerifiedCodeModel", "write", "()I"⟩, prog_10_method_23_code, 2, (some .int))
abbrev m_Mo_methodCount : jj_M := (⟨"VerifiedCodeModel", "methodCount", "()I"⟩, prog_10_method_24_code, 1, (some .int))
abbrev m_Mo_methods : jj_M := (⟨"VerifiedCodeModel", "methods", "()I"⟩, prog_10_method_25_code, 1, (some .int))
abbrev m_Mo_codeOf : jj_M := (⟨"VerifiedCodeModel", "codeOf", "(I)I"⟩, prog_10_method_26_code, 2, (some .int))
abbrev m_Mo_lengthOf : jj_M := (⟨"VerifiedCodeModel", "lengthOf", "(I)I"⟩, prog_10_method_27_code, 2, (some .int))
abbrev m_Mo_placesOf : jj_M := (⟨"VerifiedCodeModel", "placesOf", "(I)I"⟩, prog_10_method_28_code, 2, (some .int))
abbrev m_Mo_returnsOf : jj_M := (⟨"VerifiedCodeModel", "returnsOf", "(I)I"⟩, prog_10_method_29_code, 2, (some .int))
abbrev m_Mo_methodAt : jj_M := (⟨"VerifiedCodeModel", "methodAt", "(I)I"⟩, prog_10_method_30_code, 8, (some .int))
abbrev m_Mo_open : jj_M := (⟨"VerifiedCodeModel", "open", "(I)V"⟩, prog_10_method_31_code, 2, none)
abbrev m_Mo_frame : jj_M := (⟨"VerifiedCodeModel", "frame", "(IZ)I"⟩, prog_10_method_32_code, 9, (some .int))
abbrev m_Mo_target : jj_M := (⟨"VerifiedCodeModel", "target", "(I)I"⟩, prog_10_method_33_code, 2, (some .int))
abbrev m_Mo_constant : jj_M := (⟨"VerifiedCodeModel", "constant", "(I)I"⟩, prog_10_method_34_code, 4, (some .int))
abbrev m_Mo_good : jj_M := (⟨"VerifiedCodeModel", "good", "(II)Z"⟩, prog_10_method_35_code, 2, (some .boolean))
abbrev m_Mo_needs : jj_M := (⟨"VerifiedCodeModel", "needs", "(II)I"⟩, prog_10_method_36_code, 5, (some .int))
abbrev m_Mo_takes : jj_M := (⟨"VerifiedCodeModel", "takes", "(I)I"⟩, prog_10_method_37_code, 3, (some .int))
abbrev m_Mo_gives : jj_M := (⟨"VerifiedCodeModel", "gives", "(I)I"⟩, prog_10_method_38_code, 3, (some .int))
abbrev m_Mo_can : jj_M := (⟨"VerifiedCodeModel", "can", "(II)Z"⟩, prog_10_method_39_code, 7, (some .boolean))
abbrev m_Mo_begin : jj_M := (⟨"VerifiedCodeModel", "begin", "(I)V"⟩, prog_10_method_40_code, 3, none)
abbrev m_Mo_push : jj_M := (⟨"VerifiedCodeModel", "push", "(III)V"⟩, prog_10_method_41_code, 4, none)
abbrev m_Mo_become : jj_M := (⟨"VerifiedCodeModel", "become", "(I)V"⟩, prog_10_method_42_code, 3, none)
abbrev m_Mo_fits : jj_M := (⟨"VerifiedCodeModel", "fits", "(I)Z"⟩, prog_10_method_43_code, 4, (some .boolean))
abbrev m_Mo_pass : jj_M := (⟨"VerifiedCodeModel", "pass", "(I)V"⟩, prog_10_method_44_code, 6, none)
abbrev m_Mo_arrive : jj_M := (⟨"VerifiedCodeModel", "arrive", "(I)V"⟩, prog_10_method_45_code, 4, none)
abbrev m_Mo_passes : jj_M := (⟨"VerifiedCodeModel", "passes", "(I)Z"⟩, prog_10_method_46_code, 4, (some .boolean))
abbrev m_Mo_lackOfMethod : jj_M := (⟨"VerifiedCodeModel", "lackOfMethod", "(I)I"⟩, prog_10_method_47_code, 2, (some .int))
abbrev m_Mo_check : jj_M := (⟨"VerifiedCodeModel", "check", "(I)I"⟩, prog_10_method_48_code, 3, (some .int))
abbrev m_Mo_makeRow : jj_M := (⟨"VerifiedCodeModel", "makeRow", "(I)I"⟩, prog_10_method_49_code, 3, (some .int))
abbrev m_Mo_argue : jj_M := (⟨"VerifiedCodeModel", "argue", "(II)V"⟩, prog_10_method_50_code, 5, none)
abbrev m_Mo_run : jj_M := (⟨"VerifiedCodeModel", "run", "(IIII)I"⟩, prog_10_method_51_code, 6, (some .int))
abbrev m_Mo_step : jj_M := (⟨"VerifiedCodeModel", "step", "()I"⟩, prog_10_method_52_code, 6, (some .int))
abbrev m_Mo_wrong : jj_M := (⟨"VerifiedCodeModel", "wrong", "(II)I"⟩, prog_10_method_53_code, 5, (some .int))
abbrev m_Mo_enter : jj_M := (⟨"VerifiedCodeModel", "enter", "(II)V"⟩, prog_10_method_54_code, 5, none)
abbrev m_Mo_leave : jj_M := (⟨"VerifiedCodeModel", "leave", "(III)I"⟩, prog_10_method_55_code, 4, (some .int))
abbrev m_Mo_goes : jj_M := (⟨"VerifiedCodeModel", "goes", "(II)Z"⟩, prog_10_method_56_code, 8, (some .boolean))
abbrev m_Mo_work : jj_M := (⟨"VerifiedCodeModel", "work", "(IIII)V"⟩, prog_10_method_57_code, 12, none)
abbrev m_Mo_small : jj_M := (⟨"VerifiedCodeModel", "small", "(I)I"⟩, prog_10_method_58_code, 1, (some .int))
abbrev m_Mo_value : jj_M := (⟨"VerifiedCodeModel", "value", "(IIII)I"⟩, prog_10_method_59_code, 5, (some .int))
abbrev m_Mo_result : jj_M := (⟨"VerifiedCodeModel", "result", "()I"⟩, prog_10_method_60_code, 1, (some .int))
abbrev m_Mo_steps : jj_M := (⟨"VerifiedCodeModel", "steps", "()I"⟩, prog_10_method_61_code, 1, (some .int))
/-! the words -/
def j_N : List Cond := [.methodLinkNest "VerifiedCode$Checker" 107 ⟨"VerifiedCode", "isGoodFor", "(II)Z"⟩ "VerifiedCode", .methodLinkNest "VerifiedCode$State" 91 ⟨"VerifiedCode", "isGoodFor", "(II)Z"⟩ "VerifiedCode"]
def j_W : List Cond := k2_sels lw_privs ++ (tables_1.filter goodWord ++ j_N)
theorem jw_1 {w : Cond} (h : w ∈ tables_1_1) (hg : goodWord w = true) : w ∈ j_W := List.mem_append_right _ (List.mem_append_left _ (List.mem_filter.mpr ⟨List.mem_append_left _ h, hg⟩))
theorem jw_2 {w : Cond} (h : w ∈ tables_1_2) (hg : goodWord w = true) : w ∈ j_W := List.mem_append_right _ (List.mem_append_left _ (List.mem_filter.mpr ⟨List.mem_append_right _ (List.mem_append_left _ h), hg⟩))
theorem jw_3 {w : Cond} (h : w ∈ tables_1_3) (hg : goodWord w = true) : w ∈ j_W := List.mem_append_right _ (List.mem_append_left _ (List.mem_filter.mpr ⟨List.mem_append_right _ (List.mem_append_right _ (List.mem_append_left _ h)), hg⟩))
theorem jw_4 {w : Cond} (h : w ∈ tables_1_4) (hg : goodWord w = true) : w ∈ j_W := List.mem_append_right _ (List.mem_append_left _ (List.mem_filter.mpr ⟨List.mem_append_right _ (List.mem_append_right _ (List.mem_append_right _ (List.mem_append_left _ h))), hg⟩))
theorem jw_5 {w : Cond} (h : w ∈ tables_1_5) (hg : goodWord w = true) : w ∈ j_W := List.mem_append_right _ (List.mem_append_left _ (List.mem_filter.mpr ⟨List.mem_append_right _ (List.mem_append_right _ (List.mem_append_right _ (List.mem_append_right _ (h)))), hg⟩))
theorem jw_s {w : Cond} (h : w ∈ k2_sels lw_privs) : w ∈ j_W := List.mem_append_left _ h
theorem jw_n0 : j_N[0] ∈ j_W := List.mem_append_right _ (List.mem_append_right _ (List.getElem_mem _))
theorem jw_n1 : j_N[1] ∈ j_W := List.mem_append_right _ (List.mem_append_right _ (List.getElem_mem _))
theorem jj_all {C : String} {T : u_T} (N : Nat) {W : List Cond} (h : ∀ k, k < N → u_lay C T k ∈ W) : ∀ w ∈ u_ws C T N, w ∈ W := by
  intro w hw
  obtain ⟨k, hk, rfl⟩ := List.mem_map.mp hw
  exact h k (List.mem_range.mp hk)
/-- at the law's entry: the words, for all that comes -/
theorem jj_wd_of {args : Array Value} {s : State} (hts : ∀ w ∈ lw_tbl, w.before args s = true) : jj_wd j_W s := by
  intro w hw a V hV
  rcases List.mem_append.mp hw with h | h
  · obtain ⟨q, hq, rfl⟩ := List.mem_map.mp h
    exact word_at hV (Or.inl rfl) (hts _ (List.mem_append_left _ h))
  · rcases List.mem_append.mp h with h | h
    · obtain ⟨h1, h2⟩ := List.mem_filter.mp h
      exact word_at hV (good_of_word h2) (hts _ (List.mem_append_right _ h1))
    · rcases List.mem_cons.mp h with rfl | h
      · exact va_Nw.use rfl (va_Nw.warmM hV (va_Nw.of rfl (hts _ (List.mem_append_right _ (List.mem_append_right _ (List.mem_append_right _ (List.mem_append_left _ (List.mem_of_getElem? (i := 39) rfl))))))))
      · rcases List.mem_cons.mp h with rfl | h
        · exact va_Nw.use rfl (va_Nw.warmM hV (va_Nw.of rfl (hts _ (List.mem_append_right _ (List.mem_append_right _ (List.mem_append_right _ (List.mem_append_left _ (List.mem_of_getElem? (i := 78) rfl))))))))
        · exact absurd h List.not_mem_nil
