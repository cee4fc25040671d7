def zr_0 : String := "LinePrograms$Bytes"
def zt_0 : u_T := fun k => match k with
  | 0 => ("LinePrograms$Bytes", "values", "[I", true)
  | _ => ("LinePrograms$Bytes", "size", "I", false)
def zf_0 : Nat → FieldType := fun k => match k with
  | 0 => .array .int
  | _ => .int
theorem zn_0 : ∀ a, a < 2 → ∀ b, b < 2 → a ≠ b → (zt_0 a).2.1 ≠ (zt_0 b).2.1 := by decide +kernel
theorem zk_0 : ∀ k, k < 2 → parseFieldDescriptor (zt_0 k).2.2.1 = some (zf_0 k) := by decide +kernel
theorem zu_0 : ∀ j, j < 2 → defaultValue (zf_0 j) = vp_V [.null, .int 0] j := by
  intro j hj
  rcases (show j = 0 ∨ j = 1 by omega) with rfl | rfl <;> rfl
def zr_1 : String := "LinePrograms$Header"
def zt_1 : u_T := fun k => match k with
  | 0 => ("LinePrograms$Header", "base", "I", true)
  | 1 => ("LinePrograms$Header", "range", "I", true)
  | 2 => ("LinePrograms$Header", "low", "I", true)
  | 3 => ("LinePrograms$Header", "start", "I", true)
  | _ => ("LinePrograms$Header", "step", "I", true)
def zf_1 : Nat → FieldType := fun k => match k with
  | 0 => .int
  | 1 => .int
  | 2 => .int
  | 3 => .int
  | _ => .int
theorem zn_1 : ∀ a, a < 5 → ∀ b, b < 5 → a ≠ b → (zt_1 a).2.1 ≠ (zt_1 b).2.1 := by decide +kernel
theorem zk_1 : ∀ k, k < 5 → parseFieldDescriptor (zt_1 k).2.2.1 = some (zf_1 k) := by decide +kernel
theorem zu_1 : ∀ j, j < 5 → defaultValue (zf_1 j) = vp_V [.int 0, .int 0, .int 0, .int 0, .int 0] j := by
  intro j hj
  rcases (show j = 0 ∨ j = 1 ∨ j = 2 ∨ j = 3 ∨ j = 4 by omega) with rfl | rfl | rfl | rfl | rfl <;> rfl
def zr_2 : String := "LinePrograms$Machine"
def zt_2 : u_T := fun k => match k with
  | 0 => ("LinePrograms$Machine", "head", "LLinePrograms$Header;", true)
  | 1 => ("LinePrograms$Machine", "reader", "LLinePrograms$Reader;", true)
  | 2 => ("LinePrograms$Machine", "rows", "LLinePrograms$Rows;", true)
  | 3 => ("LinePrograms$Machine", "address", "I", false)
  | 4 => ("LinePrograms$Machine", "file", "I", false)
  | 5 => ("LinePrograms$Machine", "line", "I", false)
  | 6 => ("LinePrograms$Machine", "column", "I", false)
  | 7 => ("LinePrograms$Machine", "statement", "I", false)
  | 8 => ("LinePrograms$Machine", "block", "I", false)
  | 9 => ("LinePrograms$Machine", "leastAddress", "I", false)
  | _ => ("LinePrograms$Machine", "ended", "Z", false)
def zf_2 : Nat → FieldType := fun k => match k with
  | 0 => .object "LinePrograms$Header"
  | 1 => .object "LinePrograms$Reader"
  | 2 => .object "LinePrograms$Rows"
  | 3 => .int
  | 4 => .int
  | 5 => .int
  | 6 => .int
  | 7 => .int
  | 8 => .int
  | 9 => .int
  | _ => .boolean
theorem zn_2 : ∀ a, a < 11 → ∀ b, b < 11 → a ≠ b → (zt_2 a).2.1 ≠ (zt_2 b).2.1 := by decide +kernel
theorem zk_2 : ∀ k, k < 11 → parseFieldDescriptor (zt_2 k).2.2.1 = some (zf_2 k) := by decide +kernel
theorem zu_2 : ∀ j, j < 11 → defaultValue (zf_2 j) = vp_V [.null, .null, .null, .int 0, .int 0, .int 0, .int 0, .int 0, .int 0, .int 0, .int 0] j := by
  intro j hj
  rcases (show j = 0 ∨ j = 1 ∨ j = 2 ∨ j = 3 ∨ j = 4 ∨ j = 5 ∨ j = 6 ∨ j = 7 ∨ j = 8 ∨ j = 9 ∨ j = 10 by omega) with rfl | rfl | rfl | rfl | rfl | rfl | rfl | rfl | rfl | rfl | rfl <;> rfl
def zr_3 : String := "LinePrograms$Reader"
def zt_3 : u_T := fun k => match k with
  | 0 => ("LinePrograms$Reader", "program", "LLinePrograms$Bytes;", true)
  | _ => ("LinePrograms$Reader", "at", "I", false)
def zf_3 : Nat → FieldType := fun k => match k with
  | 0 => .object "LinePrograms$Bytes"
  | _ => .int
theorem zn_3 : ∀ a, a < 2 → ∀ b, b < 2 → a ≠ b → (zt_3 a).2.1 ≠ (zt_3 b).2.1 := by decide +kernel
theorem zk_3 : ∀ k, k < 2 → parseFieldDescriptor (zt_3 k).2.2.1 = some (zf_3 k) := by decide +kernel
theorem zu_3 : ∀ j, j < 2 → defaultValue (zf_3 j) = vp_V [.null, .int 0] j := by
  intro j hj
  rcases (show j = 0 ∨ j = 1 by omega) with rfl | rfl <;> rfl
def zr_4 : String := "LinePrograms$Rows"
def zt_4 : u_T := fun k => match k with
  | 0 => ("LinePrograms$Rows", "values", "[I", true)
  | _ => ("LinePrograms$Rows", "size", "I", false)
def zf_4 : Nat → FieldType := fun k => match k with
  | 0 => .array .int
  | _ => .int
theorem zn_4 : ∀ a, a < 2 → ∀ b, b < 2 → a ≠ b → (zt_4 a).2.1 ≠ (zt_4 b).2.1 := by decide +kernel
theorem zk_4 : ∀ k, k < 2 → parseFieldDescriptor (zt_4 k).2.2.1 = some (zf_4 k) := by decide +kernel
theorem zu_4 : ∀ j, j < 2 → defaultValue (zf_4 j) = vp_V [.null, .int 0] j := by
  intro j hj
  rcases (show j = 0 ∨ j = 1 by omega) with rfl | rfl <;> rfl
def zr_5 : String := "LinePrograms$Table"
def zt_5 : u_T := fun k => match k with
  | 0 => ("LinePrograms$Table", "values", "[I", true)
  | _ => ("LinePrograms$Table", "size", "I", false)
def zf_5 : Nat → FieldType := fun k => match k with
  | 0 => .array .int
  | _ => .int
theorem zn_5 : ∀ a, a < 2 → ∀ b, b < 2 → a ≠ b → (zt_5 a).2.1 ≠ (zt_5 b).2.1 := by decide +kernel
theorem zk_5 : ∀ k, k < 2 → parseFieldDescriptor (zt_5 k).2.2.1 = some (zf_5 k) := by decide +kernel
theorem zu_5 : ∀ j, j < 2 → defaultValue (zf_5 j) = vp_V [.null, .int 0] j := by
  intro j hj
  rcases (show j = 0 ∨ j = 1 by omega) with rfl | rfl <;> rfl
def zr_6 : String := "LinePrograms$Writer"
def zt_6 : u_T := fun k => match k with
  | 0 => ("LinePrograms$Writer", "head", "LLinePrograms$Header;", true)
  | 1 => ("LinePrograms$Writer", "out", "LLinePrograms$Bytes;", true)
  | 2 => ("LinePrograms$Writer", "address", "I", false)
  | 3 => ("LinePrograms$Writer", "file", "I", false)
  | 4 => ("LinePrograms$Writer", "line", "I", false)
  | 5 => ("LinePrograms$Writer", "column", "I", false)
  | _ => ("LinePrograms$Writer", "statement", "I", false)
def zf_6 : Nat → FieldType := fun k => match k with
  | 0 => .object "LinePrograms$Header"
  | 1 => .object "LinePrograms$Bytes"
  | 2 => .int
  | 3 => .int
  | 4 => .int
  | 5 => .int
  | _ => .int
theorem zn_6 : ∀ a, a < 7 → ∀ b, b < 7 → a ≠ b → (zt_6 a).2.1 ≠ (zt_6 b).2.1 := by decide +kernel
theorem zk_6 : ∀ k, k < 7 → parseFieldDescriptor (zt_6 k).2.2.1 = some (zf_6 k) := by decide +kernel
theorem zu_6 : ∀ j, j < 7 → defaultValue (zf_6 j) = vp_V [.null, .null, .int 0, .int 0, .int 0, .int 0, .int 0] j := by
  intro j hj
  rcases (show j = 0 ∨ j = 1 ∨ j = 2 ∨ j = 3 ∨ j = 4 ∨ j = 5 ∨ j = 6 by omega) with rfl | rfl | rfl | rfl | rfl | rfl | rfl <;> rfl
def zr_7 : String := "LinePrograms"
def zt_7 : u_T := fun k => match k with
  | 0 => ("LinePrograms", "head", "LLinePrograms$Header;", false)
  | 1 => ("LinePrograms", "program", "LLinePrograms$Bytes;", false)
  | 2 => ("LinePrograms", "rows", "LLinePrograms$Rows;", false)
  | 3 => ("LinePrograms", "table", "LLinePrograms$Table;", true)
  | 4 => ("LinePrograms", "draftProgram", "LLinePrograms$Bytes;", false)
  | _ => ("LinePrograms", "draftRows", "LLinePrograms$Rows;", false)
def zf_7 : Nat → FieldType := fun k => match k with
  | 0 => .object "LinePrograms$Header"
  | 1 => .object "LinePrograms$Bytes"
  | 2 => .object "LinePrograms$Rows"
  | 3 => .object "LinePrograms$Table"
  | 4 => .object "LinePrograms$Bytes"
  | _ => .object "LinePrograms$Rows"
theorem zn_7 : ∀ a, a < 6 → ∀ b, b < 6 → a ≠ b → (zt_7 a).2.1 ≠ (zt_7 b).2.1 := by decide +kernel
theorem zk_7 : ∀ k, k < 6 → parseFieldDescriptor (zt_7 k).2.2.1 = some (zf_7 k) := by decide +kernel
theorem zu_7 : ∀ j, j < 6 → defaultValue (zf_7 j) = vp_V [.null, .null, .null, .null, .null, .null] j := by
  intro j hj
  rcases (show j = 0 ∨ j = 1 ∨ j = 2 ∨ j = 3 ∨ j = 4 ∨ j = 5 by omega) with rfl | rfl | rfl | rfl | rfl | rfl <;> rfl
def zr_8 : String := "LineProgramsModel"
def zt_8 : u_T := fun k => match k with
  | 0 => ("LineProgramsModel", "base", "I", false)
  | 1 => ("LineProgramsModel", "range", "I", false)
  | 2 => ("LineProgramsModel", "low", "I", false)
  | 3 => ("LineProgramsModel", "start", "I", false)
  | 4 => ("LineProgramsModel", "bytes", "I", false)
  | 5 => ("LineProgramsModel", "program", "[I", true)
  | 6 => ("LineProgramsModel", "rows", "I", false)
  | 7 => ("LineProgramsModel", "row", "[I", true)
  | 8 => ("LineProgramsModel", "newRows", "I", false)
  | 9 => ("LineProgramsModel", "newRow", "[I", true)
  | 10 => ("LineProgramsModel", "address", "J", false)
  | 11 => ("LineProgramsModel", "line", "J", false)
  | 12 => ("LineProgramsModel", "file", "J", false)
  | 13 => ("LineProgramsModel", "column", "J", false)
  | 14 => ("LineProgramsModel", "statement", "I", false)
  | 15 => ("LineProgramsModel", "block", "I", false)
  | 16 => ("LineProgramsModel", "before", "J", false)
  | 17 => ("LineProgramsModel", "first", "Z", false)
  | 18 => ("LineProgramsModel", "ended", "Z", false)
  | 19 => ("LineProgramsModel", "at", "I", false)
  | 20 => ("LineProgramsModel", "fault", "I", false)
  | 21 => ("LineProgramsModel", "entries", "I", false)
  | 22 => ("LineProgramsModel", "entry", "[I", true)
  | 23 => ("LineProgramsModel", "written", "I", false)
  | 24 => ("LineProgramsModel", "spare", "[I", true)
  | _ => ("LineProgramsModel", "thrown", "I", false)
def zf_8 : Nat → FieldType := fun k => match k with
  | 0 => .int
  | 1 => .int
  | 2 => .int
  | 3 => .int
  | 4 => .int
  | 5 => .array .int
  | 6 => .int
  | 7 => .array .int
  | 8 => .int
  | 9 => .array .int
  | 10 => .long
  | 11 => .long
  | 12 => .long
  | 13 => .long
  | 14 => .int
  | 15 => .int
  | 16 => .long
  | 17 => .boolean
  | 18 => .boolean
  | 19 => .int
  | 20 => .int
  | 21 => .int
  | 22 => .array .int
  | 23 => .int
  | 24 => .array .int
  | _ => .int
theorem zn_8 : ∀ a, a < 26 → ∀ b, b < 26 → a ≠ b → (zt_8 a).2.1 ≠ (zt_8 b).2.1 := by decide +kernel
theorem zk_8 : ∀ k, k < 26 → parseFieldDescriptor (zt_8 k).2.2.1 = some (zf_8 k) := by decide +kernel
theorem zu_8 : ∀ j, j < 26 → defaultValue (zf_8 j) = vp_V [.int 0, .int 0, .int 0, .int 0, .int 0, .null, .int 0, .null, .int 0, .null, .long 0, .long 0, .long 0, .long 0, .int 0, .int 0, .long 0, .int 0, .int 0, .int 0, .int 0, .int 0, .null, .int 0, .null, .int 0] j := by
  intro j hj
  rcases (show j = 0 ∨ j = 1 ∨ j = 2 ∨ j = 3 ∨ j = 4 ∨ j = 5 ∨ j = 6 ∨ j = 7 ∨ j = 8 ∨ j = 9 ∨ j = 10 ∨ j = 11 ∨ j = 12 ∨ j = 13 ∨ j = 14 ∨ j = 15 ∨ j = 16 ∨ j = 17 ∨ j = 18 ∨ j = 19 ∨ j = 20 ∨ j = 21 ∨ j = 22 ∨ j = 23 ∨ j = 24 ∨ j = 25 by omega) with rfl | rfl | rfl | rfl | rfl | rfl | rfl | rfl | rfl | rfl | rfl | rfl | rfl | rfl | rfl | rfl | rfl | rfl | rfl | rfl | rfl | rfl | rfl | rfl | rfl | rfl <;> rfl
def zr_9 : String := "LineProgramsLaw"
abbrev zC : List vw_C := [(zr_0, zt_0, 2), (zr_1, zt_1, 5), (zr_2, zt_2, 11), (zr_3, zt_3, 2), (zr_4, zt_4, 2), (zr_5, zt_5, 2), (zr_6, zt_6, 7), (zr_7, zt_7, 6), (zr_8, zt_8, 26)]
abbrev zc_Lp_init : ByteArray := prog_1_method_1_code
def zy_Lp_init : MethodName := ⟨zr_7, "<init>", "()V"⟩
abbrev zc_He_init : ByteArray := prog_3_method_1_code
def zy_He_init : MethodName := ⟨zr_1, "<init>", "(IIII)V"⟩
abbrev zc_By_init : ByteArray := prog_2_method_1_code
def zy_By_init : MethodName := ⟨zr_0, "<init>", "()V"⟩
abbrev zc_Ro_init : ByteArray := prog_6_method_1_code
def zy_Ro_init : MethodName := ⟨zr_4, "<init>", "()V"⟩
abbrev zc_Ta_init : ByteArray := prog_7_method_1_code
def zy_Ta_init : MethodName := ⟨zr_5, "<init>", "()V"⟩
abbrev zc_Lp_header : ByteArray := prog_1_method_2_code
def zy_Lp_header : MethodName := ⟨zr_7, "header", "(IIII)Z"⟩
abbrev zc_Lp_isHeader : ByteArray := prog_1_method_12_code
def zy_Lp_isHeader : MethodName := ⟨zr_7, "isHeader", "(IIII)Z"⟩
abbrev zc_Lp_clear : ByteArray := prog_1_method_4_code
def zy_Lp_clear : MethodName := ⟨zr_7, "clear", "()I"⟩
abbrev zc_Lp_byteAt : ByteArray := prog_1_method_5_code
def zy_Lp_byteAt : MethodName := ⟨zr_7, "byteAt", "(I)I"⟩
abbrev zc_By_get : ByteArray := prog_2_method_2_code
def zy_By_get : MethodName := ⟨zr_0, "get", "(I)I"⟩
abbrev zc_Lp_find : ByteArray := prog_1_method_8_code
def zy_Lp_find : MethodName := ⟨zr_7, "find", "(I)I"⟩
abbrev zc_Ro_get : ByteArray := prog_6_method_2_code
def zy_Ro_get : MethodName := ⟨zr_4, "get", "(II)I"⟩
abbrev zc_Lp_count : ByteArray := prog_1_method_11_code
def zy_Lp_count : MethodName := ⟨zr_7, "count", "(I)I"⟩
abbrev zc_La_put : ByteArray := method_3_code
def zy_La_put : MethodName := ⟨zr_9, "put", "(LLinePrograms;I[J)I"⟩
abbrev zc_Lp_put : ByteArray := prog_1_method_3_code
def zy_Lp_put : MethodName := ⟨zr_7, "put", "(I)I"⟩
abbrev zc_By_append : ByteArray := prog_2_method_3_code
def zy_By_append : MethodName := ⟨zr_0, "append", "(I)V"⟩
abbrev zc_La_run : ByteArray := method_4_code
def zy_La_run : MethodName := ⟨zr_9, "run", "(LLinePrograms;[J)I"⟩
abbrev zc_Lp_run : ByteArray := prog_1_method_6_code
def zy_Lp_run : MethodName := ⟨zr_7, "run", "()I"⟩
abbrev zc_Ma_init : ByteArray := prog_4_method_1_code
def zy_Ma_init : MethodName := ⟨zr_2, "<init>", "(LLinePrograms$Header;LLinePrograms$Bytes;LLinePrograms$Rows;)V"⟩
abbrev zc_Re_init : ByteArray := prog_5_method_1_code
def zy_Re_init : MethodName := ⟨zr_3, "<init>", "(LLinePrograms$Bytes;)V"⟩
abbrev zc_Ma_runAll : ByteArray := prog_4_method_2_code
def zy_Ma_runAll : MethodName := ⟨zr_2, "runAll", "()V"⟩
abbrev zc_Ma_beginAnew : ByteArray := prog_4_method_3_code
def zy_Ma_beginAnew : MethodName := ⟨zr_2, "beginAnew", "()V"⟩
abbrev zc_Re_bytesLeft : ByteArray := prog_5_method_2_code
def zy_Re_bytesLeft : MethodName := ⟨zr_3, "bytesLeft", "()I"⟩
abbrev zc_Re_nextByte : ByteArray := prog_5_method_3_code
def zy_Re_nextByte : MethodName := ⟨zr_3, "nextByte", "()I"⟩
abbrev zc_Ma_doInstruction : ByteArray := prog_4_method_4_code
def zy_Ma_doInstruction : MethodName := ⟨zr_2, "doInstruction", "(I)V"⟩
abbrev zc_Ma_doSpecial : ByteArray := prog_4_method_5_code
def zy_Ma_doSpecial : MethodName := ⟨zr_2, "doSpecial", "(I)V"⟩
abbrev zc_Ma_addToLine : ByteArray := prog_4_method_8_code
def zy_Ma_addToLine : MethodName := ⟨zr_2, "addToLine", "(I)V"⟩
abbrev zc_Ma_addToAddress : ByteArray := prog_4_method_9_code
def zy_Ma_addToAddress : MethodName := ⟨zr_2, "addToAddress", "(J)V"⟩
abbrev zc_Ma_setAddress : ByteArray := prog_4_method_10_code
def zy_Ma_setAddress : MethodName := ⟨zr_2, "setAddress", "(J)V"⟩
abbrev zc_Ma_makeRow : ByteArray := prog_4_method_11_code
def zy_Ma_makeRow : MethodName := ⟨zr_2, "makeRow", "()V"⟩
abbrev zc_Ma_appendRow : ByteArray := prog_4_method_12_code
def zy_Ma_appendRow : MethodName := ⟨zr_2, "appendRow", "(I)V"⟩
abbrev zc_Ro_set : ByteArray := prog_6_method_3_code
def zy_Ro_set : MethodName := ⟨zr_4, "set", "(III)V"⟩
abbrev zc_Ma_doExtended : ByteArray := prog_4_method_6_code
def zy_Ma_doExtended : MethodName := ⟨zr_2, "doExtended", "()V"⟩
abbrev zc_Re_nextUnsigned : ByteArray := prog_5_method_4_code
def zy_Re_nextUnsigned : MethodName := ⟨zr_3, "nextUnsigned", "()I"⟩
abbrev zc_Re_nextNumber : ByteArray := prog_5_method_8_code
def zy_Re_nextNumber : MethodName := ⟨zr_3, "nextNumber", "(Z)I"⟩
abbrev zc_Re_fitting : ByteArray := prog_5_method_9_code
def zy_Re_fitting : MethodName := ⟨zr_3, "fitting", "(J)I"⟩
abbrev zc_Ma_needLength : ByteArray := prog_4_method_7_code
def zy_Ma_needLength : MethodName := ⟨zr_2, "needLength", "(II)V"⟩
abbrev zc_Re_nextFixed : ByteArray := prog_5_method_6_code
def zy_Re_nextFixed : MethodName := ⟨zr_3, "nextFixed", "(I)J"⟩
abbrev zc_Re_skip : ByteArray := prog_5_method_7_code
def zy_Re_skip : MethodName := ⟨zr_3, "skip", "(I)V"⟩
abbrev zc_Re_nextSigned : ByteArray := prog_5_method_5_code
def zy_Re_nextSigned : MethodName := ⟨zr_3, "nextSigned", "()I"⟩
abbrev zc_La_row : ByteArray := method_5_code
def zy_La_row : MethodName := ⟨zr_9, "row", "(LLinePrograms;II[J)I"⟩
abbrev zc_Lp_row : ByteArray := prog_1_method_7_code
def zy_Lp_row : MethodName := ⟨zr_7, "row", "(II)I"⟩
abbrev zc_La_entry : ByteArray := method_6_code
def zy_La_entry : MethodName := ⟨zr_9, "entry", "(LLinePrograms;IIIII[J)I"⟩
abbrev zc_Lp_entry : ByteArray := prog_1_method_9_code
def zy_Lp_entry : MethodName := ⟨zr_7, "entry", "(IIIII)I"⟩
abbrev zc_Ta_lastAddress : ByteArray := prog_7_method_3_code
def zy_Ta_lastAddress : MethodName := ⟨zr_5, "lastAddress", "()I"⟩
abbrev zc_Ta_get : ByteArray := prog_7_method_2_code
def zy_Ta_get : MethodName := ⟨zr_5, "get", "(II)I"⟩
abbrev zc_Ta_append : ByteArray := prog_7_method_4_code
def zy_Ta_append : MethodName := ⟨zr_5, "append", "(IIIII)V"⟩
abbrev zc_La_write : ByteArray := method_7_code
def zy_La_write : MethodName := ⟨zr_9, "write", "(LLinePrograms;I[J)I"⟩
abbrev zc_Lp_write : ByteArray := prog_1_method_10_code
def zy_Lp_write : MethodName := ⟨zr_7, "write", "(I)I"⟩
abbrev zc_Wr_init : ByteArray := prog_8_method_1_code
def zy_Wr_init : MethodName := ⟨zr_6, "<init>", "(LLinePrograms$Header;LLinePrograms$Bytes;)V"⟩
abbrev zc_Wr_writeAll : ByteArray := prog_8_method_2_code
def zy_Wr_writeAll : MethodName := ⟨zr_6, "writeAll", "(LLinePrograms$Table;I)V"⟩
abbrev zc_Wr_writeStart : ByteArray := prog_8_method_3_code
def zy_Wr_writeStart : MethodName := ⟨zr_6, "writeStart", "(I)V"⟩
abbrev zc_Wr_writeFile : ByteArray := prog_8_method_4_code
def zy_Wr_writeFile : MethodName := ⟨zr_6, "writeFile", "(I)V"⟩
abbrev zc_Wr_writeUnsigned : ByteArray := prog_8_method_12_code
def zy_Wr_writeUnsigned : MethodName := ⟨zr_6, "writeUnsigned", "(I)V"⟩
abbrev zc_Wr_writeColumn : ByteArray := prog_8_method_5_code
def zy_Wr_writeColumn : MethodName := ⟨zr_6, "writeColumn", "(I)V"⟩
abbrev zc_Wr_writeStatement : ByteArray := prog_8_method_6_code
def zy_Wr_writeStatement : MethodName := ⟨zr_6, "writeStatement", "(I)V"⟩
abbrev zc_Wr_writeMove : ByteArray := prog_8_method_7_code
def zy_Wr_writeMove : MethodName := ⟨zr_6, "writeMove", "(II)V"⟩
abbrev zc_Wr_writeSigned : ByteArray := prog_8_method_13_code
def zy_Wr_writeSigned : MethodName := ⟨zr_6, "writeSigned", "(I)V"⟩
abbrev zc_Wr_writeSpecial : ByteArray := prog_8_method_8_code
def zy_Wr_writeSpecial : MethodName := ⟨zr_6, "writeSpecial", "(II)V"⟩
abbrev zc_Wr_special : ByteArray := prog_8_method_9_code
def zy_Wr_special : MethodName := ⟨zr_6, "special", "(II)J"⟩
abbrev zc_Wr_isByte : ByteArray := prog_8_method_10_code
def zy_Wr_isByte : MethodName := ⟨zr_6, "isByte", "(J)Z"⟩
abbrev zc_Wr_writeEnd : ByteArray := prog_8_method_11_code
def zy_Wr_writeEnd : MethodName := ⟨zr_6, "writeEnd", "(I)V"⟩
abbrev zc_Mo_init : ByteArray := prog_10_method_1_code
def zy_Mo_init : MethodName := ⟨zr_8, "<init>", "()V"⟩
abbrev zc_Mo_thrown : ByteArray := prog_10_method_2_code
def zy_Mo_thrown : MethodName := ⟨zr_8, "thrown", "()I"⟩
abbrev zc_Mo_header : ByteArray := prog_10_method_3_code
def zy_Mo_header : MethodName := ⟨zr_8, "header", "(IIII)Z"⟩
abbrev zc_Mo_put : ByteArray := prog_10_method_5_code
def zy_Mo_put : MethodName := ⟨zr_8, "put", "(I)I"⟩
abbrev zc_Mo_clear : ByteArray := prog_10_method_6_code
def zy_Mo_clear : MethodName := ⟨zr_8, "clear", "()I"⟩
abbrev zc_Mo_byteAt : ByteArray := prog_10_method_7_code
def zy_Mo_byteAt : MethodName := ⟨zr_8, "byteAt", "(I)I"⟩
abbrev zc_Mo_run : ByteArray := prog_10_method_17_code
def zy_Mo_run : MethodName := ⟨zr_8, "run", "()I"⟩
abbrev zc_Mo_begin : ByteArray := prog_10_method_11_code
def zy_Mo_begin : MethodName := ⟨zr_8, "begin", "()V"⟩
abbrev zc_Mo_next : ByteArray := prog_10_method_9_code
def zy_Mo_next : MethodName := ⟨zr_8, "next", "()I"⟩
abbrev zc_Mo_wrong : ByteArray := prog_10_method_8_code
def zy_Mo_wrong : MethodName := ⟨zr_8, "wrong", "(I)V"⟩
abbrev zc_Mo_instruction : ByteArray := prog_10_method_16_code
def zy_Mo_instruction : MethodName := ⟨zr_8, "instruction", "(I)V"⟩
abbrev zc_Mo_special : ByteArray := prog_10_method_15_code
def zy_Mo_special : MethodName := ⟨zr_8, "special", "(I)V"⟩
abbrev zc_Mo_check : ByteArray := prog_10_method_12_code
def zy_Mo_check : MethodName := ⟨zr_8, "check", "()V"⟩
abbrev zc_Mo_come : ByteArray := prog_10_method_13_code
def zy_Mo_come : MethodName := ⟨zr_8, "come", "(Z)V"⟩
abbrev zc_Mo_extended : ByteArray := prog_10_method_14_code
def zy_Mo_extended : MethodName := ⟨zr_8, "extended", "()V"⟩
abbrev zc_Mo_number : ByteArray := prog_10_method_10_code
def zy_Mo_number : MethodName := ⟨zr_8, "number", "(Z)J"⟩
abbrev zc_Mo_stepOf : ByteArray := prog_10_method_4_code
def zy_Mo_stepOf : MethodName := ⟨zr_8, "stepOf", "()I"⟩
abbrev zc_Mo_row : ByteArray := prog_10_method_18_code
def zy_Mo_row : MethodName := ⟨zr_8, "row", "(II)I"⟩
abbrev zc_Mo_find : ByteArray := prog_10_method_19_code
def zy_Mo_find : MethodName := ⟨zr_8, "find", "(I)I"⟩
abbrev zc_Mo_entry : ByteArray := prog_10_method_20_code
def zy_Mo_entry : MethodName := ⟨zr_8, "entry", "(IIIII)I"⟩
abbrev zc_Mo_write : ByteArray := prog_10_method_25_code
def zy_Mo_write : MethodName := ⟨zr_8, "write", "(I)I"⟩
abbrev zc_Mo_add : ByteArray := prog_10_method_21_code
def zy_Mo_add : MethodName := ⟨zr_8, "add", "(J)V"⟩
abbrev zc_Mo_writeEntry : ByteArray := prog_10_method_24_code
def zy_Mo_writeEntry : MethodName := ⟨zr_8, "writeEntry", "(I)V"⟩
abbrev zc_Mo_addUnsigned : ByteArray := prog_10_method_22_code
def zy_Mo_addUnsigned : MethodName := ⟨zr_8, "addUnsigned", "(IJ)V"⟩
abbrev zc_Mo_addSigned : ByteArray := prog_10_method_23_code
def zy_Mo_addSigned : MethodName := ⟨zr_8, "addSigned", "(IJ)V"⟩
abbrev zc_Mo_count : ByteArray := prog_10_method_26_code
def zy_Mo_count : MethodName := ⟨zr_8, "count", "(I)I"⟩
abbrev zc_La_law : ByteArray := code
def zy_La_law : MethodName := ⟨zr_9, "law", "([I)Z"⟩
