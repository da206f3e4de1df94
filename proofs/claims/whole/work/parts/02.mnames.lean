def RXM : String := "BatchClassesModel"
def TXM : u_T := fun k => match k with
  | 0 => ("BatchClassesModel", "thrown", "I", false)
  | 1 => ("BatchClassesModel", "most", "I", true)
  | 2 => ("BatchClassesModel", "types", "I", false)
  | 3 => ("BatchClassesModel", "does", "[I", true)
  | 4 => ("BatchClassesModel", "startFails", "[Z", true)
  | 5 => ("BatchClassesModel", "classes", "I", false)
  | 6 => ("BatchClassesModel", "typeOf", "[I", true)
  | 7 => ("BatchClassesModel", "cells", "[J", true)
  | 8 => ("BatchClassesModel", "records", "I", false)
  | 9 => ("BatchClassesModel", "fields", "[J", true)
  | 10 => ("BatchClassesModel", "locked", "[Z", true)
  | 11 => ("BatchClassesModel", "done", "[Z", true)
  | 12 => ("BatchClassesModel", "failures", "[I", true)
  | 13 => ("BatchClassesModel", "failureCount", "I", false)
  | 14 => ("BatchClassesModel", "latest", "I", false)
  | 15 => ("BatchClassesModel", "latestDone", "Z", false)
  | 16 => ("BatchClassesModel", "now", "[J", true)
  | 17 => ("BatchClassesModel", "cell", "J", false)
  | _ => ("BatchClassesModel", "locks", "Z", false)
def tyXM : Nat → FieldType := fun k => match k with
  | 0 => .int
  | 1 => .int
  | 2 => .int
  | 3 => .array .int
  | 4 => .array .boolean
  | 5 => .int
  | 6 => .array .int
  | 7 => .array .long
  | 8 => .int
  | 9 => .array .long
  | 10 => .array .boolean
  | 11 => .array .boolean
  | 12 => .array .int
  | 13 => .int
  | 14 => .int
  | 15 => .boolean
  | 16 => .array .long
  | 17 => .long
  | _ => .boolean
abbrev wsXM0 : List Cond := u_ws RXM TXM 19
theorem nmXM : ∀ a, a < 19 → ∀ b, b < 19 → a ≠ b → (TXM a).2.1 ≠ (TXM b).2.1 := by decide +kernel
theorem tyXM_ok : ∀ k, k < 19 → parseFieldDescriptor (TXM k).2.2.1 = some (tyXM k) := by decide +kernel
abbrev cXM_init : ByteArray := prog_5_method_1_code
def yXM_init : MethodName := ⟨RXM, "<init>", "(I)V"⟩
abbrev cXM_thrown : ByteArray := prog_5_method_2_code
def yXM_thrown : MethodName := ⟨RXM, "thrown", "()I"⟩
abbrev cXM_isClass : ByteArray := prog_5_method_3_code
def yXM_isClass : MethodName := ⟨RXM, "isClass", "(I)Z"⟩
abbrev cXM_isRecord : ByteArray := prog_5_method_4_code
def yXM_isRecord : MethodName := ⟨RXM, "isRecord", "(I)Z"⟩
abbrev cXM_type : ByteArray := prog_5_method_5_code
def yXM_type : MethodName := ⟨RXM, "type", "(IZ)I"⟩
abbrev cXM_make : ByteArray := prog_5_method_6_code
def yXM_make : MethodName := ⟨RXM, "make", "(I)I"⟩
abbrev cXM_record : ByteArray := prog_5_method_7_code
def yXM_record : MethodName := ⟨RXM, "record", "(IJ)I"⟩
abbrev cXM_reckon : ByteArray := prog_5_method_8_code
def yXM_reckon : MethodName := ⟨RXM, "reckon", "(I)V"⟩
abbrev cXM_goes : ByteArray := prog_5_method_9_code
def yXM_goes : MethodName := ⟨RXM, "goes", "(II)I"⟩
abbrev cXM_run : ByteArray := prog_5_method_10_code
def yXM_run : MethodName := ⟨RXM, "run", "(II)I"⟩
abbrev cXM_resume : ByteArray := prog_5_method_11_code
def yXM_resume : MethodName := ⟨RXM, "resume", "(I)I"⟩
abbrev cXM_dry : ByteArray := prog_5_method_12_code
def yXM_dry : MethodName := ⟨RXM, "dry", "(II)I"⟩
abbrev cXM_value : ByteArray := prog_5_method_13_code
def yXM_value : MethodName := ⟨RXM, "value", "(II)J"⟩
abbrev cXM_failed : ByteArray := prog_5_method_14_code
def yXM_failed : MethodName := ⟨RXM, "failed", "(II)I"⟩
abbrev cXM_cell : ByteArray := prog_5_method_15_code
def yXM_cell : MethodName := ⟨RXM, "cell", "(I)J"⟩
abbrev cXM_same : ByteArray := prog_5_method_16_code
def yXM_same : MethodName := ⟨RXM, "same", "(II)Z"⟩
abbrev cXM_divide : ByteArray := prog_5_method_17_code
def yXM_divide : MethodName := ⟨RXM, "divide", "(IJJ)J"⟩
abbrev cXM_handle : ByteArray := prog_5_method_18_code
def yXM_handle : MethodName := ⟨RXM, "handle", "(I)I"⟩
def wsXM_init : List Cond := .code yXM_init cXM_init 2 none :: ([.methodLink RXM 1 objectInit, .instanceMethod objectInit, .code objectInit ⟨#[0xb1]⟩ 1 none, .arrayClass .int, .fieldLink RXM 7 "BatchClassesModel" "does" "[I", .arrayClass .boolean, .fieldLink RXM 13 "BatchClassesModel" "startFails" "[Z", .fieldLink RXM 17 "BatchClassesModel" "typeOf" "[I", .arrayClass .long, .fieldLink RXM 20 "BatchClassesModel" "cells" "[J", .fieldLink RXM 24 "BatchClassesModel" "fields" "[J", .fieldLink RXM 27 "BatchClassesModel" "locked" "[Z", .fieldLink RXM 30 "BatchClassesModel" "done" "[Z", .fieldLink RXM 33 "BatchClassesModel" "failures" "[I", .fieldLink RXM 36 "BatchClassesModel" "now" "[J", .fieldLink RXM 39 "BatchClassesModel" "most" "I"] ++ wsXM0)
def wsXM_thrown : List Cond := .code yXM_thrown cXM_thrown 1 (some .int) :: ([.fieldLink RXM 43 "BatchClassesModel" "thrown" "I"] ++ wsXM0)
def wsXM_isClass : List Cond := .code yXM_isClass cXM_isClass 2 (some .boolean) :: ([.fieldLink RXM 46 "BatchClassesModel" "classes" "I"] ++ wsXM0)
def wsXM_isRecord : List Cond := .code yXM_isRecord cXM_isRecord 2 (some .boolean) :: ([.fieldLink RXM 49 "BatchClassesModel" "records" "I"] ++ wsXM0)
def wsXM_type : List Cond := .code yXM_type cXM_type 3 (some .int) :: ([.fieldLink RXM 43 "BatchClassesModel" "thrown" "I", .fieldLink RXM 52 "BatchClassesModel" "types" "I", .fieldLink RXM 7 "BatchClassesModel" "does" "[I", .fieldLink RXM 13 "BatchClassesModel" "startFails" "[Z"] ++ wsXM0)
def wsXM_make : List Cond := .code yXM_make cXM_make 2 (some .int) :: ([.fieldLink RXM 43 "BatchClassesModel" "thrown" "I", .fieldLink RXM 52 "BatchClassesModel" "types" "I", .fieldLink RXM 13 "BatchClassesModel" "startFails" "[Z", .fieldLink RXM 46 "BatchClassesModel" "classes" "I", .fieldLink RXM 17 "BatchClassesModel" "typeOf" "[I"] ++ wsXM0)
def wsXM_record : List Cond := .code yXM_record cXM_record 4 (some .int) :: ([.fieldLink RXM 43 "BatchClassesModel" "thrown" "I", .fieldLink RXM 49 "BatchClassesModel" "records" "I", .fieldLink RXM 24 "BatchClassesModel" "fields" "[J"] ++ wsXM0)
def wsXM_reckon : List Cond := .code yXM_reckon cXM_reckon 4 none :: ([.fieldLink RXM 36 "BatchClassesModel" "now" "[J", .fieldLink RXM 55 "BatchClassesModel" "cell" "J"] ++ wsXM0)
def wsXM_goes : List Cond := .code yXM_goes cXM_goes 7 (some .int) :: ([.methodLink RXM 59 yXM_isClass, .instanceMethod yXM_isClass, .selects RXM yXM_isClass yXM_isClass, .initialized RXM, .code yXM_isClass cXM_isClass 2 (some .boolean), .fieldLink RXM 46 "BatchClassesModel" "classes" "I", .methodLink RXM 63 yXM_isRecord, .instanceMethod yXM_isRecord, .selects RXM yXM_isRecord yXM_isRecord, .code yXM_isRecord cXM_isRecord 2 (some .boolean), .fieldLink RXM 49 "BatchClassesModel" "records" "I", .fieldLink RXM 27 "BatchClassesModel" "locked" "[Z", .fieldLink RXM 36 "BatchClassesModel" "now" "[J", .fieldLink RXM 24 "BatchClassesModel" "fields" "[J", .fieldLink RXM 20 "BatchClassesModel" "cells" "[J", .fieldLink RXM 55 "BatchClassesModel" "cell" "J", .fieldLink RXM 66 "BatchClassesModel" "locks" "Z", .fieldLink RXM 7 "BatchClassesModel" "does" "[I", .fieldLink RXM 17 "BatchClassesModel" "typeOf" "[I", .fieldLink RXM 39 "BatchClassesModel" "most" "I", .methodLink RXM 70 yXM_reckon, .instanceMethod yXM_reckon, .selects RXM yXM_reckon yXM_reckon, .code yXM_reckon cXM_reckon 4 none] ++ wsXM0)
def wsXM_run : List Cond := .code yXM_run cXM_run 5 (some .int) :: ([.fieldLink RXM 43 "BatchClassesModel" "thrown" "I", .methodLink RXM 74 yXM_goes, .instanceMethod yXM_goes, .selects RXM yXM_goes yXM_goes, .initialized RXM, .code yXM_goes cXM_goes 7 (some .int), .methodLink RXM 59 yXM_isClass, .instanceMethod yXM_isClass, .selects RXM yXM_isClass yXM_isClass, .code yXM_isClass cXM_isClass 2 (some .boolean), .fieldLink RXM 46 "BatchClassesModel" "classes" "I", .methodLink RXM 63 yXM_isRecord, .instanceMethod yXM_isRecord, .selects RXM yXM_isRecord yXM_isRecord, .code yXM_isRecord cXM_isRecord 2 (some .boolean), .fieldLink RXM 49 "BatchClassesModel" "records" "I", .fieldLink RXM 27 "BatchClassesModel" "locked" "[Z", .fieldLink RXM 36 "BatchClassesModel" "now" "[J", .fieldLink RXM 24 "BatchClassesModel" "fields" "[J", .fieldLink RXM 20 "BatchClassesModel" "cells" "[J", .fieldLink RXM 55 "BatchClassesModel" "cell" "J", .fieldLink RXM 66 "BatchClassesModel" "locks" "Z", .fieldLink RXM 7 "BatchClassesModel" "does" "[I", .fieldLink RXM 17 "BatchClassesModel" "typeOf" "[I", .fieldLink RXM 39 "BatchClassesModel" "most" "I", .methodLink RXM 70 yXM_reckon, .instanceMethod yXM_reckon, .selects RXM yXM_reckon yXM_reckon, .code yXM_reckon cXM_reckon 4 none, .fieldLink RXM 78 "BatchClassesModel" "latest" "I", .fieldLink RXM 81 "BatchClassesModel" "latestDone" "Z", .fieldLink RXM 30 "BatchClassesModel" "done" "[Z", .fieldLink RXM 84 "BatchClassesModel" "failureCount" "I", .fieldLink RXM 33 "BatchClassesModel" "failures" "[I"] ++ wsXM0)
def wsXM_resume : List Cond := .code yXM_resume cXM_resume 3 (some .int) :: ([.fieldLink RXM 43 "BatchClassesModel" "thrown" "I", .methodLink RXM 59 yXM_isClass, .instanceMethod yXM_isClass, .selects RXM yXM_isClass yXM_isClass, .initialized RXM, .code yXM_isClass cXM_isClass 2 (some .boolean), .fieldLink RXM 46 "BatchClassesModel" "classes" "I", .fieldLink RXM 49 "BatchClassesModel" "records" "I", .fieldLink RXM 30 "BatchClassesModel" "done" "[Z", .methodLink RXM 87 yXM_run, .instanceMethod yXM_run, .selects RXM yXM_run yXM_run, .code yXM_run cXM_run 5 (some .int), .methodLink RXM 74 yXM_goes, .instanceMethod yXM_goes, .selects RXM yXM_goes yXM_goes, .code yXM_goes cXM_goes 7 (some .int), .methodLink RXM 63 yXM_isRecord, .instanceMethod yXM_isRecord, .selects RXM yXM_isRecord yXM_isRecord, .code yXM_isRecord cXM_isRecord 2 (some .boolean), .fieldLink RXM 27 "BatchClassesModel" "locked" "[Z", .fieldLink RXM 36 "BatchClassesModel" "now" "[J", .fieldLink RXM 24 "BatchClassesModel" "fields" "[J", .fieldLink RXM 20 "BatchClassesModel" "cells" "[J", .fieldLink RXM 55 "BatchClassesModel" "cell" "J", .fieldLink RXM 66 "BatchClassesModel" "locks" "Z", .fieldLink RXM 7 "BatchClassesModel" "does" "[I", .fieldLink RXM 17 "BatchClassesModel" "typeOf" "[I", .fieldLink RXM 39 "BatchClassesModel" "most" "I", .methodLink RXM 70 yXM_reckon, .instanceMethod yXM_reckon, .selects RXM yXM_reckon yXM_reckon, .code yXM_reckon cXM_reckon 4 none, .fieldLink RXM 78 "BatchClassesModel" "latest" "I", .fieldLink RXM 81 "BatchClassesModel" "latestDone" "Z", .fieldLink RXM 84 "BatchClassesModel" "failureCount" "I", .fieldLink RXM 33 "BatchClassesModel" "failures" "[I"] ++ wsXM0)
def wsXM_dry : List Cond := .code yXM_dry cXM_dry 6 (some .int) :: ([.fieldLink RXM 43 "BatchClassesModel" "thrown" "I", .methodLink RXM 74 yXM_goes, .instanceMethod yXM_goes, .selects RXM yXM_goes yXM_goes, .initialized RXM, .code yXM_goes cXM_goes 7 (some .int), .methodLink RXM 59 yXM_isClass, .instanceMethod yXM_isClass, .selects RXM yXM_isClass yXM_isClass, .code yXM_isClass cXM_isClass 2 (some .boolean), .fieldLink RXM 46 "BatchClassesModel" "classes" "I", .methodLink RXM 63 yXM_isRecord, .instanceMethod yXM_isRecord, .selects RXM yXM_isRecord yXM_isRecord, .code yXM_isRecord cXM_isRecord 2 (some .boolean), .fieldLink RXM 49 "BatchClassesModel" "records" "I", .fieldLink RXM 27 "BatchClassesModel" "locked" "[Z", .fieldLink RXM 36 "BatchClassesModel" "now" "[J", .fieldLink RXM 24 "BatchClassesModel" "fields" "[J", .fieldLink RXM 20 "BatchClassesModel" "cells" "[J", .fieldLink RXM 55 "BatchClassesModel" "cell" "J", .fieldLink RXM 66 "BatchClassesModel" "locks" "Z", .fieldLink RXM 7 "BatchClassesModel" "does" "[I", .fieldLink RXM 17 "BatchClassesModel" "typeOf" "[I", .fieldLink RXM 39 "BatchClassesModel" "most" "I", .methodLink RXM 70 yXM_reckon, .instanceMethod yXM_reckon, .selects RXM yXM_reckon yXM_reckon, .code yXM_reckon cXM_reckon 4 none] ++ wsXM0)
def wsXM_value : List Cond := .code yXM_value cXM_value 3 (some .long) :: ([.fieldLink RXM 43 "BatchClassesModel" "thrown" "I", .methodLink RXM 63 yXM_isRecord, .instanceMethod yXM_isRecord, .selects RXM yXM_isRecord yXM_isRecord, .initialized RXM, .code yXM_isRecord cXM_isRecord 2 (some .boolean), .fieldLink RXM 49 "BatchClassesModel" "records" "I", .fieldLink RXM 24 "BatchClassesModel" "fields" "[J"] ++ wsXM0)
def wsXM_failed : List Cond := .code yXM_failed cXM_failed 3 (some .int) :: ([.fieldLink RXM 43 "BatchClassesModel" "thrown" "I", .fieldLink RXM 84 "BatchClassesModel" "failureCount" "I", .fieldLink RXM 33 "BatchClassesModel" "failures" "[I"] ++ wsXM0)
def wsXM_cell : List Cond := .code yXM_cell cXM_cell 2 (some .long) :: ([.fieldLink RXM 43 "BatchClassesModel" "thrown" "I", .methodLink RXM 59 yXM_isClass, .instanceMethod yXM_isClass, .selects RXM yXM_isClass yXM_isClass, .initialized RXM, .code yXM_isClass cXM_isClass 2 (some .boolean), .fieldLink RXM 46 "BatchClassesModel" "classes" "I", .fieldLink RXM 20 "BatchClassesModel" "cells" "[J"] ++ wsXM0)
def wsXM_same : List Cond := .code yXM_same cXM_same 3 (some .boolean) :: ([.fieldLink RXM 43 "BatchClassesModel" "thrown" "I", .methodLink RXM 59 yXM_isClass, .instanceMethod yXM_isClass, .selects RXM yXM_isClass yXM_isClass, .initialized RXM, .code yXM_isClass cXM_isClass 2 (some .boolean), .fieldLink RXM 46 "BatchClassesModel" "classes" "I", .fieldLink RXM 17 "BatchClassesModel" "typeOf" "[I"] ++ wsXM0)
def wsXM_divide : List Cond := .code yXM_divide cXM_divide 6 (some .long) :: ([.fieldLink RXM 43 "BatchClassesModel" "thrown" "I", .methodLink RXM 59 yXM_isClass, .instanceMethod yXM_isClass, .selects RXM yXM_isClass yXM_isClass, .initialized RXM, .code yXM_isClass cXM_isClass 2 (some .boolean), .fieldLink RXM 46 "BatchClassesModel" "classes" "I"] ++ wsXM0)
def wsXM_handle : List Cond := .code yXM_handle cXM_handle 4 (some .int) :: ([.fieldLink RXM 43 "BatchClassesModel" "thrown" "I", .fieldLink RXM 78 "BatchClassesModel" "latest" "I", .fieldLink RXM 81 "BatchClassesModel" "latestDone" "Z", .fieldLink RXM 46 "BatchClassesModel" "classes" "I", .fieldLink RXM 30 "BatchClassesModel" "done" "[Z"] ++ wsXM0)
theorem dXM_init_0 : decode cXM_init 0 = .ok (.aload_n 0, 1) := by decide +kernel
theorem dXM_init_1 : decode cXM_init 1 = .ok (.invokespecial 1, 3) := by decide +kernel
theorem dXM_init_4 : decode cXM_init 4 = .ok (.aload_n 0, 1) := by decide +kernel
theorem dXM_init_5 : decode cXM_init 5 = .ok (.bipush 21, 2) := by decide +kernel
theorem dXM_init_7 : decode cXM_init 7 = .ok (.newarray .int, 2) := by decide +kernel
theorem dXM_init_9 : decode cXM_init 9 = .ok (.putfield 7, 3) := by decide +kernel
theorem dXM_init_12 : decode cXM_init 12 = .ok (.aload_n 0, 1) := by decide +kernel
theorem dXM_init_13 : decode cXM_init 13 = .ok (.bipush 21, 2) := by decide +kernel
theorem dXM_init_15 : decode cXM_init 15 = .ok (.newarray .boolean, 2) := by decide +kernel
theorem dXM_init_17 : decode cXM_init 17 = .ok (.putfield 13, 3) := by decide +kernel
theorem dXM_init_20 : decode cXM_init 20 = .ok (.aload_n 0, 1) := by decide +kernel
theorem dXM_init_21 : decode cXM_init 21 = .ok (.bipush 61, 2) := by decide +kernel
theorem dXM_init_23 : decode cXM_init 23 = .ok (.newarray .int, 2) := by decide +kernel
theorem dXM_init_25 : decode cXM_init 25 = .ok (.putfield 17, 3) := by decide +kernel
theorem dXM_init_28 : decode cXM_init 28 = .ok (.aload_n 0, 1) := by decide +kernel
theorem dXM_init_29 : decode cXM_init 29 = .ok (.bipush 61, 2) := by decide +kernel
theorem dXM_init_31 : decode cXM_init 31 = .ok (.newarray .long, 2) := by decide +kernel
theorem dXM_init_33 : decode cXM_init 33 = .ok (.putfield 20, 3) := by decide +kernel
theorem dXM_init_36 : decode cXM_init 36 = .ok (.aload_n 0, 1) := by decide +kernel
theorem dXM_init_37 : decode cXM_init 37 = .ok (.sipush 244, 3) := by decide +kernel
theorem dXM_init_40 : decode cXM_init 40 = .ok (.newarray .long, 2) := by decide +kernel
theorem dXM_init_42 : decode cXM_init 42 = .ok (.putfield 24, 3) := by decide +kernel
theorem dXM_init_45 : decode cXM_init 45 = .ok (.aload_n 0, 1) := by decide +kernel
theorem dXM_init_46 : decode cXM_init 46 = .ok (.bipush 61, 2) := by decide +kernel
theorem dXM_init_48 : decode cXM_init 48 = .ok (.newarray .boolean, 2) := by decide +kernel
theorem dXM_init_50 : decode cXM_init 50 = .ok (.putfield 27, 3) := by decide +kernel
theorem dXM_init_53 : decode cXM_init 53 = .ok (.aload_n 0, 1) := by decide +kernel
theorem dXM_init_54 : decode cXM_init 54 = .ok (.sipush 3721, 3) := by decide +kernel
theorem dXM_init_57 : decode cXM_init 57 = .ok (.newarray .boolean, 2) := by decide +kernel
theorem dXM_init_59 : decode cXM_init 59 = .ok (.putfield 30, 3) := by decide +kernel
theorem dXM_init_62 : decode cXM_init 62 = .ok (.aload_n 0, 1) := by decide +kernel
theorem dXM_init_63 : decode cXM_init 63 = .ok (.sipush 300, 3) := by decide +kernel
theorem dXM_init_66 : decode cXM_init 66 = .ok (.newarray .int, 2) := by decide +kernel
theorem dXM_init_68 : decode cXM_init 68 = .ok (.putfield 33, 3) := by decide +kernel
theorem dXM_init_71 : decode cXM_init 71 = .ok (.aload_n 0, 1) := by decide +kernel
theorem dXM_init_72 : decode cXM_init 72 = .ok (.iconst 4, 1) := by decide +kernel
theorem dXM_init_73 : decode cXM_init 73 = .ok (.newarray .long, 2) := by decide +kernel
theorem dXM_init_75 : decode cXM_init 75 = .ok (.putfield 36, 3) := by decide +kernel
theorem dXM_init_78 : decode cXM_init 78 = .ok (.aload_n 0, 1) := by decide +kernel
theorem dXM_init_79 : decode cXM_init 79 = .ok (.iload_n 1, 1) := by decide +kernel
theorem dXM_init_80 : decode cXM_init 80 = .ok (.iconst 1, 1) := by decide +kernel
theorem dXM_init_81 : decode cXM_init 81 = .ok (.if_icmp .ge 7, 3) := by decide +kernel
theorem dXM_init_84 : decode cXM_init 84 = .ok (.iconst 1, 1) := by decide +kernel
theorem dXM_init_85 : decode cXM_init 85 = .ok (.goto 17, 3) := by decide +kernel
theorem dXM_init_88 : decode cXM_init 88 = .ok (.iload_n 1, 1) := by decide +kernel
theorem dXM_init_89 : decode cXM_init 89 = .ok (.sipush 200, 3) := by decide +kernel
theorem dXM_init_92 : decode cXM_init 92 = .ok (.if_icmp .le 9, 3) := by decide +kernel
theorem dXM_init_95 : decode cXM_init 95 = .ok (.sipush 200, 3) := by decide +kernel
theorem dXM_init_98 : decode cXM_init 98 = .ok (.goto 4, 3) := by decide +kernel
theorem dXM_init_101 : decode cXM_init 101 = .ok (.iload_n 1, 1) := by decide +kernel
theorem dXM_init_102 : decode cXM_init 102 = .ok (.putfield 39, 3) := by decide +kernel
theorem dXM_init_105 : decode cXM_init 105 = .ok (.return_, 1) := by decide +kernel
theorem dXM_thrown_0 : decode cXM_thrown 0 = .ok (.aload_n 0, 1) := by decide +kernel
theorem dXM_thrown_1 : decode cXM_thrown 1 = .ok (.getfield 43, 3) := by decide +kernel
theorem dXM_thrown_4 : decode cXM_thrown 4 = .ok (.ireturn, 1) := by decide +kernel
theorem dXM_isClass_0 : decode cXM_isClass 0 = .ok (.iload_n 1, 1) := by decide +kernel
theorem dXM_isClass_1 : decode cXM_isClass 1 = .ok (.ifCond .le 15, 3) := by decide +kernel
theorem dXM_isClass_4 : decode cXM_isClass 4 = .ok (.iload_n 1, 1) := by decide +kernel
theorem dXM_isClass_5 : decode cXM_isClass 5 = .ok (.aload_n 0, 1) := by decide +kernel
theorem dXM_isClass_6 : decode cXM_isClass 6 = .ok (.getfield 46, 3) := by decide +kernel
theorem dXM_isClass_9 : decode cXM_isClass 9 = .ok (.if_icmp .gt 7, 3) := by decide +kernel
theorem dXM_isClass_12 : decode cXM_isClass 12 = .ok (.iconst 1, 1) := by decide +kernel
theorem dXM_isClass_13 : decode cXM_isClass 13 = .ok (.goto 4, 3) := by decide +kernel
theorem dXM_isClass_16 : decode cXM_isClass 16 = .ok (.iconst 0, 1) := by decide +kernel
theorem dXM_isClass_17 : decode cXM_isClass 17 = .ok (.ireturn, 1) := by decide +kernel
theorem dXM_isRecord_0 : decode cXM_isRecord 0 = .ok (.iload_n 1, 1) := by decide +kernel
theorem dXM_isRecord_1 : decode cXM_isRecord 1 = .ok (.ifCond .le 15, 3) := by decide +kernel
theorem dXM_isRecord_4 : decode cXM_isRecord 4 = .ok (.iload_n 1, 1) := by decide +kernel
theorem dXM_isRecord_5 : decode cXM_isRecord 5 = .ok (.aload_n 0, 1) := by decide +kernel
theorem dXM_isRecord_6 : decode cXM_isRecord 6 = .ok (.getfield 49, 3) := by decide +kernel
theorem dXM_isRecord_9 : decode cXM_isRecord 9 = .ok (.if_icmp .gt 7, 3) := by decide +kernel
theorem dXM_isRecord_12 : decode cXM_isRecord 12 = .ok (.iconst 1, 1) := by decide +kernel
theorem dXM_isRecord_13 : decode cXM_isRecord 13 = .ok (.goto 4, 3) := by decide +kernel
theorem dXM_isRecord_16 : decode cXM_isRecord 16 = .ok (.iconst 0, 1) := by decide +kernel
theorem dXM_isRecord_17 : decode cXM_isRecord 17 = .ok (.ireturn, 1) := by decide +kernel
theorem dXM_type_0 : decode cXM_type 0 = .ok (.aload_n 0, 1) := by decide +kernel
theorem dXM_type_1 : decode cXM_type 1 = .ok (.iconst 0, 1) := by decide +kernel
theorem dXM_type_2 : decode cXM_type 2 = .ok (.putfield 43, 3) := by decide +kernel
theorem dXM_type_5 : decode cXM_type 5 = .ok (.aload_n 0, 1) := by decide +kernel
theorem dXM_type_6 : decode cXM_type 6 = .ok (.getfield 52, 3) := by decide +kernel
theorem dXM_type_9 : decode cXM_type 9 = .ok (.bipush 20, 2) := by decide +kernel
theorem dXM_type_11 : decode cXM_type 11 = .ok (.if_icmp .ne 5, 3) := by decide +kernel
theorem dXM_type_14 : decode cXM_type 14 = .ok (.iconst 0, 1) := by decide +kernel
theorem dXM_type_15 : decode cXM_type 15 = .ok (.ireturn, 1) := by decide +kernel
theorem dXM_type_16 : decode cXM_type 16 = .ok (.aload_n 0, 1) := by decide +kernel
theorem dXM_type_17 : decode cXM_type 17 = .ok (.dup, 1) := by decide +kernel
theorem dXM_type_18 : decode cXM_type 18 = .ok (.getfield 52, 3) := by decide +kernel
theorem dXM_type_21 : decode cXM_type 21 = .ok (.iconst 1, 1) := by decide +kernel
theorem dXM_type_22 : decode cXM_type 22 = .ok (.iadd, 1) := by decide +kernel
theorem dXM_type_23 : decode cXM_type 23 = .ok (.putfield 52, 3) := by decide +kernel
theorem dXM_type_26 : decode cXM_type 26 = .ok (.aload_n 0, 1) := by decide +kernel
theorem dXM_type_27 : decode cXM_type 27 = .ok (.getfield 7, 3) := by decide +kernel
theorem dXM_type_30 : decode cXM_type 30 = .ok (.aload_n 0, 1) := by decide +kernel
theorem dXM_type_31 : decode cXM_type 31 = .ok (.getfield 52, 3) := by decide +kernel
theorem dXM_type_34 : decode cXM_type 34 = .ok (.iload_n 1, 1) := by decide +kernel
theorem dXM_type_35 : decode cXM_type 35 = .ok (.iastore, 1) := by decide +kernel
theorem dXM_type_36 : decode cXM_type 36 = .ok (.aload_n 0, 1) := by decide +kernel
theorem dXM_type_37 : decode cXM_type 37 = .ok (.getfield 13, 3) := by decide +kernel
theorem dXM_type_40 : decode cXM_type 40 = .ok (.aload_n 0, 1) := by decide +kernel
theorem dXM_type_41 : decode cXM_type 41 = .ok (.getfield 52, 3) := by decide +kernel
theorem dXM_type_44 : decode cXM_type 44 = .ok (.iload_n 2, 1) := by decide +kernel
theorem dXM_type_45 : decode cXM_type 45 = .ok (.bastore, 1) := by decide +kernel
theorem dXM_type_46 : decode cXM_type 46 = .ok (.aload_n 0, 1) := by decide +kernel
theorem dXM_type_47 : decode cXM_type 47 = .ok (.getfield 52, 3) := by decide +kernel
theorem dXM_type_50 : decode cXM_type 50 = .ok (.ireturn, 1) := by decide +kernel
theorem dXM_make_0 : decode cXM_make 0 = .ok (.aload_n 0, 1) := by decide +kernel
theorem dXM_make_1 : decode cXM_make 1 = .ok (.iconst 0, 1) := by decide +kernel
theorem dXM_make_2 : decode cXM_make 2 = .ok (.putfield 43, 3) := by decide +kernel
theorem dXM_make_5 : decode cXM_make 5 = .ok (.iload_n 1, 1) := by decide +kernel
theorem dXM_make_6 : decode cXM_make 6 = .ok (.iconst 1, 1) := by decide +kernel
theorem dXM_make_7 : decode cXM_make 7 = .ok (.if_icmp .lt 29, 3) := by decide +kernel
theorem dXM_make_10 : decode cXM_make 10 = .ok (.iload_n 1, 1) := by decide +kernel
theorem dXM_make_11 : decode cXM_make 11 = .ok (.aload_n 0, 1) := by decide +kernel
theorem dXM_make_12 : decode cXM_make 12 = .ok (.getfield 52, 3) := by decide +kernel
theorem dXM_make_15 : decode cXM_make 15 = .ok (.if_icmp .gt 21, 3) := by decide +kernel
theorem dXM_make_18 : decode cXM_make 18 = .ok (.aload_n 0, 1) := by decide +kernel
theorem dXM_make_19 : decode cXM_make 19 = .ok (.getfield 13, 3) := by decide +kernel
theorem dXM_make_22 : decode cXM_make 22 = .ok (.iload_n 1, 1) := by decide +kernel
theorem dXM_make_23 : decode cXM_make 23 = .ok (.baload, 1) := by decide +kernel
theorem dXM_make_24 : decode cXM_make 24 = .ok (.ifCond .ne 12, 3) := by decide +kernel
theorem dXM_make_27 : decode cXM_make 27 = .ok (.aload_n 0, 1) := by decide +kernel
theorem dXM_make_28 : decode cXM_make 28 = .ok (.getfield 46, 3) := by decide +kernel
theorem dXM_make_31 : decode cXM_make 31 = .ok (.bipush 60, 2) := by decide +kernel
theorem dXM_make_33 : decode cXM_make 33 = .ok (.if_icmp .ne 5, 3) := by decide +kernel
theorem dXM_make_36 : decode cXM_make 36 = .ok (.iconst (-1), 1) := by decide +kernel
theorem dXM_make_37 : decode cXM_make 37 = .ok (.ireturn, 1) := by decide +kernel
theorem dXM_make_38 : decode cXM_make 38 = .ok (.aload_n 0, 1) := by decide +kernel
theorem dXM_make_39 : decode cXM_make 39 = .ok (.dup, 1) := by decide +kernel
theorem dXM_make_40 : decode cXM_make 40 = .ok (.getfield 46, 3) := by decide +kernel
theorem dXM_make_43 : decode cXM_make 43 = .ok (.iconst 1, 1) := by decide +kernel
theorem dXM_make_44 : decode cXM_make 44 = .ok (.iadd, 1) := by decide +kernel
theorem dXM_make_45 : decode cXM_make 45 = .ok (.putfield 46, 3) := by decide +kernel
theorem dXM_make_48 : decode cXM_make 48 = .ok (.aload_n 0, 1) := by decide +kernel
theorem dXM_make_49 : decode cXM_make 49 = .ok (.getfield 17, 3) := by decide +kernel
theorem dXM_make_52 : decode cXM_make 52 = .ok (.aload_n 0, 1) := by decide +kernel
theorem dXM_make_53 : decode cXM_make 53 = .ok (.getfield 46, 3) := by decide +kernel
theorem dXM_make_56 : decode cXM_make 56 = .ok (.iload_n 1, 1) := by decide +kernel
theorem dXM_make_57 : decode cXM_make 57 = .ok (.iastore, 1) := by decide +kernel
theorem dXM_make_58 : decode cXM_make 58 = .ok (.aload_n 0, 1) := by decide +kernel
theorem dXM_make_59 : decode cXM_make 59 = .ok (.getfield 46, 3) := by decide +kernel
theorem dXM_make_62 : decode cXM_make 62 = .ok (.ireturn, 1) := by decide +kernel
theorem dXM_record_0 : decode cXM_record 0 = .ok (.aload_n 0, 1) := by decide +kernel
theorem dXM_record_1 : decode cXM_record 1 = .ok (.iconst 0, 1) := by decide +kernel
theorem dXM_record_2 : decode cXM_record 2 = .ok (.putfield 43, 3) := by decide +kernel
theorem dXM_record_5 : decode cXM_record 5 = .ok (.iload_n 1, 1) := by decide +kernel
theorem dXM_record_6 : decode cXM_record 6 = .ok (.ifCond .lt 17, 3) := by decide +kernel
theorem dXM_record_9 : decode cXM_record 9 = .ok (.iload_n 1, 1) := by decide +kernel
theorem dXM_record_10 : decode cXM_record 10 = .ok (.iconst 3, 1) := by decide +kernel
theorem dXM_record_11 : decode cXM_record 11 = .ok (.if_icmp .gt 12, 3) := by decide +kernel
theorem dXM_record_14 : decode cXM_record 14 = .ok (.aload_n 0, 1) := by decide +kernel
theorem dXM_record_15 : decode cXM_record 15 = .ok (.getfield 49, 3) := by decide +kernel
theorem dXM_record_18 : decode cXM_record 18 = .ok (.bipush 60, 2) := by decide +kernel
theorem dXM_record_20 : decode cXM_record 20 = .ok (.if_icmp .ne 5, 3) := by decide +kernel
theorem dXM_record_23 : decode cXM_record 23 = .ok (.iconst 0, 1) := by decide +kernel
theorem dXM_record_24 : decode cXM_record 24 = .ok (.ireturn, 1) := by decide +kernel
theorem dXM_record_25 : decode cXM_record 25 = .ok (.aload_n 0, 1) := by decide +kernel
theorem dXM_record_26 : decode cXM_record 26 = .ok (.dup, 1) := by decide +kernel
theorem dXM_record_27 : decode cXM_record 27 = .ok (.getfield 49, 3) := by decide +kernel
theorem dXM_record_30 : decode cXM_record 30 = .ok (.iconst 1, 1) := by decide +kernel
theorem dXM_record_31 : decode cXM_record 31 = .ok (.iadd, 1) := by decide +kernel
theorem dXM_record_32 : decode cXM_record 32 = .ok (.putfield 49, 3) := by decide +kernel
theorem dXM_record_35 : decode cXM_record 35 = .ok (.aload_n 0, 1) := by decide +kernel
theorem dXM_record_36 : decode cXM_record 36 = .ok (.getfield 24, 3) := by decide +kernel
theorem dXM_record_39 : decode cXM_record 39 = .ok (.iconst 4, 1) := by decide +kernel
theorem dXM_record_40 : decode cXM_record 40 = .ok (.aload_n 0, 1) := by decide +kernel
theorem dXM_record_41 : decode cXM_record 41 = .ok (.getfield 49, 3) := by decide +kernel
theorem dXM_record_44 : decode cXM_record 44 = .ok (.imul, 1) := by decide +kernel
theorem dXM_record_45 : decode cXM_record 45 = .ok (.iload_n 1, 1) := by decide +kernel
theorem dXM_record_46 : decode cXM_record 46 = .ok (.iadd, 1) := by decide +kernel
theorem dXM_record_47 : decode cXM_record 47 = .ok (.lload_n 2, 1) := by decide +kernel
theorem dXM_record_48 : decode cXM_record 48 = .ok (.lastore, 1) := by decide +kernel
theorem dXM_record_49 : decode cXM_record 49 = .ok (.aload_n 0, 1) := by decide +kernel
theorem dXM_record_50 : decode cXM_record 50 = .ok (.getfield 49, 3) := by decide +kernel
theorem dXM_record_53 : decode cXM_record 53 = .ok (.ireturn, 1) := by decide +kernel
theorem dXM_reckon_0 : decode cXM_reckon 0 = .ok (.aload_n 0, 1) := by decide +kernel
theorem dXM_reckon_1 : decode cXM_reckon 1 = .ok (.getfield 36, 3) := by decide +kernel
theorem dXM_reckon_4 : decode cXM_reckon 4 = .ok (.iconst 0, 1) := by decide +kernel
theorem dXM_reckon_5 : decode cXM_reckon 5 = .ok (.laload, 1) := by decide +kernel
theorem dXM_reckon_6 : decode cXM_reckon 6 = .ok (.lstore_n 2, 1) := by decide +kernel
theorem dXM_reckon_7 : decode cXM_reckon 7 = .ok (.iload_n 1, 1) := by decide +kernel
theorem dXM_reckon_8 : decode cXM_reckon 8 = .ok (.tableswitch 195 1 12 #[64, 76, 88, 98, 115, 195, 195, 137, 150, 195, 163, 178], 64) := by decide +kernel
theorem dXM_reckon_72 : decode cXM_reckon 72 = .ok (.aload_n 0, 1) := by decide +kernel
theorem dXM_reckon_73 : decode cXM_reckon 73 = .ok (.getfield 36, 3) := by decide +kernel
theorem dXM_reckon_76 : decode cXM_reckon 76 = .ok (.iconst 0, 1) := by decide +kernel
theorem dXM_reckon_77 : decode cXM_reckon 77 = .ok (.lload_n 2, 1) := by decide +kernel
theorem dXM_reckon_78 : decode cXM_reckon 78 = .ok (.lconst 1, 1) := by decide +kernel
theorem dXM_reckon_79 : decode cXM_reckon 79 = .ok (.ladd, 1) := by decide +kernel
theorem dXM_reckon_80 : decode cXM_reckon 80 = .ok (.lastore, 1) := by decide +kernel
theorem dXM_reckon_81 : decode cXM_reckon 81 = .ok (.goto 122, 3) := by decide +kernel
theorem dXM_reckon_84 : decode cXM_reckon 84 = .ok (.aload_n 0, 1) := by decide +kernel
theorem dXM_reckon_85 : decode cXM_reckon 85 = .ok (.getfield 36, 3) := by decide +kernel
theorem dXM_reckon_88 : decode cXM_reckon 88 = .ok (.iconst 0, 1) := by decide +kernel
theorem dXM_reckon_89 : decode cXM_reckon 89 = .ok (.lload_n 2, 1) := by decide +kernel
theorem dXM_reckon_90 : decode cXM_reckon 90 = .ok (.lload_n 2, 1) := by decide +kernel
theorem dXM_reckon_91 : decode cXM_reckon 91 = .ok (.ladd, 1) := by decide +kernel
theorem dXM_reckon_92 : decode cXM_reckon 92 = .ok (.lastore, 1) := by decide +kernel
theorem dXM_reckon_93 : decode cXM_reckon 93 = .ok (.goto 110, 3) := by decide +kernel
theorem dXM_reckon_96 : decode cXM_reckon 96 = .ok (.aload_n 0, 1) := by decide +kernel
theorem dXM_reckon_97 : decode cXM_reckon 97 = .ok (.getfield 36, 3) := by decide +kernel
theorem dXM_reckon_100 : decode cXM_reckon 100 = .ok (.iconst 1, 1) := by decide +kernel
theorem dXM_reckon_101 : decode cXM_reckon 101 = .ok (.lload_n 2, 1) := by decide +kernel
theorem dXM_reckon_102 : decode cXM_reckon 102 = .ok (.lastore, 1) := by decide +kernel
theorem dXM_reckon_103 : decode cXM_reckon 103 = .ok (.goto 100, 3) := by decide +kernel
theorem dXM_reckon_106 : decode cXM_reckon 106 = .ok (.aload_n 0, 1) := by decide +kernel
theorem dXM_reckon_107 : decode cXM_reckon 107 = .ok (.getfield 36, 3) := by decide +kernel
theorem dXM_reckon_110 : decode cXM_reckon 110 = .ok (.iconst 0, 1) := by decide +kernel
theorem dXM_reckon_111 : decode cXM_reckon 111 = .ok (.lload_n 2, 1) := by decide +kernel
theorem dXM_reckon_112 : decode cXM_reckon 112 = .ok (.aload_n 0, 1) := by decide +kernel
theorem dXM_reckon_113 : decode cXM_reckon 113 = .ok (.getfield 36, 3) := by decide +kernel
theorem dXM_reckon_116 : decode cXM_reckon 116 = .ok (.iconst 1, 1) := by decide +kernel
theorem dXM_reckon_117 : decode cXM_reckon 117 = .ok (.laload, 1) := by decide +kernel
theorem dXM_reckon_118 : decode cXM_reckon 118 = .ok (.ldiv, 1) := by decide +kernel
theorem dXM_reckon_119 : decode cXM_reckon 119 = .ok (.lastore, 1) := by decide +kernel
theorem dXM_reckon_120 : decode cXM_reckon 120 = .ok (.goto 83, 3) := by decide +kernel
theorem dXM_reckon_123 : decode cXM_reckon 123 = .ok (.aload_n 0, 1) := by decide +kernel
theorem dXM_reckon_124 : decode cXM_reckon 124 = .ok (.getfield 36, 3) := by decide +kernel
theorem dXM_reckon_127 : decode cXM_reckon 127 = .ok (.iconst 0, 1) := by decide +kernel
theorem dXM_reckon_128 : decode cXM_reckon 128 = .ok (.aload_n 0, 1) := by decide +kernel
theorem dXM_reckon_129 : decode cXM_reckon 129 = .ok (.getfield 36, 3) := by decide +kernel
theorem dXM_reckon_132 : decode cXM_reckon 132 = .ok (.iconst 1, 1) := by decide +kernel
theorem dXM_reckon_133 : decode cXM_reckon 133 = .ok (.laload, 1) := by decide +kernel
theorem dXM_reckon_134 : decode cXM_reckon 134 = .ok (.lastore, 1) := by decide +kernel
theorem dXM_reckon_135 : decode cXM_reckon 135 = .ok (.aload_n 0, 1) := by decide +kernel
theorem dXM_reckon_136 : decode cXM_reckon 136 = .ok (.getfield 36, 3) := by decide +kernel
theorem dXM_reckon_139 : decode cXM_reckon 139 = .ok (.iconst 1, 1) := by decide +kernel
theorem dXM_reckon_140 : decode cXM_reckon 140 = .ok (.lload_n 2, 1) := by decide +kernel
theorem dXM_reckon_141 : decode cXM_reckon 141 = .ok (.lastore, 1) := by decide +kernel
theorem dXM_reckon_142 : decode cXM_reckon 142 = .ok (.goto 61, 3) := by decide +kernel
theorem dXM_reckon_145 : decode cXM_reckon 145 = .ok (.aload_n 0, 1) := by decide +kernel
theorem dXM_reckon_146 : decode cXM_reckon 146 = .ok (.dup, 1) := by decide +kernel
theorem dXM_reckon_147 : decode cXM_reckon 147 = .ok (.getfield 55, 3) := by decide +kernel
theorem dXM_reckon_150 : decode cXM_reckon 150 = .ok (.lload_n 2, 1) := by decide +kernel
theorem dXM_reckon_151 : decode cXM_reckon 151 = .ok (.ladd, 1) := by decide +kernel
theorem dXM_reckon_152 : decode cXM_reckon 152 = .ok (.putfield 55, 3) := by decide +kernel
theorem dXM_reckon_155 : decode cXM_reckon 155 = .ok (.goto 48, 3) := by decide +kernel
theorem dXM_reckon_158 : decode cXM_reckon 158 = .ok (.aload_n 0, 1) := by decide +kernel
theorem dXM_reckon_159 : decode cXM_reckon 159 = .ok (.getfield 36, 3) := by decide +kernel
theorem dXM_reckon_162 : decode cXM_reckon 162 = .ok (.iconst 0, 1) := by decide +kernel
theorem dXM_reckon_163 : decode cXM_reckon 163 = .ok (.aload_n 0, 1) := by decide +kernel
theorem dXM_reckon_164 : decode cXM_reckon 164 = .ok (.getfield 55, 3) := by decide +kernel
theorem dXM_reckon_167 : decode cXM_reckon 167 = .ok (.lastore, 1) := by decide +kernel
theorem dXM_reckon_168 : decode cXM_reckon 168 = .ok (.goto 35, 3) := by decide +kernel
theorem dXM_reckon_171 : decode cXM_reckon 171 = .ok (.aload_n 0, 1) := by decide +kernel
theorem dXM_reckon_172 : decode cXM_reckon 172 = .ok (.getfield 36, 3) := by decide +kernel
theorem dXM_reckon_175 : decode cXM_reckon 175 = .ok (.iconst 2, 1) := by decide +kernel
theorem dXM_reckon_176 : decode cXM_reckon 176 = .ok (.aload_n 0, 1) := by decide +kernel
theorem dXM_reckon_177 : decode cXM_reckon 177 = .ok (.getfield 36, 3) := by decide +kernel
theorem dXM_reckon_180 : decode cXM_reckon 180 = .ok (.iconst 3, 1) := by decide +kernel
theorem dXM_reckon_181 : decode cXM_reckon 181 = .ok (.laload, 1) := by decide +kernel
theorem dXM_reckon_182 : decode cXM_reckon 182 = .ok (.lastore, 1) := by decide +kernel
theorem dXM_reckon_183 : decode cXM_reckon 183 = .ok (.goto 20, 3) := by decide +kernel
theorem dXM_reckon_186 : decode cXM_reckon 186 = .ok (.aload_n 0, 1) := by decide +kernel
theorem dXM_reckon_187 : decode cXM_reckon 187 = .ok (.getfield 36, 3) := by decide +kernel
theorem dXM_reckon_190 : decode cXM_reckon 190 = .ok (.iconst 3, 1) := by decide +kernel
theorem dXM_reckon_191 : decode cXM_reckon 191 = .ok (.lload_n 2, 1) := by decide +kernel
theorem dXM_reckon_192 : decode cXM_reckon 192 = .ok (.aload_n 0, 1) := by decide +kernel
theorem dXM_reckon_193 : decode cXM_reckon 193 = .ok (.getfield 36, 3) := by decide +kernel
theorem dXM_reckon_196 : decode cXM_reckon 196 = .ok (.iconst 2, 1) := by decide +kernel
theorem dXM_reckon_197 : decode cXM_reckon 197 = .ok (.laload, 1) := by decide +kernel
theorem dXM_reckon_198 : decode cXM_reckon 198 = .ok (.lsub, 1) := by decide +kernel
theorem dXM_reckon_199 : decode cXM_reckon 199 = .ok (.lastore, 1) := by decide +kernel
theorem dXM_reckon_200 : decode cXM_reckon 200 = .ok (.goto 3, 3) := by decide +kernel
theorem dXM_reckon_203 : decode cXM_reckon 203 = .ok (.return_, 1) := by decide +kernel
theorem dXM_goes_0 : decode cXM_goes 0 = .ok (.aload_n 0, 1) := by decide +kernel
theorem dXM_goes_1 : decode cXM_goes 1 = .ok (.iload_n 1, 1) := by decide +kernel
theorem dXM_goes_2 : decode cXM_goes 2 = .ok (.invokevirtual 59, 3) := by decide +kernel
theorem dXM_goes_5 : decode cXM_goes 5 = .ok (.ifCond .eq 11, 3) := by decide +kernel
theorem dXM_goes_8 : decode cXM_goes 8 = .ok (.aload_n 0, 1) := by decide +kernel
theorem dXM_goes_9 : decode cXM_goes 9 = .ok (.iload_n 2, 1) := by decide +kernel
theorem dXM_goes_10 : decode cXM_goes 10 = .ok (.invokevirtual 63, 3) := by decide +kernel
theorem dXM_goes_13 : decode cXM_goes 13 = .ok (.ifCond .ne 5, 3) := by decide +kernel
theorem dXM_goes_16 : decode cXM_goes 16 = .ok (.iconst (-1), 1) := by decide +kernel
theorem dXM_goes_17 : decode cXM_goes 17 = .ok (.ireturn, 1) := by decide +kernel
theorem dXM_goes_18 : decode cXM_goes 18 = .ok (.aload_n 0, 1) := by decide +kernel
theorem dXM_goes_19 : decode cXM_goes 19 = .ok (.getfield 27, 3) := by decide +kernel
theorem dXM_goes_22 : decode cXM_goes 22 = .ok (.iload_n 2, 1) := by decide +kernel
theorem dXM_goes_23 : decode cXM_goes 23 = .ok (.baload, 1) := by decide +kernel
theorem dXM_goes_24 : decode cXM_goes 24 = .ok (.ifCond .eq 6, 3) := by decide +kernel
theorem dXM_goes_27 : decode cXM_goes 27 = .ok (.bipush (-5), 2) := by decide +kernel
theorem dXM_goes_29 : decode cXM_goes 29 = .ok (.ireturn, 1) := by decide +kernel
theorem dXM_goes_30 : decode cXM_goes 30 = .ok (.iconst 0, 1) := by decide +kernel
theorem dXM_goes_31 : decode cXM_goes 31 = .ok (.istore_n 3, 1) := by decide +kernel
theorem dXM_goes_32 : decode cXM_goes 32 = .ok (.iload_n 3, 1) := by decide +kernel
theorem dXM_goes_33 : decode cXM_goes 33 = .ok (.iconst 4, 1) := by decide +kernel
theorem dXM_goes_34 : decode cXM_goes 34 = .ok (.if_icmp .ge 25, 3) := by decide +kernel
theorem dXM_goes_37 : decode cXM_goes 37 = .ok (.aload_n 0, 1) := by decide +kernel
theorem dXM_goes_38 : decode cXM_goes 38 = .ok (.getfield 36, 3) := by decide +kernel
theorem dXM_goes_41 : decode cXM_goes 41 = .ok (.iload_n 3, 1) := by decide +kernel
theorem dXM_goes_42 : decode cXM_goes 42 = .ok (.aload_n 0, 1) := by decide +kernel
theorem dXM_goes_43 : decode cXM_goes 43 = .ok (.getfield 24, 3) := by decide +kernel
theorem dXM_goes_46 : decode cXM_goes 46 = .ok (.iconst 4, 1) := by decide +kernel
theorem dXM_goes_47 : decode cXM_goes 47 = .ok (.iload_n 2, 1) := by decide +kernel
theorem dXM_goes_48 : decode cXM_goes 48 = .ok (.imul, 1) := by decide +kernel
theorem dXM_goes_49 : decode cXM_goes 49 = .ok (.iload_n 3, 1) := by decide +kernel
theorem dXM_goes_50 : decode cXM_goes 50 = .ok (.iadd, 1) := by decide +kernel
theorem dXM_goes_51 : decode cXM_goes 51 = .ok (.laload, 1) := by decide +kernel
theorem dXM_goes_52 : decode cXM_goes 52 = .ok (.lastore, 1) := by decide +kernel
theorem dXM_goes_53 : decode cXM_goes 53 = .ok (.iinc 3 1, 3) := by decide +kernel
theorem dXM_goes_56 : decode cXM_goes 56 = .ok (.goto (-24), 3) := by decide +kernel
theorem dXM_goes_59 : decode cXM_goes 59 = .ok (.aload_n 0, 1) := by decide +kernel
theorem dXM_goes_60 : decode cXM_goes 60 = .ok (.aload_n 0, 1) := by decide +kernel
theorem dXM_goes_61 : decode cXM_goes 61 = .ok (.getfield 20, 3) := by decide +kernel
theorem dXM_goes_64 : decode cXM_goes 64 = .ok (.iload_n 1, 1) := by decide +kernel
theorem dXM_goes_65 : decode cXM_goes 65 = .ok (.laload, 1) := by decide +kernel
theorem dXM_goes_66 : decode cXM_goes 66 = .ok (.putfield 55, 3) := by decide +kernel
theorem dXM_goes_69 : decode cXM_goes 69 = .ok (.aload_n 0, 1) := by decide +kernel
theorem dXM_goes_70 : decode cXM_goes 70 = .ok (.iconst 0, 1) := by decide +kernel
theorem dXM_goes_71 : decode cXM_goes 71 = .ok (.putfield 66, 3) := by decide +kernel
theorem dXM_goes_74 : decode cXM_goes 74 = .ok (.aload_n 0, 1) := by decide +kernel
theorem dXM_goes_75 : decode cXM_goes 75 = .ok (.getfield 7, 3) := by decide +kernel
theorem dXM_goes_78 : decode cXM_goes 78 = .ok (.aload_n 0, 1) := by decide +kernel
theorem dXM_goes_79 : decode cXM_goes 79 = .ok (.getfield 17, 3) := by decide +kernel
theorem dXM_goes_82 : decode cXM_goes 82 = .ok (.iload_n 1, 1) := by decide +kernel
theorem dXM_goes_83 : decode cXM_goes 83 = .ok (.iaload, 1) := by decide +kernel
theorem dXM_goes_84 : decode cXM_goes 84 = .ok (.iaload, 1) := by decide +kernel
theorem dXM_goes_85 : decode cXM_goes 85 = .ok (.istore_n 3, 1) := by decide +kernel
theorem dXM_goes_86 : decode cXM_goes 86 = .ok (.iconst 0, 1) := by decide +kernel
theorem dXM_goes_87 : decode cXM_goes 87 = .ok (.istore 4, 2) := by decide +kernel
theorem dXM_goes_89 : decode cXM_goes 89 = .ok (.iconst 0, 1) := by decide +kernel
theorem dXM_goes_90 : decode cXM_goes 90 = .ok (.istore 5, 2) := by decide +kernel
theorem dXM_goes_92 : decode cXM_goes 92 = .ok (.iload 4, 2) := by decide +kernel
theorem dXM_goes_94 : decode cXM_goes 94 = .ok (.bipush 8, 2) := by decide +kernel
theorem dXM_goes_96 : decode cXM_goes 96 = .ok (.if_icmp .ge 137, 3) := by decide +kernel
theorem dXM_goes_99 : decode cXM_goes 99 = .ok (.iload 5, 2) := by decide +kernel
theorem dXM_goes_101 : decode cXM_goes 101 = .ok (.aload_n 0, 1) := by decide +kernel
theorem dXM_goes_102 : decode cXM_goes 102 = .ok (.getfield 39, 3) := by decide +kernel
theorem dXM_goes_105 : decode cXM_goes 105 = .ok (.if_icmp .ne 6, 3) := by decide +kernel
theorem dXM_goes_108 : decode cXM_goes 108 = .ok (.bipush (-4), 2) := by decide +kernel
theorem dXM_goes_110 : decode cXM_goes 110 = .ok (.ireturn, 1) := by decide +kernel
theorem dXM_goes_111 : decode cXM_goes 111 = .ok (.iinc 5 1, 3) := by decide +kernel
theorem dXM_goes_114 : decode cXM_goes 114 = .ok (.iload_n 3, 1) := by decide +kernel
theorem dXM_goes_115 : decode cXM_goes 115 = .ok (.iconst 4, 1) := by decide +kernel
theorem dXM_goes_116 : decode cXM_goes 116 = .ok (.iload 4, 2) := by decide +kernel
theorem dXM_goes_118 : decode cXM_goes 118 = .ok (.imul, 1) := by decide +kernel
theorem dXM_goes_119 : decode cXM_goes 119 = .ok (.ishr, 1) := by decide +kernel
theorem dXM_goes_120 : decode cXM_goes 120 = .ok (.bipush 15, 2) := by decide +kernel
theorem dXM_goes_122 : decode cXM_goes 122 = .ok (.iand, 1) := by decide +kernel
theorem dXM_goes_123 : decode cXM_goes 123 = .ok (.istore 6, 2) := by decide +kernel
theorem dXM_goes_125 : decode cXM_goes 125 = .ok (.iinc 4 1, 3) := by decide +kernel
theorem dXM_goes_128 : decode cXM_goes 128 = .ok (.iload 6, 2) := by decide +kernel
theorem dXM_goes_130 : decode cXM_goes 130 = .ok (.iconst 4, 1) := by decide +kernel
theorem dXM_goes_131 : decode cXM_goes 131 = .ok (.if_icmp .ne 17, 3) := by decide +kernel
theorem dXM_goes_134 : decode cXM_goes 134 = .ok (.aload_n 0, 1) := by decide +kernel
theorem dXM_goes_135 : decode cXM_goes 135 = .ok (.getfield 36, 3) := by decide +kernel
theorem dXM_goes_138 : decode cXM_goes 138 = .ok (.iconst 1, 1) := by decide +kernel
theorem dXM_goes_139 : decode cXM_goes 139 = .ok (.laload, 1) := by decide +kernel
theorem dXM_goes_140 : decode cXM_goes 140 = .ok (.lconst 0, 1) := by decide +kernel
theorem dXM_goes_141 : decode cXM_goes 141 = .ok (.lcmp, 1) := by decide +kernel
theorem dXM_goes_142 : decode cXM_goes 142 = .ok (.ifCond .ne 6, 3) := by decide +kernel
theorem dXM_goes_145 : decode cXM_goes 145 = .ok (.bipush (-2), 2) := by decide +kernel
theorem dXM_goes_147 : decode cXM_goes 147 = .ok (.ireturn, 1) := by decide +kernel
theorem dXM_goes_148 : decode cXM_goes 148 = .ok (.iload 6, 2) := by decide +kernel
theorem dXM_goes_150 : decode cXM_goes 150 = .ok (.bipush 10, 2) := by decide +kernel
theorem dXM_goes_152 : decode cXM_goes 152 = .ok (.if_icmp .ne 6, 3) := by decide +kernel
theorem dXM_goes_155 : decode cXM_goes 155 = .ok (.bipush (-3), 2) := by decide +kernel
theorem dXM_goes_157 : decode cXM_goes 157 = .ok (.ireturn, 1) := by decide +kernel
theorem dXM_goes_158 : decode cXM_goes 158 = .ok (.aload_n 0, 1) := by decide +kernel
theorem dXM_goes_159 : decode cXM_goes 159 = .ok (.iload 6, 2) := by decide +kernel
theorem dXM_goes_161 : decode cXM_goes 161 = .ok (.invokevirtual 70, 3) := by decide +kernel
theorem dXM_goes_164 : decode cXM_goes 164 = .ok (.aload_n 0, 1) := by decide +kernel
theorem dXM_goes_165 : decode cXM_goes 165 = .ok (.aload_n 0, 1) := by decide +kernel
theorem dXM_goes_166 : decode cXM_goes 166 = .ok (.getfield 66, 3) := by decide +kernel
theorem dXM_goes_169 : decode cXM_goes 169 = .ok (.ifCond .ne 10, 3) := by decide +kernel
theorem dXM_goes_172 : decode cXM_goes 172 = .ok (.iload 6, 2) := by decide +kernel
theorem dXM_goes_174 : decode cXM_goes 174 = .ok (.bipush 7, 2) := by decide +kernel
theorem dXM_goes_176 : decode cXM_goes 176 = .ok (.if_icmp .ne 7, 3) := by decide +kernel
theorem dXM_goes_179 : decode cXM_goes 179 = .ok (.iconst 1, 1) := by decide +kernel
theorem dXM_goes_180 : decode cXM_goes 180 = .ok (.goto 4, 3) := by decide +kernel
theorem dXM_goes_183 : decode cXM_goes 183 = .ok (.iconst 0, 1) := by decide +kernel
theorem dXM_goes_184 : decode cXM_goes 184 = .ok (.putfield 66, 3) := by decide +kernel
theorem dXM_goes_187 : decode cXM_goes 187 = .ok (.iload 6, 2) := by decide +kernel
theorem dXM_goes_189 : decode cXM_goes 189 = .ok (.bipush 6, 2) := by decide +kernel
theorem dXM_goes_191 : decode cXM_goes 191 = .ok (.if_icmp .ne 23, 3) := by decide +kernel
theorem dXM_goes_194 : decode cXM_goes 194 = .ok (.aload_n 0, 1) := by decide +kernel
theorem dXM_goes_195 : decode cXM_goes 195 = .ok (.getfield 36, 3) := by decide +kernel
theorem dXM_goes_198 : decode cXM_goes 198 = .ok (.iconst 0, 1) := by decide +kernel
theorem dXM_goes_199 : decode cXM_goes 199 = .ok (.laload, 1) := by decide +kernel
theorem dXM_goes_200 : decode cXM_goes 200 = .ok (.aload_n 0, 1) := by decide +kernel
theorem dXM_goes_201 : decode cXM_goes 201 = .ok (.getfield 36, 3) := by decide +kernel
theorem dXM_goes_204 : decode cXM_goes 204 = .ok (.iconst 2, 1) := by decide +kernel
theorem dXM_goes_205 : decode cXM_goes 205 = .ok (.laload, 1) := by decide +kernel
theorem dXM_goes_206 : decode cXM_goes 206 = .ok (.lcmp, 1) := by decide +kernel
theorem dXM_goes_207 : decode cXM_goes 207 = .ok (.ifCond .ge 7, 3) := by decide +kernel
theorem dXM_goes_210 : decode cXM_goes 210 = .ok (.iconst 0, 1) := by decide +kernel
theorem dXM_goes_211 : decode cXM_goes 211 = .ok (.goto 17, 3) := by decide +kernel
theorem dXM_goes_214 : decode cXM_goes 214 = .ok (.iload 6, 2) := by decide +kernel
theorem dXM_goes_216 : decode cXM_goes 216 = .ok (.bipush 13, 2) := by decide +kernel
theorem dXM_goes_218 : decode cXM_goes 218 = .ok (.if_icmp .ne 8, 3) := by decide +kernel
theorem dXM_goes_221 : decode cXM_goes 221 = .ok (.bipush 8, 2) := by decide +kernel
theorem dXM_goes_223 : decode cXM_goes 223 = .ok (.goto 5, 3) := by decide +kernel
theorem dXM_goes_226 : decode cXM_goes 226 = .ok (.iload 4, 2) := by decide +kernel
theorem dXM_goes_228 : decode cXM_goes 228 = .ok (.istore 4, 2) := by decide +kernel
theorem dXM_goes_230 : decode cXM_goes 230 = .ok (.goto (-138), 3) := by decide +kernel
theorem dXM_goes_233 : decode cXM_goes 233 = .ok (.iconst 1, 1) := by decide +kernel
theorem dXM_goes_234 : decode cXM_goes 234 = .ok (.ireturn, 1) := by decide +kernel
theorem dXM_run_0 : decode cXM_run 0 = .ok (.aload_n 0, 1) := by decide +kernel
theorem dXM_run_1 : decode cXM_run 1 = .ok (.iconst 0, 1) := by decide +kernel
theorem dXM_run_2 : decode cXM_run 2 = .ok (.putfield 43, 3) := by decide +kernel
theorem dXM_run_5 : decode cXM_run 5 = .ok (.aload_n 0, 1) := by decide +kernel
theorem dXM_run_6 : decode cXM_run 6 = .ok (.iload_n 1, 1) := by decide +kernel
theorem dXM_run_7 : decode cXM_run 7 = .ok (.iload_n 2, 1) := by decide +kernel
theorem dXM_run_8 : decode cXM_run 8 = .ok (.invokevirtual 74, 3) := by decide +kernel
theorem dXM_run_11 : decode cXM_run 11 = .ok (.istore_n 3, 1) := by decide +kernel
theorem dXM_run_12 : decode cXM_run 12 = .ok (.iload_n 3, 1) := by decide +kernel
theorem dXM_run_13 : decode cXM_run 13 = .ok (.iconst (-1), 1) := by decide +kernel
theorem dXM_run_14 : decode cXM_run 14 = .ok (.if_icmp .ne 5, 3) := by decide +kernel
theorem dXM_run_17 : decode cXM_run 17 = .ok (.iload_n 3, 1) := by decide +kernel
theorem dXM_run_18 : decode cXM_run 18 = .ok (.ireturn, 1) := by decide +kernel
theorem dXM_run_19 : decode cXM_run 19 = .ok (.aload_n 0, 1) := by decide +kernel
theorem dXM_run_20 : decode cXM_run 20 = .ok (.iload_n 2, 1) := by decide +kernel
theorem dXM_run_21 : decode cXM_run 21 = .ok (.putfield 78, 3) := by decide +kernel
theorem dXM_run_24 : decode cXM_run 24 = .ok (.aload_n 0, 1) := by decide +kernel
theorem dXM_run_25 : decode cXM_run 25 = .ok (.iload_n 3, 1) := by decide +kernel
theorem dXM_run_26 : decode cXM_run 26 = .ok (.iconst 1, 1) := by decide +kernel
theorem dXM_run_27 : decode cXM_run 27 = .ok (.if_icmp .ne 7, 3) := by decide +kernel
theorem dXM_run_30 : decode cXM_run 30 = .ok (.iconst 1, 1) := by decide +kernel
theorem dXM_run_31 : decode cXM_run 31 = .ok (.goto 4, 3) := by decide +kernel
theorem dXM_run_34 : decode cXM_run 34 = .ok (.iconst 0, 1) := by decide +kernel
theorem dXM_run_35 : decode cXM_run 35 = .ok (.putfield 81, 3) := by decide +kernel
theorem dXM_run_38 : decode cXM_run 38 = .ok (.iload_n 3, 1) := by decide +kernel
theorem dXM_run_39 : decode cXM_run 39 = .ok (.iconst 1, 1) := by decide +kernel
theorem dXM_run_40 : decode cXM_run 40 = .ok (.if_icmp .ne 71, 3) := by decide +kernel
theorem dXM_run_43 : decode cXM_run 43 = .ok (.iconst 0, 1) := by decide +kernel
theorem dXM_run_44 : decode cXM_run 44 = .ok (.istore 4, 2) := by decide +kernel
theorem dXM_run_46 : decode cXM_run 46 = .ok (.iload 4, 2) := by decide +kernel
theorem dXM_run_48 : decode cXM_run 48 = .ok (.iconst 4, 1) := by decide +kernel
theorem dXM_run_49 : decode cXM_run 49 = .ok (.if_icmp .ge 27, 3) := by decide +kernel
theorem dXM_run_52 : decode cXM_run 52 = .ok (.aload_n 0, 1) := by decide +kernel
theorem dXM_run_53 : decode cXM_run 53 = .ok (.getfield 24, 3) := by decide +kernel
theorem dXM_run_56 : decode cXM_run 56 = .ok (.iconst 4, 1) := by decide +kernel
theorem dXM_run_57 : decode cXM_run 57 = .ok (.iload_n 2, 1) := by decide +kernel
theorem dXM_run_58 : decode cXM_run 58 = .ok (.imul, 1) := by decide +kernel
theorem dXM_run_59 : decode cXM_run 59 = .ok (.iload 4, 2) := by decide +kernel
theorem dXM_run_61 : decode cXM_run 61 = .ok (.iadd, 1) := by decide +kernel
theorem dXM_run_62 : decode cXM_run 62 = .ok (.aload_n 0, 1) := by decide +kernel
theorem dXM_run_63 : decode cXM_run 63 = .ok (.getfield 36, 3) := by decide +kernel
theorem dXM_run_66 : decode cXM_run 66 = .ok (.iload 4, 2) := by decide +kernel
theorem dXM_run_68 : decode cXM_run 68 = .ok (.laload, 1) := by decide +kernel
theorem dXM_run_69 : decode cXM_run 69 = .ok (.lastore, 1) := by decide +kernel
theorem dXM_run_70 : decode cXM_run 70 = .ok (.iinc 4 1, 3) := by decide +kernel
theorem dXM_run_73 : decode cXM_run 73 = .ok (.goto (-27), 3) := by decide +kernel
theorem dXM_run_76 : decode cXM_run 76 = .ok (.aload_n 0, 1) := by decide +kernel
theorem dXM_run_77 : decode cXM_run 77 = .ok (.getfield 20, 3) := by decide +kernel
theorem dXM_run_80 : decode cXM_run 80 = .ok (.iload_n 1, 1) := by decide +kernel
theorem dXM_run_81 : decode cXM_run 81 = .ok (.aload_n 0, 1) := by decide +kernel
theorem dXM_run_82 : decode cXM_run 82 = .ok (.getfield 55, 3) := by decide +kernel
theorem dXM_run_85 : decode cXM_run 85 = .ok (.lastore, 1) := by decide +kernel
theorem dXM_run_86 : decode cXM_run 86 = .ok (.aload_n 0, 1) := by decide +kernel
theorem dXM_run_87 : decode cXM_run 87 = .ok (.getfield 27, 3) := by decide +kernel
theorem dXM_run_90 : decode cXM_run 90 = .ok (.iload_n 2, 1) := by decide +kernel
theorem dXM_run_91 : decode cXM_run 91 = .ok (.aload_n 0, 1) := by decide +kernel
theorem dXM_run_92 : decode cXM_run 92 = .ok (.getfield 66, 3) := by decide +kernel
theorem dXM_run_95 : decode cXM_run 95 = .ok (.bastore, 1) := by decide +kernel
theorem dXM_run_96 : decode cXM_run 96 = .ok (.aload_n 0, 1) := by decide +kernel
theorem dXM_run_97 : decode cXM_run 97 = .ok (.getfield 30, 3) := by decide +kernel
theorem dXM_run_100 : decode cXM_run 100 = .ok (.bipush 61, 2) := by decide +kernel
theorem dXM_run_102 : decode cXM_run 102 = .ok (.iload_n 1, 1) := by decide +kernel
theorem dXM_run_103 : decode cXM_run 103 = .ok (.imul, 1) := by decide +kernel
theorem dXM_run_104 : decode cXM_run 104 = .ok (.iload_n 2, 1) := by decide +kernel
theorem dXM_run_105 : decode cXM_run 105 = .ok (.iadd, 1) := by decide +kernel
theorem dXM_run_106 : decode cXM_run 106 = .ok (.iconst 1, 1) := by decide +kernel
theorem dXM_run_107 : decode cXM_run 107 = .ok (.bastore, 1) := by decide +kernel
theorem dXM_run_108 : decode cXM_run 108 = .ok (.goto 63, 3) := by decide +kernel
theorem dXM_run_111 : decode cXM_run 111 = .ok (.aload_n 0, 1) := by decide +kernel
theorem dXM_run_112 : decode cXM_run 112 = .ok (.getfield 84, 3) := by decide +kernel
theorem dXM_run_115 : decode cXM_run 115 = .ok (.bipush 100, 2) := by decide +kernel
theorem dXM_run_117 : decode cXM_run 117 = .ok (.if_icmp .ge 44, 3) := by decide +kernel
theorem dXM_run_120 : decode cXM_run 120 = .ok (.aload_n 0, 1) := by decide +kernel
theorem dXM_run_121 : decode cXM_run 121 = .ok (.getfield 33, 3) := by decide +kernel
theorem dXM_run_124 : decode cXM_run 124 = .ok (.iconst 3, 1) := by decide +kernel
theorem dXM_run_125 : decode cXM_run 125 = .ok (.aload_n 0, 1) := by decide +kernel
theorem dXM_run_126 : decode cXM_run 126 = .ok (.getfield 84, 3) := by decide +kernel
theorem dXM_run_129 : decode cXM_run 129 = .ok (.imul, 1) := by decide +kernel
theorem dXM_run_130 : decode cXM_run 130 = .ok (.iload_n 2, 1) := by decide +kernel
theorem dXM_run_131 : decode cXM_run 131 = .ok (.iastore, 1) := by decide +kernel
theorem dXM_run_132 : decode cXM_run 132 = .ok (.aload_n 0, 1) := by decide +kernel
theorem dXM_run_133 : decode cXM_run 133 = .ok (.getfield 33, 3) := by decide +kernel
theorem dXM_run_136 : decode cXM_run 136 = .ok (.iconst 3, 1) := by decide +kernel
theorem dXM_run_137 : decode cXM_run 137 = .ok (.aload_n 0, 1) := by decide +kernel
theorem dXM_run_138 : decode cXM_run 138 = .ok (.getfield 84, 3) := by decide +kernel
theorem dXM_run_141 : decode cXM_run 141 = .ok (.imul, 1) := by decide +kernel
theorem dXM_run_142 : decode cXM_run 142 = .ok (.iconst 1, 1) := by decide +kernel
theorem dXM_run_143 : decode cXM_run 143 = .ok (.iadd, 1) := by decide +kernel
theorem dXM_run_144 : decode cXM_run 144 = .ok (.iload_n 3, 1) := by decide +kernel
theorem dXM_run_145 : decode cXM_run 145 = .ok (.ineg, 1) := by decide +kernel
theorem dXM_run_146 : decode cXM_run 146 = .ok (.iastore, 1) := by decide +kernel
theorem dXM_run_147 : decode cXM_run 147 = .ok (.aload_n 0, 1) := by decide +kernel
theorem dXM_run_148 : decode cXM_run 148 = .ok (.getfield 33, 3) := by decide +kernel
theorem dXM_run_151 : decode cXM_run 151 = .ok (.iconst 3, 1) := by decide +kernel
theorem dXM_run_152 : decode cXM_run 152 = .ok (.aload_n 0, 1) := by decide +kernel
theorem dXM_run_153 : decode cXM_run 153 = .ok (.getfield 84, 3) := by decide +kernel
theorem dXM_run_156 : decode cXM_run 156 = .ok (.imul, 1) := by decide +kernel
theorem dXM_run_157 : decode cXM_run 157 = .ok (.iconst 2, 1) := by decide +kernel
theorem dXM_run_158 : decode cXM_run 158 = .ok (.iadd, 1) := by decide +kernel
theorem dXM_run_159 : decode cXM_run 159 = .ok (.iload_n 1, 1) := by decide +kernel
theorem dXM_run_160 : decode cXM_run 160 = .ok (.iastore, 1) := by decide +kernel
theorem dXM_run_161 : decode cXM_run 161 = .ok (.aload_n 0, 1) := by decide +kernel
theorem dXM_run_162 : decode cXM_run 162 = .ok (.dup, 1) := by decide +kernel
theorem dXM_run_163 : decode cXM_run 163 = .ok (.getfield 84, 3) := by decide +kernel
theorem dXM_run_166 : decode cXM_run 166 = .ok (.iconst 1, 1) := by decide +kernel
theorem dXM_run_167 : decode cXM_run 167 = .ok (.iadd, 1) := by decide +kernel
theorem dXM_run_168 : decode cXM_run 168 = .ok (.putfield 84, 3) := by decide +kernel
theorem dXM_run_171 : decode cXM_run 171 = .ok (.iload_n 3, 1) := by decide +kernel
theorem dXM_run_172 : decode cXM_run 172 = .ok (.ireturn, 1) := by decide +kernel
theorem dXM_resume_0 : decode cXM_resume 0 = .ok (.aload_n 0, 1) := by decide +kernel
theorem dXM_resume_1 : decode cXM_resume 1 = .ok (.iconst 0, 1) := by decide +kernel
theorem dXM_resume_2 : decode cXM_resume 2 = .ok (.putfield 43, 3) := by decide +kernel
theorem dXM_resume_5 : decode cXM_resume 5 = .ok (.aload_n 0, 1) := by decide +kernel
theorem dXM_resume_6 : decode cXM_resume 6 = .ok (.iload_n 1, 1) := by decide +kernel
theorem dXM_resume_7 : decode cXM_resume 7 = .ok (.invokevirtual 59, 3) := by decide +kernel
theorem dXM_resume_10 : decode cXM_resume 10 = .ok (.ifCond .ne 5, 3) := by decide +kernel
theorem dXM_resume_13 : decode cXM_resume 13 = .ok (.iconst (-1), 1) := by decide +kernel
theorem dXM_resume_14 : decode cXM_resume 14 = .ok (.ireturn, 1) := by decide +kernel
theorem dXM_resume_15 : decode cXM_resume 15 = .ok (.aload_n 0, 1) := by decide +kernel
theorem dXM_resume_16 : decode cXM_resume 16 = .ok (.getfield 49, 3) := by decide +kernel
theorem dXM_resume_19 : decode cXM_resume 19 = .ok (.istore_n 2, 1) := by decide +kernel
theorem dXM_resume_20 : decode cXM_resume 20 = .ok (.iload_n 2, 1) := by decide +kernel
theorem dXM_resume_21 : decode cXM_resume 21 = .ok (.ifCond .le 23, 3) := by decide +kernel
theorem dXM_resume_24 : decode cXM_resume 24 = .ok (.aload_n 0, 1) := by decide +kernel
theorem dXM_resume_25 : decode cXM_resume 25 = .ok (.getfield 30, 3) := by decide +kernel
theorem dXM_resume_28 : decode cXM_resume 28 = .ok (.bipush 61, 2) := by decide +kernel
theorem dXM_resume_30 : decode cXM_resume 30 = .ok (.iload_n 1, 1) := by decide +kernel
theorem dXM_resume_31 : decode cXM_resume 31 = .ok (.imul, 1) := by decide +kernel
theorem dXM_resume_32 : decode cXM_resume 32 = .ok (.iload_n 2, 1) := by decide +kernel
theorem dXM_resume_33 : decode cXM_resume 33 = .ok (.iadd, 1) := by decide +kernel
theorem dXM_resume_34 : decode cXM_resume 34 = .ok (.baload, 1) := by decide +kernel
theorem dXM_resume_35 : decode cXM_resume 35 = .ok (.ifCond .ne 9, 3) := by decide +kernel
theorem dXM_resume_38 : decode cXM_resume 38 = .ok (.iinc 2 (-1), 3) := by decide +kernel
theorem dXM_resume_41 : decode cXM_resume 41 = .ok (.goto (-21), 3) := by decide +kernel
theorem dXM_resume_44 : decode cXM_resume 44 = .ok (.iload_n 2, 1) := by decide +kernel
theorem dXM_resume_45 : decode cXM_resume 45 = .ok (.iconst 1, 1) := by decide +kernel
theorem dXM_resume_46 : decode cXM_resume 46 = .ok (.iadd, 1) := by decide +kernel
theorem dXM_resume_47 : decode cXM_resume 47 = .ok (.istore_n 2, 1) := by decide +kernel
theorem dXM_resume_48 : decode cXM_resume 48 = .ok (.iload_n 2, 1) := by decide +kernel
theorem dXM_resume_49 : decode cXM_resume 49 = .ok (.aload_n 0, 1) := by decide +kernel
theorem dXM_resume_50 : decode cXM_resume 50 = .ok (.getfield 49, 3) := by decide +kernel
theorem dXM_resume_53 : decode cXM_resume 53 = .ok (.if_icmp .gt 21, 3) := by decide +kernel
theorem dXM_resume_56 : decode cXM_resume 56 = .ok (.aload_n 0, 1) := by decide +kernel
theorem dXM_resume_57 : decode cXM_resume 57 = .ok (.iload_n 1, 1) := by decide +kernel
theorem dXM_resume_58 : decode cXM_resume 58 = .ok (.iload_n 2, 1) := by decide +kernel
theorem dXM_resume_59 : decode cXM_resume 59 = .ok (.invokevirtual 87, 3) := by decide +kernel
theorem dXM_resume_62 : decode cXM_resume 62 = .ok (.iconst 1, 1) := by decide +kernel
theorem dXM_resume_63 : decode cXM_resume 63 = .ok (.if_icmp .eq 5, 3) := by decide +kernel
theorem dXM_resume_66 : decode cXM_resume 66 = .ok (.iload_n 2, 1) := by decide +kernel
theorem dXM_resume_67 : decode cXM_resume 67 = .ok (.ireturn, 1) := by decide +kernel
theorem dXM_resume_68 : decode cXM_resume 68 = .ok (.iinc 2 1, 3) := by decide +kernel
theorem dXM_resume_71 : decode cXM_resume 71 = .ok (.goto (-23), 3) := by decide +kernel
theorem dXM_resume_74 : decode cXM_resume 74 = .ok (.iconst 0, 1) := by decide +kernel
theorem dXM_resume_75 : decode cXM_resume 75 = .ok (.ireturn, 1) := by decide +kernel
theorem dXM_dry_0 : decode cXM_dry 0 = .ok (.aload_n 0, 1) := by decide +kernel
theorem dXM_dry_1 : decode cXM_dry 1 = .ok (.iconst 0, 1) := by decide +kernel
theorem dXM_dry_2 : decode cXM_dry 2 = .ok (.putfield 43, 3) := by decide +kernel
theorem dXM_dry_5 : decode cXM_dry 5 = .ok (.aload_n 0, 1) := by decide +kernel
theorem dXM_dry_6 : decode cXM_dry 6 = .ok (.iload_n 1, 1) := by decide +kernel
theorem dXM_dry_7 : decode cXM_dry 7 = .ok (.iload_n 2, 1) := by decide +kernel
theorem dXM_dry_8 : decode cXM_dry 8 = .ok (.invokevirtual 74, 3) := by decide +kernel
theorem dXM_dry_11 : decode cXM_dry 11 = .ok (.istore_n 3, 1) := by decide +kernel
theorem dXM_dry_12 : decode cXM_dry 12 = .ok (.iload_n 3, 1) := by decide +kernel
theorem dXM_dry_13 : decode cXM_dry 13 = .ok (.iconst 1, 1) := by decide +kernel
theorem dXM_dry_14 : decode cXM_dry 14 = .ok (.if_icmp .eq 5, 3) := by decide +kernel
theorem dXM_dry_17 : decode cXM_dry 17 = .ok (.iload_n 3, 1) := by decide +kernel
theorem dXM_dry_18 : decode cXM_dry 18 = .ok (.ireturn, 1) := by decide +kernel
theorem dXM_dry_19 : decode cXM_dry 19 = .ok (.iconst 0, 1) := by decide +kernel
theorem dXM_dry_20 : decode cXM_dry 20 = .ok (.istore 4, 2) := by decide +kernel
theorem dXM_dry_22 : decode cXM_dry 22 = .ok (.iconst 0, 1) := by decide +kernel
theorem dXM_dry_23 : decode cXM_dry 23 = .ok (.istore 5, 2) := by decide +kernel
theorem dXM_dry_25 : decode cXM_dry 25 = .ok (.iload 5, 2) := by decide +kernel
theorem dXM_dry_27 : decode cXM_dry 27 = .ok (.iconst 4, 1) := by decide +kernel
theorem dXM_dry_28 : decode cXM_dry 28 = .ok (.if_icmp .ge 41, 3) := by decide +kernel
theorem dXM_dry_31 : decode cXM_dry 31 = .ok (.iload 4, 2) := by decide +kernel
theorem dXM_dry_33 : decode cXM_dry 33 = .ok (.aload_n 0, 1) := by decide +kernel
theorem dXM_dry_34 : decode cXM_dry 34 = .ok (.getfield 24, 3) := by decide +kernel
theorem dXM_dry_37 : decode cXM_dry 37 = .ok (.iconst 4, 1) := by decide +kernel
theorem dXM_dry_38 : decode cXM_dry 38 = .ok (.iload_n 2, 1) := by decide +kernel
theorem dXM_dry_39 : decode cXM_dry 39 = .ok (.imul, 1) := by decide +kernel
theorem dXM_dry_40 : decode cXM_dry 40 = .ok (.iload 5, 2) := by decide +kernel
theorem dXM_dry_42 : decode cXM_dry 42 = .ok (.iadd, 1) := by decide +kernel
theorem dXM_dry_43 : decode cXM_dry 43 = .ok (.laload, 1) := by decide +kernel
theorem dXM_dry_44 : decode cXM_dry 44 = .ok (.aload_n 0, 1) := by decide +kernel
theorem dXM_dry_45 : decode cXM_dry 45 = .ok (.getfield 36, 3) := by decide +kernel
theorem dXM_dry_48 : decode cXM_dry 48 = .ok (.iload 5, 2) := by decide +kernel
theorem dXM_dry_50 : decode cXM_dry 50 = .ok (.laload, 1) := by decide +kernel
theorem dXM_dry_51 : decode cXM_dry 51 = .ok (.lcmp, 1) := by decide +kernel
theorem dXM_dry_52 : decode cXM_dry 52 = .ok (.ifCond .eq 7, 3) := by decide +kernel
theorem dXM_dry_55 : decode cXM_dry 55 = .ok (.iconst 1, 1) := by decide +kernel
theorem dXM_dry_56 : decode cXM_dry 56 = .ok (.goto 4, 3) := by decide +kernel
theorem dXM_dry_59 : decode cXM_dry 59 = .ok (.iconst 0, 1) := by decide +kernel
theorem dXM_dry_60 : decode cXM_dry 60 = .ok (.iadd, 1) := by decide +kernel
theorem dXM_dry_61 : decode cXM_dry 61 = .ok (.istore 4, 2) := by decide +kernel
theorem dXM_dry_63 : decode cXM_dry 63 = .ok (.iinc 5 1, 3) := by decide +kernel
theorem dXM_dry_66 : decode cXM_dry 66 = .ok (.goto (-41), 3) := by decide +kernel
theorem dXM_dry_69 : decode cXM_dry 69 = .ok (.iload 4, 2) := by decide +kernel
theorem dXM_dry_71 : decode cXM_dry 71 = .ok (.ireturn, 1) := by decide +kernel
theorem dXM_value_0 : decode cXM_value 0 = .ok (.aload_n 0, 1) := by decide +kernel
theorem dXM_value_1 : decode cXM_value 1 = .ok (.iconst 0, 1) := by decide +kernel
theorem dXM_value_2 : decode cXM_value 2 = .ok (.putfield 43, 3) := by decide +kernel
theorem dXM_value_5 : decode cXM_value 5 = .ok (.aload_n 0, 1) := by decide +kernel
theorem dXM_value_6 : decode cXM_value 6 = .ok (.iload_n 1, 1) := by decide +kernel
theorem dXM_value_7 : decode cXM_value 7 = .ok (.invokevirtual 63, 3) := by decide +kernel
theorem dXM_value_10 : decode cXM_value 10 = .ok (.ifCond .eq 25, 3) := by decide +kernel
theorem dXM_value_13 : decode cXM_value 13 = .ok (.iload_n 2, 1) := by decide +kernel
theorem dXM_value_14 : decode cXM_value 14 = .ok (.ifCond .lt 21, 3) := by decide +kernel
theorem dXM_value_17 : decode cXM_value 17 = .ok (.iload_n 2, 1) := by decide +kernel
theorem dXM_value_18 : decode cXM_value 18 = .ok (.iconst 4, 1) := by decide +kernel
theorem dXM_value_19 : decode cXM_value 19 = .ok (.if_icmp .ge 16, 3) := by decide +kernel
theorem dXM_value_22 : decode cXM_value 22 = .ok (.aload_n 0, 1) := by decide +kernel
theorem dXM_value_23 : decode cXM_value 23 = .ok (.getfield 24, 3) := by decide +kernel
theorem dXM_value_26 : decode cXM_value 26 = .ok (.iconst 4, 1) := by decide +kernel
theorem dXM_value_27 : decode cXM_value 27 = .ok (.iload_n 1, 1) := by decide +kernel
theorem dXM_value_28 : decode cXM_value 28 = .ok (.imul, 1) := by decide +kernel
theorem dXM_value_29 : decode cXM_value 29 = .ok (.iload_n 2, 1) := by decide +kernel
theorem dXM_value_30 : decode cXM_value 30 = .ok (.iadd, 1) := by decide +kernel
theorem dXM_value_31 : decode cXM_value 31 = .ok (.laload, 1) := by decide +kernel
theorem dXM_value_32 : decode cXM_value 32 = .ok (.goto 4, 3) := by decide +kernel
theorem dXM_value_35 : decode cXM_value 35 = .ok (.lconst 0, 1) := by decide +kernel
theorem dXM_value_36 : decode cXM_value 36 = .ok (.lreturn, 1) := by decide +kernel
theorem dXM_failed_0 : decode cXM_failed 0 = .ok (.aload_n 0, 1) := by decide +kernel
theorem dXM_failed_1 : decode cXM_failed 1 = .ok (.iconst 0, 1) := by decide +kernel
theorem dXM_failed_2 : decode cXM_failed 2 = .ok (.putfield 43, 3) := by decide +kernel
theorem dXM_failed_5 : decode cXM_failed 5 = .ok (.iload_n 1, 1) := by decide +kernel
theorem dXM_failed_6 : decode cXM_failed 6 = .ok (.ifCond .lt 26, 3) := by decide +kernel
theorem dXM_failed_9 : decode cXM_failed 9 = .ok (.iload_n 1, 1) := by decide +kernel
theorem dXM_failed_10 : decode cXM_failed 10 = .ok (.bipush 99, 2) := by decide +kernel
theorem dXM_failed_12 : decode cXM_failed 12 = .ok (.if_icmp .gt 20, 3) := by decide +kernel
theorem dXM_failed_15 : decode cXM_failed 15 = .ok (.iload_n 1, 1) := by decide +kernel
theorem dXM_failed_16 : decode cXM_failed 16 = .ok (.aload_n 0, 1) := by decide +kernel
theorem dXM_failed_17 : decode cXM_failed 17 = .ok (.getfield 84, 3) := by decide +kernel
theorem dXM_failed_20 : decode cXM_failed 20 = .ok (.if_icmp .ge 12, 3) := by decide +kernel
theorem dXM_failed_23 : decode cXM_failed 23 = .ok (.iload_n 2, 1) := by decide +kernel
theorem dXM_failed_24 : decode cXM_failed 24 = .ok (.ifCond .lt 8, 3) := by decide +kernel
theorem dXM_failed_27 : decode cXM_failed 27 = .ok (.iload_n 2, 1) := by decide +kernel
theorem dXM_failed_28 : decode cXM_failed 28 = .ok (.iconst 2, 1) := by decide +kernel
theorem dXM_failed_29 : decode cXM_failed 29 = .ok (.if_icmp .le 7, 3) := by decide +kernel
theorem dXM_failed_32 : decode cXM_failed 32 = .ok (.iconst (-1), 1) := by decide +kernel
theorem dXM_failed_33 : decode cXM_failed 33 = .ok (.goto 13, 3) := by decide +kernel
theorem dXM_failed_36 : decode cXM_failed 36 = .ok (.aload_n 0, 1) := by decide +kernel
theorem dXM_failed_37 : decode cXM_failed 37 = .ok (.getfield 33, 3) := by decide +kernel
theorem dXM_failed_40 : decode cXM_failed 40 = .ok (.iconst 3, 1) := by decide +kernel
theorem dXM_failed_41 : decode cXM_failed 41 = .ok (.iload_n 1, 1) := by decide +kernel
theorem dXM_failed_42 : decode cXM_failed 42 = .ok (.imul, 1) := by decide +kernel
theorem dXM_failed_43 : decode cXM_failed 43 = .ok (.iload_n 2, 1) := by decide +kernel
theorem dXM_failed_44 : decode cXM_failed 44 = .ok (.iadd, 1) := by decide +kernel
theorem dXM_failed_45 : decode cXM_failed 45 = .ok (.iaload, 1) := by decide +kernel
theorem dXM_failed_46 : decode cXM_failed 46 = .ok (.ireturn, 1) := by decide +kernel
theorem dXM_cell_0 : decode cXM_cell 0 = .ok (.aload_n 0, 1) := by decide +kernel
theorem dXM_cell_1 : decode cXM_cell 1 = .ok (.iconst 0, 1) := by decide +kernel
theorem dXM_cell_2 : decode cXM_cell 2 = .ok (.putfield 43, 3) := by decide +kernel
theorem dXM_cell_5 : decode cXM_cell 5 = .ok (.aload_n 0, 1) := by decide +kernel
theorem dXM_cell_6 : decode cXM_cell 6 = .ok (.iload_n 1, 1) := by decide +kernel
theorem dXM_cell_7 : decode cXM_cell 7 = .ok (.invokevirtual 59, 3) := by decide +kernel
theorem dXM_cell_10 : decode cXM_cell 10 = .ok (.ifCond .eq 12, 3) := by decide +kernel
theorem dXM_cell_13 : decode cXM_cell 13 = .ok (.aload_n 0, 1) := by decide +kernel
theorem dXM_cell_14 : decode cXM_cell 14 = .ok (.getfield 20, 3) := by decide +kernel
theorem dXM_cell_17 : decode cXM_cell 17 = .ok (.iload_n 1, 1) := by decide +kernel
theorem dXM_cell_18 : decode cXM_cell 18 = .ok (.laload, 1) := by decide +kernel
theorem dXM_cell_19 : decode cXM_cell 19 = .ok (.goto 4, 3) := by decide +kernel
theorem dXM_cell_22 : decode cXM_cell 22 = .ok (.lconst 0, 1) := by decide +kernel
theorem dXM_cell_23 : decode cXM_cell 23 = .ok (.lreturn, 1) := by decide +kernel
theorem dXM_same_0 : decode cXM_same 0 = .ok (.aload_n 0, 1) := by decide +kernel
theorem dXM_same_1 : decode cXM_same 1 = .ok (.iconst 0, 1) := by decide +kernel
theorem dXM_same_2 : decode cXM_same 2 = .ok (.putfield 43, 3) := by decide +kernel
theorem dXM_same_5 : decode cXM_same 5 = .ok (.aload_n 0, 1) := by decide +kernel
theorem dXM_same_6 : decode cXM_same 6 = .ok (.iload_n 1, 1) := by decide +kernel
theorem dXM_same_7 : decode cXM_same 7 = .ok (.invokevirtual 59, 3) := by decide +kernel
theorem dXM_same_10 : decode cXM_same 10 = .ok (.ifCond .eq 30, 3) := by decide +kernel
theorem dXM_same_13 : decode cXM_same 13 = .ok (.aload_n 0, 1) := by decide +kernel
theorem dXM_same_14 : decode cXM_same 14 = .ok (.iload_n 2, 1) := by decide +kernel
theorem dXM_same_15 : decode cXM_same 15 = .ok (.invokevirtual 59, 3) := by decide +kernel
theorem dXM_same_18 : decode cXM_same 18 = .ok (.ifCond .eq 22, 3) := by decide +kernel
theorem dXM_same_21 : decode cXM_same 21 = .ok (.aload_n 0, 1) := by decide +kernel
theorem dXM_same_22 : decode cXM_same 22 = .ok (.getfield 17, 3) := by decide +kernel
theorem dXM_same_25 : decode cXM_same 25 = .ok (.iload_n 1, 1) := by decide +kernel
theorem dXM_same_26 : decode cXM_same 26 = .ok (.iaload, 1) := by decide +kernel
theorem dXM_same_27 : decode cXM_same 27 = .ok (.aload_n 0, 1) := by decide +kernel
theorem dXM_same_28 : decode cXM_same 28 = .ok (.getfield 17, 3) := by decide +kernel
theorem dXM_same_31 : decode cXM_same 31 = .ok (.iload_n 2, 1) := by decide +kernel
theorem dXM_same_32 : decode cXM_same 32 = .ok (.iaload, 1) := by decide +kernel
theorem dXM_same_33 : decode cXM_same 33 = .ok (.if_icmp .ne 7, 3) := by decide +kernel
theorem dXM_same_36 : decode cXM_same 36 = .ok (.iconst 1, 1) := by decide +kernel
theorem dXM_same_37 : decode cXM_same 37 = .ok (.goto 4, 3) := by decide +kernel
theorem dXM_same_40 : decode cXM_same 40 = .ok (.iconst 0, 1) := by decide +kernel
theorem dXM_same_41 : decode cXM_same 41 = .ok (.ireturn, 1) := by decide +kernel
theorem dXM_divide_0 : decode cXM_divide 0 = .ok (.aload_n 0, 1) := by decide +kernel
theorem dXM_divide_1 : decode cXM_divide 1 = .ok (.iconst 0, 1) := by decide +kernel
theorem dXM_divide_2 : decode cXM_divide 2 = .ok (.putfield 43, 3) := by decide +kernel
theorem dXM_divide_5 : decode cXM_divide 5 = .ok (.aload_n 0, 1) := by decide +kernel
theorem dXM_divide_6 : decode cXM_divide 6 = .ok (.iload_n 1, 1) := by decide +kernel
theorem dXM_divide_7 : decode cXM_divide 7 = .ok (.invokevirtual 59, 3) := by decide +kernel
theorem dXM_divide_10 : decode cXM_divide 10 = .ok (.ifCond .ne 5, 3) := by decide +kernel
theorem dXM_divide_13 : decode cXM_divide 13 = .ok (.lconst 0, 1) := by decide +kernel
theorem dXM_divide_14 : decode cXM_divide 14 = .ok (.lreturn, 1) := by decide +kernel
theorem dXM_divide_15 : decode cXM_divide 15 = .ok (.lload 4, 2) := by decide +kernel
theorem dXM_divide_17 : decode cXM_divide 17 = .ok (.lconst 0, 1) := by decide +kernel
theorem dXM_divide_18 : decode cXM_divide 18 = .ok (.lcmp, 1) := by decide +kernel
theorem dXM_divide_19 : decode cXM_divide 19 = .ok (.ifCond .ne 10, 3) := by decide +kernel
theorem dXM_divide_22 : decode cXM_divide 22 = .ok (.aload_n 0, 1) := by decide +kernel
theorem dXM_divide_23 : decode cXM_divide 23 = .ok (.iconst 1, 1) := by decide +kernel
theorem dXM_divide_24 : decode cXM_divide 24 = .ok (.putfield 43, 3) := by decide +kernel
theorem dXM_divide_27 : decode cXM_divide 27 = .ok (.lconst 0, 1) := by decide +kernel
theorem dXM_divide_28 : decode cXM_divide 28 = .ok (.lreturn, 1) := by decide +kernel
theorem dXM_divide_29 : decode cXM_divide 29 = .ok (.lload_n 2, 1) := by decide +kernel
theorem dXM_divide_30 : decode cXM_divide 30 = .ok (.lload 4, 2) := by decide +kernel
theorem dXM_divide_32 : decode cXM_divide 32 = .ok (.ldiv, 1) := by decide +kernel
theorem dXM_divide_33 : decode cXM_divide 33 = .ok (.lreturn, 1) := by decide +kernel
theorem dXM_handle_0 : decode cXM_handle 0 = .ok (.aload_n 0, 1) := by decide +kernel
theorem dXM_handle_1 : decode cXM_handle 1 = .ok (.iconst 0, 1) := by decide +kernel
theorem dXM_handle_2 : decode cXM_handle 2 = .ok (.putfield 43, 3) := by decide +kernel
theorem dXM_handle_5 : decode cXM_handle 5 = .ok (.aload_n 0, 1) := by decide +kernel
theorem dXM_handle_6 : decode cXM_handle 6 = .ok (.getfield 78, 3) := by decide +kernel
theorem dXM_handle_9 : decode cXM_handle 9 = .ok (.ifCond .eq 18, 3) := by decide +kernel
theorem dXM_handle_12 : decode cXM_handle 12 = .ok (.iload_n 1, 1) := by decide +kernel
theorem dXM_handle_13 : decode cXM_handle 13 = .ok (.aload_n 0, 1) := by decide +kernel
theorem dXM_handle_14 : decode cXM_handle 14 = .ok (.getfield 78, 3) := by decide +kernel
theorem dXM_handle_17 : decode cXM_handle 17 = .ok (.if_icmp .ne 10, 3) := by decide +kernel
theorem dXM_handle_20 : decode cXM_handle 20 = .ok (.aload_n 0, 1) := by decide +kernel
theorem dXM_handle_21 : decode cXM_handle 21 = .ok (.getfield 81, 3) := by decide +kernel
theorem dXM_handle_24 : decode cXM_handle 24 = .ok (.ifCond .ne 10, 3) := by decide +kernel
theorem dXM_handle_27 : decode cXM_handle 27 = .ok (.aload_n 0, 1) := by decide +kernel
theorem dXM_handle_28 : decode cXM_handle 28 = .ok (.iconst 1, 1) := by decide +kernel
theorem dXM_handle_29 : decode cXM_handle 29 = .ok (.putfield 43, 3) := by decide +kernel
theorem dXM_handle_32 : decode cXM_handle 32 = .ok (.iconst 0, 1) := by decide +kernel
theorem dXM_handle_33 : decode cXM_handle 33 = .ok (.ireturn, 1) := by decide +kernel
theorem dXM_handle_34 : decode cXM_handle 34 = .ok (.iconst 0, 1) := by decide +kernel
theorem dXM_handle_35 : decode cXM_handle 35 = .ok (.istore_n 2, 1) := by decide +kernel
theorem dXM_handle_36 : decode cXM_handle 36 = .ok (.iconst 1, 1) := by decide +kernel
theorem dXM_handle_37 : decode cXM_handle 37 = .ok (.istore_n 3, 1) := by decide +kernel
theorem dXM_handle_38 : decode cXM_handle 38 = .ok (.iload_n 3, 1) := by decide +kernel
theorem dXM_handle_39 : decode cXM_handle 39 = .ok (.aload_n 0, 1) := by decide +kernel
theorem dXM_handle_40 : decode cXM_handle 40 = .ok (.getfield 46, 3) := by decide +kernel
theorem dXM_handle_43 : decode cXM_handle 43 = .ok (.if_icmp .gt 31, 3) := by decide +kernel
theorem dXM_handle_46 : decode cXM_handle 46 = .ok (.iload_n 2, 1) := by decide +kernel
theorem dXM_handle_47 : decode cXM_handle 47 = .ok (.aload_n 0, 1) := by decide +kernel
theorem dXM_handle_48 : decode cXM_handle 48 = .ok (.getfield 30, 3) := by decide +kernel
theorem dXM_handle_51 : decode cXM_handle 51 = .ok (.bipush 61, 2) := by decide +kernel
theorem dXM_handle_53 : decode cXM_handle 53 = .ok (.iload_n 3, 1) := by decide +kernel
theorem dXM_handle_54 : decode cXM_handle 54 = .ok (.imul, 1) := by decide +kernel
theorem dXM_handle_55 : decode cXM_handle 55 = .ok (.iload_n 1, 1) := by decide +kernel
theorem dXM_handle_56 : decode cXM_handle 56 = .ok (.iadd, 1) := by decide +kernel
theorem dXM_handle_57 : decode cXM_handle 57 = .ok (.baload, 1) := by decide +kernel
theorem dXM_handle_58 : decode cXM_handle 58 = .ok (.ifCond .eq 7, 3) := by decide +kernel
theorem dXM_handle_61 : decode cXM_handle 61 = .ok (.iconst 1, 1) := by decide +kernel
theorem dXM_handle_62 : decode cXM_handle 62 = .ok (.goto 4, 3) := by decide +kernel
theorem dXM_handle_65 : decode cXM_handle 65 = .ok (.iconst 0, 1) := by decide +kernel
theorem dXM_handle_66 : decode cXM_handle 66 = .ok (.iadd, 1) := by decide +kernel
theorem dXM_handle_67 : decode cXM_handle 67 = .ok (.istore_n 2, 1) := by decide +kernel
theorem dXM_handle_68 : decode cXM_handle 68 = .ok (.iinc 3 1, 3) := by decide +kernel
theorem dXM_handle_71 : decode cXM_handle 71 = .ok (.goto (-33), 3) := by decide +kernel
theorem dXM_handle_74 : decode cXM_handle 74 = .ok (.iload_n 2, 1) := by decide +kernel
theorem dXM_handle_75 : decode cXM_handle 75 = .ok (.ireturn, 1) := by decide +kernel
set_option maxRecDepth 20000 in
theorem ggXM_goes_XM_isClass : GoodIn wsXM_goes wsXM_isClass := goodIn_r _ [5, 6, 25, 26, 27, 28, 29, 30, 31, 32, 33, 34, 35, 36, 37, 38, 39, 40, 41, 42, 43] (by decide +kernel) (by decide +kernel)
set_option maxRecDepth 20000 in
theorem gXM_goes_XM_isClass : GoodIn wsXM_goes (wsV RXM 59 RXM yXM_isClass wsXM_isClass) := goodIn_app (goodIn_of _ (by decide +kernel)) ggXM_goes_XM_isClass
set_option maxRecDepth 20000 in
theorem ggXM_goes_XM_isRecord : GoodIn wsXM_goes wsXM_isRecord := goodIn_r _ [10, 11, 25, 26, 27, 28, 29, 30, 31, 32, 33, 34, 35, 36, 37, 38, 39, 40, 41, 42, 43] (by decide +kernel) (by decide +kernel)
set_option maxRecDepth 20000 in
theorem gXM_goes_XM_isRecord : GoodIn wsXM_goes (wsV RXM 63 RXM yXM_isRecord wsXM_isRecord) := goodIn_app (goodIn_of _ (by decide +kernel)) ggXM_goes_XM_isRecord
set_option maxRecDepth 20000 in
theorem ggXM_goes_XM_reckon : GoodIn wsXM_goes wsXM_reckon := goodIn_r _ [24, 13, 16, 25, 26, 27, 28, 29, 30, 31, 32, 33, 34, 35, 36, 37, 38, 39, 40, 41, 42, 43] (by decide +kernel) (by decide +kernel)
set_option maxRecDepth 20000 in
theorem gXM_goes_XM_reckon : GoodIn wsXM_goes (wsV RXM 70 RXM yXM_reckon wsXM_reckon) := goodIn_app (goodIn_of _ (by decide +kernel)) ggXM_goes_XM_reckon
set_option maxRecDepth 20000 in
theorem ggXM_run_XM_goes : GoodIn wsXM_run wsXM_goes := goodIn_r _ [6, 7, 8, 9, 5, 10, 11, 12, 13, 14, 15, 16, 17, 18, 19, 20, 21, 22, 23, 24, 25, 26, 27, 28, 29, 35, 36, 37, 38, 39, 40, 41, 42, 43, 44, 45, 46, 47, 48, 49, 50, 51, 52, 53] (by decide +kernel) (by decide +kernel)
set_option maxRecDepth 20000 in
theorem gXM_run_XM_goes : GoodIn wsXM_run (wsV RXM 74 RXM yXM_goes wsXM_goes) := goodIn_app (goodIn_of _ (by decide +kernel)) ggXM_run_XM_goes
set_option maxRecDepth 20000 in
theorem ggXM_resume_XM_isClass : GoodIn wsXM_resume wsXM_isClass := goodIn_r _ [6, 7, 39, 40, 41, 42, 43, 44, 45, 46, 47, 48, 49, 50, 51, 52, 53, 54, 55, 56, 57] (by decide +kernel) (by decide +kernel)
set_option maxRecDepth 20000 in
theorem gXM_resume_XM_isClass : GoodIn wsXM_resume (wsV RXM 59 RXM yXM_isClass wsXM_isClass) := goodIn_app (goodIn_of _ (by decide +kernel)) ggXM_resume_XM_isClass
set_option maxRecDepth 20000 in
theorem ggXM_resume_XM_run : GoodIn wsXM_resume wsXM_run := goodIn_r _ [13, 1, 14, 15, 16, 5, 17, 2, 3, 4, 6, 7, 18, 19, 20, 21, 8, 22, 23, 24, 25, 26, 27, 28, 29, 30, 31, 32, 33, 34, 35, 36, 9, 37, 38, 39, 40, 41, 42, 43, 44, 45, 46, 47, 48, 49, 50, 51, 52, 53, 54, 55, 56, 57] (by decide +kernel) (by decide +kernel)
set_option maxRecDepth 20000 in
theorem gXM_resume_XM_run : GoodIn wsXM_resume (wsV RXM 87 RXM yXM_run wsXM_run) := goodIn_app (goodIn_of _ (by decide +kernel)) ggXM_resume_XM_run
set_option maxRecDepth 20000 in
theorem ggXM_dry_XM_goes : GoodIn wsXM_dry wsXM_goes := goodIn_r _ [6, 7, 8, 9, 5, 10, 11, 12, 13, 14, 15, 16, 17, 18, 19, 20, 21, 22, 23, 24, 25, 26, 27, 28, 29, 30, 31, 32, 33, 34, 35, 36, 37, 38, 39, 40, 41, 42, 43, 44, 45, 46, 47, 48] (by decide +kernel) (by decide +kernel)
set_option maxRecDepth 20000 in
theorem gXM_dry_XM_goes : GoodIn wsXM_dry (wsV RXM 74 RXM yXM_goes wsXM_goes) := goodIn_app (goodIn_of _ (by decide +kernel)) ggXM_dry_XM_goes
set_option maxRecDepth 20000 in
theorem ggXM_value_XM_isRecord : GoodIn wsXM_value wsXM_isRecord := goodIn_r _ [6, 7, 9, 10, 11, 12, 13, 14, 15, 16, 17, 18, 19, 20, 21, 22, 23, 24, 25, 26, 27] (by decide +kernel) (by decide +kernel)
set_option maxRecDepth 20000 in
theorem gXM_value_XM_isRecord : GoodIn wsXM_value (wsV RXM 63 RXM yXM_isRecord wsXM_isRecord) := goodIn_app (goodIn_of _ (by decide +kernel)) ggXM_value_XM_isRecord
set_option maxRecDepth 20000 in
theorem ggXM_cell_XM_isClass : GoodIn wsXM_cell wsXM_isClass := goodIn_r _ [6, 7, 9, 10, 11, 12, 13, 14, 15, 16, 17, 18, 19, 20, 21, 22, 23, 24, 25, 26, 27] (by decide +kernel) (by decide +kernel)
set_option maxRecDepth 20000 in
theorem gXM_cell_XM_isClass : GoodIn wsXM_cell (wsV RXM 59 RXM yXM_isClass wsXM_isClass) := goodIn_app (goodIn_of _ (by decide +kernel)) ggXM_cell_XM_isClass
set_option maxRecDepth 20000 in
theorem ggXM_same_XM_isClass : GoodIn wsXM_same wsXM_isClass := goodIn_r _ [6, 7, 9, 10, 11, 12, 13, 14, 15, 16, 17, 18, 19, 20, 21, 22, 23, 24, 25, 26, 27] (by decide +kernel) (by decide +kernel)
set_option maxRecDepth 20000 in
theorem gXM_same_XM_isClass : GoodIn wsXM_same (wsV RXM 59 RXM yXM_isClass wsXM_isClass) := goodIn_app (goodIn_of _ (by decide +kernel)) ggXM_same_XM_isClass
set_option maxRecDepth 20000 in
theorem ggXM_divide_XM_isClass : GoodIn wsXM_divide wsXM_isClass := goodIn_r _ [6, 7, 8, 9, 10, 11, 12, 13, 14, 15, 16, 17, 18, 19, 20, 21, 22, 23, 24, 25, 26] (by decide +kernel) (by decide +kernel)
set_option maxRecDepth 20000 in
theorem gXM_divide_XM_isClass : GoodIn wsXM_divide (wsV RXM 59 RXM yXM_isClass wsXM_isClass) := goodIn_app (goodIn_of _ (by decide +kernel)) ggXM_divide_XM_isClass
abbrev vwC2 : List vw_C := [(RX0, TX0, 4), (RX1, TX1, 6), (RX2, TX2, 16), (RXM, TXM, 19)]
