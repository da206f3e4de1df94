def wsML_r1 : List Cond := [Cond.classLink RL 30 RXM, Cond.instantiable RXM 19, Cond.initialized RXM, Cond.methodLink RL 32 yXM_init, Cond.instanceMethod yXM_init, Cond.code yXM_init cXM_init 2 none, Cond.methodLink RXM 1 objectInit, Cond.instanceMethod objectInit, Cond.code objectInit ⟨#[0xb1]⟩ 1 none, Cond.arrayClass .int, Cond.fieldLink RXM 7 "BatchClassesModel" "does" "[I", Cond.arrayClass .boolean, Cond.fieldLink RXM 13 "BatchClassesModel" "startFails" "[Z", Cond.fieldLink RXM 17 "BatchClassesModel" "typeOf" "[I", Cond.arrayClass .long, Cond.fieldLink RXM 20 "BatchClassesModel" "cells" "[J", Cond.fieldLink RXM 24 "BatchClassesModel" "fields" "[J", Cond.fieldLink RXM 27 "BatchClassesModel" "locked" "[Z", Cond.fieldLink RXM 30 "BatchClassesModel" "done" "[Z", Cond.fieldLink RXM 33 "BatchClassesModel" "failures" "[I", Cond.fieldLink RXM 36 "BatchClassesModel" "now" "[J", Cond.fieldLink RXM 39 "BatchClassesModel" "most" "I", Cond.methodLink RL 37 yXM_type, Cond.instanceMethod yXM_type]
def wsML_r2 : List Cond := [Cond.selects RXM yXM_type yXM_type, Cond.code yXM_type cXM_type 3 (some .int), Cond.fieldLink RXM 43 "BatchClassesModel" "thrown" "I", Cond.fieldLink RXM 52 "BatchClassesModel" "types" "I", Cond.methodLink RL 41 yXM_make, Cond.instanceMethod yXM_make, Cond.selects RXM yXM_make yXM_make, Cond.code yXM_make cXM_make 2 (some .int), Cond.fieldLink RXM 46 "BatchClassesModel" "classes" "I", Cond.methodLink RL 48 yXM_record, Cond.instanceMethod yXM_record, Cond.selects RXM yXM_record yXM_record, Cond.code yXM_record cXM_record 4 (some .int), Cond.fieldLink RXM 49 "BatchClassesModel" "records" "I", Cond.methodLink RL 53 yXM_run, Cond.instanceMethod yXM_run, Cond.selects RXM yXM_run yXM_run, Cond.code yXM_run cXM_run 5 (some .int), Cond.methodLink RXM 74 yXM_goes, Cond.instanceMethod yXM_goes, Cond.selects RXM yXM_goes yXM_goes, Cond.code yXM_goes cXM_goes 7 (some .int), Cond.methodLink RXM 59 yXM_isClass, Cond.instanceMethod yXM_isClass]
def wsML_r3 : List Cond := [Cond.selects RXM yXM_isClass yXM_isClass, Cond.code yXM_isClass cXM_isClass 2 (some .boolean), Cond.methodLink RXM 63 yXM_isRecord, Cond.instanceMethod yXM_isRecord, Cond.selects RXM yXM_isRecord yXM_isRecord, Cond.code yXM_isRecord cXM_isRecord 2 (some .boolean), Cond.fieldLink RXM 55 "BatchClassesModel" "cell" "J", Cond.fieldLink RXM 66 "BatchClassesModel" "locks" "Z", Cond.methodLink RXM 70 yXM_reckon, Cond.instanceMethod yXM_reckon, Cond.selects RXM yXM_reckon yXM_reckon, Cond.code yXM_reckon cXM_reckon 4 none, Cond.fieldLink RXM 78 "BatchClassesModel" "latest" "I", Cond.fieldLink RXM 81 "BatchClassesModel" "latestDone" "Z", Cond.fieldLink RXM 84 "BatchClassesModel" "failureCount" "I", Cond.methodLink RL 58 yXM_value, Cond.instanceMethod yXM_value, Cond.selects RXM yXM_value yXM_value, Cond.code yXM_value cXM_value 3 (some .long), Cond.methodLink RL 62 yXM_failed, Cond.instanceMethod yXM_failed, Cond.selects RXM yXM_failed yXM_failed, Cond.code yXM_failed cXM_failed 3 (some .int), Cond.methodLink RL 66 yXM_cell]
def wsML_r4 : List Cond := [Cond.instanceMethod yXM_cell, Cond.selects RXM yXM_cell yXM_cell, Cond.code yXM_cell cXM_cell 2 (some .long), Cond.methodLink RL 71 yXM_same, Cond.instanceMethod yXM_same, Cond.selects RXM yXM_same yXM_same, Cond.code yXM_same cXM_same 3 (some .boolean), Cond.methodLink RL 75 yXM_resume, Cond.instanceMethod yXM_resume, Cond.selects RXM yXM_resume yXM_resume, Cond.code yXM_resume cXM_resume 3 (some .int), Cond.methodLink RXM 87 yXM_run, Cond.methodLink RL 79 yXM_divide, Cond.instanceMethod yXM_divide, Cond.selects RXM yXM_divide yXM_divide, Cond.code yXM_divide cXM_divide 6 (some .long), Cond.methodLink RL 80 yXM_thrown, Cond.instanceMethod yXM_thrown, Cond.selects RXM yXM_thrown yXM_thrown, Cond.code yXM_thrown cXM_thrown 1 (some .int), Cond.methodLink RL 87 yXM_dry, Cond.instanceMethod yXM_dry, Cond.selects RXM yXM_dry yXM_dry, Cond.code yXM_dry cXM_dry 6 (some .int)]
def wsML_r5 : List Cond := [Cond.methodLink RL 91 yXM_handle, Cond.instanceMethod yXM_handle, Cond.selects RXM yXM_handle yXM_handle, Cond.code yXM_handle cXM_handle 4 (some .int)]
def wsML : List Cond := (wsML_r1 ++ (wsML_r2 ++ (wsML_r3 ++ (wsML_r4 ++ (wsML_r5))))) ++ wsXM0
set_option maxRecDepth 20000 in
theorem wsML_in : ∀ w ∈ wsML, w ∈ lw_tbl := fun w h => (goodIn_p wsML [350, 37, 417, 421, 425, 429, 433, 437, 441, 445, 458, 462, 466, 470, 449, 474, 413, 454, 478] (by decide +kernel) (by decide +kernel) w h).1
set_option maxRecDepth 20000 in
theorem ggL_law_XM_init : GoodIn wsML wsXM_init := goodIn_r _ [5, 6, 7, 8, 9, 10, 11, 12, 13, 14, 15, 16, 17, 18, 19, 20, 21, 100, 101, 102, 103, 104, 105, 106, 107, 108, 109, 110, 111, 112, 113, 114, 115, 116, 117, 118] (by decide +kernel) (by decide +kernel)
set_option maxRecDepth 20000 in
theorem gL_law_XM_init : GoodIn wsML wsXM_init := ggL_law_XM_init
set_option maxRecDepth 20000 in
theorem ggL_law_XM_type : GoodIn wsML wsXM_type := goodIn_r _ [25, 26, 27, 10, 12, 100, 101, 102, 103, 104, 105, 106, 107, 108, 109, 110, 111, 112, 113, 114, 115, 116, 117, 118] (by decide +kernel) (by decide +kernel)
set_option maxRecDepth 20000 in
theorem gL_law_XM_type : GoodIn wsML (wsV RL 37 RXM yXM_type wsXM_type) := goodIn_app (goodIn_of _ (by decide +kernel)) ggL_law_XM_type
set_option maxRecDepth 20000 in
theorem ggL_law_XM_make : GoodIn wsML wsXM_make := goodIn_r _ [31, 26, 27, 12, 32, 13, 100, 101, 102, 103, 104, 105, 106, 107, 108, 109, 110, 111, 112, 113, 114, 115, 116, 117, 118] (by decide +kernel) (by decide +kernel)
set_option maxRecDepth 20000 in
theorem gL_law_XM_make : GoodIn wsML (wsV RL 41 RXM yXM_make wsXM_make) := goodIn_app (goodIn_of _ (by decide +kernel)) ggL_law_XM_make
set_option maxRecDepth 20000 in
theorem ggL_law_XM_record : GoodIn wsML wsXM_record := goodIn_r _ [36, 26, 37, 16, 100, 101, 102, 103, 104, 105, 106, 107, 108, 109, 110, 111, 112, 113, 114, 115, 116, 117, 118] (by decide +kernel) (by decide +kernel)
set_option maxRecDepth 20000 in
theorem gL_law_XM_record : GoodIn wsML (wsV RL 48 RXM yXM_record wsXM_record) := goodIn_app (goodIn_of _ (by decide +kernel)) ggL_law_XM_record
set_option maxRecDepth 20000 in
theorem ggL_law_XM_run : GoodIn wsML wsXM_run := goodIn_r _ [41, 26, 42, 43, 44, 2, 45, 46, 47, 48, 49, 32, 50, 51, 52, 53, 37, 17, 20, 16, 15, 54, 55, 10, 13, 21, 56, 57, 58, 59, 60, 61, 18, 62, 19, 100, 101, 102, 103, 104, 105, 106, 107, 108, 109, 110, 111, 112, 113, 114, 115, 116, 117, 118] (by decide +kernel) (by decide +kernel)
set_option maxRecDepth 20000 in
theorem gL_law_XM_run : GoodIn wsML (wsV RL 53 RXM yXM_run wsXM_run) := goodIn_app (goodIn_of _ (by decide +kernel)) ggL_law_XM_run
set_option maxRecDepth 20000 in
theorem ggL_law_XM_value : GoodIn wsML wsXM_value := goodIn_r _ [66, 26, 50, 51, 52, 2, 53, 37, 16, 100, 101, 102, 103, 104, 105, 106, 107, 108, 109, 110, 111, 112, 113, 114, 115, 116, 117, 118] (by decide +kernel) (by decide +kernel)
set_option maxRecDepth 20000 in
theorem gL_law_XM_value : GoodIn wsML (wsV RL 58 RXM yXM_value wsXM_value) := goodIn_app (goodIn_of _ (by decide +kernel)) ggL_law_XM_value
set_option maxRecDepth 20000 in
theorem ggL_law_XM_failed : GoodIn wsML wsXM_failed := goodIn_r _ [70, 26, 62, 19, 100, 101, 102, 103, 104, 105, 106, 107, 108, 109, 110, 111, 112, 113, 114, 115, 116, 117, 118] (by decide +kernel) (by decide +kernel)
set_option maxRecDepth 20000 in
theorem gL_law_XM_failed : GoodIn wsML (wsV RL 62 RXM yXM_failed wsXM_failed) := goodIn_app (goodIn_of _ (by decide +kernel)) ggL_law_XM_failed
set_option maxRecDepth 20000 in
theorem ggL_law_XM_cell : GoodIn wsML wsXM_cell := goodIn_r _ [74, 26, 46, 47, 48, 2, 49, 32, 15, 100, 101, 102, 103, 104, 105, 106, 107, 108, 109, 110, 111, 112, 113, 114, 115, 116, 117, 118] (by decide +kernel) (by decide +kernel)
set_option maxRecDepth 20000 in
theorem gL_law_XM_cell : GoodIn wsML (wsV RL 66 RXM yXM_cell wsXM_cell) := goodIn_app (goodIn_of _ (by decide +kernel)) ggL_law_XM_cell
set_option maxRecDepth 20000 in
theorem ggL_law_XM_same : GoodIn wsML wsXM_same := goodIn_r _ [78, 26, 46, 47, 48, 2, 49, 32, 13, 100, 101, 102, 103, 104, 105, 106, 107, 108, 109, 110, 111, 112, 113, 114, 115, 116, 117, 118] (by decide +kernel) (by decide +kernel)
set_option maxRecDepth 20000 in
theorem gL_law_XM_same : GoodIn wsML (wsV RL 71 RXM yXM_same wsXM_same) := goodIn_app (goodIn_of _ (by decide +kernel)) ggL_law_XM_same
set_option maxRecDepth 20000 in
theorem ggL_law_XM_resume : GoodIn wsML wsXM_resume := goodIn_r _ [82, 26, 46, 47, 48, 2, 49, 32, 37, 18, 83, 39, 40, 41, 42, 43, 44, 45, 50, 51, 52, 53, 17, 20, 16, 15, 54, 55, 10, 13, 21, 56, 57, 58, 59, 60, 61, 62, 19, 100, 101, 102, 103, 104, 105, 106, 107, 108, 109, 110, 111, 112, 113, 114, 115, 116, 117, 118] (by decide +kernel) (by decide +kernel)
set_option maxRecDepth 20000 in
theorem gL_law_XM_resume : GoodIn wsML (wsV RL 75 RXM yXM_resume wsXM_resume) := goodIn_app (goodIn_of _ (by decide +kernel)) ggL_law_XM_resume
set_option maxRecDepth 20000 in
theorem ggL_law_XM_divide : GoodIn wsML wsXM_divide := goodIn_r _ [87, 26, 46, 47, 48, 2, 49, 32, 100, 101, 102, 103, 104, 105, 106, 107, 108, 109, 110, 111, 112, 113, 114, 115, 116, 117, 118] (by decide +kernel) (by decide +kernel)
set_option maxRecDepth 20000 in
theorem gL_law_XM_divide : GoodIn wsML (wsV RL 79 RXM yXM_divide wsXM_divide) := goodIn_app (goodIn_of _ (by decide +kernel)) ggL_law_XM_divide
set_option maxRecDepth 20000 in
theorem ggL_law_XM_thrown : GoodIn wsML wsXM_thrown := goodIn_r _ [91, 26, 100, 101, 102, 103, 104, 105, 106, 107, 108, 109, 110, 111, 112, 113, 114, 115, 116, 117, 118] (by decide +kernel) (by decide +kernel)
set_option maxRecDepth 20000 in
theorem gL_law_XM_thrown : GoodIn wsML (wsV RL 80 RXM yXM_thrown wsXM_thrown) := goodIn_app (goodIn_of _ (by decide +kernel)) ggL_law_XM_thrown
set_option maxRecDepth 20000 in
theorem ggL_law_XM_dry : GoodIn wsML wsXM_dry := goodIn_r _ [95, 26, 42, 43, 44, 2, 45, 46, 47, 48, 49, 32, 50, 51, 52, 53, 37, 17, 20, 16, 15, 54, 55, 10, 13, 21, 56, 57, 58, 59, 100, 101, 102, 103, 104, 105, 106, 107, 108, 109, 110, 111, 112, 113, 114, 115, 116, 117, 118] (by decide +kernel) (by decide +kernel)
set_option maxRecDepth 20000 in
theorem gL_law_XM_dry : GoodIn wsML (wsV RL 87 RXM yXM_dry wsXM_dry) := goodIn_app (goodIn_of _ (by decide +kernel)) ggL_law_XM_dry
set_option maxRecDepth 20000 in
theorem ggL_law_XM_handle : GoodIn wsML wsXM_handle := goodIn_r _ [99, 26, 60, 61, 32, 18, 100, 101, 102, 103, 104, 105, 106, 107, 108, 109, 110, 111, 112, 113, 114, 115, 116, 117, 118] (by decide +kernel) (by decide +kernel)
set_option maxRecDepth 20000 in
theorem gL_law_XM_handle : GoodIn wsML (wsV RL 91 RXM yXM_handle wsXM_handle) := goodIn_app (goodIn_of _ (by decide +kernel)) ggL_law_XM_handle
def wsHL0 : List Cond := [.methodLink RL 88 yL_handle, .static yL_handle, .initialized RL, .codeWith yL_handle cL_handle 4 (some .int) [(0, 9, 12, 19)], .classLink RL 19 "java/lang/IllegalStateException", .methodLink RL 15 yX2_handle, .instanceMethod yX2_handle, .selects RX2 yX2_handle yX2_handle, .initialized RX2, .code yX2_handle cX2_handle 2 (some .int), .fieldLink RX2 60 "BatchClasses" "latestRecord" "I", .fieldLink RX2 63 "BatchClasses" "latestDone" "Z", .fieldLink RX2 57 "BatchClasses" "doneBy" "[J", .methodLink RX2 86 yX2_isRecord, .instanceMethod yX2_isRecord, .selects RX2 yX2_isRecord yX2_isRecord, .code yX2_isRecord cX2_isRecord 2 (some .boolean), .fieldLink RX2 48 "BatchClasses" "records" "I", .classLink RX2 109 "java/lang/IllegalStateException", .initialized "java/lang/IllegalStateException", .methodLink RX2 114 yJ13_bitCount, .static yJ13_bitCount, .initialized RJ13, .code yJ13_bitCount cJ13_bitCount 2 (some .int), .constantLong RJ13 314 6148914691236517205, .constantLong RJ13 316 3689348814741910323, .constantLong RJ13 318 1085102592571150095] ++ wsX20
def wsHL : List Cond := wsHL0 ++ (vx_atS RX2 113 "java/lang/IllegalStateException" ["java/lang/RuntimeException", "java/lang/Exception"]).filter goodWord
set_option maxRecDepth 20000 in
theorem wsHL_in0 : ∀ w ∈ wsHL0, w ∈ lw_tbl := fun w h => (goodIn_p wsHL0 [323, 168, 342] (by decide +kernel) (by decide +kernel) w h).1
set_option maxRecDepth 20000 in
theorem wsHL_x0 : ∀ w ∈ (vx_atS RX2 113 "java/lang/IllegalStateException" ["java/lang/RuntimeException", "java/lang/Exception"]).filter goodWord, w ∈ lw_tbl := by decide +kernel
theorem wsHL_in : ∀ w ∈ wsHL, w ∈ lw_tbl := fun w h => (List.mem_append.mp h).elim (fun h => wsHL_in0 w h) (fun h => wsHL_x0 w h)
set_option maxRecDepth 20000 in
theorem ggL_law_L_handle : GoodIn wsHL wsL_handle := goodIn_ca (goodIn_r _ [3, 4, 5, 6, 7, 8, 9, 10, 11, 12, 13, 14, 15, 16, 17, 18, 19, 20, 21, 22, 23, 24, 25, 26, 27, 28, 29, 30, 31, 32, 33, 34, 35, 36, 37, 38, 39, 40, 41, 42] (by decide +kernel) (by decide +kernel)) (goodIn_sub (fun _ h => List.mem_append_right _ h) (by decide +kernel))
set_option maxRecDepth 20000 in
theorem gL_law_L_handle : GoodIn wsHL (va_wsS RL 88 yL_handle wsL_handle) := goodIn_app (goodIn_of _ (by decide +kernel)) ggL_law_L_handle
