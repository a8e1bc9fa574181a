def R_A : String := "ProtectHooks$Application"
def F_A : u_T := fun k => match k with
  | 0 => ("ProtectHooks$Application", "starts", "[J", true)
  | 1 => ("ProtectHooks$Application", "sizes", "[J", true)
  | 2 => ("ProtectHooks$Application", "regionCount", "I", false)
  | 3 => ("ProtectHooks$Application", "restarts", "I", false)
  | _ => ("ProtectHooks$Application", "ended", "Z", false)
def ft_A : Nat → FieldType := fun k => match k with
  | 0 => .array .long
  | 1 => .array .long
  | 2 => .int
  | 3 => .int
  | _ => .boolean
theorem n_A : ∀ a, a < 5 → ∀ b, b < 5 → a ≠ b → (F_A a).2.1 ≠ (F_A b).2.1 := by decide +kernel
theorem ft_A_ok : ∀ k, k < 5 → parseFieldDescriptor (F_A k).2.2.1 = some (ft_A k) := by decide +kernel
abbrev b_A_init : ByteArray := prog_2_method_1_code
def y_A_init : MethodName := ⟨R_A, "<init>", "(I)V"⟩
abbrev b_A_addRegion : ByteArray := prog_2_method_2_code
def y_A_addRegion : MethodName := ⟨R_A, "addRegion", "(JJ)V"⟩
abbrev b_A_hasAddress : ByteArray := prog_2_method_3_code
def y_A_hasAddress : MethodName := ⟨R_A, "hasAddress", "(J)Z"⟩
def R_B : String := "ProtectHooks$Book"
def F_B : u_T := fun k => match k with
  | 0 => ("ProtectHooks$Book", "columns", "I", true)
  | 1 => ("ProtectHooks$Book", "cells", "[I", true)
  | _ => ("ProtectHooks$Book", "count", "I", false)
def ft_B : Nat → FieldType := fun k => match k with
  | 0 => .int
  | 1 => .array .int
  | _ => .int
theorem n_B : ∀ a, a < 3 → ∀ b, b < 3 → a ≠ b → (F_B a).2.1 ≠ (F_B b).2.1 := by decide +kernel
theorem ft_B_ok : ∀ k, k < 3 → parseFieldDescriptor (F_B k).2.2.1 = some (ft_B k) := by decide +kernel
abbrev b_B_init : ByteArray := prog_3_method_1_code
def y_B_init : MethodName := ⟨R_B, "<init>", "(I)V"⟩
abbrev b_B_write : ByteArray := prog_3_method_2_code
def y_B_write : MethodName := ⟨R_B, "write", "(IIII)V"⟩
abbrev b_B_tell : ByteArray := prog_3_method_3_code
def y_B_tell : MethodName := ⟨R_B, "tell", "(II)I"⟩
def R_T : String := "ProtectHooks$Task"
def F_T : u_T := fun k => match k with
  | 0 => ("ProtectHooks$Task", "number", "I", true)
  | 1 => ("ProtectHooks$Task", "owner", "LProtectHooks$Application;", true)
  | 2 => ("ProtectHooks$Task", "spacing", "J", true)
  | 3 => ("ProtectHooks$Task", "alive", "Z", false)
  | 4 => ("ProtectHooks$Task", "hasCome", "Z", false)
  | 5 => ("ProtectHooks$Task", "delayed", "Z", false)
  | 6 => ("ProtectHooks$Task", "cameLast", "J", false)
  | _ => ("ProtectHooks$Task", "arrivedLast", "J", false)
def ft_T : Nat → FieldType := fun k => match k with
  | 0 => .int
  | 1 => .object "ProtectHooks$Application"
  | 2 => .long
  | 3 => .boolean
  | 4 => .boolean
  | 5 => .boolean
  | 6 => .long
  | _ => .long
theorem n_T : ∀ a, a < 8 → ∀ b, b < 8 → a ≠ b → (F_T a).2.1 ≠ (F_T b).2.1 := by decide +kernel
theorem ft_T_ok : ∀ k, k < 8 → parseFieldDescriptor (F_T k).2.2.1 = some (ft_T k) := by decide +kernel
abbrev b_T_init : ByteArray := prog_4_method_1_code
def y_T_init : MethodName := ⟨R_T, "<init>", "(ILProtectHooks$Application;J)V"⟩
abbrev b_T_isEarlyAt : ByteArray := prog_4_method_2_code
def y_T_isEarlyAt : MethodName := ⟨R_T, "isEarlyAt", "(J)Z"⟩
def R_P : String := "ProtectHooks"
def F_P : u_T := fun k => match k with
  | 0 => ("ProtectHooks", "applications", "[LProtectHooks$Application;", true)
  | 1 => ("ProtectHooks", "tasks", "[LProtectHooks$Task;", true)
  | 2 => ("ProtectHooks", "holders", "[I", true)
  | 3 => ("ProtectHooks", "does", "[I", true)
  | 4 => ("ProtectHooks", "fails", "[Z", true)
  | 5 => ("ProtectHooks", "cleanings", "LProtectHooks$Book;", true)
  | 6 => ("ProtectHooks", "lines", "LProtectHooks$Book;", true)
  | 7 => ("ProtectHooks", "applicationCount", "I", false)
  | 8 => ("ProtectHooks", "taskCount", "I", false)
  | 9 => ("ProtectHooks", "up", "Z", false)
  | _ => ("ProtectHooks", "delicateCleaned", "Z", false)
def ft_P : Nat → FieldType := fun k => match k with
  | 0 => .array (.object "ProtectHooks$Application")
  | 1 => .array (.object "ProtectHooks$Task")
  | 2 => .array .int
  | 3 => .array .int
  | 4 => .array .boolean
  | 5 => .object "ProtectHooks$Book"
  | 6 => .object "ProtectHooks$Book"
  | 7 => .int
  | 8 => .int
  | 9 => .boolean
  | _ => .boolean
theorem n_P : ∀ a, a < 11 → ∀ b, b < 11 → a ≠ b → (F_P a).2.1 ≠ (F_P b).2.1 := by decide +kernel
theorem ft_P_ok : ∀ k, k < 11 → parseFieldDescriptor (F_P k).2.2.1 = some (ft_P k) := by decide +kernel
abbrev b_P_init : ByteArray := prog_1_method_1_code
def y_P_init : MethodName := ⟨R_P, "<init>", "()V"⟩
abbrev b_P_application : ByteArray := prog_1_method_2_code
def y_P_application : MethodName := ⟨R_P, "application", "(I)I"⟩
abbrev b_P_task : ByteArray := prog_1_method_3_code
def y_P_task : MethodName := ⟨R_P, "task", "(IJ)I"⟩
abbrev b_P_region : ByteArray := prog_1_method_4_code
def y_P_region : MethodName := ⟨R_P, "region", "(IJJ)I"⟩
abbrev b_P_holds : ByteArray := prog_1_method_5_code
def y_P_holds : MethodName := ⟨R_P, "holds", "(III)I"⟩
abbrev b_P_fault : ByteArray := prog_1_method_6_code
def y_P_fault : MethodName := ⟨R_P, "fault", "(II)I"⟩
abbrev b_P_cleaned : ByteArray := prog_1_method_7_code
def y_P_cleaned : MethodName := ⟨R_P, "cleaned", "(II)I"⟩
abbrev b_P_hook : ByteArray := prog_1_method_8_code
def y_P_hook : MethodName := ⟨R_P, "hook", "(IIZ)I"⟩
abbrev b_P_arrival : ByteArray := prog_1_method_9_code
def y_P_arrival : MethodName := ⟨R_P, "arrival", "(IJ)I"⟩
abbrev b_P_trusted : ByteArray := prog_1_method_10_code
def y_P_trusted : MethodName := ⟨R_P, "trusted", "(IJ)I"⟩
abbrev b_P_access : ByteArray := prog_1_method_11_code
def y_P_access : MethodName := ⟨R_P, "access", "(IJ)I"⟩
abbrev b_P_state : ByteArray := prog_1_method_12_code
def y_P_state : MethodName := ⟨R_P, "state", "(I)I"⟩
abbrev b_P_log : ByteArray := prog_1_method_13_code
def y_P_log : MethodName := ⟨R_P, "log", "(II)I"⟩
abbrev b_P_applicationNumbered : ByteArray := prog_1_method_14_code
def y_P_applicationNumbered : MethodName := ⟨R_P, "applicationNumbered", "(I)LProtectHooks$Application;"⟩
abbrev b_P_taskNumbered : ByteArray := prog_1_method_15_code
def y_P_taskNumbered : MethodName := ⟨R_P, "taskNumbered", "(I)LProtectHooks$Task;"⟩
abbrev b_P_canAct : ByteArray := prog_1_method_16_code
def y_P_canAct : MethodName := ⟨R_P, "canAct", "(LProtectHooks$Task;)Z"⟩
abbrev b_P_countHeldBy : ByteArray := prog_1_method_17_code
def y_P_countHeldBy : MethodName := ⟨R_P, "countHeldBy", "(LProtectHooks$Task;)I"⟩
abbrev b_P_raise : ByteArray := prog_1_method_18_code
def y_P_raise : MethodName := ⟨R_P, "raise", "(LProtectHooks$Task;I)I"⟩
abbrev b_P_decidingLevel : ByteArray := prog_1_method_19_code
def y_P_decidingLevel : MethodName := ⟨R_P, "decidingLevel", "()I"⟩
abbrev b_P_reactionAskedAt : ByteArray := prog_1_method_20_code
def y_P_reactionAskedAt : MethodName := ⟨R_P, "reactionAskedAt", "(I)I"⟩
abbrev b_P_carryOut : ByteArray := prog_1_method_21_code
def y_P_carryOut : MethodName := ⟨R_P, "carryOut", "(ILProtectHooks$Task;)I"⟩
abbrev b_P_endTasksOf : ByteArray := prog_1_method_22_code
def y_P_endTasksOf : MethodName := ⟨R_P, "endTasksOf", "(LProtectHooks$Application;)V"⟩
abbrev b_P_endTask : ByteArray := prog_1_method_23_code
def y_P_endTask : MethodName := ⟨R_P, "endTask", "(LProtectHooks$Task;)V"⟩
abbrev b_P_clean : ByteArray := prog_1_method_24_code
def y_P_clean : MethodName := ⟨R_P, "clean", "(ILProtectHooks$Task;)V"⟩
abbrev b_P_startAgain : ByteArray := prog_1_method_25_code
def y_P_startAgain : MethodName := ⟨R_P, "startAgain", "(LProtectHooks$Application;)V"⟩
abbrev b_P_shutDown : ByteArray := prog_1_method_26_code
def y_P_shutDown : MethodName := ⟨R_P, "shutDown", "()V"⟩
def R_M : String := "ProtectHooksModel"
def F_M : u_T := fun k => match k with
  | 0 => ("ProtectHooksModel", "code", "I", false)
  | 1 => ("ProtectHooksModel", "down", "Z", false)
  | 2 => ("ProtectHooksModel", "applications", "I", false)
  | 3 => ("ProtectHooksModel", "restarts", "[I", true)
  | 4 => ("ProtectHooksModel", "ended", "[Z", true)
  | 5 => ("ProtectHooksModel", "regions", "[I", true)
  | 6 => ("ProtectHooksModel", "from", "[J", true)
  | 7 => ("ProtectHooksModel", "many", "[J", true)
  | 8 => ("ProtectHooksModel", "tasks", "I", false)
  | 9 => ("ProtectHooksModel", "of", "[I", true)
  | 10 => ("ProtectHooksModel", "spacing", "[J", true)
  | 11 => ("ProtectHooksModel", "alive", "[Z", true)
  | 12 => ("ProtectHooksModel", "hasCome", "[Z", true)
  | 13 => ("ProtectHooksModel", "came", "[J", true)
  | 14 => ("ProtectHooksModel", "told", "[J", true)
  | 15 => ("ProtectHooksModel", "delayed", "[Z", true)
  | 16 => ("ProtectHooksModel", "holder", "[I", true)
  | 17 => ("ProtectHooksModel", "does", "[I", true)
  | 18 => ("ProtectHooksModel", "fails", "[Z", true)
  | 19 => ("ProtectHooksModel", "cleanings", "I", false)
  | 20 => ("ProtectHooksModel", "cleanedTask", "[I", true)
  | 21 => ("ProtectHooksModel", "cleanedThing", "[I", true)
  | 22 => ("ProtectHooksModel", "lines", "I", false)
  | 23 => ("ProtectHooksModel", "line", "[I", true)
  | _ => ("ProtectHooksModel", "sick", "I", false)
def ft_M : Nat → FieldType := fun k => match k with
  | 0 => .int
  | 1 => .boolean
  | 2 => .int
  | 3 => .array .int
  | 4 => .array .boolean
  | 5 => .array .int
  | 6 => .array .long
  | 7 => .array .long
  | 8 => .int
  | 9 => .array .int
  | 10 => .array .long
  | 11 => .array .boolean
  | 12 => .array .boolean
  | 13 => .array .long
  | 14 => .array .long
  | 15 => .array .boolean
  | 16 => .array .int
  | 17 => .array .int
  | 18 => .array .boolean
  | 19 => .int
  | 20 => .array .int
  | 21 => .array .int
  | 22 => .int
  | 23 => .array .int
  | _ => .int
theorem n_M : ∀ a, a < 25 → ∀ b, b < 25 → a ≠ b → (F_M a).2.1 ≠ (F_M b).2.1 := by decide +kernel
theorem ft_M_ok : ∀ k, k < 25 → parseFieldDescriptor (F_M k).2.2.1 = some (ft_M k) := by decide +kernel
abbrev b_M_init : ByteArray := prog_6_method_1_code
def y_M_init : MethodName := ⟨R_M, "<init>", "()V"⟩
abbrev b_M_noApplication : ByteArray := prog_6_method_3_code
def y_M_noApplication : MethodName := ⟨R_M, "noApplication", "(I)Z"⟩
abbrev b_M_noTask : ByteArray := prog_6_method_4_code
def y_M_noTask : MethodName := ⟨R_M, "noTask", "(I)Z"⟩
abbrev b_M_application : ByteArray := prog_6_method_5_code
def y_M_application : MethodName := ⟨R_M, "application", "(I)I"⟩
abbrev b_M_task : ByteArray := prog_6_method_6_code
def y_M_task : MethodName := ⟨R_M, "task", "(IJ)I"⟩
abbrev b_M_region : ByteArray := prog_6_method_7_code
def y_M_region : MethodName := ⟨R_M, "region", "(IJJ)I"⟩
abbrev b_M_holds : ByteArray := prog_6_method_8_code
def y_M_holds : MethodName := ⟨R_M, "holds", "(III)I"⟩
abbrev b_M_hook : ByteArray := prog_6_method_9_code
def y_M_hook : MethodName := ⟨R_M, "hook", "(IIZ)I"⟩
abbrev b_M_shutDown : ByteArray := prog_6_method_10_code
def y_M_shutDown : MethodName := ⟨R_M, "shutDown", "()V"⟩
abbrev b_M_end : ByteArray := prog_6_method_11_code
def y_M_end : MethodName := ⟨R_M, "end", "(I)V"⟩
abbrev b_M_endAll : ByteArray := prog_6_method_12_code
def y_M_endAll : MethodName := ⟨R_M, "endAll", "(I)V"⟩
abbrev b_M_react : ByteArray := prog_6_method_13_code
def y_M_react : MethodName := ⟨R_M, "react", "(II)I"⟩
abbrev b_M_fault : ByteArray := prog_6_method_14_code
def y_M_fault : MethodName := ⟨R_M, "fault", "(II)I"⟩
abbrev b_M_arrival : ByteArray := prog_6_method_15_code
def y_M_arrival : MethodName := ⟨R_M, "arrival", "(IJ)I"⟩
abbrev b_M_inside : ByteArray := prog_6_method_16_code
def y_M_inside : MethodName := ⟨R_M, "inside", "(IJ)Z"⟩
abbrev b_M_trusted : ByteArray := prog_6_method_17_code
def y_M_trusted : MethodName := ⟨R_M, "trusted", "(IJ)I"⟩
abbrev b_M_access : ByteArray := prog_6_method_18_code
def y_M_access : MethodName := ⟨R_M, "access", "(IJ)I"⟩
abbrev b_M_state : ByteArray := prog_6_method_19_code
def y_M_state : MethodName := ⟨R_M, "state", "(I)I"⟩
abbrev b_M_cleaned : ByteArray := prog_6_method_20_code
def y_M_cleaned : MethodName := ⟨R_M, "cleaned", "(II)I"⟩
abbrev b_M_log : ByteArray := prog_6_method_21_code
def y_M_log : MethodName := ⟨R_M, "log", "(II)I"⟩
def R_L : String := "ProtectHooksLaw"
/-- the words of all methods -/
def wA_0 : List Cond := [Cond.selects "ProtectHooks" ⟨"ProtectHooks", "applicationNumbered", "(I)LProtectHooks$Application;"⟩ ⟨"ProtectHooks", "applicationNumbered", "(I)LProtectHooks$Application;"⟩,
  Cond.selects "ProtectHooks" ⟨"ProtectHooks", "taskNumbered", "(I)LProtectHooks$Task;"⟩ ⟨"ProtectHooks", "taskNumbered", "(I)LProtectHooks$Task;"⟩,
  Cond.selects "ProtectHooks" ⟨"ProtectHooks", "canAct", "(LProtectHooks$Task;)Z"⟩ ⟨"ProtectHooks", "canAct", "(LProtectHooks$Task;)Z"⟩,
  Cond.selects "ProtectHooks" ⟨"ProtectHooks", "countHeldBy", "(LProtectHooks$Task;)I"⟩ ⟨"ProtectHooks", "countHeldBy", "(LProtectHooks$Task;)I"⟩,
  Cond.selects "ProtectHooks" ⟨"ProtectHooks", "raise", "(LProtectHooks$Task;I)I"⟩ ⟨"ProtectHooks", "raise", "(LProtectHooks$Task;I)I"⟩,
  Cond.selects "ProtectHooks" ⟨"ProtectHooks", "decidingLevel", "()I"⟩ ⟨"ProtectHooks", "decidingLevel", "()I"⟩,
  Cond.selects "ProtectHooks" ⟨"ProtectHooks", "reactionAskedAt", "(I)I"⟩ ⟨"ProtectHooks", "reactionAskedAt", "(I)I"⟩,
  Cond.selects "ProtectHooks" ⟨"ProtectHooks", "carryOut", "(ILProtectHooks$Task;)I"⟩ ⟨"ProtectHooks", "carryOut", "(ILProtectHooks$Task;)I"⟩,
  Cond.selects "ProtectHooks" ⟨"ProtectHooks", "shutDown", "()V"⟩ ⟨"ProtectHooks", "shutDown", "()V"⟩,
  Cond.selects "ProtectHooks" ⟨"ProtectHooks", "endTask", "(LProtectHooks$Task;)V"⟩ ⟨"ProtectHooks", "endTask", "(LProtectHooks$Task;)V"⟩,
  Cond.selects "ProtectHooks" ⟨"ProtectHooks", "clean", "(ILProtectHooks$Task;)V"⟩ ⟨"ProtectHooks", "clean", "(ILProtectHooks$Task;)V"⟩,
  Cond.selects "ProtectHooks" ⟨"ProtectHooks", "endTasksOf", "(LProtectHooks$Application;)V"⟩ ⟨"ProtectHooks", "endTasksOf", "(LProtectHooks$Application;)V"⟩,
  Cond.selects "ProtectHooks" ⟨"ProtectHooks", "startAgain", "(LProtectHooks$Application;)V"⟩ ⟨"ProtectHooks", "startAgain", "(LProtectHooks$Application;)V"⟩,
  Cond.selects "ProtectHooksModel" ⟨"ProtectHooksModel", "noApplication", "(I)Z"⟩ ⟨"ProtectHooksModel", "noApplication", "(I)Z"⟩,
  Cond.selects "ProtectHooksModel" ⟨"ProtectHooksModel", "noTask", "(I)Z"⟩ ⟨"ProtectHooksModel", "noTask", "(I)Z"⟩,
  Cond.selects "ProtectHooksModel" ⟨"ProtectHooksModel", "react", "(II)I"⟩ ⟨"ProtectHooksModel", "react", "(II)I"⟩,
  Cond.selects "ProtectHooksModel" ⟨"ProtectHooksModel", "end", "(I)V"⟩ ⟨"ProtectHooksModel", "end", "(I)V"⟩,
  Cond.selects "ProtectHooksModel" ⟨"ProtectHooksModel", "shutDown", "()V"⟩ ⟨"ProtectHooksModel", "shutDown", "()V"⟩,
  Cond.selects "ProtectHooksModel" ⟨"ProtectHooksModel", "endAll", "(I)V"⟩ ⟨"ProtectHooksModel", "endAll", "(I)V"⟩,
  Cond.selects "ProtectHooksModel" ⟨"ProtectHooksModel", "inside", "(IJ)Z"⟩ ⟨"ProtectHooksModel", "inside", "(IJ)Z"⟩,
  Cond.initialized "ProtectHooksLaw",
  Cond.initialized "ProtectHooks",
  Cond.initialized "ProtectHooks$Book",
  Cond.initialized "ProtectHooksModel",
  Cond.initialized "ProtectHooks$Application",
  Cond.initialized "ProtectHooks$Task",
  Cond.classLink "ProtectHooksLaw" 7 "ProtectHooks",
  Cond.instantiable "ProtectHooks" 11,
  Cond.methodLink "ProtectHooksLaw" 9 ⟨"ProtectHooks", "<init>", "()V"⟩,
  Cond.instanceMethod ⟨"ProtectHooks", "<init>", "()V"⟩,
  Cond.code ⟨"ProtectHooks", "<init>", "()V"⟩ prog_1_method_1_code 1 none,
  Cond.methodLink "ProtectHooks" 3 ⟨"java/lang/Object", "<init>", "()V"⟩,
  Cond.instanceMethod ⟨"java/lang/Object", "<init>", "()V"⟩,
  Cond.code ⟨"java/lang/Object", "<init>", "()V"⟩ object_method_1_code 1 none,
  Cond.classLink "ProtectHooks" 9 "ProtectHooks$Application",
  Cond.classLink "ProtectHooks" 15 "ProtectHooks$Task",
  Cond.classLink "ProtectHooks" 32 "ProtectHooks$Book",
  Cond.instantiable "ProtectHooks$Book" 3,
  Cond.methodLink "ProtectHooks" 34 ⟨"ProtectHooks$Book", "<init>", "(I)V"⟩,
  Cond.instanceMethod ⟨"ProtectHooks$Book", "<init>", "(I)V"⟩,
  Cond.code ⟨"ProtectHooks$Book", "<init>", "(I)V"⟩ prog_3_method_1_code 2 none,
  Cond.methodLink "ProtectHooks$Book" 3 ⟨"java/lang/Object", "<init>", "()V"⟩,
  Cond.fieldLink "ProtectHooks$Book" 15 "ProtectHooks$Book" "columns" "I",
  Cond.fieldLink "ProtectHooks$Book" 11 "ProtectHooks$Book" "cells" "[I",
  Cond.fieldLink "ProtectHooks$Book" 19 "ProtectHooks$Book" "count" "I",
  Cond.laysFinal "ProtectHooks$Book" "ProtectHooks$Book" "columns" "I",
  Cond.laysFinal "ProtectHooks$Book" "ProtectHooks$Book" "cells" "[I",
  Cond.lays "ProtectHooks$Book" "ProtectHooks$Book" "count" "I",
  Cond.arrayClass .int,
  Cond.arrayClass .boolean,
  Cond.fieldLink "ProtectHooks" 11 "ProtectHooks" "applications" "[LProtectHooks$Application;",
  Cond.fieldLink "ProtectHooks" 17 "ProtectHooks" "tasks" "[LProtectHooks$Task;",
  Cond.fieldLink "ProtectHooks" 21 "ProtectHooks" "holders" "[I",
  Cond.fieldLink "ProtectHooks" 25 "ProtectHooks" "does" "[I",
  Cond.fieldLink "ProtectHooks" 28 "ProtectHooks" "fails" "[Z",
  Cond.fieldLink "ProtectHooks" 37 "ProtectHooks" "cleanings" "LProtectHooks$Book;",
  Cond.fieldLink "ProtectHooks" 41 "ProtectHooks" "lines" "LProtectHooks$Book;",
  Cond.fieldLink "ProtectHooks" 48 "ProtectHooks" "applicationCount" "I",
  Cond.fieldLink "ProtectHooks" 62 "ProtectHooks" "taskCount" "I",
  Cond.fieldLink "ProtectHooks" 44 "ProtectHooks" "up" "Z"]
def wA_1 : List Cond := [Cond.fieldLink "ProtectHooks" 127 "ProtectHooks" "delicateCleaned" "Z",
  Cond.laysFinal "ProtectHooks" "ProtectHooks" "applications" "[LProtectHooks$Application;",
  Cond.laysFinal "ProtectHooks" "ProtectHooks" "tasks" "[LProtectHooks$Task;",
  Cond.laysFinal "ProtectHooks" "ProtectHooks" "holders" "[I",
  Cond.laysFinal "ProtectHooks" "ProtectHooks" "does" "[I",
  Cond.laysFinal "ProtectHooks" "ProtectHooks" "fails" "[Z",
  Cond.laysFinal "ProtectHooks" "ProtectHooks" "cleanings" "LProtectHooks$Book;",
  Cond.laysFinal "ProtectHooks" "ProtectHooks" "lines" "LProtectHooks$Book;",
  Cond.lays "ProtectHooks" "ProtectHooks" "applicationCount" "I",
  Cond.lays "ProtectHooks" "ProtectHooks" "taskCount" "I",
  Cond.lays "ProtectHooks" "ProtectHooks" "up" "Z",
  Cond.lays "ProtectHooks" "ProtectHooks" "delicateCleaned" "Z",
  Cond.methodLink "ProtectHooksLaw" 13 ⟨"ProtectHooks", "application", "(I)I"⟩,
  Cond.instanceMethod ⟨"ProtectHooks", "application", "(I)I"⟩,
  Cond.selects "ProtectHooks" ⟨"ProtectHooks", "application", "(I)I"⟩ ⟨"ProtectHooks", "application", "(I)I"⟩,
  Cond.code ⟨"ProtectHooks", "application", "(I)I"⟩ prog_1_method_2_code 2 (some .int),
  Cond.instantiable "ProtectHooks$Application" 5,
  Cond.methodLink "ProtectHooks" 52 ⟨"ProtectHooks$Application", "<init>", "(I)V"⟩,
  Cond.instanceMethod ⟨"ProtectHooks$Application", "<init>", "(I)V"⟩,
  Cond.code ⟨"ProtectHooks$Application", "<init>", "(I)V"⟩ prog_2_method_1_code 2 none,
  Cond.methodLink "ProtectHooks$Application" 3 ⟨"java/lang/Object", "<init>", "()V"⟩,
  Cond.fieldLink "ProtectHooks$Application" 9 "ProtectHooks$Application" "starts" "[J",
  Cond.fieldLink "ProtectHooks$Application" 15 "ProtectHooks$Application" "sizes" "[J",
  Cond.fieldLink "ProtectHooks$Application" 22 "ProtectHooks$Application" "regionCount" "I",
  Cond.fieldLink "ProtectHooks" 70 "ProtectHooks$Application" "regionCount" "I",
  Cond.fieldLink "ProtectHooks$Application" 18 "ProtectHooks$Application" "restarts" "I",
  Cond.fieldLink "ProtectHooks" 157 "ProtectHooks$Application" "restarts" "I",
  Cond.fieldLink "ProtectHooks" 59 "ProtectHooks$Application" "ended" "Z",
  Cond.laysFinal "ProtectHooks$Application" "ProtectHooks$Application" "starts" "[J",
  Cond.laysFinal "ProtectHooks$Application" "ProtectHooks$Application" "sizes" "[J",
  Cond.lays "ProtectHooks$Application" "ProtectHooks$Application" "regionCount" "I",
  Cond.lays "ProtectHooks$Application" "ProtectHooks$Application" "restarts" "I",
  Cond.lays "ProtectHooks$Application" "ProtectHooks$Application" "ended" "Z",
  Cond.arrayClass .long,
  Cond.methodLink "ProtectHooksLaw" 20 ⟨"ProtectHooks", "task", "(IJ)I"⟩,
  Cond.instanceMethod ⟨"ProtectHooks", "task", "(IJ)I"⟩,
  Cond.selects "ProtectHooks" ⟨"ProtectHooks", "task", "(IJ)I"⟩ ⟨"ProtectHooks", "task", "(IJ)I"⟩,
  Cond.code ⟨"ProtectHooks", "task", "(IJ)I"⟩ prog_1_method_3_code 5 (some .int),
  Cond.methodLink "ProtectHooks" 53 ⟨"ProtectHooks", "applicationNumbered", "(I)LProtectHooks$Application;"⟩,
  Cond.instanceMethod ⟨"ProtectHooks", "applicationNumbered", "(I)LProtectHooks$Application;"⟩,
  Cond.code ⟨"ProtectHooks", "applicationNumbered", "(I)LProtectHooks$Application;"⟩ prog_1_method_14_code 2 (some (.object "ProtectHooks$Application")),
  Cond.constantLong "ProtectHooks" 57 1000000,
  Cond.instantiable "ProtectHooks$Task" 8,
  Cond.methodLink "ProtectHooks" 65 ⟨"ProtectHooks$Task", "<init>", "(ILProtectHooks$Application;J)V"⟩,
  Cond.instanceMethod ⟨"ProtectHooks$Task", "<init>", "(ILProtectHooks$Application;J)V"⟩,
  Cond.code ⟨"ProtectHooks$Task", "<init>", "(ILProtectHooks$Application;J)V"⟩ prog_4_method_1_code 5 none,
  Cond.methodLink "ProtectHooks$Task" 1 ⟨"java/lang/Object", "<init>", "()V"⟩,
  Cond.fieldLink "ProtectHooks$Task" 13 "ProtectHooks$Task" "number" "I",
  Cond.fieldLink "ProtectHooks" 85 "ProtectHooks$Task" "number" "I",
  Cond.fieldLink "ProtectHooks$Task" 17 "ProtectHooks$Task" "owner" "LProtectHooks$Application;",
  Cond.fieldLink "ProtectHooks" 117 "ProtectHooks$Task" "owner" "LProtectHooks$Application;",
  Cond.fieldLink "ProtectHooks$Task" 21 "ProtectHooks$Task" "spacing" "J",
  Cond.fieldLink "ProtectHooks$Task" 7 "ProtectHooks$Task" "alive" "Z",
  Cond.fieldLink "ProtectHooks" 124 "ProtectHooks$Task" "alive" "Z",
  Cond.fieldLink "ProtectHooks$Task" 25 "ProtectHooks$Task" "hasCome" "Z",
  Cond.fieldLink "ProtectHooks" 111 "ProtectHooks$Task" "hasCome" "Z",
  Cond.fieldLink "ProtectHooks" 104 "ProtectHooks$Task" "delayed" "Z",
  Cond.fieldLink "ProtectHooks$Task" 28 "ProtectHooks$Task" "cameLast" "J",
  Cond.fieldLink "ProtectHooks" 114 "ProtectHooks$Task" "cameLast" "J",
  Cond.fieldLink "ProtectHooks" 100 "ProtectHooks$Task" "arrivedLast" "J"]
def wA_2 : List Cond := [Cond.laysFinal "ProtectHooks$Task" "ProtectHooks$Task" "number" "I",
  Cond.laysFinal "ProtectHooks$Task" "ProtectHooks$Task" "owner" "LProtectHooks$Application;",
  Cond.laysFinal "ProtectHooks$Task" "ProtectHooks$Task" "spacing" "J",
  Cond.lays "ProtectHooks$Task" "ProtectHooks$Task" "alive" "Z",
  Cond.lays "ProtectHooks$Task" "ProtectHooks$Task" "hasCome" "Z",
  Cond.lays "ProtectHooks$Task" "ProtectHooks$Task" "delayed" "Z",
  Cond.lays "ProtectHooks$Task" "ProtectHooks$Task" "cameLast" "J",
  Cond.lays "ProtectHooks$Task" "ProtectHooks$Task" "arrivedLast" "J",
  Cond.methodLink "ProtectHooksLaw" 25 ⟨"ProtectHooks", "region", "(IJJ)I"⟩,
  Cond.instanceMethod ⟨"ProtectHooks", "region", "(IJJ)I"⟩,
  Cond.selects "ProtectHooks" ⟨"ProtectHooks", "region", "(IJJ)I"⟩ ⟨"ProtectHooks", "region", "(IJJ)I"⟩,
  Cond.code ⟨"ProtectHooks", "region", "(IJJ)I"⟩ prog_1_method_4_code 7 (some .int),
  Cond.constantLong "ProtectHooks" 68 1099511627776,
  Cond.methodLink "ProtectHooks" 73 ⟨"ProtectHooks$Application", "addRegion", "(JJ)V"⟩,
  Cond.instanceMethod ⟨"ProtectHooks$Application", "addRegion", "(JJ)V"⟩,
  Cond.selects "ProtectHooks$Application" ⟨"ProtectHooks$Application", "addRegion", "(JJ)V"⟩ ⟨"ProtectHooks$Application", "addRegion", "(JJ)V"⟩,
  Cond.code ⟨"ProtectHooks$Application", "addRegion", "(JJ)V"⟩ prog_2_method_2_code 5 none,
  Cond.methodLink "ProtectHooksLaw" 30 ⟨"ProtectHooks", "holds", "(III)I"⟩,
  Cond.instanceMethod ⟨"ProtectHooks", "holds", "(III)I"⟩,
  Cond.selects "ProtectHooks" ⟨"ProtectHooks", "holds", "(III)I"⟩ ⟨"ProtectHooks", "holds", "(III)I"⟩,
  Cond.code ⟨"ProtectHooks", "holds", "(III)I"⟩ prog_1_method_5_code 6 (some .int),
  Cond.methodLink "ProtectHooks" 77 ⟨"ProtectHooks", "taskNumbered", "(I)LProtectHooks$Task;"⟩,
  Cond.instanceMethod ⟨"ProtectHooks", "taskNumbered", "(I)LProtectHooks$Task;"⟩,
  Cond.code ⟨"ProtectHooks", "taskNumbered", "(I)LProtectHooks$Task;"⟩ prog_1_method_15_code 2 (some (.object "ProtectHooks$Task")),
  Cond.methodLink "ProtectHooks" 81 ⟨"ProtectHooks", "canAct", "(LProtectHooks$Task;)Z"⟩,
  Cond.instanceMethod ⟨"ProtectHooks", "canAct", "(LProtectHooks$Task;)Z"⟩,
  Cond.code ⟨"ProtectHooks", "canAct", "(LProtectHooks$Task;)Z"⟩ prog_1_method_16_code 2 (some .boolean),
  Cond.methodLink "ProtectHooks" 88 ⟨"ProtectHooks", "countHeldBy", "(LProtectHooks$Task;)I"⟩,
  Cond.instanceMethod ⟨"ProtectHooks", "countHeldBy", "(LProtectHooks$Task;)I"⟩,
  Cond.code ⟨"ProtectHooks", "countHeldBy", "(LProtectHooks$Task;)I"⟩ prog_1_method_17_code 7 (some .int),
  Cond.methodLink "ProtectHooksLaw" 35 ⟨"ProtectHooks", "fault", "(II)I"⟩,
  Cond.instanceMethod ⟨"ProtectHooks", "fault", "(II)I"⟩,
  Cond.selects "ProtectHooks" ⟨"ProtectHooks", "fault", "(II)I"⟩ ⟨"ProtectHooks", "fault", "(II)I"⟩,
  Cond.code ⟨"ProtectHooks", "fault", "(II)I"⟩ prog_1_method_6_code 4 (some .int),
  Cond.methodLink "ProtectHooks" 92 ⟨"ProtectHooks", "raise", "(LProtectHooks$Task;I)I"⟩,
  Cond.instanceMethod ⟨"ProtectHooks", "raise", "(LProtectHooks$Task;I)I"⟩,
  Cond.code ⟨"ProtectHooks", "raise", "(LProtectHooks$Task;I)I"⟩ prog_1_method_18_code 5 (some .int),
  Cond.methodLink "ProtectHooks" 130 ⟨"ProtectHooks", "decidingLevel", "()I"⟩,
  Cond.instanceMethod ⟨"ProtectHooks", "decidingLevel", "()I"⟩,
  Cond.code ⟨"ProtectHooks", "decidingLevel", "()I"⟩ prog_1_method_19_code 2 (some .int),
  Cond.methodLink "ProtectHooks" 134 ⟨"ProtectHooks", "reactionAskedAt", "(I)I"⟩,
  Cond.instanceMethod ⟨"ProtectHooks", "reactionAskedAt", "(I)I"⟩,
  Cond.code ⟨"ProtectHooks", "reactionAskedAt", "(I)I"⟩ prog_1_method_20_code 2 (some .int),
  Cond.methodLink "ProtectHooks" 138 ⟨"ProtectHooks", "carryOut", "(ILProtectHooks$Task;)I"⟩,
  Cond.instanceMethod ⟨"ProtectHooks", "carryOut", "(ILProtectHooks$Task;)I"⟩,
  Cond.code ⟨"ProtectHooks", "carryOut", "(ILProtectHooks$Task;)I"⟩ prog_1_method_21_code 3 (some .int),
  Cond.methodLink "ProtectHooks" 146 ⟨"ProtectHooks", "shutDown", "()V"⟩,
  Cond.instanceMethod ⟨"ProtectHooks", "shutDown", "()V"⟩,
  Cond.code ⟨"ProtectHooks", "shutDown", "()V"⟩ prog_1_method_26_code 5 none,
  Cond.methodLink "ProtectHooks" 149 ⟨"ProtectHooks", "endTask", "(LProtectHooks$Task;)V"⟩,
  Cond.instanceMethod ⟨"ProtectHooks", "endTask", "(LProtectHooks$Task;)V"⟩,
  Cond.code ⟨"ProtectHooks", "endTask", "(LProtectHooks$Task;)V"⟩ prog_1_method_23_code 3 none,
  Cond.methodLink "ProtectHooks" 163 ⟨"ProtectHooks", "clean", "(ILProtectHooks$Task;)V"⟩,
  Cond.instanceMethod ⟨"ProtectHooks", "clean", "(ILProtectHooks$Task;)V"⟩,
  Cond.code ⟨"ProtectHooks", "clean", "(ILProtectHooks$Task;)V"⟩ prog_1_method_24_code 4 none,
  Cond.methodLink "ProtectHooks" 142 ⟨"ProtectHooks$Book", "write", "(IIII)V"⟩,
  Cond.instanceMethod ⟨"ProtectHooks$Book", "write", "(IIII)V"⟩,
  Cond.selects "ProtectHooks$Book" ⟨"ProtectHooks$Book", "write", "(IIII)V"⟩ ⟨"ProtectHooks$Book", "write", "(IIII)V"⟩,
  Cond.code ⟨"ProtectHooks$Book", "write", "(IIII)V"⟩ prog_3_method_2_code 6 none,
  Cond.constant "ProtectHooks$Book" 24 2147483647]
def wA_3 : List Cond := [Cond.methodLink "ProtectHooks" 153 ⟨"ProtectHooks", "endTasksOf", "(LProtectHooks$Application;)V"⟩,
  Cond.instanceMethod ⟨"ProtectHooks", "endTasksOf", "(LProtectHooks$Application;)V"⟩,
  Cond.code ⟨"ProtectHooks", "endTasksOf", "(LProtectHooks$Application;)V"⟩ prog_1_method_22_code 6 none,
  Cond.methodLink "ProtectHooks" 160 ⟨"ProtectHooks", "startAgain", "(LProtectHooks$Application;)V"⟩,
  Cond.instanceMethod ⟨"ProtectHooks", "startAgain", "(LProtectHooks$Application;)V"⟩,
  Cond.code ⟨"ProtectHooks", "startAgain", "(LProtectHooks$Application;)V"⟩ prog_1_method_25_code 6 none,
  Cond.methodLink "ProtectHooksLaw" 40 ⟨"ProtectHooks", "cleaned", "(II)I"⟩,
  Cond.instanceMethod ⟨"ProtectHooks", "cleaned", "(II)I"⟩,
  Cond.selects "ProtectHooks" ⟨"ProtectHooks", "cleaned", "(II)I"⟩ ⟨"ProtectHooks", "cleaned", "(II)I"⟩,
  Cond.code ⟨"ProtectHooks", "cleaned", "(II)I"⟩ prog_1_method_7_code 3 (some .int),
  Cond.methodLink "ProtectHooks" 96 ⟨"ProtectHooks$Book", "tell", "(II)I"⟩,
  Cond.instanceMethod ⟨"ProtectHooks$Book", "tell", "(II)I"⟩,
  Cond.selects "ProtectHooks$Book" ⟨"ProtectHooks$Book", "tell", "(II)I"⟩ ⟨"ProtectHooks$Book", "tell", "(II)I"⟩,
  Cond.code ⟨"ProtectHooks$Book", "tell", "(II)I"⟩ prog_3_method_3_code 3 (some .int),
  Cond.methodLink "ProtectHooksLaw" 44 ⟨"ProtectHooks", "hook", "(IIZ)I"⟩,
  Cond.instanceMethod ⟨"ProtectHooks", "hook", "(IIZ)I"⟩,
  Cond.selects "ProtectHooks" ⟨"ProtectHooks", "hook", "(IIZ)I"⟩ ⟨"ProtectHooks", "hook", "(IIZ)I"⟩,
  Cond.code ⟨"ProtectHooks", "hook", "(IIZ)I"⟩ prog_1_method_8_code 4 (some .int),
  Cond.methodLink "ProtectHooksLaw" 49 ⟨"ProtectHooks", "arrival", "(IJ)I"⟩,
  Cond.instanceMethod ⟨"ProtectHooks", "arrival", "(IJ)I"⟩,
  Cond.selects "ProtectHooks" ⟨"ProtectHooks", "arrival", "(IJ)I"⟩ ⟨"ProtectHooks", "arrival", "(IJ)I"⟩,
  Cond.code ⟨"ProtectHooks", "arrival", "(IJ)I"⟩ prog_1_method_9_code 7 (some .int),
  Cond.methodLink "ProtectHooks" 107 ⟨"ProtectHooks$Task", "isEarlyAt", "(J)Z"⟩,
  Cond.instanceMethod ⟨"ProtectHooks$Task", "isEarlyAt", "(J)Z"⟩,
  Cond.selects "ProtectHooks$Task" ⟨"ProtectHooks$Task", "isEarlyAt", "(J)Z"⟩ ⟨"ProtectHooks$Task", "isEarlyAt", "(J)Z"⟩,
  Cond.code ⟨"ProtectHooks$Task", "isEarlyAt", "(J)Z"⟩ prog_4_method_2_code 3 (some .boolean),
  Cond.methodLink "ProtectHooksLaw" 53 ⟨"ProtectHooks", "trusted", "(IJ)I"⟩,
  Cond.instanceMethod ⟨"ProtectHooks", "trusted", "(IJ)I"⟩,
  Cond.selects "ProtectHooks" ⟨"ProtectHooks", "trusted", "(IJ)I"⟩ ⟨"ProtectHooks", "trusted", "(IJ)I"⟩,
  Cond.code ⟨"ProtectHooks", "trusted", "(IJ)I"⟩ prog_1_method_10_code 5 (some .int),
  Cond.methodLink "ProtectHooks" 121 ⟨"ProtectHooks$Application", "hasAddress", "(J)Z"⟩,
  Cond.instanceMethod ⟨"ProtectHooks$Application", "hasAddress", "(J)Z"⟩,
  Cond.selects "ProtectHooks$Application" ⟨"ProtectHooks$Application", "hasAddress", "(J)Z"⟩ ⟨"ProtectHooks$Application", "hasAddress", "(J)Z"⟩,
  Cond.code ⟨"ProtectHooks$Application", "hasAddress", "(J)Z"⟩ prog_2_method_3_code 4 (some .boolean),
  Cond.methodLink "ProtectHooksLaw" 57 ⟨"ProtectHooks", "access", "(IJ)I"⟩,
  Cond.instanceMethod ⟨"ProtectHooks", "access", "(IJ)I"⟩,
  Cond.selects "ProtectHooks" ⟨"ProtectHooks", "access", "(IJ)I"⟩ ⟨"ProtectHooks", "access", "(IJ)I"⟩,
  Cond.code ⟨"ProtectHooks", "access", "(IJ)I"⟩ prog_1_method_11_code 5 (some .int),
  Cond.methodLink "ProtectHooksLaw" 61 ⟨"ProtectHooks", "state", "(I)I"⟩,
  Cond.instanceMethod ⟨"ProtectHooks", "state", "(I)I"⟩,
  Cond.selects "ProtectHooks" ⟨"ProtectHooks", "state", "(I)I"⟩ ⟨"ProtectHooks", "state", "(I)I"⟩,
  Cond.code ⟨"ProtectHooks", "state", "(I)I"⟩ prog_1_method_12_code 3 (some .int),
  Cond.methodLink "ProtectHooksLaw" 65 ⟨"ProtectHooks", "log", "(II)I"⟩,
  Cond.instanceMethod ⟨"ProtectHooks", "log", "(II)I"⟩,
  Cond.selects "ProtectHooks" ⟨"ProtectHooks", "log", "(II)I"⟩ ⟨"ProtectHooks", "log", "(II)I"⟩,
  Cond.code ⟨"ProtectHooks", "log", "(II)I"⟩ prog_1_method_13_code 3 (some .int),
  Cond.classLink "ProtectHooksLaw" 10 "ProtectHooksModel",
  Cond.instantiable "ProtectHooksModel" 25,
  Cond.methodLink "ProtectHooksLaw" 12 ⟨"ProtectHooksModel", "<init>", "()V"⟩,
  Cond.instanceMethod ⟨"ProtectHooksModel", "<init>", "()V"⟩,
  Cond.code ⟨"ProtectHooksModel", "<init>", "()V"⟩ prog_6_method_1_code 1 none,
  Cond.methodLink "ProtectHooksModel" 1 ⟨"java/lang/Object", "<init>", "()V"⟩,
  Cond.fieldLink "ProtectHooksModel" 66 "ProtectHooksModel" "code" "I",
  Cond.fieldLink "ProtectHooksModel" 76 "ProtectHooksModel" "down" "Z",
  Cond.fieldLink "ProtectHooksModel" 70 "ProtectHooksModel" "applications" "I",
  Cond.fieldLink "ProtectHooksModel" 7 "ProtectHooksModel" "restarts" "[I",
  Cond.fieldLink "ProtectHooksModel" 13 "ProtectHooksModel" "ended" "[Z",
  Cond.fieldLink "ProtectHooksModel" 17 "ProtectHooksModel" "regions" "[I",
  Cond.fieldLink "ProtectHooksModel" 20 "ProtectHooksModel" "from" "[J",
  Cond.fieldLink "ProtectHooksModel" 24 "ProtectHooksModel" "many" "[J"]
def wA_4 : List Cond := [Cond.fieldLink "ProtectHooksModel" 73 "ProtectHooksModel" "tasks" "I",
  Cond.fieldLink "ProtectHooksModel" 27 "ProtectHooksModel" "of" "[I",
  Cond.fieldLink "ProtectHooksModel" 30 "ProtectHooksModel" "spacing" "[J",
  Cond.fieldLink "ProtectHooksModel" 33 "ProtectHooksModel" "alive" "[Z",
  Cond.fieldLink "ProtectHooksModel" 36 "ProtectHooksModel" "hasCome" "[Z",
  Cond.fieldLink "ProtectHooksModel" 39 "ProtectHooksModel" "came" "[J",
  Cond.fieldLink "ProtectHooksModel" 42 "ProtectHooksModel" "told" "[J",
  Cond.fieldLink "ProtectHooksModel" 45 "ProtectHooksModel" "delayed" "[Z",
  Cond.fieldLink "ProtectHooksModel" 48 "ProtectHooksModel" "holder" "[I",
  Cond.fieldLink "ProtectHooksModel" 51 "ProtectHooksModel" "does" "[I",
  Cond.fieldLink "ProtectHooksModel" 54 "ProtectHooksModel" "fails" "[Z",
  Cond.fieldLink "ProtectHooksModel" 91 "ProtectHooksModel" "cleanings" "I",
  Cond.fieldLink "ProtectHooksModel" 57 "ProtectHooksModel" "cleanedTask" "[I",
  Cond.fieldLink "ProtectHooksModel" 60 "ProtectHooksModel" "cleanedThing" "[I",
  Cond.fieldLink "ProtectHooksModel" 107 "ProtectHooksModel" "lines" "I",
  Cond.fieldLink "ProtectHooksModel" 63 "ProtectHooksModel" "line" "[I",
  Cond.fieldLink "ProtectHooksModel" 94 "ProtectHooksModel" "sick" "I",
  Cond.lays "ProtectHooksModel" "ProtectHooksModel" "code" "I",
  Cond.lays "ProtectHooksModel" "ProtectHooksModel" "down" "Z",
  Cond.lays "ProtectHooksModel" "ProtectHooksModel" "applications" "I",
  Cond.laysFinal "ProtectHooksModel" "ProtectHooksModel" "restarts" "[I",
  Cond.laysFinal "ProtectHooksModel" "ProtectHooksModel" "ended" "[Z",
  Cond.laysFinal "ProtectHooksModel" "ProtectHooksModel" "regions" "[I",
  Cond.laysFinal "ProtectHooksModel" "ProtectHooksModel" "from" "[J",
  Cond.laysFinal "ProtectHooksModel" "ProtectHooksModel" "many" "[J",
  Cond.lays "ProtectHooksModel" "ProtectHooksModel" "tasks" "I",
  Cond.laysFinal "ProtectHooksModel" "ProtectHooksModel" "of" "[I",
  Cond.laysFinal "ProtectHooksModel" "ProtectHooksModel" "spacing" "[J",
  Cond.laysFinal "ProtectHooksModel" "ProtectHooksModel" "alive" "[Z",
  Cond.laysFinal "ProtectHooksModel" "ProtectHooksModel" "hasCome" "[Z",
  Cond.laysFinal "ProtectHooksModel" "ProtectHooksModel" "came" "[J",
  Cond.laysFinal "ProtectHooksModel" "ProtectHooksModel" "told" "[J",
  Cond.laysFinal "ProtectHooksModel" "ProtectHooksModel" "delayed" "[Z",
  Cond.laysFinal "ProtectHooksModel" "ProtectHooksModel" "holder" "[I",
  Cond.laysFinal "ProtectHooksModel" "ProtectHooksModel" "does" "[I",
  Cond.laysFinal "ProtectHooksModel" "ProtectHooksModel" "fails" "[Z",
  Cond.lays "ProtectHooksModel" "ProtectHooksModel" "cleanings" "I",
  Cond.laysFinal "ProtectHooksModel" "ProtectHooksModel" "cleanedTask" "[I",
  Cond.laysFinal "ProtectHooksModel" "ProtectHooksModel" "cleanedThing" "[I",
  Cond.lays "ProtectHooksModel" "ProtectHooksModel" "lines" "I",
  Cond.laysFinal "ProtectHooksModel" "ProtectHooksModel" "line" "[I",
  Cond.lays "ProtectHooksModel" "ProtectHooksModel" "sick" "I",
  Cond.methodLink "ProtectHooksLaw" 17 ⟨"ProtectHooksModel", "application", "(I)I"⟩,
  Cond.instanceMethod ⟨"ProtectHooksModel", "application", "(I)I"⟩,
  Cond.selects "ProtectHooksModel" ⟨"ProtectHooksModel", "application", "(I)I"⟩ ⟨"ProtectHooksModel", "application", "(I)I"⟩,
  Cond.code ⟨"ProtectHooksModel", "application", "(I)I"⟩ prog_6_method_5_code 2 (some .int),
  Cond.methodLink "ProtectHooksLaw" 24 ⟨"ProtectHooksModel", "task", "(IJ)I"⟩,
  Cond.instanceMethod ⟨"ProtectHooksModel", "task", "(IJ)I"⟩,
  Cond.selects "ProtectHooksModel" ⟨"ProtectHooksModel", "task", "(IJ)I"⟩ ⟨"ProtectHooksModel", "task", "(IJ)I"⟩,
  Cond.code ⟨"ProtectHooksModel", "task", "(IJ)I"⟩ prog_6_method_6_code 4 (some .int),
  Cond.methodLink "ProtectHooksModel" 80 ⟨"ProtectHooksModel", "noApplication", "(I)Z"⟩,
  Cond.instanceMethod ⟨"ProtectHooksModel", "noApplication", "(I)Z"⟩,
  Cond.code ⟨"ProtectHooksModel", "noApplication", "(I)Z"⟩ prog_6_method_3_code 2 (some .boolean),
  Cond.constantLong "ProtectHooksModel" 84 1000000,
  Cond.methodLink "ProtectHooksLaw" 29 ⟨"ProtectHooksModel", "region", "(IJJ)I"⟩,
  Cond.instanceMethod ⟨"ProtectHooksModel", "region", "(IJJ)I"⟩,
  Cond.selects "ProtectHooksModel" ⟨"ProtectHooksModel", "region", "(IJJ)I"⟩ ⟨"ProtectHooksModel", "region", "(IJJ)I"⟩,
  Cond.code ⟨"ProtectHooksModel", "region", "(IJJ)I"⟩ prog_6_method_7_code 6 (some .int),
  Cond.constantLong "ProtectHooksModel" 86 1099511627776,
  Cond.methodLink "ProtectHooksLaw" 34 ⟨"ProtectHooksModel", "holds", "(III)I"⟩]
def wA_5 : List Cond := [Cond.instanceMethod ⟨"ProtectHooksModel", "holds", "(III)I"⟩,
  Cond.selects "ProtectHooksModel" ⟨"ProtectHooksModel", "holds", "(III)I"⟩ ⟨"ProtectHooksModel", "holds", "(III)I"⟩,
  Cond.code ⟨"ProtectHooksModel", "holds", "(III)I"⟩ prog_6_method_8_code 6 (some .int),
  Cond.methodLink "ProtectHooksModel" 88 ⟨"ProtectHooksModel", "noTask", "(I)Z"⟩,
  Cond.instanceMethod ⟨"ProtectHooksModel", "noTask", "(I)Z"⟩,
  Cond.code ⟨"ProtectHooksModel", "noTask", "(I)Z"⟩ prog_6_method_4_code 2 (some .boolean),
  Cond.methodLink "ProtectHooksLaw" 48 ⟨"ProtectHooksModel", "hook", "(IIZ)I"⟩,
  Cond.instanceMethod ⟨"ProtectHooksModel", "hook", "(IIZ)I"⟩,
  Cond.selects "ProtectHooksModel" ⟨"ProtectHooksModel", "hook", "(IIZ)I"⟩ ⟨"ProtectHooksModel", "hook", "(IIZ)I"⟩,
  Cond.code ⟨"ProtectHooksModel", "hook", "(IIZ)I"⟩ prog_6_method_9_code 4 (some .int),
  Cond.methodLink "ProtectHooksLaw" 39 ⟨"ProtectHooksModel", "fault", "(II)I"⟩,
  Cond.instanceMethod ⟨"ProtectHooksModel", "fault", "(II)I"⟩,
  Cond.selects "ProtectHooksModel" ⟨"ProtectHooksModel", "fault", "(II)I"⟩ ⟨"ProtectHooksModel", "fault", "(II)I"⟩,
  Cond.code ⟨"ProtectHooksModel", "fault", "(II)I"⟩ prog_6_method_14_code 3 (some .int),
  Cond.methodLink "ProtectHooksModel" 110 ⟨"ProtectHooksModel", "react", "(II)I"⟩,
  Cond.instanceMethod ⟨"ProtectHooksModel", "react", "(II)I"⟩,
  Cond.code ⟨"ProtectHooksModel", "react", "(II)I"⟩ prog_6_method_13_code 7 (some .int),
  Cond.methodLink "ProtectHooksModel" 100 ⟨"ProtectHooksModel", "end", "(I)V"⟩,
  Cond.instanceMethod ⟨"ProtectHooksModel", "end", "(I)V"⟩,
  Cond.code ⟨"ProtectHooksModel", "end", "(I)V"⟩ prog_6_method_11_code 3 none,
  Cond.methodLink "ProtectHooksModel" 97 ⟨"ProtectHooksModel", "shutDown", "()V"⟩,
  Cond.instanceMethod ⟨"ProtectHooksModel", "shutDown", "()V"⟩,
  Cond.code ⟨"ProtectHooksModel", "shutDown", "()V"⟩ prog_6_method_10_code 2 none,
  Cond.methodLink "ProtectHooksModel" 104 ⟨"ProtectHooksModel", "endAll", "(I)V"⟩,
  Cond.instanceMethod ⟨"ProtectHooksModel", "endAll", "(I)V"⟩,
  Cond.code ⟨"ProtectHooksModel", "endAll", "(I)V"⟩ prog_6_method_12_code 3 none,
  Cond.methodLink "ProtectHooksLaw" 52 ⟨"ProtectHooksModel", "arrival", "(IJ)I"⟩,
  Cond.instanceMethod ⟨"ProtectHooksModel", "arrival", "(IJ)I"⟩,
  Cond.selects "ProtectHooksModel" ⟨"ProtectHooksModel", "arrival", "(IJ)I"⟩ ⟨"ProtectHooksModel", "arrival", "(IJ)I"⟩,
  Cond.code ⟨"ProtectHooksModel", "arrival", "(IJ)I"⟩ prog_6_method_15_code 4 (some .int),
  Cond.methodLink "ProtectHooksLaw" 56 ⟨"ProtectHooksModel", "trusted", "(IJ)I"⟩,
  Cond.instanceMethod ⟨"ProtectHooksModel", "trusted", "(IJ)I"⟩,
  Cond.selects "ProtectHooksModel" ⟨"ProtectHooksModel", "trusted", "(IJ)I"⟩ ⟨"ProtectHooksModel", "trusted", "(IJ)I"⟩,
  Cond.code ⟨"ProtectHooksModel", "trusted", "(IJ)I"⟩ prog_6_method_17_code 4 (some .int),
  Cond.methodLink "ProtectHooksModel" 114 ⟨"ProtectHooksModel", "inside", "(IJ)Z"⟩,
  Cond.instanceMethod ⟨"ProtectHooksModel", "inside", "(IJ)Z"⟩,
  Cond.code ⟨"ProtectHooksModel", "inside", "(IJ)Z"⟩ prog_6_method_16_code 7 (some .boolean),
  Cond.methodLink "ProtectHooksLaw" 60 ⟨"ProtectHooksModel", "access", "(IJ)I"⟩,
  Cond.instanceMethod ⟨"ProtectHooksModel", "access", "(IJ)I"⟩,
  Cond.selects "ProtectHooksModel" ⟨"ProtectHooksModel", "access", "(IJ)I"⟩ ⟨"ProtectHooksModel", "access", "(IJ)I"⟩,
  Cond.code ⟨"ProtectHooksModel", "access", "(IJ)I"⟩ prog_6_method_18_code 4 (some .int),
  Cond.methodLink "ProtectHooksLaw" 64 ⟨"ProtectHooksModel", "state", "(I)I"⟩,
  Cond.instanceMethod ⟨"ProtectHooksModel", "state", "(I)I"⟩,
  Cond.selects "ProtectHooksModel" ⟨"ProtectHooksModel", "state", "(I)I"⟩ ⟨"ProtectHooksModel", "state", "(I)I"⟩,
  Cond.code ⟨"ProtectHooksModel", "state", "(I)I"⟩ prog_6_method_19_code 2 (some .int),
  Cond.methodLink "ProtectHooksLaw" 43 ⟨"ProtectHooksModel", "cleaned", "(II)I"⟩,
  Cond.instanceMethod ⟨"ProtectHooksModel", "cleaned", "(II)I"⟩,
  Cond.selects "ProtectHooksModel" ⟨"ProtectHooksModel", "cleaned", "(II)I"⟩ ⟨"ProtectHooksModel", "cleaned", "(II)I"⟩,
  Cond.code ⟨"ProtectHooksModel", "cleaned", "(II)I"⟩ prog_6_method_20_code 3 (some .int),
  Cond.methodLink "ProtectHooksLaw" 68 ⟨"ProtectHooksModel", "log", "(II)I"⟩,
  Cond.instanceMethod ⟨"ProtectHooksModel", "log", "(II)I"⟩,
  Cond.selects "ProtectHooksModel" ⟨"ProtectHooksModel", "log", "(II)I"⟩ ⟨"ProtectHooksModel", "log", "(II)I"⟩,
  Cond.code ⟨"ProtectHooksModel", "log", "(II)I"⟩ prog_6_method_21_code 3 (some .int),
  Cond.constantLong "ProtectHooksLaw" 18 4294967295]
def wA : List Cond := (wA_0 ++ (wA_1 ++ (wA_2 ++ (wA_3 ++ (wA_4 ++ wA_5)))))
set_option maxRecDepth 100000 in
theorem wA_good_0 : GoodIn lw_tbl wA_0 := goodIn_p wA_0 [30, 33, 42] (by decide +kernel) (by decide +kernel)
set_option maxRecDepth 100000 in
theorem wA_good_1 : GoodIn lw_tbl wA_1 := goodIn_p wA_1 [93, 97, 121, 125, 130] (by decide +kernel) (by decide +kernel)
set_option maxRecDepth 100000 in
theorem wA_good_2 : GoodIn lw_tbl wA_2 := goodIn_p wA_2 [165, 170, 174, 178, 182, 186, 190, 194, 198, 202, 206, 210, 214, 218, 222] (by decide +kernel) (by decide +kernel)
set_option maxRecDepth 100000 in
theorem wA_good_3 : GoodIn lw_tbl wA_3 := goodIn_p wA_3 [227, 231, 235, 239, 243, 247, 251, 255, 259, 263, 267, 271, 276] (by decide +kernel) (by decide +kernel)
set_option maxRecDepth 100000 in
theorem wA_good_4 : GoodIn lw_tbl wA_4 := goodIn_p wA_4 [357, 361, 365, 370] (by decide +kernel) (by decide +kernel)
set_option maxRecDepth 100000 in
theorem wA_good_5 : GoodIn lw_tbl wA_5 := goodIn_p wA_5 [375, 379, 383, 387, 391, 395, 399, 403, 407, 411, 415, 419, 423, 427, 431] (by decide +kernel) (by decide +kernel)
theorem goodIn_app {big a b : List Cond} (ha : GoodIn big a) (hb : GoodIn big b) : GoodIn big (a ++ b) := fun w h => (List.mem_append.mp h).elim (ha w) (hb w)
theorem wA_good : GoodIn lw_tbl wA := (goodIn_app wA_good_0 (goodIn_app wA_good_1 (goodIn_app wA_good_2 (goodIn_app wA_good_3 (goodIn_app wA_good_4 wA_good_5)))))
theorem wA_in : ∀ w ∈ wA, w ∈ lw_tbl := fun w h => (wA_good w h).1
theorem wA_gw : ∀ w ∈ wA, (w.onTables && w.keeps) = true ∨ ∃ ty, w = .arrayClass ty := fun w h => (wA_good w h).2
theorem wA_g {y : MethodName} {b : ByteArray} {n : Nat} {r : Option FieldType} (h : Cond.code y b n r ∈ wA) : GoodIn wA (Cond.code y b n r :: wA) := fun w hw => (List.mem_cons.mp hw).elim (fun e => by subst e; exact ⟨h, wA_gw _ h⟩) (fun h => ⟨h, wA_gw _ h⟩)
theorem wA_v {own C : String} {i : Nat} {y : MethodName} {b : ByteArray} {n : Nat} {r : Option FieldType} (h1 : Cond.methodLink own i y ∈ wA) (h2 : Cond.instanceMethod y ∈ wA) (h3 : Cond.selects C y y ∈ wA) (h4 : Cond.initialized C ∈ wA) (h5 : Cond.code y b n r ∈ wA) : GoodIn wA (wsV own i C y (Cond.code y b n r :: wA)) := by
  intro w hw
  unfold wsV at hw
  rcases List.mem_append.mp hw with hw | hw
  · have hm : w ∈ wA := by
      simp only [List.mem_cons, List.not_mem_nil, or_false] at hw
      rcases hw with rfl | rfl | rfl | rfl
      · exact h1
      · exact h2
      · exact h3
      · exact h4
    exact ⟨hm, wA_gw _ hm⟩
  · exact wA_g h5 w hw
set_option maxRecDepth 100000 in
theorem i_A : ∀ w ∈ u_ws R_A F_A 5, w ∈ wA := by decide +kernel
set_option maxRecDepth 100000 in
theorem i_B : ∀ w ∈ u_ws R_B F_B 3, w ∈ wA := by decide +kernel
set_option maxRecDepth 100000 in
theorem i_T : ∀ w ∈ u_ws R_T F_T 8, w ∈ wA := by decide +kernel
set_option maxRecDepth 100000 in
theorem i_P : ∀ w ∈ u_ws R_P F_P 11, w ∈ wA := by decide +kernel
set_option maxRecDepth 100000 in
theorem i_M : ∀ w ∈ u_ws R_M F_M 25, w ∈ wA := by decide +kernel
abbrev classes : List vw_C := [(R_A, F_A, 5), (R_B, F_B, 3), (R_T, F_T, 8), (R_P, F_P, 11), (R_M, F_M, 25)]
/-- the array classes: int, long, boolean, Application, Task -/
abbrev tysA (ct : Nat → ClassId) : List (ClassId × FieldType) := [(ct 0, .int), (ct 1, .long), (ct 2, .boolean), (ct 3, .object R_A), (ct 4, .object R_T)]
