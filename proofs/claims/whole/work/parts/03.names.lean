def R_Q : String := "QueuedFronts"
def R_Pl : String := "QueuedFronts$Place"
def R_Pa : String := "QueuedFronts$Part"
def R_Co : String := "QueuedFronts$Condition"
def R_F : String := "QueuedFronts$Flow"
def R_M : String := "QueuedFronts$Machine"
def R_X : String := "QueuedFrontsModel"
def R_L : String := "QueuedFrontsLaw"
def R_Ki : String := "QueuedFronts$Kind"
def T_Q : u_T := fun k => match k with
  | 0 => ("QueuedFronts", "codeWords", "[I", true)
  | 1 => ("QueuedFronts", "counts", "[I", true)
  | 2 => ("QueuedFronts", "now", "LQueuedFronts$Machine;", true)
  | 3 => ("QueuedFronts", "remembered", "LQueuedFronts$Machine;", true)
  | _ => ("QueuedFronts", "remembers", "Z", false)
def ty_Q : Nat → FieldType := fun k => match k with
  | 0 => .array .int
  | 1 => .array .int
  | 2 => .object "QueuedFronts$Machine"
  | 3 => .object "QueuedFronts$Machine"
  | _ => .boolean
theorem nm_Q : ∀ a, a < 5 → ∀ b, b < 5 → a ≠ b → (T_Q a).2.1 ≠ (T_Q b).2.1 := by decide +kernel
theorem tyok_Q : ∀ k, k < 5 → parseFieldDescriptor (T_Q k).2.2.1 = some (ty_Q k) := by decide +kernel
theorem in0_Q : ∀ w ∈ u_ws R_Q T_Q 5, w ∈ lw_tbl := by decide +kernel
theorem in_Q : ∀ w ∈ u_ws R_Q T_Q 5, w ∈ qx_T := fun w h => qx_in (in0_Q w h) (List.all_eq_true.mp (show (u_ws R_Q T_Q 5).all goodWord = true by decide +kernel) w h)
def T_M : u_T := fun k => match k with
  | 0 => ("QueuedFronts$Machine", "registers", "[I", true)
  | 1 => ("QueuedFronts$Machine", "spaceRegisters", "[I", true)
  | 2 => ("QueuedFronts$Machine", "dataWords", "[I", true)
  | 3 => ("QueuedFronts$Machine", "flow", "LQueuedFronts$Flow;", true)
  | 4 => ("QueuedFronts$Machine", "saved", "LQueuedFronts$Flow;", true)
  | 5 => ("QueuedFronts$Machine", "savedCause", "I", false)
  | _ => ("QueuedFronts$Machine", "pending", "I", false)
def ty_M : Nat → FieldType := fun k => match k with
  | 0 => .array .int
  | 1 => .array .int
  | 2 => .array .int
  | 3 => .object "QueuedFronts$Flow"
  | 4 => .object "QueuedFronts$Flow"
  | 5 => .int
  | _ => .int
theorem nm_M : ∀ a, a < 7 → ∀ b, b < 7 → a ≠ b → (T_M a).2.1 ≠ (T_M b).2.1 := by decide +kernel
theorem tyok_M : ∀ k, k < 7 → parseFieldDescriptor (T_M k).2.2.1 = some (ty_M k) := by decide +kernel
theorem in0_M : ∀ w ∈ u_ws R_M T_M 7, w ∈ lw_tbl := by decide +kernel
theorem in_M : ∀ w ∈ u_ws R_M T_M 7, w ∈ qx_T := fun w h => qx_in (in0_M w h) (List.all_eq_true.mp (show (u_ws R_M T_M 7).all goodWord = true by decide +kernel) w h)
def T_F : u_T := fun k => match k with
  | 0 => ("QueuedFronts$Flow", "front", "I", false)
  | 1 => ("QueuedFronts$Flow", "back", "I", false)
  | 2 => ("QueuedFronts$Flow", "nullify", "I", false)
  | _ => ("QueuedFronts$Flow", "lets", "I", false)
def ty_F : Nat → FieldType := fun k => match k with
  | 0 => .int
  | 1 => .int
  | 2 => .int
  | _ => .int
theorem nm_F : ∀ a, a < 4 → ∀ b, b < 4 → a ≠ b → (T_F a).2.1 ≠ (T_F b).2.1 := by decide +kernel
theorem tyok_F : ∀ k, k < 4 → parseFieldDescriptor (T_F k).2.2.1 = some (ty_F k) := by decide +kernel
theorem in0_F : ∀ w ∈ u_ws R_F T_F 4, w ∈ lw_tbl := by decide +kernel
theorem in_F : ∀ w ∈ u_ws R_F T_F 4, w ∈ qx_T := fun w h => qx_in (in0_F w h) (List.all_eq_true.mp (show (u_ws R_F T_F 4).all goodWord = true by decide +kernel) w h)
def T_X : u_T := fun k => match k with
  | 0 => ("QueuedFrontsModel", "now", "[I", true)
  | 1 => ("QueuedFrontsModel", "then", "[I", true)
  | 2 => ("QueuedFrontsModel", "marked", "Z", false)
  | 3 => ("QueuedFrontsModel", "code", "[I", true)
  | 4 => ("QueuedFrontsModel", "counts", "[I", true)
  | 5 => ("QueuedFrontsModel", "nullifies", "Z", false)
  | 6 => ("QueuedFrontsModel", "target", "I", false)
  | _ => ("QueuedFrontsModel", "stays", "Z", false)
def ty_X : Nat → FieldType := fun k => match k with
  | 0 => .array .int
  | 1 => .array .int
  | 2 => .boolean
  | 3 => .array .int
  | 4 => .array .int
  | 5 => .boolean
  | 6 => .int
  | _ => .boolean
theorem nm_X : ∀ a, a < 8 → ∀ b, b < 8 → a ≠ b → (T_X a).2.1 ≠ (T_X b).2.1 := by decide +kernel
theorem tyok_X : ∀ k, k < 8 → parseFieldDescriptor (T_X k).2.2.1 = some (ty_X k) := by decide +kernel
theorem in0_X : ∀ w ∈ u_ws R_X T_X 8, w ∈ lw_tbl := by decide +kernel
theorem in_X : ∀ w ∈ u_ws R_X T_X 8, w ∈ qx_T := fun w h => qx_in (in0_X w h) (List.all_eq_true.mp (show (u_ws R_X T_X 8).all goodWord = true by decide +kernel) w h)
abbrev vwCl : List vw_C := [(R_Q, T_Q, 5), (R_M, T_M, 7), (R_F, T_F, 4), (R_X, T_X, 8)]
abbrev b_Q_init : ByteArray := prog_1_method_1_code
def y_Q_init : MethodName := ⟨R_Q, "<init>", "()V"⟩
theorem cd_Q_init : y_Q_init.cls ≠ "java/lang/invoke/MethodHandle" ∧ y_Q_init.cls ≠ "java/lang/invoke/VarHandle" ∧ (parseMethodDescriptor y_Q_init.desc).map (fun d => d.parameters.length) = some 0 := by decide +kernel
abbrev b_Q_code : ByteArray := prog_1_method_2_code
def y_Q_code : MethodName := ⟨R_Q, "code", "(III)Z"⟩
theorem cd_Q_code : y_Q_code.cls ≠ "java/lang/invoke/MethodHandle" ∧ y_Q_code.cls ≠ "java/lang/invoke/VarHandle" ∧ (parseMethodDescriptor y_Q_code.desc).map (fun d => d.parameters.length) = some 3 := by decide +kernel
abbrev b_Q_data : ByteArray := prog_1_method_3_code
def y_Q_data : MethodName := ⟨R_Q, "data", "(III)Z"⟩
theorem cd_Q_data : y_Q_data.cls ≠ "java/lang/invoke/MethodHandle" ∧ y_Q_data.cls ≠ "java/lang/invoke/VarHandle" ∧ (parseMethodDescriptor y_Q_data.desc).map (fun d => d.parameters.length) = some 3 := by decide +kernel
abbrev b_Q_set : ByteArray := prog_1_method_4_code
def y_Q_set : MethodName := ⟨R_Q, "set", "(II)Z"⟩
theorem cd_Q_set : y_Q_set.cls ≠ "java/lang/invoke/MethodHandle" ∧ y_Q_set.cls ≠ "java/lang/invoke/VarHandle" ∧ (parseMethodDescriptor y_Q_set.desc).map (fun d => d.parameters.length) = some 2 := by decide +kernel
abbrev b_Q_setSpace : ByteArray := prog_1_method_5_code
def y_Q_setSpace : MethodName := ⟨R_Q, "setSpace", "(II)Z"⟩
theorem cd_Q_setSpace : y_Q_setSpace.cls ≠ "java/lang/invoke/MethodHandle" ∧ y_Q_setSpace.cls ≠ "java/lang/invoke/VarHandle" ∧ (parseMethodDescriptor y_Q_setSpace.desc).map (fun d => d.parameters.length) = some 2 := by decide +kernel
abbrev b_Q_go : ByteArray := prog_1_method_6_code
def y_Q_go : MethodName := ⟨R_Q, "go", "(IIZ)Z"⟩
theorem cd_Q_go : y_Q_go.cls ≠ "java/lang/invoke/MethodHandle" ∧ y_Q_go.cls ≠ "java/lang/invoke/VarHandle" ∧ (parseMethodDescriptor y_Q_go.desc).map (fun d => d.parameters.length) = some 3 := by decide +kernel
abbrev b_Q_interrupt : ByteArray := prog_1_method_7_code
def y_Q_interrupt : MethodName := ⟨R_Q, "interrupt", "()Z"⟩
theorem cd_Q_interrupt : y_Q_interrupt.cls ≠ "java/lang/invoke/MethodHandle" ∧ y_Q_interrupt.cls ≠ "java/lang/invoke/VarHandle" ∧ (parseMethodDescriptor y_Q_interrupt.desc).map (fun d => d.parameters.length) = some 0 := by decide +kernel
abbrev b_Q_run : ByteArray := prog_1_method_8_code
def y_Q_run : MethodName := ⟨R_Q, "run", "(I)I"⟩
theorem cd_Q_run : y_Q_run.cls ≠ "java/lang/invoke/MethodHandle" ∧ y_Q_run.cls ≠ "java/lang/invoke/VarHandle" ∧ (parseMethodDescriptor y_Q_run.desc).map (fun d => d.parameters.length) = some 1 := by decide +kernel
abbrev b_Q_state : ByteArray := prog_1_method_9_code
def y_Q_state : MethodName := ⟨R_Q, "state", "(I)I"⟩
theorem cd_Q_state : y_Q_state.cls ≠ "java/lang/invoke/MethodHandle" ∧ y_Q_state.cls ≠ "java/lang/invoke/VarHandle" ∧ (parseMethodDescriptor y_Q_state.desc).map (fun d => d.parameters.length) = some 1 := by decide +kernel
abbrev b_Q_register : ByteArray := prog_1_method_10_code
def y_Q_register : MethodName := ⟨R_Q, "register", "(I)I"⟩
theorem cd_Q_register : y_Q_register.cls ≠ "java/lang/invoke/MethodHandle" ∧ y_Q_register.cls ≠ "java/lang/invoke/VarHandle" ∧ (parseMethodDescriptor y_Q_register.desc).map (fun d => d.parameters.length) = some 1 := by decide +kernel
abbrev b_Q_space : ByteArray := prog_1_method_11_code
def y_Q_space : MethodName := ⟨R_Q, "space", "(I)I"⟩
theorem cd_Q_space : y_Q_space.cls ≠ "java/lang/invoke/MethodHandle" ∧ y_Q_space.cls ≠ "java/lang/invoke/VarHandle" ∧ (parseMethodDescriptor y_Q_space.desc).map (fun d => d.parameters.length) = some 1 := by decide +kernel
abbrev b_Q_word : ByteArray := prog_1_method_12_code
def y_Q_word : MethodName := ⟨R_Q, "word", "(II)I"⟩
theorem cd_Q_word : y_Q_word.cls ≠ "java/lang/invoke/MethodHandle" ∧ y_Q_word.cls ≠ "java/lang/invoke/VarHandle" ∧ (parseMethodDescriptor y_Q_word.desc).map (fun d => d.parameters.length) = some 2 := by decide +kernel
abbrev b_Q_peek : ByteArray := prog_1_method_13_code
def y_Q_peek : MethodName := ⟨R_Q, "peek", "(II)I"⟩
theorem cd_Q_peek : y_Q_peek.cls ≠ "java/lang/invoke/MethodHandle" ∧ y_Q_peek.cls ≠ "java/lang/invoke/VarHandle" ∧ (parseMethodDescriptor y_Q_peek.desc).map (fun d => d.parameters.length) = some 2 := by decide +kernel
abbrev b_Q_count : ByteArray := prog_1_method_14_code
def y_Q_count : MethodName := ⟨R_Q, "count", "(I)I"⟩
theorem cd_Q_count : y_Q_count.cls ≠ "java/lang/invoke/MethodHandle" ∧ y_Q_count.cls ≠ "java/lang/invoke/VarHandle" ∧ (parseMethodDescriptor y_Q_count.desc).map (fun d => d.parameters.length) = some 1 := by decide +kernel
abbrev b_Q_mark : ByteArray := prog_1_method_15_code
def y_Q_mark : MethodName := ⟨R_Q, "mark", "()V"⟩
theorem cd_Q_mark : y_Q_mark.cls ≠ "java/lang/invoke/MethodHandle" ∧ y_Q_mark.cls ≠ "java/lang/invoke/VarHandle" ∧ (parseMethodDescriptor y_Q_mark.desc).map (fun d => d.parameters.length) = some 0 := by decide +kernel
abbrev b_Q_back : ByteArray := prog_1_method_16_code
def y_Q_back : MethodName := ⟨R_Q, "back", "()Z"⟩
theorem cd_Q_back : y_Q_back.cls ≠ "java/lang/invoke/MethodHandle" ∧ y_Q_back.cls ≠ "java/lang/invoke/VarHandle" ∧ (parseMethodDescriptor y_Q_back.desc).map (fun d => d.parameters.length) = some 0 := by decide +kernel
abbrev b_Q_step : ByteArray := prog_1_method_17_code
def y_Q_step : MethodName := ⟨R_Q, "step", "()I"⟩
theorem cd_Q_step : y_Q_step.cls ≠ "java/lang/invoke/MethodHandle" ∧ y_Q_step.cls ≠ "java/lang/invoke/VarHandle" ∧ (parseMethodDescriptor y_Q_step.desc).map (fun d => d.parameters.length) = some 0 := by decide +kernel
abbrev b_Q_trap : ByteArray := prog_1_method_18_code
def y_Q_trap : MethodName := ⟨R_Q, "trap", "(I)I"⟩
theorem cd_Q_trap : y_Q_trap.cls ≠ "java/lang/invoke/MethodHandle" ∧ y_Q_trap.cls ≠ "java/lang/invoke/VarHandle" ∧ (parseMethodDescriptor y_Q_trap.desc).map (fun d => d.parameters.length) = some 1 := by decide +kernel
abbrev b_Q_isSpace : ByteArray := prog_1_method_19_code
def y_Q_isSpace : MethodName := ⟨R_Q, "isSpace", "(I)Z"⟩
theorem cd_Q_isSpace : y_Q_isSpace.cls ≠ "java/lang/invoke/MethodHandle" ∧ y_Q_isSpace.cls ≠ "java/lang/invoke/VarHandle" ∧ (parseMethodDescriptor y_Q_isSpace.desc).map (fun d => d.parameters.length) = some 1 := by decide +kernel
abbrev b_Q_isPlace : ByteArray := prog_1_method_20_code
def y_Q_isPlace : MethodName := ⟨R_Q, "isPlace", "(II)Z"⟩
theorem cd_Q_isPlace : y_Q_isPlace.cls ≠ "java/lang/invoke/MethodHandle" ∧ y_Q_isPlace.cls ≠ "java/lang/invoke/VarHandle" ∧ (parseMethodDescriptor y_Q_isPlace.desc).map (fun d => d.parameters.length) = some 2 := by decide +kernel
abbrev b_Q_isDataOffset : ByteArray := prog_1_method_21_code
def y_Q_isDataOffset : MethodName := ⟨R_Q, "isDataOffset", "(I)Z"⟩
theorem cd_Q_isDataOffset : y_Q_isDataOffset.cls ≠ "java/lang/invoke/MethodHandle" ∧ y_Q_isDataOffset.cls ≠ "java/lang/invoke/VarHandle" ∧ (parseMethodDescriptor y_Q_isDataOffset.desc).map (fun d => d.parameters.length) = some 1 := by decide +kernel
abbrev b_Q_isRegister : ByteArray := prog_1_method_22_code
def y_Q_isRegister : MethodName := ⟨R_Q, "isRegister", "(I)Z"⟩
theorem cd_Q_isRegister : y_Q_isRegister.cls ≠ "java/lang/invoke/MethodHandle" ∧ y_Q_isRegister.cls ≠ "java/lang/invoke/VarHandle" ∧ (parseMethodDescriptor y_Q_isRegister.desc).map (fun d => d.parameters.length) = some 1 := by decide +kernel
abbrev b_Q_isSpaceRegister : ByteArray := prog_1_method_23_code
def y_Q_isSpaceRegister : MethodName := ⟨R_Q, "isSpaceRegister", "(I)Z"⟩
theorem cd_Q_isSpaceRegister : y_Q_isSpaceRegister.cls ≠ "java/lang/invoke/MethodHandle" ∧ y_Q_isSpaceRegister.cls ≠ "java/lang/invoke/VarHandle" ∧ (parseMethodDescriptor y_Q_isSpaceRegister.desc).map (fun d => d.parameters.length) = some 1 := by decide +kernel
abbrev b_Q_dataIndex : ByteArray := prog_1_method_24_code
def y_Q_dataIndex : MethodName := ⟨R_Q, "dataIndex", "(II)I"⟩
theorem cd_Q_dataIndex : y_Q_dataIndex.cls ≠ "java/lang/invoke/MethodHandle" ∧ y_Q_dataIndex.cls ≠ "java/lang/invoke/VarHandle" ∧ (parseMethodDescriptor y_Q_dataIndex.desc).map (fun d => d.parameters.length) = some 2 := by decide +kernel
abbrev b_X_init : ByteArray := prog_9_method_1_code
def y_X_init : MethodName := ⟨R_X, "<init>", "()V"⟩
theorem cd_X_init : y_X_init.cls ≠ "java/lang/invoke/MethodHandle" ∧ y_X_init.cls ≠ "java/lang/invoke/VarHandle" ∧ (parseMethodDescriptor y_X_init.desc).map (fun d => d.parameters.length) = some 0 := by decide +kernel
abbrev b_X_isIn : ByteArray := prog_9_method_2_code
def y_X_isIn : MethodName := ⟨R_X, "isIn", "(II)Z"⟩
theorem cd_X_isIn : y_X_isIn.cls ≠ "java/lang/invoke/MethodHandle" ∧ y_X_isIn.cls ≠ "java/lang/invoke/VarHandle" ∧ (parseMethodDescriptor y_X_isIn.desc).map (fun d => d.parameters.length) = some 2 := by decide +kernel
abbrev b_X_place : ByteArray := prog_9_method_3_code
def y_X_place : MethodName := ⟨R_X, "place", "(II)I"⟩
theorem cd_X_place : y_X_place.cls ≠ "java/lang/invoke/MethodHandle" ∧ y_X_place.cls ≠ "java/lang/invoke/VarHandle" ∧ (parseMethodDescriptor y_X_place.desc).map (fun d => d.parameters.length) = some 2 := by decide +kernel
abbrev b_X_behind : ByteArray := prog_9_method_4_code
def y_X_behind : MethodName := ⟨R_X, "behind", "(I)I"⟩
theorem cd_X_behind : y_X_behind.cls ≠ "java/lang/invoke/MethodHandle" ∧ y_X_behind.cls ≠ "java/lang/invoke/VarHandle" ∧ (parseMethodDescriptor y_X_behind.desc).map (fun d => d.parameters.length) = some 1 := by decide +kernel
abbrev b_X_code : ByteArray := prog_9_method_5_code
def y_X_code : MethodName := ⟨R_X, "code", "(III)Z"⟩
theorem cd_X_code : y_X_code.cls ≠ "java/lang/invoke/MethodHandle" ∧ y_X_code.cls ≠ "java/lang/invoke/VarHandle" ∧ (parseMethodDescriptor y_X_code.desc).map (fun d => d.parameters.length) = some 3 := by decide +kernel
abbrev b_X_data : ByteArray := prog_9_method_6_code
def y_X_data : MethodName := ⟨R_X, "data", "(III)Z"⟩
theorem cd_X_data : y_X_data.cls ≠ "java/lang/invoke/MethodHandle" ∧ y_X_data.cls ≠ "java/lang/invoke/VarHandle" ∧ (parseMethodDescriptor y_X_data.desc).map (fun d => d.parameters.length) = some 3 := by decide +kernel
abbrev b_X_set : ByteArray := prog_9_method_7_code
def y_X_set : MethodName := ⟨R_X, "set", "(II)Z"⟩
theorem cd_X_set : y_X_set.cls ≠ "java/lang/invoke/MethodHandle" ∧ y_X_set.cls ≠ "java/lang/invoke/VarHandle" ∧ (parseMethodDescriptor y_X_set.desc).map (fun d => d.parameters.length) = some 2 := by decide +kernel
abbrev b_X_setSpace : ByteArray := prog_9_method_8_code
def y_X_setSpace : MethodName := ⟨R_X, "setSpace", "(II)Z"⟩
theorem cd_X_setSpace : y_X_setSpace.cls ≠ "java/lang/invoke/MethodHandle" ∧ y_X_setSpace.cls ≠ "java/lang/invoke/VarHandle" ∧ (parseMethodDescriptor y_X_setSpace.desc).map (fun d => d.parameters.length) = some 2 := by decide +kernel
abbrev b_X_go : ByteArray := prog_9_method_9_code
def y_X_go : MethodName := ⟨R_X, "go", "(IIZ)Z"⟩
theorem cd_X_go : y_X_go.cls ≠ "java/lang/invoke/MethodHandle" ∧ y_X_go.cls ≠ "java/lang/invoke/VarHandle" ∧ (parseMethodDescriptor y_X_go.desc).map (fun d => d.parameters.length) = some 3 := by decide +kernel
abbrev b_X_interrupt : ByteArray := prog_9_method_10_code
def y_X_interrupt : MethodName := ⟨R_X, "interrupt", "()Z"⟩
theorem cd_X_interrupt : y_X_interrupt.cls ≠ "java/lang/invoke/MethodHandle" ∧ y_X_interrupt.cls ≠ "java/lang/invoke/VarHandle" ∧ (parseMethodDescriptor y_X_interrupt.desc).map (fun d => d.parameters.length) = some 0 := by decide +kernel
abbrev b_X_trap : ByteArray := prog_9_method_11_code
def y_X_trap : MethodName := ⟨R_X, "trap", "(I)V"⟩
theorem cd_X_trap : y_X_trap.cls ≠ "java/lang/invoke/MethodHandle" ∧ y_X_trap.cls ≠ "java/lang/invoke/VarHandle" ∧ (parseMethodDescriptor y_X_trap.desc).map (fun d => d.parameters.length) = some 1 := by decide +kernel
abbrev b_X_moveOn : ByteArray := prog_9_method_12_code
def y_X_moveOn : MethodName := ⟨R_X, "moveOn", "(I)V"⟩
theorem cd_X_moveOn : y_X_moveOn.cls ≠ "java/lang/invoke/MethodHandle" ∧ y_X_moveOn.cls ≠ "java/lang/invoke/VarHandle" ∧ (parseMethodDescriptor y_X_moveOn.desc).map (fun d => d.parameters.length) = some 1 := by decide +kernel
abbrev b_X_write : ByteArray := prog_9_method_13_code
def y_X_write : MethodName := ⟨R_X, "write", "(II)V"⟩
theorem cd_X_write : y_X_write.cls ≠ "java/lang/invoke/MethodHandle" ∧ y_X_write.cls ≠ "java/lang/invoke/VarHandle" ∧ (parseMethodDescriptor y_X_write.desc).map (fun d => d.parameters.length) = some 2 := by decide +kernel
abbrev b_X_holds : ByteArray := prog_9_method_14_code
def y_X_holds : MethodName := ⟨R_X, "holds", "(III)Z"⟩
theorem cd_X_holds : y_X_holds.cls ≠ "java/lang/invoke/MethodHandle" ∧ y_X_holds.cls ≠ "java/lang/invoke/VarHandle" ∧ (parseMethodDescriptor y_X_holds.desc).map (fun d => d.parameters.length) = some 3 := by decide +kernel
abbrev b_X_reckon : ByteArray := prog_9_method_15_code
def y_X_reckon : MethodName := ⟨R_X, "reckon", "(IIIII)I"⟩
theorem cd_X_reckon : y_X_reckon.cls ≠ "java/lang/invoke/MethodHandle" ∧ y_X_reckon.cls ≠ "java/lang/invoke/VarHandle" ∧ (parseMethodDescriptor y_X_reckon.desc).map (fun d => d.parameters.length) = some 5 := by decide +kernel
abbrev b_X_touch : ByteArray := prog_9_method_16_code
def y_X_touch : MethodName := ⟨R_X, "touch", "(IIII)I"⟩
theorem cd_X_touch : y_X_touch.cls ≠ "java/lang/invoke/MethodHandle" ∧ y_X_touch.cls ≠ "java/lang/invoke/VarHandle" ∧ (parseMethodDescriptor y_X_touch.desc).map (fun d => d.parameters.length) = some 4 := by decide +kernel
abbrev b_X_branch : ByteArray := prog_9_method_17_code
def y_X_branch : MethodName := ⟨R_X, "branch", "(IIIII)I"⟩
theorem cd_X_branch : y_X_branch.cls ≠ "java/lang/invoke/MethodHandle" ∧ y_X_branch.cls ≠ "java/lang/invoke/VarHandle" ∧ (parseMethodDescriptor y_X_branch.desc).map (fun d => d.parameters.length) = some 5 := by decide +kernel
abbrev b_X_saved : ByteArray := prog_9_method_18_code
def y_X_saved : MethodName := ⟨R_X, "saved", "(I)I"⟩
theorem cd_X_saved : y_X_saved.cls ≠ "java/lang/invoke/MethodHandle" ∧ y_X_saved.cls ≠ "java/lang/invoke/VarHandle" ∧ (parseMethodDescriptor y_X_saved.desc).map (fun d => d.parameters.length) = some 1 := by decide +kernel
abbrev b_X_save : ByteArray := prog_9_method_19_code
def y_X_save : MethodName := ⟨R_X, "save", "(II)V"⟩
theorem cd_X_save : y_X_save.cls ≠ "java/lang/invoke/MethodHandle" ∧ y_X_save.cls ≠ "java/lang/invoke/VarHandle" ∧ (parseMethodDescriptor y_X_save.desc).map (fun d => d.parameters.length) = some 2 := by decide +kernel
abbrev b_X_comeBack : ByteArray := prog_9_method_20_code
def y_X_comeBack : MethodName := ⟨R_X, "comeBack", "()V"⟩
theorem cd_X_comeBack : y_X_comeBack.cls ≠ "java/lang/invoke/MethodHandle" ∧ y_X_comeBack.cls ≠ "java/lang/invoke/VarHandle" ∧ (parseMethodDescriptor y_X_comeBack.desc).map (fun d => d.parameters.length) = some 0 := by decide +kernel
abbrev b_X_manage : ByteArray := prog_9_method_21_code
def y_X_manage : MethodName := ⟨R_X, "manage", "(IIII)I"⟩
theorem cd_X_manage : y_X_manage.cls ≠ "java/lang/invoke/MethodHandle" ∧ y_X_manage.cls ≠ "java/lang/invoke/VarHandle" ∧ (parseMethodDescriptor y_X_manage.desc).map (fun d => d.parameters.length) = some 4 := by decide +kernel
abbrev b_X_instruct : ByteArray := prog_9_method_22_code
def y_X_instruct : MethodName := ⟨R_X, "instruct", "()V"⟩
theorem cd_X_instruct : y_X_instruct.cls ≠ "java/lang/invoke/MethodHandle" ∧ y_X_instruct.cls ≠ "java/lang/invoke/VarHandle" ∧ (parseMethodDescriptor y_X_instruct.desc).map (fun d => d.parameters.length) = some 0 := by decide +kernel
abbrev b_X_step : ByteArray := prog_9_method_23_code
def y_X_step : MethodName := ⟨R_X, "step", "()V"⟩
theorem cd_X_step : y_X_step.cls ≠ "java/lang/invoke/MethodHandle" ∧ y_X_step.cls ≠ "java/lang/invoke/VarHandle" ∧ (parseMethodDescriptor y_X_step.desc).map (fun d => d.parameters.length) = some 0 := by decide +kernel
abbrev b_X_traps : ByteArray := prog_9_method_24_code
def y_X_traps : MethodName := ⟨R_X, "traps", "()I"⟩
theorem cd_X_traps : y_X_traps.cls ≠ "java/lang/invoke/MethodHandle" ∧ y_X_traps.cls ≠ "java/lang/invoke/VarHandle" ∧ (parseMethodDescriptor y_X_traps.desc).map (fun d => d.parameters.length) = some 0 := by decide +kernel
abbrev b_X_run : ByteArray := prog_9_method_25_code
def y_X_run : MethodName := ⟨R_X, "run", "(I)I"⟩
theorem cd_X_run : y_X_run.cls ≠ "java/lang/invoke/MethodHandle" ∧ y_X_run.cls ≠ "java/lang/invoke/VarHandle" ∧ (parseMethodDescriptor y_X_run.desc).map (fun d => d.parameters.length) = some 1 := by decide +kernel
abbrev b_X_state : ByteArray := prog_9_method_26_code
def y_X_state : MethodName := ⟨R_X, "state", "(I)I"⟩
theorem cd_X_state : y_X_state.cls ≠ "java/lang/invoke/MethodHandle" ∧ y_X_state.cls ≠ "java/lang/invoke/VarHandle" ∧ (parseMethodDescriptor y_X_state.desc).map (fun d => d.parameters.length) = some 1 := by decide +kernel
abbrev b_X_register : ByteArray := prog_9_method_27_code
def y_X_register : MethodName := ⟨R_X, "register", "(I)I"⟩
theorem cd_X_register : y_X_register.cls ≠ "java/lang/invoke/MethodHandle" ∧ y_X_register.cls ≠ "java/lang/invoke/VarHandle" ∧ (parseMethodDescriptor y_X_register.desc).map (fun d => d.parameters.length) = some 1 := by decide +kernel
abbrev b_X_space : ByteArray := prog_9_method_28_code
def y_X_space : MethodName := ⟨R_X, "space", "(I)I"⟩
theorem cd_X_space : y_X_space.cls ≠ "java/lang/invoke/MethodHandle" ∧ y_X_space.cls ≠ "java/lang/invoke/VarHandle" ∧ (parseMethodDescriptor y_X_space.desc).map (fun d => d.parameters.length) = some 1 := by decide +kernel
abbrev b_X_word : ByteArray := prog_9_method_29_code
def y_X_word : MethodName := ⟨R_X, "word", "(II)I"⟩
theorem cd_X_word : y_X_word.cls ≠ "java/lang/invoke/MethodHandle" ∧ y_X_word.cls ≠ "java/lang/invoke/VarHandle" ∧ (parseMethodDescriptor y_X_word.desc).map (fun d => d.parameters.length) = some 2 := by decide +kernel
abbrev b_X_peek : ByteArray := prog_9_method_30_code
def y_X_peek : MethodName := ⟨R_X, "peek", "(II)I"⟩
theorem cd_X_peek : y_X_peek.cls ≠ "java/lang/invoke/MethodHandle" ∧ y_X_peek.cls ≠ "java/lang/invoke/VarHandle" ∧ (parseMethodDescriptor y_X_peek.desc).map (fun d => d.parameters.length) = some 2 := by decide +kernel
abbrev b_X_count : ByteArray := prog_9_method_31_code
def y_X_count : MethodName := ⟨R_X, "count", "(I)I"⟩
theorem cd_X_count : y_X_count.cls ≠ "java/lang/invoke/MethodHandle" ∧ y_X_count.cls ≠ "java/lang/invoke/VarHandle" ∧ (parseMethodDescriptor y_X_count.desc).map (fun d => d.parameters.length) = some 1 := by decide +kernel
abbrev b_X_mark : ByteArray := prog_9_method_32_code
def y_X_mark : MethodName := ⟨R_X, "mark", "()V"⟩
theorem cd_X_mark : y_X_mark.cls ≠ "java/lang/invoke/MethodHandle" ∧ y_X_mark.cls ≠ "java/lang/invoke/VarHandle" ∧ (parseMethodDescriptor y_X_mark.desc).map (fun d => d.parameters.length) = some 0 := by decide +kernel
abbrev b_X_back : ByteArray := prog_9_method_33_code
def y_X_back : MethodName := ⟨R_X, "back", "()Z"⟩
theorem cd_X_back : y_X_back.cls ≠ "java/lang/invoke/MethodHandle" ∧ y_X_back.cls ≠ "java/lang/invoke/VarHandle" ∧ (parseMethodDescriptor y_X_back.desc).map (fun d => d.parameters.length) = some 0 := by decide +kernel
abbrev b_Co_holds : ByteArray := prog_2_method_2_code
def y_Co_holds : MethodName := ⟨R_Co, "holds", "(III)Z"⟩
theorem cd_Co_holds : y_Co_holds.cls ≠ "java/lang/invoke/MethodHandle" ∧ y_Co_holds.cls ≠ "java/lang/invoke/VarHandle" ∧ (parseMethodDescriptor y_Co_holds.desc).map (fun d => d.parameters.length) = some 3 := by decide +kernel
abbrev b_Co_unsigned : ByteArray := prog_2_method_3_code
def y_Co_unsigned : MethodName := ⟨R_Co, "unsigned", "(I)J"⟩
theorem cd_Co_unsigned : y_Co_unsigned.cls ≠ "java/lang/invoke/MethodHandle" ∧ y_Co_unsigned.cls ≠ "java/lang/invoke/VarHandle" ∧ (parseMethodDescriptor y_Co_unsigned.desc).map (fun d => d.parameters.length) = some 1 := by decide +kernel
abbrev b_F_init : ByteArray := prog_3_method_1_code
def y_F_init : MethodName := ⟨R_F, "<init>", "()V"⟩
theorem cd_F_init : y_F_init.cls ≠ "java/lang/invoke/MethodHandle" ∧ y_F_init.cls ≠ "java/lang/invoke/VarHandle" ∧ (parseMethodDescriptor y_F_init.desc).map (fun d => d.parameters.length) = some 0 := by decide +kernel
abbrev b_F_startAt : ByteArray := prog_3_method_2_code
def y_F_startAt : MethodName := ⟨R_F, "startAt", "(II)V"⟩
theorem cd_F_startAt : y_F_startAt.cls ≠ "java/lang/invoke/MethodHandle" ∧ y_F_startAt.cls ≠ "java/lang/invoke/VarHandle" ∧ (parseMethodDescriptor y_F_startAt.desc).map (fun d => d.parameters.length) = some 2 := by decide +kernel
abbrev b_F_moveOn : ByteArray := prog_3_method_3_code
def y_F_moveOn : MethodName := ⟨R_F, "moveOn", "(Z)V"⟩
theorem cd_F_moveOn : y_F_moveOn.cls ≠ "java/lang/invoke/MethodHandle" ∧ y_F_moveOn.cls ≠ "java/lang/invoke/VarHandle" ∧ (parseMethodDescriptor y_F_moveOn.desc).map (fun d => d.parameters.length) = some 1 := by decide +kernel
abbrev b_F_moveOnTo : ByteArray := prog_3_method_4_code
def y_F_moveOnTo : MethodName := ⟨R_F, "moveOnTo", "(IZ)V"⟩
theorem cd_F_moveOnTo : y_F_moveOnTo.cls ≠ "java/lang/invoke/MethodHandle" ∧ y_F_moveOnTo.cls ≠ "java/lang/invoke/VarHandle" ∧ (parseMethodDescriptor y_F_moveOnTo.desc).map (fun d => d.parameters.length) = some 2 := by decide +kernel
abbrev b_F_become : ByteArray := prog_3_method_5_code
def y_F_become : MethodName := ⟨R_F, "become", "(LQueuedFronts$Flow;)V"⟩
theorem cd_F_become : y_F_become.cls ≠ "java/lang/invoke/MethodHandle" ∧ y_F_become.cls ≠ "java/lang/invoke/VarHandle" ∧ (parseMethodDescriptor y_F_become.desc).map (fun d => d.parameters.length) = some 1 := by decide +kernel
abbrev b_M_init : ByteArray := prog_5_method_1_code
def y_M_init : MethodName := ⟨R_M, "<init>", "()V"⟩
theorem cd_M_init : y_M_init.cls ≠ "java/lang/invoke/MethodHandle" ∧ y_M_init.cls ≠ "java/lang/invoke/VarHandle" ∧ (parseMethodDescriptor y_M_init.desc).map (fun d => d.parameters.length) = some 0 := by decide +kernel
abbrev b_M_become : ByteArray := prog_5_method_2_code
def y_M_become : MethodName := ⟨R_M, "become", "(LQueuedFronts$Machine;)V"⟩
theorem cd_M_become : y_M_become.cls ≠ "java/lang/invoke/MethodHandle" ∧ y_M_become.cls ≠ "java/lang/invoke/VarHandle" ∧ (parseMethodDescriptor y_M_become.desc).map (fun d => d.parameters.length) = some 1 := by decide +kernel
abbrev b_M_enterTrap : ByteArray := prog_5_method_3_code
def y_M_enterTrap : MethodName := ⟨R_M, "enterTrap", "(I)V"⟩
theorem cd_M_enterTrap : y_M_enterTrap.cls ≠ "java/lang/invoke/MethodHandle" ∧ y_M_enterTrap.cls ≠ "java/lang/invoke/VarHandle" ∧ (parseMethodDescriptor y_M_enterTrap.desc).map (fun d => d.parameters.length) = some 1 := by decide +kernel
abbrev b_M_causeOf : ByteArray := prog_5_method_4_code
def y_M_causeOf : MethodName := ⟨R_M, "causeOf", "(I)I"⟩
theorem cd_M_causeOf : y_M_causeOf.cls ≠ "java/lang/invoke/MethodHandle" ∧ y_M_causeOf.cls ≠ "java/lang/invoke/VarHandle" ∧ (parseMethodDescriptor y_M_causeOf.desc).map (fun d => d.parameters.length) = some 1 := by decide +kernel
abbrev b_M_perform : ByteArray := prog_5_method_5_code
def y_M_perform : MethodName := ⟨R_M, "perform", "(I)V"⟩
theorem cd_M_perform : y_M_perform.cls ≠ "java/lang/invoke/MethodHandle" ∧ y_M_perform.cls ≠ "java/lang/invoke/VarHandle" ∧ (parseMethodDescriptor y_M_perform.desc).map (fun d => d.parameters.length) = some 1 := by decide +kernel
abbrev b_M_reckon : ByteArray := prog_5_method_6_code
def y_M_reckon : MethodName := ⟨R_M, "reckon", "(I)V"⟩
theorem cd_M_reckon : y_M_reckon.cls ≠ "java/lang/invoke/MethodHandle" ∧ y_M_reckon.cls ≠ "java/lang/invoke/VarHandle" ∧ (parseMethodDescriptor y_M_reckon.desc).map (fun d => d.parameters.length) = some 1 := by decide +kernel
abbrev b_M_resultOf : ByteArray := prog_5_method_7_code
def y_M_resultOf : MethodName := ⟨R_M, "resultOf", "(III)I"⟩
theorem cd_M_resultOf : y_M_resultOf.cls ≠ "java/lang/invoke/MethodHandle" ∧ y_M_resultOf.cls ≠ "java/lang/invoke/VarHandle" ∧ (parseMethodDescriptor y_M_resultOf.desc).map (fun d => d.parameters.length) = some 3 := by decide +kernel
abbrev b_M_shifted : ByteArray := prog_5_method_8_code
def y_M_shifted : MethodName := ⟨R_M, "shifted", "(IIZ)I"⟩
theorem cd_M_shifted : y_M_shifted.cls ≠ "java/lang/invoke/MethodHandle" ∧ y_M_shifted.cls ≠ "java/lang/invoke/VarHandle" ∧ (parseMethodDescriptor y_M_shifted.desc).map (fun d => d.parameters.length) = some 3 := by decide +kernel
abbrev b_M_moveData : ByteArray := prog_5_method_9_code
def y_M_moveData : MethodName := ⟨R_M, "moveData", "(I)V"⟩
theorem cd_M_moveData : y_M_moveData.cls ≠ "java/lang/invoke/MethodHandle" ∧ y_M_moveData.cls ≠ "java/lang/invoke/VarHandle" ∧ (parseMethodDescriptor y_M_moveData.desc).map (fun d => d.parameters.length) = some 1 := by decide +kernel
abbrev b_M_branch : ByteArray := prog_5_method_10_code
def y_M_branch : MethodName := ⟨R_M, "branch", "(I)V"⟩
theorem cd_M_branch : y_M_branch.cls ≠ "java/lang/invoke/MethodHandle" ∧ y_M_branch.cls ≠ "java/lang/invoke/VarHandle" ∧ (parseMethodDescriptor y_M_branch.desc).map (fun d => d.parameters.length) = some 1 := by decide +kernel
abbrev b_M_takesBranch : ByteArray := prog_5_method_11_code
def y_M_takesBranch : MethodName := ⟨R_M, "takesBranch", "(II)Z"⟩
theorem cd_M_takesBranch : y_M_takesBranch.cls ≠ "java/lang/invoke/MethodHandle" ∧ y_M_takesBranch.cls ≠ "java/lang/invoke/VarHandle" ∧ (parseMethodDescriptor y_M_takesBranch.desc).map (fun d => d.parameters.length) = some 2 := by decide +kernel
abbrev b_M_targetOf : ByteArray := prog_5_method_12_code
def y_M_targetOf : MethodName := ⟨R_M, "targetOf", "(I)I"⟩
theorem cd_M_targetOf : y_M_targetOf.cls ≠ "java/lang/invoke/MethodHandle" ∧ y_M_targetOf.cls ≠ "java/lang/invoke/VarHandle" ∧ (parseMethodDescriptor y_M_targetOf.desc).map (fun d => d.parameters.length) = some 1 := by decide +kernel
abbrev b_M_branchNullifies : ByteArray := prog_5_method_13_code
def y_M_branchNullifies : MethodName := ⟨R_M, "branchNullifies", "(IZ)Z"⟩
theorem cd_M_branchNullifies : y_M_branchNullifies.cls ≠ "java/lang/invoke/MethodHandle" ∧ y_M_branchNullifies.cls ≠ "java/lang/invoke/VarHandle" ∧ (parseMethodDescriptor y_M_branchNullifies.desc).map (fun d => d.parameters.length) = some 2 := by decide +kernel
abbrev b_M_control : ByteArray := prog_5_method_14_code
def y_M_control : MethodName := ⟨R_M, "control", "(I)V"⟩
theorem cd_M_control : y_M_control.cls ≠ "java/lang/invoke/MethodHandle" ∧ y_M_control.cls ≠ "java/lang/invoke/VarHandle" ∧ (parseMethodDescriptor y_M_control.desc).map (fun d => d.parameters.length) = some 1 := by decide +kernel
abbrev b_M_savedThing : ByteArray := prog_5_method_15_code
def y_M_savedThing : MethodName := ⟨R_M, "savedThing", "(I)I"⟩
theorem cd_M_savedThing : y_M_savedThing.cls ≠ "java/lang/invoke/MethodHandle" ∧ y_M_savedThing.cls ≠ "java/lang/invoke/VarHandle" ∧ (parseMethodDescriptor y_M_savedThing.desc).map (fun d => d.parameters.length) = some 1 := by decide +kernel
abbrev b_M_setSavedThing : ByteArray := prog_5_method_16_code
def y_M_setSavedThing : MethodName := ⟨R_M, "setSavedThing", "(II)V"⟩
theorem cd_M_setSavedThing : y_M_setSavedThing.cls ≠ "java/lang/invoke/MethodHandle" ∧ y_M_setSavedThing.cls ≠ "java/lang/invoke/VarHandle" ∧ (parseMethodDescriptor y_M_setSavedThing.desc).map (fun d => d.parameters.length) = some 2 := by decide +kernel
abbrev b_M_valueA : ByteArray := prog_5_method_17_code
def y_M_valueA : MethodName := ⟨R_M, "valueA", "(I)I"⟩
theorem cd_M_valueA : y_M_valueA.cls ≠ "java/lang/invoke/MethodHandle" ∧ y_M_valueA.cls ≠ "java/lang/invoke/VarHandle" ∧ (parseMethodDescriptor y_M_valueA.desc).map (fun d => d.parameters.length) = some 1 := by decide +kernel
abbrev b_M_valueB : ByteArray := prog_5_method_18_code
def y_M_valueB : MethodName := ⟨R_M, "valueB", "(I)I"⟩
theorem cd_M_valueB : y_M_valueB.cls ≠ "java/lang/invoke/MethodHandle" ∧ y_M_valueB.cls ≠ "java/lang/invoke/VarHandle" ∧ (parseMethodDescriptor y_M_valueB.desc).map (fun d => d.parameters.length) = some 1 := by decide +kernel
abbrev b_M_valueT : ByteArray := prog_5_method_19_code
def y_M_valueT : MethodName := ⟨R_M, "valueT", "(I)I"⟩
theorem cd_M_valueT : y_M_valueT.cls ≠ "java/lang/invoke/MethodHandle" ∧ y_M_valueT.cls ≠ "java/lang/invoke/VarHandle" ∧ (parseMethodDescriptor y_M_valueT.desc).map (fun d => d.parameters.length) = some 1 := by decide +kernel
abbrev b_M_valueS : ByteArray := prog_5_method_20_code
def y_M_valueS : MethodName := ⟨R_M, "valueS", "(I)I"⟩
theorem cd_M_valueS : y_M_valueS.cls ≠ "java/lang/invoke/MethodHandle" ∧ y_M_valueS.cls ≠ "java/lang/invoke/VarHandle" ∧ (parseMethodDescriptor y_M_valueS.desc).map (fun d => d.parameters.length) = some 1 := by decide +kernel
abbrev b_M_setT : ByteArray := prog_5_method_21_code
def y_M_setT : MethodName := ⟨R_M, "setT", "(II)V"⟩
theorem cd_M_setT : y_M_setT.cls ≠ "java/lang/invoke/MethodHandle" ∧ y_M_setT.cls ≠ "java/lang/invoke/VarHandle" ∧ (parseMethodDescriptor y_M_setT.desc).map (fun d => d.parameters.length) = some 2 := by decide +kernel
abbrev b_M_isInt : ByteArray := prog_5_method_22_code
def y_M_isInt : MethodName := ⟨R_M, "isInt", "(J)Z"⟩
theorem cd_M_isInt : y_M_isInt.cls ≠ "java/lang/invoke/MethodHandle" ∧ y_M_isInt.cls ≠ "java/lang/invoke/VarHandle" ∧ (parseMethodDescriptor y_M_isInt.desc).map (fun d => d.parameters.length) = some 1 := by decide +kernel
abbrev b_Pa_kind : ByteArray := prog_6_method_2_code
def y_Pa_kind : MethodName := ⟨R_Pa, "kind", "(I)I"⟩
theorem cd_Pa_kind : y_Pa_kind.cls ≠ "java/lang/invoke/MethodHandle" ∧ y_Pa_kind.cls ≠ "java/lang/invoke/VarHandle" ∧ (parseMethodDescriptor y_Pa_kind.desc).map (fun d => d.parameters.length) = some 1 := by decide +kernel
abbrev b_Pa_t : ByteArray := prog_6_method_3_code
def y_Pa_t : MethodName := ⟨R_Pa, "t", "(I)I"⟩
theorem cd_Pa_t : y_Pa_t.cls ≠ "java/lang/invoke/MethodHandle" ∧ y_Pa_t.cls ≠ "java/lang/invoke/VarHandle" ∧ (parseMethodDescriptor y_Pa_t.desc).map (fun d => d.parameters.length) = some 1 := by decide +kernel
abbrev b_Pa_a : ByteArray := prog_6_method_4_code
def y_Pa_a : MethodName := ⟨R_Pa, "a", "(I)I"⟩
theorem cd_Pa_a : y_Pa_a.cls ≠ "java/lang/invoke/MethodHandle" ∧ y_Pa_a.cls ≠ "java/lang/invoke/VarHandle" ∧ (parseMethodDescriptor y_Pa_a.desc).map (fun d => d.parameters.length) = some 1 := by decide +kernel
abbrev b_Pa_b : ByteArray := prog_6_method_5_code
def y_Pa_b : MethodName := ⟨R_Pa, "b", "(I)I"⟩
theorem cd_Pa_b : y_Pa_b.cls ≠ "java/lang/invoke/MethodHandle" ∧ y_Pa_b.cls ≠ "java/lang/invoke/VarHandle" ∧ (parseMethodDescriptor y_Pa_b.desc).map (fun d => d.parameters.length) = some 1 := by decide +kernel
abbrev b_Pa_spaceRegister : ByteArray := prog_6_method_6_code
def y_Pa_spaceRegister : MethodName := ⟨R_Pa, "spaceRegister", "(I)I"⟩
theorem cd_Pa_spaceRegister : y_Pa_spaceRegister.cls ≠ "java/lang/invoke/MethodHandle" ∧ y_Pa_spaceRegister.cls ≠ "java/lang/invoke/VarHandle" ∧ (parseMethodDescriptor y_Pa_spaceRegister.desc).map (fun d => d.parameters.length) = some 1 := by decide +kernel
abbrev b_Pa_condition : ByteArray := prog_6_method_7_code
def y_Pa_condition : MethodName := ⟨R_Pa, "condition", "(I)I"⟩
theorem cd_Pa_condition : y_Pa_condition.cls ≠ "java/lang/invoke/MethodHandle" ∧ y_Pa_condition.cls ≠ "java/lang/invoke/VarHandle" ∧ (parseMethodDescriptor y_Pa_condition.desc).map (fun d => d.parameters.length) = some 1 := by decide +kernel
abbrev b_Pa_n : ByteArray := prog_6_method_8_code
def y_Pa_n : MethodName := ⟨R_Pa, "n", "(I)I"⟩
theorem cd_Pa_n : y_Pa_n.cls ≠ "java/lang/invoke/MethodHandle" ∧ y_Pa_n.cls ≠ "java/lang/invoke/VarHandle" ∧ (parseMethodDescriptor y_Pa_n.desc).map (fun d => d.parameters.length) = some 1 := by decide +kernel
abbrev b_Pa_m : ByteArray := prog_6_method_9_code
def y_Pa_m : MethodName := ⟨R_Pa, "m", "(I)I"⟩
theorem cd_Pa_m : y_Pa_m.cls ≠ "java/lang/invoke/MethodHandle" ∧ y_Pa_m.cls ≠ "java/lang/invoke/VarHandle" ∧ (parseMethodDescriptor y_Pa_m.desc).map (fun d => d.parameters.length) = some 1 := by decide +kernel
abbrev b_Pl_of : ByteArray := prog_7_method_2_code
def y_Pl_of : MethodName := ⟨R_Pl, "of", "(II)I"⟩
theorem cd_Pl_of : y_Pl_of.cls ≠ "java/lang/invoke/MethodHandle" ∧ y_Pl_of.cls ≠ "java/lang/invoke/VarHandle" ∧ (parseMethodDescriptor y_Pl_of.desc).map (fun d => d.parameters.length) = some 2 := by decide +kernel
abbrev b_Pl_spaceOf : ByteArray := prog_7_method_3_code
def y_Pl_spaceOf : MethodName := ⟨R_Pl, "spaceOf", "(I)I"⟩
theorem cd_Pl_spaceOf : y_Pl_spaceOf.cls ≠ "java/lang/invoke/MethodHandle" ∧ y_Pl_spaceOf.cls ≠ "java/lang/invoke/VarHandle" ∧ (parseMethodDescriptor y_Pl_spaceOf.desc).map (fun d => d.parameters.length) = some 1 := by decide +kernel
abbrev b_Pl_offsetOf : ByteArray := prog_7_method_4_code
def y_Pl_offsetOf : MethodName := ⟨R_Pl, "offsetOf", "(I)I"⟩
theorem cd_Pl_offsetOf : y_Pl_offsetOf.cls ≠ "java/lang/invoke/MethodHandle" ∧ y_Pl_offsetOf.cls ≠ "java/lang/invoke/VarHandle" ∧ (parseMethodDescriptor y_Pl_offsetOf.desc).map (fun d => d.parameters.length) = some 1 := by decide +kernel
abbrev b_Pl_behind : ByteArray := prog_7_method_5_code
def y_Pl_behind : MethodName := ⟨R_Pl, "behind", "(I)I"⟩
theorem cd_Pl_behind : y_Pl_behind.cls ≠ "java/lang/invoke/MethodHandle" ∧ y_Pl_behind.cls ≠ "java/lang/invoke/VarHandle" ∧ (parseMethodDescriptor y_Pl_behind.desc).map (fun d => d.parameters.length) = some 1 := by decide +kernel
/-- the links to a nest mate's private methods, which no word list carries -/
def qn (U : State) : Prop := va_Nw (Cond.methodLinkNest R_M 23 y_F_init R_Q) U ∧ va_Nw (Cond.methodLinkNest R_M 77 y_Q_isDataOffset R_Q) U ∧ va_Nw (Cond.methodLinkNest R_M 126 y_Q_dataIndex R_Q) U
theorem qn_same {u U : State} (h : u.vm = U.vm) (z : qn u) : qn U := ⟨va_Nw.same rfl h z.1, va_Nw.same rfl h z.2.1, va_Nw.same rfl h z.2.2⟩
theorem qn_warm {s U : State} (h : s.WarmedH U.vm) (z : qn s) : qn U := ⟨va_Nw.warmM h z.1, va_Nw.warmM h z.2.1, va_Nw.warmM h z.2.2⟩
