section
-- ===== PART A: goes FIRST, ahead of the names: the tables' words, and 'selects' of the private methods out of them =====
/-- a private method of a class that the tables say can be made, by its rows of tables_1 -/
def lw_okq (q : MethodName × Nat) : Prop := (q.1.cls ≠ "java/lang/invoke/MethodHandle" ∧ q.1.cls ≠ "java/lang/invoke/VarHandle") ∧ Cond.instantiable q.1.cls q.2 ∈ tables_1 ∧ Cond.privateMethod q.1 ∈ tables_1 ∧ Cond.instanceMethod q.1 ∈ tables_1
theorem lw_p0 : lw_okq (⟨"QueuedFronts", "step", "()I"⟩, 5) := ⟨⟨by decide +kernel, by decide +kernel⟩, List.mem_of_getElem? (i := 10) (by decide +kernel), List.mem_of_getElem? (i := 161) (by decide +kernel), List.mem_of_getElem? (i := 162) (by decide +kernel)⟩
theorem lw_p1 : lw_okq (⟨"QueuedFronts", "trap", "(I)I"⟩, 5) := ⟨⟨by decide +kernel, by decide +kernel⟩, List.mem_of_getElem? (i := 10) (by decide +kernel), List.mem_of_getElem? (i := 165) (by decide +kernel), List.mem_of_getElem? (i := 166) (by decide +kernel)⟩
theorem lw_p2 : lw_okq (⟨"QueuedFronts$Machine", "valueA", "(I)I"⟩, 7) := ⟨⟨by decide +kernel, by decide +kernel⟩, List.mem_of_getElem? (i := 18) (by decide +kernel), List.mem_of_getElem? (i := 193) (by decide +kernel), List.mem_of_getElem? (i := 194) (by decide +kernel)⟩
theorem lw_p3 : lw_okq (⟨"QueuedFronts$Machine", "valueB", "(I)I"⟩, 7) := ⟨⟨by decide +kernel, by decide +kernel⟩, List.mem_of_getElem? (i := 18) (by decide +kernel), List.mem_of_getElem? (i := 200) (by decide +kernel), List.mem_of_getElem? (i := 201) (by decide +kernel)⟩
theorem lw_p4 : lw_okq (⟨"QueuedFronts$Machine", "reckon", "(I)V"⟩, 7) := ⟨⟨by decide +kernel, by decide +kernel⟩, List.mem_of_getElem? (i := 18) (by decide +kernel), List.mem_of_getElem? (i := 218) (by decide +kernel), List.mem_of_getElem? (i := 219) (by decide +kernel)⟩
theorem lw_p5 : lw_okq (⟨"QueuedFronts$Machine", "setT", "(II)V"⟩, 7) := ⟨⟨by decide +kernel, by decide +kernel⟩, List.mem_of_getElem? (i := 18) (by decide +kernel), List.mem_of_getElem? (i := 241) (by decide +kernel), List.mem_of_getElem? (i := 242) (by decide +kernel)⟩
theorem lw_p6 : lw_okq (⟨"QueuedFronts$Machine", "moveData", "(I)V"⟩, 7) := ⟨⟨by decide +kernel, by decide +kernel⟩, List.mem_of_getElem? (i := 18) (by decide +kernel), List.mem_of_getElem? (i := 249) (by decide +kernel), List.mem_of_getElem? (i := 250) (by decide +kernel)⟩
theorem lw_p7 : lw_okq (⟨"QueuedFronts$Machine", "valueS", "(I)I"⟩, 7) := ⟨⟨by decide +kernel, by decide +kernel⟩, List.mem_of_getElem? (i := 18) (by decide +kernel), List.mem_of_getElem? (i := 253) (by decide +kernel), List.mem_of_getElem? (i := 254) (by decide +kernel)⟩
theorem lw_p8 : lw_okq (⟨"QueuedFronts$Machine", "valueT", "(I)I"⟩, 7) := ⟨⟨by decide +kernel, by decide +kernel⟩, List.mem_of_getElem? (i := 18) (by decide +kernel), List.mem_of_getElem? (i := 261) (by decide +kernel), List.mem_of_getElem? (i := 262) (by decide +kernel)⟩
theorem lw_p9 : lw_okq (⟨"QueuedFronts$Machine", "branch", "(I)V"⟩, 7) := ⟨⟨by decide +kernel, by decide +kernel⟩, List.mem_of_getElem? (i := 18) (by decide +kernel), List.mem_of_getElem? (i := 265) (by decide +kernel), List.mem_of_getElem? (i := 266) (by decide +kernel)⟩
theorem lw_p10 : lw_okq (⟨"QueuedFronts$Machine", "takesBranch", "(II)Z"⟩, 7) := ⟨⟨by decide +kernel, by decide +kernel⟩, List.mem_of_getElem? (i := 18) (by decide +kernel), List.mem_of_getElem? (i := 269) (by decide +kernel), List.mem_of_getElem? (i := 270) (by decide +kernel)⟩
theorem lw_p11 : lw_okq (⟨"QueuedFronts$Machine", "targetOf", "(I)I"⟩, 7) := ⟨⟨by decide +kernel, by decide +kernel⟩, List.mem_of_getElem? (i := 18) (by decide +kernel), List.mem_of_getElem? (i := 273) (by decide +kernel), List.mem_of_getElem? (i := 274) (by decide +kernel)⟩
theorem lw_p12 : lw_okq (⟨"QueuedFronts$Machine", "control", "(I)V"⟩, 7) := ⟨⟨by decide +kernel, by decide +kernel⟩, List.mem_of_getElem? (i := 18) (by decide +kernel), List.mem_of_getElem? (i := 284) (by decide +kernel), List.mem_of_getElem? (i := 285) (by decide +kernel)⟩
theorem lw_p13 : lw_okq (⟨"QueuedFronts$Machine", "savedThing", "(I)I"⟩, 7) := ⟨⟨by decide +kernel, by decide +kernel⟩, List.mem_of_getElem? (i := 18) (by decide +kernel), List.mem_of_getElem? (i := 288) (by decide +kernel), List.mem_of_getElem? (i := 289) (by decide +kernel)⟩
theorem lw_p14 : lw_okq (⟨"QueuedFronts$Machine", "setSavedThing", "(II)V"⟩, 7) := ⟨⟨by decide +kernel, by decide +kernel⟩, List.mem_of_getElem? (i := 18) (by decide +kernel), List.mem_of_getElem? (i := 292) (by decide +kernel), List.mem_of_getElem? (i := 293) (by decide +kernel)⟩
theorem lw_p15 : lw_okq (⟨"QueuedFrontsModel", "traps", "()I"⟩, 8) := ⟨⟨by decide +kernel, by decide +kernel⟩, List.mem_of_getElem? (i := 337) (by decide +kernel), List.mem_of_getElem? (i := 405) (by decide +kernel), List.mem_of_getElem? (i := 406) (by decide +kernel)⟩
def lw_privs_1 : List (MethodName × Nat) := [(⟨"QueuedFronts", "step", "()I"⟩, 5), (⟨"QueuedFronts", "trap", "(I)I"⟩, 5), (⟨"QueuedFronts$Machine", "valueA", "(I)I"⟩, 7), (⟨"QueuedFronts$Machine", "valueB", "(I)I"⟩, 7), (⟨"QueuedFronts$Machine", "reckon", "(I)V"⟩, 7), (⟨"QueuedFronts$Machine", "setT", "(II)V"⟩, 7), (⟨"QueuedFronts$Machine", "moveData", "(I)V"⟩, 7), (⟨"QueuedFronts$Machine", "valueS", "(I)I"⟩, 7), (⟨"QueuedFronts$Machine", "valueT", "(I)I"⟩, 7), (⟨"QueuedFronts$Machine", "branch", "(I)V"⟩, 7), (⟨"QueuedFronts$Machine", "takesBranch", "(II)Z"⟩, 7), (⟨"QueuedFronts$Machine", "targetOf", "(I)I"⟩, 7), (⟨"QueuedFronts$Machine", "control", "(I)V"⟩, 7), (⟨"QueuedFronts$Machine", "savedThing", "(I)I"⟩, 7), (⟨"QueuedFronts$Machine", "setSavedThing", "(II)V"⟩, 7), (⟨"QueuedFrontsModel", "traps", "()I"⟩, 8)]
theorem lw_r1 : ∀ q ∈ lw_privs_1, lw_okq q := List.forall_mem_cons.mpr ⟨lw_p0, List.forall_mem_cons.mpr ⟨lw_p1, List.forall_mem_cons.mpr ⟨lw_p2, List.forall_mem_cons.mpr ⟨lw_p3, List.forall_mem_cons.mpr ⟨lw_p4, List.forall_mem_cons.mpr ⟨lw_p5, List.forall_mem_cons.mpr ⟨lw_p6, List.forall_mem_cons.mpr ⟨lw_p7, List.forall_mem_cons.mpr ⟨lw_p8, List.forall_mem_cons.mpr ⟨lw_p9, List.forall_mem_cons.mpr ⟨lw_p10, List.forall_mem_cons.mpr ⟨lw_p11, List.forall_mem_cons.mpr ⟨lw_p12, List.forall_mem_cons.mpr ⟨lw_p13, List.forall_mem_cons.mpr ⟨lw_p14, List.forall_mem_cons.mpr ⟨lw_p15, fun _ h => absurd h List.not_mem_nil⟩⟩⟩⟩⟩⟩⟩⟩⟩⟩⟩⟩⟩⟩⟩⟩
theorem lw_p16 : lw_okq (⟨"QueuedFrontsModel", "step", "()V"⟩, 8) := ⟨⟨by decide +kernel, by decide +kernel⟩, List.mem_of_getElem? (i := 337) (by decide +kernel), List.mem_of_getElem? (i := 409) (by decide +kernel), List.mem_of_getElem? (i := 410) (by decide +kernel)⟩
theorem lw_p17 : lw_okq (⟨"QueuedFrontsModel", "trap", "(I)V"⟩, 8) := ⟨⟨by decide +kernel, by decide +kernel⟩, List.mem_of_getElem? (i := 337) (by decide +kernel), List.mem_of_getElem? (i := 413) (by decide +kernel), List.mem_of_getElem? (i := 414) (by decide +kernel)⟩
theorem lw_p18 : lw_okq (⟨"QueuedFrontsModel", "moveOn", "(I)V"⟩, 8) := ⟨⟨by decide +kernel, by decide +kernel⟩, List.mem_of_getElem? (i := 337) (by decide +kernel), List.mem_of_getElem? (i := 417) (by decide +kernel), List.mem_of_getElem? (i := 418) (by decide +kernel)⟩
theorem lw_p19 : lw_okq (⟨"QueuedFrontsModel", "instruct", "()V"⟩, 8) := ⟨⟨by decide +kernel, by decide +kernel⟩, List.mem_of_getElem? (i := 337) (by decide +kernel), List.mem_of_getElem? (i := 421) (by decide +kernel), List.mem_of_getElem? (i := 422) (by decide +kernel)⟩
theorem lw_p20 : lw_okq (⟨"QueuedFrontsModel", "reckon", "(IIIII)I"⟩, 8) := ⟨⟨by decide +kernel, by decide +kernel⟩, List.mem_of_getElem? (i := 337) (by decide +kernel), List.mem_of_getElem? (i := 425) (by decide +kernel), List.mem_of_getElem? (i := 426) (by decide +kernel)⟩
theorem lw_p21 : lw_okq (⟨"QueuedFrontsModel", "write", "(II)V"⟩, 8) := ⟨⟨by decide +kernel, by decide +kernel⟩, List.mem_of_getElem? (i := 337) (by decide +kernel), List.mem_of_getElem? (i := 429) (by decide +kernel), List.mem_of_getElem? (i := 430) (by decide +kernel)⟩
theorem lw_p22 : lw_okq (⟨"QueuedFrontsModel", "touch", "(IIII)I"⟩, 8) := ⟨⟨by decide +kernel, by decide +kernel⟩, List.mem_of_getElem? (i := 337) (by decide +kernel), List.mem_of_getElem? (i := 437) (by decide +kernel), List.mem_of_getElem? (i := 438) (by decide +kernel)⟩
theorem lw_p23 : lw_okq (⟨"QueuedFrontsModel", "branch", "(IIIII)I"⟩, 8) := ⟨⟨by decide +kernel, by decide +kernel⟩, List.mem_of_getElem? (i := 337) (by decide +kernel), List.mem_of_getElem? (i := 441) (by decide +kernel), List.mem_of_getElem? (i := 442) (by decide +kernel)⟩
theorem lw_p24 : lw_okq (⟨"QueuedFrontsModel", "manage", "(IIII)I"⟩, 8) := ⟨⟨by decide +kernel, by decide +kernel⟩, List.mem_of_getElem? (i := 337) (by decide +kernel), List.mem_of_getElem? (i := 445) (by decide +kernel), List.mem_of_getElem? (i := 446) (by decide +kernel)⟩
theorem lw_p25 : lw_okq (⟨"QueuedFrontsModel", "comeBack", "()V"⟩, 8) := ⟨⟨by decide +kernel, by decide +kernel⟩, List.mem_of_getElem? (i := 337) (by decide +kernel), List.mem_of_getElem? (i := 449) (by decide +kernel), List.mem_of_getElem? (i := 450) (by decide +kernel)⟩
theorem lw_p26 : lw_okq (⟨"QueuedFrontsModel", "saved", "(I)I"⟩, 8) := ⟨⟨by decide +kernel, by decide +kernel⟩, List.mem_of_getElem? (i := 337) (by decide +kernel), List.mem_of_getElem? (i := 453) (by decide +kernel), List.mem_of_getElem? (i := 454) (by decide +kernel)⟩
theorem lw_p27 : lw_okq (⟨"QueuedFrontsModel", "save", "(II)V"⟩, 8) := ⟨⟨by decide +kernel, by decide +kernel⟩, List.mem_of_getElem? (i := 337) (by decide +kernel), List.mem_of_getElem? (i := 457) (by decide +kernel), List.mem_of_getElem? (i := 458) (by decide +kernel)⟩
def lw_privs_2 : List (MethodName × Nat) := [(⟨"QueuedFrontsModel", "step", "()V"⟩, 8), (⟨"QueuedFrontsModel", "trap", "(I)V"⟩, 8), (⟨"QueuedFrontsModel", "moveOn", "(I)V"⟩, 8), (⟨"QueuedFrontsModel", "instruct", "()V"⟩, 8), (⟨"QueuedFrontsModel", "reckon", "(IIIII)I"⟩, 8), (⟨"QueuedFrontsModel", "write", "(II)V"⟩, 8), (⟨"QueuedFrontsModel", "touch", "(IIII)I"⟩, 8), (⟨"QueuedFrontsModel", "branch", "(IIIII)I"⟩, 8), (⟨"QueuedFrontsModel", "manage", "(IIII)I"⟩, 8), (⟨"QueuedFrontsModel", "comeBack", "()V"⟩, 8), (⟨"QueuedFrontsModel", "saved", "(I)I"⟩, 8), (⟨"QueuedFrontsModel", "save", "(II)V"⟩, 8)]
theorem lw_r2 : ∀ q ∈ lw_privs_2, lw_okq q := List.forall_mem_cons.mpr ⟨lw_p16, List.forall_mem_cons.mpr ⟨lw_p17, List.forall_mem_cons.mpr ⟨lw_p18, List.forall_mem_cons.mpr ⟨lw_p19, List.forall_mem_cons.mpr ⟨lw_p20, List.forall_mem_cons.mpr ⟨lw_p21, List.forall_mem_cons.mpr ⟨lw_p22, List.forall_mem_cons.mpr ⟨lw_p23, List.forall_mem_cons.mpr ⟨lw_p24, List.forall_mem_cons.mpr ⟨lw_p25, List.forall_mem_cons.mpr ⟨lw_p26, List.forall_mem_cons.mpr ⟨lw_p27, fun _ h => absurd h List.not_mem_nil⟩⟩⟩⟩⟩⟩⟩⟩⟩⟩⟩⟩
def lw_privs : List (MethodName × Nat) := lw_privs_1 ++ (lw_privs_2)
def lw_tbl : List Cond := k2_sels lw_privs ++ tables_1
theorem lw_privs_ok : ∀ q ∈ lw_privs, lw_okq q := by
  show ∀ q ∈ lw_privs_1 ++ (lw_privs_2), lw_okq q
  exact List.forall_mem_append.mpr ⟨lw_r1, lw_r2⟩
end
section
/-! rows of my own over the kit's: contracts that read alone, contracts that write, their calls; every method has the same words (qx_T) -/
def qx_T : List Cond := lw_tbl.filter goodWord
theorem qx_in {w : Cond} (h : w ∈ lw_tbl) (hg : goodWord w = true) : w ∈ qx_T := List.mem_filter.mpr ⟨h, hg⟩
theorem qx_tbl : ∀ w ∈ qx_T, w ∈ lw_tbl := fun _ h => (List.mem_filter.mp h).1
theorem qx_good {w : Cond} (h : w ∈ qx_T) : GoodIn qx_T (w :: qx_T) := by
  intro x hx
  rcases List.mem_cons.mp hx with rfl | hx
  · exact ⟨h, good_of_word (List.mem_filter.mp h).2⟩
  · exact ⟨hx, good_of_word (List.mem_filter.mp hx).2⟩
end
section
def R_Q : String := "QueuedFronts"
def R_Pl : String := "QueuedFronts$Place"
def R_Pa : String := "QueuedFronts$Part"
def R_Co : String := "QueuedFronts$Condition"
def R_F : String := "QueuedFronts$Flow"
def R_M : String := "QueuedFronts$Machine"
def R_X : String := "QueuedFrontsModel"
def R_L : String := "QueuedFrontsLaw"
def R_Ki : String := "QueuedFronts$Kind"
def T_Q : u_T := fun k => match k with
  | 0 => ("QueuedFronts", "codeWords", "[I", true)
  | 1 => ("QueuedFronts", "counts", "[I", true)
  | 2 => ("QueuedFronts", "now", "LQueuedFronts$Machine;", true)
  | 3 => ("QueuedFronts", "remembered", "LQueuedFronts$Machine;", true)
  | _ => ("QueuedFronts", "remembers", "Z", false)
def ty_Q : Nat → FieldType := fun k => match k with
  | 0 => .array .int
  | 1 => .array .int
  | 2 => .object "QueuedFronts$Machine"
  | 3 => .object "QueuedFronts$Machine"
  | _ => .boolean
theorem nm_Q : ∀ a, a < 5 → ∀ b, b < 5 → a ≠ b → (T_Q a).2.1 ≠ (T_Q b).2.1 := by decide +kernel
theorem tyok_Q : ∀ k, k < 5 → parseFieldDescriptor (T_Q k).2.2.1 = some (ty_Q k) := by decide +kernel
theorem in0_Q : ∀ w ∈ u_ws R_Q T_Q 5, w ∈ lw_tbl := by decide +kernel
theorem in_Q : ∀ w ∈ u_ws R_Q T_Q 5, w ∈ qx_T := fun w h => qx_in (in0_Q w h) (List.all_eq_true.mp (show (u_ws R_Q T_Q 5).all goodWord = true by decide +kernel) w h)
def T_M : u_T := fun k => match k with
  | 0 => ("QueuedFronts$Machine", "registers", "[I", true)
  | 1 => ("QueuedFronts$Machine", "spaceRegisters", "[I", true)
  | 2 => ("QueuedFronts$Machine", "dataWords", "[I", true)
  | 3 => ("QueuedFronts$Machine", "flow", "LQueuedFronts$Flow;", true)
  | 4 => ("QueuedFronts$Machine", "saved", "LQueuedFronts$Flow;", true)
  | 5 => ("QueuedFronts$Machine", "savedCause", "I", false)
  | _ => ("QueuedFronts$Machine", "pending", "I", false)
def ty_M : Nat → FieldType := fun k => match k with
  | 0 => .array .int
  | 1 => .array .int
  | 2 => .array .int
  | 3 => .object "QueuedFronts$Flow"
  | 4 => .object "QueuedFronts$Flow"
  | 5 => .int
  | _ => .int
theorem nm_M : ∀ a, a < 7 → ∀ b, b < 7 → a ≠ b → (T_M a).2.1 ≠ (T_M b).2.1 := by decide +kernel
theorem tyok_M : ∀ k, k < 7 → parseFieldDescriptor (T_M k).2.2.1 = some (ty_M k) := by decide +kernel
theorem in0_M : ∀ w ∈ u_ws R_M T_M 7, w ∈ lw_tbl := by decide +kernel
theorem in_M : ∀ w ∈ u_ws R_M T_M 7, w ∈ qx_T := fun w h => qx_in (in0_M w h) (List.all_eq_true.mp (show (u_ws R_M T_M 7).all goodWord = true by decide +kernel) w h)
def T_F : u_T := fun k => match k with
  | 0 => ("QueuedFronts$Flow", "front", "I", false)
  | 1 => ("QueuedFronts$Flow", "back", "I", false)
  | 2 => ("QueuedFronts$Flow", "nullify", "I", false)
  | _ => ("QueuedFronts$Flow", "lets", "I", false)
def ty_F : Nat → FieldType := fun k => match k with
  | 0 => .int
  | 1 => .int
  | 2 => .int
  | _ => .int
theorem nm_F : ∀ a, a < 4 → ∀ b, b < 4 → a ≠ b → (T_F a).2.1 ≠ (T_F b).2.1 := by decide +kernel
theorem tyok_F : ∀ k, k < 4 → parseFieldDescriptor (T_F k).2.2.1 = some (ty_F k) := by decide +kernel
theorem in0_F : ∀ w ∈ u_ws R_F T_F 4, w ∈ lw_tbl := by decide +kernel
theorem in_F : ∀ w ∈ u_ws R_F T_F 4, w ∈ qx_T := fun w h => qx_in (in0_F w h) (List.all_eq_true.mp (show (u_ws R_F T_F 4).all goodWord = true by decide +kernel) w h)
def T_X : u_T := fun k => match k with
  | 0 => ("QueuedFrontsModel", "now", "[I", true)
  | 1 => ("QueuedFrontsModel", "then", "[I", true)
  | 2 => ("QueuedFrontsModel", "marked", "Z", false)
  | 3 => ("QueuedFrontsModel", "code", "[I", true)
  | 4 => ("QueuedFrontsModel", "counts", "[I", true)
  | 5 => ("QueuedFrontsModel", "nullifies", "Z", false)
  | 6 => ("QueuedFrontsModel", "target", "I", false)
  | _ => ("QueuedFrontsModel", "stays", "Z", false)
def ty_X : Nat → FieldType := fun k => match k with
  | 0 => .array .int
  | 1 => .array .int
  | 2 => .boolean
  | 3 => .array .int
  | 4 => .array .int
  | 5 => .boolean
  | 6 => .int
  | _ => .boolean
theorem nm_X : ∀ a, a < 8 → ∀ b, b < 8 → a ≠ b → (T_X a).2.1 ≠ (T_X b).2.1 := by decide +kernel
theorem tyok_X : ∀ k, k < 8 → parseFieldDescriptor (T_X k).2.2.1 = some (ty_X k) := by decide +kernel
theorem in0_X : ∀ w ∈ u_ws R_X T_X 8, w ∈ lw_tbl := by decide +kernel
theorem in_X : ∀ w ∈ u_ws R_X T_X 8, w ∈ qx_T := fun w h => qx_in (in0_X w h) (List.all_eq_true.mp (show (u_ws R_X T_X 8).all goodWord = true by decide +kernel) w h)
abbrev vwCl : List vw_C := [(R_Q, T_Q, 5), (R_M, T_M, 7), (R_F, T_F, 4), (R_X, T_X, 8)]
abbrev b_Q_init : ByteArray := prog_1_method_1_code
def y_Q_init : MethodName := ⟨R_Q, "<init>", "()V"⟩
theorem cd_Q_init : y_Q_init.cls ≠ "java/lang/invoke/MethodHandle" ∧ y_Q_init.cls ≠ "java/lang/invoke/VarHandle" ∧ (parseMethodDescriptor y_Q_init.desc).map (fun d => d.parameters.length) = some 0 := by decide +kernel
abbrev b_Q_code : ByteArray := prog_1_method_2_code
def y_Q_code : MethodName := ⟨R_Q, "code", "(III)Z"⟩
theorem cd_Q_code : y_Q_code.cls ≠ "java/lang/invoke/MethodHandle" ∧ y_Q_code.cls ≠ "java/lang/invoke/VarHandle" ∧ (parseMethodDescriptor y_Q_code.desc).map (fun d => d.parameters.length) = some 3 := by decide +kernel
abbrev b_Q_data : ByteArray := prog_1_method_3_code
def y_Q_data : MethodName := ⟨R_Q, "data", "(III)Z"⟩
theorem cd_Q_data : y_Q_data.cls ≠ "java/lang/invoke/MethodHandle" ∧ y_Q_data.cls ≠ "java/lang/invoke/VarHandle" ∧ (parseMethodDescriptor y_Q_data.desc).map (fun d => d.parameters.length) = some 3 := by decide +kernel
abbrev b_Q_set : ByteArray := prog_1_method_4_code
def y_Q_set : MethodName := ⟨R_Q, "set", "(II)Z"⟩
theorem cd_Q_set : y_Q_set.cls ≠ "java/lang/invoke/MethodHandle" ∧ y_Q_set.cls ≠ "java/lang/invoke/VarHandle" ∧ (parseMethodDescriptor y_Q_set.desc).map (fun d => d.parameters.length) = some 2 := by decide +kernel
abbrev b_Q_setSpace : ByteArray := prog_1_method_5_code
def y_Q_setSpace : MethodName := ⟨R_Q, "setSpace", "(II)Z"⟩
theorem cd_Q_setSpace : y_Q_setSpace.cls ≠ "java/lang/invoke/MethodHandle" ∧ y_Q_setSpace.cls ≠ "java/lang/invoke/VarHandle" ∧ (parseMethodDescriptor y_Q_setSpace.desc).map (fun d => d.parameters.length) = some 2 := by decide +kernel
abbrev b_Q_go : ByteArray := prog_1_method_6_code
def y_Q_go : MethodName := ⟨R_Q, "go", "(IIZ)Z"⟩
theorem cd_Q_go : y_Q_go.cls ≠ "java/lang/invoke/MethodHandle" ∧ y_Q_go.cls ≠ "java/lang/invoke/VarHandle" ∧ (parseMethodDescriptor y_Q_go.desc).map (fun d => d.parameters.length) = some 3 := by decide +kernel
abbrev b_Q_interrupt : ByteArray := prog_1_method_7_code
def y_Q_interrupt : MethodName := ⟨R_Q, "interrupt", "()Z"⟩
theorem cd_Q_interrupt : y_Q_interrupt.cls ≠ "java/lang/invoke/MethodHandle" ∧ y_Q_interrupt.cls ≠ "java/lang/invoke/VarHandle" ∧ (parseMethodDescriptor y_Q_interrupt.desc).map (fun d => d.parameters.length) = some 0 := by decide +kernel
abbrev b_Q_run : ByteArray := prog_1_method_8_code
def y_Q_run : MethodName := ⟨R_Q, "run", "(I)I"⟩
theorem cd_Q_run : y_Q_run.cls ≠ "java/lang/invoke/MethodHandle" ∧ y_Q_run.cls ≠ "java/lang/invoke/VarHandle" ∧ (parseMethodDescriptor y_Q_run.desc).map (fun d => d.parameters.length) = some 1 := by decide +kernel
abbrev b_Q_state : ByteArray := prog_1_method_9_code
def y_Q_state : MethodName := ⟨R_Q, "state", "(I)I"⟩
theorem cd_Q_state : y_Q_state.cls ≠ "java/lang/invoke/MethodHandle" ∧ y_Q_state.cls ≠ "java/lang/invoke/VarHandle" ∧ (parseMethodDescriptor y_Q_state.desc).map (fun d => d.parameters.length) = some 1 := by decide +kernel
abbrev b_Q_register : ByteArray := prog_1_method_10_code
def y_Q_register : MethodName := ⟨R_Q, "register", "(I)I"⟩
theorem cd_Q_register : y_Q_register.cls ≠ "java/lang/invoke/MethodHandle" ∧ y_Q_register.cls ≠ "java/lang/invoke/VarHandle" ∧ (parseMethodDescriptor y_Q_register.desc).map (fun d => d.parameters.length) = some 1 := by decide +kernel
abbrev b_Q_space : ByteArray := prog_1_method_11_code
def y_Q_space : MethodName := ⟨R_Q, "space", "(I)I"⟩
theorem cd_Q_space : y_Q_space.cls ≠ "java/lang/invoke/MethodHandle" ∧ y_Q_space.cls ≠ "java/lang/invoke/VarHandle" ∧ (parseMethodDescriptor y_Q_space.desc).map (fun d => d.parameters.length) = some 1 := by decide +kernel
abbrev b_Q_word : ByteArray := prog_1_method_12_code
def y_Q_word : MethodName := ⟨R_Q, "word", "(II)I"⟩
theorem cd_Q_word : y_Q_word.cls ≠ "java/lang/invoke/MethodHandle" ∧ y_Q_word.cls ≠ "java/lang/invoke/VarHandle" ∧ (parseMethodDescriptor y_Q_word.desc).map (fun d => d.parameters.length) = some 2 := by decide +kernel
abbrev b_Q_peek : ByteArray := prog_1_method_13_code
def y_Q_peek : MethodName := ⟨R_Q, "peek", "(II)I"⟩
theorem cd_Q_peek : y_Q_peek.cls ≠ "java/lang/invoke/MethodHandle" ∧ y_Q_peek.cls ≠ "java/lang/invoke/VarHandle" ∧ (parseMethodDescriptor y_Q_peek.desc).map (fun d => d.parameters.length) = some 2 := by decide +kernel
abbrev b_Q_count : ByteArray := prog_1_method_14_code
def y_Q_count : MethodName := ⟨R_Q, "count", "(I)I"⟩
theorem cd_Q_count : y_Q_count.cls ≠ "java/lang/invoke/MethodHandle" ∧ y_Q_count.cls ≠ "java/lang/invoke/VarHandle" ∧ (parseMethodDescriptor y_Q_count.desc).map (fun d => d.parameters.length) = some 1 := by decide +kernel
abbrev b_Q_mark : ByteArray := prog_1_method_15_code
def y_Q_mark : MethodName := ⟨R_Q, "mark", "()V"⟩
theorem cd_Q_mark : y_Q_mark.cls ≠ "java/lang/invoke/MethodHandle" ∧ y_Q_mark.cls ≠ "java/lang/invoke/VarHandle" ∧ (parseMethodDescriptor y_Q_mark.desc).map (fun d => d.parameters.length) = some 0 := by decide +kernel
abbrev b_Q_back : ByteArray := prog_1_method_16_code
def y_Q_back : MethodName := ⟨R_Q, "back", "()Z"⟩
theorem cd_Q_back : y_Q_back.cls ≠ "java/lang/invoke/MethodHandle" ∧ y_Q_back.cls ≠ "java/lang/invoke/VarHandle" ∧ (parseMethodDescriptor y_Q_back.desc).map (fun d => d.parameters.length) = some 0 := by decide +kernel
abbrev b_Q_step : ByteArray := prog_1_method_17_code
def y_Q_step : MethodName := ⟨R_Q, "step", "()I"⟩
theorem cd_Q_step : y_Q_step.cls ≠ "java/lang/invoke/MethodHandle" ∧ y_Q_step.cls ≠ "java/lang/invoke/VarHandle" ∧ (parseMethodDescriptor y_Q_step.desc).map (fun d => d.parameters.length) = some 0 := by decide +kernel
abbrev b_Q_trap : ByteArray := prog_1_method_18_code
def y_Q_trap : MethodName := ⟨R_Q, "trap", "(I)I"⟩
theorem cd_Q_trap : y_Q_trap.cls ≠ "java/lang/invoke/MethodHandle" ∧ y_Q_trap.cls ≠ "java/lang/invoke/VarHandle" ∧ (parseMethodDescriptor y_Q_trap.desc).map (fun d => d.parameters.length) = some 1 := by decide +kernel
abbrev b_Q_isSpace : ByteArray := prog_1_method_19_code
def y_Q_isSpace : MethodName := ⟨R_Q, "isSpace", "(I)Z"⟩
theorem cd_Q_isSpace : y_Q_isSpace.cls ≠ "java/lang/invoke/MethodHandle" ∧ y_Q_isSpace.cls ≠ "java/lang/invoke/VarHandle" ∧ (parseMethodDescriptor y_Q_isSpace.desc).map (fun d => d.parameters.length) = some 1 := by decide +kernel
abbrev b_Q_isPlace : ByteArray := prog_1_method_20_code
def y_Q_isPlace : MethodName := ⟨R_Q, "isPlace", "(II)Z"⟩
theorem cd_Q_isPlace : y_Q_isPlace.cls ≠ "java/lang/invoke/MethodHandle" ∧ y_Q_isPlace.cls ≠ "java/lang/invoke/VarHandle" ∧ (parseMethodDescriptor y_Q_isPlace.desc).map (fun d => d.parameters.length) = some 2 := by decide +kernel
abbrev b_Q_isDataOffset : ByteArray := prog_1_method_21_code
def y_Q_isDataOffset : MethodName := ⟨R_Q, "isDataOffset", "(I)Z"⟩
theorem cd_Q_isDataOffset : y_Q_isDataOffset.cls ≠ "java/lang/invoke/MethodHandle" ∧ y_Q_isDataOffset.cls ≠ "java/lang/invoke/VarHandle" ∧ (parseMethodDescriptor y_Q_isDataOffset.desc).map (fun d => d.parameters.length) = some 1 := by decide +kernel
abbrev b_Q_isRegister : ByteArray := prog_1_method_22_code
def y_Q_isRegister : MethodName := ⟨R_Q, "isRegister", "(I)Z"⟩
theorem cd_Q_isRegister : y_Q_isRegister.cls ≠ "java/lang/invoke/MethodHandle" ∧ y_Q_isRegister.cls ≠ "java/lang/invoke/VarHandle" ∧ (parseMethodDescriptor y_Q_isRegister.desc).map (fun d => d.parameters.length) = some 1 := by decide +kernel
abbrev b_Q_isSpaceRegister : ByteArray := prog_1_method_23_code
def y_Q_isSpaceRegister : MethodName := ⟨R_Q, "isSpaceRegister", "(I)Z"⟩
theorem cd_Q_isSpaceRegister : y_Q_isSpaceRegister.cls ≠ "java/lang/invoke/MethodHandle" ∧ y_Q_isSpaceRegister.cls ≠ "java/lang/invoke/VarHandle" ∧ (parseMethodDescriptor y_Q_isSpaceRegister.desc).map (fun d => d.parameters.length) = some 1 := by decide +kernel
abbrev b_Q_dataIndex : ByteArray := prog_1_method_24_code
def y_Q_dataIndex : MethodName := ⟨R_Q, "dataIndex", "(II)I"⟩
theorem cd_Q_dataIndex : y_Q_dataIndex.cls ≠ "java/lang/invoke/MethodHandle" ∧ y_Q_dataIndex.cls ≠ "java/lang/invoke/VarHandle" ∧ (parseMethodDescriptor y_Q_dataIndex.desc).map (fun d => d.parameters.length) = some 2 := by decide +kernel
abbrev b_X_init : ByteArray := prog_9_method_1_code
def y_X_init : MethodName := ⟨R_X, "<init>", "()V"⟩
theorem cd_X_init : y_X_init.cls ≠ "java/lang/invoke/MethodHandle" ∧ y_X_init.cls ≠ "java/lang/invoke/VarHandle" ∧ (parseMethodDescriptor y_X_init.desc).map (fun d => d.parameters.length) = some 0 := by decide +kernel
abbrev b_X_isIn : ByteArray := prog_9_method_2_code
def y_X_isIn : MethodName := ⟨R_X, "isIn", "(II)Z"⟩
theorem cd_X_isIn : y_X_isIn.cls ≠ "java/lang/invoke/MethodHandle" ∧ y_X_isIn.cls ≠ "java/lang/invoke/VarHandle" ∧ (parseMethodDescriptor y_X_isIn.desc).map (fun d => d.parameters.length) = some 2 := by decide +kernel
abbrev b_X_place : ByteArray := prog_9_method_3_code
def y_X_place : MethodName := ⟨R_X, "place", "(II)I"⟩
theorem cd_X_place : y_X_place.cls ≠ "java/lang/invoke/MethodHandle" ∧ y_X_place.cls ≠ "java/lang/invoke/VarHandle" ∧ (parseMethodDescriptor y_X_place.desc).map (fun d => d.parameters.length) = some 2 := by decide +kernel
abbrev b_X_behind : ByteArray := prog_9_method_4_code
def y_X_behind : MethodName := ⟨R_X, "behind", "(I)I"⟩
theorem cd_X_behind : y_X_behind.cls ≠ "java/lang/invoke/MethodHandle" ∧ y_X_behind.cls ≠ "java/lang/invoke/VarHandle" ∧ (parseMethodDescriptor y_X_behind.desc).map (fun d => d.parameters.length) = some 1 := by decide +kernel
abbrev b_X_code : ByteArray := prog_9_method_5_code
def y_X_code : MethodName := ⟨R_X, "code", "(III)Z"⟩
theorem cd_X_code : y_X_code.cls ≠ "java/lang/invoke/MethodHandle" ∧ y_X_code.cls ≠ "java/lang/invoke/VarHandle" ∧ (parseMethodDescriptor y_X_code.desc).map (fun d => d.parameters.length) = some 3 := by decide +kernel
abbrev b_X_data : ByteArray := prog_9_method_6_code
def y_X_data : MethodName := ⟨R_X, "data", "(III)Z"⟩
theorem cd_X_data : y_X_data.cls ≠ "java/lang/invoke/MethodHandle" ∧ y_X_data.cls ≠ "java/lang/invoke/VarHandle" ∧ (parseMethodDescriptor y_X_data.desc).map (fun d => d.parameters.length) = some 3 := by decide +kernel
abbrev b_X_set : ByteArray := prog_9_method_7_code
def y_X_set : MethodName := ⟨R_X, "set", "(II)Z"⟩
theorem cd_X_set : y_X_set.cls ≠ "java/lang/invoke/MethodHandle" ∧ y_X_set.cls ≠ "java/lang/invoke/VarHandle" ∧ (parseMethodDescriptor y_X_set.desc).map (fun d => d.parameters.length) = some 2 := by decide +kernel
abbrev b_X_setSpace : ByteArray := prog_9_method_8_code
def y_X_setSpace : MethodName := ⟨R_X, "setSpace", "(II)Z"⟩
theorem cd_X_setSpace : y_X_setSpace.cls ≠ "java/lang/invoke/MethodHandle" ∧ y_X_setSpace.cls ≠ "java/lang/invoke/VarHandle" ∧ (parseMethodDescriptor y_X_setSpace.desc).map (fun d => d.parameters.length) = some 2 := by decide +kernel
abbrev b_X_go : ByteArray := prog_9_method_9_code
def y_X_go : MethodName := ⟨R_X, "go", "(IIZ)Z"⟩
theorem cd_X_go : y_X_go.cls ≠ "java/lang/invoke/MethodHandle" ∧ y_X_go.cls ≠ "java/lang/invoke/VarHandle" ∧ (parseMethodDescriptor y_X_go.desc).map (fun d => d.parameters.length) = some 3 := by decide +kernel
abbrev b_X_interrupt : ByteArray := prog_9_method_10_code
def y_X_interrupt : MethodName := ⟨R_X, "interrupt", "()Z"⟩
theorem cd_X_interrupt : y_X_interrupt.cls ≠ "java/lang/invoke/MethodHandle" ∧ y_X_interrupt.cls ≠ "java/lang/invoke/VarHandle" ∧ (parseMethodDescriptor y_X_interrupt.desc).map (fun d => d.parameters.length) = some 0 := by decide +kernel
abbrev b_X_trap : ByteArray := prog_9_method_11_code
def y_X_trap : MethodName := ⟨R_X, "trap", "(I)V"⟩
theorem cd_X_trap : y_X_trap.cls ≠ "java/lang/invoke/MethodHandle" ∧ y_X_trap.cls ≠ "java/lang/invoke/VarHandle" ∧ (parseMethodDescriptor y_X_trap.desc).map (fun d => d.parameters.length) = some 1 := by decide +kernel
abbrev b_X_moveOn : ByteArray := prog_9_method_12_code
def y_X_moveOn : MethodName := ⟨R_X, "moveOn", "(I)V"⟩
theorem cd_X_moveOn : y_X_moveOn.cls ≠ "java/lang/invoke/MethodHandle" ∧ y_X_moveOn.cls ≠ "java/lang/invoke/VarHandle" ∧ (parseMethodDescriptor y_X_moveOn.desc).map (fun d => d.parameters.length) = some 1 := by decide +kernel
abbrev b_X_write : ByteArray := prog_9_method_13_code
def y_X_write : MethodName := ⟨R_X, "write", "(II)V"⟩
theorem cd_X_write : y_X_write.cls ≠ "java/lang/invoke/MethodHandle" ∧ y_X_write.cls ≠ "java/lang/invoke/VarHandle" ∧ (parseMethodDescriptor y_X_write.desc).map (fun d => d.parameters.length) = some 2 := by decide +kernel
abbrev b_X_holds : ByteArray := prog_9_method_14_code
def y_X_holds : MethodName := ⟨R_X, "holds", "(III)Z"⟩
theorem cd_X_holds : y_X_holds.cls ≠ "java/lang/invoke/MethodHandle" ∧ y_X_holds.cls ≠ "java/lang/invoke/VarHandle" ∧ (parseMethodDescriptor y_X_holds.desc).map (fun d => d.parameters.length) = some 3 := by decide +kernel
abbrev b_X_reckon : ByteArray := prog_9_method_15_code
def y_X_reckon : MethodName := ⟨R_X, "reckon", "(IIIII)I"⟩
theorem cd_X_reckon : y_X_reckon.cls ≠ "java/lang/invoke/MethodHandle" ∧ y_X_reckon.cls ≠ "java/lang/invoke/VarHandle" ∧ (parseMethodDescriptor y_X_reckon.desc).map (fun d => d.parameters.length) = some 5 := by decide +kernel
abbrev b_X_touch : ByteArray := prog_9_method_16_code
def y_X_touch : MethodName := ⟨R_X, "touch", "(IIII)I"⟩
theorem cd_X_touch : y_X_touch.cls ≠ "java/lang/invoke/MethodHandle" ∧ y_X_touch.cls ≠ "java/lang/invoke/VarHandle" ∧ (parseMethodDescriptor y_X_touch.desc).map (fun d => d.parameters.length) = some 4 := by decide +kernel
abbrev b_X_branch : ByteArray := prog_9_method_17_code
def y_X_branch : MethodName := ⟨R_X, "branch", "(IIIII)I"⟩
theorem cd_X_branch : y_X_branch.cls ≠ "java/lang/invoke/MethodHandle" ∧ y_X_branch.cls ≠ "java/lang/invoke/VarHandle" ∧ (parseMethodDescriptor y_X_branch.desc).map (fun d => d.parameters.length) = some 5 := by decide +kernel
abbrev b_X_saved : ByteArray := prog_9_method_18_code
def y_X_saved : MethodName := ⟨R_X, "saved", "(I)I"⟩
theorem cd_X_saved : y_X_saved.cls ≠ "java/lang/invoke/MethodHandle" ∧ y_X_saved.cls ≠ "java/lang/invoke/VarHandle" ∧ (parseMethodDescriptor y_X_saved.desc).map (fun d => d.parameters.length) = some 1 := by decide +kernel
abbrev b_X_save : ByteArray := prog_9_method_19_code
def y_X_save : MethodName := ⟨R_X, "save", "(II)V"⟩
theorem cd_X_save : y_X_save.cls ≠ "java/lang/invoke/MethodHandle" ∧ y_X_save.cls ≠ "java/lang/invoke/VarHandle" ∧ (parseMethodDescriptor y_X_save.desc).map (fun d => d.parameters.length) = some 2 := by decide +kernel
abbrev b_X_comeBack : ByteArray := prog_9_method_20_code
def y_X_comeBack : MethodName := ⟨R_X, "comeBack", "()V"⟩
theorem cd_X_comeBack : y_X_comeBack.cls ≠ "java/lang/invoke/MethodHandle" ∧ y_X_comeBack.cls ≠ "java/lang/invoke/VarHandle" ∧ (parseMethodDescriptor y_X_comeBack.desc).map (fun d => d.parameters.length) = some 0 := by decide +kernel
abbrev b_X_manage : ByteArray := prog_9_method_21_code
def y_X_manage : MethodName := ⟨R_X, "manage", "(IIII)I"⟩
theorem cd_X_manage : y_X_manage.cls ≠ "java/lang/invoke/MethodHandle" ∧ y_X_manage.cls ≠ "java/lang/invoke/VarHandle" ∧ (parseMethodDescriptor y_X_manage.desc).map (fun d => d.parameters.length) = some 4 := by decide +kernel
abbrev b_X_instruct : ByteArray := prog_9_method_22_code
def y_X_instruct : MethodName := ⟨R_X, "instruct", "()V"⟩
theorem cd_X_instruct : y_X_instruct.cls ≠ "java/lang/invoke/MethodHandle" ∧ y_X_instruct.cls ≠ "java/lang/invoke/VarHandle" ∧ (parseMethodDescriptor y_X_instruct.desc).map (fun d => d.parameters.length) = some 0 := by decide +kernel
abbrev b_X_step : ByteArray := prog_9_method_23_code
def y_X_step : MethodName := ⟨R_X, "step", "()V"⟩
theorem cd_X_step : y_X_step.cls ≠ "java/lang/invoke/MethodHandle" ∧ y_X_step.cls ≠ "java/lang/invoke/VarHandle" ∧ (parseMethodDescriptor y_X_step.desc).map (fun d => d.parameters.length) = some 0 := by decide +kernel
abbrev b_X_traps : ByteArray := prog_9_method_24_code
def y_X_traps : MethodName := ⟨R_X, "traps", "()I"⟩
theorem cd_X_traps : y_X_traps.cls ≠ "java/lang/invoke/MethodHandle" ∧ y_X_traps.cls ≠ "java/lang/invoke/VarHandle" ∧ (parseMethodDescriptor y_X_traps.desc).map (fun d => d.parameters.length) = some 0 := by decide +kernel
abbrev b_X_run : ByteArray := prog_9_method_25_code
def y_X_run : MethodName := ⟨R_X, "run", "(I)I"⟩
theorem cd_X_run : y_X_run.cls ≠ "java/lang/invoke/MethodHandle" ∧ y_X_run.cls ≠ "java/lang/invoke/VarHandle" ∧ (parseMethodDescriptor y_X_run.desc).map (fun d => d.parameters.length) = some 1 := by decide +kernel
abbrev b_X_state : ByteArray := prog_9_method_26_code
def y_X_state : MethodName := ⟨R_X, "state", "(I)I"⟩
theorem cd_X_state : y_X_state.cls ≠ "java/lang/invoke/MethodHandle" ∧ y_X_state.cls ≠ "java/lang/invoke/VarHandle" ∧ (parseMethodDescriptor y_X_state.desc).map (fun d => d.parameters.length) = some 1 := by decide +kernel
abbrev b_X_register : ByteArray := prog_9_method_27_code
def y_X_register : MethodName := ⟨R_X, "register", "(I)I"⟩
theorem cd_X_register : y_X_register.cls ≠ "java/lang/invoke/MethodHandle" ∧ y_X_register.cls ≠ "java/lang/invoke/VarHandle" ∧ (parseMethodDescriptor y_X_register.desc).map (fun d => d.parameters.length) = some 1 := by decide +kernel
abbrev b_X_space : ByteArray := prog_9_method_28_code
def y_X_space : MethodName := ⟨R_X, "space", "(I)I"⟩
theorem cd_X_space : y_X_space.cls ≠ "java/lang/invoke/MethodHandle" ∧ y_X_space.cls ≠ "java/lang/invoke/VarHandle" ∧ (parseMethodDescriptor y_X_space.desc).map (fun d => d.parameters.length) = some 1 := by decide +kernel
abbrev b_X_word : ByteArray := prog_9_method_29_code
def y_X_word : MethodName := ⟨R_X, "word", "(II)I"⟩
theorem cd_X_word : y_X_word.cls ≠ "java/lang/invoke/MethodHandle" ∧ y_X_word.cls ≠ "java/lang/invoke/VarHandle" ∧ (parseMethodDescriptor y_X_word.desc).map (fun d => d.parameters.length) = some 2 := by decide +kernel
abbrev b_X_peek : ByteArray := prog_9_method_30_code
def y_X_peek : MethodName := ⟨R_X, "peek", "(II)I"⟩
theorem cd_X_peek : y_X_peek.cls ≠ "java/lang/invoke/MethodHandle" ∧ y_X_peek.cls ≠ "java/lang/invoke/VarHandle" ∧ (parseMethodDescriptor y_X_peek.desc).map (fun d => d.parameters.length) = some 2 := by decide +kernel
abbrev b_X_count : ByteArray := prog_9_method_31_code
def y_X_count : MethodName := ⟨R_X, "count", "(I)I"⟩
theorem cd_X_count : y_X_count.cls ≠ "java/lang/invoke/MethodHandle" ∧ y_X_count.cls ≠ "java/lang/invoke/VarHandle" ∧ (parseMethodDescriptor y_X_count.desc).map (fun d => d.parameters.length) = some 1 := by decide +kernel
abbrev b_X_mark : ByteArray := prog_9_method_32_code
def y_X_mark : MethodName := ⟨R_X, "mark", "()V"⟩
theorem cd_X_mark : y_X_mark.cls ≠ "java/lang/invoke/MethodHandle" ∧ y_X_mark.cls ≠ "java/lang/invoke/VarHandle" ∧ (parseMethodDescriptor y_X_mark.desc).map (fun d => d.parameters.length) = some 0 := by decide +kernel
abbrev b_X_back : ByteArray := prog_9_method_33_code
def y_X_back : MethodName := ⟨R_X, "back", "()Z"⟩
theorem cd_X_back : y_X_back.cls ≠ "java/lang/invoke/MethodHandle" ∧ y_X_back.cls ≠ "java/lang/invoke/VarHandle" ∧ (parseMethodDescriptor y_X_back.desc).map (fun d => d.parameters.length) = some 0 := by decide +kernel
abbrev b_Co_holds : ByteArray := prog_2_method_2_code
def y_Co_holds : MethodName := ⟨R_Co, "holds", "(III)Z"⟩
theorem cd_Co_holds : y_Co_holds.cls ≠ "java/lang/invoke/MethodHandle" ∧ y_Co_holds.cls ≠ "java/lang/invoke/VarHandle" ∧ (parseMethodDescriptor y_Co_holds.desc).map (fun d => d.parameters.length) = some 3 := by decide +kernel
abbrev b_Co_unsigned : ByteArray := prog_2_method_3_code
def y_Co_unsigned : MethodName := ⟨R_Co, "unsigned", "(I)J"⟩
theorem cd_Co_unsigned : y_Co_unsigned.cls ≠ "java/lang/invoke/MethodHandle" ∧ y_Co_unsigned.cls ≠ "java/lang/invoke/VarHandle" ∧ (parseMethodDescriptor y_Co_unsigned.desc).map (fun d => d.parameters.length) = some 1 := by decide +kernel
abbrev b_F_init : ByteArray := prog_3_method_1_code
def y_F_init : MethodName := ⟨R_F, "<init>", "()V"⟩
theorem cd_F_init : y_F_init.cls ≠ "java/lang/invoke/MethodHandle" ∧ y_F_init.cls ≠ "java/lang/invoke/VarHandle" ∧ (parseMethodDescriptor y_F_init.desc).map (fun d => d.parameters.length) = some 0 := by decide +kernel
abbrev b_F_startAt : ByteArray := prog_3_method_2_code
def y_F_startAt : MethodName := ⟨R_F, "startAt", "(II)V"⟩
theorem cd_F_startAt : y_F_startAt.cls ≠ "java/lang/invoke/MethodHandle" ∧ y_F_startAt.cls ≠ "java/lang/invoke/VarHandle" ∧ (parseMethodDescriptor y_F_startAt.desc).map (fun d => d.parameters.length) = some 2 := by decide +kernel
abbrev b_F_moveOn : ByteArray := prog_3_method_3_code
def y_F_moveOn : MethodName := ⟨R_F, "moveOn", "(Z)V"⟩
theorem cd_F_moveOn : y_F_moveOn.cls ≠ "java/lang/invoke/MethodHandle" ∧ y_F_moveOn.cls ≠ "java/lang/invoke/VarHandle" ∧ (parseMethodDescriptor y_F_moveOn.desc).map (fun d => d.parameters.length) = some 1 := by decide +kernel
abbrev b_F_moveOnTo : ByteArray := prog_3_method_4_code
def y_F_moveOnTo : MethodName := ⟨R_F, "moveOnTo", "(IZ)V"⟩
theorem cd_F_moveOnTo : y_F_moveOnTo.cls ≠ "java/lang/invoke/MethodHandle" ∧ y_F_moveOnTo.cls ≠ "java/lang/invoke/VarHandle" ∧ (parseMethodDescriptor y_F_moveOnTo.desc).map (fun d => d.parameters.length) = some 2 := by decide +kernel
abbrev b_F_become : ByteArray := prog_3_method_5_code
def y_F_become : MethodName := ⟨R_F, "become", "(LQueuedFronts$Flow;)V"⟩
theorem cd_F_become : y_F_become.cls ≠ "java/lang/invoke/MethodHandle" ∧ y_F_become.cls ≠ "java/lang/invoke/VarHandle" ∧ (parseMethodDescriptor y_F_become.desc).map (fun d => d.parameters.length) = some 1 := by decide +kernel
abbrev b_M_init : ByteArray := prog_5_method_1_code
def y_M_init : MethodName := ⟨R_M, "<init>", "()V"⟩
theorem cd_M_init : y_M_init.cls ≠ "java/lang/invoke/MethodHandle" ∧ y_M_init.cls ≠ "java/lang/invoke/VarHandle" ∧ (parseMethodDescriptor y_M_init.desc).map (fun d => d.parameters.length) = some 0 := by decide +kernel
abbrev b_M_become : ByteArray := prog_5_method_2_code
def y_M_become : MethodName := ⟨R_M, "become", "(LQueuedFronts$Machine;)V"⟩
theorem cd_M_become : y_M_become.cls ≠ "java/lang/invoke/MethodHandle" ∧ y_M_become.cls ≠ "java/lang/invoke/VarHandle" ∧ (parseMethodDescriptor y_M_become.desc).map (fun d => d.parameters.length) = some 1 := by decide +kernel
abbrev b_M_enterTrap : ByteArray := prog_5_method_3_code
def y_M_enterTrap : MethodName := ⟨R_M, "enterTrap", "(I)V"⟩
theorem cd_M_enterTrap : y_M_enterTrap.cls ≠ "java/lang/invoke/MethodHandle" ∧ y_M_enterTrap.cls ≠ "java/lang/invoke/VarHandle" ∧ (parseMethodDescriptor y_M_enterTrap.desc).map (fun d => d.parameters.length) = some 1 := by decide +kernel
abbrev b_M_causeOf : ByteArray := prog_5_method_4_code
def y_M_causeOf : MethodName := ⟨R_M, "causeOf", "(I)I"⟩
theorem cd_M_causeOf : y_M_causeOf.cls ≠ "java/lang/invoke/MethodHandle" ∧ y_M_causeOf.cls ≠ "java/lang/invoke/VarHandle" ∧ (parseMethodDescriptor y_M_causeOf.desc).map (fun d => d.parameters.length) = some 1 := by decide +kernel
abbrev b_M_perform : ByteArray := prog_5_method_5_code
def y_M_perform : MethodName := ⟨R_M, "perform", "(I)V"⟩
theorem cd_M_perform : y_M_perform.cls ≠ "java/lang/invoke/MethodHandle" ∧ y_M_perform.cls ≠ "java/lang/invoke/VarHandle" ∧ (parseMethodDescriptor y_M_perform.desc).map (fun d => d.parameters.length) = some 1 := by decide +kernel
abbrev b_M_reckon : ByteArray := prog_5_method_6_code
def y_M_reckon : MethodName := ⟨R_M, "reckon", "(I)V"⟩
theorem cd_M_reckon : y_M_reckon.cls ≠ "java/lang/invoke/MethodHandle" ∧ y_M_reckon.cls ≠ "java/lang/invoke/VarHandle" ∧ (parseMethodDescriptor y_M_reckon.desc).map (fun d => d.parameters.length) = some 1 := by decide +kernel
abbrev b_M_resultOf : ByteArray := prog_5_method_7_code
def y_M_resultOf : MethodName := ⟨R_M, "resultOf", "(III)I"⟩
theorem cd_M_resultOf : y_M_resultOf.cls ≠ "java/lang/invoke/MethodHandle" ∧ y_M_resultOf.cls ≠ "java/lang/invoke/VarHandle" ∧ (parseMethodDescriptor y_M_resultOf.desc).map (fun d => d.parameters.length) = some 3 := by decide +kernel
abbrev b_M_shifted : ByteArray := prog_5_method_8_code
def y_M_shifted : MethodName := ⟨R_M, "shifted", "(IIZ)I"⟩
theorem cd_M_shifted : y_M_shifted.cls ≠ "java/lang/invoke/MethodHandle" ∧ y_M_shifted.cls ≠ "java/lang/invoke/VarHandle" ∧ (parseMethodDescriptor y_M_shifted.desc).map (fun d => d.parameters.length) = some 3 := by decide +kernel
abbrev b_M_moveData : ByteArray := prog_5_method_9_code
def y_M_moveData : MethodName := ⟨R_M, "moveData", "(I)V"⟩
theorem cd_M_moveData : y_M_moveData.cls ≠ "java/lang/invoke/MethodHandle" ∧ y_M_moveData.cls ≠ "java/lang/invoke/VarHandle" ∧ (parseMethodDescriptor y_M_moveData.desc).map (fun d => d.parameters.length) = some 1 := by decide +kernel
abbrev b_M_branch : ByteArray := prog_5_method_10_code
def y_M_branch : MethodName := ⟨R_M, "branch", "(I)V"⟩
theorem cd_M_branch : y_M_branch.cls ≠ "java/lang/invoke/MethodHandle" ∧ y_M_branch.cls ≠ "java/lang/invoke/VarHandle" ∧ (parseMethodDescriptor y_M_branch.desc).map (fun d => d.parameters.length) = some 1 := by decide +kernel
abbrev b_M_takesBranch : ByteArray := prog_5_method_11_code
def y_M_takesBranch : MethodName := ⟨R_M, "takesBranch", "(II)Z"⟩
theorem cd_M_takesBranch : y_M_takesBranch.cls ≠ "java/lang/invoke/MethodHandle" ∧ y_M_takesBranch.cls ≠ "java/lang/invoke/VarHandle" ∧ (parseMethodDescriptor y_M_takesBranch.desc).map (fun d => d.parameters.length) = some 2 := by decide +kernel
abbrev b_M_targetOf : ByteArray := prog_5_method_12_code
def y_M_targetOf : MethodName := ⟨R_M, "targetOf", "(I)I"⟩
theorem cd_M_targetOf : y_M_targetOf.cls ≠ "java/lang/invoke/MethodHandle" ∧ y_M_targetOf.cls ≠ "java/lang/invoke/VarHandle" ∧ (parseMethodDescriptor y_M_targetOf.desc).map (fun d => d.parameters.length) = some 1 := by decide +kernel
abbrev b_M_branchNullifies : ByteArray := prog_5_method_13_code
def y_M_branchNullifies : MethodName := ⟨R_M, "branchNullifies", "(IZ)Z"⟩
theorem cd_M_branchNullifies : y_M_branchNullifies.cls ≠ "java/lang/invoke/MethodHandle" ∧ y_M_branchNullifies.cls ≠ "java/lang/invoke/VarHandle" ∧ (parseMethodDescriptor y_M_branchNullifies.desc).map (fun d => d.parameters.length) = some 2 := by decide +kernel
abbrev b_M_control : ByteArray := prog_5_method_14_code
def y_M_control : MethodName := ⟨R_M, "control", "(I)V"⟩
theorem cd_M_control : y_M_control.cls ≠ "java/lang/invoke/MethodHandle" ∧ y_M_control.cls ≠ "java/lang/invoke/VarHandle" ∧ (parseMethodDescriptor y_M_control.desc).map (fun d => d.parameters.length) = some 1 := by decide +kernel
abbrev b_M_savedThing : ByteArray := prog_5_method_15_code
def y_M_savedThing : MethodName := ⟨R_M, "savedThing", "(I)I"⟩
theorem cd_M_savedThing : y_M_savedThing.cls ≠ "java/lang/invoke/MethodHandle" ∧ y_M_savedThing.cls ≠ "java/lang/invoke/VarHandle" ∧ (parseMethodDescriptor y_M_savedThing.desc).map (fun d => d.parameters.length) = some 1 := by decide +kernel
abbrev b_M_setSavedThing : ByteArray := prog_5_method_16_code
def y_M_setSavedThing : MethodName := ⟨R_M, "setSavedThing", "(II)V"⟩
theorem cd_M_setSavedThing : y_M_setSavedThing.cls ≠ "java/lang/invoke/MethodHandle" ∧ y_M_setSavedThing.cls ≠ "java/lang/invoke/VarHandle" ∧ (parseMethodDescriptor y_M_setSavedThing.desc).map (fun d => d.parameters.length) = some 2 := by decide +kernel
abbrev b_M_valueA : ByteArray := prog_5_method_17_code
def y_M_valueA : MethodName := ⟨R_M, "valueA", "(I)I"⟩
theorem cd_M_valueA : y_M_valueA.cls ≠ "java/lang/invoke/MethodHandle" ∧ y_M_valueA.cls ≠ "java/lang/invoke/VarHandle" ∧ (parseMethodDescriptor y_M_valueA.desc).map (fun d => d.parameters.length) = some 1 := by decide +kernel
abbrev b_M_valueB : ByteArray := prog_5_method_18_code
def y_M_valueB : MethodName := ⟨R_M, "valueB", "(I)I"⟩
theorem cd_M_valueB : y_M_valueB.cls ≠ "java/lang/invoke/MethodHandle" ∧ y_M_valueB.cls ≠ "java/lang/invoke/VarHandle" ∧ (parseMethodDescriptor y_M_valueB.desc).map (fun d => d.parameters.length) = some 1 := by decide +kernel
abbrev b_M_valueT : ByteArray := prog_5_method_19_code
def y_M_valueT : MethodName := ⟨R_M, "valueT", "(I)I"⟩
theorem cd_M_valueT : y_M_valueT.cls ≠ "java/lang/invoke/MethodHandle" ∧ y_M_valueT.cls ≠ "java/lang/invoke/VarHandle" ∧ (parseMethodDescriptor y_M_valueT.desc).map (fun d => d.parameters.length) = some 1 := by decide +kernel
abbrev b_M_valueS : ByteArray := prog_5_method_20_code
def y_M_valueS : MethodName := ⟨R_M, "valueS", "(I)I"⟩
theorem cd_M_valueS : y_M_valueS.cls ≠ "java/lang/invoke/MethodHandle" ∧ y_M_valueS.cls ≠ "java/lang/invoke/VarHandle" ∧ (parseMethodDescriptor y_M_valueS.desc).map (fun d => d.parameters.length) = some 1 := by decide +kernel
abbrev b_M_setT : ByteArray := prog_5_method_21_code
def y_M_setT : MethodName := ⟨R_M, "setT", "(II)V"⟩
theorem cd_M_setT : y_M_setT.cls ≠ "java/lang/invoke/MethodHandle" ∧ y_M_setT.cls ≠ "java/lang/invoke/VarHandle" ∧ (parseMethodDescriptor y_M_setT.desc).map (fun d => d.parameters.length) = some 2 := by decide +kernel
abbrev b_M_isInt : ByteArray := prog_5_method_22_code
def y_M_isInt : MethodName := ⟨R_M, "isInt", "(J)Z"⟩
theorem cd_M_isInt : y_M_isInt.cls ≠ "java/lang/invoke/MethodHandle" ∧ y_M_isInt.cls ≠ "java/lang/invoke/VarHandle" ∧ (parseMethodDescriptor y_M_isInt.desc).map (fun d => d.parameters.length) = some 1 := by decide +kernel
abbrev b_Pa_kind : ByteArray := prog_6_method_2_code
def y_Pa_kind : MethodName := ⟨R_Pa, "kind", "(I)I"⟩
theorem cd_Pa_kind : y_Pa_kind.cls ≠ "java/lang/invoke/MethodHandle" ∧ y_Pa_kind.cls ≠ "java/lang/invoke/VarHandle" ∧ (parseMethodDescriptor y_Pa_kind.desc).map (fun d => d.parameters.length) = some 1 := by decide +kernel
abbrev b_Pa_t : ByteArray := prog_6_method_3_code
def y_Pa_t : MethodName := ⟨R_Pa, "t", "(I)I"⟩
theorem cd_Pa_t : y_Pa_t.cls ≠ "java/lang/invoke/MethodHandle" ∧ y_Pa_t.cls ≠ "java/lang/invoke/VarHandle" ∧ (parseMethodDescriptor y_Pa_t.desc).map (fun d => d.parameters.length) = some 1 := by decide +kernel
abbrev b_Pa_a : ByteArray := prog_6_method_4_code
def y_Pa_a : MethodName := ⟨R_Pa, "a", "(I)I"⟩
theorem cd_Pa_a : y_Pa_a.cls ≠ "java/lang/invoke/MethodHandle" ∧ y_Pa_a.cls ≠ "java/lang/invoke/VarHandle" ∧ (parseMethodDescriptor y_Pa_a.desc).map (fun d => d.parameters.length) = some 1 := by decide +kernel
abbrev b_Pa_b : ByteArray := prog_6_method_5_code
def y_Pa_b : MethodName := ⟨R_Pa, "b", "(I)I"⟩
theorem cd_Pa_b : y_Pa_b.cls ≠ "java/lang/invoke/MethodHandle" ∧ y_Pa_b.cls ≠ "java/lang/invoke/VarHandle" ∧ (parseMethodDescriptor y_Pa_b.desc).map (fun d => d.parameters.length) = some 1 := by decide +kernel
abbrev b_Pa_spaceRegister : ByteArray := prog_6_method_6_code
def y_Pa_spaceRegister : MethodName := ⟨R_Pa, "spaceRegister", "(I)I"⟩
theorem cd_Pa_spaceRegister : y_Pa_spaceRegister.cls ≠ "java/lang/invoke/MethodHandle" ∧ y_Pa_spaceRegister.cls ≠ "java/lang/invoke/VarHandle" ∧ (parseMethodDescriptor y_Pa_spaceRegister.desc).map (fun d => d.parameters.length) = some 1 := by decide +kernel
abbrev b_Pa_condition : ByteArray := prog_6_method_7_code
def y_Pa_condition : MethodName := ⟨R_Pa, "condition", "(I)I"⟩
theorem cd_Pa_condition : y_Pa_condition.cls ≠ "java/lang/invoke/MethodHandle" ∧ y_Pa_condition.cls ≠ "java/lang/invoke/VarHandle" ∧ (parseMethodDescriptor y_Pa_condition.desc).map (fun d => d.parameters.length) = some 1 := by decide +kernel
abbrev b_Pa_n : ByteArray := prog_6_method_8_code
def y_Pa_n : MethodName := ⟨R_Pa, "n", "(I)I"⟩
theorem cd_Pa_n : y_Pa_n.cls ≠ "java/lang/invoke/MethodHandle" ∧ y_Pa_n.cls ≠ "java/lang/invoke/VarHandle" ∧ (parseMethodDescriptor y_Pa_n.desc).map (fun d => d.parameters.length) = some 1 := by decide +kernel
abbrev b_Pa_m : ByteArray := prog_6_method_9_code
def y_Pa_m : MethodName := ⟨R_Pa, "m", "(I)I"⟩
theorem cd_Pa_m : y_Pa_m.cls ≠ "java/lang/invoke/MethodHandle" ∧ y_Pa_m.cls ≠ "java/lang/invoke/VarHandle" ∧ (parseMethodDescriptor y_Pa_m.desc).map (fun d => d.parameters.length) = some 1 := by decide +kernel
abbrev b_Pl_of : ByteArray := prog_7_method_2_code
def y_Pl_of : MethodName := ⟨R_Pl, "of", "(II)I"⟩
theorem cd_Pl_of : y_Pl_of.cls ≠ "java/lang/invoke/MethodHandle" ∧ y_Pl_of.cls ≠ "java/lang/invoke/VarHandle" ∧ (parseMethodDescriptor y_Pl_of.desc).map (fun d => d.parameters.length) = some 2 := by decide +kernel
abbrev b_Pl_spaceOf : ByteArray := prog_7_method_3_code
def y_Pl_spaceOf : MethodName := ⟨R_Pl, "spaceOf", "(I)I"⟩
theorem cd_Pl_spaceOf : y_Pl_spaceOf.cls ≠ "java/lang/invoke/MethodHandle" ∧ y_Pl_spaceOf.cls ≠ "java/lang/invoke/VarHandle" ∧ (parseMethodDescriptor y_Pl_spaceOf.desc).map (fun d => d.parameters.length) = some 1 := by decide +kernel
abbrev b_Pl_offsetOf : ByteArray := prog_7_method_4_code
def y_Pl_offsetOf : MethodName := ⟨R_Pl, "offsetOf", "(I)I"⟩
theorem cd_Pl_offsetOf : y_Pl_offsetOf.cls ≠ "java/lang/invoke/MethodHandle" ∧ y_Pl_offsetOf.cls ≠ "java/lang/invoke/VarHandle" ∧ (parseMethodDescriptor y_Pl_offsetOf.desc).map (fun d => d.parameters.length) = some 1 := by decide +kernel
abbrev b_Pl_behind : ByteArray := prog_7_method_5_code
def y_Pl_behind : MethodName := ⟨R_Pl, "behind", "(I)I"⟩
theorem cd_Pl_behind : y_Pl_behind.cls ≠ "java/lang/invoke/MethodHandle" ∧ y_Pl_behind.cls ≠ "java/lang/invoke/VarHandle" ∧ (parseMethodDescriptor y_Pl_behind.desc).map (fun d => d.parameters.length) = some 1 := by decide +kernel
/-- the links to a nest mate's private methods, which no word list carries -/
def qn (U : State) : Prop := va_Nw (Cond.methodLinkNest R_M 23 y_F_init R_Q) U ∧ va_Nw (Cond.methodLinkNest R_M 77 y_Q_isDataOffset R_Q) U ∧ va_Nw (Cond.methodLinkNest R_M 126 y_Q_dataIndex R_Q) U
theorem qn_same {u U : State} (h : u.vm = U.vm) (z : qn u) : qn U := ⟨va_Nw.same rfl h z.1, va_Nw.same rfl h z.2.1, va_Nw.same rfl h z.2.2⟩
theorem qn_warm {s U : State} (h : s.WarmedH U.vm) (z : qn s) : qn U := ⟨va_Nw.warmM h z.1, va_Nw.warmM h z.2.1, va_Nw.warmM h z.2.2⟩
end
section
theorem d_L_law_0 : decode code 0 = .ok (.new 7, 3) := by decide +kernel
theorem d_L_law_3 : decode code 3 = .ok (.dup, 1) := by decide +kernel
theorem d_L_law_4 : decode code 4 = .ok (.invokespecial 9, 3) := by decide +kernel
theorem d_L_law_7 : decode code 7 = .ok (.astore_n 1, 1) := by decide +kernel
theorem d_L_law_8 : decode code 8 = .ok (.new 10, 3) := by decide +kernel
theorem d_L_law_11 : decode code 11 = .ok (.dup, 1) := by decide +kernel
theorem d_L_law_12 : decode code 12 = .ok (.invokespecial 12, 3) := by decide +kernel
theorem d_L_law_15 : decode code 15 = .ok (.astore_n 2, 1) := by decide +kernel
theorem d_L_law_16 : decode code 16 = .ok (.iconst 0, 1) := by decide +kernel
theorem d_L_law_17 : decode code 17 = .ok (.istore_n 3, 1) := by decide +kernel
theorem d_L_law_18 : decode code 18 = .ok (.iload_n 3, 1) := by decide +kernel
theorem d_L_law_19 : decode code 19 = .ok (.aload_n 0, 1) := by decide +kernel
theorem d_L_law_20 : decode code 20 = .ok (.arraylength, 1) := by decide +kernel
theorem d_L_law_21 : decode code 21 = .ok (.iconst 4, 1) := by decide +kernel
theorem d_L_law_22 : decode code 22 = .ok (.isub, 1) := by decide +kernel
theorem d_L_law_23 : decode code 23 = .ok (.if_icmp .gt 520, 3) := by decide +kernel
theorem d_L_law_26 : decode code 26 = .ok (.aload_n 0, 1) := by decide +kernel
theorem d_L_law_27 : decode code 27 = .ok (.iload_n 3, 1) := by decide +kernel
theorem d_L_law_28 : decode code 28 = .ok (.iaload, 1) := by decide +kernel
theorem d_L_law_29 : decode code 29 = .ok (.bipush 15, 2) := by decide +kernel
theorem d_L_law_31 : decode code 31 = .ok (.iand, 1) := by decide +kernel
theorem d_L_law_32 : decode code 32 = .ok (.tableswitch 505 0 14 #[76, 119, 162, 195, 228, 287, 300, 323, 346, 369, 392, 425, 458, 481, 492], 76) := by decide +kernel
theorem d_L_law_108 : decode code 108 = .ok (.aload_n 1, 1) := by decide +kernel
theorem d_L_law_109 : decode code 109 = .ok (.aload_n 0, 1) := by decide +kernel
theorem d_L_law_110 : decode code 110 = .ok (.iload_n 3, 1) := by decide +kernel
theorem d_L_law_111 : decode code 111 = .ok (.iconst 1, 1) := by decide +kernel
theorem d_L_law_112 : decode code 112 = .ok (.iadd, 1) := by decide +kernel
theorem d_L_law_113 : decode code 113 = .ok (.iaload, 1) := by decide +kernel
theorem d_L_law_114 : decode code 114 = .ok (.aload_n 0, 1) := by decide +kernel
theorem d_L_law_115 : decode code 115 = .ok (.iload_n 3, 1) := by decide +kernel
theorem d_L_law_116 : decode code 116 = .ok (.iconst 2, 1) := by decide +kernel
theorem d_L_law_117 : decode code 117 = .ok (.iadd, 1) := by decide +kernel
theorem d_L_law_118 : decode code 118 = .ok (.iaload, 1) := by decide +kernel
theorem d_L_law_119 : decode code 119 = .ok (.aload_n 0, 1) := by decide +kernel
theorem d_L_law_120 : decode code 120 = .ok (.iload_n 3, 1) := by decide +kernel
theorem d_L_law_121 : decode code 121 = .ok (.iconst 3, 1) := by decide +kernel
theorem d_L_law_122 : decode code 122 = .ok (.iadd, 1) := by decide +kernel
theorem d_L_law_123 : decode code 123 = .ok (.iaload, 1) := by decide +kernel
theorem d_L_law_124 : decode code 124 = .ok (.invokevirtual 13, 3) := by decide +kernel
theorem d_L_law_127 : decode code 127 = .ok (.aload_n 2, 1) := by decide +kernel
theorem d_L_law_128 : decode code 128 = .ok (.aload_n 0, 1) := by decide +kernel
theorem d_L_law_129 : decode code 129 = .ok (.iload_n 3, 1) := by decide +kernel
theorem d_L_law_130 : decode code 130 = .ok (.iconst 1, 1) := by decide +kernel
theorem d_L_law_131 : decode code 131 = .ok (.iadd, 1) := by decide +kernel
theorem d_L_law_132 : decode code 132 = .ok (.iaload, 1) := by decide +kernel
theorem d_L_law_133 : decode code 133 = .ok (.aload_n 0, 1) := by decide +kernel
theorem d_L_law_134 : decode code 134 = .ok (.iload_n 3, 1) := by decide +kernel
theorem d_L_law_135 : decode code 135 = .ok (.iconst 2, 1) := by decide +kernel
theorem d_L_law_136 : decode code 136 = .ok (.iadd, 1) := by decide +kernel
theorem d_L_law_137 : decode code 137 = .ok (.iaload, 1) := by decide +kernel
theorem d_L_law_138 : decode code 138 = .ok (.aload_n 0, 1) := by decide +kernel
theorem d_L_law_139 : decode code 139 = .ok (.iload_n 3, 1) := by decide +kernel
theorem d_L_law_140 : decode code 140 = .ok (.iconst 3, 1) := by decide +kernel
theorem d_L_law_141 : decode code 141 = .ok (.iadd, 1) := by decide +kernel
theorem d_L_law_142 : decode code 142 = .ok (.iaload, 1) := by decide +kernel
theorem d_L_law_143 : decode code 143 = .ok (.invokevirtual 17, 3) := by decide +kernel
theorem d_L_law_146 : decode code 146 = .ok (.if_icmp .eq 391, 3) := by decide +kernel
theorem d_L_law_149 : decode code 149 = .ok (.iconst 0, 1) := by decide +kernel
theorem d_L_law_150 : decode code 150 = .ok (.ireturn, 1) := by decide +kernel
theorem d_L_law_151 : decode code 151 = .ok (.aload_n 1, 1) := by decide +kernel
theorem d_L_law_152 : decode code 152 = .ok (.aload_n 0, 1) := by decide +kernel
theorem d_L_law_153 : decode code 153 = .ok (.iload_n 3, 1) := by decide +kernel
theorem d_L_law_154 : decode code 154 = .ok (.iconst 1, 1) := by decide +kernel
theorem d_L_law_155 : decode code 155 = .ok (.iadd, 1) := by decide +kernel
theorem d_L_law_156 : decode code 156 = .ok (.iaload, 1) := by decide +kernel
theorem d_L_law_157 : decode code 157 = .ok (.aload_n 0, 1) := by decide +kernel
theorem d_L_law_158 : decode code 158 = .ok (.iload_n 3, 1) := by decide +kernel
theorem d_L_law_159 : decode code 159 = .ok (.iconst 2, 1) := by decide +kernel
theorem d_L_law_160 : decode code 160 = .ok (.iadd, 1) := by decide +kernel
theorem d_L_law_161 : decode code 161 = .ok (.iaload, 1) := by decide +kernel
theorem d_L_law_162 : decode code 162 = .ok (.aload_n 0, 1) := by decide +kernel
theorem d_L_law_163 : decode code 163 = .ok (.iload_n 3, 1) := by decide +kernel
theorem d_L_law_164 : decode code 164 = .ok (.iconst 3, 1) := by decide +kernel
theorem d_L_law_165 : decode code 165 = .ok (.iadd, 1) := by decide +kernel
theorem d_L_law_166 : decode code 166 = .ok (.iaload, 1) := by decide +kernel
theorem d_L_law_167 : decode code 167 = .ok (.invokevirtual 18, 3) := by decide +kernel
theorem d_L_law_170 : decode code 170 = .ok (.aload_n 2, 1) := by decide +kernel
theorem d_L_law_171 : decode code 171 = .ok (.aload_n 0, 1) := by decide +kernel
theorem d_L_law_172 : decode code 172 = .ok (.iload_n 3, 1) := by decide +kernel
theorem d_L_law_173 : decode code 173 = .ok (.iconst 1, 1) := by decide +kernel
theorem d_L_law_174 : decode code 174 = .ok (.iadd, 1) := by decide +kernel
theorem d_L_law_175 : decode code 175 = .ok (.iaload, 1) := by decide +kernel
theorem d_L_law_176 : decode code 176 = .ok (.aload_n 0, 1) := by decide +kernel
theorem d_L_law_177 : decode code 177 = .ok (.iload_n 3, 1) := by decide +kernel
theorem d_L_law_178 : decode code 178 = .ok (.iconst 2, 1) := by decide +kernel
theorem d_L_law_179 : decode code 179 = .ok (.iadd, 1) := by decide +kernel
theorem d_L_law_180 : decode code 180 = .ok (.iaload, 1) := by decide +kernel
theorem d_L_law_181 : decode code 181 = .ok (.aload_n 0, 1) := by decide +kernel
theorem d_L_law_182 : decode code 182 = .ok (.iload_n 3, 1) := by decide +kernel
theorem d_L_law_183 : decode code 183 = .ok (.iconst 3, 1) := by decide +kernel
theorem d_L_law_184 : decode code 184 = .ok (.iadd, 1) := by decide +kernel
theorem d_L_law_185 : decode code 185 = .ok (.iaload, 1) := by decide +kernel
theorem d_L_law_186 : decode code 186 = .ok (.invokevirtual 21, 3) := by decide +kernel
theorem d_L_law_189 : decode code 189 = .ok (.if_icmp .eq 348, 3) := by decide +kernel
theorem d_L_law_192 : decode code 192 = .ok (.iconst 0, 1) := by decide +kernel
theorem d_L_law_193 : decode code 193 = .ok (.ireturn, 1) := by decide +kernel
theorem d_L_law_194 : decode code 194 = .ok (.aload_n 1, 1) := by decide +kernel
theorem d_L_law_195 : decode code 195 = .ok (.aload_n 0, 1) := by decide +kernel
theorem d_L_law_196 : decode code 196 = .ok (.iload_n 3, 1) := by decide +kernel
theorem d_L_law_197 : decode code 197 = .ok (.iconst 1, 1) := by decide +kernel
theorem d_L_law_198 : decode code 198 = .ok (.iadd, 1) := by decide +kernel
theorem d_L_law_199 : decode code 199 = .ok (.iaload, 1) := by decide +kernel
theorem d_L_law_200 : decode code 200 = .ok (.aload_n 0, 1) := by decide +kernel
theorem d_L_law_201 : decode code 201 = .ok (.iload_n 3, 1) := by decide +kernel
theorem d_L_law_202 : decode code 202 = .ok (.iconst 2, 1) := by decide +kernel
theorem d_L_law_203 : decode code 203 = .ok (.iadd, 1) := by decide +kernel
theorem d_L_law_204 : decode code 204 = .ok (.iaload, 1) := by decide +kernel
theorem d_L_law_205 : decode code 205 = .ok (.invokevirtual 22, 3) := by decide +kernel
theorem d_L_law_208 : decode code 208 = .ok (.aload_n 2, 1) := by decide +kernel
theorem d_L_law_209 : decode code 209 = .ok (.aload_n 0, 1) := by decide +kernel
theorem d_L_law_210 : decode code 210 = .ok (.iload_n 3, 1) := by decide +kernel
theorem d_L_law_211 : decode code 211 = .ok (.iconst 1, 1) := by decide +kernel
theorem d_L_law_212 : decode code 212 = .ok (.iadd, 1) := by decide +kernel
theorem d_L_law_213 : decode code 213 = .ok (.iaload, 1) := by decide +kernel
theorem d_L_law_214 : decode code 214 = .ok (.aload_n 0, 1) := by decide +kernel
theorem d_L_law_215 : decode code 215 = .ok (.iload_n 3, 1) := by decide +kernel
theorem d_L_law_216 : decode code 216 = .ok (.iconst 2, 1) := by decide +kernel
theorem d_L_law_217 : decode code 217 = .ok (.iadd, 1) := by decide +kernel
theorem d_L_law_218 : decode code 218 = .ok (.iaload, 1) := by decide +kernel
theorem d_L_law_219 : decode code 219 = .ok (.invokevirtual 26, 3) := by decide +kernel
theorem d_L_law_222 : decode code 222 = .ok (.if_icmp .eq 315, 3) := by decide +kernel
theorem d_L_law_225 : decode code 225 = .ok (.iconst 0, 1) := by decide +kernel
theorem d_L_law_226 : decode code 226 = .ok (.ireturn, 1) := by decide +kernel
theorem d_L_law_227 : decode code 227 = .ok (.aload_n 1, 1) := by decide +kernel
theorem d_L_law_228 : decode code 228 = .ok (.aload_n 0, 1) := by decide +kernel
theorem d_L_law_229 : decode code 229 = .ok (.iload_n 3, 1) := by decide +kernel
theorem d_L_law_230 : decode code 230 = .ok (.iconst 1, 1) := by decide +kernel
theorem d_L_law_231 : decode code 231 = .ok (.iadd, 1) := by decide +kernel
theorem d_L_law_232 : decode code 232 = .ok (.iaload, 1) := by decide +kernel
theorem d_L_law_233 : decode code 233 = .ok (.aload_n 0, 1) := by decide +kernel
theorem d_L_law_234 : decode code 234 = .ok (.iload_n 3, 1) := by decide +kernel
theorem d_L_law_235 : decode code 235 = .ok (.iconst 2, 1) := by decide +kernel
theorem d_L_law_236 : decode code 236 = .ok (.iadd, 1) := by decide +kernel
theorem d_L_law_237 : decode code 237 = .ok (.iaload, 1) := by decide +kernel
theorem d_L_law_238 : decode code 238 = .ok (.invokevirtual 27, 3) := by decide +kernel
theorem d_L_law_241 : decode code 241 = .ok (.aload_n 2, 1) := by decide +kernel
theorem d_L_law_242 : decode code 242 = .ok (.aload_n 0, 1) := by decide +kernel
theorem d_L_law_243 : decode code 243 = .ok (.iload_n 3, 1) := by decide +kernel
theorem d_L_law_244 : decode code 244 = .ok (.iconst 1, 1) := by decide +kernel
theorem d_L_law_245 : decode code 245 = .ok (.iadd, 1) := by decide +kernel
theorem d_L_law_246 : decode code 246 = .ok (.iaload, 1) := by decide +kernel
theorem d_L_law_247 : decode code 247 = .ok (.aload_n 0, 1) := by decide +kernel
theorem d_L_law_248 : decode code 248 = .ok (.iload_n 3, 1) := by decide +kernel
theorem d_L_law_249 : decode code 249 = .ok (.iconst 2, 1) := by decide +kernel
theorem d_L_law_250 : decode code 250 = .ok (.iadd, 1) := by decide +kernel
theorem d_L_law_251 : decode code 251 = .ok (.iaload, 1) := by decide +kernel
theorem d_L_law_252 : decode code 252 = .ok (.invokevirtual 30, 3) := by decide +kernel
theorem d_L_law_255 : decode code 255 = .ok (.if_icmp .eq 282, 3) := by decide +kernel
theorem d_L_law_258 : decode code 258 = .ok (.iconst 0, 1) := by decide +kernel
theorem d_L_law_259 : decode code 259 = .ok (.ireturn, 1) := by decide +kernel
theorem d_L_law_260 : decode code 260 = .ok (.aload_n 1, 1) := by decide +kernel
theorem d_L_law_261 : decode code 261 = .ok (.aload_n 0, 1) := by decide +kernel
theorem d_L_law_262 : decode code 262 = .ok (.iload_n 3, 1) := by decide +kernel
theorem d_L_law_263 : decode code 263 = .ok (.iconst 1, 1) := by decide +kernel
theorem d_L_law_264 : decode code 264 = .ok (.iadd, 1) := by decide +kernel
theorem d_L_law_265 : decode code 265 = .ok (.iaload, 1) := by decide +kernel
theorem d_L_law_266 : decode code 266 = .ok (.aload_n 0, 1) := by decide +kernel
theorem d_L_law_267 : decode code 267 = .ok (.iload_n 3, 1) := by decide +kernel
theorem d_L_law_268 : decode code 268 = .ok (.iconst 2, 1) := by decide +kernel
theorem d_L_law_269 : decode code 269 = .ok (.iadd, 1) := by decide +kernel
theorem d_L_law_270 : decode code 270 = .ok (.iaload, 1) := by decide +kernel
theorem d_L_law_271 : decode code 271 = .ok (.aload_n 0, 1) := by decide +kernel
theorem d_L_law_272 : decode code 272 = .ok (.iload_n 3, 1) := by decide +kernel
theorem d_L_law_273 : decode code 273 = .ok (.iconst 3, 1) := by decide +kernel
theorem d_L_law_274 : decode code 274 = .ok (.iadd, 1) := by decide +kernel
theorem d_L_law_275 : decode code 275 = .ok (.iaload, 1) := by decide +kernel
theorem d_L_law_276 : decode code 276 = .ok (.ifCond .eq 7, 3) := by decide +kernel
theorem d_L_law_279 : decode code 279 = .ok (.iconst 1, 1) := by decide +kernel
theorem d_L_law_280 : decode code 280 = .ok (.goto 4, 3) := by decide +kernel
theorem d_L_law_283 : decode code 283 = .ok (.iconst 0, 1) := by decide +kernel
theorem d_L_law_284 : decode code 284 = .ok (.invokevirtual 31, 3) := by decide +kernel
theorem d_L_law_287 : decode code 287 = .ok (.aload_n 2, 1) := by decide +kernel
theorem d_L_law_288 : decode code 288 = .ok (.aload_n 0, 1) := by decide +kernel
theorem d_L_law_289 : decode code 289 = .ok (.iload_n 3, 1) := by decide +kernel
theorem d_L_law_290 : decode code 290 = .ok (.iconst 1, 1) := by decide +kernel
theorem d_L_law_291 : decode code 291 = .ok (.iadd, 1) := by decide +kernel
theorem d_L_law_292 : decode code 292 = .ok (.iaload, 1) := by decide +kernel
theorem d_L_law_293 : decode code 293 = .ok (.aload_n 0, 1) := by decide +kernel
theorem d_L_law_294 : decode code 294 = .ok (.iload_n 3, 1) := by decide +kernel
theorem d_L_law_295 : decode code 295 = .ok (.iconst 2, 1) := by decide +kernel
theorem d_L_law_296 : decode code 296 = .ok (.iadd, 1) := by decide +kernel
theorem d_L_law_297 : decode code 297 = .ok (.iaload, 1) := by decide +kernel
theorem d_L_law_298 : decode code 298 = .ok (.aload_n 0, 1) := by decide +kernel
theorem d_L_law_299 : decode code 299 = .ok (.iload_n 3, 1) := by decide +kernel
theorem d_L_law_300 : decode code 300 = .ok (.iconst 3, 1) := by decide +kernel
theorem d_L_law_301 : decode code 301 = .ok (.iadd, 1) := by decide +kernel
theorem d_L_law_302 : decode code 302 = .ok (.iaload, 1) := by decide +kernel
theorem d_L_law_303 : decode code 303 = .ok (.ifCond .eq 7, 3) := by decide +kernel
theorem d_L_law_306 : decode code 306 = .ok (.iconst 1, 1) := by decide +kernel
theorem d_L_law_307 : decode code 307 = .ok (.goto 4, 3) := by decide +kernel
theorem d_L_law_310 : decode code 310 = .ok (.iconst 0, 1) := by decide +kernel
theorem d_L_law_311 : decode code 311 = .ok (.invokevirtual 35, 3) := by decide +kernel
theorem d_L_law_314 : decode code 314 = .ok (.if_icmp .eq 223, 3) := by decide +kernel
theorem d_L_law_317 : decode code 317 = .ok (.iconst 0, 1) := by decide +kernel
theorem d_L_law_318 : decode code 318 = .ok (.ireturn, 1) := by decide +kernel
theorem d_L_law_319 : decode code 319 = .ok (.aload_n 1, 1) := by decide +kernel
theorem d_L_law_320 : decode code 320 = .ok (.invokevirtual 36, 3) := by decide +kernel
theorem d_L_law_323 : decode code 323 = .ok (.aload_n 2, 1) := by decide +kernel
theorem d_L_law_324 : decode code 324 = .ok (.invokevirtual 40, 3) := by decide +kernel
theorem d_L_law_327 : decode code 327 = .ok (.if_icmp .eq 210, 3) := by decide +kernel
theorem d_L_law_330 : decode code 330 = .ok (.iconst 0, 1) := by decide +kernel
theorem d_L_law_331 : decode code 331 = .ok (.ireturn, 1) := by decide +kernel
theorem d_L_law_332 : decode code 332 = .ok (.aload_n 1, 1) := by decide +kernel
theorem d_L_law_333 : decode code 333 = .ok (.aload_n 0, 1) := by decide +kernel
theorem d_L_law_334 : decode code 334 = .ok (.iload_n 3, 1) := by decide +kernel
theorem d_L_law_335 : decode code 335 = .ok (.iconst 1, 1) := by decide +kernel
theorem d_L_law_336 : decode code 336 = .ok (.iadd, 1) := by decide +kernel
theorem d_L_law_337 : decode code 337 = .ok (.iaload, 1) := by decide +kernel
theorem d_L_law_338 : decode code 338 = .ok (.invokevirtual 41, 3) := by decide +kernel
theorem d_L_law_341 : decode code 341 = .ok (.aload_n 2, 1) := by decide +kernel
theorem d_L_law_342 : decode code 342 = .ok (.aload_n 0, 1) := by decide +kernel
theorem d_L_law_343 : decode code 343 = .ok (.iload_n 3, 1) := by decide +kernel
theorem d_L_law_344 : decode code 344 = .ok (.iconst 1, 1) := by decide +kernel
theorem d_L_law_345 : decode code 345 = .ok (.iadd, 1) := by decide +kernel
theorem d_L_law_346 : decode code 346 = .ok (.iaload, 1) := by decide +kernel
theorem d_L_law_347 : decode code 347 = .ok (.invokevirtual 45, 3) := by decide +kernel
theorem d_L_law_350 : decode code 350 = .ok (.if_icmp .eq 187, 3) := by decide +kernel
theorem d_L_law_353 : decode code 353 = .ok (.iconst 0, 1) := by decide +kernel
theorem d_L_law_354 : decode code 354 = .ok (.ireturn, 1) := by decide +kernel
theorem d_L_law_355 : decode code 355 = .ok (.aload_n 1, 1) := by decide +kernel
theorem d_L_law_356 : decode code 356 = .ok (.aload_n 0, 1) := by decide +kernel
theorem d_L_law_357 : decode code 357 = .ok (.iload_n 3, 1) := by decide +kernel
theorem d_L_law_358 : decode code 358 = .ok (.iconst 1, 1) := by decide +kernel
theorem d_L_law_359 : decode code 359 = .ok (.iadd, 1) := by decide +kernel
theorem d_L_law_360 : decode code 360 = .ok (.iaload, 1) := by decide +kernel
theorem d_L_law_361 : decode code 361 = .ok (.invokevirtual 46, 3) := by decide +kernel
theorem d_L_law_364 : decode code 364 = .ok (.aload_n 2, 1) := by decide +kernel
theorem d_L_law_365 : decode code 365 = .ok (.aload_n 0, 1) := by decide +kernel
theorem d_L_law_366 : decode code 366 = .ok (.iload_n 3, 1) := by decide +kernel
theorem d_L_law_367 : decode code 367 = .ok (.iconst 1, 1) := by decide +kernel
theorem d_L_law_368 : decode code 368 = .ok (.iadd, 1) := by decide +kernel
theorem d_L_law_369 : decode code 369 = .ok (.iaload, 1) := by decide +kernel
theorem d_L_law_370 : decode code 370 = .ok (.invokevirtual 49, 3) := by decide +kernel
theorem d_L_law_373 : decode code 373 = .ok (.if_icmp .eq 164, 3) := by decide +kernel
theorem d_L_law_376 : decode code 376 = .ok (.iconst 0, 1) := by decide +kernel
theorem d_L_law_377 : decode code 377 = .ok (.ireturn, 1) := by decide +kernel
theorem d_L_law_378 : decode code 378 = .ok (.aload_n 1, 1) := by decide +kernel
theorem d_L_law_379 : decode code 379 = .ok (.aload_n 0, 1) := by decide +kernel
theorem d_L_law_380 : decode code 380 = .ok (.iload_n 3, 1) := by decide +kernel
theorem d_L_law_381 : decode code 381 = .ok (.iconst 1, 1) := by decide +kernel
theorem d_L_law_382 : decode code 382 = .ok (.iadd, 1) := by decide +kernel
theorem d_L_law_383 : decode code 383 = .ok (.iaload, 1) := by decide +kernel
theorem d_L_law_384 : decode code 384 = .ok (.invokevirtual 50, 3) := by decide +kernel
theorem d_L_law_387 : decode code 387 = .ok (.aload_n 2, 1) := by decide +kernel
theorem d_L_law_388 : decode code 388 = .ok (.aload_n 0, 1) := by decide +kernel
theorem d_L_law_389 : decode code 389 = .ok (.iload_n 3, 1) := by decide +kernel
theorem d_L_law_390 : decode code 390 = .ok (.iconst 1, 1) := by decide +kernel
theorem d_L_law_391 : decode code 391 = .ok (.iadd, 1) := by decide +kernel
theorem d_L_law_392 : decode code 392 = .ok (.iaload, 1) := by decide +kernel
theorem d_L_law_393 : decode code 393 = .ok (.invokevirtual 53, 3) := by decide +kernel
theorem d_L_law_396 : decode code 396 = .ok (.if_icmp .eq 141, 3) := by decide +kernel
theorem d_L_law_399 : decode code 399 = .ok (.iconst 0, 1) := by decide +kernel
theorem d_L_law_400 : decode code 400 = .ok (.ireturn, 1) := by decide +kernel
theorem d_L_law_401 : decode code 401 = .ok (.aload_n 1, 1) := by decide +kernel
theorem d_L_law_402 : decode code 402 = .ok (.aload_n 0, 1) := by decide +kernel
theorem d_L_law_403 : decode code 403 = .ok (.iload_n 3, 1) := by decide +kernel
theorem d_L_law_404 : decode code 404 = .ok (.iconst 1, 1) := by decide +kernel
theorem d_L_law_405 : decode code 405 = .ok (.iadd, 1) := by decide +kernel
theorem d_L_law_406 : decode code 406 = .ok (.iaload, 1) := by decide +kernel
theorem d_L_law_407 : decode code 407 = .ok (.invokevirtual 54, 3) := by decide +kernel
theorem d_L_law_410 : decode code 410 = .ok (.aload_n 2, 1) := by decide +kernel
theorem d_L_law_411 : decode code 411 = .ok (.aload_n 0, 1) := by decide +kernel
theorem d_L_law_412 : decode code 412 = .ok (.iload_n 3, 1) := by decide +kernel
theorem d_L_law_413 : decode code 413 = .ok (.iconst 1, 1) := by decide +kernel
theorem d_L_law_414 : decode code 414 = .ok (.iadd, 1) := by decide +kernel
theorem d_L_law_415 : decode code 415 = .ok (.iaload, 1) := by decide +kernel
theorem d_L_law_416 : decode code 416 = .ok (.invokevirtual 57, 3) := by decide +kernel
theorem d_L_law_419 : decode code 419 = .ok (.if_icmp .eq 118, 3) := by decide +kernel
theorem d_L_law_422 : decode code 422 = .ok (.iconst 0, 1) := by decide +kernel
theorem d_L_law_423 : decode code 423 = .ok (.ireturn, 1) := by decide +kernel
theorem d_L_law_424 : decode code 424 = .ok (.aload_n 1, 1) := by decide +kernel
theorem d_L_law_425 : decode code 425 = .ok (.aload_n 0, 1) := by decide +kernel
theorem d_L_law_426 : decode code 426 = .ok (.iload_n 3, 1) := by decide +kernel
theorem d_L_law_427 : decode code 427 = .ok (.iconst 1, 1) := by decide +kernel
theorem d_L_law_428 : decode code 428 = .ok (.iadd, 1) := by decide +kernel
theorem d_L_law_429 : decode code 429 = .ok (.iaload, 1) := by decide +kernel
theorem d_L_law_430 : decode code 430 = .ok (.aload_n 0, 1) := by decide +kernel
theorem d_L_law_431 : decode code 431 = .ok (.iload_n 3, 1) := by decide +kernel
theorem d_L_law_432 : decode code 432 = .ok (.iconst 2, 1) := by decide +kernel
theorem d_L_law_433 : decode code 433 = .ok (.iadd, 1) := by decide +kernel
theorem d_L_law_434 : decode code 434 = .ok (.iaload, 1) := by decide +kernel
theorem d_L_law_435 : decode code 435 = .ok (.invokevirtual 58, 3) := by decide +kernel
theorem d_L_law_438 : decode code 438 = .ok (.aload_n 2, 1) := by decide +kernel
theorem d_L_law_439 : decode code 439 = .ok (.aload_n 0, 1) := by decide +kernel
theorem d_L_law_440 : decode code 440 = .ok (.iload_n 3, 1) := by decide +kernel
theorem d_L_law_441 : decode code 441 = .ok (.iconst 1, 1) := by decide +kernel
theorem d_L_law_442 : decode code 442 = .ok (.iadd, 1) := by decide +kernel
theorem d_L_law_443 : decode code 443 = .ok (.iaload, 1) := by decide +kernel
theorem d_L_law_444 : decode code 444 = .ok (.aload_n 0, 1) := by decide +kernel
theorem d_L_law_445 : decode code 445 = .ok (.iload_n 3, 1) := by decide +kernel
theorem d_L_law_446 : decode code 446 = .ok (.iconst 2, 1) := by decide +kernel
theorem d_L_law_447 : decode code 447 = .ok (.iadd, 1) := by decide +kernel
theorem d_L_law_448 : decode code 448 = .ok (.iaload, 1) := by decide +kernel
theorem d_L_law_449 : decode code 449 = .ok (.invokevirtual 62, 3) := by decide +kernel
theorem d_L_law_452 : decode code 452 = .ok (.if_icmp .eq 85, 3) := by decide +kernel
theorem d_L_law_455 : decode code 455 = .ok (.iconst 0, 1) := by decide +kernel
theorem d_L_law_456 : decode code 456 = .ok (.ireturn, 1) := by decide +kernel
theorem d_L_law_457 : decode code 457 = .ok (.aload_n 1, 1) := by decide +kernel
theorem d_L_law_458 : decode code 458 = .ok (.aload_n 0, 1) := by decide +kernel
theorem d_L_law_459 : decode code 459 = .ok (.iload_n 3, 1) := by decide +kernel
theorem d_L_law_460 : decode code 460 = .ok (.iconst 1, 1) := by decide +kernel
theorem d_L_law_461 : decode code 461 = .ok (.iadd, 1) := by decide +kernel
theorem d_L_law_462 : decode code 462 = .ok (.iaload, 1) := by decide +kernel
theorem d_L_law_463 : decode code 463 = .ok (.aload_n 0, 1) := by decide +kernel
theorem d_L_law_464 : decode code 464 = .ok (.iload_n 3, 1) := by decide +kernel
theorem d_L_law_465 : decode code 465 = .ok (.iconst 2, 1) := by decide +kernel
theorem d_L_law_466 : decode code 466 = .ok (.iadd, 1) := by decide +kernel
theorem d_L_law_467 : decode code 467 = .ok (.iaload, 1) := by decide +kernel
theorem d_L_law_468 : decode code 468 = .ok (.invokevirtual 63, 3) := by decide +kernel
theorem d_L_law_471 : decode code 471 = .ok (.aload_n 2, 1) := by decide +kernel
theorem d_L_law_472 : decode code 472 = .ok (.aload_n 0, 1) := by decide +kernel
theorem d_L_law_473 : decode code 473 = .ok (.iload_n 3, 1) := by decide +kernel
theorem d_L_law_474 : decode code 474 = .ok (.iconst 1, 1) := by decide +kernel
theorem d_L_law_475 : decode code 475 = .ok (.iadd, 1) := by decide +kernel
theorem d_L_law_476 : decode code 476 = .ok (.iaload, 1) := by decide +kernel
theorem d_L_law_477 : decode code 477 = .ok (.aload_n 0, 1) := by decide +kernel
theorem d_L_law_478 : decode code 478 = .ok (.iload_n 3, 1) := by decide +kernel
theorem d_L_law_479 : decode code 479 = .ok (.iconst 2, 1) := by decide +kernel
theorem d_L_law_480 : decode code 480 = .ok (.iadd, 1) := by decide +kernel
theorem d_L_law_481 : decode code 481 = .ok (.iaload, 1) := by decide +kernel
theorem d_L_law_482 : decode code 482 = .ok (.invokevirtual 66, 3) := by decide +kernel
theorem d_L_law_485 : decode code 485 = .ok (.if_icmp .eq 52, 3) := by decide +kernel
theorem d_L_law_488 : decode code 488 = .ok (.iconst 0, 1) := by decide +kernel
theorem d_L_law_489 : decode code 489 = .ok (.ireturn, 1) := by decide +kernel
theorem d_L_law_490 : decode code 490 = .ok (.aload_n 1, 1) := by decide +kernel
theorem d_L_law_491 : decode code 491 = .ok (.aload_n 0, 1) := by decide +kernel
theorem d_L_law_492 : decode code 492 = .ok (.iload_n 3, 1) := by decide +kernel
theorem d_L_law_493 : decode code 493 = .ok (.iconst 1, 1) := by decide +kernel
theorem d_L_law_494 : decode code 494 = .ok (.iadd, 1) := by decide +kernel
theorem d_L_law_495 : decode code 495 = .ok (.iaload, 1) := by decide +kernel
theorem d_L_law_496 : decode code 496 = .ok (.invokevirtual 67, 3) := by decide +kernel
theorem d_L_law_499 : decode code 499 = .ok (.aload_n 2, 1) := by decide +kernel
theorem d_L_law_500 : decode code 500 = .ok (.aload_n 0, 1) := by decide +kernel
theorem d_L_law_501 : decode code 501 = .ok (.iload_n 3, 1) := by decide +kernel
theorem d_L_law_502 : decode code 502 = .ok (.iconst 1, 1) := by decide +kernel
theorem d_L_law_503 : decode code 503 = .ok (.iadd, 1) := by decide +kernel
theorem d_L_law_504 : decode code 504 = .ok (.iaload, 1) := by decide +kernel
theorem d_L_law_505 : decode code 505 = .ok (.invokevirtual 70, 3) := by decide +kernel
theorem d_L_law_508 : decode code 508 = .ok (.if_icmp .eq 29, 3) := by decide +kernel
theorem d_L_law_511 : decode code 511 = .ok (.iconst 0, 1) := by decide +kernel
theorem d_L_law_512 : decode code 512 = .ok (.ireturn, 1) := by decide +kernel
theorem d_L_law_513 : decode code 513 = .ok (.aload_n 1, 1) := by decide +kernel
theorem d_L_law_514 : decode code 514 = .ok (.invokevirtual 71, 3) := by decide +kernel
theorem d_L_law_517 : decode code 517 = .ok (.aload_n 2, 1) := by decide +kernel
theorem d_L_law_518 : decode code 518 = .ok (.invokevirtual 74, 3) := by decide +kernel
theorem d_L_law_521 : decode code 521 = .ok (.goto 16, 3) := by decide +kernel
theorem d_L_law_524 : decode code 524 = .ok (.aload_n 1, 1) := by decide +kernel
theorem d_L_law_525 : decode code 525 = .ok (.invokevirtual 75, 3) := by decide +kernel
theorem d_L_law_528 : decode code 528 = .ok (.aload_n 2, 1) := by decide +kernel
theorem d_L_law_529 : decode code 529 = .ok (.invokevirtual 78, 3) := by decide +kernel
theorem d_L_law_532 : decode code 532 = .ok (.if_icmp .eq 5, 3) := by decide +kernel
theorem d_L_law_535 : decode code 535 = .ok (.iconst 0, 1) := by decide +kernel
theorem d_L_law_536 : decode code 536 = .ok (.ireturn, 1) := by decide +kernel
theorem d_L_law_537 : decode code 537 = .ok (.iinc 3 4, 3) := by decide +kernel
theorem d_L_law_540 : decode code 540 = .ok (.goto (-522), 3) := by decide +kernel
theorem d_L_law_543 : decode code 543 = .ok (.iconst 1, 1) := by decide +kernel
theorem d_L_law_544 : decode code 544 = .ok (.ireturn, 1) := by decide +kernel
end
section
theorem d_M_init_0 : decode b_M_init 0 = .ok (.aload_n 0, 1) := by decide +kernel
theorem d_M_init_1 : decode b_M_init 1 = .ok (.invokespecial 3, 3) := by decide +kernel
theorem d_M_init_4 : decode b_M_init 4 = .ok (.aload_n 0, 1) := by decide +kernel
theorem d_M_init_5 : decode b_M_init 5 = .ok (.bipush 8, 2) := by decide +kernel
theorem d_M_init_7 : decode b_M_init 7 = .ok (.newarray .int, 2) := by decide +kernel
theorem d_M_init_9 : decode b_M_init 9 = .ok (.putfield 9, 3) := by decide +kernel
theorem d_M_init_12 : decode b_M_init 12 = .ok (.aload_n 0, 1) := by decide +kernel
theorem d_M_init_13 : decode b_M_init 13 = .ok (.iconst 4, 1) := by decide +kernel
theorem d_M_init_14 : decode b_M_init 14 = .ok (.newarray .int, 2) := by decide +kernel
theorem d_M_init_16 : decode b_M_init 16 = .ok (.putfield 15, 3) := by decide +kernel
theorem d_M_init_19 : decode b_M_init 19 = .ok (.aload_n 0, 1) := by decide +kernel
theorem d_M_init_20 : decode b_M_init 20 = .ok (.bipush 64, 2) := by decide +kernel
theorem d_M_init_22 : decode b_M_init 22 = .ok (.newarray .int, 2) := by decide +kernel
theorem d_M_init_24 : decode b_M_init 24 = .ok (.putfield 18, 3) := by decide +kernel
theorem d_M_init_27 : decode b_M_init 27 = .ok (.aload_n 0, 1) := by decide +kernel
theorem d_M_init_28 : decode b_M_init 28 = .ok (.new 21, 3) := by decide +kernel
theorem d_M_init_31 : decode b_M_init 31 = .ok (.dup, 1) := by decide +kernel
theorem d_M_init_32 : decode b_M_init 32 = .ok (.invokespecial 23, 3) := by decide +kernel
theorem d_M_init_35 : decode b_M_init 35 = .ok (.putfield 24, 3) := by decide +kernel
theorem d_M_init_38 : decode b_M_init 38 = .ok (.aload_n 0, 1) := by decide +kernel
theorem d_M_init_39 : decode b_M_init 39 = .ok (.new 21, 3) := by decide +kernel
theorem d_M_init_42 : decode b_M_init 42 = .ok (.dup, 1) := by decide +kernel
theorem d_M_init_43 : decode b_M_init 43 = .ok (.invokespecial 23, 3) := by decide +kernel
theorem d_M_init_46 : decode b_M_init 46 = .ok (.putfield 28, 3) := by decide +kernel
theorem d_M_init_49 : decode b_M_init 49 = .ok (.aload_n 0, 1) := by decide +kernel
theorem d_M_init_50 : decode b_M_init 50 = .ok (.iconst 0, 1) := by decide +kernel
theorem d_M_init_51 : decode b_M_init 51 = .ok (.putfield 31, 3) := by decide +kernel
theorem d_M_init_54 : decode b_M_init 54 = .ok (.aload_n 0, 1) := by decide +kernel
theorem d_M_init_55 : decode b_M_init 55 = .ok (.iconst 0, 1) := by decide +kernel
theorem d_M_init_56 : decode b_M_init 56 = .ok (.putfield 35, 3) := by decide +kernel
theorem d_M_init_59 : decode b_M_init 59 = .ok (.aload_n 0, 1) := by decide +kernel
theorem d_M_init_60 : decode b_M_init 60 = .ok (.getfield 24, 3) := by decide +kernel
theorem d_M_init_63 : decode b_M_init 63 = .ok (.iconst 0, 1) := by decide +kernel
theorem d_M_init_64 : decode b_M_init 64 = .ok (.iconst 0, 1) := by decide +kernel
theorem d_M_init_65 : decode b_M_init 65 = .ok (.invokevirtual 38, 3) := by decide +kernel
theorem d_M_init_68 : decode b_M_init 68 = .ok (.return_, 1) := by decide +kernel
theorem d_M_become_0 : decode b_M_become 0 = .ok (.aload_n 1, 1) := by decide +kernel
theorem d_M_become_1 : decode b_M_become 1 = .ok (.getfield 9, 3) := by decide +kernel
theorem d_M_become_4 : decode b_M_become 4 = .ok (.iconst 0, 1) := by decide +kernel
theorem d_M_become_5 : decode b_M_become 5 = .ok (.aload_n 0, 1) := by decide +kernel
theorem d_M_become_6 : decode b_M_become 6 = .ok (.getfield 9, 3) := by decide +kernel
theorem d_M_become_9 : decode b_M_become 9 = .ok (.iconst 0, 1) := by decide +kernel
theorem d_M_become_10 : decode b_M_become 10 = .ok (.bipush 8, 2) := by decide +kernel
theorem d_M_become_12 : decode b_M_become 12 = .ok (.invokestatic 42, 3) := by decide +kernel
theorem d_M_become_15 : decode b_M_become 15 = .ok (.aload_n 1, 1) := by decide +kernel
theorem d_M_become_16 : decode b_M_become 16 = .ok (.getfield 15, 3) := by decide +kernel
theorem d_M_become_19 : decode b_M_become 19 = .ok (.iconst 0, 1) := by decide +kernel
theorem d_M_become_20 : decode b_M_become 20 = .ok (.aload_n 0, 1) := by decide +kernel
theorem d_M_become_21 : decode b_M_become 21 = .ok (.getfield 15, 3) := by decide +kernel
theorem d_M_become_24 : decode b_M_become 24 = .ok (.iconst 0, 1) := by decide +kernel
theorem d_M_become_25 : decode b_M_become 25 = .ok (.iconst 4, 1) := by decide +kernel
theorem d_M_become_26 : decode b_M_become 26 = .ok (.invokestatic 42, 3) := by decide +kernel
theorem d_M_become_29 : decode b_M_become 29 = .ok (.aload_n 1, 1) := by decide +kernel
theorem d_M_become_30 : decode b_M_become 30 = .ok (.getfield 18, 3) := by decide +kernel
theorem d_M_become_33 : decode b_M_become 33 = .ok (.iconst 0, 1) := by decide +kernel
theorem d_M_become_34 : decode b_M_become 34 = .ok (.aload_n 0, 1) := by decide +kernel
theorem d_M_become_35 : decode b_M_become 35 = .ok (.getfield 18, 3) := by decide +kernel
theorem d_M_become_38 : decode b_M_become 38 = .ok (.iconst 0, 1) := by decide +kernel
theorem d_M_become_39 : decode b_M_become 39 = .ok (.bipush 64, 2) := by decide +kernel
theorem d_M_become_41 : decode b_M_become 41 = .ok (.invokestatic 42, 3) := by decide +kernel
theorem d_M_become_44 : decode b_M_become 44 = .ok (.aload_n 0, 1) := by decide +kernel
theorem d_M_become_45 : decode b_M_become 45 = .ok (.getfield 24, 3) := by decide +kernel
theorem d_M_become_48 : decode b_M_become 48 = .ok (.aload_n 1, 1) := by decide +kernel
theorem d_M_become_49 : decode b_M_become 49 = .ok (.getfield 24, 3) := by decide +kernel
theorem d_M_become_52 : decode b_M_become 52 = .ok (.invokevirtual 48, 3) := by decide +kernel
theorem d_M_become_55 : decode b_M_become 55 = .ok (.aload_n 0, 1) := by decide +kernel
theorem d_M_become_56 : decode b_M_become 56 = .ok (.getfield 28, 3) := by decide +kernel
theorem d_M_become_59 : decode b_M_become 59 = .ok (.aload_n 1, 1) := by decide +kernel
theorem d_M_become_60 : decode b_M_become 60 = .ok (.getfield 28, 3) := by decide +kernel
theorem d_M_become_63 : decode b_M_become 63 = .ok (.invokevirtual 48, 3) := by decide +kernel
theorem d_M_become_66 : decode b_M_become 66 = .ok (.aload_n 0, 1) := by decide +kernel
theorem d_M_become_67 : decode b_M_become 67 = .ok (.aload_n 1, 1) := by decide +kernel
theorem d_M_become_68 : decode b_M_become 68 = .ok (.getfield 31, 3) := by decide +kernel
theorem d_M_become_71 : decode b_M_become 71 = .ok (.putfield 31, 3) := by decide +kernel
theorem d_M_become_74 : decode b_M_become 74 = .ok (.aload_n 0, 1) := by decide +kernel
theorem d_M_become_75 : decode b_M_become 75 = .ok (.aload_n 1, 1) := by decide +kernel
theorem d_M_become_76 : decode b_M_become 76 = .ok (.getfield 35, 3) := by decide +kernel
theorem d_M_become_79 : decode b_M_become 79 = .ok (.putfield 35, 3) := by decide +kernel
theorem d_M_become_82 : decode b_M_become 82 = .ok (.return_, 1) := by decide +kernel
theorem d_M_enterTrap_0 : decode b_M_enterTrap 0 = .ok (.aload_n 0, 1) := by decide +kernel
theorem d_M_enterTrap_1 : decode b_M_enterTrap 1 = .ok (.getfield 28, 3) := by decide +kernel
theorem d_M_enterTrap_4 : decode b_M_enterTrap 4 = .ok (.aload_n 0, 1) := by decide +kernel
theorem d_M_enterTrap_5 : decode b_M_enterTrap 5 = .ok (.getfield 24, 3) := by decide +kernel
theorem d_M_enterTrap_8 : decode b_M_enterTrap 8 = .ok (.invokevirtual 48, 3) := by decide +kernel
theorem d_M_enterTrap_11 : decode b_M_enterTrap 11 = .ok (.aload_n 0, 1) := by decide +kernel
theorem d_M_enterTrap_12 : decode b_M_enterTrap 12 = .ok (.iload_n 1, 1) := by decide +kernel
theorem d_M_enterTrap_13 : decode b_M_enterTrap 13 = .ok (.putfield 31, 3) := by decide +kernel
theorem d_M_enterTrap_16 : decode b_M_enterTrap 16 = .ok (.aload_n 0, 1) := by decide +kernel
theorem d_M_enterTrap_17 : decode b_M_enterTrap 17 = .ok (.getfield 24, 3) := by decide +kernel
theorem d_M_enterTrap_20 : decode b_M_enterTrap 20 = .ok (.iconst 0, 1) := by decide +kernel
theorem d_M_enterTrap_21 : decode b_M_enterTrap 21 = .ok (.iconst 4, 1) := by decide +kernel
theorem d_M_enterTrap_22 : decode b_M_enterTrap 22 = .ok (.iload_n 1, 1) := by decide +kernel
theorem d_M_enterTrap_23 : decode b_M_enterTrap 23 = .ok (.imul, 1) := by decide +kernel
theorem d_M_enterTrap_24 : decode b_M_enterTrap 24 = .ok (.invokestatic 52, 3) := by decide +kernel
theorem d_M_enterTrap_27 : decode b_M_enterTrap 27 = .ok (.iconst 0, 1) := by decide +kernel
theorem d_M_enterTrap_28 : decode b_M_enterTrap 28 = .ok (.invokevirtual 38, 3) := by decide +kernel
theorem d_M_enterTrap_31 : decode b_M_enterTrap 31 = .ok (.return_, 1) := by decide +kernel
theorem d_M_causeOf_0 : decode b_M_causeOf 0 = .ok (.iload_n 1, 1) := by decide +kernel
theorem d_M_causeOf_1 : decode b_M_causeOf 1 = .ok (.invokestatic 58, 3) := by decide +kernel
theorem d_M_causeOf_4 : decode b_M_causeOf 4 = .ok (.istore_n 2, 1) := by decide +kernel
theorem d_M_causeOf_5 : decode b_M_causeOf 5 = .ok (.iload_n 2, 1) := by decide +kernel
theorem d_M_causeOf_6 : decode b_M_causeOf 6 = .ok (.lookupswitch 124 #[(1, 50), (3, 75), (11, 100), (12, 100), (24, 122)], 50) := by decide +kernel
theorem d_M_causeOf_56 : decode b_M_causeOf 56 = .ok (.aload_n 0, 1) := by decide +kernel
theorem d_M_causeOf_57 : decode b_M_causeOf 57 = .ok (.iload_n 1, 1) := by decide +kernel
theorem d_M_causeOf_58 : decode b_M_causeOf 58 = .ok (.invokevirtual 64, 3) := by decide +kernel
theorem d_M_causeOf_61 : decode b_M_causeOf 61 = .ok (.i2l, 1) := by decide +kernel
theorem d_M_causeOf_62 : decode b_M_causeOf 62 = .ok (.aload_n 0, 1) := by decide +kernel
theorem d_M_causeOf_63 : decode b_M_causeOf 63 = .ok (.iload_n 1, 1) := by decide +kernel
theorem d_M_causeOf_64 : decode b_M_causeOf 64 = .ok (.invokevirtual 67, 3) := by decide +kernel
theorem d_M_causeOf_67 : decode b_M_causeOf 67 = .ok (.i2l, 1) := by decide +kernel
theorem d_M_causeOf_68 : decode b_M_causeOf 68 = .ok (.ladd, 1) := by decide +kernel
theorem d_M_causeOf_69 : decode b_M_causeOf 69 = .ok (.invokestatic 70, 3) := by decide +kernel
theorem d_M_causeOf_72 : decode b_M_causeOf 72 = .ok (.ifCond .eq 7, 3) := by decide +kernel
theorem d_M_causeOf_75 : decode b_M_causeOf 75 = .ok (.iconst 0, 1) := by decide +kernel
theorem d_M_causeOf_76 : decode b_M_causeOf 76 = .ok (.goto 4, 3) := by decide +kernel
theorem d_M_causeOf_79 : decode b_M_causeOf 79 = .ok (.iconst 2, 1) := by decide +kernel
theorem d_M_causeOf_80 : decode b_M_causeOf 80 = .ok (.ireturn, 1) := by decide +kernel
theorem d_M_causeOf_81 : decode b_M_causeOf 81 = .ok (.aload_n 0, 1) := by decide +kernel
theorem d_M_causeOf_82 : decode b_M_causeOf 82 = .ok (.iload_n 1, 1) := by decide +kernel
theorem d_M_causeOf_83 : decode b_M_causeOf 83 = .ok (.invokevirtual 64, 3) := by decide +kernel
theorem d_M_causeOf_86 : decode b_M_causeOf 86 = .ok (.i2l, 1) := by decide +kernel
theorem d_M_causeOf_87 : decode b_M_causeOf 87 = .ok (.aload_n 0, 1) := by decide +kernel
theorem d_M_causeOf_88 : decode b_M_causeOf 88 = .ok (.iload_n 1, 1) := by decide +kernel
theorem d_M_causeOf_89 : decode b_M_causeOf 89 = .ok (.invokevirtual 67, 3) := by decide +kernel
theorem d_M_causeOf_92 : decode b_M_causeOf 92 = .ok (.i2l, 1) := by decide +kernel
theorem d_M_causeOf_93 : decode b_M_causeOf 93 = .ok (.lsub, 1) := by decide +kernel
theorem d_M_causeOf_94 : decode b_M_causeOf 94 = .ok (.invokestatic 70, 3) := by decide +kernel
theorem d_M_causeOf_97 : decode b_M_causeOf 97 = .ok (.ifCond .eq 7, 3) := by decide +kernel
theorem d_M_causeOf_100 : decode b_M_causeOf 100 = .ok (.iconst 0, 1) := by decide +kernel
theorem d_M_causeOf_101 : decode b_M_causeOf 101 = .ok (.goto 4, 3) := by decide +kernel
theorem d_M_causeOf_104 : decode b_M_causeOf 104 = .ok (.iconst 2, 1) := by decide +kernel
theorem d_M_causeOf_105 : decode b_M_causeOf 105 = .ok (.ireturn, 1) := by decide +kernel
theorem d_M_causeOf_106 : decode b_M_causeOf 106 = .ok (.aload_n 0, 1) := by decide +kernel
theorem d_M_causeOf_107 : decode b_M_causeOf 107 = .ok (.iload_n 1, 1) := by decide +kernel
theorem d_M_causeOf_108 : decode b_M_causeOf 108 = .ok (.invokevirtual 64, 3) := by decide +kernel
theorem d_M_causeOf_111 : decode b_M_causeOf 111 = .ok (.iload_n 1, 1) := by decide +kernel
theorem d_M_causeOf_112 : decode b_M_causeOf 112 = .ok (.invokestatic 74, 3) := by decide +kernel
theorem d_M_causeOf_115 : decode b_M_causeOf 115 = .ok (.iadd, 1) := by decide +kernel
theorem d_M_causeOf_116 : decode b_M_causeOf 116 = .ok (.invokestatic 77, 3) := by decide +kernel
theorem d_M_causeOf_119 : decode b_M_causeOf 119 = .ok (.ifCond .eq 7, 3) := by decide +kernel
theorem d_M_causeOf_122 : decode b_M_causeOf 122 = .ok (.iconst 0, 1) := by decide +kernel
theorem d_M_causeOf_123 : decode b_M_causeOf 123 = .ok (.goto 4, 3) := by decide +kernel
theorem d_M_causeOf_126 : decode b_M_causeOf 126 = .ok (.iconst 3, 1) := by decide +kernel
theorem d_M_causeOf_127 : decode b_M_causeOf 127 = .ok (.ireturn, 1) := by decide +kernel
theorem d_M_causeOf_128 : decode b_M_causeOf 128 = .ok (.iconst 4, 1) := by decide +kernel
theorem d_M_causeOf_129 : decode b_M_causeOf 129 = .ok (.ireturn, 1) := by decide +kernel
theorem d_M_causeOf_130 : decode b_M_causeOf 130 = .ok (.iload_n 2, 1) := by decide +kernel
theorem d_M_causeOf_131 : decode b_M_causeOf 131 = .ok (.bipush 24, 2) := by decide +kernel
theorem d_M_causeOf_133 : decode b_M_causeOf 133 = .ok (.if_icmp .le 7, 3) := by decide +kernel
theorem d_M_causeOf_136 : decode b_M_causeOf 136 = .ok (.iconst 5, 1) := by decide +kernel
theorem d_M_causeOf_137 : decode b_M_causeOf 137 = .ok (.goto 4, 3) := by decide +kernel
theorem d_M_causeOf_140 : decode b_M_causeOf 140 = .ok (.iconst 0, 1) := by decide +kernel
theorem d_M_causeOf_141 : decode b_M_causeOf 141 = .ok (.ireturn, 1) := by decide +kernel
theorem d_M_perform_0 : decode b_M_perform 0 = .ok (.iload_n 1, 1) := by decide +kernel
theorem d_M_perform_1 : decode b_M_perform 1 = .ok (.invokestatic 58, 3) := by decide +kernel
theorem d_M_perform_4 : decode b_M_perform 4 = .ok (.istore_n 2, 1) := by decide +kernel
theorem d_M_perform_5 : decode b_M_perform 5 = .ok (.iload_n 2, 1) := by decide +kernel
theorem d_M_perform_6 : decode b_M_perform 6 = .ok (.bipush 10, 2) := by decide +kernel
theorem d_M_perform_8 : decode b_M_perform 8 = .ok (.if_icmp .gt 11, 3) := by decide +kernel
theorem d_M_perform_11 : decode b_M_perform 11 = .ok (.aload_n 0, 1) := by decide +kernel
theorem d_M_perform_12 : decode b_M_perform 12 = .ok (.iload_n 1, 1) := by decide +kernel
theorem d_M_perform_13 : decode b_M_perform 13 = .ok (.invokevirtual 83, 3) := by decide +kernel
theorem d_M_perform_16 : decode b_M_perform 16 = .ok (.goto 56, 3) := by decide +kernel
theorem d_M_perform_19 : decode b_M_perform 19 = .ok (.iload_n 2, 1) := by decide +kernel
theorem d_M_perform_20 : decode b_M_perform 20 = .ok (.bipush 12, 2) := by decide +kernel
theorem d_M_perform_22 : decode b_M_perform 22 = .ok (.if_icmp .gt 11, 3) := by decide +kernel
theorem d_M_perform_25 : decode b_M_perform 25 = .ok (.aload_n 0, 1) := by decide +kernel
theorem d_M_perform_26 : decode b_M_perform 26 = .ok (.iload_n 1, 1) := by decide +kernel
theorem d_M_perform_27 : decode b_M_perform 27 = .ok (.invokevirtual 87, 3) := by decide +kernel
theorem d_M_perform_30 : decode b_M_perform 30 = .ok (.goto 42, 3) := by decide +kernel
theorem d_M_perform_33 : decode b_M_perform 33 = .ok (.iload_n 2, 1) := by decide +kernel
theorem d_M_perform_34 : decode b_M_perform 34 = .ok (.bipush 17, 2) := by decide +kernel
theorem d_M_perform_36 : decode b_M_perform 36 = .ok (.if_icmp .gt 11, 3) := by decide +kernel
theorem d_M_perform_39 : decode b_M_perform 39 = .ok (.aload_n 0, 1) := by decide +kernel
theorem d_M_perform_40 : decode b_M_perform 40 = .ok (.iload_n 1, 1) := by decide +kernel
theorem d_M_perform_41 : decode b_M_perform 41 = .ok (.invokevirtual 90, 3) := by decide +kernel
theorem d_M_perform_44 : decode b_M_perform 44 = .ok (.goto 28, 3) := by decide +kernel
theorem d_M_perform_47 : decode b_M_perform 47 = .ok (.iload_n 2, 1) := by decide +kernel
theorem d_M_perform_48 : decode b_M_perform 48 = .ok (.bipush 21, 2) := by decide +kernel
theorem d_M_perform_50 : decode b_M_perform 50 = .ok (.if_icmp .ne 17, 3) := by decide +kernel
theorem d_M_perform_53 : decode b_M_perform 53 = .ok (.aload_n 0, 1) := by decide +kernel
theorem d_M_perform_54 : decode b_M_perform 54 = .ok (.getfield 24, 3) := by decide +kernel
theorem d_M_perform_57 : decode b_M_perform 57 = .ok (.aload_n 0, 1) := by decide +kernel
theorem d_M_perform_58 : decode b_M_perform 58 = .ok (.getfield 28, 3) := by decide +kernel
theorem d_M_perform_61 : decode b_M_perform 61 = .ok (.invokevirtual 48, 3) := by decide +kernel
theorem d_M_perform_64 : decode b_M_perform 64 = .ok (.goto 8, 3) := by decide +kernel
theorem d_M_perform_67 : decode b_M_perform 67 = .ok (.aload_n 0, 1) := by decide +kernel
theorem d_M_perform_68 : decode b_M_perform 68 = .ok (.iload_n 1, 1) := by decide +kernel
theorem d_M_perform_69 : decode b_M_perform 69 = .ok (.invokevirtual 93, 3) := by decide +kernel
theorem d_M_perform_72 : decode b_M_perform 72 = .ok (.return_, 1) := by decide +kernel
theorem d_M_reckon_0 : decode b_M_reckon 0 = .ok (.iload_n 1, 1) := by decide +kernel
theorem d_M_reckon_1 : decode b_M_reckon 1 = .ok (.invokestatic 58, 3) := by decide +kernel
theorem d_M_reckon_4 : decode b_M_reckon 4 = .ok (.istore_n 2, 1) := by decide +kernel
theorem d_M_reckon_5 : decode b_M_reckon 5 = .ok (.aload_n 0, 1) := by decide +kernel
theorem d_M_reckon_6 : decode b_M_reckon 6 = .ok (.iload_n 1, 1) := by decide +kernel
theorem d_M_reckon_7 : decode b_M_reckon 7 = .ok (.invokevirtual 64, 3) := by decide +kernel
theorem d_M_reckon_10 : decode b_M_reckon 10 = .ok (.istore_n 3, 1) := by decide +kernel
theorem d_M_reckon_11 : decode b_M_reckon 11 = .ok (.aload_n 0, 1) := by decide +kernel
theorem d_M_reckon_12 : decode b_M_reckon 12 = .ok (.iload_n 1, 1) := by decide +kernel
theorem d_M_reckon_13 : decode b_M_reckon 13 = .ok (.invokevirtual 67, 3) := by decide +kernel
theorem d_M_reckon_16 : decode b_M_reckon 16 = .ok (.istore 4, 2) := by decide +kernel
theorem d_M_reckon_18 : decode b_M_reckon 18 = .ok (.iload_n 1, 1) := by decide +kernel
theorem d_M_reckon_19 : decode b_M_reckon 19 = .ok (.iload_n 3, 1) := by decide +kernel
theorem d_M_reckon_20 : decode b_M_reckon 20 = .ok (.iload 4, 2) := by decide +kernel
theorem d_M_reckon_22 : decode b_M_reckon 22 = .ok (.invokestatic 96, 3) := by decide +kernel
theorem d_M_reckon_25 : decode b_M_reckon 25 = .ok (.istore 5, 2) := by decide +kernel
theorem d_M_reckon_27 : decode b_M_reckon 27 = .ok (.iload_n 2, 1) := by decide +kernel
theorem d_M_reckon_28 : decode b_M_reckon 28 = .ok (.iconst 2, 1) := by decide +kernel
theorem d_M_reckon_29 : decode b_M_reckon 29 = .ok (.if_icmp .eq 14, 3) := by decide +kernel
theorem d_M_reckon_32 : decode b_M_reckon 32 = .ok (.iload_n 2, 1) := by decide +kernel
theorem d_M_reckon_33 : decode b_M_reckon 33 = .ok (.iconst 3, 1) := by decide +kernel
theorem d_M_reckon_34 : decode b_M_reckon 34 = .ok (.if_icmp .eq 9, 3) := by decide +kernel
theorem d_M_reckon_37 : decode b_M_reckon 37 = .ok (.iload_n 2, 1) := by decide +kernel
theorem d_M_reckon_38 : decode b_M_reckon 38 = .ok (.bipush 8, 2) := by decide +kernel
theorem d_M_reckon_40 : decode b_M_reckon 40 = .ok (.if_icmp .ne 7, 3) := by decide +kernel
theorem d_M_reckon_43 : decode b_M_reckon 43 = .ok (.iconst 1, 1) := by decide +kernel
theorem d_M_reckon_44 : decode b_M_reckon 44 = .ok (.goto 4, 3) := by decide +kernel
theorem d_M_reckon_47 : decode b_M_reckon 47 = .ok (.iconst 0, 1) := by decide +kernel
theorem d_M_reckon_48 : decode b_M_reckon 48 = .ok (.istore 6, 2) := by decide +kernel
theorem d_M_reckon_50 : decode b_M_reckon 50 = .ok (.iload 6, 2) := by decide +kernel
theorem d_M_reckon_52 : decode b_M_reckon 52 = .ok (.ifCond .eq 16, 3) := by decide +kernel
theorem d_M_reckon_55 : decode b_M_reckon 55 = .ok (.iload_n 1, 1) := by decide +kernel
theorem d_M_reckon_56 : decode b_M_reckon 56 = .ok (.invokestatic 100, 3) := by decide +kernel
theorem d_M_reckon_59 : decode b_M_reckon 59 = .ok (.iload_n 3, 1) := by decide +kernel
theorem d_M_reckon_60 : decode b_M_reckon 60 = .ok (.iload 4, 2) := by decide +kernel
theorem d_M_reckon_62 : decode b_M_reckon 62 = .ok (.invokestatic 103, 3) := by decide +kernel
theorem d_M_reckon_65 : decode b_M_reckon 65 = .ok (.goto 13, 3) := by decide +kernel
theorem d_M_reckon_68 : decode b_M_reckon 68 = .ok (.iload_n 1, 1) := by decide +kernel
theorem d_M_reckon_69 : decode b_M_reckon 69 = .ok (.invokestatic 100, 3) := by decide +kernel
theorem d_M_reckon_72 : decode b_M_reckon 72 = .ok (.iload 5, 2) := by decide +kernel
theorem d_M_reckon_74 : decode b_M_reckon 74 = .ok (.iconst 0, 1) := by decide +kernel
theorem d_M_reckon_75 : decode b_M_reckon 75 = .ok (.invokestatic 103, 3) := by decide +kernel
theorem d_M_reckon_78 : decode b_M_reckon 78 = .ok (.istore 7, 2) := by decide +kernel
theorem d_M_reckon_80 : decode b_M_reckon 80 = .ok (.aload_n 0, 1) := by decide +kernel
theorem d_M_reckon_81 : decode b_M_reckon 81 = .ok (.iload_n 1, 1) := by decide +kernel
theorem d_M_reckon_82 : decode b_M_reckon 82 = .ok (.iload 5, 2) := by decide +kernel
theorem d_M_reckon_84 : decode b_M_reckon 84 = .ok (.invokevirtual 109, 3) := by decide +kernel
theorem d_M_reckon_87 : decode b_M_reckon 87 = .ok (.aload_n 0, 1) := by decide +kernel
theorem d_M_reckon_88 : decode b_M_reckon 88 = .ok (.getfield 24, 3) := by decide +kernel
theorem d_M_reckon_91 : decode b_M_reckon 91 = .ok (.iload 7, 2) := by decide +kernel
theorem d_M_reckon_93 : decode b_M_reckon 93 = .ok (.invokevirtual 112, 3) := by decide +kernel
theorem d_M_reckon_96 : decode b_M_reckon 96 = .ok (.return_, 1) := by decide +kernel
theorem d_M_resultOf_0 : decode b_M_resultOf 0 = .ok (.iload_n 0, 1) := by decide +kernel
theorem d_M_resultOf_1 : decode b_M_resultOf 1 = .ok (.invokestatic 58, 3) := by decide +kernel
theorem d_M_resultOf_4 : decode b_M_resultOf 4 = .ok (.tableswitch 118 0 10 #[60, 60, 64, 64, 68, 72, 76, 80, 118, 86, 93], 60) := by decide +kernel
theorem d_M_resultOf_64 : decode b_M_resultOf 64 = .ok (.iload_n 1, 1) := by decide +kernel
theorem d_M_resultOf_65 : decode b_M_resultOf 65 = .ok (.iload_n 2, 1) := by decide +kernel
theorem d_M_resultOf_66 : decode b_M_resultOf 66 = .ok (.iadd, 1) := by decide +kernel
theorem d_M_resultOf_67 : decode b_M_resultOf 67 = .ok (.ireturn, 1) := by decide +kernel
theorem d_M_resultOf_68 : decode b_M_resultOf 68 = .ok (.iload_n 1, 1) := by decide +kernel
theorem d_M_resultOf_69 : decode b_M_resultOf 69 = .ok (.iload_n 2, 1) := by decide +kernel
theorem d_M_resultOf_70 : decode b_M_resultOf 70 = .ok (.isub, 1) := by decide +kernel
theorem d_M_resultOf_71 : decode b_M_resultOf 71 = .ok (.ireturn, 1) := by decide +kernel
theorem d_M_resultOf_72 : decode b_M_resultOf 72 = .ok (.iload_n 1, 1) := by decide +kernel
theorem d_M_resultOf_73 : decode b_M_resultOf 73 = .ok (.iload_n 2, 1) := by decide +kernel
theorem d_M_resultOf_74 : decode b_M_resultOf 74 = .ok (.iand, 1) := by decide +kernel
theorem d_M_resultOf_75 : decode b_M_resultOf 75 = .ok (.ireturn, 1) := by decide +kernel
theorem d_M_resultOf_76 : decode b_M_resultOf 76 = .ok (.iload_n 1, 1) := by decide +kernel
theorem d_M_resultOf_77 : decode b_M_resultOf 77 = .ok (.iload_n 2, 1) := by decide +kernel
theorem d_M_resultOf_78 : decode b_M_resultOf 78 = .ok (.ior, 1) := by decide +kernel
theorem d_M_resultOf_79 : decode b_M_resultOf 79 = .ok (.ireturn, 1) := by decide +kernel
theorem d_M_resultOf_80 : decode b_M_resultOf 80 = .ok (.iload_n 1, 1) := by decide +kernel
theorem d_M_resultOf_81 : decode b_M_resultOf 81 = .ok (.iload_n 2, 1) := by decide +kernel
theorem d_M_resultOf_82 : decode b_M_resultOf 82 = .ok (.ixor, 1) := by decide +kernel
theorem d_M_resultOf_83 : decode b_M_resultOf 83 = .ok (.ireturn, 1) := by decide +kernel
theorem d_M_resultOf_84 : decode b_M_resultOf 84 = .ok (.iload_n 1, 1) := by decide +kernel
theorem d_M_resultOf_85 : decode b_M_resultOf 85 = .ok (.iload_n 2, 1) := by decide +kernel
theorem d_M_resultOf_86 : decode b_M_resultOf 86 = .ok (.iconst (-1), 1) := by decide +kernel
theorem d_M_resultOf_87 : decode b_M_resultOf 87 = .ok (.ixor, 1) := by decide +kernel
theorem d_M_resultOf_88 : decode b_M_resultOf 88 = .ok (.iand, 1) := by decide +kernel
theorem d_M_resultOf_89 : decode b_M_resultOf 89 = .ok (.ireturn, 1) := by decide +kernel
theorem d_M_resultOf_90 : decode b_M_resultOf 90 = .ok (.iload_n 1, 1) := by decide +kernel
theorem d_M_resultOf_91 : decode b_M_resultOf 91 = .ok (.iload_n 0, 1) := by decide +kernel
theorem d_M_resultOf_92 : decode b_M_resultOf 92 = .ok (.invokestatic 74, 3) := by decide +kernel
theorem d_M_resultOf_95 : decode b_M_resultOf 95 = .ok (.iadd, 1) := by decide +kernel
theorem d_M_resultOf_96 : decode b_M_resultOf 96 = .ok (.ireturn, 1) := by decide +kernel
theorem d_M_resultOf_97 : decode b_M_resultOf 97 = .ok (.iload_n 1, 1) := by decide +kernel
theorem d_M_resultOf_98 : decode b_M_resultOf 98 = .ok (.iload_n 0, 1) := by decide +kernel
theorem d_M_resultOf_99 : decode b_M_resultOf 99 = .ok (.invokestatic 74, 3) := by decide +kernel
theorem d_M_resultOf_102 : decode b_M_resultOf 102 = .ok (.bipush 31, 2) := by decide +kernel
theorem d_M_resultOf_104 : decode b_M_resultOf 104 = .ok (.iand, 1) := by decide +kernel
theorem d_M_resultOf_105 : decode b_M_resultOf 105 = .ok (.iload_n 0, 1) := by decide +kernel
theorem d_M_resultOf_106 : decode b_M_resultOf 106 = .ok (.invokestatic 116, 3) := by decide +kernel
theorem d_M_resultOf_109 : decode b_M_resultOf 109 = .ok (.iconst 1, 1) := by decide +kernel
theorem d_M_resultOf_110 : decode b_M_resultOf 110 = .ok (.if_icmp .ne 7, 3) := by decide +kernel
theorem d_M_resultOf_113 : decode b_M_resultOf 113 = .ok (.iconst 1, 1) := by decide +kernel
theorem d_M_resultOf_114 : decode b_M_resultOf 114 = .ok (.goto 4, 3) := by decide +kernel
theorem d_M_resultOf_117 : decode b_M_resultOf 117 = .ok (.iconst 0, 1) := by decide +kernel
theorem d_M_resultOf_118 : decode b_M_resultOf 118 = .ok (.invokestatic 119, 3) := by decide +kernel
theorem d_M_resultOf_121 : decode b_M_resultOf 121 = .ok (.ireturn, 1) := by decide +kernel
theorem d_M_resultOf_122 : decode b_M_resultOf 122 = .ok (.iconst 0, 1) := by decide +kernel
theorem d_M_resultOf_123 : decode b_M_resultOf 123 = .ok (.ireturn, 1) := by decide +kernel
theorem d_M_shifted_0 : decode b_M_shifted 0 = .ok (.iload_n 2, 1) := by decide +kernel
theorem d_M_shifted_1 : decode b_M_shifted 1 = .ok (.ifCond .eq 9, 3) := by decide +kernel
theorem d_M_shifted_4 : decode b_M_shifted 4 = .ok (.iload_n 0, 1) := by decide +kernel
theorem d_M_shifted_5 : decode b_M_shifted 5 = .ok (.iload_n 1, 1) := by decide +kernel
theorem d_M_shifted_6 : decode b_M_shifted 6 = .ok (.iushr, 1) := by decide +kernel
theorem d_M_shifted_7 : decode b_M_shifted 7 = .ok (.goto 6, 3) := by decide +kernel
theorem d_M_shifted_10 : decode b_M_shifted 10 = .ok (.iload_n 0, 1) := by decide +kernel
theorem d_M_shifted_11 : decode b_M_shifted 11 = .ok (.iload_n 1, 1) := by decide +kernel
theorem d_M_shifted_12 : decode b_M_shifted 12 = .ok (.ishl, 1) := by decide +kernel
theorem d_M_shifted_13 : decode b_M_shifted 13 = .ok (.ireturn, 1) := by decide +kernel
theorem d_M_moveData_0 : decode b_M_moveData 0 = .ok (.aload_n 0, 1) := by decide +kernel
theorem d_M_moveData_1 : decode b_M_moveData 1 = .ok (.iload_n 1, 1) := by decide +kernel
theorem d_M_moveData_2 : decode b_M_moveData 2 = .ok (.invokevirtual 64, 3) := by decide +kernel
theorem d_M_moveData_5 : decode b_M_moveData 5 = .ok (.iload_n 1, 1) := by decide +kernel
theorem d_M_moveData_6 : decode b_M_moveData 6 = .ok (.invokestatic 74, 3) := by decide +kernel
theorem d_M_moveData_9 : decode b_M_moveData 9 = .ok (.iadd, 1) := by decide +kernel
theorem d_M_moveData_10 : decode b_M_moveData 10 = .ok (.istore_n 2, 1) := by decide +kernel
theorem d_M_moveData_11 : decode b_M_moveData 11 = .ok (.iload_n 2, 1) := by decide +kernel
theorem d_M_moveData_12 : decode b_M_moveData 12 = .ok (.invokestatic 77, 3) := by decide +kernel
theorem d_M_moveData_15 : decode b_M_moveData 15 = .ok (.ifCond .eq 47, 3) := by decide +kernel
theorem d_M_moveData_18 : decode b_M_moveData 18 = .ok (.aload_n 0, 1) := by decide +kernel
theorem d_M_moveData_19 : decode b_M_moveData 19 = .ok (.iload_n 1, 1) := by decide +kernel
theorem d_M_moveData_20 : decode b_M_moveData 20 = .ok (.invokevirtual 123, 3) := by decide +kernel
theorem d_M_moveData_23 : decode b_M_moveData 23 = .ok (.iload_n 2, 1) := by decide +kernel
theorem d_M_moveData_24 : decode b_M_moveData 24 = .ok (.invokestatic 126, 3) := by decide +kernel
theorem d_M_moveData_27 : decode b_M_moveData 27 = .ok (.istore_n 3, 1) := by decide +kernel
theorem d_M_moveData_28 : decode b_M_moveData 28 = .ok (.iload_n 1, 1) := by decide +kernel
theorem d_M_moveData_29 : decode b_M_moveData 29 = .ok (.invokestatic 58, 3) := by decide +kernel
theorem d_M_moveData_32 : decode b_M_moveData 32 = .ok (.bipush 11, 2) := by decide +kernel
theorem d_M_moveData_34 : decode b_M_moveData 34 = .ok (.if_icmp .ne 17, 3) := by decide +kernel
theorem d_M_moveData_37 : decode b_M_moveData 37 = .ok (.aload_n 0, 1) := by decide +kernel
theorem d_M_moveData_38 : decode b_M_moveData 38 = .ok (.iload_n 1, 1) := by decide +kernel
theorem d_M_moveData_39 : decode b_M_moveData 39 = .ok (.aload_n 0, 1) := by decide +kernel
theorem d_M_moveData_40 : decode b_M_moveData 40 = .ok (.getfield 18, 3) := by decide +kernel
theorem d_M_moveData_43 : decode b_M_moveData 43 = .ok (.iload_n 3, 1) := by decide +kernel
theorem d_M_moveData_44 : decode b_M_moveData 44 = .ok (.iaload, 1) := by decide +kernel
theorem d_M_moveData_45 : decode b_M_moveData 45 = .ok (.invokevirtual 109, 3) := by decide +kernel
theorem d_M_moveData_48 : decode b_M_moveData 48 = .ok (.goto 14, 3) := by decide +kernel
theorem d_M_moveData_51 : decode b_M_moveData 51 = .ok (.aload_n 0, 1) := by decide +kernel
theorem d_M_moveData_52 : decode b_M_moveData 52 = .ok (.getfield 18, 3) := by decide +kernel
theorem d_M_moveData_55 : decode b_M_moveData 55 = .ok (.iload_n 3, 1) := by decide +kernel
theorem d_M_moveData_56 : decode b_M_moveData 56 = .ok (.aload_n 0, 1) := by decide +kernel
theorem d_M_moveData_57 : decode b_M_moveData 57 = .ok (.iload_n 1, 1) := by decide +kernel
theorem d_M_moveData_58 : decode b_M_moveData 58 = .ok (.invokevirtual 129, 3) := by decide +kernel
theorem d_M_moveData_61 : decode b_M_moveData 61 = .ok (.iastore, 1) := by decide +kernel
theorem d_M_moveData_62 : decode b_M_moveData 62 = .ok (.aload_n 0, 1) := by decide +kernel
theorem d_M_moveData_63 : decode b_M_moveData 63 = .ok (.getfield 24, 3) := by decide +kernel
theorem d_M_moveData_66 : decode b_M_moveData 66 = .ok (.iconst 0, 1) := by decide +kernel
theorem d_M_moveData_67 : decode b_M_moveData 67 = .ok (.invokevirtual 112, 3) := by decide +kernel
theorem d_M_moveData_70 : decode b_M_moveData 70 = .ok (.return_, 1) := by decide +kernel
theorem d_M_branch_0 : decode b_M_branch 0 = .ok (.iload_n 1, 1) := by decide +kernel
theorem d_M_branch_1 : decode b_M_branch 1 = .ok (.invokestatic 58, 3) := by decide +kernel
theorem d_M_branch_4 : decode b_M_branch 4 = .ok (.istore_n 2, 1) := by decide +kernel
theorem d_M_branch_5 : decode b_M_branch 5 = .ok (.aload_n 0, 1) := by decide +kernel
theorem d_M_branch_6 : decode b_M_branch 6 = .ok (.iload_n 1, 1) := by decide +kernel
theorem d_M_branch_7 : decode b_M_branch 7 = .ok (.invokevirtual 129, 3) := by decide +kernel
theorem d_M_branch_10 : decode b_M_branch 10 = .ok (.aload_n 0, 1) := by decide +kernel
theorem d_M_branch_11 : decode b_M_branch 11 = .ok (.iload_n 1, 1) := by decide +kernel
theorem d_M_branch_12 : decode b_M_branch 12 = .ok (.invokevirtual 64, 3) := by decide +kernel
theorem d_M_branch_15 : decode b_M_branch 15 = .ok (.iadd, 1) := by decide +kernel
theorem d_M_branch_16 : decode b_M_branch 16 = .ok (.istore_n 3, 1) := by decide +kernel
theorem d_M_branch_17 : decode b_M_branch 17 = .ok (.aload_n 0, 1) := by decide +kernel
theorem d_M_branch_18 : decode b_M_branch 18 = .ok (.iload_n 1, 1) := by decide +kernel
theorem d_M_branch_19 : decode b_M_branch 19 = .ok (.iload_n 3, 1) := by decide +kernel
theorem d_M_branch_20 : decode b_M_branch 20 = .ok (.invokevirtual 132, 3) := by decide +kernel
theorem d_M_branch_23 : decode b_M_branch 23 = .ok (.istore 4, 2) := by decide +kernel
theorem d_M_branch_25 : decode b_M_branch 25 = .ok (.iload 4, 2) := by decide +kernel
theorem d_M_branch_27 : decode b_M_branch 27 = .ok (.ifCond .eq 11, 3) := by decide +kernel
theorem d_M_branch_30 : decode b_M_branch 30 = .ok (.aload_n 0, 1) := by decide +kernel
theorem d_M_branch_31 : decode b_M_branch 31 = .ok (.iload_n 1, 1) := by decide +kernel
theorem d_M_branch_32 : decode b_M_branch 32 = .ok (.invokevirtual 136, 3) := by decide +kernel
theorem d_M_branch_35 : decode b_M_branch 35 = .ok (.goto 13, 3) := by decide +kernel
theorem d_M_branch_38 : decode b_M_branch 38 = .ok (.aload_n 0, 1) := by decide +kernel
theorem d_M_branch_39 : decode b_M_branch 39 = .ok (.getfield 24, 3) := by decide +kernel
theorem d_M_branch_42 : decode b_M_branch 42 = .ok (.getfield 139, 3) := by decide +kernel
theorem d_M_branch_45 : decode b_M_branch 45 = .ok (.invokestatic 142, 3) := by decide +kernel
theorem d_M_branch_48 : decode b_M_branch 48 = .ok (.istore 5, 2) := by decide +kernel
theorem d_M_branch_50 : decode b_M_branch 50 = .ok (.iload_n 2, 1) := by decide +kernel
theorem d_M_branch_51 : decode b_M_branch 51 = .ok (.bipush 13, 2) := by decide +kernel
theorem d_M_branch_53 : decode b_M_branch 53 = .ok (.if_icmp .ne 24, 3) := by decide +kernel
theorem d_M_branch_56 : decode b_M_branch 56 = .ok (.aload_n 0, 1) := by decide +kernel
theorem d_M_branch_57 : decode b_M_branch 57 = .ok (.iload_n 1, 1) := by decide +kernel
theorem d_M_branch_58 : decode b_M_branch 58 = .ok (.aload_n 0, 1) := by decide +kernel
theorem d_M_branch_59 : decode b_M_branch 59 = .ok (.getfield 24, 3) := by decide +kernel
theorem d_M_branch_62 : decode b_M_branch 62 = .ok (.getfield 139, 3) := by decide +kernel
theorem d_M_branch_65 : decode b_M_branch 65 = .ok (.invokestatic 142, 3) := by decide +kernel
theorem d_M_branch_68 : decode b_M_branch 68 = .ok (.invokestatic 145, 3) := by decide +kernel
theorem d_M_branch_71 : decode b_M_branch 71 = .ok (.invokevirtual 109, 3) := by decide +kernel
theorem d_M_branch_74 : decode b_M_branch 74 = .ok (.goto 15, 3) := by decide +kernel
theorem d_M_branch_77 : decode b_M_branch 77 = .ok (.iload_n 2, 1) := by decide +kernel
theorem d_M_branch_78 : decode b_M_branch 78 = .ok (.bipush 15, 2) := by decide +kernel
theorem d_M_branch_80 : decode b_M_branch 80 = .ok (.if_icmp .ne 9, 3) := by decide +kernel
theorem d_M_branch_83 : decode b_M_branch 83 = .ok (.aload_n 0, 1) := by decide +kernel
theorem d_M_branch_84 : decode b_M_branch 84 = .ok (.iload_n 1, 1) := by decide +kernel
theorem d_M_branch_85 : decode b_M_branch 85 = .ok (.iload_n 3, 1) := by decide +kernel
theorem d_M_branch_86 : decode b_M_branch 86 = .ok (.invokevirtual 109, 3) := by decide +kernel
theorem d_M_branch_89 : decode b_M_branch 89 = .ok (.aload_n 0, 1) := by decide +kernel
theorem d_M_branch_90 : decode b_M_branch 90 = .ok (.getfield 24, 3) := by decide +kernel
theorem d_M_branch_93 : decode b_M_branch 93 = .ok (.iload 5, 2) := by decide +kernel
theorem d_M_branch_95 : decode b_M_branch 95 = .ok (.iload_n 1, 1) := by decide +kernel
theorem d_M_branch_96 : decode b_M_branch 96 = .ok (.iload 4, 2) := by decide +kernel
theorem d_M_branch_98 : decode b_M_branch 98 = .ok (.invokestatic 148, 3) := by decide +kernel
theorem d_M_branch_101 : decode b_M_branch 101 = .ok (.invokevirtual 152, 3) := by decide +kernel
theorem d_M_branch_104 : decode b_M_branch 104 = .ok (.return_, 1) := by decide +kernel
theorem d_M_takesBranch_0 : decode b_M_takesBranch 0 = .ok (.iload_n 1, 1) := by decide +kernel
theorem d_M_takesBranch_1 : decode b_M_takesBranch 1 = .ok (.invokestatic 58, 3) := by decide +kernel
theorem d_M_takesBranch_4 : decode b_M_takesBranch 4 = .ok (.lookupswitch 56 #[(14, 28), (15, 46)], 28) := by decide +kernel
theorem d_M_takesBranch_32 : decode b_M_takesBranch 32 = .ok (.iload_n 1, 1) := by decide +kernel
theorem d_M_takesBranch_33 : decode b_M_takesBranch 33 = .ok (.invokestatic 100, 3) := by decide +kernel
theorem d_M_takesBranch_36 : decode b_M_takesBranch 36 = .ok (.aload_n 0, 1) := by decide +kernel
theorem d_M_takesBranch_37 : decode b_M_takesBranch 37 = .ok (.iload_n 1, 1) := by decide +kernel
theorem d_M_takesBranch_38 : decode b_M_takesBranch 38 = .ok (.invokevirtual 64, 3) := by decide +kernel
theorem d_M_takesBranch_41 : decode b_M_takesBranch 41 = .ok (.aload_n 0, 1) := by decide +kernel
theorem d_M_takesBranch_42 : decode b_M_takesBranch 42 = .ok (.iload_n 1, 1) := by decide +kernel
theorem d_M_takesBranch_43 : decode b_M_takesBranch 43 = .ok (.invokevirtual 67, 3) := by decide +kernel
theorem d_M_takesBranch_46 : decode b_M_takesBranch 46 = .ok (.invokestatic 103, 3) := by decide +kernel
theorem d_M_takesBranch_49 : decode b_M_takesBranch 49 = .ok (.ireturn, 1) := by decide +kernel
theorem d_M_takesBranch_50 : decode b_M_takesBranch 50 = .ok (.iload_n 1, 1) := by decide +kernel
theorem d_M_takesBranch_51 : decode b_M_takesBranch 51 = .ok (.invokestatic 100, 3) := by decide +kernel
theorem d_M_takesBranch_54 : decode b_M_takesBranch 54 = .ok (.iload_n 2, 1) := by decide +kernel
theorem d_M_takesBranch_55 : decode b_M_takesBranch 55 = .ok (.iconst 0, 1) := by decide +kernel
theorem d_M_takesBranch_56 : decode b_M_takesBranch 56 = .ok (.invokestatic 103, 3) := by decide +kernel
theorem d_M_takesBranch_59 : decode b_M_takesBranch 59 = .ok (.ireturn, 1) := by decide +kernel
theorem d_M_takesBranch_60 : decode b_M_takesBranch 60 = .ok (.iconst 1, 1) := by decide +kernel
theorem d_M_takesBranch_61 : decode b_M_takesBranch 61 = .ok (.ireturn, 1) := by decide +kernel
theorem d_M_targetOf_0 : decode b_M_targetOf 0 = .ok (.aload_n 0, 1) := by decide +kernel
theorem d_M_targetOf_1 : decode b_M_targetOf 1 = .ok (.getfield 24, 3) := by decide +kernel
theorem d_M_targetOf_4 : decode b_M_targetOf 4 = .ok (.getfield 156, 3) := by decide +kernel
theorem d_M_targetOf_7 : decode b_M_targetOf 7 = .ok (.invokestatic 159, 3) := by decide +kernel
theorem d_M_targetOf_10 : decode b_M_targetOf 10 = .ok (.istore_n 2, 1) := by decide +kernel
theorem d_M_targetOf_11 : decode b_M_targetOf 11 = .ok (.iload_n 1, 1) := by decide +kernel
theorem d_M_targetOf_12 : decode b_M_targetOf 12 = .ok (.invokestatic 74, 3) := by decide +kernel
theorem d_M_targetOf_15 : decode b_M_targetOf 15 = .ok (.istore_n 3, 1) := by decide +kernel
theorem d_M_targetOf_16 : decode b_M_targetOf 16 = .ok (.iload_n 1, 1) := by decide +kernel
theorem d_M_targetOf_17 : decode b_M_targetOf 17 = .ok (.invokestatic 58, 3) := by decide +kernel
theorem d_M_targetOf_20 : decode b_M_targetOf 20 = .ok (.lookupswitch 56 #[(16, 28), (17, 40)], 28) := by decide +kernel
theorem d_M_targetOf_48 : decode b_M_targetOf 48 = .ok (.iload_n 2, 1) := by decide +kernel
theorem d_M_targetOf_49 : decode b_M_targetOf 49 = .ok (.aload_n 0, 1) := by decide +kernel
theorem d_M_targetOf_50 : decode b_M_targetOf 50 = .ok (.iload_n 1, 1) := by decide +kernel
theorem d_M_targetOf_51 : decode b_M_targetOf 51 = .ok (.invokevirtual 64, 3) := by decide +kernel
theorem d_M_targetOf_54 : decode b_M_targetOf 54 = .ok (.iload_n 3, 1) := by decide +kernel
theorem d_M_targetOf_55 : decode b_M_targetOf 55 = .ok (.iadd, 1) := by decide +kernel
theorem d_M_targetOf_56 : decode b_M_targetOf 56 = .ok (.invokestatic 52, 3) := by decide +kernel
theorem d_M_targetOf_59 : decode b_M_targetOf 59 = .ok (.ireturn, 1) := by decide +kernel
theorem d_M_targetOf_60 : decode b_M_targetOf 60 = .ok (.aload_n 0, 1) := by decide +kernel
theorem d_M_targetOf_61 : decode b_M_targetOf 61 = .ok (.iload_n 1, 1) := by decide +kernel
theorem d_M_targetOf_62 : decode b_M_targetOf 62 = .ok (.invokevirtual 123, 3) := by decide +kernel
theorem d_M_targetOf_65 : decode b_M_targetOf 65 = .ok (.aload_n 0, 1) := by decide +kernel
theorem d_M_targetOf_66 : decode b_M_targetOf 66 = .ok (.iload_n 1, 1) := by decide +kernel
theorem d_M_targetOf_67 : decode b_M_targetOf 67 = .ok (.invokevirtual 64, 3) := by decide +kernel
theorem d_M_targetOf_70 : decode b_M_targetOf 70 = .ok (.iload_n 3, 1) := by decide +kernel
theorem d_M_targetOf_71 : decode b_M_targetOf 71 = .ok (.iadd, 1) := by decide +kernel
theorem d_M_targetOf_72 : decode b_M_targetOf 72 = .ok (.invokestatic 52, 3) := by decide +kernel
theorem d_M_targetOf_75 : decode b_M_targetOf 75 = .ok (.ireturn, 1) := by decide +kernel
theorem d_M_targetOf_76 : decode b_M_targetOf 76 = .ok (.iload_n 2, 1) := by decide +kernel
theorem d_M_targetOf_77 : decode b_M_targetOf 77 = .ok (.aload_n 0, 1) := by decide +kernel
theorem d_M_targetOf_78 : decode b_M_targetOf 78 = .ok (.getfield 24, 3) := by decide +kernel
theorem d_M_targetOf_81 : decode b_M_targetOf 81 = .ok (.getfield 156, 3) := by decide +kernel
theorem d_M_targetOf_84 : decode b_M_targetOf 84 = .ok (.invokestatic 145, 3) := by decide +kernel
theorem d_M_targetOf_87 : decode b_M_targetOf 87 = .ok (.iconst 2, 1) := by decide +kernel
theorem d_M_targetOf_88 : decode b_M_targetOf 88 = .ok (.iadd, 1) := by decide +kernel
theorem d_M_targetOf_89 : decode b_M_targetOf 89 = .ok (.iload_n 3, 1) := by decide +kernel
theorem d_M_targetOf_90 : decode b_M_targetOf 90 = .ok (.iadd, 1) := by decide +kernel
theorem d_M_targetOf_91 : decode b_M_targetOf 91 = .ok (.invokestatic 52, 3) := by decide +kernel
theorem d_M_targetOf_94 : decode b_M_targetOf 94 = .ok (.ireturn, 1) := by decide +kernel
theorem d_M_branchNullifies_0 : decode b_M_branchNullifies 0 = .ok (.iload_n 0, 1) := by decide +kernel
theorem d_M_branchNullifies_1 : decode b_M_branchNullifies 1 = .ok (.invokestatic 58, 3) := by decide +kernel
theorem d_M_branchNullifies_4 : decode b_M_branchNullifies 4 = .ok (.istore_n 2, 1) := by decide +kernel
theorem d_M_branchNullifies_5 : decode b_M_branchNullifies 5 = .ok (.iload_n 0, 1) := by decide +kernel
theorem d_M_branchNullifies_6 : decode b_M_branchNullifies 6 = .ok (.invokestatic 116, 3) := by decide +kernel
theorem d_M_branchNullifies_9 : decode b_M_branchNullifies 9 = .ok (.ifCond .ne 5, 3) := by decide +kernel
theorem d_M_branchNullifies_12 : decode b_M_branchNullifies 12 = .ok (.iconst 0, 1) := by decide +kernel
theorem d_M_branchNullifies_13 : decode b_M_branchNullifies 13 = .ok (.ireturn, 1) := by decide +kernel
theorem d_M_branchNullifies_14 : decode b_M_branchNullifies 14 = .ok (.iload_n 2, 1) := by decide +kernel
theorem d_M_branchNullifies_15 : decode b_M_branchNullifies 15 = .ok (.bipush 14, 2) := by decide +kernel
theorem d_M_branchNullifies_17 : decode b_M_branchNullifies 17 = .ok (.if_icmp .eq 9, 3) := by decide +kernel
theorem d_M_branchNullifies_20 : decode b_M_branchNullifies 20 = .ok (.iload_n 2, 1) := by decide +kernel
theorem d_M_branchNullifies_21 : decode b_M_branchNullifies 21 = .ok (.bipush 15, 2) := by decide +kernel
theorem d_M_branchNullifies_23 : decode b_M_branchNullifies 23 = .ok (.if_icmp .ne 25, 3) := by decide +kernel
theorem d_M_branchNullifies_26 : decode b_M_branchNullifies 26 = .ok (.iload_n 0, 1) := by decide +kernel
theorem d_M_branchNullifies_27 : decode b_M_branchNullifies 27 = .ok (.invokestatic 74, 3) := by decide +kernel
theorem d_M_branchNullifies_30 : decode b_M_branchNullifies 30 = .ok (.ifCond .lt 7, 3) := by decide +kernel
theorem d_M_branchNullifies_33 : decode b_M_branchNullifies 33 = .ok (.iconst 1, 1) := by decide +kernel
theorem d_M_branchNullifies_34 : decode b_M_branchNullifies 34 = .ok (.goto 4, 3) := by decide +kernel
theorem d_M_branchNullifies_37 : decode b_M_branchNullifies 37 = .ok (.iconst 0, 1) := by decide +kernel
theorem d_M_branchNullifies_38 : decode b_M_branchNullifies 38 = .ok (.iload_n 1, 1) := by decide +kernel
theorem d_M_branchNullifies_39 : decode b_M_branchNullifies 39 = .ok (.if_icmp .ne 7, 3) := by decide +kernel
theorem d_M_branchNullifies_42 : decode b_M_branchNullifies 42 = .ok (.iconst 1, 1) := by decide +kernel
theorem d_M_branchNullifies_43 : decode b_M_branchNullifies 43 = .ok (.goto 4, 3) := by decide +kernel
theorem d_M_branchNullifies_46 : decode b_M_branchNullifies 46 = .ok (.iconst 0, 1) := by decide +kernel
theorem d_M_branchNullifies_47 : decode b_M_branchNullifies 47 = .ok (.ireturn, 1) := by decide +kernel
theorem d_M_branchNullifies_48 : decode b_M_branchNullifies 48 = .ok (.iconst 1, 1) := by decide +kernel
theorem d_M_branchNullifies_49 : decode b_M_branchNullifies 49 = .ok (.ireturn, 1) := by decide +kernel
theorem d_M_control_0 : decode b_M_control 0 = .ok (.iload_n 1, 1) := by decide +kernel
theorem d_M_control_1 : decode b_M_control 1 = .ok (.invokestatic 58, 3) := by decide +kernel
theorem d_M_control_4 : decode b_M_control 4 = .ok (.tableswitch 130 18 23 #[40, 59, 72, 130, 98, 114], 40) := by decide +kernel
theorem d_M_control_44 : decode b_M_control 44 = .ok (.aload_n 0, 1) := by decide +kernel
theorem d_M_control_45 : decode b_M_control 45 = .ok (.getfield 15, 3) := by decide +kernel
theorem d_M_control_48 : decode b_M_control 48 = .ok (.iload_n 1, 1) := by decide +kernel
theorem d_M_control_49 : decode b_M_control 49 = .ok (.invokestatic 162, 3) := by decide +kernel
theorem d_M_control_52 : decode b_M_control 52 = .ok (.aload_n 0, 1) := by decide +kernel
theorem d_M_control_53 : decode b_M_control 53 = .ok (.iload_n 1, 1) := by decide +kernel
theorem d_M_control_54 : decode b_M_control 54 = .ok (.invokevirtual 64, 3) := by decide +kernel
theorem d_M_control_57 : decode b_M_control 57 = .ok (.iconst 3, 1) := by decide +kernel
theorem d_M_control_58 : decode b_M_control 58 = .ok (.iand, 1) := by decide +kernel
theorem d_M_control_59 : decode b_M_control 59 = .ok (.iastore, 1) := by decide +kernel
theorem d_M_control_60 : decode b_M_control 60 = .ok (.goto 74, 3) := by decide +kernel
theorem d_M_control_63 : decode b_M_control 63 = .ok (.aload_n 0, 1) := by decide +kernel
theorem d_M_control_64 : decode b_M_control 64 = .ok (.iload_n 1, 1) := by decide +kernel
theorem d_M_control_65 : decode b_M_control 65 = .ok (.aload_n 0, 1) := by decide +kernel
theorem d_M_control_66 : decode b_M_control 66 = .ok (.iload_n 1, 1) := by decide +kernel
theorem d_M_control_67 : decode b_M_control 67 = .ok (.invokevirtual 123, 3) := by decide +kernel
theorem d_M_control_70 : decode b_M_control 70 = .ok (.invokevirtual 109, 3) := by decide +kernel
theorem d_M_control_73 : decode b_M_control 73 = .ok (.goto 61, 3) := by decide +kernel
theorem d_M_control_76 : decode b_M_control 76 = .ok (.aload_n 0, 1) := by decide +kernel
theorem d_M_control_77 : decode b_M_control 77 = .ok (.iload_n 1, 1) := by decide +kernel
theorem d_M_control_78 : decode b_M_control 78 = .ok (.aload_n 0, 1) := by decide +kernel
theorem d_M_control_79 : decode b_M_control 79 = .ok (.getfield 24, 3) := by decide +kernel
theorem d_M_control_82 : decode b_M_control 82 = .ok (.getfield 165, 3) := by decide +kernel
theorem d_M_control_85 : decode b_M_control 85 = .ok (.invokevirtual 109, 3) := by decide +kernel
theorem d_M_control_88 : decode b_M_control 88 = .ok (.aload_n 0, 1) := by decide +kernel
theorem d_M_control_89 : decode b_M_control 89 = .ok (.getfield 24, 3) := by decide +kernel
theorem d_M_control_92 : decode b_M_control 92 = .ok (.iload_n 1, 1) := by decide +kernel
theorem d_M_control_93 : decode b_M_control 93 = .ok (.invokestatic 116, 3) := by decide +kernel
theorem d_M_control_96 : decode b_M_control 96 = .ok (.putfield 165, 3) := by decide +kernel
theorem d_M_control_99 : decode b_M_control 99 = .ok (.goto 35, 3) := by decide +kernel
theorem d_M_control_102 : decode b_M_control 102 = .ok (.aload_n 0, 1) := by decide +kernel
theorem d_M_control_103 : decode b_M_control 103 = .ok (.iload_n 1, 1) := by decide +kernel
theorem d_M_control_104 : decode b_M_control 104 = .ok (.aload_n 0, 1) := by decide +kernel
theorem d_M_control_105 : decode b_M_control 105 = .ok (.iload_n 1, 1) := by decide +kernel
theorem d_M_control_106 : decode b_M_control 106 = .ok (.invokestatic 74, 3) := by decide +kernel
theorem d_M_control_109 : decode b_M_control 109 = .ok (.invokevirtual 168, 3) := by decide +kernel
theorem d_M_control_112 : decode b_M_control 112 = .ok (.invokevirtual 109, 3) := by decide +kernel
theorem d_M_control_115 : decode b_M_control 115 = .ok (.goto 19, 3) := by decide +kernel
theorem d_M_control_118 : decode b_M_control 118 = .ok (.aload_n 0, 1) := by decide +kernel
theorem d_M_control_119 : decode b_M_control 119 = .ok (.iload_n 1, 1) := by decide +kernel
theorem d_M_control_120 : decode b_M_control 120 = .ok (.invokestatic 74, 3) := by decide +kernel
theorem d_M_control_123 : decode b_M_control 123 = .ok (.aload_n 0, 1) := by decide +kernel
theorem d_M_control_124 : decode b_M_control 124 = .ok (.iload_n 1, 1) := by decide +kernel
theorem d_M_control_125 : decode b_M_control 125 = .ok (.invokevirtual 64, 3) := by decide +kernel
theorem d_M_control_128 : decode b_M_control 128 = .ok (.invokevirtual 171, 3) := by decide +kernel
theorem d_M_control_131 : decode b_M_control 131 = .ok (.goto 3, 3) := by decide +kernel
theorem d_M_control_134 : decode b_M_control 134 = .ok (.aload_n 0, 1) := by decide +kernel
theorem d_M_control_135 : decode b_M_control 135 = .ok (.getfield 24, 3) := by decide +kernel
theorem d_M_control_138 : decode b_M_control 138 = .ok (.iconst 0, 1) := by decide +kernel
theorem d_M_control_139 : decode b_M_control 139 = .ok (.invokevirtual 112, 3) := by decide +kernel
theorem d_M_control_142 : decode b_M_control 142 = .ok (.return_, 1) := by decide +kernel
theorem d_M_savedThing_0 : decode b_M_savedThing 0 = .ok (.iload_n 1, 1) := by decide +kernel
theorem d_M_savedThing_1 : decode b_M_savedThing 1 = .ok (.tableswitch 106 0 5 #[39, 50, 61, 72, 83, 101], 39) := by decide +kernel
theorem d_M_savedThing_40 : decode b_M_savedThing 40 = .ok (.aload_n 0, 1) := by decide +kernel
theorem d_M_savedThing_41 : decode b_M_savedThing 41 = .ok (.getfield 28, 3) := by decide +kernel
theorem d_M_savedThing_44 : decode b_M_savedThing 44 = .ok (.getfield 156, 3) := by decide +kernel
theorem d_M_savedThing_47 : decode b_M_savedThing 47 = .ok (.invokestatic 145, 3) := by decide +kernel
theorem d_M_savedThing_50 : decode b_M_savedThing 50 = .ok (.ireturn, 1) := by decide +kernel
theorem d_M_savedThing_51 : decode b_M_savedThing 51 = .ok (.aload_n 0, 1) := by decide +kernel
theorem d_M_savedThing_52 : decode b_M_savedThing 52 = .ok (.getfield 28, 3) := by decide +kernel
theorem d_M_savedThing_55 : decode b_M_savedThing 55 = .ok (.getfield 139, 3) := by decide +kernel
theorem d_M_savedThing_58 : decode b_M_savedThing 58 = .ok (.invokestatic 145, 3) := by decide +kernel
theorem d_M_savedThing_61 : decode b_M_savedThing 61 = .ok (.ireturn, 1) := by decide +kernel
theorem d_M_savedThing_62 : decode b_M_savedThing 62 = .ok (.aload_n 0, 1) := by decide +kernel
theorem d_M_savedThing_63 : decode b_M_savedThing 63 = .ok (.getfield 28, 3) := by decide +kernel
theorem d_M_savedThing_66 : decode b_M_savedThing 66 = .ok (.getfield 156, 3) := by decide +kernel
theorem d_M_savedThing_69 : decode b_M_savedThing 69 = .ok (.invokestatic 159, 3) := by decide +kernel
theorem d_M_savedThing_72 : decode b_M_savedThing 72 = .ok (.ireturn, 1) := by decide +kernel
theorem d_M_savedThing_73 : decode b_M_savedThing 73 = .ok (.aload_n 0, 1) := by decide +kernel
theorem d_M_savedThing_74 : decode b_M_savedThing 74 = .ok (.getfield 28, 3) := by decide +kernel
theorem d_M_savedThing_77 : decode b_M_savedThing 77 = .ok (.getfield 139, 3) := by decide +kernel
theorem d_M_savedThing_80 : decode b_M_savedThing 80 = .ok (.invokestatic 159, 3) := by decide +kernel
theorem d_M_savedThing_83 : decode b_M_savedThing 83 = .ok (.ireturn, 1) := by decide +kernel
theorem d_M_savedThing_84 : decode b_M_savedThing 84 = .ok (.aload_n 0, 1) := by decide +kernel
theorem d_M_savedThing_85 : decode b_M_savedThing 85 = .ok (.getfield 28, 3) := by decide +kernel
theorem d_M_savedThing_88 : decode b_M_savedThing 88 = .ok (.getfield 174, 3) := by decide +kernel
theorem d_M_savedThing_91 : decode b_M_savedThing 91 = .ok (.iconst 2, 1) := by decide +kernel
theorem d_M_savedThing_92 : decode b_M_savedThing 92 = .ok (.aload_n 0, 1) := by decide +kernel
theorem d_M_savedThing_93 : decode b_M_savedThing 93 = .ok (.getfield 28, 3) := by decide +kernel
theorem d_M_savedThing_96 : decode b_M_savedThing 96 = .ok (.getfield 165, 3) := by decide +kernel
theorem d_M_savedThing_99 : decode b_M_savedThing 99 = .ok (.imul, 1) := by decide +kernel
theorem d_M_savedThing_100 : decode b_M_savedThing 100 = .ok (.iadd, 1) := by decide +kernel
theorem d_M_savedThing_101 : decode b_M_savedThing 101 = .ok (.ireturn, 1) := by decide +kernel
theorem d_M_savedThing_102 : decode b_M_savedThing 102 = .ok (.aload_n 0, 1) := by decide +kernel
theorem d_M_savedThing_103 : decode b_M_savedThing 103 = .ok (.getfield 31, 3) := by decide +kernel
theorem d_M_savedThing_106 : decode b_M_savedThing 106 = .ok (.ireturn, 1) := by decide +kernel
theorem d_M_savedThing_107 : decode b_M_savedThing 107 = .ok (.iconst 0, 1) := by decide +kernel
theorem d_M_savedThing_108 : decode b_M_savedThing 108 = .ok (.ireturn, 1) := by decide +kernel
theorem d_M_setSavedThing_0 : decode b_M_setSavedThing 0 = .ok (.iload_n 1, 1) := by decide +kernel
theorem d_M_setSavedThing_1 : decode b_M_setSavedThing 1 = .ok (.tableswitch 156 0 4 #[35, 59, 83, 107, 131], 35) := by decide +kernel
theorem d_M_setSavedThing_36 : decode b_M_setSavedThing 36 = .ok (.aload_n 0, 1) := by decide +kernel
theorem d_M_setSavedThing_37 : decode b_M_setSavedThing 37 = .ok (.getfield 28, 3) := by decide +kernel
theorem d_M_setSavedThing_40 : decode b_M_setSavedThing 40 = .ok (.aload_n 0, 1) := by decide +kernel
theorem d_M_setSavedThing_41 : decode b_M_setSavedThing 41 = .ok (.getfield 28, 3) := by decide +kernel
theorem d_M_setSavedThing_44 : decode b_M_setSavedThing 44 = .ok (.getfield 156, 3) := by decide +kernel
theorem d_M_setSavedThing_47 : decode b_M_setSavedThing 47 = .ok (.invokestatic 159, 3) := by decide +kernel
theorem d_M_setSavedThing_50 : decode b_M_setSavedThing 50 = .ok (.iload_n 2, 1) := by decide +kernel
theorem d_M_setSavedThing_51 : decode b_M_setSavedThing 51 = .ok (.invokestatic 52, 3) := by decide +kernel
theorem d_M_setSavedThing_54 : decode b_M_setSavedThing 54 = .ok (.putfield 156, 3) := by decide +kernel
theorem d_M_setSavedThing_57 : decode b_M_setSavedThing 57 = .ok (.goto 100, 3) := by decide +kernel
theorem d_M_setSavedThing_60 : decode b_M_setSavedThing 60 = .ok (.aload_n 0, 1) := by decide +kernel
theorem d_M_setSavedThing_61 : decode b_M_setSavedThing 61 = .ok (.getfield 28, 3) := by decide +kernel
theorem d_M_setSavedThing_64 : decode b_M_setSavedThing 64 = .ok (.aload_n 0, 1) := by decide +kernel
theorem d_M_setSavedThing_65 : decode b_M_setSavedThing 65 = .ok (.getfield 28, 3) := by decide +kernel
theorem d_M_setSavedThing_68 : decode b_M_setSavedThing 68 = .ok (.getfield 139, 3) := by decide +kernel
theorem d_M_setSavedThing_71 : decode b_M_setSavedThing 71 = .ok (.invokestatic 159, 3) := by decide +kernel
theorem d_M_setSavedThing_74 : decode b_M_setSavedThing 74 = .ok (.iload_n 2, 1) := by decide +kernel
theorem d_M_setSavedThing_75 : decode b_M_setSavedThing 75 = .ok (.invokestatic 52, 3) := by decide +kernel
theorem d_M_setSavedThing_78 : decode b_M_setSavedThing 78 = .ok (.putfield 139, 3) := by decide +kernel
theorem d_M_setSavedThing_81 : decode b_M_setSavedThing 81 = .ok (.goto 76, 3) := by decide +kernel
theorem d_M_setSavedThing_84 : decode b_M_setSavedThing 84 = .ok (.aload_n 0, 1) := by decide +kernel
theorem d_M_setSavedThing_85 : decode b_M_setSavedThing 85 = .ok (.getfield 28, 3) := by decide +kernel
theorem d_M_setSavedThing_88 : decode b_M_setSavedThing 88 = .ok (.iload_n 2, 1) := by decide +kernel
theorem d_M_setSavedThing_89 : decode b_M_setSavedThing 89 = .ok (.aload_n 0, 1) := by decide +kernel
theorem d_M_setSavedThing_90 : decode b_M_setSavedThing 90 = .ok (.getfield 28, 3) := by decide +kernel
theorem d_M_setSavedThing_93 : decode b_M_setSavedThing 93 = .ok (.getfield 156, 3) := by decide +kernel
theorem d_M_setSavedThing_96 : decode b_M_setSavedThing 96 = .ok (.invokestatic 145, 3) := by decide +kernel
theorem d_M_setSavedThing_99 : decode b_M_setSavedThing 99 = .ok (.invokestatic 52, 3) := by decide +kernel
theorem d_M_setSavedThing_102 : decode b_M_setSavedThing 102 = .ok (.putfield 156, 3) := by decide +kernel
theorem d_M_setSavedThing_105 : decode b_M_setSavedThing 105 = .ok (.goto 52, 3) := by decide +kernel
theorem d_M_setSavedThing_108 : decode b_M_setSavedThing 108 = .ok (.aload_n 0, 1) := by decide +kernel
theorem d_M_setSavedThing_109 : decode b_M_setSavedThing 109 = .ok (.getfield 28, 3) := by decide +kernel
theorem d_M_setSavedThing_112 : decode b_M_setSavedThing 112 = .ok (.iload_n 2, 1) := by decide +kernel
theorem d_M_setSavedThing_113 : decode b_M_setSavedThing 113 = .ok (.aload_n 0, 1) := by decide +kernel
theorem d_M_setSavedThing_114 : decode b_M_setSavedThing 114 = .ok (.getfield 28, 3) := by decide +kernel
theorem d_M_setSavedThing_117 : decode b_M_setSavedThing 117 = .ok (.getfield 139, 3) := by decide +kernel
theorem d_M_setSavedThing_120 : decode b_M_setSavedThing 120 = .ok (.invokestatic 145, 3) := by decide +kernel
theorem d_M_setSavedThing_123 : decode b_M_setSavedThing 123 = .ok (.invokestatic 52, 3) := by decide +kernel
theorem d_M_setSavedThing_126 : decode b_M_setSavedThing 126 = .ok (.putfield 139, 3) := by decide +kernel
theorem d_M_setSavedThing_129 : decode b_M_setSavedThing 129 = .ok (.goto 28, 3) := by decide +kernel
theorem d_M_setSavedThing_132 : decode b_M_setSavedThing 132 = .ok (.aload_n 0, 1) := by decide +kernel
theorem d_M_setSavedThing_133 : decode b_M_setSavedThing 133 = .ok (.getfield 28, 3) := by decide +kernel
theorem d_M_setSavedThing_136 : decode b_M_setSavedThing 136 = .ok (.iload_n 2, 1) := by decide +kernel
theorem d_M_setSavedThing_137 : decode b_M_setSavedThing 137 = .ok (.iconst 1, 1) := by decide +kernel
theorem d_M_setSavedThing_138 : decode b_M_setSavedThing 138 = .ok (.iand, 1) := by decide +kernel
theorem d_M_setSavedThing_139 : decode b_M_setSavedThing 139 = .ok (.putfield 174, 3) := by decide +kernel
theorem d_M_setSavedThing_142 : decode b_M_setSavedThing 142 = .ok (.aload_n 0, 1) := by decide +kernel
theorem d_M_setSavedThing_143 : decode b_M_setSavedThing 143 = .ok (.getfield 28, 3) := by decide +kernel
theorem d_M_setSavedThing_146 : decode b_M_setSavedThing 146 = .ok (.iload_n 2, 1) := by decide +kernel
theorem d_M_setSavedThing_147 : decode b_M_setSavedThing 147 = .ok (.iconst 1, 1) := by decide +kernel
theorem d_M_setSavedThing_148 : decode b_M_setSavedThing 148 = .ok (.iushr, 1) := by decide +kernel
theorem d_M_setSavedThing_149 : decode b_M_setSavedThing 149 = .ok (.iconst 1, 1) := by decide +kernel
theorem d_M_setSavedThing_150 : decode b_M_setSavedThing 150 = .ok (.iand, 1) := by decide +kernel
theorem d_M_setSavedThing_151 : decode b_M_setSavedThing 151 = .ok (.putfield 165, 3) := by decide +kernel
theorem d_M_setSavedThing_154 : decode b_M_setSavedThing 154 = .ok (.goto 3, 3) := by decide +kernel
theorem d_M_setSavedThing_157 : decode b_M_setSavedThing 157 = .ok (.return_, 1) := by decide +kernel
theorem d_M_valueA_0 : decode b_M_valueA 0 = .ok (.aload_n 0, 1) := by decide +kernel
theorem d_M_valueA_1 : decode b_M_valueA 1 = .ok (.getfield 9, 3) := by decide +kernel
theorem d_M_valueA_4 : decode b_M_valueA 4 = .ok (.iload_n 1, 1) := by decide +kernel
theorem d_M_valueA_5 : decode b_M_valueA 5 = .ok (.invokestatic 177, 3) := by decide +kernel
theorem d_M_valueA_8 : decode b_M_valueA 8 = .ok (.iaload, 1) := by decide +kernel
theorem d_M_valueA_9 : decode b_M_valueA 9 = .ok (.ireturn, 1) := by decide +kernel
theorem d_M_valueB_0 : decode b_M_valueB 0 = .ok (.aload_n 0, 1) := by decide +kernel
theorem d_M_valueB_1 : decode b_M_valueB 1 = .ok (.getfield 9, 3) := by decide +kernel
theorem d_M_valueB_4 : decode b_M_valueB 4 = .ok (.iload_n 1, 1) := by decide +kernel
theorem d_M_valueB_5 : decode b_M_valueB 5 = .ok (.invokestatic 180, 3) := by decide +kernel
theorem d_M_valueB_8 : decode b_M_valueB 8 = .ok (.iaload, 1) := by decide +kernel
theorem d_M_valueB_9 : decode b_M_valueB 9 = .ok (.ireturn, 1) := by decide +kernel
theorem d_M_valueT_0 : decode b_M_valueT 0 = .ok (.aload_n 0, 1) := by decide +kernel
theorem d_M_valueT_1 : decode b_M_valueT 1 = .ok (.getfield 9, 3) := by decide +kernel
theorem d_M_valueT_4 : decode b_M_valueT 4 = .ok (.iload_n 1, 1) := by decide +kernel
theorem d_M_valueT_5 : decode b_M_valueT 5 = .ok (.invokestatic 183, 3) := by decide +kernel
theorem d_M_valueT_8 : decode b_M_valueT 8 = .ok (.iaload, 1) := by decide +kernel
theorem d_M_valueT_9 : decode b_M_valueT 9 = .ok (.ireturn, 1) := by decide +kernel
theorem d_M_valueS_0 : decode b_M_valueS 0 = .ok (.aload_n 0, 1) := by decide +kernel
theorem d_M_valueS_1 : decode b_M_valueS 1 = .ok (.getfield 15, 3) := by decide +kernel
theorem d_M_valueS_4 : decode b_M_valueS 4 = .ok (.iload_n 1, 1) := by decide +kernel
theorem d_M_valueS_5 : decode b_M_valueS 5 = .ok (.invokestatic 162, 3) := by decide +kernel
theorem d_M_valueS_8 : decode b_M_valueS 8 = .ok (.iaload, 1) := by decide +kernel
theorem d_M_valueS_9 : decode b_M_valueS 9 = .ok (.ireturn, 1) := by decide +kernel
theorem d_M_setT_0 : decode b_M_setT 0 = .ok (.iload_n 1, 1) := by decide +kernel
theorem d_M_setT_1 : decode b_M_setT 1 = .ok (.invokestatic 183, 3) := by decide +kernel
theorem d_M_setT_4 : decode b_M_setT 4 = .ok (.istore_n 3, 1) := by decide +kernel
theorem d_M_setT_5 : decode b_M_setT 5 = .ok (.iload_n 3, 1) := by decide +kernel
theorem d_M_setT_6 : decode b_M_setT 6 = .ok (.ifCond .eq 10, 3) := by decide +kernel
theorem d_M_setT_9 : decode b_M_setT 9 = .ok (.aload_n 0, 1) := by decide +kernel
theorem d_M_setT_10 : decode b_M_setT 10 = .ok (.getfield 9, 3) := by decide +kernel
theorem d_M_setT_13 : decode b_M_setT 13 = .ok (.iload_n 3, 1) := by decide +kernel
theorem d_M_setT_14 : decode b_M_setT 14 = .ok (.iload_n 2, 1) := by decide +kernel
theorem d_M_setT_15 : decode b_M_setT 15 = .ok (.iastore, 1) := by decide +kernel
theorem d_M_setT_16 : decode b_M_setT 16 = .ok (.return_, 1) := by decide +kernel
theorem d_M_isInt_0 : decode b_M_isInt 0 = .ok (.lload_n 0, 1) := by decide +kernel
theorem d_M_isInt_1 : decode b_M_isInt 1 = .ok (.lload_n 0, 1) := by decide +kernel
theorem d_M_isInt_2 : decode b_M_isInt 2 = .ok (.l2i, 1) := by decide +kernel
theorem d_M_isInt_3 : decode b_M_isInt 3 = .ok (.i2l, 1) := by decide +kernel
theorem d_M_isInt_4 : decode b_M_isInt 4 = .ok (.lcmp, 1) := by decide +kernel
theorem d_M_isInt_5 : decode b_M_isInt 5 = .ok (.ifCond .ne 7, 3) := by decide +kernel
theorem d_M_isInt_8 : decode b_M_isInt 8 = .ok (.iconst 1, 1) := by decide +kernel
theorem d_M_isInt_9 : decode b_M_isInt 9 = .ok (.goto 4, 3) := by decide +kernel
theorem d_M_isInt_12 : decode b_M_isInt 12 = .ok (.iconst 0, 1) := by decide +kernel
theorem d_M_isInt_13 : decode b_M_isInt 13 = .ok (.ireturn, 1) := by decide +kernel
end
section
theorem d_Q_init_0 : decode b_Q_init 0 = .ok (.aload_n 0, 1) := by decide +kernel
theorem d_Q_init_1 : decode b_Q_init 1 = .ok (.invokespecial 1, 3) := by decide +kernel
theorem d_Q_init_4 : decode b_Q_init 4 = .ok (.aload_n 0, 1) := by decide +kernel
theorem d_Q_init_5 : decode b_Q_init 5 = .ok (.sipush 128, 3) := by decide +kernel
theorem d_Q_init_8 : decode b_Q_init 8 = .ok (.newarray .int, 2) := by decide +kernel
theorem d_Q_init_10 : decode b_Q_init 10 = .ok (.putfield 9, 3) := by decide +kernel
theorem d_Q_init_13 : decode b_Q_init 13 = .ok (.aload_n 0, 1) := by decide +kernel
theorem d_Q_init_14 : decode b_Q_init 14 = .ok (.bipush 7, 2) := by decide +kernel
theorem d_Q_init_16 : decode b_Q_init 16 = .ok (.newarray .int, 2) := by decide +kernel
theorem d_Q_init_18 : decode b_Q_init 18 = .ok (.putfield 13, 3) := by decide +kernel
theorem d_Q_init_21 : decode b_Q_init 21 = .ok (.aload_n 0, 1) := by decide +kernel
theorem d_Q_init_22 : decode b_Q_init 22 = .ok (.new 16, 3) := by decide +kernel
theorem d_Q_init_25 : decode b_Q_init 25 = .ok (.dup, 1) := by decide +kernel
theorem d_Q_init_26 : decode b_Q_init 26 = .ok (.invokespecial 18, 3) := by decide +kernel
theorem d_Q_init_29 : decode b_Q_init 29 = .ok (.putfield 19, 3) := by decide +kernel
theorem d_Q_init_32 : decode b_Q_init 32 = .ok (.aload_n 0, 1) := by decide +kernel
theorem d_Q_init_33 : decode b_Q_init 33 = .ok (.new 16, 3) := by decide +kernel
theorem d_Q_init_36 : decode b_Q_init 36 = .ok (.dup, 1) := by decide +kernel
theorem d_Q_init_37 : decode b_Q_init 37 = .ok (.invokespecial 18, 3) := by decide +kernel
theorem d_Q_init_40 : decode b_Q_init 40 = .ok (.putfield 23, 3) := by decide +kernel
theorem d_Q_init_43 : decode b_Q_init 43 = .ok (.aload_n 0, 1) := by decide +kernel
theorem d_Q_init_44 : decode b_Q_init 44 = .ok (.iconst 0, 1) := by decide +kernel
theorem d_Q_init_45 : decode b_Q_init 45 = .ok (.putfield 26, 3) := by decide +kernel
theorem d_Q_init_48 : decode b_Q_init 48 = .ok (.return_, 1) := by decide +kernel
theorem d_Q_code_0 : decode b_Q_code 0 = .ok (.iload_n 1, 1) := by decide +kernel
theorem d_Q_code_1 : decode b_Q_code 1 = .ok (.iload_n 2, 1) := by decide +kernel
theorem d_Q_code_2 : decode b_Q_code 2 = .ok (.invokestatic 30, 3) := by decide +kernel
theorem d_Q_code_5 : decode b_Q_code 5 = .ok (.ifCond .ne 5, 3) := by decide +kernel
theorem d_Q_code_8 : decode b_Q_code 8 = .ok (.iconst 0, 1) := by decide +kernel
theorem d_Q_code_9 : decode b_Q_code 9 = .ok (.ireturn, 1) := by decide +kernel
theorem d_Q_code_10 : decode b_Q_code 10 = .ok (.aload_n 0, 1) := by decide +kernel
theorem d_Q_code_11 : decode b_Q_code 11 = .ok (.getfield 9, 3) := by decide +kernel
theorem d_Q_code_14 : decode b_Q_code 14 = .ok (.iload_n 1, 1) := by decide +kernel
theorem d_Q_code_15 : decode b_Q_code 15 = .ok (.iload_n 2, 1) := by decide +kernel
theorem d_Q_code_16 : decode b_Q_code 16 = .ok (.invokestatic 34, 3) := by decide +kernel
theorem d_Q_code_19 : decode b_Q_code 19 = .ok (.iload_n 3, 1) := by decide +kernel
theorem d_Q_code_20 : decode b_Q_code 20 = .ok (.iastore, 1) := by decide +kernel
theorem d_Q_code_21 : decode b_Q_code 21 = .ok (.iconst 1, 1) := by decide +kernel
theorem d_Q_code_22 : decode b_Q_code 22 = .ok (.ireturn, 1) := by decide +kernel
theorem d_Q_data_0 : decode b_Q_data 0 = .ok (.iload_n 1, 1) := by decide +kernel
theorem d_Q_data_1 : decode b_Q_data 1 = .ok (.invokestatic 40, 3) := by decide +kernel
theorem d_Q_data_4 : decode b_Q_data 4 = .ok (.ifCond .eq 10, 3) := by decide +kernel
theorem d_Q_data_7 : decode b_Q_data 7 = .ok (.iload_n 2, 1) := by decide +kernel
theorem d_Q_data_8 : decode b_Q_data 8 = .ok (.invokestatic 44, 3) := by decide +kernel
theorem d_Q_data_11 : decode b_Q_data 11 = .ok (.ifCond .ne 5, 3) := by decide +kernel
theorem d_Q_data_14 : decode b_Q_data 14 = .ok (.iconst 0, 1) := by decide +kernel
theorem d_Q_data_15 : decode b_Q_data 15 = .ok (.ireturn, 1) := by decide +kernel
theorem d_Q_data_16 : decode b_Q_data 16 = .ok (.aload_n 0, 1) := by decide +kernel
theorem d_Q_data_17 : decode b_Q_data 17 = .ok (.getfield 19, 3) := by decide +kernel
theorem d_Q_data_20 : decode b_Q_data 20 = .ok (.getfield 47, 3) := by decide +kernel
theorem d_Q_data_23 : decode b_Q_data 23 = .ok (.iload_n 1, 1) := by decide +kernel
theorem d_Q_data_24 : decode b_Q_data 24 = .ok (.iload_n 2, 1) := by decide +kernel
theorem d_Q_data_25 : decode b_Q_data 25 = .ok (.invokestatic 50, 3) := by decide +kernel
theorem d_Q_data_28 : decode b_Q_data 28 = .ok (.iload_n 3, 1) := by decide +kernel
theorem d_Q_data_29 : decode b_Q_data 29 = .ok (.iastore, 1) := by decide +kernel
theorem d_Q_data_30 : decode b_Q_data 30 = .ok (.iconst 1, 1) := by decide +kernel
theorem d_Q_data_31 : decode b_Q_data 31 = .ok (.ireturn, 1) := by decide +kernel
theorem d_Q_set_0 : decode b_Q_set 0 = .ok (.iload_n 1, 1) := by decide +kernel
theorem d_Q_set_1 : decode b_Q_set 1 = .ok (.invokestatic 53, 3) := by decide +kernel
theorem d_Q_set_4 : decode b_Q_set 4 = .ok (.ifCond .eq 7, 3) := by decide +kernel
theorem d_Q_set_7 : decode b_Q_set 7 = .ok (.iload_n 1, 1) := by decide +kernel
theorem d_Q_set_8 : decode b_Q_set 8 = .ok (.ifCond .ne 5, 3) := by decide +kernel
theorem d_Q_set_11 : decode b_Q_set 11 = .ok (.iconst 0, 1) := by decide +kernel
theorem d_Q_set_12 : decode b_Q_set 12 = .ok (.ireturn, 1) := by decide +kernel
theorem d_Q_set_13 : decode b_Q_set 13 = .ok (.aload_n 0, 1) := by decide +kernel
theorem d_Q_set_14 : decode b_Q_set 14 = .ok (.getfield 19, 3) := by decide +kernel
theorem d_Q_set_17 : decode b_Q_set 17 = .ok (.getfield 56, 3) := by decide +kernel
theorem d_Q_set_20 : decode b_Q_set 20 = .ok (.iload_n 1, 1) := by decide +kernel
theorem d_Q_set_21 : decode b_Q_set 21 = .ok (.iload_n 2, 1) := by decide +kernel
theorem d_Q_set_22 : decode b_Q_set 22 = .ok (.iastore, 1) := by decide +kernel
theorem d_Q_set_23 : decode b_Q_set 23 = .ok (.iconst 1, 1) := by decide +kernel
theorem d_Q_set_24 : decode b_Q_set 24 = .ok (.ireturn, 1) := by decide +kernel
theorem d_Q_setSpace_0 : decode b_Q_setSpace 0 = .ok (.iload_n 1, 1) := by decide +kernel
theorem d_Q_setSpace_1 : decode b_Q_setSpace 1 = .ok (.invokestatic 59, 3) := by decide +kernel
theorem d_Q_setSpace_4 : decode b_Q_setSpace 4 = .ok (.ifCond .eq 10, 3) := by decide +kernel
theorem d_Q_setSpace_7 : decode b_Q_setSpace 7 = .ok (.iload_n 2, 1) := by decide +kernel
theorem d_Q_setSpace_8 : decode b_Q_setSpace 8 = .ok (.invokestatic 40, 3) := by decide +kernel
theorem d_Q_setSpace_11 : decode b_Q_setSpace 11 = .ok (.ifCond .ne 5, 3) := by decide +kernel
theorem d_Q_setSpace_14 : decode b_Q_setSpace 14 = .ok (.iconst 0, 1) := by decide +kernel
theorem d_Q_setSpace_15 : decode b_Q_setSpace 15 = .ok (.ireturn, 1) := by decide +kernel
theorem d_Q_setSpace_16 : decode b_Q_setSpace 16 = .ok (.aload_n 0, 1) := by decide +kernel
theorem d_Q_setSpace_17 : decode b_Q_setSpace 17 = .ok (.getfield 19, 3) := by decide +kernel
theorem d_Q_setSpace_20 : decode b_Q_setSpace 20 = .ok (.getfield 62, 3) := by decide +kernel
theorem d_Q_setSpace_23 : decode b_Q_setSpace 23 = .ok (.iload_n 1, 1) := by decide +kernel
theorem d_Q_setSpace_24 : decode b_Q_setSpace 24 = .ok (.iload_n 2, 1) := by decide +kernel
theorem d_Q_setSpace_25 : decode b_Q_setSpace 25 = .ok (.iastore, 1) := by decide +kernel
theorem d_Q_setSpace_26 : decode b_Q_setSpace 26 = .ok (.iconst 1, 1) := by decide +kernel
theorem d_Q_setSpace_27 : decode b_Q_setSpace 27 = .ok (.ireturn, 1) := by decide +kernel
theorem d_Q_go_0 : decode b_Q_go 0 = .ok (.iload_n 1, 1) := by decide +kernel
theorem d_Q_go_1 : decode b_Q_go 1 = .ok (.iload_n 2, 1) := by decide +kernel
theorem d_Q_go_2 : decode b_Q_go 2 = .ok (.invokestatic 30, 3) := by decide +kernel
theorem d_Q_go_5 : decode b_Q_go 5 = .ok (.ifCond .ne 5, 3) := by decide +kernel
theorem d_Q_go_8 : decode b_Q_go 8 = .ok (.iconst 0, 1) := by decide +kernel
theorem d_Q_go_9 : decode b_Q_go 9 = .ok (.ireturn, 1) := by decide +kernel
theorem d_Q_go_10 : decode b_Q_go 10 = .ok (.aload_n 0, 1) := by decide +kernel
theorem d_Q_go_11 : decode b_Q_go 11 = .ok (.getfield 19, 3) := by decide +kernel
theorem d_Q_go_14 : decode b_Q_go 14 = .ok (.getfield 65, 3) := by decide +kernel
theorem d_Q_go_17 : decode b_Q_go 17 = .ok (.iload_n 1, 1) := by decide +kernel
theorem d_Q_go_18 : decode b_Q_go 18 = .ok (.iload_n 2, 1) := by decide +kernel
theorem d_Q_go_19 : decode b_Q_go 19 = .ok (.invokestatic 34, 3) := by decide +kernel
theorem d_Q_go_22 : decode b_Q_go 22 = .ok (.iload_n 3, 1) := by decide +kernel
theorem d_Q_go_23 : decode b_Q_go 23 = .ok (.ifCond .eq 7, 3) := by decide +kernel
theorem d_Q_go_26 : decode b_Q_go 26 = .ok (.iconst 1, 1) := by decide +kernel
theorem d_Q_go_27 : decode b_Q_go 27 = .ok (.goto 4, 3) := by decide +kernel
theorem d_Q_go_30 : decode b_Q_go 30 = .ok (.iconst 0, 1) := by decide +kernel
theorem d_Q_go_31 : decode b_Q_go 31 = .ok (.invokevirtual 69, 3) := by decide +kernel
theorem d_Q_go_34 : decode b_Q_go 34 = .ok (.iconst 1, 1) := by decide +kernel
theorem d_Q_go_35 : decode b_Q_go 35 = .ok (.ireturn, 1) := by decide +kernel
theorem d_Q_interrupt_0 : decode b_Q_interrupt 0 = .ok (.aload_n 0, 1) := by decide +kernel
theorem d_Q_interrupt_1 : decode b_Q_interrupt 1 = .ok (.getfield 19, 3) := by decide +kernel
theorem d_Q_interrupt_4 : decode b_Q_interrupt 4 = .ok (.getfield 75, 3) := by decide +kernel
theorem d_Q_interrupt_7 : decode b_Q_interrupt 7 = .ok (.iconst 1, 1) := by decide +kernel
theorem d_Q_interrupt_8 : decode b_Q_interrupt 8 = .ok (.if_icmp .ne 5, 3) := by decide +kernel
theorem d_Q_interrupt_11 : decode b_Q_interrupt 11 = .ok (.iconst 0, 1) := by decide +kernel
theorem d_Q_interrupt_12 : decode b_Q_interrupt 12 = .ok (.ireturn, 1) := by decide +kernel
theorem d_Q_interrupt_13 : decode b_Q_interrupt 13 = .ok (.aload_n 0, 1) := by decide +kernel
theorem d_Q_interrupt_14 : decode b_Q_interrupt 14 = .ok (.getfield 19, 3) := by decide +kernel
theorem d_Q_interrupt_17 : decode b_Q_interrupt 17 = .ok (.iconst 1, 1) := by decide +kernel
theorem d_Q_interrupt_18 : decode b_Q_interrupt 18 = .ok (.putfield 75, 3) := by decide +kernel
theorem d_Q_interrupt_21 : decode b_Q_interrupt 21 = .ok (.iconst 1, 1) := by decide +kernel
theorem d_Q_interrupt_22 : decode b_Q_interrupt 22 = .ok (.ireturn, 1) := by decide +kernel
theorem d_Q_run_0 : decode b_Q_run 0 = .ok (.iload_n 1, 1) := by decide +kernel
theorem d_Q_run_1 : decode b_Q_run 1 = .ok (.ifCond .lt 10, 3) := by decide +kernel
theorem d_Q_run_4 : decode b_Q_run 4 = .ok (.iload_n 1, 1) := by decide +kernel
theorem d_Q_run_5 : decode b_Q_run 5 = .ok (.sipush 200, 3) := by decide +kernel
theorem d_Q_run_8 : decode b_Q_run 8 = .ok (.if_icmp .le 5, 3) := by decide +kernel
theorem d_Q_run_11 : decode b_Q_run 11 = .ok (.iconst (-1), 1) := by decide +kernel
theorem d_Q_run_12 : decode b_Q_run 12 = .ok (.ireturn, 1) := by decide +kernel
theorem d_Q_run_13 : decode b_Q_run 13 = .ok (.iconst 0, 1) := by decide +kernel
theorem d_Q_run_14 : decode b_Q_run 14 = .ok (.istore_n 2, 1) := by decide +kernel
theorem d_Q_run_15 : decode b_Q_run 15 = .ok (.iconst 0, 1) := by decide +kernel
theorem d_Q_run_16 : decode b_Q_run 16 = .ok (.istore_n 3, 1) := by decide +kernel
theorem d_Q_run_17 : decode b_Q_run 17 = .ok (.iload_n 3, 1) := by decide +kernel
theorem d_Q_run_18 : decode b_Q_run 18 = .ok (.iload_n 1, 1) := by decide +kernel
theorem d_Q_run_19 : decode b_Q_run 19 = .ok (.if_icmp .ge 19, 3) := by decide +kernel
theorem d_Q_run_22 : decode b_Q_run 22 = .ok (.aload_n 0, 1) := by decide +kernel
theorem d_Q_run_23 : decode b_Q_run 23 = .ok (.invokevirtual 79, 3) := by decide +kernel
theorem d_Q_run_26 : decode b_Q_run 26 = .ok (.ifCond .eq 6, 3) := by decide +kernel
theorem d_Q_run_29 : decode b_Q_run 29 = .ok (.iinc 2 1, 3) := by decide +kernel
theorem d_Q_run_32 : decode b_Q_run 32 = .ok (.iinc 3 1, 3) := by decide +kernel
theorem d_Q_run_35 : decode b_Q_run 35 = .ok (.goto (-18), 3) := by decide +kernel
theorem d_Q_run_38 : decode b_Q_run 38 = .ok (.iload_n 2, 1) := by decide +kernel
theorem d_Q_run_39 : decode b_Q_run 39 = .ok (.ireturn, 1) := by decide +kernel
theorem d_Q_state_0 : decode b_Q_state 0 = .ok (.iload_n 1, 1) := by decide +kernel
theorem d_Q_state_1 : decode b_Q_state 1 = .ok (.tableswitch 243 0 13 #[71, 85, 99, 113, 127, 138, 149, 157, 171, 185, 199, 213, 224, 235], 71) := by decide +kernel
theorem d_Q_state_72 : decode b_Q_state 72 = .ok (.aload_n 0, 1) := by decide +kernel
theorem d_Q_state_73 : decode b_Q_state 73 = .ok (.getfield 19, 3) := by decide +kernel
theorem d_Q_state_76 : decode b_Q_state 76 = .ok (.getfield 65, 3) := by decide +kernel
theorem d_Q_state_79 : decode b_Q_state 79 = .ok (.getfield 83, 3) := by decide +kernel
theorem d_Q_state_82 : decode b_Q_state 82 = .ok (.invokestatic 86, 3) := by decide +kernel
theorem d_Q_state_85 : decode b_Q_state 85 = .ok (.ireturn, 1) := by decide +kernel
theorem d_Q_state_86 : decode b_Q_state 86 = .ok (.aload_n 0, 1) := by decide +kernel
theorem d_Q_state_87 : decode b_Q_state 87 = .ok (.getfield 19, 3) := by decide +kernel
theorem d_Q_state_90 : decode b_Q_state 90 = .ok (.getfield 65, 3) := by decide +kernel
theorem d_Q_state_93 : decode b_Q_state 93 = .ok (.getfield 83, 3) := by decide +kernel
theorem d_Q_state_96 : decode b_Q_state 96 = .ok (.invokestatic 90, 3) := by decide +kernel
theorem d_Q_state_99 : decode b_Q_state 99 = .ok (.ireturn, 1) := by decide +kernel
theorem d_Q_state_100 : decode b_Q_state 100 = .ok (.aload_n 0, 1) := by decide +kernel
theorem d_Q_state_101 : decode b_Q_state 101 = .ok (.getfield 19, 3) := by decide +kernel
theorem d_Q_state_104 : decode b_Q_state 104 = .ok (.getfield 65, 3) := by decide +kernel
theorem d_Q_state_107 : decode b_Q_state 107 = .ok (.getfield 93, 3) := by decide +kernel
theorem d_Q_state_110 : decode b_Q_state 110 = .ok (.invokestatic 86, 3) := by decide +kernel
theorem d_Q_state_113 : decode b_Q_state 113 = .ok (.ireturn, 1) := by decide +kernel
theorem d_Q_state_114 : decode b_Q_state 114 = .ok (.aload_n 0, 1) := by decide +kernel
theorem d_Q_state_115 : decode b_Q_state 115 = .ok (.getfield 19, 3) := by decide +kernel
theorem d_Q_state_118 : decode b_Q_state 118 = .ok (.getfield 65, 3) := by decide +kernel
theorem d_Q_state_121 : decode b_Q_state 121 = .ok (.getfield 93, 3) := by decide +kernel
theorem d_Q_state_124 : decode b_Q_state 124 = .ok (.invokestatic 90, 3) := by decide +kernel
theorem d_Q_state_127 : decode b_Q_state 127 = .ok (.ireturn, 1) := by decide +kernel
theorem d_Q_state_128 : decode b_Q_state 128 = .ok (.aload_n 0, 1) := by decide +kernel
theorem d_Q_state_129 : decode b_Q_state 129 = .ok (.getfield 19, 3) := by decide +kernel
theorem d_Q_state_132 : decode b_Q_state 132 = .ok (.getfield 65, 3) := by decide +kernel
theorem d_Q_state_135 : decode b_Q_state 135 = .ok (.getfield 96, 3) := by decide +kernel
theorem d_Q_state_138 : decode b_Q_state 138 = .ok (.ireturn, 1) := by decide +kernel
theorem d_Q_state_139 : decode b_Q_state 139 = .ok (.aload_n 0, 1) := by decide +kernel
theorem d_Q_state_140 : decode b_Q_state 140 = .ok (.getfield 19, 3) := by decide +kernel
theorem d_Q_state_143 : decode b_Q_state 143 = .ok (.getfield 65, 3) := by decide +kernel
theorem d_Q_state_146 : decode b_Q_state 146 = .ok (.getfield 99, 3) := by decide +kernel
theorem d_Q_state_149 : decode b_Q_state 149 = .ok (.ireturn, 1) := by decide +kernel
theorem d_Q_state_150 : decode b_Q_state 150 = .ok (.aload_n 0, 1) := by decide +kernel
theorem d_Q_state_151 : decode b_Q_state 151 = .ok (.getfield 19, 3) := by decide +kernel
theorem d_Q_state_154 : decode b_Q_state 154 = .ok (.getfield 75, 3) := by decide +kernel
theorem d_Q_state_157 : decode b_Q_state 157 = .ok (.ireturn, 1) := by decide +kernel
theorem d_Q_state_158 : decode b_Q_state 158 = .ok (.aload_n 0, 1) := by decide +kernel
theorem d_Q_state_159 : decode b_Q_state 159 = .ok (.getfield 19, 3) := by decide +kernel
theorem d_Q_state_162 : decode b_Q_state 162 = .ok (.getfield 102, 3) := by decide +kernel
theorem d_Q_state_165 : decode b_Q_state 165 = .ok (.getfield 83, 3) := by decide +kernel
theorem d_Q_state_168 : decode b_Q_state 168 = .ok (.invokestatic 86, 3) := by decide +kernel
theorem d_Q_state_171 : decode b_Q_state 171 = .ok (.ireturn, 1) := by decide +kernel
theorem d_Q_state_172 : decode b_Q_state 172 = .ok (.aload_n 0, 1) := by decide +kernel
theorem d_Q_state_173 : decode b_Q_state 173 = .ok (.getfield 19, 3) := by decide +kernel
theorem d_Q_state_176 : decode b_Q_state 176 = .ok (.getfield 102, 3) := by decide +kernel
theorem d_Q_state_179 : decode b_Q_state 179 = .ok (.getfield 83, 3) := by decide +kernel
theorem d_Q_state_182 : decode b_Q_state 182 = .ok (.invokestatic 90, 3) := by decide +kernel
theorem d_Q_state_185 : decode b_Q_state 185 = .ok (.ireturn, 1) := by decide +kernel
theorem d_Q_state_186 : decode b_Q_state 186 = .ok (.aload_n 0, 1) := by decide +kernel
theorem d_Q_state_187 : decode b_Q_state 187 = .ok (.getfield 19, 3) := by decide +kernel
theorem d_Q_state_190 : decode b_Q_state 190 = .ok (.getfield 102, 3) := by decide +kernel
theorem d_Q_state_193 : decode b_Q_state 193 = .ok (.getfield 93, 3) := by decide +kernel
theorem d_Q_state_196 : decode b_Q_state 196 = .ok (.invokestatic 86, 3) := by decide +kernel
theorem d_Q_state_199 : decode b_Q_state 199 = .ok (.ireturn, 1) := by decide +kernel
theorem d_Q_state_200 : decode b_Q_state 200 = .ok (.aload_n 0, 1) := by decide +kernel
theorem d_Q_state_201 : decode b_Q_state 201 = .ok (.getfield 19, 3) := by decide +kernel
theorem d_Q_state_204 : decode b_Q_state 204 = .ok (.getfield 102, 3) := by decide +kernel
theorem d_Q_state_207 : decode b_Q_state 207 = .ok (.getfield 93, 3) := by decide +kernel
theorem d_Q_state_210 : decode b_Q_state 210 = .ok (.invokestatic 90, 3) := by decide +kernel
theorem d_Q_state_213 : decode b_Q_state 213 = .ok (.ireturn, 1) := by decide +kernel
theorem d_Q_state_214 : decode b_Q_state 214 = .ok (.aload_n 0, 1) := by decide +kernel
theorem d_Q_state_215 : decode b_Q_state 215 = .ok (.getfield 19, 3) := by decide +kernel
theorem d_Q_state_218 : decode b_Q_state 218 = .ok (.getfield 102, 3) := by decide +kernel
theorem d_Q_state_221 : decode b_Q_state 221 = .ok (.getfield 96, 3) := by decide +kernel
theorem d_Q_state_224 : decode b_Q_state 224 = .ok (.ireturn, 1) := by decide +kernel
theorem d_Q_state_225 : decode b_Q_state 225 = .ok (.aload_n 0, 1) := by decide +kernel
theorem d_Q_state_226 : decode b_Q_state 226 = .ok (.getfield 19, 3) := by decide +kernel
theorem d_Q_state_229 : decode b_Q_state 229 = .ok (.getfield 102, 3) := by decide +kernel
theorem d_Q_state_232 : decode b_Q_state 232 = .ok (.getfield 99, 3) := by decide +kernel
theorem d_Q_state_235 : decode b_Q_state 235 = .ok (.ireturn, 1) := by decide +kernel
theorem d_Q_state_236 : decode b_Q_state 236 = .ok (.aload_n 0, 1) := by decide +kernel
theorem d_Q_state_237 : decode b_Q_state 237 = .ok (.getfield 19, 3) := by decide +kernel
theorem d_Q_state_240 : decode b_Q_state 240 = .ok (.getfield 105, 3) := by decide +kernel
theorem d_Q_state_243 : decode b_Q_state 243 = .ok (.ireturn, 1) := by decide +kernel
theorem d_Q_state_244 : decode b_Q_state 244 = .ok (.iconst (-1), 1) := by decide +kernel
theorem d_Q_state_245 : decode b_Q_state 245 = .ok (.ireturn, 1) := by decide +kernel
theorem d_Q_register_0 : decode b_Q_register 0 = .ok (.iload_n 1, 1) := by decide +kernel
theorem d_Q_register_1 : decode b_Q_register 1 = .ok (.invokestatic 53, 3) := by decide +kernel
theorem d_Q_register_4 : decode b_Q_register 4 = .ok (.ifCond .eq 15, 3) := by decide +kernel
theorem d_Q_register_7 : decode b_Q_register 7 = .ok (.aload_n 0, 1) := by decide +kernel
theorem d_Q_register_8 : decode b_Q_register 8 = .ok (.getfield 19, 3) := by decide +kernel
theorem d_Q_register_11 : decode b_Q_register 11 = .ok (.getfield 56, 3) := by decide +kernel
theorem d_Q_register_14 : decode b_Q_register 14 = .ok (.iload_n 1, 1) := by decide +kernel
theorem d_Q_register_15 : decode b_Q_register 15 = .ok (.iaload, 1) := by decide +kernel
theorem d_Q_register_16 : decode b_Q_register 16 = .ok (.goto 4, 3) := by decide +kernel
theorem d_Q_register_19 : decode b_Q_register 19 = .ok (.iconst 0, 1) := by decide +kernel
theorem d_Q_register_20 : decode b_Q_register 20 = .ok (.ireturn, 1) := by decide +kernel
theorem d_Q_space_0 : decode b_Q_space 0 = .ok (.iload_n 1, 1) := by decide +kernel
theorem d_Q_space_1 : decode b_Q_space 1 = .ok (.invokestatic 59, 3) := by decide +kernel
theorem d_Q_space_4 : decode b_Q_space 4 = .ok (.ifCond .eq 15, 3) := by decide +kernel
theorem d_Q_space_7 : decode b_Q_space 7 = .ok (.aload_n 0, 1) := by decide +kernel
theorem d_Q_space_8 : decode b_Q_space 8 = .ok (.getfield 19, 3) := by decide +kernel
theorem d_Q_space_11 : decode b_Q_space 11 = .ok (.getfield 62, 3) := by decide +kernel
theorem d_Q_space_14 : decode b_Q_space 14 = .ok (.iload_n 1, 1) := by decide +kernel
theorem d_Q_space_15 : decode b_Q_space 15 = .ok (.iaload, 1) := by decide +kernel
theorem d_Q_space_16 : decode b_Q_space 16 = .ok (.goto 4, 3) := by decide +kernel
theorem d_Q_space_19 : decode b_Q_space 19 = .ok (.iconst (-1), 1) := by decide +kernel
theorem d_Q_space_20 : decode b_Q_space 20 = .ok (.ireturn, 1) := by decide +kernel
theorem d_Q_word_0 : decode b_Q_word 0 = .ok (.iload_n 1, 1) := by decide +kernel
theorem d_Q_word_1 : decode b_Q_word 1 = .ok (.iload_n 2, 1) := by decide +kernel
theorem d_Q_word_2 : decode b_Q_word 2 = .ok (.invokestatic 30, 3) := by decide +kernel
theorem d_Q_word_5 : decode b_Q_word 5 = .ok (.ifCond .eq 16, 3) := by decide +kernel
theorem d_Q_word_8 : decode b_Q_word 8 = .ok (.aload_n 0, 1) := by decide +kernel
theorem d_Q_word_9 : decode b_Q_word 9 = .ok (.getfield 9, 3) := by decide +kernel
theorem d_Q_word_12 : decode b_Q_word 12 = .ok (.iload_n 1, 1) := by decide +kernel
theorem d_Q_word_13 : decode b_Q_word 13 = .ok (.iload_n 2, 1) := by decide +kernel
theorem d_Q_word_14 : decode b_Q_word 14 = .ok (.invokestatic 34, 3) := by decide +kernel
theorem d_Q_word_17 : decode b_Q_word 17 = .ok (.iaload, 1) := by decide +kernel
theorem d_Q_word_18 : decode b_Q_word 18 = .ok (.goto 4, 3) := by decide +kernel
theorem d_Q_word_21 : decode b_Q_word 21 = .ok (.iconst 0, 1) := by decide +kernel
theorem d_Q_word_22 : decode b_Q_word 22 = .ok (.ireturn, 1) := by decide +kernel
theorem d_Q_peek_0 : decode b_Q_peek 0 = .ok (.iload_n 1, 1) := by decide +kernel
theorem d_Q_peek_1 : decode b_Q_peek 1 = .ok (.invokestatic 40, 3) := by decide +kernel
theorem d_Q_peek_4 : decode b_Q_peek 4 = .ok (.ifCond .eq 10, 3) := by decide +kernel
theorem d_Q_peek_7 : decode b_Q_peek 7 = .ok (.iload_n 2, 1) := by decide +kernel
theorem d_Q_peek_8 : decode b_Q_peek 8 = .ok (.invokestatic 44, 3) := by decide +kernel
theorem d_Q_peek_11 : decode b_Q_peek 11 = .ok (.ifCond .ne 5, 3) := by decide +kernel
theorem d_Q_peek_14 : decode b_Q_peek 14 = .ok (.iconst 0, 1) := by decide +kernel
theorem d_Q_peek_15 : decode b_Q_peek 15 = .ok (.ireturn, 1) := by decide +kernel
theorem d_Q_peek_16 : decode b_Q_peek 16 = .ok (.aload_n 0, 1) := by decide +kernel
theorem d_Q_peek_17 : decode b_Q_peek 17 = .ok (.getfield 19, 3) := by decide +kernel
theorem d_Q_peek_20 : decode b_Q_peek 20 = .ok (.getfield 47, 3) := by decide +kernel
theorem d_Q_peek_23 : decode b_Q_peek 23 = .ok (.iload_n 1, 1) := by decide +kernel
theorem d_Q_peek_24 : decode b_Q_peek 24 = .ok (.iload_n 2, 1) := by decide +kernel
theorem d_Q_peek_25 : decode b_Q_peek 25 = .ok (.invokestatic 50, 3) := by decide +kernel
theorem d_Q_peek_28 : decode b_Q_peek 28 = .ok (.iaload, 1) := by decide +kernel
theorem d_Q_peek_29 : decode b_Q_peek 29 = .ok (.ireturn, 1) := by decide +kernel
theorem d_Q_count_0 : decode b_Q_count 0 = .ok (.iload_n 1, 1) := by decide +kernel
theorem d_Q_count_1 : decode b_Q_count 1 = .ok (.ifCond .lt 18, 3) := by decide +kernel
theorem d_Q_count_4 : decode b_Q_count 4 = .ok (.iload_n 1, 1) := by decide +kernel
theorem d_Q_count_5 : decode b_Q_count 5 = .ok (.bipush 6, 2) := by decide +kernel
theorem d_Q_count_7 : decode b_Q_count 7 = .ok (.if_icmp .gt 12, 3) := by decide +kernel
theorem d_Q_count_10 : decode b_Q_count 10 = .ok (.aload_n 0, 1) := by decide +kernel
theorem d_Q_count_11 : decode b_Q_count 11 = .ok (.getfield 13, 3) := by decide +kernel
theorem d_Q_count_14 : decode b_Q_count 14 = .ok (.iload_n 1, 1) := by decide +kernel
theorem d_Q_count_15 : decode b_Q_count 15 = .ok (.iaload, 1) := by decide +kernel
theorem d_Q_count_16 : decode b_Q_count 16 = .ok (.goto 4, 3) := by decide +kernel
theorem d_Q_count_19 : decode b_Q_count 19 = .ok (.iconst (-1), 1) := by decide +kernel
theorem d_Q_count_20 : decode b_Q_count 20 = .ok (.ireturn, 1) := by decide +kernel
theorem d_Q_mark_0 : decode b_Q_mark 0 = .ok (.aload_n 0, 1) := by decide +kernel
theorem d_Q_mark_1 : decode b_Q_mark 1 = .ok (.getfield 23, 3) := by decide +kernel
theorem d_Q_mark_4 : decode b_Q_mark 4 = .ok (.aload_n 0, 1) := by decide +kernel
theorem d_Q_mark_5 : decode b_Q_mark 5 = .ok (.getfield 19, 3) := by decide +kernel
theorem d_Q_mark_8 : decode b_Q_mark 8 = .ok (.invokevirtual 108, 3) := by decide +kernel
theorem d_Q_mark_11 : decode b_Q_mark 11 = .ok (.aload_n 0, 1) := by decide +kernel
theorem d_Q_mark_12 : decode b_Q_mark 12 = .ok (.iconst 1, 1) := by decide +kernel
theorem d_Q_mark_13 : decode b_Q_mark 13 = .ok (.putfield 26, 3) := by decide +kernel
theorem d_Q_mark_16 : decode b_Q_mark 16 = .ok (.return_, 1) := by decide +kernel
theorem d_Q_back_0 : decode b_Q_back 0 = .ok (.aload_n 0, 1) := by decide +kernel
theorem d_Q_back_1 : decode b_Q_back 1 = .ok (.getfield 26, 3) := by decide +kernel
theorem d_Q_back_4 : decode b_Q_back 4 = .ok (.ifCond .ne 5, 3) := by decide +kernel
theorem d_Q_back_7 : decode b_Q_back 7 = .ok (.iconst 0, 1) := by decide +kernel
theorem d_Q_back_8 : decode b_Q_back 8 = .ok (.ireturn, 1) := by decide +kernel
theorem d_Q_back_9 : decode b_Q_back 9 = .ok (.aload_n 0, 1) := by decide +kernel
theorem d_Q_back_10 : decode b_Q_back 10 = .ok (.getfield 19, 3) := by decide +kernel
theorem d_Q_back_13 : decode b_Q_back 13 = .ok (.aload_n 0, 1) := by decide +kernel
theorem d_Q_back_14 : decode b_Q_back 14 = .ok (.getfield 23, 3) := by decide +kernel
theorem d_Q_back_17 : decode b_Q_back 17 = .ok (.invokevirtual 108, 3) := by decide +kernel
theorem d_Q_back_20 : decode b_Q_back 20 = .ok (.iconst 1, 1) := by decide +kernel
theorem d_Q_back_21 : decode b_Q_back 21 = .ok (.ireturn, 1) := by decide +kernel
theorem d_Q_step_0 : decode b_Q_step 0 = .ok (.aload_n 0, 1) := by decide +kernel
theorem d_Q_step_1 : decode b_Q_step 1 = .ok (.getfield 13, 3) := by decide +kernel
theorem d_Q_step_4 : decode b_Q_step 4 = .ok (.iconst 0, 1) := by decide +kernel
theorem d_Q_step_5 : decode b_Q_step 5 = .ok (.dup2, 1) := by decide +kernel
theorem d_Q_step_6 : decode b_Q_step 6 = .ok (.iaload, 1) := by decide +kernel
theorem d_Q_step_7 : decode b_Q_step 7 = .ok (.iconst 1, 1) := by decide +kernel
theorem d_Q_step_8 : decode b_Q_step 8 = .ok (.iadd, 1) := by decide +kernel
theorem d_Q_step_9 : decode b_Q_step 9 = .ok (.iastore, 1) := by decide +kernel
theorem d_Q_step_10 : decode b_Q_step 10 = .ok (.aload_n 0, 1) := by decide +kernel
theorem d_Q_step_11 : decode b_Q_step 11 = .ok (.getfield 19, 3) := by decide +kernel
theorem d_Q_step_14 : decode b_Q_step 14 = .ok (.getfield 75, 3) := by decide +kernel
theorem d_Q_step_17 : decode b_Q_step 17 = .ok (.iconst 1, 1) := by decide +kernel
theorem d_Q_step_18 : decode b_Q_step 18 = .ok (.if_icmp .ne 31, 3) := by decide +kernel
theorem d_Q_step_21 : decode b_Q_step 21 = .ok (.aload_n 0, 1) := by decide +kernel
theorem d_Q_step_22 : decode b_Q_step 22 = .ok (.getfield 19, 3) := by decide +kernel
theorem d_Q_step_25 : decode b_Q_step 25 = .ok (.getfield 65, 3) := by decide +kernel
theorem d_Q_step_28 : decode b_Q_step 28 = .ok (.getfield 99, 3) := by decide +kernel
theorem d_Q_step_31 : decode b_Q_step 31 = .ok (.iconst 1, 1) := by decide +kernel
theorem d_Q_step_32 : decode b_Q_step 32 = .ok (.if_icmp .ne 17, 3) := by decide +kernel
theorem d_Q_step_35 : decode b_Q_step 35 = .ok (.aload_n 0, 1) := by decide +kernel
theorem d_Q_step_36 : decode b_Q_step 36 = .ok (.getfield 19, 3) := by decide +kernel
theorem d_Q_step_39 : decode b_Q_step 39 = .ok (.iconst 0, 1) := by decide +kernel
theorem d_Q_step_40 : decode b_Q_step 40 = .ok (.putfield 75, 3) := by decide +kernel
theorem d_Q_step_43 : decode b_Q_step 43 = .ok (.aload_n 0, 1) := by decide +kernel
theorem d_Q_step_44 : decode b_Q_step 44 = .ok (.iconst 1, 1) := by decide +kernel
theorem d_Q_step_45 : decode b_Q_step 45 = .ok (.invokevirtual 112, 3) := by decide +kernel
theorem d_Q_step_48 : decode b_Q_step 48 = .ok (.ireturn, 1) := by decide +kernel
theorem d_Q_step_49 : decode b_Q_step 49 = .ok (.aload_n 0, 1) := by decide +kernel
theorem d_Q_step_50 : decode b_Q_step 50 = .ok (.getfield 19, 3) := by decide +kernel
theorem d_Q_step_53 : decode b_Q_step 53 = .ok (.getfield 65, 3) := by decide +kernel
theorem d_Q_step_56 : decode b_Q_step 56 = .ok (.getfield 96, 3) := by decide +kernel
theorem d_Q_step_59 : decode b_Q_step 59 = .ok (.iconst 1, 1) := by decide +kernel
theorem d_Q_step_60 : decode b_Q_step 60 = .ok (.if_icmp .ne 27, 3) := by decide +kernel
theorem d_Q_step_63 : decode b_Q_step 63 = .ok (.aload_n 0, 1) := by decide +kernel
theorem d_Q_step_64 : decode b_Q_step 64 = .ok (.getfield 13, 3) := by decide +kernel
theorem d_Q_step_67 : decode b_Q_step 67 = .ok (.bipush 6, 2) := by decide +kernel
theorem d_Q_step_69 : decode b_Q_step 69 = .ok (.dup2, 1) := by decide +kernel
theorem d_Q_step_70 : decode b_Q_step 70 = .ok (.iaload, 1) := by decide +kernel
theorem d_Q_step_71 : decode b_Q_step 71 = .ok (.iconst 1, 1) := by decide +kernel
theorem d_Q_step_72 : decode b_Q_step 72 = .ok (.iadd, 1) := by decide +kernel
theorem d_Q_step_73 : decode b_Q_step 73 = .ok (.iastore, 1) := by decide +kernel
theorem d_Q_step_74 : decode b_Q_step 74 = .ok (.aload_n 0, 1) := by decide +kernel
theorem d_Q_step_75 : decode b_Q_step 75 = .ok (.getfield 19, 3) := by decide +kernel
theorem d_Q_step_78 : decode b_Q_step 78 = .ok (.getfield 65, 3) := by decide +kernel
theorem d_Q_step_81 : decode b_Q_step 81 = .ok (.iconst 0, 1) := by decide +kernel
theorem d_Q_step_82 : decode b_Q_step 82 = .ok (.invokevirtual 115, 3) := by decide +kernel
theorem d_Q_step_85 : decode b_Q_step 85 = .ok (.iconst 0, 1) := by decide +kernel
theorem d_Q_step_86 : decode b_Q_step 86 = .ok (.ireturn, 1) := by decide +kernel
theorem d_Q_step_87 : decode b_Q_step 87 = .ok (.aload_n 0, 1) := by decide +kernel
theorem d_Q_step_88 : decode b_Q_step 88 = .ok (.getfield 9, 3) := by decide +kernel
theorem d_Q_step_91 : decode b_Q_step 91 = .ok (.aload_n 0, 1) := by decide +kernel
theorem d_Q_step_92 : decode b_Q_step 92 = .ok (.getfield 19, 3) := by decide +kernel
theorem d_Q_step_95 : decode b_Q_step 95 = .ok (.getfield 65, 3) := by decide +kernel
theorem d_Q_step_98 : decode b_Q_step 98 = .ok (.getfield 83, 3) := by decide +kernel
theorem d_Q_step_101 : decode b_Q_step 101 = .ok (.iaload, 1) := by decide +kernel
theorem d_Q_step_102 : decode b_Q_step 102 = .ok (.istore_n 1, 1) := by decide +kernel
theorem d_Q_step_103 : decode b_Q_step 103 = .ok (.aload_n 0, 1) := by decide +kernel
theorem d_Q_step_104 : decode b_Q_step 104 = .ok (.getfield 19, 3) := by decide +kernel
theorem d_Q_step_107 : decode b_Q_step 107 = .ok (.iload_n 1, 1) := by decide +kernel
theorem d_Q_step_108 : decode b_Q_step 108 = .ok (.invokevirtual 119, 3) := by decide +kernel
theorem d_Q_step_111 : decode b_Q_step 111 = .ok (.istore_n 2, 1) := by decide +kernel
theorem d_Q_step_112 : decode b_Q_step 112 = .ok (.iload_n 2, 1) := by decide +kernel
theorem d_Q_step_113 : decode b_Q_step 113 = .ok (.ifCond .eq 9, 3) := by decide +kernel
theorem d_Q_step_116 : decode b_Q_step 116 = .ok (.aload_n 0, 1) := by decide +kernel
theorem d_Q_step_117 : decode b_Q_step 117 = .ok (.iload_n 2, 1) := by decide +kernel
theorem d_Q_step_118 : decode b_Q_step 118 = .ok (.invokevirtual 112, 3) := by decide +kernel
theorem d_Q_step_121 : decode b_Q_step 121 = .ok (.ireturn, 1) := by decide +kernel
theorem d_Q_step_122 : decode b_Q_step 122 = .ok (.aload_n 0, 1) := by decide +kernel
theorem d_Q_step_123 : decode b_Q_step 123 = .ok (.getfield 19, 3) := by decide +kernel
theorem d_Q_step_126 : decode b_Q_step 126 = .ok (.iload_n 1, 1) := by decide +kernel
theorem d_Q_step_127 : decode b_Q_step 127 = .ok (.invokevirtual 122, 3) := by decide +kernel
theorem d_Q_step_130 : decode b_Q_step 130 = .ok (.iconst 0, 1) := by decide +kernel
theorem d_Q_step_131 : decode b_Q_step 131 = .ok (.ireturn, 1) := by decide +kernel
theorem d_Q_trap_0 : decode b_Q_trap 0 = .ok (.aload_n 0, 1) := by decide +kernel
theorem d_Q_trap_1 : decode b_Q_trap 1 = .ok (.getfield 13, 3) := by decide +kernel
theorem d_Q_trap_4 : decode b_Q_trap 4 = .ok (.iload_n 1, 1) := by decide +kernel
theorem d_Q_trap_5 : decode b_Q_trap 5 = .ok (.dup2, 1) := by decide +kernel
theorem d_Q_trap_6 : decode b_Q_trap 6 = .ok (.iaload, 1) := by decide +kernel
theorem d_Q_trap_7 : decode b_Q_trap 7 = .ok (.iconst 1, 1) := by decide +kernel
theorem d_Q_trap_8 : decode b_Q_trap 8 = .ok (.iadd, 1) := by decide +kernel
theorem d_Q_trap_9 : decode b_Q_trap 9 = .ok (.iastore, 1) := by decide +kernel
theorem d_Q_trap_10 : decode b_Q_trap 10 = .ok (.aload_n 0, 1) := by decide +kernel
theorem d_Q_trap_11 : decode b_Q_trap 11 = .ok (.getfield 19, 3) := by decide +kernel
theorem d_Q_trap_14 : decode b_Q_trap 14 = .ok (.iload_n 1, 1) := by decide +kernel
theorem d_Q_trap_15 : decode b_Q_trap 15 = .ok (.invokevirtual 126, 3) := by decide +kernel
theorem d_Q_trap_18 : decode b_Q_trap 18 = .ok (.iload_n 1, 1) := by decide +kernel
theorem d_Q_trap_19 : decode b_Q_trap 19 = .ok (.ireturn, 1) := by decide +kernel
theorem d_Q_isSpace_0 : decode b_Q_isSpace 0 = .ok (.iload_n 0, 1) := by decide +kernel
theorem d_Q_isSpace_1 : decode b_Q_isSpace 1 = .ok (.ifCond .lt 12, 3) := by decide +kernel
theorem d_Q_isSpace_4 : decode b_Q_isSpace 4 = .ok (.iload_n 0, 1) := by decide +kernel
theorem d_Q_isSpace_5 : decode b_Q_isSpace 5 = .ok (.iconst 4, 1) := by decide +kernel
theorem d_Q_isSpace_6 : decode b_Q_isSpace 6 = .ok (.if_icmp .ge 7, 3) := by decide +kernel
theorem d_Q_isSpace_9 : decode b_Q_isSpace 9 = .ok (.iconst 1, 1) := by decide +kernel
theorem d_Q_isSpace_10 : decode b_Q_isSpace 10 = .ok (.goto 4, 3) := by decide +kernel
theorem d_Q_isSpace_13 : decode b_Q_isSpace 13 = .ok (.iconst 0, 1) := by decide +kernel
theorem d_Q_isSpace_14 : decode b_Q_isSpace 14 = .ok (.ireturn, 1) := by decide +kernel
theorem d_Q_isPlace_0 : decode b_Q_isPlace 0 = .ok (.iload_n 0, 1) := by decide +kernel
theorem d_Q_isPlace_1 : decode b_Q_isPlace 1 = .ok (.invokestatic 40, 3) := by decide +kernel
theorem d_Q_isPlace_4 : decode b_Q_isPlace 4 = .ok (.ifCond .eq 17, 3) := by decide +kernel
theorem d_Q_isPlace_7 : decode b_Q_isPlace 7 = .ok (.iload_n 1, 1) := by decide +kernel
theorem d_Q_isPlace_8 : decode b_Q_isPlace 8 = .ok (.ifCond .lt 13, 3) := by decide +kernel
theorem d_Q_isPlace_11 : decode b_Q_isPlace 11 = .ok (.iload_n 1, 1) := by decide +kernel
theorem d_Q_isPlace_12 : decode b_Q_isPlace 12 = .ok (.bipush 32, 2) := by decide +kernel
theorem d_Q_isPlace_14 : decode b_Q_isPlace 14 = .ok (.if_icmp .ge 7, 3) := by decide +kernel
theorem d_Q_isPlace_17 : decode b_Q_isPlace 17 = .ok (.iconst 1, 1) := by decide +kernel
theorem d_Q_isPlace_18 : decode b_Q_isPlace 18 = .ok (.goto 4, 3) := by decide +kernel
theorem d_Q_isPlace_21 : decode b_Q_isPlace 21 = .ok (.iconst 0, 1) := by decide +kernel
theorem d_Q_isPlace_22 : decode b_Q_isPlace 22 = .ok (.ireturn, 1) := by decide +kernel
theorem d_Q_isDataOffset_0 : decode b_Q_isDataOffset 0 = .ok (.iload_n 0, 1) := by decide +kernel
theorem d_Q_isDataOffset_1 : decode b_Q_isDataOffset 1 = .ok (.ifCond .lt 13, 3) := by decide +kernel
theorem d_Q_isDataOffset_4 : decode b_Q_isDataOffset 4 = .ok (.iload_n 0, 1) := by decide +kernel
theorem d_Q_isDataOffset_5 : decode b_Q_isDataOffset 5 = .ok (.bipush 16, 2) := by decide +kernel
theorem d_Q_isDataOffset_7 : decode b_Q_isDataOffset 7 = .ok (.if_icmp .ge 7, 3) := by decide +kernel
theorem d_Q_isDataOffset_10 : decode b_Q_isDataOffset 10 = .ok (.iconst 1, 1) := by decide +kernel
theorem d_Q_isDataOffset_11 : decode b_Q_isDataOffset 11 = .ok (.goto 4, 3) := by decide +kernel
theorem d_Q_isDataOffset_14 : decode b_Q_isDataOffset 14 = .ok (.iconst 0, 1) := by decide +kernel
theorem d_Q_isDataOffset_15 : decode b_Q_isDataOffset 15 = .ok (.ireturn, 1) := by decide +kernel
theorem d_Q_isRegister_0 : decode b_Q_isRegister 0 = .ok (.iload_n 0, 1) := by decide +kernel
theorem d_Q_isRegister_1 : decode b_Q_isRegister 1 = .ok (.ifCond .lt 13, 3) := by decide +kernel
theorem d_Q_isRegister_4 : decode b_Q_isRegister 4 = .ok (.iload_n 0, 1) := by decide +kernel
theorem d_Q_isRegister_5 : decode b_Q_isRegister 5 = .ok (.bipush 8, 2) := by decide +kernel
theorem d_Q_isRegister_7 : decode b_Q_isRegister 7 = .ok (.if_icmp .ge 7, 3) := by decide +kernel
theorem d_Q_isRegister_10 : decode b_Q_isRegister 10 = .ok (.iconst 1, 1) := by decide +kernel
theorem d_Q_isRegister_11 : decode b_Q_isRegister 11 = .ok (.goto 4, 3) := by decide +kernel
theorem d_Q_isRegister_14 : decode b_Q_isRegister 14 = .ok (.iconst 0, 1) := by decide +kernel
theorem d_Q_isRegister_15 : decode b_Q_isRegister 15 = .ok (.ireturn, 1) := by decide +kernel
theorem d_Q_isSpaceRegister_0 : decode b_Q_isSpaceRegister 0 = .ok (.iload_n 0, 1) := by decide +kernel
theorem d_Q_isSpaceRegister_1 : decode b_Q_isSpaceRegister 1 = .ok (.ifCond .lt 12, 3) := by decide +kernel
theorem d_Q_isSpaceRegister_4 : decode b_Q_isSpaceRegister 4 = .ok (.iload_n 0, 1) := by decide +kernel
theorem d_Q_isSpaceRegister_5 : decode b_Q_isSpaceRegister 5 = .ok (.iconst 4, 1) := by decide +kernel
theorem d_Q_isSpaceRegister_6 : decode b_Q_isSpaceRegister 6 = .ok (.if_icmp .ge 7, 3) := by decide +kernel
theorem d_Q_isSpaceRegister_9 : decode b_Q_isSpaceRegister 9 = .ok (.iconst 1, 1) := by decide +kernel
theorem d_Q_isSpaceRegister_10 : decode b_Q_isSpaceRegister 10 = .ok (.goto 4, 3) := by decide +kernel
theorem d_Q_isSpaceRegister_13 : decode b_Q_isSpaceRegister 13 = .ok (.iconst 0, 1) := by decide +kernel
theorem d_Q_isSpaceRegister_14 : decode b_Q_isSpaceRegister 14 = .ok (.ireturn, 1) := by decide +kernel
theorem d_Q_dataIndex_0 : decode b_Q_dataIndex 0 = .ok (.iload_n 0, 1) := by decide +kernel
theorem d_Q_dataIndex_1 : decode b_Q_dataIndex 1 = .ok (.bipush 16, 2) := by decide +kernel
theorem d_Q_dataIndex_3 : decode b_Q_dataIndex 3 = .ok (.imul, 1) := by decide +kernel
theorem d_Q_dataIndex_4 : decode b_Q_dataIndex 4 = .ok (.iload_n 1, 1) := by decide +kernel
theorem d_Q_dataIndex_5 : decode b_Q_dataIndex 5 = .ok (.iadd, 1) := by decide +kernel
theorem d_Q_dataIndex_6 : decode b_Q_dataIndex 6 = .ok (.ireturn, 1) := by decide +kernel
theorem d_Co_holds_0 : decode b_Co_holds 0 = .ok (.iload_n 0, 1) := by decide +kernel
theorem d_Co_holds_1 : decode b_Co_holds 1 = .ok (.tableswitch 129 1 7 #[43, 54, 65, 76, 94, 112, 127], 43) := by decide +kernel
theorem d_Co_holds_44 : decode b_Co_holds 44 = .ok (.iload_n 1, 1) := by decide +kernel
theorem d_Co_holds_45 : decode b_Co_holds 45 = .ok (.iload_n 2, 1) := by decide +kernel
theorem d_Co_holds_46 : decode b_Co_holds 46 = .ok (.if_icmp .ne 7, 3) := by decide +kernel
theorem d_Co_holds_49 : decode b_Co_holds 49 = .ok (.iconst 1, 1) := by decide +kernel
theorem d_Co_holds_50 : decode b_Co_holds 50 = .ok (.goto 4, 3) := by decide +kernel
theorem d_Co_holds_53 : decode b_Co_holds 53 = .ok (.iconst 0, 1) := by decide +kernel
theorem d_Co_holds_54 : decode b_Co_holds 54 = .ok (.ireturn, 1) := by decide +kernel
theorem d_Co_holds_55 : decode b_Co_holds 55 = .ok (.iload_n 1, 1) := by decide +kernel
theorem d_Co_holds_56 : decode b_Co_holds 56 = .ok (.iload_n 2, 1) := by decide +kernel
theorem d_Co_holds_57 : decode b_Co_holds 57 = .ok (.if_icmp .ge 7, 3) := by decide +kernel
theorem d_Co_holds_60 : decode b_Co_holds 60 = .ok (.iconst 1, 1) := by decide +kernel
theorem d_Co_holds_61 : decode b_Co_holds 61 = .ok (.goto 4, 3) := by decide +kernel
theorem d_Co_holds_64 : decode b_Co_holds 64 = .ok (.iconst 0, 1) := by decide +kernel
theorem d_Co_holds_65 : decode b_Co_holds 65 = .ok (.ireturn, 1) := by decide +kernel
theorem d_Co_holds_66 : decode b_Co_holds 66 = .ok (.iload_n 1, 1) := by decide +kernel
theorem d_Co_holds_67 : decode b_Co_holds 67 = .ok (.iload_n 2, 1) := by decide +kernel
theorem d_Co_holds_68 : decode b_Co_holds 68 = .ok (.if_icmp .gt 7, 3) := by decide +kernel
theorem d_Co_holds_71 : decode b_Co_holds 71 = .ok (.iconst 1, 1) := by decide +kernel
theorem d_Co_holds_72 : decode b_Co_holds 72 = .ok (.goto 4, 3) := by decide +kernel
theorem d_Co_holds_75 : decode b_Co_holds 75 = .ok (.iconst 0, 1) := by decide +kernel
theorem d_Co_holds_76 : decode b_Co_holds 76 = .ok (.ireturn, 1) := by decide +kernel
theorem d_Co_holds_77 : decode b_Co_holds 77 = .ok (.iload_n 1, 1) := by decide +kernel
theorem d_Co_holds_78 : decode b_Co_holds 78 = .ok (.invokestatic 7, 3) := by decide +kernel
theorem d_Co_holds_81 : decode b_Co_holds 81 = .ok (.iload_n 2, 1) := by decide +kernel
theorem d_Co_holds_82 : decode b_Co_holds 82 = .ok (.invokestatic 7, 3) := by decide +kernel
theorem d_Co_holds_85 : decode b_Co_holds 85 = .ok (.lcmp, 1) := by decide +kernel
theorem d_Co_holds_86 : decode b_Co_holds 86 = .ok (.ifCond .ge 7, 3) := by decide +kernel
theorem d_Co_holds_89 : decode b_Co_holds 89 = .ok (.iconst 1, 1) := by decide +kernel
theorem d_Co_holds_90 : decode b_Co_holds 90 = .ok (.goto 4, 3) := by decide +kernel
theorem d_Co_holds_93 : decode b_Co_holds 93 = .ok (.iconst 0, 1) := by decide +kernel
theorem d_Co_holds_94 : decode b_Co_holds 94 = .ok (.ireturn, 1) := by decide +kernel
theorem d_Co_holds_95 : decode b_Co_holds 95 = .ok (.iload_n 1, 1) := by decide +kernel
theorem d_Co_holds_96 : decode b_Co_holds 96 = .ok (.invokestatic 7, 3) := by decide +kernel
theorem d_Co_holds_99 : decode b_Co_holds 99 = .ok (.iload_n 2, 1) := by decide +kernel
theorem d_Co_holds_100 : decode b_Co_holds 100 = .ok (.invokestatic 7, 3) := by decide +kernel
theorem d_Co_holds_103 : decode b_Co_holds 103 = .ok (.lcmp, 1) := by decide +kernel
theorem d_Co_holds_104 : decode b_Co_holds 104 = .ok (.ifCond .gt 7, 3) := by decide +kernel
theorem d_Co_holds_107 : decode b_Co_holds 107 = .ok (.iconst 1, 1) := by decide +kernel
theorem d_Co_holds_108 : decode b_Co_holds 108 = .ok (.goto 4, 3) := by decide +kernel
theorem d_Co_holds_111 : decode b_Co_holds 111 = .ok (.iconst 0, 1) := by decide +kernel
theorem d_Co_holds_112 : decode b_Co_holds 112 = .ok (.ireturn, 1) := by decide +kernel
theorem d_Co_holds_113 : decode b_Co_holds 113 = .ok (.iload_n 1, 1) := by decide +kernel
theorem d_Co_holds_114 : decode b_Co_holds 114 = .ok (.iload_n 2, 1) := by decide +kernel
theorem d_Co_holds_115 : decode b_Co_holds 115 = .ok (.isub, 1) := by decide +kernel
theorem d_Co_holds_116 : decode b_Co_holds 116 = .ok (.iconst 1, 1) := by decide +kernel
theorem d_Co_holds_117 : decode b_Co_holds 117 = .ok (.iand, 1) := by decide +kernel
theorem d_Co_holds_118 : decode b_Co_holds 118 = .ok (.iconst 1, 1) := by decide +kernel
theorem d_Co_holds_119 : decode b_Co_holds 119 = .ok (.if_icmp .ne 7, 3) := by decide +kernel
theorem d_Co_holds_122 : decode b_Co_holds 122 = .ok (.iconst 1, 1) := by decide +kernel
theorem d_Co_holds_123 : decode b_Co_holds 123 = .ok (.goto 4, 3) := by decide +kernel
theorem d_Co_holds_126 : decode b_Co_holds 126 = .ok (.iconst 0, 1) := by decide +kernel
theorem d_Co_holds_127 : decode b_Co_holds 127 = .ok (.ireturn, 1) := by decide +kernel
theorem d_Co_holds_128 : decode b_Co_holds 128 = .ok (.iconst 1, 1) := by decide +kernel
theorem d_Co_holds_129 : decode b_Co_holds 129 = .ok (.ireturn, 1) := by decide +kernel
theorem d_Co_holds_130 : decode b_Co_holds 130 = .ok (.iconst 0, 1) := by decide +kernel
theorem d_Co_holds_131 : decode b_Co_holds 131 = .ok (.ireturn, 1) := by decide +kernel
theorem d_Co_unsigned_0 : decode b_Co_unsigned 0 = .ok (.iload_n 0, 1) := by decide +kernel
theorem d_Co_unsigned_1 : decode b_Co_unsigned 1 = .ok (.i2l, 1) := by decide +kernel
theorem d_Co_unsigned_2 : decode b_Co_unsigned 2 = .ok (.ldc2_w 13, 3) := by decide +kernel
theorem d_Co_unsigned_5 : decode b_Co_unsigned 5 = .ok (.land, 1) := by decide +kernel
theorem d_Co_unsigned_6 : decode b_Co_unsigned 6 = .ok (.lreturn, 1) := by decide +kernel
theorem d_F_init_0 : decode b_F_init 0 = .ok (.aload_n 0, 1) := by decide +kernel
theorem d_F_init_1 : decode b_F_init 1 = .ok (.invokespecial 1, 3) := by decide +kernel
theorem d_F_init_4 : decode b_F_init 4 = .ok (.aload_n 0, 1) := by decide +kernel
theorem d_F_init_5 : decode b_F_init 5 = .ok (.iconst 0, 1) := by decide +kernel
theorem d_F_init_6 : decode b_F_init 6 = .ok (.putfield 7, 3) := by decide +kernel
theorem d_F_init_9 : decode b_F_init 9 = .ok (.aload_n 0, 1) := by decide +kernel
theorem d_F_init_10 : decode b_F_init 10 = .ok (.iconst 0, 1) := by decide +kernel
theorem d_F_init_11 : decode b_F_init 11 = .ok (.putfield 13, 3) := by decide +kernel
theorem d_F_init_14 : decode b_F_init 14 = .ok (.aload_n 0, 1) := by decide +kernel
theorem d_F_init_15 : decode b_F_init 15 = .ok (.iconst 0, 1) := by decide +kernel
theorem d_F_init_16 : decode b_F_init 16 = .ok (.putfield 16, 3) := by decide +kernel
theorem d_F_init_19 : decode b_F_init 19 = .ok (.aload_n 0, 1) := by decide +kernel
theorem d_F_init_20 : decode b_F_init 20 = .ok (.iconst 0, 1) := by decide +kernel
theorem d_F_init_21 : decode b_F_init 21 = .ok (.putfield 19, 3) := by decide +kernel
theorem d_F_init_24 : decode b_F_init 24 = .ok (.return_, 1) := by decide +kernel
theorem d_F_startAt_0 : decode b_F_startAt 0 = .ok (.aload_n 0, 1) := by decide +kernel
theorem d_F_startAt_1 : decode b_F_startAt 1 = .ok (.iload_n 1, 1) := by decide +kernel
theorem d_F_startAt_2 : decode b_F_startAt 2 = .ok (.putfield 7, 3) := by decide +kernel
theorem d_F_startAt_5 : decode b_F_startAt 5 = .ok (.aload_n 0, 1) := by decide +kernel
theorem d_F_startAt_6 : decode b_F_startAt 6 = .ok (.iload_n 1, 1) := by decide +kernel
theorem d_F_startAt_7 : decode b_F_startAt 7 = .ok (.invokestatic 22, 3) := by decide +kernel
theorem d_F_startAt_10 : decode b_F_startAt 10 = .ok (.putfield 13, 3) := by decide +kernel
theorem d_F_startAt_13 : decode b_F_startAt 13 = .ok (.aload_n 0, 1) := by decide +kernel
theorem d_F_startAt_14 : decode b_F_startAt 14 = .ok (.iconst 0, 1) := by decide +kernel
theorem d_F_startAt_15 : decode b_F_startAt 15 = .ok (.putfield 16, 3) := by decide +kernel
theorem d_F_startAt_18 : decode b_F_startAt 18 = .ok (.aload_n 0, 1) := by decide +kernel
theorem d_F_startAt_19 : decode b_F_startAt 19 = .ok (.iload_n 2, 1) := by decide +kernel
theorem d_F_startAt_20 : decode b_F_startAt 20 = .ok (.putfield 19, 3) := by decide +kernel
theorem d_F_startAt_23 : decode b_F_startAt 23 = .ok (.return_, 1) := by decide +kernel
theorem d_F_moveOn_0 : decode b_F_moveOn 0 = .ok (.aload_n 0, 1) := by decide +kernel
theorem d_F_moveOn_1 : decode b_F_moveOn 1 = .ok (.aload_n 0, 1) := by decide +kernel
theorem d_F_moveOn_2 : decode b_F_moveOn 2 = .ok (.getfield 13, 3) := by decide +kernel
theorem d_F_moveOn_5 : decode b_F_moveOn 5 = .ok (.invokestatic 22, 3) := by decide +kernel
theorem d_F_moveOn_8 : decode b_F_moveOn 8 = .ok (.iload_n 1, 1) := by decide +kernel
theorem d_F_moveOn_9 : decode b_F_moveOn 9 = .ok (.invokevirtual 28, 3) := by decide +kernel
theorem d_F_moveOn_12 : decode b_F_moveOn 12 = .ok (.return_, 1) := by decide +kernel
theorem d_F_moveOnTo_0 : decode b_F_moveOnTo 0 = .ok (.aload_n 0, 1) := by decide +kernel
theorem d_F_moveOnTo_1 : decode b_F_moveOnTo 1 = .ok (.aload_n 0, 1) := by decide +kernel
theorem d_F_moveOnTo_2 : decode b_F_moveOnTo 2 = .ok (.getfield 13, 3) := by decide +kernel
theorem d_F_moveOnTo_5 : decode b_F_moveOnTo 5 = .ok (.putfield 7, 3) := by decide +kernel
theorem d_F_moveOnTo_8 : decode b_F_moveOnTo 8 = .ok (.aload_n 0, 1) := by decide +kernel
theorem d_F_moveOnTo_9 : decode b_F_moveOnTo 9 = .ok (.iload_n 1, 1) := by decide +kernel
theorem d_F_moveOnTo_10 : decode b_F_moveOnTo 10 = .ok (.putfield 13, 3) := by decide +kernel
theorem d_F_moveOnTo_13 : decode b_F_moveOnTo 13 = .ok (.aload_n 0, 1) := by decide +kernel
theorem d_F_moveOnTo_14 : decode b_F_moveOnTo 14 = .ok (.iload_n 2, 1) := by decide +kernel
theorem d_F_moveOnTo_15 : decode b_F_moveOnTo 15 = .ok (.ifCond .eq 7, 3) := by decide +kernel
theorem d_F_moveOnTo_18 : decode b_F_moveOnTo 18 = .ok (.iconst 1, 1) := by decide +kernel
theorem d_F_moveOnTo_19 : decode b_F_moveOnTo 19 = .ok (.goto 4, 3) := by decide +kernel
theorem d_F_moveOnTo_22 : decode b_F_moveOnTo 22 = .ok (.iconst 0, 1) := by decide +kernel
theorem d_F_moveOnTo_23 : decode b_F_moveOnTo 23 = .ok (.putfield 16, 3) := by decide +kernel
theorem d_F_moveOnTo_26 : decode b_F_moveOnTo 26 = .ok (.return_, 1) := by decide +kernel
theorem d_F_become_0 : decode b_F_become 0 = .ok (.aload_n 0, 1) := by decide +kernel
theorem d_F_become_1 : decode b_F_become 1 = .ok (.aload_n 1, 1) := by decide +kernel
theorem d_F_become_2 : decode b_F_become 2 = .ok (.getfield 7, 3) := by decide +kernel
theorem d_F_become_5 : decode b_F_become 5 = .ok (.putfield 7, 3) := by decide +kernel
theorem d_F_become_8 : decode b_F_become 8 = .ok (.aload_n 0, 1) := by decide +kernel
theorem d_F_become_9 : decode b_F_become 9 = .ok (.aload_n 1, 1) := by decide +kernel
theorem d_F_become_10 : decode b_F_become 10 = .ok (.getfield 13, 3) := by decide +kernel
theorem d_F_become_13 : decode b_F_become 13 = .ok (.putfield 13, 3) := by decide +kernel
theorem d_F_become_16 : decode b_F_become 16 = .ok (.aload_n 0, 1) := by decide +kernel
theorem d_F_become_17 : decode b_F_become 17 = .ok (.aload_n 1, 1) := by decide +kernel
theorem d_F_become_18 : decode b_F_become 18 = .ok (.getfield 16, 3) := by decide +kernel
theorem d_F_become_21 : decode b_F_become 21 = .ok (.putfield 16, 3) := by decide +kernel
theorem d_F_become_24 : decode b_F_become 24 = .ok (.aload_n 0, 1) := by decide +kernel
theorem d_F_become_25 : decode b_F_become 25 = .ok (.aload_n 1, 1) := by decide +kernel
theorem d_F_become_26 : decode b_F_become 26 = .ok (.getfield 19, 3) := by decide +kernel
theorem d_F_become_29 : decode b_F_become 29 = .ok (.putfield 19, 3) := by decide +kernel
theorem d_F_become_32 : decode b_F_become 32 = .ok (.return_, 1) := by decide +kernel
theorem d_Pa_kind_0 : decode b_Pa_kind 0 = .ok (.iload_n 0, 1) := by decide +kernel
theorem d_Pa_kind_1 : decode b_Pa_kind 1 = .ok (.bipush 27, 2) := by decide +kernel
theorem d_Pa_kind_3 : decode b_Pa_kind 3 = .ok (.iushr, 1) := by decide +kernel
theorem d_Pa_kind_4 : decode b_Pa_kind 4 = .ok (.ireturn, 1) := by decide +kernel
theorem d_Pa_t_0 : decode b_Pa_t 0 = .ok (.iload_n 0, 1) := by decide +kernel
theorem d_Pa_t_1 : decode b_Pa_t 1 = .ok (.bipush 24, 2) := by decide +kernel
theorem d_Pa_t_3 : decode b_Pa_t 3 = .ok (.iushr, 1) := by decide +kernel
theorem d_Pa_t_4 : decode b_Pa_t 4 = .ok (.bipush 7, 2) := by decide +kernel
theorem d_Pa_t_6 : decode b_Pa_t 6 = .ok (.iand, 1) := by decide +kernel
theorem d_Pa_t_7 : decode b_Pa_t 7 = .ok (.ireturn, 1) := by decide +kernel
theorem d_Pa_a_0 : decode b_Pa_a 0 = .ok (.iload_n 0, 1) := by decide +kernel
theorem d_Pa_a_1 : decode b_Pa_a 1 = .ok (.bipush 21, 2) := by decide +kernel
theorem d_Pa_a_3 : decode b_Pa_a 3 = .ok (.iushr, 1) := by decide +kernel
theorem d_Pa_a_4 : decode b_Pa_a 4 = .ok (.bipush 7, 2) := by decide +kernel
theorem d_Pa_a_6 : decode b_Pa_a 6 = .ok (.iand, 1) := by decide +kernel
theorem d_Pa_a_7 : decode b_Pa_a 7 = .ok (.ireturn, 1) := by decide +kernel
theorem d_Pa_b_0 : decode b_Pa_b 0 = .ok (.iload_n 0, 1) := by decide +kernel
theorem d_Pa_b_1 : decode b_Pa_b 1 = .ok (.bipush 18, 2) := by decide +kernel
theorem d_Pa_b_3 : decode b_Pa_b 3 = .ok (.iushr, 1) := by decide +kernel
theorem d_Pa_b_4 : decode b_Pa_b 4 = .ok (.bipush 7, 2) := by decide +kernel
theorem d_Pa_b_6 : decode b_Pa_b 6 = .ok (.iand, 1) := by decide +kernel
theorem d_Pa_b_7 : decode b_Pa_b 7 = .ok (.ireturn, 1) := by decide +kernel
theorem d_Pa_spaceRegister_0 : decode b_Pa_spaceRegister 0 = .ok (.iload_n 0, 1) := by decide +kernel
theorem d_Pa_spaceRegister_1 : decode b_Pa_spaceRegister 1 = .ok (.bipush 18, 2) := by decide +kernel
theorem d_Pa_spaceRegister_3 : decode b_Pa_spaceRegister 3 = .ok (.iushr, 1) := by decide +kernel
theorem d_Pa_spaceRegister_4 : decode b_Pa_spaceRegister 4 = .ok (.iconst 3, 1) := by decide +kernel
theorem d_Pa_spaceRegister_5 : decode b_Pa_spaceRegister 5 = .ok (.iand, 1) := by decide +kernel
theorem d_Pa_spaceRegister_6 : decode b_Pa_spaceRegister 6 = .ok (.ireturn, 1) := by decide +kernel
theorem d_Pa_condition_0 : decode b_Pa_condition 0 = .ok (.iload_n 0, 1) := by decide +kernel
theorem d_Pa_condition_1 : decode b_Pa_condition 1 = .ok (.bipush 15, 2) := by decide +kernel
theorem d_Pa_condition_3 : decode b_Pa_condition 3 = .ok (.iushr, 1) := by decide +kernel
theorem d_Pa_condition_4 : decode b_Pa_condition 4 = .ok (.bipush 7, 2) := by decide +kernel
theorem d_Pa_condition_6 : decode b_Pa_condition 6 = .ok (.iand, 1) := by decide +kernel
theorem d_Pa_condition_7 : decode b_Pa_condition 7 = .ok (.ireturn, 1) := by decide +kernel
theorem d_Pa_n_0 : decode b_Pa_n 0 = .ok (.iload_n 0, 1) := by decide +kernel
theorem d_Pa_n_1 : decode b_Pa_n 1 = .ok (.bipush 14, 2) := by decide +kernel
theorem d_Pa_n_3 : decode b_Pa_n 3 = .ok (.iushr, 1) := by decide +kernel
theorem d_Pa_n_4 : decode b_Pa_n 4 = .ok (.iconst 1, 1) := by decide +kernel
theorem d_Pa_n_5 : decode b_Pa_n 5 = .ok (.iand, 1) := by decide +kernel
theorem d_Pa_n_6 : decode b_Pa_n 6 = .ok (.ireturn, 1) := by decide +kernel
theorem d_Pa_m_0 : decode b_Pa_m 0 = .ok (.iload_n 0, 1) := by decide +kernel
theorem d_Pa_m_1 : decode b_Pa_m 1 = .ok (.bipush 18, 2) := by decide +kernel
theorem d_Pa_m_3 : decode b_Pa_m 3 = .ok (.ishl, 1) := by decide +kernel
theorem d_Pa_m_4 : decode b_Pa_m 4 = .ok (.bipush 18, 2) := by decide +kernel
theorem d_Pa_m_6 : decode b_Pa_m 6 = .ok (.ishr, 1) := by decide +kernel
theorem d_Pa_m_7 : decode b_Pa_m 7 = .ok (.ireturn, 1) := by decide +kernel
theorem d_Pl_of_0 : decode b_Pl_of 0 = .ok (.iload_n 0, 1) := by decide +kernel
theorem d_Pl_of_1 : decode b_Pl_of 1 = .ok (.iconst 3, 1) := by decide +kernel
theorem d_Pl_of_2 : decode b_Pl_of 2 = .ok (.iand, 1) := by decide +kernel
theorem d_Pl_of_3 : decode b_Pl_of 3 = .ok (.bipush 32, 2) := by decide +kernel
theorem d_Pl_of_5 : decode b_Pl_of 5 = .ok (.imul, 1) := by decide +kernel
theorem d_Pl_of_6 : decode b_Pl_of 6 = .ok (.iload_n 1, 1) := by decide +kernel
theorem d_Pl_of_7 : decode b_Pl_of 7 = .ok (.bipush 31, 2) := by decide +kernel
theorem d_Pl_of_9 : decode b_Pl_of 9 = .ok (.iand, 1) := by decide +kernel
theorem d_Pl_of_10 : decode b_Pl_of 10 = .ok (.iadd, 1) := by decide +kernel
theorem d_Pl_of_11 : decode b_Pl_of 11 = .ok (.ireturn, 1) := by decide +kernel
theorem d_Pl_spaceOf_0 : decode b_Pl_spaceOf 0 = .ok (.iload_n 0, 1) := by decide +kernel
theorem d_Pl_spaceOf_1 : decode b_Pl_spaceOf 1 = .ok (.bipush 32, 2) := by decide +kernel
theorem d_Pl_spaceOf_3 : decode b_Pl_spaceOf 3 = .ok (.idiv, 1) := by decide +kernel
theorem d_Pl_spaceOf_4 : decode b_Pl_spaceOf 4 = .ok (.ireturn, 1) := by decide +kernel
theorem d_Pl_offsetOf_0 : decode b_Pl_offsetOf 0 = .ok (.iload_n 0, 1) := by decide +kernel
theorem d_Pl_offsetOf_1 : decode b_Pl_offsetOf 1 = .ok (.bipush 32, 2) := by decide +kernel
theorem d_Pl_offsetOf_3 : decode b_Pl_offsetOf 3 = .ok (.irem, 1) := by decide +kernel
theorem d_Pl_offsetOf_4 : decode b_Pl_offsetOf 4 = .ok (.ireturn, 1) := by decide +kernel
theorem d_Pl_behind_0 : decode b_Pl_behind 0 = .ok (.iload_n 0, 1) := by decide +kernel
theorem d_Pl_behind_1 : decode b_Pl_behind 1 = .ok (.invokestatic 9, 3) := by decide +kernel
theorem d_Pl_behind_4 : decode b_Pl_behind 4 = .ok (.iload_n 0, 1) := by decide +kernel
theorem d_Pl_behind_5 : decode b_Pl_behind 5 = .ok (.invokestatic 15, 3) := by decide +kernel
theorem d_Pl_behind_8 : decode b_Pl_behind 8 = .ok (.iconst 1, 1) := by decide +kernel
theorem d_Pl_behind_9 : decode b_Pl_behind 9 = .ok (.iadd, 1) := by decide +kernel
theorem d_Pl_behind_10 : decode b_Pl_behind 10 = .ok (.invokestatic 18, 3) := by decide +kernel
theorem d_Pl_behind_13 : decode b_Pl_behind 13 = .ok (.ireturn, 1) := by decide +kernel
end
section
theorem d_X_init_0 : decode b_X_init 0 = .ok (.aload_n 0, 1) := by decide +kernel
theorem d_X_init_1 : decode b_X_init 1 = .ok (.invokespecial 1, 3) := by decide +kernel
theorem d_X_init_4 : decode b_X_init 4 = .ok (.aload_n 0, 1) := by decide +kernel
theorem d_X_init_5 : decode b_X_init 5 = .ok (.bipush 86, 2) := by decide +kernel
theorem d_X_init_7 : decode b_X_init 7 = .ok (.newarray .int, 2) := by decide +kernel
theorem d_X_init_9 : decode b_X_init 9 = .ok (.putfield 7, 3) := by decide +kernel
theorem d_X_init_12 : decode b_X_init 12 = .ok (.aload_n 0, 1) := by decide +kernel
theorem d_X_init_13 : decode b_X_init 13 = .ok (.bipush 86, 2) := by decide +kernel
theorem d_X_init_15 : decode b_X_init 15 = .ok (.newarray .int, 2) := by decide +kernel
theorem d_X_init_17 : decode b_X_init 17 = .ok (.putfield 13, 3) := by decide +kernel
theorem d_X_init_20 : decode b_X_init 20 = .ok (.aload_n 0, 1) := by decide +kernel
theorem d_X_init_21 : decode b_X_init 21 = .ok (.sipush 128, 3) := by decide +kernel
theorem d_X_init_24 : decode b_X_init 24 = .ok (.newarray .int, 2) := by decide +kernel
theorem d_X_init_26 : decode b_X_init 26 = .ok (.putfield 16, 3) := by decide +kernel
theorem d_X_init_29 : decode b_X_init 29 = .ok (.aload_n 0, 1) := by decide +kernel
theorem d_X_init_30 : decode b_X_init 30 = .ok (.bipush 7, 2) := by decide +kernel
theorem d_X_init_32 : decode b_X_init 32 = .ok (.newarray .int, 2) := by decide +kernel
theorem d_X_init_34 : decode b_X_init 34 = .ok (.putfield 19, 3) := by decide +kernel
theorem d_X_init_37 : decode b_X_init 37 = .ok (.aload_n 0, 1) := by decide +kernel
theorem d_X_init_38 : decode b_X_init 38 = .ok (.getfield 7, 3) := by decide +kernel
theorem d_X_init_41 : decode b_X_init 41 = .ok (.iconst 1, 1) := by decide +kernel
theorem d_X_init_42 : decode b_X_init 42 = .ok (.iconst 1, 1) := by decide +kernel
theorem d_X_init_43 : decode b_X_init 43 = .ok (.iastore, 1) := by decide +kernel
theorem d_X_init_44 : decode b_X_init 44 = .ok (.return_, 1) := by decide +kernel
theorem d_X_isIn_0 : decode b_X_isIn 0 = .ok (.iload_n 0, 1) := by decide +kernel
theorem d_X_isIn_1 : decode b_X_isIn 1 = .ok (.ifCond .lt 12, 3) := by decide +kernel
theorem d_X_isIn_4 : decode b_X_isIn 4 = .ok (.iload_n 0, 1) := by decide +kernel
theorem d_X_isIn_5 : decode b_X_isIn 5 = .ok (.iload_n 1, 1) := by decide +kernel
theorem d_X_isIn_6 : decode b_X_isIn 6 = .ok (.if_icmp .ge 7, 3) := by decide +kernel
theorem d_X_isIn_9 : decode b_X_isIn 9 = .ok (.iconst 1, 1) := by decide +kernel
theorem d_X_isIn_10 : decode b_X_isIn 10 = .ok (.goto 4, 3) := by decide +kernel
theorem d_X_isIn_13 : decode b_X_isIn 13 = .ok (.iconst 0, 1) := by decide +kernel
theorem d_X_isIn_14 : decode b_X_isIn 14 = .ok (.ireturn, 1) := by decide +kernel
theorem d_X_place_0 : decode b_X_place 0 = .ok (.bipush 32, 2) := by decide +kernel
theorem d_X_place_2 : decode b_X_place 2 = .ok (.iload_n 0, 1) := by decide +kernel
theorem d_X_place_3 : decode b_X_place 3 = .ok (.iconst 3, 1) := by decide +kernel
theorem d_X_place_4 : decode b_X_place 4 = .ok (.iand, 1) := by decide +kernel
theorem d_X_place_5 : decode b_X_place 5 = .ok (.imul, 1) := by decide +kernel
theorem d_X_place_6 : decode b_X_place 6 = .ok (.iload_n 1, 1) := by decide +kernel
theorem d_X_place_7 : decode b_X_place 7 = .ok (.bipush 31, 2) := by decide +kernel
theorem d_X_place_9 : decode b_X_place 9 = .ok (.iand, 1) := by decide +kernel
theorem d_X_place_10 : decode b_X_place 10 = .ok (.iadd, 1) := by decide +kernel
theorem d_X_place_11 : decode b_X_place 11 = .ok (.ireturn, 1) := by decide +kernel
theorem d_X_behind_0 : decode b_X_behind 0 = .ok (.iload_n 0, 1) := by decide +kernel
theorem d_X_behind_1 : decode b_X_behind 1 = .ok (.bipush 32, 2) := by decide +kernel
theorem d_X_behind_3 : decode b_X_behind 3 = .ok (.idiv, 1) := by decide +kernel
theorem d_X_behind_4 : decode b_X_behind 4 = .ok (.iload_n 0, 1) := by decide +kernel
theorem d_X_behind_5 : decode b_X_behind 5 = .ok (.iconst 1, 1) := by decide +kernel
theorem d_X_behind_6 : decode b_X_behind 6 = .ok (.iadd, 1) := by decide +kernel
theorem d_X_behind_7 : decode b_X_behind 7 = .ok (.invokestatic 22, 3) := by decide +kernel
theorem d_X_behind_10 : decode b_X_behind 10 = .ok (.ireturn, 1) := by decide +kernel
theorem d_X_code_0 : decode b_X_code 0 = .ok (.iload_n 1, 1) := by decide +kernel
theorem d_X_code_1 : decode b_X_code 1 = .ok (.iconst 4, 1) := by decide +kernel
theorem d_X_code_2 : decode b_X_code 2 = .ok (.invokestatic 26, 3) := by decide +kernel
theorem d_X_code_5 : decode b_X_code 5 = .ok (.ifCond .eq 12, 3) := by decide +kernel
theorem d_X_code_8 : decode b_X_code 8 = .ok (.iload_n 2, 1) := by decide +kernel
theorem d_X_code_9 : decode b_X_code 9 = .ok (.bipush 32, 2) := by decide +kernel
theorem d_X_code_11 : decode b_X_code 11 = .ok (.invokestatic 26, 3) := by decide +kernel
theorem d_X_code_14 : decode b_X_code 14 = .ok (.ifCond .ne 5, 3) := by decide +kernel
theorem d_X_code_17 : decode b_X_code 17 = .ok (.iconst 0, 1) := by decide +kernel
theorem d_X_code_18 : decode b_X_code 18 = .ok (.ireturn, 1) := by decide +kernel
theorem d_X_code_19 : decode b_X_code 19 = .ok (.aload_n 0, 1) := by decide +kernel
theorem d_X_code_20 : decode b_X_code 20 = .ok (.getfield 16, 3) := by decide +kernel
theorem d_X_code_23 : decode b_X_code 23 = .ok (.iload_n 1, 1) := by decide +kernel
theorem d_X_code_24 : decode b_X_code 24 = .ok (.iload_n 2, 1) := by decide +kernel
theorem d_X_code_25 : decode b_X_code 25 = .ok (.invokestatic 22, 3) := by decide +kernel
theorem d_X_code_28 : decode b_X_code 28 = .ok (.iload_n 3, 1) := by decide +kernel
theorem d_X_code_29 : decode b_X_code 29 = .ok (.iastore, 1) := by decide +kernel
theorem d_X_code_30 : decode b_X_code 30 = .ok (.iconst 1, 1) := by decide +kernel
theorem d_X_code_31 : decode b_X_code 31 = .ok (.ireturn, 1) := by decide +kernel
theorem d_X_data_0 : decode b_X_data 0 = .ok (.iload_n 1, 1) := by decide +kernel
theorem d_X_data_1 : decode b_X_data 1 = .ok (.iconst 4, 1) := by decide +kernel
theorem d_X_data_2 : decode b_X_data 2 = .ok (.invokestatic 26, 3) := by decide +kernel
theorem d_X_data_5 : decode b_X_data 5 = .ok (.ifCond .eq 12, 3) := by decide +kernel
theorem d_X_data_8 : decode b_X_data 8 = .ok (.iload_n 2, 1) := by decide +kernel
theorem d_X_data_9 : decode b_X_data 9 = .ok (.bipush 16, 2) := by decide +kernel
theorem d_X_data_11 : decode b_X_data 11 = .ok (.invokestatic 26, 3) := by decide +kernel
theorem d_X_data_14 : decode b_X_data 14 = .ok (.ifCond .ne 5, 3) := by decide +kernel
theorem d_X_data_17 : decode b_X_data 17 = .ok (.iconst 0, 1) := by decide +kernel
theorem d_X_data_18 : decode b_X_data 18 = .ok (.ireturn, 1) := by decide +kernel
theorem d_X_data_19 : decode b_X_data 19 = .ok (.aload_n 0, 1) := by decide +kernel
theorem d_X_data_20 : decode b_X_data 20 = .ok (.getfield 7, 3) := by decide +kernel
theorem d_X_data_23 : decode b_X_data 23 = .ok (.bipush 22, 2) := by decide +kernel
theorem d_X_data_25 : decode b_X_data 25 = .ok (.bipush 16, 2) := by decide +kernel
theorem d_X_data_27 : decode b_X_data 27 = .ok (.iload_n 1, 1) := by decide +kernel
theorem d_X_data_28 : decode b_X_data 28 = .ok (.imul, 1) := by decide +kernel
theorem d_X_data_29 : decode b_X_data 29 = .ok (.iadd, 1) := by decide +kernel
theorem d_X_data_30 : decode b_X_data 30 = .ok (.iload_n 2, 1) := by decide +kernel
theorem d_X_data_31 : decode b_X_data 31 = .ok (.iadd, 1) := by decide +kernel
theorem d_X_data_32 : decode b_X_data 32 = .ok (.iload_n 3, 1) := by decide +kernel
theorem d_X_data_33 : decode b_X_data 33 = .ok (.iastore, 1) := by decide +kernel
theorem d_X_data_34 : decode b_X_data 34 = .ok (.iconst 1, 1) := by decide +kernel
theorem d_X_data_35 : decode b_X_data 35 = .ok (.ireturn, 1) := by decide +kernel
theorem d_X_set_0 : decode b_X_set 0 = .ok (.iload_n 1, 1) := by decide +kernel
theorem d_X_set_1 : decode b_X_set 1 = .ok (.iconst 1, 1) := by decide +kernel
theorem d_X_set_2 : decode b_X_set 2 = .ok (.if_icmp .lt 9, 3) := by decide +kernel
theorem d_X_set_5 : decode b_X_set 5 = .ok (.iload_n 1, 1) := by decide +kernel
theorem d_X_set_6 : decode b_X_set 6 = .ok (.bipush 7, 2) := by decide +kernel
theorem d_X_set_8 : decode b_X_set 8 = .ok (.if_icmp .le 5, 3) := by decide +kernel
theorem d_X_set_11 : decode b_X_set 11 = .ok (.iconst 0, 1) := by decide +kernel
theorem d_X_set_12 : decode b_X_set 12 = .ok (.ireturn, 1) := by decide +kernel
theorem d_X_set_13 : decode b_X_set 13 = .ok (.aload_n 0, 1) := by decide +kernel
theorem d_X_set_14 : decode b_X_set 14 = .ok (.getfield 7, 3) := by decide +kernel
theorem d_X_set_17 : decode b_X_set 17 = .ok (.bipush 10, 2) := by decide +kernel
theorem d_X_set_19 : decode b_X_set 19 = .ok (.iload_n 1, 1) := by decide +kernel
theorem d_X_set_20 : decode b_X_set 20 = .ok (.iadd, 1) := by decide +kernel
theorem d_X_set_21 : decode b_X_set 21 = .ok (.iload_n 2, 1) := by decide +kernel
theorem d_X_set_22 : decode b_X_set 22 = .ok (.iastore, 1) := by decide +kernel
theorem d_X_set_23 : decode b_X_set 23 = .ok (.iconst 1, 1) := by decide +kernel
theorem d_X_set_24 : decode b_X_set 24 = .ok (.ireturn, 1) := by decide +kernel
theorem d_X_setSpace_0 : decode b_X_setSpace 0 = .ok (.iload_n 1, 1) := by decide +kernel
theorem d_X_setSpace_1 : decode b_X_setSpace 1 = .ok (.iconst 4, 1) := by decide +kernel
theorem d_X_setSpace_2 : decode b_X_setSpace 2 = .ok (.invokestatic 26, 3) := by decide +kernel
theorem d_X_setSpace_5 : decode b_X_setSpace 5 = .ok (.ifCond .eq 11, 3) := by decide +kernel
theorem d_X_setSpace_8 : decode b_X_setSpace 8 = .ok (.iload_n 2, 1) := by decide +kernel
theorem d_X_setSpace_9 : decode b_X_setSpace 9 = .ok (.iconst 4, 1) := by decide +kernel
theorem d_X_setSpace_10 : decode b_X_setSpace 10 = .ok (.invokestatic 26, 3) := by decide +kernel
theorem d_X_setSpace_13 : decode b_X_setSpace 13 = .ok (.ifCond .ne 5, 3) := by decide +kernel
theorem d_X_setSpace_16 : decode b_X_setSpace 16 = .ok (.iconst 0, 1) := by decide +kernel
theorem d_X_setSpace_17 : decode b_X_setSpace 17 = .ok (.ireturn, 1) := by decide +kernel
theorem d_X_setSpace_18 : decode b_X_setSpace 18 = .ok (.aload_n 0, 1) := by decide +kernel
theorem d_X_setSpace_19 : decode b_X_setSpace 19 = .ok (.getfield 7, 3) := by decide +kernel
theorem d_X_setSpace_22 : decode b_X_setSpace 22 = .ok (.bipush 18, 2) := by decide +kernel
theorem d_X_setSpace_24 : decode b_X_setSpace 24 = .ok (.iload_n 1, 1) := by decide +kernel
theorem d_X_setSpace_25 : decode b_X_setSpace 25 = .ok (.iadd, 1) := by decide +kernel
theorem d_X_setSpace_26 : decode b_X_setSpace 26 = .ok (.iload_n 2, 1) := by decide +kernel
theorem d_X_setSpace_27 : decode b_X_setSpace 27 = .ok (.iastore, 1) := by decide +kernel
theorem d_X_setSpace_28 : decode b_X_setSpace 28 = .ok (.iconst 1, 1) := by decide +kernel
theorem d_X_setSpace_29 : decode b_X_setSpace 29 = .ok (.ireturn, 1) := by decide +kernel
theorem d_X_go_0 : decode b_X_go 0 = .ok (.iload_n 1, 1) := by decide +kernel
theorem d_X_go_1 : decode b_X_go 1 = .ok (.iconst 4, 1) := by decide +kernel
theorem d_X_go_2 : decode b_X_go 2 = .ok (.invokestatic 26, 3) := by decide +kernel
theorem d_X_go_5 : decode b_X_go 5 = .ok (.ifCond .eq 12, 3) := by decide +kernel
theorem d_X_go_8 : decode b_X_go 8 = .ok (.iload_n 2, 1) := by decide +kernel
theorem d_X_go_9 : decode b_X_go 9 = .ok (.bipush 32, 2) := by decide +kernel
theorem d_X_go_11 : decode b_X_go 11 = .ok (.invokestatic 26, 3) := by decide +kernel
theorem d_X_go_14 : decode b_X_go 14 = .ok (.ifCond .ne 5, 3) := by decide +kernel
theorem d_X_go_17 : decode b_X_go 17 = .ok (.iconst 0, 1) := by decide +kernel
theorem d_X_go_18 : decode b_X_go 18 = .ok (.ireturn, 1) := by decide +kernel
theorem d_X_go_19 : decode b_X_go 19 = .ok (.aload_n 0, 1) := by decide +kernel
theorem d_X_go_20 : decode b_X_go 20 = .ok (.getfield 7, 3) := by decide +kernel
theorem d_X_go_23 : decode b_X_go 23 = .ok (.iconst 0, 1) := by decide +kernel
theorem d_X_go_24 : decode b_X_go 24 = .ok (.iload_n 1, 1) := by decide +kernel
theorem d_X_go_25 : decode b_X_go 25 = .ok (.iload_n 2, 1) := by decide +kernel
theorem d_X_go_26 : decode b_X_go 26 = .ok (.invokestatic 22, 3) := by decide +kernel
theorem d_X_go_29 : decode b_X_go 29 = .ok (.iastore, 1) := by decide +kernel
theorem d_X_go_30 : decode b_X_go 30 = .ok (.aload_n 0, 1) := by decide +kernel
theorem d_X_go_31 : decode b_X_go 31 = .ok (.getfield 7, 3) := by decide +kernel
theorem d_X_go_34 : decode b_X_go 34 = .ok (.iconst 1, 1) := by decide +kernel
theorem d_X_go_35 : decode b_X_go 35 = .ok (.aload_n 0, 1) := by decide +kernel
theorem d_X_go_36 : decode b_X_go 36 = .ok (.getfield 7, 3) := by decide +kernel
theorem d_X_go_39 : decode b_X_go 39 = .ok (.iconst 0, 1) := by decide +kernel
theorem d_X_go_40 : decode b_X_go 40 = .ok (.iaload, 1) := by decide +kernel
theorem d_X_go_41 : decode b_X_go 41 = .ok (.invokestatic 30, 3) := by decide +kernel
theorem d_X_go_44 : decode b_X_go 44 = .ok (.iastore, 1) := by decide +kernel
theorem d_X_go_45 : decode b_X_go 45 = .ok (.aload_n 0, 1) := by decide +kernel
theorem d_X_go_46 : decode b_X_go 46 = .ok (.getfield 7, 3) := by decide +kernel
theorem d_X_go_49 : decode b_X_go 49 = .ok (.iconst 2, 1) := by decide +kernel
theorem d_X_go_50 : decode b_X_go 50 = .ok (.iconst 0, 1) := by decide +kernel
theorem d_X_go_51 : decode b_X_go 51 = .ok (.iastore, 1) := by decide +kernel
theorem d_X_go_52 : decode b_X_go 52 = .ok (.aload_n 0, 1) := by decide +kernel
theorem d_X_go_53 : decode b_X_go 53 = .ok (.getfield 7, 3) := by decide +kernel
theorem d_X_go_56 : decode b_X_go 56 = .ok (.iconst 3, 1) := by decide +kernel
theorem d_X_go_57 : decode b_X_go 57 = .ok (.iload_n 3, 1) := by decide +kernel
theorem d_X_go_58 : decode b_X_go 58 = .ok (.ifCond .eq 7, 3) := by decide +kernel
theorem d_X_go_61 : decode b_X_go 61 = .ok (.iconst 1, 1) := by decide +kernel
theorem d_X_go_62 : decode b_X_go 62 = .ok (.goto 4, 3) := by decide +kernel
theorem d_X_go_65 : decode b_X_go 65 = .ok (.iconst 0, 1) := by decide +kernel
theorem d_X_go_66 : decode b_X_go 66 = .ok (.iastore, 1) := by decide +kernel
theorem d_X_go_67 : decode b_X_go 67 = .ok (.iconst 1, 1) := by decide +kernel
theorem d_X_go_68 : decode b_X_go 68 = .ok (.ireturn, 1) := by decide +kernel
theorem d_X_interrupt_0 : decode b_X_interrupt 0 = .ok (.aload_n 0, 1) := by decide +kernel
theorem d_X_interrupt_1 : decode b_X_interrupt 1 = .ok (.getfield 7, 3) := by decide +kernel
theorem d_X_interrupt_4 : decode b_X_interrupt 4 = .ok (.iconst 4, 1) := by decide +kernel
theorem d_X_interrupt_5 : decode b_X_interrupt 5 = .ok (.iaload, 1) := by decide +kernel
theorem d_X_interrupt_6 : decode b_X_interrupt 6 = .ok (.ifCond .ne 7, 3) := by decide +kernel
theorem d_X_interrupt_9 : decode b_X_interrupt 9 = .ok (.iconst 1, 1) := by decide +kernel
theorem d_X_interrupt_10 : decode b_X_interrupt 10 = .ok (.goto 4, 3) := by decide +kernel
theorem d_X_interrupt_13 : decode b_X_interrupt 13 = .ok (.iconst 0, 1) := by decide +kernel
theorem d_X_interrupt_14 : decode b_X_interrupt 14 = .ok (.istore_n 1, 1) := by decide +kernel
theorem d_X_interrupt_15 : decode b_X_interrupt 15 = .ok (.aload_n 0, 1) := by decide +kernel
theorem d_X_interrupt_16 : decode b_X_interrupt 16 = .ok (.getfield 7, 3) := by decide +kernel
theorem d_X_interrupt_19 : decode b_X_interrupt 19 = .ok (.iconst 4, 1) := by decide +kernel
theorem d_X_interrupt_20 : decode b_X_interrupt 20 = .ok (.iconst 1, 1) := by decide +kernel
theorem d_X_interrupt_21 : decode b_X_interrupt 21 = .ok (.iastore, 1) := by decide +kernel
theorem d_X_interrupt_22 : decode b_X_interrupt 22 = .ok (.iload_n 1, 1) := by decide +kernel
theorem d_X_interrupt_23 : decode b_X_interrupt 23 = .ok (.ireturn, 1) := by decide +kernel
theorem d_X_trap_0 : decode b_X_trap 0 = .ok (.aload_n 0, 1) := by decide +kernel
theorem d_X_trap_1 : decode b_X_trap 1 = .ok (.getfield 7, 3) := by decide +kernel
theorem d_X_trap_4 : decode b_X_trap 4 = .ok (.iconst 5, 1) := by decide +kernel
theorem d_X_trap_5 : decode b_X_trap 5 = .ok (.aload_n 0, 1) := by decide +kernel
theorem d_X_trap_6 : decode b_X_trap 6 = .ok (.getfield 7, 3) := by decide +kernel
theorem d_X_trap_9 : decode b_X_trap 9 = .ok (.iconst 0, 1) := by decide +kernel
theorem d_X_trap_10 : decode b_X_trap 10 = .ok (.iaload, 1) := by decide +kernel
theorem d_X_trap_11 : decode b_X_trap 11 = .ok (.iastore, 1) := by decide +kernel
theorem d_X_trap_12 : decode b_X_trap 12 = .ok (.aload_n 0, 1) := by decide +kernel
theorem d_X_trap_13 : decode b_X_trap 13 = .ok (.getfield 7, 3) := by decide +kernel
theorem d_X_trap_16 : decode b_X_trap 16 = .ok (.bipush 6, 2) := by decide +kernel
theorem d_X_trap_18 : decode b_X_trap 18 = .ok (.aload_n 0, 1) := by decide +kernel
theorem d_X_trap_19 : decode b_X_trap 19 = .ok (.getfield 7, 3) := by decide +kernel
theorem d_X_trap_22 : decode b_X_trap 22 = .ok (.iconst 1, 1) := by decide +kernel
theorem d_X_trap_23 : decode b_X_trap 23 = .ok (.iaload, 1) := by decide +kernel
theorem d_X_trap_24 : decode b_X_trap 24 = .ok (.iastore, 1) := by decide +kernel
theorem d_X_trap_25 : decode b_X_trap 25 = .ok (.aload_n 0, 1) := by decide +kernel
theorem d_X_trap_26 : decode b_X_trap 26 = .ok (.getfield 7, 3) := by decide +kernel
theorem d_X_trap_29 : decode b_X_trap 29 = .ok (.bipush 7, 2) := by decide +kernel
theorem d_X_trap_31 : decode b_X_trap 31 = .ok (.aload_n 0, 1) := by decide +kernel
theorem d_X_trap_32 : decode b_X_trap 32 = .ok (.getfield 7, 3) := by decide +kernel
theorem d_X_trap_35 : decode b_X_trap 35 = .ok (.iconst 2, 1) := by decide +kernel
theorem d_X_trap_36 : decode b_X_trap 36 = .ok (.iaload, 1) := by decide +kernel
theorem d_X_trap_37 : decode b_X_trap 37 = .ok (.iastore, 1) := by decide +kernel
theorem d_X_trap_38 : decode b_X_trap 38 = .ok (.aload_n 0, 1) := by decide +kernel
theorem d_X_trap_39 : decode b_X_trap 39 = .ok (.getfield 7, 3) := by decide +kernel
theorem d_X_trap_42 : decode b_X_trap 42 = .ok (.bipush 8, 2) := by decide +kernel
theorem d_X_trap_44 : decode b_X_trap 44 = .ok (.aload_n 0, 1) := by decide +kernel
theorem d_X_trap_45 : decode b_X_trap 45 = .ok (.getfield 7, 3) := by decide +kernel
theorem d_X_trap_48 : decode b_X_trap 48 = .ok (.iconst 3, 1) := by decide +kernel
theorem d_X_trap_49 : decode b_X_trap 49 = .ok (.iaload, 1) := by decide +kernel
theorem d_X_trap_50 : decode b_X_trap 50 = .ok (.iastore, 1) := by decide +kernel
theorem d_X_trap_51 : decode b_X_trap 51 = .ok (.aload_n 0, 1) := by decide +kernel
theorem d_X_trap_52 : decode b_X_trap 52 = .ok (.getfield 7, 3) := by decide +kernel
theorem d_X_trap_55 : decode b_X_trap 55 = .ok (.bipush 9, 2) := by decide +kernel
theorem d_X_trap_57 : decode b_X_trap 57 = .ok (.iload_n 1, 1) := by decide +kernel
theorem d_X_trap_58 : decode b_X_trap 58 = .ok (.iastore, 1) := by decide +kernel
theorem d_X_trap_59 : decode b_X_trap 59 = .ok (.aload_n 0, 1) := by decide +kernel
theorem d_X_trap_60 : decode b_X_trap 60 = .ok (.getfield 7, 3) := by decide +kernel
theorem d_X_trap_63 : decode b_X_trap 63 = .ok (.iconst 2, 1) := by decide +kernel
theorem d_X_trap_64 : decode b_X_trap 64 = .ok (.iconst 0, 1) := by decide +kernel
theorem d_X_trap_65 : decode b_X_trap 65 = .ok (.iastore, 1) := by decide +kernel
theorem d_X_trap_66 : decode b_X_trap 66 = .ok (.aload_n 0, 1) := by decide +kernel
theorem d_X_trap_67 : decode b_X_trap 67 = .ok (.getfield 7, 3) := by decide +kernel
theorem d_X_trap_70 : decode b_X_trap 70 = .ok (.iconst 3, 1) := by decide +kernel
theorem d_X_trap_71 : decode b_X_trap 71 = .ok (.iconst 0, 1) := by decide +kernel
theorem d_X_trap_72 : decode b_X_trap 72 = .ok (.iastore, 1) := by decide +kernel
theorem d_X_trap_73 : decode b_X_trap 73 = .ok (.aload_n 0, 1) := by decide +kernel
theorem d_X_trap_74 : decode b_X_trap 74 = .ok (.getfield 7, 3) := by decide +kernel
theorem d_X_trap_77 : decode b_X_trap 77 = .ok (.iconst 0, 1) := by decide +kernel
theorem d_X_trap_78 : decode b_X_trap 78 = .ok (.iconst 4, 1) := by decide +kernel
theorem d_X_trap_79 : decode b_X_trap 79 = .ok (.iload_n 1, 1) := by decide +kernel
theorem d_X_trap_80 : decode b_X_trap 80 = .ok (.imul, 1) := by decide +kernel
theorem d_X_trap_81 : decode b_X_trap 81 = .ok (.iastore, 1) := by decide +kernel
theorem d_X_trap_82 : decode b_X_trap 82 = .ok (.aload_n 0, 1) := by decide +kernel
theorem d_X_trap_83 : decode b_X_trap 83 = .ok (.getfield 7, 3) := by decide +kernel
theorem d_X_trap_86 : decode b_X_trap 86 = .ok (.iconst 1, 1) := by decide +kernel
theorem d_X_trap_87 : decode b_X_trap 87 = .ok (.iconst 4, 1) := by decide +kernel
theorem d_X_trap_88 : decode b_X_trap 88 = .ok (.iload_n 1, 1) := by decide +kernel
theorem d_X_trap_89 : decode b_X_trap 89 = .ok (.imul, 1) := by decide +kernel
theorem d_X_trap_90 : decode b_X_trap 90 = .ok (.iconst 1, 1) := by decide +kernel
theorem d_X_trap_91 : decode b_X_trap 91 = .ok (.iadd, 1) := by decide +kernel
theorem d_X_trap_92 : decode b_X_trap 92 = .ok (.iastore, 1) := by decide +kernel
theorem d_X_trap_93 : decode b_X_trap 93 = .ok (.aload_n 0, 1) := by decide +kernel
theorem d_X_trap_94 : decode b_X_trap 94 = .ok (.getfield 19, 3) := by decide +kernel
theorem d_X_trap_97 : decode b_X_trap 97 = .ok (.iload_n 1, 1) := by decide +kernel
theorem d_X_trap_98 : decode b_X_trap 98 = .ok (.aload_n 0, 1) := by decide +kernel
theorem d_X_trap_99 : decode b_X_trap 99 = .ok (.getfield 19, 3) := by decide +kernel
theorem d_X_trap_102 : decode b_X_trap 102 = .ok (.iload_n 1, 1) := by decide +kernel
theorem d_X_trap_103 : decode b_X_trap 103 = .ok (.iaload, 1) := by decide +kernel
theorem d_X_trap_104 : decode b_X_trap 104 = .ok (.iconst 1, 1) := by decide +kernel
theorem d_X_trap_105 : decode b_X_trap 105 = .ok (.iadd, 1) := by decide +kernel
theorem d_X_trap_106 : decode b_X_trap 106 = .ok (.iastore, 1) := by decide +kernel
theorem d_X_trap_107 : decode b_X_trap 107 = .ok (.return_, 1) := by decide +kernel
theorem d_X_moveOn_0 : decode b_X_moveOn 0 = .ok (.aload_n 0, 1) := by decide +kernel
theorem d_X_moveOn_1 : decode b_X_moveOn 1 = .ok (.getfield 7, 3) := by decide +kernel
theorem d_X_moveOn_4 : decode b_X_moveOn 4 = .ok (.iconst 0, 1) := by decide +kernel
theorem d_X_moveOn_5 : decode b_X_moveOn 5 = .ok (.aload_n 0, 1) := by decide +kernel
theorem d_X_moveOn_6 : decode b_X_moveOn 6 = .ok (.getfield 7, 3) := by decide +kernel
theorem d_X_moveOn_9 : decode b_X_moveOn 9 = .ok (.iconst 1, 1) := by decide +kernel
theorem d_X_moveOn_10 : decode b_X_moveOn 10 = .ok (.iaload, 1) := by decide +kernel
theorem d_X_moveOn_11 : decode b_X_moveOn 11 = .ok (.iastore, 1) := by decide +kernel
theorem d_X_moveOn_12 : decode b_X_moveOn 12 = .ok (.aload_n 0, 1) := by decide +kernel
theorem d_X_moveOn_13 : decode b_X_moveOn 13 = .ok (.getfield 7, 3) := by decide +kernel
theorem d_X_moveOn_16 : decode b_X_moveOn 16 = .ok (.iconst 1, 1) := by decide +kernel
theorem d_X_moveOn_17 : decode b_X_moveOn 17 = .ok (.iload_n 1, 1) := by decide +kernel
theorem d_X_moveOn_18 : decode b_X_moveOn 18 = .ok (.ifCond .ge 15, 3) := by decide +kernel
theorem d_X_moveOn_21 : decode b_X_moveOn 21 = .ok (.aload_n 0, 1) := by decide +kernel
theorem d_X_moveOn_22 : decode b_X_moveOn 22 = .ok (.getfield 7, 3) := by decide +kernel
theorem d_X_moveOn_25 : decode b_X_moveOn 25 = .ok (.iconst 0, 1) := by decide +kernel
theorem d_X_moveOn_26 : decode b_X_moveOn 26 = .ok (.iaload, 1) := by decide +kernel
theorem d_X_moveOn_27 : decode b_X_moveOn 27 = .ok (.invokestatic 30, 3) := by decide +kernel
theorem d_X_moveOn_30 : decode b_X_moveOn 30 = .ok (.goto 4, 3) := by decide +kernel
theorem d_X_moveOn_33 : decode b_X_moveOn 33 = .ok (.iload_n 1, 1) := by decide +kernel
theorem d_X_moveOn_34 : decode b_X_moveOn 34 = .ok (.iastore, 1) := by decide +kernel
theorem d_X_moveOn_35 : decode b_X_moveOn 35 = .ok (.return_, 1) := by decide +kernel
theorem d_X_write_0 : decode b_X_write 0 = .ok (.aload_n 0, 1) := by decide +kernel
theorem d_X_write_1 : decode b_X_write 1 = .ok (.getfield 7, 3) := by decide +kernel
theorem d_X_write_4 : decode b_X_write 4 = .ok (.bipush 10, 2) := by decide +kernel
theorem d_X_write_6 : decode b_X_write 6 = .ok (.iload_n 1, 1) := by decide +kernel
theorem d_X_write_7 : decode b_X_write 7 = .ok (.iadd, 1) := by decide +kernel
theorem d_X_write_8 : decode b_X_write 8 = .ok (.iload_n 1, 1) := by decide +kernel
theorem d_X_write_9 : decode b_X_write 9 = .ok (.ifCond .ne 7, 3) := by decide +kernel
theorem d_X_write_12 : decode b_X_write 12 = .ok (.iconst 0, 1) := by decide +kernel
theorem d_X_write_13 : decode b_X_write 13 = .ok (.goto 4, 3) := by decide +kernel
theorem d_X_write_16 : decode b_X_write 16 = .ok (.iload_n 2, 1) := by decide +kernel
theorem d_X_write_17 : decode b_X_write 17 = .ok (.iastore, 1) := by decide +kernel
theorem d_X_write_18 : decode b_X_write 18 = .ok (.return_, 1) := by decide +kernel
theorem d_X_holds_0 : decode b_X_holds 0 = .ok (.iload_n 1, 1) := by decide +kernel
theorem d_X_holds_1 : decode b_X_holds 1 = .ok (.i2l, 1) := by decide +kernel
theorem d_X_holds_2 : decode b_X_holds 2 = .ok (.ldc2_w 34, 3) := by decide +kernel
theorem d_X_holds_5 : decode b_X_holds 5 = .ok (.land, 1) := by decide +kernel
theorem d_X_holds_6 : decode b_X_holds 6 = .ok (.lstore_n 3, 1) := by decide +kernel
theorem d_X_holds_7 : decode b_X_holds 7 = .ok (.iload_n 2, 1) := by decide +kernel
theorem d_X_holds_8 : decode b_X_holds 8 = .ok (.i2l, 1) := by decide +kernel
theorem d_X_holds_9 : decode b_X_holds 9 = .ok (.ldc2_w 34, 3) := by decide +kernel
theorem d_X_holds_12 : decode b_X_holds 12 = .ok (.land, 1) := by decide +kernel
theorem d_X_holds_13 : decode b_X_holds 13 = .ok (.lstore 5, 2) := by decide +kernel
theorem d_X_holds_15 : decode b_X_holds 15 = .ok (.iload_n 0, 1) := by decide +kernel
theorem d_X_holds_16 : decode b_X_holds 16 = .ok (.tableswitch 114 1 6 #[40, 51, 62, 73, 86, 99], 40) := by decide +kernel
theorem d_X_holds_56 : decode b_X_holds 56 = .ok (.iload_n 1, 1) := by decide +kernel
theorem d_X_holds_57 : decode b_X_holds 57 = .ok (.iload_n 2, 1) := by decide +kernel
theorem d_X_holds_58 : decode b_X_holds 58 = .ok (.if_icmp .ne 7, 3) := by decide +kernel
theorem d_X_holds_61 : decode b_X_holds 61 = .ok (.iconst 1, 1) := by decide +kernel
theorem d_X_holds_62 : decode b_X_holds 62 = .ok (.goto 4, 3) := by decide +kernel
theorem d_X_holds_65 : decode b_X_holds 65 = .ok (.iconst 0, 1) := by decide +kernel
theorem d_X_holds_66 : decode b_X_holds 66 = .ok (.ireturn, 1) := by decide +kernel
theorem d_X_holds_67 : decode b_X_holds 67 = .ok (.iload_n 1, 1) := by decide +kernel
theorem d_X_holds_68 : decode b_X_holds 68 = .ok (.iload_n 2, 1) := by decide +kernel
theorem d_X_holds_69 : decode b_X_holds 69 = .ok (.if_icmp .ge 7, 3) := by decide +kernel
theorem d_X_holds_72 : decode b_X_holds 72 = .ok (.iconst 1, 1) := by decide +kernel
theorem d_X_holds_73 : decode b_X_holds 73 = .ok (.goto 4, 3) := by decide +kernel
theorem d_X_holds_76 : decode b_X_holds 76 = .ok (.iconst 0, 1) := by decide +kernel
theorem d_X_holds_77 : decode b_X_holds 77 = .ok (.ireturn, 1) := by decide +kernel
theorem d_X_holds_78 : decode b_X_holds 78 = .ok (.iload_n 1, 1) := by decide +kernel
theorem d_X_holds_79 : decode b_X_holds 79 = .ok (.iload_n 2, 1) := by decide +kernel
theorem d_X_holds_80 : decode b_X_holds 80 = .ok (.if_icmp .gt 7, 3) := by decide +kernel
theorem d_X_holds_83 : decode b_X_holds 83 = .ok (.iconst 1, 1) := by decide +kernel
theorem d_X_holds_84 : decode b_X_holds 84 = .ok (.goto 4, 3) := by decide +kernel
theorem d_X_holds_87 : decode b_X_holds 87 = .ok (.iconst 0, 1) := by decide +kernel
theorem d_X_holds_88 : decode b_X_holds 88 = .ok (.ireturn, 1) := by decide +kernel
theorem d_X_holds_89 : decode b_X_holds 89 = .ok (.lload_n 3, 1) := by decide +kernel
theorem d_X_holds_90 : decode b_X_holds 90 = .ok (.lload 5, 2) := by decide +kernel
theorem d_X_holds_92 : decode b_X_holds 92 = .ok (.lcmp, 1) := by decide +kernel
theorem d_X_holds_93 : decode b_X_holds 93 = .ok (.ifCond .ge 7, 3) := by decide +kernel
theorem d_X_holds_96 : decode b_X_holds 96 = .ok (.iconst 1, 1) := by decide +kernel
theorem d_X_holds_97 : decode b_X_holds 97 = .ok (.goto 4, 3) := by decide +kernel
theorem d_X_holds_100 : decode b_X_holds 100 = .ok (.iconst 0, 1) := by decide +kernel
theorem d_X_holds_101 : decode b_X_holds 101 = .ok (.ireturn, 1) := by decide +kernel
theorem d_X_holds_102 : decode b_X_holds 102 = .ok (.lload_n 3, 1) := by decide +kernel
theorem d_X_holds_103 : decode b_X_holds 103 = .ok (.lload 5, 2) := by decide +kernel
theorem d_X_holds_105 : decode b_X_holds 105 = .ok (.lcmp, 1) := by decide +kernel
theorem d_X_holds_106 : decode b_X_holds 106 = .ok (.ifCond .gt 7, 3) := by decide +kernel
theorem d_X_holds_109 : decode b_X_holds 109 = .ok (.iconst 1, 1) := by decide +kernel
theorem d_X_holds_110 : decode b_X_holds 110 = .ok (.goto 4, 3) := by decide +kernel
theorem d_X_holds_113 : decode b_X_holds 113 = .ok (.iconst 0, 1) := by decide +kernel
theorem d_X_holds_114 : decode b_X_holds 114 = .ok (.ireturn, 1) := by decide +kernel
theorem d_X_holds_115 : decode b_X_holds 115 = .ok (.iload_n 1, 1) := by decide +kernel
theorem d_X_holds_116 : decode b_X_holds 116 = .ok (.iload_n 2, 1) := by decide +kernel
theorem d_X_holds_117 : decode b_X_holds 117 = .ok (.isub, 1) := by decide +kernel
theorem d_X_holds_118 : decode b_X_holds 118 = .ok (.iconst 1, 1) := by decide +kernel
theorem d_X_holds_119 : decode b_X_holds 119 = .ok (.iand, 1) := by decide +kernel
theorem d_X_holds_120 : decode b_X_holds 120 = .ok (.iconst 1, 1) := by decide +kernel
theorem d_X_holds_121 : decode b_X_holds 121 = .ok (.if_icmp .ne 7, 3) := by decide +kernel
theorem d_X_holds_124 : decode b_X_holds 124 = .ok (.iconst 1, 1) := by decide +kernel
theorem d_X_holds_125 : decode b_X_holds 125 = .ok (.goto 4, 3) := by decide +kernel
theorem d_X_holds_128 : decode b_X_holds 128 = .ok (.iconst 0, 1) := by decide +kernel
theorem d_X_holds_129 : decode b_X_holds 129 = .ok (.ireturn, 1) := by decide +kernel
theorem d_X_holds_130 : decode b_X_holds 130 = .ok (.iload_n 0, 1) := by decide +kernel
theorem d_X_holds_131 : decode b_X_holds 131 = .ok (.bipush 7, 2) := by decide +kernel
theorem d_X_holds_133 : decode b_X_holds 133 = .ok (.if_icmp .ne 7, 3) := by decide +kernel
theorem d_X_holds_136 : decode b_X_holds 136 = .ok (.iconst 1, 1) := by decide +kernel
theorem d_X_holds_137 : decode b_X_holds 137 = .ok (.goto 4, 3) := by decide +kernel
theorem d_X_holds_140 : decode b_X_holds 140 = .ok (.iconst 0, 1) := by decide +kernel
theorem d_X_holds_141 : decode b_X_holds 141 = .ok (.ireturn, 1) := by decide +kernel
theorem d_X_reckon_0 : decode b_X_reckon 0 = .ok (.iload_n 2, 1) := by decide +kernel
theorem d_X_reckon_1 : decode b_X_reckon 1 = .ok (.iconst 1, 1) := by decide +kernel
theorem d_X_reckon_2 : decode b_X_reckon 2 = .ok (.if_icmp .ne 12, 3) := by decide +kernel
theorem d_X_reckon_5 : decode b_X_reckon 5 = .ok (.iload_n 3, 1) := by decide +kernel
theorem d_X_reckon_6 : decode b_X_reckon 6 = .ok (.i2l, 1) := by decide +kernel
theorem d_X_reckon_7 : decode b_X_reckon 7 = .ok (.iload 4, 2) := by decide +kernel
theorem d_X_reckon_9 : decode b_X_reckon 9 = .ok (.i2l, 1) := by decide +kernel
theorem d_X_reckon_10 : decode b_X_reckon 10 = .ok (.ladd, 1) := by decide +kernel
theorem d_X_reckon_11 : decode b_X_reckon 11 = .ok (.goto 9, 3) := by decide +kernel
theorem d_X_reckon_14 : decode b_X_reckon 14 = .ok (.iload_n 3, 1) := by decide +kernel
theorem d_X_reckon_15 : decode b_X_reckon 15 = .ok (.i2l, 1) := by decide +kernel
theorem d_X_reckon_16 : decode b_X_reckon 16 = .ok (.iload 4, 2) := by decide +kernel
theorem d_X_reckon_18 : decode b_X_reckon 18 = .ok (.i2l, 1) := by decide +kernel
theorem d_X_reckon_19 : decode b_X_reckon 19 = .ok (.lsub, 1) := by decide +kernel
theorem d_X_reckon_20 : decode b_X_reckon 20 = .ok (.lstore 6, 2) := by decide +kernel
theorem d_X_reckon_22 : decode b_X_reckon 22 = .ok (.iload_n 2, 1) := by decide +kernel
theorem d_X_reckon_23 : decode b_X_reckon 23 = .ok (.iconst 1, 1) := by decide +kernel
theorem d_X_reckon_24 : decode b_X_reckon 24 = .ok (.if_icmp .eq 8, 3) := by decide +kernel
theorem d_X_reckon_27 : decode b_X_reckon 27 = .ok (.iload_n 2, 1) := by decide +kernel
theorem d_X_reckon_28 : decode b_X_reckon 28 = .ok (.iconst 3, 1) := by decide +kernel
theorem d_X_reckon_29 : decode b_X_reckon 29 = .ok (.if_icmp .ne 15, 3) := by decide +kernel
theorem d_X_reckon_32 : decode b_X_reckon 32 = .ok (.lload 6, 2) := by decide +kernel
theorem d_X_reckon_34 : decode b_X_reckon 34 = .ok (.lload 6, 2) := by decide +kernel
theorem d_X_reckon_36 : decode b_X_reckon 36 = .ok (.l2i, 1) := by decide +kernel
theorem d_X_reckon_37 : decode b_X_reckon 37 = .ok (.i2l, 1) := by decide +kernel
theorem d_X_reckon_38 : decode b_X_reckon 38 = .ok (.lcmp, 1) := by decide +kernel
theorem d_X_reckon_39 : decode b_X_reckon 39 = .ok (.ifCond .eq 5, 3) := by decide +kernel
theorem d_X_reckon_42 : decode b_X_reckon 42 = .ok (.iconst 2, 1) := by decide +kernel
theorem d_X_reckon_43 : decode b_X_reckon 43 = .ok (.ireturn, 1) := by decide +kernel
theorem d_X_reckon_44 : decode b_X_reckon 44 = .ok (.iconst 0, 1) := by decide +kernel
theorem d_X_reckon_45 : decode b_X_reckon 45 = .ok (.istore 8, 2) := by decide +kernel
theorem d_X_reckon_47 : decode b_X_reckon 47 = .ok (.iload_n 2, 1) := by decide +kernel
theorem d_X_reckon_48 : decode b_X_reckon 48 = .ok (.iconst 2, 1) := by decide +kernel
theorem d_X_reckon_49 : decode b_X_reckon 49 = .ok (.if_icmp .ge 12, 3) := by decide +kernel
theorem d_X_reckon_52 : decode b_X_reckon 52 = .ok (.iload_n 3, 1) := by decide +kernel
theorem d_X_reckon_53 : decode b_X_reckon 53 = .ok (.iload 4, 2) := by decide +kernel
theorem d_X_reckon_55 : decode b_X_reckon 55 = .ok (.iadd, 1) := by decide +kernel
theorem d_X_reckon_56 : decode b_X_reckon 56 = .ok (.istore 8, 2) := by decide +kernel
theorem d_X_reckon_58 : decode b_X_reckon 58 = .ok (.goto 127, 3) := by decide +kernel
theorem d_X_reckon_61 : decode b_X_reckon 61 = .ok (.iload_n 2, 1) := by decide +kernel
theorem d_X_reckon_62 : decode b_X_reckon 62 = .ok (.iconst 4, 1) := by decide +kernel
theorem d_X_reckon_63 : decode b_X_reckon 63 = .ok (.if_icmp .ge 12, 3) := by decide +kernel
theorem d_X_reckon_66 : decode b_X_reckon 66 = .ok (.iload_n 3, 1) := by decide +kernel
theorem d_X_reckon_67 : decode b_X_reckon 67 = .ok (.iload 4, 2) := by decide +kernel
theorem d_X_reckon_69 : decode b_X_reckon 69 = .ok (.isub, 1) := by decide +kernel
theorem d_X_reckon_70 : decode b_X_reckon 70 = .ok (.istore 8, 2) := by decide +kernel
theorem d_X_reckon_72 : decode b_X_reckon 72 = .ok (.goto 113, 3) := by decide +kernel
theorem d_X_reckon_75 : decode b_X_reckon 75 = .ok (.iload_n 2, 1) := by decide +kernel
theorem d_X_reckon_76 : decode b_X_reckon 76 = .ok (.iconst 4, 1) := by decide +kernel
theorem d_X_reckon_77 : decode b_X_reckon 77 = .ok (.if_icmp .ne 12, 3) := by decide +kernel
theorem d_X_reckon_80 : decode b_X_reckon 80 = .ok (.iload_n 3, 1) := by decide +kernel
theorem d_X_reckon_81 : decode b_X_reckon 81 = .ok (.iload 4, 2) := by decide +kernel
theorem d_X_reckon_83 : decode b_X_reckon 83 = .ok (.iand, 1) := by decide +kernel
theorem d_X_reckon_84 : decode b_X_reckon 84 = .ok (.istore 8, 2) := by decide +kernel
theorem d_X_reckon_86 : decode b_X_reckon 86 = .ok (.goto 99, 3) := by decide +kernel
theorem d_X_reckon_89 : decode b_X_reckon 89 = .ok (.iload_n 2, 1) := by decide +kernel
theorem d_X_reckon_90 : decode b_X_reckon 90 = .ok (.iconst 5, 1) := by decide +kernel
theorem d_X_reckon_91 : decode b_X_reckon 91 = .ok (.if_icmp .ne 12, 3) := by decide +kernel
theorem d_X_reckon_94 : decode b_X_reckon 94 = .ok (.iload_n 3, 1) := by decide +kernel
theorem d_X_reckon_95 : decode b_X_reckon 95 = .ok (.iload 4, 2) := by decide +kernel
theorem d_X_reckon_97 : decode b_X_reckon 97 = .ok (.ior, 1) := by decide +kernel
theorem d_X_reckon_98 : decode b_X_reckon 98 = .ok (.istore 8, 2) := by decide +kernel
theorem d_X_reckon_100 : decode b_X_reckon 100 = .ok (.goto 85, 3) := by decide +kernel
theorem d_X_reckon_103 : decode b_X_reckon 103 = .ok (.iload_n 2, 1) := by decide +kernel
theorem d_X_reckon_104 : decode b_X_reckon 104 = .ok (.bipush 6, 2) := by decide +kernel
theorem d_X_reckon_106 : decode b_X_reckon 106 = .ok (.if_icmp .ne 12, 3) := by decide +kernel
theorem d_X_reckon_109 : decode b_X_reckon 109 = .ok (.iload_n 3, 1) := by decide +kernel
theorem d_X_reckon_110 : decode b_X_reckon 110 = .ok (.iload 4, 2) := by decide +kernel
theorem d_X_reckon_112 : decode b_X_reckon 112 = .ok (.ixor, 1) := by decide +kernel
theorem d_X_reckon_113 : decode b_X_reckon 113 = .ok (.istore 8, 2) := by decide +kernel
theorem d_X_reckon_115 : decode b_X_reckon 115 = .ok (.goto 70, 3) := by decide +kernel
theorem d_X_reckon_118 : decode b_X_reckon 118 = .ok (.iload_n 2, 1) := by decide +kernel
theorem d_X_reckon_119 : decode b_X_reckon 119 = .ok (.bipush 7, 2) := by decide +kernel
theorem d_X_reckon_121 : decode b_X_reckon 121 = .ok (.if_icmp .ne 14, 3) := by decide +kernel
theorem d_X_reckon_124 : decode b_X_reckon 124 = .ok (.iload_n 3, 1) := by decide +kernel
theorem d_X_reckon_125 : decode b_X_reckon 125 = .ok (.iload 4, 2) := by decide +kernel
theorem d_X_reckon_127 : decode b_X_reckon 127 = .ok (.iconst (-1), 1) := by decide +kernel
theorem d_X_reckon_128 : decode b_X_reckon 128 = .ok (.ixor, 1) := by decide +kernel
theorem d_X_reckon_129 : decode b_X_reckon 129 = .ok (.iand, 1) := by decide +kernel
theorem d_X_reckon_130 : decode b_X_reckon 130 = .ok (.istore 8, 2) := by decide +kernel
theorem d_X_reckon_132 : decode b_X_reckon 132 = .ok (.goto 53, 3) := by decide +kernel
theorem d_X_reckon_135 : decode b_X_reckon 135 = .ok (.iload_n 2, 1) := by decide +kernel
theorem d_X_reckon_136 : decode b_X_reckon 136 = .ok (.bipush 9, 2) := by decide +kernel
theorem d_X_reckon_138 : decode b_X_reckon 138 = .ok (.if_icmp .ne 12, 3) := by decide +kernel
theorem d_X_reckon_141 : decode b_X_reckon 141 = .ok (.iload_n 3, 1) := by decide +kernel
theorem d_X_reckon_142 : decode b_X_reckon 142 = .ok (.iload 5, 2) := by decide +kernel
theorem d_X_reckon_144 : decode b_X_reckon 144 = .ok (.iadd, 1) := by decide +kernel
theorem d_X_reckon_145 : decode b_X_reckon 145 = .ok (.istore 8, 2) := by decide +kernel
theorem d_X_reckon_147 : decode b_X_reckon 147 = .ok (.goto 38, 3) := by decide +kernel
theorem d_X_reckon_150 : decode b_X_reckon 150 = .ok (.iload_n 2, 1) := by decide +kernel
theorem d_X_reckon_151 : decode b_X_reckon 151 = .ok (.bipush 10, 2) := by decide +kernel
theorem d_X_reckon_153 : decode b_X_reckon 153 = .ok (.if_icmp .ne 32, 3) := by decide +kernel
theorem d_X_reckon_156 : decode b_X_reckon 156 = .ok (.iload_n 1, 1) := by decide +kernel
theorem d_X_reckon_157 : decode b_X_reckon 157 = .ok (.bipush 14, 2) := by decide +kernel
theorem d_X_reckon_159 : decode b_X_reckon 159 = .ok (.iushr, 1) := by decide +kernel
theorem d_X_reckon_160 : decode b_X_reckon 160 = .ok (.iconst 1, 1) := by decide +kernel
theorem d_X_reckon_161 : decode b_X_reckon 161 = .ok (.iand, 1) := by decide +kernel
theorem d_X_reckon_162 : decode b_X_reckon 162 = .ok (.iconst 1, 1) := by decide +kernel
theorem d_X_reckon_163 : decode b_X_reckon 163 = .ok (.if_icmp .ne 13, 3) := by decide +kernel
theorem d_X_reckon_166 : decode b_X_reckon 166 = .ok (.iload_n 3, 1) := by decide +kernel
theorem d_X_reckon_167 : decode b_X_reckon 167 = .ok (.iload 5, 2) := by decide +kernel
theorem d_X_reckon_169 : decode b_X_reckon 169 = .ok (.bipush 31, 2) := by decide +kernel
theorem d_X_reckon_171 : decode b_X_reckon 171 = .ok (.iand, 1) := by decide +kernel
theorem d_X_reckon_172 : decode b_X_reckon 172 = .ok (.iushr, 1) := by decide +kernel
theorem d_X_reckon_173 : decode b_X_reckon 173 = .ok (.goto 10, 3) := by decide +kernel
theorem d_X_reckon_176 : decode b_X_reckon 176 = .ok (.iload_n 3, 1) := by decide +kernel
theorem d_X_reckon_177 : decode b_X_reckon 177 = .ok (.iload 5, 2) := by decide +kernel
theorem d_X_reckon_179 : decode b_X_reckon 179 = .ok (.bipush 31, 2) := by decide +kernel
theorem d_X_reckon_181 : decode b_X_reckon 181 = .ok (.iand, 1) := by decide +kernel
theorem d_X_reckon_182 : decode b_X_reckon 182 = .ok (.ishl, 1) := by decide +kernel
theorem d_X_reckon_183 : decode b_X_reckon 183 = .ok (.istore 8, 2) := by decide +kernel
theorem d_X_reckon_185 : decode b_X_reckon 185 = .ok (.aload_n 0, 1) := by decide +kernel
theorem d_X_reckon_186 : decode b_X_reckon 186 = .ok (.iload_n 1, 1) := by decide +kernel
theorem d_X_reckon_187 : decode b_X_reckon 187 = .ok (.bipush 24, 2) := by decide +kernel
theorem d_X_reckon_189 : decode b_X_reckon 189 = .ok (.iushr, 1) := by decide +kernel
theorem d_X_reckon_190 : decode b_X_reckon 190 = .ok (.bipush 7, 2) := by decide +kernel
theorem d_X_reckon_192 : decode b_X_reckon 192 = .ok (.iand, 1) := by decide +kernel
theorem d_X_reckon_193 : decode b_X_reckon 193 = .ok (.iload 8, 2) := by decide +kernel
theorem d_X_reckon_195 : decode b_X_reckon 195 = .ok (.invokevirtual 36, 3) := by decide +kernel
theorem d_X_reckon_198 : decode b_X_reckon 198 = .ok (.iload_n 2, 1) := by decide +kernel
theorem d_X_reckon_199 : decode b_X_reckon 199 = .ok (.iconst 2, 1) := by decide +kernel
theorem d_X_reckon_200 : decode b_X_reckon 200 = .ok (.if_icmp .eq 14, 3) := by decide +kernel
theorem d_X_reckon_203 : decode b_X_reckon 203 = .ok (.iload_n 2, 1) := by decide +kernel
theorem d_X_reckon_204 : decode b_X_reckon 204 = .ok (.iconst 3, 1) := by decide +kernel
theorem d_X_reckon_205 : decode b_X_reckon 205 = .ok (.if_icmp .eq 9, 3) := by decide +kernel
theorem d_X_reckon_208 : decode b_X_reckon 208 = .ok (.iload_n 2, 1) := by decide +kernel
theorem d_X_reckon_209 : decode b_X_reckon 209 = .ok (.bipush 8, 2) := by decide +kernel
theorem d_X_reckon_211 : decode b_X_reckon 211 = .ok (.if_icmp .ne 7, 3) := by decide +kernel
theorem d_X_reckon_214 : decode b_X_reckon 214 = .ok (.iconst 1, 1) := by decide +kernel
theorem d_X_reckon_215 : decode b_X_reckon 215 = .ok (.goto 4, 3) := by decide +kernel
theorem d_X_reckon_218 : decode b_X_reckon 218 = .ok (.iconst 0, 1) := by decide +kernel
theorem d_X_reckon_219 : decode b_X_reckon 219 = .ok (.istore 9, 2) := by decide +kernel
theorem d_X_reckon_221 : decode b_X_reckon 221 = .ok (.aload_n 0, 1) := by decide +kernel
theorem d_X_reckon_222 : decode b_X_reckon 222 = .ok (.iload_n 1, 1) := by decide +kernel
theorem d_X_reckon_223 : decode b_X_reckon 223 = .ok (.bipush 15, 2) := by decide +kernel
theorem d_X_reckon_225 : decode b_X_reckon 225 = .ok (.iushr, 1) := by decide +kernel
theorem d_X_reckon_226 : decode b_X_reckon 226 = .ok (.bipush 7, 2) := by decide +kernel
theorem d_X_reckon_228 : decode b_X_reckon 228 = .ok (.iand, 1) := by decide +kernel
theorem d_X_reckon_229 : decode b_X_reckon 229 = .ok (.iload 9, 2) := by decide +kernel
theorem d_X_reckon_231 : decode b_X_reckon 231 = .ok (.ifCond .eq 7, 3) := by decide +kernel
theorem d_X_reckon_234 : decode b_X_reckon 234 = .ok (.iload_n 3, 1) := by decide +kernel
theorem d_X_reckon_235 : decode b_X_reckon 235 = .ok (.goto 5, 3) := by decide +kernel
theorem d_X_reckon_238 : decode b_X_reckon 238 = .ok (.iload 8, 2) := by decide +kernel
theorem d_X_reckon_240 : decode b_X_reckon 240 = .ok (.iload 9, 2) := by decide +kernel
theorem d_X_reckon_242 : decode b_X_reckon 242 = .ok (.ifCond .eq 8, 3) := by decide +kernel
theorem d_X_reckon_245 : decode b_X_reckon 245 = .ok (.iload 4, 2) := by decide +kernel
theorem d_X_reckon_247 : decode b_X_reckon 247 = .ok (.goto 4, 3) := by decide +kernel
theorem d_X_reckon_250 : decode b_X_reckon 250 = .ok (.iconst 0, 1) := by decide +kernel
theorem d_X_reckon_251 : decode b_X_reckon 251 = .ok (.invokestatic 40, 3) := by decide +kernel
theorem d_X_reckon_254 : decode b_X_reckon 254 = .ok (.putfield 44, 3) := by decide +kernel
theorem d_X_reckon_257 : decode b_X_reckon 257 = .ok (.iconst 0, 1) := by decide +kernel
theorem d_X_reckon_258 : decode b_X_reckon 258 = .ok (.ireturn, 1) := by decide +kernel
theorem d_X_touch_0 : decode b_X_touch 0 = .ok (.iload_n 3, 1) := by decide +kernel
theorem d_X_touch_1 : decode b_X_touch 1 = .ok (.bipush 16, 2) := by decide +kernel
theorem d_X_touch_3 : decode b_X_touch 3 = .ok (.invokestatic 26, 3) := by decide +kernel
theorem d_X_touch_6 : decode b_X_touch 6 = .ok (.ifCond .ne 5, 3) := by decide +kernel
theorem d_X_touch_9 : decode b_X_touch 9 = .ok (.iconst 3, 1) := by decide +kernel
theorem d_X_touch_10 : decode b_X_touch 10 = .ok (.ireturn, 1) := by decide +kernel
theorem d_X_touch_11 : decode b_X_touch 11 = .ok (.bipush 22, 2) := by decide +kernel
theorem d_X_touch_13 : decode b_X_touch 13 = .ok (.bipush 16, 2) := by decide +kernel
theorem d_X_touch_15 : decode b_X_touch 15 = .ok (.iload 4, 2) := by decide +kernel
theorem d_X_touch_17 : decode b_X_touch 17 = .ok (.imul, 1) := by decide +kernel
theorem d_X_touch_18 : decode b_X_touch 18 = .ok (.iadd, 1) := by decide +kernel
theorem d_X_touch_19 : decode b_X_touch 19 = .ok (.iload_n 3, 1) := by decide +kernel
theorem d_X_touch_20 : decode b_X_touch 20 = .ok (.iadd, 1) := by decide +kernel
theorem d_X_touch_21 : decode b_X_touch 21 = .ok (.istore 5, 2) := by decide +kernel
theorem d_X_touch_23 : decode b_X_touch 23 = .ok (.iload_n 2, 1) := by decide +kernel
theorem d_X_touch_24 : decode b_X_touch 24 = .ok (.bipush 11, 2) := by decide +kernel
theorem d_X_touch_26 : decode b_X_touch 26 = .ok (.if_icmp .ne 24, 3) := by decide +kernel
theorem d_X_touch_29 : decode b_X_touch 29 = .ok (.aload_n 0, 1) := by decide +kernel
theorem d_X_touch_30 : decode b_X_touch 30 = .ok (.iload_n 1, 1) := by decide +kernel
theorem d_X_touch_31 : decode b_X_touch 31 = .ok (.bipush 24, 2) := by decide +kernel
theorem d_X_touch_33 : decode b_X_touch 33 = .ok (.iushr, 1) := by decide +kernel
theorem d_X_touch_34 : decode b_X_touch 34 = .ok (.bipush 7, 2) := by decide +kernel
theorem d_X_touch_36 : decode b_X_touch 36 = .ok (.iand, 1) := by decide +kernel
theorem d_X_touch_37 : decode b_X_touch 37 = .ok (.aload_n 0, 1) := by decide +kernel
theorem d_X_touch_38 : decode b_X_touch 38 = .ok (.getfield 7, 3) := by decide +kernel
theorem d_X_touch_41 : decode b_X_touch 41 = .ok (.iload 5, 2) := by decide +kernel
theorem d_X_touch_43 : decode b_X_touch 43 = .ok (.iaload, 1) := by decide +kernel
theorem d_X_touch_44 : decode b_X_touch 44 = .ok (.invokevirtual 36, 3) := by decide +kernel
theorem d_X_touch_47 : decode b_X_touch 47 = .ok (.goto 25, 3) := by decide +kernel
theorem d_X_touch_50 : decode b_X_touch 50 = .ok (.aload_n 0, 1) := by decide +kernel
theorem d_X_touch_51 : decode b_X_touch 51 = .ok (.getfield 7, 3) := by decide +kernel
theorem d_X_touch_54 : decode b_X_touch 54 = .ok (.iload 5, 2) := by decide +kernel
theorem d_X_touch_56 : decode b_X_touch 56 = .ok (.aload_n 0, 1) := by decide +kernel
theorem d_X_touch_57 : decode b_X_touch 57 = .ok (.getfield 7, 3) := by decide +kernel
theorem d_X_touch_60 : decode b_X_touch 60 = .ok (.bipush 10, 2) := by decide +kernel
theorem d_X_touch_62 : decode b_X_touch 62 = .ok (.iload_n 1, 1) := by decide +kernel
theorem d_X_touch_63 : decode b_X_touch 63 = .ok (.bipush 24, 2) := by decide +kernel
theorem d_X_touch_65 : decode b_X_touch 65 = .ok (.iushr, 1) := by decide +kernel
theorem d_X_touch_66 : decode b_X_touch 66 = .ok (.bipush 7, 2) := by decide +kernel
theorem d_X_touch_68 : decode b_X_touch 68 = .ok (.iand, 1) := by decide +kernel
theorem d_X_touch_69 : decode b_X_touch 69 = .ok (.iadd, 1) := by decide +kernel
theorem d_X_touch_70 : decode b_X_touch 70 = .ok (.iaload, 1) := by decide +kernel
theorem d_X_touch_71 : decode b_X_touch 71 = .ok (.iastore, 1) := by decide +kernel
theorem d_X_touch_72 : decode b_X_touch 72 = .ok (.iconst 0, 1) := by decide +kernel
theorem d_X_touch_73 : decode b_X_touch 73 = .ok (.ireturn, 1) := by decide +kernel
theorem d_X_branch_0 : decode b_X_branch 0 = .ok (.iload_n 1, 1) := by decide +kernel
theorem d_X_branch_1 : decode b_X_branch 1 = .ok (.bipush 24, 2) := by decide +kernel
theorem d_X_branch_3 : decode b_X_branch 3 = .ok (.iushr, 1) := by decide +kernel
theorem d_X_branch_4 : decode b_X_branch 4 = .ok (.bipush 7, 2) := by decide +kernel
theorem d_X_branch_6 : decode b_X_branch 6 = .ok (.iand, 1) := by decide +kernel
theorem d_X_branch_7 : decode b_X_branch 7 = .ok (.istore 6, 2) := by decide +kernel
theorem d_X_branch_9 : decode b_X_branch 9 = .ok (.iload_n 1, 1) := by decide +kernel
theorem d_X_branch_10 : decode b_X_branch 10 = .ok (.bipush 14, 2) := by decide +kernel
theorem d_X_branch_12 : decode b_X_branch 12 = .ok (.iushr, 1) := by decide +kernel
theorem d_X_branch_13 : decode b_X_branch 13 = .ok (.iconst 1, 1) := by decide +kernel
theorem d_X_branch_14 : decode b_X_branch 14 = .ok (.iand, 1) := by decide +kernel
theorem d_X_branch_15 : decode b_X_branch 15 = .ok (.iconst 1, 1) := by decide +kernel
theorem d_X_branch_16 : decode b_X_branch 16 = .ok (.if_icmp .ne 7, 3) := by decide +kernel
theorem d_X_branch_19 : decode b_X_branch 19 = .ok (.iconst 1, 1) := by decide +kernel
theorem d_X_branch_20 : decode b_X_branch 20 = .ok (.goto 4, 3) := by decide +kernel
theorem d_X_branch_23 : decode b_X_branch 23 = .ok (.iconst 0, 1) := by decide +kernel
theorem d_X_branch_24 : decode b_X_branch 24 = .ok (.istore 7, 2) := by decide +kernel
theorem d_X_branch_26 : decode b_X_branch 26 = .ok (.aload_n 0, 1) := by decide +kernel
theorem d_X_branch_27 : decode b_X_branch 27 = .ok (.getfield 7, 3) := by decide +kernel
theorem d_X_branch_30 : decode b_X_branch 30 = .ok (.iconst 0, 1) := by decide +kernel
theorem d_X_branch_31 : decode b_X_branch 31 = .ok (.iaload, 1) := by decide +kernel
theorem d_X_branch_32 : decode b_X_branch 32 = .ok (.bipush 32, 2) := by decide +kernel
theorem d_X_branch_34 : decode b_X_branch 34 = .ok (.idiv, 1) := by decide +kernel
theorem d_X_branch_35 : decode b_X_branch 35 = .ok (.istore 8, 2) := by decide +kernel
theorem d_X_branch_37 : decode b_X_branch 37 = .ok (.iconst 1, 1) := by decide +kernel
theorem d_X_branch_38 : decode b_X_branch 38 = .ok (.istore 9, 2) := by decide +kernel
theorem d_X_branch_40 : decode b_X_branch 40 = .ok (.iload_n 2, 1) := by decide +kernel
theorem d_X_branch_41 : decode b_X_branch 41 = .ok (.bipush 13, 2) := by decide +kernel
theorem d_X_branch_43 : decode b_X_branch 43 = .ok (.if_icmp .ne 23, 3) := by decide +kernel
theorem d_X_branch_46 : decode b_X_branch 46 = .ok (.aload_n 0, 1) := by decide +kernel
theorem d_X_branch_47 : decode b_X_branch 47 = .ok (.iload 6, 2) := by decide +kernel
theorem d_X_branch_49 : decode b_X_branch 49 = .ok (.aload_n 0, 1) := by decide +kernel
theorem d_X_branch_50 : decode b_X_branch 50 = .ok (.getfield 7, 3) := by decide +kernel
theorem d_X_branch_53 : decode b_X_branch 53 = .ok (.iconst 1, 1) := by decide +kernel
theorem d_X_branch_54 : decode b_X_branch 54 = .ok (.iaload, 1) := by decide +kernel
theorem d_X_branch_55 : decode b_X_branch 55 = .ok (.iconst 1, 1) := by decide +kernel
theorem d_X_branch_56 : decode b_X_branch 56 = .ok (.iadd, 1) := by decide +kernel
theorem d_X_branch_57 : decode b_X_branch 57 = .ok (.bipush 31, 2) := by decide +kernel
theorem d_X_branch_59 : decode b_X_branch 59 = .ok (.iand, 1) := by decide +kernel
theorem d_X_branch_60 : decode b_X_branch 60 = .ok (.invokevirtual 36, 3) := by decide +kernel
theorem d_X_branch_63 : decode b_X_branch 63 = .ok (.goto 70, 3) := by decide +kernel
theorem d_X_branch_66 : decode b_X_branch 66 = .ok (.iload_n 2, 1) := by decide +kernel
theorem d_X_branch_67 : decode b_X_branch 67 = .ok (.bipush 14, 2) := by decide +kernel
theorem d_X_branch_69 : decode b_X_branch 69 = .ok (.if_icmp .ne 21, 3) := by decide +kernel
theorem d_X_branch_72 : decode b_X_branch 72 = .ok (.iload_n 1, 1) := by decide +kernel
theorem d_X_branch_73 : decode b_X_branch 73 = .ok (.bipush 15, 2) := by decide +kernel
theorem d_X_branch_75 : decode b_X_branch 75 = .ok (.iushr, 1) := by decide +kernel
theorem d_X_branch_76 : decode b_X_branch 76 = .ok (.bipush 7, 2) := by decide +kernel
theorem d_X_branch_78 : decode b_X_branch 78 = .ok (.iand, 1) := by decide +kernel
theorem d_X_branch_79 : decode b_X_branch 79 = .ok (.iload_n 3, 1) := by decide +kernel
theorem d_X_branch_80 : decode b_X_branch 80 = .ok (.iload 4, 2) := by decide +kernel
theorem d_X_branch_82 : decode b_X_branch 82 = .ok (.invokestatic 40, 3) := by decide +kernel
theorem d_X_branch_85 : decode b_X_branch 85 = .ok (.istore 9, 2) := by decide +kernel
theorem d_X_branch_87 : decode b_X_branch 87 = .ok (.goto 46, 3) := by decide +kernel
theorem d_X_branch_90 : decode b_X_branch 90 = .ok (.iload_n 2, 1) := by decide +kernel
theorem d_X_branch_91 : decode b_X_branch 91 = .ok (.bipush 15, 2) := by decide +kernel
theorem d_X_branch_93 : decode b_X_branch 93 = .ok (.if_icmp .ne 40, 3) := by decide +kernel
theorem d_X_branch_96 : decode b_X_branch 96 = .ok (.aload_n 0, 1) := by decide +kernel
theorem d_X_branch_97 : decode b_X_branch 97 = .ok (.getfield 7, 3) := by decide +kernel
theorem d_X_branch_100 : decode b_X_branch 100 = .ok (.bipush 10, 2) := by decide +kernel
theorem d_X_branch_102 : decode b_X_branch 102 = .ok (.iload 6, 2) := by decide +kernel
theorem d_X_branch_104 : decode b_X_branch 104 = .ok (.iadd, 1) := by decide +kernel
theorem d_X_branch_105 : decode b_X_branch 105 = .ok (.iaload, 1) := by decide +kernel
theorem d_X_branch_106 : decode b_X_branch 106 = .ok (.iload_n 3, 1) := by decide +kernel
theorem d_X_branch_107 : decode b_X_branch 107 = .ok (.iadd, 1) := by decide +kernel
theorem d_X_branch_108 : decode b_X_branch 108 = .ok (.istore 10, 2) := by decide +kernel
theorem d_X_branch_110 : decode b_X_branch 110 = .ok (.aload_n 0, 1) := by decide +kernel
theorem d_X_branch_111 : decode b_X_branch 111 = .ok (.iload 6, 2) := by decide +kernel
theorem d_X_branch_113 : decode b_X_branch 113 = .ok (.iload 10, 2) := by decide +kernel
theorem d_X_branch_115 : decode b_X_branch 115 = .ok (.invokevirtual 36, 3) := by decide +kernel
theorem d_X_branch_118 : decode b_X_branch 118 = .ok (.iload_n 1, 1) := by decide +kernel
theorem d_X_branch_119 : decode b_X_branch 119 = .ok (.bipush 15, 2) := by decide +kernel
theorem d_X_branch_121 : decode b_X_branch 121 = .ok (.iushr, 1) := by decide +kernel
theorem d_X_branch_122 : decode b_X_branch 122 = .ok (.bipush 7, 2) := by decide +kernel
theorem d_X_branch_124 : decode b_X_branch 124 = .ok (.iand, 1) := by decide +kernel
theorem d_X_branch_125 : decode b_X_branch 125 = .ok (.iload 10, 2) := by decide +kernel
theorem d_X_branch_127 : decode b_X_branch 127 = .ok (.iconst 0, 1) := by decide +kernel
theorem d_X_branch_128 : decode b_X_branch 128 = .ok (.invokestatic 40, 3) := by decide +kernel
theorem d_X_branch_131 : decode b_X_branch 131 = .ok (.istore 9, 2) := by decide +kernel
theorem d_X_branch_133 : decode b_X_branch 133 = .ok (.iload_n 2, 1) := by decide +kernel
theorem d_X_branch_134 : decode b_X_branch 134 = .ok (.bipush 14, 2) := by decide +kernel
theorem d_X_branch_136 : decode b_X_branch 136 = .ok (.if_icmp .eq 9, 3) := by decide +kernel
theorem d_X_branch_139 : decode b_X_branch 139 = .ok (.iload_n 2, 1) := by decide +kernel
theorem d_X_branch_140 : decode b_X_branch 140 = .ok (.bipush 15, 2) := by decide +kernel
theorem d_X_branch_142 : decode b_X_branch 142 = .ok (.if_icmp .ne 7, 3) := by decide +kernel
theorem d_X_branch_145 : decode b_X_branch 145 = .ok (.iconst 1, 1) := by decide +kernel
theorem d_X_branch_146 : decode b_X_branch 146 = .ok (.goto 4, 3) := by decide +kernel
theorem d_X_branch_149 : decode b_X_branch 149 = .ok (.iconst 0, 1) := by decide +kernel
theorem d_X_branch_150 : decode b_X_branch 150 = .ok (.istore 10, 2) := by decide +kernel
theorem d_X_branch_152 : decode b_X_branch 152 = .ok (.aload_n 0, 1) := by decide +kernel
theorem d_X_branch_153 : decode b_X_branch 153 = .ok (.iload 7, 2) := by decide +kernel
theorem d_X_branch_155 : decode b_X_branch 155 = .ok (.ifCond .eq 27, 3) := by decide +kernel
theorem d_X_branch_158 : decode b_X_branch 158 = .ok (.iload 10, 2) := by decide +kernel
theorem d_X_branch_160 : decode b_X_branch 160 = .ok (.ifCond .eq 18, 3) := by decide +kernel
theorem d_X_branch_163 : decode b_X_branch 163 = .ok (.iload 9, 2) := by decide +kernel
theorem d_X_branch_165 : decode b_X_branch 165 = .ok (.iload 5, 2) := by decide +kernel
theorem d_X_branch_167 : decode b_X_branch 167 = .ok (.ifCond .lt 7, 3) := by decide +kernel
theorem d_X_branch_170 : decode b_X_branch 170 = .ok (.iconst 1, 1) := by decide +kernel
theorem d_X_branch_171 : decode b_X_branch 171 = .ok (.goto 4, 3) := by decide +kernel
theorem d_X_branch_174 : decode b_X_branch 174 = .ok (.iconst 0, 1) := by decide +kernel
theorem d_X_branch_175 : decode b_X_branch 175 = .ok (.if_icmp .ne 7, 3) := by decide +kernel
theorem d_X_branch_178 : decode b_X_branch 178 = .ok (.iconst 1, 1) := by decide +kernel
theorem d_X_branch_179 : decode b_X_branch 179 = .ok (.goto 4, 3) := by decide +kernel
theorem d_X_branch_182 : decode b_X_branch 182 = .ok (.iconst 0, 1) := by decide +kernel
theorem d_X_branch_183 : decode b_X_branch 183 = .ok (.putfield 44, 3) := by decide +kernel
theorem d_X_branch_186 : decode b_X_branch 186 = .ok (.iload_n 2, 1) := by decide +kernel
theorem d_X_branch_187 : decode b_X_branch 187 = .ok (.bipush 16, 2) := by decide +kernel
theorem d_X_branch_189 : decode b_X_branch 189 = .ok (.if_icmp .ge 22, 3) := by decide +kernel
theorem d_X_branch_192 : decode b_X_branch 192 = .ok (.iload 8, 2) := by decide +kernel
theorem d_X_branch_194 : decode b_X_branch 194 = .ok (.aload_n 0, 1) := by decide +kernel
theorem d_X_branch_195 : decode b_X_branch 195 = .ok (.getfield 7, 3) := by decide +kernel
theorem d_X_branch_198 : decode b_X_branch 198 = .ok (.iconst 0, 1) := by decide +kernel
theorem d_X_branch_199 : decode b_X_branch 199 = .ok (.iaload, 1) := by decide +kernel
theorem d_X_branch_200 : decode b_X_branch 200 = .ok (.iconst 2, 1) := by decide +kernel
theorem d_X_branch_201 : decode b_X_branch 201 = .ok (.iadd, 1) := by decide +kernel
theorem d_X_branch_202 : decode b_X_branch 202 = .ok (.iload 5, 2) := by decide +kernel
theorem d_X_branch_204 : decode b_X_branch 204 = .ok (.iadd, 1) := by decide +kernel
theorem d_X_branch_205 : decode b_X_branch 205 = .ok (.invokestatic 22, 3) := by decide +kernel
theorem d_X_branch_208 : decode b_X_branch 208 = .ok (.goto 35, 3) := by decide +kernel
theorem d_X_branch_211 : decode b_X_branch 211 = .ok (.iload_n 2, 1) := by decide +kernel
theorem d_X_branch_212 : decode b_X_branch 212 = .ok (.bipush 16, 2) := by decide +kernel
theorem d_X_branch_214 : decode b_X_branch 214 = .ok (.if_icmp .ne 8, 3) := by decide +kernel
theorem d_X_branch_217 : decode b_X_branch 217 = .ok (.iload 8, 2) := by decide +kernel
theorem d_X_branch_219 : decode b_X_branch 219 = .ok (.goto 17, 3) := by decide +kernel
theorem d_X_branch_222 : decode b_X_branch 222 = .ok (.aload_n 0, 1) := by decide +kernel
theorem d_X_branch_223 : decode b_X_branch 223 = .ok (.getfield 7, 3) := by decide +kernel
theorem d_X_branch_226 : decode b_X_branch 226 = .ok (.bipush 18, 2) := by decide +kernel
theorem d_X_branch_228 : decode b_X_branch 228 = .ok (.iload_n 1, 1) := by decide +kernel
theorem d_X_branch_229 : decode b_X_branch 229 = .ok (.bipush 18, 2) := by decide +kernel
theorem d_X_branch_231 : decode b_X_branch 231 = .ok (.iushr, 1) := by decide +kernel
theorem d_X_branch_232 : decode b_X_branch 232 = .ok (.iconst 3, 1) := by decide +kernel
theorem d_X_branch_233 : decode b_X_branch 233 = .ok (.iand, 1) := by decide +kernel
theorem d_X_branch_234 : decode b_X_branch 234 = .ok (.iadd, 1) := by decide +kernel
theorem d_X_branch_235 : decode b_X_branch 235 = .ok (.iaload, 1) := by decide +kernel
theorem d_X_branch_236 : decode b_X_branch 236 = .ok (.iload_n 3, 1) := by decide +kernel
theorem d_X_branch_237 : decode b_X_branch 237 = .ok (.iload 5, 2) := by decide +kernel
theorem d_X_branch_239 : decode b_X_branch 239 = .ok (.iadd, 1) := by decide +kernel
theorem d_X_branch_240 : decode b_X_branch 240 = .ok (.invokestatic 22, 3) := by decide +kernel
theorem d_X_branch_243 : decode b_X_branch 243 = .ok (.istore 11, 2) := by decide +kernel
theorem d_X_branch_245 : decode b_X_branch 245 = .ok (.aload_n 0, 1) := by decide +kernel
theorem d_X_branch_246 : decode b_X_branch 246 = .ok (.iload 9, 2) := by decide +kernel
end
section
theorem d_X_branch_248 : decode b_X_branch 248 = .ok (.ifCond .eq 8, 3) := by decide +kernel
theorem d_X_branch_251 : decode b_X_branch 251 = .ok (.iload 11, 2) := by decide +kernel
theorem d_X_branch_253 : decode b_X_branch 253 = .ok (.goto 4, 3) := by decide +kernel
theorem d_X_branch_256 : decode b_X_branch 256 = .ok (.iconst (-1), 1) := by decide +kernel
theorem d_X_branch_257 : decode b_X_branch 257 = .ok (.putfield 48, 3) := by decide +kernel
theorem d_X_branch_260 : decode b_X_branch 260 = .ok (.iconst 0, 1) := by decide +kernel
theorem d_X_branch_261 : decode b_X_branch 261 = .ok (.ireturn, 1) := by decide +kernel
theorem d_X_saved_0 : decode b_X_saved 0 = .ok (.iload_n 1, 1) := by decide +kernel
theorem d_X_saved_1 : decode b_X_saved 1 = .ok (.tableswitch 107 0 5 #[39, 49, 60, 70, 81, 99], 39) := by decide +kernel
theorem d_X_saved_40 : decode b_X_saved 40 = .ok (.aload_n 0, 1) := by decide +kernel
theorem d_X_saved_41 : decode b_X_saved 41 = .ok (.getfield 7, 3) := by decide +kernel
theorem d_X_saved_44 : decode b_X_saved 44 = .ok (.iconst 5, 1) := by decide +kernel
theorem d_X_saved_45 : decode b_X_saved 45 = .ok (.iaload, 1) := by decide +kernel
theorem d_X_saved_46 : decode b_X_saved 46 = .ok (.bipush 32, 2) := by decide +kernel
theorem d_X_saved_48 : decode b_X_saved 48 = .ok (.irem, 1) := by decide +kernel
theorem d_X_saved_49 : decode b_X_saved 49 = .ok (.ireturn, 1) := by decide +kernel
theorem d_X_saved_50 : decode b_X_saved 50 = .ok (.aload_n 0, 1) := by decide +kernel
theorem d_X_saved_51 : decode b_X_saved 51 = .ok (.getfield 7, 3) := by decide +kernel
theorem d_X_saved_54 : decode b_X_saved 54 = .ok (.bipush 6, 2) := by decide +kernel
theorem d_X_saved_56 : decode b_X_saved 56 = .ok (.iaload, 1) := by decide +kernel
theorem d_X_saved_57 : decode b_X_saved 57 = .ok (.bipush 32, 2) := by decide +kernel
theorem d_X_saved_59 : decode b_X_saved 59 = .ok (.irem, 1) := by decide +kernel
theorem d_X_saved_60 : decode b_X_saved 60 = .ok (.ireturn, 1) := by decide +kernel
theorem d_X_saved_61 : decode b_X_saved 61 = .ok (.aload_n 0, 1) := by decide +kernel
theorem d_X_saved_62 : decode b_X_saved 62 = .ok (.getfield 7, 3) := by decide +kernel
theorem d_X_saved_65 : decode b_X_saved 65 = .ok (.iconst 5, 1) := by decide +kernel
theorem d_X_saved_66 : decode b_X_saved 66 = .ok (.iaload, 1) := by decide +kernel
theorem d_X_saved_67 : decode b_X_saved 67 = .ok (.bipush 32, 2) := by decide +kernel
theorem d_X_saved_69 : decode b_X_saved 69 = .ok (.idiv, 1) := by decide +kernel
theorem d_X_saved_70 : decode b_X_saved 70 = .ok (.ireturn, 1) := by decide +kernel
theorem d_X_saved_71 : decode b_X_saved 71 = .ok (.aload_n 0, 1) := by decide +kernel
theorem d_X_saved_72 : decode b_X_saved 72 = .ok (.getfield 7, 3) := by decide +kernel
theorem d_X_saved_75 : decode b_X_saved 75 = .ok (.bipush 6, 2) := by decide +kernel
theorem d_X_saved_77 : decode b_X_saved 77 = .ok (.iaload, 1) := by decide +kernel
theorem d_X_saved_78 : decode b_X_saved 78 = .ok (.bipush 32, 2) := by decide +kernel
theorem d_X_saved_80 : decode b_X_saved 80 = .ok (.idiv, 1) := by decide +kernel
theorem d_X_saved_81 : decode b_X_saved 81 = .ok (.ireturn, 1) := by decide +kernel
theorem d_X_saved_82 : decode b_X_saved 82 = .ok (.aload_n 0, 1) := by decide +kernel
theorem d_X_saved_83 : decode b_X_saved 83 = .ok (.getfield 7, 3) := by decide +kernel
theorem d_X_saved_86 : decode b_X_saved 86 = .ok (.bipush 7, 2) := by decide +kernel
theorem d_X_saved_88 : decode b_X_saved 88 = .ok (.iaload, 1) := by decide +kernel
theorem d_X_saved_89 : decode b_X_saved 89 = .ok (.iconst 2, 1) := by decide +kernel
theorem d_X_saved_90 : decode b_X_saved 90 = .ok (.aload_n 0, 1) := by decide +kernel
theorem d_X_saved_91 : decode b_X_saved 91 = .ok (.getfield 7, 3) := by decide +kernel
theorem d_X_saved_94 : decode b_X_saved 94 = .ok (.bipush 8, 2) := by decide +kernel
theorem d_X_saved_96 : decode b_X_saved 96 = .ok (.iaload, 1) := by decide +kernel
theorem d_X_saved_97 : decode b_X_saved 97 = .ok (.imul, 1) := by decide +kernel
theorem d_X_saved_98 : decode b_X_saved 98 = .ok (.iadd, 1) := by decide +kernel
theorem d_X_saved_99 : decode b_X_saved 99 = .ok (.ireturn, 1) := by decide +kernel
theorem d_X_saved_100 : decode b_X_saved 100 = .ok (.aload_n 0, 1) := by decide +kernel
theorem d_X_saved_101 : decode b_X_saved 101 = .ok (.getfield 7, 3) := by decide +kernel
theorem d_X_saved_104 : decode b_X_saved 104 = .ok (.bipush 9, 2) := by decide +kernel
theorem d_X_saved_106 : decode b_X_saved 106 = .ok (.iaload, 1) := by decide +kernel
theorem d_X_saved_107 : decode b_X_saved 107 = .ok (.ireturn, 1) := by decide +kernel
theorem d_X_saved_108 : decode b_X_saved 108 = .ok (.iconst 0, 1) := by decide +kernel
theorem d_X_saved_109 : decode b_X_saved 109 = .ok (.ireturn, 1) := by decide +kernel
theorem d_X_save_0 : decode b_X_save 0 = .ok (.iload_n 1, 1) := by decide +kernel
theorem d_X_save_1 : decode b_X_save 1 = .ok (.ifCond .ne 25, 3) := by decide +kernel
theorem d_X_save_4 : decode b_X_save 4 = .ok (.aload_n 0, 1) := by decide +kernel
theorem d_X_save_5 : decode b_X_save 5 = .ok (.getfield 7, 3) := by decide +kernel
theorem d_X_save_8 : decode b_X_save 8 = .ok (.iconst 5, 1) := by decide +kernel
theorem d_X_save_9 : decode b_X_save 9 = .ok (.aload_n 0, 1) := by decide +kernel
theorem d_X_save_10 : decode b_X_save 10 = .ok (.getfield 7, 3) := by decide +kernel
theorem d_X_save_13 : decode b_X_save 13 = .ok (.iconst 5, 1) := by decide +kernel
theorem d_X_save_14 : decode b_X_save 14 = .ok (.iaload, 1) := by decide +kernel
theorem d_X_save_15 : decode b_X_save 15 = .ok (.bipush 32, 2) := by decide +kernel
theorem d_X_save_17 : decode b_X_save 17 = .ok (.idiv, 1) := by decide +kernel
theorem d_X_save_18 : decode b_X_save 18 = .ok (.iload_n 2, 1) := by decide +kernel
theorem d_X_save_19 : decode b_X_save 19 = .ok (.invokestatic 22, 3) := by decide +kernel
theorem d_X_save_22 : decode b_X_save 22 = .ok (.iastore, 1) := by decide +kernel
theorem d_X_save_23 : decode b_X_save 23 = .ok (.goto 109, 3) := by decide +kernel
theorem d_X_save_26 : decode b_X_save 26 = .ok (.iload_n 1, 1) := by decide +kernel
theorem d_X_save_27 : decode b_X_save 27 = .ok (.iconst 1, 1) := by decide +kernel
theorem d_X_save_28 : decode b_X_save 28 = .ok (.if_icmp .ne 27, 3) := by decide +kernel
theorem d_X_save_31 : decode b_X_save 31 = .ok (.aload_n 0, 1) := by decide +kernel
theorem d_X_save_32 : decode b_X_save 32 = .ok (.getfield 7, 3) := by decide +kernel
theorem d_X_save_35 : decode b_X_save 35 = .ok (.bipush 6, 2) := by decide +kernel
theorem d_X_save_37 : decode b_X_save 37 = .ok (.aload_n 0, 1) := by decide +kernel
theorem d_X_save_38 : decode b_X_save 38 = .ok (.getfield 7, 3) := by decide +kernel
theorem d_X_save_41 : decode b_X_save 41 = .ok (.bipush 6, 2) := by decide +kernel
theorem d_X_save_43 : decode b_X_save 43 = .ok (.iaload, 1) := by decide +kernel
theorem d_X_save_44 : decode b_X_save 44 = .ok (.bipush 32, 2) := by decide +kernel
theorem d_X_save_46 : decode b_X_save 46 = .ok (.idiv, 1) := by decide +kernel
theorem d_X_save_47 : decode b_X_save 47 = .ok (.iload_n 2, 1) := by decide +kernel
theorem d_X_save_48 : decode b_X_save 48 = .ok (.invokestatic 22, 3) := by decide +kernel
theorem d_X_save_51 : decode b_X_save 51 = .ok (.iastore, 1) := by decide +kernel
theorem d_X_save_52 : decode b_X_save 52 = .ok (.goto 80, 3) := by decide +kernel
theorem d_X_save_55 : decode b_X_save 55 = .ok (.iload_n 1, 1) := by decide +kernel
theorem d_X_save_56 : decode b_X_save 56 = .ok (.iconst 2, 1) := by decide +kernel
theorem d_X_save_57 : decode b_X_save 57 = .ok (.if_icmp .ne 22, 3) := by decide +kernel
theorem d_X_save_60 : decode b_X_save 60 = .ok (.aload_n 0, 1) := by decide +kernel
theorem d_X_save_61 : decode b_X_save 61 = .ok (.getfield 7, 3) := by decide +kernel
theorem d_X_save_64 : decode b_X_save 64 = .ok (.iconst 5, 1) := by decide +kernel
theorem d_X_save_65 : decode b_X_save 65 = .ok (.iload_n 2, 1) := by decide +kernel
theorem d_X_save_66 : decode b_X_save 66 = .ok (.aload_n 0, 1) := by decide +kernel
theorem d_X_save_67 : decode b_X_save 67 = .ok (.getfield 7, 3) := by decide +kernel
theorem d_X_save_70 : decode b_X_save 70 = .ok (.iconst 5, 1) := by decide +kernel
theorem d_X_save_71 : decode b_X_save 71 = .ok (.iaload, 1) := by decide +kernel
theorem d_X_save_72 : decode b_X_save 72 = .ok (.invokestatic 22, 3) := by decide +kernel
theorem d_X_save_75 : decode b_X_save 75 = .ok (.iastore, 1) := by decide +kernel
theorem d_X_save_76 : decode b_X_save 76 = .ok (.goto 56, 3) := by decide +kernel
theorem d_X_save_79 : decode b_X_save 79 = .ok (.iload_n 1, 1) := by decide +kernel
theorem d_X_save_80 : decode b_X_save 80 = .ok (.iconst 3, 1) := by decide +kernel
theorem d_X_save_81 : decode b_X_save 81 = .ok (.if_icmp .ne 24, 3) := by decide +kernel
theorem d_X_save_84 : decode b_X_save 84 = .ok (.aload_n 0, 1) := by decide +kernel
theorem d_X_save_85 : decode b_X_save 85 = .ok (.getfield 7, 3) := by decide +kernel
theorem d_X_save_88 : decode b_X_save 88 = .ok (.bipush 6, 2) := by decide +kernel
theorem d_X_save_90 : decode b_X_save 90 = .ok (.iload_n 2, 1) := by decide +kernel
theorem d_X_save_91 : decode b_X_save 91 = .ok (.aload_n 0, 1) := by decide +kernel
theorem d_X_save_92 : decode b_X_save 92 = .ok (.getfield 7, 3) := by decide +kernel
theorem d_X_save_95 : decode b_X_save 95 = .ok (.bipush 6, 2) := by decide +kernel
theorem d_X_save_97 : decode b_X_save 97 = .ok (.iaload, 1) := by decide +kernel
theorem d_X_save_98 : decode b_X_save 98 = .ok (.invokestatic 22, 3) := by decide +kernel
theorem d_X_save_101 : decode b_X_save 101 = .ok (.iastore, 1) := by decide +kernel
theorem d_X_save_102 : decode b_X_save 102 = .ok (.goto 30, 3) := by decide +kernel
theorem d_X_save_105 : decode b_X_save 105 = .ok (.iload_n 1, 1) := by decide +kernel
theorem d_X_save_106 : decode b_X_save 106 = .ok (.iconst 4, 1) := by decide +kernel
theorem d_X_save_107 : decode b_X_save 107 = .ok (.if_icmp .ne 25, 3) := by decide +kernel
theorem d_X_save_110 : decode b_X_save 110 = .ok (.aload_n 0, 1) := by decide +kernel
theorem d_X_save_111 : decode b_X_save 111 = .ok (.getfield 7, 3) := by decide +kernel
theorem d_X_save_114 : decode b_X_save 114 = .ok (.bipush 7, 2) := by decide +kernel
theorem d_X_save_116 : decode b_X_save 116 = .ok (.iload_n 2, 1) := by decide +kernel
theorem d_X_save_117 : decode b_X_save 117 = .ok (.iconst 1, 1) := by decide +kernel
theorem d_X_save_118 : decode b_X_save 118 = .ok (.iand, 1) := by decide +kernel
theorem d_X_save_119 : decode b_X_save 119 = .ok (.iastore, 1) := by decide +kernel
theorem d_X_save_120 : decode b_X_save 120 = .ok (.aload_n 0, 1) := by decide +kernel
theorem d_X_save_121 : decode b_X_save 121 = .ok (.getfield 7, 3) := by decide +kernel
theorem d_X_save_124 : decode b_X_save 124 = .ok (.bipush 8, 2) := by decide +kernel
theorem d_X_save_126 : decode b_X_save 126 = .ok (.iload_n 2, 1) := by decide +kernel
theorem d_X_save_127 : decode b_X_save 127 = .ok (.iconst 1, 1) := by decide +kernel
theorem d_X_save_128 : decode b_X_save 128 = .ok (.ishr, 1) := by decide +kernel
theorem d_X_save_129 : decode b_X_save 129 = .ok (.iconst 1, 1) := by decide +kernel
theorem d_X_save_130 : decode b_X_save 130 = .ok (.iand, 1) := by decide +kernel
theorem d_X_save_131 : decode b_X_save 131 = .ok (.iastore, 1) := by decide +kernel
theorem d_X_save_132 : decode b_X_save 132 = .ok (.return_, 1) := by decide +kernel
theorem d_X_comeBack_0 : decode b_X_comeBack 0 = .ok (.aload_n 0, 1) := by decide +kernel
theorem d_X_comeBack_1 : decode b_X_comeBack 1 = .ok (.getfield 7, 3) := by decide +kernel
theorem d_X_comeBack_4 : decode b_X_comeBack 4 = .ok (.iconst 0, 1) := by decide +kernel
theorem d_X_comeBack_5 : decode b_X_comeBack 5 = .ok (.aload_n 0, 1) := by decide +kernel
theorem d_X_comeBack_6 : decode b_X_comeBack 6 = .ok (.getfield 7, 3) := by decide +kernel
theorem d_X_comeBack_9 : decode b_X_comeBack 9 = .ok (.iconst 5, 1) := by decide +kernel
theorem d_X_comeBack_10 : decode b_X_comeBack 10 = .ok (.iaload, 1) := by decide +kernel
theorem d_X_comeBack_11 : decode b_X_comeBack 11 = .ok (.iastore, 1) := by decide +kernel
theorem d_X_comeBack_12 : decode b_X_comeBack 12 = .ok (.aload_n 0, 1) := by decide +kernel
theorem d_X_comeBack_13 : decode b_X_comeBack 13 = .ok (.getfield 7, 3) := by decide +kernel
theorem d_X_comeBack_16 : decode b_X_comeBack 16 = .ok (.iconst 1, 1) := by decide +kernel
theorem d_X_comeBack_17 : decode b_X_comeBack 17 = .ok (.aload_n 0, 1) := by decide +kernel
theorem d_X_comeBack_18 : decode b_X_comeBack 18 = .ok (.getfield 7, 3) := by decide +kernel
theorem d_X_comeBack_21 : decode b_X_comeBack 21 = .ok (.bipush 6, 2) := by decide +kernel
theorem d_X_comeBack_23 : decode b_X_comeBack 23 = .ok (.iaload, 1) := by decide +kernel
theorem d_X_comeBack_24 : decode b_X_comeBack 24 = .ok (.iastore, 1) := by decide +kernel
theorem d_X_comeBack_25 : decode b_X_comeBack 25 = .ok (.aload_n 0, 1) := by decide +kernel
theorem d_X_comeBack_26 : decode b_X_comeBack 26 = .ok (.getfield 7, 3) := by decide +kernel
theorem d_X_comeBack_29 : decode b_X_comeBack 29 = .ok (.iconst 2, 1) := by decide +kernel
theorem d_X_comeBack_30 : decode b_X_comeBack 30 = .ok (.aload_n 0, 1) := by decide +kernel
theorem d_X_comeBack_31 : decode b_X_comeBack 31 = .ok (.getfield 7, 3) := by decide +kernel
theorem d_X_comeBack_34 : decode b_X_comeBack 34 = .ok (.bipush 7, 2) := by decide +kernel
theorem d_X_comeBack_36 : decode b_X_comeBack 36 = .ok (.iaload, 1) := by decide +kernel
theorem d_X_comeBack_37 : decode b_X_comeBack 37 = .ok (.iastore, 1) := by decide +kernel
theorem d_X_comeBack_38 : decode b_X_comeBack 38 = .ok (.aload_n 0, 1) := by decide +kernel
theorem d_X_comeBack_39 : decode b_X_comeBack 39 = .ok (.getfield 7, 3) := by decide +kernel
theorem d_X_comeBack_42 : decode b_X_comeBack 42 = .ok (.iconst 3, 1) := by decide +kernel
theorem d_X_comeBack_43 : decode b_X_comeBack 43 = .ok (.aload_n 0, 1) := by decide +kernel
theorem d_X_comeBack_44 : decode b_X_comeBack 44 = .ok (.getfield 7, 3) := by decide +kernel
theorem d_X_comeBack_47 : decode b_X_comeBack 47 = .ok (.bipush 8, 2) := by decide +kernel
theorem d_X_comeBack_49 : decode b_X_comeBack 49 = .ok (.iaload, 1) := by decide +kernel
theorem d_X_comeBack_50 : decode b_X_comeBack 50 = .ok (.iastore, 1) := by decide +kernel
theorem d_X_comeBack_51 : decode b_X_comeBack 51 = .ok (.aload_n 0, 1) := by decide +kernel
theorem d_X_comeBack_52 : decode b_X_comeBack 52 = .ok (.iconst 1, 1) := by decide +kernel
theorem d_X_comeBack_53 : decode b_X_comeBack 53 = .ok (.putfield 52, 3) := by decide +kernel
theorem d_X_comeBack_56 : decode b_X_comeBack 56 = .ok (.return_, 1) := by decide +kernel
theorem d_X_manage_0 : decode b_X_manage 0 = .ok (.iload_n 1, 1) := by decide +kernel
theorem d_X_manage_1 : decode b_X_manage 1 = .ok (.bipush 24, 2) := by decide +kernel
theorem d_X_manage_3 : decode b_X_manage 3 = .ok (.iushr, 1) := by decide +kernel
theorem d_X_manage_4 : decode b_X_manage 4 = .ok (.bipush 7, 2) := by decide +kernel
theorem d_X_manage_6 : decode b_X_manage 6 = .ok (.iand, 1) := by decide +kernel
theorem d_X_manage_7 : decode b_X_manage 7 = .ok (.istore 5, 2) := by decide +kernel
theorem d_X_manage_9 : decode b_X_manage 9 = .ok (.bipush 18, 2) := by decide +kernel
theorem d_X_manage_11 : decode b_X_manage 11 = .ok (.iload_n 1, 1) := by decide +kernel
theorem d_X_manage_12 : decode b_X_manage 12 = .ok (.bipush 18, 2) := by decide +kernel
theorem d_X_manage_14 : decode b_X_manage 14 = .ok (.iushr, 1) := by decide +kernel
theorem d_X_manage_15 : decode b_X_manage 15 = .ok (.iconst 3, 1) := by decide +kernel
theorem d_X_manage_16 : decode b_X_manage 16 = .ok (.iand, 1) := by decide +kernel
theorem d_X_manage_17 : decode b_X_manage 17 = .ok (.iadd, 1) := by decide +kernel
theorem d_X_manage_18 : decode b_X_manage 18 = .ok (.istore 6, 2) := by decide +kernel
theorem d_X_manage_20 : decode b_X_manage 20 = .ok (.iload_n 2, 1) := by decide +kernel
theorem d_X_manage_21 : decode b_X_manage 21 = .ok (.tableswitch 121 18 23 #[39, 51, 66, 92, 98, 112], 39) := by decide +kernel
theorem d_X_manage_60 : decode b_X_manage 60 = .ok (.aload_n 0, 1) := by decide +kernel
theorem d_X_manage_61 : decode b_X_manage 61 = .ok (.getfield 7, 3) := by decide +kernel
theorem d_X_manage_64 : decode b_X_manage 64 = .ok (.iload 6, 2) := by decide +kernel
theorem d_X_manage_66 : decode b_X_manage 66 = .ok (.iload_n 3, 1) := by decide +kernel
theorem d_X_manage_67 : decode b_X_manage 67 = .ok (.iconst 3, 1) := by decide +kernel
theorem d_X_manage_68 : decode b_X_manage 68 = .ok (.iand, 1) := by decide +kernel
theorem d_X_manage_69 : decode b_X_manage 69 = .ok (.iastore, 1) := by decide +kernel
theorem d_X_manage_70 : decode b_X_manage 70 = .ok (.iconst 0, 1) := by decide +kernel
theorem d_X_manage_71 : decode b_X_manage 71 = .ok (.ireturn, 1) := by decide +kernel
theorem d_X_manage_72 : decode b_X_manage 72 = .ok (.aload_n 0, 1) := by decide +kernel
theorem d_X_manage_73 : decode b_X_manage 73 = .ok (.iload 5, 2) := by decide +kernel
theorem d_X_manage_75 : decode b_X_manage 75 = .ok (.aload_n 0, 1) := by decide +kernel
theorem d_X_manage_76 : decode b_X_manage 76 = .ok (.getfield 7, 3) := by decide +kernel
theorem d_X_manage_79 : decode b_X_manage 79 = .ok (.iload 6, 2) := by decide +kernel
theorem d_X_manage_81 : decode b_X_manage 81 = .ok (.iaload, 1) := by decide +kernel
theorem d_X_manage_82 : decode b_X_manage 82 = .ok (.invokevirtual 36, 3) := by decide +kernel
theorem d_X_manage_85 : decode b_X_manage 85 = .ok (.iconst 0, 1) := by decide +kernel
theorem d_X_manage_86 : decode b_X_manage 86 = .ok (.ireturn, 1) := by decide +kernel
theorem d_X_manage_87 : decode b_X_manage 87 = .ok (.aload_n 0, 1) := by decide +kernel
theorem d_X_manage_88 : decode b_X_manage 88 = .ok (.iload 5, 2) := by decide +kernel
theorem d_X_manage_90 : decode b_X_manage 90 = .ok (.aload_n 0, 1) := by decide +kernel
theorem d_X_manage_91 : decode b_X_manage 91 = .ok (.getfield 7, 3) := by decide +kernel
theorem d_X_manage_94 : decode b_X_manage 94 = .ok (.iconst 3, 1) := by decide +kernel
theorem d_X_manage_95 : decode b_X_manage 95 = .ok (.iaload, 1) := by decide +kernel
theorem d_X_manage_96 : decode b_X_manage 96 = .ok (.invokevirtual 36, 3) := by decide +kernel
theorem d_X_manage_99 : decode b_X_manage 99 = .ok (.aload_n 0, 1) := by decide +kernel
theorem d_X_manage_100 : decode b_X_manage 100 = .ok (.getfield 7, 3) := by decide +kernel
theorem d_X_manage_103 : decode b_X_manage 103 = .ok (.iconst 3, 1) := by decide +kernel
theorem d_X_manage_104 : decode b_X_manage 104 = .ok (.iload_n 1, 1) := by decide +kernel
theorem d_X_manage_105 : decode b_X_manage 105 = .ok (.bipush 14, 2) := by decide +kernel
theorem d_X_manage_107 : decode b_X_manage 107 = .ok (.iushr, 1) := by decide +kernel
theorem d_X_manage_108 : decode b_X_manage 108 = .ok (.iconst 1, 1) := by decide +kernel
theorem d_X_manage_109 : decode b_X_manage 109 = .ok (.iand, 1) := by decide +kernel
theorem d_X_manage_110 : decode b_X_manage 110 = .ok (.iastore, 1) := by decide +kernel
theorem d_X_manage_111 : decode b_X_manage 111 = .ok (.iconst 0, 1) := by decide +kernel
theorem d_X_manage_112 : decode b_X_manage 112 = .ok (.ireturn, 1) := by decide +kernel
theorem d_X_manage_113 : decode b_X_manage 113 = .ok (.aload_n 0, 1) := by decide +kernel
theorem d_X_manage_114 : decode b_X_manage 114 = .ok (.invokevirtual 55, 3) := by decide +kernel
theorem d_X_manage_117 : decode b_X_manage 117 = .ok (.iconst 0, 1) := by decide +kernel
theorem d_X_manage_118 : decode b_X_manage 118 = .ok (.ireturn, 1) := by decide +kernel
theorem d_X_manage_119 : decode b_X_manage 119 = .ok (.aload_n 0, 1) := by decide +kernel
theorem d_X_manage_120 : decode b_X_manage 120 = .ok (.iload 5, 2) := by decide +kernel
theorem d_X_manage_122 : decode b_X_manage 122 = .ok (.aload_n 0, 1) := by decide +kernel
theorem d_X_manage_123 : decode b_X_manage 123 = .ok (.iload 4, 2) := by decide +kernel
theorem d_X_manage_125 : decode b_X_manage 125 = .ok (.invokevirtual 58, 3) := by decide +kernel
theorem d_X_manage_128 : decode b_X_manage 128 = .ok (.invokevirtual 36, 3) := by decide +kernel
theorem d_X_manage_131 : decode b_X_manage 131 = .ok (.iconst 0, 1) := by decide +kernel
theorem d_X_manage_132 : decode b_X_manage 132 = .ok (.ireturn, 1) := by decide +kernel
theorem d_X_manage_133 : decode b_X_manage 133 = .ok (.aload_n 0, 1) := by decide +kernel
theorem d_X_manage_134 : decode b_X_manage 134 = .ok (.iload 4, 2) := by decide +kernel
theorem d_X_manage_136 : decode b_X_manage 136 = .ok (.iload_n 3, 1) := by decide +kernel
theorem d_X_manage_137 : decode b_X_manage 137 = .ok (.invokevirtual 61, 3) := by decide +kernel
theorem d_X_manage_140 : decode b_X_manage 140 = .ok (.iconst 0, 1) := by decide +kernel
theorem d_X_manage_141 : decode b_X_manage 141 = .ok (.ireturn, 1) := by decide +kernel
theorem d_X_manage_142 : decode b_X_manage 142 = .ok (.iload_n 2, 1) := by decide +kernel
theorem d_X_manage_143 : decode b_X_manage 143 = .ok (.bipush 24, 2) := by decide +kernel
theorem d_X_manage_145 : decode b_X_manage 145 = .ok (.if_icmp .ne 7, 3) := by decide +kernel
theorem d_X_manage_148 : decode b_X_manage 148 = .ok (.iconst 4, 1) := by decide +kernel
theorem d_X_manage_149 : decode b_X_manage 149 = .ok (.goto 4, 3) := by decide +kernel
theorem d_X_manage_152 : decode b_X_manage 152 = .ok (.iconst 5, 1) := by decide +kernel
theorem d_X_manage_153 : decode b_X_manage 153 = .ok (.ireturn, 1) := by decide +kernel
theorem d_X_instruct_0 : decode b_X_instruct 0 = .ok (.aload_n 0, 1) := by decide +kernel
theorem d_X_instruct_1 : decode b_X_instruct 1 = .ok (.getfield 16, 3) := by decide +kernel
theorem d_X_instruct_4 : decode b_X_instruct 4 = .ok (.aload_n 0, 1) := by decide +kernel
theorem d_X_instruct_5 : decode b_X_instruct 5 = .ok (.getfield 7, 3) := by decide +kernel
theorem d_X_instruct_8 : decode b_X_instruct 8 = .ok (.iconst 0, 1) := by decide +kernel
theorem d_X_instruct_9 : decode b_X_instruct 9 = .ok (.iaload, 1) := by decide +kernel
theorem d_X_instruct_10 : decode b_X_instruct 10 = .ok (.iaload, 1) := by decide +kernel
theorem d_X_instruct_11 : decode b_X_instruct 11 = .ok (.istore_n 1, 1) := by decide +kernel
theorem d_X_instruct_12 : decode b_X_instruct 12 = .ok (.iload_n 1, 1) := by decide +kernel
theorem d_X_instruct_13 : decode b_X_instruct 13 = .ok (.bipush 27, 2) := by decide +kernel
theorem d_X_instruct_15 : decode b_X_instruct 15 = .ok (.iushr, 1) := by decide +kernel
theorem d_X_instruct_16 : decode b_X_instruct 16 = .ok (.istore_n 2, 1) := by decide +kernel
theorem d_X_instruct_17 : decode b_X_instruct 17 = .ok (.aload_n 0, 1) := by decide +kernel
theorem d_X_instruct_18 : decode b_X_instruct 18 = .ok (.getfield 7, 3) := by decide +kernel
theorem d_X_instruct_21 : decode b_X_instruct 21 = .ok (.bipush 10, 2) := by decide +kernel
theorem d_X_instruct_23 : decode b_X_instruct 23 = .ok (.iload_n 1, 1) := by decide +kernel
theorem d_X_instruct_24 : decode b_X_instruct 24 = .ok (.bipush 21, 2) := by decide +kernel
theorem d_X_instruct_26 : decode b_X_instruct 26 = .ok (.iushr, 1) := by decide +kernel
theorem d_X_instruct_27 : decode b_X_instruct 27 = .ok (.bipush 7, 2) := by decide +kernel
theorem d_X_instruct_29 : decode b_X_instruct 29 = .ok (.iand, 1) := by decide +kernel
theorem d_X_instruct_30 : decode b_X_instruct 30 = .ok (.iadd, 1) := by decide +kernel
theorem d_X_instruct_31 : decode b_X_instruct 31 = .ok (.iaload, 1) := by decide +kernel
theorem d_X_instruct_32 : decode b_X_instruct 32 = .ok (.istore_n 3, 1) := by decide +kernel
theorem d_X_instruct_33 : decode b_X_instruct 33 = .ok (.aload_n 0, 1) := by decide +kernel
theorem d_X_instruct_34 : decode b_X_instruct 34 = .ok (.getfield 7, 3) := by decide +kernel
theorem d_X_instruct_37 : decode b_X_instruct 37 = .ok (.bipush 10, 2) := by decide +kernel
theorem d_X_instruct_39 : decode b_X_instruct 39 = .ok (.iload_n 1, 1) := by decide +kernel
theorem d_X_instruct_40 : decode b_X_instruct 40 = .ok (.bipush 18, 2) := by decide +kernel
theorem d_X_instruct_42 : decode b_X_instruct 42 = .ok (.iushr, 1) := by decide +kernel
theorem d_X_instruct_43 : decode b_X_instruct 43 = .ok (.bipush 7, 2) := by decide +kernel
theorem d_X_instruct_45 : decode b_X_instruct 45 = .ok (.iand, 1) := by decide +kernel
theorem d_X_instruct_46 : decode b_X_instruct 46 = .ok (.iadd, 1) := by decide +kernel
theorem d_X_instruct_47 : decode b_X_instruct 47 = .ok (.iaload, 1) := by decide +kernel
theorem d_X_instruct_48 : decode b_X_instruct 48 = .ok (.istore 4, 2) := by decide +kernel
theorem d_X_instruct_50 : decode b_X_instruct 50 = .ok (.iload_n 1, 1) := by decide +kernel
theorem d_X_instruct_51 : decode b_X_instruct 51 = .ok (.bipush 18, 2) := by decide +kernel
theorem d_X_instruct_53 : decode b_X_instruct 53 = .ok (.ishl, 1) := by decide +kernel
theorem d_X_instruct_54 : decode b_X_instruct 54 = .ok (.bipush 18, 2) := by decide +kernel
theorem d_X_instruct_56 : decode b_X_instruct 56 = .ok (.ishr, 1) := by decide +kernel
theorem d_X_instruct_57 : decode b_X_instruct 57 = .ok (.istore 5, 2) := by decide +kernel
theorem d_X_instruct_59 : decode b_X_instruct 59 = .ok (.aload_n 0, 1) := by decide +kernel
theorem d_X_instruct_60 : decode b_X_instruct 60 = .ok (.iconst 0, 1) := by decide +kernel
theorem d_X_instruct_61 : decode b_X_instruct 61 = .ok (.putfield 44, 3) := by decide +kernel
theorem d_X_instruct_64 : decode b_X_instruct 64 = .ok (.aload_n 0, 1) := by decide +kernel
theorem d_X_instruct_65 : decode b_X_instruct 65 = .ok (.iconst (-1), 1) := by decide +kernel
theorem d_X_instruct_66 : decode b_X_instruct 66 = .ok (.putfield 48, 3) := by decide +kernel
theorem d_X_instruct_69 : decode b_X_instruct 69 = .ok (.aload_n 0, 1) := by decide +kernel
theorem d_X_instruct_70 : decode b_X_instruct 70 = .ok (.iconst 0, 1) := by decide +kernel
theorem d_X_instruct_71 : decode b_X_instruct 71 = .ok (.putfield 52, 3) := by decide +kernel
theorem d_X_instruct_74 : decode b_X_instruct 74 = .ok (.iload_n 2, 1) := by decide +kernel
theorem d_X_instruct_75 : decode b_X_instruct 75 = .ok (.bipush 11, 2) := by decide +kernel
theorem d_X_instruct_77 : decode b_X_instruct 77 = .ok (.if_icmp .ge 17, 3) := by decide +kernel
theorem d_X_instruct_80 : decode b_X_instruct 80 = .ok (.aload_n 0, 1) := by decide +kernel
theorem d_X_instruct_81 : decode b_X_instruct 81 = .ok (.iload_n 1, 1) := by decide +kernel
theorem d_X_instruct_82 : decode b_X_instruct 82 = .ok (.iload_n 2, 1) := by decide +kernel
theorem d_X_instruct_83 : decode b_X_instruct 83 = .ok (.iload_n 3, 1) := by decide +kernel
theorem d_X_instruct_84 : decode b_X_instruct 84 = .ok (.iload 4, 2) := by decide +kernel
theorem d_X_instruct_86 : decode b_X_instruct 86 = .ok (.iload 5, 2) := by decide +kernel
theorem d_X_instruct_88 : decode b_X_instruct 88 = .ok (.invokevirtual 64, 3) := by decide +kernel
theorem d_X_instruct_91 : decode b_X_instruct 91 = .ok (.goto 65, 3) := by decide +kernel
theorem d_X_instruct_94 : decode b_X_instruct 94 = .ok (.iload_n 2, 1) := by decide +kernel
theorem d_X_instruct_95 : decode b_X_instruct 95 = .ok (.bipush 13, 2) := by decide +kernel
theorem d_X_instruct_97 : decode b_X_instruct 97 = .ok (.if_icmp .ge 30, 3) := by decide +kernel
theorem d_X_instruct_100 : decode b_X_instruct 100 = .ok (.aload_n 0, 1) := by decide +kernel
theorem d_X_instruct_101 : decode b_X_instruct 101 = .ok (.iload_n 1, 1) := by decide +kernel
theorem d_X_instruct_102 : decode b_X_instruct 102 = .ok (.iload_n 2, 1) := by decide +kernel
theorem d_X_instruct_103 : decode b_X_instruct 103 = .ok (.iload_n 3, 1) := by decide +kernel
theorem d_X_instruct_104 : decode b_X_instruct 104 = .ok (.iload 5, 2) := by decide +kernel
theorem d_X_instruct_106 : decode b_X_instruct 106 = .ok (.iadd, 1) := by decide +kernel
theorem d_X_instruct_107 : decode b_X_instruct 107 = .ok (.aload_n 0, 1) := by decide +kernel
theorem d_X_instruct_108 : decode b_X_instruct 108 = .ok (.getfield 7, 3) := by decide +kernel
theorem d_X_instruct_111 : decode b_X_instruct 111 = .ok (.bipush 18, 2) := by decide +kernel
theorem d_X_instruct_113 : decode b_X_instruct 113 = .ok (.iload_n 1, 1) := by decide +kernel
theorem d_X_instruct_114 : decode b_X_instruct 114 = .ok (.bipush 18, 2) := by decide +kernel
theorem d_X_instruct_116 : decode b_X_instruct 116 = .ok (.iushr, 1) := by decide +kernel
theorem d_X_instruct_117 : decode b_X_instruct 117 = .ok (.iconst 3, 1) := by decide +kernel
theorem d_X_instruct_118 : decode b_X_instruct 118 = .ok (.iand, 1) := by decide +kernel
theorem d_X_instruct_119 : decode b_X_instruct 119 = .ok (.iadd, 1) := by decide +kernel
theorem d_X_instruct_120 : decode b_X_instruct 120 = .ok (.iaload, 1) := by decide +kernel
theorem d_X_instruct_121 : decode b_X_instruct 121 = .ok (.invokevirtual 68, 3) := by decide +kernel
theorem d_X_instruct_124 : decode b_X_instruct 124 = .ok (.goto 32, 3) := by decide +kernel
theorem d_X_instruct_127 : decode b_X_instruct 127 = .ok (.iload_n 2, 1) := by decide +kernel
theorem d_X_instruct_128 : decode b_X_instruct 128 = .ok (.bipush 18, 2) := by decide +kernel
theorem d_X_instruct_130 : decode b_X_instruct 130 = .ok (.if_icmp .ge 17, 3) := by decide +kernel
theorem d_X_instruct_133 : decode b_X_instruct 133 = .ok (.aload_n 0, 1) := by decide +kernel
theorem d_X_instruct_134 : decode b_X_instruct 134 = .ok (.iload_n 1, 1) := by decide +kernel
theorem d_X_instruct_135 : decode b_X_instruct 135 = .ok (.iload_n 2, 1) := by decide +kernel
theorem d_X_instruct_136 : decode b_X_instruct 136 = .ok (.iload_n 3, 1) := by decide +kernel
theorem d_X_instruct_137 : decode b_X_instruct 137 = .ok (.iload 4, 2) := by decide +kernel
theorem d_X_instruct_139 : decode b_X_instruct 139 = .ok (.iload 5, 2) := by decide +kernel
theorem d_X_instruct_141 : decode b_X_instruct 141 = .ok (.invokevirtual 72, 3) := by decide +kernel
theorem d_X_instruct_144 : decode b_X_instruct 144 = .ok (.goto 12, 3) := by decide +kernel
theorem d_X_instruct_147 : decode b_X_instruct 147 = .ok (.aload_n 0, 1) := by decide +kernel
theorem d_X_instruct_148 : decode b_X_instruct 148 = .ok (.iload_n 1, 1) := by decide +kernel
theorem d_X_instruct_149 : decode b_X_instruct 149 = .ok (.iload_n 2, 1) := by decide +kernel
theorem d_X_instruct_150 : decode b_X_instruct 150 = .ok (.iload_n 3, 1) := by decide +kernel
theorem d_X_instruct_151 : decode b_X_instruct 151 = .ok (.iload 5, 2) := by decide +kernel
theorem d_X_instruct_153 : decode b_X_instruct 153 = .ok (.invokevirtual 75, 3) := by decide +kernel
theorem d_X_instruct_156 : decode b_X_instruct 156 = .ok (.istore 6, 2) := by decide +kernel
theorem d_X_instruct_158 : decode b_X_instruct 158 = .ok (.iload 6, 2) := by decide +kernel
theorem d_X_instruct_160 : decode b_X_instruct 160 = .ok (.ifCond .le 12, 3) := by decide +kernel
theorem d_X_instruct_163 : decode b_X_instruct 163 = .ok (.aload_n 0, 1) := by decide +kernel
theorem d_X_instruct_164 : decode b_X_instruct 164 = .ok (.iload 6, 2) := by decide +kernel
theorem d_X_instruct_166 : decode b_X_instruct 166 = .ok (.invokevirtual 78, 3) := by decide +kernel
theorem d_X_instruct_169 : decode b_X_instruct 169 = .ok (.goto 36, 3) := by decide +kernel
theorem d_X_instruct_172 : decode b_X_instruct 172 = .ok (.aload_n 0, 1) := by decide +kernel
theorem d_X_instruct_173 : decode b_X_instruct 173 = .ok (.getfield 52, 3) := by decide +kernel
theorem d_X_instruct_176 : decode b_X_instruct 176 = .ok (.ifCond .ne 29, 3) := by decide +kernel
theorem d_X_instruct_179 : decode b_X_instruct 179 = .ok (.aload_n 0, 1) := by decide +kernel
theorem d_X_instruct_180 : decode b_X_instruct 180 = .ok (.aload_n 0, 1) := by decide +kernel
theorem d_X_instruct_181 : decode b_X_instruct 181 = .ok (.getfield 48, 3) := by decide +kernel
theorem d_X_instruct_184 : decode b_X_instruct 184 = .ok (.invokevirtual 82, 3) := by decide +kernel
theorem d_X_instruct_187 : decode b_X_instruct 187 = .ok (.aload_n 0, 1) := by decide +kernel
theorem d_X_instruct_188 : decode b_X_instruct 188 = .ok (.getfield 7, 3) := by decide +kernel
theorem d_X_instruct_191 : decode b_X_instruct 191 = .ok (.iconst 2, 1) := by decide +kernel
theorem d_X_instruct_192 : decode b_X_instruct 192 = .ok (.aload_n 0, 1) := by decide +kernel
theorem d_X_instruct_193 : decode b_X_instruct 193 = .ok (.getfield 44, 3) := by decide +kernel
theorem d_X_instruct_196 : decode b_X_instruct 196 = .ok (.ifCond .eq 7, 3) := by decide +kernel
theorem d_X_instruct_199 : decode b_X_instruct 199 = .ok (.iconst 1, 1) := by decide +kernel
theorem d_X_instruct_200 : decode b_X_instruct 200 = .ok (.goto 4, 3) := by decide +kernel
theorem d_X_instruct_203 : decode b_X_instruct 203 = .ok (.iconst 0, 1) := by decide +kernel
theorem d_X_instruct_204 : decode b_X_instruct 204 = .ok (.iastore, 1) := by decide +kernel
theorem d_X_instruct_205 : decode b_X_instruct 205 = .ok (.return_, 1) := by decide +kernel
theorem d_X_step_0 : decode b_X_step 0 = .ok (.aload_n 0, 1) := by decide +kernel
theorem d_X_step_1 : decode b_X_step 1 = .ok (.getfield 19, 3) := by decide +kernel
theorem d_X_step_4 : decode b_X_step 4 = .ok (.iconst 0, 1) := by decide +kernel
theorem d_X_step_5 : decode b_X_step 5 = .ok (.aload_n 0, 1) := by decide +kernel
theorem d_X_step_6 : decode b_X_step 6 = .ok (.getfield 19, 3) := by decide +kernel
theorem d_X_step_9 : decode b_X_step 9 = .ok (.iconst 0, 1) := by decide +kernel
theorem d_X_step_10 : decode b_X_step 10 = .ok (.iaload, 1) := by decide +kernel
theorem d_X_step_11 : decode b_X_step 11 = .ok (.iconst 1, 1) := by decide +kernel
theorem d_X_step_12 : decode b_X_step 12 = .ok (.iadd, 1) := by decide +kernel
theorem d_X_step_13 : decode b_X_step 13 = .ok (.iastore, 1) := by decide +kernel
theorem d_X_step_14 : decode b_X_step 14 = .ok (.aload_n 0, 1) := by decide +kernel
theorem d_X_step_15 : decode b_X_step 15 = .ok (.getfield 7, 3) := by decide +kernel
theorem d_X_step_18 : decode b_X_step 18 = .ok (.iconst 4, 1) := by decide +kernel
theorem d_X_step_19 : decode b_X_step 19 = .ok (.iaload, 1) := by decide +kernel
theorem d_X_step_20 : decode b_X_step 20 = .ok (.iconst 1, 1) := by decide +kernel
theorem d_X_step_21 : decode b_X_step 21 = .ok (.if_icmp .ne 28, 3) := by decide +kernel
theorem d_X_step_24 : decode b_X_step 24 = .ok (.aload_n 0, 1) := by decide +kernel
theorem d_X_step_25 : decode b_X_step 25 = .ok (.getfield 7, 3) := by decide +kernel
theorem d_X_step_28 : decode b_X_step 28 = .ok (.iconst 3, 1) := by decide +kernel
theorem d_X_step_29 : decode b_X_step 29 = .ok (.iaload, 1) := by decide +kernel
theorem d_X_step_30 : decode b_X_step 30 = .ok (.iconst 1, 1) := by decide +kernel
theorem d_X_step_31 : decode b_X_step 31 = .ok (.if_icmp .ne 18, 3) := by decide +kernel
theorem d_X_step_34 : decode b_X_step 34 = .ok (.aload_n 0, 1) := by decide +kernel
theorem d_X_step_35 : decode b_X_step 35 = .ok (.getfield 7, 3) := by decide +kernel
theorem d_X_step_38 : decode b_X_step 38 = .ok (.iconst 4, 1) := by decide +kernel
theorem d_X_step_39 : decode b_X_step 39 = .ok (.iconst 0, 1) := by decide +kernel
theorem d_X_step_40 : decode b_X_step 40 = .ok (.iastore, 1) := by decide +kernel
theorem d_X_step_41 : decode b_X_step 41 = .ok (.aload_n 0, 1) := by decide +kernel
theorem d_X_step_42 : decode b_X_step 42 = .ok (.iconst 1, 1) := by decide +kernel
theorem d_X_step_43 : decode b_X_step 43 = .ok (.invokevirtual 78, 3) := by decide +kernel
theorem d_X_step_46 : decode b_X_step 46 = .ok (.goto 48, 3) := by decide +kernel
theorem d_X_step_49 : decode b_X_step 49 = .ok (.aload_n 0, 1) := by decide +kernel
theorem d_X_step_50 : decode b_X_step 50 = .ok (.getfield 7, 3) := by decide +kernel
theorem d_X_step_53 : decode b_X_step 53 = .ok (.iconst 2, 1) := by decide +kernel
theorem d_X_step_54 : decode b_X_step 54 = .ok (.iaload, 1) := by decide +kernel
theorem d_X_step_55 : decode b_X_step 55 = .ok (.iconst 1, 1) := by decide +kernel
theorem d_X_step_56 : decode b_X_step 56 = .ok (.if_icmp .ne 34, 3) := by decide +kernel
theorem d_X_step_59 : decode b_X_step 59 = .ok (.aload_n 0, 1) := by decide +kernel
theorem d_X_step_60 : decode b_X_step 60 = .ok (.getfield 7, 3) := by decide +kernel
theorem d_X_step_63 : decode b_X_step 63 = .ok (.iconst 2, 1) := by decide +kernel
theorem d_X_step_64 : decode b_X_step 64 = .ok (.iconst 0, 1) := by decide +kernel
theorem d_X_step_65 : decode b_X_step 65 = .ok (.iastore, 1) := by decide +kernel
theorem d_X_step_66 : decode b_X_step 66 = .ok (.aload_n 0, 1) := by decide +kernel
theorem d_X_step_67 : decode b_X_step 67 = .ok (.getfield 19, 3) := by decide +kernel
theorem d_X_step_70 : decode b_X_step 70 = .ok (.bipush 6, 2) := by decide +kernel
theorem d_X_step_72 : decode b_X_step 72 = .ok (.aload_n 0, 1) := by decide +kernel
theorem d_X_step_73 : decode b_X_step 73 = .ok (.getfield 19, 3) := by decide +kernel
theorem d_X_step_76 : decode b_X_step 76 = .ok (.bipush 6, 2) := by decide +kernel
theorem d_X_step_78 : decode b_X_step 78 = .ok (.iaload, 1) := by decide +kernel
theorem d_X_step_79 : decode b_X_step 79 = .ok (.iconst 1, 1) := by decide +kernel
theorem d_X_step_80 : decode b_X_step 80 = .ok (.iadd, 1) := by decide +kernel
theorem d_X_step_81 : decode b_X_step 81 = .ok (.iastore, 1) := by decide +kernel
theorem d_X_step_82 : decode b_X_step 82 = .ok (.aload_n 0, 1) := by decide +kernel
theorem d_X_step_83 : decode b_X_step 83 = .ok (.iconst (-1), 1) := by decide +kernel
theorem d_X_step_84 : decode b_X_step 84 = .ok (.invokevirtual 82, 3) := by decide +kernel
theorem d_X_step_87 : decode b_X_step 87 = .ok (.goto 7, 3) := by decide +kernel
theorem d_X_step_90 : decode b_X_step 90 = .ok (.aload_n 0, 1) := by decide +kernel
theorem d_X_step_91 : decode b_X_step 91 = .ok (.invokevirtual 85, 3) := by decide +kernel
theorem d_X_step_94 : decode b_X_step 94 = .ok (.return_, 1) := by decide +kernel
theorem d_X_traps_0 : decode b_X_traps 0 = .ok (.aload_n 0, 1) := by decide +kernel
theorem d_X_traps_1 : decode b_X_traps 1 = .ok (.getfield 19, 3) := by decide +kernel
theorem d_X_traps_4 : decode b_X_traps 4 = .ok (.iconst 1, 1) := by decide +kernel
theorem d_X_traps_5 : decode b_X_traps 5 = .ok (.iaload, 1) := by decide +kernel
theorem d_X_traps_6 : decode b_X_traps 6 = .ok (.aload_n 0, 1) := by decide +kernel
theorem d_X_traps_7 : decode b_X_traps 7 = .ok (.getfield 19, 3) := by decide +kernel
theorem d_X_traps_10 : decode b_X_traps 10 = .ok (.iconst 2, 1) := by decide +kernel
theorem d_X_traps_11 : decode b_X_traps 11 = .ok (.iaload, 1) := by decide +kernel
theorem d_X_traps_12 : decode b_X_traps 12 = .ok (.iadd, 1) := by decide +kernel
theorem d_X_traps_13 : decode b_X_traps 13 = .ok (.aload_n 0, 1) := by decide +kernel
theorem d_X_traps_14 : decode b_X_traps 14 = .ok (.getfield 19, 3) := by decide +kernel
theorem d_X_traps_17 : decode b_X_traps 17 = .ok (.iconst 3, 1) := by decide +kernel
theorem d_X_traps_18 : decode b_X_traps 18 = .ok (.iaload, 1) := by decide +kernel
theorem d_X_traps_19 : decode b_X_traps 19 = .ok (.iadd, 1) := by decide +kernel
theorem d_X_traps_20 : decode b_X_traps 20 = .ok (.aload_n 0, 1) := by decide +kernel
theorem d_X_traps_21 : decode b_X_traps 21 = .ok (.getfield 19, 3) := by decide +kernel
theorem d_X_traps_24 : decode b_X_traps 24 = .ok (.iconst 4, 1) := by decide +kernel
theorem d_X_traps_25 : decode b_X_traps 25 = .ok (.iaload, 1) := by decide +kernel
theorem d_X_traps_26 : decode b_X_traps 26 = .ok (.iadd, 1) := by decide +kernel
theorem d_X_traps_27 : decode b_X_traps 27 = .ok (.aload_n 0, 1) := by decide +kernel
theorem d_X_traps_28 : decode b_X_traps 28 = .ok (.getfield 19, 3) := by decide +kernel
theorem d_X_traps_31 : decode b_X_traps 31 = .ok (.iconst 5, 1) := by decide +kernel
theorem d_X_traps_32 : decode b_X_traps 32 = .ok (.iaload, 1) := by decide +kernel
theorem d_X_traps_33 : decode b_X_traps 33 = .ok (.iadd, 1) := by decide +kernel
theorem d_X_traps_34 : decode b_X_traps 34 = .ok (.ireturn, 1) := by decide +kernel
theorem d_X_run_0 : decode b_X_run 0 = .ok (.iload_n 1, 1) := by decide +kernel
theorem d_X_run_1 : decode b_X_run 1 = .ok (.ifCond .lt 10, 3) := by decide +kernel
theorem d_X_run_4 : decode b_X_run 4 = .ok (.iload_n 1, 1) := by decide +kernel
theorem d_X_run_5 : decode b_X_run 5 = .ok (.sipush 200, 3) := by decide +kernel
theorem d_X_run_8 : decode b_X_run 8 = .ok (.if_icmp .le 5, 3) := by decide +kernel
theorem d_X_run_11 : decode b_X_run 11 = .ok (.iconst (-1), 1) := by decide +kernel
theorem d_X_run_12 : decode b_X_run 12 = .ok (.ireturn, 1) := by decide +kernel
theorem d_X_run_13 : decode b_X_run 13 = .ok (.aload_n 0, 1) := by decide +kernel
theorem d_X_run_14 : decode b_X_run 14 = .ok (.invokevirtual 88, 3) := by decide +kernel
theorem d_X_run_17 : decode b_X_run 17 = .ok (.istore_n 2, 1) := by decide +kernel
theorem d_X_run_18 : decode b_X_run 18 = .ok (.iconst 0, 1) := by decide +kernel
theorem d_X_run_19 : decode b_X_run 19 = .ok (.istore_n 3, 1) := by decide +kernel
theorem d_X_run_20 : decode b_X_run 20 = .ok (.iload_n 3, 1) := by decide +kernel
theorem d_X_run_21 : decode b_X_run 21 = .ok (.iload_n 1, 1) := by decide +kernel
theorem d_X_run_22 : decode b_X_run 22 = .ok (.if_icmp .ge 13, 3) := by decide +kernel
theorem d_X_run_25 : decode b_X_run 25 = .ok (.aload_n 0, 1) := by decide +kernel
theorem d_X_run_26 : decode b_X_run 26 = .ok (.invokevirtual 92, 3) := by decide +kernel
theorem d_X_run_29 : decode b_X_run 29 = .ok (.iinc 3 1, 3) := by decide +kernel
theorem d_X_run_32 : decode b_X_run 32 = .ok (.goto (-12), 3) := by decide +kernel
theorem d_X_run_35 : decode b_X_run 35 = .ok (.aload_n 0, 1) := by decide +kernel
theorem d_X_run_36 : decode b_X_run 36 = .ok (.invokevirtual 88, 3) := by decide +kernel
theorem d_X_run_39 : decode b_X_run 39 = .ok (.iload_n 2, 1) := by decide +kernel
theorem d_X_run_40 : decode b_X_run 40 = .ok (.isub, 1) := by decide +kernel
theorem d_X_run_41 : decode b_X_run 41 = .ok (.ireturn, 1) := by decide +kernel
theorem d_X_state_0 : decode b_X_state 0 = .ok (.iload_n 1, 1) := by decide +kernel
theorem d_X_state_1 : decode b_X_state 1 = .ok (.tableswitch 186 0 12 #[67, 77, 87, 97, 107, 114, 121, 128, 138, 148, 159, 170, 178], 67) := by decide +kernel
theorem d_X_state_68 : decode b_X_state 68 = .ok (.aload_n 0, 1) := by decide +kernel
theorem d_X_state_69 : decode b_X_state 69 = .ok (.getfield 7, 3) := by decide +kernel
theorem d_X_state_72 : decode b_X_state 72 = .ok (.iconst 0, 1) := by decide +kernel
theorem d_X_state_73 : decode b_X_state 73 = .ok (.iaload, 1) := by decide +kernel
theorem d_X_state_74 : decode b_X_state 74 = .ok (.bipush 32, 2) := by decide +kernel
theorem d_X_state_76 : decode b_X_state 76 = .ok (.idiv, 1) := by decide +kernel
theorem d_X_state_77 : decode b_X_state 77 = .ok (.ireturn, 1) := by decide +kernel
theorem d_X_state_78 : decode b_X_state 78 = .ok (.aload_n 0, 1) := by decide +kernel
theorem d_X_state_79 : decode b_X_state 79 = .ok (.getfield 7, 3) := by decide +kernel
theorem d_X_state_82 : decode b_X_state 82 = .ok (.iconst 0, 1) := by decide +kernel
theorem d_X_state_83 : decode b_X_state 83 = .ok (.iaload, 1) := by decide +kernel
theorem d_X_state_84 : decode b_X_state 84 = .ok (.bipush 32, 2) := by decide +kernel
theorem d_X_state_86 : decode b_X_state 86 = .ok (.irem, 1) := by decide +kernel
theorem d_X_state_87 : decode b_X_state 87 = .ok (.ireturn, 1) := by decide +kernel
theorem d_X_state_88 : decode b_X_state 88 = .ok (.aload_n 0, 1) := by decide +kernel
theorem d_X_state_89 : decode b_X_state 89 = .ok (.getfield 7, 3) := by decide +kernel
theorem d_X_state_92 : decode b_X_state 92 = .ok (.iconst 1, 1) := by decide +kernel
theorem d_X_state_93 : decode b_X_state 93 = .ok (.iaload, 1) := by decide +kernel
theorem d_X_state_94 : decode b_X_state 94 = .ok (.bipush 32, 2) := by decide +kernel
theorem d_X_state_96 : decode b_X_state 96 = .ok (.idiv, 1) := by decide +kernel
theorem d_X_state_97 : decode b_X_state 97 = .ok (.ireturn, 1) := by decide +kernel
theorem d_X_state_98 : decode b_X_state 98 = .ok (.aload_n 0, 1) := by decide +kernel
theorem d_X_state_99 : decode b_X_state 99 = .ok (.getfield 7, 3) := by decide +kernel
theorem d_X_state_102 : decode b_X_state 102 = .ok (.iconst 1, 1) := by decide +kernel
theorem d_X_state_103 : decode b_X_state 103 = .ok (.iaload, 1) := by decide +kernel
theorem d_X_state_104 : decode b_X_state 104 = .ok (.bipush 32, 2) := by decide +kernel
theorem d_X_state_106 : decode b_X_state 106 = .ok (.irem, 1) := by decide +kernel
theorem d_X_state_107 : decode b_X_state 107 = .ok (.ireturn, 1) := by decide +kernel
theorem d_X_state_108 : decode b_X_state 108 = .ok (.aload_n 0, 1) := by decide +kernel
theorem d_X_state_109 : decode b_X_state 109 = .ok (.getfield 7, 3) := by decide +kernel
theorem d_X_state_112 : decode b_X_state 112 = .ok (.iconst 2, 1) := by decide +kernel
theorem d_X_state_113 : decode b_X_state 113 = .ok (.iaload, 1) := by decide +kernel
theorem d_X_state_114 : decode b_X_state 114 = .ok (.ireturn, 1) := by decide +kernel
theorem d_X_state_115 : decode b_X_state 115 = .ok (.aload_n 0, 1) := by decide +kernel
theorem d_X_state_116 : decode b_X_state 116 = .ok (.getfield 7, 3) := by decide +kernel
theorem d_X_state_119 : decode b_X_state 119 = .ok (.iconst 3, 1) := by decide +kernel
theorem d_X_state_120 : decode b_X_state 120 = .ok (.iaload, 1) := by decide +kernel
theorem d_X_state_121 : decode b_X_state 121 = .ok (.ireturn, 1) := by decide +kernel
theorem d_X_state_122 : decode b_X_state 122 = .ok (.aload_n 0, 1) := by decide +kernel
theorem d_X_state_123 : decode b_X_state 123 = .ok (.getfield 7, 3) := by decide +kernel
theorem d_X_state_126 : decode b_X_state 126 = .ok (.iconst 4, 1) := by decide +kernel
theorem d_X_state_127 : decode b_X_state 127 = .ok (.iaload, 1) := by decide +kernel
theorem d_X_state_128 : decode b_X_state 128 = .ok (.ireturn, 1) := by decide +kernel
theorem d_X_state_129 : decode b_X_state 129 = .ok (.aload_n 0, 1) := by decide +kernel
theorem d_X_state_130 : decode b_X_state 130 = .ok (.getfield 7, 3) := by decide +kernel
theorem d_X_state_133 : decode b_X_state 133 = .ok (.iconst 5, 1) := by decide +kernel
theorem d_X_state_134 : decode b_X_state 134 = .ok (.iaload, 1) := by decide +kernel
theorem d_X_state_135 : decode b_X_state 135 = .ok (.bipush 32, 2) := by decide +kernel
theorem d_X_state_137 : decode b_X_state 137 = .ok (.idiv, 1) := by decide +kernel
theorem d_X_state_138 : decode b_X_state 138 = .ok (.ireturn, 1) := by decide +kernel
theorem d_X_state_139 : decode b_X_state 139 = .ok (.aload_n 0, 1) := by decide +kernel
theorem d_X_state_140 : decode b_X_state 140 = .ok (.getfield 7, 3) := by decide +kernel
theorem d_X_state_143 : decode b_X_state 143 = .ok (.iconst 5, 1) := by decide +kernel
theorem d_X_state_144 : decode b_X_state 144 = .ok (.iaload, 1) := by decide +kernel
theorem d_X_state_145 : decode b_X_state 145 = .ok (.bipush 32, 2) := by decide +kernel
theorem d_X_state_147 : decode b_X_state 147 = .ok (.irem, 1) := by decide +kernel
theorem d_X_state_148 : decode b_X_state 148 = .ok (.ireturn, 1) := by decide +kernel
theorem d_X_state_149 : decode b_X_state 149 = .ok (.aload_n 0, 1) := by decide +kernel
theorem d_X_state_150 : decode b_X_state 150 = .ok (.getfield 7, 3) := by decide +kernel
theorem d_X_state_153 : decode b_X_state 153 = .ok (.bipush 6, 2) := by decide +kernel
theorem d_X_state_155 : decode b_X_state 155 = .ok (.iaload, 1) := by decide +kernel
theorem d_X_state_156 : decode b_X_state 156 = .ok (.bipush 32, 2) := by decide +kernel
theorem d_X_state_158 : decode b_X_state 158 = .ok (.idiv, 1) := by decide +kernel
theorem d_X_state_159 : decode b_X_state 159 = .ok (.ireturn, 1) := by decide +kernel
theorem d_X_state_160 : decode b_X_state 160 = .ok (.aload_n 0, 1) := by decide +kernel
theorem d_X_state_161 : decode b_X_state 161 = .ok (.getfield 7, 3) := by decide +kernel
theorem d_X_state_164 : decode b_X_state 164 = .ok (.bipush 6, 2) := by decide +kernel
theorem d_X_state_166 : decode b_X_state 166 = .ok (.iaload, 1) := by decide +kernel
theorem d_X_state_167 : decode b_X_state 167 = .ok (.bipush 32, 2) := by decide +kernel
theorem d_X_state_169 : decode b_X_state 169 = .ok (.irem, 1) := by decide +kernel
theorem d_X_state_170 : decode b_X_state 170 = .ok (.ireturn, 1) := by decide +kernel
theorem d_X_state_171 : decode b_X_state 171 = .ok (.aload_n 0, 1) := by decide +kernel
theorem d_X_state_172 : decode b_X_state 172 = .ok (.getfield 7, 3) := by decide +kernel
theorem d_X_state_175 : decode b_X_state 175 = .ok (.bipush 7, 2) := by decide +kernel
theorem d_X_state_177 : decode b_X_state 177 = .ok (.iaload, 1) := by decide +kernel
theorem d_X_state_178 : decode b_X_state 178 = .ok (.ireturn, 1) := by decide +kernel
theorem d_X_state_179 : decode b_X_state 179 = .ok (.aload_n 0, 1) := by decide +kernel
theorem d_X_state_180 : decode b_X_state 180 = .ok (.getfield 7, 3) := by decide +kernel
theorem d_X_state_183 : decode b_X_state 183 = .ok (.bipush 8, 2) := by decide +kernel
theorem d_X_state_185 : decode b_X_state 185 = .ok (.iaload, 1) := by decide +kernel
theorem d_X_state_186 : decode b_X_state 186 = .ok (.ireturn, 1) := by decide +kernel
theorem d_X_state_187 : decode b_X_state 187 = .ok (.iload_n 1, 1) := by decide +kernel
theorem d_X_state_188 : decode b_X_state 188 = .ok (.bipush 13, 2) := by decide +kernel
theorem d_X_state_190 : decode b_X_state 190 = .ok (.if_icmp .ne 13, 3) := by decide +kernel
theorem d_X_state_193 : decode b_X_state 193 = .ok (.aload_n 0, 1) := by decide +kernel
theorem d_X_state_194 : decode b_X_state 194 = .ok (.getfield 7, 3) := by decide +kernel
theorem d_X_state_197 : decode b_X_state 197 = .ok (.bipush 9, 2) := by decide +kernel
theorem d_X_state_199 : decode b_X_state 199 = .ok (.iaload, 1) := by decide +kernel
theorem d_X_state_200 : decode b_X_state 200 = .ok (.goto 4, 3) := by decide +kernel
theorem d_X_state_203 : decode b_X_state 203 = .ok (.iconst (-1), 1) := by decide +kernel
theorem d_X_state_204 : decode b_X_state 204 = .ok (.ireturn, 1) := by decide +kernel
theorem d_X_register_0 : decode b_X_register 0 = .ok (.iload_n 1, 1) := by decide +kernel
theorem d_X_register_1 : decode b_X_register 1 = .ok (.bipush 8, 2) := by decide +kernel
theorem d_X_register_3 : decode b_X_register 3 = .ok (.invokestatic 26, 3) := by decide +kernel
theorem d_X_register_6 : decode b_X_register 6 = .ok (.ifCond .eq 15, 3) := by decide +kernel
theorem d_X_register_9 : decode b_X_register 9 = .ok (.aload_n 0, 1) := by decide +kernel
theorem d_X_register_10 : decode b_X_register 10 = .ok (.getfield 7, 3) := by decide +kernel
theorem d_X_register_13 : decode b_X_register 13 = .ok (.bipush 10, 2) := by decide +kernel
theorem d_X_register_15 : decode b_X_register 15 = .ok (.iload_n 1, 1) := by decide +kernel
theorem d_X_register_16 : decode b_X_register 16 = .ok (.iadd, 1) := by decide +kernel
theorem d_X_register_17 : decode b_X_register 17 = .ok (.iaload, 1) := by decide +kernel
theorem d_X_register_18 : decode b_X_register 18 = .ok (.goto 4, 3) := by decide +kernel
theorem d_X_register_21 : decode b_X_register 21 = .ok (.iconst 0, 1) := by decide +kernel
theorem d_X_register_22 : decode b_X_register 22 = .ok (.ireturn, 1) := by decide +kernel
theorem d_X_space_0 : decode b_X_space 0 = .ok (.iload_n 1, 1) := by decide +kernel
theorem d_X_space_1 : decode b_X_space 1 = .ok (.iconst 4, 1) := by decide +kernel
theorem d_X_space_2 : decode b_X_space 2 = .ok (.invokestatic 26, 3) := by decide +kernel
theorem d_X_space_5 : decode b_X_space 5 = .ok (.ifCond .eq 15, 3) := by decide +kernel
theorem d_X_space_8 : decode b_X_space 8 = .ok (.aload_n 0, 1) := by decide +kernel
theorem d_X_space_9 : decode b_X_space 9 = .ok (.getfield 7, 3) := by decide +kernel
theorem d_X_space_12 : decode b_X_space 12 = .ok (.bipush 18, 2) := by decide +kernel
theorem d_X_space_14 : decode b_X_space 14 = .ok (.iload_n 1, 1) := by decide +kernel
theorem d_X_space_15 : decode b_X_space 15 = .ok (.iadd, 1) := by decide +kernel
theorem d_X_space_16 : decode b_X_space 16 = .ok (.iaload, 1) := by decide +kernel
theorem d_X_space_17 : decode b_X_space 17 = .ok (.goto 4, 3) := by decide +kernel
theorem d_X_space_20 : decode b_X_space 20 = .ok (.iconst (-1), 1) := by decide +kernel
theorem d_X_space_21 : decode b_X_space 21 = .ok (.ireturn, 1) := by decide +kernel
theorem d_X_word_0 : decode b_X_word 0 = .ok (.iload_n 1, 1) := by decide +kernel
theorem d_X_word_1 : decode b_X_word 1 = .ok (.iconst 4, 1) := by decide +kernel
theorem d_X_word_2 : decode b_X_word 2 = .ok (.invokestatic 26, 3) := by decide +kernel
theorem d_X_word_5 : decode b_X_word 5 = .ok (.ifCond .eq 25, 3) := by decide +kernel
theorem d_X_word_8 : decode b_X_word 8 = .ok (.iload_n 2, 1) := by decide +kernel
theorem d_X_word_9 : decode b_X_word 9 = .ok (.bipush 32, 2) := by decide +kernel
theorem d_X_word_11 : decode b_X_word 11 = .ok (.invokestatic 26, 3) := by decide +kernel
theorem d_X_word_14 : decode b_X_word 14 = .ok (.ifCond .eq 16, 3) := by decide +kernel
theorem d_X_word_17 : decode b_X_word 17 = .ok (.aload_n 0, 1) := by decide +kernel
theorem d_X_word_18 : decode b_X_word 18 = .ok (.getfield 16, 3) := by decide +kernel
theorem d_X_word_21 : decode b_X_word 21 = .ok (.iload_n 1, 1) := by decide +kernel
theorem d_X_word_22 : decode b_X_word 22 = .ok (.iload_n 2, 1) := by decide +kernel
theorem d_X_word_23 : decode b_X_word 23 = .ok (.invokestatic 22, 3) := by decide +kernel
theorem d_X_word_26 : decode b_X_word 26 = .ok (.iaload, 1) := by decide +kernel
theorem d_X_word_27 : decode b_X_word 27 = .ok (.goto 4, 3) := by decide +kernel
theorem d_X_word_30 : decode b_X_word 30 = .ok (.iconst 0, 1) := by decide +kernel
theorem d_X_word_31 : decode b_X_word 31 = .ok (.ireturn, 1) := by decide +kernel
theorem d_X_peek_0 : decode b_X_peek 0 = .ok (.iload_n 1, 1) := by decide +kernel
theorem d_X_peek_1 : decode b_X_peek 1 = .ok (.iconst 4, 1) := by decide +kernel
theorem d_X_peek_2 : decode b_X_peek 2 = .ok (.invokestatic 26, 3) := by decide +kernel
theorem d_X_peek_5 : decode b_X_peek 5 = .ok (.ifCond .eq 29, 3) := by decide +kernel
theorem d_X_peek_8 : decode b_X_peek 8 = .ok (.iload_n 2, 1) := by decide +kernel
theorem d_X_peek_9 : decode b_X_peek 9 = .ok (.bipush 16, 2) := by decide +kernel
theorem d_X_peek_11 : decode b_X_peek 11 = .ok (.invokestatic 26, 3) := by decide +kernel
theorem d_X_peek_14 : decode b_X_peek 14 = .ok (.ifCond .eq 20, 3) := by decide +kernel
theorem d_X_peek_17 : decode b_X_peek 17 = .ok (.aload_n 0, 1) := by decide +kernel
theorem d_X_peek_18 : decode b_X_peek 18 = .ok (.getfield 7, 3) := by decide +kernel
theorem d_X_peek_21 : decode b_X_peek 21 = .ok (.bipush 22, 2) := by decide +kernel
theorem d_X_peek_23 : decode b_X_peek 23 = .ok (.bipush 16, 2) := by decide +kernel
theorem d_X_peek_25 : decode b_X_peek 25 = .ok (.iload_n 1, 1) := by decide +kernel
theorem d_X_peek_26 : decode b_X_peek 26 = .ok (.imul, 1) := by decide +kernel
theorem d_X_peek_27 : decode b_X_peek 27 = .ok (.iadd, 1) := by decide +kernel
theorem d_X_peek_28 : decode b_X_peek 28 = .ok (.iload_n 2, 1) := by decide +kernel
theorem d_X_peek_29 : decode b_X_peek 29 = .ok (.iadd, 1) := by decide +kernel
theorem d_X_peek_30 : decode b_X_peek 30 = .ok (.iaload, 1) := by decide +kernel
theorem d_X_peek_31 : decode b_X_peek 31 = .ok (.goto 4, 3) := by decide +kernel
theorem d_X_peek_34 : decode b_X_peek 34 = .ok (.iconst 0, 1) := by decide +kernel
theorem d_X_peek_35 : decode b_X_peek 35 = .ok (.ireturn, 1) := by decide +kernel
theorem d_X_count_0 : decode b_X_count 0 = .ok (.iload_n 1, 1) := by decide +kernel
theorem d_X_count_1 : decode b_X_count 1 = .ok (.bipush 7, 2) := by decide +kernel
theorem d_X_count_3 : decode b_X_count 3 = .ok (.invokestatic 26, 3) := by decide +kernel
theorem d_X_count_6 : decode b_X_count 6 = .ok (.ifCond .eq 12, 3) := by decide +kernel
theorem d_X_count_9 : decode b_X_count 9 = .ok (.aload_n 0, 1) := by decide +kernel
theorem d_X_count_10 : decode b_X_count 10 = .ok (.getfield 19, 3) := by decide +kernel
theorem d_X_count_13 : decode b_X_count 13 = .ok (.iload_n 1, 1) := by decide +kernel
theorem d_X_count_14 : decode b_X_count 14 = .ok (.iaload, 1) := by decide +kernel
theorem d_X_count_15 : decode b_X_count 15 = .ok (.goto 4, 3) := by decide +kernel
theorem d_X_count_18 : decode b_X_count 18 = .ok (.iconst (-1), 1) := by decide +kernel
theorem d_X_count_19 : decode b_X_count 19 = .ok (.ireturn, 1) := by decide +kernel
theorem d_X_mark_0 : decode b_X_mark 0 = .ok (.iconst 0, 1) := by decide +kernel
theorem d_X_mark_1 : decode b_X_mark 1 = .ok (.istore_n 1, 1) := by decide +kernel
theorem d_X_mark_2 : decode b_X_mark 2 = .ok (.iload_n 1, 1) := by decide +kernel
theorem d_X_mark_3 : decode b_X_mark 3 = .ok (.bipush 86, 2) := by decide +kernel
theorem d_X_mark_5 : decode b_X_mark 5 = .ok (.if_icmp .ge 21, 3) := by decide +kernel
theorem d_X_mark_8 : decode b_X_mark 8 = .ok (.aload_n 0, 1) := by decide +kernel
theorem d_X_mark_9 : decode b_X_mark 9 = .ok (.getfield 13, 3) := by decide +kernel
theorem d_X_mark_12 : decode b_X_mark 12 = .ok (.iload_n 1, 1) := by decide +kernel
theorem d_X_mark_13 : decode b_X_mark 13 = .ok (.aload_n 0, 1) := by decide +kernel
theorem d_X_mark_14 : decode b_X_mark 14 = .ok (.getfield 7, 3) := by decide +kernel
theorem d_X_mark_17 : decode b_X_mark 17 = .ok (.iload_n 1, 1) := by decide +kernel
theorem d_X_mark_18 : decode b_X_mark 18 = .ok (.iaload, 1) := by decide +kernel
theorem d_X_mark_19 : decode b_X_mark 19 = .ok (.iastore, 1) := by decide +kernel
theorem d_X_mark_20 : decode b_X_mark 20 = .ok (.iinc 1 1, 3) := by decide +kernel
theorem d_X_mark_23 : decode b_X_mark 23 = .ok (.goto (-21), 3) := by decide +kernel
theorem d_X_mark_26 : decode b_X_mark 26 = .ok (.aload_n 0, 1) := by decide +kernel
theorem d_X_mark_27 : decode b_X_mark 27 = .ok (.iconst 1, 1) := by decide +kernel
theorem d_X_mark_28 : decode b_X_mark 28 = .ok (.putfield 95, 3) := by decide +kernel
theorem d_X_mark_31 : decode b_X_mark 31 = .ok (.return_, 1) := by decide +kernel
theorem d_X_back_0 : decode b_X_back 0 = .ok (.iconst 0, 1) := by decide +kernel
theorem d_X_back_1 : decode b_X_back 1 = .ok (.istore_n 1, 1) := by decide +kernel
theorem d_X_back_2 : decode b_X_back 2 = .ok (.iload_n 1, 1) := by decide +kernel
theorem d_X_back_3 : decode b_X_back 3 = .ok (.bipush 86, 2) := by decide +kernel
theorem d_X_back_5 : decode b_X_back 5 = .ok (.if_icmp .ge 28, 3) := by decide +kernel
theorem d_X_back_8 : decode b_X_back 8 = .ok (.aload_n 0, 1) := by decide +kernel
theorem d_X_back_9 : decode b_X_back 9 = .ok (.getfield 95, 3) := by decide +kernel
theorem d_X_back_12 : decode b_X_back 12 = .ok (.ifCond .eq 21, 3) := by decide +kernel
theorem d_X_back_15 : decode b_X_back 15 = .ok (.aload_n 0, 1) := by decide +kernel
theorem d_X_back_16 : decode b_X_back 16 = .ok (.getfield 7, 3) := by decide +kernel
theorem d_X_back_19 : decode b_X_back 19 = .ok (.iload_n 1, 1) := by decide +kernel
theorem d_X_back_20 : decode b_X_back 20 = .ok (.aload_n 0, 1) := by decide +kernel
theorem d_X_back_21 : decode b_X_back 21 = .ok (.getfield 13, 3) := by decide +kernel
theorem d_X_back_24 : decode b_X_back 24 = .ok (.iload_n 1, 1) := by decide +kernel
theorem d_X_back_25 : decode b_X_back 25 = .ok (.iaload, 1) := by decide +kernel
theorem d_X_back_26 : decode b_X_back 26 = .ok (.iastore, 1) := by decide +kernel
theorem d_X_back_27 : decode b_X_back 27 = .ok (.iinc 1 1, 3) := by decide +kernel
theorem d_X_back_30 : decode b_X_back 30 = .ok (.goto (-28), 3) := by decide +kernel
theorem d_X_back_33 : decode b_X_back 33 = .ok (.aload_n 0, 1) := by decide +kernel
theorem d_X_back_34 : decode b_X_back 34 = .ok (.getfield 95, 3) := by decide +kernel
theorem d_X_back_37 : decode b_X_back 37 = .ok (.ireturn, 1) := by decide +kernel
end
section
theorem mw_28 : Cond.initialized R_L ∈ qx_T := qx_in (List.mem_of_getElem? (i := 28) (by decide +kernel)) (by decide +kernel)
theorem mw_29 : Cond.initialized R_Q ∈ qx_T := qx_in (List.mem_of_getElem? (i := 29) (by decide +kernel)) (by decide +kernel)
theorem mw_30 : Cond.initialized R_M ∈ qx_T := qx_in (List.mem_of_getElem? (i := 30) (by decide +kernel)) (by decide +kernel)
theorem mw_31 : Cond.initialized R_F ∈ qx_T := qx_in (List.mem_of_getElem? (i := 31) (by decide +kernel)) (by decide +kernel)
theorem mw_32 : Cond.initialized R_Pl ∈ qx_T := qx_in (List.mem_of_getElem? (i := 32) (by decide +kernel)) (by decide +kernel)
theorem mw_33 : Cond.initialized R_X ∈ qx_T := qx_in (List.mem_of_getElem? (i := 33) (by decide +kernel)) (by decide +kernel)
theorem mw_34 : Cond.initialized R_Pa ∈ qx_T := qx_in (List.mem_of_getElem? (i := 34) (by decide +kernel)) (by decide +kernel)
theorem mw_35 : Cond.initialized R_Co ∈ qx_T := qx_in (List.mem_of_getElem? (i := 35) (by decide +kernel)) (by decide +kernel)
theorem mw_36 : Cond.initialized "java/lang/System" ∈ qx_T := qx_in (List.mem_of_getElem? (i := 36) (by decide +kernel)) (by decide +kernel)
theorem mw_37 : Cond.classLink R_L 7 R_Q ∈ qx_T := qx_in (List.mem_of_getElem? (i := 37) (by decide +kernel)) (by decide +kernel)
theorem mw_38 : Cond.instantiable R_Q 5 ∈ qx_T := qx_in (List.mem_of_getElem? (i := 38) (by decide +kernel)) (by decide +kernel)
theorem mw_39 : Cond.methodLink R_L 9 y_Q_init ∈ qx_T := qx_in (List.mem_of_getElem? (i := 39) (by decide +kernel)) (by decide +kernel)
theorem mw_40 : Cond.instanceMethod y_Q_init ∈ qx_T := qx_in (List.mem_of_getElem? (i := 40) (by decide +kernel)) (by decide +kernel)
theorem mw_41 : Cond.code y_Q_init b_Q_init 1 none ∈ qx_T := qx_in (List.mem_of_getElem? (i := 41) (by decide +kernel)) (by decide +kernel)
theorem mw_42 : Cond.methodLink R_Q 1 objectInit ∈ qx_T := qx_in (List.mem_of_getElem? (i := 42) (by decide +kernel)) (by decide +kernel)
theorem mw_43 : Cond.instanceMethod objectInit ∈ qx_T := qx_in (List.mem_of_getElem? (i := 43) (by decide +kernel)) (by decide +kernel)
theorem mw_44 : Cond.code objectInit ⟨#[0xb1]⟩ 1 none ∈ qx_T := qx_in (List.mem_of_getElem? (i := 44) (by decide +kernel)) (by decide +kernel)
theorem mw_45 : Cond.classLink R_Q 16 R_M ∈ qx_T := qx_in (List.mem_of_getElem? (i := 45) (by decide +kernel)) (by decide +kernel)
theorem mw_46 : Cond.instantiable R_M 7 ∈ qx_T := qx_in (List.mem_of_getElem? (i := 46) (by decide +kernel)) (by decide +kernel)
theorem mw_47 : Cond.methodLink R_Q 18 y_M_init ∈ qx_T := qx_in (List.mem_of_getElem? (i := 47) (by decide +kernel)) (by decide +kernel)
theorem mw_48 : Cond.instanceMethod y_M_init ∈ qx_T := qx_in (List.mem_of_getElem? (i := 48) (by decide +kernel)) (by decide +kernel)
theorem mw_49 : Cond.code y_M_init b_M_init 1 none ∈ qx_T := qx_in (List.mem_of_getElem? (i := 49) (by decide +kernel)) (by decide +kernel)
theorem mw_50 : Cond.methodLink R_M 3 objectInit ∈ qx_T := qx_in (List.mem_of_getElem? (i := 50) (by decide +kernel)) (by decide +kernel)
theorem mw_51 : Cond.classLink R_M 21 R_F ∈ qx_T := qx_in (List.mem_of_getElem? (i := 51) (by decide +kernel)) (by decide +kernel)
theorem mw_52 : Cond.instantiable R_F 4 ∈ qx_T := qx_in (List.mem_of_getElem? (i := 52) (by decide +kernel)) (by decide +kernel)
theorem mw_54 : Cond.instanceMethod y_F_init ∈ qx_T := qx_in (List.mem_of_getElem? (i := 54) (by decide +kernel)) (by decide +kernel)
theorem mw_55 : Cond.code y_F_init b_F_init 1 none ∈ qx_T := qx_in (List.mem_of_getElem? (i := 55) (by decide +kernel)) (by decide +kernel)
theorem mw_56 : Cond.methodLink R_F 1 objectInit ∈ qx_T := qx_in (List.mem_of_getElem? (i := 56) (by decide +kernel)) (by decide +kernel)
theorem mw_57 : Cond.fieldLink R_F 7 "QueuedFronts$Flow" "front" "I" ∈ qx_T := qx_in (List.mem_of_getElem? (i := 57) (by decide +kernel)) (by decide +kernel)
theorem mw_58 : Cond.fieldLink R_Q 83 "QueuedFronts$Flow" "front" "I" ∈ qx_T := qx_in (List.mem_of_getElem? (i := 58) (by decide +kernel)) (by decide +kernel)
theorem mw_59 : Cond.fieldLink R_M 156 "QueuedFronts$Flow" "front" "I" ∈ qx_T := qx_in (List.mem_of_getElem? (i := 59) (by decide +kernel)) (by decide +kernel)
theorem mw_60 : Cond.fieldLink R_F 13 "QueuedFronts$Flow" "back" "I" ∈ qx_T := qx_in (List.mem_of_getElem? (i := 60) (by decide +kernel)) (by decide +kernel)
theorem mw_61 : Cond.fieldLink R_Q 93 "QueuedFronts$Flow" "back" "I" ∈ qx_T := qx_in (List.mem_of_getElem? (i := 61) (by decide +kernel)) (by decide +kernel)
theorem mw_62 : Cond.fieldLink R_M 139 "QueuedFronts$Flow" "back" "I" ∈ qx_T := qx_in (List.mem_of_getElem? (i := 62) (by decide +kernel)) (by decide +kernel)
theorem mw_63 : Cond.fieldLink R_F 16 "QueuedFronts$Flow" "nullify" "I" ∈ qx_T := qx_in (List.mem_of_getElem? (i := 63) (by decide +kernel)) (by decide +kernel)
theorem mw_64 : Cond.fieldLink R_Q 96 "QueuedFronts$Flow" "nullify" "I" ∈ qx_T := qx_in (List.mem_of_getElem? (i := 64) (by decide +kernel)) (by decide +kernel)
theorem mw_65 : Cond.fieldLink R_M 174 "QueuedFronts$Flow" "nullify" "I" ∈ qx_T := qx_in (List.mem_of_getElem? (i := 65) (by decide +kernel)) (by decide +kernel)
theorem mw_66 : Cond.fieldLink R_F 19 "QueuedFronts$Flow" "lets" "I" ∈ qx_T := qx_in (List.mem_of_getElem? (i := 66) (by decide +kernel)) (by decide +kernel)
theorem mw_67 : Cond.fieldLink R_Q 99 "QueuedFronts$Flow" "lets" "I" ∈ qx_T := qx_in (List.mem_of_getElem? (i := 67) (by decide +kernel)) (by decide +kernel)
theorem mw_68 : Cond.fieldLink R_M 165 "QueuedFronts$Flow" "lets" "I" ∈ qx_T := qx_in (List.mem_of_getElem? (i := 68) (by decide +kernel)) (by decide +kernel)
theorem mw_78 : Cond.arrayClass .int ∈ qx_T := qx_in (List.mem_of_getElem? (i := 78) (by decide +kernel)) (by decide +kernel)
theorem mw_79 : Cond.methodLink R_M 38 y_F_startAt ∈ qx_T := qx_in (List.mem_of_getElem? (i := 79) (by decide +kernel)) (by decide +kernel)
theorem mw_80 : Cond.instanceMethod y_F_startAt ∈ qx_T := qx_in (List.mem_of_getElem? (i := 80) (by decide +kernel)) (by decide +kernel)
theorem mw_81 : Cond.selects R_F y_F_startAt y_F_startAt ∈ qx_T := qx_in (List.mem_of_getElem? (i := 81) (by decide +kernel)) (by decide +kernel)
theorem mw_82 : Cond.code y_F_startAt b_F_startAt 3 none ∈ qx_T := qx_in (List.mem_of_getElem? (i := 82) (by decide +kernel)) (by decide +kernel)
theorem mw_83 : Cond.methodLink R_F 22 y_Pl_behind ∈ qx_T := qx_in (List.mem_of_getElem? (i := 83) (by decide +kernel)) (by decide +kernel)
theorem mw_84 : Cond.static y_Pl_behind ∈ qx_T := qx_in (List.mem_of_getElem? (i := 84) (by decide +kernel)) (by decide +kernel)
theorem mw_85 : Cond.code y_Pl_behind b_Pl_behind 1 (some .int) ∈ qx_T := qx_in (List.mem_of_getElem? (i := 85) (by decide +kernel)) (by decide +kernel)
theorem mw_86 : Cond.methodLink R_Pl 9 y_Pl_spaceOf ∈ qx_T := qx_in (List.mem_of_getElem? (i := 86) (by decide +kernel)) (by decide +kernel)
theorem mw_87 : Cond.static y_Pl_spaceOf ∈ qx_T := qx_in (List.mem_of_getElem? (i := 87) (by decide +kernel)) (by decide +kernel)
theorem mw_88 : Cond.code y_Pl_spaceOf b_Pl_spaceOf 1 (some .int) ∈ qx_T := qx_in (List.mem_of_getElem? (i := 88) (by decide +kernel)) (by decide +kernel)
theorem mw_89 : Cond.methodLink R_Pl 15 y_Pl_offsetOf ∈ qx_T := qx_in (List.mem_of_getElem? (i := 89) (by decide +kernel)) (by decide +kernel)
theorem mw_90 : Cond.static y_Pl_offsetOf ∈ qx_T := qx_in (List.mem_of_getElem? (i := 90) (by decide +kernel)) (by decide +kernel)
theorem mw_91 : Cond.code y_Pl_offsetOf b_Pl_offsetOf 1 (some .int) ∈ qx_T := qx_in (List.mem_of_getElem? (i := 91) (by decide +kernel)) (by decide +kernel)
theorem mw_92 : Cond.methodLink R_Pl 18 y_Pl_of ∈ qx_T := qx_in (List.mem_of_getElem? (i := 92) (by decide +kernel)) (by decide +kernel)
theorem mw_93 : Cond.static y_Pl_of ∈ qx_T := qx_in (List.mem_of_getElem? (i := 93) (by decide +kernel)) (by decide +kernel)
theorem mw_94 : Cond.code y_Pl_of b_Pl_of 2 (some .int) ∈ qx_T := qx_in (List.mem_of_getElem? (i := 94) (by decide +kernel)) (by decide +kernel)
theorem mw_95 : Cond.fieldLink R_M 9 "QueuedFronts$Machine" "registers" "[I" ∈ qx_T := qx_in (List.mem_of_getElem? (i := 95) (by decide +kernel)) (by decide +kernel)
theorem mw_96 : Cond.fieldLink R_Q 56 "QueuedFronts$Machine" "registers" "[I" ∈ qx_T := qx_in (List.mem_of_getElem? (i := 96) (by decide +kernel)) (by decide +kernel)
theorem mw_97 : Cond.fieldLink R_M 15 "QueuedFronts$Machine" "spaceRegisters" "[I" ∈ qx_T := qx_in (List.mem_of_getElem? (i := 97) (by decide +kernel)) (by decide +kernel)
theorem mw_98 : Cond.fieldLink R_Q 62 "QueuedFronts$Machine" "spaceRegisters" "[I" ∈ qx_T := qx_in (List.mem_of_getElem? (i := 98) (by decide +kernel)) (by decide +kernel)
theorem mw_99 : Cond.fieldLink R_M 18 "QueuedFronts$Machine" "dataWords" "[I" ∈ qx_T := qx_in (List.mem_of_getElem? (i := 99) (by decide +kernel)) (by decide +kernel)
theorem mw_100 : Cond.fieldLink R_Q 47 "QueuedFronts$Machine" "dataWords" "[I" ∈ qx_T := qx_in (List.mem_of_getElem? (i := 100) (by decide +kernel)) (by decide +kernel)
theorem mw_101 : Cond.fieldLink R_M 24 "QueuedFronts$Machine" "flow" "LQueuedFronts$Flow;" ∈ qx_T := qx_in (List.mem_of_getElem? (i := 101) (by decide +kernel)) (by decide +kernel)
theorem mw_102 : Cond.fieldLink R_Q 65 "QueuedFronts$Machine" "flow" "LQueuedFronts$Flow;" ∈ qx_T := qx_in (List.mem_of_getElem? (i := 102) (by decide +kernel)) (by decide +kernel)
theorem mw_103 : Cond.fieldLink R_M 28 "QueuedFronts$Machine" "saved" "LQueuedFronts$Flow;" ∈ qx_T := qx_in (List.mem_of_getElem? (i := 103) (by decide +kernel)) (by decide +kernel)
theorem mw_104 : Cond.fieldLink R_Q 102 "QueuedFronts$Machine" "saved" "LQueuedFronts$Flow;" ∈ qx_T := qx_in (List.mem_of_getElem? (i := 104) (by decide +kernel)) (by decide +kernel)
theorem mw_105 : Cond.fieldLink R_M 31 "QueuedFronts$Machine" "savedCause" "I" ∈ qx_T := qx_in (List.mem_of_getElem? (i := 105) (by decide +kernel)) (by decide +kernel)
theorem mw_106 : Cond.fieldLink R_Q 105 "QueuedFronts$Machine" "savedCause" "I" ∈ qx_T := qx_in (List.mem_of_getElem? (i := 106) (by decide +kernel)) (by decide +kernel)
theorem mw_107 : Cond.fieldLink R_M 35 "QueuedFronts$Machine" "pending" "I" ∈ qx_T := qx_in (List.mem_of_getElem? (i := 107) (by decide +kernel)) (by decide +kernel)
theorem mw_108 : Cond.fieldLink R_Q 75 "QueuedFronts$Machine" "pending" "I" ∈ qx_T := qx_in (List.mem_of_getElem? (i := 108) (by decide +kernel)) (by decide +kernel)
theorem mw_124 : Cond.fieldLink R_Q 9 "QueuedFronts" "codeWords" "[I" ∈ qx_T := qx_in (List.mem_of_getElem? (i := 124) (by decide +kernel)) (by decide +kernel)
theorem mw_125 : Cond.fieldLink R_Q 13 "QueuedFronts" "counts" "[I" ∈ qx_T := qx_in (List.mem_of_getElem? (i := 125) (by decide +kernel)) (by decide +kernel)
theorem mw_126 : Cond.fieldLink R_Q 19 "QueuedFronts" "now" "LQueuedFronts$Machine;" ∈ qx_T := qx_in (List.mem_of_getElem? (i := 126) (by decide +kernel)) (by decide +kernel)
theorem mw_127 : Cond.fieldLink R_Q 23 "QueuedFronts" "remembered" "LQueuedFronts$Machine;" ∈ qx_T := qx_in (List.mem_of_getElem? (i := 127) (by decide +kernel)) (by decide +kernel)
theorem mw_128 : Cond.fieldLink R_Q 26 "QueuedFronts" "remembers" "Z" ∈ qx_T := qx_in (List.mem_of_getElem? (i := 128) (by decide +kernel)) (by decide +kernel)
theorem mw_140 : Cond.methodLink R_L 13 y_Q_code ∈ qx_T := qx_in (List.mem_of_getElem? (i := 140) (by decide +kernel)) (by decide +kernel)
theorem mw_141 : Cond.instanceMethod y_Q_code ∈ qx_T := qx_in (List.mem_of_getElem? (i := 141) (by decide +kernel)) (by decide +kernel)
theorem mw_142 : Cond.selects R_Q y_Q_code y_Q_code ∈ qx_T := qx_in (List.mem_of_getElem? (i := 142) (by decide +kernel)) (by decide +kernel)
theorem mw_143 : Cond.code y_Q_code b_Q_code 4 (some .boolean) ∈ qx_T := qx_in (List.mem_of_getElem? (i := 143) (by decide +kernel)) (by decide +kernel)
theorem mw_144 : Cond.methodLink R_Q 30 y_Q_isPlace ∈ qx_T := qx_in (List.mem_of_getElem? (i := 144) (by decide +kernel)) (by decide +kernel)
theorem mw_145 : Cond.static y_Q_isPlace ∈ qx_T := qx_in (List.mem_of_getElem? (i := 145) (by decide +kernel)) (by decide +kernel)
theorem mw_146 : Cond.code y_Q_isPlace b_Q_isPlace 2 (some .boolean) ∈ qx_T := qx_in (List.mem_of_getElem? (i := 146) (by decide +kernel)) (by decide +kernel)
theorem mw_147 : Cond.methodLink R_Q 40 y_Q_isSpace ∈ qx_T := qx_in (List.mem_of_getElem? (i := 147) (by decide +kernel)) (by decide +kernel)
theorem mw_148 : Cond.static y_Q_isSpace ∈ qx_T := qx_in (List.mem_of_getElem? (i := 148) (by decide +kernel)) (by decide +kernel)
theorem mw_149 : Cond.code y_Q_isSpace b_Q_isSpace 1 (some .boolean) ∈ qx_T := qx_in (List.mem_of_getElem? (i := 149) (by decide +kernel)) (by decide +kernel)
theorem mw_150 : Cond.methodLink R_Q 34 y_Pl_of ∈ qx_T := qx_in (List.mem_of_getElem? (i := 150) (by decide +kernel)) (by decide +kernel)
theorem mw_151 : Cond.methodLink R_L 18 y_Q_data ∈ qx_T := qx_in (List.mem_of_getElem? (i := 151) (by decide +kernel)) (by decide +kernel)
theorem mw_152 : Cond.instanceMethod y_Q_data ∈ qx_T := qx_in (List.mem_of_getElem? (i := 152) (by decide +kernel)) (by decide +kernel)
theorem mw_153 : Cond.selects R_Q y_Q_data y_Q_data ∈ qx_T := qx_in (List.mem_of_getElem? (i := 153) (by decide +kernel)) (by decide +kernel)
theorem mw_154 : Cond.code y_Q_data b_Q_data 4 (some .boolean) ∈ qx_T := qx_in (List.mem_of_getElem? (i := 154) (by decide +kernel)) (by decide +kernel)
theorem mw_155 : Cond.methodLink R_Q 44 y_Q_isDataOffset ∈ qx_T := qx_in (List.mem_of_getElem? (i := 155) (by decide +kernel)) (by decide +kernel)
theorem mw_156 : Cond.static y_Q_isDataOffset ∈ qx_T := qx_in (List.mem_of_getElem? (i := 156) (by decide +kernel)) (by decide +kernel)
theorem mw_157 : Cond.code y_Q_isDataOffset b_Q_isDataOffset 1 (some .boolean) ∈ qx_T := qx_in (List.mem_of_getElem? (i := 157) (by decide +kernel)) (by decide +kernel)
theorem mw_158 : Cond.methodLink R_Q 50 y_Q_dataIndex ∈ qx_T := qx_in (List.mem_of_getElem? (i := 158) (by decide +kernel)) (by decide +kernel)
theorem mw_159 : Cond.static y_Q_dataIndex ∈ qx_T := qx_in (List.mem_of_getElem? (i := 159) (by decide +kernel)) (by decide +kernel)
theorem mw_160 : Cond.code y_Q_dataIndex b_Q_dataIndex 2 (some .int) ∈ qx_T := qx_in (List.mem_of_getElem? (i := 160) (by decide +kernel)) (by decide +kernel)
theorem mw_161 : Cond.methodLink R_L 22 y_Q_set ∈ qx_T := qx_in (List.mem_of_getElem? (i := 161) (by decide +kernel)) (by decide +kernel)
theorem mw_162 : Cond.instanceMethod y_Q_set ∈ qx_T := qx_in (List.mem_of_getElem? (i := 162) (by decide +kernel)) (by decide +kernel)
theorem mw_163 : Cond.selects R_Q y_Q_set y_Q_set ∈ qx_T := qx_in (List.mem_of_getElem? (i := 163) (by decide +kernel)) (by decide +kernel)
theorem mw_164 : Cond.code y_Q_set b_Q_set 3 (some .boolean) ∈ qx_T := qx_in (List.mem_of_getElem? (i := 164) (by decide +kernel)) (by decide +kernel)
theorem mw_165 : Cond.methodLink R_Q 53 y_Q_isRegister ∈ qx_T := qx_in (List.mem_of_getElem? (i := 165) (by decide +kernel)) (by decide +kernel)
theorem mw_166 : Cond.static y_Q_isRegister ∈ qx_T := qx_in (List.mem_of_getElem? (i := 166) (by decide +kernel)) (by decide +kernel)
theorem mw_167 : Cond.code y_Q_isRegister b_Q_isRegister 1 (some .boolean) ∈ qx_T := qx_in (List.mem_of_getElem? (i := 167) (by decide +kernel)) (by decide +kernel)
theorem mw_168 : Cond.methodLink R_L 27 y_Q_setSpace ∈ qx_T := qx_in (List.mem_of_getElem? (i := 168) (by decide +kernel)) (by decide +kernel)
theorem mw_169 : Cond.instanceMethod y_Q_setSpace ∈ qx_T := qx_in (List.mem_of_getElem? (i := 169) (by decide +kernel)) (by decide +kernel)
theorem mw_170 : Cond.selects R_Q y_Q_setSpace y_Q_setSpace ∈ qx_T := qx_in (List.mem_of_getElem? (i := 170) (by decide +kernel)) (by decide +kernel)
theorem mw_171 : Cond.code y_Q_setSpace b_Q_setSpace 3 (some .boolean) ∈ qx_T := qx_in (List.mem_of_getElem? (i := 171) (by decide +kernel)) (by decide +kernel)
theorem mw_172 : Cond.methodLink R_Q 59 y_Q_isSpaceRegister ∈ qx_T := qx_in (List.mem_of_getElem? (i := 172) (by decide +kernel)) (by decide +kernel)
theorem mw_173 : Cond.static y_Q_isSpaceRegister ∈ qx_T := qx_in (List.mem_of_getElem? (i := 173) (by decide +kernel)) (by decide +kernel)
theorem mw_174 : Cond.code y_Q_isSpaceRegister b_Q_isSpaceRegister 1 (some .boolean) ∈ qx_T := qx_in (List.mem_of_getElem? (i := 174) (by decide +kernel)) (by decide +kernel)
theorem mw_175 : Cond.methodLink R_L 31 y_Q_go ∈ qx_T := qx_in (List.mem_of_getElem? (i := 175) (by decide +kernel)) (by decide +kernel)
theorem mw_176 : Cond.instanceMethod y_Q_go ∈ qx_T := qx_in (List.mem_of_getElem? (i := 176) (by decide +kernel)) (by decide +kernel)
theorem mw_177 : Cond.selects R_Q y_Q_go y_Q_go ∈ qx_T := qx_in (List.mem_of_getElem? (i := 177) (by decide +kernel)) (by decide +kernel)
theorem mw_178 : Cond.code y_Q_go b_Q_go 4 (some .boolean) ∈ qx_T := qx_in (List.mem_of_getElem? (i := 178) (by decide +kernel)) (by decide +kernel)
theorem mw_179 : Cond.methodLink R_Q 69 y_F_startAt ∈ qx_T := qx_in (List.mem_of_getElem? (i := 179) (by decide +kernel)) (by decide +kernel)
theorem mw_180 : Cond.methodLink R_L 36 y_Q_interrupt ∈ qx_T := qx_in (List.mem_of_getElem? (i := 180) (by decide +kernel)) (by decide +kernel)
theorem mw_181 : Cond.instanceMethod y_Q_interrupt ∈ qx_T := qx_in (List.mem_of_getElem? (i := 181) (by decide +kernel)) (by decide +kernel)
theorem mw_182 : Cond.selects R_Q y_Q_interrupt y_Q_interrupt ∈ qx_T := qx_in (List.mem_of_getElem? (i := 182) (by decide +kernel)) (by decide +kernel)
theorem mw_183 : Cond.code y_Q_interrupt b_Q_interrupt 1 (some .boolean) ∈ qx_T := qx_in (List.mem_of_getElem? (i := 183) (by decide +kernel)) (by decide +kernel)
theorem mw_184 : Cond.methodLink R_L 41 y_Q_run ∈ qx_T := qx_in (List.mem_of_getElem? (i := 184) (by decide +kernel)) (by decide +kernel)
theorem mw_185 : Cond.instanceMethod y_Q_run ∈ qx_T := qx_in (List.mem_of_getElem? (i := 185) (by decide +kernel)) (by decide +kernel)
theorem mw_186 : Cond.selects R_Q y_Q_run y_Q_run ∈ qx_T := qx_in (List.mem_of_getElem? (i := 186) (by decide +kernel)) (by decide +kernel)
theorem mw_187 : Cond.code y_Q_run b_Q_run 4 (some .int) ∈ qx_T := qx_in (List.mem_of_getElem? (i := 187) (by decide +kernel)) (by decide +kernel)
theorem mw_188 : Cond.methodLink R_Q 79 y_Q_step ∈ qx_T := qx_in (List.mem_of_getElem? (i := 188) (by decide +kernel)) (by decide +kernel)
theorem mw_190 : Cond.instanceMethod y_Q_step ∈ qx_T := qx_in (List.mem_of_getElem? (i := 190) (by decide +kernel)) (by decide +kernel)
theorem mw_191 : Cond.code y_Q_step b_Q_step 3 (some .int) ∈ qx_T := qx_in (List.mem_of_getElem? (i := 191) (by decide +kernel)) (by decide +kernel)
theorem mw_192 : Cond.methodLink R_Q 112 y_Q_trap ∈ qx_T := qx_in (List.mem_of_getElem? (i := 192) (by decide +kernel)) (by decide +kernel)
theorem mw_194 : Cond.instanceMethod y_Q_trap ∈ qx_T := qx_in (List.mem_of_getElem? (i := 194) (by decide +kernel)) (by decide +kernel)
theorem mw_195 : Cond.code y_Q_trap b_Q_trap 2 (some .int) ∈ qx_T := qx_in (List.mem_of_getElem? (i := 195) (by decide +kernel)) (by decide +kernel)
theorem mw_196 : Cond.methodLink R_Q 126 y_M_enterTrap ∈ qx_T := qx_in (List.mem_of_getElem? (i := 196) (by decide +kernel)) (by decide +kernel)
theorem mw_197 : Cond.instanceMethod y_M_enterTrap ∈ qx_T := qx_in (List.mem_of_getElem? (i := 197) (by decide +kernel)) (by decide +kernel)
theorem mw_198 : Cond.selects R_M y_M_enterTrap y_M_enterTrap ∈ qx_T := qx_in (List.mem_of_getElem? (i := 198) (by decide +kernel)) (by decide +kernel)
theorem mw_199 : Cond.code y_M_enterTrap b_M_enterTrap 2 none ∈ qx_T := qx_in (List.mem_of_getElem? (i := 199) (by decide +kernel)) (by decide +kernel)
theorem mw_200 : Cond.methodLink R_M 48 y_F_become ∈ qx_T := qx_in (List.mem_of_getElem? (i := 200) (by decide +kernel)) (by decide +kernel)
theorem mw_201 : Cond.instanceMethod y_F_become ∈ qx_T := qx_in (List.mem_of_getElem? (i := 201) (by decide +kernel)) (by decide +kernel)
theorem mw_202 : Cond.selects R_F y_F_become y_F_become ∈ qx_T := qx_in (List.mem_of_getElem? (i := 202) (by decide +kernel)) (by decide +kernel)
theorem mw_203 : Cond.code y_F_become b_F_become 2 none ∈ qx_T := qx_in (List.mem_of_getElem? (i := 203) (by decide +kernel)) (by decide +kernel)
theorem mw_204 : Cond.methodLink R_M 52 y_Pl_of ∈ qx_T := qx_in (List.mem_of_getElem? (i := 204) (by decide +kernel)) (by decide +kernel)
theorem mw_205 : Cond.methodLink R_Q 115 y_F_moveOn ∈ qx_T := qx_in (List.mem_of_getElem? (i := 205) (by decide +kernel)) (by decide +kernel)
theorem mw_206 : Cond.instanceMethod y_F_moveOn ∈ qx_T := qx_in (List.mem_of_getElem? (i := 206) (by decide +kernel)) (by decide +kernel)
theorem mw_207 : Cond.selects R_F y_F_moveOn y_F_moveOn ∈ qx_T := qx_in (List.mem_of_getElem? (i := 207) (by decide +kernel)) (by decide +kernel)
theorem mw_208 : Cond.code y_F_moveOn b_F_moveOn 2 none ∈ qx_T := qx_in (List.mem_of_getElem? (i := 208) (by decide +kernel)) (by decide +kernel)
theorem mw_209 : Cond.methodLink R_F 28 y_F_moveOnTo ∈ qx_T := qx_in (List.mem_of_getElem? (i := 209) (by decide +kernel)) (by decide +kernel)
theorem mw_210 : Cond.instanceMethod y_F_moveOnTo ∈ qx_T := qx_in (List.mem_of_getElem? (i := 210) (by decide +kernel)) (by decide +kernel)
theorem mw_211 : Cond.selects R_F y_F_moveOnTo y_F_moveOnTo ∈ qx_T := qx_in (List.mem_of_getElem? (i := 211) (by decide +kernel)) (by decide +kernel)
theorem mw_212 : Cond.code y_F_moveOnTo b_F_moveOnTo 3 none ∈ qx_T := qx_in (List.mem_of_getElem? (i := 212) (by decide +kernel)) (by decide +kernel)
theorem mw_213 : Cond.methodLink R_Q 119 y_M_causeOf ∈ qx_T := qx_in (List.mem_of_getElem? (i := 213) (by decide +kernel)) (by decide +kernel)
theorem mw_214 : Cond.instanceMethod y_M_causeOf ∈ qx_T := qx_in (List.mem_of_getElem? (i := 214) (by decide +kernel)) (by decide +kernel)
theorem mw_215 : Cond.selects R_M y_M_causeOf y_M_causeOf ∈ qx_T := qx_in (List.mem_of_getElem? (i := 215) (by decide +kernel)) (by decide +kernel)
theorem mw_216 : Cond.code y_M_causeOf b_M_causeOf 3 (some .int) ∈ qx_T := qx_in (List.mem_of_getElem? (i := 216) (by decide +kernel)) (by decide +kernel)
theorem mw_217 : Cond.methodLink R_M 58 y_Pa_kind ∈ qx_T := qx_in (List.mem_of_getElem? (i := 217) (by decide +kernel)) (by decide +kernel)
theorem mw_218 : Cond.static y_Pa_kind ∈ qx_T := qx_in (List.mem_of_getElem? (i := 218) (by decide +kernel)) (by decide +kernel)
theorem mw_219 : Cond.code y_Pa_kind b_Pa_kind 1 (some .int) ∈ qx_T := qx_in (List.mem_of_getElem? (i := 219) (by decide +kernel)) (by decide +kernel)
theorem mw_220 : Cond.methodLink R_M 64 y_M_valueA ∈ qx_T := qx_in (List.mem_of_getElem? (i := 220) (by decide +kernel)) (by decide +kernel)
theorem mw_222 : Cond.instanceMethod y_M_valueA ∈ qx_T := qx_in (List.mem_of_getElem? (i := 222) (by decide +kernel)) (by decide +kernel)
theorem mw_223 : Cond.code y_M_valueA b_M_valueA 2 (some .int) ∈ qx_T := qx_in (List.mem_of_getElem? (i := 223) (by decide +kernel)) (by decide +kernel)
theorem mw_224 : Cond.methodLink R_M 177 y_Pa_a ∈ qx_T := qx_in (List.mem_of_getElem? (i := 224) (by decide +kernel)) (by decide +kernel)
theorem mw_225 : Cond.static y_Pa_a ∈ qx_T := qx_in (List.mem_of_getElem? (i := 225) (by decide +kernel)) (by decide +kernel)
theorem mw_226 : Cond.code y_Pa_a b_Pa_a 1 (some .int) ∈ qx_T := qx_in (List.mem_of_getElem? (i := 226) (by decide +kernel)) (by decide +kernel)
theorem mw_227 : Cond.methodLink R_M 67 y_M_valueB ∈ qx_T := qx_in (List.mem_of_getElem? (i := 227) (by decide +kernel)) (by decide +kernel)
theorem mw_229 : Cond.instanceMethod y_M_valueB ∈ qx_T := qx_in (List.mem_of_getElem? (i := 229) (by decide +kernel)) (by decide +kernel)
theorem mw_230 : Cond.code y_M_valueB b_M_valueB 2 (some .int) ∈ qx_T := qx_in (List.mem_of_getElem? (i := 230) (by decide +kernel)) (by decide +kernel)
theorem mw_231 : Cond.methodLink R_M 180 y_Pa_b ∈ qx_T := qx_in (List.mem_of_getElem? (i := 231) (by decide +kernel)) (by decide +kernel)
theorem mw_232 : Cond.static y_Pa_b ∈ qx_T := qx_in (List.mem_of_getElem? (i := 232) (by decide +kernel)) (by decide +kernel)
theorem mw_233 : Cond.code y_Pa_b b_Pa_b 1 (some .int) ∈ qx_T := qx_in (List.mem_of_getElem? (i := 233) (by decide +kernel)) (by decide +kernel)
theorem mw_234 : Cond.methodLink R_M 70 y_M_isInt ∈ qx_T := qx_in (List.mem_of_getElem? (i := 234) (by decide +kernel)) (by decide +kernel)
theorem mw_235 : Cond.static y_M_isInt ∈ qx_T := qx_in (List.mem_of_getElem? (i := 235) (by decide +kernel)) (by decide +kernel)
theorem mw_236 : Cond.code y_M_isInt b_M_isInt 2 (some .boolean) ∈ qx_T := qx_in (List.mem_of_getElem? (i := 236) (by decide +kernel)) (by decide +kernel)
theorem mw_237 : Cond.methodLink R_M 74 y_Pa_m ∈ qx_T := qx_in (List.mem_of_getElem? (i := 237) (by decide +kernel)) (by decide +kernel)
theorem mw_238 : Cond.static y_Pa_m ∈ qx_T := qx_in (List.mem_of_getElem? (i := 238) (by decide +kernel)) (by decide +kernel)
theorem mw_239 : Cond.code y_Pa_m b_Pa_m 1 (some .int) ∈ qx_T := qx_in (List.mem_of_getElem? (i := 239) (by decide +kernel)) (by decide +kernel)
theorem mw_241 : Cond.methodLink R_Q 122 y_M_perform ∈ qx_T := qx_in (List.mem_of_getElem? (i := 241) (by decide +kernel)) (by decide +kernel)
theorem mw_242 : Cond.instanceMethod y_M_perform ∈ qx_T := qx_in (List.mem_of_getElem? (i := 242) (by decide +kernel)) (by decide +kernel)
theorem mw_243 : Cond.selects R_M y_M_perform y_M_perform ∈ qx_T := qx_in (List.mem_of_getElem? (i := 243) (by decide +kernel)) (by decide +kernel)
theorem mw_244 : Cond.code y_M_perform b_M_perform 3 none ∈ qx_T := qx_in (List.mem_of_getElem? (i := 244) (by decide +kernel)) (by decide +kernel)
theorem mw_245 : Cond.methodLink R_M 83 y_M_reckon ∈ qx_T := qx_in (List.mem_of_getElem? (i := 245) (by decide +kernel)) (by decide +kernel)
theorem mw_247 : Cond.instanceMethod y_M_reckon ∈ qx_T := qx_in (List.mem_of_getElem? (i := 247) (by decide +kernel)) (by decide +kernel)
theorem mw_248 : Cond.code y_M_reckon b_M_reckon 8 none ∈ qx_T := qx_in (List.mem_of_getElem? (i := 248) (by decide +kernel)) (by decide +kernel)
theorem mw_249 : Cond.methodLink R_M 96 y_M_resultOf ∈ qx_T := qx_in (List.mem_of_getElem? (i := 249) (by decide +kernel)) (by decide +kernel)
theorem mw_250 : Cond.static y_M_resultOf ∈ qx_T := qx_in (List.mem_of_getElem? (i := 250) (by decide +kernel)) (by decide +kernel)
theorem mw_251 : Cond.code y_M_resultOf b_M_resultOf 3 (some .int) ∈ qx_T := qx_in (List.mem_of_getElem? (i := 251) (by decide +kernel)) (by decide +kernel)
theorem mw_252 : Cond.methodLink R_M 116 y_Pa_n ∈ qx_T := qx_in (List.mem_of_getElem? (i := 252) (by decide +kernel)) (by decide +kernel)
theorem mw_253 : Cond.static y_Pa_n ∈ qx_T := qx_in (List.mem_of_getElem? (i := 253) (by decide +kernel)) (by decide +kernel)
theorem mw_254 : Cond.code y_Pa_n b_Pa_n 1 (some .int) ∈ qx_T := qx_in (List.mem_of_getElem? (i := 254) (by decide +kernel)) (by decide +kernel)
theorem mw_255 : Cond.methodLink R_M 119 y_M_shifted ∈ qx_T := qx_in (List.mem_of_getElem? (i := 255) (by decide +kernel)) (by decide +kernel)
theorem mw_256 : Cond.static y_M_shifted ∈ qx_T := qx_in (List.mem_of_getElem? (i := 256) (by decide +kernel)) (by decide +kernel)
theorem mw_257 : Cond.code y_M_shifted b_M_shifted 3 (some .int) ∈ qx_T := qx_in (List.mem_of_getElem? (i := 257) (by decide +kernel)) (by decide +kernel)
theorem mw_258 : Cond.methodLink R_M 100 y_Pa_condition ∈ qx_T := qx_in (List.mem_of_getElem? (i := 258) (by decide +kernel)) (by decide +kernel)
theorem mw_259 : Cond.static y_Pa_condition ∈ qx_T := qx_in (List.mem_of_getElem? (i := 259) (by decide +kernel)) (by decide +kernel)
theorem mw_260 : Cond.code y_Pa_condition b_Pa_condition 1 (some .int) ∈ qx_T := qx_in (List.mem_of_getElem? (i := 260) (by decide +kernel)) (by decide +kernel)
theorem mw_261 : Cond.methodLink R_M 103 y_Co_holds ∈ qx_T := qx_in (List.mem_of_getElem? (i := 261) (by decide +kernel)) (by decide +kernel)
theorem mw_262 : Cond.static y_Co_holds ∈ qx_T := qx_in (List.mem_of_getElem? (i := 262) (by decide +kernel)) (by decide +kernel)
theorem mw_263 : Cond.code y_Co_holds b_Co_holds 3 (some .boolean) ∈ qx_T := qx_in (List.mem_of_getElem? (i := 263) (by decide +kernel)) (by decide +kernel)
theorem mw_264 : Cond.methodLink R_Co 7 y_Co_unsigned ∈ qx_T := qx_in (List.mem_of_getElem? (i := 264) (by decide +kernel)) (by decide +kernel)
theorem mw_265 : Cond.static y_Co_unsigned ∈ qx_T := qx_in (List.mem_of_getElem? (i := 265) (by decide +kernel)) (by decide +kernel)
theorem mw_266 : Cond.code y_Co_unsigned b_Co_unsigned 1 (some .long) ∈ qx_T := qx_in (List.mem_of_getElem? (i := 266) (by decide +kernel)) (by decide +kernel)
theorem mw_267 : Cond.constantLong R_Co 13 4294967295 ∈ qx_T := qx_in (List.mem_of_getElem? (i := 267) (by decide +kernel)) (by decide +kernel)
theorem mw_268 : Cond.methodLink R_M 109 y_M_setT ∈ qx_T := qx_in (List.mem_of_getElem? (i := 268) (by decide +kernel)) (by decide +kernel)
theorem mw_270 : Cond.instanceMethod y_M_setT ∈ qx_T := qx_in (List.mem_of_getElem? (i := 270) (by decide +kernel)) (by decide +kernel)
theorem mw_271 : Cond.code y_M_setT b_M_setT 4 none ∈ qx_T := qx_in (List.mem_of_getElem? (i := 271) (by decide +kernel)) (by decide +kernel)
theorem mw_272 : Cond.methodLink R_M 183 y_Pa_t ∈ qx_T := qx_in (List.mem_of_getElem? (i := 272) (by decide +kernel)) (by decide +kernel)
theorem mw_273 : Cond.static y_Pa_t ∈ qx_T := qx_in (List.mem_of_getElem? (i := 273) (by decide +kernel)) (by decide +kernel)
theorem mw_274 : Cond.code y_Pa_t b_Pa_t 1 (some .int) ∈ qx_T := qx_in (List.mem_of_getElem? (i := 274) (by decide +kernel)) (by decide +kernel)
theorem mw_275 : Cond.methodLink R_M 112 y_F_moveOn ∈ qx_T := qx_in (List.mem_of_getElem? (i := 275) (by decide +kernel)) (by decide +kernel)
theorem mw_276 : Cond.methodLink R_M 87 y_M_moveData ∈ qx_T := qx_in (List.mem_of_getElem? (i := 276) (by decide +kernel)) (by decide +kernel)
theorem mw_278 : Cond.instanceMethod y_M_moveData ∈ qx_T := qx_in (List.mem_of_getElem? (i := 278) (by decide +kernel)) (by decide +kernel)
theorem mw_279 : Cond.code y_M_moveData b_M_moveData 4 none ∈ qx_T := qx_in (List.mem_of_getElem? (i := 279) (by decide +kernel)) (by decide +kernel)
theorem mw_280 : Cond.methodLink R_M 123 y_M_valueS ∈ qx_T := qx_in (List.mem_of_getElem? (i := 280) (by decide +kernel)) (by decide +kernel)
theorem mw_282 : Cond.instanceMethod y_M_valueS ∈ qx_T := qx_in (List.mem_of_getElem? (i := 282) (by decide +kernel)) (by decide +kernel)
theorem mw_283 : Cond.code y_M_valueS b_M_valueS 2 (some .int) ∈ qx_T := qx_in (List.mem_of_getElem? (i := 283) (by decide +kernel)) (by decide +kernel)
theorem mw_284 : Cond.methodLink R_M 162 y_Pa_spaceRegister ∈ qx_T := qx_in (List.mem_of_getElem? (i := 284) (by decide +kernel)) (by decide +kernel)
theorem mw_285 : Cond.static y_Pa_spaceRegister ∈ qx_T := qx_in (List.mem_of_getElem? (i := 285) (by decide +kernel)) (by decide +kernel)
theorem mw_286 : Cond.code y_Pa_spaceRegister b_Pa_spaceRegister 1 (some .int) ∈ qx_T := qx_in (List.mem_of_getElem? (i := 286) (by decide +kernel)) (by decide +kernel)
theorem mw_288 : Cond.methodLink R_M 129 y_M_valueT ∈ qx_T := qx_in (List.mem_of_getElem? (i := 288) (by decide +kernel)) (by decide +kernel)
theorem mw_290 : Cond.instanceMethod y_M_valueT ∈ qx_T := qx_in (List.mem_of_getElem? (i := 290) (by decide +kernel)) (by decide +kernel)
theorem mw_291 : Cond.code y_M_valueT b_M_valueT 2 (some .int) ∈ qx_T := qx_in (List.mem_of_getElem? (i := 291) (by decide +kernel)) (by decide +kernel)
theorem mw_292 : Cond.methodLink R_M 90 y_M_branch ∈ qx_T := qx_in (List.mem_of_getElem? (i := 292) (by decide +kernel)) (by decide +kernel)
theorem mw_294 : Cond.instanceMethod y_M_branch ∈ qx_T := qx_in (List.mem_of_getElem? (i := 294) (by decide +kernel)) (by decide +kernel)
theorem mw_295 : Cond.code y_M_branch b_M_branch 6 none ∈ qx_T := qx_in (List.mem_of_getElem? (i := 295) (by decide +kernel)) (by decide +kernel)
theorem mw_296 : Cond.methodLink R_M 132 y_M_takesBranch ∈ qx_T := qx_in (List.mem_of_getElem? (i := 296) (by decide +kernel)) (by decide +kernel)
theorem mw_298 : Cond.instanceMethod y_M_takesBranch ∈ qx_T := qx_in (List.mem_of_getElem? (i := 298) (by decide +kernel)) (by decide +kernel)
theorem mw_299 : Cond.code y_M_takesBranch b_M_takesBranch 3 (some .boolean) ∈ qx_T := qx_in (List.mem_of_getElem? (i := 299) (by decide +kernel)) (by decide +kernel)
theorem mw_300 : Cond.methodLink R_M 136 y_M_targetOf ∈ qx_T := qx_in (List.mem_of_getElem? (i := 300) (by decide +kernel)) (by decide +kernel)
theorem mw_302 : Cond.instanceMethod y_M_targetOf ∈ qx_T := qx_in (List.mem_of_getElem? (i := 302) (by decide +kernel)) (by decide +kernel)
theorem mw_303 : Cond.code y_M_targetOf b_M_targetOf 4 (some .int) ∈ qx_T := qx_in (List.mem_of_getElem? (i := 303) (by decide +kernel)) (by decide +kernel)
theorem mw_304 : Cond.methodLink R_M 159 y_Pl_spaceOf ∈ qx_T := qx_in (List.mem_of_getElem? (i := 304) (by decide +kernel)) (by decide +kernel)
theorem mw_305 : Cond.methodLink R_M 145 y_Pl_offsetOf ∈ qx_T := qx_in (List.mem_of_getElem? (i := 305) (by decide +kernel)) (by decide +kernel)
theorem mw_306 : Cond.methodLink R_M 142 y_Pl_behind ∈ qx_T := qx_in (List.mem_of_getElem? (i := 306) (by decide +kernel)) (by decide +kernel)
theorem mw_307 : Cond.methodLink R_M 148 y_M_branchNullifies ∈ qx_T := qx_in (List.mem_of_getElem? (i := 307) (by decide +kernel)) (by decide +kernel)
theorem mw_308 : Cond.static y_M_branchNullifies ∈ qx_T := qx_in (List.mem_of_getElem? (i := 308) (by decide +kernel)) (by decide +kernel)
theorem mw_309 : Cond.code y_M_branchNullifies b_M_branchNullifies 3 (some .boolean) ∈ qx_T := qx_in (List.mem_of_getElem? (i := 309) (by decide +kernel)) (by decide +kernel)
theorem mw_310 : Cond.methodLink R_M 152 y_F_moveOnTo ∈ qx_T := qx_in (List.mem_of_getElem? (i := 310) (by decide +kernel)) (by decide +kernel)
theorem mw_311 : Cond.methodLink R_M 93 y_M_control ∈ qx_T := qx_in (List.mem_of_getElem? (i := 311) (by decide +kernel)) (by decide +kernel)
theorem mw_313 : Cond.instanceMethod y_M_control ∈ qx_T := qx_in (List.mem_of_getElem? (i := 313) (by decide +kernel)) (by decide +kernel)
theorem mw_314 : Cond.code y_M_control b_M_control 2 none ∈ qx_T := qx_in (List.mem_of_getElem? (i := 314) (by decide +kernel)) (by decide +kernel)
theorem mw_315 : Cond.methodLink R_M 168 y_M_savedThing ∈ qx_T := qx_in (List.mem_of_getElem? (i := 315) (by decide +kernel)) (by decide +kernel)
theorem mw_317 : Cond.instanceMethod y_M_savedThing ∈ qx_T := qx_in (List.mem_of_getElem? (i := 317) (by decide +kernel)) (by decide +kernel)
theorem mw_318 : Cond.code y_M_savedThing b_M_savedThing 2 (some .int) ∈ qx_T := qx_in (List.mem_of_getElem? (i := 318) (by decide +kernel)) (by decide +kernel)
theorem mw_319 : Cond.methodLink R_M 171 y_M_setSavedThing ∈ qx_T := qx_in (List.mem_of_getElem? (i := 319) (by decide +kernel)) (by decide +kernel)
theorem mw_321 : Cond.instanceMethod y_M_setSavedThing ∈ qx_T := qx_in (List.mem_of_getElem? (i := 321) (by decide +kernel)) (by decide +kernel)
theorem mw_322 : Cond.code y_M_setSavedThing b_M_setSavedThing 3 none ∈ qx_T := qx_in (List.mem_of_getElem? (i := 322) (by decide +kernel)) (by decide +kernel)
theorem mw_323 : Cond.methodLink R_L 46 y_Q_state ∈ qx_T := qx_in (List.mem_of_getElem? (i := 323) (by decide +kernel)) (by decide +kernel)
theorem mw_324 : Cond.instanceMethod y_Q_state ∈ qx_T := qx_in (List.mem_of_getElem? (i := 324) (by decide +kernel)) (by decide +kernel)
theorem mw_325 : Cond.selects R_Q y_Q_state y_Q_state ∈ qx_T := qx_in (List.mem_of_getElem? (i := 325) (by decide +kernel)) (by decide +kernel)
theorem mw_326 : Cond.code y_Q_state b_Q_state 2 (some .int) ∈ qx_T := qx_in (List.mem_of_getElem? (i := 326) (by decide +kernel)) (by decide +kernel)
theorem mw_327 : Cond.methodLink R_Q 86 y_Pl_spaceOf ∈ qx_T := qx_in (List.mem_of_getElem? (i := 327) (by decide +kernel)) (by decide +kernel)
theorem mw_328 : Cond.methodLink R_Q 90 y_Pl_offsetOf ∈ qx_T := qx_in (List.mem_of_getElem? (i := 328) (by decide +kernel)) (by decide +kernel)
theorem mw_329 : Cond.methodLink R_L 50 y_Q_register ∈ qx_T := qx_in (List.mem_of_getElem? (i := 329) (by decide +kernel)) (by decide +kernel)
theorem mw_330 : Cond.instanceMethod y_Q_register ∈ qx_T := qx_in (List.mem_of_getElem? (i := 330) (by decide +kernel)) (by decide +kernel)
theorem mw_331 : Cond.selects R_Q y_Q_register y_Q_register ∈ qx_T := qx_in (List.mem_of_getElem? (i := 331) (by decide +kernel)) (by decide +kernel)
theorem mw_332 : Cond.code y_Q_register b_Q_register 2 (some .int) ∈ qx_T := qx_in (List.mem_of_getElem? (i := 332) (by decide +kernel)) (by decide +kernel)
theorem mw_333 : Cond.methodLink R_L 54 y_Q_space ∈ qx_T := qx_in (List.mem_of_getElem? (i := 333) (by decide +kernel)) (by decide +kernel)
theorem mw_334 : Cond.instanceMethod y_Q_space ∈ qx_T := qx_in (List.mem_of_getElem? (i := 334) (by decide +kernel)) (by decide +kernel)
theorem mw_335 : Cond.selects R_Q y_Q_space y_Q_space ∈ qx_T := qx_in (List.mem_of_getElem? (i := 335) (by decide +kernel)) (by decide +kernel)
theorem mw_336 : Cond.code y_Q_space b_Q_space 2 (some .int) ∈ qx_T := qx_in (List.mem_of_getElem? (i := 336) (by decide +kernel)) (by decide +kernel)
theorem mw_337 : Cond.methodLink R_L 58 y_Q_word ∈ qx_T := qx_in (List.mem_of_getElem? (i := 337) (by decide +kernel)) (by decide +kernel)
theorem mw_338 : Cond.instanceMethod y_Q_word ∈ qx_T := qx_in (List.mem_of_getElem? (i := 338) (by decide +kernel)) (by decide +kernel)
theorem mw_339 : Cond.selects R_Q y_Q_word y_Q_word ∈ qx_T := qx_in (List.mem_of_getElem? (i := 339) (by decide +kernel)) (by decide +kernel)
theorem mw_340 : Cond.code y_Q_word b_Q_word 3 (some .int) ∈ qx_T := qx_in (List.mem_of_getElem? (i := 340) (by decide +kernel)) (by decide +kernel)
theorem mw_341 : Cond.methodLink R_L 63 y_Q_peek ∈ qx_T := qx_in (List.mem_of_getElem? (i := 341) (by decide +kernel)) (by decide +kernel)
theorem mw_342 : Cond.instanceMethod y_Q_peek ∈ qx_T := qx_in (List.mem_of_getElem? (i := 342) (by decide +kernel)) (by decide +kernel)
theorem mw_343 : Cond.selects R_Q y_Q_peek y_Q_peek ∈ qx_T := qx_in (List.mem_of_getElem? (i := 343) (by decide +kernel)) (by decide +kernel)
theorem mw_344 : Cond.code y_Q_peek b_Q_peek 3 (some .int) ∈ qx_T := qx_in (List.mem_of_getElem? (i := 344) (by decide +kernel)) (by decide +kernel)
theorem mw_345 : Cond.methodLink R_L 67 y_Q_count ∈ qx_T := qx_in (List.mem_of_getElem? (i := 345) (by decide +kernel)) (by decide +kernel)
theorem mw_346 : Cond.instanceMethod y_Q_count ∈ qx_T := qx_in (List.mem_of_getElem? (i := 346) (by decide +kernel)) (by decide +kernel)
theorem mw_347 : Cond.selects R_Q y_Q_count y_Q_count ∈ qx_T := qx_in (List.mem_of_getElem? (i := 347) (by decide +kernel)) (by decide +kernel)
theorem mw_348 : Cond.code y_Q_count b_Q_count 2 (some .int) ∈ qx_T := qx_in (List.mem_of_getElem? (i := 348) (by decide +kernel)) (by decide +kernel)
theorem mw_349 : Cond.methodLink R_L 71 y_Q_mark ∈ qx_T := qx_in (List.mem_of_getElem? (i := 349) (by decide +kernel)) (by decide +kernel)
theorem mw_350 : Cond.instanceMethod y_Q_mark ∈ qx_T := qx_in (List.mem_of_getElem? (i := 350) (by decide +kernel)) (by decide +kernel)
theorem mw_351 : Cond.selects R_Q y_Q_mark y_Q_mark ∈ qx_T := qx_in (List.mem_of_getElem? (i := 351) (by decide +kernel)) (by decide +kernel)
theorem mw_352 : Cond.code y_Q_mark b_Q_mark 1 none ∈ qx_T := qx_in (List.mem_of_getElem? (i := 352) (by decide +kernel)) (by decide +kernel)
theorem mw_353 : Cond.methodLink R_Q 108 y_M_become ∈ qx_T := qx_in (List.mem_of_getElem? (i := 353) (by decide +kernel)) (by decide +kernel)
theorem mw_354 : Cond.instanceMethod y_M_become ∈ qx_T := qx_in (List.mem_of_getElem? (i := 354) (by decide +kernel)) (by decide +kernel)
theorem mw_355 : Cond.selects R_M y_M_become y_M_become ∈ qx_T := qx_in (List.mem_of_getElem? (i := 355) (by decide +kernel)) (by decide +kernel)
theorem mw_356 : Cond.code y_M_become b_M_become 2 none ∈ qx_T := qx_in (List.mem_of_getElem? (i := 356) (by decide +kernel)) (by decide +kernel)
theorem mw_357 : Cond.methodLink R_M 42 arraycopyName ∈ qx_T := qx_in (List.mem_of_getElem? (i := 357) (by decide +kernel)) (by decide +kernel)
theorem mw_358 : Cond.static arraycopyName ∈ qx_T := qx_in (List.mem_of_getElem? (i := 358) (by decide +kernel)) (by decide +kernel)
theorem mw_359 : Cond.native arraycopyName ∈ qx_T := qx_in (List.mem_of_getElem? (i := 359) (by decide +kernel)) (by decide +kernel)
theorem mw_360 : Cond.methodLink R_L 75 y_Q_back ∈ qx_T := qx_in (List.mem_of_getElem? (i := 360) (by decide +kernel)) (by decide +kernel)
theorem mw_361 : Cond.instanceMethod y_Q_back ∈ qx_T := qx_in (List.mem_of_getElem? (i := 361) (by decide +kernel)) (by decide +kernel)
theorem mw_362 : Cond.selects R_Q y_Q_back y_Q_back ∈ qx_T := qx_in (List.mem_of_getElem? (i := 362) (by decide +kernel)) (by decide +kernel)
theorem mw_363 : Cond.code y_Q_back b_Q_back 1 (some .boolean) ∈ qx_T := qx_in (List.mem_of_getElem? (i := 363) (by decide +kernel)) (by decide +kernel)
theorem mw_364 : Cond.classLink R_L 10 R_X ∈ qx_T := qx_in (List.mem_of_getElem? (i := 364) (by decide +kernel)) (by decide +kernel)
theorem mw_365 : Cond.instantiable R_X 8 ∈ qx_T := qx_in (List.mem_of_getElem? (i := 365) (by decide +kernel)) (by decide +kernel)
theorem mw_366 : Cond.methodLink R_L 12 y_X_init ∈ qx_T := qx_in (List.mem_of_getElem? (i := 366) (by decide +kernel)) (by decide +kernel)
theorem mw_367 : Cond.instanceMethod y_X_init ∈ qx_T := qx_in (List.mem_of_getElem? (i := 367) (by decide +kernel)) (by decide +kernel)
theorem mw_368 : Cond.code y_X_init b_X_init 1 none ∈ qx_T := qx_in (List.mem_of_getElem? (i := 368) (by decide +kernel)) (by decide +kernel)
theorem mw_369 : Cond.methodLink R_X 1 objectInit ∈ qx_T := qx_in (List.mem_of_getElem? (i := 369) (by decide +kernel)) (by decide +kernel)
theorem mw_370 : Cond.fieldLink R_X 7 "QueuedFrontsModel" "now" "[I" ∈ qx_T := qx_in (List.mem_of_getElem? (i := 370) (by decide +kernel)) (by decide +kernel)
theorem mw_371 : Cond.fieldLink R_X 13 "QueuedFrontsModel" "then" "[I" ∈ qx_T := qx_in (List.mem_of_getElem? (i := 371) (by decide +kernel)) (by decide +kernel)
theorem mw_372 : Cond.fieldLink R_X 95 "QueuedFrontsModel" "marked" "Z" ∈ qx_T := qx_in (List.mem_of_getElem? (i := 372) (by decide +kernel)) (by decide +kernel)
theorem mw_373 : Cond.fieldLink R_X 16 "QueuedFrontsModel" "code" "[I" ∈ qx_T := qx_in (List.mem_of_getElem? (i := 373) (by decide +kernel)) (by decide +kernel)
theorem mw_374 : Cond.fieldLink R_X 19 "QueuedFrontsModel" "counts" "[I" ∈ qx_T := qx_in (List.mem_of_getElem? (i := 374) (by decide +kernel)) (by decide +kernel)
theorem mw_375 : Cond.fieldLink R_X 44 "QueuedFrontsModel" "nullifies" "Z" ∈ qx_T := qx_in (List.mem_of_getElem? (i := 375) (by decide +kernel)) (by decide +kernel)
theorem mw_376 : Cond.fieldLink R_X 48 "QueuedFrontsModel" "target" "I" ∈ qx_T := qx_in (List.mem_of_getElem? (i := 376) (by decide +kernel)) (by decide +kernel)
theorem mw_377 : Cond.fieldLink R_X 52 "QueuedFrontsModel" "stays" "Z" ∈ qx_T := qx_in (List.mem_of_getElem? (i := 377) (by decide +kernel)) (by decide +kernel)
theorem mw_395 : Cond.methodLink R_L 17 y_X_code ∈ qx_T := qx_in (List.mem_of_getElem? (i := 395) (by decide +kernel)) (by decide +kernel)
theorem mw_396 : Cond.instanceMethod y_X_code ∈ qx_T := qx_in (List.mem_of_getElem? (i := 396) (by decide +kernel)) (by decide +kernel)
theorem mw_397 : Cond.selects R_X y_X_code y_X_code ∈ qx_T := qx_in (List.mem_of_getElem? (i := 397) (by decide +kernel)) (by decide +kernel)
theorem mw_398 : Cond.code y_X_code b_X_code 4 (some .boolean) ∈ qx_T := qx_in (List.mem_of_getElem? (i := 398) (by decide +kernel)) (by decide +kernel)
theorem mw_399 : Cond.methodLink R_X 26 y_X_isIn ∈ qx_T := qx_in (List.mem_of_getElem? (i := 399) (by decide +kernel)) (by decide +kernel)
theorem mw_400 : Cond.static y_X_isIn ∈ qx_T := qx_in (List.mem_of_getElem? (i := 400) (by decide +kernel)) (by decide +kernel)
theorem mw_401 : Cond.code y_X_isIn b_X_isIn 2 (some .boolean) ∈ qx_T := qx_in (List.mem_of_getElem? (i := 401) (by decide +kernel)) (by decide +kernel)
theorem mw_402 : Cond.methodLink R_X 22 y_X_place ∈ qx_T := qx_in (List.mem_of_getElem? (i := 402) (by decide +kernel)) (by decide +kernel)
theorem mw_403 : Cond.static y_X_place ∈ qx_T := qx_in (List.mem_of_getElem? (i := 403) (by decide +kernel)) (by decide +kernel)
theorem mw_404 : Cond.code y_X_place b_X_place 2 (some .int) ∈ qx_T := qx_in (List.mem_of_getElem? (i := 404) (by decide +kernel)) (by decide +kernel)
theorem mw_405 : Cond.methodLink R_L 21 y_X_data ∈ qx_T := qx_in (List.mem_of_getElem? (i := 405) (by decide +kernel)) (by decide +kernel)
theorem mw_406 : Cond.instanceMethod y_X_data ∈ qx_T := qx_in (List.mem_of_getElem? (i := 406) (by decide +kernel)) (by decide +kernel)
theorem mw_407 : Cond.selects R_X y_X_data y_X_data ∈ qx_T := qx_in (List.mem_of_getElem? (i := 407) (by decide +kernel)) (by decide +kernel)
theorem mw_408 : Cond.code y_X_data b_X_data 4 (some .boolean) ∈ qx_T := qx_in (List.mem_of_getElem? (i := 408) (by decide +kernel)) (by decide +kernel)
theorem mw_409 : Cond.methodLink R_L 26 y_X_set ∈ qx_T := qx_in (List.mem_of_getElem? (i := 409) (by decide +kernel)) (by decide +kernel)
theorem mw_410 : Cond.instanceMethod y_X_set ∈ qx_T := qx_in (List.mem_of_getElem? (i := 410) (by decide +kernel)) (by decide +kernel)
theorem mw_411 : Cond.selects R_X y_X_set y_X_set ∈ qx_T := qx_in (List.mem_of_getElem? (i := 411) (by decide +kernel)) (by decide +kernel)
theorem mw_412 : Cond.code y_X_set b_X_set 3 (some .boolean) ∈ qx_T := qx_in (List.mem_of_getElem? (i := 412) (by decide +kernel)) (by decide +kernel)
theorem mw_413 : Cond.methodLink R_L 30 y_X_setSpace ∈ qx_T := qx_in (List.mem_of_getElem? (i := 413) (by decide +kernel)) (by decide +kernel)
theorem mw_414 : Cond.instanceMethod y_X_setSpace ∈ qx_T := qx_in (List.mem_of_getElem? (i := 414) (by decide +kernel)) (by decide +kernel)
theorem mw_415 : Cond.selects R_X y_X_setSpace y_X_setSpace ∈ qx_T := qx_in (List.mem_of_getElem? (i := 415) (by decide +kernel)) (by decide +kernel)
theorem mw_416 : Cond.code y_X_setSpace b_X_setSpace 3 (some .boolean) ∈ qx_T := qx_in (List.mem_of_getElem? (i := 416) (by decide +kernel)) (by decide +kernel)
theorem mw_417 : Cond.methodLink R_L 35 y_X_go ∈ qx_T := qx_in (List.mem_of_getElem? (i := 417) (by decide +kernel)) (by decide +kernel)
theorem mw_418 : Cond.instanceMethod y_X_go ∈ qx_T := qx_in (List.mem_of_getElem? (i := 418) (by decide +kernel)) (by decide +kernel)
theorem mw_419 : Cond.selects R_X y_X_go y_X_go ∈ qx_T := qx_in (List.mem_of_getElem? (i := 419) (by decide +kernel)) (by decide +kernel)
theorem mw_420 : Cond.code y_X_go b_X_go 4 (some .boolean) ∈ qx_T := qx_in (List.mem_of_getElem? (i := 420) (by decide +kernel)) (by decide +kernel)
theorem mw_421 : Cond.methodLink R_X 30 y_X_behind ∈ qx_T := qx_in (List.mem_of_getElem? (i := 421) (by decide +kernel)) (by decide +kernel)
theorem mw_422 : Cond.static y_X_behind ∈ qx_T := qx_in (List.mem_of_getElem? (i := 422) (by decide +kernel)) (by decide +kernel)
theorem mw_423 : Cond.code y_X_behind b_X_behind 1 (some .int) ∈ qx_T := qx_in (List.mem_of_getElem? (i := 423) (by decide +kernel)) (by decide +kernel)
theorem mw_424 : Cond.methodLink R_L 40 y_X_interrupt ∈ qx_T := qx_in (List.mem_of_getElem? (i := 424) (by decide +kernel)) (by decide +kernel)
theorem mw_425 : Cond.instanceMethod y_X_interrupt ∈ qx_T := qx_in (List.mem_of_getElem? (i := 425) (by decide +kernel)) (by decide +kernel)
theorem mw_426 : Cond.selects R_X y_X_interrupt y_X_interrupt ∈ qx_T := qx_in (List.mem_of_getElem? (i := 426) (by decide +kernel)) (by decide +kernel)
theorem mw_427 : Cond.code y_X_interrupt b_X_interrupt 2 (some .boolean) ∈ qx_T := qx_in (List.mem_of_getElem? (i := 427) (by decide +kernel)) (by decide +kernel)
theorem mw_428 : Cond.methodLink R_L 45 y_X_run ∈ qx_T := qx_in (List.mem_of_getElem? (i := 428) (by decide +kernel)) (by decide +kernel)
theorem mw_429 : Cond.instanceMethod y_X_run ∈ qx_T := qx_in (List.mem_of_getElem? (i := 429) (by decide +kernel)) (by decide +kernel)
theorem mw_430 : Cond.selects R_X y_X_run y_X_run ∈ qx_T := qx_in (List.mem_of_getElem? (i := 430) (by decide +kernel)) (by decide +kernel)
theorem mw_431 : Cond.code y_X_run b_X_run 4 (some .int) ∈ qx_T := qx_in (List.mem_of_getElem? (i := 431) (by decide +kernel)) (by decide +kernel)
theorem mw_432 : Cond.methodLink R_X 88 y_X_traps ∈ qx_T := qx_in (List.mem_of_getElem? (i := 432) (by decide +kernel)) (by decide +kernel)
theorem mw_434 : Cond.instanceMethod y_X_traps ∈ qx_T := qx_in (List.mem_of_getElem? (i := 434) (by decide +kernel)) (by decide +kernel)
theorem mw_435 : Cond.code y_X_traps b_X_traps 1 (some .int) ∈ qx_T := qx_in (List.mem_of_getElem? (i := 435) (by decide +kernel)) (by decide +kernel)
theorem mw_436 : Cond.methodLink R_X 92 y_X_step ∈ qx_T := qx_in (List.mem_of_getElem? (i := 436) (by decide +kernel)) (by decide +kernel)
theorem mw_438 : Cond.instanceMethod y_X_step ∈ qx_T := qx_in (List.mem_of_getElem? (i := 438) (by decide +kernel)) (by decide +kernel)
theorem mw_439 : Cond.code y_X_step b_X_step 1 none ∈ qx_T := qx_in (List.mem_of_getElem? (i := 439) (by decide +kernel)) (by decide +kernel)
theorem mw_440 : Cond.methodLink R_X 78 y_X_trap ∈ qx_T := qx_in (List.mem_of_getElem? (i := 440) (by decide +kernel)) (by decide +kernel)
theorem mw_442 : Cond.instanceMethod y_X_trap ∈ qx_T := qx_in (List.mem_of_getElem? (i := 442) (by decide +kernel)) (by decide +kernel)
theorem mw_443 : Cond.code y_X_trap b_X_trap 2 none ∈ qx_T := qx_in (List.mem_of_getElem? (i := 443) (by decide +kernel)) (by decide +kernel)
theorem mw_444 : Cond.methodLink R_X 82 y_X_moveOn ∈ qx_T := qx_in (List.mem_of_getElem? (i := 444) (by decide +kernel)) (by decide +kernel)
theorem mw_446 : Cond.instanceMethod y_X_moveOn ∈ qx_T := qx_in (List.mem_of_getElem? (i := 446) (by decide +kernel)) (by decide +kernel)
theorem mw_447 : Cond.code y_X_moveOn b_X_moveOn 2 none ∈ qx_T := qx_in (List.mem_of_getElem? (i := 447) (by decide +kernel)) (by decide +kernel)
theorem mw_448 : Cond.methodLink R_X 85 y_X_instruct ∈ qx_T := qx_in (List.mem_of_getElem? (i := 448) (by decide +kernel)) (by decide +kernel)
theorem mw_450 : Cond.instanceMethod y_X_instruct ∈ qx_T := qx_in (List.mem_of_getElem? (i := 450) (by decide +kernel)) (by decide +kernel)
theorem mw_451 : Cond.code y_X_instruct b_X_instruct 7 none ∈ qx_T := qx_in (List.mem_of_getElem? (i := 451) (by decide +kernel)) (by decide +kernel)
theorem mw_452 : Cond.methodLink R_X 64 y_X_reckon ∈ qx_T := qx_in (List.mem_of_getElem? (i := 452) (by decide +kernel)) (by decide +kernel)
theorem mw_454 : Cond.instanceMethod y_X_reckon ∈ qx_T := qx_in (List.mem_of_getElem? (i := 454) (by decide +kernel)) (by decide +kernel)
theorem mw_455 : Cond.code y_X_reckon b_X_reckon 10 (some .int) ∈ qx_T := qx_in (List.mem_of_getElem? (i := 455) (by decide +kernel)) (by decide +kernel)
theorem mw_456 : Cond.methodLink R_X 36 y_X_write ∈ qx_T := qx_in (List.mem_of_getElem? (i := 456) (by decide +kernel)) (by decide +kernel)
theorem mw_458 : Cond.instanceMethod y_X_write ∈ qx_T := qx_in (List.mem_of_getElem? (i := 458) (by decide +kernel)) (by decide +kernel)
theorem mw_459 : Cond.code y_X_write b_X_write 3 none ∈ qx_T := qx_in (List.mem_of_getElem? (i := 459) (by decide +kernel)) (by decide +kernel)
theorem mw_460 : Cond.methodLink R_X 40 y_X_holds ∈ qx_T := qx_in (List.mem_of_getElem? (i := 460) (by decide +kernel)) (by decide +kernel)
theorem mw_461 : Cond.static y_X_holds ∈ qx_T := qx_in (List.mem_of_getElem? (i := 461) (by decide +kernel)) (by decide +kernel)
theorem mw_462 : Cond.code y_X_holds b_X_holds 7 (some .boolean) ∈ qx_T := qx_in (List.mem_of_getElem? (i := 462) (by decide +kernel)) (by decide +kernel)
theorem mw_463 : Cond.constantLong R_X 34 4294967295 ∈ qx_T := qx_in (List.mem_of_getElem? (i := 463) (by decide +kernel)) (by decide +kernel)
theorem mw_464 : Cond.methodLink R_X 68 y_X_touch ∈ qx_T := qx_in (List.mem_of_getElem? (i := 464) (by decide +kernel)) (by decide +kernel)
theorem mw_466 : Cond.instanceMethod y_X_touch ∈ qx_T := qx_in (List.mem_of_getElem? (i := 466) (by decide +kernel)) (by decide +kernel)
theorem mw_467 : Cond.code y_X_touch b_X_touch 6 (some .int) ∈ qx_T := qx_in (List.mem_of_getElem? (i := 467) (by decide +kernel)) (by decide +kernel)
theorem mw_468 : Cond.methodLink R_X 72 y_X_branch ∈ qx_T := qx_in (List.mem_of_getElem? (i := 468) (by decide +kernel)) (by decide +kernel)
theorem mw_470 : Cond.instanceMethod y_X_branch ∈ qx_T := qx_in (List.mem_of_getElem? (i := 470) (by decide +kernel)) (by decide +kernel)
theorem mw_471 : Cond.code y_X_branch b_X_branch 12 (some .int) ∈ qx_T := qx_in (List.mem_of_getElem? (i := 471) (by decide +kernel)) (by decide +kernel)
theorem mw_472 : Cond.methodLink R_X 75 y_X_manage ∈ qx_T := qx_in (List.mem_of_getElem? (i := 472) (by decide +kernel)) (by decide +kernel)
theorem mw_474 : Cond.instanceMethod y_X_manage ∈ qx_T := qx_in (List.mem_of_getElem? (i := 474) (by decide +kernel)) (by decide +kernel)
theorem mw_475 : Cond.code y_X_manage b_X_manage 7 (some .int) ∈ qx_T := qx_in (List.mem_of_getElem? (i := 475) (by decide +kernel)) (by decide +kernel)
theorem mw_476 : Cond.methodLink R_X 55 y_X_comeBack ∈ qx_T := qx_in (List.mem_of_getElem? (i := 476) (by decide +kernel)) (by decide +kernel)
theorem mw_478 : Cond.instanceMethod y_X_comeBack ∈ qx_T := qx_in (List.mem_of_getElem? (i := 478) (by decide +kernel)) (by decide +kernel)
theorem mw_479 : Cond.code y_X_comeBack b_X_comeBack 1 none ∈ qx_T := qx_in (List.mem_of_getElem? (i := 479) (by decide +kernel)) (by decide +kernel)
theorem mw_480 : Cond.methodLink R_X 58 y_X_saved ∈ qx_T := qx_in (List.mem_of_getElem? (i := 480) (by decide +kernel)) (by decide +kernel)
theorem mw_482 : Cond.instanceMethod y_X_saved ∈ qx_T := qx_in (List.mem_of_getElem? (i := 482) (by decide +kernel)) (by decide +kernel)
theorem mw_483 : Cond.code y_X_saved b_X_saved 2 (some .int) ∈ qx_T := qx_in (List.mem_of_getElem? (i := 483) (by decide +kernel)) (by decide +kernel)
theorem mw_484 : Cond.methodLink R_X 61 y_X_save ∈ qx_T := qx_in (List.mem_of_getElem? (i := 484) (by decide +kernel)) (by decide +kernel)
theorem mw_486 : Cond.instanceMethod y_X_save ∈ qx_T := qx_in (List.mem_of_getElem? (i := 486) (by decide +kernel)) (by decide +kernel)
theorem mw_487 : Cond.code y_X_save b_X_save 3 none ∈ qx_T := qx_in (List.mem_of_getElem? (i := 487) (by decide +kernel)) (by decide +kernel)
theorem mw_488 : Cond.methodLink R_L 49 y_X_state ∈ qx_T := qx_in (List.mem_of_getElem? (i := 488) (by decide +kernel)) (by decide +kernel)
theorem mw_489 : Cond.instanceMethod y_X_state ∈ qx_T := qx_in (List.mem_of_getElem? (i := 489) (by decide +kernel)) (by decide +kernel)
theorem mw_490 : Cond.selects R_X y_X_state y_X_state ∈ qx_T := qx_in (List.mem_of_getElem? (i := 490) (by decide +kernel)) (by decide +kernel)
theorem mw_491 : Cond.code y_X_state b_X_state 2 (some .int) ∈ qx_T := qx_in (List.mem_of_getElem? (i := 491) (by decide +kernel)) (by decide +kernel)
theorem mw_492 : Cond.methodLink R_L 53 y_X_register ∈ qx_T := qx_in (List.mem_of_getElem? (i := 492) (by decide +kernel)) (by decide +kernel)
theorem mw_493 : Cond.instanceMethod y_X_register ∈ qx_T := qx_in (List.mem_of_getElem? (i := 493) (by decide +kernel)) (by decide +kernel)
theorem mw_494 : Cond.selects R_X y_X_register y_X_register ∈ qx_T := qx_in (List.mem_of_getElem? (i := 494) (by decide +kernel)) (by decide +kernel)
theorem mw_495 : Cond.code y_X_register b_X_register 2 (some .int) ∈ qx_T := qx_in (List.mem_of_getElem? (i := 495) (by decide +kernel)) (by decide +kernel)
theorem mw_496 : Cond.methodLink R_L 57 y_X_space ∈ qx_T := qx_in (List.mem_of_getElem? (i := 496) (by decide +kernel)) (by decide +kernel)
theorem mw_497 : Cond.instanceMethod y_X_space ∈ qx_T := qx_in (List.mem_of_getElem? (i := 497) (by decide +kernel)) (by decide +kernel)
theorem mw_498 : Cond.selects R_X y_X_space y_X_space ∈ qx_T := qx_in (List.mem_of_getElem? (i := 498) (by decide +kernel)) (by decide +kernel)
theorem mw_499 : Cond.code y_X_space b_X_space 2 (some .int) ∈ qx_T := qx_in (List.mem_of_getElem? (i := 499) (by decide +kernel)) (by decide +kernel)
theorem mw_500 : Cond.methodLink R_L 62 y_X_word ∈ qx_T := qx_in (List.mem_of_getElem? (i := 500) (by decide +kernel)) (by decide +kernel)
theorem mw_501 : Cond.instanceMethod y_X_word ∈ qx_T := qx_in (List.mem_of_getElem? (i := 501) (by decide +kernel)) (by decide +kernel)
theorem mw_502 : Cond.selects R_X y_X_word y_X_word ∈ qx_T := qx_in (List.mem_of_getElem? (i := 502) (by decide +kernel)) (by decide +kernel)
theorem mw_503 : Cond.code y_X_word b_X_word 3 (some .int) ∈ qx_T := qx_in (List.mem_of_getElem? (i := 503) (by decide +kernel)) (by decide +kernel)
theorem mw_504 : Cond.methodLink R_L 66 y_X_peek ∈ qx_T := qx_in (List.mem_of_getElem? (i := 504) (by decide +kernel)) (by decide +kernel)
theorem mw_505 : Cond.instanceMethod y_X_peek ∈ qx_T := qx_in (List.mem_of_getElem? (i := 505) (by decide +kernel)) (by decide +kernel)
theorem mw_506 : Cond.selects R_X y_X_peek y_X_peek ∈ qx_T := qx_in (List.mem_of_getElem? (i := 506) (by decide +kernel)) (by decide +kernel)
theorem mw_507 : Cond.code y_X_peek b_X_peek 3 (some .int) ∈ qx_T := qx_in (List.mem_of_getElem? (i := 507) (by decide +kernel)) (by decide +kernel)
theorem mw_508 : Cond.methodLink R_L 70 y_X_count ∈ qx_T := qx_in (List.mem_of_getElem? (i := 508) (by decide +kernel)) (by decide +kernel)
theorem mw_509 : Cond.instanceMethod y_X_count ∈ qx_T := qx_in (List.mem_of_getElem? (i := 509) (by decide +kernel)) (by decide +kernel)
theorem mw_510 : Cond.selects R_X y_X_count y_X_count ∈ qx_T := qx_in (List.mem_of_getElem? (i := 510) (by decide +kernel)) (by decide +kernel)
theorem mw_511 : Cond.code y_X_count b_X_count 2 (some .int) ∈ qx_T := qx_in (List.mem_of_getElem? (i := 511) (by decide +kernel)) (by decide +kernel)
theorem mw_512 : Cond.methodLink R_L 74 y_X_mark ∈ qx_T := qx_in (List.mem_of_getElem? (i := 512) (by decide +kernel)) (by decide +kernel)
theorem mw_513 : Cond.instanceMethod y_X_mark ∈ qx_T := qx_in (List.mem_of_getElem? (i := 513) (by decide +kernel)) (by decide +kernel)
theorem mw_514 : Cond.selects R_X y_X_mark y_X_mark ∈ qx_T := qx_in (List.mem_of_getElem? (i := 514) (by decide +kernel)) (by decide +kernel)
theorem mw_515 : Cond.code y_X_mark b_X_mark 2 none ∈ qx_T := qx_in (List.mem_of_getElem? (i := 515) (by decide +kernel)) (by decide +kernel)
theorem mw_516 : Cond.methodLink R_L 78 y_X_back ∈ qx_T := qx_in (List.mem_of_getElem? (i := 516) (by decide +kernel)) (by decide +kernel)
theorem mw_517 : Cond.instanceMethod y_X_back ∈ qx_T := qx_in (List.mem_of_getElem? (i := 517) (by decide +kernel)) (by decide +kernel)
theorem mw_518 : Cond.selects R_X y_X_back y_X_back ∈ qx_T := qx_in (List.mem_of_getElem? (i := 518) (by decide +kernel)) (by decide +kernel)
theorem mw_519 : Cond.code y_X_back b_X_back 2 (some .boolean) ∈ qx_T := qx_in (List.mem_of_getElem? (i := 519) (by decide +kernel)) (by decide +kernel)
theorem mw_0 : Cond.selects R_Q y_Q_step y_Q_step ∈ qx_T := qx_in (List.mem_of_getElem? (i := 0) (by decide +kernel)) (by decide +kernel)
theorem mw_1 : Cond.selects R_Q y_Q_trap y_Q_trap ∈ qx_T := qx_in (List.mem_of_getElem? (i := 1) (by decide +kernel)) (by decide +kernel)
theorem mw_2 : Cond.selects R_M y_M_valueA y_M_valueA ∈ qx_T := qx_in (List.mem_of_getElem? (i := 2) (by decide +kernel)) (by decide +kernel)
theorem mw_3 : Cond.selects R_M y_M_valueB y_M_valueB ∈ qx_T := qx_in (List.mem_of_getElem? (i := 3) (by decide +kernel)) (by decide +kernel)
theorem mw_4 : Cond.selects R_M y_M_reckon y_M_reckon ∈ qx_T := qx_in (List.mem_of_getElem? (i := 4) (by decide +kernel)) (by decide +kernel)
theorem mw_5 : Cond.selects R_M y_M_setT y_M_setT ∈ qx_T := qx_in (List.mem_of_getElem? (i := 5) (by decide +kernel)) (by decide +kernel)
theorem mw_6 : Cond.selects R_M y_M_moveData y_M_moveData ∈ qx_T := qx_in (List.mem_of_getElem? (i := 6) (by decide +kernel)) (by decide +kernel)
theorem mw_7 : Cond.selects R_M y_M_valueS y_M_valueS ∈ qx_T := qx_in (List.mem_of_getElem? (i := 7) (by decide +kernel)) (by decide +kernel)
theorem mw_8 : Cond.selects R_M y_M_valueT y_M_valueT ∈ qx_T := qx_in (List.mem_of_getElem? (i := 8) (by decide +kernel)) (by decide +kernel)
theorem mw_9 : Cond.selects R_M y_M_branch y_M_branch ∈ qx_T := qx_in (List.mem_of_getElem? (i := 9) (by decide +kernel)) (by decide +kernel)
theorem mw_10 : Cond.selects R_M y_M_takesBranch y_M_takesBranch ∈ qx_T := qx_in (List.mem_of_getElem? (i := 10) (by decide +kernel)) (by decide +kernel)
theorem mw_11 : Cond.selects R_M y_M_targetOf y_M_targetOf ∈ qx_T := qx_in (List.mem_of_getElem? (i := 11) (by decide +kernel)) (by decide +kernel)
theorem mw_12 : Cond.selects R_M y_M_control y_M_control ∈ qx_T := qx_in (List.mem_of_getElem? (i := 12) (by decide +kernel)) (by decide +kernel)
theorem mw_13 : Cond.selects R_M y_M_savedThing y_M_savedThing ∈ qx_T := qx_in (List.mem_of_getElem? (i := 13) (by decide +kernel)) (by decide +kernel)
theorem mw_14 : Cond.selects R_M y_M_setSavedThing y_M_setSavedThing ∈ qx_T := qx_in (List.mem_of_getElem? (i := 14) (by decide +kernel)) (by decide +kernel)
theorem mw_15 : Cond.selects R_X y_X_traps y_X_traps ∈ qx_T := qx_in (List.mem_of_getElem? (i := 15) (by decide +kernel)) (by decide +kernel)
theorem mw_16 : Cond.selects R_X y_X_step y_X_step ∈ qx_T := qx_in (List.mem_of_getElem? (i := 16) (by decide +kernel)) (by decide +kernel)
theorem mw_17 : Cond.selects R_X y_X_trap y_X_trap ∈ qx_T := qx_in (List.mem_of_getElem? (i := 17) (by decide +kernel)) (by decide +kernel)
theorem mw_18 : Cond.selects R_X y_X_moveOn y_X_moveOn ∈ qx_T := qx_in (List.mem_of_getElem? (i := 18) (by decide +kernel)) (by decide +kernel)
theorem mw_19 : Cond.selects R_X y_X_instruct y_X_instruct ∈ qx_T := qx_in (List.mem_of_getElem? (i := 19) (by decide +kernel)) (by decide +kernel)
theorem mw_20 : Cond.selects R_X y_X_reckon y_X_reckon ∈ qx_T := qx_in (List.mem_of_getElem? (i := 20) (by decide +kernel)) (by decide +kernel)
theorem mw_21 : Cond.selects R_X y_X_write y_X_write ∈ qx_T := qx_in (List.mem_of_getElem? (i := 21) (by decide +kernel)) (by decide +kernel)
theorem mw_22 : Cond.selects R_X y_X_touch y_X_touch ∈ qx_T := qx_in (List.mem_of_getElem? (i := 22) (by decide +kernel)) (by decide +kernel)
theorem mw_23 : Cond.selects R_X y_X_branch y_X_branch ∈ qx_T := qx_in (List.mem_of_getElem? (i := 23) (by decide +kernel)) (by decide +kernel)
theorem mw_24 : Cond.selects R_X y_X_manage y_X_manage ∈ qx_T := qx_in (List.mem_of_getElem? (i := 24) (by decide +kernel)) (by decide +kernel)
theorem mw_25 : Cond.selects R_X y_X_comeBack y_X_comeBack ∈ qx_T := qx_in (List.mem_of_getElem? (i := 25) (by decide +kernel)) (by decide +kernel)
theorem mw_26 : Cond.selects R_X y_X_saved y_X_saved ∈ qx_T := qx_in (List.mem_of_getElem? (i := 26) (by decide +kernel)) (by decide +kernel)
theorem mw_27 : Cond.selects R_X y_X_save y_X_save ∈ qx_T := qx_in (List.mem_of_getElem? (i := 27) (by decide +kernel)) (by decide +kernel)
end
section
def qx_ad (ws : va_W) : Nat → Prop := fun q => ∃ (k : Nat) (e : va_E), ws[k]? = some (q, e)
def qx_Pc (D : va_G) (cl : List vw_C) (tys : List (ClassId × FieldType)) (wc : va_W) (av : List Value) : Array Value → State → Prop := va_Pc av (fun U => va_P D cl wc U.heap ∧ va_K D cl tys U ∧ qn U ∧ va_D (fun _ => True) wc)
def qx_Q (D : va_G) (cl : List vw_C) (w1 : va_W) (A : Nat → Prop) (v : Option Value) : Array Value → State → Outcome → State → Prop := fun _ st oc t => oc = .returned v ∧ va_P D cl w1 t.heap ∧ va_F A st t
def qx_ix : List Nat → Nat → Option Nat
  | [], _ => none
  | a :: l, j => if a = j then some 0 else (qx_ix l j).map (· + 1)
theorem qx_ix_none : ∀ (l : List Nat) (j : Nat), qx_ix l j = none → j ∉ l
  | [], _, _ => List.not_mem_nil
  | a :: l, j, h => by
    intro hm
    simp only [qx_ix] at h
    by_cases e : a = j
    · rw [if_pos e] at h; cases h
    · rw [if_neg e] at h
      have h2 : qx_ix l j = none := by cases hq : qx_ix l j with
        | none => rfl
        | some i => rw [hq] at h; cases h
      rcases List.mem_cons.mp hm with h3 | h3
      · exact e h3.symm
      · exact qx_ix_none l j h2 h3
theorem qx_at {ws w : va_W} {is : List Nat} (hs : is.map (fun i => ws[i]?) = w.map some) (k : Nat) (q : Nat × va_E) (hq : w[k]? = some q) : ∃ i, is[k]? = some i ∧ ws[i]? = some q := by
  have h1 : (is.map (fun i => ws[i]?))[k]? = some (some q) := by rw [hs, List.getElem?_map, hq]; rfl
  rw [List.getElem?_map] at h1
  cases hi : is[k]? with
  | none => rw [hi] at h1; cases h1
  | some i => rw [hi] at h1; exact ⟨i, rfl, Option.some.inj h1⟩
theorem qx_P_sub {D : va_G} {cl : List vw_C} {ws w : va_W} {H : Heap} (hP : va_P D cl ws H) (is : List Nat) (hs : is.map (fun i => ws[i]?) = w.map some) : va_P D cl w H := by
  intro k q hq
  obtain ⟨i, -, h2⟩ := qx_at hs k q hq
  exact hP i q h2
theorem qx_ad_in {A : Nat → Prop} {ws wc : va_W} (hD : va_D A ws) (is : List Nat) (hs : is.map (fun i => ws[i]?) = wc.map some) (q : Nat) (h : qx_ad wc q) : A q := by
  obtain ⟨k, e, hk⟩ := h
  obtain ⟨i, -, h2⟩ := qx_at hs k _ hk
  exact hD.2 i _ h2
theorem qx_join {A : Nat → Prop} {D : va_G} {cl : List vw_C} {ws wc w1 wn : va_W} {H H1 : Heap} (hP : va_P D cl ws H) (hD : va_D A ws) (isC : List Nat) (hC : isC.map (fun i => ws[i]?) = wc.map some) (hP1 : va_P D cl w1 H1) (hk : ∀ q : Nat, q < H.size → ¬ qx_ad wc q → H1[q]? = H[q]?)
    (hnew : (List.range wn.length).map (fun j => match qx_ix isC j with | some i => w1[i]? | none => ws[j]?) = wn.map some) (hadr : wn.map Prod.fst = ws.map Prod.fst) : va_P D cl wn H1 ∧ va_D A wn := by
  have adr : ∀ (i : Nat) (q : Nat × va_E), wn[i]? = some q → ∃ e : va_E, ws[i]? = some (q.1, e) := by
    intro i q hq
    have h1 : (wn.map Prod.fst)[i]? = some q.1 := by rw [List.getElem?_map, hq]; rfl
    rw [hadr, List.getElem?_map] at h1
    cases hi : ws[i]? with
    | none => rw [hi] at h1; cases h1
    | some x =>
      rw [hi] at h1
      have h2 : x.1 = q.1 := Option.some.inj h1
      exact ⟨x.2, by rw [← h2]⟩
  refine ⟨fun k q hq => ?_, fun i j x y hi hj hxy => ?_, fun k q hq => ?_⟩
  · have hlt : k < wn.length := (List.getElem?_eq_some_iff.mp hq).1
    have h1 : ((List.range wn.length).map (fun j => match qx_ix isC j with | some i => w1[i]? | none => ws[j]?))[k]? = some (some q) := by rw [hnew, List.getElem?_map, hq]; rfl
    rw [List.getElem?_map, List.getElem?_range hlt] at h1
    have h2 : (match qx_ix isC k with | some i => w1[i]? | none => ws[k]?) = some q := Option.some.inj h1
    cases hx : qx_ix isC k with
    | some i =>
      rw [hx] at h2
      exact hP1 i q h2
    | none =>
      rw [hx] at h2
      have h3 : ws[k]? = some q := h2
      refine (hP k q h3).kept (hk q.1 (hP k q h3).lt ?_)
      rintro ⟨i, e, hi⟩
      obtain ⟨j, h4, h5⟩ := qx_at hC i _ hi
      have h6 := hD.1 k j q (q.1, e) h3 h5 rfl
      subst h6
      exact qx_ix_none isC k hx (List.mem_of_getElem? h4)
  · obtain ⟨e1, h1⟩ := adr i x hi
    obtain ⟨e2, h2⟩ := adr j y hj
    exact hD.1 i j _ _ h1 h2 hxy
  · obtain ⟨e1, h1⟩ := adr k q hq
    exact hD.2 k (q.1, e1) h1
theorem qx_blind {D : va_G} {cl : List vw_C} {tys : List (ClassId × FieldType)} {wc : va_W} {av : List Value} : FrameBlind (qx_Pc D cl tys wc av) := fun a U g mk q => by
  obtain ⟨q0, qP, qK, qN, qD⟩ := q
  exact ⟨q0, qP, va_K.moved (u := U) (U := U.calling g mk a) (Vm.Alike.refl U.vm) qK, qn_same (U := U.calling g mk a) rfl qN, qD⟩
section QxCalls
variable {p : Program} {l : Launch} {e : Env} {R : Room} {s : State} {m : MethodId} {args : Array Value} {below : List Frame} {meth : Method} {c : Code} {H H0 : Heap} {locs : List Loc} {cells slots : Nat} {Q : State → Prop} {D : va_G} {cl : List vw_C} {tys : List (ClassId × FieldType)} {A : Nat → Prop} {ws wc w1 wn : va_W} {a : Array Value} {pc : Nat} {ls : Array Slot} {st0 rest As : List Value}
theorem qx_preS (hP : va_P D cl ws H) (hD : va_D A ws) (hK : va_K D cl tys s) (hN : qn s) (isC : List Nat) (hn : va_nd isC = true) (hC : isC.map (fun i => ws[i]?) = wc.map some) : PreS s H (qx_Pc D cl tys wc As) As :=
  ⟨qx_blind, fun U hU hW => ⟨rfl, by rw [hU]; exact qx_P_sub hP isC hC, va_K.moved hW.alike hK, qn_warm hW hN, (hD.sub isC hn hC).weaken (fun _ _ _ _ => trivial)⟩⟩
theorem qx_preV {b q0 ci : Nat} {q : vw_C} {fs : List Value} (hP : va_P D cl ws H) (hD : va_D A ws) (hK : va_K D cl tys s) (hN : qn s) (isC : List Nat) (hn : va_nd isC = true) (hC : isC.map (fun i => ws[i]?) = wc.map some) (hc : cl[ci]? = some q) (he : ws[q0]? = some (b, .inr (ci, fs))) : PreV s H q.1 b (qx_Pc D cl tys wc (.ref b :: As)) As :=
  ⟨qx_blind, va_recv hK hP hc he, fun U hU hW => ⟨rfl, by rw [hU]; exact qx_P_sub hP isC hC, va_K.moved hW.alike hK, qn_warm hW hN, (hD.sub isC hn hC).weaken (fun _ _ _ _ => trivial)⟩⟩
/-- behind the call of a contract that reads alone -/
theorem qx_rd {r : Value} (hr : va_Run p l e R s m args below meth c H locs cells slots 0 0 (F0 m pc ls st0) rest (k2_QcV r a) (fun _ => False)) (kk : W p l e R s m args below meth c H locs cells slots Q (F0 m (pc + 3) ls (r :: rest))) : W p l e R s m args below meth c H locs cells slots Q (F0 m pc ls st0) := W.callV hr.run kk
/-- behind the call of a contract that writes -/
theorem qx_mu {v : Option Value} (hr : va_Run p l e R s m args below meth c H locs cells slots 0 0 (F0 m pc ls st0) rest (qx_Q D cl w1 (qx_ad wc) v a) (qx_ad wc)) (hP : va_P D cl ws H) (hD : va_D A ws) (hS : va_S A H0 H locs) (isC : List Nat) (hC : isC.map (fun i => ws[i]?) = wc.map some)
    (hnew : (List.range wn.length).map (fun j => match qx_ix isC j with | some i => w1[i]? | none => ws[j]?) = wn.map some) (adr : List Nat) (had1 : wn.map Prod.fst = adr) (had2 : ws.map Prod.fst = adr)
    (kk : ∀ (H1 : Heap) (locs1 : List Loc), va_P D cl wn H1 → va_D A wn → va_S A H0 H1 locs1 → W p l e R s m args below meth c H1 locs1 cells slots Q (F0 m (pc + 3) ls (v.toList ++ rest))) : W p l e R s m args below meth c H locs cells slots Q (F0 m pc ls st0) := by
  intro T hT X
  obtain ⟨v', st₀, t, T', L, h0, X', hL, e1, e2, ⟨hv, hP1, hz, hk⟩, st⟩ := hr T hT X
  cases hv
  rw [h0] at hz hk
  rw [← e1] at hP1 hz hk
  obtain ⟨j1, j2⟩ := qx_join hP hD isC hC hP1 hk hnew (had1.trans had2.symm)
  obtain ⟨t2, a1, b1⟩ := kk T'.heap (locs ++ L) j1 j2 ⟨Nat.le_trans hS.1 hz, fun q h1 h2 => by rw [hk q (Nat.lt_of_lt_of_le h1 hS.1) (fun z => h2 (qx_ad_in hD isC hC q z))]; exact hS.2.1 q h1 h2, fun q hq => by
      rcases List.mem_append.mp hq with h | h
      · exact hS.2.2 q h
      · exact qx_ad_in hD isC hC _ (hL q h)⟩ T' rfl X'
  exact ⟨t2, st t2 a1, b1⟩
/-- the same, the new state as a name -/
theorem qx_muZ {σ : Type} {T : σ} {Wf : σ → va_W} {vf : σ → Option Value} (hr : va_Run p l e R s m args below meth c H locs cells slots 0 0 (F0 m pc ls st0) rest (qx_Q D cl w1 (qx_ad wc) (vf T) a) (qx_ad wc)) (hP : va_P D cl ws H) (hD : va_D A ws) (hS : va_S A H0 H locs) (isC : List Nat) (hC : isC.map (fun i => ws[i]?) = wc.map some)
    (hnew : (List.range (Wf T).length).map (fun j => match qx_ix isC j with | some i => w1[i]? | none => ws[j]?) = (Wf T).map some) (adr : List Nat) (had1 : (Wf T).map Prod.fst = adr) (had2 : ws.map Prod.fst = adr)
    (kk : ∀ (z : σ), T = z → ∀ (H1 : Heap) (locs1 : List Loc), va_P D cl (Wf z) H1 → va_D A (Wf z) → va_S A H0 H1 locs1 → W p l e R s m args below meth c H1 locs1 cells slots Q (F0 m (pc + 3) ls ((vf z).toList ++ rest))) : W p l e R s m args below meth c H locs cells slots Q (F0 m pc ls st0) :=
  qx_mu hr hP hD hS isC hC hnew adr had1 had2 (kk T rfl)
theorem qx_kS {own : String} {idx maxL n : Nat} {y : MethodName} {bytes : ByteArray} {ret : Option FieldType} {rm : Room} (ht : ∀ w ∈ qx_T, w.before args s = true) (hl : Cond.methodLink own idx y ∈ qx_T) (hs : Cond.static y ∈ qx_T) (hi : Cond.initialized y.cls ∈ qx_T) (hc : Cond.code y bytes maxL ret ∈ qx_T)
    (hd : y.cls ≠ "java/lang/invoke/MethodHandle" ∧ y.cls ≠ "java/lang/invoke/VarHandle" ∧ (parseMethodDescriptor y.desc).map (fun d => d.parameters.length) = some n) (hR : rm.frames + 1 ≤ R.frames ∧ 8 + (maxL + 11) + rm.locals ≤ R.locals) : CallB R s args own idx y bytes maxL ret (Cond.code y bytes maxL ret :: qx_T) rm rm.cells rm.slots n ∧ (Cond.static y).before args s = true :=
  ⟨callB_of n ht (qx_good hc) rfl rfl rfl (ht _ hi) (ht _ hl) hd hR, ht _ hs⟩
theorem qx_kV {own : String} {idx maxL n : Nat} {y : MethodName} {bytes : ByteArray} {ret : Option FieldType} {rm : Room} (ht : ∀ w ∈ qx_T, w.before args s = true) (hl : Cond.methodLink own idx y ∈ qx_T) (hm : Cond.instanceMethod y ∈ qx_T) (hs : Cond.selects y.cls y y ∈ qx_T) (hi : Cond.initialized y.cls ∈ qx_T) (hc : Cond.code y bytes maxL ret ∈ qx_T)
    (hd : y.cls ≠ "java/lang/invoke/MethodHandle" ∧ y.cls ≠ "java/lang/invoke/VarHandle" ∧ (parseMethodDescriptor y.desc).map (fun d => d.parameters.length) = some n) (hR : rm.frames + 1 ≤ R.frames ∧ 8 + (maxL + 11) + rm.locals ≤ R.locals) : CallW R s args own y.cls idx y bytes maxL ret (Cond.code y bytes maxL ret :: qx_T) rm rm.cells rm.slots n :=
  ⟨callB_of n ht (qx_good hc) rfl rfl rfl (ht _ hi) (ht _ hl) hd hR, ht _ hm, ht _ hs⟩
theorem qx_kI {own : String} {idx maxL n : Nat} {y : MethodName} {bytes : ByteArray} {rm : Room} (ht : ∀ w ∈ qx_T, w.before args s = true) (hl : Cond.methodLink own idx y ∈ qx_T) (hm : Cond.instanceMethod y ∈ qx_T) (hi : Cond.initialized y.cls ∈ qx_T) (hc : Cond.code y bytes maxL none ∈ qx_T) (hy : y.name = "<init>")
    (hd : y.cls ≠ "java/lang/invoke/MethodHandle" ∧ y.cls ≠ "java/lang/invoke/VarHandle" ∧ (parseMethodDescriptor y.desc).map (fun d => d.parameters.length) = some n) (hR : rm.frames + 1 ≤ R.frames ∧ 8 + (maxL + 11) + rm.locals ≤ R.locals) : CallB R s args own idx y bytes maxL none (Cond.code y bytes maxL none :: qx_T) rm rm.cells rm.slots n ∧ y.name = "<init>" ∧ (Cond.instanceMethod y).before args s = true :=
  ⟨callB_of n ht (qx_good hc) rfl rfl rfl (ht _ hi) (ht _ hl) hd hR, hy, ht _ hm⟩
theorem qx_kSN {own host : String} {idx maxL n : Nat} {y : MethodName} {bytes : ByteArray} {ret : Option FieldType} {rm : Room} (ht : ∀ w ∈ qx_T, w.before args s = true) (hl : va_Nw (.methodLinkNest own idx y host) s) (hs : Cond.static y ∈ qx_T) (hi : Cond.initialized y.cls ∈ qx_T) (hc : Cond.code y bytes maxL ret ∈ qx_T)
    (hd : y.cls ≠ "java/lang/invoke/MethodHandle" ∧ y.cls ≠ "java/lang/invoke/VarHandle" ∧ (parseMethodDescriptor y.desc).map (fun d => d.parameters.length) = some n) (hR : rm.frames + 1 ≤ R.frames ∧ 8 + (maxL + 11) + rm.locals ≤ R.locals) : va_CN R s args own idx y host bytes maxL ret (Cond.code y bytes maxL ret :: qx_T) rm rm.cells rm.slots n ∧ (Cond.static y).before args s = true ∧ True :=
  ⟨va_cnB n ht (qx_good hc) rfl rfl rfl hl (ht _ hi) hd hR, ht _ hs, trivial⟩
theorem qx_kIN {own host : String} {idx maxL n : Nat} {y : MethodName} {bytes : ByteArray} {rm : Room} (ht : ∀ w ∈ qx_T, w.before args s = true) (hl : va_Nw (.methodLinkNest own idx y host) s) (hm : Cond.instanceMethod y ∈ qx_T) (hi : Cond.initialized y.cls ∈ qx_T) (hc : Cond.code y bytes maxL none ∈ qx_T) (hy : y.name = "<init>")
    (hd : y.cls ≠ "java/lang/invoke/MethodHandle" ∧ y.cls ≠ "java/lang/invoke/VarHandle" ∧ (parseMethodDescriptor y.desc).map (fun d => d.parameters.length) = some n) (hR : rm.frames + 1 ≤ R.frames ∧ 8 + (maxL + 11) + rm.locals ≤ R.locals) : va_CN R s args own idx y host bytes maxL none (Cond.code y bytes maxL none :: qx_T) rm rm.cells rm.slots n ∧ y.name = "<init>" ∧ (Cond.instanceMethod y).before args s = true :=
  ⟨va_cnB n ht (qx_good hc) rfl rfl rfl hl (ht _ hi) hd hR, hy, ht _ hm⟩
end QxCalls
theorem qx_one {D : va_G} {cl : List vw_C} {cA cB : ClassId} {s : State} (h : va_K D cl ([(cA, .int)] ++ [(cB, .int)]) s) : cB = cA := by
  have h1 := (h.2 0 (cA, .int) rfl).2
  have h2 := (h.2 1 (cB, .int) rfl).2
  exact Option.some.inj (h2.symm.trans h1)
end
section
abbrev qs_F : Type := Int32 × Int32 × Int32 × Int32
abbrev qs_M : Type := (Nat → Int32) × (Nat → Int32) × (Nat → Int32) × qs_F × qs_F × Int32 × Int32
abbrev qs_Q : Type := (Nat → Int32) × (Nat → Int32) × qs_M × qs_M × Int32
abbrev qs_X : Type := (Nat → Int32) × (Nat → Int32) × Int32 × (Nat → Int32) × (Nat → Int32) × Int32 × Int32 × Int32
abbrev qa (ad : Nat → Nat) (n : Nat) : Nat → Nat := fun k => ad (n + k)
abbrev qm_F_a (st : qs_F) (x : Int32) : qs_F := (x, st.2.1, st.2.2.1, st.2.2.2)
abbrev qm_F_b (st : qs_F) (x : Int32) : qs_F := (st.1, x, st.2.2.1, st.2.2.2)
abbrev qm_F_n (st : qs_F) (x : Int32) : qs_F := (st.1, st.2.1, x, st.2.2.2)
abbrev qm_F_l (st : qs_F) (x : Int32) : qs_F := (st.1, st.2.1, st.2.2.1, x)
abbrev qm_M_rg (st : qs_M) (x : Nat → Int32) : qs_M := (x, st.2.1, st.2.2.1, st.2.2.2.1, st.2.2.2.2.1, st.2.2.2.2.2.1, st.2.2.2.2.2.2)
abbrev qm_M_sp (st : qs_M) (x : Nat → Int32) : qs_M := (st.1, x, st.2.2.1, st.2.2.2.1, st.2.2.2.2.1, st.2.2.2.2.2.1, st.2.2.2.2.2.2)
abbrev qm_M_dt (st : qs_M) (x : Nat → Int32) : qs_M := (st.1, st.2.1, x, st.2.2.2.1, st.2.2.2.2.1, st.2.2.2.2.2.1, st.2.2.2.2.2.2)
abbrev qm_M_fl (st : qs_M) (x : qs_F) : qs_M := (st.1, st.2.1, st.2.2.1, x, st.2.2.2.2.1, st.2.2.2.2.2.1, st.2.2.2.2.2.2)
abbrev qm_M_sv (st : qs_M) (x : qs_F) : qs_M := (st.1, st.2.1, st.2.2.1, st.2.2.2.1, x, st.2.2.2.2.2.1, st.2.2.2.2.2.2)
abbrev qm_M_cs (st : qs_M) (x : Int32) : qs_M := (st.1, st.2.1, st.2.2.1, st.2.2.2.1, st.2.2.2.2.1, x, st.2.2.2.2.2.2)
abbrev qm_M_pd (st : qs_M) (x : Int32) : qs_M := (st.1, st.2.1, st.2.2.1, st.2.2.2.1, st.2.2.2.2.1, st.2.2.2.2.2.1, x)
abbrev qm_Q_co (st : qs_Q) (x : Nat → Int32) : qs_Q := (x, st.2.1, st.2.2.1, st.2.2.2.1, st.2.2.2.2)
abbrev qm_Q_cn (st : qs_Q) (x : Nat → Int32) : qs_Q := (st.1, x, st.2.2.1, st.2.2.2.1, st.2.2.2.2)
abbrev qm_Q_m (st : qs_Q) (x : qs_M) : qs_Q := (st.1, st.2.1, x, st.2.2.2.1, st.2.2.2.2)
abbrev qm_Q_k (st : qs_Q) (x : qs_M) : qs_Q := (st.1, st.2.1, st.2.2.1, x, st.2.2.2.2)
abbrev qm_Q_rm (st : qs_Q) (x : Int32) : qs_Q := (st.1, st.2.1, st.2.2.1, st.2.2.2.1, x)
abbrev qm_X_g (st : qs_X) (x : Nat → Int32) : qs_X := (x, st.2.1, st.2.2.1, st.2.2.2.1, st.2.2.2.2.1, st.2.2.2.2.2.1, st.2.2.2.2.2.2.1, st.2.2.2.2.2.2.2)
abbrev qm_X_h (st : qs_X) (x : Nat → Int32) : qs_X := (st.1, x, st.2.2.1, st.2.2.2.1, st.2.2.2.2.1, st.2.2.2.2.2.1, st.2.2.2.2.2.2.1, st.2.2.2.2.2.2.2)
abbrev qm_X_mk (st : qs_X) (x : Int32) : qs_X := (st.1, st.2.1, x, st.2.2.2.1, st.2.2.2.2.1, st.2.2.2.2.2.1, st.2.2.2.2.2.2.1, st.2.2.2.2.2.2.2)
abbrev qm_X_co (st : qs_X) (x : Nat → Int32) : qs_X := (st.1, st.2.1, st.2.2.1, x, st.2.2.2.2.1, st.2.2.2.2.2.1, st.2.2.2.2.2.2.1, st.2.2.2.2.2.2.2)
abbrev qm_X_cn (st : qs_X) (x : Nat → Int32) : qs_X := (st.1, st.2.1, st.2.2.1, st.2.2.2.1, x, st.2.2.2.2.2.1, st.2.2.2.2.2.2.1, st.2.2.2.2.2.2.2)
abbrev qm_X_nu (st : qs_X) (x : Int32) : qs_X := (st.1, st.2.1, st.2.2.1, st.2.2.2.1, st.2.2.2.2.1, x, st.2.2.2.2.2.2.1, st.2.2.2.2.2.2.2)
abbrev qm_X_tg (st : qs_X) (x : Int32) : qs_X := (st.1, st.2.1, st.2.2.1, st.2.2.2.1, st.2.2.2.2.1, st.2.2.2.2.2.1, x, st.2.2.2.2.2.2.2)
abbrev qm_X_sy (st : qs_X) (x : Int32) : qs_X := (st.1, st.2.1, st.2.2.1, st.2.2.2.1, st.2.2.2.2.1, st.2.2.2.2.2.1, st.2.2.2.2.2.2.1, x)
abbrev qw_F (h : Nat) (st : qs_F) : va_W := [(h, .inr (2, [.int st.1, .int st.2.1, .int st.2.2.1, .int st.2.2.2]))]
abbrev qw_M (ad : Nat → Nat) (cA : ClassId) (st : qs_M) : va_W := [(ad 0, .inr (1, [.ref (ad 1), .ref (ad 2), .ref (ad 3), .ref (ad 4), .ref (ad 5), .int st.2.2.2.2.2.1, .int st.2.2.2.2.2.2])), (ad 1, .inl (cA, 8, .inl st.1)), (ad 2, .inl (cA, 4, .inl st.2.1)), (ad 3, .inl (cA, 64, .inl st.2.2.1)), (ad 4, .inr (2, [.int st.2.2.2.1.1, .int st.2.2.2.1.2.1, .int st.2.2.2.1.2.2.1, .int st.2.2.2.1.2.2.2])), (ad 5, .inr (2, [.int st.2.2.2.2.1.1, .int st.2.2.2.2.1.2.1, .int st.2.2.2.2.1.2.2.1, .int st.2.2.2.2.1.2.2.2]))]
abbrev qw_Q (ad : Nat → Nat) (cA : ClassId) (st : qs_Q) : va_W := [(ad 0, .inr (0, [.ref (ad 1), .ref (ad 2), .ref (ad 3), .ref (ad 9), .int st.2.2.2.2])), (ad 1, .inl (cA, 128, .inl st.1)), (ad 2, .inl (cA, 7, .inl st.2.1)), (ad 3, .inr (1, [.ref (ad 4), .ref (ad 5), .ref (ad 6), .ref (ad 7), .ref (ad 8), .int st.2.2.1.2.2.2.2.2.1, .int st.2.2.1.2.2.2.2.2.2])), (ad 4, .inl (cA, 8, .inl st.2.2.1.1)), (ad 5, .inl (cA, 4, .inl st.2.2.1.2.1)), (ad 6, .inl (cA, 64, .inl st.2.2.1.2.2.1)), (ad 7, .inr (2, [.int st.2.2.1.2.2.2.1.1, .int st.2.2.1.2.2.2.1.2.1, .int st.2.2.1.2.2.2.1.2.2.1, .int st.2.2.1.2.2.2.1.2.2.2])), (ad 8, .inr (2, [.int st.2.2.1.2.2.2.2.1.1, .int st.2.2.1.2.2.2.2.1.2.1, .int st.2.2.1.2.2.2.2.1.2.2.1, .int st.2.2.1.2.2.2.2.1.2.2.2])), (ad 9, .inr (1, [.ref (ad 10), .ref (ad 11), .ref (ad 12), .ref (ad 13), .ref (ad 14), .int st.2.2.2.1.2.2.2.2.2.1, .int st.2.2.2.1.2.2.2.2.2.2])), (ad 10, .inl (cA, 8, .inl st.2.2.2.1.1)), (ad 11, .inl (cA, 4, .inl st.2.2.2.1.2.1)), (ad 12, .inl (cA, 64, .inl st.2.2.2.1.2.2.1)), (ad 13, .inr (2, [.int st.2.2.2.1.2.2.2.1.1, .int st.2.2.2.1.2.2.2.1.2.1, .int st.2.2.2.1.2.2.2.1.2.2.1, .int st.2.2.2.1.2.2.2.1.2.2.2])), (ad 14, .inr (2, [.int st.2.2.2.1.2.2.2.2.1.1, .int st.2.2.2.1.2.2.2.2.1.2.1, .int st.2.2.2.1.2.2.2.2.1.2.2.1, .int st.2.2.2.1.2.2.2.2.1.2.2.2]))]
abbrev qw_X (ad : Nat → Nat) (cA : ClassId) (st : qs_X) : va_W := [(ad 0, .inr (3, [.ref (ad 1), .ref (ad 2), .int st.2.2.1, .ref (ad 3), .ref (ad 4), .int st.2.2.2.2.2.1, .int st.2.2.2.2.2.2.1, .int st.2.2.2.2.2.2.2])), (ad 1, .inl (cA, 86, .inl st.1)), (ad 2, .inl (cA, 86, .inl st.2.1)), (ad 3, .inl (cA, 128, .inl st.2.2.2.1)), (ad 4, .inl (cA, 7, .inl st.2.2.2.2.1))]
/-! numbers: what stands in an index, what is 0 or 1 -/
def qf_ush (x y : Int32) : Int32 := (x.toUInt32 >>> (y.toUInt32 &&& Int32.toUInt32 31)).toInt32
def qb (x : Int32) : Prop := x = 0 ∨ x = 1
theorem qb_nar {x : Int32} (h : qb x) : narrow .boolean (.int x) = .int x := by
  rcases h with rfl | rfl <;> rfl
theorem qb_fit {x : Int32} (h : qb x) : fits .boolean (.int x) = true := by
  rcases h with rfl | rfl <;> rfl
theorem qb_0 : qb 0 := Or.inl rfl
theorem qb_1 : qb 1 := Or.inr rfl
theorem qb_ite {c : Prop} [Decidable c] {x y : Int32} (hx : qb x) (hy : qb y) : qb (if c then x else y) := by
  by_cases h : c
  · rw [if_pos h]; exact hx
  · rw [if_neg h]; exact hy
theorem qi_of_nI {a : Int32} {k : Nat} (h : a.toInt = k) (hk : k < 2 ^ 31) : a = nI k := Int32.toInt_inj.mp (by rw [h, nI_toInt hk])
theorem qi_and1 (x : Int32) : vp_in (x &&& 1) 2 := pk_andIn x 1 (by decide) (by decide)
theorem qi_and3 (x : Int32) : vp_in (x &&& 3) 4 := pk_andIn x 2 (by decide) (by decide)
theorem qi_and7 (x : Int32) : vp_in (x &&& 7) 8 := pk_andIn x 3 (by decide) (by decide)
theorem qi_and31 (x : Int32) : vp_in (x &&& 31) 32 := pk_andIn x 5 (by decide) (by decide)
theorem qi_wide {x : Int32} {n N : Nat} (h : vp_in x n) (hN : n ≤ N) : vp_in x N := by
  rw [vp_in_iff] at h ⊢
  omega
theorem qi_add {a x : Int32} {n : Nat} (k N : Nat) (ha : a.toInt = k) (hx : vp_in x n) (h : k + n ≤ N) (hN : N < 2 ^ 31) : vp_in (a + x) N := by
  obtain ⟨j, hj, rfl⟩ := vp_in_of hx (by omega)
  rw [qi_of_nI ha (by omega), nI_add]
  exact vp_in_nI (by omega) hN
theorem qi_mul {a x : Int32} {n : Nat} (k N : Nat) (ha : a.toInt = k) (hx : vp_in x n) (h : k * n ≤ N) (h0 : 0 < k) (hn : n < 2 ^ 31) (hN : N < 2 ^ 31) : vp_in (a * x) N := by
  obtain ⟨j, hj, rfl⟩ := vp_in_of hx hn
  rw [qi_of_nI ha (by
    have : k * 1 ≤ k * n := Nat.mul_le_mul_left k (by omega)
    omega), pk_mul]
  refine vp_in_nI ?_ hN
  have : k * j < k * n := Nat.mul_lt_mul_of_pos_left hj h0
  omega
/-- a place of space and offset, as an index -/
theorem qi_row {x y : Int32} {a b : Nat} (k N : Nat) (hx : vp_in x a) (hy : vp_in y b) (hb : b ≤ k) (hk : k < 2 ^ 20) (ha : a < 2 ^ 10) (hN : a * k ≤ N) (hN2 : N < 2 ^ 31) {c : Int32} (hc : c.toInt = k) : vp_in (x * c + y) N := by
  obtain ⟨i, hi, rfl⟩ := vp_in_of hx (by omega)
  obtain ⟨j, hj, rfl⟩ := vp_in_of hy (by omega)
  rw [qi_of_nI hc (by omega), pk_mul, nI_add]
  refine vp_in_nI ?_ hN2
  have : i * k + k ≤ a * k := by
    have := Nat.mul_le_mul_right k (show i + 1 ≤ a from hi)
    rw [Nat.add_mul, Nat.one_mul] at this
    exact this
  omega
theorem qi_mulC (x y : Int32) : x * y = y * x := Int32.mul_comm x y
theorem qi_lit {x : Int32} {n : Nat} (h : decide (¬ (x < 0 ∨ n ≤ x.toNatClampNeg)) = true) : vp_in x n := (of_decide_eq_true h : ¬ (x < 0 ∨ n ≤ x.toNatClampNeg))
theorem qi_lt {x : Int32} {n : Nat} (h : vp_in x n) : x.toNatClampNeg < n := Nat.lt_of_not_le (fun q => h (Or.inr q))
theorem qi_le {x : Int32} {n : Nat} {c : Int32} (hc : c.toInt = n) (h0 : ¬ x < 0) (h1 : ¬ c < x) : vp_in x (n + 1) := by
  rw [vp_in_iff]
  rw [Int32.lt_iff_toInt_lt] at h0 h1
  rw [hc] at h1
  have : (0 : Int32).toInt = 0 := rfl
  omega
theorem qi_ge {x : Int32} {n : Nat} {c : Int32} (hc : c.toInt = n) (h0 : ¬ x < 0) (h1 : ¬ c ≤ x) : vp_in x n := by
  rw [vp_in_iff]
  rw [Int32.lt_iff_toInt_lt] at h0
  rw [Int32.le_iff_toInt_le, hc] at h1
  have : (0 : Int32).toInt = 0 := rfl
  omega
theorem qi_ite {x c : Int32} {n : Nat} (hc : c.toInt = n) (h : ¬ (if x < 0 then (0 : Int32) else if c ≤ x then 0 else 1) = 0) : vp_in x n := by
  by_cases h0 : x < 0
  · rw [if_pos h0] at h; exact absurd rfl h
  · rw [if_neg h0] at h
    by_cases h1 : c ≤ x
    · rw [if_pos h1] at h; exact absurd rfl h
    · exact qi_ge hc h0 h1
theorem qi_if {c : Prop} [Decidable c] {x y : Int32} {n : Nat} (hx : vp_in x n) (hy : vp_in y n) : vp_in (if c then x else y) n := by
  by_cases h : c
  · rw [if_pos h]; exact hx
  · rw [if_neg h]; exact hy
end
section
def qf_Pl_of (x : Int32) (y : Int32) : Int32 :=
  (((x &&& 3) * 32) + (y &&& 31))
set_option maxHeartbeats 4000000 in
set_option maxRecDepth 100000 in
theorem c_Pl_of (l : Launch) (D : va_G) (cA : ClassId) (x : Int32) (y : Int32) : Met l y_Pl_of (Cond.code y_Pl_of b_Pl_of 2 (some .int) :: qx_T) ({ frames := 0, cells := 0, slots := 0, locals := 0 }) (qx_Pc D vwCl [(cA, .int)] ([]) [.int x, .int y]) (k2_QcV (.int (qf_Pl_of x y))) 0 0 (fun _ => False) := by
  refine Met.ofW (cc := b_Pl_of) (maxL := 2) (ret := (some .int)) (by decide) rfl ?_
  intro p e s m args below meth c s₁ B hml hv
  obtain ⟨rfl, hP, hK, hN, hD0⟩ := hv
  have hx := B.exec
  have hb := B.bytes
  have hr := B.returns
  have hts0 := atoms_spec (ws := Cond.code y_Pl_of b_Pl_of 2 (some .int) :: qx_T) B.pre
  have hts := fun w h => hts0 w (List.mem_cons_of_mem _ h)
  have hown : s.vm.findClass R_Pl = some m.cls := findClass_of_methodNamed B.named
  have hlocks := B.notSynchronized
  have hD : va_D (qx_ad ([])) ([]) := ⟨hD0.1, fun k q hk => ⟨k, q.2, hk⟩⟩
  generalize hAe : qx_ad ([]) = A at hD
  have hS : va_S A s.heap s.heap [] := va_S.rf
  have hl := lv_entry ([.int x, .int y]) (n := 2) (Nat.le_of_ble_eq_true rfl)
  rw [lg_entry_eq]
  generalize (lg_sl ([.int x, .int y]) ++ List.replicate (2 - (lg_sl ([.int x, .int y])).length) Slot.unset).toArray = ls at hl ⊢
  have hl : lv_has ls 2 [(0, .int x), (1, .int y)] := hl
  refine lv_iload_n hx hb d_Pl_of_0 rfl (lv_at hl 0 rfl) ?_
  refine lv_iconst (v := 3) hx hb d_Pl_of_1 (by decide) ?_
  refine lv_iand hx hb d_Pl_of_2 ?_
  refine lv_bipush (v := 32) hx hb d_Pl_of_3 (by decide) ?_
  refine lv_imul hx hb d_Pl_of_5 ?_
  refine lv_iload_n hx hb d_Pl_of_6 rfl (lv_at hl 1 rfl) ?_
  refine lv_bipush (v := 31) hx hb d_Pl_of_7 (by decide) ?_
  refine lv_iand hx hb d_Pl_of_9 ?_
  refine lv_iadd hx hb d_Pl_of_10 ?_
  exact W.iret hx hb hr (fun t ht hW => ⟨congrArg (fun z => Outcome.returned (some (Value.int z))) (show (((x &&& 3) * 32) + (y &&& 31)) = qf_Pl_of x y from rfl), ht⟩) (fun _ h => absurd h List.not_mem_nil) d_Pl_of_11
def qf_Pl_spaceOf (x : Int32) : Int32 :=
  (x / 32)
set_option maxHeartbeats 4000000 in
set_option maxRecDepth 100000 in
theorem c_Pl_spaceOf (l : Launch) (D : va_G) (cA : ClassId) (x : Int32) : Met l y_Pl_spaceOf (Cond.code y_Pl_spaceOf b_Pl_spaceOf 1 (some .int) :: qx_T) ({ frames := 0, cells := 0, slots := 0, locals := 0 }) (qx_Pc D vwCl [(cA, .int)] ([]) [.int x]) (k2_QcV (.int (qf_Pl_spaceOf x))) 0 0 (fun _ => False) := by
  refine Met.ofW (cc := b_Pl_spaceOf) (maxL := 1) (ret := (some .int)) (by decide) rfl ?_
  intro p e s m args below meth c s₁ B hml hv
  obtain ⟨rfl, hP, hK, hN, hD0⟩ := hv
  have hx := B.exec
  have hb := B.bytes
  have hr := B.returns
  have hts0 := atoms_spec (ws := Cond.code y_Pl_spaceOf b_Pl_spaceOf 1 (some .int) :: qx_T) B.pre
  have hts := fun w h => hts0 w (List.mem_cons_of_mem _ h)
  have hown : s.vm.findClass R_Pl = some m.cls := findClass_of_methodNamed B.named
  have hlocks := B.notSynchronized
  have hD : va_D (qx_ad ([])) ([]) := ⟨hD0.1, fun k q hk => ⟨k, q.2, hk⟩⟩
  generalize hAe : qx_ad ([]) = A at hD
  have hS : va_S A s.heap s.heap [] := va_S.rf
  have hl := lv_entry ([.int x]) (n := 1) (Nat.le_of_ble_eq_true rfl)
  rw [lg_entry_eq]
  generalize (lg_sl ([.int x]) ++ List.replicate (1 - (lg_sl ([.int x])).length) Slot.unset).toArray = ls at hl ⊢
  have hl : lv_has ls 1 [(0, .int x)] := hl
  refine lv_iload_n hx hb d_Pl_spaceOf_0 rfl (lv_at hl 0 rfl) ?_
  refine lv_bipush (v := 32) hx hb d_Pl_spaceOf_1 (by decide) ?_
  refine lv_idiv hx hb d_Pl_spaceOf_3 (by decide) ?_
  exact W.iret hx hb hr (fun t ht hW => ⟨congrArg (fun z => Outcome.returned (some (Value.int z))) (show (x / 32) = qf_Pl_spaceOf x from rfl), ht⟩) (fun _ h => absurd h List.not_mem_nil) d_Pl_spaceOf_4
def qf_Pl_offsetOf (x : Int32) : Int32 :=
  (x - (x / 32) * 32)
set_option maxHeartbeats 4000000 in
set_option maxRecDepth 100000 in
theorem c_Pl_offsetOf (l : Launch) (D : va_G) (cA : ClassId) (x : Int32) : Met l y_Pl_offsetOf (Cond.code y_Pl_offsetOf b_Pl_offsetOf 1 (some .int) :: qx_T) ({ frames := 0, cells := 0, slots := 0, locals := 0 }) (qx_Pc D vwCl [(cA, .int)] ([]) [.int x]) (k2_QcV (.int (qf_Pl_offsetOf x))) 0 0 (fun _ => False) := by
  refine Met.ofW (cc := b_Pl_offsetOf) (maxL := 1) (ret := (some .int)) (by decide) rfl ?_
  intro p e s m args below meth c s₁ B hml hv
  obtain ⟨rfl, hP, hK, hN, hD0⟩ := hv
  have hx := B.exec
  have hb := B.bytes
  have hr := B.returns
  have hts0 := atoms_spec (ws := Cond.code y_Pl_offsetOf b_Pl_offsetOf 1 (some .int) :: qx_T) B.pre
  have hts := fun w h => hts0 w (List.mem_cons_of_mem _ h)
  have hown : s.vm.findClass R_Pl = some m.cls := findClass_of_methodNamed B.named
  have hlocks := B.notSynchronized
  have hD : va_D (qx_ad ([])) ([]) := ⟨hD0.1, fun k q hk => ⟨k, q.2, hk⟩⟩
  generalize hAe : qx_ad ([]) = A at hD
  have hS : va_S A s.heap s.heap [] := va_S.rf
  have hl := lv_entry ([.int x]) (n := 1) (Nat.le_of_ble_eq_true rfl)
  rw [lg_entry_eq]
  generalize (lg_sl ([.int x]) ++ List.replicate (1 - (lg_sl ([.int x])).length) Slot.unset).toArray = ls at hl ⊢
  have hl : lv_has ls 1 [(0, .int x)] := hl
  refine lv_iload_n hx hb d_Pl_offsetOf_0 rfl (lv_at hl 0 rfl) ?_
  refine lv_bipush (v := 32) hx hb d_Pl_offsetOf_1 (by decide) ?_
  refine lv_irem hx hb d_Pl_offsetOf_3 (by decide) ?_
  exact W.iret hx hb hr (fun t ht hW => ⟨congrArg (fun z => Outcome.returned (some (Value.int z))) (show (x - (x / 32) * 32) = qf_Pl_offsetOf x from rfl), ht⟩) (fun _ h => absurd h List.not_mem_nil) d_Pl_offsetOf_4
def qf_Pl_behind (x : Int32) : Int32 :=
  qf_Pl_of (qf_Pl_spaceOf x) (qf_Pl_offsetOf x + 1)
set_option maxHeartbeats 4000000 in
set_option maxRecDepth 100000 in
theorem c_Pl_behind (l : Launch) (D : va_G) (cA : ClassId) (x : Int32) : Met l y_Pl_behind (Cond.code y_Pl_behind b_Pl_behind 1 (some .int) :: qx_T) ({ frames := 1, cells := 0, slots := 0, locals := 21 }) (qx_Pc D vwCl [(cA, .int)] ([]) [.int x]) (k2_QcV (.int (qf_Pl_behind x))) 0 0 (fun _ => False) := by
  refine Met.ofW (cc := b_Pl_behind) (maxL := 1) (ret := (some .int)) (by decide) rfl ?_
  intro p e s m args below meth c s₁ B hml hv
  obtain ⟨rfl, hP, hK, hN, hD0⟩ := hv
  have hx := B.exec
  have hb := B.bytes
  have hr := B.returns
  have hts0 := atoms_spec (ws := Cond.code y_Pl_behind b_Pl_behind 1 (some .int) :: qx_T) B.pre
  have hts := fun w h => hts0 w (List.mem_cons_of_mem _ h)
  have hown : s.vm.findClass R_Pl = some m.cls := findClass_of_methodNamed B.named
  have hlocks := B.notSynchronized
  have hD : va_D (qx_ad ([])) ([]) := ⟨hD0.1, fun k q hk => ⟨k, q.2, hk⟩⟩
  generalize hAe : qx_ad ([]) = A at hD
  have hS : va_S A s.heap s.heap [] := va_S.rf
  have hl := lv_entry ([.int x]) (n := 1) (Nat.le_of_ble_eq_true rfl)
  rw [lg_entry_eq]
  generalize (lg_sl ([.int x]) ++ List.replicate (1 - (lg_sl ([.int x])).length) Slot.unset).toArray = ls at hl ⊢
  have hl : lv_has ls 1 [(0, .int x)] := hl
  refine lv_iload_n hx hb d_Pl_behind_0 rfl (lv_at hl 0 rfl) ?_
  refine qx_rd (va_runS (As := [.int x]) (rest := []) ⟨hx, hb, hml, hown, hts⟩ (c_Pl_spaceOf l D cA x) (qx_kS hts mw_86 mw_87 mw_32 mw_88 cd_Pl_spaceOf ⟨Nat.le_of_ble_eq_true rfl, Nat.le_of_ble_eq_true rfl⟩) (qx_preS hP hD hK hN [] rfl rfl) rfl rfl hl.1 rfl (lv_room (Nat.le_of_ble_eq_true rfl)) d_Pl_behind_1 ⟨Nat.zero_le _, Nat.zero_le _⟩) ?_
  refine lv_iload_n hx hb d_Pl_behind_4 rfl (lv_at hl 0 rfl) ?_
  refine qx_rd (va_runS (As := [.int x]) (rest := [.int (qf_Pl_spaceOf x)]) ⟨hx, hb, hml, hown, hts⟩ (c_Pl_offsetOf l D cA x) (qx_kS hts mw_89 mw_90 mw_32 mw_91 cd_Pl_offsetOf ⟨Nat.le_of_ble_eq_true rfl, Nat.le_of_ble_eq_true rfl⟩) (qx_preS hP hD hK hN [] rfl rfl) rfl rfl hl.1 rfl (lv_room (Nat.le_of_ble_eq_true rfl)) d_Pl_behind_5 ⟨Nat.zero_le _, Nat.zero_le _⟩) ?_
  refine lv_iconst (v := 1) hx hb d_Pl_behind_8 (by decide) ?_
  refine lv_iadd hx hb d_Pl_behind_9 ?_
  refine qx_rd (va_runS (As := [.int (qf_Pl_spaceOf x), .int (qf_Pl_offsetOf x + 1)]) (rest := []) ⟨hx, hb, hml, hown, hts⟩ (c_Pl_of l D cA (qf_Pl_spaceOf x) (qf_Pl_offsetOf x + 1)) (qx_kS hts mw_92 mw_93 mw_32 mw_94 cd_Pl_of ⟨Nat.le_of_ble_eq_true rfl, Nat.le_of_ble_eq_true rfl⟩) (qx_preS hP hD hK hN [] rfl rfl) rfl rfl hl.1 rfl (lv_room (Nat.le_of_ble_eq_true rfl)) d_Pl_behind_10 ⟨Nat.zero_le _, Nat.zero_le _⟩) ?_
  exact W.iret hx hb hr (fun t ht hW => ⟨congrArg (fun z => Outcome.returned (some (Value.int z))) (show qf_Pl_of (qf_Pl_spaceOf x) (qf_Pl_offsetOf x + 1) = qf_Pl_behind x from rfl), ht⟩) (fun _ h => absurd h List.not_mem_nil) d_Pl_behind_13
def qf_Pa_kind (w : Int32) : Int32 :=
  (qf_ush w 27)
set_option maxHeartbeats 4000000 in
set_option maxRecDepth 100000 in
theorem c_Pa_kind (l : Launch) (D : va_G) (cA : ClassId) (w : Int32) : Met l y_Pa_kind (Cond.code y_Pa_kind b_Pa_kind 1 (some .int) :: qx_T) ({ frames := 0, cells := 0, slots := 0, locals := 0 }) (qx_Pc D vwCl [(cA, .int)] ([]) [.int w]) (k2_QcV (.int (qf_Pa_kind w))) 0 0 (fun _ => False) := by
  refine Met.ofW (cc := b_Pa_kind) (maxL := 1) (ret := (some .int)) (by decide) rfl ?_
  intro p e s m args below meth c s₁ B hml hv
  obtain ⟨rfl, hP, hK, hN, hD0⟩ := hv
  have hx := B.exec
  have hb := B.bytes
  have hr := B.returns
  have hts0 := atoms_spec (ws := Cond.code y_Pa_kind b_Pa_kind 1 (some .int) :: qx_T) B.pre
  have hts := fun w h => hts0 w (List.mem_cons_of_mem _ h)
  have hown : s.vm.findClass R_Pa = some m.cls := findClass_of_methodNamed B.named
  have hlocks := B.notSynchronized
  have hD : va_D (qx_ad ([])) ([]) := ⟨hD0.1, fun k q hk => ⟨k, q.2, hk⟩⟩
  generalize hAe : qx_ad ([]) = A at hD
  have hS : va_S A s.heap s.heap [] := va_S.rf
  have hl := lv_entry ([.int w]) (n := 1) (Nat.le_of_ble_eq_true rfl)
  rw [lg_entry_eq]
  generalize (lg_sl ([.int w]) ++ List.replicate (1 - (lg_sl ([.int w])).length) Slot.unset).toArray = ls at hl ⊢
  have hl : lv_has ls 1 [(0, .int w)] := hl
  refine lv_iload_n hx hb d_Pa_kind_0 rfl (lv_at hl 0 rfl) ?_
  refine lv_bipush (v := 27) hx hb d_Pa_kind_1 (by decide) ?_
  refine lv_iushr (v := (qf_ush w 27)) hx hb d_Pa_kind_3 rfl ?_
  exact W.iret hx hb hr (fun t ht hW => ⟨congrArg (fun z => Outcome.returned (some (Value.int z))) (show (qf_ush w 27) = qf_Pa_kind w from rfl), ht⟩) (fun _ h => absurd h List.not_mem_nil) d_Pa_kind_4
def qf_Pa_t (w : Int32) : Int32 :=
  ((qf_ush w 24) &&& 7)
set_option maxHeartbeats 4000000 in
set_option maxRecDepth 100000 in
theorem c_Pa_t (l : Launch) (D : va_G) (cA : ClassId) (w : Int32) : Met l y_Pa_t (Cond.code y_Pa_t b_Pa_t 1 (some .int) :: qx_T) ({ frames := 0, cells := 0, slots := 0, locals := 0 }) (qx_Pc D vwCl [(cA, .int)] ([]) [.int w]) (k2_QcV (.int (qf_Pa_t w))) 0 0 (fun _ => False) := by
  refine Met.ofW (cc := b_Pa_t) (maxL := 1) (ret := (some .int)) (by decide) rfl ?_
  intro p e s m args below meth c s₁ B hml hv
  obtain ⟨rfl, hP, hK, hN, hD0⟩ := hv
  have hx := B.exec
  have hb := B.bytes
  have hr := B.returns
  have hts0 := atoms_spec (ws := Cond.code y_Pa_t b_Pa_t 1 (some .int) :: qx_T) B.pre
  have hts := fun w h => hts0 w (List.mem_cons_of_mem _ h)
  have hown : s.vm.findClass R_Pa = some m.cls := findClass_of_methodNamed B.named
  have hlocks := B.notSynchronized
  have hD : va_D (qx_ad ([])) ([]) := ⟨hD0.1, fun k q hk => ⟨k, q.2, hk⟩⟩
  generalize hAe : qx_ad ([]) = A at hD
  have hS : va_S A s.heap s.heap [] := va_S.rf
  have hl := lv_entry ([.int w]) (n := 1) (Nat.le_of_ble_eq_true rfl)
  rw [lg_entry_eq]
  generalize (lg_sl ([.int w]) ++ List.replicate (1 - (lg_sl ([.int w])).length) Slot.unset).toArray = ls at hl ⊢
  have hl : lv_has ls 1 [(0, .int w)] := hl
  refine lv_iload_n hx hb d_Pa_t_0 rfl (lv_at hl 0 rfl) ?_
  refine lv_bipush (v := 24) hx hb d_Pa_t_1 (by decide) ?_
  refine lv_iushr (v := (qf_ush w 24)) hx hb d_Pa_t_3 rfl ?_
  refine lv_bipush (v := 7) hx hb d_Pa_t_4 (by decide) ?_
  refine lv_iand hx hb d_Pa_t_6 ?_
  exact W.iret hx hb hr (fun t ht hW => ⟨congrArg (fun z => Outcome.returned (some (Value.int z))) (show ((qf_ush w 24) &&& 7) = qf_Pa_t w from rfl), ht⟩) (fun _ h => absurd h List.not_mem_nil) d_Pa_t_7
def qf_Pa_a (w : Int32) : Int32 :=
  ((qf_ush w 21) &&& 7)
set_option maxHeartbeats 4000000 in
set_option maxRecDepth 100000 in
theorem c_Pa_a (l : Launch) (D : va_G) (cA : ClassId) (w : Int32) : Met l y_Pa_a (Cond.code y_Pa_a b_Pa_a 1 (some .int) :: qx_T) ({ frames := 0, cells := 0, slots := 0, locals := 0 }) (qx_Pc D vwCl [(cA, .int)] ([]) [.int w]) (k2_QcV (.int (qf_Pa_a w))) 0 0 (fun _ => False) := by
  refine Met.ofW (cc := b_Pa_a) (maxL := 1) (ret := (some .int)) (by decide) rfl ?_
  intro p e s m args below meth c s₁ B hml hv
  obtain ⟨rfl, hP, hK, hN, hD0⟩ := hv
  have hx := B.exec
  have hb := B.bytes
  have hr := B.returns
  have hts0 := atoms_spec (ws := Cond.code y_Pa_a b_Pa_a 1 (some .int) :: qx_T) B.pre
  have hts := fun w h => hts0 w (List.mem_cons_of_mem _ h)
  have hown : s.vm.findClass R_Pa = some m.cls := findClass_of_methodNamed B.named
  have hlocks := B.notSynchronized
  have hD : va_D (qx_ad ([])) ([]) := ⟨hD0.1, fun k q hk => ⟨k, q.2, hk⟩⟩
  generalize hAe : qx_ad ([]) = A at hD
  have hS : va_S A s.heap s.heap [] := va_S.rf
  have hl := lv_entry ([.int w]) (n := 1) (Nat.le_of_ble_eq_true rfl)
  rw [lg_entry_eq]
  generalize (lg_sl ([.int w]) ++ List.replicate (1 - (lg_sl ([.int w])).length) Slot.unset).toArray = ls at hl ⊢
  have hl : lv_has ls 1 [(0, .int w)] := hl
  refine lv_iload_n hx hb d_Pa_a_0 rfl (lv_at hl 0 rfl) ?_
  refine lv_bipush (v := 21) hx hb d_Pa_a_1 (by decide) ?_
  refine lv_iushr (v := (qf_ush w 21)) hx hb d_Pa_a_3 rfl ?_
  refine lv_bipush (v := 7) hx hb d_Pa_a_4 (by decide) ?_
  refine lv_iand hx hb d_Pa_a_6 ?_
  exact W.iret hx hb hr (fun t ht hW => ⟨congrArg (fun z => Outcome.returned (some (Value.int z))) (show ((qf_ush w 21) &&& 7) = qf_Pa_a w from rfl), ht⟩) (fun _ h => absurd h List.not_mem_nil) d_Pa_a_7
def qf_Pa_b (w : Int32) : Int32 :=
  ((qf_ush w 18) &&& 7)
set_option maxHeartbeats 4000000 in
set_option maxRecDepth 100000 in
theorem c_Pa_b (l : Launch) (D : va_G) (cA : ClassId) (w : Int32) : Met l y_Pa_b (Cond.code y_Pa_b b_Pa_b 1 (some .int) :: qx_T) ({ frames := 0, cells := 0, slots := 0, locals := 0 }) (qx_Pc D vwCl [(cA, .int)] ([]) [.int w]) (k2_QcV (.int (qf_Pa_b w))) 0 0 (fun _ => False) := by
  refine Met.ofW (cc := b_Pa_b) (maxL := 1) (ret := (some .int)) (by decide) rfl ?_
  intro p e s m args below meth c s₁ B hml hv
  obtain ⟨rfl, hP, hK, hN, hD0⟩ := hv
  have hx := B.exec
  have hb := B.bytes
  have hr := B.returns
  have hts0 := atoms_spec (ws := Cond.code y_Pa_b b_Pa_b 1 (some .int) :: qx_T) B.pre
  have hts := fun w h => hts0 w (List.mem_cons_of_mem _ h)
  have hown : s.vm.findClass R_Pa = some m.cls := findClass_of_methodNamed B.named
  have hlocks := B.notSynchronized
  have hD : va_D (qx_ad ([])) ([]) := ⟨hD0.1, fun k q hk => ⟨k, q.2, hk⟩⟩
  generalize hAe : qx_ad ([]) = A at hD
  have hS : va_S A s.heap s.heap [] := va_S.rf
  have hl := lv_entry ([.int w]) (n := 1) (Nat.le_of_ble_eq_true rfl)
  rw [lg_entry_eq]
  generalize (lg_sl ([.int w]) ++ List.replicate (1 - (lg_sl ([.int w])).length) Slot.unset).toArray = ls at hl ⊢
  have hl : lv_has ls 1 [(0, .int w)] := hl
  refine lv_iload_n hx hb d_Pa_b_0 rfl (lv_at hl 0 rfl) ?_
  refine lv_bipush (v := 18) hx hb d_Pa_b_1 (by decide) ?_
  refine lv_iushr (v := (qf_ush w 18)) hx hb d_Pa_b_3 rfl ?_
  refine lv_bipush (v := 7) hx hb d_Pa_b_4 (by decide) ?_
  refine lv_iand hx hb d_Pa_b_6 ?_
  exact W.iret hx hb hr (fun t ht hW => ⟨congrArg (fun z => Outcome.returned (some (Value.int z))) (show ((qf_ush w 18) &&& 7) = qf_Pa_b w from rfl), ht⟩) (fun _ h => absurd h List.not_mem_nil) d_Pa_b_7
def qf_Pa_spaceRegister (w : Int32) : Int32 :=
  ((qf_ush w 18) &&& 3)
set_option maxHeartbeats 4000000 in
set_option maxRecDepth 100000 in
theorem c_Pa_spaceRegister (l : Launch) (D : va_G) (cA : ClassId) (w : Int32) : Met l y_Pa_spaceRegister (Cond.code y_Pa_spaceRegister b_Pa_spaceRegister 1 (some .int) :: qx_T) ({ frames := 0, cells := 0, slots := 0, locals := 0 }) (qx_Pc D vwCl [(cA, .int)] ([]) [.int w]) (k2_QcV (.int (qf_Pa_spaceRegister w))) 0 0 (fun _ => False) := by
  refine Met.ofW (cc := b_Pa_spaceRegister) (maxL := 1) (ret := (some .int)) (by decide) rfl ?_
  intro p e s m args below meth c s₁ B hml hv
  obtain ⟨rfl, hP, hK, hN, hD0⟩ := hv
  have hx := B.exec
  have hb := B.bytes
  have hr := B.returns
  have hts0 := atoms_spec (ws := Cond.code y_Pa_spaceRegister b_Pa_spaceRegister 1 (some .int) :: qx_T) B.pre
  have hts := fun w h => hts0 w (List.mem_cons_of_mem _ h)
  have hown : s.vm.findClass R_Pa = some m.cls := findClass_of_methodNamed B.named
  have hlocks := B.notSynchronized
  have hD : va_D (qx_ad ([])) ([]) := ⟨hD0.1, fun k q hk => ⟨k, q.2, hk⟩⟩
  generalize hAe : qx_ad ([]) = A at hD
  have hS : va_S A s.heap s.heap [] := va_S.rf
  have hl := lv_entry ([.int w]) (n := 1) (Nat.le_of_ble_eq_true rfl)
  rw [lg_entry_eq]
  generalize (lg_sl ([.int w]) ++ List.replicate (1 - (lg_sl ([.int w])).length) Slot.unset).toArray = ls at hl ⊢
  have hl : lv_has ls 1 [(0, .int w)] := hl
  refine lv_iload_n hx hb d_Pa_spaceRegister_0 rfl (lv_at hl 0 rfl) ?_
  refine lv_bipush (v := 18) hx hb d_Pa_spaceRegister_1 (by decide) ?_
  refine lv_iushr (v := (qf_ush w 18)) hx hb d_Pa_spaceRegister_3 rfl ?_
  refine lv_iconst (v := 3) hx hb d_Pa_spaceRegister_4 (by decide) ?_
  refine lv_iand hx hb d_Pa_spaceRegister_5 ?_
  exact W.iret hx hb hr (fun t ht hW => ⟨congrArg (fun z => Outcome.returned (some (Value.int z))) (show ((qf_ush w 18) &&& 3) = qf_Pa_spaceRegister w from rfl), ht⟩) (fun _ h => absurd h List.not_mem_nil) d_Pa_spaceRegister_6
def qf_Pa_condition (w : Int32) : Int32 :=
  ((qf_ush w 15) &&& 7)
set_option maxHeartbeats 4000000 in
set_option maxRecDepth 100000 in
theorem c_Pa_condition (l : Launch) (D : va_G) (cA : ClassId) (w : Int32) : Met l y_Pa_condition (Cond.code y_Pa_condition b_Pa_condition 1 (some .int) :: qx_T) ({ frames := 0, cells := 0, slots := 0, locals := 0 }) (qx_Pc D vwCl [(cA, .int)] ([]) [.int w]) (k2_QcV (.int (qf_Pa_condition w))) 0 0 (fun _ => False) := by
  refine Met.ofW (cc := b_Pa_condition) (maxL := 1) (ret := (some .int)) (by decide) rfl ?_
  intro p e s m args below meth c s₁ B hml hv
  obtain ⟨rfl, hP, hK, hN, hD0⟩ := hv
  have hx := B.exec
  have hb := B.bytes
  have hr := B.returns
  have hts0 := atoms_spec (ws := Cond.code y_Pa_condition b_Pa_condition 1 (some .int) :: qx_T) B.pre
  have hts := fun w h => hts0 w (List.mem_cons_of_mem _ h)
  have hown : s.vm.findClass R_Pa = some m.cls := findClass_of_methodNamed B.named
  have hlocks := B.notSynchronized
  have hD : va_D (qx_ad ([])) ([]) := ⟨hD0.1, fun k q hk => ⟨k, q.2, hk⟩⟩
  generalize hAe : qx_ad ([]) = A at hD
  have hS : va_S A s.heap s.heap [] := va_S.rf
  have hl := lv_entry ([.int w]) (n := 1) (Nat.le_of_ble_eq_true rfl)
  rw [lg_entry_eq]
  generalize (lg_sl ([.int w]) ++ List.replicate (1 - (lg_sl ([.int w])).length) Slot.unset).toArray = ls at hl ⊢
  have hl : lv_has ls 1 [(0, .int w)] := hl
  refine lv_iload_n hx hb d_Pa_condition_0 rfl (lv_at hl 0 rfl) ?_
  refine lv_bipush (v := 15) hx hb d_Pa_condition_1 (by decide) ?_
  refine lv_iushr (v := (qf_ush w 15)) hx hb d_Pa_condition_3 rfl ?_
  refine lv_bipush (v := 7) hx hb d_Pa_condition_4 (by decide) ?_
  refine lv_iand hx hb d_Pa_condition_6 ?_
  exact W.iret hx hb hr (fun t ht hW => ⟨congrArg (fun z => Outcome.returned (some (Value.int z))) (show ((qf_ush w 15) &&& 7) = qf_Pa_condition w from rfl), ht⟩) (fun _ h => absurd h List.not_mem_nil) d_Pa_condition_7
def qf_Pa_n (w : Int32) : Int32 :=
  ((qf_ush w 14) &&& 1)
set_option maxHeartbeats 4000000 in
set_option maxRecDepth 100000 in
theorem c_Pa_n (l : Launch) (D : va_G) (cA : ClassId) (w : Int32) : Met l y_Pa_n (Cond.code y_Pa_n b_Pa_n 1 (some .int) :: qx_T) ({ frames := 0, cells := 0, slots := 0, locals := 0 }) (qx_Pc D vwCl [(cA, .int)] ([]) [.int w]) (k2_QcV (.int (qf_Pa_n w))) 0 0 (fun _ => False) := by
  refine Met.ofW (cc := b_Pa_n) (maxL := 1) (ret := (some .int)) (by decide) rfl ?_
  intro p e s m args below meth c s₁ B hml hv
  obtain ⟨rfl, hP, hK, hN, hD0⟩ := hv
  have hx := B.exec
  have hb := B.bytes
  have hr := B.returns
  have hts0 := atoms_spec (ws := Cond.code y_Pa_n b_Pa_n 1 (some .int) :: qx_T) B.pre
  have hts := fun w h => hts0 w (List.mem_cons_of_mem _ h)
  have hown : s.vm.findClass R_Pa = some m.cls := findClass_of_methodNamed B.named
  have hlocks := B.notSynchronized
  have hD : va_D (qx_ad ([])) ([]) := ⟨hD0.1, fun k q hk => ⟨k, q.2, hk⟩⟩
  generalize hAe : qx_ad ([]) = A at hD
  have hS : va_S A s.heap s.heap [] := va_S.rf
  have hl := lv_entry ([.int w]) (n := 1) (Nat.le_of_ble_eq_true rfl)
  rw [lg_entry_eq]
  generalize (lg_sl ([.int w]) ++ List.replicate (1 - (lg_sl ([.int w])).length) Slot.unset).toArray = ls at hl ⊢
  have hl : lv_has ls 1 [(0, .int w)] := hl
  refine lv_iload_n hx hb d_Pa_n_0 rfl (lv_at hl 0 rfl) ?_
  refine lv_bipush (v := 14) hx hb d_Pa_n_1 (by decide) ?_
  refine lv_iushr (v := (qf_ush w 14)) hx hb d_Pa_n_3 rfl ?_
  refine lv_iconst (v := 1) hx hb d_Pa_n_4 (by decide) ?_
  refine lv_iand hx hb d_Pa_n_5 ?_
  exact W.iret hx hb hr (fun t ht hW => ⟨congrArg (fun z => Outcome.returned (some (Value.int z))) (show ((qf_ush w 14) &&& 1) = qf_Pa_n w from rfl), ht⟩) (fun _ h => absurd h List.not_mem_nil) d_Pa_n_6
def qf_Pa_m (w : Int32) : Int32 :=
  ((w <<< ((18 : Int32) &&& 31)) >>> ((18 : Int32) &&& 31))
set_option maxHeartbeats 4000000 in
set_option maxRecDepth 100000 in
theorem c_Pa_m (l : Launch) (D : va_G) (cA : ClassId) (w : Int32) : Met l y_Pa_m (Cond.code y_Pa_m b_Pa_m 1 (some .int) :: qx_T) ({ frames := 0, cells := 0, slots := 0, locals := 0 }) (qx_Pc D vwCl [(cA, .int)] ([]) [.int w]) (k2_QcV (.int (qf_Pa_m w))) 0 0 (fun _ => False) := by
  refine Met.ofW (cc := b_Pa_m) (maxL := 1) (ret := (some .int)) (by decide) rfl ?_
  intro p e s m args below meth c s₁ B hml hv
  obtain ⟨rfl, hP, hK, hN, hD0⟩ := hv
  have hx := B.exec
  have hb := B.bytes
  have hr := B.returns
  have hts0 := atoms_spec (ws := Cond.code y_Pa_m b_Pa_m 1 (some .int) :: qx_T) B.pre
  have hts := fun w h => hts0 w (List.mem_cons_of_mem _ h)
  have hown : s.vm.findClass R_Pa = some m.cls := findClass_of_methodNamed B.named
  have hlocks := B.notSynchronized
  have hD : va_D (qx_ad ([])) ([]) := ⟨hD0.1, fun k q hk => ⟨k, q.2, hk⟩⟩
  generalize hAe : qx_ad ([]) = A at hD
  have hS : va_S A s.heap s.heap [] := va_S.rf
  have hl := lv_entry ([.int w]) (n := 1) (Nat.le_of_ble_eq_true rfl)
  rw [lg_entry_eq]
  generalize (lg_sl ([.int w]) ++ List.replicate (1 - (lg_sl ([.int w])).length) Slot.unset).toArray = ls at hl ⊢
  have hl : lv_has ls 1 [(0, .int w)] := hl
  refine lv_iload_n hx hb d_Pa_m_0 rfl (lv_at hl 0 rfl) ?_
  refine lv_bipush (v := 18) hx hb d_Pa_m_1 (by decide) ?_
  refine lv_ishl hx hb d_Pa_m_3 ?_
  refine lv_bipush (v := 18) hx hb d_Pa_m_4 (by decide) ?_
  refine lv_ishr hx hb d_Pa_m_6 ?_
  exact W.iret hx hb hr (fun t ht hW => ⟨congrArg (fun z => Outcome.returned (some (Value.int z))) (show ((w <<< ((18 : Int32) &&& 31)) >>> ((18 : Int32) &&& 31)) = qf_Pa_m w from rfl), ht⟩) (fun _ h => absurd h List.not_mem_nil) d_Pa_m_7
theorem qi_Pl (x y : Int32) : vp_in (qf_Pl_of x y) 128 := qi_row 32 128 (qi_and3 x) (qi_and31 y) (by decide) (by decide) (by decide) (by decide) (by decide) (c := 32) (by decide)
end
section
def qf_Co_unsigned (x : Int32) : Int64 :=
  (x.toInt64 &&& 4294967295)
set_option maxHeartbeats 4000000 in
set_option maxRecDepth 100000 in
theorem c_Co_unsigned (l : Launch) (D : va_G) (cA : ClassId) (x : Int32) : Met l y_Co_unsigned (Cond.code y_Co_unsigned b_Co_unsigned 1 (some .long) :: qx_T) ({ frames := 0, cells := 0, slots := 0, locals := 0 }) (qx_Pc D vwCl [(cA, .int)] ([]) [.int x]) (k2_QcV (.long (qf_Co_unsigned x))) 0 0 (fun _ => False) := by
  refine Met.ofW (cc := b_Co_unsigned) (maxL := 1) (ret := (some .long)) (by decide) rfl ?_
  intro p e s m args below meth c s₁ B hml hv
  obtain ⟨rfl, hP, hK, hN, hD0⟩ := hv
  have hx := B.exec
  have hb := B.bytes
  have hr := B.returns
  have hts0 := atoms_spec (ws := Cond.code y_Co_unsigned b_Co_unsigned 1 (some .long) :: qx_T) B.pre
  have hts := fun w h => hts0 w (List.mem_cons_of_mem _ h)
  have hown : s.vm.findClass R_Co = some m.cls := findClass_of_methodNamed B.named
  have hlocks := B.notSynchronized
  have hD : va_D (qx_ad ([])) ([]) := ⟨hD0.1, fun k q hk => ⟨k, q.2, hk⟩⟩
  generalize hAe : qx_ad ([]) = A at hD
  have hS : va_S A s.heap s.heap [] := va_S.rf
  have hl := lv_entry ([.int x]) (n := 1) (Nat.le_of_ble_eq_true rfl)
  rw [lg_entry_eq]
  generalize (lg_sl ([.int x]) ++ List.replicate (1 - (lg_sl ([.int x])).length) Slot.unset).toArray = ls at hl ⊢
  have hl : lv_has ls 1 [(0, .int x)] := hl
  refine lv_iload_n hx hb d_Co_unsigned_0 rfl (lv_at hl 0 rfl) ?_
  refine lv_i2l (v := x.toInt64) hx hb d_Co_unsigned_1 rfl ?_
  refine lv_ldc2 (v := 4294967295) hx hb hown (hts (.constantLong R_Co 13 4294967295) mw_267) d_Co_unsigned_2 ?_
  refine lv_land hx hb d_Co_unsigned_5 ?_
  exact W.lret hx hb hr (fun t ht hW => ⟨congrArg (fun z => Outcome.returned (some (Value.long z))) (show (x.toInt64 &&& 4294967295) = qf_Co_unsigned x from rfl), ht⟩) (fun _ h => absurd h List.not_mem_nil) d_Co_unsigned_6
def qf_Co_holds (k : Int32) (x : Int32) (y : Int32) : Int32 :=
  if k = 1 then (if x = y then 1
    else 0)
  else if k = 2 then (if y ≤ x then 0
    else 1)
  else if k = 3 then (if y < x then 0
    else 1)
  else if k = 4 then (if 0 ≤ (lg_cmp (qf_Co_unsigned x) (qf_Co_unsigned y)) then 0
    else 1)
  else if k = 5 then (if 0 < (lg_cmp (qf_Co_unsigned x) (qf_Co_unsigned y)) then 0
    else 1)
  else if k = 6 then (if ((x - y) &&& 1) = 1 then 1
    else 0)
  else if k = 7 then 1
  else 0
set_option maxHeartbeats 4000000 in
set_option maxRecDepth 100000 in
theorem c_Co_holds (l : Launch) (D : va_G) (cA : ClassId) (k : Int32) (x : Int32) (y : Int32) : Met l y_Co_holds (Cond.code y_Co_holds b_Co_holds 3 (some .boolean) :: qx_T) ({ frames := 1, cells := 0, slots := 0, locals := 20 }) (qx_Pc D vwCl [(cA, .int)] ([]) [.int k, .int x, .int y]) (k2_QcV (.int (qf_Co_holds k x y))) 0 0 (fun _ => False) := by
  refine Met.ofW (cc := b_Co_holds) (maxL := 3) (ret := (some .boolean)) (by decide) rfl ?_
  intro p e s m args below meth c s₁ B hml hv
  obtain ⟨rfl, hP, hK, hN, hD0⟩ := hv
  have hx := B.exec
  have hb := B.bytes
  have hr := B.returns
  have hts0 := atoms_spec (ws := Cond.code y_Co_holds b_Co_holds 3 (some .boolean) :: qx_T) B.pre
  have hts := fun w h => hts0 w (List.mem_cons_of_mem _ h)
  have hown : s.vm.findClass R_Co = some m.cls := findClass_of_methodNamed B.named
  have hlocks := B.notSynchronized
  have hD : va_D (qx_ad ([])) ([]) := ⟨hD0.1, fun k q hk => ⟨k, q.2, hk⟩⟩
  generalize hAe : qx_ad ([]) = A at hD
  have hS : va_S A s.heap s.heap [] := va_S.rf
  have hl := lv_entry ([.int k, .int x, .int y]) (n := 3) (Nat.le_of_ble_eq_true rfl)
  rw [lg_entry_eq]
  generalize (lg_sl ([.int k, .int x, .int y]) ++ List.replicate (3 - (lg_sl ([.int k, .int x, .int y])).length) Slot.unset).toArray = ls at hl ⊢
  have hl : lv_has ls 3 [(0, .int k), (1, .int x), (2, .int y)] := hl
  refine lv_iload_n hx hb d_Co_holds_0 rfl (lv_at hl 0 rfl) ?_
  by_cases h1 : k = 1
  · refine lv_tableIn (tgt := 44) hx hb d_Co_holds_1 (by rw [h1]; decide) (by rw [h1]; decide) (by rw [h1]; rfl) (by decide) ?_
    refine lv_iload_n hx hb d_Co_holds_44 rfl (lv_at hl 1 rfl) ?_
    refine lv_iload_n hx hb d_Co_holds_45 rfl (lv_at hl 2 rfl) ?_
    refine lv_icmp_ne (tgt := 53) hx hb d_Co_holds_46 (by decide) (fun h2 => ?_) (fun h2 => ?_)
    · skip
      refine lv_iconst (v := 0) hx hb d_Co_holds_53 (by decide) ?_
      exact W.zret (ty := .boolean) hx hb hr rfl (fun t ht hW => ⟨congrArg (fun z => Outcome.returned (some (Value.int z))) (show 0 = qf_Co_holds k x y from (by unfold qf_Co_holds; rw [if_pos h1, if_neg h2])), ht⟩) (fun _ h => absurd h List.not_mem_nil) d_Co_holds_54
    · skip
      refine lv_iconst (v := 1) hx hb d_Co_holds_49 (by decide) ?_
      refine lv_goto (tgt := 54) hx hb d_Co_holds_50 (by decide) ?_
      exact W.zret (ty := .boolean) hx hb hr rfl (fun t ht hW => ⟨congrArg (fun z => Outcome.returned (some (Value.int z))) (show 1 = qf_Co_holds k x y from (by unfold qf_Co_holds; rw [if_pos h1, if_pos h2])), ht⟩) (fun _ h => absurd h List.not_mem_nil) d_Co_holds_54
  by_cases h3 : k = 2
  · refine lv_tableIn (tgt := 55) hx hb d_Co_holds_1 (by rw [h3]; decide) (by rw [h3]; decide) (by rw [h3]; rfl) (by decide) ?_
    refine lv_iload_n hx hb d_Co_holds_55 rfl (lv_at hl 1 rfl) ?_
    refine lv_iload_n hx hb d_Co_holds_56 rfl (lv_at hl 2 rfl) ?_
    refine lv_icmp_ge (tgt := 64) hx hb d_Co_holds_57 (by decide) (fun h4 => ?_) (fun h4 => ?_)
    · skip
      refine lv_iconst (v := 0) hx hb d_Co_holds_64 (by decide) ?_
      exact W.zret (ty := .boolean) hx hb hr rfl (fun t ht hW => ⟨congrArg (fun z => Outcome.returned (some (Value.int z))) (show 0 = qf_Co_holds k x y from (by unfold qf_Co_holds; rw [if_neg h1, if_pos h3, if_pos h4])), ht⟩) (fun _ h => absurd h List.not_mem_nil) d_Co_holds_65
    · skip
      refine lv_iconst (v := 1) hx hb d_Co_holds_60 (by decide) ?_
      refine lv_goto (tgt := 65) hx hb d_Co_holds_61 (by decide) ?_
      exact W.zret (ty := .boolean) hx hb hr rfl (fun t ht hW => ⟨congrArg (fun z => Outcome.returned (some (Value.int z))) (show 1 = qf_Co_holds k x y from (by unfold qf_Co_holds; rw [if_neg h1, if_pos h3, if_neg h4])), ht⟩) (fun _ h => absurd h List.not_mem_nil) d_Co_holds_65
  by_cases h5 : k = 3
  · refine lv_tableIn (tgt := 66) hx hb d_Co_holds_1 (by rw [h5]; decide) (by rw [h5]; decide) (by rw [h5]; rfl) (by decide) ?_
    refine lv_iload_n hx hb d_Co_holds_66 rfl (lv_at hl 1 rfl) ?_
    refine lv_iload_n hx hb d_Co_holds_67 rfl (lv_at hl 2 rfl) ?_
    refine lv_icmp_gt (tgt := 75) hx hb d_Co_holds_68 (by decide) (fun h6 => ?_) (fun h6 => ?_)
    · skip
      refine lv_iconst (v := 0) hx hb d_Co_holds_75 (by decide) ?_
      exact W.zret (ty := .boolean) hx hb hr rfl (fun t ht hW => ⟨congrArg (fun z => Outcome.returned (some (Value.int z))) (show 0 = qf_Co_holds k x y from (by unfold qf_Co_holds; rw [if_neg h1, if_neg h3, if_pos h5, if_pos h6])), ht⟩) (fun _ h => absurd h List.not_mem_nil) d_Co_holds_76
    · skip
      refine lv_iconst (v := 1) hx hb d_Co_holds_71 (by decide) ?_
      refine lv_goto (tgt := 76) hx hb d_Co_holds_72 (by decide) ?_
      exact W.zret (ty := .boolean) hx hb hr rfl (fun t ht hW => ⟨congrArg (fun z => Outcome.returned (some (Value.int z))) (show 1 = qf_Co_holds k x y from (by unfold qf_Co_holds; rw [if_neg h1, if_neg h3, if_pos h5, if_neg h6])), ht⟩) (fun _ h => absurd h List.not_mem_nil) d_Co_holds_76
  by_cases h7 : k = 4
  · refine lv_tableIn (tgt := 77) hx hb d_Co_holds_1 (by rw [h7]; decide) (by rw [h7]; decide) (by rw [h7]; rfl) (by decide) ?_
    refine lv_iload_n hx hb d_Co_holds_77 rfl (lv_at hl 1 rfl) ?_
    refine qx_rd (va_runS (As := [.int x]) (rest := []) ⟨hx, hb, hml, hown, hts⟩ (c_Co_unsigned l D cA x) (qx_kS hts mw_264 mw_265 mw_35 mw_266 cd_Co_unsigned ⟨Nat.le_of_ble_eq_true rfl, Nat.le_of_ble_eq_true rfl⟩) (qx_preS hP hD hK hN [] rfl rfl) rfl rfl hl.1 rfl (lv_room (Nat.le_of_ble_eq_true rfl)) d_Co_holds_78 ⟨Nat.zero_le _, Nat.zero_le _⟩) ?_
    refine lv_iload_n hx hb d_Co_holds_81 rfl (lv_at hl 2 rfl) ?_
    refine qx_rd (va_runS (As := [.int y]) (rest := [.long (qf_Co_unsigned x)]) ⟨hx, hb, hml, hown, hts⟩ (c_Co_unsigned l D cA y) (qx_kS hts mw_264 mw_265 mw_35 mw_266 cd_Co_unsigned ⟨Nat.le_of_ble_eq_true rfl, Nat.le_of_ble_eq_true rfl⟩) (qx_preS hP hD hK hN [] rfl rfl) rfl rfl hl.1 rfl (lv_room (Nat.le_of_ble_eq_true rfl)) d_Co_holds_82 ⟨Nat.zero_le _, Nat.zero_le _⟩) ?_
    refine W.lcmp hx hb d_Co_holds_85 ?_
    refine lv_if_ge (tgt := 93) hx hb d_Co_holds_86 (by decide) (fun h8 => ?_) (fun h8 => ?_)
    · skip
      refine lv_iconst (v := 0) hx hb d_Co_holds_93 (by decide) ?_
      exact W.zret (ty := .boolean) hx hb hr rfl (fun t ht hW => ⟨congrArg (fun z => Outcome.returned (some (Value.int z))) (show 0 = qf_Co_holds k x y from (by unfold qf_Co_holds; rw [if_neg h1, if_neg h3, if_neg h5, if_pos h7, if_pos h8])), ht⟩) (fun _ h => absurd h List.not_mem_nil) d_Co_holds_94
    · skip
      refine lv_iconst (v := 1) hx hb d_Co_holds_89 (by decide) ?_
      refine lv_goto (tgt := 94) hx hb d_Co_holds_90 (by decide) ?_
      exact W.zret (ty := .boolean) hx hb hr rfl (fun t ht hW => ⟨congrArg (fun z => Outcome.returned (some (Value.int z))) (show 1 = qf_Co_holds k x y from (by unfold qf_Co_holds; rw [if_neg h1, if_neg h3, if_neg h5, if_pos h7, if_neg h8])), ht⟩) (fun _ h => absurd h List.not_mem_nil) d_Co_holds_94
  by_cases h9 : k = 5
  · refine lv_tableIn (tgt := 95) hx hb d_Co_holds_1 (by rw [h9]; decide) (by rw [h9]; decide) (by rw [h9]; rfl) (by decide) ?_
    refine lv_iload_n hx hb d_Co_holds_95 rfl (lv_at hl 1 rfl) ?_
    refine qx_rd (va_runS (As := [.int x]) (rest := []) ⟨hx, hb, hml, hown, hts⟩ (c_Co_unsigned l D cA x) (qx_kS hts mw_264 mw_265 mw_35 mw_266 cd_Co_unsigned ⟨Nat.le_of_ble_eq_true rfl, Nat.le_of_ble_eq_true rfl⟩) (qx_preS hP hD hK hN [] rfl rfl) rfl rfl hl.1 rfl (lv_room (Nat.le_of_ble_eq_true rfl)) d_Co_holds_96 ⟨Nat.zero_le _, Nat.zero_le _⟩) ?_
    refine lv_iload_n hx hb d_Co_holds_99 rfl (lv_at hl 2 rfl) ?_
    refine qx_rd (va_runS (As := [.int y]) (rest := [.long (qf_Co_unsigned x)]) ⟨hx, hb, hml, hown, hts⟩ (c_Co_unsigned l D cA y) (qx_kS hts mw_264 mw_265 mw_35 mw_266 cd_Co_unsigned ⟨Nat.le_of_ble_eq_true rfl, Nat.le_of_ble_eq_true rfl⟩) (qx_preS hP hD hK hN [] rfl rfl) rfl rfl hl.1 rfl (lv_room (Nat.le_of_ble_eq_true rfl)) d_Co_holds_100 ⟨Nat.zero_le _, Nat.zero_le _⟩) ?_
    refine W.lcmp hx hb d_Co_holds_103 ?_
    refine lv_if_gt (tgt := 111) hx hb d_Co_holds_104 (by decide) (fun h10 => ?_) (fun h10 => ?_)
    · skip
      refine lv_iconst (v := 0) hx hb d_Co_holds_111 (by decide) ?_
      exact W.zret (ty := .boolean) hx hb hr rfl (fun t ht hW => ⟨congrArg (fun z => Outcome.returned (some (Value.int z))) (show 0 = qf_Co_holds k x y from (by unfold qf_Co_holds; rw [if_neg h1, if_neg h3, if_neg h5, if_neg h7, if_pos h9, if_pos h10])), ht⟩) (fun _ h => absurd h List.not_mem_nil) d_Co_holds_112
    · skip
      refine lv_iconst (v := 1) hx hb d_Co_holds_107 (by decide) ?_
      refine lv_goto (tgt := 112) hx hb d_Co_holds_108 (by decide) ?_
      exact W.zret (ty := .boolean) hx hb hr rfl (fun t ht hW => ⟨congrArg (fun z => Outcome.returned (some (Value.int z))) (show 1 = qf_Co_holds k x y from (by unfold qf_Co_holds; rw [if_neg h1, if_neg h3, if_neg h5, if_neg h7, if_pos h9, if_neg h10])), ht⟩) (fun _ h => absurd h List.not_mem_nil) d_Co_holds_112
  by_cases h11 : k = 6
  · refine lv_tableIn (tgt := 113) hx hb d_Co_holds_1 (by rw [h11]; decide) (by rw [h11]; decide) (by rw [h11]; rfl) (by decide) ?_
    refine lv_iload_n hx hb d_Co_holds_113 rfl (lv_at hl 1 rfl) ?_
    refine lv_iload_n hx hb d_Co_holds_114 rfl (lv_at hl 2 rfl) ?_
    refine lv_isub hx hb d_Co_holds_115 ?_
    refine lv_iconst (v := 1) hx hb d_Co_holds_116 (by decide) ?_
    refine lv_iand hx hb d_Co_holds_117 ?_
    refine lv_iconst (v := 1) hx hb d_Co_holds_118 (by decide) ?_
    refine lv_icmp_ne (tgt := 126) hx hb d_Co_holds_119 (by decide) (fun h12 => ?_) (fun h12 => ?_)
    · skip
      refine lv_iconst (v := 0) hx hb d_Co_holds_126 (by decide) ?_
      exact W.zret (ty := .boolean) hx hb hr rfl (fun t ht hW => ⟨congrArg (fun z => Outcome.returned (some (Value.int z))) (show 0 = qf_Co_holds k x y from (by unfold qf_Co_holds; rw [if_neg h1, if_neg h3, if_neg h5, if_neg h7, if_neg h9, if_pos h11, if_neg h12])), ht⟩) (fun _ h => absurd h List.not_mem_nil) d_Co_holds_127
    · skip
      refine lv_iconst (v := 1) hx hb d_Co_holds_122 (by decide) ?_
      refine lv_goto (tgt := 127) hx hb d_Co_holds_123 (by decide) ?_
      exact W.zret (ty := .boolean) hx hb hr rfl (fun t ht hW => ⟨congrArg (fun z => Outcome.returned (some (Value.int z))) (show 1 = qf_Co_holds k x y from (by unfold qf_Co_holds; rw [if_neg h1, if_neg h3, if_neg h5, if_neg h7, if_neg h9, if_pos h11, if_pos h12])), ht⟩) (fun _ h => absurd h List.not_mem_nil) d_Co_holds_127
  by_cases h13 : k = 7
  · refine lv_tableIn (tgt := 128) hx hb d_Co_holds_1 (by rw [h13]; decide) (by rw [h13]; decide) (by rw [h13]; rfl) (by decide) ?_
    refine lv_iconst (v := 1) hx hb d_Co_holds_128 (by decide) ?_
    exact W.zret (ty := .boolean) hx hb hr rfl (fun t ht hW => ⟨congrArg (fun z => Outcome.returned (some (Value.int z))) (show 1 = qf_Co_holds k x y from (by unfold qf_Co_holds; rw [if_neg h1, if_neg h3, if_neg h5, if_neg h7, if_neg h9, if_neg h11, if_pos h13])), ht⟩) (fun _ h => absurd h List.not_mem_nil) d_Co_holds_129
  refine lv_tableOut (tgt := 130) hx hb d_Co_holds_1 (by have a0 := lv_neT (a := 1) h1 (by decide); have a1 := lv_neT (a := 2) h3 (by decide); have a2 := lv_neT (a := 3) h5 (by decide); have a3 := lv_neT (a := 4) h7 (by decide); have a4 := lv_neT (a := 5) h9 (by decide); have a5 := lv_neT (a := 6) h11 (by decide); have a6 := lv_neT (a := 7) h13 (by decide); omega) (by decide) ?_
  refine lv_iconst (v := 0) hx hb d_Co_holds_130 (by decide) ?_
  exact W.zret (ty := .boolean) hx hb hr rfl (fun t ht hW => ⟨congrArg (fun z => Outcome.returned (some (Value.int z))) (show 0 = qf_Co_holds k x y from (by unfold qf_Co_holds; rw [if_neg h1, if_neg h3, if_neg h5, if_neg h7, if_neg h9, if_neg h11, if_neg h13])), ht⟩) (fun _ h => absurd h List.not_mem_nil) d_Co_holds_131
def qf_Q_isSpace (x : Int32) : Int32 :=
  if x < 0 then 0
  else if 4 ≤ x then 0
  else 1
set_option maxHeartbeats 4000000 in
set_option maxRecDepth 100000 in
theorem c_Q_isSpace (l : Launch) (D : va_G) (cA : ClassId) (x : Int32) : Met l y_Q_isSpace (Cond.code y_Q_isSpace b_Q_isSpace 1 (some .boolean) :: qx_T) ({ frames := 0, cells := 0, slots := 0, locals := 0 }) (qx_Pc D vwCl [(cA, .int)] ([]) [.int x]) (k2_QcV (.int (qf_Q_isSpace x))) 0 0 (fun _ => False) := by
  refine Met.ofW (cc := b_Q_isSpace) (maxL := 1) (ret := (some .boolean)) (by decide) rfl ?_
  intro p e s m args below meth c s₁ B hml hv
  obtain ⟨rfl, hP, hK, hN, hD0⟩ := hv
  have hx := B.exec
  have hb := B.bytes
  have hr := B.returns
  have hts0 := atoms_spec (ws := Cond.code y_Q_isSpace b_Q_isSpace 1 (some .boolean) :: qx_T) B.pre
  have hts := fun w h => hts0 w (List.mem_cons_of_mem _ h)
  have hown : s.vm.findClass R_Q = some m.cls := findClass_of_methodNamed B.named
  have hlocks := B.notSynchronized
  have hD : va_D (qx_ad ([])) ([]) := ⟨hD0.1, fun k q hk => ⟨k, q.2, hk⟩⟩
  generalize hAe : qx_ad ([]) = A at hD
  have hS : va_S A s.heap s.heap [] := va_S.rf
  have hl := lv_entry ([.int x]) (n := 1) (Nat.le_of_ble_eq_true rfl)
  rw [lg_entry_eq]
  generalize (lg_sl ([.int x]) ++ List.replicate (1 - (lg_sl ([.int x])).length) Slot.unset).toArray = ls at hl ⊢
  have hl : lv_has ls 1 [(0, .int x)] := hl
  refine lv_iload_n hx hb d_Q_isSpace_0 rfl (lv_at hl 0 rfl) ?_
  refine lv_if_lt (tgt := 13) hx hb d_Q_isSpace_1 (by decide) (fun h1 => ?_) (fun h1 => ?_)
  · skip
    refine lv_iconst (v := 0) hx hb d_Q_isSpace_13 (by decide) ?_
    exact W.zret (ty := .boolean) hx hb hr rfl (fun t ht hW => ⟨congrArg (fun z => Outcome.returned (some (Value.int z))) (show 0 = qf_Q_isSpace x from (by unfold qf_Q_isSpace; rw [if_pos h1])), ht⟩) (fun _ h => absurd h List.not_mem_nil) d_Q_isSpace_14
  · skip
    refine lv_iload_n hx hb d_Q_isSpace_4 rfl (lv_at hl 0 rfl) ?_
    refine lv_iconst (v := 4) hx hb d_Q_isSpace_5 (by decide) ?_
    refine lv_icmp_ge (tgt := 13) hx hb d_Q_isSpace_6 (by decide) (fun h2 => ?_) (fun h2 => ?_)
    · skip
      refine lv_iconst (v := 0) hx hb d_Q_isSpace_13 (by decide) ?_
      exact W.zret (ty := .boolean) hx hb hr rfl (fun t ht hW => ⟨congrArg (fun z => Outcome.returned (some (Value.int z))) (show 0 = qf_Q_isSpace x from (by unfold qf_Q_isSpace; rw [if_neg h1, if_pos h2])), ht⟩) (fun _ h => absurd h List.not_mem_nil) d_Q_isSpace_14
    · skip
      refine lv_iconst (v := 1) hx hb d_Q_isSpace_9 (by decide) ?_
      refine lv_goto (tgt := 14) hx hb d_Q_isSpace_10 (by decide) ?_
      exact W.zret (ty := .boolean) hx hb hr rfl (fun t ht hW => ⟨congrArg (fun z => Outcome.returned (some (Value.int z))) (show 1 = qf_Q_isSpace x from (by unfold qf_Q_isSpace; rw [if_neg h1, if_neg h2])), ht⟩) (fun _ h => absurd h List.not_mem_nil) d_Q_isSpace_14
def qf_Q_isPlace (x : Int32) (y : Int32) : Int32 :=
  if qf_Q_isSpace x = 0 then 0
  else if y < 0 then 0
  else if 32 ≤ y then 0
  else 1
set_option maxHeartbeats 4000000 in
set_option maxRecDepth 100000 in
theorem c_Q_isPlace (l : Launch) (D : va_G) (cA : ClassId) (x : Int32) (y : Int32) : Met l y_Q_isPlace (Cond.code y_Q_isPlace b_Q_isPlace 2 (some .boolean) :: qx_T) ({ frames := 1, cells := 0, slots := 0, locals := 20 }) (qx_Pc D vwCl [(cA, .int)] ([]) [.int x, .int y]) (k2_QcV (.int (qf_Q_isPlace x y))) 0 0 (fun _ => False) := by
  refine Met.ofW (cc := b_Q_isPlace) (maxL := 2) (ret := (some .boolean)) (by decide) rfl ?_
  intro p e s m args below meth c s₁ B hml hv
  obtain ⟨rfl, hP, hK, hN, hD0⟩ := hv
  have hx := B.exec
  have hb := B.bytes
  have hr := B.returns
  have hts0 := atoms_spec (ws := Cond.code y_Q_isPlace b_Q_isPlace 2 (some .boolean) :: qx_T) B.pre
  have hts := fun w h => hts0 w (List.mem_cons_of_mem _ h)
  have hown : s.vm.findClass R_Q = some m.cls := findClass_of_methodNamed B.named
  have hlocks := B.notSynchronized
  have hD : va_D (qx_ad ([])) ([]) := ⟨hD0.1, fun k q hk => ⟨k, q.2, hk⟩⟩
  generalize hAe : qx_ad ([]) = A at hD
  have hS : va_S A s.heap s.heap [] := va_S.rf
  have hl := lv_entry ([.int x, .int y]) (n := 2) (Nat.le_of_ble_eq_true rfl)
  rw [lg_entry_eq]
  generalize (lg_sl ([.int x, .int y]) ++ List.replicate (2 - (lg_sl ([.int x, .int y])).length) Slot.unset).toArray = ls at hl ⊢
  have hl : lv_has ls 2 [(0, .int x), (1, .int y)] := hl
  refine lv_iload_n hx hb d_Q_isPlace_0 rfl (lv_at hl 0 rfl) ?_
  refine qx_rd (va_runS (As := [.int x]) (rest := []) ⟨hx, hb, hml, hown, hts⟩ (c_Q_isSpace l D cA x) (qx_kS hts mw_147 mw_148 mw_29 mw_149 cd_Q_isSpace ⟨Nat.le_of_ble_eq_true rfl, Nat.le_of_ble_eq_true rfl⟩) (qx_preS hP hD hK hN [] rfl rfl) rfl rfl hl.1 rfl (lv_room (Nat.le_of_ble_eq_true rfl)) d_Q_isPlace_1 ⟨Nat.zero_le _, Nat.zero_le _⟩) ?_
  refine lv_if_eq (tgt := 21) hx hb d_Q_isPlace_4 (by decide) (fun h1 => ?_) (fun h1 => ?_)
  · skip
    refine lv_iconst (v := 0) hx hb d_Q_isPlace_21 (by decide) ?_
    exact W.zret (ty := .boolean) hx hb hr rfl (fun t ht hW => ⟨congrArg (fun z => Outcome.returned (some (Value.int z))) (show 0 = qf_Q_isPlace x y from (by unfold qf_Q_isPlace; rw [if_pos h1])), ht⟩) (fun _ h => absurd h List.not_mem_nil) d_Q_isPlace_22
  · skip
    refine lv_iload_n hx hb d_Q_isPlace_7 rfl (lv_at hl 1 rfl) ?_
    refine lv_if_lt (tgt := 21) hx hb d_Q_isPlace_8 (by decide) (fun h2 => ?_) (fun h2 => ?_)
    · skip
      refine lv_iconst (v := 0) hx hb d_Q_isPlace_21 (by decide) ?_
      exact W.zret (ty := .boolean) hx hb hr rfl (fun t ht hW => ⟨congrArg (fun z => Outcome.returned (some (Value.int z))) (show 0 = qf_Q_isPlace x y from (by unfold qf_Q_isPlace; rw [if_neg h1, if_pos h2])), ht⟩) (fun _ h => absurd h List.not_mem_nil) d_Q_isPlace_22
    · skip
      refine lv_iload_n hx hb d_Q_isPlace_11 rfl (lv_at hl 1 rfl) ?_
      refine lv_bipush (v := 32) hx hb d_Q_isPlace_12 (by decide) ?_
      refine lv_icmp_ge (tgt := 21) hx hb d_Q_isPlace_14 (by decide) (fun h3 => ?_) (fun h3 => ?_)
      · skip
        refine lv_iconst (v := 0) hx hb d_Q_isPlace_21 (by decide) ?_
        exact W.zret (ty := .boolean) hx hb hr rfl (fun t ht hW => ⟨congrArg (fun z => Outcome.returned (some (Value.int z))) (show 0 = qf_Q_isPlace x y from (by unfold qf_Q_isPlace; rw [if_neg h1, if_neg h2, if_pos h3])), ht⟩) (fun _ h => absurd h List.not_mem_nil) d_Q_isPlace_22
      · skip
        refine lv_iconst (v := 1) hx hb d_Q_isPlace_17 (by decide) ?_
        refine lv_goto (tgt := 22) hx hb d_Q_isPlace_18 (by decide) ?_
        exact W.zret (ty := .boolean) hx hb hr rfl (fun t ht hW => ⟨congrArg (fun z => Outcome.returned (some (Value.int z))) (show 1 = qf_Q_isPlace x y from (by unfold qf_Q_isPlace; rw [if_neg h1, if_neg h2, if_neg h3])), ht⟩) (fun _ h => absurd h List.not_mem_nil) d_Q_isPlace_22
def qf_Q_isDataOffset (x : Int32) : Int32 :=
  if x < 0 then 0
  else if 16 ≤ x then 0
  else 1
set_option maxHeartbeats 4000000 in
set_option maxRecDepth 100000 in
theorem c_Q_isDataOffset (l : Launch) (D : va_G) (cA : ClassId) (x : Int32) : Met l y_Q_isDataOffset (Cond.code y_Q_isDataOffset b_Q_isDataOffset 1 (some .boolean) :: qx_T) ({ frames := 0, cells := 0, slots := 0, locals := 0 }) (qx_Pc D vwCl [(cA, .int)] ([]) [.int x]) (k2_QcV (.int (qf_Q_isDataOffset x))) 0 0 (fun _ => False) := by
  refine Met.ofW (cc := b_Q_isDataOffset) (maxL := 1) (ret := (some .boolean)) (by decide) rfl ?_
  intro p e s m args below meth c s₁ B hml hv
  obtain ⟨rfl, hP, hK, hN, hD0⟩ := hv
  have hx := B.exec
  have hb := B.bytes
  have hr := B.returns
  have hts0 := atoms_spec (ws := Cond.code y_Q_isDataOffset b_Q_isDataOffset 1 (some .boolean) :: qx_T) B.pre
  have hts := fun w h => hts0 w (List.mem_cons_of_mem _ h)
  have hown : s.vm.findClass R_Q = some m.cls := findClass_of_methodNamed B.named
  have hlocks := B.notSynchronized
  have hD : va_D (qx_ad ([])) ([]) := ⟨hD0.1, fun k q hk => ⟨k, q.2, hk⟩⟩
  generalize hAe : qx_ad ([]) = A at hD
  have hS : va_S A s.heap s.heap [] := va_S.rf
  have hl := lv_entry ([.int x]) (n := 1) (Nat.le_of_ble_eq_true rfl)
  rw [lg_entry_eq]
  generalize (lg_sl ([.int x]) ++ List.replicate (1 - (lg_sl ([.int x])).length) Slot.unset).toArray = ls at hl ⊢
  have hl : lv_has ls 1 [(0, .int x)] := hl
  refine lv_iload_n hx hb d_Q_isDataOffset_0 rfl (lv_at hl 0 rfl) ?_
  refine lv_if_lt (tgt := 14) hx hb d_Q_isDataOffset_1 (by decide) (fun h1 => ?_) (fun h1 => ?_)
  · skip
    refine lv_iconst (v := 0) hx hb d_Q_isDataOffset_14 (by decide) ?_
    exact W.zret (ty := .boolean) hx hb hr rfl (fun t ht hW => ⟨congrArg (fun z => Outcome.returned (some (Value.int z))) (show 0 = qf_Q_isDataOffset x from (by unfold qf_Q_isDataOffset; rw [if_pos h1])), ht⟩) (fun _ h => absurd h List.not_mem_nil) d_Q_isDataOffset_15
  · skip
    refine lv_iload_n hx hb d_Q_isDataOffset_4 rfl (lv_at hl 0 rfl) ?_
    refine lv_bipush (v := 16) hx hb d_Q_isDataOffset_5 (by decide) ?_
    refine lv_icmp_ge (tgt := 14) hx hb d_Q_isDataOffset_7 (by decide) (fun h2 => ?_) (fun h2 => ?_)
    · skip
      refine lv_iconst (v := 0) hx hb d_Q_isDataOffset_14 (by decide) ?_
      exact W.zret (ty := .boolean) hx hb hr rfl (fun t ht hW => ⟨congrArg (fun z => Outcome.returned (some (Value.int z))) (show 0 = qf_Q_isDataOffset x from (by unfold qf_Q_isDataOffset; rw [if_neg h1, if_pos h2])), ht⟩) (fun _ h => absurd h List.not_mem_nil) d_Q_isDataOffset_15
    · skip
      refine lv_iconst (v := 1) hx hb d_Q_isDataOffset_10 (by decide) ?_
      refine lv_goto (tgt := 15) hx hb d_Q_isDataOffset_11 (by decide) ?_
      exact W.zret (ty := .boolean) hx hb hr rfl (fun t ht hW => ⟨congrArg (fun z => Outcome.returned (some (Value.int z))) (show 1 = qf_Q_isDataOffset x from (by unfold qf_Q_isDataOffset; rw [if_neg h1, if_neg h2])), ht⟩) (fun _ h => absurd h List.not_mem_nil) d_Q_isDataOffset_15
def qf_Q_isRegister (x : Int32) : Int32 :=
  if x < 0 then 0
  else if 8 ≤ x then 0
  else 1
set_option maxHeartbeats 4000000 in
set_option maxRecDepth 100000 in
theorem c_Q_isRegister (l : Launch) (D : va_G) (cA : ClassId) (x : Int32) : Met l y_Q_isRegister (Cond.code y_Q_isRegister b_Q_isRegister 1 (some .boolean) :: qx_T) ({ frames := 0, cells := 0, slots := 0, locals := 0 }) (qx_Pc D vwCl [(cA, .int)] ([]) [.int x]) (k2_QcV (.int (qf_Q_isRegister x))) 0 0 (fun _ => False) := by
  refine Met.ofW (cc := b_Q_isRegister) (maxL := 1) (ret := (some .boolean)) (by decide) rfl ?_
  intro p e s m args below meth c s₁ B hml hv
  obtain ⟨rfl, hP, hK, hN, hD0⟩ := hv
  have hx := B.exec
  have hb := B.bytes
  have hr := B.returns
  have hts0 := atoms_spec (ws := Cond.code y_Q_isRegister b_Q_isRegister 1 (some .boolean) :: qx_T) B.pre
  have hts := fun w h => hts0 w (List.mem_cons_of_mem _ h)
  have hown : s.vm.findClass R_Q = some m.cls := findClass_of_methodNamed B.named
  have hlocks := B.notSynchronized
  have hD : va_D (qx_ad ([])) ([]) := ⟨hD0.1, fun k q hk => ⟨k, q.2, hk⟩⟩
  generalize hAe : qx_ad ([]) = A at hD
  have hS : va_S A s.heap s.heap [] := va_S.rf
  have hl := lv_entry ([.int x]) (n := 1) (Nat.le_of_ble_eq_true rfl)
  rw [lg_entry_eq]
  generalize (lg_sl ([.int x]) ++ List.replicate (1 - (lg_sl ([.int x])).length) Slot.unset).toArray = ls at hl ⊢
  have hl : lv_has ls 1 [(0, .int x)] := hl
  refine lv_iload_n hx hb d_Q_isRegister_0 rfl (lv_at hl 0 rfl) ?_
  refine lv_if_lt (tgt := 14) hx hb d_Q_isRegister_1 (by decide) (fun h1 => ?_) (fun h1 => ?_)
  · skip
    refine lv_iconst (v := 0) hx hb d_Q_isRegister_14 (by decide) ?_
    exact W.zret (ty := .boolean) hx hb hr rfl (fun t ht hW => ⟨congrArg (fun z => Outcome.returned (some (Value.int z))) (show 0 = qf_Q_isRegister x from (by unfold qf_Q_isRegister; rw [if_pos h1])), ht⟩) (fun _ h => absurd h List.not_mem_nil) d_Q_isRegister_15
  · skip
    refine lv_iload_n hx hb d_Q_isRegister_4 rfl (lv_at hl 0 rfl) ?_
    refine lv_bipush (v := 8) hx hb d_Q_isRegister_5 (by decide) ?_
    refine lv_icmp_ge (tgt := 14) hx hb d_Q_isRegister_7 (by decide) (fun h2 => ?_) (fun h2 => ?_)
    · skip
      refine lv_iconst (v := 0) hx hb d_Q_isRegister_14 (by decide) ?_
      exact W.zret (ty := .boolean) hx hb hr rfl (fun t ht hW => ⟨congrArg (fun z => Outcome.returned (some (Value.int z))) (show 0 = qf_Q_isRegister x from (by unfold qf_Q_isRegister; rw [if_neg h1, if_pos h2])), ht⟩) (fun _ h => absurd h List.not_mem_nil) d_Q_isRegister_15
    · skip
      refine lv_iconst (v := 1) hx hb d_Q_isRegister_10 (by decide) ?_
      refine lv_goto (tgt := 15) hx hb d_Q_isRegister_11 (by decide) ?_
      exact W.zret (ty := .boolean) hx hb hr rfl (fun t ht hW => ⟨congrArg (fun z => Outcome.returned (some (Value.int z))) (show 1 = qf_Q_isRegister x from (by unfold qf_Q_isRegister; rw [if_neg h1, if_neg h2])), ht⟩) (fun _ h => absurd h List.not_mem_nil) d_Q_isRegister_15
def qf_Q_isSpaceRegister (x : Int32) : Int32 :=
  if x < 0 then 0
  else if 4 ≤ x then 0
  else 1
set_option maxHeartbeats 4000000 in
set_option maxRecDepth 100000 in
theorem c_Q_isSpaceRegister (l : Launch) (D : va_G) (cA : ClassId) (x : Int32) : Met l y_Q_isSpaceRegister (Cond.code y_Q_isSpaceRegister b_Q_isSpaceRegister 1 (some .boolean) :: qx_T) ({ frames := 0, cells := 0, slots := 0, locals := 0 }) (qx_Pc D vwCl [(cA, .int)] ([]) [.int x]) (k2_QcV (.int (qf_Q_isSpaceRegister x))) 0 0 (fun _ => False) := by
  refine Met.ofW (cc := b_Q_isSpaceRegister) (maxL := 1) (ret := (some .boolean)) (by decide) rfl ?_
  intro p e s m args below meth c s₁ B hml hv
  obtain ⟨rfl, hP, hK, hN, hD0⟩ := hv
  have hx := B.exec
  have hb := B.bytes
  have hr := B.returns
  have hts0 := atoms_spec (ws := Cond.code y_Q_isSpaceRegister b_Q_isSpaceRegister 1 (some .boolean) :: qx_T) B.pre
  have hts := fun w h => hts0 w (List.mem_cons_of_mem _ h)
  have hown : s.vm.findClass R_Q = some m.cls := findClass_of_methodNamed B.named
  have hlocks := B.notSynchronized
  have hD : va_D (qx_ad ([])) ([]) := ⟨hD0.1, fun k q hk => ⟨k, q.2, hk⟩⟩
  generalize hAe : qx_ad ([]) = A at hD
  have hS : va_S A s.heap s.heap [] := va_S.rf
  have hl := lv_entry ([.int x]) (n := 1) (Nat.le_of_ble_eq_true rfl)
  rw [lg_entry_eq]
  generalize (lg_sl ([.int x]) ++ List.replicate (1 - (lg_sl ([.int x])).length) Slot.unset).toArray = ls at hl ⊢
  have hl : lv_has ls 1 [(0, .int x)] := hl
  refine lv_iload_n hx hb d_Q_isSpaceRegister_0 rfl (lv_at hl 0 rfl) ?_
  refine lv_if_lt (tgt := 13) hx hb d_Q_isSpaceRegister_1 (by decide) (fun h1 => ?_) (fun h1 => ?_)
  · skip
    refine lv_iconst (v := 0) hx hb d_Q_isSpaceRegister_13 (by decide) ?_
    exact W.zret (ty := .boolean) hx hb hr rfl (fun t ht hW => ⟨congrArg (fun z => Outcome.returned (some (Value.int z))) (show 0 = qf_Q_isSpaceRegister x from (by unfold qf_Q_isSpaceRegister; rw [if_pos h1])), ht⟩) (fun _ h => absurd h List.not_mem_nil) d_Q_isSpaceRegister_14
  · skip
    refine lv_iload_n hx hb d_Q_isSpaceRegister_4 rfl (lv_at hl 0 rfl) ?_
    refine lv_iconst (v := 4) hx hb d_Q_isSpaceRegister_5 (by decide) ?_
    refine lv_icmp_ge (tgt := 13) hx hb d_Q_isSpaceRegister_6 (by decide) (fun h2 => ?_) (fun h2 => ?_)
    · skip
      refine lv_iconst (v := 0) hx hb d_Q_isSpaceRegister_13 (by decide) ?_
      exact W.zret (ty := .boolean) hx hb hr rfl (fun t ht hW => ⟨congrArg (fun z => Outcome.returned (some (Value.int z))) (show 0 = qf_Q_isSpaceRegister x from (by unfold qf_Q_isSpaceRegister; rw [if_neg h1, if_pos h2])), ht⟩) (fun _ h => absurd h List.not_mem_nil) d_Q_isSpaceRegister_14
    · skip
      refine lv_iconst (v := 1) hx hb d_Q_isSpaceRegister_9 (by decide) ?_
      refine lv_goto (tgt := 14) hx hb d_Q_isSpaceRegister_10 (by decide) ?_
      exact W.zret (ty := .boolean) hx hb hr rfl (fun t ht hW => ⟨congrArg (fun z => Outcome.returned (some (Value.int z))) (show 1 = qf_Q_isSpaceRegister x from (by unfold qf_Q_isSpaceRegister; rw [if_neg h1, if_neg h2])), ht⟩) (fun _ h => absurd h List.not_mem_nil) d_Q_isSpaceRegister_14
def qf_Q_dataIndex (x : Int32) (y : Int32) : Int32 :=
  ((x * 16) + y)
set_option maxHeartbeats 4000000 in
set_option maxRecDepth 100000 in
theorem c_Q_dataIndex (l : Launch) (D : va_G) (cA : ClassId) (x : Int32) (y : Int32) : Met l y_Q_dataIndex (Cond.code y_Q_dataIndex b_Q_dataIndex 2 (some .int) :: qx_T) ({ frames := 0, cells := 0, slots := 0, locals := 0 }) (qx_Pc D vwCl [(cA, .int)] ([]) [.int x, .int y]) (k2_QcV (.int (qf_Q_dataIndex x y))) 0 0 (fun _ => False) := by
  refine Met.ofW (cc := b_Q_dataIndex) (maxL := 2) (ret := (some .int)) (by decide) rfl ?_
  intro p e s m args below meth c s₁ B hml hv
  obtain ⟨rfl, hP, hK, hN, hD0⟩ := hv
  have hx := B.exec
  have hb := B.bytes
  have hr := B.returns
  have hts0 := atoms_spec (ws := Cond.code y_Q_dataIndex b_Q_dataIndex 2 (some .int) :: qx_T) B.pre
  have hts := fun w h => hts0 w (List.mem_cons_of_mem _ h)
  have hown : s.vm.findClass R_Q = some m.cls := findClass_of_methodNamed B.named
  have hlocks := B.notSynchronized
  have hD : va_D (qx_ad ([])) ([]) := ⟨hD0.1, fun k q hk => ⟨k, q.2, hk⟩⟩
  generalize hAe : qx_ad ([]) = A at hD
  have hS : va_S A s.heap s.heap [] := va_S.rf
  have hl := lv_entry ([.int x, .int y]) (n := 2) (Nat.le_of_ble_eq_true rfl)
  rw [lg_entry_eq]
  generalize (lg_sl ([.int x, .int y]) ++ List.replicate (2 - (lg_sl ([.int x, .int y])).length) Slot.unset).toArray = ls at hl ⊢
  have hl : lv_has ls 2 [(0, .int x), (1, .int y)] := hl
  refine lv_iload_n hx hb d_Q_dataIndex_0 rfl (lv_at hl 0 rfl) ?_
  refine lv_bipush (v := 16) hx hb d_Q_dataIndex_1 (by decide) ?_
  refine lv_imul hx hb d_Q_dataIndex_3 ?_
  refine lv_iload_n hx hb d_Q_dataIndex_4 rfl (lv_at hl 1 rfl) ?_
  refine lv_iadd hx hb d_Q_dataIndex_5 ?_
  exact W.iret hx hb hr (fun t ht hW => ⟨congrArg (fun z => Outcome.returned (some (Value.int z))) (show ((x * 16) + y) = qf_Q_dataIndex x y from rfl), ht⟩) (fun _ h => absurd h List.not_mem_nil) d_Q_dataIndex_6
def qf_F_init (st : qs_F) : qs_F :=
  (qm_F_l (qm_F_n (qm_F_b (qm_F_a st 0) 0) 0) 0)
set_option maxHeartbeats 4000000 in
set_option maxRecDepth 100000 in
theorem c_F_init (l : Launch) (D : va_G) (cA : ClassId) (fh : Nat) (st : qs_F) : Met l y_F_init (Cond.code y_F_init b_F_init 1 none :: qx_T) ({ frames := 1, cells := 0, slots := 0, locals := 20 }) (qx_Pc D vwCl [(cA, .int)] (qw_F fh st) [.ref fh]) (qx_Q D vwCl (qw_F fh (qf_F_init st)) (qx_ad (qw_F fh st)) none) 0 0 (qx_ad (qw_F fh st)) := by
  refine Met.ofW (cc := b_F_init) (maxL := 1) (ret := none) (by decide) rfl ?_
  intro p e s m args below meth c s₁ B hml hv
  obtain ⟨rfl, hP, hK, hN, hD0⟩ := hv
  have hx := B.exec
  have hb := B.bytes
  have hr := B.returns
  have hts0 := atoms_spec (ws := Cond.code y_F_init b_F_init 1 none :: qx_T) B.pre
  have hts := fun w h => hts0 w (List.mem_cons_of_mem _ h)
  have hown : s.vm.findClass R_F = some m.cls := findClass_of_methodNamed B.named
  have hlocks := B.notSynchronized
  have hD : va_D (qx_ad (qw_F fh st)) (qw_F fh st) := ⟨hD0.1, fun k q hk => ⟨k, q.2, hk⟩⟩
  generalize hAe : qx_ad (qw_F fh st) = A at hD ⊢
  have hS : va_S A s.heap s.heap [] := va_S.rf
  have hl := lv_entry ([.ref fh]) (n := 1) (Nat.le_of_ble_eq_true rfl)
  rw [lg_entry_eq]
  generalize (lg_sl ([.ref fh]) ++ List.replicate (1 - (lg_sl ([.ref fh])).length) Slot.unset).toArray = ls at hl ⊢
  have hl : lv_has ls 1 [(0, .ref fh)] := hl
  refine lv_aload_n hx hb d_F_init_0 rfl (lv_at hl 0 rfl) ?_
  refine W.objInit hx hb hown (hts (Cond.methodLink R_F 1 objectInit) mw_56) (hts (.instanceMethod objectInit) mw_43) (hts (.code objectInit ⟨#[0xb1]⟩ 1 none) mw_44) rfl (by rw [hml]; exact hl.1) rfl d_F_init_1 (Nat.le_of_ble_eq_true rfl) (Nat.le_of_ble_eq_true rfl) ?_
  refine W.eq (g2 := F0 m 4 ls []) rfl ?_
  refine lv_aload_n hx hb d_F_init_4 rfl (lv_at hl 0 rfl) ?_
  refine lv_iconst (v := 0) hx hb d_F_init_5 (by decide) ?_
  refine va_put (D := D) (ci := 2) (v := .int 0) (ty := .int) (C := R_F) (T := T_F) (N := 4) hx hb hts in_F ty_F tyok_F nm_F hown hK hP hD hS 0 rfl rfl 0 (by decide) (hts (Cond.fieldLink R_F 7 "QueuedFronts$Flow" "front" "I") mw_57) (fun _ h9 => h9) rfl (by decide +kernel) rfl rfl (Nat.le_of_ble_eq_true rfl) d_F_init_6 (fun H locs hP hD hS => ?_)
  have hP : va_P D vwCl (qw_F fh (qm_F_a st 0)) H := hP
  have hD : va_D A (qw_F fh (qm_F_a st 0)) := hD
  refine lv_aload_n hx hb d_F_init_9 rfl (lv_at hl 0 rfl) ?_
  refine lv_iconst (v := 0) hx hb d_F_init_10 (by decide) ?_
  refine va_put (D := D) (ci := 2) (v := .int 0) (ty := .int) (C := R_F) (T := T_F) (N := 4) hx hb hts in_F ty_F tyok_F nm_F hown hK hP hD hS 0 rfl rfl 1 (by decide) (hts (Cond.fieldLink R_F 13 "QueuedFronts$Flow" "back" "I") mw_60) (fun _ h9 => h9) rfl (by decide +kernel) rfl rfl (Nat.le_of_ble_eq_true rfl) d_F_init_11 (fun H locs hP hD hS => ?_)
  have hP : va_P D vwCl (qw_F fh (qm_F_b (qm_F_a st 0) 0)) H := hP
  have hD : va_D A (qw_F fh (qm_F_b (qm_F_a st 0) 0)) := hD
  refine lv_aload_n hx hb d_F_init_14 rfl (lv_at hl 0 rfl) ?_
  refine lv_iconst (v := 0) hx hb d_F_init_15 (by decide) ?_
  refine va_put (D := D) (ci := 2) (v := .int 0) (ty := .int) (C := R_F) (T := T_F) (N := 4) hx hb hts in_F ty_F tyok_F nm_F hown hK hP hD hS 0 rfl rfl 2 (by decide) (hts (Cond.fieldLink R_F 16 "QueuedFronts$Flow" "nullify" "I") mw_63) (fun _ h9 => h9) rfl (by decide +kernel) rfl rfl (Nat.le_of_ble_eq_true rfl) d_F_init_16 (fun H locs hP hD hS => ?_)
  have hP : va_P D vwCl (qw_F fh (qm_F_n (qm_F_b (qm_F_a st 0) 0) 0)) H := hP
  have hD : va_D A (qw_F fh (qm_F_n (qm_F_b (qm_F_a st 0) 0) 0)) := hD
  refine lv_aload_n hx hb d_F_init_19 rfl (lv_at hl 0 rfl) ?_
  refine lv_iconst (v := 0) hx hb d_F_init_20 (by decide) ?_
  refine va_put (D := D) (ci := 2) (v := .int 0) (ty := .int) (C := R_F) (T := T_F) (N := 4) hx hb hts in_F ty_F tyok_F nm_F hown hK hP hD hS 0 rfl rfl 3 (by decide) (hts (Cond.fieldLink R_F 19 "QueuedFronts$Flow" "lets" "I") mw_66) (fun _ h9 => h9) rfl (by decide +kernel) rfl rfl (Nat.le_of_ble_eq_true rfl) d_F_init_21 (fun H locs hP hD hS => ?_)
  have hP : va_P D vwCl (qw_F fh (qm_F_l (qm_F_n (qm_F_b (qm_F_a st 0) 0) 0) 0)) H := hP
  have hD : va_D A (qw_F fh (qm_F_l (qm_F_n (qm_F_b (qm_F_a st 0) 0) 0) 0)) := hD
  have e9 : (qm_F_l (qm_F_n (qm_F_b (qm_F_a st 0) 0) 0) 0) = qf_F_init st := rfl
  exact W.vret hx hb hr (fun t ht hW => ⟨rfl, (by rw [ht, ← e9]; exact hP), hS.F ht⟩) hS.2.2 d_F_init_24
def qf_F_startAt (st : qs_F) (x : Int32) (y : Int32) : qs_F :=
  (qm_F_l (qm_F_n (qm_F_b (qm_F_a st x) (qf_Pl_behind x)) 0) y)
set_option maxHeartbeats 4000000 in
set_option maxRecDepth 100000 in
theorem c_F_startAt (l : Launch) (D : va_G) (cA : ClassId) (fh : Nat) (st : qs_F) (x : Int32) (y : Int32) : Met l y_F_startAt (Cond.code y_F_startAt b_F_startAt 3 none :: qx_T) ({ frames := 2, cells := 0, slots := 0, locals := 41 }) (qx_Pc D vwCl [(cA, .int)] (qw_F fh st) [.ref fh, .int x, .int y]) (qx_Q D vwCl (qw_F fh (qf_F_startAt st x y)) (qx_ad (qw_F fh st)) none) 0 0 (qx_ad (qw_F fh st)) := by
  refine Met.ofW (cc := b_F_startAt) (maxL := 3) (ret := none) (by decide) rfl ?_
  intro p e s m args below meth c s₁ B hml hv
  obtain ⟨rfl, hP, hK, hN, hD0⟩ := hv
  have hx := B.exec
  have hb := B.bytes
  have hr := B.returns
  have hts0 := atoms_spec (ws := Cond.code y_F_startAt b_F_startAt 3 none :: qx_T) B.pre
  have hts := fun w h => hts0 w (List.mem_cons_of_mem _ h)
  have hown : s.vm.findClass R_F = some m.cls := findClass_of_methodNamed B.named
  have hlocks := B.notSynchronized
  have hD : va_D (qx_ad (qw_F fh st)) (qw_F fh st) := ⟨hD0.1, fun k q hk => ⟨k, q.2, hk⟩⟩
  generalize hAe : qx_ad (qw_F fh st) = A at hD ⊢
  have hS : va_S A s.heap s.heap [] := va_S.rf
  have hl := lv_entry ([.ref fh, .int x, .int y]) (n := 3) (Nat.le_of_ble_eq_true rfl)
  rw [lg_entry_eq]
  generalize (lg_sl ([.ref fh, .int x, .int y]) ++ List.replicate (3 - (lg_sl ([.ref fh, .int x, .int y])).length) Slot.unset).toArray = ls at hl ⊢
  have hl : lv_has ls 3 [(0, .ref fh), (1, .int x), (2, .int y)] := hl
  refine lv_aload_n hx hb d_F_startAt_0 rfl (lv_at hl 0 rfl) ?_
  refine lv_iload_n hx hb d_F_startAt_1 rfl (lv_at hl 1 rfl) ?_
  refine va_put (D := D) (ci := 2) (v := .int x) (ty := .int) (C := R_F) (T := T_F) (N := 4) hx hb hts in_F ty_F tyok_F nm_F hown hK hP hD hS 0 rfl rfl 0 (by decide) (hts (Cond.fieldLink R_F 7 "QueuedFronts$Flow" "front" "I") mw_57) (fun _ h9 => h9) rfl (by decide +kernel) rfl rfl (Nat.le_of_ble_eq_true rfl) d_F_startAt_2 (fun H locs hP hD hS => ?_)
  have hP : va_P D vwCl (qw_F fh (qm_F_a st x)) H := hP
  have hD : va_D A (qw_F fh (qm_F_a st x)) := hD
  refine lv_aload_n hx hb d_F_startAt_5 rfl (lv_at hl 0 rfl) ?_
  refine lv_iload_n hx hb d_F_startAt_6 rfl (lv_at hl 1 rfl) ?_
  refine qx_rd (va_runS (As := [.int x]) (rest := [.ref fh]) ⟨hx, hb, hml, hown, hts⟩ (c_Pl_behind l D cA x) (qx_kS hts mw_83 mw_84 mw_32 mw_85 cd_Pl_behind ⟨Nat.le_of_ble_eq_true rfl, Nat.le_of_ble_eq_true rfl⟩) (qx_preS hP hD hK hN [] rfl rfl) rfl rfl hl.1 rfl (lv_room (Nat.le_of_ble_eq_true rfl)) d_F_startAt_7 ⟨Nat.zero_le _, Nat.zero_le _⟩) ?_
  refine va_put (D := D) (ci := 2) (v := .int (qf_Pl_behind x)) (ty := .int) (C := R_F) (T := T_F) (N := 4) hx hb hts in_F ty_F tyok_F nm_F hown hK hP hD hS 0 rfl rfl 1 (by decide) (hts (Cond.fieldLink R_F 13 "QueuedFronts$Flow" "back" "I") mw_60) (fun _ h9 => h9) rfl (by decide +kernel) rfl rfl (Nat.le_of_ble_eq_true rfl) d_F_startAt_10 (fun H locs hP hD hS => ?_)
  have hP : va_P D vwCl (qw_F fh (qm_F_b (qm_F_a st x) (qf_Pl_behind x))) H := hP
  have hD : va_D A (qw_F fh (qm_F_b (qm_F_a st x) (qf_Pl_behind x))) := hD
  refine lv_aload_n hx hb d_F_startAt_13 rfl (lv_at hl 0 rfl) ?_
  refine lv_iconst (v := 0) hx hb d_F_startAt_14 (by decide) ?_
  refine va_put (D := D) (ci := 2) (v := .int 0) (ty := .int) (C := R_F) (T := T_F) (N := 4) hx hb hts in_F ty_F tyok_F nm_F hown hK hP hD hS 0 rfl rfl 2 (by decide) (hts (Cond.fieldLink R_F 16 "QueuedFronts$Flow" "nullify" "I") mw_63) (fun _ h9 => h9) rfl (by decide +kernel) rfl rfl (Nat.le_of_ble_eq_true rfl) d_F_startAt_15 (fun H locs hP hD hS => ?_)
  have hP : va_P D vwCl (qw_F fh (qm_F_n (qm_F_b (qm_F_a st x) (qf_Pl_behind x)) 0)) H := hP
  have hD : va_D A (qw_F fh (qm_F_n (qm_F_b (qm_F_a st x) (qf_Pl_behind x)) 0)) := hD
  refine lv_aload_n hx hb d_F_startAt_18 rfl (lv_at hl 0 rfl) ?_
  refine lv_iload_n hx hb d_F_startAt_19 rfl (lv_at hl 2 rfl) ?_
  refine va_put (D := D) (ci := 2) (v := .int y) (ty := .int) (C := R_F) (T := T_F) (N := 4) hx hb hts in_F ty_F tyok_F nm_F hown hK hP hD hS 0 rfl rfl 3 (by decide) (hts (Cond.fieldLink R_F 19 "QueuedFronts$Flow" "lets" "I") mw_66) (fun _ h9 => h9) rfl (by decide +kernel) rfl rfl (Nat.le_of_ble_eq_true rfl) d_F_startAt_20 (fun H locs hP hD hS => ?_)
  have hP : va_P D vwCl (qw_F fh (qm_F_l (qm_F_n (qm_F_b (qm_F_a st x) (qf_Pl_behind x)) 0) y)) H := hP
  have hD : va_D A (qw_F fh (qm_F_l (qm_F_n (qm_F_b (qm_F_a st x) (qf_Pl_behind x)) 0) y)) := hD
  have e9 : (qm_F_l (qm_F_n (qm_F_b (qm_F_a st x) (qf_Pl_behind x)) 0) y) = qf_F_startAt st x y := rfl
  exact W.vret hx hb hr (fun t ht hW => ⟨rfl, (by rw [ht, ← e9]; exact hP), hS.F ht⟩) hS.2.2 d_F_startAt_23
def qf_F_moveOnTo (st : qs_F) (x : Int32) (y : Int32) : qs_F :=
  if y = 0 then (qm_F_n (qm_F_b (qm_F_a st st.2.1) x) 0)
  else (qm_F_n (qm_F_b (qm_F_a st st.2.1) x) 1)
set_option maxHeartbeats 4000000 in
set_option maxRecDepth 100000 in
theorem c_F_moveOnTo (l : Launch) (D : va_G) (cA : ClassId) (fh : Nat) (st : qs_F) (x : Int32) (y : Int32) : Met l y_F_moveOnTo (Cond.code y_F_moveOnTo b_F_moveOnTo 3 none :: qx_T) ({ frames := 0, cells := 0, slots := 0, locals := 0 }) (qx_Pc D vwCl [(cA, .int)] (qw_F fh st) [.ref fh, .int x, .int y]) (qx_Q D vwCl (qw_F fh (qf_F_moveOnTo st x y)) (qx_ad (qw_F fh st)) none) 0 0 (qx_ad (qw_F fh st)) := by
  refine Met.ofW (cc := b_F_moveOnTo) (maxL := 3) (ret := none) (by decide) rfl ?_
  intro p e s m args below meth c s₁ B hml hv
  obtain ⟨rfl, hP, hK, hN, hD0⟩ := hv
  have hx := B.exec
  have hb := B.bytes
  have hr := B.returns
  have hts0 := atoms_spec (ws := Cond.code y_F_moveOnTo b_F_moveOnTo 3 none :: qx_T) B.pre
  have hts := fun w h => hts0 w (List.mem_cons_of_mem _ h)
  have hown : s.vm.findClass R_F = some m.cls := findClass_of_methodNamed B.named
  have hlocks := B.notSynchronized
  have hD : va_D (qx_ad (qw_F fh st)) (qw_F fh st) := ⟨hD0.1, fun k q hk => ⟨k, q.2, hk⟩⟩
  generalize hAe : qx_ad (qw_F fh st) = A at hD ⊢
  have hS : va_S A s.heap s.heap [] := va_S.rf
  have hl := lv_entry ([.ref fh, .int x, .int y]) (n := 3) (Nat.le_of_ble_eq_true rfl)
  rw [lg_entry_eq]
  generalize (lg_sl ([.ref fh, .int x, .int y]) ++ List.replicate (3 - (lg_sl ([.ref fh, .int x, .int y])).length) Slot.unset).toArray = ls at hl ⊢
  have hl : lv_has ls 3 [(0, .ref fh), (1, .int x), (2, .int y)] := hl
  refine lv_aload_n hx hb d_F_moveOnTo_0 rfl (lv_at hl 0 rfl) ?_
  refine lv_aload_n hx hb d_F_moveOnTo_1 rfl (lv_at hl 0 rfl) ?_
  refine va_get (D := D) (ci := 2) (v := .int st.2.1) (C := R_F) (T := T_F) (N := 4) hx hb hts in_F hown hK hP 0 rfl rfl 1 (by decide) (hts (Cond.fieldLink R_F 13 "QueuedFronts$Flow" "back" "I") mw_60) (fun _ h9 => h9) rfl d_F_moveOnTo_2 ?_
  refine va_put (D := D) (ci := 2) (v := .int st.2.1) (ty := .int) (C := R_F) (T := T_F) (N := 4) hx hb hts in_F ty_F tyok_F nm_F hown hK hP hD hS 0 rfl rfl 0 (by decide) (hts (Cond.fieldLink R_F 7 "QueuedFronts$Flow" "front" "I") mw_57) (fun _ h9 => h9) rfl (by decide +kernel) rfl rfl (Nat.le_of_ble_eq_true rfl) d_F_moveOnTo_5 (fun H locs hP hD hS => ?_)
  have hP : va_P D vwCl (qw_F fh (qm_F_a st st.2.1)) H := hP
  have hD : va_D A (qw_F fh (qm_F_a st st.2.1)) := hD
  refine lv_aload_n hx hb d_F_moveOnTo_8 rfl (lv_at hl 0 rfl) ?_
  refine lv_iload_n hx hb d_F_moveOnTo_9 rfl (lv_at hl 1 rfl) ?_
  refine va_put (D := D) (ci := 2) (v := .int x) (ty := .int) (C := R_F) (T := T_F) (N := 4) hx hb hts in_F ty_F tyok_F nm_F hown hK hP hD hS 0 rfl rfl 1 (by decide) (hts (Cond.fieldLink R_F 13 "QueuedFronts$Flow" "back" "I") mw_60) (fun _ h9 => h9) rfl (by decide +kernel) rfl rfl (Nat.le_of_ble_eq_true rfl) d_F_moveOnTo_10 (fun H locs hP hD hS => ?_)
  have hP : va_P D vwCl (qw_F fh (qm_F_b (qm_F_a st st.2.1) x)) H := hP
  have hD : va_D A (qw_F fh (qm_F_b (qm_F_a st st.2.1) x)) := hD
  refine lv_aload_n hx hb d_F_moveOnTo_13 rfl (lv_at hl 0 rfl) ?_
  refine lv_iload_n hx hb d_F_moveOnTo_14 rfl (lv_at hl 2 rfl) ?_
  refine lv_if_eq (tgt := 22) hx hb d_F_moveOnTo_15 (by decide) (fun h1 => ?_) (fun h1 => ?_)
  · skip
    refine lv_iconst (v := 0) hx hb d_F_moveOnTo_22 (by decide) ?_
    refine va_put (D := D) (ci := 2) (v := .int 0) (ty := .int) (C := R_F) (T := T_F) (N := 4) hx hb hts in_F ty_F tyok_F nm_F hown hK hP hD hS 0 rfl rfl 2 (by decide) (hts (Cond.fieldLink R_F 16 "QueuedFronts$Flow" "nullify" "I") mw_63) (fun _ h9 => h9) rfl (by decide +kernel) rfl rfl (Nat.le_of_ble_eq_true rfl) d_F_moveOnTo_23 (fun H locs hP hD hS => ?_)
    have hP : va_P D vwCl (qw_F fh (qm_F_n (qm_F_b (qm_F_a st st.2.1) x) 0)) H := hP
    have hD : va_D A (qw_F fh (qm_F_n (qm_F_b (qm_F_a st st.2.1) x) 0)) := hD
    have e9 : (qm_F_n (qm_F_b (qm_F_a st st.2.1) x) 0) = qf_F_moveOnTo st x y := (by unfold qf_F_moveOnTo; rw [if_pos h1])
    exact W.vret hx hb hr (fun t ht hW => ⟨rfl, (by rw [ht, ← e9]; exact hP), hS.F ht⟩) hS.2.2 d_F_moveOnTo_26
  · skip
    refine lv_iconst (v := 1) hx hb d_F_moveOnTo_18 (by decide) ?_
    refine lv_goto (tgt := 23) hx hb d_F_moveOnTo_19 (by decide) ?_
    refine va_put (D := D) (ci := 2) (v := .int 1) (ty := .int) (C := R_F) (T := T_F) (N := 4) hx hb hts in_F ty_F tyok_F nm_F hown hK hP hD hS 0 rfl rfl 2 (by decide) (hts (Cond.fieldLink R_F 16 "QueuedFronts$Flow" "nullify" "I") mw_63) (fun _ h9 => h9) rfl (by decide +kernel) rfl rfl (Nat.le_of_ble_eq_true rfl) d_F_moveOnTo_23 (fun H locs hP hD hS => ?_)
    have hP : va_P D vwCl (qw_F fh (qm_F_n (qm_F_b (qm_F_a st st.2.1) x) 1)) H := hP
    have hD : va_D A (qw_F fh (qm_F_n (qm_F_b (qm_F_a st st.2.1) x) 1)) := hD
    have e9 : (qm_F_n (qm_F_b (qm_F_a st st.2.1) x) 1) = qf_F_moveOnTo st x y := (by unfold qf_F_moveOnTo; rw [if_neg h1])
    exact W.vret hx hb hr (fun t ht hW => ⟨rfl, (by rw [ht, ← e9]; exact hP), hS.F ht⟩) hS.2.2 d_F_moveOnTo_26
def qf_F_moveOn (st : qs_F) (x : Int32) : qs_F :=
  (qf_F_moveOnTo st (qf_Pl_behind st.2.1) x)
set_option maxHeartbeats 4000000 in
set_option maxRecDepth 100000 in
theorem c_F_moveOn (l : Launch) (D : va_G) (cA : ClassId) (fh : Nat) (st : qs_F) (x : Int32) : Met l y_F_moveOn (Cond.code y_F_moveOn b_F_moveOn 2 none :: qx_T) ({ frames := 2, cells := 0, slots := 0, locals := 41 }) (qx_Pc D vwCl [(cA, .int)] (qw_F fh st) [.ref fh, .int x]) (qx_Q D vwCl (qw_F fh (qf_F_moveOn st x)) (qx_ad (qw_F fh st)) none) 0 0 (qx_ad (qw_F fh st)) := by
  refine Met.ofW (cc := b_F_moveOn) (maxL := 2) (ret := none) (by decide) rfl ?_
  intro p e s m args below meth c s₁ B hml hv
  obtain ⟨rfl, hP, hK, hN, hD0⟩ := hv
  have hx := B.exec
  have hb := B.bytes
  have hr := B.returns
  have hts0 := atoms_spec (ws := Cond.code y_F_moveOn b_F_moveOn 2 none :: qx_T) B.pre
  have hts := fun w h => hts0 w (List.mem_cons_of_mem _ h)
  have hown : s.vm.findClass R_F = some m.cls := findClass_of_methodNamed B.named
  have hlocks := B.notSynchronized
  have hD : va_D (qx_ad (qw_F fh st)) (qw_F fh st) := ⟨hD0.1, fun k q hk => ⟨k, q.2, hk⟩⟩
  generalize hAe : qx_ad (qw_F fh st) = A at hD ⊢
  have hS : va_S A s.heap s.heap [] := va_S.rf
  have hl := lv_entry ([.ref fh, .int x]) (n := 2) (Nat.le_of_ble_eq_true rfl)
  rw [lg_entry_eq]
  generalize (lg_sl ([.ref fh, .int x]) ++ List.replicate (2 - (lg_sl ([.ref fh, .int x])).length) Slot.unset).toArray = ls at hl ⊢
  have hl : lv_has ls 2 [(0, .ref fh), (1, .int x)] := hl
  refine lv_aload_n hx hb d_F_moveOn_0 rfl (lv_at hl 0 rfl) ?_
  refine lv_aload_n hx hb d_F_moveOn_1 rfl (lv_at hl 0 rfl) ?_
  refine va_get (D := D) (ci := 2) (v := .int st.2.1) (C := R_F) (T := T_F) (N := 4) hx hb hts in_F hown hK hP 0 rfl rfl 1 (by decide) (hts (Cond.fieldLink R_F 13 "QueuedFronts$Flow" "back" "I") mw_60) (fun _ h9 => h9) rfl d_F_moveOn_2 ?_
  refine qx_rd (va_runS (As := [.int st.2.1]) (rest := [.ref fh]) ⟨hx, hb, hml, hown, hts⟩ (c_Pl_behind l D cA st.2.1) (qx_kS hts mw_83 mw_84 mw_32 mw_85 cd_Pl_behind ⟨Nat.le_of_ble_eq_true rfl, Nat.le_of_ble_eq_true rfl⟩) (qx_preS hP hD hK hN [] rfl rfl) rfl rfl hl.1 rfl (lv_room (Nat.le_of_ble_eq_true rfl)) d_F_moveOn_5 ⟨Nat.zero_le _, Nat.zero_le _⟩) ?_
  refine lv_iload_n hx hb d_F_moveOn_8 rfl (lv_at hl 1 rfl) ?_
  refine qx_muZ (T := qf_F_moveOnTo st (qf_Pl_behind st.2.1) x) (Wf := fun zz : qs_F => qw_F fh zz) (vf := fun _ => none) (va_runV (As := [.int (qf_Pl_behind st.2.1), .int x]) (rest := []) ⟨hx, hb, hml, hown, hts⟩ (c_F_moveOnTo l D cA fh st (qf_Pl_behind st.2.1) x) (qx_kV hts mw_209 mw_210 mw_211 mw_31 mw_212 cd_F_moveOnTo ⟨Nat.le_of_ble_eq_true rfl, Nat.le_of_ble_eq_true rfl⟩) (qx_preV (q0 := 0) (ci := 2) (q := (R_F, T_F, 4)) hP hD hK hN [0] rfl rfl rfl rfl) rfl rfl hl.1 rfl (lv_room (Nat.le_of_ble_eq_true rfl)) d_F_moveOn_9 ⟨Nat.zero_le _, Nat.zero_le _⟩) hP hD hS [0] rfl rfl [fh] rfl rfl (fun zz1 hzz1 H locs hP hD hS => ?_)
  have hP : va_P D vwCl (qw_F fh zz1) H := hP
  have hD : va_D A (qw_F fh zz1) := hD
  refine W.eq (g2 := F0 m 12 ls []) rfl ?_
  subst hzz1
  have e9 : (qf_F_moveOnTo st (qf_Pl_behind st.2.1) x) = qf_F_moveOn st x := rfl
  exact W.vret hx hb hr (fun t ht hW => ⟨rfl, (by rw [ht, ← e9]; exact hP), hS.F ht⟩) hS.2.2 d_F_moveOn_12
def qf_F_become (st st2 : qs_F) : qs_F :=
  (qm_F_l (qm_F_n (qm_F_b (qm_F_a st st2.1) st2.2.1) st2.2.2.1) st2.2.2.2)
set_option maxHeartbeats 4000000 in
set_option maxRecDepth 100000 in
theorem c_F_become (l : Launch) (D : va_G) (cA : ClassId) (fh fh2 : Nat) (st st2 : qs_F) : Met l y_F_become (Cond.code y_F_become b_F_become 2 none :: qx_T) ({ frames := 0, cells := 0, slots := 0, locals := 0 }) (qx_Pc D vwCl [(cA, .int)] (qw_F fh st ++ qw_F fh2 st2) [.ref fh, .ref fh2]) (qx_Q D vwCl (qw_F fh (qf_F_become st st2) ++ qw_F fh2 st2) (qx_ad (qw_F fh st ++ qw_F fh2 st2)) none) 0 0 (qx_ad (qw_F fh st ++ qw_F fh2 st2)) := by
  refine Met.ofW (cc := b_F_become) (maxL := 2) (ret := none) (by decide) rfl ?_
  intro p e s m args below meth c s₁ B hml hv
  obtain ⟨rfl, hP, hK, hN, hD0⟩ := hv
  have hx := B.exec
  have hb := B.bytes
  have hr := B.returns
  have hts0 := atoms_spec (ws := Cond.code y_F_become b_F_become 2 none :: qx_T) B.pre
  have hts := fun w h => hts0 w (List.mem_cons_of_mem _ h)
  have hown : s.vm.findClass R_F = some m.cls := findClass_of_methodNamed B.named
  have hlocks := B.notSynchronized
  have hD : va_D (qx_ad (qw_F fh st ++ qw_F fh2 st2)) (qw_F fh st ++ qw_F fh2 st2) := ⟨hD0.1, fun k q hk => ⟨k, q.2, hk⟩⟩
  generalize hAe : qx_ad (qw_F fh st ++ qw_F fh2 st2) = A at hD ⊢
  have hS : va_S A s.heap s.heap [] := va_S.rf
  have hl := lv_entry ([.ref fh, .ref fh2]) (n := 2) (Nat.le_of_ble_eq_true rfl)
  rw [lg_entry_eq]
  generalize (lg_sl ([.ref fh, .ref fh2]) ++ List.replicate (2 - (lg_sl ([.ref fh, .ref fh2])).length) Slot.unset).toArray = ls at hl ⊢
  have hl : lv_has ls 2 [(0, .ref fh), (1, .ref fh2)] := hl
  refine lv_aload_n hx hb d_F_become_0 rfl (lv_at hl 0 rfl) ?_
  refine lv_aload_n hx hb d_F_become_1 rfl (lv_at hl 1 rfl) ?_
  refine va_get (D := D) (ci := 2) (v := .int st2.1) (C := R_F) (T := T_F) (N := 4) hx hb hts in_F hown hK hP 1 rfl rfl 0 (by decide) (hts (Cond.fieldLink R_F 7 "QueuedFronts$Flow" "front" "I") mw_57) (fun _ h9 => h9) rfl d_F_become_2 ?_
  refine va_put (D := D) (ci := 2) (v := .int st2.1) (ty := .int) (C := R_F) (T := T_F) (N := 4) hx hb hts in_F ty_F tyok_F nm_F hown hK hP hD hS 0 rfl rfl 0 (by decide) (hts (Cond.fieldLink R_F 7 "QueuedFronts$Flow" "front" "I") mw_57) (fun _ h9 => h9) rfl (by decide +kernel) rfl rfl (Nat.le_of_ble_eq_true rfl) d_F_become_5 (fun H locs hP hD hS => ?_)
  have hP : va_P D vwCl (qw_F fh (qm_F_a st st2.1) ++ qw_F fh2 st2) H := hP
  have hD : va_D A (qw_F fh (qm_F_a st st2.1) ++ qw_F fh2 st2) := hD
  refine lv_aload_n hx hb d_F_become_8 rfl (lv_at hl 0 rfl) ?_
  refine lv_aload_n hx hb d_F_become_9 rfl (lv_at hl 1 rfl) ?_
  refine va_get (D := D) (ci := 2) (v := .int st2.2.1) (C := R_F) (T := T_F) (N := 4) hx hb hts in_F hown hK hP 1 rfl rfl 1 (by decide) (hts (Cond.fieldLink R_F 13 "QueuedFronts$Flow" "back" "I") mw_60) (fun _ h9 => h9) rfl d_F_become_10 ?_
  refine va_put (D := D) (ci := 2) (v := .int st2.2.1) (ty := .int) (C := R_F) (T := T_F) (N := 4) hx hb hts in_F ty_F tyok_F nm_F hown hK hP hD hS 0 rfl rfl 1 (by decide) (hts (Cond.fieldLink R_F 13 "QueuedFronts$Flow" "back" "I") mw_60) (fun _ h9 => h9) rfl (by decide +kernel) rfl rfl (Nat.le_of_ble_eq_true rfl) d_F_become_13 (fun H locs hP hD hS => ?_)
  have hP : va_P D vwCl (qw_F fh (qm_F_b (qm_F_a st st2.1) st2.2.1) ++ qw_F fh2 st2) H := hP
  have hD : va_D A (qw_F fh (qm_F_b (qm_F_a st st2.1) st2.2.1) ++ qw_F fh2 st2) := hD
  refine lv_aload_n hx hb d_F_become_16 rfl (lv_at hl 0 rfl) ?_
  refine lv_aload_n hx hb d_F_become_17 rfl (lv_at hl 1 rfl) ?_
  refine va_get (D := D) (ci := 2) (v := .int st2.2.2.1) (C := R_F) (T := T_F) (N := 4) hx hb hts in_F hown hK hP 1 rfl rfl 2 (by decide) (hts (Cond.fieldLink R_F 16 "QueuedFronts$Flow" "nullify" "I") mw_63) (fun _ h9 => h9) rfl d_F_become_18 ?_
  refine va_put (D := D) (ci := 2) (v := .int st2.2.2.1) (ty := .int) (C := R_F) (T := T_F) (N := 4) hx hb hts in_F ty_F tyok_F nm_F hown hK hP hD hS 0 rfl rfl 2 (by decide) (hts (Cond.fieldLink R_F 16 "QueuedFronts$Flow" "nullify" "I") mw_63) (fun _ h9 => h9) rfl (by decide +kernel) rfl rfl (Nat.le_of_ble_eq_true rfl) d_F_become_21 (fun H locs hP hD hS => ?_)
  have hP : va_P D vwCl (qw_F fh (qm_F_n (qm_F_b (qm_F_a st st2.1) st2.2.1) st2.2.2.1) ++ qw_F fh2 st2) H := hP
  have hD : va_D A (qw_F fh (qm_F_n (qm_F_b (qm_F_a st st2.1) st2.2.1) st2.2.2.1) ++ qw_F fh2 st2) := hD
  refine lv_aload_n hx hb d_F_become_24 rfl (lv_at hl 0 rfl) ?_
  refine lv_aload_n hx hb d_F_become_25 rfl (lv_at hl 1 rfl) ?_
  refine va_get (D := D) (ci := 2) (v := .int st2.2.2.2) (C := R_F) (T := T_F) (N := 4) hx hb hts in_F hown hK hP 1 rfl rfl 3 (by decide) (hts (Cond.fieldLink R_F 19 "QueuedFronts$Flow" "lets" "I") mw_66) (fun _ h9 => h9) rfl d_F_become_26 ?_
  refine va_put (D := D) (ci := 2) (v := .int st2.2.2.2) (ty := .int) (C := R_F) (T := T_F) (N := 4) hx hb hts in_F ty_F tyok_F nm_F hown hK hP hD hS 0 rfl rfl 3 (by decide) (hts (Cond.fieldLink R_F 19 "QueuedFronts$Flow" "lets" "I") mw_66) (fun _ h9 => h9) rfl (by decide +kernel) rfl rfl (Nat.le_of_ble_eq_true rfl) d_F_become_29 (fun H locs hP hD hS => ?_)
  have hP : va_P D vwCl (qw_F fh (qm_F_l (qm_F_n (qm_F_b (qm_F_a st st2.1) st2.2.1) st2.2.2.1) st2.2.2.2) ++ qw_F fh2 st2) H := hP
  have hD : va_D A (qw_F fh (qm_F_l (qm_F_n (qm_F_b (qm_F_a st st2.1) st2.2.1) st2.2.2.1) st2.2.2.2) ++ qw_F fh2 st2) := hD
  have e9 : (qm_F_l (qm_F_n (qm_F_b (qm_F_a st st2.1) st2.2.1) st2.2.2.1) st2.2.2.2) = qf_F_become st st2 := rfl
  exact W.vret hx hb hr (fun t ht hW => ⟨rfl, (by rw [ht, ← e9]; exact hP), hS.F ht⟩) hS.2.2 d_F_become_32
theorem qf_Co_holds_qb (k x y : Int32) : qb (qf_Co_holds k x y) := by
  unfold qf_Co_holds
  repeat' (first | apply qb_ite | exact qb_0 | exact qb_1)
theorem qi_sp {x : Int32} (h : ¬ qf_Q_isSpace x = 0) : vp_in x 4 := qi_ite (c := 4) (by decide) h
theorem qi_dix {x y : Int32} (hx : vp_in x 4) (hy : ¬ qf_Q_isDataOffset y = 0) : vp_in (qf_Q_dataIndex x y) 64 := qi_row 16 64 hx (qi_ite (c := 16) (n := 16) (by decide) hy) (by decide) (by decide) (by decide) (by decide) (by decide) (c := 16) (by decide)
end
section
def qf_M_isInt (z : Int64) : Int32 :=
  if (lg_cmp z z.toInt32.toInt64) = 0 then 1
  else 0
set_option maxHeartbeats 4000000 in
set_option maxRecDepth 100000 in
theorem c_M_isInt (l : Launch) (D : va_G) (cA : ClassId) (z : Int64) : Met l y_M_isInt (Cond.code y_M_isInt b_M_isInt 2 (some .boolean) :: qx_T) ({ frames := 0, cells := 0, slots := 0, locals := 0 }) (qx_Pc D vwCl [(cA, .int)] ([]) [.long z]) (k2_QcV (.int (qf_M_isInt z))) 0 0 (fun _ => False) := by
  refine Met.ofW (cc := b_M_isInt) (maxL := 2) (ret := (some .boolean)) (by decide) rfl ?_
  intro p e s m args below meth c s₁ B hml hv
  obtain ⟨rfl, hP, hK, hN, hD0⟩ := hv
  have hx := B.exec
  have hb := B.bytes
  have hr := B.returns
  have hts0 := atoms_spec (ws := Cond.code y_M_isInt b_M_isInt 2 (some .boolean) :: qx_T) B.pre
  have hts := fun w h => hts0 w (List.mem_cons_of_mem _ h)
  have hown : s.vm.findClass R_M = some m.cls := findClass_of_methodNamed B.named
  have hlocks := B.notSynchronized
  have hD : va_D (qx_ad ([])) ([]) := ⟨hD0.1, fun k q hk => ⟨k, q.2, hk⟩⟩
  generalize hAe : qx_ad ([]) = A at hD
  have hS : va_S A s.heap s.heap [] := va_S.rf
  have hl := lv_entry ([.long z]) (n := 2) (Nat.le_of_ble_eq_true rfl)
  rw [lg_entry_eq]
  generalize (lg_sl ([.long z]) ++ List.replicate (2 - (lg_sl ([.long z])).length) Slot.unset).toArray = ls at hl ⊢
  have hl : lv_has ls 2 [(0, .long z)] := hl
  refine lv_lload_n hx hb d_M_isInt_0 rfl (lv_at hl 0 rfl) ?_
  refine lv_lload_n hx hb d_M_isInt_1 rfl (lv_at hl 0 rfl) ?_
  refine lv_l2i (v := z.toInt32) hx hb d_M_isInt_2 rfl ?_
  refine lv_i2l (v := z.toInt32.toInt64) hx hb d_M_isInt_3 rfl ?_
  refine W.lcmp hx hb d_M_isInt_4 ?_
  refine lv_if_ne (tgt := 12) hx hb d_M_isInt_5 (by decide) (fun h1 => ?_) (fun h1 => ?_)
  · skip
    refine lv_iconst (v := 0) hx hb d_M_isInt_12 (by decide) ?_
    exact W.zret (ty := .boolean) hx hb hr rfl (fun t ht hW => ⟨congrArg (fun z => Outcome.returned (some (Value.int z))) (show 0 = qf_M_isInt z from (by unfold qf_M_isInt; rw [if_neg h1])), ht⟩) (fun _ h => absurd h List.not_mem_nil) d_M_isInt_13
  · skip
    refine lv_iconst (v := 1) hx hb d_M_isInt_8 (by decide) ?_
    refine lv_goto (tgt := 13) hx hb d_M_isInt_9 (by decide) ?_
    exact W.zret (ty := .boolean) hx hb hr rfl (fun t ht hW => ⟨congrArg (fun z => Outcome.returned (some (Value.int z))) (show 1 = qf_M_isInt z from (by unfold qf_M_isInt; rw [if_pos h1])), ht⟩) (fun _ h => absurd h List.not_mem_nil) d_M_isInt_13
def qf_M_shifted (x : Int32) (y : Int32) (z : Int32) : Int32 :=
  if z = 0 then (x <<< (y &&& 31))
  else (qf_ush x y)
set_option maxHeartbeats 4000000 in
set_option maxRecDepth 100000 in
theorem c_M_shifted (l : Launch) (D : va_G) (cA : ClassId) (x : Int32) (y : Int32) (z : Int32) : Met l y_M_shifted (Cond.code y_M_shifted b_M_shifted 3 (some .int) :: qx_T) ({ frames := 0, cells := 0, slots := 0, locals := 0 }) (qx_Pc D vwCl [(cA, .int)] ([]) [.int x, .int y, .int z]) (k2_QcV (.int (qf_M_shifted x y z))) 0 0 (fun _ => False) := by
  refine Met.ofW (cc := b_M_shifted) (maxL := 3) (ret := (some .int)) (by decide) rfl ?_
  intro p e s m args below meth c s₁ B hml hv
  obtain ⟨rfl, hP, hK, hN, hD0⟩ := hv
  have hx := B.exec
  have hb := B.bytes
  have hr := B.returns
  have hts0 := atoms_spec (ws := Cond.code y_M_shifted b_M_shifted 3 (some .int) :: qx_T) B.pre
  have hts := fun w h => hts0 w (List.mem_cons_of_mem _ h)
  have hown : s.vm.findClass R_M = some m.cls := findClass_of_methodNamed B.named
  have hlocks := B.notSynchronized
  have hD : va_D (qx_ad ([])) ([]) := ⟨hD0.1, fun k q hk => ⟨k, q.2, hk⟩⟩
  generalize hAe : qx_ad ([]) = A at hD
  have hS : va_S A s.heap s.heap [] := va_S.rf
  have hl := lv_entry ([.int x, .int y, .int z]) (n := 3) (Nat.le_of_ble_eq_true rfl)
  rw [lg_entry_eq]
  generalize (lg_sl ([.int x, .int y, .int z]) ++ List.replicate (3 - (lg_sl ([.int x, .int y, .int z])).length) Slot.unset).toArray = ls at hl ⊢
  have hl : lv_has ls 3 [(0, .int x), (1, .int y), (2, .int z)] := hl
  refine lv_iload_n hx hb d_M_shifted_0 rfl (lv_at hl 2 rfl) ?_
  refine lv_if_eq (tgt := 10) hx hb d_M_shifted_1 (by decide) (fun h1 => ?_) (fun h1 => ?_)
  · skip
    refine lv_iload_n hx hb d_M_shifted_10 rfl (lv_at hl 0 rfl) ?_
    refine lv_iload_n hx hb d_M_shifted_11 rfl (lv_at hl 1 rfl) ?_
    refine lv_ishl hx hb d_M_shifted_12 ?_
    exact W.iret hx hb hr (fun t ht hW => ⟨congrArg (fun z => Outcome.returned (some (Value.int z))) (show (x <<< (y &&& 31)) = qf_M_shifted x y z from (by unfold qf_M_shifted; rw [if_pos h1])), ht⟩) (fun _ h => absurd h List.not_mem_nil) d_M_shifted_13
  · skip
    refine lv_iload_n hx hb d_M_shifted_4 rfl (lv_at hl 0 rfl) ?_
    refine lv_iload_n hx hb d_M_shifted_5 rfl (lv_at hl 1 rfl) ?_
    refine lv_iushr (v := (qf_ush x y)) hx hb d_M_shifted_6 rfl ?_
    refine lv_goto (tgt := 13) hx hb d_M_shifted_7 (by decide) ?_
    exact W.iret hx hb hr (fun t ht hW => ⟨congrArg (fun z => Outcome.returned (some (Value.int z))) (show (qf_ush x y) = qf_M_shifted x y z from (by unfold qf_M_shifted; rw [if_neg h1])), ht⟩) (fun _ h => absurd h List.not_mem_nil) d_M_shifted_13
def qf_M_valueA (st : qs_M) (w : Int32) : Int32 :=
  (st.1 (Int32.toNatClampNeg (qf_Pa_a w)))
set_option maxHeartbeats 4000000 in
set_option maxRecDepth 100000 in
theorem c_M_valueA (l : Launch) (D : va_G) (cA : ClassId) (ad : Nat → Nat) (st : qs_M) (w : Int32) : Met l y_M_valueA (Cond.code y_M_valueA b_M_valueA 2 (some .int) :: qx_T) ({ frames := 1, cells := 0, slots := 0, locals := 20 }) (qx_Pc D vwCl [(cA, .int)] (qw_M ad cA st) [.ref (ad 0), .int w]) (k2_QcV (.int (qf_M_valueA st w))) 0 0 (fun _ => False) := by
  refine Met.ofW (cc := b_M_valueA) (maxL := 2) (ret := (some .int)) (by decide) rfl ?_
  intro p e s m args below meth c s₁ B hml hv
  obtain ⟨rfl, hP, hK, hN, hD0⟩ := hv
  have hx := B.exec
  have hb := B.bytes
  have hr := B.returns
  have hts0 := atoms_spec (ws := Cond.code y_M_valueA b_M_valueA 2 (some .int) :: qx_T) B.pre
  have hts := fun w h => hts0 w (List.mem_cons_of_mem _ h)
  have hown : s.vm.findClass R_M = some m.cls := findClass_of_methodNamed B.named
  have hlocks := B.notSynchronized
  have hD : va_D (qx_ad (qw_M ad cA st)) (qw_M ad cA st) := ⟨hD0.1, fun k q hk => ⟨k, q.2, hk⟩⟩
  generalize hAe : qx_ad (qw_M ad cA st) = A at hD
  have hS : va_S A s.heap s.heap [] := va_S.rf
  have hl := lv_entry ([.ref (ad 0), .int w]) (n := 2) (Nat.le_of_ble_eq_true rfl)
  rw [lg_entry_eq]
  generalize (lg_sl ([.ref (ad 0), .int w]) ++ List.replicate (2 - (lg_sl ([.ref (ad 0), .int w])).length) Slot.unset).toArray = ls at hl ⊢
  have hl : lv_has ls 2 [(0, .ref (ad 0)), (1, .int w)] := hl
  refine lv_aload_n hx hb d_M_valueA_0 rfl (lv_at hl 0 rfl) ?_
  refine va_get (D := D) (ci := 1) (v := .ref (ad 1)) (C := R_M) (T := T_M) (N := 7) hx hb hts in_M hown hK hP 0 rfl rfl 0 (by decide) (hts (Cond.fieldLink R_M 9 "QueuedFronts$Machine" "registers" "[I") mw_95) (fun _ h9 => h9) rfl d_M_valueA_1 ?_
  refine lv_iload_n hx hb d_M_valueA_4 rfl (lv_at hl 1 rfl) ?_
  refine qx_rd (va_runS (As := [.int w]) (rest := [.ref (ad 1)]) ⟨hx, hb, hml, hown, hts⟩ (c_Pa_a l D cA w) (qx_kS hts mw_224 mw_225 mw_34 mw_226 cd_Pa_a ⟨Nat.le_of_ble_eq_true rfl, Nat.le_of_ble_eq_true rfl⟩) (qx_preS hP hD hK hN [] rfl rfl) rfl rfl hl.1 rfl (lv_room (Nat.le_of_ble_eq_true rfl)) d_M_valueA_5 ⟨Nat.zero_le _, Nat.zero_le _⟩) ?_
  refine va_iald hx hb hK hP 1 0 rfl rfl (show vp_in (qf_Pa_a w) 8 from qi_and7 _) d_M_valueA_8 ?_
  exact W.iret hx hb hr (fun t ht hW => ⟨congrArg (fun z => Outcome.returned (some (Value.int z))) (show (st.1 (Int32.toNatClampNeg (qf_Pa_a w))) = qf_M_valueA st w from rfl), ht⟩) (fun _ h => absurd h List.not_mem_nil) d_M_valueA_9
def qf_M_valueB (st : qs_M) (w : Int32) : Int32 :=
  (st.1 (Int32.toNatClampNeg (qf_Pa_b w)))
set_option maxHeartbeats 4000000 in
set_option maxRecDepth 100000 in
theorem c_M_valueB (l : Launch) (D : va_G) (cA : ClassId) (ad : Nat → Nat) (st : qs_M) (w : Int32) : Met l y_M_valueB (Cond.code y_M_valueB b_M_valueB 2 (some .int) :: qx_T) ({ frames := 1, cells := 0, slots := 0, locals := 20 }) (qx_Pc D vwCl [(cA, .int)] (qw_M ad cA st) [.ref (ad 0), .int w]) (k2_QcV (.int (qf_M_valueB st w))) 0 0 (fun _ => False) := by
  refine Met.ofW (cc := b_M_valueB) (maxL := 2) (ret := (some .int)) (by decide) rfl ?_
  intro p e s m args below meth c s₁ B hml hv
  obtain ⟨rfl, hP, hK, hN, hD0⟩ := hv
  have hx := B.exec
  have hb := B.bytes
  have hr := B.returns
  have hts0 := atoms_spec (ws := Cond.code y_M_valueB b_M_valueB 2 (some .int) :: qx_T) B.pre
  have hts := fun w h => hts0 w (List.mem_cons_of_mem _ h)
  have hown : s.vm.findClass R_M = some m.cls := findClass_of_methodNamed B.named
  have hlocks := B.notSynchronized
  have hD : va_D (qx_ad (qw_M ad cA st)) (qw_M ad cA st) := ⟨hD0.1, fun k q hk => ⟨k, q.2, hk⟩⟩
  generalize hAe : qx_ad (qw_M ad cA st) = A at hD
  have hS : va_S A s.heap s.heap [] := va_S.rf
  have hl := lv_entry ([.ref (ad 0), .int w]) (n := 2) (Nat.le_of_ble_eq_true rfl)
  rw [lg_entry_eq]
  generalize (lg_sl ([.ref (ad 0), .int w]) ++ List.replicate (2 - (lg_sl ([.ref (ad 0), .int w])).length) Slot.unset).toArray = ls at hl ⊢
  have hl : lv_has ls 2 [(0, .ref (ad 0)), (1, .int w)] := hl
  refine lv_aload_n hx hb d_M_valueB_0 rfl (lv_at hl 0 rfl) ?_
  refine va_get (D := D) (ci := 1) (v := .ref (ad 1)) (C := R_M) (T := T_M) (N := 7) hx hb hts in_M hown hK hP 0 rfl rfl 0 (by decide) (hts (Cond.fieldLink R_M 9 "QueuedFronts$Machine" "registers" "[I") mw_95) (fun _ h9 => h9) rfl d_M_valueB_1 ?_
  refine lv_iload_n hx hb d_M_valueB_4 rfl (lv_at hl 1 rfl) ?_
  refine qx_rd (va_runS (As := [.int w]) (rest := [.ref (ad 1)]) ⟨hx, hb, hml, hown, hts⟩ (c_Pa_b l D cA w) (qx_kS hts mw_231 mw_232 mw_34 mw_233 cd_Pa_b ⟨Nat.le_of_ble_eq_true rfl, Nat.le_of_ble_eq_true rfl⟩) (qx_preS hP hD hK hN [] rfl rfl) rfl rfl hl.1 rfl (lv_room (Nat.le_of_ble_eq_true rfl)) d_M_valueB_5 ⟨Nat.zero_le _, Nat.zero_le _⟩) ?_
  refine va_iald hx hb hK hP 1 0 rfl rfl (show vp_in (qf_Pa_b w) 8 from qi_and7 _) d_M_valueB_8 ?_
  exact W.iret hx hb hr (fun t ht hW => ⟨congrArg (fun z => Outcome.returned (some (Value.int z))) (show (st.1 (Int32.toNatClampNeg (qf_Pa_b w))) = qf_M_valueB st w from rfl), ht⟩) (fun _ h => absurd h List.not_mem_nil) d_M_valueB_9
def qf_M_valueT (st : qs_M) (w : Int32) : Int32 :=
  (st.1 (Int32.toNatClampNeg (qf_Pa_t w)))
set_option maxHeartbeats 4000000 in
set_option maxRecDepth 100000 in
theorem c_M_valueT (l : Launch) (D : va_G) (cA : ClassId) (ad : Nat → Nat) (st : qs_M) (w : Int32) : Met l y_M_valueT (Cond.code y_M_valueT b_M_valueT 2 (some .int) :: qx_T) ({ frames := 1, cells := 0, slots := 0, locals := 20 }) (qx_Pc D vwCl [(cA, .int)] (qw_M ad cA st) [.ref (ad 0), .int w]) (k2_QcV (.int (qf_M_valueT st w))) 0 0 (fun _ => False) := by
  refine Met.ofW (cc := b_M_valueT) (maxL := 2) (ret := (some .int)) (by decide) rfl ?_
  intro p e s m args below meth c s₁ B hml hv
  obtain ⟨rfl, hP, hK, hN, hD0⟩ := hv
  have hx := B.exec
  have hb := B.bytes
  have hr := B.returns
  have hts0 := atoms_spec (ws := Cond.code y_M_valueT b_M_valueT 2 (some .int) :: qx_T) B.pre
  have hts := fun w h => hts0 w (List.mem_cons_of_mem _ h)
  have hown : s.vm.findClass R_M = some m.cls := findClass_of_methodNamed B.named
  have hlocks := B.notSynchronized
  have hD : va_D (qx_ad (qw_M ad cA st)) (qw_M ad cA st) := ⟨hD0.1, fun k q hk => ⟨k, q.2, hk⟩⟩
  generalize hAe : qx_ad (qw_M ad cA st) = A at hD
  have hS : va_S A s.heap s.heap [] := va_S.rf
  have hl := lv_entry ([.ref (ad 0), .int w]) (n := 2) (Nat.le_of_ble_eq_true rfl)
  rw [lg_entry_eq]
  generalize (lg_sl ([.ref (ad 0), .int w]) ++ List.replicate (2 - (lg_sl ([.ref (ad 0), .int w])).length) Slot.unset).toArray = ls at hl ⊢
  have hl : lv_has ls 2 [(0, .ref (ad 0)), (1, .int w)] := hl
  refine lv_aload_n hx hb d_M_valueT_0 rfl (lv_at hl 0 rfl) ?_
  refine va_get (D := D) (ci := 1) (v := .ref (ad 1)) (C := R_M) (T := T_M) (N := 7) hx hb hts in_M hown hK hP 0 rfl rfl 0 (by decide) (hts (Cond.fieldLink R_M 9 "QueuedFronts$Machine" "registers" "[I") mw_95) (fun _ h9 => h9) rfl d_M_valueT_1 ?_
  refine lv_iload_n hx hb d_M_valueT_4 rfl (lv_at hl 1 rfl) ?_
  refine qx_rd (va_runS (As := [.int w]) (rest := [.ref (ad 1)]) ⟨hx, hb, hml, hown, hts⟩ (c_Pa_t l D cA w) (qx_kS hts mw_272 mw_273 mw_34 mw_274 cd_Pa_t ⟨Nat.le_of_ble_eq_true rfl, Nat.le_of_ble_eq_true rfl⟩) (qx_preS hP hD hK hN [] rfl rfl) rfl rfl hl.1 rfl (lv_room (Nat.le_of_ble_eq_true rfl)) d_M_valueT_5 ⟨Nat.zero_le _, Nat.zero_le _⟩) ?_
  refine va_iald hx hb hK hP 1 0 rfl rfl (show vp_in (qf_Pa_t w) 8 from qi_and7 _) d_M_valueT_8 ?_
  exact W.iret hx hb hr (fun t ht hW => ⟨congrArg (fun z => Outcome.returned (some (Value.int z))) (show (st.1 (Int32.toNatClampNeg (qf_Pa_t w))) = qf_M_valueT st w from rfl), ht⟩) (fun _ h => absurd h List.not_mem_nil) d_M_valueT_9
def qf_M_valueS (st : qs_M) (w : Int32) : Int32 :=
  (st.2.1 (Int32.toNatClampNeg (qf_Pa_spaceRegister w)))
set_option maxHeartbeats 4000000 in
set_option maxRecDepth 100000 in
theorem c_M_valueS (l : Launch) (D : va_G) (cA : ClassId) (ad : Nat → Nat) (st : qs_M) (w : Int32) : Met l y_M_valueS (Cond.code y_M_valueS b_M_valueS 2 (some .int) :: qx_T) ({ frames := 1, cells := 0, slots := 0, locals := 20 }) (qx_Pc D vwCl [(cA, .int)] (qw_M ad cA st) [.ref (ad 0), .int w]) (k2_QcV (.int (qf_M_valueS st w))) 0 0 (fun _ => False) := by
  refine Met.ofW (cc := b_M_valueS) (maxL := 2) (ret := (some .int)) (by decide) rfl ?_
  intro p e s m args below meth c s₁ B hml hv
  obtain ⟨rfl, hP, hK, hN, hD0⟩ := hv
  have hx := B.exec
  have hb := B.bytes
  have hr := B.returns
  have hts0 := atoms_spec (ws := Cond.code y_M_valueS b_M_valueS 2 (some .int) :: qx_T) B.pre
  have hts := fun w h => hts0 w (List.mem_cons_of_mem _ h)
  have hown : s.vm.findClass R_M = some m.cls := findClass_of_methodNamed B.named
  have hlocks := B.notSynchronized
  have hD : va_D (qx_ad (qw_M ad cA st)) (qw_M ad cA st) := ⟨hD0.1, fun k q hk => ⟨k, q.2, hk⟩⟩
  generalize hAe : qx_ad (qw_M ad cA st) = A at hD
  have hS : va_S A s.heap s.heap [] := va_S.rf
  have hl := lv_entry ([.ref (ad 0), .int w]) (n := 2) (Nat.le_of_ble_eq_true rfl)
  rw [lg_entry_eq]
  generalize (lg_sl ([.ref (ad 0), .int w]) ++ List.replicate (2 - (lg_sl ([.ref (ad 0), .int w])).length) Slot.unset).toArray = ls at hl ⊢
  have hl : lv_has ls 2 [(0, .ref (ad 0)), (1, .int w)] := hl
  refine lv_aload_n hx hb d_M_valueS_0 rfl (lv_at hl 0 rfl) ?_
  refine va_get (D := D) (ci := 1) (v := .ref (ad 2)) (C := R_M) (T := T_M) (N := 7) hx hb hts in_M hown hK hP 0 rfl rfl 1 (by decide) (hts (Cond.fieldLink R_M 15 "QueuedFronts$Machine" "spaceRegisters" "[I") mw_97) (fun _ h9 => h9) rfl d_M_valueS_1 ?_
  refine lv_iload_n hx hb d_M_valueS_4 rfl (lv_at hl 1 rfl) ?_
  refine qx_rd (va_runS (As := [.int w]) (rest := [.ref (ad 2)]) ⟨hx, hb, hml, hown, hts⟩ (c_Pa_spaceRegister l D cA w) (qx_kS hts mw_284 mw_285 mw_34 mw_286 cd_Pa_spaceRegister ⟨Nat.le_of_ble_eq_true rfl, Nat.le_of_ble_eq_true rfl⟩) (qx_preS hP hD hK hN [] rfl rfl) rfl rfl hl.1 rfl (lv_room (Nat.le_of_ble_eq_true rfl)) d_M_valueS_5 ⟨Nat.zero_le _, Nat.zero_le _⟩) ?_
  refine va_iald hx hb hK hP 2 0 rfl rfl (show vp_in (qf_Pa_spaceRegister w) 4 from qi_and3 _) d_M_valueS_8 ?_
  exact W.iret hx hb hr (fun t ht hW => ⟨congrArg (fun z => Outcome.returned (some (Value.int z))) (show (st.2.1 (Int32.toNatClampNeg (qf_Pa_spaceRegister w))) = qf_M_valueS st w from rfl), ht⟩) (fun _ h => absurd h List.not_mem_nil) d_M_valueS_9
theorem qi_S {st : qs_M} (w : Int32) (hs : ∀ k : Nat, k < 4 → vp_in (st.2.1 k) 4) : vp_in (qf_M_valueS st w) 4 := hs _ (qi_lt (qi_and3 _))
def qf_M_setT (st : qs_M) (w : Int32) (v : Int32) : qs_M :=
  if qf_Pa_t w = 0 then st
  else (qm_M_rg st (upd st.1 (Int32.toNatClampNeg (qf_Pa_t w)) v))
set_option maxHeartbeats 4000000 in
set_option maxRecDepth 100000 in
theorem c_M_setT (l : Launch) (D : va_G) (cA : ClassId) (ad : Nat → Nat) (st : qs_M) (w : Int32) (v : Int32) : Met l y_M_setT (Cond.code y_M_setT b_M_setT 4 none :: qx_T) ({ frames := 1, cells := 0, slots := 0, locals := 20 }) (qx_Pc D vwCl [(cA, .int)] (qw_M ad cA st) [.ref (ad 0), .int w, .int v]) (qx_Q D vwCl (qw_M ad cA (qf_M_setT st w v)) (qx_ad (qw_M ad cA st)) none) 0 0 (qx_ad (qw_M ad cA st)) := by
  refine Met.ofW (cc := b_M_setT) (maxL := 4) (ret := none) (by decide) rfl ?_
  intro p e s m args below meth c s₁ B hml hv
  obtain ⟨rfl, hP, hK, hN, hD0⟩ := hv
  have hx := B.exec
  have hb := B.bytes
  have hr := B.returns
  have hts0 := atoms_spec (ws := Cond.code y_M_setT b_M_setT 4 none :: qx_T) B.pre
  have hts := fun w h => hts0 w (List.mem_cons_of_mem _ h)
  have hown : s.vm.findClass R_M = some m.cls := findClass_of_methodNamed B.named
  have hlocks := B.notSynchronized
  have hD : va_D (qx_ad (qw_M ad cA st)) (qw_M ad cA st) := ⟨hD0.1, fun k q hk => ⟨k, q.2, hk⟩⟩
  generalize hAe : qx_ad (qw_M ad cA st) = A at hD ⊢
  have hS : va_S A s.heap s.heap [] := va_S.rf
  have hl := lv_entry ([.ref (ad 0), .int w, .int v]) (n := 4) (Nat.le_of_ble_eq_true rfl)
  rw [lg_entry_eq]
  generalize (lg_sl ([.ref (ad 0), .int w, .int v]) ++ List.replicate (4 - (lg_sl ([.ref (ad 0), .int w, .int v])).length) Slot.unset).toArray = ls at hl ⊢
  have hl : lv_has ls 4 [(0, .ref (ad 0)), (1, .int w), (2, .int v)] := hl
  refine lv_iload_n hx hb d_M_setT_0 rfl (lv_at hl 1 rfl) ?_
  refine qx_rd (va_runS (As := [.int w]) (rest := []) ⟨hx, hb, hml, hown, hts⟩ (c_Pa_t l D cA w) (qx_kS hts mw_272 mw_273 mw_34 mw_274 cd_Pa_t ⟨Nat.le_of_ble_eq_true rfl, Nat.le_of_ble_eq_true rfl⟩) (qx_preS hP hD hK hN [] rfl rfl) rfl rfl hl.1 rfl (lv_room (Nat.le_of_ble_eq_true rfl)) d_M_setT_1 ⟨Nat.zero_le _, Nat.zero_le _⟩) ?_
  refine lv_istore_n (lv' := [(3, .int (qf_Pa_t w)), (0, .ref (ad 0)), (1, .int w), (2, .int v)]) hx hb d_M_setT_4 rfl hl (by decide) rfl (fun ls hl => ?_)
  refine lv_iload_n hx hb d_M_setT_5 rfl (lv_at hl 0 rfl) ?_
  refine lv_if_eq (tgt := 16) hx hb d_M_setT_6 (by decide) (fun h1 => ?_) (fun h1 => ?_)
  · skip
    have e9 : st = qf_M_setT st w v := (by unfold qf_M_setT; rw [if_pos h1])
    exact W.vret hx hb hr (fun t ht hW => ⟨rfl, (by rw [ht, ← e9]; exact hP), hS.F ht⟩) hS.2.2 d_M_setT_16
  · skip
    refine lv_aload_n hx hb d_M_setT_9 rfl (lv_at hl 1 rfl) ?_
    refine va_get (D := D) (ci := 1) (v := .ref (ad 1)) (C := R_M) (T := T_M) (N := 7) hx hb hts in_M hown hK hP 0 rfl rfl 0 (by decide) (hts (Cond.fieldLink R_M 9 "QueuedFronts$Machine" "registers" "[I") mw_95) (fun _ h9 => h9) rfl d_M_setT_10 ?_
    refine lv_iload_n hx hb d_M_setT_13 rfl (lv_at hl 0 rfl) ?_
    refine lv_iload_n hx hb d_M_setT_14 rfl (lv_at hl 3 rfl) ?_
    refine va_iast hx hb hK hP hD hS 1 0 rfl rfl (show vp_in (qf_Pa_t w) 8 from qi_and7 _) d_M_setT_15 (fun H locs hP hD hS => ?_)
    have hP : va_P D vwCl (qw_M ad cA (qm_M_rg st (upd st.1 (Int32.toNatClampNeg (qf_Pa_t w)) v))) H := hP
    have hD : va_D A (qw_M ad cA (qm_M_rg st (upd st.1 (Int32.toNatClampNeg (qf_Pa_t w)) v))) := hD
    have e9 : (qm_M_rg st (upd st.1 (Int32.toNatClampNeg (qf_Pa_t w)) v)) = qf_M_setT st w v := (by unfold qf_M_setT; rw [if_neg h1])
    exact W.vret hx hb hr (fun t ht hW => ⟨rfl, (by rw [ht, ← e9]; exact hP), hS.F ht⟩) hS.2.2 d_M_setT_16
def qf_M_resultOf (w : Int32) (x : Int32) (y : Int32) : Int32 :=
  if qf_Pa_kind w = 0 then (x + y)
  else if qf_Pa_kind w = 1 then (x + y)
  else if qf_Pa_kind w = 2 then (x - y)
  else if qf_Pa_kind w = 3 then (x - y)
  else if qf_Pa_kind w = 4 then (x &&& y)
  else if qf_Pa_kind w = 5 then (x ||| y)
  else if qf_Pa_kind w = 6 then (x ^^^ y)
  else if qf_Pa_kind w = 7 then (x &&& (y ^^^ (-1)))
  else if qf_Pa_kind w = 8 then 0
  else if qf_Pa_kind w = 9 then (x + qf_Pa_m w)
  else if qf_Pa_kind w = 10 then (if qf_Pa_n w = 1 then qf_M_shifted x (qf_Pa_m w &&& 31) (1 : Int32)
    else qf_M_shifted x (qf_Pa_m w &&& 31) (0 : Int32))
  else 0
set_option maxHeartbeats 4000000 in
set_option maxRecDepth 100000 in
theorem c_M_resultOf (l : Launch) (D : va_G) (cA : ClassId) (w : Int32) (x : Int32) (y : Int32) : Met l y_M_resultOf (Cond.code y_M_resultOf b_M_resultOf 3 (some .int) :: qx_T) ({ frames := 1, cells := 0, slots := 0, locals := 22 }) (qx_Pc D vwCl [(cA, .int)] ([]) [.int w, .int x, .int y]) (k2_QcV (.int (qf_M_resultOf w x y))) 0 0 (fun _ => False) := by
  refine Met.ofW (cc := b_M_resultOf) (maxL := 3) (ret := (some .int)) (by decide) rfl ?_
  intro p e s m args below meth c s₁ B hml hv
  obtain ⟨rfl, hP, hK, hN, hD0⟩ := hv
  have hx := B.exec
  have hb := B.bytes
  have hr := B.returns
  have hts0 := atoms_spec (ws := Cond.code y_M_resultOf b_M_resultOf 3 (some .int) :: qx_T) B.pre
  have hts := fun w h => hts0 w (List.mem_cons_of_mem _ h)
  have hown : s.vm.findClass R_M = some m.cls := findClass_of_methodNamed B.named
  have hlocks := B.notSynchronized
  have hD : va_D (qx_ad ([])) ([]) := ⟨hD0.1, fun k q hk => ⟨k, q.2, hk⟩⟩
  generalize hAe : qx_ad ([]) = A at hD
  have hS : va_S A s.heap s.heap [] := va_S.rf
  have hl := lv_entry ([.int w, .int x, .int y]) (n := 3) (Nat.le_of_ble_eq_true rfl)
  rw [lg_entry_eq]
  generalize (lg_sl ([.int w, .int x, .int y]) ++ List.replicate (3 - (lg_sl ([.int w, .int x, .int y])).length) Slot.unset).toArray = ls at hl ⊢
  have hl : lv_has ls 3 [(0, .int w), (1, .int x), (2, .int y)] := hl
  refine lv_iload_n hx hb d_M_resultOf_0 rfl (lv_at hl 0 rfl) ?_
  refine qx_rd (va_runS (As := [.int w]) (rest := []) ⟨hx, hb, hml, hown, hts⟩ (c_Pa_kind l D cA w) (qx_kS hts mw_217 mw_218 mw_34 mw_219 cd_Pa_kind ⟨Nat.le_of_ble_eq_true rfl, Nat.le_of_ble_eq_true rfl⟩) (qx_preS hP hD hK hN [] rfl rfl) rfl rfl hl.1 rfl (lv_room (Nat.le_of_ble_eq_true rfl)) d_M_resultOf_1 ⟨Nat.zero_le _, Nat.zero_le _⟩) ?_
  by_cases h1 : qf_Pa_kind w = 0
  · refine lv_tableIn (tgt := 64) hx hb d_M_resultOf_4 (by rw [h1]; decide) (by rw [h1]; decide) (by rw [h1]; rfl) (by decide) ?_
    refine lv_iload_n hx hb d_M_resultOf_64 rfl (lv_at hl 1 rfl) ?_
    refine lv_iload_n hx hb d_M_resultOf_65 rfl (lv_at hl 2 rfl) ?_
    refine lv_iadd hx hb d_M_resultOf_66 ?_
    exact W.iret hx hb hr (fun t ht hW => ⟨congrArg (fun z => Outcome.returned (some (Value.int z))) (show (x + y) = qf_M_resultOf w x y from (by unfold qf_M_resultOf; rw [if_pos h1])), ht⟩) (fun _ h => absurd h List.not_mem_nil) d_M_resultOf_67
  by_cases h2 : qf_Pa_kind w = 1
  · refine lv_tableIn (tgt := 64) hx hb d_M_resultOf_4 (by rw [h2]; decide) (by rw [h2]; decide) (by rw [h2]; rfl) (by decide) ?_
    refine lv_iload_n hx hb d_M_resultOf_64 rfl (lv_at hl 1 rfl) ?_
    refine lv_iload_n hx hb d_M_resultOf_65 rfl (lv_at hl 2 rfl) ?_
    refine lv_iadd hx hb d_M_resultOf_66 ?_
    exact W.iret hx hb hr (fun t ht hW => ⟨congrArg (fun z => Outcome.returned (some (Value.int z))) (show (x + y) = qf_M_resultOf w x y from (by unfold qf_M_resultOf; rw [if_neg h1, if_pos h2])), ht⟩) (fun _ h => absurd h List.not_mem_nil) d_M_resultOf_67
  by_cases h3 : qf_Pa_kind w = 2
  · refine lv_tableIn (tgt := 68) hx hb d_M_resultOf_4 (by rw [h3]; decide) (by rw [h3]; decide) (by rw [h3]; rfl) (by decide) ?_
    refine lv_iload_n hx hb d_M_resultOf_68 rfl (lv_at hl 1 rfl) ?_
    refine lv_iload_n hx hb d_M_resultOf_69 rfl (lv_at hl 2 rfl) ?_
    refine lv_isub hx hb d_M_resultOf_70 ?_
    exact W.iret hx hb hr (fun t ht hW => ⟨congrArg (fun z => Outcome.returned (some (Value.int z))) (show (x - y) = qf_M_resultOf w x y from (by unfold qf_M_resultOf; rw [if_neg h1, if_neg h2, if_pos h3])), ht⟩) (fun _ h => absurd h List.not_mem_nil) d_M_resultOf_71
  by_cases h4 : qf_Pa_kind w = 3
  · refine lv_tableIn (tgt := 68) hx hb d_M_resultOf_4 (by rw [h4]; decide) (by rw [h4]; decide) (by rw [h4]; rfl) (by decide) ?_
    refine lv_iload_n hx hb d_M_resultOf_68 rfl (lv_at hl 1 rfl) ?_
    refine lv_iload_n hx hb d_M_resultOf_69 rfl (lv_at hl 2 rfl) ?_
    refine lv_isub hx hb d_M_resultOf_70 ?_
    exact W.iret hx hb hr (fun t ht hW => ⟨congrArg (fun z => Outcome.returned (some (Value.int z))) (show (x - y) = qf_M_resultOf w x y from (by unfold qf_M_resultOf; rw [if_neg h1, if_neg h2, if_neg h3, if_pos h4])), ht⟩) (fun _ h => absurd h List.not_mem_nil) d_M_resultOf_71
  by_cases h5 : qf_Pa_kind w = 4
  · refine lv_tableIn (tgt := 72) hx hb d_M_resultOf_4 (by rw [h5]; decide) (by rw [h5]; decide) (by rw [h5]; rfl) (by decide) ?_
    refine lv_iload_n hx hb d_M_resultOf_72 rfl (lv_at hl 1 rfl) ?_
    refine lv_iload_n hx hb d_M_resultOf_73 rfl (lv_at hl 2 rfl) ?_
    refine lv_iand hx hb d_M_resultOf_74 ?_
    exact W.iret hx hb hr (fun t ht hW => ⟨congrArg (fun z => Outcome.returned (some (Value.int z))) (show (x &&& y) = qf_M_resultOf w x y from (by unfold qf_M_resultOf; rw [if_neg h1, if_neg h2, if_neg h3, if_neg h4, if_pos h5])), ht⟩) (fun _ h => absurd h List.not_mem_nil) d_M_resultOf_75
  by_cases h6 : qf_Pa_kind w = 5
  · refine lv_tableIn (tgt := 76) hx hb d_M_resultOf_4 (by rw [h6]; decide) (by rw [h6]; decide) (by rw [h6]; rfl) (by decide) ?_
    refine lv_iload_n hx hb d_M_resultOf_76 rfl (lv_at hl 1 rfl) ?_
    refine lv_iload_n hx hb d_M_resultOf_77 rfl (lv_at hl 2 rfl) ?_
    refine lv_ior hx hb d_M_resultOf_78 ?_
    exact W.iret hx hb hr (fun t ht hW => ⟨congrArg (fun z => Outcome.returned (some (Value.int z))) (show (x ||| y) = qf_M_resultOf w x y from (by unfold qf_M_resultOf; rw [if_neg h1, if_neg h2, if_neg h3, if_neg h4, if_neg h5, if_pos h6])), ht⟩) (fun _ h => absurd h List.not_mem_nil) d_M_resultOf_79
  by_cases h7 : qf_Pa_kind w = 6
  · refine lv_tableIn (tgt := 80) hx hb d_M_resultOf_4 (by rw [h7]; decide) (by rw [h7]; decide) (by rw [h7]; rfl) (by decide) ?_
    refine lv_iload_n hx hb d_M_resultOf_80 rfl (lv_at hl 1 rfl) ?_
    refine lv_iload_n hx hb d_M_resultOf_81 rfl (lv_at hl 2 rfl) ?_
    refine lv_ixor hx hb d_M_resultOf_82 ?_
    exact W.iret hx hb hr (fun t ht hW => ⟨congrArg (fun z => Outcome.returned (some (Value.int z))) (show (x ^^^ y) = qf_M_resultOf w x y from (by unfold qf_M_resultOf; rw [if_neg h1, if_neg h2, if_neg h3, if_neg h4, if_neg h5, if_neg h6, if_pos h7])), ht⟩) (fun _ h => absurd h List.not_mem_nil) d_M_resultOf_83
  by_cases h8 : qf_Pa_kind w = 7
  · refine lv_tableIn (tgt := 84) hx hb d_M_resultOf_4 (by rw [h8]; decide) (by rw [h8]; decide) (by rw [h8]; rfl) (by decide) ?_
    refine lv_iload_n hx hb d_M_resultOf_84 rfl (lv_at hl 1 rfl) ?_
    refine lv_iload_n hx hb d_M_resultOf_85 rfl (lv_at hl 2 rfl) ?_
    refine lv_iconst (v := (-1)) hx hb d_M_resultOf_86 (by decide) ?_
    refine lv_ixor hx hb d_M_resultOf_87 ?_
    refine lv_iand hx hb d_M_resultOf_88 ?_
    exact W.iret hx hb hr (fun t ht hW => ⟨congrArg (fun z => Outcome.returned (some (Value.int z))) (show (x &&& (y ^^^ (-1))) = qf_M_resultOf w x y from (by unfold qf_M_resultOf; rw [if_neg h1, if_neg h2, if_neg h3, if_neg h4, if_neg h5, if_neg h6, if_neg h7, if_pos h8])), ht⟩) (fun _ h => absurd h List.not_mem_nil) d_M_resultOf_89
  by_cases h9 : qf_Pa_kind w = 8
  · refine lv_tableIn (tgt := 122) hx hb d_M_resultOf_4 (by rw [h9]; decide) (by rw [h9]; decide) (by rw [h9]; rfl) (by decide) ?_
    refine lv_iconst (v := 0) hx hb d_M_resultOf_122 (by decide) ?_
    exact W.iret hx hb hr (fun t ht hW => ⟨congrArg (fun z => Outcome.returned (some (Value.int z))) (show 0 = qf_M_resultOf w x y from (by unfold qf_M_resultOf; rw [if_neg h1, if_neg h2, if_neg h3, if_neg h4, if_neg h5, if_neg h6, if_neg h7, if_neg h8, if_pos h9])), ht⟩) (fun _ h => absurd h List.not_mem_nil) d_M_resultOf_123
  by_cases h10 : qf_Pa_kind w = 9
  · refine lv_tableIn (tgt := 90) hx hb d_M_resultOf_4 (by rw [h10]; decide) (by rw [h10]; decide) (by rw [h10]; rfl) (by decide) ?_
    refine lv_iload_n hx hb d_M_resultOf_90 rfl (lv_at hl 1 rfl) ?_
    refine lv_iload_n hx hb d_M_resultOf_91 rfl (lv_at hl 0 rfl) ?_
    refine qx_rd (va_runS (As := [.int w]) (rest := [.int x]) ⟨hx, hb, hml, hown, hts⟩ (c_Pa_m l D cA w) (qx_kS hts mw_237 mw_238 mw_34 mw_239 cd_Pa_m ⟨Nat.le_of_ble_eq_true rfl, Nat.le_of_ble_eq_true rfl⟩) (qx_preS hP hD hK hN [] rfl rfl) rfl rfl hl.1 rfl (lv_room (Nat.le_of_ble_eq_true rfl)) d_M_resultOf_92 ⟨Nat.zero_le _, Nat.zero_le _⟩) ?_
    refine lv_iadd hx hb d_M_resultOf_95 ?_
    exact W.iret hx hb hr (fun t ht hW => ⟨congrArg (fun z => Outcome.returned (some (Value.int z))) (show (x + qf_Pa_m w) = qf_M_resultOf w x y from (by unfold qf_M_resultOf; rw [if_neg h1, if_neg h2, if_neg h3, if_neg h4, if_neg h5, if_neg h6, if_neg h7, if_neg h8, if_neg h9, if_pos h10])), ht⟩) (fun _ h => absurd h List.not_mem_nil) d_M_resultOf_96
  by_cases h11 : qf_Pa_kind w = 10
  · refine lv_tableIn (tgt := 97) hx hb d_M_resultOf_4 (by rw [h11]; decide) (by rw [h11]; decide) (by rw [h11]; rfl) (by decide) ?_
    refine lv_iload_n hx hb d_M_resultOf_97 rfl (lv_at hl 1 rfl) ?_
    refine lv_iload_n hx hb d_M_resultOf_98 rfl (lv_at hl 0 rfl) ?_
    refine qx_rd (va_runS (As := [.int w]) (rest := [.int x]) ⟨hx, hb, hml, hown, hts⟩ (c_Pa_m l D cA w) (qx_kS hts mw_237 mw_238 mw_34 mw_239 cd_Pa_m ⟨Nat.le_of_ble_eq_true rfl, Nat.le_of_ble_eq_true rfl⟩) (qx_preS hP hD hK hN [] rfl rfl) rfl rfl hl.1 rfl (lv_room (Nat.le_of_ble_eq_true rfl)) d_M_resultOf_99 ⟨Nat.zero_le _, Nat.zero_le _⟩) ?_
    refine lv_bipush (v := 31) hx hb d_M_resultOf_102 (by decide) ?_
    refine lv_iand hx hb d_M_resultOf_104 ?_
    refine lv_iload_n hx hb d_M_resultOf_105 rfl (lv_at hl 0 rfl) ?_
    refine qx_rd (va_runS (As := [.int w]) (rest := [.int (qf_Pa_m w &&& 31), .int x]) ⟨hx, hb, hml, hown, hts⟩ (c_Pa_n l D cA w) (qx_kS hts mw_252 mw_253 mw_34 mw_254 cd_Pa_n ⟨Nat.le_of_ble_eq_true rfl, Nat.le_of_ble_eq_true rfl⟩) (qx_preS hP hD hK hN [] rfl rfl) rfl rfl hl.1 rfl (lv_room (Nat.le_of_ble_eq_true rfl)) d_M_resultOf_106 ⟨Nat.zero_le _, Nat.zero_le _⟩) ?_
    refine lv_iconst (v := 1) hx hb d_M_resultOf_109 (by decide) ?_
    refine lv_icmp_ne (tgt := 117) hx hb d_M_resultOf_110 (by decide) (fun h12 => ?_) (fun h12 => ?_)
    · skip
      refine lv_iconst (v := 0) hx hb d_M_resultOf_117 (by decide) ?_
      refine qx_rd (va_runS (As := [.int x, .int (qf_Pa_m w &&& 31), .int 0]) (rest := []) ⟨hx, hb, hml, hown, hts⟩ (c_M_shifted l D cA x (qf_Pa_m w &&& 31) 0) (qx_kS hts mw_255 mw_256 mw_30 mw_257 cd_M_shifted ⟨Nat.le_of_ble_eq_true rfl, Nat.le_of_ble_eq_true rfl⟩) (qx_preS hP hD hK hN [] rfl rfl) rfl rfl hl.1 rfl (lv_room (Nat.le_of_ble_eq_true rfl)) d_M_resultOf_118 ⟨Nat.zero_le _, Nat.zero_le _⟩) ?_
      exact W.iret hx hb hr (fun t ht hW => ⟨congrArg (fun z => Outcome.returned (some (Value.int z))) (show qf_M_shifted x (qf_Pa_m w &&& 31) (0 : Int32) = qf_M_resultOf w x y from (by unfold qf_M_resultOf; rw [if_neg h1, if_neg h2, if_neg h3, if_neg h4, if_neg h5, if_neg h6, if_neg h7, if_neg h8, if_neg h9, if_neg h10, if_pos h11, if_neg h12])), ht⟩) (fun _ h => absurd h List.not_mem_nil) d_M_resultOf_121
    · skip
      refine lv_iconst (v := 1) hx hb d_M_resultOf_113 (by decide) ?_
      refine lv_goto (tgt := 118) hx hb d_M_resultOf_114 (by decide) ?_
      refine qx_rd (va_runS (As := [.int x, .int (qf_Pa_m w &&& 31), .int 1]) (rest := []) ⟨hx, hb, hml, hown, hts⟩ (c_M_shifted l D cA x (qf_Pa_m w &&& 31) 1) (qx_kS hts mw_255 mw_256 mw_30 mw_257 cd_M_shifted ⟨Nat.le_of_ble_eq_true rfl, Nat.le_of_ble_eq_true rfl⟩) (qx_preS hP hD hK hN [] rfl rfl) rfl rfl hl.1 rfl (lv_room (Nat.le_of_ble_eq_true rfl)) d_M_resultOf_118 ⟨Nat.zero_le _, Nat.zero_le _⟩) ?_
      exact W.iret hx hb hr (fun t ht hW => ⟨congrArg (fun z => Outcome.returned (some (Value.int z))) (show qf_M_shifted x (qf_Pa_m w &&& 31) (1 : Int32) = qf_M_resultOf w x y from (by unfold qf_M_resultOf; rw [if_neg h1, if_neg h2, if_neg h3, if_neg h4, if_neg h5, if_neg h6, if_neg h7, if_neg h8, if_neg h9, if_neg h10, if_pos h11, if_pos h12])), ht⟩) (fun _ h => absurd h List.not_mem_nil) d_M_resultOf_121
  refine lv_tableOut (tgt := 122) hx hb d_M_resultOf_4 (by have a0 := lv_neT (a := 0) h1 (by decide); have a1 := lv_neT (a := 1) h2 (by decide); have a2 := lv_neT (a := 2) h3 (by decide); have a3 := lv_neT (a := 3) h4 (by decide); have a4 := lv_neT (a := 4) h5 (by decide); have a5 := lv_neT (a := 5) h6 (by decide); have a6 := lv_neT (a := 6) h7 (by decide); have a7 := lv_neT (a := 7) h8 (by decide); have a8 := lv_neT (a := 8) h9 (by decide); have a9 := lv_neT (a := 9) h10 (by decide); have a10 := lv_neT (a := 10) h11 (by decide); omega) (by decide) ?_
  refine lv_iconst (v := 0) hx hb d_M_resultOf_122 (by decide) ?_
  exact W.iret hx hb hr (fun t ht hW => ⟨congrArg (fun z => Outcome.returned (some (Value.int z))) (show 0 = qf_M_resultOf w x y from (by unfold qf_M_resultOf; rw [if_neg h1, if_neg h2, if_neg h3, if_neg h4, if_neg h5, if_neg h6, if_neg h7, if_neg h8, if_neg h9, if_neg h10, if_neg h11])), ht⟩) (fun _ h => absurd h List.not_mem_nil) d_M_resultOf_123
def qf_M_branchNullifies (w : Int32) (x : Int32) : Int32 :=
  if qf_Pa_n w = 0 then 0
  else if qf_Pa_kind w = 14 then (if qf_Pa_m w < 0 then (if (0 : Int32) = x then 1
      else 0)
    else if (1 : Int32) = x then 1
    else 0)
  else if qf_Pa_kind w = 15 then (if qf_Pa_m w < 0 then (if (0 : Int32) = x then 1
      else 0)
    else if (1 : Int32) = x then 1
    else 0)
  else 1
set_option maxHeartbeats 4000000 in
set_option maxRecDepth 100000 in
theorem c_M_branchNullifies (l : Launch) (D : va_G) (cA : ClassId) (w : Int32) (x : Int32) : Met l y_M_branchNullifies (Cond.code y_M_branchNullifies b_M_branchNullifies 3 (some .boolean) :: qx_T) ({ frames := 1, cells := 0, slots := 0, locals := 20 }) (qx_Pc D vwCl [(cA, .int)] ([]) [.int w, .int x]) (k2_QcV (.int (qf_M_branchNullifies w x))) 0 0 (fun _ => False) := by
  refine Met.ofW (cc := b_M_branchNullifies) (maxL := 3) (ret := (some .boolean)) (by decide) rfl ?_
  intro p e s m args below meth c s₁ B hml hv
  obtain ⟨rfl, hP, hK, hN, hD0⟩ := hv
  have hx := B.exec
  have hb := B.bytes
  have hr := B.returns
  have hts0 := atoms_spec (ws := Cond.code y_M_branchNullifies b_M_branchNullifies 3 (some .boolean) :: qx_T) B.pre
  have hts := fun w h => hts0 w (List.mem_cons_of_mem _ h)
  have hown : s.vm.findClass R_M = some m.cls := findClass_of_methodNamed B.named
  have hlocks := B.notSynchronized
  have hD : va_D (qx_ad ([])) ([]) := ⟨hD0.1, fun k q hk => ⟨k, q.2, hk⟩⟩
  generalize hAe : qx_ad ([]) = A at hD
  have hS : va_S A s.heap s.heap [] := va_S.rf
  have hl := lv_entry ([.int w, .int x]) (n := 3) (Nat.le_of_ble_eq_true rfl)
  rw [lg_entry_eq]
  generalize (lg_sl ([.int w, .int x]) ++ List.replicate (3 - (lg_sl ([.int w, .int x])).length) Slot.unset).toArray = ls at hl ⊢
  have hl : lv_has ls 3 [(0, .int w), (1, .int x)] := hl
  refine lv_iload_n hx hb d_M_branchNullifies_0 rfl (lv_at hl 0 rfl) ?_
  refine qx_rd (va_runS (As := [.int w]) (rest := []) ⟨hx, hb, hml, hown, hts⟩ (c_Pa_kind l D cA w) (qx_kS hts mw_217 mw_218 mw_34 mw_219 cd_Pa_kind ⟨Nat.le_of_ble_eq_true rfl, Nat.le_of_ble_eq_true rfl⟩) (qx_preS hP hD hK hN [] rfl rfl) rfl rfl hl.1 rfl (lv_room (Nat.le_of_ble_eq_true rfl)) d_M_branchNullifies_1 ⟨Nat.zero_le _, Nat.zero_le _⟩) ?_
  refine lv_istore_n (lv' := [(2, .int (qf_Pa_kind w)), (0, .int w), (1, .int x)]) hx hb d_M_branchNullifies_4 rfl hl (by decide) rfl (fun ls hl => ?_)
  refine lv_iload_n hx hb d_M_branchNullifies_5 rfl (lv_at hl 1 rfl) ?_
  refine qx_rd (va_runS (As := [.int w]) (rest := []) ⟨hx, hb, hml, hown, hts⟩ (c_Pa_n l D cA w) (qx_kS hts mw_252 mw_253 mw_34 mw_254 cd_Pa_n ⟨Nat.le_of_ble_eq_true rfl, Nat.le_of_ble_eq_true rfl⟩) (qx_preS hP hD hK hN [] rfl rfl) rfl rfl hl.1 rfl (lv_room (Nat.le_of_ble_eq_true rfl)) d_M_branchNullifies_6 ⟨Nat.zero_le _, Nat.zero_le _⟩) ?_
  refine lv_if_ne (tgt := 14) hx hb d_M_branchNullifies_9 (by decide) (fun h1 => ?_) (fun h1 => ?_)
  · skip
    refine lv_iload_n hx hb d_M_branchNullifies_14 rfl (lv_at hl 0 rfl) ?_
    refine lv_bipush (v := 14) hx hb d_M_branchNullifies_15 (by decide) ?_
    refine lv_icmp_eq (tgt := 26) hx hb d_M_branchNullifies_17 (by decide) (fun h2 => ?_) (fun h2 => ?_)
    · skip
      refine lv_iload_n hx hb d_M_branchNullifies_26 rfl (lv_at hl 1 rfl) ?_
      refine qx_rd (va_runS (As := [.int w]) (rest := []) ⟨hx, hb, hml, hown, hts⟩ (c_Pa_m l D cA w) (qx_kS hts mw_237 mw_238 mw_34 mw_239 cd_Pa_m ⟨Nat.le_of_ble_eq_true rfl, Nat.le_of_ble_eq_true rfl⟩) (qx_preS hP hD hK hN [] rfl rfl) rfl rfl hl.1 rfl (lv_room (Nat.le_of_ble_eq_true rfl)) d_M_branchNullifies_27 ⟨Nat.zero_le _, Nat.zero_le _⟩) ?_
      refine lv_if_lt (tgt := 37) hx hb d_M_branchNullifies_30 (by decide) (fun h3 => ?_) (fun h3 => ?_)
      · skip
        refine lv_iconst (v := 0) hx hb d_M_branchNullifies_37 (by decide) ?_
        refine lv_iload_n hx hb d_M_branchNullifies_38 rfl (lv_at hl 2 rfl) ?_
        refine lv_icmp_ne (tgt := 46) hx hb d_M_branchNullifies_39 (by decide) (fun h4 => ?_) (fun h4 => ?_)
        · skip
          refine lv_iconst (v := 0) hx hb d_M_branchNullifies_46 (by decide) ?_
          exact W.zret (ty := .boolean) hx hb hr rfl (fun t ht hW => ⟨congrArg (fun z => Outcome.returned (some (Value.int z))) (show 0 = qf_M_branchNullifies w x from (by unfold qf_M_branchNullifies; rw [if_neg h1, if_pos h2, if_pos h3, if_neg h4])), ht⟩) (fun _ h => absurd h List.not_mem_nil) d_M_branchNullifies_47
        · skip
          refine lv_iconst (v := 1) hx hb d_M_branchNullifies_42 (by decide) ?_
          refine lv_goto (tgt := 47) hx hb d_M_branchNullifies_43 (by decide) ?_
          exact W.zret (ty := .boolean) hx hb hr rfl (fun t ht hW => ⟨congrArg (fun z => Outcome.returned (some (Value.int z))) (show 1 = qf_M_branchNullifies w x from (by unfold qf_M_branchNullifies; rw [if_neg h1, if_pos h2, if_pos h3, if_pos h4])), ht⟩) (fun _ h => absurd h List.not_mem_nil) d_M_branchNullifies_47
      · skip
        refine lv_iconst (v := 1) hx hb d_M_branchNullifies_33 (by decide) ?_
        refine lv_goto (tgt := 38) hx hb d_M_branchNullifies_34 (by decide) ?_
        refine lv_iload_n hx hb d_M_branchNullifies_38 rfl (lv_at hl 2 rfl) ?_
        refine lv_icmp_ne (tgt := 46) hx hb d_M_branchNullifies_39 (by decide) (fun h5 => ?_) (fun h5 => ?_)
        · skip
          refine lv_iconst (v := 0) hx hb d_M_branchNullifies_46 (by decide) ?_
          exact W.zret (ty := .boolean) hx hb hr rfl (fun t ht hW => ⟨congrArg (fun z => Outcome.returned (some (Value.int z))) (show 0 = qf_M_branchNullifies w x from (by unfold qf_M_branchNullifies; rw [if_neg h1, if_pos h2, if_neg h3, if_neg h5])), ht⟩) (fun _ h => absurd h List.not_mem_nil) d_M_branchNullifies_47
        · skip
          refine lv_iconst (v := 1) hx hb d_M_branchNullifies_42 (by decide) ?_
          refine lv_goto (tgt := 47) hx hb d_M_branchNullifies_43 (by decide) ?_
          exact W.zret (ty := .boolean) hx hb hr rfl (fun t ht hW => ⟨congrArg (fun z => Outcome.returned (some (Value.int z))) (show 1 = qf_M_branchNullifies w x from (by unfold qf_M_branchNullifies; rw [if_neg h1, if_pos h2, if_neg h3, if_pos h5])), ht⟩) (fun _ h => absurd h List.not_mem_nil) d_M_branchNullifies_47
    · skip
      refine lv_iload_n hx hb d_M_branchNullifies_20 rfl (lv_at hl 0 rfl) ?_
      refine lv_bipush (v := 15) hx hb d_M_branchNullifies_21 (by decide) ?_
      refine lv_icmp_ne (tgt := 48) hx hb d_M_branchNullifies_23 (by decide) (fun h6 => ?_) (fun h6 => ?_)
      · skip
        refine lv_iconst (v := 1) hx hb d_M_branchNullifies_48 (by decide) ?_
        exact W.zret (ty := .boolean) hx hb hr rfl (fun t ht hW => ⟨congrArg (fun z => Outcome.returned (some (Value.int z))) (show 1 = qf_M_branchNullifies w x from (by unfold qf_M_branchNullifies; rw [if_neg h1, if_neg h2, if_neg h6])), ht⟩) (fun _ h => absurd h List.not_mem_nil) d_M_branchNullifies_49
      · skip
        refine lv_iload_n hx hb d_M_branchNullifies_26 rfl (lv_at hl 1 rfl) ?_
        refine qx_rd (va_runS (As := [.int w]) (rest := []) ⟨hx, hb, hml, hown, hts⟩ (c_Pa_m l D cA w) (qx_kS hts mw_237 mw_238 mw_34 mw_239 cd_Pa_m ⟨Nat.le_of_ble_eq_true rfl, Nat.le_of_ble_eq_true rfl⟩) (qx_preS hP hD hK hN [] rfl rfl) rfl rfl hl.1 rfl (lv_room (Nat.le_of_ble_eq_true rfl)) d_M_branchNullifies_27 ⟨Nat.zero_le _, Nat.zero_le _⟩) ?_
        refine lv_if_lt (tgt := 37) hx hb d_M_branchNullifies_30 (by decide) (fun h7 => ?_) (fun h7 => ?_)
        · skip
          refine lv_iconst (v := 0) hx hb d_M_branchNullifies_37 (by decide) ?_
          refine lv_iload_n hx hb d_M_branchNullifies_38 rfl (lv_at hl 2 rfl) ?_
          refine lv_icmp_ne (tgt := 46) hx hb d_M_branchNullifies_39 (by decide) (fun h8 => ?_) (fun h8 => ?_)
          · skip
            refine lv_iconst (v := 0) hx hb d_M_branchNullifies_46 (by decide) ?_
            exact W.zret (ty := .boolean) hx hb hr rfl (fun t ht hW => ⟨congrArg (fun z => Outcome.returned (some (Value.int z))) (show 0 = qf_M_branchNullifies w x from (by unfold qf_M_branchNullifies; rw [if_neg h1, if_neg h2, if_pos h6, if_pos h7, if_neg h8])), ht⟩) (fun _ h => absurd h List.not_mem_nil) d_M_branchNullifies_47
          · skip
            refine lv_iconst (v := 1) hx hb d_M_branchNullifies_42 (by decide) ?_
            refine lv_goto (tgt := 47) hx hb d_M_branchNullifies_43 (by decide) ?_
            exact W.zret (ty := .boolean) hx hb hr rfl (fun t ht hW => ⟨congrArg (fun z => Outcome.returned (some (Value.int z))) (show 1 = qf_M_branchNullifies w x from (by unfold qf_M_branchNullifies; rw [if_neg h1, if_neg h2, if_pos h6, if_pos h7, if_pos h8])), ht⟩) (fun _ h => absurd h List.not_mem_nil) d_M_branchNullifies_47
        · skip
          refine lv_iconst (v := 1) hx hb d_M_branchNullifies_33 (by decide) ?_
          refine lv_goto (tgt := 38) hx hb d_M_branchNullifies_34 (by decide) ?_
          refine lv_iload_n hx hb d_M_branchNullifies_38 rfl (lv_at hl 2 rfl) ?_
          refine lv_icmp_ne (tgt := 46) hx hb d_M_branchNullifies_39 (by decide) (fun h9 => ?_) (fun h9 => ?_)
          · skip
            refine lv_iconst (v := 0) hx hb d_M_branchNullifies_46 (by decide) ?_
            exact W.zret (ty := .boolean) hx hb hr rfl (fun t ht hW => ⟨congrArg (fun z => Outcome.returned (some (Value.int z))) (show 0 = qf_M_branchNullifies w x from (by unfold qf_M_branchNullifies; rw [if_neg h1, if_neg h2, if_pos h6, if_neg h7, if_neg h9])), ht⟩) (fun _ h => absurd h List.not_mem_nil) d_M_branchNullifies_47
          · skip
            refine lv_iconst (v := 1) hx hb d_M_branchNullifies_42 (by decide) ?_
            refine lv_goto (tgt := 47) hx hb d_M_branchNullifies_43 (by decide) ?_
            exact W.zret (ty := .boolean) hx hb hr rfl (fun t ht hW => ⟨congrArg (fun z => Outcome.returned (some (Value.int z))) (show 1 = qf_M_branchNullifies w x from (by unfold qf_M_branchNullifies; rw [if_neg h1, if_neg h2, if_pos h6, if_neg h7, if_pos h9])), ht⟩) (fun _ h => absurd h List.not_mem_nil) d_M_branchNullifies_47
  · skip
    refine lv_iconst (v := 0) hx hb d_M_branchNullifies_12 (by decide) ?_
    exact W.zret (ty := .boolean) hx hb hr rfl (fun t ht hW => ⟨congrArg (fun z => Outcome.returned (some (Value.int z))) (show 0 = qf_M_branchNullifies w x from (by unfold qf_M_branchNullifies; rw [if_pos h1])), ht⟩) (fun _ h => absurd h List.not_mem_nil) d_M_branchNullifies_13
theorem qf_M_branchNullifies_qb (w x : Int32) : qb (qf_M_branchNullifies w x) := by
  unfold qf_M_branchNullifies
  repeat' (first | apply qb_ite | exact qb_0 | exact qb_1)
def qf_M_savedThing (st : qs_M) (x : Int32) : Int32 :=
  if x = 0 then qf_Pl_offsetOf st.2.2.2.2.1.1
  else if x = 1 then qf_Pl_offsetOf st.2.2.2.2.1.2.1
  else if x = 2 then qf_Pl_spaceOf st.2.2.2.2.1.1
  else if x = 3 then qf_Pl_spaceOf st.2.2.2.2.1.2.1
  else if x = 4 then (st.2.2.2.2.1.2.2.1 + (2 * st.2.2.2.2.1.2.2.2))
  else if x = 5 then st.2.2.2.2.2.1
  else 0
set_option maxHeartbeats 4000000 in
set_option maxRecDepth 100000 in
theorem c_M_savedThing (l : Launch) (D : va_G) (cA : ClassId) (ad : Nat → Nat) (st : qs_M) (x : Int32) : Met l y_M_savedThing (Cond.code y_M_savedThing b_M_savedThing 2 (some .int) :: qx_T) ({ frames := 1, cells := 0, slots := 0, locals := 20 }) (qx_Pc D vwCl [(cA, .int)] (qw_M ad cA st) [.ref (ad 0), .int x]) (k2_QcV (.int (qf_M_savedThing st x))) 0 0 (fun _ => False) := by
  refine Met.ofW (cc := b_M_savedThing) (maxL := 2) (ret := (some .int)) (by decide) rfl ?_
  intro p e s m args below meth c s₁ B hml hv
  obtain ⟨rfl, hP, hK, hN, hD0⟩ := hv
  have hx := B.exec
  have hb := B.bytes
  have hr := B.returns
  have hts0 := atoms_spec (ws := Cond.code y_M_savedThing b_M_savedThing 2 (some .int) :: qx_T) B.pre
  have hts := fun w h => hts0 w (List.mem_cons_of_mem _ h)
  have hown : s.vm.findClass R_M = some m.cls := findClass_of_methodNamed B.named
  have hlocks := B.notSynchronized
  have hD : va_D (qx_ad (qw_M ad cA st)) (qw_M ad cA st) := ⟨hD0.1, fun k q hk => ⟨k, q.2, hk⟩⟩
  generalize hAe : qx_ad (qw_M ad cA st) = A at hD
  have hS : va_S A s.heap s.heap [] := va_S.rf
  have hl := lv_entry ([.ref (ad 0), .int x]) (n := 2) (Nat.le_of_ble_eq_true rfl)
  rw [lg_entry_eq]
  generalize (lg_sl ([.ref (ad 0), .int x]) ++ List.replicate (2 - (lg_sl ([.ref (ad 0), .int x])).length) Slot.unset).toArray = ls at hl ⊢
  have hl : lv_has ls 2 [(0, .ref (ad 0)), (1, .int x)] := hl
  refine lv_iload_n hx hb d_M_savedThing_0 rfl (lv_at hl 1 rfl) ?_
  by_cases h1 : x = 0
  · refine lv_tableIn (tgt := 40) hx hb d_M_savedThing_1 (by rw [h1]; decide) (by rw [h1]; decide) (by rw [h1]; rfl) (by decide) ?_
    refine lv_aload_n hx hb d_M_savedThing_40 rfl (lv_at hl 0 rfl) ?_
    refine va_get (D := D) (ci := 1) (v := .ref (ad 5)) (C := R_M) (T := T_M) (N := 7) hx hb hts in_M hown hK hP 0 rfl rfl 4 (by decide) (hts (Cond.fieldLink R_M 28 "QueuedFronts$Machine" "saved" "LQueuedFronts$Flow;") mw_103) (fun _ h9 => h9) rfl d_M_savedThing_41 ?_
    refine va_get (D := D) (ci := 2) (v := .int st.2.2.2.2.1.1) (C := R_F) (T := T_F) (N := 4) hx hb hts in_F hown hK hP 5 rfl rfl 0 (by decide) (hts (Cond.fieldLink R_M 156 "QueuedFronts$Flow" "front" "I") mw_59) (fun _ h9 => h9) rfl d_M_savedThing_44 ?_
    refine qx_rd (va_runS (As := [.int st.2.2.2.2.1.1]) (rest := []) ⟨hx, hb, hml, hown, hts⟩ (c_Pl_offsetOf l D cA st.2.2.2.2.1.1) (qx_kS hts mw_305 mw_90 mw_32 mw_91 cd_Pl_offsetOf ⟨Nat.le_of_ble_eq_true rfl, Nat.le_of_ble_eq_true rfl⟩) (qx_preS hP hD hK hN [] rfl rfl) rfl rfl hl.1 rfl (lv_room (Nat.le_of_ble_eq_true rfl)) d_M_savedThing_47 ⟨Nat.zero_le _, Nat.zero_le _⟩) ?_
    exact W.iret hx hb hr (fun t ht hW => ⟨congrArg (fun z => Outcome.returned (some (Value.int z))) (show qf_Pl_offsetOf st.2.2.2.2.1.1 = qf_M_savedThing st x from (by unfold qf_M_savedThing; rw [if_pos h1])), ht⟩) (fun _ h => absurd h List.not_mem_nil) d_M_savedThing_50
  by_cases h2 : x = 1
  · refine lv_tableIn (tgt := 51) hx hb d_M_savedThing_1 (by rw [h2]; decide) (by rw [h2]; decide) (by rw [h2]; rfl) (by decide) ?_
    refine lv_aload_n hx hb d_M_savedThing_51 rfl (lv_at hl 0 rfl) ?_
    refine va_get (D := D) (ci := 1) (v := .ref (ad 5)) (C := R_M) (T := T_M) (N := 7) hx hb hts in_M hown hK hP 0 rfl rfl 4 (by decide) (hts (Cond.fieldLink R_M 28 "QueuedFronts$Machine" "saved" "LQueuedFronts$Flow;") mw_103) (fun _ h9 => h9) rfl d_M_savedThing_52 ?_
    refine va_get (D := D) (ci := 2) (v := .int st.2.2.2.2.1.2.1) (C := R_F) (T := T_F) (N := 4) hx hb hts in_F hown hK hP 5 rfl rfl 1 (by decide) (hts (Cond.fieldLink R_M 139 "QueuedFronts$Flow" "back" "I") mw_62) (fun _ h9 => h9) rfl d_M_savedThing_55 ?_
    refine qx_rd (va_runS (As := [.int st.2.2.2.2.1.2.1]) (rest := []) ⟨hx, hb, hml, hown, hts⟩ (c_Pl_offsetOf l D cA st.2.2.2.2.1.2.1) (qx_kS hts mw_305 mw_90 mw_32 mw_91 cd_Pl_offsetOf ⟨Nat.le_of_ble_eq_true rfl, Nat.le_of_ble_eq_true rfl⟩) (qx_preS hP hD hK hN [] rfl rfl) rfl rfl hl.1 rfl (lv_room (Nat.le_of_ble_eq_true rfl)) d_M_savedThing_58 ⟨Nat.zero_le _, Nat.zero_le _⟩) ?_
    exact W.iret hx hb hr (fun t ht hW => ⟨congrArg (fun z => Outcome.returned (some (Value.int z))) (show qf_Pl_offsetOf st.2.2.2.2.1.2.1 = qf_M_savedThing st x from (by unfold qf_M_savedThing; rw [if_neg h1, if_pos h2])), ht⟩) (fun _ h => absurd h List.not_mem_nil) d_M_savedThing_61
  by_cases h3 : x = 2
  · refine lv_tableIn (tgt := 62) hx hb d_M_savedThing_1 (by rw [h3]; decide) (by rw [h3]; decide) (by rw [h3]; rfl) (by decide) ?_
    refine lv_aload_n hx hb d_M_savedThing_62 rfl (lv_at hl 0 rfl) ?_
    refine va_get (D := D) (ci := 1) (v := .ref (ad 5)) (C := R_M) (T := T_M) (N := 7) hx hb hts in_M hown hK hP 0 rfl rfl 4 (by decide) (hts (Cond.fieldLink R_M 28 "QueuedFronts$Machine" "saved" "LQueuedFronts$Flow;") mw_103) (fun _ h9 => h9) rfl d_M_savedThing_63 ?_
    refine va_get (D := D) (ci := 2) (v := .int st.2.2.2.2.1.1) (C := R_F) (T := T_F) (N := 4) hx hb hts in_F hown hK hP 5 rfl rfl 0 (by decide) (hts (Cond.fieldLink R_M 156 "QueuedFronts$Flow" "front" "I") mw_59) (fun _ h9 => h9) rfl d_M_savedThing_66 ?_
    refine qx_rd (va_runS (As := [.int st.2.2.2.2.1.1]) (rest := []) ⟨hx, hb, hml, hown, hts⟩ (c_Pl_spaceOf l D cA st.2.2.2.2.1.1) (qx_kS hts mw_304 mw_87 mw_32 mw_88 cd_Pl_spaceOf ⟨Nat.le_of_ble_eq_true rfl, Nat.le_of_ble_eq_true rfl⟩) (qx_preS hP hD hK hN [] rfl rfl) rfl rfl hl.1 rfl (lv_room (Nat.le_of_ble_eq_true rfl)) d_M_savedThing_69 ⟨Nat.zero_le _, Nat.zero_le _⟩) ?_
    exact W.iret hx hb hr (fun t ht hW => ⟨congrArg (fun z => Outcome.returned (some (Value.int z))) (show qf_Pl_spaceOf st.2.2.2.2.1.1 = qf_M_savedThing st x from (by unfold qf_M_savedThing; rw [if_neg h1, if_neg h2, if_pos h3])), ht⟩) (fun _ h => absurd h List.not_mem_nil) d_M_savedThing_72
  by_cases h4 : x = 3
  · refine lv_tableIn (tgt := 73) hx hb d_M_savedThing_1 (by rw [h4]; decide) (by rw [h4]; decide) (by rw [h4]; rfl) (by decide) ?_
    refine lv_aload_n hx hb d_M_savedThing_73 rfl (lv_at hl 0 rfl) ?_
    refine va_get (D := D) (ci := 1) (v := .ref (ad 5)) (C := R_M) (T := T_M) (N := 7) hx hb hts in_M hown hK hP 0 rfl rfl 4 (by decide) (hts (Cond.fieldLink R_M 28 "QueuedFronts$Machine" "saved" "LQueuedFronts$Flow;") mw_103) (fun _ h9 => h9) rfl d_M_savedThing_74 ?_
    refine va_get (D := D) (ci := 2) (v := .int st.2.2.2.2.1.2.1) (C := R_F) (T := T_F) (N := 4) hx hb hts in_F hown hK hP 5 rfl rfl 1 (by decide) (hts (Cond.fieldLink R_M 139 "QueuedFronts$Flow" "back" "I") mw_62) (fun _ h9 => h9) rfl d_M_savedThing_77 ?_
    refine qx_rd (va_runS (As := [.int st.2.2.2.2.1.2.1]) (rest := []) ⟨hx, hb, hml, hown, hts⟩ (c_Pl_spaceOf l D cA st.2.2.2.2.1.2.1) (qx_kS hts mw_304 mw_87 mw_32 mw_88 cd_Pl_spaceOf ⟨Nat.le_of_ble_eq_true rfl, Nat.le_of_ble_eq_true rfl⟩) (qx_preS hP hD hK hN [] rfl rfl) rfl rfl hl.1 rfl (lv_room (Nat.le_of_ble_eq_true rfl)) d_M_savedThing_80 ⟨Nat.zero_le _, Nat.zero_le _⟩) ?_
    exact W.iret hx hb hr (fun t ht hW => ⟨congrArg (fun z => Outcome.returned (some (Value.int z))) (show qf_Pl_spaceOf st.2.2.2.2.1.2.1 = qf_M_savedThing st x from (by unfold qf_M_savedThing; rw [if_neg h1, if_neg h2, if_neg h3, if_pos h4])), ht⟩) (fun _ h => absurd h List.not_mem_nil) d_M_savedThing_83
  by_cases h5 : x = 4
  · refine lv_tableIn (tgt := 84) hx hb d_M_savedThing_1 (by rw [h5]; decide) (by rw [h5]; decide) (by rw [h5]; rfl) (by decide) ?_
    refine lv_aload_n hx hb d_M_savedThing_84 rfl (lv_at hl 0 rfl) ?_
    refine va_get (D := D) (ci := 1) (v := .ref (ad 5)) (C := R_M) (T := T_M) (N := 7) hx hb hts in_M hown hK hP 0 rfl rfl 4 (by decide) (hts (Cond.fieldLink R_M 28 "QueuedFronts$Machine" "saved" "LQueuedFronts$Flow;") mw_103) (fun _ h9 => h9) rfl d_M_savedThing_85 ?_
    refine va_get (D := D) (ci := 2) (v := .int st.2.2.2.2.1.2.2.1) (C := R_F) (T := T_F) (N := 4) hx hb hts in_F hown hK hP 5 rfl rfl 2 (by decide) (hts (Cond.fieldLink R_M 174 "QueuedFronts$Flow" "nullify" "I") mw_65) (fun _ h9 => h9) rfl d_M_savedThing_88 ?_
    refine lv_iconst (v := 2) hx hb d_M_savedThing_91 (by decide) ?_
    refine lv_aload_n hx hb d_M_savedThing_92 rfl (lv_at hl 0 rfl) ?_
    refine va_get (D := D) (ci := 1) (v := .ref (ad 5)) (C := R_M) (T := T_M) (N := 7) hx hb hts in_M hown hK hP 0 rfl rfl 4 (by decide) (hts (Cond.fieldLink R_M 28 "QueuedFronts$Machine" "saved" "LQueuedFronts$Flow;") mw_103) (fun _ h9 => h9) rfl d_M_savedThing_93 ?_
    refine va_get (D := D) (ci := 2) (v := .int st.2.2.2.2.1.2.2.2) (C := R_F) (T := T_F) (N := 4) hx hb hts in_F hown hK hP 5 rfl rfl 3 (by decide) (hts (Cond.fieldLink R_M 165 "QueuedFronts$Flow" "lets" "I") mw_68) (fun _ h9 => h9) rfl d_M_savedThing_96 ?_
    refine lv_imul hx hb d_M_savedThing_99 ?_
    refine lv_iadd hx hb d_M_savedThing_100 ?_
    exact W.iret hx hb hr (fun t ht hW => ⟨congrArg (fun z => Outcome.returned (some (Value.int z))) (show (st.2.2.2.2.1.2.2.1 + (2 * st.2.2.2.2.1.2.2.2)) = qf_M_savedThing st x from (by unfold qf_M_savedThing; rw [if_neg h1, if_neg h2, if_neg h3, if_neg h4, if_pos h5])), ht⟩) (fun _ h => absurd h List.not_mem_nil) d_M_savedThing_101
  by_cases h6 : x = 5
  · refine lv_tableIn (tgt := 102) hx hb d_M_savedThing_1 (by rw [h6]; decide) (by rw [h6]; decide) (by rw [h6]; rfl) (by decide) ?_
    refine lv_aload_n hx hb d_M_savedThing_102 rfl (lv_at hl 0 rfl) ?_
    refine va_get (D := D) (ci := 1) (v := .int st.2.2.2.2.2.1) (C := R_M) (T := T_M) (N := 7) hx hb hts in_M hown hK hP 0 rfl rfl 5 (by decide) (hts (Cond.fieldLink R_M 31 "QueuedFronts$Machine" "savedCause" "I") mw_105) (fun _ h9 => h9) rfl d_M_savedThing_103 ?_
    exact W.iret hx hb hr (fun t ht hW => ⟨congrArg (fun z => Outcome.returned (some (Value.int z))) (show st.2.2.2.2.2.1 = qf_M_savedThing st x from (by unfold qf_M_savedThing; rw [if_neg h1, if_neg h2, if_neg h3, if_neg h4, if_neg h5, if_pos h6])), ht⟩) (fun _ h => absurd h List.not_mem_nil) d_M_savedThing_106
  refine lv_tableOut (tgt := 107) hx hb d_M_savedThing_1 (by have a0 := lv_neT (a := 0) h1 (by decide); have a1 := lv_neT (a := 1) h2 (by decide); have a2 := lv_neT (a := 2) h3 (by decide); have a3 := lv_neT (a := 3) h4 (by decide); have a4 := lv_neT (a := 4) h5 (by decide); have a5 := lv_neT (a := 5) h6 (by decide); omega) (by decide) ?_
  refine lv_iconst (v := 0) hx hb d_M_savedThing_107 (by decide) ?_
  exact W.iret hx hb hr (fun t ht hW => ⟨congrArg (fun z => Outcome.returned (some (Value.int z))) (show 0 = qf_M_savedThing st x from (by unfold qf_M_savedThing; rw [if_neg h1, if_neg h2, if_neg h3, if_neg h4, if_neg h5, if_neg h6])), ht⟩) (fun _ h => absurd h List.not_mem_nil) d_M_savedThing_108
def qf_M_setSavedThing (st : qs_M) (x : Int32) (v : Int32) : qs_M :=
  if x = 0 then (qm_M_sv st (qm_F_a st.2.2.2.2.1 (qf_Pl_of (qf_Pl_spaceOf st.2.2.2.2.1.1) v)))
  else if x = 1 then (qm_M_sv st (qm_F_b st.2.2.2.2.1 (qf_Pl_of (qf_Pl_spaceOf st.2.2.2.2.1.2.1) v)))
  else if x = 2 then (qm_M_sv st (qm_F_a st.2.2.2.2.1 (qf_Pl_of v (qf_Pl_offsetOf st.2.2.2.2.1.1))))
  else if x = 3 then (qm_M_sv st (qm_F_b st.2.2.2.2.1 (qf_Pl_of v (qf_Pl_offsetOf st.2.2.2.2.1.2.1))))
  else if x = 4 then (qm_M_sv st (qm_F_l (qm_F_n st.2.2.2.2.1 (v &&& 1)) ((qf_ush v 1) &&& 1)))
  else st
set_option maxHeartbeats 4000000 in
set_option maxRecDepth 100000 in
theorem c_M_setSavedThing (l : Launch) (D : va_G) (cA : ClassId) (ad : Nat → Nat) (st : qs_M) (x : Int32) (v : Int32) : Met l y_M_setSavedThing (Cond.code y_M_setSavedThing b_M_setSavedThing 3 none :: qx_T) ({ frames := 1, cells := 0, slots := 0, locals := 21 }) (qx_Pc D vwCl [(cA, .int)] (qw_M ad cA st) [.ref (ad 0), .int x, .int v]) (qx_Q D vwCl (qw_M ad cA (qf_M_setSavedThing st x v)) (qx_ad (qw_M ad cA st)) none) 0 0 (qx_ad (qw_M ad cA st)) := by
  refine Met.ofW (cc := b_M_setSavedThing) (maxL := 3) (ret := none) (by decide) rfl ?_
  intro p e s m args below meth c s₁ B hml hv
  obtain ⟨rfl, hP, hK, hN, hD0⟩ := hv
  have hx := B.exec
  have hb := B.bytes
  have hr := B.returns
  have hts0 := atoms_spec (ws := Cond.code y_M_setSavedThing b_M_setSavedThing 3 none :: qx_T) B.pre
  have hts := fun w h => hts0 w (List.mem_cons_of_mem _ h)
  have hown : s.vm.findClass R_M = some m.cls := findClass_of_methodNamed B.named
  have hlocks := B.notSynchronized
  have hD : va_D (qx_ad (qw_M ad cA st)) (qw_M ad cA st) := ⟨hD0.1, fun k q hk => ⟨k, q.2, hk⟩⟩
  generalize hAe : qx_ad (qw_M ad cA st) = A at hD ⊢
  have hS : va_S A s.heap s.heap [] := va_S.rf
  have hl := lv_entry ([.ref (ad 0), .int x, .int v]) (n := 3) (Nat.le_of_ble_eq_true rfl)
  rw [lg_entry_eq]
  generalize (lg_sl ([.ref (ad 0), .int x, .int v]) ++ List.replicate (3 - (lg_sl ([.ref (ad 0), .int x, .int v])).length) Slot.unset).toArray = ls at hl ⊢
  have hl : lv_has ls 3 [(0, .ref (ad 0)), (1, .int x), (2, .int v)] := hl
  refine lv_iload_n hx hb d_M_setSavedThing_0 rfl (lv_at hl 1 rfl) ?_
  by_cases h1 : x = 0
  · refine lv_tableIn (tgt := 36) hx hb d_M_setSavedThing_1 (by rw [h1]; decide) (by rw [h1]; decide) (by rw [h1]; rfl) (by decide) ?_
    refine lv_aload_n hx hb d_M_setSavedThing_36 rfl (lv_at hl 0 rfl) ?_
    refine va_get (D := D) (ci := 1) (v := .ref (ad 5)) (C := R_M) (T := T_M) (N := 7) hx hb hts in_M hown hK hP 0 rfl rfl 4 (by decide) (hts (Cond.fieldLink R_M 28 "QueuedFronts$Machine" "saved" "LQueuedFronts$Flow;") mw_103) (fun _ h9 => h9) rfl d_M_setSavedThing_37 ?_
    refine lv_aload_n hx hb d_M_setSavedThing_40 rfl (lv_at hl 0 rfl) ?_
    refine va_get (D := D) (ci := 1) (v := .ref (ad 5)) (C := R_M) (T := T_M) (N := 7) hx hb hts in_M hown hK hP 0 rfl rfl 4 (by decide) (hts (Cond.fieldLink R_M 28 "QueuedFronts$Machine" "saved" "LQueuedFronts$Flow;") mw_103) (fun _ h9 => h9) rfl d_M_setSavedThing_41 ?_
    refine va_get (D := D) (ci := 2) (v := .int st.2.2.2.2.1.1) (C := R_F) (T := T_F) (N := 4) hx hb hts in_F hown hK hP 5 rfl rfl 0 (by decide) (hts (Cond.fieldLink R_M 156 "QueuedFronts$Flow" "front" "I") mw_59) (fun _ h9 => h9) rfl d_M_setSavedThing_44 ?_
    refine qx_rd (va_runS (As := [.int st.2.2.2.2.1.1]) (rest := [.ref (ad 5)]) ⟨hx, hb, hml, hown, hts⟩ (c_Pl_spaceOf l D cA st.2.2.2.2.1.1) (qx_kS hts mw_304 mw_87 mw_32 mw_88 cd_Pl_spaceOf ⟨Nat.le_of_ble_eq_true rfl, Nat.le_of_ble_eq_true rfl⟩) (qx_preS hP hD hK hN [] rfl rfl) rfl rfl hl.1 rfl (lv_room (Nat.le_of_ble_eq_true rfl)) d_M_setSavedThing_47 ⟨Nat.zero_le _, Nat.zero_le _⟩) ?_
    refine lv_iload_n hx hb d_M_setSavedThing_50 rfl (lv_at hl 2 rfl) ?_
    refine qx_rd (va_runS (As := [.int (qf_Pl_spaceOf st.2.2.2.2.1.1), .int v]) (rest := [.ref (ad 5)]) ⟨hx, hb, hml, hown, hts⟩ (c_Pl_of l D cA (qf_Pl_spaceOf st.2.2.2.2.1.1) v) (qx_kS hts mw_204 mw_93 mw_32 mw_94 cd_Pl_of ⟨Nat.le_of_ble_eq_true rfl, Nat.le_of_ble_eq_true rfl⟩) (qx_preS hP hD hK hN [] rfl rfl) rfl rfl hl.1 rfl (lv_room (Nat.le_of_ble_eq_true rfl)) d_M_setSavedThing_51 ⟨Nat.zero_le _, Nat.zero_le _⟩) ?_
    refine va_put (D := D) (ci := 2) (v := .int (qf_Pl_of (qf_Pl_spaceOf st.2.2.2.2.1.1) v)) (ty := .int) (C := R_F) (T := T_F) (N := 4) hx hb hts in_F ty_F tyok_F nm_F hown hK hP hD hS 5 rfl rfl 0 (by decide) (hts (Cond.fieldLink R_M 156 "QueuedFronts$Flow" "front" "I") mw_59) (fun _ h9 => h9) rfl (by decide +kernel) rfl rfl (Nat.le_of_ble_eq_true rfl) d_M_setSavedThing_54 (fun H locs hP hD hS => ?_)
    have hP : va_P D vwCl (qw_M ad cA (qm_M_sv st (qm_F_a st.2.2.2.2.1 (qf_Pl_of (qf_Pl_spaceOf st.2.2.2.2.1.1) v)))) H := hP
    have hD : va_D A (qw_M ad cA (qm_M_sv st (qm_F_a st.2.2.2.2.1 (qf_Pl_of (qf_Pl_spaceOf st.2.2.2.2.1.1) v)))) := hD
    refine lv_goto (tgt := 157) hx hb d_M_setSavedThing_57 (by decide) ?_
    have e9 : (qm_M_sv st (qm_F_a st.2.2.2.2.1 (qf_Pl_of (qf_Pl_spaceOf st.2.2.2.2.1.1) v))) = qf_M_setSavedThing st x v := (by unfold qf_M_setSavedThing; rw [if_pos h1])
    exact W.vret hx hb hr (fun t ht hW => ⟨rfl, (by rw [ht, ← e9]; exact hP), hS.F ht⟩) hS.2.2 d_M_setSavedThing_157
  by_cases h2 : x = 1
  · refine lv_tableIn (tgt := 60) hx hb d_M_setSavedThing_1 (by rw [h2]; decide) (by rw [h2]; decide) (by rw [h2]; rfl) (by decide) ?_
    refine lv_aload_n hx hb d_M_setSavedThing_60 rfl (lv_at hl 0 rfl) ?_
    refine va_get (D := D) (ci := 1) (v := .ref (ad 5)) (C := R_M) (T := T_M) (N := 7) hx hb hts in_M hown hK hP 0 rfl rfl 4 (by decide) (hts (Cond.fieldLink R_M 28 "QueuedFronts$Machine" "saved" "LQueuedFronts$Flow;") mw_103) (fun _ h9 => h9) rfl d_M_setSavedThing_61 ?_
    refine lv_aload_n hx hb d_M_setSavedThing_64 rfl (lv_at hl 0 rfl) ?_
    refine va_get (D := D) (ci := 1) (v := .ref (ad 5)) (C := R_M) (T := T_M) (N := 7) hx hb hts in_M hown hK hP 0 rfl rfl 4 (by decide) (hts (Cond.fieldLink R_M 28 "QueuedFronts$Machine" "saved" "LQueuedFronts$Flow;") mw_103) (fun _ h9 => h9) rfl d_M_setSavedThing_65 ?_
    refine va_get (D := D) (ci := 2) (v := .int st.2.2.2.2.1.2.1) (C := R_F) (T := T_F) (N := 4) hx hb hts in_F hown hK hP 5 rfl rfl 1 (by decide) (hts (Cond.fieldLink R_M 139 "QueuedFronts$Flow" "back" "I") mw_62) (fun _ h9 => h9) rfl d_M_setSavedThing_68 ?_
    refine qx_rd (va_runS (As := [.int st.2.2.2.2.1.2.1]) (rest := [.ref (ad 5)]) ⟨hx, hb, hml, hown, hts⟩ (c_Pl_spaceOf l D cA st.2.2.2.2.1.2.1) (qx_kS hts mw_304 mw_87 mw_32 mw_88 cd_Pl_spaceOf ⟨Nat.le_of_ble_eq_true rfl, Nat.le_of_ble_eq_true rfl⟩) (qx_preS hP hD hK hN [] rfl rfl) rfl rfl hl.1 rfl (lv_room (Nat.le_of_ble_eq_true rfl)) d_M_setSavedThing_71 ⟨Nat.zero_le _, Nat.zero_le _⟩) ?_
    refine lv_iload_n hx hb d_M_setSavedThing_74 rfl (lv_at hl 2 rfl) ?_
    refine qx_rd (va_runS (As := [.int (qf_Pl_spaceOf st.2.2.2.2.1.2.1), .int v]) (rest := [.ref (ad 5)]) ⟨hx, hb, hml, hown, hts⟩ (c_Pl_of l D cA (qf_Pl_spaceOf st.2.2.2.2.1.2.1) v) (qx_kS hts mw_204 mw_93 mw_32 mw_94 cd_Pl_of ⟨Nat.le_of_ble_eq_true rfl, Nat.le_of_ble_eq_true rfl⟩) (qx_preS hP hD hK hN [] rfl rfl) rfl rfl hl.1 rfl (lv_room (Nat.le_of_ble_eq_true rfl)) d_M_setSavedThing_75 ⟨Nat.zero_le _, Nat.zero_le _⟩) ?_
    refine va_put (D := D) (ci := 2) (v := .int (qf_Pl_of (qf_Pl_spaceOf st.2.2.2.2.1.2.1) v)) (ty := .int) (C := R_F) (T := T_F) (N := 4) hx hb hts in_F ty_F tyok_F nm_F hown hK hP hD hS 5 rfl rfl 1 (by decide) (hts (Cond.fieldLink R_M 139 "QueuedFronts$Flow" "back" "I") mw_62) (fun _ h9 => h9) rfl (by decide +kernel) rfl rfl (Nat.le_of_ble_eq_true rfl) d_M_setSavedThing_78 (fun H locs hP hD hS => ?_)
    have hP : va_P D vwCl (qw_M ad cA (qm_M_sv st (qm_F_b st.2.2.2.2.1 (qf_Pl_of (qf_Pl_spaceOf st.2.2.2.2.1.2.1) v)))) H := hP
    have hD : va_D A (qw_M ad cA (qm_M_sv st (qm_F_b st.2.2.2.2.1 (qf_Pl_of (qf_Pl_spaceOf st.2.2.2.2.1.2.1) v)))) := hD
    refine lv_goto (tgt := 157) hx hb d_M_setSavedThing_81 (by decide) ?_
    have e9 : (qm_M_sv st (qm_F_b st.2.2.2.2.1 (qf_Pl_of (qf_Pl_spaceOf st.2.2.2.2.1.2.1) v))) = qf_M_setSavedThing st x v := (by unfold qf_M_setSavedThing; rw [if_neg h1, if_pos h2])
    exact W.vret hx hb hr (fun t ht hW => ⟨rfl, (by rw [ht, ← e9]; exact hP), hS.F ht⟩) hS.2.2 d_M_setSavedThing_157
  by_cases h3 : x = 2
  · refine lv_tableIn (tgt := 84) hx hb d_M_setSavedThing_1 (by rw [h3]; decide) (by rw [h3]; decide) (by rw [h3]; rfl) (by decide) ?_
    refine lv_aload_n hx hb d_M_setSavedThing_84 rfl (lv_at hl 0 rfl) ?_
    refine va_get (D := D) (ci := 1) (v := .ref (ad 5)) (C := R_M) (T := T_M) (N := 7) hx hb hts in_M hown hK hP 0 rfl rfl 4 (by decide) (hts (Cond.fieldLink R_M 28 "QueuedFronts$Machine" "saved" "LQueuedFronts$Flow;") mw_103) (fun _ h9 => h9) rfl d_M_setSavedThing_85 ?_
    refine lv_iload_n hx hb d_M_setSavedThing_88 rfl (lv_at hl 2 rfl) ?_
    refine lv_aload_n hx hb d_M_setSavedThing_89 rfl (lv_at hl 0 rfl) ?_
    refine va_get (D := D) (ci := 1) (v := .ref (ad 5)) (C := R_M) (T := T_M) (N := 7) hx hb hts in_M hown hK hP 0 rfl rfl 4 (by decide) (hts (Cond.fieldLink R_M 28 "QueuedFronts$Machine" "saved" "LQueuedFronts$Flow;") mw_103) (fun _ h9 => h9) rfl d_M_setSavedThing_90 ?_
    refine va_get (D := D) (ci := 2) (v := .int st.2.2.2.2.1.1) (C := R_F) (T := T_F) (N := 4) hx hb hts in_F hown hK hP 5 rfl rfl 0 (by decide) (hts (Cond.fieldLink R_M 156 "QueuedFronts$Flow" "front" "I") mw_59) (fun _ h9 => h9) rfl d_M_setSavedThing_93 ?_
    refine qx_rd (va_runS (As := [.int st.2.2.2.2.1.1]) (rest := [.int v, .ref (ad 5)]) ⟨hx, hb, hml, hown, hts⟩ (c_Pl_offsetOf l D cA st.2.2.2.2.1.1) (qx_kS hts mw_305 mw_90 mw_32 mw_91 cd_Pl_offsetOf ⟨Nat.le_of_ble_eq_true rfl, Nat.le_of_ble_eq_true rfl⟩) (qx_preS hP hD hK hN [] rfl rfl) rfl rfl hl.1 rfl (lv_room (Nat.le_of_ble_eq_true rfl)) d_M_setSavedThing_96 ⟨Nat.zero_le _, Nat.zero_le _⟩) ?_
    refine qx_rd (va_runS (As := [.int v, .int (qf_Pl_offsetOf st.2.2.2.2.1.1)]) (rest := [.ref (ad 5)]) ⟨hx, hb, hml, hown, hts⟩ (c_Pl_of l D cA v (qf_Pl_offsetOf st.2.2.2.2.1.1)) (qx_kS hts mw_204 mw_93 mw_32 mw_94 cd_Pl_of ⟨Nat.le_of_ble_eq_true rfl, Nat.le_of_ble_eq_true rfl⟩) (qx_preS hP hD hK hN [] rfl rfl) rfl rfl hl.1 rfl (lv_room (Nat.le_of_ble_eq_true rfl)) d_M_setSavedThing_99 ⟨Nat.zero_le _, Nat.zero_le _⟩) ?_
    refine va_put (D := D) (ci := 2) (v := .int (qf_Pl_of v (qf_Pl_offsetOf st.2.2.2.2.1.1))) (ty := .int) (C := R_F) (T := T_F) (N := 4) hx hb hts in_F ty_F tyok_F nm_F hown hK hP hD hS 5 rfl rfl 0 (by decide) (hts (Cond.fieldLink R_M 156 "QueuedFronts$Flow" "front" "I") mw_59) (fun _ h9 => h9) rfl (by decide +kernel) rfl rfl (Nat.le_of_ble_eq_true rfl) d_M_setSavedThing_102 (fun H locs hP hD hS => ?_)
    have hP : va_P D vwCl (qw_M ad cA (qm_M_sv st (qm_F_a st.2.2.2.2.1 (qf_Pl_of v (qf_Pl_offsetOf st.2.2.2.2.1.1))))) H := hP
    have hD : va_D A (qw_M ad cA (qm_M_sv st (qm_F_a st.2.2.2.2.1 (qf_Pl_of v (qf_Pl_offsetOf st.2.2.2.2.1.1))))) := hD
    refine lv_goto (tgt := 157) hx hb d_M_setSavedThing_105 (by decide) ?_
    have e9 : (qm_M_sv st (qm_F_a st.2.2.2.2.1 (qf_Pl_of v (qf_Pl_offsetOf st.2.2.2.2.1.1)))) = qf_M_setSavedThing st x v := (by unfold qf_M_setSavedThing; rw [if_neg h1, if_neg h2, if_pos h3])
    exact W.vret hx hb hr (fun t ht hW => ⟨rfl, (by rw [ht, ← e9]; exact hP), hS.F ht⟩) hS.2.2 d_M_setSavedThing_157
  by_cases h4 : x = 3
  · refine lv_tableIn (tgt := 108) hx hb d_M_setSavedThing_1 (by rw [h4]; decide) (by rw [h4]; decide) (by rw [h4]; rfl) (by decide) ?_
    refine lv_aload_n hx hb d_M_setSavedThing_108 rfl (lv_at hl 0 rfl) ?_
    refine va_get (D := D) (ci := 1) (v := .ref (ad 5)) (C := R_M) (T := T_M) (N := 7) hx hb hts in_M hown hK hP 0 rfl rfl 4 (by decide) (hts (Cond.fieldLink R_M 28 "QueuedFronts$Machine" "saved" "LQueuedFronts$Flow;") mw_103) (fun _ h9 => h9) rfl d_M_setSavedThing_109 ?_
    refine lv_iload_n hx hb d_M_setSavedThing_112 rfl (lv_at hl 2 rfl) ?_
    refine lv_aload_n hx hb d_M_setSavedThing_113 rfl (lv_at hl 0 rfl) ?_
    refine va_get (D := D) (ci := 1) (v := .ref (ad 5)) (C := R_M) (T := T_M) (N := 7) hx hb hts in_M hown hK hP 0 rfl rfl 4 (by decide) (hts (Cond.fieldLink R_M 28 "QueuedFronts$Machine" "saved" "LQueuedFronts$Flow;") mw_103) (fun _ h9 => h9) rfl d_M_setSavedThing_114 ?_
    refine va_get (D := D) (ci := 2) (v := .int st.2.2.2.2.1.2.1) (C := R_F) (T := T_F) (N := 4) hx hb hts in_F hown hK hP 5 rfl rfl 1 (by decide) (hts (Cond.fieldLink R_M 139 "QueuedFronts$Flow" "back" "I") mw_62) (fun _ h9 => h9) rfl d_M_setSavedThing_117 ?_
    refine qx_rd (va_runS (As := [.int st.2.2.2.2.1.2.1]) (rest := [.int v, .ref (ad 5)]) ⟨hx, hb, hml, hown, hts⟩ (c_Pl_offsetOf l D cA st.2.2.2.2.1.2.1) (qx_kS hts mw_305 mw_90 mw_32 mw_91 cd_Pl_offsetOf ⟨Nat.le_of_ble_eq_true rfl, Nat.le_of_ble_eq_true rfl⟩) (qx_preS hP hD hK hN [] rfl rfl) rfl rfl hl.1 rfl (lv_room (Nat.le_of_ble_eq_true rfl)) d_M_setSavedThing_120 ⟨Nat.zero_le _, Nat.zero_le _⟩) ?_
    refine qx_rd (va_runS (As := [.int v, .int (qf_Pl_offsetOf st.2.2.2.2.1.2.1)]) (rest := [.ref (ad 5)]) ⟨hx, hb, hml, hown, hts⟩ (c_Pl_of l D cA v (qf_Pl_offsetOf st.2.2.2.2.1.2.1)) (qx_kS hts mw_204 mw_93 mw_32 mw_94 cd_Pl_of ⟨Nat.le_of_ble_eq_true rfl, Nat.le_of_ble_eq_true rfl⟩) (qx_preS hP hD hK hN [] rfl rfl) rfl rfl hl.1 rfl (lv_room (Nat.le_of_ble_eq_true rfl)) d_M_setSavedThing_123 ⟨Nat.zero_le _, Nat.zero_le _⟩) ?_
    refine va_put (D := D) (ci := 2) (v := .int (qf_Pl_of v (qf_Pl_offsetOf st.2.2.2.2.1.2.1))) (ty := .int) (C := R_F) (T := T_F) (N := 4) hx hb hts in_F ty_F tyok_F nm_F hown hK hP hD hS 5 rfl rfl 1 (by decide) (hts (Cond.fieldLink R_M 139 "QueuedFronts$Flow" "back" "I") mw_62) (fun _ h9 => h9) rfl (by decide +kernel) rfl rfl (Nat.le_of_ble_eq_true rfl) d_M_setSavedThing_126 (fun H locs hP hD hS => ?_)
    have hP : va_P D vwCl (qw_M ad cA (qm_M_sv st (qm_F_b st.2.2.2.2.1 (qf_Pl_of v (qf_Pl_offsetOf st.2.2.2.2.1.2.1))))) H := hP
    have hD : va_D A (qw_M ad cA (qm_M_sv st (qm_F_b st.2.2.2.2.1 (qf_Pl_of v (qf_Pl_offsetOf st.2.2.2.2.1.2.1))))) := hD
    refine lv_goto (tgt := 157) hx hb d_M_setSavedThing_129 (by decide) ?_
    have e9 : (qm_M_sv st (qm_F_b st.2.2.2.2.1 (qf_Pl_of v (qf_Pl_offsetOf st.2.2.2.2.1.2.1)))) = qf_M_setSavedThing st x v := (by unfold qf_M_setSavedThing; rw [if_neg h1, if_neg h2, if_neg h3, if_pos h4])
    exact W.vret hx hb hr (fun t ht hW => ⟨rfl, (by rw [ht, ← e9]; exact hP), hS.F ht⟩) hS.2.2 d_M_setSavedThing_157
  by_cases h5 : x = 4
  · refine lv_tableIn (tgt := 132) hx hb d_M_setSavedThing_1 (by rw [h5]; decide) (by rw [h5]; decide) (by rw [h5]; rfl) (by decide) ?_
    refine lv_aload_n hx hb d_M_setSavedThing_132 rfl (lv_at hl 0 rfl) ?_
    refine va_get (D := D) (ci := 1) (v := .ref (ad 5)) (C := R_M) (T := T_M) (N := 7) hx hb hts in_M hown hK hP 0 rfl rfl 4 (by decide) (hts (Cond.fieldLink R_M 28 "QueuedFronts$Machine" "saved" "LQueuedFronts$Flow;") mw_103) (fun _ h9 => h9) rfl d_M_setSavedThing_133 ?_
    refine lv_iload_n hx hb d_M_setSavedThing_136 rfl (lv_at hl 2 rfl) ?_
    refine lv_iconst (v := 1) hx hb d_M_setSavedThing_137 (by decide) ?_
    refine lv_iand hx hb d_M_setSavedThing_138 ?_
    refine va_put (D := D) (ci := 2) (v := .int (v &&& 1)) (ty := .int) (C := R_F) (T := T_F) (N := 4) hx hb hts in_F ty_F tyok_F nm_F hown hK hP hD hS 5 rfl rfl 2 (by decide) (hts (Cond.fieldLink R_M 174 "QueuedFronts$Flow" "nullify" "I") mw_65) (fun _ h9 => h9) rfl (by decide +kernel) rfl rfl (Nat.le_of_ble_eq_true rfl) d_M_setSavedThing_139 (fun H locs hP hD hS => ?_)
    have hP : va_P D vwCl (qw_M ad cA (qm_M_sv st (qm_F_n st.2.2.2.2.1 (v &&& 1)))) H := hP
    have hD : va_D A (qw_M ad cA (qm_M_sv st (qm_F_n st.2.2.2.2.1 (v &&& 1)))) := hD
    refine lv_aload_n hx hb d_M_setSavedThing_142 rfl (lv_at hl 0 rfl) ?_
    refine va_get (D := D) (ci := 1) (v := .ref (ad 5)) (C := R_M) (T := T_M) (N := 7) hx hb hts in_M hown hK hP 0 rfl rfl 4 (by decide) (hts (Cond.fieldLink R_M 28 "QueuedFronts$Machine" "saved" "LQueuedFronts$Flow;") mw_103) (fun _ h9 => h9) rfl d_M_setSavedThing_143 ?_
    refine lv_iload_n hx hb d_M_setSavedThing_146 rfl (lv_at hl 2 rfl) ?_
    refine lv_iconst (v := 1) hx hb d_M_setSavedThing_147 (by decide) ?_
    refine lv_iushr (v := (qf_ush v 1)) hx hb d_M_setSavedThing_148 rfl ?_
    refine lv_iconst (v := 1) hx hb d_M_setSavedThing_149 (by decide) ?_
    refine lv_iand hx hb d_M_setSavedThing_150 ?_
    refine va_put (D := D) (ci := 2) (v := .int ((qf_ush v 1) &&& 1)) (ty := .int) (C := R_F) (T := T_F) (N := 4) hx hb hts in_F ty_F tyok_F nm_F hown hK hP hD hS 5 rfl rfl 3 (by decide) (hts (Cond.fieldLink R_M 165 "QueuedFronts$Flow" "lets" "I") mw_68) (fun _ h9 => h9) rfl (by decide +kernel) rfl rfl (Nat.le_of_ble_eq_true rfl) d_M_setSavedThing_151 (fun H locs hP hD hS => ?_)
    have hP : va_P D vwCl (qw_M ad cA (qm_M_sv st (qm_F_l (qm_F_n st.2.2.2.2.1 (v &&& 1)) ((qf_ush v 1) &&& 1)))) H := hP
    have hD : va_D A (qw_M ad cA (qm_M_sv st (qm_F_l (qm_F_n st.2.2.2.2.1 (v &&& 1)) ((qf_ush v 1) &&& 1)))) := hD
    refine lv_goto (tgt := 157) hx hb d_M_setSavedThing_154 (by decide) ?_
    have e9 : (qm_M_sv st (qm_F_l (qm_F_n st.2.2.2.2.1 (v &&& 1)) ((qf_ush v 1) &&& 1))) = qf_M_setSavedThing st x v := (by unfold qf_M_setSavedThing; rw [if_neg h1, if_neg h2, if_neg h3, if_neg h4, if_pos h5])
    exact W.vret hx hb hr (fun t ht hW => ⟨rfl, (by rw [ht, ← e9]; exact hP), hS.F ht⟩) hS.2.2 d_M_setSavedThing_157
  refine lv_tableOut (tgt := 157) hx hb d_M_setSavedThing_1 (by have a0 := lv_neT (a := 0) h1 (by decide); have a1 := lv_neT (a := 1) h2 (by decide); have a2 := lv_neT (a := 2) h3 (by decide); have a3 := lv_neT (a := 3) h4 (by decide); have a4 := lv_neT (a := 4) h5 (by decide); omega) (by decide) ?_
  have e9 : st = qf_M_setSavedThing st x v := (by unfold qf_M_setSavedThing; rw [if_neg h1, if_neg h2, if_neg h3, if_neg h4, if_neg h5])
  exact W.vret hx hb hr (fun t ht hW => ⟨rfl, (by rw [ht, ← e9]; exact hP), hS.F ht⟩) hS.2.2 d_M_setSavedThing_157
def qf_M_targetOf (st : qs_M) (w : Int32) : Int32 :=
  if qf_Pa_kind w = 16 then qf_Pl_of (qf_Pl_spaceOf st.2.2.2.1.1) (qf_M_valueA st w + qf_Pa_m w)
  else if qf_Pa_kind w = 17 then qf_Pl_of (qf_M_valueS st w) (qf_M_valueA st w + qf_Pa_m w)
  else qf_Pl_of (qf_Pl_spaceOf st.2.2.2.1.1) ((qf_Pl_offsetOf st.2.2.2.1.1 + 2) + qf_Pa_m w)
set_option maxHeartbeats 4000000 in
set_option maxRecDepth 100000 in
theorem c_M_targetOf (l : Launch) (D : va_G) (cA : ClassId) (ad : Nat → Nat) (st : qs_M) (w : Int32) : Met l y_M_targetOf (Cond.code y_M_targetOf b_M_targetOf 4 (some .int) :: qx_T) ({ frames := 2, cells := 0, slots := 0, locals := 41 }) (qx_Pc D vwCl [(cA, .int)] (qw_M ad cA st) [.ref (ad 0), .int w]) (k2_QcV (.int (qf_M_targetOf st w))) 0 0 (fun _ => False) := by
  refine Met.ofW (cc := b_M_targetOf) (maxL := 4) (ret := (some .int)) (by decide) rfl ?_
  intro p e s m args below meth c s₁ B hml hv
  obtain ⟨rfl, hP, hK, hN, hD0⟩ := hv
  have hx := B.exec
  have hb := B.bytes
  have hr := B.returns
  have hts0 := atoms_spec (ws := Cond.code y_M_targetOf b_M_targetOf 4 (some .int) :: qx_T) B.pre
  have hts := fun w h => hts0 w (List.mem_cons_of_mem _ h)
  have hown : s.vm.findClass R_M = some m.cls := findClass_of_methodNamed B.named
  have hlocks := B.notSynchronized
  have hD : va_D (qx_ad (qw_M ad cA st)) (qw_M ad cA st) := ⟨hD0.1, fun k q hk => ⟨k, q.2, hk⟩⟩
  generalize hAe : qx_ad (qw_M ad cA st) = A at hD
  have hS : va_S A s.heap s.heap [] := va_S.rf
  have hl := lv_entry ([.ref (ad 0), .int w]) (n := 4) (Nat.le_of_ble_eq_true rfl)
  rw [lg_entry_eq]
  generalize (lg_sl ([.ref (ad 0), .int w]) ++ List.replicate (4 - (lg_sl ([.ref (ad 0), .int w])).length) Slot.unset).toArray = ls at hl ⊢
  have hl : lv_has ls 4 [(0, .ref (ad 0)), (1, .int w)] := hl
  refine lv_aload_n hx hb d_M_targetOf_0 rfl (lv_at hl 0 rfl) ?_
  refine va_get (D := D) (ci := 1) (v := .ref (ad 4)) (C := R_M) (T := T_M) (N := 7) hx hb hts in_M hown hK hP 0 rfl rfl 3 (by decide) (hts (Cond.fieldLink R_M 24 "QueuedFronts$Machine" "flow" "LQueuedFronts$Flow;") mw_101) (fun _ h9 => h9) rfl d_M_targetOf_1 ?_
  refine va_get (D := D) (ci := 2) (v := .int st.2.2.2.1.1) (C := R_F) (T := T_F) (N := 4) hx hb hts in_F hown hK hP 4 rfl rfl 0 (by decide) (hts (Cond.fieldLink R_M 156 "QueuedFronts$Flow" "front" "I") mw_59) (fun _ h9 => h9) rfl d_M_targetOf_4 ?_
  refine qx_rd (va_runS (As := [.int st.2.2.2.1.1]) (rest := []) ⟨hx, hb, hml, hown, hts⟩ (c_Pl_spaceOf l D cA st.2.2.2.1.1) (qx_kS hts mw_304 mw_87 mw_32 mw_88 cd_Pl_spaceOf ⟨Nat.le_of_ble_eq_true rfl, Nat.le_of_ble_eq_true rfl⟩) (qx_preS hP hD hK hN [] rfl rfl) rfl rfl hl.1 rfl (lv_room (Nat.le_of_ble_eq_true rfl)) d_M_targetOf_7 ⟨Nat.zero_le _, Nat.zero_le _⟩) ?_
  refine lv_istore_n (lv' := [(2, .int (qf_Pl_spaceOf st.2.2.2.1.1)), (0, .ref (ad 0)), (1, .int w)]) hx hb d_M_targetOf_10 rfl hl (by decide) rfl (fun ls hl => ?_)
  refine lv_iload_n hx hb d_M_targetOf_11 rfl (lv_at hl 2 rfl) ?_
  refine qx_rd (va_runS (As := [.int w]) (rest := []) ⟨hx, hb, hml, hown, hts⟩ (c_Pa_m l D cA w) (qx_kS hts mw_237 mw_238 mw_34 mw_239 cd_Pa_m ⟨Nat.le_of_ble_eq_true rfl, Nat.le_of_ble_eq_true rfl⟩) (qx_preS hP hD hK hN [] rfl rfl) rfl rfl hl.1 rfl (lv_room (Nat.le_of_ble_eq_true rfl)) d_M_targetOf_12 ⟨Nat.zero_le _, Nat.zero_le _⟩) ?_
  refine lv_istore_n (lv' := [(3, .int (qf_Pa_m w)), (2, .int (qf_Pl_spaceOf st.2.2.2.1.1)), (0, .ref (ad 0)), (1, .int w)]) hx hb d_M_targetOf_15 rfl hl (by decide) rfl (fun ls hl => ?_)
  refine lv_iload_n hx hb d_M_targetOf_16 rfl (lv_at hl 3 rfl) ?_
  refine qx_rd (va_runS (As := [.int w]) (rest := []) ⟨hx, hb, hml, hown, hts⟩ (c_Pa_kind l D cA w) (qx_kS hts mw_217 mw_218 mw_34 mw_219 cd_Pa_kind ⟨Nat.le_of_ble_eq_true rfl, Nat.le_of_ble_eq_true rfl⟩) (qx_preS hP hD hK hN [] rfl rfl) rfl rfl hl.1 rfl (lv_room (Nat.le_of_ble_eq_true rfl)) d_M_targetOf_17 ⟨Nat.zero_le _, Nat.zero_le _⟩) ?_
  by_cases h1 : qf_Pa_kind w = 16
  · refine lv_lookup (off := 28) (tgt := 48) hx hb d_M_targetOf_20 (by decide) (by rw [h1]; try rfl) (by decide) ?_
    refine lv_iload_n hx hb d_M_targetOf_48 rfl (lv_at hl 1 rfl) ?_
    refine lv_aload_n hx hb d_M_targetOf_49 rfl (lv_at hl 2 rfl) ?_
    refine lv_iload_n hx hb d_M_targetOf_50 rfl (lv_at hl 3 rfl) ?_
    refine qx_rd (va_runV (As := [.int w]) (rest := [.int (qf_Pl_spaceOf st.2.2.2.1.1)]) ⟨hx, hb, hml, hown, hts⟩ (c_M_valueA l D cA ad st w) (qx_kV hts mw_220 mw_222 mw_2 mw_30 mw_223 cd_M_valueA ⟨Nat.le_of_ble_eq_true rfl, Nat.le_of_ble_eq_true rfl⟩) (qx_preV (q0 := 0) (ci := 1) (q := (R_M, T_M, 7)) hP hD hK hN [0, 1, 2, 3, 4, 5] rfl rfl rfl rfl) rfl rfl hl.1 rfl (lv_room (Nat.le_of_ble_eq_true rfl)) d_M_targetOf_51 ⟨Nat.zero_le _, Nat.zero_le _⟩) ?_
    refine lv_iload_n hx hb d_M_targetOf_54 rfl (lv_at hl 0 rfl) ?_
    refine lv_iadd hx hb d_M_targetOf_55 ?_
    refine qx_rd (va_runS (As := [.int (qf_Pl_spaceOf st.2.2.2.1.1), .int (qf_M_valueA st w + qf_Pa_m w)]) (rest := []) ⟨hx, hb, hml, hown, hts⟩ (c_Pl_of l D cA (qf_Pl_spaceOf st.2.2.2.1.1) (qf_M_valueA st w + qf_Pa_m w)) (qx_kS hts mw_204 mw_93 mw_32 mw_94 cd_Pl_of ⟨Nat.le_of_ble_eq_true rfl, Nat.le_of_ble_eq_true rfl⟩) (qx_preS hP hD hK hN [] rfl rfl) rfl rfl hl.1 rfl (lv_room (Nat.le_of_ble_eq_true rfl)) d_M_targetOf_56 ⟨Nat.zero_le _, Nat.zero_le _⟩) ?_
    exact W.iret hx hb hr (fun t ht hW => ⟨congrArg (fun z => Outcome.returned (some (Value.int z))) (show qf_Pl_of (qf_Pl_spaceOf st.2.2.2.1.1) (qf_M_valueA st w + qf_Pa_m w) = qf_M_targetOf st w from (by unfold qf_M_targetOf; rw [if_pos h1])), ht⟩) (fun _ h => absurd h List.not_mem_nil) d_M_targetOf_59
  by_cases h2 : qf_Pa_kind w = 17
  · refine lv_lookup (off := 40) (tgt := 60) hx hb d_M_targetOf_20 (by decide) (by rw [h2]; try rfl) (by decide) ?_
    refine lv_aload_n hx hb d_M_targetOf_60 rfl (lv_at hl 2 rfl) ?_
    refine lv_iload_n hx hb d_M_targetOf_61 rfl (lv_at hl 3 rfl) ?_
    refine qx_rd (va_runV (As := [.int w]) (rest := []) ⟨hx, hb, hml, hown, hts⟩ (c_M_valueS l D cA ad st w) (qx_kV hts mw_280 mw_282 mw_7 mw_30 mw_283 cd_M_valueS ⟨Nat.le_of_ble_eq_true rfl, Nat.le_of_ble_eq_true rfl⟩) (qx_preV (q0 := 0) (ci := 1) (q := (R_M, T_M, 7)) hP hD hK hN [0, 1, 2, 3, 4, 5] rfl rfl rfl rfl) rfl rfl hl.1 rfl (lv_room (Nat.le_of_ble_eq_true rfl)) d_M_targetOf_62 ⟨Nat.zero_le _, Nat.zero_le _⟩) ?_
    refine lv_aload_n hx hb d_M_targetOf_65 rfl (lv_at hl 2 rfl) ?_
    refine lv_iload_n hx hb d_M_targetOf_66 rfl (lv_at hl 3 rfl) ?_
    refine qx_rd (va_runV (As := [.int w]) (rest := [.int (qf_M_valueS st w)]) ⟨hx, hb, hml, hown, hts⟩ (c_M_valueA l D cA ad st w) (qx_kV hts mw_220 mw_222 mw_2 mw_30 mw_223 cd_M_valueA ⟨Nat.le_of_ble_eq_true rfl, Nat.le_of_ble_eq_true rfl⟩) (qx_preV (q0 := 0) (ci := 1) (q := (R_M, T_M, 7)) hP hD hK hN [0, 1, 2, 3, 4, 5] rfl rfl rfl rfl) rfl rfl hl.1 rfl (lv_room (Nat.le_of_ble_eq_true rfl)) d_M_targetOf_67 ⟨Nat.zero_le _, Nat.zero_le _⟩) ?_
    refine lv_iload_n hx hb d_M_targetOf_70 rfl (lv_at hl 0 rfl) ?_
    refine lv_iadd hx hb d_M_targetOf_71 ?_
    refine qx_rd (va_runS (As := [.int (qf_M_valueS st w), .int (qf_M_valueA st w + qf_Pa_m w)]) (rest := []) ⟨hx, hb, hml, hown, hts⟩ (c_Pl_of l D cA (qf_M_valueS st w) (qf_M_valueA st w + qf_Pa_m w)) (qx_kS hts mw_204 mw_93 mw_32 mw_94 cd_Pl_of ⟨Nat.le_of_ble_eq_true rfl, Nat.le_of_ble_eq_true rfl⟩) (qx_preS hP hD hK hN [] rfl rfl) rfl rfl hl.1 rfl (lv_room (Nat.le_of_ble_eq_true rfl)) d_M_targetOf_72 ⟨Nat.zero_le _, Nat.zero_le _⟩) ?_
    exact W.iret hx hb hr (fun t ht hW => ⟨congrArg (fun z => Outcome.returned (some (Value.int z))) (show qf_Pl_of (qf_M_valueS st w) (qf_M_valueA st w + qf_Pa_m w) = qf_M_targetOf st w from (by unfold qf_M_targetOf; rw [if_neg h1, if_pos h2])), ht⟩) (fun _ h => absurd h List.not_mem_nil) d_M_targetOf_75
  refine lv_lookup (off := 56) (tgt := 76) hx hb d_M_targetOf_20 (by decide) ((lv_osw h1 (by decide)).trans ((lv_osw h2 (by decide)).trans (rfl))) (by decide) ?_
  refine lv_iload_n hx hb d_M_targetOf_76 rfl (lv_at hl 1 rfl) ?_
  refine lv_aload_n hx hb d_M_targetOf_77 rfl (lv_at hl 2 rfl) ?_
  refine va_get (D := D) (ci := 1) (v := .ref (ad 4)) (C := R_M) (T := T_M) (N := 7) hx hb hts in_M hown hK hP 0 rfl rfl 3 (by decide) (hts (Cond.fieldLink R_M 24 "QueuedFronts$Machine" "flow" "LQueuedFronts$Flow;") mw_101) (fun _ h9 => h9) rfl d_M_targetOf_78 ?_
  refine va_get (D := D) (ci := 2) (v := .int st.2.2.2.1.1) (C := R_F) (T := T_F) (N := 4) hx hb hts in_F hown hK hP 4 rfl rfl 0 (by decide) (hts (Cond.fieldLink R_M 156 "QueuedFronts$Flow" "front" "I") mw_59) (fun _ h9 => h9) rfl d_M_targetOf_81 ?_
  refine qx_rd (va_runS (As := [.int st.2.2.2.1.1]) (rest := [.int (qf_Pl_spaceOf st.2.2.2.1.1)]) ⟨hx, hb, hml, hown, hts⟩ (c_Pl_offsetOf l D cA st.2.2.2.1.1) (qx_kS hts mw_305 mw_90 mw_32 mw_91 cd_Pl_offsetOf ⟨Nat.le_of_ble_eq_true rfl, Nat.le_of_ble_eq_true rfl⟩) (qx_preS hP hD hK hN [] rfl rfl) rfl rfl hl.1 rfl (lv_room (Nat.le_of_ble_eq_true rfl)) d_M_targetOf_84 ⟨Nat.zero_le _, Nat.zero_le _⟩) ?_
  refine lv_iconst (v := 2) hx hb d_M_targetOf_87 (by decide) ?_
  refine lv_iadd hx hb d_M_targetOf_88 ?_
  refine lv_iload_n hx hb d_M_targetOf_89 rfl (lv_at hl 0 rfl) ?_
  refine lv_iadd hx hb d_M_targetOf_90 ?_
  refine qx_rd (va_runS (As := [.int (qf_Pl_spaceOf st.2.2.2.1.1), .int ((qf_Pl_offsetOf st.2.2.2.1.1 + 2) + qf_Pa_m w)]) (rest := []) ⟨hx, hb, hml, hown, hts⟩ (c_Pl_of l D cA (qf_Pl_spaceOf st.2.2.2.1.1) ((qf_Pl_offsetOf st.2.2.2.1.1 + 2) + qf_Pa_m w)) (qx_kS hts mw_204 mw_93 mw_32 mw_94 cd_Pl_of ⟨Nat.le_of_ble_eq_true rfl, Nat.le_of_ble_eq_true rfl⟩) (qx_preS hP hD hK hN [] rfl rfl) rfl rfl hl.1 rfl (lv_room (Nat.le_of_ble_eq_true rfl)) d_M_targetOf_91 ⟨Nat.zero_le _, Nat.zero_le _⟩) ?_
  exact W.iret hx hb hr (fun t ht hW => ⟨congrArg (fun z => Outcome.returned (some (Value.int z))) (show qf_Pl_of (qf_Pl_spaceOf st.2.2.2.1.1) ((qf_Pl_offsetOf st.2.2.2.1.1 + 2) + qf_Pa_m w) = qf_M_targetOf st w from (by unfold qf_M_targetOf; rw [if_neg h1, if_neg h2])), ht⟩) (fun _ h => absurd h List.not_mem_nil) d_M_targetOf_94
def qf_M_takesBranch (st : qs_M) (w : Int32) (x : Int32) : Int32 :=
  if qf_Pa_kind w = 14 then qf_Co_holds (qf_Pa_condition w) (qf_M_valueA st w) (qf_M_valueB st w)
  else if qf_Pa_kind w = 15 then qf_Co_holds (qf_Pa_condition w) x (0 : Int32)
  else 1
set_option maxHeartbeats 4000000 in
set_option maxRecDepth 100000 in
theorem c_M_takesBranch (l : Launch) (D : va_G) (cA : ClassId) (ad : Nat → Nat) (st : qs_M) (w : Int32) (x : Int32) : Met l y_M_takesBranch (Cond.code y_M_takesBranch b_M_takesBranch 3 (some .boolean) :: qx_T) ({ frames := 2, cells := 0, slots := 0, locals := 42 }) (qx_Pc D vwCl [(cA, .int)] (qw_M ad cA st) [.ref (ad 0), .int w, .int x]) (k2_QcV (.int (qf_M_takesBranch st w x))) 0 0 (fun _ => False) := by
  refine Met.ofW (cc := b_M_takesBranch) (maxL := 3) (ret := (some .boolean)) (by decide) rfl ?_
  intro p e s m args below meth c s₁ B hml hv
  obtain ⟨rfl, hP, hK, hN, hD0⟩ := hv
  have hx := B.exec
  have hb := B.bytes
  have hr := B.returns
  have hts0 := atoms_spec (ws := Cond.code y_M_takesBranch b_M_takesBranch 3 (some .boolean) :: qx_T) B.pre
  have hts := fun w h => hts0 w (List.mem_cons_of_mem _ h)
  have hown : s.vm.findClass R_M = some m.cls := findClass_of_methodNamed B.named
  have hlocks := B.notSynchronized
  have hD : va_D (qx_ad (qw_M ad cA st)) (qw_M ad cA st) := ⟨hD0.1, fun k q hk => ⟨k, q.2, hk⟩⟩
  generalize hAe : qx_ad (qw_M ad cA st) = A at hD
  have hS : va_S A s.heap s.heap [] := va_S.rf
  have hl := lv_entry ([.ref (ad 0), .int w, .int x]) (n := 3) (Nat.le_of_ble_eq_true rfl)
  rw [lg_entry_eq]
  generalize (lg_sl ([.ref (ad 0), .int w, .int x]) ++ List.replicate (3 - (lg_sl ([.ref (ad 0), .int w, .int x])).length) Slot.unset).toArray = ls at hl ⊢
  have hl : lv_has ls 3 [(0, .ref (ad 0)), (1, .int w), (2, .int x)] := hl
  refine lv_iload_n hx hb d_M_takesBranch_0 rfl (lv_at hl 1 rfl) ?_
  refine qx_rd (va_runS (As := [.int w]) (rest := []) ⟨hx, hb, hml, hown, hts⟩ (c_Pa_kind l D cA w) (qx_kS hts mw_217 mw_218 mw_34 mw_219 cd_Pa_kind ⟨Nat.le_of_ble_eq_true rfl, Nat.le_of_ble_eq_true rfl⟩) (qx_preS hP hD hK hN [] rfl rfl) rfl rfl hl.1 rfl (lv_room (Nat.le_of_ble_eq_true rfl)) d_M_takesBranch_1 ⟨Nat.zero_le _, Nat.zero_le _⟩) ?_
  by_cases h1 : qf_Pa_kind w = 14
  · refine lv_lookup (off := 28) (tgt := 32) hx hb d_M_takesBranch_4 (by decide) (by rw [h1]; try rfl) (by decide) ?_
    refine lv_iload_n hx hb d_M_takesBranch_32 rfl (lv_at hl 1 rfl) ?_
    refine qx_rd (va_runS (As := [.int w]) (rest := []) ⟨hx, hb, hml, hown, hts⟩ (c_Pa_condition l D cA w) (qx_kS hts mw_258 mw_259 mw_34 mw_260 cd_Pa_condition ⟨Nat.le_of_ble_eq_true rfl, Nat.le_of_ble_eq_true rfl⟩) (qx_preS hP hD hK hN [] rfl rfl) rfl rfl hl.1 rfl (lv_room (Nat.le_of_ble_eq_true rfl)) d_M_takesBranch_33 ⟨Nat.zero_le _, Nat.zero_le _⟩) ?_
    refine lv_aload_n hx hb d_M_takesBranch_36 rfl (lv_at hl 0 rfl) ?_
    refine lv_iload_n hx hb d_M_takesBranch_37 rfl (lv_at hl 1 rfl) ?_
    refine qx_rd (va_runV (As := [.int w]) (rest := [.int (qf_Pa_condition w)]) ⟨hx, hb, hml, hown, hts⟩ (c_M_valueA l D cA ad st w) (qx_kV hts mw_220 mw_222 mw_2 mw_30 mw_223 cd_M_valueA ⟨Nat.le_of_ble_eq_true rfl, Nat.le_of_ble_eq_true rfl⟩) (qx_preV (q0 := 0) (ci := 1) (q := (R_M, T_M, 7)) hP hD hK hN [0, 1, 2, 3, 4, 5] rfl rfl rfl rfl) rfl rfl hl.1 rfl (lv_room (Nat.le_of_ble_eq_true rfl)) d_M_takesBranch_38 ⟨Nat.zero_le _, Nat.zero_le _⟩) ?_
    refine lv_aload_n hx hb d_M_takesBranch_41 rfl (lv_at hl 0 rfl) ?_
    refine lv_iload_n hx hb d_M_takesBranch_42 rfl (lv_at hl 1 rfl) ?_
    refine qx_rd (va_runV (As := [.int w]) (rest := [.int (qf_M_valueA st w), .int (qf_Pa_condition w)]) ⟨hx, hb, hml, hown, hts⟩ (c_M_valueB l D cA ad st w) (qx_kV hts mw_227 mw_229 mw_3 mw_30 mw_230 cd_M_valueB ⟨Nat.le_of_ble_eq_true rfl, Nat.le_of_ble_eq_true rfl⟩) (qx_preV (q0 := 0) (ci := 1) (q := (R_M, T_M, 7)) hP hD hK hN [0, 1, 2, 3, 4, 5] rfl rfl rfl rfl) rfl rfl hl.1 rfl (lv_room (Nat.le_of_ble_eq_true rfl)) d_M_takesBranch_43 ⟨Nat.zero_le _, Nat.zero_le _⟩) ?_
    refine qx_rd (va_runS (As := [.int (qf_Pa_condition w), .int (qf_M_valueA st w), .int (qf_M_valueB st w)]) (rest := []) ⟨hx, hb, hml, hown, hts⟩ (c_Co_holds l D cA (qf_Pa_condition w) (qf_M_valueA st w) (qf_M_valueB st w)) (qx_kS hts mw_261 mw_262 mw_35 mw_263 cd_Co_holds ⟨Nat.le_of_ble_eq_true rfl, Nat.le_of_ble_eq_true rfl⟩) (qx_preS hP hD hK hN [] rfl rfl) rfl rfl hl.1 rfl (lv_room (Nat.le_of_ble_eq_true rfl)) d_M_takesBranch_46 ⟨Nat.zero_le _, Nat.zero_le _⟩) ?_
    exact W.zret (ty := .boolean) hx hb hr (qb_nar (qf_Co_holds_qb _ _ _)) (fun t ht hW => ⟨congrArg (fun z => Outcome.returned (some (Value.int z))) (show qf_Co_holds (qf_Pa_condition w) (qf_M_valueA st w) (qf_M_valueB st w) = qf_M_takesBranch st w x from (by unfold qf_M_takesBranch; rw [if_pos h1])), ht⟩) (fun _ h => absurd h List.not_mem_nil) d_M_takesBranch_49
  by_cases h2 : qf_Pa_kind w = 15
  · refine lv_lookup (off := 46) (tgt := 50) hx hb d_M_takesBranch_4 (by decide) (by rw [h2]; try rfl) (by decide) ?_
    refine lv_iload_n hx hb d_M_takesBranch_50 rfl (lv_at hl 1 rfl) ?_
    refine qx_rd (va_runS (As := [.int w]) (rest := []) ⟨hx, hb, hml, hown, hts⟩ (c_Pa_condition l D cA w) (qx_kS hts mw_258 mw_259 mw_34 mw_260 cd_Pa_condition ⟨Nat.le_of_ble_eq_true rfl, Nat.le_of_ble_eq_true rfl⟩) (qx_preS hP hD hK hN [] rfl rfl) rfl rfl hl.1 rfl (lv_room (Nat.le_of_ble_eq_true rfl)) d_M_takesBranch_51 ⟨Nat.zero_le _, Nat.zero_le _⟩) ?_
    refine lv_iload_n hx hb d_M_takesBranch_54 rfl (lv_at hl 2 rfl) ?_
    refine lv_iconst (v := 0) hx hb d_M_takesBranch_55 (by decide) ?_
    refine qx_rd (va_runS (As := [.int (qf_Pa_condition w), .int x, .int 0]) (rest := []) ⟨hx, hb, hml, hown, hts⟩ (c_Co_holds l D cA (qf_Pa_condition w) x 0) (qx_kS hts mw_261 mw_262 mw_35 mw_263 cd_Co_holds ⟨Nat.le_of_ble_eq_true rfl, Nat.le_of_ble_eq_true rfl⟩) (qx_preS hP hD hK hN [] rfl rfl) rfl rfl hl.1 rfl (lv_room (Nat.le_of_ble_eq_true rfl)) d_M_takesBranch_56 ⟨Nat.zero_le _, Nat.zero_le _⟩) ?_
    exact W.zret (ty := .boolean) hx hb hr (qb_nar (qf_Co_holds_qb _ _ _)) (fun t ht hW => ⟨congrArg (fun z => Outcome.returned (some (Value.int z))) (show qf_Co_holds (qf_Pa_condition w) x (0 : Int32) = qf_M_takesBranch st w x from (by unfold qf_M_takesBranch; rw [if_neg h1, if_pos h2])), ht⟩) (fun _ h => absurd h List.not_mem_nil) d_M_takesBranch_59
  refine lv_lookup (off := 56) (tgt := 60) hx hb d_M_takesBranch_4 (by decide) ((lv_osw h1 (by decide)).trans ((lv_osw h2 (by decide)).trans (rfl))) (by decide) ?_
  refine lv_iconst (v := 1) hx hb d_M_takesBranch_60 (by decide) ?_
  exact W.zret (ty := .boolean) hx hb hr rfl (fun t ht hW => ⟨congrArg (fun z => Outcome.returned (some (Value.int z))) (show 1 = qf_M_takesBranch st w x from (by unfold qf_M_takesBranch; rw [if_neg h1, if_neg h2])), ht⟩) (fun _ h => absurd h List.not_mem_nil) d_M_takesBranch_61
theorem qf_M_takesBranch_qb (st : qs_M) (w x : Int32) : qb (qf_M_takesBranch st w x) := by
  unfold qf_M_takesBranch
  repeat' (first | exact qb_1 | exact qf_Co_holds_qb _ _ _ | apply qb_ite)
def qf_M_causeOf (st : qs_M) (w : Int32) : Int32 :=
  if qf_Pa_kind w = 1 then (if qf_M_isInt ((qf_M_valueA st w).toInt64 + (qf_M_valueB st w).toInt64) = 0 then 2
    else 0)
  else if qf_Pa_kind w = 3 then (if qf_M_isInt ((qf_M_valueA st w).toInt64 - (qf_M_valueB st w).toInt64) = 0 then 2
    else 0)
  else if qf_Pa_kind w = 11 then (if qf_Q_isDataOffset (qf_M_valueA st w + qf_Pa_m w) = 0 then 3
    else 0)
  else if qf_Pa_kind w = 12 then (if qf_Q_isDataOffset (qf_M_valueA st w + qf_Pa_m w) = 0 then 3
    else 0)
  else if qf_Pa_kind w = 24 then 4
  else if qf_Pa_kind w ≤ 24 then 0
  else 5
set_option maxHeartbeats 4000000 in
set_option maxRecDepth 100000 in
theorem c_M_causeOf (l : Launch) (D : va_G) (cA : ClassId) (ad : Nat → Nat) (st : qs_M) (w : Int32) : Met l y_M_causeOf (Cond.code y_M_causeOf b_M_causeOf 3 (some .int) :: qx_T) ({ frames := 2, cells := 0, slots := 0, locals := 41 }) (qx_Pc D vwCl [(cA, .int)] (qw_M ad cA st) [.ref (ad 0), .int w]) (k2_QcV (.int (qf_M_causeOf st w))) 0 0 (fun _ => False) := by
  refine Met.ofW (cc := b_M_causeOf) (maxL := 3) (ret := (some .int)) (by decide) rfl ?_
  intro p e s m args below meth c s₁ B hml hv
  obtain ⟨rfl, hP, hK, hN, hD0⟩ := hv
  have hx := B.exec
  have hb := B.bytes
  have hr := B.returns
  have hts0 := atoms_spec (ws := Cond.code y_M_causeOf b_M_causeOf 3 (some .int) :: qx_T) B.pre
  have hts := fun w h => hts0 w (List.mem_cons_of_mem _ h)
  have hown : s.vm.findClass R_M = some m.cls := findClass_of_methodNamed B.named
  have hlocks := B.notSynchronized
  have hD : va_D (qx_ad (qw_M ad cA st)) (qw_M ad cA st) := ⟨hD0.1, fun k q hk => ⟨k, q.2, hk⟩⟩
  generalize hAe : qx_ad (qw_M ad cA st) = A at hD
  have hS : va_S A s.heap s.heap [] := va_S.rf
  have hl := lv_entry ([.ref (ad 0), .int w]) (n := 3) (Nat.le_of_ble_eq_true rfl)
  rw [lg_entry_eq]
  generalize (lg_sl ([.ref (ad 0), .int w]) ++ List.replicate (3 - (lg_sl ([.ref (ad 0), .int w])).length) Slot.unset).toArray = ls at hl ⊢
  have hl : lv_has ls 3 [(0, .ref (ad 0)), (1, .int w)] := hl
  refine lv_iload_n hx hb d_M_causeOf_0 rfl (lv_at hl 1 rfl) ?_
  refine qx_rd (va_runS (As := [.int w]) (rest := []) ⟨hx, hb, hml, hown, hts⟩ (c_Pa_kind l D cA w) (qx_kS hts mw_217 mw_218 mw_34 mw_219 cd_Pa_kind ⟨Nat.le_of_ble_eq_true rfl, Nat.le_of_ble_eq_true rfl⟩) (qx_preS hP hD hK hN [] rfl rfl) rfl rfl hl.1 rfl (lv_room (Nat.le_of_ble_eq_true rfl)) d_M_causeOf_1 ⟨Nat.zero_le _, Nat.zero_le _⟩) ?_
  refine lv_istore_n (lv' := [(2, .int (qf_Pa_kind w)), (0, .ref (ad 0)), (1, .int w)]) hx hb d_M_causeOf_4 rfl hl (by decide) rfl (fun ls hl => ?_)
  refine lv_iload_n hx hb d_M_causeOf_5 rfl (lv_at hl 0 rfl) ?_
  by_cases h1 : qf_Pa_kind w = 1
  · refine lv_lookup (off := 50) (tgt := 56) hx hb d_M_causeOf_6 (by decide) (by rw [h1]; try rfl) (by decide) ?_
    refine lv_aload_n hx hb d_M_causeOf_56 rfl (lv_at hl 1 rfl) ?_
    refine lv_iload_n hx hb d_M_causeOf_57 rfl (lv_at hl 2 rfl) ?_
    refine qx_rd (va_runV (As := [.int w]) (rest := []) ⟨hx, hb, hml, hown, hts⟩ (c_M_valueA l D cA ad st w) (qx_kV hts mw_220 mw_222 mw_2 mw_30 mw_223 cd_M_valueA ⟨Nat.le_of_ble_eq_true rfl, Nat.le_of_ble_eq_true rfl⟩) (qx_preV (q0 := 0) (ci := 1) (q := (R_M, T_M, 7)) hP hD hK hN [0, 1, 2, 3, 4, 5] rfl rfl rfl rfl) rfl rfl hl.1 rfl (lv_room (Nat.le_of_ble_eq_true rfl)) d_M_causeOf_58 ⟨Nat.zero_le _, Nat.zero_le _⟩) ?_
    refine lv_i2l (v := (qf_M_valueA st w).toInt64) hx hb d_M_causeOf_61 rfl ?_
    refine lv_aload_n hx hb d_M_causeOf_62 rfl (lv_at hl 1 rfl) ?_
    refine lv_iload_n hx hb d_M_causeOf_63 rfl (lv_at hl 2 rfl) ?_
    refine qx_rd (va_runV (As := [.int w]) (rest := [.long ((qf_M_valueA st w).toInt64)]) ⟨hx, hb, hml, hown, hts⟩ (c_M_valueB l D cA ad st w) (qx_kV hts mw_227 mw_229 mw_3 mw_30 mw_230 cd_M_valueB ⟨Nat.le_of_ble_eq_true rfl, Nat.le_of_ble_eq_true rfl⟩) (qx_preV (q0 := 0) (ci := 1) (q := (R_M, T_M, 7)) hP hD hK hN [0, 1, 2, 3, 4, 5] rfl rfl rfl rfl) rfl rfl hl.1 rfl (lv_room (Nat.le_of_ble_eq_true rfl)) d_M_causeOf_64 ⟨Nat.zero_le _, Nat.zero_le _⟩) ?_
    refine lv_i2l (v := (qf_M_valueB st w).toInt64) hx hb d_M_causeOf_67 rfl ?_
    refine lv_ladd hx hb d_M_causeOf_68 ?_
    refine qx_rd (va_runS (As := [.long ((qf_M_valueA st w).toInt64 + (qf_M_valueB st w).toInt64)]) (rest := []) ⟨hx, hb, hml, hown, hts⟩ (c_M_isInt l D cA ((qf_M_valueA st w).toInt64 + (qf_M_valueB st w).toInt64)) (qx_kS hts mw_234 mw_235 mw_30 mw_236 cd_M_isInt ⟨Nat.le_of_ble_eq_true rfl, Nat.le_of_ble_eq_true rfl⟩) (qx_preS hP hD hK hN [] rfl rfl) rfl rfl hl.1 rfl (lv_room (Nat.le_of_ble_eq_true rfl)) d_M_causeOf_69 ⟨Nat.zero_le _, Nat.zero_le _⟩) ?_
    refine lv_if_eq (tgt := 79) hx hb d_M_causeOf_72 (by decide) (fun h2 => ?_) (fun h2 => ?_)
    · skip
      refine lv_iconst (v := 2) hx hb d_M_causeOf_79 (by decide) ?_
      exact W.iret hx hb hr (fun t ht hW => ⟨congrArg (fun z => Outcome.returned (some (Value.int z))) (show 2 = qf_M_causeOf st w from (by unfold qf_M_causeOf; rw [if_pos h1, if_pos h2])), ht⟩) (fun _ h => absurd h List.not_mem_nil) d_M_causeOf_80
    · skip
      refine lv_iconst (v := 0) hx hb d_M_causeOf_75 (by decide) ?_
      refine lv_goto (tgt := 80) hx hb d_M_causeOf_76 (by decide) ?_
      exact W.iret hx hb hr (fun t ht hW => ⟨congrArg (fun z => Outcome.returned (some (Value.int z))) (show 0 = qf_M_causeOf st w from (by unfold qf_M_causeOf; rw [if_pos h1, if_neg h2])), ht⟩) (fun _ h => absurd h List.not_mem_nil) d_M_causeOf_80
  by_cases h3 : qf_Pa_kind w = 3
  · refine lv_lookup (off := 75) (tgt := 81) hx hb d_M_causeOf_6 (by decide) (by rw [h3]; try rfl) (by decide) ?_
    refine lv_aload_n hx hb d_M_causeOf_81 rfl (lv_at hl 1 rfl) ?_
    refine lv_iload_n hx hb d_M_causeOf_82 rfl (lv_at hl 2 rfl) ?_
    refine qx_rd (va_runV (As := [.int w]) (rest := []) ⟨hx, hb, hml, hown, hts⟩ (c_M_valueA l D cA ad st w) (qx_kV hts mw_220 mw_222 mw_2 mw_30 mw_223 cd_M_valueA ⟨Nat.le_of_ble_eq_true rfl, Nat.le_of_ble_eq_true rfl⟩) (qx_preV (q0 := 0) (ci := 1) (q := (R_M, T_M, 7)) hP hD hK hN [0, 1, 2, 3, 4, 5] rfl rfl rfl rfl) rfl rfl hl.1 rfl (lv_room (Nat.le_of_ble_eq_true rfl)) d_M_causeOf_83 ⟨Nat.zero_le _, Nat.zero_le _⟩) ?_
    refine lv_i2l (v := (qf_M_valueA st w).toInt64) hx hb d_M_causeOf_86 rfl ?_
    refine lv_aload_n hx hb d_M_causeOf_87 rfl (lv_at hl 1 rfl) ?_
    refine lv_iload_n hx hb d_M_causeOf_88 rfl (lv_at hl 2 rfl) ?_
    refine qx_rd (va_runV (As := [.int w]) (rest := [.long ((qf_M_valueA st w).toInt64)]) ⟨hx, hb, hml, hown, hts⟩ (c_M_valueB l D cA ad st w) (qx_kV hts mw_227 mw_229 mw_3 mw_30 mw_230 cd_M_valueB ⟨Nat.le_of_ble_eq_true rfl, Nat.le_of_ble_eq_true rfl⟩) (qx_preV (q0 := 0) (ci := 1) (q := (R_M, T_M, 7)) hP hD hK hN [0, 1, 2, 3, 4, 5] rfl rfl rfl rfl) rfl rfl hl.1 rfl (lv_room (Nat.le_of_ble_eq_true rfl)) d_M_causeOf_89 ⟨Nat.zero_le _, Nat.zero_le _⟩) ?_
    refine lv_i2l (v := (qf_M_valueB st w).toInt64) hx hb d_M_causeOf_92 rfl ?_
    refine lv_lsub hx hb d_M_causeOf_93 ?_
    refine qx_rd (va_runS (As := [.long ((qf_M_valueA st w).toInt64 - (qf_M_valueB st w).toInt64)]) (rest := []) ⟨hx, hb, hml, hown, hts⟩ (c_M_isInt l D cA ((qf_M_valueA st w).toInt64 - (qf_M_valueB st w).toInt64)) (qx_kS hts mw_234 mw_235 mw_30 mw_236 cd_M_isInt ⟨Nat.le_of_ble_eq_true rfl, Nat.le_of_ble_eq_true rfl⟩) (qx_preS hP hD hK hN [] rfl rfl) rfl rfl hl.1 rfl (lv_room (Nat.le_of_ble_eq_true rfl)) d_M_causeOf_94 ⟨Nat.zero_le _, Nat.zero_le _⟩) ?_
    refine lv_if_eq (tgt := 104) hx hb d_M_causeOf_97 (by decide) (fun h4 => ?_) (fun h4 => ?_)
    · skip
      refine lv_iconst (v := 2) hx hb d_M_causeOf_104 (by decide) ?_
      exact W.iret hx hb hr (fun t ht hW => ⟨congrArg (fun z => Outcome.returned (some (Value.int z))) (show 2 = qf_M_causeOf st w from (by unfold qf_M_causeOf; rw [if_neg h1, if_pos h3, if_pos h4])), ht⟩) (fun _ h => absurd h List.not_mem_nil) d_M_causeOf_105
    · skip
      refine lv_iconst (v := 0) hx hb d_M_causeOf_100 (by decide) ?_
      refine lv_goto (tgt := 105) hx hb d_M_causeOf_101 (by decide) ?_
      exact W.iret hx hb hr (fun t ht hW => ⟨congrArg (fun z => Outcome.returned (some (Value.int z))) (show 0 = qf_M_causeOf st w from (by unfold qf_M_causeOf; rw [if_neg h1, if_pos h3, if_neg h4])), ht⟩) (fun _ h => absurd h List.not_mem_nil) d_M_causeOf_105
  by_cases h5 : qf_Pa_kind w = 11
  · refine lv_lookup (off := 100) (tgt := 106) hx hb d_M_causeOf_6 (by decide) (by rw [h5]; try rfl) (by decide) ?_
    refine lv_aload_n hx hb d_M_causeOf_106 rfl (lv_at hl 1 rfl) ?_
    refine lv_iload_n hx hb d_M_causeOf_107 rfl (lv_at hl 2 rfl) ?_
    refine qx_rd (va_runV (As := [.int w]) (rest := []) ⟨hx, hb, hml, hown, hts⟩ (c_M_valueA l D cA ad st w) (qx_kV hts mw_220 mw_222 mw_2 mw_30 mw_223 cd_M_valueA ⟨Nat.le_of_ble_eq_true rfl, Nat.le_of_ble_eq_true rfl⟩) (qx_preV (q0 := 0) (ci := 1) (q := (R_M, T_M, 7)) hP hD hK hN [0, 1, 2, 3, 4, 5] rfl rfl rfl rfl) rfl rfl hl.1 rfl (lv_room (Nat.le_of_ble_eq_true rfl)) d_M_causeOf_108 ⟨Nat.zero_le _, Nat.zero_le _⟩) ?_
    refine lv_iload_n hx hb d_M_causeOf_111 rfl (lv_at hl 2 rfl) ?_
    refine qx_rd (va_runS (As := [.int w]) (rest := [.int (qf_M_valueA st w)]) ⟨hx, hb, hml, hown, hts⟩ (c_Pa_m l D cA w) (qx_kS hts mw_237 mw_238 mw_34 mw_239 cd_Pa_m ⟨Nat.le_of_ble_eq_true rfl, Nat.le_of_ble_eq_true rfl⟩) (qx_preS hP hD hK hN [] rfl rfl) rfl rfl hl.1 rfl (lv_room (Nat.le_of_ble_eq_true rfl)) d_M_causeOf_112 ⟨Nat.zero_le _, Nat.zero_le _⟩) ?_
    refine lv_iadd hx hb d_M_causeOf_115 ?_
    refine qx_rd (va_runSN (As := [.int (qf_M_valueA st w + qf_Pa_m w)]) (rest := []) ⟨hx, hb, hml, hown, hts⟩ (c_Q_isDataOffset l D cA (qf_M_valueA st w + qf_Pa_m w)) (qx_kSN hts hN.2.1 mw_156 mw_29 mw_157 cd_Q_isDataOffset ⟨Nat.le_of_ble_eq_true rfl, Nat.le_of_ble_eq_true rfl⟩) (qx_preS hP hD hK hN [] rfl rfl) rfl rfl hl.1 rfl (lv_room (Nat.le_of_ble_eq_true rfl)) d_M_causeOf_116 ⟨Nat.zero_le _, Nat.zero_le _⟩) ?_
    refine lv_if_eq (tgt := 126) hx hb d_M_causeOf_119 (by decide) (fun h6 => ?_) (fun h6 => ?_)
    · skip
      refine lv_iconst (v := 3) hx hb d_M_causeOf_126 (by decide) ?_
      exact W.iret hx hb hr (fun t ht hW => ⟨congrArg (fun z => Outcome.returned (some (Value.int z))) (show 3 = qf_M_causeOf st w from (by unfold qf_M_causeOf; rw [if_neg h1, if_neg h3, if_pos h5, if_pos h6])), ht⟩) (fun _ h => absurd h List.not_mem_nil) d_M_causeOf_127
    · skip
      refine lv_iconst (v := 0) hx hb d_M_causeOf_122 (by decide) ?_
      refine lv_goto (tgt := 127) hx hb d_M_causeOf_123 (by decide) ?_
      exact W.iret hx hb hr (fun t ht hW => ⟨congrArg (fun z => Outcome.returned (some (Value.int z))) (show 0 = qf_M_causeOf st w from (by unfold qf_M_causeOf; rw [if_neg h1, if_neg h3, if_pos h5, if_neg h6])), ht⟩) (fun _ h => absurd h List.not_mem_nil) d_M_causeOf_127
  by_cases h7 : qf_Pa_kind w = 12
  · refine lv_lookup (off := 100) (tgt := 106) hx hb d_M_causeOf_6 (by decide) (by rw [h7]; try rfl) (by decide) ?_
    refine lv_aload_n hx hb d_M_causeOf_106 rfl (lv_at hl 1 rfl) ?_
    refine lv_iload_n hx hb d_M_causeOf_107 rfl (lv_at hl 2 rfl) ?_
    refine qx_rd (va_runV (As := [.int w]) (rest := []) ⟨hx, hb, hml, hown, hts⟩ (c_M_valueA l D cA ad st w) (qx_kV hts mw_220 mw_222 mw_2 mw_30 mw_223 cd_M_valueA ⟨Nat.le_of_ble_eq_true rfl, Nat.le_of_ble_eq_true rfl⟩) (qx_preV (q0 := 0) (ci := 1) (q := (R_M, T_M, 7)) hP hD hK hN [0, 1, 2, 3, 4, 5] rfl rfl rfl rfl) rfl rfl hl.1 rfl (lv_room (Nat.le_of_ble_eq_true rfl)) d_M_causeOf_108 ⟨Nat.zero_le _, Nat.zero_le _⟩) ?_
    refine lv_iload_n hx hb d_M_causeOf_111 rfl (lv_at hl 2 rfl) ?_
    refine qx_rd (va_runS (As := [.int w]) (rest := [.int (qf_M_valueA st w)]) ⟨hx, hb, hml, hown, hts⟩ (c_Pa_m l D cA w) (qx_kS hts mw_237 mw_238 mw_34 mw_239 cd_Pa_m ⟨Nat.le_of_ble_eq_true rfl, Nat.le_of_ble_eq_true rfl⟩) (qx_preS hP hD hK hN [] rfl rfl) rfl rfl hl.1 rfl (lv_room (Nat.le_of_ble_eq_true rfl)) d_M_causeOf_112 ⟨Nat.zero_le _, Nat.zero_le _⟩) ?_
    refine lv_iadd hx hb d_M_causeOf_115 ?_
    refine qx_rd (va_runSN (As := [.int (qf_M_valueA st w + qf_Pa_m w)]) (rest := []) ⟨hx, hb, hml, hown, hts⟩ (c_Q_isDataOffset l D cA (qf_M_valueA st w + qf_Pa_m w)) (qx_kSN hts hN.2.1 mw_156 mw_29 mw_157 cd_Q_isDataOffset ⟨Nat.le_of_ble_eq_true rfl, Nat.le_of_ble_eq_true rfl⟩) (qx_preS hP hD hK hN [] rfl rfl) rfl rfl hl.1 rfl (lv_room (Nat.le_of_ble_eq_true rfl)) d_M_causeOf_116 ⟨Nat.zero_le _, Nat.zero_le _⟩) ?_
    refine lv_if_eq (tgt := 126) hx hb d_M_causeOf_119 (by decide) (fun h8 => ?_) (fun h8 => ?_)
    · skip
      refine lv_iconst (v := 3) hx hb d_M_causeOf_126 (by decide) ?_
      exact W.iret hx hb hr (fun t ht hW => ⟨congrArg (fun z => Outcome.returned (some (Value.int z))) (show 3 = qf_M_causeOf st w from (by unfold qf_M_causeOf; rw [if_neg h1, if_neg h3, if_neg h5, if_pos h7, if_pos h8])), ht⟩) (fun _ h => absurd h List.not_mem_nil) d_M_causeOf_127
    · skip
      refine lv_iconst (v := 0) hx hb d_M_causeOf_122 (by decide) ?_
      refine lv_goto (tgt := 127) hx hb d_M_causeOf_123 (by decide) ?_
      exact W.iret hx hb hr (fun t ht hW => ⟨congrArg (fun z => Outcome.returned (some (Value.int z))) (show 0 = qf_M_causeOf st w from (by unfold qf_M_causeOf; rw [if_neg h1, if_neg h3, if_neg h5, if_pos h7, if_neg h8])), ht⟩) (fun _ h => absurd h List.not_mem_nil) d_M_causeOf_127
  by_cases h9 : qf_Pa_kind w = 24
  · refine lv_lookup (off := 122) (tgt := 128) hx hb d_M_causeOf_6 (by decide) (by rw [h9]; try rfl) (by decide) ?_
    refine lv_iconst (v := 4) hx hb d_M_causeOf_128 (by decide) ?_
    exact W.iret hx hb hr (fun t ht hW => ⟨congrArg (fun z => Outcome.returned (some (Value.int z))) (show 4 = qf_M_causeOf st w from (by unfold qf_M_causeOf; rw [if_neg h1, if_neg h3, if_neg h5, if_neg h7, if_pos h9])), ht⟩) (fun _ h => absurd h List.not_mem_nil) d_M_causeOf_129
  refine lv_lookup (off := 124) (tgt := 130) hx hb d_M_causeOf_6 (by decide) ((lv_osw h1 (by decide)).trans ((lv_osw h3 (by decide)).trans ((lv_osw h5 (by decide)).trans ((lv_osw h7 (by decide)).trans ((lv_osw h9 (by decide)).trans (rfl)))))) (by decide) ?_
  refine lv_iload_n hx hb d_M_causeOf_130 rfl (lv_at hl 0 rfl) ?_
  refine lv_bipush (v := 24) hx hb d_M_causeOf_131 (by decide) ?_
  refine lv_icmp_le (tgt := 140) hx hb d_M_causeOf_133 (by decide) (fun h10 => ?_) (fun h10 => ?_)
  · skip
    refine lv_iconst (v := 0) hx hb d_M_causeOf_140 (by decide) ?_
    exact W.iret hx hb hr (fun t ht hW => ⟨congrArg (fun z => Outcome.returned (some (Value.int z))) (show 0 = qf_M_causeOf st w from (by unfold qf_M_causeOf; rw [if_neg h1, if_neg h3, if_neg h5, if_neg h7, if_neg h9, if_pos h10])), ht⟩) (fun _ h => absurd h List.not_mem_nil) d_M_causeOf_141
  · skip
    refine lv_iconst (v := 5) hx hb d_M_causeOf_136 (by decide) ?_
    refine lv_goto (tgt := 141) hx hb d_M_causeOf_137 (by decide) ?_
    exact W.iret hx hb hr (fun t ht hW => ⟨congrArg (fun z => Outcome.returned (some (Value.int z))) (show 5 = qf_M_causeOf st w from (by unfold qf_M_causeOf; rw [if_neg h1, if_neg h3, if_neg h5, if_neg h7, if_neg h9, if_neg h10])), ht⟩) (fun _ h => absurd h List.not_mem_nil) d_M_causeOf_141
theorem qi_cause (st : qs_M) (w : Int32) : vp_in (qf_M_causeOf st w) 7 := by
  unfold qf_M_causeOf
  repeat' (first | exact qi_lit (by decide) | apply qi_if)
end
section
def qf_M_enterTrap (st : qs_M) (x : Int32) : qs_M :=
  (qm_M_cs (qm_M_sv (qm_M_fl st (qf_F_startAt st.2.2.2.1 (qf_Pl_of (0 : Int32) (4 * x)) (0 : Int32))) (qf_F_become st.2.2.2.2.1 st.2.2.2.1)) x)
set_option maxHeartbeats 4000000 in
set_option maxRecDepth 100000 in
theorem c_M_enterTrap (l : Launch) (D : va_G) (cA : ClassId) (ad : Nat → Nat) (st : qs_M) (x : Int32) : Met l y_M_enterTrap (Cond.code y_M_enterTrap b_M_enterTrap 2 none :: qx_T) ({ frames := 3, cells := 0, slots := 0, locals := 63 }) (qx_Pc D vwCl [(cA, .int)] (qw_M ad cA st) [.ref (ad 0), .int x]) (qx_Q D vwCl (qw_M ad cA (qf_M_enterTrap st x)) (qx_ad (qw_M ad cA st)) none) 0 0 (qx_ad (qw_M ad cA st)) := by
  refine Met.ofW (cc := b_M_enterTrap) (maxL := 2) (ret := none) (by decide) rfl ?_
  intro p e s m args below meth c s₁ B hml hv
  obtain ⟨rfl, hP, hK, hN, hD0⟩ := hv
  have hx := B.exec
  have hb := B.bytes
  have hr := B.returns
  have hts0 := atoms_spec (ws := Cond.code y_M_enterTrap b_M_enterTrap 2 none :: qx_T) B.pre
  have hts := fun w h => hts0 w (List.mem_cons_of_mem _ h)
  have hown : s.vm.findClass R_M = some m.cls := findClass_of_methodNamed B.named
  have hlocks := B.notSynchronized
  have hD : va_D (qx_ad (qw_M ad cA st)) (qw_M ad cA st) := ⟨hD0.1, fun k q hk => ⟨k, q.2, hk⟩⟩
  generalize hAe : qx_ad (qw_M ad cA st) = A at hD ⊢
  have hS : va_S A s.heap s.heap [] := va_S.rf
  have hl := lv_entry ([.ref (ad 0), .int x]) (n := 2) (Nat.le_of_ble_eq_true rfl)
  rw [lg_entry_eq]
  generalize (lg_sl ([.ref (ad 0), .int x]) ++ List.replicate (2 - (lg_sl ([.ref (ad 0), .int x])).length) Slot.unset).toArray = ls at hl ⊢
  have hl : lv_has ls 2 [(0, .ref (ad 0)), (1, .int x)] := hl
  refine lv_aload_n hx hb d_M_enterTrap_0 rfl (lv_at hl 0 rfl) ?_
  refine va_get (D := D) (ci := 1) (v := .ref (ad 5)) (C := R_M) (T := T_M) (N := 7) hx hb hts in_M hown hK hP 0 rfl rfl 4 (by decide) (hts (Cond.fieldLink R_M 28 "QueuedFronts$Machine" "saved" "LQueuedFronts$Flow;") mw_103) (fun _ h9 => h9) rfl d_M_enterTrap_1 ?_
  refine lv_aload_n hx hb d_M_enterTrap_4 rfl (lv_at hl 0 rfl) ?_
  refine va_get (D := D) (ci := 1) (v := .ref (ad 4)) (C := R_M) (T := T_M) (N := 7) hx hb hts in_M hown hK hP 0 rfl rfl 3 (by decide) (hts (Cond.fieldLink R_M 24 "QueuedFronts$Machine" "flow" "LQueuedFronts$Flow;") mw_101) (fun _ h9 => h9) rfl d_M_enterTrap_5 ?_
  refine qx_muZ (T := qf_F_become st.2.2.2.2.1 st.2.2.2.1) (Wf := fun zz : qs_F => qw_M ad cA (qm_M_sv st zz)) (vf := fun _ => none) (va_runV (As := [.ref (ad 4)]) (rest := []) ⟨hx, hb, hml, hown, hts⟩ (c_F_become l D cA (ad 5) (ad 4) st.2.2.2.2.1 st.2.2.2.1) (qx_kV hts mw_200 mw_201 mw_202 mw_31 mw_203 cd_F_become ⟨Nat.le_of_ble_eq_true rfl, Nat.le_of_ble_eq_true rfl⟩) (qx_preV (q0 := 5) (ci := 2) (q := (R_F, T_F, 4)) hP hD hK hN [5, 4] rfl rfl rfl rfl) rfl rfl hl.1 rfl (lv_room (Nat.le_of_ble_eq_true rfl)) d_M_enterTrap_8 ⟨Nat.zero_le _, Nat.zero_le _⟩) hP hD hS [5, 4] rfl rfl [ad 0, ad 1, ad 2, ad 3, ad 4, ad 5] rfl rfl (fun zz1 hzz1 H locs hP hD hS => ?_)
  have hP : va_P D vwCl (qw_M ad cA (qm_M_sv st zz1)) H := hP
  have hD : va_D A (qw_M ad cA (qm_M_sv st zz1)) := hD
  refine W.eq (g2 := F0 m 11 ls []) rfl ?_
  refine lv_aload_n hx hb d_M_enterTrap_11 rfl (lv_at hl 0 rfl) ?_
  refine lv_iload_n hx hb d_M_enterTrap_12 rfl (lv_at hl 1 rfl) ?_
  refine va_put (D := D) (ci := 1) (v := .int x) (ty := .int) (C := R_M) (T := T_M) (N := 7) hx hb hts in_M ty_M tyok_M nm_M hown hK hP hD hS 0 rfl rfl 5 (by decide) (hts (Cond.fieldLink R_M 31 "QueuedFronts$Machine" "savedCause" "I") mw_105) (fun _ h9 => h9) rfl (by decide +kernel) rfl rfl (Nat.le_of_ble_eq_true rfl) d_M_enterTrap_13 (fun H locs hP hD hS => ?_)
  have hP : va_P D vwCl (qw_M ad cA (qm_M_cs (qm_M_sv st zz1) x)) H := hP
  have hD : va_D A (qw_M ad cA (qm_M_cs (qm_M_sv st zz1) x)) := hD
  refine lv_aload_n hx hb d_M_enterTrap_16 rfl (lv_at hl 0 rfl) ?_
  refine va_get (D := D) (ci := 1) (v := .ref (ad 4)) (C := R_M) (T := T_M) (N := 7) hx hb hts in_M hown hK hP 0 rfl rfl 3 (by decide) (hts (Cond.fieldLink R_M 24 "QueuedFronts$Machine" "flow" "LQueuedFronts$Flow;") mw_101) (fun _ h9 => h9) rfl d_M_enterTrap_17 ?_
  refine lv_iconst (v := 0) hx hb d_M_enterTrap_20 (by decide) ?_
  refine lv_iconst (v := 4) hx hb d_M_enterTrap_21 (by decide) ?_
  refine lv_iload_n hx hb d_M_enterTrap_22 rfl (lv_at hl 1 rfl) ?_
  refine lv_imul hx hb d_M_enterTrap_23 ?_
  refine qx_rd (va_runS (As := [.int 0, .int (4 * x)]) (rest := [.ref (ad 4)]) ⟨hx, hb, hml, hown, hts⟩ (c_Pl_of l D cA 0 (4 * x)) (qx_kS hts mw_204 mw_93 mw_32 mw_94 cd_Pl_of ⟨Nat.le_of_ble_eq_true rfl, Nat.le_of_ble_eq_true rfl⟩) (qx_preS hP hD hK hN [] rfl rfl) rfl rfl hl.1 rfl (lv_room (Nat.le_of_ble_eq_true rfl)) d_M_enterTrap_24 ⟨Nat.zero_le _, Nat.zero_le _⟩) ?_
  refine lv_iconst (v := 0) hx hb d_M_enterTrap_27 (by decide) ?_
  refine qx_muZ (T := qf_F_startAt st.2.2.2.1 (qf_Pl_of (0 : Int32) (4 * x)) (0 : Int32)) (Wf := fun zz : qs_F => qw_M ad cA (qm_M_cs (qm_M_sv (qm_M_fl st zz) zz1) x)) (vf := fun _ => none) (va_runV (As := [.int (qf_Pl_of (0 : Int32) (4 * x)), .int 0]) (rest := []) ⟨hx, hb, hml, hown, hts⟩ (c_F_startAt l D cA (ad 4) st.2.2.2.1 (qf_Pl_of (0 : Int32) (4 * x)) 0) (qx_kV hts mw_79 mw_80 mw_81 mw_31 mw_82 cd_F_startAt ⟨Nat.le_of_ble_eq_true rfl, Nat.le_of_ble_eq_true rfl⟩) (qx_preV (q0 := 4) (ci := 2) (q := (R_F, T_F, 4)) hP hD hK hN [4] rfl rfl rfl rfl) rfl rfl hl.1 rfl (lv_room (Nat.le_of_ble_eq_true rfl)) d_M_enterTrap_28 ⟨Nat.zero_le _, Nat.zero_le _⟩) hP hD hS [4] rfl rfl [ad 0, ad 1, ad 2, ad 3, ad 4, ad 5] rfl rfl (fun zz2 hzz2 H locs hP hD hS => ?_)
  have hP : va_P D vwCl (qw_M ad cA (qm_M_cs (qm_M_sv (qm_M_fl st zz2) zz1) x)) H := hP
  have hD : va_D A (qw_M ad cA (qm_M_cs (qm_M_sv (qm_M_fl st zz2) zz1) x)) := hD
  refine W.eq (g2 := F0 m 31 ls []) rfl ?_
  subst hzz2
  subst hzz1
  have e9 : (qm_M_cs (qm_M_sv (qm_M_fl st (qf_F_startAt st.2.2.2.1 (qf_Pl_of (0 : Int32) (4 * x)) (0 : Int32))) (qf_F_become st.2.2.2.2.1 st.2.2.2.1)) x) = qf_M_enterTrap st x := rfl
  exact W.vret hx hb hr (fun t ht hW => ⟨rfl, (by rw [ht, ← e9]; exact hP), hS.F ht⟩) hS.2.2 d_M_enterTrap_31
end
section
def qf_M_become (st st2 : qs_M) : qs_M :=
  (qm_M_pd (qm_M_cs (qm_M_sv (qm_M_fl (qm_M_dt (qm_M_sp (qm_M_rg st (va_cpy st2.1 st.1 0 0 8)) (va_cpy st2.2.1 st.2.1 0 0 4)) (va_cpy st2.2.2.1 st.2.2.1 0 0 64)) (qf_F_become st.2.2.2.1 st2.2.2.2.1)) (qf_F_become st.2.2.2.2.1 st2.2.2.2.2.1)) st2.2.2.2.2.2.1) st2.2.2.2.2.2.2)
set_option maxHeartbeats 4000000 in
set_option maxRecDepth 100000 in
theorem c_M_become (l : Launch) (D : va_G) (cA : ClassId) (ad ad2 : Nat → Nat) (st st2 : qs_M) : Met l y_M_become (Cond.code y_M_become b_M_become 2 none :: qx_T) ({ frames := 1, cells := 0, slots := 0, locals := 21 }) (qx_Pc D vwCl [(cA, .int)] (qw_M ad cA st ++ qw_M ad2 cA st2) [.ref (ad 0), .ref (ad2 0)]) (qx_Q D vwCl (qw_M ad cA (qf_M_become st st2) ++ qw_M ad2 cA st2) (qx_ad (qw_M ad cA st ++ qw_M ad2 cA st2)) none) 0 0 (qx_ad (qw_M ad cA st ++ qw_M ad2 cA st2)) := by
  refine Met.ofW (cc := b_M_become) (maxL := 2) (ret := none) (by decide) rfl ?_
  intro p e s m args below meth c s₁ B hml hv
  obtain ⟨rfl, hP, hK, hN, hD0⟩ := hv
  have hx := B.exec
  have hb := B.bytes
  have hr := B.returns
  have hts0 := atoms_spec (ws := Cond.code y_M_become b_M_become 2 none :: qx_T) B.pre
  have hts := fun w h => hts0 w (List.mem_cons_of_mem _ h)
  have hown : s.vm.findClass R_M = some m.cls := findClass_of_methodNamed B.named
  have hlocks := B.notSynchronized
  have hD : va_D (qx_ad (qw_M ad cA st ++ qw_M ad2 cA st2)) (qw_M ad cA st ++ qw_M ad2 cA st2) := ⟨hD0.1, fun k q hk => ⟨k, q.2, hk⟩⟩
  generalize hAe : qx_ad (qw_M ad cA st ++ qw_M ad2 cA st2) = A at hD ⊢
  have hS : va_S A s.heap s.heap [] := va_S.rf
  have hl := lv_entry ([.ref (ad 0), .ref (ad2 0)]) (n := 2) (Nat.le_of_ble_eq_true rfl)
  rw [lg_entry_eq]
  generalize (lg_sl ([.ref (ad 0), .ref (ad2 0)]) ++ List.replicate (2 - (lg_sl ([.ref (ad 0), .ref (ad2 0)])).length) Slot.unset).toArray = ls at hl ⊢
  have hl : lv_has ls 2 [(0, .ref (ad 0)), (1, .ref (ad2 0))] := hl
  refine lv_aload_n hx hb d_M_become_0 rfl (lv_at hl 1 rfl) ?_
  refine va_get (D := D) (ci := 1) (v := .ref (ad2 1)) (C := R_M) (T := T_M) (N := 7) hx hb hts in_M hown hK hP 6 rfl rfl 0 (by decide) (hts (Cond.fieldLink R_M 9 "QueuedFronts$Machine" "registers" "[I") mw_95) (fun _ h9 => h9) rfl d_M_become_1 ?_
  refine lv_iconst (v := 0) hx hb d_M_become_4 (by decide) ?_
  refine lv_aload_n hx hb d_M_become_5 rfl (lv_at hl 0 rfl) ?_
  refine va_get (D := D) (ci := 1) (v := .ref (ad 1)) (C := R_M) (T := T_M) (N := 7) hx hb hts in_M hown hK hP 0 rfl rfl 0 (by decide) (hts (Cond.fieldLink R_M 9 "QueuedFronts$Machine" "registers" "[I") mw_95) (fun _ h9 => h9) rfl d_M_become_6 ?_
  refine lv_iconst (v := 0) hx hb d_M_become_9 (by decide) ?_
  refine lv_bipush (v := 8) hx hb d_M_become_10 (by decide) ?_
  refine va_copyi hx hb (by rw [hml]; exact hl.1.symm) hown (hts (Cond.methodLink R_M 42 arraycopyName) mw_357) (hts (.native arraycopyName) mw_359) (hts (.static arraycopyName) mw_358) (hts (.initialized "java/lang/System") mw_36) hK hP hD hS 7 1 0 0 rfl rfl rfl rfl rfl (by decide) (by decide) (by decide) (by decide) (by decide) (fun _ _ => rfl) (Nat.le_of_ble_eq_true rfl) (Nat.le_of_ble_eq_true rfl) d_M_become_12 (fun H locs hP hD hS => ?_)
  have hP : va_P D vwCl (qw_M ad cA (qm_M_rg st (va_cpy st2.1 st.1 0 0 8)) ++ qw_M ad2 cA st2) H := hP
  have hD : va_D A (qw_M ad cA (qm_M_rg st (va_cpy st2.1 st.1 0 0 8)) ++ qw_M ad2 cA st2) := hD
  refine lv_aload_n hx hb d_M_become_15 rfl (lv_at hl 1 rfl) ?_
  refine va_get (D := D) (ci := 1) (v := .ref (ad2 2)) (C := R_M) (T := T_M) (N := 7) hx hb hts in_M hown hK hP 6 rfl rfl 1 (by decide) (hts (Cond.fieldLink R_M 15 "QueuedFronts$Machine" "spaceRegisters" "[I") mw_97) (fun _ h9 => h9) rfl d_M_become_16 ?_
  refine lv_iconst (v := 0) hx hb d_M_become_19 (by decide) ?_
  refine lv_aload_n hx hb d_M_become_20 rfl (lv_at hl 0 rfl) ?_
  refine va_get (D := D) (ci := 1) (v := .ref (ad 2)) (C := R_M) (T := T_M) (N := 7) hx hb hts in_M hown hK hP 0 rfl rfl 1 (by decide) (hts (Cond.fieldLink R_M 15 "QueuedFronts$Machine" "spaceRegisters" "[I") mw_97) (fun _ h9 => h9) rfl d_M_become_21 ?_
  refine lv_iconst (v := 0) hx hb d_M_become_24 (by decide) ?_
  refine lv_iconst (v := 4) hx hb d_M_become_25 (by decide) ?_
  refine va_copyi hx hb (by rw [hml]; exact hl.1.symm) hown (hts (Cond.methodLink R_M 42 arraycopyName) mw_357) (hts (.native arraycopyName) mw_359) (hts (.static arraycopyName) mw_358) (hts (.initialized "java/lang/System") mw_36) hK hP hD hS 8 2 0 0 rfl rfl rfl rfl rfl (by decide) (by decide) (by decide) (by decide) (by decide) (fun _ _ => rfl) (Nat.le_of_ble_eq_true rfl) (Nat.le_of_ble_eq_true rfl) d_M_become_26 (fun H locs hP hD hS => ?_)
  have hP : va_P D vwCl (qw_M ad cA (qm_M_sp (qm_M_rg st (va_cpy st2.1 st.1 0 0 8)) (va_cpy st2.2.1 st.2.1 0 0 4)) ++ qw_M ad2 cA st2) H := hP
  have hD : va_D A (qw_M ad cA (qm_M_sp (qm_M_rg st (va_cpy st2.1 st.1 0 0 8)) (va_cpy st2.2.1 st.2.1 0 0 4)) ++ qw_M ad2 cA st2) := hD
  refine lv_aload_n hx hb d_M_become_29 rfl (lv_at hl 1 rfl) ?_
  refine va_get (D := D) (ci := 1) (v := .ref (ad2 3)) (C := R_M) (T := T_M) (N := 7) hx hb hts in_M hown hK hP 6 rfl rfl 2 (by decide) (hts (Cond.fieldLink R_M 18 "QueuedFronts$Machine" "dataWords" "[I") mw_99) (fun _ h9 => h9) rfl d_M_become_30 ?_
  refine lv_iconst (v := 0) hx hb d_M_become_33 (by decide) ?_
  refine lv_aload_n hx hb d_M_become_34 rfl (lv_at hl 0 rfl) ?_
  refine va_get (D := D) (ci := 1) (v := .ref (ad 3)) (C := R_M) (T := T_M) (N := 7) hx hb hts in_M hown hK hP 0 rfl rfl 2 (by decide) (hts (Cond.fieldLink R_M 18 "QueuedFronts$Machine" "dataWords" "[I") mw_99) (fun _ h9 => h9) rfl d_M_become_35 ?_
  refine lv_iconst (v := 0) hx hb d_M_become_38 (by decide) ?_
  refine lv_bipush (v := 64) hx hb d_M_become_39 (by decide) ?_
  refine va_copyi hx hb (by rw [hml]; exact hl.1.symm) hown (hts (Cond.methodLink R_M 42 arraycopyName) mw_357) (hts (.native arraycopyName) mw_359) (hts (.static arraycopyName) mw_358) (hts (.initialized "java/lang/System") mw_36) hK hP hD hS 9 3 0 0 rfl rfl rfl rfl rfl (by decide) (by decide) (by decide) (by decide) (by decide) (fun _ _ => rfl) (Nat.le_of_ble_eq_true rfl) (Nat.le_of_ble_eq_true rfl) d_M_become_41 (fun H locs hP hD hS => ?_)
  have hP : va_P D vwCl (qw_M ad cA (qm_M_dt (qm_M_sp (qm_M_rg st (va_cpy st2.1 st.1 0 0 8)) (va_cpy st2.2.1 st.2.1 0 0 4)) (va_cpy st2.2.2.1 st.2.2.1 0 0 64)) ++ qw_M ad2 cA st2) H := hP
  have hD : va_D A (qw_M ad cA (qm_M_dt (qm_M_sp (qm_M_rg st (va_cpy st2.1 st.1 0 0 8)) (va_cpy st2.2.1 st.2.1 0 0 4)) (va_cpy st2.2.2.1 st.2.2.1 0 0 64)) ++ qw_M ad2 cA st2) := hD
  refine lv_aload_n hx hb d_M_become_44 rfl (lv_at hl 0 rfl) ?_
  refine va_get (D := D) (ci := 1) (v := .ref (ad 4)) (C := R_M) (T := T_M) (N := 7) hx hb hts in_M hown hK hP 0 rfl rfl 3 (by decide) (hts (Cond.fieldLink R_M 24 "QueuedFronts$Machine" "flow" "LQueuedFronts$Flow;") mw_101) (fun _ h9 => h9) rfl d_M_become_45 ?_
  refine lv_aload_n hx hb d_M_become_48 rfl (lv_at hl 1 rfl) ?_
  refine va_get (D := D) (ci := 1) (v := .ref (ad2 4)) (C := R_M) (T := T_M) (N := 7) hx hb hts in_M hown hK hP 6 rfl rfl 3 (by decide) (hts (Cond.fieldLink R_M 24 "QueuedFronts$Machine" "flow" "LQueuedFronts$Flow;") mw_101) (fun _ h9 => h9) rfl d_M_become_49 ?_
  refine qx_muZ (T := qf_F_become st.2.2.2.1 st2.2.2.2.1) (Wf := fun zz : qs_F => qw_M ad cA (qm_M_fl (qm_M_dt (qm_M_sp (qm_M_rg st (va_cpy st2.1 st.1 0 0 8)) (va_cpy st2.2.1 st.2.1 0 0 4)) (va_cpy st2.2.2.1 st.2.2.1 0 0 64)) zz) ++ qw_M ad2 cA st2) (vf := fun _ => none) (va_runV (As := [.ref (ad2 4)]) (rest := []) ⟨hx, hb, hml, hown, hts⟩ (c_F_become l D cA (ad 4) (ad2 4) st.2.2.2.1 st2.2.2.2.1) (qx_kV hts mw_200 mw_201 mw_202 mw_31 mw_203 cd_F_become ⟨Nat.le_of_ble_eq_true rfl, Nat.le_of_ble_eq_true rfl⟩) (qx_preV (q0 := 4) (ci := 2) (q := (R_F, T_F, 4)) hP hD hK hN [4, 10] rfl rfl rfl rfl) rfl rfl hl.1 rfl (lv_room (Nat.le_of_ble_eq_true rfl)) d_M_become_52 ⟨Nat.zero_le _, Nat.zero_le _⟩) hP hD hS [4, 10] rfl rfl [ad 0, ad 1, ad 2, ad 3, ad 4, ad 5, ad2 0, ad2 1, ad2 2, ad2 3, ad2 4, ad2 5] rfl rfl (fun zz1 hzz1 H locs hP hD hS => ?_)
  have hP : va_P D vwCl (qw_M ad cA (qm_M_fl (qm_M_dt (qm_M_sp (qm_M_rg st (va_cpy st2.1 st.1 0 0 8)) (va_cpy st2.2.1 st.2.1 0 0 4)) (va_cpy st2.2.2.1 st.2.2.1 0 0 64)) zz1) ++ qw_M ad2 cA st2) H := hP
  have hD : va_D A (qw_M ad cA (qm_M_fl (qm_M_dt (qm_M_sp (qm_M_rg st (va_cpy st2.1 st.1 0 0 8)) (va_cpy st2.2.1 st.2.1 0 0 4)) (va_cpy st2.2.2.1 st.2.2.1 0 0 64)) zz1) ++ qw_M ad2 cA st2) := hD
  refine W.eq (g2 := F0 m 55 ls []) rfl ?_
  refine lv_aload_n hx hb d_M_become_55 rfl (lv_at hl 0 rfl) ?_
  refine va_get (D := D) (ci := 1) (v := .ref (ad 5)) (C := R_M) (T := T_M) (N := 7) hx hb hts in_M hown hK hP 0 rfl rfl 4 (by decide) (hts (Cond.fieldLink R_M 28 "QueuedFronts$Machine" "saved" "LQueuedFronts$Flow;") mw_103) (fun _ h9 => h9) rfl d_M_become_56 ?_
  refine lv_aload_n hx hb d_M_become_59 rfl (lv_at hl 1 rfl) ?_
  refine va_get (D := D) (ci := 1) (v := .ref (ad2 5)) (C := R_M) (T := T_M) (N := 7) hx hb hts in_M hown hK hP 6 rfl rfl 4 (by decide) (hts (Cond.fieldLink R_M 28 "QueuedFronts$Machine" "saved" "LQueuedFronts$Flow;") mw_103) (fun _ h9 => h9) rfl d_M_become_60 ?_
  refine qx_muZ (T := qf_F_become st.2.2.2.2.1 st2.2.2.2.2.1) (Wf := fun zz : qs_F => qw_M ad cA (qm_M_sv (qm_M_fl (qm_M_dt (qm_M_sp (qm_M_rg st (va_cpy st2.1 st.1 0 0 8)) (va_cpy st2.2.1 st.2.1 0 0 4)) (va_cpy st2.2.2.1 st.2.2.1 0 0 64)) zz1) zz) ++ qw_M ad2 cA st2) (vf := fun _ => none) (va_runV (As := [.ref (ad2 5)]) (rest := []) ⟨hx, hb, hml, hown, hts⟩ (c_F_become l D cA (ad 5) (ad2 5) st.2.2.2.2.1 st2.2.2.2.2.1) (qx_kV hts mw_200 mw_201 mw_202 mw_31 mw_203 cd_F_become ⟨Nat.le_of_ble_eq_true rfl, Nat.le_of_ble_eq_true rfl⟩) (qx_preV (q0 := 5) (ci := 2) (q := (R_F, T_F, 4)) hP hD hK hN [5, 11] rfl rfl rfl rfl) rfl rfl hl.1 rfl (lv_room (Nat.le_of_ble_eq_true rfl)) d_M_become_63 ⟨Nat.zero_le _, Nat.zero_le _⟩) hP hD hS [5, 11] rfl rfl [ad 0, ad 1, ad 2, ad 3, ad 4, ad 5, ad2 0, ad2 1, ad2 2, ad2 3, ad2 4, ad2 5] rfl rfl (fun zz2 hzz2 H locs hP hD hS => ?_)
  have hP : va_P D vwCl (qw_M ad cA (qm_M_sv (qm_M_fl (qm_M_dt (qm_M_sp (qm_M_rg st (va_cpy st2.1 st.1 0 0 8)) (va_cpy st2.2.1 st.2.1 0 0 4)) (va_cpy st2.2.2.1 st.2.2.1 0 0 64)) zz1) zz2) ++ qw_M ad2 cA st2) H := hP
  have hD : va_D A (qw_M ad cA (qm_M_sv (qm_M_fl (qm_M_dt (qm_M_sp (qm_M_rg st (va_cpy st2.1 st.1 0 0 8)) (va_cpy st2.2.1 st.2.1 0 0 4)) (va_cpy st2.2.2.1 st.2.2.1 0 0 64)) zz1) zz2) ++ qw_M ad2 cA st2) := hD
  refine W.eq (g2 := F0 m 66 ls []) rfl ?_
  refine lv_aload_n hx hb d_M_become_66 rfl (lv_at hl 0 rfl) ?_
  refine lv_aload_n hx hb d_M_become_67 rfl (lv_at hl 1 rfl) ?_
  refine va_get (D := D) (ci := 1) (v := .int st2.2.2.2.2.2.1) (C := R_M) (T := T_M) (N := 7) hx hb hts in_M hown hK hP 6 rfl rfl 5 (by decide) (hts (Cond.fieldLink R_M 31 "QueuedFronts$Machine" "savedCause" "I") mw_105) (fun _ h9 => h9) rfl d_M_become_68 ?_
  refine va_put (D := D) (ci := 1) (v := .int st2.2.2.2.2.2.1) (ty := .int) (C := R_M) (T := T_M) (N := 7) hx hb hts in_M ty_M tyok_M nm_M hown hK hP hD hS 0 rfl rfl 5 (by decide) (hts (Cond.fieldLink R_M 31 "QueuedFronts$Machine" "savedCause" "I") mw_105) (fun _ h9 => h9) rfl (by decide +kernel) rfl rfl (Nat.le_of_ble_eq_true rfl) d_M_become_71 (fun H locs hP hD hS => ?_)
  have hP : va_P D vwCl (qw_M ad cA (qm_M_cs (qm_M_sv (qm_M_fl (qm_M_dt (qm_M_sp (qm_M_rg st (va_cpy st2.1 st.1 0 0 8)) (va_cpy st2.2.1 st.2.1 0 0 4)) (va_cpy st2.2.2.1 st.2.2.1 0 0 64)) zz1) zz2) st2.2.2.2.2.2.1) ++ qw_M ad2 cA st2) H := hP
  have hD : va_D A (qw_M ad cA (qm_M_cs (qm_M_sv (qm_M_fl (qm_M_dt (qm_M_sp (qm_M_rg st (va_cpy st2.1 st.1 0 0 8)) (va_cpy st2.2.1 st.2.1 0 0 4)) (va_cpy st2.2.2.1 st.2.2.1 0 0 64)) zz1) zz2) st2.2.2.2.2.2.1) ++ qw_M ad2 cA st2) := hD
  refine lv_aload_n hx hb d_M_become_74 rfl (lv_at hl 0 rfl) ?_
  refine lv_aload_n hx hb d_M_become_75 rfl (lv_at hl 1 rfl) ?_
  refine va_get (D := D) (ci := 1) (v := .int st2.2.2.2.2.2.2) (C := R_M) (T := T_M) (N := 7) hx hb hts in_M hown hK hP 6 rfl rfl 6 (by decide) (hts (Cond.fieldLink R_M 35 "QueuedFronts$Machine" "pending" "I") mw_107) (fun _ h9 => h9) rfl d_M_become_76 ?_
  refine va_put (D := D) (ci := 1) (v := .int st2.2.2.2.2.2.2) (ty := .int) (C := R_M) (T := T_M) (N := 7) hx hb hts in_M ty_M tyok_M nm_M hown hK hP hD hS 0 rfl rfl 6 (by decide) (hts (Cond.fieldLink R_M 35 "QueuedFronts$Machine" "pending" "I") mw_107) (fun _ h9 => h9) rfl (by decide +kernel) rfl rfl (Nat.le_of_ble_eq_true rfl) d_M_become_79 (fun H locs hP hD hS => ?_)
  have hP : va_P D vwCl (qw_M ad cA (qm_M_pd (qm_M_cs (qm_M_sv (qm_M_fl (qm_M_dt (qm_M_sp (qm_M_rg st (va_cpy st2.1 st.1 0 0 8)) (va_cpy st2.2.1 st.2.1 0 0 4)) (va_cpy st2.2.2.1 st.2.2.1 0 0 64)) zz1) zz2) st2.2.2.2.2.2.1) st2.2.2.2.2.2.2) ++ qw_M ad2 cA st2) H := hP
  have hD : va_D A (qw_M ad cA (qm_M_pd (qm_M_cs (qm_M_sv (qm_M_fl (qm_M_dt (qm_M_sp (qm_M_rg st (va_cpy st2.1 st.1 0 0 8)) (va_cpy st2.2.1 st.2.1 0 0 4)) (va_cpy st2.2.2.1 st.2.2.1 0 0 64)) zz1) zz2) st2.2.2.2.2.2.1) st2.2.2.2.2.2.2) ++ qw_M ad2 cA st2) := hD
  subst hzz2
  subst hzz1
  have e9 : (qm_M_pd (qm_M_cs (qm_M_sv (qm_M_fl (qm_M_dt (qm_M_sp (qm_M_rg st (va_cpy st2.1 st.1 0 0 8)) (va_cpy st2.2.1 st.2.1 0 0 4)) (va_cpy st2.2.2.1 st.2.2.1 0 0 64)) (qf_F_become st.2.2.2.1 st2.2.2.2.1)) (qf_F_become st.2.2.2.2.1 st2.2.2.2.2.1)) st2.2.2.2.2.2.1) st2.2.2.2.2.2.2) = qf_M_become st st2 := rfl
  exact W.vret hx hb hr (fun t ht hW => ⟨rfl, (by rw [ht, ← e9]; exact hP), hS.F ht⟩) hS.2.2 d_M_become_82
end
section
def qf_M_moveData (st : qs_M) (w : Int32) : qs_M :=
  if qf_Q_isDataOffset (qf_M_valueA st w + qf_Pa_m w) = 0 then (qm_M_fl st (qf_F_moveOn st.2.2.2.1 (0 : Int32)))
  else if qf_Pa_kind w = 11 then (qm_M_fl (qf_M_setT st w (st.2.2.1 (Int32.toNatClampNeg (qf_Q_dataIndex (qf_M_valueS st w) (qf_M_valueA st w + qf_Pa_m w))))) (qf_F_moveOn (qf_M_setT st w (st.2.2.1 (Int32.toNatClampNeg (qf_Q_dataIndex (qf_M_valueS st w) (qf_M_valueA st w + qf_Pa_m w))))).2.2.2.1 (0 : Int32)))
  else (qm_M_fl (qm_M_dt st (upd st.2.2.1 (Int32.toNatClampNeg (qf_Q_dataIndex (qf_M_valueS st w) (qf_M_valueA st w + qf_Pa_m w))) (qf_M_valueT st w))) (qf_F_moveOn st.2.2.2.1 (0 : Int32)))
set_option maxHeartbeats 4000000 in
set_option maxRecDepth 100000 in
theorem c_M_moveData (l : Launch) (D : va_G) (cA : ClassId) (ad : Nat → Nat) (st : qs_M) (w : Int32) (hs : ∀ k : Nat, k < 4 → vp_in (st.2.1 k) 4) : Met l y_M_moveData (Cond.code y_M_moveData b_M_moveData 4 none :: qx_T) ({ frames := 3, cells := 0, slots := 0, locals := 62 }) (qx_Pc D vwCl [(cA, .int)] (qw_M ad cA st) [.ref (ad 0), .int w]) (qx_Q D vwCl (qw_M ad cA (qf_M_moveData st w)) (qx_ad (qw_M ad cA st)) none) 0 0 (qx_ad (qw_M ad cA st)) := by
  refine Met.ofW (cc := b_M_moveData) (maxL := 4) (ret := none) (by decide) rfl ?_
  intro p e s m args below meth c s₁ B hml hv
  obtain ⟨rfl, hP, hK, hN, hD0⟩ := hv
  have hx := B.exec
  have hb := B.bytes
  have hr := B.returns
  have hts0 := atoms_spec (ws := Cond.code y_M_moveData b_M_moveData 4 none :: qx_T) B.pre
  have hts := fun w h => hts0 w (List.mem_cons_of_mem _ h)
  have hown : s.vm.findClass R_M = some m.cls := findClass_of_methodNamed B.named
  have hlocks := B.notSynchronized
  have hD : va_D (qx_ad (qw_M ad cA st)) (qw_M ad cA st) := ⟨hD0.1, fun k q hk => ⟨k, q.2, hk⟩⟩
  generalize hAe : qx_ad (qw_M ad cA st) = A at hD ⊢
  have hS : va_S A s.heap s.heap [] := va_S.rf
  have hl := lv_entry ([.ref (ad 0), .int w]) (n := 4) (Nat.le_of_ble_eq_true rfl)
  rw [lg_entry_eq]
  generalize (lg_sl ([.ref (ad 0), .int w]) ++ List.replicate (4 - (lg_sl ([.ref (ad 0), .int w])).length) Slot.unset).toArray = ls at hl ⊢
  have hl : lv_has ls 4 [(0, .ref (ad 0)), (1, .int w)] := hl
  refine lv_aload_n hx hb d_M_moveData_0 rfl (lv_at hl 0 rfl) ?_
  refine lv_iload_n hx hb d_M_moveData_1 rfl (lv_at hl 1 rfl) ?_
  refine qx_rd (va_runV (As := [.int w]) (rest := []) ⟨hx, hb, hml, hown, hts⟩ (c_M_valueA l D cA ad st w) (qx_kV hts mw_220 mw_222 mw_2 mw_30 mw_223 cd_M_valueA ⟨Nat.le_of_ble_eq_true rfl, Nat.le_of_ble_eq_true rfl⟩) (qx_preV (q0 := 0) (ci := 1) (q := (R_M, T_M, 7)) hP hD hK hN [0, 1, 2, 3, 4, 5] rfl rfl rfl rfl) rfl rfl hl.1 rfl (lv_room (Nat.le_of_ble_eq_true rfl)) d_M_moveData_2 ⟨Nat.zero_le _, Nat.zero_le _⟩) ?_
  refine lv_iload_n hx hb d_M_moveData_5 rfl (lv_at hl 1 rfl) ?_
  refine qx_rd (va_runS (As := [.int w]) (rest := [.int (qf_M_valueA st w)]) ⟨hx, hb, hml, hown, hts⟩ (c_Pa_m l D cA w) (qx_kS hts mw_237 mw_238 mw_34 mw_239 cd_Pa_m ⟨Nat.le_of_ble_eq_true rfl, Nat.le_of_ble_eq_true rfl⟩) (qx_preS hP hD hK hN [] rfl rfl) rfl rfl hl.1 rfl (lv_room (Nat.le_of_ble_eq_true rfl)) d_M_moveData_6 ⟨Nat.zero_le _, Nat.zero_le _⟩) ?_
  refine lv_iadd hx hb d_M_moveData_9 ?_
  refine lv_istore_n (lv' := [(2, .int (qf_M_valueA st w + qf_Pa_m w)), (0, .ref (ad 0)), (1, .int w)]) hx hb d_M_moveData_10 rfl hl (by decide) rfl (fun ls hl => ?_)
  refine lv_iload_n hx hb d_M_moveData_11 rfl (lv_at hl 0 rfl) ?_
  refine qx_rd (va_runSN (As := [.int (qf_M_valueA st w + qf_Pa_m w)]) (rest := []) ⟨hx, hb, hml, hown, hts⟩ (c_Q_isDataOffset l D cA (qf_M_valueA st w + qf_Pa_m w)) (qx_kSN hts hN.2.1 mw_156 mw_29 mw_157 cd_Q_isDataOffset ⟨Nat.le_of_ble_eq_true rfl, Nat.le_of_ble_eq_true rfl⟩) (qx_preS hP hD hK hN [] rfl rfl) rfl rfl hl.1 rfl (lv_room (Nat.le_of_ble_eq_true rfl)) d_M_moveData_12 ⟨Nat.zero_le _, Nat.zero_le _⟩) ?_
  refine lv_if_eq (tgt := 62) hx hb d_M_moveData_15 (by decide) (fun h1 => ?_) (fun h1 => ?_)
  · skip
    refine lv_aload_n hx hb d_M_moveData_62 rfl (lv_at hl 1 rfl) ?_
    refine va_get (D := D) (ci := 1) (v := .ref (ad 4)) (C := R_M) (T := T_M) (N := 7) hx hb hts in_M hown hK hP 0 rfl rfl 3 (by decide) (hts (Cond.fieldLink R_M 24 "QueuedFronts$Machine" "flow" "LQueuedFronts$Flow;") mw_101) (fun _ h9 => h9) rfl d_M_moveData_63 ?_
    refine lv_iconst (v := 0) hx hb d_M_moveData_66 (by decide) ?_
    refine qx_muZ (T := qf_F_moveOn st.2.2.2.1 (0 : Int32)) (Wf := fun zz : qs_F => qw_M ad cA (qm_M_fl st zz)) (vf := fun _ => none) (va_runV (As := [.int 0]) (rest := []) ⟨hx, hb, hml, hown, hts⟩ (c_F_moveOn l D cA (ad 4) st.2.2.2.1 0) (qx_kV hts mw_275 mw_206 mw_207 mw_31 mw_208 cd_F_moveOn ⟨Nat.le_of_ble_eq_true rfl, Nat.le_of_ble_eq_true rfl⟩) (qx_preV (q0 := 4) (ci := 2) (q := (R_F, T_F, 4)) hP hD hK hN [4] rfl rfl rfl rfl) rfl rfl hl.1 rfl (lv_room (Nat.le_of_ble_eq_true rfl)) d_M_moveData_67 ⟨Nat.zero_le _, Nat.zero_le _⟩) hP hD hS [4] rfl rfl [ad 0, ad 1, ad 2, ad 3, ad 4, ad 5] rfl rfl (fun zz1 hzz1 H locs hP hD hS => ?_)
    have hP : va_P D vwCl (qw_M ad cA (qm_M_fl st zz1)) H := hP
    have hD : va_D A (qw_M ad cA (qm_M_fl st zz1)) := hD
    refine W.eq (g2 := F0 m 70 ls []) rfl ?_
    subst hzz1
    have e9 : (qm_M_fl st (qf_F_moveOn st.2.2.2.1 (0 : Int32))) = qf_M_moveData st w := (by unfold qf_M_moveData; rw [if_pos h1])
    exact W.vret hx hb hr (fun t ht hW => ⟨rfl, (by rw [ht, ← e9]; exact hP), hS.F ht⟩) hS.2.2 d_M_moveData_70
  · skip
    refine lv_aload_n hx hb d_M_moveData_18 rfl (lv_at hl 1 rfl) ?_
    refine lv_iload_n hx hb d_M_moveData_19 rfl (lv_at hl 2 rfl) ?_
    refine qx_rd (va_runV (As := [.int w]) (rest := []) ⟨hx, hb, hml, hown, hts⟩ (c_M_valueS l D cA ad st w) (qx_kV hts mw_280 mw_282 mw_7 mw_30 mw_283 cd_M_valueS ⟨Nat.le_of_ble_eq_true rfl, Nat.le_of_ble_eq_true rfl⟩) (qx_preV (q0 := 0) (ci := 1) (q := (R_M, T_M, 7)) hP hD hK hN [0, 1, 2, 3, 4, 5] rfl rfl rfl rfl) rfl rfl hl.1 rfl (lv_room (Nat.le_of_ble_eq_true rfl)) d_M_moveData_20 ⟨Nat.zero_le _, Nat.zero_le _⟩) ?_
    refine lv_iload_n hx hb d_M_moveData_23 rfl (lv_at hl 0 rfl) ?_
    refine qx_rd (va_runSN (As := [.int (qf_M_valueS st w), .int (qf_M_valueA st w + qf_Pa_m w)]) (rest := []) ⟨hx, hb, hml, hown, hts⟩ (c_Q_dataIndex l D cA (qf_M_valueS st w) (qf_M_valueA st w + qf_Pa_m w)) (qx_kSN hts hN.2.2 mw_159 mw_29 mw_160 cd_Q_dataIndex ⟨Nat.le_of_ble_eq_true rfl, Nat.le_of_ble_eq_true rfl⟩) (qx_preS hP hD hK hN [] rfl rfl) rfl rfl hl.1 rfl (lv_room (Nat.le_of_ble_eq_true rfl)) d_M_moveData_24 ⟨Nat.zero_le _, Nat.zero_le _⟩) ?_
    refine lv_istore_n (lv' := [(3, .int (qf_Q_dataIndex (qf_M_valueS st w) (qf_M_valueA st w + qf_Pa_m w))), (2, .int (qf_M_valueA st w + qf_Pa_m w)), (0, .ref (ad 0)), (1, .int w)]) hx hb d_M_moveData_27 rfl hl (by decide) rfl (fun ls hl => ?_)
    refine lv_iload_n hx hb d_M_moveData_28 rfl (lv_at hl 3 rfl) ?_
    refine qx_rd (va_runS (As := [.int w]) (rest := []) ⟨hx, hb, hml, hown, hts⟩ (c_Pa_kind l D cA w) (qx_kS hts mw_217 mw_218 mw_34 mw_219 cd_Pa_kind ⟨Nat.le_of_ble_eq_true rfl, Nat.le_of_ble_eq_true rfl⟩) (qx_preS hP hD hK hN [] rfl rfl) rfl rfl hl.1 rfl (lv_room (Nat.le_of_ble_eq_true rfl)) d_M_moveData_29 ⟨Nat.zero_le _, Nat.zero_le _⟩) ?_
    refine lv_bipush (v := 11) hx hb d_M_moveData_32 (by decide) ?_
    refine lv_icmp_ne (tgt := 51) hx hb d_M_moveData_34 (by decide) (fun h2 => ?_) (fun h2 => ?_)
    · skip
      refine lv_aload_n hx hb d_M_moveData_51 rfl (lv_at hl 2 rfl) ?_
      refine va_get (D := D) (ci := 1) (v := .ref (ad 3)) (C := R_M) (T := T_M) (N := 7) hx hb hts in_M hown hK hP 0 rfl rfl 2 (by decide) (hts (Cond.fieldLink R_M 18 "QueuedFronts$Machine" "dataWords" "[I") mw_99) (fun _ h9 => h9) rfl d_M_moveData_52 ?_
      refine lv_iload_n hx hb d_M_moveData_55 rfl (lv_at hl 0 rfl) ?_
      refine lv_aload_n hx hb d_M_moveData_56 rfl (lv_at hl 2 rfl) ?_
      refine lv_iload_n hx hb d_M_moveData_57 rfl (lv_at hl 3 rfl) ?_
      refine qx_rd (va_runV (As := [.int w]) (rest := [.int (qf_Q_dataIndex (qf_M_valueS st w) (qf_M_valueA st w + qf_Pa_m w)), .ref (ad 3)]) ⟨hx, hb, hml, hown, hts⟩ (c_M_valueT l D cA ad st w) (qx_kV hts mw_288 mw_290 mw_8 mw_30 mw_291 cd_M_valueT ⟨Nat.le_of_ble_eq_true rfl, Nat.le_of_ble_eq_true rfl⟩) (qx_preV (q0 := 0) (ci := 1) (q := (R_M, T_M, 7)) hP hD hK hN [0, 1, 2, 3, 4, 5] rfl rfl rfl rfl) rfl rfl hl.1 rfl (lv_room (Nat.le_of_ble_eq_true rfl)) d_M_moveData_58 ⟨Nat.zero_le _, Nat.zero_le _⟩) ?_
      refine va_iast hx hb hK hP hD hS 3 0 rfl rfl (show vp_in (qf_Q_dataIndex (qf_M_valueS st w) (qf_M_valueA st w + qf_Pa_m w)) 64 from qi_dix (qi_S w hs) h1) d_M_moveData_61 (fun H locs hP hD hS => ?_)
      have hP : va_P D vwCl (qw_M ad cA (qm_M_dt st (upd st.2.2.1 (Int32.toNatClampNeg (qf_Q_dataIndex (qf_M_valueS st w) (qf_M_valueA st w + qf_Pa_m w))) (qf_M_valueT st w)))) H := hP
      have hD : va_D A (qw_M ad cA (qm_M_dt st (upd st.2.2.1 (Int32.toNatClampNeg (qf_Q_dataIndex (qf_M_valueS st w) (qf_M_valueA st w + qf_Pa_m w))) (qf_M_valueT st w)))) := hD
      refine lv_aload_n hx hb d_M_moveData_62 rfl (lv_at hl 2 rfl) ?_
      refine va_get (D := D) (ci := 1) (v := .ref (ad 4)) (C := R_M) (T := T_M) (N := 7) hx hb hts in_M hown hK hP 0 rfl rfl 3 (by decide) (hts (Cond.fieldLink R_M 24 "QueuedFronts$Machine" "flow" "LQueuedFronts$Flow;") mw_101) (fun _ h9 => h9) rfl d_M_moveData_63 ?_
      refine lv_iconst (v := 0) hx hb d_M_moveData_66 (by decide) ?_
      refine qx_muZ (T := qf_F_moveOn st.2.2.2.1 (0 : Int32)) (Wf := fun zz : qs_F => qw_M ad cA (qm_M_fl (qm_M_dt st (upd st.2.2.1 (Int32.toNatClampNeg (qf_Q_dataIndex (qf_M_valueS st w) (qf_M_valueA st w + qf_Pa_m w))) (qf_M_valueT st w))) zz)) (vf := fun _ => none) (va_runV (As := [.int 0]) (rest := []) ⟨hx, hb, hml, hown, hts⟩ (c_F_moveOn l D cA (ad 4) st.2.2.2.1 0) (qx_kV hts mw_275 mw_206 mw_207 mw_31 mw_208 cd_F_moveOn ⟨Nat.le_of_ble_eq_true rfl, Nat.le_of_ble_eq_true rfl⟩) (qx_preV (q0 := 4) (ci := 2) (q := (R_F, T_F, 4)) hP hD hK hN [4] rfl rfl rfl rfl) rfl rfl hl.1 rfl (lv_room (Nat.le_of_ble_eq_true rfl)) d_M_moveData_67 ⟨Nat.zero_le _, Nat.zero_le _⟩) hP hD hS [4] rfl rfl [ad 0, ad 1, ad 2, ad 3, ad 4, ad 5] rfl rfl (fun zz1 hzz1 H locs hP hD hS => ?_)
      have hP : va_P D vwCl (qw_M ad cA (qm_M_fl (qm_M_dt st (upd st.2.2.1 (Int32.toNatClampNeg (qf_Q_dataIndex (qf_M_valueS st w) (qf_M_valueA st w + qf_Pa_m w))) (qf_M_valueT st w))) zz1)) H := hP
      have hD : va_D A (qw_M ad cA (qm_M_fl (qm_M_dt st (upd st.2.2.1 (Int32.toNatClampNeg (qf_Q_dataIndex (qf_M_valueS st w) (qf_M_valueA st w + qf_Pa_m w))) (qf_M_valueT st w))) zz1)) := hD
      refine W.eq (g2 := F0 m 70 ls []) rfl ?_
      subst hzz1
      have e9 : (qm_M_fl (qm_M_dt st (upd st.2.2.1 (Int32.toNatClampNeg (qf_Q_dataIndex (qf_M_valueS st w) (qf_M_valueA st w + qf_Pa_m w))) (qf_M_valueT st w))) (qf_F_moveOn st.2.2.2.1 (0 : Int32))) = qf_M_moveData st w := (by unfold qf_M_moveData; rw [if_neg h1, if_neg h2])
      exact W.vret hx hb hr (fun t ht hW => ⟨rfl, (by rw [ht, ← e9]; exact hP), hS.F ht⟩) hS.2.2 d_M_moveData_70
    · skip
      refine lv_aload_n hx hb d_M_moveData_37 rfl (lv_at hl 2 rfl) ?_
      refine lv_iload_n hx hb d_M_moveData_38 rfl (lv_at hl 3 rfl) ?_
      refine lv_aload_n hx hb d_M_moveData_39 rfl (lv_at hl 2 rfl) ?_
      refine va_get (D := D) (ci := 1) (v := .ref (ad 3)) (C := R_M) (T := T_M) (N := 7) hx hb hts in_M hown hK hP 0 rfl rfl 2 (by decide) (hts (Cond.fieldLink R_M 18 "QueuedFronts$Machine" "dataWords" "[I") mw_99) (fun _ h9 => h9) rfl d_M_moveData_40 ?_
      refine lv_iload_n hx hb d_M_moveData_43 rfl (lv_at hl 0 rfl) ?_
      refine va_iald hx hb hK hP 3 0 rfl rfl (show vp_in (qf_Q_dataIndex (qf_M_valueS st w) (qf_M_valueA st w + qf_Pa_m w)) 64 from qi_dix (qi_S w hs) h1) d_M_moveData_44 ?_
      refine qx_muZ (T := qf_M_setT st w (st.2.2.1 (Int32.toNatClampNeg (qf_Q_dataIndex (qf_M_valueS st w) (qf_M_valueA st w + qf_Pa_m w))))) (Wf := fun zz : qs_M => qw_M ad cA zz) (vf := fun _ => none) (va_runV (As := [.int w, .int (st.2.2.1 (Int32.toNatClampNeg (qf_Q_dataIndex (qf_M_valueS st w) (qf_M_valueA st w + qf_Pa_m w))))]) (rest := []) ⟨hx, hb, hml, hown, hts⟩ (c_M_setT l D cA ad st w (st.2.2.1 (Int32.toNatClampNeg (qf_Q_dataIndex (qf_M_valueS st w) (qf_M_valueA st w + qf_Pa_m w))))) (qx_kV hts mw_268 mw_270 mw_5 mw_30 mw_271 cd_M_setT ⟨Nat.le_of_ble_eq_true rfl, Nat.le_of_ble_eq_true rfl⟩) (qx_preV (q0 := 0) (ci := 1) (q := (R_M, T_M, 7)) hP hD hK hN [0, 1, 2, 3, 4, 5] rfl rfl rfl rfl) rfl rfl hl.1 rfl (lv_room (Nat.le_of_ble_eq_true rfl)) d_M_moveData_45 ⟨Nat.zero_le _, Nat.zero_le _⟩) hP hD hS [0, 1, 2, 3, 4, 5] rfl rfl [ad 0, ad 1, ad 2, ad 3, ad 4, ad 5] rfl rfl (fun zz1 hzz1 H locs hP hD hS => ?_)
      have hP : va_P D vwCl (qw_M ad cA zz1) H := hP
      have hD : va_D A (qw_M ad cA zz1) := hD
      refine W.eq (g2 := F0 m 48 ls []) rfl ?_
      refine lv_goto (tgt := 62) hx hb d_M_moveData_48 (by decide) ?_
      refine lv_aload_n hx hb d_M_moveData_62 rfl (lv_at hl 2 rfl) ?_
      refine va_get (D := D) (ci := 1) (v := .ref (ad 4)) (C := R_M) (T := T_M) (N := 7) hx hb hts in_M hown hK hP 0 rfl rfl 3 (by decide) (hts (Cond.fieldLink R_M 24 "QueuedFronts$Machine" "flow" "LQueuedFronts$Flow;") mw_101) (fun _ h9 => h9) rfl d_M_moveData_63 ?_
      refine lv_iconst (v := 0) hx hb d_M_moveData_66 (by decide) ?_
      refine qx_muZ (T := qf_F_moveOn zz1.2.2.2.1 (0 : Int32)) (Wf := fun zz : qs_F => qw_M ad cA (qm_M_fl zz1 zz)) (vf := fun _ => none) (va_runV (As := [.int 0]) (rest := []) ⟨hx, hb, hml, hown, hts⟩ (c_F_moveOn l D cA (ad 4) zz1.2.2.2.1 0) (qx_kV hts mw_275 mw_206 mw_207 mw_31 mw_208 cd_F_moveOn ⟨Nat.le_of_ble_eq_true rfl, Nat.le_of_ble_eq_true rfl⟩) (qx_preV (q0 := 4) (ci := 2) (q := (R_F, T_F, 4)) hP hD hK hN [4] rfl rfl rfl rfl) rfl rfl hl.1 rfl (lv_room (Nat.le_of_ble_eq_true rfl)) d_M_moveData_67 ⟨Nat.zero_le _, Nat.zero_le _⟩) hP hD hS [4] rfl rfl [ad 0, ad 1, ad 2, ad 3, ad 4, ad 5] rfl rfl (fun zz2 hzz2 H locs hP hD hS => ?_)
      have hP : va_P D vwCl (qw_M ad cA (qm_M_fl zz1 zz2)) H := hP
      have hD : va_D A (qw_M ad cA (qm_M_fl zz1 zz2)) := hD
      refine W.eq (g2 := F0 m 70 ls []) rfl ?_
      subst hzz2
      subst hzz1
      have e9 : (qm_M_fl (qf_M_setT st w (st.2.2.1 (Int32.toNatClampNeg (qf_Q_dataIndex (qf_M_valueS st w) (qf_M_valueA st w + qf_Pa_m w))))) (qf_F_moveOn (qf_M_setT st w (st.2.2.1 (Int32.toNatClampNeg (qf_Q_dataIndex (qf_M_valueS st w) (qf_M_valueA st w + qf_Pa_m w))))).2.2.2.1 (0 : Int32))) = qf_M_moveData st w := (by unfold qf_M_moveData; rw [if_neg h1, if_pos h2])
      exact W.vret hx hb hr (fun t ht hW => ⟨rfl, (by rw [ht, ← e9]; exact hP), hS.F ht⟩) hS.2.2 d_M_moveData_70
end
section
def qf_M_reckon (st : qs_M) (w : Int32) : qs_M :=
  if qf_Pa_kind w = 2 then (qm_M_fl (qf_M_setT st w (qf_M_resultOf w (qf_M_valueA st w) (qf_M_valueB st w))) (qf_F_moveOn (qf_M_setT st w (qf_M_resultOf w (qf_M_valueA st w) (qf_M_valueB st w))).2.2.2.1 (qf_Co_holds (qf_Pa_condition w) (qf_M_valueA st w) (qf_M_valueB st w))))
  else if qf_Pa_kind w = 3 then (qm_M_fl (qf_M_setT st w (qf_M_resultOf w (qf_M_valueA st w) (qf_M_valueB st w))) (qf_F_moveOn (qf_M_setT st w (qf_M_resultOf w (qf_M_valueA st w) (qf_M_valueB st w))).2.2.2.1 (qf_Co_holds (qf_Pa_condition w) (qf_M_valueA st w) (qf_M_valueB st w))))
  else if qf_Pa_kind w = 8 then (qm_M_fl (qf_M_setT st w (qf_M_resultOf w (qf_M_valueA st w) (qf_M_valueB st w))) (qf_F_moveOn (qf_M_setT st w (qf_M_resultOf w (qf_M_valueA st w) (qf_M_valueB st w))).2.2.2.1 (qf_Co_holds (qf_Pa_condition w) (qf_M_valueA st w) (qf_M_valueB st w))))
  else (qm_M_fl (qf_M_setT st w (qf_M_resultOf w (qf_M_valueA st w) (qf_M_valueB st w))) (qf_F_moveOn (qf_M_setT st w (qf_M_resultOf w (qf_M_valueA st w) (qf_M_valueB st w))).2.2.2.1 (qf_Co_holds (qf_Pa_condition w) (qf_M_resultOf w (qf_M_valueA st w) (qf_M_valueB st w)) (0 : Int32))))
set_option maxHeartbeats 4000000 in
set_option maxRecDepth 100000 in
theorem c_M_reckon (l : Launch) (D : va_G) (cA : ClassId) (ad : Nat → Nat) (st : qs_M) (w : Int32) : Met l y_M_reckon (Cond.code y_M_reckon b_M_reckon 8 none :: qx_T) ({ frames := 3, cells := 0, slots := 0, locals := 62 }) (qx_Pc D vwCl [(cA, .int)] (qw_M ad cA st) [.ref (ad 0), .int w]) (qx_Q D vwCl (qw_M ad cA (qf_M_reckon st w)) (qx_ad (qw_M ad cA st)) none) 0 0 (qx_ad (qw_M ad cA st)) := by
  refine Met.ofW (cc := b_M_reckon) (maxL := 8) (ret := none) (by decide) rfl ?_
  intro p e s m args below meth c s₁ B hml hv
  obtain ⟨rfl, hP, hK, hN, hD0⟩ := hv
  have hx := B.exec
  have hb := B.bytes
  have hr := B.returns
  have hts0 := atoms_spec (ws := Cond.code y_M_reckon b_M_reckon 8 none :: qx_T) B.pre
  have hts := fun w h => hts0 w (List.mem_cons_of_mem _ h)
  have hown : s.vm.findClass R_M = some m.cls := findClass_of_methodNamed B.named
  have hlocks := B.notSynchronized
  have hD : va_D (qx_ad (qw_M ad cA st)) (qw_M ad cA st) := ⟨hD0.1, fun k q hk => ⟨k, q.2, hk⟩⟩
  generalize hAe : qx_ad (qw_M ad cA st) = A at hD ⊢
  have hS : va_S A s.heap s.heap [] := va_S.rf
  have hl := lv_entry ([.ref (ad 0), .int w]) (n := 8) (Nat.le_of_ble_eq_true rfl)
  rw [lg_entry_eq]
  generalize (lg_sl ([.ref (ad 0), .int w]) ++ List.replicate (8 - (lg_sl ([.ref (ad 0), .int w])).length) Slot.unset).toArray = ls at hl ⊢
  have hl : lv_has ls 8 [(0, .ref (ad 0)), (1, .int w)] := hl
  refine lv_iload_n hx hb d_M_reckon_0 rfl (lv_at hl 1 rfl) ?_
  refine qx_rd (va_runS (As := [.int w]) (rest := []) ⟨hx, hb, hml, hown, hts⟩ (c_Pa_kind l D cA w) (qx_kS hts mw_217 mw_218 mw_34 mw_219 cd_Pa_kind ⟨Nat.le_of_ble_eq_true rfl, Nat.le_of_ble_eq_true rfl⟩) (qx_preS hP hD hK hN [] rfl rfl) rfl rfl hl.1 rfl (lv_room (Nat.le_of_ble_eq_true rfl)) d_M_reckon_1 ⟨Nat.zero_le _, Nat.zero_le _⟩) ?_
  refine lv_istore_n (lv' := [(2, .int (qf_Pa_kind w)), (0, .ref (ad 0)), (1, .int w)]) hx hb d_M_reckon_4 rfl hl (by decide) rfl (fun ls hl => ?_)
  refine lv_aload_n hx hb d_M_reckon_5 rfl (lv_at hl 1 rfl) ?_
  refine lv_iload_n hx hb d_M_reckon_6 rfl (lv_at hl 2 rfl) ?_
  refine qx_rd (va_runV (As := [.int w]) (rest := []) ⟨hx, hb, hml, hown, hts⟩ (c_M_valueA l D cA ad st w) (qx_kV hts mw_220 mw_222 mw_2 mw_30 mw_223 cd_M_valueA ⟨Nat.le_of_ble_eq_true rfl, Nat.le_of_ble_eq_true rfl⟩) (qx_preV (q0 := 0) (ci := 1) (q := (R_M, T_M, 7)) hP hD hK hN [0, 1, 2, 3, 4, 5] rfl rfl rfl rfl) rfl rfl hl.1 rfl (lv_room (Nat.le_of_ble_eq_true rfl)) d_M_reckon_7 ⟨Nat.zero_le _, Nat.zero_le _⟩) ?_
  refine lv_istore_n (lv' := [(3, .int (qf_M_valueA st w)), (2, .int (qf_Pa_kind w)), (0, .ref (ad 0)), (1, .int w)]) hx hb d_M_reckon_10 rfl hl (by decide) rfl (fun ls hl => ?_)
  refine lv_aload_n hx hb d_M_reckon_11 rfl (lv_at hl 2 rfl) ?_
  refine lv_iload_n hx hb d_M_reckon_12 rfl (lv_at hl 3 rfl) ?_
  refine qx_rd (va_runV (As := [.int w]) (rest := []) ⟨hx, hb, hml, hown, hts⟩ (c_M_valueB l D cA ad st w) (qx_kV hts mw_227 mw_229 mw_3 mw_30 mw_230 cd_M_valueB ⟨Nat.le_of_ble_eq_true rfl, Nat.le_of_ble_eq_true rfl⟩) (qx_preV (q0 := 0) (ci := 1) (q := (R_M, T_M, 7)) hP hD hK hN [0, 1, 2, 3, 4, 5] rfl rfl rfl rfl) rfl rfl hl.1 rfl (lv_room (Nat.le_of_ble_eq_true rfl)) d_M_reckon_13 ⟨Nat.zero_le _, Nat.zero_le _⟩) ?_
  refine lv_istore (lv' := [(4, .int (qf_M_valueB st w)), (3, .int (qf_M_valueA st w)), (2, .int (qf_Pa_kind w)), (0, .ref (ad 0)), (1, .int w)]) hx hb d_M_reckon_16 hl (by decide) rfl (fun ls hl => ?_)
  refine lv_iload_n hx hb d_M_reckon_18 rfl (lv_at hl 4 rfl) ?_
  refine lv_iload_n hx hb d_M_reckon_19 rfl (lv_at hl 1 rfl) ?_
  refine lv_iload hx hb d_M_reckon_20 (lv_at hl 0 rfl) ?_
  refine qx_rd (va_runS (As := [.int w, .int (qf_M_valueA st w), .int (qf_M_valueB st w)]) (rest := []) ⟨hx, hb, hml, hown, hts⟩ (c_M_resultOf l D cA w (qf_M_valueA st w) (qf_M_valueB st w)) (qx_kS hts mw_249 mw_250 mw_30 mw_251 cd_M_resultOf ⟨Nat.le_of_ble_eq_true rfl, Nat.le_of_ble_eq_true rfl⟩) (qx_preS hP hD hK hN [] rfl rfl) rfl rfl hl.1 rfl (lv_room (Nat.le_of_ble_eq_true rfl)) d_M_reckon_22 ⟨Nat.zero_le _, Nat.zero_le _⟩) ?_
  refine lv_istore (lv' := [(5, .int (qf_M_resultOf w (qf_M_valueA st w) (qf_M_valueB st w))), (4, .int (qf_M_valueB st w)), (3, .int (qf_M_valueA st w)), (2, .int (qf_Pa_kind w)), (0, .ref (ad 0)), (1, .int w)]) hx hb d_M_reckon_25 hl (by decide) rfl (fun ls hl => ?_)
  refine lv_iload_n hx hb d_M_reckon_27 rfl (lv_at hl 3 rfl) ?_
  refine lv_iconst (v := 2) hx hb d_M_reckon_28 (by decide) ?_
  refine lv_icmp_eq (tgt := 43) hx hb d_M_reckon_29 (by decide) (fun h1 => ?_) (fun h1 => ?_)
  · skip
    refine lv_iconst (v := 1) hx hb d_M_reckon_43 (by decide) ?_
    refine lv_goto (tgt := 48) hx hb d_M_reckon_44 (by decide) ?_
    refine lv_istore (lv' := [(6, .int 1), (5, .int (qf_M_resultOf w (qf_M_valueA st w) (qf_M_valueB st w))), (4, .int (qf_M_valueB st w)), (3, .int (qf_M_valueA st w)), (2, .int (qf_Pa_kind w)), (0, .ref (ad 0)), (1, .int w)]) hx hb d_M_reckon_48 hl (by decide) rfl (fun ls hl => ?_)
    refine lv_iload hx hb d_M_reckon_50 (lv_at hl 0 rfl) ?_
    refine lv_if_eq (tgt := 68) hx hb d_M_reckon_52 (by decide) (fun h => False.elim (by revert h; decide)) (fun _ => ?_)
    refine lv_iload_n hx hb d_M_reckon_55 rfl (lv_at hl 6 rfl) ?_
    refine qx_rd (va_runS (As := [.int w]) (rest := []) ⟨hx, hb, hml, hown, hts⟩ (c_Pa_condition l D cA w) (qx_kS hts mw_258 mw_259 mw_34 mw_260 cd_Pa_condition ⟨Nat.le_of_ble_eq_true rfl, Nat.le_of_ble_eq_true rfl⟩) (qx_preS hP hD hK hN [] rfl rfl) rfl rfl hl.1 rfl (lv_room (Nat.le_of_ble_eq_true rfl)) d_M_reckon_56 ⟨Nat.zero_le _, Nat.zero_le _⟩) ?_
    refine lv_iload_n hx hb d_M_reckon_59 rfl (lv_at hl 3 rfl) ?_
    refine lv_iload hx hb d_M_reckon_60 (lv_at hl 2 rfl) ?_
    refine qx_rd (va_runS (As := [.int (qf_Pa_condition w), .int (qf_M_valueA st w), .int (qf_M_valueB st w)]) (rest := []) ⟨hx, hb, hml, hown, hts⟩ (c_Co_holds l D cA (qf_Pa_condition w) (qf_M_valueA st w) (qf_M_valueB st w)) (qx_kS hts mw_261 mw_262 mw_35 mw_263 cd_Co_holds ⟨Nat.le_of_ble_eq_true rfl, Nat.le_of_ble_eq_true rfl⟩) (qx_preS hP hD hK hN [] rfl rfl) rfl rfl hl.1 rfl (lv_room (Nat.le_of_ble_eq_true rfl)) d_M_reckon_62 ⟨Nat.zero_le _, Nat.zero_le _⟩) ?_
    refine lv_goto (tgt := 78) hx hb d_M_reckon_65 (by decide) ?_
    refine lv_istore (lv' := [(7, .int (qf_Co_holds (qf_Pa_condition w) (qf_M_valueA st w) (qf_M_valueB st w))), (6, .int 1), (5, .int (qf_M_resultOf w (qf_M_valueA st w) (qf_M_valueB st w))), (4, .int (qf_M_valueB st w)), (3, .int (qf_M_valueA st w)), (2, .int (qf_Pa_kind w)), (0, .ref (ad 0)), (1, .int w)]) hx hb d_M_reckon_78 hl (by decide) rfl (fun ls hl => ?_)
    refine lv_aload_n hx hb d_M_reckon_80 rfl (lv_at hl 6 rfl) ?_
    refine lv_iload_n hx hb d_M_reckon_81 rfl (lv_at hl 7 rfl) ?_
    refine lv_iload hx hb d_M_reckon_82 (lv_at hl 2 rfl) ?_
    refine qx_muZ (T := qf_M_setT st w (qf_M_resultOf w (qf_M_valueA st w) (qf_M_valueB st w))) (Wf := fun zz : qs_M => qw_M ad cA zz) (vf := fun _ => none) (va_runV (As := [.int w, .int (qf_M_resultOf w (qf_M_valueA st w) (qf_M_valueB st w))]) (rest := []) ⟨hx, hb, hml, hown, hts⟩ (c_M_setT l D cA ad st w (qf_M_resultOf w (qf_M_valueA st w) (qf_M_valueB st w))) (qx_kV hts mw_268 mw_270 mw_5 mw_30 mw_271 cd_M_setT ⟨Nat.le_of_ble_eq_true rfl, Nat.le_of_ble_eq_true rfl⟩) (qx_preV (q0 := 0) (ci := 1) (q := (R_M, T_M, 7)) hP hD hK hN [0, 1, 2, 3, 4, 5] rfl rfl rfl rfl) rfl rfl hl.1 rfl (lv_room (Nat.le_of_ble_eq_true rfl)) d_M_reckon_84 ⟨Nat.zero_le _, Nat.zero_le _⟩) hP hD hS [0, 1, 2, 3, 4, 5] rfl rfl [ad 0, ad 1, ad 2, ad 3, ad 4, ad 5] rfl rfl (fun zz1 hzz1 H locs hP hD hS => ?_)
    have hP : va_P D vwCl (qw_M ad cA zz1) H := hP
    have hD : va_D A (qw_M ad cA zz1) := hD
    refine W.eq (g2 := F0 m 87 ls []) rfl ?_
    refine lv_aload_n hx hb d_M_reckon_87 rfl (lv_at hl 6 rfl) ?_
    refine va_get (D := D) (ci := 1) (v := .ref (ad 4)) (C := R_M) (T := T_M) (N := 7) hx hb hts in_M hown hK hP 0 rfl rfl 3 (by decide) (hts (Cond.fieldLink R_M 24 "QueuedFronts$Machine" "flow" "LQueuedFronts$Flow;") mw_101) (fun _ h9 => h9) rfl d_M_reckon_88 ?_
    refine lv_iload hx hb d_M_reckon_91 (lv_at hl 0 rfl) ?_
    refine qx_muZ (T := qf_F_moveOn zz1.2.2.2.1 (qf_Co_holds (qf_Pa_condition w) (qf_M_valueA st w) (qf_M_valueB st w))) (Wf := fun zz : qs_F => qw_M ad cA (qm_M_fl zz1 zz)) (vf := fun _ => none) (va_runV (As := [.int (qf_Co_holds (qf_Pa_condition w) (qf_M_valueA st w) (qf_M_valueB st w))]) (rest := []) ⟨hx, hb, hml, hown, hts⟩ (c_F_moveOn l D cA (ad 4) zz1.2.2.2.1 (qf_Co_holds (qf_Pa_condition w) (qf_M_valueA st w) (qf_M_valueB st w))) (qx_kV hts mw_275 mw_206 mw_207 mw_31 mw_208 cd_F_moveOn ⟨Nat.le_of_ble_eq_true rfl, Nat.le_of_ble_eq_true rfl⟩) (qx_preV (q0 := 4) (ci := 2) (q := (R_F, T_F, 4)) hP hD hK hN [4] rfl rfl rfl rfl) rfl rfl hl.1 rfl (lv_room (Nat.le_of_ble_eq_true rfl)) d_M_reckon_93 ⟨Nat.zero_le _, Nat.zero_le _⟩) hP hD hS [4] rfl rfl [ad 0, ad 1, ad 2, ad 3, ad 4, ad 5] rfl rfl (fun zz2 hzz2 H locs hP hD hS => ?_)
    have hP : va_P D vwCl (qw_M ad cA (qm_M_fl zz1 zz2)) H := hP
    have hD : va_D A (qw_M ad cA (qm_M_fl zz1 zz2)) := hD
    refine W.eq (g2 := F0 m 96 ls []) rfl ?_
    subst hzz2
    subst hzz1
    have e9 : (qm_M_fl (qf_M_setT st w (qf_M_resultOf w (qf_M_valueA st w) (qf_M_valueB st w))) (qf_F_moveOn (qf_M_setT st w (qf_M_resultOf w (qf_M_valueA st w) (qf_M_valueB st w))).2.2.2.1 (qf_Co_holds (qf_Pa_condition w) (qf_M_valueA st w) (qf_M_valueB st w)))) = qf_M_reckon st w := (by unfold qf_M_reckon; rw [if_pos h1])
    exact W.vret hx hb hr (fun t ht hW => ⟨rfl, (by rw [ht, ← e9]; exact hP), hS.F ht⟩) hS.2.2 d_M_reckon_96
  · skip
    refine lv_iload_n hx hb d_M_reckon_32 rfl (lv_at hl 3 rfl) ?_
    refine lv_iconst (v := 3) hx hb d_M_reckon_33 (by decide) ?_
    refine lv_icmp_eq (tgt := 43) hx hb d_M_reckon_34 (by decide) (fun h2 => ?_) (fun h2 => ?_)
    · skip
      refine lv_iconst (v := 1) hx hb d_M_reckon_43 (by decide) ?_
      refine lv_goto (tgt := 48) hx hb d_M_reckon_44 (by decide) ?_
      refine lv_istore (lv' := [(6, .int 1), (5, .int (qf_M_resultOf w (qf_M_valueA st w) (qf_M_valueB st w))), (4, .int (qf_M_valueB st w)), (3, .int (qf_M_valueA st w)), (2, .int (qf_Pa_kind w)), (0, .ref (ad 0)), (1, .int w)]) hx hb d_M_reckon_48 hl (by decide) rfl (fun ls hl => ?_)
      refine lv_iload hx hb d_M_reckon_50 (lv_at hl 0 rfl) ?_
      refine lv_if_eq (tgt := 68) hx hb d_M_reckon_52 (by decide) (fun h => False.elim (by revert h; decide)) (fun _ => ?_)
      refine lv_iload_n hx hb d_M_reckon_55 rfl (lv_at hl 6 rfl) ?_
      refine qx_rd (va_runS (As := [.int w]) (rest := []) ⟨hx, hb, hml, hown, hts⟩ (c_Pa_condition l D cA w) (qx_kS hts mw_258 mw_259 mw_34 mw_260 cd_Pa_condition ⟨Nat.le_of_ble_eq_true rfl, Nat.le_of_ble_eq_true rfl⟩) (qx_preS hP hD hK hN [] rfl rfl) rfl rfl hl.1 rfl (lv_room (Nat.le_of_ble_eq_true rfl)) d_M_reckon_56 ⟨Nat.zero_le _, Nat.zero_le _⟩) ?_
      refine lv_iload_n hx hb d_M_reckon_59 rfl (lv_at hl 3 rfl) ?_
      refine lv_iload hx hb d_M_reckon_60 (lv_at hl 2 rfl) ?_
      refine qx_rd (va_runS (As := [.int (qf_Pa_condition w), .int (qf_M_valueA st w), .int (qf_M_valueB st w)]) (rest := []) ⟨hx, hb, hml, hown, hts⟩ (c_Co_holds l D cA (qf_Pa_condition w) (qf_M_valueA st w) (qf_M_valueB st w)) (qx_kS hts mw_261 mw_262 mw_35 mw_263 cd_Co_holds ⟨Nat.le_of_ble_eq_true rfl, Nat.le_of_ble_eq_true rfl⟩) (qx_preS hP hD hK hN [] rfl rfl) rfl rfl hl.1 rfl (lv_room (Nat.le_of_ble_eq_true rfl)) d_M_reckon_62 ⟨Nat.zero_le _, Nat.zero_le _⟩) ?_
      refine lv_goto (tgt := 78) hx hb d_M_reckon_65 (by decide) ?_
      refine lv_istore (lv' := [(7, .int (qf_Co_holds (qf_Pa_condition w) (qf_M_valueA st w) (qf_M_valueB st w))), (6, .int 1), (5, .int (qf_M_resultOf w (qf_M_valueA st w) (qf_M_valueB st w))), (4, .int (qf_M_valueB st w)), (3, .int (qf_M_valueA st w)), (2, .int (qf_Pa_kind w)), (0, .ref (ad 0)), (1, .int w)]) hx hb d_M_reckon_78 hl (by decide) rfl (fun ls hl => ?_)
      refine lv_aload_n hx hb d_M_reckon_80 rfl (lv_at hl 6 rfl) ?_
      refine lv_iload_n hx hb d_M_reckon_81 rfl (lv_at hl 7 rfl) ?_
      refine lv_iload hx hb d_M_reckon_82 (lv_at hl 2 rfl) ?_
      refine qx_muZ (T := qf_M_setT st w (qf_M_resultOf w (qf_M_valueA st w) (qf_M_valueB st w))) (Wf := fun zz : qs_M => qw_M ad cA zz) (vf := fun _ => none) (va_runV (As := [.int w, .int (qf_M_resultOf w (qf_M_valueA st w) (qf_M_valueB st w))]) (rest := []) ⟨hx, hb, hml, hown, hts⟩ (c_M_setT l D cA ad st w (qf_M_resultOf w (qf_M_valueA st w) (qf_M_valueB st w))) (qx_kV hts mw_268 mw_270 mw_5 mw_30 mw_271 cd_M_setT ⟨Nat.le_of_ble_eq_true rfl, Nat.le_of_ble_eq_true rfl⟩) (qx_preV (q0 := 0) (ci := 1) (q := (R_M, T_M, 7)) hP hD hK hN [0, 1, 2, 3, 4, 5] rfl rfl rfl rfl) rfl rfl hl.1 rfl (lv_room (Nat.le_of_ble_eq_true rfl)) d_M_reckon_84 ⟨Nat.zero_le _, Nat.zero_le _⟩) hP hD hS [0, 1, 2, 3, 4, 5] rfl rfl [ad 0, ad 1, ad 2, ad 3, ad 4, ad 5] rfl rfl (fun zz1 hzz1 H locs hP hD hS => ?_)
      have hP : va_P D vwCl (qw_M ad cA zz1) H := hP
      have hD : va_D A (qw_M ad cA zz1) := hD
      refine W.eq (g2 := F0 m 87 ls []) rfl ?_
      refine lv_aload_n hx hb d_M_reckon_87 rfl (lv_at hl 6 rfl) ?_
      refine va_get (D := D) (ci := 1) (v := .ref (ad 4)) (C := R_M) (T := T_M) (N := 7) hx hb hts in_M hown hK hP 0 rfl rfl 3 (by decide) (hts (Cond.fieldLink R_M 24 "QueuedFronts$Machine" "flow" "LQueuedFronts$Flow;") mw_101) (fun _ h9 => h9) rfl d_M_reckon_88 ?_
      refine lv_iload hx hb d_M_reckon_91 (lv_at hl 0 rfl) ?_
      refine qx_muZ (T := qf_F_moveOn zz1.2.2.2.1 (qf_Co_holds (qf_Pa_condition w) (qf_M_valueA st w) (qf_M_valueB st w))) (Wf := fun zz : qs_F => qw_M ad cA (qm_M_fl zz1 zz)) (vf := fun _ => none) (va_runV (As := [.int (qf_Co_holds (qf_Pa_condition w) (qf_M_valueA st w) (qf_M_valueB st w))]) (rest := []) ⟨hx, hb, hml, hown, hts⟩ (c_F_moveOn l D cA (ad 4) zz1.2.2.2.1 (qf_Co_holds (qf_Pa_condition w) (qf_M_valueA st w) (qf_M_valueB st w))) (qx_kV hts mw_275 mw_206 mw_207 mw_31 mw_208 cd_F_moveOn ⟨Nat.le_of_ble_eq_true rfl, Nat.le_of_ble_eq_true rfl⟩) (qx_preV (q0 := 4) (ci := 2) (q := (R_F, T_F, 4)) hP hD hK hN [4] rfl rfl rfl rfl) rfl rfl hl.1 rfl (lv_room (Nat.le_of_ble_eq_true rfl)) d_M_reckon_93 ⟨Nat.zero_le _, Nat.zero_le _⟩) hP hD hS [4] rfl rfl [ad 0, ad 1, ad 2, ad 3, ad 4, ad 5] rfl rfl (fun zz2 hzz2 H locs hP hD hS => ?_)
      have hP : va_P D vwCl (qw_M ad cA (qm_M_fl zz1 zz2)) H := hP
      have hD : va_D A (qw_M ad cA (qm_M_fl zz1 zz2)) := hD
      refine W.eq (g2 := F0 m 96 ls []) rfl ?_
      subst hzz2
      subst hzz1
      have e9 : (qm_M_fl (qf_M_setT st w (qf_M_resultOf w (qf_M_valueA st w) (qf_M_valueB st w))) (qf_F_moveOn (qf_M_setT st w (qf_M_resultOf w (qf_M_valueA st w) (qf_M_valueB st w))).2.2.2.1 (qf_Co_holds (qf_Pa_condition w) (qf_M_valueA st w) (qf_M_valueB st w)))) = qf_M_reckon st w := (by unfold qf_M_reckon; rw [if_neg h1, if_pos h2])
      exact W.vret hx hb hr (fun t ht hW => ⟨rfl, (by rw [ht, ← e9]; exact hP), hS.F ht⟩) hS.2.2 d_M_reckon_96
    · skip
      refine lv_iload_n hx hb d_M_reckon_37 rfl (lv_at hl 3 rfl) ?_
      refine lv_bipush (v := 8) hx hb d_M_reckon_38 (by decide) ?_
      refine lv_icmp_ne (tgt := 47) hx hb d_M_reckon_40 (by decide) (fun h3 => ?_) (fun h3 => ?_)
      · skip
        refine lv_iconst (v := 0) hx hb d_M_reckon_47 (by decide) ?_
        refine lv_istore (lv' := [(6, .int 0), (5, .int (qf_M_resultOf w (qf_M_valueA st w) (qf_M_valueB st w))), (4, .int (qf_M_valueB st w)), (3, .int (qf_M_valueA st w)), (2, .int (qf_Pa_kind w)), (0, .ref (ad 0)), (1, .int w)]) hx hb d_M_reckon_48 hl (by decide) rfl (fun ls hl => ?_)
        refine lv_iload hx hb d_M_reckon_50 (lv_at hl 0 rfl) ?_
        refine lv_if_eq (tgt := 68) hx hb d_M_reckon_52 (by decide) (fun _ => ?_) (fun h => False.elim (by revert h; decide))
        refine lv_iload_n hx hb d_M_reckon_68 rfl (lv_at hl 6 rfl) ?_
        refine qx_rd (va_runS (As := [.int w]) (rest := []) ⟨hx, hb, hml, hown, hts⟩ (c_Pa_condition l D cA w) (qx_kS hts mw_258 mw_259 mw_34 mw_260 cd_Pa_condition ⟨Nat.le_of_ble_eq_true rfl, Nat.le_of_ble_eq_true rfl⟩) (qx_preS hP hD hK hN [] rfl rfl) rfl rfl hl.1 rfl (lv_room (Nat.le_of_ble_eq_true rfl)) d_M_reckon_69 ⟨Nat.zero_le _, Nat.zero_le _⟩) ?_
        refine lv_iload hx hb d_M_reckon_72 (lv_at hl 1 rfl) ?_
        refine lv_iconst (v := 0) hx hb d_M_reckon_74 (by decide) ?_
        refine qx_rd (va_runS (As := [.int (qf_Pa_condition w), .int (qf_M_resultOf w (qf_M_valueA st w) (qf_M_valueB st w)), .int 0]) (rest := []) ⟨hx, hb, hml, hown, hts⟩ (c_Co_holds l D cA (qf_Pa_condition w) (qf_M_resultOf w (qf_M_valueA st w) (qf_M_valueB st w)) 0) (qx_kS hts mw_261 mw_262 mw_35 mw_263 cd_Co_holds ⟨Nat.le_of_ble_eq_true rfl, Nat.le_of_ble_eq_true rfl⟩) (qx_preS hP hD hK hN [] rfl rfl) rfl rfl hl.1 rfl (lv_room (Nat.le_of_ble_eq_true rfl)) d_M_reckon_75 ⟨Nat.zero_le _, Nat.zero_le _⟩) ?_
        refine lv_istore (lv' := [(7, .int (qf_Co_holds (qf_Pa_condition w) (qf_M_resultOf w (qf_M_valueA st w) (qf_M_valueB st w)) (0 : Int32))), (6, .int 0), (5, .int (qf_M_resultOf w (qf_M_valueA st w) (qf_M_valueB st w))), (4, .int (qf_M_valueB st w)), (3, .int (qf_M_valueA st w)), (2, .int (qf_Pa_kind w)), (0, .ref (ad 0)), (1, .int w)]) hx hb d_M_reckon_78 hl (by decide) rfl (fun ls hl => ?_)
        refine lv_aload_n hx hb d_M_reckon_80 rfl (lv_at hl 6 rfl) ?_
        refine lv_iload_n hx hb d_M_reckon_81 rfl (lv_at hl 7 rfl) ?_
        refine lv_iload hx hb d_M_reckon_82 (lv_at hl 2 rfl) ?_
        refine qx_muZ (T := qf_M_setT st w (qf_M_resultOf w (qf_M_valueA st w) (qf_M_valueB st w))) (Wf := fun zz : qs_M => qw_M ad cA zz) (vf := fun _ => none) (va_runV (As := [.int w, .int (qf_M_resultOf w (qf_M_valueA st w) (qf_M_valueB st w))]) (rest := []) ⟨hx, hb, hml, hown, hts⟩ (c_M_setT l D cA ad st w (qf_M_resultOf w (qf_M_valueA st w) (qf_M_valueB st w))) (qx_kV hts mw_268 mw_270 mw_5 mw_30 mw_271 cd_M_setT ⟨Nat.le_of_ble_eq_true rfl, Nat.le_of_ble_eq_true rfl⟩) (qx_preV (q0 := 0) (ci := 1) (q := (R_M, T_M, 7)) hP hD hK hN [0, 1, 2, 3, 4, 5] rfl rfl rfl rfl) rfl rfl hl.1 rfl (lv_room (Nat.le_of_ble_eq_true rfl)) d_M_reckon_84 ⟨Nat.zero_le _, Nat.zero_le _⟩) hP hD hS [0, 1, 2, 3, 4, 5] rfl rfl [ad 0, ad 1, ad 2, ad 3, ad 4, ad 5] rfl rfl (fun zz1 hzz1 H locs hP hD hS => ?_)
        have hP : va_P D vwCl (qw_M ad cA zz1) H := hP
        have hD : va_D A (qw_M ad cA zz1) := hD
        refine W.eq (g2 := F0 m 87 ls []) rfl ?_
        refine lv_aload_n hx hb d_M_reckon_87 rfl (lv_at hl 6 rfl) ?_
        refine va_get (D := D) (ci := 1) (v := .ref (ad 4)) (C := R_M) (T := T_M) (N := 7) hx hb hts in_M hown hK hP 0 rfl rfl 3 (by decide) (hts (Cond.fieldLink R_M 24 "QueuedFronts$Machine" "flow" "LQueuedFronts$Flow;") mw_101) (fun _ h9 => h9) rfl d_M_reckon_88 ?_
        refine lv_iload hx hb d_M_reckon_91 (lv_at hl 0 rfl) ?_
        refine qx_muZ (T := qf_F_moveOn zz1.2.2.2.1 (qf_Co_holds (qf_Pa_condition w) (qf_M_resultOf w (qf_M_valueA st w) (qf_M_valueB st w)) (0 : Int32))) (Wf := fun zz : qs_F => qw_M ad cA (qm_M_fl zz1 zz)) (vf := fun _ => none) (va_runV (As := [.int (qf_Co_holds (qf_Pa_condition w) (qf_M_resultOf w (qf_M_valueA st w) (qf_M_valueB st w)) (0 : Int32))]) (rest := []) ⟨hx, hb, hml, hown, hts⟩ (c_F_moveOn l D cA (ad 4) zz1.2.2.2.1 (qf_Co_holds (qf_Pa_condition w) (qf_M_resultOf w (qf_M_valueA st w) (qf_M_valueB st w)) (0 : Int32))) (qx_kV hts mw_275 mw_206 mw_207 mw_31 mw_208 cd_F_moveOn ⟨Nat.le_of_ble_eq_true rfl, Nat.le_of_ble_eq_true rfl⟩) (qx_preV (q0 := 4) (ci := 2) (q := (R_F, T_F, 4)) hP hD hK hN [4] rfl rfl rfl rfl) rfl rfl hl.1 rfl (lv_room (Nat.le_of_ble_eq_true rfl)) d_M_reckon_93 ⟨Nat.zero_le _, Nat.zero_le _⟩) hP hD hS [4] rfl rfl [ad 0, ad 1, ad 2, ad 3, ad 4, ad 5] rfl rfl (fun zz2 hzz2 H locs hP hD hS => ?_)
        have hP : va_P D vwCl (qw_M ad cA (qm_M_fl zz1 zz2)) H := hP
        have hD : va_D A (qw_M ad cA (qm_M_fl zz1 zz2)) := hD
        refine W.eq (g2 := F0 m 96 ls []) rfl ?_
        subst hzz2
        subst hzz1
        have e9 : (qm_M_fl (qf_M_setT st w (qf_M_resultOf w (qf_M_valueA st w) (qf_M_valueB st w))) (qf_F_moveOn (qf_M_setT st w (qf_M_resultOf w (qf_M_valueA st w) (qf_M_valueB st w))).2.2.2.1 (qf_Co_holds (qf_Pa_condition w) (qf_M_resultOf w (qf_M_valueA st w) (qf_M_valueB st w)) (0 : Int32)))) = qf_M_reckon st w := (by unfold qf_M_reckon; rw [if_neg h1, if_neg h2, if_neg h3])
        exact W.vret hx hb hr (fun t ht hW => ⟨rfl, (by rw [ht, ← e9]; exact hP), hS.F ht⟩) hS.2.2 d_M_reckon_96
      · skip
        refine lv_iconst (v := 1) hx hb d_M_reckon_43 (by decide) ?_
        refine lv_goto (tgt := 48) hx hb d_M_reckon_44 (by decide) ?_
        refine lv_istore (lv' := [(6, .int 1), (5, .int (qf_M_resultOf w (qf_M_valueA st w) (qf_M_valueB st w))), (4, .int (qf_M_valueB st w)), (3, .int (qf_M_valueA st w)), (2, .int (qf_Pa_kind w)), (0, .ref (ad 0)), (1, .int w)]) hx hb d_M_reckon_48 hl (by decide) rfl (fun ls hl => ?_)
        refine lv_iload hx hb d_M_reckon_50 (lv_at hl 0 rfl) ?_
        refine lv_if_eq (tgt := 68) hx hb d_M_reckon_52 (by decide) (fun h => False.elim (by revert h; decide)) (fun _ => ?_)
        refine lv_iload_n hx hb d_M_reckon_55 rfl (lv_at hl 6 rfl) ?_
        refine qx_rd (va_runS (As := [.int w]) (rest := []) ⟨hx, hb, hml, hown, hts⟩ (c_Pa_condition l D cA w) (qx_kS hts mw_258 mw_259 mw_34 mw_260 cd_Pa_condition ⟨Nat.le_of_ble_eq_true rfl, Nat.le_of_ble_eq_true rfl⟩) (qx_preS hP hD hK hN [] rfl rfl) rfl rfl hl.1 rfl (lv_room (Nat.le_of_ble_eq_true rfl)) d_M_reckon_56 ⟨Nat.zero_le _, Nat.zero_le _⟩) ?_
        refine lv_iload_n hx hb d_M_reckon_59 rfl (lv_at hl 3 rfl) ?_
        refine lv_iload hx hb d_M_reckon_60 (lv_at hl 2 rfl) ?_
        refine qx_rd (va_runS (As := [.int (qf_Pa_condition w), .int (qf_M_valueA st w), .int (qf_M_valueB st w)]) (rest := []) ⟨hx, hb, hml, hown, hts⟩ (c_Co_holds l D cA (qf_Pa_condition w) (qf_M_valueA st w) (qf_M_valueB st w)) (qx_kS hts mw_261 mw_262 mw_35 mw_263 cd_Co_holds ⟨Nat.le_of_ble_eq_true rfl, Nat.le_of_ble_eq_true rfl⟩) (qx_preS hP hD hK hN [] rfl rfl) rfl rfl hl.1 rfl (lv_room (Nat.le_of_ble_eq_true rfl)) d_M_reckon_62 ⟨Nat.zero_le _, Nat.zero_le _⟩) ?_
        refine lv_goto (tgt := 78) hx hb d_M_reckon_65 (by decide) ?_
        refine lv_istore (lv' := [(7, .int (qf_Co_holds (qf_Pa_condition w) (qf_M_valueA st w) (qf_M_valueB st w))), (6, .int 1), (5, .int (qf_M_resultOf w (qf_M_valueA st w) (qf_M_valueB st w))), (4, .int (qf_M_valueB st w)), (3, .int (qf_M_valueA st w)), (2, .int (qf_Pa_kind w)), (0, .ref (ad 0)), (1, .int w)]) hx hb d_M_reckon_78 hl (by decide) rfl (fun ls hl => ?_)
        refine lv_aload_n hx hb d_M_reckon_80 rfl (lv_at hl 6 rfl) ?_
        refine lv_iload_n hx hb d_M_reckon_81 rfl (lv_at hl 7 rfl) ?_
        refine lv_iload hx hb d_M_reckon_82 (lv_at hl 2 rfl) ?_
        refine qx_muZ (T := qf_M_setT st w (qf_M_resultOf w (qf_M_valueA st w) (qf_M_valueB st w))) (Wf := fun zz : qs_M => qw_M ad cA zz) (vf := fun _ => none) (va_runV (As := [.int w, .int (qf_M_resultOf w (qf_M_valueA st w) (qf_M_valueB st w))]) (rest := []) ⟨hx, hb, hml, hown, hts⟩ (c_M_setT l D cA ad st w (qf_M_resultOf w (qf_M_valueA st w) (qf_M_valueB st w))) (qx_kV hts mw_268 mw_270 mw_5 mw_30 mw_271 cd_M_setT ⟨Nat.le_of_ble_eq_true rfl, Nat.le_of_ble_eq_true rfl⟩) (qx_preV (q0 := 0) (ci := 1) (q := (R_M, T_M, 7)) hP hD hK hN [0, 1, 2, 3, 4, 5] rfl rfl rfl rfl) rfl rfl hl.1 rfl (lv_room (Nat.le_of_ble_eq_true rfl)) d_M_reckon_84 ⟨Nat.zero_le _, Nat.zero_le _⟩) hP hD hS [0, 1, 2, 3, 4, 5] rfl rfl [ad 0, ad 1, ad 2, ad 3, ad 4, ad 5] rfl rfl (fun zz1 hzz1 H locs hP hD hS => ?_)
        have hP : va_P D vwCl (qw_M ad cA zz1) H := hP
        have hD : va_D A (qw_M ad cA zz1) := hD
        refine W.eq (g2 := F0 m 87 ls []) rfl ?_
        refine lv_aload_n hx hb d_M_reckon_87 rfl (lv_at hl 6 rfl) ?_
        refine va_get (D := D) (ci := 1) (v := .ref (ad 4)) (C := R_M) (T := T_M) (N := 7) hx hb hts in_M hown hK hP 0 rfl rfl 3 (by decide) (hts (Cond.fieldLink R_M 24 "QueuedFronts$Machine" "flow" "LQueuedFronts$Flow;") mw_101) (fun _ h9 => h9) rfl d_M_reckon_88 ?_
        refine lv_iload hx hb d_M_reckon_91 (lv_at hl 0 rfl) ?_
        refine qx_muZ (T := qf_F_moveOn zz1.2.2.2.1 (qf_Co_holds (qf_Pa_condition w) (qf_M_valueA st w) (qf_M_valueB st w))) (Wf := fun zz : qs_F => qw_M ad cA (qm_M_fl zz1 zz)) (vf := fun _ => none) (va_runV (As := [.int (qf_Co_holds (qf_Pa_condition w) (qf_M_valueA st w) (qf_M_valueB st w))]) (rest := []) ⟨hx, hb, hml, hown, hts⟩ (c_F_moveOn l D cA (ad 4) zz1.2.2.2.1 (qf_Co_holds (qf_Pa_condition w) (qf_M_valueA st w) (qf_M_valueB st w))) (qx_kV hts mw_275 mw_206 mw_207 mw_31 mw_208 cd_F_moveOn ⟨Nat.le_of_ble_eq_true rfl, Nat.le_of_ble_eq_true rfl⟩) (qx_preV (q0 := 4) (ci := 2) (q := (R_F, T_F, 4)) hP hD hK hN [4] rfl rfl rfl rfl) rfl rfl hl.1 rfl (lv_room (Nat.le_of_ble_eq_true rfl)) d_M_reckon_93 ⟨Nat.zero_le _, Nat.zero_le _⟩) hP hD hS [4] rfl rfl [ad 0, ad 1, ad 2, ad 3, ad 4, ad 5] rfl rfl (fun zz2 hzz2 H locs hP hD hS => ?_)
        have hP : va_P D vwCl (qw_M ad cA (qm_M_fl zz1 zz2)) H := hP
        have hD : va_D A (qw_M ad cA (qm_M_fl zz1 zz2)) := hD
        refine W.eq (g2 := F0 m 96 ls []) rfl ?_
        subst hzz2
        subst hzz1
        have e9 : (qm_M_fl (qf_M_setT st w (qf_M_resultOf w (qf_M_valueA st w) (qf_M_valueB st w))) (qf_F_moveOn (qf_M_setT st w (qf_M_resultOf w (qf_M_valueA st w) (qf_M_valueB st w))).2.2.2.1 (qf_Co_holds (qf_Pa_condition w) (qf_M_valueA st w) (qf_M_valueB st w)))) = qf_M_reckon st w := (by unfold qf_M_reckon; rw [if_neg h1, if_neg h2, if_pos h3])
        exact W.vret hx hb hr (fun t ht hW => ⟨rfl, (by rw [ht, ← e9]; exact hP), hS.F ht⟩) hS.2.2 d_M_reckon_96
end
section
def qf_M_branch (st : qs_M) (w : Int32) : qs_M :=
  if qf_M_takesBranch st w (qf_M_valueT st w + qf_M_valueA st w) = 0 then (if qf_Pa_kind w = 13 then (qm_M_fl (qf_M_setT st w (qf_Pl_offsetOf (qf_Pl_behind st.2.2.2.1.2.1))) (qf_F_moveOnTo (qf_M_setT st w (qf_Pl_offsetOf (qf_Pl_behind st.2.2.2.1.2.1))).2.2.2.1 (qf_Pl_behind st.2.2.2.1.2.1) (qf_M_branchNullifies w (qf_M_takesBranch st w (qf_M_valueT st w + qf_M_valueA st w)))))
    else if qf_Pa_kind w = 15 then (qm_M_fl (qf_M_setT st w (qf_M_valueT st w + qf_M_valueA st w)) (qf_F_moveOnTo (qf_M_setT st w (qf_M_valueT st w + qf_M_valueA st w)).2.2.2.1 (qf_Pl_behind st.2.2.2.1.2.1) (qf_M_branchNullifies w (qf_M_takesBranch st w (qf_M_valueT st w + qf_M_valueA st w)))))
    else (qm_M_fl st (qf_F_moveOnTo st.2.2.2.1 (qf_Pl_behind st.2.2.2.1.2.1) (qf_M_branchNullifies w (qf_M_takesBranch st w (qf_M_valueT st w + qf_M_valueA st w))))))
  else if qf_Pa_kind w = 13 then (qm_M_fl (qf_M_setT st w (qf_Pl_offsetOf (qf_Pl_behind st.2.2.2.1.2.1))) (qf_F_moveOnTo (qf_M_setT st w (qf_Pl_offsetOf (qf_Pl_behind st.2.2.2.1.2.1))).2.2.2.1 (qf_M_targetOf st w) (qf_M_branchNullifies w (qf_M_takesBranch st w (qf_M_valueT st w + qf_M_valueA st w)))))
  else if qf_Pa_kind w = 15 then (qm_M_fl (qf_M_setT st w (qf_M_valueT st w + qf_M_valueA st w)) (qf_F_moveOnTo (qf_M_setT st w (qf_M_valueT st w + qf_M_valueA st w)).2.2.2.1 (qf_M_targetOf st w) (qf_M_branchNullifies w (qf_M_takesBranch st w (qf_M_valueT st w + qf_M_valueA st w)))))
  else (qm_M_fl st (qf_F_moveOnTo st.2.2.2.1 (qf_M_targetOf st w) (qf_M_branchNullifies w (qf_M_takesBranch st w (qf_M_valueT st w + qf_M_valueA st w)))))
set_option maxHeartbeats 4000000 in
set_option maxRecDepth 100000 in
theorem c_M_branch (l : Launch) (D : va_G) (cA : ClassId) (ad : Nat → Nat) (st : qs_M) (w : Int32) : Met l y_M_branch (Cond.code y_M_branch b_M_branch 6 none :: qx_T) ({ frames := 3, cells := 0, slots := 0, locals := 64 }) (qx_Pc D vwCl [(cA, .int)] (qw_M ad cA st) [.ref (ad 0), .int w]) (qx_Q D vwCl (qw_M ad cA (qf_M_branch st w)) (qx_ad (qw_M ad cA st)) none) 0 0 (qx_ad (qw_M ad cA st)) := by
  refine Met.ofW (cc := b_M_branch) (maxL := 6) (ret := none) (by decide) rfl ?_
  intro p e s m args below meth c s₁ B hml hv
  obtain ⟨rfl, hP, hK, hN, hD0⟩ := hv
  have hx := B.exec
  have hb := B.bytes
  have hr := B.returns
  have hts0 := atoms_spec (ws := Cond.code y_M_branch b_M_branch 6 none :: qx_T) B.pre
  have hts := fun w h => hts0 w (List.mem_cons_of_mem _ h)
  have hown : s.vm.findClass R_M = some m.cls := findClass_of_methodNamed B.named
  have hlocks := B.notSynchronized
  have hD : va_D (qx_ad (qw_M ad cA st)) (qw_M ad cA st) := ⟨hD0.1, fun k q hk => ⟨k, q.2, hk⟩⟩
  generalize hAe : qx_ad (qw_M ad cA st) = A at hD ⊢
  have hS : va_S A s.heap s.heap [] := va_S.rf
  have hl := lv_entry ([.ref (ad 0), .int w]) (n := 6) (Nat.le_of_ble_eq_true rfl)
  rw [lg_entry_eq]
  generalize (lg_sl ([.ref (ad 0), .int w]) ++ List.replicate (6 - (lg_sl ([.ref (ad 0), .int w])).length) Slot.unset).toArray = ls at hl ⊢
  have hl : lv_has ls 6 [(0, .ref (ad 0)), (1, .int w)] := hl
  refine lv_iload_n hx hb d_M_branch_0 rfl (lv_at hl 1 rfl) ?_
  refine qx_rd (va_runS (As := [.int w]) (rest := []) ⟨hx, hb, hml, hown, hts⟩ (c_Pa_kind l D cA w) (qx_kS hts mw_217 mw_218 mw_34 mw_219 cd_Pa_kind ⟨Nat.le_of_ble_eq_true rfl, Nat.le_of_ble_eq_true rfl⟩) (qx_preS hP hD hK hN [] rfl rfl) rfl rfl hl.1 rfl (lv_room (Nat.le_of_ble_eq_true rfl)) d_M_branch_1 ⟨Nat.zero_le _, Nat.zero_le _⟩) ?_
  refine lv_istore_n (lv' := [(2, .int (qf_Pa_kind w)), (0, .ref (ad 0)), (1, .int w)]) hx hb d_M_branch_4 rfl hl (by decide) rfl (fun ls hl => ?_)
  refine lv_aload_n hx hb d_M_branch_5 rfl (lv_at hl 1 rfl) ?_
  refine lv_iload_n hx hb d_M_branch_6 rfl (lv_at hl 2 rfl) ?_
  refine qx_rd (va_runV (As := [.int w]) (rest := []) ⟨hx, hb, hml, hown, hts⟩ (c_M_valueT l D cA ad st w) (qx_kV hts mw_288 mw_290 mw_8 mw_30 mw_291 cd_M_valueT ⟨Nat.le_of_ble_eq_true rfl, Nat.le_of_ble_eq_true rfl⟩) (qx_preV (q0 := 0) (ci := 1) (q := (R_M, T_M, 7)) hP hD hK hN [0, 1, 2, 3, 4, 5] rfl rfl rfl rfl) rfl rfl hl.1 rfl (lv_room (Nat.le_of_ble_eq_true rfl)) d_M_branch_7 ⟨Nat.zero_le _, Nat.zero_le _⟩) ?_
  refine lv_aload_n hx hb d_M_branch_10 rfl (lv_at hl 1 rfl) ?_
  refine lv_iload_n hx hb d_M_branch_11 rfl (lv_at hl 2 rfl) ?_
  refine qx_rd (va_runV (As := [.int w]) (rest := [.int (qf_M_valueT st w)]) ⟨hx, hb, hml, hown, hts⟩ (c_M_valueA l D cA ad st w) (qx_kV hts mw_220 mw_222 mw_2 mw_30 mw_223 cd_M_valueA ⟨Nat.le_of_ble_eq_true rfl, Nat.le_of_ble_eq_true rfl⟩) (qx_preV (q0 := 0) (ci := 1) (q := (R_M, T_M, 7)) hP hD hK hN [0, 1, 2, 3, 4, 5] rfl rfl rfl rfl) rfl rfl hl.1 rfl (lv_room (Nat.le_of_ble_eq_true rfl)) d_M_branch_12 ⟨Nat.zero_le _, Nat.zero_le _⟩) ?_
  refine lv_iadd hx hb d_M_branch_15 ?_
  refine lv_istore_n (lv' := [(3, .int (qf_M_valueT st w + qf_M_valueA st w)), (2, .int (qf_Pa_kind w)), (0, .ref (ad 0)), (1, .int w)]) hx hb d_M_branch_16 rfl hl (by decide) rfl (fun ls hl => ?_)
  refine lv_aload_n hx hb d_M_branch_17 rfl (lv_at hl 2 rfl) ?_
  refine lv_iload_n hx hb d_M_branch_18 rfl (lv_at hl 3 rfl) ?_
  refine lv_iload_n hx hb d_M_branch_19 rfl (lv_at hl 0 rfl) ?_
  refine qx_rd (va_runV (As := [.int w, .int (qf_M_valueT st w + qf_M_valueA st w)]) (rest := []) ⟨hx, hb, hml, hown, hts⟩ (c_M_takesBranch l D cA ad st w (qf_M_valueT st w + qf_M_valueA st w)) (qx_kV hts mw_296 mw_298 mw_10 mw_30 mw_299 cd_M_takesBranch ⟨Nat.le_of_ble_eq_true rfl, Nat.le_of_ble_eq_true rfl⟩) (qx_preV (q0 := 0) (ci := 1) (q := (R_M, T_M, 7)) hP hD hK hN [0, 1, 2, 3, 4, 5] rfl rfl rfl rfl) rfl rfl hl.1 rfl (lv_room (Nat.le_of_ble_eq_true rfl)) d_M_branch_20 ⟨Nat.zero_le _, Nat.zero_le _⟩) ?_
  refine lv_istore (lv' := [(4, .int (qf_M_takesBranch st w (qf_M_valueT st w + qf_M_valueA st w))), (3, .int (qf_M_valueT st w + qf_M_valueA st w)), (2, .int (qf_Pa_kind w)), (0, .ref (ad 0)), (1, .int w)]) hx hb d_M_branch_23 hl (by decide) rfl (fun ls hl => ?_)
  refine lv_iload hx hb d_M_branch_25 (lv_at hl 0 rfl) ?_
  refine lv_if_eq (tgt := 38) hx hb d_M_branch_27 (by decide) (fun h1 => ?_) (fun h1 => ?_)
  · skip
    refine lv_aload_n hx hb d_M_branch_38 rfl (lv_at hl 3 rfl) ?_
    refine va_get (D := D) (ci := 1) (v := .ref (ad 4)) (C := R_M) (T := T_M) (N := 7) hx hb hts in_M hown hK hP 0 rfl rfl 3 (by decide) (hts (Cond.fieldLink R_M 24 "QueuedFronts$Machine" "flow" "LQueuedFronts$Flow;") mw_101) (fun _ h9 => h9) rfl d_M_branch_39 ?_
    refine va_get (D := D) (ci := 2) (v := .int st.2.2.2.1.2.1) (C := R_F) (T := T_F) (N := 4) hx hb hts in_F hown hK hP 4 rfl rfl 1 (by decide) (hts (Cond.fieldLink R_M 139 "QueuedFronts$Flow" "back" "I") mw_62) (fun _ h9 => h9) rfl d_M_branch_42 ?_
    refine qx_rd (va_runS (As := [.int st.2.2.2.1.2.1]) (rest := []) ⟨hx, hb, hml, hown, hts⟩ (c_Pl_behind l D cA st.2.2.2.1.2.1) (qx_kS hts mw_306 mw_84 mw_32 mw_85 cd_Pl_behind ⟨Nat.le_of_ble_eq_true rfl, Nat.le_of_ble_eq_true rfl⟩) (qx_preS hP hD hK hN [] rfl rfl) rfl rfl hl.1 rfl (lv_room (Nat.le_of_ble_eq_true rfl)) d_M_branch_45 ⟨Nat.zero_le _, Nat.zero_le _⟩) ?_
    refine lv_istore (lv' := [(5, .int (qf_Pl_behind st.2.2.2.1.2.1)), (4, .int (qf_M_takesBranch st w (qf_M_valueT st w + qf_M_valueA st w))), (3, .int (qf_M_valueT st w + qf_M_valueA st w)), (2, .int (qf_Pa_kind w)), (0, .ref (ad 0)), (1, .int w)]) hx hb d_M_branch_48 hl (by decide) rfl (fun ls hl => ?_)
    refine lv_iload_n hx hb d_M_branch_50 rfl (lv_at hl 3 rfl) ?_
    refine lv_bipush (v := 13) hx hb d_M_branch_51 (by decide) ?_
    refine lv_icmp_ne (tgt := 77) hx hb d_M_branch_53 (by decide) (fun h2 => ?_) (fun h2 => ?_)
    · skip
      refine lv_iload_n hx hb d_M_branch_77 rfl (lv_at hl 3 rfl) ?_
      refine lv_bipush (v := 15) hx hb d_M_branch_78 (by decide) ?_
      refine lv_icmp_ne (tgt := 89) hx hb d_M_branch_80 (by decide) (fun h3 => ?_) (fun h3 => ?_)
      · skip
        refine lv_aload_n hx hb d_M_branch_89 rfl (lv_at hl 4 rfl) ?_
        refine va_get (D := D) (ci := 1) (v := .ref (ad 4)) (C := R_M) (T := T_M) (N := 7) hx hb hts in_M hown hK hP 0 rfl rfl 3 (by decide) (hts (Cond.fieldLink R_M 24 "QueuedFronts$Machine" "flow" "LQueuedFronts$Flow;") mw_101) (fun _ h9 => h9) rfl d_M_branch_90 ?_
        refine lv_iload hx hb d_M_branch_93 (lv_at hl 0 rfl) ?_
        refine lv_iload_n hx hb d_M_branch_95 rfl (lv_at hl 5 rfl) ?_
        refine lv_iload hx hb d_M_branch_96 (lv_at hl 1 rfl) ?_
        refine qx_rd (va_runS (As := [.int w, .int (qf_M_takesBranch st w (qf_M_valueT st w + qf_M_valueA st w))]) (rest := [.int (qf_Pl_behind st.2.2.2.1.2.1), .ref (ad 4)]) ⟨hx, hb, hml, hown, hts⟩ (c_M_branchNullifies l D cA w (qf_M_takesBranch st w (qf_M_valueT st w + qf_M_valueA st w))) (qx_kS hts mw_307 mw_308 mw_30 mw_309 cd_M_branchNullifies ⟨Nat.le_of_ble_eq_true rfl, Nat.le_of_ble_eq_true rfl⟩) (qx_preS hP hD hK hN [] rfl rfl) rfl rfl hl.1 rfl (lv_room (Nat.le_of_ble_eq_true rfl)) d_M_branch_98 ⟨Nat.zero_le _, Nat.zero_le _⟩) ?_
        refine qx_muZ (T := qf_F_moveOnTo st.2.2.2.1 (qf_Pl_behind st.2.2.2.1.2.1) (qf_M_branchNullifies w (qf_M_takesBranch st w (qf_M_valueT st w + qf_M_valueA st w)))) (Wf := fun zz : qs_F => qw_M ad cA (qm_M_fl st zz)) (vf := fun _ => none) (va_runV (As := [.int (qf_Pl_behind st.2.2.2.1.2.1), .int (qf_M_branchNullifies w (qf_M_takesBranch st w (qf_M_valueT st w + qf_M_valueA st w)))]) (rest := []) ⟨hx, hb, hml, hown, hts⟩ (c_F_moveOnTo l D cA (ad 4) st.2.2.2.1 (qf_Pl_behind st.2.2.2.1.2.1) (qf_M_branchNullifies w (qf_M_takesBranch st w (qf_M_valueT st w + qf_M_valueA st w)))) (qx_kV hts mw_310 mw_210 mw_211 mw_31 mw_212 cd_F_moveOnTo ⟨Nat.le_of_ble_eq_true rfl, Nat.le_of_ble_eq_true rfl⟩) (qx_preV (q0 := 4) (ci := 2) (q := (R_F, T_F, 4)) hP hD hK hN [4] rfl rfl rfl rfl) rfl rfl hl.1 rfl (lv_room (Nat.le_of_ble_eq_true rfl)) d_M_branch_101 ⟨Nat.zero_le _, Nat.zero_le _⟩) hP hD hS [4] rfl rfl [ad 0, ad 1, ad 2, ad 3, ad 4, ad 5] rfl rfl (fun zz1 hzz1 H locs hP hD hS => ?_)
        have hP : va_P D vwCl (qw_M ad cA (qm_M_fl st zz1)) H := hP
        have hD : va_D A (qw_M ad cA (qm_M_fl st zz1)) := hD
        refine W.eq (g2 := F0 m 104 ls []) rfl ?_
        subst hzz1
        have e9 : (qm_M_fl st (qf_F_moveOnTo st.2.2.2.1 (qf_Pl_behind st.2.2.2.1.2.1) (qf_M_branchNullifies w (qf_M_takesBranch st w (qf_M_valueT st w + qf_M_valueA st w))))) = qf_M_branch st w := (by unfold qf_M_branch; rw [if_pos h1, if_neg h2, if_neg h3])
        exact W.vret hx hb hr (fun t ht hW => ⟨rfl, (by rw [ht, ← e9]; exact hP), hS.F ht⟩) hS.2.2 d_M_branch_104
      · skip
        refine lv_aload_n hx hb d_M_branch_83 rfl (lv_at hl 4 rfl) ?_
        refine lv_iload_n hx hb d_M_branch_84 rfl (lv_at hl 5 rfl) ?_
        refine lv_iload_n hx hb d_M_branch_85 rfl (lv_at hl 2 rfl) ?_
        refine qx_muZ (T := qf_M_setT st w (qf_M_valueT st w + qf_M_valueA st w)) (Wf := fun zz : qs_M => qw_M ad cA zz) (vf := fun _ => none) (va_runV (As := [.int w, .int (qf_M_valueT st w + qf_M_valueA st w)]) (rest := []) ⟨hx, hb, hml, hown, hts⟩ (c_M_setT l D cA ad st w (qf_M_valueT st w + qf_M_valueA st w)) (qx_kV hts mw_268 mw_270 mw_5 mw_30 mw_271 cd_M_setT ⟨Nat.le_of_ble_eq_true rfl, Nat.le_of_ble_eq_true rfl⟩) (qx_preV (q0 := 0) (ci := 1) (q := (R_M, T_M, 7)) hP hD hK hN [0, 1, 2, 3, 4, 5] rfl rfl rfl rfl) rfl rfl hl.1 rfl (lv_room (Nat.le_of_ble_eq_true rfl)) d_M_branch_86 ⟨Nat.zero_le _, Nat.zero_le _⟩) hP hD hS [0, 1, 2, 3, 4, 5] rfl rfl [ad 0, ad 1, ad 2, ad 3, ad 4, ad 5] rfl rfl (fun zz1 hzz1 H locs hP hD hS => ?_)
        have hP : va_P D vwCl (qw_M ad cA zz1) H := hP
        have hD : va_D A (qw_M ad cA zz1) := hD
        refine W.eq (g2 := F0 m 89 ls []) rfl ?_
        refine lv_aload_n hx hb d_M_branch_89 rfl (lv_at hl 4 rfl) ?_
        refine va_get (D := D) (ci := 1) (v := .ref (ad 4)) (C := R_M) (T := T_M) (N := 7) hx hb hts in_M hown hK hP 0 rfl rfl 3 (by decide) (hts (Cond.fieldLink R_M 24 "QueuedFronts$Machine" "flow" "LQueuedFronts$Flow;") mw_101) (fun _ h9 => h9) rfl d_M_branch_90 ?_
        refine lv_iload hx hb d_M_branch_93 (lv_at hl 0 rfl) ?_
        refine lv_iload_n hx hb d_M_branch_95 rfl (lv_at hl 5 rfl) ?_
        refine lv_iload hx hb d_M_branch_96 (lv_at hl 1 rfl) ?_
        refine qx_rd (va_runS (As := [.int w, .int (qf_M_takesBranch st w (qf_M_valueT st w + qf_M_valueA st w))]) (rest := [.int (qf_Pl_behind st.2.2.2.1.2.1), .ref (ad 4)]) ⟨hx, hb, hml, hown, hts⟩ (c_M_branchNullifies l D cA w (qf_M_takesBranch st w (qf_M_valueT st w + qf_M_valueA st w))) (qx_kS hts mw_307 mw_308 mw_30 mw_309 cd_M_branchNullifies ⟨Nat.le_of_ble_eq_true rfl, Nat.le_of_ble_eq_true rfl⟩) (qx_preS hP hD hK hN [] rfl rfl) rfl rfl hl.1 rfl (lv_room (Nat.le_of_ble_eq_true rfl)) d_M_branch_98 ⟨Nat.zero_le _, Nat.zero_le _⟩) ?_
        refine qx_muZ (T := qf_F_moveOnTo zz1.2.2.2.1 (qf_Pl_behind st.2.2.2.1.2.1) (qf_M_branchNullifies w (qf_M_takesBranch st w (qf_M_valueT st w + qf_M_valueA st w)))) (Wf := fun zz : qs_F => qw_M ad cA (qm_M_fl zz1 zz)) (vf := fun _ => none) (va_runV (As := [.int (qf_Pl_behind st.2.2.2.1.2.1), .int (qf_M_branchNullifies w (qf_M_takesBranch st w (qf_M_valueT st w + qf_M_valueA st w)))]) (rest := []) ⟨hx, hb, hml, hown, hts⟩ (c_F_moveOnTo l D cA (ad 4) zz1.2.2.2.1 (qf_Pl_behind st.2.2.2.1.2.1) (qf_M_branchNullifies w (qf_M_takesBranch st w (qf_M_valueT st w + qf_M_valueA st w)))) (qx_kV hts mw_310 mw_210 mw_211 mw_31 mw_212 cd_F_moveOnTo ⟨Nat.le_of_ble_eq_true rfl, Nat.le_of_ble_eq_true rfl⟩) (qx_preV (q0 := 4) (ci := 2) (q := (R_F, T_F, 4)) hP hD hK hN [4] rfl rfl rfl rfl) rfl rfl hl.1 rfl (lv_room (Nat.le_of_ble_eq_true rfl)) d_M_branch_101 ⟨Nat.zero_le _, Nat.zero_le _⟩) hP hD hS [4] rfl rfl [ad 0, ad 1, ad 2, ad 3, ad 4, ad 5] rfl rfl (fun zz2 hzz2 H locs hP hD hS => ?_)
        have hP : va_P D vwCl (qw_M ad cA (qm_M_fl zz1 zz2)) H := hP
        have hD : va_D A (qw_M ad cA (qm_M_fl zz1 zz2)) := hD
        refine W.eq (g2 := F0 m 104 ls []) rfl ?_
        subst hzz2
        subst hzz1
        have e9 : (qm_M_fl (qf_M_setT st w (qf_M_valueT st w + qf_M_valueA st w)) (qf_F_moveOnTo (qf_M_setT st w (qf_M_valueT st w + qf_M_valueA st w)).2.2.2.1 (qf_Pl_behind st.2.2.2.1.2.1) (qf_M_branchNullifies w (qf_M_takesBranch st w (qf_M_valueT st w + qf_M_valueA st w))))) = qf_M_branch st w := (by unfold qf_M_branch; rw [if_pos h1, if_neg h2, if_pos h3])
        exact W.vret hx hb hr (fun t ht hW => ⟨rfl, (by rw [ht, ← e9]; exact hP), hS.F ht⟩) hS.2.2 d_M_branch_104
    · skip
      refine lv_aload_n hx hb d_M_branch_56 rfl (lv_at hl 4 rfl) ?_
      refine lv_iload_n hx hb d_M_branch_57 rfl (lv_at hl 5 rfl) ?_
      refine lv_aload_n hx hb d_M_branch_58 rfl (lv_at hl 4 rfl) ?_
      refine va_get (D := D) (ci := 1) (v := .ref (ad 4)) (C := R_M) (T := T_M) (N := 7) hx hb hts in_M hown hK hP 0 rfl rfl 3 (by decide) (hts (Cond.fieldLink R_M 24 "QueuedFronts$Machine" "flow" "LQueuedFronts$Flow;") mw_101) (fun _ h9 => h9) rfl d_M_branch_59 ?_
      refine va_get (D := D) (ci := 2) (v := .int st.2.2.2.1.2.1) (C := R_F) (T := T_F) (N := 4) hx hb hts in_F hown hK hP 4 rfl rfl 1 (by decide) (hts (Cond.fieldLink R_M 139 "QueuedFronts$Flow" "back" "I") mw_62) (fun _ h9 => h9) rfl d_M_branch_62 ?_
      refine qx_rd (va_runS (As := [.int st.2.2.2.1.2.1]) (rest := [.int w, .ref (ad 0)]) ⟨hx, hb, hml, hown, hts⟩ (c_Pl_behind l D cA st.2.2.2.1.2.1) (qx_kS hts mw_306 mw_84 mw_32 mw_85 cd_Pl_behind ⟨Nat.le_of_ble_eq_true rfl, Nat.le_of_ble_eq_true rfl⟩) (qx_preS hP hD hK hN [] rfl rfl) rfl rfl hl.1 rfl (lv_room (Nat.le_of_ble_eq_true rfl)) d_M_branch_65 ⟨Nat.zero_le _, Nat.zero_le _⟩) ?_
      refine qx_rd (va_runS (As := [.int (qf_Pl_behind st.2.2.2.1.2.1)]) (rest := [.int w, .ref (ad 0)]) ⟨hx, hb, hml, hown, hts⟩ (c_Pl_offsetOf l D cA (qf_Pl_behind st.2.2.2.1.2.1)) (qx_kS hts mw_305 mw_90 mw_32 mw_91 cd_Pl_offsetOf ⟨Nat.le_of_ble_eq_true rfl, Nat.le_of_ble_eq_true rfl⟩) (qx_preS hP hD hK hN [] rfl rfl) rfl rfl hl.1 rfl (lv_room (Nat.le_of_ble_eq_true rfl)) d_M_branch_68 ⟨Nat.zero_le _, Nat.zero_le _⟩) ?_
      refine qx_muZ (T := qf_M_setT st w (qf_Pl_offsetOf (qf_Pl_behind st.2.2.2.1.2.1))) (Wf := fun zz : qs_M => qw_M ad cA zz) (vf := fun _ => none) (va_runV (As := [.int w, .int (qf_Pl_offsetOf (qf_Pl_behind st.2.2.2.1.2.1))]) (rest := []) ⟨hx, hb, hml, hown, hts⟩ (c_M_setT l D cA ad st w (qf_Pl_offsetOf (qf_Pl_behind st.2.2.2.1.2.1))) (qx_kV hts mw_268 mw_270 mw_5 mw_30 mw_271 cd_M_setT ⟨Nat.le_of_ble_eq_true rfl, Nat.le_of_ble_eq_true rfl⟩) (qx_preV (q0 := 0) (ci := 1) (q := (R_M, T_M, 7)) hP hD hK hN [0, 1, 2, 3, 4, 5] rfl rfl rfl rfl) rfl rfl hl.1 rfl (lv_room (Nat.le_of_ble_eq_true rfl)) d_M_branch_71 ⟨Nat.zero_le _, Nat.zero_le _⟩) hP hD hS [0, 1, 2, 3, 4, 5] rfl rfl [ad 0, ad 1, ad 2, ad 3, ad 4, ad 5] rfl rfl (fun zz1 hzz1 H locs hP hD hS => ?_)
      have hP : va_P D vwCl (qw_M ad cA zz1) H := hP
      have hD : va_D A (qw_M ad cA zz1) := hD
      refine W.eq (g2 := F0 m 74 ls []) rfl ?_
      refine lv_goto (tgt := 89) hx hb d_M_branch_74 (by decide) ?_
      refine lv_aload_n hx hb d_M_branch_89 rfl (lv_at hl 4 rfl) ?_
      refine va_get (D := D) (ci := 1) (v := .ref (ad 4)) (C := R_M) (T := T_M) (N := 7) hx hb hts in_M hown hK hP 0 rfl rfl 3 (by decide) (hts (Cond.fieldLink R_M 24 "QueuedFronts$Machine" "flow" "LQueuedFronts$Flow;") mw_101) (fun _ h9 => h9) rfl d_M_branch_90 ?_
      refine lv_iload hx hb d_M_branch_93 (lv_at hl 0 rfl) ?_
      refine lv_iload_n hx hb d_M_branch_95 rfl (lv_at hl 5 rfl) ?_
      refine lv_iload hx hb d_M_branch_96 (lv_at hl 1 rfl) ?_
      refine qx_rd (va_runS (As := [.int w, .int (qf_M_takesBranch st w (qf_M_valueT st w + qf_M_valueA st w))]) (rest := [.int (qf_Pl_behind st.2.2.2.1.2.1), .ref (ad 4)]) ⟨hx, hb, hml, hown, hts⟩ (c_M_branchNullifies l D cA w (qf_M_takesBranch st w (qf_M_valueT st w + qf_M_valueA st w))) (qx_kS hts mw_307 mw_308 mw_30 mw_309 cd_M_branchNullifies ⟨Nat.le_of_ble_eq_true rfl, Nat.le_of_ble_eq_true rfl⟩) (qx_preS hP hD hK hN [] rfl rfl) rfl rfl hl.1 rfl (lv_room (Nat.le_of_ble_eq_true rfl)) d_M_branch_98 ⟨Nat.zero_le _, Nat.zero_le _⟩) ?_
      refine qx_muZ (T := qf_F_moveOnTo zz1.2.2.2.1 (qf_Pl_behind st.2.2.2.1.2.1) (qf_M_branchNullifies w (qf_M_takesBranch st w (qf_M_valueT st w + qf_M_valueA st w)))) (Wf := fun zz : qs_F => qw_M ad cA (qm_M_fl zz1 zz)) (vf := fun _ => none) (va_runV (As := [.int (qf_Pl_behind st.2.2.2.1.2.1), .int (qf_M_branchNullifies w (qf_M_takesBranch st w (qf_M_valueT st w + qf_M_valueA st w)))]) (rest := []) ⟨hx, hb, hml, hown, hts⟩ (c_F_moveOnTo l D cA (ad 4) zz1.2.2.2.1 (qf_Pl_behind st.2.2.2.1.2.1) (qf_M_branchNullifies w (qf_M_takesBranch st w (qf_M_valueT st w + qf_M_valueA st w)))) (qx_kV hts mw_310 mw_210 mw_211 mw_31 mw_212 cd_F_moveOnTo ⟨Nat.le_of_ble_eq_true rfl, Nat.le_of_ble_eq_true rfl⟩) (qx_preV (q0 := 4) (ci := 2) (q := (R_F, T_F, 4)) hP hD hK hN [4] rfl rfl rfl rfl) rfl rfl hl.1 rfl (lv_room (Nat.le_of_ble_eq_true rfl)) d_M_branch_101 ⟨Nat.zero_le _, Nat.zero_le _⟩) hP hD hS [4] rfl rfl [ad 0, ad 1, ad 2, ad 3, ad 4, ad 5] rfl rfl (fun zz2 hzz2 H locs hP hD hS => ?_)
      have hP : va_P D vwCl (qw_M ad cA (qm_M_fl zz1 zz2)) H := hP
      have hD : va_D A (qw_M ad cA (qm_M_fl zz1 zz2)) := hD
      refine W.eq (g2 := F0 m 104 ls []) rfl ?_
      subst hzz2
      subst hzz1
      have e9 : (qm_M_fl (qf_M_setT st w (qf_Pl_offsetOf (qf_Pl_behind st.2.2.2.1.2.1))) (qf_F_moveOnTo (qf_M_setT st w (qf_Pl_offsetOf (qf_Pl_behind st.2.2.2.1.2.1))).2.2.2.1 (qf_Pl_behind st.2.2.2.1.2.1) (qf_M_branchNullifies w (qf_M_takesBranch st w (qf_M_valueT st w + qf_M_valueA st w))))) = qf_M_branch st w := (by unfold qf_M_branch; rw [if_pos h1, if_pos h2])
      exact W.vret hx hb hr (fun t ht hW => ⟨rfl, (by rw [ht, ← e9]; exact hP), hS.F ht⟩) hS.2.2 d_M_branch_104
  · skip
    refine lv_aload_n hx hb d_M_branch_30 rfl (lv_at hl 3 rfl) ?_
    refine lv_iload_n hx hb d_M_branch_31 rfl (lv_at hl 4 rfl) ?_
    refine qx_rd (va_runV (As := [.int w]) (rest := []) ⟨hx, hb, hml, hown, hts⟩ (c_M_targetOf l D cA ad st w) (qx_kV hts mw_300 mw_302 mw_11 mw_30 mw_303 cd_M_targetOf ⟨Nat.le_of_ble_eq_true rfl, Nat.le_of_ble_eq_true rfl⟩) (qx_preV (q0 := 0) (ci := 1) (q := (R_M, T_M, 7)) hP hD hK hN [0, 1, 2, 3, 4, 5] rfl rfl rfl rfl) rfl rfl hl.1 rfl (lv_room (Nat.le_of_ble_eq_true rfl)) d_M_branch_32 ⟨Nat.zero_le _, Nat.zero_le _⟩) ?_
    refine lv_goto (tgt := 48) hx hb d_M_branch_35 (by decide) ?_
    refine lv_istore (lv' := [(5, .int (qf_M_targetOf st w)), (4, .int (qf_M_takesBranch st w (qf_M_valueT st w + qf_M_valueA st w))), (3, .int (qf_M_valueT st w + qf_M_valueA st w)), (2, .int (qf_Pa_kind w)), (0, .ref (ad 0)), (1, .int w)]) hx hb d_M_branch_48 hl (by decide) rfl (fun ls hl => ?_)
    refine lv_iload_n hx hb d_M_branch_50 rfl (lv_at hl 3 rfl) ?_
    refine lv_bipush (v := 13) hx hb d_M_branch_51 (by decide) ?_
    refine lv_icmp_ne (tgt := 77) hx hb d_M_branch_53 (by decide) (fun h4 => ?_) (fun h4 => ?_)
    · skip
      refine lv_iload_n hx hb d_M_branch_77 rfl (lv_at hl 3 rfl) ?_
      refine lv_bipush (v := 15) hx hb d_M_branch_78 (by decide) ?_
      refine lv_icmp_ne (tgt := 89) hx hb d_M_branch_80 (by decide) (fun h5 => ?_) (fun h5 => ?_)
      · skip
        refine lv_aload_n hx hb d_M_branch_89 rfl (lv_at hl 4 rfl) ?_
        refine va_get (D := D) (ci := 1) (v := .ref (ad 4)) (C := R_M) (T := T_M) (N := 7) hx hb hts in_M hown hK hP 0 rfl rfl 3 (by decide) (hts (Cond.fieldLink R_M 24 "QueuedFronts$Machine" "flow" "LQueuedFronts$Flow;") mw_101) (fun _ h9 => h9) rfl d_M_branch_90 ?_
        refine lv_iload hx hb d_M_branch_93 (lv_at hl 0 rfl) ?_
        refine lv_iload_n hx hb d_M_branch_95 rfl (lv_at hl 5 rfl) ?_
        refine lv_iload hx hb d_M_branch_96 (lv_at hl 1 rfl) ?_
        refine qx_rd (va_runS (As := [.int w, .int (qf_M_takesBranch st w (qf_M_valueT st w + qf_M_valueA st w))]) (rest := [.int (qf_M_targetOf st w), .ref (ad 4)]) ⟨hx, hb, hml, hown, hts⟩ (c_M_branchNullifies l D cA w (qf_M_takesBranch st w (qf_M_valueT st w + qf_M_valueA st w))) (qx_kS hts mw_307 mw_308 mw_30 mw_309 cd_M_branchNullifies ⟨Nat.le_of_ble_eq_true rfl, Nat.le_of_ble_eq_true rfl⟩) (qx_preS hP hD hK hN [] rfl rfl) rfl rfl hl.1 rfl (lv_room (Nat.le_of_ble_eq_true rfl)) d_M_branch_98 ⟨Nat.zero_le _, Nat.zero_le _⟩) ?_
        refine qx_muZ (T := qf_F_moveOnTo st.2.2.2.1 (qf_M_targetOf st w) (qf_M_branchNullifies w (qf_M_takesBranch st w (qf_M_valueT st w + qf_M_valueA st w)))) (Wf := fun zz : qs_F => qw_M ad cA (qm_M_fl st zz)) (vf := fun _ => none) (va_runV (As := [.int (qf_M_targetOf st w), .int (qf_M_branchNullifies w (qf_M_takesBranch st w (qf_M_valueT st w + qf_M_valueA st w)))]) (rest := []) ⟨hx, hb, hml, hown, hts⟩ (c_F_moveOnTo l D cA (ad 4) st.2.2.2.1 (qf_M_targetOf st w) (qf_M_branchNullifies w (qf_M_takesBranch st w (qf_M_valueT st w + qf_M_valueA st w)))) (qx_kV hts mw_310 mw_210 mw_211 mw_31 mw_212 cd_F_moveOnTo ⟨Nat.le_of_ble_eq_true rfl, Nat.le_of_ble_eq_true rfl⟩) (qx_preV (q0 := 4) (ci := 2) (q := (R_F, T_F, 4)) hP hD hK hN [4] rfl rfl rfl rfl) rfl rfl hl.1 rfl (lv_room (Nat.le_of_ble_eq_true rfl)) d_M_branch_101 ⟨Nat.zero_le _, Nat.zero_le _⟩) hP hD hS [4] rfl rfl [ad 0, ad 1, ad 2, ad 3, ad 4, ad 5] rfl rfl (fun zz1 hzz1 H locs hP hD hS => ?_)
        have hP : va_P D vwCl (qw_M ad cA (qm_M_fl st zz1)) H := hP
        have hD : va_D A (qw_M ad cA (qm_M_fl st zz1)) := hD
        refine W.eq (g2 := F0 m 104 ls []) rfl ?_
        subst hzz1
        have e9 : (qm_M_fl st (qf_F_moveOnTo st.2.2.2.1 (qf_M_targetOf st w) (qf_M_branchNullifies w (qf_M_takesBranch st w (qf_M_valueT st w + qf_M_valueA st w))))) = qf_M_branch st w := (by unfold qf_M_branch; rw [if_neg h1, if_neg h4, if_neg h5])
        exact W.vret hx hb hr (fun t ht hW => ⟨rfl, (by rw [ht, ← e9]; exact hP), hS.F ht⟩) hS.2.2 d_M_branch_104
      · skip
        refine lv_aload_n hx hb d_M_branch_83 rfl (lv_at hl 4 rfl) ?_
        refine lv_iload_n hx hb d_M_branch_84 rfl (lv_at hl 5 rfl) ?_
        refine lv_iload_n hx hb d_M_branch_85 rfl (lv_at hl 2 rfl) ?_
        refine qx_muZ (T := qf_M_setT st w (qf_M_valueT st w + qf_M_valueA st w)) (Wf := fun zz : qs_M => qw_M ad cA zz) (vf := fun _ => none) (va_runV (As := [.int w, .int (qf_M_valueT st w + qf_M_valueA st w)]) (rest := []) ⟨hx, hb, hml, hown, hts⟩ (c_M_setT l D cA ad st w (qf_M_valueT st w + qf_M_valueA st w)) (qx_kV hts mw_268 mw_270 mw_5 mw_30 mw_271 cd_M_setT ⟨Nat.le_of_ble_eq_true rfl, Nat.le_of_ble_eq_true rfl⟩) (qx_preV (q0 := 0) (ci := 1) (q := (R_M, T_M, 7)) hP hD hK hN [0, 1, 2, 3, 4, 5] rfl rfl rfl rfl) rfl rfl hl.1 rfl (lv_room (Nat.le_of_ble_eq_true rfl)) d_M_branch_86 ⟨Nat.zero_le _, Nat.zero_le _⟩) hP hD hS [0, 1, 2, 3, 4, 5] rfl rfl [ad 0, ad 1, ad 2, ad 3, ad 4, ad 5] rfl rfl (fun zz1 hzz1 H locs hP hD hS => ?_)
        have hP : va_P D vwCl (qw_M ad cA zz1) H := hP
        have hD : va_D A (qw_M ad cA zz1) := hD
        refine W.eq (g2 := F0 m 89 ls []) rfl ?_
        refine lv_aload_n hx hb d_M_branch_89 rfl (lv_at hl 4 rfl) ?_
        refine va_get (D := D) (ci := 1) (v := .ref (ad 4)) (C := R_M) (T := T_M) (N := 7) hx hb hts in_M hown hK hP 0 rfl rfl 3 (by decide) (hts (Cond.fieldLink R_M 24 "QueuedFronts$Machine" "flow" "LQueuedFronts$Flow;") mw_101) (fun _ h9 => h9) rfl d_M_branch_90 ?_
        refine lv_iload hx hb d_M_branch_93 (lv_at hl 0 rfl) ?_
        refine lv_iload_n hx hb d_M_branch_95 rfl (lv_at hl 5 rfl) ?_
        refine lv_iload hx hb d_M_branch_96 (lv_at hl 1 rfl) ?_
        refine qx_rd (va_runS (As := [.int w, .int (qf_M_takesBranch st w (qf_M_valueT st w + qf_M_valueA st w))]) (rest := [.int (qf_M_targetOf st w), .ref (ad 4)]) ⟨hx, hb, hml, hown, hts⟩ (c_M_branchNullifies l D cA w (qf_M_takesBranch st w (qf_M_valueT st w + qf_M_valueA st w))) (qx_kS hts mw_307 mw_308 mw_30 mw_309 cd_M_branchNullifies ⟨Nat.le_of_ble_eq_true rfl, Nat.le_of_ble_eq_true rfl⟩) (qx_preS hP hD hK hN [] rfl rfl) rfl rfl hl.1 rfl (lv_room (Nat.le_of_ble_eq_true rfl)) d_M_branch_98 ⟨Nat.zero_le _, Nat.zero_le _⟩) ?_
        refine qx_muZ (T := qf_F_moveOnTo zz1.2.2.2.1 (qf_M_targetOf st w) (qf_M_branchNullifies w (qf_M_takesBranch st w (qf_M_valueT st w + qf_M_valueA st w)))) (Wf := fun zz : qs_F => qw_M ad cA (qm_M_fl zz1 zz)) (vf := fun _ => none) (va_runV (As := [.int (qf_M_targetOf st w), .int (qf_M_branchNullifies w (qf_M_takesBranch st w (qf_M_valueT st w + qf_M_valueA st w)))]) (rest := []) ⟨hx, hb, hml, hown, hts⟩ (c_F_moveOnTo l D cA (ad 4) zz1.2.2.2.1 (qf_M_targetOf st w) (qf_M_branchNullifies w (qf_M_takesBranch st w (qf_M_valueT st w + qf_M_valueA st w)))) (qx_kV hts mw_310 mw_210 mw_211 mw_31 mw_212 cd_F_moveOnTo ⟨Nat.le_of_ble_eq_true rfl, Nat.le_of_ble_eq_true rfl⟩) (qx_preV (q0 := 4) (ci := 2) (q := (R_F, T_F, 4)) hP hD hK hN [4] rfl rfl rfl rfl) rfl rfl hl.1 rfl (lv_room (Nat.le_of_ble_eq_true rfl)) d_M_branch_101 ⟨Nat.zero_le _, Nat.zero_le _⟩) hP hD hS [4] rfl rfl [ad 0, ad 1, ad 2, ad 3, ad 4, ad 5] rfl rfl (fun zz2 hzz2 H locs hP hD hS => ?_)
        have hP : va_P D vwCl (qw_M ad cA (qm_M_fl zz1 zz2)) H := hP
        have hD : va_D A (qw_M ad cA (qm_M_fl zz1 zz2)) := hD
        refine W.eq (g2 := F0 m 104 ls []) rfl ?_
        subst hzz2
        subst hzz1
        have e9 : (qm_M_fl (qf_M_setT st w (qf_M_valueT st w + qf_M_valueA st w)) (qf_F_moveOnTo (qf_M_setT st w (qf_M_valueT st w + qf_M_valueA st w)).2.2.2.1 (qf_M_targetOf st w) (qf_M_branchNullifies w (qf_M_takesBranch st w (qf_M_valueT st w + qf_M_valueA st w))))) = qf_M_branch st w := (by unfold qf_M_branch; rw [if_neg h1, if_neg h4, if_pos h5])
        exact W.vret hx hb hr (fun t ht hW => ⟨rfl, (by rw [ht, ← e9]; exact hP), hS.F ht⟩) hS.2.2 d_M_branch_104
    · skip
      refine lv_aload_n hx hb d_M_branch_56 rfl (lv_at hl 4 rfl) ?_
      refine lv_iload_n hx hb d_M_branch_57 rfl (lv_at hl 5 rfl) ?_
      refine lv_aload_n hx hb d_M_branch_58 rfl (lv_at hl 4 rfl) ?_
      refine va_get (D := D) (ci := 1) (v := .ref (ad 4)) (C := R_M) (T := T_M) (N := 7) hx hb hts in_M hown hK hP 0 rfl rfl 3 (by decide) (hts (Cond.fieldLink R_M 24 "QueuedFronts$Machine" "flow" "LQueuedFronts$Flow;") mw_101) (fun _ h9 => h9) rfl d_M_branch_59 ?_
      refine va_get (D := D) (ci := 2) (v := .int st.2.2.2.1.2.1) (C := R_F) (T := T_F) (N := 4) hx hb hts in_F hown hK hP 4 rfl rfl 1 (by decide) (hts (Cond.fieldLink R_M 139 "QueuedFronts$Flow" "back" "I") mw_62) (fun _ h9 => h9) rfl d_M_branch_62 ?_
      refine qx_rd (va_runS (As := [.int st.2.2.2.1.2.1]) (rest := [.int w, .ref (ad 0)]) ⟨hx, hb, hml, hown, hts⟩ (c_Pl_behind l D cA st.2.2.2.1.2.1) (qx_kS hts mw_306 mw_84 mw_32 mw_85 cd_Pl_behind ⟨Nat.le_of_ble_eq_true rfl, Nat.le_of_ble_eq_true rfl⟩) (qx_preS hP hD hK hN [] rfl rfl) rfl rfl hl.1 rfl (lv_room (Nat.le_of_ble_eq_true rfl)) d_M_branch_65 ⟨Nat.zero_le _, Nat.zero_le _⟩) ?_
      refine qx_rd (va_runS (As := [.int (qf_Pl_behind st.2.2.2.1.2.1)]) (rest := [.int w, .ref (ad 0)]) ⟨hx, hb, hml, hown, hts⟩ (c_Pl_offsetOf l D cA (qf_Pl_behind st.2.2.2.1.2.1)) (qx_kS hts mw_305 mw_90 mw_32 mw_91 cd_Pl_offsetOf ⟨Nat.le_of_ble_eq_true rfl, Nat.le_of_ble_eq_true rfl⟩) (qx_preS hP hD hK hN [] rfl rfl) rfl rfl hl.1 rfl (lv_room (Nat.le_of_ble_eq_true rfl)) d_M_branch_68 ⟨Nat.zero_le _, Nat.zero_le _⟩) ?_
      refine qx_muZ (T := qf_M_setT st w (qf_Pl_offsetOf (qf_Pl_behind st.2.2.2.1.2.1))) (Wf := fun zz : qs_M => qw_M ad cA zz) (vf := fun _ => none) (va_runV (As := [.int w, .int (qf_Pl_offsetOf (qf_Pl_behind st.2.2.2.1.2.1))]) (rest := []) ⟨hx, hb, hml, hown, hts⟩ (c_M_setT l D cA ad st w (qf_Pl_offsetOf (qf_Pl_behind st.2.2.2.1.2.1))) (qx_kV hts mw_268 mw_270 mw_5 mw_30 mw_271 cd_M_setT ⟨Nat.le_of_ble_eq_true rfl, Nat.le_of_ble_eq_true rfl⟩) (qx_preV (q0 := 0) (ci := 1) (q := (R_M, T_M, 7)) hP hD hK hN [0, 1, 2, 3, 4, 5] rfl rfl rfl rfl) rfl rfl hl.1 rfl (lv_room (Nat.le_of_ble_eq_true rfl)) d_M_branch_71 ⟨Nat.zero_le _, Nat.zero_le _⟩) hP hD hS [0, 1, 2, 3, 4, 5] rfl rfl [ad 0, ad 1, ad 2, ad 3, ad 4, ad 5] rfl rfl (fun zz1 hzz1 H locs hP hD hS => ?_)
      have hP : va_P D vwCl (qw_M ad cA zz1) H := hP
      have hD : va_D A (qw_M ad cA zz1) := hD
      refine W.eq (g2 := F0 m 74 ls []) rfl ?_
      refine lv_goto (tgt := 89) hx hb d_M_branch_74 (by decide) ?_
      refine lv_aload_n hx hb d_M_branch_89 rfl (lv_at hl 4 rfl) ?_
      refine va_get (D := D) (ci := 1) (v := .ref (ad 4)) (C := R_M) (T := T_M) (N := 7) hx hb hts in_M hown hK hP 0 rfl rfl 3 (by decide) (hts (Cond.fieldLink R_M 24 "QueuedFronts$Machine" "flow" "LQueuedFronts$Flow;") mw_101) (fun _ h9 => h9) rfl d_M_branch_90 ?_
      refine lv_iload hx hb d_M_branch_93 (lv_at hl 0 rfl) ?_
      refine lv_iload_n hx hb d_M_branch_95 rfl (lv_at hl 5 rfl) ?_
      refine lv_iload hx hb d_M_branch_96 (lv_at hl 1 rfl) ?_
      refine qx_rd (va_runS (As := [.int w, .int (qf_M_takesBranch st w (qf_M_valueT st w + qf_M_valueA st w))]) (rest := [.int (qf_M_targetOf st w), .ref (ad 4)]) ⟨hx, hb, hml, hown, hts⟩ (c_M_branchNullifies l D cA w (qf_M_takesBranch st w (qf_M_valueT st w + qf_M_valueA st w))) (qx_kS hts mw_307 mw_308 mw_30 mw_309 cd_M_branchNullifies ⟨Nat.le_of_ble_eq_true rfl, Nat.le_of_ble_eq_true rfl⟩) (qx_preS hP hD hK hN [] rfl rfl) rfl rfl hl.1 rfl (lv_room (Nat.le_of_ble_eq_true rfl)) d_M_branch_98 ⟨Nat.zero_le _, Nat.zero_le _⟩) ?_
      refine qx_muZ (T := qf_F_moveOnTo zz1.2.2.2.1 (qf_M_targetOf st w) (qf_M_branchNullifies w (qf_M_takesBranch st w (qf_M_valueT st w + qf_M_valueA st w)))) (Wf := fun zz : qs_F => qw_M ad cA (qm_M_fl zz1 zz)) (vf := fun _ => none) (va_runV (As := [.int (qf_M_targetOf st w), .int (qf_M_branchNullifies w (qf_M_takesBranch st w (qf_M_valueT st w + qf_M_valueA st w)))]) (rest := []) ⟨hx, hb, hml, hown, hts⟩ (c_F_moveOnTo l D cA (ad 4) zz1.2.2.2.1 (qf_M_targetOf st w) (qf_M_branchNullifies w (qf_M_takesBranch st w (qf_M_valueT st w + qf_M_valueA st w)))) (qx_kV hts mw_310 mw_210 mw_211 mw_31 mw_212 cd_F_moveOnTo ⟨Nat.le_of_ble_eq_true rfl, Nat.le_of_ble_eq_true rfl⟩) (qx_preV (q0 := 4) (ci := 2) (q := (R_F, T_F, 4)) hP hD hK hN [4] rfl rfl rfl rfl) rfl rfl hl.1 rfl (lv_room (Nat.le_of_ble_eq_true rfl)) d_M_branch_101 ⟨Nat.zero_le _, Nat.zero_le _⟩) hP hD hS [4] rfl rfl [ad 0, ad 1, ad 2, ad 3, ad 4, ad 5] rfl rfl (fun zz2 hzz2 H locs hP hD hS => ?_)
      have hP : va_P D vwCl (qw_M ad cA (qm_M_fl zz1 zz2)) H := hP
      have hD : va_D A (qw_M ad cA (qm_M_fl zz1 zz2)) := hD
      refine W.eq (g2 := F0 m 104 ls []) rfl ?_
      subst hzz2
      subst hzz1
      have e9 : (qm_M_fl (qf_M_setT st w (qf_Pl_offsetOf (qf_Pl_behind st.2.2.2.1.2.1))) (qf_F_moveOnTo (qf_M_setT st w (qf_Pl_offsetOf (qf_Pl_behind st.2.2.2.1.2.1))).2.2.2.1 (qf_M_targetOf st w) (qf_M_branchNullifies w (qf_M_takesBranch st w (qf_M_valueT st w + qf_M_valueA st w))))) = qf_M_branch st w := (by unfold qf_M_branch; rw [if_neg h1, if_pos h4])
      exact W.vret hx hb hr (fun t ht hW => ⟨rfl, (by rw [ht, ← e9]; exact hP), hS.F ht⟩) hS.2.2 d_M_branch_104
end
section
def qf_M_control (st : qs_M) (w : Int32) : qs_M :=
  if qf_Pa_kind w = 18 then (qm_M_fl (qm_M_sp st (upd st.2.1 (Int32.toNatClampNeg (qf_Pa_spaceRegister w)) (qf_M_valueA st w &&& 3))) (qf_F_moveOn st.2.2.2.1 (0 : Int32)))
  else if qf_Pa_kind w = 19 then (qm_M_fl (qf_M_setT st w (qf_M_valueS st w)) (qf_F_moveOn (qf_M_setT st w (qf_M_valueS st w)).2.2.2.1 (0 : Int32)))
  else if qf_Pa_kind w = 20 then (qm_M_fl (qf_M_setT st w st.2.2.2.1.2.2.2) (qf_F_moveOn (qm_F_l (qf_M_setT st w st.2.2.2.1.2.2.2).2.2.2.1 (qf_Pa_n w)) (0 : Int32)))
  else if qf_Pa_kind w = 21 then (qm_M_fl st (qf_F_moveOn st.2.2.2.1 (0 : Int32)))
  else if qf_Pa_kind w = 22 then (qm_M_fl (qf_M_setT st w (qf_M_savedThing st (qf_Pa_m w))) (qf_F_moveOn (qf_M_setT st w (qf_M_savedThing st (qf_Pa_m w))).2.2.2.1 (0 : Int32)))
  else if qf_Pa_kind w = 23 then (qm_M_fl (qf_M_setSavedThing st (qf_Pa_m w) (qf_M_valueA st w)) (qf_F_moveOn (qf_M_setSavedThing st (qf_Pa_m w) (qf_M_valueA st w)).2.2.2.1 (0 : Int32)))
  else (qm_M_fl st (qf_F_moveOn st.2.2.2.1 (0 : Int32)))
set_option maxHeartbeats 4000000 in
set_option maxRecDepth 100000 in
theorem c_M_control (l : Launch) (D : va_G) (cA : ClassId) (ad : Nat → Nat) (st : qs_M) (w : Int32) : Met l y_M_control (Cond.code y_M_control b_M_control 2 none :: qx_T) ({ frames := 3, cells := 0, slots := 0, locals := 62 }) (qx_Pc D vwCl [(cA, .int)] (qw_M ad cA st) [.ref (ad 0), .int w]) (qx_Q D vwCl (qw_M ad cA (qf_M_control st w)) (qx_ad (qw_M ad cA st)) none) 0 0 (qx_ad (qw_M ad cA st)) := by
  refine Met.ofW (cc := b_M_control) (maxL := 2) (ret := none) (by decide) rfl ?_
  intro p e s m args below meth c s₁ B hml hv
  obtain ⟨rfl, hP, hK, hN, hD0⟩ := hv
  have hx := B.exec
  have hb := B.bytes
  have hr := B.returns
  have hts0 := atoms_spec (ws := Cond.code y_M_control b_M_control 2 none :: qx_T) B.pre
  have hts := fun w h => hts0 w (List.mem_cons_of_mem _ h)
  have hown : s.vm.findClass R_M = some m.cls := findClass_of_methodNamed B.named
  have hlocks := B.notSynchronized
  have hD : va_D (qx_ad (qw_M ad cA st)) (qw_M ad cA st) := ⟨hD0.1, fun k q hk => ⟨k, q.2, hk⟩⟩
  generalize hAe : qx_ad (qw_M ad cA st) = A at hD ⊢
  have hS : va_S A s.heap s.heap [] := va_S.rf
  have hl := lv_entry ([.ref (ad 0), .int w]) (n := 2) (Nat.le_of_ble_eq_true rfl)
  rw [lg_entry_eq]
  generalize (lg_sl ([.ref (ad 0), .int w]) ++ List.replicate (2 - (lg_sl ([.ref (ad 0), .int w])).length) Slot.unset).toArray = ls at hl ⊢
  have hl : lv_has ls 2 [(0, .ref (ad 0)), (1, .int w)] := hl
  refine lv_iload_n hx hb d_M_control_0 rfl (lv_at hl 1 rfl) ?_
  refine qx_rd (va_runS (As := [.int w]) (rest := []) ⟨hx, hb, hml, hown, hts⟩ (c_Pa_kind l D cA w) (qx_kS hts mw_217 mw_218 mw_34 mw_219 cd_Pa_kind ⟨Nat.le_of_ble_eq_true rfl, Nat.le_of_ble_eq_true rfl⟩) (qx_preS hP hD hK hN [] rfl rfl) rfl rfl hl.1 rfl (lv_room (Nat.le_of_ble_eq_true rfl)) d_M_control_1 ⟨Nat.zero_le _, Nat.zero_le _⟩) ?_
  by_cases h1 : qf_Pa_kind w = 18
  · refine lv_tableIn (tgt := 44) hx hb d_M_control_4 (by rw [h1]; decide) (by rw [h1]; decide) (by rw [h1]; rfl) (by decide) ?_
    refine lv_aload_n hx hb d_M_control_44 rfl (lv_at hl 0 rfl) ?_
    refine va_get (D := D) (ci := 1) (v := .ref (ad 2)) (C := R_M) (T := T_M) (N := 7) hx hb hts in_M hown hK hP 0 rfl rfl 1 (by decide) (hts (Cond.fieldLink R_M 15 "QueuedFronts$Machine" "spaceRegisters" "[I") mw_97) (fun _ h9 => h9) rfl d_M_control_45 ?_
    refine lv_iload_n hx hb d_M_control_48 rfl (lv_at hl 1 rfl) ?_
    refine qx_rd (va_runS (As := [.int w]) (rest := [.ref (ad 2)]) ⟨hx, hb, hml, hown, hts⟩ (c_Pa_spaceRegister l D cA w) (qx_kS hts mw_284 mw_285 mw_34 mw_286 cd_Pa_spaceRegister ⟨Nat.le_of_ble_eq_true rfl, Nat.le_of_ble_eq_true rfl⟩) (qx_preS hP hD hK hN [] rfl rfl) rfl rfl hl.1 rfl (lv_room (Nat.le_of_ble_eq_true rfl)) d_M_control_49 ⟨Nat.zero_le _, Nat.zero_le _⟩) ?_
    refine lv_aload_n hx hb d_M_control_52 rfl (lv_at hl 0 rfl) ?_
    refine lv_iload_n hx hb d_M_control_53 rfl (lv_at hl 1 rfl) ?_
    refine qx_rd (va_runV (As := [.int w]) (rest := [.int (qf_Pa_spaceRegister w), .ref (ad 2)]) ⟨hx, hb, hml, hown, hts⟩ (c_M_valueA l D cA ad st w) (qx_kV hts mw_220 mw_222 mw_2 mw_30 mw_223 cd_M_valueA ⟨Nat.le_of_ble_eq_true rfl, Nat.le_of_ble_eq_true rfl⟩) (qx_preV (q0 := 0) (ci := 1) (q := (R_M, T_M, 7)) hP hD hK hN [0, 1, 2, 3, 4, 5] rfl rfl rfl rfl) rfl rfl hl.1 rfl (lv_room (Nat.le_of_ble_eq_true rfl)) d_M_control_54 ⟨Nat.zero_le _, Nat.zero_le _⟩) ?_
    refine lv_iconst (v := 3) hx hb d_M_control_57 (by decide) ?_
    refine lv_iand hx hb d_M_control_58 ?_
    refine va_iast hx hb hK hP hD hS 2 0 rfl rfl (show vp_in (qf_Pa_spaceRegister w) 4 from qi_and3 _) d_M_control_59 (fun H locs hP hD hS => ?_)
    have hP : va_P D vwCl (qw_M ad cA (qm_M_sp st (upd st.2.1 (Int32.toNatClampNeg (qf_Pa_spaceRegister w)) (qf_M_valueA st w &&& 3)))) H := hP
    have hD : va_D A (qw_M ad cA (qm_M_sp st (upd st.2.1 (Int32.toNatClampNeg (qf_Pa_spaceRegister w)) (qf_M_valueA st w &&& 3)))) := hD
    refine lv_goto (tgt := 134) hx hb d_M_control_60 (by decide) ?_
    refine lv_aload_n hx hb d_M_control_134 rfl (lv_at hl 0 rfl) ?_
    refine va_get (D := D) (ci := 1) (v := .ref (ad 4)) (C := R_M) (T := T_M) (N := 7) hx hb hts in_M hown hK hP 0 rfl rfl 3 (by decide) (hts (Cond.fieldLink R_M 24 "QueuedFronts$Machine" "flow" "LQueuedFronts$Flow;") mw_101) (fun _ h9 => h9) rfl d_M_control_135 ?_
    refine lv_iconst (v := 0) hx hb d_M_control_138 (by decide) ?_
    refine qx_muZ (T := qf_F_moveOn st.2.2.2.1 (0 : Int32)) (Wf := fun zz : qs_F => qw_M ad cA (qm_M_fl (qm_M_sp st (upd st.2.1 (Int32.toNatClampNeg (qf_Pa_spaceRegister w)) (qf_M_valueA st w &&& 3))) zz)) (vf := fun _ => none) (va_runV (As := [.int 0]) (rest := []) ⟨hx, hb, hml, hown, hts⟩ (c_F_moveOn l D cA (ad 4) st.2.2.2.1 0) (qx_kV hts mw_275 mw_206 mw_207 mw_31 mw_208 cd_F_moveOn ⟨Nat.le_of_ble_eq_true rfl, Nat.le_of_ble_eq_true rfl⟩) (qx_preV (q0 := 4) (ci := 2) (q := (R_F, T_F, 4)) hP hD hK hN [4] rfl rfl rfl rfl) rfl rfl hl.1 rfl (lv_room (Nat.le_of_ble_eq_true rfl)) d_M_control_139 ⟨Nat.zero_le _, Nat.zero_le _⟩) hP hD hS [4] rfl rfl [ad 0, ad 1, ad 2, ad 3, ad 4, ad 5] rfl rfl (fun zz1 hzz1 H locs hP hD hS => ?_)
    have hP : va_P D vwCl (qw_M ad cA (qm_M_fl (qm_M_sp st (upd st.2.1 (Int32.toNatClampNeg (qf_Pa_spaceRegister w)) (qf_M_valueA st w &&& 3))) zz1)) H := hP
    have hD : va_D A (qw_M ad cA (qm_M_fl (qm_M_sp st (upd st.2.1 (Int32.toNatClampNeg (qf_Pa_spaceRegister w)) (qf_M_valueA st w &&& 3))) zz1)) := hD
    refine W.eq (g2 := F0 m 142 ls []) rfl ?_
    subst hzz1
    have e9 : (qm_M_fl (qm_M_sp st (upd st.2.1 (Int32.toNatClampNeg (qf_Pa_spaceRegister w)) (qf_M_valueA st w &&& 3))) (qf_F_moveOn st.2.2.2.1 (0 : Int32))) = qf_M_control st w := (by unfold qf_M_control; rw [if_pos h1])
    exact W.vret hx hb hr (fun t ht hW => ⟨rfl, (by rw [ht, ← e9]; exact hP), hS.F ht⟩) hS.2.2 d_M_control_142
  by_cases h2 : qf_Pa_kind w = 19
  · refine lv_tableIn (tgt := 63) hx hb d_M_control_4 (by rw [h2]; decide) (by rw [h2]; decide) (by rw [h2]; rfl) (by decide) ?_
    refine lv_aload_n hx hb d_M_control_63 rfl (lv_at hl 0 rfl) ?_
    refine lv_iload_n hx hb d_M_control_64 rfl (lv_at hl 1 rfl) ?_
    refine lv_aload_n hx hb d_M_control_65 rfl (lv_at hl 0 rfl) ?_
    refine lv_iload_n hx hb d_M_control_66 rfl (lv_at hl 1 rfl) ?_
    refine qx_rd (va_runV (As := [.int w]) (rest := [.int w, .ref (ad 0)]) ⟨hx, hb, hml, hown, hts⟩ (c_M_valueS l D cA ad st w) (qx_kV hts mw_280 mw_282 mw_7 mw_30 mw_283 cd_M_valueS ⟨Nat.le_of_ble_eq_true rfl, Nat.le_of_ble_eq_true rfl⟩) (qx_preV (q0 := 0) (ci := 1) (q := (R_M, T_M, 7)) hP hD hK hN [0, 1, 2, 3, 4, 5] rfl rfl rfl rfl) rfl rfl hl.1 rfl (lv_room (Nat.le_of_ble_eq_true rfl)) d_M_control_67 ⟨Nat.zero_le _, Nat.zero_le _⟩) ?_
    refine qx_muZ (T := qf_M_setT st w (qf_M_valueS st w)) (Wf := fun zz : qs_M => qw_M ad cA zz) (vf := fun _ => none) (va_runV (As := [.int w, .int (qf_M_valueS st w)]) (rest := []) ⟨hx, hb, hml, hown, hts⟩ (c_M_setT l D cA ad st w (qf_M_valueS st w)) (qx_kV hts mw_268 mw_270 mw_5 mw_30 mw_271 cd_M_setT ⟨Nat.le_of_ble_eq_true rfl, Nat.le_of_ble_eq_true rfl⟩) (qx_preV (q0 := 0) (ci := 1) (q := (R_M, T_M, 7)) hP hD hK hN [0, 1, 2, 3, 4, 5] rfl rfl rfl rfl) rfl rfl hl.1 rfl (lv_room (Nat.le_of_ble_eq_true rfl)) d_M_control_70 ⟨Nat.zero_le _, Nat.zero_le _⟩) hP hD hS [0, 1, 2, 3, 4, 5] rfl rfl [ad 0, ad 1, ad 2, ad 3, ad 4, ad 5] rfl rfl (fun zz1 hzz1 H locs hP hD hS => ?_)
    have hP : va_P D vwCl (qw_M ad cA zz1) H := hP
    have hD : va_D A (qw_M ad cA zz1) := hD
    refine W.eq (g2 := F0 m 73 ls []) rfl ?_
    refine lv_goto (tgt := 134) hx hb d_M_control_73 (by decide) ?_
    refine lv_aload_n hx hb d_M_control_134 rfl (lv_at hl 0 rfl) ?_
    refine va_get (D := D) (ci := 1) (v := .ref (ad 4)) (C := R_M) (T := T_M) (N := 7) hx hb hts in_M hown hK hP 0 rfl rfl 3 (by decide) (hts (Cond.fieldLink R_M 24 "QueuedFronts$Machine" "flow" "LQueuedFronts$Flow;") mw_101) (fun _ h9 => h9) rfl d_M_control_135 ?_
    refine lv_iconst (v := 0) hx hb d_M_control_138 (by decide) ?_
    refine qx_muZ (T := qf_F_moveOn zz1.2.2.2.1 (0 : Int32)) (Wf := fun zz : qs_F => qw_M ad cA (qm_M_fl zz1 zz)) (vf := fun _ => none) (va_runV (As := [.int 0]) (rest := []) ⟨hx, hb, hml, hown, hts⟩ (c_F_moveOn l D cA (ad 4) zz1.2.2.2.1 0) (qx_kV hts mw_275 mw_206 mw_207 mw_31 mw_208 cd_F_moveOn ⟨Nat.le_of_ble_eq_true rfl, Nat.le_of_ble_eq_true rfl⟩) (qx_preV (q0 := 4) (ci := 2) (q := (R_F, T_F, 4)) hP hD hK hN [4] rfl rfl rfl rfl) rfl rfl hl.1 rfl (lv_room (Nat.le_of_ble_eq_true rfl)) d_M_control_139 ⟨Nat.zero_le _, Nat.zero_le _⟩) hP hD hS [4] rfl rfl [ad 0, ad 1, ad 2, ad 3, ad 4, ad 5] rfl rfl (fun zz2 hzz2 H locs hP hD hS => ?_)
    have hP : va_P D vwCl (qw_M ad cA (qm_M_fl zz1 zz2)) H := hP
    have hD : va_D A (qw_M ad cA (qm_M_fl zz1 zz2)) := hD
    refine W.eq (g2 := F0 m 142 ls []) rfl ?_
    subst hzz2
    subst hzz1
    have e9 : (qm_M_fl (qf_M_setT st w (qf_M_valueS st w)) (qf_F_moveOn (qf_M_setT st w (qf_M_valueS st w)).2.2.2.1 (0 : Int32))) = qf_M_control st w := (by unfold qf_M_control; rw [if_neg h1, if_pos h2])
    exact W.vret hx hb hr (fun t ht hW => ⟨rfl, (by rw [ht, ← e9]; exact hP), hS.F ht⟩) hS.2.2 d_M_control_142
  by_cases h3 : qf_Pa_kind w = 20
  · refine lv_tableIn (tgt := 76) hx hb d_M_control_4 (by rw [h3]; decide) (by rw [h3]; decide) (by rw [h3]; rfl) (by decide) ?_
    refine lv_aload_n hx hb d_M_control_76 rfl (lv_at hl 0 rfl) ?_
    refine lv_iload_n hx hb d_M_control_77 rfl (lv_at hl 1 rfl) ?_
    refine lv_aload_n hx hb d_M_control_78 rfl (lv_at hl 0 rfl) ?_
    refine va_get (D := D) (ci := 1) (v := .ref (ad 4)) (C := R_M) (T := T_M) (N := 7) hx hb hts in_M hown hK hP 0 rfl rfl 3 (by decide) (hts (Cond.fieldLink R_M 24 "QueuedFronts$Machine" "flow" "LQueuedFronts$Flow;") mw_101) (fun _ h9 => h9) rfl d_M_control_79 ?_
    refine va_get (D := D) (ci := 2) (v := .int st.2.2.2.1.2.2.2) (C := R_F) (T := T_F) (N := 4) hx hb hts in_F hown hK hP 4 rfl rfl 3 (by decide) (hts (Cond.fieldLink R_M 165 "QueuedFronts$Flow" "lets" "I") mw_68) (fun _ h9 => h9) rfl d_M_control_82 ?_
    refine qx_muZ (T := qf_M_setT st w st.2.2.2.1.2.2.2) (Wf := fun zz : qs_M => qw_M ad cA zz) (vf := fun _ => none) (va_runV (As := [.int w, .int st.2.2.2.1.2.2.2]) (rest := []) ⟨hx, hb, hml, hown, hts⟩ (c_M_setT l D cA ad st w st.2.2.2.1.2.2.2) (qx_kV hts mw_268 mw_270 mw_5 mw_30 mw_271 cd_M_setT ⟨Nat.le_of_ble_eq_true rfl, Nat.le_of_ble_eq_true rfl⟩) (qx_preV (q0 := 0) (ci := 1) (q := (R_M, T_M, 7)) hP hD hK hN [0, 1, 2, 3, 4, 5] rfl rfl rfl rfl) rfl rfl hl.1 rfl (lv_room (Nat.le_of_ble_eq_true rfl)) d_M_control_85 ⟨Nat.zero_le _, Nat.zero_le _⟩) hP hD hS [0, 1, 2, 3, 4, 5] rfl rfl [ad 0, ad 1, ad 2, ad 3, ad 4, ad 5] rfl rfl (fun zz1 hzz1 H locs hP hD hS => ?_)
    have hP : va_P D vwCl (qw_M ad cA zz1) H := hP
    have hD : va_D A (qw_M ad cA zz1) := hD
    refine W.eq (g2 := F0 m 88 ls []) rfl ?_
    refine lv_aload_n hx hb d_M_control_88 rfl (lv_at hl 0 rfl) ?_
    refine va_get (D := D) (ci := 1) (v := .ref (ad 4)) (C := R_M) (T := T_M) (N := 7) hx hb hts in_M hown hK hP 0 rfl rfl 3 (by decide) (hts (Cond.fieldLink R_M 24 "QueuedFronts$Machine" "flow" "LQueuedFronts$Flow;") mw_101) (fun _ h9 => h9) rfl d_M_control_89 ?_
    refine lv_iload_n hx hb d_M_control_92 rfl (lv_at hl 1 rfl) ?_
    refine qx_rd (va_runS (As := [.int w]) (rest := [.ref (ad 4)]) ⟨hx, hb, hml, hown, hts⟩ (c_Pa_n l D cA w) (qx_kS hts mw_252 mw_253 mw_34 mw_254 cd_Pa_n ⟨Nat.le_of_ble_eq_true rfl, Nat.le_of_ble_eq_true rfl⟩) (qx_preS hP hD hK hN [] rfl rfl) rfl rfl hl.1 rfl (lv_room (Nat.le_of_ble_eq_true rfl)) d_M_control_93 ⟨Nat.zero_le _, Nat.zero_le _⟩) ?_
    refine va_put (D := D) (ci := 2) (v := .int (qf_Pa_n w)) (ty := .int) (C := R_F) (T := T_F) (N := 4) hx hb hts in_F ty_F tyok_F nm_F hown hK hP hD hS 4 rfl rfl 3 (by decide) (hts (Cond.fieldLink R_M 165 "QueuedFronts$Flow" "lets" "I") mw_68) (fun _ h9 => h9) rfl (by decide +kernel) rfl rfl (Nat.le_of_ble_eq_true rfl) d_M_control_96 (fun H locs hP hD hS => ?_)
    have hP : va_P D vwCl (qw_M ad cA (qm_M_fl zz1 (qm_F_l zz1.2.2.2.1 (qf_Pa_n w)))) H := hP
    have hD : va_D A (qw_M ad cA (qm_M_fl zz1 (qm_F_l zz1.2.2.2.1 (qf_Pa_n w)))) := hD
    refine lv_goto (tgt := 134) hx hb d_M_control_99 (by decide) ?_
    refine lv_aload_n hx hb d_M_control_134 rfl (lv_at hl 0 rfl) ?_
    refine va_get (D := D) (ci := 1) (v := .ref (ad 4)) (C := R_M) (T := T_M) (N := 7) hx hb hts in_M hown hK hP 0 rfl rfl 3 (by decide) (hts (Cond.fieldLink R_M 24 "QueuedFronts$Machine" "flow" "LQueuedFronts$Flow;") mw_101) (fun _ h9 => h9) rfl d_M_control_135 ?_
    refine lv_iconst (v := 0) hx hb d_M_control_138 (by decide) ?_
    refine qx_muZ (T := qf_F_moveOn (qm_F_l zz1.2.2.2.1 (qf_Pa_n w)) (0 : Int32)) (Wf := fun zz : qs_F => qw_M ad cA (qm_M_fl zz1 zz)) (vf := fun _ => none) (va_runV (As := [.int 0]) (rest := []) ⟨hx, hb, hml, hown, hts⟩ (c_F_moveOn l D cA (ad 4) (qm_F_l zz1.2.2.2.1 (qf_Pa_n w)) 0) (qx_kV hts mw_275 mw_206 mw_207 mw_31 mw_208 cd_F_moveOn ⟨Nat.le_of_ble_eq_true rfl, Nat.le_of_ble_eq_true rfl⟩) (qx_preV (q0 := 4) (ci := 2) (q := (R_F, T_F, 4)) hP hD hK hN [4] rfl rfl rfl rfl) rfl rfl hl.1 rfl (lv_room (Nat.le_of_ble_eq_true rfl)) d_M_control_139 ⟨Nat.zero_le _, Nat.zero_le _⟩) hP hD hS [4] rfl rfl [ad 0, ad 1, ad 2, ad 3, ad 4, ad 5] rfl rfl (fun zz2 hzz2 H locs hP hD hS => ?_)
    have hP : va_P D vwCl (qw_M ad cA (qm_M_fl zz1 zz2)) H := hP
    have hD : va_D A (qw_M ad cA (qm_M_fl zz1 zz2)) := hD
    refine W.eq (g2 := F0 m 142 ls []) rfl ?_
    subst hzz2
    subst hzz1
    have e9 : (qm_M_fl (qf_M_setT st w st.2.2.2.1.2.2.2) (qf_F_moveOn (qm_F_l (qf_M_setT st w st.2.2.2.1.2.2.2).2.2.2.1 (qf_Pa_n w)) (0 : Int32))) = qf_M_control st w := (by unfold qf_M_control; rw [if_neg h1, if_neg h2, if_pos h3])
    exact W.vret hx hb hr (fun t ht hW => ⟨rfl, (by rw [ht, ← e9]; exact hP), hS.F ht⟩) hS.2.2 d_M_control_142
  by_cases h4 : qf_Pa_kind w = 21
  · refine lv_tableIn (tgt := 134) hx hb d_M_control_4 (by rw [h4]; decide) (by rw [h4]; decide) (by rw [h4]; rfl) (by decide) ?_
    refine lv_aload_n hx hb d_M_control_134 rfl (lv_at hl 0 rfl) ?_
    refine va_get (D := D) (ci := 1) (v := .ref (ad 4)) (C := R_M) (T := T_M) (N := 7) hx hb hts in_M hown hK hP 0 rfl rfl 3 (by decide) (hts (Cond.fieldLink R_M 24 "QueuedFronts$Machine" "flow" "LQueuedFronts$Flow;") mw_101) (fun _ h9 => h9) rfl d_M_control_135 ?_
    refine lv_iconst (v := 0) hx hb d_M_control_138 (by decide) ?_
    refine qx_muZ (T := qf_F_moveOn st.2.2.2.1 (0 : Int32)) (Wf := fun zz : qs_F => qw_M ad cA (qm_M_fl st zz)) (vf := fun _ => none) (va_runV (As := [.int 0]) (rest := []) ⟨hx, hb, hml, hown, hts⟩ (c_F_moveOn l D cA (ad 4) st.2.2.2.1 0) (qx_kV hts mw_275 mw_206 mw_207 mw_31 mw_208 cd_F_moveOn ⟨Nat.le_of_ble_eq_true rfl, Nat.le_of_ble_eq_true rfl⟩) (qx_preV (q0 := 4) (ci := 2) (q := (R_F, T_F, 4)) hP hD hK hN [4] rfl rfl rfl rfl) rfl rfl hl.1 rfl (lv_room (Nat.le_of_ble_eq_true rfl)) d_M_control_139 ⟨Nat.zero_le _, Nat.zero_le _⟩) hP hD hS [4] rfl rfl [ad 0, ad 1, ad 2, ad 3, ad 4, ad 5] rfl rfl (fun zz1 hzz1 H locs hP hD hS => ?_)
    have hP : va_P D vwCl (qw_M ad cA (qm_M_fl st zz1)) H := hP
    have hD : va_D A (qw_M ad cA (qm_M_fl st zz1)) := hD
    refine W.eq (g2 := F0 m 142 ls []) rfl ?_
    subst hzz1
    have e9 : (qm_M_fl st (qf_F_moveOn st.2.2.2.1 (0 : Int32))) = qf_M_control st w := (by unfold qf_M_control; rw [if_neg h1, if_neg h2, if_neg h3, if_pos h4])
    exact W.vret hx hb hr (fun t ht hW => ⟨rfl, (by rw [ht, ← e9]; exact hP), hS.F ht⟩) hS.2.2 d_M_control_142
  by_cases h5 : qf_Pa_kind w = 22
  · refine lv_tableIn (tgt := 102) hx hb d_M_control_4 (by rw [h5]; decide) (by rw [h5]; decide) (by rw [h5]; rfl) (by decide) ?_
    refine lv_aload_n hx hb d_M_control_102 rfl (lv_at hl 0 rfl) ?_
    refine lv_iload_n hx hb d_M_control_103 rfl (lv_at hl 1 rfl) ?_
    refine lv_aload_n hx hb d_M_control_104 rfl (lv_at hl 0 rfl) ?_
    refine lv_iload_n hx hb d_M_control_105 rfl (lv_at hl 1 rfl) ?_
    refine qx_rd (va_runS (As := [.int w]) (rest := [.ref (ad 0), .int w, .ref (ad 0)]) ⟨hx, hb, hml, hown, hts⟩ (c_Pa_m l D cA w) (qx_kS hts mw_237 mw_238 mw_34 mw_239 cd_Pa_m ⟨Nat.le_of_ble_eq_true rfl, Nat.le_of_ble_eq_true rfl⟩) (qx_preS hP hD hK hN [] rfl rfl) rfl rfl hl.1 rfl (lv_room (Nat.le_of_ble_eq_true rfl)) d_M_control_106 ⟨Nat.zero_le _, Nat.zero_le _⟩) ?_
    refine qx_rd (va_runV (As := [.int (qf_Pa_m w)]) (rest := [.int w, .ref (ad 0)]) ⟨hx, hb, hml, hown, hts⟩ (c_M_savedThing l D cA ad st (qf_Pa_m w)) (qx_kV hts mw_315 mw_317 mw_13 mw_30 mw_318 cd_M_savedThing ⟨Nat.le_of_ble_eq_true rfl, Nat.le_of_ble_eq_true rfl⟩) (qx_preV (q0 := 0) (ci := 1) (q := (R_M, T_M, 7)) hP hD hK hN [0, 1, 2, 3, 4, 5] rfl rfl rfl rfl) rfl rfl hl.1 rfl (lv_room (Nat.le_of_ble_eq_true rfl)) d_M_control_109 ⟨Nat.zero_le _, Nat.zero_le _⟩) ?_
    refine qx_muZ (T := qf_M_setT st w (qf_M_savedThing st (qf_Pa_m w))) (Wf := fun zz : qs_M => qw_M ad cA zz) (vf := fun _ => none) (va_runV (As := [.int w, .int (qf_M_savedThing st (qf_Pa_m w))]) (rest := []) ⟨hx, hb, hml, hown, hts⟩ (c_M_setT l D cA ad st w (qf_M_savedThing st (qf_Pa_m w))) (qx_kV hts mw_268 mw_270 mw_5 mw_30 mw_271 cd_M_setT ⟨Nat.le_of_ble_eq_true rfl, Nat.le_of_ble_eq_true rfl⟩) (qx_preV (q0 := 0) (ci := 1) (q := (R_M, T_M, 7)) hP hD hK hN [0, 1, 2, 3, 4, 5] rfl rfl rfl rfl) rfl rfl hl.1 rfl (lv_room (Nat.le_of_ble_eq_true rfl)) d_M_control_112 ⟨Nat.zero_le _, Nat.zero_le _⟩) hP hD hS [0, 1, 2, 3, 4, 5] rfl rfl [ad 0, ad 1, ad 2, ad 3, ad 4, ad 5] rfl rfl (fun zz1 hzz1 H locs hP hD hS => ?_)
    have hP : va_P D vwCl (qw_M ad cA zz1) H := hP
    have hD : va_D A (qw_M ad cA zz1) := hD
    refine W.eq (g2 := F0 m 115 ls []) rfl ?_
    refine lv_goto (tgt := 134) hx hb d_M_control_115 (by decide) ?_
    refine lv_aload_n hx hb d_M_control_134 rfl (lv_at hl 0 rfl) ?_
    refine va_get (D := D) (ci := 1) (v := .ref (ad 4)) (C := R_M) (T := T_M) (N := 7) hx hb hts in_M hown hK hP 0 rfl rfl 3 (by decide) (hts (Cond.fieldLink R_M 24 "QueuedFronts$Machine" "flow" "LQueuedFronts$Flow;") mw_101) (fun _ h9 => h9) rfl d_M_control_135 ?_
    refine lv_iconst (v := 0) hx hb d_M_control_138 (by decide) ?_
    refine qx_muZ (T := qf_F_moveOn zz1.2.2.2.1 (0 : Int32)) (Wf := fun zz : qs_F => qw_M ad cA (qm_M_fl zz1 zz)) (vf := fun _ => none) (va_runV (As := [.int 0]) (rest := []) ⟨hx, hb, hml, hown, hts⟩ (c_F_moveOn l D cA (ad 4) zz1.2.2.2.1 0) (qx_kV hts mw_275 mw_206 mw_207 mw_31 mw_208 cd_F_moveOn ⟨Nat.le_of_ble_eq_true rfl, Nat.le_of_ble_eq_true rfl⟩) (qx_preV (q0 := 4) (ci := 2) (q := (R_F, T_F, 4)) hP hD hK hN [4] rfl rfl rfl rfl) rfl rfl hl.1 rfl (lv_room (Nat.le_of_ble_eq_true rfl)) d_M_control_139 ⟨Nat.zero_le _, Nat.zero_le _⟩) hP hD hS [4] rfl rfl [ad 0, ad 1, ad 2, ad 3, ad 4, ad 5] rfl rfl (fun zz2 hzz2 H locs hP hD hS => ?_)
    have hP : va_P D vwCl (qw_M ad cA (qm_M_fl zz1 zz2)) H := hP
    have hD : va_D A (qw_M ad cA (qm_M_fl zz1 zz2)) := hD
    refine W.eq (g2 := F0 m 142 ls []) rfl ?_
    subst hzz2
    subst hzz1
    have e9 : (qm_M_fl (qf_M_setT st w (qf_M_savedThing st (qf_Pa_m w))) (qf_F_moveOn (qf_M_setT st w (qf_M_savedThing st (qf_Pa_m w))).2.2.2.1 (0 : Int32))) = qf_M_control st w := (by unfold qf_M_control; rw [if_neg h1, if_neg h2, if_neg h3, if_neg h4, if_pos h5])
    exact W.vret hx hb hr (fun t ht hW => ⟨rfl, (by rw [ht, ← e9]; exact hP), hS.F ht⟩) hS.2.2 d_M_control_142
  by_cases h6 : qf_Pa_kind w = 23
  · refine lv_tableIn (tgt := 118) hx hb d_M_control_4 (by rw [h6]; decide) (by rw [h6]; decide) (by rw [h6]; rfl) (by decide) ?_
    refine lv_aload_n hx hb d_M_control_118 rfl (lv_at hl 0 rfl) ?_
    refine lv_iload_n hx hb d_M_control_119 rfl (lv_at hl 1 rfl) ?_
    refine qx_rd (va_runS (As := [.int w]) (rest := [.ref (ad 0)]) ⟨hx, hb, hml, hown, hts⟩ (c_Pa_m l D cA w) (qx_kS hts mw_237 mw_238 mw_34 mw_239 cd_Pa_m ⟨Nat.le_of_ble_eq_true rfl, Nat.le_of_ble_eq_true rfl⟩) (qx_preS hP hD hK hN [] rfl rfl) rfl rfl hl.1 rfl (lv_room (Nat.le_of_ble_eq_true rfl)) d_M_control_120 ⟨Nat.zero_le _, Nat.zero_le _⟩) ?_
    refine lv_aload_n hx hb d_M_control_123 rfl (lv_at hl 0 rfl) ?_
    refine lv_iload_n hx hb d_M_control_124 rfl (lv_at hl 1 rfl) ?_
    refine qx_rd (va_runV (As := [.int w]) (rest := [.int (qf_Pa_m w), .ref (ad 0)]) ⟨hx, hb, hml, hown, hts⟩ (c_M_valueA l D cA ad st w) (qx_kV hts mw_220 mw_222 mw_2 mw_30 mw_223 cd_M_valueA ⟨Nat.le_of_ble_eq_true rfl, Nat.le_of_ble_eq_true rfl⟩) (qx_preV (q0 := 0) (ci := 1) (q := (R_M, T_M, 7)) hP hD hK hN [0, 1, 2, 3, 4, 5] rfl rfl rfl rfl) rfl rfl hl.1 rfl (lv_room (Nat.le_of_ble_eq_true rfl)) d_M_control_125 ⟨Nat.zero_le _, Nat.zero_le _⟩) ?_
    refine qx_muZ (T := qf_M_setSavedThing st (qf_Pa_m w) (qf_M_valueA st w)) (Wf := fun zz : qs_M => qw_M ad cA zz) (vf := fun _ => none) (va_runV (As := [.int (qf_Pa_m w), .int (qf_M_valueA st w)]) (rest := []) ⟨hx, hb, hml, hown, hts⟩ (c_M_setSavedThing l D cA ad st (qf_Pa_m w) (qf_M_valueA st w)) (qx_kV hts mw_319 mw_321 mw_14 mw_30 mw_322 cd_M_setSavedThing ⟨Nat.le_of_ble_eq_true rfl, Nat.le_of_ble_eq_true rfl⟩) (qx_preV (q0 := 0) (ci := 1) (q := (R_M, T_M, 7)) hP hD hK hN [0, 1, 2, 3, 4, 5] rfl rfl rfl rfl) rfl rfl hl.1 rfl (lv_room (Nat.le_of_ble_eq_true rfl)) d_M_control_128 ⟨Nat.zero_le _, Nat.zero_le _⟩) hP hD hS [0, 1, 2, 3, 4, 5] rfl rfl [ad 0, ad 1, ad 2, ad 3, ad 4, ad 5] rfl rfl (fun zz1 hzz1 H locs hP hD hS => ?_)
    have hP : va_P D vwCl (qw_M ad cA zz1) H := hP
    have hD : va_D A (qw_M ad cA zz1) := hD
    refine W.eq (g2 := F0 m 131 ls []) rfl ?_
    refine lv_goto (tgt := 134) hx hb d_M_control_131 (by decide) ?_
    refine lv_aload_n hx hb d_M_control_134 rfl (lv_at hl 0 rfl) ?_
    refine va_get (D := D) (ci := 1) (v := .ref (ad 4)) (C := R_M) (T := T_M) (N := 7) hx hb hts in_M hown hK hP 0 rfl rfl 3 (by decide) (hts (Cond.fieldLink R_M 24 "QueuedFronts$Machine" "flow" "LQueuedFronts$Flow;") mw_101) (fun _ h9 => h9) rfl d_M_control_135 ?_
    refine lv_iconst (v := 0) hx hb d_M_control_138 (by decide) ?_
    refine qx_muZ (T := qf_F_moveOn zz1.2.2.2.1 (0 : Int32)) (Wf := fun zz : qs_F => qw_M ad cA (qm_M_fl zz1 zz)) (vf := fun _ => none) (va_runV (As := [.int 0]) (rest := []) ⟨hx, hb, hml, hown, hts⟩ (c_F_moveOn l D cA (ad 4) zz1.2.2.2.1 0) (qx_kV hts mw_275 mw_206 mw_207 mw_31 mw_208 cd_F_moveOn ⟨Nat.le_of_ble_eq_true rfl, Nat.le_of_ble_eq_true rfl⟩) (qx_preV (q0 := 4) (ci := 2) (q := (R_F, T_F, 4)) hP hD hK hN [4] rfl rfl rfl rfl) rfl rfl hl.1 rfl (lv_room (Nat.le_of_ble_eq_true rfl)) d_M_control_139 ⟨Nat.zero_le _, Nat.zero_le _⟩) hP hD hS [4] rfl rfl [ad 0, ad 1, ad 2, ad 3, ad 4, ad 5] rfl rfl (fun zz2 hzz2 H locs hP hD hS => ?_)
    have hP : va_P D vwCl (qw_M ad cA (qm_M_fl zz1 zz2)) H := hP
    have hD : va_D A (qw_M ad cA (qm_M_fl zz1 zz2)) := hD
    refine W.eq (g2 := F0 m 142 ls []) rfl ?_
    subst hzz2
    subst hzz1
    have e9 : (qm_M_fl (qf_M_setSavedThing st (qf_Pa_m w) (qf_M_valueA st w)) (qf_F_moveOn (qf_M_setSavedThing st (qf_Pa_m w) (qf_M_valueA st w)).2.2.2.1 (0 : Int32))) = qf_M_control st w := (by unfold qf_M_control; rw [if_neg h1, if_neg h2, if_neg h3, if_neg h4, if_neg h5, if_pos h6])
    exact W.vret hx hb hr (fun t ht hW => ⟨rfl, (by rw [ht, ← e9]; exact hP), hS.F ht⟩) hS.2.2 d_M_control_142
  refine lv_tableOut (tgt := 134) hx hb d_M_control_4 (by have a0 := lv_neT (a := 18) h1 (by decide); have a1 := lv_neT (a := 19) h2 (by decide); have a2 := lv_neT (a := 20) h3 (by decide); have a3 := lv_neT (a := 21) h4 (by decide); have a4 := lv_neT (a := 22) h5 (by decide); have a5 := lv_neT (a := 23) h6 (by decide); omega) (by decide) ?_
  refine lv_aload_n hx hb d_M_control_134 rfl (lv_at hl 0 rfl) ?_
  refine va_get (D := D) (ci := 1) (v := .ref (ad 4)) (C := R_M) (T := T_M) (N := 7) hx hb hts in_M hown hK hP 0 rfl rfl 3 (by decide) (hts (Cond.fieldLink R_M 24 "QueuedFronts$Machine" "flow" "LQueuedFronts$Flow;") mw_101) (fun _ h9 => h9) rfl d_M_control_135 ?_
  refine lv_iconst (v := 0) hx hb d_M_control_138 (by decide) ?_
  refine qx_muZ (T := qf_F_moveOn st.2.2.2.1 (0 : Int32)) (Wf := fun zz : qs_F => qw_M ad cA (qm_M_fl st zz)) (vf := fun _ => none) (va_runV (As := [.int 0]) (rest := []) ⟨hx, hb, hml, hown, hts⟩ (c_F_moveOn l D cA (ad 4) st.2.2.2.1 0) (qx_kV hts mw_275 mw_206 mw_207 mw_31 mw_208 cd_F_moveOn ⟨Nat.le_of_ble_eq_true rfl, Nat.le_of_ble_eq_true rfl⟩) (qx_preV (q0 := 4) (ci := 2) (q := (R_F, T_F, 4)) hP hD hK hN [4] rfl rfl rfl rfl) rfl rfl hl.1 rfl (lv_room (Nat.le_of_ble_eq_true rfl)) d_M_control_139 ⟨Nat.zero_le _, Nat.zero_le _⟩) hP hD hS [4] rfl rfl [ad 0, ad 1, ad 2, ad 3, ad 4, ad 5] rfl rfl (fun zz1 hzz1 H locs hP hD hS => ?_)
  have hP : va_P D vwCl (qw_M ad cA (qm_M_fl st zz1)) H := hP
  have hD : va_D A (qw_M ad cA (qm_M_fl st zz1)) := hD
  refine W.eq (g2 := F0 m 142 ls []) rfl ?_
  subst hzz1
  have e9 : (qm_M_fl st (qf_F_moveOn st.2.2.2.1 (0 : Int32))) = qf_M_control st w := (by unfold qf_M_control; rw [if_neg h1, if_neg h2, if_neg h3, if_neg h4, if_neg h5, if_neg h6])
  exact W.vret hx hb hr (fun t ht hW => ⟨rfl, (by rw [ht, ← e9]; exact hP), hS.F ht⟩) hS.2.2 d_M_control_142
end
section
def qf_M_perform (st : qs_M) (w : Int32) : qs_M :=
  if 10 < qf_Pa_kind w then (if 12 < qf_Pa_kind w then (if 17 < qf_Pa_kind w then (if qf_Pa_kind w = 21 then (qm_M_fl st (qf_F_become st.2.2.2.1 st.2.2.2.2.1))
        else (qf_M_control st w))
      else (qf_M_branch st w))
    else (qf_M_moveData st w))
  else (qf_M_reckon st w)
set_option maxHeartbeats 4000000 in
set_option maxRecDepth 100000 in
theorem c_M_perform (l : Launch) (D : va_G) (cA : ClassId) (ad : Nat → Nat) (st : qs_M) (w : Int32) (hs : ∀ k : Nat, k < 4 → vp_in (st.2.1 k) 4) : Met l y_M_perform (Cond.code y_M_perform b_M_perform 3 none :: qx_T) ({ frames := 4, cells := 0, slots := 0, locals := 89 }) (qx_Pc D vwCl [(cA, .int)] (qw_M ad cA st) [.ref (ad 0), .int w]) (qx_Q D vwCl (qw_M ad cA (qf_M_perform st w)) (qx_ad (qw_M ad cA st)) none) 0 0 (qx_ad (qw_M ad cA st)) := by
  refine Met.ofW (cc := b_M_perform) (maxL := 3) (ret := none) (by decide) rfl ?_
  intro p e s m args below meth c s₁ B hml hv
  obtain ⟨rfl, hP, hK, hN, hD0⟩ := hv
  have hx := B.exec
  have hb := B.bytes
  have hr := B.returns
  have hts0 := atoms_spec (ws := Cond.code y_M_perform b_M_perform 3 none :: qx_T) B.pre
  have hts := fun w h => hts0 w (List.mem_cons_of_mem _ h)
  have hown : s.vm.findClass R_M = some m.cls := findClass_of_methodNamed B.named
  have hlocks := B.notSynchronized
  have hD : va_D (qx_ad (qw_M ad cA st)) (qw_M ad cA st) := ⟨hD0.1, fun k q hk => ⟨k, q.2, hk⟩⟩
  generalize hAe : qx_ad (qw_M ad cA st) = A at hD ⊢
  have hS : va_S A s.heap s.heap [] := va_S.rf
  have hl := lv_entry ([.ref (ad 0), .int w]) (n := 3) (Nat.le_of_ble_eq_true rfl)
  rw [lg_entry_eq]
  generalize (lg_sl ([.ref (ad 0), .int w]) ++ List.replicate (3 - (lg_sl ([.ref (ad 0), .int w])).length) Slot.unset).toArray = ls at hl ⊢
  have hl : lv_has ls 3 [(0, .ref (ad 0)), (1, .int w)] := hl
  refine lv_iload_n hx hb d_M_perform_0 rfl (lv_at hl 1 rfl) ?_
  refine qx_rd (va_runS (As := [.int w]) (rest := []) ⟨hx, hb, hml, hown, hts⟩ (c_Pa_kind l D cA w) (qx_kS hts mw_217 mw_218 mw_34 mw_219 cd_Pa_kind ⟨Nat.le_of_ble_eq_true rfl, Nat.le_of_ble_eq_true rfl⟩) (qx_preS hP hD hK hN [] rfl rfl) rfl rfl hl.1 rfl (lv_room (Nat.le_of_ble_eq_true rfl)) d_M_perform_1 ⟨Nat.zero_le _, Nat.zero_le _⟩) ?_
  refine lv_istore_n (lv' := [(2, .int (qf_Pa_kind w)), (0, .ref (ad 0)), (1, .int w)]) hx hb d_M_perform_4 rfl hl (by decide) rfl (fun ls hl => ?_)
  refine lv_iload_n hx hb d_M_perform_5 rfl (lv_at hl 0 rfl) ?_
  refine lv_bipush (v := 10) hx hb d_M_perform_6 (by decide) ?_
  refine lv_icmp_gt (tgt := 19) hx hb d_M_perform_8 (by decide) (fun h1 => ?_) (fun h1 => ?_)
  · skip
    refine lv_iload_n hx hb d_M_perform_19 rfl (lv_at hl 0 rfl) ?_
    refine lv_bipush (v := 12) hx hb d_M_perform_20 (by decide) ?_
    refine lv_icmp_gt (tgt := 33) hx hb d_M_perform_22 (by decide) (fun h2 => ?_) (fun h2 => ?_)
    · skip
      refine lv_iload_n hx hb d_M_perform_33 rfl (lv_at hl 0 rfl) ?_
      refine lv_bipush (v := 17) hx hb d_M_perform_34 (by decide) ?_
      refine lv_icmp_gt (tgt := 47) hx hb d_M_perform_36 (by decide) (fun h3 => ?_) (fun h3 => ?_)
      · skip
        refine lv_iload_n hx hb d_M_perform_47 rfl (lv_at hl 0 rfl) ?_
        refine lv_bipush (v := 21) hx hb d_M_perform_48 (by decide) ?_
        refine lv_icmp_ne (tgt := 67) hx hb d_M_perform_50 (by decide) (fun h4 => ?_) (fun h4 => ?_)
        · skip
          refine lv_aload_n hx hb d_M_perform_67 rfl (lv_at hl 1 rfl) ?_
          refine lv_iload_n hx hb d_M_perform_68 rfl (lv_at hl 2 rfl) ?_
          refine qx_muZ (T := qf_M_control st w) (Wf := fun zz : qs_M => qw_M ad cA zz) (vf := fun _ => none) (va_runV (As := [.int w]) (rest := []) ⟨hx, hb, hml, hown, hts⟩ (c_M_control l D cA ad st w) (qx_kV hts mw_311 mw_313 mw_12 mw_30 mw_314 cd_M_control ⟨Nat.le_of_ble_eq_true rfl, Nat.le_of_ble_eq_true rfl⟩) (qx_preV (q0 := 0) (ci := 1) (q := (R_M, T_M, 7)) hP hD hK hN [0, 1, 2, 3, 4, 5] rfl rfl rfl rfl) rfl rfl hl.1 rfl (lv_room (Nat.le_of_ble_eq_true rfl)) d_M_perform_69 ⟨Nat.zero_le _, Nat.zero_le _⟩) hP hD hS [0, 1, 2, 3, 4, 5] rfl rfl [ad 0, ad 1, ad 2, ad 3, ad 4, ad 5] rfl rfl (fun zz1 hzz1 H locs hP hD hS => ?_)
          have hP : va_P D vwCl (qw_M ad cA zz1) H := hP
          have hD : va_D A (qw_M ad cA zz1) := hD
          refine W.eq (g2 := F0 m 72 ls []) rfl ?_
          subst hzz1
          have e9 : (qf_M_control st w) = qf_M_perform st w := (by unfold qf_M_perform; rw [if_pos h1, if_pos h2, if_pos h3, if_neg h4])
          exact W.vret hx hb hr (fun t ht hW => ⟨rfl, (by rw [ht, ← e9]; exact hP), hS.F ht⟩) hS.2.2 d_M_perform_72
        · skip
          refine lv_aload_n hx hb d_M_perform_53 rfl (lv_at hl 1 rfl) ?_
          refine va_get (D := D) (ci := 1) (v := .ref (ad 4)) (C := R_M) (T := T_M) (N := 7) hx hb hts in_M hown hK hP 0 rfl rfl 3 (by decide) (hts (Cond.fieldLink R_M 24 "QueuedFronts$Machine" "flow" "LQueuedFronts$Flow;") mw_101) (fun _ h9 => h9) rfl d_M_perform_54 ?_
          refine lv_aload_n hx hb d_M_perform_57 rfl (lv_at hl 1 rfl) ?_
          refine va_get (D := D) (ci := 1) (v := .ref (ad 5)) (C := R_M) (T := T_M) (N := 7) hx hb hts in_M hown hK hP 0 rfl rfl 4 (by decide) (hts (Cond.fieldLink R_M 28 "QueuedFronts$Machine" "saved" "LQueuedFronts$Flow;") mw_103) (fun _ h9 => h9) rfl d_M_perform_58 ?_
          refine qx_muZ (T := qf_F_become st.2.2.2.1 st.2.2.2.2.1) (Wf := fun zz : qs_F => qw_M ad cA (qm_M_fl st zz)) (vf := fun _ => none) (va_runV (As := [.ref (ad 5)]) (rest := []) ⟨hx, hb, hml, hown, hts⟩ (c_F_become l D cA (ad 4) (ad 5) st.2.2.2.1 st.2.2.2.2.1) (qx_kV hts mw_200 mw_201 mw_202 mw_31 mw_203 cd_F_become ⟨Nat.le_of_ble_eq_true rfl, Nat.le_of_ble_eq_true rfl⟩) (qx_preV (q0 := 4) (ci := 2) (q := (R_F, T_F, 4)) hP hD hK hN [4, 5] rfl rfl rfl rfl) rfl rfl hl.1 rfl (lv_room (Nat.le_of_ble_eq_true rfl)) d_M_perform_61 ⟨Nat.zero_le _, Nat.zero_le _⟩) hP hD hS [4, 5] rfl rfl [ad 0, ad 1, ad 2, ad 3, ad 4, ad 5] rfl rfl (fun zz1 hzz1 H locs hP hD hS => ?_)
          have hP : va_P D vwCl (qw_M ad cA (qm_M_fl st zz1)) H := hP
          have hD : va_D A (qw_M ad cA (qm_M_fl st zz1)) := hD
          refine W.eq (g2 := F0 m 64 ls []) rfl ?_
          refine lv_goto (tgt := 72) hx hb d_M_perform_64 (by decide) ?_
          subst hzz1
          have e9 : (qm_M_fl st (qf_F_become st.2.2.2.1 st.2.2.2.2.1)) = qf_M_perform st w := (by unfold qf_M_perform; rw [if_pos h1, if_pos h2, if_pos h3, if_pos h4])
          exact W.vret hx hb hr (fun t ht hW => ⟨rfl, (by rw [ht, ← e9]; exact hP), hS.F ht⟩) hS.2.2 d_M_perform_72
      · skip
        refine lv_aload_n hx hb d_M_perform_39 rfl (lv_at hl 1 rfl) ?_
        refine lv_iload_n hx hb d_M_perform_40 rfl (lv_at hl 2 rfl) ?_
        refine qx_muZ (T := qf_M_branch st w) (Wf := fun zz : qs_M => qw_M ad cA zz) (vf := fun _ => none) (va_runV (As := [.int w]) (rest := []) ⟨hx, hb, hml, hown, hts⟩ (c_M_branch l D cA ad st w) (qx_kV hts mw_292 mw_294 mw_9 mw_30 mw_295 cd_M_branch ⟨Nat.le_of_ble_eq_true rfl, Nat.le_of_ble_eq_true rfl⟩) (qx_preV (q0 := 0) (ci := 1) (q := (R_M, T_M, 7)) hP hD hK hN [0, 1, 2, 3, 4, 5] rfl rfl rfl rfl) rfl rfl hl.1 rfl (lv_room (Nat.le_of_ble_eq_true rfl)) d_M_perform_41 ⟨Nat.zero_le _, Nat.zero_le _⟩) hP hD hS [0, 1, 2, 3, 4, 5] rfl rfl [ad 0, ad 1, ad 2, ad 3, ad 4, ad 5] rfl rfl (fun zz1 hzz1 H locs hP hD hS => ?_)
        have hP : va_P D vwCl (qw_M ad cA zz1) H := hP
        have hD : va_D A (qw_M ad cA zz1) := hD
        refine W.eq (g2 := F0 m 44 ls []) rfl ?_
        refine lv_goto (tgt := 72) hx hb d_M_perform_44 (by decide) ?_
        subst hzz1
        have e9 : (qf_M_branch st w) = qf_M_perform st w := (by unfold qf_M_perform; rw [if_pos h1, if_pos h2, if_neg h3])
        exact W.vret hx hb hr (fun t ht hW => ⟨rfl, (by rw [ht, ← e9]; exact hP), hS.F ht⟩) hS.2.2 d_M_perform_72
    · skip
      refine lv_aload_n hx hb d_M_perform_25 rfl (lv_at hl 1 rfl) ?_
      refine lv_iload_n hx hb d_M_perform_26 rfl (lv_at hl 2 rfl) ?_
      refine qx_muZ (T := qf_M_moveData st w) (Wf := fun zz : qs_M => qw_M ad cA zz) (vf := fun _ => none) (va_runV (As := [.int w]) (rest := []) ⟨hx, hb, hml, hown, hts⟩ (c_M_moveData l D cA ad st w hs) (qx_kV hts mw_276 mw_278 mw_6 mw_30 mw_279 cd_M_moveData ⟨Nat.le_of_ble_eq_true rfl, Nat.le_of_ble_eq_true rfl⟩) (qx_preV (q0 := 0) (ci := 1) (q := (R_M, T_M, 7)) hP hD hK hN [0, 1, 2, 3, 4, 5] rfl rfl rfl rfl) rfl rfl hl.1 rfl (lv_room (Nat.le_of_ble_eq_true rfl)) d_M_perform_27 ⟨Nat.zero_le _, Nat.zero_le _⟩) hP hD hS [0, 1, 2, 3, 4, 5] rfl rfl [ad 0, ad 1, ad 2, ad 3, ad 4, ad 5] rfl rfl (fun zz1 hzz1 H locs hP hD hS => ?_)
      have hP : va_P D vwCl (qw_M ad cA zz1) H := hP
      have hD : va_D A (qw_M ad cA zz1) := hD
      refine W.eq (g2 := F0 m 30 ls []) rfl ?_
      refine lv_goto (tgt := 72) hx hb d_M_perform_30 (by decide) ?_
      subst hzz1
      have e9 : (qf_M_moveData st w) = qf_M_perform st w := (by unfold qf_M_perform; rw [if_pos h1, if_neg h2])
      exact W.vret hx hb hr (fun t ht hW => ⟨rfl, (by rw [ht, ← e9]; exact hP), hS.F ht⟩) hS.2.2 d_M_perform_72
  · skip
    refine lv_aload_n hx hb d_M_perform_11 rfl (lv_at hl 1 rfl) ?_
    refine lv_iload_n hx hb d_M_perform_12 rfl (lv_at hl 2 rfl) ?_
    refine qx_muZ (T := qf_M_reckon st w) (Wf := fun zz : qs_M => qw_M ad cA zz) (vf := fun _ => none) (va_runV (As := [.int w]) (rest := []) ⟨hx, hb, hml, hown, hts⟩ (c_M_reckon l D cA ad st w) (qx_kV hts mw_245 mw_247 mw_4 mw_30 mw_248 cd_M_reckon ⟨Nat.le_of_ble_eq_true rfl, Nat.le_of_ble_eq_true rfl⟩) (qx_preV (q0 := 0) (ci := 1) (q := (R_M, T_M, 7)) hP hD hK hN [0, 1, 2, 3, 4, 5] rfl rfl rfl rfl) rfl rfl hl.1 rfl (lv_room (Nat.le_of_ble_eq_true rfl)) d_M_perform_13 ⟨Nat.zero_le _, Nat.zero_le _⟩) hP hD hS [0, 1, 2, 3, 4, 5] rfl rfl [ad 0, ad 1, ad 2, ad 3, ad 4, ad 5] rfl rfl (fun zz1 hzz1 H locs hP hD hS => ?_)
    have hP : va_P D vwCl (qw_M ad cA zz1) H := hP
    have hD : va_D A (qw_M ad cA zz1) := hD
    refine W.eq (g2 := F0 m 16 ls []) rfl ?_
    refine lv_goto (tgt := 72) hx hb d_M_perform_16 (by decide) ?_
    subst hzz1
    have e9 : (qf_M_reckon st w) = qf_M_perform st w := (by unfold qf_M_perform; rw [if_neg h1])
    exact W.vret hx hb hr (fun t ht hW => ⟨rfl, (by rw [ht, ← e9]; exact hP), hS.F ht⟩) hS.2.2 d_M_perform_72
end
