def qf_Pl_of (x : Int32) (y : Int32) : Int32 :=
  (((x &&& 3) * 32) + (y &&& 31))
set_option maxHeartbeats 4000000 in
set_option maxRecDepth 100000 in
theorem c_Pl_of (l : Launch) (D : va_G) (cA : ClassId) (x : Int32) (y : Int32) : Met l y_Pl_of (Cond.code y_Pl_of b_Pl_of 2 (some .int) :: qx_T) ({ frames := 0, cells := 0, slots := 0, locals := 0 }) (qx_Pc D vwCl [(cA, .int)] ([]) [.int x, .int y]) (k2_QcV (.int (qf_Pl_of x y))) 0 0 (fun _ => False) := by
  refine Met.ofW (cc := b_Pl_of) (maxL := 2) (ret := (some .int)) (by decide) rfl ?_
  intro p e s m args below meth c s₁ B hml hv
  obtain ⟨rfl, hP, hK, hN, hD0⟩ := hv
  have hx := B.exec
  have hb := B.bytes
  have hr := B.returns
  have hts0 := atoms_spec (ws := Cond.code y_Pl_of b_Pl_of 2 (some .int) :: qx_T) B.pre
  have hts := fun w h => hts0 w (List.mem_cons_of_mem _ h)
  have hown : s.vm.findClass R_Pl = some m.cls := findClass_of_methodNamed B.named
  have hlocks := B.notSynchronized
  have hD : va_D (qx_ad ([])) ([]) := ⟨hD0.1, fun k q hk => ⟨k, q.2, hk⟩⟩
  generalize hAe : qx_ad ([]) = A at hD
  have hS : va_S A s.heap s.heap [] := va_S.rf
  have hl := lv_entry ([.int x, .int y]) (n := 2) (Nat.le_of_ble_eq_true rfl)
  rw [lg_entry_eq]
  generalize (lg_sl ([.int x, .int y]) ++ List.replicate (2 - (lg_sl ([.int x, .int y])).length) Slot.unset).toArray = ls at hl ⊢
  have hl : lv_has ls 2 [(0, .int x), (1, .int y)] := hl
  refine lv_iload_n hx hb d_Pl_of_0 rfl (lv_at hl 0 rfl) ?_
  refine lv_iconst (v := 3) hx hb d_Pl_of_1 (by decide) ?_
  refine lv_iand hx hb d_Pl_of_2 ?_
  refine lv_bipush (v := 32) hx hb d_Pl_of_3 (by decide) ?_
  refine lv_imul hx hb d_Pl_of_5 ?_
  refine lv_iload_n hx hb d_Pl_of_6 rfl (lv_at hl 1 rfl) ?_
  refine lv_bipush (v := 31) hx hb d_Pl_of_7 (by decide) ?_
  refine lv_iand hx hb d_Pl_of_9 ?_
  refine lv_iadd hx hb d_Pl_of_10 ?_
  exact W.iret hx hb hr (fun t ht hW => ⟨congrArg (fun z => Outcome.returned (some (Value.int z))) (show (((x &&& 3) * 32) + (y &&& 31)) = qf_Pl_of x y from rfl), ht⟩) (fun _ h => absurd h List.not_mem_nil) d_Pl_of_11
def qf_Pl_spaceOf (x : Int32) : Int32 :=
  (x / 32)
set_option maxHeartbeats 4000000 in
set_option maxRecDepth 100000 in
theorem c_Pl_spaceOf (l : Launch) (D : va_G) (cA : ClassId) (x : Int32) : Met l y_Pl_spaceOf (Cond.code y_Pl_spaceOf b_Pl_spaceOf 1 (some .int) :: qx_T) ({ frames := 0, cells := 0, slots := 0, locals := 0 }) (qx_Pc D vwCl [(cA, .int)] ([]) [.int x]) (k2_QcV (.int (qf_Pl_spaceOf x))) 0 0 (fun _ => False) := by
  refine Met.ofW (cc := b_Pl_spaceOf) (maxL := 1) (ret := (some .int)) (by decide) rfl ?_
  intro p e s m args below meth c s₁ B hml hv
  obtain ⟨rfl, hP, hK, hN, hD0⟩ := hv
  have hx := B.exec
  have hb := B.bytes
  have hr := B.returns
  have hts0 := atoms_spec (ws := Cond.code y_Pl_spaceOf b_Pl_spaceOf 1 (some .int) :: qx_T) B.pre
  have hts := fun w h => hts0 w (List.mem_cons_of_mem _ h)
  have hown : s.vm.findClass R_Pl = some m.cls := findClass_of_methodNamed B.named
  have hlocks := B.notSynchronized
  have hD : va_D (qx_ad ([])) ([]) := ⟨hD0.1, fun k q hk => ⟨k, q.2, hk⟩⟩
  generalize hAe : qx_ad ([]) = A at hD
  have hS : va_S A s.heap s.heap [] := va_S.rf
  have hl := lv_entry ([.int x]) (n := 1) (Nat.le_of_ble_eq_true rfl)
  rw [lg_entry_eq]
  generalize (lg_sl ([.int x]) ++ List.replicate (1 - (lg_sl ([.int x])).length) Slot.unset).toArray = ls at hl ⊢
  have hl : lv_has ls 1 [(0, .int x)] := hl
  refine lv_iload_n hx hb d_Pl_spaceOf_0 rfl (lv_at hl 0 rfl) ?_
  refine lv_bipush (v := 32) hx hb d_Pl_spaceOf_1 (by decide) ?_
  refine lv_idiv hx hb d_Pl_spaceOf_3 (by decide) ?_
  exact W.iret hx hb hr (fun t ht hW => ⟨congrArg (fun z => Outcome.returned (some (Value.int z))) (show (x / 32) = qf_Pl_spaceOf x from rfl), ht⟩) (fun _ h => absurd h List.not_mem_nil) d_Pl_spaceOf_4
def qf_Pl_offsetOf (x : Int32) : Int32 :=
  (x - (x / 32) * 32)
set_option maxHeartbeats 4000000 in
set_option maxRecDepth 100000 in
theorem c_Pl_offsetOf (l : Launch) (D : va_G) (cA : ClassId) (x : Int32) : Met l y_Pl_offsetOf (Cond.code y_Pl_offsetOf b_Pl_offsetOf 1 (some .int) :: qx_T) ({ frames := 0, cells := 0, slots := 0, locals := 0 }) (qx_Pc D vwCl [(cA, .int)] ([]) [.int x]) (k2_QcV (.int (qf_Pl_offsetOf x))) 0 0 (fun _ => False) := by
  refine Met.ofW (cc := b_Pl_offsetOf) (maxL := 1) (ret := (some .int)) (by decide) rfl ?_
  intro p e s m args below meth c s₁ B hml hv
  obtain ⟨rfl, hP, hK, hN, hD0⟩ := hv
  have hx := B.exec
  have hb := B.bytes
  have hr := B.returns
  have hts0 := atoms_spec (ws := Cond.code y_Pl_offsetOf b_Pl_offsetOf 1 (some .int) :: qx_T) B.pre
  have hts := fun w h => hts0 w (List.mem_cons_of_mem _ h)
  have hown : s.vm.findClass R_Pl = some m.cls := findClass_of_methodNamed B.named
  have hlocks := B.notSynchronized
  have hD : va_D (qx_ad ([])) ([]) := ⟨hD0.1, fun k q hk => ⟨k, q.2, hk⟩⟩
  generalize hAe : qx_ad ([]) = A at hD
  have hS : va_S A s.heap s.heap [] := va_S.rf
  have hl := lv_entry ([.int x]) (n := 1) (Nat.le_of_ble_eq_true rfl)
  rw [lg_entry_eq]
  generalize (lg_sl ([.int x]) ++ List.replicate (1 - (lg_sl ([.int x])).length) Slot.unset).toArray = ls at hl ⊢
  have hl : lv_has ls 1 [(0, .int x)] := hl
  refine lv_iload_n hx hb d_Pl_offsetOf_0 rfl (lv_at hl 0 rfl) ?_
  refine lv_bipush (v := 32) hx hb d_Pl_offsetOf_1 (by decide) ?_
  refine lv_irem hx hb d_Pl_offsetOf_3 (by decide) ?_
  exact W.iret hx hb hr (fun t ht hW => ⟨congrArg (fun z => Outcome.returned (some (Value.int z))) (show (x - (x / 32) * 32) = qf_Pl_offsetOf x from rfl), ht⟩) (fun _ h => absurd h List.not_mem_nil) d_Pl_offsetOf_4
def qf_Pl_behind (x : Int32) : Int32 :=
  qf_Pl_of (qf_Pl_spaceOf x) (qf_Pl_offsetOf x + 1)
set_option maxHeartbeats 4000000 in
set_option maxRecDepth 100000 in
theorem c_Pl_behind (l : Launch) (D : va_G) (cA : ClassId) (x : Int32) : Met l y_Pl_behind (Cond.code y_Pl_behind b_Pl_behind 1 (some .int) :: qx_T) ({ frames := 1, cells := 0, slots := 0, locals := 21 }) (qx_Pc D vwCl [(cA, .int)] ([]) [.int x]) (k2_QcV (.int (qf_Pl_behind x))) 0 0 (fun _ => False) := by
  refine Met.ofW (cc := b_Pl_behind) (maxL := 1) (ret := (some .int)) (by decide) rfl ?_
  intro p e s m args below meth c s₁ B hml hv
  obtain ⟨rfl, hP, hK, hN, hD0⟩ := hv
  have hx := B.exec
  have hb := B.bytes
  have hr := B.returns
  have hts0 := atoms_spec (ws := Cond.code y_Pl_behind b_Pl_behind 1 (some .int) :: qx_T) B.pre
  have hts := fun w h => hts0 w (List.mem_cons_of_mem _ h)
  have hown : s.vm.findClass R_Pl = some m.cls := findClass_of_methodNamed B.named
  have hlocks := B.notSynchronized
  have hD : va_D (qx_ad ([])) ([]) := ⟨hD0.1, fun k q hk => ⟨k, q.2, hk⟩⟩
  generalize hAe : qx_ad ([]) = A at hD
  have hS : va_S A s.heap s.heap [] := va_S.rf
  have hl := lv_entry ([.int x]) (n := 1) (Nat.le_of_ble_eq_true rfl)
  rw [lg_entry_eq]
  generalize (lg_sl ([.int x]) ++ List.replicate (1 - (lg_sl ([.int x])).length) Slot.unset).toArray = ls at hl ⊢
  have hl : lv_has ls 1 [(0, .int x)] := hl
  refine lv_iload_n hx hb d_Pl_behind_0 rfl (lv_at hl 0 rfl) ?_
  refine qx_rd (va_runS (As := [.int x]) (rest := []) ⟨hx, hb, hml, hown, hts⟩ (c_Pl_spaceOf l D cA x) (qx_kS hts mw_86 mw_87 mw_32 mw_88 cd_Pl_spaceOf ⟨Nat.le_of_ble_eq_true rfl, Nat.le_of_ble_eq_true rfl⟩) (qx_preS hP hD hK hN [] rfl rfl) rfl rfl hl.1 rfl (lv_room (Nat.le_of_ble_eq_true rfl)) d_Pl_behind_1 ⟨Nat.zero_le _, Nat.zero_le _⟩) ?_
  refine lv_iload_n hx hb d_Pl_behind_4 rfl (lv_at hl 0 rfl) ?_
  refine qx_rd (va_runS (As := [.int x]) (rest := [.int (qf_Pl_spaceOf x)]) ⟨hx, hb, hml, hown, hts⟩ (c_Pl_offsetOf l D cA x) (qx_kS hts mw_89 mw_90 mw_32 mw_91 cd_Pl_offsetOf ⟨Nat.le_of_ble_eq_true rfl, Nat.le_of_ble_eq_true rfl⟩) (qx_preS hP hD hK hN [] rfl rfl) rfl rfl hl.1 rfl (lv_room (Nat.le_of_ble_eq_true rfl)) d_Pl_behind_5 ⟨Nat.zero_le _, Nat.zero_le _⟩) ?_
  refine lv_iconst (v := 1) hx hb d_Pl_behind_8 (by decide) ?_
  refine lv_iadd hx hb d_Pl_behind_9 ?_
  refine qx_rd (va_runS (As := [.int (qf_Pl_spaceOf x), .int (qf_Pl_offsetOf x + 1)]) (rest := []) ⟨hx, hb, hml, hown, hts⟩ (c_Pl_of l D cA (qf_Pl_spaceOf x) (qf_Pl_offsetOf x + 1)) (qx_kS hts mw_92 mw_93 mw_32 mw_94 cd_Pl_of ⟨Nat.le_of_ble_eq_true rfl, Nat.le_of_ble_eq_true rfl⟩) (qx_preS hP hD hK hN [] rfl rfl) rfl rfl hl.1 rfl (lv_room (Nat.le_of_ble_eq_true rfl)) d_Pl_behind_10 ⟨Nat.zero_le _, Nat.zero_le _⟩) ?_
  exact W.iret hx hb hr (fun t ht hW => ⟨congrArg (fun z => Outcome.returned (some (Value.int z))) (show qf_Pl_of (qf_Pl_spaceOf x) (qf_Pl_offsetOf x + 1) = qf_Pl_behind x from rfl), ht⟩) (fun _ h => absurd h List.not_mem_nil) d_Pl_behind_13
def qf_Pa_kind (w : Int32) : Int32 :=
  (qf_ush w 27)
set_option maxHeartbeats 4000000 in
set_option maxRecDepth 100000 in
theorem c_Pa_kind (l : Launch) (D : va_G) (cA : ClassId) (w : Int32) : Met l y_Pa_kind (Cond.code y_Pa_kind b_Pa_kind 1 (some .int) :: qx_T) ({ frames := 0, cells := 0, slots := 0, locals := 0 }) (qx_Pc D vwCl [(cA, .int)] ([]) [.int w]) (k2_QcV (.int (qf_Pa_kind w))) 0 0 (fun _ => False) := by
  refine Met.ofW (cc := b_Pa_kind) (maxL := 1) (ret := (some .int)) (by decide) rfl ?_
  intro p e s m args below meth c s₁ B hml hv
  obtain ⟨rfl, hP, hK, hN, hD0⟩ := hv
  have hx := B.exec
  have hb := B.bytes
  have hr := B.returns
  have hts0 := atoms_spec (ws := Cond.code y_Pa_kind b_Pa_kind 1 (some .int) :: qx_T) B.pre
  have hts := fun w h => hts0 w (List.mem_cons_of_mem _ h)
  have hown : s.vm.findClass R_Pa = some m.cls := findClass_of_methodNamed B.named
  have hlocks := B.notSynchronized
  have hD : va_D (qx_ad ([])) ([]) := ⟨hD0.1, fun k q hk => ⟨k, q.2, hk⟩⟩
  generalize hAe : qx_ad ([]) = A at hD
  have hS : va_S A s.heap s.heap [] := va_S.rf
  have hl := lv_entry ([.int w]) (n := 1) (Nat.le_of_ble_eq_true rfl)
  rw [lg_entry_eq]
  generalize (lg_sl ([.int w]) ++ List.replicate (1 - (lg_sl ([.int w])).length) Slot.unset).toArray = ls at hl ⊢
  have hl : lv_has ls 1 [(0, .int w)] := hl
  refine lv_iload_n hx hb d_Pa_kind_0 rfl (lv_at hl 0 rfl) ?_
  refine lv_bipush (v := 27) hx hb d_Pa_kind_1 (by decide) ?_
  refine lv_iushr (v := (qf_ush w 27)) hx hb d_Pa_kind_3 rfl ?_
  exact W.iret hx hb hr (fun t ht hW => ⟨congrArg (fun z => Outcome.returned (some (Value.int z))) (show (qf_ush w 27) = qf_Pa_kind w from rfl), ht⟩) (fun _ h => absurd h List.not_mem_nil) d_Pa_kind_4
def qf_Pa_t (w : Int32) : Int32 :=
  ((qf_ush w 24) &&& 7)
set_option maxHeartbeats 4000000 in
set_option maxRecDepth 100000 in
theorem c_Pa_t (l : Launch) (D : va_G) (cA : ClassId) (w : Int32) : Met l y_Pa_t (Cond.code y_Pa_t b_Pa_t 1 (some .int) :: qx_T) ({ frames := 0, cells := 0, slots := 0, locals := 0 }) (qx_Pc D vwCl [(cA, .int)] ([]) [.int w]) (k2_QcV (.int (qf_Pa_t w))) 0 0 (fun _ => False) := by
  refine Met.ofW (cc := b_Pa_t) (maxL := 1) (ret := (some .int)) (by decide) rfl ?_
  intro p e s m args below meth c s₁ B hml hv
  obtain ⟨rfl, hP, hK, hN, hD0⟩ := hv
  have hx := B.exec
  have hb := B.bytes
  have hr := B.returns
  have hts0 := atoms_spec (ws := Cond.code y_Pa_t b_Pa_t 1 (some .int) :: qx_T) B.pre
  have hts := fun w h => hts0 w (List.mem_cons_of_mem _ h)
  have hown : s.vm.findClass R_Pa = some m.cls := findClass_of_methodNamed B.named
  have hlocks := B.notSynchronized
  have hD : va_D (qx_ad ([])) ([]) := ⟨hD0.1, fun k q hk => ⟨k, q.2, hk⟩⟩
  generalize hAe : qx_ad ([]) = A at hD
  have hS : va_S A s.heap s.heap [] := va_S.rf
  have hl := lv_entry ([.int w]) (n := 1) (Nat.le_of_ble_eq_true rfl)
  rw [lg_entry_eq]
  generalize (lg_sl ([.int w]) ++ List.replicate (1 - (lg_sl ([.int w])).length) Slot.unset).toArray = ls at hl ⊢
  have hl : lv_has ls 1 [(0, .int w)] := hl
  refine lv_iload_n hx hb d_Pa_t_0 rfl (lv_at hl 0 rfl) ?_
  refine lv_bipush (v := 24) hx hb d_Pa_t_1 (by decide) ?_
  refine lv_iushr (v := (qf_ush w 24)) hx hb d_Pa_t_3 rfl ?_
  refine lv_bipush (v := 7) hx hb d_Pa_t_4 (by decide) ?_
  refine lv_iand hx hb d_Pa_t_6 ?_
  exact W.iret hx hb hr (fun t ht hW => ⟨congrArg (fun z => Outcome.returned (some (Value.int z))) (show ((qf_ush w 24) &&& 7) = qf_Pa_t w from rfl), ht⟩) (fun _ h => absurd h List.not_mem_nil) d_Pa_t_7
def qf_Pa_a (w : Int32) : Int32 :=
  ((qf_ush w 21) &&& 7)
set_option maxHeartbeats 4000000 in
set_option maxRecDepth 100000 in
theorem c_Pa_a (l : Launch) (D : va_G) (cA : ClassId) (w : Int32) : Met l y_Pa_a (Cond.code y_Pa_a b_Pa_a 1 (some .int) :: qx_T) ({ frames := 0, cells := 0, slots := 0, locals := 0 }) (qx_Pc D vwCl [(cA, .int)] ([]) [.int w]) (k2_QcV (.int (qf_Pa_a w))) 0 0 (fun _ => False) := by
  refine Met.ofW (cc := b_Pa_a) (maxL := 1) (ret := (some .int)) (by decide) rfl ?_
  intro p e s m args below meth c s₁ B hml hv
  obtain ⟨rfl, hP, hK, hN, hD0⟩ := hv
  have hx := B.exec
  have hb := B.bytes
  have hr := B.returns
  have hts0 := atoms_spec (ws := Cond.code y_Pa_a b_Pa_a 1 (some .int) :: qx_T) B.pre
  have hts := fun w h => hts0 w (List.mem_cons_of_mem _ h)
  have hown : s.vm.findClass R_Pa = some m.cls := findClass_of_methodNamed B.named
  have hlocks := B.notSynchronized
  have hD : va_D (qx_ad ([])) ([]) := ⟨hD0.1, fun k q hk => ⟨k, q.2, hk⟩⟩
  generalize hAe : qx_ad ([]) = A at hD
  have hS : va_S A s.heap s.heap [] := va_S.rf
  have hl := lv_entry ([.int w]) (n := 1) (Nat.le_of_ble_eq_true rfl)
  rw [lg_entry_eq]
  generalize (lg_sl ([.int w]) ++ List.replicate (1 - (lg_sl ([.int w])).length) Slot.unset).toArray = ls at hl ⊢
  have hl : lv_has ls 1 [(0, .int w)] := hl
  refine lv_iload_n hx hb d_Pa_a_0 rfl (lv_at hl 0 rfl) ?_
  refine lv_bipush (v := 21) hx hb d_Pa_a_1 (by decide) ?_
  refine lv_iushr (v := (qf_ush w 21)) hx hb d_Pa_a_3 rfl ?_
  refine lv_bipush (v := 7) hx hb d_Pa_a_4 (by decide) ?_
  refine lv_iand hx hb d_Pa_a_6 ?_
  exact W.iret hx hb hr (fun t ht hW => ⟨congrArg (fun z => Outcome.returned (some (Value.int z))) (show ((qf_ush w 21) &&& 7) = qf_Pa_a w from rfl), ht⟩) (fun _ h => absurd h List.not_mem_nil) d_Pa_a_7
def qf_Pa_b (w : Int32) : Int32 :=
  ((qf_ush w 18) &&& 7)
set_option maxHeartbeats 4000000 in
set_option maxRecDepth 100000 in
theorem c_Pa_b (l : Launch) (D : va_G) (cA : ClassId) (w : Int32) : Met l y_Pa_b (Cond.code y_Pa_b b_Pa_b 1 (some .int) :: qx_T) ({ frames := 0, cells := 0, slots := 0, locals := 0 }) (qx_Pc D vwCl [(cA, .int)] ([]) [.int w]) (k2_QcV (.int (qf_Pa_b w))) 0 0 (fun _ => False) := by
  refine Met.ofW (cc := b_Pa_b) (maxL := 1) (ret := (some .int)) (by decide) rfl ?_
  intro p e s m args below meth c s₁ B hml hv
  obtain ⟨rfl, hP, hK, hN, hD0⟩ := hv
  have hx := B.exec
  have hb := B.bytes
  have hr := B.returns
  have hts0 := atoms_spec (ws := Cond.code y_Pa_b b_Pa_b 1 (some .int) :: qx_T) B.pre
  have hts := fun w h => hts0 w (List.mem_cons_of_mem _ h)
  have hown : s.vm.findClass R_Pa = some m.cls := findClass_of_methodNamed B.named
  have hlocks := B.notSynchronized
  have hD : va_D (qx_ad ([])) ([]) := ⟨hD0.1, fun k q hk => ⟨k, q.2, hk⟩⟩
  generalize hAe : qx_ad ([]) = A at hD
  have hS : va_S A s.heap s.heap [] := va_S.rf
  have hl := lv_entry ([.int w]) (n := 1) (Nat.le_of_ble_eq_true rfl)
  rw [lg_entry_eq]
  generalize (lg_sl ([.int w]) ++ List.replicate (1 - (lg_sl ([.int w])).length) Slot.unset).toArray = ls at hl ⊢
  have hl : lv_has ls 1 [(0, .int w)] := hl
  refine lv_iload_n hx hb d_Pa_b_0 rfl (lv_at hl 0 rfl) ?_
  refine lv_bipush (v := 18) hx hb d_Pa_b_1 (by decide) ?_
  refine lv_iushr (v := (qf_ush w 18)) hx hb d_Pa_b_3 rfl ?_
  refine lv_bipush (v := 7) hx hb d_Pa_b_4 (by decide) ?_
  refine lv_iand hx hb d_Pa_b_6 ?_
  exact W.iret hx hb hr (fun t ht hW => ⟨congrArg (fun z => Outcome.returned (some (Value.int z))) (show ((qf_ush w 18) &&& 7) = qf_Pa_b w from rfl), ht⟩) (fun _ h => absurd h List.not_mem_nil) d_Pa_b_7
def qf_Pa_spaceRegister (w : Int32) : Int32 :=
  ((qf_ush w 18) &&& 3)
set_option maxHeartbeats 4000000 in
set_option maxRecDepth 100000 in
theorem c_Pa_spaceRegister (l : Launch) (D : va_G) (cA : ClassId) (w : Int32) : Met l y_Pa_spaceRegister (Cond.code y_Pa_spaceRegister b_Pa_spaceRegister 1 (some .int) :: qx_T) ({ frames := 0, cells := 0, slots := 0, locals := 0 }) (qx_Pc D vwCl [(cA, .int)] ([]) [.int w]) (k2_QcV (.int (qf_Pa_spaceRegister w))) 0 0 (fun _ => False) := by
  refine Met.ofW (cc := b_Pa_spaceRegister) (maxL := 1) (ret := (some .int)) (by decide) rfl ?_
  intro p e s m args below meth c s₁ B hml hv
  obtain ⟨rfl, hP, hK, hN, hD0⟩ := hv
  have hx := B.exec
  have hb := B.bytes
  have hr := B.returns
  have hts0 := atoms_spec (ws := Cond.code y_Pa_spaceRegister b_Pa_spaceRegister 1 (some .int) :: qx_T) B.pre
  have hts := fun w h => hts0 w (List.mem_cons_of_mem _ h)
  have hown : s.vm.findClass R_Pa = some m.cls := findClass_of_methodNamed B.named
  have hlocks := B.notSynchronized
  have hD : va_D (qx_ad ([])) ([]) := ⟨hD0.1, fun k q hk => ⟨k, q.2, hk⟩⟩
  generalize hAe : qx_ad ([]) = A at hD
  have hS : va_S A s.heap s.heap [] := va_S.rf
  have hl := lv_entry ([.int w]) (n := 1) (Nat.le_of_ble_eq_true rfl)
  rw [lg_entry_eq]
  generalize (lg_sl ([.int w]) ++ List.replicate (1 - (lg_sl ([.int w])).length) Slot.unset).toArray = ls at hl ⊢
  have hl : lv_has ls 1 [(0, .int w)] := hl
  refine lv_iload_n hx hb d_Pa_spaceRegister_0 rfl (lv_at hl 0 rfl) ?_
  refine lv_bipush (v := 18) hx hb d_Pa_spaceRegister_1 (by decide) ?_
  refine lv_iushr (v := (qf_ush w 18)) hx hb d_Pa_spaceRegister_3 rfl ?_
  refine lv_iconst (v := 3) hx hb d_Pa_spaceRegister_4 (by decide) ?_
  refine lv_iand hx hb d_Pa_spaceRegister_5 ?_
  exact W.iret hx hb hr (fun t ht hW => ⟨congrArg (fun z => Outcome.returned (some (Value.int z))) (show ((qf_ush w 18) &&& 3) = qf_Pa_spaceRegister w from rfl), ht⟩) (fun _ h => absurd h List.not_mem_nil) d_Pa_spaceRegister_6
def qf_Pa_condition (w : Int32) : Int32 :=
  ((qf_ush w 15) &&& 7)
set_option maxHeartbeats 4000000 in
set_option maxRecDepth 100000 in
theorem c_Pa_condition (l : Launch) (D : va_G) (cA : ClassId) (w : Int32) : Met l y_Pa_condition (Cond.code y_Pa_condition b_Pa_condition 1 (some .int) :: qx_T) ({ frames := 0, cells := 0, slots := 0, locals := 0 }) (qx_Pc D vwCl [(cA, .int)] ([]) [.int w]) (k2_QcV (.int (qf_Pa_condition w))) 0 0 (fun _ => False) := by
  refine Met.ofW (cc := b_Pa_condition) (maxL := 1) (ret := (some .int)) (by decide) rfl ?_
  intro p e s m args below meth c s₁ B hml hv
  obtain ⟨rfl, hP, hK, hN, hD0⟩ := hv
  have hx := B.exec
  have hb := B.bytes
  have hr := B.returns
  have hts0 := atoms_spec (ws := Cond.code y_Pa_condition b_Pa_condition 1 (some .int) :: qx_T) B.pre
  have hts := fun w h => hts0 w (List.mem_cons_of_mem _ h)
  have hown : s.vm.findClass R_Pa = some m.cls := findClass_of_methodNamed B.named
  have hlocks := B.notSynchronized
  have hD : va_D (qx_ad ([])) ([]) := ⟨hD0.1, fun k q hk => ⟨k, q.2, hk⟩⟩
  generalize hAe : qx_ad ([]) = A at hD
  have hS : va_S A s.heap s.heap [] := va_S.rf
  have hl := lv_entry ([.int w]) (n := 1) (Nat.le_of_ble_eq_true rfl)
  rw [lg_entry_eq]
  generalize (lg_sl ([.int w]) ++ List.replicate (1 - (lg_sl ([.int w])).length) Slot.unset).toArray = ls at hl ⊢
  have hl : lv_has ls 1 [(0, .int w)] := hl
  refine lv_iload_n hx hb d_Pa_condition_0 rfl (lv_at hl 0 rfl) ?_
  refine lv_bipush (v := 15) hx hb d_Pa_condition_1 (by decide) ?_
  refine lv_iushr (v := (qf_ush w 15)) hx hb d_Pa_condition_3 rfl ?_
  refine lv_bipush (v := 7) hx hb d_Pa_condition_4 (by decide) ?_
  refine lv_iand hx hb d_Pa_condition_6 ?_
  exact W.iret hx hb hr (fun t ht hW => ⟨congrArg (fun z => Outcome.returned (some (Value.int z))) (show ((qf_ush w 15) &&& 7) = qf_Pa_condition w from rfl), ht⟩) (fun _ h => absurd h List.not_mem_nil) d_Pa_condition_7
def qf_Pa_n (w : Int32) : Int32 :=
  ((qf_ush w 14) &&& 1)
set_option maxHeartbeats 4000000 in
set_option maxRecDepth 100000 in
theorem c_Pa_n (l : Launch) (D : va_G) (cA : ClassId) (w : Int32) : Met l y_Pa_n (Cond.code y_Pa_n b_Pa_n 1 (some .int) :: qx_T) ({ frames := 0, cells := 0, slots := 0, locals := 0 }) (qx_Pc D vwCl [(cA, .int)] ([]) [.int w]) (k2_QcV (.int (qf_Pa_n w))) 0 0 (fun _ => False) := by
  refine Met.ofW (cc := b_Pa_n) (maxL := 1) (ret := (some .int)) (by decide) rfl ?_
  intro p e s m args below meth c s₁ B hml hv
  obtain ⟨rfl, hP, hK, hN, hD0⟩ := hv
  have hx := B.exec
  have hb := B.bytes
  have hr := B.returns
  have hts0 := atoms_spec (ws := Cond.code y_Pa_n b_Pa_n 1 (some .int) :: qx_T) B.pre
  have hts := fun w h => hts0 w (List.mem_cons_of_mem _ h)
  have hown : s.vm.findClass R_Pa = some m.cls := findClass_of_methodNamed B.named
  have hlocks := B.notSynchronized
  have hD : va_D (qx_ad ([])) ([]) := ⟨hD0.1, fun k q hk => ⟨k, q.2, hk⟩⟩
  generalize hAe : qx_ad ([]) = A at hD
  have hS : va_S A s.heap s.heap [] := va_S.rf
  have hl := lv_entry ([.int w]) (n := 1) (Nat.le_of_ble_eq_true rfl)
  rw [lg_entry_eq]
  generalize (lg_sl ([.int w]) ++ List.replicate (1 - (lg_sl ([.int w])).length) Slot.unset).toArray = ls at hl ⊢
  have hl : lv_has ls 1 [(0, .int w)] := hl
  refine lv_iload_n hx hb d_Pa_n_0 rfl (lv_at hl 0 rfl) ?_
  refine lv_bipush (v := 14) hx hb d_Pa_n_1 (by decide) ?_
  refine lv_iushr (v := (qf_ush w 14)) hx hb d_Pa_n_3 rfl ?_
  refine lv_iconst (v := 1) hx hb d_Pa_n_4 (by decide) ?_
  refine lv_iand hx hb d_Pa_n_5 ?_
  exact W.iret hx hb hr (fun t ht hW => ⟨congrArg (fun z => Outcome.returned (some (Value.int z))) (show ((qf_ush w 14) &&& 1) = qf_Pa_n w from rfl), ht⟩) (fun _ h => absurd h List.not_mem_nil) d_Pa_n_6
def qf_Pa_m (w : Int32) : Int32 :=
  ((w <<< ((18 : Int32) &&& 31)) >>> ((18 : Int32) &&& 31))
set_option maxHeartbeats 4000000 in
set_option maxRecDepth 100000 in
theorem c_Pa_m (l : Launch) (D : va_G) (cA : ClassId) (w : Int32) : Met l y_Pa_m (Cond.code y_Pa_m b_Pa_m 1 (some .int) :: qx_T) ({ frames := 0, cells := 0, slots := 0, locals := 0 }) (qx_Pc D vwCl [(cA, .int)] ([]) [.int w]) (k2_QcV (.int (qf_Pa_m w))) 0 0 (fun _ => False) := by
  refine Met.ofW (cc := b_Pa_m) (maxL := 1) (ret := (some .int)) (by decide) rfl ?_
  intro p e s m args below meth c s₁ B hml hv
  obtain ⟨rfl, hP, hK, hN, hD0⟩ := hv
  have hx := B.exec
  have hb := B.bytes
  have hr := B.returns
  have hts0 := atoms_spec (ws := Cond.code y_Pa_m b_Pa_m 1 (some .int) :: qx_T) B.pre
  have hts := fun w h => hts0 w (List.mem_cons_of_mem _ h)
  have hown : s.vm.findClass R_Pa = some m.cls := findClass_of_methodNamed B.named
  have hlocks := B.notSynchronized
  have hD : va_D (qx_ad ([])) ([]) := ⟨hD0.1, fun k q hk => ⟨k, q.2, hk⟩⟩
  generalize hAe : qx_ad ([]) = A at hD
  have hS : va_S A s.heap s.heap [] := va_S.rf
  have hl := lv_entry ([.int w]) (n := 1) (Nat.le_of_ble_eq_true rfl)
  rw [lg_entry_eq]
  generalize (lg_sl ([.int w]) ++ List.replicate (1 - (lg_sl ([.int w])).length) Slot.unset).toArray = ls at hl ⊢
  have hl : lv_has ls 1 [(0, .int w)] := hl
  refine lv_iload_n hx hb d_Pa_m_0 rfl (lv_at hl 0 rfl) ?_
  refine lv_bipush (v := 18) hx hb d_Pa_m_1 (by decide) ?_
  refine lv_ishl hx hb d_Pa_m_3 ?_
  refine lv_bipush (v := 18) hx hb d_Pa_m_4 (by decide) ?_
  refine lv_ishr hx hb d_Pa_m_6 ?_
  exact W.iret hx hb hr (fun t ht hW => ⟨congrArg (fun z => Outcome.returned (some (Value.int z))) (show ((w <<< ((18 : Int32) &&& 31)) >>> ((18 : Int32) &&& 31)) = qf_Pa_m w from rfl), ht⟩) (fun _ h => absurd h List.not_mem_nil) d_Pa_m_7
theorem qi_Pl (x y : Int32) : vp_in (qf_Pl_of x y) 128 := qi_row 32 128 (qi_and3 x) (qi_and31 y) (by decide) (by decide) (by decide) (by decide) (by decide) (c := 32) (by decide)
