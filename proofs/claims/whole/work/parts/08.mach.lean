def qf_M_isInt (z : Int64) : Int32 :=
  if (lg_cmp z z.toInt32.toInt64) = 0 then 1
  else 0
set_option maxHeartbeats 4000000 in
set_option maxRecDepth 100000 in
theorem c_M_isInt (l : Launch) (D : va_G) (cA : ClassId) (z : Int64) : Met l y_M_isInt (Cond.code y_M_isInt b_M_isInt 2 (some .boolean) :: qx_T) ({ frames := 0, cells := 0, slots := 0, locals := 0 }) (qx_Pc D vwCl [(cA, .int)] ([]) [.long z]) (k2_QcV (.int (qf_M_isInt z))) 0 0 (fun _ => False) := by
  refine Met.ofW (cc := b_M_isInt) (maxL := 2) (ret := (some .boolean)) (by decide) rfl ?_
  intro p e s m args below meth c s₁ B hml hv
  obtain ⟨rfl, hP, hK, hN, hD0⟩ := hv
  have hx := B.exec
  have hb := B.bytes
  have hr := B.returns
  have hts0 := atoms_spec (ws := Cond.code y_M_isInt b_M_isInt 2 (some .boolean) :: qx_T) B.pre
  have hts := fun w h => hts0 w (List.mem_cons_of_mem _ h)
  have hown : s.vm.findClass R_M = some m.cls := findClass_of_methodNamed B.named
  have hlocks := B.notSynchronized
  have hD : va_D (qx_ad ([])) ([]) := ⟨hD0.1, fun k q hk => ⟨k, q.2, hk⟩⟩
  generalize hAe : qx_ad ([]) = A at hD
  have hS : va_S A s.heap s.heap [] := va_S.rf
  have hl := lv_entry ([.long z]) (n := 2) (Nat.le_of_ble_eq_true rfl)
  rw [lg_entry_eq]
  generalize (lg_sl ([.long z]) ++ List.replicate (2 - (lg_sl ([.long z])).length) Slot.unset).toArray = ls at hl ⊢
  have hl : lv_has ls 2 [(0, .long z)] := hl
  refine lv_lload_n hx hb d_M_isInt_0 rfl (lv_at hl 0 rfl) ?_
  refine lv_lload_n hx hb d_M_isInt_1 rfl (lv_at hl 0 rfl) ?_
  refine lv_l2i (v := z.toInt32) hx hb d_M_isInt_2 rfl ?_
  refine lv_i2l (v := z.toInt32.toInt64) hx hb d_M_isInt_3 rfl ?_
  refine W.lcmp hx hb d_M_isInt_4 ?_
  refine lv_if_ne (tgt := 12) hx hb d_M_isInt_5 (by decide) (fun h1 => ?_) (fun h1 => ?_)
  · have h1 : ¬ ((lg_cmp z z.toInt32.toInt64) = 0) := h1
    refine lv_iconst (v := 0) hx hb d_M_isInt_12 (by decide) ?_
    exact W.zret (ty := .boolean) hx hb hr rfl (fun t ht hW => ⟨congrArg (fun z => Outcome.returned (some (Value.int z))) (show 0 = qf_M_isInt z from (by unfold qf_M_isInt; rw [if_neg h1])), ht⟩) (fun _ h => absurd h List.not_mem_nil) d_M_isInt_13
  · have h1 : (lg_cmp z z.toInt32.toInt64) = 0 := h1
    refine lv_iconst (v := 1) hx hb d_M_isInt_8 (by decide) ?_
    refine lv_goto (tgt := 13) hx hb d_M_isInt_9 (by decide) ?_
    exact W.zret (ty := .boolean) hx hb hr rfl (fun t ht hW => ⟨congrArg (fun z => Outcome.returned (some (Value.int z))) (show 1 = qf_M_isInt z from (by unfold qf_M_isInt; rw [if_pos h1])), ht⟩) (fun _ h => absurd h List.not_mem_nil) d_M_isInt_13
def qf_M_shifted (x : Int32) (y : Int32) (z : Int32) : Int32 :=
  if z = 0 then (x <<< (y &&& 31))
  else (qf_ush x y)
set_option maxHeartbeats 4000000 in
set_option maxRecDepth 100000 in
theorem c_M_shifted (l : Launch) (D : va_G) (cA : ClassId) (x : Int32) (y : Int32) (z : Int32) : Met l y_M_shifted (Cond.code y_M_shifted b_M_shifted 3 (some .int) :: qx_T) ({ frames := 0, cells := 0, slots := 0, locals := 0 }) (qx_Pc D vwCl [(cA, .int)] ([]) [.int x, .int y, .int z]) (k2_QcV (.int (qf_M_shifted x y z))) 0 0 (fun _ => False) := by
  refine Met.ofW (cc := b_M_shifted) (maxL := 3) (ret := (some .int)) (by decide) rfl ?_
  intro p e s m args below meth c s₁ B hml hv
  obtain ⟨rfl, hP, hK, hN, hD0⟩ := hv
  have hx := B.exec
  have hb := B.bytes
  have hr := B.returns
  have hts0 := atoms_spec (ws := Cond.code y_M_shifted b_M_shifted 3 (some .int) :: qx_T) B.pre
  have hts := fun w h => hts0 w (List.mem_cons_of_mem _ h)
  have hown : s.vm.findClass R_M = some m.cls := findClass_of_methodNamed B.named
  have hlocks := B.notSynchronized
  have hD : va_D (qx_ad ([])) ([]) := ⟨hD0.1, fun k q hk => ⟨k, q.2, hk⟩⟩
  generalize hAe : qx_ad ([]) = A at hD
  have hS : va_S A s.heap s.heap [] := va_S.rf
  have hl := lv_entry ([.int x, .int y, .int z]) (n := 3) (Nat.le_of_ble_eq_true rfl)
  rw [lg_entry_eq]
  generalize (lg_sl ([.int x, .int y, .int z]) ++ List.replicate (3 - (lg_sl ([.int x, .int y, .int z])).length) Slot.unset).toArray = ls at hl ⊢
  have hl : lv_has ls 3 [(0, .int x), (1, .int y), (2, .int z)] := hl
  refine lv_iload_n hx hb d_M_shifted_0 rfl (lv_at hl 2 rfl) ?_
  refine lv_if_eq (tgt := 10) hx hb d_M_shifted_1 (by decide) (fun h1 => ?_) (fun h1 => ?_)
  · have h1 : z = 0 := h1
    refine lv_iload_n hx hb d_M_shifted_10 rfl (lv_at hl 0 rfl) ?_
    refine lv_iload_n hx hb d_M_shifted_11 rfl (lv_at hl 1 rfl) ?_
    refine lv_ishl hx hb d_M_shifted_12 ?_
    exact W.iret hx hb hr (fun t ht hW => ⟨congrArg (fun z => Outcome.returned (some (Value.int z))) (show (x <<< (y &&& 31)) = qf_M_shifted x y z from (by unfold qf_M_shifted; rw [if_pos h1])), ht⟩) (fun _ h => absurd h List.not_mem_nil) d_M_shifted_13
  · have h1 : ¬ (z = 0) := h1
    refine lv_iload_n hx hb d_M_shifted_4 rfl (lv_at hl 0 rfl) ?_
    refine lv_iload_n hx hb d_M_shifted_5 rfl (lv_at hl 1 rfl) ?_
    refine lv_iushr (v := (qf_ush x y)) hx hb d_M_shifted_6 rfl ?_
    refine lv_goto (tgt := 13) hx hb d_M_shifted_7 (by decide) ?_
    exact W.iret hx hb hr (fun t ht hW => ⟨congrArg (fun z => Outcome.returned (some (Value.int z))) (show (qf_ush x y) = qf_M_shifted x y z from (by unfold qf_M_shifted; rw [if_neg h1])), ht⟩) (fun _ h => absurd h List.not_mem_nil) d_M_shifted_13
def qf_M_valueA (st : qs_M) (w : Int32) : Int32 :=
  (st.1 (Int32.toNatClampNeg (qf_Pa_a w)))
set_option maxHeartbeats 4000000 in
set_option maxRecDepth 100000 in
theorem c_M_valueA (l : Launch) (D : va_G) (cA : ClassId) (ad : Nat → Nat) (st : qs_M) (w : Int32) : Met l y_M_valueA (Cond.code y_M_valueA b_M_valueA 2 (some .int) :: qx_T) ({ frames := 1, cells := 0, slots := 0, locals := 20 }) (qx_Pc D vwCl [(cA, .int)] (qw_M ad cA st) [.ref (ad 0), .int w]) (k2_QcV (.int (qf_M_valueA st w))) 0 0 (fun _ => False) := by
  refine Met.ofW (cc := b_M_valueA) (maxL := 2) (ret := (some .int)) (by decide) rfl ?_
  intro p e s m args below meth c s₁ B hml hv
  obtain ⟨rfl, hP, hK, hN, hD0⟩ := hv
  have hx := B.exec
  have hb := B.bytes
  have hr := B.returns
  have hts0 := atoms_spec (ws := Cond.code y_M_valueA b_M_valueA 2 (some .int) :: qx_T) B.pre
  have hts := fun w h => hts0 w (List.mem_cons_of_mem _ h)
  have hown : s.vm.findClass R_M = some m.cls := findClass_of_methodNamed B.named
  have hlocks := B.notSynchronized
  have hD : va_D (qx_ad (qw_M ad cA st)) (qw_M ad cA st) := ⟨hD0.1, fun k q hk => ⟨k, q.2, hk⟩⟩
  generalize hAe : qx_ad (qw_M ad cA st) = A at hD
  have hS : va_S A s.heap s.heap [] := va_S.rf
  have hl := lv_entry ([.ref (ad 0), .int w]) (n := 2) (Nat.le_of_ble_eq_true rfl)
  rw [lg_entry_eq]
  generalize (lg_sl ([.ref (ad 0), .int w]) ++ List.replicate (2 - (lg_sl ([.ref (ad 0), .int w])).length) Slot.unset).toArray = ls at hl ⊢
  have hl : lv_has ls 2 [(0, .ref (ad 0)), (1, .int w)] := hl
  refine lv_aload_n hx hb d_M_valueA_0 rfl (lv_at hl 0 rfl) ?_
  refine va_get (D := D) (ci := 1) (v := .ref (ad 1)) (C := R_M) (T := T_M) (N := 7) hx hb hts in_M hown hK hP 0 rfl rfl 0 (by decide) (hts (Cond.fieldLink R_M 9 "QueuedFronts$Machine" "registers" "[I") mw_95) (fun _ h9 => h9) rfl d_M_valueA_1 ?_
  refine lv_iload_n hx hb d_M_valueA_4 rfl (lv_at hl 1 rfl) ?_
  refine qx_rd (va_runS (As := [.int w]) (rest := [.ref (ad 1)]) ⟨hx, hb, hml, hown, hts⟩ (c_Pa_a l D cA w) (qx_kS hts mw_224 mw_225 mw_34 mw_226 cd_Pa_a ⟨Nat.le_of_ble_eq_true rfl, Nat.le_of_ble_eq_true rfl⟩) (qx_preS hP hD hK hN [] rfl rfl) rfl rfl hl.1 rfl (lv_room (Nat.le_of_ble_eq_true rfl)) d_M_valueA_5 ⟨Nat.zero_le _, Nat.zero_le _⟩) ?_
  refine va_iald hx hb hK hP 1 0 rfl rfl (show vp_in (qf_Pa_a w) 8 from qi_and7 _) d_M_valueA_8 ?_
  exact W.iret hx hb hr (fun t ht hW => ⟨congrArg (fun z => Outcome.returned (some (Value.int z))) (show (st.1 (Int32.toNatClampNeg (qf_Pa_a w))) = qf_M_valueA st w from rfl), ht⟩) (fun _ h => absurd h List.not_mem_nil) d_M_valueA_9
def qf_M_valueB (st : qs_M) (w : Int32) : Int32 :=
  (st.1 (Int32.toNatClampNeg (qf_Pa_b w)))
set_option maxHeartbeats 4000000 in
set_option maxRecDepth 100000 in
theorem c_M_valueB (l : Launch) (D : va_G) (cA : ClassId) (ad : Nat → Nat) (st : qs_M) (w : Int32) : Met l y_M_valueB (Cond.code y_M_valueB b_M_valueB 2 (some .int) :: qx_T) ({ frames := 1, cells := 0, slots := 0, locals := 20 }) (qx_Pc D vwCl [(cA, .int)] (qw_M ad cA st) [.ref (ad 0), .int w]) (k2_QcV (.int (qf_M_valueB st w))) 0 0 (fun _ => False) := by
  refine Met.ofW (cc := b_M_valueB) (maxL := 2) (ret := (some .int)) (by decide) rfl ?_
  intro p e s m args below meth c s₁ B hml hv
  obtain ⟨rfl, hP, hK, hN, hD0⟩ := hv
  have hx := B.exec
  have hb := B.bytes
  have hr := B.returns
  have hts0 := atoms_spec (ws := Cond.code y_M_valueB b_M_valueB 2 (some .int) :: qx_T) B.pre
  have hts := fun w h => hts0 w (List.mem_cons_of_mem _ h)
  have hown : s.vm.findClass R_M = some m.cls := findClass_of_methodNamed B.named
  have hlocks := B.notSynchronized
  have hD : va_D (qx_ad (qw_M ad cA st)) (qw_M ad cA st) := ⟨hD0.1, fun k q hk => ⟨k, q.2, hk⟩⟩
  generalize hAe : qx_ad (qw_M ad cA st) = A at hD
  have hS : va_S A s.heap s.heap [] := va_S.rf
  have hl := lv_entry ([.ref (ad 0), .int w]) (n := 2) (Nat.le_of_ble_eq_true rfl)
  rw [lg_entry_eq]
  generalize (lg_sl ([.ref (ad 0), .int w]) ++ List.replicate (2 - (lg_sl ([.ref (ad 0), .int w])).length) Slot.unset).toArray = ls at hl ⊢
  have hl : lv_has ls 2 [(0, .ref (ad 0)), (1, .int w)] := hl
  refine lv_aload_n hx hb d_M_valueB_0 rfl (lv_at hl 0 rfl) ?_
  refine va_get (D := D) (ci := 1) (v := .ref (ad 1)) (C := R_M) (T := T_M) (N := 7) hx hb hts in_M hown hK hP 0 rfl rfl 0 (by decide) (hts (Cond.fieldLink R_M 9 "QueuedFronts$Machine" "registers" "[I") mw_95) (fun _ h9 => h9) rfl d_M_valueB_1 ?_
  refine lv_iload_n hx hb d_M_valueB_4 rfl (lv_at hl 1 rfl) ?_
  refine qx_rd (va_runS (As := [.int w]) (rest := [.ref (ad 1)]) ⟨hx, hb, hml, hown, hts⟩ (c_Pa_b l D cA w) (qx_kS hts mw_231 mw_232 mw_34 mw_233 cd_Pa_b ⟨Nat.le_of_ble_eq_true rfl, Nat.le_of_ble_eq_true rfl⟩) (qx_preS hP hD hK hN [] rfl rfl) rfl rfl hl.1 rfl (lv_room (Nat.le_of_ble_eq_true rfl)) d_M_valueB_5 ⟨Nat.zero_le _, Nat.zero_le _⟩) ?_
  refine va_iald hx hb hK hP 1 0 rfl rfl (show vp_in (qf_Pa_b w) 8 from qi_and7 _) d_M_valueB_8 ?_
  exact W.iret hx hb hr (fun t ht hW => ⟨congrArg (fun z => Outcome.returned (some (Value.int z))) (show (st.1 (Int32.toNatClampNeg (qf_Pa_b w))) = qf_M_valueB st w from rfl), ht⟩) (fun _ h => absurd h List.not_mem_nil) d_M_valueB_9
def qf_M_valueT (st : qs_M) (w : Int32) : Int32 :=
  (st.1 (Int32.toNatClampNeg (qf_Pa_t w)))
set_option maxHeartbeats 4000000 in
set_option maxRecDepth 100000 in
theorem c_M_valueT (l : Launch) (D : va_G) (cA : ClassId) (ad : Nat → Nat) (st : qs_M) (w : Int32) : Met l y_M_valueT (Cond.code y_M_valueT b_M_valueT 2 (some .int) :: qx_T) ({ frames := 1, cells := 0, slots := 0, locals := 20 }) (qx_Pc D vwCl [(cA, .int)] (qw_M ad cA st) [.ref (ad 0), .int w]) (k2_QcV (.int (qf_M_valueT st w))) 0 0 (fun _ => False) := by
  refine Met.ofW (cc := b_M_valueT) (maxL := 2) (ret := (some .int)) (by decide) rfl ?_
  intro p e s m args below meth c s₁ B hml hv
  obtain ⟨rfl, hP, hK, hN, hD0⟩ := hv
  have hx := B.exec
  have hb := B.bytes
  have hr := B.returns
  have hts0 := atoms_spec (ws := Cond.code y_M_valueT b_M_valueT 2 (some .int) :: qx_T) B.pre
  have hts := fun w h => hts0 w (List.mem_cons_of_mem _ h)
  have hown : s.vm.findClass R_M = some m.cls := findClass_of_methodNamed B.named
  have hlocks := B.notSynchronized
  have hD : va_D (qx_ad (qw_M ad cA st)) (qw_M ad cA st) := ⟨hD0.1, fun k q hk => ⟨k, q.2, hk⟩⟩
  generalize hAe : qx_ad (qw_M ad cA st) = A at hD
  have hS : va_S A s.heap s.heap [] := va_S.rf
  have hl := lv_entry ([.ref (ad 0), .int w]) (n := 2) (Nat.le_of_ble_eq_true rfl)
  rw [lg_entry_eq]
  generalize (lg_sl ([.ref (ad 0), .int w]) ++ List.replicate (2 - (lg_sl ([.ref (ad 0), .int w])).length) Slot.unset).toArray = ls at hl ⊢
  have hl : lv_has ls 2 [(0, .ref (ad 0)), (1, .int w)] := hl
  refine lv_aload_n hx hb d_M_valueT_0 rfl (lv_at hl 0 rfl) ?_
  refine va_get (D := D) (ci := 1) (v := .ref (ad 1)) (C := R_M) (T := T_M) (N := 7) hx hb hts in_M hown hK hP 0 rfl rfl 0 (by decide) (hts (Cond.fieldLink R_M 9 "QueuedFronts$Machine" "registers" "[I") mw_95) (fun _ h9 => h9) rfl d_M_valueT_1 ?_
  refine lv_iload_n hx hb d_M_valueT_4 rfl (lv_at hl 1 rfl) ?_
  refine qx_rd (va_runS (As := [.int w]) (rest := [.ref (ad 1)]) ⟨hx, hb, hml, hown, hts⟩ (c_Pa_t l D cA w) (qx_kS hts mw_272 mw_273 mw_34 mw_274 cd_Pa_t ⟨Nat.le_of_ble_eq_true rfl, Nat.le_of_ble_eq_true rfl⟩) (qx_preS hP hD hK hN [] rfl rfl) rfl rfl hl.1 rfl (lv_room (Nat.le_of_ble_eq_true rfl)) d_M_valueT_5 ⟨Nat.zero_le _, Nat.zero_le _⟩) ?_
  refine va_iald hx hb hK hP 1 0 rfl rfl (show vp_in (qf_Pa_t w) 8 from qi_and7 _) d_M_valueT_8 ?_
  exact W.iret hx hb hr (fun t ht hW => ⟨congrArg (fun z => Outcome.returned (some (Value.int z))) (show (st.1 (Int32.toNatClampNeg (qf_Pa_t w))) = qf_M_valueT st w from rfl), ht⟩) (fun _ h => absurd h List.not_mem_nil) d_M_valueT_9
def qf_M_valueS (st : qs_M) (w : Int32) : Int32 :=
  (st.2.1 (Int32.toNatClampNeg (qf_Pa_spaceRegister w)))
set_option maxHeartbeats 4000000 in
set_option maxRecDepth 100000 in
theorem c_M_valueS (l : Launch) (D : va_G) (cA : ClassId) (ad : Nat → Nat) (st : qs_M) (w : Int32) : Met l y_M_valueS (Cond.code y_M_valueS b_M_valueS 2 (some .int) :: qx_T) ({ frames := 1, cells := 0, slots := 0, locals := 20 }) (qx_Pc D vwCl [(cA, .int)] (qw_M ad cA st) [.ref (ad 0), .int w]) (k2_QcV (.int (qf_M_valueS st w))) 0 0 (fun _ => False) := by
  refine Met.ofW (cc := b_M_valueS) (maxL := 2) (ret := (some .int)) (by decide) rfl ?_
  intro p e s m args below meth c s₁ B hml hv
  obtain ⟨rfl, hP, hK, hN, hD0⟩ := hv
  have hx := B.exec
  have hb := B.bytes
  have hr := B.returns
  have hts0 := atoms_spec (ws := Cond.code y_M_valueS b_M_valueS 2 (some .int) :: qx_T) B.pre
  have hts := fun w h => hts0 w (List.mem_cons_of_mem _ h)
  have hown : s.vm.findClass R_M = some m.cls := findClass_of_methodNamed B.named
  have hlocks := B.notSynchronized
  have hD : va_D (qx_ad (qw_M ad cA st)) (qw_M ad cA st) := ⟨hD0.1, fun k q hk => ⟨k, q.2, hk⟩⟩
  generalize hAe : qx_ad (qw_M ad cA st) = A at hD
  have hS : va_S A s.heap s.heap [] := va_S.rf
  have hl := lv_entry ([.ref (ad 0), .int w]) (n := 2) (Nat.le_of_ble_eq_true rfl)
  rw [lg_entry_eq]
  generalize (lg_sl ([.ref (ad 0), .int w]) ++ List.replicate (2 - (lg_sl ([.ref (ad 0), .int w])).length) Slot.unset).toArray = ls at hl ⊢
  have hl : lv_has ls 2 [(0, .ref (ad 0)), (1, .int w)] := hl
  refine lv_aload_n hx hb d_M_valueS_0 rfl (lv_at hl 0 rfl) ?_
  refine va_get (D := D) (ci := 1) (v := .ref (ad 2)) (C := R_M) (T := T_M) (N := 7) hx hb hts in_M hown hK hP 0 rfl rfl 1 (by decide) (hts (Cond.fieldLink R_M 15 "QueuedFronts$Machine" "spaceRegisters" "[I") mw_97) (fun _ h9 => h9) rfl d_M_valueS_1 ?_
  refine lv_iload_n hx hb d_M_valueS_4 rfl (lv_at hl 1 rfl) ?_
  refine qx_rd (va_runS (As := [.int w]) (rest := [.ref (ad 2)]) ⟨hx, hb, hml, hown, hts⟩ (c_Pa_spaceRegister l D cA w) (qx_kS hts mw_284 mw_285 mw_34 mw_286 cd_Pa_spaceRegister ⟨Nat.le_of_ble_eq_true rfl, Nat.le_of_ble_eq_true rfl⟩) (qx_preS hP hD hK hN [] rfl rfl) rfl rfl hl.1 rfl (lv_room (Nat.le_of_ble_eq_true rfl)) d_M_valueS_5 ⟨Nat.zero_le _, Nat.zero_le _⟩) ?_
  refine va_iald hx hb hK hP 2 0 rfl rfl (show vp_in (qf_Pa_spaceRegister w) 4 from qi_and3 _) d_M_valueS_8 ?_
  exact W.iret hx hb hr (fun t ht hW => ⟨congrArg (fun z => Outcome.returned (some (Value.int z))) (show (st.2.1 (Int32.toNatClampNeg (qf_Pa_spaceRegister w))) = qf_M_valueS st w from rfl), ht⟩) (fun _ h => absurd h List.not_mem_nil) d_M_valueS_9
theorem qi_S {st : qs_M} (w : Int32) (hs : ∀ k : Nat, k < 4 → vp_in (st.2.1 k) 4) : vp_in (qf_M_valueS st w) 4 := hs _ (qi_lt (qi_and3 _))
def qf_M_setT (st : qs_M) (w : Int32) (v : Int32) : qs_M :=
  if qf_Pa_t w = 0 then st
  else (qm_M_rg st (upd st.1 (Int32.toNatClampNeg (qf_Pa_t w)) v))
set_option maxHeartbeats 4000000 in
set_option maxRecDepth 100000 in
theorem c_M_setT (l : Launch) (D : va_G) (cA : ClassId) (ad : Nat → Nat) (st : qs_M) (w : Int32) (v : Int32) : Met l y_M_setT (Cond.code y_M_setT b_M_setT 4 none :: qx_T) ({ frames := 1, cells := 0, slots := 0, locals := 20 }) (qx_Pc D vwCl [(cA, .int)] (qw_M ad cA st) [.ref (ad 0), .int w, .int v]) (qx_Q D vwCl (qw_M ad cA (qf_M_setT st w v)) (qx_ad (qw_M ad cA st)) none) 0 0 (qx_ad (qw_M ad cA st)) := by
  refine Met.ofW (cc := b_M_setT) (maxL := 4) (ret := none) (by decide) rfl ?_
  intro p e s m args below meth c s₁ B hml hv
  obtain ⟨rfl, hP, hK, hN, hD0⟩ := hv
  have hx := B.exec
  have hb := B.bytes
  have hr := B.returns
  have hts0 := atoms_spec (ws := Cond.code y_M_setT b_M_setT 4 none :: qx_T) B.pre
  have hts := fun w h => hts0 w (List.mem_cons_of_mem _ h)
  have hown : s.vm.findClass R_M = some m.cls := findClass_of_methodNamed B.named
  have hlocks := B.notSynchronized
  have hD : va_D (qx_ad (qw_M ad cA st)) (qw_M ad cA st) := ⟨hD0.1, fun k q hk => ⟨k, q.2, hk⟩⟩
  generalize hAe : qx_ad (qw_M ad cA st) = A at hD ⊢
  have hS : va_S A s.heap s.heap [] := va_S.rf
  have hl := lv_entry ([.ref (ad 0), .int w, .int v]) (n := 4) (Nat.le_of_ble_eq_true rfl)
  rw [lg_entry_eq]
  generalize (lg_sl ([.ref (ad 0), .int w, .int v]) ++ List.replicate (4 - (lg_sl ([.ref (ad 0), .int w, .int v])).length) Slot.unset).toArray = ls at hl ⊢
  have hl : lv_has ls 4 [(0, .ref (ad 0)), (1, .int w), (2, .int v)] := hl
  refine lv_iload_n hx hb d_M_setT_0 rfl (lv_at hl 1 rfl) ?_
  refine qx_rd (va_runS (As := [.int w]) (rest := []) ⟨hx, hb, hml, hown, hts⟩ (c_Pa_t l D cA w) (qx_kS hts mw_272 mw_273 mw_34 mw_274 cd_Pa_t ⟨Nat.le_of_ble_eq_true rfl, Nat.le_of_ble_eq_true rfl⟩) (qx_preS hP hD hK hN [] rfl rfl) rfl rfl hl.1 rfl (lv_room (Nat.le_of_ble_eq_true rfl)) d_M_setT_1 ⟨Nat.zero_le _, Nat.zero_le _⟩) ?_
  refine lv_istore_n (lv' := [(3, .int (qf_Pa_t w)), (0, .ref (ad 0)), (1, .int w), (2, .int v)]) hx hb d_M_setT_4 rfl hl (by decide) rfl (fun ls hl => ?_)
  refine lv_iload_n hx hb d_M_setT_5 rfl (lv_at hl 0 rfl) ?_
  refine lv_if_eq (tgt := 16) hx hb d_M_setT_6 (by decide) (fun h1 => ?_) (fun h1 => ?_)
  · have h1 : qf_Pa_t w = 0 := h1
    have e9 : st = qf_M_setT st w v := (by unfold qf_M_setT; rw [if_pos h1])
    exact W.vret hx hb hr (fun t ht hW => ⟨rfl, (by rw [ht, ← e9]; exact hP), hS.F ht⟩) hS.2.2 d_M_setT_16
  · have h1 : ¬ (qf_Pa_t w = 0) := h1
    refine lv_aload_n hx hb d_M_setT_9 rfl (lv_at hl 1 rfl) ?_
    refine va_get (D := D) (ci := 1) (v := .ref (ad 1)) (C := R_M) (T := T_M) (N := 7) hx hb hts in_M hown hK hP 0 rfl rfl 0 (by decide) (hts (Cond.fieldLink R_M 9 "QueuedFronts$Machine" "registers" "[I") mw_95) (fun _ h9 => h9) rfl d_M_setT_10 ?_
    refine lv_iload_n hx hb d_M_setT_13 rfl (lv_at hl 0 rfl) ?_
    refine lv_iload_n hx hb d_M_setT_14 rfl (lv_at hl 3 rfl) ?_
    refine va_iast hx hb hK hP hD hS 1 0 rfl rfl (show vp_in (qf_Pa_t w) 8 from qi_and7 _) d_M_setT_15 (fun H locs hP hD hS => ?_)
    have hP : va_P D vwCl (qw_M ad cA (qm_M_rg st (upd st.1 (Int32.toNatClampNeg (qf_Pa_t w)) v))) H := hP
    have hD : va_D A (qw_M ad cA (qm_M_rg st (upd st.1 (Int32.toNatClampNeg (qf_Pa_t w)) v))) := hD
    have e9 : (qm_M_rg st (upd st.1 (Int32.toNatClampNeg (qf_Pa_t w)) v)) = qf_M_setT st w v := (by unfold qf_M_setT; rw [if_neg h1])
    exact W.vret hx hb hr (fun t ht hW => ⟨rfl, (by rw [ht, ← e9]; exact hP), hS.F ht⟩) hS.2.2 d_M_setT_16
def qf_M_resultOf (w : Int32) (x : Int32) (y : Int32) : Int32 :=
  if qf_Pa_kind w = 0 then (x + y)
  else if qf_Pa_kind w = 1 then (x + y)
  else if qf_Pa_kind w = 2 then (x - y)
  else if qf_Pa_kind w = 3 then (x - y)
  else if qf_Pa_kind w = 4 then (x &&& y)
  else if qf_Pa_kind w = 5 then (x ||| y)
  else if qf_Pa_kind w = 6 then (x ^^^ y)
  else if qf_Pa_kind w = 7 then (x &&& (y ^^^ (-1)))
  else if qf_Pa_kind w = 8 then 0
  else if qf_Pa_kind w = 9 then (x + qf_Pa_m w)
  else if qf_Pa_kind w = 10 then (if qf_Pa_n w = 1 then qf_M_shifted x (qf_Pa_m w &&& 31) (1 : Int32)
    else qf_M_shifted x (qf_Pa_m w &&& 31) (0 : Int32))
  else 0
set_option maxHeartbeats 4000000 in
set_option maxRecDepth 100000 in
theorem c_M_resultOf (l : Launch) (D : va_G) (cA : ClassId) (w : Int32) (x : Int32) (y : Int32) : Met l y_M_resultOf (Cond.code y_M_resultOf b_M_resultOf 3 (some .int) :: qx_T) ({ frames := 1, cells := 0, slots := 0, locals := 22 }) (qx_Pc D vwCl [(cA, .int)] ([]) [.int w, .int x, .int y]) (k2_QcV (.int (qf_M_resultOf w x y))) 0 0 (fun _ => False) := by
  refine Met.ofW (cc := b_M_resultOf) (maxL := 3) (ret := (some .int)) (by decide) rfl ?_
  intro p e s m args below meth c s₁ B hml hv
  obtain ⟨rfl, hP, hK, hN, hD0⟩ := hv
  have hx := B.exec
  have hb := B.bytes
  have hr := B.returns
  have hts0 := atoms_spec (ws := Cond.code y_M_resultOf b_M_resultOf 3 (some .int) :: qx_T) B.pre
  have hts := fun w h => hts0 w (List.mem_cons_of_mem _ h)
  have hown : s.vm.findClass R_M = some m.cls := findClass_of_methodNamed B.named
  have hlocks := B.notSynchronized
  have hD : va_D (qx_ad ([])) ([]) := ⟨hD0.1, fun k q hk => ⟨k, q.2, hk⟩⟩
  generalize hAe : qx_ad ([]) = A at hD
  have hS : va_S A s.heap s.heap [] := va_S.rf
  have hl := lv_entry ([.int w, .int x, .int y]) (n := 3) (Nat.le_of_ble_eq_true rfl)
  rw [lg_entry_eq]
  generalize (lg_sl ([.int w, .int x, .int y]) ++ List.replicate (3 - (lg_sl ([.int w, .int x, .int y])).length) Slot.unset).toArray = ls at hl ⊢
  have hl : lv_has ls 3 [(0, .int w), (1, .int x), (2, .int y)] := hl
  refine lv_iload_n hx hb d_M_resultOf_0 rfl (lv_at hl 0 rfl) ?_
  refine qx_rd (va_runS (As := [.int w]) (rest := []) ⟨hx, hb, hml, hown, hts⟩ (c_Pa_kind l D cA w) (qx_kS hts mw_217 mw_218 mw_34 mw_219 cd_Pa_kind ⟨Nat.le_of_ble_eq_true rfl, Nat.le_of_ble_eq_true rfl⟩) (qx_preS hP hD hK hN [] rfl rfl) rfl rfl hl.1 rfl (lv_room (Nat.le_of_ble_eq_true rfl)) d_M_resultOf_1 ⟨Nat.zero_le _, Nat.zero_le _⟩) ?_
  by_cases h1 : qf_Pa_kind w = 0
  · refine lv_tableIn (tgt := 64) hx hb d_M_resultOf_4 (by rw [h1]; decide) (by rw [h1]; decide) (by rw [h1]; rfl) (by decide) ?_
    refine lv_iload_n hx hb d_M_resultOf_64 rfl (lv_at hl 1 rfl) ?_
    refine lv_iload_n hx hb d_M_resultOf_65 rfl (lv_at hl 2 rfl) ?_
    refine lv_iadd hx hb d_M_resultOf_66 ?_
    exact W.iret hx hb hr (fun t ht hW => ⟨congrArg (fun z => Outcome.returned (some (Value.int z))) (show (x + y) = qf_M_resultOf w x y from (by unfold qf_M_resultOf; rw [if_pos h1])), ht⟩) (fun _ h => absurd h List.not_mem_nil) d_M_resultOf_67
  by_cases h2 : qf_Pa_kind w = 1
  · refine lv_tableIn (tgt := 64) hx hb d_M_resultOf_4 (by rw [h2]; decide) (by rw [h2]; decide) (by rw [h2]; rfl) (by decide) ?_
    refine lv_iload_n hx hb d_M_resultOf_64 rfl (lv_at hl 1 rfl) ?_
    refine lv_iload_n hx hb d_M_resultOf_65 rfl (lv_at hl 2 rfl) ?_
    refine lv_iadd hx hb d_M_resultOf_66 ?_
    exact W.iret hx hb hr (fun t ht hW => ⟨congrArg (fun z => Outcome.returned (some (Value.int z))) (show (x + y) = qf_M_resultOf w x y from (by unfold qf_M_resultOf; rw [if_neg h1, if_pos h2])), ht⟩) (fun _ h => absurd h List.not_mem_nil) d_M_resultOf_67
  by_cases h3 : qf_Pa_kind w = 2
  · refine lv_tableIn (tgt := 68) hx hb d_M_resultOf_4 (by rw [h3]; decide) (by rw [h3]; decide) (by rw [h3]; rfl) (by decide) ?_
    refine lv_iload_n hx hb d_M_resultOf_68 rfl (lv_at hl 1 rfl) ?_
    refine lv_iload_n hx hb d_M_resultOf_69 rfl (lv_at hl 2 rfl) ?_
    refine lv_isub hx hb d_M_resultOf_70 ?_
    exact W.iret hx hb hr (fun t ht hW => ⟨congrArg (fun z => Outcome.returned (some (Value.int z))) (show (x - y) = qf_M_resultOf w x y from (by unfold qf_M_resultOf; rw [if_neg h1, if_neg h2, if_pos h3])), ht⟩) (fun _ h => absurd h List.not_mem_nil) d_M_resultOf_71
  by_cases h4 : qf_Pa_kind w = 3
  · refine lv_tableIn (tgt := 68) hx hb d_M_resultOf_4 (by rw [h4]; decide) (by rw [h4]; decide) (by rw [h4]; rfl) (by decide) ?_
    refine lv_iload_n hx hb d_M_resultOf_68 rfl (lv_at hl 1 rfl) ?_
    refine lv_iload_n hx hb d_M_resultOf_69 rfl (lv_at hl 2 rfl) ?_
    refine lv_isub hx hb d_M_resultOf_70 ?_
    exact W.iret hx hb hr (fun t ht hW => ⟨congrArg (fun z => Outcome.returned (some (Value.int z))) (show (x - y) = qf_M_resultOf w x y from (by unfold qf_M_resultOf; rw [if_neg h1, if_neg h2, if_neg h3, if_pos h4])), ht⟩) (fun _ h => absurd h List.not_mem_nil) d_M_resultOf_71
  by_cases h5 : qf_Pa_kind w = 4
  · refine lv_tableIn (tgt := 72) hx hb d_M_resultOf_4 (by rw [h5]; decide) (by rw [h5]; decide) (by rw [h5]; rfl) (by decide) ?_
    refine lv_iload_n hx hb d_M_resultOf_72 rfl (lv_at hl 1 rfl) ?_
    refine lv_iload_n hx hb d_M_resultOf_73 rfl (lv_at hl 2 rfl) ?_
    refine lv_iand hx hb d_M_resultOf_74 ?_
    exact W.iret hx hb hr (fun t ht hW => ⟨congrArg (fun z => Outcome.returned (some (Value.int z))) (show (x &&& y) = qf_M_resultOf w x y from (by unfold qf_M_resultOf; rw [if_neg h1, if_neg h2, if_neg h3, if_neg h4, if_pos h5])), ht⟩) (fun _ h => absurd h List.not_mem_nil) d_M_resultOf_75
  by_cases h6 : qf_Pa_kind w = 5
  · refine lv_tableIn (tgt := 76) hx hb d_M_resultOf_4 (by rw [h6]; decide) (by rw [h6]; decide) (by rw [h6]; rfl) (by decide) ?_
    refine lv_iload_n hx hb d_M_resultOf_76 rfl (lv_at hl 1 rfl) ?_
    refine lv_iload_n hx hb d_M_resultOf_77 rfl (lv_at hl 2 rfl) ?_
    refine lv_ior hx hb d_M_resultOf_78 ?_
    exact W.iret hx hb hr (fun t ht hW => ⟨congrArg (fun z => Outcome.returned (some (Value.int z))) (show (x ||| y) = qf_M_resultOf w x y from (by unfold qf_M_resultOf; rw [if_neg h1, if_neg h2, if_neg h3, if_neg h4, if_neg h5, if_pos h6])), ht⟩) (fun _ h => absurd h List.not_mem_nil) d_M_resultOf_79
  by_cases h7 : qf_Pa_kind w = 6
  · refine lv_tableIn (tgt := 80) hx hb d_M_resultOf_4 (by rw [h7]; decide) (by rw [h7]; decide) (by rw [h7]; rfl) (by decide) ?_
    refine lv_iload_n hx hb d_M_resultOf_80 rfl (lv_at hl 1 rfl) ?_
    refine lv_iload_n hx hb d_M_resultOf_81 rfl (lv_at hl 2 rfl) ?_
    refine lv_ixor hx hb d_M_resultOf_82 ?_
    exact W.iret hx hb hr (fun t ht hW => ⟨congrArg (fun z => Outcome.returned (some (Value.int z))) (show (x ^^^ y) = qf_M_resultOf w x y from (by unfold qf_M_resultOf; rw [if_neg h1, if_neg h2, if_neg h3, if_neg h4, if_neg h5, if_neg h6, if_pos h7])), ht⟩) (fun _ h => absurd h List.not_mem_nil) d_M_resultOf_83
  by_cases h8 : qf_Pa_kind w = 7
  · refine lv_tableIn (tgt := 84) hx hb d_M_resultOf_4 (by rw [h8]; decide) (by rw [h8]; decide) (by rw [h8]; rfl) (by decide) ?_
    refine lv_iload_n hx hb d_M_resultOf_84 rfl (lv_at hl 1 rfl) ?_
    refine lv_iload_n hx hb d_M_resultOf_85 rfl (lv_at hl 2 rfl) ?_
    refine lv_iconst (v := (-1)) hx hb d_M_resultOf_86 (by decide) ?_
    refine lv_ixor hx hb d_M_resultOf_87 ?_
    refine lv_iand hx hb d_M_resultOf_88 ?_
    exact W.iret hx hb hr (fun t ht hW => ⟨congrArg (fun z => Outcome.returned (some (Value.int z))) (show (x &&& (y ^^^ (-1))) = qf_M_resultOf w x y from (by unfold qf_M_resultOf; rw [if_neg h1, if_neg h2, if_neg h3, if_neg h4, if_neg h5, if_neg h6, if_neg h7, if_pos h8])), ht⟩) (fun _ h => absurd h List.not_mem_nil) d_M_resultOf_89
  by_cases h9 : qf_Pa_kind w = 8
  · refine lv_tableIn (tgt := 122) hx hb d_M_resultOf_4 (by rw [h9]; decide) (by rw [h9]; decide) (by rw [h9]; rfl) (by decide) ?_
    refine lv_iconst (v := 0) hx hb d_M_resultOf_122 (by decide) ?_
    exact W.iret hx hb hr (fun t ht hW => ⟨congrArg (fun z => Outcome.returned (some (Value.int z))) (show 0 = qf_M_resultOf w x y from (by unfold qf_M_resultOf; rw [if_neg h1, if_neg h2, if_neg h3, if_neg h4, if_neg h5, if_neg h6, if_neg h7, if_neg h8, if_pos h9])), ht⟩) (fun _ h => absurd h List.not_mem_nil) d_M_resultOf_123
  by_cases h10 : qf_Pa_kind w = 9
  · refine lv_tableIn (tgt := 90) hx hb d_M_resultOf_4 (by rw [h10]; decide) (by rw [h10]; decide) (by rw [h10]; rfl) (by decide) ?_
    refine lv_iload_n hx hb d_M_resultOf_90 rfl (lv_at hl 1 rfl) ?_
    refine lv_iload_n hx hb d_M_resultOf_91 rfl (lv_at hl 0 rfl) ?_
    refine qx_rd (va_runS (As := [.int w]) (rest := [.int x]) ⟨hx, hb, hml, hown, hts⟩ (c_Pa_m l D cA w) (qx_kS hts mw_237 mw_238 mw_34 mw_239 cd_Pa_m ⟨Nat.le_of_ble_eq_true rfl, Nat.le_of_ble_eq_true rfl⟩) (qx_preS hP hD hK hN [] rfl rfl) rfl rfl hl.1 rfl (lv_room (Nat.le_of_ble_eq_true rfl)) d_M_resultOf_92 ⟨Nat.zero_le _, Nat.zero_le _⟩) ?_
    refine lv_iadd hx hb d_M_resultOf_95 ?_
    exact W.iret hx hb hr (fun t ht hW => ⟨congrArg (fun z => Outcome.returned (some (Value.int z))) (show (x + qf_Pa_m w) = qf_M_resultOf w x y from (by unfold qf_M_resultOf; rw [if_neg h1, if_neg h2, if_neg h3, if_neg h4, if_neg h5, if_neg h6, if_neg h7, if_neg h8, if_neg h9, if_pos h10])), ht⟩) (fun _ h => absurd h List.not_mem_nil) d_M_resultOf_96
  by_cases h11 : qf_Pa_kind w = 10
  · refine lv_tableIn (tgt := 97) hx hb d_M_resultOf_4 (by rw [h11]; decide) (by rw [h11]; decide) (by rw [h11]; rfl) (by decide) ?_
    refine lv_iload_n hx hb d_M_resultOf_97 rfl (lv_at hl 1 rfl) ?_
    refine lv_iload_n hx hb d_M_resultOf_98 rfl (lv_at hl 0 rfl) ?_
    refine qx_rd (va_runS (As := [.int w]) (rest := [.int x]) ⟨hx, hb, hml, hown, hts⟩ (c_Pa_m l D cA w) (qx_kS hts mw_237 mw_238 mw_34 mw_239 cd_Pa_m ⟨Nat.le_of_ble_eq_true rfl, Nat.le_of_ble_eq_true rfl⟩) (qx_preS hP hD hK hN [] rfl rfl) rfl rfl hl.1 rfl (lv_room (Nat.le_of_ble_eq_true rfl)) d_M_resultOf_99 ⟨Nat.zero_le _, Nat.zero_le _⟩) ?_
    refine lv_bipush (v := 31) hx hb d_M_resultOf_102 (by decide) ?_
    refine lv_iand hx hb d_M_resultOf_104 ?_
    refine lv_iload_n hx hb d_M_resultOf_105 rfl (lv_at hl 0 rfl) ?_
    refine qx_rd (va_runS (As := [.int w]) (rest := [.int (qf_Pa_m w &&& 31), .int x]) ⟨hx, hb, hml, hown, hts⟩ (c_Pa_n l D cA w) (qx_kS hts mw_252 mw_253 mw_34 mw_254 cd_Pa_n ⟨Nat.le_of_ble_eq_true rfl, Nat.le_of_ble_eq_true rfl⟩) (qx_preS hP hD hK hN [] rfl rfl) rfl rfl hl.1 rfl (lv_room (Nat.le_of_ble_eq_true rfl)) d_M_resultOf_106 ⟨Nat.zero_le _, Nat.zero_le _⟩) ?_
    refine lv_iconst (v := 1) hx hb d_M_resultOf_109 (by decide) ?_
    refine lv_icmp_ne (tgt := 117) hx hb d_M_resultOf_110 (by decide) (fun h12 => ?_) (fun h12 => ?_)
    · have h12 : ¬ (qf_Pa_n w = 1) := h12
      refine lv_iconst (v := 0) hx hb d_M_resultOf_117 (by decide) ?_
      refine qx_rd (va_runS (As := [.int x, .int (qf_Pa_m w &&& 31), .int 0]) (rest := []) ⟨hx, hb, hml, hown, hts⟩ (c_M_shifted l D cA x (qf_Pa_m w &&& 31) 0) (qx_kS hts mw_255 mw_256 mw_30 mw_257 cd_M_shifted ⟨Nat.le_of_ble_eq_true rfl, Nat.le_of_ble_eq_true rfl⟩) (qx_preS hP hD hK hN [] rfl rfl) rfl rfl hl.1 rfl (lv_room (Nat.le_of_ble_eq_true rfl)) d_M_resultOf_118 ⟨Nat.zero_le _, Nat.zero_le _⟩) ?_
      exact W.iret hx hb hr (fun t ht hW => ⟨congrArg (fun z => Outcome.returned (some (Value.int z))) (show qf_M_shifted x (qf_Pa_m w &&& 31) (0 : Int32) = qf_M_resultOf w x y from (by unfold qf_M_resultOf; rw [if_neg h1, if_neg h2, if_neg h3, if_neg h4, if_neg h5, if_neg h6, if_neg h7, if_neg h8, if_neg h9, if_neg h10, if_pos h11, if_neg h12])), ht⟩) (fun _ h => absurd h List.not_mem_nil) d_M_resultOf_121
    · have h12 : qf_Pa_n w = 1 := h12
      refine lv_iconst (v := 1) hx hb d_M_resultOf_113 (by decide) ?_
      refine lv_goto (tgt := 118) hx hb d_M_resultOf_114 (by decide) ?_
      refine qx_rd (va_runS (As := [.int x, .int (qf_Pa_m w &&& 31), .int 1]) (rest := []) ⟨hx, hb, hml, hown, hts⟩ (c_M_shifted l D cA x (qf_Pa_m w &&& 31) 1) (qx_kS hts mw_255 mw_256 mw_30 mw_257 cd_M_shifted ⟨Nat.le_of_ble_eq_true rfl, Nat.le_of_ble_eq_true rfl⟩) (qx_preS hP hD hK hN [] rfl rfl) rfl rfl hl.1 rfl (lv_room (Nat.le_of_ble_eq_true rfl)) d_M_resultOf_118 ⟨Nat.zero_le _, Nat.zero_le _⟩) ?_
      exact W.iret hx hb hr (fun t ht hW => ⟨congrArg (fun z => Outcome.returned (some (Value.int z))) (show qf_M_shifted x (qf_Pa_m w &&& 31) (1 : Int32) = qf_M_resultOf w x y from (by unfold qf_M_resultOf; rw [if_neg h1, if_neg h2, if_neg h3, if_neg h4, if_neg h5, if_neg h6, if_neg h7, if_neg h8, if_neg h9, if_neg h10, if_pos h11, if_pos h12])), ht⟩) (fun _ h => absurd h List.not_mem_nil) d_M_resultOf_121
  refine lv_tableOut (tgt := 122) hx hb d_M_resultOf_4 (by have a0 := lv_neT (a := 0) h1 (by decide); have a1 := lv_neT (a := 1) h2 (by decide); have a2 := lv_neT (a := 2) h3 (by decide); have a3 := lv_neT (a := 3) h4 (by decide); have a4 := lv_neT (a := 4) h5 (by decide); have a5 := lv_neT (a := 5) h6 (by decide); have a6 := lv_neT (a := 6) h7 (by decide); have a7 := lv_neT (a := 7) h8 (by decide); have a8 := lv_neT (a := 8) h9 (by decide); have a9 := lv_neT (a := 9) h10 (by decide); have a10 := lv_neT (a := 10) h11 (by decide); omega) (by decide) ?_
  refine lv_iconst (v := 0) hx hb d_M_resultOf_122 (by decide) ?_
  exact W.iret hx hb hr (fun t ht hW => ⟨congrArg (fun z => Outcome.returned (some (Value.int z))) (show 0 = qf_M_resultOf w x y from (by unfold qf_M_resultOf; rw [if_neg h1, if_neg h2, if_neg h3, if_neg h4, if_neg h5, if_neg h6, if_neg h7, if_neg h8, if_neg h9, if_neg h10, if_neg h11])), ht⟩) (fun _ h => absurd h List.not_mem_nil) d_M_resultOf_123
def qf_M_branchNullifies (w : Int32) (x : Int32) : Int32 :=
  if qf_Pa_n w = 0 then 0
  else if qf_Pa_kind w = 14 then (if qf_Pa_m w < 0 then (if (0 : Int32) = x then 1
      else 0)
    else if (1 : Int32) = x then 1
    else 0)
  else if qf_Pa_kind w = 15 then (if qf_Pa_m w < 0 then (if (0 : Int32) = x then 1
      else 0)
    else if (1 : Int32) = x then 1
    else 0)
  else 1
set_option maxHeartbeats 4000000 in
set_option maxRecDepth 100000 in
theorem c_M_branchNullifies (l : Launch) (D : va_G) (cA : ClassId) (w : Int32) (x : Int32) : Met l y_M_branchNullifies (Cond.code y_M_branchNullifies b_M_branchNullifies 3 (some .boolean) :: qx_T) ({ frames := 1, cells := 0, slots := 0, locals := 20 }) (qx_Pc D vwCl [(cA, .int)] ([]) [.int w, .int x]) (k2_QcV (.int (qf_M_branchNullifies w x))) 0 0 (fun _ => False) := by
  refine Met.ofW (cc := b_M_branchNullifies) (maxL := 3) (ret := (some .boolean)) (by decide) rfl ?_
  intro p e s m args below meth c s₁ B hml hv
  obtain ⟨rfl, hP, hK, hN, hD0⟩ := hv
  have hx := B.exec
  have hb := B.bytes
  have hr := B.returns
  have hts0 := atoms_spec (ws := Cond.code y_M_branchNullifies b_M_branchNullifies 3 (some .boolean) :: qx_T) B.pre
  have hts := fun w h => hts0 w (List.mem_cons_of_mem _ h)
  have hown : s.vm.findClass R_M = some m.cls := findClass_of_methodNamed B.named
  have hlocks := B.notSynchronized
  have hD : va_D (qx_ad ([])) ([]) := ⟨hD0.1, fun k q hk => ⟨k, q.2, hk⟩⟩
  generalize hAe : qx_ad ([]) = A at hD
  have hS : va_S A s.heap s.heap [] := va_S.rf
  have hl := lv_entry ([.int w, .int x]) (n := 3) (Nat.le_of_ble_eq_true rfl)
  rw [lg_entry_eq]
  generalize (lg_sl ([.int w, .int x]) ++ List.replicate (3 - (lg_sl ([.int w, .int x])).length) Slot.unset).toArray = ls at hl ⊢
  have hl : lv_has ls 3 [(0, .int w), (1, .int x)] := hl
  refine lv_iload_n hx hb d_M_branchNullifies_0 rfl (lv_at hl 0 rfl) ?_
  refine qx_rd (va_runS (As := [.int w]) (rest := []) ⟨hx, hb, hml, hown, hts⟩ (c_Pa_kind l D cA w) (qx_kS hts mw_217 mw_218 mw_34 mw_219 cd_Pa_kind ⟨Nat.le_of_ble_eq_true rfl, Nat.le_of_ble_eq_true rfl⟩) (qx_preS hP hD hK hN [] rfl rfl) rfl rfl hl.1 rfl (lv_room (Nat.le_of_ble_eq_true rfl)) d_M_branchNullifies_1 ⟨Nat.zero_le _, Nat.zero_le _⟩) ?_
  refine lv_istore_n (lv' := [(2, .int (qf_Pa_kind w)), (0, .int w), (1, .int x)]) hx hb d_M_branchNullifies_4 rfl hl (by decide) rfl (fun ls hl => ?_)
  refine lv_iload_n hx hb d_M_branchNullifies_5 rfl (lv_at hl 1 rfl) ?_
  refine qx_rd (va_runS (As := [.int w]) (rest := []) ⟨hx, hb, hml, hown, hts⟩ (c_Pa_n l D cA w) (qx_kS hts mw_252 mw_253 mw_34 mw_254 cd_Pa_n ⟨Nat.le_of_ble_eq_true rfl, Nat.le_of_ble_eq_true rfl⟩) (qx_preS hP hD hK hN [] rfl rfl) rfl rfl hl.1 rfl (lv_room (Nat.le_of_ble_eq_true rfl)) d_M_branchNullifies_6 ⟨Nat.zero_le _, Nat.zero_le _⟩) ?_
  refine lv_if_ne (tgt := 14) hx hb d_M_branchNullifies_9 (by decide) (fun h1 => ?_) (fun h1 => ?_)
  · have h1 : ¬ (qf_Pa_n w = 0) := h1
    refine lv_iload_n hx hb d_M_branchNullifies_14 rfl (lv_at hl 0 rfl) ?_
    refine lv_bipush (v := 14) hx hb d_M_branchNullifies_15 (by decide) ?_
    refine lv_icmp_eq (tgt := 26) hx hb d_M_branchNullifies_17 (by decide) (fun h2 => ?_) (fun h2 => ?_)
    · have h2 : qf_Pa_kind w = 14 := h2
      refine lv_iload_n hx hb d_M_branchNullifies_26 rfl (lv_at hl 1 rfl) ?_
      refine qx_rd (va_runS (As := [.int w]) (rest := []) ⟨hx, hb, hml, hown, hts⟩ (c_Pa_m l D cA w) (qx_kS hts mw_237 mw_238 mw_34 mw_239 cd_Pa_m ⟨Nat.le_of_ble_eq_true rfl, Nat.le_of_ble_eq_true rfl⟩) (qx_preS hP hD hK hN [] rfl rfl) rfl rfl hl.1 rfl (lv_room (Nat.le_of_ble_eq_true rfl)) d_M_branchNullifies_27 ⟨Nat.zero_le _, Nat.zero_le _⟩) ?_
      refine lv_if_lt (tgt := 37) hx hb d_M_branchNullifies_30 (by decide) (fun h3 => ?_) (fun h3 => ?_)
      · have h3 : qf_Pa_m w < 0 := h3
        refine lv_iconst (v := 0) hx hb d_M_branchNullifies_37 (by decide) ?_
        refine lv_iload_n hx hb d_M_branchNullifies_38 rfl (lv_at hl 2 rfl) ?_
        refine lv_icmp_ne (tgt := 46) hx hb d_M_branchNullifies_39 (by decide) (fun h4 => ?_) (fun h4 => ?_)
        · have h4 : ¬ ((0 : Int32) = x) := h4
          refine lv_iconst (v := 0) hx hb d_M_branchNullifies_46 (by decide) ?_
          exact W.zret (ty := .boolean) hx hb hr rfl (fun t ht hW => ⟨congrArg (fun z => Outcome.returned (some (Value.int z))) (show 0 = qf_M_branchNullifies w x from (by unfold qf_M_branchNullifies; rw [if_neg h1, if_pos h2, if_pos h3, if_neg h4])), ht⟩) (fun _ h => absurd h List.not_mem_nil) d_M_branchNullifies_47
        · have h4 : (0 : Int32) = x := h4
          refine lv_iconst (v := 1) hx hb d_M_branchNullifies_42 (by decide) ?_
          refine lv_goto (tgt := 47) hx hb d_M_branchNullifies_43 (by decide) ?_
          exact W.zret (ty := .boolean) hx hb hr rfl (fun t ht hW => ⟨congrArg (fun z => Outcome.returned (some (Value.int z))) (show 1 = qf_M_branchNullifies w x from (by unfold qf_M_branchNullifies; rw [if_neg h1, if_pos h2, if_pos h3, if_pos h4])), ht⟩) (fun _ h => absurd h List.not_mem_nil) d_M_branchNullifies_47
      · have h3 : ¬ (qf_Pa_m w < 0) := h3
        refine lv_iconst (v := 1) hx hb d_M_branchNullifies_33 (by decide) ?_
        refine lv_goto (tgt := 38) hx hb d_M_branchNullifies_34 (by decide) ?_
        refine lv_iload_n hx hb d_M_branchNullifies_38 rfl (lv_at hl 2 rfl) ?_
        refine lv_icmp_ne (tgt := 46) hx hb d_M_branchNullifies_39 (by decide) (fun h5 => ?_) (fun h5 => ?_)
        · have h5 : ¬ ((1 : Int32) = x) := h5
          refine lv_iconst (v := 0) hx hb d_M_branchNullifies_46 (by decide) ?_
          exact W.zret (ty := .boolean) hx hb hr rfl (fun t ht hW => ⟨congrArg (fun z => Outcome.returned (some (Value.int z))) (show 0 = qf_M_branchNullifies w x from (by unfold qf_M_branchNullifies; rw [if_neg h1, if_pos h2, if_neg h3, if_neg h5])), ht⟩) (fun _ h => absurd h List.not_mem_nil) d_M_branchNullifies_47
        · have h5 : (1 : Int32) = x := h5
          refine lv_iconst (v := 1) hx hb d_M_branchNullifies_42 (by decide) ?_
          refine lv_goto (tgt := 47) hx hb d_M_branchNullifies_43 (by decide) ?_
          exact W.zret (ty := .boolean) hx hb hr rfl (fun t ht hW => ⟨congrArg (fun z => Outcome.returned (some (Value.int z))) (show 1 = qf_M_branchNullifies w x from (by unfold qf_M_branchNullifies; rw [if_neg h1, if_pos h2, if_neg h3, if_pos h5])), ht⟩) (fun _ h => absurd h List.not_mem_nil) d_M_branchNullifies_47
    · have h2 : ¬ (qf_Pa_kind w = 14) := h2
      refine lv_iload_n hx hb d_M_branchNullifies_20 rfl (lv_at hl 0 rfl) ?_
      refine lv_bipush (v := 15) hx hb d_M_branchNullifies_21 (by decide) ?_
      refine lv_icmp_ne (tgt := 48) hx hb d_M_branchNullifies_23 (by decide) (fun h6 => ?_) (fun h6 => ?_)
      · have h6 : ¬ (qf_Pa_kind w = 15) := h6
        refine lv_iconst (v := 1) hx hb d_M_branchNullifies_48 (by decide) ?_
        exact W.zret (ty := .boolean) hx hb hr rfl (fun t ht hW => ⟨congrArg (fun z => Outcome.returned (some (Value.int z))) (show 1 = qf_M_branchNullifies w x from (by unfold qf_M_branchNullifies; rw [if_neg h1, if_neg h2, if_neg h6])), ht⟩) (fun _ h => absurd h List.not_mem_nil) d_M_branchNullifies_49
      · have h6 : qf_Pa_kind w = 15 := h6
        refine lv_iload_n hx hb d_M_branchNullifies_26 rfl (lv_at hl 1 rfl) ?_
        refine qx_rd (va_runS (As := [.int w]) (rest := []) ⟨hx, hb, hml, hown, hts⟩ (c_Pa_m l D cA w) (qx_kS hts mw_237 mw_238 mw_34 mw_239 cd_Pa_m ⟨Nat.le_of_ble_eq_true rfl, Nat.le_of_ble_eq_true rfl⟩) (qx_preS hP hD hK hN [] rfl rfl) rfl rfl hl.1 rfl (lv_room (Nat.le_of_ble_eq_true rfl)) d_M_branchNullifies_27 ⟨Nat.zero_le _, Nat.zero_le _⟩) ?_
        refine lv_if_lt (tgt := 37) hx hb d_M_branchNullifies_30 (by decide) (fun h7 => ?_) (fun h7 => ?_)
        · have h7 : qf_Pa_m w < 0 := h7
          refine lv_iconst (v := 0) hx hb d_M_branchNullifies_37 (by decide) ?_
          refine lv_iload_n hx hb d_M_branchNullifies_38 rfl (lv_at hl 2 rfl) ?_
          refine lv_icmp_ne (tgt := 46) hx hb d_M_branchNullifies_39 (by decide) (fun h8 => ?_) (fun h8 => ?_)
          · have h8 : ¬ ((0 : Int32) = x) := h8
            refine lv_iconst (v := 0) hx hb d_M_branchNullifies_46 (by decide) ?_
            exact W.zret (ty := .boolean) hx hb hr rfl (fun t ht hW => ⟨congrArg (fun z => Outcome.returned (some (Value.int z))) (show 0 = qf_M_branchNullifies w x from (by unfold qf_M_branchNullifies; rw [if_neg h1, if_neg h2, if_pos h6, if_pos h7, if_neg h8])), ht⟩) (fun _ h => absurd h List.not_mem_nil) d_M_branchNullifies_47
          · have h8 : (0 : Int32) = x := h8
            refine lv_iconst (v := 1) hx hb d_M_branchNullifies_42 (by decide) ?_
            refine lv_goto (tgt := 47) hx hb d_M_branchNullifies_43 (by decide) ?_
            exact W.zret (ty := .boolean) hx hb hr rfl (fun t ht hW => ⟨congrArg (fun z => Outcome.returned (some (Value.int z))) (show 1 = qf_M_branchNullifies w x from (by unfold qf_M_branchNullifies; rw [if_neg h1, if_neg h2, if_pos h6, if_pos h7, if_pos h8])), ht⟩) (fun _ h => absurd h List.not_mem_nil) d_M_branchNullifies_47
        · have h7 : ¬ (qf_Pa_m w < 0) := h7
          refine lv_iconst (v := 1) hx hb d_M_branchNullifies_33 (by decide) ?_
          refine lv_goto (tgt := 38) hx hb d_M_branchNullifies_34 (by decide) ?_
          refine lv_iload_n hx hb d_M_branchNullifies_38 rfl (lv_at hl 2 rfl) ?_
          refine lv_icmp_ne (tgt := 46) hx hb d_M_branchNullifies_39 (by decide) (fun h9 => ?_) (fun h9 => ?_)
          · have h9 : ¬ ((1 : Int32) = x) := h9
            refine lv_iconst (v := 0) hx hb d_M_branchNullifies_46 (by decide) ?_
            exact W.zret (ty := .boolean) hx hb hr rfl (fun t ht hW => ⟨congrArg (fun z => Outcome.returned (some (Value.int z))) (show 0 = qf_M_branchNullifies w x from (by unfold qf_M_branchNullifies; rw [if_neg h1, if_neg h2, if_pos h6, if_neg h7, if_neg h9])), ht⟩) (fun _ h => absurd h List.not_mem_nil) d_M_branchNullifies_47
          · have h9 : (1 : Int32) = x := h9
            refine lv_iconst (v := 1) hx hb d_M_branchNullifies_42 (by decide) ?_
            refine lv_goto (tgt := 47) hx hb d_M_branchNullifies_43 (by decide) ?_
            exact W.zret (ty := .boolean) hx hb hr rfl (fun t ht hW => ⟨congrArg (fun z => Outcome.returned (some (Value.int z))) (show 1 = qf_M_branchNullifies w x from (by unfold qf_M_branchNullifies; rw [if_neg h1, if_neg h2, if_pos h6, if_neg h7, if_pos h9])), ht⟩) (fun _ h => absurd h List.not_mem_nil) d_M_branchNullifies_47
  · have h1 : qf_Pa_n w = 0 := h1
    refine lv_iconst (v := 0) hx hb d_M_branchNullifies_12 (by decide) ?_
    exact W.zret (ty := .boolean) hx hb hr rfl (fun t ht hW => ⟨congrArg (fun z => Outcome.returned (some (Value.int z))) (show 0 = qf_M_branchNullifies w x from (by unfold qf_M_branchNullifies; rw [if_pos h1])), ht⟩) (fun _ h => absurd h List.not_mem_nil) d_M_branchNullifies_13
theorem qf_M_branchNullifies_qb (w x : Int32) : qb (qf_M_branchNullifies w x) := by
  unfold qf_M_branchNullifies
  repeat' (first | apply qb_ite | exact qb_0 | exact qb_1)
def qf_M_savedThing (st : qs_M) (x : Int32) : Int32 :=
  if x = 0 then qf_Pl_offsetOf st.2.2.2.2.1.1
  else if x = 1 then qf_Pl_offsetOf st.2.2.2.2.1.2.1
  else if x = 2 then qf_Pl_spaceOf st.2.2.2.2.1.1
  else if x = 3 then qf_Pl_spaceOf st.2.2.2.2.1.2.1
  else if x = 4 then (st.2.2.2.2.1.2.2.1 + (2 * st.2.2.2.2.1.2.2.2))
  else if x = 5 then st.2.2.2.2.2.1
  else 0
set_option maxHeartbeats 4000000 in
set_option maxRecDepth 100000 in
theorem c_M_savedThing (l : Launch) (D : va_G) (cA : ClassId) (ad : Nat → Nat) (st : qs_M) (x : Int32) : Met l y_M_savedThing (Cond.code y_M_savedThing b_M_savedThing 2 (some .int) :: qx_T) ({ frames := 1, cells := 0, slots := 0, locals := 20 }) (qx_Pc D vwCl [(cA, .int)] (qw_M ad cA st) [.ref (ad 0), .int x]) (k2_QcV (.int (qf_M_savedThing st x))) 0 0 (fun _ => False) := by
  refine Met.ofW (cc := b_M_savedThing) (maxL := 2) (ret := (some .int)) (by decide) rfl ?_
  intro p e s m args below meth c s₁ B hml hv
  obtain ⟨rfl, hP, hK, hN, hD0⟩ := hv
  have hx := B.exec
  have hb := B.bytes
  have hr := B.returns
  have hts0 := atoms_spec (ws := Cond.code y_M_savedThing b_M_savedThing 2 (some .int) :: qx_T) B.pre
  have hts := fun w h => hts0 w (List.mem_cons_of_mem _ h)
  have hown : s.vm.findClass R_M = some m.cls := findClass_of_methodNamed B.named
  have hlocks := B.notSynchronized
  have hD : va_D (qx_ad (qw_M ad cA st)) (qw_M ad cA st) := ⟨hD0.1, fun k q hk => ⟨k, q.2, hk⟩⟩
  generalize hAe : qx_ad (qw_M ad cA st) = A at hD
  have hS : va_S A s.heap s.heap [] := va_S.rf
  have hl := lv_entry ([.ref (ad 0), .int x]) (n := 2) (Nat.le_of_ble_eq_true rfl)
  rw [lg_entry_eq]
  generalize (lg_sl ([.ref (ad 0), .int x]) ++ List.replicate (2 - (lg_sl ([.ref (ad 0), .int x])).length) Slot.unset).toArray = ls at hl ⊢
  have hl : lv_has ls 2 [(0, .ref (ad 0)), (1, .int x)] := hl
  refine lv_iload_n hx hb d_M_savedThing_0 rfl (lv_at hl 1 rfl) ?_
  by_cases h1 : x = 0
  · refine lv_tableIn (tgt := 40) hx hb d_M_savedThing_1 (by rw [h1]; decide) (by rw [h1]; decide) (by rw [h1]; rfl) (by decide) ?_
    refine lv_aload_n hx hb d_M_savedThing_40 rfl (lv_at hl 0 rfl) ?_
    refine va_get (D := D) (ci := 1) (v := .ref (ad 5)) (C := R_M) (T := T_M) (N := 7) hx hb hts in_M hown hK hP 0 rfl rfl 4 (by decide) (hts (Cond.fieldLink R_M 28 "QueuedFronts$Machine" "saved" "LQueuedFronts$Flow;") mw_103) (fun _ h9 => h9) rfl d_M_savedThing_41 ?_
    refine va_get (D := D) (ci := 2) (v := .int st.2.2.2.2.1.1) (C := R_F) (T := T_F) (N := 4) hx hb hts in_F hown hK hP 5 rfl rfl 0 (by decide) (hts (Cond.fieldLink R_M 156 "QueuedFronts$Flow" "front" "I") mw_59) (fun _ h9 => h9) rfl d_M_savedThing_44 ?_
    refine qx_rd (va_runS (As := [.int st.2.2.2.2.1.1]) (rest := []) ⟨hx, hb, hml, hown, hts⟩ (c_Pl_offsetOf l D cA st.2.2.2.2.1.1) (qx_kS hts mw_305 mw_90 mw_32 mw_91 cd_Pl_offsetOf ⟨Nat.le_of_ble_eq_true rfl, Nat.le_of_ble_eq_true rfl⟩) (qx_preS hP hD hK hN [] rfl rfl) rfl rfl hl.1 rfl (lv_room (Nat.le_of_ble_eq_true rfl)) d_M_savedThing_47 ⟨Nat.zero_le _, Nat.zero_le _⟩) ?_
    exact W.iret hx hb hr (fun t ht hW => ⟨congrArg (fun z => Outcome.returned (some (Value.int z))) (show qf_Pl_offsetOf st.2.2.2.2.1.1 = qf_M_savedThing st x from (by unfold qf_M_savedThing; rw [if_pos h1])), ht⟩) (fun _ h => absurd h List.not_mem_nil) d_M_savedThing_50
  by_cases h2 : x = 1
  · refine lv_tableIn (tgt := 51) hx hb d_M_savedThing_1 (by rw [h2]; decide) (by rw [h2]; decide) (by rw [h2]; rfl) (by decide) ?_
    refine lv_aload_n hx hb d_M_savedThing_51 rfl (lv_at hl 0 rfl) ?_
    refine va_get (D := D) (ci := 1) (v := .ref (ad 5)) (C := R_M) (T := T_M) (N := 7) hx hb hts in_M hown hK hP 0 rfl rfl 4 (by decide) (hts (Cond.fieldLink R_M 28 "QueuedFronts$Machine" "saved" "LQueuedFronts$Flow;") mw_103) (fun _ h9 => h9) rfl d_M_savedThing_52 ?_
    refine va_get (D := D) (ci := 2) (v := .int st.2.2.2.2.1.2.1) (C := R_F) (T := T_F) (N := 4) hx hb hts in_F hown hK hP 5 rfl rfl 1 (by decide) (hts (Cond.fieldLink R_M 139 "QueuedFronts$Flow" "back" "I") mw_62) (fun _ h9 => h9) rfl d_M_savedThing_55 ?_
    refine qx_rd (va_runS (As := [.int st.2.2.2.2.1.2.1]) (rest := []) ⟨hx, hb, hml, hown, hts⟩ (c_Pl_offsetOf l D cA st.2.2.2.2.1.2.1) (qx_kS hts mw_305 mw_90 mw_32 mw_91 cd_Pl_offsetOf ⟨Nat.le_of_ble_eq_true rfl, Nat.le_of_ble_eq_true rfl⟩) (qx_preS hP hD hK hN [] rfl rfl) rfl rfl hl.1 rfl (lv_room (Nat.le_of_ble_eq_true rfl)) d_M_savedThing_58 ⟨Nat.zero_le _, Nat.zero_le _⟩) ?_
    exact W.iret hx hb hr (fun t ht hW => ⟨congrArg (fun z => Outcome.returned (some (Value.int z))) (show qf_Pl_offsetOf st.2.2.2.2.1.2.1 = qf_M_savedThing st x from (by unfold qf_M_savedThing; rw [if_neg h1, if_pos h2])), ht⟩) (fun _ h => absurd h List.not_mem_nil) d_M_savedThing_61
  by_cases h3 : x = 2
  · refine lv_tableIn (tgt := 62) hx hb d_M_savedThing_1 (by rw [h3]; decide) (by rw [h3]; decide) (by rw [h3]; rfl) (by decide) ?_
    refine lv_aload_n hx hb d_M_savedThing_62 rfl (lv_at hl 0 rfl) ?_
    refine va_get (D := D) (ci := 1) (v := .ref (ad 5)) (C := R_M) (T := T_M) (N := 7) hx hb hts in_M hown hK hP 0 rfl rfl 4 (by decide) (hts (Cond.fieldLink R_M 28 "QueuedFronts$Machine" "saved" "LQueuedFronts$Flow;") mw_103) (fun _ h9 => h9) rfl d_M_savedThing_63 ?_
    refine va_get (D := D) (ci := 2) (v := .int st.2.2.2.2.1.1) (C := R_F) (T := T_F) (N := 4) hx hb hts in_F hown hK hP 5 rfl rfl 0 (by decide) (hts (Cond.fieldLink R_M 156 "QueuedFronts$Flow" "front" "I") mw_59) (fun _ h9 => h9) rfl d_M_savedThing_66 ?_
    refine qx_rd (va_runS (As := [.int st.2.2.2.2.1.1]) (rest := []) ⟨hx, hb, hml, hown, hts⟩ (c_Pl_spaceOf l D cA st.2.2.2.2.1.1) (qx_kS hts mw_304 mw_87 mw_32 mw_88 cd_Pl_spaceOf ⟨Nat.le_of_ble_eq_true rfl, Nat.le_of_ble_eq_true rfl⟩) (qx_preS hP hD hK hN [] rfl rfl) rfl rfl hl.1 rfl (lv_room (Nat.le_of_ble_eq_true rfl)) d_M_savedThing_69 ⟨Nat.zero_le _, Nat.zero_le _⟩) ?_
    exact W.iret hx hb hr (fun t ht hW => ⟨congrArg (fun z => Outcome.returned (some (Value.int z))) (show qf_Pl_spaceOf st.2.2.2.2.1.1 = qf_M_savedThing st x from (by unfold qf_M_savedThing; rw [if_neg h1, if_neg h2, if_pos h3])), ht⟩) (fun _ h => absurd h List.not_mem_nil) d_M_savedThing_72
  by_cases h4 : x = 3
  · refine lv_tableIn (tgt := 73) hx hb d_M_savedThing_1 (by rw [h4]; decide) (by rw [h4]; decide) (by rw [h4]; rfl) (by decide) ?_
    refine lv_aload_n hx hb d_M_savedThing_73 rfl (lv_at hl 0 rfl) ?_
    refine va_get (D := D) (ci := 1) (v := .ref (ad 5)) (C := R_M) (T := T_M) (N := 7) hx hb hts in_M hown hK hP 0 rfl rfl 4 (by decide) (hts (Cond.fieldLink R_M 28 "QueuedFronts$Machine" "saved" "LQueuedFronts$Flow;") mw_103) (fun _ h9 => h9) rfl d_M_savedThing_74 ?_
    refine va_get (D := D) (ci := 2) (v := .int st.2.2.2.2.1.2.1) (C := R_F) (T := T_F) (N := 4) hx hb hts in_F hown hK hP 5 rfl rfl 1 (by decide) (hts (Cond.fieldLink R_M 139 "QueuedFronts$Flow" "back" "I") mw_62) (fun _ h9 => h9) rfl d_M_savedThing_77 ?_
    refine qx_rd (va_runS (As := [.int st.2.2.2.2.1.2.1]) (rest := []) ⟨hx, hb, hml, hown, hts⟩ (c_Pl_spaceOf l D cA st.2.2.2.2.1.2.1) (qx_kS hts mw_304 mw_87 mw_32 mw_88 cd_Pl_spaceOf ⟨Nat.le_of_ble_eq_true rfl, Nat.le_of_ble_eq_true rfl⟩) (qx_preS hP hD hK hN [] rfl rfl) rfl rfl hl.1 rfl (lv_room (Nat.le_of_ble_eq_true rfl)) d_M_savedThing_80 ⟨Nat.zero_le _, Nat.zero_le _⟩) ?_
    exact W.iret hx hb hr (fun t ht hW => ⟨congrArg (fun z => Outcome.returned (some (Value.int z))) (show qf_Pl_spaceOf st.2.2.2.2.1.2.1 = qf_M_savedThing st x from (by unfold qf_M_savedThing; rw [if_neg h1, if_neg h2, if_neg h3, if_pos h4])), ht⟩) (fun _ h => absurd h List.not_mem_nil) d_M_savedThing_83
  by_cases h5 : x = 4
  · refine lv_tableIn (tgt := 84) hx hb d_M_savedThing_1 (by rw [h5]; decide) (by rw [h5]; decide) (by rw [h5]; rfl) (by decide) ?_
    refine lv_aload_n hx hb d_M_savedThing_84 rfl (lv_at hl 0 rfl) ?_
    refine va_get (D := D) (ci := 1) (v := .ref (ad 5)) (C := R_M) (T := T_M) (N := 7) hx hb hts in_M hown hK hP 0 rfl rfl 4 (by decide) (hts (Cond.fieldLink R_M 28 "QueuedFronts$Machine" "saved" "LQueuedFronts$Flow;") mw_103) (fun _ h9 => h9) rfl d_M_savedThing_85 ?_
    refine va_get (D := D) (ci := 2) (v := .int st.2.2.2.2.1.2.2.1) (C := R_F) (T := T_F) (N := 4) hx hb hts in_F hown hK hP 5 rfl rfl 2 (by decide) (hts (Cond.fieldLink R_M 174 "QueuedFronts$Flow" "nullify" "I") mw_65) (fun _ h9 => h9) rfl d_M_savedThing_88 ?_
    refine lv_iconst (v := 2) hx hb d_M_savedThing_91 (by decide) ?_
    refine lv_aload_n hx hb d_M_savedThing_92 rfl (lv_at hl 0 rfl) ?_
    refine va_get (D := D) (ci := 1) (v := .ref (ad 5)) (C := R_M) (T := T_M) (N := 7) hx hb hts in_M hown hK hP 0 rfl rfl 4 (by decide) (hts (Cond.fieldLink R_M 28 "QueuedFronts$Machine" "saved" "LQueuedFronts$Flow;") mw_103) (fun _ h9 => h9) rfl d_M_savedThing_93 ?_
    refine va_get (D := D) (ci := 2) (v := .int st.2.2.2.2.1.2.2.2) (C := R_F) (T := T_F) (N := 4) hx hb hts in_F hown hK hP 5 rfl rfl 3 (by decide) (hts (Cond.fieldLink R_M 165 "QueuedFronts$Flow" "lets" "I") mw_68) (fun _ h9 => h9) rfl d_M_savedThing_96 ?_
    refine lv_imul hx hb d_M_savedThing_99 ?_
    refine lv_iadd hx hb d_M_savedThing_100 ?_
    exact W.iret hx hb hr (fun t ht hW => ⟨congrArg (fun z => Outcome.returned (some (Value.int z))) (show (st.2.2.2.2.1.2.2.1 + (2 * st.2.2.2.2.1.2.2.2)) = qf_M_savedThing st x from (by unfold qf_M_savedThing; rw [if_neg h1, if_neg h2, if_neg h3, if_neg h4, if_pos h5])), ht⟩) (fun _ h => absurd h List.not_mem_nil) d_M_savedThing_101
  by_cases h6 : x = 5
  · refine lv_tableIn (tgt := 102) hx hb d_M_savedThing_1 (by rw [h6]; decide) (by rw [h6]; decide) (by rw [h6]; rfl) (by decide) ?_
    refine lv_aload_n hx hb d_M_savedThing_102 rfl (lv_at hl 0 rfl) ?_
    refine va_get (D := D) (ci := 1) (v := .int st.2.2.2.2.2.1) (C := R_M) (T := T_M) (N := 7) hx hb hts in_M hown hK hP 0 rfl rfl 5 (by decide) (hts (Cond.fieldLink R_M 31 "QueuedFronts$Machine" "savedCause" "I") mw_105) (fun _ h9 => h9) rfl d_M_savedThing_103 ?_
    exact W.iret hx hb hr (fun t ht hW => ⟨congrArg (fun z => Outcome.returned (some (Value.int z))) (show st.2.2.2.2.2.1 = qf_M_savedThing st x from (by unfold qf_M_savedThing; rw [if_neg h1, if_neg h2, if_neg h3, if_neg h4, if_neg h5, if_pos h6])), ht⟩) (fun _ h => absurd h List.not_mem_nil) d_M_savedThing_106
  refine lv_tableOut (tgt := 107) hx hb d_M_savedThing_1 (by have a0 := lv_neT (a := 0) h1 (by decide); have a1 := lv_neT (a := 1) h2 (by decide); have a2 := lv_neT (a := 2) h3 (by decide); have a3 := lv_neT (a := 3) h4 (by decide); have a4 := lv_neT (a := 4) h5 (by decide); have a5 := lv_neT (a := 5) h6 (by decide); omega) (by decide) ?_
  refine lv_iconst (v := 0) hx hb d_M_savedThing_107 (by decide) ?_
  exact W.iret hx hb hr (fun t ht hW => ⟨congrArg (fun z => Outcome.returned (some (Value.int z))) (show 0 = qf_M_savedThing st x from (by unfold qf_M_savedThing; rw [if_neg h1, if_neg h2, if_neg h3, if_neg h4, if_neg h5, if_neg h6])), ht⟩) (fun _ h => absurd h List.not_mem_nil) d_M_savedThing_108
def qf_M_setSavedThing (st : qs_M) (x : Int32) (v : Int32) : qs_M :=
  if x = 0 then (qm_M_sv st (qm_F_a st.2.2.2.2.1 (qf_Pl_of (qf_Pl_spaceOf st.2.2.2.2.1.1) v)))
  else if x = 1 then (qm_M_sv st (qm_F_b st.2.2.2.2.1 (qf_Pl_of (qf_Pl_spaceOf st.2.2.2.2.1.2.1) v)))
  else if x = 2 then (qm_M_sv st (qm_F_a st.2.2.2.2.1 (qf_Pl_of v (qf_Pl_offsetOf st.2.2.2.2.1.1))))
  else if x = 3 then (qm_M_sv st (qm_F_b st.2.2.2.2.1 (qf_Pl_of v (qf_Pl_offsetOf st.2.2.2.2.1.2.1))))
  else if x = 4 then (qm_M_sv st (qm_F_l (qm_F_n st.2.2.2.2.1 (v &&& 1)) ((qf_ush v 1) &&& 1)))
  else st
set_option maxHeartbeats 4000000 in
set_option maxRecDepth 100000 in
theorem c_M_setSavedThing (l : Launch) (D : va_G) (cA : ClassId) (ad : Nat → Nat) (st : qs_M) (x : Int32) (v : Int32) : Met l y_M_setSavedThing (Cond.code y_M_setSavedThing b_M_setSavedThing 3 none :: qx_T) ({ frames := 1, cells := 0, slots := 0, locals := 21 }) (qx_Pc D vwCl [(cA, .int)] (qw_M ad cA st) [.ref (ad 0), .int x, .int v]) (qx_Q D vwCl (qw_M ad cA (qf_M_setSavedThing st x v)) (qx_ad (qw_M ad cA st)) none) 0 0 (qx_ad (qw_M ad cA st)) := by
  refine Met.ofW (cc := b_M_setSavedThing) (maxL := 3) (ret := none) (by decide) rfl ?_
  intro p e s m args below meth c s₁ B hml hv
  obtain ⟨rfl, hP, hK, hN, hD0⟩ := hv
  have hx := B.exec
  have hb := B.bytes
  have hr := B.returns
  have hts0 := atoms_spec (ws := Cond.code y_M_setSavedThing b_M_setSavedThing 3 none :: qx_T) B.pre
  have hts := fun w h => hts0 w (List.mem_cons_of_mem _ h)
  have hown : s.vm.findClass R_M = some m.cls := findClass_of_methodNamed B.named
  have hlocks := B.notSynchronized
  have hD : va_D (qx_ad (qw_M ad cA st)) (qw_M ad cA st) := ⟨hD0.1, fun k q hk => ⟨k, q.2, hk⟩⟩
  generalize hAe : qx_ad (qw_M ad cA st) = A at hD ⊢
  have hS : va_S A s.heap s.heap [] := va_S.rf
  have hl := lv_entry ([.ref (ad 0), .int x, .int v]) (n := 3) (Nat.le_of_ble_eq_true rfl)
  rw [lg_entry_eq]
  generalize (lg_sl ([.ref (ad 0), .int x, .int v]) ++ List.replicate (3 - (lg_sl ([.ref (ad 0), .int x, .int v])).length) Slot.unset).toArray = ls at hl ⊢
  have hl : lv_has ls 3 [(0, .ref (ad 0)), (1, .int x), (2, .int v)] := hl
  refine lv_iload_n hx hb d_M_setSavedThing_0 rfl (lv_at hl 1 rfl) ?_
  by_cases h1 : x = 0
  · refine lv_tableIn (tgt := 36) hx hb d_M_setSavedThing_1 (by rw [h1]; decide) (by rw [h1]; decide) (by rw [h1]; rfl) (by decide) ?_
    refine lv_aload_n hx hb d_M_setSavedThing_36 rfl (lv_at hl 0 rfl) ?_
    refine va_get (D := D) (ci := 1) (v := .ref (ad 5)) (C := R_M) (T := T_M) (N := 7) hx hb hts in_M hown hK hP 0 rfl rfl 4 (by decide) (hts (Cond.fieldLink R_M 28 "QueuedFronts$Machine" "saved" "LQueuedFronts$Flow;") mw_103) (fun _ h9 => h9) rfl d_M_setSavedThing_37 ?_
    refine lv_aload_n hx hb d_M_setSavedThing_40 rfl (lv_at hl 0 rfl) ?_
    refine va_get (D := D) (ci := 1) (v := .ref (ad 5)) (C := R_M) (T := T_M) (N := 7) hx hb hts in_M hown hK hP 0 rfl rfl 4 (by decide) (hts (Cond.fieldLink R_M 28 "QueuedFronts$Machine" "saved" "LQueuedFronts$Flow;") mw_103) (fun _ h9 => h9) rfl d_M_setSavedThing_41 ?_
    refine va_get (D := D) (ci := 2) (v := .int st.2.2.2.2.1.1) (C := R_F) (T := T_F) (N := 4) hx hb hts in_F hown hK hP 5 rfl rfl 0 (by decide) (hts (Cond.fieldLink R_M 156 "QueuedFronts$Flow" "front" "I") mw_59) (fun _ h9 => h9) rfl d_M_setSavedThing_44 ?_
    refine qx_rd (va_runS (As := [.int st.2.2.2.2.1.1]) (rest := [.ref (ad 5)]) ⟨hx, hb, hml, hown, hts⟩ (c_Pl_spaceOf l D cA st.2.2.2.2.1.1) (qx_kS hts mw_304 mw_87 mw_32 mw_88 cd_Pl_spaceOf ⟨Nat.le_of_ble_eq_true rfl, Nat.le_of_ble_eq_true rfl⟩) (qx_preS hP hD hK hN [] rfl rfl) rfl rfl hl.1 rfl (lv_room (Nat.le_of_ble_eq_true rfl)) d_M_setSavedThing_47 ⟨Nat.zero_le _, Nat.zero_le _⟩) ?_
    refine lv_iload_n hx hb d_M_setSavedThing_50 rfl (lv_at hl 2 rfl) ?_
    refine qx_rd (va_runS (As := [.int (qf_Pl_spaceOf st.2.2.2.2.1.1), .int v]) (rest := [.ref (ad 5)]) ⟨hx, hb, hml, hown, hts⟩ (c_Pl_of l D cA (qf_Pl_spaceOf st.2.2.2.2.1.1) v) (qx_kS hts mw_204 mw_93 mw_32 mw_94 cd_Pl_of ⟨Nat.le_of_ble_eq_true rfl, Nat.le_of_ble_eq_true rfl⟩) (qx_preS hP hD hK hN [] rfl rfl) rfl rfl hl.1 rfl (lv_room (Nat.le_of_ble_eq_true rfl)) d_M_setSavedThing_51 ⟨Nat.zero_le _, Nat.zero_le _⟩) ?_
    refine va_put (D := D) (ci := 2) (v := .int (qf_Pl_of (qf_Pl_spaceOf st.2.2.2.2.1.1) v)) (ty := .int) (C := R_F) (T := T_F) (N := 4) hx hb hts in_F ty_F tyok_F nm_F hown hK hP hD hS 5 rfl rfl 0 (by decide) (hts (Cond.fieldLink R_M 156 "QueuedFronts$Flow" "front" "I") mw_59) (fun _ h9 => h9) rfl (by decide +kernel) rfl rfl (Nat.le_of_ble_eq_true rfl) d_M_setSavedThing_54 (fun H locs hP hD hS => ?_)
    have hP : va_P D vwCl (qw_M ad cA (qm_M_sv st (qm_F_a st.2.2.2.2.1 (qf_Pl_of (qf_Pl_spaceOf st.2.2.2.2.1.1) v)))) H := hP
    have hD : va_D A (qw_M ad cA (qm_M_sv st (qm_F_a st.2.2.2.2.1 (qf_Pl_of (qf_Pl_spaceOf st.2.2.2.2.1.1) v)))) := hD
    refine lv_goto (tgt := 157) hx hb d_M_setSavedThing_57 (by decide) ?_
    have e9 : (qm_M_sv st (qm_F_a st.2.2.2.2.1 (qf_Pl_of (qf_Pl_spaceOf st.2.2.2.2.1.1) v))) = qf_M_setSavedThing st x v := (by unfold qf_M_setSavedThing; rw [if_pos h1])
    exact W.vret hx hb hr (fun t ht hW => ⟨rfl, (by rw [ht, ← e9]; exact hP), hS.F ht⟩) hS.2.2 d_M_setSavedThing_157
  by_cases h2 : x = 1
  · refine lv_tableIn (tgt := 60) hx hb d_M_setSavedThing_1 (by rw [h2]; decide) (by rw [h2]; decide) (by rw [h2]; rfl) (by decide) ?_
    refine lv_aload_n hx hb d_M_setSavedThing_60 rfl (lv_at hl 0 rfl) ?_
    refine va_get (D := D) (ci := 1) (v := .ref (ad 5)) (C := R_M) (T := T_M) (N := 7) hx hb hts in_M hown hK hP 0 rfl rfl 4 (by decide) (hts (Cond.fieldLink R_M 28 "QueuedFronts$Machine" "saved" "LQueuedFronts$Flow;") mw_103) (fun _ h9 => h9) rfl d_M_setSavedThing_61 ?_
    refine lv_aload_n hx hb d_M_setSavedThing_64 rfl (lv_at hl 0 rfl) ?_
    refine va_get (D := D) (ci := 1) (v := .ref (ad 5)) (C := R_M) (T := T_M) (N := 7) hx hb hts in_M hown hK hP 0 rfl rfl 4 (by decide) (hts (Cond.fieldLink R_M 28 "QueuedFronts$Machine" "saved" "LQueuedFronts$Flow;") mw_103) (fun _ h9 => h9) rfl d_M_setSavedThing_65 ?_
    refine va_get (D := D) (ci := 2) (v := .int st.2.2.2.2.1.2.1) (C := R_F) (T := T_F) (N := 4) hx hb hts in_F hown hK hP 5 rfl rfl 1 (by decide) (hts (Cond.fieldLink R_M 139 "QueuedFronts$Flow" "back" "I") mw_62) (fun _ h9 => h9) rfl d_M_setSavedThing_68 ?_
    refine qx_rd (va_runS (As := [.int st.2.2.2.2.1.2.1]) (rest := [.ref (ad 5)]) ⟨hx, hb, hml, hown, hts⟩ (c_Pl_spaceOf l D cA st.2.2.2.2.1.2.1) (qx_kS hts mw_304 mw_87 mw_32 mw_88 cd_Pl_spaceOf ⟨Nat.le_of_ble_eq_true rfl, Nat.le_of_ble_eq_true rfl⟩) (qx_preS hP hD hK hN [] rfl rfl) rfl rfl hl.1 rfl (lv_room (Nat.le_of_ble_eq_true rfl)) d_M_setSavedThing_71 ⟨Nat.zero_le _, Nat.zero_le _⟩) ?_
    refine lv_iload_n hx hb d_M_setSavedThing_74 rfl (lv_at hl 2 rfl) ?_
    refine qx_rd (va_runS (As := [.int (qf_Pl_spaceOf st.2.2.2.2.1.2.1), .int v]) (rest := [.ref (ad 5)]) ⟨hx, hb, hml, hown, hts⟩ (c_Pl_of l D cA (qf_Pl_spaceOf st.2.2.2.2.1.2.1) v) (qx_kS hts mw_204 mw_93 mw_32 mw_94 cd_Pl_of ⟨Nat.le_of_ble_eq_true rfl, Nat.le_of_ble_eq_true rfl⟩) (qx_preS hP hD hK hN [] rfl rfl) rfl rfl hl.1 rfl (lv_room (Nat.le_of_ble_eq_true rfl)) d_M_setSavedThing_75 ⟨Nat.zero_le _, Nat.zero_le _⟩) ?_
    refine va_put (D := D) (ci := 2) (v := .int (qf_Pl_of (qf_Pl_spaceOf st.2.2.2.2.1.2.1) v)) (ty := .int) (C := R_F) (T := T_F) (N := 4) hx hb hts in_F ty_F tyok_F nm_F hown hK hP hD hS 5 rfl rfl 1 (by decide) (hts (Cond.fieldLink R_M 139 "QueuedFronts$Flow" "back" "I") mw_62) (fun _ h9 => h9) rfl (by decide +kernel) rfl rfl (Nat.le_of_ble_eq_true rfl) d_M_setSavedThing_78 (fun H locs hP hD hS => ?_)
    have hP : va_P D vwCl (qw_M ad cA (qm_M_sv st (qm_F_b st.2.2.2.2.1 (qf_Pl_of (qf_Pl_spaceOf st.2.2.2.2.1.2.1) v)))) H := hP
    have hD : va_D A (qw_M ad cA (qm_M_sv st (qm_F_b st.2.2.2.2.1 (qf_Pl_of (qf_Pl_spaceOf st.2.2.2.2.1.2.1) v)))) := hD
    refine lv_goto (tgt := 157) hx hb d_M_setSavedThing_81 (by decide) ?_
    have e9 : (qm_M_sv st (qm_F_b st.2.2.2.2.1 (qf_Pl_of (qf_Pl_spaceOf st.2.2.2.2.1.2.1) v))) = qf_M_setSavedThing st x v := (by unfold qf_M_setSavedThing; rw [if_neg h1, if_pos h2])
    exact W.vret hx hb hr (fun t ht hW => ⟨rfl, (by rw [ht, ← e9]; exact hP), hS.F ht⟩) hS.2.2 d_M_setSavedThing_157
  by_cases h3 : x = 2
  · refine lv_tableIn (tgt := 84) hx hb d_M_setSavedThing_1 (by rw [h3]; decide) (by rw [h3]; decide) (by rw [h3]; rfl) (by decide) ?_
    refine lv_aload_n hx hb d_M_setSavedThing_84 rfl (lv_at hl 0 rfl) ?_
    refine va_get (D := D) (ci := 1) (v := .ref (ad 5)) (C := R_M) (T := T_M) (N := 7) hx hb hts in_M hown hK hP 0 rfl rfl 4 (by decide) (hts (Cond.fieldLink R_M 28 "QueuedFronts$Machine" "saved" "LQueuedFronts$Flow;") mw_103) (fun _ h9 => h9) rfl d_M_setSavedThing_85 ?_
    refine lv_iload_n hx hb d_M_setSavedThing_88 rfl (lv_at hl 2 rfl) ?_
    refine lv_aload_n hx hb d_M_setSavedThing_89 rfl (lv_at hl 0 rfl) ?_
    refine va_get (D := D) (ci := 1) (v := .ref (ad 5)) (C := R_M) (T := T_M) (N := 7) hx hb hts in_M hown hK hP 0 rfl rfl 4 (by decide) (hts (Cond.fieldLink R_M 28 "QueuedFronts$Machine" "saved" "LQueuedFronts$Flow;") mw_103) (fun _ h9 => h9) rfl d_M_setSavedThing_90 ?_
    refine va_get (D := D) (ci := 2) (v := .int st.2.2.2.2.1.1) (C := R_F) (T := T_F) (N := 4) hx hb hts in_F hown hK hP 5 rfl rfl 0 (by decide) (hts (Cond.fieldLink R_M 156 "QueuedFronts$Flow" "front" "I") mw_59) (fun _ h9 => h9) rfl d_M_setSavedThing_93 ?_
    refine qx_rd (va_runS (As := [.int st.2.2.2.2.1.1]) (rest := [.int v, .ref (ad 5)]) ⟨hx, hb, hml, hown, hts⟩ (c_Pl_offsetOf l D cA st.2.2.2.2.1.1) (qx_kS hts mw_305 mw_90 mw_32 mw_91 cd_Pl_offsetOf ⟨Nat.le_of_ble_eq_true rfl, Nat.le_of_ble_eq_true rfl⟩) (qx_preS hP hD hK hN [] rfl rfl) rfl rfl hl.1 rfl (lv_room (Nat.le_of_ble_eq_true rfl)) d_M_setSavedThing_96 ⟨Nat.zero_le _, Nat.zero_le _⟩) ?_
    refine qx_rd (va_runS (As := [.int v, .int (qf_Pl_offsetOf st.2.2.2.2.1.1)]) (rest := [.ref (ad 5)]) ⟨hx, hb, hml, hown, hts⟩ (c_Pl_of l D cA v (qf_Pl_offsetOf st.2.2.2.2.1.1)) (qx_kS hts mw_204 mw_93 mw_32 mw_94 cd_Pl_of ⟨Nat.le_of_ble_eq_true rfl, Nat.le_of_ble_eq_true rfl⟩) (qx_preS hP hD hK hN [] rfl rfl) rfl rfl hl.1 rfl (lv_room (Nat.le_of_ble_eq_true rfl)) d_M_setSavedThing_99 ⟨Nat.zero_le _, Nat.zero_le _⟩) ?_
    refine va_put (D := D) (ci := 2) (v := .int (qf_Pl_of v (qf_Pl_offsetOf st.2.2.2.2.1.1))) (ty := .int) (C := R_F) (T := T_F) (N := 4) hx hb hts in_F ty_F tyok_F nm_F hown hK hP hD hS 5 rfl rfl 0 (by decide) (hts (Cond.fieldLink R_M 156 "QueuedFronts$Flow" "front" "I") mw_59) (fun _ h9 => h9) rfl (by decide +kernel) rfl rfl (Nat.le_of_ble_eq_true rfl) d_M_setSavedThing_102 (fun H locs hP hD hS => ?_)
    have hP : va_P D vwCl (qw_M ad cA (qm_M_sv st (qm_F_a st.2.2.2.2.1 (qf_Pl_of v (qf_Pl_offsetOf st.2.2.2.2.1.1))))) H := hP
    have hD : va_D A (qw_M ad cA (qm_M_sv st (qm_F_a st.2.2.2.2.1 (qf_Pl_of v (qf_Pl_offsetOf st.2.2.2.2.1.1))))) := hD
    refine lv_goto (tgt := 157) hx hb d_M_setSavedThing_105 (by decide) ?_
    have e9 : (qm_M_sv st (qm_F_a st.2.2.2.2.1 (qf_Pl_of v (qf_Pl_offsetOf st.2.2.2.2.1.1)))) = qf_M_setSavedThing st x v := (by unfold qf_M_setSavedThing; rw [if_neg h1, if_neg h2, if_pos h3])
    exact W.vret hx hb hr (fun t ht hW => ⟨rfl, (by rw [ht, ← e9]; exact hP), hS.F ht⟩) hS.2.2 d_M_setSavedThing_157
  by_cases h4 : x = 3
  · refine lv_tableIn (tgt := 108) hx hb d_M_setSavedThing_1 (by rw [h4]; decide) (by rw [h4]; decide) (by rw [h4]; rfl) (by decide) ?_
    refine lv_aload_n hx hb d_M_setSavedThing_108 rfl (lv_at hl 0 rfl) ?_
    refine va_get (D := D) (ci := 1) (v := .ref (ad 5)) (C := R_M) (T := T_M) (N := 7) hx hb hts in_M hown hK hP 0 rfl rfl 4 (by decide) (hts (Cond.fieldLink R_M 28 "QueuedFronts$Machine" "saved" "LQueuedFronts$Flow;") mw_103) (fun _ h9 => h9) rfl d_M_setSavedThing_109 ?_
    refine lv_iload_n hx hb d_M_setSavedThing_112 rfl (lv_at hl 2 rfl) ?_
    refine lv_aload_n hx hb d_M_setSavedThing_113 rfl (lv_at hl 0 rfl) ?_
    refine va_get (D := D) (ci := 1) (v := .ref (ad 5)) (C := R_M) (T := T_M) (N := 7) hx hb hts in_M hown hK hP 0 rfl rfl 4 (by decide) (hts (Cond.fieldLink R_M 28 "QueuedFronts$Machine" "saved" "LQueuedFronts$Flow;") mw_103) (fun _ h9 => h9) rfl d_M_setSavedThing_114 ?_
    refine va_get (D := D) (ci := 2) (v := .int st.2.2.2.2.1.2.1) (C := R_F) (T := T_F) (N := 4) hx hb hts in_F hown hK hP 5 rfl rfl 1 (by decide) (hts (Cond.fieldLink R_M 139 "QueuedFronts$Flow" "back" "I") mw_62) (fun _ h9 => h9) rfl d_M_setSavedThing_117 ?_
    refine qx_rd (va_runS (As := [.int st.2.2.2.2.1.2.1]) (rest := [.int v, .ref (ad 5)]) ⟨hx, hb, hml, hown, hts⟩ (c_Pl_offsetOf l D cA st.2.2.2.2.1.2.1) (qx_kS hts mw_305 mw_90 mw_32 mw_91 cd_Pl_offsetOf ⟨Nat.le_of_ble_eq_true rfl, Nat.le_of_ble_eq_true rfl⟩) (qx_preS hP hD hK hN [] rfl rfl) rfl rfl hl.1 rfl (lv_room (Nat.le_of_ble_eq_true rfl)) d_M_setSavedThing_120 ⟨Nat.zero_le _, Nat.zero_le _⟩) ?_
    refine qx_rd (va_runS (As := [.int v, .int (qf_Pl_offsetOf st.2.2.2.2.1.2.1)]) (rest := [.ref (ad 5)]) ⟨hx, hb, hml, hown, hts⟩ (c_Pl_of l D cA v (qf_Pl_offsetOf st.2.2.2.2.1.2.1)) (qx_kS hts mw_204 mw_93 mw_32 mw_94 cd_Pl_of ⟨Nat.le_of_ble_eq_true rfl, Nat.le_of_ble_eq_true rfl⟩) (qx_preS hP hD hK hN [] rfl rfl) rfl rfl hl.1 rfl (lv_room (Nat.le_of_ble_eq_true rfl)) d_M_setSavedThing_123 ⟨Nat.zero_le _, Nat.zero_le _⟩) ?_
    refine va_put (D := D) (ci := 2) (v := .int (qf_Pl_of v (qf_Pl_offsetOf st.2.2.2.2.1.2.1))) (ty := .int) (C := R_F) (T := T_F) (N := 4) hx hb hts in_F ty_F tyok_F nm_F hown hK hP hD hS 5 rfl rfl 1 (by decide) (hts (Cond.fieldLink R_M 139 "QueuedFronts$Flow" "back" "I") mw_62) (fun _ h9 => h9) rfl (by decide +kernel) rfl rfl (Nat.le_of_ble_eq_true rfl) d_M_setSavedThing_126 (fun H locs hP hD hS => ?_)
    have hP : va_P D vwCl (qw_M ad cA (qm_M_sv st (qm_F_b st.2.2.2.2.1 (qf_Pl_of v (qf_Pl_offsetOf st.2.2.2.2.1.2.1))))) H := hP
    have hD : va_D A (qw_M ad cA (qm_M_sv st (qm_F_b st.2.2.2.2.1 (qf_Pl_of v (qf_Pl_offsetOf st.2.2.2.2.1.2.1))))) := hD
    refine lv_goto (tgt := 157) hx hb d_M_setSavedThing_129 (by decide) ?_
    have e9 : (qm_M_sv st (qm_F_b st.2.2.2.2.1 (qf_Pl_of v (qf_Pl_offsetOf st.2.2.2.2.1.2.1)))) = qf_M_setSavedThing st x v := (by unfold qf_M_setSavedThing; rw [if_neg h1, if_neg h2, if_neg h3, if_pos h4])
    exact W.vret hx hb hr (fun t ht hW => ⟨rfl, (by rw [ht, ← e9]; exact hP), hS.F ht⟩) hS.2.2 d_M_setSavedThing_157
  by_cases h5 : x = 4
  · refine lv_tableIn (tgt := 132) hx hb d_M_setSavedThing_1 (by rw [h5]; decide) (by rw [h5]; decide) (by rw [h5]; rfl) (by decide) ?_
    refine lv_aload_n hx hb d_M_setSavedThing_132 rfl (lv_at hl 0 rfl) ?_
    refine va_get (D := D) (ci := 1) (v := .ref (ad 5)) (C := R_M) (T := T_M) (N := 7) hx hb hts in_M hown hK hP 0 rfl rfl 4 (by decide) (hts (Cond.fieldLink R_M 28 "QueuedFronts$Machine" "saved" "LQueuedFronts$Flow;") mw_103) (fun _ h9 => h9) rfl d_M_setSavedThing_133 ?_
    refine lv_iload_n hx hb d_M_setSavedThing_136 rfl (lv_at hl 2 rfl) ?_
    refine lv_iconst (v := 1) hx hb d_M_setSavedThing_137 (by decide) ?_
    refine lv_iand hx hb d_M_setSavedThing_138 ?_
    refine va_put (D := D) (ci := 2) (v := .int (v &&& 1)) (ty := .int) (C := R_F) (T := T_F) (N := 4) hx hb hts in_F ty_F tyok_F nm_F hown hK hP hD hS 5 rfl rfl 2 (by decide) (hts (Cond.fieldLink R_M 174 "QueuedFronts$Flow" "nullify" "I") mw_65) (fun _ h9 => h9) rfl (by decide +kernel) rfl rfl (Nat.le_of_ble_eq_true rfl) d_M_setSavedThing_139 (fun H locs hP hD hS => ?_)
    have hP : va_P D vwCl (qw_M ad cA (qm_M_sv st (qm_F_n st.2.2.2.2.1 (v &&& 1)))) H := hP
    have hD : va_D A (qw_M ad cA (qm_M_sv st (qm_F_n st.2.2.2.2.1 (v &&& 1)))) := hD
    refine lv_aload_n hx hb d_M_setSavedThing_142 rfl (lv_at hl 0 rfl) ?_
    refine va_get (D := D) (ci := 1) (v := .ref (ad 5)) (C := R_M) (T := T_M) (N := 7) hx hb hts in_M hown hK hP 0 rfl rfl 4 (by decide) (hts (Cond.fieldLink R_M 28 "QueuedFronts$Machine" "saved" "LQueuedFronts$Flow;") mw_103) (fun _ h9 => h9) rfl d_M_setSavedThing_143 ?_
    refine lv_iload_n hx hb d_M_setSavedThing_146 rfl (lv_at hl 2 rfl) ?_
    refine lv_iconst (v := 1) hx hb d_M_setSavedThing_147 (by decide) ?_
    refine lv_iushr (v := (qf_ush v 1)) hx hb d_M_setSavedThing_148 rfl ?_
    refine lv_iconst (v := 1) hx hb d_M_setSavedThing_149 (by decide) ?_
    refine lv_iand hx hb d_M_setSavedThing_150 ?_
    refine va_put (D := D) (ci := 2) (v := .int ((qf_ush v 1) &&& 1)) (ty := .int) (C := R_F) (T := T_F) (N := 4) hx hb hts in_F ty_F tyok_F nm_F hown hK hP hD hS 5 rfl rfl 3 (by decide) (hts (Cond.fieldLink R_M 165 "QueuedFronts$Flow" "lets" "I") mw_68) (fun _ h9 => h9) rfl (by decide +kernel) rfl rfl (Nat.le_of_ble_eq_true rfl) d_M_setSavedThing_151 (fun H locs hP hD hS => ?_)
    have hP : va_P D vwCl (qw_M ad cA (qm_M_sv st (qm_F_l (qm_F_n st.2.2.2.2.1 (v &&& 1)) ((qf_ush v 1) &&& 1)))) H := hP
    have hD : va_D A (qw_M ad cA (qm_M_sv st (qm_F_l (qm_F_n st.2.2.2.2.1 (v &&& 1)) ((qf_ush v 1) &&& 1)))) := hD
    refine lv_goto (tgt := 157) hx hb d_M_setSavedThing_154 (by decide) ?_
    have e9 : (qm_M_sv st (qm_F_l (qm_F_n st.2.2.2.2.1 (v &&& 1)) ((qf_ush v 1) &&& 1))) = qf_M_setSavedThing st x v := (by unfold qf_M_setSavedThing; rw [if_neg h1, if_neg h2, if_neg h3, if_neg h4, if_pos h5])
    exact W.vret hx hb hr (fun t ht hW => ⟨rfl, (by rw [ht, ← e9]; exact hP), hS.F ht⟩) hS.2.2 d_M_setSavedThing_157
  refine lv_tableOut (tgt := 157) hx hb d_M_setSavedThing_1 (by have a0 := lv_neT (a := 0) h1 (by decide); have a1 := lv_neT (a := 1) h2 (by decide); have a2 := lv_neT (a := 2) h3 (by decide); have a3 := lv_neT (a := 3) h4 (by decide); have a4 := lv_neT (a := 4) h5 (by decide); omega) (by decide) ?_
  have e9 : st = qf_M_setSavedThing st x v := (by unfold qf_M_setSavedThing; rw [if_neg h1, if_neg h2, if_neg h3, if_neg h4, if_neg h5])
  exact W.vret hx hb hr (fun t ht hW => ⟨rfl, (by rw [ht, ← e9]; exact hP), hS.F ht⟩) hS.2.2 d_M_setSavedThing_157
def qf_M_targetOf (st : qs_M) (w : Int32) : Int32 :=
  if qf_Pa_kind w = 16 then qf_Pl_of (qf_Pl_spaceOf st.2.2.2.1.1) (qf_M_valueA st w + qf_Pa_m w)
  else if qf_Pa_kind w = 17 then qf_Pl_of (qf_M_valueS st w) (qf_M_valueA st w + qf_Pa_m w)
  else qf_Pl_of (qf_Pl_spaceOf st.2.2.2.1.1) ((qf_Pl_offsetOf st.2.2.2.1.1 + 2) + qf_Pa_m w)
set_option maxHeartbeats 4000000 in
set_option maxRecDepth 100000 in
theorem c_M_targetOf (l : Launch) (D : va_G) (cA : ClassId) (ad : Nat → Nat) (st : qs_M) (w : Int32) : Met l y_M_targetOf (Cond.code y_M_targetOf b_M_targetOf 4 (some .int) :: qx_T) ({ frames := 2, cells := 0, slots := 0, locals := 41 }) (qx_Pc D vwCl [(cA, .int)] (qw_M ad cA st) [.ref (ad 0), .int w]) (k2_QcV (.int (qf_M_targetOf st w))) 0 0 (fun _ => False) := by
  refine Met.ofW (cc := b_M_targetOf) (maxL := 4) (ret := (some .int)) (by decide) rfl ?_
  intro p e s m args below meth c s₁ B hml hv
  obtain ⟨rfl, hP, hK, hN, hD0⟩ := hv
  have hx := B.exec
  have hb := B.bytes
  have hr := B.returns
  have hts0 := atoms_spec (ws := Cond.code y_M_targetOf b_M_targetOf 4 (some .int) :: qx_T) B.pre
  have hts := fun w h => hts0 w (List.mem_cons_of_mem _ h)
  have hown : s.vm.findClass R_M = some m.cls := findClass_of_methodNamed B.named
  have hlocks := B.notSynchronized
  have hD : va_D (qx_ad (qw_M ad cA st)) (qw_M ad cA st) := ⟨hD0.1, fun k q hk => ⟨k, q.2, hk⟩⟩
  generalize hAe : qx_ad (qw_M ad cA st) = A at hD
  have hS : va_S A s.heap s.heap [] := va_S.rf
  have hl := lv_entry ([.ref (ad 0), .int w]) (n := 4) (Nat.le_of_ble_eq_true rfl)
  rw [lg_entry_eq]
  generalize (lg_sl ([.ref (ad 0), .int w]) ++ List.replicate (4 - (lg_sl ([.ref (ad 0), .int w])).length) Slot.unset).toArray = ls at hl ⊢
  have hl : lv_has ls 4 [(0, .ref (ad 0)), (1, .int w)] := hl
  refine lv_aload_n hx hb d_M_targetOf_0 rfl (lv_at hl 0 rfl) ?_
  refine va_get (D := D) (ci := 1) (v := .ref (ad 4)) (C := R_M) (T := T_M) (N := 7) hx hb hts in_M hown hK hP 0 rfl rfl 3 (by decide) (hts (Cond.fieldLink R_M 24 "QueuedFronts$Machine" "flow" "LQueuedFronts$Flow;") mw_101) (fun _ h9 => h9) rfl d_M_targetOf_1 ?_
  refine va_get (D := D) (ci := 2) (v := .int st.2.2.2.1.1) (C := R_F) (T := T_F) (N := 4) hx hb hts in_F hown hK hP 4 rfl rfl 0 (by decide) (hts (Cond.fieldLink R_M 156 "QueuedFronts$Flow" "front" "I") mw_59) (fun _ h9 => h9) rfl d_M_targetOf_4 ?_
  refine qx_rd (va_runS (As := [.int st.2.2.2.1.1]) (rest := []) ⟨hx, hb, hml, hown, hts⟩ (c_Pl_spaceOf l D cA st.2.2.2.1.1) (qx_kS hts mw_304 mw_87 mw_32 mw_88 cd_Pl_spaceOf ⟨Nat.le_of_ble_eq_true rfl, Nat.le_of_ble_eq_true rfl⟩) (qx_preS hP hD hK hN [] rfl rfl) rfl rfl hl.1 rfl (lv_room (Nat.le_of_ble_eq_true rfl)) d_M_targetOf_7 ⟨Nat.zero_le _, Nat.zero_le _⟩) ?_
  refine lv_istore_n (lv' := [(2, .int (qf_Pl_spaceOf st.2.2.2.1.1)), (0, .ref (ad 0)), (1, .int w)]) hx hb d_M_targetOf_10 rfl hl (by decide) rfl (fun ls hl => ?_)
  refine lv_iload_n hx hb d_M_targetOf_11 rfl (lv_at hl 2 rfl) ?_
  refine qx_rd (va_runS (As := [.int w]) (rest := []) ⟨hx, hb, hml, hown, hts⟩ (c_Pa_m l D cA w) (qx_kS hts mw_237 mw_238 mw_34 mw_239 cd_Pa_m ⟨Nat.le_of_ble_eq_true rfl, Nat.le_of_ble_eq_true rfl⟩) (qx_preS hP hD hK hN [] rfl rfl) rfl rfl hl.1 rfl (lv_room (Nat.le_of_ble_eq_true rfl)) d_M_targetOf_12 ⟨Nat.zero_le _, Nat.zero_le _⟩) ?_
  refine lv_istore_n (lv' := [(3, .int (qf_Pa_m w)), (2, .int (qf_Pl_spaceOf st.2.2.2.1.1)), (0, .ref (ad 0)), (1, .int w)]) hx hb d_M_targetOf_15 rfl hl (by decide) rfl (fun ls hl => ?_)
  refine lv_iload_n hx hb d_M_targetOf_16 rfl (lv_at hl 3 rfl) ?_
  refine qx_rd (va_runS (As := [.int w]) (rest := []) ⟨hx, hb, hml, hown, hts⟩ (c_Pa_kind l D cA w) (qx_kS hts mw_217 mw_218 mw_34 mw_219 cd_Pa_kind ⟨Nat.le_of_ble_eq_true rfl, Nat.le_of_ble_eq_true rfl⟩) (qx_preS hP hD hK hN [] rfl rfl) rfl rfl hl.1 rfl (lv_room (Nat.le_of_ble_eq_true rfl)) d_M_targetOf_17 ⟨Nat.zero_le _, Nat.zero_le _⟩) ?_
  by_cases h1 : qf_Pa_kind w = 16
  · refine lv_lookup (off := 28) (tgt := 48) hx hb d_M_targetOf_20 (by decide) (by rw [h1]; try rfl) (by decide) ?_
    refine lv_iload_n hx hb d_M_targetOf_48 rfl (lv_at hl 1 rfl) ?_
    refine lv_aload_n hx hb d_M_targetOf_49 rfl (lv_at hl 2 rfl) ?_
    refine lv_iload_n hx hb d_M_targetOf_50 rfl (lv_at hl 3 rfl) ?_
    refine qx_rd (va_runV (As := [.int w]) (rest := [.int (qf_Pl_spaceOf st.2.2.2.1.1)]) ⟨hx, hb, hml, hown, hts⟩ (c_M_valueA l D cA ad st w) (qx_kV hts mw_220 mw_222 mw_2 mw_30 mw_223 cd_M_valueA ⟨Nat.le_of_ble_eq_true rfl, Nat.le_of_ble_eq_true rfl⟩) (qx_preV (q0 := 0) (ci := 1) (q := (R_M, T_M, 7)) hP hD hK hN [0, 1, 2, 3, 4, 5] rfl rfl rfl rfl) rfl rfl hl.1 rfl (lv_room (Nat.le_of_ble_eq_true rfl)) d_M_targetOf_51 ⟨Nat.zero_le _, Nat.zero_le _⟩) ?_
    refine lv_iload_n hx hb d_M_targetOf_54 rfl (lv_at hl 0 rfl) ?_
    refine lv_iadd hx hb d_M_targetOf_55 ?_
    refine qx_rd (va_runS (As := [.int (qf_Pl_spaceOf st.2.2.2.1.1), .int (qf_M_valueA st w + qf_Pa_m w)]) (rest := []) ⟨hx, hb, hml, hown, hts⟩ (c_Pl_of l D cA (qf_Pl_spaceOf st.2.2.2.1.1) (qf_M_valueA st w + qf_Pa_m w)) (qx_kS hts mw_204 mw_93 mw_32 mw_94 cd_Pl_of ⟨Nat.le_of_ble_eq_true rfl, Nat.le_of_ble_eq_true rfl⟩) (qx_preS hP hD hK hN [] rfl rfl) rfl rfl hl.1 rfl (lv_room (Nat.le_of_ble_eq_true rfl)) d_M_targetOf_56 ⟨Nat.zero_le _, Nat.zero_le _⟩) ?_
    exact W.iret hx hb hr (fun t ht hW => ⟨congrArg (fun z => Outcome.returned (some (Value.int z))) (show qf_Pl_of (qf_Pl_spaceOf st.2.2.2.1.1) (qf_M_valueA st w + qf_Pa_m w) = qf_M_targetOf st w from (by unfold qf_M_targetOf; rw [if_pos h1])), ht⟩) (fun _ h => absurd h List.not_mem_nil) d_M_targetOf_59
  by_cases h2 : qf_Pa_kind w = 17
  · refine lv_lookup (off := 40) (tgt := 60) hx hb d_M_targetOf_20 (by decide) (by rw [h2]; try rfl) (by decide) ?_
    refine lv_aload_n hx hb d_M_targetOf_60 rfl (lv_at hl 2 rfl) ?_
    refine lv_iload_n hx hb d_M_targetOf_61 rfl (lv_at hl 3 rfl) ?_
    refine qx_rd (va_runV (As := [.int w]) (rest := []) ⟨hx, hb, hml, hown, hts⟩ (c_M_valueS l D cA ad st w) (qx_kV hts mw_280 mw_282 mw_7 mw_30 mw_283 cd_M_valueS ⟨Nat.le_of_ble_eq_true rfl, Nat.le_of_ble_eq_true rfl⟩) (qx_preV (q0 := 0) (ci := 1) (q := (R_M, T_M, 7)) hP hD hK hN [0, 1, 2, 3, 4, 5] rfl rfl rfl rfl) rfl rfl hl.1 rfl (lv_room (Nat.le_of_ble_eq_true rfl)) d_M_targetOf_62 ⟨Nat.zero_le _, Nat.zero_le _⟩) ?_
    refine lv_aload_n hx hb d_M_targetOf_65 rfl (lv_at hl 2 rfl) ?_
    refine lv_iload_n hx hb d_M_targetOf_66 rfl (lv_at hl 3 rfl) ?_
    refine qx_rd (va_runV (As := [.int w]) (rest := [.int (qf_M_valueS st w)]) ⟨hx, hb, hml, hown, hts⟩ (c_M_valueA l D cA ad st w) (qx_kV hts mw_220 mw_222 mw_2 mw_30 mw_223 cd_M_valueA ⟨Nat.le_of_ble_eq_true rfl, Nat.le_of_ble_eq_true rfl⟩) (qx_preV (q0 := 0) (ci := 1) (q := (R_M, T_M, 7)) hP hD hK hN [0, 1, 2, 3, 4, 5] rfl rfl rfl rfl) rfl rfl hl.1 rfl (lv_room (Nat.le_of_ble_eq_true rfl)) d_M_targetOf_67 ⟨Nat.zero_le _, Nat.zero_le _⟩) ?_
    refine lv_iload_n hx hb d_M_targetOf_70 rfl (lv_at hl 0 rfl) ?_
    refine lv_iadd hx hb d_M_targetOf_71 ?_
    refine qx_rd (va_runS (As := [.int (qf_M_valueS st w), .int (qf_M_valueA st w + qf_Pa_m w)]) (rest := []) ⟨hx, hb, hml, hown, hts⟩ (c_Pl_of l D cA (qf_M_valueS st w) (qf_M_valueA st w + qf_Pa_m w)) (qx_kS hts mw_204 mw_93 mw_32 mw_94 cd_Pl_of ⟨Nat.le_of_ble_eq_true rfl, Nat.le_of_ble_eq_true rfl⟩) (qx_preS hP hD hK hN [] rfl rfl) rfl rfl hl.1 rfl (lv_room (Nat.le_of_ble_eq_true rfl)) d_M_targetOf_72 ⟨Nat.zero_le _, Nat.zero_le _⟩) ?_
    exact W.iret hx hb hr (fun t ht hW => ⟨congrArg (fun z => Outcome.returned (some (Value.int z))) (show qf_Pl_of (qf_M_valueS st w) (qf_M_valueA st w + qf_Pa_m w) = qf_M_targetOf st w from (by unfold qf_M_targetOf; rw [if_neg h1, if_pos h2])), ht⟩) (fun _ h => absurd h List.not_mem_nil) d_M_targetOf_75
  refine lv_lookup (off := 56) (tgt := 76) hx hb d_M_targetOf_20 (by decide) ((lv_osw h1 (by decide)).trans ((lv_osw h2 (by decide)).trans (rfl))) (by decide) ?_
  refine lv_iload_n hx hb d_M_targetOf_76 rfl (lv_at hl 1 rfl) ?_
  refine lv_aload_n hx hb d_M_targetOf_77 rfl (lv_at hl 2 rfl) ?_
  refine va_get (D := D) (ci := 1) (v := .ref (ad 4)) (C := R_M) (T := T_M) (N := 7) hx hb hts in_M hown hK hP 0 rfl rfl 3 (by decide) (hts (Cond.fieldLink R_M 24 "QueuedFronts$Machine" "flow" "LQueuedFronts$Flow;") mw_101) (fun _ h9 => h9) rfl d_M_targetOf_78 ?_
  refine va_get (D := D) (ci := 2) (v := .int st.2.2.2.1.1) (C := R_F) (T := T_F) (N := 4) hx hb hts in_F hown hK hP 4 rfl rfl 0 (by decide) (hts (Cond.fieldLink R_M 156 "QueuedFronts$Flow" "front" "I") mw_59) (fun _ h9 => h9) rfl d_M_targetOf_81 ?_
  refine qx_rd (va_runS (As := [.int st.2.2.2.1.1]) (rest := [.int (qf_Pl_spaceOf st.2.2.2.1.1)]) ⟨hx, hb, hml, hown, hts⟩ (c_Pl_offsetOf l D cA st.2.2.2.1.1) (qx_kS hts mw_305 mw_90 mw_32 mw_91 cd_Pl_offsetOf ⟨Nat.le_of_ble_eq_true rfl, Nat.le_of_ble_eq_true rfl⟩) (qx_preS hP hD hK hN [] rfl rfl) rfl rfl hl.1 rfl (lv_room (Nat.le_of_ble_eq_true rfl)) d_M_targetOf_84 ⟨Nat.zero_le _, Nat.zero_le _⟩) ?_
  refine lv_iconst (v := 2) hx hb d_M_targetOf_87 (by decide) ?_
  refine lv_iadd hx hb d_M_targetOf_88 ?_
  refine lv_iload_n hx hb d_M_targetOf_89 rfl (lv_at hl 0 rfl) ?_
  refine lv_iadd hx hb d_M_targetOf_90 ?_
  refine qx_rd (va_runS (As := [.int (qf_Pl_spaceOf st.2.2.2.1.1), .int ((qf_Pl_offsetOf st.2.2.2.1.1 + 2) + qf_Pa_m w)]) (rest := []) ⟨hx, hb, hml, hown, hts⟩ (c_Pl_of l D cA (qf_Pl_spaceOf st.2.2.2.1.1) ((qf_Pl_offsetOf st.2.2.2.1.1 + 2) + qf_Pa_m w)) (qx_kS hts mw_204 mw_93 mw_32 mw_94 cd_Pl_of ⟨Nat.le_of_ble_eq_true rfl, Nat.le_of_ble_eq_true rfl⟩) (qx_preS hP hD hK hN [] rfl rfl) rfl rfl hl.1 rfl (lv_room (Nat.le_of_ble_eq_true rfl)) d_M_targetOf_91 ⟨Nat.zero_le _, Nat.zero_le _⟩) ?_
  exact W.iret hx hb hr (fun t ht hW => ⟨congrArg (fun z => Outcome.returned (some (Value.int z))) (show qf_Pl_of (qf_Pl_spaceOf st.2.2.2.1.1) ((qf_Pl_offsetOf st.2.2.2.1.1 + 2) + qf_Pa_m w) = qf_M_targetOf st w from (by unfold qf_M_targetOf; rw [if_neg h1, if_neg h2])), ht⟩) (fun _ h => absurd h List.not_mem_nil) d_M_targetOf_94
def qf_M_takesBranch (st : qs_M) (w : Int32) (x : Int32) : Int32 :=
  if qf_Pa_kind w = 14 then qf_Co_holds (qf_Pa_condition w) (qf_M_valueA st w) (qf_M_valueB st w)
  else if qf_Pa_kind w = 15 then qf_Co_holds (qf_Pa_condition w) x (0 : Int32)
  else 1
set_option maxHeartbeats 4000000 in
set_option maxRecDepth 100000 in
theorem c_M_takesBranch (l : Launch) (D : va_G) (cA : ClassId) (ad : Nat → Nat) (st : qs_M) (w : Int32) (x : Int32) : Met l y_M_takesBranch (Cond.code y_M_takesBranch b_M_takesBranch 3 (some .boolean) :: qx_T) ({ frames := 2, cells := 0, slots := 0, locals := 42 }) (qx_Pc D vwCl [(cA, .int)] (qw_M ad cA st) [.ref (ad 0), .int w, .int x]) (k2_QcV (.int (qf_M_takesBranch st w x))) 0 0 (fun _ => False) := by
  refine Met.ofW (cc := b_M_takesBranch) (maxL := 3) (ret := (some .boolean)) (by decide) rfl ?_
  intro p e s m args below meth c s₁ B hml hv
  obtain ⟨rfl, hP, hK, hN, hD0⟩ := hv
  have hx := B.exec
  have hb := B.bytes
  have hr := B.returns
  have hts0 := atoms_spec (ws := Cond.code y_M_takesBranch b_M_takesBranch 3 (some .boolean) :: qx_T) B.pre
  have hts := fun w h => hts0 w (List.mem_cons_of_mem _ h)
  have hown : s.vm.findClass R_M = some m.cls := findClass_of_methodNamed B.named
  have hlocks := B.notSynchronized
  have hD : va_D (qx_ad (qw_M ad cA st)) (qw_M ad cA st) := ⟨hD0.1, fun k q hk => ⟨k, q.2, hk⟩⟩
  generalize hAe : qx_ad (qw_M ad cA st) = A at hD
  have hS : va_S A s.heap s.heap [] := va_S.rf
  have hl := lv_entry ([.ref (ad 0), .int w, .int x]) (n := 3) (Nat.le_of_ble_eq_true rfl)
  rw [lg_entry_eq]
  generalize (lg_sl ([.ref (ad 0), .int w, .int x]) ++ List.replicate (3 - (lg_sl ([.ref (ad 0), .int w, .int x])).length) Slot.unset).toArray = ls at hl ⊢
  have hl : lv_has ls 3 [(0, .ref (ad 0)), (1, .int w), (2, .int x)] := hl
  refine lv_iload_n hx hb d_M_takesBranch_0 rfl (lv_at hl 1 rfl) ?_
  refine qx_rd (va_runS (As := [.int w]) (rest := []) ⟨hx, hb, hml, hown, hts⟩ (c_Pa_kind l D cA w) (qx_kS hts mw_217 mw_218 mw_34 mw_219 cd_Pa_kind ⟨Nat.le_of_ble_eq_true rfl, Nat.le_of_ble_eq_true rfl⟩) (qx_preS hP hD hK hN [] rfl rfl) rfl rfl hl.1 rfl (lv_room (Nat.le_of_ble_eq_true rfl)) d_M_takesBranch_1 ⟨Nat.zero_le _, Nat.zero_le _⟩) ?_
  by_cases h1 : qf_Pa_kind w = 14
  · refine lv_lookup (off := 28) (tgt := 32) hx hb d_M_takesBranch_4 (by decide) (by rw [h1]; try rfl) (by decide) ?_
    refine lv_iload_n hx hb d_M_takesBranch_32 rfl (lv_at hl 1 rfl) ?_
    refine qx_rd (va_runS (As := [.int w]) (rest := []) ⟨hx, hb, hml, hown, hts⟩ (c_Pa_condition l D cA w) (qx_kS hts mw_258 mw_259 mw_34 mw_260 cd_Pa_condition ⟨Nat.le_of_ble_eq_true rfl, Nat.le_of_ble_eq_true rfl⟩) (qx_preS hP hD hK hN [] rfl rfl) rfl rfl hl.1 rfl (lv_room (Nat.le_of_ble_eq_true rfl)) d_M_takesBranch_33 ⟨Nat.zero_le _, Nat.zero_le _⟩) ?_
    refine lv_aload_n hx hb d_M_takesBranch_36 rfl (lv_at hl 0 rfl) ?_
    refine lv_iload_n hx hb d_M_takesBranch_37 rfl (lv_at hl 1 rfl) ?_
    refine qx_rd (va_runV (As := [.int w]) (rest := [.int (qf_Pa_condition w)]) ⟨hx, hb, hml, hown, hts⟩ (c_M_valueA l D cA ad st w) (qx_kV hts mw_220 mw_222 mw_2 mw_30 mw_223 cd_M_valueA ⟨Nat.le_of_ble_eq_true rfl, Nat.le_of_ble_eq_true rfl⟩) (qx_preV (q0 := 0) (ci := 1) (q := (R_M, T_M, 7)) hP hD hK hN [0, 1, 2, 3, 4, 5] rfl rfl rfl rfl) rfl rfl hl.1 rfl (lv_room (Nat.le_of_ble_eq_true rfl)) d_M_takesBranch_38 ⟨Nat.zero_le _, Nat.zero_le _⟩) ?_
    refine lv_aload_n hx hb d_M_takesBranch_41 rfl (lv_at hl 0 rfl) ?_
    refine lv_iload_n hx hb d_M_takesBranch_42 rfl (lv_at hl 1 rfl) ?_
    refine qx_rd (va_runV (As := [.int w]) (rest := [.int (qf_M_valueA st w), .int (qf_Pa_condition w)]) ⟨hx, hb, hml, hown, hts⟩ (c_M_valueB l D cA ad st w) (qx_kV hts mw_227 mw_229 mw_3 mw_30 mw_230 cd_M_valueB ⟨Nat.le_of_ble_eq_true rfl, Nat.le_of_ble_eq_true rfl⟩) (qx_preV (q0 := 0) (ci := 1) (q := (R_M, T_M, 7)) hP hD hK hN [0, 1, 2, 3, 4, 5] rfl rfl rfl rfl) rfl rfl hl.1 rfl (lv_room (Nat.le_of_ble_eq_true rfl)) d_M_takesBranch_43 ⟨Nat.zero_le _, Nat.zero_le _⟩) ?_
    refine qx_rd (va_runS (As := [.int (qf_Pa_condition w), .int (qf_M_valueA st w), .int (qf_M_valueB st w)]) (rest := []) ⟨hx, hb, hml, hown, hts⟩ (c_Co_holds l D cA (qf_Pa_condition w) (qf_M_valueA st w) (qf_M_valueB st w)) (qx_kS hts mw_261 mw_262 mw_35 mw_263 cd_Co_holds ⟨Nat.le_of_ble_eq_true rfl, Nat.le_of_ble_eq_true rfl⟩) (qx_preS hP hD hK hN [] rfl rfl) rfl rfl hl.1 rfl (lv_room (Nat.le_of_ble_eq_true rfl)) d_M_takesBranch_46 ⟨Nat.zero_le _, Nat.zero_le _⟩) ?_
    exact W.zret (ty := .boolean) hx hb hr (qb_nar (qf_Co_holds_qb _ _ _)) (fun t ht hW => ⟨congrArg (fun z => Outcome.returned (some (Value.int z))) (show qf_Co_holds (qf_Pa_condition w) (qf_M_valueA st w) (qf_M_valueB st w) = qf_M_takesBranch st w x from (by unfold qf_M_takesBranch; rw [if_pos h1])), ht⟩) (fun _ h => absurd h List.not_mem_nil) d_M_takesBranch_49
  by_cases h2 : qf_Pa_kind w = 15
  · refine lv_lookup (off := 46) (tgt := 50) hx hb d_M_takesBranch_4 (by decide) (by rw [h2]; try rfl) (by decide) ?_
    refine lv_iload_n hx hb d_M_takesBranch_50 rfl (lv_at hl 1 rfl) ?_
    refine qx_rd (va_runS (As := [.int w]) (rest := []) ⟨hx, hb, hml, hown, hts⟩ (c_Pa_condition l D cA w) (qx_kS hts mw_258 mw_259 mw_34 mw_260 cd_Pa_condition ⟨Nat.le_of_ble_eq_true rfl, Nat.le_of_ble_eq_true rfl⟩) (qx_preS hP hD hK hN [] rfl rfl) rfl rfl hl.1 rfl (lv_room (Nat.le_of_ble_eq_true rfl)) d_M_takesBranch_51 ⟨Nat.zero_le _, Nat.zero_le _⟩) ?_
    refine lv_iload_n hx hb d_M_takesBranch_54 rfl (lv_at hl 2 rfl) ?_
    refine lv_iconst (v := 0) hx hb d_M_takesBranch_55 (by decide) ?_
    refine qx_rd (va_runS (As := [.int (qf_Pa_condition w), .int x, .int 0]) (rest := []) ⟨hx, hb, hml, hown, hts⟩ (c_Co_holds l D cA (qf_Pa_condition w) x 0) (qx_kS hts mw_261 mw_262 mw_35 mw_263 cd_Co_holds ⟨Nat.le_of_ble_eq_true rfl, Nat.le_of_ble_eq_true rfl⟩) (qx_preS hP hD hK hN [] rfl rfl) rfl rfl hl.1 rfl (lv_room (Nat.le_of_ble_eq_true rfl)) d_M_takesBranch_56 ⟨Nat.zero_le _, Nat.zero_le _⟩) ?_
    exact W.zret (ty := .boolean) hx hb hr (qb_nar (qf_Co_holds_qb _ _ _)) (fun t ht hW => ⟨congrArg (fun z => Outcome.returned (some (Value.int z))) (show qf_Co_holds (qf_Pa_condition w) x (0 : Int32) = qf_M_takesBranch st w x from (by unfold qf_M_takesBranch; rw [if_neg h1, if_pos h2])), ht⟩) (fun _ h => absurd h List.not_mem_nil) d_M_takesBranch_59
  refine lv_lookup (off := 56) (tgt := 60) hx hb d_M_takesBranch_4 (by decide) ((lv_osw h1 (by decide)).trans ((lv_osw h2 (by decide)).trans (rfl))) (by decide) ?_
  refine lv_iconst (v := 1) hx hb d_M_takesBranch_60 (by decide) ?_
  exact W.zret (ty := .boolean) hx hb hr rfl (fun t ht hW => ⟨congrArg (fun z => Outcome.returned (some (Value.int z))) (show 1 = qf_M_takesBranch st w x from (by unfold qf_M_takesBranch; rw [if_neg h1, if_neg h2])), ht⟩) (fun _ h => absurd h List.not_mem_nil) d_M_takesBranch_61
theorem qf_M_takesBranch_qb (st : qs_M) (w x : Int32) : qb (qf_M_takesBranch st w x) := by
  unfold qf_M_takesBranch
  repeat' (first | exact qb_1 | exact qf_Co_holds_qb _ _ _ | apply qb_ite)
def qf_M_causeOf (st : qs_M) (w : Int32) : Int32 :=
  if qf_Pa_kind w = 1 then (if qf_M_isInt ((qf_M_valueA st w).toInt64 + (qf_M_valueB st w).toInt64) = 0 then 2
    else 0)
  else if qf_Pa_kind w = 3 then (if qf_M_isInt ((qf_M_valueA st w).toInt64 - (qf_M_valueB st w).toInt64) = 0 then 2
    else 0)
  else if qf_Pa_kind w = 11 then (if qf_Q_isDataOffset (qf_M_valueA st w + qf_Pa_m w) = 0 then 3
    else 0)
  else if qf_Pa_kind w = 12 then (if qf_Q_isDataOffset (qf_M_valueA st w + qf_Pa_m w) = 0 then 3
    else 0)
  else if qf_Pa_kind w = 24 then 4
  else if qf_Pa_kind w ≤ 24 then 0
  else 5
set_option maxHeartbeats 4000000 in
set_option maxRecDepth 100000 in
theorem c_M_causeOf (l : Launch) (D : va_G) (cA : ClassId) (ad : Nat → Nat) (st : qs_M) (w : Int32) : Met l y_M_causeOf (Cond.code y_M_causeOf b_M_causeOf 3 (some .int) :: qx_T) ({ frames := 2, cells := 0, slots := 0, locals := 41 }) (qx_Pc D vwCl [(cA, .int)] (qw_M ad cA st) [.ref (ad 0), .int w]) (k2_QcV (.int (qf_M_causeOf st w))) 0 0 (fun _ => False) := by
  refine Met.ofW (cc := b_M_causeOf) (maxL := 3) (ret := (some .int)) (by decide) rfl ?_
  intro p e s m args below meth c s₁ B hml hv
  obtain ⟨rfl, hP, hK, hN, hD0⟩ := hv
  have hx := B.exec
  have hb := B.bytes
  have hr := B.returns
  have hts0 := atoms_spec (ws := Cond.code y_M_causeOf b_M_causeOf 3 (some .int) :: qx_T) B.pre
  have hts := fun w h => hts0 w (List.mem_cons_of_mem _ h)
  have hown : s.vm.findClass R_M = some m.cls := findClass_of_methodNamed B.named
  have hlocks := B.notSynchronized
  have hD : va_D (qx_ad (qw_M ad cA st)) (qw_M ad cA st) := ⟨hD0.1, fun k q hk => ⟨k, q.2, hk⟩⟩
  generalize hAe : qx_ad (qw_M ad cA st) = A at hD
  have hS : va_S A s.heap s.heap [] := va_S.rf
  have hl := lv_entry ([.ref (ad 0), .int w]) (n := 3) (Nat.le_of_ble_eq_true rfl)
  rw [lg_entry_eq]
  generalize (lg_sl ([.ref (ad 0), .int w]) ++ List.replicate (3 - (lg_sl ([.ref (ad 0), .int w])).length) Slot.unset).toArray = ls at hl ⊢
  have hl : lv_has ls 3 [(0, .ref (ad 0)), (1, .int w)] := hl
  refine lv_iload_n hx hb d_M_causeOf_0 rfl (lv_at hl 1 rfl) ?_
  refine qx_rd (va_runS (As := [.int w]) (rest := []) ⟨hx, hb, hml, hown, hts⟩ (c_Pa_kind l D cA w) (qx_kS hts mw_217 mw_218 mw_34 mw_219 cd_Pa_kind ⟨Nat.le_of_ble_eq_true rfl, Nat.le_of_ble_eq_true rfl⟩) (qx_preS hP hD hK hN [] rfl rfl) rfl rfl hl.1 rfl (lv_room (Nat.le_of_ble_eq_true rfl)) d_M_causeOf_1 ⟨Nat.zero_le _, Nat.zero_le _⟩) ?_
  refine lv_istore_n (lv' := [(2, .int (qf_Pa_kind w)), (0, .ref (ad 0)), (1, .int w)]) hx hb d_M_causeOf_4 rfl hl (by decide) rfl (fun ls hl => ?_)
  refine lv_iload_n hx hb d_M_causeOf_5 rfl (lv_at hl 0 rfl) ?_
  by_cases h1 : qf_Pa_kind w = 1
  · refine lv_lookup (off := 50) (tgt := 56) hx hb d_M_causeOf_6 (by decide) (by rw [h1]; try rfl) (by decide) ?_
    refine lv_aload_n hx hb d_M_causeOf_56 rfl (lv_at hl 1 rfl) ?_
    refine lv_iload_n hx hb d_M_causeOf_57 rfl (lv_at hl 2 rfl) ?_
    refine qx_rd (va_runV (As := [.int w]) (rest := []) ⟨hx, hb, hml, hown, hts⟩ (c_M_valueA l D cA ad st w) (qx_kV hts mw_220 mw_222 mw_2 mw_30 mw_223 cd_M_valueA ⟨Nat.le_of_ble_eq_true rfl, Nat.le_of_ble_eq_true rfl⟩) (qx_preV (q0 := 0) (ci := 1) (q := (R_M, T_M, 7)) hP hD hK hN [0, 1, 2, 3, 4, 5] rfl rfl rfl rfl) rfl rfl hl.1 rfl (lv_room (Nat.le_of_ble_eq_true rfl)) d_M_causeOf_58 ⟨Nat.zero_le _, Nat.zero_le _⟩) ?_
    refine lv_i2l (v := (qf_M_valueA st w).toInt64) hx hb d_M_causeOf_61 rfl ?_
    refine lv_aload_n hx hb d_M_causeOf_62 rfl (lv_at hl 1 rfl) ?_
    refine lv_iload_n hx hb d_M_causeOf_63 rfl (lv_at hl 2 rfl) ?_
    refine qx_rd (va_runV (As := [.int w]) (rest := [.long ((qf_M_valueA st w).toInt64)]) ⟨hx, hb, hml, hown, hts⟩ (c_M_valueB l D cA ad st w) (qx_kV hts mw_227 mw_229 mw_3 mw_30 mw_230 cd_M_valueB ⟨Nat.le_of_ble_eq_true rfl, Nat.le_of_ble_eq_true rfl⟩) (qx_preV (q0 := 0) (ci := 1) (q := (R_M, T_M, 7)) hP hD hK hN [0, 1, 2, 3, 4, 5] rfl rfl rfl rfl) rfl rfl hl.1 rfl (lv_room (Nat.le_of_ble_eq_true rfl)) d_M_causeOf_64 ⟨Nat.zero_le _, Nat.zero_le _⟩) ?_
    refine lv_i2l (v := (qf_M_valueB st w).toInt64) hx hb d_M_causeOf_67 rfl ?_
    refine lv_ladd hx hb d_M_causeOf_68 ?_
    refine qx_rd (va_runS (As := [.long ((qf_M_valueA st w).toInt64 + (qf_M_valueB st w).toInt64)]) (rest := []) ⟨hx, hb, hml, hown, hts⟩ (c_M_isInt l D cA ((qf_M_valueA st w).toInt64 + (qf_M_valueB st w).toInt64)) (qx_kS hts mw_234 mw_235 mw_30 mw_236 cd_M_isInt ⟨Nat.le_of_ble_eq_true rfl, Nat.le_of_ble_eq_true rfl⟩) (qx_preS hP hD hK hN [] rfl rfl) rfl rfl hl.1 rfl (lv_room (Nat.le_of_ble_eq_true rfl)) d_M_causeOf_69 ⟨Nat.zero_le _, Nat.zero_le _⟩) ?_
    refine lv_if_eq (tgt := 79) hx hb d_M_causeOf_72 (by decide) (fun h2 => ?_) (fun h2 => ?_)
    · have h2 : qf_M_isInt ((qf_M_valueA st w).toInt64 + (qf_M_valueB st w).toInt64) = 0 := h2
      refine lv_iconst (v := 2) hx hb d_M_causeOf_79 (by decide) ?_
      exact W.iret hx hb hr (fun t ht hW => ⟨congrArg (fun z => Outcome.returned (some (Value.int z))) (show 2 = qf_M_causeOf st w from (by unfold qf_M_causeOf; rw [if_pos h1, if_pos h2])), ht⟩) (fun _ h => absurd h List.not_mem_nil) d_M_causeOf_80
    · have h2 : ¬ (qf_M_isInt ((qf_M_valueA st w).toInt64 + (qf_M_valueB st w).toInt64) = 0) := h2
      refine lv_iconst (v := 0) hx hb d_M_causeOf_75 (by decide) ?_
      refine lv_goto (tgt := 80) hx hb d_M_causeOf_76 (by decide) ?_
      exact W.iret hx hb hr (fun t ht hW => ⟨congrArg (fun z => Outcome.returned (some (Value.int z))) (show 0 = qf_M_causeOf st w from (by unfold qf_M_causeOf; rw [if_pos h1, if_neg h2])), ht⟩) (fun _ h => absurd h List.not_mem_nil) d_M_causeOf_80
  by_cases h3 : qf_Pa_kind w = 3
  · refine lv_lookup (off := 75) (tgt := 81) hx hb d_M_causeOf_6 (by decide) (by rw [h3]; try rfl) (by decide) ?_
    refine lv_aload_n hx hb d_M_causeOf_81 rfl (lv_at hl 1 rfl) ?_
    refine lv_iload_n hx hb d_M_causeOf_82 rfl (lv_at hl 2 rfl) ?_
    refine qx_rd (va_runV (As := [.int w]) (rest := []) ⟨hx, hb, hml, hown, hts⟩ (c_M_valueA l D cA ad st w) (qx_kV hts mw_220 mw_222 mw_2 mw_30 mw_223 cd_M_valueA ⟨Nat.le_of_ble_eq_true rfl, Nat.le_of_ble_eq_true rfl⟩) (qx_preV (q0 := 0) (ci := 1) (q := (R_M, T_M, 7)) hP hD hK hN [0, 1, 2, 3, 4, 5] rfl rfl rfl rfl) rfl rfl hl.1 rfl (lv_room (Nat.le_of_ble_eq_true rfl)) d_M_causeOf_83 ⟨Nat.zero_le _, Nat.zero_le _⟩) ?_
    refine lv_i2l (v := (qf_M_valueA st w).toInt64) hx hb d_M_causeOf_86 rfl ?_
    refine lv_aload_n hx hb d_M_causeOf_87 rfl (lv_at hl 1 rfl) ?_
    refine lv_iload_n hx hb d_M_causeOf_88 rfl (lv_at hl 2 rfl) ?_
    refine qx_rd (va_runV (As := [.int w]) (rest := [.long ((qf_M_valueA st w).toInt64)]) ⟨hx, hb, hml, hown, hts⟩ (c_M_valueB l D cA ad st w) (qx_kV hts mw_227 mw_229 mw_3 mw_30 mw_230 cd_M_valueB ⟨Nat.le_of_ble_eq_true rfl, Nat.le_of_ble_eq_true rfl⟩) (qx_preV (q0 := 0) (ci := 1) (q := (R_M, T_M, 7)) hP hD hK hN [0, 1, 2, 3, 4, 5] rfl rfl rfl rfl) rfl rfl hl.1 rfl (lv_room (Nat.le_of_ble_eq_true rfl)) d_M_causeOf_89 ⟨Nat.zero_le _, Nat.zero_le _⟩) ?_
    refine lv_i2l (v := (qf_M_valueB st w).toInt64) hx hb d_M_causeOf_92 rfl ?_
    refine lv_lsub hx hb d_M_causeOf_93 ?_
    refine qx_rd (va_runS (As := [.long ((qf_M_valueA st w).toInt64 - (qf_M_valueB st w).toInt64)]) (rest := []) ⟨hx, hb, hml, hown, hts⟩ (c_M_isInt l D cA ((qf_M_valueA st w).toInt64 - (qf_M_valueB st w).toInt64)) (qx_kS hts mw_234 mw_235 mw_30 mw_236 cd_M_isInt ⟨Nat.le_of_ble_eq_true rfl, Nat.le_of_ble_eq_true rfl⟩) (qx_preS hP hD hK hN [] rfl rfl) rfl rfl hl.1 rfl (lv_room (Nat.le_of_ble_eq_true rfl)) d_M_causeOf_94 ⟨Nat.zero_le _, Nat.zero_le _⟩) ?_
    refine lv_if_eq (tgt := 104) hx hb d_M_causeOf_97 (by decide) (fun h4 => ?_) (fun h4 => ?_)
    · have h4 : qf_M_isInt ((qf_M_valueA st w).toInt64 - (qf_M_valueB st w).toInt64) = 0 := h4
      refine lv_iconst (v := 2) hx hb d_M_causeOf_104 (by decide) ?_
      exact W.iret hx hb hr (fun t ht hW => ⟨congrArg (fun z => Outcome.returned (some (Value.int z))) (show 2 = qf_M_causeOf st w from (by unfold qf_M_causeOf; rw [if_neg h1, if_pos h3, if_pos h4])), ht⟩) (fun _ h => absurd h List.not_mem_nil) d_M_causeOf_105
    · have h4 : ¬ (qf_M_isInt ((qf_M_valueA st w).toInt64 - (qf_M_valueB st w).toInt64) = 0) := h4
      refine lv_iconst (v := 0) hx hb d_M_causeOf_100 (by decide) ?_
      refine lv_goto (tgt := 105) hx hb d_M_causeOf_101 (by decide) ?_
      exact W.iret hx hb hr (fun t ht hW => ⟨congrArg (fun z => Outcome.returned (some (Value.int z))) (show 0 = qf_M_causeOf st w from (by unfold qf_M_causeOf; rw [if_neg h1, if_pos h3, if_neg h4])), ht⟩) (fun _ h => absurd h List.not_mem_nil) d_M_causeOf_105
  by_cases h5 : qf_Pa_kind w = 11
  · refine lv_lookup (off := 100) (tgt := 106) hx hb d_M_causeOf_6 (by decide) (by rw [h5]; try rfl) (by decide) ?_
    refine lv_aload_n hx hb d_M_causeOf_106 rfl (lv_at hl 1 rfl) ?_
    refine lv_iload_n hx hb d_M_causeOf_107 rfl (lv_at hl 2 rfl) ?_
    refine qx_rd (va_runV (As := [.int w]) (rest := []) ⟨hx, hb, hml, hown, hts⟩ (c_M_valueA l D cA ad st w) (qx_kV hts mw_220 mw_222 mw_2 mw_30 mw_223 cd_M_valueA ⟨Nat.le_of_ble_eq_true rfl, Nat.le_of_ble_eq_true rfl⟩) (qx_preV (q0 := 0) (ci := 1) (q := (R_M, T_M, 7)) hP hD hK hN [0, 1, 2, 3, 4, 5] rfl rfl rfl rfl) rfl rfl hl.1 rfl (lv_room (Nat.le_of_ble_eq_true rfl)) d_M_causeOf_108 ⟨Nat.zero_le _, Nat.zero_le _⟩) ?_
    refine lv_iload_n hx hb d_M_causeOf_111 rfl (lv_at hl 2 rfl) ?_
    refine qx_rd (va_runS (As := [.int w]) (rest := [.int (qf_M_valueA st w)]) ⟨hx, hb, hml, hown, hts⟩ (c_Pa_m l D cA w) (qx_kS hts mw_237 mw_238 mw_34 mw_239 cd_Pa_m ⟨Nat.le_of_ble_eq_true rfl, Nat.le_of_ble_eq_true rfl⟩) (qx_preS hP hD hK hN [] rfl rfl) rfl rfl hl.1 rfl (lv_room (Nat.le_of_ble_eq_true rfl)) d_M_causeOf_112 ⟨Nat.zero_le _, Nat.zero_le _⟩) ?_
    refine lv_iadd hx hb d_M_causeOf_115 ?_
    refine qx_rd (va_runSN (As := [.int (qf_M_valueA st w + qf_Pa_m w)]) (rest := []) ⟨hx, hb, hml, hown, hts⟩ (c_Q_isDataOffset l D cA (qf_M_valueA st w + qf_Pa_m w)) (qx_kSN hts hN.2.1 mw_156 mw_29 mw_157 cd_Q_isDataOffset ⟨Nat.le_of_ble_eq_true rfl, Nat.le_of_ble_eq_true rfl⟩) (qx_preS hP hD hK hN [] rfl rfl) rfl rfl hl.1 rfl (lv_room (Nat.le_of_ble_eq_true rfl)) d_M_causeOf_116 ⟨Nat.zero_le _, Nat.zero_le _⟩) ?_
    refine lv_if_eq (tgt := 126) hx hb d_M_causeOf_119 (by decide) (fun h6 => ?_) (fun h6 => ?_)
    · have h6 : qf_Q_isDataOffset (qf_M_valueA st w + qf_Pa_m w) = 0 := h6
      refine lv_iconst (v := 3) hx hb d_M_causeOf_126 (by decide) ?_
      exact W.iret hx hb hr (fun t ht hW => ⟨congrArg (fun z => Outcome.returned (some (Value.int z))) (show 3 = qf_M_causeOf st w from (by unfold qf_M_causeOf; rw [if_neg h1, if_neg h3, if_pos h5, if_pos h6])), ht⟩) (fun _ h => absurd h List.not_mem_nil) d_M_causeOf_127
    · have h6 : ¬ (qf_Q_isDataOffset (qf_M_valueA st w + qf_Pa_m w) = 0) := h6
      refine lv_iconst (v := 0) hx hb d_M_causeOf_122 (by decide) ?_
      refine lv_goto (tgt := 127) hx hb d_M_causeOf_123 (by decide) ?_
      exact W.iret hx hb hr (fun t ht hW => ⟨congrArg (fun z => Outcome.returned (some (Value.int z))) (show 0 = qf_M_causeOf st w from (by unfold qf_M_causeOf; rw [if_neg h1, if_neg h3, if_pos h5, if_neg h6])), ht⟩) (fun _ h => absurd h List.not_mem_nil) d_M_causeOf_127
  by_cases h7 : qf_Pa_kind w = 12
  · refine lv_lookup (off := 100) (tgt := 106) hx hb d_M_causeOf_6 (by decide) (by rw [h7]; try rfl) (by decide) ?_
    refine lv_aload_n hx hb d_M_causeOf_106 rfl (lv_at hl 1 rfl) ?_
    refine lv_iload_n hx hb d_M_causeOf_107 rfl (lv_at hl 2 rfl) ?_
    refine qx_rd (va_runV (As := [.int w]) (rest := []) ⟨hx, hb, hml, hown, hts⟩ (c_M_valueA l D cA ad st w) (qx_kV hts mw_220 mw_222 mw_2 mw_30 mw_223 cd_M_valueA ⟨Nat.le_of_ble_eq_true rfl, Nat.le_of_ble_eq_true rfl⟩) (qx_preV (q0 := 0) (ci := 1) (q := (R_M, T_M, 7)) hP hD hK hN [0, 1, 2, 3, 4, 5] rfl rfl rfl rfl) rfl rfl hl.1 rfl (lv_room (Nat.le_of_ble_eq_true rfl)) d_M_causeOf_108 ⟨Nat.zero_le _, Nat.zero_le _⟩) ?_
    refine lv_iload_n hx hb d_M_causeOf_111 rfl (lv_at hl 2 rfl) ?_
    refine qx_rd (va_runS (As := [.int w]) (rest := [.int (qf_M_valueA st w)]) ⟨hx, hb, hml, hown, hts⟩ (c_Pa_m l D cA w) (qx_kS hts mw_237 mw_238 mw_34 mw_239 cd_Pa_m ⟨Nat.le_of_ble_eq_true rfl, Nat.le_of_ble_eq_true rfl⟩) (qx_preS hP hD hK hN [] rfl rfl) rfl rfl hl.1 rfl (lv_room (Nat.le_of_ble_eq_true rfl)) d_M_causeOf_112 ⟨Nat.zero_le _, Nat.zero_le _⟩) ?_
    refine lv_iadd hx hb d_M_causeOf_115 ?_
    refine qx_rd (va_runSN (As := [.int (qf_M_valueA st w + qf_Pa_m w)]) (rest := []) ⟨hx, hb, hml, hown, hts⟩ (c_Q_isDataOffset l D cA (qf_M_valueA st w + qf_Pa_m w)) (qx_kSN hts hN.2.1 mw_156 mw_29 mw_157 cd_Q_isDataOffset ⟨Nat.le_of_ble_eq_true rfl, Nat.le_of_ble_eq_true rfl⟩) (qx_preS hP hD hK hN [] rfl rfl) rfl rfl hl.1 rfl (lv_room (Nat.le_of_ble_eq_true rfl)) d_M_causeOf_116 ⟨Nat.zero_le _, Nat.zero_le _⟩) ?_
    refine lv_if_eq (tgt := 126) hx hb d_M_causeOf_119 (by decide) (fun h8 => ?_) (fun h8 => ?_)
    · have h8 : qf_Q_isDataOffset (qf_M_valueA st w + qf_Pa_m w) = 0 := h8
      refine lv_iconst (v := 3) hx hb d_M_causeOf_126 (by decide) ?_
      exact W.iret hx hb hr (fun t ht hW => ⟨congrArg (fun z => Outcome.returned (some (Value.int z))) (show 3 = qf_M_causeOf st w from (by unfold qf_M_causeOf; rw [if_neg h1, if_neg h3, if_neg h5, if_pos h7, if_pos h8])), ht⟩) (fun _ h => absurd h List.not_mem_nil) d_M_causeOf_127
    · have h8 : ¬ (qf_Q_isDataOffset (qf_M_valueA st w + qf_Pa_m w) = 0) := h8
      refine lv_iconst (v := 0) hx hb d_M_causeOf_122 (by decide) ?_
      refine lv_goto (tgt := 127) hx hb d_M_causeOf_123 (by decide) ?_
      exact W.iret hx hb hr (fun t ht hW => ⟨congrArg (fun z => Outcome.returned (some (Value.int z))) (show 0 = qf_M_causeOf st w from (by unfold qf_M_causeOf; rw [if_neg h1, if_neg h3, if_neg h5, if_pos h7, if_neg h8])), ht⟩) (fun _ h => absurd h List.not_mem_nil) d_M_causeOf_127
  by_cases h9 : qf_Pa_kind w = 24
  · refine lv_lookup (off := 122) (tgt := 128) hx hb d_M_causeOf_6 (by decide) (by rw [h9]; try rfl) (by decide) ?_
    refine lv_iconst (v := 4) hx hb d_M_causeOf_128 (by decide) ?_
    exact W.iret hx hb hr (fun t ht hW => ⟨congrArg (fun z => Outcome.returned (some (Value.int z))) (show 4 = qf_M_causeOf st w from (by unfold qf_M_causeOf; rw [if_neg h1, if_neg h3, if_neg h5, if_neg h7, if_pos h9])), ht⟩) (fun _ h => absurd h List.not_mem_nil) d_M_causeOf_129
  refine lv_lookup (off := 124) (tgt := 130) hx hb d_M_causeOf_6 (by decide) ((lv_osw h1 (by decide)).trans ((lv_osw h3 (by decide)).trans ((lv_osw h5 (by decide)).trans ((lv_osw h7 (by decide)).trans ((lv_osw h9 (by decide)).trans (rfl)))))) (by decide) ?_
  refine lv_iload_n hx hb d_M_causeOf_130 rfl (lv_at hl 0 rfl) ?_
  refine lv_bipush (v := 24) hx hb d_M_causeOf_131 (by decide) ?_
  refine lv_icmp_le (tgt := 140) hx hb d_M_causeOf_133 (by decide) (fun h10 => ?_) (fun h10 => ?_)
  · have h10 : qf_Pa_kind w ≤ 24 := h10
    refine lv_iconst (v := 0) hx hb d_M_causeOf_140 (by decide) ?_
    exact W.iret hx hb hr (fun t ht hW => ⟨congrArg (fun z => Outcome.returned (some (Value.int z))) (show 0 = qf_M_causeOf st w from (by unfold qf_M_causeOf; rw [if_neg h1, if_neg h3, if_neg h5, if_neg h7, if_neg h9, if_pos h10])), ht⟩) (fun _ h => absurd h List.not_mem_nil) d_M_causeOf_141
  · have h10 : ¬ (qf_Pa_kind w ≤ 24) := h10
    refine lv_iconst (v := 5) hx hb d_M_causeOf_136 (by decide) ?_
    refine lv_goto (tgt := 141) hx hb d_M_causeOf_137 (by decide) ?_
    exact W.iret hx hb hr (fun t ht hW => ⟨congrArg (fun z => Outcome.returned (some (Value.int z))) (show 5 = qf_M_causeOf st w from (by unfold qf_M_causeOf; rw [if_neg h1, if_neg h3, if_neg h5, if_neg h7, if_neg h9, if_neg h10])), ht⟩) (fun _ h => absurd h List.not_mem_nil) d_M_causeOf_141
theorem qi_cause (st : qs_M) (w : Int32) : vp_in (qf_M_causeOf st w) 7 := by
  unfold qf_M_causeOf
  repeat' (first | exact qi_lit (by decide) | apply qi_if)
