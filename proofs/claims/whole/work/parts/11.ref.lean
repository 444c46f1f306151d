def qf_X_isIn (x : Int32) (y : Int32) : Int32 :=
  if x < 0 then 0
  else if y ≤ x then 0
  else 1
set_option maxHeartbeats 4000000 in
set_option maxRecDepth 100000 in
theorem c_X_isIn (l : Launch) (D : va_G) (cA : ClassId) (x : Int32) (y : Int32) : Met l y_X_isIn (Cond.code y_X_isIn b_X_isIn 2 (some .boolean) :: qx_T) ({ frames := 0, cells := 0, slots := 0, locals := 0 }) (qx_Pc D vwCl [(cA, .int)] ([]) [.int x, .int y]) (k2_QcV (.int (qf_X_isIn x y))) 0 0 (fun _ => False) := by
  refine Met.ofW (cc := b_X_isIn) (maxL := 2) (ret := (some .boolean)) (by decide) rfl ?_
  intro p e s m args below meth c s₁ B hml hv
  obtain ⟨rfl, hP, hK, hN, hD0⟩ := hv
  have hx := B.exec
  have hb := B.bytes
  have hr := B.returns
  have hts0 := atoms_spec (ws := Cond.code y_X_isIn b_X_isIn 2 (some .boolean) :: qx_T) B.pre
  have hts := fun w h => hts0 w (List.mem_cons_of_mem _ h)
  have hown : s.vm.findClass R_X = some m.cls := findClass_of_methodNamed B.named
  have hlocks := B.notSynchronized
  have hD : va_D (qx_ad ([])) ([]) := ⟨hD0.1, fun k q hk => ⟨k, q.2, hk⟩⟩
  generalize hAe : qx_ad ([]) = A at hD
  have hS : va_S A s.heap s.heap [] := va_S.rf
  have hl := lv_entry ([.int x, .int y]) (n := 2) (Nat.le_of_ble_eq_true rfl)
  rw [lg_entry_eq]
  generalize (lg_sl ([.int x, .int y]) ++ List.replicate (2 - (lg_sl ([.int x, .int y])).length) Slot.unset).toArray = ls at hl ⊢
  have hl : lv_has ls 2 [(0, .int x), (1, .int y)] := hl
  refine lv_iload_n hx hb d_X_isIn_0 rfl (lv_at hl 0 rfl) ?_
  refine lv_if_lt (tgt := 13) hx hb d_X_isIn_1 (by decide) (fun h1 => ?_) (fun h1 => ?_)
  · have h1 : x < 0 := h1
    refine lv_iconst (v := 0) hx hb d_X_isIn_13 (by decide) ?_
    exact W.zret (ty := .boolean) hx hb hr rfl (fun t ht hW => ⟨congrArg (fun z => Outcome.returned (some (Value.int z))) (show 0 = qf_X_isIn x y from (by unfold qf_X_isIn; rw [if_pos h1])), ht⟩) (fun _ h => absurd h List.not_mem_nil) d_X_isIn_14
  · have h1 : ¬ (x < 0) := h1
    refine lv_iload_n hx hb d_X_isIn_4 rfl (lv_at hl 0 rfl) ?_
    refine lv_iload_n hx hb d_X_isIn_5 rfl (lv_at hl 1 rfl) ?_
    refine lv_icmp_ge (tgt := 13) hx hb d_X_isIn_6 (by decide) (fun h2 => ?_) (fun h2 => ?_)
    · have h2 : y ≤ x := h2
      refine lv_iconst (v := 0) hx hb d_X_isIn_13 (by decide) ?_
      exact W.zret (ty := .boolean) hx hb hr rfl (fun t ht hW => ⟨congrArg (fun z => Outcome.returned (some (Value.int z))) (show 0 = qf_X_isIn x y from (by unfold qf_X_isIn; rw [if_neg h1, if_pos h2])), ht⟩) (fun _ h => absurd h List.not_mem_nil) d_X_isIn_14
    · have h2 : ¬ (y ≤ x) := h2
      refine lv_iconst (v := 1) hx hb d_X_isIn_9 (by decide) ?_
      refine lv_goto (tgt := 14) hx hb d_X_isIn_10 (by decide) ?_
      exact W.zret (ty := .boolean) hx hb hr rfl (fun t ht hW => ⟨congrArg (fun z => Outcome.returned (some (Value.int z))) (show 1 = qf_X_isIn x y from (by unfold qf_X_isIn; rw [if_neg h1, if_neg h2])), ht⟩) (fun _ h => absurd h List.not_mem_nil) d_X_isIn_14
def qf_X_place (x : Int32) (y : Int32) : Int32 :=
  ((32 * (x &&& 3)) + (y &&& 31))
set_option maxHeartbeats 4000000 in
set_option maxRecDepth 100000 in
theorem c_X_place (l : Launch) (D : va_G) (cA : ClassId) (x : Int32) (y : Int32) : Met l y_X_place (Cond.code y_X_place b_X_place 2 (some .int) :: qx_T) ({ frames := 0, cells := 0, slots := 0, locals := 0 }) (qx_Pc D vwCl [(cA, .int)] ([]) [.int x, .int y]) (k2_QcV (.int (qf_X_place x y))) 0 0 (fun _ => False) := by
  refine Met.ofW (cc := b_X_place) (maxL := 2) (ret := (some .int)) (by decide) rfl ?_
  intro p e s m args below meth c s₁ B hml hv
  obtain ⟨rfl, hP, hK, hN, hD0⟩ := hv
  have hx := B.exec
  have hb := B.bytes
  have hr := B.returns
  have hts0 := atoms_spec (ws := Cond.code y_X_place b_X_place 2 (some .int) :: qx_T) B.pre
  have hts := fun w h => hts0 w (List.mem_cons_of_mem _ h)
  have hown : s.vm.findClass R_X = some m.cls := findClass_of_methodNamed B.named
  have hlocks := B.notSynchronized
  have hD : va_D (qx_ad ([])) ([]) := ⟨hD0.1, fun k q hk => ⟨k, q.2, hk⟩⟩
  generalize hAe : qx_ad ([]) = A at hD
  have hS : va_S A s.heap s.heap [] := va_S.rf
  have hl := lv_entry ([.int x, .int y]) (n := 2) (Nat.le_of_ble_eq_true rfl)
  rw [lg_entry_eq]
  generalize (lg_sl ([.int x, .int y]) ++ List.replicate (2 - (lg_sl ([.int x, .int y])).length) Slot.unset).toArray = ls at hl ⊢
  have hl : lv_has ls 2 [(0, .int x), (1, .int y)] := hl
  refine lv_bipush (v := 32) hx hb d_X_place_0 (by decide) ?_
  refine lv_iload_n hx hb d_X_place_2 rfl (lv_at hl 0 rfl) ?_
  refine lv_iconst (v := 3) hx hb d_X_place_3 (by decide) ?_
  refine lv_iand hx hb d_X_place_4 ?_
  refine lv_imul hx hb d_X_place_5 ?_
  refine lv_iload_n hx hb d_X_place_6 rfl (lv_at hl 1 rfl) ?_
  refine lv_bipush (v := 31) hx hb d_X_place_7 (by decide) ?_
  refine lv_iand hx hb d_X_place_9 ?_
  refine lv_iadd hx hb d_X_place_10 ?_
  exact W.iret hx hb hr (fun t ht hW => ⟨congrArg (fun z => Outcome.returned (some (Value.int z))) (show ((32 * (x &&& 3)) + (y &&& 31)) = qf_X_place x y from rfl), ht⟩) (fun _ h => absurd h List.not_mem_nil) d_X_place_11
theorem qi_Xp (x y : Int32) : vp_in (qf_X_place x y) 128 := by
  unfold qf_X_place
  rw [qi_mulC]
  exact qi_row 32 128 (qi_and3 x) (qi_and31 y) (by decide) (by decide) (by decide) (by decide) (by decide) (c := 32) (by decide)
def qf_X_behind (x : Int32) : Int32 :=
  qf_X_place (x / 32) (x + 1)
set_option maxHeartbeats 4000000 in
set_option maxRecDepth 100000 in
theorem c_X_behind (l : Launch) (D : va_G) (cA : ClassId) (x : Int32) : Met l y_X_behind (Cond.code y_X_behind b_X_behind 1 (some .int) :: qx_T) ({ frames := 1, cells := 0, slots := 0, locals := 21 }) (qx_Pc D vwCl [(cA, .int)] ([]) [.int x]) (k2_QcV (.int (qf_X_behind x))) 0 0 (fun _ => False) := by
  refine Met.ofW (cc := b_X_behind) (maxL := 1) (ret := (some .int)) (by decide) rfl ?_
  intro p e s m args below meth c s₁ B hml hv
  obtain ⟨rfl, hP, hK, hN, hD0⟩ := hv
  have hx := B.exec
  have hb := B.bytes
  have hr := B.returns
  have hts0 := atoms_spec (ws := Cond.code y_X_behind b_X_behind 1 (some .int) :: qx_T) B.pre
  have hts := fun w h => hts0 w (List.mem_cons_of_mem _ h)
  have hown : s.vm.findClass R_X = some m.cls := findClass_of_methodNamed B.named
  have hlocks := B.notSynchronized
  have hD : va_D (qx_ad ([])) ([]) := ⟨hD0.1, fun k q hk => ⟨k, q.2, hk⟩⟩
  generalize hAe : qx_ad ([]) = A at hD
  have hS : va_S A s.heap s.heap [] := va_S.rf
  have hl := lv_entry ([.int x]) (n := 1) (Nat.le_of_ble_eq_true rfl)
  rw [lg_entry_eq]
  generalize (lg_sl ([.int x]) ++ List.replicate (1 - (lg_sl ([.int x])).length) Slot.unset).toArray = ls at hl ⊢
  have hl : lv_has ls 1 [(0, .int x)] := hl
  refine lv_iload_n hx hb d_X_behind_0 rfl (lv_at hl 0 rfl) ?_
  refine lv_bipush (v := 32) hx hb d_X_behind_1 (by decide) ?_
  refine lv_idiv hx hb d_X_behind_3 (by decide) ?_
  refine lv_iload_n hx hb d_X_behind_4 rfl (lv_at hl 0 rfl) ?_
  refine lv_iconst (v := 1) hx hb d_X_behind_5 (by decide) ?_
  refine lv_iadd hx hb d_X_behind_6 ?_
  refine qx_rd (va_runS (As := [.int (x / 32), .int (x + 1)]) (rest := []) ⟨hx, hb, hml, hown, hts⟩ (c_X_place l D cA (x / 32) (x + 1)) (qx_kS hts mw_402 mw_403 mw_33 mw_404 cd_X_place ⟨Nat.le_of_ble_eq_true rfl, Nat.le_of_ble_eq_true rfl⟩) (qx_preS hP hD hK hN [] rfl rfl) rfl rfl hl.1 rfl (lv_room (Nat.le_of_ble_eq_true rfl)) d_X_behind_7 ⟨Nat.zero_le _, Nat.zero_le _⟩) ?_
  exact W.iret hx hb hr (fun t ht hW => ⟨congrArg (fun z => Outcome.returned (some (Value.int z))) (show qf_X_place (x / 32) (x + 1) = qf_X_behind x from rfl), ht⟩) (fun _ h => absurd h List.not_mem_nil) d_X_behind_10
def qf_X_holds (k : Int32) (x : Int32) (y : Int32) : Int32 :=
  if k = 1 then (if x = y then 1
    else 0)
  else if k = 2 then (if y ≤ x then 0
    else 1)
  else if k = 3 then (if y < x then 0
    else 1)
  else if k = 4 then (if 0 ≤ (lg_cmp (x.toInt64 &&& 4294967295) (y.toInt64 &&& 4294967295)) then 0
    else 1)
  else if k = 5 then (if 0 < (lg_cmp (x.toInt64 &&& 4294967295) (y.toInt64 &&& 4294967295)) then 0
    else 1)
  else if k = 6 then (if ((x - y) &&& 1) = 1 then 1
    else 0)
  else if k = 7 then 1
  else 0
set_option maxHeartbeats 4000000 in
set_option maxRecDepth 100000 in
theorem c_X_holds (l : Launch) (D : va_G) (cA : ClassId) (k : Int32) (x : Int32) (y : Int32) : Met l y_X_holds (Cond.code y_X_holds b_X_holds 7 (some .boolean) :: qx_T) ({ frames := 0, cells := 0, slots := 0, locals := 0 }) (qx_Pc D vwCl [(cA, .int)] ([]) [.int k, .int x, .int y]) (k2_QcV (.int (qf_X_holds k x y))) 0 0 (fun _ => False) := by
  refine Met.ofW (cc := b_X_holds) (maxL := 7) (ret := (some .boolean)) (by decide) rfl ?_
  intro p e s m args below meth c s₁ B hml hv
  obtain ⟨rfl, hP, hK, hN, hD0⟩ := hv
  have hx := B.exec
  have hb := B.bytes
  have hr := B.returns
  have hts0 := atoms_spec (ws := Cond.code y_X_holds b_X_holds 7 (some .boolean) :: qx_T) B.pre
  have hts := fun w h => hts0 w (List.mem_cons_of_mem _ h)
  have hown : s.vm.findClass R_X = some m.cls := findClass_of_methodNamed B.named
  have hlocks := B.notSynchronized
  have hD : va_D (qx_ad ([])) ([]) := ⟨hD0.1, fun k q hk => ⟨k, q.2, hk⟩⟩
  generalize hAe : qx_ad ([]) = A at hD
  have hS : va_S A s.heap s.heap [] := va_S.rf
  have hl := lv_entry ([.int k, .int x, .int y]) (n := 7) (Nat.le_of_ble_eq_true rfl)
  rw [lg_entry_eq]
  generalize (lg_sl ([.int k, .int x, .int y]) ++ List.replicate (7 - (lg_sl ([.int k, .int x, .int y])).length) Slot.unset).toArray = ls at hl ⊢
  have hl : lv_has ls 7 [(0, .int k), (1, .int x), (2, .int y)] := hl
  refine lv_iload_n hx hb d_X_holds_0 rfl (lv_at hl 1 rfl) ?_
  refine lv_i2l (v := x.toInt64) hx hb d_X_holds_1 rfl ?_
  refine lv_ldc2 (v := 4294967295) hx hb hown (hts (.constantLong R_X 34 4294967295) mw_463) d_X_holds_2 ?_
  refine lv_land hx hb d_X_holds_5 ?_
  refine lv_lstore_n (lv' := [(3, .long (x.toInt64 &&& 4294967295)), (0, .int k), (1, .int x), (2, .int y)]) hx hb d_X_holds_6 rfl hl (by decide) rfl (fun ls hl => ?_)
  refine lv_iload_n hx hb d_X_holds_7 rfl (lv_at hl 3 rfl) ?_
  refine lv_i2l (v := y.toInt64) hx hb d_X_holds_8 rfl ?_
  refine lv_ldc2 (v := 4294967295) hx hb hown (hts (.constantLong R_X 34 4294967295) mw_463) d_X_holds_9 ?_
  refine lv_land hx hb d_X_holds_12 ?_
  refine lv_lstore (lv' := [(5, .long (y.toInt64 &&& 4294967295)), (3, .long (x.toInt64 &&& 4294967295)), (0, .int k), (1, .int x), (2, .int y)]) hx hb d_X_holds_13 hl (by decide) rfl (fun ls hl => ?_)
  refine lv_iload_n hx hb d_X_holds_15 rfl (lv_at hl 2 rfl) ?_
  by_cases h1 : k = 1
  · refine lv_tableIn (tgt := 56) hx hb d_X_holds_16 (by rw [h1]; decide) (by rw [h1]; decide) (by rw [h1]; rfl) (by decide) ?_
    refine lv_iload_n hx hb d_X_holds_56 rfl (lv_at hl 3 rfl) ?_
    refine lv_iload_n hx hb d_X_holds_57 rfl (lv_at hl 4 rfl) ?_
    refine lv_icmp_ne (tgt := 65) hx hb d_X_holds_58 (by decide) (fun h2 => ?_) (fun h2 => ?_)
    · have h2 : ¬ (x = y) := h2
      refine lv_iconst (v := 0) hx hb d_X_holds_65 (by decide) ?_
      exact W.zret (ty := .boolean) hx hb hr rfl (fun t ht hW => ⟨congrArg (fun z => Outcome.returned (some (Value.int z))) (show 0 = qf_X_holds k x y from (by unfold qf_X_holds; rw [if_pos h1, if_neg h2])), ht⟩) (fun _ h => absurd h List.not_mem_nil) d_X_holds_66
    · have h2 : x = y := h2
      refine lv_iconst (v := 1) hx hb d_X_holds_61 (by decide) ?_
      refine lv_goto (tgt := 66) hx hb d_X_holds_62 (by decide) ?_
      exact W.zret (ty := .boolean) hx hb hr rfl (fun t ht hW => ⟨congrArg (fun z => Outcome.returned (some (Value.int z))) (show 1 = qf_X_holds k x y from (by unfold qf_X_holds; rw [if_pos h1, if_pos h2])), ht⟩) (fun _ h => absurd h List.not_mem_nil) d_X_holds_66
  by_cases h3 : k = 2
  · refine lv_tableIn (tgt := 67) hx hb d_X_holds_16 (by rw [h3]; decide) (by rw [h3]; decide) (by rw [h3]; rfl) (by decide) ?_
    refine lv_iload_n hx hb d_X_holds_67 rfl (lv_at hl 3 rfl) ?_
    refine lv_iload_n hx hb d_X_holds_68 rfl (lv_at hl 4 rfl) ?_
    refine lv_icmp_ge (tgt := 76) hx hb d_X_holds_69 (by decide) (fun h4 => ?_) (fun h4 => ?_)
    · have h4 : y ≤ x := h4
      refine lv_iconst (v := 0) hx hb d_X_holds_76 (by decide) ?_
      exact W.zret (ty := .boolean) hx hb hr rfl (fun t ht hW => ⟨congrArg (fun z => Outcome.returned (some (Value.int z))) (show 0 = qf_X_holds k x y from (by unfold qf_X_holds; rw [if_neg h1, if_pos h3, if_pos h4])), ht⟩) (fun _ h => absurd h List.not_mem_nil) d_X_holds_77
    · have h4 : ¬ (y ≤ x) := h4
      refine lv_iconst (v := 1) hx hb d_X_holds_72 (by decide) ?_
      refine lv_goto (tgt := 77) hx hb d_X_holds_73 (by decide) ?_
      exact W.zret (ty := .boolean) hx hb hr rfl (fun t ht hW => ⟨congrArg (fun z => Outcome.returned (some (Value.int z))) (show 1 = qf_X_holds k x y from (by unfold qf_X_holds; rw [if_neg h1, if_pos h3, if_neg h4])), ht⟩) (fun _ h => absurd h List.not_mem_nil) d_X_holds_77
  by_cases h5 : k = 3
  · refine lv_tableIn (tgt := 78) hx hb d_X_holds_16 (by rw [h5]; decide) (by rw [h5]; decide) (by rw [h5]; rfl) (by decide) ?_
    refine lv_iload_n hx hb d_X_holds_78 rfl (lv_at hl 3 rfl) ?_
    refine lv_iload_n hx hb d_X_holds_79 rfl (lv_at hl 4 rfl) ?_
    refine lv_icmp_gt (tgt := 87) hx hb d_X_holds_80 (by decide) (fun h6 => ?_) (fun h6 => ?_)
    · have h6 : y < x := h6
      refine lv_iconst (v := 0) hx hb d_X_holds_87 (by decide) ?_
      exact W.zret (ty := .boolean) hx hb hr rfl (fun t ht hW => ⟨congrArg (fun z => Outcome.returned (some (Value.int z))) (show 0 = qf_X_holds k x y from (by unfold qf_X_holds; rw [if_neg h1, if_neg h3, if_pos h5, if_pos h6])), ht⟩) (fun _ h => absurd h List.not_mem_nil) d_X_holds_88
    · have h6 : ¬ (y < x) := h6
      refine lv_iconst (v := 1) hx hb d_X_holds_83 (by decide) ?_
      refine lv_goto (tgt := 88) hx hb d_X_holds_84 (by decide) ?_
      exact W.zret (ty := .boolean) hx hb hr rfl (fun t ht hW => ⟨congrArg (fun z => Outcome.returned (some (Value.int z))) (show 1 = qf_X_holds k x y from (by unfold qf_X_holds; rw [if_neg h1, if_neg h3, if_pos h5, if_neg h6])), ht⟩) (fun _ h => absurd h List.not_mem_nil) d_X_holds_88
  by_cases h7 : k = 4
  · refine lv_tableIn (tgt := 89) hx hb d_X_holds_16 (by rw [h7]; decide) (by rw [h7]; decide) (by rw [h7]; rfl) (by decide) ?_
    refine lv_lload_n hx hb d_X_holds_89 rfl (lv_at hl 1 rfl) ?_
    refine lv_lload hx hb d_X_holds_90 (lv_at hl 0 rfl) ?_
    refine W.lcmp hx hb d_X_holds_92 ?_
    refine lv_if_ge (tgt := 100) hx hb d_X_holds_93 (by decide) (fun h8 => ?_) (fun h8 => ?_)
    · have h8 : 0 ≤ (lg_cmp (x.toInt64 &&& 4294967295) (y.toInt64 &&& 4294967295)) := h8
      refine lv_iconst (v := 0) hx hb d_X_holds_100 (by decide) ?_
      exact W.zret (ty := .boolean) hx hb hr rfl (fun t ht hW => ⟨congrArg (fun z => Outcome.returned (some (Value.int z))) (show 0 = qf_X_holds k x y from (by unfold qf_X_holds; rw [if_neg h1, if_neg h3, if_neg h5, if_pos h7, if_pos h8])), ht⟩) (fun _ h => absurd h List.not_mem_nil) d_X_holds_101
    · have h8 : ¬ (0 ≤ (lg_cmp (x.toInt64 &&& 4294967295) (y.toInt64 &&& 4294967295))) := h8
      refine lv_iconst (v := 1) hx hb d_X_holds_96 (by decide) ?_
      refine lv_goto (tgt := 101) hx hb d_X_holds_97 (by decide) ?_
      exact W.zret (ty := .boolean) hx hb hr rfl (fun t ht hW => ⟨congrArg (fun z => Outcome.returned (some (Value.int z))) (show 1 = qf_X_holds k x y from (by unfold qf_X_holds; rw [if_neg h1, if_neg h3, if_neg h5, if_pos h7, if_neg h8])), ht⟩) (fun _ h => absurd h List.not_mem_nil) d_X_holds_101
  by_cases h9 : k = 5
  · refine lv_tableIn (tgt := 102) hx hb d_X_holds_16 (by rw [h9]; decide) (by rw [h9]; decide) (by rw [h9]; rfl) (by decide) ?_
    refine lv_lload_n hx hb d_X_holds_102 rfl (lv_at hl 1 rfl) ?_
    refine lv_lload hx hb d_X_holds_103 (lv_at hl 0 rfl) ?_
    refine W.lcmp hx hb d_X_holds_105 ?_
    refine lv_if_gt (tgt := 113) hx hb d_X_holds_106 (by decide) (fun h10 => ?_) (fun h10 => ?_)
    · have h10 : 0 < (lg_cmp (x.toInt64 &&& 4294967295) (y.toInt64 &&& 4294967295)) := h10
      refine lv_iconst (v := 0) hx hb d_X_holds_113 (by decide) ?_
      exact W.zret (ty := .boolean) hx hb hr rfl (fun t ht hW => ⟨congrArg (fun z => Outcome.returned (some (Value.int z))) (show 0 = qf_X_holds k x y from (by unfold qf_X_holds; rw [if_neg h1, if_neg h3, if_neg h5, if_neg h7, if_pos h9, if_pos h10])), ht⟩) (fun _ h => absurd h List.not_mem_nil) d_X_holds_114
    · have h10 : ¬ (0 < (lg_cmp (x.toInt64 &&& 4294967295) (y.toInt64 &&& 4294967295))) := h10
      refine lv_iconst (v := 1) hx hb d_X_holds_109 (by decide) ?_
      refine lv_goto (tgt := 114) hx hb d_X_holds_110 (by decide) ?_
      exact W.zret (ty := .boolean) hx hb hr rfl (fun t ht hW => ⟨congrArg (fun z => Outcome.returned (some (Value.int z))) (show 1 = qf_X_holds k x y from (by unfold qf_X_holds; rw [if_neg h1, if_neg h3, if_neg h5, if_neg h7, if_pos h9, if_neg h10])), ht⟩) (fun _ h => absurd h List.not_mem_nil) d_X_holds_114
  by_cases h11 : k = 6
  · refine lv_tableIn (tgt := 115) hx hb d_X_holds_16 (by rw [h11]; decide) (by rw [h11]; decide) (by rw [h11]; rfl) (by decide) ?_
    refine lv_iload_n hx hb d_X_holds_115 rfl (lv_at hl 3 rfl) ?_
    refine lv_iload_n hx hb d_X_holds_116 rfl (lv_at hl 4 rfl) ?_
    refine lv_isub hx hb d_X_holds_117 ?_
    refine lv_iconst (v := 1) hx hb d_X_holds_118 (by decide) ?_
    refine lv_iand hx hb d_X_holds_119 ?_
    refine lv_iconst (v := 1) hx hb d_X_holds_120 (by decide) ?_
    refine lv_icmp_ne (tgt := 128) hx hb d_X_holds_121 (by decide) (fun h12 => ?_) (fun h12 => ?_)
    · have h12 : ¬ (((x - y) &&& 1) = 1) := h12
      refine lv_iconst (v := 0) hx hb d_X_holds_128 (by decide) ?_
      exact W.zret (ty := .boolean) hx hb hr rfl (fun t ht hW => ⟨congrArg (fun z => Outcome.returned (some (Value.int z))) (show 0 = qf_X_holds k x y from (by unfold qf_X_holds; rw [if_neg h1, if_neg h3, if_neg h5, if_neg h7, if_neg h9, if_pos h11, if_neg h12])), ht⟩) (fun _ h => absurd h List.not_mem_nil) d_X_holds_129
    · have h12 : ((x - y) &&& 1) = 1 := h12
      refine lv_iconst (v := 1) hx hb d_X_holds_124 (by decide) ?_
      refine lv_goto (tgt := 129) hx hb d_X_holds_125 (by decide) ?_
      exact W.zret (ty := .boolean) hx hb hr rfl (fun t ht hW => ⟨congrArg (fun z => Outcome.returned (some (Value.int z))) (show 1 = qf_X_holds k x y from (by unfold qf_X_holds; rw [if_neg h1, if_neg h3, if_neg h5, if_neg h7, if_neg h9, if_pos h11, if_pos h12])), ht⟩) (fun _ h => absurd h List.not_mem_nil) d_X_holds_129
  refine lv_tableOut (tgt := 130) hx hb d_X_holds_16 (by have a0 := lv_neT (a := 1) h1 (by decide); have a1 := lv_neT (a := 2) h3 (by decide); have a2 := lv_neT (a := 3) h5 (by decide); have a3 := lv_neT (a := 4) h7 (by decide); have a4 := lv_neT (a := 5) h9 (by decide); have a5 := lv_neT (a := 6) h11 (by decide); omega) (by decide) ?_
  refine lv_iload_n hx hb d_X_holds_130 rfl (lv_at hl 2 rfl) ?_
  refine lv_bipush (v := 7) hx hb d_X_holds_131 (by decide) ?_
  refine lv_icmp_ne (tgt := 140) hx hb d_X_holds_133 (by decide) (fun h13 => ?_) (fun h13 => ?_)
  · have h13 : ¬ (k = 7) := h13
    refine lv_iconst (v := 0) hx hb d_X_holds_140 (by decide) ?_
    exact W.zret (ty := .boolean) hx hb hr rfl (fun t ht hW => ⟨congrArg (fun z => Outcome.returned (some (Value.int z))) (show 0 = qf_X_holds k x y from (by unfold qf_X_holds; rw [if_neg h1, if_neg h3, if_neg h5, if_neg h7, if_neg h9, if_neg h11, if_neg h13])), ht⟩) (fun _ h => absurd h List.not_mem_nil) d_X_holds_141
  · have h13 : k = 7 := h13
    refine lv_iconst (v := 1) hx hb d_X_holds_136 (by decide) ?_
    refine lv_goto (tgt := 141) hx hb d_X_holds_137 (by decide) ?_
    exact W.zret (ty := .boolean) hx hb hr rfl (fun t ht hW => ⟨congrArg (fun z => Outcome.returned (some (Value.int z))) (show 1 = qf_X_holds k x y from (by unfold qf_X_holds; rw [if_neg h1, if_neg h3, if_neg h5, if_neg h7, if_neg h9, if_neg h11, if_pos h13])), ht⟩) (fun _ h => absurd h List.not_mem_nil) d_X_holds_141
theorem qf_X_holds_qb (k x y : Int32) : qb (qf_X_holds k x y) := by
  unfold qf_X_holds
  repeat' (first | apply qb_ite | exact qb_0 | exact qb_1)
theorem qi_Xd {x y : Int32} (hx : vp_in x 4) (hy : vp_in y 16) : vp_in ((22 + (16 * x)) + y) 86 := by
  rw [Int32.add_assoc, qi_mulC]
  exact qi_add 22 86 (by decide) (qi_row 16 64 hx hy (by decide) (by decide) (by decide) (by decide) (by decide) (c := 16) (by decide)) (by decide) (by decide)
theorem qi_set {x : Int32} (h1 : ¬ x < 1) (h7 : x ≤ 7) : vp_in (10 + x) 86 := by
  refine qi_add 10 86 (by decide) (qi_le (n := 7) (c := 7) (by decide) (fun h => h1 (Int32.lt_trans h (by decide))) (fun q => absurd h7 (Int32.not_le.mpr q))) (by decide) (by decide)
def qf_X_code (st : qs_X) (x : Int32) (y : Int32) (v : Int32) : qs_X × Int32 :=
  if qf_X_isIn x (4 : Int32) = 0 then (st, 0)
  else if qf_X_isIn y (32 : Int32) = 0 then (st, 0)
  else ((qm_X_co st (upd st.2.2.2.1 (Int32.toNatClampNeg (qf_X_place x y)) v)), 1)
set_option maxHeartbeats 4000000 in
set_option maxRecDepth 100000 in
theorem c_X_code (l : Launch) (D : va_G) (cA : ClassId) (ad : Nat → Nat) (st : qs_X) (x : Int32) (y : Int32) (v : Int32) : Met l y_X_code (Cond.code y_X_code b_X_code 4 (some .boolean) :: qx_T) ({ frames := 1, cells := 0, slots := 0, locals := 21 }) (qx_Pc D vwCl [(cA, .int)] (qw_X ad cA st) [.ref (ad 0), .int x, .int y, .int v]) (qx_Q D vwCl (qw_X ad cA ((qf_X_code st x y v).1)) (qx_ad (qw_X ad cA st)) (some (.int (qf_X_code st x y v).2))) 0 0 (qx_ad (qw_X ad cA st)) := by
  refine Met.ofW (cc := b_X_code) (maxL := 4) (ret := (some .boolean)) (by decide) rfl ?_
  intro p e s m args below meth c s₁ B hml hv
  obtain ⟨rfl, hP, hK, hN, hD0⟩ := hv
  have hx := B.exec
  have hb := B.bytes
  have hr := B.returns
  have hts0 := atoms_spec (ws := Cond.code y_X_code b_X_code 4 (some .boolean) :: qx_T) B.pre
  have hts := fun w h => hts0 w (List.mem_cons_of_mem _ h)
  have hown : s.vm.findClass R_X = some m.cls := findClass_of_methodNamed B.named
  have hlocks := B.notSynchronized
  have hD : va_D (qx_ad (qw_X ad cA st)) (qw_X ad cA st) := ⟨hD0.1, fun k q hk => ⟨k, q.2, hk⟩⟩
  generalize hAe : qx_ad (qw_X ad cA st) = A at hD ⊢
  have hS : va_S A s.heap s.heap [] := va_S.rf
  have hl := lv_entry ([.ref (ad 0), .int x, .int y, .int v]) (n := 4) (Nat.le_of_ble_eq_true rfl)
  rw [lg_entry_eq]
  generalize (lg_sl ([.ref (ad 0), .int x, .int y, .int v]) ++ List.replicate (4 - (lg_sl ([.ref (ad 0), .int x, .int y, .int v])).length) Slot.unset).toArray = ls at hl ⊢
  have hl : lv_has ls 4 [(0, .ref (ad 0)), (1, .int x), (2, .int y), (3, .int v)] := hl
  refine lv_iload_n hx hb d_X_code_0 rfl (lv_at hl 1 rfl) ?_
  refine lv_iconst (v := 4) hx hb d_X_code_1 (by decide) ?_
  refine qx_rd (va_runS (As := [.int x, .int 4]) (rest := []) ⟨hx, hb, hml, hown, hts⟩ (c_X_isIn l D cA x 4) (qx_kS hts mw_399 mw_400 mw_33 mw_401 cd_X_isIn ⟨Nat.le_of_ble_eq_true rfl, Nat.le_of_ble_eq_true rfl⟩) (qx_preS hP hD hK hN [] rfl rfl) rfl rfl hl.1 rfl (lv_room (Nat.le_of_ble_eq_true rfl)) d_X_code_2 ⟨Nat.zero_le _, Nat.zero_le _⟩) ?_
  refine lv_if_eq (tgt := 17) hx hb d_X_code_5 (by decide) (fun h1 => ?_) (fun h1 => ?_)
  · have h1 : qf_X_isIn x (4 : Int32) = 0 := h1
    refine lv_iconst (v := 0) hx hb d_X_code_17 (by decide) ?_
    have e9 : (st, 0) = qf_X_code st x y v := (by unfold qf_X_code; rw [if_pos h1])
    exact W.zret (ty := .boolean) hx hb hr rfl (fun t ht hW => ⟨(by rw [← e9]), (by rw [ht, ← e9]; exact hP), hS.F ht⟩) hS.2.2 d_X_code_18
  · have h1 : ¬ (qf_X_isIn x (4 : Int32) = 0) := h1
    refine lv_iload_n hx hb d_X_code_8 rfl (lv_at hl 2 rfl) ?_
    refine lv_bipush (v := 32) hx hb d_X_code_9 (by decide) ?_
    refine qx_rd (va_runS (As := [.int y, .int 32]) (rest := []) ⟨hx, hb, hml, hown, hts⟩ (c_X_isIn l D cA y 32) (qx_kS hts mw_399 mw_400 mw_33 mw_401 cd_X_isIn ⟨Nat.le_of_ble_eq_true rfl, Nat.le_of_ble_eq_true rfl⟩) (qx_preS hP hD hK hN [] rfl rfl) rfl rfl hl.1 rfl (lv_room (Nat.le_of_ble_eq_true rfl)) d_X_code_11 ⟨Nat.zero_le _, Nat.zero_le _⟩) ?_
    refine lv_if_ne (tgt := 19) hx hb d_X_code_14 (by decide) (fun h2 => ?_) (fun h2 => ?_)
    · have h2 : ¬ (qf_X_isIn y (32 : Int32) = 0) := h2
      refine lv_aload_n hx hb d_X_code_19 rfl (lv_at hl 0 rfl) ?_
      refine va_get (D := D) (ci := 3) (v := .ref (ad 3)) (C := R_X) (T := T_X) (N := 8) hx hb hts in_X hown hK hP 0 rfl rfl 3 (by decide) (hts (Cond.fieldLink R_X 16 "QueuedFrontsModel" "code" "[I") mw_373) (fun _ h9 => h9) rfl d_X_code_20 ?_
      refine lv_iload_n hx hb d_X_code_23 rfl (lv_at hl 1 rfl) ?_
      refine lv_iload_n hx hb d_X_code_24 rfl (lv_at hl 2 rfl) ?_
      refine qx_rd (va_runS (As := [.int x, .int y]) (rest := [.ref (ad 3)]) ⟨hx, hb, hml, hown, hts⟩ (c_X_place l D cA x y) (qx_kS hts mw_402 mw_403 mw_33 mw_404 cd_X_place ⟨Nat.le_of_ble_eq_true rfl, Nat.le_of_ble_eq_true rfl⟩) (qx_preS hP hD hK hN [] rfl rfl) rfl rfl hl.1 rfl (lv_room (Nat.le_of_ble_eq_true rfl)) d_X_code_25 ⟨Nat.zero_le _, Nat.zero_le _⟩) ?_
      refine lv_iload_n hx hb d_X_code_28 rfl (lv_at hl 3 rfl) ?_
      refine va_iast hx hb hK hP hD hS 3 0 rfl rfl (show vp_in (qf_X_place x y) 128 from qi_Xp _ _) d_X_code_29 (fun H locs hP hD hS => ?_)
      have hP : va_P D vwCl (qw_X ad cA (qm_X_co st (upd st.2.2.2.1 (Int32.toNatClampNeg (qf_X_place x y)) v))) H := hP
      have hD : va_D A (qw_X ad cA (qm_X_co st (upd st.2.2.2.1 (Int32.toNatClampNeg (qf_X_place x y)) v))) := hD
      refine lv_iconst (v := 1) hx hb d_X_code_30 (by decide) ?_
      have e9 : ((qm_X_co st (upd st.2.2.2.1 (Int32.toNatClampNeg (qf_X_place x y)) v)), 1) = qf_X_code st x y v := (by unfold qf_X_code; rw [if_neg h1, if_neg h2])
      exact W.zret (ty := .boolean) hx hb hr rfl (fun t ht hW => ⟨(by rw [← e9]), (by rw [ht, ← e9]; exact hP), hS.F ht⟩) hS.2.2 d_X_code_31
    · have h2 : qf_X_isIn y (32 : Int32) = 0 := h2
      refine lv_iconst (v := 0) hx hb d_X_code_17 (by decide) ?_
      have e9 : (st, 0) = qf_X_code st x y v := (by unfold qf_X_code; rw [if_neg h1, if_pos h2])
      exact W.zret (ty := .boolean) hx hb hr rfl (fun t ht hW => ⟨(by rw [← e9]), (by rw [ht, ← e9]; exact hP), hS.F ht⟩) hS.2.2 d_X_code_18
def qf_X_data (st : qs_X) (x : Int32) (y : Int32) (v : Int32) : qs_X × Int32 :=
  if qf_X_isIn x (4 : Int32) = 0 then (st, 0)
  else if qf_X_isIn y (16 : Int32) = 0 then (st, 0)
  else ((qm_X_g st (upd st.1 (Int32.toNatClampNeg ((22 + (16 * x)) + y)) v)), 1)
set_option maxHeartbeats 4000000 in
set_option maxRecDepth 100000 in
theorem c_X_data (l : Launch) (D : va_G) (cA : ClassId) (ad : Nat → Nat) (st : qs_X) (x : Int32) (y : Int32) (v : Int32) : Met l y_X_data (Cond.code y_X_data b_X_data 4 (some .boolean) :: qx_T) ({ frames := 1, cells := 0, slots := 0, locals := 21 }) (qx_Pc D vwCl [(cA, .int)] (qw_X ad cA st) [.ref (ad 0), .int x, .int y, .int v]) (qx_Q D vwCl (qw_X ad cA ((qf_X_data st x y v).1)) (qx_ad (qw_X ad cA st)) (some (.int (qf_X_data st x y v).2))) 0 0 (qx_ad (qw_X ad cA st)) := by
  refine Met.ofW (cc := b_X_data) (maxL := 4) (ret := (some .boolean)) (by decide) rfl ?_
  intro p e s m args below meth c s₁ B hml hv
  obtain ⟨rfl, hP, hK, hN, hD0⟩ := hv
  have hx := B.exec
  have hb := B.bytes
  have hr := B.returns
  have hts0 := atoms_spec (ws := Cond.code y_X_data b_X_data 4 (some .boolean) :: qx_T) B.pre
  have hts := fun w h => hts0 w (List.mem_cons_of_mem _ h)
  have hown : s.vm.findClass R_X = some m.cls := findClass_of_methodNamed B.named
  have hlocks := B.notSynchronized
  have hD : va_D (qx_ad (qw_X ad cA st)) (qw_X ad cA st) := ⟨hD0.1, fun k q hk => ⟨k, q.2, hk⟩⟩
  generalize hAe : qx_ad (qw_X ad cA st) = A at hD ⊢
  have hS : va_S A s.heap s.heap [] := va_S.rf
  have hl := lv_entry ([.ref (ad 0), .int x, .int y, .int v]) (n := 4) (Nat.le_of_ble_eq_true rfl)
  rw [lg_entry_eq]
  generalize (lg_sl ([.ref (ad 0), .int x, .int y, .int v]) ++ List.replicate (4 - (lg_sl ([.ref (ad 0), .int x, .int y, .int v])).length) Slot.unset).toArray = ls at hl ⊢
  have hl : lv_has ls 4 [(0, .ref (ad 0)), (1, .int x), (2, .int y), (3, .int v)] := hl
  refine lv_iload_n hx hb d_X_data_0 rfl (lv_at hl 1 rfl) ?_
  refine lv_iconst (v := 4) hx hb d_X_data_1 (by decide) ?_
  refine qx_rd (va_runS (As := [.int x, .int 4]) (rest := []) ⟨hx, hb, hml, hown, hts⟩ (c_X_isIn l D cA x 4) (qx_kS hts mw_399 mw_400 mw_33 mw_401 cd_X_isIn ⟨Nat.le_of_ble_eq_true rfl, Nat.le_of_ble_eq_true rfl⟩) (qx_preS hP hD hK hN [] rfl rfl) rfl rfl hl.1 rfl (lv_room (Nat.le_of_ble_eq_true rfl)) d_X_data_2 ⟨Nat.zero_le _, Nat.zero_le _⟩) ?_
  refine lv_if_eq (tgt := 17) hx hb d_X_data_5 (by decide) (fun h1 => ?_) (fun h1 => ?_)
  · have h1 : qf_X_isIn x (4 : Int32) = 0 := h1
    refine lv_iconst (v := 0) hx hb d_X_data_17 (by decide) ?_
    have e9 : (st, 0) = qf_X_data st x y v := (by unfold qf_X_data; rw [if_pos h1])
    exact W.zret (ty := .boolean) hx hb hr rfl (fun t ht hW => ⟨(by rw [← e9]), (by rw [ht, ← e9]; exact hP), hS.F ht⟩) hS.2.2 d_X_data_18
  · have h1 : ¬ (qf_X_isIn x (4 : Int32) = 0) := h1
    refine lv_iload_n hx hb d_X_data_8 rfl (lv_at hl 2 rfl) ?_
    refine lv_bipush (v := 16) hx hb d_X_data_9 (by decide) ?_
    refine qx_rd (va_runS (As := [.int y, .int 16]) (rest := []) ⟨hx, hb, hml, hown, hts⟩ (c_X_isIn l D cA y 16) (qx_kS hts mw_399 mw_400 mw_33 mw_401 cd_X_isIn ⟨Nat.le_of_ble_eq_true rfl, Nat.le_of_ble_eq_true rfl⟩) (qx_preS hP hD hK hN [] rfl rfl) rfl rfl hl.1 rfl (lv_room (Nat.le_of_ble_eq_true rfl)) d_X_data_11 ⟨Nat.zero_le _, Nat.zero_le _⟩) ?_
    refine lv_if_ne (tgt := 19) hx hb d_X_data_14 (by decide) (fun h2 => ?_) (fun h2 => ?_)
    · have h2 : ¬ (qf_X_isIn y (16 : Int32) = 0) := h2
      refine lv_aload_n hx hb d_X_data_19 rfl (lv_at hl 0 rfl) ?_
      refine va_get (D := D) (ci := 3) (v := .ref (ad 1)) (C := R_X) (T := T_X) (N := 8) hx hb hts in_X hown hK hP 0 rfl rfl 0 (by decide) (hts (Cond.fieldLink R_X 7 "QueuedFrontsModel" "now" "[I") mw_370) (fun _ h9 => h9) rfl d_X_data_20 ?_
      refine lv_bipush (v := 22) hx hb d_X_data_23 (by decide) ?_
      refine lv_bipush (v := 16) hx hb d_X_data_25 (by decide) ?_
      refine lv_iload_n hx hb d_X_data_27 rfl (lv_at hl 1 rfl) ?_
      refine lv_imul hx hb d_X_data_28 ?_
      refine lv_iadd hx hb d_X_data_29 ?_
      refine lv_iload_n hx hb d_X_data_30 rfl (lv_at hl 2 rfl) ?_
      refine lv_iadd hx hb d_X_data_31 ?_
      refine lv_iload_n hx hb d_X_data_32 rfl (lv_at hl 3 rfl) ?_
      refine va_iast hx hb hK hP hD hS 1 0 rfl rfl (show vp_in ((22 + (16 * x)) + y) 86 from qi_Xd (qi_ite (c := 4) (n := 4) (by decide) h1) (qi_ite (c := 16) (n := 16) (by decide) h2)) d_X_data_33 (fun H locs hP hD hS => ?_)
      have hP : va_P D vwCl (qw_X ad cA (qm_X_g st (upd st.1 (Int32.toNatClampNeg ((22 + (16 * x)) + y)) v))) H := hP
      have hD : va_D A (qw_X ad cA (qm_X_g st (upd st.1 (Int32.toNatClampNeg ((22 + (16 * x)) + y)) v))) := hD
      refine lv_iconst (v := 1) hx hb d_X_data_34 (by decide) ?_
      have e9 : ((qm_X_g st (upd st.1 (Int32.toNatClampNeg ((22 + (16 * x)) + y)) v)), 1) = qf_X_data st x y v := (by unfold qf_X_data; rw [if_neg h1, if_neg h2])
      exact W.zret (ty := .boolean) hx hb hr rfl (fun t ht hW => ⟨(by rw [← e9]), (by rw [ht, ← e9]; exact hP), hS.F ht⟩) hS.2.2 d_X_data_35
    · have h2 : qf_X_isIn y (16 : Int32) = 0 := h2
      refine lv_iconst (v := 0) hx hb d_X_data_17 (by decide) ?_
      have e9 : (st, 0) = qf_X_data st x y v := (by unfold qf_X_data; rw [if_neg h1, if_pos h2])
      exact W.zret (ty := .boolean) hx hb hr rfl (fun t ht hW => ⟨(by rw [← e9]), (by rw [ht, ← e9]; exact hP), hS.F ht⟩) hS.2.2 d_X_data_18
def qf_X_set (st : qs_X) (x : Int32) (v : Int32) : qs_X × Int32 :=
  if x < 1 then (st, 0)
  else if x ≤ 7 then ((qm_X_g st (upd st.1 (Int32.toNatClampNeg (10 + x)) v)), 1)
  else (st, 0)
set_option maxHeartbeats 4000000 in
set_option maxRecDepth 100000 in
theorem c_X_set (l : Launch) (D : va_G) (cA : ClassId) (ad : Nat → Nat) (st : qs_X) (x : Int32) (v : Int32) : Met l y_X_set (Cond.code y_X_set b_X_set 3 (some .boolean) :: qx_T) ({ frames := 0, cells := 0, slots := 0, locals := 0 }) (qx_Pc D vwCl [(cA, .int)] (qw_X ad cA st) [.ref (ad 0), .int x, .int v]) (qx_Q D vwCl (qw_X ad cA ((qf_X_set st x v).1)) (qx_ad (qw_X ad cA st)) (some (.int (qf_X_set st x v).2))) 0 0 (qx_ad (qw_X ad cA st)) := by
  refine Met.ofW (cc := b_X_set) (maxL := 3) (ret := (some .boolean)) (by decide) rfl ?_
  intro p e s m args below meth c s₁ B hml hv
  obtain ⟨rfl, hP, hK, hN, hD0⟩ := hv
  have hx := B.exec
  have hb := B.bytes
  have hr := B.returns
  have hts0 := atoms_spec (ws := Cond.code y_X_set b_X_set 3 (some .boolean) :: qx_T) B.pre
  have hts := fun w h => hts0 w (List.mem_cons_of_mem _ h)
  have hown : s.vm.findClass R_X = some m.cls := findClass_of_methodNamed B.named
  have hlocks := B.notSynchronized
  have hD : va_D (qx_ad (qw_X ad cA st)) (qw_X ad cA st) := ⟨hD0.1, fun k q hk => ⟨k, q.2, hk⟩⟩
  generalize hAe : qx_ad (qw_X ad cA st) = A at hD ⊢
  have hS : va_S A s.heap s.heap [] := va_S.rf
  have hl := lv_entry ([.ref (ad 0), .int x, .int v]) (n := 3) (Nat.le_of_ble_eq_true rfl)
  rw [lg_entry_eq]
  generalize (lg_sl ([.ref (ad 0), .int x, .int v]) ++ List.replicate (3 - (lg_sl ([.ref (ad 0), .int x, .int v])).length) Slot.unset).toArray = ls at hl ⊢
  have hl : lv_has ls 3 [(0, .ref (ad 0)), (1, .int x), (2, .int v)] := hl
  refine lv_iload_n hx hb d_X_set_0 rfl (lv_at hl 1 rfl) ?_
  refine lv_iconst (v := 1) hx hb d_X_set_1 (by decide) ?_
  refine lv_icmp_lt (tgt := 11) hx hb d_X_set_2 (by decide) (fun h1 => ?_) (fun h1 => ?_)
  · have h1 : x < 1 := h1
    refine lv_iconst (v := 0) hx hb d_X_set_11 (by decide) ?_
    have e9 : (st, 0) = qf_X_set st x v := (by unfold qf_X_set; rw [if_pos h1])
    exact W.zret (ty := .boolean) hx hb hr rfl (fun t ht hW => ⟨(by rw [← e9]), (by rw [ht, ← e9]; exact hP), hS.F ht⟩) hS.2.2 d_X_set_12
  · have h1 : ¬ (x < 1) := h1
    refine lv_iload_n hx hb d_X_set_5 rfl (lv_at hl 1 rfl) ?_
    refine lv_bipush (v := 7) hx hb d_X_set_6 (by decide) ?_
    refine lv_icmp_le (tgt := 13) hx hb d_X_set_8 (by decide) (fun h2 => ?_) (fun h2 => ?_)
    · have h2 : x ≤ 7 := h2
      refine lv_aload_n hx hb d_X_set_13 rfl (lv_at hl 0 rfl) ?_
      refine va_get (D := D) (ci := 3) (v := .ref (ad 1)) (C := R_X) (T := T_X) (N := 8) hx hb hts in_X hown hK hP 0 rfl rfl 0 (by decide) (hts (Cond.fieldLink R_X 7 "QueuedFrontsModel" "now" "[I") mw_370) (fun _ h9 => h9) rfl d_X_set_14 ?_
      refine lv_bipush (v := 10) hx hb d_X_set_17 (by decide) ?_
      refine lv_iload_n hx hb d_X_set_19 rfl (lv_at hl 1 rfl) ?_
      refine lv_iadd hx hb d_X_set_20 ?_
      refine lv_iload_n hx hb d_X_set_21 rfl (lv_at hl 2 rfl) ?_
      refine va_iast hx hb hK hP hD hS 1 0 rfl rfl (show vp_in (10 + x) 86 from qi_set h1 h2) d_X_set_22 (fun H locs hP hD hS => ?_)
      have hP : va_P D vwCl (qw_X ad cA (qm_X_g st (upd st.1 (Int32.toNatClampNeg (10 + x)) v))) H := hP
      have hD : va_D A (qw_X ad cA (qm_X_g st (upd st.1 (Int32.toNatClampNeg (10 + x)) v))) := hD
      refine lv_iconst (v := 1) hx hb d_X_set_23 (by decide) ?_
      have e9 : ((qm_X_g st (upd st.1 (Int32.toNatClampNeg (10 + x)) v)), 1) = qf_X_set st x v := (by unfold qf_X_set; rw [if_neg h1, if_pos h2])
      exact W.zret (ty := .boolean) hx hb hr rfl (fun t ht hW => ⟨(by rw [← e9]), (by rw [ht, ← e9]; exact hP), hS.F ht⟩) hS.2.2 d_X_set_24
    · have h2 : ¬ (x ≤ 7) := h2
      refine lv_iconst (v := 0) hx hb d_X_set_11 (by decide) ?_
      have e9 : (st, 0) = qf_X_set st x v := (by unfold qf_X_set; rw [if_neg h1, if_neg h2])
      exact W.zret (ty := .boolean) hx hb hr rfl (fun t ht hW => ⟨(by rw [← e9]), (by rw [ht, ← e9]; exact hP), hS.F ht⟩) hS.2.2 d_X_set_12
def qf_X_setSpace (st : qs_X) (x : Int32) (y : Int32) : qs_X × Int32 :=
  if qf_X_isIn x (4 : Int32) = 0 then (st, 0)
  else if qf_X_isIn y (4 : Int32) = 0 then (st, 0)
  else ((qm_X_g st (upd st.1 (Int32.toNatClampNeg (18 + x)) y)), 1)
set_option maxHeartbeats 4000000 in
set_option maxRecDepth 100000 in
theorem c_X_setSpace (l : Launch) (D : va_G) (cA : ClassId) (ad : Nat → Nat) (st : qs_X) (x : Int32) (y : Int32) : Met l y_X_setSpace (Cond.code y_X_setSpace b_X_setSpace 3 (some .boolean) :: qx_T) ({ frames := 1, cells := 0, slots := 0, locals := 21 }) (qx_Pc D vwCl [(cA, .int)] (qw_X ad cA st) [.ref (ad 0), .int x, .int y]) (qx_Q D vwCl (qw_X ad cA ((qf_X_setSpace st x y).1)) (qx_ad (qw_X ad cA st)) (some (.int (qf_X_setSpace st x y).2))) 0 0 (qx_ad (qw_X ad cA st)) := by
  refine Met.ofW (cc := b_X_setSpace) (maxL := 3) (ret := (some .boolean)) (by decide) rfl ?_
  intro p e s m args below meth c s₁ B hml hv
  obtain ⟨rfl, hP, hK, hN, hD0⟩ := hv
  have hx := B.exec
  have hb := B.bytes
  have hr := B.returns
  have hts0 := atoms_spec (ws := Cond.code y_X_setSpace b_X_setSpace 3 (some .boolean) :: qx_T) B.pre
  have hts := fun w h => hts0 w (List.mem_cons_of_mem _ h)
  have hown : s.vm.findClass R_X = some m.cls := findClass_of_methodNamed B.named
  have hlocks := B.notSynchronized
  have hD : va_D (qx_ad (qw_X ad cA st)) (qw_X ad cA st) := ⟨hD0.1, fun k q hk => ⟨k, q.2, hk⟩⟩
  generalize hAe : qx_ad (qw_X ad cA st) = A at hD ⊢
  have hS : va_S A s.heap s.heap [] := va_S.rf
  have hl := lv_entry ([.ref (ad 0), .int x, .int y]) (n := 3) (Nat.le_of_ble_eq_true rfl)
  rw [lg_entry_eq]
  generalize (lg_sl ([.ref (ad 0), .int x, .int y]) ++ List.replicate (3 - (lg_sl ([.ref (ad 0), .int x, .int y])).length) Slot.unset).toArray = ls at hl ⊢
  have hl : lv_has ls 3 [(0, .ref (ad 0)), (1, .int x), (2, .int y)] := hl
  refine lv_iload_n hx hb d_X_setSpace_0 rfl (lv_at hl 1 rfl) ?_
  refine lv_iconst (v := 4) hx hb d_X_setSpace_1 (by decide) ?_
  refine qx_rd (va_runS (As := [.int x, .int 4]) (rest := []) ⟨hx, hb, hml, hown, hts⟩ (c_X_isIn l D cA x 4) (qx_kS hts mw_399 mw_400 mw_33 mw_401 cd_X_isIn ⟨Nat.le_of_ble_eq_true rfl, Nat.le_of_ble_eq_true rfl⟩) (qx_preS hP hD hK hN [] rfl rfl) rfl rfl hl.1 rfl (lv_room (Nat.le_of_ble_eq_true rfl)) d_X_setSpace_2 ⟨Nat.zero_le _, Nat.zero_le _⟩) ?_
  refine lv_if_eq (tgt := 16) hx hb d_X_setSpace_5 (by decide) (fun h1 => ?_) (fun h1 => ?_)
  · have h1 : qf_X_isIn x (4 : Int32) = 0 := h1
    refine lv_iconst (v := 0) hx hb d_X_setSpace_16 (by decide) ?_
    have e9 : (st, 0) = qf_X_setSpace st x y := (by unfold qf_X_setSpace; rw [if_pos h1])
    exact W.zret (ty := .boolean) hx hb hr rfl (fun t ht hW => ⟨(by rw [← e9]), (by rw [ht, ← e9]; exact hP), hS.F ht⟩) hS.2.2 d_X_setSpace_17
  · have h1 : ¬ (qf_X_isIn x (4 : Int32) = 0) := h1
    refine lv_iload_n hx hb d_X_setSpace_8 rfl (lv_at hl 2 rfl) ?_
    refine lv_iconst (v := 4) hx hb d_X_setSpace_9 (by decide) ?_
    refine qx_rd (va_runS (As := [.int y, .int 4]) (rest := []) ⟨hx, hb, hml, hown, hts⟩ (c_X_isIn l D cA y 4) (qx_kS hts mw_399 mw_400 mw_33 mw_401 cd_X_isIn ⟨Nat.le_of_ble_eq_true rfl, Nat.le_of_ble_eq_true rfl⟩) (qx_preS hP hD hK hN [] rfl rfl) rfl rfl hl.1 rfl (lv_room (Nat.le_of_ble_eq_true rfl)) d_X_setSpace_10 ⟨Nat.zero_le _, Nat.zero_le _⟩) ?_
    refine lv_if_ne (tgt := 18) hx hb d_X_setSpace_13 (by decide) (fun h2 => ?_) (fun h2 => ?_)
    · have h2 : ¬ (qf_X_isIn y (4 : Int32) = 0) := h2
      refine lv_aload_n hx hb d_X_setSpace_18 rfl (lv_at hl 0 rfl) ?_
      refine va_get (D := D) (ci := 3) (v := .ref (ad 1)) (C := R_X) (T := T_X) (N := 8) hx hb hts in_X hown hK hP 0 rfl rfl 0 (by decide) (hts (Cond.fieldLink R_X 7 "QueuedFrontsModel" "now" "[I") mw_370) (fun _ h9 => h9) rfl d_X_setSpace_19 ?_
      refine lv_bipush (v := 18) hx hb d_X_setSpace_22 (by decide) ?_
      refine lv_iload_n hx hb d_X_setSpace_24 rfl (lv_at hl 1 rfl) ?_
      refine lv_iadd hx hb d_X_setSpace_25 ?_
      refine lv_iload_n hx hb d_X_setSpace_26 rfl (lv_at hl 2 rfl) ?_
      refine va_iast hx hb hK hP hD hS 1 0 rfl rfl (show vp_in (18 + x) 86 from qi_add 18 86 (by decide) (qi_ite (c := 4) (n := 4) (by decide) h1) (by decide) (by decide)) d_X_setSpace_27 (fun H locs hP hD hS => ?_)
      have hP : va_P D vwCl (qw_X ad cA (qm_X_g st (upd st.1 (Int32.toNatClampNeg (18 + x)) y))) H := hP
      have hD : va_D A (qw_X ad cA (qm_X_g st (upd st.1 (Int32.toNatClampNeg (18 + x)) y))) := hD
      refine lv_iconst (v := 1) hx hb d_X_setSpace_28 (by decide) ?_
      have e9 : ((qm_X_g st (upd st.1 (Int32.toNatClampNeg (18 + x)) y)), 1) = qf_X_setSpace st x y := (by unfold qf_X_setSpace; rw [if_neg h1, if_neg h2])
      exact W.zret (ty := .boolean) hx hb hr rfl (fun t ht hW => ⟨(by rw [← e9]), (by rw [ht, ← e9]; exact hP), hS.F ht⟩) hS.2.2 d_X_setSpace_29
    · have h2 : qf_X_isIn y (4 : Int32) = 0 := h2
      refine lv_iconst (v := 0) hx hb d_X_setSpace_16 (by decide) ?_
      have e9 : (st, 0) = qf_X_setSpace st x y := (by unfold qf_X_setSpace; rw [if_neg h1, if_pos h2])
      exact W.zret (ty := .boolean) hx hb hr rfl (fun t ht hW => ⟨(by rw [← e9]), (by rw [ht, ← e9]; exact hP), hS.F ht⟩) hS.2.2 d_X_setSpace_17
def qf_X_go (st : qs_X) (x : Int32) (y : Int32) (z : Int32) : qs_X × Int32 :=
  if qf_X_isIn x (4 : Int32) = 0 then (st, 0)
  else if qf_X_isIn y (32 : Int32) = 0 then (st, 0)
  else if z = 0 then ((qm_X_g st (upd (upd (upd (upd st.1 0 (qf_X_place x y)) 1 (qf_X_behind (qf_X_place x y))) 2 (0 : Int32)) 3 (0 : Int32))), 1)
  else ((qm_X_g st (upd (upd (upd (upd st.1 0 (qf_X_place x y)) 1 (qf_X_behind (qf_X_place x y))) 2 (0 : Int32)) 3 (1 : Int32))), 1)
set_option maxHeartbeats 4000000 in
set_option maxRecDepth 100000 in
theorem c_X_go (l : Launch) (D : va_G) (cA : ClassId) (ad : Nat → Nat) (st : qs_X) (x : Int32) (y : Int32) (z : Int32) : Met l y_X_go (Cond.code y_X_go b_X_go 4 (some .boolean) :: qx_T) ({ frames := 2, cells := 0, slots := 0, locals := 41 }) (qx_Pc D vwCl [(cA, .int)] (qw_X ad cA st) [.ref (ad 0), .int x, .int y, .int z]) (qx_Q D vwCl (qw_X ad cA ((qf_X_go st x y z).1)) (qx_ad (qw_X ad cA st)) (some (.int (qf_X_go st x y z).2))) 0 0 (qx_ad (qw_X ad cA st)) := by
  refine Met.ofW (cc := b_X_go) (maxL := 4) (ret := (some .boolean)) (by decide) rfl ?_
  intro p e s m args below meth c s₁ B hml hv
  obtain ⟨rfl, hP, hK, hN, hD0⟩ := hv
  have hx := B.exec
  have hb := B.bytes
  have hr := B.returns
  have hts0 := atoms_spec (ws := Cond.code y_X_go b_X_go 4 (some .boolean) :: qx_T) B.pre
  have hts := fun w h => hts0 w (List.mem_cons_of_mem _ h)
  have hown : s.vm.findClass R_X = some m.cls := findClass_of_methodNamed B.named
  have hlocks := B.notSynchronized
  have hD : va_D (qx_ad (qw_X ad cA st)) (qw_X ad cA st) := ⟨hD0.1, fun k q hk => ⟨k, q.2, hk⟩⟩
  generalize hAe : qx_ad (qw_X ad cA st) = A at hD ⊢
  have hS : va_S A s.heap s.heap [] := va_S.rf
  have hl := lv_entry ([.ref (ad 0), .int x, .int y, .int z]) (n := 4) (Nat.le_of_ble_eq_true rfl)
  rw [lg_entry_eq]
  generalize (lg_sl ([.ref (ad 0), .int x, .int y, .int z]) ++ List.replicate (4 - (lg_sl ([.ref (ad 0), .int x, .int y, .int z])).length) Slot.unset).toArray = ls at hl ⊢
  have hl : lv_has ls 4 [(0, .ref (ad 0)), (1, .int x), (2, .int y), (3, .int z)] := hl
  refine lv_iload_n hx hb d_X_go_0 rfl (lv_at hl 1 rfl) ?_
  refine lv_iconst (v := 4) hx hb d_X_go_1 (by decide) ?_
  refine qx_rd (va_runS (As := [.int x, .int 4]) (rest := []) ⟨hx, hb, hml, hown, hts⟩ (c_X_isIn l D cA x 4) (qx_kS hts mw_399 mw_400 mw_33 mw_401 cd_X_isIn ⟨Nat.le_of_ble_eq_true rfl, Nat.le_of_ble_eq_true rfl⟩) (qx_preS hP hD hK hN [] rfl rfl) rfl rfl hl.1 rfl (lv_room (Nat.le_of_ble_eq_true rfl)) d_X_go_2 ⟨Nat.zero_le _, Nat.zero_le _⟩) ?_
  refine lv_if_eq (tgt := 17) hx hb d_X_go_5 (by decide) (fun h1 => ?_) (fun h1 => ?_)
  · have h1 : qf_X_isIn x (4 : Int32) = 0 := h1
    refine lv_iconst (v := 0) hx hb d_X_go_17 (by decide) ?_
    have e9 : (st, 0) = qf_X_go st x y z := (by unfold qf_X_go; rw [if_pos h1])
    exact W.zret (ty := .boolean) hx hb hr rfl (fun t ht hW => ⟨(by rw [← e9]), (by rw [ht, ← e9]; exact hP), hS.F ht⟩) hS.2.2 d_X_go_18
  · have h1 : ¬ (qf_X_isIn x (4 : Int32) = 0) := h1
    refine lv_iload_n hx hb d_X_go_8 rfl (lv_at hl 2 rfl) ?_
    refine lv_bipush (v := 32) hx hb d_X_go_9 (by decide) ?_
    refine qx_rd (va_runS (As := [.int y, .int 32]) (rest := []) ⟨hx, hb, hml, hown, hts⟩ (c_X_isIn l D cA y 32) (qx_kS hts mw_399 mw_400 mw_33 mw_401 cd_X_isIn ⟨Nat.le_of_ble_eq_true rfl, Nat.le_of_ble_eq_true rfl⟩) (qx_preS hP hD hK hN [] rfl rfl) rfl rfl hl.1 rfl (lv_room (Nat.le_of_ble_eq_true rfl)) d_X_go_11 ⟨Nat.zero_le _, Nat.zero_le _⟩) ?_
    refine lv_if_ne (tgt := 19) hx hb d_X_go_14 (by decide) (fun h2 => ?_) (fun h2 => ?_)
    · have h2 : ¬ (qf_X_isIn y (32 : Int32) = 0) := h2
      refine lv_aload_n hx hb d_X_go_19 rfl (lv_at hl 0 rfl) ?_
      refine va_get (D := D) (ci := 3) (v := .ref (ad 1)) (C := R_X) (T := T_X) (N := 8) hx hb hts in_X hown hK hP 0 rfl rfl 0 (by decide) (hts (Cond.fieldLink R_X 7 "QueuedFrontsModel" "now" "[I") mw_370) (fun _ h9 => h9) rfl d_X_go_20 ?_
      refine lv_iconst (v := 0) hx hb d_X_go_23 (by decide) ?_
      refine lv_iload_n hx hb d_X_go_24 rfl (lv_at hl 1 rfl) ?_
      refine lv_iload_n hx hb d_X_go_25 rfl (lv_at hl 2 rfl) ?_
      refine qx_rd (va_runS (As := [.int x, .int y]) (rest := [.int 0, .ref (ad 1)]) ⟨hx, hb, hml, hown, hts⟩ (c_X_place l D cA x y) (qx_kS hts mw_402 mw_403 mw_33 mw_404 cd_X_place ⟨Nat.le_of_ble_eq_true rfl, Nat.le_of_ble_eq_true rfl⟩) (qx_preS hP hD hK hN [] rfl rfl) rfl rfl hl.1 rfl (lv_room (Nat.le_of_ble_eq_true rfl)) d_X_go_26 ⟨Nat.zero_le _, Nat.zero_le _⟩) ?_
      refine va_iast hx hb hK hP hD hS 1 0 rfl rfl (show vp_in (0 : Int32) 86 from qi_lit (by decide)) d_X_go_29 (fun H locs hP hD hS => ?_)
      have hP : va_P D vwCl (qw_X ad cA (qm_X_g st (upd st.1 0 (qf_X_place x y)))) H := hP
      have hD : va_D A (qw_X ad cA (qm_X_g st (upd st.1 0 (qf_X_place x y)))) := hD
      refine lv_aload_n hx hb d_X_go_30 rfl (lv_at hl 0 rfl) ?_
      refine va_get (D := D) (ci := 3) (v := .ref (ad 1)) (C := R_X) (T := T_X) (N := 8) hx hb hts in_X hown hK hP 0 rfl rfl 0 (by decide) (hts (Cond.fieldLink R_X 7 "QueuedFrontsModel" "now" "[I") mw_370) (fun _ h9 => h9) rfl d_X_go_31 ?_
      refine lv_iconst (v := 1) hx hb d_X_go_34 (by decide) ?_
      refine lv_aload_n hx hb d_X_go_35 rfl (lv_at hl 0 rfl) ?_
      refine va_get (D := D) (ci := 3) (v := .ref (ad 1)) (C := R_X) (T := T_X) (N := 8) hx hb hts in_X hown hK hP 0 rfl rfl 0 (by decide) (hts (Cond.fieldLink R_X 7 "QueuedFrontsModel" "now" "[I") mw_370) (fun _ h9 => h9) rfl d_X_go_36 ?_
      refine lv_iconst (v := 0) hx hb d_X_go_39 (by decide) ?_
      refine va_iald hx hb hK hP 1 0 rfl rfl (show vp_in (0 : Int32) 86 from qi_lit (by decide)) d_X_go_40 ?_
      refine qx_rd (va_runS (As := [.int (qf_X_place x y)]) (rest := [.int 1, .ref (ad 1)]) ⟨hx, hb, hml, hown, hts⟩ (c_X_behind l D cA (qf_X_place x y)) (qx_kS hts mw_421 mw_422 mw_33 mw_423 cd_X_behind ⟨Nat.le_of_ble_eq_true rfl, Nat.le_of_ble_eq_true rfl⟩) (qx_preS hP hD hK hN [] rfl rfl) rfl rfl hl.1 rfl (lv_room (Nat.le_of_ble_eq_true rfl)) d_X_go_41 ⟨Nat.zero_le _, Nat.zero_le _⟩) ?_
      refine va_iast hx hb hK hP hD hS 1 0 rfl rfl (show vp_in (1 : Int32) 86 from qi_lit (by decide)) d_X_go_44 (fun H locs hP hD hS => ?_)
      have hP : va_P D vwCl (qw_X ad cA (qm_X_g st (upd (upd st.1 0 (qf_X_place x y)) 1 (qf_X_behind (qf_X_place x y))))) H := hP
      have hD : va_D A (qw_X ad cA (qm_X_g st (upd (upd st.1 0 (qf_X_place x y)) 1 (qf_X_behind (qf_X_place x y))))) := hD
      refine lv_aload_n hx hb d_X_go_45 rfl (lv_at hl 0 rfl) ?_
      refine va_get (D := D) (ci := 3) (v := .ref (ad 1)) (C := R_X) (T := T_X) (N := 8) hx hb hts in_X hown hK hP 0 rfl rfl 0 (by decide) (hts (Cond.fieldLink R_X 7 "QueuedFrontsModel" "now" "[I") mw_370) (fun _ h9 => h9) rfl d_X_go_46 ?_
      refine lv_iconst (v := 2) hx hb d_X_go_49 (by decide) ?_
      refine lv_iconst (v := 0) hx hb d_X_go_50 (by decide) ?_
      refine va_iast hx hb hK hP hD hS 1 0 rfl rfl (show vp_in (2 : Int32) 86 from qi_lit (by decide)) d_X_go_51 (fun H locs hP hD hS => ?_)
      have hP : va_P D vwCl (qw_X ad cA (qm_X_g st (upd (upd (upd st.1 0 (qf_X_place x y)) 1 (qf_X_behind (qf_X_place x y))) 2 (0 : Int32)))) H := hP
      have hD : va_D A (qw_X ad cA (qm_X_g st (upd (upd (upd st.1 0 (qf_X_place x y)) 1 (qf_X_behind (qf_X_place x y))) 2 (0 : Int32)))) := hD
      refine lv_aload_n hx hb d_X_go_52 rfl (lv_at hl 0 rfl) ?_
      refine va_get (D := D) (ci := 3) (v := .ref (ad 1)) (C := R_X) (T := T_X) (N := 8) hx hb hts in_X hown hK hP 0 rfl rfl 0 (by decide) (hts (Cond.fieldLink R_X 7 "QueuedFrontsModel" "now" "[I") mw_370) (fun _ h9 => h9) rfl d_X_go_53 ?_
      refine lv_iconst (v := 3) hx hb d_X_go_56 (by decide) ?_
      refine lv_iload_n hx hb d_X_go_57 rfl (lv_at hl 3 rfl) ?_
      refine lv_if_eq (tgt := 65) hx hb d_X_go_58 (by decide) (fun h3 => ?_) (fun h3 => ?_)
      · have h3 : z = 0 := h3
        refine lv_iconst (v := 0) hx hb d_X_go_65 (by decide) ?_
        refine va_iast hx hb hK hP hD hS 1 0 rfl rfl (show vp_in (3 : Int32) 86 from qi_lit (by decide)) d_X_go_66 (fun H locs hP hD hS => ?_)
        have hP : va_P D vwCl (qw_X ad cA (qm_X_g st (upd (upd (upd (upd st.1 0 (qf_X_place x y)) 1 (qf_X_behind (qf_X_place x y))) 2 (0 : Int32)) 3 (0 : Int32)))) H := hP
        have hD : va_D A (qw_X ad cA (qm_X_g st (upd (upd (upd (upd st.1 0 (qf_X_place x y)) 1 (qf_X_behind (qf_X_place x y))) 2 (0 : Int32)) 3 (0 : Int32)))) := hD
        refine lv_iconst (v := 1) hx hb d_X_go_67 (by decide) ?_
        have e9 : ((qm_X_g st (upd (upd (upd (upd st.1 0 (qf_X_place x y)) 1 (qf_X_behind (qf_X_place x y))) 2 (0 : Int32)) 3 (0 : Int32))), 1) = qf_X_go st x y z := (by unfold qf_X_go; rw [if_neg h1, if_neg h2, if_pos h3])
        exact W.zret (ty := .boolean) hx hb hr rfl (fun t ht hW => ⟨(by rw [← e9]), (by rw [ht, ← e9]; exact hP), hS.F ht⟩) hS.2.2 d_X_go_68
      · have h3 : ¬ (z = 0) := h3
        refine lv_iconst (v := 1) hx hb d_X_go_61 (by decide) ?_
        refine lv_goto (tgt := 66) hx hb d_X_go_62 (by decide) ?_
        refine va_iast hx hb hK hP hD hS 1 0 rfl rfl (show vp_in (3 : Int32) 86 from qi_lit (by decide)) d_X_go_66 (fun H locs hP hD hS => ?_)
        have hP : va_P D vwCl (qw_X ad cA (qm_X_g st (upd (upd (upd (upd st.1 0 (qf_X_place x y)) 1 (qf_X_behind (qf_X_place x y))) 2 (0 : Int32)) 3 (1 : Int32)))) H := hP
        have hD : va_D A (qw_X ad cA (qm_X_g st (upd (upd (upd (upd st.1 0 (qf_X_place x y)) 1 (qf_X_behind (qf_X_place x y))) 2 (0 : Int32)) 3 (1 : Int32)))) := hD
        refine lv_iconst (v := 1) hx hb d_X_go_67 (by decide) ?_
        have e9 : ((qm_X_g st (upd (upd (upd (upd st.1 0 (qf_X_place x y)) 1 (qf_X_behind (qf_X_place x y))) 2 (0 : Int32)) 3 (1 : Int32))), 1) = qf_X_go st x y z := (by unfold qf_X_go; rw [if_neg h1, if_neg h2, if_neg h3])
        exact W.zret (ty := .boolean) hx hb hr rfl (fun t ht hW => ⟨(by rw [← e9]), (by rw [ht, ← e9]; exact hP), hS.F ht⟩) hS.2.2 d_X_go_68
    · have h2 : qf_X_isIn y (32 : Int32) = 0 := h2
      refine lv_iconst (v := 0) hx hb d_X_go_17 (by decide) ?_
      have e9 : (st, 0) = qf_X_go st x y z := (by unfold qf_X_go; rw [if_neg h1, if_pos h2])
      exact W.zret (ty := .boolean) hx hb hr rfl (fun t ht hW => ⟨(by rw [← e9]), (by rw [ht, ← e9]; exact hP), hS.F ht⟩) hS.2.2 d_X_go_18
def qf_X_interrupt (st : qs_X) : qs_X × Int32 :=
  if (st.1 4) = 0 then ((qm_X_g st (upd st.1 4 (1 : Int32))), 1)
  else ((qm_X_g st (upd st.1 4 (1 : Int32))), 0)
set_option maxHeartbeats 4000000 in
set_option maxRecDepth 100000 in
theorem c_X_interrupt (l : Launch) (D : va_G) (cA : ClassId) (ad : Nat → Nat) (st : qs_X) : Met l y_X_interrupt (Cond.code y_X_interrupt b_X_interrupt 2 (some .boolean) :: qx_T) ({ frames := 0, cells := 0, slots := 0, locals := 0 }) (qx_Pc D vwCl [(cA, .int)] (qw_X ad cA st) [.ref (ad 0)]) (qx_Q D vwCl (qw_X ad cA ((qf_X_interrupt st).1)) (qx_ad (qw_X ad cA st)) (some (.int (qf_X_interrupt st).2))) 0 0 (qx_ad (qw_X ad cA st)) := by
  refine Met.ofW (cc := b_X_interrupt) (maxL := 2) (ret := (some .boolean)) (by decide) rfl ?_
  intro p e s m args below meth c s₁ B hml hv
  obtain ⟨rfl, hP, hK, hN, hD0⟩ := hv
  have hx := B.exec
  have hb := B.bytes
  have hr := B.returns
  have hts0 := atoms_spec (ws := Cond.code y_X_interrupt b_X_interrupt 2 (some .boolean) :: qx_T) B.pre
  have hts := fun w h => hts0 w (List.mem_cons_of_mem _ h)
  have hown : s.vm.findClass R_X = some m.cls := findClass_of_methodNamed B.named
  have hlocks := B.notSynchronized
  have hD : va_D (qx_ad (qw_X ad cA st)) (qw_X ad cA st) := ⟨hD0.1, fun k q hk => ⟨k, q.2, hk⟩⟩
  generalize hAe : qx_ad (qw_X ad cA st) = A at hD ⊢
  have hS : va_S A s.heap s.heap [] := va_S.rf
  have hl := lv_entry ([.ref (ad 0)]) (n := 2) (Nat.le_of_ble_eq_true rfl)
  rw [lg_entry_eq]
  generalize (lg_sl ([.ref (ad 0)]) ++ List.replicate (2 - (lg_sl ([.ref (ad 0)])).length) Slot.unset).toArray = ls at hl ⊢
  have hl : lv_has ls 2 [(0, .ref (ad 0))] := hl
  refine lv_aload_n hx hb d_X_interrupt_0 rfl (lv_at hl 0 rfl) ?_
  refine va_get (D := D) (ci := 3) (v := .ref (ad 1)) (C := R_X) (T := T_X) (N := 8) hx hb hts in_X hown hK hP 0 rfl rfl 0 (by decide) (hts (Cond.fieldLink R_X 7 "QueuedFrontsModel" "now" "[I") mw_370) (fun _ h9 => h9) rfl d_X_interrupt_1 ?_
  refine lv_iconst (v := 4) hx hb d_X_interrupt_4 (by decide) ?_
  refine va_iald hx hb hK hP 1 0 rfl rfl (show vp_in (4 : Int32) 86 from qi_lit (by decide)) d_X_interrupt_5 ?_
  refine lv_if_ne (tgt := 13) hx hb d_X_interrupt_6 (by decide) (fun h1 => ?_) (fun h1 => ?_)
  · have h1 : ¬ ((st.1 4) = 0) := h1
    refine lv_iconst (v := 0) hx hb d_X_interrupt_13 (by decide) ?_
    refine lv_istore_n (lv' := [(1, .int 0), (0, .ref (ad 0))]) hx hb d_X_interrupt_14 rfl hl (by decide) rfl (fun ls hl => ?_)
    refine lv_aload_n hx hb d_X_interrupt_15 rfl (lv_at hl 1 rfl) ?_
    refine va_get (D := D) (ci := 3) (v := .ref (ad 1)) (C := R_X) (T := T_X) (N := 8) hx hb hts in_X hown hK hP 0 rfl rfl 0 (by decide) (hts (Cond.fieldLink R_X 7 "QueuedFrontsModel" "now" "[I") mw_370) (fun _ h9 => h9) rfl d_X_interrupt_16 ?_
    refine lv_iconst (v := 4) hx hb d_X_interrupt_19 (by decide) ?_
    refine lv_iconst (v := 1) hx hb d_X_interrupt_20 (by decide) ?_
    refine va_iast hx hb hK hP hD hS 1 0 rfl rfl (show vp_in (4 : Int32) 86 from qi_lit (by decide)) d_X_interrupt_21 (fun H locs hP hD hS => ?_)
    have hP : va_P D vwCl (qw_X ad cA (qm_X_g st (upd st.1 4 (1 : Int32)))) H := hP
    have hD : va_D A (qw_X ad cA (qm_X_g st (upd st.1 4 (1 : Int32)))) := hD
    refine lv_iload_n hx hb d_X_interrupt_22 rfl (lv_at hl 0 rfl) ?_
    have e9 : ((qm_X_g st (upd st.1 4 (1 : Int32))), 0) = qf_X_interrupt st := (by unfold qf_X_interrupt; rw [if_neg h1])
    exact W.zret (ty := .boolean) hx hb hr rfl (fun t ht hW => ⟨(by rw [← e9]), (by rw [ht, ← e9]; exact hP), hS.F ht⟩) hS.2.2 d_X_interrupt_23
  · have h1 : (st.1 4) = 0 := h1
    refine lv_iconst (v := 1) hx hb d_X_interrupt_9 (by decide) ?_
    refine lv_goto (tgt := 14) hx hb d_X_interrupt_10 (by decide) ?_
    refine lv_istore_n (lv' := [(1, .int 1), (0, .ref (ad 0))]) hx hb d_X_interrupt_14 rfl hl (by decide) rfl (fun ls hl => ?_)
    refine lv_aload_n hx hb d_X_interrupt_15 rfl (lv_at hl 1 rfl) ?_
    refine va_get (D := D) (ci := 3) (v := .ref (ad 1)) (C := R_X) (T := T_X) (N := 8) hx hb hts in_X hown hK hP 0 rfl rfl 0 (by decide) (hts (Cond.fieldLink R_X 7 "QueuedFrontsModel" "now" "[I") mw_370) (fun _ h9 => h9) rfl d_X_interrupt_16 ?_
    refine lv_iconst (v := 4) hx hb d_X_interrupt_19 (by decide) ?_
    refine lv_iconst (v := 1) hx hb d_X_interrupt_20 (by decide) ?_
    refine va_iast hx hb hK hP hD hS 1 0 rfl rfl (show vp_in (4 : Int32) 86 from qi_lit (by decide)) d_X_interrupt_21 (fun H locs hP hD hS => ?_)
    have hP : va_P D vwCl (qw_X ad cA (qm_X_g st (upd st.1 4 (1 : Int32)))) H := hP
    have hD : va_D A (qw_X ad cA (qm_X_g st (upd st.1 4 (1 : Int32)))) := hD
    refine lv_iload_n hx hb d_X_interrupt_22 rfl (lv_at hl 0 rfl) ?_
    have e9 : ((qm_X_g st (upd st.1 4 (1 : Int32))), 1) = qf_X_interrupt st := (by unfold qf_X_interrupt; rw [if_pos h1])
    exact W.zret (ty := .boolean) hx hb hr rfl (fun t ht hW => ⟨(by rw [← e9]), (by rw [ht, ← e9]; exact hP), hS.F ht⟩) hS.2.2 d_X_interrupt_23
def qf_X_trap (st : qs_X) (x : Int32) : qs_X :=
  (qm_X_cn (qm_X_g st (upd (upd (upd (upd (upd (upd (upd (upd (upd st.1 5 (st.1 0)) 6 (st.1 1)) 7 (st.1 2)) 8 (st.1 3)) 9 x) 2 (0 : Int32)) 3 (0 : Int32)) 0 (4 * x)) 1 ((4 * x) + 1))) (upd st.2.2.2.2.1 (Int32.toNatClampNeg x) ((st.2.2.2.2.1 (Int32.toNatClampNeg x)) + 1)))
set_option maxHeartbeats 4000000 in
set_option maxRecDepth 100000 in
theorem c_X_trap (l : Launch) (D : va_G) (cA : ClassId) (ad : Nat → Nat) (st : qs_X) (x : Int32) (hx7 : vp_in x 7) : Met l y_X_trap (Cond.code y_X_trap b_X_trap 2 none :: qx_T) ({ frames := 0, cells := 0, slots := 0, locals := 0 }) (qx_Pc D vwCl [(cA, .int)] (qw_X ad cA st) [.ref (ad 0), .int x]) (qx_Q D vwCl (qw_X ad cA (qf_X_trap st x)) (qx_ad (qw_X ad cA st)) none) 0 0 (qx_ad (qw_X ad cA st)) := by
  refine Met.ofW (cc := b_X_trap) (maxL := 2) (ret := none) (by decide) rfl ?_
  intro p e s m args below meth c s₁ B hml hv
  obtain ⟨rfl, hP, hK, hN, hD0⟩ := hv
  have hx := B.exec
  have hb := B.bytes
  have hr := B.returns
  have hts0 := atoms_spec (ws := Cond.code y_X_trap b_X_trap 2 none :: qx_T) B.pre
  have hts := fun w h => hts0 w (List.mem_cons_of_mem _ h)
  have hown : s.vm.findClass R_X = some m.cls := findClass_of_methodNamed B.named
  have hlocks := B.notSynchronized
  have hD : va_D (qx_ad (qw_X ad cA st)) (qw_X ad cA st) := ⟨hD0.1, fun k q hk => ⟨k, q.2, hk⟩⟩
  generalize hAe : qx_ad (qw_X ad cA st) = A at hD ⊢
  have hS : va_S A s.heap s.heap [] := va_S.rf
  have hl := lv_entry ([.ref (ad 0), .int x]) (n := 2) (Nat.le_of_ble_eq_true rfl)
  rw [lg_entry_eq]
  generalize (lg_sl ([.ref (ad 0), .int x]) ++ List.replicate (2 - (lg_sl ([.ref (ad 0), .int x])).length) Slot.unset).toArray = ls at hl ⊢
  have hl : lv_has ls 2 [(0, .ref (ad 0)), (1, .int x)] := hl
  refine lv_aload_n hx hb d_X_trap_0 rfl (lv_at hl 0 rfl) ?_
  refine va_get (D := D) (ci := 3) (v := .ref (ad 1)) (C := R_X) (T := T_X) (N := 8) hx hb hts in_X hown hK hP 0 rfl rfl 0 (by decide) (hts (Cond.fieldLink R_X 7 "QueuedFrontsModel" "now" "[I") mw_370) (fun _ h9 => h9) rfl d_X_trap_1 ?_
  refine lv_iconst (v := 5) hx hb d_X_trap_4 (by decide) ?_
  refine lv_aload_n hx hb d_X_trap_5 rfl (lv_at hl 0 rfl) ?_
  refine va_get (D := D) (ci := 3) (v := .ref (ad 1)) (C := R_X) (T := T_X) (N := 8) hx hb hts in_X hown hK hP 0 rfl rfl 0 (by decide) (hts (Cond.fieldLink R_X 7 "QueuedFrontsModel" "now" "[I") mw_370) (fun _ h9 => h9) rfl d_X_trap_6 ?_
  refine lv_iconst (v := 0) hx hb d_X_trap_9 (by decide) ?_
  refine va_iald hx hb hK hP 1 0 rfl rfl (show vp_in (0 : Int32) 86 from qi_lit (by decide)) d_X_trap_10 ?_
  refine va_iast hx hb hK hP hD hS 1 0 rfl rfl (show vp_in (5 : Int32) 86 from qi_lit (by decide)) d_X_trap_11 (fun H locs hP hD hS => ?_)
  have hP : va_P D vwCl (qw_X ad cA (qm_X_g st (upd st.1 5 (st.1 0)))) H := hP
  have hD : va_D A (qw_X ad cA (qm_X_g st (upd st.1 5 (st.1 0)))) := hD
  refine lv_aload_n hx hb d_X_trap_12 rfl (lv_at hl 0 rfl) ?_
  refine va_get (D := D) (ci := 3) (v := .ref (ad 1)) (C := R_X) (T := T_X) (N := 8) hx hb hts in_X hown hK hP 0 rfl rfl 0 (by decide) (hts (Cond.fieldLink R_X 7 "QueuedFrontsModel" "now" "[I") mw_370) (fun _ h9 => h9) rfl d_X_trap_13 ?_
  refine lv_bipush (v := 6) hx hb d_X_trap_16 (by decide) ?_
  refine lv_aload_n hx hb d_X_trap_18 rfl (lv_at hl 0 rfl) ?_
  refine va_get (D := D) (ci := 3) (v := .ref (ad 1)) (C := R_X) (T := T_X) (N := 8) hx hb hts in_X hown hK hP 0 rfl rfl 0 (by decide) (hts (Cond.fieldLink R_X 7 "QueuedFrontsModel" "now" "[I") mw_370) (fun _ h9 => h9) rfl d_X_trap_19 ?_
  refine lv_iconst (v := 1) hx hb d_X_trap_22 (by decide) ?_
  refine va_iald hx hb hK hP 1 0 rfl rfl (show vp_in (1 : Int32) 86 from qi_lit (by decide)) d_X_trap_23 ?_
  refine va_iast hx hb hK hP hD hS 1 0 rfl rfl (show vp_in (6 : Int32) 86 from qi_lit (by decide)) d_X_trap_24 (fun H locs hP hD hS => ?_)
  have hP : va_P D vwCl (qw_X ad cA (qm_X_g st (upd (upd st.1 5 (st.1 0)) 6 (st.1 1)))) H := hP
  have hD : va_D A (qw_X ad cA (qm_X_g st (upd (upd st.1 5 (st.1 0)) 6 (st.1 1)))) := hD
  refine lv_aload_n hx hb d_X_trap_25 rfl (lv_at hl 0 rfl) ?_
  refine va_get (D := D) (ci := 3) (v := .ref (ad 1)) (C := R_X) (T := T_X) (N := 8) hx hb hts in_X hown hK hP 0 rfl rfl 0 (by decide) (hts (Cond.fieldLink R_X 7 "QueuedFrontsModel" "now" "[I") mw_370) (fun _ h9 => h9) rfl d_X_trap_26 ?_
  refine lv_bipush (v := 7) hx hb d_X_trap_29 (by decide) ?_
  refine lv_aload_n hx hb d_X_trap_31 rfl (lv_at hl 0 rfl) ?_
  refine va_get (D := D) (ci := 3) (v := .ref (ad 1)) (C := R_X) (T := T_X) (N := 8) hx hb hts in_X hown hK hP 0 rfl rfl 0 (by decide) (hts (Cond.fieldLink R_X 7 "QueuedFrontsModel" "now" "[I") mw_370) (fun _ h9 => h9) rfl d_X_trap_32 ?_
  refine lv_iconst (v := 2) hx hb d_X_trap_35 (by decide) ?_
  refine va_iald hx hb hK hP 1 0 rfl rfl (show vp_in (2 : Int32) 86 from qi_lit (by decide)) d_X_trap_36 ?_
  refine va_iast hx hb hK hP hD hS 1 0 rfl rfl (show vp_in (7 : Int32) 86 from qi_lit (by decide)) d_X_trap_37 (fun H locs hP hD hS => ?_)
  have hP : va_P D vwCl (qw_X ad cA (qm_X_g st (upd (upd (upd st.1 5 (st.1 0)) 6 (st.1 1)) 7 (st.1 2)))) H := hP
  have hD : va_D A (qw_X ad cA (qm_X_g st (upd (upd (upd st.1 5 (st.1 0)) 6 (st.1 1)) 7 (st.1 2)))) := hD
  refine lv_aload_n hx hb d_X_trap_38 rfl (lv_at hl 0 rfl) ?_
  refine va_get (D := D) (ci := 3) (v := .ref (ad 1)) (C := R_X) (T := T_X) (N := 8) hx hb hts in_X hown hK hP 0 rfl rfl 0 (by decide) (hts (Cond.fieldLink R_X 7 "QueuedFrontsModel" "now" "[I") mw_370) (fun _ h9 => h9) rfl d_X_trap_39 ?_
  refine lv_bipush (v := 8) hx hb d_X_trap_42 (by decide) ?_
  refine lv_aload_n hx hb d_X_trap_44 rfl (lv_at hl 0 rfl) ?_
  refine va_get (D := D) (ci := 3) (v := .ref (ad 1)) (C := R_X) (T := T_X) (N := 8) hx hb hts in_X hown hK hP 0 rfl rfl 0 (by decide) (hts (Cond.fieldLink R_X 7 "QueuedFrontsModel" "now" "[I") mw_370) (fun _ h9 => h9) rfl d_X_trap_45 ?_
  refine lv_iconst (v := 3) hx hb d_X_trap_48 (by decide) ?_
  refine va_iald hx hb hK hP 1 0 rfl rfl (show vp_in (3 : Int32) 86 from qi_lit (by decide)) d_X_trap_49 ?_
  refine va_iast hx hb hK hP hD hS 1 0 rfl rfl (show vp_in (8 : Int32) 86 from qi_lit (by decide)) d_X_trap_50 (fun H locs hP hD hS => ?_)
  have hP : va_P D vwCl (qw_X ad cA (qm_X_g st (upd (upd (upd (upd st.1 5 (st.1 0)) 6 (st.1 1)) 7 (st.1 2)) 8 (st.1 3)))) H := hP
  have hD : va_D A (qw_X ad cA (qm_X_g st (upd (upd (upd (upd st.1 5 (st.1 0)) 6 (st.1 1)) 7 (st.1 2)) 8 (st.1 3)))) := hD
  refine lv_aload_n hx hb d_X_trap_51 rfl (lv_at hl 0 rfl) ?_
  refine va_get (D := D) (ci := 3) (v := .ref (ad 1)) (C := R_X) (T := T_X) (N := 8) hx hb hts in_X hown hK hP 0 rfl rfl 0 (by decide) (hts (Cond.fieldLink R_X 7 "QueuedFrontsModel" "now" "[I") mw_370) (fun _ h9 => h9) rfl d_X_trap_52 ?_
  refine lv_bipush (v := 9) hx hb d_X_trap_55 (by decide) ?_
  refine lv_iload_n hx hb d_X_trap_57 rfl (lv_at hl 1 rfl) ?_
  refine va_iast hx hb hK hP hD hS 1 0 rfl rfl (show vp_in (9 : Int32) 86 from qi_lit (by decide)) d_X_trap_58 (fun H locs hP hD hS => ?_)
  have hP : va_P D vwCl (qw_X ad cA (qm_X_g st (upd (upd (upd (upd (upd st.1 5 (st.1 0)) 6 (st.1 1)) 7 (st.1 2)) 8 (st.1 3)) 9 x))) H := hP
  have hD : va_D A (qw_X ad cA (qm_X_g st (upd (upd (upd (upd (upd st.1 5 (st.1 0)) 6 (st.1 1)) 7 (st.1 2)) 8 (st.1 3)) 9 x))) := hD
  refine lv_aload_n hx hb d_X_trap_59 rfl (lv_at hl 0 rfl) ?_
  refine va_get (D := D) (ci := 3) (v := .ref (ad 1)) (C := R_X) (T := T_X) (N := 8) hx hb hts in_X hown hK hP 0 rfl rfl 0 (by decide) (hts (Cond.fieldLink R_X 7 "QueuedFrontsModel" "now" "[I") mw_370) (fun _ h9 => h9) rfl d_X_trap_60 ?_
  refine lv_iconst (v := 2) hx hb d_X_trap_63 (by decide) ?_
  refine lv_iconst (v := 0) hx hb d_X_trap_64 (by decide) ?_
  refine va_iast hx hb hK hP hD hS 1 0 rfl rfl (show vp_in (2 : Int32) 86 from qi_lit (by decide)) d_X_trap_65 (fun H locs hP hD hS => ?_)
  have hP : va_P D vwCl (qw_X ad cA (qm_X_g st (upd (upd (upd (upd (upd (upd st.1 5 (st.1 0)) 6 (st.1 1)) 7 (st.1 2)) 8 (st.1 3)) 9 x) 2 (0 : Int32)))) H := hP
  have hD : va_D A (qw_X ad cA (qm_X_g st (upd (upd (upd (upd (upd (upd st.1 5 (st.1 0)) 6 (st.1 1)) 7 (st.1 2)) 8 (st.1 3)) 9 x) 2 (0 : Int32)))) := hD
  refine lv_aload_n hx hb d_X_trap_66 rfl (lv_at hl 0 rfl) ?_
  refine va_get (D := D) (ci := 3) (v := .ref (ad 1)) (C := R_X) (T := T_X) (N := 8) hx hb hts in_X hown hK hP 0 rfl rfl 0 (by decide) (hts (Cond.fieldLink R_X 7 "QueuedFrontsModel" "now" "[I") mw_370) (fun _ h9 => h9) rfl d_X_trap_67 ?_
  refine lv_iconst (v := 3) hx hb d_X_trap_70 (by decide) ?_
  refine lv_iconst (v := 0) hx hb d_X_trap_71 (by decide) ?_
  refine va_iast hx hb hK hP hD hS 1 0 rfl rfl (show vp_in (3 : Int32) 86 from qi_lit (by decide)) d_X_trap_72 (fun H locs hP hD hS => ?_)
  have hP : va_P D vwCl (qw_X ad cA (qm_X_g st (upd (upd (upd (upd (upd (upd (upd st.1 5 (st.1 0)) 6 (st.1 1)) 7 (st.1 2)) 8 (st.1 3)) 9 x) 2 (0 : Int32)) 3 (0 : Int32)))) H := hP
  have hD : va_D A (qw_X ad cA (qm_X_g st (upd (upd (upd (upd (upd (upd (upd st.1 5 (st.1 0)) 6 (st.1 1)) 7 (st.1 2)) 8 (st.1 3)) 9 x) 2 (0 : Int32)) 3 (0 : Int32)))) := hD
  refine lv_aload_n hx hb d_X_trap_73 rfl (lv_at hl 0 rfl) ?_
  refine va_get (D := D) (ci := 3) (v := .ref (ad 1)) (C := R_X) (T := T_X) (N := 8) hx hb hts in_X hown hK hP 0 rfl rfl 0 (by decide) (hts (Cond.fieldLink R_X 7 "QueuedFrontsModel" "now" "[I") mw_370) (fun _ h9 => h9) rfl d_X_trap_74 ?_
  refine lv_iconst (v := 0) hx hb d_X_trap_77 (by decide) ?_
  refine lv_iconst (v := 4) hx hb d_X_trap_78 (by decide) ?_
  refine lv_iload_n hx hb d_X_trap_79 rfl (lv_at hl 1 rfl) ?_
  refine lv_imul hx hb d_X_trap_80 ?_
  refine va_iast hx hb hK hP hD hS 1 0 rfl rfl (show vp_in (0 : Int32) 86 from qi_lit (by decide)) d_X_trap_81 (fun H locs hP hD hS => ?_)
  have hP : va_P D vwCl (qw_X ad cA (qm_X_g st (upd (upd (upd (upd (upd (upd (upd (upd st.1 5 (st.1 0)) 6 (st.1 1)) 7 (st.1 2)) 8 (st.1 3)) 9 x) 2 (0 : Int32)) 3 (0 : Int32)) 0 (4 * x)))) H := hP
  have hD : va_D A (qw_X ad cA (qm_X_g st (upd (upd (upd (upd (upd (upd (upd (upd st.1 5 (st.1 0)) 6 (st.1 1)) 7 (st.1 2)) 8 (st.1 3)) 9 x) 2 (0 : Int32)) 3 (0 : Int32)) 0 (4 * x)))) := hD
  refine lv_aload_n hx hb d_X_trap_82 rfl (lv_at hl 0 rfl) ?_
  refine va_get (D := D) (ci := 3) (v := .ref (ad 1)) (C := R_X) (T := T_X) (N := 8) hx hb hts in_X hown hK hP 0 rfl rfl 0 (by decide) (hts (Cond.fieldLink R_X 7 "QueuedFrontsModel" "now" "[I") mw_370) (fun _ h9 => h9) rfl d_X_trap_83 ?_
  refine lv_iconst (v := 1) hx hb d_X_trap_86 (by decide) ?_
  refine lv_iconst (v := 4) hx hb d_X_trap_87 (by decide) ?_
  refine lv_iload_n hx hb d_X_trap_88 rfl (lv_at hl 1 rfl) ?_
  refine lv_imul hx hb d_X_trap_89 ?_
  refine lv_iconst (v := 1) hx hb d_X_trap_90 (by decide) ?_
  refine lv_iadd hx hb d_X_trap_91 ?_
  refine va_iast hx hb hK hP hD hS 1 0 rfl rfl (show vp_in (1 : Int32) 86 from qi_lit (by decide)) d_X_trap_92 (fun H locs hP hD hS => ?_)
  have hP : va_P D vwCl (qw_X ad cA (qm_X_g st (upd (upd (upd (upd (upd (upd (upd (upd (upd st.1 5 (st.1 0)) 6 (st.1 1)) 7 (st.1 2)) 8 (st.1 3)) 9 x) 2 (0 : Int32)) 3 (0 : Int32)) 0 (4 * x)) 1 ((4 * x) + 1)))) H := hP
  have hD : va_D A (qw_X ad cA (qm_X_g st (upd (upd (upd (upd (upd (upd (upd (upd (upd st.1 5 (st.1 0)) 6 (st.1 1)) 7 (st.1 2)) 8 (st.1 3)) 9 x) 2 (0 : Int32)) 3 (0 : Int32)) 0 (4 * x)) 1 ((4 * x) + 1)))) := hD
  refine lv_aload_n hx hb d_X_trap_93 rfl (lv_at hl 0 rfl) ?_
  refine va_get (D := D) (ci := 3) (v := .ref (ad 4)) (C := R_X) (T := T_X) (N := 8) hx hb hts in_X hown hK hP 0 rfl rfl 4 (by decide) (hts (Cond.fieldLink R_X 19 "QueuedFrontsModel" "counts" "[I") mw_374) (fun _ h9 => h9) rfl d_X_trap_94 ?_
  refine lv_iload_n hx hb d_X_trap_97 rfl (lv_at hl 1 rfl) ?_
  refine lv_aload_n hx hb d_X_trap_98 rfl (lv_at hl 0 rfl) ?_
  refine va_get (D := D) (ci := 3) (v := .ref (ad 4)) (C := R_X) (T := T_X) (N := 8) hx hb hts in_X hown hK hP 0 rfl rfl 4 (by decide) (hts (Cond.fieldLink R_X 19 "QueuedFrontsModel" "counts" "[I") mw_374) (fun _ h9 => h9) rfl d_X_trap_99 ?_
  refine lv_iload_n hx hb d_X_trap_102 rfl (lv_at hl 1 rfl) ?_
  refine va_iald hx hb hK hP 4 0 rfl rfl (show vp_in x 7 from hx7) d_X_trap_103 ?_
  refine lv_iconst (v := 1) hx hb d_X_trap_104 (by decide) ?_
  refine lv_iadd hx hb d_X_trap_105 ?_
  refine va_iast hx hb hK hP hD hS 4 0 rfl rfl (show vp_in x 7 from hx7) d_X_trap_106 (fun H locs hP hD hS => ?_)
  have hP : va_P D vwCl (qw_X ad cA (qm_X_cn (qm_X_g st (upd (upd (upd (upd (upd (upd (upd (upd (upd st.1 5 (st.1 0)) 6 (st.1 1)) 7 (st.1 2)) 8 (st.1 3)) 9 x) 2 (0 : Int32)) 3 (0 : Int32)) 0 (4 * x)) 1 ((4 * x) + 1))) (upd st.2.2.2.2.1 (Int32.toNatClampNeg x) ((st.2.2.2.2.1 (Int32.toNatClampNeg x)) + 1)))) H := hP
  have hD : va_D A (qw_X ad cA (qm_X_cn (qm_X_g st (upd (upd (upd (upd (upd (upd (upd (upd (upd st.1 5 (st.1 0)) 6 (st.1 1)) 7 (st.1 2)) 8 (st.1 3)) 9 x) 2 (0 : Int32)) 3 (0 : Int32)) 0 (4 * x)) 1 ((4 * x) + 1))) (upd st.2.2.2.2.1 (Int32.toNatClampNeg x) ((st.2.2.2.2.1 (Int32.toNatClampNeg x)) + 1)))) := hD
  have e9 : (qm_X_cn (qm_X_g st (upd (upd (upd (upd (upd (upd (upd (upd (upd st.1 5 (st.1 0)) 6 (st.1 1)) 7 (st.1 2)) 8 (st.1 3)) 9 x) 2 (0 : Int32)) 3 (0 : Int32)) 0 (4 * x)) 1 ((4 * x) + 1))) (upd st.2.2.2.2.1 (Int32.toNatClampNeg x) ((st.2.2.2.2.1 (Int32.toNatClampNeg x)) + 1))) = qf_X_trap st x := rfl
  exact W.vret hx hb hr (fun t ht hW => ⟨rfl, (by rw [ht, ← e9]; exact hP), hS.F ht⟩) hS.2.2 d_X_trap_107
def qf_X_moveOn (st : qs_X) (x : Int32) : qs_X :=
  if 0 ≤ x then (qm_X_g st (upd (upd st.1 0 (st.1 1)) 1 x))
  else (qm_X_g st (upd (upd st.1 0 (st.1 1)) 1 (qf_X_behind (st.1 1))))
set_option maxHeartbeats 4000000 in
set_option maxRecDepth 100000 in
theorem c_X_moveOn (l : Launch) (D : va_G) (cA : ClassId) (ad : Nat → Nat) (st : qs_X) (x : Int32) : Met l y_X_moveOn (Cond.code y_X_moveOn b_X_moveOn 2 none :: qx_T) ({ frames := 2, cells := 0, slots := 0, locals := 41 }) (qx_Pc D vwCl [(cA, .int)] (qw_X ad cA st) [.ref (ad 0), .int x]) (qx_Q D vwCl (qw_X ad cA (qf_X_moveOn st x)) (qx_ad (qw_X ad cA st)) none) 0 0 (qx_ad (qw_X ad cA st)) := by
  refine Met.ofW (cc := b_X_moveOn) (maxL := 2) (ret := none) (by decide) rfl ?_
  intro p e s m args below meth c s₁ B hml hv
  obtain ⟨rfl, hP, hK, hN, hD0⟩ := hv
  have hx := B.exec
  have hb := B.bytes
  have hr := B.returns
  have hts0 := atoms_spec (ws := Cond.code y_X_moveOn b_X_moveOn 2 none :: qx_T) B.pre
  have hts := fun w h => hts0 w (List.mem_cons_of_mem _ h)
  have hown : s.vm.findClass R_X = some m.cls := findClass_of_methodNamed B.named
  have hlocks := B.notSynchronized
  have hD : va_D (qx_ad (qw_X ad cA st)) (qw_X ad cA st) := ⟨hD0.1, fun k q hk => ⟨k, q.2, hk⟩⟩
  generalize hAe : qx_ad (qw_X ad cA st) = A at hD ⊢
  have hS : va_S A s.heap s.heap [] := va_S.rf
  have hl := lv_entry ([.ref (ad 0), .int x]) (n := 2) (Nat.le_of_ble_eq_true rfl)
  rw [lg_entry_eq]
  generalize (lg_sl ([.ref (ad 0), .int x]) ++ List.replicate (2 - (lg_sl ([.ref (ad 0), .int x])).length) Slot.unset).toArray = ls at hl ⊢
  have hl : lv_has ls 2 [(0, .ref (ad 0)), (1, .int x)] := hl
  refine lv_aload_n hx hb d_X_moveOn_0 rfl (lv_at hl 0 rfl) ?_
  refine va_get (D := D) (ci := 3) (v := .ref (ad 1)) (C := R_X) (T := T_X) (N := 8) hx hb hts in_X hown hK hP 0 rfl rfl 0 (by decide) (hts (Cond.fieldLink R_X 7 "QueuedFrontsModel" "now" "[I") mw_370) (fun _ h9 => h9) rfl d_X_moveOn_1 ?_
  refine lv_iconst (v := 0) hx hb d_X_moveOn_4 (by decide) ?_
  refine lv_aload_n hx hb d_X_moveOn_5 rfl (lv_at hl 0 rfl) ?_
  refine va_get (D := D) (ci := 3) (v := .ref (ad 1)) (C := R_X) (T := T_X) (N := 8) hx hb hts in_X hown hK hP 0 rfl rfl 0 (by decide) (hts (Cond.fieldLink R_X 7 "QueuedFrontsModel" "now" "[I") mw_370) (fun _ h9 => h9) rfl d_X_moveOn_6 ?_
  refine lv_iconst (v := 1) hx hb d_X_moveOn_9 (by decide) ?_
  refine va_iald hx hb hK hP 1 0 rfl rfl (show vp_in (1 : Int32) 86 from qi_lit (by decide)) d_X_moveOn_10 ?_
  refine va_iast hx hb hK hP hD hS 1 0 rfl rfl (show vp_in (0 : Int32) 86 from qi_lit (by decide)) d_X_moveOn_11 (fun H locs hP hD hS => ?_)
  have hP : va_P D vwCl (qw_X ad cA (qm_X_g st (upd st.1 0 (st.1 1)))) H := hP
  have hD : va_D A (qw_X ad cA (qm_X_g st (upd st.1 0 (st.1 1)))) := hD
  refine lv_aload_n hx hb d_X_moveOn_12 rfl (lv_at hl 0 rfl) ?_
  refine va_get (D := D) (ci := 3) (v := .ref (ad 1)) (C := R_X) (T := T_X) (N := 8) hx hb hts in_X hown hK hP 0 rfl rfl 0 (by decide) (hts (Cond.fieldLink R_X 7 "QueuedFrontsModel" "now" "[I") mw_370) (fun _ h9 => h9) rfl d_X_moveOn_13 ?_
  refine lv_iconst (v := 1) hx hb d_X_moveOn_16 (by decide) ?_
  refine lv_iload_n hx hb d_X_moveOn_17 rfl (lv_at hl 1 rfl) ?_
  refine lv_if_ge (tgt := 33) hx hb d_X_moveOn_18 (by decide) (fun h1 => ?_) (fun h1 => ?_)
  · have h1 : 0 ≤ x := h1
    refine lv_iload_n hx hb d_X_moveOn_33 rfl (lv_at hl 1 rfl) ?_
    refine va_iast hx hb hK hP hD hS 1 0 rfl rfl (show vp_in (1 : Int32) 86 from qi_lit (by decide)) d_X_moveOn_34 (fun H locs hP hD hS => ?_)
    have hP : va_P D vwCl (qw_X ad cA (qm_X_g st (upd (upd st.1 0 (st.1 1)) 1 x))) H := hP
    have hD : va_D A (qw_X ad cA (qm_X_g st (upd (upd st.1 0 (st.1 1)) 1 x))) := hD
    have e9 : (qm_X_g st (upd (upd st.1 0 (st.1 1)) 1 x)) = qf_X_moveOn st x := (by unfold qf_X_moveOn; rw [if_pos h1])
    exact W.vret hx hb hr (fun t ht hW => ⟨rfl, (by rw [ht, ← e9]; exact hP), hS.F ht⟩) hS.2.2 d_X_moveOn_35
  · have h1 : ¬ (0 ≤ x) := h1
    refine lv_aload_n hx hb d_X_moveOn_21 rfl (lv_at hl 0 rfl) ?_
    refine va_get (D := D) (ci := 3) (v := .ref (ad 1)) (C := R_X) (T := T_X) (N := 8) hx hb hts in_X hown hK hP 0 rfl rfl 0 (by decide) (hts (Cond.fieldLink R_X 7 "QueuedFrontsModel" "now" "[I") mw_370) (fun _ h9 => h9) rfl d_X_moveOn_22 ?_
    refine lv_iconst (v := 0) hx hb d_X_moveOn_25 (by decide) ?_
    refine va_iald hx hb hK hP 1 0 rfl rfl (show vp_in (0 : Int32) 86 from qi_lit (by decide)) d_X_moveOn_26 ?_
    refine qx_rd (va_runS (As := [.int (st.1 1)]) (rest := [.int 1, .ref (ad 1)]) ⟨hx, hb, hml, hown, hts⟩ (c_X_behind l D cA (st.1 1)) (qx_kS hts mw_421 mw_422 mw_33 mw_423 cd_X_behind ⟨Nat.le_of_ble_eq_true rfl, Nat.le_of_ble_eq_true rfl⟩) (qx_preS hP hD hK hN [] rfl rfl) rfl rfl hl.1 rfl (lv_room (Nat.le_of_ble_eq_true rfl)) d_X_moveOn_27 ⟨Nat.zero_le _, Nat.zero_le _⟩) ?_
    refine lv_goto (tgt := 34) hx hb d_X_moveOn_30 (by decide) ?_
    refine va_iast hx hb hK hP hD hS 1 0 rfl rfl (show vp_in (1 : Int32) 86 from qi_lit (by decide)) d_X_moveOn_34 (fun H locs hP hD hS => ?_)
    have hP : va_P D vwCl (qw_X ad cA (qm_X_g st (upd (upd st.1 0 (st.1 1)) 1 (qf_X_behind (st.1 1))))) H := hP
    have hD : va_D A (qw_X ad cA (qm_X_g st (upd (upd st.1 0 (st.1 1)) 1 (qf_X_behind (st.1 1))))) := hD
    have e9 : (qm_X_g st (upd (upd st.1 0 (st.1 1)) 1 (qf_X_behind (st.1 1)))) = qf_X_moveOn st x := (by unfold qf_X_moveOn; rw [if_neg h1])
    exact W.vret hx hb hr (fun t ht hW => ⟨rfl, (by rw [ht, ← e9]; exact hP), hS.F ht⟩) hS.2.2 d_X_moveOn_35
def qf_X_write (st : qs_X) (x : Int32) (v : Int32) : qs_X :=
  if x = 0 then (qm_X_g st (upd st.1 (Int32.toNatClampNeg (10 + x)) (0 : Int32)))
  else (qm_X_g st (upd st.1 (Int32.toNatClampNeg (10 + x)) v))
set_option maxHeartbeats 4000000 in
set_option maxRecDepth 100000 in
theorem c_X_write (l : Launch) (D : va_G) (cA : ClassId) (ad : Nat → Nat) (st : qs_X) (x : Int32) (v : Int32) (hx8 : vp_in x 8) : Met l y_X_write (Cond.code y_X_write b_X_write 3 none :: qx_T) ({ frames := 0, cells := 0, slots := 0, locals := 0 }) (qx_Pc D vwCl [(cA, .int)] (qw_X ad cA st) [.ref (ad 0), .int x, .int v]) (qx_Q D vwCl (qw_X ad cA (qf_X_write st x v)) (qx_ad (qw_X ad cA st)) none) 0 0 (qx_ad (qw_X ad cA st)) := by
  refine Met.ofW (cc := b_X_write) (maxL := 3) (ret := none) (by decide) rfl ?_
  intro p e s m args below meth c s₁ B hml hv
  obtain ⟨rfl, hP, hK, hN, hD0⟩ := hv
  have hx := B.exec
  have hb := B.bytes
  have hr := B.returns
  have hts0 := atoms_spec (ws := Cond.code y_X_write b_X_write 3 none :: qx_T) B.pre
  have hts := fun w h => hts0 w (List.mem_cons_of_mem _ h)
  have hown : s.vm.findClass R_X = some m.cls := findClass_of_methodNamed B.named
  have hlocks := B.notSynchronized
  have hD : va_D (qx_ad (qw_X ad cA st)) (qw_X ad cA st) := ⟨hD0.1, fun k q hk => ⟨k, q.2, hk⟩⟩
  generalize hAe : qx_ad (qw_X ad cA st) = A at hD ⊢
  have hS : va_S A s.heap s.heap [] := va_S.rf
  have hl := lv_entry ([.ref (ad 0), .int x, .int v]) (n := 3) (Nat.le_of_ble_eq_true rfl)
  rw [lg_entry_eq]
  generalize (lg_sl ([.ref (ad 0), .int x, .int v]) ++ List.replicate (3 - (lg_sl ([.ref (ad 0), .int x, .int v])).length) Slot.unset).toArray = ls at hl ⊢
  have hl : lv_has ls 3 [(0, .ref (ad 0)), (1, .int x), (2, .int v)] := hl
  refine lv_aload_n hx hb d_X_write_0 rfl (lv_at hl 0 rfl) ?_
  refine va_get (D := D) (ci := 3) (v := .ref (ad 1)) (C := R_X) (T := T_X) (N := 8) hx hb hts in_X hown hK hP 0 rfl rfl 0 (by decide) (hts (Cond.fieldLink R_X 7 "QueuedFrontsModel" "now" "[I") mw_370) (fun _ h9 => h9) rfl d_X_write_1 ?_
  refine lv_bipush (v := 10) hx hb d_X_write_4 (by decide) ?_
  refine lv_iload_n hx hb d_X_write_6 rfl (lv_at hl 1 rfl) ?_
  refine lv_iadd hx hb d_X_write_7 ?_
  refine lv_iload_n hx hb d_X_write_8 rfl (lv_at hl 1 rfl) ?_
  refine lv_if_ne (tgt := 16) hx hb d_X_write_9 (by decide) (fun h1 => ?_) (fun h1 => ?_)
  · have h1 : ¬ (x = 0) := h1
    refine lv_iload_n hx hb d_X_write_16 rfl (lv_at hl 2 rfl) ?_
    refine va_iast hx hb hK hP hD hS 1 0 rfl rfl (show vp_in (10 + x) 86 from qi_add 10 86 (by decide) hx8 (by decide) (by decide)) d_X_write_17 (fun H locs hP hD hS => ?_)
    have hP : va_P D vwCl (qw_X ad cA (qm_X_g st (upd st.1 (Int32.toNatClampNeg (10 + x)) v))) H := hP
    have hD : va_D A (qw_X ad cA (qm_X_g st (upd st.1 (Int32.toNatClampNeg (10 + x)) v))) := hD
    have e9 : (qm_X_g st (upd st.1 (Int32.toNatClampNeg (10 + x)) v)) = qf_X_write st x v := (by unfold qf_X_write; rw [if_neg h1])
    exact W.vret hx hb hr (fun t ht hW => ⟨rfl, (by rw [ht, ← e9]; exact hP), hS.F ht⟩) hS.2.2 d_X_write_18
  · have h1 : x = 0 := h1
    refine lv_iconst (v := 0) hx hb d_X_write_12 (by decide) ?_
    refine lv_goto (tgt := 17) hx hb d_X_write_13 (by decide) ?_
    refine va_iast hx hb hK hP hD hS 1 0 rfl rfl (show vp_in (10 + x) 86 from qi_add 10 86 (by decide) hx8 (by decide) (by decide)) d_X_write_17 (fun H locs hP hD hS => ?_)
    have hP : va_P D vwCl (qw_X ad cA (qm_X_g st (upd st.1 (Int32.toNatClampNeg (10 + x)) (0 : Int32)))) H := hP
    have hD : va_D A (qw_X ad cA (qm_X_g st (upd st.1 (Int32.toNatClampNeg (10 + x)) (0 : Int32)))) := hD
    have e9 : (qm_X_g st (upd st.1 (Int32.toNatClampNeg (10 + x)) (0 : Int32))) = qf_X_write st x v := (by unfold qf_X_write; rw [if_pos h1])
    exact W.vret hx hb hr (fun t ht hW => ⟨rfl, (by rw [ht, ← e9]; exact hP), hS.F ht⟩) hS.2.2 d_X_write_18
