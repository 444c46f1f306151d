def qf_Co_unsigned (x : Int32) : Int64 :=
  (x.toInt64 &&& 4294967295)
set_option maxHeartbeats 4000000 in
set_option maxRecDepth 100000 in
theorem c_Co_unsigned (l : Launch) (D : va_G) (cA : ClassId) (x : Int32) : Met l y_Co_unsigned (Cond.code y_Co_unsigned b_Co_unsigned 1 (some .long) :: qx_T) ({ frames := 0, cells := 0, slots := 0, locals := 0 }) (qx_Pc D vwCl [(cA, .int)] ([]) [.int x]) (k2_QcV (.long (qf_Co_unsigned x))) 0 0 (fun _ => False) := by
  refine Met.ofW (cc := b_Co_unsigned) (maxL := 1) (ret := (some .long)) (by decide) rfl ?_
  intro p e s m args below meth c s₁ B hml hv
  obtain ⟨rfl, hP, hK, hN, hD0⟩ := hv
  have hx := B.exec
  have hb := B.bytes
  have hr := B.returns
  have hts0 := atoms_spec (ws := Cond.code y_Co_unsigned b_Co_unsigned 1 (some .long) :: qx_T) B.pre
  have hts := fun w h => hts0 w (List.mem_cons_of_mem _ h)
  have hown : s.vm.findClass R_Co = some m.cls := findClass_of_methodNamed B.named
  have hlocks := B.notSynchronized
  have hD : va_D (qx_ad ([])) ([]) := ⟨hD0.1, fun k q hk => ⟨k, q.2, hk⟩⟩
  generalize hAe : qx_ad ([]) = A at hD
  have hS : va_S A s.heap s.heap [] := va_S.rf
  have hl := lv_entry ([.int x]) (n := 1) (Nat.le_of_ble_eq_true rfl)
  rw [lg_entry_eq]
  generalize (lg_sl ([.int x]) ++ List.replicate (1 - (lg_sl ([.int x])).length) Slot.unset).toArray = ls at hl ⊢
  have hl : lv_has ls 1 [(0, .int x)] := hl
  refine lv_iload_n hx hb d_Co_unsigned_0 rfl (lv_at hl 0 rfl) ?_
  refine lv_i2l (v := x.toInt64) hx hb d_Co_unsigned_1 rfl ?_
  refine lv_ldc2 (v := 4294967295) hx hb hown (hts (.constantLong R_Co 13 4294967295) mw_267) d_Co_unsigned_2 ?_
  refine lv_land hx hb d_Co_unsigned_5 ?_
  exact W.lret hx hb hr (fun t ht hW => ⟨congrArg (fun z => Outcome.returned (some (Value.long z))) (show (x.toInt64 &&& 4294967295) = qf_Co_unsigned x from rfl), ht⟩) (fun _ h => absurd h List.not_mem_nil) d_Co_unsigned_6
def qf_Co_holds (k : Int32) (x : Int32) (y : Int32) : Int32 :=
  if k = 1 then (if x = y then 1
    else 0)
  else if k = 2 then (if y ≤ x then 0
    else 1)
  else if k = 3 then (if y < x then 0
    else 1)
  else if k = 4 then (if 0 ≤ (lg_cmp (qf_Co_unsigned x) (qf_Co_unsigned y)) then 0
    else 1)
  else if k = 5 then (if 0 < (lg_cmp (qf_Co_unsigned x) (qf_Co_unsigned y)) then 0
    else 1)
  else if k = 6 then (if ((x - y) &&& 1) = 1 then 1
    else 0)
  else if k = 7 then 1
  else 0
set_option maxHeartbeats 4000000 in
set_option maxRecDepth 100000 in
theorem c_Co_holds (l : Launch) (D : va_G) (cA : ClassId) (k : Int32) (x : Int32) (y : Int32) : Met l y_Co_holds (Cond.code y_Co_holds b_Co_holds 3 (some .boolean) :: qx_T) ({ frames := 1, cells := 0, slots := 0, locals := 20 }) (qx_Pc D vwCl [(cA, .int)] ([]) [.int k, .int x, .int y]) (k2_QcV (.int (qf_Co_holds k x y))) 0 0 (fun _ => False) := by
  refine Met.ofW (cc := b_Co_holds) (maxL := 3) (ret := (some .boolean)) (by decide) rfl ?_
  intro p e s m args below meth c s₁ B hml hv
  obtain ⟨rfl, hP, hK, hN, hD0⟩ := hv
  have hx := B.exec
  have hb := B.bytes
  have hr := B.returns
  have hts0 := atoms_spec (ws := Cond.code y_Co_holds b_Co_holds 3 (some .boolean) :: qx_T) B.pre
  have hts := fun w h => hts0 w (List.mem_cons_of_mem _ h)
  have hown : s.vm.findClass R_Co = some m.cls := findClass_of_methodNamed B.named
  have hlocks := B.notSynchronized
  have hD : va_D (qx_ad ([])) ([]) := ⟨hD0.1, fun k q hk => ⟨k, q.2, hk⟩⟩
  generalize hAe : qx_ad ([]) = A at hD
  have hS : va_S A s.heap s.heap [] := va_S.rf
  have hl := lv_entry ([.int k, .int x, .int y]) (n := 3) (Nat.le_of_ble_eq_true rfl)
  rw [lg_entry_eq]
  generalize (lg_sl ([.int k, .int x, .int y]) ++ List.replicate (3 - (lg_sl ([.int k, .int x, .int y])).length) Slot.unset).toArray = ls at hl ⊢
  have hl : lv_has ls 3 [(0, .int k), (1, .int x), (2, .int y)] := hl
  refine lv_iload_n hx hb d_Co_holds_0 rfl (lv_at hl 0 rfl) ?_
  by_cases h1 : k = 1
  · refine lv_tableIn (tgt := 44) hx hb d_Co_holds_1 (by rw [h1]; decide) (by rw [h1]; decide) (by rw [h1]; rfl) (by decide) ?_
    refine lv_iload_n hx hb d_Co_holds_44 rfl (lv_at hl 1 rfl) ?_
    refine lv_iload_n hx hb d_Co_holds_45 rfl (lv_at hl 2 rfl) ?_
    refine lv_icmp_ne (tgt := 53) hx hb d_Co_holds_46 (by decide) (fun h2 => ?_) (fun h2 => ?_)
    · have h2 : ¬ (x = y) := h2
      refine lv_iconst (v := 0) hx hb d_Co_holds_53 (by decide) ?_
      exact W.zret (ty := .boolean) hx hb hr rfl (fun t ht hW => ⟨congrArg (fun z => Outcome.returned (some (Value.int z))) (show 0 = qf_Co_holds k x y from (by unfold qf_Co_holds; rw [if_pos h1, if_neg h2])), ht⟩) (fun _ h => absurd h List.not_mem_nil) d_Co_holds_54
    · have h2 : x = y := h2
      refine lv_iconst (v := 1) hx hb d_Co_holds_49 (by decide) ?_
      refine lv_goto (tgt := 54) hx hb d_Co_holds_50 (by decide) ?_
      exact W.zret (ty := .boolean) hx hb hr rfl (fun t ht hW => ⟨congrArg (fun z => Outcome.returned (some (Value.int z))) (show 1 = qf_Co_holds k x y from (by unfold qf_Co_holds; rw [if_pos h1, if_pos h2])), ht⟩) (fun _ h => absurd h List.not_mem_nil) d_Co_holds_54
  by_cases h3 : k = 2
  · refine lv_tableIn (tgt := 55) hx hb d_Co_holds_1 (by rw [h3]; decide) (by rw [h3]; decide) (by rw [h3]; rfl) (by decide) ?_
    refine lv_iload_n hx hb d_Co_holds_55 rfl (lv_at hl 1 rfl) ?_
    refine lv_iload_n hx hb d_Co_holds_56 rfl (lv_at hl 2 rfl) ?_
    refine lv_icmp_ge (tgt := 64) hx hb d_Co_holds_57 (by decide) (fun h4 => ?_) (fun h4 => ?_)
    · have h4 : y ≤ x := h4
      refine lv_iconst (v := 0) hx hb d_Co_holds_64 (by decide) ?_
      exact W.zret (ty := .boolean) hx hb hr rfl (fun t ht hW => ⟨congrArg (fun z => Outcome.returned (some (Value.int z))) (show 0 = qf_Co_holds k x y from (by unfold qf_Co_holds; rw [if_neg h1, if_pos h3, if_pos h4])), ht⟩) (fun _ h => absurd h List.not_mem_nil) d_Co_holds_65
    · have h4 : ¬ (y ≤ x) := h4
      refine lv_iconst (v := 1) hx hb d_Co_holds_60 (by decide) ?_
      refine lv_goto (tgt := 65) hx hb d_Co_holds_61 (by decide) ?_
      exact W.zret (ty := .boolean) hx hb hr rfl (fun t ht hW => ⟨congrArg (fun z => Outcome.returned (some (Value.int z))) (show 1 = qf_Co_holds k x y from (by unfold qf_Co_holds; rw [if_neg h1, if_pos h3, if_neg h4])), ht⟩) (fun _ h => absurd h List.not_mem_nil) d_Co_holds_65
  by_cases h5 : k = 3
  · refine lv_tableIn (tgt := 66) hx hb d_Co_holds_1 (by rw [h5]; decide) (by rw [h5]; decide) (by rw [h5]; rfl) (by decide) ?_
    refine lv_iload_n hx hb d_Co_holds_66 rfl (lv_at hl 1 rfl) ?_
    refine lv_iload_n hx hb d_Co_holds_67 rfl (lv_at hl 2 rfl) ?_
    refine lv_icmp_gt (tgt := 75) hx hb d_Co_holds_68 (by decide) (fun h6 => ?_) (fun h6 => ?_)
    · have h6 : y < x := h6
      refine lv_iconst (v := 0) hx hb d_Co_holds_75 (by decide) ?_
      exact W.zret (ty := .boolean) hx hb hr rfl (fun t ht hW => ⟨congrArg (fun z => Outcome.returned (some (Value.int z))) (show 0 = qf_Co_holds k x y from (by unfold qf_Co_holds; rw [if_neg h1, if_neg h3, if_pos h5, if_pos h6])), ht⟩) (fun _ h => absurd h List.not_mem_nil) d_Co_holds_76
    · have h6 : ¬ (y < x) := h6
      refine lv_iconst (v := 1) hx hb d_Co_holds_71 (by decide) ?_
      refine lv_goto (tgt := 76) hx hb d_Co_holds_72 (by decide) ?_
      exact W.zret (ty := .boolean) hx hb hr rfl (fun t ht hW => ⟨congrArg (fun z => Outcome.returned (some (Value.int z))) (show 1 = qf_Co_holds k x y from (by unfold qf_Co_holds; rw [if_neg h1, if_neg h3, if_pos h5, if_neg h6])), ht⟩) (fun _ h => absurd h List.not_mem_nil) d_Co_holds_76
  by_cases h7 : k = 4
  · refine lv_tableIn (tgt := 77) hx hb d_Co_holds_1 (by rw [h7]; decide) (by rw [h7]; decide) (by rw [h7]; rfl) (by decide) ?_
    refine lv_iload_n hx hb d_Co_holds_77 rfl (lv_at hl 1 rfl) ?_
    refine qx_rd (va_runS (As := [.int x]) (rest := []) ⟨hx, hb, hml, hown, hts⟩ (c_Co_unsigned l D cA x) (qx_kS hts mw_264 mw_265 mw_35 mw_266 cd_Co_unsigned ⟨Nat.le_of_ble_eq_true rfl, Nat.le_of_ble_eq_true rfl⟩) (qx_preS hP hD hK hN [] rfl rfl) rfl rfl hl.1 rfl (lv_room (Nat.le_of_ble_eq_true rfl)) d_Co_holds_78 ⟨Nat.zero_le _, Nat.zero_le _⟩) ?_
    refine lv_iload_n hx hb d_Co_holds_81 rfl (lv_at hl 2 rfl) ?_
    refine qx_rd (va_runS (As := [.int y]) (rest := [.long (qf_Co_unsigned x)]) ⟨hx, hb, hml, hown, hts⟩ (c_Co_unsigned l D cA y) (qx_kS hts mw_264 mw_265 mw_35 mw_266 cd_Co_unsigned ⟨Nat.le_of_ble_eq_true rfl, Nat.le_of_ble_eq_true rfl⟩) (qx_preS hP hD hK hN [] rfl rfl) rfl rfl hl.1 rfl (lv_room (Nat.le_of_ble_eq_true rfl)) d_Co_holds_82 ⟨Nat.zero_le _, Nat.zero_le _⟩) ?_
    refine W.lcmp hx hb d_Co_holds_85 ?_
    refine lv_if_ge (tgt := 93) hx hb d_Co_holds_86 (by decide) (fun h8 => ?_) (fun h8 => ?_)
    · have h8 : 0 ≤ (lg_cmp (qf_Co_unsigned x) (qf_Co_unsigned y)) := h8
      refine lv_iconst (v := 0) hx hb d_Co_holds_93 (by decide) ?_
      exact W.zret (ty := .boolean) hx hb hr rfl (fun t ht hW => ⟨congrArg (fun z => Outcome.returned (some (Value.int z))) (show 0 = qf_Co_holds k x y from (by unfold qf_Co_holds; rw [if_neg h1, if_neg h3, if_neg h5, if_pos h7, if_pos h8])), ht⟩) (fun _ h => absurd h List.not_mem_nil) d_Co_holds_94
    · have h8 : ¬ (0 ≤ (lg_cmp (qf_Co_unsigned x) (qf_Co_unsigned y))) := h8
      refine lv_iconst (v := 1) hx hb d_Co_holds_89 (by decide) ?_
      refine lv_goto (tgt := 94) hx hb d_Co_holds_90 (by decide) ?_
      exact W.zret (ty := .boolean) hx hb hr rfl (fun t ht hW => ⟨congrArg (fun z => Outcome.returned (some (Value.int z))) (show 1 = qf_Co_holds k x y from (by unfold qf_Co_holds; rw [if_neg h1, if_neg h3, if_neg h5, if_pos h7, if_neg h8])), ht⟩) (fun _ h => absurd h List.not_mem_nil) d_Co_holds_94
  by_cases h9 : k = 5
  · refine lv_tableIn (tgt := 95) hx hb d_Co_holds_1 (by rw [h9]; decide) (by rw [h9]; decide) (by rw [h9]; rfl) (by decide) ?_
    refine lv_iload_n hx hb d_Co_holds_95 rfl (lv_at hl 1 rfl) ?_
    refine qx_rd (va_runS (As := [.int x]) (rest := []) ⟨hx, hb, hml, hown, hts⟩ (c_Co_unsigned l D cA x) (qx_kS hts mw_264 mw_265 mw_35 mw_266 cd_Co_unsigned ⟨Nat.le_of_ble_eq_true rfl, Nat.le_of_ble_eq_true rfl⟩) (qx_preS hP hD hK hN [] rfl rfl) rfl rfl hl.1 rfl (lv_room (Nat.le_of_ble_eq_true rfl)) d_Co_holds_96 ⟨Nat.zero_le _, Nat.zero_le _⟩) ?_
    refine lv_iload_n hx hb d_Co_holds_99 rfl (lv_at hl 2 rfl) ?_
    refine qx_rd (va_runS (As := [.int y]) (rest := [.long (qf_Co_unsigned x)]) ⟨hx, hb, hml, hown, hts⟩ (c_Co_unsigned l D cA y) (qx_kS hts mw_264 mw_265 mw_35 mw_266 cd_Co_unsigned ⟨Nat.le_of_ble_eq_true rfl, Nat.le_of_ble_eq_true rfl⟩) (qx_preS hP hD hK hN [] rfl rfl) rfl rfl hl.1 rfl (lv_room (Nat.le_of_ble_eq_true rfl)) d_Co_holds_100 ⟨Nat.zero_le _, Nat.zero_le _⟩) ?_
    refine W.lcmp hx hb d_Co_holds_103 ?_
    refine lv_if_gt (tgt := 111) hx hb d_Co_holds_104 (by decide) (fun h10 => ?_) (fun h10 => ?_)
    · have h10 : 0 < (lg_cmp (qf_Co_unsigned x) (qf_Co_unsigned y)) := h10
      refine lv_iconst (v := 0) hx hb d_Co_holds_111 (by decide) ?_
      exact W.zret (ty := .boolean) hx hb hr rfl (fun t ht hW => ⟨congrArg (fun z => Outcome.returned (some (Value.int z))) (show 0 = qf_Co_holds k x y from (by unfold qf_Co_holds; rw [if_neg h1, if_neg h3, if_neg h5, if_neg h7, if_pos h9, if_pos h10])), ht⟩) (fun _ h => absurd h List.not_mem_nil) d_Co_holds_112
    · have h10 : ¬ (0 < (lg_cmp (qf_Co_unsigned x) (qf_Co_unsigned y))) := h10
      refine lv_iconst (v := 1) hx hb d_Co_holds_107 (by decide) ?_
      refine lv_goto (tgt := 112) hx hb d_Co_holds_108 (by decide) ?_
      exact W.zret (ty := .boolean) hx hb hr rfl (fun t ht hW => ⟨congrArg (fun z => Outcome.returned (some (Value.int z))) (show 1 = qf_Co_holds k x y from (by unfold qf_Co_holds; rw [if_neg h1, if_neg h3, if_neg h5, if_neg h7, if_pos h9, if_neg h10])), ht⟩) (fun _ h => absurd h List.not_mem_nil) d_Co_holds_112
  by_cases h11 : k = 6
  · refine lv_tableIn (tgt := 113) hx hb d_Co_holds_1 (by rw [h11]; decide) (by rw [h11]; decide) (by rw [h11]; rfl) (by decide) ?_
    refine lv_iload_n hx hb d_Co_holds_113 rfl (lv_at hl 1 rfl) ?_
    refine lv_iload_n hx hb d_Co_holds_114 rfl (lv_at hl 2 rfl) ?_
    refine lv_isub hx hb d_Co_holds_115 ?_
    refine lv_iconst (v := 1) hx hb d_Co_holds_116 (by decide) ?_
    refine lv_iand hx hb d_Co_holds_117 ?_
    refine lv_iconst (v := 1) hx hb d_Co_holds_118 (by decide) ?_
    refine lv_icmp_ne (tgt := 126) hx hb d_Co_holds_119 (by decide) (fun h12 => ?_) (fun h12 => ?_)
    · have h12 : ¬ (((x - y) &&& 1) = 1) := h12
      refine lv_iconst (v := 0) hx hb d_Co_holds_126 (by decide) ?_
      exact W.zret (ty := .boolean) hx hb hr rfl (fun t ht hW => ⟨congrArg (fun z => Outcome.returned (some (Value.int z))) (show 0 = qf_Co_holds k x y from (by unfold qf_Co_holds; rw [if_neg h1, if_neg h3, if_neg h5, if_neg h7, if_neg h9, if_pos h11, if_neg h12])), ht⟩) (fun _ h => absurd h List.not_mem_nil) d_Co_holds_127
    · have h12 : ((x - y) &&& 1) = 1 := h12
      refine lv_iconst (v := 1) hx hb d_Co_holds_122 (by decide) ?_
      refine lv_goto (tgt := 127) hx hb d_Co_holds_123 (by decide) ?_
      exact W.zret (ty := .boolean) hx hb hr rfl (fun t ht hW => ⟨congrArg (fun z => Outcome.returned (some (Value.int z))) (show 1 = qf_Co_holds k x y from (by unfold qf_Co_holds; rw [if_neg h1, if_neg h3, if_neg h5, if_neg h7, if_neg h9, if_pos h11, if_pos h12])), ht⟩) (fun _ h => absurd h List.not_mem_nil) d_Co_holds_127
  by_cases h13 : k = 7
  · refine lv_tableIn (tgt := 128) hx hb d_Co_holds_1 (by rw [h13]; decide) (by rw [h13]; decide) (by rw [h13]; rfl) (by decide) ?_
    refine lv_iconst (v := 1) hx hb d_Co_holds_128 (by decide) ?_
    exact W.zret (ty := .boolean) hx hb hr rfl (fun t ht hW => ⟨congrArg (fun z => Outcome.returned (some (Value.int z))) (show 1 = qf_Co_holds k x y from (by unfold qf_Co_holds; rw [if_neg h1, if_neg h3, if_neg h5, if_neg h7, if_neg h9, if_neg h11, if_pos h13])), ht⟩) (fun _ h => absurd h List.not_mem_nil) d_Co_holds_129
  refine lv_tableOut (tgt := 130) hx hb d_Co_holds_1 (by have a0 := lv_neT (a := 1) h1 (by decide); have a1 := lv_neT (a := 2) h3 (by decide); have a2 := lv_neT (a := 3) h5 (by decide); have a3 := lv_neT (a := 4) h7 (by decide); have a4 := lv_neT (a := 5) h9 (by decide); have a5 := lv_neT (a := 6) h11 (by decide); have a6 := lv_neT (a := 7) h13 (by decide); omega) (by decide) ?_
  refine lv_iconst (v := 0) hx hb d_Co_holds_130 (by decide) ?_
  exact W.zret (ty := .boolean) hx hb hr rfl (fun t ht hW => ⟨congrArg (fun z => Outcome.returned (some (Value.int z))) (show 0 = qf_Co_holds k x y from (by unfold qf_Co_holds; rw [if_neg h1, if_neg h3, if_neg h5, if_neg h7, if_neg h9, if_neg h11, if_neg h13])), ht⟩) (fun _ h => absurd h List.not_mem_nil) d_Co_holds_131
def qf_Q_isSpace (x : Int32) : Int32 :=
  if x < 0 then 0
  else if 4 ≤ x then 0
  else 1
set_option maxHeartbeats 4000000 in
set_option maxRecDepth 100000 in
theorem c_Q_isSpace (l : Launch) (D : va_G) (cA : ClassId) (x : Int32) : Met l y_Q_isSpace (Cond.code y_Q_isSpace b_Q_isSpace 1 (some .boolean) :: qx_T) ({ frames := 0, cells := 0, slots := 0, locals := 0 }) (qx_Pc D vwCl [(cA, .int)] ([]) [.int x]) (k2_QcV (.int (qf_Q_isSpace x))) 0 0 (fun _ => False) := by
  refine Met.ofW (cc := b_Q_isSpace) (maxL := 1) (ret := (some .boolean)) (by decide) rfl ?_
  intro p e s m args below meth c s₁ B hml hv
  obtain ⟨rfl, hP, hK, hN, hD0⟩ := hv
  have hx := B.exec
  have hb := B.bytes
  have hr := B.returns
  have hts0 := atoms_spec (ws := Cond.code y_Q_isSpace b_Q_isSpace 1 (some .boolean) :: qx_T) B.pre
  have hts := fun w h => hts0 w (List.mem_cons_of_mem _ h)
  have hown : s.vm.findClass R_Q = some m.cls := findClass_of_methodNamed B.named
  have hlocks := B.notSynchronized
  have hD : va_D (qx_ad ([])) ([]) := ⟨hD0.1, fun k q hk => ⟨k, q.2, hk⟩⟩
  generalize hAe : qx_ad ([]) = A at hD
  have hS : va_S A s.heap s.heap [] := va_S.rf
  have hl := lv_entry ([.int x]) (n := 1) (Nat.le_of_ble_eq_true rfl)
  rw [lg_entry_eq]
  generalize (lg_sl ([.int x]) ++ List.replicate (1 - (lg_sl ([.int x])).length) Slot.unset).toArray = ls at hl ⊢
  have hl : lv_has ls 1 [(0, .int x)] := hl
  refine lv_iload_n hx hb d_Q_isSpace_0 rfl (lv_at hl 0 rfl) ?_
  refine lv_if_lt (tgt := 13) hx hb d_Q_isSpace_1 (by decide) (fun h1 => ?_) (fun h1 => ?_)
  · have h1 : x < 0 := h1
    refine lv_iconst (v := 0) hx hb d_Q_isSpace_13 (by decide) ?_
    exact W.zret (ty := .boolean) hx hb hr rfl (fun t ht hW => ⟨congrArg (fun z => Outcome.returned (some (Value.int z))) (show 0 = qf_Q_isSpace x from (by unfold qf_Q_isSpace; rw [if_pos h1])), ht⟩) (fun _ h => absurd h List.not_mem_nil) d_Q_isSpace_14
  · have h1 : ¬ (x < 0) := h1
    refine lv_iload_n hx hb d_Q_isSpace_4 rfl (lv_at hl 0 rfl) ?_
    refine lv_iconst (v := 4) hx hb d_Q_isSpace_5 (by decide) ?_
    refine lv_icmp_ge (tgt := 13) hx hb d_Q_isSpace_6 (by decide) (fun h2 => ?_) (fun h2 => ?_)
    · have h2 : 4 ≤ x := h2
      refine lv_iconst (v := 0) hx hb d_Q_isSpace_13 (by decide) ?_
      exact W.zret (ty := .boolean) hx hb hr rfl (fun t ht hW => ⟨congrArg (fun z => Outcome.returned (some (Value.int z))) (show 0 = qf_Q_isSpace x from (by unfold qf_Q_isSpace; rw [if_neg h1, if_pos h2])), ht⟩) (fun _ h => absurd h List.not_mem_nil) d_Q_isSpace_14
    · have h2 : ¬ (4 ≤ x) := h2
      refine lv_iconst (v := 1) hx hb d_Q_isSpace_9 (by decide) ?_
      refine lv_goto (tgt := 14) hx hb d_Q_isSpace_10 (by decide) ?_
      exact W.zret (ty := .boolean) hx hb hr rfl (fun t ht hW => ⟨congrArg (fun z => Outcome.returned (some (Value.int z))) (show 1 = qf_Q_isSpace x from (by unfold qf_Q_isSpace; rw [if_neg h1, if_neg h2])), ht⟩) (fun _ h => absurd h List.not_mem_nil) d_Q_isSpace_14
def qf_Q_isPlace (x : Int32) (y : Int32) : Int32 :=
  if qf_Q_isSpace x = 0 then 0
  else if y < 0 then 0
  else if 32 ≤ y then 0
  else 1
set_option maxHeartbeats 4000000 in
set_option maxRecDepth 100000 in
theorem c_Q_isPlace (l : Launch) (D : va_G) (cA : ClassId) (x : Int32) (y : Int32) : Met l y_Q_isPlace (Cond.code y_Q_isPlace b_Q_isPlace 2 (some .boolean) :: qx_T) ({ frames := 1, cells := 0, slots := 0, locals := 20 }) (qx_Pc D vwCl [(cA, .int)] ([]) [.int x, .int y]) (k2_QcV (.int (qf_Q_isPlace x y))) 0 0 (fun _ => False) := by
  refine Met.ofW (cc := b_Q_isPlace) (maxL := 2) (ret := (some .boolean)) (by decide) rfl ?_
  intro p e s m args below meth c s₁ B hml hv
  obtain ⟨rfl, hP, hK, hN, hD0⟩ := hv
  have hx := B.exec
  have hb := B.bytes
  have hr := B.returns
  have hts0 := atoms_spec (ws := Cond.code y_Q_isPlace b_Q_isPlace 2 (some .boolean) :: qx_T) B.pre
  have hts := fun w h => hts0 w (List.mem_cons_of_mem _ h)
  have hown : s.vm.findClass R_Q = some m.cls := findClass_of_methodNamed B.named
  have hlocks := B.notSynchronized
  have hD : va_D (qx_ad ([])) ([]) := ⟨hD0.1, fun k q hk => ⟨k, q.2, hk⟩⟩
  generalize hAe : qx_ad ([]) = A at hD
  have hS : va_S A s.heap s.heap [] := va_S.rf
  have hl := lv_entry ([.int x, .int y]) (n := 2) (Nat.le_of_ble_eq_true rfl)
  rw [lg_entry_eq]
  generalize (lg_sl ([.int x, .int y]) ++ List.replicate (2 - (lg_sl ([.int x, .int y])).length) Slot.unset).toArray = ls at hl ⊢
  have hl : lv_has ls 2 [(0, .int x), (1, .int y)] := hl
  refine lv_iload_n hx hb d_Q_isPlace_0 rfl (lv_at hl 0 rfl) ?_
  refine qx_rd (va_runS (As := [.int x]) (rest := []) ⟨hx, hb, hml, hown, hts⟩ (c_Q_isSpace l D cA x) (qx_kS hts mw_147 mw_148 mw_29 mw_149 cd_Q_isSpace ⟨Nat.le_of_ble_eq_true rfl, Nat.le_of_ble_eq_true rfl⟩) (qx_preS hP hD hK hN [] rfl rfl) rfl rfl hl.1 rfl (lv_room (Nat.le_of_ble_eq_true rfl)) d_Q_isPlace_1 ⟨Nat.zero_le _, Nat.zero_le _⟩) ?_
  refine lv_if_eq (tgt := 21) hx hb d_Q_isPlace_4 (by decide) (fun h1 => ?_) (fun h1 => ?_)
  · have h1 : qf_Q_isSpace x = 0 := h1
    refine lv_iconst (v := 0) hx hb d_Q_isPlace_21 (by decide) ?_
    exact W.zret (ty := .boolean) hx hb hr rfl (fun t ht hW => ⟨congrArg (fun z => Outcome.returned (some (Value.int z))) (show 0 = qf_Q_isPlace x y from (by unfold qf_Q_isPlace; rw [if_pos h1])), ht⟩) (fun _ h => absurd h List.not_mem_nil) d_Q_isPlace_22
  · have h1 : ¬ (qf_Q_isSpace x = 0) := h1
    refine lv_iload_n hx hb d_Q_isPlace_7 rfl (lv_at hl 1 rfl) ?_
    refine lv_if_lt (tgt := 21) hx hb d_Q_isPlace_8 (by decide) (fun h2 => ?_) (fun h2 => ?_)
    · have h2 : y < 0 := h2
      refine lv_iconst (v := 0) hx hb d_Q_isPlace_21 (by decide) ?_
      exact W.zret (ty := .boolean) hx hb hr rfl (fun t ht hW => ⟨congrArg (fun z => Outcome.returned (some (Value.int z))) (show 0 = qf_Q_isPlace x y from (by unfold qf_Q_isPlace; rw [if_neg h1, if_pos h2])), ht⟩) (fun _ h => absurd h List.not_mem_nil) d_Q_isPlace_22
    · have h2 : ¬ (y < 0) := h2
      refine lv_iload_n hx hb d_Q_isPlace_11 rfl (lv_at hl 1 rfl) ?_
      refine lv_bipush (v := 32) hx hb d_Q_isPlace_12 (by decide) ?_
      refine lv_icmp_ge (tgt := 21) hx hb d_Q_isPlace_14 (by decide) (fun h3 => ?_) (fun h3 => ?_)
      · have h3 : 32 ≤ y := h3
        refine lv_iconst (v := 0) hx hb d_Q_isPlace_21 (by decide) ?_
        exact W.zret (ty := .boolean) hx hb hr rfl (fun t ht hW => ⟨congrArg (fun z => Outcome.returned (some (Value.int z))) (show 0 = qf_Q_isPlace x y from (by unfold qf_Q_isPlace; rw [if_neg h1, if_neg h2, if_pos h3])), ht⟩) (fun _ h => absurd h List.not_mem_nil) d_Q_isPlace_22
      · have h3 : ¬ (32 ≤ y) := h3
        refine lv_iconst (v := 1) hx hb d_Q_isPlace_17 (by decide) ?_
        refine lv_goto (tgt := 22) hx hb d_Q_isPlace_18 (by decide) ?_
        exact W.zret (ty := .boolean) hx hb hr rfl (fun t ht hW => ⟨congrArg (fun z => Outcome.returned (some (Value.int z))) (show 1 = qf_Q_isPlace x y from (by unfold qf_Q_isPlace; rw [if_neg h1, if_neg h2, if_neg h3])), ht⟩) (fun _ h => absurd h List.not_mem_nil) d_Q_isPlace_22
def qf_Q_isDataOffset (x : Int32) : Int32 :=
  if x < 0 then 0
  else if 16 ≤ x then 0
  else 1
set_option maxHeartbeats 4000000 in
set_option maxRecDepth 100000 in
theorem c_Q_isDataOffset (l : Launch) (D : va_G) (cA : ClassId) (x : Int32) : Met l y_Q_isDataOffset (Cond.code y_Q_isDataOffset b_Q_isDataOffset 1 (some .boolean) :: qx_T) ({ frames := 0, cells := 0, slots := 0, locals := 0 }) (qx_Pc D vwCl [(cA, .int)] ([]) [.int x]) (k2_QcV (.int (qf_Q_isDataOffset x))) 0 0 (fun _ => False) := by
  refine Met.ofW (cc := b_Q_isDataOffset) (maxL := 1) (ret := (some .boolean)) (by decide) rfl ?_
  intro p e s m args below meth c s₁ B hml hv
  obtain ⟨rfl, hP, hK, hN, hD0⟩ := hv
  have hx := B.exec
  have hb := B.bytes
  have hr := B.returns
  have hts0 := atoms_spec (ws := Cond.code y_Q_isDataOffset b_Q_isDataOffset 1 (some .boolean) :: qx_T) B.pre
  have hts := fun w h => hts0 w (List.mem_cons_of_mem _ h)
  have hown : s.vm.findClass R_Q = some m.cls := findClass_of_methodNamed B.named
  have hlocks := B.notSynchronized
  have hD : va_D (qx_ad ([])) ([]) := ⟨hD0.1, fun k q hk => ⟨k, q.2, hk⟩⟩
  generalize hAe : qx_ad ([]) = A at hD
  have hS : va_S A s.heap s.heap [] := va_S.rf
  have hl := lv_entry ([.int x]) (n := 1) (Nat.le_of_ble_eq_true rfl)
  rw [lg_entry_eq]
  generalize (lg_sl ([.int x]) ++ List.replicate (1 - (lg_sl ([.int x])).length) Slot.unset).toArray = ls at hl ⊢
  have hl : lv_has ls 1 [(0, .int x)] := hl
  refine lv_iload_n hx hb d_Q_isDataOffset_0 rfl (lv_at hl 0 rfl) ?_
  refine lv_if_lt (tgt := 14) hx hb d_Q_isDataOffset_1 (by decide) (fun h1 => ?_) (fun h1 => ?_)
  · have h1 : x < 0 := h1
    refine lv_iconst (v := 0) hx hb d_Q_isDataOffset_14 (by decide) ?_
    exact W.zret (ty := .boolean) hx hb hr rfl (fun t ht hW => ⟨congrArg (fun z => Outcome.returned (some (Value.int z))) (show 0 = qf_Q_isDataOffset x from (by unfold qf_Q_isDataOffset; rw [if_pos h1])), ht⟩) (fun _ h => absurd h List.not_mem_nil) d_Q_isDataOffset_15
  · have h1 : ¬ (x < 0) := h1
    refine lv_iload_n hx hb d_Q_isDataOffset_4 rfl (lv_at hl 0 rfl) ?_
    refine lv_bipush (v := 16) hx hb d_Q_isDataOffset_5 (by decide) ?_
    refine lv_icmp_ge (tgt := 14) hx hb d_Q_isDataOffset_7 (by decide) (fun h2 => ?_) (fun h2 => ?_)
    · have h2 : 16 ≤ x := h2
      refine lv_iconst (v := 0) hx hb d_Q_isDataOffset_14 (by decide) ?_
      exact W.zret (ty := .boolean) hx hb hr rfl (fun t ht hW => ⟨congrArg (fun z => Outcome.returned (some (Value.int z))) (show 0 = qf_Q_isDataOffset x from (by unfold qf_Q_isDataOffset; rw [if_neg h1, if_pos h2])), ht⟩) (fun _ h => absurd h List.not_mem_nil) d_Q_isDataOffset_15
    · have h2 : ¬ (16 ≤ x) := h2
      refine lv_iconst (v := 1) hx hb d_Q_isDataOffset_10 (by decide) ?_
      refine lv_goto (tgt := 15) hx hb d_Q_isDataOffset_11 (by decide) ?_
      exact W.zret (ty := .boolean) hx hb hr rfl (fun t ht hW => ⟨congrArg (fun z => Outcome.returned (some (Value.int z))) (show 1 = qf_Q_isDataOffset x from (by unfold qf_Q_isDataOffset; rw [if_neg h1, if_neg h2])), ht⟩) (fun _ h => absurd h List.not_mem_nil) d_Q_isDataOffset_15
def qf_Q_isRegister (x : Int32) : Int32 :=
  if x < 0 then 0
  else if 8 ≤ x then 0
  else 1
set_option maxHeartbeats 4000000 in
set_option maxRecDepth 100000 in
theorem c_Q_isRegister (l : Launch) (D : va_G) (cA : ClassId) (x : Int32) : Met l y_Q_isRegister (Cond.code y_Q_isRegister b_Q_isRegister 1 (some .boolean) :: qx_T) ({ frames := 0, cells := 0, slots := 0, locals := 0 }) (qx_Pc D vwCl [(cA, .int)] ([]) [.int x]) (k2_QcV (.int (qf_Q_isRegister x))) 0 0 (fun _ => False) := by
  refine Met.ofW (cc := b_Q_isRegister) (maxL := 1) (ret := (some .boolean)) (by decide) rfl ?_
  intro p e s m args below meth c s₁ B hml hv
  obtain ⟨rfl, hP, hK, hN, hD0⟩ := hv
  have hx := B.exec
  have hb := B.bytes
  have hr := B.returns
  have hts0 := atoms_spec (ws := Cond.code y_Q_isRegister b_Q_isRegister 1 (some .boolean) :: qx_T) B.pre
  have hts := fun w h => hts0 w (List.mem_cons_of_mem _ h)
  have hown : s.vm.findClass R_Q = some m.cls := findClass_of_methodNamed B.named
  have hlocks := B.notSynchronized
  have hD : va_D (qx_ad ([])) ([]) := ⟨hD0.1, fun k q hk => ⟨k, q.2, hk⟩⟩
  generalize hAe : qx_ad ([]) = A at hD
  have hS : va_S A s.heap s.heap [] := va_S.rf
  have hl := lv_entry ([.int x]) (n := 1) (Nat.le_of_ble_eq_true rfl)
  rw [lg_entry_eq]
  generalize (lg_sl ([.int x]) ++ List.replicate (1 - (lg_sl ([.int x])).length) Slot.unset).toArray = ls at hl ⊢
  have hl : lv_has ls 1 [(0, .int x)] := hl
  refine lv_iload_n hx hb d_Q_isRegister_0 rfl (lv_at hl 0 rfl) ?_
  refine lv_if_lt (tgt := 14) hx hb d_Q_isRegister_1 (by decide) (fun h1 => ?_) (fun h1 => ?_)
  · have h1 : x < 0 := h1
    refine lv_iconst (v := 0) hx hb d_Q_isRegister_14 (by decide) ?_
    exact W.zret (ty := .boolean) hx hb hr rfl (fun t ht hW => ⟨congrArg (fun z => Outcome.returned (some (Value.int z))) (show 0 = qf_Q_isRegister x from (by unfold qf_Q_isRegister; rw [if_pos h1])), ht⟩) (fun _ h => absurd h List.not_mem_nil) d_Q_isRegister_15
  · have h1 : ¬ (x < 0) := h1
    refine lv_iload_n hx hb d_Q_isRegister_4 rfl (lv_at hl 0 rfl) ?_
    refine lv_bipush (v := 8) hx hb d_Q_isRegister_5 (by decide) ?_
    refine lv_icmp_ge (tgt := 14) hx hb d_Q_isRegister_7 (by decide) (fun h2 => ?_) (fun h2 => ?_)
    · have h2 : 8 ≤ x := h2
      refine lv_iconst (v := 0) hx hb d_Q_isRegister_14 (by decide) ?_
      exact W.zret (ty := .boolean) hx hb hr rfl (fun t ht hW => ⟨congrArg (fun z => Outcome.returned (some (Value.int z))) (show 0 = qf_Q_isRegister x from (by unfold qf_Q_isRegister; rw [if_neg h1, if_pos h2])), ht⟩) (fun _ h => absurd h List.not_mem_nil) d_Q_isRegister_15
    · have h2 : ¬ (8 ≤ x) := h2
      refine lv_iconst (v := 1) hx hb d_Q_isRegister_10 (by decide) ?_
      refine lv_goto (tgt := 15) hx hb d_Q_isRegister_11 (by decide) ?_
      exact W.zret (ty := .boolean) hx hb hr rfl (fun t ht hW => ⟨congrArg (fun z => Outcome.returned (some (Value.int z))) (show 1 = qf_Q_isRegister x from (by unfold qf_Q_isRegister; rw [if_neg h1, if_neg h2])), ht⟩) (fun _ h => absurd h List.not_mem_nil) d_Q_isRegister_15
def qf_Q_isSpaceRegister (x : Int32) : Int32 :=
  if x < 0 then 0
  else if 4 ≤ x then 0
  else 1
set_option maxHeartbeats 4000000 in
set_option maxRecDepth 100000 in
theorem c_Q_isSpaceRegister (l : Launch) (D : va_G) (cA : ClassId) (x : Int32) : Met l y_Q_isSpaceRegister (Cond.code y_Q_isSpaceRegister b_Q_isSpaceRegister 1 (some .boolean) :: qx_T) ({ frames := 0, cells := 0, slots := 0, locals := 0 }) (qx_Pc D vwCl [(cA, .int)] ([]) [.int x]) (k2_QcV (.int (qf_Q_isSpaceRegister x))) 0 0 (fun _ => False) := by
  refine Met.ofW (cc := b_Q_isSpaceRegister) (maxL := 1) (ret := (some .boolean)) (by decide) rfl ?_
  intro p e s m args below meth c s₁ B hml hv
  obtain ⟨rfl, hP, hK, hN, hD0⟩ := hv
  have hx := B.exec
  have hb := B.bytes
  have hr := B.returns
  have hts0 := atoms_spec (ws := Cond.code y_Q_isSpaceRegister b_Q_isSpaceRegister 1 (some .boolean) :: qx_T) B.pre
  have hts := fun w h => hts0 w (List.mem_cons_of_mem _ h)
  have hown : s.vm.findClass R_Q = some m.cls := findClass_of_methodNamed B.named
  have hlocks := B.notSynchronized
  have hD : va_D (qx_ad ([])) ([]) := ⟨hD0.1, fun k q hk => ⟨k, q.2, hk⟩⟩
  generalize hAe : qx_ad ([]) = A at hD
  have hS : va_S A s.heap s.heap [] := va_S.rf
  have hl := lv_entry ([.int x]) (n := 1) (Nat.le_of_ble_eq_true rfl)
  rw [lg_entry_eq]
  generalize (lg_sl ([.int x]) ++ List.replicate (1 - (lg_sl ([.int x])).length) Slot.unset).toArray = ls at hl ⊢
  have hl : lv_has ls 1 [(0, .int x)] := hl
  refine lv_iload_n hx hb d_Q_isSpaceRegister_0 rfl (lv_at hl 0 rfl) ?_
  refine lv_if_lt (tgt := 13) hx hb d_Q_isSpaceRegister_1 (by decide) (fun h1 => ?_) (fun h1 => ?_)
  · have h1 : x < 0 := h1
    refine lv_iconst (v := 0) hx hb d_Q_isSpaceRegister_13 (by decide) ?_
    exact W.zret (ty := .boolean) hx hb hr rfl (fun t ht hW => ⟨congrArg (fun z => Outcome.returned (some (Value.int z))) (show 0 = qf_Q_isSpaceRegister x from (by unfold qf_Q_isSpaceRegister; rw [if_pos h1])), ht⟩) (fun _ h => absurd h List.not_mem_nil) d_Q_isSpaceRegister_14
  · have h1 : ¬ (x < 0) := h1
    refine lv_iload_n hx hb d_Q_isSpaceRegister_4 rfl (lv_at hl 0 rfl) ?_
    refine lv_iconst (v := 4) hx hb d_Q_isSpaceRegister_5 (by decide) ?_
    refine lv_icmp_ge (tgt := 13) hx hb d_Q_isSpaceRegister_6 (by decide) (fun h2 => ?_) (fun h2 => ?_)
    · have h2 : 4 ≤ x := h2
      refine lv_iconst (v := 0) hx hb d_Q_isSpaceRegister_13 (by decide) ?_
      exact W.zret (ty := .boolean) hx hb hr rfl (fun t ht hW => ⟨congrArg (fun z => Outcome.returned (some (Value.int z))) (show 0 = qf_Q_isSpaceRegister x from (by unfold qf_Q_isSpaceRegister; rw [if_neg h1, if_pos h2])), ht⟩) (fun _ h => absurd h List.not_mem_nil) d_Q_isSpaceRegister_14
    · have h2 : ¬ (4 ≤ x) := h2
      refine lv_iconst (v := 1) hx hb d_Q_isSpaceRegister_9 (by decide) ?_
      refine lv_goto (tgt := 14) hx hb d_Q_isSpaceRegister_10 (by decide) ?_
      exact W.zret (ty := .boolean) hx hb hr rfl (fun t ht hW => ⟨congrArg (fun z => Outcome.returned (some (Value.int z))) (show 1 = qf_Q_isSpaceRegister x from (by unfold qf_Q_isSpaceRegister; rw [if_neg h1, if_neg h2])), ht⟩) (fun _ h => absurd h List.not_mem_nil) d_Q_isSpaceRegister_14
def qf_Q_dataIndex (x : Int32) (y : Int32) : Int32 :=
  ((x * 16) + y)
set_option maxHeartbeats 4000000 in
set_option maxRecDepth 100000 in
theorem c_Q_dataIndex (l : Launch) (D : va_G) (cA : ClassId) (x : Int32) (y : Int32) : Met l y_Q_dataIndex (Cond.code y_Q_dataIndex b_Q_dataIndex 2 (some .int) :: qx_T) ({ frames := 0, cells := 0, slots := 0, locals := 0 }) (qx_Pc D vwCl [(cA, .int)] ([]) [.int x, .int y]) (k2_QcV (.int (qf_Q_dataIndex x y))) 0 0 (fun _ => False) := by
  refine Met.ofW (cc := b_Q_dataIndex) (maxL := 2) (ret := (some .int)) (by decide) rfl ?_
  intro p e s m args below meth c s₁ B hml hv
  obtain ⟨rfl, hP, hK, hN, hD0⟩ := hv
  have hx := B.exec
  have hb := B.bytes
  have hr := B.returns
  have hts0 := atoms_spec (ws := Cond.code y_Q_dataIndex b_Q_dataIndex 2 (some .int) :: qx_T) B.pre
  have hts := fun w h => hts0 w (List.mem_cons_of_mem _ h)
  have hown : s.vm.findClass R_Q = some m.cls := findClass_of_methodNamed B.named
  have hlocks := B.notSynchronized
  have hD : va_D (qx_ad ([])) ([]) := ⟨hD0.1, fun k q hk => ⟨k, q.2, hk⟩⟩
  generalize hAe : qx_ad ([]) = A at hD
  have hS : va_S A s.heap s.heap [] := va_S.rf
  have hl := lv_entry ([.int x, .int y]) (n := 2) (Nat.le_of_ble_eq_true rfl)
  rw [lg_entry_eq]
  generalize (lg_sl ([.int x, .int y]) ++ List.replicate (2 - (lg_sl ([.int x, .int y])).length) Slot.unset).toArray = ls at hl ⊢
  have hl : lv_has ls 2 [(0, .int x), (1, .int y)] := hl
  refine lv_iload_n hx hb d_Q_dataIndex_0 rfl (lv_at hl 0 rfl) ?_
  refine lv_bipush (v := 16) hx hb d_Q_dataIndex_1 (by decide) ?_
  refine lv_imul hx hb d_Q_dataIndex_3 ?_
  refine lv_iload_n hx hb d_Q_dataIndex_4 rfl (lv_at hl 1 rfl) ?_
  refine lv_iadd hx hb d_Q_dataIndex_5 ?_
  exact W.iret hx hb hr (fun t ht hW => ⟨congrArg (fun z => Outcome.returned (some (Value.int z))) (show ((x * 16) + y) = qf_Q_dataIndex x y from rfl), ht⟩) (fun _ h => absurd h List.not_mem_nil) d_Q_dataIndex_6
def qf_F_init (st : qs_F) : qs_F :=
  (qm_F_l (qm_F_n (qm_F_b (qm_F_a st 0) 0) 0) 0)
set_option maxHeartbeats 4000000 in
set_option maxRecDepth 100000 in
theorem c_F_init (l : Launch) (D : va_G) (cA : ClassId) (fh : Nat) (st : qs_F) : Met l y_F_init (Cond.code y_F_init b_F_init 1 none :: qx_T) ({ frames := 1, cells := 0, slots := 0, locals := 20 }) (qx_Pc D vwCl [(cA, .int)] (qw_F fh st) [.ref fh]) (qx_Q D vwCl (qw_F fh (qf_F_init st)) (qx_ad (qw_F fh st)) none) 0 0 (qx_ad (qw_F fh st)) := by
  refine Met.ofW (cc := b_F_init) (maxL := 1) (ret := none) (by decide) rfl ?_
  intro p e s m args below meth c s₁ B hml hv
  obtain ⟨rfl, hP, hK, hN, hD0⟩ := hv
  have hx := B.exec
  have hb := B.bytes
  have hr := B.returns
  have hts0 := atoms_spec (ws := Cond.code y_F_init b_F_init 1 none :: qx_T) B.pre
  have hts := fun w h => hts0 w (List.mem_cons_of_mem _ h)
  have hown : s.vm.findClass R_F = some m.cls := findClass_of_methodNamed B.named
  have hlocks := B.notSynchronized
  have hD : va_D (qx_ad (qw_F fh st)) (qw_F fh st) := ⟨hD0.1, fun k q hk => ⟨k, q.2, hk⟩⟩
  generalize hAe : qx_ad (qw_F fh st) = A at hD ⊢
  have hS : va_S A s.heap s.heap [] := va_S.rf
  have hl := lv_entry ([.ref fh]) (n := 1) (Nat.le_of_ble_eq_true rfl)
  rw [lg_entry_eq]
  generalize (lg_sl ([.ref fh]) ++ List.replicate (1 - (lg_sl ([.ref fh])).length) Slot.unset).toArray = ls at hl ⊢
  have hl : lv_has ls 1 [(0, .ref fh)] := hl
  refine lv_aload_n hx hb d_F_init_0 rfl (lv_at hl 0 rfl) ?_
  refine W.objInit hx hb hown (hts (Cond.methodLink R_F 1 objectInit) mw_56) (hts (.instanceMethod objectInit) mw_43) (hts (.code objectInit ⟨#[0xb1]⟩ 1 none) mw_44) rfl (by rw [hml]; exact hl.1) rfl d_F_init_1 (Nat.le_of_ble_eq_true rfl) (Nat.le_of_ble_eq_true rfl) ?_
  refine W.eq (g2 := F0 m 4 ls []) rfl ?_
  refine lv_aload_n hx hb d_F_init_4 rfl (lv_at hl 0 rfl) ?_
  refine lv_iconst (v := 0) hx hb d_F_init_5 (by decide) ?_
  refine va_put (D := D) (ci := 2) (v := .int 0) (ty := .int) (C := R_F) (T := T_F) (N := 4) hx hb hts in_F ty_F tyok_F nm_F hown hK hP hD hS 0 rfl rfl 0 (by decide) (hts (Cond.fieldLink R_F 7 "QueuedFronts$Flow" "front" "I") mw_57) (fun _ h9 => h9) rfl (by decide +kernel) rfl rfl (Nat.le_of_ble_eq_true rfl) d_F_init_6 (fun H locs hP hD hS => ?_)
  have hP : va_P D vwCl (qw_F fh (qm_F_a st 0)) H := hP
  have hD : va_D A (qw_F fh (qm_F_a st 0)) := hD
  refine lv_aload_n hx hb d_F_init_9 rfl (lv_at hl 0 rfl) ?_
  refine lv_iconst (v := 0) hx hb d_F_init_10 (by decide) ?_
  refine va_put (D := D) (ci := 2) (v := .int 0) (ty := .int) (C := R_F) (T := T_F) (N := 4) hx hb hts in_F ty_F tyok_F nm_F hown hK hP hD hS 0 rfl rfl 1 (by decide) (hts (Cond.fieldLink R_F 13 "QueuedFronts$Flow" "back" "I") mw_60) (fun _ h9 => h9) rfl (by decide +kernel) rfl rfl (Nat.le_of_ble_eq_true rfl) d_F_init_11 (fun H locs hP hD hS => ?_)
  have hP : va_P D vwCl (qw_F fh (qm_F_b (qm_F_a st 0) 0)) H := hP
  have hD : va_D A (qw_F fh (qm_F_b (qm_F_a st 0) 0)) := hD
  refine lv_aload_n hx hb d_F_init_14 rfl (lv_at hl 0 rfl) ?_
  refine lv_iconst (v := 0) hx hb d_F_init_15 (by decide) ?_
  refine va_put (D := D) (ci := 2) (v := .int 0) (ty := .int) (C := R_F) (T := T_F) (N := 4) hx hb hts in_F ty_F tyok_F nm_F hown hK hP hD hS 0 rfl rfl 2 (by decide) (hts (Cond.fieldLink R_F 16 "QueuedFronts$Flow" "nullify" "I") mw_63) (fun _ h9 => h9) rfl (by decide +kernel) rfl rfl (Nat.le_of_ble_eq_true rfl) d_F_init_16 (fun H locs hP hD hS => ?_)
  have hP : va_P D vwCl (qw_F fh (qm_F_n (qm_F_b (qm_F_a st 0) 0) 0)) H := hP
  have hD : va_D A (qw_F fh (qm_F_n (qm_F_b (qm_F_a st 0) 0) 0)) := hD
  refine lv_aload_n hx hb d_F_init_19 rfl (lv_at hl 0 rfl) ?_
  refine lv_iconst (v := 0) hx hb d_F_init_20 (by decide) ?_
  refine va_put (D := D) (ci := 2) (v := .int 0) (ty := .int) (C := R_F) (T := T_F) (N := 4) hx hb hts in_F ty_F tyok_F nm_F hown hK hP hD hS 0 rfl rfl 3 (by decide) (hts (Cond.fieldLink R_F 19 "QueuedFronts$Flow" "lets" "I") mw_66) (fun _ h9 => h9) rfl (by decide +kernel) rfl rfl (Nat.le_of_ble_eq_true rfl) d_F_init_21 (fun H locs hP hD hS => ?_)
  have hP : va_P D vwCl (qw_F fh (qm_F_l (qm_F_n (qm_F_b (qm_F_a st 0) 0) 0) 0)) H := hP
  have hD : va_D A (qw_F fh (qm_F_l (qm_F_n (qm_F_b (qm_F_a st 0) 0) 0) 0)) := hD
  have e9 : (qm_F_l (qm_F_n (qm_F_b (qm_F_a st 0) 0) 0) 0) = qf_F_init st := rfl
  exact W.vret hx hb hr (fun t ht hW => ⟨rfl, (by rw [ht, ← e9]; exact hP), hS.F ht⟩) hS.2.2 d_F_init_24
def qf_F_startAt (st : qs_F) (x : Int32) (y : Int32) : qs_F :=
  (qm_F_l (qm_F_n (qm_F_b (qm_F_a st x) (qf_Pl_behind x)) 0) y)
set_option maxHeartbeats 4000000 in
set_option maxRecDepth 100000 in
theorem c_F_startAt (l : Launch) (D : va_G) (cA : ClassId) (fh : Nat) (st : qs_F) (x : Int32) (y : Int32) : Met l y_F_startAt (Cond.code y_F_startAt b_F_startAt 3 none :: qx_T) ({ frames := 2, cells := 0, slots := 0, locals := 41 }) (qx_Pc D vwCl [(cA, .int)] (qw_F fh st) [.ref fh, .int x, .int y]) (qx_Q D vwCl (qw_F fh (qf_F_startAt st x y)) (qx_ad (qw_F fh st)) none) 0 0 (qx_ad (qw_F fh st)) := by
  refine Met.ofW (cc := b_F_startAt) (maxL := 3) (ret := none) (by decide) rfl ?_
  intro p e s m args below meth c s₁ B hml hv
  obtain ⟨rfl, hP, hK, hN, hD0⟩ := hv
  have hx := B.exec
  have hb := B.bytes
  have hr := B.returns
  have hts0 := atoms_spec (ws := Cond.code y_F_startAt b_F_startAt 3 none :: qx_T) B.pre
  have hts := fun w h => hts0 w (List.mem_cons_of_mem _ h)
  have hown : s.vm.findClass R_F = some m.cls := findClass_of_methodNamed B.named
  have hlocks := B.notSynchronized
  have hD : va_D (qx_ad (qw_F fh st)) (qw_F fh st) := ⟨hD0.1, fun k q hk => ⟨k, q.2, hk⟩⟩
  generalize hAe : qx_ad (qw_F fh st) = A at hD ⊢
  have hS : va_S A s.heap s.heap [] := va_S.rf
  have hl := lv_entry ([.ref fh, .int x, .int y]) (n := 3) (Nat.le_of_ble_eq_true rfl)
  rw [lg_entry_eq]
  generalize (lg_sl ([.ref fh, .int x, .int y]) ++ List.replicate (3 - (lg_sl ([.ref fh, .int x, .int y])).length) Slot.unset).toArray = ls at hl ⊢
  have hl : lv_has ls 3 [(0, .ref fh), (1, .int x), (2, .int y)] := hl
  refine lv_aload_n hx hb d_F_startAt_0 rfl (lv_at hl 0 rfl) ?_
  refine lv_iload_n hx hb d_F_startAt_1 rfl (lv_at hl 1 rfl) ?_
  refine va_put (D := D) (ci := 2) (v := .int x) (ty := .int) (C := R_F) (T := T_F) (N := 4) hx hb hts in_F ty_F tyok_F nm_F hown hK hP hD hS 0 rfl rfl 0 (by decide) (hts (Cond.fieldLink R_F 7 "QueuedFronts$Flow" "front" "I") mw_57) (fun _ h9 => h9) rfl (by decide +kernel) rfl rfl (Nat.le_of_ble_eq_true rfl) d_F_startAt_2 (fun H locs hP hD hS => ?_)
  have hP : va_P D vwCl (qw_F fh (qm_F_a st x)) H := hP
  have hD : va_D A (qw_F fh (qm_F_a st x)) := hD
  refine lv_aload_n hx hb d_F_startAt_5 rfl (lv_at hl 0 rfl) ?_
  refine lv_iload_n hx hb d_F_startAt_6 rfl (lv_at hl 1 rfl) ?_
  refine qx_rd (va_runS (As := [.int x]) (rest := [.ref fh]) ⟨hx, hb, hml, hown, hts⟩ (c_Pl_behind l D cA x) (qx_kS hts mw_83 mw_84 mw_32 mw_85 cd_Pl_behind ⟨Nat.le_of_ble_eq_true rfl, Nat.le_of_ble_eq_true rfl⟩) (qx_preS hP hD hK hN [] rfl rfl) rfl rfl hl.1 rfl (lv_room (Nat.le_of_ble_eq_true rfl)) d_F_startAt_7 ⟨Nat.zero_le _, Nat.zero_le _⟩) ?_
  refine va_put (D := D) (ci := 2) (v := .int (qf_Pl_behind x)) (ty := .int) (C := R_F) (T := T_F) (N := 4) hx hb hts in_F ty_F tyok_F nm_F hown hK hP hD hS 0 rfl rfl 1 (by decide) (hts (Cond.fieldLink R_F 13 "QueuedFronts$Flow" "back" "I") mw_60) (fun _ h9 => h9) rfl (by decide +kernel) rfl rfl (Nat.le_of_ble_eq_true rfl) d_F_startAt_10 (fun H locs hP hD hS => ?_)
  have hP : va_P D vwCl (qw_F fh (qm_F_b (qm_F_a st x) (qf_Pl_behind x))) H := hP
  have hD : va_D A (qw_F fh (qm_F_b (qm_F_a st x) (qf_Pl_behind x))) := hD
  refine lv_aload_n hx hb d_F_startAt_13 rfl (lv_at hl 0 rfl) ?_
  refine lv_iconst (v := 0) hx hb d_F_startAt_14 (by decide) ?_
  refine va_put (D := D) (ci := 2) (v := .int 0) (ty := .int) (C := R_F) (T := T_F) (N := 4) hx hb hts in_F ty_F tyok_F nm_F hown hK hP hD hS 0 rfl rfl 2 (by decide) (hts (Cond.fieldLink R_F 16 "QueuedFronts$Flow" "nullify" "I") mw_63) (fun _ h9 => h9) rfl (by decide +kernel) rfl rfl (Nat.le_of_ble_eq_true rfl) d_F_startAt_15 (fun H locs hP hD hS => ?_)
  have hP : va_P D vwCl (qw_F fh (qm_F_n (qm_F_b (qm_F_a st x) (qf_Pl_behind x)) 0)) H := hP
  have hD : va_D A (qw_F fh (qm_F_n (qm_F_b (qm_F_a st x) (qf_Pl_behind x)) 0)) := hD
  refine lv_aload_n hx hb d_F_startAt_18 rfl (lv_at hl 0 rfl) ?_
  refine lv_iload_n hx hb d_F_startAt_19 rfl (lv_at hl 2 rfl) ?_
  refine va_put (D := D) (ci := 2) (v := .int y) (ty := .int) (C := R_F) (T := T_F) (N := 4) hx hb hts in_F ty_F tyok_F nm_F hown hK hP hD hS 0 rfl rfl 3 (by decide) (hts (Cond.fieldLink R_F 19 "QueuedFronts$Flow" "lets" "I") mw_66) (fun _ h9 => h9) rfl (by decide +kernel) rfl rfl (Nat.le_of_ble_eq_true rfl) d_F_startAt_20 (fun H locs hP hD hS => ?_)
  have hP : va_P D vwCl (qw_F fh (qm_F_l (qm_F_n (qm_F_b (qm_F_a st x) (qf_Pl_behind x)) 0) y)) H := hP
  have hD : va_D A (qw_F fh (qm_F_l (qm_F_n (qm_F_b (qm_F_a st x) (qf_Pl_behind x)) 0) y)) := hD
  have e9 : (qm_F_l (qm_F_n (qm_F_b (qm_F_a st x) (qf_Pl_behind x)) 0) y) = qf_F_startAt st x y := rfl
  exact W.vret hx hb hr (fun t ht hW => ⟨rfl, (by rw [ht, ← e9]; exact hP), hS.F ht⟩) hS.2.2 d_F_startAt_23
def qf_F_moveOnTo (st : qs_F) (x : Int32) (y : Int32) : qs_F :=
  if y = 0 then (qm_F_n (qm_F_b (qm_F_a st st.2.1) x) 0)
  else (qm_F_n (qm_F_b (qm_F_a st st.2.1) x) 1)
set_option maxHeartbeats 4000000 in
set_option maxRecDepth 100000 in
theorem c_F_moveOnTo (l : Launch) (D : va_G) (cA : ClassId) (fh : Nat) (st : qs_F) (x : Int32) (y : Int32) : Met l y_F_moveOnTo (Cond.code y_F_moveOnTo b_F_moveOnTo 3 none :: qx_T) ({ frames := 0, cells := 0, slots := 0, locals := 0 }) (qx_Pc D vwCl [(cA, .int)] (qw_F fh st) [.ref fh, .int x, .int y]) (qx_Q D vwCl (qw_F fh (qf_F_moveOnTo st x y)) (qx_ad (qw_F fh st)) none) 0 0 (qx_ad (qw_F fh st)) := by
  refine Met.ofW (cc := b_F_moveOnTo) (maxL := 3) (ret := none) (by decide) rfl ?_
  intro p e s m args below meth c s₁ B hml hv
  obtain ⟨rfl, hP, hK, hN, hD0⟩ := hv
  have hx := B.exec
  have hb := B.bytes
  have hr := B.returns
  have hts0 := atoms_spec (ws := Cond.code y_F_moveOnTo b_F_moveOnTo 3 none :: qx_T) B.pre
  have hts := fun w h => hts0 w (List.mem_cons_of_mem _ h)
  have hown : s.vm.findClass R_F = some m.cls := findClass_of_methodNamed B.named
  have hlocks := B.notSynchronized
  have hD : va_D (qx_ad (qw_F fh st)) (qw_F fh st) := ⟨hD0.1, fun k q hk => ⟨k, q.2, hk⟩⟩
  generalize hAe : qx_ad (qw_F fh st) = A at hD ⊢
  have hS : va_S A s.heap s.heap [] := va_S.rf
  have hl := lv_entry ([.ref fh, .int x, .int y]) (n := 3) (Nat.le_of_ble_eq_true rfl)
  rw [lg_entry_eq]
  generalize (lg_sl ([.ref fh, .int x, .int y]) ++ List.replicate (3 - (lg_sl ([.ref fh, .int x, .int y])).length) Slot.unset).toArray = ls at hl ⊢
  have hl : lv_has ls 3 [(0, .ref fh), (1, .int x), (2, .int y)] := hl
  refine lv_aload_n hx hb d_F_moveOnTo_0 rfl (lv_at hl 0 rfl) ?_
  refine lv_aload_n hx hb d_F_moveOnTo_1 rfl (lv_at hl 0 rfl) ?_
  refine va_get (D := D) (ci := 2) (v := .int st.2.1) (C := R_F) (T := T_F) (N := 4) hx hb hts in_F hown hK hP 0 rfl rfl 1 (by decide) (hts (Cond.fieldLink R_F 13 "QueuedFronts$Flow" "back" "I") mw_60) (fun _ h9 => h9) rfl d_F_moveOnTo_2 ?_
  refine va_put (D := D) (ci := 2) (v := .int st.2.1) (ty := .int) (C := R_F) (T := T_F) (N := 4) hx hb hts in_F ty_F tyok_F nm_F hown hK hP hD hS 0 rfl rfl 0 (by decide) (hts (Cond.fieldLink R_F 7 "QueuedFronts$Flow" "front" "I") mw_57) (fun _ h9 => h9) rfl (by decide +kernel) rfl rfl (Nat.le_of_ble_eq_true rfl) d_F_moveOnTo_5 (fun H locs hP hD hS => ?_)
  have hP : va_P D vwCl (qw_F fh (qm_F_a st st.2.1)) H := hP
  have hD : va_D A (qw_F fh (qm_F_a st st.2.1)) := hD
  refine lv_aload_n hx hb d_F_moveOnTo_8 rfl (lv_at hl 0 rfl) ?_
  refine lv_iload_n hx hb d_F_moveOnTo_9 rfl (lv_at hl 1 rfl) ?_
  refine va_put (D := D) (ci := 2) (v := .int x) (ty := .int) (C := R_F) (T := T_F) (N := 4) hx hb hts in_F ty_F tyok_F nm_F hown hK hP hD hS 0 rfl rfl 1 (by decide) (hts (Cond.fieldLink R_F 13 "QueuedFronts$Flow" "back" "I") mw_60) (fun _ h9 => h9) rfl (by decide +kernel) rfl rfl (Nat.le_of_ble_eq_true rfl) d_F_moveOnTo_10 (fun H locs hP hD hS => ?_)
  have hP : va_P D vwCl (qw_F fh (qm_F_b (qm_F_a st st.2.1) x)) H := hP
  have hD : va_D A (qw_F fh (qm_F_b (qm_F_a st st.2.1) x)) := hD
  refine lv_aload_n hx hb d_F_moveOnTo_13 rfl (lv_at hl 0 rfl) ?_
  refine lv_iload_n hx hb d_F_moveOnTo_14 rfl (lv_at hl 2 rfl) ?_
  refine lv_if_eq (tgt := 22) hx hb d_F_moveOnTo_15 (by decide) (fun h1 => ?_) (fun h1 => ?_)
  · have h1 : y = 0 := h1
    refine lv_iconst (v := 0) hx hb d_F_moveOnTo_22 (by decide) ?_
    refine va_put (D := D) (ci := 2) (v := .int 0) (ty := .int) (C := R_F) (T := T_F) (N := 4) hx hb hts in_F ty_F tyok_F nm_F hown hK hP hD hS 0 rfl rfl 2 (by decide) (hts (Cond.fieldLink R_F 16 "QueuedFronts$Flow" "nullify" "I") mw_63) (fun _ h9 => h9) rfl (by decide +kernel) rfl rfl (Nat.le_of_ble_eq_true rfl) d_F_moveOnTo_23 (fun H locs hP hD hS => ?_)
    have hP : va_P D vwCl (qw_F fh (qm_F_n (qm_F_b (qm_F_a st st.2.1) x) 0)) H := hP
    have hD : va_D A (qw_F fh (qm_F_n (qm_F_b (qm_F_a st st.2.1) x) 0)) := hD
    have e9 : (qm_F_n (qm_F_b (qm_F_a st st.2.1) x) 0) = qf_F_moveOnTo st x y := (by unfold qf_F_moveOnTo; rw [if_pos h1])
    exact W.vret hx hb hr (fun t ht hW => ⟨rfl, (by rw [ht, ← e9]; exact hP), hS.F ht⟩) hS.2.2 d_F_moveOnTo_26
  · have h1 : ¬ (y = 0) := h1
    refine lv_iconst (v := 1) hx hb d_F_moveOnTo_18 (by decide) ?_
    refine lv_goto (tgt := 23) hx hb d_F_moveOnTo_19 (by decide) ?_
    refine va_put (D := D) (ci := 2) (v := .int 1) (ty := .int) (C := R_F) (T := T_F) (N := 4) hx hb hts in_F ty_F tyok_F nm_F hown hK hP hD hS 0 rfl rfl 2 (by decide) (hts (Cond.fieldLink R_F 16 "QueuedFronts$Flow" "nullify" "I") mw_63) (fun _ h9 => h9) rfl (by decide +kernel) rfl rfl (Nat.le_of_ble_eq_true rfl) d_F_moveOnTo_23 (fun H locs hP hD hS => ?_)
    have hP : va_P D vwCl (qw_F fh (qm_F_n (qm_F_b (qm_F_a st st.2.1) x) 1)) H := hP
    have hD : va_D A (qw_F fh (qm_F_n (qm_F_b (qm_F_a st st.2.1) x) 1)) := hD
    have e9 : (qm_F_n (qm_F_b (qm_F_a st st.2.1) x) 1) = qf_F_moveOnTo st x y := (by unfold qf_F_moveOnTo; rw [if_neg h1])
    exact W.vret hx hb hr (fun t ht hW => ⟨rfl, (by rw [ht, ← e9]; exact hP), hS.F ht⟩) hS.2.2 d_F_moveOnTo_26
def qf_F_moveOn (st : qs_F) (x : Int32) : qs_F :=
  (qf_F_moveOnTo st (qf_Pl_behind st.2.1) x)
set_option maxHeartbeats 4000000 in
set_option maxRecDepth 100000 in
theorem c_F_moveOn (l : Launch) (D : va_G) (cA : ClassId) (fh : Nat) (st : qs_F) (x : Int32) : Met l y_F_moveOn (Cond.code y_F_moveOn b_F_moveOn 2 none :: qx_T) ({ frames := 2, cells := 0, slots := 0, locals := 41 }) (qx_Pc D vwCl [(cA, .int)] (qw_F fh st) [.ref fh, .int x]) (qx_Q D vwCl (qw_F fh (qf_F_moveOn st x)) (qx_ad (qw_F fh st)) none) 0 0 (qx_ad (qw_F fh st)) := by
  refine Met.ofW (cc := b_F_moveOn) (maxL := 2) (ret := none) (by decide) rfl ?_
  intro p e s m args below meth c s₁ B hml hv
  obtain ⟨rfl, hP, hK, hN, hD0⟩ := hv
  have hx := B.exec
  have hb := B.bytes
  have hr := B.returns
  have hts0 := atoms_spec (ws := Cond.code y_F_moveOn b_F_moveOn 2 none :: qx_T) B.pre
  have hts := fun w h => hts0 w (List.mem_cons_of_mem _ h)
  have hown : s.vm.findClass R_F = some m.cls := findClass_of_methodNamed B.named
  have hlocks := B.notSynchronized
  have hD : va_D (qx_ad (qw_F fh st)) (qw_F fh st) := ⟨hD0.1, fun k q hk => ⟨k, q.2, hk⟩⟩
  generalize hAe : qx_ad (qw_F fh st) = A at hD ⊢
  have hS : va_S A s.heap s.heap [] := va_S.rf
  have hl := lv_entry ([.ref fh, .int x]) (n := 2) (Nat.le_of_ble_eq_true rfl)
  rw [lg_entry_eq]
  generalize (lg_sl ([.ref fh, .int x]) ++ List.replicate (2 - (lg_sl ([.ref fh, .int x])).length) Slot.unset).toArray = ls at hl ⊢
  have hl : lv_has ls 2 [(0, .ref fh), (1, .int x)] := hl
  refine lv_aload_n hx hb d_F_moveOn_0 rfl (lv_at hl 0 rfl) ?_
  refine lv_aload_n hx hb d_F_moveOn_1 rfl (lv_at hl 0 rfl) ?_
  refine va_get (D := D) (ci := 2) (v := .int st.2.1) (C := R_F) (T := T_F) (N := 4) hx hb hts in_F hown hK hP 0 rfl rfl 1 (by decide) (hts (Cond.fieldLink R_F 13 "QueuedFronts$Flow" "back" "I") mw_60) (fun _ h9 => h9) rfl d_F_moveOn_2 ?_
  refine qx_rd (va_runS (As := [.int st.2.1]) (rest := [.ref fh]) ⟨hx, hb, hml, hown, hts⟩ (c_Pl_behind l D cA st.2.1) (qx_kS hts mw_83 mw_84 mw_32 mw_85 cd_Pl_behind ⟨Nat.le_of_ble_eq_true rfl, Nat.le_of_ble_eq_true rfl⟩) (qx_preS hP hD hK hN [] rfl rfl) rfl rfl hl.1 rfl (lv_room (Nat.le_of_ble_eq_true rfl)) d_F_moveOn_5 ⟨Nat.zero_le _, Nat.zero_le _⟩) ?_
  refine lv_iload_n hx hb d_F_moveOn_8 rfl (lv_at hl 1 rfl) ?_
  refine qx_muZ (T := qf_F_moveOnTo st (qf_Pl_behind st.2.1) x) (Wf := fun zz : qs_F => qw_F fh zz) (vf := fun _ => none) (va_runV (As := [.int (qf_Pl_behind st.2.1), .int x]) (rest := []) ⟨hx, hb, hml, hown, hts⟩ (c_F_moveOnTo l D cA fh st (qf_Pl_behind st.2.1) x) (qx_kV hts mw_209 mw_210 mw_211 mw_31 mw_212 cd_F_moveOnTo ⟨Nat.le_of_ble_eq_true rfl, Nat.le_of_ble_eq_true rfl⟩) (qx_preV (q0 := 0) (ci := 2) (q := (R_F, T_F, 4)) hP hD hK hN [0] rfl rfl rfl rfl) rfl rfl hl.1 rfl (lv_room (Nat.le_of_ble_eq_true rfl)) d_F_moveOn_9 ⟨Nat.zero_le _, Nat.zero_le _⟩) hP hD hS [0] rfl rfl [fh] rfl rfl (fun zz1 hzz1 H locs hP hD hS => ?_)
  have hP : va_P D vwCl (qw_F fh zz1) H := hP
  have hD : va_D A (qw_F fh zz1) := hD
  refine W.eq (g2 := F0 m 12 ls []) rfl ?_
  subst hzz1
  have e9 : (qf_F_moveOnTo st (qf_Pl_behind st.2.1) x) = qf_F_moveOn st x := rfl
  exact W.vret hx hb hr (fun t ht hW => ⟨rfl, (by rw [ht, ← e9]; exact hP), hS.F ht⟩) hS.2.2 d_F_moveOn_12
def qf_F_become (st st2 : qs_F) : qs_F :=
  (qm_F_l (qm_F_n (qm_F_b (qm_F_a st st2.1) st2.2.1) st2.2.2.1) st2.2.2.2)
set_option maxHeartbeats 4000000 in
set_option maxRecDepth 100000 in
theorem c_F_become (l : Launch) (D : va_G) (cA : ClassId) (fh fh2 : Nat) (st st2 : qs_F) : Met l y_F_become (Cond.code y_F_become b_F_become 2 none :: qx_T) ({ frames := 0, cells := 0, slots := 0, locals := 0 }) (qx_Pc D vwCl [(cA, .int)] (qw_F fh st ++ qw_F fh2 st2) [.ref fh, .ref fh2]) (qx_Q D vwCl (qw_F fh (qf_F_become st st2) ++ qw_F fh2 st2) (qx_ad (qw_F fh st ++ qw_F fh2 st2)) none) 0 0 (qx_ad (qw_F fh st ++ qw_F fh2 st2)) := by
  refine Met.ofW (cc := b_F_become) (maxL := 2) (ret := none) (by decide) rfl ?_
  intro p e s m args below meth c s₁ B hml hv
  obtain ⟨rfl, hP, hK, hN, hD0⟩ := hv
  have hx := B.exec
  have hb := B.bytes
  have hr := B.returns
  have hts0 := atoms_spec (ws := Cond.code y_F_become b_F_become 2 none :: qx_T) B.pre
  have hts := fun w h => hts0 w (List.mem_cons_of_mem _ h)
  have hown : s.vm.findClass R_F = some m.cls := findClass_of_methodNamed B.named
  have hlocks := B.notSynchronized
  have hD : va_D (qx_ad (qw_F fh st ++ qw_F fh2 st2)) (qw_F fh st ++ qw_F fh2 st2) := ⟨hD0.1, fun k q hk => ⟨k, q.2, hk⟩⟩
  generalize hAe : qx_ad (qw_F fh st ++ qw_F fh2 st2) = A at hD ⊢
  have hS : va_S A s.heap s.heap [] := va_S.rf
  have hl := lv_entry ([.ref fh, .ref fh2]) (n := 2) (Nat.le_of_ble_eq_true rfl)
  rw [lg_entry_eq]
  generalize (lg_sl ([.ref fh, .ref fh2]) ++ List.replicate (2 - (lg_sl ([.ref fh, .ref fh2])).length) Slot.unset).toArray = ls at hl ⊢
  have hl : lv_has ls 2 [(0, .ref fh), (1, .ref fh2)] := hl
  refine lv_aload_n hx hb d_F_become_0 rfl (lv_at hl 0 rfl) ?_
  refine lv_aload_n hx hb d_F_become_1 rfl (lv_at hl 1 rfl) ?_
  refine va_get (D := D) (ci := 2) (v := .int st2.1) (C := R_F) (T := T_F) (N := 4) hx hb hts in_F hown hK hP 1 rfl rfl 0 (by decide) (hts (Cond.fieldLink R_F 7 "QueuedFronts$Flow" "front" "I") mw_57) (fun _ h9 => h9) rfl d_F_become_2 ?_
  refine va_put (D := D) (ci := 2) (v := .int st2.1) (ty := .int) (C := R_F) (T := T_F) (N := 4) hx hb hts in_F ty_F tyok_F nm_F hown hK hP hD hS 0 rfl rfl 0 (by decide) (hts (Cond.fieldLink R_F 7 "QueuedFronts$Flow" "front" "I") mw_57) (fun _ h9 => h9) rfl (by decide +kernel) rfl rfl (Nat.le_of_ble_eq_true rfl) d_F_become_5 (fun H locs hP hD hS => ?_)
  have hP : va_P D vwCl (qw_F fh (qm_F_a st st2.1) ++ qw_F fh2 st2) H := hP
  have hD : va_D A (qw_F fh (qm_F_a st st2.1) ++ qw_F fh2 st2) := hD
  refine lv_aload_n hx hb d_F_become_8 rfl (lv_at hl 0 rfl) ?_
  refine lv_aload_n hx hb d_F_become_9 rfl (lv_at hl 1 rfl) ?_
  refine va_get (D := D) (ci := 2) (v := .int st2.2.1) (C := R_F) (T := T_F) (N := 4) hx hb hts in_F hown hK hP 1 rfl rfl 1 (by decide) (hts (Cond.fieldLink R_F 13 "QueuedFronts$Flow" "back" "I") mw_60) (fun _ h9 => h9) rfl d_F_become_10 ?_
  refine va_put (D := D) (ci := 2) (v := .int st2.2.1) (ty := .int) (C := R_F) (T := T_F) (N := 4) hx hb hts in_F ty_F tyok_F nm_F hown hK hP hD hS 0 rfl rfl 1 (by decide) (hts (Cond.fieldLink R_F 13 "QueuedFronts$Flow" "back" "I") mw_60) (fun _ h9 => h9) rfl (by decide +kernel) rfl rfl (Nat.le_of_ble_eq_true rfl) d_F_become_13 (fun H locs hP hD hS => ?_)
  have hP : va_P D vwCl (qw_F fh (qm_F_b (qm_F_a st st2.1) st2.2.1) ++ qw_F fh2 st2) H := hP
  have hD : va_D A (qw_F fh (qm_F_b (qm_F_a st st2.1) st2.2.1) ++ qw_F fh2 st2) := hD
  refine lv_aload_n hx hb d_F_become_16 rfl (lv_at hl 0 rfl) ?_
  refine lv_aload_n hx hb d_F_become_17 rfl (lv_at hl 1 rfl) ?_
  refine va_get (D := D) (ci := 2) (v := .int st2.2.2.1) (C := R_F) (T := T_F) (N := 4) hx hb hts in_F hown hK hP 1 rfl rfl 2 (by decide) (hts (Cond.fieldLink R_F 16 "QueuedFronts$Flow" "nullify" "I") mw_63) (fun _ h9 => h9) rfl d_F_become_18 ?_
  refine va_put (D := D) (ci := 2) (v := .int st2.2.2.1) (ty := .int) (C := R_F) (T := T_F) (N := 4) hx hb hts in_F ty_F tyok_F nm_F hown hK hP hD hS 0 rfl rfl 2 (by decide) (hts (Cond.fieldLink R_F 16 "QueuedFronts$Flow" "nullify" "I") mw_63) (fun _ h9 => h9) rfl (by decide +kernel) rfl rfl (Nat.le_of_ble_eq_true rfl) d_F_become_21 (fun H locs hP hD hS => ?_)
  have hP : va_P D vwCl (qw_F fh (qm_F_n (qm_F_b (qm_F_a st st2.1) st2.2.1) st2.2.2.1) ++ qw_F fh2 st2) H := hP
  have hD : va_D A (qw_F fh (qm_F_n (qm_F_b (qm_F_a st st2.1) st2.2.1) st2.2.2.1) ++ qw_F fh2 st2) := hD
  refine lv_aload_n hx hb d_F_become_24 rfl (lv_at hl 0 rfl) ?_
  refine lv_aload_n hx hb d_F_become_25 rfl (lv_at hl 1 rfl) ?_
  refine va_get (D := D) (ci := 2) (v := .int st2.2.2.2) (C := R_F) (T := T_F) (N := 4) hx hb hts in_F hown hK hP 1 rfl rfl 3 (by decide) (hts (Cond.fieldLink R_F 19 "QueuedFronts$Flow" "lets" "I") mw_66) (fun _ h9 => h9) rfl d_F_become_26 ?_
  refine va_put (D := D) (ci := 2) (v := .int st2.2.2.2) (ty := .int) (C := R_F) (T := T_F) (N := 4) hx hb hts in_F ty_F tyok_F nm_F hown hK hP hD hS 0 rfl rfl 3 (by decide) (hts (Cond.fieldLink R_F 19 "QueuedFronts$Flow" "lets" "I") mw_66) (fun _ h9 => h9) rfl (by decide +kernel) rfl rfl (Nat.le_of_ble_eq_true rfl) d_F_become_29 (fun H locs hP hD hS => ?_)
  have hP : va_P D vwCl (qw_F fh (qm_F_l (qm_F_n (qm_F_b (qm_F_a st st2.1) st2.2.1) st2.2.2.1) st2.2.2.2) ++ qw_F fh2 st2) H := hP
  have hD : va_D A (qw_F fh (qm_F_l (qm_F_n (qm_F_b (qm_F_a st st2.1) st2.2.1) st2.2.2.1) st2.2.2.2) ++ qw_F fh2 st2) := hD
  have e9 : (qm_F_l (qm_F_n (qm_F_b (qm_F_a st st2.1) st2.2.1) st2.2.2.1) st2.2.2.2) = qf_F_become st st2 := rfl
  exact W.vret hx hb hr (fun t ht hW => ⟨rfl, (by rw [ht, ← e9]; exact hP), hS.F ht⟩) hS.2.2 d_F_become_32
theorem qf_Co_holds_qb (k x y : Int32) : qb (qf_Co_holds k x y) := by
  unfold qf_Co_holds
  repeat' (first | apply qb_ite | exact qb_0 | exact qb_1)
theorem qi_sp {x : Int32} (h : ¬ qf_Q_isSpace x = 0) : vp_in x 4 := qi_ite (c := 4) (by decide) h
theorem qi_dix {x y : Int32} (hx : vp_in x 4) (hy : ¬ qf_Q_isDataOffset y = 0) : vp_in (qf_Q_dataIndex x y) 64 := qi_row 16 64 hx (qi_ite (c := 16) (n := 16) (by decide) hy) (by decide) (by decide) (by decide) (by decide) (by decide) (c := 16) (by decide)
