def qf_X_saved (st : qs_X) (x : Int32) : Int32 :=
  if x = 0 then ((st.1 5) - ((st.1 5) / 32) * 32)
  else if x = 1 then ((st.1 6) - ((st.1 6) / 32) * 32)
  else if x = 2 then ((st.1 5) / 32)
  else if x = 3 then ((st.1 6) / 32)
  else if x = 4 then ((st.1 7) + (2 * (st.1 8)))
  else if x = 5 then (st.1 9)
  else 0
set_option maxHeartbeats 4000000 in
set_option maxRecDepth 100000 in
theorem c_X_saved (l : Launch) (D : va_G) (cA : ClassId) (ad : Nat → Nat) (st : qs_X) (x : Int32) : Met l y_X_saved (Cond.code y_X_saved b_X_saved 2 (some .int) :: qx_T) ({ frames := 0, cells := 0, slots := 0, locals := 0 }) (qx_Pc D vwCl [(cA, .int)] (qw_X ad cA st) [.ref (ad 0), .int x]) (k2_QcV (.int (qf_X_saved st x))) 0 0 (fun _ => False) := by
  refine Met.ofW (cc := b_X_saved) (maxL := 2) (ret := (some .int)) (by decide) rfl ?_
  intro p e s m args below meth c s₁ B hml hv
  obtain ⟨rfl, hP, hK, hN, hD0⟩ := hv
  have hx := B.exec
  have hb := B.bytes
  have hr := B.returns
  have hts0 := atoms_spec (ws := Cond.code y_X_saved b_X_saved 2 (some .int) :: qx_T) B.pre
  have hts := fun w h => hts0 w (List.mem_cons_of_mem _ h)
  have hown : s.vm.findClass R_X = some m.cls := findClass_of_methodNamed B.named
  have hlocks := B.notSynchronized
  have hD : va_D (qx_ad (qw_X ad cA st)) (qw_X ad cA st) := ⟨hD0.1, fun k q hk => ⟨k, q.2, hk⟩⟩
  generalize hAe : qx_ad (qw_X ad cA st) = A at hD
  have hS : va_S A s.heap s.heap [] := va_S.rf
  have hl := lv_entry ([.ref (ad 0), .int x]) (n := 2) (Nat.le_of_ble_eq_true rfl)
  rw [lg_entry_eq]
  generalize (lg_sl ([.ref (ad 0), .int x]) ++ List.replicate (2 - (lg_sl ([.ref (ad 0), .int x])).length) Slot.unset).toArray = ls at hl ⊢
  have hl : lv_has ls 2 [(0, .ref (ad 0)), (1, .int x)] := hl
  refine lv_iload_n hx hb d_X_saved_0 rfl (lv_at hl 1 rfl) ?_
  by_cases h1 : x = 0
  · refine lv_tableIn (tgt := 40) hx hb d_X_saved_1 (by rw [h1]; decide) (by rw [h1]; decide) (by rw [h1]; rfl) (by decide) ?_
    refine lv_aload_n hx hb d_X_saved_40 rfl (lv_at hl 0 rfl) ?_
    refine va_get (D := D) (ci := 3) (v := .ref (ad 1)) (C := R_X) (T := T_X) (N := 8) hx hb hts in_X hown hK hP 0 rfl rfl 0 (by decide) (hts (Cond.fieldLink R_X 7 "QueuedFrontsModel" "now" "[I") mw_370) (fun _ h9 => h9) rfl d_X_saved_41 ?_
    refine lv_iconst (v := 5) hx hb d_X_saved_44 (by decide) ?_
    refine va_iald hx hb hK hP 1 0 rfl rfl (show vp_in (5 : Int32) 86 from qi_lit (by decide)) d_X_saved_45 ?_
    refine lv_bipush (v := 32) hx hb d_X_saved_46 (by decide) ?_
    refine lv_irem hx hb d_X_saved_48 (by decide) ?_
    exact W.iret hx hb hr (fun t ht hW => ⟨congrArg (fun z => Outcome.returned (some (Value.int z))) (show ((st.1 5) - ((st.1 5) / 32) * 32) = qf_X_saved st x from (by unfold qf_X_saved; rw [if_pos h1])), ht⟩) (fun _ h => absurd h List.not_mem_nil) d_X_saved_49
  by_cases h2 : x = 1
  · refine lv_tableIn (tgt := 50) hx hb d_X_saved_1 (by rw [h2]; decide) (by rw [h2]; decide) (by rw [h2]; rfl) (by decide) ?_
    refine lv_aload_n hx hb d_X_saved_50 rfl (lv_at hl 0 rfl) ?_
    refine va_get (D := D) (ci := 3) (v := .ref (ad 1)) (C := R_X) (T := T_X) (N := 8) hx hb hts in_X hown hK hP 0 rfl rfl 0 (by decide) (hts (Cond.fieldLink R_X 7 "QueuedFrontsModel" "now" "[I") mw_370) (fun _ h9 => h9) rfl d_X_saved_51 ?_
    refine lv_bipush (v := 6) hx hb d_X_saved_54 (by decide) ?_
    refine va_iald hx hb hK hP 1 0 rfl rfl (show vp_in (6 : Int32) 86 from qi_lit (by decide)) d_X_saved_56 ?_
    refine lv_bipush (v := 32) hx hb d_X_saved_57 (by decide) ?_
    refine lv_irem hx hb d_X_saved_59 (by decide) ?_
    exact W.iret hx hb hr (fun t ht hW => ⟨congrArg (fun z => Outcome.returned (some (Value.int z))) (show ((st.1 6) - ((st.1 6) / 32) * 32) = qf_X_saved st x from (by unfold qf_X_saved; rw [if_neg h1, if_pos h2])), ht⟩) (fun _ h => absurd h List.not_mem_nil) d_X_saved_60
  by_cases h3 : x = 2
  · refine lv_tableIn (tgt := 61) hx hb d_X_saved_1 (by rw [h3]; decide) (by rw [h3]; decide) (by rw [h3]; rfl) (by decide) ?_
    refine lv_aload_n hx hb d_X_saved_61 rfl (lv_at hl 0 rfl) ?_
    refine va_get (D := D) (ci := 3) (v := .ref (ad 1)) (C := R_X) (T := T_X) (N := 8) hx hb hts in_X hown hK hP 0 rfl rfl 0 (by decide) (hts (Cond.fieldLink R_X 7 "QueuedFrontsModel" "now" "[I") mw_370) (fun _ h9 => h9) rfl d_X_saved_62 ?_
    refine lv_iconst (v := 5) hx hb d_X_saved_65 (by decide) ?_
    refine va_iald hx hb hK hP 1 0 rfl rfl (show vp_in (5 : Int32) 86 from qi_lit (by decide)) d_X_saved_66 ?_
    refine lv_bipush (v := 32) hx hb d_X_saved_67 (by decide) ?_
    refine lv_idiv hx hb d_X_saved_69 (by decide) ?_
    exact W.iret hx hb hr (fun t ht hW => ⟨congrArg (fun z => Outcome.returned (some (Value.int z))) (show ((st.1 5) / 32) = qf_X_saved st x from (by unfold qf_X_saved; rw [if_neg h1, if_neg h2, if_pos h3])), ht⟩) (fun _ h => absurd h List.not_mem_nil) d_X_saved_70
  by_cases h4 : x = 3
  · refine lv_tableIn (tgt := 71) hx hb d_X_saved_1 (by rw [h4]; decide) (by rw [h4]; decide) (by rw [h4]; rfl) (by decide) ?_
    refine lv_aload_n hx hb d_X_saved_71 rfl (lv_at hl 0 rfl) ?_
    refine va_get (D := D) (ci := 3) (v := .ref (ad 1)) (C := R_X) (T := T_X) (N := 8) hx hb hts in_X hown hK hP 0 rfl rfl 0 (by decide) (hts (Cond.fieldLink R_X 7 "QueuedFrontsModel" "now" "[I") mw_370) (fun _ h9 => h9) rfl d_X_saved_72 ?_
    refine lv_bipush (v := 6) hx hb d_X_saved_75 (by decide) ?_
    refine va_iald hx hb hK hP 1 0 rfl rfl (show vp_in (6 : Int32) 86 from qi_lit (by decide)) d_X_saved_77 ?_
    refine lv_bipush (v := 32) hx hb d_X_saved_78 (by decide) ?_
    refine lv_idiv hx hb d_X_saved_80 (by decide) ?_
    exact W.iret hx hb hr (fun t ht hW => ⟨congrArg (fun z => Outcome.returned (some (Value.int z))) (show ((st.1 6) / 32) = qf_X_saved st x from (by unfold qf_X_saved; rw [if_neg h1, if_neg h2, if_neg h3, if_pos h4])), ht⟩) (fun _ h => absurd h List.not_mem_nil) d_X_saved_81
  by_cases h5 : x = 4
  · refine lv_tableIn (tgt := 82) hx hb d_X_saved_1 (by rw [h5]; decide) (by rw [h5]; decide) (by rw [h5]; rfl) (by decide) ?_
    refine lv_aload_n hx hb d_X_saved_82 rfl (lv_at hl 0 rfl) ?_
    refine va_get (D := D) (ci := 3) (v := .ref (ad 1)) (C := R_X) (T := T_X) (N := 8) hx hb hts in_X hown hK hP 0 rfl rfl 0 (by decide) (hts (Cond.fieldLink R_X 7 "QueuedFrontsModel" "now" "[I") mw_370) (fun _ h9 => h9) rfl d_X_saved_83 ?_
    refine lv_bipush (v := 7) hx hb d_X_saved_86 (by decide) ?_
    refine va_iald hx hb hK hP 1 0 rfl rfl (show vp_in (7 : Int32) 86 from qi_lit (by decide)) d_X_saved_88 ?_
    refine lv_iconst (v := 2) hx hb d_X_saved_89 (by decide) ?_
    refine lv_aload_n hx hb d_X_saved_90 rfl (lv_at hl 0 rfl) ?_
    refine va_get (D := D) (ci := 3) (v := .ref (ad 1)) (C := R_X) (T := T_X) (N := 8) hx hb hts in_X hown hK hP 0 rfl rfl 0 (by decide) (hts (Cond.fieldLink R_X 7 "QueuedFrontsModel" "now" "[I") mw_370) (fun _ h9 => h9) rfl d_X_saved_91 ?_
    refine lv_bipush (v := 8) hx hb d_X_saved_94 (by decide) ?_
    refine va_iald hx hb hK hP 1 0 rfl rfl (show vp_in (8 : Int32) 86 from qi_lit (by decide)) d_X_saved_96 ?_
    refine lv_imul hx hb d_X_saved_97 ?_
    refine lv_iadd hx hb d_X_saved_98 ?_
    exact W.iret hx hb hr (fun t ht hW => ⟨congrArg (fun z => Outcome.returned (some (Value.int z))) (show ((st.1 7) + (2 * (st.1 8))) = qf_X_saved st x from (by unfold qf_X_saved; rw [if_neg h1, if_neg h2, if_neg h3, if_neg h4, if_pos h5])), ht⟩) (fun _ h => absurd h List.not_mem_nil) d_X_saved_99
  by_cases h6 : x = 5
  · refine lv_tableIn (tgt := 100) hx hb d_X_saved_1 (by rw [h6]; decide) (by rw [h6]; decide) (by rw [h6]; rfl) (by decide) ?_
    refine lv_aload_n hx hb d_X_saved_100 rfl (lv_at hl 0 rfl) ?_
    refine va_get (D := D) (ci := 3) (v := .ref (ad 1)) (C := R_X) (T := T_X) (N := 8) hx hb hts in_X hown hK hP 0 rfl rfl 0 (by decide) (hts (Cond.fieldLink R_X 7 "QueuedFrontsModel" "now" "[I") mw_370) (fun _ h9 => h9) rfl d_X_saved_101 ?_
    refine lv_bipush (v := 9) hx hb d_X_saved_104 (by decide) ?_
    refine va_iald hx hb hK hP 1 0 rfl rfl (show vp_in (9 : Int32) 86 from qi_lit (by decide)) d_X_saved_106 ?_
    exact W.iret hx hb hr (fun t ht hW => ⟨congrArg (fun z => Outcome.returned (some (Value.int z))) (show (st.1 9) = qf_X_saved st x from (by unfold qf_X_saved; rw [if_neg h1, if_neg h2, if_neg h3, if_neg h4, if_neg h5, if_pos h6])), ht⟩) (fun _ h => absurd h List.not_mem_nil) d_X_saved_107
  refine lv_tableOut (tgt := 108) hx hb d_X_saved_1 (by have a0 := lv_neT (a := 0) h1 (by decide); have a1 := lv_neT (a := 1) h2 (by decide); have a2 := lv_neT (a := 2) h3 (by decide); have a3 := lv_neT (a := 3) h4 (by decide); have a4 := lv_neT (a := 4) h5 (by decide); have a5 := lv_neT (a := 5) h6 (by decide); omega) (by decide) ?_
  refine lv_iconst (v := 0) hx hb d_X_saved_108 (by decide) ?_
  exact W.iret hx hb hr (fun t ht hW => ⟨congrArg (fun z => Outcome.returned (some (Value.int z))) (show 0 = qf_X_saved st x from (by unfold qf_X_saved; rw [if_neg h1, if_neg h2, if_neg h3, if_neg h4, if_neg h5, if_neg h6])), ht⟩) (fun _ h => absurd h List.not_mem_nil) d_X_saved_109
def qf_X_save (st : qs_X) (x : Int32) (v : Int32) : qs_X :=
  if x = 0 then (qm_X_g st (upd st.1 5 (qf_X_place ((st.1 5) / 32) v)))
  else if x = 1 then (qm_X_g st (upd st.1 6 (qf_X_place ((st.1 6) / 32) v)))
  else if x = 2 then (qm_X_g st (upd st.1 5 (qf_X_place v (st.1 5))))
  else if x = 3 then (qm_X_g st (upd st.1 6 (qf_X_place v (st.1 6))))
  else if x = 4 then (qm_X_g st (upd (upd st.1 7 (v &&& 1)) 8 ((v >>> ((1 : Int32) &&& 31)) &&& 1)))
  else st
set_option maxHeartbeats 4000000 in
set_option maxRecDepth 100000 in
theorem c_X_save (l : Launch) (D : va_G) (cA : ClassId) (ad : Nat → Nat) (st : qs_X) (x : Int32) (v : Int32) : Met l y_X_save (Cond.code y_X_save b_X_save 3 none :: qx_T) ({ frames := 1, cells := 0, slots := 0, locals := 21 }) (qx_Pc D vwCl [(cA, .int)] (qw_X ad cA st) [.ref (ad 0), .int x, .int v]) (qx_Q D vwCl (qw_X ad cA (qf_X_save st x v)) (qx_ad (qw_X ad cA st)) none) 0 0 (qx_ad (qw_X ad cA st)) := by
  refine Met.ofW (cc := b_X_save) (maxL := 3) (ret := none) (by decide) rfl ?_
  intro p e s m args below meth c s₁ B hml hv
  obtain ⟨rfl, hP, hK, hN, hD0⟩ := hv
  have hx := B.exec
  have hb := B.bytes
  have hr := B.returns
  have hts0 := atoms_spec (ws := Cond.code y_X_save b_X_save 3 none :: qx_T) B.pre
  have hts := fun w h => hts0 w (List.mem_cons_of_mem _ h)
  have hown : s.vm.findClass R_X = some m.cls := findClass_of_methodNamed B.named
  have hlocks := B.notSynchronized
  have hD : va_D (qx_ad (qw_X ad cA st)) (qw_X ad cA st) := ⟨hD0.1, fun k q hk => ⟨k, q.2, hk⟩⟩
  generalize hAe : qx_ad (qw_X ad cA st) = A at hD ⊢
  have hS : va_S A s.heap s.heap [] := va_S.rf
  have hl := lv_entry ([.ref (ad 0), .int x, .int v]) (n := 3) (Nat.le_of_ble_eq_true rfl)
  rw [lg_entry_eq]
  generalize (lg_sl ([.ref (ad 0), .int x, .int v]) ++ List.replicate (3 - (lg_sl ([.ref (ad 0), .int x, .int v])).length) Slot.unset).toArray = ls at hl ⊢
  have hl : lv_has ls 3 [(0, .ref (ad 0)), (1, .int x), (2, .int v)] := hl
  refine lv_iload_n hx hb d_X_save_0 rfl (lv_at hl 1 rfl) ?_
  refine lv_if_ne (tgt := 26) hx hb d_X_save_1 (by decide) (fun h1 => ?_) (fun h1 => ?_)
  · have h1 : ¬ (x = 0) := h1
    refine lv_iload_n hx hb d_X_save_26 rfl (lv_at hl 1 rfl) ?_
    refine lv_iconst (v := 1) hx hb d_X_save_27 (by decide) ?_
    refine lv_icmp_ne (tgt := 55) hx hb d_X_save_28 (by decide) (fun h2 => ?_) (fun h2 => ?_)
    · have h2 : ¬ (x = 1) := h2
      refine lv_iload_n hx hb d_X_save_55 rfl (lv_at hl 1 rfl) ?_
      refine lv_iconst (v := 2) hx hb d_X_save_56 (by decide) ?_
      refine lv_icmp_ne (tgt := 79) hx hb d_X_save_57 (by decide) (fun h3 => ?_) (fun h3 => ?_)
      · have h3 : ¬ (x = 2) := h3
        refine lv_iload_n hx hb d_X_save_79 rfl (lv_at hl 1 rfl) ?_
        refine lv_iconst (v := 3) hx hb d_X_save_80 (by decide) ?_
        refine lv_icmp_ne (tgt := 105) hx hb d_X_save_81 (by decide) (fun h4 => ?_) (fun h4 => ?_)
        · have h4 : ¬ (x = 3) := h4
          refine lv_iload_n hx hb d_X_save_105 rfl (lv_at hl 1 rfl) ?_
          refine lv_iconst (v := 4) hx hb d_X_save_106 (by decide) ?_
          refine lv_icmp_ne (tgt := 132) hx hb d_X_save_107 (by decide) (fun h5 => ?_) (fun h5 => ?_)
          · have h5 : ¬ (x = 4) := h5
            have e9 : st = qf_X_save st x v := (by unfold qf_X_save; rw [if_neg h1, if_neg h2, if_neg h3, if_neg h4, if_neg h5])
            exact W.vret hx hb hr (fun t ht hW => ⟨rfl, (by rw [ht, ← e9]; exact hP), hS.F ht⟩) hS.2.2 d_X_save_132
          · have h5 : x = 4 := h5
            refine lv_aload_n hx hb d_X_save_110 rfl (lv_at hl 0 rfl) ?_
            refine va_get (D := D) (ci := 3) (v := .ref (ad 1)) (C := R_X) (T := T_X) (N := 8) hx hb hts in_X hown hK hP 0 rfl rfl 0 (by decide) (hts (Cond.fieldLink R_X 7 "QueuedFrontsModel" "now" "[I") mw_370) (fun _ h9 => h9) rfl d_X_save_111 ?_
            refine lv_bipush (v := 7) hx hb d_X_save_114 (by decide) ?_
            refine lv_iload_n hx hb d_X_save_116 rfl (lv_at hl 2 rfl) ?_
            refine lv_iconst (v := 1) hx hb d_X_save_117 (by decide) ?_
            refine lv_iand hx hb d_X_save_118 ?_
            refine va_iast hx hb hK hP hD hS 1 0 rfl rfl (show vp_in (7 : Int32) 86 from qi_lit (by decide)) d_X_save_119 (fun H locs hP hD hS => ?_)
            have hP : va_P D vwCl (qw_X ad cA (qm_X_g st (upd st.1 7 (v &&& 1)))) H := hP
            have hD : va_D A (qw_X ad cA (qm_X_g st (upd st.1 7 (v &&& 1)))) := hD
            refine lv_aload_n hx hb d_X_save_120 rfl (lv_at hl 0 rfl) ?_
            refine va_get (D := D) (ci := 3) (v := .ref (ad 1)) (C := R_X) (T := T_X) (N := 8) hx hb hts in_X hown hK hP 0 rfl rfl 0 (by decide) (hts (Cond.fieldLink R_X 7 "QueuedFrontsModel" "now" "[I") mw_370) (fun _ h9 => h9) rfl d_X_save_121 ?_
            refine lv_bipush (v := 8) hx hb d_X_save_124 (by decide) ?_
            refine lv_iload_n hx hb d_X_save_126 rfl (lv_at hl 2 rfl) ?_
            refine lv_iconst (v := 1) hx hb d_X_save_127 (by decide) ?_
            refine lv_ishr hx hb d_X_save_128 ?_
            refine lv_iconst (v := 1) hx hb d_X_save_129 (by decide) ?_
            refine lv_iand hx hb d_X_save_130 ?_
            refine va_iast hx hb hK hP hD hS 1 0 rfl rfl (show vp_in (8 : Int32) 86 from qi_lit (by decide)) d_X_save_131 (fun H locs hP hD hS => ?_)
            have hP : va_P D vwCl (qw_X ad cA (qm_X_g st (upd (upd st.1 7 (v &&& 1)) 8 ((v >>> ((1 : Int32) &&& 31)) &&& 1)))) H := hP
            have hD : va_D A (qw_X ad cA (qm_X_g st (upd (upd st.1 7 (v &&& 1)) 8 ((v >>> ((1 : Int32) &&& 31)) &&& 1)))) := hD
            have e9 : (qm_X_g st (upd (upd st.1 7 (v &&& 1)) 8 ((v >>> ((1 : Int32) &&& 31)) &&& 1))) = qf_X_save st x v := (by unfold qf_X_save; rw [if_neg h1, if_neg h2, if_neg h3, if_neg h4, if_pos h5])
            exact W.vret hx hb hr (fun t ht hW => ⟨rfl, (by rw [ht, ← e9]; exact hP), hS.F ht⟩) hS.2.2 d_X_save_132
        · have h4 : x = 3 := h4
          refine lv_aload_n hx hb d_X_save_84 rfl (lv_at hl 0 rfl) ?_
          refine va_get (D := D) (ci := 3) (v := .ref (ad 1)) (C := R_X) (T := T_X) (N := 8) hx hb hts in_X hown hK hP 0 rfl rfl 0 (by decide) (hts (Cond.fieldLink R_X 7 "QueuedFrontsModel" "now" "[I") mw_370) (fun _ h9 => h9) rfl d_X_save_85 ?_
          refine lv_bipush (v := 6) hx hb d_X_save_88 (by decide) ?_
          refine lv_iload_n hx hb d_X_save_90 rfl (lv_at hl 2 rfl) ?_
          refine lv_aload_n hx hb d_X_save_91 rfl (lv_at hl 0 rfl) ?_
          refine va_get (D := D) (ci := 3) (v := .ref (ad 1)) (C := R_X) (T := T_X) (N := 8) hx hb hts in_X hown hK hP 0 rfl rfl 0 (by decide) (hts (Cond.fieldLink R_X 7 "QueuedFrontsModel" "now" "[I") mw_370) (fun _ h9 => h9) rfl d_X_save_92 ?_
          refine lv_bipush (v := 6) hx hb d_X_save_95 (by decide) ?_
          refine va_iald hx hb hK hP 1 0 rfl rfl (show vp_in (6 : Int32) 86 from qi_lit (by decide)) d_X_save_97 ?_
          refine qx_rd (va_runS (As := [.int v, .int (st.1 6)]) (rest := [.int 6, .ref (ad 1)]) ⟨hx, hb, hml, hown, hts⟩ (c_X_place l D cA v (st.1 6)) (qx_kS hts mw_402 mw_403 mw_33 mw_404 cd_X_place ⟨Nat.le_of_ble_eq_true rfl, Nat.le_of_ble_eq_true rfl⟩) (qx_preS hP hD hK hN [] rfl rfl) rfl rfl hl.1 rfl (lv_room (Nat.le_of_ble_eq_true rfl)) d_X_save_98 ⟨Nat.zero_le _, Nat.zero_le _⟩) ?_
          refine va_iast hx hb hK hP hD hS 1 0 rfl rfl (show vp_in (6 : Int32) 86 from qi_lit (by decide)) d_X_save_101 (fun H locs hP hD hS => ?_)
          have hP : va_P D vwCl (qw_X ad cA (qm_X_g st (upd st.1 6 (qf_X_place v (st.1 6))))) H := hP
          have hD : va_D A (qw_X ad cA (qm_X_g st (upd st.1 6 (qf_X_place v (st.1 6))))) := hD
          refine lv_goto (tgt := 132) hx hb d_X_save_102 (by decide) ?_
          have e9 : (qm_X_g st (upd st.1 6 (qf_X_place v (st.1 6)))) = qf_X_save st x v := (by unfold qf_X_save; rw [if_neg h1, if_neg h2, if_neg h3, if_pos h4])
          exact W.vret hx hb hr (fun t ht hW => ⟨rfl, (by rw [ht, ← e9]; exact hP), hS.F ht⟩) hS.2.2 d_X_save_132
      · have h3 : x = 2 := h3
        refine lv_aload_n hx hb d_X_save_60 rfl (lv_at hl 0 rfl) ?_
        refine va_get (D := D) (ci := 3) (v := .ref (ad 1)) (C := R_X) (T := T_X) (N := 8) hx hb hts in_X hown hK hP 0 rfl rfl 0 (by decide) (hts (Cond.fieldLink R_X 7 "QueuedFrontsModel" "now" "[I") mw_370) (fun _ h9 => h9) rfl d_X_save_61 ?_
        refine lv_iconst (v := 5) hx hb d_X_save_64 (by decide) ?_
        refine lv_iload_n hx hb d_X_save_65 rfl (lv_at hl 2 rfl) ?_
        refine lv_aload_n hx hb d_X_save_66 rfl (lv_at hl 0 rfl) ?_
        refine va_get (D := D) (ci := 3) (v := .ref (ad 1)) (C := R_X) (T := T_X) (N := 8) hx hb hts in_X hown hK hP 0 rfl rfl 0 (by decide) (hts (Cond.fieldLink R_X 7 "QueuedFrontsModel" "now" "[I") mw_370) (fun _ h9 => h9) rfl d_X_save_67 ?_
        refine lv_iconst (v := 5) hx hb d_X_save_70 (by decide) ?_
        refine va_iald hx hb hK hP 1 0 rfl rfl (show vp_in (5 : Int32) 86 from qi_lit (by decide)) d_X_save_71 ?_
        refine qx_rd (va_runS (As := [.int v, .int (st.1 5)]) (rest := [.int 5, .ref (ad 1)]) ⟨hx, hb, hml, hown, hts⟩ (c_X_place l D cA v (st.1 5)) (qx_kS hts mw_402 mw_403 mw_33 mw_404 cd_X_place ⟨Nat.le_of_ble_eq_true rfl, Nat.le_of_ble_eq_true rfl⟩) (qx_preS hP hD hK hN [] rfl rfl) rfl rfl hl.1 rfl (lv_room (Nat.le_of_ble_eq_true rfl)) d_X_save_72 ⟨Nat.zero_le _, Nat.zero_le _⟩) ?_
        refine va_iast hx hb hK hP hD hS 1 0 rfl rfl (show vp_in (5 : Int32) 86 from qi_lit (by decide)) d_X_save_75 (fun H locs hP hD hS => ?_)
        have hP : va_P D vwCl (qw_X ad cA (qm_X_g st (upd st.1 5 (qf_X_place v (st.1 5))))) H := hP
        have hD : va_D A (qw_X ad cA (qm_X_g st (upd st.1 5 (qf_X_place v (st.1 5))))) := hD
        refine lv_goto (tgt := 132) hx hb d_X_save_76 (by decide) ?_
        have e9 : (qm_X_g st (upd st.1 5 (qf_X_place v (st.1 5)))) = qf_X_save st x v := (by unfold qf_X_save; rw [if_neg h1, if_neg h2, if_pos h3])
        exact W.vret hx hb hr (fun t ht hW => ⟨rfl, (by rw [ht, ← e9]; exact hP), hS.F ht⟩) hS.2.2 d_X_save_132
    · have h2 : x = 1 := h2
      refine lv_aload_n hx hb d_X_save_31 rfl (lv_at hl 0 rfl) ?_
      refine va_get (D := D) (ci := 3) (v := .ref (ad 1)) (C := R_X) (T := T_X) (N := 8) hx hb hts in_X hown hK hP 0 rfl rfl 0 (by decide) (hts (Cond.fieldLink R_X 7 "QueuedFrontsModel" "now" "[I") mw_370) (fun _ h9 => h9) rfl d_X_save_32 ?_
      refine lv_bipush (v := 6) hx hb d_X_save_35 (by decide) ?_
      refine lv_aload_n hx hb d_X_save_37 rfl (lv_at hl 0 rfl) ?_
      refine va_get (D := D) (ci := 3) (v := .ref (ad 1)) (C := R_X) (T := T_X) (N := 8) hx hb hts in_X hown hK hP 0 rfl rfl 0 (by decide) (hts (Cond.fieldLink R_X 7 "QueuedFrontsModel" "now" "[I") mw_370) (fun _ h9 => h9) rfl d_X_save_38 ?_
      refine lv_bipush (v := 6) hx hb d_X_save_41 (by decide) ?_
      refine va_iald hx hb hK hP 1 0 rfl rfl (show vp_in (6 : Int32) 86 from qi_lit (by decide)) d_X_save_43 ?_
      refine lv_bipush (v := 32) hx hb d_X_save_44 (by decide) ?_
      refine lv_idiv hx hb d_X_save_46 (by decide) ?_
      refine lv_iload_n hx hb d_X_save_47 rfl (lv_at hl 2 rfl) ?_
      refine qx_rd (va_runS (As := [.int ((st.1 6) / 32), .int v]) (rest := [.int 6, .ref (ad 1)]) ⟨hx, hb, hml, hown, hts⟩ (c_X_place l D cA ((st.1 6) / 32) v) (qx_kS hts mw_402 mw_403 mw_33 mw_404 cd_X_place ⟨Nat.le_of_ble_eq_true rfl, Nat.le_of_ble_eq_true rfl⟩) (qx_preS hP hD hK hN [] rfl rfl) rfl rfl hl.1 rfl (lv_room (Nat.le_of_ble_eq_true rfl)) d_X_save_48 ⟨Nat.zero_le _, Nat.zero_le _⟩) ?_
      refine va_iast hx hb hK hP hD hS 1 0 rfl rfl (show vp_in (6 : Int32) 86 from qi_lit (by decide)) d_X_save_51 (fun H locs hP hD hS => ?_)
      have hP : va_P D vwCl (qw_X ad cA (qm_X_g st (upd st.1 6 (qf_X_place ((st.1 6) / 32) v)))) H := hP
      have hD : va_D A (qw_X ad cA (qm_X_g st (upd st.1 6 (qf_X_place ((st.1 6) / 32) v)))) := hD
      refine lv_goto (tgt := 132) hx hb d_X_save_52 (by decide) ?_
      have e9 : (qm_X_g st (upd st.1 6 (qf_X_place ((st.1 6) / 32) v))) = qf_X_save st x v := (by unfold qf_X_save; rw [if_neg h1, if_pos h2])
      exact W.vret hx hb hr (fun t ht hW => ⟨rfl, (by rw [ht, ← e9]; exact hP), hS.F ht⟩) hS.2.2 d_X_save_132
  · have h1 : x = 0 := h1
    refine lv_aload_n hx hb d_X_save_4 rfl (lv_at hl 0 rfl) ?_
    refine va_get (D := D) (ci := 3) (v := .ref (ad 1)) (C := R_X) (T := T_X) (N := 8) hx hb hts in_X hown hK hP 0 rfl rfl 0 (by decide) (hts (Cond.fieldLink R_X 7 "QueuedFrontsModel" "now" "[I") mw_370) (fun _ h9 => h9) rfl d_X_save_5 ?_
    refine lv_iconst (v := 5) hx hb d_X_save_8 (by decide) ?_
    refine lv_aload_n hx hb d_X_save_9 rfl (lv_at hl 0 rfl) ?_
    refine va_get (D := D) (ci := 3) (v := .ref (ad 1)) (C := R_X) (T := T_X) (N := 8) hx hb hts in_X hown hK hP 0 rfl rfl 0 (by decide) (hts (Cond.fieldLink R_X 7 "QueuedFrontsModel" "now" "[I") mw_370) (fun _ h9 => h9) rfl d_X_save_10 ?_
    refine lv_iconst (v := 5) hx hb d_X_save_13 (by decide) ?_
    refine va_iald hx hb hK hP 1 0 rfl rfl (show vp_in (5 : Int32) 86 from qi_lit (by decide)) d_X_save_14 ?_
    refine lv_bipush (v := 32) hx hb d_X_save_15 (by decide) ?_
    refine lv_idiv hx hb d_X_save_17 (by decide) ?_
    refine lv_iload_n hx hb d_X_save_18 rfl (lv_at hl 2 rfl) ?_
    refine qx_rd (va_runS (As := [.int ((st.1 5) / 32), .int v]) (rest := [.int 5, .ref (ad 1)]) ⟨hx, hb, hml, hown, hts⟩ (c_X_place l D cA ((st.1 5) / 32) v) (qx_kS hts mw_402 mw_403 mw_33 mw_404 cd_X_place ⟨Nat.le_of_ble_eq_true rfl, Nat.le_of_ble_eq_true rfl⟩) (qx_preS hP hD hK hN [] rfl rfl) rfl rfl hl.1 rfl (lv_room (Nat.le_of_ble_eq_true rfl)) d_X_save_19 ⟨Nat.zero_le _, Nat.zero_le _⟩) ?_
    refine va_iast hx hb hK hP hD hS 1 0 rfl rfl (show vp_in (5 : Int32) 86 from qi_lit (by decide)) d_X_save_22 (fun H locs hP hD hS => ?_)
    have hP : va_P D vwCl (qw_X ad cA (qm_X_g st (upd st.1 5 (qf_X_place ((st.1 5) / 32) v)))) H := hP
    have hD : va_D A (qw_X ad cA (qm_X_g st (upd st.1 5 (qf_X_place ((st.1 5) / 32) v)))) := hD
    refine lv_goto (tgt := 132) hx hb d_X_save_23 (by decide) ?_
    have e9 : (qm_X_g st (upd st.1 5 (qf_X_place ((st.1 5) / 32) v))) = qf_X_save st x v := (by unfold qf_X_save; rw [if_pos h1])
    exact W.vret hx hb hr (fun t ht hW => ⟨rfl, (by rw [ht, ← e9]; exact hP), hS.F ht⟩) hS.2.2 d_X_save_132
def qf_X_comeBack (st : qs_X) : qs_X :=
  (qm_X_sy (qm_X_g st (upd (upd (upd (upd st.1 0 (st.1 5)) 1 (st.1 6)) 2 (st.1 7)) 3 (st.1 8))) 1)
set_option maxHeartbeats 4000000 in
set_option maxRecDepth 100000 in
theorem c_X_comeBack (l : Launch) (D : va_G) (cA : ClassId) (ad : Nat → Nat) (st : qs_X) : Met l y_X_comeBack (Cond.code y_X_comeBack b_X_comeBack 1 none :: qx_T) ({ frames := 0, cells := 0, slots := 0, locals := 0 }) (qx_Pc D vwCl [(cA, .int)] (qw_X ad cA st) [.ref (ad 0)]) (qx_Q D vwCl (qw_X ad cA (qf_X_comeBack st)) (qx_ad (qw_X ad cA st)) none) 0 0 (qx_ad (qw_X ad cA st)) := by
  refine Met.ofW (cc := b_X_comeBack) (maxL := 1) (ret := none) (by decide) rfl ?_
  intro p e s m args below meth c s₁ B hml hv
  obtain ⟨rfl, hP, hK, hN, hD0⟩ := hv
  have hx := B.exec
  have hb := B.bytes
  have hr := B.returns
  have hts0 := atoms_spec (ws := Cond.code y_X_comeBack b_X_comeBack 1 none :: qx_T) B.pre
  have hts := fun w h => hts0 w (List.mem_cons_of_mem _ h)
  have hown : s.vm.findClass R_X = some m.cls := findClass_of_methodNamed B.named
  have hlocks := B.notSynchronized
  have hD : va_D (qx_ad (qw_X ad cA st)) (qw_X ad cA st) := ⟨hD0.1, fun k q hk => ⟨k, q.2, hk⟩⟩
  generalize hAe : qx_ad (qw_X ad cA st) = A at hD ⊢
  have hS : va_S A s.heap s.heap [] := va_S.rf
  have hl := lv_entry ([.ref (ad 0)]) (n := 1) (Nat.le_of_ble_eq_true rfl)
  rw [lg_entry_eq]
  generalize (lg_sl ([.ref (ad 0)]) ++ List.replicate (1 - (lg_sl ([.ref (ad 0)])).length) Slot.unset).toArray = ls at hl ⊢
  have hl : lv_has ls 1 [(0, .ref (ad 0))] := hl
  refine lv_aload_n hx hb d_X_comeBack_0 rfl (lv_at hl 0 rfl) ?_
  refine va_get (D := D) (ci := 3) (v := .ref (ad 1)) (C := R_X) (T := T_X) (N := 8) hx hb hts in_X hown hK hP 0 rfl rfl 0 (by decide) (hts (Cond.fieldLink R_X 7 "QueuedFrontsModel" "now" "[I") mw_370) (fun _ h9 => h9) rfl d_X_comeBack_1 ?_
  refine lv_iconst (v := 0) hx hb d_X_comeBack_4 (by decide) ?_
  refine lv_aload_n hx hb d_X_comeBack_5 rfl (lv_at hl 0 rfl) ?_
  refine va_get (D := D) (ci := 3) (v := .ref (ad 1)) (C := R_X) (T := T_X) (N := 8) hx hb hts in_X hown hK hP 0 rfl rfl 0 (by decide) (hts (Cond.fieldLink R_X 7 "QueuedFrontsModel" "now" "[I") mw_370) (fun _ h9 => h9) rfl d_X_comeBack_6 ?_
  refine lv_iconst (v := 5) hx hb d_X_comeBack_9 (by decide) ?_
  refine va_iald hx hb hK hP 1 0 rfl rfl (show vp_in (5 : Int32) 86 from qi_lit (by decide)) d_X_comeBack_10 ?_
  refine va_iast hx hb hK hP hD hS 1 0 rfl rfl (show vp_in (0 : Int32) 86 from qi_lit (by decide)) d_X_comeBack_11 (fun H locs hP hD hS => ?_)
  have hP : va_P D vwCl (qw_X ad cA (qm_X_g st (upd st.1 0 (st.1 5)))) H := hP
  have hD : va_D A (qw_X ad cA (qm_X_g st (upd st.1 0 (st.1 5)))) := hD
  refine lv_aload_n hx hb d_X_comeBack_12 rfl (lv_at hl 0 rfl) ?_
  refine va_get (D := D) (ci := 3) (v := .ref (ad 1)) (C := R_X) (T := T_X) (N := 8) hx hb hts in_X hown hK hP 0 rfl rfl 0 (by decide) (hts (Cond.fieldLink R_X 7 "QueuedFrontsModel" "now" "[I") mw_370) (fun _ h9 => h9) rfl d_X_comeBack_13 ?_
  refine lv_iconst (v := 1) hx hb d_X_comeBack_16 (by decide) ?_
  refine lv_aload_n hx hb d_X_comeBack_17 rfl (lv_at hl 0 rfl) ?_
  refine va_get (D := D) (ci := 3) (v := .ref (ad 1)) (C := R_X) (T := T_X) (N := 8) hx hb hts in_X hown hK hP 0 rfl rfl 0 (by decide) (hts (Cond.fieldLink R_X 7 "QueuedFrontsModel" "now" "[I") mw_370) (fun _ h9 => h9) rfl d_X_comeBack_18 ?_
  refine lv_bipush (v := 6) hx hb d_X_comeBack_21 (by decide) ?_
  refine va_iald hx hb hK hP 1 0 rfl rfl (show vp_in (6 : Int32) 86 from qi_lit (by decide)) d_X_comeBack_23 ?_
  refine va_iast hx hb hK hP hD hS 1 0 rfl rfl (show vp_in (1 : Int32) 86 from qi_lit (by decide)) d_X_comeBack_24 (fun H locs hP hD hS => ?_)
  have hP : va_P D vwCl (qw_X ad cA (qm_X_g st (upd (upd st.1 0 (st.1 5)) 1 (st.1 6)))) H := hP
  have hD : va_D A (qw_X ad cA (qm_X_g st (upd (upd st.1 0 (st.1 5)) 1 (st.1 6)))) := hD
  refine lv_aload_n hx hb d_X_comeBack_25 rfl (lv_at hl 0 rfl) ?_
  refine va_get (D := D) (ci := 3) (v := .ref (ad 1)) (C := R_X) (T := T_X) (N := 8) hx hb hts in_X hown hK hP 0 rfl rfl 0 (by decide) (hts (Cond.fieldLink R_X 7 "QueuedFrontsModel" "now" "[I") mw_370) (fun _ h9 => h9) rfl d_X_comeBack_26 ?_
  refine lv_iconst (v := 2) hx hb d_X_comeBack_29 (by decide) ?_
  refine lv_aload_n hx hb d_X_comeBack_30 rfl (lv_at hl 0 rfl) ?_
  refine va_get (D := D) (ci := 3) (v := .ref (ad 1)) (C := R_X) (T := T_X) (N := 8) hx hb hts in_X hown hK hP 0 rfl rfl 0 (by decide) (hts (Cond.fieldLink R_X 7 "QueuedFrontsModel" "now" "[I") mw_370) (fun _ h9 => h9) rfl d_X_comeBack_31 ?_
  refine lv_bipush (v := 7) hx hb d_X_comeBack_34 (by decide) ?_
  refine va_iald hx hb hK hP 1 0 rfl rfl (show vp_in (7 : Int32) 86 from qi_lit (by decide)) d_X_comeBack_36 ?_
  refine va_iast hx hb hK hP hD hS 1 0 rfl rfl (show vp_in (2 : Int32) 86 from qi_lit (by decide)) d_X_comeBack_37 (fun H locs hP hD hS => ?_)
  have hP : va_P D vwCl (qw_X ad cA (qm_X_g st (upd (upd (upd st.1 0 (st.1 5)) 1 (st.1 6)) 2 (st.1 7)))) H := hP
  have hD : va_D A (qw_X ad cA (qm_X_g st (upd (upd (upd st.1 0 (st.1 5)) 1 (st.1 6)) 2 (st.1 7)))) := hD
  refine lv_aload_n hx hb d_X_comeBack_38 rfl (lv_at hl 0 rfl) ?_
  refine va_get (D := D) (ci := 3) (v := .ref (ad 1)) (C := R_X) (T := T_X) (N := 8) hx hb hts in_X hown hK hP 0 rfl rfl 0 (by decide) (hts (Cond.fieldLink R_X 7 "QueuedFrontsModel" "now" "[I") mw_370) (fun _ h9 => h9) rfl d_X_comeBack_39 ?_
  refine lv_iconst (v := 3) hx hb d_X_comeBack_42 (by decide) ?_
  refine lv_aload_n hx hb d_X_comeBack_43 rfl (lv_at hl 0 rfl) ?_
  refine va_get (D := D) (ci := 3) (v := .ref (ad 1)) (C := R_X) (T := T_X) (N := 8) hx hb hts in_X hown hK hP 0 rfl rfl 0 (by decide) (hts (Cond.fieldLink R_X 7 "QueuedFrontsModel" "now" "[I") mw_370) (fun _ h9 => h9) rfl d_X_comeBack_44 ?_
  refine lv_bipush (v := 8) hx hb d_X_comeBack_47 (by decide) ?_
  refine va_iald hx hb hK hP 1 0 rfl rfl (show vp_in (8 : Int32) 86 from qi_lit (by decide)) d_X_comeBack_49 ?_
  refine va_iast hx hb hK hP hD hS 1 0 rfl rfl (show vp_in (3 : Int32) 86 from qi_lit (by decide)) d_X_comeBack_50 (fun H locs hP hD hS => ?_)
  have hP : va_P D vwCl (qw_X ad cA (qm_X_g st (upd (upd (upd (upd st.1 0 (st.1 5)) 1 (st.1 6)) 2 (st.1 7)) 3 (st.1 8)))) H := hP
  have hD : va_D A (qw_X ad cA (qm_X_g st (upd (upd (upd (upd st.1 0 (st.1 5)) 1 (st.1 6)) 2 (st.1 7)) 3 (st.1 8)))) := hD
  refine lv_aload_n hx hb d_X_comeBack_51 rfl (lv_at hl 0 rfl) ?_
  refine lv_iconst (v := 1) hx hb d_X_comeBack_52 (by decide) ?_
  refine va_put (D := D) (ci := 3) (v := .int 1) (ty := .boolean) (C := R_X) (T := T_X) (N := 8) hx hb hts in_X ty_X tyok_X nm_X hown hK hP hD hS 0 rfl rfl 7 (by decide) (hts (Cond.fieldLink R_X 52 "QueuedFrontsModel" "stays" "Z") mw_377) (fun _ h9 => h9) rfl (by decide +kernel) rfl rfl (Nat.le_of_ble_eq_true rfl) d_X_comeBack_53 (fun H locs hP hD hS => ?_)
  have hP : va_P D vwCl (qw_X ad cA (qm_X_sy (qm_X_g st (upd (upd (upd (upd st.1 0 (st.1 5)) 1 (st.1 6)) 2 (st.1 7)) 3 (st.1 8))) 1)) H := hP
  have hD : va_D A (qw_X ad cA (qm_X_sy (qm_X_g st (upd (upd (upd (upd st.1 0 (st.1 5)) 1 (st.1 6)) 2 (st.1 7)) 3 (st.1 8))) 1)) := hD
  have e9 : (qm_X_sy (qm_X_g st (upd (upd (upd (upd st.1 0 (st.1 5)) 1 (st.1 6)) 2 (st.1 7)) 3 (st.1 8))) 1) = qf_X_comeBack st := rfl
  exact W.vret hx hb hr (fun t ht hW => ⟨rfl, (by rw [ht, ← e9]; exact hP), hS.F ht⟩) hS.2.2 d_X_comeBack_56
def qf_X_touch (st : qs_X) (w : Int32) (k : Int32) (x : Int32) (y : Int32) : qs_X × Int32 :=
  if qf_X_isIn x (16 : Int32) = 0 then (st, 3)
  else if k = 11 then ((qf_X_write st ((qf_ush w 24) &&& 7) (st.1 (Int32.toNatClampNeg ((22 + (16 * y)) + x)))), 0)
  else ((qm_X_g st (upd st.1 (Int32.toNatClampNeg ((22 + (16 * y)) + x)) (st.1 (Int32.toNatClampNeg (10 + ((qf_ush w 24) &&& 7)))))), 0)
set_option maxHeartbeats 4000000 in
set_option maxRecDepth 100000 in
theorem c_X_touch (l : Launch) (D : va_G) (cA : ClassId) (ad : Nat → Nat) (st : qs_X) (w : Int32) (k : Int32) (x : Int32) (y : Int32) (hy4 : vp_in y 4) : Met l y_X_touch (Cond.code y_X_touch b_X_touch 6 (some .int) :: qx_T) ({ frames := 1, cells := 0, slots := 0, locals := 22 }) (qx_Pc D vwCl [(cA, .int)] (qw_X ad cA st) [.ref (ad 0), .int w, .int k, .int x, .int y]) (qx_Q D vwCl (qw_X ad cA ((qf_X_touch st w k x y).1)) (qx_ad (qw_X ad cA st)) (some (.int (qf_X_touch st w k x y).2))) 0 0 (qx_ad (qw_X ad cA st)) := by
  refine Met.ofW (cc := b_X_touch) (maxL := 6) (ret := (some .int)) (by decide) rfl ?_
  intro p e s m args below meth c s₁ B hml hv
  obtain ⟨rfl, hP, hK, hN, hD0⟩ := hv
  have hx := B.exec
  have hb := B.bytes
  have hr := B.returns
  have hts0 := atoms_spec (ws := Cond.code y_X_touch b_X_touch 6 (some .int) :: qx_T) B.pre
  have hts := fun w h => hts0 w (List.mem_cons_of_mem _ h)
  have hown : s.vm.findClass R_X = some m.cls := findClass_of_methodNamed B.named
  have hlocks := B.notSynchronized
  have hD : va_D (qx_ad (qw_X ad cA st)) (qw_X ad cA st) := ⟨hD0.1, fun k q hk => ⟨k, q.2, hk⟩⟩
  generalize hAe : qx_ad (qw_X ad cA st) = A at hD ⊢
  have hS : va_S A s.heap s.heap [] := va_S.rf
  have hl := lv_entry ([.ref (ad 0), .int w, .int k, .int x, .int y]) (n := 6) (Nat.le_of_ble_eq_true rfl)
  rw [lg_entry_eq]
  generalize (lg_sl ([.ref (ad 0), .int w, .int k, .int x, .int y]) ++ List.replicate (6 - (lg_sl ([.ref (ad 0), .int w, .int k, .int x, .int y])).length) Slot.unset).toArray = ls at hl ⊢
  have hl : lv_has ls 6 [(0, .ref (ad 0)), (1, .int w), (2, .int k), (3, .int x), (4, .int y)] := hl
  refine lv_iload_n hx hb d_X_touch_0 rfl (lv_at hl 3 rfl) ?_
  refine lv_bipush (v := 16) hx hb d_X_touch_1 (by decide) ?_
  refine qx_rd (va_runS (As := [.int x, .int 16]) (rest := []) ⟨hx, hb, hml, hown, hts⟩ (c_X_isIn l D cA x 16) (qx_kS hts mw_399 mw_400 mw_33 mw_401 cd_X_isIn ⟨Nat.le_of_ble_eq_true rfl, Nat.le_of_ble_eq_true rfl⟩) (qx_preS hP hD hK hN [] rfl rfl) rfl rfl hl.1 rfl (lv_room (Nat.le_of_ble_eq_true rfl)) d_X_touch_3 ⟨Nat.zero_le _, Nat.zero_le _⟩) ?_
  refine lv_if_ne (tgt := 11) hx hb d_X_touch_6 (by decide) (fun h1 => ?_) (fun h1 => ?_)
  · have h1 : ¬ (qf_X_isIn x (16 : Int32) = 0) := h1
    refine lv_bipush (v := 22) hx hb d_X_touch_11 (by decide) ?_
    refine lv_bipush (v := 16) hx hb d_X_touch_13 (by decide) ?_
    refine lv_iload hx hb d_X_touch_15 (lv_at hl 4 rfl) ?_
    refine lv_imul hx hb d_X_touch_17 ?_
    refine lv_iadd hx hb d_X_touch_18 ?_
    refine lv_iload_n hx hb d_X_touch_19 rfl (lv_at hl 3 rfl) ?_
    refine lv_iadd hx hb d_X_touch_20 ?_
    refine lv_istore (lv' := [(5, .int ((22 + (16 * y)) + x)), (0, .ref (ad 0)), (1, .int w), (2, .int k), (3, .int x), (4, .int y)]) hx hb d_X_touch_21 hl (by decide) rfl (fun ls hl => ?_)
    refine lv_iload_n hx hb d_X_touch_23 rfl (lv_at hl 3 rfl) ?_
    refine lv_bipush (v := 11) hx hb d_X_touch_24 (by decide) ?_
    refine lv_icmp_ne (tgt := 50) hx hb d_X_touch_26 (by decide) (fun h2 => ?_) (fun h2 => ?_)
    · have h2 : ¬ (k = 11) := h2
      refine lv_aload_n hx hb d_X_touch_50 rfl (lv_at hl 1 rfl) ?_
      refine va_get (D := D) (ci := 3) (v := .ref (ad 1)) (C := R_X) (T := T_X) (N := 8) hx hb hts in_X hown hK hP 0 rfl rfl 0 (by decide) (hts (Cond.fieldLink R_X 7 "QueuedFrontsModel" "now" "[I") mw_370) (fun _ h9 => h9) rfl d_X_touch_51 ?_
      refine lv_iload hx hb d_X_touch_54 (lv_at hl 0 rfl) ?_
      refine lv_aload_n hx hb d_X_touch_56 rfl (lv_at hl 1 rfl) ?_
      refine va_get (D := D) (ci := 3) (v := .ref (ad 1)) (C := R_X) (T := T_X) (N := 8) hx hb hts in_X hown hK hP 0 rfl rfl 0 (by decide) (hts (Cond.fieldLink R_X 7 "QueuedFrontsModel" "now" "[I") mw_370) (fun _ h9 => h9) rfl d_X_touch_57 ?_
      refine lv_bipush (v := 10) hx hb d_X_touch_60 (by decide) ?_
      refine lv_iload_n hx hb d_X_touch_62 rfl (lv_at hl 2 rfl) ?_
      refine lv_bipush (v := 24) hx hb d_X_touch_63 (by decide) ?_
      refine lv_iushr (v := (qf_ush w 24)) hx hb d_X_touch_65 rfl ?_
      refine lv_bipush (v := 7) hx hb d_X_touch_66 (by decide) ?_
      refine lv_iand hx hb d_X_touch_68 ?_
      refine lv_iadd hx hb d_X_touch_69 ?_
      refine va_iald hx hb hK hP 1 0 rfl rfl (show vp_in (10 + ((qf_ush w 24) &&& 7)) 86 from qi_add 10 86 (by decide) (qi_and7 _) (by decide) (by decide)) d_X_touch_70 ?_
      refine va_iast hx hb hK hP hD hS 1 0 rfl rfl (show vp_in ((22 + (16 * y)) + x) 86 from qi_Xd hy4 (qi_ite (c := 16) (n := 16) (by decide) h1)) d_X_touch_71 (fun H locs hP hD hS => ?_)
      have hP : va_P D vwCl (qw_X ad cA (qm_X_g st (upd st.1 (Int32.toNatClampNeg ((22 + (16 * y)) + x)) (st.1 (Int32.toNatClampNeg (10 + ((qf_ush w 24) &&& 7))))))) H := hP
      have hD : va_D A (qw_X ad cA (qm_X_g st (upd st.1 (Int32.toNatClampNeg ((22 + (16 * y)) + x)) (st.1 (Int32.toNatClampNeg (10 + ((qf_ush w 24) &&& 7))))))) := hD
      refine lv_iconst (v := 0) hx hb d_X_touch_72 (by decide) ?_
      have e9 : ((qm_X_g st (upd st.1 (Int32.toNatClampNeg ((22 + (16 * y)) + x)) (st.1 (Int32.toNatClampNeg (10 + ((qf_ush w 24) &&& 7)))))), 0) = qf_X_touch st w k x y := (by unfold qf_X_touch; rw [if_neg h1, if_neg h2])
      exact W.iret hx hb hr (fun t ht hW => ⟨(by rw [← e9]), (by rw [ht, ← e9]; exact hP), hS.F ht⟩) hS.2.2 d_X_touch_73
    · have h2 : k = 11 := h2
      refine lv_aload_n hx hb d_X_touch_29 rfl (lv_at hl 1 rfl) ?_
      refine lv_iload_n hx hb d_X_touch_30 rfl (lv_at hl 2 rfl) ?_
      refine lv_bipush (v := 24) hx hb d_X_touch_31 (by decide) ?_
      refine lv_iushr (v := (qf_ush w 24)) hx hb d_X_touch_33 rfl ?_
      refine lv_bipush (v := 7) hx hb d_X_touch_34 (by decide) ?_
      refine lv_iand hx hb d_X_touch_36 ?_
      refine lv_aload_n hx hb d_X_touch_37 rfl (lv_at hl 1 rfl) ?_
      refine va_get (D := D) (ci := 3) (v := .ref (ad 1)) (C := R_X) (T := T_X) (N := 8) hx hb hts in_X hown hK hP 0 rfl rfl 0 (by decide) (hts (Cond.fieldLink R_X 7 "QueuedFrontsModel" "now" "[I") mw_370) (fun _ h9 => h9) rfl d_X_touch_38 ?_
      refine lv_iload hx hb d_X_touch_41 (lv_at hl 0 rfl) ?_
      refine va_iald hx hb hK hP 1 0 rfl rfl (show vp_in ((22 + (16 * y)) + x) 86 from qi_Xd hy4 (qi_ite (c := 16) (n := 16) (by decide) h1)) d_X_touch_43 ?_
      refine qx_muZ (T := qf_X_write st ((qf_ush w 24) &&& 7) (st.1 (Int32.toNatClampNeg ((22 + (16 * y)) + x)))) (Wf := fun zz : qs_X => qw_X ad cA zz) (vf := fun _ => none) (va_runV (As := [.int ((qf_ush w 24) &&& 7), .int (st.1 (Int32.toNatClampNeg ((22 + (16 * y)) + x)))]) (rest := []) ⟨hx, hb, hml, hown, hts⟩ (c_X_write l D cA ad st ((qf_ush w 24) &&& 7) (st.1 (Int32.toNatClampNeg ((22 + (16 * y)) + x))) (qi_and7 _)) (qx_kV hts mw_456 mw_458 mw_21 mw_33 mw_459 cd_X_write ⟨Nat.le_of_ble_eq_true rfl, Nat.le_of_ble_eq_true rfl⟩) (qx_preV (q0 := 0) (ci := 3) (q := (R_X, T_X, 8)) hP hD hK hN [0, 1, 2, 3, 4] rfl rfl rfl rfl) rfl rfl hl.1 rfl (lv_room (Nat.le_of_ble_eq_true rfl)) d_X_touch_44 ⟨Nat.zero_le _, Nat.zero_le _⟩) hP hD hS [0, 1, 2, 3, 4] rfl rfl [ad 0, ad 1, ad 2, ad 3, ad 4] rfl rfl (fun zz1 hzz1 H locs hP hD hS => ?_)
      have hP : va_P D vwCl (qw_X ad cA zz1) H := hP
      have hD : va_D A (qw_X ad cA zz1) := hD
      refine W.eq (g2 := F0 m 47 ls []) rfl ?_
      refine lv_goto (tgt := 72) hx hb d_X_touch_47 (by decide) ?_
      refine lv_iconst (v := 0) hx hb d_X_touch_72 (by decide) ?_
      subst hzz1
      have e9 : ((qf_X_write st ((qf_ush w 24) &&& 7) (st.1 (Int32.toNatClampNeg ((22 + (16 * y)) + x)))), 0) = qf_X_touch st w k x y := (by unfold qf_X_touch; rw [if_neg h1, if_pos h2])
      exact W.iret hx hb hr (fun t ht hW => ⟨(by rw [← e9]), (by rw [ht, ← e9]; exact hP), hS.F ht⟩) hS.2.2 d_X_touch_73
  · have h1 : qf_X_isIn x (16 : Int32) = 0 := h1
    refine lv_iconst (v := 3) hx hb d_X_touch_9 (by decide) ?_
    have e9 : (st, 3) = qf_X_touch st w k x y := (by unfold qf_X_touch; rw [if_pos h1])
    exact W.iret hx hb hr (fun t ht hW => ⟨(by rw [← e9]), (by rw [ht, ← e9]; exact hP), hS.F ht⟩) hS.2.2 d_X_touch_10
def qf_X_manage (st : qs_X) (w : Int32) (k : Int32) (x : Int32) (y : Int32) : qs_X × Int32 :=
  if k = 18 then ((qm_X_g st (upd st.1 (Int32.toNatClampNeg (18 + ((qf_ush w 18) &&& 3))) (x &&& 3))), 0)
  else if k = 19 then ((qf_X_write st ((qf_ush w 24) &&& 7) (st.1 (Int32.toNatClampNeg (18 + ((qf_ush w 18) &&& 3))))), 0)
  else if k = 20 then ((qm_X_g (qf_X_write st ((qf_ush w 24) &&& 7) (st.1 3)) (upd (qf_X_write st ((qf_ush w 24) &&& 7) (st.1 3)).1 3 ((qf_ush w 14) &&& 1))), 0)
  else if k = 21 then ((qf_X_comeBack st), 0)
  else if k = 22 then ((qf_X_write st ((qf_ush w 24) &&& 7) (qf_X_saved st y)), 0)
  else if k = 23 then ((qf_X_save st y x), 0)
  else if k = 24 then (st, 4)
  else (st, 5)
set_option maxHeartbeats 4000000 in
set_option maxRecDepth 100000 in
theorem c_X_manage (l : Launch) (D : va_G) (cA : ClassId) (ad : Nat → Nat) (st : qs_X) (w : Int32) (k : Int32) (x : Int32) (y : Int32) : Met l y_X_manage (Cond.code y_X_manage b_X_manage 7 (some .int) :: qx_T) ({ frames := 2, cells := 0, slots := 0, locals := 43 }) (qx_Pc D vwCl [(cA, .int)] (qw_X ad cA st) [.ref (ad 0), .int w, .int k, .int x, .int y]) (qx_Q D vwCl (qw_X ad cA ((qf_X_manage st w k x y).1)) (qx_ad (qw_X ad cA st)) (some (.int (qf_X_manage st w k x y).2))) 0 0 (qx_ad (qw_X ad cA st)) := by
  refine Met.ofW (cc := b_X_manage) (maxL := 7) (ret := (some .int)) (by decide) rfl ?_
  intro p e s m args below meth c s₁ B hml hv
  obtain ⟨rfl, hP, hK, hN, hD0⟩ := hv
  have hx := B.exec
  have hb := B.bytes
  have hr := B.returns
  have hts0 := atoms_spec (ws := Cond.code y_X_manage b_X_manage 7 (some .int) :: qx_T) B.pre
  have hts := fun w h => hts0 w (List.mem_cons_of_mem _ h)
  have hown : s.vm.findClass R_X = some m.cls := findClass_of_methodNamed B.named
  have hlocks := B.notSynchronized
  have hD : va_D (qx_ad (qw_X ad cA st)) (qw_X ad cA st) := ⟨hD0.1, fun k q hk => ⟨k, q.2, hk⟩⟩
  generalize hAe : qx_ad (qw_X ad cA st) = A at hD ⊢
  have hS : va_S A s.heap s.heap [] := va_S.rf
  have hl := lv_entry ([.ref (ad 0), .int w, .int k, .int x, .int y]) (n := 7) (Nat.le_of_ble_eq_true rfl)
  rw [lg_entry_eq]
  generalize (lg_sl ([.ref (ad 0), .int w, .int k, .int x, .int y]) ++ List.replicate (7 - (lg_sl ([.ref (ad 0), .int w, .int k, .int x, .int y])).length) Slot.unset).toArray = ls at hl ⊢
  have hl : lv_has ls 7 [(0, .ref (ad 0)), (1, .int w), (2, .int k), (3, .int x), (4, .int y)] := hl
  refine lv_iload_n hx hb d_X_manage_0 rfl (lv_at hl 1 rfl) ?_
  refine lv_bipush (v := 24) hx hb d_X_manage_1 (by decide) ?_
  refine lv_iushr (v := (qf_ush w 24)) hx hb d_X_manage_3 rfl ?_
  refine lv_bipush (v := 7) hx hb d_X_manage_4 (by decide) ?_
  refine lv_iand hx hb d_X_manage_6 ?_
  refine lv_istore (lv' := [(5, .int ((qf_ush w 24) &&& 7)), (0, .ref (ad 0)), (1, .int w), (2, .int k), (3, .int x), (4, .int y)]) hx hb d_X_manage_7 hl (by decide) rfl (fun ls hl => ?_)
  refine lv_bipush (v := 18) hx hb d_X_manage_9 (by decide) ?_
  refine lv_iload_n hx hb d_X_manage_11 rfl (lv_at hl 2 rfl) ?_
  refine lv_bipush (v := 18) hx hb d_X_manage_12 (by decide) ?_
  refine lv_iushr (v := (qf_ush w 18)) hx hb d_X_manage_14 rfl ?_
  refine lv_iconst (v := 3) hx hb d_X_manage_15 (by decide) ?_
  refine lv_iand hx hb d_X_manage_16 ?_
  refine lv_iadd hx hb d_X_manage_17 ?_
  refine lv_istore (lv' := [(6, .int (18 + ((qf_ush w 18) &&& 3))), (5, .int ((qf_ush w 24) &&& 7)), (0, .ref (ad 0)), (1, .int w), (2, .int k), (3, .int x), (4, .int y)]) hx hb d_X_manage_18 hl (by decide) rfl (fun ls hl => ?_)
  refine lv_iload_n hx hb d_X_manage_20 rfl (lv_at hl 4 rfl) ?_
  by_cases h1 : k = 18
  · refine lv_tableIn (tgt := 60) hx hb d_X_manage_21 (by rw [h1]; decide) (by rw [h1]; decide) (by rw [h1]; rfl) (by decide) ?_
    refine lv_aload_n hx hb d_X_manage_60 rfl (lv_at hl 2 rfl) ?_
    refine va_get (D := D) (ci := 3) (v := .ref (ad 1)) (C := R_X) (T := T_X) (N := 8) hx hb hts in_X hown hK hP 0 rfl rfl 0 (by decide) (hts (Cond.fieldLink R_X 7 "QueuedFrontsModel" "now" "[I") mw_370) (fun _ h9 => h9) rfl d_X_manage_61 ?_
    refine lv_iload hx hb d_X_manage_64 (lv_at hl 0 rfl) ?_
    refine lv_iload_n hx hb d_X_manage_66 rfl (lv_at hl 5 rfl) ?_
    refine lv_iconst (v := 3) hx hb d_X_manage_67 (by decide) ?_
    refine lv_iand hx hb d_X_manage_68 ?_
    refine va_iast hx hb hK hP hD hS 1 0 rfl rfl (show vp_in (18 + ((qf_ush w 18) &&& 3)) 86 from qi_add 18 86 (by decide) (qi_and3 _) (by decide) (by decide)) d_X_manage_69 (fun H locs hP hD hS => ?_)
    have hP : va_P D vwCl (qw_X ad cA (qm_X_g st (upd st.1 (Int32.toNatClampNeg (18 + ((qf_ush w 18) &&& 3))) (x &&& 3)))) H := hP
    have hD : va_D A (qw_X ad cA (qm_X_g st (upd st.1 (Int32.toNatClampNeg (18 + ((qf_ush w 18) &&& 3))) (x &&& 3)))) := hD
    refine lv_iconst (v := 0) hx hb d_X_manage_70 (by decide) ?_
    have e9 : ((qm_X_g st (upd st.1 (Int32.toNatClampNeg (18 + ((qf_ush w 18) &&& 3))) (x &&& 3))), 0) = qf_X_manage st w k x y := (by unfold qf_X_manage; rw [if_pos h1])
    exact W.iret hx hb hr (fun t ht hW => ⟨(by rw [← e9]), (by rw [ht, ← e9]; exact hP), hS.F ht⟩) hS.2.2 d_X_manage_71
  by_cases h2 : k = 19
  · refine lv_tableIn (tgt := 72) hx hb d_X_manage_21 (by rw [h2]; decide) (by rw [h2]; decide) (by rw [h2]; rfl) (by decide) ?_
    refine lv_aload_n hx hb d_X_manage_72 rfl (lv_at hl 2 rfl) ?_
    refine lv_iload hx hb d_X_manage_73 (lv_at hl 1 rfl) ?_
    refine lv_aload_n hx hb d_X_manage_75 rfl (lv_at hl 2 rfl) ?_
    refine va_get (D := D) (ci := 3) (v := .ref (ad 1)) (C := R_X) (T := T_X) (N := 8) hx hb hts in_X hown hK hP 0 rfl rfl 0 (by decide) (hts (Cond.fieldLink R_X 7 "QueuedFrontsModel" "now" "[I") mw_370) (fun _ h9 => h9) rfl d_X_manage_76 ?_
    refine lv_iload hx hb d_X_manage_79 (lv_at hl 0 rfl) ?_
    refine va_iald hx hb hK hP 1 0 rfl rfl (show vp_in (18 + ((qf_ush w 18) &&& 3)) 86 from qi_add 18 86 (by decide) (qi_and3 _) (by decide) (by decide)) d_X_manage_81 ?_
    refine qx_muZ (T := qf_X_write st ((qf_ush w 24) &&& 7) (st.1 (Int32.toNatClampNeg (18 + ((qf_ush w 18) &&& 3))))) (Wf := fun zz : qs_X => qw_X ad cA zz) (vf := fun _ => none) (va_runV (As := [.int ((qf_ush w 24) &&& 7), .int (st.1 (Int32.toNatClampNeg (18 + ((qf_ush w 18) &&& 3))))]) (rest := []) ⟨hx, hb, hml, hown, hts⟩ (c_X_write l D cA ad st ((qf_ush w 24) &&& 7) (st.1 (Int32.toNatClampNeg (18 + ((qf_ush w 18) &&& 3)))) (qi_and7 _)) (qx_kV hts mw_456 mw_458 mw_21 mw_33 mw_459 cd_X_write ⟨Nat.le_of_ble_eq_true rfl, Nat.le_of_ble_eq_true rfl⟩) (qx_preV (q0 := 0) (ci := 3) (q := (R_X, T_X, 8)) hP hD hK hN [0, 1, 2, 3, 4] rfl rfl rfl rfl) rfl rfl hl.1 rfl (lv_room (Nat.le_of_ble_eq_true rfl)) d_X_manage_82 ⟨Nat.zero_le _, Nat.zero_le _⟩) hP hD hS [0, 1, 2, 3, 4] rfl rfl [ad 0, ad 1, ad 2, ad 3, ad 4] rfl rfl (fun zz1 hzz1 H locs hP hD hS => ?_)
    have hP : va_P D vwCl (qw_X ad cA zz1) H := hP
    have hD : va_D A (qw_X ad cA zz1) := hD
    refine W.eq (g2 := F0 m 85 ls []) rfl ?_
    refine lv_iconst (v := 0) hx hb d_X_manage_85 (by decide) ?_
    subst hzz1
    have e9 : ((qf_X_write st ((qf_ush w 24) &&& 7) (st.1 (Int32.toNatClampNeg (18 + ((qf_ush w 18) &&& 3))))), 0) = qf_X_manage st w k x y := (by unfold qf_X_manage; rw [if_neg h1, if_pos h2])
    exact W.iret hx hb hr (fun t ht hW => ⟨(by rw [← e9]), (by rw [ht, ← e9]; exact hP), hS.F ht⟩) hS.2.2 d_X_manage_86
  by_cases h3 : k = 20
  · refine lv_tableIn (tgt := 87) hx hb d_X_manage_21 (by rw [h3]; decide) (by rw [h3]; decide) (by rw [h3]; rfl) (by decide) ?_
    refine lv_aload_n hx hb d_X_manage_87 rfl (lv_at hl 2 rfl) ?_
    refine lv_iload hx hb d_X_manage_88 (lv_at hl 1 rfl) ?_
    refine lv_aload_n hx hb d_X_manage_90 rfl (lv_at hl 2 rfl) ?_
    refine va_get (D := D) (ci := 3) (v := .ref (ad 1)) (C := R_X) (T := T_X) (N := 8) hx hb hts in_X hown hK hP 0 rfl rfl 0 (by decide) (hts (Cond.fieldLink R_X 7 "QueuedFrontsModel" "now" "[I") mw_370) (fun _ h9 => h9) rfl d_X_manage_91 ?_
    refine lv_iconst (v := 3) hx hb d_X_manage_94 (by decide) ?_
    refine va_iald hx hb hK hP 1 0 rfl rfl (show vp_in (3 : Int32) 86 from qi_lit (by decide)) d_X_manage_95 ?_
    refine qx_muZ (T := qf_X_write st ((qf_ush w 24) &&& 7) (st.1 3)) (Wf := fun zz : qs_X => qw_X ad cA zz) (vf := fun _ => none) (va_runV (As := [.int ((qf_ush w 24) &&& 7), .int (st.1 3)]) (rest := []) ⟨hx, hb, hml, hown, hts⟩ (c_X_write l D cA ad st ((qf_ush w 24) &&& 7) (st.1 3) (qi_and7 _)) (qx_kV hts mw_456 mw_458 mw_21 mw_33 mw_459 cd_X_write ⟨Nat.le_of_ble_eq_true rfl, Nat.le_of_ble_eq_true rfl⟩) (qx_preV (q0 := 0) (ci := 3) (q := (R_X, T_X, 8)) hP hD hK hN [0, 1, 2, 3, 4] rfl rfl rfl rfl) rfl rfl hl.1 rfl (lv_room (Nat.le_of_ble_eq_true rfl)) d_X_manage_96 ⟨Nat.zero_le _, Nat.zero_le _⟩) hP hD hS [0, 1, 2, 3, 4] rfl rfl [ad 0, ad 1, ad 2, ad 3, ad 4] rfl rfl (fun zz1 hzz1 H locs hP hD hS => ?_)
    have hP : va_P D vwCl (qw_X ad cA zz1) H := hP
    have hD : va_D A (qw_X ad cA zz1) := hD
    refine W.eq (g2 := F0 m 99 ls []) rfl ?_
    refine lv_aload_n hx hb d_X_manage_99 rfl (lv_at hl 2 rfl) ?_
    refine va_get (D := D) (ci := 3) (v := .ref (ad 1)) (C := R_X) (T := T_X) (N := 8) hx hb hts in_X hown hK hP 0 rfl rfl 0 (by decide) (hts (Cond.fieldLink R_X 7 "QueuedFrontsModel" "now" "[I") mw_370) (fun _ h9 => h9) rfl d_X_manage_100 ?_
    refine lv_iconst (v := 3) hx hb d_X_manage_103 (by decide) ?_
    refine lv_iload_n hx hb d_X_manage_104 rfl (lv_at hl 3 rfl) ?_
    refine lv_bipush (v := 14) hx hb d_X_manage_105 (by decide) ?_
    refine lv_iushr (v := (qf_ush w 14)) hx hb d_X_manage_107 rfl ?_
    refine lv_iconst (v := 1) hx hb d_X_manage_108 (by decide) ?_
    refine lv_iand hx hb d_X_manage_109 ?_
    refine va_iast hx hb hK hP hD hS 1 0 rfl rfl (show vp_in (3 : Int32) 86 from qi_lit (by decide)) d_X_manage_110 (fun H locs hP hD hS => ?_)
    have hP : va_P D vwCl (qw_X ad cA (qm_X_g zz1 (upd zz1.1 3 ((qf_ush w 14) &&& 1)))) H := hP
    have hD : va_D A (qw_X ad cA (qm_X_g zz1 (upd zz1.1 3 ((qf_ush w 14) &&& 1)))) := hD
    refine lv_iconst (v := 0) hx hb d_X_manage_111 (by decide) ?_
    subst hzz1
    have e9 : ((qm_X_g (qf_X_write st ((qf_ush w 24) &&& 7) (st.1 3)) (upd (qf_X_write st ((qf_ush w 24) &&& 7) (st.1 3)).1 3 ((qf_ush w 14) &&& 1))), 0) = qf_X_manage st w k x y := (by unfold qf_X_manage; rw [if_neg h1, if_neg h2, if_pos h3])
    exact W.iret hx hb hr (fun t ht hW => ⟨(by rw [← e9]), (by rw [ht, ← e9]; exact hP), hS.F ht⟩) hS.2.2 d_X_manage_112
  by_cases h4 : k = 21
  · refine lv_tableIn (tgt := 113) hx hb d_X_manage_21 (by rw [h4]; decide) (by rw [h4]; decide) (by rw [h4]; rfl) (by decide) ?_
    refine lv_aload_n hx hb d_X_manage_113 rfl (lv_at hl 2 rfl) ?_
    refine qx_muZ (T := qf_X_comeBack st) (Wf := fun zz : qs_X => qw_X ad cA zz) (vf := fun _ => none) (va_runV (As := []) (rest := []) ⟨hx, hb, hml, hown, hts⟩ (c_X_comeBack l D cA ad st) (qx_kV hts mw_476 mw_478 mw_25 mw_33 mw_479 cd_X_comeBack ⟨Nat.le_of_ble_eq_true rfl, Nat.le_of_ble_eq_true rfl⟩) (qx_preV (q0 := 0) (ci := 3) (q := (R_X, T_X, 8)) hP hD hK hN [0, 1, 2, 3, 4] rfl rfl rfl rfl) rfl rfl hl.1 rfl (lv_room (Nat.le_of_ble_eq_true rfl)) d_X_manage_114 ⟨Nat.zero_le _, Nat.zero_le _⟩) hP hD hS [0, 1, 2, 3, 4] rfl rfl [ad 0, ad 1, ad 2, ad 3, ad 4] rfl rfl (fun zz1 hzz1 H locs hP hD hS => ?_)
    have hP : va_P D vwCl (qw_X ad cA zz1) H := hP
    have hD : va_D A (qw_X ad cA zz1) := hD
    refine W.eq (g2 := F0 m 117 ls []) rfl ?_
    refine lv_iconst (v := 0) hx hb d_X_manage_117 (by decide) ?_
    subst hzz1
    have e9 : ((qf_X_comeBack st), 0) = qf_X_manage st w k x y := (by unfold qf_X_manage; rw [if_neg h1, if_neg h2, if_neg h3, if_pos h4])
    exact W.iret hx hb hr (fun t ht hW => ⟨(by rw [← e9]), (by rw [ht, ← e9]; exact hP), hS.F ht⟩) hS.2.2 d_X_manage_118
  by_cases h5 : k = 22
  · refine lv_tableIn (tgt := 119) hx hb d_X_manage_21 (by rw [h5]; decide) (by rw [h5]; decide) (by rw [h5]; rfl) (by decide) ?_
    refine lv_aload_n hx hb d_X_manage_119 rfl (lv_at hl 2 rfl) ?_
    refine lv_iload hx hb d_X_manage_120 (lv_at hl 1 rfl) ?_
    refine lv_aload_n hx hb d_X_manage_122 rfl (lv_at hl 2 rfl) ?_
    refine lv_iload hx hb d_X_manage_123 (lv_at hl 6 rfl) ?_
    refine qx_rd (va_runV (As := [.int y]) (rest := [.int ((qf_ush w 24) &&& 7), .ref (ad 0)]) ⟨hx, hb, hml, hown, hts⟩ (c_X_saved l D cA ad st y) (qx_kV hts mw_480 mw_482 mw_26 mw_33 mw_483 cd_X_saved ⟨Nat.le_of_ble_eq_true rfl, Nat.le_of_ble_eq_true rfl⟩) (qx_preV (q0 := 0) (ci := 3) (q := (R_X, T_X, 8)) hP hD hK hN [0, 1, 2, 3, 4] rfl rfl rfl rfl) rfl rfl hl.1 rfl (lv_room (Nat.le_of_ble_eq_true rfl)) d_X_manage_125 ⟨Nat.zero_le _, Nat.zero_le _⟩) ?_
    refine qx_muZ (T := qf_X_write st ((qf_ush w 24) &&& 7) (qf_X_saved st y)) (Wf := fun zz : qs_X => qw_X ad cA zz) (vf := fun _ => none) (va_runV (As := [.int ((qf_ush w 24) &&& 7), .int (qf_X_saved st y)]) (rest := []) ⟨hx, hb, hml, hown, hts⟩ (c_X_write l D cA ad st ((qf_ush w 24) &&& 7) (qf_X_saved st y) (qi_and7 _)) (qx_kV hts mw_456 mw_458 mw_21 mw_33 mw_459 cd_X_write ⟨Nat.le_of_ble_eq_true rfl, Nat.le_of_ble_eq_true rfl⟩) (qx_preV (q0 := 0) (ci := 3) (q := (R_X, T_X, 8)) hP hD hK hN [0, 1, 2, 3, 4] rfl rfl rfl rfl) rfl rfl hl.1 rfl (lv_room (Nat.le_of_ble_eq_true rfl)) d_X_manage_128 ⟨Nat.zero_le _, Nat.zero_le _⟩) hP hD hS [0, 1, 2, 3, 4] rfl rfl [ad 0, ad 1, ad 2, ad 3, ad 4] rfl rfl (fun zz1 hzz1 H locs hP hD hS => ?_)
    have hP : va_P D vwCl (qw_X ad cA zz1) H := hP
    have hD : va_D A (qw_X ad cA zz1) := hD
    refine W.eq (g2 := F0 m 131 ls []) rfl ?_
    refine lv_iconst (v := 0) hx hb d_X_manage_131 (by decide) ?_
    subst hzz1
    have e9 : ((qf_X_write st ((qf_ush w 24) &&& 7) (qf_X_saved st y)), 0) = qf_X_manage st w k x y := (by unfold qf_X_manage; rw [if_neg h1, if_neg h2, if_neg h3, if_neg h4, if_pos h5])
    exact W.iret hx hb hr (fun t ht hW => ⟨(by rw [← e9]), (by rw [ht, ← e9]; exact hP), hS.F ht⟩) hS.2.2 d_X_manage_132
  by_cases h6 : k = 23
  · refine lv_tableIn (tgt := 133) hx hb d_X_manage_21 (by rw [h6]; decide) (by rw [h6]; decide) (by rw [h6]; rfl) (by decide) ?_
    refine lv_aload_n hx hb d_X_manage_133 rfl (lv_at hl 2 rfl) ?_
    refine lv_iload hx hb d_X_manage_134 (lv_at hl 6 rfl) ?_
    refine lv_iload_n hx hb d_X_manage_136 rfl (lv_at hl 5 rfl) ?_
    refine qx_muZ (T := qf_X_save st y x) (Wf := fun zz : qs_X => qw_X ad cA zz) (vf := fun _ => none) (va_runV (As := [.int y, .int x]) (rest := []) ⟨hx, hb, hml, hown, hts⟩ (c_X_save l D cA ad st y x) (qx_kV hts mw_484 mw_486 mw_27 mw_33 mw_487 cd_X_save ⟨Nat.le_of_ble_eq_true rfl, Nat.le_of_ble_eq_true rfl⟩) (qx_preV (q0 := 0) (ci := 3) (q := (R_X, T_X, 8)) hP hD hK hN [0, 1, 2, 3, 4] rfl rfl rfl rfl) rfl rfl hl.1 rfl (lv_room (Nat.le_of_ble_eq_true rfl)) d_X_manage_137 ⟨Nat.zero_le _, Nat.zero_le _⟩) hP hD hS [0, 1, 2, 3, 4] rfl rfl [ad 0, ad 1, ad 2, ad 3, ad 4] rfl rfl (fun zz1 hzz1 H locs hP hD hS => ?_)
    have hP : va_P D vwCl (qw_X ad cA zz1) H := hP
    have hD : va_D A (qw_X ad cA zz1) := hD
    refine W.eq (g2 := F0 m 140 ls []) rfl ?_
    refine lv_iconst (v := 0) hx hb d_X_manage_140 (by decide) ?_
    subst hzz1
    have e9 : ((qf_X_save st y x), 0) = qf_X_manage st w k x y := (by unfold qf_X_manage; rw [if_neg h1, if_neg h2, if_neg h3, if_neg h4, if_neg h5, if_pos h6])
    exact W.iret hx hb hr (fun t ht hW => ⟨(by rw [← e9]), (by rw [ht, ← e9]; exact hP), hS.F ht⟩) hS.2.2 d_X_manage_141
  refine lv_tableOut (tgt := 142) hx hb d_X_manage_21 (by have a0 := lv_neT (a := 18) h1 (by decide); have a1 := lv_neT (a := 19) h2 (by decide); have a2 := lv_neT (a := 20) h3 (by decide); have a3 := lv_neT (a := 21) h4 (by decide); have a4 := lv_neT (a := 22) h5 (by decide); have a5 := lv_neT (a := 23) h6 (by decide); omega) (by decide) ?_
  refine lv_iload_n hx hb d_X_manage_142 rfl (lv_at hl 4 rfl) ?_
  refine lv_bipush (v := 24) hx hb d_X_manage_143 (by decide) ?_
  refine lv_icmp_ne (tgt := 152) hx hb d_X_manage_145 (by decide) (fun h7 => ?_) (fun h7 => ?_)
  · have h7 : ¬ (k = 24) := h7
    refine lv_iconst (v := 5) hx hb d_X_manage_152 (by decide) ?_
    have e9 : (st, 5) = qf_X_manage st w k x y := (by unfold qf_X_manage; rw [if_neg h1, if_neg h2, if_neg h3, if_neg h4, if_neg h5, if_neg h6, if_neg h7])
    exact W.iret hx hb hr (fun t ht hW => ⟨(by rw [← e9]), (by rw [ht, ← e9]; exact hP), hS.F ht⟩) hS.2.2 d_X_manage_153
  · have h7 : k = 24 := h7
    refine lv_iconst (v := 4) hx hb d_X_manage_148 (by decide) ?_
    refine lv_goto (tgt := 153) hx hb d_X_manage_149 (by decide) ?_
    have e9 : (st, 4) = qf_X_manage st w k x y := (by unfold qf_X_manage; rw [if_neg h1, if_neg h2, if_neg h3, if_neg h4, if_neg h5, if_neg h6, if_pos h7])
    exact W.iret hx hb hr (fun t ht hW => ⟨(by rw [← e9]), (by rw [ht, ← e9]; exact hP), hS.F ht⟩) hS.2.2 d_X_manage_153
def qf_X_traps (st : qs_X) : Int32 :=
  (((((st.2.2.2.2.1 1) + (st.2.2.2.2.1 2)) + (st.2.2.2.2.1 3)) + (st.2.2.2.2.1 4)) + (st.2.2.2.2.1 5))
set_option maxHeartbeats 4000000 in
set_option maxRecDepth 100000 in
theorem c_X_traps (l : Launch) (D : va_G) (cA : ClassId) (ad : Nat → Nat) (st : qs_X) : Met l y_X_traps (Cond.code y_X_traps b_X_traps 1 (some .int) :: qx_T) ({ frames := 0, cells := 0, slots := 0, locals := 0 }) (qx_Pc D vwCl [(cA, .int)] (qw_X ad cA st) [.ref (ad 0)]) (k2_QcV (.int (qf_X_traps st))) 0 0 (fun _ => False) := by
  refine Met.ofW (cc := b_X_traps) (maxL := 1) (ret := (some .int)) (by decide) rfl ?_
  intro p e s m args below meth c s₁ B hml hv
  obtain ⟨rfl, hP, hK, hN, hD0⟩ := hv
  have hx := B.exec
  have hb := B.bytes
  have hr := B.returns
  have hts0 := atoms_spec (ws := Cond.code y_X_traps b_X_traps 1 (some .int) :: qx_T) B.pre
  have hts := fun w h => hts0 w (List.mem_cons_of_mem _ h)
  have hown : s.vm.findClass R_X = some m.cls := findClass_of_methodNamed B.named
  have hlocks := B.notSynchronized
  have hD : va_D (qx_ad (qw_X ad cA st)) (qw_X ad cA st) := ⟨hD0.1, fun k q hk => ⟨k, q.2, hk⟩⟩
  generalize hAe : qx_ad (qw_X ad cA st) = A at hD
  have hS : va_S A s.heap s.heap [] := va_S.rf
  have hl := lv_entry ([.ref (ad 0)]) (n := 1) (Nat.le_of_ble_eq_true rfl)
  rw [lg_entry_eq]
  generalize (lg_sl ([.ref (ad 0)]) ++ List.replicate (1 - (lg_sl ([.ref (ad 0)])).length) Slot.unset).toArray = ls at hl ⊢
  have hl : lv_has ls 1 [(0, .ref (ad 0))] := hl
  refine lv_aload_n hx hb d_X_traps_0 rfl (lv_at hl 0 rfl) ?_
  refine va_get (D := D) (ci := 3) (v := .ref (ad 4)) (C := R_X) (T := T_X) (N := 8) hx hb hts in_X hown hK hP 0 rfl rfl 4 (by decide) (hts (Cond.fieldLink R_X 19 "QueuedFrontsModel" "counts" "[I") mw_374) (fun _ h9 => h9) rfl d_X_traps_1 ?_
  refine lv_iconst (v := 1) hx hb d_X_traps_4 (by decide) ?_
  refine va_iald hx hb hK hP 4 0 rfl rfl (show vp_in (1 : Int32) 7 from qi_lit (by decide)) d_X_traps_5 ?_
  refine lv_aload_n hx hb d_X_traps_6 rfl (lv_at hl 0 rfl) ?_
  refine va_get (D := D) (ci := 3) (v := .ref (ad 4)) (C := R_X) (T := T_X) (N := 8) hx hb hts in_X hown hK hP 0 rfl rfl 4 (by decide) (hts (Cond.fieldLink R_X 19 "QueuedFrontsModel" "counts" "[I") mw_374) (fun _ h9 => h9) rfl d_X_traps_7 ?_
  refine lv_iconst (v := 2) hx hb d_X_traps_10 (by decide) ?_
  refine va_iald hx hb hK hP 4 0 rfl rfl (show vp_in (2 : Int32) 7 from qi_lit (by decide)) d_X_traps_11 ?_
  refine lv_iadd hx hb d_X_traps_12 ?_
  refine lv_aload_n hx hb d_X_traps_13 rfl (lv_at hl 0 rfl) ?_
  refine va_get (D := D) (ci := 3) (v := .ref (ad 4)) (C := R_X) (T := T_X) (N := 8) hx hb hts in_X hown hK hP 0 rfl rfl 4 (by decide) (hts (Cond.fieldLink R_X 19 "QueuedFrontsModel" "counts" "[I") mw_374) (fun _ h9 => h9) rfl d_X_traps_14 ?_
  refine lv_iconst (v := 3) hx hb d_X_traps_17 (by decide) ?_
  refine va_iald hx hb hK hP 4 0 rfl rfl (show vp_in (3 : Int32) 7 from qi_lit (by decide)) d_X_traps_18 ?_
  refine lv_iadd hx hb d_X_traps_19 ?_
  refine lv_aload_n hx hb d_X_traps_20 rfl (lv_at hl 0 rfl) ?_
  refine va_get (D := D) (ci := 3) (v := .ref (ad 4)) (C := R_X) (T := T_X) (N := 8) hx hb hts in_X hown hK hP 0 rfl rfl 4 (by decide) (hts (Cond.fieldLink R_X 19 "QueuedFrontsModel" "counts" "[I") mw_374) (fun _ h9 => h9) rfl d_X_traps_21 ?_
  refine lv_iconst (v := 4) hx hb d_X_traps_24 (by decide) ?_
  refine va_iald hx hb hK hP 4 0 rfl rfl (show vp_in (4 : Int32) 7 from qi_lit (by decide)) d_X_traps_25 ?_
  refine lv_iadd hx hb d_X_traps_26 ?_
  refine lv_aload_n hx hb d_X_traps_27 rfl (lv_at hl 0 rfl) ?_
  refine va_get (D := D) (ci := 3) (v := .ref (ad 4)) (C := R_X) (T := T_X) (N := 8) hx hb hts in_X hown hK hP 0 rfl rfl 4 (by decide) (hts (Cond.fieldLink R_X 19 "QueuedFrontsModel" "counts" "[I") mw_374) (fun _ h9 => h9) rfl d_X_traps_28 ?_
  refine lv_iconst (v := 5) hx hb d_X_traps_31 (by decide) ?_
  refine va_iald hx hb hK hP 4 0 rfl rfl (show vp_in (5 : Int32) 7 from qi_lit (by decide)) d_X_traps_32 ?_
  refine lv_iadd hx hb d_X_traps_33 ?_
  exact W.iret hx hb hr (fun t ht hW => ⟨congrArg (fun z => Outcome.returned (some (Value.int z))) (show (((((st.2.2.2.2.1 1) + (st.2.2.2.2.1 2)) + (st.2.2.2.2.1 3)) + (st.2.2.2.2.1 4)) + (st.2.2.2.2.1 5)) = qf_X_traps st from rfl), ht⟩) (fun _ h => absurd h List.not_mem_nil) d_X_traps_34
def qf_X_state (st : qs_X) (x : Int32) : Int32 :=
  if x = 0 then ((st.1 0) / 32)
  else if x = 1 then ((st.1 0) - ((st.1 0) / 32) * 32)
  else if x = 2 then ((st.1 1) / 32)
  else if x = 3 then ((st.1 1) - ((st.1 1) / 32) * 32)
  else if x = 4 then (st.1 2)
  else if x = 5 then (st.1 3)
  else if x = 6 then (st.1 4)
  else if x = 7 then ((st.1 5) / 32)
  else if x = 8 then ((st.1 5) - ((st.1 5) / 32) * 32)
  else if x = 9 then ((st.1 6) / 32)
  else if x = 10 then ((st.1 6) - ((st.1 6) / 32) * 32)
  else if x = 11 then (st.1 7)
  else if x = 12 then (st.1 8)
  else if x = 13 then (st.1 9)
  else (-1)
set_option maxHeartbeats 4000000 in
set_option maxRecDepth 100000 in
theorem c_X_state (l : Launch) (D : va_G) (cA : ClassId) (ad : Nat → Nat) (st : qs_X) (x : Int32) : Met l y_X_state (Cond.code y_X_state b_X_state 2 (some .int) :: qx_T) ({ frames := 0, cells := 0, slots := 0, locals := 0 }) (qx_Pc D vwCl [(cA, .int)] (qw_X ad cA st) [.ref (ad 0), .int x]) (k2_QcV (.int (qf_X_state st x))) 0 0 (fun _ => False) := by
  refine Met.ofW (cc := b_X_state) (maxL := 2) (ret := (some .int)) (by decide) rfl ?_
  intro p e s m args below meth c s₁ B hml hv
  obtain ⟨rfl, hP, hK, hN, hD0⟩ := hv
  have hx := B.exec
  have hb := B.bytes
  have hr := B.returns
  have hts0 := atoms_spec (ws := Cond.code y_X_state b_X_state 2 (some .int) :: qx_T) B.pre
  have hts := fun w h => hts0 w (List.mem_cons_of_mem _ h)
  have hown : s.vm.findClass R_X = some m.cls := findClass_of_methodNamed B.named
  have hlocks := B.notSynchronized
  have hD : va_D (qx_ad (qw_X ad cA st)) (qw_X ad cA st) := ⟨hD0.1, fun k q hk => ⟨k, q.2, hk⟩⟩
  generalize hAe : qx_ad (qw_X ad cA st) = A at hD
  have hS : va_S A s.heap s.heap [] := va_S.rf
  have hl := lv_entry ([.ref (ad 0), .int x]) (n := 2) (Nat.le_of_ble_eq_true rfl)
  rw [lg_entry_eq]
  generalize (lg_sl ([.ref (ad 0), .int x]) ++ List.replicate (2 - (lg_sl ([.ref (ad 0), .int x])).length) Slot.unset).toArray = ls at hl ⊢
  have hl : lv_has ls 2 [(0, .ref (ad 0)), (1, .int x)] := hl
  refine lv_iload_n hx hb d_X_state_0 rfl (lv_at hl 1 rfl) ?_
  by_cases h1 : x = 0
  · refine lv_tableIn (tgt := 68) hx hb d_X_state_1 (by rw [h1]; decide) (by rw [h1]; decide) (by rw [h1]; rfl) (by decide) ?_
    refine lv_aload_n hx hb d_X_state_68 rfl (lv_at hl 0 rfl) ?_
    refine va_get (D := D) (ci := 3) (v := .ref (ad 1)) (C := R_X) (T := T_X) (N := 8) hx hb hts in_X hown hK hP 0 rfl rfl 0 (by decide) (hts (Cond.fieldLink R_X 7 "QueuedFrontsModel" "now" "[I") mw_370) (fun _ h9 => h9) rfl d_X_state_69 ?_
    refine lv_iconst (v := 0) hx hb d_X_state_72 (by decide) ?_
    refine va_iald hx hb hK hP 1 0 rfl rfl (show vp_in (0 : Int32) 86 from qi_lit (by decide)) d_X_state_73 ?_
    refine lv_bipush (v := 32) hx hb d_X_state_74 (by decide) ?_
    refine lv_idiv hx hb d_X_state_76 (by decide) ?_
    exact W.iret hx hb hr (fun t ht hW => ⟨congrArg (fun z => Outcome.returned (some (Value.int z))) (show ((st.1 0) / 32) = qf_X_state st x from (by unfold qf_X_state; rw [if_pos h1])), ht⟩) (fun _ h => absurd h List.not_mem_nil) d_X_state_77
  by_cases h2 : x = 1
  · refine lv_tableIn (tgt := 78) hx hb d_X_state_1 (by rw [h2]; decide) (by rw [h2]; decide) (by rw [h2]; rfl) (by decide) ?_
    refine lv_aload_n hx hb d_X_state_78 rfl (lv_at hl 0 rfl) ?_
    refine va_get (D := D) (ci := 3) (v := .ref (ad 1)) (C := R_X) (T := T_X) (N := 8) hx hb hts in_X hown hK hP 0 rfl rfl 0 (by decide) (hts (Cond.fieldLink R_X 7 "QueuedFrontsModel" "now" "[I") mw_370) (fun _ h9 => h9) rfl d_X_state_79 ?_
    refine lv_iconst (v := 0) hx hb d_X_state_82 (by decide) ?_
    refine va_iald hx hb hK hP 1 0 rfl rfl (show vp_in (0 : Int32) 86 from qi_lit (by decide)) d_X_state_83 ?_
    refine lv_bipush (v := 32) hx hb d_X_state_84 (by decide) ?_
    refine lv_irem hx hb d_X_state_86 (by decide) ?_
    exact W.iret hx hb hr (fun t ht hW => ⟨congrArg (fun z => Outcome.returned (some (Value.int z))) (show ((st.1 0) - ((st.1 0) / 32) * 32) = qf_X_state st x from (by unfold qf_X_state; rw [if_neg h1, if_pos h2])), ht⟩) (fun _ h => absurd h List.not_mem_nil) d_X_state_87
  by_cases h3 : x = 2
  · refine lv_tableIn (tgt := 88) hx hb d_X_state_1 (by rw [h3]; decide) (by rw [h3]; decide) (by rw [h3]; rfl) (by decide) ?_
    refine lv_aload_n hx hb d_X_state_88 rfl (lv_at hl 0 rfl) ?_
    refine va_get (D := D) (ci := 3) (v := .ref (ad 1)) (C := R_X) (T := T_X) (N := 8) hx hb hts in_X hown hK hP 0 rfl rfl 0 (by decide) (hts (Cond.fieldLink R_X 7 "QueuedFrontsModel" "now" "[I") mw_370) (fun _ h9 => h9) rfl d_X_state_89 ?_
    refine lv_iconst (v := 1) hx hb d_X_state_92 (by decide) ?_
    refine va_iald hx hb hK hP 1 0 rfl rfl (show vp_in (1 : Int32) 86 from qi_lit (by decide)) d_X_state_93 ?_
    refine lv_bipush (v := 32) hx hb d_X_state_94 (by decide) ?_
    refine lv_idiv hx hb d_X_state_96 (by decide) ?_
    exact W.iret hx hb hr (fun t ht hW => ⟨congrArg (fun z => Outcome.returned (some (Value.int z))) (show ((st.1 1) / 32) = qf_X_state st x from (by unfold qf_X_state; rw [if_neg h1, if_neg h2, if_pos h3])), ht⟩) (fun _ h => absurd h List.not_mem_nil) d_X_state_97
  by_cases h4 : x = 3
  · refine lv_tableIn (tgt := 98) hx hb d_X_state_1 (by rw [h4]; decide) (by rw [h4]; decide) (by rw [h4]; rfl) (by decide) ?_
    refine lv_aload_n hx hb d_X_state_98 rfl (lv_at hl 0 rfl) ?_
    refine va_get (D := D) (ci := 3) (v := .ref (ad 1)) (C := R_X) (T := T_X) (N := 8) hx hb hts in_X hown hK hP 0 rfl rfl 0 (by decide) (hts (Cond.fieldLink R_X 7 "QueuedFrontsModel" "now" "[I") mw_370) (fun _ h9 => h9) rfl d_X_state_99 ?_
    refine lv_iconst (v := 1) hx hb d_X_state_102 (by decide) ?_
    refine va_iald hx hb hK hP 1 0 rfl rfl (show vp_in (1 : Int32) 86 from qi_lit (by decide)) d_X_state_103 ?_
    refine lv_bipush (v := 32) hx hb d_X_state_104 (by decide) ?_
    refine lv_irem hx hb d_X_state_106 (by decide) ?_
    exact W.iret hx hb hr (fun t ht hW => ⟨congrArg (fun z => Outcome.returned (some (Value.int z))) (show ((st.1 1) - ((st.1 1) / 32) * 32) = qf_X_state st x from (by unfold qf_X_state; rw [if_neg h1, if_neg h2, if_neg h3, if_pos h4])), ht⟩) (fun _ h => absurd h List.not_mem_nil) d_X_state_107
  by_cases h5 : x = 4
  · refine lv_tableIn (tgt := 108) hx hb d_X_state_1 (by rw [h5]; decide) (by rw [h5]; decide) (by rw [h5]; rfl) (by decide) ?_
    refine lv_aload_n hx hb d_X_state_108 rfl (lv_at hl 0 rfl) ?_
    refine va_get (D := D) (ci := 3) (v := .ref (ad 1)) (C := R_X) (T := T_X) (N := 8) hx hb hts in_X hown hK hP 0 rfl rfl 0 (by decide) (hts (Cond.fieldLink R_X 7 "QueuedFrontsModel" "now" "[I") mw_370) (fun _ h9 => h9) rfl d_X_state_109 ?_
    refine lv_iconst (v := 2) hx hb d_X_state_112 (by decide) ?_
    refine va_iald hx hb hK hP 1 0 rfl rfl (show vp_in (2 : Int32) 86 from qi_lit (by decide)) d_X_state_113 ?_
    exact W.iret hx hb hr (fun t ht hW => ⟨congrArg (fun z => Outcome.returned (some (Value.int z))) (show (st.1 2) = qf_X_state st x from (by unfold qf_X_state; rw [if_neg h1, if_neg h2, if_neg h3, if_neg h4, if_pos h5])), ht⟩) (fun _ h => absurd h List.not_mem_nil) d_X_state_114
  by_cases h6 : x = 5
  · refine lv_tableIn (tgt := 115) hx hb d_X_state_1 (by rw [h6]; decide) (by rw [h6]; decide) (by rw [h6]; rfl) (by decide) ?_
    refine lv_aload_n hx hb d_X_state_115 rfl (lv_at hl 0 rfl) ?_
    refine va_get (D := D) (ci := 3) (v := .ref (ad 1)) (C := R_X) (T := T_X) (N := 8) hx hb hts in_X hown hK hP 0 rfl rfl 0 (by decide) (hts (Cond.fieldLink R_X 7 "QueuedFrontsModel" "now" "[I") mw_370) (fun _ h9 => h9) rfl d_X_state_116 ?_
    refine lv_iconst (v := 3) hx hb d_X_state_119 (by decide) ?_
    refine va_iald hx hb hK hP 1 0 rfl rfl (show vp_in (3 : Int32) 86 from qi_lit (by decide)) d_X_state_120 ?_
    exact W.iret hx hb hr (fun t ht hW => ⟨congrArg (fun z => Outcome.returned (some (Value.int z))) (show (st.1 3) = qf_X_state st x from (by unfold qf_X_state; rw [if_neg h1, if_neg h2, if_neg h3, if_neg h4, if_neg h5, if_pos h6])), ht⟩) (fun _ h => absurd h List.not_mem_nil) d_X_state_121
  by_cases h7 : x = 6
  · refine lv_tableIn (tgt := 122) hx hb d_X_state_1 (by rw [h7]; decide) (by rw [h7]; decide) (by rw [h7]; rfl) (by decide) ?_
    refine lv_aload_n hx hb d_X_state_122 rfl (lv_at hl 0 rfl) ?_
    refine va_get (D := D) (ci := 3) (v := .ref (ad 1)) (C := R_X) (T := T_X) (N := 8) hx hb hts in_X hown hK hP 0 rfl rfl 0 (by decide) (hts (Cond.fieldLink R_X 7 "QueuedFrontsModel" "now" "[I") mw_370) (fun _ h9 => h9) rfl d_X_state_123 ?_
    refine lv_iconst (v := 4) hx hb d_X_state_126 (by decide) ?_
    refine va_iald hx hb hK hP 1 0 rfl rfl (show vp_in (4 : Int32) 86 from qi_lit (by decide)) d_X_state_127 ?_
    exact W.iret hx hb hr (fun t ht hW => ⟨congrArg (fun z => Outcome.returned (some (Value.int z))) (show (st.1 4) = qf_X_state st x from (by unfold qf_X_state; rw [if_neg h1, if_neg h2, if_neg h3, if_neg h4, if_neg h5, if_neg h6, if_pos h7])), ht⟩) (fun _ h => absurd h List.not_mem_nil) d_X_state_128
  by_cases h8 : x = 7
  · refine lv_tableIn (tgt := 129) hx hb d_X_state_1 (by rw [h8]; decide) (by rw [h8]; decide) (by rw [h8]; rfl) (by decide) ?_
    refine lv_aload_n hx hb d_X_state_129 rfl (lv_at hl 0 rfl) ?_
    refine va_get (D := D) (ci := 3) (v := .ref (ad 1)) (C := R_X) (T := T_X) (N := 8) hx hb hts in_X hown hK hP 0 rfl rfl 0 (by decide) (hts (Cond.fieldLink R_X 7 "QueuedFrontsModel" "now" "[I") mw_370) (fun _ h9 => h9) rfl d_X_state_130 ?_
    refine lv_iconst (v := 5) hx hb d_X_state_133 (by decide) ?_
    refine va_iald hx hb hK hP 1 0 rfl rfl (show vp_in (5 : Int32) 86 from qi_lit (by decide)) d_X_state_134 ?_
    refine lv_bipush (v := 32) hx hb d_X_state_135 (by decide) ?_
    refine lv_idiv hx hb d_X_state_137 (by decide) ?_
    exact W.iret hx hb hr (fun t ht hW => ⟨congrArg (fun z => Outcome.returned (some (Value.int z))) (show ((st.1 5) / 32) = qf_X_state st x from (by unfold qf_X_state; rw [if_neg h1, if_neg h2, if_neg h3, if_neg h4, if_neg h5, if_neg h6, if_neg h7, if_pos h8])), ht⟩) (fun _ h => absurd h List.not_mem_nil) d_X_state_138
  by_cases h9 : x = 8
  · refine lv_tableIn (tgt := 139) hx hb d_X_state_1 (by rw [h9]; decide) (by rw [h9]; decide) (by rw [h9]; rfl) (by decide) ?_
    refine lv_aload_n hx hb d_X_state_139 rfl (lv_at hl 0 rfl) ?_
    refine va_get (D := D) (ci := 3) (v := .ref (ad 1)) (C := R_X) (T := T_X) (N := 8) hx hb hts in_X hown hK hP 0 rfl rfl 0 (by decide) (hts (Cond.fieldLink R_X 7 "QueuedFrontsModel" "now" "[I") mw_370) (fun _ h9 => h9) rfl d_X_state_140 ?_
    refine lv_iconst (v := 5) hx hb d_X_state_143 (by decide) ?_
    refine va_iald hx hb hK hP 1 0 rfl rfl (show vp_in (5 : Int32) 86 from qi_lit (by decide)) d_X_state_144 ?_
    refine lv_bipush (v := 32) hx hb d_X_state_145 (by decide) ?_
    refine lv_irem hx hb d_X_state_147 (by decide) ?_
    exact W.iret hx hb hr (fun t ht hW => ⟨congrArg (fun z => Outcome.returned (some (Value.int z))) (show ((st.1 5) - ((st.1 5) / 32) * 32) = qf_X_state st x from (by unfold qf_X_state; rw [if_neg h1, if_neg h2, if_neg h3, if_neg h4, if_neg h5, if_neg h6, if_neg h7, if_neg h8, if_pos h9])), ht⟩) (fun _ h => absurd h List.not_mem_nil) d_X_state_148
  by_cases h10 : x = 9
  · refine lv_tableIn (tgt := 149) hx hb d_X_state_1 (by rw [h10]; decide) (by rw [h10]; decide) (by rw [h10]; rfl) (by decide) ?_
    refine lv_aload_n hx hb d_X_state_149 rfl (lv_at hl 0 rfl) ?_
    refine va_get (D := D) (ci := 3) (v := .ref (ad 1)) (C := R_X) (T := T_X) (N := 8) hx hb hts in_X hown hK hP 0 rfl rfl 0 (by decide) (hts (Cond.fieldLink R_X 7 "QueuedFrontsModel" "now" "[I") mw_370) (fun _ h9 => h9) rfl d_X_state_150 ?_
    refine lv_bipush (v := 6) hx hb d_X_state_153 (by decide) ?_
    refine va_iald hx hb hK hP 1 0 rfl rfl (show vp_in (6 : Int32) 86 from qi_lit (by decide)) d_X_state_155 ?_
    refine lv_bipush (v := 32) hx hb d_X_state_156 (by decide) ?_
    refine lv_idiv hx hb d_X_state_158 (by decide) ?_
    exact W.iret hx hb hr (fun t ht hW => ⟨congrArg (fun z => Outcome.returned (some (Value.int z))) (show ((st.1 6) / 32) = qf_X_state st x from (by unfold qf_X_state; rw [if_neg h1, if_neg h2, if_neg h3, if_neg h4, if_neg h5, if_neg h6, if_neg h7, if_neg h8, if_neg h9, if_pos h10])), ht⟩) (fun _ h => absurd h List.not_mem_nil) d_X_state_159
  by_cases h11 : x = 10
  · refine lv_tableIn (tgt := 160) hx hb d_X_state_1 (by rw [h11]; decide) (by rw [h11]; decide) (by rw [h11]; rfl) (by decide) ?_
    refine lv_aload_n hx hb d_X_state_160 rfl (lv_at hl 0 rfl) ?_
    refine va_get (D := D) (ci := 3) (v := .ref (ad 1)) (C := R_X) (T := T_X) (N := 8) hx hb hts in_X hown hK hP 0 rfl rfl 0 (by decide) (hts (Cond.fieldLink R_X 7 "QueuedFrontsModel" "now" "[I") mw_370) (fun _ h9 => h9) rfl d_X_state_161 ?_
    refine lv_bipush (v := 6) hx hb d_X_state_164 (by decide) ?_
    refine va_iald hx hb hK hP 1 0 rfl rfl (show vp_in (6 : Int32) 86 from qi_lit (by decide)) d_X_state_166 ?_
    refine lv_bipush (v := 32) hx hb d_X_state_167 (by decide) ?_
    refine lv_irem hx hb d_X_state_169 (by decide) ?_
    exact W.iret hx hb hr (fun t ht hW => ⟨congrArg (fun z => Outcome.returned (some (Value.int z))) (show ((st.1 6) - ((st.1 6) / 32) * 32) = qf_X_state st x from (by unfold qf_X_state; rw [if_neg h1, if_neg h2, if_neg h3, if_neg h4, if_neg h5, if_neg h6, if_neg h7, if_neg h8, if_neg h9, if_neg h10, if_pos h11])), ht⟩) (fun _ h => absurd h List.not_mem_nil) d_X_state_170
  by_cases h12 : x = 11
  · refine lv_tableIn (tgt := 171) hx hb d_X_state_1 (by rw [h12]; decide) (by rw [h12]; decide) (by rw [h12]; rfl) (by decide) ?_
    refine lv_aload_n hx hb d_X_state_171 rfl (lv_at hl 0 rfl) ?_
    refine va_get (D := D) (ci := 3) (v := .ref (ad 1)) (C := R_X) (T := T_X) (N := 8) hx hb hts in_X hown hK hP 0 rfl rfl 0 (by decide) (hts (Cond.fieldLink R_X 7 "QueuedFrontsModel" "now" "[I") mw_370) (fun _ h9 => h9) rfl d_X_state_172 ?_
    refine lv_bipush (v := 7) hx hb d_X_state_175 (by decide) ?_
    refine va_iald hx hb hK hP 1 0 rfl rfl (show vp_in (7 : Int32) 86 from qi_lit (by decide)) d_X_state_177 ?_
    exact W.iret hx hb hr (fun t ht hW => ⟨congrArg (fun z => Outcome.returned (some (Value.int z))) (show (st.1 7) = qf_X_state st x from (by unfold qf_X_state; rw [if_neg h1, if_neg h2, if_neg h3, if_neg h4, if_neg h5, if_neg h6, if_neg h7, if_neg h8, if_neg h9, if_neg h10, if_neg h11, if_pos h12])), ht⟩) (fun _ h => absurd h List.not_mem_nil) d_X_state_178
  by_cases h13 : x = 12
  · refine lv_tableIn (tgt := 179) hx hb d_X_state_1 (by rw [h13]; decide) (by rw [h13]; decide) (by rw [h13]; rfl) (by decide) ?_
    refine lv_aload_n hx hb d_X_state_179 rfl (lv_at hl 0 rfl) ?_
    refine va_get (D := D) (ci := 3) (v := .ref (ad 1)) (C := R_X) (T := T_X) (N := 8) hx hb hts in_X hown hK hP 0 rfl rfl 0 (by decide) (hts (Cond.fieldLink R_X 7 "QueuedFrontsModel" "now" "[I") mw_370) (fun _ h9 => h9) rfl d_X_state_180 ?_
    refine lv_bipush (v := 8) hx hb d_X_state_183 (by decide) ?_
    refine va_iald hx hb hK hP 1 0 rfl rfl (show vp_in (8 : Int32) 86 from qi_lit (by decide)) d_X_state_185 ?_
    exact W.iret hx hb hr (fun t ht hW => ⟨congrArg (fun z => Outcome.returned (some (Value.int z))) (show (st.1 8) = qf_X_state st x from (by unfold qf_X_state; rw [if_neg h1, if_neg h2, if_neg h3, if_neg h4, if_neg h5, if_neg h6, if_neg h7, if_neg h8, if_neg h9, if_neg h10, if_neg h11, if_neg h12, if_pos h13])), ht⟩) (fun _ h => absurd h List.not_mem_nil) d_X_state_186
  refine lv_tableOut (tgt := 187) hx hb d_X_state_1 (by have a0 := lv_neT (a := 0) h1 (by decide); have a1 := lv_neT (a := 1) h2 (by decide); have a2 := lv_neT (a := 2) h3 (by decide); have a3 := lv_neT (a := 3) h4 (by decide); have a4 := lv_neT (a := 4) h5 (by decide); have a5 := lv_neT (a := 5) h6 (by decide); have a6 := lv_neT (a := 6) h7 (by decide); have a7 := lv_neT (a := 7) h8 (by decide); have a8 := lv_neT (a := 8) h9 (by decide); have a9 := lv_neT (a := 9) h10 (by decide); have a10 := lv_neT (a := 10) h11 (by decide); have a11 := lv_neT (a := 11) h12 (by decide); have a12 := lv_neT (a := 12) h13 (by decide); omega) (by decide) ?_
  refine lv_iload_n hx hb d_X_state_187 rfl (lv_at hl 1 rfl) ?_
  refine lv_bipush (v := 13) hx hb d_X_state_188 (by decide) ?_
  refine lv_icmp_ne (tgt := 203) hx hb d_X_state_190 (by decide) (fun h14 => ?_) (fun h14 => ?_)
  · have h14 : ¬ (x = 13) := h14
    refine lv_iconst (v := (-1)) hx hb d_X_state_203 (by decide) ?_
    exact W.iret hx hb hr (fun t ht hW => ⟨congrArg (fun z => Outcome.returned (some (Value.int z))) (show (-1) = qf_X_state st x from (by unfold qf_X_state; rw [if_neg h1, if_neg h2, if_neg h3, if_neg h4, if_neg h5, if_neg h6, if_neg h7, if_neg h8, if_neg h9, if_neg h10, if_neg h11, if_neg h12, if_neg h13, if_neg h14])), ht⟩) (fun _ h => absurd h List.not_mem_nil) d_X_state_204
  · have h14 : x = 13 := h14
    refine lv_aload_n hx hb d_X_state_193 rfl (lv_at hl 0 rfl) ?_
    refine va_get (D := D) (ci := 3) (v := .ref (ad 1)) (C := R_X) (T := T_X) (N := 8) hx hb hts in_X hown hK hP 0 rfl rfl 0 (by decide) (hts (Cond.fieldLink R_X 7 "QueuedFrontsModel" "now" "[I") mw_370) (fun _ h9 => h9) rfl d_X_state_194 ?_
    refine lv_bipush (v := 9) hx hb d_X_state_197 (by decide) ?_
    refine va_iald hx hb hK hP 1 0 rfl rfl (show vp_in (9 : Int32) 86 from qi_lit (by decide)) d_X_state_199 ?_
    refine lv_goto (tgt := 204) hx hb d_X_state_200 (by decide) ?_
    exact W.iret hx hb hr (fun t ht hW => ⟨congrArg (fun z => Outcome.returned (some (Value.int z))) (show (st.1 9) = qf_X_state st x from (by unfold qf_X_state; rw [if_neg h1, if_neg h2, if_neg h3, if_neg h4, if_neg h5, if_neg h6, if_neg h7, if_neg h8, if_neg h9, if_neg h10, if_neg h11, if_neg h12, if_neg h13, if_pos h14])), ht⟩) (fun _ h => absurd h List.not_mem_nil) d_X_state_204
def qf_X_register (st : qs_X) (x : Int32) : Int32 :=
  if qf_X_isIn x (8 : Int32) = 0 then 0
  else (st.1 (Int32.toNatClampNeg (10 + x)))
set_option maxHeartbeats 4000000 in
set_option maxRecDepth 100000 in
theorem c_X_register (l : Launch) (D : va_G) (cA : ClassId) (ad : Nat → Nat) (st : qs_X) (x : Int32) : Met l y_X_register (Cond.code y_X_register b_X_register 2 (some .int) :: qx_T) ({ frames := 1, cells := 0, slots := 0, locals := 21 }) (qx_Pc D vwCl [(cA, .int)] (qw_X ad cA st) [.ref (ad 0), .int x]) (k2_QcV (.int (qf_X_register st x))) 0 0 (fun _ => False) := by
  refine Met.ofW (cc := b_X_register) (maxL := 2) (ret := (some .int)) (by decide) rfl ?_
  intro p e s m args below meth c s₁ B hml hv
  obtain ⟨rfl, hP, hK, hN, hD0⟩ := hv
  have hx := B.exec
  have hb := B.bytes
  have hr := B.returns
  have hts0 := atoms_spec (ws := Cond.code y_X_register b_X_register 2 (some .int) :: qx_T) B.pre
  have hts := fun w h => hts0 w (List.mem_cons_of_mem _ h)
  have hown : s.vm.findClass R_X = some m.cls := findClass_of_methodNamed B.named
  have hlocks := B.notSynchronized
  have hD : va_D (qx_ad (qw_X ad cA st)) (qw_X ad cA st) := ⟨hD0.1, fun k q hk => ⟨k, q.2, hk⟩⟩
  generalize hAe : qx_ad (qw_X ad cA st) = A at hD
  have hS : va_S A s.heap s.heap [] := va_S.rf
  have hl := lv_entry ([.ref (ad 0), .int x]) (n := 2) (Nat.le_of_ble_eq_true rfl)
  rw [lg_entry_eq]
  generalize (lg_sl ([.ref (ad 0), .int x]) ++ List.replicate (2 - (lg_sl ([.ref (ad 0), .int x])).length) Slot.unset).toArray = ls at hl ⊢
  have hl : lv_has ls 2 [(0, .ref (ad 0)), (1, .int x)] := hl
  refine lv_iload_n hx hb d_X_register_0 rfl (lv_at hl 1 rfl) ?_
  refine lv_bipush (v := 8) hx hb d_X_register_1 (by decide) ?_
  refine qx_rd (va_runS (As := [.int x, .int 8]) (rest := []) ⟨hx, hb, hml, hown, hts⟩ (c_X_isIn l D cA x 8) (qx_kS hts mw_399 mw_400 mw_33 mw_401 cd_X_isIn ⟨Nat.le_of_ble_eq_true rfl, Nat.le_of_ble_eq_true rfl⟩) (qx_preS hP hD hK hN [] rfl rfl) rfl rfl hl.1 rfl (lv_room (Nat.le_of_ble_eq_true rfl)) d_X_register_3 ⟨Nat.zero_le _, Nat.zero_le _⟩) ?_
  refine lv_if_eq (tgt := 21) hx hb d_X_register_6 (by decide) (fun h1 => ?_) (fun h1 => ?_)
  · have h1 : qf_X_isIn x (8 : Int32) = 0 := h1
    refine lv_iconst (v := 0) hx hb d_X_register_21 (by decide) ?_
    exact W.iret hx hb hr (fun t ht hW => ⟨congrArg (fun z => Outcome.returned (some (Value.int z))) (show 0 = qf_X_register st x from (by unfold qf_X_register; rw [if_pos h1])), ht⟩) (fun _ h => absurd h List.not_mem_nil) d_X_register_22
  · have h1 : ¬ (qf_X_isIn x (8 : Int32) = 0) := h1
    refine lv_aload_n hx hb d_X_register_9 rfl (lv_at hl 0 rfl) ?_
    refine va_get (D := D) (ci := 3) (v := .ref (ad 1)) (C := R_X) (T := T_X) (N := 8) hx hb hts in_X hown hK hP 0 rfl rfl 0 (by decide) (hts (Cond.fieldLink R_X 7 "QueuedFrontsModel" "now" "[I") mw_370) (fun _ h9 => h9) rfl d_X_register_10 ?_
    refine lv_bipush (v := 10) hx hb d_X_register_13 (by decide) ?_
    refine lv_iload_n hx hb d_X_register_15 rfl (lv_at hl 1 rfl) ?_
    refine lv_iadd hx hb d_X_register_16 ?_
    refine va_iald hx hb hK hP 1 0 rfl rfl (show vp_in (10 + x) 86 from qi_add 10 86 (by decide) (qi_ite (c := 8) (n := 8) (by decide) h1) (by decide) (by decide)) d_X_register_17 ?_
    refine lv_goto (tgt := 22) hx hb d_X_register_18 (by decide) ?_
    exact W.iret hx hb hr (fun t ht hW => ⟨congrArg (fun z => Outcome.returned (some (Value.int z))) (show (st.1 (Int32.toNatClampNeg (10 + x))) = qf_X_register st x from (by unfold qf_X_register; rw [if_neg h1])), ht⟩) (fun _ h => absurd h List.not_mem_nil) d_X_register_22
def qf_X_space (st : qs_X) (x : Int32) : Int32 :=
  if qf_X_isIn x (4 : Int32) = 0 then (-1)
  else (st.1 (Int32.toNatClampNeg (18 + x)))
set_option maxHeartbeats 4000000 in
set_option maxRecDepth 100000 in
theorem c_X_space (l : Launch) (D : va_G) (cA : ClassId) (ad : Nat → Nat) (st : qs_X) (x : Int32) : Met l y_X_space (Cond.code y_X_space b_X_space 2 (some .int) :: qx_T) ({ frames := 1, cells := 0, slots := 0, locals := 21 }) (qx_Pc D vwCl [(cA, .int)] (qw_X ad cA st) [.ref (ad 0), .int x]) (k2_QcV (.int (qf_X_space st x))) 0 0 (fun _ => False) := by
  refine Met.ofW (cc := b_X_space) (maxL := 2) (ret := (some .int)) (by decide) rfl ?_
  intro p e s m args below meth c s₁ B hml hv
  obtain ⟨rfl, hP, hK, hN, hD0⟩ := hv
  have hx := B.exec
  have hb := B.bytes
  have hr := B.returns
  have hts0 := atoms_spec (ws := Cond.code y_X_space b_X_space 2 (some .int) :: qx_T) B.pre
  have hts := fun w h => hts0 w (List.mem_cons_of_mem _ h)
  have hown : s.vm.findClass R_X = some m.cls := findClass_of_methodNamed B.named
  have hlocks := B.notSynchronized
  have hD : va_D (qx_ad (qw_X ad cA st)) (qw_X ad cA st) := ⟨hD0.1, fun k q hk => ⟨k, q.2, hk⟩⟩
  generalize hAe : qx_ad (qw_X ad cA st) = A at hD
  have hS : va_S A s.heap s.heap [] := va_S.rf
  have hl := lv_entry ([.ref (ad 0), .int x]) (n := 2) (Nat.le_of_ble_eq_true rfl)
  rw [lg_entry_eq]
  generalize (lg_sl ([.ref (ad 0), .int x]) ++ List.replicate (2 - (lg_sl ([.ref (ad 0), .int x])).length) Slot.unset).toArray = ls at hl ⊢
  have hl : lv_has ls 2 [(0, .ref (ad 0)), (1, .int x)] := hl
  refine lv_iload_n hx hb d_X_space_0 rfl (lv_at hl 1 rfl) ?_
  refine lv_iconst (v := 4) hx hb d_X_space_1 (by decide) ?_
  refine qx_rd (va_runS (As := [.int x, .int 4]) (rest := []) ⟨hx, hb, hml, hown, hts⟩ (c_X_isIn l D cA x 4) (qx_kS hts mw_399 mw_400 mw_33 mw_401 cd_X_isIn ⟨Nat.le_of_ble_eq_true rfl, Nat.le_of_ble_eq_true rfl⟩) (qx_preS hP hD hK hN [] rfl rfl) rfl rfl hl.1 rfl (lv_room (Nat.le_of_ble_eq_true rfl)) d_X_space_2 ⟨Nat.zero_le _, Nat.zero_le _⟩) ?_
  refine lv_if_eq (tgt := 20) hx hb d_X_space_5 (by decide) (fun h1 => ?_) (fun h1 => ?_)
  · have h1 : qf_X_isIn x (4 : Int32) = 0 := h1
    refine lv_iconst (v := (-1)) hx hb d_X_space_20 (by decide) ?_
    exact W.iret hx hb hr (fun t ht hW => ⟨congrArg (fun z => Outcome.returned (some (Value.int z))) (show (-1) = qf_X_space st x from (by unfold qf_X_space; rw [if_pos h1])), ht⟩) (fun _ h => absurd h List.not_mem_nil) d_X_space_21
  · have h1 : ¬ (qf_X_isIn x (4 : Int32) = 0) := h1
    refine lv_aload_n hx hb d_X_space_8 rfl (lv_at hl 0 rfl) ?_
    refine va_get (D := D) (ci := 3) (v := .ref (ad 1)) (C := R_X) (T := T_X) (N := 8) hx hb hts in_X hown hK hP 0 rfl rfl 0 (by decide) (hts (Cond.fieldLink R_X 7 "QueuedFrontsModel" "now" "[I") mw_370) (fun _ h9 => h9) rfl d_X_space_9 ?_
    refine lv_bipush (v := 18) hx hb d_X_space_12 (by decide) ?_
    refine lv_iload_n hx hb d_X_space_14 rfl (lv_at hl 1 rfl) ?_
    refine lv_iadd hx hb d_X_space_15 ?_
    refine va_iald hx hb hK hP 1 0 rfl rfl (show vp_in (18 + x) 86 from qi_add 18 86 (by decide) (qi_ite (c := 4) (n := 4) (by decide) h1) (by decide) (by decide)) d_X_space_16 ?_
    refine lv_goto (tgt := 21) hx hb d_X_space_17 (by decide) ?_
    exact W.iret hx hb hr (fun t ht hW => ⟨congrArg (fun z => Outcome.returned (some (Value.int z))) (show (st.1 (Int32.toNatClampNeg (18 + x))) = qf_X_space st x from (by unfold qf_X_space; rw [if_neg h1])), ht⟩) (fun _ h => absurd h List.not_mem_nil) d_X_space_21
def qf_X_word (st : qs_X) (x : Int32) (y : Int32) : Int32 :=
  if qf_X_isIn x (4 : Int32) = 0 then 0
  else if qf_X_isIn y (32 : Int32) = 0 then 0
  else (st.2.2.2.1 (Int32.toNatClampNeg (qf_X_place x y)))
set_option maxHeartbeats 4000000 in
set_option maxRecDepth 100000 in
theorem c_X_word (l : Launch) (D : va_G) (cA : ClassId) (ad : Nat → Nat) (st : qs_X) (x : Int32) (y : Int32) : Met l y_X_word (Cond.code y_X_word b_X_word 3 (some .int) :: qx_T) ({ frames := 1, cells := 0, slots := 0, locals := 21 }) (qx_Pc D vwCl [(cA, .int)] (qw_X ad cA st) [.ref (ad 0), .int x, .int y]) (k2_QcV (.int (qf_X_word st x y))) 0 0 (fun _ => False) := by
  refine Met.ofW (cc := b_X_word) (maxL := 3) (ret := (some .int)) (by decide) rfl ?_
  intro p e s m args below meth c s₁ B hml hv
  obtain ⟨rfl, hP, hK, hN, hD0⟩ := hv
  have hx := B.exec
  have hb := B.bytes
  have hr := B.returns
  have hts0 := atoms_spec (ws := Cond.code y_X_word b_X_word 3 (some .int) :: qx_T) B.pre
  have hts := fun w h => hts0 w (List.mem_cons_of_mem _ h)
  have hown : s.vm.findClass R_X = some m.cls := findClass_of_methodNamed B.named
  have hlocks := B.notSynchronized
  have hD : va_D (qx_ad (qw_X ad cA st)) (qw_X ad cA st) := ⟨hD0.1, fun k q hk => ⟨k, q.2, hk⟩⟩
  generalize hAe : qx_ad (qw_X ad cA st) = A at hD
  have hS : va_S A s.heap s.heap [] := va_S.rf
  have hl := lv_entry ([.ref (ad 0), .int x, .int y]) (n := 3) (Nat.le_of_ble_eq_true rfl)
  rw [lg_entry_eq]
  generalize (lg_sl ([.ref (ad 0), .int x, .int y]) ++ List.replicate (3 - (lg_sl ([.ref (ad 0), .int x, .int y])).length) Slot.unset).toArray = ls at hl ⊢
  have hl : lv_has ls 3 [(0, .ref (ad 0)), (1, .int x), (2, .int y)] := hl
  refine lv_iload_n hx hb d_X_word_0 rfl (lv_at hl 1 rfl) ?_
  refine lv_iconst (v := 4) hx hb d_X_word_1 (by decide) ?_
  refine qx_rd (va_runS (As := [.int x, .int 4]) (rest := []) ⟨hx, hb, hml, hown, hts⟩ (c_X_isIn l D cA x 4) (qx_kS hts mw_399 mw_400 mw_33 mw_401 cd_X_isIn ⟨Nat.le_of_ble_eq_true rfl, Nat.le_of_ble_eq_true rfl⟩) (qx_preS hP hD hK hN [] rfl rfl) rfl rfl hl.1 rfl (lv_room (Nat.le_of_ble_eq_true rfl)) d_X_word_2 ⟨Nat.zero_le _, Nat.zero_le _⟩) ?_
  refine lv_if_eq (tgt := 30) hx hb d_X_word_5 (by decide) (fun h1 => ?_) (fun h1 => ?_)
  · have h1 : qf_X_isIn x (4 : Int32) = 0 := h1
    refine lv_iconst (v := 0) hx hb d_X_word_30 (by decide) ?_
    exact W.iret hx hb hr (fun t ht hW => ⟨congrArg (fun z => Outcome.returned (some (Value.int z))) (show 0 = qf_X_word st x y from (by unfold qf_X_word; rw [if_pos h1])), ht⟩) (fun _ h => absurd h List.not_mem_nil) d_X_word_31
  · have h1 : ¬ (qf_X_isIn x (4 : Int32) = 0) := h1
    refine lv_iload_n hx hb d_X_word_8 rfl (lv_at hl 2 rfl) ?_
    refine lv_bipush (v := 32) hx hb d_X_word_9 (by decide) ?_
    refine qx_rd (va_runS (As := [.int y, .int 32]) (rest := []) ⟨hx, hb, hml, hown, hts⟩ (c_X_isIn l D cA y 32) (qx_kS hts mw_399 mw_400 mw_33 mw_401 cd_X_isIn ⟨Nat.le_of_ble_eq_true rfl, Nat.le_of_ble_eq_true rfl⟩) (qx_preS hP hD hK hN [] rfl rfl) rfl rfl hl.1 rfl (lv_room (Nat.le_of_ble_eq_true rfl)) d_X_word_11 ⟨Nat.zero_le _, Nat.zero_le _⟩) ?_
    refine lv_if_eq (tgt := 30) hx hb d_X_word_14 (by decide) (fun h2 => ?_) (fun h2 => ?_)
    · have h2 : qf_X_isIn y (32 : Int32) = 0 := h2
      refine lv_iconst (v := 0) hx hb d_X_word_30 (by decide) ?_
      exact W.iret hx hb hr (fun t ht hW => ⟨congrArg (fun z => Outcome.returned (some (Value.int z))) (show 0 = qf_X_word st x y from (by unfold qf_X_word; rw [if_neg h1, if_pos h2])), ht⟩) (fun _ h => absurd h List.not_mem_nil) d_X_word_31
    · have h2 : ¬ (qf_X_isIn y (32 : Int32) = 0) := h2
      refine lv_aload_n hx hb d_X_word_17 rfl (lv_at hl 0 rfl) ?_
      refine va_get (D := D) (ci := 3) (v := .ref (ad 3)) (C := R_X) (T := T_X) (N := 8) hx hb hts in_X hown hK hP 0 rfl rfl 3 (by decide) (hts (Cond.fieldLink R_X 16 "QueuedFrontsModel" "code" "[I") mw_373) (fun _ h9 => h9) rfl d_X_word_18 ?_
      refine lv_iload_n hx hb d_X_word_21 rfl (lv_at hl 1 rfl) ?_
      refine lv_iload_n hx hb d_X_word_22 rfl (lv_at hl 2 rfl) ?_
      refine qx_rd (va_runS (As := [.int x, .int y]) (rest := [.ref (ad 3)]) ⟨hx, hb, hml, hown, hts⟩ (c_X_place l D cA x y) (qx_kS hts mw_402 mw_403 mw_33 mw_404 cd_X_place ⟨Nat.le_of_ble_eq_true rfl, Nat.le_of_ble_eq_true rfl⟩) (qx_preS hP hD hK hN [] rfl rfl) rfl rfl hl.1 rfl (lv_room (Nat.le_of_ble_eq_true rfl)) d_X_word_23 ⟨Nat.zero_le _, Nat.zero_le _⟩) ?_
      refine va_iald hx hb hK hP 3 0 rfl rfl (show vp_in (qf_X_place x y) 128 from qi_Xp _ _) d_X_word_26 ?_
      refine lv_goto (tgt := 31) hx hb d_X_word_27 (by decide) ?_
      exact W.iret hx hb hr (fun t ht hW => ⟨congrArg (fun z => Outcome.returned (some (Value.int z))) (show (st.2.2.2.1 (Int32.toNatClampNeg (qf_X_place x y))) = qf_X_word st x y from (by unfold qf_X_word; rw [if_neg h1, if_neg h2])), ht⟩) (fun _ h => absurd h List.not_mem_nil) d_X_word_31
def qf_X_peek (st : qs_X) (x : Int32) (y : Int32) : Int32 :=
  if qf_X_isIn x (4 : Int32) = 0 then 0
  else if qf_X_isIn y (16 : Int32) = 0 then 0
  else (st.1 (Int32.toNatClampNeg ((22 + (16 * x)) + y)))
set_option maxHeartbeats 4000000 in
set_option maxRecDepth 100000 in
theorem c_X_peek (l : Launch) (D : va_G) (cA : ClassId) (ad : Nat → Nat) (st : qs_X) (x : Int32) (y : Int32) : Met l y_X_peek (Cond.code y_X_peek b_X_peek 3 (some .int) :: qx_T) ({ frames := 1, cells := 0, slots := 0, locals := 21 }) (qx_Pc D vwCl [(cA, .int)] (qw_X ad cA st) [.ref (ad 0), .int x, .int y]) (k2_QcV (.int (qf_X_peek st x y))) 0 0 (fun _ => False) := by
  refine Met.ofW (cc := b_X_peek) (maxL := 3) (ret := (some .int)) (by decide) rfl ?_
  intro p e s m args below meth c s₁ B hml hv
  obtain ⟨rfl, hP, hK, hN, hD0⟩ := hv
  have hx := B.exec
  have hb := B.bytes
  have hr := B.returns
  have hts0 := atoms_spec (ws := Cond.code y_X_peek b_X_peek 3 (some .int) :: qx_T) B.pre
  have hts := fun w h => hts0 w (List.mem_cons_of_mem _ h)
  have hown : s.vm.findClass R_X = some m.cls := findClass_of_methodNamed B.named
  have hlocks := B.notSynchronized
  have hD : va_D (qx_ad (qw_X ad cA st)) (qw_X ad cA st) := ⟨hD0.1, fun k q hk => ⟨k, q.2, hk⟩⟩
  generalize hAe : qx_ad (qw_X ad cA st) = A at hD
  have hS : va_S A s.heap s.heap [] := va_S.rf
  have hl := lv_entry ([.ref (ad 0), .int x, .int y]) (n := 3) (Nat.le_of_ble_eq_true rfl)
  rw [lg_entry_eq]
  generalize (lg_sl ([.ref (ad 0), .int x, .int y]) ++ List.replicate (3 - (lg_sl ([.ref (ad 0), .int x, .int y])).length) Slot.unset).toArray = ls at hl ⊢
  have hl : lv_has ls 3 [(0, .ref (ad 0)), (1, .int x), (2, .int y)] := hl
  refine lv_iload_n hx hb d_X_peek_0 rfl (lv_at hl 1 rfl) ?_
  refine lv_iconst (v := 4) hx hb d_X_peek_1 (by decide) ?_
  refine qx_rd (va_runS (As := [.int x, .int 4]) (rest := []) ⟨hx, hb, hml, hown, hts⟩ (c_X_isIn l D cA x 4) (qx_kS hts mw_399 mw_400 mw_33 mw_401 cd_X_isIn ⟨Nat.le_of_ble_eq_true rfl, Nat.le_of_ble_eq_true rfl⟩) (qx_preS hP hD hK hN [] rfl rfl) rfl rfl hl.1 rfl (lv_room (Nat.le_of_ble_eq_true rfl)) d_X_peek_2 ⟨Nat.zero_le _, Nat.zero_le _⟩) ?_
  refine lv_if_eq (tgt := 34) hx hb d_X_peek_5 (by decide) (fun h1 => ?_) (fun h1 => ?_)
  · have h1 : qf_X_isIn x (4 : Int32) = 0 := h1
    refine lv_iconst (v := 0) hx hb d_X_peek_34 (by decide) ?_
    exact W.iret hx hb hr (fun t ht hW => ⟨congrArg (fun z => Outcome.returned (some (Value.int z))) (show 0 = qf_X_peek st x y from (by unfold qf_X_peek; rw [if_pos h1])), ht⟩) (fun _ h => absurd h List.not_mem_nil) d_X_peek_35
  · have h1 : ¬ (qf_X_isIn x (4 : Int32) = 0) := h1
    refine lv_iload_n hx hb d_X_peek_8 rfl (lv_at hl 2 rfl) ?_
    refine lv_bipush (v := 16) hx hb d_X_peek_9 (by decide) ?_
    refine qx_rd (va_runS (As := [.int y, .int 16]) (rest := []) ⟨hx, hb, hml, hown, hts⟩ (c_X_isIn l D cA y 16) (qx_kS hts mw_399 mw_400 mw_33 mw_401 cd_X_isIn ⟨Nat.le_of_ble_eq_true rfl, Nat.le_of_ble_eq_true rfl⟩) (qx_preS hP hD hK hN [] rfl rfl) rfl rfl hl.1 rfl (lv_room (Nat.le_of_ble_eq_true rfl)) d_X_peek_11 ⟨Nat.zero_le _, Nat.zero_le _⟩) ?_
    refine lv_if_eq (tgt := 34) hx hb d_X_peek_14 (by decide) (fun h2 => ?_) (fun h2 => ?_)
    · have h2 : qf_X_isIn y (16 : Int32) = 0 := h2
      refine lv_iconst (v := 0) hx hb d_X_peek_34 (by decide) ?_
      exact W.iret hx hb hr (fun t ht hW => ⟨congrArg (fun z => Outcome.returned (some (Value.int z))) (show 0 = qf_X_peek st x y from (by unfold qf_X_peek; rw [if_neg h1, if_pos h2])), ht⟩) (fun _ h => absurd h List.not_mem_nil) d_X_peek_35
    · have h2 : ¬ (qf_X_isIn y (16 : Int32) = 0) := h2
      refine lv_aload_n hx hb d_X_peek_17 rfl (lv_at hl 0 rfl) ?_
      refine va_get (D := D) (ci := 3) (v := .ref (ad 1)) (C := R_X) (T := T_X) (N := 8) hx hb hts in_X hown hK hP 0 rfl rfl 0 (by decide) (hts (Cond.fieldLink R_X 7 "QueuedFrontsModel" "now" "[I") mw_370) (fun _ h9 => h9) rfl d_X_peek_18 ?_
      refine lv_bipush (v := 22) hx hb d_X_peek_21 (by decide) ?_
      refine lv_bipush (v := 16) hx hb d_X_peek_23 (by decide) ?_
      refine lv_iload_n hx hb d_X_peek_25 rfl (lv_at hl 1 rfl) ?_
      refine lv_imul hx hb d_X_peek_26 ?_
      refine lv_iadd hx hb d_X_peek_27 ?_
      refine lv_iload_n hx hb d_X_peek_28 rfl (lv_at hl 2 rfl) ?_
      refine lv_iadd hx hb d_X_peek_29 ?_
      refine va_iald hx hb hK hP 1 0 rfl rfl (show vp_in ((22 + (16 * x)) + y) 86 from qi_Xd (qi_ite (c := 4) (n := 4) (by decide) h1) (qi_ite (c := 16) (n := 16) (by decide) h2)) d_X_peek_30 ?_
      refine lv_goto (tgt := 35) hx hb d_X_peek_31 (by decide) ?_
      exact W.iret hx hb hr (fun t ht hW => ⟨congrArg (fun z => Outcome.returned (some (Value.int z))) (show (st.1 (Int32.toNatClampNeg ((22 + (16 * x)) + y))) = qf_X_peek st x y from (by unfold qf_X_peek; rw [if_neg h1, if_neg h2])), ht⟩) (fun _ h => absurd h List.not_mem_nil) d_X_peek_35
def qf_X_count (st : qs_X) (x : Int32) : Int32 :=
  if qf_X_isIn x (7 : Int32) = 0 then (-1)
  else (st.2.2.2.2.1 (Int32.toNatClampNeg x))
set_option maxHeartbeats 4000000 in
set_option maxRecDepth 100000 in
theorem c_X_count (l : Launch) (D : va_G) (cA : ClassId) (ad : Nat → Nat) (st : qs_X) (x : Int32) : Met l y_X_count (Cond.code y_X_count b_X_count 2 (some .int) :: qx_T) ({ frames := 1, cells := 0, slots := 0, locals := 21 }) (qx_Pc D vwCl [(cA, .int)] (qw_X ad cA st) [.ref (ad 0), .int x]) (k2_QcV (.int (qf_X_count st x))) 0 0 (fun _ => False) := by
  refine Met.ofW (cc := b_X_count) (maxL := 2) (ret := (some .int)) (by decide) rfl ?_
  intro p e s m args below meth c s₁ B hml hv
  obtain ⟨rfl, hP, hK, hN, hD0⟩ := hv
  have hx := B.exec
  have hb := B.bytes
  have hr := B.returns
  have hts0 := atoms_spec (ws := Cond.code y_X_count b_X_count 2 (some .int) :: qx_T) B.pre
  have hts := fun w h => hts0 w (List.mem_cons_of_mem _ h)
  have hown : s.vm.findClass R_X = some m.cls := findClass_of_methodNamed B.named
  have hlocks := B.notSynchronized
  have hD : va_D (qx_ad (qw_X ad cA st)) (qw_X ad cA st) := ⟨hD0.1, fun k q hk => ⟨k, q.2, hk⟩⟩
  generalize hAe : qx_ad (qw_X ad cA st) = A at hD
  have hS : va_S A s.heap s.heap [] := va_S.rf
  have hl := lv_entry ([.ref (ad 0), .int x]) (n := 2) (Nat.le_of_ble_eq_true rfl)
  rw [lg_entry_eq]
  generalize (lg_sl ([.ref (ad 0), .int x]) ++ List.replicate (2 - (lg_sl ([.ref (ad 0), .int x])).length) Slot.unset).toArray = ls at hl ⊢
  have hl : lv_has ls 2 [(0, .ref (ad 0)), (1, .int x)] := hl
  refine lv_iload_n hx hb d_X_count_0 rfl (lv_at hl 1 rfl) ?_
  refine lv_bipush (v := 7) hx hb d_X_count_1 (by decide) ?_
  refine qx_rd (va_runS (As := [.int x, .int 7]) (rest := []) ⟨hx, hb, hml, hown, hts⟩ (c_X_isIn l D cA x 7) (qx_kS hts mw_399 mw_400 mw_33 mw_401 cd_X_isIn ⟨Nat.le_of_ble_eq_true rfl, Nat.le_of_ble_eq_true rfl⟩) (qx_preS hP hD hK hN [] rfl rfl) rfl rfl hl.1 rfl (lv_room (Nat.le_of_ble_eq_true rfl)) d_X_count_3 ⟨Nat.zero_le _, Nat.zero_le _⟩) ?_
  refine lv_if_eq (tgt := 18) hx hb d_X_count_6 (by decide) (fun h1 => ?_) (fun h1 => ?_)
  · have h1 : qf_X_isIn x (7 : Int32) = 0 := h1
    refine lv_iconst (v := (-1)) hx hb d_X_count_18 (by decide) ?_
    exact W.iret hx hb hr (fun t ht hW => ⟨congrArg (fun z => Outcome.returned (some (Value.int z))) (show (-1) = qf_X_count st x from (by unfold qf_X_count; rw [if_pos h1])), ht⟩) (fun _ h => absurd h List.not_mem_nil) d_X_count_19
  · have h1 : ¬ (qf_X_isIn x (7 : Int32) = 0) := h1
    refine lv_aload_n hx hb d_X_count_9 rfl (lv_at hl 0 rfl) ?_
    refine va_get (D := D) (ci := 3) (v := .ref (ad 4)) (C := R_X) (T := T_X) (N := 8) hx hb hts in_X hown hK hP 0 rfl rfl 4 (by decide) (hts (Cond.fieldLink R_X 19 "QueuedFrontsModel" "counts" "[I") mw_374) (fun _ h9 => h9) rfl d_X_count_10 ?_
    refine lv_iload_n hx hb d_X_count_13 rfl (lv_at hl 1 rfl) ?_
    refine va_iald hx hb hK hP 4 0 rfl rfl (show vp_in x 7 from (qi_ite (c := 7) (n := 7) (by decide) h1)) d_X_count_14 ?_
    refine lv_goto (tgt := 19) hx hb d_X_count_15 (by decide) ?_
    exact W.iret hx hb hr (fun t ht hW => ⟨congrArg (fun z => Outcome.returned (some (Value.int z))) (show (st.2.2.2.2.1 (Int32.toNatClampNeg x)) = qf_X_count st x from (by unfold qf_X_count; rw [if_neg h1])), ht⟩) (fun _ h => absurd h List.not_mem_nil) d_X_count_19
theorem qi_pair {σ : Type} {S : σ} {x : Int32} {n : Nat} (h : decide (¬ (x < 0 ∨ n ≤ x.toNatClampNeg)) = true) : vp_in ((S, x) : σ × Int32).2 n := qi_lit h
theorem qi_if2 {σ : Type} {c : Prop} [Decidable c] {x y : σ × Int32} {n : Nat} (hx : vp_in x.2 n) (hy : vp_in y.2 n) : vp_in (if c then x else y).2 n := by
  by_cases h : c
  · rw [if_pos h]; exact hx
  · rw [if_neg h]; exact hy
theorem qi_sX {g : Nat → Int32} (hs : ∀ k : Nat, k < 4 → vp_in (g (18 + k)) 4) (x : Int32) : vp_in (g (Int32.toNatClampNeg (18 + (x &&& 3)))) 4 := by
  obtain ⟨j, hj, e⟩ := vp_in_of (qi_and3 x) (by decide)
  rw [e, show (18 : Int32) = nI 18 from rfl, nI_add, nI_clamp (by omega)]
  exact hs j hj
theorem qf_X_touch_c (st : qs_X) (w : Int32) (k : Int32) (x : Int32) (y : Int32) : vp_in (qf_X_touch st w k x y).2 7 := by
  unfold qf_X_touch
  exact (qi_if2 (qi_pair (by decide)) (qi_if2 (qi_pair (by decide)) (qi_pair (by decide))))
theorem qf_X_manage_c (st : qs_X) (w : Int32) (k : Int32) (x : Int32) (y : Int32) : vp_in (qf_X_manage st w k x y).2 7 := by
  unfold qf_X_manage
  exact (qi_if2 (qi_pair (by decide)) (qi_if2 (qi_pair (by decide)) (qi_if2 (qi_pair (by decide)) (qi_if2 (qi_pair (by decide)) (qi_if2 (qi_pair (by decide)) (qi_if2 (qi_pair (by decide)) (qi_if2 (qi_pair (by decide)) (qi_pair (by decide)))))))))
