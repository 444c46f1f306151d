def qf_M_control (st : qs_M) (w : Int32) : qs_M :=
  if qf_Pa_kind w = 18 then (qm_M_fl (qm_M_sp st (upd st.2.1 (Int32.toNatClampNeg (qf_Pa_spaceRegister w)) (qf_M_valueA st w &&& 3))) (qf_F_moveOn st.2.2.2.1 (0 : Int32)))
  else if qf_Pa_kind w = 19 then (qm_M_fl (qf_M_setT st w (qf_M_valueS st w)) (qf_F_moveOn (qf_M_setT st w (qf_M_valueS st w)).2.2.2.1 (0 : Int32)))
  else if qf_Pa_kind w = 20 then (qm_M_fl (qf_M_setT st w st.2.2.2.1.2.2.2) (qf_F_moveOn (qm_F_l (qf_M_setT st w st.2.2.2.1.2.2.2).2.2.2.1 (qf_Pa_n w)) (0 : Int32)))
  else if qf_Pa_kind w = 21 then (qm_M_fl st (qf_F_moveOn st.2.2.2.1 (0 : Int32)))
  else if qf_Pa_kind w = 22 then (qm_M_fl (qf_M_setT st w (qf_M_savedThing st (qf_Pa_m w))) (qf_F_moveOn (qf_M_setT st w (qf_M_savedThing st (qf_Pa_m w))).2.2.2.1 (0 : Int32)))
  else if qf_Pa_kind w = 23 then (qm_M_fl (qf_M_setSavedThing st (qf_Pa_m w) (qf_M_valueA st w)) (qf_F_moveOn (qf_M_setSavedThing st (qf_Pa_m w) (qf_M_valueA st w)).2.2.2.1 (0 : Int32)))
  else (qm_M_fl st (qf_F_moveOn st.2.2.2.1 (0 : Int32)))
set_option maxHeartbeats 4000000 in
set_option maxRecDepth 100000 in
theorem c_M_control (l : Launch) (D : va_G) (cA : ClassId) (ad : Nat → Nat) (st : qs_M) (w : Int32) : Met l y_M_control (Cond.code y_M_control b_M_control 2 none :: qx_T) ({ frames := 3, cells := 0, slots := 0, locals := 62 }) (qx_Pc D vwCl [(cA, .int)] (qw_M ad cA st) [.ref (ad 0), .int w]) (qx_Q D vwCl (qw_M ad cA (qf_M_control st w)) (qx_ad (qw_M ad cA st)) none) 0 0 (qx_ad (qw_M ad cA st)) := by
  refine Met.ofW (cc := b_M_control) (maxL := 2) (ret := none) (by decide) rfl ?_
  intro p e s m args below meth c s₁ B hml hv
  obtain ⟨rfl, hP, hK, hN, hD0⟩ := hv
  have hx := B.exec
  have hb := B.bytes
  have hr := B.returns
  have hts0 := atoms_spec (ws := Cond.code y_M_control b_M_control 2 none :: qx_T) B.pre
  have hts := fun w h => hts0 w (List.mem_cons_of_mem _ h)
  have hown : s.vm.findClass R_M = some m.cls := findClass_of_methodNamed B.named
  have hlocks := B.notSynchronized
  have hD : va_D (qx_ad (qw_M ad cA st)) (qw_M ad cA st) := ⟨hD0.1, fun k q hk => ⟨k, q.2, hk⟩⟩
  generalize hAe : qx_ad (qw_M ad cA st) = A at hD ⊢
  have hS : va_S A s.heap s.heap [] := va_S.rf
  have hl := lv_entry ([.ref (ad 0), .int w]) (n := 2) (Nat.le_of_ble_eq_true rfl)
  rw [lg_entry_eq]
  generalize (lg_sl ([.ref (ad 0), .int w]) ++ List.replicate (2 - (lg_sl ([.ref (ad 0), .int w])).length) Slot.unset).toArray = ls at hl ⊢
  have hl : lv_has ls 2 [(0, .ref (ad 0)), (1, .int w)] := hl
  refine lv_iload_n hx hb d_M_control_0 rfl (lv_at hl 1 rfl) ?_
  refine qx_rd (va_runS (As := [.int w]) (rest := []) ⟨hx, hb, hml, hown, hts⟩ (c_Pa_kind l D cA w) (qx_kS hts mw_217 mw_218 mw_34 mw_219 cd_Pa_kind ⟨Nat.le_of_ble_eq_true rfl, Nat.le_of_ble_eq_true rfl⟩) (qx_preS hP hD hK hN [] rfl rfl) rfl rfl hl.1 rfl (lv_room (Nat.le_of_ble_eq_true rfl)) d_M_control_1 ⟨Nat.zero_le _, Nat.zero_le _⟩) ?_
  by_cases h1 : qf_Pa_kind w = 18
  · refine lv_tableIn (tgt := 44) hx hb d_M_control_4 (by rw [h1]; decide) (by rw [h1]; decide) (by rw [h1]; rfl) (by decide) ?_
    refine lv_aload_n hx hb d_M_control_44 rfl (lv_at hl 0 rfl) ?_
    refine va_get (D := D) (ci := 1) (v := .ref (ad 2)) (C := R_M) (T := T_M) (N := 7) hx hb hts in_M hown hK hP 0 rfl rfl 1 (by decide) (hts (Cond.fieldLink R_M 15 "QueuedFronts$Machine" "spaceRegisters" "[I") mw_97) (fun _ h9 => h9) rfl d_M_control_45 ?_
    refine lv_iload_n hx hb d_M_control_48 rfl (lv_at hl 1 rfl) ?_
    refine qx_rd (va_runS (As := [.int w]) (rest := [.ref (ad 2)]) ⟨hx, hb, hml, hown, hts⟩ (c_Pa_spaceRegister l D cA w) (qx_kS hts mw_284 mw_285 mw_34 mw_286 cd_Pa_spaceRegister ⟨Nat.le_of_ble_eq_true rfl, Nat.le_of_ble_eq_true rfl⟩) (qx_preS hP hD hK hN [] rfl rfl) rfl rfl hl.1 rfl (lv_room (Nat.le_of_ble_eq_true rfl)) d_M_control_49 ⟨Nat.zero_le _, Nat.zero_le _⟩) ?_
    refine lv_aload_n hx hb d_M_control_52 rfl (lv_at hl 0 rfl) ?_
    refine lv_iload_n hx hb d_M_control_53 rfl (lv_at hl 1 rfl) ?_
    refine qx_rd (va_runV (As := [.int w]) (rest := [.int (qf_Pa_spaceRegister w), .ref (ad 2)]) ⟨hx, hb, hml, hown, hts⟩ (c_M_valueA l D cA ad st w) (qx_kV hts mw_220 mw_222 mw_2 mw_30 mw_223 cd_M_valueA ⟨Nat.le_of_ble_eq_true rfl, Nat.le_of_ble_eq_true rfl⟩) (qx_preV (q0 := 0) (ci := 1) (q := (R_M, T_M, 7)) hP hD hK hN [0, 1, 2, 3, 4, 5] rfl rfl rfl rfl) rfl rfl hl.1 rfl (lv_room (Nat.le_of_ble_eq_true rfl)) d_M_control_54 ⟨Nat.zero_le _, Nat.zero_le _⟩) ?_
    refine lv_iconst (v := 3) hx hb d_M_control_57 (by decide) ?_
    refine lv_iand hx hb d_M_control_58 ?_
    refine va_iast hx hb hK hP hD hS 2 0 rfl rfl (show vp_in (qf_Pa_spaceRegister w) 4 from qi_and3 _) d_M_control_59 (fun H locs hP hD hS => ?_)
    have hP : va_P D vwCl (qw_M ad cA (qm_M_sp st (upd st.2.1 (Int32.toNatClampNeg (qf_Pa_spaceRegister w)) (qf_M_valueA st w &&& 3)))) H := hP
    have hD : va_D A (qw_M ad cA (qm_M_sp st (upd st.2.1 (Int32.toNatClampNeg (qf_Pa_spaceRegister w)) (qf_M_valueA st w &&& 3)))) := hD
    refine lv_goto (tgt := 134) hx hb d_M_control_60 (by decide) ?_
    refine lv_aload_n hx hb d_M_control_134 rfl (lv_at hl 0 rfl) ?_
    refine va_get (D := D) (ci := 1) (v := .ref (ad 4)) (C := R_M) (T := T_M) (N := 7) hx hb hts in_M hown hK hP 0 rfl rfl 3 (by decide) (hts (Cond.fieldLink R_M 24 "QueuedFronts$Machine" "flow" "LQueuedFronts$Flow;") mw_101) (fun _ h9 => h9) rfl d_M_control_135 ?_
    refine lv_iconst (v := 0) hx hb d_M_control_138 (by decide) ?_
    refine qx_muZ (T := qf_F_moveOn st.2.2.2.1 (0 : Int32)) (Wf := fun zz : qs_F => qw_M ad cA (qm_M_fl (qm_M_sp st (upd st.2.1 (Int32.toNatClampNeg (qf_Pa_spaceRegister w)) (qf_M_valueA st w &&& 3))) zz)) (vf := fun _ => none) (va_runV (As := [.int 0]) (rest := []) ⟨hx, hb, hml, hown, hts⟩ (c_F_moveOn l D cA (ad 4) st.2.2.2.1 0) (qx_kV hts mw_275 mw_206 mw_207 mw_31 mw_208 cd_F_moveOn ⟨Nat.le_of_ble_eq_true rfl, Nat.le_of_ble_eq_true rfl⟩) (qx_preV (q0 := 4) (ci := 2) (q := (R_F, T_F, 4)) hP hD hK hN [4] rfl rfl rfl rfl) rfl rfl hl.1 rfl (lv_room (Nat.le_of_ble_eq_true rfl)) d_M_control_139 ⟨Nat.zero_le _, Nat.zero_le _⟩) hP hD hS [4] rfl rfl [ad 0, ad 1, ad 2, ad 3, ad 4, ad 5] rfl rfl (fun zz1 hzz1 H locs hP hD hS => ?_)
    have hP : va_P D vwCl (qw_M ad cA (qm_M_fl (qm_M_sp st (upd st.2.1 (Int32.toNatClampNeg (qf_Pa_spaceRegister w)) (qf_M_valueA st w &&& 3))) zz1)) H := hP
    have hD : va_D A (qw_M ad cA (qm_M_fl (qm_M_sp st (upd st.2.1 (Int32.toNatClampNeg (qf_Pa_spaceRegister w)) (qf_M_valueA st w &&& 3))) zz1)) := hD
    refine W.eq (g2 := F0 m 142 ls []) rfl ?_
    subst hzz1
    have e9 : (qm_M_fl (qm_M_sp st (upd st.2.1 (Int32.toNatClampNeg (qf_Pa_spaceRegister w)) (qf_M_valueA st w &&& 3))) (qf_F_moveOn st.2.2.2.1 (0 : Int32))) = qf_M_control st w := (by unfold qf_M_control; rw [if_pos h1])
    exact W.vret hx hb hr (fun t ht hW => ⟨rfl, (by rw [ht, ← e9]; exact hP), hS.F ht⟩) hS.2.2 d_M_control_142
  by_cases h2 : qf_Pa_kind w = 19
  · refine lv_tableIn (tgt := 63) hx hb d_M_control_4 (by rw [h2]; decide) (by rw [h2]; decide) (by rw [h2]; rfl) (by decide) ?_
    refine lv_aload_n hx hb d_M_control_63 rfl (lv_at hl 0 rfl) ?_
    refine lv_iload_n hx hb d_M_control_64 rfl (lv_at hl 1 rfl) ?_
    refine lv_aload_n hx hb d_M_control_65 rfl (lv_at hl 0 rfl) ?_
    refine lv_iload_n hx hb d_M_control_66 rfl (lv_at hl 1 rfl) ?_
    refine qx_rd (va_runV (As := [.int w]) (rest := [.int w, .ref (ad 0)]) ⟨hx, hb, hml, hown, hts⟩ (c_M_valueS l D cA ad st w) (qx_kV hts mw_280 mw_282 mw_7 mw_30 mw_283 cd_M_valueS ⟨Nat.le_of_ble_eq_true rfl, Nat.le_of_ble_eq_true rfl⟩) (qx_preV (q0 := 0) (ci := 1) (q := (R_M, T_M, 7)) hP hD hK hN [0, 1, 2, 3, 4, 5] rfl rfl rfl rfl) rfl rfl hl.1 rfl (lv_room (Nat.le_of_ble_eq_true rfl)) d_M_control_67 ⟨Nat.zero_le _, Nat.zero_le _⟩) ?_
    refine qx_muZ (T := qf_M_setT st w (qf_M_valueS st w)) (Wf := fun zz : qs_M => qw_M ad cA zz) (vf := fun _ => none) (va_runV (As := [.int w, .int (qf_M_valueS st w)]) (rest := []) ⟨hx, hb, hml, hown, hts⟩ (c_M_setT l D cA ad st w (qf_M_valueS st w)) (qx_kV hts mw_268 mw_270 mw_5 mw_30 mw_271 cd_M_setT ⟨Nat.le_of_ble_eq_true rfl, Nat.le_of_ble_eq_true rfl⟩) (qx_preV (q0 := 0) (ci := 1) (q := (R_M, T_M, 7)) hP hD hK hN [0, 1, 2, 3, 4, 5] rfl rfl rfl rfl) rfl rfl hl.1 rfl (lv_room (Nat.le_of_ble_eq_true rfl)) d_M_control_70 ⟨Nat.zero_le _, Nat.zero_le _⟩) hP hD hS [0, 1, 2, 3, 4, 5] rfl rfl [ad 0, ad 1, ad 2, ad 3, ad 4, ad 5] rfl rfl (fun zz1 hzz1 H locs hP hD hS => ?_)
    have hP : va_P D vwCl (qw_M ad cA zz1) H := hP
    have hD : va_D A (qw_M ad cA zz1) := hD
    refine W.eq (g2 := F0 m 73 ls []) rfl ?_
    refine lv_goto (tgt := 134) hx hb d_M_control_73 (by decide) ?_
    refine lv_aload_n hx hb d_M_control_134 rfl (lv_at hl 0 rfl) ?_
    refine va_get (D := D) (ci := 1) (v := .ref (ad 4)) (C := R_M) (T := T_M) (N := 7) hx hb hts in_M hown hK hP 0 rfl rfl 3 (by decide) (hts (Cond.fieldLink R_M 24 "QueuedFronts$Machine" "flow" "LQueuedFronts$Flow;") mw_101) (fun _ h9 => h9) rfl d_M_control_135 ?_
    refine lv_iconst (v := 0) hx hb d_M_control_138 (by decide) ?_
    refine qx_muZ (T := qf_F_moveOn zz1.2.2.2.1 (0 : Int32)) (Wf := fun zz : qs_F => qw_M ad cA (qm_M_fl zz1 zz)) (vf := fun _ => none) (va_runV (As := [.int 0]) (rest := []) ⟨hx, hb, hml, hown, hts⟩ (c_F_moveOn l D cA (ad 4) zz1.2.2.2.1 0) (qx_kV hts mw_275 mw_206 mw_207 mw_31 mw_208 cd_F_moveOn ⟨Nat.le_of_ble_eq_true rfl, Nat.le_of_ble_eq_true rfl⟩) (qx_preV (q0 := 4) (ci := 2) (q := (R_F, T_F, 4)) hP hD hK hN [4] rfl rfl rfl rfl) rfl rfl hl.1 rfl (lv_room (Nat.le_of_ble_eq_true rfl)) d_M_control_139 ⟨Nat.zero_le _, Nat.zero_le _⟩) hP hD hS [4] rfl rfl [ad 0, ad 1, ad 2, ad 3, ad 4, ad 5] rfl rfl (fun zz2 hzz2 H locs hP hD hS => ?_)
    have hP : va_P D vwCl (qw_M ad cA (qm_M_fl zz1 zz2)) H := hP
    have hD : va_D A (qw_M ad cA (qm_M_fl zz1 zz2)) := hD
    refine W.eq (g2 := F0 m 142 ls []) rfl ?_
    subst hzz2
    subst hzz1
    have e9 : (qm_M_fl (qf_M_setT st w (qf_M_valueS st w)) (qf_F_moveOn (qf_M_setT st w (qf_M_valueS st w)).2.2.2.1 (0 : Int32))) = qf_M_control st w := (by unfold qf_M_control; rw [if_neg h1, if_pos h2])
    exact W.vret hx hb hr (fun t ht hW => ⟨rfl, (by rw [ht, ← e9]; exact hP), hS.F ht⟩) hS.2.2 d_M_control_142
  by_cases h3 : qf_Pa_kind w = 20
  · refine lv_tableIn (tgt := 76) hx hb d_M_control_4 (by rw [h3]; decide) (by rw [h3]; decide) (by rw [h3]; rfl) (by decide) ?_
    refine lv_aload_n hx hb d_M_control_76 rfl (lv_at hl 0 rfl) ?_
    refine lv_iload_n hx hb d_M_control_77 rfl (lv_at hl 1 rfl) ?_
    refine lv_aload_n hx hb d_M_control_78 rfl (lv_at hl 0 rfl) ?_
    refine va_get (D := D) (ci := 1) (v := .ref (ad 4)) (C := R_M) (T := T_M) (N := 7) hx hb hts in_M hown hK hP 0 rfl rfl 3 (by decide) (hts (Cond.fieldLink R_M 24 "QueuedFronts$Machine" "flow" "LQueuedFronts$Flow;") mw_101) (fun _ h9 => h9) rfl d_M_control_79 ?_
    refine va_get (D := D) (ci := 2) (v := .int st.2.2.2.1.2.2.2) (C := R_F) (T := T_F) (N := 4) hx hb hts in_F hown hK hP 4 rfl rfl 3 (by decide) (hts (Cond.fieldLink R_M 165 "QueuedFronts$Flow" "lets" "I") mw_68) (fun _ h9 => h9) rfl d_M_control_82 ?_
    refine qx_muZ (T := qf_M_setT st w st.2.2.2.1.2.2.2) (Wf := fun zz : qs_M => qw_M ad cA zz) (vf := fun _ => none) (va_runV (As := [.int w, .int st.2.2.2.1.2.2.2]) (rest := []) ⟨hx, hb, hml, hown, hts⟩ (c_M_setT l D cA ad st w st.2.2.2.1.2.2.2) (qx_kV hts mw_268 mw_270 mw_5 mw_30 mw_271 cd_M_setT ⟨Nat.le_of_ble_eq_true rfl, Nat.le_of_ble_eq_true rfl⟩) (qx_preV (q0 := 0) (ci := 1) (q := (R_M, T_M, 7)) hP hD hK hN [0, 1, 2, 3, 4, 5] rfl rfl rfl rfl) rfl rfl hl.1 rfl (lv_room (Nat.le_of_ble_eq_true rfl)) d_M_control_85 ⟨Nat.zero_le _, Nat.zero_le _⟩) hP hD hS [0, 1, 2, 3, 4, 5] rfl rfl [ad 0, ad 1, ad 2, ad 3, ad 4, ad 5] rfl rfl (fun zz1 hzz1 H locs hP hD hS => ?_)
    have hP : va_P D vwCl (qw_M ad cA zz1) H := hP
    have hD : va_D A (qw_M ad cA zz1) := hD
    refine W.eq (g2 := F0 m 88 ls []) rfl ?_
    refine lv_aload_n hx hb d_M_control_88 rfl (lv_at hl 0 rfl) ?_
    refine va_get (D := D) (ci := 1) (v := .ref (ad 4)) (C := R_M) (T := T_M) (N := 7) hx hb hts in_M hown hK hP 0 rfl rfl 3 (by decide) (hts (Cond.fieldLink R_M 24 "QueuedFronts$Machine" "flow" "LQueuedFronts$Flow;") mw_101) (fun _ h9 => h9) rfl d_M_control_89 ?_
    refine lv_iload_n hx hb d_M_control_92 rfl (lv_at hl 1 rfl) ?_
    refine qx_rd (va_runS (As := [.int w]) (rest := [.ref (ad 4)]) ⟨hx, hb, hml, hown, hts⟩ (c_Pa_n l D cA w) (qx_kS hts mw_252 mw_253 mw_34 mw_254 cd_Pa_n ⟨Nat.le_of_ble_eq_true rfl, Nat.le_of_ble_eq_true rfl⟩) (qx_preS hP hD hK hN [] rfl rfl) rfl rfl hl.1 rfl (lv_room (Nat.le_of_ble_eq_true rfl)) d_M_control_93 ⟨Nat.zero_le _, Nat.zero_le _⟩) ?_
    refine va_put (D := D) (ci := 2) (v := .int (qf_Pa_n w)) (ty := .int) (C := R_F) (T := T_F) (N := 4) hx hb hts in_F ty_F tyok_F nm_F hown hK hP hD hS 4 rfl rfl 3 (by decide) (hts (Cond.fieldLink R_M 165 "QueuedFronts$Flow" "lets" "I") mw_68) (fun _ h9 => h9) rfl (by decide +kernel) rfl rfl (Nat.le_of_ble_eq_true rfl) d_M_control_96 (fun H locs hP hD hS => ?_)
    have hP : va_P D vwCl (qw_M ad cA (qm_M_fl zz1 (qm_F_l zz1.2.2.2.1 (qf_Pa_n w)))) H := hP
    have hD : va_D A (qw_M ad cA (qm_M_fl zz1 (qm_F_l zz1.2.2.2.1 (qf_Pa_n w)))) := hD
    refine lv_goto (tgt := 134) hx hb d_M_control_99 (by decide) ?_
    refine lv_aload_n hx hb d_M_control_134 rfl (lv_at hl 0 rfl) ?_
    refine va_get (D := D) (ci := 1) (v := .ref (ad 4)) (C := R_M) (T := T_M) (N := 7) hx hb hts in_M hown hK hP 0 rfl rfl 3 (by decide) (hts (Cond.fieldLink R_M 24 "QueuedFronts$Machine" "flow" "LQueuedFronts$Flow;") mw_101) (fun _ h9 => h9) rfl d_M_control_135 ?_
    refine lv_iconst (v := 0) hx hb d_M_control_138 (by decide) ?_
    refine qx_muZ (T := qf_F_moveOn (qm_F_l zz1.2.2.2.1 (qf_Pa_n w)) (0 : Int32)) (Wf := fun zz : qs_F => qw_M ad cA (qm_M_fl zz1 zz)) (vf := fun _ => none) (va_runV (As := [.int 0]) (rest := []) ⟨hx, hb, hml, hown, hts⟩ (c_F_moveOn l D cA (ad 4) (qm_F_l zz1.2.2.2.1 (qf_Pa_n w)) 0) (qx_kV hts mw_275 mw_206 mw_207 mw_31 mw_208 cd_F_moveOn ⟨Nat.le_of_ble_eq_true rfl, Nat.le_of_ble_eq_true rfl⟩) (qx_preV (q0 := 4) (ci := 2) (q := (R_F, T_F, 4)) hP hD hK hN [4] rfl rfl rfl rfl) rfl rfl hl.1 rfl (lv_room (Nat.le_of_ble_eq_true rfl)) d_M_control_139 ⟨Nat.zero_le _, Nat.zero_le _⟩) hP hD hS [4] rfl rfl [ad 0, ad 1, ad 2, ad 3, ad 4, ad 5] rfl rfl (fun zz2 hzz2 H locs hP hD hS => ?_)
    have hP : va_P D vwCl (qw_M ad cA (qm_M_fl zz1 zz2)) H := hP
    have hD : va_D A (qw_M ad cA (qm_M_fl zz1 zz2)) := hD
    refine W.eq (g2 := F0 m 142 ls []) rfl ?_
    subst hzz2
    subst hzz1
    have e9 : (qm_M_fl (qf_M_setT st w st.2.2.2.1.2.2.2) (qf_F_moveOn (qm_F_l (qf_M_setT st w st.2.2.2.1.2.2.2).2.2.2.1 (qf_Pa_n w)) (0 : Int32))) = qf_M_control st w := (by unfold qf_M_control; rw [if_neg h1, if_neg h2, if_pos h3])
    exact W.vret hx hb hr (fun t ht hW => ⟨rfl, (by rw [ht, ← e9]; exact hP), hS.F ht⟩) hS.2.2 d_M_control_142
  by_cases h4 : qf_Pa_kind w = 21
  · refine lv_tableIn (tgt := 134) hx hb d_M_control_4 (by rw [h4]; decide) (by rw [h4]; decide) (by rw [h4]; rfl) (by decide) ?_
    refine lv_aload_n hx hb d_M_control_134 rfl (lv_at hl 0 rfl) ?_
    refine va_get (D := D) (ci := 1) (v := .ref (ad 4)) (C := R_M) (T := T_M) (N := 7) hx hb hts in_M hown hK hP 0 rfl rfl 3 (by decide) (hts (Cond.fieldLink R_M 24 "QueuedFronts$Machine" "flow" "LQueuedFronts$Flow;") mw_101) (fun _ h9 => h9) rfl d_M_control_135 ?_
    refine lv_iconst (v := 0) hx hb d_M_control_138 (by decide) ?_
    refine qx_muZ (T := qf_F_moveOn st.2.2.2.1 (0 : Int32)) (Wf := fun zz : qs_F => qw_M ad cA (qm_M_fl st zz)) (vf := fun _ => none) (va_runV (As := [.int 0]) (rest := []) ⟨hx, hb, hml, hown, hts⟩ (c_F_moveOn l D cA (ad 4) st.2.2.2.1 0) (qx_kV hts mw_275 mw_206 mw_207 mw_31 mw_208 cd_F_moveOn ⟨Nat.le_of_ble_eq_true rfl, Nat.le_of_ble_eq_true rfl⟩) (qx_preV (q0 := 4) (ci := 2) (q := (R_F, T_F, 4)) hP hD hK hN [4] rfl rfl rfl rfl) rfl rfl hl.1 rfl (lv_room (Nat.le_of_ble_eq_true rfl)) d_M_control_139 ⟨Nat.zero_le _, Nat.zero_le _⟩) hP hD hS [4] rfl rfl [ad 0, ad 1, ad 2, ad 3, ad 4, ad 5] rfl rfl (fun zz1 hzz1 H locs hP hD hS => ?_)
    have hP : va_P D vwCl (qw_M ad cA (qm_M_fl st zz1)) H := hP
    have hD : va_D A (qw_M ad cA (qm_M_fl st zz1)) := hD
    refine W.eq (g2 := F0 m 142 ls []) rfl ?_
    subst hzz1
    have e9 : (qm_M_fl st (qf_F_moveOn st.2.2.2.1 (0 : Int32))) = qf_M_control st w := (by unfold qf_M_control; rw [if_neg h1, if_neg h2, if_neg h3, if_pos h4])
    exact W.vret hx hb hr (fun t ht hW => ⟨rfl, (by rw [ht, ← e9]; exact hP), hS.F ht⟩) hS.2.2 d_M_control_142
  by_cases h5 : qf_Pa_kind w = 22
  · refine lv_tableIn (tgt := 102) hx hb d_M_control_4 (by rw [h5]; decide) (by rw [h5]; decide) (by rw [h5]; rfl) (by decide) ?_
    refine lv_aload_n hx hb d_M_control_102 rfl (lv_at hl 0 rfl) ?_
    refine lv_iload_n hx hb d_M_control_103 rfl (lv_at hl 1 rfl) ?_
    refine lv_aload_n hx hb d_M_control_104 rfl (lv_at hl 0 rfl) ?_
    refine lv_iload_n hx hb d_M_control_105 rfl (lv_at hl 1 rfl) ?_
    refine qx_rd (va_runS (As := [.int w]) (rest := [.ref (ad 0), .int w, .ref (ad 0)]) ⟨hx, hb, hml, hown, hts⟩ (c_Pa_m l D cA w) (qx_kS hts mw_237 mw_238 mw_34 mw_239 cd_Pa_m ⟨Nat.le_of_ble_eq_true rfl, Nat.le_of_ble_eq_true rfl⟩) (qx_preS hP hD hK hN [] rfl rfl) rfl rfl hl.1 rfl (lv_room (Nat.le_of_ble_eq_true rfl)) d_M_control_106 ⟨Nat.zero_le _, Nat.zero_le _⟩) ?_
    refine qx_rd (va_runV (As := [.int (qf_Pa_m w)]) (rest := [.int w, .ref (ad 0)]) ⟨hx, hb, hml, hown, hts⟩ (c_M_savedThing l D cA ad st (qf_Pa_m w)) (qx_kV hts mw_315 mw_317 mw_13 mw_30 mw_318 cd_M_savedThing ⟨Nat.le_of_ble_eq_true rfl, Nat.le_of_ble_eq_true rfl⟩) (qx_preV (q0 := 0) (ci := 1) (q := (R_M, T_M, 7)) hP hD hK hN [0, 1, 2, 3, 4, 5] rfl rfl rfl rfl) rfl rfl hl.1 rfl (lv_room (Nat.le_of_ble_eq_true rfl)) d_M_control_109 ⟨Nat.zero_le _, Nat.zero_le _⟩) ?_
    refine qx_muZ (T := qf_M_setT st w (qf_M_savedThing st (qf_Pa_m w))) (Wf := fun zz : qs_M => qw_M ad cA zz) (vf := fun _ => none) (va_runV (As := [.int w, .int (qf_M_savedThing st (qf_Pa_m w))]) (rest := []) ⟨hx, hb, hml, hown, hts⟩ (c_M_setT l D cA ad st w (qf_M_savedThing st (qf_Pa_m w))) (qx_kV hts mw_268 mw_270 mw_5 mw_30 mw_271 cd_M_setT ⟨Nat.le_of_ble_eq_true rfl, Nat.le_of_ble_eq_true rfl⟩) (qx_preV (q0 := 0) (ci := 1) (q := (R_M, T_M, 7)) hP hD hK hN [0, 1, 2, 3, 4, 5] rfl rfl rfl rfl) rfl rfl hl.1 rfl (lv_room (Nat.le_of_ble_eq_true rfl)) d_M_control_112 ⟨Nat.zero_le _, Nat.zero_le _⟩) hP hD hS [0, 1, 2, 3, 4, 5] rfl rfl [ad 0, ad 1, ad 2, ad 3, ad 4, ad 5] rfl rfl (fun zz1 hzz1 H locs hP hD hS => ?_)
    have hP : va_P D vwCl (qw_M ad cA zz1) H := hP
    have hD : va_D A (qw_M ad cA zz1) := hD
    refine W.eq (g2 := F0 m 115 ls []) rfl ?_
    refine lv_goto (tgt := 134) hx hb d_M_control_115 (by decide) ?_
    refine lv_aload_n hx hb d_M_control_134 rfl (lv_at hl 0 rfl) ?_
    refine va_get (D := D) (ci := 1) (v := .ref (ad 4)) (C := R_M) (T := T_M) (N := 7) hx hb hts in_M hown hK hP 0 rfl rfl 3 (by decide) (hts (Cond.fieldLink R_M 24 "QueuedFronts$Machine" "flow" "LQueuedFronts$Flow;") mw_101) (fun _ h9 => h9) rfl d_M_control_135 ?_
    refine lv_iconst (v := 0) hx hb d_M_control_138 (by decide) ?_
    refine qx_muZ (T := qf_F_moveOn zz1.2.2.2.1 (0 : Int32)) (Wf := fun zz : qs_F => qw_M ad cA (qm_M_fl zz1 zz)) (vf := fun _ => none) (va_runV (As := [.int 0]) (rest := []) ⟨hx, hb, hml, hown, hts⟩ (c_F_moveOn l D cA (ad 4) zz1.2.2.2.1 0) (qx_kV hts mw_275 mw_206 mw_207 mw_31 mw_208 cd_F_moveOn ⟨Nat.le_of_ble_eq_true rfl, Nat.le_of_ble_eq_true rfl⟩) (qx_preV (q0 := 4) (ci := 2) (q := (R_F, T_F, 4)) hP hD hK hN [4] rfl rfl rfl rfl) rfl rfl hl.1 rfl (lv_room (Nat.le_of_ble_eq_true rfl)) d_M_control_139 ⟨Nat.zero_le _, Nat.zero_le _⟩) hP hD hS [4] rfl rfl [ad 0, ad 1, ad 2, ad 3, ad 4, ad 5] rfl rfl (fun zz2 hzz2 H locs hP hD hS => ?_)
    have hP : va_P D vwCl (qw_M ad cA (qm_M_fl zz1 zz2)) H := hP
    have hD : va_D A (qw_M ad cA (qm_M_fl zz1 zz2)) := hD
    refine W.eq (g2 := F0 m 142 ls []) rfl ?_
    subst hzz2
    subst hzz1
    have e9 : (qm_M_fl (qf_M_setT st w (qf_M_savedThing st (qf_Pa_m w))) (qf_F_moveOn (qf_M_setT st w (qf_M_savedThing st (qf_Pa_m w))).2.2.2.1 (0 : Int32))) = qf_M_control st w := (by unfold qf_M_control; rw [if_neg h1, if_neg h2, if_neg h3, if_neg h4, if_pos h5])
    exact W.vret hx hb hr (fun t ht hW => ⟨rfl, (by rw [ht, ← e9]; exact hP), hS.F ht⟩) hS.2.2 d_M_control_142
  by_cases h6 : qf_Pa_kind w = 23
  · refine lv_tableIn (tgt := 118) hx hb d_M_control_4 (by rw [h6]; decide) (by rw [h6]; decide) (by rw [h6]; rfl) (by decide) ?_
    refine lv_aload_n hx hb d_M_control_118 rfl (lv_at hl 0 rfl) ?_
    refine lv_iload_n hx hb d_M_control_119 rfl (lv_at hl 1 rfl) ?_
    refine qx_rd (va_runS (As := [.int w]) (rest := [.ref (ad 0)]) ⟨hx, hb, hml, hown, hts⟩ (c_Pa_m l D cA w) (qx_kS hts mw_237 mw_238 mw_34 mw_239 cd_Pa_m ⟨Nat.le_of_ble_eq_true rfl, Nat.le_of_ble_eq_true rfl⟩) (qx_preS hP hD hK hN [] rfl rfl) rfl rfl hl.1 rfl (lv_room (Nat.le_of_ble_eq_true rfl)) d_M_control_120 ⟨Nat.zero_le _, Nat.zero_le _⟩) ?_
    refine lv_aload_n hx hb d_M_control_123 rfl (lv_at hl 0 rfl) ?_
    refine lv_iload_n hx hb d_M_control_124 rfl (lv_at hl 1 rfl) ?_
    refine qx_rd (va_runV (As := [.int w]) (rest := [.int (qf_Pa_m w), .ref (ad 0)]) ⟨hx, hb, hml, hown, hts⟩ (c_M_valueA l D cA ad st w) (qx_kV hts mw_220 mw_222 mw_2 mw_30 mw_223 cd_M_valueA ⟨Nat.le_of_ble_eq_true rfl, Nat.le_of_ble_eq_true rfl⟩) (qx_preV (q0 := 0) (ci := 1) (q := (R_M, T_M, 7)) hP hD hK hN [0, 1, 2, 3, 4, 5] rfl rfl rfl rfl) rfl rfl hl.1 rfl (lv_room (Nat.le_of_ble_eq_true rfl)) d_M_control_125 ⟨Nat.zero_le _, Nat.zero_le _⟩) ?_
    refine qx_muZ (T := qf_M_setSavedThing st (qf_Pa_m w) (qf_M_valueA st w)) (Wf := fun zz : qs_M => qw_M ad cA zz) (vf := fun _ => none) (va_runV (As := [.int (qf_Pa_m w), .int (qf_M_valueA st w)]) (rest := []) ⟨hx, hb, hml, hown, hts⟩ (c_M_setSavedThing l D cA ad st (qf_Pa_m w) (qf_M_valueA st w)) (qx_kV hts mw_319 mw_321 mw_14 mw_30 mw_322 cd_M_setSavedThing ⟨Nat.le_of_ble_eq_true rfl, Nat.le_of_ble_eq_true rfl⟩) (qx_preV (q0 := 0) (ci := 1) (q := (R_M, T_M, 7)) hP hD hK hN [0, 1, 2, 3, 4, 5] rfl rfl rfl rfl) rfl rfl hl.1 rfl (lv_room (Nat.le_of_ble_eq_true rfl)) d_M_control_128 ⟨Nat.zero_le _, Nat.zero_le _⟩) hP hD hS [0, 1, 2, 3, 4, 5] rfl rfl [ad 0, ad 1, ad 2, ad 3, ad 4, ad 5] rfl rfl (fun zz1 hzz1 H locs hP hD hS => ?_)
    have hP : va_P D vwCl (qw_M ad cA zz1) H := hP
    have hD : va_D A (qw_M ad cA zz1) := hD
    refine W.eq (g2 := F0 m 131 ls []) rfl ?_
    refine lv_goto (tgt := 134) hx hb d_M_control_131 (by decide) ?_
    refine lv_aload_n hx hb d_M_control_134 rfl (lv_at hl 0 rfl) ?_
    refine va_get (D := D) (ci := 1) (v := .ref (ad 4)) (C := R_M) (T := T_M) (N := 7) hx hb hts in_M hown hK hP 0 rfl rfl 3 (by decide) (hts (Cond.fieldLink R_M 24 "QueuedFronts$Machine" "flow" "LQueuedFronts$Flow;") mw_101) (fun _ h9 => h9) rfl d_M_control_135 ?_
    refine lv_iconst (v := 0) hx hb d_M_control_138 (by decide) ?_
    refine qx_muZ (T := qf_F_moveOn zz1.2.2.2.1 (0 : Int32)) (Wf := fun zz : qs_F => qw_M ad cA (qm_M_fl zz1 zz)) (vf := fun _ => none) (va_runV (As := [.int 0]) (rest := []) ⟨hx, hb, hml, hown, hts⟩ (c_F_moveOn l D cA (ad 4) zz1.2.2.2.1 0) (qx_kV hts mw_275 mw_206 mw_207 mw_31 mw_208 cd_F_moveOn ⟨Nat.le_of_ble_eq_true rfl, Nat.le_of_ble_eq_true rfl⟩) (qx_preV (q0 := 4) (ci := 2) (q := (R_F, T_F, 4)) hP hD hK hN [4] rfl rfl rfl rfl) rfl rfl hl.1 rfl (lv_room (Nat.le_of_ble_eq_true rfl)) d_M_control_139 ⟨Nat.zero_le _, Nat.zero_le _⟩) hP hD hS [4] rfl rfl [ad 0, ad 1, ad 2, ad 3, ad 4, ad 5] rfl rfl (fun zz2 hzz2 H locs hP hD hS => ?_)
    have hP : va_P D vwCl (qw_M ad cA (qm_M_fl zz1 zz2)) H := hP
    have hD : va_D A (qw_M ad cA (qm_M_fl zz1 zz2)) := hD
    refine W.eq (g2 := F0 m 142 ls []) rfl ?_
    subst hzz2
    subst hzz1
    have e9 : (qm_M_fl (qf_M_setSavedThing st (qf_Pa_m w) (qf_M_valueA st w)) (qf_F_moveOn (qf_M_setSavedThing st (qf_Pa_m w) (qf_M_valueA st w)).2.2.2.1 (0 : Int32))) = qf_M_control st w := (by unfold qf_M_control; rw [if_neg h1, if_neg h2, if_neg h3, if_neg h4, if_neg h5, if_pos h6])
    exact W.vret hx hb hr (fun t ht hW => ⟨rfl, (by rw [ht, ← e9]; exact hP), hS.F ht⟩) hS.2.2 d_M_control_142
  refine lv_tableOut (tgt := 134) hx hb d_M_control_4 (by have a0 := lv_neT (a := 18) h1 (by decide); have a1 := lv_neT (a := 19) h2 (by decide); have a2 := lv_neT (a := 20) h3 (by decide); have a3 := lv_neT (a := 21) h4 (by decide); have a4 := lv_neT (a := 22) h5 (by decide); have a5 := lv_neT (a := 23) h6 (by decide); omega) (by decide) ?_
  refine lv_aload_n hx hb d_M_control_134 rfl (lv_at hl 0 rfl) ?_
  refine va_get (D := D) (ci := 1) (v := .ref (ad 4)) (C := R_M) (T := T_M) (N := 7) hx hb hts in_M hown hK hP 0 rfl rfl 3 (by decide) (hts (Cond.fieldLink R_M 24 "QueuedFronts$Machine" "flow" "LQueuedFronts$Flow;") mw_101) (fun _ h9 => h9) rfl d_M_control_135 ?_
  refine lv_iconst (v := 0) hx hb d_M_control_138 (by decide) ?_
  refine qx_muZ (T := qf_F_moveOn st.2.2.2.1 (0 : Int32)) (Wf := fun zz : qs_F => qw_M ad cA (qm_M_fl st zz)) (vf := fun _ => none) (va_runV (As := [.int 0]) (rest := []) ⟨hx, hb, hml, hown, hts⟩ (c_F_moveOn l D cA (ad 4) st.2.2.2.1 0) (qx_kV hts mw_275 mw_206 mw_207 mw_31 mw_208 cd_F_moveOn ⟨Nat.le_of_ble_eq_true rfl, Nat.le_of_ble_eq_true rfl⟩) (qx_preV (q0 := 4) (ci := 2) (q := (R_F, T_F, 4)) hP hD hK hN [4] rfl rfl rfl rfl) rfl rfl hl.1 rfl (lv_room (Nat.le_of_ble_eq_true rfl)) d_M_control_139 ⟨Nat.zero_le _, Nat.zero_le _⟩) hP hD hS [4] rfl rfl [ad 0, ad 1, ad 2, ad 3, ad 4, ad 5] rfl rfl (fun zz1 hzz1 H locs hP hD hS => ?_)
  have hP : va_P D vwCl (qw_M ad cA (qm_M_fl st zz1)) H := hP
  have hD : va_D A (qw_M ad cA (qm_M_fl st zz1)) := hD
  refine W.eq (g2 := F0 m 142 ls []) rfl ?_
  subst hzz1
  have e9 : (qm_M_fl st (qf_F_moveOn st.2.2.2.1 (0 : Int32))) = qf_M_control st w := (by unfold qf_M_control; rw [if_neg h1, if_neg h2, if_neg h3, if_neg h4, if_neg h5, if_neg h6])
  exact W.vret hx hb hr (fun t ht hW => ⟨rfl, (by rw [ht, ← e9]; exact hP), hS.F ht⟩) hS.2.2 d_M_control_142
