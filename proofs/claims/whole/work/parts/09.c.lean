def qf_M_moveData (st : qs_M) (w : Int32) : qs_M :=
  if qf_Q_isDataOffset (qf_M_valueA st w + qf_Pa_m w) = 0 then (qm_M_fl st (qf_F_moveOn st.2.2.2.1 (0 : Int32)))
  else if qf_Pa_kind w = 11 then (qm_M_fl (qf_M_setT st w (st.2.2.1 (Int32.toNatClampNeg (qf_Q_dataIndex (qf_M_valueS st w) (qf_M_valueA st w + qf_Pa_m w))))) (qf_F_moveOn (qf_M_setT st w (st.2.2.1 (Int32.toNatClampNeg (qf_Q_dataIndex (qf_M_valueS st w) (qf_M_valueA st w + qf_Pa_m w))))).2.2.2.1 (0 : Int32)))
  else (qm_M_fl (qm_M_dt st (upd st.2.2.1 (Int32.toNatClampNeg (qf_Q_dataIndex (qf_M_valueS st w) (qf_M_valueA st w + qf_Pa_m w))) (qf_M_valueT st w))) (qf_F_moveOn st.2.2.2.1 (0 : Int32)))
set_option maxHeartbeats 4000000 in
set_option maxRecDepth 100000 in
theorem c_M_moveData (l : Launch) (D : va_G) (cA : ClassId) (ad : Nat → Nat) (st : qs_M) (w : Int32) (hs : ∀ k : Nat, k < 4 → vp_in (st.2.1 k) 4) : Met l y_M_moveData (Cond.code y_M_moveData b_M_moveData 4 none :: qx_T) ({ frames := 3, cells := 0, slots := 0, locals := 62 }) (qx_Pc D vwCl [(cA, .int)] (qw_M ad cA st) [.ref (ad 0), .int w]) (qx_Q D vwCl (qw_M ad cA (qf_M_moveData st w)) (qx_ad (qw_M ad cA st)) none) 0 0 (qx_ad (qw_M ad cA st)) := by
  refine Met.ofW (cc := b_M_moveData) (maxL := 4) (ret := none) (by decide) rfl ?_
  intro p e s m args below meth c s₁ B hml hv
  obtain ⟨rfl, hP, hK, hN, hD0⟩ := hv
  have hx := B.exec
  have hb := B.bytes
  have hr := B.returns
  have hts0 := atoms_spec (ws := Cond.code y_M_moveData b_M_moveData 4 none :: qx_T) B.pre
  have hts := fun w h => hts0 w (List.mem_cons_of_mem _ h)
  have hown : s.vm.findClass R_M = some m.cls := findClass_of_methodNamed B.named
  have hlocks := B.notSynchronized
  have hD : va_D (qx_ad (qw_M ad cA st)) (qw_M ad cA st) := ⟨hD0.1, fun k q hk => ⟨k, q.2, hk⟩⟩
  generalize hAe : qx_ad (qw_M ad cA st) = A at hD ⊢
  have hS : va_S A s.heap s.heap [] := va_S.rf
  have hl := lv_entry ([.ref (ad 0), .int w]) (n := 4) (Nat.le_of_ble_eq_true rfl)
  rw [lg_entry_eq]
  generalize (lg_sl ([.ref (ad 0), .int w]) ++ List.replicate (4 - (lg_sl ([.ref (ad 0), .int w])).length) Slot.unset).toArray = ls at hl ⊢
  have hl : lv_has ls 4 [(0, .ref (ad 0)), (1, .int w)] := hl
  refine lv_aload_n hx hb d_M_moveData_0 rfl (lv_at hl 0 rfl) ?_
  refine lv_iload_n hx hb d_M_moveData_1 rfl (lv_at hl 1 rfl) ?_
  refine qx_rd (va_runV (As := [.int w]) (rest := []) ⟨hx, hb, hml, hown, hts⟩ (c_M_valueA l D cA ad st w) (qx_kV hts mw_220 mw_222 mw_2 mw_30 mw_223 cd_M_valueA ⟨Nat.le_of_ble_eq_true rfl, Nat.le_of_ble_eq_true rfl⟩) (qx_preV (q0 := 0) (ci := 1) (q := (R_M, T_M, 7)) hP hD hK hN [0, 1, 2, 3, 4, 5] rfl rfl rfl rfl) rfl rfl hl.1 rfl (lv_room (Nat.le_of_ble_eq_true rfl)) d_M_moveData_2 ⟨Nat.zero_le _, Nat.zero_le _⟩) ?_
  refine lv_iload_n hx hb d_M_moveData_5 rfl (lv_at hl 1 rfl) ?_
  refine qx_rd (va_runS (As := [.int w]) (rest := [.int (qf_M_valueA st w)]) ⟨hx, hb, hml, hown, hts⟩ (c_Pa_m l D cA w) (qx_kS hts mw_237 mw_238 mw_34 mw_239 cd_Pa_m ⟨Nat.le_of_ble_eq_true rfl, Nat.le_of_ble_eq_true rfl⟩) (qx_preS hP hD hK hN [] rfl rfl) rfl rfl hl.1 rfl (lv_room (Nat.le_of_ble_eq_true rfl)) d_M_moveData_6 ⟨Nat.zero_le _, Nat.zero_le _⟩) ?_
  refine lv_iadd hx hb d_M_moveData_9 ?_
  refine lv_istore_n (lv' := [(2, .int (qf_M_valueA st w + qf_Pa_m w)), (0, .ref (ad 0)), (1, .int w)]) hx hb d_M_moveData_10 rfl hl (by decide) rfl (fun ls hl => ?_)
  refine lv_iload_n hx hb d_M_moveData_11 rfl (lv_at hl 0 rfl) ?_
  refine qx_rd (va_runSN (As := [.int (qf_M_valueA st w + qf_Pa_m w)]) (rest := []) ⟨hx, hb, hml, hown, hts⟩ (c_Q_isDataOffset l D cA (qf_M_valueA st w + qf_Pa_m w)) (qx_kSN hts hN.2.1 mw_156 mw_29 mw_157 cd_Q_isDataOffset ⟨Nat.le_of_ble_eq_true rfl, Nat.le_of_ble_eq_true rfl⟩) (qx_preS hP hD hK hN [] rfl rfl) rfl rfl hl.1 rfl (lv_room (Nat.le_of_ble_eq_true rfl)) d_M_moveData_12 ⟨Nat.zero_le _, Nat.zero_le _⟩) ?_
  refine lv_if_eq (tgt := 62) hx hb d_M_moveData_15 (by decide) (fun h1 => ?_) (fun h1 => ?_)
  · have h1 : qf_Q_isDataOffset (qf_M_valueA st w + qf_Pa_m w) = 0 := h1
    refine lv_aload_n hx hb d_M_moveData_62 rfl (lv_at hl 1 rfl) ?_
    refine va_get (D := D) (ci := 1) (v := .ref (ad 4)) (C := R_M) (T := T_M) (N := 7) hx hb hts in_M hown hK hP 0 rfl rfl 3 (by decide) (hts (Cond.fieldLink R_M 24 "QueuedFronts$Machine" "flow" "LQueuedFronts$Flow;") mw_101) (fun _ h9 => h9) rfl d_M_moveData_63 ?_
    refine lv_iconst (v := 0) hx hb d_M_moveData_66 (by decide) ?_
    refine qx_muZ (T := qf_F_moveOn st.2.2.2.1 (0 : Int32)) (Wf := fun zz : qs_F => qw_M ad cA (qm_M_fl st zz)) (vf := fun _ => none) (va_runV (As := [.int 0]) (rest := []) ⟨hx, hb, hml, hown, hts⟩ (c_F_moveOn l D cA (ad 4) st.2.2.2.1 0) (qx_kV hts mw_275 mw_206 mw_207 mw_31 mw_208 cd_F_moveOn ⟨Nat.le_of_ble_eq_true rfl, Nat.le_of_ble_eq_true rfl⟩) (qx_preV (q0 := 4) (ci := 2) (q := (R_F, T_F, 4)) hP hD hK hN [4] rfl rfl rfl rfl) rfl rfl hl.1 rfl (lv_room (Nat.le_of_ble_eq_true rfl)) d_M_moveData_67 ⟨Nat.zero_le _, Nat.zero_le _⟩) hP hD hS [4] rfl rfl [ad 0, ad 1, ad 2, ad 3, ad 4, ad 5] rfl rfl (fun zz1 hzz1 H locs hP hD hS => ?_)
    have hP : va_P D vwCl (qw_M ad cA (qm_M_fl st zz1)) H := hP
    have hD : va_D A (qw_M ad cA (qm_M_fl st zz1)) := hD
    refine W.eq (g2 := F0 m 70 ls []) rfl ?_
    subst hzz1
    have e9 : (qm_M_fl st (qf_F_moveOn st.2.2.2.1 (0 : Int32))) = qf_M_moveData st w := (by unfold qf_M_moveData; rw [if_pos h1])
    exact W.vret hx hb hr (fun t ht hW => ⟨rfl, (by rw [ht, ← e9]; exact hP), hS.F ht⟩) hS.2.2 d_M_moveData_70
  · have h1 : ¬ (qf_Q_isDataOffset (qf_M_valueA st w + qf_Pa_m w) = 0) := h1
    refine lv_aload_n hx hb d_M_moveData_18 rfl (lv_at hl 1 rfl) ?_
    refine lv_iload_n hx hb d_M_moveData_19 rfl (lv_at hl 2 rfl) ?_
    refine qx_rd (va_runV (As := [.int w]) (rest := []) ⟨hx, hb, hml, hown, hts⟩ (c_M_valueS l D cA ad st w) (qx_kV hts mw_280 mw_282 mw_7 mw_30 mw_283 cd_M_valueS ⟨Nat.le_of_ble_eq_true rfl, Nat.le_of_ble_eq_true rfl⟩) (qx_preV (q0 := 0) (ci := 1) (q := (R_M, T_M, 7)) hP hD hK hN [0, 1, 2, 3, 4, 5] rfl rfl rfl rfl) rfl rfl hl.1 rfl (lv_room (Nat.le_of_ble_eq_true rfl)) d_M_moveData_20 ⟨Nat.zero_le _, Nat.zero_le _⟩) ?_
    refine lv_iload_n hx hb d_M_moveData_23 rfl (lv_at hl 0 rfl) ?_
    refine qx_rd (va_runSN (As := [.int (qf_M_valueS st w), .int (qf_M_valueA st w + qf_Pa_m w)]) (rest := []) ⟨hx, hb, hml, hown, hts⟩ (c_Q_dataIndex l D cA (qf_M_valueS st w) (qf_M_valueA st w + qf_Pa_m w)) (qx_kSN hts hN.2.2 mw_159 mw_29 mw_160 cd_Q_dataIndex ⟨Nat.le_of_ble_eq_true rfl, Nat.le_of_ble_eq_true rfl⟩) (qx_preS hP hD hK hN [] rfl rfl) rfl rfl hl.1 rfl (lv_room (Nat.le_of_ble_eq_true rfl)) d_M_moveData_24 ⟨Nat.zero_le _, Nat.zero_le _⟩) ?_
    refine lv_istore_n (lv' := [(3, .int (qf_Q_dataIndex (qf_M_valueS st w) (qf_M_valueA st w + qf_Pa_m w))), (2, .int (qf_M_valueA st w + qf_Pa_m w)), (0, .ref (ad 0)), (1, .int w)]) hx hb d_M_moveData_27 rfl hl (by decide) rfl (fun ls hl => ?_)
    refine lv_iload_n hx hb d_M_moveData_28 rfl (lv_at hl 3 rfl) ?_
    refine qx_rd (va_runS (As := [.int w]) (rest := []) ⟨hx, hb, hml, hown, hts⟩ (c_Pa_kind l D cA w) (qx_kS hts mw_217 mw_218 mw_34 mw_219 cd_Pa_kind ⟨Nat.le_of_ble_eq_true rfl, Nat.le_of_ble_eq_true rfl⟩) (qx_preS hP hD hK hN [] rfl rfl) rfl rfl hl.1 rfl (lv_room (Nat.le_of_ble_eq_true rfl)) d_M_moveData_29 ⟨Nat.zero_le _, Nat.zero_le _⟩) ?_
    refine lv_bipush (v := 11) hx hb d_M_moveData_32 (by decide) ?_
    refine lv_icmp_ne (tgt := 51) hx hb d_M_moveData_34 (by decide) (fun h2 => ?_) (fun h2 => ?_)
    · have h2 : ¬ (qf_Pa_kind w = 11) := h2
      refine lv_aload_n hx hb d_M_moveData_51 rfl (lv_at hl 2 rfl) ?_
      refine va_get (D := D) (ci := 1) (v := .ref (ad 3)) (C := R_M) (T := T_M) (N := 7) hx hb hts in_M hown hK hP 0 rfl rfl 2 (by decide) (hts (Cond.fieldLink R_M 18 "QueuedFronts$Machine" "dataWords" "[I") mw_99) (fun _ h9 => h9) rfl d_M_moveData_52 ?_
      refine lv_iload_n hx hb d_M_moveData_55 rfl (lv_at hl 0 rfl) ?_
      refine lv_aload_n hx hb d_M_moveData_56 rfl (lv_at hl 2 rfl) ?_
      refine lv_iload_n hx hb d_M_moveData_57 rfl (lv_at hl 3 rfl) ?_
      refine qx_rd (va_runV (As := [.int w]) (rest := [.int (qf_Q_dataIndex (qf_M_valueS st w) (qf_M_valueA st w + qf_Pa_m w)), .ref (ad 3)]) ⟨hx, hb, hml, hown, hts⟩ (c_M_valueT l D cA ad st w) (qx_kV hts mw_288 mw_290 mw_8 mw_30 mw_291 cd_M_valueT ⟨Nat.le_of_ble_eq_true rfl, Nat.le_of_ble_eq_true rfl⟩) (qx_preV (q0 := 0) (ci := 1) (q := (R_M, T_M, 7)) hP hD hK hN [0, 1, 2, 3, 4, 5] rfl rfl rfl rfl) rfl rfl hl.1 rfl (lv_room (Nat.le_of_ble_eq_true rfl)) d_M_moveData_58 ⟨Nat.zero_le _, Nat.zero_le _⟩) ?_
      refine va_iast hx hb hK hP hD hS 3 0 rfl rfl (show vp_in (qf_Q_dataIndex (qf_M_valueS st w) (qf_M_valueA st w + qf_Pa_m w)) 64 from qi_dix (qi_S w hs) h1) d_M_moveData_61 (fun H locs hP hD hS => ?_)
      have hP : va_P D vwCl (qw_M ad cA (qm_M_dt st (upd st.2.2.1 (Int32.toNatClampNeg (qf_Q_dataIndex (qf_M_valueS st w) (qf_M_valueA st w + qf_Pa_m w))) (qf_M_valueT st w)))) H := hP
      have hD : va_D A (qw_M ad cA (qm_M_dt st (upd st.2.2.1 (Int32.toNatClampNeg (qf_Q_dataIndex (qf_M_valueS st w) (qf_M_valueA st w + qf_Pa_m w))) (qf_M_valueT st w)))) := hD
      refine lv_aload_n hx hb d_M_moveData_62 rfl (lv_at hl 2 rfl) ?_
      refine va_get (D := D) (ci := 1) (v := .ref (ad 4)) (C := R_M) (T := T_M) (N := 7) hx hb hts in_M hown hK hP 0 rfl rfl 3 (by decide) (hts (Cond.fieldLink R_M 24 "QueuedFronts$Machine" "flow" "LQueuedFronts$Flow;") mw_101) (fun _ h9 => h9) rfl d_M_moveData_63 ?_
      refine lv_iconst (v := 0) hx hb d_M_moveData_66 (by decide) ?_
      refine qx_muZ (T := qf_F_moveOn st.2.2.2.1 (0 : Int32)) (Wf := fun zz : qs_F => qw_M ad cA (qm_M_fl (qm_M_dt st (upd st.2.2.1 (Int32.toNatClampNeg (qf_Q_dataIndex (qf_M_valueS st w) (qf_M_valueA st w + qf_Pa_m w))) (qf_M_valueT st w))) zz)) (vf := fun _ => none) (va_runV (As := [.int 0]) (rest := []) ⟨hx, hb, hml, hown, hts⟩ (c_F_moveOn l D cA (ad 4) st.2.2.2.1 0) (qx_kV hts mw_275 mw_206 mw_207 mw_31 mw_208 cd_F_moveOn ⟨Nat.le_of_ble_eq_true rfl, Nat.le_of_ble_eq_true rfl⟩) (qx_preV (q0 := 4) (ci := 2) (q := (R_F, T_F, 4)) hP hD hK hN [4] rfl rfl rfl rfl) rfl rfl hl.1 rfl (lv_room (Nat.le_of_ble_eq_true rfl)) d_M_moveData_67 ⟨Nat.zero_le _, Nat.zero_le _⟩) hP hD hS [4] rfl rfl [ad 0, ad 1, ad 2, ad 3, ad 4, ad 5] rfl rfl (fun zz1 hzz1 H locs hP hD hS => ?_)
      have hP : va_P D vwCl (qw_M ad cA (qm_M_fl (qm_M_dt st (upd st.2.2.1 (Int32.toNatClampNeg (qf_Q_dataIndex (qf_M_valueS st w) (qf_M_valueA st w + qf_Pa_m w))) (qf_M_valueT st w))) zz1)) H := hP
      have hD : va_D A (qw_M ad cA (qm_M_fl (qm_M_dt st (upd st.2.2.1 (Int32.toNatClampNeg (qf_Q_dataIndex (qf_M_valueS st w) (qf_M_valueA st w + qf_Pa_m w))) (qf_M_valueT st w))) zz1)) := hD
      refine W.eq (g2 := F0 m 70 ls []) rfl ?_
      subst hzz1
      have e9 : (qm_M_fl (qm_M_dt st (upd st.2.2.1 (Int32.toNatClampNeg (qf_Q_dataIndex (qf_M_valueS st w) (qf_M_valueA st w + qf_Pa_m w))) (qf_M_valueT st w))) (qf_F_moveOn st.2.2.2.1 (0 : Int32))) = qf_M_moveData st w := (by unfold qf_M_moveData; rw [if_neg h1, if_neg h2])
      exact W.vret hx hb hr (fun t ht hW => ⟨rfl, (by rw [ht, ← e9]; exact hP), hS.F ht⟩) hS.2.2 d_M_moveData_70
    · have h2 : qf_Pa_kind w = 11 := h2
      refine lv_aload_n hx hb d_M_moveData_37 rfl (lv_at hl 2 rfl) ?_
      refine lv_iload_n hx hb d_M_moveData_38 rfl (lv_at hl 3 rfl) ?_
      refine lv_aload_n hx hb d_M_moveData_39 rfl (lv_at hl 2 rfl) ?_
      refine va_get (D := D) (ci := 1) (v := .ref (ad 3)) (C := R_M) (T := T_M) (N := 7) hx hb hts in_M hown hK hP 0 rfl rfl 2 (by decide) (hts (Cond.fieldLink R_M 18 "QueuedFronts$Machine" "dataWords" "[I") mw_99) (fun _ h9 => h9) rfl d_M_moveData_40 ?_
      refine lv_iload_n hx hb d_M_moveData_43 rfl (lv_at hl 0 rfl) ?_
      refine va_iald hx hb hK hP 3 0 rfl rfl (show vp_in (qf_Q_dataIndex (qf_M_valueS st w) (qf_M_valueA st w + qf_Pa_m w)) 64 from qi_dix (qi_S w hs) h1) d_M_moveData_44 ?_
      refine qx_muZ (T := qf_M_setT st w (st.2.2.1 (Int32.toNatClampNeg (qf_Q_dataIndex (qf_M_valueS st w) (qf_M_valueA st w + qf_Pa_m w))))) (Wf := fun zz : qs_M => qw_M ad cA zz) (vf := fun _ => none) (va_runV (As := [.int w, .int (st.2.2.1 (Int32.toNatClampNeg (qf_Q_dataIndex (qf_M_valueS st w) (qf_M_valueA st w + qf_Pa_m w))))]) (rest := []) ⟨hx, hb, hml, hown, hts⟩ (c_M_setT l D cA ad st w (st.2.2.1 (Int32.toNatClampNeg (qf_Q_dataIndex (qf_M_valueS st w) (qf_M_valueA st w + qf_Pa_m w))))) (qx_kV hts mw_268 mw_270 mw_5 mw_30 mw_271 cd_M_setT ⟨Nat.le_of_ble_eq_true rfl, Nat.le_of_ble_eq_true rfl⟩) (qx_preV (q0 := 0) (ci := 1) (q := (R_M, T_M, 7)) hP hD hK hN [0, 1, 2, 3, 4, 5] rfl rfl rfl rfl) rfl rfl hl.1 rfl (lv_room (Nat.le_of_ble_eq_true rfl)) d_M_moveData_45 ⟨Nat.zero_le _, Nat.zero_le _⟩) hP hD hS [0, 1, 2, 3, 4, 5] rfl rfl [ad 0, ad 1, ad 2, ad 3, ad 4, ad 5] rfl rfl (fun zz1 hzz1 H locs hP hD hS => ?_)
      have hP : va_P D vwCl (qw_M ad cA zz1) H := hP
      have hD : va_D A (qw_M ad cA zz1) := hD
      refine W.eq (g2 := F0 m 48 ls []) rfl ?_
      refine lv_goto (tgt := 62) hx hb d_M_moveData_48 (by decide) ?_
      refine lv_aload_n hx hb d_M_moveData_62 rfl (lv_at hl 2 rfl) ?_
      refine va_get (D := D) (ci := 1) (v := .ref (ad 4)) (C := R_M) (T := T_M) (N := 7) hx hb hts in_M hown hK hP 0 rfl rfl 3 (by decide) (hts (Cond.fieldLink R_M 24 "QueuedFronts$Machine" "flow" "LQueuedFronts$Flow;") mw_101) (fun _ h9 => h9) rfl d_M_moveData_63 ?_
      refine lv_iconst (v := 0) hx hb d_M_moveData_66 (by decide) ?_
      refine qx_muZ (T := qf_F_moveOn zz1.2.2.2.1 (0 : Int32)) (Wf := fun zz : qs_F => qw_M ad cA (qm_M_fl zz1 zz)) (vf := fun _ => none) (va_runV (As := [.int 0]) (rest := []) ⟨hx, hb, hml, hown, hts⟩ (c_F_moveOn l D cA (ad 4) zz1.2.2.2.1 0) (qx_kV hts mw_275 mw_206 mw_207 mw_31 mw_208 cd_F_moveOn ⟨Nat.le_of_ble_eq_true rfl, Nat.le_of_ble_eq_true rfl⟩) (qx_preV (q0 := 4) (ci := 2) (q := (R_F, T_F, 4)) hP hD hK hN [4] rfl rfl rfl rfl) rfl rfl hl.1 rfl (lv_room (Nat.le_of_ble_eq_true rfl)) d_M_moveData_67 ⟨Nat.zero_le _, Nat.zero_le _⟩) hP hD hS [4] rfl rfl [ad 0, ad 1, ad 2, ad 3, ad 4, ad 5] rfl rfl (fun zz2 hzz2 H locs hP hD hS => ?_)
      have hP : va_P D vwCl (qw_M ad cA (qm_M_fl zz1 zz2)) H := hP
      have hD : va_D A (qw_M ad cA (qm_M_fl zz1 zz2)) := hD
      refine W.eq (g2 := F0 m 70 ls []) rfl ?_
      subst hzz2
      subst hzz1
      have e9 : (qm_M_fl (qf_M_setT st w (st.2.2.1 (Int32.toNatClampNeg (qf_Q_dataIndex (qf_M_valueS st w) (qf_M_valueA st w + qf_Pa_m w))))) (qf_F_moveOn (qf_M_setT st w (st.2.2.1 (Int32.toNatClampNeg (qf_Q_dataIndex (qf_M_valueS st w) (qf_M_valueA st w + qf_Pa_m w))))).2.2.2.1 (0 : Int32))) = qf_M_moveData st w := (by unfold qf_M_moveData; rw [if_neg h1, if_pos h2])
      exact W.vret hx hb hr (fun t ht hW => ⟨rfl, (by rw [ht, ← e9]; exact hP), hS.F ht⟩) hS.2.2 d_M_moveData_70
