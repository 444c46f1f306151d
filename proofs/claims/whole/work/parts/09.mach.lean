def qf_M_reckon (st : qs_M) (w : Int32) : qs_M :=
  if qf_Pa_kind w = 2 then (qm_M_fl (qf_M_setT st w (qf_M_resultOf w (qf_M_valueA st w) (qf_M_valueB st w))) (qf_F_moveOn ((qf_M_setT st w (qf_M_resultOf w (qf_M_valueA st w) (qf_M_valueB st w))).2.2.2.1) (qf_Co_holds (qf_Pa_condition w) (qf_M_valueA st w) (qf_M_valueB st w))))
  else if qf_Pa_kind w = 3 then (qm_M_fl (qf_M_setT st w (qf_M_resultOf w (qf_M_valueA st w) (qf_M_valueB st w))) (qf_F_moveOn ((qf_M_setT st w (qf_M_resultOf w (qf_M_valueA st w) (qf_M_valueB st w))).2.2.2.1) (qf_Co_holds (qf_Pa_condition w) (qf_M_valueA st w) (qf_M_valueB st w))))
  else if qf_Pa_kind w = 8 then (qm_M_fl (qf_M_setT st w (qf_M_resultOf w (qf_M_valueA st w) (qf_M_valueB st w))) (qf_F_moveOn ((qf_M_setT st w (qf_M_resultOf w (qf_M_valueA st w) (qf_M_valueB st w))).2.2.2.1) (qf_Co_holds (qf_Pa_condition w) (qf_M_valueA st w) (qf_M_valueB st w))))
  else (qm_M_fl (qf_M_setT st w (qf_M_resultOf w (qf_M_valueA st w) (qf_M_valueB st w))) (qf_F_moveOn ((qf_M_setT st w (qf_M_resultOf w (qf_M_valueA st w) (qf_M_valueB st w))).2.2.2.1) (qf_Co_holds (qf_Pa_condition w) (qf_M_resultOf w (qf_M_valueA st w) (qf_M_valueB st w)) (0 : Int32))))
set_option maxHeartbeats 4000000 in
set_option maxRecDepth 100000 in
theorem c_M_reckon (l : Launch) (D : va_G) (cA : ClassId) (ad : Nat → Nat) (st : qs_M) (w : Int32) : Met l y_M_reckon (Cond.code y_M_reckon b_M_reckon 8 none :: qx_T) ({ frames := 3, cells := 0, slots := 0, locals := 62 }) (qx_Pc D vwCl [(cA, .int)] (qw_M ad cA st) [.ref (ad 0), .int w]) (qx_Q D vwCl (qw_M ad cA (qf_M_reckon st w)) (qx_ad (qw_M ad cA st)) none) 0 0 (qx_ad (qw_M ad cA st)) := by
  refine Met.ofW (cc := b_M_reckon) (maxL := 8) (ret := none) (by decide) rfl ?_
  intro p e s m args below meth c s₁ B hml hv
  obtain ⟨rfl, hP, hK, hN, hD0⟩ := hv
  have hx := B.exec
  have hb := B.bytes
  have hr := B.returns
  have hts0 := atoms_spec (ws := Cond.code y_M_reckon b_M_reckon 8 none :: qx_T) B.pre
  have hts := fun w h => hts0 w (List.mem_cons_of_mem _ h)
  have hown : s.vm.findClass R_M = some m.cls := findClass_of_methodNamed B.named
  have hlocks := B.notSynchronized
  have hD : va_D (qx_ad (qw_M ad cA st)) (qw_M ad cA st) := ⟨hD0.1, fun k q hk => ⟨k, q.2, hk⟩⟩
  generalize hAe : qx_ad (qw_M ad cA st) = A at hD ⊢
  have hS : va_S A s.heap s.heap [] := va_S.rf
  have hl := lv_entry ([.ref (ad 0), .int w]) (n := 8) (Nat.le_of_ble_eq_true rfl)
  rw [lg_entry_eq]
  generalize (lg_sl ([.ref (ad 0), .int w]) ++ List.replicate (8 - (lg_sl ([.ref (ad 0), .int w])).length) Slot.unset).toArray = ls at hl ⊢
  have hl : lv_has ls 8 [(0, .ref (ad 0)), (1, .int w)] := hl
  refine lv_iload_n hx hb d_M_reckon_0 rfl (lv_at hl 1 rfl) ?_
  refine qx_rd (va_runS (As := [.int w]) (rest := []) ⟨hx, hb, hml, hown, hts⟩ (c_Pa_kind l D cA w) (qx_kS hts mw_217 mw_218 mw_34 mw_219 cd_Pa_kind ⟨Nat.le_of_ble_eq_true rfl, Nat.le_of_ble_eq_true rfl⟩) (qx_preS hP hD hK hN [] rfl rfl) rfl rfl hl.1 rfl (lv_room (Nat.le_of_ble_eq_true rfl)) d_M_reckon_1 ⟨Nat.zero_le _, Nat.zero_le _⟩) ?_
  refine lv_istore_n (lv' := [(2, .int (qf_Pa_kind w)), (0, .ref (ad 0)), (1, .int w)]) hx hb d_M_reckon_4 rfl hl (by decide) rfl (fun ls hl => ?_)
  refine lv_aload_n hx hb d_M_reckon_5 rfl (lv_at hl 1 rfl) ?_
  refine lv_iload_n hx hb d_M_reckon_6 rfl (lv_at hl 2 rfl) ?_
  refine qx_rd (va_runV (As := [.int w]) (rest := []) ⟨hx, hb, hml, hown, hts⟩ (c_M_valueA l D cA ad st w) (qx_kV hts mw_220 mw_222 mw_2 mw_30 mw_223 cd_M_valueA ⟨Nat.le_of_ble_eq_true rfl, Nat.le_of_ble_eq_true rfl⟩) (qx_preV (q0 := 0) (ci := 1) (q := (R_M, T_M, 7)) hP hD hK hN [0, 1, 2, 3, 4, 5] rfl rfl rfl rfl) rfl rfl hl.1 rfl (lv_room (Nat.le_of_ble_eq_true rfl)) d_M_reckon_7 ⟨Nat.zero_le _, Nat.zero_le _⟩) ?_
  refine lv_istore_n (lv' := [(3, .int (qf_M_valueA st w)), (2, .int (qf_Pa_kind w)), (0, .ref (ad 0)), (1, .int w)]) hx hb d_M_reckon_10 rfl hl (by decide) rfl (fun ls hl => ?_)
  refine lv_aload_n hx hb d_M_reckon_11 rfl (lv_at hl 2 rfl) ?_
  refine lv_iload_n hx hb d_M_reckon_12 rfl (lv_at hl 3 rfl) ?_
  refine qx_rd (va_runV (As := [.int w]) (rest := []) ⟨hx, hb, hml, hown, hts⟩ (c_M_valueB l D cA ad st w) (qx_kV hts mw_227 mw_229 mw_3 mw_30 mw_230 cd_M_valueB ⟨Nat.le_of_ble_eq_true rfl, Nat.le_of_ble_eq_true rfl⟩) (qx_preV (q0 := 0) (ci := 1) (q := (R_M, T_M, 7)) hP hD hK hN [0, 1, 2, 3, 4, 5] rfl rfl rfl rfl) rfl rfl hl.1 rfl (lv_room (Nat.le_of_ble_eq_true rfl)) d_M_reckon_13 ⟨Nat.zero_le _, Nat.zero_le _⟩) ?_
  refine lv_istore (lv' := [(4, .int (qf_M_valueB st w)), (3, .int (qf_M_valueA st w)), (2, .int (qf_Pa_kind w)), (0, .ref (ad 0)), (1, .int w)]) hx hb d_M_reckon_16 hl (by decide) rfl (fun ls hl => ?_)
  refine lv_iload_n hx hb d_M_reckon_18 rfl (lv_at hl 4 rfl) ?_
  refine lv_iload_n hx hb d_M_reckon_19 rfl (lv_at hl 1 rfl) ?_
  refine lv_iload hx hb d_M_reckon_20 (lv_at hl 0 rfl) ?_
  refine qx_rd (va_runS (As := [.int w, .int (qf_M_valueA st w), .int (qf_M_valueB st w)]) (rest := []) ⟨hx, hb, hml, hown, hts⟩ (c_M_resultOf l D cA w (qf_M_valueA st w) (qf_M_valueB st w)) (qx_kS hts mw_249 mw_250 mw_30 mw_251 cd_M_resultOf ⟨Nat.le_of_ble_eq_true rfl, Nat.le_of_ble_eq_true rfl⟩) (qx_preS hP hD hK hN [] rfl rfl) rfl rfl hl.1 rfl (lv_room (Nat.le_of_ble_eq_true rfl)) d_M_reckon_22 ⟨Nat.zero_le _, Nat.zero_le _⟩) ?_
  refine lv_istore (lv' := [(5, .int (qf_M_resultOf w (qf_M_valueA st w) (qf_M_valueB st w))), (4, .int (qf_M_valueB st w)), (3, .int (qf_M_valueA st w)), (2, .int (qf_Pa_kind w)), (0, .ref (ad 0)), (1, .int w)]) hx hb d_M_reckon_25 hl (by decide) rfl (fun ls hl => ?_)
  refine lv_iload_n hx hb d_M_reckon_27 rfl (lv_at hl 3 rfl) ?_
  refine lv_iconst (v := 2) hx hb d_M_reckon_28 (by decide) ?_
  refine lv_icmp_eq (tgt := 43) hx hb d_M_reckon_29 (by decide) (fun h1 => ?_) (fun h1 => ?_)
  · skip
    refine lv_iconst (v := 1) hx hb d_M_reckon_43 (by decide) ?_
    refine lv_goto (tgt := 48) hx hb d_M_reckon_44 (by decide) ?_
    refine lv_istore (lv' := [(6, .int 1), (5, .int (qf_M_resultOf w (qf_M_valueA st w) (qf_M_valueB st w))), (4, .int (qf_M_valueB st w)), (3, .int (qf_M_valueA st w)), (2, .int (qf_Pa_kind w)), (0, .ref (ad 0)), (1, .int w)]) hx hb d_M_reckon_48 hl (by decide) rfl (fun ls hl => ?_)
    refine lv_iload hx hb d_M_reckon_50 (lv_at hl 0 rfl) ?_
    refine lv_if_eq (tgt := 68) hx hb d_M_reckon_52 (by decide) (fun h => False.elim (by revert h; decide)) (fun _ => ?_)
    refine lv_iload_n hx hb d_M_reckon_55 rfl (lv_at hl 6 rfl) ?_
    refine qx_rd (va_runS (As := [.int w]) (rest := []) ⟨hx, hb, hml, hown, hts⟩ (c_Pa_condition l D cA w) (qx_kS hts mw_258 mw_259 mw_34 mw_260 cd_Pa_condition ⟨Nat.le_of_ble_eq_true rfl, Nat.le_of_ble_eq_true rfl⟩) (qx_preS hP hD hK hN [] rfl rfl) rfl rfl hl.1 rfl (lv_room (Nat.le_of_ble_eq_true rfl)) d_M_reckon_56 ⟨Nat.zero_le _, Nat.zero_le _⟩) ?_
    refine lv_iload_n hx hb d_M_reckon_59 rfl (lv_at hl 3 rfl) ?_
    refine lv_iload hx hb d_M_reckon_60 (lv_at hl 2 rfl) ?_
    refine qx_rd (va_runS (As := [.int (qf_Pa_condition w), .int (qf_M_valueA st w), .int (qf_M_valueB st w)]) (rest := []) ⟨hx, hb, hml, hown, hts⟩ (c_Co_holds l D cA (qf_Pa_condition w) (qf_M_valueA st w) (qf_M_valueB st w)) (qx_kS hts mw_261 mw_262 mw_35 mw_263 cd_Co_holds ⟨Nat.le_of_ble_eq_true rfl, Nat.le_of_ble_eq_true rfl⟩) (qx_preS hP hD hK hN [] rfl rfl) rfl rfl hl.1 rfl (lv_room (Nat.le_of_ble_eq_true rfl)) d_M_reckon_62 ⟨Nat.zero_le _, Nat.zero_le _⟩) ?_
    refine lv_goto (tgt := 78) hx hb d_M_reckon_65 (by decide) ?_
    refine lv_istore (lv' := [(7, .int (qf_Co_holds (qf_Pa_condition w) (qf_M_valueA st w) (qf_M_valueB st w))), (6, .int 1), (5, .int (qf_M_resultOf w (qf_M_valueA st w) (qf_M_valueB st w))), (4, .int (qf_M_valueB st w)), (3, .int (qf_M_valueA st w)), (2, .int (qf_Pa_kind w)), (0, .ref (ad 0)), (1, .int w)]) hx hb d_M_reckon_78 hl (by decide) rfl (fun ls hl => ?_)
    refine lv_aload_n hx hb d_M_reckon_80 rfl (lv_at hl 6 rfl) ?_
    refine lv_iload_n hx hb d_M_reckon_81 rfl (lv_at hl 7 rfl) ?_
    refine lv_iload hx hb d_M_reckon_82 (lv_at hl 2 rfl) ?_
    refine qx_mu (wn := qw_M ad cA (qf_M_setT st w (qf_M_resultOf w (qf_M_valueA st w) (qf_M_valueB st w)))) (va_runV (As := [.int w, .int (qf_M_resultOf w (qf_M_valueA st w) (qf_M_valueB st w))]) (rest := []) ⟨hx, hb, hml, hown, hts⟩ (c_M_setT l D cA ad st w (qf_M_resultOf w (qf_M_valueA st w) (qf_M_valueB st w))) (qx_kV hts mw_268 mw_270 mw_5 mw_30 mw_271 cd_M_setT ⟨Nat.le_of_ble_eq_true rfl, Nat.le_of_ble_eq_true rfl⟩) (qx_preV (q0 := 0) (ci := 1) (q := (R_M, T_M, 7)) hP hD hK hN [0, 1, 2, 3, 4, 5] rfl rfl rfl rfl) rfl rfl hl.1 rfl (lv_room (Nat.le_of_ble_eq_true rfl)) d_M_reckon_84 ⟨Nat.zero_le _, Nat.zero_le _⟩) hP hD hS [0, 1, 2, 3, 4, 5] rfl rfl rfl (fun H locs hP hD hS => ?_)
    have hP : va_P D vwCl (qw_M ad cA (qf_M_setT st w (qf_M_resultOf w (qf_M_valueA st w) (qf_M_valueB st w)))) H := hP
    have hD : va_D A (qw_M ad cA (qf_M_setT st w (qf_M_resultOf w (qf_M_valueA st w) (qf_M_valueB st w)))) := hD
    refine W.eq (g2 := F0 m 87 ls []) rfl ?_
    refine lv_aload_n hx hb d_M_reckon_87 rfl (lv_at hl 6 rfl) ?_
    refine va_get (D := D) (ci := 1) (v := .ref (ad 4)) (C := R_M) (T := T_M) (N := 7) hx hb hts in_M hown hK hP 0 rfl rfl 3 (by decide) (hts (Cond.fieldLink R_M 24 "QueuedFronts$Machine" "flow" "LQueuedFronts$Flow;") mw_101) (fun _ h9 => h9) rfl d_M_reckon_88 ?_
    refine lv_iload hx hb d_M_reckon_91 (lv_at hl 0 rfl) ?_
    refine qx_mu (wn := qw_M ad cA (qm_M_fl (qf_M_setT st w (qf_M_resultOf w (qf_M_valueA st w) (qf_M_valueB st w))) (qf_F_moveOn ((qf_M_setT st w (qf_M_resultOf w (qf_M_valueA st w) (qf_M_valueB st w))).2.2.2.1) (qf_Co_holds (qf_Pa_condition w) (qf_M_valueA st w) (qf_M_valueB st w))))) (va_runV (As := [.int (qf_Co_holds (qf_Pa_condition w) (qf_M_valueA st w) (qf_M_valueB st w))]) (rest := []) ⟨hx, hb, hml, hown, hts⟩ (c_F_moveOn l D cA (ad 4) ((qf_M_setT st w (qf_M_resultOf w (qf_M_valueA st w) (qf_M_valueB st w))).2.2.2.1) (qf_Co_holds (qf_Pa_condition w) (qf_M_valueA st w) (qf_M_valueB st w))) (qx_kV hts mw_275 mw_206 mw_207 mw_31 mw_208 cd_F_moveOn ⟨Nat.le_of_ble_eq_true rfl, Nat.le_of_ble_eq_true rfl⟩) (qx_preV (q0 := 4) (ci := 2) (q := (R_F, T_F, 4)) hP hD hK hN [4] rfl rfl rfl rfl) rfl rfl hl.1 rfl (lv_room (Nat.le_of_ble_eq_true rfl)) d_M_reckon_93 ⟨Nat.zero_le _, Nat.zero_le _⟩) hP hD hS [4] rfl rfl rfl (fun H locs hP hD hS => ?_)
    have hP : va_P D vwCl (qw_M ad cA (qm_M_fl (qf_M_setT st w (qf_M_resultOf w (qf_M_valueA st w) (qf_M_valueB st w))) (qf_F_moveOn ((qf_M_setT st w (qf_M_resultOf w (qf_M_valueA st w) (qf_M_valueB st w))).2.2.2.1) (qf_Co_holds (qf_Pa_condition w) (qf_M_valueA st w) (qf_M_valueB st w))))) H := hP
    have hD : va_D A (qw_M ad cA (qm_M_fl (qf_M_setT st w (qf_M_resultOf w (qf_M_valueA st w) (qf_M_valueB st w))) (qf_F_moveOn ((qf_M_setT st w (qf_M_resultOf w (qf_M_valueA st w) (qf_M_valueB st w))).2.2.2.1) (qf_Co_holds (qf_Pa_condition w) (qf_M_valueA st w) (qf_M_valueB st w))))) := hD
    refine W.eq (g2 := F0 m 96 ls []) rfl ?_
    have e9 : (qm_M_fl (qf_M_setT st w (qf_M_resultOf w (qf_M_valueA st w) (qf_M_valueB st w))) (qf_F_moveOn ((qf_M_setT st w (qf_M_resultOf w (qf_M_valueA st w) (qf_M_valueB st w))).2.2.2.1) (qf_Co_holds (qf_Pa_condition w) (qf_M_valueA st w) (qf_M_valueB st w)))) = qf_M_reckon st w := (by unfold qf_M_reckon; rw [if_pos h1])
    exact W.vret hx hb hr (fun t ht hW => ⟨rfl, (by rw [ht, ← e9]; exact hP), hS.F ht⟩) hS.2.2 d_M_reckon_96
  · skip
    refine lv_iload_n hx hb d_M_reckon_32 rfl (lv_at hl 3 rfl) ?_
    refine lv_iconst (v := 3) hx hb d_M_reckon_33 (by decide) ?_
    refine lv_icmp_eq (tgt := 43) hx hb d_M_reckon_34 (by decide) (fun h2 => ?_) (fun h2 => ?_)
    · skip
      refine lv_iconst (v := 1) hx hb d_M_reckon_43 (by decide) ?_
      refine lv_goto (tgt := 48) hx hb d_M_reckon_44 (by decide) ?_
      refine lv_istore (lv' := [(6, .int 1), (5, .int (qf_M_resultOf w (qf_M_valueA st w) (qf_M_valueB st w))), (4, .int (qf_M_valueB st w)), (3, .int (qf_M_valueA st w)), (2, .int (qf_Pa_kind w)), (0, .ref (ad 0)), (1, .int w)]) hx hb d_M_reckon_48 hl (by decide) rfl (fun ls hl => ?_)
      refine lv_iload hx hb d_M_reckon_50 (lv_at hl 0 rfl) ?_
      refine lv_if_eq (tgt := 68) hx hb d_M_reckon_52 (by decide) (fun h => False.elim (by revert h; decide)) (fun _ => ?_)
      refine lv_iload_n hx hb d_M_reckon_55 rfl (lv_at hl 6 rfl) ?_
      refine qx_rd (va_runS (As := [.int w]) (rest := []) ⟨hx, hb, hml, hown, hts⟩ (c_Pa_condition l D cA w) (qx_kS hts mw_258 mw_259 mw_34 mw_260 cd_Pa_condition ⟨Nat.le_of_ble_eq_true rfl, Nat.le_of_ble_eq_true rfl⟩) (qx_preS hP hD hK hN [] rfl rfl) rfl rfl hl.1 rfl (lv_room (Nat.le_of_ble_eq_true rfl)) d_M_reckon_56 ⟨Nat.zero_le _, Nat.zero_le _⟩) ?_
      refine lv_iload_n hx hb d_M_reckon_59 rfl (lv_at hl 3 rfl) ?_
      refine lv_iload hx hb d_M_reckon_60 (lv_at hl 2 rfl) ?_
      refine qx_rd (va_runS (As := [.int (qf_Pa_condition w), .int (qf_M_valueA st w), .int (qf_M_valueB st w)]) (rest := []) ⟨hx, hb, hml, hown, hts⟩ (c_Co_holds l D cA (qf_Pa_condition w) (qf_M_valueA st w) (qf_M_valueB st w)) (qx_kS hts mw_261 mw_262 mw_35 mw_263 cd_Co_holds ⟨Nat.le_of_ble_eq_true rfl, Nat.le_of_ble_eq_true rfl⟩) (qx_preS hP hD hK hN [] rfl rfl) rfl rfl hl.1 rfl (lv_room (Nat.le_of_ble_eq_true rfl)) d_M_reckon_62 ⟨Nat.zero_le _, Nat.zero_le _⟩) ?_
      refine lv_goto (tgt := 78) hx hb d_M_reckon_65 (by decide) ?_
      refine lv_istore (lv' := [(7, .int (qf_Co_holds (qf_Pa_condition w) (qf_M_valueA st w) (qf_M_valueB st w))), (6, .int 1), (5, .int (qf_M_resultOf w (qf_M_valueA st w) (qf_M_valueB st w))), (4, .int (qf_M_valueB st w)), (3, .int (qf_M_valueA st w)), (2, .int (qf_Pa_kind w)), (0, .ref (ad 0)), (1, .int w)]) hx hb d_M_reckon_78 hl (by decide) rfl (fun ls hl => ?_)
      refine lv_aload_n hx hb d_M_reckon_80 rfl (lv_at hl 6 rfl) ?_
      refine lv_iload_n hx hb d_M_reckon_81 rfl (lv_at hl 7 rfl) ?_
      refine lv_iload hx hb d_M_reckon_82 (lv_at hl 2 rfl) ?_
      refine qx_mu (wn := qw_M ad cA (qf_M_setT st w (qf_M_resultOf w (qf_M_valueA st w) (qf_M_valueB st w)))) (va_runV (As := [.int w, .int (qf_M_resultOf w (qf_M_valueA st w) (qf_M_valueB st w))]) (rest := []) ⟨hx, hb, hml, hown, hts⟩ (c_M_setT l D cA ad st w (qf_M_resultOf w (qf_M_valueA st w) (qf_M_valueB st w))) (qx_kV hts mw_268 mw_270 mw_5 mw_30 mw_271 cd_M_setT ⟨Nat.le_of_ble_eq_true rfl, Nat.le_of_ble_eq_true rfl⟩) (qx_preV (q0 := 0) (ci := 1) (q := (R_M, T_M, 7)) hP hD hK hN [0, 1, 2, 3, 4, 5] rfl rfl rfl rfl) rfl rfl hl.1 rfl (lv_room (Nat.le_of_ble_eq_true rfl)) d_M_reckon_84 ⟨Nat.zero_le _, Nat.zero_le _⟩) hP hD hS [0, 1, 2, 3, 4, 5] rfl rfl rfl (fun H locs hP hD hS => ?_)
      have hP : va_P D vwCl (qw_M ad cA (qf_M_setT st w (qf_M_resultOf w (qf_M_valueA st w) (qf_M_valueB st w)))) H := hP
      have hD : va_D A (qw_M ad cA (qf_M_setT st w (qf_M_resultOf w (qf_M_valueA st w) (qf_M_valueB st w)))) := hD
      refine W.eq (g2 := F0 m 87 ls []) rfl ?_
      refine lv_aload_n hx hb d_M_reckon_87 rfl (lv_at hl 6 rfl) ?_
      refine va_get (D := D) (ci := 1) (v := .ref (ad 4)) (C := R_M) (T := T_M) (N := 7) hx hb hts in_M hown hK hP 0 rfl rfl 3 (by decide) (hts (Cond.fieldLink R_M 24 "QueuedFronts$Machine" "flow" "LQueuedFronts$Flow;") mw_101) (fun _ h9 => h9) rfl d_M_reckon_88 ?_
      refine lv_iload hx hb d_M_reckon_91 (lv_at hl 0 rfl) ?_
      refine qx_mu (wn := qw_M ad cA (qm_M_fl (qf_M_setT st w (qf_M_resultOf w (qf_M_valueA st w) (qf_M_valueB st w))) (qf_F_moveOn ((qf_M_setT st w (qf_M_resultOf w (qf_M_valueA st w) (qf_M_valueB st w))).2.2.2.1) (qf_Co_holds (qf_Pa_condition w) (qf_M_valueA st w) (qf_M_valueB st w))))) (va_runV (As := [.int (qf_Co_holds (qf_Pa_condition w) (qf_M_valueA st w) (qf_M_valueB st w))]) (rest := []) ⟨hx, hb, hml, hown, hts⟩ (c_F_moveOn l D cA (ad 4) ((qf_M_setT st w (qf_M_resultOf w (qf_M_valueA st w) (qf_M_valueB st w))).2.2.2.1) (qf_Co_holds (qf_Pa_condition w) (qf_M_valueA st w) (qf_M_valueB st w))) (qx_kV hts mw_275 mw_206 mw_207 mw_31 mw_208 cd_F_moveOn ⟨Nat.le_of_ble_eq_true rfl, Nat.le_of_ble_eq_true rfl⟩) (qx_preV (q0 := 4) (ci := 2) (q := (R_F, T_F, 4)) hP hD hK hN [4] rfl rfl rfl rfl) rfl rfl hl.1 rfl (lv_room (Nat.le_of_ble_eq_true rfl)) d_M_reckon_93 ⟨Nat.zero_le _, Nat.zero_le _⟩) hP hD hS [4] rfl rfl rfl (fun H locs hP hD hS => ?_)
      have hP : va_P D vwCl (qw_M ad cA (qm_M_fl (qf_M_setT st w (qf_M_resultOf w (qf_M_valueA st w) (qf_M_valueB st w))) (qf_F_moveOn ((qf_M_setT st w (qf_M_resultOf w (qf_M_valueA st w) (qf_M_valueB st w))).2.2.2.1) (qf_Co_holds (qf_Pa_condition w) (qf_M_valueA st w) (qf_M_valueB st w))))) H := hP
      have hD : va_D A (qw_M ad cA (qm_M_fl (qf_M_setT st w (qf_M_resultOf w (qf_M_valueA st w) (qf_M_valueB st w))) (qf_F_moveOn ((qf_M_setT st w (qf_M_resultOf w (qf_M_valueA st w) (qf_M_valueB st w))).2.2.2.1) (qf_Co_holds (qf_Pa_condition w) (qf_M_valueA st w) (qf_M_valueB st w))))) := hD
      refine W.eq (g2 := F0 m 96 ls []) rfl ?_
      have e9 : (qm_M_fl (qf_M_setT st w (qf_M_resultOf w (qf_M_valueA st w) (qf_M_valueB st w))) (qf_F_moveOn ((qf_M_setT st w (qf_M_resultOf w (qf_M_valueA st w) (qf_M_valueB st w))).2.2.2.1) (qf_Co_holds (qf_Pa_condition w) (qf_M_valueA st w) (qf_M_valueB st w)))) = qf_M_reckon st w := (by unfold qf_M_reckon; rw [if_neg h1, if_pos h2])
      exact W.vret hx hb hr (fun t ht hW => ⟨rfl, (by rw [ht, ← e9]; exact hP), hS.F ht⟩) hS.2.2 d_M_reckon_96
    · skip
      refine lv_iload_n hx hb d_M_reckon_37 rfl (lv_at hl 3 rfl) ?_
      refine lv_bipush (v := 8) hx hb d_M_reckon_38 (by decide) ?_
      refine lv_icmp_ne (tgt := 47) hx hb d_M_reckon_40 (by decide) (fun h3 => ?_) (fun h3 => ?_)
      · skip
        refine lv_iconst (v := 0) hx hb d_M_reckon_47 (by decide) ?_
        refine lv_istore (lv' := [(6, .int 0), (5, .int (qf_M_resultOf w (qf_M_valueA st w) (qf_M_valueB st w))), (4, .int (qf_M_valueB st w)), (3, .int (qf_M_valueA st w)), (2, .int (qf_Pa_kind w)), (0, .ref (ad 0)), (1, .int w)]) hx hb d_M_reckon_48 hl (by decide) rfl (fun ls hl => ?_)
        refine lv_iload hx hb d_M_reckon_50 (lv_at hl 0 rfl) ?_
        refine lv_if_eq (tgt := 68) hx hb d_M_reckon_52 (by decide) (fun _ => ?_) (fun h => False.elim (by revert h; decide))
        refine lv_iload_n hx hb d_M_reckon_68 rfl (lv_at hl 6 rfl) ?_
        refine qx_rd (va_runS (As := [.int w]) (rest := []) ⟨hx, hb, hml, hown, hts⟩ (c_Pa_condition l D cA w) (qx_kS hts mw_258 mw_259 mw_34 mw_260 cd_Pa_condition ⟨Nat.le_of_ble_eq_true rfl, Nat.le_of_ble_eq_true rfl⟩) (qx_preS hP hD hK hN [] rfl rfl) rfl rfl hl.1 rfl (lv_room (Nat.le_of_ble_eq_true rfl)) d_M_reckon_69 ⟨Nat.zero_le _, Nat.zero_le _⟩) ?_
        refine lv_iload hx hb d_M_reckon_72 (lv_at hl 1 rfl) ?_
        refine lv_iconst (v := 0) hx hb d_M_reckon_74 (by decide) ?_
        refine qx_rd (va_runS (As := [.int (qf_Pa_condition w), .int (qf_M_resultOf w (qf_M_valueA st w) (qf_M_valueB st w)), .int 0]) (rest := []) ⟨hx, hb, hml, hown, hts⟩ (c_Co_holds l D cA (qf_Pa_condition w) (qf_M_resultOf w (qf_M_valueA st w) (qf_M_valueB st w)) 0) (qx_kS hts mw_261 mw_262 mw_35 mw_263 cd_Co_holds ⟨Nat.le_of_ble_eq_true rfl, Nat.le_of_ble_eq_true rfl⟩) (qx_preS hP hD hK hN [] rfl rfl) rfl rfl hl.1 rfl (lv_room (Nat.le_of_ble_eq_true rfl)) d_M_reckon_75 ⟨Nat.zero_le _, Nat.zero_le _⟩) ?_
        refine lv_istore (lv' := [(7, .int (qf_Co_holds (qf_Pa_condition w) (qf_M_resultOf w (qf_M_valueA st w) (qf_M_valueB st w)) (0 : Int32))), (6, .int 0), (5, .int (qf_M_resultOf w (qf_M_valueA st w) (qf_M_valueB st w))), (4, .int (qf_M_valueB st w)), (3, .int (qf_M_valueA st w)), (2, .int (qf_Pa_kind w)), (0, .ref (ad 0)), (1, .int w)]) hx hb d_M_reckon_78 hl (by decide) rfl (fun ls hl => ?_)
        refine lv_aload_n hx hb d_M_reckon_80 rfl (lv_at hl 6 rfl) ?_
        refine lv_iload_n hx hb d_M_reckon_81 rfl (lv_at hl 7 rfl) ?_
        refine lv_iload hx hb d_M_reckon_82 (lv_at hl 2 rfl) ?_
        refine qx_mu (wn := qw_M ad cA (qf_M_setT st w (qf_M_resultOf w (qf_M_valueA st w) (qf_M_valueB st w)))) (va_runV (As := [.int w, .int (qf_M_resultOf w (qf_M_valueA st w) (qf_M_valueB st w))]) (rest := []) ⟨hx, hb, hml, hown, hts⟩ (c_M_setT l D cA ad st w (qf_M_resultOf w (qf_M_valueA st w) (qf_M_valueB st w))) (qx_kV hts mw_268 mw_270 mw_5 mw_30 mw_271 cd_M_setT ⟨Nat.le_of_ble_eq_true rfl, Nat.le_of_ble_eq_true rfl⟩) (qx_preV (q0 := 0) (ci := 1) (q := (R_M, T_M, 7)) hP hD hK hN [0, 1, 2, 3, 4, 5] rfl rfl rfl rfl) rfl rfl hl.1 rfl (lv_room (Nat.le_of_ble_eq_true rfl)) d_M_reckon_84 ⟨Nat.zero_le _, Nat.zero_le _⟩) hP hD hS [0, 1, 2, 3, 4, 5] rfl rfl rfl (fun H locs hP hD hS => ?_)
        have hP : va_P D vwCl (qw_M ad cA (qf_M_setT st w (qf_M_resultOf w (qf_M_valueA st w) (qf_M_valueB st w)))) H := hP
        have hD : va_D A (qw_M ad cA (qf_M_setT st w (qf_M_resultOf w (qf_M_valueA st w) (qf_M_valueB st w)))) := hD
        refine W.eq (g2 := F0 m 87 ls []) rfl ?_
        refine lv_aload_n hx hb d_M_reckon_87 rfl (lv_at hl 6 rfl) ?_
        refine va_get (D := D) (ci := 1) (v := .ref (ad 4)) (C := R_M) (T := T_M) (N := 7) hx hb hts in_M hown hK hP 0 rfl rfl 3 (by decide) (hts (Cond.fieldLink R_M 24 "QueuedFronts$Machine" "flow" "LQueuedFronts$Flow;") mw_101) (fun _ h9 => h9) rfl d_M_reckon_88 ?_
        refine lv_iload hx hb d_M_reckon_91 (lv_at hl 0 rfl) ?_
        refine qx_mu (wn := qw_M ad cA (qm_M_fl (qf_M_setT st w (qf_M_resultOf w (qf_M_valueA st w) (qf_M_valueB st w))) (qf_F_moveOn ((qf_M_setT st w (qf_M_resultOf w (qf_M_valueA st w) (qf_M_valueB st w))).2.2.2.1) (qf_Co_holds (qf_Pa_condition w) (qf_M_resultOf w (qf_M_valueA st w) (qf_M_valueB st w)) (0 : Int32))))) (va_runV (As := [.int (qf_Co_holds (qf_Pa_condition w) (qf_M_resultOf w (qf_M_valueA st w) (qf_M_valueB st w)) (0 : Int32))]) (rest := []) ⟨hx, hb, hml, hown, hts⟩ (c_F_moveOn l D cA (ad 4) ((qf_M_setT st w (qf_M_resultOf w (qf_M_valueA st w) (qf_M_valueB st w))).2.2.2.1) (qf_Co_holds (qf_Pa_condition w) (qf_M_resultOf w (qf_M_valueA st w) (qf_M_valueB st w)) (0 : Int32))) (qx_kV hts mw_275 mw_206 mw_207 mw_31 mw_208 cd_F_moveOn ⟨Nat.le_of_ble_eq_true rfl, Nat.le_of_ble_eq_true rfl⟩) (qx_preV (q0 := 4) (ci := 2) (q := (R_F, T_F, 4)) hP hD hK hN [4] rfl rfl rfl rfl) rfl rfl hl.1 rfl (lv_room (Nat.le_of_ble_eq_true rfl)) d_M_reckon_93 ⟨Nat.zero_le _, Nat.zero_le _⟩) hP hD hS [4] rfl rfl rfl (fun H locs hP hD hS => ?_)
        have hP : va_P D vwCl (qw_M ad cA (qm_M_fl (qf_M_setT st w (qf_M_resultOf w (qf_M_valueA st w) (qf_M_valueB st w))) (qf_F_moveOn ((qf_M_setT st w (qf_M_resultOf w (qf_M_valueA st w) (qf_M_valueB st w))).2.2.2.1) (qf_Co_holds (qf_Pa_condition w) (qf_M_resultOf w (qf_M_valueA st w) (qf_M_valueB st w)) (0 : Int32))))) H := hP
        have hD : va_D A (qw_M ad cA (qm_M_fl (qf_M_setT st w (qf_M_resultOf w (qf_M_valueA st w) (qf_M_valueB st w))) (qf_F_moveOn ((qf_M_setT st w (qf_M_resultOf w (qf_M_valueA st w) (qf_M_valueB st w))).2.2.2.1) (qf_Co_holds (qf_Pa_condition w) (qf_M_resultOf w (qf_M_valueA st w) (qf_M_valueB st w)) (0 : Int32))))) := hD
        refine W.eq (g2 := F0 m 96 ls []) rfl ?_
        have e9 : (qm_M_fl (qf_M_setT st w (qf_M_resultOf w (qf_M_valueA st w) (qf_M_valueB st w))) (qf_F_moveOn ((qf_M_setT st w (qf_M_resultOf w (qf_M_valueA st w) (qf_M_valueB st w))).2.2.2.1) (qf_Co_holds (qf_Pa_condition w) (qf_M_resultOf w (qf_M_valueA st w) (qf_M_valueB st w)) (0 : Int32)))) = qf_M_reckon st w := (by unfold qf_M_reckon; rw [if_neg h1, if_neg h2, if_neg h3])
        exact W.vret hx hb hr (fun t ht hW => ⟨rfl, (by rw [ht, ← e9]; exact hP), hS.F ht⟩) hS.2.2 d_M_reckon_96
      · skip
        refine lv_iconst (v := 1) hx hb d_M_reckon_43 (by decide) ?_
        refine lv_goto (tgt := 48) hx hb d_M_reckon_44 (by decide) ?_
        refine lv_istore (lv' := [(6, .int 1), (5, .int (qf_M_resultOf w (qf_M_valueA st w) (qf_M_valueB st w))), (4, .int (qf_M_valueB st w)), (3, .int (qf_M_valueA st w)), (2, .int (qf_Pa_kind w)), (0, .ref (ad 0)), (1, .int w)]) hx hb d_M_reckon_48 hl (by decide) rfl (fun ls hl => ?_)
        refine lv_iload hx hb d_M_reckon_50 (lv_at hl 0 rfl) ?_
        refine lv_if_eq (tgt := 68) hx hb d_M_reckon_52 (by decide) (fun h => False.elim (by revert h; decide)) (fun _ => ?_)
        refine lv_iload_n hx hb d_M_reckon_55 rfl (lv_at hl 6 rfl) ?_
        refine qx_rd (va_runS (As := [.int w]) (rest := []) ⟨hx, hb, hml, hown, hts⟩ (c_Pa_condition l D cA w) (qx_kS hts mw_258 mw_259 mw_34 mw_260 cd_Pa_condition ⟨Nat.le_of_ble_eq_true rfl, Nat.le_of_ble_eq_true rfl⟩) (qx_preS hP hD hK hN [] rfl rfl) rfl rfl hl.1 rfl (lv_room (Nat.le_of_ble_eq_true rfl)) d_M_reckon_56 ⟨Nat.zero_le _, Nat.zero_le _⟩) ?_
        refine lv_iload_n hx hb d_M_reckon_59 rfl (lv_at hl 3 rfl) ?_
        refine lv_iload hx hb d_M_reckon_60 (lv_at hl 2 rfl) ?_
        refine qx_rd (va_runS (As := [.int (qf_Pa_condition w), .int (qf_M_valueA st w), .int (qf_M_valueB st w)]) (rest := []) ⟨hx, hb, hml, hown, hts⟩ (c_Co_holds l D cA (qf_Pa_condition w) (qf_M_valueA st w) (qf_M_valueB st w)) (qx_kS hts mw_261 mw_262 mw_35 mw_263 cd_Co_holds ⟨Nat.le_of_ble_eq_true rfl, Nat.le_of_ble_eq_true rfl⟩) (qx_preS hP hD hK hN [] rfl rfl) rfl rfl hl.1 rfl (lv_room (Nat.le_of_ble_eq_true rfl)) d_M_reckon_62 ⟨Nat.zero_le _, Nat.zero_le _⟩) ?_
        refine lv_goto (tgt := 78) hx hb d_M_reckon_65 (by decide) ?_
        refine lv_istore (lv' := [(7, .int (qf_Co_holds (qf_Pa_condition w) (qf_M_valueA st w) (qf_M_valueB st w))), (6, .int 1), (5, .int (qf_M_resultOf w (qf_M_valueA st w) (qf_M_valueB st w))), (4, .int (qf_M_valueB st w)), (3, .int (qf_M_valueA st w)), (2, .int (qf_Pa_kind w)), (0, .ref (ad 0)), (1, .int w)]) hx hb d_M_reckon_78 hl (by decide) rfl (fun ls hl => ?_)
        refine lv_aload_n hx hb d_M_reckon_80 rfl (lv_at hl 6 rfl) ?_
        refine lv_iload_n hx hb d_M_reckon_81 rfl (lv_at hl 7 rfl) ?_
        refine lv_iload hx hb d_M_reckon_82 (lv_at hl 2 rfl) ?_
        refine qx_mu (wn := qw_M ad cA (qf_M_setT st w (qf_M_resultOf w (qf_M_valueA st w) (qf_M_valueB st w)))) (va_runV (As := [.int w, .int (qf_M_resultOf w (qf_M_valueA st w) (qf_M_valueB st w))]) (rest := []) ⟨hx, hb, hml, hown, hts⟩ (c_M_setT l D cA ad st w (qf_M_resultOf w (qf_M_valueA st w) (qf_M_valueB st w))) (qx_kV hts mw_268 mw_270 mw_5 mw_30 mw_271 cd_M_setT ⟨Nat.le_of_ble_eq_true rfl, Nat.le_of_ble_eq_true rfl⟩) (qx_preV (q0 := 0) (ci := 1) (q := (R_M, T_M, 7)) hP hD hK hN [0, 1, 2, 3, 4, 5] rfl rfl rfl rfl) rfl rfl hl.1 rfl (lv_room (Nat.le_of_ble_eq_true rfl)) d_M_reckon_84 ⟨Nat.zero_le _, Nat.zero_le _⟩) hP hD hS [0, 1, 2, 3, 4, 5] rfl rfl rfl (fun H locs hP hD hS => ?_)
        have hP : va_P D vwCl (qw_M ad cA (qf_M_setT st w (qf_M_resultOf w (qf_M_valueA st w) (qf_M_valueB st w)))) H := hP
        have hD : va_D A (qw_M ad cA (qf_M_setT st w (qf_M_resultOf w (qf_M_valueA st w) (qf_M_valueB st w)))) := hD
        refine W.eq (g2 := F0 m 87 ls []) rfl ?_
        refine lv_aload_n hx hb d_M_reckon_87 rfl (lv_at hl 6 rfl) ?_
        refine va_get (D := D) (ci := 1) (v := .ref (ad 4)) (C := R_M) (T := T_M) (N := 7) hx hb hts in_M hown hK hP 0 rfl rfl 3 (by decide) (hts (Cond.fieldLink R_M 24 "QueuedFronts$Machine" "flow" "LQueuedFronts$Flow;") mw_101) (fun _ h9 => h9) rfl d_M_reckon_88 ?_
        refine lv_iload hx hb d_M_reckon_91 (lv_at hl 0 rfl) ?_
        refine qx_mu (wn := qw_M ad cA (qm_M_fl (qf_M_setT st w (qf_M_resultOf w (qf_M_valueA st w) (qf_M_valueB st w))) (qf_F_moveOn ((qf_M_setT st w (qf_M_resultOf w (qf_M_valueA st w) (qf_M_valueB st w))).2.2.2.1) (qf_Co_holds (qf_Pa_condition w) (qf_M_valueA st w) (qf_M_valueB st w))))) (va_runV (As := [.int (qf_Co_holds (qf_Pa_condition w) (qf_M_valueA st w) (qf_M_valueB st w))]) (rest := []) ⟨hx, hb, hml, hown, hts⟩ (c_F_moveOn l D cA (ad 4) ((qf_M_setT st w (qf_M_resultOf w (qf_M_valueA st w) (qf_M_valueB st w))).2.2.2.1) (qf_Co_holds (qf_Pa_condition w) (qf_M_valueA st w) (qf_M_valueB st w))) (qx_kV hts mw_275 mw_206 mw_207 mw_31 mw_208 cd_F_moveOn ⟨Nat.le_of_ble_eq_true rfl, Nat.le_of_ble_eq_true rfl⟩) (qx_preV (q0 := 4) (ci := 2) (q := (R_F, T_F, 4)) hP hD hK hN [4] rfl rfl rfl rfl) rfl rfl hl.1 rfl (lv_room (Nat.le_of_ble_eq_true rfl)) d_M_reckon_93 ⟨Nat.zero_le _, Nat.zero_le _⟩) hP hD hS [4] rfl rfl rfl (fun H locs hP hD hS => ?_)
        have hP : va_P D vwCl (qw_M ad cA (qm_M_fl (qf_M_setT st w (qf_M_resultOf w (qf_M_valueA st w) (qf_M_valueB st w))) (qf_F_moveOn ((qf_M_setT st w (qf_M_resultOf w (qf_M_valueA st w) (qf_M_valueB st w))).2.2.2.1) (qf_Co_holds (qf_Pa_condition w) (qf_M_valueA st w) (qf_M_valueB st w))))) H := hP
        have hD : va_D A (qw_M ad cA (qm_M_fl (qf_M_setT st w (qf_M_resultOf w (qf_M_valueA st w) (qf_M_valueB st w))) (qf_F_moveOn ((qf_M_setT st w (qf_M_resultOf w (qf_M_valueA st w) (qf_M_valueB st w))).2.2.2.1) (qf_Co_holds (qf_Pa_condition w) (qf_M_valueA st w) (qf_M_valueB st w))))) := hD
        refine W.eq (g2 := F0 m 96 ls []) rfl ?_
        have e9 : (qm_M_fl (qf_M_setT st w (qf_M_resultOf w (qf_M_valueA st w) (qf_M_valueB st w))) (qf_F_moveOn ((qf_M_setT st w (qf_M_resultOf w (qf_M_valueA st w) (qf_M_valueB st w))).2.2.2.1) (qf_Co_holds (qf_Pa_condition w) (qf_M_valueA st w) (qf_M_valueB st w)))) = qf_M_reckon st w := (by unfold qf_M_reckon; rw [if_neg h1, if_neg h2, if_pos h3])
        exact W.vret hx hb hr (fun t ht hW => ⟨rfl, (by rw [ht, ← e9]; exact hP), hS.F ht⟩) hS.2.2 d_M_reckon_96
def qf_M_moveData (st : qs_M) (w : Int32) : qs_M :=
  if qf_Q_isDataOffset (qf_M_valueA st w + qf_Pa_m w) = 0 then (qm_M_fl st (qf_F_moveOn st.2.2.2.1 (0 : Int32)))
  else if qf_Pa_kind w = 11 then (qm_M_fl (qf_M_setT st w (st.2.2.1 (Int32.toNatClampNeg (qf_Q_dataIndex (qf_M_valueS st w) (qf_M_valueA st w + qf_Pa_m w))))) (qf_F_moveOn ((qf_M_setT st w (st.2.2.1 (Int32.toNatClampNeg (qf_Q_dataIndex (qf_M_valueS st w) (qf_M_valueA st w + qf_Pa_m w))))).2.2.2.1) (0 : Int32)))
  else (qm_M_fl (qm_M_dt st (upd st.2.2.1 (Int32.toNatClampNeg (qf_Q_dataIndex (qf_M_valueS st w) (qf_M_valueA st w + qf_Pa_m w))) (qf_M_valueT st w))) (qf_F_moveOn st.2.2.2.1 (0 : Int32)))
set_option maxHeartbeats 4000000 in
set_option maxRecDepth 100000 in
theorem c_M_moveData (l : Launch) (D : va_G) (cA : ClassId) (ad : Nat → Nat) (st : qs_M) (w : Int32) (hs : ∀ k : Nat, k < 4 → vp_in (st.2.1 k) 4) : Met l y_M_moveData (Cond.code y_M_moveData b_M_moveData 4 none :: qx_T) ({ frames := 3, cells := 0, slots := 0, locals := 62 }) (qx_Pc D vwCl [(cA, .int)] (qw_M ad cA st) [.ref (ad 0), .int w]) (qx_Q D vwCl (qw_M ad cA (qf_M_moveData st w)) (qx_ad (qw_M ad cA st)) none) 0 0 (qx_ad (qw_M ad cA st)) := by
  refine Met.ofW (cc := b_M_moveData) (maxL := 4) (ret := none) (by decide) rfl ?_
  intro p e s m args below meth c s₁ B hml hv
  obtain ⟨rfl, hP, hK, hN, hD0⟩ := hv
  have hx := B.exec
  have hb := B.bytes
  have hr := B.returns
  have hts0 := atoms_spec (ws := Cond.code y_M_moveData b_M_moveData 4 none :: qx_T) B.pre
  have hts := fun w h => hts0 w (List.mem_cons_of_mem _ h)
  have hown : s.vm.findClass R_M = some m.cls := findClass_of_methodNamed B.named
  have hlocks := B.notSynchronized
  have hD : va_D (qx_ad (qw_M ad cA st)) (qw_M ad cA st) := ⟨hD0.1, fun k q hk => ⟨k, q.2, hk⟩⟩
  generalize hAe : qx_ad (qw_M ad cA st) = A at hD ⊢
  have hS : va_S A s.heap s.heap [] := va_S.rf
  have hl := lv_entry ([.ref (ad 0), .int w]) (n := 4) (Nat.le_of_ble_eq_true rfl)
  rw [lg_entry_eq]
  generalize (lg_sl ([.ref (ad 0), .int w]) ++ List.replicate (4 - (lg_sl ([.ref (ad 0), .int w])).length) Slot.unset).toArray = ls at hl ⊢
  have hl : lv_has ls 4 [(0, .ref (ad 0)), (1, .int w)] := hl
  refine lv_aload_n hx hb d_M_moveData_0 rfl (lv_at hl 0 rfl) ?_
  refine lv_iload_n hx hb d_M_moveData_1 rfl (lv_at hl 1 rfl) ?_
  refine qx_rd (va_runV (As := [.int w]) (rest := []) ⟨hx, hb, hml, hown, hts⟩ (c_M_valueA l D cA ad st w) (qx_kV hts mw_220 mw_222 mw_2 mw_30 mw_223 cd_M_valueA ⟨Nat.le_of_ble_eq_true rfl, Nat.le_of_ble_eq_true rfl⟩) (qx_preV (q0 := 0) (ci := 1) (q := (R_M, T_M, 7)) hP hD hK hN [0, 1, 2, 3, 4, 5] rfl rfl rfl rfl) rfl rfl hl.1 rfl (lv_room (Nat.le_of_ble_eq_true rfl)) d_M_moveData_2 ⟨Nat.zero_le _, Nat.zero_le _⟩) ?_
  refine lv_iload_n hx hb d_M_moveData_5 rfl (lv_at hl 1 rfl) ?_
  refine qx_rd (va_runS (As := [.int w]) (rest := [.int (qf_M_valueA st w)]) ⟨hx, hb, hml, hown, hts⟩ (c_Pa_m l D cA w) (qx_kS hts mw_237 mw_238 mw_34 mw_239 cd_Pa_m ⟨Nat.le_of_ble_eq_true rfl, Nat.le_of_ble_eq_true rfl⟩) (qx_preS hP hD hK hN [] rfl rfl) rfl rfl hl.1 rfl (lv_room (Nat.le_of_ble_eq_true rfl)) d_M_moveData_6 ⟨Nat.zero_le _, Nat.zero_le _⟩) ?_
  refine lv_iadd hx hb d_M_moveData_9 ?_
  refine lv_istore_n (lv' := [(2, .int (qf_M_valueA st w + qf_Pa_m w)), (0, .ref (ad 0)), (1, .int w)]) hx hb d_M_moveData_10 rfl hl (by decide) rfl (fun ls hl => ?_)
  refine lv_iload_n hx hb d_M_moveData_11 rfl (lv_at hl 0 rfl) ?_
  refine qx_rd (va_runSN (As := [.int (qf_M_valueA st w + qf_Pa_m w)]) (rest := []) ⟨hx, hb, hml, hown, hts⟩ (c_Q_isDataOffset l D cA (qf_M_valueA st w + qf_Pa_m w)) (qx_kSN hts hN.2.1 mw_156 mw_29 mw_157 cd_Q_isDataOffset ⟨Nat.le_of_ble_eq_true rfl, Nat.le_of_ble_eq_true rfl⟩) (qx_preS hP hD hK hN [] rfl rfl) rfl rfl hl.1 rfl (lv_room (Nat.le_of_ble_eq_true rfl)) d_M_moveData_12 ⟨Nat.zero_le _, Nat.zero_le _⟩) ?_
  refine lv_if_eq (tgt := 62) hx hb d_M_moveData_15 (by decide) (fun h1 => ?_) (fun h1 => ?_)
  · skip
    refine lv_aload_n hx hb d_M_moveData_62 rfl (lv_at hl 1 rfl) ?_
    refine va_get (D := D) (ci := 1) (v := .ref (ad 4)) (C := R_M) (T := T_M) (N := 7) hx hb hts in_M hown hK hP 0 rfl rfl 3 (by decide) (hts (Cond.fieldLink R_M 24 "QueuedFronts$Machine" "flow" "LQueuedFronts$Flow;") mw_101) (fun _ h9 => h9) rfl d_M_moveData_63 ?_
    refine lv_iconst (v := 0) hx hb d_M_moveData_66 (by decide) ?_
    refine qx_mu (wn := qw_M ad cA (qm_M_fl st (qf_F_moveOn st.2.2.2.1 (0 : Int32)))) (va_runV (As := [.int 0]) (rest := []) ⟨hx, hb, hml, hown, hts⟩ (c_F_moveOn l D cA (ad 4) st.2.2.2.1 0) (qx_kV hts mw_275 mw_206 mw_207 mw_31 mw_208 cd_F_moveOn ⟨Nat.le_of_ble_eq_true rfl, Nat.le_of_ble_eq_true rfl⟩) (qx_preV (q0 := 4) (ci := 2) (q := (R_F, T_F, 4)) hP hD hK hN [4] rfl rfl rfl rfl) rfl rfl hl.1 rfl (lv_room (Nat.le_of_ble_eq_true rfl)) d_M_moveData_67 ⟨Nat.zero_le _, Nat.zero_le _⟩) hP hD hS [4] rfl rfl rfl (fun H locs hP hD hS => ?_)
    have hP : va_P D vwCl (qw_M ad cA (qm_M_fl st (qf_F_moveOn st.2.2.2.1 (0 : Int32)))) H := hP
    have hD : va_D A (qw_M ad cA (qm_M_fl st (qf_F_moveOn st.2.2.2.1 (0 : Int32)))) := hD
    refine W.eq (g2 := F0 m 70 ls []) rfl ?_
    have e9 : (qm_M_fl st (qf_F_moveOn st.2.2.2.1 (0 : Int32))) = qf_M_moveData st w := (by unfold qf_M_moveData; rw [if_pos h1])
    exact W.vret hx hb hr (fun t ht hW => ⟨rfl, (by rw [ht, ← e9]; exact hP), hS.F ht⟩) hS.2.2 d_M_moveData_70
  · skip
    refine lv_aload_n hx hb d_M_moveData_18 rfl (lv_at hl 1 rfl) ?_
    refine lv_iload_n hx hb d_M_moveData_19 rfl (lv_at hl 2 rfl) ?_
    refine qx_rd (va_runV (As := [.int w]) (rest := []) ⟨hx, hb, hml, hown, hts⟩ (c_M_valueS l D cA ad st w) (qx_kV hts mw_280 mw_282 mw_7 mw_30 mw_283 cd_M_valueS ⟨Nat.le_of_ble_eq_true rfl, Nat.le_of_ble_eq_true rfl⟩) (qx_preV (q0 := 0) (ci := 1) (q := (R_M, T_M, 7)) hP hD hK hN [0, 1, 2, 3, 4, 5] rfl rfl rfl rfl) rfl rfl hl.1 rfl (lv_room (Nat.le_of_ble_eq_true rfl)) d_M_moveData_20 ⟨Nat.zero_le _, Nat.zero_le _⟩) ?_
    refine lv_iload_n hx hb d_M_moveData_23 rfl (lv_at hl 0 rfl) ?_
    refine qx_rd (va_runSN (As := [.int (qf_M_valueS st w), .int (qf_M_valueA st w + qf_Pa_m w)]) (rest := []) ⟨hx, hb, hml, hown, hts⟩ (c_Q_dataIndex l D cA (qf_M_valueS st w) (qf_M_valueA st w + qf_Pa_m w)) (qx_kSN hts hN.2.2 mw_159 mw_29 mw_160 cd_Q_dataIndex ⟨Nat.le_of_ble_eq_true rfl, Nat.le_of_ble_eq_true rfl⟩) (qx_preS hP hD hK hN [] rfl rfl) rfl rfl hl.1 rfl (lv_room (Nat.le_of_ble_eq_true rfl)) d_M_moveData_24 ⟨Nat.zero_le _, Nat.zero_le _⟩) ?_
    refine lv_istore_n (lv' := [(3, .int (qf_Q_dataIndex (qf_M_valueS st w) (qf_M_valueA st w + qf_Pa_m w))), (2, .int (qf_M_valueA st w + qf_Pa_m w)), (0, .ref (ad 0)), (1, .int w)]) hx hb d_M_moveData_27 rfl hl (by decide) rfl (fun ls hl => ?_)
    refine lv_iload_n hx hb d_M_moveData_28 rfl (lv_at hl 3 rfl) ?_
    refine qx_rd (va_runS (As := [.int w]) (rest := []) ⟨hx, hb, hml, hown, hts⟩ (c_Pa_kind l D cA w) (qx_kS hts mw_217 mw_218 mw_34 mw_219 cd_Pa_kind ⟨Nat.le_of_ble_eq_true rfl, Nat.le_of_ble_eq_true rfl⟩) (qx_preS hP hD hK hN [] rfl rfl) rfl rfl hl.1 rfl (lv_room (Nat.le_of_ble_eq_true rfl)) d_M_moveData_29 ⟨Nat.zero_le _, Nat.zero_le _⟩) ?_
    refine lv_bipush (v := 11) hx hb d_M_moveData_32 (by decide) ?_
    refine lv_icmp_ne (tgt := 51) hx hb d_M_moveData_34 (by decide) (fun h2 => ?_) (fun h2 => ?_)
    · skip
      refine lv_aload_n hx hb d_M_moveData_51 rfl (lv_at hl 2 rfl) ?_
      refine va_get (D := D) (ci := 1) (v := .ref (ad 3)) (C := R_M) (T := T_M) (N := 7) hx hb hts in_M hown hK hP 0 rfl rfl 2 (by decide) (hts (Cond.fieldLink R_M 18 "QueuedFronts$Machine" "dataWords" "[I") mw_99) (fun _ h9 => h9) rfl d_M_moveData_52 ?_
      refine lv_iload_n hx hb d_M_moveData_55 rfl (lv_at hl 0 rfl) ?_
      refine lv_aload_n hx hb d_M_moveData_56 rfl (lv_at hl 2 rfl) ?_
      refine lv_iload_n hx hb d_M_moveData_57 rfl (lv_at hl 3 rfl) ?_
      refine qx_rd (va_runV (As := [.int w]) (rest := [.int (qf_Q_dataIndex (qf_M_valueS st w) (qf_M_valueA st w + qf_Pa_m w)), .ref (ad 3)]) ⟨hx, hb, hml, hown, hts⟩ (c_M_valueT l D cA ad st w) (qx_kV hts mw_288 mw_290 mw_8 mw_30 mw_291 cd_M_valueT ⟨Nat.le_of_ble_eq_true rfl, Nat.le_of_ble_eq_true rfl⟩) (qx_preV (q0 := 0) (ci := 1) (q := (R_M, T_M, 7)) hP hD hK hN [0, 1, 2, 3, 4, 5] rfl rfl rfl rfl) rfl rfl hl.1 rfl (lv_room (Nat.le_of_ble_eq_true rfl)) d_M_moveData_58 ⟨Nat.zero_le _, Nat.zero_le _⟩) ?_
      refine va_iast hx hb hK hP hD hS 3 0 rfl rfl (show vp_in (qf_Q_dataIndex (qf_M_valueS st w) (qf_M_valueA st w + qf_Pa_m w)) 64 from qi_dix (qi_S w hs) (by assumption)) d_M_moveData_61 (fun H locs hP hD hS => ?_)
      have hP : va_P D vwCl (qw_M ad cA (qm_M_dt st (upd st.2.2.1 (Int32.toNatClampNeg (qf_Q_dataIndex (qf_M_valueS st w) (qf_M_valueA st w + qf_Pa_m w))) (qf_M_valueT st w)))) H := hP
      have hD : va_D A (qw_M ad cA (qm_M_dt st (upd st.2.2.1 (Int32.toNatClampNeg (qf_Q_dataIndex (qf_M_valueS st w) (qf_M_valueA st w + qf_Pa_m w))) (qf_M_valueT st w)))) := hD
      refine lv_aload_n hx hb d_M_moveData_62 rfl (lv_at hl 2 rfl) ?_
      refine va_get (D := D) (ci := 1) (v := .ref (ad 4)) (C := R_M) (T := T_M) (N := 7) hx hb hts in_M hown hK hP 0 rfl rfl 3 (by decide) (hts (Cond.fieldLink R_M 24 "QueuedFronts$Machine" "flow" "LQueuedFronts$Flow;") mw_101) (fun _ h9 => h9) rfl d_M_moveData_63 ?_
      refine lv_iconst (v := 0) hx hb d_M_moveData_66 (by decide) ?_
      refine qx_mu (wn := qw_M ad cA (qm_M_fl (qm_M_dt st (upd st.2.2.1 (Int32.toNatClampNeg (qf_Q_dataIndex (qf_M_valueS st w) (qf_M_valueA st w + qf_Pa_m w))) (qf_M_valueT st w))) (qf_F_moveOn st.2.2.2.1 (0 : Int32)))) (va_runV (As := [.int 0]) (rest := []) ⟨hx, hb, hml, hown, hts⟩ (c_F_moveOn l D cA (ad 4) st.2.2.2.1 0) (qx_kV hts mw_275 mw_206 mw_207 mw_31 mw_208 cd_F_moveOn ⟨Nat.le_of_ble_eq_true rfl, Nat.le_of_ble_eq_true rfl⟩) (qx_preV (q0 := 4) (ci := 2) (q := (R_F, T_F, 4)) hP hD hK hN [4] rfl rfl rfl rfl) rfl rfl hl.1 rfl (lv_room (Nat.le_of_ble_eq_true rfl)) d_M_moveData_67 ⟨Nat.zero_le _, Nat.zero_le _⟩) hP hD hS [4] rfl rfl rfl (fun H locs hP hD hS => ?_)
      have hP : va_P D vwCl (qw_M ad cA (qm_M_fl (qm_M_dt st (upd st.2.2.1 (Int32.toNatClampNeg (qf_Q_dataIndex (qf_M_valueS st w) (qf_M_valueA st w + qf_Pa_m w))) (qf_M_valueT st w))) (qf_F_moveOn st.2.2.2.1 (0 : Int32)))) H := hP
      have hD : va_D A (qw_M ad cA (qm_M_fl (qm_M_dt st (upd st.2.2.1 (Int32.toNatClampNeg (qf_Q_dataIndex (qf_M_valueS st w) (qf_M_valueA st w + qf_Pa_m w))) (qf_M_valueT st w))) (qf_F_moveOn st.2.2.2.1 (0 : Int32)))) := hD
      refine W.eq (g2 := F0 m 70 ls []) rfl ?_
      have e9 : (qm_M_fl (qm_M_dt st (upd st.2.2.1 (Int32.toNatClampNeg (qf_Q_dataIndex (qf_M_valueS st w) (qf_M_valueA st w + qf_Pa_m w))) (qf_M_valueT st w))) (qf_F_moveOn st.2.2.2.1 (0 : Int32))) = qf_M_moveData st w := (by unfold qf_M_moveData; rw [if_neg h1, if_neg h2])
      exact W.vret hx hb hr (fun t ht hW => ⟨rfl, (by rw [ht, ← e9]; exact hP), hS.F ht⟩) hS.2.2 d_M_moveData_70
    · skip
      refine lv_aload_n hx hb d_M_moveData_37 rfl (lv_at hl 2 rfl) ?_
      refine lv_iload_n hx hb d_M_moveData_38 rfl (lv_at hl 3 rfl) ?_
      refine lv_aload_n hx hb d_M_moveData_39 rfl (lv_at hl 2 rfl) ?_
      refine va_get (D := D) (ci := 1) (v := .ref (ad 3)) (C := R_M) (T := T_M) (N := 7) hx hb hts in_M hown hK hP 0 rfl rfl 2 (by decide) (hts (Cond.fieldLink R_M 18 "QueuedFronts$Machine" "dataWords" "[I") mw_99) (fun _ h9 => h9) rfl d_M_moveData_40 ?_
      refine lv_iload_n hx hb d_M_moveData_43 rfl (lv_at hl 0 rfl) ?_
      refine va_iald hx hb hK hP 3 0 rfl rfl (show vp_in (qf_Q_dataIndex (qf_M_valueS st w) (qf_M_valueA st w + qf_Pa_m w)) 64 from qi_dix (qi_S w hs) (by assumption)) d_M_moveData_44 ?_
      refine qx_mu (wn := qw_M ad cA (qf_M_setT st w (st.2.2.1 (Int32.toNatClampNeg (qf_Q_dataIndex (qf_M_valueS st w) (qf_M_valueA st w + qf_Pa_m w)))))) (va_runV (As := [.int w, .int (st.2.2.1 (Int32.toNatClampNeg (qf_Q_dataIndex (qf_M_valueS st w) (qf_M_valueA st w + qf_Pa_m w))))]) (rest := []) ⟨hx, hb, hml, hown, hts⟩ (c_M_setT l D cA ad st w (st.2.2.1 (Int32.toNatClampNeg (qf_Q_dataIndex (qf_M_valueS st w) (qf_M_valueA st w + qf_Pa_m w))))) (qx_kV hts mw_268 mw_270 mw_5 mw_30 mw_271 cd_M_setT ⟨Nat.le_of_ble_eq_true rfl, Nat.le_of_ble_eq_true rfl⟩) (qx_preV (q0 := 0) (ci := 1) (q := (R_M, T_M, 7)) hP hD hK hN [0, 1, 2, 3, 4, 5] rfl rfl rfl rfl) rfl rfl hl.1 rfl (lv_room (Nat.le_of_ble_eq_true rfl)) d_M_moveData_45 ⟨Nat.zero_le _, Nat.zero_le _⟩) hP hD hS [0, 1, 2, 3, 4, 5] rfl rfl rfl (fun H locs hP hD hS => ?_)
      have hP : va_P D vwCl (qw_M ad cA (qf_M_setT st w (st.2.2.1 (Int32.toNatClampNeg (qf_Q_dataIndex (qf_M_valueS st w) (qf_M_valueA st w + qf_Pa_m w)))))) H := hP
      have hD : va_D A (qw_M ad cA (qf_M_setT st w (st.2.2.1 (Int32.toNatClampNeg (qf_Q_dataIndex (qf_M_valueS st w) (qf_M_valueA st w + qf_Pa_m w)))))) := hD
      refine W.eq (g2 := F0 m 48 ls []) rfl ?_
      refine lv_goto (tgt := 62) hx hb d_M_moveData_48 (by decide) ?_
      refine lv_aload_n hx hb d_M_moveData_62 rfl (lv_at hl 2 rfl) ?_
      refine va_get (D := D) (ci := 1) (v := .ref (ad 4)) (C := R_M) (T := T_M) (N := 7) hx hb hts in_M hown hK hP 0 rfl rfl 3 (by decide) (hts (Cond.fieldLink R_M 24 "QueuedFronts$Machine" "flow" "LQueuedFronts$Flow;") mw_101) (fun _ h9 => h9) rfl d_M_moveData_63 ?_
      refine lv_iconst (v := 0) hx hb d_M_moveData_66 (by decide) ?_
      refine qx_mu (wn := qw_M ad cA (qm_M_fl (qf_M_setT st w (st.2.2.1 (Int32.toNatClampNeg (qf_Q_dataIndex (qf_M_valueS st w) (qf_M_valueA st w + qf_Pa_m w))))) (qf_F_moveOn ((qf_M_setT st w (st.2.2.1 (Int32.toNatClampNeg (qf_Q_dataIndex (qf_M_valueS st w) (qf_M_valueA st w + qf_Pa_m w))))).2.2.2.1) (0 : Int32)))) (va_runV (As := [.int 0]) (rest := []) ⟨hx, hb, hml, hown, hts⟩ (c_F_moveOn l D cA (ad 4) ((qf_M_setT st w (st.2.2.1 (Int32.toNatClampNeg (qf_Q_dataIndex (qf_M_valueS st w) (qf_M_valueA st w + qf_Pa_m w))))).2.2.2.1) 0) (qx_kV hts mw_275 mw_206 mw_207 mw_31 mw_208 cd_F_moveOn ⟨Nat.le_of_ble_eq_true rfl, Nat.le_of_ble_eq_true rfl⟩) (qx_preV (q0 := 4) (ci := 2) (q := (R_F, T_F, 4)) hP hD hK hN [4] rfl rfl rfl rfl) rfl rfl hl.1 rfl (lv_room (Nat.le_of_ble_eq_true rfl)) d_M_moveData_67 ⟨Nat.zero_le _, Nat.zero_le _⟩) hP hD hS [4] rfl rfl rfl (fun H locs hP hD hS => ?_)
      have hP : va_P D vwCl (qw_M ad cA (qm_M_fl (qf_M_setT st w (st.2.2.1 (Int32.toNatClampNeg (qf_Q_dataIndex (qf_M_valueS st w) (qf_M_valueA st w + qf_Pa_m w))))) (qf_F_moveOn ((qf_M_setT st w (st.2.2.1 (Int32.toNatClampNeg (qf_Q_dataIndex (qf_M_valueS st w) (qf_M_valueA st w + qf_Pa_m w))))).2.2.2.1) (0 : Int32)))) H := hP
      have hD : va_D A (qw_M ad cA (qm_M_fl (qf_M_setT st w (st.2.2.1 (Int32.toNatClampNeg (qf_Q_dataIndex (qf_M_valueS st w) (qf_M_valueA st w + qf_Pa_m w))))) (qf_F_moveOn ((qf_M_setT st w (st.2.2.1 (Int32.toNatClampNeg (qf_Q_dataIndex (qf_M_valueS st w) (qf_M_valueA st w + qf_Pa_m w))))).2.2.2.1) (0 : Int32)))) := hD
      refine W.eq (g2 := F0 m 70 ls []) rfl ?_
      have e9 : (qm_M_fl (qf_M_setT st w (st.2.2.1 (Int32.toNatClampNeg (qf_Q_dataIndex (qf_M_valueS st w) (qf_M_valueA st w + qf_Pa_m w))))) (qf_F_moveOn ((qf_M_setT st w (st.2.2.1 (Int32.toNatClampNeg (qf_Q_dataIndex (qf_M_valueS st w) (qf_M_valueA st w + qf_Pa_m w))))).2.2.2.1) (0 : Int32))) = qf_M_moveData st w := (by unfold qf_M_moveData; rw [if_neg h1, if_pos h2])
      exact W.vret hx hb hr (fun t ht hW => ⟨rfl, (by rw [ht, ← e9]; exact hP), hS.F ht⟩) hS.2.2 d_M_moveData_70
def qf_M_branch (st : qs_M) (w : Int32) : qs_M :=
  if qf_M_takesBranch st w (qf_M_valueT st w + qf_M_valueA st w) = 0 then (if qf_Pa_kind w = 13 then (qm_M_fl (qf_M_setT st w (qf_Pl_offsetOf (qf_Pl_behind st.2.2.2.1.2.1))) (qf_F_moveOnTo ((qf_M_setT st w (qf_Pl_offsetOf (qf_Pl_behind st.2.2.2.1.2.1))).2.2.2.1) (qf_Pl_behind st.2.2.2.1.2.1) (qf_M_branchNullifies w (qf_M_takesBranch st w (qf_M_valueT st w + qf_M_valueA st w)))))
    else if qf_Pa_kind w = 15 then (qm_M_fl (qf_M_setT st w (qf_M_valueT st w + qf_M_valueA st w)) (qf_F_moveOnTo ((qf_M_setT st w (qf_M_valueT st w + qf_M_valueA st w)).2.2.2.1) (qf_Pl_behind st.2.2.2.1.2.1) (qf_M_branchNullifies w (qf_M_takesBranch st w (qf_M_valueT st w + qf_M_valueA st w)))))
    else (qm_M_fl st (qf_F_moveOnTo st.2.2.2.1 (qf_Pl_behind st.2.2.2.1.2.1) (qf_M_branchNullifies w (qf_M_takesBranch st w (qf_M_valueT st w + qf_M_valueA st w))))))
  else if qf_Pa_kind w = 13 then (qm_M_fl (qf_M_setT st w (qf_Pl_offsetOf (qf_Pl_behind st.2.2.2.1.2.1))) (qf_F_moveOnTo ((qf_M_setT st w (qf_Pl_offsetOf (qf_Pl_behind st.2.2.2.1.2.1))).2.2.2.1) (qf_M_targetOf st w) (qf_M_branchNullifies w (qf_M_takesBranch st w (qf_M_valueT st w + qf_M_valueA st w)))))
  else if qf_Pa_kind w = 15 then (qm_M_fl (qf_M_setT st w (qf_M_valueT st w + qf_M_valueA st w)) (qf_F_moveOnTo ((qf_M_setT st w (qf_M_valueT st w + qf_M_valueA st w)).2.2.2.1) (qf_M_targetOf st w) (qf_M_branchNullifies w (qf_M_takesBranch st w (qf_M_valueT st w + qf_M_valueA st w)))))
  else (qm_M_fl st (qf_F_moveOnTo st.2.2.2.1 (qf_M_targetOf st w) (qf_M_branchNullifies w (qf_M_takesBranch st w (qf_M_valueT st w + qf_M_valueA st w)))))
set_option maxHeartbeats 4000000 in
set_option maxRecDepth 100000 in
theorem c_M_branch (l : Launch) (D : va_G) (cA : ClassId) (ad : Nat → Nat) (st : qs_M) (w : Int32) : Met l y_M_branch (Cond.code y_M_branch b_M_branch 6 none :: qx_T) ({ frames := 3, cells := 0, slots := 0, locals := 64 }) (qx_Pc D vwCl [(cA, .int)] (qw_M ad cA st) [.ref (ad 0), .int w]) (qx_Q D vwCl (qw_M ad cA (qf_M_branch st w)) (qx_ad (qw_M ad cA st)) none) 0 0 (qx_ad (qw_M ad cA st)) := by
  refine Met.ofW (cc := b_M_branch) (maxL := 6) (ret := none) (by decide) rfl ?_
  intro p e s m args below meth c s₁ B hml hv
  obtain ⟨rfl, hP, hK, hN, hD0⟩ := hv
  have hx := B.exec
  have hb := B.bytes
  have hr := B.returns
  have hts0 := atoms_spec (ws := Cond.code y_M_branch b_M_branch 6 none :: qx_T) B.pre
  have hts := fun w h => hts0 w (List.mem_cons_of_mem _ h)
  have hown : s.vm.findClass R_M = some m.cls := findClass_of_methodNamed B.named
  have hlocks := B.notSynchronized
  have hD : va_D (qx_ad (qw_M ad cA st)) (qw_M ad cA st) := ⟨hD0.1, fun k q hk => ⟨k, q.2, hk⟩⟩
  generalize hAe : qx_ad (qw_M ad cA st) = A at hD ⊢
  have hS : va_S A s.heap s.heap [] := va_S.rf
  have hl := lv_entry ([.ref (ad 0), .int w]) (n := 6) (Nat.le_of_ble_eq_true rfl)
  rw [lg_entry_eq]
  generalize (lg_sl ([.ref (ad 0), .int w]) ++ List.replicate (6 - (lg_sl ([.ref (ad 0), .int w])).length) Slot.unset).toArray = ls at hl ⊢
  have hl : lv_has ls 6 [(0, .ref (ad 0)), (1, .int w)] := hl
  refine lv_iload_n hx hb d_M_branch_0 rfl (lv_at hl 1 rfl) ?_
  refine qx_rd (va_runS (As := [.int w]) (rest := []) ⟨hx, hb, hml, hown, hts⟩ (c_Pa_kind l D cA w) (qx_kS hts mw_217 mw_218 mw_34 mw_219 cd_Pa_kind ⟨Nat.le_of_ble_eq_true rfl, Nat.le_of_ble_eq_true rfl⟩) (qx_preS hP hD hK hN [] rfl rfl) rfl rfl hl.1 rfl (lv_room (Nat.le_of_ble_eq_true rfl)) d_M_branch_1 ⟨Nat.zero_le _, Nat.zero_le _⟩) ?_
  refine lv_istore_n (lv' := [(2, .int (qf_Pa_kind w)), (0, .ref (ad 0)), (1, .int w)]) hx hb d_M_branch_4 rfl hl (by decide) rfl (fun ls hl => ?_)
  refine lv_aload_n hx hb d_M_branch_5 rfl (lv_at hl 1 rfl) ?_
  refine lv_iload_n hx hb d_M_branch_6 rfl (lv_at hl 2 rfl) ?_
  refine qx_rd (va_runV (As := [.int w]) (rest := []) ⟨hx, hb, hml, hown, hts⟩ (c_M_valueT l D cA ad st w) (qx_kV hts mw_288 mw_290 mw_8 mw_30 mw_291 cd_M_valueT ⟨Nat.le_of_ble_eq_true rfl, Nat.le_of_ble_eq_true rfl⟩) (qx_preV (q0 := 0) (ci := 1) (q := (R_M, T_M, 7)) hP hD hK hN [0, 1, 2, 3, 4, 5] rfl rfl rfl rfl) rfl rfl hl.1 rfl (lv_room (Nat.le_of_ble_eq_true rfl)) d_M_branch_7 ⟨Nat.zero_le _, Nat.zero_le _⟩) ?_
  refine lv_aload_n hx hb d_M_branch_10 rfl (lv_at hl 1 rfl) ?_
  refine lv_iload_n hx hb d_M_branch_11 rfl (lv_at hl 2 rfl) ?_
  refine qx_rd (va_runV (As := [.int w]) (rest := [.int (qf_M_valueT st w)]) ⟨hx, hb, hml, hown, hts⟩ (c_M_valueA l D cA ad st w) (qx_kV hts mw_220 mw_222 mw_2 mw_30 mw_223 cd_M_valueA ⟨Nat.le_of_ble_eq_true rfl, Nat.le_of_ble_eq_true rfl⟩) (qx_preV (q0 := 0) (ci := 1) (q := (R_M, T_M, 7)) hP hD hK hN [0, 1, 2, 3, 4, 5] rfl rfl rfl rfl) rfl rfl hl.1 rfl (lv_room (Nat.le_of_ble_eq_true rfl)) d_M_branch_12 ⟨Nat.zero_le _, Nat.zero_le _⟩) ?_
  refine lv_iadd hx hb d_M_branch_15 ?_
  refine lv_istore_n (lv' := [(3, .int (qf_M_valueT st w + qf_M_valueA st w)), (2, .int (qf_Pa_kind w)), (0, .ref (ad 0)), (1, .int w)]) hx hb d_M_branch_16 rfl hl (by decide) rfl (fun ls hl => ?_)
  refine lv_aload_n hx hb d_M_branch_17 rfl (lv_at hl 2 rfl) ?_
  refine lv_iload_n hx hb d_M_branch_18 rfl (lv_at hl 3 rfl) ?_
  refine lv_iload_n hx hb d_M_branch_19 rfl (lv_at hl 0 rfl) ?_
  refine qx_rd (va_runV (As := [.int w, .int (qf_M_valueT st w + qf_M_valueA st w)]) (rest := []) ⟨hx, hb, hml, hown, hts⟩ (c_M_takesBranch l D cA ad st w (qf_M_valueT st w + qf_M_valueA st w)) (qx_kV hts mw_296 mw_298 mw_10 mw_30 mw_299 cd_M_takesBranch ⟨Nat.le_of_ble_eq_true rfl, Nat.le_of_ble_eq_true rfl⟩) (qx_preV (q0 := 0) (ci := 1) (q := (R_M, T_M, 7)) hP hD hK hN [0, 1, 2, 3, 4, 5] rfl rfl rfl rfl) rfl rfl hl.1 rfl (lv_room (Nat.le_of_ble_eq_true rfl)) d_M_branch_20 ⟨Nat.zero_le _, Nat.zero_le _⟩) ?_
  refine lv_istore (lv' := [(4, .int (qf_M_takesBranch st w (qf_M_valueT st w + qf_M_valueA st w))), (3, .int (qf_M_valueT st w + qf_M_valueA st w)), (2, .int (qf_Pa_kind w)), (0, .ref (ad 0)), (1, .int w)]) hx hb d_M_branch_23 hl (by decide) rfl (fun ls hl => ?_)
  refine lv_iload hx hb d_M_branch_25 (lv_at hl 0 rfl) ?_
  refine lv_if_eq (tgt := 38) hx hb d_M_branch_27 (by decide) (fun h1 => ?_) (fun h1 => ?_)
  · skip
    refine lv_aload_n hx hb d_M_branch_38 rfl (lv_at hl 3 rfl) ?_
    refine va_get (D := D) (ci := 1) (v := .ref (ad 4)) (C := R_M) (T := T_M) (N := 7) hx hb hts in_M hown hK hP 0 rfl rfl 3 (by decide) (hts (Cond.fieldLink R_M 24 "QueuedFronts$Machine" "flow" "LQueuedFronts$Flow;") mw_101) (fun _ h9 => h9) rfl d_M_branch_39 ?_
    refine va_get (D := D) (ci := 2) (v := .int st.2.2.2.1.2.1) (C := R_F) (T := T_F) (N := 4) hx hb hts in_F hown hK hP 4 rfl rfl 1 (by decide) (hts (Cond.fieldLink R_M 139 "QueuedFronts$Flow" "back" "I") mw_62) (fun _ h9 => h9) rfl d_M_branch_42 ?_
    refine qx_rd (va_runS (As := [.int st.2.2.2.1.2.1]) (rest := []) ⟨hx, hb, hml, hown, hts⟩ (c_Pl_behind l D cA st.2.2.2.1.2.1) (qx_kS hts mw_306 mw_84 mw_32 mw_85 cd_Pl_behind ⟨Nat.le_of_ble_eq_true rfl, Nat.le_of_ble_eq_true rfl⟩) (qx_preS hP hD hK hN [] rfl rfl) rfl rfl hl.1 rfl (lv_room (Nat.le_of_ble_eq_true rfl)) d_M_branch_45 ⟨Nat.zero_le _, Nat.zero_le _⟩) ?_
    refine lv_istore (lv' := [(5, .int (qf_Pl_behind st.2.2.2.1.2.1)), (4, .int (qf_M_takesBranch st w (qf_M_valueT st w + qf_M_valueA st w))), (3, .int (qf_M_valueT st w + qf_M_valueA st w)), (2, .int (qf_Pa_kind w)), (0, .ref (ad 0)), (1, .int w)]) hx hb d_M_branch_48 hl (by decide) rfl (fun ls hl => ?_)
    refine lv_iload_n hx hb d_M_branch_50 rfl (lv_at hl 3 rfl) ?_
    refine lv_bipush (v := 13) hx hb d_M_branch_51 (by decide) ?_
    refine lv_icmp_ne (tgt := 77) hx hb d_M_branch_53 (by decide) (fun h2 => ?_) (fun h2 => ?_)
    · skip
      refine lv_iload_n hx hb d_M_branch_77 rfl (lv_at hl 3 rfl) ?_
      refine lv_bipush (v := 15) hx hb d_M_branch_78 (by decide) ?_
      refine lv_icmp_ne (tgt := 89) hx hb d_M_branch_80 (by decide) (fun h3 => ?_) (fun h3 => ?_)
      · skip
        refine lv_aload_n hx hb d_M_branch_89 rfl (lv_at hl 4 rfl) ?_
        refine va_get (D := D) (ci := 1) (v := .ref (ad 4)) (C := R_M) (T := T_M) (N := 7) hx hb hts in_M hown hK hP 0 rfl rfl 3 (by decide) (hts (Cond.fieldLink R_M 24 "QueuedFronts$Machine" "flow" "LQueuedFronts$Flow;") mw_101) (fun _ h9 => h9) rfl d_M_branch_90 ?_
        refine lv_iload hx hb d_M_branch_93 (lv_at hl 0 rfl) ?_
        refine lv_iload_n hx hb d_M_branch_95 rfl (lv_at hl 5 rfl) ?_
        refine lv_iload hx hb d_M_branch_96 (lv_at hl 1 rfl) ?_
        refine qx_rd (va_runS (As := [.int w, .int (qf_M_takesBranch st w (qf_M_valueT st w + qf_M_valueA st w))]) (rest := [.int (qf_Pl_behind st.2.2.2.1.2.1), .ref (ad 4)]) ⟨hx, hb, hml, hown, hts⟩ (c_M_branchNullifies l D cA w (qf_M_takesBranch st w (qf_M_valueT st w + qf_M_valueA st w))) (qx_kS hts mw_307 mw_308 mw_30 mw_309 cd_M_branchNullifies ⟨Nat.le_of_ble_eq_true rfl, Nat.le_of_ble_eq_true rfl⟩) (qx_preS hP hD hK hN [] rfl rfl) rfl rfl hl.1 rfl (lv_room (Nat.le_of_ble_eq_true rfl)) d_M_branch_98 ⟨Nat.zero_le _, Nat.zero_le _⟩) ?_
        refine qx_mu (wn := qw_M ad cA (qm_M_fl st (qf_F_moveOnTo st.2.2.2.1 (qf_Pl_behind st.2.2.2.1.2.1) (qf_M_branchNullifies w (qf_M_takesBranch st w (qf_M_valueT st w + qf_M_valueA st w)))))) (va_runV (As := [.int (qf_Pl_behind st.2.2.2.1.2.1), .int (qf_M_branchNullifies w (qf_M_takesBranch st w (qf_M_valueT st w + qf_M_valueA st w)))]) (rest := []) ⟨hx, hb, hml, hown, hts⟩ (c_F_moveOnTo l D cA (ad 4) st.2.2.2.1 (qf_Pl_behind st.2.2.2.1.2.1) (qf_M_branchNullifies w (qf_M_takesBranch st w (qf_M_valueT st w + qf_M_valueA st w)))) (qx_kV hts mw_310 mw_210 mw_211 mw_31 mw_212 cd_F_moveOnTo ⟨Nat.le_of_ble_eq_true rfl, Nat.le_of_ble_eq_true rfl⟩) (qx_preV (q0 := 4) (ci := 2) (q := (R_F, T_F, 4)) hP hD hK hN [4] rfl rfl rfl rfl) rfl rfl hl.1 rfl (lv_room (Nat.le_of_ble_eq_true rfl)) d_M_branch_101 ⟨Nat.zero_le _, Nat.zero_le _⟩) hP hD hS [4] rfl rfl rfl (fun H locs hP hD hS => ?_)
        have hP : va_P D vwCl (qw_M ad cA (qm_M_fl st (qf_F_moveOnTo st.2.2.2.1 (qf_Pl_behind st.2.2.2.1.2.1) (qf_M_branchNullifies w (qf_M_takesBranch st w (qf_M_valueT st w + qf_M_valueA st w)))))) H := hP
        have hD : va_D A (qw_M ad cA (qm_M_fl st (qf_F_moveOnTo st.2.2.2.1 (qf_Pl_behind st.2.2.2.1.2.1) (qf_M_branchNullifies w (qf_M_takesBranch st w (qf_M_valueT st w + qf_M_valueA st w)))))) := hD
        refine W.eq (g2 := F0 m 104 ls []) rfl ?_
        have e9 : (qm_M_fl st (qf_F_moveOnTo st.2.2.2.1 (qf_Pl_behind st.2.2.2.1.2.1) (qf_M_branchNullifies w (qf_M_takesBranch st w (qf_M_valueT st w + qf_M_valueA st w))))) = qf_M_branch st w := (by unfold qf_M_branch; rw [if_pos h1, if_neg h2, if_neg h3])
        exact W.vret hx hb hr (fun t ht hW => ⟨rfl, (by rw [ht, ← e9]; exact hP), hS.F ht⟩) hS.2.2 d_M_branch_104
      · skip
        refine lv_aload_n hx hb d_M_branch_83 rfl (lv_at hl 4 rfl) ?_
        refine lv_iload_n hx hb d_M_branch_84 rfl (lv_at hl 5 rfl) ?_
        refine lv_iload_n hx hb d_M_branch_85 rfl (lv_at hl 2 rfl) ?_
        refine qx_mu (wn := qw_M ad cA (qf_M_setT st w (qf_M_valueT st w + qf_M_valueA st w))) (va_runV (As := [.int w, .int (qf_M_valueT st w + qf_M_valueA st w)]) (rest := []) ⟨hx, hb, hml, hown, hts⟩ (c_M_setT l D cA ad st w (qf_M_valueT st w + qf_M_valueA st w)) (qx_kV hts mw_268 mw_270 mw_5 mw_30 mw_271 cd_M_setT ⟨Nat.le_of_ble_eq_true rfl, Nat.le_of_ble_eq_true rfl⟩) (qx_preV (q0 := 0) (ci := 1) (q := (R_M, T_M, 7)) hP hD hK hN [0, 1, 2, 3, 4, 5] rfl rfl rfl rfl) rfl rfl hl.1 rfl (lv_room (Nat.le_of_ble_eq_true rfl)) d_M_branch_86 ⟨Nat.zero_le _, Nat.zero_le _⟩) hP hD hS [0, 1, 2, 3, 4, 5] rfl rfl rfl (fun H locs hP hD hS => ?_)
        have hP : va_P D vwCl (qw_M ad cA (qf_M_setT st w (qf_M_valueT st w + qf_M_valueA st w))) H := hP
        have hD : va_D A (qw_M ad cA (qf_M_setT st w (qf_M_valueT st w + qf_M_valueA st w))) := hD
        refine W.eq (g2 := F0 m 89 ls []) rfl ?_
        refine lv_aload_n hx hb d_M_branch_89 rfl (lv_at hl 4 rfl) ?_
        refine va_get (D := D) (ci := 1) (v := .ref (ad 4)) (C := R_M) (T := T_M) (N := 7) hx hb hts in_M hown hK hP 0 rfl rfl 3 (by decide) (hts (Cond.fieldLink R_M 24 "QueuedFronts$Machine" "flow" "LQueuedFronts$Flow;") mw_101) (fun _ h9 => h9) rfl d_M_branch_90 ?_
        refine lv_iload hx hb d_M_branch_93 (lv_at hl 0 rfl) ?_
        refine lv_iload_n hx hb d_M_branch_95 rfl (lv_at hl 5 rfl) ?_
        refine lv_iload hx hb d_M_branch_96 (lv_at hl 1 rfl) ?_
        refine qx_rd (va_runS (As := [.int w, .int (qf_M_takesBranch st w (qf_M_valueT st w + qf_M_valueA st w))]) (rest := [.int (qf_Pl_behind st.2.2.2.1.2.1), .ref (ad 4)]) ⟨hx, hb, hml, hown, hts⟩ (c_M_branchNullifies l D cA w (qf_M_takesBranch st w (qf_M_valueT st w + qf_M_valueA st w))) (qx_kS hts mw_307 mw_308 mw_30 mw_309 cd_M_branchNullifies ⟨Nat.le_of_ble_eq_true rfl, Nat.le_of_ble_eq_true rfl⟩) (qx_preS hP hD hK hN [] rfl rfl) rfl rfl hl.1 rfl (lv_room (Nat.le_of_ble_eq_true rfl)) d_M_branch_98 ⟨Nat.zero_le _, Nat.zero_le _⟩) ?_
        refine qx_mu (wn := qw_M ad cA (qm_M_fl (qf_M_setT st w (qf_M_valueT st w + qf_M_valueA st w)) (qf_F_moveOnTo ((qf_M_setT st w (qf_M_valueT st w + qf_M_valueA st w)).2.2.2.1) (qf_Pl_behind st.2.2.2.1.2.1) (qf_M_branchNullifies w (qf_M_takesBranch st w (qf_M_valueT st w + qf_M_valueA st w)))))) (va_runV (As := [.int (qf_Pl_behind st.2.2.2.1.2.1), .int (qf_M_branchNullifies w (qf_M_takesBranch st w (qf_M_valueT st w + qf_M_valueA st w)))]) (rest := []) ⟨hx, hb, hml, hown, hts⟩ (c_F_moveOnTo l D cA (ad 4) ((qf_M_setT st w (qf_M_valueT st w + qf_M_valueA st w)).2.2.2.1) (qf_Pl_behind st.2.2.2.1.2.1) (qf_M_branchNullifies w (qf_M_takesBranch st w (qf_M_valueT st w + qf_M_valueA st w)))) (qx_kV hts mw_310 mw_210 mw_211 mw_31 mw_212 cd_F_moveOnTo ⟨Nat.le_of_ble_eq_true rfl, Nat.le_of_ble_eq_true rfl⟩) (qx_preV (q0 := 4) (ci := 2) (q := (R_F, T_F, 4)) hP hD hK hN [4] rfl rfl rfl rfl) rfl rfl hl.1 rfl (lv_room (Nat.le_of_ble_eq_true rfl)) d_M_branch_101 ⟨Nat.zero_le _, Nat.zero_le _⟩) hP hD hS [4] rfl rfl rfl (fun H locs hP hD hS => ?_)
        have hP : va_P D vwCl (qw_M ad cA (qm_M_fl (qf_M_setT st w (qf_M_valueT st w + qf_M_valueA st w)) (qf_F_moveOnTo ((qf_M_setT st w (qf_M_valueT st w + qf_M_valueA st w)).2.2.2.1) (qf_Pl_behind st.2.2.2.1.2.1) (qf_M_branchNullifies w (qf_M_takesBranch st w (qf_M_valueT st w + qf_M_valueA st w)))))) H := hP
        have hD : va_D A (qw_M ad cA (qm_M_fl (qf_M_setT st w (qf_M_valueT st w + qf_M_valueA st w)) (qf_F_moveOnTo ((qf_M_setT st w (qf_M_valueT st w + qf_M_valueA st w)).2.2.2.1) (qf_Pl_behind st.2.2.2.1.2.1) (qf_M_branchNullifies w (qf_M_takesBranch st w (qf_M_valueT st w + qf_M_valueA st w)))))) := hD
        refine W.eq (g2 := F0 m 104 ls []) rfl ?_
        have e9 : (qm_M_fl (qf_M_setT st w (qf_M_valueT st w + qf_M_valueA st w)) (qf_F_moveOnTo ((qf_M_setT st w (qf_M_valueT st w + qf_M_valueA st w)).2.2.2.1) (qf_Pl_behind st.2.2.2.1.2.1) (qf_M_branchNullifies w (qf_M_takesBranch st w (qf_M_valueT st w + qf_M_valueA st w))))) = qf_M_branch st w := (by unfold qf_M_branch; rw [if_pos h1, if_neg h2, if_pos h3])
        exact W.vret hx hb hr (fun t ht hW => ⟨rfl, (by rw [ht, ← e9]; exact hP), hS.F ht⟩) hS.2.2 d_M_branch_104
    · skip
      refine lv_aload_n hx hb d_M_branch_56 rfl (lv_at hl 4 rfl) ?_
      refine lv_iload_n hx hb d_M_branch_57 rfl (lv_at hl 5 rfl) ?_
      refine lv_aload_n hx hb d_M_branch_58 rfl (lv_at hl 4 rfl) ?_
      refine va_get (D := D) (ci := 1) (v := .ref (ad 4)) (C := R_M) (T := T_M) (N := 7) hx hb hts in_M hown hK hP 0 rfl rfl 3 (by decide) (hts (Cond.fieldLink R_M 24 "QueuedFronts$Machine" "flow" "LQueuedFronts$Flow;") mw_101) (fun _ h9 => h9) rfl d_M_branch_59 ?_
      refine va_get (D := D) (ci := 2) (v := .int st.2.2.2.1.2.1) (C := R_F) (T := T_F) (N := 4) hx hb hts in_F hown hK hP 4 rfl rfl 1 (by decide) (hts (Cond.fieldLink R_M 139 "QueuedFronts$Flow" "back" "I") mw_62) (fun _ h9 => h9) rfl d_M_branch_62 ?_
      refine qx_rd (va_runS (As := [.int st.2.2.2.1.2.1]) (rest := [.int w, .ref (ad 0)]) ⟨hx, hb, hml, hown, hts⟩ (c_Pl_behind l D cA st.2.2.2.1.2.1) (qx_kS hts mw_306 mw_84 mw_32 mw_85 cd_Pl_behind ⟨Nat.le_of_ble_eq_true rfl, Nat.le_of_ble_eq_true rfl⟩) (qx_preS hP hD hK hN [] rfl rfl) rfl rfl hl.1 rfl (lv_room (Nat.le_of_ble_eq_true rfl)) d_M_branch_65 ⟨Nat.zero_le _, Nat.zero_le _⟩) ?_
      refine qx_rd (va_runS (As := [.int (qf_Pl_behind st.2.2.2.1.2.1)]) (rest := [.int w, .ref (ad 0)]) ⟨hx, hb, hml, hown, hts⟩ (c_Pl_offsetOf l D cA (qf_Pl_behind st.2.2.2.1.2.1)) (qx_kS hts mw_305 mw_90 mw_32 mw_91 cd_Pl_offsetOf ⟨Nat.le_of_ble_eq_true rfl, Nat.le_of_ble_eq_true rfl⟩) (qx_preS hP hD hK hN [] rfl rfl) rfl rfl hl.1 rfl (lv_room (Nat.le_of_ble_eq_true rfl)) d_M_branch_68 ⟨Nat.zero_le _, Nat.zero_le _⟩) ?_
      refine qx_mu (wn := qw_M ad cA (qf_M_setT st w (qf_Pl_offsetOf (qf_Pl_behind st.2.2.2.1.2.1)))) (va_runV (As := [.int w, .int (qf_Pl_offsetOf (qf_Pl_behind st.2.2.2.1.2.1))]) (rest := []) ⟨hx, hb, hml, hown, hts⟩ (c_M_setT l D cA ad st w (qf_Pl_offsetOf (qf_Pl_behind st.2.2.2.1.2.1))) (qx_kV hts mw_268 mw_270 mw_5 mw_30 mw_271 cd_M_setT ⟨Nat.le_of_ble_eq_true rfl, Nat.le_of_ble_eq_true rfl⟩) (qx_preV (q0 := 0) (ci := 1) (q := (R_M, T_M, 7)) hP hD hK hN [0, 1, 2, 3, 4, 5] rfl rfl rfl rfl) rfl rfl hl.1 rfl (lv_room (Nat.le_of_ble_eq_true rfl)) d_M_branch_71 ⟨Nat.zero_le _, Nat.zero_le _⟩) hP hD hS [0, 1, 2, 3, 4, 5] rfl rfl rfl (fun H locs hP hD hS => ?_)
      have hP : va_P D vwCl (qw_M ad cA (qf_M_setT st w (qf_Pl_offsetOf (qf_Pl_behind st.2.2.2.1.2.1)))) H := hP
      have hD : va_D A (qw_M ad cA (qf_M_setT st w (qf_Pl_offsetOf (qf_Pl_behind st.2.2.2.1.2.1)))) := hD
      refine W.eq (g2 := F0 m 74 ls []) rfl ?_
      refine lv_goto (tgt := 89) hx hb d_M_branch_74 (by decide) ?_
      refine lv_aload_n hx hb d_M_branch_89 rfl (lv_at hl 4 rfl) ?_
      refine va_get (D := D) (ci := 1) (v := .ref (ad 4)) (C := R_M) (T := T_M) (N := 7) hx hb hts in_M hown hK hP 0 rfl rfl 3 (by decide) (hts (Cond.fieldLink R_M 24 "QueuedFronts$Machine" "flow" "LQueuedFronts$Flow;") mw_101) (fun _ h9 => h9) rfl d_M_branch_90 ?_
      refine lv_iload hx hb d_M_branch_93 (lv_at hl 0 rfl) ?_
      refine lv_iload_n hx hb d_M_branch_95 rfl (lv_at hl 5 rfl) ?_
      refine lv_iload hx hb d_M_branch_96 (lv_at hl 1 rfl) ?_
      refine qx_rd (va_runS (As := [.int w, .int (qf_M_takesBranch st w (qf_M_valueT st w + qf_M_valueA st w))]) (rest := [.int (qf_Pl_behind st.2.2.2.1.2.1), .ref (ad 4)]) ⟨hx, hb, hml, hown, hts⟩ (c_M_branchNullifies l D cA w (qf_M_takesBranch st w (qf_M_valueT st w + qf_M_valueA st w))) (qx_kS hts mw_307 mw_308 mw_30 mw_309 cd_M_branchNullifies ⟨Nat.le_of_ble_eq_true rfl, Nat.le_of_ble_eq_true rfl⟩) (qx_preS hP hD hK hN [] rfl rfl) rfl rfl hl.1 rfl (lv_room (Nat.le_of_ble_eq_true rfl)) d_M_branch_98 ⟨Nat.zero_le _, Nat.zero_le _⟩) ?_
      refine qx_mu (wn := qw_M ad cA (qm_M_fl (qf_M_setT st w (qf_Pl_offsetOf (qf_Pl_behind st.2.2.2.1.2.1))) (qf_F_moveOnTo ((qf_M_setT st w (qf_Pl_offsetOf (qf_Pl_behind st.2.2.2.1.2.1))).2.2.2.1) (qf_Pl_behind st.2.2.2.1.2.1) (qf_M_branchNullifies w (qf_M_takesBranch st w (qf_M_valueT st w + qf_M_valueA st w)))))) (va_runV (As := [.int (qf_Pl_behind st.2.2.2.1.2.1), .int (qf_M_branchNullifies w (qf_M_takesBranch st w (qf_M_valueT st w + qf_M_valueA st w)))]) (rest := []) ⟨hx, hb, hml, hown, hts⟩ (c_F_moveOnTo l D cA (ad 4) ((qf_M_setT st w (qf_Pl_offsetOf (qf_Pl_behind st.2.2.2.1.2.1))).2.2.2.1) (qf_Pl_behind st.2.2.2.1.2.1) (qf_M_branchNullifies w (qf_M_takesBranch st w (qf_M_valueT st w + qf_M_valueA st w)))) (qx_kV hts mw_310 mw_210 mw_211 mw_31 mw_212 cd_F_moveOnTo ⟨Nat.le_of_ble_eq_true rfl, Nat.le_of_ble_eq_true rfl⟩) (qx_preV (q0 := 4) (ci := 2) (q := (R_F, T_F, 4)) hP hD hK hN [4] rfl rfl rfl rfl) rfl rfl hl.1 rfl (lv_room (Nat.le_of_ble_eq_true rfl)) d_M_branch_101 ⟨Nat.zero_le _, Nat.zero_le _⟩) hP hD hS [4] rfl rfl rfl (fun H locs hP hD hS => ?_)
      have hP : va_P D vwCl (qw_M ad cA (qm_M_fl (qf_M_setT st w (qf_Pl_offsetOf (qf_Pl_behind st.2.2.2.1.2.1))) (qf_F_moveOnTo ((qf_M_setT st w (qf_Pl_offsetOf (qf_Pl_behind st.2.2.2.1.2.1))).2.2.2.1) (qf_Pl_behind st.2.2.2.1.2.1) (qf_M_branchNullifies w (qf_M_takesBranch st w (qf_M_valueT st w + qf_M_valueA st w)))))) H := hP
      have hD : va_D A (qw_M ad cA (qm_M_fl (qf_M_setT st w (qf_Pl_offsetOf (qf_Pl_behind st.2.2.2.1.2.1))) (qf_F_moveOnTo ((qf_M_setT st w (qf_Pl_offsetOf (qf_Pl_behind st.2.2.2.1.2.1))).2.2.2.1) (qf_Pl_behind st.2.2.2.1.2.1) (qf_M_branchNullifies w (qf_M_takesBranch st w (qf_M_valueT st w + qf_M_valueA st w)))))) := hD
      refine W.eq (g2 := F0 m 104 ls []) rfl ?_
      have e9 : (qm_M_fl (qf_M_setT st w (qf_Pl_offsetOf (qf_Pl_behind st.2.2.2.1.2.1))) (qf_F_moveOnTo ((qf_M_setT st w (qf_Pl_offsetOf (qf_Pl_behind st.2.2.2.1.2.1))).2.2.2.1) (qf_Pl_behind st.2.2.2.1.2.1) (qf_M_branchNullifies w (qf_M_takesBranch st w (qf_M_valueT st w + qf_M_valueA st w))))) = qf_M_branch st w := (by unfold qf_M_branch; rw [if_pos h1, if_pos h2])
      exact W.vret hx hb hr (fun t ht hW => ⟨rfl, (by rw [ht, ← e9]; exact hP), hS.F ht⟩) hS.2.2 d_M_branch_104
  · skip
    refine lv_aload_n hx hb d_M_branch_30 rfl (lv_at hl 3 rfl) ?_
    refine lv_iload_n hx hb d_M_branch_31 rfl (lv_at hl 4 rfl) ?_
    refine qx_rd (va_runV (As := [.int w]) (rest := []) ⟨hx, hb, hml, hown, hts⟩ (c_M_targetOf l D cA ad st w) (qx_kV hts mw_300 mw_302 mw_11 mw_30 mw_303 cd_M_targetOf ⟨Nat.le_of_ble_eq_true rfl, Nat.le_of_ble_eq_true rfl⟩) (qx_preV (q0 := 0) (ci := 1) (q := (R_M, T_M, 7)) hP hD hK hN [0, 1, 2, 3, 4, 5] rfl rfl rfl rfl) rfl rfl hl.1 rfl (lv_room (Nat.le_of_ble_eq_true rfl)) d_M_branch_32 ⟨Nat.zero_le _, Nat.zero_le _⟩) ?_
    refine lv_goto (tgt := 48) hx hb d_M_branch_35 (by decide) ?_
    refine lv_istore (lv' := [(5, .int (qf_M_targetOf st w)), (4, .int (qf_M_takesBranch st w (qf_M_valueT st w + qf_M_valueA st w))), (3, .int (qf_M_valueT st w + qf_M_valueA st w)), (2, .int (qf_Pa_kind w)), (0, .ref (ad 0)), (1, .int w)]) hx hb d_M_branch_48 hl (by decide) rfl (fun ls hl => ?_)
    refine lv_iload_n hx hb d_M_branch_50 rfl (lv_at hl 3 rfl) ?_
    refine lv_bipush (v := 13) hx hb d_M_branch_51 (by decide) ?_
    refine lv_icmp_ne (tgt := 77) hx hb d_M_branch_53 (by decide) (fun h4 => ?_) (fun h4 => ?_)
    · skip
      refine lv_iload_n hx hb d_M_branch_77 rfl (lv_at hl 3 rfl) ?_
      refine lv_bipush (v := 15) hx hb d_M_branch_78 (by decide) ?_
      refine lv_icmp_ne (tgt := 89) hx hb d_M_branch_80 (by decide) (fun h5 => ?_) (fun h5 => ?_)
      · skip
        refine lv_aload_n hx hb d_M_branch_89 rfl (lv_at hl 4 rfl) ?_
        refine va_get (D := D) (ci := 1) (v := .ref (ad 4)) (C := R_M) (T := T_M) (N := 7) hx hb hts in_M hown hK hP 0 rfl rfl 3 (by decide) (hts (Cond.fieldLink R_M 24 "QueuedFronts$Machine" "flow" "LQueuedFronts$Flow;") mw_101) (fun _ h9 => h9) rfl d_M_branch_90 ?_
        refine lv_iload hx hb d_M_branch_93 (lv_at hl 0 rfl) ?_
        refine lv_iload_n hx hb d_M_branch_95 rfl (lv_at hl 5 rfl) ?_
        refine lv_iload hx hb d_M_branch_96 (lv_at hl 1 rfl) ?_
        refine qx_rd (va_runS (As := [.int w, .int (qf_M_takesBranch st w (qf_M_valueT st w + qf_M_valueA st w))]) (rest := [.int (qf_M_targetOf st w), .ref (ad 4)]) ⟨hx, hb, hml, hown, hts⟩ (c_M_branchNullifies l D cA w (qf_M_takesBranch st w (qf_M_valueT st w + qf_M_valueA st w))) (qx_kS hts mw_307 mw_308 mw_30 mw_309 cd_M_branchNullifies ⟨Nat.le_of_ble_eq_true rfl, Nat.le_of_ble_eq_true rfl⟩) (qx_preS hP hD hK hN [] rfl rfl) rfl rfl hl.1 rfl (lv_room (Nat.le_of_ble_eq_true rfl)) d_M_branch_98 ⟨Nat.zero_le _, Nat.zero_le _⟩) ?_
        refine qx_mu (wn := qw_M ad cA (qm_M_fl st (qf_F_moveOnTo st.2.2.2.1 (qf_M_targetOf st w) (qf_M_branchNullifies w (qf_M_takesBranch st w (qf_M_valueT st w + qf_M_valueA st w)))))) (va_runV (As := [.int (qf_M_targetOf st w), .int (qf_M_branchNullifies w (qf_M_takesBranch st w (qf_M_valueT st w + qf_M_valueA st w)))]) (rest := []) ⟨hx, hb, hml, hown, hts⟩ (c_F_moveOnTo l D cA (ad 4) st.2.2.2.1 (qf_M_targetOf st w) (qf_M_branchNullifies w (qf_M_takesBranch st w (qf_M_valueT st w + qf_M_valueA st w)))) (qx_kV hts mw_310 mw_210 mw_211 mw_31 mw_212 cd_F_moveOnTo ⟨Nat.le_of_ble_eq_true rfl, Nat.le_of_ble_eq_true rfl⟩) (qx_preV (q0 := 4) (ci := 2) (q := (R_F, T_F, 4)) hP hD hK hN [4] rfl rfl rfl rfl) rfl rfl hl.1 rfl (lv_room (Nat.le_of_ble_eq_true rfl)) d_M_branch_101 ⟨Nat.zero_le _, Nat.zero_le _⟩) hP hD hS [4] rfl rfl rfl (fun H locs hP hD hS => ?_)
        have hP : va_P D vwCl (qw_M ad cA (qm_M_fl st (qf_F_moveOnTo st.2.2.2.1 (qf_M_targetOf st w) (qf_M_branchNullifies w (qf_M_takesBranch st w (qf_M_valueT st w + qf_M_valueA st w)))))) H := hP
        have hD : va_D A (qw_M ad cA (qm_M_fl st (qf_F_moveOnTo st.2.2.2.1 (qf_M_targetOf st w) (qf_M_branchNullifies w (qf_M_takesBranch st w (qf_M_valueT st w + qf_M_valueA st w)))))) := hD
        refine W.eq (g2 := F0 m 104 ls []) rfl ?_
        have e9 : (qm_M_fl st (qf_F_moveOnTo st.2.2.2.1 (qf_M_targetOf st w) (qf_M_branchNullifies w (qf_M_takesBranch st w (qf_M_valueT st w + qf_M_valueA st w))))) = qf_M_branch st w := (by unfold qf_M_branch; rw [if_neg h1, if_neg h4, if_neg h5])
        exact W.vret hx hb hr (fun t ht hW => ⟨rfl, (by rw [ht, ← e9]; exact hP), hS.F ht⟩) hS.2.2 d_M_branch_104
      · skip
        refine lv_aload_n hx hb d_M_branch_83 rfl (lv_at hl 4 rfl) ?_
        refine lv_iload_n hx hb d_M_branch_84 rfl (lv_at hl 5 rfl) ?_
        refine lv_iload_n hx hb d_M_branch_85 rfl (lv_at hl 2 rfl) ?_
        refine qx_mu (wn := qw_M ad cA (qf_M_setT st w (qf_M_valueT st w + qf_M_valueA st w))) (va_runV (As := [.int w, .int (qf_M_valueT st w + qf_M_valueA st w)]) (rest := []) ⟨hx, hb, hml, hown, hts⟩ (c_M_setT l D cA ad st w (qf_M_valueT st w + qf_M_valueA st w)) (qx_kV hts mw_268 mw_270 mw_5 mw_30 mw_271 cd_M_setT ⟨Nat.le_of_ble_eq_true rfl, Nat.le_of_ble_eq_true rfl⟩) (qx_preV (q0 := 0) (ci := 1) (q := (R_M, T_M, 7)) hP hD hK hN [0, 1, 2, 3, 4, 5] rfl rfl rfl rfl) rfl rfl hl.1 rfl (lv_room (Nat.le_of_ble_eq_true rfl)) d_M_branch_86 ⟨Nat.zero_le _, Nat.zero_le _⟩) hP hD hS [0, 1, 2, 3, 4, 5] rfl rfl rfl (fun H locs hP hD hS => ?_)
        have hP : va_P D vwCl (qw_M ad cA (qf_M_setT st w (qf_M_valueT st w + qf_M_valueA st w))) H := hP
        have hD : va_D A (qw_M ad cA (qf_M_setT st w (qf_M_valueT st w + qf_M_valueA st w))) := hD
        refine W.eq (g2 := F0 m 89 ls []) rfl ?_
        refine lv_aload_n hx hb d_M_branch_89 rfl (lv_at hl 4 rfl) ?_
        refine va_get (D := D) (ci := 1) (v := .ref (ad 4)) (C := R_M) (T := T_M) (N := 7) hx hb hts in_M hown hK hP 0 rfl rfl 3 (by decide) (hts (Cond.fieldLink R_M 24 "QueuedFronts$Machine" "flow" "LQueuedFronts$Flow;") mw_101) (fun _ h9 => h9) rfl d_M_branch_90 ?_
        refine lv_iload hx hb d_M_branch_93 (lv_at hl 0 rfl) ?_
        refine lv_iload_n hx hb d_M_branch_95 rfl (lv_at hl 5 rfl) ?_
        refine lv_iload hx hb d_M_branch_96 (lv_at hl 1 rfl) ?_
        refine qx_rd (va_runS (As := [.int w, .int (qf_M_takesBranch st w (qf_M_valueT st w + qf_M_valueA st w))]) (rest := [.int (qf_M_targetOf st w), .ref (ad 4)]) ⟨hx, hb, hml, hown, hts⟩ (c_M_branchNullifies l D cA w (qf_M_takesBranch st w (qf_M_valueT st w + qf_M_valueA st w))) (qx_kS hts mw_307 mw_308 mw_30 mw_309 cd_M_branchNullifies ⟨Nat.le_of_ble_eq_true rfl, Nat.le_of_ble_eq_true rfl⟩) (qx_preS hP hD hK hN [] rfl rfl) rfl rfl hl.1 rfl (lv_room (Nat.le_of_ble_eq_true rfl)) d_M_branch_98 ⟨Nat.zero_le _, Nat.zero_le _⟩) ?_
        refine qx_mu (wn := qw_M ad cA (qm_M_fl (qf_M_setT st w (qf_M_valueT st w + qf_M_valueA st w)) (qf_F_moveOnTo ((qf_M_setT st w (qf_M_valueT st w + qf_M_valueA st w)).2.2.2.1) (qf_M_targetOf st w) (qf_M_branchNullifies w (qf_M_takesBranch st w (qf_M_valueT st w + qf_M_valueA st w)))))) (va_runV (As := [.int (qf_M_targetOf st w), .int (qf_M_branchNullifies w (qf_M_takesBranch st w (qf_M_valueT st w + qf_M_valueA st w)))]) (rest := []) ⟨hx, hb, hml, hown, hts⟩ (c_F_moveOnTo l D cA (ad 4) ((qf_M_setT st w (qf_M_valueT st w + qf_M_valueA st w)).2.2.2.1) (qf_M_targetOf st w) (qf_M_branchNullifies w (qf_M_takesBranch st w (qf_M_valueT st w + qf_M_valueA st w)))) (qx_kV hts mw_310 mw_210 mw_211 mw_31 mw_212 cd_F_moveOnTo ⟨Nat.le_of_ble_eq_true rfl, Nat.le_of_ble_eq_true rfl⟩) (qx_preV (q0 := 4) (ci := 2) (q := (R_F, T_F, 4)) hP hD hK hN [4] rfl rfl rfl rfl) rfl rfl hl.1 rfl (lv_room (Nat.le_of_ble_eq_true rfl)) d_M_branch_101 ⟨Nat.zero_le _, Nat.zero_le _⟩) hP hD hS [4] rfl rfl rfl (fun H locs hP hD hS => ?_)
        have hP : va_P D vwCl (qw_M ad cA (qm_M_fl (qf_M_setT st w (qf_M_valueT st w + qf_M_valueA st w)) (qf_F_moveOnTo ((qf_M_setT st w (qf_M_valueT st w + qf_M_valueA st w)).2.2.2.1) (qf_M_targetOf st w) (qf_M_branchNullifies w (qf_M_takesBranch st w (qf_M_valueT st w + qf_M_valueA st w)))))) H := hP
        have hD : va_D A (qw_M ad cA (qm_M_fl (qf_M_setT st w (qf_M_valueT st w + qf_M_valueA st w)) (qf_F_moveOnTo ((qf_M_setT st w (qf_M_valueT st w + qf_M_valueA st w)).2.2.2.1) (qf_M_targetOf st w) (qf_M_branchNullifies w (qf_M_takesBranch st w (qf_M_valueT st w + qf_M_valueA st w)))))) := hD
        refine W.eq (g2 := F0 m 104 ls []) rfl ?_
        have e9 : (qm_M_fl (qf_M_setT st w (qf_M_valueT st w + qf_M_valueA st w)) (qf_F_moveOnTo ((qf_M_setT st w (qf_M_valueT st w + qf_M_valueA st w)).2.2.2.1) (qf_M_targetOf st w) (qf_M_branchNullifies w (qf_M_takesBranch st w (qf_M_valueT st w + qf_M_valueA st w))))) = qf_M_branch st w := (by unfold qf_M_branch; rw [if_neg h1, if_neg h4, if_pos h5])
        exact W.vret hx hb hr (fun t ht hW => ⟨rfl, (by rw [ht, ← e9]; exact hP), hS.F ht⟩) hS.2.2 d_M_branch_104
    · skip
      refine lv_aload_n hx hb d_M_branch_56 rfl (lv_at hl 4 rfl) ?_
      refine lv_iload_n hx hb d_M_branch_57 rfl (lv_at hl 5 rfl) ?_
      refine lv_aload_n hx hb d_M_branch_58 rfl (lv_at hl 4 rfl) ?_
      refine va_get (D := D) (ci := 1) (v := .ref (ad 4)) (C := R_M) (T := T_M) (N := 7) hx hb hts in_M hown hK hP 0 rfl rfl 3 (by decide) (hts (Cond.fieldLink R_M 24 "QueuedFronts$Machine" "flow" "LQueuedFronts$Flow;") mw_101) (fun _ h9 => h9) rfl d_M_branch_59 ?_
      refine va_get (D := D) (ci := 2) (v := .int st.2.2.2.1.2.1) (C := R_F) (T := T_F) (N := 4) hx hb hts in_F hown hK hP 4 rfl rfl 1 (by decide) (hts (Cond.fieldLink R_M 139 "QueuedFronts$Flow" "back" "I") mw_62) (fun _ h9 => h9) rfl d_M_branch_62 ?_
      refine qx_rd (va_runS (As := [.int st.2.2.2.1.2.1]) (rest := [.int w, .ref (ad 0)]) ⟨hx, hb, hml, hown, hts⟩ (c_Pl_behind l D cA st.2.2.2.1.2.1) (qx_kS hts mw_306 mw_84 mw_32 mw_85 cd_Pl_behind ⟨Nat.le_of_ble_eq_true rfl, Nat.le_of_ble_eq_true rfl⟩) (qx_preS hP hD hK hN [] rfl rfl) rfl rfl hl.1 rfl (lv_room (Nat.le_of_ble_eq_true rfl)) d_M_branch_65 ⟨Nat.zero_le _, Nat.zero_le _⟩) ?_
      refine qx_rd (va_runS (As := [.int (qf_Pl_behind st.2.2.2.1.2.1)]) (rest := [.int w, .ref (ad 0)]) ⟨hx, hb, hml, hown, hts⟩ (c_Pl_offsetOf l D cA (qf_Pl_behind st.2.2.2.1.2.1)) (qx_kS hts mw_305 mw_90 mw_32 mw_91 cd_Pl_offsetOf ⟨Nat.le_of_ble_eq_true rfl, Nat.le_of_ble_eq_true rfl⟩) (qx_preS hP hD hK hN [] rfl rfl) rfl rfl hl.1 rfl (lv_room (Nat.le_of_ble_eq_true rfl)) d_M_branch_68 ⟨Nat.zero_le _, Nat.zero_le _⟩) ?_
      refine qx_mu (wn := qw_M ad cA (qf_M_setT st w (qf_Pl_offsetOf (qf_Pl_behind st.2.2.2.1.2.1)))) (va_runV (As := [.int w, .int (qf_Pl_offsetOf (qf_Pl_behind st.2.2.2.1.2.1))]) (rest := []) ⟨hx, hb, hml, hown, hts⟩ (c_M_setT l D cA ad st w (qf_Pl_offsetOf (qf_Pl_behind st.2.2.2.1.2.1))) (qx_kV hts mw_268 mw_270 mw_5 mw_30 mw_271 cd_M_setT ⟨Nat.le_of_ble_eq_true rfl, Nat.le_of_ble_eq_true rfl⟩) (qx_preV (q0 := 0) (ci := 1) (q := (R_M, T_M, 7)) hP hD hK hN [0, 1, 2, 3, 4, 5] rfl rfl rfl rfl) rfl rfl hl.1 rfl (lv_room (Nat.le_of_ble_eq_true rfl)) d_M_branch_71 ⟨Nat.zero_le _, Nat.zero_le _⟩) hP hD hS [0, 1, 2, 3, 4, 5] rfl rfl rfl (fun H locs hP hD hS => ?_)
      have hP : va_P D vwCl (qw_M ad cA (qf_M_setT st w (qf_Pl_offsetOf (qf_Pl_behind st.2.2.2.1.2.1)))) H := hP
      have hD : va_D A (qw_M ad cA (qf_M_setT st w (qf_Pl_offsetOf (qf_Pl_behind st.2.2.2.1.2.1)))) := hD
      refine W.eq (g2 := F0 m 74 ls []) rfl ?_
      refine lv_goto (tgt := 89) hx hb d_M_branch_74 (by decide) ?_
      refine lv_aload_n hx hb d_M_branch_89 rfl (lv_at hl 4 rfl) ?_
      refine va_get (D := D) (ci := 1) (v := .ref (ad 4)) (C := R_M) (T := T_M) (N := 7) hx hb hts in_M hown hK hP 0 rfl rfl 3 (by decide) (hts (Cond.fieldLink R_M 24 "QueuedFronts$Machine" "flow" "LQueuedFronts$Flow;") mw_101) (fun _ h9 => h9) rfl d_M_branch_90 ?_
      refine lv_iload hx hb d_M_branch_93 (lv_at hl 0 rfl) ?_
      refine lv_iload_n hx hb d_M_branch_95 rfl (lv_at hl 5 rfl) ?_
      refine lv_iload hx hb d_M_branch_96 (lv_at hl 1 rfl) ?_
      refine qx_rd (va_runS (As := [.int w, .int (qf_M_takesBranch st w (qf_M_valueT st w + qf_M_valueA st w))]) (rest := [.int (qf_M_targetOf st w), .ref (ad 4)]) ⟨hx, hb, hml, hown, hts⟩ (c_M_branchNullifies l D cA w (qf_M_takesBranch st w (qf_M_valueT st w + qf_M_valueA st w))) (qx_kS hts mw_307 mw_308 mw_30 mw_309 cd_M_branchNullifies ⟨Nat.le_of_ble_eq_true rfl, Nat.le_of_ble_eq_true rfl⟩) (qx_preS hP hD hK hN [] rfl rfl) rfl rfl hl.1 rfl (lv_room (Nat.le_of_ble_eq_true rfl)) d_M_branch_98 ⟨Nat.zero_le _, Nat.zero_le _⟩) ?_
      refine qx_mu (wn := qw_M ad cA (qm_M_fl (qf_M_setT st w (qf_Pl_offsetOf (qf_Pl_behind st.2.2.2.1.2.1))) (qf_F_moveOnTo ((qf_M_setT st w (qf_Pl_offsetOf (qf_Pl_behind st.2.2.2.1.2.1))).2.2.2.1) (qf_M_targetOf st w) (qf_M_branchNullifies w (qf_M_takesBranch st w (qf_M_valueT st w + qf_M_valueA st w)))))) (va_runV (As := [.int (qf_M_targetOf st w), .int (qf_M_branchNullifies w (qf_M_takesBranch st w (qf_M_valueT st w + qf_M_valueA st w)))]) (rest := []) ⟨hx, hb, hml, hown, hts⟩ (c_F_moveOnTo l D cA (ad 4) ((qf_M_setT st w (qf_Pl_offsetOf (qf_Pl_behind st.2.2.2.1.2.1))).2.2.2.1) (qf_M_targetOf st w) (qf_M_branchNullifies w (qf_M_takesBranch st w (qf_M_valueT st w + qf_M_valueA st w)))) (qx_kV hts mw_310 mw_210 mw_211 mw_31 mw_212 cd_F_moveOnTo ⟨Nat.le_of_ble_eq_true rfl, Nat.le_of_ble_eq_true rfl⟩) (qx_preV (q0 := 4) (ci := 2) (q := (R_F, T_F, 4)) hP hD hK hN [4] rfl rfl rfl rfl) rfl rfl hl.1 rfl (lv_room (Nat.le_of_ble_eq_true rfl)) d_M_branch_101 ⟨Nat.zero_le _, Nat.zero_le _⟩) hP hD hS [4] rfl rfl rfl (fun H locs hP hD hS => ?_)
      have hP : va_P D vwCl (qw_M ad cA (qm_M_fl (qf_M_setT st w (qf_Pl_offsetOf (qf_Pl_behind st.2.2.2.1.2.1))) (qf_F_moveOnTo ((qf_M_setT st w (qf_Pl_offsetOf (qf_Pl_behind st.2.2.2.1.2.1))).2.2.2.1) (qf_M_targetOf st w) (qf_M_branchNullifies w (qf_M_takesBranch st w (qf_M_valueT st w + qf_M_valueA st w)))))) H := hP
      have hD : va_D A (qw_M ad cA (qm_M_fl (qf_M_setT st w (qf_Pl_offsetOf (qf_Pl_behind st.2.2.2.1.2.1))) (qf_F_moveOnTo ((qf_M_setT st w (qf_Pl_offsetOf (qf_Pl_behind st.2.2.2.1.2.1))).2.2.2.1) (qf_M_targetOf st w) (qf_M_branchNullifies w (qf_M_takesBranch st w (qf_M_valueT st w + qf_M_valueA st w)))))) := hD
      refine W.eq (g2 := F0 m 104 ls []) rfl ?_
      have e9 : (qm_M_fl (qf_M_setT st w (qf_Pl_offsetOf (qf_Pl_behind st.2.2.2.1.2.1))) (qf_F_moveOnTo ((qf_M_setT st w (qf_Pl_offsetOf (qf_Pl_behind st.2.2.2.1.2.1))).2.2.2.1) (qf_M_targetOf st w) (qf_M_branchNullifies w (qf_M_takesBranch st w (qf_M_valueT st w + qf_M_valueA st w))))) = qf_M_branch st w := (by unfold qf_M_branch; rw [if_neg h1, if_pos h4])
      exact W.vret hx hb hr (fun t ht hW => ⟨rfl, (by rw [ht, ← e9]; exact hP), hS.F ht⟩) hS.2.2 d_M_branch_104
def qf_M_control (st : qs_M) (w : Int32) : qs_M :=
  if qf_Pa_kind w = 18 then (qm_M_fl (qm_M_sp st (upd st.2.1 (Int32.toNatClampNeg (qf_Pa_spaceRegister w)) (qf_M_valueA st w &&& 3))) (qf_F_moveOn st.2.2.2.1 (0 : Int32)))
  else if qf_Pa_kind w = 19 then (qm_M_fl (qf_M_setT st w (qf_M_valueS st w)) (qf_F_moveOn ((qf_M_setT st w (qf_M_valueS st w)).2.2.2.1) (0 : Int32)))
  else if qf_Pa_kind w = 20 then (qm_M_fl (qf_M_setT st w st.2.2.2.1.2.2.2) (qf_F_moveOn (qm_F_l ((qf_M_setT st w st.2.2.2.1.2.2.2).2.2.2.1) (qf_Pa_n w)) (0 : Int32)))
  else if qf_Pa_kind w = 21 then (qm_M_fl st (qf_F_moveOn st.2.2.2.1 (0 : Int32)))
  else if qf_Pa_kind w = 22 then (qm_M_fl (qf_M_setT st w (qf_M_savedThing st (qf_Pa_m w))) (qf_F_moveOn ((qf_M_setT st w (qf_M_savedThing st (qf_Pa_m w))).2.2.2.1) (0 : Int32)))
  else if qf_Pa_kind w = 23 then (qm_M_fl (qf_M_setSavedThing st (qf_Pa_m w) (qf_M_valueA st w)) (qf_F_moveOn ((qf_M_setSavedThing st (qf_Pa_m w) (qf_M_valueA st w)).2.2.2.1) (0 : Int32)))
  else (qm_M_fl st (qf_F_moveOn st.2.2.2.1 (0 : Int32)))
set_option maxHeartbeats 4000000 in
set_option maxRecDepth 100000 in
theorem c_M_control (l : Launch) (D : va_G) (cA : ClassId) (ad : Nat → Nat) (st : qs_M) (w : Int32) : Met l y_M_control (Cond.code y_M_control b_M_control 2 none :: qx_T) ({ frames := 3, cells := 0, slots := 0, locals := 62 }) (qx_Pc D vwCl [(cA, .int)] (qw_M ad cA st) [.ref (ad 0), .int w]) (qx_Q D vwCl (qw_M ad cA (qf_M_control st w)) (qx_ad (qw_M ad cA st)) none) 0 0 (qx_ad (qw_M ad cA st)) := by
  refine Met.ofW (cc := b_M_control) (maxL := 2) (ret := none) (by decide) rfl ?_
  intro p e s m args below meth c s₁ B hml hv
  obtain ⟨rfl, hP, hK, hN, hD0⟩ := hv
  have hx := B.exec
  have hb := B.bytes
  have hr := B.returns
  have hts0 := atoms_spec (ws := Cond.code y_M_control b_M_control 2 none :: qx_T) B.pre
  have hts := fun w h => hts0 w (List.mem_cons_of_mem _ h)
  have hown : s.vm.findClass R_M = some m.cls := findClass_of_methodNamed B.named
  have hlocks := B.notSynchronized
  have hD : va_D (qx_ad (qw_M ad cA st)) (qw_M ad cA st) := ⟨hD0.1, fun k q hk => ⟨k, q.2, hk⟩⟩
  generalize hAe : qx_ad (qw_M ad cA st) = A at hD ⊢
  have hS : va_S A s.heap s.heap [] := va_S.rf
  have hl := lv_entry ([.ref (ad 0), .int w]) (n := 2) (Nat.le_of_ble_eq_true rfl)
  rw [lg_entry_eq]
  generalize (lg_sl ([.ref (ad 0), .int w]) ++ List.replicate (2 - (lg_sl ([.ref (ad 0), .int w])).length) Slot.unset).toArray = ls at hl ⊢
  have hl : lv_has ls 2 [(0, .ref (ad 0)), (1, .int w)] := hl
  refine lv_iload_n hx hb d_M_control_0 rfl (lv_at hl 1 rfl) ?_
  refine qx_rd (va_runS (As := [.int w]) (rest := []) ⟨hx, hb, hml, hown, hts⟩ (c_Pa_kind l D cA w) (qx_kS hts mw_217 mw_218 mw_34 mw_219 cd_Pa_kind ⟨Nat.le_of_ble_eq_true rfl, Nat.le_of_ble_eq_true rfl⟩) (qx_preS hP hD hK hN [] rfl rfl) rfl rfl hl.1 rfl (lv_room (Nat.le_of_ble_eq_true rfl)) d_M_control_1 ⟨Nat.zero_le _, Nat.zero_le _⟩) ?_
  by_cases h1 : qf_Pa_kind w = 18
  · refine lv_tableIn (tgt := 44) hx hb d_M_control_4 (by rw [h1]; decide) (by rw [h1]; decide) (by rw [h1]; rfl) (by decide) ?_
    refine lv_aload_n hx hb d_M_control_44 rfl (lv_at hl 0 rfl) ?_
    refine va_get (D := D) (ci := 1) (v := .ref (ad 2)) (C := R_M) (T := T_M) (N := 7) hx hb hts in_M hown hK hP 0 rfl rfl 1 (by decide) (hts (Cond.fieldLink R_M 15 "QueuedFronts$Machine" "spaceRegisters" "[I") mw_97) (fun _ h9 => h9) rfl d_M_control_45 ?_
    refine lv_iload_n hx hb d_M_control_48 rfl (lv_at hl 1 rfl) ?_
    refine qx_rd (va_runS (As := [.int w]) (rest := [.ref (ad 2)]) ⟨hx, hb, hml, hown, hts⟩ (c_Pa_spaceRegister l D cA w) (qx_kS hts mw_284 mw_285 mw_34 mw_286 cd_Pa_spaceRegister ⟨Nat.le_of_ble_eq_true rfl, Nat.le_of_ble_eq_true rfl⟩) (qx_preS hP hD hK hN [] rfl rfl) rfl rfl hl.1 rfl (lv_room (Nat.le_of_ble_eq_true rfl)) d_M_control_49 ⟨Nat.zero_le _, Nat.zero_le _⟩) ?_
    refine lv_aload_n hx hb d_M_control_52 rfl (lv_at hl 0 rfl) ?_
    refine lv_iload_n hx hb d_M_control_53 rfl (lv_at hl 1 rfl) ?_
    refine qx_rd (va_runV (As := [.int w]) (rest := [.int (qf_Pa_spaceRegister w), .ref (ad 2)]) ⟨hx, hb, hml, hown, hts⟩ (c_M_valueA l D cA ad st w) (qx_kV hts mw_220 mw_222 mw_2 mw_30 mw_223 cd_M_valueA ⟨Nat.le_of_ble_eq_true rfl, Nat.le_of_ble_eq_true rfl⟩) (qx_preV (q0 := 0) (ci := 1) (q := (R_M, T_M, 7)) hP hD hK hN [0, 1, 2, 3, 4, 5] rfl rfl rfl rfl) rfl rfl hl.1 rfl (lv_room (Nat.le_of_ble_eq_true rfl)) d_M_control_54 ⟨Nat.zero_le _, Nat.zero_le _⟩) ?_
    refine lv_iconst (v := 3) hx hb d_M_control_57 (by decide) ?_
    refine lv_iand hx hb d_M_control_58 ?_
    refine va_iast hx hb hK hP hD hS 2 0 rfl rfl (show vp_in (qf_Pa_spaceRegister w) 4 from qi_and3 _) d_M_control_59 (fun H locs hP hD hS => ?_)
    have hP : va_P D vwCl (qw_M ad cA (qm_M_sp st (upd st.2.1 (Int32.toNatClampNeg (qf_Pa_spaceRegister w)) (qf_M_valueA st w &&& 3)))) H := hP
    have hD : va_D A (qw_M ad cA (qm_M_sp st (upd st.2.1 (Int32.toNatClampNeg (qf_Pa_spaceRegister w)) (qf_M_valueA st w &&& 3)))) := hD
    refine lv_goto (tgt := 134) hx hb d_M_control_60 (by decide) ?_
    refine lv_aload_n hx hb d_M_control_134 rfl (lv_at hl 0 rfl) ?_
    refine va_get (D := D) (ci := 1) (v := .ref (ad 4)) (C := R_M) (T := T_M) (N := 7) hx hb hts in_M hown hK hP 0 rfl rfl 3 (by decide) (hts (Cond.fieldLink R_M 24 "QueuedFronts$Machine" "flow" "LQueuedFronts$Flow;") mw_101) (fun _ h9 => h9) rfl d_M_control_135 ?_
    refine lv_iconst (v := 0) hx hb d_M_control_138 (by decide) ?_
    refine qx_mu (wn := qw_M ad cA (qm_M_fl (qm_M_sp st (upd st.2.1 (Int32.toNatClampNeg (qf_Pa_spaceRegister w)) (qf_M_valueA st w &&& 3))) (qf_F_moveOn st.2.2.2.1 (0 : Int32)))) (va_runV (As := [.int 0]) (rest := []) ⟨hx, hb, hml, hown, hts⟩ (c_F_moveOn l D cA (ad 4) st.2.2.2.1 0) (qx_kV hts mw_275 mw_206 mw_207 mw_31 mw_208 cd_F_moveOn ⟨Nat.le_of_ble_eq_true rfl, Nat.le_of_ble_eq_true rfl⟩) (qx_preV (q0 := 4) (ci := 2) (q := (R_F, T_F, 4)) hP hD hK hN [4] rfl rfl rfl rfl) rfl rfl hl.1 rfl (lv_room (Nat.le_of_ble_eq_true rfl)) d_M_control_139 ⟨Nat.zero_le _, Nat.zero_le _⟩) hP hD hS [4] rfl rfl rfl (fun H locs hP hD hS => ?_)
    have hP : va_P D vwCl (qw_M ad cA (qm_M_fl (qm_M_sp st (upd st.2.1 (Int32.toNatClampNeg (qf_Pa_spaceRegister w)) (qf_M_valueA st w &&& 3))) (qf_F_moveOn st.2.2.2.1 (0 : Int32)))) H := hP
    have hD : va_D A (qw_M ad cA (qm_M_fl (qm_M_sp st (upd st.2.1 (Int32.toNatClampNeg (qf_Pa_spaceRegister w)) (qf_M_valueA st w &&& 3))) (qf_F_moveOn st.2.2.2.1 (0 : Int32)))) := hD
    refine W.eq (g2 := F0 m 142 ls []) rfl ?_
    have e9 : (qm_M_fl (qm_M_sp st (upd st.2.1 (Int32.toNatClampNeg (qf_Pa_spaceRegister w)) (qf_M_valueA st w &&& 3))) (qf_F_moveOn st.2.2.2.1 (0 : Int32))) = qf_M_control st w := (by unfold qf_M_control; rw [if_pos h1])
    exact W.vret hx hb hr (fun t ht hW => ⟨rfl, (by rw [ht, ← e9]; exact hP), hS.F ht⟩) hS.2.2 d_M_control_142
  by_cases h2 : qf_Pa_kind w = 19
  · refine lv_tableIn (tgt := 63) hx hb d_M_control_4 (by rw [h2]; decide) (by rw [h2]; decide) (by rw [h2]; rfl) (by decide) ?_
    refine lv_aload_n hx hb d_M_control_63 rfl (lv_at hl 0 rfl) ?_
    refine lv_iload_n hx hb d_M_control_64 rfl (lv_at hl 1 rfl) ?_
    refine lv_aload_n hx hb d_M_control_65 rfl (lv_at hl 0 rfl) ?_
    refine lv_iload_n hx hb d_M_control_66 rfl (lv_at hl 1 rfl) ?_
    refine qx_rd (va_runV (As := [.int w]) (rest := [.int w, .ref (ad 0)]) ⟨hx, hb, hml, hown, hts⟩ (c_M_valueS l D cA ad st w) (qx_kV hts mw_280 mw_282 mw_7 mw_30 mw_283 cd_M_valueS ⟨Nat.le_of_ble_eq_true rfl, Nat.le_of_ble_eq_true rfl⟩) (qx_preV (q0 := 0) (ci := 1) (q := (R_M, T_M, 7)) hP hD hK hN [0, 1, 2, 3, 4, 5] rfl rfl rfl rfl) rfl rfl hl.1 rfl (lv_room (Nat.le_of_ble_eq_true rfl)) d_M_control_67 ⟨Nat.zero_le _, Nat.zero_le _⟩) ?_
    refine qx_mu (wn := qw_M ad cA (qf_M_setT st w (qf_M_valueS st w))) (va_runV (As := [.int w, .int (qf_M_valueS st w)]) (rest := []) ⟨hx, hb, hml, hown, hts⟩ (c_M_setT l D cA ad st w (qf_M_valueS st w)) (qx_kV hts mw_268 mw_270 mw_5 mw_30 mw_271 cd_M_setT ⟨Nat.le_of_ble_eq_true rfl, Nat.le_of_ble_eq_true rfl⟩) (qx_preV (q0 := 0) (ci := 1) (q := (R_M, T_M, 7)) hP hD hK hN [0, 1, 2, 3, 4, 5] rfl rfl rfl rfl) rfl rfl hl.1 rfl (lv_room (Nat.le_of_ble_eq_true rfl)) d_M_control_70 ⟨Nat.zero_le _, Nat.zero_le _⟩) hP hD hS [0, 1, 2, 3, 4, 5] rfl rfl rfl (fun H locs hP hD hS => ?_)
    have hP : va_P D vwCl (qw_M ad cA (qf_M_setT st w (qf_M_valueS st w))) H := hP
    have hD : va_D A (qw_M ad cA (qf_M_setT st w (qf_M_valueS st w))) := hD
    refine W.eq (g2 := F0 m 73 ls []) rfl ?_
    refine lv_goto (tgt := 134) hx hb d_M_control_73 (by decide) ?_
    refine lv_aload_n hx hb d_M_control_134 rfl (lv_at hl 0 rfl) ?_
    refine va_get (D := D) (ci := 1) (v := .ref (ad 4)) (C := R_M) (T := T_M) (N := 7) hx hb hts in_M hown hK hP 0 rfl rfl 3 (by decide) (hts (Cond.fieldLink R_M 24 "QueuedFronts$Machine" "flow" "LQueuedFronts$Flow;") mw_101) (fun _ h9 => h9) rfl d_M_control_135 ?_
    refine lv_iconst (v := 0) hx hb d_M_control_138 (by decide) ?_
    refine qx_mu (wn := qw_M ad cA (qm_M_fl (qf_M_setT st w (qf_M_valueS st w)) (qf_F_moveOn ((qf_M_setT st w (qf_M_valueS st w)).2.2.2.1) (0 : Int32)))) (va_runV (As := [.int 0]) (rest := []) ⟨hx, hb, hml, hown, hts⟩ (c_F_moveOn l D cA (ad 4) ((qf_M_setT st w (qf_M_valueS st w)).2.2.2.1) 0) (qx_kV hts mw_275 mw_206 mw_207 mw_31 mw_208 cd_F_moveOn ⟨Nat.le_of_ble_eq_true rfl, Nat.le_of_ble_eq_true rfl⟩) (qx_preV (q0 := 4) (ci := 2) (q := (R_F, T_F, 4)) hP hD hK hN [4] rfl rfl rfl rfl) rfl rfl hl.1 rfl (lv_room (Nat.le_of_ble_eq_true rfl)) d_M_control_139 ⟨Nat.zero_le _, Nat.zero_le _⟩) hP hD hS [4] rfl rfl rfl (fun H locs hP hD hS => ?_)
    have hP : va_P D vwCl (qw_M ad cA (qm_M_fl (qf_M_setT st w (qf_M_valueS st w)) (qf_F_moveOn ((qf_M_setT st w (qf_M_valueS st w)).2.2.2.1) (0 : Int32)))) H := hP
    have hD : va_D A (qw_M ad cA (qm_M_fl (qf_M_setT st w (qf_M_valueS st w)) (qf_F_moveOn ((qf_M_setT st w (qf_M_valueS st w)).2.2.2.1) (0 : Int32)))) := hD
    refine W.eq (g2 := F0 m 142 ls []) rfl ?_
    have e9 : (qm_M_fl (qf_M_setT st w (qf_M_valueS st w)) (qf_F_moveOn ((qf_M_setT st w (qf_M_valueS st w)).2.2.2.1) (0 : Int32))) = qf_M_control st w := (by unfold qf_M_control; rw [if_neg h1, if_pos h2])
    exact W.vret hx hb hr (fun t ht hW => ⟨rfl, (by rw [ht, ← e9]; exact hP), hS.F ht⟩) hS.2.2 d_M_control_142
  by_cases h3 : qf_Pa_kind w = 20
  · refine lv_tableIn (tgt := 76) hx hb d_M_control_4 (by rw [h3]; decide) (by rw [h3]; decide) (by rw [h3]; rfl) (by decide) ?_
    refine lv_aload_n hx hb d_M_control_76 rfl (lv_at hl 0 rfl) ?_
    refine lv_iload_n hx hb d_M_control_77 rfl (lv_at hl 1 rfl) ?_
    refine lv_aload_n hx hb d_M_control_78 rfl (lv_at hl 0 rfl) ?_
    refine va_get (D := D) (ci := 1) (v := .ref (ad 4)) (C := R_M) (T := T_M) (N := 7) hx hb hts in_M hown hK hP 0 rfl rfl 3 (by decide) (hts (Cond.fieldLink R_M 24 "QueuedFronts$Machine" "flow" "LQueuedFronts$Flow;") mw_101) (fun _ h9 => h9) rfl d_M_control_79 ?_
    refine va_get (D := D) (ci := 2) (v := .int st.2.2.2.1.2.2.2) (C := R_F) (T := T_F) (N := 4) hx hb hts in_F hown hK hP 4 rfl rfl 3 (by decide) (hts (Cond.fieldLink R_M 165 "QueuedFronts$Flow" "lets" "I") mw_68) (fun _ h9 => h9) rfl d_M_control_82 ?_
    refine qx_mu (wn := qw_M ad cA (qf_M_setT st w st.2.2.2.1.2.2.2)) (va_runV (As := [.int w, .int st.2.2.2.1.2.2.2]) (rest := []) ⟨hx, hb, hml, hown, hts⟩ (c_M_setT l D cA ad st w st.2.2.2.1.2.2.2) (qx_kV hts mw_268 mw_270 mw_5 mw_30 mw_271 cd_M_setT ⟨Nat.le_of_ble_eq_true rfl, Nat.le_of_ble_eq_true rfl⟩) (qx_preV (q0 := 0) (ci := 1) (q := (R_M, T_M, 7)) hP hD hK hN [0, 1, 2, 3, 4, 5] rfl rfl rfl rfl) rfl rfl hl.1 rfl (lv_room (Nat.le_of_ble_eq_true rfl)) d_M_control_85 ⟨Nat.zero_le _, Nat.zero_le _⟩) hP hD hS [0, 1, 2, 3, 4, 5] rfl rfl rfl (fun H locs hP hD hS => ?_)
    have hP : va_P D vwCl (qw_M ad cA (qf_M_setT st w st.2.2.2.1.2.2.2)) H := hP
    have hD : va_D A (qw_M ad cA (qf_M_setT st w st.2.2.2.1.2.2.2)) := hD
    refine W.eq (g2 := F0 m 88 ls []) rfl ?_
    refine lv_aload_n hx hb d_M_control_88 rfl (lv_at hl 0 rfl) ?_
    refine va_get (D := D) (ci := 1) (v := .ref (ad 4)) (C := R_M) (T := T_M) (N := 7) hx hb hts in_M hown hK hP 0 rfl rfl 3 (by decide) (hts (Cond.fieldLink R_M 24 "QueuedFronts$Machine" "flow" "LQueuedFronts$Flow;") mw_101) (fun _ h9 => h9) rfl d_M_control_89 ?_
    refine lv_iload_n hx hb d_M_control_92 rfl (lv_at hl 1 rfl) ?_
    refine qx_rd (va_runS (As := [.int w]) (rest := [.ref (ad 4)]) ⟨hx, hb, hml, hown, hts⟩ (c_Pa_n l D cA w) (qx_kS hts mw_252 mw_253 mw_34 mw_254 cd_Pa_n ⟨Nat.le_of_ble_eq_true rfl, Nat.le_of_ble_eq_true rfl⟩) (qx_preS hP hD hK hN [] rfl rfl) rfl rfl hl.1 rfl (lv_room (Nat.le_of_ble_eq_true rfl)) d_M_control_93 ⟨Nat.zero_le _, Nat.zero_le _⟩) ?_
    refine va_put (D := D) (ci := 2) (v := .int (qf_Pa_n w)) (ty := .int) (C := R_F) (T := T_F) (N := 4) hx hb hts in_F ty_F tyok_F nm_F hown hK hP hD hS 4 rfl rfl 3 (by decide) (hts (Cond.fieldLink R_M 165 "QueuedFronts$Flow" "lets" "I") mw_68) (fun _ h9 => h9) rfl (by decide +kernel) rfl rfl (Nat.le_of_ble_eq_true rfl) d_M_control_96 (fun H locs hP hD hS => ?_)
    have hP : va_P D vwCl (qw_M ad cA (qm_M_fl (qf_M_setT st w st.2.2.2.1.2.2.2) (qm_F_l ((qf_M_setT st w st.2.2.2.1.2.2.2).2.2.2.1) (qf_Pa_n w)))) H := hP
    have hD : va_D A (qw_M ad cA (qm_M_fl (qf_M_setT st w st.2.2.2.1.2.2.2) (qm_F_l ((qf_M_setT st w st.2.2.2.1.2.2.2).2.2.2.1) (qf_Pa_n w)))) := hD
    refine lv_goto (tgt := 134) hx hb d_M_control_99 (by decide) ?_
    refine lv_aload_n hx hb d_M_control_134 rfl (lv_at hl 0 rfl) ?_
    refine va_get (D := D) (ci := 1) (v := .ref (ad 4)) (C := R_M) (T := T_M) (N := 7) hx hb hts in_M hown hK hP 0 rfl rfl 3 (by decide) (hts (Cond.fieldLink R_M 24 "QueuedFronts$Machine" "flow" "LQueuedFronts$Flow;") mw_101) (fun _ h9 => h9) rfl d_M_control_135 ?_
    refine lv_iconst (v := 0) hx hb d_M_control_138 (by decide) ?_
    refine qx_mu (wn := qw_M ad cA (qm_M_fl (qf_M_setT st w st.2.2.2.1.2.2.2) (qf_F_moveOn (qm_F_l ((qf_M_setT st w st.2.2.2.1.2.2.2).2.2.2.1) (qf_Pa_n w)) (0 : Int32)))) (va_runV (As := [.int 0]) (rest := []) ⟨hx, hb, hml, hown, hts⟩ (c_F_moveOn l D cA (ad 4) (qm_F_l ((qf_M_setT st w st.2.2.2.1.2.2.2).2.2.2.1) (qf_Pa_n w)) 0) (qx_kV hts mw_275 mw_206 mw_207 mw_31 mw_208 cd_F_moveOn ⟨Nat.le_of_ble_eq_true rfl, Nat.le_of_ble_eq_true rfl⟩) (qx_preV (q0 := 4) (ci := 2) (q := (R_F, T_F, 4)) hP hD hK hN [4] rfl rfl rfl rfl) rfl rfl hl.1 rfl (lv_room (Nat.le_of_ble_eq_true rfl)) d_M_control_139 ⟨Nat.zero_le _, Nat.zero_le _⟩) hP hD hS [4] rfl rfl rfl (fun H locs hP hD hS => ?_)
    have hP : va_P D vwCl (qw_M ad cA (qm_M_fl (qf_M_setT st w st.2.2.2.1.2.2.2) (qf_F_moveOn (qm_F_l ((qf_M_setT st w st.2.2.2.1.2.2.2).2.2.2.1) (qf_Pa_n w)) (0 : Int32)))) H := hP
    have hD : va_D A (qw_M ad cA (qm_M_fl (qf_M_setT st w st.2.2.2.1.2.2.2) (qf_F_moveOn (qm_F_l ((qf_M_setT st w st.2.2.2.1.2.2.2).2.2.2.1) (qf_Pa_n w)) (0 : Int32)))) := hD
    refine W.eq (g2 := F0 m 142 ls []) rfl ?_
    have e9 : (qm_M_fl (qf_M_setT st w st.2.2.2.1.2.2.2) (qf_F_moveOn (qm_F_l ((qf_M_setT st w st.2.2.2.1.2.2.2).2.2.2.1) (qf_Pa_n w)) (0 : Int32))) = qf_M_control st w := (by unfold qf_M_control; rw [if_neg h1, if_neg h2, if_pos h3])
    exact W.vret hx hb hr (fun t ht hW => ⟨rfl, (by rw [ht, ← e9]; exact hP), hS.F ht⟩) hS.2.2 d_M_control_142
  by_cases h4 : qf_Pa_kind w = 21
  · refine lv_tableIn (tgt := 134) hx hb d_M_control_4 (by rw [h4]; decide) (by rw [h4]; decide) (by rw [h4]; rfl) (by decide) ?_
    refine lv_aload_n hx hb d_M_control_134 rfl (lv_at hl 0 rfl) ?_
    refine va_get (D := D) (ci := 1) (v := .ref (ad 4)) (C := R_M) (T := T_M) (N := 7) hx hb hts in_M hown hK hP 0 rfl rfl 3 (by decide) (hts (Cond.fieldLink R_M 24 "QueuedFronts$Machine" "flow" "LQueuedFronts$Flow;") mw_101) (fun _ h9 => h9) rfl d_M_control_135 ?_
    refine lv_iconst (v := 0) hx hb d_M_control_138 (by decide) ?_
    refine qx_mu (wn := qw_M ad cA (qm_M_fl st (qf_F_moveOn st.2.2.2.1 (0 : Int32)))) (va_runV (As := [.int 0]) (rest := []) ⟨hx, hb, hml, hown, hts⟩ (c_F_moveOn l D cA (ad 4) st.2.2.2.1 0) (qx_kV hts mw_275 mw_206 mw_207 mw_31 mw_208 cd_F_moveOn ⟨Nat.le_of_ble_eq_true rfl, Nat.le_of_ble_eq_true rfl⟩) (qx_preV (q0 := 4) (ci := 2) (q := (R_F, T_F, 4)) hP hD hK hN [4] rfl rfl rfl rfl) rfl rfl hl.1 rfl (lv_room (Nat.le_of_ble_eq_true rfl)) d_M_control_139 ⟨Nat.zero_le _, Nat.zero_le _⟩) hP hD hS [4] rfl rfl rfl (fun H locs hP hD hS => ?_)
    have hP : va_P D vwCl (qw_M ad cA (qm_M_fl st (qf_F_moveOn st.2.2.2.1 (0 : Int32)))) H := hP
    have hD : va_D A (qw_M ad cA (qm_M_fl st (qf_F_moveOn st.2.2.2.1 (0 : Int32)))) := hD
    refine W.eq (g2 := F0 m 142 ls []) rfl ?_
    have e9 : (qm_M_fl st (qf_F_moveOn st.2.2.2.1 (0 : Int32))) = qf_M_control st w := (by unfold qf_M_control; rw [if_neg h1, if_neg h2, if_neg h3, if_pos h4])
    exact W.vret hx hb hr (fun t ht hW => ⟨rfl, (by rw [ht, ← e9]; exact hP), hS.F ht⟩) hS.2.2 d_M_control_142
  by_cases h5 : qf_Pa_kind w = 22
  · refine lv_tableIn (tgt := 102) hx hb d_M_control_4 (by rw [h5]; decide) (by rw [h5]; decide) (by rw [h5]; rfl) (by decide) ?_
    refine lv_aload_n hx hb d_M_control_102 rfl (lv_at hl 0 rfl) ?_
    refine lv_iload_n hx hb d_M_control_103 rfl (lv_at hl 1 rfl) ?_
    refine lv_aload_n hx hb d_M_control_104 rfl (lv_at hl 0 rfl) ?_
    refine lv_iload_n hx hb d_M_control_105 rfl (lv_at hl 1 rfl) ?_
    refine qx_rd (va_runS (As := [.int w]) (rest := [.ref (ad 0), .int w, .ref (ad 0)]) ⟨hx, hb, hml, hown, hts⟩ (c_Pa_m l D cA w) (qx_kS hts mw_237 mw_238 mw_34 mw_239 cd_Pa_m ⟨Nat.le_of_ble_eq_true rfl, Nat.le_of_ble_eq_true rfl⟩) (qx_preS hP hD hK hN [] rfl rfl) rfl rfl hl.1 rfl (lv_room (Nat.le_of_ble_eq_true rfl)) d_M_control_106 ⟨Nat.zero_le _, Nat.zero_le _⟩) ?_
    refine qx_rd (va_runV (As := [.int (qf_Pa_m w)]) (rest := [.int w, .ref (ad 0)]) ⟨hx, hb, hml, hown, hts⟩ (c_M_savedThing l D cA ad st (qf_Pa_m w)) (qx_kV hts mw_315 mw_317 mw_13 mw_30 mw_318 cd_M_savedThing ⟨Nat.le_of_ble_eq_true rfl, Nat.le_of_ble_eq_true rfl⟩) (qx_preV (q0 := 0) (ci := 1) (q := (R_M, T_M, 7)) hP hD hK hN [0, 1, 2, 3, 4, 5] rfl rfl rfl rfl) rfl rfl hl.1 rfl (lv_room (Nat.le_of_ble_eq_true rfl)) d_M_control_109 ⟨Nat.zero_le _, Nat.zero_le _⟩) ?_
    refine qx_mu (wn := qw_M ad cA (qf_M_setT st w (qf_M_savedThing st (qf_Pa_m w)))) (va_runV (As := [.int w, .int (qf_M_savedThing st (qf_Pa_m w))]) (rest := []) ⟨hx, hb, hml, hown, hts⟩ (c_M_setT l D cA ad st w (qf_M_savedThing st (qf_Pa_m w))) (qx_kV hts mw_268 mw_270 mw_5 mw_30 mw_271 cd_M_setT ⟨Nat.le_of_ble_eq_true rfl, Nat.le_of_ble_eq_true rfl⟩) (qx_preV (q0 := 0) (ci := 1) (q := (R_M, T_M, 7)) hP hD hK hN [0, 1, 2, 3, 4, 5] rfl rfl rfl rfl) rfl rfl hl.1 rfl (lv_room (Nat.le_of_ble_eq_true rfl)) d_M_control_112 ⟨Nat.zero_le _, Nat.zero_le _⟩) hP hD hS [0, 1, 2, 3, 4, 5] rfl rfl rfl (fun H locs hP hD hS => ?_)
    have hP : va_P D vwCl (qw_M ad cA (qf_M_setT st w (qf_M_savedThing st (qf_Pa_m w)))) H := hP
    have hD : va_D A (qw_M ad cA (qf_M_setT st w (qf_M_savedThing st (qf_Pa_m w)))) := hD
    refine W.eq (g2 := F0 m 115 ls []) rfl ?_
    refine lv_goto (tgt := 134) hx hb d_M_control_115 (by decide) ?_
    refine lv_aload_n hx hb d_M_control_134 rfl (lv_at hl 0 rfl) ?_
    refine va_get (D := D) (ci := 1) (v := .ref (ad 4)) (C := R_M) (T := T_M) (N := 7) hx hb hts in_M hown hK hP 0 rfl rfl 3 (by decide) (hts (Cond.fieldLink R_M 24 "QueuedFronts$Machine" "flow" "LQueuedFronts$Flow;") mw_101) (fun _ h9 => h9) rfl d_M_control_135 ?_
    refine lv_iconst (v := 0) hx hb d_M_control_138 (by decide) ?_
    refine qx_mu (wn := qw_M ad cA (qm_M_fl (qf_M_setT st w (qf_M_savedThing st (qf_Pa_m w))) (qf_F_moveOn ((qf_M_setT st w (qf_M_savedThing st (qf_Pa_m w))).2.2.2.1) (0 : Int32)))) (va_runV (As := [.int 0]) (rest := []) ⟨hx, hb, hml, hown, hts⟩ (c_F_moveOn l D cA (ad 4) ((qf_M_setT st w (qf_M_savedThing st (qf_Pa_m w))).2.2.2.1) 0) (qx_kV hts mw_275 mw_206 mw_207 mw_31 mw_208 cd_F_moveOn ⟨Nat.le_of_ble_eq_true rfl, Nat.le_of_ble_eq_true rfl⟩) (qx_preV (q0 := 4) (ci := 2) (q := (R_F, T_F, 4)) hP hD hK hN [4] rfl rfl rfl rfl) rfl rfl hl.1 rfl (lv_room (Nat.le_of_ble_eq_true rfl)) d_M_control_139 ⟨Nat.zero_le _, Nat.zero_le _⟩) hP hD hS [4] rfl rfl rfl (fun H locs hP hD hS => ?_)
    have hP : va_P D vwCl (qw_M ad cA (qm_M_fl (qf_M_setT st w (qf_M_savedThing st (qf_Pa_m w))) (qf_F_moveOn ((qf_M_setT st w (qf_M_savedThing st (qf_Pa_m w))).2.2.2.1) (0 : Int32)))) H := hP
    have hD : va_D A (qw_M ad cA (qm_M_fl (qf_M_setT st w (qf_M_savedThing st (qf_Pa_m w))) (qf_F_moveOn ((qf_M_setT st w (qf_M_savedThing st (qf_Pa_m w))).2.2.2.1) (0 : Int32)))) := hD
    refine W.eq (g2 := F0 m 142 ls []) rfl ?_
    have e9 : (qm_M_fl (qf_M_setT st w (qf_M_savedThing st (qf_Pa_m w))) (qf_F_moveOn ((qf_M_setT st w (qf_M_savedThing st (qf_Pa_m w))).2.2.2.1) (0 : Int32))) = qf_M_control st w := (by unfold qf_M_control; rw [if_neg h1, if_neg h2, if_neg h3, if_neg h4, if_pos h5])
    exact W.vret hx hb hr (fun t ht hW => ⟨rfl, (by rw [ht, ← e9]; exact hP), hS.F ht⟩) hS.2.2 d_M_control_142
  by_cases h6 : qf_Pa_kind w = 23
  · refine lv_tableIn (tgt := 118) hx hb d_M_control_4 (by rw [h6]; decide) (by rw [h6]; decide) (by rw [h6]; rfl) (by decide) ?_
    refine lv_aload_n hx hb d_M_control_118 rfl (lv_at hl 0 rfl) ?_
    refine lv_iload_n hx hb d_M_control_119 rfl (lv_at hl 1 rfl) ?_
    refine qx_rd (va_runS (As := [.int w]) (rest := [.ref (ad 0)]) ⟨hx, hb, hml, hown, hts⟩ (c_Pa_m l D cA w) (qx_kS hts mw_237 mw_238 mw_34 mw_239 cd_Pa_m ⟨Nat.le_of_ble_eq_true rfl, Nat.le_of_ble_eq_true rfl⟩) (qx_preS hP hD hK hN [] rfl rfl) rfl rfl hl.1 rfl (lv_room (Nat.le_of_ble_eq_true rfl)) d_M_control_120 ⟨Nat.zero_le _, Nat.zero_le _⟩) ?_
    refine lv_aload_n hx hb d_M_control_123 rfl (lv_at hl 0 rfl) ?_
    refine lv_iload_n hx hb d_M_control_124 rfl (lv_at hl 1 rfl) ?_
    refine qx_rd (va_runV (As := [.int w]) (rest := [.int (qf_Pa_m w), .ref (ad 0)]) ⟨hx, hb, hml, hown, hts⟩ (c_M_valueA l D cA ad st w) (qx_kV hts mw_220 mw_222 mw_2 mw_30 mw_223 cd_M_valueA ⟨Nat.le_of_ble_eq_true rfl, Nat.le_of_ble_eq_true rfl⟩) (qx_preV (q0 := 0) (ci := 1) (q := (R_M, T_M, 7)) hP hD hK hN [0, 1, 2, 3, 4, 5] rfl rfl rfl rfl) rfl rfl hl.1 rfl (lv_room (Nat.le_of_ble_eq_true rfl)) d_M_control_125 ⟨Nat.zero_le _, Nat.zero_le _⟩) ?_
    refine qx_mu (wn := qw_M ad cA (qf_M_setSavedThing st (qf_Pa_m w) (qf_M_valueA st w))) (va_runV (As := [.int (qf_Pa_m w), .int (qf_M_valueA st w)]) (rest := []) ⟨hx, hb, hml, hown, hts⟩ (c_M_setSavedThing l D cA ad st (qf_Pa_m w) (qf_M_valueA st w)) (qx_kV hts mw_319 mw_321 mw_14 mw_30 mw_322 cd_M_setSavedThing ⟨Nat.le_of_ble_eq_true rfl, Nat.le_of_ble_eq_true rfl⟩) (qx_preV (q0 := 0) (ci := 1) (q := (R_M, T_M, 7)) hP hD hK hN [0, 1, 2, 3, 4, 5] rfl rfl rfl rfl) rfl rfl hl.1 rfl (lv_room (Nat.le_of_ble_eq_true rfl)) d_M_control_128 ⟨Nat.zero_le _, Nat.zero_le _⟩) hP hD hS [0, 1, 2, 3, 4, 5] rfl rfl rfl (fun H locs hP hD hS => ?_)
    have hP : va_P D vwCl (qw_M ad cA (qf_M_setSavedThing st (qf_Pa_m w) (qf_M_valueA st w))) H := hP
    have hD : va_D A (qw_M ad cA (qf_M_setSavedThing st (qf_Pa_m w) (qf_M_valueA st w))) := hD
    refine W.eq (g2 := F0 m 131 ls []) rfl ?_
    refine lv_goto (tgt := 134) hx hb d_M_control_131 (by decide) ?_
    refine lv_aload_n hx hb d_M_control_134 rfl (lv_at hl 0 rfl) ?_
    refine va_get (D := D) (ci := 1) (v := .ref (ad 4)) (C := R_M) (T := T_M) (N := 7) hx hb hts in_M hown hK hP 0 rfl rfl 3 (by decide) (hts (Cond.fieldLink R_M 24 "QueuedFronts$Machine" "flow" "LQueuedFronts$Flow;") mw_101) (fun _ h9 => h9) rfl d_M_control_135 ?_
    refine lv_iconst (v := 0) hx hb d_M_control_138 (by decide) ?_
    refine qx_mu (wn := qw_M ad cA (qm_M_fl (qf_M_setSavedThing st (qf_Pa_m w) (qf_M_valueA st w)) (qf_F_moveOn ((qf_M_setSavedThing st (qf_Pa_m w) (qf_M_valueA st w)).2.2.2.1) (0 : Int32)))) (va_runV (As := [.int 0]) (rest := []) ⟨hx, hb, hml, hown, hts⟩ (c_F_moveOn l D cA (ad 4) ((qf_M_setSavedThing st (qf_Pa_m w) (qf_M_valueA st w)).2.2.2.1) 0) (qx_kV hts mw_275 mw_206 mw_207 mw_31 mw_208 cd_F_moveOn ⟨Nat.le_of_ble_eq_true rfl, Nat.le_of_ble_eq_true rfl⟩) (qx_preV (q0 := 4) (ci := 2) (q := (R_F, T_F, 4)) hP hD hK hN [4] rfl rfl rfl rfl) rfl rfl hl.1 rfl (lv_room (Nat.le_of_ble_eq_true rfl)) d_M_control_139 ⟨Nat.zero_le _, Nat.zero_le _⟩) hP hD hS [4] rfl rfl rfl (fun H locs hP hD hS => ?_)
    have hP : va_P D vwCl (qw_M ad cA (qm_M_fl (qf_M_setSavedThing st (qf_Pa_m w) (qf_M_valueA st w)) (qf_F_moveOn ((qf_M_setSavedThing st (qf_Pa_m w) (qf_M_valueA st w)).2.2.2.1) (0 : Int32)))) H := hP
    have hD : va_D A (qw_M ad cA (qm_M_fl (qf_M_setSavedThing st (qf_Pa_m w) (qf_M_valueA st w)) (qf_F_moveOn ((qf_M_setSavedThing st (qf_Pa_m w) (qf_M_valueA st w)).2.2.2.1) (0 : Int32)))) := hD
    refine W.eq (g2 := F0 m 142 ls []) rfl ?_
    have e9 : (qm_M_fl (qf_M_setSavedThing st (qf_Pa_m w) (qf_M_valueA st w)) (qf_F_moveOn ((qf_M_setSavedThing st (qf_Pa_m w) (qf_M_valueA st w)).2.2.2.1) (0 : Int32))) = qf_M_control st w := (by unfold qf_M_control; rw [if_neg h1, if_neg h2, if_neg h3, if_neg h4, if_neg h5, if_pos h6])
    exact W.vret hx hb hr (fun t ht hW => ⟨rfl, (by rw [ht, ← e9]; exact hP), hS.F ht⟩) hS.2.2 d_M_control_142
  refine lv_tableOut (tgt := 134) hx hb d_M_control_4 (by have a0 := lv_neT (a := 18) h1 (by decide); have a1 := lv_neT (a := 19) h2 (by decide); have a2 := lv_neT (a := 20) h3 (by decide); have a3 := lv_neT (a := 21) h4 (by decide); have a4 := lv_neT (a := 22) h5 (by decide); have a5 := lv_neT (a := 23) h6 (by decide); omega) (by decide) ?_
  refine lv_aload_n hx hb d_M_control_134 rfl (lv_at hl 0 rfl) ?_
  refine va_get (D := D) (ci := 1) (v := .ref (ad 4)) (C := R_M) (T := T_M) (N := 7) hx hb hts in_M hown hK hP 0 rfl rfl 3 (by decide) (hts (Cond.fieldLink R_M 24 "QueuedFronts$Machine" "flow" "LQueuedFronts$Flow;") mw_101) (fun _ h9 => h9) rfl d_M_control_135 ?_
  refine lv_iconst (v := 0) hx hb d_M_control_138 (by decide) ?_
  refine qx_mu (wn := qw_M ad cA (qm_M_fl st (qf_F_moveOn st.2.2.2.1 (0 : Int32)))) (va_runV (As := [.int 0]) (rest := []) ⟨hx, hb, hml, hown, hts⟩ (c_F_moveOn l D cA (ad 4) st.2.2.2.1 0) (qx_kV hts mw_275 mw_206 mw_207 mw_31 mw_208 cd_F_moveOn ⟨Nat.le_of_ble_eq_true rfl, Nat.le_of_ble_eq_true rfl⟩) (qx_preV (q0 := 4) (ci := 2) (q := (R_F, T_F, 4)) hP hD hK hN [4] rfl rfl rfl rfl) rfl rfl hl.1 rfl (lv_room (Nat.le_of_ble_eq_true rfl)) d_M_control_139 ⟨Nat.zero_le _, Nat.zero_le _⟩) hP hD hS [4] rfl rfl rfl (fun H locs hP hD hS => ?_)
  have hP : va_P D vwCl (qw_M ad cA (qm_M_fl st (qf_F_moveOn st.2.2.2.1 (0 : Int32)))) H := hP
  have hD : va_D A (qw_M ad cA (qm_M_fl st (qf_F_moveOn st.2.2.2.1 (0 : Int32)))) := hD
  refine W.eq (g2 := F0 m 142 ls []) rfl ?_
  have e9 : (qm_M_fl st (qf_F_moveOn st.2.2.2.1 (0 : Int32))) = qf_M_control st w := (by unfold qf_M_control; rw [if_neg h1, if_neg h2, if_neg h3, if_neg h4, if_neg h5, if_neg h6])
  exact W.vret hx hb hr (fun t ht hW => ⟨rfl, (by rw [ht, ← e9]; exact hP), hS.F ht⟩) hS.2.2 d_M_control_142
def qf_M_perform (st : qs_M) (w : Int32) : qs_M :=
  if 10 < qf_Pa_kind w then (if 12 < qf_Pa_kind w then (if 17 < qf_Pa_kind w then (if qf_Pa_kind w = 21 then (qm_M_fl st (qf_F_become st.2.2.2.1 st.2.2.2.2.1))
        else (qf_M_control st w))
      else (qf_M_branch st w))
    else (qf_M_moveData st w))
  else (qf_M_reckon st w)
set_option maxHeartbeats 4000000 in
set_option maxRecDepth 100000 in
theorem c_M_perform (l : Launch) (D : va_G) (cA : ClassId) (ad : Nat → Nat) (st : qs_M) (w : Int32) (hs : ∀ k : Nat, k < 4 → vp_in (st.2.1 k) 4) : Met l y_M_perform (Cond.code y_M_perform b_M_perform 3 none :: qx_T) ({ frames := 4, cells := 0, slots := 0, locals := 89 }) (qx_Pc D vwCl [(cA, .int)] (qw_M ad cA st) [.ref (ad 0), .int w]) (qx_Q D vwCl (qw_M ad cA (qf_M_perform st w)) (qx_ad (qw_M ad cA st)) none) 0 0 (qx_ad (qw_M ad cA st)) := by
  refine Met.ofW (cc := b_M_perform) (maxL := 3) (ret := none) (by decide) rfl ?_
  intro p e s m args below meth c s₁ B hml hv
  obtain ⟨rfl, hP, hK, hN, hD0⟩ := hv
  have hx := B.exec
  have hb := B.bytes
  have hr := B.returns
  have hts0 := atoms_spec (ws := Cond.code y_M_perform b_M_perform 3 none :: qx_T) B.pre
  have hts := fun w h => hts0 w (List.mem_cons_of_mem _ h)
  have hown : s.vm.findClass R_M = some m.cls := findClass_of_methodNamed B.named
  have hlocks := B.notSynchronized
  have hD : va_D (qx_ad (qw_M ad cA st)) (qw_M ad cA st) := ⟨hD0.1, fun k q hk => ⟨k, q.2, hk⟩⟩
  generalize hAe : qx_ad (qw_M ad cA st) = A at hD ⊢
  have hS : va_S A s.heap s.heap [] := va_S.rf
  have hl := lv_entry ([.ref (ad 0), .int w]) (n := 3) (Nat.le_of_ble_eq_true rfl)
  rw [lg_entry_eq]
  generalize (lg_sl ([.ref (ad 0), .int w]) ++ List.replicate (3 - (lg_sl ([.ref (ad 0), .int w])).length) Slot.unset).toArray = ls at hl ⊢
  have hl : lv_has ls 3 [(0, .ref (ad 0)), (1, .int w)] := hl
  refine lv_iload_n hx hb d_M_perform_0 rfl (lv_at hl 1 rfl) ?_
  refine qx_rd (va_runS (As := [.int w]) (rest := []) ⟨hx, hb, hml, hown, hts⟩ (c_Pa_kind l D cA w) (qx_kS hts mw_217 mw_218 mw_34 mw_219 cd_Pa_kind ⟨Nat.le_of_ble_eq_true rfl, Nat.le_of_ble_eq_true rfl⟩) (qx_preS hP hD hK hN [] rfl rfl) rfl rfl hl.1 rfl (lv_room (Nat.le_of_ble_eq_true rfl)) d_M_perform_1 ⟨Nat.zero_le _, Nat.zero_le _⟩) ?_
  refine lv_istore_n (lv' := [(2, .int (qf_Pa_kind w)), (0, .ref (ad 0)), (1, .int w)]) hx hb d_M_perform_4 rfl hl (by decide) rfl (fun ls hl => ?_)
  refine lv_iload_n hx hb d_M_perform_5 rfl (lv_at hl 0 rfl) ?_
  refine lv_bipush (v := 10) hx hb d_M_perform_6 (by decide) ?_
  refine lv_icmp_gt (tgt := 19) hx hb d_M_perform_8 (by decide) (fun h1 => ?_) (fun h1 => ?_)
  · skip
    refine lv_iload_n hx hb d_M_perform_19 rfl (lv_at hl 0 rfl) ?_
    refine lv_bipush (v := 12) hx hb d_M_perform_20 (by decide) ?_
    refine lv_icmp_gt (tgt := 33) hx hb d_M_perform_22 (by decide) (fun h2 => ?_) (fun h2 => ?_)
    · skip
      refine lv_iload_n hx hb d_M_perform_33 rfl (lv_at hl 0 rfl) ?_
      refine lv_bipush (v := 17) hx hb d_M_perform_34 (by decide) ?_
      refine lv_icmp_gt (tgt := 47) hx hb d_M_perform_36 (by decide) (fun h3 => ?_) (fun h3 => ?_)
      · skip
        refine lv_iload_n hx hb d_M_perform_47 rfl (lv_at hl 0 rfl) ?_
        refine lv_bipush (v := 21) hx hb d_M_perform_48 (by decide) ?_
        refine lv_icmp_ne (tgt := 67) hx hb d_M_perform_50 (by decide) (fun h4 => ?_) (fun h4 => ?_)
        · skip
          refine lv_aload_n hx hb d_M_perform_67 rfl (lv_at hl 1 rfl) ?_
          refine lv_iload_n hx hb d_M_perform_68 rfl (lv_at hl 2 rfl) ?_
          refine qx_mu (wn := qw_M ad cA (qf_M_control st w)) (va_runV (As := [.int w]) (rest := []) ⟨hx, hb, hml, hown, hts⟩ (c_M_control l D cA ad st w) (qx_kV hts mw_311 mw_313 mw_12 mw_30 mw_314 cd_M_control ⟨Nat.le_of_ble_eq_true rfl, Nat.le_of_ble_eq_true rfl⟩) (qx_preV (q0 := 0) (ci := 1) (q := (R_M, T_M, 7)) hP hD hK hN [0, 1, 2, 3, 4, 5] rfl rfl rfl rfl) rfl rfl hl.1 rfl (lv_room (Nat.le_of_ble_eq_true rfl)) d_M_perform_69 ⟨Nat.zero_le _, Nat.zero_le _⟩) hP hD hS [0, 1, 2, 3, 4, 5] rfl rfl rfl (fun H locs hP hD hS => ?_)
          have hP : va_P D vwCl (qw_M ad cA (qf_M_control st w)) H := hP
          have hD : va_D A (qw_M ad cA (qf_M_control st w)) := hD
          refine W.eq (g2 := F0 m 72 ls []) rfl ?_
          have e9 : (qf_M_control st w) = qf_M_perform st w := (by unfold qf_M_perform; rw [if_pos h1, if_pos h2, if_pos h3, if_neg h4])
          exact W.vret hx hb hr (fun t ht hW => ⟨rfl, (by rw [ht, ← e9]; exact hP), hS.F ht⟩) hS.2.2 d_M_perform_72
        · skip
          refine lv_aload_n hx hb d_M_perform_53 rfl (lv_at hl 1 rfl) ?_
          refine va_get (D := D) (ci := 1) (v := .ref (ad 4)) (C := R_M) (T := T_M) (N := 7) hx hb hts in_M hown hK hP 0 rfl rfl 3 (by decide) (hts (Cond.fieldLink R_M 24 "QueuedFronts$Machine" "flow" "LQueuedFronts$Flow;") mw_101) (fun _ h9 => h9) rfl d_M_perform_54 ?_
          refine lv_aload_n hx hb d_M_perform_57 rfl (lv_at hl 1 rfl) ?_
          refine va_get (D := D) (ci := 1) (v := .ref (ad 5)) (C := R_M) (T := T_M) (N := 7) hx hb hts in_M hown hK hP 0 rfl rfl 4 (by decide) (hts (Cond.fieldLink R_M 28 "QueuedFronts$Machine" "saved" "LQueuedFronts$Flow;") mw_103) (fun _ h9 => h9) rfl d_M_perform_58 ?_
          refine qx_mu (wn := qw_M ad cA (qm_M_fl st (qf_F_become st.2.2.2.1 st.2.2.2.2.1))) (va_runV (As := [.ref (ad 5)]) (rest := []) ⟨hx, hb, hml, hown, hts⟩ (c_F_become l D cA (ad 4) (ad 5) st.2.2.2.1 st.2.2.2.2.1) (qx_kV hts mw_200 mw_201 mw_202 mw_31 mw_203 cd_F_become ⟨Nat.le_of_ble_eq_true rfl, Nat.le_of_ble_eq_true rfl⟩) (qx_preV (q0 := 4) (ci := 2) (q := (R_F, T_F, 4)) hP hD hK hN [4, 5] rfl rfl rfl rfl) rfl rfl hl.1 rfl (lv_room (Nat.le_of_ble_eq_true rfl)) d_M_perform_61 ⟨Nat.zero_le _, Nat.zero_le _⟩) hP hD hS [4, 5] rfl rfl rfl (fun H locs hP hD hS => ?_)
          have hP : va_P D vwCl (qw_M ad cA (qm_M_fl st (qf_F_become st.2.2.2.1 st.2.2.2.2.1))) H := hP
          have hD : va_D A (qw_M ad cA (qm_M_fl st (qf_F_become st.2.2.2.1 st.2.2.2.2.1))) := hD
          refine W.eq (g2 := F0 m 64 ls []) rfl ?_
          refine lv_goto (tgt := 72) hx hb d_M_perform_64 (by decide) ?_
          have e9 : (qm_M_fl st (qf_F_become st.2.2.2.1 st.2.2.2.2.1)) = qf_M_perform st w := (by unfold qf_M_perform; rw [if_pos h1, if_pos h2, if_pos h3, if_pos h4])
          exact W.vret hx hb hr (fun t ht hW => ⟨rfl, (by rw [ht, ← e9]; exact hP), hS.F ht⟩) hS.2.2 d_M_perform_72
      · skip
        refine lv_aload_n hx hb d_M_perform_39 rfl (lv_at hl 1 rfl) ?_
        refine lv_iload_n hx hb d_M_perform_40 rfl (lv_at hl 2 rfl) ?_
        refine qx_mu (wn := qw_M ad cA (qf_M_branch st w)) (va_runV (As := [.int w]) (rest := []) ⟨hx, hb, hml, hown, hts⟩ (c_M_branch l D cA ad st w) (qx_kV hts mw_292 mw_294 mw_9 mw_30 mw_295 cd_M_branch ⟨Nat.le_of_ble_eq_true rfl, Nat.le_of_ble_eq_true rfl⟩) (qx_preV (q0 := 0) (ci := 1) (q := (R_M, T_M, 7)) hP hD hK hN [0, 1, 2, 3, 4, 5] rfl rfl rfl rfl) rfl rfl hl.1 rfl (lv_room (Nat.le_of_ble_eq_true rfl)) d_M_perform_41 ⟨Nat.zero_le _, Nat.zero_le _⟩) hP hD hS [0, 1, 2, 3, 4, 5] rfl rfl rfl (fun H locs hP hD hS => ?_)
        have hP : va_P D vwCl (qw_M ad cA (qf_M_branch st w)) H := hP
        have hD : va_D A (qw_M ad cA (qf_M_branch st w)) := hD
        refine W.eq (g2 := F0 m 44 ls []) rfl ?_
        refine lv_goto (tgt := 72) hx hb d_M_perform_44 (by decide) ?_
        have e9 : (qf_M_branch st w) = qf_M_perform st w := (by unfold qf_M_perform; rw [if_pos h1, if_pos h2, if_neg h3])
        exact W.vret hx hb hr (fun t ht hW => ⟨rfl, (by rw [ht, ← e9]; exact hP), hS.F ht⟩) hS.2.2 d_M_perform_72
    · skip
      refine lv_aload_n hx hb d_M_perform_25 rfl (lv_at hl 1 rfl) ?_
      refine lv_iload_n hx hb d_M_perform_26 rfl (lv_at hl 2 rfl) ?_
      refine qx_mu (wn := qw_M ad cA (qf_M_moveData st w)) (va_runV (As := [.int w]) (rest := []) ⟨hx, hb, hml, hown, hts⟩ (c_M_moveData l D cA ad st w hs) (qx_kV hts mw_276 mw_278 mw_6 mw_30 mw_279 cd_M_moveData ⟨Nat.le_of_ble_eq_true rfl, Nat.le_of_ble_eq_true rfl⟩) (qx_preV (q0 := 0) (ci := 1) (q := (R_M, T_M, 7)) hP hD hK hN [0, 1, 2, 3, 4, 5] rfl rfl rfl rfl) rfl rfl hl.1 rfl (lv_room (Nat.le_of_ble_eq_true rfl)) d_M_perform_27 ⟨Nat.zero_le _, Nat.zero_le _⟩) hP hD hS [0, 1, 2, 3, 4, 5] rfl rfl rfl (fun H locs hP hD hS => ?_)
      have hP : va_P D vwCl (qw_M ad cA (qf_M_moveData st w)) H := hP
      have hD : va_D A (qw_M ad cA (qf_M_moveData st w)) := hD
      refine W.eq (g2 := F0 m 30 ls []) rfl ?_
      refine lv_goto (tgt := 72) hx hb d_M_perform_30 (by decide) ?_
      have e9 : (qf_M_moveData st w) = qf_M_perform st w := (by unfold qf_M_perform; rw [if_pos h1, if_neg h2])
      exact W.vret hx hb hr (fun t ht hW => ⟨rfl, (by rw [ht, ← e9]; exact hP), hS.F ht⟩) hS.2.2 d_M_perform_72
  · skip
    refine lv_aload_n hx hb d_M_perform_11 rfl (lv_at hl 1 rfl) ?_
    refine lv_iload_n hx hb d_M_perform_12 rfl (lv_at hl 2 rfl) ?_
    refine qx_mu (wn := qw_M ad cA (qf_M_reckon st w)) (va_runV (As := [.int w]) (rest := []) ⟨hx, hb, hml, hown, hts⟩ (c_M_reckon l D cA ad st w) (qx_kV hts mw_245 mw_247 mw_4 mw_30 mw_248 cd_M_reckon ⟨Nat.le_of_ble_eq_true rfl, Nat.le_of_ble_eq_true rfl⟩) (qx_preV (q0 := 0) (ci := 1) (q := (R_M, T_M, 7)) hP hD hK hN [0, 1, 2, 3, 4, 5] rfl rfl rfl rfl) rfl rfl hl.1 rfl (lv_room (Nat.le_of_ble_eq_true rfl)) d_M_perform_13 ⟨Nat.zero_le _, Nat.zero_le _⟩) hP hD hS [0, 1, 2, 3, 4, 5] rfl rfl rfl (fun H locs hP hD hS => ?_)
    have hP : va_P D vwCl (qw_M ad cA (qf_M_reckon st w)) H := hP
    have hD : va_D A (qw_M ad cA (qf_M_reckon st w)) := hD
    refine W.eq (g2 := F0 m 16 ls []) rfl ?_
    refine lv_goto (tgt := 72) hx hb d_M_perform_16 (by decide) ?_
    have e9 : (qf_M_reckon st w) = qf_M_perform st w := (by unfold qf_M_perform; rw [if_neg h1])
    exact W.vret hx hb hr (fun t ht hW => ⟨rfl, (by rw [ht, ← e9]; exact hP), hS.F ht⟩) hS.2.2 d_M_perform_72
def qf_M_enterTrap (st : qs_M) (x : Int32) : qs_M :=
  (qm_M_cs (qm_M_sv (qm_M_fl st (qf_F_startAt st.2.2.2.1 (qf_Pl_of (0 : Int32) (4 * x)) (0 : Int32))) (qf_F_become st.2.2.2.2.1 st.2.2.2.1)) x)
set_option maxHeartbeats 4000000 in
set_option maxRecDepth 100000 in
theorem c_M_enterTrap (l : Launch) (D : va_G) (cA : ClassId) (ad : Nat → Nat) (st : qs_M) (x : Int32) : Met l y_M_enterTrap (Cond.code y_M_enterTrap b_M_enterTrap 2 none :: qx_T) ({ frames := 3, cells := 0, slots := 0, locals := 63 }) (qx_Pc D vwCl [(cA, .int)] (qw_M ad cA st) [.ref (ad 0), .int x]) (qx_Q D vwCl (qw_M ad cA (qf_M_enterTrap st x)) (qx_ad (qw_M ad cA st)) none) 0 0 (qx_ad (qw_M ad cA st)) := by
  refine Met.ofW (cc := b_M_enterTrap) (maxL := 2) (ret := none) (by decide) rfl ?_
  intro p e s m args below meth c s₁ B hml hv
  obtain ⟨rfl, hP, hK, hN, hD0⟩ := hv
  have hx := B.exec
  have hb := B.bytes
  have hr := B.returns
  have hts0 := atoms_spec (ws := Cond.code y_M_enterTrap b_M_enterTrap 2 none :: qx_T) B.pre
  have hts := fun w h => hts0 w (List.mem_cons_of_mem _ h)
  have hown : s.vm.findClass R_M = some m.cls := findClass_of_methodNamed B.named
  have hlocks := B.notSynchronized
  have hD : va_D (qx_ad (qw_M ad cA st)) (qw_M ad cA st) := ⟨hD0.1, fun k q hk => ⟨k, q.2, hk⟩⟩
  generalize hAe : qx_ad (qw_M ad cA st) = A at hD ⊢
  have hS : va_S A s.heap s.heap [] := va_S.rf
  have hl := lv_entry ([.ref (ad 0), .int x]) (n := 2) (Nat.le_of_ble_eq_true rfl)
  rw [lg_entry_eq]
  generalize (lg_sl ([.ref (ad 0), .int x]) ++ List.replicate (2 - (lg_sl ([.ref (ad 0), .int x])).length) Slot.unset).toArray = ls at hl ⊢
  have hl : lv_has ls 2 [(0, .ref (ad 0)), (1, .int x)] := hl
  refine lv_aload_n hx hb d_M_enterTrap_0 rfl (lv_at hl 0 rfl) ?_
  refine va_get (D := D) (ci := 1) (v := .ref (ad 5)) (C := R_M) (T := T_M) (N := 7) hx hb hts in_M hown hK hP 0 rfl rfl 4 (by decide) (hts (Cond.fieldLink R_M 28 "QueuedFronts$Machine" "saved" "LQueuedFronts$Flow;") mw_103) (fun _ h9 => h9) rfl d_M_enterTrap_1 ?_
  refine lv_aload_n hx hb d_M_enterTrap_4 rfl (lv_at hl 0 rfl) ?_
  refine va_get (D := D) (ci := 1) (v := .ref (ad 4)) (C := R_M) (T := T_M) (N := 7) hx hb hts in_M hown hK hP 0 rfl rfl 3 (by decide) (hts (Cond.fieldLink R_M 24 "QueuedFronts$Machine" "flow" "LQueuedFronts$Flow;") mw_101) (fun _ h9 => h9) rfl d_M_enterTrap_5 ?_
  refine qx_mu (wn := qw_M ad cA (qm_M_sv st (qf_F_become st.2.2.2.2.1 st.2.2.2.1))) (va_runV (As := [.ref (ad 4)]) (rest := []) ⟨hx, hb, hml, hown, hts⟩ (c_F_become l D cA (ad 5) (ad 4) st.2.2.2.2.1 st.2.2.2.1) (qx_kV hts mw_200 mw_201 mw_202 mw_31 mw_203 cd_F_become ⟨Nat.le_of_ble_eq_true rfl, Nat.le_of_ble_eq_true rfl⟩) (qx_preV (q0 := 5) (ci := 2) (q := (R_F, T_F, 4)) hP hD hK hN [5, 4] rfl rfl rfl rfl) rfl rfl hl.1 rfl (lv_room (Nat.le_of_ble_eq_true rfl)) d_M_enterTrap_8 ⟨Nat.zero_le _, Nat.zero_le _⟩) hP hD hS [5, 4] rfl rfl rfl (fun H locs hP hD hS => ?_)
  have hP : va_P D vwCl (qw_M ad cA (qm_M_sv st (qf_F_become st.2.2.2.2.1 st.2.2.2.1))) H := hP
  have hD : va_D A (qw_M ad cA (qm_M_sv st (qf_F_become st.2.2.2.2.1 st.2.2.2.1))) := hD
  refine W.eq (g2 := F0 m 11 ls []) rfl ?_
  refine lv_aload_n hx hb d_M_enterTrap_11 rfl (lv_at hl 0 rfl) ?_
  refine lv_iload_n hx hb d_M_enterTrap_12 rfl (lv_at hl 1 rfl) ?_
  refine va_put (D := D) (ci := 1) (v := .int x) (ty := .int) (C := R_M) (T := T_M) (N := 7) hx hb hts in_M ty_M tyok_M nm_M hown hK hP hD hS 0 rfl rfl 5 (by decide) (hts (Cond.fieldLink R_M 31 "QueuedFronts$Machine" "savedCause" "I") mw_105) (fun _ h9 => h9) rfl (by decide +kernel) rfl rfl (Nat.le_of_ble_eq_true rfl) d_M_enterTrap_13 (fun H locs hP hD hS => ?_)
  have hP : va_P D vwCl (qw_M ad cA (qm_M_cs (qm_M_sv st (qf_F_become st.2.2.2.2.1 st.2.2.2.1)) x)) H := hP
  have hD : va_D A (qw_M ad cA (qm_M_cs (qm_M_sv st (qf_F_become st.2.2.2.2.1 st.2.2.2.1)) x)) := hD
  refine lv_aload_n hx hb d_M_enterTrap_16 rfl (lv_at hl 0 rfl) ?_
  refine va_get (D := D) (ci := 1) (v := .ref (ad 4)) (C := R_M) (T := T_M) (N := 7) hx hb hts in_M hown hK hP 0 rfl rfl 3 (by decide) (hts (Cond.fieldLink R_M 24 "QueuedFronts$Machine" "flow" "LQueuedFronts$Flow;") mw_101) (fun _ h9 => h9) rfl d_M_enterTrap_17 ?_
  refine lv_iconst (v := 0) hx hb d_M_enterTrap_20 (by decide) ?_
  refine lv_iconst (v := 4) hx hb d_M_enterTrap_21 (by decide) ?_
  refine lv_iload_n hx hb d_M_enterTrap_22 rfl (lv_at hl 1 rfl) ?_
  refine lv_imul hx hb d_M_enterTrap_23 ?_
  refine qx_rd (va_runS (As := [.int 0, .int (4 * x)]) (rest := [.ref (ad 4)]) ⟨hx, hb, hml, hown, hts⟩ (c_Pl_of l D cA 0 (4 * x)) (qx_kS hts mw_204 mw_93 mw_32 mw_94 cd_Pl_of ⟨Nat.le_of_ble_eq_true rfl, Nat.le_of_ble_eq_true rfl⟩) (qx_preS hP hD hK hN [] rfl rfl) rfl rfl hl.1 rfl (lv_room (Nat.le_of_ble_eq_true rfl)) d_M_enterTrap_24 ⟨Nat.zero_le _, Nat.zero_le _⟩) ?_
  refine lv_iconst (v := 0) hx hb d_M_enterTrap_27 (by decide) ?_
  refine qx_mu (wn := qw_M ad cA (qm_M_cs (qm_M_sv (qm_M_fl st (qf_F_startAt st.2.2.2.1 (qf_Pl_of (0 : Int32) (4 * x)) (0 : Int32))) (qf_F_become st.2.2.2.2.1 st.2.2.2.1)) x)) (va_runV (As := [.int (qf_Pl_of (0 : Int32) (4 * x)), .int 0]) (rest := []) ⟨hx, hb, hml, hown, hts⟩ (c_F_startAt l D cA (ad 4) st.2.2.2.1 (qf_Pl_of (0 : Int32) (4 * x)) 0) (qx_kV hts mw_79 mw_80 mw_81 mw_31 mw_82 cd_F_startAt ⟨Nat.le_of_ble_eq_true rfl, Nat.le_of_ble_eq_true rfl⟩) (qx_preV (q0 := 4) (ci := 2) (q := (R_F, T_F, 4)) hP hD hK hN [4] rfl rfl rfl rfl) rfl rfl hl.1 rfl (lv_room (Nat.le_of_ble_eq_true rfl)) d_M_enterTrap_28 ⟨Nat.zero_le _, Nat.zero_le _⟩) hP hD hS [4] rfl rfl rfl (fun H locs hP hD hS => ?_)
  have hP : va_P D vwCl (qw_M ad cA (qm_M_cs (qm_M_sv (qm_M_fl st (qf_F_startAt st.2.2.2.1 (qf_Pl_of (0 : Int32) (4 * x)) (0 : Int32))) (qf_F_become st.2.2.2.2.1 st.2.2.2.1)) x)) H := hP
  have hD : va_D A (qw_M ad cA (qm_M_cs (qm_M_sv (qm_M_fl st (qf_F_startAt st.2.2.2.1 (qf_Pl_of (0 : Int32) (4 * x)) (0 : Int32))) (qf_F_become st.2.2.2.2.1 st.2.2.2.1)) x)) := hD
  refine W.eq (g2 := F0 m 31 ls []) rfl ?_
  have e9 : (qm_M_cs (qm_M_sv (qm_M_fl st (qf_F_startAt st.2.2.2.1 (qf_Pl_of (0 : Int32) (4 * x)) (0 : Int32))) (qf_F_become st.2.2.2.2.1 st.2.2.2.1)) x) = qf_M_enterTrap st x := rfl
  exact W.vret hx hb hr (fun t ht hW => ⟨rfl, (by rw [ht, ← e9]; exact hP), hS.F ht⟩) hS.2.2 d_M_enterTrap_31
def qf_M_become (st st2 : qs_M) : qs_M :=
  (qm_M_pd (qm_M_cs (qm_M_sv (qm_M_fl (qm_M_dt (qm_M_sp (qm_M_rg st (va_cpy st2.1 st.1 0 0 8)) (va_cpy st2.2.1 st.2.1 0 0 4)) (va_cpy st2.2.2.1 st.2.2.1 0 0 64)) (qf_F_become st.2.2.2.1 st2.2.2.2.1)) (qf_F_become st.2.2.2.2.1 st2.2.2.2.2.1)) st2.2.2.2.2.2.1) st2.2.2.2.2.2.2)
set_option maxHeartbeats 4000000 in
set_option maxRecDepth 100000 in
theorem c_M_become (l : Launch) (D : va_G) (cA : ClassId) (ad ad2 : Nat → Nat) (st st2 : qs_M) : Met l y_M_become (Cond.code y_M_become b_M_become 2 none :: qx_T) ({ frames := 1, cells := 0, slots := 0, locals := 21 }) (qx_Pc D vwCl [(cA, .int)] (qw_M ad cA st ++ qw_M ad2 cA st2) [.ref (ad 0), .ref (ad2 0)]) (qx_Q D vwCl (qw_M ad cA (qf_M_become st st2) ++ qw_M ad2 cA st2) (qx_ad (qw_M ad cA st ++ qw_M ad2 cA st2)) none) 0 0 (qx_ad (qw_M ad cA st ++ qw_M ad2 cA st2)) := by
  refine Met.ofW (cc := b_M_become) (maxL := 2) (ret := none) (by decide) rfl ?_
  intro p e s m args below meth c s₁ B hml hv
  obtain ⟨rfl, hP, hK, hN, hD0⟩ := hv
  have hx := B.exec
  have hb := B.bytes
  have hr := B.returns
  have hts0 := atoms_spec (ws := Cond.code y_M_become b_M_become 2 none :: qx_T) B.pre
  have hts := fun w h => hts0 w (List.mem_cons_of_mem _ h)
  have hown : s.vm.findClass R_M = some m.cls := findClass_of_methodNamed B.named
  have hlocks := B.notSynchronized
  have hD : va_D (qx_ad (qw_M ad cA st ++ qw_M ad2 cA st2)) (qw_M ad cA st ++ qw_M ad2 cA st2) := ⟨hD0.1, fun k q hk => ⟨k, q.2, hk⟩⟩
  generalize hAe : qx_ad (qw_M ad cA st ++ qw_M ad2 cA st2) = A at hD ⊢
  have hS : va_S A s.heap s.heap [] := va_S.rf
  have hl := lv_entry ([.ref (ad 0), .ref (ad2 0)]) (n := 2) (Nat.le_of_ble_eq_true rfl)
  rw [lg_entry_eq]
  generalize (lg_sl ([.ref (ad 0), .ref (ad2 0)]) ++ List.replicate (2 - (lg_sl ([.ref (ad 0), .ref (ad2 0)])).length) Slot.unset).toArray = ls at hl ⊢
  have hl : lv_has ls 2 [(0, .ref (ad 0)), (1, .ref (ad2 0))] := hl
  refine lv_aload_n hx hb d_M_become_0 rfl (lv_at hl 1 rfl) ?_
  refine va_get (D := D) (ci := 1) (v := .ref (ad2 1)) (C := R_M) (T := T_M) (N := 7) hx hb hts in_M hown hK hP 6 rfl rfl 0 (by decide) (hts (Cond.fieldLink R_M 9 "QueuedFronts$Machine" "registers" "[I") mw_95) (fun _ h9 => h9) rfl d_M_become_1 ?_
  refine lv_iconst (v := 0) hx hb d_M_become_4 (by decide) ?_
  refine lv_aload_n hx hb d_M_become_5 rfl (lv_at hl 0 rfl) ?_
  refine va_get (D := D) (ci := 1) (v := .ref (ad 1)) (C := R_M) (T := T_M) (N := 7) hx hb hts in_M hown hK hP 0 rfl rfl 0 (by decide) (hts (Cond.fieldLink R_M 9 "QueuedFronts$Machine" "registers" "[I") mw_95) (fun _ h9 => h9) rfl d_M_become_6 ?_
  refine lv_iconst (v := 0) hx hb d_M_become_9 (by decide) ?_
  refine lv_bipush (v := 8) hx hb d_M_become_10 (by decide) ?_
  refine va_copyi hx hb (by rw [hml]; exact hl.1.symm) hown (hts (Cond.methodLink R_M 42 arraycopyName) mw_357) (hts (.native arraycopyName) mw_359) (hts (.static arraycopyName) mw_358) (hts (.initialized "java/lang/System") mw_36) hK hP hD hS 7 1 0 0 rfl rfl rfl rfl rfl (by decide) (by decide) (by decide) (by decide) (by decide) (fun _ _ => rfl) (Nat.le_of_ble_eq_true rfl) (Nat.le_of_ble_eq_true rfl) d_M_become_12 (fun H locs hP hD hS => ?_)
  have hP : va_P D vwCl (qw_M ad cA (qm_M_rg st (va_cpy st2.1 st.1 0 0 8)) ++ qw_M ad2 cA st2) H := hP
  have hD : va_D A (qw_M ad cA (qm_M_rg st (va_cpy st2.1 st.1 0 0 8)) ++ qw_M ad2 cA st2) := hD
  refine lv_aload_n hx hb d_M_become_15 rfl (lv_at hl 1 rfl) ?_
  refine va_get (D := D) (ci := 1) (v := .ref (ad2 2)) (C := R_M) (T := T_M) (N := 7) hx hb hts in_M hown hK hP 6 rfl rfl 1 (by decide) (hts (Cond.fieldLink R_M 15 "QueuedFronts$Machine" "spaceRegisters" "[I") mw_97) (fun _ h9 => h9) rfl d_M_become_16 ?_
  refine lv_iconst (v := 0) hx hb d_M_become_19 (by decide) ?_
  refine lv_aload_n hx hb d_M_become_20 rfl (lv_at hl 0 rfl) ?_
  refine va_get (D := D) (ci := 1) (v := .ref (ad 2)) (C := R_M) (T := T_M) (N := 7) hx hb hts in_M hown hK hP 0 rfl rfl 1 (by decide) (hts (Cond.fieldLink R_M 15 "QueuedFronts$Machine" "spaceRegisters" "[I") mw_97) (fun _ h9 => h9) rfl d_M_become_21 ?_
  refine lv_iconst (v := 0) hx hb d_M_become_24 (by decide) ?_
  refine lv_iconst (v := 4) hx hb d_M_become_25 (by decide) ?_
  refine va_copyi hx hb (by rw [hml]; exact hl.1.symm) hown (hts (Cond.methodLink R_M 42 arraycopyName) mw_357) (hts (.native arraycopyName) mw_359) (hts (.static arraycopyName) mw_358) (hts (.initialized "java/lang/System") mw_36) hK hP hD hS 8 2 0 0 rfl rfl rfl rfl rfl (by decide) (by decide) (by decide) (by decide) (by decide) (fun _ _ => rfl) (Nat.le_of_ble_eq_true rfl) (Nat.le_of_ble_eq_true rfl) d_M_become_26 (fun H locs hP hD hS => ?_)
  have hP : va_P D vwCl (qw_M ad cA (qm_M_sp (qm_M_rg st (va_cpy st2.1 st.1 0 0 8)) (va_cpy st2.2.1 st.2.1 0 0 4)) ++ qw_M ad2 cA st2) H := hP
  have hD : va_D A (qw_M ad cA (qm_M_sp (qm_M_rg st (va_cpy st2.1 st.1 0 0 8)) (va_cpy st2.2.1 st.2.1 0 0 4)) ++ qw_M ad2 cA st2) := hD
  refine lv_aload_n hx hb d_M_become_29 rfl (lv_at hl 1 rfl) ?_
  refine va_get (D := D) (ci := 1) (v := .ref (ad2 3)) (C := R_M) (T := T_M) (N := 7) hx hb hts in_M hown hK hP 6 rfl rfl 2 (by decide) (hts (Cond.fieldLink R_M 18 "QueuedFronts$Machine" "dataWords" "[I") mw_99) (fun _ h9 => h9) rfl d_M_become_30 ?_
  refine lv_iconst (v := 0) hx hb d_M_become_33 (by decide) ?_
  refine lv_aload_n hx hb d_M_become_34 rfl (lv_at hl 0 rfl) ?_
  refine va_get (D := D) (ci := 1) (v := .ref (ad 3)) (C := R_M) (T := T_M) (N := 7) hx hb hts in_M hown hK hP 0 rfl rfl 2 (by decide) (hts (Cond.fieldLink R_M 18 "QueuedFronts$Machine" "dataWords" "[I") mw_99) (fun _ h9 => h9) rfl d_M_become_35 ?_
  refine lv_iconst (v := 0) hx hb d_M_become_38 (by decide) ?_
  refine lv_bipush (v := 64) hx hb d_M_become_39 (by decide) ?_
  refine va_copyi hx hb (by rw [hml]; exact hl.1.symm) hown (hts (Cond.methodLink R_M 42 arraycopyName) mw_357) (hts (.native arraycopyName) mw_359) (hts (.static arraycopyName) mw_358) (hts (.initialized "java/lang/System") mw_36) hK hP hD hS 9 3 0 0 rfl rfl rfl rfl rfl (by decide) (by decide) (by decide) (by decide) (by decide) (fun _ _ => rfl) (Nat.le_of_ble_eq_true rfl) (Nat.le_of_ble_eq_true rfl) d_M_become_41 (fun H locs hP hD hS => ?_)
  have hP : va_P D vwCl (qw_M ad cA (qm_M_dt (qm_M_sp (qm_M_rg st (va_cpy st2.1 st.1 0 0 8)) (va_cpy st2.2.1 st.2.1 0 0 4)) (va_cpy st2.2.2.1 st.2.2.1 0 0 64)) ++ qw_M ad2 cA st2) H := hP
  have hD : va_D A (qw_M ad cA (qm_M_dt (qm_M_sp (qm_M_rg st (va_cpy st2.1 st.1 0 0 8)) (va_cpy st2.2.1 st.2.1 0 0 4)) (va_cpy st2.2.2.1 st.2.2.1 0 0 64)) ++ qw_M ad2 cA st2) := hD
  refine lv_aload_n hx hb d_M_become_44 rfl (lv_at hl 0 rfl) ?_
  refine va_get (D := D) (ci := 1) (v := .ref (ad 4)) (C := R_M) (T := T_M) (N := 7) hx hb hts in_M hown hK hP 0 rfl rfl 3 (by decide) (hts (Cond.fieldLink R_M 24 "QueuedFronts$Machine" "flow" "LQueuedFronts$Flow;") mw_101) (fun _ h9 => h9) rfl d_M_become_45 ?_
  refine lv_aload_n hx hb d_M_become_48 rfl (lv_at hl 1 rfl) ?_
  refine va_get (D := D) (ci := 1) (v := .ref (ad2 4)) (C := R_M) (T := T_M) (N := 7) hx hb hts in_M hown hK hP 6 rfl rfl 3 (by decide) (hts (Cond.fieldLink R_M 24 "QueuedFronts$Machine" "flow" "LQueuedFronts$Flow;") mw_101) (fun _ h9 => h9) rfl d_M_become_49 ?_
  refine qx_mu (wn := qw_M ad cA (qm_M_fl (qm_M_dt (qm_M_sp (qm_M_rg st (va_cpy st2.1 st.1 0 0 8)) (va_cpy st2.2.1 st.2.1 0 0 4)) (va_cpy st2.2.2.1 st.2.2.1 0 0 64)) (qf_F_become st.2.2.2.1 st2.2.2.2.1)) ++ qw_M ad2 cA st2) (va_runV (As := [.ref (ad2 4)]) (rest := []) ⟨hx, hb, hml, hown, hts⟩ (c_F_become l D cA (ad 4) (ad2 4) st.2.2.2.1 st2.2.2.2.1) (qx_kV hts mw_200 mw_201 mw_202 mw_31 mw_203 cd_F_become ⟨Nat.le_of_ble_eq_true rfl, Nat.le_of_ble_eq_true rfl⟩) (qx_preV (q0 := 4) (ci := 2) (q := (R_F, T_F, 4)) hP hD hK hN [4, 10] rfl rfl rfl rfl) rfl rfl hl.1 rfl (lv_room (Nat.le_of_ble_eq_true rfl)) d_M_become_52 ⟨Nat.zero_le _, Nat.zero_le _⟩) hP hD hS [4, 10] rfl rfl rfl (fun H locs hP hD hS => ?_)
  have hP : va_P D vwCl (qw_M ad cA (qm_M_fl (qm_M_dt (qm_M_sp (qm_M_rg st (va_cpy st2.1 st.1 0 0 8)) (va_cpy st2.2.1 st.2.1 0 0 4)) (va_cpy st2.2.2.1 st.2.2.1 0 0 64)) (qf_F_become st.2.2.2.1 st2.2.2.2.1)) ++ qw_M ad2 cA st2) H := hP
  have hD : va_D A (qw_M ad cA (qm_M_fl (qm_M_dt (qm_M_sp (qm_M_rg st (va_cpy st2.1 st.1 0 0 8)) (va_cpy st2.2.1 st.2.1 0 0 4)) (va_cpy st2.2.2.1 st.2.2.1 0 0 64)) (qf_F_become st.2.2.2.1 st2.2.2.2.1)) ++ qw_M ad2 cA st2) := hD
  refine W.eq (g2 := F0 m 55 ls []) rfl ?_
  refine lv_aload_n hx hb d_M_become_55 rfl (lv_at hl 0 rfl) ?_
  refine va_get (D := D) (ci := 1) (v := .ref (ad 5)) (C := R_M) (T := T_M) (N := 7) hx hb hts in_M hown hK hP 0 rfl rfl 4 (by decide) (hts (Cond.fieldLink R_M 28 "QueuedFronts$Machine" "saved" "LQueuedFronts$Flow;") mw_103) (fun _ h9 => h9) rfl d_M_become_56 ?_
  refine lv_aload_n hx hb d_M_become_59 rfl (lv_at hl 1 rfl) ?_
  refine va_get (D := D) (ci := 1) (v := .ref (ad2 5)) (C := R_M) (T := T_M) (N := 7) hx hb hts in_M hown hK hP 6 rfl rfl 4 (by decide) (hts (Cond.fieldLink R_M 28 "QueuedFronts$Machine" "saved" "LQueuedFronts$Flow;") mw_103) (fun _ h9 => h9) rfl d_M_become_60 ?_
  refine qx_mu (wn := qw_M ad cA (qm_M_sv (qm_M_fl (qm_M_dt (qm_M_sp (qm_M_rg st (va_cpy st2.1 st.1 0 0 8)) (va_cpy st2.2.1 st.2.1 0 0 4)) (va_cpy st2.2.2.1 st.2.2.1 0 0 64)) (qf_F_become st.2.2.2.1 st2.2.2.2.1)) (qf_F_become st.2.2.2.2.1 st2.2.2.2.2.1)) ++ qw_M ad2 cA st2) (va_runV (As := [.ref (ad2 5)]) (rest := []) ⟨hx, hb, hml, hown, hts⟩ (c_F_become l D cA (ad 5) (ad2 5) st.2.2.2.2.1 st2.2.2.2.2.1) (qx_kV hts mw_200 mw_201 mw_202 mw_31 mw_203 cd_F_become ⟨Nat.le_of_ble_eq_true rfl, Nat.le_of_ble_eq_true rfl⟩) (qx_preV (q0 := 5) (ci := 2) (q := (R_F, T_F, 4)) hP hD hK hN [5, 11] rfl rfl rfl rfl) rfl rfl hl.1 rfl (lv_room (Nat.le_of_ble_eq_true rfl)) d_M_become_63 ⟨Nat.zero_le _, Nat.zero_le _⟩) hP hD hS [5, 11] rfl rfl rfl (fun H locs hP hD hS => ?_)
  have hP : va_P D vwCl (qw_M ad cA (qm_M_sv (qm_M_fl (qm_M_dt (qm_M_sp (qm_M_rg st (va_cpy st2.1 st.1 0 0 8)) (va_cpy st2.2.1 st.2.1 0 0 4)) (va_cpy st2.2.2.1 st.2.2.1 0 0 64)) (qf_F_become st.2.2.2.1 st2.2.2.2.1)) (qf_F_become st.2.2.2.2.1 st2.2.2.2.2.1)) ++ qw_M ad2 cA st2) H := hP
  have hD : va_D A (qw_M ad cA (qm_M_sv (qm_M_fl (qm_M_dt (qm_M_sp (qm_M_rg st (va_cpy st2.1 st.1 0 0 8)) (va_cpy st2.2.1 st.2.1 0 0 4)) (va_cpy st2.2.2.1 st.2.2.1 0 0 64)) (qf_F_become st.2.2.2.1 st2.2.2.2.1)) (qf_F_become st.2.2.2.2.1 st2.2.2.2.2.1)) ++ qw_M ad2 cA st2) := hD
  refine W.eq (g2 := F0 m 66 ls []) rfl ?_
  refine lv_aload_n hx hb d_M_become_66 rfl (lv_at hl 0 rfl) ?_
  refine lv_aload_n hx hb d_M_become_67 rfl (lv_at hl 1 rfl) ?_
  refine va_get (D := D) (ci := 1) (v := .int st2.2.2.2.2.2.1) (C := R_M) (T := T_M) (N := 7) hx hb hts in_M hown hK hP 6 rfl rfl 5 (by decide) (hts (Cond.fieldLink R_M 31 "QueuedFronts$Machine" "savedCause" "I") mw_105) (fun _ h9 => h9) rfl d_M_become_68 ?_
  refine va_put (D := D) (ci := 1) (v := .int st2.2.2.2.2.2.1) (ty := .int) (C := R_M) (T := T_M) (N := 7) hx hb hts in_M ty_M tyok_M nm_M hown hK hP hD hS 0 rfl rfl 5 (by decide) (hts (Cond.fieldLink R_M 31 "QueuedFronts$Machine" "savedCause" "I") mw_105) (fun _ h9 => h9) rfl (by decide +kernel) rfl rfl (Nat.le_of_ble_eq_true rfl) d_M_become_71 (fun H locs hP hD hS => ?_)
  have hP : va_P D vwCl (qw_M ad cA (qm_M_cs (qm_M_sv (qm_M_fl (qm_M_dt (qm_M_sp (qm_M_rg st (va_cpy st2.1 st.1 0 0 8)) (va_cpy st2.2.1 st.2.1 0 0 4)) (va_cpy st2.2.2.1 st.2.2.1 0 0 64)) (qf_F_become st.2.2.2.1 st2.2.2.2.1)) (qf_F_become st.2.2.2.2.1 st2.2.2.2.2.1)) st2.2.2.2.2.2.1) ++ qw_M ad2 cA st2) H := hP
  have hD : va_D A (qw_M ad cA (qm_M_cs (qm_M_sv (qm_M_fl (qm_M_dt (qm_M_sp (qm_M_rg st (va_cpy st2.1 st.1 0 0 8)) (va_cpy st2.2.1 st.2.1 0 0 4)) (va_cpy st2.2.2.1 st.2.2.1 0 0 64)) (qf_F_become st.2.2.2.1 st2.2.2.2.1)) (qf_F_become st.2.2.2.2.1 st2.2.2.2.2.1)) st2.2.2.2.2.2.1) ++ qw_M ad2 cA st2) := hD
  refine lv_aload_n hx hb d_M_become_74 rfl (lv_at hl 0 rfl) ?_
  refine lv_aload_n hx hb d_M_become_75 rfl (lv_at hl 1 rfl) ?_
  refine va_get (D := D) (ci := 1) (v := .int st2.2.2.2.2.2.2) (C := R_M) (T := T_M) (N := 7) hx hb hts in_M hown hK hP 6 rfl rfl 6 (by decide) (hts (Cond.fieldLink R_M 35 "QueuedFronts$Machine" "pending" "I") mw_107) (fun _ h9 => h9) rfl d_M_become_76 ?_
  refine va_put (D := D) (ci := 1) (v := .int st2.2.2.2.2.2.2) (ty := .int) (C := R_M) (T := T_M) (N := 7) hx hb hts in_M ty_M tyok_M nm_M hown hK hP hD hS 0 rfl rfl 6 (by decide) (hts (Cond.fieldLink R_M 35 "QueuedFronts$Machine" "pending" "I") mw_107) (fun _ h9 => h9) rfl (by decide +kernel) rfl rfl (Nat.le_of_ble_eq_true rfl) d_M_become_79 (fun H locs hP hD hS => ?_)
  have hP : va_P D vwCl (qw_M ad cA (qm_M_pd (qm_M_cs (qm_M_sv (qm_M_fl (qm_M_dt (qm_M_sp (qm_M_rg st (va_cpy st2.1 st.1 0 0 8)) (va_cpy st2.2.1 st.2.1 0 0 4)) (va_cpy st2.2.2.1 st.2.2.1 0 0 64)) (qf_F_become st.2.2.2.1 st2.2.2.2.1)) (qf_F_become st.2.2.2.2.1 st2.2.2.2.2.1)) st2.2.2.2.2.2.1) st2.2.2.2.2.2.2) ++ qw_M ad2 cA st2) H := hP
  have hD : va_D A (qw_M ad cA (qm_M_pd (qm_M_cs (qm_M_sv (qm_M_fl (qm_M_dt (qm_M_sp (qm_M_rg st (va_cpy st2.1 st.1 0 0 8)) (va_cpy st2.2.1 st.2.1 0 0 4)) (va_cpy st2.2.2.1 st.2.2.1 0 0 64)) (qf_F_become st.2.2.2.1 st2.2.2.2.1)) (qf_F_become st.2.2.2.2.1 st2.2.2.2.2.1)) st2.2.2.2.2.2.1) st2.2.2.2.2.2.2) ++ qw_M ad2 cA st2) := hD
  have e9 : (qm_M_pd (qm_M_cs (qm_M_sv (qm_M_fl (qm_M_dt (qm_M_sp (qm_M_rg st (va_cpy st2.1 st.1 0 0 8)) (va_cpy st2.2.1 st.2.1 0 0 4)) (va_cpy st2.2.2.1 st.2.2.1 0 0 64)) (qf_F_become st.2.2.2.1 st2.2.2.2.1)) (qf_F_become st.2.2.2.2.1 st2.2.2.2.2.1)) st2.2.2.2.2.2.1) st2.2.2.2.2.2.2) = qf_M_become st st2 := rfl
  exact W.vret hx hb hr (fun t ht hW => ⟨rfl, (by rw [ht, ← e9]; exact hP), hS.F ht⟩) hS.2.2 d_M_become_82
