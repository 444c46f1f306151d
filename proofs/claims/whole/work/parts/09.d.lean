def qf_M_reckon (st : qs_M) (w : Int32) : qs_M :=
  if qf_Pa_kind w = 2 then (qm_M_fl (qf_M_setT st w (qf_M_resultOf w (qf_M_valueA st w) (qf_M_valueB st w))) (qf_F_moveOn (qf_M_setT st w (qf_M_resultOf w (qf_M_valueA st w) (qf_M_valueB st w))).2.2.2.1 (qf_Co_holds (qf_Pa_condition w) (qf_M_valueA st w) (qf_M_valueB st w))))
  else if qf_Pa_kind w = 3 then (qm_M_fl (qf_M_setT st w (qf_M_resultOf w (qf_M_valueA st w) (qf_M_valueB st w))) (qf_F_moveOn (qf_M_setT st w (qf_M_resultOf w (qf_M_valueA st w) (qf_M_valueB st w))).2.2.2.1 (qf_Co_holds (qf_Pa_condition w) (qf_M_valueA st w) (qf_M_valueB st w))))
  else if qf_Pa_kind w = 8 then (qm_M_fl (qf_M_setT st w (qf_M_resultOf w (qf_M_valueA st w) (qf_M_valueB st w))) (qf_F_moveOn (qf_M_setT st w (qf_M_resultOf w (qf_M_valueA st w) (qf_M_valueB st w))).2.2.2.1 (qf_Co_holds (qf_Pa_condition w) (qf_M_valueA st w) (qf_M_valueB st w))))
  else (qm_M_fl (qf_M_setT st w (qf_M_resultOf w (qf_M_valueA st w) (qf_M_valueB st w))) (qf_F_moveOn (qf_M_setT st w (qf_M_resultOf w (qf_M_valueA st w) (qf_M_valueB st w))).2.2.2.1 (qf_Co_holds (qf_Pa_condition w) (qf_M_resultOf w (qf_M_valueA st w) (qf_M_valueB st w)) (0 : Int32))))
set_option maxHeartbeats 4000000 in
set_option maxRecDepth 100000 in
theorem c_M_reckon (l : Launch) (D : va_G) (cA : ClassId) (ad : Nat → Nat) (st : qs_M) (w : Int32) : Met l y_M_reckon (Cond.code y_M_reckon b_M_reckon 8 none :: qx_T) ({ frames := 3, cells := 0, slots := 0, locals := 62 }) (qx_Pc D vwCl [(cA, .int)] (qw_M ad cA st) [.ref (ad 0), .int w]) (qx_Q D vwCl (qw_M ad cA (qf_M_reckon st w)) (qx_ad (qw_M ad cA st)) none) 0 0 (qx_ad (qw_M ad cA st)) := by
  refine Met.ofW (cc := b_M_reckon) (maxL := 8) (ret := none) (by decide) rfl ?_
  intro p e s m args below meth c s₁ B hml hv
  obtain ⟨rfl, hP, hK, hN, hD0⟩ := hv
  have hx := B.exec
  have hb := B.bytes
  have hr := B.returns
  have hts0 := atoms_spec (ws := Cond.code y_M_reckon b_M_reckon 8 none :: qx_T) B.pre
  have hts := fun w h => hts0 w (List.mem_cons_of_mem _ h)
  have hown : s.vm.findClass R_M = some m.cls := findClass_of_methodNamed B.named
  have hlocks := B.notSynchronized
  have hD : va_D (qx_ad (qw_M ad cA st)) (qw_M ad cA st) := ⟨hD0.1, fun k q hk => ⟨k, q.2, hk⟩⟩
  generalize hAe : qx_ad (qw_M ad cA st) = A at hD ⊢
  have hS : va_S A s.heap s.heap [] := va_S.rf
  have hl := lv_entry ([.ref (ad 0), .int w]) (n := 8) (Nat.le_of_ble_eq_true rfl)
  rw [lg_entry_eq]
  generalize (lg_sl ([.ref (ad 0), .int w]) ++ List.replicate (8 - (lg_sl ([.ref (ad 0), .int w])).length) Slot.unset).toArray = ls at hl ⊢
  have hl : lv_has ls 8 [(0, .ref (ad 0)), (1, .int w)] := hl
  refine lv_iload_n hx hb d_M_reckon_0 rfl (lv_at hl 1 rfl) ?_
  refine qx_rd (va_runS (As := [.int w]) (rest := []) ⟨hx, hb, hml, hown, hts⟩ (c_Pa_kind l D cA w) (qx_kS hts mw_217 mw_218 mw_34 mw_219 cd_Pa_kind ⟨Nat.le_of_ble_eq_true rfl, Nat.le_of_ble_eq_true rfl⟩) (qx_preS hP hD hK hN [] rfl rfl) rfl rfl hl.1 rfl (lv_room (Nat.le_of_ble_eq_true rfl)) d_M_reckon_1 ⟨Nat.zero_le _, Nat.zero_le _⟩) ?_
  refine lv_istore_n (lv' := [(2, .int (qf_Pa_kind w)), (0, .ref (ad 0)), (1, .int w)]) hx hb d_M_reckon_4 rfl hl (by decide) rfl (fun ls hl => ?_)
  refine lv_aload_n hx hb d_M_reckon_5 rfl (lv_at hl 1 rfl) ?_
  refine lv_iload_n hx hb d_M_reckon_6 rfl (lv_at hl 2 rfl) ?_
  refine qx_rd (va_runV (As := [.int w]) (rest := []) ⟨hx, hb, hml, hown, hts⟩ (c_M_valueA l D cA ad st w) (qx_kV hts mw_220 mw_222 mw_2 mw_30 mw_223 cd_M_valueA ⟨Nat.le_of_ble_eq_true rfl, Nat.le_of_ble_eq_true rfl⟩) (qx_preV (q0 := 0) (ci := 1) (q := (R_M, T_M, 7)) hP hD hK hN [0, 1, 2, 3, 4, 5] rfl rfl rfl rfl) rfl rfl hl.1 rfl (lv_room (Nat.le_of_ble_eq_true rfl)) d_M_reckon_7 ⟨Nat.zero_le _, Nat.zero_le _⟩) ?_
  refine lv_istore_n (lv' := [(3, .int (qf_M_valueA st w)), (2, .int (qf_Pa_kind w)), (0, .ref (ad 0)), (1, .int w)]) hx hb d_M_reckon_10 rfl hl (by decide) rfl (fun ls hl => ?_)
  refine lv_aload_n hx hb d_M_reckon_11 rfl (lv_at hl 2 rfl) ?_
  refine lv_iload_n hx hb d_M_reckon_12 rfl (lv_at hl 3 rfl) ?_
  refine qx_rd (va_runV (As := [.int w]) (rest := []) ⟨hx, hb, hml, hown, hts⟩ (c_M_valueB l D cA ad st w) (qx_kV hts mw_227 mw_229 mw_3 mw_30 mw_230 cd_M_valueB ⟨Nat.le_of_ble_eq_true rfl, Nat.le_of_ble_eq_true rfl⟩) (qx_preV (q0 := 0) (ci := 1) (q := (R_M, T_M, 7)) hP hD hK hN [0, 1, 2, 3, 4, 5] rfl rfl rfl rfl) rfl rfl hl.1 rfl (lv_room (Nat.le_of_ble_eq_true rfl)) d_M_reckon_13 ⟨Nat.zero_le _, Nat.zero_le _⟩) ?_
  refine lv_istore (lv' := [(4, .int (qf_M_valueB st w)), (3, .int (qf_M_valueA st w)), (2, .int (qf_Pa_kind w)), (0, .ref (ad 0)), (1, .int w)]) hx hb d_M_reckon_16 hl (by decide) rfl (fun ls hl => ?_)
  refine lv_iload_n hx hb d_M_reckon_18 rfl (lv_at hl 4 rfl) ?_
  refine lv_iload_n hx hb d_M_reckon_19 rfl (lv_at hl 1 rfl) ?_
  refine lv_iload hx hb d_M_reckon_20 (lv_at hl 0 rfl) ?_
  refine qx_rd (va_runS (As := [.int w, .int (qf_M_valueA st w), .int (qf_M_valueB st w)]) (rest := []) ⟨hx, hb, hml, hown, hts⟩ (c_M_resultOf l D cA w (qf_M_valueA st w) (qf_M_valueB st w)) (qx_kS hts mw_249 mw_250 mw_30 mw_251 cd_M_resultOf ⟨Nat.le_of_ble_eq_true rfl, Nat.le_of_ble_eq_true rfl⟩) (qx_preS hP hD hK hN [] rfl rfl) rfl rfl hl.1 rfl (lv_room (Nat.le_of_ble_eq_true rfl)) d_M_reckon_22 ⟨Nat.zero_le _, Nat.zero_le _⟩) ?_
  refine lv_istore (lv' := [(5, .int (qf_M_resultOf w (qf_M_valueA st w) (qf_M_valueB st w))), (4, .int (qf_M_valueB st w)), (3, .int (qf_M_valueA st w)), (2, .int (qf_Pa_kind w)), (0, .ref (ad 0)), (1, .int w)]) hx hb d_M_reckon_25 hl (by decide) rfl (fun ls hl => ?_)
  refine lv_iload_n hx hb d_M_reckon_27 rfl (lv_at hl 3 rfl) ?_
  refine lv_iconst (v := 2) hx hb d_M_reckon_28 (by decide) ?_
  refine lv_icmp_eq (tgt := 43) hx hb d_M_reckon_29 (by decide) (fun h1 => ?_) (fun h1 => ?_)
  · have h1 : qf_Pa_kind w = 2 := h1
    refine lv_iconst (v := 1) hx hb d_M_reckon_43 (by decide) ?_
    refine lv_goto (tgt := 48) hx hb d_M_reckon_44 (by decide) ?_
    refine lv_istore (lv' := [(6, .int 1), (5, .int (qf_M_resultOf w (qf_M_valueA st w) (qf_M_valueB st w))), (4, .int (qf_M_valueB st w)), (3, .int (qf_M_valueA st w)), (2, .int (qf_Pa_kind w)), (0, .ref (ad 0)), (1, .int w)]) hx hb d_M_reckon_48 hl (by decide) rfl (fun ls hl => ?_)
    refine lv_iload hx hb d_M_reckon_50 (lv_at hl 0 rfl) ?_
    refine lv_if_eq (tgt := 68) hx hb d_M_reckon_52 (by decide) (fun h => False.elim (by revert h; decide)) (fun _ => ?_)
    refine lv_iload_n hx hb d_M_reckon_55 rfl (lv_at hl 6 rfl) ?_
    refine qx_rd (va_runS (As := [.int w]) (rest := []) ⟨hx, hb, hml, hown, hts⟩ (c_Pa_condition l D cA w) (qx_kS hts mw_258 mw_259 mw_34 mw_260 cd_Pa_condition ⟨Nat.le_of_ble_eq_true rfl, Nat.le_of_ble_eq_true rfl⟩) (qx_preS hP hD hK hN [] rfl rfl) rfl rfl hl.1 rfl (lv_room (Nat.le_of_ble_eq_true rfl)) d_M_reckon_56 ⟨Nat.zero_le _, Nat.zero_le _⟩) ?_
    refine lv_iload_n hx hb d_M_reckon_59 rfl (lv_at hl 3 rfl) ?_
    refine lv_iload hx hb d_M_reckon_60 (lv_at hl 2 rfl) ?_
    refine qx_rd (va_runS (As := [.int (qf_Pa_condition w), .int (qf_M_valueA st w), .int (qf_M_valueB st w)]) (rest := []) ⟨hx, hb, hml, hown, hts⟩ (c_Co_holds l D cA (qf_Pa_condition w) (qf_M_valueA st w) (qf_M_valueB st w)) (qx_kS hts mw_261 mw_262 mw_35 mw_263 cd_Co_holds ⟨Nat.le_of_ble_eq_true rfl, Nat.le_of_ble_eq_true rfl⟩) (qx_preS hP hD hK hN [] rfl rfl) rfl rfl hl.1 rfl (lv_room (Nat.le_of_ble_eq_true rfl)) d_M_reckon_62 ⟨Nat.zero_le _, Nat.zero_le _⟩) ?_
    refine lv_goto (tgt := 78) hx hb d_M_reckon_65 (by decide) ?_
    refine lv_istore (lv' := [(7, .int (qf_Co_holds (qf_Pa_condition w) (qf_M_valueA st w) (qf_M_valueB st w))), (6, .int 1), (5, .int (qf_M_resultOf w (qf_M_valueA st w) (qf_M_valueB st w))), (4, .int (qf_M_valueB st w)), (3, .int (qf_M_valueA st w)), (2, .int (qf_Pa_kind w)), (0, .ref (ad 0)), (1, .int w)]) hx hb d_M_reckon_78 hl (by decide) rfl (fun ls hl => ?_)
    refine lv_aload_n hx hb d_M_reckon_80 rfl (lv_at hl 6 rfl) ?_
    refine lv_iload_n hx hb d_M_reckon_81 rfl (lv_at hl 7 rfl) ?_
    refine lv_iload hx hb d_M_reckon_82 (lv_at hl 2 rfl) ?_
    refine qx_muZ (T := qf_M_setT st w (qf_M_resultOf w (qf_M_valueA st w) (qf_M_valueB st w))) (Wf := fun zz : qs_M => qw_M ad cA zz) (vf := fun _ => none) (va_runV (As := [.int w, .int (qf_M_resultOf w (qf_M_valueA st w) (qf_M_valueB st w))]) (rest := []) ⟨hx, hb, hml, hown, hts⟩ (c_M_setT l D cA ad st w (qf_M_resultOf w (qf_M_valueA st w) (qf_M_valueB st w))) (qx_kV hts mw_268 mw_270 mw_5 mw_30 mw_271 cd_M_setT ⟨Nat.le_of_ble_eq_true rfl, Nat.le_of_ble_eq_true rfl⟩) (qx_preV (q0 := 0) (ci := 1) (q := (R_M, T_M, 7)) hP hD hK hN [0, 1, 2, 3, 4, 5] rfl rfl rfl rfl) rfl rfl hl.1 rfl (lv_room (Nat.le_of_ble_eq_true rfl)) d_M_reckon_84 ⟨Nat.zero_le _, Nat.zero_le _⟩) hP hD hS [0, 1, 2, 3, 4, 5] rfl rfl [ad 0, ad 1, ad 2, ad 3, ad 4, ad 5] rfl rfl (fun zz1 hzz1 H locs hP hD hS => ?_)
    have hP : va_P D vwCl (qw_M ad cA zz1) H := hP
    have hD : va_D A (qw_M ad cA zz1) := hD
    refine W.eq (g2 := F0 m 87 ls []) rfl ?_
    refine lv_aload_n hx hb d_M_reckon_87 rfl (lv_at hl 6 rfl) ?_
    refine va_get (D := D) (ci := 1) (v := .ref (ad 4)) (C := R_M) (T := T_M) (N := 7) hx hb hts in_M hown hK hP 0 rfl rfl 3 (by decide) (hts (Cond.fieldLink R_M 24 "QueuedFronts$Machine" "flow" "LQueuedFronts$Flow;") mw_101) (fun _ h9 => h9) rfl d_M_reckon_88 ?_
    refine lv_iload hx hb d_M_reckon_91 (lv_at hl 0 rfl) ?_
    refine qx_muZ (T := qf_F_moveOn zz1.2.2.2.1 (qf_Co_holds (qf_Pa_condition w) (qf_M_valueA st w) (qf_M_valueB st w))) (Wf := fun zz : qs_F => qw_M ad cA (qm_M_fl zz1 zz)) (vf := fun _ => none) (va_runV (As := [.int (qf_Co_holds (qf_Pa_condition w) (qf_M_valueA st w) (qf_M_valueB st w))]) (rest := []) ⟨hx, hb, hml, hown, hts⟩ (c_F_moveOn l D cA (ad 4) zz1.2.2.2.1 (qf_Co_holds (qf_Pa_condition w) (qf_M_valueA st w) (qf_M_valueB st w))) (qx_kV hts mw_275 mw_206 mw_207 mw_31 mw_208 cd_F_moveOn ⟨Nat.le_of_ble_eq_true rfl, Nat.le_of_ble_eq_true rfl⟩) (qx_preV (q0 := 4) (ci := 2) (q := (R_F, T_F, 4)) hP hD hK hN [4] rfl rfl rfl rfl) rfl rfl hl.1 rfl (lv_room (Nat.le_of_ble_eq_true rfl)) d_M_reckon_93 ⟨Nat.zero_le _, Nat.zero_le _⟩) hP hD hS [4] rfl rfl [ad 0, ad 1, ad 2, ad 3, ad 4, ad 5] rfl rfl (fun zz2 hzz2 H locs hP hD hS => ?_)
    have hP : va_P D vwCl (qw_M ad cA (qm_M_fl zz1 zz2)) H := hP
    have hD : va_D A (qw_M ad cA (qm_M_fl zz1 zz2)) := hD
    refine W.eq (g2 := F0 m 96 ls []) rfl ?_
    subst hzz2
    subst hzz1
    have e9 : (qm_M_fl (qf_M_setT st w (qf_M_resultOf w (qf_M_valueA st w) (qf_M_valueB st w))) (qf_F_moveOn (qf_M_setT st w (qf_M_resultOf w (qf_M_valueA st w) (qf_M_valueB st w))).2.2.2.1 (qf_Co_holds (qf_Pa_condition w) (qf_M_valueA st w) (qf_M_valueB st w)))) = qf_M_reckon st w := (by unfold qf_M_reckon; rw [if_pos h1])
    exact W.vret hx hb hr (fun t ht hW => ⟨rfl, (by rw [ht, ← e9]; exact hP), hS.F ht⟩) hS.2.2 d_M_reckon_96
  · have h1 : ¬ (qf_Pa_kind w = 2) := h1
    refine lv_iload_n hx hb d_M_reckon_32 rfl (lv_at hl 3 rfl) ?_
    refine lv_iconst (v := 3) hx hb d_M_reckon_33 (by decide) ?_
    refine lv_icmp_eq (tgt := 43) hx hb d_M_reckon_34 (by decide) (fun h2 => ?_) (fun h2 => ?_)
    · have h2 : qf_Pa_kind w = 3 := h2
      refine lv_iconst (v := 1) hx hb d_M_reckon_43 (by decide) ?_
      refine lv_goto (tgt := 48) hx hb d_M_reckon_44 (by decide) ?_
      refine lv_istore (lv' := [(6, .int 1), (5, .int (qf_M_resultOf w (qf_M_valueA st w) (qf_M_valueB st w))), (4, .int (qf_M_valueB st w)), (3, .int (qf_M_valueA st w)), (2, .int (qf_Pa_kind w)), (0, .ref (ad 0)), (1, .int w)]) hx hb d_M_reckon_48 hl (by decide) rfl (fun ls hl => ?_)
      refine lv_iload hx hb d_M_reckon_50 (lv_at hl 0 rfl) ?_
      refine lv_if_eq (tgt := 68) hx hb d_M_reckon_52 (by decide) (fun h => False.elim (by revert h; decide)) (fun _ => ?_)
      refine lv_iload_n hx hb d_M_reckon_55 rfl (lv_at hl 6 rfl) ?_
      refine qx_rd (va_runS (As := [.int w]) (rest := []) ⟨hx, hb, hml, hown, hts⟩ (c_Pa_condition l D cA w) (qx_kS hts mw_258 mw_259 mw_34 mw_260 cd_Pa_condition ⟨Nat.le_of_ble_eq_true rfl, Nat.le_of_ble_eq_true rfl⟩) (qx_preS hP hD hK hN [] rfl rfl) rfl rfl hl.1 rfl (lv_room (Nat.le_of_ble_eq_true rfl)) d_M_reckon_56 ⟨Nat.zero_le _, Nat.zero_le _⟩) ?_
      refine lv_iload_n hx hb d_M_reckon_59 rfl (lv_at hl 3 rfl) ?_
      refine lv_iload hx hb d_M_reckon_60 (lv_at hl 2 rfl) ?_
      refine qx_rd (va_runS (As := [.int (qf_Pa_condition w), .int (qf_M_valueA st w), .int (qf_M_valueB st w)]) (rest := []) ⟨hx, hb, hml, hown, hts⟩ (c_Co_holds l D cA (qf_Pa_condition w) (qf_M_valueA st w) (qf_M_valueB st w)) (qx_kS hts mw_261 mw_262 mw_35 mw_263 cd_Co_holds ⟨Nat.le_of_ble_eq_true rfl, Nat.le_of_ble_eq_true rfl⟩) (qx_preS hP hD hK hN [] rfl rfl) rfl rfl hl.1 rfl (lv_room (Nat.le_of_ble_eq_true rfl)) d_M_reckon_62 ⟨Nat.zero_le _, Nat.zero_le _⟩) ?_
      refine lv_goto (tgt := 78) hx hb d_M_reckon_65 (by decide) ?_
      refine lv_istore (lv' := [(7, .int (qf_Co_holds (qf_Pa_condition w) (qf_M_valueA st w) (qf_M_valueB st w))), (6, .int 1), (5, .int (qf_M_resultOf w (qf_M_valueA st w) (qf_M_valueB st w))), (4, .int (qf_M_valueB st w)), (3, .int (qf_M_valueA st w)), (2, .int (qf_Pa_kind w)), (0, .ref (ad 0)), (1, .int w)]) hx hb d_M_reckon_78 hl (by decide) rfl (fun ls hl => ?_)
      refine lv_aload_n hx hb d_M_reckon_80 rfl (lv_at hl 6 rfl) ?_
      refine lv_iload_n hx hb d_M_reckon_81 rfl (lv_at hl 7 rfl) ?_
      refine lv_iload hx hb d_M_reckon_82 (lv_at hl 2 rfl) ?_
      refine qx_muZ (T := qf_M_setT st w (qf_M_resultOf w (qf_M_valueA st w) (qf_M_valueB st w))) (Wf := fun zz : qs_M => qw_M ad cA zz) (vf := fun _ => none) (va_runV (As := [.int w, .int (qf_M_resultOf w (qf_M_valueA st w) (qf_M_valueB st w))]) (rest := []) ⟨hx, hb, hml, hown, hts⟩ (c_M_setT l D cA ad st w (qf_M_resultOf w (qf_M_valueA st w) (qf_M_valueB st w))) (qx_kV hts mw_268 mw_270 mw_5 mw_30 mw_271 cd_M_setT ⟨Nat.le_of_ble_eq_true rfl, Nat.le_of_ble_eq_true rfl⟩) (qx_preV (q0 := 0) (ci := 1) (q := (R_M, T_M, 7)) hP hD hK hN [0, 1, 2, 3, 4, 5] rfl rfl rfl rfl) rfl rfl hl.1 rfl (lv_room (Nat.le_of_ble_eq_true rfl)) d_M_reckon_84 ⟨Nat.zero_le _, Nat.zero_le _⟩) hP hD hS [0, 1, 2, 3, 4, 5] rfl rfl [ad 0, ad 1, ad 2, ad 3, ad 4, ad 5] rfl rfl (fun zz1 hzz1 H locs hP hD hS => ?_)
      have hP : va_P D vwCl (qw_M ad cA zz1) H := hP
      have hD : va_D A (qw_M ad cA zz1) := hD
      refine W.eq (g2 := F0 m 87 ls []) rfl ?_
      refine lv_aload_n hx hb d_M_reckon_87 rfl (lv_at hl 6 rfl) ?_
      refine va_get (D := D) (ci := 1) (v := .ref (ad 4)) (C := R_M) (T := T_M) (N := 7) hx hb hts in_M hown hK hP 0 rfl rfl 3 (by decide) (hts (Cond.fieldLink R_M 24 "QueuedFronts$Machine" "flow" "LQueuedFronts$Flow;") mw_101) (fun _ h9 => h9) rfl d_M_reckon_88 ?_
      refine lv_iload hx hb d_M_reckon_91 (lv_at hl 0 rfl) ?_
      refine qx_muZ (T := qf_F_moveOn zz1.2.2.2.1 (qf_Co_holds (qf_Pa_condition w) (qf_M_valueA st w) (qf_M_valueB st w))) (Wf := fun zz : qs_F => qw_M ad cA (qm_M_fl zz1 zz)) (vf := fun _ => none) (va_runV (As := [.int (qf_Co_holds (qf_Pa_condition w) (qf_M_valueA st w) (qf_M_valueB st w))]) (rest := []) ⟨hx, hb, hml, hown, hts⟩ (c_F_moveOn l D cA (ad 4) zz1.2.2.2.1 (qf_Co_holds (qf_Pa_condition w) (qf_M_valueA st w) (qf_M_valueB st w))) (qx_kV hts mw_275 mw_206 mw_207 mw_31 mw_208 cd_F_moveOn ⟨Nat.le_of_ble_eq_true rfl, Nat.le_of_ble_eq_true rfl⟩) (qx_preV (q0 := 4) (ci := 2) (q := (R_F, T_F, 4)) hP hD hK hN [4] rfl rfl rfl rfl) rfl rfl hl.1 rfl (lv_room (Nat.le_of_ble_eq_true rfl)) d_M_reckon_93 ⟨Nat.zero_le _, Nat.zero_le _⟩) hP hD hS [4] rfl rfl [ad 0, ad 1, ad 2, ad 3, ad 4, ad 5] rfl rfl (fun zz2 hzz2 H locs hP hD hS => ?_)
      have hP : va_P D vwCl (qw_M ad cA (qm_M_fl zz1 zz2)) H := hP
      have hD : va_D A (qw_M ad cA (qm_M_fl zz1 zz2)) := hD
      refine W.eq (g2 := F0 m 96 ls []) rfl ?_
      subst hzz2
      subst hzz1
      have e9 : (qm_M_fl (qf_M_setT st w (qf_M_resultOf w (qf_M_valueA st w) (qf_M_valueB st w))) (qf_F_moveOn (qf_M_setT st w (qf_M_resultOf w (qf_M_valueA st w) (qf_M_valueB st w))).2.2.2.1 (qf_Co_holds (qf_Pa_condition w) (qf_M_valueA st w) (qf_M_valueB st w)))) = qf_M_reckon st w := (by unfold qf_M_reckon; rw [if_neg h1, if_pos h2])
      exact W.vret hx hb hr (fun t ht hW => ⟨rfl, (by rw [ht, ← e9]; exact hP), hS.F ht⟩) hS.2.2 d_M_reckon_96
    · have h2 : ¬ (qf_Pa_kind w = 3) := h2
      refine lv_iload_n hx hb d_M_reckon_37 rfl (lv_at hl 3 rfl) ?_
      refine lv_bipush (v := 8) hx hb d_M_reckon_38 (by decide) ?_
      refine lv_icmp_ne (tgt := 47) hx hb d_M_reckon_40 (by decide) (fun h3 => ?_) (fun h3 => ?_)
      · have h3 : ¬ (qf_Pa_kind w = 8) := h3
        refine lv_iconst (v := 0) hx hb d_M_reckon_47 (by decide) ?_
        refine lv_istore (lv' := [(6, .int 0), (5, .int (qf_M_resultOf w (qf_M_valueA st w) (qf_M_valueB st w))), (4, .int (qf_M_valueB st w)), (3, .int (qf_M_valueA st w)), (2, .int (qf_Pa_kind w)), (0, .ref (ad 0)), (1, .int w)]) hx hb d_M_reckon_48 hl (by decide) rfl (fun ls hl => ?_)
        refine lv_iload hx hb d_M_reckon_50 (lv_at hl 0 rfl) ?_
        refine lv_if_eq (tgt := 68) hx hb d_M_reckon_52 (by decide) (fun _ => ?_) (fun h => False.elim (by revert h; decide))
        refine lv_iload_n hx hb d_M_reckon_68 rfl (lv_at hl 6 rfl) ?_
        refine qx_rd (va_runS (As := [.int w]) (rest := []) ⟨hx, hb, hml, hown, hts⟩ (c_Pa_condition l D cA w) (qx_kS hts mw_258 mw_259 mw_34 mw_260 cd_Pa_condition ⟨Nat.le_of_ble_eq_true rfl, Nat.le_of_ble_eq_true rfl⟩) (qx_preS hP hD hK hN [] rfl rfl) rfl rfl hl.1 rfl (lv_room (Nat.le_of_ble_eq_true rfl)) d_M_reckon_69 ⟨Nat.zero_le _, Nat.zero_le _⟩) ?_
        refine lv_iload hx hb d_M_reckon_72 (lv_at hl 1 rfl) ?_
        refine lv_iconst (v := 0) hx hb d_M_reckon_74 (by decide) ?_
        refine qx_rd (va_runS (As := [.int (qf_Pa_condition w), .int (qf_M_resultOf w (qf_M_valueA st w) (qf_M_valueB st w)), .int 0]) (rest := []) ⟨hx, hb, hml, hown, hts⟩ (c_Co_holds l D cA (qf_Pa_condition w) (qf_M_resultOf w (qf_M_valueA st w) (qf_M_valueB st w)) 0) (qx_kS hts mw_261 mw_262 mw_35 mw_263 cd_Co_holds ⟨Nat.le_of_ble_eq_true rfl, Nat.le_of_ble_eq_true rfl⟩) (qx_preS hP hD hK hN [] rfl rfl) rfl rfl hl.1 rfl (lv_room (Nat.le_of_ble_eq_true rfl)) d_M_reckon_75 ⟨Nat.zero_le _, Nat.zero_le _⟩) ?_
        refine lv_istore (lv' := [(7, .int (qf_Co_holds (qf_Pa_condition w) (qf_M_resultOf w (qf_M_valueA st w) (qf_M_valueB st w)) (0 : Int32))), (6, .int 0), (5, .int (qf_M_resultOf w (qf_M_valueA st w) (qf_M_valueB st w))), (4, .int (qf_M_valueB st w)), (3, .int (qf_M_valueA st w)), (2, .int (qf_Pa_kind w)), (0, .ref (ad 0)), (1, .int w)]) hx hb d_M_reckon_78 hl (by decide) rfl (fun ls hl => ?_)
        refine lv_aload_n hx hb d_M_reckon_80 rfl (lv_at hl 6 rfl) ?_
        refine lv_iload_n hx hb d_M_reckon_81 rfl (lv_at hl 7 rfl) ?_
        refine lv_iload hx hb d_M_reckon_82 (lv_at hl 2 rfl) ?_
        refine qx_muZ (T := qf_M_setT st w (qf_M_resultOf w (qf_M_valueA st w) (qf_M_valueB st w))) (Wf := fun zz : qs_M => qw_M ad cA zz) (vf := fun _ => none) (va_runV (As := [.int w, .int (qf_M_resultOf w (qf_M_valueA st w) (qf_M_valueB st w))]) (rest := []) ⟨hx, hb, hml, hown, hts⟩ (c_M_setT l D cA ad st w (qf_M_resultOf w (qf_M_valueA st w) (qf_M_valueB st w))) (qx_kV hts mw_268 mw_270 mw_5 mw_30 mw_271 cd_M_setT ⟨Nat.le_of_ble_eq_true rfl, Nat.le_of_ble_eq_true rfl⟩) (qx_preV (q0 := 0) (ci := 1) (q := (R_M, T_M, 7)) hP hD hK hN [0, 1, 2, 3, 4, 5] rfl rfl rfl rfl) rfl rfl hl.1 rfl (lv_room (Nat.le_of_ble_eq_true rfl)) d_M_reckon_84 ⟨Nat.zero_le _, Nat.zero_le _⟩) hP hD hS [0, 1, 2, 3, 4, 5] rfl rfl [ad 0, ad 1, ad 2, ad 3, ad 4, ad 5] rfl rfl (fun zz1 hzz1 H locs hP hD hS => ?_)
        have hP : va_P D vwCl (qw_M ad cA zz1) H := hP
        have hD : va_D A (qw_M ad cA zz1) := hD
        refine W.eq (g2 := F0 m 87 ls []) rfl ?_
        refine lv_aload_n hx hb d_M_reckon_87 rfl (lv_at hl 6 rfl) ?_
        refine va_get (D := D) (ci := 1) (v := .ref (ad 4)) (C := R_M) (T := T_M) (N := 7) hx hb hts in_M hown hK hP 0 rfl rfl 3 (by decide) (hts (Cond.fieldLink R_M 24 "QueuedFronts$Machine" "flow" "LQueuedFronts$Flow;") mw_101) (fun _ h9 => h9) rfl d_M_reckon_88 ?_
        refine lv_iload hx hb d_M_reckon_91 (lv_at hl 0 rfl) ?_
        refine qx_muZ (T := qf_F_moveOn zz1.2.2.2.1 (qf_Co_holds (qf_Pa_condition w) (qf_M_resultOf w (qf_M_valueA st w) (qf_M_valueB st w)) (0 : Int32))) (Wf := fun zz : qs_F => qw_M ad cA (qm_M_fl zz1 zz)) (vf := fun _ => none) (va_runV (As := [.int (qf_Co_holds (qf_Pa_condition w) (qf_M_resultOf w (qf_M_valueA st w) (qf_M_valueB st w)) (0 : Int32))]) (rest := []) ⟨hx, hb, hml, hown, hts⟩ (c_F_moveOn l D cA (ad 4) zz1.2.2.2.1 (qf_Co_holds (qf_Pa_condition w) (qf_M_resultOf w (qf_M_valueA st w) (qf_M_valueB st w)) (0 : Int32))) (qx_kV hts mw_275 mw_206 mw_207 mw_31 mw_208 cd_F_moveOn ⟨Nat.le_of_ble_eq_true rfl, Nat.le_of_ble_eq_true rfl⟩) (qx_preV (q0 := 4) (ci := 2) (q := (R_F, T_F, 4)) hP hD hK hN [4] rfl rfl rfl rfl) rfl rfl hl.1 rfl (lv_room (Nat.le_of_ble_eq_true rfl)) d_M_reckon_93 ⟨Nat.zero_le _, Nat.zero_le _⟩) hP hD hS [4] rfl rfl [ad 0, ad 1, ad 2, ad 3, ad 4, ad 5] rfl rfl (fun zz2 hzz2 H locs hP hD hS => ?_)
        have hP : va_P D vwCl (qw_M ad cA (qm_M_fl zz1 zz2)) H := hP
        have hD : va_D A (qw_M ad cA (qm_M_fl zz1 zz2)) := hD
        refine W.eq (g2 := F0 m 96 ls []) rfl ?_
        subst hzz2
        subst hzz1
        have e9 : (qm_M_fl (qf_M_setT st w (qf_M_resultOf w (qf_M_valueA st w) (qf_M_valueB st w))) (qf_F_moveOn (qf_M_setT st w (qf_M_resultOf w (qf_M_valueA st w) (qf_M_valueB st w))).2.2.2.1 (qf_Co_holds (qf_Pa_condition w) (qf_M_resultOf w (qf_M_valueA st w) (qf_M_valueB st w)) (0 : Int32)))) = qf_M_reckon st w := (by unfold qf_M_reckon; rw [if_neg h1, if_neg h2, if_neg h3])
        exact W.vret hx hb hr (fun t ht hW => ⟨rfl, (by rw [ht, ← e9]; exact hP), hS.F ht⟩) hS.2.2 d_M_reckon_96
      · have h3 : qf_Pa_kind w = 8 := h3
        refine lv_iconst (v := 1) hx hb d_M_reckon_43 (by decide) ?_
        refine lv_goto (tgt := 48) hx hb d_M_reckon_44 (by decide) ?_
        refine lv_istore (lv' := [(6, .int 1), (5, .int (qf_M_resultOf w (qf_M_valueA st w) (qf_M_valueB st w))), (4, .int (qf_M_valueB st w)), (3, .int (qf_M_valueA st w)), (2, .int (qf_Pa_kind w)), (0, .ref (ad 0)), (1, .int w)]) hx hb d_M_reckon_48 hl (by decide) rfl (fun ls hl => ?_)
        refine lv_iload hx hb d_M_reckon_50 (lv_at hl 0 rfl) ?_
        refine lv_if_eq (tgt := 68) hx hb d_M_reckon_52 (by decide) (fun h => False.elim (by revert h; decide)) (fun _ => ?_)
        refine lv_iload_n hx hb d_M_reckon_55 rfl (lv_at hl 6 rfl) ?_
        refine qx_rd (va_runS (As := [.int w]) (rest := []) ⟨hx, hb, hml, hown, hts⟩ (c_Pa_condition l D cA w) (qx_kS hts mw_258 mw_259 mw_34 mw_260 cd_Pa_condition ⟨Nat.le_of_ble_eq_true rfl, Nat.le_of_ble_eq_true rfl⟩) (qx_preS hP hD hK hN [] rfl rfl) rfl rfl hl.1 rfl (lv_room (Nat.le_of_ble_eq_true rfl)) d_M_reckon_56 ⟨Nat.zero_le _, Nat.zero_le _⟩) ?_
        refine lv_iload_n hx hb d_M_reckon_59 rfl (lv_at hl 3 rfl) ?_
        refine lv_iload hx hb d_M_reckon_60 (lv_at hl 2 rfl) ?_
        refine qx_rd (va_runS (As := [.int (qf_Pa_condition w), .int (qf_M_valueA st w), .int (qf_M_valueB st w)]) (rest := []) ⟨hx, hb, hml, hown, hts⟩ (c_Co_holds l D cA (qf_Pa_condition w) (qf_M_valueA st w) (qf_M_valueB st w)) (qx_kS hts mw_261 mw_262 mw_35 mw_263 cd_Co_holds ⟨Nat.le_of_ble_eq_true rfl, Nat.le_of_ble_eq_true rfl⟩) (qx_preS hP hD hK hN [] rfl rfl) rfl rfl hl.1 rfl (lv_room (Nat.le_of_ble_eq_true rfl)) d_M_reckon_62 ⟨Nat.zero_le _, Nat.zero_le _⟩) ?_
        refine lv_goto (tgt := 78) hx hb d_M_reckon_65 (by decide) ?_
        refine lv_istore (lv' := [(7, .int (qf_Co_holds (qf_Pa_condition w) (qf_M_valueA st w) (qf_M_valueB st w))), (6, .int 1), (5, .int (qf_M_resultOf w (qf_M_valueA st w) (qf_M_valueB st w))), (4, .int (qf_M_valueB st w)), (3, .int (qf_M_valueA st w)), (2, .int (qf_Pa_kind w)), (0, .ref (ad 0)), (1, .int w)]) hx hb d_M_reckon_78 hl (by decide) rfl (fun ls hl => ?_)
        refine lv_aload_n hx hb d_M_reckon_80 rfl (lv_at hl 6 rfl) ?_
        refine lv_iload_n hx hb d_M_reckon_81 rfl (lv_at hl 7 rfl) ?_
        refine lv_iload hx hb d_M_reckon_82 (lv_at hl 2 rfl) ?_
        refine qx_muZ (T := qf_M_setT st w (qf_M_resultOf w (qf_M_valueA st w) (qf_M_valueB st w))) (Wf := fun zz : qs_M => qw_M ad cA zz) (vf := fun _ => none) (va_runV (As := [.int w, .int (qf_M_resultOf w (qf_M_valueA st w) (qf_M_valueB st w))]) (rest := []) ⟨hx, hb, hml, hown, hts⟩ (c_M_setT l D cA ad st w (qf_M_resultOf w (qf_M_valueA st w) (qf_M_valueB st w))) (qx_kV hts mw_268 mw_270 mw_5 mw_30 mw_271 cd_M_setT ⟨Nat.le_of_ble_eq_true rfl, Nat.le_of_ble_eq_true rfl⟩) (qx_preV (q0 := 0) (ci := 1) (q := (R_M, T_M, 7)) hP hD hK hN [0, 1, 2, 3, 4, 5] rfl rfl rfl rfl) rfl rfl hl.1 rfl (lv_room (Nat.le_of_ble_eq_true rfl)) d_M_reckon_84 ⟨Nat.zero_le _, Nat.zero_le _⟩) hP hD hS [0, 1, 2, 3, 4, 5] rfl rfl [ad 0, ad 1, ad 2, ad 3, ad 4, ad 5] rfl rfl (fun zz1 hzz1 H locs hP hD hS => ?_)
        have hP : va_P D vwCl (qw_M ad cA zz1) H := hP
        have hD : va_D A (qw_M ad cA zz1) := hD
        refine W.eq (g2 := F0 m 87 ls []) rfl ?_
        refine lv_aload_n hx hb d_M_reckon_87 rfl (lv_at hl 6 rfl) ?_
        refine va_get (D := D) (ci := 1) (v := .ref (ad 4)) (C := R_M) (T := T_M) (N := 7) hx hb hts in_M hown hK hP 0 rfl rfl 3 (by decide) (hts (Cond.fieldLink R_M 24 "QueuedFronts$Machine" "flow" "LQueuedFronts$Flow;") mw_101) (fun _ h9 => h9) rfl d_M_reckon_88 ?_
        refine lv_iload hx hb d_M_reckon_91 (lv_at hl 0 rfl) ?_
        refine qx_muZ (T := qf_F_moveOn zz1.2.2.2.1 (qf_Co_holds (qf_Pa_condition w) (qf_M_valueA st w) (qf_M_valueB st w))) (Wf := fun zz : qs_F => qw_M ad cA (qm_M_fl zz1 zz)) (vf := fun _ => none) (va_runV (As := [.int (qf_Co_holds (qf_Pa_condition w) (qf_M_valueA st w) (qf_M_valueB st w))]) (rest := []) ⟨hx, hb, hml, hown, hts⟩ (c_F_moveOn l D cA (ad 4) zz1.2.2.2.1 (qf_Co_holds (qf_Pa_condition w) (qf_M_valueA st w) (qf_M_valueB st w))) (qx_kV hts mw_275 mw_206 mw_207 mw_31 mw_208 cd_F_moveOn ⟨Nat.le_of_ble_eq_true rfl, Nat.le_of_ble_eq_true rfl⟩) (qx_preV (q0 := 4) (ci := 2) (q := (R_F, T_F, 4)) hP hD hK hN [4] rfl rfl rfl rfl) rfl rfl hl.1 rfl (lv_room (Nat.le_of_ble_eq_true rfl)) d_M_reckon_93 ⟨Nat.zero_le _, Nat.zero_le _⟩) hP hD hS [4] rfl rfl [ad 0, ad 1, ad 2, ad 3, ad 4, ad 5] rfl rfl (fun zz2 hzz2 H locs hP hD hS => ?_)
        have hP : va_P D vwCl (qw_M ad cA (qm_M_fl zz1 zz2)) H := hP
        have hD : va_D A (qw_M ad cA (qm_M_fl zz1 zz2)) := hD
        refine W.eq (g2 := F0 m 96 ls []) rfl ?_
        subst hzz2
        subst hzz1
        have e9 : (qm_M_fl (qf_M_setT st w (qf_M_resultOf w (qf_M_valueA st w) (qf_M_valueB st w))) (qf_F_moveOn (qf_M_setT st w (qf_M_resultOf w (qf_M_valueA st w) (qf_M_valueB st w))).2.2.2.1 (qf_Co_holds (qf_Pa_condition w) (qf_M_valueA st w) (qf_M_valueB st w)))) = qf_M_reckon st w := (by unfold qf_M_reckon; rw [if_neg h1, if_neg h2, if_pos h3])
        exact W.vret hx hb hr (fun t ht hW => ⟨rfl, (by rw [ht, ← e9]; exact hP), hS.F ht⟩) hS.2.2 d_M_reckon_96
