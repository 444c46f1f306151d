def qf_M_branch (st : qs_M) (w : Int32) : qs_M :=
  if qf_M_takesBranch st w (qf_M_valueT st w + qf_M_valueA st w) = 0 then (if qf_Pa_kind w = 13 then (qm_M_fl (qf_M_setT st w (qf_Pl_offsetOf (qf_Pl_behind st.2.2.2.1.2.1))) (qf_F_moveOnTo (qf_M_setT st w (qf_Pl_offsetOf (qf_Pl_behind st.2.2.2.1.2.1))).2.2.2.1 (qf_Pl_behind st.2.2.2.1.2.1) (qf_M_branchNullifies w (qf_M_takesBranch st w (qf_M_valueT st w + qf_M_valueA st w)))))
    else if qf_Pa_kind w = 15 then (qm_M_fl (qf_M_setT st w (qf_M_valueT st w + qf_M_valueA st w)) (qf_F_moveOnTo (qf_M_setT st w (qf_M_valueT st w + qf_M_valueA st w)).2.2.2.1 (qf_Pl_behind st.2.2.2.1.2.1) (qf_M_branchNullifies w (qf_M_takesBranch st w (qf_M_valueT st w + qf_M_valueA st w)))))
    else (qm_M_fl st (qf_F_moveOnTo st.2.2.2.1 (qf_Pl_behind st.2.2.2.1.2.1) (qf_M_branchNullifies w (qf_M_takesBranch st w (qf_M_valueT st w + qf_M_valueA st w))))))
  else if qf_Pa_kind w = 13 then (qm_M_fl (qf_M_setT st w (qf_Pl_offsetOf (qf_Pl_behind st.2.2.2.1.2.1))) (qf_F_moveOnTo (qf_M_setT st w (qf_Pl_offsetOf (qf_Pl_behind st.2.2.2.1.2.1))).2.2.2.1 (qf_M_targetOf st w) (qf_M_branchNullifies w (qf_M_takesBranch st w (qf_M_valueT st w + qf_M_valueA st w)))))
  else if qf_Pa_kind w = 15 then (qm_M_fl (qf_M_setT st w (qf_M_valueT st w + qf_M_valueA st w)) (qf_F_moveOnTo (qf_M_setT st w (qf_M_valueT st w + qf_M_valueA st w)).2.2.2.1 (qf_M_targetOf st w) (qf_M_branchNullifies w (qf_M_takesBranch st w (qf_M_valueT st w + qf_M_valueA st w)))))
  else (qm_M_fl st (qf_F_moveOnTo st.2.2.2.1 (qf_M_targetOf st w) (qf_M_branchNullifies w (qf_M_takesBranch st w (qf_M_valueT st w + qf_M_valueA st w)))))
set_option maxHeartbeats 4000000 in
set_option maxRecDepth 100000 in
theorem c_M_branch (l : Launch) (D : va_G) (cA : ClassId) (ad : Nat → Nat) (st : qs_M) (w : Int32) : Met l y_M_branch (Cond.code y_M_branch b_M_branch 6 none :: qx_T) ({ frames := 3, cells := 0, slots := 0, locals := 64 }) (qx_Pc D vwCl [(cA, .int)] (qw_M ad cA st) [.ref (ad 0), .int w]) (qx_Q D vwCl (qw_M ad cA (qf_M_branch st w)) (qx_ad (qw_M ad cA st)) none) 0 0 (qx_ad (qw_M ad cA st)) := by
  refine Met.ofW (cc := b_M_branch) (maxL := 6) (ret := none) (by decide) rfl ?_
  intro p e s m args below meth c s₁ B hml hv
  obtain ⟨rfl, hP, hK, hN, hD0⟩ := hv
  have hx := B.exec
  have hb := B.bytes
  have hr := B.returns
  have hts0 := atoms_spec (ws := Cond.code y_M_branch b_M_branch 6 none :: qx_T) B.pre
  have hts := fun w h => hts0 w (List.mem_cons_of_mem _ h)
  have hown : s.vm.findClass R_M = some m.cls := findClass_of_methodNamed B.named
  have hlocks := B.notSynchronized
  have hD : va_D (qx_ad (qw_M ad cA st)) (qw_M ad cA st) := ⟨hD0.1, fun k q hk => ⟨k, q.2, hk⟩⟩
  generalize hAe : qx_ad (qw_M ad cA st) = A at hD ⊢
  have hS : va_S A s.heap s.heap [] := va_S.rf
  have hl := lv_entry ([.ref (ad 0), .int w]) (n := 6) (Nat.le_of_ble_eq_true rfl)
  rw [lg_entry_eq]
  generalize (lg_sl ([.ref (ad 0), .int w]) ++ List.replicate (6 - (lg_sl ([.ref (ad 0), .int w])).length) Slot.unset).toArray = ls at hl ⊢
  have hl : lv_has ls 6 [(0, .ref (ad 0)), (1, .int w)] := hl
  refine lv_iload_n hx hb d_M_branch_0 rfl (lv_at hl 1 rfl) ?_
  refine qx_rd (va_runS (As := [.int w]) (rest := []) ⟨hx, hb, hml, hown, hts⟩ (c_Pa_kind l D cA w) (qx_kS hts mw_217 mw_218 mw_34 mw_219 cd_Pa_kind ⟨Nat.le_of_ble_eq_true rfl, Nat.le_of_ble_eq_true rfl⟩) (qx_preS hP hD hK hN [] rfl rfl) rfl rfl hl.1 rfl (lv_room (Nat.le_of_ble_eq_true rfl)) d_M_branch_1 ⟨Nat.zero_le _, Nat.zero_le _⟩) ?_
  refine lv_istore_n (lv' := [(2, .int (qf_Pa_kind w)), (0, .ref (ad 0)), (1, .int w)]) hx hb d_M_branch_4 rfl hl (by decide) rfl (fun ls hl => ?_)
  refine lv_aload_n hx hb d_M_branch_5 rfl (lv_at hl 1 rfl) ?_
  refine lv_iload_n hx hb d_M_branch_6 rfl (lv_at hl 2 rfl) ?_
  refine qx_rd (va_runV (As := [.int w]) (rest := []) ⟨hx, hb, hml, hown, hts⟩ (c_M_valueT l D cA ad st w) (qx_kV hts mw_288 mw_290 mw_8 mw_30 mw_291 cd_M_valueT ⟨Nat.le_of_ble_eq_true rfl, Nat.le_of_ble_eq_true rfl⟩) (qx_preV (q0 := 0) (ci := 1) (q := (R_M, T_M, 7)) hP hD hK hN [0, 1, 2, 3, 4, 5] rfl rfl rfl rfl) rfl rfl hl.1 rfl (lv_room (Nat.le_of_ble_eq_true rfl)) d_M_branch_7 ⟨Nat.zero_le _, Nat.zero_le _⟩) ?_
  refine lv_aload_n hx hb d_M_branch_10 rfl (lv_at hl 1 rfl) ?_
  refine lv_iload_n hx hb d_M_branch_11 rfl (lv_at hl 2 rfl) ?_
  refine qx_rd (va_runV (As := [.int w]) (rest := [.int (qf_M_valueT st w)]) ⟨hx, hb, hml, hown, hts⟩ (c_M_valueA l D cA ad st w) (qx_kV hts mw_220 mw_222 mw_2 mw_30 mw_223 cd_M_valueA ⟨Nat.le_of_ble_eq_true rfl, Nat.le_of_ble_eq_true rfl⟩) (qx_preV (q0 := 0) (ci := 1) (q := (R_M, T_M, 7)) hP hD hK hN [0, 1, 2, 3, 4, 5] rfl rfl rfl rfl) rfl rfl hl.1 rfl (lv_room (Nat.le_of_ble_eq_true rfl)) d_M_branch_12 ⟨Nat.zero_le _, Nat.zero_le _⟩) ?_
  refine lv_iadd hx hb d_M_branch_15 ?_
  refine lv_istore_n (lv' := [(3, .int (qf_M_valueT st w + qf_M_valueA st w)), (2, .int (qf_Pa_kind w)), (0, .ref (ad 0)), (1, .int w)]) hx hb d_M_branch_16 rfl hl (by decide) rfl (fun ls hl => ?_)
  refine lv_aload_n hx hb d_M_branch_17 rfl (lv_at hl 2 rfl) ?_
  refine lv_iload_n hx hb d_M_branch_18 rfl (lv_at hl 3 rfl) ?_
  refine lv_iload_n hx hb d_M_branch_19 rfl (lv_at hl 0 rfl) ?_
  refine qx_rd (va_runV (As := [.int w, .int (qf_M_valueT st w + qf_M_valueA st w)]) (rest := []) ⟨hx, hb, hml, hown, hts⟩ (c_M_takesBranch l D cA ad st w (qf_M_valueT st w + qf_M_valueA st w)) (qx_kV hts mw_296 mw_298 mw_10 mw_30 mw_299 cd_M_takesBranch ⟨Nat.le_of_ble_eq_true rfl, Nat.le_of_ble_eq_true rfl⟩) (qx_preV (q0 := 0) (ci := 1) (q := (R_M, T_M, 7)) hP hD hK hN [0, 1, 2, 3, 4, 5] rfl rfl rfl rfl) rfl rfl hl.1 rfl (lv_room (Nat.le_of_ble_eq_true rfl)) d_M_branch_20 ⟨Nat.zero_le _, Nat.zero_le _⟩) ?_
  refine lv_istore (lv' := [(4, .int (qf_M_takesBranch st w (qf_M_valueT st w + qf_M_valueA st w))), (3, .int (qf_M_valueT st w + qf_M_valueA st w)), (2, .int (qf_Pa_kind w)), (0, .ref (ad 0)), (1, .int w)]) hx hb d_M_branch_23 hl (by decide) rfl (fun ls hl => ?_)
  refine lv_iload hx hb d_M_branch_25 (lv_at hl 0 rfl) ?_
  refine lv_if_eq (tgt := 38) hx hb d_M_branch_27 (by decide) (fun h1 => ?_) (fun h1 => ?_)
  · have h1 : qf_M_takesBranch st w (qf_M_valueT st w + qf_M_valueA st w) = 0 := h1
    refine lv_aload_n hx hb d_M_branch_38 rfl (lv_at hl 3 rfl) ?_
    refine va_get (D := D) (ci := 1) (v := .ref (ad 4)) (C := R_M) (T := T_M) (N := 7) hx hb hts in_M hown hK hP 0 rfl rfl 3 (by decide) (hts (Cond.fieldLink R_M 24 "QueuedFronts$Machine" "flow" "LQueuedFronts$Flow;") mw_101) (fun _ h9 => h9) rfl d_M_branch_39 ?_
    refine va_get (D := D) (ci := 2) (v := .int st.2.2.2.1.2.1) (C := R_F) (T := T_F) (N := 4) hx hb hts in_F hown hK hP 4 rfl rfl 1 (by decide) (hts (Cond.fieldLink R_M 139 "QueuedFronts$Flow" "back" "I") mw_62) (fun _ h9 => h9) rfl d_M_branch_42 ?_
    refine qx_rd (va_runS (As := [.int st.2.2.2.1.2.1]) (rest := []) ⟨hx, hb, hml, hown, hts⟩ (c_Pl_behind l D cA st.2.2.2.1.2.1) (qx_kS hts mw_306 mw_84 mw_32 mw_85 cd_Pl_behind ⟨Nat.le_of_ble_eq_true rfl, Nat.le_of_ble_eq_true rfl⟩) (qx_preS hP hD hK hN [] rfl rfl) rfl rfl hl.1 rfl (lv_room (Nat.le_of_ble_eq_true rfl)) d_M_branch_45 ⟨Nat.zero_le _, Nat.zero_le _⟩) ?_
    refine lv_istore (lv' := [(5, .int (qf_Pl_behind st.2.2.2.1.2.1)), (4, .int (qf_M_takesBranch st w (qf_M_valueT st w + qf_M_valueA st w))), (3, .int (qf_M_valueT st w + qf_M_valueA st w)), (2, .int (qf_Pa_kind w)), (0, .ref (ad 0)), (1, .int w)]) hx hb d_M_branch_48 hl (by decide) rfl (fun ls hl => ?_)
    refine lv_iload_n hx hb d_M_branch_50 rfl (lv_at hl 3 rfl) ?_
    refine lv_bipush (v := 13) hx hb d_M_branch_51 (by decide) ?_
    refine lv_icmp_ne (tgt := 77) hx hb d_M_branch_53 (by decide) (fun h2 => ?_) (fun h2 => ?_)
    · have h2 : ¬ (qf_Pa_kind w = 13) := h2
      refine lv_iload_n hx hb d_M_branch_77 rfl (lv_at hl 3 rfl) ?_
      refine lv_bipush (v := 15) hx hb d_M_branch_78 (by decide) ?_
      refine lv_icmp_ne (tgt := 89) hx hb d_M_branch_80 (by decide) (fun h3 => ?_) (fun h3 => ?_)
      · have h3 : ¬ (qf_Pa_kind w = 15) := h3
        refine lv_aload_n hx hb d_M_branch_89 rfl (lv_at hl 4 rfl) ?_
        refine va_get (D := D) (ci := 1) (v := .ref (ad 4)) (C := R_M) (T := T_M) (N := 7) hx hb hts in_M hown hK hP 0 rfl rfl 3 (by decide) (hts (Cond.fieldLink R_M 24 "QueuedFronts$Machine" "flow" "LQueuedFronts$Flow;") mw_101) (fun _ h9 => h9) rfl d_M_branch_90 ?_
        refine lv_iload hx hb d_M_branch_93 (lv_at hl 0 rfl) ?_
        refine lv_iload_n hx hb d_M_branch_95 rfl (lv_at hl 5 rfl) ?_
        refine lv_iload hx hb d_M_branch_96 (lv_at hl 1 rfl) ?_
        refine qx_rd (va_runS (As := [.int w, .int (qf_M_takesBranch st w (qf_M_valueT st w + qf_M_valueA st w))]) (rest := [.int (qf_Pl_behind st.2.2.2.1.2.1), .ref (ad 4)]) ⟨hx, hb, hml, hown, hts⟩ (c_M_branchNullifies l D cA w (qf_M_takesBranch st w (qf_M_valueT st w + qf_M_valueA st w))) (qx_kS hts mw_307 mw_308 mw_30 mw_309 cd_M_branchNullifies ⟨Nat.le_of_ble_eq_true rfl, Nat.le_of_ble_eq_true rfl⟩) (qx_preS hP hD hK hN [] rfl rfl) rfl rfl hl.1 rfl (lv_room (Nat.le_of_ble_eq_true rfl)) d_M_branch_98 ⟨Nat.zero_le _, Nat.zero_le _⟩) ?_
        refine qx_muZ (T := qf_F_moveOnTo st.2.2.2.1 (qf_Pl_behind st.2.2.2.1.2.1) (qf_M_branchNullifies w (qf_M_takesBranch st w (qf_M_valueT st w + qf_M_valueA st w)))) (Wf := fun zz : qs_F => qw_M ad cA (qm_M_fl st zz)) (vf := fun _ => none) (va_runV (As := [.int (qf_Pl_behind st.2.2.2.1.2.1), .int (qf_M_branchNullifies w (qf_M_takesBranch st w (qf_M_valueT st w + qf_M_valueA st w)))]) (rest := []) ⟨hx, hb, hml, hown, hts⟩ (c_F_moveOnTo l D cA (ad 4) st.2.2.2.1 (qf_Pl_behind st.2.2.2.1.2.1) (qf_M_branchNullifies w (qf_M_takesBranch st w (qf_M_valueT st w + qf_M_valueA st w)))) (qx_kV hts mw_310 mw_210 mw_211 mw_31 mw_212 cd_F_moveOnTo ⟨Nat.le_of_ble_eq_true rfl, Nat.le_of_ble_eq_true rfl⟩) (qx_preV (q0 := 4) (ci := 2) (q := (R_F, T_F, 4)) hP hD hK hN [4] rfl rfl rfl rfl) rfl rfl hl.1 rfl (lv_room (Nat.le_of_ble_eq_true rfl)) d_M_branch_101 ⟨Nat.zero_le _, Nat.zero_le _⟩) hP hD hS [4] rfl rfl [ad 0, ad 1, ad 2, ad 3, ad 4, ad 5] rfl rfl (fun zz1 hzz1 H locs hP hD hS => ?_)
        have hP : va_P D vwCl (qw_M ad cA (qm_M_fl st zz1)) H := hP
        have hD : va_D A (qw_M ad cA (qm_M_fl st zz1)) := hD
        refine W.eq (g2 := F0 m 104 ls []) rfl ?_
        subst hzz1
        have e9 : (qm_M_fl st (qf_F_moveOnTo st.2.2.2.1 (qf_Pl_behind st.2.2.2.1.2.1) (qf_M_branchNullifies w (qf_M_takesBranch st w (qf_M_valueT st w + qf_M_valueA st w))))) = qf_M_branch st w := (by unfold qf_M_branch; rw [if_pos h1, if_neg h2, if_neg h3])
        exact W.vret hx hb hr (fun t ht hW => ⟨rfl, (by rw [ht, ← e9]; exact hP), hS.F ht⟩) hS.2.2 d_M_branch_104
      · have h3 : qf_Pa_kind w = 15 := h3
        refine lv_aload_n hx hb d_M_branch_83 rfl (lv_at hl 4 rfl) ?_
        refine lv_iload_n hx hb d_M_branch_84 rfl (lv_at hl 5 rfl) ?_
        refine lv_iload_n hx hb d_M_branch_85 rfl (lv_at hl 2 rfl) ?_
        refine qx_muZ (T := qf_M_setT st w (qf_M_valueT st w + qf_M_valueA st w)) (Wf := fun zz : qs_M => qw_M ad cA zz) (vf := fun _ => none) (va_runV (As := [.int w, .int (qf_M_valueT st w + qf_M_valueA st w)]) (rest := []) ⟨hx, hb, hml, hown, hts⟩ (c_M_setT l D cA ad st w (qf_M_valueT st w + qf_M_valueA st w)) (qx_kV hts mw_268 mw_270 mw_5 mw_30 mw_271 cd_M_setT ⟨Nat.le_of_ble_eq_true rfl, Nat.le_of_ble_eq_true rfl⟩) (qx_preV (q0 := 0) (ci := 1) (q := (R_M, T_M, 7)) hP hD hK hN [0, 1, 2, 3, 4, 5] rfl rfl rfl rfl) rfl rfl hl.1 rfl (lv_room (Nat.le_of_ble_eq_true rfl)) d_M_branch_86 ⟨Nat.zero_le _, Nat.zero_le _⟩) hP hD hS [0, 1, 2, 3, 4, 5] rfl rfl [ad 0, ad 1, ad 2, ad 3, ad 4, ad 5] rfl rfl (fun zz1 hzz1 H locs hP hD hS => ?_)
        have hP : va_P D vwCl (qw_M ad cA zz1) H := hP
        have hD : va_D A (qw_M ad cA zz1) := hD
        refine W.eq (g2 := F0 m 89 ls []) rfl ?_
        refine lv_aload_n hx hb d_M_branch_89 rfl (lv_at hl 4 rfl) ?_
        refine va_get (D := D) (ci := 1) (v := .ref (ad 4)) (C := R_M) (T := T_M) (N := 7) hx hb hts in_M hown hK hP 0 rfl rfl 3 (by decide) (hts (Cond.fieldLink R_M 24 "QueuedFronts$Machine" "flow" "LQueuedFronts$Flow;") mw_101) (fun _ h9 => h9) rfl d_M_branch_90 ?_
        refine lv_iload hx hb d_M_branch_93 (lv_at hl 0 rfl) ?_
        refine lv_iload_n hx hb d_M_branch_95 rfl (lv_at hl 5 rfl) ?_
        refine lv_iload hx hb d_M_branch_96 (lv_at hl 1 rfl) ?_
        refine qx_rd (va_runS (As := [.int w, .int (qf_M_takesBranch st w (qf_M_valueT st w + qf_M_valueA st w))]) (rest := [.int (qf_Pl_behind st.2.2.2.1.2.1), .ref (ad 4)]) ⟨hx, hb, hml, hown, hts⟩ (c_M_branchNullifies l D cA w (qf_M_takesBranch st w (qf_M_valueT st w + qf_M_valueA st w))) (qx_kS hts mw_307 mw_308 mw_30 mw_309 cd_M_branchNullifies ⟨Nat.le_of_ble_eq_true rfl, Nat.le_of_ble_eq_true rfl⟩) (qx_preS hP hD hK hN [] rfl rfl) rfl rfl hl.1 rfl (lv_room (Nat.le_of_ble_eq_true rfl)) d_M_branch_98 ⟨Nat.zero_le _, Nat.zero_le _⟩) ?_
        refine qx_muZ (T := qf_F_moveOnTo zz1.2.2.2.1 (qf_Pl_behind st.2.2.2.1.2.1) (qf_M_branchNullifies w (qf_M_takesBranch st w (qf_M_valueT st w + qf_M_valueA st w)))) (Wf := fun zz : qs_F => qw_M ad cA (qm_M_fl zz1 zz)) (vf := fun _ => none) (va_runV (As := [.int (qf_Pl_behind st.2.2.2.1.2.1), .int (qf_M_branchNullifies w (qf_M_takesBranch st w (qf_M_valueT st w + qf_M_valueA st w)))]) (rest := []) ⟨hx, hb, hml, hown, hts⟩ (c_F_moveOnTo l D cA (ad 4) zz1.2.2.2.1 (qf_Pl_behind st.2.2.2.1.2.1) (qf_M_branchNullifies w (qf_M_takesBranch st w (qf_M_valueT st w + qf_M_valueA st w)))) (qx_kV hts mw_310 mw_210 mw_211 mw_31 mw_212 cd_F_moveOnTo ⟨Nat.le_of_ble_eq_true rfl, Nat.le_of_ble_eq_true rfl⟩) (qx_preV (q0 := 4) (ci := 2) (q := (R_F, T_F, 4)) hP hD hK hN [4] rfl rfl rfl rfl) rfl rfl hl.1 rfl (lv_room (Nat.le_of_ble_eq_true rfl)) d_M_branch_101 ⟨Nat.zero_le _, Nat.zero_le _⟩) hP hD hS [4] rfl rfl [ad 0, ad 1, ad 2, ad 3, ad 4, ad 5] rfl rfl (fun zz2 hzz2 H locs hP hD hS => ?_)
        have hP : va_P D vwCl (qw_M ad cA (qm_M_fl zz1 zz2)) H := hP
        have hD : va_D A (qw_M ad cA (qm_M_fl zz1 zz2)) := hD
        refine W.eq (g2 := F0 m 104 ls []) rfl ?_
        subst hzz2
        subst hzz1
        have e9 : (qm_M_fl (qf_M_setT st w (qf_M_valueT st w + qf_M_valueA st w)) (qf_F_moveOnTo (qf_M_setT st w (qf_M_valueT st w + qf_M_valueA st w)).2.2.2.1 (qf_Pl_behind st.2.2.2.1.2.1) (qf_M_branchNullifies w (qf_M_takesBranch st w (qf_M_valueT st w + qf_M_valueA st w))))) = qf_M_branch st w := (by unfold qf_M_branch; rw [if_pos h1, if_neg h2, if_pos h3])
        exact W.vret hx hb hr (fun t ht hW => ⟨rfl, (by rw [ht, ← e9]; exact hP), hS.F ht⟩) hS.2.2 d_M_branch_104
    · have h2 : qf_Pa_kind w = 13 := h2
      refine lv_aload_n hx hb d_M_branch_56 rfl (lv_at hl 4 rfl) ?_
      refine lv_iload_n hx hb d_M_branch_57 rfl (lv_at hl 5 rfl) ?_
      refine lv_aload_n hx hb d_M_branch_58 rfl (lv_at hl 4 rfl) ?_
      refine va_get (D := D) (ci := 1) (v := .ref (ad 4)) (C := R_M) (T := T_M) (N := 7) hx hb hts in_M hown hK hP 0 rfl rfl 3 (by decide) (hts (Cond.fieldLink R_M 24 "QueuedFronts$Machine" "flow" "LQueuedFronts$Flow;") mw_101) (fun _ h9 => h9) rfl d_M_branch_59 ?_
      refine va_get (D := D) (ci := 2) (v := .int st.2.2.2.1.2.1) (C := R_F) (T := T_F) (N := 4) hx hb hts in_F hown hK hP 4 rfl rfl 1 (by decide) (hts (Cond.fieldLink R_M 139 "QueuedFronts$Flow" "back" "I") mw_62) (fun _ h9 => h9) rfl d_M_branch_62 ?_
      refine qx_rd (va_runS (As := [.int st.2.2.2.1.2.1]) (rest := [.int w, .ref (ad 0)]) ⟨hx, hb, hml, hown, hts⟩ (c_Pl_behind l D cA st.2.2.2.1.2.1) (qx_kS hts mw_306 mw_84 mw_32 mw_85 cd_Pl_behind ⟨Nat.le_of_ble_eq_true rfl, Nat.le_of_ble_eq_true rfl⟩) (qx_preS hP hD hK hN [] rfl rfl) rfl rfl hl.1 rfl (lv_room (Nat.le_of_ble_eq_true rfl)) d_M_branch_65 ⟨Nat.zero_le _, Nat.zero_le _⟩) ?_
      refine qx_rd (va_runS (As := [.int (qf_Pl_behind st.2.2.2.1.2.1)]) (rest := [.int w, .ref (ad 0)]) ⟨hx, hb, hml, hown, hts⟩ (c_Pl_offsetOf l D cA (qf_Pl_behind st.2.2.2.1.2.1)) (qx_kS hts mw_305 mw_90 mw_32 mw_91 cd_Pl_offsetOf ⟨Nat.le_of_ble_eq_true rfl, Nat.le_of_ble_eq_true rfl⟩) (qx_preS hP hD hK hN [] rfl rfl) rfl rfl hl.1 rfl (lv_room (Nat.le_of_ble_eq_true rfl)) d_M_branch_68 ⟨Nat.zero_le _, Nat.zero_le _⟩) ?_
      refine qx_muZ (T := qf_M_setT st w (qf_Pl_offsetOf (qf_Pl_behind st.2.2.2.1.2.1))) (Wf := fun zz : qs_M => qw_M ad cA zz) (vf := fun _ => none) (va_runV (As := [.int w, .int (qf_Pl_offsetOf (qf_Pl_behind st.2.2.2.1.2.1))]) (rest := []) ⟨hx, hb, hml, hown, hts⟩ (c_M_setT l D cA ad st w (qf_Pl_offsetOf (qf_Pl_behind st.2.2.2.1.2.1))) (qx_kV hts mw_268 mw_270 mw_5 mw_30 mw_271 cd_M_setT ⟨Nat.le_of_ble_eq_true rfl, Nat.le_of_ble_eq_true rfl⟩) (qx_preV (q0 := 0) (ci := 1) (q := (R_M, T_M, 7)) hP hD hK hN [0, 1, 2, 3, 4, 5] rfl rfl rfl rfl) rfl rfl hl.1 rfl (lv_room (Nat.le_of_ble_eq_true rfl)) d_M_branch_71 ⟨Nat.zero_le _, Nat.zero_le _⟩) hP hD hS [0, 1, 2, 3, 4, 5] rfl rfl [ad 0, ad 1, ad 2, ad 3, ad 4, ad 5] rfl rfl (fun zz1 hzz1 H locs hP hD hS => ?_)
      have hP : va_P D vwCl (qw_M ad cA zz1) H := hP
      have hD : va_D A (qw_M ad cA zz1) := hD
      refine W.eq (g2 := F0 m 74 ls []) rfl ?_
      refine lv_goto (tgt := 89) hx hb d_M_branch_74 (by decide) ?_
      refine lv_aload_n hx hb d_M_branch_89 rfl (lv_at hl 4 rfl) ?_
      refine va_get (D := D) (ci := 1) (v := .ref (ad 4)) (C := R_M) (T := T_M) (N := 7) hx hb hts in_M hown hK hP 0 rfl rfl 3 (by decide) (hts (Cond.fieldLink R_M 24 "QueuedFronts$Machine" "flow" "LQueuedFronts$Flow;") mw_101) (fun _ h9 => h9) rfl d_M_branch_90 ?_
      refine lv_iload hx hb d_M_branch_93 (lv_at hl 0 rfl) ?_
      refine lv_iload_n hx hb d_M_branch_95 rfl (lv_at hl 5 rfl) ?_
      refine lv_iload hx hb d_M_branch_96 (lv_at hl 1 rfl) ?_
      refine qx_rd (va_runS (As := [.int w, .int (qf_M_takesBranch st w (qf_M_valueT st w + qf_M_valueA st w))]) (rest := [.int (qf_Pl_behind st.2.2.2.1.2.1), .ref (ad 4)]) ⟨hx, hb, hml, hown, hts⟩ (c_M_branchNullifies l D cA w (qf_M_takesBranch st w (qf_M_valueT st w + qf_M_valueA st w))) (qx_kS hts mw_307 mw_308 mw_30 mw_309 cd_M_branchNullifies ⟨Nat.le_of_ble_eq_true rfl, Nat.le_of_ble_eq_true rfl⟩) (qx_preS hP hD hK hN [] rfl rfl) rfl rfl hl.1 rfl (lv_room (Nat.le_of_ble_eq_true rfl)) d_M_branch_98 ⟨Nat.zero_le _, Nat.zero_le _⟩) ?_
      refine qx_muZ (T := qf_F_moveOnTo zz1.2.2.2.1 (qf_Pl_behind st.2.2.2.1.2.1) (qf_M_branchNullifies w (qf_M_takesBranch st w (qf_M_valueT st w + qf_M_valueA st w)))) (Wf := fun zz : qs_F => qw_M ad cA (qm_M_fl zz1 zz)) (vf := fun _ => none) (va_runV (As := [.int (qf_Pl_behind st.2.2.2.1.2.1), .int (qf_M_branchNullifies w (qf_M_takesBranch st w (qf_M_valueT st w + qf_M_valueA st w)))]) (rest := []) ⟨hx, hb, hml, hown, hts⟩ (c_F_moveOnTo l D cA (ad 4) zz1.2.2.2.1 (qf_Pl_behind st.2.2.2.1.2.1) (qf_M_branchNullifies w (qf_M_takesBranch st w (qf_M_valueT st w + qf_M_valueA st w)))) (qx_kV hts mw_310 mw_210 mw_211 mw_31 mw_212 cd_F_moveOnTo ⟨Nat.le_of_ble_eq_true rfl, Nat.le_of_ble_eq_true rfl⟩) (qx_preV (q0 := 4) (ci := 2) (q := (R_F, T_F, 4)) hP hD hK hN [4] rfl rfl rfl rfl) rfl rfl hl.1 rfl (lv_room (Nat.le_of_ble_eq_true rfl)) d_M_branch_101 ⟨Nat.zero_le _, Nat.zero_le _⟩) hP hD hS [4] rfl rfl [ad 0, ad 1, ad 2, ad 3, ad 4, ad 5] rfl rfl (fun zz2 hzz2 H locs hP hD hS => ?_)
      have hP : va_P D vwCl (qw_M ad cA (qm_M_fl zz1 zz2)) H := hP
      have hD : va_D A (qw_M ad cA (qm_M_fl zz1 zz2)) := hD
      refine W.eq (g2 := F0 m 104 ls []) rfl ?_
      subst hzz2
      subst hzz1
      have e9 : (qm_M_fl (qf_M_setT st w (qf_Pl_offsetOf (qf_Pl_behind st.2.2.2.1.2.1))) (qf_F_moveOnTo (qf_M_setT st w (qf_Pl_offsetOf (qf_Pl_behind st.2.2.2.1.2.1))).2.2.2.1 (qf_Pl_behind st.2.2.2.1.2.1) (qf_M_branchNullifies w (qf_M_takesBranch st w (qf_M_valueT st w + qf_M_valueA st w))))) = qf_M_branch st w := (by unfold qf_M_branch; rw [if_pos h1, if_pos h2])
      exact W.vret hx hb hr (fun t ht hW => ⟨rfl, (by rw [ht, ← e9]; exact hP), hS.F ht⟩) hS.2.2 d_M_branch_104
  · have h1 : ¬ (qf_M_takesBranch st w (qf_M_valueT st w + qf_M_valueA st w) = 0) := h1
    refine lv_aload_n hx hb d_M_branch_30 rfl (lv_at hl 3 rfl) ?_
    refine lv_iload_n hx hb d_M_branch_31 rfl (lv_at hl 4 rfl) ?_
    refine qx_rd (va_runV (As := [.int w]) (rest := []) ⟨hx, hb, hml, hown, hts⟩ (c_M_targetOf l D cA ad st w) (qx_kV hts mw_300 mw_302 mw_11 mw_30 mw_303 cd_M_targetOf ⟨Nat.le_of_ble_eq_true rfl, Nat.le_of_ble_eq_true rfl⟩) (qx_preV (q0 := 0) (ci := 1) (q := (R_M, T_M, 7)) hP hD hK hN [0, 1, 2, 3, 4, 5] rfl rfl rfl rfl) rfl rfl hl.1 rfl (lv_room (Nat.le_of_ble_eq_true rfl)) d_M_branch_32 ⟨Nat.zero_le _, Nat.zero_le _⟩) ?_
    refine lv_goto (tgt := 48) hx hb d_M_branch_35 (by decide) ?_
    refine lv_istore (lv' := [(5, .int (qf_M_targetOf st w)), (4, .int (qf_M_takesBranch st w (qf_M_valueT st w + qf_M_valueA st w))), (3, .int (qf_M_valueT st w + qf_M_valueA st w)), (2, .int (qf_Pa_kind w)), (0, .ref (ad 0)), (1, .int w)]) hx hb d_M_branch_48 hl (by decide) rfl (fun ls hl => ?_)
    refine lv_iload_n hx hb d_M_branch_50 rfl (lv_at hl 3 rfl) ?_
    refine lv_bipush (v := 13) hx hb d_M_branch_51 (by decide) ?_
    refine lv_icmp_ne (tgt := 77) hx hb d_M_branch_53 (by decide) (fun h4 => ?_) (fun h4 => ?_)
    · have h4 : ¬ (qf_Pa_kind w = 13) := h4
      refine lv_iload_n hx hb d_M_branch_77 rfl (lv_at hl 3 rfl) ?_
      refine lv_bipush (v := 15) hx hb d_M_branch_78 (by decide) ?_
      refine lv_icmp_ne (tgt := 89) hx hb d_M_branch_80 (by decide) (fun h5 => ?_) (fun h5 => ?_)
      · have h5 : ¬ (qf_Pa_kind w = 15) := h5
        refine lv_aload_n hx hb d_M_branch_89 rfl (lv_at hl 4 rfl) ?_
        refine va_get (D := D) (ci := 1) (v := .ref (ad 4)) (C := R_M) (T := T_M) (N := 7) hx hb hts in_M hown hK hP 0 rfl rfl 3 (by decide) (hts (Cond.fieldLink R_M 24 "QueuedFronts$Machine" "flow" "LQueuedFronts$Flow;") mw_101) (fun _ h9 => h9) rfl d_M_branch_90 ?_
        refine lv_iload hx hb d_M_branch_93 (lv_at hl 0 rfl) ?_
        refine lv_iload_n hx hb d_M_branch_95 rfl (lv_at hl 5 rfl) ?_
        refine lv_iload hx hb d_M_branch_96 (lv_at hl 1 rfl) ?_
        refine qx_rd (va_runS (As := [.int w, .int (qf_M_takesBranch st w (qf_M_valueT st w + qf_M_valueA st w))]) (rest := [.int (qf_M_targetOf st w), .ref (ad 4)]) ⟨hx, hb, hml, hown, hts⟩ (c_M_branchNullifies l D cA w (qf_M_takesBranch st w (qf_M_valueT st w + qf_M_valueA st w))) (qx_kS hts mw_307 mw_308 mw_30 mw_309 cd_M_branchNullifies ⟨Nat.le_of_ble_eq_true rfl, Nat.le_of_ble_eq_true rfl⟩) (qx_preS hP hD hK hN [] rfl rfl) rfl rfl hl.1 rfl (lv_room (Nat.le_of_ble_eq_true rfl)) d_M_branch_98 ⟨Nat.zero_le _, Nat.zero_le _⟩) ?_
        refine qx_muZ (T := qf_F_moveOnTo st.2.2.2.1 (qf_M_targetOf st w) (qf_M_branchNullifies w (qf_M_takesBranch st w (qf_M_valueT st w + qf_M_valueA st w)))) (Wf := fun zz : qs_F => qw_M ad cA (qm_M_fl st zz)) (vf := fun _ => none) (va_runV (As := [.int (qf_M_targetOf st w), .int (qf_M_branchNullifies w (qf_M_takesBranch st w (qf_M_valueT st w + qf_M_valueA st w)))]) (rest := []) ⟨hx, hb, hml, hown, hts⟩ (c_F_moveOnTo l D cA (ad 4) st.2.2.2.1 (qf_M_targetOf st w) (qf_M_branchNullifies w (qf_M_takesBranch st w (qf_M_valueT st w + qf_M_valueA st w)))) (qx_kV hts mw_310 mw_210 mw_211 mw_31 mw_212 cd_F_moveOnTo ⟨Nat.le_of_ble_eq_true rfl, Nat.le_of_ble_eq_true rfl⟩) (qx_preV (q0 := 4) (ci := 2) (q := (R_F, T_F, 4)) hP hD hK hN [4] rfl rfl rfl rfl) rfl rfl hl.1 rfl (lv_room (Nat.le_of_ble_eq_true rfl)) d_M_branch_101 ⟨Nat.zero_le _, Nat.zero_le _⟩) hP hD hS [4] rfl rfl [ad 0, ad 1, ad 2, ad 3, ad 4, ad 5] rfl rfl (fun zz1 hzz1 H locs hP hD hS => ?_)
        have hP : va_P D vwCl (qw_M ad cA (qm_M_fl st zz1)) H := hP
        have hD : va_D A (qw_M ad cA (qm_M_fl st zz1)) := hD
        refine W.eq (g2 := F0 m 104 ls []) rfl ?_
        subst hzz1
        have e9 : (qm_M_fl st (qf_F_moveOnTo st.2.2.2.1 (qf_M_targetOf st w) (qf_M_branchNullifies w (qf_M_takesBranch st w (qf_M_valueT st w + qf_M_valueA st w))))) = qf_M_branch st w := (by unfold qf_M_branch; rw [if_neg h1, if_neg h4, if_neg h5])
        exact W.vret hx hb hr (fun t ht hW => ⟨rfl, (by rw [ht, ← e9]; exact hP), hS.F ht⟩) hS.2.2 d_M_branch_104
      · have h5 : qf_Pa_kind w = 15 := h5
        refine lv_aload_n hx hb d_M_branch_83 rfl (lv_at hl 4 rfl) ?_
        refine lv_iload_n hx hb d_M_branch_84 rfl (lv_at hl 5 rfl) ?_
        refine lv_iload_n hx hb d_M_branch_85 rfl (lv_at hl 2 rfl) ?_
        refine qx_muZ (T := qf_M_setT st w (qf_M_valueT st w + qf_M_valueA st w)) (Wf := fun zz : qs_M => qw_M ad cA zz) (vf := fun _ => none) (va_runV (As := [.int w, .int (qf_M_valueT st w + qf_M_valueA st w)]) (rest := []) ⟨hx, hb, hml, hown, hts⟩ (c_M_setT l D cA ad st w (qf_M_valueT st w + qf_M_valueA st w)) (qx_kV hts mw_268 mw_270 mw_5 mw_30 mw_271 cd_M_setT ⟨Nat.le_of_ble_eq_true rfl, Nat.le_of_ble_eq_true rfl⟩) (qx_preV (q0 := 0) (ci := 1) (q := (R_M, T_M, 7)) hP hD hK hN [0, 1, 2, 3, 4, 5] rfl rfl rfl rfl) rfl rfl hl.1 rfl (lv_room (Nat.le_of_ble_eq_true rfl)) d_M_branch_86 ⟨Nat.zero_le _, Nat.zero_le _⟩) hP hD hS [0, 1, 2, 3, 4, 5] rfl rfl [ad 0, ad 1, ad 2, ad 3, ad 4, ad 5] rfl rfl (fun zz1 hzz1 H locs hP hD hS => ?_)
        have hP : va_P D vwCl (qw_M ad cA zz1) H := hP
        have hD : va_D A (qw_M ad cA zz1) := hD
        refine W.eq (g2 := F0 m 89 ls []) rfl ?_
        refine lv_aload_n hx hb d_M_branch_89 rfl (lv_at hl 4 rfl) ?_
        refine va_get (D := D) (ci := 1) (v := .ref (ad 4)) (C := R_M) (T := T_M) (N := 7) hx hb hts in_M hown hK hP 0 rfl rfl 3 (by decide) (hts (Cond.fieldLink R_M 24 "QueuedFronts$Machine" "flow" "LQueuedFronts$Flow;") mw_101) (fun _ h9 => h9) rfl d_M_branch_90 ?_
        refine lv_iload hx hb d_M_branch_93 (lv_at hl 0 rfl) ?_
        refine lv_iload_n hx hb d_M_branch_95 rfl (lv_at hl 5 rfl) ?_
        refine lv_iload hx hb d_M_branch_96 (lv_at hl 1 rfl) ?_
        refine qx_rd (va_runS (As := [.int w, .int (qf_M_takesBranch st w (qf_M_valueT st w + qf_M_valueA st w))]) (rest := [.int (qf_M_targetOf st w), .ref (ad 4)]) ⟨hx, hb, hml, hown, hts⟩ (c_M_branchNullifies l D cA w (qf_M_takesBranch st w (qf_M_valueT st w + qf_M_valueA st w))) (qx_kS hts mw_307 mw_308 mw_30 mw_309 cd_M_branchNullifies ⟨Nat.le_of_ble_eq_true rfl, Nat.le_of_ble_eq_true rfl⟩) (qx_preS hP hD hK hN [] rfl rfl) rfl rfl hl.1 rfl (lv_room (Nat.le_of_ble_eq_true rfl)) d_M_branch_98 ⟨Nat.zero_le _, Nat.zero_le _⟩) ?_
        refine qx_muZ (T := qf_F_moveOnTo zz1.2.2.2.1 (qf_M_targetOf st w) (qf_M_branchNullifies w (qf_M_takesBranch st w (qf_M_valueT st w + qf_M_valueA st w)))) (Wf := fun zz : qs_F => qw_M ad cA (qm_M_fl zz1 zz)) (vf := fun _ => none) (va_runV (As := [.int (qf_M_targetOf st w), .int (qf_M_branchNullifies w (qf_M_takesBranch st w (qf_M_valueT st w + qf_M_valueA st w)))]) (rest := []) ⟨hx, hb, hml, hown, hts⟩ (c_F_moveOnTo l D cA (ad 4) zz1.2.2.2.1 (qf_M_targetOf st w) (qf_M_branchNullifies w (qf_M_takesBranch st w (qf_M_valueT st w + qf_M_valueA st w)))) (qx_kV hts mw_310 mw_210 mw_211 mw_31 mw_212 cd_F_moveOnTo ⟨Nat.le_of_ble_eq_true rfl, Nat.le_of_ble_eq_true rfl⟩) (qx_preV (q0 := 4) (ci := 2) (q := (R_F, T_F, 4)) hP hD hK hN [4] rfl rfl rfl rfl) rfl rfl hl.1 rfl (lv_room (Nat.le_of_ble_eq_true rfl)) d_M_branch_101 ⟨Nat.zero_le _, Nat.zero_le _⟩) hP hD hS [4] rfl rfl [ad 0, ad 1, ad 2, ad 3, ad 4, ad 5] rfl rfl (fun zz2 hzz2 H locs hP hD hS => ?_)
        have hP : va_P D vwCl (qw_M ad cA (qm_M_fl zz1 zz2)) H := hP
        have hD : va_D A (qw_M ad cA (qm_M_fl zz1 zz2)) := hD
        refine W.eq (g2 := F0 m 104 ls []) rfl ?_
        subst hzz2
        subst hzz1
        have e9 : (qm_M_fl (qf_M_setT st w (qf_M_valueT st w + qf_M_valueA st w)) (qf_F_moveOnTo (qf_M_setT st w (qf_M_valueT st w + qf_M_valueA st w)).2.2.2.1 (qf_M_targetOf st w) (qf_M_branchNullifies w (qf_M_takesBranch st w (qf_M_valueT st w + qf_M_valueA st w))))) = qf_M_branch st w := (by unfold qf_M_branch; rw [if_neg h1, if_neg h4, if_pos h5])
        exact W.vret hx hb hr (fun t ht hW => ⟨rfl, (by rw [ht, ← e9]; exact hP), hS.F ht⟩) hS.2.2 d_M_branch_104
    · have h4 : qf_Pa_kind w = 13 := h4
      refine lv_aload_n hx hb d_M_branch_56 rfl (lv_at hl 4 rfl) ?_
      refine lv_iload_n hx hb d_M_branch_57 rfl (lv_at hl 5 rfl) ?_
      refine lv_aload_n hx hb d_M_branch_58 rfl (lv_at hl 4 rfl) ?_
      refine va_get (D := D) (ci := 1) (v := .ref (ad 4)) (C := R_M) (T := T_M) (N := 7) hx hb hts in_M hown hK hP 0 rfl rfl 3 (by decide) (hts (Cond.fieldLink R_M 24 "QueuedFronts$Machine" "flow" "LQueuedFronts$Flow;") mw_101) (fun _ h9 => h9) rfl d_M_branch_59 ?_
      refine va_get (D := D) (ci := 2) (v := .int st.2.2.2.1.2.1) (C := R_F) (T := T_F) (N := 4) hx hb hts in_F hown hK hP 4 rfl rfl 1 (by decide) (hts (Cond.fieldLink R_M 139 "QueuedFronts$Flow" "back" "I") mw_62) (fun _ h9 => h9) rfl d_M_branch_62 ?_
      refine qx_rd (va_runS (As := [.int st.2.2.2.1.2.1]) (rest := [.int w, .ref (ad 0)]) ⟨hx, hb, hml, hown, hts⟩ (c_Pl_behind l D cA st.2.2.2.1.2.1) (qx_kS hts mw_306 mw_84 mw_32 mw_85 cd_Pl_behind ⟨Nat.le_of_ble_eq_true rfl, Nat.le_of_ble_eq_true rfl⟩) (qx_preS hP hD hK hN [] rfl rfl) rfl rfl hl.1 rfl (lv_room (Nat.le_of_ble_eq_true rfl)) d_M_branch_65 ⟨Nat.zero_le _, Nat.zero_le _⟩) ?_
      refine qx_rd (va_runS (As := [.int (qf_Pl_behind st.2.2.2.1.2.1)]) (rest := [.int w, .ref (ad 0)]) ⟨hx, hb, hml, hown, hts⟩ (c_Pl_offsetOf l D cA (qf_Pl_behind st.2.2.2.1.2.1)) (qx_kS hts mw_305 mw_90 mw_32 mw_91 cd_Pl_offsetOf ⟨Nat.le_of_ble_eq_true rfl, Nat.le_of_ble_eq_true rfl⟩) (qx_preS hP hD hK hN [] rfl rfl) rfl rfl hl.1 rfl (lv_room (Nat.le_of_ble_eq_true rfl)) d_M_branch_68 ⟨Nat.zero_le _, Nat.zero_le _⟩) ?_
      refine qx_muZ (T := qf_M_setT st w (qf_Pl_offsetOf (qf_Pl_behind st.2.2.2.1.2.1))) (Wf := fun zz : qs_M => qw_M ad cA zz) (vf := fun _ => none) (va_runV (As := [.int w, .int (qf_Pl_offsetOf (qf_Pl_behind st.2.2.2.1.2.1))]) (rest := []) ⟨hx, hb, hml, hown, hts⟩ (c_M_setT l D cA ad st w (qf_Pl_offsetOf (qf_Pl_behind st.2.2.2.1.2.1))) (qx_kV hts mw_268 mw_270 mw_5 mw_30 mw_271 cd_M_setT ⟨Nat.le_of_ble_eq_true rfl, Nat.le_of_ble_eq_true rfl⟩) (qx_preV (q0 := 0) (ci := 1) (q := (R_M, T_M, 7)) hP hD hK hN [0, 1, 2, 3, 4, 5] rfl rfl rfl rfl) rfl rfl hl.1 rfl (lv_room (Nat.le_of_ble_eq_true rfl)) d_M_branch_71 ⟨Nat.zero_le _, Nat.zero_le _⟩) hP hD hS [0, 1, 2, 3, 4, 5] rfl rfl [ad 0, ad 1, ad 2, ad 3, ad 4, ad 5] rfl rfl (fun zz1 hzz1 H locs hP hD hS => ?_)
      have hP : va_P D vwCl (qw_M ad cA zz1) H := hP
      have hD : va_D A (qw_M ad cA zz1) := hD
      refine W.eq (g2 := F0 m 74 ls []) rfl ?_
      refine lv_goto (tgt := 89) hx hb d_M_branch_74 (by decide) ?_
      refine lv_aload_n hx hb d_M_branch_89 rfl (lv_at hl 4 rfl) ?_
      refine va_get (D := D) (ci := 1) (v := .ref (ad 4)) (C := R_M) (T := T_M) (N := 7) hx hb hts in_M hown hK hP 0 rfl rfl 3 (by decide) (hts (Cond.fieldLink R_M 24 "QueuedFronts$Machine" "flow" "LQueuedFronts$Flow;") mw_101) (fun _ h9 => h9) rfl d_M_branch_90 ?_
      refine lv_iload hx hb d_M_branch_93 (lv_at hl 0 rfl) ?_
      refine lv_iload_n hx hb d_M_branch_95 rfl (lv_at hl 5 rfl) ?_
      refine lv_iload hx hb d_M_branch_96 (lv_at hl 1 rfl) ?_
      refine qx_rd (va_runS (As := [.int w, .int (qf_M_takesBranch st w (qf_M_valueT st w + qf_M_valueA st w))]) (rest := [.int (qf_M_targetOf st w), .ref (ad 4)]) ⟨hx, hb, hml, hown, hts⟩ (c_M_branchNullifies l D cA w (qf_M_takesBranch st w (qf_M_valueT st w + qf_M_valueA st w))) (qx_kS hts mw_307 mw_308 mw_30 mw_309 cd_M_branchNullifies ⟨Nat.le_of_ble_eq_true rfl, Nat.le_of_ble_eq_true rfl⟩) (qx_preS hP hD hK hN [] rfl rfl) rfl rfl hl.1 rfl (lv_room (Nat.le_of_ble_eq_true rfl)) d_M_branch_98 ⟨Nat.zero_le _, Nat.zero_le _⟩) ?_
      refine qx_muZ (T := qf_F_moveOnTo zz1.2.2.2.1 (qf_M_targetOf st w) (qf_M_branchNullifies w (qf_M_takesBranch st w (qf_M_valueT st w + qf_M_valueA st w)))) (Wf := fun zz : qs_F => qw_M ad cA (qm_M_fl zz1 zz)) (vf := fun _ => none) (va_runV (As := [.int (qf_M_targetOf st w), .int (qf_M_branchNullifies w (qf_M_takesBranch st w (qf_M_valueT st w + qf_M_valueA st w)))]) (rest := []) ⟨hx, hb, hml, hown, hts⟩ (c_F_moveOnTo l D cA (ad 4) zz1.2.2.2.1 (qf_M_targetOf st w) (qf_M_branchNullifies w (qf_M_takesBranch st w (qf_M_valueT st w + qf_M_valueA st w)))) (qx_kV hts mw_310 mw_210 mw_211 mw_31 mw_212 cd_F_moveOnTo ⟨Nat.le_of_ble_eq_true rfl, Nat.le_of_ble_eq_true rfl⟩) (qx_preV (q0 := 4) (ci := 2) (q := (R_F, T_F, 4)) hP hD hK hN [4] rfl rfl rfl rfl) rfl rfl hl.1 rfl (lv_room (Nat.le_of_ble_eq_true rfl)) d_M_branch_101 ⟨Nat.zero_le _, Nat.zero_le _⟩) hP hD hS [4] rfl rfl [ad 0, ad 1, ad 2, ad 3, ad 4, ad 5] rfl rfl (fun zz2 hzz2 H locs hP hD hS => ?_)
      have hP : va_P D vwCl (qw_M ad cA (qm_M_fl zz1 zz2)) H := hP
      have hD : va_D A (qw_M ad cA (qm_M_fl zz1 zz2)) := hD
      refine W.eq (g2 := F0 m 104 ls []) rfl ?_
      subst hzz2
      subst hzz1
      have e9 : (qm_M_fl (qf_M_setT st w (qf_Pl_offsetOf (qf_Pl_behind st.2.2.2.1.2.1))) (qf_F_moveOnTo (qf_M_setT st w (qf_Pl_offsetOf (qf_Pl_behind st.2.2.2.1.2.1))).2.2.2.1 (qf_M_targetOf st w) (qf_M_branchNullifies w (qf_M_takesBranch st w (qf_M_valueT st w + qf_M_valueA st w))))) = qf_M_branch st w := (by unfold qf_M_branch; rw [if_neg h1, if_pos h4])
      exact W.vret hx hb hr (fun t ht hW => ⟨rfl, (by rw [ht, ← e9]; exact hP), hS.F ht⟩) hS.2.2 d_M_branch_104
