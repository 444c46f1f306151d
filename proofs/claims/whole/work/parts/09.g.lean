def qf_M_perform (st : qs_M) (w : Int32) : qs_M :=
  if 10 < qf_Pa_kind w then (if 12 < qf_Pa_kind w then (if 17 < qf_Pa_kind w then (if qf_Pa_kind w = 21 then (qm_M_fl st (qf_F_become st.2.2.2.1 st.2.2.2.2.1))
        else (qf_M_control st w))
      else (qf_M_branch st w))
    else (qf_M_moveData st w))
  else (qf_M_reckon st w)
set_option maxHeartbeats 4000000 in
set_option maxRecDepth 100000 in
theorem c_M_perform (l : Launch) (D : va_G) (cA : ClassId) (ad : Nat → Nat) (st : qs_M) (w : Int32) (hs : ∀ k : Nat, k < 4 → vp_in (st.2.1 k) 4) : Met l y_M_perform (Cond.code y_M_perform b_M_perform 3 none :: qx_T) ({ frames := 4, cells := 0, slots := 0, locals := 89 }) (qx_Pc D vwCl [(cA, .int)] (qw_M ad cA st) [.ref (ad 0), .int w]) (qx_Q D vwCl (qw_M ad cA (qf_M_perform st w)) (qx_ad (qw_M ad cA st)) none) 0 0 (qx_ad (qw_M ad cA st)) := by
  refine Met.ofW (cc := b_M_perform) (maxL := 3) (ret := none) (by decide) rfl ?_
  intro p e s m args below meth c s₁ B hml hv
  obtain ⟨rfl, hP, hK, hN, hD0⟩ := hv
  have hx := B.exec
  have hb := B.bytes
  have hr := B.returns
  have hts0 := atoms_spec (ws := Cond.code y_M_perform b_M_perform 3 none :: qx_T) B.pre
  have hts := fun w h => hts0 w (List.mem_cons_of_mem _ h)
  have hown : s.vm.findClass R_M = some m.cls := findClass_of_methodNamed B.named
  have hlocks := B.notSynchronized
  have hD : va_D (qx_ad (qw_M ad cA st)) (qw_M ad cA st) := ⟨hD0.1, fun k q hk => ⟨k, q.2, hk⟩⟩
  generalize hAe : qx_ad (qw_M ad cA st) = A at hD ⊢
  have hS : va_S A s.heap s.heap [] := va_S.rf
  have hl := lv_entry ([.ref (ad 0), .int w]) (n := 3) (Nat.le_of_ble_eq_true rfl)
  rw [lg_entry_eq]
  generalize (lg_sl ([.ref (ad 0), .int w]) ++ List.replicate (3 - (lg_sl ([.ref (ad 0), .int w])).length) Slot.unset).toArray = ls at hl ⊢
  have hl : lv_has ls 3 [(0, .ref (ad 0)), (1, .int w)] := hl
  refine lv_iload_n hx hb d_M_perform_0 rfl (lv_at hl 1 rfl) ?_
  refine qx_rd (va_runS (As := [.int w]) (rest := []) ⟨hx, hb, hml, hown, hts⟩ (c_Pa_kind l D cA w) (qx_kS hts mw_217 mw_218 mw_34 mw_219 cd_Pa_kind ⟨Nat.le_of_ble_eq_true rfl, Nat.le_of_ble_eq_true rfl⟩) (qx_preS hP hD hK hN [] rfl rfl) rfl rfl hl.1 rfl (lv_room (Nat.le_of_ble_eq_true rfl)) d_M_perform_1 ⟨Nat.zero_le _, Nat.zero_le _⟩) ?_
  refine lv_istore_n (lv' := [(2, .int (qf_Pa_kind w)), (0, .ref (ad 0)), (1, .int w)]) hx hb d_M_perform_4 rfl hl (by decide) rfl (fun ls hl => ?_)
  refine lv_iload_n hx hb d_M_perform_5 rfl (lv_at hl 0 rfl) ?_
  refine lv_bipush (v := 10) hx hb d_M_perform_6 (by decide) ?_
  refine lv_icmp_gt (tgt := 19) hx hb d_M_perform_8 (by decide) (fun h1 => ?_) (fun h1 => ?_)
  · have h1 : 10 < qf_Pa_kind w := h1
    refine lv_iload_n hx hb d_M_perform_19 rfl (lv_at hl 0 rfl) ?_
    refine lv_bipush (v := 12) hx hb d_M_perform_20 (by decide) ?_
    refine lv_icmp_gt (tgt := 33) hx hb d_M_perform_22 (by decide) (fun h2 => ?_) (fun h2 => ?_)
    · have h2 : 12 < qf_Pa_kind w := h2
      refine lv_iload_n hx hb d_M_perform_33 rfl (lv_at hl 0 rfl) ?_
      refine lv_bipush (v := 17) hx hb d_M_perform_34 (by decide) ?_
      refine lv_icmp_gt (tgt := 47) hx hb d_M_perform_36 (by decide) (fun h3 => ?_) (fun h3 => ?_)
      · have h3 : 17 < qf_Pa_kind w := h3
        refine lv_iload_n hx hb d_M_perform_47 rfl (lv_at hl 0 rfl) ?_
        refine lv_bipush (v := 21) hx hb d_M_perform_48 (by decide) ?_
        refine lv_icmp_ne (tgt := 67) hx hb d_M_perform_50 (by decide) (fun h4 => ?_) (fun h4 => ?_)
        · have h4 : ¬ (qf_Pa_kind w = 21) := h4
          refine lv_aload_n hx hb d_M_perform_67 rfl (lv_at hl 1 rfl) ?_
          refine lv_iload_n hx hb d_M_perform_68 rfl (lv_at hl 2 rfl) ?_
          refine qx_muZ (T := qf_M_control st w) (Wf := fun zz : qs_M => qw_M ad cA zz) (vf := fun _ => none) (va_runV (As := [.int w]) (rest := []) ⟨hx, hb, hml, hown, hts⟩ (c_M_control l D cA ad st w) (qx_kV hts mw_311 mw_313 mw_12 mw_30 mw_314 cd_M_control ⟨Nat.le_of_ble_eq_true rfl, Nat.le_of_ble_eq_true rfl⟩) (qx_preV (q0 := 0) (ci := 1) (q := (R_M, T_M, 7)) hP hD hK hN [0, 1, 2, 3, 4, 5] rfl rfl rfl rfl) rfl rfl hl.1 rfl (lv_room (Nat.le_of_ble_eq_true rfl)) d_M_perform_69 ⟨Nat.zero_le _, Nat.zero_le _⟩) hP hD hS [0, 1, 2, 3, 4, 5] rfl rfl [ad 0, ad 1, ad 2, ad 3, ad 4, ad 5] rfl rfl (fun zz1 hzz1 H locs hP hD hS => ?_)
          have hP : va_P D vwCl (qw_M ad cA zz1) H := hP
          have hD : va_D A (qw_M ad cA zz1) := hD
          refine W.eq (g2 := F0 m 72 ls []) rfl ?_
          subst hzz1
          have e9 : (qf_M_control st w) = qf_M_perform st w := (by unfold qf_M_perform; rw [if_pos h1, if_pos h2, if_pos h3, if_neg h4])
          exact W.vret hx hb hr (fun t ht hW => ⟨rfl, (by rw [ht, ← e9]; exact hP), hS.F ht⟩) hS.2.2 d_M_perform_72
        · have h4 : qf_Pa_kind w = 21 := h4
          refine lv_aload_n hx hb d_M_perform_53 rfl (lv_at hl 1 rfl) ?_
          refine va_get (D := D) (ci := 1) (v := .ref (ad 4)) (C := R_M) (T := T_M) (N := 7) hx hb hts in_M hown hK hP 0 rfl rfl 3 (by decide) (hts (Cond.fieldLink R_M 24 "QueuedFronts$Machine" "flow" "LQueuedFronts$Flow;") mw_101) (fun _ h9 => h9) rfl d_M_perform_54 ?_
          refine lv_aload_n hx hb d_M_perform_57 rfl (lv_at hl 1 rfl) ?_
          refine va_get (D := D) (ci := 1) (v := .ref (ad 5)) (C := R_M) (T := T_M) (N := 7) hx hb hts in_M hown hK hP 0 rfl rfl 4 (by decide) (hts (Cond.fieldLink R_M 28 "QueuedFronts$Machine" "saved" "LQueuedFronts$Flow;") mw_103) (fun _ h9 => h9) rfl d_M_perform_58 ?_
          refine qx_muZ (T := qf_F_become st.2.2.2.1 st.2.2.2.2.1) (Wf := fun zz : qs_F => qw_M ad cA (qm_M_fl st zz)) (vf := fun _ => none) (va_runV (As := [.ref (ad 5)]) (rest := []) ⟨hx, hb, hml, hown, hts⟩ (c_F_become l D cA (ad 4) (ad 5) st.2.2.2.1 st.2.2.2.2.1) (qx_kV hts mw_200 mw_201 mw_202 mw_31 mw_203 cd_F_become ⟨Nat.le_of_ble_eq_true rfl, Nat.le_of_ble_eq_true rfl⟩) (qx_preV (q0 := 4) (ci := 2) (q := (R_F, T_F, 4)) hP hD hK hN [4, 5] rfl rfl rfl rfl) rfl rfl hl.1 rfl (lv_room (Nat.le_of_ble_eq_true rfl)) d_M_perform_61 ⟨Nat.zero_le _, Nat.zero_le _⟩) hP hD hS [4, 5] rfl rfl [ad 0, ad 1, ad 2, ad 3, ad 4, ad 5] rfl rfl (fun zz1 hzz1 H locs hP hD hS => ?_)
          have hP : va_P D vwCl (qw_M ad cA (qm_M_fl st zz1)) H := hP
          have hD : va_D A (qw_M ad cA (qm_M_fl st zz1)) := hD
          refine W.eq (g2 := F0 m 64 ls []) rfl ?_
          refine lv_goto (tgt := 72) hx hb d_M_perform_64 (by decide) ?_
          subst hzz1
          have e9 : (qm_M_fl st (qf_F_become st.2.2.2.1 st.2.2.2.2.1)) = qf_M_perform st w := (by unfold qf_M_perform; rw [if_pos h1, if_pos h2, if_pos h3, if_pos h4])
          exact W.vret hx hb hr (fun t ht hW => ⟨rfl, (by rw [ht, ← e9]; exact hP), hS.F ht⟩) hS.2.2 d_M_perform_72
      · have h3 : ¬ (17 < qf_Pa_kind w) := h3
        refine lv_aload_n hx hb d_M_perform_39 rfl (lv_at hl 1 rfl) ?_
        refine lv_iload_n hx hb d_M_perform_40 rfl (lv_at hl 2 rfl) ?_
        refine qx_muZ (T := qf_M_branch st w) (Wf := fun zz : qs_M => qw_M ad cA zz) (vf := fun _ => none) (va_runV (As := [.int w]) (rest := []) ⟨hx, hb, hml, hown, hts⟩ (c_M_branch l D cA ad st w) (qx_kV hts mw_292 mw_294 mw_9 mw_30 mw_295 cd_M_branch ⟨Nat.le_of_ble_eq_true rfl, Nat.le_of_ble_eq_true rfl⟩) (qx_preV (q0 := 0) (ci := 1) (q := (R_M, T_M, 7)) hP hD hK hN [0, 1, 2, 3, 4, 5] rfl rfl rfl rfl) rfl rfl hl.1 rfl (lv_room (Nat.le_of_ble_eq_true rfl)) d_M_perform_41 ⟨Nat.zero_le _, Nat.zero_le _⟩) hP hD hS [0, 1, 2, 3, 4, 5] rfl rfl [ad 0, ad 1, ad 2, ad 3, ad 4, ad 5] rfl rfl (fun zz1 hzz1 H locs hP hD hS => ?_)
        have hP : va_P D vwCl (qw_M ad cA zz1) H := hP
        have hD : va_D A (qw_M ad cA zz1) := hD
        refine W.eq (g2 := F0 m 44 ls []) rfl ?_
        refine lv_goto (tgt := 72) hx hb d_M_perform_44 (by decide) ?_
        subst hzz1
        have e9 : (qf_M_branch st w) = qf_M_perform st w := (by unfold qf_M_perform; rw [if_pos h1, if_pos h2, if_neg h3])
        exact W.vret hx hb hr (fun t ht hW => ⟨rfl, (by rw [ht, ← e9]; exact hP), hS.F ht⟩) hS.2.2 d_M_perform_72
    · have h2 : ¬ (12 < qf_Pa_kind w) := h2
      refine lv_aload_n hx hb d_M_perform_25 rfl (lv_at hl 1 rfl) ?_
      refine lv_iload_n hx hb d_M_perform_26 rfl (lv_at hl 2 rfl) ?_
      refine qx_muZ (T := qf_M_moveData st w) (Wf := fun zz : qs_M => qw_M ad cA zz) (vf := fun _ => none) (va_runV (As := [.int w]) (rest := []) ⟨hx, hb, hml, hown, hts⟩ (c_M_moveData l D cA ad st w hs) (qx_kV hts mw_276 mw_278 mw_6 mw_30 mw_279 cd_M_moveData ⟨Nat.le_of_ble_eq_true rfl, Nat.le_of_ble_eq_true rfl⟩) (qx_preV (q0 := 0) (ci := 1) (q := (R_M, T_M, 7)) hP hD hK hN [0, 1, 2, 3, 4, 5] rfl rfl rfl rfl) rfl rfl hl.1 rfl (lv_room (Nat.le_of_ble_eq_true rfl)) d_M_perform_27 ⟨Nat.zero_le _, Nat.zero_le _⟩) hP hD hS [0, 1, 2, 3, 4, 5] rfl rfl [ad 0, ad 1, ad 2, ad 3, ad 4, ad 5] rfl rfl (fun zz1 hzz1 H locs hP hD hS => ?_)
      have hP : va_P D vwCl (qw_M ad cA zz1) H := hP
      have hD : va_D A (qw_M ad cA zz1) := hD
      refine W.eq (g2 := F0 m 30 ls []) rfl ?_
      refine lv_goto (tgt := 72) hx hb d_M_perform_30 (by decide) ?_
      subst hzz1
      have e9 : (qf_M_moveData st w) = qf_M_perform st w := (by unfold qf_M_perform; rw [if_pos h1, if_neg h2])
      exact W.vret hx hb hr (fun t ht hW => ⟨rfl, (by rw [ht, ← e9]; exact hP), hS.F ht⟩) hS.2.2 d_M_perform_72
  · have h1 : ¬ (10 < qf_Pa_kind w) := h1
    refine lv_aload_n hx hb d_M_perform_11 rfl (lv_at hl 1 rfl) ?_
    refine lv_iload_n hx hb d_M_perform_12 rfl (lv_at hl 2 rfl) ?_
    refine qx_muZ (T := qf_M_reckon st w) (Wf := fun zz : qs_M => qw_M ad cA zz) (vf := fun _ => none) (va_runV (As := [.int w]) (rest := []) ⟨hx, hb, hml, hown, hts⟩ (c_M_reckon l D cA ad st w) (qx_kV hts mw_245 mw_247 mw_4 mw_30 mw_248 cd_M_reckon ⟨Nat.le_of_ble_eq_true rfl, Nat.le_of_ble_eq_true rfl⟩) (qx_preV (q0 := 0) (ci := 1) (q := (R_M, T_M, 7)) hP hD hK hN [0, 1, 2, 3, 4, 5] rfl rfl rfl rfl) rfl rfl hl.1 rfl (lv_room (Nat.le_of_ble_eq_true rfl)) d_M_perform_13 ⟨Nat.zero_le _, Nat.zero_le _⟩) hP hD hS [0, 1, 2, 3, 4, 5] rfl rfl [ad 0, ad 1, ad 2, ad 3, ad 4, ad 5] rfl rfl (fun zz1 hzz1 H locs hP hD hS => ?_)
    have hP : va_P D vwCl (qw_M ad cA zz1) H := hP
    have hD : va_D A (qw_M ad cA zz1) := hD
    refine W.eq (g2 := F0 m 16 ls []) rfl ?_
    refine lv_goto (tgt := 72) hx hb d_M_perform_16 (by decide) ?_
    subst hzz1
    have e9 : (qf_M_reckon st w) = qf_M_perform st w := (by unfold qf_M_perform; rw [if_neg h1])
    exact W.vret hx hb hr (fun t ht hW => ⟨rfl, (by rw [ht, ← e9]; exact hP), hS.F ht⟩) hS.2.2 d_M_perform_72
