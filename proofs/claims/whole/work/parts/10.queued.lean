def qf_Q_trap (st : qs_Q) (x : Int32) : qs_Q × Int32 :=
  ((qm_Q_m (qm_Q_cn st (upd st.2.1 (Int32.toNatClampNeg x) ((st.2.1 (Int32.toNatClampNeg x)) + 1))) (qf_M_enterTrap st.2.2.1 x)), x)
set_option maxHeartbeats 4000000 in
set_option maxRecDepth 100000 in
theorem c_Q_trap (l : Launch) (D : va_G) (cA : ClassId) (ad : Nat → Nat) (st : qs_Q) (x : Int32) (hx7 : vp_in x 7) : Met l y_Q_trap (Cond.code y_Q_trap b_Q_trap 2 (some .int) :: qx_T) ({ frames := 4, cells := 0, slots := 0, locals := 84 }) (qx_Pc D vwCl [(cA, .int)] (qw_Q ad cA st) [.ref (ad 0), .int x]) (qx_Q D vwCl (qw_Q ad cA ((qf_Q_trap st x).1)) (qx_ad (qw_Q ad cA st)) (some (.int (qf_Q_trap st x).2))) 0 0 (qx_ad (qw_Q ad cA st)) := by
  refine Met.ofW (cc := b_Q_trap) (maxL := 2) (ret := (some .int)) (by decide) rfl ?_
  intro p e s m args below meth c s₁ B hml hv
  obtain ⟨rfl, hP, hK, hN, hD0⟩ := hv
  have hx := B.exec
  have hb := B.bytes
  have hr := B.returns
  have hts0 := atoms_spec (ws := Cond.code y_Q_trap b_Q_trap 2 (some .int) :: qx_T) B.pre
  have hts := fun w h => hts0 w (List.mem_cons_of_mem _ h)
  have hown : s.vm.findClass R_Q = some m.cls := findClass_of_methodNamed B.named
  have hlocks := B.notSynchronized
  have hD : va_D (qx_ad (qw_Q ad cA st)) (qw_Q ad cA st) := ⟨hD0.1, fun k q hk => ⟨k, q.2, hk⟩⟩
  generalize hAe : qx_ad (qw_Q ad cA st) = A at hD ⊢
  have hS : va_S A s.heap s.heap [] := va_S.rf
  have hl := lv_entry ([.ref (ad 0), .int x]) (n := 2) (Nat.le_of_ble_eq_true rfl)
  rw [lg_entry_eq]
  generalize (lg_sl ([.ref (ad 0), .int x]) ++ List.replicate (2 - (lg_sl ([.ref (ad 0), .int x])).length) Slot.unset).toArray = ls at hl ⊢
  have hl : lv_has ls 2 [(0, .ref (ad 0)), (1, .int x)] := hl
  refine lv_aload_n hx hb d_Q_trap_0 rfl (lv_at hl 0 rfl) ?_
  refine va_get (D := D) (ci := 0) (v := .ref (ad 2)) (C := R_Q) (T := T_Q) (N := 5) hx hb hts in_Q hown hK hP 0 rfl rfl 1 (by decide) (hts (Cond.fieldLink R_Q 13 "QueuedFronts" "counts" "[I") mw_125) (fun _ h9 => h9) rfl d_Q_trap_1 ?_
  refine lv_iload_n hx hb d_Q_trap_4 rfl (lv_at hl 1 rfl) ?_
  refine lv_dup2_11 hx hb d_Q_trap_5 rfl rfl ?_
  refine va_iald hx hb hK hP 2 0 rfl rfl (show vp_in x 7 from hx7) d_Q_trap_6 ?_
  refine lv_iconst (v := 1) hx hb d_Q_trap_7 (by decide) ?_
  refine lv_iadd hx hb d_Q_trap_8 ?_
  refine va_iast hx hb hK hP hD hS 2 0 rfl rfl (show vp_in x 7 from hx7) d_Q_trap_9 (fun H locs hP hD hS => ?_)
  have hP : va_P D vwCl (qw_Q ad cA (qm_Q_cn st (upd st.2.1 (Int32.toNatClampNeg x) ((st.2.1 (Int32.toNatClampNeg x)) + 1)))) H := hP
  have hD : va_D A (qw_Q ad cA (qm_Q_cn st (upd st.2.1 (Int32.toNatClampNeg x) ((st.2.1 (Int32.toNatClampNeg x)) + 1)))) := hD
  refine lv_aload_n hx hb d_Q_trap_10 rfl (lv_at hl 0 rfl) ?_
  refine va_get (D := D) (ci := 0) (v := .ref (ad 3)) (C := R_Q) (T := T_Q) (N := 5) hx hb hts in_Q hown hK hP 0 rfl rfl 2 (by decide) (hts (Cond.fieldLink R_Q 19 "QueuedFronts" "now" "LQueuedFronts$Machine;") mw_126) (fun _ h9 => h9) rfl d_Q_trap_11 ?_
  refine lv_iload_n hx hb d_Q_trap_14 rfl (lv_at hl 1 rfl) ?_
  refine qx_muZ (T := qf_M_enterTrap st.2.2.1 x) (Wf := fun zz : qs_M => qw_Q ad cA (qm_Q_m (qm_Q_cn st (upd st.2.1 (Int32.toNatClampNeg x) ((st.2.1 (Int32.toNatClampNeg x)) + 1))) zz)) (vf := fun _ => none) (va_runV (As := [.int x]) (rest := []) ⟨hx, hb, hml, hown, hts⟩ (c_M_enterTrap l D cA (qa ad 3) st.2.2.1 x) (qx_kV hts mw_196 mw_197 mw_198 mw_30 mw_199 cd_M_enterTrap ⟨Nat.le_of_ble_eq_true rfl, Nat.le_of_ble_eq_true rfl⟩) (qx_preV (q0 := 3) (ci := 1) (q := (R_M, T_M, 7)) hP hD hK hN [3, 4, 5, 6, 7, 8] rfl rfl rfl rfl) rfl rfl hl.1 rfl (lv_room (Nat.le_of_ble_eq_true rfl)) d_Q_trap_15 ⟨Nat.zero_le _, Nat.zero_le _⟩) hP hD hS [3, 4, 5, 6, 7, 8] rfl rfl [ad 0, ad 1, ad 2, ad 3, ad 4, ad 5, ad 6, ad 7, ad 8, ad 9, ad 10, ad 11, ad 12, ad 13, ad 14] rfl rfl (fun zz1 hzz1 H locs hP hD hS => ?_)
  have hP : va_P D vwCl (qw_Q ad cA (qm_Q_m (qm_Q_cn st (upd st.2.1 (Int32.toNatClampNeg x) ((st.2.1 (Int32.toNatClampNeg x)) + 1))) zz1)) H := hP
  have hD : va_D A (qw_Q ad cA (qm_Q_m (qm_Q_cn st (upd st.2.1 (Int32.toNatClampNeg x) ((st.2.1 (Int32.toNatClampNeg x)) + 1))) zz1)) := hD
  refine W.eq (g2 := F0 m 18 ls []) rfl ?_
  refine lv_iload_n hx hb d_Q_trap_18 rfl (lv_at hl 1 rfl) ?_
  subst hzz1
  have e9 : ((qm_Q_m (qm_Q_cn st (upd st.2.1 (Int32.toNatClampNeg x) ((st.2.1 (Int32.toNatClampNeg x)) + 1))) (qf_M_enterTrap st.2.2.1 x)), x) = qf_Q_trap st x := rfl
  exact W.iret hx hb hr (fun t ht hW => ⟨(by rw [← e9]), (by rw [ht, ← e9]; exact hP), hS.F ht⟩) hS.2.2 d_Q_trap_19
def qf_Q_step (st : qs_Q) : qs_Q × Int32 :=
  if st.2.2.1.2.2.2.2.2.2 = 1 then (if st.2.2.1.2.2.2.1.2.2.2 = 1 then ((qf_Q_trap (qm_Q_m (qm_Q_cn st (upd st.2.1 0 ((st.2.1 0) + 1))) (qm_M_pd st.2.2.1 0)) (1 : Int32)).1, (qf_Q_trap (qm_Q_m (qm_Q_cn st (upd st.2.1 0 ((st.2.1 0) + 1))) (qm_M_pd st.2.2.1 0)) (1 : Int32)).2)
    else if st.2.2.1.2.2.2.1.2.2.1 = 1 then ((qm_Q_m (qm_Q_cn st (upd (upd st.2.1 0 ((st.2.1 0) + 1)) 6 ((st.2.1 6) + 1))) (qm_M_fl st.2.2.1 (qf_F_moveOn st.2.2.1.2.2.2.1 (0 : Int32)))), 0)
    else if qf_M_causeOf st.2.2.1 (st.1 (Int32.toNatClampNeg st.2.2.1.2.2.2.1.1)) = 0 then ((qm_Q_m (qm_Q_cn st (upd st.2.1 0 ((st.2.1 0) + 1))) (qf_M_perform st.2.2.1 (st.1 (Int32.toNatClampNeg st.2.2.1.2.2.2.1.1)))), 0)
    else ((qf_Q_trap (qm_Q_cn st (upd st.2.1 0 ((st.2.1 0) + 1))) (qf_M_causeOf st.2.2.1 (st.1 (Int32.toNatClampNeg st.2.2.1.2.2.2.1.1)))).1, (qf_Q_trap (qm_Q_cn st (upd st.2.1 0 ((st.2.1 0) + 1))) (qf_M_causeOf st.2.2.1 (st.1 (Int32.toNatClampNeg st.2.2.1.2.2.2.1.1)))).2))
  else if st.2.2.1.2.2.2.1.2.2.1 = 1 then ((qm_Q_m (qm_Q_cn st (upd (upd st.2.1 0 ((st.2.1 0) + 1)) 6 ((st.2.1 6) + 1))) (qm_M_fl st.2.2.1 (qf_F_moveOn st.2.2.1.2.2.2.1 (0 : Int32)))), 0)
  else if qf_M_causeOf st.2.2.1 (st.1 (Int32.toNatClampNeg st.2.2.1.2.2.2.1.1)) = 0 then ((qm_Q_m (qm_Q_cn st (upd st.2.1 0 ((st.2.1 0) + 1))) (qf_M_perform st.2.2.1 (st.1 (Int32.toNatClampNeg st.2.2.1.2.2.2.1.1)))), 0)
  else ((qf_Q_trap (qm_Q_cn st (upd st.2.1 0 ((st.2.1 0) + 1))) (qf_M_causeOf st.2.2.1 (st.1 (Int32.toNatClampNeg st.2.2.1.2.2.2.1.1)))).1, (qf_Q_trap (qm_Q_cn st (upd st.2.1 0 ((st.2.1 0) + 1))) (qf_M_causeOf st.2.2.1 (st.1 (Int32.toNatClampNeg st.2.2.1.2.2.2.1.1)))).2)
set_option maxHeartbeats 4000000 in
set_option maxRecDepth 100000 in
theorem c_Q_step (l : Launch) (D : va_G) (cA : ClassId) (ad : Nat → Nat) (st : qs_Q) (hf : vp_in st.2.2.1.2.2.2.1.1 128) (hs : ∀ k : Nat, k < 4 → vp_in (st.2.2.1.2.1 k) 4) : Met l y_Q_step (Cond.code y_Q_step b_Q_step 3 (some .int) :: qx_T) ({ frames := 5, cells := 0, slots := 0, locals := 111 }) (qx_Pc D vwCl [(cA, .int)] (qw_Q ad cA st) [.ref (ad 0)]) (qx_Q D vwCl (qw_Q ad cA ((qf_Q_step st).1)) (qx_ad (qw_Q ad cA st)) (some (.int (qf_Q_step st).2))) 0 0 (qx_ad (qw_Q ad cA st)) := by
  refine Met.ofW (cc := b_Q_step) (maxL := 3) (ret := (some .int)) (by decide) rfl ?_
  intro p e s m args below meth c s₁ B hml hv
  obtain ⟨rfl, hP, hK, hN, hD0⟩ := hv
  have hx := B.exec
  have hb := B.bytes
  have hr := B.returns
  have hts0 := atoms_spec (ws := Cond.code y_Q_step b_Q_step 3 (some .int) :: qx_T) B.pre
  have hts := fun w h => hts0 w (List.mem_cons_of_mem _ h)
  have hown : s.vm.findClass R_Q = some m.cls := findClass_of_methodNamed B.named
  have hlocks := B.notSynchronized
  have hD : va_D (qx_ad (qw_Q ad cA st)) (qw_Q ad cA st) := ⟨hD0.1, fun k q hk => ⟨k, q.2, hk⟩⟩
  generalize hAe : qx_ad (qw_Q ad cA st) = A at hD ⊢
  have hS : va_S A s.heap s.heap [] := va_S.rf
  have hl := lv_entry ([.ref (ad 0)]) (n := 3) (Nat.le_of_ble_eq_true rfl)
  rw [lg_entry_eq]
  generalize (lg_sl ([.ref (ad 0)]) ++ List.replicate (3 - (lg_sl ([.ref (ad 0)])).length) Slot.unset).toArray = ls at hl ⊢
  have hl : lv_has ls 3 [(0, .ref (ad 0))] := hl
  refine lv_aload_n hx hb d_Q_step_0 rfl (lv_at hl 0 rfl) ?_
  refine va_get (D := D) (ci := 0) (v := .ref (ad 2)) (C := R_Q) (T := T_Q) (N := 5) hx hb hts in_Q hown hK hP 0 rfl rfl 1 (by decide) (hts (Cond.fieldLink R_Q 13 "QueuedFronts" "counts" "[I") mw_125) (fun _ h9 => h9) rfl d_Q_step_1 ?_
  refine lv_iconst (v := 0) hx hb d_Q_step_4 (by decide) ?_
  refine lv_dup2_11 hx hb d_Q_step_5 rfl rfl ?_
  refine va_iald hx hb hK hP 2 0 rfl rfl (show vp_in (0 : Int32) 7 from qi_lit (by decide)) d_Q_step_6 ?_
  refine lv_iconst (v := 1) hx hb d_Q_step_7 (by decide) ?_
  refine lv_iadd hx hb d_Q_step_8 ?_
  refine va_iast hx hb hK hP hD hS 2 0 rfl rfl (show vp_in (0 : Int32) 7 from qi_lit (by decide)) d_Q_step_9 (fun H locs hP hD hS => ?_)
  have hP : va_P D vwCl (qw_Q ad cA (qm_Q_cn st (upd st.2.1 0 ((st.2.1 0) + 1)))) H := hP
  have hD : va_D A (qw_Q ad cA (qm_Q_cn st (upd st.2.1 0 ((st.2.1 0) + 1)))) := hD
  refine lv_aload_n hx hb d_Q_step_10 rfl (lv_at hl 0 rfl) ?_
  refine va_get (D := D) (ci := 0) (v := .ref (ad 3)) (C := R_Q) (T := T_Q) (N := 5) hx hb hts in_Q hown hK hP 0 rfl rfl 2 (by decide) (hts (Cond.fieldLink R_Q 19 "QueuedFronts" "now" "LQueuedFronts$Machine;") mw_126) (fun _ h9 => h9) rfl d_Q_step_11 ?_
  refine va_get (D := D) (ci := 1) (v := .int st.2.2.1.2.2.2.2.2.2) (C := R_M) (T := T_M) (N := 7) hx hb hts in_M hown hK hP 3 rfl rfl 6 (by decide) (hts (Cond.fieldLink R_Q 75 "QueuedFronts$Machine" "pending" "I") mw_108) (fun _ h9 => h9) rfl d_Q_step_14 ?_
  refine lv_iconst (v := 1) hx hb d_Q_step_17 (by decide) ?_
  refine lv_icmp_ne (tgt := 49) hx hb d_Q_step_18 (by decide) (fun h1 => ?_) (fun h1 => ?_)
  · have h1 : ¬ (st.2.2.1.2.2.2.2.2.2 = 1) := h1
    refine lv_aload_n hx hb d_Q_step_49 rfl (lv_at hl 0 rfl) ?_
    refine va_get (D := D) (ci := 0) (v := .ref (ad 3)) (C := R_Q) (T := T_Q) (N := 5) hx hb hts in_Q hown hK hP 0 rfl rfl 2 (by decide) (hts (Cond.fieldLink R_Q 19 "QueuedFronts" "now" "LQueuedFronts$Machine;") mw_126) (fun _ h9 => h9) rfl d_Q_step_50 ?_
    refine va_get (D := D) (ci := 1) (v := .ref (ad 7)) (C := R_M) (T := T_M) (N := 7) hx hb hts in_M hown hK hP 3 rfl rfl 3 (by decide) (hts (Cond.fieldLink R_Q 65 "QueuedFronts$Machine" "flow" "LQueuedFronts$Flow;") mw_102) (fun _ h9 => h9) rfl d_Q_step_53 ?_
    refine va_get (D := D) (ci := 2) (v := .int st.2.2.1.2.2.2.1.2.2.1) (C := R_F) (T := T_F) (N := 4) hx hb hts in_F hown hK hP 7 rfl rfl 2 (by decide) (hts (Cond.fieldLink R_Q 96 "QueuedFronts$Flow" "nullify" "I") mw_64) (fun _ h9 => h9) rfl d_Q_step_56 ?_
    refine lv_iconst (v := 1) hx hb d_Q_step_59 (by decide) ?_
    refine lv_icmp_ne (tgt := 87) hx hb d_Q_step_60 (by decide) (fun h2 => ?_) (fun h2 => ?_)
    · have h2 : ¬ (st.2.2.1.2.2.2.1.2.2.1 = 1) := h2
      refine lv_aload_n hx hb d_Q_step_87 rfl (lv_at hl 0 rfl) ?_
      refine va_get (D := D) (ci := 0) (v := .ref (ad 1)) (C := R_Q) (T := T_Q) (N := 5) hx hb hts in_Q hown hK hP 0 rfl rfl 0 (by decide) (hts (Cond.fieldLink R_Q 9 "QueuedFronts" "codeWords" "[I") mw_124) (fun _ h9 => h9) rfl d_Q_step_88 ?_
      refine lv_aload_n hx hb d_Q_step_91 rfl (lv_at hl 0 rfl) ?_
      refine va_get (D := D) (ci := 0) (v := .ref (ad 3)) (C := R_Q) (T := T_Q) (N := 5) hx hb hts in_Q hown hK hP 0 rfl rfl 2 (by decide) (hts (Cond.fieldLink R_Q 19 "QueuedFronts" "now" "LQueuedFronts$Machine;") mw_126) (fun _ h9 => h9) rfl d_Q_step_92 ?_
      refine va_get (D := D) (ci := 1) (v := .ref (ad 7)) (C := R_M) (T := T_M) (N := 7) hx hb hts in_M hown hK hP 3 rfl rfl 3 (by decide) (hts (Cond.fieldLink R_Q 65 "QueuedFronts$Machine" "flow" "LQueuedFronts$Flow;") mw_102) (fun _ h9 => h9) rfl d_Q_step_95 ?_
      refine va_get (D := D) (ci := 2) (v := .int st.2.2.1.2.2.2.1.1) (C := R_F) (T := T_F) (N := 4) hx hb hts in_F hown hK hP 7 rfl rfl 0 (by decide) (hts (Cond.fieldLink R_Q 83 "QueuedFronts$Flow" "front" "I") mw_58) (fun _ h9 => h9) rfl d_Q_step_98 ?_
      refine va_iald hx hb hK hP 1 0 rfl rfl (show vp_in st.2.2.1.2.2.2.1.1 128 from hf) d_Q_step_101 ?_
      refine lv_istore_n (lv' := [(1, .int (st.1 (Int32.toNatClampNeg st.2.2.1.2.2.2.1.1))), (0, .ref (ad 0))]) hx hb d_Q_step_102 rfl hl (by decide) rfl (fun ls hl => ?_)
      refine lv_aload_n hx hb d_Q_step_103 rfl (lv_at hl 1 rfl) ?_
      refine va_get (D := D) (ci := 0) (v := .ref (ad 3)) (C := R_Q) (T := T_Q) (N := 5) hx hb hts in_Q hown hK hP 0 rfl rfl 2 (by decide) (hts (Cond.fieldLink R_Q 19 "QueuedFronts" "now" "LQueuedFronts$Machine;") mw_126) (fun _ h9 => h9) rfl d_Q_step_104 ?_
      refine lv_iload_n hx hb d_Q_step_107 rfl (lv_at hl 0 rfl) ?_
      refine qx_rd (va_runV (As := [.int (st.1 (Int32.toNatClampNeg st.2.2.1.2.2.2.1.1))]) (rest := []) ⟨hx, hb, hml, hown, hts⟩ (c_M_causeOf l D cA (qa ad 3) st.2.2.1 (st.1 (Int32.toNatClampNeg st.2.2.1.2.2.2.1.1))) (qx_kV hts mw_213 mw_214 mw_215 mw_30 mw_216 cd_M_causeOf ⟨Nat.le_of_ble_eq_true rfl, Nat.le_of_ble_eq_true rfl⟩) (qx_preV (q0 := 3) (ci := 1) (q := (R_M, T_M, 7)) hP hD hK hN [3, 4, 5, 6, 7, 8] rfl rfl rfl rfl) rfl rfl hl.1 rfl (lv_room (Nat.le_of_ble_eq_true rfl)) d_Q_step_108 ⟨Nat.zero_le _, Nat.zero_le _⟩) ?_
      refine lv_istore_n (lv' := [(2, .int (qf_M_causeOf st.2.2.1 (st.1 (Int32.toNatClampNeg st.2.2.1.2.2.2.1.1)))), (1, .int (st.1 (Int32.toNatClampNeg st.2.2.1.2.2.2.1.1))), (0, .ref (ad 0))]) hx hb d_Q_step_111 rfl hl (by decide) rfl (fun ls hl => ?_)
      refine lv_iload_n hx hb d_Q_step_112 rfl (lv_at hl 0 rfl) ?_
      refine lv_if_eq (tgt := 122) hx hb d_Q_step_113 (by decide) (fun h3 => ?_) (fun h3 => ?_)
      · have h3 : qf_M_causeOf st.2.2.1 (st.1 (Int32.toNatClampNeg st.2.2.1.2.2.2.1.1)) = 0 := h3
        refine lv_aload_n hx hb d_Q_step_122 rfl (lv_at hl 2 rfl) ?_
        refine va_get (D := D) (ci := 0) (v := .ref (ad 3)) (C := R_Q) (T := T_Q) (N := 5) hx hb hts in_Q hown hK hP 0 rfl rfl 2 (by decide) (hts (Cond.fieldLink R_Q 19 "QueuedFronts" "now" "LQueuedFronts$Machine;") mw_126) (fun _ h9 => h9) rfl d_Q_step_123 ?_
        refine lv_iload_n hx hb d_Q_step_126 rfl (lv_at hl 1 rfl) ?_
        refine qx_muZ (T := qf_M_perform st.2.2.1 (st.1 (Int32.toNatClampNeg st.2.2.1.2.2.2.1.1))) (Wf := fun zz : qs_M => qw_Q ad cA (qm_Q_m (qm_Q_cn st (upd st.2.1 0 ((st.2.1 0) + 1))) zz)) (vf := fun _ => none) (va_runV (As := [.int (st.1 (Int32.toNatClampNeg st.2.2.1.2.2.2.1.1))]) (rest := []) ⟨hx, hb, hml, hown, hts⟩ (c_M_perform l D cA (qa ad 3) st.2.2.1 (st.1 (Int32.toNatClampNeg st.2.2.1.2.2.2.1.1)) hs) (qx_kV hts mw_241 mw_242 mw_243 mw_30 mw_244 cd_M_perform ⟨Nat.le_of_ble_eq_true rfl, Nat.le_of_ble_eq_true rfl⟩) (qx_preV (q0 := 3) (ci := 1) (q := (R_M, T_M, 7)) hP hD hK hN [3, 4, 5, 6, 7, 8] rfl rfl rfl rfl) rfl rfl hl.1 rfl (lv_room (Nat.le_of_ble_eq_true rfl)) d_Q_step_127 ⟨Nat.zero_le _, Nat.zero_le _⟩) hP hD hS [3, 4, 5, 6, 7, 8] rfl rfl [ad 0, ad 1, ad 2, ad 3, ad 4, ad 5, ad 6, ad 7, ad 8, ad 9, ad 10, ad 11, ad 12, ad 13, ad 14] rfl rfl (fun zz1 hzz1 H locs hP hD hS => ?_)
        have hP : va_P D vwCl (qw_Q ad cA (qm_Q_m (qm_Q_cn st (upd st.2.1 0 ((st.2.1 0) + 1))) zz1)) H := hP
        have hD : va_D A (qw_Q ad cA (qm_Q_m (qm_Q_cn st (upd st.2.1 0 ((st.2.1 0) + 1))) zz1)) := hD
        refine W.eq (g2 := F0 m 130 ls []) rfl ?_
        refine lv_iconst (v := 0) hx hb d_Q_step_130 (by decide) ?_
        subst hzz1
        have e9 : ((qm_Q_m (qm_Q_cn st (upd st.2.1 0 ((st.2.1 0) + 1))) (qf_M_perform st.2.2.1 (st.1 (Int32.toNatClampNeg st.2.2.1.2.2.2.1.1)))), 0) = qf_Q_step st := (by unfold qf_Q_step; rw [if_neg h1, if_neg h2, if_pos h3])
        exact W.iret hx hb hr (fun t ht hW => ⟨(by rw [← e9]), (by rw [ht, ← e9]; exact hP), hS.F ht⟩) hS.2.2 d_Q_step_131
      · have h3 : ¬ (qf_M_causeOf st.2.2.1 (st.1 (Int32.toNatClampNeg st.2.2.1.2.2.2.1.1)) = 0) := h3
        refine lv_aload_n hx hb d_Q_step_116 rfl (lv_at hl 2 rfl) ?_
        refine lv_iload_n hx hb d_Q_step_117 rfl (lv_at hl 0 rfl) ?_
        refine qx_muZ (T := qf_Q_trap (qm_Q_cn st (upd st.2.1 0 ((st.2.1 0) + 1))) (qf_M_causeOf st.2.2.1 (st.1 (Int32.toNatClampNeg st.2.2.1.2.2.2.1.1)))) (Wf := fun zz : qs_Q × Int32 => qw_Q ad cA zz.1) (vf := fun zz => some (.int zz.2)) (va_runV (As := [.int (qf_M_causeOf st.2.2.1 (st.1 (Int32.toNatClampNeg st.2.2.1.2.2.2.1.1)))]) (rest := []) ⟨hx, hb, hml, hown, hts⟩ (c_Q_trap l D cA ad (qm_Q_cn st (upd st.2.1 0 ((st.2.1 0) + 1))) (qf_M_causeOf st.2.2.1 (st.1 (Int32.toNatClampNeg st.2.2.1.2.2.2.1.1))) (qi_cause _ _)) (qx_kV hts mw_192 mw_194 mw_1 mw_29 mw_195 cd_Q_trap ⟨Nat.le_of_ble_eq_true rfl, Nat.le_of_ble_eq_true rfl⟩) (qx_preV (q0 := 0) (ci := 0) (q := (R_Q, T_Q, 5)) hP hD hK hN [0, 1, 2, 3, 4, 5, 6, 7, 8, 9, 10, 11, 12, 13, 14] rfl rfl rfl rfl) rfl rfl hl.1 rfl (lv_room (Nat.le_of_ble_eq_true rfl)) d_Q_step_118 ⟨Nat.zero_le _, Nat.zero_le _⟩) hP hD hS [0, 1, 2, 3, 4, 5, 6, 7, 8, 9, 10, 11, 12, 13, 14] rfl rfl [ad 0, ad 1, ad 2, ad 3, ad 4, ad 5, ad 6, ad 7, ad 8, ad 9, ad 10, ad 11, ad 12, ad 13, ad 14] rfl rfl (fun zz1 hzz1 H locs hP hD hS => ?_)
        have hP : va_P D vwCl (qw_Q ad cA zz1.1) H := hP
        have hD : va_D A (qw_Q ad cA zz1.1) := hD
        refine W.eq (g2 := F0 m 121 ls [.int zz1.2]) rfl ?_
        subst hzz1
        have e9 : ((qf_Q_trap (qm_Q_cn st (upd st.2.1 0 ((st.2.1 0) + 1))) (qf_M_causeOf st.2.2.1 (st.1 (Int32.toNatClampNeg st.2.2.1.2.2.2.1.1)))).1, (qf_Q_trap (qm_Q_cn st (upd st.2.1 0 ((st.2.1 0) + 1))) (qf_M_causeOf st.2.2.1 (st.1 (Int32.toNatClampNeg st.2.2.1.2.2.2.1.1)))).2) = qf_Q_step st := (by unfold qf_Q_step; rw [if_neg h1, if_neg h2, if_neg h3])
        exact W.iret hx hb hr (fun t ht hW => ⟨(by rw [← e9]), (by rw [ht, ← e9]; exact hP), hS.F ht⟩) hS.2.2 d_Q_step_121
    · have h2 : st.2.2.1.2.2.2.1.2.2.1 = 1 := h2
      refine lv_aload_n hx hb d_Q_step_63 rfl (lv_at hl 0 rfl) ?_
      refine va_get (D := D) (ci := 0) (v := .ref (ad 2)) (C := R_Q) (T := T_Q) (N := 5) hx hb hts in_Q hown hK hP 0 rfl rfl 1 (by decide) (hts (Cond.fieldLink R_Q 13 "QueuedFronts" "counts" "[I") mw_125) (fun _ h9 => h9) rfl d_Q_step_64 ?_
      refine lv_bipush (v := 6) hx hb d_Q_step_67 (by decide) ?_
      refine lv_dup2_11 hx hb d_Q_step_69 rfl rfl ?_
      refine va_iald hx hb hK hP 2 0 rfl rfl (show vp_in (6 : Int32) 7 from qi_lit (by decide)) d_Q_step_70 ?_
      refine lv_iconst (v := 1) hx hb d_Q_step_71 (by decide) ?_
      refine lv_iadd hx hb d_Q_step_72 ?_
      refine va_iast hx hb hK hP hD hS 2 0 rfl rfl (show vp_in (6 : Int32) 7 from qi_lit (by decide)) d_Q_step_73 (fun H locs hP hD hS => ?_)
      have hP : va_P D vwCl (qw_Q ad cA (qm_Q_cn st (upd (upd st.2.1 0 ((st.2.1 0) + 1)) 6 ((st.2.1 6) + 1)))) H := hP
      have hD : va_D A (qw_Q ad cA (qm_Q_cn st (upd (upd st.2.1 0 ((st.2.1 0) + 1)) 6 ((st.2.1 6) + 1)))) := hD
      refine lv_aload_n hx hb d_Q_step_74 rfl (lv_at hl 0 rfl) ?_
      refine va_get (D := D) (ci := 0) (v := .ref (ad 3)) (C := R_Q) (T := T_Q) (N := 5) hx hb hts in_Q hown hK hP 0 rfl rfl 2 (by decide) (hts (Cond.fieldLink R_Q 19 "QueuedFronts" "now" "LQueuedFronts$Machine;") mw_126) (fun _ h9 => h9) rfl d_Q_step_75 ?_
      refine va_get (D := D) (ci := 1) (v := .ref (ad 7)) (C := R_M) (T := T_M) (N := 7) hx hb hts in_M hown hK hP 3 rfl rfl 3 (by decide) (hts (Cond.fieldLink R_Q 65 "QueuedFronts$Machine" "flow" "LQueuedFronts$Flow;") mw_102) (fun _ h9 => h9) rfl d_Q_step_78 ?_
      refine lv_iconst (v := 0) hx hb d_Q_step_81 (by decide) ?_
      refine qx_muZ (T := qf_F_moveOn st.2.2.1.2.2.2.1 (0 : Int32)) (Wf := fun zz : qs_F => qw_Q ad cA (qm_Q_m (qm_Q_cn st (upd (upd st.2.1 0 ((st.2.1 0) + 1)) 6 ((st.2.1 6) + 1))) (qm_M_fl st.2.2.1 zz))) (vf := fun _ => none) (va_runV (As := [.int 0]) (rest := []) ⟨hx, hb, hml, hown, hts⟩ (c_F_moveOn l D cA (ad 7) st.2.2.1.2.2.2.1 0) (qx_kV hts mw_205 mw_206 mw_207 mw_31 mw_208 cd_F_moveOn ⟨Nat.le_of_ble_eq_true rfl, Nat.le_of_ble_eq_true rfl⟩) (qx_preV (q0 := 7) (ci := 2) (q := (R_F, T_F, 4)) hP hD hK hN [7] rfl rfl rfl rfl) rfl rfl hl.1 rfl (lv_room (Nat.le_of_ble_eq_true rfl)) d_Q_step_82 ⟨Nat.zero_le _, Nat.zero_le _⟩) hP hD hS [7] rfl rfl [ad 0, ad 1, ad 2, ad 3, ad 4, ad 5, ad 6, ad 7, ad 8, ad 9, ad 10, ad 11, ad 12, ad 13, ad 14] rfl rfl (fun zz1 hzz1 H locs hP hD hS => ?_)
      have hP : va_P D vwCl (qw_Q ad cA (qm_Q_m (qm_Q_cn st (upd (upd st.2.1 0 ((st.2.1 0) + 1)) 6 ((st.2.1 6) + 1))) (qm_M_fl st.2.2.1 zz1))) H := hP
      have hD : va_D A (qw_Q ad cA (qm_Q_m (qm_Q_cn st (upd (upd st.2.1 0 ((st.2.1 0) + 1)) 6 ((st.2.1 6) + 1))) (qm_M_fl st.2.2.1 zz1))) := hD
      refine W.eq (g2 := F0 m 85 ls []) rfl ?_
      refine lv_iconst (v := 0) hx hb d_Q_step_85 (by decide) ?_
      subst hzz1
      have e9 : ((qm_Q_m (qm_Q_cn st (upd (upd st.2.1 0 ((st.2.1 0) + 1)) 6 ((st.2.1 6) + 1))) (qm_M_fl st.2.2.1 (qf_F_moveOn st.2.2.1.2.2.2.1 (0 : Int32)))), 0) = qf_Q_step st := (by unfold qf_Q_step; rw [if_neg h1, if_pos h2])
      exact W.iret hx hb hr (fun t ht hW => ⟨(by rw [← e9]), (by rw [ht, ← e9]; exact hP), hS.F ht⟩) hS.2.2 d_Q_step_86
  · have h1 : st.2.2.1.2.2.2.2.2.2 = 1 := h1
    refine lv_aload_n hx hb d_Q_step_21 rfl (lv_at hl 0 rfl) ?_
    refine va_get (D := D) (ci := 0) (v := .ref (ad 3)) (C := R_Q) (T := T_Q) (N := 5) hx hb hts in_Q hown hK hP 0 rfl rfl 2 (by decide) (hts (Cond.fieldLink R_Q 19 "QueuedFronts" "now" "LQueuedFronts$Machine;") mw_126) (fun _ h9 => h9) rfl d_Q_step_22 ?_
    refine va_get (D := D) (ci := 1) (v := .ref (ad 7)) (C := R_M) (T := T_M) (N := 7) hx hb hts in_M hown hK hP 3 rfl rfl 3 (by decide) (hts (Cond.fieldLink R_Q 65 "QueuedFronts$Machine" "flow" "LQueuedFronts$Flow;") mw_102) (fun _ h9 => h9) rfl d_Q_step_25 ?_
    refine va_get (D := D) (ci := 2) (v := .int st.2.2.1.2.2.2.1.2.2.2) (C := R_F) (T := T_F) (N := 4) hx hb hts in_F hown hK hP 7 rfl rfl 3 (by decide) (hts (Cond.fieldLink R_Q 99 "QueuedFronts$Flow" "lets" "I") mw_67) (fun _ h9 => h9) rfl d_Q_step_28 ?_
    refine lv_iconst (v := 1) hx hb d_Q_step_31 (by decide) ?_
    refine lv_icmp_ne (tgt := 49) hx hb d_Q_step_32 (by decide) (fun h4 => ?_) (fun h4 => ?_)
    · have h4 : ¬ (st.2.2.1.2.2.2.1.2.2.2 = 1) := h4
      refine lv_aload_n hx hb d_Q_step_49 rfl (lv_at hl 0 rfl) ?_
      refine va_get (D := D) (ci := 0) (v := .ref (ad 3)) (C := R_Q) (T := T_Q) (N := 5) hx hb hts in_Q hown hK hP 0 rfl rfl 2 (by decide) (hts (Cond.fieldLink R_Q 19 "QueuedFronts" "now" "LQueuedFronts$Machine;") mw_126) (fun _ h9 => h9) rfl d_Q_step_50 ?_
      refine va_get (D := D) (ci := 1) (v := .ref (ad 7)) (C := R_M) (T := T_M) (N := 7) hx hb hts in_M hown hK hP 3 rfl rfl 3 (by decide) (hts (Cond.fieldLink R_Q 65 "QueuedFronts$Machine" "flow" "LQueuedFronts$Flow;") mw_102) (fun _ h9 => h9) rfl d_Q_step_53 ?_
      refine va_get (D := D) (ci := 2) (v := .int st.2.2.1.2.2.2.1.2.2.1) (C := R_F) (T := T_F) (N := 4) hx hb hts in_F hown hK hP 7 rfl rfl 2 (by decide) (hts (Cond.fieldLink R_Q 96 "QueuedFronts$Flow" "nullify" "I") mw_64) (fun _ h9 => h9) rfl d_Q_step_56 ?_
      refine lv_iconst (v := 1) hx hb d_Q_step_59 (by decide) ?_
      refine lv_icmp_ne (tgt := 87) hx hb d_Q_step_60 (by decide) (fun h5 => ?_) (fun h5 => ?_)
      · have h5 : ¬ (st.2.2.1.2.2.2.1.2.2.1 = 1) := h5
        refine lv_aload_n hx hb d_Q_step_87 rfl (lv_at hl 0 rfl) ?_
        refine va_get (D := D) (ci := 0) (v := .ref (ad 1)) (C := R_Q) (T := T_Q) (N := 5) hx hb hts in_Q hown hK hP 0 rfl rfl 0 (by decide) (hts (Cond.fieldLink R_Q 9 "QueuedFronts" "codeWords" "[I") mw_124) (fun _ h9 => h9) rfl d_Q_step_88 ?_
        refine lv_aload_n hx hb d_Q_step_91 rfl (lv_at hl 0 rfl) ?_
        refine va_get (D := D) (ci := 0) (v := .ref (ad 3)) (C := R_Q) (T := T_Q) (N := 5) hx hb hts in_Q hown hK hP 0 rfl rfl 2 (by decide) (hts (Cond.fieldLink R_Q 19 "QueuedFronts" "now" "LQueuedFronts$Machine;") mw_126) (fun _ h9 => h9) rfl d_Q_step_92 ?_
        refine va_get (D := D) (ci := 1) (v := .ref (ad 7)) (C := R_M) (T := T_M) (N := 7) hx hb hts in_M hown hK hP 3 rfl rfl 3 (by decide) (hts (Cond.fieldLink R_Q 65 "QueuedFronts$Machine" "flow" "LQueuedFronts$Flow;") mw_102) (fun _ h9 => h9) rfl d_Q_step_95 ?_
        refine va_get (D := D) (ci := 2) (v := .int st.2.2.1.2.2.2.1.1) (C := R_F) (T := T_F) (N := 4) hx hb hts in_F hown hK hP 7 rfl rfl 0 (by decide) (hts (Cond.fieldLink R_Q 83 "QueuedFronts$Flow" "front" "I") mw_58) (fun _ h9 => h9) rfl d_Q_step_98 ?_
        refine va_iald hx hb hK hP 1 0 rfl rfl (show vp_in st.2.2.1.2.2.2.1.1 128 from hf) d_Q_step_101 ?_
        refine lv_istore_n (lv' := [(1, .int (st.1 (Int32.toNatClampNeg st.2.2.1.2.2.2.1.1))), (0, .ref (ad 0))]) hx hb d_Q_step_102 rfl hl (by decide) rfl (fun ls hl => ?_)
        refine lv_aload_n hx hb d_Q_step_103 rfl (lv_at hl 1 rfl) ?_
        refine va_get (D := D) (ci := 0) (v := .ref (ad 3)) (C := R_Q) (T := T_Q) (N := 5) hx hb hts in_Q hown hK hP 0 rfl rfl 2 (by decide) (hts (Cond.fieldLink R_Q 19 "QueuedFronts" "now" "LQueuedFronts$Machine;") mw_126) (fun _ h9 => h9) rfl d_Q_step_104 ?_
        refine lv_iload_n hx hb d_Q_step_107 rfl (lv_at hl 0 rfl) ?_
        refine qx_rd (va_runV (As := [.int (st.1 (Int32.toNatClampNeg st.2.2.1.2.2.2.1.1))]) (rest := []) ⟨hx, hb, hml, hown, hts⟩ (c_M_causeOf l D cA (qa ad 3) st.2.2.1 (st.1 (Int32.toNatClampNeg st.2.2.1.2.2.2.1.1))) (qx_kV hts mw_213 mw_214 mw_215 mw_30 mw_216 cd_M_causeOf ⟨Nat.le_of_ble_eq_true rfl, Nat.le_of_ble_eq_true rfl⟩) (qx_preV (q0 := 3) (ci := 1) (q := (R_M, T_M, 7)) hP hD hK hN [3, 4, 5, 6, 7, 8] rfl rfl rfl rfl) rfl rfl hl.1 rfl (lv_room (Nat.le_of_ble_eq_true rfl)) d_Q_step_108 ⟨Nat.zero_le _, Nat.zero_le _⟩) ?_
        refine lv_istore_n (lv' := [(2, .int (qf_M_causeOf st.2.2.1 (st.1 (Int32.toNatClampNeg st.2.2.1.2.2.2.1.1)))), (1, .int (st.1 (Int32.toNatClampNeg st.2.2.1.2.2.2.1.1))), (0, .ref (ad 0))]) hx hb d_Q_step_111 rfl hl (by decide) rfl (fun ls hl => ?_)
        refine lv_iload_n hx hb d_Q_step_112 rfl (lv_at hl 0 rfl) ?_
        refine lv_if_eq (tgt := 122) hx hb d_Q_step_113 (by decide) (fun h6 => ?_) (fun h6 => ?_)
        · have h6 : qf_M_causeOf st.2.2.1 (st.1 (Int32.toNatClampNeg st.2.2.1.2.2.2.1.1)) = 0 := h6
          refine lv_aload_n hx hb d_Q_step_122 rfl (lv_at hl 2 rfl) ?_
          refine va_get (D := D) (ci := 0) (v := .ref (ad 3)) (C := R_Q) (T := T_Q) (N := 5) hx hb hts in_Q hown hK hP 0 rfl rfl 2 (by decide) (hts (Cond.fieldLink R_Q 19 "QueuedFronts" "now" "LQueuedFronts$Machine;") mw_126) (fun _ h9 => h9) rfl d_Q_step_123 ?_
          refine lv_iload_n hx hb d_Q_step_126 rfl (lv_at hl 1 rfl) ?_
          refine qx_muZ (T := qf_M_perform st.2.2.1 (st.1 (Int32.toNatClampNeg st.2.2.1.2.2.2.1.1))) (Wf := fun zz : qs_M => qw_Q ad cA (qm_Q_m (qm_Q_cn st (upd st.2.1 0 ((st.2.1 0) + 1))) zz)) (vf := fun _ => none) (va_runV (As := [.int (st.1 (Int32.toNatClampNeg st.2.2.1.2.2.2.1.1))]) (rest := []) ⟨hx, hb, hml, hown, hts⟩ (c_M_perform l D cA (qa ad 3) st.2.2.1 (st.1 (Int32.toNatClampNeg st.2.2.1.2.2.2.1.1)) hs) (qx_kV hts mw_241 mw_242 mw_243 mw_30 mw_244 cd_M_perform ⟨Nat.le_of_ble_eq_true rfl, Nat.le_of_ble_eq_true rfl⟩) (qx_preV (q0 := 3) (ci := 1) (q := (R_M, T_M, 7)) hP hD hK hN [3, 4, 5, 6, 7, 8] rfl rfl rfl rfl) rfl rfl hl.1 rfl (lv_room (Nat.le_of_ble_eq_true rfl)) d_Q_step_127 ⟨Nat.zero_le _, Nat.zero_le _⟩) hP hD hS [3, 4, 5, 6, 7, 8] rfl rfl [ad 0, ad 1, ad 2, ad 3, ad 4, ad 5, ad 6, ad 7, ad 8, ad 9, ad 10, ad 11, ad 12, ad 13, ad 14] rfl rfl (fun zz1 hzz1 H locs hP hD hS => ?_)
          have hP : va_P D vwCl (qw_Q ad cA (qm_Q_m (qm_Q_cn st (upd st.2.1 0 ((st.2.1 0) + 1))) zz1)) H := hP
          have hD : va_D A (qw_Q ad cA (qm_Q_m (qm_Q_cn st (upd st.2.1 0 ((st.2.1 0) + 1))) zz1)) := hD
          refine W.eq (g2 := F0 m 130 ls []) rfl ?_
          refine lv_iconst (v := 0) hx hb d_Q_step_130 (by decide) ?_
          subst hzz1
          have e9 : ((qm_Q_m (qm_Q_cn st (upd st.2.1 0 ((st.2.1 0) + 1))) (qf_M_perform st.2.2.1 (st.1 (Int32.toNatClampNeg st.2.2.1.2.2.2.1.1)))), 0) = qf_Q_step st := (by unfold qf_Q_step; rw [if_pos h1, if_neg h4, if_neg h5, if_pos h6])
          exact W.iret hx hb hr (fun t ht hW => ⟨(by rw [← e9]), (by rw [ht, ← e9]; exact hP), hS.F ht⟩) hS.2.2 d_Q_step_131
        · have h6 : ¬ (qf_M_causeOf st.2.2.1 (st.1 (Int32.toNatClampNeg st.2.2.1.2.2.2.1.1)) = 0) := h6
          refine lv_aload_n hx hb d_Q_step_116 rfl (lv_at hl 2 rfl) ?_
          refine lv_iload_n hx hb d_Q_step_117 rfl (lv_at hl 0 rfl) ?_
          refine qx_muZ (T := qf_Q_trap (qm_Q_cn st (upd st.2.1 0 ((st.2.1 0) + 1))) (qf_M_causeOf st.2.2.1 (st.1 (Int32.toNatClampNeg st.2.2.1.2.2.2.1.1)))) (Wf := fun zz : qs_Q × Int32 => qw_Q ad cA zz.1) (vf := fun zz => some (.int zz.2)) (va_runV (As := [.int (qf_M_causeOf st.2.2.1 (st.1 (Int32.toNatClampNeg st.2.2.1.2.2.2.1.1)))]) (rest := []) ⟨hx, hb, hml, hown, hts⟩ (c_Q_trap l D cA ad (qm_Q_cn st (upd st.2.1 0 ((st.2.1 0) + 1))) (qf_M_causeOf st.2.2.1 (st.1 (Int32.toNatClampNeg st.2.2.1.2.2.2.1.1))) (qi_cause _ _)) (qx_kV hts mw_192 mw_194 mw_1 mw_29 mw_195 cd_Q_trap ⟨Nat.le_of_ble_eq_true rfl, Nat.le_of_ble_eq_true rfl⟩) (qx_preV (q0 := 0) (ci := 0) (q := (R_Q, T_Q, 5)) hP hD hK hN [0, 1, 2, 3, 4, 5, 6, 7, 8, 9, 10, 11, 12, 13, 14] rfl rfl rfl rfl) rfl rfl hl.1 rfl (lv_room (Nat.le_of_ble_eq_true rfl)) d_Q_step_118 ⟨Nat.zero_le _, Nat.zero_le _⟩) hP hD hS [0, 1, 2, 3, 4, 5, 6, 7, 8, 9, 10, 11, 12, 13, 14] rfl rfl [ad 0, ad 1, ad 2, ad 3, ad 4, ad 5, ad 6, ad 7, ad 8, ad 9, ad 10, ad 11, ad 12, ad 13, ad 14] rfl rfl (fun zz1 hzz1 H locs hP hD hS => ?_)
          have hP : va_P D vwCl (qw_Q ad cA zz1.1) H := hP
          have hD : va_D A (qw_Q ad cA zz1.1) := hD
          refine W.eq (g2 := F0 m 121 ls [.int zz1.2]) rfl ?_
          subst hzz1
          have e9 : ((qf_Q_trap (qm_Q_cn st (upd st.2.1 0 ((st.2.1 0) + 1))) (qf_M_causeOf st.2.2.1 (st.1 (Int32.toNatClampNeg st.2.2.1.2.2.2.1.1)))).1, (qf_Q_trap (qm_Q_cn st (upd st.2.1 0 ((st.2.1 0) + 1))) (qf_M_causeOf st.2.2.1 (st.1 (Int32.toNatClampNeg st.2.2.1.2.2.2.1.1)))).2) = qf_Q_step st := (by unfold qf_Q_step; rw [if_pos h1, if_neg h4, if_neg h5, if_neg h6])
          exact W.iret hx hb hr (fun t ht hW => ⟨(by rw [← e9]), (by rw [ht, ← e9]; exact hP), hS.F ht⟩) hS.2.2 d_Q_step_121
      · have h5 : st.2.2.1.2.2.2.1.2.2.1 = 1 := h5
        refine lv_aload_n hx hb d_Q_step_63 rfl (lv_at hl 0 rfl) ?_
        refine va_get (D := D) (ci := 0) (v := .ref (ad 2)) (C := R_Q) (T := T_Q) (N := 5) hx hb hts in_Q hown hK hP 0 rfl rfl 1 (by decide) (hts (Cond.fieldLink R_Q 13 "QueuedFronts" "counts" "[I") mw_125) (fun _ h9 => h9) rfl d_Q_step_64 ?_
        refine lv_bipush (v := 6) hx hb d_Q_step_67 (by decide) ?_
        refine lv_dup2_11 hx hb d_Q_step_69 rfl rfl ?_
        refine va_iald hx hb hK hP 2 0 rfl rfl (show vp_in (6 : Int32) 7 from qi_lit (by decide)) d_Q_step_70 ?_
        refine lv_iconst (v := 1) hx hb d_Q_step_71 (by decide) ?_
        refine lv_iadd hx hb d_Q_step_72 ?_
        refine va_iast hx hb hK hP hD hS 2 0 rfl rfl (show vp_in (6 : Int32) 7 from qi_lit (by decide)) d_Q_step_73 (fun H locs hP hD hS => ?_)
        have hP : va_P D vwCl (qw_Q ad cA (qm_Q_cn st (upd (upd st.2.1 0 ((st.2.1 0) + 1)) 6 ((st.2.1 6) + 1)))) H := hP
        have hD : va_D A (qw_Q ad cA (qm_Q_cn st (upd (upd st.2.1 0 ((st.2.1 0) + 1)) 6 ((st.2.1 6) + 1)))) := hD
        refine lv_aload_n hx hb d_Q_step_74 rfl (lv_at hl 0 rfl) ?_
        refine va_get (D := D) (ci := 0) (v := .ref (ad 3)) (C := R_Q) (T := T_Q) (N := 5) hx hb hts in_Q hown hK hP 0 rfl rfl 2 (by decide) (hts (Cond.fieldLink R_Q 19 "QueuedFronts" "now" "LQueuedFronts$Machine;") mw_126) (fun _ h9 => h9) rfl d_Q_step_75 ?_
        refine va_get (D := D) (ci := 1) (v := .ref (ad 7)) (C := R_M) (T := T_M) (N := 7) hx hb hts in_M hown hK hP 3 rfl rfl 3 (by decide) (hts (Cond.fieldLink R_Q 65 "QueuedFronts$Machine" "flow" "LQueuedFronts$Flow;") mw_102) (fun _ h9 => h9) rfl d_Q_step_78 ?_
        refine lv_iconst (v := 0) hx hb d_Q_step_81 (by decide) ?_
        refine qx_muZ (T := qf_F_moveOn st.2.2.1.2.2.2.1 (0 : Int32)) (Wf := fun zz : qs_F => qw_Q ad cA (qm_Q_m (qm_Q_cn st (upd (upd st.2.1 0 ((st.2.1 0) + 1)) 6 ((st.2.1 6) + 1))) (qm_M_fl st.2.2.1 zz))) (vf := fun _ => none) (va_runV (As := [.int 0]) (rest := []) ⟨hx, hb, hml, hown, hts⟩ (c_F_moveOn l D cA (ad 7) st.2.2.1.2.2.2.1 0) (qx_kV hts mw_205 mw_206 mw_207 mw_31 mw_208 cd_F_moveOn ⟨Nat.le_of_ble_eq_true rfl, Nat.le_of_ble_eq_true rfl⟩) (qx_preV (q0 := 7) (ci := 2) (q := (R_F, T_F, 4)) hP hD hK hN [7] rfl rfl rfl rfl) rfl rfl hl.1 rfl (lv_room (Nat.le_of_ble_eq_true rfl)) d_Q_step_82 ⟨Nat.zero_le _, Nat.zero_le _⟩) hP hD hS [7] rfl rfl [ad 0, ad 1, ad 2, ad 3, ad 4, ad 5, ad 6, ad 7, ad 8, ad 9, ad 10, ad 11, ad 12, ad 13, ad 14] rfl rfl (fun zz1 hzz1 H locs hP hD hS => ?_)
        have hP : va_P D vwCl (qw_Q ad cA (qm_Q_m (qm_Q_cn st (upd (upd st.2.1 0 ((st.2.1 0) + 1)) 6 ((st.2.1 6) + 1))) (qm_M_fl st.2.2.1 zz1))) H := hP
        have hD : va_D A (qw_Q ad cA (qm_Q_m (qm_Q_cn st (upd (upd st.2.1 0 ((st.2.1 0) + 1)) 6 ((st.2.1 6) + 1))) (qm_M_fl st.2.2.1 zz1))) := hD
        refine W.eq (g2 := F0 m 85 ls []) rfl ?_
        refine lv_iconst (v := 0) hx hb d_Q_step_85 (by decide) ?_
        subst hzz1
        have e9 : ((qm_Q_m (qm_Q_cn st (upd (upd st.2.1 0 ((st.2.1 0) + 1)) 6 ((st.2.1 6) + 1))) (qm_M_fl st.2.2.1 (qf_F_moveOn st.2.2.1.2.2.2.1 (0 : Int32)))), 0) = qf_Q_step st := (by unfold qf_Q_step; rw [if_pos h1, if_neg h4, if_pos h5])
        exact W.iret hx hb hr (fun t ht hW => ⟨(by rw [← e9]), (by rw [ht, ← e9]; exact hP), hS.F ht⟩) hS.2.2 d_Q_step_86
    · have h4 : st.2.2.1.2.2.2.1.2.2.2 = 1 := h4
      refine lv_aload_n hx hb d_Q_step_35 rfl (lv_at hl 0 rfl) ?_
      refine va_get (D := D) (ci := 0) (v := .ref (ad 3)) (C := R_Q) (T := T_Q) (N := 5) hx hb hts in_Q hown hK hP 0 rfl rfl 2 (by decide) (hts (Cond.fieldLink R_Q 19 "QueuedFronts" "now" "LQueuedFronts$Machine;") mw_126) (fun _ h9 => h9) rfl d_Q_step_36 ?_
      refine lv_iconst (v := 0) hx hb d_Q_step_39 (by decide) ?_
      refine va_put (D := D) (ci := 1) (v := .int 0) (ty := .int) (C := R_M) (T := T_M) (N := 7) hx hb hts in_M ty_M tyok_M nm_M hown hK hP hD hS 3 rfl rfl 6 (by decide) (hts (Cond.fieldLink R_Q 75 "QueuedFronts$Machine" "pending" "I") mw_108) (fun _ h9 => h9) rfl (by decide +kernel) rfl rfl (Nat.le_of_ble_eq_true rfl) d_Q_step_40 (fun H locs hP hD hS => ?_)
      have hP : va_P D vwCl (qw_Q ad cA (qm_Q_m (qm_Q_cn st (upd st.2.1 0 ((st.2.1 0) + 1))) (qm_M_pd st.2.2.1 0))) H := hP
      have hD : va_D A (qw_Q ad cA (qm_Q_m (qm_Q_cn st (upd st.2.1 0 ((st.2.1 0) + 1))) (qm_M_pd st.2.2.1 0))) := hD
      refine lv_aload_n hx hb d_Q_step_43 rfl (lv_at hl 0 rfl) ?_
      refine lv_iconst (v := 1) hx hb d_Q_step_44 (by decide) ?_
      refine qx_muZ (T := qf_Q_trap (qm_Q_m (qm_Q_cn st (upd st.2.1 0 ((st.2.1 0) + 1))) (qm_M_pd st.2.2.1 0)) (1 : Int32)) (Wf := fun zz : qs_Q × Int32 => qw_Q ad cA zz.1) (vf := fun zz => some (.int zz.2)) (va_runV (As := [.int 1]) (rest := []) ⟨hx, hb, hml, hown, hts⟩ (c_Q_trap l D cA ad (qm_Q_m (qm_Q_cn st (upd st.2.1 0 ((st.2.1 0) + 1))) (qm_M_pd st.2.2.1 0)) 1 (qi_lit (by decide))) (qx_kV hts mw_192 mw_194 mw_1 mw_29 mw_195 cd_Q_trap ⟨Nat.le_of_ble_eq_true rfl, Nat.le_of_ble_eq_true rfl⟩) (qx_preV (q0 := 0) (ci := 0) (q := (R_Q, T_Q, 5)) hP hD hK hN [0, 1, 2, 3, 4, 5, 6, 7, 8, 9, 10, 11, 12, 13, 14] rfl rfl rfl rfl) rfl rfl hl.1 rfl (lv_room (Nat.le_of_ble_eq_true rfl)) d_Q_step_45 ⟨Nat.zero_le _, Nat.zero_le _⟩) hP hD hS [0, 1, 2, 3, 4, 5, 6, 7, 8, 9, 10, 11, 12, 13, 14] rfl rfl [ad 0, ad 1, ad 2, ad 3, ad 4, ad 5, ad 6, ad 7, ad 8, ad 9, ad 10, ad 11, ad 12, ad 13, ad 14] rfl rfl (fun zz1 hzz1 H locs hP hD hS => ?_)
      have hP : va_P D vwCl (qw_Q ad cA zz1.1) H := hP
      have hD : va_D A (qw_Q ad cA zz1.1) := hD
      refine W.eq (g2 := F0 m 48 ls [.int zz1.2]) rfl ?_
      subst hzz1
      have e9 : ((qf_Q_trap (qm_Q_m (qm_Q_cn st (upd st.2.1 0 ((st.2.1 0) + 1))) (qm_M_pd st.2.2.1 0)) (1 : Int32)).1, (qf_Q_trap (qm_Q_m (qm_Q_cn st (upd st.2.1 0 ((st.2.1 0) + 1))) (qm_M_pd st.2.2.1 0)) (1 : Int32)).2) = qf_Q_step st := (by unfold qf_Q_step; rw [if_pos h1, if_pos h4])
      exact W.iret hx hb hr (fun t ht hW => ⟨(by rw [← e9]), (by rw [ht, ← e9]; exact hP), hS.F ht⟩) hS.2.2 d_Q_step_48
def qf_Q_code (st : qs_Q) (x : Int32) (y : Int32) (v : Int32) : qs_Q × Int32 :=
  if qf_Q_isPlace x y = 0 then (st, 0)
  else ((qm_Q_co st (upd st.1 (Int32.toNatClampNeg (qf_Pl_of x y)) v)), 1)
set_option maxHeartbeats 4000000 in
set_option maxRecDepth 100000 in
theorem c_Q_code (l : Launch) (D : va_G) (cA : ClassId) (ad : Nat → Nat) (st : qs_Q) (x : Int32) (y : Int32) (v : Int32) : Met l y_Q_code (Cond.code y_Q_code b_Q_code 4 (some .boolean) :: qx_T) ({ frames := 2, cells := 0, slots := 0, locals := 41 }) (qx_Pc D vwCl [(cA, .int)] (qw_Q ad cA st) [.ref (ad 0), .int x, .int y, .int v]) (qx_Q D vwCl (qw_Q ad cA ((qf_Q_code st x y v).1)) (qx_ad (qw_Q ad cA st)) (some (.int (qf_Q_code st x y v).2))) 0 0 (qx_ad (qw_Q ad cA st)) := by
  refine Met.ofW (cc := b_Q_code) (maxL := 4) (ret := (some .boolean)) (by decide) rfl ?_
  intro p e s m args below meth c s₁ B hml hv
  obtain ⟨rfl, hP, hK, hN, hD0⟩ := hv
  have hx := B.exec
  have hb := B.bytes
  have hr := B.returns
  have hts0 := atoms_spec (ws := Cond.code y_Q_code b_Q_code 4 (some .boolean) :: qx_T) B.pre
  have hts := fun w h => hts0 w (List.mem_cons_of_mem _ h)
  have hown : s.vm.findClass R_Q = some m.cls := findClass_of_methodNamed B.named
  have hlocks := B.notSynchronized
  have hD : va_D (qx_ad (qw_Q ad cA st)) (qw_Q ad cA st) := ⟨hD0.1, fun k q hk => ⟨k, q.2, hk⟩⟩
  generalize hAe : qx_ad (qw_Q ad cA st) = A at hD ⊢
  have hS : va_S A s.heap s.heap [] := va_S.rf
  have hl := lv_entry ([.ref (ad 0), .int x, .int y, .int v]) (n := 4) (Nat.le_of_ble_eq_true rfl)
  rw [lg_entry_eq]
  generalize (lg_sl ([.ref (ad 0), .int x, .int y, .int v]) ++ List.replicate (4 - (lg_sl ([.ref (ad 0), .int x, .int y, .int v])).length) Slot.unset).toArray = ls at hl ⊢
  have hl : lv_has ls 4 [(0, .ref (ad 0)), (1, .int x), (2, .int y), (3, .int v)] := hl
  refine lv_iload_n hx hb d_Q_code_0 rfl (lv_at hl 1 rfl) ?_
  refine lv_iload_n hx hb d_Q_code_1 rfl (lv_at hl 2 rfl) ?_
  refine qx_rd (va_runS (As := [.int x, .int y]) (rest := []) ⟨hx, hb, hml, hown, hts⟩ (c_Q_isPlace l D cA x y) (qx_kS hts mw_144 mw_145 mw_29 mw_146 cd_Q_isPlace ⟨Nat.le_of_ble_eq_true rfl, Nat.le_of_ble_eq_true rfl⟩) (qx_preS hP hD hK hN [] rfl rfl) rfl rfl hl.1 rfl (lv_room (Nat.le_of_ble_eq_true rfl)) d_Q_code_2 ⟨Nat.zero_le _, Nat.zero_le _⟩) ?_
  refine lv_if_ne (tgt := 10) hx hb d_Q_code_5 (by decide) (fun h1 => ?_) (fun h1 => ?_)
  · have h1 : ¬ (qf_Q_isPlace x y = 0) := h1
    refine lv_aload_n hx hb d_Q_code_10 rfl (lv_at hl 0 rfl) ?_
    refine va_get (D := D) (ci := 0) (v := .ref (ad 1)) (C := R_Q) (T := T_Q) (N := 5) hx hb hts in_Q hown hK hP 0 rfl rfl 0 (by decide) (hts (Cond.fieldLink R_Q 9 "QueuedFronts" "codeWords" "[I") mw_124) (fun _ h9 => h9) rfl d_Q_code_11 ?_
    refine lv_iload_n hx hb d_Q_code_14 rfl (lv_at hl 1 rfl) ?_
    refine lv_iload_n hx hb d_Q_code_15 rfl (lv_at hl 2 rfl) ?_
    refine qx_rd (va_runS (As := [.int x, .int y]) (rest := [.ref (ad 1)]) ⟨hx, hb, hml, hown, hts⟩ (c_Pl_of l D cA x y) (qx_kS hts mw_150 mw_93 mw_32 mw_94 cd_Pl_of ⟨Nat.le_of_ble_eq_true rfl, Nat.le_of_ble_eq_true rfl⟩) (qx_preS hP hD hK hN [] rfl rfl) rfl rfl hl.1 rfl (lv_room (Nat.le_of_ble_eq_true rfl)) d_Q_code_16 ⟨Nat.zero_le _, Nat.zero_le _⟩) ?_
    refine lv_iload_n hx hb d_Q_code_19 rfl (lv_at hl 3 rfl) ?_
    refine va_iast hx hb hK hP hD hS 1 0 rfl rfl (show vp_in (qf_Pl_of x y) 128 from qi_Pl _ _) d_Q_code_20 (fun H locs hP hD hS => ?_)
    have hP : va_P D vwCl (qw_Q ad cA (qm_Q_co st (upd st.1 (Int32.toNatClampNeg (qf_Pl_of x y)) v))) H := hP
    have hD : va_D A (qw_Q ad cA (qm_Q_co st (upd st.1 (Int32.toNatClampNeg (qf_Pl_of x y)) v))) := hD
    refine lv_iconst (v := 1) hx hb d_Q_code_21 (by decide) ?_
    have e9 : ((qm_Q_co st (upd st.1 (Int32.toNatClampNeg (qf_Pl_of x y)) v)), 1) = qf_Q_code st x y v := (by unfold qf_Q_code; rw [if_neg h1])
    exact W.zret (ty := .boolean) hx hb hr rfl (fun t ht hW => ⟨(by rw [← e9]), (by rw [ht, ← e9]; exact hP), hS.F ht⟩) hS.2.2 d_Q_code_22
  · have h1 : qf_Q_isPlace x y = 0 := h1
    refine lv_iconst (v := 0) hx hb d_Q_code_8 (by decide) ?_
    have e9 : (st, 0) = qf_Q_code st x y v := (by unfold qf_Q_code; rw [if_pos h1])
    exact W.zret (ty := .boolean) hx hb hr rfl (fun t ht hW => ⟨(by rw [← e9]), (by rw [ht, ← e9]; exact hP), hS.F ht⟩) hS.2.2 d_Q_code_9
def qf_Q_data (st : qs_Q) (x : Int32) (y : Int32) (v : Int32) : qs_Q × Int32 :=
  if qf_Q_isSpace x = 0 then (st, 0)
  else if qf_Q_isDataOffset y = 0 then (st, 0)
  else ((qm_Q_m st (qm_M_dt st.2.2.1 (upd st.2.2.1.2.2.1 (Int32.toNatClampNeg (qf_Q_dataIndex x y)) v))), 1)
set_option maxHeartbeats 4000000 in
set_option maxRecDepth 100000 in
theorem c_Q_data (l : Launch) (D : va_G) (cA : ClassId) (ad : Nat → Nat) (st : qs_Q) (x : Int32) (y : Int32) (v : Int32) : Met l y_Q_data (Cond.code y_Q_data b_Q_data 4 (some .boolean) :: qx_T) ({ frames := 1, cells := 0, slots := 0, locals := 21 }) (qx_Pc D vwCl [(cA, .int)] (qw_Q ad cA st) [.ref (ad 0), .int x, .int y, .int v]) (qx_Q D vwCl (qw_Q ad cA ((qf_Q_data st x y v).1)) (qx_ad (qw_Q ad cA st)) (some (.int (qf_Q_data st x y v).2))) 0 0 (qx_ad (qw_Q ad cA st)) := by
  refine Met.ofW (cc := b_Q_data) (maxL := 4) (ret := (some .boolean)) (by decide) rfl ?_
  intro p e s m args below meth c s₁ B hml hv
  obtain ⟨rfl, hP, hK, hN, hD0⟩ := hv
  have hx := B.exec
  have hb := B.bytes
  have hr := B.returns
  have hts0 := atoms_spec (ws := Cond.code y_Q_data b_Q_data 4 (some .boolean) :: qx_T) B.pre
  have hts := fun w h => hts0 w (List.mem_cons_of_mem _ h)
  have hown : s.vm.findClass R_Q = some m.cls := findClass_of_methodNamed B.named
  have hlocks := B.notSynchronized
  have hD : va_D (qx_ad (qw_Q ad cA st)) (qw_Q ad cA st) := ⟨hD0.1, fun k q hk => ⟨k, q.2, hk⟩⟩
  generalize hAe : qx_ad (qw_Q ad cA st) = A at hD ⊢
  have hS : va_S A s.heap s.heap [] := va_S.rf
  have hl := lv_entry ([.ref (ad 0), .int x, .int y, .int v]) (n := 4) (Nat.le_of_ble_eq_true rfl)
  rw [lg_entry_eq]
  generalize (lg_sl ([.ref (ad 0), .int x, .int y, .int v]) ++ List.replicate (4 - (lg_sl ([.ref (ad 0), .int x, .int y, .int v])).length) Slot.unset).toArray = ls at hl ⊢
  have hl : lv_has ls 4 [(0, .ref (ad 0)), (1, .int x), (2, .int y), (3, .int v)] := hl
  refine lv_iload_n hx hb d_Q_data_0 rfl (lv_at hl 1 rfl) ?_
  refine qx_rd (va_runS (As := [.int x]) (rest := []) ⟨hx, hb, hml, hown, hts⟩ (c_Q_isSpace l D cA x) (qx_kS hts mw_147 mw_148 mw_29 mw_149 cd_Q_isSpace ⟨Nat.le_of_ble_eq_true rfl, Nat.le_of_ble_eq_true rfl⟩) (qx_preS hP hD hK hN [] rfl rfl) rfl rfl hl.1 rfl (lv_room (Nat.le_of_ble_eq_true rfl)) d_Q_data_1 ⟨Nat.zero_le _, Nat.zero_le _⟩) ?_
  refine lv_if_eq (tgt := 14) hx hb d_Q_data_4 (by decide) (fun h1 => ?_) (fun h1 => ?_)
  · have h1 : qf_Q_isSpace x = 0 := h1
    refine lv_iconst (v := 0) hx hb d_Q_data_14 (by decide) ?_
    have e9 : (st, 0) = qf_Q_data st x y v := (by unfold qf_Q_data; rw [if_pos h1])
    exact W.zret (ty := .boolean) hx hb hr rfl (fun t ht hW => ⟨(by rw [← e9]), (by rw [ht, ← e9]; exact hP), hS.F ht⟩) hS.2.2 d_Q_data_15
  · have h1 : ¬ (qf_Q_isSpace x = 0) := h1
    refine lv_iload_n hx hb d_Q_data_7 rfl (lv_at hl 2 rfl) ?_
    refine qx_rd (va_runS (As := [.int y]) (rest := []) ⟨hx, hb, hml, hown, hts⟩ (c_Q_isDataOffset l D cA y) (qx_kS hts mw_155 mw_156 mw_29 mw_157 cd_Q_isDataOffset ⟨Nat.le_of_ble_eq_true rfl, Nat.le_of_ble_eq_true rfl⟩) (qx_preS hP hD hK hN [] rfl rfl) rfl rfl hl.1 rfl (lv_room (Nat.le_of_ble_eq_true rfl)) d_Q_data_8 ⟨Nat.zero_le _, Nat.zero_le _⟩) ?_
    refine lv_if_ne (tgt := 16) hx hb d_Q_data_11 (by decide) (fun h2 => ?_) (fun h2 => ?_)
    · have h2 : ¬ (qf_Q_isDataOffset y = 0) := h2
      refine lv_aload_n hx hb d_Q_data_16 rfl (lv_at hl 0 rfl) ?_
      refine va_get (D := D) (ci := 0) (v := .ref (ad 3)) (C := R_Q) (T := T_Q) (N := 5) hx hb hts in_Q hown hK hP 0 rfl rfl 2 (by decide) (hts (Cond.fieldLink R_Q 19 "QueuedFronts" "now" "LQueuedFronts$Machine;") mw_126) (fun _ h9 => h9) rfl d_Q_data_17 ?_
      refine va_get (D := D) (ci := 1) (v := .ref (ad 6)) (C := R_M) (T := T_M) (N := 7) hx hb hts in_M hown hK hP 3 rfl rfl 2 (by decide) (hts (Cond.fieldLink R_Q 47 "QueuedFronts$Machine" "dataWords" "[I") mw_100) (fun _ h9 => h9) rfl d_Q_data_20 ?_
      refine lv_iload_n hx hb d_Q_data_23 rfl (lv_at hl 1 rfl) ?_
      refine lv_iload_n hx hb d_Q_data_24 rfl (lv_at hl 2 rfl) ?_
      refine qx_rd (va_runS (As := [.int x, .int y]) (rest := [.ref (ad 6)]) ⟨hx, hb, hml, hown, hts⟩ (c_Q_dataIndex l D cA x y) (qx_kS hts mw_158 mw_159 mw_29 mw_160 cd_Q_dataIndex ⟨Nat.le_of_ble_eq_true rfl, Nat.le_of_ble_eq_true rfl⟩) (qx_preS hP hD hK hN [] rfl rfl) rfl rfl hl.1 rfl (lv_room (Nat.le_of_ble_eq_true rfl)) d_Q_data_25 ⟨Nat.zero_le _, Nat.zero_le _⟩) ?_
      refine lv_iload_n hx hb d_Q_data_28 rfl (lv_at hl 3 rfl) ?_
      refine va_iast hx hb hK hP hD hS 6 0 rfl rfl (show vp_in (qf_Q_dataIndex x y) 64 from qi_dix (qi_sp h1) h2) d_Q_data_29 (fun H locs hP hD hS => ?_)
      have hP : va_P D vwCl (qw_Q ad cA (qm_Q_m st (qm_M_dt st.2.2.1 (upd st.2.2.1.2.2.1 (Int32.toNatClampNeg (qf_Q_dataIndex x y)) v)))) H := hP
      have hD : va_D A (qw_Q ad cA (qm_Q_m st (qm_M_dt st.2.2.1 (upd st.2.2.1.2.2.1 (Int32.toNatClampNeg (qf_Q_dataIndex x y)) v)))) := hD
      refine lv_iconst (v := 1) hx hb d_Q_data_30 (by decide) ?_
      have e9 : ((qm_Q_m st (qm_M_dt st.2.2.1 (upd st.2.2.1.2.2.1 (Int32.toNatClampNeg (qf_Q_dataIndex x y)) v))), 1) = qf_Q_data st x y v := (by unfold qf_Q_data; rw [if_neg h1, if_neg h2])
      exact W.zret (ty := .boolean) hx hb hr rfl (fun t ht hW => ⟨(by rw [← e9]), (by rw [ht, ← e9]; exact hP), hS.F ht⟩) hS.2.2 d_Q_data_31
    · have h2 : qf_Q_isDataOffset y = 0 := h2
      refine lv_iconst (v := 0) hx hb d_Q_data_14 (by decide) ?_
      have e9 : (st, 0) = qf_Q_data st x y v := (by unfold qf_Q_data; rw [if_neg h1, if_pos h2])
      exact W.zret (ty := .boolean) hx hb hr rfl (fun t ht hW => ⟨(by rw [← e9]), (by rw [ht, ← e9]; exact hP), hS.F ht⟩) hS.2.2 d_Q_data_15
def qf_Q_set (st : qs_Q) (x : Int32) (v : Int32) : qs_Q × Int32 :=
  if qf_Q_isRegister x = 0 then (st, 0)
  else if x = 0 then (st, 0)
  else ((qm_Q_m st (qm_M_rg st.2.2.1 (upd st.2.2.1.1 (Int32.toNatClampNeg x) v))), 1)
set_option maxHeartbeats 4000000 in
set_option maxRecDepth 100000 in
theorem c_Q_set (l : Launch) (D : va_G) (cA : ClassId) (ad : Nat → Nat) (st : qs_Q) (x : Int32) (v : Int32) : Met l y_Q_set (Cond.code y_Q_set b_Q_set 3 (some .boolean) :: qx_T) ({ frames := 1, cells := 0, slots := 0, locals := 20 }) (qx_Pc D vwCl [(cA, .int)] (qw_Q ad cA st) [.ref (ad 0), .int x, .int v]) (qx_Q D vwCl (qw_Q ad cA ((qf_Q_set st x v).1)) (qx_ad (qw_Q ad cA st)) (some (.int (qf_Q_set st x v).2))) 0 0 (qx_ad (qw_Q ad cA st)) := by
  refine Met.ofW (cc := b_Q_set) (maxL := 3) (ret := (some .boolean)) (by decide) rfl ?_
  intro p e s m args below meth c s₁ B hml hv
  obtain ⟨rfl, hP, hK, hN, hD0⟩ := hv
  have hx := B.exec
  have hb := B.bytes
  have hr := B.returns
  have hts0 := atoms_spec (ws := Cond.code y_Q_set b_Q_set 3 (some .boolean) :: qx_T) B.pre
  have hts := fun w h => hts0 w (List.mem_cons_of_mem _ h)
  have hown : s.vm.findClass R_Q = some m.cls := findClass_of_methodNamed B.named
  have hlocks := B.notSynchronized
  have hD : va_D (qx_ad (qw_Q ad cA st)) (qw_Q ad cA st) := ⟨hD0.1, fun k q hk => ⟨k, q.2, hk⟩⟩
  generalize hAe : qx_ad (qw_Q ad cA st) = A at hD ⊢
  have hS : va_S A s.heap s.heap [] := va_S.rf
  have hl := lv_entry ([.ref (ad 0), .int x, .int v]) (n := 3) (Nat.le_of_ble_eq_true rfl)
  rw [lg_entry_eq]
  generalize (lg_sl ([.ref (ad 0), .int x, .int v]) ++ List.replicate (3 - (lg_sl ([.ref (ad 0), .int x, .int v])).length) Slot.unset).toArray = ls at hl ⊢
  have hl : lv_has ls 3 [(0, .ref (ad 0)), (1, .int x), (2, .int v)] := hl
  refine lv_iload_n hx hb d_Q_set_0 rfl (lv_at hl 1 rfl) ?_
  refine qx_rd (va_runS (As := [.int x]) (rest := []) ⟨hx, hb, hml, hown, hts⟩ (c_Q_isRegister l D cA x) (qx_kS hts mw_165 mw_166 mw_29 mw_167 cd_Q_isRegister ⟨Nat.le_of_ble_eq_true rfl, Nat.le_of_ble_eq_true rfl⟩) (qx_preS hP hD hK hN [] rfl rfl) rfl rfl hl.1 rfl (lv_room (Nat.le_of_ble_eq_true rfl)) d_Q_set_1 ⟨Nat.zero_le _, Nat.zero_le _⟩) ?_
  refine lv_if_eq (tgt := 11) hx hb d_Q_set_4 (by decide) (fun h1 => ?_) (fun h1 => ?_)
  · have h1 : qf_Q_isRegister x = 0 := h1
    refine lv_iconst (v := 0) hx hb d_Q_set_11 (by decide) ?_
    have e9 : (st, 0) = qf_Q_set st x v := (by unfold qf_Q_set; rw [if_pos h1])
    exact W.zret (ty := .boolean) hx hb hr rfl (fun t ht hW => ⟨(by rw [← e9]), (by rw [ht, ← e9]; exact hP), hS.F ht⟩) hS.2.2 d_Q_set_12
  · have h1 : ¬ (qf_Q_isRegister x = 0) := h1
    refine lv_iload_n hx hb d_Q_set_7 rfl (lv_at hl 1 rfl) ?_
    refine lv_if_ne (tgt := 13) hx hb d_Q_set_8 (by decide) (fun h2 => ?_) (fun h2 => ?_)
    · have h2 : ¬ (x = 0) := h2
      refine lv_aload_n hx hb d_Q_set_13 rfl (lv_at hl 0 rfl) ?_
      refine va_get (D := D) (ci := 0) (v := .ref (ad 3)) (C := R_Q) (T := T_Q) (N := 5) hx hb hts in_Q hown hK hP 0 rfl rfl 2 (by decide) (hts (Cond.fieldLink R_Q 19 "QueuedFronts" "now" "LQueuedFronts$Machine;") mw_126) (fun _ h9 => h9) rfl d_Q_set_14 ?_
      refine va_get (D := D) (ci := 1) (v := .ref (ad 4)) (C := R_M) (T := T_M) (N := 7) hx hb hts in_M hown hK hP 3 rfl rfl 0 (by decide) (hts (Cond.fieldLink R_Q 56 "QueuedFronts$Machine" "registers" "[I") mw_96) (fun _ h9 => h9) rfl d_Q_set_17 ?_
      refine lv_iload_n hx hb d_Q_set_20 rfl (lv_at hl 1 rfl) ?_
      refine lv_iload_n hx hb d_Q_set_21 rfl (lv_at hl 2 rfl) ?_
      refine va_iast hx hb hK hP hD hS 4 0 rfl rfl (show vp_in x 8 from (qi_ite (c := 8) (n := 8) (by decide) h1)) d_Q_set_22 (fun H locs hP hD hS => ?_)
      have hP : va_P D vwCl (qw_Q ad cA (qm_Q_m st (qm_M_rg st.2.2.1 (upd st.2.2.1.1 (Int32.toNatClampNeg x) v)))) H := hP
      have hD : va_D A (qw_Q ad cA (qm_Q_m st (qm_M_rg st.2.2.1 (upd st.2.2.1.1 (Int32.toNatClampNeg x) v)))) := hD
      refine lv_iconst (v := 1) hx hb d_Q_set_23 (by decide) ?_
      have e9 : ((qm_Q_m st (qm_M_rg st.2.2.1 (upd st.2.2.1.1 (Int32.toNatClampNeg x) v))), 1) = qf_Q_set st x v := (by unfold qf_Q_set; rw [if_neg h1, if_neg h2])
      exact W.zret (ty := .boolean) hx hb hr rfl (fun t ht hW => ⟨(by rw [← e9]), (by rw [ht, ← e9]; exact hP), hS.F ht⟩) hS.2.2 d_Q_set_24
    · have h2 : x = 0 := h2
      refine lv_iconst (v := 0) hx hb d_Q_set_11 (by decide) ?_
      have e9 : (st, 0) = qf_Q_set st x v := (by unfold qf_Q_set; rw [if_neg h1, if_pos h2])
      exact W.zret (ty := .boolean) hx hb hr rfl (fun t ht hW => ⟨(by rw [← e9]), (by rw [ht, ← e9]; exact hP), hS.F ht⟩) hS.2.2 d_Q_set_12
def qf_Q_setSpace (st : qs_Q) (x : Int32) (y : Int32) : qs_Q × Int32 :=
  if qf_Q_isSpaceRegister x = 0 then (st, 0)
  else if qf_Q_isSpace y = 0 then (st, 0)
  else ((qm_Q_m st (qm_M_sp st.2.2.1 (upd st.2.2.1.2.1 (Int32.toNatClampNeg x) y))), 1)
set_option maxHeartbeats 4000000 in
set_option maxRecDepth 100000 in
theorem c_Q_setSpace (l : Launch) (D : va_G) (cA : ClassId) (ad : Nat → Nat) (st : qs_Q) (x : Int32) (y : Int32) : Met l y_Q_setSpace (Cond.code y_Q_setSpace b_Q_setSpace 3 (some .boolean) :: qx_T) ({ frames := 1, cells := 0, slots := 0, locals := 20 }) (qx_Pc D vwCl [(cA, .int)] (qw_Q ad cA st) [.ref (ad 0), .int x, .int y]) (qx_Q D vwCl (qw_Q ad cA ((qf_Q_setSpace st x y).1)) (qx_ad (qw_Q ad cA st)) (some (.int (qf_Q_setSpace st x y).2))) 0 0 (qx_ad (qw_Q ad cA st)) := by
  refine Met.ofW (cc := b_Q_setSpace) (maxL := 3) (ret := (some .boolean)) (by decide) rfl ?_
  intro p e s m args below meth c s₁ B hml hv
  obtain ⟨rfl, hP, hK, hN, hD0⟩ := hv
  have hx := B.exec
  have hb := B.bytes
  have hr := B.returns
  have hts0 := atoms_spec (ws := Cond.code y_Q_setSpace b_Q_setSpace 3 (some .boolean) :: qx_T) B.pre
  have hts := fun w h => hts0 w (List.mem_cons_of_mem _ h)
  have hown : s.vm.findClass R_Q = some m.cls := findClass_of_methodNamed B.named
  have hlocks := B.notSynchronized
  have hD : va_D (qx_ad (qw_Q ad cA st)) (qw_Q ad cA st) := ⟨hD0.1, fun k q hk => ⟨k, q.2, hk⟩⟩
  generalize hAe : qx_ad (qw_Q ad cA st) = A at hD ⊢
  have hS : va_S A s.heap s.heap [] := va_S.rf
  have hl := lv_entry ([.ref (ad 0), .int x, .int y]) (n := 3) (Nat.le_of_ble_eq_true rfl)
  rw [lg_entry_eq]
  generalize (lg_sl ([.ref (ad 0), .int x, .int y]) ++ List.replicate (3 - (lg_sl ([.ref (ad 0), .int x, .int y])).length) Slot.unset).toArray = ls at hl ⊢
  have hl : lv_has ls 3 [(0, .ref (ad 0)), (1, .int x), (2, .int y)] := hl
  refine lv_iload_n hx hb d_Q_setSpace_0 rfl (lv_at hl 1 rfl) ?_
  refine qx_rd (va_runS (As := [.int x]) (rest := []) ⟨hx, hb, hml, hown, hts⟩ (c_Q_isSpaceRegister l D cA x) (qx_kS hts mw_172 mw_173 mw_29 mw_174 cd_Q_isSpaceRegister ⟨Nat.le_of_ble_eq_true rfl, Nat.le_of_ble_eq_true rfl⟩) (qx_preS hP hD hK hN [] rfl rfl) rfl rfl hl.1 rfl (lv_room (Nat.le_of_ble_eq_true rfl)) d_Q_setSpace_1 ⟨Nat.zero_le _, Nat.zero_le _⟩) ?_
  refine lv_if_eq (tgt := 14) hx hb d_Q_setSpace_4 (by decide) (fun h1 => ?_) (fun h1 => ?_)
  · have h1 : qf_Q_isSpaceRegister x = 0 := h1
    refine lv_iconst (v := 0) hx hb d_Q_setSpace_14 (by decide) ?_
    have e9 : (st, 0) = qf_Q_setSpace st x y := (by unfold qf_Q_setSpace; rw [if_pos h1])
    exact W.zret (ty := .boolean) hx hb hr rfl (fun t ht hW => ⟨(by rw [← e9]), (by rw [ht, ← e9]; exact hP), hS.F ht⟩) hS.2.2 d_Q_setSpace_15
  · have h1 : ¬ (qf_Q_isSpaceRegister x = 0) := h1
    refine lv_iload_n hx hb d_Q_setSpace_7 rfl (lv_at hl 2 rfl) ?_
    refine qx_rd (va_runS (As := [.int y]) (rest := []) ⟨hx, hb, hml, hown, hts⟩ (c_Q_isSpace l D cA y) (qx_kS hts mw_147 mw_148 mw_29 mw_149 cd_Q_isSpace ⟨Nat.le_of_ble_eq_true rfl, Nat.le_of_ble_eq_true rfl⟩) (qx_preS hP hD hK hN [] rfl rfl) rfl rfl hl.1 rfl (lv_room (Nat.le_of_ble_eq_true rfl)) d_Q_setSpace_8 ⟨Nat.zero_le _, Nat.zero_le _⟩) ?_
    refine lv_if_ne (tgt := 16) hx hb d_Q_setSpace_11 (by decide) (fun h2 => ?_) (fun h2 => ?_)
    · have h2 : ¬ (qf_Q_isSpace y = 0) := h2
      refine lv_aload_n hx hb d_Q_setSpace_16 rfl (lv_at hl 0 rfl) ?_
      refine va_get (D := D) (ci := 0) (v := .ref (ad 3)) (C := R_Q) (T := T_Q) (N := 5) hx hb hts in_Q hown hK hP 0 rfl rfl 2 (by decide) (hts (Cond.fieldLink R_Q 19 "QueuedFronts" "now" "LQueuedFronts$Machine;") mw_126) (fun _ h9 => h9) rfl d_Q_setSpace_17 ?_
      refine va_get (D := D) (ci := 1) (v := .ref (ad 5)) (C := R_M) (T := T_M) (N := 7) hx hb hts in_M hown hK hP 3 rfl rfl 1 (by decide) (hts (Cond.fieldLink R_Q 62 "QueuedFronts$Machine" "spaceRegisters" "[I") mw_98) (fun _ h9 => h9) rfl d_Q_setSpace_20 ?_
      refine lv_iload_n hx hb d_Q_setSpace_23 rfl (lv_at hl 1 rfl) ?_
      refine lv_iload_n hx hb d_Q_setSpace_24 rfl (lv_at hl 2 rfl) ?_
      refine va_iast hx hb hK hP hD hS 5 0 rfl rfl (show vp_in x 4 from (qi_ite (c := 4) (n := 4) (by decide) h1)) d_Q_setSpace_25 (fun H locs hP hD hS => ?_)
      have hP : va_P D vwCl (qw_Q ad cA (qm_Q_m st (qm_M_sp st.2.2.1 (upd st.2.2.1.2.1 (Int32.toNatClampNeg x) y)))) H := hP
      have hD : va_D A (qw_Q ad cA (qm_Q_m st (qm_M_sp st.2.2.1 (upd st.2.2.1.2.1 (Int32.toNatClampNeg x) y)))) := hD
      refine lv_iconst (v := 1) hx hb d_Q_setSpace_26 (by decide) ?_
      have e9 : ((qm_Q_m st (qm_M_sp st.2.2.1 (upd st.2.2.1.2.1 (Int32.toNatClampNeg x) y))), 1) = qf_Q_setSpace st x y := (by unfold qf_Q_setSpace; rw [if_neg h1, if_neg h2])
      exact W.zret (ty := .boolean) hx hb hr rfl (fun t ht hW => ⟨(by rw [← e9]), (by rw [ht, ← e9]; exact hP), hS.F ht⟩) hS.2.2 d_Q_setSpace_27
    · have h2 : qf_Q_isSpace y = 0 := h2
      refine lv_iconst (v := 0) hx hb d_Q_setSpace_14 (by decide) ?_
      have e9 : (st, 0) = qf_Q_setSpace st x y := (by unfold qf_Q_setSpace; rw [if_neg h1, if_pos h2])
      exact W.zret (ty := .boolean) hx hb hr rfl (fun t ht hW => ⟨(by rw [← e9]), (by rw [ht, ← e9]; exact hP), hS.F ht⟩) hS.2.2 d_Q_setSpace_15
def qf_Q_go (st : qs_Q) (x : Int32) (y : Int32) (z : Int32) : qs_Q × Int32 :=
  if qf_Q_isPlace x y = 0 then (st, 0)
  else if z = 0 then ((qm_Q_m st (qm_M_fl st.2.2.1 (qf_F_startAt st.2.2.1.2.2.2.1 (qf_Pl_of x y) (0 : Int32)))), 1)
  else ((qm_Q_m st (qm_M_fl st.2.2.1 (qf_F_startAt st.2.2.1.2.2.2.1 (qf_Pl_of x y) (1 : Int32)))), 1)
set_option maxHeartbeats 4000000 in
set_option maxRecDepth 100000 in
theorem c_Q_go (l : Launch) (D : va_G) (cA : ClassId) (ad : Nat → Nat) (st : qs_Q) (x : Int32) (y : Int32) (z : Int32) : Met l y_Q_go (Cond.code y_Q_go b_Q_go 4 (some .boolean) :: qx_T) ({ frames := 3, cells := 0, slots := 0, locals := 63 }) (qx_Pc D vwCl [(cA, .int)] (qw_Q ad cA st) [.ref (ad 0), .int x, .int y, .int z]) (qx_Q D vwCl (qw_Q ad cA ((qf_Q_go st x y z).1)) (qx_ad (qw_Q ad cA st)) (some (.int (qf_Q_go st x y z).2))) 0 0 (qx_ad (qw_Q ad cA st)) := by
  refine Met.ofW (cc := b_Q_go) (maxL := 4) (ret := (some .boolean)) (by decide) rfl ?_
  intro p e s m args below meth c s₁ B hml hv
  obtain ⟨rfl, hP, hK, hN, hD0⟩ := hv
  have hx := B.exec
  have hb := B.bytes
  have hr := B.returns
  have hts0 := atoms_spec (ws := Cond.code y_Q_go b_Q_go 4 (some .boolean) :: qx_T) B.pre
  have hts := fun w h => hts0 w (List.mem_cons_of_mem _ h)
  have hown : s.vm.findClass R_Q = some m.cls := findClass_of_methodNamed B.named
  have hlocks := B.notSynchronized
  have hD : va_D (qx_ad (qw_Q ad cA st)) (qw_Q ad cA st) := ⟨hD0.1, fun k q hk => ⟨k, q.2, hk⟩⟩
  generalize hAe : qx_ad (qw_Q ad cA st) = A at hD ⊢
  have hS : va_S A s.heap s.heap [] := va_S.rf
  have hl := lv_entry ([.ref (ad 0), .int x, .int y, .int z]) (n := 4) (Nat.le_of_ble_eq_true rfl)
  rw [lg_entry_eq]
  generalize (lg_sl ([.ref (ad 0), .int x, .int y, .int z]) ++ List.replicate (4 - (lg_sl ([.ref (ad 0), .int x, .int y, .int z])).length) Slot.unset).toArray = ls at hl ⊢
  have hl : lv_has ls 4 [(0, .ref (ad 0)), (1, .int x), (2, .int y), (3, .int z)] := hl
  refine lv_iload_n hx hb d_Q_go_0 rfl (lv_at hl 1 rfl) ?_
  refine lv_iload_n hx hb d_Q_go_1 rfl (lv_at hl 2 rfl) ?_
  refine qx_rd (va_runS (As := [.int x, .int y]) (rest := []) ⟨hx, hb, hml, hown, hts⟩ (c_Q_isPlace l D cA x y) (qx_kS hts mw_144 mw_145 mw_29 mw_146 cd_Q_isPlace ⟨Nat.le_of_ble_eq_true rfl, Nat.le_of_ble_eq_true rfl⟩) (qx_preS hP hD hK hN [] rfl rfl) rfl rfl hl.1 rfl (lv_room (Nat.le_of_ble_eq_true rfl)) d_Q_go_2 ⟨Nat.zero_le _, Nat.zero_le _⟩) ?_
  refine lv_if_ne (tgt := 10) hx hb d_Q_go_5 (by decide) (fun h1 => ?_) (fun h1 => ?_)
  · have h1 : ¬ (qf_Q_isPlace x y = 0) := h1
    refine lv_aload_n hx hb d_Q_go_10 rfl (lv_at hl 0 rfl) ?_
    refine va_get (D := D) (ci := 0) (v := .ref (ad 3)) (C := R_Q) (T := T_Q) (N := 5) hx hb hts in_Q hown hK hP 0 rfl rfl 2 (by decide) (hts (Cond.fieldLink R_Q 19 "QueuedFronts" "now" "LQueuedFronts$Machine;") mw_126) (fun _ h9 => h9) rfl d_Q_go_11 ?_
    refine va_get (D := D) (ci := 1) (v := .ref (ad 7)) (C := R_M) (T := T_M) (N := 7) hx hb hts in_M hown hK hP 3 rfl rfl 3 (by decide) (hts (Cond.fieldLink R_Q 65 "QueuedFronts$Machine" "flow" "LQueuedFronts$Flow;") mw_102) (fun _ h9 => h9) rfl d_Q_go_14 ?_
    refine lv_iload_n hx hb d_Q_go_17 rfl (lv_at hl 1 rfl) ?_
    refine lv_iload_n hx hb d_Q_go_18 rfl (lv_at hl 2 rfl) ?_
    refine qx_rd (va_runS (As := [.int x, .int y]) (rest := [.ref (ad 7)]) ⟨hx, hb, hml, hown, hts⟩ (c_Pl_of l D cA x y) (qx_kS hts mw_150 mw_93 mw_32 mw_94 cd_Pl_of ⟨Nat.le_of_ble_eq_true rfl, Nat.le_of_ble_eq_true rfl⟩) (qx_preS hP hD hK hN [] rfl rfl) rfl rfl hl.1 rfl (lv_room (Nat.le_of_ble_eq_true rfl)) d_Q_go_19 ⟨Nat.zero_le _, Nat.zero_le _⟩) ?_
    refine lv_iload_n hx hb d_Q_go_22 rfl (lv_at hl 3 rfl) ?_
    refine lv_if_eq (tgt := 30) hx hb d_Q_go_23 (by decide) (fun h2 => ?_) (fun h2 => ?_)
    · have h2 : z = 0 := h2
      refine lv_iconst (v := 0) hx hb d_Q_go_30 (by decide) ?_
      refine qx_muZ (T := qf_F_startAt st.2.2.1.2.2.2.1 (qf_Pl_of x y) (0 : Int32)) (Wf := fun zz : qs_F => qw_Q ad cA (qm_Q_m st (qm_M_fl st.2.2.1 zz))) (vf := fun _ => none) (va_runV (As := [.int (qf_Pl_of x y), .int 0]) (rest := []) ⟨hx, hb, hml, hown, hts⟩ (c_F_startAt l D cA (ad 7) st.2.2.1.2.2.2.1 (qf_Pl_of x y) 0) (qx_kV hts mw_179 mw_80 mw_81 mw_31 mw_82 cd_F_startAt ⟨Nat.le_of_ble_eq_true rfl, Nat.le_of_ble_eq_true rfl⟩) (qx_preV (q0 := 7) (ci := 2) (q := (R_F, T_F, 4)) hP hD hK hN [7] rfl rfl rfl rfl) rfl rfl hl.1 rfl (lv_room (Nat.le_of_ble_eq_true rfl)) d_Q_go_31 ⟨Nat.zero_le _, Nat.zero_le _⟩) hP hD hS [7] rfl rfl [ad 0, ad 1, ad 2, ad 3, ad 4, ad 5, ad 6, ad 7, ad 8, ad 9, ad 10, ad 11, ad 12, ad 13, ad 14] rfl rfl (fun zz1 hzz1 H locs hP hD hS => ?_)
      have hP : va_P D vwCl (qw_Q ad cA (qm_Q_m st (qm_M_fl st.2.2.1 zz1))) H := hP
      have hD : va_D A (qw_Q ad cA (qm_Q_m st (qm_M_fl st.2.2.1 zz1))) := hD
      refine W.eq (g2 := F0 m 34 ls []) rfl ?_
      refine lv_iconst (v := 1) hx hb d_Q_go_34 (by decide) ?_
      subst hzz1
      have e9 : ((qm_Q_m st (qm_M_fl st.2.2.1 (qf_F_startAt st.2.2.1.2.2.2.1 (qf_Pl_of x y) (0 : Int32)))), 1) = qf_Q_go st x y z := (by unfold qf_Q_go; rw [if_neg h1, if_pos h2])
      exact W.zret (ty := .boolean) hx hb hr rfl (fun t ht hW => ⟨(by rw [← e9]), (by rw [ht, ← e9]; exact hP), hS.F ht⟩) hS.2.2 d_Q_go_35
    · have h2 : ¬ (z = 0) := h2
      refine lv_iconst (v := 1) hx hb d_Q_go_26 (by decide) ?_
      refine lv_goto (tgt := 31) hx hb d_Q_go_27 (by decide) ?_
      refine qx_muZ (T := qf_F_startAt st.2.2.1.2.2.2.1 (qf_Pl_of x y) (1 : Int32)) (Wf := fun zz : qs_F => qw_Q ad cA (qm_Q_m st (qm_M_fl st.2.2.1 zz))) (vf := fun _ => none) (va_runV (As := [.int (qf_Pl_of x y), .int 1]) (rest := []) ⟨hx, hb, hml, hown, hts⟩ (c_F_startAt l D cA (ad 7) st.2.2.1.2.2.2.1 (qf_Pl_of x y) 1) (qx_kV hts mw_179 mw_80 mw_81 mw_31 mw_82 cd_F_startAt ⟨Nat.le_of_ble_eq_true rfl, Nat.le_of_ble_eq_true rfl⟩) (qx_preV (q0 := 7) (ci := 2) (q := (R_F, T_F, 4)) hP hD hK hN [7] rfl rfl rfl rfl) rfl rfl hl.1 rfl (lv_room (Nat.le_of_ble_eq_true rfl)) d_Q_go_31 ⟨Nat.zero_le _, Nat.zero_le _⟩) hP hD hS [7] rfl rfl [ad 0, ad 1, ad 2, ad 3, ad 4, ad 5, ad 6, ad 7, ad 8, ad 9, ad 10, ad 11, ad 12, ad 13, ad 14] rfl rfl (fun zz1 hzz1 H locs hP hD hS => ?_)
      have hP : va_P D vwCl (qw_Q ad cA (qm_Q_m st (qm_M_fl st.2.2.1 zz1))) H := hP
      have hD : va_D A (qw_Q ad cA (qm_Q_m st (qm_M_fl st.2.2.1 zz1))) := hD
      refine W.eq (g2 := F0 m 34 ls []) rfl ?_
      refine lv_iconst (v := 1) hx hb d_Q_go_34 (by decide) ?_
      subst hzz1
      have e9 : ((qm_Q_m st (qm_M_fl st.2.2.1 (qf_F_startAt st.2.2.1.2.2.2.1 (qf_Pl_of x y) (1 : Int32)))), 1) = qf_Q_go st x y z := (by unfold qf_Q_go; rw [if_neg h1, if_neg h2])
      exact W.zret (ty := .boolean) hx hb hr rfl (fun t ht hW => ⟨(by rw [← e9]), (by rw [ht, ← e9]; exact hP), hS.F ht⟩) hS.2.2 d_Q_go_35
  · have h1 : qf_Q_isPlace x y = 0 := h1
    refine lv_iconst (v := 0) hx hb d_Q_go_8 (by decide) ?_
    have e9 : (st, 0) = qf_Q_go st x y z := (by unfold qf_Q_go; rw [if_pos h1])
    exact W.zret (ty := .boolean) hx hb hr rfl (fun t ht hW => ⟨(by rw [← e9]), (by rw [ht, ← e9]; exact hP), hS.F ht⟩) hS.2.2 d_Q_go_9
def qf_Q_interrupt (st : qs_Q) : qs_Q × Int32 :=
  if st.2.2.1.2.2.2.2.2.2 = 1 then (st, 0)
  else ((qm_Q_m st (qm_M_pd st.2.2.1 1)), 1)
set_option maxHeartbeats 4000000 in
set_option maxRecDepth 100000 in
theorem c_Q_interrupt (l : Launch) (D : va_G) (cA : ClassId) (ad : Nat → Nat) (st : qs_Q) : Met l y_Q_interrupt (Cond.code y_Q_interrupt b_Q_interrupt 1 (some .boolean) :: qx_T) ({ frames := 0, cells := 0, slots := 0, locals := 0 }) (qx_Pc D vwCl [(cA, .int)] (qw_Q ad cA st) [.ref (ad 0)]) (qx_Q D vwCl (qw_Q ad cA ((qf_Q_interrupt st).1)) (qx_ad (qw_Q ad cA st)) (some (.int (qf_Q_interrupt st).2))) 0 0 (qx_ad (qw_Q ad cA st)) := by
  refine Met.ofW (cc := b_Q_interrupt) (maxL := 1) (ret := (some .boolean)) (by decide) rfl ?_
  intro p e s m args below meth c s₁ B hml hv
  obtain ⟨rfl, hP, hK, hN, hD0⟩ := hv
  have hx := B.exec
  have hb := B.bytes
  have hr := B.returns
  have hts0 := atoms_spec (ws := Cond.code y_Q_interrupt b_Q_interrupt 1 (some .boolean) :: qx_T) B.pre
  have hts := fun w h => hts0 w (List.mem_cons_of_mem _ h)
  have hown : s.vm.findClass R_Q = some m.cls := findClass_of_methodNamed B.named
  have hlocks := B.notSynchronized
  have hD : va_D (qx_ad (qw_Q ad cA st)) (qw_Q ad cA st) := ⟨hD0.1, fun k q hk => ⟨k, q.2, hk⟩⟩
  generalize hAe : qx_ad (qw_Q ad cA st) = A at hD ⊢
  have hS : va_S A s.heap s.heap [] := va_S.rf
  have hl := lv_entry ([.ref (ad 0)]) (n := 1) (Nat.le_of_ble_eq_true rfl)
  rw [lg_entry_eq]
  generalize (lg_sl ([.ref (ad 0)]) ++ List.replicate (1 - (lg_sl ([.ref (ad 0)])).length) Slot.unset).toArray = ls at hl ⊢
  have hl : lv_has ls 1 [(0, .ref (ad 0))] := hl
  refine lv_aload_n hx hb d_Q_interrupt_0 rfl (lv_at hl 0 rfl) ?_
  refine va_get (D := D) (ci := 0) (v := .ref (ad 3)) (C := R_Q) (T := T_Q) (N := 5) hx hb hts in_Q hown hK hP 0 rfl rfl 2 (by decide) (hts (Cond.fieldLink R_Q 19 "QueuedFronts" "now" "LQueuedFronts$Machine;") mw_126) (fun _ h9 => h9) rfl d_Q_interrupt_1 ?_
  refine va_get (D := D) (ci := 1) (v := .int st.2.2.1.2.2.2.2.2.2) (C := R_M) (T := T_M) (N := 7) hx hb hts in_M hown hK hP 3 rfl rfl 6 (by decide) (hts (Cond.fieldLink R_Q 75 "QueuedFronts$Machine" "pending" "I") mw_108) (fun _ h9 => h9) rfl d_Q_interrupt_4 ?_
  refine lv_iconst (v := 1) hx hb d_Q_interrupt_7 (by decide) ?_
  refine lv_icmp_ne (tgt := 13) hx hb d_Q_interrupt_8 (by decide) (fun h1 => ?_) (fun h1 => ?_)
  · have h1 : ¬ (st.2.2.1.2.2.2.2.2.2 = 1) := h1
    refine lv_aload_n hx hb d_Q_interrupt_13 rfl (lv_at hl 0 rfl) ?_
    refine va_get (D := D) (ci := 0) (v := .ref (ad 3)) (C := R_Q) (T := T_Q) (N := 5) hx hb hts in_Q hown hK hP 0 rfl rfl 2 (by decide) (hts (Cond.fieldLink R_Q 19 "QueuedFronts" "now" "LQueuedFronts$Machine;") mw_126) (fun _ h9 => h9) rfl d_Q_interrupt_14 ?_
    refine lv_iconst (v := 1) hx hb d_Q_interrupt_17 (by decide) ?_
    refine va_put (D := D) (ci := 1) (v := .int 1) (ty := .int) (C := R_M) (T := T_M) (N := 7) hx hb hts in_M ty_M tyok_M nm_M hown hK hP hD hS 3 rfl rfl 6 (by decide) (hts (Cond.fieldLink R_Q 75 "QueuedFronts$Machine" "pending" "I") mw_108) (fun _ h9 => h9) rfl (by decide +kernel) rfl rfl (Nat.le_of_ble_eq_true rfl) d_Q_interrupt_18 (fun H locs hP hD hS => ?_)
    have hP : va_P D vwCl (qw_Q ad cA (qm_Q_m st (qm_M_pd st.2.2.1 1))) H := hP
    have hD : va_D A (qw_Q ad cA (qm_Q_m st (qm_M_pd st.2.2.1 1))) := hD
    refine lv_iconst (v := 1) hx hb d_Q_interrupt_21 (by decide) ?_
    have e9 : ((qm_Q_m st (qm_M_pd st.2.2.1 1)), 1) = qf_Q_interrupt st := (by unfold qf_Q_interrupt; rw [if_neg h1])
    exact W.zret (ty := .boolean) hx hb hr rfl (fun t ht hW => ⟨(by rw [← e9]), (by rw [ht, ← e9]; exact hP), hS.F ht⟩) hS.2.2 d_Q_interrupt_22
  · have h1 : st.2.2.1.2.2.2.2.2.2 = 1 := h1
    refine lv_iconst (v := 0) hx hb d_Q_interrupt_11 (by decide) ?_
    have e9 : (st, 0) = qf_Q_interrupt st := (by unfold qf_Q_interrupt; rw [if_pos h1])
    exact W.zret (ty := .boolean) hx hb hr rfl (fun t ht hW => ⟨(by rw [← e9]), (by rw [ht, ← e9]; exact hP), hS.F ht⟩) hS.2.2 d_Q_interrupt_12
def qf_Q_state (st : qs_Q) (x : Int32) : Int32 :=
  if x = 0 then qf_Pl_spaceOf st.2.2.1.2.2.2.1.1
  else if x = 1 then qf_Pl_offsetOf st.2.2.1.2.2.2.1.1
  else if x = 2 then qf_Pl_spaceOf st.2.2.1.2.2.2.1.2.1
  else if x = 3 then qf_Pl_offsetOf st.2.2.1.2.2.2.1.2.1
  else if x = 4 then st.2.2.1.2.2.2.1.2.2.1
  else if x = 5 then st.2.2.1.2.2.2.1.2.2.2
  else if x = 6 then st.2.2.1.2.2.2.2.2.2
  else if x = 7 then qf_Pl_spaceOf st.2.2.1.2.2.2.2.1.1
  else if x = 8 then qf_Pl_offsetOf st.2.2.1.2.2.2.2.1.1
  else if x = 9 then qf_Pl_spaceOf st.2.2.1.2.2.2.2.1.2.1
  else if x = 10 then qf_Pl_offsetOf st.2.2.1.2.2.2.2.1.2.1
  else if x = 11 then st.2.2.1.2.2.2.2.1.2.2.1
  else if x = 12 then st.2.2.1.2.2.2.2.1.2.2.2
  else if x = 13 then st.2.2.1.2.2.2.2.2.1
  else (-1)
set_option maxHeartbeats 4000000 in
set_option maxRecDepth 100000 in
theorem c_Q_state (l : Launch) (D : va_G) (cA : ClassId) (ad : Nat → Nat) (st : qs_Q) (x : Int32) : Met l y_Q_state (Cond.code y_Q_state b_Q_state 2 (some .int) :: qx_T) ({ frames := 1, cells := 0, slots := 0, locals := 20 }) (qx_Pc D vwCl [(cA, .int)] (qw_Q ad cA st) [.ref (ad 0), .int x]) (k2_QcV (.int (qf_Q_state st x))) 0 0 (fun _ => False) := by
  refine Met.ofW (cc := b_Q_state) (maxL := 2) (ret := (some .int)) (by decide) rfl ?_
  intro p e s m args below meth c s₁ B hml hv
  obtain ⟨rfl, hP, hK, hN, hD0⟩ := hv
  have hx := B.exec
  have hb := B.bytes
  have hr := B.returns
  have hts0 := atoms_spec (ws := Cond.code y_Q_state b_Q_state 2 (some .int) :: qx_T) B.pre
  have hts := fun w h => hts0 w (List.mem_cons_of_mem _ h)
  have hown : s.vm.findClass R_Q = some m.cls := findClass_of_methodNamed B.named
  have hlocks := B.notSynchronized
  have hD : va_D (qx_ad (qw_Q ad cA st)) (qw_Q ad cA st) := ⟨hD0.1, fun k q hk => ⟨k, q.2, hk⟩⟩
  generalize hAe : qx_ad (qw_Q ad cA st) = A at hD
  have hS : va_S A s.heap s.heap [] := va_S.rf
  have hl := lv_entry ([.ref (ad 0), .int x]) (n := 2) (Nat.le_of_ble_eq_true rfl)
  rw [lg_entry_eq]
  generalize (lg_sl ([.ref (ad 0), .int x]) ++ List.replicate (2 - (lg_sl ([.ref (ad 0), .int x])).length) Slot.unset).toArray = ls at hl ⊢
  have hl : lv_has ls 2 [(0, .ref (ad 0)), (1, .int x)] := hl
  refine lv_iload_n hx hb d_Q_state_0 rfl (lv_at hl 1 rfl) ?_
  by_cases h1 : x = 0
  · refine lv_tableIn (tgt := 72) hx hb d_Q_state_1 (by rw [h1]; decide) (by rw [h1]; decide) (by rw [h1]; rfl) (by decide) ?_
    refine lv_aload_n hx hb d_Q_state_72 rfl (lv_at hl 0 rfl) ?_
    refine va_get (D := D) (ci := 0) (v := .ref (ad 3)) (C := R_Q) (T := T_Q) (N := 5) hx hb hts in_Q hown hK hP 0 rfl rfl 2 (by decide) (hts (Cond.fieldLink R_Q 19 "QueuedFronts" "now" "LQueuedFronts$Machine;") mw_126) (fun _ h9 => h9) rfl d_Q_state_73 ?_
    refine va_get (D := D) (ci := 1) (v := .ref (ad 7)) (C := R_M) (T := T_M) (N := 7) hx hb hts in_M hown hK hP 3 rfl rfl 3 (by decide) (hts (Cond.fieldLink R_Q 65 "QueuedFronts$Machine" "flow" "LQueuedFronts$Flow;") mw_102) (fun _ h9 => h9) rfl d_Q_state_76 ?_
    refine va_get (D := D) (ci := 2) (v := .int st.2.2.1.2.2.2.1.1) (C := R_F) (T := T_F) (N := 4) hx hb hts in_F hown hK hP 7 rfl rfl 0 (by decide) (hts (Cond.fieldLink R_Q 83 "QueuedFronts$Flow" "front" "I") mw_58) (fun _ h9 => h9) rfl d_Q_state_79 ?_
    refine qx_rd (va_runS (As := [.int st.2.2.1.2.2.2.1.1]) (rest := []) ⟨hx, hb, hml, hown, hts⟩ (c_Pl_spaceOf l D cA st.2.2.1.2.2.2.1.1) (qx_kS hts mw_327 mw_87 mw_32 mw_88 cd_Pl_spaceOf ⟨Nat.le_of_ble_eq_true rfl, Nat.le_of_ble_eq_true rfl⟩) (qx_preS hP hD hK hN [] rfl rfl) rfl rfl hl.1 rfl (lv_room (Nat.le_of_ble_eq_true rfl)) d_Q_state_82 ⟨Nat.zero_le _, Nat.zero_le _⟩) ?_
    exact W.iret hx hb hr (fun t ht hW => ⟨congrArg (fun z => Outcome.returned (some (Value.int z))) (show qf_Pl_spaceOf st.2.2.1.2.2.2.1.1 = qf_Q_state st x from (by unfold qf_Q_state; rw [if_pos h1])), ht⟩) (fun _ h => absurd h List.not_mem_nil) d_Q_state_85
  by_cases h2 : x = 1
  · refine lv_tableIn (tgt := 86) hx hb d_Q_state_1 (by rw [h2]; decide) (by rw [h2]; decide) (by rw [h2]; rfl) (by decide) ?_
    refine lv_aload_n hx hb d_Q_state_86 rfl (lv_at hl 0 rfl) ?_
    refine va_get (D := D) (ci := 0) (v := .ref (ad 3)) (C := R_Q) (T := T_Q) (N := 5) hx hb hts in_Q hown hK hP 0 rfl rfl 2 (by decide) (hts (Cond.fieldLink R_Q 19 "QueuedFronts" "now" "LQueuedFronts$Machine;") mw_126) (fun _ h9 => h9) rfl d_Q_state_87 ?_
    refine va_get (D := D) (ci := 1) (v := .ref (ad 7)) (C := R_M) (T := T_M) (N := 7) hx hb hts in_M hown hK hP 3 rfl rfl 3 (by decide) (hts (Cond.fieldLink R_Q 65 "QueuedFronts$Machine" "flow" "LQueuedFronts$Flow;") mw_102) (fun _ h9 => h9) rfl d_Q_state_90 ?_
    refine va_get (D := D) (ci := 2) (v := .int st.2.2.1.2.2.2.1.1) (C := R_F) (T := T_F) (N := 4) hx hb hts in_F hown hK hP 7 rfl rfl 0 (by decide) (hts (Cond.fieldLink R_Q 83 "QueuedFronts$Flow" "front" "I") mw_58) (fun _ h9 => h9) rfl d_Q_state_93 ?_
    refine qx_rd (va_runS (As := [.int st.2.2.1.2.2.2.1.1]) (rest := []) ⟨hx, hb, hml, hown, hts⟩ (c_Pl_offsetOf l D cA st.2.2.1.2.2.2.1.1) (qx_kS hts mw_328 mw_90 mw_32 mw_91 cd_Pl_offsetOf ⟨Nat.le_of_ble_eq_true rfl, Nat.le_of_ble_eq_true rfl⟩) (qx_preS hP hD hK hN [] rfl rfl) rfl rfl hl.1 rfl (lv_room (Nat.le_of_ble_eq_true rfl)) d_Q_state_96 ⟨Nat.zero_le _, Nat.zero_le _⟩) ?_
    exact W.iret hx hb hr (fun t ht hW => ⟨congrArg (fun z => Outcome.returned (some (Value.int z))) (show qf_Pl_offsetOf st.2.2.1.2.2.2.1.1 = qf_Q_state st x from (by unfold qf_Q_state; rw [if_neg h1, if_pos h2])), ht⟩) (fun _ h => absurd h List.not_mem_nil) d_Q_state_99
  by_cases h3 : x = 2
  · refine lv_tableIn (tgt := 100) hx hb d_Q_state_1 (by rw [h3]; decide) (by rw [h3]; decide) (by rw [h3]; rfl) (by decide) ?_
    refine lv_aload_n hx hb d_Q_state_100 rfl (lv_at hl 0 rfl) ?_
    refine va_get (D := D) (ci := 0) (v := .ref (ad 3)) (C := R_Q) (T := T_Q) (N := 5) hx hb hts in_Q hown hK hP 0 rfl rfl 2 (by decide) (hts (Cond.fieldLink R_Q 19 "QueuedFronts" "now" "LQueuedFronts$Machine;") mw_126) (fun _ h9 => h9) rfl d_Q_state_101 ?_
    refine va_get (D := D) (ci := 1) (v := .ref (ad 7)) (C := R_M) (T := T_M) (N := 7) hx hb hts in_M hown hK hP 3 rfl rfl 3 (by decide) (hts (Cond.fieldLink R_Q 65 "QueuedFronts$Machine" "flow" "LQueuedFronts$Flow;") mw_102) (fun _ h9 => h9) rfl d_Q_state_104 ?_
    refine va_get (D := D) (ci := 2) (v := .int st.2.2.1.2.2.2.1.2.1) (C := R_F) (T := T_F) (N := 4) hx hb hts in_F hown hK hP 7 rfl rfl 1 (by decide) (hts (Cond.fieldLink R_Q 93 "QueuedFronts$Flow" "back" "I") mw_61) (fun _ h9 => h9) rfl d_Q_state_107 ?_
    refine qx_rd (va_runS (As := [.int st.2.2.1.2.2.2.1.2.1]) (rest := []) ⟨hx, hb, hml, hown, hts⟩ (c_Pl_spaceOf l D cA st.2.2.1.2.2.2.1.2.1) (qx_kS hts mw_327 mw_87 mw_32 mw_88 cd_Pl_spaceOf ⟨Nat.le_of_ble_eq_true rfl, Nat.le_of_ble_eq_true rfl⟩) (qx_preS hP hD hK hN [] rfl rfl) rfl rfl hl.1 rfl (lv_room (Nat.le_of_ble_eq_true rfl)) d_Q_state_110 ⟨Nat.zero_le _, Nat.zero_le _⟩) ?_
    exact W.iret hx hb hr (fun t ht hW => ⟨congrArg (fun z => Outcome.returned (some (Value.int z))) (show qf_Pl_spaceOf st.2.2.1.2.2.2.1.2.1 = qf_Q_state st x from (by unfold qf_Q_state; rw [if_neg h1, if_neg h2, if_pos h3])), ht⟩) (fun _ h => absurd h List.not_mem_nil) d_Q_state_113
  by_cases h4 : x = 3
  · refine lv_tableIn (tgt := 114) hx hb d_Q_state_1 (by rw [h4]; decide) (by rw [h4]; decide) (by rw [h4]; rfl) (by decide) ?_
    refine lv_aload_n hx hb d_Q_state_114 rfl (lv_at hl 0 rfl) ?_
    refine va_get (D := D) (ci := 0) (v := .ref (ad 3)) (C := R_Q) (T := T_Q) (N := 5) hx hb hts in_Q hown hK hP 0 rfl rfl 2 (by decide) (hts (Cond.fieldLink R_Q 19 "QueuedFronts" "now" "LQueuedFronts$Machine;") mw_126) (fun _ h9 => h9) rfl d_Q_state_115 ?_
    refine va_get (D := D) (ci := 1) (v := .ref (ad 7)) (C := R_M) (T := T_M) (N := 7) hx hb hts in_M hown hK hP 3 rfl rfl 3 (by decide) (hts (Cond.fieldLink R_Q 65 "QueuedFronts$Machine" "flow" "LQueuedFronts$Flow;") mw_102) (fun _ h9 => h9) rfl d_Q_state_118 ?_
    refine va_get (D := D) (ci := 2) (v := .int st.2.2.1.2.2.2.1.2.1) (C := R_F) (T := T_F) (N := 4) hx hb hts in_F hown hK hP 7 rfl rfl 1 (by decide) (hts (Cond.fieldLink R_Q 93 "QueuedFronts$Flow" "back" "I") mw_61) (fun _ h9 => h9) rfl d_Q_state_121 ?_
    refine qx_rd (va_runS (As := [.int st.2.2.1.2.2.2.1.2.1]) (rest := []) ⟨hx, hb, hml, hown, hts⟩ (c_Pl_offsetOf l D cA st.2.2.1.2.2.2.1.2.1) (qx_kS hts mw_328 mw_90 mw_32 mw_91 cd_Pl_offsetOf ⟨Nat.le_of_ble_eq_true rfl, Nat.le_of_ble_eq_true rfl⟩) (qx_preS hP hD hK hN [] rfl rfl) rfl rfl hl.1 rfl (lv_room (Nat.le_of_ble_eq_true rfl)) d_Q_state_124 ⟨Nat.zero_le _, Nat.zero_le _⟩) ?_
    exact W.iret hx hb hr (fun t ht hW => ⟨congrArg (fun z => Outcome.returned (some (Value.int z))) (show qf_Pl_offsetOf st.2.2.1.2.2.2.1.2.1 = qf_Q_state st x from (by unfold qf_Q_state; rw [if_neg h1, if_neg h2, if_neg h3, if_pos h4])), ht⟩) (fun _ h => absurd h List.not_mem_nil) d_Q_state_127
  by_cases h5 : x = 4
  · refine lv_tableIn (tgt := 128) hx hb d_Q_state_1 (by rw [h5]; decide) (by rw [h5]; decide) (by rw [h5]; rfl) (by decide) ?_
    refine lv_aload_n hx hb d_Q_state_128 rfl (lv_at hl 0 rfl) ?_
    refine va_get (D := D) (ci := 0) (v := .ref (ad 3)) (C := R_Q) (T := T_Q) (N := 5) hx hb hts in_Q hown hK hP 0 rfl rfl 2 (by decide) (hts (Cond.fieldLink R_Q 19 "QueuedFronts" "now" "LQueuedFronts$Machine;") mw_126) (fun _ h9 => h9) rfl d_Q_state_129 ?_
    refine va_get (D := D) (ci := 1) (v := .ref (ad 7)) (C := R_M) (T := T_M) (N := 7) hx hb hts in_M hown hK hP 3 rfl rfl 3 (by decide) (hts (Cond.fieldLink R_Q 65 "QueuedFronts$Machine" "flow" "LQueuedFronts$Flow;") mw_102) (fun _ h9 => h9) rfl d_Q_state_132 ?_
    refine va_get (D := D) (ci := 2) (v := .int st.2.2.1.2.2.2.1.2.2.1) (C := R_F) (T := T_F) (N := 4) hx hb hts in_F hown hK hP 7 rfl rfl 2 (by decide) (hts (Cond.fieldLink R_Q 96 "QueuedFronts$Flow" "nullify" "I") mw_64) (fun _ h9 => h9) rfl d_Q_state_135 ?_
    exact W.iret hx hb hr (fun t ht hW => ⟨congrArg (fun z => Outcome.returned (some (Value.int z))) (show st.2.2.1.2.2.2.1.2.2.1 = qf_Q_state st x from (by unfold qf_Q_state; rw [if_neg h1, if_neg h2, if_neg h3, if_neg h4, if_pos h5])), ht⟩) (fun _ h => absurd h List.not_mem_nil) d_Q_state_138
  by_cases h6 : x = 5
  · refine lv_tableIn (tgt := 139) hx hb d_Q_state_1 (by rw [h6]; decide) (by rw [h6]; decide) (by rw [h6]; rfl) (by decide) ?_
    refine lv_aload_n hx hb d_Q_state_139 rfl (lv_at hl 0 rfl) ?_
    refine va_get (D := D) (ci := 0) (v := .ref (ad 3)) (C := R_Q) (T := T_Q) (N := 5) hx hb hts in_Q hown hK hP 0 rfl rfl 2 (by decide) (hts (Cond.fieldLink R_Q 19 "QueuedFronts" "now" "LQueuedFronts$Machine;") mw_126) (fun _ h9 => h9) rfl d_Q_state_140 ?_
    refine va_get (D := D) (ci := 1) (v := .ref (ad 7)) (C := R_M) (T := T_M) (N := 7) hx hb hts in_M hown hK hP 3 rfl rfl 3 (by decide) (hts (Cond.fieldLink R_Q 65 "QueuedFronts$Machine" "flow" "LQueuedFronts$Flow;") mw_102) (fun _ h9 => h9) rfl d_Q_state_143 ?_
    refine va_get (D := D) (ci := 2) (v := .int st.2.2.1.2.2.2.1.2.2.2) (C := R_F) (T := T_F) (N := 4) hx hb hts in_F hown hK hP 7 rfl rfl 3 (by decide) (hts (Cond.fieldLink R_Q 99 "QueuedFronts$Flow" "lets" "I") mw_67) (fun _ h9 => h9) rfl d_Q_state_146 ?_
    exact W.iret hx hb hr (fun t ht hW => ⟨congrArg (fun z => Outcome.returned (some (Value.int z))) (show st.2.2.1.2.2.2.1.2.2.2 = qf_Q_state st x from (by unfold qf_Q_state; rw [if_neg h1, if_neg h2, if_neg h3, if_neg h4, if_neg h5, if_pos h6])), ht⟩) (fun _ h => absurd h List.not_mem_nil) d_Q_state_149
  by_cases h7 : x = 6
  · refine lv_tableIn (tgt := 150) hx hb d_Q_state_1 (by rw [h7]; decide) (by rw [h7]; decide) (by rw [h7]; rfl) (by decide) ?_
    refine lv_aload_n hx hb d_Q_state_150 rfl (lv_at hl 0 rfl) ?_
    refine va_get (D := D) (ci := 0) (v := .ref (ad 3)) (C := R_Q) (T := T_Q) (N := 5) hx hb hts in_Q hown hK hP 0 rfl rfl 2 (by decide) (hts (Cond.fieldLink R_Q 19 "QueuedFronts" "now" "LQueuedFronts$Machine;") mw_126) (fun _ h9 => h9) rfl d_Q_state_151 ?_
    refine va_get (D := D) (ci := 1) (v := .int st.2.2.1.2.2.2.2.2.2) (C := R_M) (T := T_M) (N := 7) hx hb hts in_M hown hK hP 3 rfl rfl 6 (by decide) (hts (Cond.fieldLink R_Q 75 "QueuedFronts$Machine" "pending" "I") mw_108) (fun _ h9 => h9) rfl d_Q_state_154 ?_
    exact W.iret hx hb hr (fun t ht hW => ⟨congrArg (fun z => Outcome.returned (some (Value.int z))) (show st.2.2.1.2.2.2.2.2.2 = qf_Q_state st x from (by unfold qf_Q_state; rw [if_neg h1, if_neg h2, if_neg h3, if_neg h4, if_neg h5, if_neg h6, if_pos h7])), ht⟩) (fun _ h => absurd h List.not_mem_nil) d_Q_state_157
  by_cases h8 : x = 7
  · refine lv_tableIn (tgt := 158) hx hb d_Q_state_1 (by rw [h8]; decide) (by rw [h8]; decide) (by rw [h8]; rfl) (by decide) ?_
    refine lv_aload_n hx hb d_Q_state_158 rfl (lv_at hl 0 rfl) ?_
    refine va_get (D := D) (ci := 0) (v := .ref (ad 3)) (C := R_Q) (T := T_Q) (N := 5) hx hb hts in_Q hown hK hP 0 rfl rfl 2 (by decide) (hts (Cond.fieldLink R_Q 19 "QueuedFronts" "now" "LQueuedFronts$Machine;") mw_126) (fun _ h9 => h9) rfl d_Q_state_159 ?_
    refine va_get (D := D) (ci := 1) (v := .ref (ad 8)) (C := R_M) (T := T_M) (N := 7) hx hb hts in_M hown hK hP 3 rfl rfl 4 (by decide) (hts (Cond.fieldLink R_Q 102 "QueuedFronts$Machine" "saved" "LQueuedFronts$Flow;") mw_104) (fun _ h9 => h9) rfl d_Q_state_162 ?_
    refine va_get (D := D) (ci := 2) (v := .int st.2.2.1.2.2.2.2.1.1) (C := R_F) (T := T_F) (N := 4) hx hb hts in_F hown hK hP 8 rfl rfl 0 (by decide) (hts (Cond.fieldLink R_Q 83 "QueuedFronts$Flow" "front" "I") mw_58) (fun _ h9 => h9) rfl d_Q_state_165 ?_
    refine qx_rd (va_runS (As := [.int st.2.2.1.2.2.2.2.1.1]) (rest := []) ⟨hx, hb, hml, hown, hts⟩ (c_Pl_spaceOf l D cA st.2.2.1.2.2.2.2.1.1) (qx_kS hts mw_327 mw_87 mw_32 mw_88 cd_Pl_spaceOf ⟨Nat.le_of_ble_eq_true rfl, Nat.le_of_ble_eq_true rfl⟩) (qx_preS hP hD hK hN [] rfl rfl) rfl rfl hl.1 rfl (lv_room (Nat.le_of_ble_eq_true rfl)) d_Q_state_168 ⟨Nat.zero_le _, Nat.zero_le _⟩) ?_
    exact W.iret hx hb hr (fun t ht hW => ⟨congrArg (fun z => Outcome.returned (some (Value.int z))) (show qf_Pl_spaceOf st.2.2.1.2.2.2.2.1.1 = qf_Q_state st x from (by unfold qf_Q_state; rw [if_neg h1, if_neg h2, if_neg h3, if_neg h4, if_neg h5, if_neg h6, if_neg h7, if_pos h8])), ht⟩) (fun _ h => absurd h List.not_mem_nil) d_Q_state_171
  by_cases h9 : x = 8
  · refine lv_tableIn (tgt := 172) hx hb d_Q_state_1 (by rw [h9]; decide) (by rw [h9]; decide) (by rw [h9]; rfl) (by decide) ?_
    refine lv_aload_n hx hb d_Q_state_172 rfl (lv_at hl 0 rfl) ?_
    refine va_get (D := D) (ci := 0) (v := .ref (ad 3)) (C := R_Q) (T := T_Q) (N := 5) hx hb hts in_Q hown hK hP 0 rfl rfl 2 (by decide) (hts (Cond.fieldLink R_Q 19 "QueuedFronts" "now" "LQueuedFronts$Machine;") mw_126) (fun _ h9 => h9) rfl d_Q_state_173 ?_
    refine va_get (D := D) (ci := 1) (v := .ref (ad 8)) (C := R_M) (T := T_M) (N := 7) hx hb hts in_M hown hK hP 3 rfl rfl 4 (by decide) (hts (Cond.fieldLink R_Q 102 "QueuedFronts$Machine" "saved" "LQueuedFronts$Flow;") mw_104) (fun _ h9 => h9) rfl d_Q_state_176 ?_
    refine va_get (D := D) (ci := 2) (v := .int st.2.2.1.2.2.2.2.1.1) (C := R_F) (T := T_F) (N := 4) hx hb hts in_F hown hK hP 8 rfl rfl 0 (by decide) (hts (Cond.fieldLink R_Q 83 "QueuedFronts$Flow" "front" "I") mw_58) (fun _ h9 => h9) rfl d_Q_state_179 ?_
    refine qx_rd (va_runS (As := [.int st.2.2.1.2.2.2.2.1.1]) (rest := []) ⟨hx, hb, hml, hown, hts⟩ (c_Pl_offsetOf l D cA st.2.2.1.2.2.2.2.1.1) (qx_kS hts mw_328 mw_90 mw_32 mw_91 cd_Pl_offsetOf ⟨Nat.le_of_ble_eq_true rfl, Nat.le_of_ble_eq_true rfl⟩) (qx_preS hP hD hK hN [] rfl rfl) rfl rfl hl.1 rfl (lv_room (Nat.le_of_ble_eq_true rfl)) d_Q_state_182 ⟨Nat.zero_le _, Nat.zero_le _⟩) ?_
    exact W.iret hx hb hr (fun t ht hW => ⟨congrArg (fun z => Outcome.returned (some (Value.int z))) (show qf_Pl_offsetOf st.2.2.1.2.2.2.2.1.1 = qf_Q_state st x from (by unfold qf_Q_state; rw [if_neg h1, if_neg h2, if_neg h3, if_neg h4, if_neg h5, if_neg h6, if_neg h7, if_neg h8, if_pos h9])), ht⟩) (fun _ h => absurd h List.not_mem_nil) d_Q_state_185
  by_cases h10 : x = 9
  · refine lv_tableIn (tgt := 186) hx hb d_Q_state_1 (by rw [h10]; decide) (by rw [h10]; decide) (by rw [h10]; rfl) (by decide) ?_
    refine lv_aload_n hx hb d_Q_state_186 rfl (lv_at hl 0 rfl) ?_
    refine va_get (D := D) (ci := 0) (v := .ref (ad 3)) (C := R_Q) (T := T_Q) (N := 5) hx hb hts in_Q hown hK hP 0 rfl rfl 2 (by decide) (hts (Cond.fieldLink R_Q 19 "QueuedFronts" "now" "LQueuedFronts$Machine;") mw_126) (fun _ h9 => h9) rfl d_Q_state_187 ?_
    refine va_get (D := D) (ci := 1) (v := .ref (ad 8)) (C := R_M) (T := T_M) (N := 7) hx hb hts in_M hown hK hP 3 rfl rfl 4 (by decide) (hts (Cond.fieldLink R_Q 102 "QueuedFronts$Machine" "saved" "LQueuedFronts$Flow;") mw_104) (fun _ h9 => h9) rfl d_Q_state_190 ?_
    refine va_get (D := D) (ci := 2) (v := .int st.2.2.1.2.2.2.2.1.2.1) (C := R_F) (T := T_F) (N := 4) hx hb hts in_F hown hK hP 8 rfl rfl 1 (by decide) (hts (Cond.fieldLink R_Q 93 "QueuedFronts$Flow" "back" "I") mw_61) (fun _ h9 => h9) rfl d_Q_state_193 ?_
    refine qx_rd (va_runS (As := [.int st.2.2.1.2.2.2.2.1.2.1]) (rest := []) ⟨hx, hb, hml, hown, hts⟩ (c_Pl_spaceOf l D cA st.2.2.1.2.2.2.2.1.2.1) (qx_kS hts mw_327 mw_87 mw_32 mw_88 cd_Pl_spaceOf ⟨Nat.le_of_ble_eq_true rfl, Nat.le_of_ble_eq_true rfl⟩) (qx_preS hP hD hK hN [] rfl rfl) rfl rfl hl.1 rfl (lv_room (Nat.le_of_ble_eq_true rfl)) d_Q_state_196 ⟨Nat.zero_le _, Nat.zero_le _⟩) ?_
    exact W.iret hx hb hr (fun t ht hW => ⟨congrArg (fun z => Outcome.returned (some (Value.int z))) (show qf_Pl_spaceOf st.2.2.1.2.2.2.2.1.2.1 = qf_Q_state st x from (by unfold qf_Q_state; rw [if_neg h1, if_neg h2, if_neg h3, if_neg h4, if_neg h5, if_neg h6, if_neg h7, if_neg h8, if_neg h9, if_pos h10])), ht⟩) (fun _ h => absurd h List.not_mem_nil) d_Q_state_199
  by_cases h11 : x = 10
  · refine lv_tableIn (tgt := 200) hx hb d_Q_state_1 (by rw [h11]; decide) (by rw [h11]; decide) (by rw [h11]; rfl) (by decide) ?_
    refine lv_aload_n hx hb d_Q_state_200 rfl (lv_at hl 0 rfl) ?_
    refine va_get (D := D) (ci := 0) (v := .ref (ad 3)) (C := R_Q) (T := T_Q) (N := 5) hx hb hts in_Q hown hK hP 0 rfl rfl 2 (by decide) (hts (Cond.fieldLink R_Q 19 "QueuedFronts" "now" "LQueuedFronts$Machine;") mw_126) (fun _ h9 => h9) rfl d_Q_state_201 ?_
    refine va_get (D := D) (ci := 1) (v := .ref (ad 8)) (C := R_M) (T := T_M) (N := 7) hx hb hts in_M hown hK hP 3 rfl rfl 4 (by decide) (hts (Cond.fieldLink R_Q 102 "QueuedFronts$Machine" "saved" "LQueuedFronts$Flow;") mw_104) (fun _ h9 => h9) rfl d_Q_state_204 ?_
    refine va_get (D := D) (ci := 2) (v := .int st.2.2.1.2.2.2.2.1.2.1) (C := R_F) (T := T_F) (N := 4) hx hb hts in_F hown hK hP 8 rfl rfl 1 (by decide) (hts (Cond.fieldLink R_Q 93 "QueuedFronts$Flow" "back" "I") mw_61) (fun _ h9 => h9) rfl d_Q_state_207 ?_
    refine qx_rd (va_runS (As := [.int st.2.2.1.2.2.2.2.1.2.1]) (rest := []) ⟨hx, hb, hml, hown, hts⟩ (c_Pl_offsetOf l D cA st.2.2.1.2.2.2.2.1.2.1) (qx_kS hts mw_328 mw_90 mw_32 mw_91 cd_Pl_offsetOf ⟨Nat.le_of_ble_eq_true rfl, Nat.le_of_ble_eq_true rfl⟩) (qx_preS hP hD hK hN [] rfl rfl) rfl rfl hl.1 rfl (lv_room (Nat.le_of_ble_eq_true rfl)) d_Q_state_210 ⟨Nat.zero_le _, Nat.zero_le _⟩) ?_
    exact W.iret hx hb hr (fun t ht hW => ⟨congrArg (fun z => Outcome.returned (some (Value.int z))) (show qf_Pl_offsetOf st.2.2.1.2.2.2.2.1.2.1 = qf_Q_state st x from (by unfold qf_Q_state; rw [if_neg h1, if_neg h2, if_neg h3, if_neg h4, if_neg h5, if_neg h6, if_neg h7, if_neg h8, if_neg h9, if_neg h10, if_pos h11])), ht⟩) (fun _ h => absurd h List.not_mem_nil) d_Q_state_213
  by_cases h12 : x = 11
  · refine lv_tableIn (tgt := 214) hx hb d_Q_state_1 (by rw [h12]; decide) (by rw [h12]; decide) (by rw [h12]; rfl) (by decide) ?_
    refine lv_aload_n hx hb d_Q_state_214 rfl (lv_at hl 0 rfl) ?_
    refine va_get (D := D) (ci := 0) (v := .ref (ad 3)) (C := R_Q) (T := T_Q) (N := 5) hx hb hts in_Q hown hK hP 0 rfl rfl 2 (by decide) (hts (Cond.fieldLink R_Q 19 "QueuedFronts" "now" "LQueuedFronts$Machine;") mw_126) (fun _ h9 => h9) rfl d_Q_state_215 ?_
    refine va_get (D := D) (ci := 1) (v := .ref (ad 8)) (C := R_M) (T := T_M) (N := 7) hx hb hts in_M hown hK hP 3 rfl rfl 4 (by decide) (hts (Cond.fieldLink R_Q 102 "QueuedFronts$Machine" "saved" "LQueuedFronts$Flow;") mw_104) (fun _ h9 => h9) rfl d_Q_state_218 ?_
    refine va_get (D := D) (ci := 2) (v := .int st.2.2.1.2.2.2.2.1.2.2.1) (C := R_F) (T := T_F) (N := 4) hx hb hts in_F hown hK hP 8 rfl rfl 2 (by decide) (hts (Cond.fieldLink R_Q 96 "QueuedFronts$Flow" "nullify" "I") mw_64) (fun _ h9 => h9) rfl d_Q_state_221 ?_
    exact W.iret hx hb hr (fun t ht hW => ⟨congrArg (fun z => Outcome.returned (some (Value.int z))) (show st.2.2.1.2.2.2.2.1.2.2.1 = qf_Q_state st x from (by unfold qf_Q_state; rw [if_neg h1, if_neg h2, if_neg h3, if_neg h4, if_neg h5, if_neg h6, if_neg h7, if_neg h8, if_neg h9, if_neg h10, if_neg h11, if_pos h12])), ht⟩) (fun _ h => absurd h List.not_mem_nil) d_Q_state_224
  by_cases h13 : x = 12
  · refine lv_tableIn (tgt := 225) hx hb d_Q_state_1 (by rw [h13]; decide) (by rw [h13]; decide) (by rw [h13]; rfl) (by decide) ?_
    refine lv_aload_n hx hb d_Q_state_225 rfl (lv_at hl 0 rfl) ?_
    refine va_get (D := D) (ci := 0) (v := .ref (ad 3)) (C := R_Q) (T := T_Q) (N := 5) hx hb hts in_Q hown hK hP 0 rfl rfl 2 (by decide) (hts (Cond.fieldLink R_Q 19 "QueuedFronts" "now" "LQueuedFronts$Machine;") mw_126) (fun _ h9 => h9) rfl d_Q_state_226 ?_
    refine va_get (D := D) (ci := 1) (v := .ref (ad 8)) (C := R_M) (T := T_M) (N := 7) hx hb hts in_M hown hK hP 3 rfl rfl 4 (by decide) (hts (Cond.fieldLink R_Q 102 "QueuedFronts$Machine" "saved" "LQueuedFronts$Flow;") mw_104) (fun _ h9 => h9) rfl d_Q_state_229 ?_
    refine va_get (D := D) (ci := 2) (v := .int st.2.2.1.2.2.2.2.1.2.2.2) (C := R_F) (T := T_F) (N := 4) hx hb hts in_F hown hK hP 8 rfl rfl 3 (by decide) (hts (Cond.fieldLink R_Q 99 "QueuedFronts$Flow" "lets" "I") mw_67) (fun _ h9 => h9) rfl d_Q_state_232 ?_
    exact W.iret hx hb hr (fun t ht hW => ⟨congrArg (fun z => Outcome.returned (some (Value.int z))) (show st.2.2.1.2.2.2.2.1.2.2.2 = qf_Q_state st x from (by unfold qf_Q_state; rw [if_neg h1, if_neg h2, if_neg h3, if_neg h4, if_neg h5, if_neg h6, if_neg h7, if_neg h8, if_neg h9, if_neg h10, if_neg h11, if_neg h12, if_pos h13])), ht⟩) (fun _ h => absurd h List.not_mem_nil) d_Q_state_235
  by_cases h14 : x = 13
  · refine lv_tableIn (tgt := 236) hx hb d_Q_state_1 (by rw [h14]; decide) (by rw [h14]; decide) (by rw [h14]; rfl) (by decide) ?_
    refine lv_aload_n hx hb d_Q_state_236 rfl (lv_at hl 0 rfl) ?_
    refine va_get (D := D) (ci := 0) (v := .ref (ad 3)) (C := R_Q) (T := T_Q) (N := 5) hx hb hts in_Q hown hK hP 0 rfl rfl 2 (by decide) (hts (Cond.fieldLink R_Q 19 "QueuedFronts" "now" "LQueuedFronts$Machine;") mw_126) (fun _ h9 => h9) rfl d_Q_state_237 ?_
    refine va_get (D := D) (ci := 1) (v := .int st.2.2.1.2.2.2.2.2.1) (C := R_M) (T := T_M) (N := 7) hx hb hts in_M hown hK hP 3 rfl rfl 5 (by decide) (hts (Cond.fieldLink R_Q 105 "QueuedFronts$Machine" "savedCause" "I") mw_106) (fun _ h9 => h9) rfl d_Q_state_240 ?_
    exact W.iret hx hb hr (fun t ht hW => ⟨congrArg (fun z => Outcome.returned (some (Value.int z))) (show st.2.2.1.2.2.2.2.2.1 = qf_Q_state st x from (by unfold qf_Q_state; rw [if_neg h1, if_neg h2, if_neg h3, if_neg h4, if_neg h5, if_neg h6, if_neg h7, if_neg h8, if_neg h9, if_neg h10, if_neg h11, if_neg h12, if_neg h13, if_pos h14])), ht⟩) (fun _ h => absurd h List.not_mem_nil) d_Q_state_243
  refine lv_tableOut (tgt := 244) hx hb d_Q_state_1 (by have a0 := lv_neT (a := 0) h1 (by decide); have a1 := lv_neT (a := 1) h2 (by decide); have a2 := lv_neT (a := 2) h3 (by decide); have a3 := lv_neT (a := 3) h4 (by decide); have a4 := lv_neT (a := 4) h5 (by decide); have a5 := lv_neT (a := 5) h6 (by decide); have a6 := lv_neT (a := 6) h7 (by decide); have a7 := lv_neT (a := 7) h8 (by decide); have a8 := lv_neT (a := 8) h9 (by decide); have a9 := lv_neT (a := 9) h10 (by decide); have a10 := lv_neT (a := 10) h11 (by decide); have a11 := lv_neT (a := 11) h12 (by decide); have a12 := lv_neT (a := 12) h13 (by decide); have a13 := lv_neT (a := 13) h14 (by decide); omega) (by decide) ?_
  refine lv_iconst (v := (-1)) hx hb d_Q_state_244 (by decide) ?_
  exact W.iret hx hb hr (fun t ht hW => ⟨congrArg (fun z => Outcome.returned (some (Value.int z))) (show (-1) = qf_Q_state st x from (by unfold qf_Q_state; rw [if_neg h1, if_neg h2, if_neg h3, if_neg h4, if_neg h5, if_neg h6, if_neg h7, if_neg h8, if_neg h9, if_neg h10, if_neg h11, if_neg h12, if_neg h13, if_neg h14])), ht⟩) (fun _ h => absurd h List.not_mem_nil) d_Q_state_245
def qf_Q_register (st : qs_Q) (x : Int32) : Int32 :=
  if qf_Q_isRegister x = 0 then 0
  else (st.2.2.1.1 (Int32.toNatClampNeg x))
set_option maxHeartbeats 4000000 in
set_option maxRecDepth 100000 in
theorem c_Q_register (l : Launch) (D : va_G) (cA : ClassId) (ad : Nat → Nat) (st : qs_Q) (x : Int32) : Met l y_Q_register (Cond.code y_Q_register b_Q_register 2 (some .int) :: qx_T) ({ frames := 1, cells := 0, slots := 0, locals := 20 }) (qx_Pc D vwCl [(cA, .int)] (qw_Q ad cA st) [.ref (ad 0), .int x]) (k2_QcV (.int (qf_Q_register st x))) 0 0 (fun _ => False) := by
  refine Met.ofW (cc := b_Q_register) (maxL := 2) (ret := (some .int)) (by decide) rfl ?_
  intro p e s m args below meth c s₁ B hml hv
  obtain ⟨rfl, hP, hK, hN, hD0⟩ := hv
  have hx := B.exec
  have hb := B.bytes
  have hr := B.returns
  have hts0 := atoms_spec (ws := Cond.code y_Q_register b_Q_register 2 (some .int) :: qx_T) B.pre
  have hts := fun w h => hts0 w (List.mem_cons_of_mem _ h)
  have hown : s.vm.findClass R_Q = some m.cls := findClass_of_methodNamed B.named
  have hlocks := B.notSynchronized
  have hD : va_D (qx_ad (qw_Q ad cA st)) (qw_Q ad cA st) := ⟨hD0.1, fun k q hk => ⟨k, q.2, hk⟩⟩
  generalize hAe : qx_ad (qw_Q ad cA st) = A at hD
  have hS : va_S A s.heap s.heap [] := va_S.rf
  have hl := lv_entry ([.ref (ad 0), .int x]) (n := 2) (Nat.le_of_ble_eq_true rfl)
  rw [lg_entry_eq]
  generalize (lg_sl ([.ref (ad 0), .int x]) ++ List.replicate (2 - (lg_sl ([.ref (ad 0), .int x])).length) Slot.unset).toArray = ls at hl ⊢
  have hl : lv_has ls 2 [(0, .ref (ad 0)), (1, .int x)] := hl
  refine lv_iload_n hx hb d_Q_register_0 rfl (lv_at hl 1 rfl) ?_
  refine qx_rd (va_runS (As := [.int x]) (rest := []) ⟨hx, hb, hml, hown, hts⟩ (c_Q_isRegister l D cA x) (qx_kS hts mw_165 mw_166 mw_29 mw_167 cd_Q_isRegister ⟨Nat.le_of_ble_eq_true rfl, Nat.le_of_ble_eq_true rfl⟩) (qx_preS hP hD hK hN [] rfl rfl) rfl rfl hl.1 rfl (lv_room (Nat.le_of_ble_eq_true rfl)) d_Q_register_1 ⟨Nat.zero_le _, Nat.zero_le _⟩) ?_
  refine lv_if_eq (tgt := 19) hx hb d_Q_register_4 (by decide) (fun h1 => ?_) (fun h1 => ?_)
  · have h1 : qf_Q_isRegister x = 0 := h1
    refine lv_iconst (v := 0) hx hb d_Q_register_19 (by decide) ?_
    exact W.iret hx hb hr (fun t ht hW => ⟨congrArg (fun z => Outcome.returned (some (Value.int z))) (show 0 = qf_Q_register st x from (by unfold qf_Q_register; rw [if_pos h1])), ht⟩) (fun _ h => absurd h List.not_mem_nil) d_Q_register_20
  · have h1 : ¬ (qf_Q_isRegister x = 0) := h1
    refine lv_aload_n hx hb d_Q_register_7 rfl (lv_at hl 0 rfl) ?_
    refine va_get (D := D) (ci := 0) (v := .ref (ad 3)) (C := R_Q) (T := T_Q) (N := 5) hx hb hts in_Q hown hK hP 0 rfl rfl 2 (by decide) (hts (Cond.fieldLink R_Q 19 "QueuedFronts" "now" "LQueuedFronts$Machine;") mw_126) (fun _ h9 => h9) rfl d_Q_register_8 ?_
    refine va_get (D := D) (ci := 1) (v := .ref (ad 4)) (C := R_M) (T := T_M) (N := 7) hx hb hts in_M hown hK hP 3 rfl rfl 0 (by decide) (hts (Cond.fieldLink R_Q 56 "QueuedFronts$Machine" "registers" "[I") mw_96) (fun _ h9 => h9) rfl d_Q_register_11 ?_
    refine lv_iload_n hx hb d_Q_register_14 rfl (lv_at hl 1 rfl) ?_
    refine va_iald hx hb hK hP 4 0 rfl rfl (show vp_in x 8 from (qi_ite (c := 8) (n := 8) (by decide) h1)) d_Q_register_15 ?_
    refine lv_goto (tgt := 20) hx hb d_Q_register_16 (by decide) ?_
    exact W.iret hx hb hr (fun t ht hW => ⟨congrArg (fun z => Outcome.returned (some (Value.int z))) (show (st.2.2.1.1 (Int32.toNatClampNeg x)) = qf_Q_register st x from (by unfold qf_Q_register; rw [if_neg h1])), ht⟩) (fun _ h => absurd h List.not_mem_nil) d_Q_register_20
def qf_Q_space (st : qs_Q) (x : Int32) : Int32 :=
  if qf_Q_isSpaceRegister x = 0 then (-1)
  else (st.2.2.1.2.1 (Int32.toNatClampNeg x))
set_option maxHeartbeats 4000000 in
set_option maxRecDepth 100000 in
theorem c_Q_space (l : Launch) (D : va_G) (cA : ClassId) (ad : Nat → Nat) (st : qs_Q) (x : Int32) : Met l y_Q_space (Cond.code y_Q_space b_Q_space 2 (some .int) :: qx_T) ({ frames := 1, cells := 0, slots := 0, locals := 20 }) (qx_Pc D vwCl [(cA, .int)] (qw_Q ad cA st) [.ref (ad 0), .int x]) (k2_QcV (.int (qf_Q_space st x))) 0 0 (fun _ => False) := by
  refine Met.ofW (cc := b_Q_space) (maxL := 2) (ret := (some .int)) (by decide) rfl ?_
  intro p e s m args below meth c s₁ B hml hv
  obtain ⟨rfl, hP, hK, hN, hD0⟩ := hv
  have hx := B.exec
  have hb := B.bytes
  have hr := B.returns
  have hts0 := atoms_spec (ws := Cond.code y_Q_space b_Q_space 2 (some .int) :: qx_T) B.pre
  have hts := fun w h => hts0 w (List.mem_cons_of_mem _ h)
  have hown : s.vm.findClass R_Q = some m.cls := findClass_of_methodNamed B.named
  have hlocks := B.notSynchronized
  have hD : va_D (qx_ad (qw_Q ad cA st)) (qw_Q ad cA st) := ⟨hD0.1, fun k q hk => ⟨k, q.2, hk⟩⟩
  generalize hAe : qx_ad (qw_Q ad cA st) = A at hD
  have hS : va_S A s.heap s.heap [] := va_S.rf
  have hl := lv_entry ([.ref (ad 0), .int x]) (n := 2) (Nat.le_of_ble_eq_true rfl)
  rw [lg_entry_eq]
  generalize (lg_sl ([.ref (ad 0), .int x]) ++ List.replicate (2 - (lg_sl ([.ref (ad 0), .int x])).length) Slot.unset).toArray = ls at hl ⊢
  have hl : lv_has ls 2 [(0, .ref (ad 0)), (1, .int x)] := hl
  refine lv_iload_n hx hb d_Q_space_0 rfl (lv_at hl 1 rfl) ?_
  refine qx_rd (va_runS (As := [.int x]) (rest := []) ⟨hx, hb, hml, hown, hts⟩ (c_Q_isSpaceRegister l D cA x) (qx_kS hts mw_172 mw_173 mw_29 mw_174 cd_Q_isSpaceRegister ⟨Nat.le_of_ble_eq_true rfl, Nat.le_of_ble_eq_true rfl⟩) (qx_preS hP hD hK hN [] rfl rfl) rfl rfl hl.1 rfl (lv_room (Nat.le_of_ble_eq_true rfl)) d_Q_space_1 ⟨Nat.zero_le _, Nat.zero_le _⟩) ?_
  refine lv_if_eq (tgt := 19) hx hb d_Q_space_4 (by decide) (fun h1 => ?_) (fun h1 => ?_)
  · have h1 : qf_Q_isSpaceRegister x = 0 := h1
    refine lv_iconst (v := (-1)) hx hb d_Q_space_19 (by decide) ?_
    exact W.iret hx hb hr (fun t ht hW => ⟨congrArg (fun z => Outcome.returned (some (Value.int z))) (show (-1) = qf_Q_space st x from (by unfold qf_Q_space; rw [if_pos h1])), ht⟩) (fun _ h => absurd h List.not_mem_nil) d_Q_space_20
  · have h1 : ¬ (qf_Q_isSpaceRegister x = 0) := h1
    refine lv_aload_n hx hb d_Q_space_7 rfl (lv_at hl 0 rfl) ?_
    refine va_get (D := D) (ci := 0) (v := .ref (ad 3)) (C := R_Q) (T := T_Q) (N := 5) hx hb hts in_Q hown hK hP 0 rfl rfl 2 (by decide) (hts (Cond.fieldLink R_Q 19 "QueuedFronts" "now" "LQueuedFronts$Machine;") mw_126) (fun _ h9 => h9) rfl d_Q_space_8 ?_
    refine va_get (D := D) (ci := 1) (v := .ref (ad 5)) (C := R_M) (T := T_M) (N := 7) hx hb hts in_M hown hK hP 3 rfl rfl 1 (by decide) (hts (Cond.fieldLink R_Q 62 "QueuedFronts$Machine" "spaceRegisters" "[I") mw_98) (fun _ h9 => h9) rfl d_Q_space_11 ?_
    refine lv_iload_n hx hb d_Q_space_14 rfl (lv_at hl 1 rfl) ?_
    refine va_iald hx hb hK hP 5 0 rfl rfl (show vp_in x 4 from (qi_ite (c := 4) (n := 4) (by decide) h1)) d_Q_space_15 ?_
    refine lv_goto (tgt := 20) hx hb d_Q_space_16 (by decide) ?_
    exact W.iret hx hb hr (fun t ht hW => ⟨congrArg (fun z => Outcome.returned (some (Value.int z))) (show (st.2.2.1.2.1 (Int32.toNatClampNeg x)) = qf_Q_space st x from (by unfold qf_Q_space; rw [if_neg h1])), ht⟩) (fun _ h => absurd h List.not_mem_nil) d_Q_space_20
def qf_Q_word (st : qs_Q) (x : Int32) (y : Int32) : Int32 :=
  if qf_Q_isPlace x y = 0 then 0
  else (st.1 (Int32.toNatClampNeg (qf_Pl_of x y)))
set_option maxHeartbeats 4000000 in
set_option maxRecDepth 100000 in
theorem c_Q_word (l : Launch) (D : va_G) (cA : ClassId) (ad : Nat → Nat) (st : qs_Q) (x : Int32) (y : Int32) : Met l y_Q_word (Cond.code y_Q_word b_Q_word 3 (some .int) :: qx_T) ({ frames := 2, cells := 0, slots := 0, locals := 41 }) (qx_Pc D vwCl [(cA, .int)] (qw_Q ad cA st) [.ref (ad 0), .int x, .int y]) (k2_QcV (.int (qf_Q_word st x y))) 0 0 (fun _ => False) := by
  refine Met.ofW (cc := b_Q_word) (maxL := 3) (ret := (some .int)) (by decide) rfl ?_
  intro p e s m args below meth c s₁ B hml hv
  obtain ⟨rfl, hP, hK, hN, hD0⟩ := hv
  have hx := B.exec
  have hb := B.bytes
  have hr := B.returns
  have hts0 := atoms_spec (ws := Cond.code y_Q_word b_Q_word 3 (some .int) :: qx_T) B.pre
  have hts := fun w h => hts0 w (List.mem_cons_of_mem _ h)
  have hown : s.vm.findClass R_Q = some m.cls := findClass_of_methodNamed B.named
  have hlocks := B.notSynchronized
  have hD : va_D (qx_ad (qw_Q ad cA st)) (qw_Q ad cA st) := ⟨hD0.1, fun k q hk => ⟨k, q.2, hk⟩⟩
  generalize hAe : qx_ad (qw_Q ad cA st) = A at hD
  have hS : va_S A s.heap s.heap [] := va_S.rf
  have hl := lv_entry ([.ref (ad 0), .int x, .int y]) (n := 3) (Nat.le_of_ble_eq_true rfl)
  rw [lg_entry_eq]
  generalize (lg_sl ([.ref (ad 0), .int x, .int y]) ++ List.replicate (3 - (lg_sl ([.ref (ad 0), .int x, .int y])).length) Slot.unset).toArray = ls at hl ⊢
  have hl : lv_has ls 3 [(0, .ref (ad 0)), (1, .int x), (2, .int y)] := hl
  refine lv_iload_n hx hb d_Q_word_0 rfl (lv_at hl 1 rfl) ?_
  refine lv_iload_n hx hb d_Q_word_1 rfl (lv_at hl 2 rfl) ?_
  refine qx_rd (va_runS (As := [.int x, .int y]) (rest := []) ⟨hx, hb, hml, hown, hts⟩ (c_Q_isPlace l D cA x y) (qx_kS hts mw_144 mw_145 mw_29 mw_146 cd_Q_isPlace ⟨Nat.le_of_ble_eq_true rfl, Nat.le_of_ble_eq_true rfl⟩) (qx_preS hP hD hK hN [] rfl rfl) rfl rfl hl.1 rfl (lv_room (Nat.le_of_ble_eq_true rfl)) d_Q_word_2 ⟨Nat.zero_le _, Nat.zero_le _⟩) ?_
  refine lv_if_eq (tgt := 21) hx hb d_Q_word_5 (by decide) (fun h1 => ?_) (fun h1 => ?_)
  · have h1 : qf_Q_isPlace x y = 0 := h1
    refine lv_iconst (v := 0) hx hb d_Q_word_21 (by decide) ?_
    exact W.iret hx hb hr (fun t ht hW => ⟨congrArg (fun z => Outcome.returned (some (Value.int z))) (show 0 = qf_Q_word st x y from (by unfold qf_Q_word; rw [if_pos h1])), ht⟩) (fun _ h => absurd h List.not_mem_nil) d_Q_word_22
  · have h1 : ¬ (qf_Q_isPlace x y = 0) := h1
    refine lv_aload_n hx hb d_Q_word_8 rfl (lv_at hl 0 rfl) ?_
    refine va_get (D := D) (ci := 0) (v := .ref (ad 1)) (C := R_Q) (T := T_Q) (N := 5) hx hb hts in_Q hown hK hP 0 rfl rfl 0 (by decide) (hts (Cond.fieldLink R_Q 9 "QueuedFronts" "codeWords" "[I") mw_124) (fun _ h9 => h9) rfl d_Q_word_9 ?_
    refine lv_iload_n hx hb d_Q_word_12 rfl (lv_at hl 1 rfl) ?_
    refine lv_iload_n hx hb d_Q_word_13 rfl (lv_at hl 2 rfl) ?_
    refine qx_rd (va_runS (As := [.int x, .int y]) (rest := [.ref (ad 1)]) ⟨hx, hb, hml, hown, hts⟩ (c_Pl_of l D cA x y) (qx_kS hts mw_150 mw_93 mw_32 mw_94 cd_Pl_of ⟨Nat.le_of_ble_eq_true rfl, Nat.le_of_ble_eq_true rfl⟩) (qx_preS hP hD hK hN [] rfl rfl) rfl rfl hl.1 rfl (lv_room (Nat.le_of_ble_eq_true rfl)) d_Q_word_14 ⟨Nat.zero_le _, Nat.zero_le _⟩) ?_
    refine va_iald hx hb hK hP 1 0 rfl rfl (show vp_in (qf_Pl_of x y) 128 from qi_Pl _ _) d_Q_word_17 ?_
    refine lv_goto (tgt := 22) hx hb d_Q_word_18 (by decide) ?_
    exact W.iret hx hb hr (fun t ht hW => ⟨congrArg (fun z => Outcome.returned (some (Value.int z))) (show (st.1 (Int32.toNatClampNeg (qf_Pl_of x y))) = qf_Q_word st x y from (by unfold qf_Q_word; rw [if_neg h1])), ht⟩) (fun _ h => absurd h List.not_mem_nil) d_Q_word_22
def qf_Q_peek (st : qs_Q) (x : Int32) (y : Int32) : Int32 :=
  if qf_Q_isSpace x = 0 then 0
  else if qf_Q_isDataOffset y = 0 then 0
  else (st.2.2.1.2.2.1 (Int32.toNatClampNeg (qf_Q_dataIndex x y)))
set_option maxHeartbeats 4000000 in
set_option maxRecDepth 100000 in
theorem c_Q_peek (l : Launch) (D : va_G) (cA : ClassId) (ad : Nat → Nat) (st : qs_Q) (x : Int32) (y : Int32) : Met l y_Q_peek (Cond.code y_Q_peek b_Q_peek 3 (some .int) :: qx_T) ({ frames := 1, cells := 0, slots := 0, locals := 21 }) (qx_Pc D vwCl [(cA, .int)] (qw_Q ad cA st) [.ref (ad 0), .int x, .int y]) (k2_QcV (.int (qf_Q_peek st x y))) 0 0 (fun _ => False) := by
  refine Met.ofW (cc := b_Q_peek) (maxL := 3) (ret := (some .int)) (by decide) rfl ?_
  intro p e s m args below meth c s₁ B hml hv
  obtain ⟨rfl, hP, hK, hN, hD0⟩ := hv
  have hx := B.exec
  have hb := B.bytes
  have hr := B.returns
  have hts0 := atoms_spec (ws := Cond.code y_Q_peek b_Q_peek 3 (some .int) :: qx_T) B.pre
  have hts := fun w h => hts0 w (List.mem_cons_of_mem _ h)
  have hown : s.vm.findClass R_Q = some m.cls := findClass_of_methodNamed B.named
  have hlocks := B.notSynchronized
  have hD : va_D (qx_ad (qw_Q ad cA st)) (qw_Q ad cA st) := ⟨hD0.1, fun k q hk => ⟨k, q.2, hk⟩⟩
  generalize hAe : qx_ad (qw_Q ad cA st) = A at hD
  have hS : va_S A s.heap s.heap [] := va_S.rf
  have hl := lv_entry ([.ref (ad 0), .int x, .int y]) (n := 3) (Nat.le_of_ble_eq_true rfl)
  rw [lg_entry_eq]
  generalize (lg_sl ([.ref (ad 0), .int x, .int y]) ++ List.replicate (3 - (lg_sl ([.ref (ad 0), .int x, .int y])).length) Slot.unset).toArray = ls at hl ⊢
  have hl : lv_has ls 3 [(0, .ref (ad 0)), (1, .int x), (2, .int y)] := hl
  refine lv_iload_n hx hb d_Q_peek_0 rfl (lv_at hl 1 rfl) ?_
  refine qx_rd (va_runS (As := [.int x]) (rest := []) ⟨hx, hb, hml, hown, hts⟩ (c_Q_isSpace l D cA x) (qx_kS hts mw_147 mw_148 mw_29 mw_149 cd_Q_isSpace ⟨Nat.le_of_ble_eq_true rfl, Nat.le_of_ble_eq_true rfl⟩) (qx_preS hP hD hK hN [] rfl rfl) rfl rfl hl.1 rfl (lv_room (Nat.le_of_ble_eq_true rfl)) d_Q_peek_1 ⟨Nat.zero_le _, Nat.zero_le _⟩) ?_
  refine lv_if_eq (tgt := 14) hx hb d_Q_peek_4 (by decide) (fun h1 => ?_) (fun h1 => ?_)
  · have h1 : qf_Q_isSpace x = 0 := h1
    refine lv_iconst (v := 0) hx hb d_Q_peek_14 (by decide) ?_
    exact W.iret hx hb hr (fun t ht hW => ⟨congrArg (fun z => Outcome.returned (some (Value.int z))) (show 0 = qf_Q_peek st x y from (by unfold qf_Q_peek; rw [if_pos h1])), ht⟩) (fun _ h => absurd h List.not_mem_nil) d_Q_peek_15
  · have h1 : ¬ (qf_Q_isSpace x = 0) := h1
    refine lv_iload_n hx hb d_Q_peek_7 rfl (lv_at hl 2 rfl) ?_
    refine qx_rd (va_runS (As := [.int y]) (rest := []) ⟨hx, hb, hml, hown, hts⟩ (c_Q_isDataOffset l D cA y) (qx_kS hts mw_155 mw_156 mw_29 mw_157 cd_Q_isDataOffset ⟨Nat.le_of_ble_eq_true rfl, Nat.le_of_ble_eq_true rfl⟩) (qx_preS hP hD hK hN [] rfl rfl) rfl rfl hl.1 rfl (lv_room (Nat.le_of_ble_eq_true rfl)) d_Q_peek_8 ⟨Nat.zero_le _, Nat.zero_le _⟩) ?_
    refine lv_if_ne (tgt := 16) hx hb d_Q_peek_11 (by decide) (fun h2 => ?_) (fun h2 => ?_)
    · have h2 : ¬ (qf_Q_isDataOffset y = 0) := h2
      refine lv_aload_n hx hb d_Q_peek_16 rfl (lv_at hl 0 rfl) ?_
      refine va_get (D := D) (ci := 0) (v := .ref (ad 3)) (C := R_Q) (T := T_Q) (N := 5) hx hb hts in_Q hown hK hP 0 rfl rfl 2 (by decide) (hts (Cond.fieldLink R_Q 19 "QueuedFronts" "now" "LQueuedFronts$Machine;") mw_126) (fun _ h9 => h9) rfl d_Q_peek_17 ?_
      refine va_get (D := D) (ci := 1) (v := .ref (ad 6)) (C := R_M) (T := T_M) (N := 7) hx hb hts in_M hown hK hP 3 rfl rfl 2 (by decide) (hts (Cond.fieldLink R_Q 47 "QueuedFronts$Machine" "dataWords" "[I") mw_100) (fun _ h9 => h9) rfl d_Q_peek_20 ?_
      refine lv_iload_n hx hb d_Q_peek_23 rfl (lv_at hl 1 rfl) ?_
      refine lv_iload_n hx hb d_Q_peek_24 rfl (lv_at hl 2 rfl) ?_
      refine qx_rd (va_runS (As := [.int x, .int y]) (rest := [.ref (ad 6)]) ⟨hx, hb, hml, hown, hts⟩ (c_Q_dataIndex l D cA x y) (qx_kS hts mw_158 mw_159 mw_29 mw_160 cd_Q_dataIndex ⟨Nat.le_of_ble_eq_true rfl, Nat.le_of_ble_eq_true rfl⟩) (qx_preS hP hD hK hN [] rfl rfl) rfl rfl hl.1 rfl (lv_room (Nat.le_of_ble_eq_true rfl)) d_Q_peek_25 ⟨Nat.zero_le _, Nat.zero_le _⟩) ?_
      refine va_iald hx hb hK hP 6 0 rfl rfl (show vp_in (qf_Q_dataIndex x y) 64 from qi_dix (qi_sp h1) h2) d_Q_peek_28 ?_
      exact W.iret hx hb hr (fun t ht hW => ⟨congrArg (fun z => Outcome.returned (some (Value.int z))) (show (st.2.2.1.2.2.1 (Int32.toNatClampNeg (qf_Q_dataIndex x y))) = qf_Q_peek st x y from (by unfold qf_Q_peek; rw [if_neg h1, if_neg h2])), ht⟩) (fun _ h => absurd h List.not_mem_nil) d_Q_peek_29
    · have h2 : qf_Q_isDataOffset y = 0 := h2
      refine lv_iconst (v := 0) hx hb d_Q_peek_14 (by decide) ?_
      exact W.iret hx hb hr (fun t ht hW => ⟨congrArg (fun z => Outcome.returned (some (Value.int z))) (show 0 = qf_Q_peek st x y from (by unfold qf_Q_peek; rw [if_neg h1, if_pos h2])), ht⟩) (fun _ h => absurd h List.not_mem_nil) d_Q_peek_15
def qf_Q_count (st : qs_Q) (x : Int32) : Int32 :=
  if x < 0 then (-1)
  else if 6 < x then (-1)
  else (st.2.1 (Int32.toNatClampNeg x))
set_option maxHeartbeats 4000000 in
set_option maxRecDepth 100000 in
theorem c_Q_count (l : Launch) (D : va_G) (cA : ClassId) (ad : Nat → Nat) (st : qs_Q) (x : Int32) : Met l y_Q_count (Cond.code y_Q_count b_Q_count 2 (some .int) :: qx_T) ({ frames := 0, cells := 0, slots := 0, locals := 0 }) (qx_Pc D vwCl [(cA, .int)] (qw_Q ad cA st) [.ref (ad 0), .int x]) (k2_QcV (.int (qf_Q_count st x))) 0 0 (fun _ => False) := by
  refine Met.ofW (cc := b_Q_count) (maxL := 2) (ret := (some .int)) (by decide) rfl ?_
  intro p e s m args below meth c s₁ B hml hv
  obtain ⟨rfl, hP, hK, hN, hD0⟩ := hv
  have hx := B.exec
  have hb := B.bytes
  have hr := B.returns
  have hts0 := atoms_spec (ws := Cond.code y_Q_count b_Q_count 2 (some .int) :: qx_T) B.pre
  have hts := fun w h => hts0 w (List.mem_cons_of_mem _ h)
  have hown : s.vm.findClass R_Q = some m.cls := findClass_of_methodNamed B.named
  have hlocks := B.notSynchronized
  have hD : va_D (qx_ad (qw_Q ad cA st)) (qw_Q ad cA st) := ⟨hD0.1, fun k q hk => ⟨k, q.2, hk⟩⟩
  generalize hAe : qx_ad (qw_Q ad cA st) = A at hD
  have hS : va_S A s.heap s.heap [] := va_S.rf
  have hl := lv_entry ([.ref (ad 0), .int x]) (n := 2) (Nat.le_of_ble_eq_true rfl)
  rw [lg_entry_eq]
  generalize (lg_sl ([.ref (ad 0), .int x]) ++ List.replicate (2 - (lg_sl ([.ref (ad 0), .int x])).length) Slot.unset).toArray = ls at hl ⊢
  have hl : lv_has ls 2 [(0, .ref (ad 0)), (1, .int x)] := hl
  refine lv_iload_n hx hb d_Q_count_0 rfl (lv_at hl 1 rfl) ?_
  refine lv_if_lt (tgt := 19) hx hb d_Q_count_1 (by decide) (fun h1 => ?_) (fun h1 => ?_)
  · have h1 : x < 0 := h1
    refine lv_iconst (v := (-1)) hx hb d_Q_count_19 (by decide) ?_
    exact W.iret hx hb hr (fun t ht hW => ⟨congrArg (fun z => Outcome.returned (some (Value.int z))) (show (-1) = qf_Q_count st x from (by unfold qf_Q_count; rw [if_pos h1])), ht⟩) (fun _ h => absurd h List.not_mem_nil) d_Q_count_20
  · have h1 : ¬ (x < 0) := h1
    refine lv_iload_n hx hb d_Q_count_4 rfl (lv_at hl 1 rfl) ?_
    refine lv_bipush (v := 6) hx hb d_Q_count_5 (by decide) ?_
    refine lv_icmp_gt (tgt := 19) hx hb d_Q_count_7 (by decide) (fun h2 => ?_) (fun h2 => ?_)
    · have h2 : 6 < x := h2
      refine lv_iconst (v := (-1)) hx hb d_Q_count_19 (by decide) ?_
      exact W.iret hx hb hr (fun t ht hW => ⟨congrArg (fun z => Outcome.returned (some (Value.int z))) (show (-1) = qf_Q_count st x from (by unfold qf_Q_count; rw [if_neg h1, if_pos h2])), ht⟩) (fun _ h => absurd h List.not_mem_nil) d_Q_count_20
    · have h2 : ¬ (6 < x) := h2
      refine lv_aload_n hx hb d_Q_count_10 rfl (lv_at hl 0 rfl) ?_
      refine va_get (D := D) (ci := 0) (v := .ref (ad 2)) (C := R_Q) (T := T_Q) (N := 5) hx hb hts in_Q hown hK hP 0 rfl rfl 1 (by decide) (hts (Cond.fieldLink R_Q 13 "QueuedFronts" "counts" "[I") mw_125) (fun _ h9 => h9) rfl d_Q_count_11 ?_
      refine lv_iload_n hx hb d_Q_count_14 rfl (lv_at hl 1 rfl) ?_
      refine va_iald hx hb hK hP 2 0 rfl rfl (show vp_in x 7 from qi_le (n := 6) (by decide) h1 h2) d_Q_count_15 ?_
      refine lv_goto (tgt := 20) hx hb d_Q_count_16 (by decide) ?_
      exact W.iret hx hb hr (fun t ht hW => ⟨congrArg (fun z => Outcome.returned (some (Value.int z))) (show (st.2.1 (Int32.toNatClampNeg x)) = qf_Q_count st x from (by unfold qf_Q_count; rw [if_neg h1, if_neg h2])), ht⟩) (fun _ h => absurd h List.not_mem_nil) d_Q_count_20
def qf_Q_mark (st : qs_Q) : qs_Q :=
  (qm_Q_rm (qm_Q_k st (qf_M_become st.2.2.2.1 st.2.2.1)) 1)
set_option maxHeartbeats 4000000 in
set_option maxRecDepth 100000 in
theorem c_Q_mark (l : Launch) (D : va_G) (cA : ClassId) (ad : Nat → Nat) (st : qs_Q) : Met l y_Q_mark (Cond.code y_Q_mark b_Q_mark 1 none :: qx_T) ({ frames := 2, cells := 0, slots := 0, locals := 42 }) (qx_Pc D vwCl [(cA, .int)] (qw_Q ad cA st) [.ref (ad 0)]) (qx_Q D vwCl (qw_Q ad cA (qf_Q_mark st)) (qx_ad (qw_Q ad cA st)) none) 0 0 (qx_ad (qw_Q ad cA st)) := by
  refine Met.ofW (cc := b_Q_mark) (maxL := 1) (ret := none) (by decide) rfl ?_
  intro p e s m args below meth c s₁ B hml hv
  obtain ⟨rfl, hP, hK, hN, hD0⟩ := hv
  have hx := B.exec
  have hb := B.bytes
  have hr := B.returns
  have hts0 := atoms_spec (ws := Cond.code y_Q_mark b_Q_mark 1 none :: qx_T) B.pre
  have hts := fun w h => hts0 w (List.mem_cons_of_mem _ h)
  have hown : s.vm.findClass R_Q = some m.cls := findClass_of_methodNamed B.named
  have hlocks := B.notSynchronized
  have hD : va_D (qx_ad (qw_Q ad cA st)) (qw_Q ad cA st) := ⟨hD0.1, fun k q hk => ⟨k, q.2, hk⟩⟩
  generalize hAe : qx_ad (qw_Q ad cA st) = A at hD ⊢
  have hS : va_S A s.heap s.heap [] := va_S.rf
  have hl := lv_entry ([.ref (ad 0)]) (n := 1) (Nat.le_of_ble_eq_true rfl)
  rw [lg_entry_eq]
  generalize (lg_sl ([.ref (ad 0)]) ++ List.replicate (1 - (lg_sl ([.ref (ad 0)])).length) Slot.unset).toArray = ls at hl ⊢
  have hl : lv_has ls 1 [(0, .ref (ad 0))] := hl
  refine lv_aload_n hx hb d_Q_mark_0 rfl (lv_at hl 0 rfl) ?_
  refine va_get (D := D) (ci := 0) (v := .ref (ad 9)) (C := R_Q) (T := T_Q) (N := 5) hx hb hts in_Q hown hK hP 0 rfl rfl 3 (by decide) (hts (Cond.fieldLink R_Q 23 "QueuedFronts" "remembered" "LQueuedFronts$Machine;") mw_127) (fun _ h9 => h9) rfl d_Q_mark_1 ?_
  refine lv_aload_n hx hb d_Q_mark_4 rfl (lv_at hl 0 rfl) ?_
  refine va_get (D := D) (ci := 0) (v := .ref (ad 3)) (C := R_Q) (T := T_Q) (N := 5) hx hb hts in_Q hown hK hP 0 rfl rfl 2 (by decide) (hts (Cond.fieldLink R_Q 19 "QueuedFronts" "now" "LQueuedFronts$Machine;") mw_126) (fun _ h9 => h9) rfl d_Q_mark_5 ?_
  refine qx_muZ (T := qf_M_become st.2.2.2.1 st.2.2.1) (Wf := fun zz : qs_M => qw_Q ad cA (qm_Q_k st zz)) (vf := fun _ => none) (va_runV (As := [.ref (ad 3)]) (rest := []) ⟨hx, hb, hml, hown, hts⟩ (c_M_become l D cA (qa ad 9) (qa ad 3) st.2.2.2.1 st.2.2.1) (qx_kV hts mw_353 mw_354 mw_355 mw_30 mw_356 cd_M_become ⟨Nat.le_of_ble_eq_true rfl, Nat.le_of_ble_eq_true rfl⟩) (qx_preV (q0 := 9) (ci := 1) (q := (R_M, T_M, 7)) hP hD hK hN [9, 10, 11, 12, 13, 14, 3, 4, 5, 6, 7, 8] rfl rfl rfl rfl) rfl rfl hl.1 rfl (lv_room (Nat.le_of_ble_eq_true rfl)) d_Q_mark_8 ⟨Nat.zero_le _, Nat.zero_le _⟩) hP hD hS [9, 10, 11, 12, 13, 14, 3, 4, 5, 6, 7, 8] rfl rfl [ad 0, ad 1, ad 2, ad 3, ad 4, ad 5, ad 6, ad 7, ad 8, ad 9, ad 10, ad 11, ad 12, ad 13, ad 14] rfl rfl (fun zz1 hzz1 H locs hP hD hS => ?_)
  have hP : va_P D vwCl (qw_Q ad cA (qm_Q_k st zz1)) H := hP
  have hD : va_D A (qw_Q ad cA (qm_Q_k st zz1)) := hD
  refine W.eq (g2 := F0 m 11 ls []) rfl ?_
  refine lv_aload_n hx hb d_Q_mark_11 rfl (lv_at hl 0 rfl) ?_
  refine lv_iconst (v := 1) hx hb d_Q_mark_12 (by decide) ?_
  refine va_put (D := D) (ci := 0) (v := .int 1) (ty := .boolean) (C := R_Q) (T := T_Q) (N := 5) hx hb hts in_Q ty_Q tyok_Q nm_Q hown hK hP hD hS 0 rfl rfl 4 (by decide) (hts (Cond.fieldLink R_Q 26 "QueuedFronts" "remembers" "Z") mw_128) (fun _ h9 => h9) rfl (by decide +kernel) rfl rfl (Nat.le_of_ble_eq_true rfl) d_Q_mark_13 (fun H locs hP hD hS => ?_)
  have hP : va_P D vwCl (qw_Q ad cA (qm_Q_rm (qm_Q_k st zz1) 1)) H := hP
  have hD : va_D A (qw_Q ad cA (qm_Q_rm (qm_Q_k st zz1) 1)) := hD
  subst hzz1
  have e9 : (qm_Q_rm (qm_Q_k st (qf_M_become st.2.2.2.1 st.2.2.1)) 1) = qf_Q_mark st := rfl
  exact W.vret hx hb hr (fun t ht hW => ⟨rfl, (by rw [ht, ← e9]; exact hP), hS.F ht⟩) hS.2.2 d_Q_mark_16
def qf_Q_back (st : qs_Q) : qs_Q × Int32 :=
  if st.2.2.2.2 = 0 then (st, 0)
  else ((qm_Q_m st (qf_M_become st.2.2.1 st.2.2.2.1)), 1)
set_option maxHeartbeats 4000000 in
set_option maxRecDepth 100000 in
theorem c_Q_back (l : Launch) (D : va_G) (cA : ClassId) (ad : Nat → Nat) (st : qs_Q) : Met l y_Q_back (Cond.code y_Q_back b_Q_back 1 (some .boolean) :: qx_T) ({ frames := 2, cells := 0, slots := 0, locals := 42 }) (qx_Pc D vwCl [(cA, .int)] (qw_Q ad cA st) [.ref (ad 0)]) (qx_Q D vwCl (qw_Q ad cA ((qf_Q_back st).1)) (qx_ad (qw_Q ad cA st)) (some (.int (qf_Q_back st).2))) 0 0 (qx_ad (qw_Q ad cA st)) := by
  refine Met.ofW (cc := b_Q_back) (maxL := 1) (ret := (some .boolean)) (by decide) rfl ?_
  intro p e s m args below meth c s₁ B hml hv
  obtain ⟨rfl, hP, hK, hN, hD0⟩ := hv
  have hx := B.exec
  have hb := B.bytes
  have hr := B.returns
  have hts0 := atoms_spec (ws := Cond.code y_Q_back b_Q_back 1 (some .boolean) :: qx_T) B.pre
  have hts := fun w h => hts0 w (List.mem_cons_of_mem _ h)
  have hown : s.vm.findClass R_Q = some m.cls := findClass_of_methodNamed B.named
  have hlocks := B.notSynchronized
  have hD : va_D (qx_ad (qw_Q ad cA st)) (qw_Q ad cA st) := ⟨hD0.1, fun k q hk => ⟨k, q.2, hk⟩⟩
  generalize hAe : qx_ad (qw_Q ad cA st) = A at hD ⊢
  have hS : va_S A s.heap s.heap [] := va_S.rf
  have hl := lv_entry ([.ref (ad 0)]) (n := 1) (Nat.le_of_ble_eq_true rfl)
  rw [lg_entry_eq]
  generalize (lg_sl ([.ref (ad 0)]) ++ List.replicate (1 - (lg_sl ([.ref (ad 0)])).length) Slot.unset).toArray = ls at hl ⊢
  have hl : lv_has ls 1 [(0, .ref (ad 0))] := hl
  refine lv_aload_n hx hb d_Q_back_0 rfl (lv_at hl 0 rfl) ?_
  refine va_get (D := D) (ci := 0) (v := .int st.2.2.2.2) (C := R_Q) (T := T_Q) (N := 5) hx hb hts in_Q hown hK hP 0 rfl rfl 4 (by decide) (hts (Cond.fieldLink R_Q 26 "QueuedFronts" "remembers" "Z") mw_128) (fun _ h9 => h9) rfl d_Q_back_1 ?_
  refine lv_if_ne (tgt := 9) hx hb d_Q_back_4 (by decide) (fun h1 => ?_) (fun h1 => ?_)
  · have h1 : ¬ (st.2.2.2.2 = 0) := h1
    refine lv_aload_n hx hb d_Q_back_9 rfl (lv_at hl 0 rfl) ?_
    refine va_get (D := D) (ci := 0) (v := .ref (ad 3)) (C := R_Q) (T := T_Q) (N := 5) hx hb hts in_Q hown hK hP 0 rfl rfl 2 (by decide) (hts (Cond.fieldLink R_Q 19 "QueuedFronts" "now" "LQueuedFronts$Machine;") mw_126) (fun _ h9 => h9) rfl d_Q_back_10 ?_
    refine lv_aload_n hx hb d_Q_back_13 rfl (lv_at hl 0 rfl) ?_
    refine va_get (D := D) (ci := 0) (v := .ref (ad 9)) (C := R_Q) (T := T_Q) (N := 5) hx hb hts in_Q hown hK hP 0 rfl rfl 3 (by decide) (hts (Cond.fieldLink R_Q 23 "QueuedFronts" "remembered" "LQueuedFronts$Machine;") mw_127) (fun _ h9 => h9) rfl d_Q_back_14 ?_
    refine qx_muZ (T := qf_M_become st.2.2.1 st.2.2.2.1) (Wf := fun zz : qs_M => qw_Q ad cA (qm_Q_m st zz)) (vf := fun _ => none) (va_runV (As := [.ref (ad 9)]) (rest := []) ⟨hx, hb, hml, hown, hts⟩ (c_M_become l D cA (qa ad 3) (qa ad 9) st.2.2.1 st.2.2.2.1) (qx_kV hts mw_353 mw_354 mw_355 mw_30 mw_356 cd_M_become ⟨Nat.le_of_ble_eq_true rfl, Nat.le_of_ble_eq_true rfl⟩) (qx_preV (q0 := 3) (ci := 1) (q := (R_M, T_M, 7)) hP hD hK hN [3, 4, 5, 6, 7, 8, 9, 10, 11, 12, 13, 14] rfl rfl rfl rfl) rfl rfl hl.1 rfl (lv_room (Nat.le_of_ble_eq_true rfl)) d_Q_back_17 ⟨Nat.zero_le _, Nat.zero_le _⟩) hP hD hS [3, 4, 5, 6, 7, 8, 9, 10, 11, 12, 13, 14] rfl rfl [ad 0, ad 1, ad 2, ad 3, ad 4, ad 5, ad 6, ad 7, ad 8, ad 9, ad 10, ad 11, ad 12, ad 13, ad 14] rfl rfl (fun zz1 hzz1 H locs hP hD hS => ?_)
    have hP : va_P D vwCl (qw_Q ad cA (qm_Q_m st zz1)) H := hP
    have hD : va_D A (qw_Q ad cA (qm_Q_m st zz1)) := hD
    refine W.eq (g2 := F0 m 20 ls []) rfl ?_
    refine lv_iconst (v := 1) hx hb d_Q_back_20 (by decide) ?_
    subst hzz1
    have e9 : ((qm_Q_m st (qf_M_become st.2.2.1 st.2.2.2.1)), 1) = qf_Q_back st := (by unfold qf_Q_back; rw [if_neg h1])
    exact W.zret (ty := .boolean) hx hb hr rfl (fun t ht hW => ⟨(by rw [← e9]), (by rw [ht, ← e9]; exact hP), hS.F ht⟩) hS.2.2 d_Q_back_21
  · have h1 : st.2.2.2.2 = 0 := h1
    refine lv_iconst (v := 0) hx hb d_Q_back_7 (by decide) ?_
    have e9 : (st, 0) = qf_Q_back st := (by unfold qf_Q_back; rw [if_pos h1])
    exact W.zret (ty := .boolean) hx hb hr rfl (fun t ht hW => ⟨(by rw [← e9]), (by rw [ht, ← e9]; exact hP), hS.F ht⟩) hS.2.2 d_Q_back_8
