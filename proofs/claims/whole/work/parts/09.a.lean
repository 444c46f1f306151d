def qf_M_enterTrap (st : qs_M) (x : Int32) : qs_M :=
  (qm_M_cs (qm_M_sv (qm_M_fl st (qf_F_startAt st.2.2.2.1 (qf_Pl_of (0 : Int32) (4 * x)) (0 : Int32))) (qf_F_become st.2.2.2.2.1 st.2.2.2.1)) x)
set_option maxHeartbeats 4000000 in
set_option maxRecDepth 100000 in
theorem c_M_enterTrap (l : Launch) (D : va_G) (cA : ClassId) (ad : Nat → Nat) (st : qs_M) (x : Int32) : Met l y_M_enterTrap (Cond.code y_M_enterTrap b_M_enterTrap 2 none :: qx_T) ({ frames := 3, cells := 0, slots := 0, locals := 63 }) (qx_Pc D vwCl [(cA, .int)] (qw_M ad cA st) [.ref (ad 0), .int x]) (qx_Q D vwCl (qw_M ad cA (qf_M_enterTrap st x)) (qx_ad (qw_M ad cA st)) none) 0 0 (qx_ad (qw_M ad cA st)) := by
  refine Met.ofW (cc := b_M_enterTrap) (maxL := 2) (ret := none) (by decide) rfl ?_
  intro p e s m args below meth c s₁ B hml hv
  obtain ⟨rfl, hP, hK, hN, hD0⟩ := hv
  have hx := B.exec
  have hb := B.bytes
  have hr := B.returns
  have hts0 := atoms_spec (ws := Cond.code y_M_enterTrap b_M_enterTrap 2 none :: qx_T) B.pre
  have hts := fun w h => hts0 w (List.mem_cons_of_mem _ h)
  have hown : s.vm.findClass R_M = some m.cls := findClass_of_methodNamed B.named
  have hlocks := B.notSynchronized
  have hD : va_D (qx_ad (qw_M ad cA st)) (qw_M ad cA st) := ⟨hD0.1, fun k q hk => ⟨k, q.2, hk⟩⟩
  generalize hAe : qx_ad (qw_M ad cA st) = A at hD ⊢
  have hS : va_S A s.heap s.heap [] := va_S.rf
  have hl := lv_entry ([.ref (ad 0), .int x]) (n := 2) (Nat.le_of_ble_eq_true rfl)
  rw [lg_entry_eq]
  generalize (lg_sl ([.ref (ad 0), .int x]) ++ List.replicate (2 - (lg_sl ([.ref (ad 0), .int x])).length) Slot.unset).toArray = ls at hl ⊢
  have hl : lv_has ls 2 [(0, .ref (ad 0)), (1, .int x)] := hl
  refine lv_aload_n hx hb d_M_enterTrap_0 rfl (lv_at hl 0 rfl) ?_
  refine va_get (D := D) (ci := 1) (v := .ref (ad 5)) (C := R_M) (T := T_M) (N := 7) hx hb hts in_M hown hK hP 0 rfl rfl 4 (by decide) (hts (Cond.fieldLink R_M 28 "QueuedFronts$Machine" "saved" "LQueuedFronts$Flow;") mw_103) (fun _ h9 => h9) rfl d_M_enterTrap_1 ?_
  refine lv_aload_n hx hb d_M_enterTrap_4 rfl (lv_at hl 0 rfl) ?_
  refine va_get (D := D) (ci := 1) (v := .ref (ad 4)) (C := R_M) (T := T_M) (N := 7) hx hb hts in_M hown hK hP 0 rfl rfl 3 (by decide) (hts (Cond.fieldLink R_M 24 "QueuedFronts$Machine" "flow" "LQueuedFronts$Flow;") mw_101) (fun _ h9 => h9) rfl d_M_enterTrap_5 ?_
  refine qx_muZ (T := qf_F_become st.2.2.2.2.1 st.2.2.2.1) (Wf := fun zz : qs_F => qw_M ad cA (qm_M_sv st zz)) (vf := fun _ => none) (va_runV (As := [.ref (ad 4)]) (rest := []) ⟨hx, hb, hml, hown, hts⟩ (c_F_become l D cA (ad 5) (ad 4) st.2.2.2.2.1 st.2.2.2.1) (qx_kV hts mw_200 mw_201 mw_202 mw_31 mw_203 cd_F_become ⟨Nat.le_of_ble_eq_true rfl, Nat.le_of_ble_eq_true rfl⟩) (qx_preV (q0 := 5) (ci := 2) (q := (R_F, T_F, 4)) hP hD hK hN [5, 4] rfl rfl rfl rfl) rfl rfl hl.1 rfl (lv_room (Nat.le_of_ble_eq_true rfl)) d_M_enterTrap_8 ⟨Nat.zero_le _, Nat.zero_le _⟩) hP hD hS [5, 4] rfl rfl [ad 0, ad 1, ad 2, ad 3, ad 4, ad 5] rfl rfl (fun zz1 hzz1 H locs hP hD hS => ?_)
  have hP : va_P D vwCl (qw_M ad cA (qm_M_sv st zz1)) H := hP
  have hD : va_D A (qw_M ad cA (qm_M_sv st zz1)) := hD
  refine W.eq (g2 := F0 m 11 ls []) rfl ?_
  refine lv_aload_n hx hb d_M_enterTrap_11 rfl (lv_at hl 0 rfl) ?_
  refine lv_iload_n hx hb d_M_enterTrap_12 rfl (lv_at hl 1 rfl) ?_
  refine va_put (D := D) (ci := 1) (v := .int x) (ty := .int) (C := R_M) (T := T_M) (N := 7) hx hb hts in_M ty_M tyok_M nm_M hown hK hP hD hS 0 rfl rfl 5 (by decide) (hts (Cond.fieldLink R_M 31 "QueuedFronts$Machine" "savedCause" "I") mw_105) (fun _ h9 => h9) rfl (by decide +kernel) rfl rfl (Nat.le_of_ble_eq_true rfl) d_M_enterTrap_13 (fun H locs hP hD hS => ?_)
  have hP : va_P D vwCl (qw_M ad cA (qm_M_cs (qm_M_sv st zz1) x)) H := hP
  have hD : va_D A (qw_M ad cA (qm_M_cs (qm_M_sv st zz1) x)) := hD
  refine lv_aload_n hx hb d_M_enterTrap_16 rfl (lv_at hl 0 rfl) ?_
  refine va_get (D := D) (ci := 1) (v := .ref (ad 4)) (C := R_M) (T := T_M) (N := 7) hx hb hts in_M hown hK hP 0 rfl rfl 3 (by decide) (hts (Cond.fieldLink R_M 24 "QueuedFronts$Machine" "flow" "LQueuedFronts$Flow;") mw_101) (fun _ h9 => h9) rfl d_M_enterTrap_17 ?_
  refine lv_iconst (v := 0) hx hb d_M_enterTrap_20 (by decide) ?_
  refine lv_iconst (v := 4) hx hb d_M_enterTrap_21 (by decide) ?_
  refine lv_iload_n hx hb d_M_enterTrap_22 rfl (lv_at hl 1 rfl) ?_
  refine lv_imul hx hb d_M_enterTrap_23 ?_
  refine qx_rd (va_runS (As := [.int 0, .int (4 * x)]) (rest := [.ref (ad 4)]) ⟨hx, hb, hml, hown, hts⟩ (c_Pl_of l D cA 0 (4 * x)) (qx_kS hts mw_204 mw_93 mw_32 mw_94 cd_Pl_of ⟨Nat.le_of_ble_eq_true rfl, Nat.le_of_ble_eq_true rfl⟩) (qx_preS hP hD hK hN [] rfl rfl) rfl rfl hl.1 rfl (lv_room (Nat.le_of_ble_eq_true rfl)) d_M_enterTrap_24 ⟨Nat.zero_le _, Nat.zero_le _⟩) ?_
  refine lv_iconst (v := 0) hx hb d_M_enterTrap_27 (by decide) ?_
  refine qx_muZ (T := qf_F_startAt st.2.2.2.1 (qf_Pl_of (0 : Int32) (4 * x)) (0 : Int32)) (Wf := fun zz : qs_F => qw_M ad cA (qm_M_cs (qm_M_sv (qm_M_fl st zz) zz1) x)) (vf := fun _ => none) (va_runV (As := [.int (qf_Pl_of (0 : Int32) (4 * x)), .int 0]) (rest := []) ⟨hx, hb, hml, hown, hts⟩ (c_F_startAt l D cA (ad 4) st.2.2.2.1 (qf_Pl_of (0 : Int32) (4 * x)) 0) (qx_kV hts mw_79 mw_80 mw_81 mw_31 mw_82 cd_F_startAt ⟨Nat.le_of_ble_eq_true rfl, Nat.le_of_ble_eq_true rfl⟩) (qx_preV (q0 := 4) (ci := 2) (q := (R_F, T_F, 4)) hP hD hK hN [4] rfl rfl rfl rfl) rfl rfl hl.1 rfl (lv_room (Nat.le_of_ble_eq_true rfl)) d_M_enterTrap_28 ⟨Nat.zero_le _, Nat.zero_le _⟩) hP hD hS [4] rfl rfl [ad 0, ad 1, ad 2, ad 3, ad 4, ad 5] rfl rfl (fun zz2 hzz2 H locs hP hD hS => ?_)
  have hP : va_P D vwCl (qw_M ad cA (qm_M_cs (qm_M_sv (qm_M_fl st zz2) zz1) x)) H := hP
  have hD : va_D A (qw_M ad cA (qm_M_cs (qm_M_sv (qm_M_fl st zz2) zz1) x)) := hD
  refine W.eq (g2 := F0 m 31 ls []) rfl ?_
  subst hzz2
  subst hzz1
  have e9 : (qm_M_cs (qm_M_sv (qm_M_fl st (qf_F_startAt st.2.2.2.1 (qf_Pl_of (0 : Int32) (4 * x)) (0 : Int32))) (qf_F_become st.2.2.2.2.1 st.2.2.2.1)) x) = qf_M_enterTrap st x := rfl
  exact W.vret hx hb hr (fun t ht hW => ⟨rfl, (by rw [ht, ← e9]; exact hP), hS.F ht⟩) hS.2.2 d_M_enterTrap_31
