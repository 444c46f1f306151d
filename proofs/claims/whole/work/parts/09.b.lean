def qf_M_become (st st2 : qs_M) : qs_M :=
  (qm_M_pd (qm_M_cs (qm_M_sv (qm_M_fl (qm_M_dt (qm_M_sp (qm_M_rg st (va_cpy st2.1 st.1 0 0 8)) (va_cpy st2.2.1 st.2.1 0 0 4)) (va_cpy st2.2.2.1 st.2.2.1 0 0 64)) (qf_F_become st.2.2.2.1 st2.2.2.2.1)) (qf_F_become st.2.2.2.2.1 st2.2.2.2.2.1)) st2.2.2.2.2.2.1) st2.2.2.2.2.2.2)
set_option maxHeartbeats 4000000 in
set_option maxRecDepth 100000 in
theorem c_M_become (l : Launch) (D : va_G) (cA : ClassId) (ad ad2 : Nat → Nat) (st st2 : qs_M) : Met l y_M_become (Cond.code y_M_become b_M_become 2 none :: qx_T) ({ frames := 1, cells := 0, slots := 0, locals := 21 }) (qx_Pc D vwCl [(cA, .int)] (qw_M ad cA st ++ qw_M ad2 cA st2) [.ref (ad 0), .ref (ad2 0)]) (qx_Q D vwCl (qw_M ad cA (qf_M_become st st2) ++ qw_M ad2 cA st2) (qx_ad (qw_M ad cA st ++ qw_M ad2 cA st2)) none) 0 0 (qx_ad (qw_M ad cA st ++ qw_M ad2 cA st2)) := by
  refine Met.ofW (cc := b_M_become) (maxL := 2) (ret := none) (by decide) rfl ?_
  intro p e s m args below meth c s₁ B hml hv
  obtain ⟨rfl, hP, hK, hN, hD0⟩ := hv
  have hx := B.exec
  have hb := B.bytes
  have hr := B.returns
  have hts0 := atoms_spec (ws := Cond.code y_M_become b_M_become 2 none :: qx_T) B.pre
  have hts := fun w h => hts0 w (List.mem_cons_of_mem _ h)
  have hown : s.vm.findClass R_M = some m.cls := findClass_of_methodNamed B.named
  have hlocks := B.notSynchronized
  have hD : va_D (qx_ad (qw_M ad cA st ++ qw_M ad2 cA st2)) (qw_M ad cA st ++ qw_M ad2 cA st2) := ⟨hD0.1, fun k q hk => ⟨k, q.2, hk⟩⟩
  generalize hAe : qx_ad (qw_M ad cA st ++ qw_M ad2 cA st2) = A at hD ⊢
  have hS : va_S A s.heap s.heap [] := va_S.rf
  have hl := lv_entry ([.ref (ad 0), .ref (ad2 0)]) (n := 2) (Nat.le_of_ble_eq_true rfl)
  rw [lg_entry_eq]
  generalize (lg_sl ([.ref (ad 0), .ref (ad2 0)]) ++ List.replicate (2 - (lg_sl ([.ref (ad 0), .ref (ad2 0)])).length) Slot.unset).toArray = ls at hl ⊢
  have hl : lv_has ls 2 [(0, .ref (ad 0)), (1, .ref (ad2 0))] := hl
  refine lv_aload_n hx hb d_M_become_0 rfl (lv_at hl 1 rfl) ?_
  refine va_get (D := D) (ci := 1) (v := .ref (ad2 1)) (C := R_M) (T := T_M) (N := 7) hx hb hts in_M hown hK hP 6 rfl rfl 0 (by decide) (hts (Cond.fieldLink R_M 9 "QueuedFronts$Machine" "registers" "[I") mw_95) (fun _ h9 => h9) rfl d_M_become_1 ?_
  refine lv_iconst (v := 0) hx hb d_M_become_4 (by decide) ?_
  refine lv_aload_n hx hb d_M_become_5 rfl (lv_at hl 0 rfl) ?_
  refine va_get (D := D) (ci := 1) (v := .ref (ad 1)) (C := R_M) (T := T_M) (N := 7) hx hb hts in_M hown hK hP 0 rfl rfl 0 (by decide) (hts (Cond.fieldLink R_M 9 "QueuedFronts$Machine" "registers" "[I") mw_95) (fun _ h9 => h9) rfl d_M_become_6 ?_
  refine lv_iconst (v := 0) hx hb d_M_become_9 (by decide) ?_
  refine lv_bipush (v := 8) hx hb d_M_become_10 (by decide) ?_
  refine va_copyi hx hb (by rw [hml]; exact hl.1.symm) hown (hts (Cond.methodLink R_M 42 arraycopyName) mw_357) (hts (.native arraycopyName) mw_359) (hts (.static arraycopyName) mw_358) (hts (.initialized "java/lang/System") mw_36) hK hP hD hS 7 1 0 0 rfl rfl rfl rfl rfl (by decide) (by decide) (by decide) (by decide) (by decide) (fun _ _ => rfl) (Nat.le_of_ble_eq_true rfl) (Nat.le_of_ble_eq_true rfl) d_M_become_12 (fun H locs hP hD hS => ?_)
  have hP : va_P D vwCl (qw_M ad cA (qm_M_rg st (va_cpy st2.1 st.1 0 0 8)) ++ qw_M ad2 cA st2) H := hP
  have hD : va_D A (qw_M ad cA (qm_M_rg st (va_cpy st2.1 st.1 0 0 8)) ++ qw_M ad2 cA st2) := hD
  refine lv_aload_n hx hb d_M_become_15 rfl (lv_at hl 1 rfl) ?_
  refine va_get (D := D) (ci := 1) (v := .ref (ad2 2)) (C := R_M) (T := T_M) (N := 7) hx hb hts in_M hown hK hP 6 rfl rfl 1 (by decide) (hts (Cond.fieldLink R_M 15 "QueuedFronts$Machine" "spaceRegisters" "[I") mw_97) (fun _ h9 => h9) rfl d_M_become_16 ?_
  refine lv_iconst (v := 0) hx hb d_M_become_19 (by decide) ?_
  refine lv_aload_n hx hb d_M_become_20 rfl (lv_at hl 0 rfl) ?_
  refine va_get (D := D) (ci := 1) (v := .ref (ad 2)) (C := R_M) (T := T_M) (N := 7) hx hb hts in_M hown hK hP 0 rfl rfl 1 (by decide) (hts (Cond.fieldLink R_M 15 "QueuedFronts$Machine" "spaceRegisters" "[I") mw_97) (fun _ h9 => h9) rfl d_M_become_21 ?_
  refine lv_iconst (v := 0) hx hb d_M_become_24 (by decide) ?_
  refine lv_iconst (v := 4) hx hb d_M_become_25 (by decide) ?_
  refine va_copyi hx hb (by rw [hml]; exact hl.1.symm) hown (hts (Cond.methodLink R_M 42 arraycopyName) mw_357) (hts (.native arraycopyName) mw_359) (hts (.static arraycopyName) mw_358) (hts (.initialized "java/lang/System") mw_36) hK hP hD hS 8 2 0 0 rfl rfl rfl rfl rfl (by decide) (by decide) (by decide) (by decide) (by decide) (fun _ _ => rfl) (Nat.le_of_ble_eq_true rfl) (Nat.le_of_ble_eq_true rfl) d_M_become_26 (fun H locs hP hD hS => ?_)
  have hP : va_P D vwCl (qw_M ad cA (qm_M_sp (qm_M_rg st (va_cpy st2.1 st.1 0 0 8)) (va_cpy st2.2.1 st.2.1 0 0 4)) ++ qw_M ad2 cA st2) H := hP
  have hD : va_D A (qw_M ad cA (qm_M_sp (qm_M_rg st (va_cpy st2.1 st.1 0 0 8)) (va_cpy st2.2.1 st.2.1 0 0 4)) ++ qw_M ad2 cA st2) := hD
  refine lv_aload_n hx hb d_M_become_29 rfl (lv_at hl 1 rfl) ?_
  refine va_get (D := D) (ci := 1) (v := .ref (ad2 3)) (C := R_M) (T := T_M) (N := 7) hx hb hts in_M hown hK hP 6 rfl rfl 2 (by decide) (hts (Cond.fieldLink R_M 18 "QueuedFronts$Machine" "dataWords" "[I") mw_99) (fun _ h9 => h9) rfl d_M_become_30 ?_
  refine lv_iconst (v := 0) hx hb d_M_become_33 (by decide) ?_
  refine lv_aload_n hx hb d_M_become_34 rfl (lv_at hl 0 rfl) ?_
  refine va_get (D := D) (ci := 1) (v := .ref (ad 3)) (C := R_M) (T := T_M) (N := 7) hx hb hts in_M hown hK hP 0 rfl rfl 2 (by decide) (hts (Cond.fieldLink R_M 18 "QueuedFronts$Machine" "dataWords" "[I") mw_99) (fun _ h9 => h9) rfl d_M_become_35 ?_
  refine lv_iconst (v := 0) hx hb d_M_become_38 (by decide) ?_
  refine lv_bipush (v := 64) hx hb d_M_become_39 (by decide) ?_
  refine va_copyi hx hb (by rw [hml]; exact hl.1.symm) hown (hts (Cond.methodLink R_M 42 arraycopyName) mw_357) (hts (.native arraycopyName) mw_359) (hts (.static arraycopyName) mw_358) (hts (.initialized "java/lang/System") mw_36) hK hP hD hS 9 3 0 0 rfl rfl rfl rfl rfl (by decide) (by decide) (by decide) (by decide) (by decide) (fun _ _ => rfl) (Nat.le_of_ble_eq_true rfl) (Nat.le_of_ble_eq_true rfl) d_M_become_41 (fun H locs hP hD hS => ?_)
  have hP : va_P D vwCl (qw_M ad cA (qm_M_dt (qm_M_sp (qm_M_rg st (va_cpy st2.1 st.1 0 0 8)) (va_cpy st2.2.1 st.2.1 0 0 4)) (va_cpy st2.2.2.1 st.2.2.1 0 0 64)) ++ qw_M ad2 cA st2) H := hP
  have hD : va_D A (qw_M ad cA (qm_M_dt (qm_M_sp (qm_M_rg st (va_cpy st2.1 st.1 0 0 8)) (va_cpy st2.2.1 st.2.1 0 0 4)) (va_cpy st2.2.2.1 st.2.2.1 0 0 64)) ++ qw_M ad2 cA st2) := hD
  refine lv_aload_n hx hb d_M_become_44 rfl (lv_at hl 0 rfl) ?_
  refine va_get (D := D) (ci := 1) (v := .ref (ad 4)) (C := R_M) (T := T_M) (N := 7) hx hb hts in_M hown hK hP 0 rfl rfl 3 (by decide) (hts (Cond.fieldLink R_M 24 "QueuedFronts$Machine" "flow" "LQueuedFronts$Flow;") mw_101) (fun _ h9 => h9) rfl d_M_become_45 ?_
  refine lv_aload_n hx hb d_M_become_48 rfl (lv_at hl 1 rfl) ?_
  refine va_get (D := D) (ci := 1) (v := .ref (ad2 4)) (C := R_M) (T := T_M) (N := 7) hx hb hts in_M hown hK hP 6 rfl rfl 3 (by decide) (hts (Cond.fieldLink R_M 24 "QueuedFronts$Machine" "flow" "LQueuedFronts$Flow;") mw_101) (fun _ h9 => h9) rfl d_M_become_49 ?_
  refine qx_muZ (T := qf_F_become st.2.2.2.1 st2.2.2.2.1) (Wf := fun zz : qs_F => qw_M ad cA (qm_M_fl (qm_M_dt (qm_M_sp (qm_M_rg st (va_cpy st2.1 st.1 0 0 8)) (va_cpy st2.2.1 st.2.1 0 0 4)) (va_cpy st2.2.2.1 st.2.2.1 0 0 64)) zz) ++ qw_M ad2 cA st2) (vf := fun _ => none) (va_runV (As := [.ref (ad2 4)]) (rest := []) ⟨hx, hb, hml, hown, hts⟩ (c_F_become l D cA (ad 4) (ad2 4) st.2.2.2.1 st2.2.2.2.1) (qx_kV hts mw_200 mw_201 mw_202 mw_31 mw_203 cd_F_become ⟨Nat.le_of_ble_eq_true rfl, Nat.le_of_ble_eq_true rfl⟩) (qx_preV (q0 := 4) (ci := 2) (q := (R_F, T_F, 4)) hP hD hK hN [4, 10] rfl rfl rfl rfl) rfl rfl hl.1 rfl (lv_room (Nat.le_of_ble_eq_true rfl)) d_M_become_52 ⟨Nat.zero_le _, Nat.zero_le _⟩) hP hD hS [4, 10] rfl rfl [ad 0, ad 1, ad 2, ad 3, ad 4, ad 5, ad2 0, ad2 1, ad2 2, ad2 3, ad2 4, ad2 5] rfl rfl (fun zz1 hzz1 H locs hP hD hS => ?_)
  have hP : va_P D vwCl (qw_M ad cA (qm_M_fl (qm_M_dt (qm_M_sp (qm_M_rg st (va_cpy st2.1 st.1 0 0 8)) (va_cpy st2.2.1 st.2.1 0 0 4)) (va_cpy st2.2.2.1 st.2.2.1 0 0 64)) zz1) ++ qw_M ad2 cA st2) H := hP
  have hD : va_D A (qw_M ad cA (qm_M_fl (qm_M_dt (qm_M_sp (qm_M_rg st (va_cpy st2.1 st.1 0 0 8)) (va_cpy st2.2.1 st.2.1 0 0 4)) (va_cpy st2.2.2.1 st.2.2.1 0 0 64)) zz1) ++ qw_M ad2 cA st2) := hD
  refine W.eq (g2 := F0 m 55 ls []) rfl ?_
  refine lv_aload_n hx hb d_M_become_55 rfl (lv_at hl 0 rfl) ?_
  refine va_get (D := D) (ci := 1) (v := .ref (ad 5)) (C := R_M) (T := T_M) (N := 7) hx hb hts in_M hown hK hP 0 rfl rfl 4 (by decide) (hts (Cond.fieldLink R_M 28 "QueuedFronts$Machine" "saved" "LQueuedFronts$Flow;") mw_103) (fun _ h9 => h9) rfl d_M_become_56 ?_
  refine lv_aload_n hx hb d_M_become_59 rfl (lv_at hl 1 rfl) ?_
  refine va_get (D := D) (ci := 1) (v := .ref (ad2 5)) (C := R_M) (T := T_M) (N := 7) hx hb hts in_M hown hK hP 6 rfl rfl 4 (by decide) (hts (Cond.fieldLink R_M 28 "QueuedFronts$Machine" "saved" "LQueuedFronts$Flow;") mw_103) (fun _ h9 => h9) rfl d_M_become_60 ?_
  refine qx_muZ (T := qf_F_become st.2.2.2.2.1 st2.2.2.2.2.1) (Wf := fun zz : qs_F => qw_M ad cA (qm_M_sv (qm_M_fl (qm_M_dt (qm_M_sp (qm_M_rg st (va_cpy st2.1 st.1 0 0 8)) (va_cpy st2.2.1 st.2.1 0 0 4)) (va_cpy st2.2.2.1 st.2.2.1 0 0 64)) zz1) zz) ++ qw_M ad2 cA st2) (vf := fun _ => none) (va_runV (As := [.ref (ad2 5)]) (rest := []) ⟨hx, hb, hml, hown, hts⟩ (c_F_become l D cA (ad 5) (ad2 5) st.2.2.2.2.1 st2.2.2.2.2.1) (qx_kV hts mw_200 mw_201 mw_202 mw_31 mw_203 cd_F_become ⟨Nat.le_of_ble_eq_true rfl, Nat.le_of_ble_eq_true rfl⟩) (qx_preV (q0 := 5) (ci := 2) (q := (R_F, T_F, 4)) hP hD hK hN [5, 11] rfl rfl rfl rfl) rfl rfl hl.1 rfl (lv_room (Nat.le_of_ble_eq_true rfl)) d_M_become_63 ⟨Nat.zero_le _, Nat.zero_le _⟩) hP hD hS [5, 11] rfl rfl [ad 0, ad 1, ad 2, ad 3, ad 4, ad 5, ad2 0, ad2 1, ad2 2, ad2 3, ad2 4, ad2 5] rfl rfl (fun zz2 hzz2 H locs hP hD hS => ?_)
  have hP : va_P D vwCl (qw_M ad cA (qm_M_sv (qm_M_fl (qm_M_dt (qm_M_sp (qm_M_rg st (va_cpy st2.1 st.1 0 0 8)) (va_cpy st2.2.1 st.2.1 0 0 4)) (va_cpy st2.2.2.1 st.2.2.1 0 0 64)) zz1) zz2) ++ qw_M ad2 cA st2) H := hP
  have hD : va_D A (qw_M ad cA (qm_M_sv (qm_M_fl (qm_M_dt (qm_M_sp (qm_M_rg st (va_cpy st2.1 st.1 0 0 8)) (va_cpy st2.2.1 st.2.1 0 0 4)) (va_cpy st2.2.2.1 st.2.2.1 0 0 64)) zz1) zz2) ++ qw_M ad2 cA st2) := hD
  refine W.eq (g2 := F0 m 66 ls []) rfl ?_
  refine lv_aload_n hx hb d_M_become_66 rfl (lv_at hl 0 rfl) ?_
  refine lv_aload_n hx hb d_M_become_67 rfl (lv_at hl 1 rfl) ?_
  refine va_get (D := D) (ci := 1) (v := .int st2.2.2.2.2.2.1) (C := R_M) (T := T_M) (N := 7) hx hb hts in_M hown hK hP 6 rfl rfl 5 (by decide) (hts (Cond.fieldLink R_M 31 "QueuedFronts$Machine" "savedCause" "I") mw_105) (fun _ h9 => h9) rfl d_M_become_68 ?_
  refine va_put (D := D) (ci := 1) (v := .int st2.2.2.2.2.2.1) (ty := .int) (C := R_M) (T := T_M) (N := 7) hx hb hts in_M ty_M tyok_M nm_M hown hK hP hD hS 0 rfl rfl 5 (by decide) (hts (Cond.fieldLink R_M 31 "QueuedFronts$Machine" "savedCause" "I") mw_105) (fun _ h9 => h9) rfl (by decide +kernel) rfl rfl (Nat.le_of_ble_eq_true rfl) d_M_become_71 (fun H locs hP hD hS => ?_)
  have hP : va_P D vwCl (qw_M ad cA (qm_M_cs (qm_M_sv (qm_M_fl (qm_M_dt (qm_M_sp (qm_M_rg st (va_cpy st2.1 st.1 0 0 8)) (va_cpy st2.2.1 st.2.1 0 0 4)) (va_cpy st2.2.2.1 st.2.2.1 0 0 64)) zz1) zz2) st2.2.2.2.2.2.1) ++ qw_M ad2 cA st2) H := hP
  have hD : va_D A (qw_M ad cA (qm_M_cs (qm_M_sv (qm_M_fl (qm_M_dt (qm_M_sp (qm_M_rg st (va_cpy st2.1 st.1 0 0 8)) (va_cpy st2.2.1 st.2.1 0 0 4)) (va_cpy st2.2.2.1 st.2.2.1 0 0 64)) zz1) zz2) st2.2.2.2.2.2.1) ++ qw_M ad2 cA st2) := hD
  refine lv_aload_n hx hb d_M_become_74 rfl (lv_at hl 0 rfl) ?_
  refine lv_aload_n hx hb d_M_become_75 rfl (lv_at hl 1 rfl) ?_
  refine va_get (D := D) (ci := 1) (v := .int st2.2.2.2.2.2.2) (C := R_M) (T := T_M) (N := 7) hx hb hts in_M hown hK hP 6 rfl rfl 6 (by decide) (hts (Cond.fieldLink R_M 35 "QueuedFronts$Machine" "pending" "I") mw_107) (fun _ h9 => h9) rfl d_M_become_76 ?_
  refine va_put (D := D) (ci := 1) (v := .int st2.2.2.2.2.2.2) (ty := .int) (C := R_M) (T := T_M) (N := 7) hx hb hts in_M ty_M tyok_M nm_M hown hK hP hD hS 0 rfl rfl 6 (by decide) (hts (Cond.fieldLink R_M 35 "QueuedFronts$Machine" "pending" "I") mw_107) (fun _ h9 => h9) rfl (by decide +kernel) rfl rfl (Nat.le_of_ble_eq_true rfl) d_M_become_79 (fun H locs hP hD hS => ?_)
  have hP : va_P D vwCl (qw_M ad cA (qm_M_pd (qm_M_cs (qm_M_sv (qm_M_fl (qm_M_dt (qm_M_sp (qm_M_rg st (va_cpy st2.1 st.1 0 0 8)) (va_cpy st2.2.1 st.2.1 0 0 4)) (va_cpy st2.2.2.1 st.2.2.1 0 0 64)) zz1) zz2) st2.2.2.2.2.2.1) st2.2.2.2.2.2.2) ++ qw_M ad2 cA st2) H := hP
  have hD : va_D A (qw_M ad cA (qm_M_pd (qm_M_cs (qm_M_sv (qm_M_fl (qm_M_dt (qm_M_sp (qm_M_rg st (va_cpy st2.1 st.1 0 0 8)) (va_cpy st2.2.1 st.2.1 0 0 4)) (va_cpy st2.2.2.1 st.2.2.1 0 0 64)) zz1) zz2) st2.2.2.2.2.2.1) st2.2.2.2.2.2.2) ++ qw_M ad2 cA st2) := hD
  subst hzz2
  subst hzz1
  have e9 : (qm_M_pd (qm_M_cs (qm_M_sv (qm_M_fl (qm_M_dt (qm_M_sp (qm_M_rg st (va_cpy st2.1 st.1 0 0 8)) (va_cpy st2.2.1 st.2.1 0 0 4)) (va_cpy st2.2.2.1 st.2.2.1 0 0 64)) (qf_F_become st.2.2.2.1 st2.2.2.2.1)) (qf_F_become st.2.2.2.2.1 st2.2.2.2.2.1)) st2.2.2.2.2.2.1) st2.2.2.2.2.2.2) = qf_M_become st st2 := rfl
  exact W.vret hx hb hr (fun t ht hW => ⟨rfl, (by rw [ht, ← e9]; exact hP), hS.F ht⟩) hS.2.2 d_M_become_82
