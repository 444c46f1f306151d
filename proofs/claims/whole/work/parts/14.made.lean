/-- a machine at first -/
abbrev qz_M : qs_M := ((fun _ => 0), (fun _ => 0), (fun _ => 0), (qf_F_startAt (qf_F_init (0, 0, 0, 0)) 0 0), (qf_F_init (0, 0, 0, 0)), 0, 0)
abbrev qz_Q : qs_Q := ((fun _ => 0), (fun _ => 0), qz_M, qz_M, 0)
abbrev qz_X : qs_X := ((upd (fun _ => 0) 1 1), (fun _ => 0), 0, (fun _ => 0), (fun _ => 0), 0, 0, 0)
set_option maxHeartbeats 4000000 in
set_option maxRecDepth 100000 in
theorem c_M_init (l : Launch) (D : va_G) (cA : ClassId) (fh : Nat) (sz : Nat) : Met l y_M_init (Cond.code y_M_init b_M_init 1 none :: qx_T) ({ frames := 3, cells := 5, slots := 84, locals := 63 }) (va_Pc [.ref fh] (fun U => U.heap.size = sz ∧ va_P D vwCl ([(fh, .inr (1, [.null, .null, .null, .null, .null, .int 0, .int 0]))]) U.heap ∧ va_K D vwCl [(cA, .int)] U ∧ qn U ∧ va_D (fun _ => True) ([(fh, .inr (1, [.null, .null, .null, .null, .null, .int 0, .int 0]))]))) (va_Qv (fun u : Nat → Nat => u 0 = fh) (fun u t => va_P D vwCl (qw_M u cA qz_M) t.heap ∧ va_D (va_A ([(fh, .inr (1, [.null, .null, .null, .null, .null, .int 0, .int 0]))]) sz) (qw_M u cA qz_M)) (va_A ([(fh, .inr (1, [.null, .null, .null, .null, .null, .int 0, .int 0]))]) sz)) 5 84 (va_A ([(fh, .inr (1, [.null, .null, .null, .null, .null, .int 0, .int 0]))]) sz) := by
  refine Met.ofW (cc := b_M_init) (maxL := 1) (ret := none) (by decide) rfl ?_
  intro p e s m args below meth c s₁ B hml hv
  obtain ⟨rfl, hsz, hP, hK, hN, hD0⟩ := hv
  have hx := B.exec
  have hb := B.bytes
  have hr := B.returns
  have hts0 := atoms_spec (ws := Cond.code y_M_init b_M_init 1 none :: qx_T) B.pre
  have hts := fun w h => hts0 w (List.mem_cons_of_mem _ h)
  have hown : s.vm.findClass R_M = some m.cls := findClass_of_methodNamed B.named
  have hlocks := B.notSynchronized
  have hin : meth.name = "<init>" := (name_of_methodNamed B.named B.method).1
  subst hsz
  have hD := hD0.self (sz := s.heap.size)
  generalize hAe : va_A ([(fh, .inr (1, [.null, .null, .null, .null, .null, .int 0, .int 0]))]) s.heap.size = A at hD ⊢
  have hA : ∀ q : Nat, s.heap.size ≤ q → A q := fun q h => by rw [← hAe]; exact Or.inr h
  have hS : va_S A s.heap s.heap [] := va_S.rf
  have hP : va_P D vwCl ([(fh, .inr (1, [.null, .null, .null, .null, .null, .int 0, .int 0]))]) s.heap := hP
  have hl := lv_entry ([.ref fh]) (n := 1) (Nat.le_of_ble_eq_true rfl)
  rw [lg_entry_eq]
  generalize (lg_sl ([.ref fh]) ++ List.replicate (1 - (lg_sl ([.ref fh])).length) Slot.unset).toArray = ls at hl ⊢
  have hl : lv_has ls 1 [(0, .ref fh)] := hl
  refine lv_aload_n hx hb d_M_init_0 rfl (lv_at hl 0 rfl) ?_
  refine W.objInit hx hb hown (hts (Cond.methodLink R_M 3 objectInit) mw_50) (hts (.instanceMethod objectInit) mw_43) (hts (.code objectInit ⟨#[0xb1]⟩ 1 none) mw_44) rfl (by rw [hml]; exact hl.1) rfl d_M_init_1 (Nat.le_of_ble_eq_true rfl) (Nat.le_of_ble_eq_true rfl) ?_
  refine W.eq (g2 := F0 m 4 ls []) rfl ?_
  refine lv_aload_n hx hb d_M_init_4 rfl (lv_at hl 0 rfl) ?_
  refine lv_bipush (v := 8) hx hb d_M_init_5 (by decide) ?_
  refine va_newa (atype := .int) (ty := .int) (N' := 8) (a0 := (8, .inl (fun _ => 0))) hx hb (hts (.arrayClass .int) mw_78) rfl hK hP hD hS hA (fun _ => rfl) (by decide) (by decide) (by decide) (Nat.le_of_ble_eq_true rfl) (Nat.le_of_ble_eq_true rfl) d_M_init_7 (fun q1 cB H hK2 hP hD hS => ?_)
  have hcB := (qx_one hK2).symm
  subst hcB
  have hP : va_P D vwCl ([(fh, .inr (1, [.null, .null, .null, .null, .null, .int 0, .int 0]))] ++ [(q1, .inl (cA, 8, .inl (fun _ => 0)))]) H := hP
  have hD : va_D A ([(fh, .inr (1, [.null, .null, .null, .null, .null, .int 0, .int 0]))] ++ [(q1, .inl (cA, 8, .inl (fun _ => 0)))]) := hD
  refine W.widen (k := 1) (n := 8) (Nat.le_of_ble_eq_true rfl) (Nat.le_of_ble_eq_true rfl) ?_
  refine va_putF (D := D) (ci := 1) (ty := (.array .int)) (v := .ref q1) (C := R_M) (T := T_M) (N := 7) hx hb hts in_M ty_M tyok_M nm_M hown hK hP hD hS 0 rfl rfl 0 (by decide) (hts (Cond.fieldLink R_M 9 "QueuedFronts$Machine" "registers" "[I") mw_95) (fun _ h9 => h9) rfl hin rfl (by decide +kernel) rfl rfl (Nat.le_of_ble_eq_true rfl) d_M_init_9 (fun H locs hP hD hS => ?_)
  have hP : va_P D vwCl ([(fh, .inr (1, [.ref q1, .null, .null, .null, .null, .int 0, .int 0]))] ++ [(q1, .inl (cA, 8, .inl (fun _ => 0)))]) H := hP
  have hD : va_D A ([(fh, .inr (1, [.ref q1, .null, .null, .null, .null, .int 0, .int 0]))] ++ [(q1, .inl (cA, 8, .inl (fun _ => 0)))]) := hD
  refine lv_aload_n hx hb d_M_init_12 rfl (lv_at hl 0 rfl) ?_
  refine lv_iconst (v := 4) hx hb d_M_init_13 (by decide) ?_
  refine va_newa (atype := .int) (ty := .int) (N' := 4) (a0 := (4, .inl (fun _ => 0))) hx hb (hts (.arrayClass .int) mw_78) rfl hK hP hD hS hA (fun _ => rfl) (by decide) (by decide) (by decide) (Nat.le_of_ble_eq_true rfl) (Nat.le_of_ble_eq_true rfl) d_M_init_14 (fun q2 cB H hK2 hP hD hS => ?_)
  have hcB := (qx_one hK2).symm
  subst hcB
  have hP : va_P D vwCl ([(fh, .inr (1, [.ref q1, .null, .null, .null, .null, .int 0, .int 0]))] ++ [(q1, .inl (cA, 8, .inl (fun _ => 0)))] ++ [(q2, .inl (cA, 4, .inl (fun _ => 0)))]) H := hP
  have hD : va_D A ([(fh, .inr (1, [.ref q1, .null, .null, .null, .null, .int 0, .int 0]))] ++ [(q1, .inl (cA, 8, .inl (fun _ => 0)))] ++ [(q2, .inl (cA, 4, .inl (fun _ => 0)))]) := hD
  refine W.widen (k := 2) (n := 12) (Nat.le_of_ble_eq_true rfl) (Nat.le_of_ble_eq_true rfl) ?_
  refine va_putF (D := D) (ci := 1) (ty := (.array .int)) (v := .ref q2) (C := R_M) (T := T_M) (N := 7) hx hb hts in_M ty_M tyok_M nm_M hown hK hP hD hS 0 rfl rfl 1 (by decide) (hts (Cond.fieldLink R_M 15 "QueuedFronts$Machine" "spaceRegisters" "[I") mw_97) (fun _ h9 => h9) rfl hin rfl (by decide +kernel) rfl rfl (Nat.le_of_ble_eq_true rfl) d_M_init_16 (fun H locs hP hD hS => ?_)
  have hP : va_P D vwCl ([(fh, .inr (1, [.ref q1, .ref q2, .null, .null, .null, .int 0, .int 0]))] ++ [(q1, .inl (cA, 8, .inl (fun _ => 0)))] ++ [(q2, .inl (cA, 4, .inl (fun _ => 0)))]) H := hP
  have hD : va_D A ([(fh, .inr (1, [.ref q1, .ref q2, .null, .null, .null, .int 0, .int 0]))] ++ [(q1, .inl (cA, 8, .inl (fun _ => 0)))] ++ [(q2, .inl (cA, 4, .inl (fun _ => 0)))]) := hD
  refine lv_aload_n hx hb d_M_init_19 rfl (lv_at hl 0 rfl) ?_
  refine lv_bipush (v := 64) hx hb d_M_init_20 (by decide) ?_
  refine va_newa (atype := .int) (ty := .int) (N' := 64) (a0 := (64, .inl (fun _ => 0))) hx hb (hts (.arrayClass .int) mw_78) rfl hK hP hD hS hA (fun _ => rfl) (by decide) (by decide) (by decide) (Nat.le_of_ble_eq_true rfl) (Nat.le_of_ble_eq_true rfl) d_M_init_22 (fun q3 cB H hK2 hP hD hS => ?_)
  have hcB := (qx_one hK2).symm
  subst hcB
  have hP : va_P D vwCl ([(fh, .inr (1, [.ref q1, .ref q2, .null, .null, .null, .int 0, .int 0]))] ++ [(q1, .inl (cA, 8, .inl (fun _ => 0)))] ++ [(q2, .inl (cA, 4, .inl (fun _ => 0)))] ++ [(q3, .inl (cA, 64, .inl (fun _ => 0)))]) H := hP
  have hD : va_D A ([(fh, .inr (1, [.ref q1, .ref q2, .null, .null, .null, .int 0, .int 0]))] ++ [(q1, .inl (cA, 8, .inl (fun _ => 0)))] ++ [(q2, .inl (cA, 4, .inl (fun _ => 0)))] ++ [(q3, .inl (cA, 64, .inl (fun _ => 0)))]) := hD
  refine W.widen (k := 3) (n := 76) (Nat.le_of_ble_eq_true rfl) (Nat.le_of_ble_eq_true rfl) ?_
  refine va_putF (D := D) (ci := 1) (ty := (.array .int)) (v := .ref q3) (C := R_M) (T := T_M) (N := 7) hx hb hts in_M ty_M tyok_M nm_M hown hK hP hD hS 0 rfl rfl 2 (by decide) (hts (Cond.fieldLink R_M 18 "QueuedFronts$Machine" "dataWords" "[I") mw_99) (fun _ h9 => h9) rfl hin rfl (by decide +kernel) rfl rfl (Nat.le_of_ble_eq_true rfl) d_M_init_24 (fun H locs hP hD hS => ?_)
  have hP : va_P D vwCl ([(fh, .inr (1, [.ref q1, .ref q2, .ref q3, .null, .null, .int 0, .int 0]))] ++ [(q1, .inl (cA, 8, .inl (fun _ => 0)))] ++ [(q2, .inl (cA, 4, .inl (fun _ => 0)))] ++ [(q3, .inl (cA, 64, .inl (fun _ => 0)))]) H := hP
  have hD : va_D A ([(fh, .inr (1, [.ref q1, .ref q2, .ref q3, .null, .null, .int 0, .int 0]))] ++ [(q1, .inl (cA, 8, .inl (fun _ => 0)))] ++ [(q2, .inl (cA, 4, .inl (fun _ => 0)))] ++ [(q3, .inl (cA, 64, .inl (fun _ => 0)))]) := hD
  refine lv_aload_n hx hb d_M_init_27 rfl (lv_at hl 0 rfl) ?_
  refine va_new (ci := 2) (fs := [.int 0, .int 0, .int 0, .int 0]) (C := R_F) (T := T_F) (N := 4) hx hb hts in_F ty_F tyok_F hown (hts (Cond.classLink R_M 21 R_F) mw_51) (hts (Cond.instantiable R_F 4) mw_52) (hts (Cond.initialized R_F) mw_31) hK hP hD hS hA rfl (fun j hj => by rcases (show j = 0 ∨ j = 1 ∨ j = 2 ∨ j = 3 by omega) with rfl | rfl | rfl | rfl <;> rfl) (Nat.le_of_ble_eq_true rfl) (Nat.le_of_ble_eq_true rfl) d_M_init_28 (fun q4 H hP hD hS => ?_)
  have hP : va_P D vwCl ([(fh, .inr (1, [.ref q1, .ref q2, .ref q3, .null, .null, .int 0, .int 0]))] ++ [(q1, .inl (cA, 8, .inl (fun _ => 0)))] ++ [(q2, .inl (cA, 4, .inl (fun _ => 0)))] ++ [(q3, .inl (cA, 64, .inl (fun _ => 0)))] ++ qw_F q4 (0, 0, 0, 0)) H := hP
  have hD : va_D A ([(fh, .inr (1, [.ref q1, .ref q2, .ref q3, .null, .null, .int 0, .int 0]))] ++ [(q1, .inl (cA, 8, .inl (fun _ => 0)))] ++ [(q2, .inl (cA, 4, .inl (fun _ => 0)))] ++ [(q3, .inl (cA, 64, .inl (fun _ => 0)))] ++ qw_F q4 (0, 0, 0, 0)) := hD
  refine W.widen (k := 4) (n := 80) (Nat.le_of_ble_eq_true rfl) (Nat.le_of_ble_eq_true rfl) ?_
  refine lv_dup hx hb d_M_init_31 rfl ?_
  refine qx_mu (wn := [(fh, .inr (1, [.ref q1, .ref q2, .ref q3, .null, .null, .int 0, .int 0]))] ++ [(q1, .inl (cA, 8, .inl (fun _ => 0)))] ++ [(q2, .inl (cA, 4, .inl (fun _ => 0)))] ++ [(q3, .inl (cA, 64, .inl (fun _ => 0)))] ++ qw_F q4 (qf_F_init (0, 0, 0, 0))) (va_runIN (As := []) (rest := [.ref q4, .ref fh]) ⟨hx, hb, hml, hown, hts⟩ (c_F_init l D cA q4 (0, 0, 0, 0)) (qx_kIN hts hN.1 mw_54 mw_31 mw_55 rfl cd_F_init ⟨Nat.le_of_ble_eq_true rfl, Nat.le_of_ble_eq_true rfl⟩) (qx_preS hP hD hK hN [4] rfl rfl) rfl rfl hl.1 rfl (lv_room (Nat.le_of_ble_eq_true rfl)) d_M_init_32 ⟨Nat.le_of_ble_eq_true rfl, Nat.le_of_ble_eq_true rfl⟩) hP hD hS [4] rfl rfl [fh, q1, q2, q3, q4] rfl rfl (fun H locs hP hD hS => ?_)
  have hP : va_P D vwCl ([(fh, .inr (1, [.ref q1, .ref q2, .ref q3, .null, .null, .int 0, .int 0]))] ++ [(q1, .inl (cA, 8, .inl (fun _ => 0)))] ++ [(q2, .inl (cA, 4, .inl (fun _ => 0)))] ++ [(q3, .inl (cA, 64, .inl (fun _ => 0)))] ++ qw_F q4 (qf_F_init (0, 0, 0, 0))) H := hP
  have hD : va_D A ([(fh, .inr (1, [.ref q1, .ref q2, .ref q3, .null, .null, .int 0, .int 0]))] ++ [(q1, .inl (cA, 8, .inl (fun _ => 0)))] ++ [(q2, .inl (cA, 4, .inl (fun _ => 0)))] ++ [(q3, .inl (cA, 64, .inl (fun _ => 0)))] ++ qw_F q4 (qf_F_init (0, 0, 0, 0))) := hD
  refine W.eq (g2 := F0 m 35 ls [.ref q4, .ref fh]) rfl ?_
  refine va_putF (D := D) (ci := 1) (ty := (.object "QueuedFronts$Flow")) (v := .ref q4) (C := R_M) (T := T_M) (N := 7) hx hb hts in_M ty_M tyok_M nm_M hown hK hP hD hS 0 rfl rfl 3 (by decide) (hts (Cond.fieldLink R_M 24 "QueuedFronts$Machine" "flow" "LQueuedFronts$Flow;") mw_101) (fun _ h9 => h9) rfl hin rfl (by decide +kernel) rfl rfl (Nat.le_of_ble_eq_true rfl) d_M_init_35 (fun H locs hP hD hS => ?_)
  have hP : va_P D vwCl ([(fh, .inr (1, [.ref q1, .ref q2, .ref q3, .ref q4, .null, .int 0, .int 0]))] ++ [(q1, .inl (cA, 8, .inl (fun _ => 0)))] ++ [(q2, .inl (cA, 4, .inl (fun _ => 0)))] ++ [(q3, .inl (cA, 64, .inl (fun _ => 0)))] ++ qw_F q4 (qf_F_init (0, 0, 0, 0))) H := hP
  have hD : va_D A ([(fh, .inr (1, [.ref q1, .ref q2, .ref q3, .ref q4, .null, .int 0, .int 0]))] ++ [(q1, .inl (cA, 8, .inl (fun _ => 0)))] ++ [(q2, .inl (cA, 4, .inl (fun _ => 0)))] ++ [(q3, .inl (cA, 64, .inl (fun _ => 0)))] ++ qw_F q4 (qf_F_init (0, 0, 0, 0))) := hD
  refine lv_aload_n hx hb d_M_init_38 rfl (lv_at hl 0 rfl) ?_
  refine va_new (ci := 2) (fs := [.int 0, .int 0, .int 0, .int 0]) (C := R_F) (T := T_F) (N := 4) hx hb hts in_F ty_F tyok_F hown (hts (Cond.classLink R_M 21 R_F) mw_51) (hts (Cond.instantiable R_F 4) mw_52) (hts (Cond.initialized R_F) mw_31) hK hP hD hS hA rfl (fun j hj => by rcases (show j = 0 ∨ j = 1 ∨ j = 2 ∨ j = 3 by omega) with rfl | rfl | rfl | rfl <;> rfl) (Nat.le_of_ble_eq_true rfl) (Nat.le_of_ble_eq_true rfl) d_M_init_39 (fun q5 H hP hD hS => ?_)
  have hP : va_P D vwCl ([(fh, .inr (1, [.ref q1, .ref q2, .ref q3, .ref q4, .null, .int 0, .int 0]))] ++ [(q1, .inl (cA, 8, .inl (fun _ => 0)))] ++ [(q2, .inl (cA, 4, .inl (fun _ => 0)))] ++ [(q3, .inl (cA, 64, .inl (fun _ => 0)))] ++ qw_F q4 (qf_F_init (0, 0, 0, 0)) ++ qw_F q5 (0, 0, 0, 0)) H := hP
  have hD : va_D A ([(fh, .inr (1, [.ref q1, .ref q2, .ref q3, .ref q4, .null, .int 0, .int 0]))] ++ [(q1, .inl (cA, 8, .inl (fun _ => 0)))] ++ [(q2, .inl (cA, 4, .inl (fun _ => 0)))] ++ [(q3, .inl (cA, 64, .inl (fun _ => 0)))] ++ qw_F q4 (qf_F_init (0, 0, 0, 0)) ++ qw_F q5 (0, 0, 0, 0)) := hD
  refine W.widen (k := 5) (n := 84) (Nat.le_of_ble_eq_true rfl) (Nat.le_of_ble_eq_true rfl) ?_
  refine lv_dup hx hb d_M_init_42 rfl ?_
  refine qx_mu (wn := [(fh, .inr (1, [.ref q1, .ref q2, .ref q3, .ref q4, .null, .int 0, .int 0]))] ++ [(q1, .inl (cA, 8, .inl (fun _ => 0)))] ++ [(q2, .inl (cA, 4, .inl (fun _ => 0)))] ++ [(q3, .inl (cA, 64, .inl (fun _ => 0)))] ++ qw_F q4 (qf_F_init (0, 0, 0, 0)) ++ qw_F q5 (qf_F_init (0, 0, 0, 0))) (va_runIN (As := []) (rest := [.ref q5, .ref fh]) ⟨hx, hb, hml, hown, hts⟩ (c_F_init l D cA q5 (0, 0, 0, 0)) (qx_kIN hts hN.1 mw_54 mw_31 mw_55 rfl cd_F_init ⟨Nat.le_of_ble_eq_true rfl, Nat.le_of_ble_eq_true rfl⟩) (qx_preS hP hD hK hN [5] rfl rfl) rfl rfl hl.1 rfl (lv_room (Nat.le_of_ble_eq_true rfl)) d_M_init_43 ⟨Nat.le_of_ble_eq_true rfl, Nat.le_of_ble_eq_true rfl⟩) hP hD hS [5] rfl rfl [fh, q1, q2, q3, q4, q5] rfl rfl (fun H locs hP hD hS => ?_)
  have hP : va_P D vwCl ([(fh, .inr (1, [.ref q1, .ref q2, .ref q3, .ref q4, .null, .int 0, .int 0]))] ++ [(q1, .inl (cA, 8, .inl (fun _ => 0)))] ++ [(q2, .inl (cA, 4, .inl (fun _ => 0)))] ++ [(q3, .inl (cA, 64, .inl (fun _ => 0)))] ++ qw_F q4 (qf_F_init (0, 0, 0, 0)) ++ qw_F q5 (qf_F_init (0, 0, 0, 0))) H := hP
  have hD : va_D A ([(fh, .inr (1, [.ref q1, .ref q2, .ref q3, .ref q4, .null, .int 0, .int 0]))] ++ [(q1, .inl (cA, 8, .inl (fun _ => 0)))] ++ [(q2, .inl (cA, 4, .inl (fun _ => 0)))] ++ [(q3, .inl (cA, 64, .inl (fun _ => 0)))] ++ qw_F q4 (qf_F_init (0, 0, 0, 0)) ++ qw_F q5 (qf_F_init (0, 0, 0, 0))) := hD
  refine W.eq (g2 := F0 m 46 ls [.ref q5, .ref fh]) rfl ?_
  refine va_putF (D := D) (ci := 1) (ty := (.object "QueuedFronts$Flow")) (v := .ref q5) (C := R_M) (T := T_M) (N := 7) hx hb hts in_M ty_M tyok_M nm_M hown hK hP hD hS 0 rfl rfl 4 (by decide) (hts (Cond.fieldLink R_M 28 "QueuedFronts$Machine" "saved" "LQueuedFronts$Flow;") mw_103) (fun _ h9 => h9) rfl hin rfl (by decide +kernel) rfl rfl (Nat.le_of_ble_eq_true rfl) d_M_init_46 (fun H locs hP hD hS => ?_)
  have hP : va_P D vwCl ([(fh, .inr (1, [.ref q1, .ref q2, .ref q3, .ref q4, .ref q5, .int 0, .int 0]))] ++ [(q1, .inl (cA, 8, .inl (fun _ => 0)))] ++ [(q2, .inl (cA, 4, .inl (fun _ => 0)))] ++ [(q3, .inl (cA, 64, .inl (fun _ => 0)))] ++ qw_F q4 (qf_F_init (0, 0, 0, 0)) ++ qw_F q5 (qf_F_init (0, 0, 0, 0))) H := hP
  have hD : va_D A ([(fh, .inr (1, [.ref q1, .ref q2, .ref q3, .ref q4, .ref q5, .int 0, .int 0]))] ++ [(q1, .inl (cA, 8, .inl (fun _ => 0)))] ++ [(q2, .inl (cA, 4, .inl (fun _ => 0)))] ++ [(q3, .inl (cA, 64, .inl (fun _ => 0)))] ++ qw_F q4 (qf_F_init (0, 0, 0, 0)) ++ qw_F q5 (qf_F_init (0, 0, 0, 0))) := hD
  refine lv_aload_n hx hb d_M_init_49 rfl (lv_at hl 0 rfl) ?_
  refine lv_iconst (v := 0) hx hb d_M_init_50 (by decide) ?_
  refine va_put (D := D) (ci := 1) (ty := .int) (v := .int 0) (C := R_M) (T := T_M) (N := 7) hx hb hts in_M ty_M tyok_M nm_M hown hK hP hD hS 0 rfl rfl 5 (by decide) (hts (Cond.fieldLink R_M 31 "QueuedFronts$Machine" "savedCause" "I") mw_105) (fun _ h9 => h9) rfl (by decide +kernel) rfl rfl (Nat.le_of_ble_eq_true rfl) d_M_init_51 (fun H locs hP hD hS => ?_)
  have hP : va_P D vwCl ([(fh, .inr (1, [.ref q1, .ref q2, .ref q3, .ref q4, .ref q5, .int 0, .int 0]))] ++ [(q1, .inl (cA, 8, .inl (fun _ => 0)))] ++ [(q2, .inl (cA, 4, .inl (fun _ => 0)))] ++ [(q3, .inl (cA, 64, .inl (fun _ => 0)))] ++ qw_F q4 (qf_F_init (0, 0, 0, 0)) ++ qw_F q5 (qf_F_init (0, 0, 0, 0))) H := hP
  have hD : va_D A ([(fh, .inr (1, [.ref q1, .ref q2, .ref q3, .ref q4, .ref q5, .int 0, .int 0]))] ++ [(q1, .inl (cA, 8, .inl (fun _ => 0)))] ++ [(q2, .inl (cA, 4, .inl (fun _ => 0)))] ++ [(q3, .inl (cA, 64, .inl (fun _ => 0)))] ++ qw_F q4 (qf_F_init (0, 0, 0, 0)) ++ qw_F q5 (qf_F_init (0, 0, 0, 0))) := hD
  refine lv_aload_n hx hb d_M_init_54 rfl (lv_at hl 0 rfl) ?_
  refine lv_iconst (v := 0) hx hb d_M_init_55 (by decide) ?_
  refine va_put (D := D) (ci := 1) (ty := .int) (v := .int 0) (C := R_M) (T := T_M) (N := 7) hx hb hts in_M ty_M tyok_M nm_M hown hK hP hD hS 0 rfl rfl 6 (by decide) (hts (Cond.fieldLink R_M 35 "QueuedFronts$Machine" "pending" "I") mw_107) (fun _ h9 => h9) rfl (by decide +kernel) rfl rfl (Nat.le_of_ble_eq_true rfl) d_M_init_56 (fun H locs hP hD hS => ?_)
  have hP : va_P D vwCl ([(fh, .inr (1, [.ref q1, .ref q2, .ref q3, .ref q4, .ref q5, .int 0, .int 0]))] ++ [(q1, .inl (cA, 8, .inl (fun _ => 0)))] ++ [(q2, .inl (cA, 4, .inl (fun _ => 0)))] ++ [(q3, .inl (cA, 64, .inl (fun _ => 0)))] ++ qw_F q4 (qf_F_init (0, 0, 0, 0)) ++ qw_F q5 (qf_F_init (0, 0, 0, 0))) H := hP
  have hD : va_D A ([(fh, .inr (1, [.ref q1, .ref q2, .ref q3, .ref q4, .ref q5, .int 0, .int 0]))] ++ [(q1, .inl (cA, 8, .inl (fun _ => 0)))] ++ [(q2, .inl (cA, 4, .inl (fun _ => 0)))] ++ [(q3, .inl (cA, 64, .inl (fun _ => 0)))] ++ qw_F q4 (qf_F_init (0, 0, 0, 0)) ++ qw_F q5 (qf_F_init (0, 0, 0, 0))) := hD
  refine lv_aload_n hx hb d_M_init_59 rfl (lv_at hl 0 rfl) ?_
  refine va_get (D := D) (ci := 1) (v := .ref q4) (C := R_M) (T := T_M) (N := 7) hx hb hts in_M hown hK hP 0 rfl rfl 3 (by decide) (hts (Cond.fieldLink R_M 24 "QueuedFronts$Machine" "flow" "LQueuedFronts$Flow;") mw_101) (fun _ h9 => h9) rfl d_M_init_60 ?_
  refine lv_iconst (v := 0) hx hb d_M_init_63 (by decide) ?_
  refine lv_iconst (v := 0) hx hb d_M_init_64 (by decide) ?_
  refine qx_mu (wn := [(fh, .inr (1, [.ref q1, .ref q2, .ref q3, .ref q4, .ref q5, .int 0, .int 0]))] ++ [(q1, .inl (cA, 8, .inl (fun _ => 0)))] ++ [(q2, .inl (cA, 4, .inl (fun _ => 0)))] ++ [(q3, .inl (cA, 64, .inl (fun _ => 0)))] ++ qw_F q4 (qf_F_startAt (qf_F_init (0, 0, 0, 0)) 0 0) ++ qw_F q5 (qf_F_init (0, 0, 0, 0))) (va_runV (As := [.int 0, .int 0]) (rest := []) ⟨hx, hb, hml, hown, hts⟩ (c_F_startAt l D cA q4 (qf_F_init (0, 0, 0, 0)) 0 0) (qx_kV hts mw_79 mw_80 mw_81 mw_31 mw_82 cd_F_startAt ⟨Nat.le_of_ble_eq_true rfl, Nat.le_of_ble_eq_true rfl⟩) (qx_preV (q0 := 4) (ci := 2) (q := (R_F, T_F, 4)) hP hD hK hN [4] rfl rfl rfl rfl) rfl rfl hl.1 rfl (lv_room (Nat.le_of_ble_eq_true rfl)) d_M_init_65 ⟨Nat.le_of_ble_eq_true rfl, Nat.le_of_ble_eq_true rfl⟩) hP hD hS [4] rfl rfl [fh, q1, q2, q3, q4, q5] rfl rfl (fun H locs hP hD hS => ?_)
  have hP : va_P D vwCl ([(fh, .inr (1, [.ref q1, .ref q2, .ref q3, .ref q4, .ref q5, .int 0, .int 0]))] ++ [(q1, .inl (cA, 8, .inl (fun _ => 0)))] ++ [(q2, .inl (cA, 4, .inl (fun _ => 0)))] ++ [(q3, .inl (cA, 64, .inl (fun _ => 0)))] ++ qw_F q4 (qf_F_startAt (qf_F_init (0, 0, 0, 0)) 0 0) ++ qw_F q5 (qf_F_init (0, 0, 0, 0))) H := hP
  have hD : va_D A ([(fh, .inr (1, [.ref q1, .ref q2, .ref q3, .ref q4, .ref q5, .int 0, .int 0]))] ++ [(q1, .inl (cA, 8, .inl (fun _ => 0)))] ++ [(q2, .inl (cA, 4, .inl (fun _ => 0)))] ++ [(q3, .inl (cA, 64, .inl (fun _ => 0)))] ++ qw_F q4 (qf_F_startAt (qf_F_init (0, 0, 0, 0)) 0 0) ++ qw_F q5 (qf_F_init (0, 0, 0, 0))) := hD
  refine W.eq (g2 := F0 m 68 ls []) rfl ?_
  have hP : va_P D vwCl (qw_M (fun k => [fh, q1, q2, q3, q4, q5].getD k 0) cA qz_M) H := hP
  have hD : va_D A (qw_M (fun k => [fh, q1, q2, q3, q4, q5].getD k 0) cA qz_M) := hD
  exact W.vret hx hb hr (fun t ht hW => ⟨⟨fun k => [fh, q1, q2, q3, q4, q5].getD k 0, rfl, rfl, (by rw [ht]; exact hP), hD⟩, hS.F ht⟩) hS.2.2 d_M_init_68
set_option maxHeartbeats 4000000 in
set_option maxRecDepth 100000 in
theorem c_Q_init (l : Launch) (D : va_G) (cA : ClassId) (fh : Nat) (sz : Nat) : Met l y_Q_init (Cond.code y_Q_init b_Q_init 1 none :: qx_T) ({ frames := 4, cells := 14, slots := 317, locals := 83 }) (va_Pc [.ref fh] (fun U => U.heap.size = sz ∧ va_P D vwCl ([(fh, .inr (0, [.null, .null, .null, .null, .int 0]))]) U.heap ∧ va_K D vwCl [(cA, .int)] U ∧ qn U ∧ va_D (fun _ => True) ([(fh, .inr (0, [.null, .null, .null, .null, .int 0]))]))) (va_Qv (fun u : Nat → Nat => u 0 = fh) (fun u t => va_P D vwCl (qw_Q u cA qz_Q) t.heap ∧ va_D (va_A ([(fh, .inr (0, [.null, .null, .null, .null, .int 0]))]) sz) (qw_Q u cA qz_Q)) (va_A ([(fh, .inr (0, [.null, .null, .null, .null, .int 0]))]) sz)) 14 317 (va_A ([(fh, .inr (0, [.null, .null, .null, .null, .int 0]))]) sz) := by
  refine Met.ofW (cc := b_Q_init) (maxL := 1) (ret := none) (by decide) rfl ?_
  intro p e s m args below meth c s₁ B hml hv
  obtain ⟨rfl, hsz, hP, hK, hN, hD0⟩ := hv
  have hx := B.exec
  have hb := B.bytes
  have hr := B.returns
  have hts0 := atoms_spec (ws := Cond.code y_Q_init b_Q_init 1 none :: qx_T) B.pre
  have hts := fun w h => hts0 w (List.mem_cons_of_mem _ h)
  have hown : s.vm.findClass R_Q = some m.cls := findClass_of_methodNamed B.named
  have hlocks := B.notSynchronized
  have hin : meth.name = "<init>" := (name_of_methodNamed B.named B.method).1
  subst hsz
  have hD := hD0.self (sz := s.heap.size)
  generalize hAe : va_A ([(fh, .inr (0, [.null, .null, .null, .null, .int 0]))]) s.heap.size = A at hD ⊢
  have hA : ∀ q : Nat, s.heap.size ≤ q → A q := fun q h => by rw [← hAe]; exact Or.inr h
  have hS : va_S A s.heap s.heap [] := va_S.rf
  have hP : va_P D vwCl ([(fh, .inr (0, [.null, .null, .null, .null, .int 0]))]) s.heap := hP
  have hl := lv_entry ([.ref fh]) (n := 1) (Nat.le_of_ble_eq_true rfl)
  rw [lg_entry_eq]
  generalize (lg_sl ([.ref fh]) ++ List.replicate (1 - (lg_sl ([.ref fh])).length) Slot.unset).toArray = ls at hl ⊢
  have hl : lv_has ls 1 [(0, .ref fh)] := hl
  refine lv_aload_n hx hb d_Q_init_0 rfl (lv_at hl 0 rfl) ?_
  refine W.objInit hx hb hown (hts (Cond.methodLink R_Q 1 objectInit) mw_42) (hts (.instanceMethod objectInit) mw_43) (hts (.code objectInit ⟨#[0xb1]⟩ 1 none) mw_44) rfl (by rw [hml]; exact hl.1) rfl d_Q_init_1 (Nat.le_of_ble_eq_true rfl) (Nat.le_of_ble_eq_true rfl) ?_
  refine W.eq (g2 := F0 m 4 ls []) rfl ?_
  refine lv_aload_n hx hb d_Q_init_4 rfl (lv_at hl 0 rfl) ?_
  refine lv_sipush (v := 128) hx hb d_Q_init_5 (by decide) ?_
  refine va_newa (atype := .int) (ty := .int) (N' := 128) (a0 := (128, .inl (fun _ => 0))) hx hb (hts (.arrayClass .int) mw_78) rfl hK hP hD hS hA (fun _ => rfl) (by decide) (by decide) (by decide) (Nat.le_of_ble_eq_true rfl) (Nat.le_of_ble_eq_true rfl) d_Q_init_8 (fun q1 cB H hK2 hP hD hS => ?_)
  have hcB := (qx_one hK2).symm
  subst hcB
  have hP : va_P D vwCl ([(fh, .inr (0, [.null, .null, .null, .null, .int 0]))] ++ [(q1, .inl (cA, 128, .inl (fun _ => 0)))]) H := hP
  have hD : va_D A ([(fh, .inr (0, [.null, .null, .null, .null, .int 0]))] ++ [(q1, .inl (cA, 128, .inl (fun _ => 0)))]) := hD
  refine W.widen (k := 1) (n := 128) (Nat.le_of_ble_eq_true rfl) (Nat.le_of_ble_eq_true rfl) ?_
  refine va_putF (D := D) (ci := 0) (ty := (.array .int)) (v := .ref q1) (C := R_Q) (T := T_Q) (N := 5) hx hb hts in_Q ty_Q tyok_Q nm_Q hown hK hP hD hS 0 rfl rfl 0 (by decide) (hts (Cond.fieldLink R_Q 9 "QueuedFronts" "codeWords" "[I") mw_124) (fun _ h9 => h9) rfl hin rfl (by decide +kernel) rfl rfl (Nat.le_of_ble_eq_true rfl) d_Q_init_10 (fun H locs hP hD hS => ?_)
  have hP : va_P D vwCl ([(fh, .inr (0, [.ref q1, .null, .null, .null, .int 0]))] ++ [(q1, .inl (cA, 128, .inl (fun _ => 0)))]) H := hP
  have hD : va_D A ([(fh, .inr (0, [.ref q1, .null, .null, .null, .int 0]))] ++ [(q1, .inl (cA, 128, .inl (fun _ => 0)))]) := hD
  refine lv_aload_n hx hb d_Q_init_13 rfl (lv_at hl 0 rfl) ?_
  refine lv_bipush (v := 7) hx hb d_Q_init_14 (by decide) ?_
  refine va_newa (atype := .int) (ty := .int) (N' := 7) (a0 := (7, .inl (fun _ => 0))) hx hb (hts (.arrayClass .int) mw_78) rfl hK hP hD hS hA (fun _ => rfl) (by decide) (by decide) (by decide) (Nat.le_of_ble_eq_true rfl) (Nat.le_of_ble_eq_true rfl) d_Q_init_16 (fun q2 cB H hK2 hP hD hS => ?_)
  have hcB := (qx_one hK2).symm
  subst hcB
  have hP : va_P D vwCl ([(fh, .inr (0, [.ref q1, .null, .null, .null, .int 0]))] ++ [(q1, .inl (cA, 128, .inl (fun _ => 0)))] ++ [(q2, .inl (cA, 7, .inl (fun _ => 0)))]) H := hP
  have hD : va_D A ([(fh, .inr (0, [.ref q1, .null, .null, .null, .int 0]))] ++ [(q1, .inl (cA, 128, .inl (fun _ => 0)))] ++ [(q2, .inl (cA, 7, .inl (fun _ => 0)))]) := hD
  refine W.widen (k := 2) (n := 135) (Nat.le_of_ble_eq_true rfl) (Nat.le_of_ble_eq_true rfl) ?_
  refine va_putF (D := D) (ci := 0) (ty := (.array .int)) (v := .ref q2) (C := R_Q) (T := T_Q) (N := 5) hx hb hts in_Q ty_Q tyok_Q nm_Q hown hK hP hD hS 0 rfl rfl 1 (by decide) (hts (Cond.fieldLink R_Q 13 "QueuedFronts" "counts" "[I") mw_125) (fun _ h9 => h9) rfl hin rfl (by decide +kernel) rfl rfl (Nat.le_of_ble_eq_true rfl) d_Q_init_18 (fun H locs hP hD hS => ?_)
  have hP : va_P D vwCl ([(fh, .inr (0, [.ref q1, .ref q2, .null, .null, .int 0]))] ++ [(q1, .inl (cA, 128, .inl (fun _ => 0)))] ++ [(q2, .inl (cA, 7, .inl (fun _ => 0)))]) H := hP
  have hD : va_D A ([(fh, .inr (0, [.ref q1, .ref q2, .null, .null, .int 0]))] ++ [(q1, .inl (cA, 128, .inl (fun _ => 0)))] ++ [(q2, .inl (cA, 7, .inl (fun _ => 0)))]) := hD
  refine lv_aload_n hx hb d_Q_init_21 rfl (lv_at hl 0 rfl) ?_
  refine va_new (ci := 1) (fs := [.null, .null, .null, .null, .null, .int 0, .int 0]) (C := R_M) (T := T_M) (N := 7) hx hb hts in_M ty_M tyok_M hown (hts (Cond.classLink R_Q 16 R_M) mw_45) (hts (Cond.instantiable R_M 7) mw_46) (hts (Cond.initialized R_M) mw_30) hK hP hD hS hA rfl (fun j hj => by rcases (show j = 0 ∨ j = 1 ∨ j = 2 ∨ j = 3 ∨ j = 4 ∨ j = 5 ∨ j = 6 by omega) with rfl | rfl | rfl | rfl | rfl | rfl | rfl <;> rfl) (Nat.le_of_ble_eq_true rfl) (Nat.le_of_ble_eq_true rfl) d_Q_init_22 (fun q3 H hP hD hS => ?_)
  have hP : va_P D vwCl ([(fh, .inr (0, [.ref q1, .ref q2, .null, .null, .int 0]))] ++ [(q1, .inl (cA, 128, .inl (fun _ => 0)))] ++ [(q2, .inl (cA, 7, .inl (fun _ => 0)))] ++ [(q3, .inr (1, [.null, .null, .null, .null, .null, .int 0, .int 0]))]) H := hP
  have hD : va_D A ([(fh, .inr (0, [.ref q1, .ref q2, .null, .null, .int 0]))] ++ [(q1, .inl (cA, 128, .inl (fun _ => 0)))] ++ [(q2, .inl (cA, 7, .inl (fun _ => 0)))] ++ [(q3, .inr (1, [.null, .null, .null, .null, .null, .int 0, .int 0]))]) := hD
  refine W.widen (k := 3) (n := 142) (Nat.le_of_ble_eq_true rfl) (Nat.le_of_ble_eq_true rfl) ?_
  refine lv_dup hx hb d_Q_init_25 rfl ?_
  have hPc := hP.sub (ws' := [(q3, .inr (1, [.null, .null, .null, .null, .null, .int 0, .int 0]))]) [3] rfl
  have hDc := hD.sub (ws' := [(q3, .inr (1, [.null, .null, .null, .null, .null, .int 0, .int 0]))]) [3] (by decide) rfl
  have hFc := va_free (wc := [(q3, .inr (1, [.null, .null, .null, .null, .null, .int 0, .int 0]))]) hD hS hA [3] rfl
  refine va_callv (va_runI (As := []) (rest := [.ref q3, .ref fh]) ⟨hx, hb, hml, hown, hts⟩ (c_M_init l D cA q3 H.size) (qx_kI hts mw_47 mw_48 mw_30 mw_49 rfl cd_M_init ⟨Nat.le_of_ble_eq_true rfl, Nat.le_of_ble_eq_true rfl⟩) ⟨fun a U g mk q => by obtain ⟨q0, q1, qP, qK, qN, qD⟩ := q; exact ⟨q0, q1, qP, va_K.moved (u := U) (U := U.calling g mk a) (Vm.Alike.refl U.vm) qK, qn_same (U := U.calling g mk a) rfl qN, qD⟩, fun U hU hW => ⟨rfl, by rw [hU], by rw [hU]; exact hPc, va_K.moved hW.alike hK, qn_warm hW hN, hDc.weaken (fun _ _ _ _ => trivial)⟩⟩ rfl rfl hl.1 rfl (lv_room (Nat.le_of_ble_eq_true rfl)) d_Q_init_26 ⟨Nat.le_of_ble_eq_true rfl, Nat.le_of_ble_eq_true rfl⟩) hS (fun q _ h => hFc q h) hFc (fun u4 t H1 locs ht hvm hu hB hz1 hk1 hS => ?_)
  obtain ⟨hP1, hD1⟩ := hB
  rw [ht] at hP1
  try dsimp only at hu
  subst hu
  obtain ⟨hP, hD⟩ := va_join (wr := [(fh, .inr (0, [.ref q1, .ref q2, .null, .null, .int 0]))] ++ [(q1, .inl (cA, 128, .inl (fun _ => 0)))] ++ [(q2, .inl (cA, 7, .inl (fun _ => 0)))]) (w1 := qw_M u4 cA qz_M) hP hD [3] [0, 1, 2] rfl rfl (by decide) (by decide) hk1 hFc hP1 hD1
  generalize H1 = H at hP hS ⊢
  have hP : va_P D vwCl ([(fh, .inr (0, [.ref q1, .ref q2, .null, .null, .int 0]))] ++ [(q1, .inl (cA, 128, .inl (fun _ => 0)))] ++ [(q2, .inl (cA, 7, .inl (fun _ => 0)))] ++ qw_M u4 cA qz_M) H := hP
  have hD : va_D A ([(fh, .inr (0, [.ref q1, .ref q2, .null, .null, .int 0]))] ++ [(q1, .inl (cA, 128, .inl (fun _ => 0)))] ++ [(q2, .inl (cA, 7, .inl (fun _ => 0)))] ++ qw_M u4 cA qz_M) := hD
  refine W.widen (k := 8) (n := 226) (Nat.le_of_ble_eq_true rfl) (Nat.le_of_ble_eq_true rfl) ?_
  refine va_putF (D := D) (ci := 0) (ty := (.object "QueuedFronts$Machine")) (v := .ref (u4 0)) (C := R_Q) (T := T_Q) (N := 5) hx hb hts in_Q ty_Q tyok_Q nm_Q hown hK hP hD hS 0 rfl rfl 2 (by decide) (hts (Cond.fieldLink R_Q 19 "QueuedFronts" "now" "LQueuedFronts$Machine;") mw_126) (fun _ h9 => h9) rfl hin rfl (by decide +kernel) rfl rfl (Nat.le_of_ble_eq_true rfl) d_Q_init_29 (fun H locs hP hD hS => ?_)
  have hP : va_P D vwCl ([(fh, .inr (0, [.ref q1, .ref q2, .ref (u4 0), .null, .int 0]))] ++ [(q1, .inl (cA, 128, .inl (fun _ => 0)))] ++ [(q2, .inl (cA, 7, .inl (fun _ => 0)))] ++ qw_M u4 cA qz_M) H := hP
  have hD : va_D A ([(fh, .inr (0, [.ref q1, .ref q2, .ref (u4 0), .null, .int 0]))] ++ [(q1, .inl (cA, 128, .inl (fun _ => 0)))] ++ [(q2, .inl (cA, 7, .inl (fun _ => 0)))] ++ qw_M u4 cA qz_M) := hD
  refine lv_aload_n hx hb d_Q_init_32 rfl (lv_at hl 0 rfl) ?_
  refine va_new (ci := 1) (fs := [.null, .null, .null, .null, .null, .int 0, .int 0]) (C := R_M) (T := T_M) (N := 7) hx hb hts in_M ty_M tyok_M hown (hts (Cond.classLink R_Q 16 R_M) mw_45) (hts (Cond.instantiable R_M 7) mw_46) (hts (Cond.initialized R_M) mw_30) hK hP hD hS hA rfl (fun j hj => by rcases (show j = 0 ∨ j = 1 ∨ j = 2 ∨ j = 3 ∨ j = 4 ∨ j = 5 ∨ j = 6 by omega) with rfl | rfl | rfl | rfl | rfl | rfl | rfl <;> rfl) (Nat.le_of_ble_eq_true rfl) (Nat.le_of_ble_eq_true rfl) d_Q_init_33 (fun q5 H hP hD hS => ?_)
  have hP : va_P D vwCl ([(fh, .inr (0, [.ref q1, .ref q2, .ref (u4 0), .null, .int 0]))] ++ [(q1, .inl (cA, 128, .inl (fun _ => 0)))] ++ [(q2, .inl (cA, 7, .inl (fun _ => 0)))] ++ qw_M u4 cA qz_M ++ [(q5, .inr (1, [.null, .null, .null, .null, .null, .int 0, .int 0]))]) H := hP
  have hD : va_D A ([(fh, .inr (0, [.ref q1, .ref q2, .ref (u4 0), .null, .int 0]))] ++ [(q1, .inl (cA, 128, .inl (fun _ => 0)))] ++ [(q2, .inl (cA, 7, .inl (fun _ => 0)))] ++ qw_M u4 cA qz_M ++ [(q5, .inr (1, [.null, .null, .null, .null, .null, .int 0, .int 0]))]) := hD
  refine W.widen (k := 9) (n := 233) (Nat.le_of_ble_eq_true rfl) (Nat.le_of_ble_eq_true rfl) ?_
  refine lv_dup hx hb d_Q_init_36 rfl ?_
  have hPc := hP.sub (ws' := [(q5, .inr (1, [.null, .null, .null, .null, .null, .int 0, .int 0]))]) [9] rfl
  have hDc := hD.sub (ws' := [(q5, .inr (1, [.null, .null, .null, .null, .null, .int 0, .int 0]))]) [9] (by decide) rfl
  have hFc := va_free (wc := [(q5, .inr (1, [.null, .null, .null, .null, .null, .int 0, .int 0]))]) hD hS hA [9] rfl
  refine va_callv (va_runI (As := []) (rest := [.ref q5, .ref fh]) ⟨hx, hb, hml, hown, hts⟩ (c_M_init l D cA q5 H.size) (qx_kI hts mw_47 mw_48 mw_30 mw_49 rfl cd_M_init ⟨Nat.le_of_ble_eq_true rfl, Nat.le_of_ble_eq_true rfl⟩) ⟨fun a U g mk q => by obtain ⟨q0, q1, qP, qK, qN, qD⟩ := q; exact ⟨q0, q1, qP, va_K.moved (u := U) (U := U.calling g mk a) (Vm.Alike.refl U.vm) qK, qn_same (U := U.calling g mk a) rfl qN, qD⟩, fun U hU hW => ⟨rfl, by rw [hU], by rw [hU]; exact hPc, va_K.moved hW.alike hK, qn_warm hW hN, hDc.weaken (fun _ _ _ _ => trivial)⟩⟩ rfl rfl hl.1 rfl (lv_room (Nat.le_of_ble_eq_true rfl)) d_Q_init_37 ⟨Nat.le_of_ble_eq_true rfl, Nat.le_of_ble_eq_true rfl⟩) hS (fun q _ h => hFc q h) hFc (fun u6 t H1 locs ht hvm hu hB hz1 hk1 hS => ?_)
  obtain ⟨hP1, hD1⟩ := hB
  rw [ht] at hP1
  try dsimp only at hu
  subst hu
  obtain ⟨hP, hD⟩ := va_join (wr := [(fh, .inr (0, [.ref q1, .ref q2, .ref (u4 0), .null, .int 0]))] ++ [(q1, .inl (cA, 128, .inl (fun _ => 0)))] ++ [(q2, .inl (cA, 7, .inl (fun _ => 0)))] ++ qw_M u4 cA qz_M) (w1 := qw_M u6 cA qz_M) hP hD [9] [0, 1, 2, 3, 4, 5, 6, 7, 8] rfl rfl (by decide) (by decide) hk1 hFc hP1 hD1
  generalize H1 = H at hP hS ⊢
  have hP : va_P D vwCl ([(fh, .inr (0, [.ref q1, .ref q2, .ref (u4 0), .null, .int 0]))] ++ [(q1, .inl (cA, 128, .inl (fun _ => 0)))] ++ [(q2, .inl (cA, 7, .inl (fun _ => 0)))] ++ qw_M u4 cA qz_M ++ qw_M u6 cA qz_M) H := hP
  have hD : va_D A ([(fh, .inr (0, [.ref q1, .ref q2, .ref (u4 0), .null, .int 0]))] ++ [(q1, .inl (cA, 128, .inl (fun _ => 0)))] ++ [(q2, .inl (cA, 7, .inl (fun _ => 0)))] ++ qw_M u4 cA qz_M ++ qw_M u6 cA qz_M) := hD
  refine W.widen (k := 14) (n := 317) (Nat.le_of_ble_eq_true rfl) (Nat.le_of_ble_eq_true rfl) ?_
  refine va_putF (D := D) (ci := 0) (ty := (.object "QueuedFronts$Machine")) (v := .ref (u6 0)) (C := R_Q) (T := T_Q) (N := 5) hx hb hts in_Q ty_Q tyok_Q nm_Q hown hK hP hD hS 0 rfl rfl 3 (by decide) (hts (Cond.fieldLink R_Q 23 "QueuedFronts" "remembered" "LQueuedFronts$Machine;") mw_127) (fun _ h9 => h9) rfl hin rfl (by decide +kernel) rfl rfl (Nat.le_of_ble_eq_true rfl) d_Q_init_40 (fun H locs hP hD hS => ?_)
  have hP : va_P D vwCl ([(fh, .inr (0, [.ref q1, .ref q2, .ref (u4 0), .ref (u6 0), .int 0]))] ++ [(q1, .inl (cA, 128, .inl (fun _ => 0)))] ++ [(q2, .inl (cA, 7, .inl (fun _ => 0)))] ++ qw_M u4 cA qz_M ++ qw_M u6 cA qz_M) H := hP
  have hD : va_D A ([(fh, .inr (0, [.ref q1, .ref q2, .ref (u4 0), .ref (u6 0), .int 0]))] ++ [(q1, .inl (cA, 128, .inl (fun _ => 0)))] ++ [(q2, .inl (cA, 7, .inl (fun _ => 0)))] ++ qw_M u4 cA qz_M ++ qw_M u6 cA qz_M) := hD
  refine lv_aload_n hx hb d_Q_init_43 rfl (lv_at hl 0 rfl) ?_
  refine lv_iconst (v := 0) hx hb d_Q_init_44 (by decide) ?_
  refine va_put (D := D) (ci := 0) (ty := .boolean) (v := .int 0) (C := R_Q) (T := T_Q) (N := 5) hx hb hts in_Q ty_Q tyok_Q nm_Q hown hK hP hD hS 0 rfl rfl 4 (by decide) (hts (Cond.fieldLink R_Q 26 "QueuedFronts" "remembers" "Z") mw_128) (fun _ h9 => h9) rfl (by decide +kernel) rfl rfl (Nat.le_of_ble_eq_true rfl) d_Q_init_45 (fun H locs hP hD hS => ?_)
  have hP : va_P D vwCl ([(fh, .inr (0, [.ref q1, .ref q2, .ref (u4 0), .ref (u6 0), .int 0]))] ++ [(q1, .inl (cA, 128, .inl (fun _ => 0)))] ++ [(q2, .inl (cA, 7, .inl (fun _ => 0)))] ++ qw_M u4 cA qz_M ++ qw_M u6 cA qz_M) H := hP
  have hD : va_D A ([(fh, .inr (0, [.ref q1, .ref q2, .ref (u4 0), .ref (u6 0), .int 0]))] ++ [(q1, .inl (cA, 128, .inl (fun _ => 0)))] ++ [(q2, .inl (cA, 7, .inl (fun _ => 0)))] ++ qw_M u4 cA qz_M ++ qw_M u6 cA qz_M) := hD
  have hP : va_P D vwCl (qw_Q (fun k => [fh, q1, q2, u4 0, u4 1, u4 2, u4 3, u4 4, u4 5, u6 0, u6 1, u6 2, u6 3, u6 4, u6 5].getD k 0) cA qz_Q) H := hP
  have hD : va_D A (qw_Q (fun k => [fh, q1, q2, u4 0, u4 1, u4 2, u4 3, u4 4, u4 5, u6 0, u6 1, u6 2, u6 3, u6 4, u6 5].getD k 0) cA qz_Q) := hD
  exact W.vret hx hb hr (fun t ht hW => ⟨⟨fun k => [fh, q1, q2, u4 0, u4 1, u4 2, u4 3, u4 4, u4 5, u6 0, u6 1, u6 2, u6 3, u6 4, u6 5].getD k 0, rfl, rfl, (by rw [ht]; exact hP), hD⟩, hS.F ht⟩) hS.2.2 d_Q_init_48
set_option maxHeartbeats 4000000 in
set_option maxRecDepth 100000 in
theorem c_X_init (l : Launch) (D : va_G) (cA : ClassId) (fh : Nat) (sz : Nat) : Met l y_X_init (Cond.code y_X_init b_X_init 1 none :: qx_T) ({ frames := 1, cells := 4, slots := 307, locals := 20 }) (va_Pc [.ref fh] (fun U => U.heap.size = sz ∧ va_P D vwCl ([(fh, .inr (3, [.null, .null, .int 0, .null, .null, .int 0, .int 0, .int 0]))]) U.heap ∧ va_K D vwCl [(cA, .int)] U ∧ qn U ∧ va_D (fun _ => True) ([(fh, .inr (3, [.null, .null, .int 0, .null, .null, .int 0, .int 0, .int 0]))]))) (va_Qv (fun u : Nat → Nat => u 0 = fh) (fun u t => va_P D vwCl (qw_X u cA qz_X) t.heap ∧ va_D (va_A ([(fh, .inr (3, [.null, .null, .int 0, .null, .null, .int 0, .int 0, .int 0]))]) sz) (qw_X u cA qz_X)) (va_A ([(fh, .inr (3, [.null, .null, .int 0, .null, .null, .int 0, .int 0, .int 0]))]) sz)) 4 307 (va_A ([(fh, .inr (3, [.null, .null, .int 0, .null, .null, .int 0, .int 0, .int 0]))]) sz) := by
  refine Met.ofW (cc := b_X_init) (maxL := 1) (ret := none) (by decide) rfl ?_
  intro p e s m args below meth c s₁ B hml hv
  obtain ⟨rfl, hsz, hP, hK, hN, hD0⟩ := hv
  have hx := B.exec
  have hb := B.bytes
  have hr := B.returns
  have hts0 := atoms_spec (ws := Cond.code y_X_init b_X_init 1 none :: qx_T) B.pre
  have hts := fun w h => hts0 w (List.mem_cons_of_mem _ h)
  have hown : s.vm.findClass R_X = some m.cls := findClass_of_methodNamed B.named
  have hlocks := B.notSynchronized
  have hin : meth.name = "<init>" := (name_of_methodNamed B.named B.method).1
  subst hsz
  have hD := hD0.self (sz := s.heap.size)
  generalize hAe : va_A ([(fh, .inr (3, [.null, .null, .int 0, .null, .null, .int 0, .int 0, .int 0]))]) s.heap.size = A at hD ⊢
  have hA : ∀ q : Nat, s.heap.size ≤ q → A q := fun q h => by rw [← hAe]; exact Or.inr h
  have hS : va_S A s.heap s.heap [] := va_S.rf
  have hP : va_P D vwCl ([(fh, .inr (3, [.null, .null, .int 0, .null, .null, .int 0, .int 0, .int 0]))]) s.heap := hP
  have hl := lv_entry ([.ref fh]) (n := 1) (Nat.le_of_ble_eq_true rfl)
  rw [lg_entry_eq]
  generalize (lg_sl ([.ref fh]) ++ List.replicate (1 - (lg_sl ([.ref fh])).length) Slot.unset).toArray = ls at hl ⊢
  have hl : lv_has ls 1 [(0, .ref fh)] := hl
  refine lv_aload_n hx hb d_X_init_0 rfl (lv_at hl 0 rfl) ?_
  refine W.objInit hx hb hown (hts (Cond.methodLink R_X 1 objectInit) mw_369) (hts (.instanceMethod objectInit) mw_43) (hts (.code objectInit ⟨#[0xb1]⟩ 1 none) mw_44) rfl (by rw [hml]; exact hl.1) rfl d_X_init_1 (Nat.le_of_ble_eq_true rfl) (Nat.le_of_ble_eq_true rfl) ?_
  refine W.eq (g2 := F0 m 4 ls []) rfl ?_
  refine lv_aload_n hx hb d_X_init_4 rfl (lv_at hl 0 rfl) ?_
  refine lv_bipush (v := 86) hx hb d_X_init_5 (by decide) ?_
  refine va_newa (atype := .int) (ty := .int) (N' := 86) (a0 := (86, .inl (fun _ => 0))) hx hb (hts (.arrayClass .int) mw_78) rfl hK hP hD hS hA (fun _ => rfl) (by decide) (by decide) (by decide) (Nat.le_of_ble_eq_true rfl) (Nat.le_of_ble_eq_true rfl) d_X_init_7 (fun q1 cB H hK2 hP hD hS => ?_)
  have hcB := (qx_one hK2).symm
  subst hcB
  have hP : va_P D vwCl ([(fh, .inr (3, [.null, .null, .int 0, .null, .null, .int 0, .int 0, .int 0]))] ++ [(q1, .inl (cA, 86, .inl (fun _ => 0)))]) H := hP
  have hD : va_D A ([(fh, .inr (3, [.null, .null, .int 0, .null, .null, .int 0, .int 0, .int 0]))] ++ [(q1, .inl (cA, 86, .inl (fun _ => 0)))]) := hD
  refine W.widen (k := 1) (n := 86) (Nat.le_of_ble_eq_true rfl) (Nat.le_of_ble_eq_true rfl) ?_
  refine va_putF (D := D) (ci := 3) (ty := (.array .int)) (v := .ref q1) (C := R_X) (T := T_X) (N := 8) hx hb hts in_X ty_X tyok_X nm_X hown hK hP hD hS 0 rfl rfl 0 (by decide) (hts (Cond.fieldLink R_X 7 "QueuedFrontsModel" "now" "[I") mw_370) (fun _ h9 => h9) rfl hin rfl (by decide +kernel) rfl rfl (Nat.le_of_ble_eq_true rfl) d_X_init_9 (fun H locs hP hD hS => ?_)
  have hP : va_P D vwCl ([(fh, .inr (3, [.ref q1, .null, .int 0, .null, .null, .int 0, .int 0, .int 0]))] ++ [(q1, .inl (cA, 86, .inl (fun _ => 0)))]) H := hP
  have hD : va_D A ([(fh, .inr (3, [.ref q1, .null, .int 0, .null, .null, .int 0, .int 0, .int 0]))] ++ [(q1, .inl (cA, 86, .inl (fun _ => 0)))]) := hD
  refine lv_aload_n hx hb d_X_init_12 rfl (lv_at hl 0 rfl) ?_
  refine lv_bipush (v := 86) hx hb d_X_init_13 (by decide) ?_
  refine va_newa (atype := .int) (ty := .int) (N' := 86) (a0 := (86, .inl (fun _ => 0))) hx hb (hts (.arrayClass .int) mw_78) rfl hK hP hD hS hA (fun _ => rfl) (by decide) (by decide) (by decide) (Nat.le_of_ble_eq_true rfl) (Nat.le_of_ble_eq_true rfl) d_X_init_15 (fun q2 cB H hK2 hP hD hS => ?_)
  have hcB := (qx_one hK2).symm
  subst hcB
  have hP : va_P D vwCl ([(fh, .inr (3, [.ref q1, .null, .int 0, .null, .null, .int 0, .int 0, .int 0]))] ++ [(q1, .inl (cA, 86, .inl (fun _ => 0)))] ++ [(q2, .inl (cA, 86, .inl (fun _ => 0)))]) H := hP
  have hD : va_D A ([(fh, .inr (3, [.ref q1, .null, .int 0, .null, .null, .int 0, .int 0, .int 0]))] ++ [(q1, .inl (cA, 86, .inl (fun _ => 0)))] ++ [(q2, .inl (cA, 86, .inl (fun _ => 0)))]) := hD
  refine W.widen (k := 2) (n := 172) (Nat.le_of_ble_eq_true rfl) (Nat.le_of_ble_eq_true rfl) ?_
  refine va_putF (D := D) (ci := 3) (ty := (.array .int)) (v := .ref q2) (C := R_X) (T := T_X) (N := 8) hx hb hts in_X ty_X tyok_X nm_X hown hK hP hD hS 0 rfl rfl 1 (by decide) (hts (Cond.fieldLink R_X 13 "QueuedFrontsModel" "then" "[I") mw_371) (fun _ h9 => h9) rfl hin rfl (by decide +kernel) rfl rfl (Nat.le_of_ble_eq_true rfl) d_X_init_17 (fun H locs hP hD hS => ?_)
  have hP : va_P D vwCl ([(fh, .inr (3, [.ref q1, .ref q2, .int 0, .null, .null, .int 0, .int 0, .int 0]))] ++ [(q1, .inl (cA, 86, .inl (fun _ => 0)))] ++ [(q2, .inl (cA, 86, .inl (fun _ => 0)))]) H := hP
  have hD : va_D A ([(fh, .inr (3, [.ref q1, .ref q2, .int 0, .null, .null, .int 0, .int 0, .int 0]))] ++ [(q1, .inl (cA, 86, .inl (fun _ => 0)))] ++ [(q2, .inl (cA, 86, .inl (fun _ => 0)))]) := hD
  refine lv_aload_n hx hb d_X_init_20 rfl (lv_at hl 0 rfl) ?_
  refine lv_sipush (v := 128) hx hb d_X_init_21 (by decide) ?_
  refine va_newa (atype := .int) (ty := .int) (N' := 128) (a0 := (128, .inl (fun _ => 0))) hx hb (hts (.arrayClass .int) mw_78) rfl hK hP hD hS hA (fun _ => rfl) (by decide) (by decide) (by decide) (Nat.le_of_ble_eq_true rfl) (Nat.le_of_ble_eq_true rfl) d_X_init_24 (fun q3 cB H hK2 hP hD hS => ?_)
  have hcB := (qx_one hK2).symm
  subst hcB
  have hP : va_P D vwCl ([(fh, .inr (3, [.ref q1, .ref q2, .int 0, .null, .null, .int 0, .int 0, .int 0]))] ++ [(q1, .inl (cA, 86, .inl (fun _ => 0)))] ++ [(q2, .inl (cA, 86, .inl (fun _ => 0)))] ++ [(q3, .inl (cA, 128, .inl (fun _ => 0)))]) H := hP
  have hD : va_D A ([(fh, .inr (3, [.ref q1, .ref q2, .int 0, .null, .null, .int 0, .int 0, .int 0]))] ++ [(q1, .inl (cA, 86, .inl (fun _ => 0)))] ++ [(q2, .inl (cA, 86, .inl (fun _ => 0)))] ++ [(q3, .inl (cA, 128, .inl (fun _ => 0)))]) := hD
  refine W.widen (k := 3) (n := 300) (Nat.le_of_ble_eq_true rfl) (Nat.le_of_ble_eq_true rfl) ?_
  refine va_putF (D := D) (ci := 3) (ty := (.array .int)) (v := .ref q3) (C := R_X) (T := T_X) (N := 8) hx hb hts in_X ty_X tyok_X nm_X hown hK hP hD hS 0 rfl rfl 3 (by decide) (hts (Cond.fieldLink R_X 16 "QueuedFrontsModel" "code" "[I") mw_373) (fun _ h9 => h9) rfl hin rfl (by decide +kernel) rfl rfl (Nat.le_of_ble_eq_true rfl) d_X_init_26 (fun H locs hP hD hS => ?_)
  have hP : va_P D vwCl ([(fh, .inr (3, [.ref q1, .ref q2, .int 0, .ref q3, .null, .int 0, .int 0, .int 0]))] ++ [(q1, .inl (cA, 86, .inl (fun _ => 0)))] ++ [(q2, .inl (cA, 86, .inl (fun _ => 0)))] ++ [(q3, .inl (cA, 128, .inl (fun _ => 0)))]) H := hP
  have hD : va_D A ([(fh, .inr (3, [.ref q1, .ref q2, .int 0, .ref q3, .null, .int 0, .int 0, .int 0]))] ++ [(q1, .inl (cA, 86, .inl (fun _ => 0)))] ++ [(q2, .inl (cA, 86, .inl (fun _ => 0)))] ++ [(q3, .inl (cA, 128, .inl (fun _ => 0)))]) := hD
  refine lv_aload_n hx hb d_X_init_29 rfl (lv_at hl 0 rfl) ?_
  refine lv_bipush (v := 7) hx hb d_X_init_30 (by decide) ?_
  refine va_newa (atype := .int) (ty := .int) (N' := 7) (a0 := (7, .inl (fun _ => 0))) hx hb (hts (.arrayClass .int) mw_78) rfl hK hP hD hS hA (fun _ => rfl) (by decide) (by decide) (by decide) (Nat.le_of_ble_eq_true rfl) (Nat.le_of_ble_eq_true rfl) d_X_init_32 (fun q4 cB H hK2 hP hD hS => ?_)
  have hcB := (qx_one hK2).symm
  subst hcB
  have hP : va_P D vwCl ([(fh, .inr (3, [.ref q1, .ref q2, .int 0, .ref q3, .null, .int 0, .int 0, .int 0]))] ++ [(q1, .inl (cA, 86, .inl (fun _ => 0)))] ++ [(q2, .inl (cA, 86, .inl (fun _ => 0)))] ++ [(q3, .inl (cA, 128, .inl (fun _ => 0)))] ++ [(q4, .inl (cA, 7, .inl (fun _ => 0)))]) H := hP
  have hD : va_D A ([(fh, .inr (3, [.ref q1, .ref q2, .int 0, .ref q3, .null, .int 0, .int 0, .int 0]))] ++ [(q1, .inl (cA, 86, .inl (fun _ => 0)))] ++ [(q2, .inl (cA, 86, .inl (fun _ => 0)))] ++ [(q3, .inl (cA, 128, .inl (fun _ => 0)))] ++ [(q4, .inl (cA, 7, .inl (fun _ => 0)))]) := hD
  refine W.widen (k := 4) (n := 307) (Nat.le_of_ble_eq_true rfl) (Nat.le_of_ble_eq_true rfl) ?_
  refine va_putF (D := D) (ci := 3) (ty := (.array .int)) (v := .ref q4) (C := R_X) (T := T_X) (N := 8) hx hb hts in_X ty_X tyok_X nm_X hown hK hP hD hS 0 rfl rfl 4 (by decide) (hts (Cond.fieldLink R_X 19 "QueuedFrontsModel" "counts" "[I") mw_374) (fun _ h9 => h9) rfl hin rfl (by decide +kernel) rfl rfl (Nat.le_of_ble_eq_true rfl) d_X_init_34 (fun H locs hP hD hS => ?_)
  have hP : va_P D vwCl ([(fh, .inr (3, [.ref q1, .ref q2, .int 0, .ref q3, .ref q4, .int 0, .int 0, .int 0]))] ++ [(q1, .inl (cA, 86, .inl (fun _ => 0)))] ++ [(q2, .inl (cA, 86, .inl (fun _ => 0)))] ++ [(q3, .inl (cA, 128, .inl (fun _ => 0)))] ++ [(q4, .inl (cA, 7, .inl (fun _ => 0)))]) H := hP
  have hD : va_D A ([(fh, .inr (3, [.ref q1, .ref q2, .int 0, .ref q3, .ref q4, .int 0, .int 0, .int 0]))] ++ [(q1, .inl (cA, 86, .inl (fun _ => 0)))] ++ [(q2, .inl (cA, 86, .inl (fun _ => 0)))] ++ [(q3, .inl (cA, 128, .inl (fun _ => 0)))] ++ [(q4, .inl (cA, 7, .inl (fun _ => 0)))]) := hD
  refine lv_aload_n hx hb d_X_init_37 rfl (lv_at hl 0 rfl) ?_
  refine va_get (D := D) (ci := 3) (v := .ref q1) (C := R_X) (T := T_X) (N := 8) hx hb hts in_X hown hK hP 0 rfl rfl 0 (by decide) (hts (Cond.fieldLink R_X 7 "QueuedFrontsModel" "now" "[I") mw_370) (fun _ h9 => h9) rfl d_X_init_38 ?_
  refine lv_iconst (v := 1) hx hb d_X_init_41 (by decide) ?_
  refine lv_iconst (v := 1) hx hb d_X_init_42 (by decide) ?_
  refine va_iast hx hb hK hP hD hS 1 0 rfl rfl (show vp_in (1 : Int32) 86 from qi_lit (by decide)) d_X_init_43 (fun H locs hP hD hS => ?_)
  have hP : va_P D vwCl ([(fh, .inr (3, [.ref q1, .ref q2, .int 0, .ref q3, .ref q4, .int 0, .int 0, .int 0]))] ++ [(q1, .inl (cA, 86, .inl (upd (fun _ => 0) 1 1)))] ++ [(q2, .inl (cA, 86, .inl (fun _ => 0)))] ++ [(q3, .inl (cA, 128, .inl (fun _ => 0)))] ++ [(q4, .inl (cA, 7, .inl (fun _ => 0)))]) H := hP
  have hD : va_D A ([(fh, .inr (3, [.ref q1, .ref q2, .int 0, .ref q3, .ref q4, .int 0, .int 0, .int 0]))] ++ [(q1, .inl (cA, 86, .inl (upd (fun _ => 0) 1 1)))] ++ [(q2, .inl (cA, 86, .inl (fun _ => 0)))] ++ [(q3, .inl (cA, 128, .inl (fun _ => 0)))] ++ [(q4, .inl (cA, 7, .inl (fun _ => 0)))]) := hD
  have hP : va_P D vwCl (qw_X (fun k => [fh, q1, q2, q3, q4].getD k 0) cA qz_X) H := hP
  have hD : va_D A (qw_X (fun k => [fh, q1, q2, q3, q4].getD k 0) cA qz_X) := hD
  exact W.vret hx hb hr (fun t ht hW => ⟨⟨fun k => [fh, q1, q2, q3, q4].getD k 0, rfl, rfl, (by rw [ht]; exact hP), hD⟩, hS.F ht⟩) hS.2.2 d_X_init_44
