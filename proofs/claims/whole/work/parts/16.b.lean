set_option maxHeartbeats 4000000 in
set_option maxRecDepth 100000 in
theorem c_X_run (l : Launch) (D : va_G) (cA : ClassId) (ad : Nat → Nat) (st : qs_X) (n : Int32) (hall : ∀ j : Nat, j < n.toNatClampNeg → vp_in ((qf_X_it j st).1 0) 128 ∧ ∀ k : Nat, k < 4 → vp_in ((qf_X_it j st).1 (18 + k)) 4) : Met l y_X_run (Cond.code y_X_run b_X_run 4 (some .int) :: qx_T) ({ frames := 5, cells := 0, slots := 0, locals := 115 }) (qx_Pc D vwCl [(cA, .int)] (qw_X ad cA st) [.ref (ad 0), .int n]) (qx_Q D vwCl (qw_X ad cA ((qf_X_run st n).1)) (qx_ad (qw_X ad cA st)) (some (.int (qf_X_run st n).2))) 0 0 (qx_ad (qw_X ad cA st)) := by
  refine Met.ofW (cc := b_X_run) (maxL := 4) (ret := (some .int)) (by decide) rfl ?_
  intro p e s m args below meth c s₁ B hml hv
  obtain ⟨rfl, hP, hK, hN, hD0⟩ := hv
  have hx := B.exec
  have hb := B.bytes
  have hr := B.returns
  have hts0 := atoms_spec (ws := Cond.code y_X_run b_X_run 4 (some .int) :: qx_T) B.pre
  have hts := fun w h => hts0 w (List.mem_cons_of_mem _ h)
  have hown : s.vm.findClass R_X = some m.cls := findClass_of_methodNamed B.named
  have hlocks := B.notSynchronized
  have hD : va_D (qx_ad (qw_X ad cA st)) (qw_X ad cA st) := ⟨hD0.1, fun k q hk => ⟨k, q.2, hk⟩⟩
  generalize hAe : qx_ad (qw_X ad cA st) = A at hD ⊢
  have hS : va_S A s.heap s.heap [] := va_S.rf
  have hl := lv_entry ([.ref (ad 0), .int n]) (n := 4) (Nat.le_of_ble_eq_true rfl)
  rw [lg_entry_eq]
  generalize (lg_sl ([.ref (ad 0), .int n]) ++ List.replicate (4 - (lg_sl ([.ref (ad 0), .int n])).length) Slot.unset).toArray = ls at hl ⊢
  have hl : lv_has ls 4 [(0, .ref (ad 0)), (1, .int n)] := hl
  have hloop : ∀ (h0 : ¬ n < 0) (h2 : n ≤ 200) (k i : Nat) (z : qs_X) (ls : Array Slot) (H : Heap) (locs : List Loc), i + k = n.toNatClampNeg → qf_X_it i st = z → lv_has ls 4 [(0, .ref (ad 0)), (1, .int n), (2, .int (qf_X_traps st)), (3, .int (nI i))] → va_P D vwCl (qw_X ad cA z) H → va_D A (qw_X ad cA z) → va_S A s.heap H locs → W p l e (headSpec (Cond.code y_X_run b_X_run 4 (some .int) :: qx_T) ({ frames := 5, cells := 0, slots := 0, locals := 115 })).room s m ([.ref (ad 0), .int n] : List Value).toArray below meth c H locs 0 0 (MQ below (qx_Q D vwCl (qw_X ad cA ((qf_X_run st n).1)) A (some (.int (qf_X_run st n).2))) ([.ref (ad 0), .int n] : List Value).toArray s 0 0 (A)) (F0 m 20 ls []) := by
    intro h0 h2 k
    obtain ⟨N, hN9, hnN⟩ := nI_of2 (M := 200) (n := 200) rfl h0 h2
    have hcl : n.toNatClampNeg = N := by rw [hnN, nI_clamp (by omega)]
    induction k with
    | zero =>
      intro i z ls H locs hik hz hl hP hD hS
      have hiN : i = n.toNatClampNeg := by omega
      have hge : n ≤ nI i := by rw [hiN, hcl, hnN]; exact (nI_leI (by omega) (by omega)).mpr (Nat.le_refl _)
      refine lv_iload_n hx hb d_X_run_20 rfl (lv_at hl 3 rfl) ?_
      refine lv_iload_n hx hb d_X_run_21 rfl (lv_at hl 1 rfl) ?_
      refine lv_icmp_ge (tgt := 35) hx hb d_X_run_22 (by decide) (fun _ => ?_) (fun h => False.elim (h hge))
      refine lv_aload_n hx hb d_X_run_35 rfl (lv_at hl 0 rfl) ?_
      refine qx_rd (va_runV (As := []) (rest := []) ⟨hx, hb, hml, hown, hts⟩ (c_X_traps l D cA ad z) (qx_kV hts mw_432 mw_434 mw_15 mw_33 mw_435 cd_X_traps ⟨Nat.le_of_ble_eq_true rfl, Nat.le_of_ble_eq_true rfl⟩) (qx_preV (q0 := 0) (ci := 3) (q := (R_X, T_X, 8)) hP hD hK hN [0, 1, 2, 3, 4] rfl rfl rfl rfl) rfl rfl hl.1 rfl (lv_room (Nat.le_of_ble_eq_true rfl)) d_X_run_36 ⟨Nat.zero_le _, Nat.zero_le _⟩) ?_
      refine lv_iload_n hx hb d_X_run_39 rfl (lv_at hl 2 rfl) ?_
      refine lv_isub hx hb d_X_run_40 ?_
      have e9 : (z, (qf_X_traps z - qf_X_traps st)) = qf_X_run st n := (by unfold qf_X_run; rw [if_neg h0, if_pos h2, ← hiN, hz])
      exact W.iret hx hb hr (fun t ht hW => ⟨(by rw [← e9]), (by rw [ht, ← e9]; exact hP), hS.F ht⟩) hS.2.2 d_X_run_41
    | succ k ih =>
      intro i z ls H locs hik hz hl hP hD hS
      have hlt : ¬ n ≤ nI i := by rw [hnN]; exact fun h => absurd ((nI_leI (by omega) (by omega)).mp h) (by omega)
      have hf9 := (hall i (by omega)).1
      have hs9 := (hall i (by omega)).2
      rw [hz] at hf9 hs9
      refine lv_iload_n hx hb d_X_run_20 rfl (lv_at hl 3 rfl) ?_
      refine lv_iload_n hx hb d_X_run_21 rfl (lv_at hl 1 rfl) ?_
      refine lv_icmp_ge (tgt := 35) hx hb d_X_run_22 (by decide) (fun h => False.elim (hlt h)) (fun _ => ?_)
      refine lv_aload_n hx hb d_X_run_25 rfl (lv_at hl 0 rfl) ?_
      refine qx_muZ (T := qf_X_step z) (Wf := fun zz : qs_X => qw_X ad cA zz) (vf := fun _ => none) (va_runV (As := []) (rest := []) ⟨hx, hb, hml, hown, hts⟩ (c_X_step l D cA ad z hf9 hs9) (qx_kV hts mw_436 mw_438 mw_16 mw_33 mw_439 cd_X_step ⟨Nat.le_of_ble_eq_true rfl, Nat.le_of_ble_eq_true rfl⟩) (qx_preV (q0 := 0) (ci := 3) (q := (R_X, T_X, 8)) hP hD hK hN [0, 1, 2, 3, 4] rfl rfl rfl rfl) rfl rfl hl.1 rfl (lv_room (Nat.le_of_ble_eq_true rfl)) d_X_run_26 ⟨Nat.zero_le _, Nat.zero_le _⟩) hP hD hS [0, 1, 2, 3, 4] rfl rfl [ad 0, ad 1, ad 2, ad 3, ad 4] rfl rfl (fun zz1 hzz1 H locs hP hD hS => ?_)
      have hP : va_P D vwCl (qw_X ad cA zz1) H := hP
      have hD : va_D A (qw_X ad cA zz1) := hD
      refine W.eq (g2 := F0 m 29 ls []) rfl ?_
      refine lv_iinc (v := (nI i + 1)) (lv' := [(3, .int (nI i + 1)), (0, .ref (ad 0)), (1, .int n), (2, .int (qf_X_traps st))]) (k := 3) hx hb d_X_run_29 hl rfl rfl (by decide) rfl (fun ls hl => ?_)
      refine lv_goto (tgt := 20) hx hb d_X_run_32 (by decide) ?_
      rw [nI_1] at hl
      exact ih (i + 1) zz1 ls _ _ (by omega) (by rw [qf_X_it_s hz, hzz1]) (lv_sub hl [1, 2, 3, 0] rfl) hP hD hS
  refine lv_iload_n hx hb d_X_run_0 rfl (lv_at hl 1 rfl) ?_
  refine lv_if_lt (tgt := 11) hx hb d_X_run_1 (by decide) (fun h1 => ?_) (fun h1 => ?_)
  · have h1 : n < 0 := h1
    refine lv_iconst (v := (-1)) hx hb d_X_run_11 (by decide) ?_
    have e9 : (st, (-1)) = qf_X_run st n := (by unfold qf_X_run; rw [if_pos h1])
    exact W.iret hx hb hr (fun t ht hW => ⟨(by rw [← e9]), (by rw [ht, ← e9]; exact hP), hS.F ht⟩) hS.2.2 d_X_run_12
  · have h1 : ¬ (n < 0) := h1
    refine lv_iload_n hx hb d_X_run_4 rfl (lv_at hl 1 rfl) ?_
    refine lv_sipush (v := 200) hx hb d_X_run_5 (by decide) ?_
    refine lv_icmp_le (tgt := 13) hx hb d_X_run_8 (by decide) (fun h2 => ?_) (fun h2 => ?_)
    · have h2 : n ≤ 200 := h2
      refine lv_aload_n hx hb d_X_run_13 rfl (lv_at hl 0 rfl) ?_
      refine qx_rd (va_runV (As := []) (rest := []) ⟨hx, hb, hml, hown, hts⟩ (c_X_traps l D cA ad st) (qx_kV hts mw_432 mw_434 mw_15 mw_33 mw_435 cd_X_traps ⟨Nat.le_of_ble_eq_true rfl, Nat.le_of_ble_eq_true rfl⟩) (qx_preV (q0 := 0) (ci := 3) (q := (R_X, T_X, 8)) hP hD hK hN [0, 1, 2, 3, 4] rfl rfl rfl rfl) rfl rfl hl.1 rfl (lv_room (Nat.le_of_ble_eq_true rfl)) d_X_run_14 ⟨Nat.zero_le _, Nat.zero_le _⟩) ?_
      refine lv_istore_n (lv' := [(2, .int (qf_X_traps st)), (0, .ref (ad 0)), (1, .int n)]) hx hb d_X_run_17 rfl hl (by decide) rfl (fun ls hl => ?_)
      refine lv_iconst (v := 0) hx hb d_X_run_18 (by decide) ?_
      refine lv_istore_n (lv' := [(3, .int 0), (2, .int (qf_X_traps st)), (0, .ref (ad 0)), (1, .int n)]) hx hb d_X_run_19 rfl hl (by decide) rfl (fun ls hl => ?_)
      have hl := lv_sub (l' := [(0, .ref (ad 0)), (1, .int n), (2, .int (qf_X_traps st)), (3, .int 0)]) hl [2, 3, 1, 0] rfl
      have hl : lv_has ls 4 [(0, .ref (ad 0)), (1, .int n), (2, .int (qf_X_traps st)), (3, .int (nI 0))] := by rw [nI_0]; exact hl
      exact hloop h1 h2 n.toNatClampNeg 0 st ls _ _ (Nat.zero_add _) rfl hl hP hD hS
    · have h2 : ¬ (n ≤ 200) := h2
      refine lv_iconst (v := (-1)) hx hb d_X_run_11 (by decide) ?_
      have e9 : (st, (-1)) = qf_X_run st n := (by unfold qf_X_run; rw [if_neg h1, if_neg h2])
      exact W.iret hx hb hr (fun t ht hW => ⟨(by rw [← e9]), (by rw [ht, ← e9]; exact hP), hS.F ht⟩) hS.2.2 d_X_run_12
