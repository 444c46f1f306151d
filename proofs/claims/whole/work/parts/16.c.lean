set_option maxHeartbeats 4000000 in
set_option maxRecDepth 100000 in
theorem c_X_mark (l : Launch) (D : va_G) (cA : ClassId) (ad : Nat → Nat) (st : qs_X) : Met l y_X_mark (Cond.code y_X_mark b_X_mark 2 none :: qx_T) ({ frames := 0, cells := 0, slots := 0, locals := 0 }) (qx_Pc D vwCl [(cA, .int)] (qw_X ad cA st) [.ref (ad 0)]) (qx_Q D vwCl (qw_X ad cA (qf_X_mark st)) (qx_ad (qw_X ad cA st)) none) 0 0 (qx_ad (qw_X ad cA st)) := by
  refine Met.ofW (cc := b_X_mark) (maxL := 2) (ret := none) (by decide) rfl ?_
  intro p e s m args below meth c s₁ B hml hv
  obtain ⟨rfl, hP, hK, hN, hD0⟩ := hv
  have hx := B.exec
  have hb := B.bytes
  have hr := B.returns
  have hts0 := atoms_spec (ws := Cond.code y_X_mark b_X_mark 2 none :: qx_T) B.pre
  have hts := fun w h => hts0 w (List.mem_cons_of_mem _ h)
  have hown : s.vm.findClass R_X = some m.cls := findClass_of_methodNamed B.named
  have hlocks := B.notSynchronized
  have hD : va_D (qx_ad (qw_X ad cA st)) (qw_X ad cA st) := ⟨hD0.1, fun k q hk => ⟨k, q.2, hk⟩⟩
  generalize hAe : qx_ad (qw_X ad cA st) = A at hD ⊢
  have hS : va_S A s.heap s.heap [] := va_S.rf
  have hl := lv_entry ([.ref (ad 0)]) (n := 2) (Nat.le_of_ble_eq_true rfl)
  rw [lg_entry_eq]
  generalize (lg_sl ([.ref (ad 0)]) ++ List.replicate (2 - (lg_sl ([.ref (ad 0)])).length) Slot.unset).toArray = ls at hl ⊢
  have hl : lv_has ls 2 [(0, .ref (ad 0))] := hl
  have hloop : ∀ (k i : Nat) (z : Nat → Int32) (ls : Array Slot) (H : Heap) (locs : List Loc), i + k = 86 → (z = fun j => if j < i then st.1 j else st.2.1 j) → lv_has ls 2 [(0, .ref (ad 0)), (1, .int (nI i))] → va_P D vwCl (qw_X ad cA (qm_X_h st z)) H → va_D A (qw_X ad cA (qm_X_h st z)) → va_S A s.heap H locs → W p l e (headSpec (Cond.code y_X_mark b_X_mark 2 none :: qx_T) ({ frames := 0, cells := 0, slots := 0, locals := 0 })).room s m ([.ref (ad 0)] : List Value).toArray below meth c H locs 0 0 (MQ below (qx_Q D vwCl (qw_X ad cA (qf_X_mark st)) A none) ([.ref (ad 0)] : List Value).toArray s 0 0 (A)) (F0 m 2 ls []) := by
    intro k
    induction k with
    | zero =>
      intro i z ls H locs hik hz hl hP hD hS
      have hiN : i = 86 := by omega
      subst hiN
      have hge : (86 : Int32) ≤ nI 86 := by decide
      refine lv_iload_n hx hb d_X_mark_2 rfl (lv_at hl 1 rfl) ?_
      refine lv_bipush (v := 86) hx hb d_X_mark_3 (by decide) ?_
      refine lv_icmp_ge (tgt := 26) hx hb d_X_mark_5 (by decide) (fun _ => ?_) (fun h => False.elim (h hge))
      refine lv_aload_n hx hb d_X_mark_26 rfl (lv_at hl 0 rfl) ?_
      refine lv_iconst (v := 1) hx hb d_X_mark_27 (by decide) ?_
      refine va_put (D := D) (ci := 3) (v := .int 1) (ty := .boolean) (C := R_X) (T := T_X) (N := 8) hx hb hts in_X ty_X tyok_X nm_X hown hK hP hD hS 0 rfl rfl 2 (by decide) (hts (Cond.fieldLink R_X 95 "QueuedFrontsModel" "marked" "Z") mw_372) (fun _ h9 => h9) rfl (by decide +kernel) rfl rfl (Nat.le_of_ble_eq_true rfl) d_X_mark_28 (fun H locs hP hD hS => ?_)
      have hP : va_P D vwCl (qw_X ad cA (qm_X_mk (qm_X_h st z) 1)) H := hP
      have hD : va_D A (qw_X ad cA (qm_X_mk (qm_X_h st z) 1)) := hD
      have e9 : (qm_X_mk (qm_X_h st z) 1) = qf_X_mark st := (by unfold qf_X_mark; rw [hz])
      exact W.vret hx hb hr (fun t ht hW => ⟨rfl, (by rw [ht, ← e9]; exact hP), hS.F ht⟩) hS.2.2 d_X_mark_31
    | succ k ih =>
      intro i z ls H locs hik hz hl hP hD hS
      have hlt : ¬ (86 : Int32) ≤ nI i := fun h => absurd ((nI_leI (a := 86) (by decide) (by omega)).mp h) (by omega)
      refine lv_iload_n hx hb d_X_mark_2 rfl (lv_at hl 1 rfl) ?_
      refine lv_bipush (v := 86) hx hb d_X_mark_3 (by decide) ?_
      refine lv_icmp_ge (tgt := 26) hx hb d_X_mark_5 (by decide) (fun h => False.elim (hlt h)) (fun _ => ?_)
      refine lv_aload_n hx hb d_X_mark_8 rfl (lv_at hl 0 rfl) ?_
      refine va_get (D := D) (ci := 3) (v := .ref (ad 2)) (C := R_X) (T := T_X) (N := 8) hx hb hts in_X hown hK hP 0 rfl rfl 1 (by decide) (hts (Cond.fieldLink R_X 13 "QueuedFrontsModel" "then" "[I") mw_371) (fun _ h9 => h9) rfl d_X_mark_9 ?_
      refine lv_iload_n hx hb d_X_mark_12 rfl (lv_at hl 1 rfl) ?_
      refine lv_aload_n hx hb d_X_mark_13 rfl (lv_at hl 0 rfl) ?_
      refine va_get (D := D) (ci := 3) (v := .ref (ad 1)) (C := R_X) (T := T_X) (N := 8) hx hb hts in_X hown hK hP 0 rfl rfl 0 (by decide) (hts (Cond.fieldLink R_X 7 "QueuedFrontsModel" "now" "[I") mw_370) (fun _ h9 => h9) rfl d_X_mark_14 ?_
      refine lv_iload_n hx hb d_X_mark_17 rfl (lv_at hl 1 rfl) ?_
      refine va_iald hx hb hK hP 1 0 rfl rfl (show vp_in (nI i) 86 from vp_in_nI (by omega) (by decide)) d_X_mark_18 ?_
      refine va_iast hx hb hK hP hD hS 2 0 rfl rfl (show vp_in (nI i) 86 from vp_in_nI (by omega) (by decide)) d_X_mark_19 (fun H locs hP hD hS => ?_)
      have hP : va_P D vwCl (qw_X ad cA (qm_X_h st (upd z (Int32.toNatClampNeg (nI i)) (st.1 (Int32.toNatClampNeg (nI i)))))) H := hP
      have hD : va_D A (qw_X ad cA (qm_X_h st (upd z (Int32.toNatClampNeg (nI i)) (st.1 (Int32.toNatClampNeg (nI i)))))) := hD
      refine lv_iinc (v := (nI i + 1)) (lv' := [(1, .int (nI i + 1)), (0, .ref (ad 0))]) (k := 1) hx hb d_X_mark_20 hl rfl rfl (by decide) rfl (fun ls hl => ?_)
      refine lv_goto (tgt := 2) hx hb d_X_mark_23 (by decide) ?_
      rw [nI_1] at hl
      exact ih (i + 1) (upd z (Int32.toNatClampNeg (nI i)) (st.1 (Int32.toNatClampNeg (nI i)))) ls _ _ (by omega) (qf_cp hz (by omega)) (lv_sub hl [1, 0] rfl) hP hD hS
  refine lv_iconst (v := 0) hx hb d_X_mark_0 (by decide) ?_
  refine lv_istore_n (lv' := [(1, .int 0), (0, .ref (ad 0))]) hx hb d_X_mark_1 rfl hl (by decide) rfl (fun ls hl => ?_)
  have hl : lv_has ls 2 [(0, .ref (ad 0)), (1, .int (nI 0))] := by rw [nI_0]; exact lv_sub hl [1, 0] rfl
  exact hloop 86 0 st.2.1 ls _ _ rfl (funext fun j => (if_neg (Nat.not_lt_zero j)).symm) hl hP hD hS
