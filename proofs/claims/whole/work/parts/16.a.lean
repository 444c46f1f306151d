set_option maxHeartbeats 4000000 in
set_option maxRecDepth 100000 in
theorem c_Q_run (l : Launch) (D : va_G) (cA : ClassId) (ad : Nat → Nat) (st : qs_Q) (n : Int32) (hall : ∀ j : Nat, j < n.toNatClampNeg → vp_in (qf_Q_it j st).1.2.2.1.2.2.2.1.1 128 ∧ ∀ k : Nat, k < 4 → vp_in ((qf_Q_it j st).1.2.2.1.2.1 k) 4) : Met l y_Q_run (Cond.code y_Q_run b_Q_run 4 (some .int) :: qx_T) ({ frames := 6, cells := 0, slots := 0, locals := 133 }) (qx_Pc D vwCl [(cA, .int)] (qw_Q ad cA st) [.ref (ad 0), .int n]) (qx_Q D vwCl (qw_Q ad cA ((qf_Q_run st n).1)) (qx_ad (qw_Q ad cA st)) (some (.int (qf_Q_run st n).2))) 0 0 (qx_ad (qw_Q ad cA st)) := by
  refine Met.ofW (cc := b_Q_run) (maxL := 4) (ret := (some .int)) (by decide) rfl ?_
  intro p e s m args below meth c s₁ B hml hv
  obtain ⟨rfl, hP, hK, hN, hD0⟩ := hv
  have hx := B.exec
  have hb := B.bytes
  have hr := B.returns
  have hts0 := atoms_spec (ws := Cond.code y_Q_run b_Q_run 4 (some .int) :: qx_T) B.pre
  have hts := fun w h => hts0 w (List.mem_cons_of_mem _ h)
  have hown : s.vm.findClass R_Q = some m.cls := findClass_of_methodNamed B.named
  have hlocks := B.notSynchronized
  have hD : va_D (qx_ad (qw_Q ad cA st)) (qw_Q ad cA st) := ⟨hD0.1, fun k q hk => ⟨k, q.2, hk⟩⟩
  generalize hAe : qx_ad (qw_Q ad cA st) = A at hD ⊢
  have hS : va_S A s.heap s.heap [] := va_S.rf
  have hl := lv_entry ([.ref (ad 0), .int n]) (n := 4) (Nat.le_of_ble_eq_true rfl)
  rw [lg_entry_eq]
  generalize (lg_sl ([.ref (ad 0), .int n]) ++ List.replicate (4 - (lg_sl ([.ref (ad 0), .int n])).length) Slot.unset).toArray = ls at hl ⊢
  have hl : lv_has ls 4 [(0, .ref (ad 0)), (1, .int n)] := hl
  have hloop : ∀ (h0 : ¬ n < 0) (h2 : n ≤ 200) (k i : Nat) (z : qs_Q) (t : Int32) (ls : Array Slot) (H : Heap) (locs : List Loc), i + k = n.toNatClampNeg → qf_Q_it i st = (z, t) → lv_has ls 4 [(0, .ref (ad 0)), (1, .int n), (2, .int t), (3, .int (nI i))] → va_P D vwCl (qw_Q ad cA z) H → va_D A (qw_Q ad cA z) → va_S A s.heap H locs → W p l e (headSpec (Cond.code y_Q_run b_Q_run 4 (some .int) :: qx_T) ({ frames := 6, cells := 0, slots := 0, locals := 133 })).room s m ([.ref (ad 0), .int n] : List Value).toArray below meth c H locs 0 0 (MQ below (qx_Q D vwCl (qw_Q ad cA ((qf_Q_run st n).1)) A (some (.int (qf_Q_run st n).2))) ([.ref (ad 0), .int n] : List Value).toArray s 0 0 (A)) (F0 m 17 ls []) := by
    intro h0 h2 k
    obtain ⟨N, hN9, hnN⟩ := nI_of2 (M := 200) (n := 200) rfl h0 h2
    have hcl : n.toNatClampNeg = N := by rw [hnN, nI_clamp (by omega)]
    induction k with
    | zero =>
      intro i z t ls H locs hik hz hl hP hD hS
      have hiN : i = n.toNatClampNeg := by omega
      have hge : n ≤ nI i := by rw [hiN, hcl, hnN]; exact (nI_leI (by omega) (by omega)).mpr (Nat.le_refl _)
      refine lv_iload_n hx hb d_Q_run_17 rfl (lv_at hl 3 rfl) ?_
      refine lv_iload_n hx hb d_Q_run_18 rfl (lv_at hl 1 rfl) ?_
      refine lv_icmp_ge (tgt := 38) hx hb d_Q_run_19 (by decide) (fun _ => ?_) (fun h => False.elim (h hge))
      refine lv_iload_n hx hb d_Q_run_38 rfl (lv_at hl 2 rfl) ?_
      have e9 : (z, t) = qf_Q_run st n := (by unfold qf_Q_run; rw [if_neg h0, if_pos h2, ← hiN, hz])
      exact W.iret hx hb hr (fun t ht hW => ⟨(by rw [← e9]), (by rw [ht, ← e9]; exact hP), hS.F ht⟩) hS.2.2 d_Q_run_39
    | succ k ih =>
      intro i z t ls H locs hik hz hl hP hD hS
      have hlt : ¬ n ≤ nI i := by rw [hnN]; exact fun h => absurd ((nI_leI (by omega) (by omega)).mp h) (by omega)
      have hf9 := (hall i (by omega)).1
      have hs9 := (hall i (by omega)).2
      rw [hz] at hf9 hs9
      refine lv_iload_n hx hb d_Q_run_17 rfl (lv_at hl 3 rfl) ?_
      refine lv_iload_n hx hb d_Q_run_18 rfl (lv_at hl 1 rfl) ?_
      refine lv_icmp_ge (tgt := 38) hx hb d_Q_run_19 (by decide) (fun h => False.elim (hlt h)) (fun _ => ?_)
      refine lv_aload_n hx hb d_Q_run_22 rfl (lv_at hl 0 rfl) ?_
      refine qx_muZ (T := qf_Q_step z) (Wf := fun zz : qs_Q × Int32 => qw_Q ad cA zz.1) (vf := fun zz => some (.int zz.2)) (va_runV (As := []) (rest := []) ⟨hx, hb, hml, hown, hts⟩ (c_Q_step l D cA ad z hf9 hs9) (qx_kV hts mw_188 mw_190 mw_0 mw_29 mw_191 cd_Q_step ⟨Nat.le_of_ble_eq_true rfl, Nat.le_of_ble_eq_true rfl⟩) (qx_preV (q0 := 0) (ci := 0) (q := (R_Q, T_Q, 5)) hP hD hK hN [0, 1, 2, 3, 4, 5, 6, 7, 8, 9, 10, 11, 12, 13, 14] rfl rfl rfl rfl) rfl rfl hl.1 rfl (lv_room (Nat.le_of_ble_eq_true rfl)) d_Q_run_23 ⟨Nat.zero_le _, Nat.zero_le _⟩) hP hD hS [0, 1, 2, 3, 4, 5, 6, 7, 8, 9, 10, 11, 12, 13, 14] rfl rfl [ad 0, ad 1, ad 2, ad 3, ad 4, ad 5, ad 6, ad 7, ad 8, ad 9, ad 10, ad 11, ad 12, ad 13, ad 14] rfl rfl (fun zz1 hzz1 H locs hP hD hS => ?_)
      have hP : va_P D vwCl (qw_Q ad cA zz1.1) H := hP
      have hD : va_D A (qw_Q ad cA zz1.1) := hD
      refine W.eq (g2 := F0 m 26 ls [.int zz1.2]) rfl ?_
      refine lv_if_eq (tgt := 32) hx hb d_Q_run_26 (by decide) (fun h1 => ?_) (fun h1 => ?_)
      · have h1 : zz1.2 = 0 := h1
        refine lv_iinc (v := (nI i + 1)) (lv' := [(3, .int (nI i + 1)), (0, .ref (ad 0)), (1, .int n), (2, .int t)]) (k := 3) hx hb d_Q_run_32 hl rfl rfl (by decide) rfl (fun ls hl => ?_)
        refine lv_goto (tgt := 17) hx hb d_Q_run_35 (by decide) ?_
        rw [nI_1] at hl
        exact ih (i + 1) zz1.1 t ls _ _ (by omega) (by rw [qf_Q_it_s hz hzz1, if_pos h1]) (lv_sub hl [1, 2, 3, 0] rfl) hP hD hS
      · have h1 : ¬ (zz1.2 = 0) := h1
        refine lv_iinc (v := (t + 1)) (lv' := [(2, .int (t + 1)), (0, .ref (ad 0)), (1, .int n), (3, .int (nI i))]) (k := 2) hx hb d_Q_run_29 hl rfl rfl (by decide) rfl (fun ls hl => ?_)
        refine lv_iinc (v := (nI i + 1)) (lv' := [(3, .int (nI i + 1)), (2, .int (t + 1)), (0, .ref (ad 0)), (1, .int n)]) (k := 3) hx hb d_Q_run_32 hl rfl rfl (by decide) rfl (fun ls hl => ?_)
        refine lv_goto (tgt := 17) hx hb d_Q_run_35 (by decide) ?_
        rw [nI_1] at hl
        exact ih (i + 1) zz1.1 (t + 1) ls _ _ (by omega) (by rw [qf_Q_it_s hz hzz1, if_neg h1]) (lv_sub hl [2, 3, 1, 0] rfl) hP hD hS
  refine lv_iload_n hx hb d_Q_run_0 rfl (lv_at hl 1 rfl) ?_
  refine lv_if_lt (tgt := 11) hx hb d_Q_run_1 (by decide) (fun h2 => ?_) (fun h2 => ?_)
  · have h2 : n < 0 := h2
    refine lv_iconst (v := (-1)) hx hb d_Q_run_11 (by decide) ?_
    have e9 : (st, (-1)) = qf_Q_run st n := (by unfold qf_Q_run; rw [if_pos h2])
    exact W.iret hx hb hr (fun t ht hW => ⟨(by rw [← e9]), (by rw [ht, ← e9]; exact hP), hS.F ht⟩) hS.2.2 d_Q_run_12
  · have h2 : ¬ (n < 0) := h2
    refine lv_iload_n hx hb d_Q_run_4 rfl (lv_at hl 1 rfl) ?_
    refine lv_sipush (v := 200) hx hb d_Q_run_5 (by decide) ?_
    refine lv_icmp_le (tgt := 13) hx hb d_Q_run_8 (by decide) (fun h3 => ?_) (fun h3 => ?_)
    · have h3 : n ≤ 200 := h3
      refine lv_iconst (v := 0) hx hb d_Q_run_13 (by decide) ?_
      refine lv_istore_n (lv' := [(2, .int 0), (0, .ref (ad 0)), (1, .int n)]) hx hb d_Q_run_14 rfl hl (by decide) rfl (fun ls hl => ?_)
      refine lv_iconst (v := 0) hx hb d_Q_run_15 (by decide) ?_
      refine lv_istore_n (lv' := [(3, .int 0), (2, .int 0), (0, .ref (ad 0)), (1, .int n)]) hx hb d_Q_run_16 rfl hl (by decide) rfl (fun ls hl => ?_)
      have hl := lv_sub (l' := [(0, .ref (ad 0)), (1, .int n), (2, .int 0), (3, .int 0)]) hl [2, 3, 1, 0] rfl
      have hl : lv_has ls 4 [(0, .ref (ad 0)), (1, .int n), (2, .int 0), (3, .int (nI 0))] := by rw [nI_0]; exact hl
      exact hloop h2 h3 n.toNatClampNeg 0 st 0 ls _ _ (Nat.zero_add _) rfl hl hP hD hS
    · have h3 : ¬ (n ≤ 200) := h3
      refine lv_iconst (v := (-1)) hx hb d_Q_run_11 (by decide) ?_
      have e9 : (st, (-1)) = qf_Q_run st n := (by unfold qf_Q_run; rw [if_neg h2, if_neg h3])
      exact W.iret hx hb hr (fun t ht hW => ⟨(by rw [← e9]), (by rw [ht, ← e9]; exact hP), hS.F ht⟩) hS.2.2 d_Q_run_12
