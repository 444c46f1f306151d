def qf_X_reckon_j219 (st : qs_X) (w : Int32) (k : Int32) (x : Int32) (y : Int32) (z : Int32) (j219l6 : Int64) (j219l8 : Int32) (j219s0 : Int32) (j219st0 : qs_X) : qs_X × Int32 :=
  if j219s0 = 0 then (if j219s0 = 0 then ((qm_X_nu j219st0 (qf_X_holds ((qf_ush w 15) &&& 7) j219l8 (0 : Int32))), 0)
    else ((qm_X_nu j219st0 (qf_X_holds ((qf_ush w 15) &&& 7) j219l8 y)), 0))
  else if j219s0 = 0 then ((qm_X_nu j219st0 (qf_X_holds ((qf_ush w 15) &&& 7) x (0 : Int32))), 0)
  else ((qm_X_nu j219st0 (qf_X_holds ((qf_ush w 15) &&& 7) x y)), 0)
def qf_X_reckon_j185 (st : qs_X) (w : Int32) (k : Int32) (x : Int32) (y : Int32) (z : Int32) (j185l8 : Int32) (j185l6 : Int64) : qs_X × Int32 :=
  if k = 2 then qf_X_reckon_j219 st w k x y z j185l6 j185l8 (1 : Int32) (qf_X_write st ((qf_ush w 24) &&& 7) j185l8)
  else if k = 3 then qf_X_reckon_j219 st w k x y z j185l6 j185l8 (1 : Int32) (qf_X_write st ((qf_ush w 24) &&& 7) j185l8)
  else if k = 8 then qf_X_reckon_j219 st w k x y z j185l6 j185l8 (1 : Int32) (qf_X_write st ((qf_ush w 24) &&& 7) j185l8)
  else qf_X_reckon_j219 st w k x y z j185l6 j185l8 (0 : Int32) (qf_X_write st ((qf_ush w 24) &&& 7) j185l8)
def qf_X_reckon_j44 (st : qs_X) (w : Int32) (k : Int32) (x : Int32) (y : Int32) (z : Int32) (j44l6 : Int64) : qs_X × Int32 :=
  if 2 ≤ k then (if 4 ≤ k then (if k = 4 then qf_X_reckon_j185 st w k x y z (x &&& y) j44l6
      else if k = 5 then qf_X_reckon_j185 st w k x y z (x ||| y) j44l6
      else if k = 6 then qf_X_reckon_j185 st w k x y z (x ^^^ y) j44l6
      else if k = 7 then qf_X_reckon_j185 st w k x y z (x &&& (y ^^^ (-1))) j44l6
      else if k = 9 then qf_X_reckon_j185 st w k x y z (x + z) j44l6
      else if k = 10 then (if ((qf_ush w 14) &&& 1) = 1 then qf_X_reckon_j185 st w k x y z (qf_ush x (z &&& 31)) j44l6
        else qf_X_reckon_j185 st w k x y z (x <<< ((z &&& 31) &&& 31)) j44l6)
      else qf_X_reckon_j185 st w k x y z (0 : Int32) j44l6)
    else qf_X_reckon_j185 st w k x y z (x - y) j44l6)
  else qf_X_reckon_j185 st w k x y z (x + y) j44l6
def qf_X_reckon_j20 (st : qs_X) (w : Int32) (k : Int32) (x : Int32) (y : Int32) (z : Int32) (j20s0 : Int64) : qs_X × Int32 :=
  if k = 1 then (if (lg_cmp j20s0 j20s0.toInt32.toInt64) = 0 then qf_X_reckon_j44 st w k x y z j20s0
    else (st, 2))
  else if k = 3 then (if (lg_cmp j20s0 j20s0.toInt32.toInt64) = 0 then qf_X_reckon_j44 st w k x y z j20s0
    else (st, 2))
  else qf_X_reckon_j44 st w k x y z j20s0
def qf_X_reckon (st : qs_X) (w : Int32) (k : Int32) (x : Int32) (y : Int32) (z : Int32) : qs_X × Int32 :=
  if k = 1 then qf_X_reckon_j20 st w k x y z (x.toInt64 + y.toInt64)
  else qf_X_reckon_j20 st w k x y z (x.toInt64 - y.toInt64)
set_option maxHeartbeats 4000000 in
set_option maxRecDepth 100000 in
theorem c_X_reckon (l : Launch) (D : va_G) (cA : ClassId) (ad : Nat → Nat) (st : qs_X) (w : Int32) (k : Int32) (x : Int32) (y : Int32) (z : Int32) : Met l y_X_reckon (Cond.code y_X_reckon b_X_reckon 10 (some .int) :: qx_T) ({ frames := 1, cells := 0, slots := 0, locals := 26 }) (qx_Pc D vwCl [(cA, .int)] (qw_X ad cA st) [.ref (ad 0), .int w, .int k, .int x, .int y, .int z]) (qx_Q D vwCl (qw_X ad cA ((qf_X_reckon st w k x y z).1)) (qx_ad (qw_X ad cA st)) (some (.int (qf_X_reckon st w k x y z).2))) 0 0 (qx_ad (qw_X ad cA st)) := by
  refine Met.ofW (cc := b_X_reckon) (maxL := 10) (ret := (some .int)) (by decide) rfl ?_
  intro p e s m args below meth c s₁ B hml hv
  obtain ⟨rfl, hP, hK, hN, hD0⟩ := hv
  have hx := B.exec
  have hb := B.bytes
  have hr := B.returns
  have hts0 := atoms_spec (ws := Cond.code y_X_reckon b_X_reckon 10 (some .int) :: qx_T) B.pre
  have hts := fun w h => hts0 w (List.mem_cons_of_mem _ h)
  have hown : s.vm.findClass R_X = some m.cls := findClass_of_methodNamed B.named
  have hlocks := B.notSynchronized
  have hD : va_D (qx_ad (qw_X ad cA st)) (qw_X ad cA st) := ⟨hD0.1, fun k q hk => ⟨k, q.2, hk⟩⟩
  generalize hAe : qx_ad (qw_X ad cA st) = A at hD ⊢
  have hS : va_S A s.heap s.heap [] := va_S.rf
  have hl := lv_entry ([.ref (ad 0), .int w, .int k, .int x, .int y, .int z]) (n := 10) (Nat.le_of_ble_eq_true rfl)
  rw [lg_entry_eq]
  generalize (lg_sl ([.ref (ad 0), .int w, .int k, .int x, .int y, .int z]) ++ List.replicate (10 - (lg_sl ([.ref (ad 0), .int w, .int k, .int x, .int y, .int z])).length) Slot.unset).toArray = ls at hl ⊢
  have hl : lv_has ls 10 [(0, .ref (ad 0)), (1, .int w), (2, .int k), (3, .int x), (4, .int y), (5, .int z)] := hl
  have hj219 : ∀ (j219l6 : Int64) (j219l8 : Int32) (j219s0 : Int32) (j219st0 : qs_X) (ls : Array Slot) (H : Heap) (locs : List Loc), lv_has ls 10 [(0, .ref (ad 0)), (1, .int w), (2, .int k), (3, .int x), (4, .int y), (5, .int z), (6, .long j219l6), (8, .int j219l8)] → va_P D vwCl (qw_X ad cA j219st0) H → va_D A (qw_X ad cA j219st0) → va_S A s.heap H locs → qf_X_reckon_j219 st w k x y z j219l6 j219l8 j219s0 j219st0 = qf_X_reckon st w k x y z → W p l e (headSpec (Cond.code y_X_reckon b_X_reckon 10 (some .int) :: qx_T) ({ frames := 1, cells := 0, slots := 0, locals := 26 })).room s m ([.ref (ad 0), .int w, .int k, .int x, .int y, .int z] : List Value).toArray below meth c H locs 0 0 (MQ below (qx_Q D vwCl (qw_X ad cA ((qf_X_reckon st w k x y z).1)) A (some (.int (qf_X_reckon st w k x y z).2))) ([.ref (ad 0), .int w, .int k, .int x, .int y, .int z] : List Value).toArray s 0 0 (A)) (F0 m 219 ls [.int j219s0]) := by
    intro j219l6 j219l8 j219s0 j219st0 ls H locs hl hP hD hS hF219
    refine lv_istore (lv' := [(9, .int j219s0), (0, .ref (ad 0)), (1, .int w), (2, .int k), (3, .int x), (4, .int y), (5, .int z), (6, .long j219l6), (8, .int j219l8)]) hx hb d_X_reckon_219 hl (by decide) rfl (fun ls hl => ?_)
    refine lv_aload_n hx hb d_X_reckon_221 rfl (lv_at hl 1 rfl) ?_
    refine lv_iload_n hx hb d_X_reckon_222 rfl (lv_at hl 2 rfl) ?_
    refine lv_bipush (v := 15) hx hb d_X_reckon_223 (by decide) ?_
    refine lv_iushr (v := (qf_ush w 15)) hx hb d_X_reckon_225 rfl ?_
    refine lv_bipush (v := 7) hx hb d_X_reckon_226 (by decide) ?_
    refine lv_iand hx hb d_X_reckon_228 ?_
    refine lv_iload hx hb d_X_reckon_229 (lv_at hl 0 rfl) ?_
    refine lv_if_eq (tgt := 238) hx hb d_X_reckon_231 (by decide) (fun h1 => ?_) (fun h1 => ?_)
    · have h1 : j219s0 = 0 := h1
      refine lv_iload hx hb d_X_reckon_238 (lv_at hl 8 rfl) ?_
      refine lv_iload hx hb d_X_reckon_240 (lv_at hl 0 rfl) ?_
      refine lv_if_eq (tgt := 250) hx hb d_X_reckon_242 (by decide) (fun h2 => ?_) (fun h2 => ?_)
      · have h2 : j219s0 = 0 := h2
        refine lv_iconst (v := 0) hx hb d_X_reckon_250 (by decide) ?_
        refine qx_rd (va_runS (As := [.int ((qf_ush w 15) &&& 7), .int j219l8, .int 0]) (rest := [.ref (ad 0)]) ⟨hx, hb, hml, hown, hts⟩ (c_X_holds l D cA ((qf_ush w 15) &&& 7) j219l8 0) (qx_kS hts mw_460 mw_461 mw_33 mw_462 cd_X_holds ⟨Nat.le_of_ble_eq_true rfl, Nat.le_of_ble_eq_true rfl⟩) (qx_preS hP hD hK hN [] rfl rfl) rfl rfl hl.1 rfl (lv_room (Nat.le_of_ble_eq_true rfl)) d_X_reckon_251 ⟨Nat.zero_le _, Nat.zero_le _⟩) ?_
        refine va_put (D := D) (ci := 3) (v := .int (qf_X_holds ((qf_ush w 15) &&& 7) j219l8 (0 : Int32))) (ty := .boolean) (C := R_X) (T := T_X) (N := 8) hx hb hts in_X ty_X tyok_X nm_X hown hK hP hD hS 0 rfl rfl 5 (by decide) (hts (Cond.fieldLink R_X 44 "QueuedFrontsModel" "nullifies" "Z") mw_375) (fun _ h9 => h9) rfl (by decide +kernel) (qb_nar (qf_X_holds_qb _ _ _)) (qb_fit (qf_X_holds_qb _ _ _)) (Nat.le_of_ble_eq_true rfl) d_X_reckon_254 (fun H locs hP hD hS => ?_)
        have hP : va_P D vwCl (qw_X ad cA (qm_X_nu j219st0 (qf_X_holds ((qf_ush w 15) &&& 7) j219l8 (0 : Int32)))) H := hP
        have hD : va_D A (qw_X ad cA (qm_X_nu j219st0 (qf_X_holds ((qf_ush w 15) &&& 7) j219l8 (0 : Int32)))) := hD
        refine lv_iconst (v := 0) hx hb d_X_reckon_257 (by decide) ?_
        have e9 : ((qm_X_nu j219st0 (qf_X_holds ((qf_ush w 15) &&& 7) j219l8 (0 : Int32))), 0) = qf_X_reckon st w k x y z := (Eq.trans (b := qf_X_reckon_j219 st w k x y z j219l6 j219l8 j219s0 j219st0) (by unfold qf_X_reckon_j219; rw [if_pos h1, if_pos h2]) hF219)
        exact W.iret hx hb hr (fun t ht hW => ⟨(by rw [← e9]), (by rw [ht, ← e9]; exact hP), hS.F ht⟩) hS.2.2 d_X_reckon_258
      · have h2 : ¬ (j219s0 = 0) := h2
        refine lv_iload hx hb d_X_reckon_245 (lv_at hl 5 rfl) ?_
        refine lv_goto (tgt := 251) hx hb d_X_reckon_247 (by decide) ?_
        refine qx_rd (va_runS (As := [.int ((qf_ush w 15) &&& 7), .int j219l8, .int y]) (rest := [.ref (ad 0)]) ⟨hx, hb, hml, hown, hts⟩ (c_X_holds l D cA ((qf_ush w 15) &&& 7) j219l8 y) (qx_kS hts mw_460 mw_461 mw_33 mw_462 cd_X_holds ⟨Nat.le_of_ble_eq_true rfl, Nat.le_of_ble_eq_true rfl⟩) (qx_preS hP hD hK hN [] rfl rfl) rfl rfl hl.1 rfl (lv_room (Nat.le_of_ble_eq_true rfl)) d_X_reckon_251 ⟨Nat.zero_le _, Nat.zero_le _⟩) ?_
        refine va_put (D := D) (ci := 3) (v := .int (qf_X_holds ((qf_ush w 15) &&& 7) j219l8 y)) (ty := .boolean) (C := R_X) (T := T_X) (N := 8) hx hb hts in_X ty_X tyok_X nm_X hown hK hP hD hS 0 rfl rfl 5 (by decide) (hts (Cond.fieldLink R_X 44 "QueuedFrontsModel" "nullifies" "Z") mw_375) (fun _ h9 => h9) rfl (by decide +kernel) (qb_nar (qf_X_holds_qb _ _ _)) (qb_fit (qf_X_holds_qb _ _ _)) (Nat.le_of_ble_eq_true rfl) d_X_reckon_254 (fun H locs hP hD hS => ?_)
        have hP : va_P D vwCl (qw_X ad cA (qm_X_nu j219st0 (qf_X_holds ((qf_ush w 15) &&& 7) j219l8 y))) H := hP
        have hD : va_D A (qw_X ad cA (qm_X_nu j219st0 (qf_X_holds ((qf_ush w 15) &&& 7) j219l8 y))) := hD
        refine lv_iconst (v := 0) hx hb d_X_reckon_257 (by decide) ?_
        have e9 : ((qm_X_nu j219st0 (qf_X_holds ((qf_ush w 15) &&& 7) j219l8 y)), 0) = qf_X_reckon st w k x y z := (Eq.trans (b := qf_X_reckon_j219 st w k x y z j219l6 j219l8 j219s0 j219st0) (by unfold qf_X_reckon_j219; rw [if_pos h1, if_neg h2]) hF219)
        exact W.iret hx hb hr (fun t ht hW => ⟨(by rw [← e9]), (by rw [ht, ← e9]; exact hP), hS.F ht⟩) hS.2.2 d_X_reckon_258
    · have h1 : ¬ (j219s0 = 0) := h1
      refine lv_iload_n hx hb d_X_reckon_234 rfl (lv_at hl 4 rfl) ?_
      refine lv_goto (tgt := 240) hx hb d_X_reckon_235 (by decide) ?_
      refine lv_iload hx hb d_X_reckon_240 (lv_at hl 0 rfl) ?_
      refine lv_if_eq (tgt := 250) hx hb d_X_reckon_242 (by decide) (fun h3 => ?_) (fun h3 => ?_)
      · have h3 : j219s0 = 0 := h3
        refine lv_iconst (v := 0) hx hb d_X_reckon_250 (by decide) ?_
        refine qx_rd (va_runS (As := [.int ((qf_ush w 15) &&& 7), .int x, .int 0]) (rest := [.ref (ad 0)]) ⟨hx, hb, hml, hown, hts⟩ (c_X_holds l D cA ((qf_ush w 15) &&& 7) x 0) (qx_kS hts mw_460 mw_461 mw_33 mw_462 cd_X_holds ⟨Nat.le_of_ble_eq_true rfl, Nat.le_of_ble_eq_true rfl⟩) (qx_preS hP hD hK hN [] rfl rfl) rfl rfl hl.1 rfl (lv_room (Nat.le_of_ble_eq_true rfl)) d_X_reckon_251 ⟨Nat.zero_le _, Nat.zero_le _⟩) ?_
        refine va_put (D := D) (ci := 3) (v := .int (qf_X_holds ((qf_ush w 15) &&& 7) x (0 : Int32))) (ty := .boolean) (C := R_X) (T := T_X) (N := 8) hx hb hts in_X ty_X tyok_X nm_X hown hK hP hD hS 0 rfl rfl 5 (by decide) (hts (Cond.fieldLink R_X 44 "QueuedFrontsModel" "nullifies" "Z") mw_375) (fun _ h9 => h9) rfl (by decide +kernel) (qb_nar (qf_X_holds_qb _ _ _)) (qb_fit (qf_X_holds_qb _ _ _)) (Nat.le_of_ble_eq_true rfl) d_X_reckon_254 (fun H locs hP hD hS => ?_)
        have hP : va_P D vwCl (qw_X ad cA (qm_X_nu j219st0 (qf_X_holds ((qf_ush w 15) &&& 7) x (0 : Int32)))) H := hP
        have hD : va_D A (qw_X ad cA (qm_X_nu j219st0 (qf_X_holds ((qf_ush w 15) &&& 7) x (0 : Int32)))) := hD
        refine lv_iconst (v := 0) hx hb d_X_reckon_257 (by decide) ?_
        have e9 : ((qm_X_nu j219st0 (qf_X_holds ((qf_ush w 15) &&& 7) x (0 : Int32))), 0) = qf_X_reckon st w k x y z := (Eq.trans (b := qf_X_reckon_j219 st w k x y z j219l6 j219l8 j219s0 j219st0) (by unfold qf_X_reckon_j219; rw [if_neg h1, if_pos h3]) hF219)
        exact W.iret hx hb hr (fun t ht hW => ⟨(by rw [← e9]), (by rw [ht, ← e9]; exact hP), hS.F ht⟩) hS.2.2 d_X_reckon_258
      · have h3 : ¬ (j219s0 = 0) := h3
        refine lv_iload hx hb d_X_reckon_245 (lv_at hl 5 rfl) ?_
        refine lv_goto (tgt := 251) hx hb d_X_reckon_247 (by decide) ?_
        refine qx_rd (va_runS (As := [.int ((qf_ush w 15) &&& 7), .int x, .int y]) (rest := [.ref (ad 0)]) ⟨hx, hb, hml, hown, hts⟩ (c_X_holds l D cA ((qf_ush w 15) &&& 7) x y) (qx_kS hts mw_460 mw_461 mw_33 mw_462 cd_X_holds ⟨Nat.le_of_ble_eq_true rfl, Nat.le_of_ble_eq_true rfl⟩) (qx_preS hP hD hK hN [] rfl rfl) rfl rfl hl.1 rfl (lv_room (Nat.le_of_ble_eq_true rfl)) d_X_reckon_251 ⟨Nat.zero_le _, Nat.zero_le _⟩) ?_
        refine va_put (D := D) (ci := 3) (v := .int (qf_X_holds ((qf_ush w 15) &&& 7) x y)) (ty := .boolean) (C := R_X) (T := T_X) (N := 8) hx hb hts in_X ty_X tyok_X nm_X hown hK hP hD hS 0 rfl rfl 5 (by decide) (hts (Cond.fieldLink R_X 44 "QueuedFrontsModel" "nullifies" "Z") mw_375) (fun _ h9 => h9) rfl (by decide +kernel) (qb_nar (qf_X_holds_qb _ _ _)) (qb_fit (qf_X_holds_qb _ _ _)) (Nat.le_of_ble_eq_true rfl) d_X_reckon_254 (fun H locs hP hD hS => ?_)
        have hP : va_P D vwCl (qw_X ad cA (qm_X_nu j219st0 (qf_X_holds ((qf_ush w 15) &&& 7) x y))) H := hP
        have hD : va_D A (qw_X ad cA (qm_X_nu j219st0 (qf_X_holds ((qf_ush w 15) &&& 7) x y))) := hD
        refine lv_iconst (v := 0) hx hb d_X_reckon_257 (by decide) ?_
        have e9 : ((qm_X_nu j219st0 (qf_X_holds ((qf_ush w 15) &&& 7) x y)), 0) = qf_X_reckon st w k x y z := (Eq.trans (b := qf_X_reckon_j219 st w k x y z j219l6 j219l8 j219s0 j219st0) (by unfold qf_X_reckon_j219; rw [if_neg h1, if_neg h3]) hF219)
        exact W.iret hx hb hr (fun t ht hW => ⟨(by rw [← e9]), (by rw [ht, ← e9]; exact hP), hS.F ht⟩) hS.2.2 d_X_reckon_258
  have hj185 : ∀ (j185l8 : Int32) (j185l6 : Int64) (ls : Array Slot) (H : Heap) (locs : List Loc), lv_has ls 10 [(0, .ref (ad 0)), (1, .int w), (2, .int k), (3, .int x), (4, .int y), (5, .int z), (6, .long j185l6), (8, .int j185l8)] → va_P D vwCl (qw_X ad cA st) H → va_D A (qw_X ad cA st) → va_S A s.heap H locs → qf_X_reckon_j185 st w k x y z j185l8 j185l6 = qf_X_reckon st w k x y z → W p l e (headSpec (Cond.code y_X_reckon b_X_reckon 10 (some .int) :: qx_T) ({ frames := 1, cells := 0, slots := 0, locals := 26 })).room s m ([.ref (ad 0), .int w, .int k, .int x, .int y, .int z] : List Value).toArray below meth c H locs 0 0 (MQ below (qx_Q D vwCl (qw_X ad cA ((qf_X_reckon st w k x y z).1)) A (some (.int (qf_X_reckon st w k x y z).2))) ([.ref (ad 0), .int w, .int k, .int x, .int y, .int z] : List Value).toArray s 0 0 (A)) (F0 m 185 ls []) := by
    intro j185l8 j185l6 ls H locs hl hP hD hS hF185
    refine lv_aload_n hx hb d_X_reckon_185 rfl (lv_at hl 0 rfl) ?_
    refine lv_iload_n hx hb d_X_reckon_186 rfl (lv_at hl 1 rfl) ?_
    refine lv_bipush (v := 24) hx hb d_X_reckon_187 (by decide) ?_
    refine lv_iushr (v := (qf_ush w 24)) hx hb d_X_reckon_189 rfl ?_
    refine lv_bipush (v := 7) hx hb d_X_reckon_190 (by decide) ?_
    refine lv_iand hx hb d_X_reckon_192 ?_
    refine lv_iload hx hb d_X_reckon_193 (lv_at hl 7 rfl) ?_
    refine qx_muZ (T := qf_X_write st ((qf_ush w 24) &&& 7) j185l8) (Wf := fun zz : qs_X => qw_X ad cA zz) (vf := fun _ => none) (va_runV (As := [.int ((qf_ush w 24) &&& 7), .int j185l8]) (rest := []) ⟨hx, hb, hml, hown, hts⟩ (c_X_write l D cA ad st ((qf_ush w 24) &&& 7) j185l8 (qi_and7 _)) (qx_kV hts mw_456 mw_458 mw_21 mw_33 mw_459 cd_X_write ⟨Nat.le_of_ble_eq_true rfl, Nat.le_of_ble_eq_true rfl⟩) (qx_preV (q0 := 0) (ci := 3) (q := (R_X, T_X, 8)) hP hD hK hN [0, 1, 2, 3, 4] rfl rfl rfl rfl) rfl rfl hl.1 rfl (lv_room (Nat.le_of_ble_eq_true rfl)) d_X_reckon_195 ⟨Nat.zero_le _, Nat.zero_le _⟩) hP hD hS [0, 1, 2, 3, 4] rfl rfl [ad 0, ad 1, ad 2, ad 3, ad 4] rfl rfl (fun zz1 hzz1 H locs hP hD hS => ?_)
    have hP : va_P D vwCl (qw_X ad cA zz1) H := hP
    have hD : va_D A (qw_X ad cA zz1) := hD
    refine W.eq (g2 := F0 m 198 ls []) rfl ?_
    refine lv_iload_n hx hb d_X_reckon_198 rfl (lv_at hl 2 rfl) ?_
    refine lv_iconst (v := 2) hx hb d_X_reckon_199 (by decide) ?_
    refine lv_icmp_eq (tgt := 214) hx hb d_X_reckon_200 (by decide) (fun h4 => ?_) (fun h4 => ?_)
    · have h4 : k = 2 := h4
      refine lv_iconst (v := 1) hx hb d_X_reckon_214 (by decide) ?_
      refine lv_goto (tgt := 219) hx hb d_X_reckon_215 (by decide) ?_
      subst hzz1
      exact hj219 j185l6 j185l8 (1 : Int32) (qf_X_write st ((qf_ush w 24) &&& 7) j185l8) ls _ _ (lv_sub hl [0, 1, 2, 3, 4, 5, 6, 7] rfl) hP hD hS (show qf_X_reckon_j219 st w k x y z j185l6 j185l8 (1 : Int32) (qf_X_write st ((qf_ush w 24) &&& 7) j185l8) = qf_X_reckon st w k x y z from (Eq.trans (b := qf_X_reckon_j185 st w k x y z j185l8 j185l6) (by unfold qf_X_reckon_j185; rw [if_pos h4]) hF185))
    · have h4 : ¬ (k = 2) := h4
      refine lv_iload_n hx hb d_X_reckon_203 rfl (lv_at hl 2 rfl) ?_
      refine lv_iconst (v := 3) hx hb d_X_reckon_204 (by decide) ?_
      refine lv_icmp_eq (tgt := 214) hx hb d_X_reckon_205 (by decide) (fun h5 => ?_) (fun h5 => ?_)
      · have h5 : k = 3 := h5
        refine lv_iconst (v := 1) hx hb d_X_reckon_214 (by decide) ?_
        refine lv_goto (tgt := 219) hx hb d_X_reckon_215 (by decide) ?_
        subst hzz1
        exact hj219 j185l6 j185l8 (1 : Int32) (qf_X_write st ((qf_ush w 24) &&& 7) j185l8) ls _ _ (lv_sub hl [0, 1, 2, 3, 4, 5, 6, 7] rfl) hP hD hS (show qf_X_reckon_j219 st w k x y z j185l6 j185l8 (1 : Int32) (qf_X_write st ((qf_ush w 24) &&& 7) j185l8) = qf_X_reckon st w k x y z from (Eq.trans (b := qf_X_reckon_j185 st w k x y z j185l8 j185l6) (by unfold qf_X_reckon_j185; rw [if_neg h4, if_pos h5]) hF185))
      · have h5 : ¬ (k = 3) := h5
        refine lv_iload_n hx hb d_X_reckon_208 rfl (lv_at hl 2 rfl) ?_
        refine lv_bipush (v := 8) hx hb d_X_reckon_209 (by decide) ?_
        refine lv_icmp_ne (tgt := 218) hx hb d_X_reckon_211 (by decide) (fun h6 => ?_) (fun h6 => ?_)
        · have h6 : ¬ (k = 8) := h6
          refine lv_iconst (v := 0) hx hb d_X_reckon_218 (by decide) ?_
          subst hzz1
          exact hj219 j185l6 j185l8 (0 : Int32) (qf_X_write st ((qf_ush w 24) &&& 7) j185l8) ls _ _ (lv_sub hl [0, 1, 2, 3, 4, 5, 6, 7] rfl) hP hD hS (show qf_X_reckon_j219 st w k x y z j185l6 j185l8 (0 : Int32) (qf_X_write st ((qf_ush w 24) &&& 7) j185l8) = qf_X_reckon st w k x y z from (Eq.trans (b := qf_X_reckon_j185 st w k x y z j185l8 j185l6) (by unfold qf_X_reckon_j185; rw [if_neg h4, if_neg h5, if_neg h6]) hF185))
        · have h6 : k = 8 := h6
          refine lv_iconst (v := 1) hx hb d_X_reckon_214 (by decide) ?_
          refine lv_goto (tgt := 219) hx hb d_X_reckon_215 (by decide) ?_
          subst hzz1
          exact hj219 j185l6 j185l8 (1 : Int32) (qf_X_write st ((qf_ush w 24) &&& 7) j185l8) ls _ _ (lv_sub hl [0, 1, 2, 3, 4, 5, 6, 7] rfl) hP hD hS (show qf_X_reckon_j219 st w k x y z j185l6 j185l8 (1 : Int32) (qf_X_write st ((qf_ush w 24) &&& 7) j185l8) = qf_X_reckon st w k x y z from (Eq.trans (b := qf_X_reckon_j185 st w k x y z j185l8 j185l6) (by unfold qf_X_reckon_j185; rw [if_neg h4, if_neg h5, if_pos h6]) hF185))
  have hj44 : ∀ (j44l6 : Int64) (ls : Array Slot) (H : Heap) (locs : List Loc), lv_has ls 10 [(0, .ref (ad 0)), (1, .int w), (2, .int k), (3, .int x), (4, .int y), (5, .int z), (6, .long j44l6)] → va_P D vwCl (qw_X ad cA st) H → va_D A (qw_X ad cA st) → va_S A s.heap H locs → qf_X_reckon_j44 st w k x y z j44l6 = qf_X_reckon st w k x y z → W p l e (headSpec (Cond.code y_X_reckon b_X_reckon 10 (some .int) :: qx_T) ({ frames := 1, cells := 0, slots := 0, locals := 26 })).room s m ([.ref (ad 0), .int w, .int k, .int x, .int y, .int z] : List Value).toArray below meth c H locs 0 0 (MQ below (qx_Q D vwCl (qw_X ad cA ((qf_X_reckon st w k x y z).1)) A (some (.int (qf_X_reckon st w k x y z).2))) ([.ref (ad 0), .int w, .int k, .int x, .int y, .int z] : List Value).toArray s 0 0 (A)) (F0 m 44 ls []) := by
    intro j44l6 ls H locs hl hP hD hS hF44
    refine lv_iconst (v := 0) hx hb d_X_reckon_44 (by decide) ?_
    refine lv_istore (lv' := [(8, .int 0), (0, .ref (ad 0)), (1, .int w), (2, .int k), (3, .int x), (4, .int y), (5, .int z), (6, .long j44l6)]) hx hb d_X_reckon_45 hl (by decide) rfl (fun ls hl => ?_)
    refine lv_iload_n hx hb d_X_reckon_47 rfl (lv_at hl 3 rfl) ?_
    refine lv_iconst (v := 2) hx hb d_X_reckon_48 (by decide) ?_
    refine lv_icmp_ge (tgt := 61) hx hb d_X_reckon_49 (by decide) (fun h7 => ?_) (fun h7 => ?_)
    · have h7 : 2 ≤ k := h7
      refine lv_iload_n hx hb d_X_reckon_61 rfl (lv_at hl 3 rfl) ?_
      refine lv_iconst (v := 4) hx hb d_X_reckon_62 (by decide) ?_
      refine lv_icmp_ge (tgt := 75) hx hb d_X_reckon_63 (by decide) (fun h8 => ?_) (fun h8 => ?_)
      · have h8 : 4 ≤ k := h8
        refine lv_iload_n hx hb d_X_reckon_75 rfl (lv_at hl 3 rfl) ?_
        refine lv_iconst (v := 4) hx hb d_X_reckon_76 (by decide) ?_
        refine lv_icmp_ne (tgt := 89) hx hb d_X_reckon_77 (by decide) (fun h9 => ?_) (fun h9 => ?_)
        · have h9 : ¬ (k = 4) := h9
          refine lv_iload_n hx hb d_X_reckon_89 rfl (lv_at hl 3 rfl) ?_
          refine lv_iconst (v := 5) hx hb d_X_reckon_90 (by decide) ?_
          refine lv_icmp_ne (tgt := 103) hx hb d_X_reckon_91 (by decide) (fun h10 => ?_) (fun h10 => ?_)
          · have h10 : ¬ (k = 5) := h10
            refine lv_iload_n hx hb d_X_reckon_103 rfl (lv_at hl 3 rfl) ?_
            refine lv_bipush (v := 6) hx hb d_X_reckon_104 (by decide) ?_
            refine lv_icmp_ne (tgt := 118) hx hb d_X_reckon_106 (by decide) (fun h11 => ?_) (fun h11 => ?_)
            · have h11 : ¬ (k = 6) := h11
              refine lv_iload_n hx hb d_X_reckon_118 rfl (lv_at hl 3 rfl) ?_
              refine lv_bipush (v := 7) hx hb d_X_reckon_119 (by decide) ?_
              refine lv_icmp_ne (tgt := 135) hx hb d_X_reckon_121 (by decide) (fun h12 => ?_) (fun h12 => ?_)
              · have h12 : ¬ (k = 7) := h12
                refine lv_iload_n hx hb d_X_reckon_135 rfl (lv_at hl 3 rfl) ?_
                refine lv_bipush (v := 9) hx hb d_X_reckon_136 (by decide) ?_
                refine lv_icmp_ne (tgt := 150) hx hb d_X_reckon_138 (by decide) (fun h13 => ?_) (fun h13 => ?_)
                · have h13 : ¬ (k = 9) := h13
                  refine lv_iload_n hx hb d_X_reckon_150 rfl (lv_at hl 3 rfl) ?_
                  refine lv_bipush (v := 10) hx hb d_X_reckon_151 (by decide) ?_
                  refine lv_icmp_ne (tgt := 185) hx hb d_X_reckon_153 (by decide) (fun h14 => ?_) (fun h14 => ?_)
                  · have h14 : ¬ (k = 10) := h14
                    exact hj185 (0 : Int32) j44l6 ls _ _ (lv_sub hl [1, 2, 3, 4, 5, 6, 7, 0] rfl) hP hD hS (show qf_X_reckon_j185 st w k x y z (0 : Int32) j44l6 = qf_X_reckon st w k x y z from (Eq.trans (b := qf_X_reckon_j44 st w k x y z j44l6) (by unfold qf_X_reckon_j44; rw [if_pos h7, if_pos h8, if_neg h9, if_neg h10, if_neg h11, if_neg h12, if_neg h13, if_neg h14]) hF44))
                  · have h14 : k = 10 := h14
                    refine lv_iload_n hx hb d_X_reckon_156 rfl (lv_at hl 2 rfl) ?_
                    refine lv_bipush (v := 14) hx hb d_X_reckon_157 (by decide) ?_
                    refine lv_iushr (v := (qf_ush w 14)) hx hb d_X_reckon_159 rfl ?_
                    refine lv_iconst (v := 1) hx hb d_X_reckon_160 (by decide) ?_
                    refine lv_iand hx hb d_X_reckon_161 ?_
                    refine lv_iconst (v := 1) hx hb d_X_reckon_162 (by decide) ?_
                    refine lv_icmp_ne (tgt := 176) hx hb d_X_reckon_163 (by decide) (fun h15 => ?_) (fun h15 => ?_)
                    · have h15 : ¬ (((qf_ush w 14) &&& 1) = 1) := h15
                      refine lv_iload_n hx hb d_X_reckon_176 rfl (lv_at hl 4 rfl) ?_
                      refine lv_iload hx hb d_X_reckon_177 (lv_at hl 6 rfl) ?_
                      refine lv_bipush (v := 31) hx hb d_X_reckon_179 (by decide) ?_
                      refine lv_iand hx hb d_X_reckon_181 ?_
                      refine lv_ishl hx hb d_X_reckon_182 ?_
                      refine lv_istore (lv' := [(8, .int (x <<< ((z &&& 31) &&& 31))), (0, .ref (ad 0)), (1, .int w), (2, .int k), (3, .int x), (4, .int y), (5, .int z), (6, .long j44l6)]) hx hb d_X_reckon_183 hl (by decide) rfl (fun ls hl => ?_)
                      exact hj185 (x <<< ((z &&& 31) &&& 31)) j44l6 ls _ _ (lv_sub hl [1, 2, 3, 4, 5, 6, 7, 0] rfl) hP hD hS (show qf_X_reckon_j185 st w k x y z (x <<< ((z &&& 31) &&& 31)) j44l6 = qf_X_reckon st w k x y z from (Eq.trans (b := qf_X_reckon_j44 st w k x y z j44l6) (by unfold qf_X_reckon_j44; rw [if_pos h7, if_pos h8, if_neg h9, if_neg h10, if_neg h11, if_neg h12, if_neg h13, if_pos h14, if_neg h15]) hF44))
                    · have h15 : ((qf_ush w 14) &&& 1) = 1 := h15
                      refine lv_iload_n hx hb d_X_reckon_166 rfl (lv_at hl 4 rfl) ?_
                      refine lv_iload hx hb d_X_reckon_167 (lv_at hl 6 rfl) ?_
                      refine lv_bipush (v := 31) hx hb d_X_reckon_169 (by decide) ?_
                      refine lv_iand hx hb d_X_reckon_171 ?_
                      refine lv_iushr (v := (qf_ush x (z &&& 31))) hx hb d_X_reckon_172 rfl ?_
                      refine lv_goto (tgt := 183) hx hb d_X_reckon_173 (by decide) ?_
                      refine lv_istore (lv' := [(8, .int (qf_ush x (z &&& 31))), (0, .ref (ad 0)), (1, .int w), (2, .int k), (3, .int x), (4, .int y), (5, .int z), (6, .long j44l6)]) hx hb d_X_reckon_183 hl (by decide) rfl (fun ls hl => ?_)
                      exact hj185 (qf_ush x (z &&& 31)) j44l6 ls _ _ (lv_sub hl [1, 2, 3, 4, 5, 6, 7, 0] rfl) hP hD hS (show qf_X_reckon_j185 st w k x y z (qf_ush x (z &&& 31)) j44l6 = qf_X_reckon st w k x y z from (Eq.trans (b := qf_X_reckon_j44 st w k x y z j44l6) (by unfold qf_X_reckon_j44; rw [if_pos h7, if_pos h8, if_neg h9, if_neg h10, if_neg h11, if_neg h12, if_neg h13, if_pos h14, if_pos h15]) hF44))
                · have h13 : k = 9 := h13
                  refine lv_iload_n hx hb d_X_reckon_141 rfl (lv_at hl 4 rfl) ?_
                  refine lv_iload hx hb d_X_reckon_142 (lv_at hl 6 rfl) ?_
                  refine lv_iadd hx hb d_X_reckon_144 ?_
                  refine lv_istore (lv' := [(8, .int (x + z)), (0, .ref (ad 0)), (1, .int w), (2, .int k), (3, .int x), (4, .int y), (5, .int z), (6, .long j44l6)]) hx hb d_X_reckon_145 hl (by decide) rfl (fun ls hl => ?_)
                  refine lv_goto (tgt := 185) hx hb d_X_reckon_147 (by decide) ?_
                  exact hj185 (x + z) j44l6 ls _ _ (lv_sub hl [1, 2, 3, 4, 5, 6, 7, 0] rfl) hP hD hS (show qf_X_reckon_j185 st w k x y z (x + z) j44l6 = qf_X_reckon st w k x y z from (Eq.trans (b := qf_X_reckon_j44 st w k x y z j44l6) (by unfold qf_X_reckon_j44; rw [if_pos h7, if_pos h8, if_neg h9, if_neg h10, if_neg h11, if_neg h12, if_pos h13]) hF44))
              · have h12 : k = 7 := h12
                refine lv_iload_n hx hb d_X_reckon_124 rfl (lv_at hl 4 rfl) ?_
                refine lv_iload hx hb d_X_reckon_125 (lv_at hl 5 rfl) ?_
                refine lv_iconst (v := (-1)) hx hb d_X_reckon_127 (by decide) ?_
                refine lv_ixor hx hb d_X_reckon_128 ?_
                refine lv_iand hx hb d_X_reckon_129 ?_
                refine lv_istore (lv' := [(8, .int (x &&& (y ^^^ (-1)))), (0, .ref (ad 0)), (1, .int w), (2, .int k), (3, .int x), (4, .int y), (5, .int z), (6, .long j44l6)]) hx hb d_X_reckon_130 hl (by decide) rfl (fun ls hl => ?_)
                refine lv_goto (tgt := 185) hx hb d_X_reckon_132 (by decide) ?_
                exact hj185 (x &&& (y ^^^ (-1))) j44l6 ls _ _ (lv_sub hl [1, 2, 3, 4, 5, 6, 7, 0] rfl) hP hD hS (show qf_X_reckon_j185 st w k x y z (x &&& (y ^^^ (-1))) j44l6 = qf_X_reckon st w k x y z from (Eq.trans (b := qf_X_reckon_j44 st w k x y z j44l6) (by unfold qf_X_reckon_j44; rw [if_pos h7, if_pos h8, if_neg h9, if_neg h10, if_neg h11, if_pos h12]) hF44))
            · have h11 : k = 6 := h11
              refine lv_iload_n hx hb d_X_reckon_109 rfl (lv_at hl 4 rfl) ?_
              refine lv_iload hx hb d_X_reckon_110 (lv_at hl 5 rfl) ?_
              refine lv_ixor hx hb d_X_reckon_112 ?_
              refine lv_istore (lv' := [(8, .int (x ^^^ y)), (0, .ref (ad 0)), (1, .int w), (2, .int k), (3, .int x), (4, .int y), (5, .int z), (6, .long j44l6)]) hx hb d_X_reckon_113 hl (by decide) rfl (fun ls hl => ?_)
              refine lv_goto (tgt := 185) hx hb d_X_reckon_115 (by decide) ?_
              exact hj185 (x ^^^ y) j44l6 ls _ _ (lv_sub hl [1, 2, 3, 4, 5, 6, 7, 0] rfl) hP hD hS (show qf_X_reckon_j185 st w k x y z (x ^^^ y) j44l6 = qf_X_reckon st w k x y z from (Eq.trans (b := qf_X_reckon_j44 st w k x y z j44l6) (by unfold qf_X_reckon_j44; rw [if_pos h7, if_pos h8, if_neg h9, if_neg h10, if_pos h11]) hF44))
          · have h10 : k = 5 := h10
            refine lv_iload_n hx hb d_X_reckon_94 rfl (lv_at hl 4 rfl) ?_
            refine lv_iload hx hb d_X_reckon_95 (lv_at hl 5 rfl) ?_
            refine lv_ior hx hb d_X_reckon_97 ?_
            refine lv_istore (lv' := [(8, .int (x ||| y)), (0, .ref (ad 0)), (1, .int w), (2, .int k), (3, .int x), (4, .int y), (5, .int z), (6, .long j44l6)]) hx hb d_X_reckon_98 hl (by decide) rfl (fun ls hl => ?_)
            refine lv_goto (tgt := 185) hx hb d_X_reckon_100 (by decide) ?_
            exact hj185 (x ||| y) j44l6 ls _ _ (lv_sub hl [1, 2, 3, 4, 5, 6, 7, 0] rfl) hP hD hS (show qf_X_reckon_j185 st w k x y z (x ||| y) j44l6 = qf_X_reckon st w k x y z from (Eq.trans (b := qf_X_reckon_j44 st w k x y z j44l6) (by unfold qf_X_reckon_j44; rw [if_pos h7, if_pos h8, if_neg h9, if_pos h10]) hF44))
        · have h9 : k = 4 := h9
          refine lv_iload_n hx hb d_X_reckon_80 rfl (lv_at hl 4 rfl) ?_
          refine lv_iload hx hb d_X_reckon_81 (lv_at hl 5 rfl) ?_
          refine lv_iand hx hb d_X_reckon_83 ?_
          refine lv_istore (lv' := [(8, .int (x &&& y)), (0, .ref (ad 0)), (1, .int w), (2, .int k), (3, .int x), (4, .int y), (5, .int z), (6, .long j44l6)]) hx hb d_X_reckon_84 hl (by decide) rfl (fun ls hl => ?_)
          refine lv_goto (tgt := 185) hx hb d_X_reckon_86 (by decide) ?_
          exact hj185 (x &&& y) j44l6 ls _ _ (lv_sub hl [1, 2, 3, 4, 5, 6, 7, 0] rfl) hP hD hS (show qf_X_reckon_j185 st w k x y z (x &&& y) j44l6 = qf_X_reckon st w k x y z from (Eq.trans (b := qf_X_reckon_j44 st w k x y z j44l6) (by unfold qf_X_reckon_j44; rw [if_pos h7, if_pos h8, if_pos h9]) hF44))
      · have h8 : ¬ (4 ≤ k) := h8
        refine lv_iload_n hx hb d_X_reckon_66 rfl (lv_at hl 4 rfl) ?_
        refine lv_iload hx hb d_X_reckon_67 (lv_at hl 5 rfl) ?_
        refine lv_isub hx hb d_X_reckon_69 ?_
        refine lv_istore (lv' := [(8, .int (x - y)), (0, .ref (ad 0)), (1, .int w), (2, .int k), (3, .int x), (4, .int y), (5, .int z), (6, .long j44l6)]) hx hb d_X_reckon_70 hl (by decide) rfl (fun ls hl => ?_)
        refine lv_goto (tgt := 185) hx hb d_X_reckon_72 (by decide) ?_
        exact hj185 (x - y) j44l6 ls _ _ (lv_sub hl [1, 2, 3, 4, 5, 6, 7, 0] rfl) hP hD hS (show qf_X_reckon_j185 st w k x y z (x - y) j44l6 = qf_X_reckon st w k x y z from (Eq.trans (b := qf_X_reckon_j44 st w k x y z j44l6) (by unfold qf_X_reckon_j44; rw [if_pos h7, if_neg h8]) hF44))
    · have h7 : ¬ (2 ≤ k) := h7
      refine lv_iload_n hx hb d_X_reckon_52 rfl (lv_at hl 4 rfl) ?_
      refine lv_iload hx hb d_X_reckon_53 (lv_at hl 5 rfl) ?_
      refine lv_iadd hx hb d_X_reckon_55 ?_
      refine lv_istore (lv' := [(8, .int (x + y)), (0, .ref (ad 0)), (1, .int w), (2, .int k), (3, .int x), (4, .int y), (5, .int z), (6, .long j44l6)]) hx hb d_X_reckon_56 hl (by decide) rfl (fun ls hl => ?_)
      refine lv_goto (tgt := 185) hx hb d_X_reckon_58 (by decide) ?_
      exact hj185 (x + y) j44l6 ls _ _ (lv_sub hl [1, 2, 3, 4, 5, 6, 7, 0] rfl) hP hD hS (show qf_X_reckon_j185 st w k x y z (x + y) j44l6 = qf_X_reckon st w k x y z from (Eq.trans (b := qf_X_reckon_j44 st w k x y z j44l6) (by unfold qf_X_reckon_j44; rw [if_neg h7]) hF44))
  have hj20 : ∀ (j20s0 : Int64) (ls : Array Slot) (H : Heap) (locs : List Loc), lv_has ls 10 [(0, .ref (ad 0)), (1, .int w), (2, .int k), (3, .int x), (4, .int y), (5, .int z)] → va_P D vwCl (qw_X ad cA st) H → va_D A (qw_X ad cA st) → va_S A s.heap H locs → qf_X_reckon_j20 st w k x y z j20s0 = qf_X_reckon st w k x y z → W p l e (headSpec (Cond.code y_X_reckon b_X_reckon 10 (some .int) :: qx_T) ({ frames := 1, cells := 0, slots := 0, locals := 26 })).room s m ([.ref (ad 0), .int w, .int k, .int x, .int y, .int z] : List Value).toArray below meth c H locs 0 0 (MQ below (qx_Q D vwCl (qw_X ad cA ((qf_X_reckon st w k x y z).1)) A (some (.int (qf_X_reckon st w k x y z).2))) ([.ref (ad 0), .int w, .int k, .int x, .int y, .int z] : List Value).toArray s 0 0 (A)) (F0 m 20 ls [.long j20s0]) := by
    intro j20s0 ls H locs hl hP hD hS hF20
    refine lv_lstore (lv' := [(6, .long j20s0), (0, .ref (ad 0)), (1, .int w), (2, .int k), (3, .int x), (4, .int y), (5, .int z)]) hx hb d_X_reckon_20 hl (by decide) rfl (fun ls hl => ?_)
    refine lv_iload_n hx hb d_X_reckon_22 rfl (lv_at hl 3 rfl) ?_
    refine lv_iconst (v := 1) hx hb d_X_reckon_23 (by decide) ?_
    refine lv_icmp_eq (tgt := 32) hx hb d_X_reckon_24 (by decide) (fun h16 => ?_) (fun h16 => ?_)
    · have h16 : k = 1 := h16
      refine lv_lload hx hb d_X_reckon_32 (lv_at hl 0 rfl) ?_
      refine lv_lload hx hb d_X_reckon_34 (lv_at hl 0 rfl) ?_
      refine lv_l2i (v := j20s0.toInt32) hx hb d_X_reckon_36 rfl ?_
      refine lv_i2l (v := j20s0.toInt32.toInt64) hx hb d_X_reckon_37 rfl ?_
      refine W.lcmp hx hb d_X_reckon_38 ?_
      refine lv_if_eq (tgt := 44) hx hb d_X_reckon_39 (by decide) (fun h17 => ?_) (fun h17 => ?_)
      · have h17 : (lg_cmp j20s0 j20s0.toInt32.toInt64) = 0 := h17
        exact hj44 j20s0 ls _ _ (lv_sub hl [1, 2, 3, 4, 5, 6, 0] rfl) hP hD hS (show qf_X_reckon_j44 st w k x y z j20s0 = qf_X_reckon st w k x y z from (Eq.trans (b := qf_X_reckon_j20 st w k x y z j20s0) (by unfold qf_X_reckon_j20; rw [if_pos h16, if_pos h17]) hF20))
      · have h17 : ¬ ((lg_cmp j20s0 j20s0.toInt32.toInt64) = 0) := h17
        refine lv_iconst (v := 2) hx hb d_X_reckon_42 (by decide) ?_
        have e9 : (st, 2) = qf_X_reckon st w k x y z := (Eq.trans (b := qf_X_reckon_j20 st w k x y z j20s0) (by unfold qf_X_reckon_j20; rw [if_pos h16, if_neg h17]) hF20)
        exact W.iret hx hb hr (fun t ht hW => ⟨(by rw [← e9]), (by rw [ht, ← e9]; exact hP), hS.F ht⟩) hS.2.2 d_X_reckon_43
    · have h16 : ¬ (k = 1) := h16
      refine lv_iload_n hx hb d_X_reckon_27 rfl (lv_at hl 3 rfl) ?_
      refine lv_iconst (v := 3) hx hb d_X_reckon_28 (by decide) ?_
      refine lv_icmp_ne (tgt := 44) hx hb d_X_reckon_29 (by decide) (fun h18 => ?_) (fun h18 => ?_)
      · have h18 : ¬ (k = 3) := h18
        exact hj44 j20s0 ls _ _ (lv_sub hl [1, 2, 3, 4, 5, 6, 0] rfl) hP hD hS (show qf_X_reckon_j44 st w k x y z j20s0 = qf_X_reckon st w k x y z from (Eq.trans (b := qf_X_reckon_j20 st w k x y z j20s0) (by unfold qf_X_reckon_j20; rw [if_neg h16, if_neg h18]) hF20))
      · have h18 : k = 3 := h18
        refine lv_lload hx hb d_X_reckon_32 (lv_at hl 0 rfl) ?_
        refine lv_lload hx hb d_X_reckon_34 (lv_at hl 0 rfl) ?_
        refine lv_l2i (v := j20s0.toInt32) hx hb d_X_reckon_36 rfl ?_
        refine lv_i2l (v := j20s0.toInt32.toInt64) hx hb d_X_reckon_37 rfl ?_
        refine W.lcmp hx hb d_X_reckon_38 ?_
        refine lv_if_eq (tgt := 44) hx hb d_X_reckon_39 (by decide) (fun h19 => ?_) (fun h19 => ?_)
        · have h19 : (lg_cmp j20s0 j20s0.toInt32.toInt64) = 0 := h19
          exact hj44 j20s0 ls _ _ (lv_sub hl [1, 2, 3, 4, 5, 6, 0] rfl) hP hD hS (show qf_X_reckon_j44 st w k x y z j20s0 = qf_X_reckon st w k x y z from (Eq.trans (b := qf_X_reckon_j20 st w k x y z j20s0) (by unfold qf_X_reckon_j20; rw [if_neg h16, if_pos h18, if_pos h19]) hF20))
        · have h19 : ¬ ((lg_cmp j20s0 j20s0.toInt32.toInt64) = 0) := h19
          refine lv_iconst (v := 2) hx hb d_X_reckon_42 (by decide) ?_
          have e9 : (st, 2) = qf_X_reckon st w k x y z := (Eq.trans (b := qf_X_reckon_j20 st w k x y z j20s0) (by unfold qf_X_reckon_j20; rw [if_neg h16, if_pos h18, if_neg h19]) hF20)
          exact W.iret hx hb hr (fun t ht hW => ⟨(by rw [← e9]), (by rw [ht, ← e9]; exact hP), hS.F ht⟩) hS.2.2 d_X_reckon_43
  refine lv_iload_n hx hb d_X_reckon_0 rfl (lv_at hl 2 rfl) ?_
  refine lv_iconst (v := 1) hx hb d_X_reckon_1 (by decide) ?_
  refine lv_icmp_ne (tgt := 14) hx hb d_X_reckon_2 (by decide) (fun h20 => ?_) (fun h20 => ?_)
  · have h20 : ¬ (k = 1) := h20
    refine lv_iload_n hx hb d_X_reckon_14 rfl (lv_at hl 3 rfl) ?_
    refine lv_i2l (v := x.toInt64) hx hb d_X_reckon_15 rfl ?_
    refine lv_iload hx hb d_X_reckon_16 (lv_at hl 4 rfl) ?_
    refine lv_i2l (v := y.toInt64) hx hb d_X_reckon_18 rfl ?_
    refine lv_lsub hx hb d_X_reckon_19 ?_
    exact hj20 (x.toInt64 - y.toInt64) ls _ _ (lv_sub hl [0, 1, 2, 3, 4, 5] rfl) hP hD hS (show qf_X_reckon_j20 st w k x y z (x.toInt64 - y.toInt64) = qf_X_reckon st w k x y z from (by unfold qf_X_reckon; rw [if_neg h20]))
  · have h20 : k = 1 := h20
    refine lv_iload_n hx hb d_X_reckon_5 rfl (lv_at hl 3 rfl) ?_
    refine lv_i2l (v := x.toInt64) hx hb d_X_reckon_6 rfl ?_
    refine lv_iload hx hb d_X_reckon_7 (lv_at hl 4 rfl) ?_
    refine lv_i2l (v := y.toInt64) hx hb d_X_reckon_9 rfl ?_
    refine lv_ladd hx hb d_X_reckon_10 ?_
    refine lv_goto (tgt := 20) hx hb d_X_reckon_11 (by decide) ?_
    exact hj20 (x.toInt64 + y.toInt64) ls _ _ (lv_sub hl [0, 1, 2, 3, 4, 5] rfl) hP hD hS (show qf_X_reckon_j20 st w k x y z (x.toInt64 + y.toInt64) = qf_X_reckon st w k x y z from (by unfold qf_X_reckon; rw [if_pos h20]))
theorem qf_X_reckon_j219_c (st : qs_X) (w : Int32) (k : Int32) (x : Int32) (y : Int32) (z : Int32) (j219l6 : Int64) (j219l8 : Int32) (j219s0 : Int32) (j219st0 : qs_X) : vp_in (qf_X_reckon_j219 st w k x y z j219l6 j219l8 j219s0 j219st0).2 7 := by
  unfold qf_X_reckon_j219
  exact (qi_if2 (qi_if2 (qi_pair (by decide)) (qi_pair (by decide))) (qi_if2 (qi_pair (by decide)) (qi_pair (by decide))))
theorem qf_X_reckon_j185_c (st : qs_X) (w : Int32) (k : Int32) (x : Int32) (y : Int32) (z : Int32) (j185l8 : Int32) (j185l6 : Int64) : vp_in (qf_X_reckon_j185 st w k x y z j185l8 j185l6).2 7 := by
  unfold qf_X_reckon_j185
  exact (qi_if2 (qf_X_reckon_j219_c _ _ _ _ _ _ _ _ _ _) (qi_if2 (qf_X_reckon_j219_c _ _ _ _ _ _ _ _ _ _) (qi_if2 (qf_X_reckon_j219_c _ _ _ _ _ _ _ _ _ _) (qf_X_reckon_j219_c _ _ _ _ _ _ _ _ _ _))))
theorem qf_X_reckon_j44_c (st : qs_X) (w : Int32) (k : Int32) (x : Int32) (y : Int32) (z : Int32) (j44l6 : Int64) : vp_in (qf_X_reckon_j44 st w k x y z j44l6).2 7 := by
  unfold qf_X_reckon_j44
  exact (qi_if2 (qi_if2 (qi_if2 (qf_X_reckon_j185_c _ _ _ _ _ _ _ _) (qi_if2 (qf_X_reckon_j185_c _ _ _ _ _ _ _ _) (qi_if2 (qf_X_reckon_j185_c _ _ _ _ _ _ _ _) (qi_if2 (qf_X_reckon_j185_c _ _ _ _ _ _ _ _) (qi_if2 (qf_X_reckon_j185_c _ _ _ _ _ _ _ _) (qi_if2 (qi_if2 (qf_X_reckon_j185_c _ _ _ _ _ _ _ _) (qf_X_reckon_j185_c _ _ _ _ _ _ _ _)) (qf_X_reckon_j185_c _ _ _ _ _ _ _ _))))))) (qf_X_reckon_j185_c _ _ _ _ _ _ _ _)) (qf_X_reckon_j185_c _ _ _ _ _ _ _ _))
theorem qf_X_reckon_j20_c (st : qs_X) (w : Int32) (k : Int32) (x : Int32) (y : Int32) (z : Int32) (j20s0 : Int64) : vp_in (qf_X_reckon_j20 st w k x y z j20s0).2 7 := by
  unfold qf_X_reckon_j20
  exact (qi_if2 (qi_if2 (qf_X_reckon_j44_c _ _ _ _ _ _ _) (qi_pair (by decide))) (qi_if2 (qi_if2 (qf_X_reckon_j44_c _ _ _ _ _ _ _) (qi_pair (by decide))) (qf_X_reckon_j44_c _ _ _ _ _ _ _)))
theorem qf_X_reckon_c (st : qs_X) (w : Int32) (k : Int32) (x : Int32) (y : Int32) (z : Int32) : vp_in (qf_X_reckon st w k x y z).2 7 := by
  unfold qf_X_reckon
  exact (qi_if2 (qf_X_reckon_j20_c _ _ _ _ _ _ _) (qf_X_reckon_j20_c _ _ _ _ _ _ _))
