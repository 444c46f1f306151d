set_option maxHeartbeats 4000000 in
set_option maxRecDepth 100000 in
theorem lw_c6 {p : Program} {l : Launch} {e : Env} {s : State} {m : MethodId} {below : List Frame} {meth : Method} {c : Code} {b L : Nat} {xs : Nat → Int32} {D : va_G} {cA : ClassId} {u1 u2 : Nat → Nat} {A : Nat → Prop} {Z : State → Prop} {i : Nat} {sq : qs_Q} {sx : qs_X} {ls : Array Slot} {H : Heap} {locs : List Loc} (hx : p.tables.exec = Jvm.exec) (hb : c.code = code) (hml : c.maxLocals = 4) (hown : s.vm.findClass R_L = some m.cls) (hts : ∀ w ∈ qx_T, w.before #[Value.ref b] s = true) (hX : va_X b L xs s s.heap) (hbl : b < s.heap.size) (hbA : ¬ A b) (hK : va_K D vwCl [(cA, .int)] s) (hN : qn s) (hi0 : vp_in (nI i) L) (hi1 : vp_in (nI i + 1) L) (hi2 : vp_in (nI i + 2) L) (hi3 : vp_in (nI i + 3) L) (hL : qL sq sx) (hl : lv_has ls 4 [(0, .ref b), (1, .ref (u1 0)), (2, .ref (u2 0)), (3, .int (nI i))]) (hP : va_P D vwCl (qw_Q u1 cA sq ++ qw_X u2 cA sx) H) (hD : va_D A (qw_Q u1 cA sq ++ qw_X u2 cA sx)) (hS : va_S A s.heap H locs) (kk : ∀ (sq : qs_Q) (sx : qs_X) (ls : Array Slot) (H : Heap) (locs : List Loc), qL sq sx → lv_has ls 4 [(0, .ref b), (1, .ref (u1 0)), (2, .ref (u2 0)), (3, .int (nI i))] → va_P D vwCl (qw_Q u1 cA sq ++ qw_X u2 cA sx) H → va_D A (qw_Q u1 cA sq ++ qw_X u2 cA sx) → va_S A s.heap H locs → W p l e room_1 s m #[Value.ref b] below meth c H locs 20 637 Z (F0 m 537 ls [])) : W p l e room_1 s m #[Value.ref b] below meth c H locs 20 637 Z (F0 m 332 ls []) := by
  refine lv_aload_n hx hb d_L_law_332 rfl (lv_at hl 1 rfl) ?_
  refine lv_aload_n hx hb d_L_law_333 rfl (lv_at hl 0 rfl) ?_
  refine lv_iload_n hx hb d_L_law_334 rfl (lv_at hl 3 rfl) ?_
  refine lv_iconst (v := 1) hx hb d_L_law_335 (by decide) ?_
  refine lv_iadd hx hb d_L_law_336 ?_
  refine va_sld hx hb hX hbl hbA hS (show vp_in (nI i + 1) L from hi1) d_L_law_337 ?_
  refine qx_muZ (T := qf_Q_run sq (xs (Int32.toNatClampNeg (nI i + 1)))) (Wf := fun zz : qs_Q × Int32 => qw_Q u1 cA zz.1 ++ qw_X u2 cA sx) (vf := fun zz => some (.int zz.2)) (va_runV (As := [.int (xs (Int32.toNatClampNeg (nI i + 1)))]) (rest := []) ⟨hx, hb, hml, hown, hts⟩ (c_Q_run l D cA u1 sq (xs (Int32.toNatClampNeg (nI i + 1))) (fun j _ => ⟨(qp_front (qp_it hL j).1).1, (qp_front (qp_it hL j).1).2.1⟩)) (qx_kV hts mw_184 mw_185 mw_186 mw_29 mw_187 cd_Q_run ⟨Nat.le_of_ble_eq_true rfl, Nat.le_of_ble_eq_true rfl⟩) (qx_preV (q0 := 0) (ci := 0) (q := (R_Q, T_Q, 5)) hP hD hK hN [0, 1, 2, 3, 4, 5, 6, 7, 8, 9, 10, 11, 12, 13, 14] rfl rfl rfl rfl) rfl rfl hl.1 rfl (lv_room (Nat.le_of_ble_eq_true rfl)) d_L_law_338 ⟨Nat.le_of_ble_eq_true rfl, Nat.le_of_ble_eq_true rfl⟩) hP hD hS [0, 1, 2, 3, 4, 5, 6, 7, 8, 9, 10, 11, 12, 13, 14] rfl rfl [u1 0, u1 1, u1 2, u1 3, u1 4, u1 5, u1 6, u1 7, u1 8, u1 9, u1 10, u1 11, u1 12, u1 13, u1 14, u2 0, u2 1, u2 2, u2 3, u2 4] rfl rfl (fun zz1 hzz1 H locs hP hD hS => ?_)
  have hP : va_P D vwCl (qw_Q u1 cA zz1.1 ++ qw_X u2 cA sx) H := hP
  have hD : va_D A (qw_Q u1 cA zz1.1 ++ qw_X u2 cA sx) := hD
  refine W.eq (g2 := F0 m 341 ls [.int zz1.2]) rfl ?_
  refine lv_aload_n hx hb d_L_law_341 rfl (lv_at hl 2 rfl) ?_
  refine lv_aload_n hx hb d_L_law_342 rfl (lv_at hl 0 rfl) ?_
  refine lv_iload_n hx hb d_L_law_343 rfl (lv_at hl 3 rfl) ?_
  refine lv_iconst (v := 1) hx hb d_L_law_344 (by decide) ?_
  refine lv_iadd hx hb d_L_law_345 ?_
  refine va_sld hx hb hX hbl hbA hS (show vp_in (nI i + 1) L from hi1) d_L_law_346 ?_
  refine qx_muZ (T := qf_X_run sx (xs (Int32.toNatClampNeg (nI i + 1)))) (Wf := fun zz : qs_X × Int32 => qw_Q u1 cA zz1.1 ++ qw_X u2 cA zz.1) (vf := fun zz => some (.int zz.2)) (va_runV (As := [.int (xs (Int32.toNatClampNeg (nI i + 1)))]) (rest := [.int zz1.2]) ⟨hx, hb, hml, hown, hts⟩ (c_X_run l D cA u2 sx (xs (Int32.toNatClampNeg (nI i + 1))) (fun j _ => ⟨(qp_front (qp_it hL j).1).2.2.1, (qp_front (qp_it hL j).1).2.2.2.1⟩)) (qx_kV hts mw_428 mw_429 mw_430 mw_33 mw_431 cd_X_run ⟨Nat.le_of_ble_eq_true rfl, Nat.le_of_ble_eq_true rfl⟩) (qx_preV (q0 := 15) (ci := 3) (q := (R_X, T_X, 8)) hP hD hK hN [15, 16, 17, 18, 19] rfl rfl rfl rfl) rfl rfl hl.1 rfl (lv_room (Nat.le_of_ble_eq_true rfl)) d_L_law_347 ⟨Nat.le_of_ble_eq_true rfl, Nat.le_of_ble_eq_true rfl⟩) hP hD hS [15, 16, 17, 18, 19] rfl rfl [u1 0, u1 1, u1 2, u1 3, u1 4, u1 5, u1 6, u1 7, u1 8, u1 9, u1 10, u1 11, u1 12, u1 13, u1 14, u2 0, u2 1, u2 2, u2 3, u2 4] rfl rfl (fun zz2 hzz2 H locs hP hD hS => ?_)
  have hP : va_P D vwCl (qw_Q u1 cA zz1.1 ++ qw_X u2 cA zz2.1) H := hP
  have hD : va_D A (qw_Q u1 cA zz1.1 ++ qw_X u2 cA zz2.1) := hD
  refine W.eq (g2 := F0 m 350 ls [.int zz2.2, .int zz1.2]) rfl ?_
  have hV := qp_run hL (xs (Int32.toNatClampNeg (nI i + 1)))
  rw [hzz1, hzz2] at hV
  have heq : zz1.2 = zz2.2 := hV.2
  have hL := hV.1
  refine lv_icmp_eq (tgt := 537) hx hb d_L_law_350 (by decide) (fun _ => ?_) (fun h => False.elim (h heq))
  exact kk zz1.1 zz2.1 ls _ _ hL hl hP hD hS
set_option maxHeartbeats 4000000 in
set_option maxRecDepth 100000 in
theorem lw_c7 {p : Program} {l : Launch} {e : Env} {s : State} {m : MethodId} {below : List Frame} {meth : Method} {c : Code} {b L : Nat} {xs : Nat → Int32} {D : va_G} {cA : ClassId} {u1 u2 : Nat → Nat} {A : Nat → Prop} {Z : State → Prop} {i : Nat} {sq : qs_Q} {sx : qs_X} {ls : Array Slot} {H : Heap} {locs : List Loc} (hx : p.tables.exec = Jvm.exec) (hb : c.code = code) (hml : c.maxLocals = 4) (hown : s.vm.findClass R_L = some m.cls) (hts : ∀ w ∈ qx_T, w.before #[Value.ref b] s = true) (hX : va_X b L xs s s.heap) (hbl : b < s.heap.size) (hbA : ¬ A b) (hK : va_K D vwCl [(cA, .int)] s) (hN : qn s) (hi0 : vp_in (nI i) L) (hi1 : vp_in (nI i + 1) L) (hi2 : vp_in (nI i + 2) L) (hi3 : vp_in (nI i + 3) L) (hL : qL sq sx) (hl : lv_has ls 4 [(0, .ref b), (1, .ref (u1 0)), (2, .ref (u2 0)), (3, .int (nI i))]) (hP : va_P D vwCl (qw_Q u1 cA sq ++ qw_X u2 cA sx) H) (hD : va_D A (qw_Q u1 cA sq ++ qw_X u2 cA sx)) (hS : va_S A s.heap H locs) (kk : ∀ (sq : qs_Q) (sx : qs_X) (ls : Array Slot) (H : Heap) (locs : List Loc), qL sq sx → lv_has ls 4 [(0, .ref b), (1, .ref (u1 0)), (2, .ref (u2 0)), (3, .int (nI i))] → va_P D vwCl (qw_Q u1 cA sq ++ qw_X u2 cA sx) H → va_D A (qw_Q u1 cA sq ++ qw_X u2 cA sx) → va_S A s.heap H locs → W p l e room_1 s m #[Value.ref b] below meth c H locs 20 637 Z (F0 m 537 ls [])) : W p l e room_1 s m #[Value.ref b] below meth c H locs 20 637 Z (F0 m 355 ls []) := by
  refine lv_aload_n hx hb d_L_law_355 rfl (lv_at hl 1 rfl) ?_
  refine lv_aload_n hx hb d_L_law_356 rfl (lv_at hl 0 rfl) ?_
  refine lv_iload_n hx hb d_L_law_357 rfl (lv_at hl 3 rfl) ?_
  refine lv_iconst (v := 1) hx hb d_L_law_358 (by decide) ?_
  refine lv_iadd hx hb d_L_law_359 ?_
  refine va_sld hx hb hX hbl hbA hS (show vp_in (nI i + 1) L from hi1) d_L_law_360 ?_
  refine qx_rd (va_runV (As := [.int (xs (Int32.toNatClampNeg (nI i + 1)))]) (rest := []) ⟨hx, hb, hml, hown, hts⟩ (c_Q_state l D cA u1 sq (xs (Int32.toNatClampNeg (nI i + 1)))) (qx_kV hts mw_323 mw_324 mw_325 mw_29 mw_326 cd_Q_state ⟨Nat.le_of_ble_eq_true rfl, Nat.le_of_ble_eq_true rfl⟩) (qx_preV (q0 := 0) (ci := 0) (q := (R_Q, T_Q, 5)) hP hD hK hN [0, 1, 2, 3, 4, 5, 6, 7, 8, 9, 10, 11, 12, 13, 14] rfl rfl rfl rfl) rfl rfl hl.1 rfl (lv_room (Nat.le_of_ble_eq_true rfl)) d_L_law_361 ⟨Nat.le_of_ble_eq_true rfl, Nat.le_of_ble_eq_true rfl⟩) ?_
  refine lv_aload_n hx hb d_L_law_364 rfl (lv_at hl 2 rfl) ?_
  refine lv_aload_n hx hb d_L_law_365 rfl (lv_at hl 0 rfl) ?_
  refine lv_iload_n hx hb d_L_law_366 rfl (lv_at hl 3 rfl) ?_
  refine lv_iconst (v := 1) hx hb d_L_law_367 (by decide) ?_
  refine lv_iadd hx hb d_L_law_368 ?_
  refine va_sld hx hb hX hbl hbA hS (show vp_in (nI i + 1) L from hi1) d_L_law_369 ?_
  refine qx_rd (va_runV (As := [.int (xs (Int32.toNatClampNeg (nI i + 1)))]) (rest := [.int (qf_Q_state sq (xs (Int32.toNatClampNeg (nI i + 1))))]) ⟨hx, hb, hml, hown, hts⟩ (c_X_state l D cA u2 sx (xs (Int32.toNatClampNeg (nI i + 1)))) (qx_kV hts mw_488 mw_489 mw_490 mw_33 mw_491 cd_X_state ⟨Nat.le_of_ble_eq_true rfl, Nat.le_of_ble_eq_true rfl⟩) (qx_preV (q0 := 15) (ci := 3) (q := (R_X, T_X, 8)) hP hD hK hN [15, 16, 17, 18, 19] rfl rfl rfl rfl) rfl rfl hl.1 rfl (lv_room (Nat.le_of_ble_eq_true rfl)) d_L_law_370 ⟨Nat.le_of_ble_eq_true rfl, Nat.le_of_ble_eq_true rfl⟩) ?_
  have heq : qf_Q_state sq (xs (Int32.toNatClampNeg (nI i + 1))) = qf_X_state sx (xs (Int32.toNatClampNeg (nI i + 1))) := qp_state hL _
  refine lv_icmp_eq (tgt := 537) hx hb d_L_law_373 (by decide) (fun _ => ?_) (fun h => False.elim (h heq))
  exact kk sq sx ls _ _ hL hl hP hD hS
set_option maxHeartbeats 4000000 in
set_option maxRecDepth 100000 in
theorem lw_c8 {p : Program} {l : Launch} {e : Env} {s : State} {m : MethodId} {below : List Frame} {meth : Method} {c : Code} {b L : Nat} {xs : Nat → Int32} {D : va_G} {cA : ClassId} {u1 u2 : Nat → Nat} {A : Nat → Prop} {Z : State → Prop} {i : Nat} {sq : qs_Q} {sx : qs_X} {ls : Array Slot} {H : Heap} {locs : List Loc} (hx : p.tables.exec = Jvm.exec) (hb : c.code = code) (hml : c.maxLocals = 4) (hown : s.vm.findClass R_L = some m.cls) (hts : ∀ w ∈ qx_T, w.before #[Value.ref b] s = true) (hX : va_X b L xs s s.heap) (hbl : b < s.heap.size) (hbA : ¬ A b) (hK : va_K D vwCl [(cA, .int)] s) (hN : qn s) (hi0 : vp_in (nI i) L) (hi1 : vp_in (nI i + 1) L) (hi2 : vp_in (nI i + 2) L) (hi3 : vp_in (nI i + 3) L) (hL : qL sq sx) (hl : lv_has ls 4 [(0, .ref b), (1, .ref (u1 0)), (2, .ref (u2 0)), (3, .int (nI i))]) (hP : va_P D vwCl (qw_Q u1 cA sq ++ qw_X u2 cA sx) H) (hD : va_D A (qw_Q u1 cA sq ++ qw_X u2 cA sx)) (hS : va_S A s.heap H locs) (kk : ∀ (sq : qs_Q) (sx : qs_X) (ls : Array Slot) (H : Heap) (locs : List Loc), qL sq sx → lv_has ls 4 [(0, .ref b), (1, .ref (u1 0)), (2, .ref (u2 0)), (3, .int (nI i))] → va_P D vwCl (qw_Q u1 cA sq ++ qw_X u2 cA sx) H → va_D A (qw_Q u1 cA sq ++ qw_X u2 cA sx) → va_S A s.heap H locs → W p l e room_1 s m #[Value.ref b] below meth c H locs 20 637 Z (F0 m 537 ls [])) : W p l e room_1 s m #[Value.ref b] below meth c H locs 20 637 Z (F0 m 378 ls []) := by
  refine lv_aload_n hx hb d_L_law_378 rfl (lv_at hl 1 rfl) ?_
  refine lv_aload_n hx hb d_L_law_379 rfl (lv_at hl 0 rfl) ?_
  refine lv_iload_n hx hb d_L_law_380 rfl (lv_at hl 3 rfl) ?_
  refine lv_iconst (v := 1) hx hb d_L_law_381 (by decide) ?_
  refine lv_iadd hx hb d_L_law_382 ?_
  refine va_sld hx hb hX hbl hbA hS (show vp_in (nI i + 1) L from hi1) d_L_law_383 ?_
  refine qx_rd (va_runV (As := [.int (xs (Int32.toNatClampNeg (nI i + 1)))]) (rest := []) ⟨hx, hb, hml, hown, hts⟩ (c_Q_register l D cA u1 sq (xs (Int32.toNatClampNeg (nI i + 1)))) (qx_kV hts mw_329 mw_330 mw_331 mw_29 mw_332 cd_Q_register ⟨Nat.le_of_ble_eq_true rfl, Nat.le_of_ble_eq_true rfl⟩) (qx_preV (q0 := 0) (ci := 0) (q := (R_Q, T_Q, 5)) hP hD hK hN [0, 1, 2, 3, 4, 5, 6, 7, 8, 9, 10, 11, 12, 13, 14] rfl rfl rfl rfl) rfl rfl hl.1 rfl (lv_room (Nat.le_of_ble_eq_true rfl)) d_L_law_384 ⟨Nat.le_of_ble_eq_true rfl, Nat.le_of_ble_eq_true rfl⟩) ?_
  refine lv_aload_n hx hb d_L_law_387 rfl (lv_at hl 2 rfl) ?_
  refine lv_aload_n hx hb d_L_law_388 rfl (lv_at hl 0 rfl) ?_
  refine lv_iload_n hx hb d_L_law_389 rfl (lv_at hl 3 rfl) ?_
  refine lv_iconst (v := 1) hx hb d_L_law_390 (by decide) ?_
  refine lv_iadd hx hb d_L_law_391 ?_
  refine va_sld hx hb hX hbl hbA hS (show vp_in (nI i + 1) L from hi1) d_L_law_392 ?_
  refine qx_rd (va_runV (As := [.int (xs (Int32.toNatClampNeg (nI i + 1)))]) (rest := [.int (qf_Q_register sq (xs (Int32.toNatClampNeg (nI i + 1))))]) ⟨hx, hb, hml, hown, hts⟩ (c_X_register l D cA u2 sx (xs (Int32.toNatClampNeg (nI i + 1)))) (qx_kV hts mw_492 mw_493 mw_494 mw_33 mw_495 cd_X_register ⟨Nat.le_of_ble_eq_true rfl, Nat.le_of_ble_eq_true rfl⟩) (qx_preV (q0 := 15) (ci := 3) (q := (R_X, T_X, 8)) hP hD hK hN [15, 16, 17, 18, 19] rfl rfl rfl rfl) rfl rfl hl.1 rfl (lv_room (Nat.le_of_ble_eq_true rfl)) d_L_law_393 ⟨Nat.le_of_ble_eq_true rfl, Nat.le_of_ble_eq_true rfl⟩) ?_
  have heq : qf_Q_register sq (xs (Int32.toNatClampNeg (nI i + 1))) = qf_X_register sx (xs (Int32.toNatClampNeg (nI i + 1))) := qp_register hL _
  refine lv_icmp_eq (tgt := 537) hx hb d_L_law_396 (by decide) (fun _ => ?_) (fun h => False.elim (h heq))
  exact kk sq sx ls _ _ hL hl hP hD hS
set_option maxHeartbeats 4000000 in
set_option maxRecDepth 100000 in
theorem lw_c9 {p : Program} {l : Launch} {e : Env} {s : State} {m : MethodId} {below : List Frame} {meth : Method} {c : Code} {b L : Nat} {xs : Nat → Int32} {D : va_G} {cA : ClassId} {u1 u2 : Nat → Nat} {A : Nat → Prop} {Z : State → Prop} {i : Nat} {sq : qs_Q} {sx : qs_X} {ls : Array Slot} {H : Heap} {locs : List Loc} (hx : p.tables.exec = Jvm.exec) (hb : c.code = code) (hml : c.maxLocals = 4) (hown : s.vm.findClass R_L = some m.cls) (hts : ∀ w ∈ qx_T, w.before #[Value.ref b] s = true) (hX : va_X b L xs s s.heap) (hbl : b < s.heap.size) (hbA : ¬ A b) (hK : va_K D vwCl [(cA, .int)] s) (hN : qn s) (hi0 : vp_in (nI i) L) (hi1 : vp_in (nI i + 1) L) (hi2 : vp_in (nI i + 2) L) (hi3 : vp_in (nI i + 3) L) (hL : qL sq sx) (hl : lv_has ls 4 [(0, .ref b), (1, .ref (u1 0)), (2, .ref (u2 0)), (3, .int (nI i))]) (hP : va_P D vwCl (qw_Q u1 cA sq ++ qw_X u2 cA sx) H) (hD : va_D A (qw_Q u1 cA sq ++ qw_X u2 cA sx)) (hS : va_S A s.heap H locs) (kk : ∀ (sq : qs_Q) (sx : qs_X) (ls : Array Slot) (H : Heap) (locs : List Loc), qL sq sx → lv_has ls 4 [(0, .ref b), (1, .ref (u1 0)), (2, .ref (u2 0)), (3, .int (nI i))] → va_P D vwCl (qw_Q u1 cA sq ++ qw_X u2 cA sx) H → va_D A (qw_Q u1 cA sq ++ qw_X u2 cA sx) → va_S A s.heap H locs → W p l e room_1 s m #[Value.ref b] below meth c H locs 20 637 Z (F0 m 537 ls [])) : W p l e room_1 s m #[Value.ref b] below meth c H locs 20 637 Z (F0 m 401 ls []) := by
  refine lv_aload_n hx hb d_L_law_401 rfl (lv_at hl 1 rfl) ?_
  refine lv_aload_n hx hb d_L_law_402 rfl (lv_at hl 0 rfl) ?_
  refine lv_iload_n hx hb d_L_law_403 rfl (lv_at hl 3 rfl) ?_
  refine lv_iconst (v := 1) hx hb d_L_law_404 (by decide) ?_
  refine lv_iadd hx hb d_L_law_405 ?_
  refine va_sld hx hb hX hbl hbA hS (show vp_in (nI i + 1) L from hi1) d_L_law_406 ?_
  refine qx_rd (va_runV (As := [.int (xs (Int32.toNatClampNeg (nI i + 1)))]) (rest := []) ⟨hx, hb, hml, hown, hts⟩ (c_Q_space l D cA u1 sq (xs (Int32.toNatClampNeg (nI i + 1)))) (qx_kV hts mw_333 mw_334 mw_335 mw_29 mw_336 cd_Q_space ⟨Nat.le_of_ble_eq_true rfl, Nat.le_of_ble_eq_true rfl⟩) (qx_preV (q0 := 0) (ci := 0) (q := (R_Q, T_Q, 5)) hP hD hK hN [0, 1, 2, 3, 4, 5, 6, 7, 8, 9, 10, 11, 12, 13, 14] rfl rfl rfl rfl) rfl rfl hl.1 rfl (lv_room (Nat.le_of_ble_eq_true rfl)) d_L_law_407 ⟨Nat.le_of_ble_eq_true rfl, Nat.le_of_ble_eq_true rfl⟩) ?_
  refine lv_aload_n hx hb d_L_law_410 rfl (lv_at hl 2 rfl) ?_
  refine lv_aload_n hx hb d_L_law_411 rfl (lv_at hl 0 rfl) ?_
  refine lv_iload_n hx hb d_L_law_412 rfl (lv_at hl 3 rfl) ?_
  refine lv_iconst (v := 1) hx hb d_L_law_413 (by decide) ?_
  refine lv_iadd hx hb d_L_law_414 ?_
  refine va_sld hx hb hX hbl hbA hS (show vp_in (nI i + 1) L from hi1) d_L_law_415 ?_
  refine qx_rd (va_runV (As := [.int (xs (Int32.toNatClampNeg (nI i + 1)))]) (rest := [.int (qf_Q_space sq (xs (Int32.toNatClampNeg (nI i + 1))))]) ⟨hx, hb, hml, hown, hts⟩ (c_X_space l D cA u2 sx (xs (Int32.toNatClampNeg (nI i + 1)))) (qx_kV hts mw_496 mw_497 mw_498 mw_33 mw_499 cd_X_space ⟨Nat.le_of_ble_eq_true rfl, Nat.le_of_ble_eq_true rfl⟩) (qx_preV (q0 := 15) (ci := 3) (q := (R_X, T_X, 8)) hP hD hK hN [15, 16, 17, 18, 19] rfl rfl rfl rfl) rfl rfl hl.1 rfl (lv_room (Nat.le_of_ble_eq_true rfl)) d_L_law_416 ⟨Nat.le_of_ble_eq_true rfl, Nat.le_of_ble_eq_true rfl⟩) ?_
  have heq : qf_Q_space sq (xs (Int32.toNatClampNeg (nI i + 1))) = qf_X_space sx (xs (Int32.toNatClampNeg (nI i + 1))) := qp_space hL _
  refine lv_icmp_eq (tgt := 537) hx hb d_L_law_419 (by decide) (fun _ => ?_) (fun h => False.elim (h heq))
  exact kk sq sx ls _ _ hL hl hP hD hS
