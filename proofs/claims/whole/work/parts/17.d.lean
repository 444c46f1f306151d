set_option maxHeartbeats 4000000 in
set_option maxRecDepth 100000 in
theorem lw_c10 {p : Program} {l : Launch} {e : Env} {s : State} {m : MethodId} {below : List Frame} {meth : Method} {c : Code} {b L : Nat} {xs : Nat → Int32} {D : va_G} {cA : ClassId} {u1 u2 : Nat → Nat} {A : Nat → Prop} {Z : State → Prop} {i : Nat} {sq : qs_Q} {sx : qs_X} {ls : Array Slot} {H : Heap} {locs : List Loc} (hx : p.tables.exec = Jvm.exec) (hb : c.code = code) (hml : c.maxLocals = 4) (hown : s.vm.findClass R_L = some m.cls) (hts : ∀ w ∈ qx_T, w.before #[Value.ref b] s = true) (hX : va_X b L xs s s.heap) (hbl : b < s.heap.size) (hbA : ¬ A b) (hK : va_K D vwCl [(cA, .int)] s) (hN : qn s) (hi0 : vp_in (nI i) L) (hi1 : vp_in (nI i + 1) L) (hi2 : vp_in (nI i + 2) L) (hi3 : vp_in (nI i + 3) L) (hL : qL sq sx) (hl : lv_has ls 4 [(0, .ref b), (1, .ref (u1 0)), (2, .ref (u2 0)), (3, .int (nI i))]) (hP : va_P D vwCl (qw_Q u1 cA sq ++ qw_X u2 cA sx) H) (hD : va_D A (qw_Q u1 cA sq ++ qw_X u2 cA sx)) (hS : va_S A s.heap H locs) (kk : ∀ (sq : qs_Q) (sx : qs_X) (ls : Array Slot) (H : Heap) (locs : List Loc), qL sq sx → lv_has ls 4 [(0, .ref b), (1, .ref (u1 0)), (2, .ref (u2 0)), (3, .int (nI i))] → va_P D vwCl (qw_Q u1 cA sq ++ qw_X u2 cA sx) H → va_D A (qw_Q u1 cA sq ++ qw_X u2 cA sx) → va_S A s.heap H locs → W p l e room_1 s m #[Value.ref b] below meth c H locs 20 637 Z (F0 m 537 ls [])) : W p l e room_1 s m #[Value.ref b] below meth c H locs 20 637 Z (F0 m 424 ls []) := by
  refine lv_aload_n hx hb d_L_law_424 rfl (lv_at hl 1 rfl) ?_
  refine lv_aload_n hx hb d_L_law_425 rfl (lv_at hl 0 rfl) ?_
  refine lv_iload_n hx hb d_L_law_426 rfl (lv_at hl 3 rfl) ?_
  refine lv_iconst (v := 1) hx hb d_L_law_427 (by decide) ?_
  refine lv_iadd hx hb d_L_law_428 ?_
  refine va_sld hx hb hX hbl hbA hS (show vp_in (nI i + 1) L from hi1) d_L_law_429 ?_
  refine lv_aload_n hx hb d_L_law_430 rfl (lv_at hl 0 rfl) ?_
  refine lv_iload_n hx hb d_L_law_431 rfl (lv_at hl 3 rfl) ?_
  refine lv_iconst (v := 2) hx hb d_L_law_432 (by decide) ?_
  refine lv_iadd hx hb d_L_law_433 ?_
  refine va_sld hx hb hX hbl hbA hS (show vp_in (nI i + 2) L from hi2) d_L_law_434 ?_
  refine qx_rd (va_runV (As := [.int (xs (Int32.toNatClampNeg (nI i + 1))), .int (xs (Int32.toNatClampNeg (nI i + 2)))]) (rest := []) ⟨hx, hb, hml, hown, hts⟩ (c_Q_word l D cA u1 sq (xs (Int32.toNatClampNeg (nI i + 1))) (xs (Int32.toNatClampNeg (nI i + 2)))) (qx_kV hts mw_337 mw_338 mw_339 mw_29 mw_340 cd_Q_word ⟨Nat.le_of_ble_eq_true rfl, Nat.le_of_ble_eq_true rfl⟩) (qx_preV (q0 := 0) (ci := 0) (q := (R_Q, T_Q, 5)) hP hD hK hN [0, 1, 2, 3, 4, 5, 6, 7, 8, 9, 10, 11, 12, 13, 14] rfl rfl rfl rfl) rfl rfl hl.1 rfl (lv_room (Nat.le_of_ble_eq_true rfl)) d_L_law_435 ⟨Nat.le_of_ble_eq_true rfl, Nat.le_of_ble_eq_true rfl⟩) ?_
  refine lv_aload_n hx hb d_L_law_438 rfl (lv_at hl 2 rfl) ?_
  refine lv_aload_n hx hb d_L_law_439 rfl (lv_at hl 0 rfl) ?_
  refine lv_iload_n hx hb d_L_law_440 rfl (lv_at hl 3 rfl) ?_
  refine lv_iconst (v := 1) hx hb d_L_law_441 (by decide) ?_
  refine lv_iadd hx hb d_L_law_442 ?_
  refine va_sld hx hb hX hbl hbA hS (show vp_in (nI i + 1) L from hi1) d_L_law_443 ?_
  refine lv_aload_n hx hb d_L_law_444 rfl (lv_at hl 0 rfl) ?_
  refine lv_iload_n hx hb d_L_law_445 rfl (lv_at hl 3 rfl) ?_
  refine lv_iconst (v := 2) hx hb d_L_law_446 (by decide) ?_
  refine lv_iadd hx hb d_L_law_447 ?_
  refine va_sld hx hb hX hbl hbA hS (show vp_in (nI i + 2) L from hi2) d_L_law_448 ?_
  refine qx_rd (va_runV (As := [.int (xs (Int32.toNatClampNeg (nI i + 1))), .int (xs (Int32.toNatClampNeg (nI i + 2)))]) (rest := [.int (qf_Q_word sq (xs (Int32.toNatClampNeg (nI i + 1))) (xs (Int32.toNatClampNeg (nI i + 2))))]) ⟨hx, hb, hml, hown, hts⟩ (c_X_word l D cA u2 sx (xs (Int32.toNatClampNeg (nI i + 1))) (xs (Int32.toNatClampNeg (nI i + 2)))) (qx_kV hts mw_500 mw_501 mw_502 mw_33 mw_503 cd_X_word ⟨Nat.le_of_ble_eq_true rfl, Nat.le_of_ble_eq_true rfl⟩) (qx_preV (q0 := 15) (ci := 3) (q := (R_X, T_X, 8)) hP hD hK hN [15, 16, 17, 18, 19] rfl rfl rfl rfl) rfl rfl hl.1 rfl (lv_room (Nat.le_of_ble_eq_true rfl)) d_L_law_449 ⟨Nat.le_of_ble_eq_true rfl, Nat.le_of_ble_eq_true rfl⟩) ?_
  have heq : qf_Q_word sq (xs (Int32.toNatClampNeg (nI i + 1))) (xs (Int32.toNatClampNeg (nI i + 2))) = qf_X_word sx (xs (Int32.toNatClampNeg (nI i + 1))) (xs (Int32.toNatClampNeg (nI i + 2))) := qp_word hL _ _
  refine lv_icmp_eq (tgt := 537) hx hb d_L_law_452 (by decide) (fun _ => ?_) (fun h => False.elim (h heq))
  exact kk sq sx ls _ _ hL hl hP hD hS
set_option maxHeartbeats 4000000 in
set_option maxRecDepth 100000 in
theorem lw_c11 {p : Program} {l : Launch} {e : Env} {s : State} {m : MethodId} {below : List Frame} {meth : Method} {c : Code} {b L : Nat} {xs : Nat → Int32} {D : va_G} {cA : ClassId} {u1 u2 : Nat → Nat} {A : Nat → Prop} {Z : State → Prop} {i : Nat} {sq : qs_Q} {sx : qs_X} {ls : Array Slot} {H : Heap} {locs : List Loc} (hx : p.tables.exec = Jvm.exec) (hb : c.code = code) (hml : c.maxLocals = 4) (hown : s.vm.findClass R_L = some m.cls) (hts : ∀ w ∈ qx_T, w.before #[Value.ref b] s = true) (hX : va_X b L xs s s.heap) (hbl : b < s.heap.size) (hbA : ¬ A b) (hK : va_K D vwCl [(cA, .int)] s) (hN : qn s) (hi0 : vp_in (nI i) L) (hi1 : vp_in (nI i + 1) L) (hi2 : vp_in (nI i + 2) L) (hi3 : vp_in (nI i + 3) L) (hL : qL sq sx) (hl : lv_has ls 4 [(0, .ref b), (1, .ref (u1 0)), (2, .ref (u2 0)), (3, .int (nI i))]) (hP : va_P D vwCl (qw_Q u1 cA sq ++ qw_X u2 cA sx) H) (hD : va_D A (qw_Q u1 cA sq ++ qw_X u2 cA sx)) (hS : va_S A s.heap H locs) (kk : ∀ (sq : qs_Q) (sx : qs_X) (ls : Array Slot) (H : Heap) (locs : List Loc), qL sq sx → lv_has ls 4 [(0, .ref b), (1, .ref (u1 0)), (2, .ref (u2 0)), (3, .int (nI i))] → va_P D vwCl (qw_Q u1 cA sq ++ qw_X u2 cA sx) H → va_D A (qw_Q u1 cA sq ++ qw_X u2 cA sx) → va_S A s.heap H locs → W p l e room_1 s m #[Value.ref b] below meth c H locs 20 637 Z (F0 m 537 ls [])) : W p l e room_1 s m #[Value.ref b] below meth c H locs 20 637 Z (F0 m 457 ls []) := by
  refine lv_aload_n hx hb d_L_law_457 rfl (lv_at hl 1 rfl) ?_
  refine lv_aload_n hx hb d_L_law_458 rfl (lv_at hl 0 rfl) ?_
  refine lv_iload_n hx hb d_L_law_459 rfl (lv_at hl 3 rfl) ?_
  refine lv_iconst (v := 1) hx hb d_L_law_460 (by decide) ?_
  refine lv_iadd hx hb d_L_law_461 ?_
  refine va_sld hx hb hX hbl hbA hS (show vp_in (nI i + 1) L from hi1) d_L_law_462 ?_
  refine lv_aload_n hx hb d_L_law_463 rfl (lv_at hl 0 rfl) ?_
  refine lv_iload_n hx hb d_L_law_464 rfl (lv_at hl 3 rfl) ?_
  refine lv_iconst (v := 2) hx hb d_L_law_465 (by decide) ?_
  refine lv_iadd hx hb d_L_law_466 ?_
  refine va_sld hx hb hX hbl hbA hS (show vp_in (nI i + 2) L from hi2) d_L_law_467 ?_
  refine qx_rd (va_runV (As := [.int (xs (Int32.toNatClampNeg (nI i + 1))), .int (xs (Int32.toNatClampNeg (nI i + 2)))]) (rest := []) ⟨hx, hb, hml, hown, hts⟩ (c_Q_peek l D cA u1 sq (xs (Int32.toNatClampNeg (nI i + 1))) (xs (Int32.toNatClampNeg (nI i + 2)))) (qx_kV hts mw_341 mw_342 mw_343 mw_29 mw_344 cd_Q_peek ⟨Nat.le_of_ble_eq_true rfl, Nat.le_of_ble_eq_true rfl⟩) (qx_preV (q0 := 0) (ci := 0) (q := (R_Q, T_Q, 5)) hP hD hK hN [0, 1, 2, 3, 4, 5, 6, 7, 8, 9, 10, 11, 12, 13, 14] rfl rfl rfl rfl) rfl rfl hl.1 rfl (lv_room (Nat.le_of_ble_eq_true rfl)) d_L_law_468 ⟨Nat.le_of_ble_eq_true rfl, Nat.le_of_ble_eq_true rfl⟩) ?_
  refine lv_aload_n hx hb d_L_law_471 rfl (lv_at hl 2 rfl) ?_
  refine lv_aload_n hx hb d_L_law_472 rfl (lv_at hl 0 rfl) ?_
  refine lv_iload_n hx hb d_L_law_473 rfl (lv_at hl 3 rfl) ?_
  refine lv_iconst (v := 1) hx hb d_L_law_474 (by decide) ?_
  refine lv_iadd hx hb d_L_law_475 ?_
  refine va_sld hx hb hX hbl hbA hS (show vp_in (nI i + 1) L from hi1) d_L_law_476 ?_
  refine lv_aload_n hx hb d_L_law_477 rfl (lv_at hl 0 rfl) ?_
  refine lv_iload_n hx hb d_L_law_478 rfl (lv_at hl 3 rfl) ?_
  refine lv_iconst (v := 2) hx hb d_L_law_479 (by decide) ?_
  refine lv_iadd hx hb d_L_law_480 ?_
  refine va_sld hx hb hX hbl hbA hS (show vp_in (nI i + 2) L from hi2) d_L_law_481 ?_
  refine qx_rd (va_runV (As := [.int (xs (Int32.toNatClampNeg (nI i + 1))), .int (xs (Int32.toNatClampNeg (nI i + 2)))]) (rest := [.int (qf_Q_peek sq (xs (Int32.toNatClampNeg (nI i + 1))) (xs (Int32.toNatClampNeg (nI i + 2))))]) ⟨hx, hb, hml, hown, hts⟩ (c_X_peek l D cA u2 sx (xs (Int32.toNatClampNeg (nI i + 1))) (xs (Int32.toNatClampNeg (nI i + 2)))) (qx_kV hts mw_504 mw_505 mw_506 mw_33 mw_507 cd_X_peek ⟨Nat.le_of_ble_eq_true rfl, Nat.le_of_ble_eq_true rfl⟩) (qx_preV (q0 := 15) (ci := 3) (q := (R_X, T_X, 8)) hP hD hK hN [15, 16, 17, 18, 19] rfl rfl rfl rfl) rfl rfl hl.1 rfl (lv_room (Nat.le_of_ble_eq_true rfl)) d_L_law_482 ⟨Nat.le_of_ble_eq_true rfl, Nat.le_of_ble_eq_true rfl⟩) ?_
  have heq : qf_Q_peek sq (xs (Int32.toNatClampNeg (nI i + 1))) (xs (Int32.toNatClampNeg (nI i + 2))) = qf_X_peek sx (xs (Int32.toNatClampNeg (nI i + 1))) (xs (Int32.toNatClampNeg (nI i + 2))) := qp_peek hL _ _
  refine lv_icmp_eq (tgt := 537) hx hb d_L_law_485 (by decide) (fun _ => ?_) (fun h => False.elim (h heq))
  exact kk sq sx ls _ _ hL hl hP hD hS
set_option maxHeartbeats 4000000 in
set_option maxRecDepth 100000 in
theorem lw_c12 {p : Program} {l : Launch} {e : Env} {s : State} {m : MethodId} {below : List Frame} {meth : Method} {c : Code} {b L : Nat} {xs : Nat → Int32} {D : va_G} {cA : ClassId} {u1 u2 : Nat → Nat} {A : Nat → Prop} {Z : State → Prop} {i : Nat} {sq : qs_Q} {sx : qs_X} {ls : Array Slot} {H : Heap} {locs : List Loc} (hx : p.tables.exec = Jvm.exec) (hb : c.code = code) (hml : c.maxLocals = 4) (hown : s.vm.findClass R_L = some m.cls) (hts : ∀ w ∈ qx_T, w.before #[Value.ref b] s = true) (hX : va_X b L xs s s.heap) (hbl : b < s.heap.size) (hbA : ¬ A b) (hK : va_K D vwCl [(cA, .int)] s) (hN : qn s) (hi0 : vp_in (nI i) L) (hi1 : vp_in (nI i + 1) L) (hi2 : vp_in (nI i + 2) L) (hi3 : vp_in (nI i + 3) L) (hL : qL sq sx) (hl : lv_has ls 4 [(0, .ref b), (1, .ref (u1 0)), (2, .ref (u2 0)), (3, .int (nI i))]) (hP : va_P D vwCl (qw_Q u1 cA sq ++ qw_X u2 cA sx) H) (hD : va_D A (qw_Q u1 cA sq ++ qw_X u2 cA sx)) (hS : va_S A s.heap H locs) (kk : ∀ (sq : qs_Q) (sx : qs_X) (ls : Array Slot) (H : Heap) (locs : List Loc), qL sq sx → lv_has ls 4 [(0, .ref b), (1, .ref (u1 0)), (2, .ref (u2 0)), (3, .int (nI i))] → va_P D vwCl (qw_Q u1 cA sq ++ qw_X u2 cA sx) H → va_D A (qw_Q u1 cA sq ++ qw_X u2 cA sx) → va_S A s.heap H locs → W p l e room_1 s m #[Value.ref b] below meth c H locs 20 637 Z (F0 m 537 ls [])) : W p l e room_1 s m #[Value.ref b] below meth c H locs 20 637 Z (F0 m 490 ls []) := by
  refine lv_aload_n hx hb d_L_law_490 rfl (lv_at hl 1 rfl) ?_
  refine lv_aload_n hx hb d_L_law_491 rfl (lv_at hl 0 rfl) ?_
  refine lv_iload_n hx hb d_L_law_492 rfl (lv_at hl 3 rfl) ?_
  refine lv_iconst (v := 1) hx hb d_L_law_493 (by decide) ?_
  refine lv_iadd hx hb d_L_law_494 ?_
  refine va_sld hx hb hX hbl hbA hS (show vp_in (nI i + 1) L from hi1) d_L_law_495 ?_
  refine qx_rd (va_runV (As := [.int (xs (Int32.toNatClampNeg (nI i + 1)))]) (rest := []) ⟨hx, hb, hml, hown, hts⟩ (c_Q_count l D cA u1 sq (xs (Int32.toNatClampNeg (nI i + 1)))) (qx_kV hts mw_345 mw_346 mw_347 mw_29 mw_348 cd_Q_count ⟨Nat.le_of_ble_eq_true rfl, Nat.le_of_ble_eq_true rfl⟩) (qx_preV (q0 := 0) (ci := 0) (q := (R_Q, T_Q, 5)) hP hD hK hN [0, 1, 2, 3, 4, 5, 6, 7, 8, 9, 10, 11, 12, 13, 14] rfl rfl rfl rfl) rfl rfl hl.1 rfl (lv_room (Nat.le_of_ble_eq_true rfl)) d_L_law_496 ⟨Nat.le_of_ble_eq_true rfl, Nat.le_of_ble_eq_true rfl⟩) ?_
  refine lv_aload_n hx hb d_L_law_499 rfl (lv_at hl 2 rfl) ?_
  refine lv_aload_n hx hb d_L_law_500 rfl (lv_at hl 0 rfl) ?_
  refine lv_iload_n hx hb d_L_law_501 rfl (lv_at hl 3 rfl) ?_
  refine lv_iconst (v := 1) hx hb d_L_law_502 (by decide) ?_
  refine lv_iadd hx hb d_L_law_503 ?_
  refine va_sld hx hb hX hbl hbA hS (show vp_in (nI i + 1) L from hi1) d_L_law_504 ?_
  refine qx_rd (va_runV (As := [.int (xs (Int32.toNatClampNeg (nI i + 1)))]) (rest := [.int (qf_Q_count sq (xs (Int32.toNatClampNeg (nI i + 1))))]) ⟨hx, hb, hml, hown, hts⟩ (c_X_count l D cA u2 sx (xs (Int32.toNatClampNeg (nI i + 1)))) (qx_kV hts mw_508 mw_509 mw_510 mw_33 mw_511 cd_X_count ⟨Nat.le_of_ble_eq_true rfl, Nat.le_of_ble_eq_true rfl⟩) (qx_preV (q0 := 15) (ci := 3) (q := (R_X, T_X, 8)) hP hD hK hN [15, 16, 17, 18, 19] rfl rfl rfl rfl) rfl rfl hl.1 rfl (lv_room (Nat.le_of_ble_eq_true rfl)) d_L_law_505 ⟨Nat.le_of_ble_eq_true rfl, Nat.le_of_ble_eq_true rfl⟩) ?_
  have heq : qf_Q_count sq (xs (Int32.toNatClampNeg (nI i + 1))) = qf_X_count sx (xs (Int32.toNatClampNeg (nI i + 1))) := qp_count hL _
  refine lv_icmp_eq (tgt := 537) hx hb d_L_law_508 (by decide) (fun _ => ?_) (fun h => False.elim (h heq))
  exact kk sq sx ls _ _ hL hl hP hD hS
set_option maxHeartbeats 4000000 in
set_option maxRecDepth 100000 in
theorem lw_c13 {p : Program} {l : Launch} {e : Env} {s : State} {m : MethodId} {below : List Frame} {meth : Method} {c : Code} {b L : Nat} {xs : Nat → Int32} {D : va_G} {cA : ClassId} {u1 u2 : Nat → Nat} {A : Nat → Prop} {Z : State → Prop} {i : Nat} {sq : qs_Q} {sx : qs_X} {ls : Array Slot} {H : Heap} {locs : List Loc} (hx : p.tables.exec = Jvm.exec) (hb : c.code = code) (hml : c.maxLocals = 4) (hown : s.vm.findClass R_L = some m.cls) (hts : ∀ w ∈ qx_T, w.before #[Value.ref b] s = true) (hX : va_X b L xs s s.heap) (hbl : b < s.heap.size) (hbA : ¬ A b) (hK : va_K D vwCl [(cA, .int)] s) (hN : qn s) (hi0 : vp_in (nI i) L) (hi1 : vp_in (nI i + 1) L) (hi2 : vp_in (nI i + 2) L) (hi3 : vp_in (nI i + 3) L) (hL : qL sq sx) (hl : lv_has ls 4 [(0, .ref b), (1, .ref (u1 0)), (2, .ref (u2 0)), (3, .int (nI i))]) (hP : va_P D vwCl (qw_Q u1 cA sq ++ qw_X u2 cA sx) H) (hD : va_D A (qw_Q u1 cA sq ++ qw_X u2 cA sx)) (hS : va_S A s.heap H locs) (kk : ∀ (sq : qs_Q) (sx : qs_X) (ls : Array Slot) (H : Heap) (locs : List Loc), qL sq sx → lv_has ls 4 [(0, .ref b), (1, .ref (u1 0)), (2, .ref (u2 0)), (3, .int (nI i))] → va_P D vwCl (qw_Q u1 cA sq ++ qw_X u2 cA sx) H → va_D A (qw_Q u1 cA sq ++ qw_X u2 cA sx) → va_S A s.heap H locs → W p l e room_1 s m #[Value.ref b] below meth c H locs 20 637 Z (F0 m 537 ls [])) : W p l e room_1 s m #[Value.ref b] below meth c H locs 20 637 Z (F0 m 513 ls []) := by
  refine lv_aload_n hx hb d_L_law_513 rfl (lv_at hl 1 rfl) ?_
  refine qx_muZ (T := qf_Q_mark sq) (Wf := fun zz : qs_Q => qw_Q u1 cA zz ++ qw_X u2 cA sx) (vf := fun _ => none) (va_runV (As := []) (rest := []) ⟨hx, hb, hml, hown, hts⟩ (c_Q_mark l D cA u1 sq) (qx_kV hts mw_349 mw_350 mw_351 mw_29 mw_352 cd_Q_mark ⟨Nat.le_of_ble_eq_true rfl, Nat.le_of_ble_eq_true rfl⟩) (qx_preV (q0 := 0) (ci := 0) (q := (R_Q, T_Q, 5)) hP hD hK hN [0, 1, 2, 3, 4, 5, 6, 7, 8, 9, 10, 11, 12, 13, 14] rfl rfl rfl rfl) rfl rfl hl.1 rfl (lv_room (Nat.le_of_ble_eq_true rfl)) d_L_law_514 ⟨Nat.le_of_ble_eq_true rfl, Nat.le_of_ble_eq_true rfl⟩) hP hD hS [0, 1, 2, 3, 4, 5, 6, 7, 8, 9, 10, 11, 12, 13, 14] rfl rfl [u1 0, u1 1, u1 2, u1 3, u1 4, u1 5, u1 6, u1 7, u1 8, u1 9, u1 10, u1 11, u1 12, u1 13, u1 14, u2 0, u2 1, u2 2, u2 3, u2 4] rfl rfl (fun zz1 hzz1 H locs hP hD hS => ?_)
  have hP : va_P D vwCl (qw_Q u1 cA zz1 ++ qw_X u2 cA sx) H := hP
  have hD : va_D A (qw_Q u1 cA zz1 ++ qw_X u2 cA sx) := hD
  refine W.eq (g2 := F0 m 517 ls []) rfl ?_
  refine lv_aload_n hx hb d_L_law_517 rfl (lv_at hl 2 rfl) ?_
  refine qx_muZ (T := qf_X_mark sx) (Wf := fun zz : qs_X => qw_Q u1 cA zz1 ++ qw_X u2 cA zz) (vf := fun _ => none) (va_runV (As := []) (rest := []) ⟨hx, hb, hml, hown, hts⟩ (c_X_mark l D cA u2 sx) (qx_kV hts mw_512 mw_513 mw_514 mw_33 mw_515 cd_X_mark ⟨Nat.le_of_ble_eq_true rfl, Nat.le_of_ble_eq_true rfl⟩) (qx_preV (q0 := 15) (ci := 3) (q := (R_X, T_X, 8)) hP hD hK hN [15, 16, 17, 18, 19] rfl rfl rfl rfl) rfl rfl hl.1 rfl (lv_room (Nat.le_of_ble_eq_true rfl)) d_L_law_518 ⟨Nat.le_of_ble_eq_true rfl, Nat.le_of_ble_eq_true rfl⟩) hP hD hS [15, 16, 17, 18, 19] rfl rfl [u1 0, u1 1, u1 2, u1 3, u1 4, u1 5, u1 6, u1 7, u1 8, u1 9, u1 10, u1 11, u1 12, u1 13, u1 14, u2 0, u2 1, u2 2, u2 3, u2 4] rfl rfl (fun zz2 hzz2 H locs hP hD hS => ?_)
  have hP : va_P D vwCl (qw_Q u1 cA zz1 ++ qw_X u2 cA zz2) H := hP
  have hD : va_D A (qw_Q u1 cA zz1 ++ qw_X u2 cA zz2) := hD
  refine W.eq (g2 := F0 m 521 ls []) rfl ?_
  refine lv_goto (tgt := 537) hx hb d_L_law_521 (by decide) ?_
  have hL := qp_mark hL
  rw [hzz1, hzz2] at hL
  exact kk zz1 zz2 ls _ _ hL hl hP hD hS
set_option maxHeartbeats 4000000 in
set_option maxRecDepth 100000 in
theorem lw_c14 {p : Program} {l : Launch} {e : Env} {s : State} {m : MethodId} {below : List Frame} {meth : Method} {c : Code} {b L : Nat} {xs : Nat → Int32} {D : va_G} {cA : ClassId} {u1 u2 : Nat → Nat} {A : Nat → Prop} {Z : State → Prop} {i : Nat} {sq : qs_Q} {sx : qs_X} {ls : Array Slot} {H : Heap} {locs : List Loc} (hx : p.tables.exec = Jvm.exec) (hb : c.code = code) (hml : c.maxLocals = 4) (hown : s.vm.findClass R_L = some m.cls) (hts : ∀ w ∈ qx_T, w.before #[Value.ref b] s = true) (hX : va_X b L xs s s.heap) (hbl : b < s.heap.size) (hbA : ¬ A b) (hK : va_K D vwCl [(cA, .int)] s) (hN : qn s) (hi0 : vp_in (nI i) L) (hi1 : vp_in (nI i + 1) L) (hi2 : vp_in (nI i + 2) L) (hi3 : vp_in (nI i + 3) L) (hL : qL sq sx) (hl : lv_has ls 4 [(0, .ref b), (1, .ref (u1 0)), (2, .ref (u2 0)), (3, .int (nI i))]) (hP : va_P D vwCl (qw_Q u1 cA sq ++ qw_X u2 cA sx) H) (hD : va_D A (qw_Q u1 cA sq ++ qw_X u2 cA sx)) (hS : va_S A s.heap H locs) (kk : ∀ (sq : qs_Q) (sx : qs_X) (ls : Array Slot) (H : Heap) (locs : List Loc), qL sq sx → lv_has ls 4 [(0, .ref b), (1, .ref (u1 0)), (2, .ref (u2 0)), (3, .int (nI i))] → va_P D vwCl (qw_Q u1 cA sq ++ qw_X u2 cA sx) H → va_D A (qw_Q u1 cA sq ++ qw_X u2 cA sx) → va_S A s.heap H locs → W p l e room_1 s m #[Value.ref b] below meth c H locs 20 637 Z (F0 m 537 ls [])) : W p l e room_1 s m #[Value.ref b] below meth c H locs 20 637 Z (F0 m 524 ls []) := by
  refine lv_aload_n hx hb d_L_law_524 rfl (lv_at hl 1 rfl) ?_
  refine qx_muZ (T := qf_Q_back sq) (Wf := fun zz : qs_Q × Int32 => qw_Q u1 cA zz.1 ++ qw_X u2 cA sx) (vf := fun zz => some (.int zz.2)) (va_runV (As := []) (rest := []) ⟨hx, hb, hml, hown, hts⟩ (c_Q_back l D cA u1 sq) (qx_kV hts mw_360 mw_361 mw_362 mw_29 mw_363 cd_Q_back ⟨Nat.le_of_ble_eq_true rfl, Nat.le_of_ble_eq_true rfl⟩) (qx_preV (q0 := 0) (ci := 0) (q := (R_Q, T_Q, 5)) hP hD hK hN [0, 1, 2, 3, 4, 5, 6, 7, 8, 9, 10, 11, 12, 13, 14] rfl rfl rfl rfl) rfl rfl hl.1 rfl (lv_room (Nat.le_of_ble_eq_true rfl)) d_L_law_525 ⟨Nat.le_of_ble_eq_true rfl, Nat.le_of_ble_eq_true rfl⟩) hP hD hS [0, 1, 2, 3, 4, 5, 6, 7, 8, 9, 10, 11, 12, 13, 14] rfl rfl [u1 0, u1 1, u1 2, u1 3, u1 4, u1 5, u1 6, u1 7, u1 8, u1 9, u1 10, u1 11, u1 12, u1 13, u1 14, u2 0, u2 1, u2 2, u2 3, u2 4] rfl rfl (fun zz1 hzz1 H locs hP hD hS => ?_)
  have hP : va_P D vwCl (qw_Q u1 cA zz1.1 ++ qw_X u2 cA sx) H := hP
  have hD : va_D A (qw_Q u1 cA zz1.1 ++ qw_X u2 cA sx) := hD
  refine W.eq (g2 := F0 m 528 ls [.int zz1.2]) rfl ?_
  refine lv_aload_n hx hb d_L_law_528 rfl (lv_at hl 2 rfl) ?_
  refine qx_muZ (T := qf_X_back sx) (Wf := fun zz : qs_X × Int32 => qw_Q u1 cA zz1.1 ++ qw_X u2 cA zz.1) (vf := fun zz => some (.int zz.2)) (va_runV (As := []) (rest := [.int zz1.2]) ⟨hx, hb, hml, hown, hts⟩ (c_X_back l D cA u2 sx ((qp_front hL).2.2.2.2)) (qx_kV hts mw_516 mw_517 mw_518 mw_33 mw_519 cd_X_back ⟨Nat.le_of_ble_eq_true rfl, Nat.le_of_ble_eq_true rfl⟩) (qx_preV (q0 := 15) (ci := 3) (q := (R_X, T_X, 8)) hP hD hK hN [15, 16, 17, 18, 19] rfl rfl rfl rfl) rfl rfl hl.1 rfl (lv_room (Nat.le_of_ble_eq_true rfl)) d_L_law_529 ⟨Nat.le_of_ble_eq_true rfl, Nat.le_of_ble_eq_true rfl⟩) hP hD hS [15, 16, 17, 18, 19] rfl rfl [u1 0, u1 1, u1 2, u1 3, u1 4, u1 5, u1 6, u1 7, u1 8, u1 9, u1 10, u1 11, u1 12, u1 13, u1 14, u2 0, u2 1, u2 2, u2 3, u2 4] rfl rfl (fun zz2 hzz2 H locs hP hD hS => ?_)
  have hP : va_P D vwCl (qw_Q u1 cA zz1.1 ++ qw_X u2 cA zz2.1) H := hP
  have hD : va_D A (qw_Q u1 cA zz1.1 ++ qw_X u2 cA zz2.1) := hD
  refine W.eq (g2 := F0 m 532 ls [.int zz2.2, .int zz1.2]) rfl ?_
  have hV := qp_back hL
  rw [hzz1, hzz2] at hV
  have heq : zz1.2 = zz2.2 := hV.2
  have hL := hV.1
  refine lv_icmp_eq (tgt := 537) hx hb d_L_law_532 (by decide) (fun _ => ?_) (fun h => False.elim (h heq))
  exact kk zz1.1 zz2.1 ls _ _ hL hl hP hD hS
