set_option maxHeartbeats 4000000 in
set_option maxRecDepth 100000 in
theorem lw_c3 {p : Program} {l : Launch} {e : Env} {s : State} {m : MethodId} {below : List Frame} {meth : Method} {c : Code} {b L : Nat} {xs : Nat → Int32} {D : va_G} {cA : ClassId} {u1 u2 : Nat → Nat} {A : Nat → Prop} {Z : State → Prop} {i : Nat} {sq : qs_Q} {sx : qs_X} {ls : Array Slot} {H : Heap} {locs : List Loc} (hx : p.tables.exec = Jvm.exec) (hb : c.code = code) (hml : c.maxLocals = 4) (hown : s.vm.findClass R_L = some m.cls) (hts : ∀ w ∈ qx_T, w.before #[Value.ref b] s = true) (hX : va_X b L xs s s.heap) (hbl : b < s.heap.size) (hbA : ¬ A b) (hK : va_K D vwCl [(cA, .int)] s) (hN : qn s) (hi0 : vp_in (nI i) L) (hi1 : vp_in (nI i + 1) L) (hi2 : vp_in (nI i + 2) L) (hi3 : vp_in (nI i + 3) L) (hL : qL sq sx) (hl : lv_has ls 4 [(0, .ref b), (1, .ref (u1 0)), (2, .ref (u2 0)), (3, .int (nI i))]) (hP : va_P D vwCl (qw_Q u1 cA sq ++ qw_X u2 cA sx) H) (hD : va_D A (qw_Q u1 cA sq ++ qw_X u2 cA sx)) (hS : va_S A s.heap H locs) (kk : ∀ (sq : qs_Q) (sx : qs_X) (ls : Array Slot) (H : Heap) (locs : List Loc), qL sq sx → lv_has ls 4 [(0, .ref b), (1, .ref (u1 0)), (2, .ref (u2 0)), (3, .int (nI i))] → va_P D vwCl (qw_Q u1 cA sq ++ qw_X u2 cA sx) H → va_D A (qw_Q u1 cA sq ++ qw_X u2 cA sx) → va_S A s.heap H locs → W p l e room_1 s m #[Value.ref b] below meth c H locs 20 637 Z (F0 m 537 ls [])) : W p l e room_1 s m #[Value.ref b] below meth c H locs 20 637 Z (F0 m 227 ls []) := by
  refine lv_aload_n hx hb d_L_law_227 rfl (lv_at hl 1 rfl) ?_
  refine lv_aload_n hx hb d_L_law_228 rfl (lv_at hl 0 rfl) ?_
  refine lv_iload_n hx hb d_L_law_229 rfl (lv_at hl 3 rfl) ?_
  refine lv_iconst (v := 1) hx hb d_L_law_230 (by decide) ?_
  refine lv_iadd hx hb d_L_law_231 ?_
  refine va_sld hx hb hX hbl hbA hS (show vp_in (nI i + 1) L from hi1) d_L_law_232 ?_
  refine lv_aload_n hx hb d_L_law_233 rfl (lv_at hl 0 rfl) ?_
  refine lv_iload_n hx hb d_L_law_234 rfl (lv_at hl 3 rfl) ?_
  refine lv_iconst (v := 2) hx hb d_L_law_235 (by decide) ?_
  refine lv_iadd hx hb d_L_law_236 ?_
  refine va_sld hx hb hX hbl hbA hS (show vp_in (nI i + 2) L from hi2) d_L_law_237 ?_
  refine qx_muZ (T := qf_Q_setSpace sq (xs (Int32.toNatClampNeg (nI i + 1))) (xs (Int32.toNatClampNeg (nI i + 2)))) (Wf := fun zz : qs_Q × Int32 => qw_Q u1 cA zz.1 ++ qw_X u2 cA sx) (vf := fun zz => some (.int zz.2)) (va_runV (As := [.int (xs (Int32.toNatClampNeg (nI i + 1))), .int (xs (Int32.toNatClampNeg (nI i + 2)))]) (rest := []) ⟨hx, hb, hml, hown, hts⟩ (c_Q_setSpace l D cA u1 sq (xs (Int32.toNatClampNeg (nI i + 1))) (xs (Int32.toNatClampNeg (nI i + 2)))) (qx_kV hts mw_168 mw_169 mw_170 mw_29 mw_171 cd_Q_setSpace ⟨Nat.le_of_ble_eq_true rfl, Nat.le_of_ble_eq_true rfl⟩) (qx_preV (q0 := 0) (ci := 0) (q := (R_Q, T_Q, 5)) hP hD hK hN [0, 1, 2, 3, 4, 5, 6, 7, 8, 9, 10, 11, 12, 13, 14] rfl rfl rfl rfl) rfl rfl hl.1 rfl (lv_room (Nat.le_of_ble_eq_true rfl)) d_L_law_238 ⟨Nat.le_of_ble_eq_true rfl, Nat.le_of_ble_eq_true rfl⟩) hP hD hS [0, 1, 2, 3, 4, 5, 6, 7, 8, 9, 10, 11, 12, 13, 14] rfl rfl [u1 0, u1 1, u1 2, u1 3, u1 4, u1 5, u1 6, u1 7, u1 8, u1 9, u1 10, u1 11, u1 12, u1 13, u1 14, u2 0, u2 1, u2 2, u2 3, u2 4] rfl rfl (fun zz1 hzz1 H locs hP hD hS => ?_)
  have hP : va_P D vwCl (qw_Q u1 cA zz1.1 ++ qw_X u2 cA sx) H := hP
  have hD : va_D A (qw_Q u1 cA zz1.1 ++ qw_X u2 cA sx) := hD
  refine W.eq (g2 := F0 m 241 ls [.int zz1.2]) rfl ?_
  refine lv_aload_n hx hb d_L_law_241 rfl (lv_at hl 2 rfl) ?_
  refine lv_aload_n hx hb d_L_law_242 rfl (lv_at hl 0 rfl) ?_
  refine lv_iload_n hx hb d_L_law_243 rfl (lv_at hl 3 rfl) ?_
  refine lv_iconst (v := 1) hx hb d_L_law_244 (by decide) ?_
  refine lv_iadd hx hb d_L_law_245 ?_
  refine va_sld hx hb hX hbl hbA hS (show vp_in (nI i + 1) L from hi1) d_L_law_246 ?_
  refine lv_aload_n hx hb d_L_law_247 rfl (lv_at hl 0 rfl) ?_
  refine lv_iload_n hx hb d_L_law_248 rfl (lv_at hl 3 rfl) ?_
  refine lv_iconst (v := 2) hx hb d_L_law_249 (by decide) ?_
  refine lv_iadd hx hb d_L_law_250 ?_
  refine va_sld hx hb hX hbl hbA hS (show vp_in (nI i + 2) L from hi2) d_L_law_251 ?_
  refine qx_muZ (T := qf_X_setSpace sx (xs (Int32.toNatClampNeg (nI i + 1))) (xs (Int32.toNatClampNeg (nI i + 2)))) (Wf := fun zz : qs_X × Int32 => qw_Q u1 cA zz1.1 ++ qw_X u2 cA zz.1) (vf := fun zz => some (.int zz.2)) (va_runV (As := [.int (xs (Int32.toNatClampNeg (nI i + 1))), .int (xs (Int32.toNatClampNeg (nI i + 2)))]) (rest := [.int zz1.2]) ⟨hx, hb, hml, hown, hts⟩ (c_X_setSpace l D cA u2 sx (xs (Int32.toNatClampNeg (nI i + 1))) (xs (Int32.toNatClampNeg (nI i + 2)))) (qx_kV hts mw_413 mw_414 mw_415 mw_33 mw_416 cd_X_setSpace ⟨Nat.le_of_ble_eq_true rfl, Nat.le_of_ble_eq_true rfl⟩) (qx_preV (q0 := 15) (ci := 3) (q := (R_X, T_X, 8)) hP hD hK hN [15, 16, 17, 18, 19] rfl rfl rfl rfl) rfl rfl hl.1 rfl (lv_room (Nat.le_of_ble_eq_true rfl)) d_L_law_252 ⟨Nat.le_of_ble_eq_true rfl, Nat.le_of_ble_eq_true rfl⟩) hP hD hS [15, 16, 17, 18, 19] rfl rfl [u1 0, u1 1, u1 2, u1 3, u1 4, u1 5, u1 6, u1 7, u1 8, u1 9, u1 10, u1 11, u1 12, u1 13, u1 14, u2 0, u2 1, u2 2, u2 3, u2 4] rfl rfl (fun zz2 hzz2 H locs hP hD hS => ?_)
  have hP : va_P D vwCl (qw_Q u1 cA zz1.1 ++ qw_X u2 cA zz2.1) H := hP
  have hD : va_D A (qw_Q u1 cA zz1.1 ++ qw_X u2 cA zz2.1) := hD
  refine W.eq (g2 := F0 m 255 ls [.int zz2.2, .int zz1.2]) rfl ?_
  have hV := qp_setSpace hL (xs (Int32.toNatClampNeg (nI i + 1))) (xs (Int32.toNatClampNeg (nI i + 2)))
  rw [hzz1, hzz2] at hV
  have heq : zz1.2 = zz2.2 := hV.2
  have hL := hV.1
  refine lv_icmp_eq (tgt := 537) hx hb d_L_law_255 (by decide) (fun _ => ?_) (fun h => False.elim (h heq))
  exact kk zz1.1 zz2.1 ls _ _ hL hl hP hD hS
set_option maxHeartbeats 4000000 in
set_option maxRecDepth 100000 in
theorem lw_c4 {p : Program} {l : Launch} {e : Env} {s : State} {m : MethodId} {below : List Frame} {meth : Method} {c : Code} {b L : Nat} {xs : Nat → Int32} {D : va_G} {cA : ClassId} {u1 u2 : Nat → Nat} {A : Nat → Prop} {Z : State → Prop} {i : Nat} {sq : qs_Q} {sx : qs_X} {ls : Array Slot} {H : Heap} {locs : List Loc} (hx : p.tables.exec = Jvm.exec) (hb : c.code = code) (hml : c.maxLocals = 4) (hown : s.vm.findClass R_L = some m.cls) (hts : ∀ w ∈ qx_T, w.before #[Value.ref b] s = true) (hX : va_X b L xs s s.heap) (hbl : b < s.heap.size) (hbA : ¬ A b) (hK : va_K D vwCl [(cA, .int)] s) (hN : qn s) (hi0 : vp_in (nI i) L) (hi1 : vp_in (nI i + 1) L) (hi2 : vp_in (nI i + 2) L) (hi3 : vp_in (nI i + 3) L) (hL : qL sq sx) (hl : lv_has ls 4 [(0, .ref b), (1, .ref (u1 0)), (2, .ref (u2 0)), (3, .int (nI i))]) (hP : va_P D vwCl (qw_Q u1 cA sq ++ qw_X u2 cA sx) H) (hD : va_D A (qw_Q u1 cA sq ++ qw_X u2 cA sx)) (hS : va_S A s.heap H locs) (kk : ∀ (sq : qs_Q) (sx : qs_X) (ls : Array Slot) (H : Heap) (locs : List Loc), qL sq sx → lv_has ls 4 [(0, .ref b), (1, .ref (u1 0)), (2, .ref (u2 0)), (3, .int (nI i))] → va_P D vwCl (qw_Q u1 cA sq ++ qw_X u2 cA sx) H → va_D A (qw_Q u1 cA sq ++ qw_X u2 cA sx) → va_S A s.heap H locs → W p l e room_1 s m #[Value.ref b] below meth c H locs 20 637 Z (F0 m 537 ls [])) : W p l e room_1 s m #[Value.ref b] below meth c H locs 20 637 Z (F0 m 260 ls []) := by
  refine lv_aload_n hx hb d_L_law_260 rfl (lv_at hl 1 rfl) ?_
  refine lv_aload_n hx hb d_L_law_261 rfl (lv_at hl 0 rfl) ?_
  refine lv_iload_n hx hb d_L_law_262 rfl (lv_at hl 3 rfl) ?_
  refine lv_iconst (v := 1) hx hb d_L_law_263 (by decide) ?_
  refine lv_iadd hx hb d_L_law_264 ?_
  refine va_sld hx hb hX hbl hbA hS (show vp_in (nI i + 1) L from hi1) d_L_law_265 ?_
  refine lv_aload_n hx hb d_L_law_266 rfl (lv_at hl 0 rfl) ?_
  refine lv_iload_n hx hb d_L_law_267 rfl (lv_at hl 3 rfl) ?_
  refine lv_iconst (v := 2) hx hb d_L_law_268 (by decide) ?_
  refine lv_iadd hx hb d_L_law_269 ?_
  refine va_sld hx hb hX hbl hbA hS (show vp_in (nI i + 2) L from hi2) d_L_law_270 ?_
  refine lv_aload_n hx hb d_L_law_271 rfl (lv_at hl 0 rfl) ?_
  refine lv_iload_n hx hb d_L_law_272 rfl (lv_at hl 3 rfl) ?_
  refine lv_iconst (v := 3) hx hb d_L_law_273 (by decide) ?_
  refine lv_iadd hx hb d_L_law_274 ?_
  refine va_sld hx hb hX hbl hbA hS (show vp_in (nI i + 3) L from hi3) d_L_law_275 ?_
  refine lv_if_eq (tgt := 283) hx hb d_L_law_276 (by decide) (fun h1 => ?_) (fun h1 => ?_)
  · have h1 : (xs (Int32.toNatClampNeg (nI i + 3))) = 0 := h1
    refine lv_iconst (v := 0) hx hb d_L_law_283 (by decide) ?_
    refine qx_muZ (T := qf_Q_go sq (xs (Int32.toNatClampNeg (nI i + 1))) (xs (Int32.toNatClampNeg (nI i + 2))) (0 : Int32)) (Wf := fun zz : qs_Q × Int32 => qw_Q u1 cA zz.1 ++ qw_X u2 cA sx) (vf := fun zz => some (.int zz.2)) (va_runV (As := [.int (xs (Int32.toNatClampNeg (nI i + 1))), .int (xs (Int32.toNatClampNeg (nI i + 2))), .int 0]) (rest := []) ⟨hx, hb, hml, hown, hts⟩ (c_Q_go l D cA u1 sq (xs (Int32.toNatClampNeg (nI i + 1))) (xs (Int32.toNatClampNeg (nI i + 2))) 0) (qx_kV hts mw_175 mw_176 mw_177 mw_29 mw_178 cd_Q_go ⟨Nat.le_of_ble_eq_true rfl, Nat.le_of_ble_eq_true rfl⟩) (qx_preV (q0 := 0) (ci := 0) (q := (R_Q, T_Q, 5)) hP hD hK hN [0, 1, 2, 3, 4, 5, 6, 7, 8, 9, 10, 11, 12, 13, 14] rfl rfl rfl rfl) rfl rfl hl.1 rfl (lv_room (Nat.le_of_ble_eq_true rfl)) d_L_law_284 ⟨Nat.le_of_ble_eq_true rfl, Nat.le_of_ble_eq_true rfl⟩) hP hD hS [0, 1, 2, 3, 4, 5, 6, 7, 8, 9, 10, 11, 12, 13, 14] rfl rfl [u1 0, u1 1, u1 2, u1 3, u1 4, u1 5, u1 6, u1 7, u1 8, u1 9, u1 10, u1 11, u1 12, u1 13, u1 14, u2 0, u2 1, u2 2, u2 3, u2 4] rfl rfl (fun zz1 hzz1 H locs hP hD hS => ?_)
    have hP : va_P D vwCl (qw_Q u1 cA zz1.1 ++ qw_X u2 cA sx) H := hP
    have hD : va_D A (qw_Q u1 cA zz1.1 ++ qw_X u2 cA sx) := hD
    refine W.eq (g2 := F0 m 287 ls [.int zz1.2]) rfl ?_
    refine lv_aload_n hx hb d_L_law_287 rfl (lv_at hl 2 rfl) ?_
    refine lv_aload_n hx hb d_L_law_288 rfl (lv_at hl 0 rfl) ?_
    refine lv_iload_n hx hb d_L_law_289 rfl (lv_at hl 3 rfl) ?_
    refine lv_iconst (v := 1) hx hb d_L_law_290 (by decide) ?_
    refine lv_iadd hx hb d_L_law_291 ?_
    refine va_sld hx hb hX hbl hbA hS (show vp_in (nI i + 1) L from hi1) d_L_law_292 ?_
    refine lv_aload_n hx hb d_L_law_293 rfl (lv_at hl 0 rfl) ?_
    refine lv_iload_n hx hb d_L_law_294 rfl (lv_at hl 3 rfl) ?_
    refine lv_iconst (v := 2) hx hb d_L_law_295 (by decide) ?_
    refine lv_iadd hx hb d_L_law_296 ?_
    refine va_sld hx hb hX hbl hbA hS (show vp_in (nI i + 2) L from hi2) d_L_law_297 ?_
    refine lv_aload_n hx hb d_L_law_298 rfl (lv_at hl 0 rfl) ?_
    refine lv_iload_n hx hb d_L_law_299 rfl (lv_at hl 3 rfl) ?_
    refine lv_iconst (v := 3) hx hb d_L_law_300 (by decide) ?_
    refine lv_iadd hx hb d_L_law_301 ?_
    refine va_sld hx hb hX hbl hbA hS (show vp_in (nI i + 3) L from hi3) d_L_law_302 ?_
    refine lv_if_eq (tgt := 310) hx hb d_L_law_303 (by decide) (fun _ => ?_) (fun h => False.elim (h h1))
    refine lv_iconst (v := 0) hx hb d_L_law_310 (by decide) ?_
    refine qx_muZ (T := qf_X_go sx (xs (Int32.toNatClampNeg (nI i + 1))) (xs (Int32.toNatClampNeg (nI i + 2))) (0 : Int32)) (Wf := fun zz : qs_X × Int32 => qw_Q u1 cA zz1.1 ++ qw_X u2 cA zz.1) (vf := fun zz => some (.int zz.2)) (va_runV (As := [.int (xs (Int32.toNatClampNeg (nI i + 1))), .int (xs (Int32.toNatClampNeg (nI i + 2))), .int 0]) (rest := [.int zz1.2]) ⟨hx, hb, hml, hown, hts⟩ (c_X_go l D cA u2 sx (xs (Int32.toNatClampNeg (nI i + 1))) (xs (Int32.toNatClampNeg (nI i + 2))) 0) (qx_kV hts mw_417 mw_418 mw_419 mw_33 mw_420 cd_X_go ⟨Nat.le_of_ble_eq_true rfl, Nat.le_of_ble_eq_true rfl⟩) (qx_preV (q0 := 15) (ci := 3) (q := (R_X, T_X, 8)) hP hD hK hN [15, 16, 17, 18, 19] rfl rfl rfl rfl) rfl rfl hl.1 rfl (lv_room (Nat.le_of_ble_eq_true rfl)) d_L_law_311 ⟨Nat.le_of_ble_eq_true rfl, Nat.le_of_ble_eq_true rfl⟩) hP hD hS [15, 16, 17, 18, 19] rfl rfl [u1 0, u1 1, u1 2, u1 3, u1 4, u1 5, u1 6, u1 7, u1 8, u1 9, u1 10, u1 11, u1 12, u1 13, u1 14, u2 0, u2 1, u2 2, u2 3, u2 4] rfl rfl (fun zz2 hzz2 H locs hP hD hS => ?_)
    have hP : va_P D vwCl (qw_Q u1 cA zz1.1 ++ qw_X u2 cA zz2.1) H := hP
    have hD : va_D A (qw_Q u1 cA zz1.1 ++ qw_X u2 cA zz2.1) := hD
    refine W.eq (g2 := F0 m 314 ls [.int zz2.2, .int zz1.2]) rfl ?_
    have hV := qp_go hL (xs (Int32.toNatClampNeg (nI i + 1))) (xs (Int32.toNatClampNeg (nI i + 2))) (0 : Int32)
    rw [hzz1, hzz2] at hV
    have heq : zz1.2 = zz2.2 := hV.2
    have hL := hV.1
    refine lv_icmp_eq (tgt := 537) hx hb d_L_law_314 (by decide) (fun _ => ?_) (fun h => False.elim (h heq))
    exact kk zz1.1 zz2.1 ls _ _ hL hl hP hD hS
  · have h1 : ¬ ((xs (Int32.toNatClampNeg (nI i + 3))) = 0) := h1
    refine lv_iconst (v := 1) hx hb d_L_law_279 (by decide) ?_
    refine lv_goto (tgt := 284) hx hb d_L_law_280 (by decide) ?_
    refine qx_muZ (T := qf_Q_go sq (xs (Int32.toNatClampNeg (nI i + 1))) (xs (Int32.toNatClampNeg (nI i + 2))) (1 : Int32)) (Wf := fun zz : qs_Q × Int32 => qw_Q u1 cA zz.1 ++ qw_X u2 cA sx) (vf := fun zz => some (.int zz.2)) (va_runV (As := [.int (xs (Int32.toNatClampNeg (nI i + 1))), .int (xs (Int32.toNatClampNeg (nI i + 2))), .int 1]) (rest := []) ⟨hx, hb, hml, hown, hts⟩ (c_Q_go l D cA u1 sq (xs (Int32.toNatClampNeg (nI i + 1))) (xs (Int32.toNatClampNeg (nI i + 2))) 1) (qx_kV hts mw_175 mw_176 mw_177 mw_29 mw_178 cd_Q_go ⟨Nat.le_of_ble_eq_true rfl, Nat.le_of_ble_eq_true rfl⟩) (qx_preV (q0 := 0) (ci := 0) (q := (R_Q, T_Q, 5)) hP hD hK hN [0, 1, 2, 3, 4, 5, 6, 7, 8, 9, 10, 11, 12, 13, 14] rfl rfl rfl rfl) rfl rfl hl.1 rfl (lv_room (Nat.le_of_ble_eq_true rfl)) d_L_law_284 ⟨Nat.le_of_ble_eq_true rfl, Nat.le_of_ble_eq_true rfl⟩) hP hD hS [0, 1, 2, 3, 4, 5, 6, 7, 8, 9, 10, 11, 12, 13, 14] rfl rfl [u1 0, u1 1, u1 2, u1 3, u1 4, u1 5, u1 6, u1 7, u1 8, u1 9, u1 10, u1 11, u1 12, u1 13, u1 14, u2 0, u2 1, u2 2, u2 3, u2 4] rfl rfl (fun zz1 hzz1 H locs hP hD hS => ?_)
    have hP : va_P D vwCl (qw_Q u1 cA zz1.1 ++ qw_X u2 cA sx) H := hP
    have hD : va_D A (qw_Q u1 cA zz1.1 ++ qw_X u2 cA sx) := hD
    refine W.eq (g2 := F0 m 287 ls [.int zz1.2]) rfl ?_
    refine lv_aload_n hx hb d_L_law_287 rfl (lv_at hl 2 rfl) ?_
    refine lv_aload_n hx hb d_L_law_288 rfl (lv_at hl 0 rfl) ?_
    refine lv_iload_n hx hb d_L_law_289 rfl (lv_at hl 3 rfl) ?_
    refine lv_iconst (v := 1) hx hb d_L_law_290 (by decide) ?_
    refine lv_iadd hx hb d_L_law_291 ?_
    refine va_sld hx hb hX hbl hbA hS (show vp_in (nI i + 1) L from hi1) d_L_law_292 ?_
    refine lv_aload_n hx hb d_L_law_293 rfl (lv_at hl 0 rfl) ?_
    refine lv_iload_n hx hb d_L_law_294 rfl (lv_at hl 3 rfl) ?_
    refine lv_iconst (v := 2) hx hb d_L_law_295 (by decide) ?_
    refine lv_iadd hx hb d_L_law_296 ?_
    refine va_sld hx hb hX hbl hbA hS (show vp_in (nI i + 2) L from hi2) d_L_law_297 ?_
    refine lv_aload_n hx hb d_L_law_298 rfl (lv_at hl 0 rfl) ?_
    refine lv_iload_n hx hb d_L_law_299 rfl (lv_at hl 3 rfl) ?_
    refine lv_iconst (v := 3) hx hb d_L_law_300 (by decide) ?_
    refine lv_iadd hx hb d_L_law_301 ?_
    refine va_sld hx hb hX hbl hbA hS (show vp_in (nI i + 3) L from hi3) d_L_law_302 ?_
    refine lv_if_eq (tgt := 310) hx hb d_L_law_303 (by decide) (fun h => False.elim (h1 h)) (fun _ => ?_)
    refine lv_iconst (v := 1) hx hb d_L_law_306 (by decide) ?_
    refine lv_goto (tgt := 311) hx hb d_L_law_307 (by decide) ?_
    refine qx_muZ (T := qf_X_go sx (xs (Int32.toNatClampNeg (nI i + 1))) (xs (Int32.toNatClampNeg (nI i + 2))) (1 : Int32)) (Wf := fun zz : qs_X × Int32 => qw_Q u1 cA zz1.1 ++ qw_X u2 cA zz.1) (vf := fun zz => some (.int zz.2)) (va_runV (As := [.int (xs (Int32.toNatClampNeg (nI i + 1))), .int (xs (Int32.toNatClampNeg (nI i + 2))), .int 1]) (rest := [.int zz1.2]) ⟨hx, hb, hml, hown, hts⟩ (c_X_go l D cA u2 sx (xs (Int32.toNatClampNeg (nI i + 1))) (xs (Int32.toNatClampNeg (nI i + 2))) 1) (qx_kV hts mw_417 mw_418 mw_419 mw_33 mw_420 cd_X_go ⟨Nat.le_of_ble_eq_true rfl, Nat.le_of_ble_eq_true rfl⟩) (qx_preV (q0 := 15) (ci := 3) (q := (R_X, T_X, 8)) hP hD hK hN [15, 16, 17, 18, 19] rfl rfl rfl rfl) rfl rfl hl.1 rfl (lv_room (Nat.le_of_ble_eq_true rfl)) d_L_law_311 ⟨Nat.le_of_ble_eq_true rfl, Nat.le_of_ble_eq_true rfl⟩) hP hD hS [15, 16, 17, 18, 19] rfl rfl [u1 0, u1 1, u1 2, u1 3, u1 4, u1 5, u1 6, u1 7, u1 8, u1 9, u1 10, u1 11, u1 12, u1 13, u1 14, u2 0, u2 1, u2 2, u2 3, u2 4] rfl rfl (fun zz2 hzz2 H locs hP hD hS => ?_)
    have hP : va_P D vwCl (qw_Q u1 cA zz1.1 ++ qw_X u2 cA zz2.1) H := hP
    have hD : va_D A (qw_Q u1 cA zz1.1 ++ qw_X u2 cA zz2.1) := hD
    refine W.eq (g2 := F0 m 314 ls [.int zz2.2, .int zz1.2]) rfl ?_
    have hV := qp_go hL (xs (Int32.toNatClampNeg (nI i + 1))) (xs (Int32.toNatClampNeg (nI i + 2))) (1 : Int32)
    rw [hzz1, hzz2] at hV
    have heq : zz1.2 = zz2.2 := hV.2
    have hL := hV.1
    refine lv_icmp_eq (tgt := 537) hx hb d_L_law_314 (by decide) (fun _ => ?_) (fun h => False.elim (h heq))
    exact kk zz1.1 zz2.1 ls _ _ hL hl hP hD hS
set_option maxHeartbeats 4000000 in
set_option maxRecDepth 100000 in
theorem lw_c5 {p : Program} {l : Launch} {e : Env} {s : State} {m : MethodId} {below : List Frame} {meth : Method} {c : Code} {b L : Nat} {xs : Nat → Int32} {D : va_G} {cA : ClassId} {u1 u2 : Nat → Nat} {A : Nat → Prop} {Z : State → Prop} {i : Nat} {sq : qs_Q} {sx : qs_X} {ls : Array Slot} {H : Heap} {locs : List Loc} (hx : p.tables.exec = Jvm.exec) (hb : c.code = code) (hml : c.maxLocals = 4) (hown : s.vm.findClass R_L = some m.cls) (hts : ∀ w ∈ qx_T, w.before #[Value.ref b] s = true) (hX : va_X b L xs s s.heap) (hbl : b < s.heap.size) (hbA : ¬ A b) (hK : va_K D vwCl [(cA, .int)] s) (hN : qn s) (hi0 : vp_in (nI i) L) (hi1 : vp_in (nI i + 1) L) (hi2 : vp_in (nI i + 2) L) (hi3 : vp_in (nI i + 3) L) (hL : qL sq sx) (hl : lv_has ls 4 [(0, .ref b), (1, .ref (u1 0)), (2, .ref (u2 0)), (3, .int (nI i))]) (hP : va_P D vwCl (qw_Q u1 cA sq ++ qw_X u2 cA sx) H) (hD : va_D A (qw_Q u1 cA sq ++ qw_X u2 cA sx)) (hS : va_S A s.heap H locs) (kk : ∀ (sq : qs_Q) (sx : qs_X) (ls : Array Slot) (H : Heap) (locs : List Loc), qL sq sx → lv_has ls 4 [(0, .ref b), (1, .ref (u1 0)), (2, .ref (u2 0)), (3, .int (nI i))] → va_P D vwCl (qw_Q u1 cA sq ++ qw_X u2 cA sx) H → va_D A (qw_Q u1 cA sq ++ qw_X u2 cA sx) → va_S A s.heap H locs → W p l e room_1 s m #[Value.ref b] below meth c H locs 20 637 Z (F0 m 537 ls [])) : W p l e room_1 s m #[Value.ref b] below meth c H locs 20 637 Z (F0 m 319 ls []) := by
  refine lv_aload_n hx hb d_L_law_319 rfl (lv_at hl 1 rfl) ?_
  refine qx_muZ (T := qf_Q_interrupt sq) (Wf := fun zz : qs_Q × Int32 => qw_Q u1 cA zz.1 ++ qw_X u2 cA sx) (vf := fun zz => some (.int zz.2)) (va_runV (As := []) (rest := []) ⟨hx, hb, hml, hown, hts⟩ (c_Q_interrupt l D cA u1 sq) (qx_kV hts mw_180 mw_181 mw_182 mw_29 mw_183 cd_Q_interrupt ⟨Nat.le_of_ble_eq_true rfl, Nat.le_of_ble_eq_true rfl⟩) (qx_preV (q0 := 0) (ci := 0) (q := (R_Q, T_Q, 5)) hP hD hK hN [0, 1, 2, 3, 4, 5, 6, 7, 8, 9, 10, 11, 12, 13, 14] rfl rfl rfl rfl) rfl rfl hl.1 rfl (lv_room (Nat.le_of_ble_eq_true rfl)) d_L_law_320 ⟨Nat.le_of_ble_eq_true rfl, Nat.le_of_ble_eq_true rfl⟩) hP hD hS [0, 1, 2, 3, 4, 5, 6, 7, 8, 9, 10, 11, 12, 13, 14] rfl rfl [u1 0, u1 1, u1 2, u1 3, u1 4, u1 5, u1 6, u1 7, u1 8, u1 9, u1 10, u1 11, u1 12, u1 13, u1 14, u2 0, u2 1, u2 2, u2 3, u2 4] rfl rfl (fun zz1 hzz1 H locs hP hD hS => ?_)
  have hP : va_P D vwCl (qw_Q u1 cA zz1.1 ++ qw_X u2 cA sx) H := hP
  have hD : va_D A (qw_Q u1 cA zz1.1 ++ qw_X u2 cA sx) := hD
  refine W.eq (g2 := F0 m 323 ls [.int zz1.2]) rfl ?_
  refine lv_aload_n hx hb d_L_law_323 rfl (lv_at hl 2 rfl) ?_
  refine qx_muZ (T := qf_X_interrupt sx) (Wf := fun zz : qs_X × Int32 => qw_Q u1 cA zz1.1 ++ qw_X u2 cA zz.1) (vf := fun zz => some (.int zz.2)) (va_runV (As := []) (rest := [.int zz1.2]) ⟨hx, hb, hml, hown, hts⟩ (c_X_interrupt l D cA u2 sx) (qx_kV hts mw_424 mw_425 mw_426 mw_33 mw_427 cd_X_interrupt ⟨Nat.le_of_ble_eq_true rfl, Nat.le_of_ble_eq_true rfl⟩) (qx_preV (q0 := 15) (ci := 3) (q := (R_X, T_X, 8)) hP hD hK hN [15, 16, 17, 18, 19] rfl rfl rfl rfl) rfl rfl hl.1 rfl (lv_room (Nat.le_of_ble_eq_true rfl)) d_L_law_324 ⟨Nat.le_of_ble_eq_true rfl, Nat.le_of_ble_eq_true rfl⟩) hP hD hS [15, 16, 17, 18, 19] rfl rfl [u1 0, u1 1, u1 2, u1 3, u1 4, u1 5, u1 6, u1 7, u1 8, u1 9, u1 10, u1 11, u1 12, u1 13, u1 14, u2 0, u2 1, u2 2, u2 3, u2 4] rfl rfl (fun zz2 hzz2 H locs hP hD hS => ?_)
  have hP : va_P D vwCl (qw_Q u1 cA zz1.1 ++ qw_X u2 cA zz2.1) H := hP
  have hD : va_D A (qw_Q u1 cA zz1.1 ++ qw_X u2 cA zz2.1) := hD
  refine W.eq (g2 := F0 m 327 ls [.int zz2.2, .int zz1.2]) rfl ?_
  have hV := qp_interrupt hL
  rw [hzz1, hzz2] at hV
  have heq : zz1.2 = zz2.2 := hV.2
  have hL := hV.1
  refine lv_icmp_eq (tgt := 537) hx hb d_L_law_327 (by decide) (fun _ => ?_) (fun h => False.elim (h heq))
  exact kk zz1.1 zz2.1 ls _ _ hL hl hP hD hS
