set_option maxHeartbeats 4000000 in
set_option maxRecDepth 100000 in
theorem lw_c0 {p : Program} {l : Launch} {e : Env} {s : State} {m : MethodId} {below : List Frame} {meth : Method} {c : Code} {b L : Nat} {xs : Nat → Int32} {D : va_G} {cA : ClassId} {u1 u2 : Nat → Nat} {A : Nat → Prop} {Z : State → Prop} {i : Nat} {sq : qs_Q} {sx : qs_X} {ls : Array Slot} {H : Heap} {locs : List Loc} (hx : p.tables.exec = Jvm.exec) (hb : c.code = code) (hml : c.maxLocals = 4) (hown : s.vm.findClass R_L = some m.cls) (hts : ∀ w ∈ qx_T, w.before #[Value.ref b] s = true) (hX : va_X b L xs s s.heap) (hbl : b < s.heap.size) (hbA : ¬ A b) (hK : va_K D vwCl [(cA, .int)] s) (hN : qn s) (hi0 : vp_in (nI i) L) (hi1 : vp_in (nI i + 1) L) (hi2 : vp_in (nI i + 2) L) (hi3 : vp_in (nI i + 3) L) (hL : qL sq sx) (hl : lv_has ls 4 [(0, .ref b), (1, .ref (u1 0)), (2, .ref (u2 0)), (3, .int (nI i))]) (hP : va_P D vwCl (qw_Q u1 cA sq ++ qw_X u2 cA sx) H) (hD : va_D A (qw_Q u1 cA sq ++ qw_X u2 cA sx)) (hS : va_S A s.heap H locs) (kk : ∀ (sq : qs_Q) (sx : qs_X) (ls : Array Slot) (H : Heap) (locs : List Loc), qL sq sx → lv_has ls 4 [(0, .ref b), (1, .ref (u1 0)), (2, .ref (u2 0)), (3, .int (nI i))] → va_P D vwCl (qw_Q u1 cA sq ++ qw_X u2 cA sx) H → va_D A (qw_Q u1 cA sq ++ qw_X u2 cA sx) → va_S A s.heap H locs → W p l e room_1 s m #[Value.ref b] below meth c H locs 20 637 Z (F0 m 537 ls [])) : W p l e room_1 s m #[Value.ref b] below meth c H locs 20 637 Z (F0 m 108 ls []) := by
  refine lv_aload_n hx hb d_L_law_108 rfl (lv_at hl 1 rfl) ?_
  refine lv_aload_n hx hb d_L_law_109 rfl (lv_at hl 0 rfl) ?_
  refine lv_iload_n hx hb d_L_law_110 rfl (lv_at hl 3 rfl) ?_
  refine lv_iconst (v := 1) hx hb d_L_law_111 (by decide) ?_
  refine lv_iadd hx hb d_L_law_112 ?_
  refine va_sld hx hb hX hbl hbA hS (show vp_in (nI i + 1) L from hi1) d_L_law_113 ?_
  refine lv_aload_n hx hb d_L_law_114 rfl (lv_at hl 0 rfl) ?_
  refine lv_iload_n hx hb d_L_law_115 rfl (lv_at hl 3 rfl) ?_
  refine lv_iconst (v := 2) hx hb d_L_law_116 (by decide) ?_
  refine lv_iadd hx hb d_L_law_117 ?_
  refine va_sld hx hb hX hbl hbA hS (show vp_in (nI i + 2) L from hi2) d_L_law_118 ?_
  refine lv_aload_n hx hb d_L_law_119 rfl (lv_at hl 0 rfl) ?_
  refine lv_iload_n hx hb d_L_law_120 rfl (lv_at hl 3 rfl) ?_
  refine lv_iconst (v := 3) hx hb d_L_law_121 (by decide) ?_
  refine lv_iadd hx hb d_L_law_122 ?_
  refine va_sld hx hb hX hbl hbA hS (show vp_in (nI i + 3) L from hi3) d_L_law_123 ?_
  refine qx_muZ (T := qf_Q_code sq (xs (Int32.toNatClampNeg (nI i + 1))) (xs (Int32.toNatClampNeg (nI i + 2))) (xs (Int32.toNatClampNeg (nI i + 3)))) (Wf := fun zz : qs_Q × Int32 => qw_Q u1 cA zz.1 ++ qw_X u2 cA sx) (vf := fun zz => some (.int zz.2)) (va_runV (As := [.int (xs (Int32.toNatClampNeg (nI i + 1))), .int (xs (Int32.toNatClampNeg (nI i + 2))), .int (xs (Int32.toNatClampNeg (nI i + 3)))]) (rest := []) ⟨hx, hb, hml, hown, hts⟩ (c_Q_code l D cA u1 sq (xs (Int32.toNatClampNeg (nI i + 1))) (xs (Int32.toNatClampNeg (nI i + 2))) (xs (Int32.toNatClampNeg (nI i + 3)))) (qx_kV hts mw_140 mw_141 mw_142 mw_29 mw_143 cd_Q_code ⟨Nat.le_of_ble_eq_true rfl, Nat.le_of_ble_eq_true rfl⟩) (qx_preV (q0 := 0) (ci := 0) (q := (R_Q, T_Q, 5)) hP hD hK hN [0, 1, 2, 3, 4, 5, 6, 7, 8, 9, 10, 11, 12, 13, 14] rfl rfl rfl rfl) rfl rfl hl.1 rfl (lv_room (Nat.le_of_ble_eq_true rfl)) d_L_law_124 ⟨Nat.le_of_ble_eq_true rfl, Nat.le_of_ble_eq_true rfl⟩) hP hD hS [0, 1, 2, 3, 4, 5, 6, 7, 8, 9, 10, 11, 12, 13, 14] rfl rfl [u1 0, u1 1, u1 2, u1 3, u1 4, u1 5, u1 6, u1 7, u1 8, u1 9, u1 10, u1 11, u1 12, u1 13, u1 14, u2 0, u2 1, u2 2, u2 3, u2 4] rfl rfl (fun zz1 hzz1 H locs hP hD hS => ?_)
  have hP : va_P D vwCl (qw_Q u1 cA zz1.1 ++ qw_X u2 cA sx) H := hP
  have hD : va_D A (qw_Q u1 cA zz1.1 ++ qw_X u2 cA sx) := hD
  refine W.eq (g2 := F0 m 127 ls [.int zz1.2]) rfl ?_
  refine lv_aload_n hx hb d_L_law_127 rfl (lv_at hl 2 rfl) ?_
  refine lv_aload_n hx hb d_L_law_128 rfl (lv_at hl 0 rfl) ?_
  refine lv_iload_n hx hb d_L_law_129 rfl (lv_at hl 3 rfl) ?_
  refine lv_iconst (v := 1) hx hb d_L_law_130 (by decide) ?_
  refine lv_iadd hx hb d_L_law_131 ?_
  refine va_sld hx hb hX hbl hbA hS (show vp_in (nI i + 1) L from hi1) d_L_law_132 ?_
  refine lv_aload_n hx hb d_L_law_133 rfl (lv_at hl 0 rfl) ?_
  refine lv_iload_n hx hb d_L_law_134 rfl (lv_at hl 3 rfl) ?_
  refine lv_iconst (v := 2) hx hb d_L_law_135 (by decide) ?_
  refine lv_iadd hx hb d_L_law_136 ?_
  refine va_sld hx hb hX hbl hbA hS (show vp_in (nI i + 2) L from hi2) d_L_law_137 ?_
  refine lv_aload_n hx hb d_L_law_138 rfl (lv_at hl 0 rfl) ?_
  refine lv_iload_n hx hb d_L_law_139 rfl (lv_at hl 3 rfl) ?_
  refine lv_iconst (v := 3) hx hb d_L_law_140 (by decide) ?_
  refine lv_iadd hx hb d_L_law_141 ?_
  refine va_sld hx hb hX hbl hbA hS (show vp_in (nI i + 3) L from hi3) d_L_law_142 ?_
  refine qx_muZ (T := qf_X_code sx (xs (Int32.toNatClampNeg (nI i + 1))) (xs (Int32.toNatClampNeg (nI i + 2))) (xs (Int32.toNatClampNeg (nI i + 3)))) (Wf := fun zz : qs_X × Int32 => qw_Q u1 cA zz1.1 ++ qw_X u2 cA zz.1) (vf := fun zz => some (.int zz.2)) (va_runV (As := [.int (xs (Int32.toNatClampNeg (nI i + 1))), .int (xs (Int32.toNatClampNeg (nI i + 2))), .int (xs (Int32.toNatClampNeg (nI i + 3)))]) (rest := [.int zz1.2]) ⟨hx, hb, hml, hown, hts⟩ (c_X_code l D cA u2 sx (xs (Int32.toNatClampNeg (nI i + 1))) (xs (Int32.toNatClampNeg (nI i + 2))) (xs (Int32.toNatClampNeg (nI i + 3)))) (qx_kV hts mw_395 mw_396 mw_397 mw_33 mw_398 cd_X_code ⟨Nat.le_of_ble_eq_true rfl, Nat.le_of_ble_eq_true rfl⟩) (qx_preV (q0 := 15) (ci := 3) (q := (R_X, T_X, 8)) hP hD hK hN [15, 16, 17, 18, 19] rfl rfl rfl rfl) rfl rfl hl.1 rfl (lv_room (Nat.le_of_ble_eq_true rfl)) d_L_law_143 ⟨Nat.le_of_ble_eq_true rfl, Nat.le_of_ble_eq_true rfl⟩) hP hD hS [15, 16, 17, 18, 19] rfl rfl [u1 0, u1 1, u1 2, u1 3, u1 4, u1 5, u1 6, u1 7, u1 8, u1 9, u1 10, u1 11, u1 12, u1 13, u1 14, u2 0, u2 1, u2 2, u2 3, u2 4] rfl rfl (fun zz2 hzz2 H locs hP hD hS => ?_)
  have hP : va_P D vwCl (qw_Q u1 cA zz1.1 ++ qw_X u2 cA zz2.1) H := hP
  have hD : va_D A (qw_Q u1 cA zz1.1 ++ qw_X u2 cA zz2.1) := hD
  refine W.eq (g2 := F0 m 146 ls [.int zz2.2, .int zz1.2]) rfl ?_
  have hV := qp_code hL (xs (Int32.toNatClampNeg (nI i + 1))) (xs (Int32.toNatClampNeg (nI i + 2))) (xs (Int32.toNatClampNeg (nI i + 3)))
  rw [hzz1, hzz2] at hV
  have heq : zz1.2 = zz2.2 := hV.2
  have hL := hV.1
  refine lv_icmp_eq (tgt := 537) hx hb d_L_law_146 (by decide) (fun _ => ?_) (fun h => False.elim (h heq))
  exact kk zz1.1 zz2.1 ls _ _ hL hl hP hD hS
set_option maxHeartbeats 4000000 in
set_option maxRecDepth 100000 in
theorem lw_c1 {p : Program} {l : Launch} {e : Env} {s : State} {m : MethodId} {below : List Frame} {meth : Method} {c : Code} {b L : Nat} {xs : Nat → Int32} {D : va_G} {cA : ClassId} {u1 u2 : Nat → Nat} {A : Nat → Prop} {Z : State → Prop} {i : Nat} {sq : qs_Q} {sx : qs_X} {ls : Array Slot} {H : Heap} {locs : List Loc} (hx : p.tables.exec = Jvm.exec) (hb : c.code = code) (hml : c.maxLocals = 4) (hown : s.vm.findClass R_L = some m.cls) (hts : ∀ w ∈ qx_T, w.before #[Value.ref b] s = true) (hX : va_X b L xs s s.heap) (hbl : b < s.heap.size) (hbA : ¬ A b) (hK : va_K D vwCl [(cA, .int)] s) (hN : qn s) (hi0 : vp_in (nI i) L) (hi1 : vp_in (nI i + 1) L) (hi2 : vp_in (nI i + 2) L) (hi3 : vp_in (nI i + 3) L) (hL : qL sq sx) (hl : lv_has ls 4 [(0, .ref b), (1, .ref (u1 0)), (2, .ref (u2 0)), (3, .int (nI i))]) (hP : va_P D vwCl (qw_Q u1 cA sq ++ qw_X u2 cA sx) H) (hD : va_D A (qw_Q u1 cA sq ++ qw_X u2 cA sx)) (hS : va_S A s.heap H locs) (kk : ∀ (sq : qs_Q) (sx : qs_X) (ls : Array Slot) (H : Heap) (locs : List Loc), qL sq sx → lv_has ls 4 [(0, .ref b), (1, .ref (u1 0)), (2, .ref (u2 0)), (3, .int (nI i))] → va_P D vwCl (qw_Q u1 cA sq ++ qw_X u2 cA sx) H → va_D A (qw_Q u1 cA sq ++ qw_X u2 cA sx) → va_S A s.heap H locs → W p l e room_1 s m #[Value.ref b] below meth c H locs 20 637 Z (F0 m 537 ls [])) : W p l e room_1 s m #[Value.ref b] below meth c H locs 20 637 Z (F0 m 151 ls []) := by
  refine lv_aload_n hx hb d_L_law_151 rfl (lv_at hl 1 rfl) ?_
  refine lv_aload_n hx hb d_L_law_152 rfl (lv_at hl 0 rfl) ?_
  refine lv_iload_n hx hb d_L_law_153 rfl (lv_at hl 3 rfl) ?_
  refine lv_iconst (v := 1) hx hb d_L_law_154 (by decide) ?_
  refine lv_iadd hx hb d_L_law_155 ?_
  refine va_sld hx hb hX hbl hbA hS (show vp_in (nI i + 1) L from hi1) d_L_law_156 ?_
  refine lv_aload_n hx hb d_L_law_157 rfl (lv_at hl 0 rfl) ?_
  refine lv_iload_n hx hb d_L_law_158 rfl (lv_at hl 3 rfl) ?_
  refine lv_iconst (v := 2) hx hb d_L_law_159 (by decide) ?_
  refine lv_iadd hx hb d_L_law_160 ?_
  refine va_sld hx hb hX hbl hbA hS (show vp_in (nI i + 2) L from hi2) d_L_law_161 ?_
  refine lv_aload_n hx hb d_L_law_162 rfl (lv_at hl 0 rfl) ?_
  refine lv_iload_n hx hb d_L_law_163 rfl (lv_at hl 3 rfl) ?_
  refine lv_iconst (v := 3) hx hb d_L_law_164 (by decide) ?_
  refine lv_iadd hx hb d_L_law_165 ?_
  refine va_sld hx hb hX hbl hbA hS (show vp_in (nI i + 3) L from hi3) d_L_law_166 ?_
  refine qx_muZ (T := qf_Q_data sq (xs (Int32.toNatClampNeg (nI i + 1))) (xs (Int32.toNatClampNeg (nI i + 2))) (xs (Int32.toNatClampNeg (nI i + 3)))) (Wf := fun zz : qs_Q × Int32 => qw_Q u1 cA zz.1 ++ qw_X u2 cA sx) (vf := fun zz => some (.int zz.2)) (va_runV (As := [.int (xs (Int32.toNatClampNeg (nI i + 1))), .int (xs (Int32.toNatClampNeg (nI i + 2))), .int (xs (Int32.toNatClampNeg (nI i + 3)))]) (rest := []) ⟨hx, hb, hml, hown, hts⟩ (c_Q_data l D cA u1 sq (xs (Int32.toNatClampNeg (nI i + 1))) (xs (Int32.toNatClampNeg (nI i + 2))) (xs (Int32.toNatClampNeg (nI i + 3)))) (qx_kV hts mw_151 mw_152 mw_153 mw_29 mw_154 cd_Q_data ⟨Nat.le_of_ble_eq_true rfl, Nat.le_of_ble_eq_true rfl⟩) (qx_preV (q0 := 0) (ci := 0) (q := (R_Q, T_Q, 5)) hP hD hK hN [0, 1, 2, 3, 4, 5, 6, 7, 8, 9, 10, 11, 12, 13, 14] rfl rfl rfl rfl) rfl rfl hl.1 rfl (lv_room (Nat.le_of_ble_eq_true rfl)) d_L_law_167 ⟨Nat.le_of_ble_eq_true rfl, Nat.le_of_ble_eq_true rfl⟩) hP hD hS [0, 1, 2, 3, 4, 5, 6, 7, 8, 9, 10, 11, 12, 13, 14] rfl rfl [u1 0, u1 1, u1 2, u1 3, u1 4, u1 5, u1 6, u1 7, u1 8, u1 9, u1 10, u1 11, u1 12, u1 13, u1 14, u2 0, u2 1, u2 2, u2 3, u2 4] rfl rfl (fun zz1 hzz1 H locs hP hD hS => ?_)
  have hP : va_P D vwCl (qw_Q u1 cA zz1.1 ++ qw_X u2 cA sx) H := hP
  have hD : va_D A (qw_Q u1 cA zz1.1 ++ qw_X u2 cA sx) := hD
  refine W.eq (g2 := F0 m 170 ls [.int zz1.2]) rfl ?_
  refine lv_aload_n hx hb d_L_law_170 rfl (lv_at hl 2 rfl) ?_
  refine lv_aload_n hx hb d_L_law_171 rfl (lv_at hl 0 rfl) ?_
  refine lv_iload_n hx hb d_L_law_172 rfl (lv_at hl 3 rfl) ?_
  refine lv_iconst (v := 1) hx hb d_L_law_173 (by decide) ?_
  refine lv_iadd hx hb d_L_law_174 ?_
  refine va_sld hx hb hX hbl hbA hS (show vp_in (nI i + 1) L from hi1) d_L_law_175 ?_
  refine lv_aload_n hx hb d_L_law_176 rfl (lv_at hl 0 rfl) ?_
  refine lv_iload_n hx hb d_L_law_177 rfl (lv_at hl 3 rfl) ?_
  refine lv_iconst (v := 2) hx hb d_L_law_178 (by decide) ?_
  refine lv_iadd hx hb d_L_law_179 ?_
  refine va_sld hx hb hX hbl hbA hS (show vp_in (nI i + 2) L from hi2) d_L_law_180 ?_
  refine lv_aload_n hx hb d_L_law_181 rfl (lv_at hl 0 rfl) ?_
  refine lv_iload_n hx hb d_L_law_182 rfl (lv_at hl 3 rfl) ?_
  refine lv_iconst (v := 3) hx hb d_L_law_183 (by decide) ?_
  refine lv_iadd hx hb d_L_law_184 ?_
  refine va_sld hx hb hX hbl hbA hS (show vp_in (nI i + 3) L from hi3) d_L_law_185 ?_
  refine qx_muZ (T := qf_X_data sx (xs (Int32.toNatClampNeg (nI i + 1))) (xs (Int32.toNatClampNeg (nI i + 2))) (xs (Int32.toNatClampNeg (nI i + 3)))) (Wf := fun zz : qs_X × Int32 => qw_Q u1 cA zz1.1 ++ qw_X u2 cA zz.1) (vf := fun zz => some (.int zz.2)) (va_runV (As := [.int (xs (Int32.toNatClampNeg (nI i + 1))), .int (xs (Int32.toNatClampNeg (nI i + 2))), .int (xs (Int32.toNatClampNeg (nI i + 3)))]) (rest := [.int zz1.2]) ⟨hx, hb, hml, hown, hts⟩ (c_X_data l D cA u2 sx (xs (Int32.toNatClampNeg (nI i + 1))) (xs (Int32.toNatClampNeg (nI i + 2))) (xs (Int32.toNatClampNeg (nI i + 3)))) (qx_kV hts mw_405 mw_406 mw_407 mw_33 mw_408 cd_X_data ⟨Nat.le_of_ble_eq_true rfl, Nat.le_of_ble_eq_true rfl⟩) (qx_preV (q0 := 15) (ci := 3) (q := (R_X, T_X, 8)) hP hD hK hN [15, 16, 17, 18, 19] rfl rfl rfl rfl) rfl rfl hl.1 rfl (lv_room (Nat.le_of_ble_eq_true rfl)) d_L_law_186 ⟨Nat.le_of_ble_eq_true rfl, Nat.le_of_ble_eq_true rfl⟩) hP hD hS [15, 16, 17, 18, 19] rfl rfl [u1 0, u1 1, u1 2, u1 3, u1 4, u1 5, u1 6, u1 7, u1 8, u1 9, u1 10, u1 11, u1 12, u1 13, u1 14, u2 0, u2 1, u2 2, u2 3, u2 4] rfl rfl (fun zz2 hzz2 H locs hP hD hS => ?_)
  have hP : va_P D vwCl (qw_Q u1 cA zz1.1 ++ qw_X u2 cA zz2.1) H := hP
  have hD : va_D A (qw_Q u1 cA zz1.1 ++ qw_X u2 cA zz2.1) := hD
  refine W.eq (g2 := F0 m 189 ls [.int zz2.2, .int zz1.2]) rfl ?_
  have hV := qp_data hL (xs (Int32.toNatClampNeg (nI i + 1))) (xs (Int32.toNatClampNeg (nI i + 2))) (xs (Int32.toNatClampNeg (nI i + 3)))
  rw [hzz1, hzz2] at hV
  have heq : zz1.2 = zz2.2 := hV.2
  have hL := hV.1
  refine lv_icmp_eq (tgt := 537) hx hb d_L_law_189 (by decide) (fun _ => ?_) (fun h => False.elim (h heq))
  exact kk zz1.1 zz2.1 ls _ _ hL hl hP hD hS
set_option maxHeartbeats 4000000 in
set_option maxRecDepth 100000 in
theorem lw_c2 {p : Program} {l : Launch} {e : Env} {s : State} {m : MethodId} {below : List Frame} {meth : Method} {c : Code} {b L : Nat} {xs : Nat → Int32} {D : va_G} {cA : ClassId} {u1 u2 : Nat → Nat} {A : Nat → Prop} {Z : State → Prop} {i : Nat} {sq : qs_Q} {sx : qs_X} {ls : Array Slot} {H : Heap} {locs : List Loc} (hx : p.tables.exec = Jvm.exec) (hb : c.code = code) (hml : c.maxLocals = 4) (hown : s.vm.findClass R_L = some m.cls) (hts : ∀ w ∈ qx_T, w.before #[Value.ref b] s = true) (hX : va_X b L xs s s.heap) (hbl : b < s.heap.size) (hbA : ¬ A b) (hK : va_K D vwCl [(cA, .int)] s) (hN : qn s) (hi0 : vp_in (nI i) L) (hi1 : vp_in (nI i + 1) L) (hi2 : vp_in (nI i + 2) L) (hi3 : vp_in (nI i + 3) L) (hL : qL sq sx) (hl : lv_has ls 4 [(0, .ref b), (1, .ref (u1 0)), (2, .ref (u2 0)), (3, .int (nI i))]) (hP : va_P D vwCl (qw_Q u1 cA sq ++ qw_X u2 cA sx) H) (hD : va_D A (qw_Q u1 cA sq ++ qw_X u2 cA sx)) (hS : va_S A s.heap H locs) (kk : ∀ (sq : qs_Q) (sx : qs_X) (ls : Array Slot) (H : Heap) (locs : List Loc), qL sq sx → lv_has ls 4 [(0, .ref b), (1, .ref (u1 0)), (2, .ref (u2 0)), (3, .int (nI i))] → va_P D vwCl (qw_Q u1 cA sq ++ qw_X u2 cA sx) H → va_D A (qw_Q u1 cA sq ++ qw_X u2 cA sx) → va_S A s.heap H locs → W p l e room_1 s m #[Value.ref b] below meth c H locs 20 637 Z (F0 m 537 ls [])) : W p l e room_1 s m #[Value.ref b] below meth c H locs 20 637 Z (F0 m 194 ls []) := by
  refine lv_aload_n hx hb d_L_law_194 rfl (lv_at hl 1 rfl) ?_
  refine lv_aload_n hx hb d_L_law_195 rfl (lv_at hl 0 rfl) ?_
  refine lv_iload_n hx hb d_L_law_196 rfl (lv_at hl 3 rfl) ?_
  refine lv_iconst (v := 1) hx hb d_L_law_197 (by decide) ?_
  refine lv_iadd hx hb d_L_law_198 ?_
  refine va_sld hx hb hX hbl hbA hS (show vp_in (nI i + 1) L from hi1) d_L_law_199 ?_
  refine lv_aload_n hx hb d_L_law_200 rfl (lv_at hl 0 rfl) ?_
  refine lv_iload_n hx hb d_L_law_201 rfl (lv_at hl 3 rfl) ?_
  refine lv_iconst (v := 2) hx hb d_L_law_202 (by decide) ?_
  refine lv_iadd hx hb d_L_law_203 ?_
  refine va_sld hx hb hX hbl hbA hS (show vp_in (nI i + 2) L from hi2) d_L_law_204 ?_
  refine qx_muZ (T := qf_Q_set sq (xs (Int32.toNatClampNeg (nI i + 1))) (xs (Int32.toNatClampNeg (nI i + 2)))) (Wf := fun zz : qs_Q × Int32 => qw_Q u1 cA zz.1 ++ qw_X u2 cA sx) (vf := fun zz => some (.int zz.2)) (va_runV (As := [.int (xs (Int32.toNatClampNeg (nI i + 1))), .int (xs (Int32.toNatClampNeg (nI i + 2)))]) (rest := []) ⟨hx, hb, hml, hown, hts⟩ (c_Q_set l D cA u1 sq (xs (Int32.toNatClampNeg (nI i + 1))) (xs (Int32.toNatClampNeg (nI i + 2)))) (qx_kV hts mw_161 mw_162 mw_163 mw_29 mw_164 cd_Q_set ⟨Nat.le_of_ble_eq_true rfl, Nat.le_of_ble_eq_true rfl⟩) (qx_preV (q0 := 0) (ci := 0) (q := (R_Q, T_Q, 5)) hP hD hK hN [0, 1, 2, 3, 4, 5, 6, 7, 8, 9, 10, 11, 12, 13, 14] rfl rfl rfl rfl) rfl rfl hl.1 rfl (lv_room (Nat.le_of_ble_eq_true rfl)) d_L_law_205 ⟨Nat.le_of_ble_eq_true rfl, Nat.le_of_ble_eq_true rfl⟩) hP hD hS [0, 1, 2, 3, 4, 5, 6, 7, 8, 9, 10, 11, 12, 13, 14] rfl rfl [u1 0, u1 1, u1 2, u1 3, u1 4, u1 5, u1 6, u1 7, u1 8, u1 9, u1 10, u1 11, u1 12, u1 13, u1 14, u2 0, u2 1, u2 2, u2 3, u2 4] rfl rfl (fun zz1 hzz1 H locs hP hD hS => ?_)
  have hP : va_P D vwCl (qw_Q u1 cA zz1.1 ++ qw_X u2 cA sx) H := hP
  have hD : va_D A (qw_Q u1 cA zz1.1 ++ qw_X u2 cA sx) := hD
  refine W.eq (g2 := F0 m 208 ls [.int zz1.2]) rfl ?_
  refine lv_aload_n hx hb d_L_law_208 rfl (lv_at hl 2 rfl) ?_
  refine lv_aload_n hx hb d_L_law_209 rfl (lv_at hl 0 rfl) ?_
  refine lv_iload_n hx hb d_L_law_210 rfl (lv_at hl 3 rfl) ?_
  refine lv_iconst (v := 1) hx hb d_L_law_211 (by decide) ?_
  refine lv_iadd hx hb d_L_law_212 ?_
  refine va_sld hx hb hX hbl hbA hS (show vp_in (nI i + 1) L from hi1) d_L_law_213 ?_
  refine lv_aload_n hx hb d_L_law_214 rfl (lv_at hl 0 rfl) ?_
  refine lv_iload_n hx hb d_L_law_215 rfl (lv_at hl 3 rfl) ?_
  refine lv_iconst (v := 2) hx hb d_L_law_216 (by decide) ?_
  refine lv_iadd hx hb d_L_law_217 ?_
  refine va_sld hx hb hX hbl hbA hS (show vp_in (nI i + 2) L from hi2) d_L_law_218 ?_
  refine qx_muZ (T := qf_X_set sx (xs (Int32.toNatClampNeg (nI i + 1))) (xs (Int32.toNatClampNeg (nI i + 2)))) (Wf := fun zz : qs_X × Int32 => qw_Q u1 cA zz1.1 ++ qw_X u2 cA zz.1) (vf := fun zz => some (.int zz.2)) (va_runV (As := [.int (xs (Int32.toNatClampNeg (nI i + 1))), .int (xs (Int32.toNatClampNeg (nI i + 2)))]) (rest := [.int zz1.2]) ⟨hx, hb, hml, hown, hts⟩ (c_X_set l D cA u2 sx (xs (Int32.toNatClampNeg (nI i + 1))) (xs (Int32.toNatClampNeg (nI i + 2)))) (qx_kV hts mw_409 mw_410 mw_411 mw_33 mw_412 cd_X_set ⟨Nat.le_of_ble_eq_true rfl, Nat.le_of_ble_eq_true rfl⟩) (qx_preV (q0 := 15) (ci := 3) (q := (R_X, T_X, 8)) hP hD hK hN [15, 16, 17, 18, 19] rfl rfl rfl rfl) rfl rfl hl.1 rfl (lv_room (Nat.le_of_ble_eq_true rfl)) d_L_law_219 ⟨Nat.le_of_ble_eq_true rfl, Nat.le_of_ble_eq_true rfl⟩) hP hD hS [15, 16, 17, 18, 19] rfl rfl [u1 0, u1 1, u1 2, u1 3, u1 4, u1 5, u1 6, u1 7, u1 8, u1 9, u1 10, u1 11, u1 12, u1 13, u1 14, u2 0, u2 1, u2 2, u2 3, u2 4] rfl rfl (fun zz2 hzz2 H locs hP hD hS => ?_)
  have hP : va_P D vwCl (qw_Q u1 cA zz1.1 ++ qw_X u2 cA zz2.1) H := hP
  have hD : va_D A (qw_Q u1 cA zz1.1 ++ qw_X u2 cA zz2.1) := hD
  refine W.eq (g2 := F0 m 222 ls [.int zz2.2, .int zz1.2]) rfl ?_
  have hV := qp_set hL (xs (Int32.toNatClampNeg (nI i + 1))) (xs (Int32.toNatClampNeg (nI i + 2)))
  rw [hzz1, hzz2] at hV
  have heq : zz1.2 = zz2.2 := hV.2
  have hL := hV.1
  refine lv_icmp_eq (tgt := 537) hx hb d_L_law_222 (by decide) (fun _ => ?_) (fun h => False.elim (h heq))
  exact kk zz1.1 zz2.1 ls _ _ hL hl hP hD hS
