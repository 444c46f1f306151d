def qf_X_branch_j243 (st : qs_X) (w : Int32) (k : Int32) (x : Int32) (y : Int32) (z : Int32) (j243l7 : Int32) (j243l9 : Int32) (j243l10 : Int32) (j243s0 : Int32) (j243st0 : qs_X) : qs_X × Int32 :=
  if j243l9 = 0 then ((qm_X_tg j243st0 (-1)), 0)
  else ((qm_X_tg j243st0 j243s0), 0)
def qf_X_branch_j186 (st : qs_X) (w : Int32) (k : Int32) (x : Int32) (y : Int32) (z : Int32) (j186l10 : Int32) (j186l7 : Int32) (j186l9 : Int32) (j186st0 : qs_X) : qs_X × Int32 :=
  if 16 ≤ k then (if k = 16 then qf_X_branch_j243 st w k x y z j186l7 j186l9 j186l10 (qf_X_place ((st.1 0) / 32) (x + z)) j186st0
    else qf_X_branch_j243 st w k x y z j186l7 j186l9 j186l10 (qf_X_place (j186st0.1 (Int32.toNatClampNeg (18 + ((qf_ush w 18) &&& 3)))) (x + z)) j186st0)
  else qf_X_branch_j243 st w k x y z j186l7 j186l9 j186l10 (qf_X_place ((st.1 0) / 32) (((j186st0.1 0) + 2) + z)) j186st0
def qf_X_branch_j150 (st : qs_X) (w : Int32) (k : Int32) (x : Int32) (y : Int32) (z : Int32) (j150l7 : Int32) (j150l9 : Int32) (j150s0 : Int32) (j150st0 : qs_X) : qs_X × Int32 :=
  if j150l7 = 0 then qf_X_branch_j186 st w k x y z j150s0 j150l7 j150l9 (qm_X_nu j150st0 0)
  else if j150s0 = 0 then qf_X_branch_j186 st w k x y z j150s0 j150l7 j150l9 (qm_X_nu j150st0 1)
  else if z < 0 then (if j150l9 = 0 then qf_X_branch_j186 st w k x y z j150s0 j150l7 j150l9 (qm_X_nu j150st0 1)
    else qf_X_branch_j186 st w k x y z j150s0 j150l7 j150l9 (qm_X_nu j150st0 0))
  else if j150l9 = 1 then qf_X_branch_j186 st w k x y z j150s0 j150l7 j150l9 (qm_X_nu j150st0 1)
  else qf_X_branch_j186 st w k x y z j150s0 j150l7 j150l9 (qm_X_nu j150st0 0)
def qf_X_branch_j133 (st : qs_X) (w : Int32) (k : Int32) (x : Int32) (y : Int32) (z : Int32) (j133l9 : Int32) (j133l7 : Int32) (j133st0 : qs_X) : qs_X × Int32 :=
  if k = 14 then qf_X_branch_j150 st w k x y z j133l7 j133l9 (1 : Int32) j133st0
  else if k = 15 then qf_X_branch_j150 st w k x y z j133l7 j133l9 (1 : Int32) j133st0
  else qf_X_branch_j150 st w k x y z j133l7 j133l9 (0 : Int32) j133st0
def qf_X_branch_j24 (st : qs_X) (w : Int32) (k : Int32) (x : Int32) (y : Int32) (z : Int32) (j24s0 : Int32) : qs_X × Int32 :=
  if k = 13 then qf_X_branch_j133 st w k x y z (1 : Int32) j24s0 (qf_X_write st ((qf_ush w 24) &&& 7) (((st.1 1) + 1) &&& 31))
  else if k = 14 then qf_X_branch_j133 st w k x y z (qf_X_holds ((qf_ush w 15) &&& 7) x y) j24s0 st
  else if k = 15 then qf_X_branch_j133 st w k x y z (qf_X_holds ((qf_ush w 15) &&& 7) ((st.1 (Int32.toNatClampNeg (10 + ((qf_ush w 24) &&& 7)))) + x) (0 : Int32)) j24s0 (qf_X_write st ((qf_ush w 24) &&& 7) ((st.1 (Int32.toNatClampNeg (10 + ((qf_ush w 24) &&& 7)))) + x))
  else qf_X_branch_j133 st w k x y z (1 : Int32) j24s0 st
def qf_X_branch (st : qs_X) (w : Int32) (k : Int32) (x : Int32) (y : Int32) (z : Int32) : qs_X × Int32 :=
  if ((qf_ush w 14) &&& 1) = 1 then qf_X_branch_j24 st w k x y z (1 : Int32)
  else qf_X_branch_j24 st w k x y z (0 : Int32)
set_option maxHeartbeats 4000000 in
set_option maxRecDepth 100000 in
theorem c_X_branch (l : Launch) (D : va_G) (cA : ClassId) (ad : Nat → Nat) (st : qs_X) (w : Int32) (k : Int32) (x : Int32) (y : Int32) (z : Int32) : Met l y_X_branch (Cond.code y_X_branch b_X_branch 12 (some .int) :: qx_T) ({ frames := 1, cells := 0, slots := 0, locals := 26 }) (qx_Pc D vwCl [(cA, .int)] (qw_X ad cA st) [.ref (ad 0), .int w, .int k, .int x, .int y, .int z]) (qx_Q D vwCl (qw_X ad cA ((qf_X_branch st w k x y z).1)) (qx_ad (qw_X ad cA st)) (some (.int (qf_X_branch st w k x y z).2))) 0 0 (qx_ad (qw_X ad cA st)) := by
  refine Met.ofW (cc := b_X_branch) (maxL := 12) (ret := (some .int)) (by decide) rfl ?_
  intro p e s m args below meth c s₁ B hml hv
  obtain ⟨rfl, hP, hK, hN, hD0⟩ := hv
  have hx := B.exec
  have hb := B.bytes
  have hr := B.returns
  have hts0 := atoms_spec (ws := Cond.code y_X_branch b_X_branch 12 (some .int) :: qx_T) B.pre
  have hts := fun w h => hts0 w (List.mem_cons_of_mem _ h)
  have hown : s.vm.findClass R_X = some m.cls := findClass_of_methodNamed B.named
  have hlocks := B.notSynchronized
  have hD : va_D (qx_ad (qw_X ad cA st)) (qw_X ad cA st) := ⟨hD0.1, fun k q hk => ⟨k, q.2, hk⟩⟩
  generalize hAe : qx_ad (qw_X ad cA st) = A at hD ⊢
  have hS : va_S A s.heap s.heap [] := va_S.rf
  have hl := lv_entry ([.ref (ad 0), .int w, .int k, .int x, .int y, .int z]) (n := 12) (Nat.le_of_ble_eq_true rfl)
  rw [lg_entry_eq]
  generalize (lg_sl ([.ref (ad 0), .int w, .int k, .int x, .int y, .int z]) ++ List.replicate (12 - (lg_sl ([.ref (ad 0), .int w, .int k, .int x, .int y, .int z])).length) Slot.unset).toArray = ls at hl ⊢
  have hl : lv_has ls 12 [(0, .ref (ad 0)), (1, .int w), (2, .int k), (3, .int x), (4, .int y), (5, .int z)] := hl
  have hj243 : ∀ (j243l7 : Int32) (j243l9 : Int32) (j243l10 : Int32) (j243s0 : Int32) (j243st0 : qs_X) (ls : Array Slot) (H : Heap) (locs : List Loc), lv_has ls 12 [(0, .ref (ad 0)), (1, .int w), (2, .int k), (3, .int x), (4, .int y), (5, .int z), (6, .int ((qf_ush w 24) &&& 7)), (7, .int j243l7), (8, .int ((st.1 0) / 32)), (9, .int j243l9), (10, .int j243l10)] → va_P D vwCl (qw_X ad cA j243st0) H → va_D A (qw_X ad cA j243st0) → va_S A s.heap H locs → qf_X_branch_j243 st w k x y z j243l7 j243l9 j243l10 j243s0 j243st0 = qf_X_branch st w k x y z → W p l e (headSpec (Cond.code y_X_branch b_X_branch 12 (some .int) :: qx_T) ({ frames := 1, cells := 0, slots := 0, locals := 26 })).room s m ([.ref (ad 0), .int w, .int k, .int x, .int y, .int z] : List Value).toArray below meth c H locs 0 0 (MQ below (qx_Q D vwCl (qw_X ad cA ((qf_X_branch st w k x y z).1)) A (some (.int (qf_X_branch st w k x y z).2))) ([.ref (ad 0), .int w, .int k, .int x, .int y, .int z] : List Value).toArray s 0 0 (A)) (F0 m 243 ls [.int j243s0]) := by
    intro j243l7 j243l9 j243l10 j243s0 j243st0 ls H locs hl hP hD hS hF243
    refine lv_istore (lv' := [(11, .int j243s0), (0, .ref (ad 0)), (1, .int w), (2, .int k), (3, .int x), (4, .int y), (5, .int z), (6, .int ((qf_ush w 24) &&& 7)), (7, .int j243l7), (8, .int ((st.1 0) / 32)), (9, .int j243l9), (10, .int j243l10)]) hx hb d_X_branch_243 hl (by decide) rfl (fun ls hl => ?_)
    refine lv_aload_n hx hb d_X_branch_245 rfl (lv_at hl 1 rfl) ?_
    refine lv_iload hx hb d_X_branch_246 (lv_at hl 10 rfl) ?_
    refine lv_if_eq (tgt := 256) hx hb d_X_branch_248 (by decide) (fun h1 => ?_) (fun h1 => ?_)
    · have h1 : j243l9 = 0 := h1
      refine lv_iconst (v := (-1)) hx hb d_X_branch_256 (by decide) ?_
      refine va_put (D := D) (ci := 3) (v := .int (-1)) (ty := .int) (C := R_X) (T := T_X) (N := 8) hx hb hts in_X ty_X tyok_X nm_X hown hK hP hD hS 0 rfl rfl 6 (by decide) (hts (Cond.fieldLink R_X 48 "QueuedFrontsModel" "target" "I") mw_376) (fun _ h9 => h9) rfl (by decide +kernel) rfl rfl (Nat.le_of_ble_eq_true rfl) d_X_branch_257 (fun H locs hP hD hS => ?_)
      have hP : va_P D vwCl (qw_X ad cA (qm_X_tg j243st0 (-1))) H := hP
      have hD : va_D A (qw_X ad cA (qm_X_tg j243st0 (-1))) := hD
      refine lv_iconst (v := 0) hx hb d_X_branch_260 (by decide) ?_
      have e9 : ((qm_X_tg j243st0 (-1)), 0) = qf_X_branch st w k x y z := (Eq.trans (b := qf_X_branch_j243 st w k x y z j243l7 j243l9 j243l10 j243s0 j243st0) (by unfold qf_X_branch_j243; rw [if_pos h1]) hF243)
      exact W.iret hx hb hr (fun t ht hW => ⟨(by rw [← e9]), (by rw [ht, ← e9]; exact hP), hS.F ht⟩) hS.2.2 d_X_branch_261
    · have h1 : ¬ (j243l9 = 0) := h1
      refine lv_iload hx hb d_X_branch_251 (lv_at hl 0 rfl) ?_
      refine lv_goto (tgt := 257) hx hb d_X_branch_253 (by decide) ?_
      refine va_put (D := D) (ci := 3) (v := .int j243s0) (ty := .int) (C := R_X) (T := T_X) (N := 8) hx hb hts in_X ty_X tyok_X nm_X hown hK hP hD hS 0 rfl rfl 6 (by decide) (hts (Cond.fieldLink R_X 48 "QueuedFrontsModel" "target" "I") mw_376) (fun _ h9 => h9) rfl (by decide +kernel) rfl rfl (Nat.le_of_ble_eq_true rfl) d_X_branch_257 (fun H locs hP hD hS => ?_)
      have hP : va_P D vwCl (qw_X ad cA (qm_X_tg j243st0 j243s0)) H := hP
      have hD : va_D A (qw_X ad cA (qm_X_tg j243st0 j243s0)) := hD
      refine lv_iconst (v := 0) hx hb d_X_branch_260 (by decide) ?_
      have e9 : ((qm_X_tg j243st0 j243s0), 0) = qf_X_branch st w k x y z := (Eq.trans (b := qf_X_branch_j243 st w k x y z j243l7 j243l9 j243l10 j243s0 j243st0) (by unfold qf_X_branch_j243; rw [if_neg h1]) hF243)
      exact W.iret hx hb hr (fun t ht hW => ⟨(by rw [← e9]), (by rw [ht, ← e9]; exact hP), hS.F ht⟩) hS.2.2 d_X_branch_261
  have hj186 : ∀ (j186l10 : Int32) (j186l7 : Int32) (j186l9 : Int32) (j186st0 : qs_X) (ls : Array Slot) (H : Heap) (locs : List Loc), lv_has ls 12 [(0, .ref (ad 0)), (1, .int w), (2, .int k), (3, .int x), (4, .int y), (5, .int z), (6, .int ((qf_ush w 24) &&& 7)), (7, .int j186l7), (8, .int ((st.1 0) / 32)), (9, .int j186l9), (10, .int j186l10)] → va_P D vwCl (qw_X ad cA j186st0) H → va_D A (qw_X ad cA j186st0) → va_S A s.heap H locs → qf_X_branch_j186 st w k x y z j186l10 j186l7 j186l9 j186st0 = qf_X_branch st w k x y z → W p l e (headSpec (Cond.code y_X_branch b_X_branch 12 (some .int) :: qx_T) ({ frames := 1, cells := 0, slots := 0, locals := 26 })).room s m ([.ref (ad 0), .int w, .int k, .int x, .int y, .int z] : List Value).toArray below meth c H locs 0 0 (MQ below (qx_Q D vwCl (qw_X ad cA ((qf_X_branch st w k x y z).1)) A (some (.int (qf_X_branch st w k x y z).2))) ([.ref (ad 0), .int w, .int k, .int x, .int y, .int z] : List Value).toArray s 0 0 (A)) (F0 m 186 ls []) := by
    intro j186l10 j186l7 j186l9 j186st0 ls H locs hl hP hD hS hF186
    refine lv_iload_n hx hb d_X_branch_186 rfl (lv_at hl 2 rfl) ?_
    refine lv_bipush (v := 16) hx hb d_X_branch_187 (by decide) ?_
    refine lv_icmp_ge (tgt := 211) hx hb d_X_branch_189 (by decide) (fun h2 => ?_) (fun h2 => ?_)
    · have h2 : 16 ≤ k := h2
      refine lv_iload_n hx hb d_X_branch_211 rfl (lv_at hl 2 rfl) ?_
      refine lv_bipush (v := 16) hx hb d_X_branch_212 (by decide) ?_
      refine lv_icmp_ne (tgt := 222) hx hb d_X_branch_214 (by decide) (fun h3 => ?_) (fun h3 => ?_)
      · have h3 : ¬ (k = 16) := h3
        refine lv_aload_n hx hb d_X_branch_222 rfl (lv_at hl 0 rfl) ?_
        refine va_get (D := D) (ci := 3) (v := .ref (ad 1)) (C := R_X) (T := T_X) (N := 8) hx hb hts in_X hown hK hP 0 rfl rfl 0 (by decide) (hts (Cond.fieldLink R_X 7 "QueuedFrontsModel" "now" "[I") mw_370) (fun _ h9 => h9) rfl d_X_branch_223 ?_
        refine lv_bipush (v := 18) hx hb d_X_branch_226 (by decide) ?_
        refine lv_iload_n hx hb d_X_branch_228 rfl (lv_at hl 1 rfl) ?_
        refine lv_bipush (v := 18) hx hb d_X_branch_229 (by decide) ?_
        refine lv_iushr (v := (qf_ush w 18)) hx hb d_X_branch_231 rfl ?_
        refine lv_iconst (v := 3) hx hb d_X_branch_232 (by decide) ?_
        refine lv_iand hx hb d_X_branch_233 ?_
        refine lv_iadd hx hb d_X_branch_234 ?_
        refine va_iald hx hb hK hP 1 0 rfl rfl (show vp_in (18 + ((qf_ush w 18) &&& 3)) 86 from qi_add 18 86 (by decide) (qi_and3 _) (by decide) (by decide)) d_X_branch_235 ?_
        refine lv_iload_n hx hb d_X_branch_236 rfl (lv_at hl 3 rfl) ?_
        refine lv_iload hx hb d_X_branch_237 (lv_at hl 5 rfl) ?_
        refine lv_iadd hx hb d_X_branch_239 ?_
        refine qx_rd (va_runS (As := [.int (j186st0.1 (Int32.toNatClampNeg (18 + ((qf_ush w 18) &&& 3)))), .int (x + z)]) (rest := []) ⟨hx, hb, hml, hown, hts⟩ (c_X_place l D cA (j186st0.1 (Int32.toNatClampNeg (18 + ((qf_ush w 18) &&& 3)))) (x + z)) (qx_kS hts mw_402 mw_403 mw_33 mw_404 cd_X_place ⟨Nat.le_of_ble_eq_true rfl, Nat.le_of_ble_eq_true rfl⟩) (qx_preS hP hD hK hN [] rfl rfl) rfl rfl hl.1 rfl (lv_room (Nat.le_of_ble_eq_true rfl)) d_X_branch_240 ⟨Nat.zero_le _, Nat.zero_le _⟩) ?_
        exact hj243 j186l7 j186l9 j186l10 (qf_X_place (j186st0.1 (Int32.toNatClampNeg (18 + ((qf_ush w 18) &&& 3)))) (x + z)) j186st0 ls _ _ (lv_sub hl [0, 1, 2, 3, 4, 5, 6, 7, 8, 9, 10] rfl) hP hD hS (show qf_X_branch_j243 st w k x y z j186l7 j186l9 j186l10 (qf_X_place (j186st0.1 (Int32.toNatClampNeg (18 + ((qf_ush w 18) &&& 3)))) (x + z)) j186st0 = qf_X_branch st w k x y z from (Eq.trans (b := qf_X_branch_j186 st w k x y z j186l10 j186l7 j186l9 j186st0) (by unfold qf_X_branch_j186; rw [if_pos h2, if_neg h3]) hF186))
      · have h3 : k = 16 := h3
        refine lv_iload hx hb d_X_branch_217 (lv_at hl 8 rfl) ?_
        refine lv_goto (tgt := 236) hx hb d_X_branch_219 (by decide) ?_
        refine lv_iload_n hx hb d_X_branch_236 rfl (lv_at hl 3 rfl) ?_
        refine lv_iload hx hb d_X_branch_237 (lv_at hl 5 rfl) ?_
        refine lv_iadd hx hb d_X_branch_239 ?_
        refine qx_rd (va_runS (As := [.int ((st.1 0) / 32), .int (x + z)]) (rest := []) ⟨hx, hb, hml, hown, hts⟩ (c_X_place l D cA ((st.1 0) / 32) (x + z)) (qx_kS hts mw_402 mw_403 mw_33 mw_404 cd_X_place ⟨Nat.le_of_ble_eq_true rfl, Nat.le_of_ble_eq_true rfl⟩) (qx_preS hP hD hK hN [] rfl rfl) rfl rfl hl.1 rfl (lv_room (Nat.le_of_ble_eq_true rfl)) d_X_branch_240 ⟨Nat.zero_le _, Nat.zero_le _⟩) ?_
        exact hj243 j186l7 j186l9 j186l10 (qf_X_place ((st.1 0) / 32) (x + z)) j186st0 ls _ _ (lv_sub hl [0, 1, 2, 3, 4, 5, 6, 7, 8, 9, 10] rfl) hP hD hS (show qf_X_branch_j243 st w k x y z j186l7 j186l9 j186l10 (qf_X_place ((st.1 0) / 32) (x + z)) j186st0 = qf_X_branch st w k x y z from (Eq.trans (b := qf_X_branch_j186 st w k x y z j186l10 j186l7 j186l9 j186st0) (by unfold qf_X_branch_j186; rw [if_pos h2, if_pos h3]) hF186))
    · have h2 : ¬ (16 ≤ k) := h2
      refine lv_iload hx hb d_X_branch_192 (lv_at hl 8 rfl) ?_
      refine lv_aload_n hx hb d_X_branch_194 rfl (lv_at hl 0 rfl) ?_
      refine va_get (D := D) (ci := 3) (v := .ref (ad 1)) (C := R_X) (T := T_X) (N := 8) hx hb hts in_X hown hK hP 0 rfl rfl 0 (by decide) (hts (Cond.fieldLink R_X 7 "QueuedFrontsModel" "now" "[I") mw_370) (fun _ h9 => h9) rfl d_X_branch_195 ?_
      refine lv_iconst (v := 0) hx hb d_X_branch_198 (by decide) ?_
      refine va_iald hx hb hK hP 1 0 rfl rfl (show vp_in (0 : Int32) 86 from qi_lit (by decide)) d_X_branch_199 ?_
      refine lv_iconst (v := 2) hx hb d_X_branch_200 (by decide) ?_
      refine lv_iadd hx hb d_X_branch_201 ?_
      refine lv_iload hx hb d_X_branch_202 (lv_at hl 5 rfl) ?_
      refine lv_iadd hx hb d_X_branch_204 ?_
      refine qx_rd (va_runS (As := [.int ((st.1 0) / 32), .int (((j186st0.1 0) + 2) + z)]) (rest := []) ⟨hx, hb, hml, hown, hts⟩ (c_X_place l D cA ((st.1 0) / 32) (((j186st0.1 0) + 2) + z)) (qx_kS hts mw_402 mw_403 mw_33 mw_404 cd_X_place ⟨Nat.le_of_ble_eq_true rfl, Nat.le_of_ble_eq_true rfl⟩) (qx_preS hP hD hK hN [] rfl rfl) rfl rfl hl.1 rfl (lv_room (Nat.le_of_ble_eq_true rfl)) d_X_branch_205 ⟨Nat.zero_le _, Nat.zero_le _⟩) ?_
      refine lv_goto (tgt := 243) hx hb d_X_branch_208 (by decide) ?_
      exact hj243 j186l7 j186l9 j186l10 (qf_X_place ((st.1 0) / 32) (((j186st0.1 0) + 2) + z)) j186st0 ls _ _ (lv_sub hl [0, 1, 2, 3, 4, 5, 6, 7, 8, 9, 10] rfl) hP hD hS (show qf_X_branch_j243 st w k x y z j186l7 j186l9 j186l10 (qf_X_place ((st.1 0) / 32) (((j186st0.1 0) + 2) + z)) j186st0 = qf_X_branch st w k x y z from (Eq.trans (b := qf_X_branch_j186 st w k x y z j186l10 j186l7 j186l9 j186st0) (by unfold qf_X_branch_j186; rw [if_neg h2]) hF186))
  have hj150 : ∀ (j150l7 : Int32) (j150l9 : Int32) (j150s0 : Int32) (j150st0 : qs_X) (ls : Array Slot) (H : Heap) (locs : List Loc), lv_has ls 12 [(0, .ref (ad 0)), (1, .int w), (2, .int k), (3, .int x), (4, .int y), (5, .int z), (6, .int ((qf_ush w 24) &&& 7)), (7, .int j150l7), (8, .int ((st.1 0) / 32)), (9, .int j150l9)] → va_P D vwCl (qw_X ad cA j150st0) H → va_D A (qw_X ad cA j150st0) → va_S A s.heap H locs → qf_X_branch_j150 st w k x y z j150l7 j150l9 j150s0 j150st0 = qf_X_branch st w k x y z → W p l e (headSpec (Cond.code y_X_branch b_X_branch 12 (some .int) :: qx_T) ({ frames := 1, cells := 0, slots := 0, locals := 26 })).room s m ([.ref (ad 0), .int w, .int k, .int x, .int y, .int z] : List Value).toArray below meth c H locs 0 0 (MQ below (qx_Q D vwCl (qw_X ad cA ((qf_X_branch st w k x y z).1)) A (some (.int (qf_X_branch st w k x y z).2))) ([.ref (ad 0), .int w, .int k, .int x, .int y, .int z] : List Value).toArray s 0 0 (A)) (F0 m 150 ls [.int j150s0]) := by
    intro j150l7 j150l9 j150s0 j150st0 ls H locs hl hP hD hS hF150
    refine lv_istore (lv' := [(10, .int j150s0), (0, .ref (ad 0)), (1, .int w), (2, .int k), (3, .int x), (4, .int y), (5, .int z), (6, .int ((qf_ush w 24) &&& 7)), (7, .int j150l7), (8, .int ((st.1 0) / 32)), (9, .int j150l9)]) hx hb d_X_branch_150 hl (by decide) rfl (fun ls hl => ?_)
    refine lv_aload_n hx hb d_X_branch_152 rfl (lv_at hl 1 rfl) ?_
    refine lv_iload hx hb d_X_branch_153 (lv_at hl 8 rfl) ?_
    refine lv_if_eq (tgt := 182) hx hb d_X_branch_155 (by decide) (fun h4 => ?_) (fun h4 => ?_)
    · have h4 : j150l7 = 0 := h4
      refine lv_iconst (v := 0) hx hb d_X_branch_182 (by decide) ?_
      refine va_put (D := D) (ci := 3) (v := .int 0) (ty := .boolean) (C := R_X) (T := T_X) (N := 8) hx hb hts in_X ty_X tyok_X nm_X hown hK hP hD hS 0 rfl rfl 5 (by decide) (hts (Cond.fieldLink R_X 44 "QueuedFrontsModel" "nullifies" "Z") mw_375) (fun _ h9 => h9) rfl (by decide +kernel) rfl rfl (Nat.le_of_ble_eq_true rfl) d_X_branch_183 (fun H locs hP hD hS => ?_)
      have hP : va_P D vwCl (qw_X ad cA (qm_X_nu j150st0 0)) H := hP
      have hD : va_D A (qw_X ad cA (qm_X_nu j150st0 0)) := hD
      exact hj186 j150s0 j150l7 j150l9 (qm_X_nu j150st0 0) ls _ _ (lv_sub hl [1, 2, 3, 4, 5, 6, 7, 8, 9, 10, 0] rfl) hP hD hS (show qf_X_branch_j186 st w k x y z j150s0 j150l7 j150l9 (qm_X_nu j150st0 0) = qf_X_branch st w k x y z from (Eq.trans (b := qf_X_branch_j150 st w k x y z j150l7 j150l9 j150s0 j150st0) (by unfold qf_X_branch_j150; rw [if_pos h4]) hF150))
    · have h4 : ¬ (j150l7 = 0) := h4
      refine lv_iload hx hb d_X_branch_158 (lv_at hl 0 rfl) ?_
      refine lv_if_eq (tgt := 178) hx hb d_X_branch_160 (by decide) (fun h5 => ?_) (fun h5 => ?_)
      · have h5 : j150s0 = 0 := h5
        refine lv_iconst (v := 1) hx hb d_X_branch_178 (by decide) ?_
        refine lv_goto (tgt := 183) hx hb d_X_branch_179 (by decide) ?_
        refine va_put (D := D) (ci := 3) (v := .int 1) (ty := .boolean) (C := R_X) (T := T_X) (N := 8) hx hb hts in_X ty_X tyok_X nm_X hown hK hP hD hS 0 rfl rfl 5 (by decide) (hts (Cond.fieldLink R_X 44 "QueuedFrontsModel" "nullifies" "Z") mw_375) (fun _ h9 => h9) rfl (by decide +kernel) rfl rfl (Nat.le_of_ble_eq_true rfl) d_X_branch_183 (fun H locs hP hD hS => ?_)
        have hP : va_P D vwCl (qw_X ad cA (qm_X_nu j150st0 1)) H := hP
        have hD : va_D A (qw_X ad cA (qm_X_nu j150st0 1)) := hD
        exact hj186 j150s0 j150l7 j150l9 (qm_X_nu j150st0 1) ls _ _ (lv_sub hl [1, 2, 3, 4, 5, 6, 7, 8, 9, 10, 0] rfl) hP hD hS (show qf_X_branch_j186 st w k x y z j150s0 j150l7 j150l9 (qm_X_nu j150st0 1) = qf_X_branch st w k x y z from (Eq.trans (b := qf_X_branch_j150 st w k x y z j150l7 j150l9 j150s0 j150st0) (by unfold qf_X_branch_j150; rw [if_neg h4, if_pos h5]) hF150))
      · have h5 : ¬ (j150s0 = 0) := h5
        refine lv_iload hx hb d_X_branch_163 (lv_at hl 10 rfl) ?_
        refine lv_iload hx hb d_X_branch_165 (lv_at hl 6 rfl) ?_
        refine lv_if_lt (tgt := 174) hx hb d_X_branch_167 (by decide) (fun h6 => ?_) (fun h6 => ?_)
        · have h6 : z < 0 := h6
          refine lv_iconst (v := 0) hx hb d_X_branch_174 (by decide) ?_
          refine lv_icmp_ne (tgt := 182) hx hb d_X_branch_175 (by decide) (fun h7 => ?_) (fun h7 => ?_)
          · have h7 : ¬ (j150l9 = 0) := h7
            refine lv_iconst (v := 0) hx hb d_X_branch_182 (by decide) ?_
            refine va_put (D := D) (ci := 3) (v := .int 0) (ty := .boolean) (C := R_X) (T := T_X) (N := 8) hx hb hts in_X ty_X tyok_X nm_X hown hK hP hD hS 0 rfl rfl 5 (by decide) (hts (Cond.fieldLink R_X 44 "QueuedFrontsModel" "nullifies" "Z") mw_375) (fun _ h9 => h9) rfl (by decide +kernel) rfl rfl (Nat.le_of_ble_eq_true rfl) d_X_branch_183 (fun H locs hP hD hS => ?_)
            have hP : va_P D vwCl (qw_X ad cA (qm_X_nu j150st0 0)) H := hP
            have hD : va_D A (qw_X ad cA (qm_X_nu j150st0 0)) := hD
            exact hj186 j150s0 j150l7 j150l9 (qm_X_nu j150st0 0) ls _ _ (lv_sub hl [1, 2, 3, 4, 5, 6, 7, 8, 9, 10, 0] rfl) hP hD hS (show qf_X_branch_j186 st w k x y z j150s0 j150l7 j150l9 (qm_X_nu j150st0 0) = qf_X_branch st w k x y z from (Eq.trans (b := qf_X_branch_j150 st w k x y z j150l7 j150l9 j150s0 j150st0) (by unfold qf_X_branch_j150; rw [if_neg h4, if_neg h5, if_pos h6, if_neg h7]) hF150))
          · have h7 : j150l9 = 0 := h7
            refine lv_iconst (v := 1) hx hb d_X_branch_178 (by decide) ?_
            refine lv_goto (tgt := 183) hx hb d_X_branch_179 (by decide) ?_
            refine va_put (D := D) (ci := 3) (v := .int 1) (ty := .boolean) (C := R_X) (T := T_X) (N := 8) hx hb hts in_X ty_X tyok_X nm_X hown hK hP hD hS 0 rfl rfl 5 (by decide) (hts (Cond.fieldLink R_X 44 "QueuedFrontsModel" "nullifies" "Z") mw_375) (fun _ h9 => h9) rfl (by decide +kernel) rfl rfl (Nat.le_of_ble_eq_true rfl) d_X_branch_183 (fun H locs hP hD hS => ?_)
            have hP : va_P D vwCl (qw_X ad cA (qm_X_nu j150st0 1)) H := hP
            have hD : va_D A (qw_X ad cA (qm_X_nu j150st0 1)) := hD
            exact hj186 j150s0 j150l7 j150l9 (qm_X_nu j150st0 1) ls _ _ (lv_sub hl [1, 2, 3, 4, 5, 6, 7, 8, 9, 10, 0] rfl) hP hD hS (show qf_X_branch_j186 st w k x y z j150s0 j150l7 j150l9 (qm_X_nu j150st0 1) = qf_X_branch st w k x y z from (Eq.trans (b := qf_X_branch_j150 st w k x y z j150l7 j150l9 j150s0 j150st0) (by unfold qf_X_branch_j150; rw [if_neg h4, if_neg h5, if_pos h6, if_pos h7]) hF150))
        · have h6 : ¬ (z < 0) := h6
          refine lv_iconst (v := 1) hx hb d_X_branch_170 (by decide) ?_
          refine lv_goto (tgt := 175) hx hb d_X_branch_171 (by decide) ?_
          refine lv_icmp_ne (tgt := 182) hx hb d_X_branch_175 (by decide) (fun h8 => ?_) (fun h8 => ?_)
          · have h8 : ¬ (j150l9 = 1) := h8
            refine lv_iconst (v := 0) hx hb d_X_branch_182 (by decide) ?_
            refine va_put (D := D) (ci := 3) (v := .int 0) (ty := .boolean) (C := R_X) (T := T_X) (N := 8) hx hb hts in_X ty_X tyok_X nm_X hown hK hP hD hS 0 rfl rfl 5 (by decide) (hts (Cond.fieldLink R_X 44 "QueuedFrontsModel" "nullifies" "Z") mw_375) (fun _ h9 => h9) rfl (by decide +kernel) rfl rfl (Nat.le_of_ble_eq_true rfl) d_X_branch_183 (fun H locs hP hD hS => ?_)
            have hP : va_P D vwCl (qw_X ad cA (qm_X_nu j150st0 0)) H := hP
            have hD : va_D A (qw_X ad cA (qm_X_nu j150st0 0)) := hD
            exact hj186 j150s0 j150l7 j150l9 (qm_X_nu j150st0 0) ls _ _ (lv_sub hl [1, 2, 3, 4, 5, 6, 7, 8, 9, 10, 0] rfl) hP hD hS (show qf_X_branch_j186 st w k x y z j150s0 j150l7 j150l9 (qm_X_nu j150st0 0) = qf_X_branch st w k x y z from (Eq.trans (b := qf_X_branch_j150 st w k x y z j150l7 j150l9 j150s0 j150st0) (by unfold qf_X_branch_j150; rw [if_neg h4, if_neg h5, if_neg h6, if_neg h8]) hF150))
          · have h8 : j150l9 = 1 := h8
            refine lv_iconst (v := 1) hx hb d_X_branch_178 (by decide) ?_
            refine lv_goto (tgt := 183) hx hb d_X_branch_179 (by decide) ?_
            refine va_put (D := D) (ci := 3) (v := .int 1) (ty := .boolean) (C := R_X) (T := T_X) (N := 8) hx hb hts in_X ty_X tyok_X nm_X hown hK hP hD hS 0 rfl rfl 5 (by decide) (hts (Cond.fieldLink R_X 44 "QueuedFrontsModel" "nullifies" "Z") mw_375) (fun _ h9 => h9) rfl (by decide +kernel) rfl rfl (Nat.le_of_ble_eq_true rfl) d_X_branch_183 (fun H locs hP hD hS => ?_)
            have hP : va_P D vwCl (qw_X ad cA (qm_X_nu j150st0 1)) H := hP
            have hD : va_D A (qw_X ad cA (qm_X_nu j150st0 1)) := hD
            exact hj186 j150s0 j150l7 j150l9 (qm_X_nu j150st0 1) ls _ _ (lv_sub hl [1, 2, 3, 4, 5, 6, 7, 8, 9, 10, 0] rfl) hP hD hS (show qf_X_branch_j186 st w k x y z j150s0 j150l7 j150l9 (qm_X_nu j150st0 1) = qf_X_branch st w k x y z from (Eq.trans (b := qf_X_branch_j150 st w k x y z j150l7 j150l9 j150s0 j150st0) (by unfold qf_X_branch_j150; rw [if_neg h4, if_neg h5, if_neg h6, if_pos h8]) hF150))
  have hj133 : ∀ (j133l9 : Int32) (j133l7 : Int32) (j133st0 : qs_X) (ls : Array Slot) (H : Heap) (locs : List Loc), lv_has ls 12 [(0, .ref (ad 0)), (1, .int w), (2, .int k), (3, .int x), (4, .int y), (5, .int z), (6, .int ((qf_ush w 24) &&& 7)), (7, .int j133l7), (8, .int ((st.1 0) / 32)), (9, .int j133l9)] → va_P D vwCl (qw_X ad cA j133st0) H → va_D A (qw_X ad cA j133st0) → va_S A s.heap H locs → qf_X_branch_j133 st w k x y z j133l9 j133l7 j133st0 = qf_X_branch st w k x y z → W p l e (headSpec (Cond.code y_X_branch b_X_branch 12 (some .int) :: qx_T) ({ frames := 1, cells := 0, slots := 0, locals := 26 })).room s m ([.ref (ad 0), .int w, .int k, .int x, .int y, .int z] : List Value).toArray below meth c H locs 0 0 (MQ below (qx_Q D vwCl (qw_X ad cA ((qf_X_branch st w k x y z).1)) A (some (.int (qf_X_branch st w k x y z).2))) ([.ref (ad 0), .int w, .int k, .int x, .int y, .int z] : List Value).toArray s 0 0 (A)) (F0 m 133 ls []) := by
    intro j133l9 j133l7 j133st0 ls H locs hl hP hD hS hF133
    refine lv_iload_n hx hb d_X_branch_133 rfl (lv_at hl 2 rfl) ?_
    refine lv_bipush (v := 14) hx hb d_X_branch_134 (by decide) ?_
    refine lv_icmp_eq (tgt := 145) hx hb d_X_branch_136 (by decide) (fun h9 => ?_) (fun h9 => ?_)
    · have h9 : k = 14 := h9
      refine lv_iconst (v := 1) hx hb d_X_branch_145 (by decide) ?_
      refine lv_goto (tgt := 150) hx hb d_X_branch_146 (by decide) ?_
      exact hj150 j133l7 j133l9 (1 : Int32) j133st0 ls _ _ (lv_sub hl [0, 1, 2, 3, 4, 5, 6, 7, 8, 9] rfl) hP hD hS (show qf_X_branch_j150 st w k x y z j133l7 j133l9 (1 : Int32) j133st0 = qf_X_branch st w k x y z from (Eq.trans (b := qf_X_branch_j133 st w k x y z j133l9 j133l7 j133st0) (by unfold qf_X_branch_j133; rw [if_pos h9]) hF133))
    · have h9 : ¬ (k = 14) := h9
      refine lv_iload_n hx hb d_X_branch_139 rfl (lv_at hl 2 rfl) ?_
      refine lv_bipush (v := 15) hx hb d_X_branch_140 (by decide) ?_
      refine lv_icmp_ne (tgt := 149) hx hb d_X_branch_142 (by decide) (fun h10 => ?_) (fun h10 => ?_)
      · have h10 : ¬ (k = 15) := h10
        refine lv_iconst (v := 0) hx hb d_X_branch_149 (by decide) ?_
        exact hj150 j133l7 j133l9 (0 : Int32) j133st0 ls _ _ (lv_sub hl [0, 1, 2, 3, 4, 5, 6, 7, 8, 9] rfl) hP hD hS (show qf_X_branch_j150 st w k x y z j133l7 j133l9 (0 : Int32) j133st0 = qf_X_branch st w k x y z from (Eq.trans (b := qf_X_branch_j133 st w k x y z j133l9 j133l7 j133st0) (by unfold qf_X_branch_j133; rw [if_neg h9, if_neg h10]) hF133))
      · have h10 : k = 15 := h10
        refine lv_iconst (v := 1) hx hb d_X_branch_145 (by decide) ?_
        refine lv_goto (tgt := 150) hx hb d_X_branch_146 (by decide) ?_
        exact hj150 j133l7 j133l9 (1 : Int32) j133st0 ls _ _ (lv_sub hl [0, 1, 2, 3, 4, 5, 6, 7, 8, 9] rfl) hP hD hS (show qf_X_branch_j150 st w k x y z j133l7 j133l9 (1 : Int32) j133st0 = qf_X_branch st w k x y z from (Eq.trans (b := qf_X_branch_j133 st w k x y z j133l9 j133l7 j133st0) (by unfold qf_X_branch_j133; rw [if_neg h9, if_pos h10]) hF133))
  have hj24 : ∀ (j24s0 : Int32) (ls : Array Slot) (H : Heap) (locs : List Loc), lv_has ls 12 [(0, .ref (ad 0)), (1, .int w), (2, .int k), (3, .int x), (4, .int y), (5, .int z), (6, .int ((qf_ush w 24) &&& 7))] → va_P D vwCl (qw_X ad cA st) H → va_D A (qw_X ad cA st) → va_S A s.heap H locs → qf_X_branch_j24 st w k x y z j24s0 = qf_X_branch st w k x y z → W p l e (headSpec (Cond.code y_X_branch b_X_branch 12 (some .int) :: qx_T) ({ frames := 1, cells := 0, slots := 0, locals := 26 })).room s m ([.ref (ad 0), .int w, .int k, .int x, .int y, .int z] : List Value).toArray below meth c H locs 0 0 (MQ below (qx_Q D vwCl (qw_X ad cA ((qf_X_branch st w k x y z).1)) A (some (.int (qf_X_branch st w k x y z).2))) ([.ref (ad 0), .int w, .int k, .int x, .int y, .int z] : List Value).toArray s 0 0 (A)) (F0 m 24 ls [.int j24s0]) := by
    intro j24s0 ls H locs hl hP hD hS hF24
    refine lv_istore (lv' := [(7, .int j24s0), (0, .ref (ad 0)), (1, .int w), (2, .int k), (3, .int x), (4, .int y), (5, .int z), (6, .int ((qf_ush w 24) &&& 7))]) hx hb d_X_branch_24 hl (by decide) rfl (fun ls hl => ?_)
    refine lv_aload_n hx hb d_X_branch_26 rfl (lv_at hl 1 rfl) ?_
    refine va_get (D := D) (ci := 3) (v := .ref (ad 1)) (C := R_X) (T := T_X) (N := 8) hx hb hts in_X hown hK hP 0 rfl rfl 0 (by decide) (hts (Cond.fieldLink R_X 7 "QueuedFrontsModel" "now" "[I") mw_370) (fun _ h9 => h9) rfl d_X_branch_27 ?_
    refine lv_iconst (v := 0) hx hb d_X_branch_30 (by decide) ?_
    refine va_iald hx hb hK hP 1 0 rfl rfl (show vp_in (0 : Int32) 86 from qi_lit (by decide)) d_X_branch_31 ?_
    refine lv_bipush (v := 32) hx hb d_X_branch_32 (by decide) ?_
    refine lv_idiv hx hb d_X_branch_34 (by decide) ?_
    refine lv_istore (lv' := [(8, .int ((st.1 0) / 32)), (7, .int j24s0), (0, .ref (ad 0)), (1, .int w), (2, .int k), (3, .int x), (4, .int y), (5, .int z), (6, .int ((qf_ush w 24) &&& 7))]) hx hb d_X_branch_35 hl (by decide) rfl (fun ls hl => ?_)
    refine lv_iconst (v := 1) hx hb d_X_branch_37 (by decide) ?_
    refine lv_istore (lv' := [(9, .int 1), (8, .int ((st.1 0) / 32)), (7, .int j24s0), (0, .ref (ad 0)), (1, .int w), (2, .int k), (3, .int x), (4, .int y), (5, .int z), (6, .int ((qf_ush w 24) &&& 7))]) hx hb d_X_branch_38 hl (by decide) rfl (fun ls hl => ?_)
    refine lv_iload_n hx hb d_X_branch_40 rfl (lv_at hl 5 rfl) ?_
    refine lv_bipush (v := 13) hx hb d_X_branch_41 (by decide) ?_
    refine lv_icmp_ne (tgt := 66) hx hb d_X_branch_43 (by decide) (fun h11 => ?_) (fun h11 => ?_)
    · have h11 : ¬ (k = 13) := h11
      refine lv_iload_n hx hb d_X_branch_66 rfl (lv_at hl 5 rfl) ?_
      refine lv_bipush (v := 14) hx hb d_X_branch_67 (by decide) ?_
      refine lv_icmp_ne (tgt := 90) hx hb d_X_branch_69 (by decide) (fun h12 => ?_) (fun h12 => ?_)
      · have h12 : ¬ (k = 14) := h12
        refine lv_iload_n hx hb d_X_branch_90 rfl (lv_at hl 5 rfl) ?_
        refine lv_bipush (v := 15) hx hb d_X_branch_91 (by decide) ?_
        refine lv_icmp_ne (tgt := 133) hx hb d_X_branch_93 (by decide) (fun h13 => ?_) (fun h13 => ?_)
        · have h13 : ¬ (k = 15) := h13
          exact hj133 (1 : Int32) j24s0 st ls _ _ (lv_sub hl [3, 4, 5, 6, 7, 8, 9, 2, 1, 0] rfl) hP hD hS (show qf_X_branch_j133 st w k x y z (1 : Int32) j24s0 st = qf_X_branch st w k x y z from (Eq.trans (b := qf_X_branch_j24 st w k x y z j24s0) (by unfold qf_X_branch_j24; rw [if_neg h11, if_neg h12, if_neg h13]) hF24))
        · have h13 : k = 15 := h13
          refine lv_aload_n hx hb d_X_branch_96 rfl (lv_at hl 3 rfl) ?_
          refine va_get (D := D) (ci := 3) (v := .ref (ad 1)) (C := R_X) (T := T_X) (N := 8) hx hb hts in_X hown hK hP 0 rfl rfl 0 (by decide) (hts (Cond.fieldLink R_X 7 "QueuedFrontsModel" "now" "[I") mw_370) (fun _ h9 => h9) rfl d_X_branch_97 ?_
          refine lv_bipush (v := 10) hx hb d_X_branch_100 (by decide) ?_
          refine lv_iload hx hb d_X_branch_102 (lv_at hl 9 rfl) ?_
          refine lv_iadd hx hb d_X_branch_104 ?_
          refine va_iald hx hb hK hP 1 0 rfl rfl (show vp_in (10 + ((qf_ush w 24) &&& 7)) 86 from qi_add 10 86 (by decide) (qi_and7 _) (by decide) (by decide)) d_X_branch_105 ?_
          refine lv_iload_n hx hb d_X_branch_106 rfl (lv_at hl 6 rfl) ?_
          refine lv_iadd hx hb d_X_branch_107 ?_
          refine lv_istore (lv' := [(10, .int ((st.1 (Int32.toNatClampNeg (10 + ((qf_ush w 24) &&& 7)))) + x)), (9, .int 1), (8, .int ((st.1 0) / 32)), (7, .int j24s0), (0, .ref (ad 0)), (1, .int w), (2, .int k), (3, .int x), (4, .int y), (5, .int z), (6, .int ((qf_ush w 24) &&& 7))]) hx hb d_X_branch_108 hl (by decide) rfl (fun ls hl => ?_)
          refine lv_aload_n hx hb d_X_branch_110 rfl (lv_at hl 4 rfl) ?_
          refine lv_iload hx hb d_X_branch_111 (lv_at hl 10 rfl) ?_
          refine lv_iload hx hb d_X_branch_113 (lv_at hl 0 rfl) ?_
          refine qx_muZ (T := qf_X_write st ((qf_ush w 24) &&& 7) ((st.1 (Int32.toNatClampNeg (10 + ((qf_ush w 24) &&& 7)))) + x)) (Wf := fun zz : qs_X => qw_X ad cA zz) (vf := fun _ => none) (va_runV (As := [.int ((qf_ush w 24) &&& 7), .int ((st.1 (Int32.toNatClampNeg (10 + ((qf_ush w 24) &&& 7)))) + x)]) (rest := []) ⟨hx, hb, hml, hown, hts⟩ (c_X_write l D cA ad st ((qf_ush w 24) &&& 7) ((st.1 (Int32.toNatClampNeg (10 + ((qf_ush w 24) &&& 7)))) + x) (qi_and7 _)) (qx_kV hts mw_456 mw_458 mw_21 mw_33 mw_459 cd_X_write ⟨Nat.le_of_ble_eq_true rfl, Nat.le_of_ble_eq_true rfl⟩) (qx_preV (q0 := 0) (ci := 3) (q := (R_X, T_X, 8)) hP hD hK hN [0, 1, 2, 3, 4] rfl rfl rfl rfl) rfl rfl hl.1 rfl (lv_room (Nat.le_of_ble_eq_true rfl)) d_X_branch_115 ⟨Nat.zero_le _, Nat.zero_le _⟩) hP hD hS [0, 1, 2, 3, 4] rfl rfl [ad 0, ad 1, ad 2, ad 3, ad 4] rfl rfl (fun zz1 hzz1 H locs hP hD hS => ?_)
          have hP : va_P D vwCl (qw_X ad cA zz1) H := hP
          have hD : va_D A (qw_X ad cA zz1) := hD
          refine W.eq (g2 := F0 m 118 ls []) rfl ?_
          refine lv_iload_n hx hb d_X_branch_118 rfl (lv_at hl 5 rfl) ?_
          refine lv_bipush (v := 15) hx hb d_X_branch_119 (by decide) ?_
          refine lv_iushr (v := (qf_ush w 15)) hx hb d_X_branch_121 rfl ?_
          refine lv_bipush (v := 7) hx hb d_X_branch_122 (by decide) ?_
          refine lv_iand hx hb d_X_branch_124 ?_
          refine lv_iload hx hb d_X_branch_125 (lv_at hl 0 rfl) ?_
          refine lv_iconst (v := 0) hx hb d_X_branch_127 (by decide) ?_
          refine qx_rd (va_runS (As := [.int ((qf_ush w 15) &&& 7), .int ((st.1 (Int32.toNatClampNeg (10 + ((qf_ush w 24) &&& 7)))) + x), .int 0]) (rest := []) ⟨hx, hb, hml, hown, hts⟩ (c_X_holds l D cA ((qf_ush w 15) &&& 7) ((st.1 (Int32.toNatClampNeg (10 + ((qf_ush w 24) &&& 7)))) + x) 0) (qx_kS hts mw_460 mw_461 mw_33 mw_462 cd_X_holds ⟨Nat.le_of_ble_eq_true rfl, Nat.le_of_ble_eq_true rfl⟩) (qx_preS hP hD hK hN [] rfl rfl) rfl rfl hl.1 rfl (lv_room (Nat.le_of_ble_eq_true rfl)) d_X_branch_128 ⟨Nat.zero_le _, Nat.zero_le _⟩) ?_
          refine lv_istore (lv' := [(9, .int (qf_X_holds ((qf_ush w 15) &&& 7) ((st.1 (Int32.toNatClampNeg (10 + ((qf_ush w 24) &&& 7)))) + x) (0 : Int32))), (10, .int ((st.1 (Int32.toNatClampNeg (10 + ((qf_ush w 24) &&& 7)))) + x)), (8, .int ((st.1 0) / 32)), (7, .int j24s0), (0, .ref (ad 0)), (1, .int w), (2, .int k), (3, .int x), (4, .int y), (5, .int z), (6, .int ((qf_ush w 24) &&& 7))]) hx hb d_X_branch_131 hl (by decide) rfl (fun ls hl => ?_)
          subst hzz1
          exact hj133 (qf_X_holds ((qf_ush w 15) &&& 7) ((st.1 (Int32.toNatClampNeg (10 + ((qf_ush w 24) &&& 7)))) + x) (0 : Int32)) j24s0 (qf_X_write st ((qf_ush w 24) &&& 7) ((st.1 (Int32.toNatClampNeg (10 + ((qf_ush w 24) &&& 7)))) + x)) ls _ _ (lv_sub hl [4, 5, 6, 7, 8, 9, 10, 3, 2, 0] rfl) hP hD hS (show qf_X_branch_j133 st w k x y z (qf_X_holds ((qf_ush w 15) &&& 7) ((st.1 (Int32.toNatClampNeg (10 + ((qf_ush w 24) &&& 7)))) + x) (0 : Int32)) j24s0 (qf_X_write st ((qf_ush w 24) &&& 7) ((st.1 (Int32.toNatClampNeg (10 + ((qf_ush w 24) &&& 7)))) + x)) = qf_X_branch st w k x y z from (Eq.trans (b := qf_X_branch_j24 st w k x y z j24s0) (by unfold qf_X_branch_j24; rw [if_neg h11, if_neg h12, if_pos h13]) hF24))
      · have h12 : k = 14 := h12
        refine lv_iload_n hx hb d_X_branch_72 rfl (lv_at hl 4 rfl) ?_
        refine lv_bipush (v := 15) hx hb d_X_branch_73 (by decide) ?_
        refine lv_iushr (v := (qf_ush w 15)) hx hb d_X_branch_75 rfl ?_
        refine lv_bipush (v := 7) hx hb d_X_branch_76 (by decide) ?_
        refine lv_iand hx hb d_X_branch_78 ?_
        refine lv_iload_n hx hb d_X_branch_79 rfl (lv_at hl 6 rfl) ?_
        refine lv_iload hx hb d_X_branch_80 (lv_at hl 7 rfl) ?_
        refine qx_rd (va_runS (As := [.int ((qf_ush w 15) &&& 7), .int x, .int y]) (rest := []) ⟨hx, hb, hml, hown, hts⟩ (c_X_holds l D cA ((qf_ush w 15) &&& 7) x y) (qx_kS hts mw_460 mw_461 mw_33 mw_462 cd_X_holds ⟨Nat.le_of_ble_eq_true rfl, Nat.le_of_ble_eq_true rfl⟩) (qx_preS hP hD hK hN [] rfl rfl) rfl rfl hl.1 rfl (lv_room (Nat.le_of_ble_eq_true rfl)) d_X_branch_82 ⟨Nat.zero_le _, Nat.zero_le _⟩) ?_
        refine lv_istore (lv' := [(9, .int (qf_X_holds ((qf_ush w 15) &&& 7) x y)), (8, .int ((st.1 0) / 32)), (7, .int j24s0), (0, .ref (ad 0)), (1, .int w), (2, .int k), (3, .int x), (4, .int y), (5, .int z), (6, .int ((qf_ush w 24) &&& 7))]) hx hb d_X_branch_85 hl (by decide) rfl (fun ls hl => ?_)
        refine lv_goto (tgt := 133) hx hb d_X_branch_87 (by decide) ?_
        exact hj133 (qf_X_holds ((qf_ush w 15) &&& 7) x y) j24s0 st ls _ _ (lv_sub hl [3, 4, 5, 6, 7, 8, 9, 2, 1, 0] rfl) hP hD hS (show qf_X_branch_j133 st w k x y z (qf_X_holds ((qf_ush w 15) &&& 7) x y) j24s0 st = qf_X_branch st w k x y z from (Eq.trans (b := qf_X_branch_j24 st w k x y z j24s0) (by unfold qf_X_branch_j24; rw [if_neg h11, if_pos h12]) hF24))
    · have h11 : k = 13 := h11
      refine lv_aload_n hx hb d_X_branch_46 rfl (lv_at hl 3 rfl) ?_
      refine lv_iload hx hb d_X_branch_47 (lv_at hl 9 rfl) ?_
      refine lv_aload_n hx hb d_X_branch_49 rfl (lv_at hl 3 rfl) ?_
      refine va_get (D := D) (ci := 3) (v := .ref (ad 1)) (C := R_X) (T := T_X) (N := 8) hx hb hts in_X hown hK hP 0 rfl rfl 0 (by decide) (hts (Cond.fieldLink R_X 7 "QueuedFrontsModel" "now" "[I") mw_370) (fun _ h9 => h9) rfl d_X_branch_50 ?_
      refine lv_iconst (v := 1) hx hb d_X_branch_53 (by decide) ?_
      refine va_iald hx hb hK hP 1 0 rfl rfl (show vp_in (1 : Int32) 86 from qi_lit (by decide)) d_X_branch_54 ?_
      refine lv_iconst (v := 1) hx hb d_X_branch_55 (by decide) ?_
      refine lv_iadd hx hb d_X_branch_56 ?_
      refine lv_bipush (v := 31) hx hb d_X_branch_57 (by decide) ?_
      refine lv_iand hx hb d_X_branch_59 ?_
      refine qx_muZ (T := qf_X_write st ((qf_ush w 24) &&& 7) (((st.1 1) + 1) &&& 31)) (Wf := fun zz : qs_X => qw_X ad cA zz) (vf := fun _ => none) (va_runV (As := [.int ((qf_ush w 24) &&& 7), .int (((st.1 1) + 1) &&& 31)]) (rest := []) ⟨hx, hb, hml, hown, hts⟩ (c_X_write l D cA ad st ((qf_ush w 24) &&& 7) (((st.1 1) + 1) &&& 31) (qi_and7 _)) (qx_kV hts mw_456 mw_458 mw_21 mw_33 mw_459 cd_X_write ⟨Nat.le_of_ble_eq_true rfl, Nat.le_of_ble_eq_true rfl⟩) (qx_preV (q0 := 0) (ci := 3) (q := (R_X, T_X, 8)) hP hD hK hN [0, 1, 2, 3, 4] rfl rfl rfl rfl) rfl rfl hl.1 rfl (lv_room (Nat.le_of_ble_eq_true rfl)) d_X_branch_60 ⟨Nat.zero_le _, Nat.zero_le _⟩) hP hD hS [0, 1, 2, 3, 4] rfl rfl [ad 0, ad 1, ad 2, ad 3, ad 4] rfl rfl (fun zz1 hzz1 H locs hP hD hS => ?_)
      have hP : va_P D vwCl (qw_X ad cA zz1) H := hP
      have hD : va_D A (qw_X ad cA zz1) := hD
      refine W.eq (g2 := F0 m 63 ls []) rfl ?_
      refine lv_goto (tgt := 133) hx hb d_X_branch_63 (by decide) ?_
      subst hzz1
      exact hj133 (1 : Int32) j24s0 (qf_X_write st ((qf_ush w 24) &&& 7) (((st.1 1) + 1) &&& 31)) ls _ _ (lv_sub hl [3, 4, 5, 6, 7, 8, 9, 2, 1, 0] rfl) hP hD hS (show qf_X_branch_j133 st w k x y z (1 : Int32) j24s0 (qf_X_write st ((qf_ush w 24) &&& 7) (((st.1 1) + 1) &&& 31)) = qf_X_branch st w k x y z from (Eq.trans (b := qf_X_branch_j24 st w k x y z j24s0) (by unfold qf_X_branch_j24; rw [if_pos h11]) hF24))
  refine lv_iload_n hx hb d_X_branch_0 rfl (lv_at hl 1 rfl) ?_
  refine lv_bipush (v := 24) hx hb d_X_branch_1 (by decide) ?_
  refine lv_iushr (v := (qf_ush w 24)) hx hb d_X_branch_3 rfl ?_
  refine lv_bipush (v := 7) hx hb d_X_branch_4 (by decide) ?_
  refine lv_iand hx hb d_X_branch_6 ?_
  refine lv_istore (lv' := [(6, .int ((qf_ush w 24) &&& 7)), (0, .ref (ad 0)), (1, .int w), (2, .int k), (3, .int x), (4, .int y), (5, .int z)]) hx hb d_X_branch_7 hl (by decide) rfl (fun ls hl => ?_)
  refine lv_iload_n hx hb d_X_branch_9 rfl (lv_at hl 2 rfl) ?_
  refine lv_bipush (v := 14) hx hb d_X_branch_10 (by decide) ?_
  refine lv_iushr (v := (qf_ush w 14)) hx hb d_X_branch_12 rfl ?_
  refine lv_iconst (v := 1) hx hb d_X_branch_13 (by decide) ?_
  refine lv_iand hx hb d_X_branch_14 ?_
  refine lv_iconst (v := 1) hx hb d_X_branch_15 (by decide) ?_
  refine lv_icmp_ne (tgt := 23) hx hb d_X_branch_16 (by decide) (fun h14 => ?_) (fun h14 => ?_)
  · have h14 : ¬ (((qf_ush w 14) &&& 1) = 1) := h14
    refine lv_iconst (v := 0) hx hb d_X_branch_23 (by decide) ?_
    exact hj24 (0 : Int32) ls _ _ (lv_sub hl [1, 2, 3, 4, 5, 6, 0] rfl) hP hD hS (show qf_X_branch_j24 st w k x y z (0 : Int32) = qf_X_branch st w k x y z from (by unfold qf_X_branch; rw [if_neg h14]))
  · have h14 : ((qf_ush w 14) &&& 1) = 1 := h14
    refine lv_iconst (v := 1) hx hb d_X_branch_19 (by decide) ?_
    refine lv_goto (tgt := 24) hx hb d_X_branch_20 (by decide) ?_
    exact hj24 (1 : Int32) ls _ _ (lv_sub hl [1, 2, 3, 4, 5, 6, 0] rfl) hP hD hS (show qf_X_branch_j24 st w k x y z (1 : Int32) = qf_X_branch st w k x y z from (by unfold qf_X_branch; rw [if_pos h14]))
theorem qf_X_branch_j243_c (st : qs_X) (w : Int32) (k : Int32) (x : Int32) (y : Int32) (z : Int32) (j243l7 : Int32) (j243l9 : Int32) (j243l10 : Int32) (j243s0 : Int32) (j243st0 : qs_X) : vp_in (qf_X_branch_j243 st w k x y z j243l7 j243l9 j243l10 j243s0 j243st0).2 7 := by
  unfold qf_X_branch_j243
  exact (qi_if2 (qi_pair (by decide)) (qi_pair (by decide)))
theorem qf_X_branch_j186_c (st : qs_X) (w : Int32) (k : Int32) (x : Int32) (y : Int32) (z : Int32) (j186l10 : Int32) (j186l7 : Int32) (j186l9 : Int32) (j186st0 : qs_X) : vp_in (qf_X_branch_j186 st w k x y z j186l10 j186l7 j186l9 j186st0).2 7 := by
  unfold qf_X_branch_j186
  exact (qi_if2 (qi_if2 (qf_X_branch_j243_c _ _ _ _ _ _ _ _ _ _ _) (qf_X_branch_j243_c _ _ _ _ _ _ _ _ _ _ _)) (qf_X_branch_j243_c _ _ _ _ _ _ _ _ _ _ _))
theorem qf_X_branch_j150_c (st : qs_X) (w : Int32) (k : Int32) (x : Int32) (y : Int32) (z : Int32) (j150l7 : Int32) (j150l9 : Int32) (j150s0 : Int32) (j150st0 : qs_X) : vp_in (qf_X_branch_j150 st w k x y z j150l7 j150l9 j150s0 j150st0).2 7 := by
  unfold qf_X_branch_j150
  exact (qi_if2 (qf_X_branch_j186_c _ _ _ _ _ _ _ _ _ _) (qi_if2 (qf_X_branch_j186_c _ _ _ _ _ _ _ _ _ _) (qi_if2 (qi_if2 (qf_X_branch_j186_c _ _ _ _ _ _ _ _ _ _) (qf_X_branch_j186_c _ _ _ _ _ _ _ _ _ _)) (qi_if2 (qf_X_branch_j186_c _ _ _ _ _ _ _ _ _ _) (qf_X_branch_j186_c _ _ _ _ _ _ _ _ _ _)))))
theorem qf_X_branch_j133_c (st : qs_X) (w : Int32) (k : Int32) (x : Int32) (y : Int32) (z : Int32) (j133l9 : Int32) (j133l7 : Int32) (j133st0 : qs_X) : vp_in (qf_X_branch_j133 st w k x y z j133l9 j133l7 j133st0).2 7 := by
  unfold qf_X_branch_j133
  exact (qi_if2 (qf_X_branch_j150_c _ _ _ _ _ _ _ _ _ _) (qi_if2 (qf_X_branch_j150_c _ _ _ _ _ _ _ _ _ _) (qf_X_branch_j150_c _ _ _ _ _ _ _ _ _ _)))
theorem qf_X_branch_j24_c (st : qs_X) (w : Int32) (k : Int32) (x : Int32) (y : Int32) (z : Int32) (j24s0 : Int32) : vp_in (qf_X_branch_j24 st w k x y z j24s0).2 7 := by
  unfold qf_X_branch_j24
  exact (qi_if2 (qf_X_branch_j133_c _ _ _ _ _ _ _ _ _) (qi_if2 (qf_X_branch_j133_c _ _ _ _ _ _ _ _ _) (qi_if2 (qf_X_branch_j133_c _ _ _ _ _ _ _ _ _) (qf_X_branch_j133_c _ _ _ _ _ _ _ _ _))))
theorem qf_X_branch_c (st : qs_X) (w : Int32) (k : Int32) (x : Int32) (y : Int32) (z : Int32) : vp_in (qf_X_branch st w k x y z).2 7 := by
  unfold qf_X_branch
  exact (qi_if2 (qf_X_branch_j24_c _ _ _ _ _ _ _) (qf_X_branch_j24_c _ _ _ _ _ _ _))
