/-! THE CLAIM OUT OF ONE WALK OF THE LAW'S BODY. Your part is whole_start (and what it stands on); all else here is the same for every law, but numbers. -/
def R_law : String := "QueuedFrontsLaw"
def lw_P (b : Addr) (xs : List Int32) (args : Array Value) (s : State) : Prop := args = #[.ref b] ∧ s.IntsAt b xs ∧ xs.length ≤ 2048 ∧ (Jvm.Cond.and given_1 narrow_1).before args s = true
def lw_Q (_ : Array Value) (s : State) (o : Outcome) (t : State) : Prop := o = .returned (some (.int 1)) ∧ Framed s o t [] 20 637
def lw_Z (below : List Frame) (a : Array Value) (s : State) : State → Prop := fun t => ∃ o, t.status = .running ∧ Ended t below o ∧ lw_Q a s o t
/-- the law's own end, with 1 on the stack, nothing written that was there before, its room as the claim has it -/
theorem lw_ret {p : Program} {l : Launch} {e : Env} {s : State} {m : MethodId} {below : List Frame} {meth : Method} {c : Code} {b : Nat} (hx : p.tables.exec = Jvm.exec) (hb : c.code = code) (hr : meth.sig.returnType = ret) (hlocks : meth.locks = false) {pc : Nat} {H : Heap} {ls : Array Slot} (hdg : decode code pc = .ok (.ireturn, 1)) : W p l e room_1 s m #[Value.ref b] below meth c H [] 20 637 (lw_Z below #[Value.ref b] s) (F0 m pc ls [.int 1]) := by
  intro T hT X
  obtain ⟨fs, hret, hrun, hended, hW, hframe⟩ := X.leave (v := some (.int 1)) (hlocks := hlocks) (fun h => by rw [hr] at h; cases h)
  have hmeth' : T.vm.method? m = some meth := X.method'
  refine ⟨T.setFrames fs, ?_, .returned (some (.int 1)), hrun, hended, rfl, ⟨_, rfl⟩, hW, hframe⟩
  jvm_step X.here [X.here.top, hx, hb, hdg, hmeth', hr, ret, narrow_b1]
  (try refine ⟨rfl, ?_⟩); (try refine ⟨rfl, ?_⟩)
  first | (intro acts; rw [hret _ acts rfl rfl rfl]) | rw [hret _ _ rfl rfl rfl]
  exact Steps.refl _
/-- what holds at the law's entry: the machine, the code, the tables' words (any of lw_tbl by 'hts w (by decide +kernel)'), the script of L ints xs at the cell b, what the Statement gives of the start (any of its parts by flat_of_before) -/
def lw_At (p : Program) (s : State) (m : MethodId) (meth : Method) (c : Code) (b L : Nat) (xs : Nat → Int32) : Prop :=
  p.tables.exec = Jvm.exec ∧ c.code = code ∧ meth.sig.returnType = ret ∧ c.maxLocals = 4 ∧ s.vm.findClass R_law = some m.cls ∧ (∀ w ∈ lw_tbl, w.before #[Value.ref b] s = true) ∧ va_X b L xs s s.heap ∧ b < s.heap.size ∧ meth.locks = false ∧ (Jvm.Cond.and given_1 narrow_1).before #[Value.ref b] s = true
theorem qd_cA {s : State} {args : Array Value} (h : (Cond.arrayClass .int).before args s = true) : ∃ cA : ClassId, ArrOfT s cA .int ∧ va_RA s cA .int := by
  obtain ⟨cA, kA, comp, h1, h2, h3⟩ := Cond.arrayClass_spec h
  exact ⟨cA, fun n z => ⟨fun k h => (by cases h), kA, h2, comp, h3⟩, h1⟩
theorem qd_K {s : State} {cA : ClassId} (hA : ArrOfT s cA .int ∧ va_RA s cA .int) {c0 : ClassId} {i0 : Nat → Nat} (k0 : u_Kn s R_Q T_Q 5 c0 i0) {c1 : ClassId} {i1 : Nat → Nat} (k1 : u_Kn s R_M T_M 7 c1 i1) {c2 : ClassId} {i2 : Nat → Nat} (k2 : u_Kn s R_F T_F 4 c2 i2) {c3 : ClassId} {i3 : Nat → Nat} (k3 : u_Kn s R_X T_X 8 c3 i3) : ∃ D : va_G, va_K D vwCl [(cA, .int)] s := by
  refine ⟨((fun k => match k with | 0 => c0 | 1 => c1 | 2 => c2 | _ => c3), (fun k => match k with | 0 => i0 | 1 => i1 | 2 => i2 | _ => i3)), fun c q hq => ?_, fun k q hk => ?_⟩
  · match c, hq with
    | 0, hq => cases hq; exact k0
    | 1, hq => cases hq; exact k1
    | 2, hq => cases hq; exact k2
    | 3, hq => cases hq; exact k3
    | c + 4, hq => cases hq
  · match k, hk with
    | 0, hk => cases hk; exact hA
    | k + 1, hk => cases hk
theorem qd_lt4 {L i : Nat} (hL : L ≤ 2048) (hi : i ≤ L + 4) : (Int32.ofNat L - 4 < nI i) ↔ L < i + 4 := by
  by_cases h4 : 4 ≤ L
  · obtain ⟨n, rfl⟩ : ∃ n, L = n + 4 := ⟨L - 4, by omega⟩
    have e : Int32.ofNat (n + 4) - 4 = nI n := by
      show nI (n + 4) - 4 = nI n
      rw [← nI_add n 4]
      exact Int32.add_sub_cancel _ _
    rw [e, nI_ltI (by omega) (by omega)]
    omega
  · have h0 : Int32.ofNat L - 4 < 0 := by
      rcases (show L = 0 ∨ L = 1 ∨ L = 2 ∨ L = 3 by omega) with rfl | rfl | rfl | rfl <;> decide
    exact ⟨fun _ => by omega, fun _ => by
      rw [Int32.lt_iff_toInt_lt] at h0 ⊢
      rw [nI_toInt (by omega)]
      have z : (0 : Int32).toInt = 0 := rfl
      omega⟩
set_option maxHeartbeats 4000000 in
set_option maxRecDepth 100000 in
theorem whole_start {p : Program} {e : Env} {s : State} {m : MethodId} {below : List Frame} {meth : Method} {c : Code} (l : Launch) {b L : Nat} {xs : Nat → Int32} (hL : L ≤ 2048) (C0 : lw_At p s m meth c b L xs) : W p l e room_1 s m #[Value.ref b] below meth c s.heap [] 0 0 (lw_Z below #[Value.ref b] s) (entryFrame m ([Value.ref b] : List Value).toArray 4) := by
  obtain ⟨hx, hb, hr, hml, hown, hts0, hX, hbl, hlocks, -⟩ := C0
  have hown : s.vm.findClass R_L = some m.cls := hown
  have hts : ∀ w ∈ qx_T, w.before #[Value.ref b] s = true := fun w h => hts0 w (qx_tbl w h)
  obtain ⟨c0, i0, k0⟩ := u_known hts in_Q (hts (Cond.instantiable R_Q 5) mw_38)
  obtain ⟨c1, i1, k1⟩ := u_known hts in_M (hts (Cond.instantiable R_M 7) mw_46)
  obtain ⟨c2, i2, k2⟩ := u_known hts in_F (hts (Cond.instantiable R_F 4) mw_52)
  obtain ⟨c3, i3, k3⟩ := u_known hts in_X (hts (Cond.instantiable R_X 8) mw_365)
  obtain ⟨cA, hcA⟩ := qd_cA (hts (Cond.arrayClass .int) mw_78)
  obtain ⟨D, hK⟩ := qd_K hcA k0 k1 k2 k3
  have hN : qn s := ⟨va_Nw.of rfl (hts0 _ (List.mem_of_getElem? (i := 53) (by decide +kernel))), va_Nw.of rfl (hts0 _ (List.mem_of_getElem? (i := 240) (by decide +kernel))), va_Nw.of rfl (hts0 _ (List.mem_of_getElem? (i := 287) (by decide +kernel)))⟩
  obtain ⟨A, hAd⟩ : ∃ A : Nat → Prop, A = fun q => s.heap.size ≤ q := ⟨_, rfl⟩
  have hA : ∀ q : Nat, s.heap.size ≤ q → A q := fun q h => by rw [hAd]; exact h
  have hbA : ¬ A b := by rw [hAd]; exact Nat.not_le.mpr hbl
  have hS : va_S A s.heap s.heap [] := va_S.rf
  have hP : va_P D vwCl [] s.heap := fun k q hk => by cases hk
  have hD : va_D A [] := ⟨fun i j p q hi => (by cases hi), fun k q hk => by cases hk⟩
  have hl := lv_entry ([.ref b]) (n := 4) (Nat.le_of_ble_eq_true rfl)
  rw [lg_entry_eq]
  generalize (lg_sl ([.ref b]) ++ List.replicate (4 - (lg_sl ([.ref b])).length) Slot.unset).toArray = ls at hl ⊢
  have hl : lv_has ls 4 [(0, .ref b)] := hl
  have hloop : ∀ (u1 u2 : Nat → Nat) (k i : Nat) (sq : qs_Q) (sx : qs_X) (ls : Array Slot) (H : Heap) (locs : List Loc), i ≤ L + 4 → L < i + 4 * k + 4 → qL sq sx → lv_has ls 4 [(0, .ref b), (1, .ref (u1 0)), (2, .ref (u2 0)), (3, .int (nI i))] → va_P D vwCl (qw_Q u1 cA sq ++ qw_X u2 cA sx) H → va_D A (qw_Q u1 cA sq ++ qw_X u2 cA sx) → va_S A s.heap H locs → W p l e room_1 s m #[Value.ref b] below meth c H locs 20 637 (lw_Z below #[Value.ref b] s) (F0 m 18 ls []) := by
    intro u1 u2
    have hexit : ∀ (i : Nat) (ls : Array Slot) (H : Heap) (locs : List Loc), i ≤ L + 4 → L < i + 4 → lv_has ls 4 [(0, .ref b), (1, .ref (u1 0)), (2, .ref (u2 0)), (3, .int (nI i))] → va_S A s.heap H locs → W p l e room_1 s m #[Value.ref b] below meth c H locs 20 637 (lw_Z below #[Value.ref b] s) (F0 m 18 ls []) := by
      intro i ls H locs hi hLi hl hS
      have hgt := (qd_lt4 hL hi).mpr hLi
      refine lv_iload_n hx hb d_L_law_18 rfl (lv_at hl 3 rfl) ?_
      refine lv_aload_n hx hb d_L_law_19 rfl (lv_at hl 0 rfl) ?_
      refine va_slen hx hb hX hbl hbA hS d_L_law_20 ?_
      refine lv_iconst (v := 4) hx hb d_L_law_21 (by decide) ?_
      refine lv_isub hx hb d_L_law_22 ?_
      refine lv_icmp_gt (tgt := 543) hx hb d_L_law_23 (by decide) (fun _ => ?_) (fun h => False.elim (h hgt))
      refine lv_iconst (v := 1) hx hb d_L_law_543 (by decide) ?_
      refine va_forget (fun q hq => by have h9 := hS.2.2 q hq; rw [hAd] at h9; exact h9) ?_
      exact lw_ret hx hb hr hlocks d_L_law_544
    intro k
    induction k with
    | zero => intro i sq sx ls H locs hi hLi hq hl hP hD hS; exact hexit i ls H locs hi (by omega) hl hS
    | succ k ih =>
      intro i sq sx ls H locs hi hLi hq hl hP hD hS
      by_cases hin : i + 4 ≤ L
      case neg => exact hexit i ls H locs hi (by omega) hl hS
      have hgt : ¬ (Int32.ofNat L - 4 < nI i) := fun h => absurd ((qd_lt4 hL hi).mp h) (by omega)
      have hi0 : vp_in (nI i) L := vp_in_nI (by omega) (by omega)
      have hi1 : vp_in (nI i + 1) L := by rw [show nI i + 1 = nI (i + 1) from nI_add i 1]; exact vp_in_nI (by omega) (by omega)
      have hi2 : vp_in (nI i + 2) L := by rw [show nI i + 2 = nI (i + 2) from nI_add i 2]; exact vp_in_nI (by omega) (by omega)
      have hi3 : vp_in (nI i + 3) L := by rw [show nI i + 3 = nI (i + 3) from nI_add i 3]; exact vp_in_nI (by omega) (by omega)
      have hnext : ∀ (sq : qs_Q) (sx : qs_X) (ls : Array Slot) (H : Heap) (locs : List Loc), qL sq sx → lv_has ls 4 [(0, .ref b), (1, .ref (u1 0)), (2, .ref (u2 0)), (3, .int (nI i))] → va_P D vwCl (qw_Q u1 cA sq ++ qw_X u2 cA sx) H → va_D A (qw_Q u1 cA sq ++ qw_X u2 cA sx) → va_S A s.heap H locs → W p l e room_1 s m #[Value.ref b] below meth c H locs 20 637 (lw_Z below #[Value.ref b] s) (F0 m 537 ls []) := by
        intro sq sx ls H locs hq hl hP hD hS
        refine lv_iinc (v := (nI i + 4)) (lv' := [(3, .int (nI i + 4)), (0, .ref b), (1, .ref (u1 0)), (2, .ref (u2 0))]) (k := 3) hx hb d_L_law_537 hl rfl rfl (by decide) rfl (fun ls hl => ?_)
        refine lv_goto (tgt := 18) hx hb d_L_law_540 (by decide) ?_
        rw [show nI i + 4 = nI (i + 4) from nI_add i 4] at hl
        exact ih (i + 4) sq sx ls _ _ (by omega) (by omega) hq (lv_sub hl [1, 2, 3, 0] rfl) hP hD hS
      refine lv_iload_n hx hb d_L_law_18 rfl (lv_at hl 3 rfl) ?_
      refine lv_aload_n hx hb d_L_law_19 rfl (lv_at hl 0 rfl) ?_
      refine va_slen hx hb hX hbl hbA hS d_L_law_20 ?_
      refine lv_iconst (v := 4) hx hb d_L_law_21 (by decide) ?_
      refine lv_isub hx hb d_L_law_22 ?_
      refine lv_icmp_gt (tgt := 543) hx hb d_L_law_23 (by decide) (fun h => False.elim (hgt h)) (fun _ => ?_)
      refine lv_aload_n hx hb d_L_law_26 rfl (lv_at hl 0 rfl) ?_
      refine lv_iload_n hx hb d_L_law_27 rfl (lv_at hl 3 rfl) ?_
      refine va_sld hx hb hX hbl hbA hS (show vp_in (nI i) L from hi0) d_L_law_28 ?_
      refine lv_bipush (v := 15) hx hb d_L_law_29 (by decide) ?_
      refine lv_iand hx hb d_L_law_31 ?_
      by_cases h1 : ((xs (Int32.toNatClampNeg (nI i))) &&& 15) = 0
      · refine lv_tableIn (tgt := 108) hx hb d_L_law_32 (by rw [h1]; decide) (by rw [h1]; decide) (by rw [h1]; rfl) (by decide) ?_
        exact lw_c0 hx hb hml hown hts hX hbl hbA hK hN hi0 hi1 hi2 hi3 hq hl hP hD hS hnext
      by_cases h2 : ((xs (Int32.toNatClampNeg (nI i))) &&& 15) = 1
      · refine lv_tableIn (tgt := 151) hx hb d_L_law_32 (by rw [h2]; decide) (by rw [h2]; decide) (by rw [h2]; rfl) (by decide) ?_
        exact lw_c1 hx hb hml hown hts hX hbl hbA hK hN hi0 hi1 hi2 hi3 hq hl hP hD hS hnext
      by_cases h3 : ((xs (Int32.toNatClampNeg (nI i))) &&& 15) = 2
      · refine lv_tableIn (tgt := 194) hx hb d_L_law_32 (by rw [h3]; decide) (by rw [h3]; decide) (by rw [h3]; rfl) (by decide) ?_
        exact lw_c2 hx hb hml hown hts hX hbl hbA hK hN hi0 hi1 hi2 hi3 hq hl hP hD hS hnext
      by_cases h4 : ((xs (Int32.toNatClampNeg (nI i))) &&& 15) = 3
      · refine lv_tableIn (tgt := 227) hx hb d_L_law_32 (by rw [h4]; decide) (by rw [h4]; decide) (by rw [h4]; rfl) (by decide) ?_
        exact lw_c3 hx hb hml hown hts hX hbl hbA hK hN hi0 hi1 hi2 hi3 hq hl hP hD hS hnext
      by_cases h5 : ((xs (Int32.toNatClampNeg (nI i))) &&& 15) = 4
      · refine lv_tableIn (tgt := 260) hx hb d_L_law_32 (by rw [h5]; decide) (by rw [h5]; decide) (by rw [h5]; rfl) (by decide) ?_
        exact lw_c4 hx hb hml hown hts hX hbl hbA hK hN hi0 hi1 hi2 hi3 hq hl hP hD hS hnext
      by_cases h6 : ((xs (Int32.toNatClampNeg (nI i))) &&& 15) = 5
      · refine lv_tableIn (tgt := 319) hx hb d_L_law_32 (by rw [h6]; decide) (by rw [h6]; decide) (by rw [h6]; rfl) (by decide) ?_
        exact lw_c5 hx hb hml hown hts hX hbl hbA hK hN hi0 hi1 hi2 hi3 hq hl hP hD hS hnext
      by_cases h7 : ((xs (Int32.toNatClampNeg (nI i))) &&& 15) = 6
      · refine lv_tableIn (tgt := 332) hx hb d_L_law_32 (by rw [h7]; decide) (by rw [h7]; decide) (by rw [h7]; rfl) (by decide) ?_
        exact lw_c6 hx hb hml hown hts hX hbl hbA hK hN hi0 hi1 hi2 hi3 hq hl hP hD hS hnext
      by_cases h8 : ((xs (Int32.toNatClampNeg (nI i))) &&& 15) = 7
      · refine lv_tableIn (tgt := 355) hx hb d_L_law_32 (by rw [h8]; decide) (by rw [h8]; decide) (by rw [h8]; rfl) (by decide) ?_
        exact lw_c7 hx hb hml hown hts hX hbl hbA hK hN hi0 hi1 hi2 hi3 hq hl hP hD hS hnext
      by_cases h9 : ((xs (Int32.toNatClampNeg (nI i))) &&& 15) = 8
      · refine lv_tableIn (tgt := 378) hx hb d_L_law_32 (by rw [h9]; decide) (by rw [h9]; decide) (by rw [h9]; rfl) (by decide) ?_
        exact lw_c8 hx hb hml hown hts hX hbl hbA hK hN hi0 hi1 hi2 hi3 hq hl hP hD hS hnext
      by_cases h10 : ((xs (Int32.toNatClampNeg (nI i))) &&& 15) = 9
      · refine lv_tableIn (tgt := 401) hx hb d_L_law_32 (by rw [h10]; decide) (by rw [h10]; decide) (by rw [h10]; rfl) (by decide) ?_
        exact lw_c9 hx hb hml hown hts hX hbl hbA hK hN hi0 hi1 hi2 hi3 hq hl hP hD hS hnext
      by_cases h11 : ((xs (Int32.toNatClampNeg (nI i))) &&& 15) = 10
      · refine lv_tableIn (tgt := 424) hx hb d_L_law_32 (by rw [h11]; decide) (by rw [h11]; decide) (by rw [h11]; rfl) (by decide) ?_
        exact lw_c10 hx hb hml hown hts hX hbl hbA hK hN hi0 hi1 hi2 hi3 hq hl hP hD hS hnext
      by_cases h12 : ((xs (Int32.toNatClampNeg (nI i))) &&& 15) = 11
      · refine lv_tableIn (tgt := 457) hx hb d_L_law_32 (by rw [h12]; decide) (by rw [h12]; decide) (by rw [h12]; rfl) (by decide) ?_
        exact lw_c11 hx hb hml hown hts hX hbl hbA hK hN hi0 hi1 hi2 hi3 hq hl hP hD hS hnext
      by_cases h13 : ((xs (Int32.toNatClampNeg (nI i))) &&& 15) = 12
      · refine lv_tableIn (tgt := 490) hx hb d_L_law_32 (by rw [h13]; decide) (by rw [h13]; decide) (by rw [h13]; rfl) (by decide) ?_
        exact lw_c12 hx hb hml hown hts hX hbl hbA hK hN hi0 hi1 hi2 hi3 hq hl hP hD hS hnext
      by_cases h14 : ((xs (Int32.toNatClampNeg (nI i))) &&& 15) = 13
      · refine lv_tableIn (tgt := 513) hx hb d_L_law_32 (by rw [h14]; decide) (by rw [h14]; decide) (by rw [h14]; rfl) (by decide) ?_
        exact lw_c13 hx hb hml hown hts hX hbl hbA hK hN hi0 hi1 hi2 hi3 hq hl hP hD hS hnext
      by_cases h15 : ((xs (Int32.toNatClampNeg (nI i))) &&& 15) = 14
      · refine lv_tableIn (tgt := 524) hx hb d_L_law_32 (by rw [h15]; decide) (by rw [h15]; decide) (by rw [h15]; rfl) (by decide) ?_
        exact lw_c14 hx hb hml hown hts hX hbl hbA hK hN hi0 hi1 hi2 hi3 hq hl hP hD hS hnext
      refine lv_tableOut (tgt := 537) hx hb d_L_law_32 (by have a0 := lv_neT (a := 0) h1 (by decide); have a1 := lv_neT (a := 1) h2 (by decide); have a2 := lv_neT (a := 2) h3 (by decide); have a3 := lv_neT (a := 3) h4 (by decide); have a4 := lv_neT (a := 4) h5 (by decide); have a5 := lv_neT (a := 5) h6 (by decide); have a6 := lv_neT (a := 6) h7 (by decide); have a7 := lv_neT (a := 7) h8 (by decide); have a8 := lv_neT (a := 8) h9 (by decide); have a9 := lv_neT (a := 9) h10 (by decide); have a10 := lv_neT (a := 10) h11 (by decide); have a11 := lv_neT (a := 11) h12 (by decide); have a12 := lv_neT (a := 12) h13 (by decide); have a13 := lv_neT (a := 13) h14 (by decide); have a14 := lv_neT (a := 14) h15 (by decide); omega) (by decide) ?_
      exact hnext sq sx ls _ _ hq hl hP hD hS
  refine va_new (ci := 0) (fs := [.null, .null, .null, .null, .int 0]) (C := R_Q) (T := T_Q) (N := 5) hx hb hts in_Q ty_Q tyok_Q hown (hts (Cond.classLink R_L 7 R_Q) mw_37) (hts (Cond.instantiable R_Q 5) mw_38) (hts (Cond.initialized R_Q) mw_29) hK hP hD hS hA rfl (fun j hj => by rcases (show j = 0 ∨ j = 1 ∨ j = 2 ∨ j = 3 ∨ j = 4 by omega) with rfl | rfl | rfl | rfl | rfl <;> rfl) (Nat.le_of_ble_eq_true rfl) (Nat.le_of_ble_eq_true rfl) d_L_law_0 (fun q1 H hP hD hS => ?_)
  have hP : va_P D vwCl ([(q1, .inr (0, [.null, .null, .null, .null, .int 0]))]) H := hP
  have hD : va_D A ([(q1, .inr (0, [.null, .null, .null, .null, .int 0]))]) := hD
  refine W.widen (k := 1) (n := 5) (Nat.le_of_ble_eq_true rfl) (Nat.le_of_ble_eq_true rfl) ?_
  refine lv_dup hx hb d_L_law_3 rfl ?_
  have hPc := hP.sub (ws' := [(q1, .inr (0, [.null, .null, .null, .null, .int 0]))]) [0] rfl
  have hDc := hD.sub (ws' := [(q1, .inr (0, [.null, .null, .null, .null, .int 0]))]) [0] (by decide) rfl
  have hFc := va_free (wc := [(q1, .inr (0, [.null, .null, .null, .null, .int 0]))]) hD hS hA [0] rfl
  refine va_callv (va_runI (As := []) (rest := [.ref q1]) ⟨hx, hb, hml, hown, hts⟩ (c_Q_init l D cA q1 H.size) (qx_kI hts mw_39 mw_40 mw_29 mw_41 rfl cd_Q_init ⟨Nat.le_of_ble_eq_true rfl, Nat.le_of_ble_eq_true rfl⟩) ⟨fun a U g mk q => by obtain ⟨q0, q1, qP, qK, qN, qD⟩ := q; exact ⟨q0, q1, qP, va_K.moved (u := U) (U := U.calling g mk a) (Vm.Alike.refl U.vm) qK, qn_same (U := U.calling g mk a) rfl qN, qD⟩, fun U hU hW => ⟨rfl, by rw [hU], by rw [hU]; exact hPc, va_K.moved hW.alike hK, qn_warm hW hN, hDc.weaken (fun _ _ _ _ => trivial)⟩⟩ rfl rfl hl.1 rfl (lv_room (Nat.le_of_ble_eq_true rfl)) d_L_law_4 ⟨Nat.le_of_ble_eq_true rfl, Nat.le_of_ble_eq_true rfl⟩) hS (fun q _ h => hFc q h) hFc (fun u1 t H1 locs ht hvm hu hB hz1 hk1 hS => ?_)
  obtain ⟨hP1, hD1⟩ := hB
  rw [ht] at hP1
  try dsimp only at hu
  subst hu
  obtain ⟨hP, hD⟩ := va_join (wr := []) (w1 := qw_Q u1 cA qz_Q) hP hD [0] [] rfl rfl (by decide) (by decide) hk1 hFc hP1 hD1
  generalize H1 = H at hP hS ⊢
  have hP : va_P D vwCl (qw_Q u1 cA qz_Q) H := hP
  have hD : va_D A (qw_Q u1 cA qz_Q) := hD
  refine W.widen (k := 15) (n := 322) (Nat.le_of_ble_eq_true rfl) (Nat.le_of_ble_eq_true rfl) ?_
  refine lv_astore_n (lv' := [(1, .ref (u1 0)), (0, .ref b)]) hx hb d_L_law_7 rfl hl (by decide) rfl (fun ls hl => ?_)
  refine va_new (ci := 3) (fs := [.null, .null, .int 0, .null, .null, .int 0, .int 0, .int 0]) (C := R_X) (T := T_X) (N := 8) hx hb hts in_X ty_X tyok_X hown (hts (Cond.classLink R_L 10 R_X) mw_364) (hts (Cond.instantiable R_X 8) mw_365) (hts (Cond.initialized R_X) mw_33) hK hP hD hS hA rfl (fun j hj => by rcases (show j = 0 ∨ j = 1 ∨ j = 2 ∨ j = 3 ∨ j = 4 ∨ j = 5 ∨ j = 6 ∨ j = 7 by omega) with rfl | rfl | rfl | rfl | rfl | rfl | rfl | rfl <;> rfl) (Nat.le_of_ble_eq_true rfl) (Nat.le_of_ble_eq_true rfl) d_L_law_8 (fun q2 H hP hD hS => ?_)
  have hP : va_P D vwCl (qw_Q u1 cA qz_Q ++ [(q2, .inr (3, [.null, .null, .int 0, .null, .null, .int 0, .int 0, .int 0]))]) H := hP
  have hD : va_D A (qw_Q u1 cA qz_Q ++ [(q2, .inr (3, [.null, .null, .int 0, .null, .null, .int 0, .int 0, .int 0]))]) := hD
  refine W.widen (k := 16) (n := 330) (Nat.le_of_ble_eq_true rfl) (Nat.le_of_ble_eq_true rfl) ?_
  refine lv_dup hx hb d_L_law_11 rfl ?_
  have hPc := hP.sub (ws' := [(q2, .inr (3, [.null, .null, .int 0, .null, .null, .int 0, .int 0, .int 0]))]) [15] rfl
  have hDc := hD.sub (ws' := [(q2, .inr (3, [.null, .null, .int 0, .null, .null, .int 0, .int 0, .int 0]))]) [15] (by decide) rfl
  have hFc := va_free (wc := [(q2, .inr (3, [.null, .null, .int 0, .null, .null, .int 0, .int 0, .int 0]))]) hD hS hA [15] rfl
  refine va_callv (va_runI (As := []) (rest := [.ref q2]) ⟨hx, hb, hml, hown, hts⟩ (c_X_init l D cA q2 H.size) (qx_kI hts mw_366 mw_367 mw_33 mw_368 rfl cd_X_init ⟨Nat.le_of_ble_eq_true rfl, Nat.le_of_ble_eq_true rfl⟩) ⟨fun a U g mk q => by obtain ⟨q0, q1, qP, qK, qN, qD⟩ := q; exact ⟨q0, q1, qP, va_K.moved (u := U) (U := U.calling g mk a) (Vm.Alike.refl U.vm) qK, qn_same (U := U.calling g mk a) rfl qN, qD⟩, fun U hU hW => ⟨rfl, by rw [hU], by rw [hU]; exact hPc, va_K.moved hW.alike hK, qn_warm hW hN, hDc.weaken (fun _ _ _ _ => trivial)⟩⟩ rfl rfl hl.1 rfl (lv_room (Nat.le_of_ble_eq_true rfl)) d_L_law_12 ⟨Nat.le_of_ble_eq_true rfl, Nat.le_of_ble_eq_true rfl⟩) hS (fun q _ h => hFc q h) hFc (fun u2 t H1 locs ht hvm hu hB hz1 hk1 hS => ?_)
  obtain ⟨hP1, hD1⟩ := hB
  rw [ht] at hP1
  try dsimp only at hu
  subst hu
  obtain ⟨hP, hD⟩ := va_join (wr := qw_Q u1 cA qz_Q) (w1 := qw_X u2 cA qz_X) hP hD [15] [0, 1, 2, 3, 4, 5, 6, 7, 8, 9, 10, 11, 12, 13, 14] rfl rfl (by decide) (by decide) hk1 hFc hP1 hD1
  generalize H1 = H at hP hS ⊢
  have hP : va_P D vwCl (qw_Q u1 cA qz_Q ++ qw_X u2 cA qz_X) H := hP
  have hD : va_D A (qw_Q u1 cA qz_Q ++ qw_X u2 cA qz_X) := hD
  refine W.widen (k := 20) (n := 637) (Nat.le_of_ble_eq_true rfl) (Nat.le_of_ble_eq_true rfl) ?_
  refine lv_astore_n (lv' := [(2, .ref (u2 0)), (1, .ref (u1 0)), (0, .ref b)]) hx hb d_L_law_15 rfl hl (by decide) rfl (fun ls hl => ?_)
  refine lv_iconst (v := 0) hx hb d_L_law_16 (by decide) ?_
  refine lv_istore_n (lv' := [(3, .int 0), (2, .ref (u2 0)), (1, .ref (u1 0)), (0, .ref b)]) hx hb d_L_law_17 rfl hl (by decide) rfl (fun ls hl => ?_)
  have hl := lv_sub (l' := [(0, .ref b), (1, .ref (u1 0)), (2, .ref (u2 0)), (3, .int 0)]) hl [3, 2, 1, 0] rfl
  have hl : lv_has ls 4 [(0, .ref b), (1, .ref (u1 0)), (2, .ref (u2 0)), (3, .int (nI 0))] := by rw [nI_0]; exact hl
  exact hloop u1 u2 L 0 qz_Q qz_X ls _ _ (Nat.zero_le _) (by omega) qp_init hl hP hD hS
