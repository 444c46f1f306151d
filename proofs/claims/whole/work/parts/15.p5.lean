theorem qp_saved {m : qs_M} {x : qs_X} (h : qE m x.1) (z : Int32) : qf_X_saved x z = qf_M_savedThing m z := by
  unfold qf_X_saved qf_M_savedThing qf_Pl_offsetOf qf_Pl_spaceOf
  rw [h.2.2.2.2.1, h.2.2.2.2.2.1]
theorem qp_sv {m : qs_M} {g : Nat → Int32} (h : qR m g) {g2 : Nat → Int32} (hg : ∀ j : Nat, j ≠ 5 → j ≠ 6 → j ≠ 7 → j ≠ 8 → g2 j = g j) (h5 : vp_in (g2 5) 128) (h6 : vp_in (g2 6) 128) (h7 : qb (g2 7)) (h8 : qb (g2 8)) {sv : qs_F} (es : sv = (g2 5, g2 6, g2 7, g2 8)) : qR (qm_M_sv m sv) g2 := by
  have h' := h
  obtain ⟨⟨e1, e2, e3, e4, e5, e6, e7⟩, i0, i1, i5, i6, i2, i3, i4, i7, i8, is, ir⟩ := h
  have G : ∀ j : Nat, j < 5 ∨ 9 ≤ j → g2 j = g j := fun j hj => hg j (by omega) (by omega) (by omega) (by omega)
  refine qp_fl h' (fun j hj => G j (by omega)) ?_ ?_ ?_ ?_ ?_ h5 h6 h7 h8 ?_ es ?_ ?_
  · rw [G _ (by omega)]; exact i0
  · rw [G _ (by omega)]; exact i1
  · rw [G _ (by omega)]; exact i2
  · rw [G _ (by omega)]; exact i3
  · rw [G _ (by omega)]; exact i4
  · rw [G 0 (by omega), G 1 (by omega), G 2 (by omega), G 3 (by omega)]; exact e4
  · rw [G _ (by omega)]; exact e6
  · rw [G _ (by omega)]; exact e7
theorem qp_save {m : qs_M} {x : qs_X} (h : qR m x.1) (z a : Int32) : qR (qf_M_setSavedThing m z a) (qf_X_save x z a).1 ∧ (qf_X_save x z a).2 = x.2 := by
  have h' := h
  obtain ⟨⟨e1, e2, e3, e4, e5, e6, e7⟩, i0, i1, i5, i6, i2, i3, i4, i7, i8, is, ir⟩ := h
  unfold qf_M_setSavedThing qf_X_save
  by_cases h0 : z = 0
  · rw [if_pos h0, if_pos h0]
    refine ⟨qp_sv h' (fun j a b c d => qp_upd_ne _ _ a) ?_ i6 i7 i8 ?_, rfl⟩
    · show vp_in (qf_X_place _ _) 128
      exact qi_Xp _ _
    · rw [e5]
      show (qf_Pl_of (qf_Pl_spaceOf (x.1 5)) a, x.1 6, x.1 7, x.1 8) = (qf_X_place (x.1 5 / 32) a, x.1 6, x.1 7, x.1 8)
      rw [qp_place]; rfl
  rw [if_neg h0, if_neg h0]
  by_cases h1 : z = 1
  · rw [if_pos h1, if_pos h1]
    refine ⟨qp_sv h' (fun j a b c d => qp_upd_ne _ _ b) i5 ?_ i7 i8 ?_, rfl⟩
    · show vp_in (qf_X_place _ _) 128
      exact qi_Xp _ _
    · rw [e5]
      show (x.1 5, qf_Pl_of (qf_Pl_spaceOf (x.1 6)) a, x.1 7, x.1 8) = (x.1 5, qf_X_place (x.1 6 / 32) a, x.1 7, x.1 8)
      rw [qp_place]; rfl
  rw [if_neg h1, if_neg h1]
  by_cases h2 : z = 2
  · rw [if_pos h2, if_pos h2]
    refine ⟨qp_sv h' (fun j a b c d => qp_upd_ne _ _ a) ?_ i6 i7 i8 ?_, rfl⟩
    · show vp_in (qf_X_place _ _) 128
      exact qi_Xp _ _
    · rw [e5]
      show (qf_Pl_of a (qf_Pl_offsetOf (x.1 5)), x.1 6, x.1 7, x.1 8) = (qf_X_place a (x.1 5), x.1 6, x.1 7, x.1 8)
      rw [qp_place]
      unfold qf_Pl_of
      rw [qp_off i5]
  rw [if_neg h2, if_neg h2]
  by_cases h3 : z = 3
  · rw [if_pos h3, if_pos h3]
    refine ⟨qp_sv h' (fun j a b c d => qp_upd_ne _ _ b) i5 ?_ i7 i8 ?_, rfl⟩
    · show vp_in (qf_X_place _ _) 128
      exact qi_Xp _ _
    · rw [e5]
      show (x.1 5, qf_Pl_of a (qf_Pl_offsetOf (x.1 6)), x.1 7, x.1 8) = (x.1 5, qf_X_place a (x.1 6), x.1 7, x.1 8)
      rw [qp_place]
      unfold qf_Pl_of
      rw [qp_off i6]
  rw [if_neg h3, if_neg h3]
  by_cases h4 : z = 4
  · rw [if_pos h4, if_pos h4]
    refine ⟨qp_sv h' (fun j a b c d => (qp_upd_ne _ _ d).trans (qp_upd_ne _ _ c)) i5 i6 ?_ ?_ ?_, rfl⟩
    · show qb (a &&& 1)
      exact qp_qb1 _
    · show qb ((a >>> ((1 : Int32) &&& 31)) &&& 1)
      exact qp_qb1 _
    · rw [e5]
      show (x.1 5, x.1 6, a &&& 1, (qf_ush a 1) &&& 1) = (x.1 5, x.1 6, a &&& 1, (a >>> ((1 : Int32) &&& 31)) &&& 1)
      rw [qp_shr]
  rw [if_neg h4, if_neg h4]
  exact ⟨h', rfl⟩
theorem qp_lets {m : qs_M} {g : Nat → Int32} (h : qR m g) {n : Int32} (hn : qb n) : qR (qm_M_fl m (qm_F_l m.2.2.2.1 n)) (upd g 3 n) := by
  have h' := h
  obtain ⟨⟨e1, e2, e3, e4, e5, e6, e7⟩, i0, i1, i5, i6, i2, i3, i4, i7, i8, is, ir⟩ := h
  refine qp_fl (g := g) (g2 := upd g 3 n) h' (fun j hj => qp_upd_ne _ _ (by omega)) i0 i1 i2 hn i4 i5 i6 i7 i8 ?_ e5 e6 e7
  rw [e4]; rfl
theorem qp_comeBack {m : qs_M} {x : qs_X} (h : qR m x.1) {w : Int32} (hc : qf_M_causeOf m w = 0) (hp : qf_M_perform m w = qm_M_fl m (qf_F_become m.2.2.2.1 m.2.2.2.2.1)) : qS m x w (qf_X_comeBack x, 0) := by
  refine ⟨hc, (qi_lit (by decide) : vp_in 0 6), ⟨rfl, rfl, rfl, rfl⟩, fun q => absurd rfl q, fun _ => ?_⟩
  rw [hp]
  have h' := h
  obtain ⟨⟨e1, e2, e3, e4, e5, e6, e7⟩, i0, i1, i5, i6, i2, i3, i4, i7, i8, is, ir⟩ := h
  have e : (qd_fin (qf_X_comeBack x, 0)).1 = upd (upd (upd (upd x.1 0 (x.1 5)) 1 (x.1 6)) 2 (x.1 7)) 3 (x.1 8) := by
    unfold qd_fin
    rw [if_pos (show (0 : Int32) ≤ 0 by decide), if_neg (show ¬ (qf_X_comeBack x).2.2.2.2.2.2.2 = 0 from (by decide : ¬ (1 : Int32) = 0))]
    rfl
  rw [e]
  refine qp_fl (g := x.1) (g2 := upd (upd (upd (upd x.1 0 (x.1 5)) 1 (x.1 6)) 2 (x.1 7)) 3 (x.1 8)) h' (fun j hj => ?_) i5 i6 i7 i8 i4 i5 i6 i7 i8 ?_ e5 e6 e7
  · rw [qp_upd_ne _ _ (by omega), qp_upd_ne _ _ (by omega), qp_upd_ne _ _ (by omega), qp_upd_ne _ _ (by omega)]
  · unfold qf_F_become
    rw [e5]; rfl
theorem qp_manage {m : qs_M} {x : qs_X} (h : qR m x.1) (hnu : x.2.2.2.2.2.1 = 0) (hsy : x.2.2.2.2.2.2.2 = 0) (htg : x.2.2.2.2.2.2.1 = -1) {w : Int32} {j : Nat} (hk : qf_Pa_kind w = nI j) (h18 : 18 ≤ j) (hj : j < 32) {a : Int32} (ha : qf_M_valueA m w = a) : qS m x w (qf_X_manage x w (nI j) a (qf_Pa_m w)) := by
  by_cases h25 : 25 ≤ j
  · have N : ∀ c : Nat, c < 25 → ¬ nI j = nI c := fun c hc q => absurd ((nI_eq (by omega) (by omega)).mp q) (by omega)
    have hX : qf_X_manage x w (nI j) a (qf_Pa_m w) = (x, 5) := by
      unfold qf_X_manage
      rw [if_neg (show ¬ nI j = 18 from N 18 (by omega)), if_neg (show ¬ nI j = 19 from N 19 (by omega)), if_neg (show ¬ nI j = 20 from N 20 (by omega)), if_neg (show ¬ nI j = 21 from N 21 (by omega)), if_neg (show ¬ nI j = 22 from N 22 (by omega)), if_neg (show ¬ nI j = 23 from N 23 (by omega)), if_neg (show ¬ nI j = 24 from N 24 (by omega))]
    rw [hX]
    refine qp_cause ?_ (qi_lit (by decide)) (by decide)
    unfold qf_M_causeOf
    rw [hk]
    rw [if_neg (show ¬ nI j = 1 from N 1 (by omega)), if_neg (show ¬ nI j = 3 from N 3 (by omega)), if_neg (show ¬ nI j = 11 from N 11 (by omega)), if_neg (show ¬ nI j = 12 from N 12 (by omega)), if_neg (show ¬ nI j = 24 from N 24 (by omega))]
    rw [if_neg (show ¬ nI j ≤ 24 from fun q => absurd ((nI_leI (a := j) (b := 24) (by omega) (by decide)).mp q) (by omega))]
  have hS := qp_S h.1 w
  rcases (show j = 18 ∨ j = 19 ∨ j = 20 ∨ j = 21 ∨ j = 22 ∨ j = 23 ∨ j = 24 by omega) with rfl | rfl | rfl | rfl | rfl | rfl | rfl
  · have hk : qf_Pa_kind w = 18 := hk
    show qS m x w (qf_X_manage x w 18 a (qf_Pa_m w))
    obtain ⟨d1, d2⟩ := qp_ix 18 (C := 18) rfl (qi_and3 (qf_ush w 18)) (by decide)
    have hX : qf_X_manage x w 18 a (qf_Pa_m w) = ((qm_X_g x (upd x.1 (Int32.toNatClampNeg (18 + ((qf_ush w 18) &&& 3))) (a &&& 3))), 0) := rfl
    rw [hX, d1]
    exact qp_ufin (x := x) (m := m) (w := w) (x2 := qm_X_g x (upd x.1 (18 + Int32.toNatClampNeg ((qf_ush w 18) &&& 3)) (a &&& 3))) (m2 := qm_M_sp m (upd m.2.1 (Int32.toNatClampNeg (qf_Pa_spaceRegister w)) (a &&& 3))) (qp_sp h d2 (qi_and3 a)) rfl hnu hsy htg (by simp [qf_M_causeOf, hk]) (by simp [qf_M_perform, qf_M_control, hk, ha])
  · have hk : qf_Pa_kind w = 19 := hk
    show qS m x w (qf_X_manage x w 19 a (qf_Pa_m w))
    have hX : qf_X_manage x w 19 a (qf_Pa_m w) = ((qf_X_write x ((qf_ush w 24) &&& 7) (x.1 (Int32.toNatClampNeg (18 + ((qf_ush w 18) &&& 3))))), 0) := by simp [qf_X_manage]
    rw [hX, ← hS]
    obtain ⟨r1, r2⟩ := qp_write h w (qf_M_valueS m w)
    exact qp_ufin (x := x) (m := m) (w := w) r1 r2 hnu hsy htg (by simp [qf_M_causeOf, hk]) (by simp [qf_M_perform, qf_M_control, hk, ha])
  · have hk : qf_Pa_kind w = 20 := hk
    show qS m x w (qf_X_manage x w 20 a (qf_Pa_m w))
    have hX : qf_X_manage x w 20 a (qf_Pa_m w) = ((qm_X_g (qf_X_write x ((qf_ush w 24) &&& 7) (x.1 3)) (upd (qf_X_write x ((qf_ush w 24) &&& 7) (x.1 3)).1 3 ((qf_ush w 14) &&& 1))), 0) := by simp [qf_X_manage]
    have hL : m.2.2.2.1.2.2.2 = x.1 3 := by rw [h.1.2.2.2.1]
    rw [hX, ← hL]
    obtain ⟨r1, r2⟩ := qp_write h w m.2.2.2.1.2.2.2
    exact qp_ufin (x := x) (m := m) (w := w) (x2 := qm_X_g (qf_X_write x ((qf_ush w 24) &&& 7) m.2.2.2.1.2.2.2) (upd (qf_X_write x ((qf_ush w 24) &&& 7) m.2.2.2.1.2.2.2).1 3 ((qf_ush w 14) &&& 1))) (m2 := qm_M_fl (qf_M_setT m w m.2.2.2.1.2.2.2) (qm_F_l (qf_M_setT m w m.2.2.2.1.2.2.2).2.2.2.1 (qf_Pa_n w))) (qp_lets r1 (qp_qb1 _)) r2 hnu hsy htg (by simp [qf_M_causeOf, hk]) (by simp [qf_M_perform, qf_M_control, hk, ha])
  · have hk : qf_Pa_kind w = 21 := hk
    show qS m x w (qf_X_manage x w 21 a (qf_Pa_m w))
    have hX : qf_X_manage x w 21 a (qf_Pa_m w) = (qf_X_comeBack x, 0) := by simp [qf_X_manage]
    rw [hX]
    exact qp_comeBack h (by simp [qf_M_causeOf, hk]) (by simp [qf_M_perform, qf_M_control, hk, ha])
  · have hk : qf_Pa_kind w = 22 := hk
    show qS m x w (qf_X_manage x w 22 a (qf_Pa_m w))
    have hX : qf_X_manage x w 22 a (qf_Pa_m w) = ((qf_X_write x ((qf_ush w 24) &&& 7) (qf_X_saved x (qf_Pa_m w))), 0) := by simp [qf_X_manage]
    rw [hX, qp_saved h.1]
    obtain ⟨r1, r2⟩ := qp_write h w (qf_M_savedThing m (qf_Pa_m w))
    exact qp_ufin (x := x) (m := m) (w := w) r1 r2 hnu hsy htg (by simp [qf_M_causeOf, hk]) (by simp [qf_M_perform, qf_M_control, hk, ha])
  · have hk : qf_Pa_kind w = 23 := hk
    show qS m x w (qf_X_manage x w 23 a (qf_Pa_m w))
    have hX : qf_X_manage x w 23 a (qf_Pa_m w) = (qf_X_save x (qf_Pa_m w) a, 0) := by simp [qf_X_manage]
    rw [hX]
    obtain ⟨r1, r2⟩ := qp_save h (qf_Pa_m w) a
    exact qp_ufin (x := x) (m := m) (w := w) r1 r2 hnu hsy htg (by simp [qf_M_causeOf, hk]) (by simp [qf_M_perform, qf_M_control, hk, ha])
  · have hk : qf_Pa_kind w = 24 := hk
    show qS m x w (qf_X_manage x w 24 a (qf_Pa_m w))
    have hX : qf_X_manage x w 24 a (qf_Pa_m w) = (x, 4) := by simp [qf_X_manage]
    rw [hX]
    exact qp_cause (by simp [qf_M_causeOf, hk]) (qi_lit (by decide)) (by decide)
theorem qp_part {m : qs_M} {x : qs_X} (h : qR m x.1) (hnu : x.2.2.2.2.2.1 = 0) (hsy : x.2.2.2.2.2.2.2 = 0) (htg : x.2.2.2.2.2.2.1 = -1) (w : Int32) {a b s : Int32} (ha : qf_M_valueA m w = a) (hb : qf_M_valueB m w = b) (hs : qf_M_valueS m w = s) : qS m x w (qd_part x w (qf_ush w 27) a b (qf_Pa_m w) s) := by
  obtain ⟨j, hj, hk⟩ := vp_in_of (qp_kind w) (by decide)
  have hk2 : qf_Pa_kind w = nI j := hk
  rw [hk]
  have L : ∀ c : Nat, c < 32 → (nI c ≤ nI j ↔ c ≤ j) := fun c hc => nI_leI (by omega) (by omega)
  unfold qd_part
  by_cases h1 : 11 ≤ j
  · rw [if_pos (show 11 ≤ nI j from (L 11 (by omega)).mpr h1)]
    by_cases h2 : 13 ≤ j
    · rw [if_pos (show 13 ≤ nI j from (L 13 (by omega)).mpr h2)]
      by_cases h3 : 18 ≤ j
      · rw [if_pos (show 18 ≤ nI j from (L 18 (by omega)).mpr h3)]
        exact qp_manage h hnu hsy htg hk2 h3 hj ha
      · rw [if_neg (show ¬ 18 ≤ nI j from fun q => h3 ((L 18 (by omega)).mp q))]
        exact qp_branch h hsy hk2 h2 (by omega) ha hb
    · rw [if_neg (show ¬ 13 ≤ nI j from fun q => h2 ((L 13 (by omega)).mp q))]
      exact qp_touch h hnu hsy htg hk2 h1 (by omega) ha hs
  · rw [if_neg (show ¬ 11 ≤ nI j from fun q => h1 ((L 11 (by omega)).mp q))]
    exact qp_reckon h hsy htg hk2 (by omega) ha hb
/-- a trap -/
theorem qp_trap {m : qs_M} {x : qs_X} (h : qR m x.1) {c : Int32} (hc : vp_in c 7) : qR (qf_M_enterTrap m c) (qf_X_trap x c).1 := by
  have h' := h
  obtain ⟨⟨e1, e2, e3, e4, e5, e6, e7⟩, i0, i1, i5, i6, i2, i3, i4, i7, i8, is, ir⟩ := h
  obtain ⟨t1, t2⟩ := qp_trapN hc
  unfold qf_M_enterTrap qf_X_trap
  refine qp_fl (g := x.1) (g2 := upd (upd (upd (upd (upd (upd (upd (upd (upd x.1 5 (x.1 0)) 6 (x.1 1)) 7 (x.1 2)) 8 (x.1 3)) 9 c) 2 (0 : Int32)) 3 (0 : Int32)) 0 (4 * c)) 1 ((4 * c) + 1)) h' (fun j hj => ?_) ?_ ?_ ?_ ?_ i4 i0 i1 i2 i3 ?_ ?_ rfl e7
  · show upd _ _ _ j = _
    iterate 9 rw [qp_upd_ne _ _ (by omega)]
  · show vp_in (4 * c) 128
    rw [t1]; exact qi_Pl _ _
  · show vp_in (4 * c + 1) 128
    rw [t2]; exact qi_Pl _ _
  · exact qb_0
  · exact qb_0
  · show qf_F_startAt _ _ _ = (4 * c, 4 * c + 1, 0, 0)
    show (qf_Pl_of 0 (4 * c), qf_Pl_behind (qf_Pl_of 0 (4 * c)), 0, 0) = _
    rw [← t2, ← t1]
  · unfold qf_F_become
    rw [e4]; rfl
