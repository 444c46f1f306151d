theorem qp_ext {m : qs_M} {g g2 : Nat → Int32} (h : qR m g) (hg : ∀ j : Nat, j < 86 → g2 j = g j) : qR m g2 := by
  obtain ⟨⟨e1, e2, e3, e4, e5, e6, e7⟩, i0, i1, i5, i6, i2, i3, i4, i7, i8, is, ir⟩ := h
  refine ⟨⟨fun r hr => ?_, fun r hr => ?_, fun r hr => ?_, ?_, ?_, ?_, ?_⟩, ?_, ?_, ?_, ?_, ?_, ?_, ?_, ?_, ?_, fun k hk => ?_, ?_⟩
  · rw [hg _ (by omega)]; exact e1 r hr
  · rw [hg _ (by omega)]; exact e2 r hr
  · rw [hg _ (by omega)]; exact e3 r hr
  · rw [hg 0 (by omega), hg 1 (by omega), hg 2 (by omega), hg 3 (by omega)]; exact e4
  · rw [hg 5 (by omega), hg 6 (by omega), hg 7 (by omega), hg 8 (by omega)]; exact e5
  · rw [hg _ (by omega)]; exact e6
  · rw [hg _ (by omega)]; exact e7
  · rw [hg _ (by omega)]; exact i0
  · rw [hg _ (by omega)]; exact i1
  · rw [hg _ (by omega)]; exact i5
  · rw [hg _ (by omega)]; exact i6
  · rw [hg _ (by omega)]; exact i2
  · rw [hg _ (by omega)]; exact i3
  · rw [hg _ (by omega)]; exact i4
  · rw [hg _ (by omega)]; exact i7
  · rw [hg _ (by omega)]; exact i8
  · rw [hg _ (by omega)]; exact is k hk
  · rw [hg _ (by omega)]; exact ir
theorem qp_become {m k : qs_M} {g : Nat → Int32} (h : qR m g) : qR (qf_M_become k m) g := by
  obtain ⟨⟨e1, e2, e3, e4, e5, e6, e7⟩, hi⟩ := h
  refine ⟨⟨fun r hr => ?_, fun r hr => ?_, fun r hr => ?_, ?_, ?_, e6, e7⟩, hi⟩
  · show va_cpy m.1 k.1 0 0 8 r = _
    unfold va_cpy
    rw [if_pos ⟨Nat.zero_le _, by omega⟩]
    simp only [Nat.zero_add, Nat.sub_zero]
    exact e1 r hr
  · show va_cpy m.2.1 k.2.1 0 0 4 r = _
    unfold va_cpy
    rw [if_pos ⟨Nat.zero_le _, by omega⟩]
    simp only [Nat.zero_add, Nat.sub_zero]
    exact e2 r hr
  · show va_cpy m.2.2.1 k.2.2.1 0 0 64 r = _
    unfold va_cpy
    rw [if_pos ⟨Nat.zero_le _, by omega⟩]
    simp only [Nat.zero_add, Nat.sub_zero]
    exact e3 r hr
  · show qf_F_become k.2.2.2.1 m.2.2.2.1 = _
    unfold qf_F_become
    rw [e4]
  · show qf_F_become k.2.2.2.2.1 m.2.2.2.2.1 = _
    unfold qf_F_become
    rw [e5]
theorem qp_pd {m : qs_M} {g : Nat → Int32} (h : qR m g) {n : Int32} (hn : qb n) : qR (qm_M_pd m n) (upd g 4 n) := by
  have h' := h
  obtain ⟨⟨e1, e2, e3, e4, e5, e6, e7⟩, i0, i1, i5, i6, i2, i3, i4, i7, i8, is, ir⟩ := h
  exact qp_fl (g := g) (g2 := upd g 4 n) h' (fun j hj => qp_upd_ne _ _ (by omega)) i0 i1 i2 i3 hn i5 i6 i7 i8 e4 e5 e6 rfl
theorem qp_start {m : qs_M} {g : Nat → Int32} (h : qR m g) (x y : Int32) {n : Int32} (hn : qb n) : qR (qm_M_fl m (qf_F_startAt m.2.2.2.1 (qf_Pl_of x y) n)) (upd (upd (upd (upd g 0 (qf_X_place x y)) 1 (qf_X_behind (qf_X_place x y))) 2 (0 : Int32)) 3 n) := by
  have h' := h
  obtain ⟨⟨e1, e2, e3, e4, e5, e6, e7⟩, i0, i1, i5, i6, i2, i3, i4, i7, i8, is, ir⟩ := h
  rw [qp_beh (qi_Xp _ _), qp_place]
  refine qp_fl (g := g) (g2 := upd (upd (upd (upd g 0 (qf_Pl_of x y)) 1 (qf_Pl_behind (qf_Pl_of x y))) 2 (0 : Int32)) 3 n) h' (fun j hj => ?_) ?_ ?_ qb_0 hn i4 i5 i6 i7 i8 rfl e5 e6 e7
  · rw [qp_upd_ne _ _ (by omega), qp_upd_ne _ _ (by omega), qp_upd_ne _ _ (by omega), qp_upd_ne _ _ (by omega)]
  · show vp_in (qf_Pl_of x y) 128
    exact qi_Pl _ _
  · show vp_in (qf_Pl_behind (qf_Pl_of x y)) 128
    exact qi_Pl _ _
/-- on without an instruction -/
theorem qp_skip {m : qs_M} {x : qs_X} {g : Nat → Int32} (h : qR m g) (hx : x.1 = upd g 2 0) : qR (qm_M_fl m (qf_F_moveOn m.2.2.2.1 0)) (qf_X_moveOn x (-1)).1 := by
  have h' := h
  obtain ⟨⟨e1, e2, e3, e4, e5, e6, e7⟩, i0, i1, i5, i6, i2, i3, i4, i7, i8, is, ir⟩ := h
  unfold qf_X_moveOn
  rw [if_neg qp_not0]
  show qR _ (upd (upd x.1 0 (x.1 1)) 1 (qf_X_behind (x.1 1)))
  rw [hx]
  have e : upd g 2 0 1 = g 1 := rfl
  rw [e, qp_beh i1]
  refine qp_fl (g := g) (g2 := upd (upd (upd g 2 0) 0 (g 1)) 1 (qf_Pl_behind (g 1))) h' (fun j hj => ?_) i1 ?_ qb_0 i3 i4 i5 i6 i7 i8 ?_ e5 e6 e7
  · rw [qp_upd_ne _ _ (by omega), qp_upd_ne _ _ (by omega), qp_upd_ne _ _ (by omega)]
  · show vp_in (qf_Pl_behind (g 1)) 128
    exact qi_Pl _ _
  · unfold qf_F_moveOn qf_F_moveOnTo
    rw [if_pos rfl, e4]
    rfl
def qT (c : Nat → Int32) : Int32 := ((((c 1 + c 2) + c 3) + c 4) + c 5)
theorem qp_T0 (c : Nat → Int32) (v : Int32) : qT (upd c 0 v) = qT c := rfl
theorem qp_T6 (c : Nat → Int32) (v : Int32) : qT (upd c 6 v) = qT c := rfl
theorem qp_Tc (c : Nat → Int32) {j : Nat} (h1 : 1 ≤ j) (h5 : j ≤ 5) : qT (upd c j (c j + 1)) = qT c + 1 := by
  rcases (show j = 1 ∨ j = 2 ∨ j = 3 ∨ j = 4 ∨ j = 5 by omega) with rfl | rfl | rfl | rfl | rfl
  · show ((((c 1 + 1) + c 2) + c 3) + c 4) + c 5 = ((((c 1 + c 2) + c 3) + c 4) + c 5) + 1
    ac_rfl
  · show (((c 1 + (c 2 + 1)) + c 3) + c 4) + c 5 = ((((c 1 + c 2) + c 3) + c 4) + c 5) + 1
    ac_rfl
  · show (((c 1 + c 2) + (c 3 + 1)) + c 4) + c 5 = ((((c 1 + c 2) + c 3) + c 4) + c 5) + 1
    ac_rfl
  · show (((c 1 + c 2) + c 3) + (c 4 + 1)) + c 5 = ((((c 1 + c 2) + c 3) + c 4) + c 5) + 1
    ac_rfl
  · show (((c 1 + c 2) + c 3) + c 4) + (c 5 + 1) = ((((c 1 + c 2) + c 3) + c 4) + c 5) + 1
    ac_rfl
theorem qp_finR {p : qs_X × Int32} (h : p.2 = 0) : (qd_fin p).2.1 = p.1.2.1 ∧ (qd_fin p).2.2.1 = p.1.2.2.1 ∧ (qd_fin p).2.2.2.1 = p.1.2.2.2.1 ∧ (qd_fin p).2.2.2.2.1 = p.1.2.2.2.2.1 := by
  have hM : ∀ (st : qs_X) (t : Int32), (qf_X_moveOn st t).2 = st.2 := by
    intro st t
    unfold qf_X_moveOn
    by_cases ht : 0 ≤ t
    · rw [if_pos ht]
    · rw [if_neg ht]
  unfold qd_fin
  rw [h, if_pos (show (0 : Int32) ≤ 0 by decide)]
  by_cases h1 : p.1.2.2.2.2.2.2.2 = 0
  · rw [if_pos h1]
    by_cases h2 : (qf_X_moveOn p.1 p.1.2.2.2.2.2.2.1).2.2.2.2.2.1 = 0
    · rw [if_pos h2]
      have := hM p.1 p.1.2.2.2.2.2.2.1
      refine ⟨?_, ?_, ?_, ?_⟩
      · exact congrArg (fun q => q.1) this
      · exact congrArg (fun q => q.2.1) this
      · exact congrArg (fun q => q.2.2.1) this
      · exact congrArg (fun q => q.2.2.2.1) this
    · rw [if_neg h2]
      have := hM p.1 p.1.2.2.2.2.2.2.1
      refine ⟨?_, ?_, ?_, ?_⟩
      · exact congrArg (fun q => q.1) this
      · exact congrArg (fun q => q.2.1) this
      · exact congrArg (fun q => q.2.2.1) this
      · exact congrArg (fun q => q.2.2.2.1) this
  · rw [if_neg h1]
    exact ⟨rfl, rfl, rfl, rfl⟩
/-- what a step owes -/
def qU (q : qs_Q) (x : qs_X) (r : qs_Q × Int32) (y : qs_X) : Prop := qL r.1 y ∧ qT y.2.2.2.2.1 = qT x.2.2.2.2.1 + (if r.2 = 0 then 0 else 1)
def qd_Q2 (st : qs_Q) : qs_Q × Int32 :=
  if st.2.2.1.2.2.2.1.2.2.1 = 1 then ((qm_Q_m (qm_Q_cn st (upd (upd st.2.1 0 ((st.2.1 0) + 1)) 6 ((st.2.1 6) + 1))) (qm_M_fl st.2.2.1 (qf_F_moveOn st.2.2.1.2.2.2.1 (0 : Int32)))), 0)
  else if qf_M_causeOf st.2.2.1 (st.1 (Int32.toNatClampNeg st.2.2.1.2.2.2.1.1)) = 0 then ((qm_Q_m (qm_Q_cn st (upd st.2.1 0 ((st.2.1 0) + 1))) (qf_M_perform st.2.2.1 (st.1 (Int32.toNatClampNeg st.2.2.1.2.2.2.1.1)))), 0)
  else qf_Q_trap (qm_Q_cn st (upd st.2.1 0 ((st.2.1 0) + 1))) (qf_M_causeOf st.2.2.1 (st.1 (Int32.toNatClampNeg st.2.2.1.2.2.2.1.1)))
theorem qp_stepQ (st : qs_Q) : qf_Q_step st = if st.2.2.1.2.2.2.2.2.2 = 1 then (if st.2.2.1.2.2.2.1.2.2.2 = 1 then qf_Q_trap (qm_Q_m (qm_Q_cn st (upd st.2.1 0 ((st.2.1 0) + 1))) (qm_M_pd st.2.2.1 0)) (1 : Int32) else qd_Q2 st) else qd_Q2 st := rfl
def qd_X2 (st : qs_X) : qs_X :=
  if (st.1 2) = 1 then (qf_X_moveOn (qm_X_cn (qm_X_g st (upd st.1 2 (0 : Int32))) (upd (upd st.2.2.2.2.1 0 ((st.2.2.2.2.1 0) + 1)) 6 ((st.2.2.2.2.1 6) + 1))) (-1 : Int32))
  else (qf_X_instruct (qm_X_cn st (upd st.2.2.2.2.1 0 ((st.2.2.2.2.1 0) + 1))))
theorem qp_stepX (st : qs_X) : qf_X_step st = if (st.1 4) = 1 then (if (st.1 3) = 1 then (qf_X_trap (qm_X_cn (qm_X_g st (upd st.1 4 (0 : Int32))) (upd st.2.2.2.2.1 0 ((st.2.2.2.2.1 0) + 1))) (1 : Int32)) else qd_X2 st) else qd_X2 st := rfl
theorem qp_add0 (x : Int32) : x = x + 0 := (Int32.add_zero x).symm
theorem qp_step2 {q : qs_Q} {x : qs_X} (h : qL q x) : qU q x (qd_Q2 q) (qd_X2 x) := by
  obtain ⟨l1, l2, l3, l4, l5⟩ := h
  have e4 := l3.1.2.2.2.1
  unfold qd_Q2 qd_X2
  have hn : q.2.2.1.2.2.2.1.2.2.1 = x.1 2 := by rw [e4]
  have hf : q.2.2.1.2.2.2.1.1 = x.1 0 := by rw [e4]
  rw [hn, hf, l1, l2]
  by_cases h2 : x.1 2 = 1
  · rw [if_pos h2, if_pos h2]
    have hM : (qf_X_moveOn (qm_X_cn (qm_X_g x (upd x.1 2 (0 : Int32))) (upd (upd x.2.2.2.2.1 0 ((x.2.2.2.2.1 0) + 1)) 6 ((x.2.2.2.2.1 6) + 1))) (-1 : Int32)).2 = (qm_X_cn x (upd (upd x.2.2.2.2.1 0 ((x.2.2.2.2.1 0) + 1)) 6 ((x.2.2.2.2.1 6) + 1))).2 := by
      unfold qf_X_moveOn
      rw [if_neg qp_not0]
    refine ⟨⟨?_, ?_, ?_, ?_, ?_⟩, ?_⟩
    · rw [hM]; exact l1
    · rw [hM]
    · exact qp_skip l3 rfl
    · rw [hM]; exact l4
    · rw [hM]; exact l5
    · rw [hM]
      show qT (upd (upd x.2.2.2.2.1 0 _) 6 _) = _
      rw [qp_T6, qp_T0, if_pos rfl]
      exact qp_add0 _
  · rw [if_neg h2, if_neg h2]
    have hS := qp_part (m := q.2.2.1) (x := qm_X_sy (qm_X_tg (qm_X_nu (qm_X_cn x (upd x.2.2.2.2.1 0 ((x.2.2.2.2.1 0) + 1))) 0) (-1)) 0) l3 rfl rfl rfl (x.2.2.2.1 (Int32.toNatClampNeg (x.1 0))) (qp_A l3.1 _) (qp_B l3.1 _) (qp_S l3.1 _)
    have hI := qp_instr (qm_X_cn x (upd x.2.2.2.2.1 0 ((x.2.2.2.2.1 0) + 1)))
    have hI2 : qf_X_instruct (qm_X_cn x (upd x.2.2.2.2.1 0 ((x.2.2.2.2.1 0) + 1))) = qd_fin (qd_part (qm_X_sy (qm_X_tg (qm_X_nu (qm_X_cn x (upd x.2.2.2.2.1 0 ((x.2.2.2.2.1 0) + 1))) 0) (-1)) 0) (x.2.2.2.1 (Int32.toNatClampNeg (x.1 0))) (qf_ush (x.2.2.2.1 (Int32.toNatClampNeg (x.1 0))) 27) (x.1 (Int32.toNatClampNeg (10 + ((qf_ush (x.2.2.2.1 (Int32.toNatClampNeg (x.1 0))) 21) &&& 7)))) (x.1 (Int32.toNatClampNeg (10 + ((qf_ush (x.2.2.2.1 (Int32.toNatClampNeg (x.1 0))) 18) &&& 7)))) (qf_Pa_m (x.2.2.2.1 (Int32.toNatClampNeg (x.1 0)))) (x.1 (Int32.toNatClampNeg (18 + ((qf_ush (x.2.2.2.1 (Int32.toNatClampNeg (x.1 0))) 18) &&& 3))))) := hI
    rw [hI2]
    clear hI hI2
    generalize (x.2.2.2.1 (Int32.toNatClampNeg (x.1 0))) = w at hS ⊢
    generalize qd_part _ _ _ _ _ _ _ = p at hS ⊢
    obtain ⟨s1, s2, ⟨s3, s4, s5, s6⟩, s7, s8⟩ := hS
    rw [s1]
    by_cases hc : p.2 = 0
    · rw [if_pos hc]
      obtain ⟨f1, f2, f3, f4⟩ := qp_finR hc
      refine ⟨⟨?_, ?_, s8 hc, ?_, ?_⟩, ?_⟩
      · rw [f3, s5]; exact l1
      · rw [f4, s6]
      · rw [f2, s4]; exact l4
      · rw [f2, s4, f1, s3]; exact l5
      · rw [f4, s6]
        show qT (upd x.2.2.2.2.1 0 _) = _
        rw [qp_T0, if_pos rfl]
        exact qp_add0 _
    · rw [if_neg hc]
      have hle : ¬ p.2 ≤ 0 := by
        intro z
        rw [vp_in_iff] at s2
        rw [Int32.le_iff_toInt_le] at z
        refine hc (Int32.toInt_inj.mp ?_)
        have : (0 : Int32).toInt = 0 := rfl
        omega
      have hF : qd_fin p = qf_X_trap p.1 p.2 := by
        unfold qd_fin
        rw [if_neg hle]
      rw [hF]
      have hR := qp_trap (m := q.2.2.1) (x := p.1) (by rw [s7 hc]; exact l3) (qi_wide s2 (by decide))
      obtain ⟨j, hj, ej⟩ := vp_in_of s2 (by decide)
      have hj0 : 1 ≤ j := by
        rcases Nat.eq_zero_or_pos j with z | z
        · exact absurd (by rw [ej, z]; rfl) hc
        · exact z
      have ecl : p.2.toNatClampNeg = j := by rw [ej, nI_clamp (by omega)]
      refine ⟨⟨?_, ?_, hR, ?_, ?_⟩, ?_⟩
      · show q.1 = p.1.2.2.2.1
        rw [s5]; exact l1
      · show upd (upd x.2.2.2.2.1 0 (x.2.2.2.2.1 0 + 1)) (Int32.toNatClampNeg p.2) ((upd x.2.2.2.2.1 0 (x.2.2.2.2.1 0 + 1)) (Int32.toNatClampNeg p.2) + 1) = upd p.1.2.2.2.2.1 (Int32.toNatClampNeg p.2) (p.1.2.2.2.2.1 (Int32.toNatClampNeg p.2) + 1)
        rw [s6]
      · show q.2.2.2.2 = p.1.2.2.1
        rw [s4]; exact l4
      · show p.1.2.2.1 = 0 ∨ (p.1.2.2.1 = 1 ∧ qR q.2.2.2.1 p.1.2.1)
        rw [s4, s3]; exact l5
      · show qT (upd p.1.2.2.2.2.1 (Int32.toNatClampNeg p.2) (p.1.2.2.2.2.1 (Int32.toNatClampNeg p.2) + 1)) = qT x.2.2.2.2.1 + (if p.2 = 0 then 0 else 1)
        rw [if_neg hc, ecl, qp_Tc _ hj0 (by omega), s6]
        show qT (upd x.2.2.2.2.1 0 _) + 1 = _
        rw [qp_T0]
theorem qp_step {q : qs_Q} {x : qs_X} (h : qL q x) : qU q x (qf_Q_step q) (qf_X_step x) := by
  have h2 := qp_step2 h
  obtain ⟨l1, l2, l3, l4, l5⟩ := h
  rw [qp_stepQ, qp_stepX]
  have hl : q.2.2.1.2.2.2.1.2.2.2 = x.1 3 := by rw [l3.1.2.2.2.1]
  have hp : q.2.2.1.2.2.2.2.2.2 = x.1 4 := l3.1.2.2.2.2.2.2
  rw [hl, hp]
  by_cases h4 : x.1 4 = 1
  · rw [if_pos h4, if_pos h4]
    by_cases h3 : x.1 3 = 1
    · rw [if_pos h3, if_pos h3]
      refine ⟨⟨l1, ?_, ?_, l4, l5⟩, ?_⟩
      · show upd (upd q.2.1 0 (q.2.1 0 + 1)) 1 ((upd q.2.1 0 (q.2.1 0 + 1)) 1 + 1) = upd (upd x.2.2.2.2.1 0 (x.2.2.2.2.1 0 + 1)) 1 ((upd x.2.2.2.2.1 0 (x.2.2.2.2.1 0 + 1)) 1 + 1)
        rw [l2]
      · exact qp_trap (x := qm_X_cn (qm_X_g x (upd x.1 4 (0 : Int32))) (upd x.2.2.2.2.1 0 ((x.2.2.2.2.1 0) + 1))) (qp_pd l3 qb_0) (qi_lit (by decide))
      · show qT (upd (upd x.2.2.2.2.1 0 (x.2.2.2.2.1 0 + 1)) 1 ((upd x.2.2.2.2.1 0 (x.2.2.2.2.1 0 + 1)) 1 + 1)) = qT x.2.2.2.2.1 + (if (1 : Int32) = 0 then 0 else 1)
        rw [qp_Tc _ (by decide) (by decide), qp_T0, if_neg (by decide)]
    · rw [if_neg h3, if_neg h3]; exact h2
  · rw [if_neg h4, if_neg h4]; exact h2
/-! run -/
def qf_Q_it : Nat → qs_Q → qs_Q × Int32
  | 0, st => (st, 0)
  | k + 1, st => ((qf_Q_step (qf_Q_it k st).1).1, if (qf_Q_step (qf_Q_it k st).1).2 = 0 then (qf_Q_it k st).2 else (qf_Q_it k st).2 + 1)
def qf_X_it : Nat → qs_X → qs_X
  | 0, st => st
  | k + 1, st => qf_X_step (qf_X_it k st)
def qf_Q_run (st : qs_Q) (n : Int32) : qs_Q × Int32 :=
  if n < 0 then (st, -1)
  else if n ≤ 200 then qf_Q_it n.toNatClampNeg st
  else (st, -1)
def qf_X_run (st : qs_X) (n : Int32) : qs_X × Int32 :=
  if n < 0 then (st, -1)
  else if n ≤ 200 then (qf_X_it n.toNatClampNeg st, qf_X_traps (qf_X_it n.toNatClampNeg st) - qf_X_traps st)
  else (st, -1)
def qf_X_mark (st : qs_X) : qs_X := qm_X_mk (qm_X_h st (fun k => if k < 86 then st.1 k else st.2.1 k)) 1
def qf_X_back (st : qs_X) : qs_X × Int32 :=
  if st.2.2.1 = 0 then (st, st.2.2.1)
  else (qm_X_g st (fun k => if k < 86 then st.2.1 k else st.1 k), st.2.2.1)
theorem qf_Q_it_s {i : Nat} {st z : qs_Q} {t : Int32} {r : qs_Q × Int32} (h : qf_Q_it i st = (z, t)) (hr : qf_Q_step z = r) : qf_Q_it (i + 1) st = (r.1, if r.2 = 0 then t else t + 1) := by
  show ((qf_Q_step (qf_Q_it i st).1).1, if (qf_Q_step (qf_Q_it i st).1).2 = 0 then (qf_Q_it i st).2 else (qf_Q_it i st).2 + 1) = _
  rw [h, hr]
theorem qf_X_it_s {i : Nat} {st z : qs_X} (h : qf_X_it i st = z) : qf_X_it (i + 1) st = qf_X_step z := by
  show qf_X_step (qf_X_it i st) = _
  rw [h]
theorem qf_cp {f g z : Nat → Int32} {i : Nat} (h : z = fun j => if j < i then f j else g j) (hi : i < 2 ^ 31) : upd z (Int32.toNatClampNeg (nI i)) (f (Int32.toNatClampNeg (nI i))) = fun j => if j < i + 1 then f j else g j := by
  rw [nI_clamp hi, h]
  funext j
  by_cases e : j = i
  · subst e
    rw [qp_upd_same, if_pos (Nat.lt_succ_self _)]
  · rw [qp_upd_ne _ _ e]
    by_cases e2 : j < i
    · rw [if_pos e2, if_pos (by omega)]
    · rw [if_neg e2, if_neg (by omega)]
theorem qp_it {q : qs_Q} {x : qs_X} (h : qL q x) : ∀ n : Nat, qL (qf_Q_it n q).1 (qf_X_it n x) ∧ qT (qf_X_it n x).2.2.2.2.1 = qT x.2.2.2.2.1 + (qf_Q_it n q).2
  | 0 => ⟨h, qp_add0 _⟩
  | n + 1 => by
    obtain ⟨a, b⟩ := qp_it h n
    obtain ⟨c, d⟩ := qp_step a
    refine ⟨c, ?_⟩
    show qT (qf_X_step (qf_X_it n x)).2.2.2.2.1 = qT x.2.2.2.2.1 + (if (qf_Q_step (qf_Q_it n q).1).2 = 0 then (qf_Q_it n q).2 else (qf_Q_it n q).2 + 1)
    rw [d, b]
    by_cases hz : (qf_Q_step (qf_Q_it n q).1).2 = 0
    · rw [if_pos hz, if_pos hz, Int32.add_zero]
    · rw [if_neg hz, if_neg hz, Int32.add_assoc]
/-! the calls -/
def qV (r : qs_Q × Int32) (y : qs_X × Int32) : Prop := qL r.1 y.1 ∧ r.2 = y.2
theorem qp_run {q : qs_Q} {x : qs_X} (h : qL q x) (n : Int32) : qV (qf_Q_run q n) (qf_X_run x n) := by
  unfold qf_Q_run qf_X_run
  by_cases h1 : n < 0
  · rw [if_pos h1, if_pos h1]; exact ⟨h, rfl⟩
  rw [if_neg h1, if_neg h1]
  by_cases h2 : n ≤ 200
  case neg => rw [if_neg h2, if_neg h2]; exact ⟨h, rfl⟩
  rw [if_pos h2, if_pos h2]
  obtain ⟨a, b⟩ := qp_it h n.toNatClampNeg
  refine ⟨a, ?_⟩
  show _ = qT (qf_X_it n.toNatClampNeg x).2.2.2.2.1 - qT x.2.2.2.2.1
  rw [b, Int32.add_comm, Int32.add_sub_cancel]
theorem qp_code {q : qs_Q} {x : qs_X} (h : qL q x) (a b v : Int32) : qV (qf_Q_code q a b v) (qf_X_code x a b v) := by
  unfold qf_Q_code qf_X_code qf_Q_isPlace
  by_cases h1 : qf_Q_isSpace a = 0
  · rw [if_pos h1, if_pos rfl, if_pos (show qf_X_isIn a 4 = 0 from h1)]; exact ⟨h, rfl⟩
  rw [if_neg h1, if_neg (show ¬ qf_X_isIn a 4 = 0 from h1)]
  by_cases h2 : qf_X_isIn b 32 = 0
  · rw [if_pos h2, if_pos (show (if b < 0 then (0 : Int32) else if 32 ≤ b then 0 else 1) = 0 from h2)]; exact ⟨h, rfl⟩
  rw [if_neg h2, if_neg (show ¬ (if b < 0 then (0 : Int32) else if 32 ≤ b then 0 else 1) = 0 from h2)]
  obtain ⟨l1, l2, l3, l4, l5⟩ := h
  refine ⟨⟨?_, l2, l3, l4, l5⟩, rfl⟩
  show upd q.1 _ v = upd x.2.2.2.1 _ v
  rw [l1, qp_place]
theorem qp_data {q : qs_Q} {x : qs_X} (h : qL q x) (a b v : Int32) : qV (qf_Q_data q a b v) (qf_X_data x a b v) := by
  unfold qf_Q_data qf_X_data
  by_cases h1 : qf_Q_isSpace a = 0
  · rw [if_pos h1, if_pos (show qf_X_isIn a 4 = 0 from h1)]; exact ⟨h, rfl⟩
  rw [if_neg h1, if_neg (show ¬ qf_X_isIn a 4 = 0 from h1)]
  by_cases h2 : qf_Q_isDataOffset b = 0
  · rw [if_pos h2, if_pos (show qf_X_isIn b 16 = 0 from h2)]; exact ⟨h, rfl⟩
  rw [if_neg h2, if_neg (show ¬ qf_X_isIn b 16 = 0 from h2)]
  obtain ⟨d1, d2⟩ := qp_dix (qi_sp h1) (qi_ite (c := 16) (n := 16) (by decide) h2)
  obtain ⟨l1, l2, l3, l4, l5⟩ := h
  refine ⟨⟨l1, l2, ?_, l4, l5⟩, rfl⟩
  show qR _ (upd x.1 _ v)
  rw [d1]
  exact qp_dt l3 d2 v
theorem qp_set {q : qs_Q} {x : qs_X} (h : qL q x) (a v : Int32) : qV (qf_Q_set q a v) (qf_X_set x a v) := by
  unfold qf_Q_set qf_X_set
  by_cases h1 : qf_Q_isRegister a = 0
  · rw [if_pos h1]
    by_cases h2 : a < 1
    · rw [if_pos h2]; exact ⟨h, rfl⟩
    · rw [if_neg h2, if_neg]
      · exact ⟨h, rfl⟩
      · intro h3
        unfold qf_Q_isRegister at h1
        rw [if_neg (fun z => h2 (Int32.lt_trans z (by decide))), if_neg] at h1
        · exact absurd h1 (by decide)
        · rw [Int32.le_iff_toInt_le] at h3 ⊢
          have : (7 : Int32).toInt = 7 := rfl
          have : (8 : Int32).toInt = 8 := rfl
          omega
  have ha : vp_in a 8 := qi_ite (c := 8) (n := 8) (by decide) h1
  have hb := vp_in_iff.mp ha
  rw [if_neg h1]
  by_cases h2 : a = 0
  · rw [if_pos h2, if_pos (show a < 1 by rw [h2]; decide)]; exact ⟨h, rfl⟩
  have h0 : a.toInt ≠ 0 := fun z => h2 (Int32.toInt_inj.mp z)
  rw [if_neg h2, if_neg, if_pos]
  · obtain ⟨d1, d2⟩ := qp_ix 10 (C := 10) rfl ha (by decide)
    obtain ⟨l1, l2, l3, l4, l5⟩ := h
    refine ⟨⟨l1, l2, ?_, l4, l5⟩, rfl⟩
    show qR _ (upd x.1 _ v)
    rw [d1]
    refine qp_rg l3 d2 (fun z => h2 ?_) v
    rw [qp_nI ha (by decide), z]; rfl
  · rw [Int32.le_iff_toInt_le]
    have : (7 : Int32).toInt = 7 := rfl
    omega
  · rw [Int32.lt_iff_toInt_lt]
    have : (1 : Int32).toInt = 1 := rfl
    omega
theorem qp_setSpace {q : qs_Q} {x : qs_X} (h : qL q x) (a b : Int32) : qV (qf_Q_setSpace q a b) (qf_X_setSpace x a b) := by
  unfold qf_Q_setSpace qf_X_setSpace
  by_cases h1 : qf_Q_isSpaceRegister a = 0
  · rw [if_pos h1, if_pos (show qf_X_isIn a 4 = 0 from h1)]; exact ⟨h, rfl⟩
  rw [if_neg h1, if_neg (show ¬ qf_X_isIn a 4 = 0 from h1)]
  by_cases h2 : qf_Q_isSpace b = 0
  · rw [if_pos h2, if_pos (show qf_X_isIn b 4 = 0 from h2)]; exact ⟨h, rfl⟩
  rw [if_neg h2, if_neg (show ¬ qf_X_isIn b 4 = 0 from h2)]
  obtain ⟨d1, d2⟩ := qp_ix 18 (C := 18) rfl (qi_ite (c := 4) (n := 4) (by decide) h1) (by decide)
  obtain ⟨l1, l2, l3, l4, l5⟩ := h
  refine ⟨⟨l1, l2, ?_, l4, l5⟩, rfl⟩
  show qR _ (upd x.1 _ b)
  rw [d1]
  exact qp_sp l3 d2 (qi_sp h2)
theorem qp_go {q : qs_Q} {x : qs_X} (h : qL q x) (a b c : Int32) : qV (qf_Q_go q a b c) (qf_X_go x a b c) := by
  unfold qf_Q_go qf_X_go qf_Q_isPlace
  by_cases h1 : qf_Q_isSpace a = 0
  · rw [if_pos h1, if_pos rfl, if_pos (show qf_X_isIn a 4 = 0 from h1)]; exact ⟨h, rfl⟩
  rw [if_neg h1, if_neg (show ¬ qf_X_isIn a 4 = 0 from h1)]
  by_cases h2 : qf_X_isIn b 32 = 0
  · rw [if_pos h2, if_pos (show (if b < 0 then (0 : Int32) else if 32 ≤ b then 0 else 1) = 0 from h2)]; exact ⟨h, rfl⟩
  rw [if_neg h2, if_neg (show ¬ (if b < 0 then (0 : Int32) else if 32 ≤ b then 0 else 1) = 0 from h2)]
  obtain ⟨l1, l2, l3, l4, l5⟩ := h
  by_cases h3 : c = 0
  · rw [if_pos h3, if_pos h3]
    exact ⟨⟨l1, l2, qp_start l3 a b qb_0, l4, l5⟩, rfl⟩
  · rw [if_neg h3, if_neg h3]
    exact ⟨⟨l1, l2, qp_start l3 a b qb_1, l4, l5⟩, rfl⟩
theorem qp_interrupt {q : qs_Q} {x : qs_X} (h : qL q x) : qV (qf_Q_interrupt q) (qf_X_interrupt x) := by
  unfold qf_Q_interrupt qf_X_interrupt
  obtain ⟨l1, l2, l3, l4, l5⟩ := h
  have hp : q.2.2.1.2.2.2.2.2.2 = x.1 4 := l3.1.2.2.2.2.2.2
  have i4 := l3.2.2.2.2.2.2.2.1
  rw [hp]
  rcases i4 with i4 | i4
  · rw [if_neg (by rw [i4]; decide), if_pos i4]
    exact ⟨⟨l1, l2, qp_pd l3 qb_1, l4, l5⟩, rfl⟩
  · rw [if_pos i4, if_neg (by rw [i4]; decide)]
    refine ⟨⟨l1, l2, ?_, l4, l5⟩, rfl⟩
    refine qp_ext l3 (fun j _ => ?_)
    show upd x.1 4 1 j = x.1 j
    by_cases hj : j = 4
    · subst hj; rw [qp_upd_same, i4]
    · exact qp_upd_ne _ _ hj
theorem qp_mark {q : qs_Q} {x : qs_X} (h : qL q x) : qL (qf_Q_mark q) (qf_X_mark x) := by
  obtain ⟨l1, l2, l3, l4, l5⟩ := h
  refine ⟨l1, l2, l3, rfl, Or.inr ⟨rfl, ?_⟩⟩
  refine qp_ext (qp_become l3) (fun j hj => ?_)
  exact if_pos hj
theorem qp_back {q : qs_Q} {x : qs_X} (h : qL q x) : qV (qf_Q_back q) (qf_X_back x) := by
  have h' := h
  obtain ⟨l1, l2, l3, l4, l5⟩ := h
  unfold qf_Q_back qf_X_back
  rw [l4]
  rcases l5 with l5 | ⟨l5, l6⟩
  · rw [if_pos l5, if_pos l5]; exact ⟨h', l5.symm⟩
  · rw [if_neg (by rw [l5]; decide), if_neg (by rw [l5]; decide)]
    refine ⟨⟨l1, l2, ?_, l4, Or.inr ⟨l5, l6⟩⟩, l5.symm⟩
    refine qp_ext (qp_become l6) (fun j hj => ?_)
    exact if_pos hj
theorem qp_state {q : qs_Q} {x : qs_X} (h : qL q x) (a : Int32) : qf_Q_state q a = qf_X_state x a := by
  obtain ⟨l1, l2, ⟨⟨e1, e2, e3, e4, e5, e6, e7⟩, l6⟩, l4, l5⟩ := h
  unfold qf_Q_state qf_X_state qf_Pl_spaceOf qf_Pl_offsetOf
  rw [e4, e5, e6, e7]
theorem qp_register {q : qs_Q} {x : qs_X} (h : qL q x) (a : Int32) : qf_Q_register q a = qf_X_register x a := by
  unfold qf_Q_register qf_X_register
  by_cases h1 : qf_Q_isRegister a = 0
  · rw [if_pos h1, if_pos (show qf_X_isIn a 8 = 0 from h1)]
  rw [if_neg h1, if_neg (show ¬ qf_X_isIn a 8 = 0 from h1)]
  obtain ⟨d1, d2⟩ := qp_ix 10 (C := 10) rfl (qi_ite (c := 8) (n := 8) (by decide) h1) (by decide)
  rw [d1]
  exact h.2.2.1.1.1 _ d2
theorem qp_space {q : qs_Q} {x : qs_X} (h : qL q x) (a : Int32) : qf_Q_space q a = qf_X_space x a := by
  unfold qf_Q_space qf_X_space
  by_cases h1 : qf_Q_isSpaceRegister a = 0
  · rw [if_pos h1, if_pos (show qf_X_isIn a 4 = 0 from h1)]
  rw [if_neg h1, if_neg (show ¬ qf_X_isIn a 4 = 0 from h1)]
  obtain ⟨d1, d2⟩ := qp_ix 18 (C := 18) rfl (qi_ite (c := 4) (n := 4) (by decide) h1) (by decide)
  rw [d1]
  exact h.2.2.1.1.2.1 _ d2
theorem qp_word {q : qs_Q} {x : qs_X} (h : qL q x) (a b : Int32) : qf_Q_word q a b = qf_X_word x a b := by
  unfold qf_Q_word qf_X_word qf_Q_isPlace
  by_cases h1 : qf_Q_isSpace a = 0
  · rw [if_pos h1, if_pos rfl, if_pos (show qf_X_isIn a 4 = 0 from h1)]
  rw [if_neg h1, if_neg (show ¬ qf_X_isIn a 4 = 0 from h1)]
  by_cases h2 : qf_X_isIn b 32 = 0
  · rw [if_pos h2, if_pos (show (if b < 0 then (0 : Int32) else if 32 ≤ b then 0 else 1) = 0 from h2)]
  rw [if_neg h2, if_neg (show ¬ (if b < 0 then (0 : Int32) else if 32 ≤ b then 0 else 1) = 0 from h2)]
  rw [h.1, qp_place]
theorem qp_peek {q : qs_Q} {x : qs_X} (h : qL q x) (a b : Int32) : qf_Q_peek q a b = qf_X_peek x a b := by
  unfold qf_Q_peek qf_X_peek
  by_cases h1 : qf_Q_isSpace a = 0
  · rw [if_pos h1, if_pos (show qf_X_isIn a 4 = 0 from h1)]
  rw [if_neg h1, if_neg (show ¬ qf_X_isIn a 4 = 0 from h1)]
  by_cases h2 : qf_Q_isDataOffset b = 0
  · rw [if_pos h2, if_pos (show qf_X_isIn b 16 = 0 from h2)]
  rw [if_neg h2, if_neg (show ¬ qf_X_isIn b 16 = 0 from h2)]
  obtain ⟨d1, d2⟩ := qp_dix (qi_sp h1) (qi_ite (c := 16) (n := 16) (by decide) h2)
  rw [d1]
  exact h.2.2.1.1.2.2.1 _ d2
theorem qp_count {q : qs_Q} {x : qs_X} (h : qL q x) (a : Int32) : qf_Q_count q a = qf_X_count x a := by
  unfold qf_Q_count qf_X_count qf_X_isIn
  by_cases h1 : a < 0
  · rw [if_pos h1, if_pos h1, if_pos rfl]
  rw [if_neg h1, if_neg h1]
  have e : (6 < a) ↔ (7 ≤ a) := by
    rw [Int32.le_iff_toInt_le, Int32.lt_iff_toInt_lt]
    have : (6 : Int32).toInt = 6 := rfl
    have : (7 : Int32).toInt = 7 := rfl
    omega
  by_cases h2 : 6 < a
  · rw [if_pos h2, if_pos (e.mp h2), if_pos rfl]
  · rw [if_neg h2, if_neg (fun z => h2 (e.mpr z)), if_neg (by decide), h.2.1]
theorem qp_init : qL qz_Q qz_X := by
  refine ⟨rfl, rfl, ⟨⟨fun r hr => ?_, fun r hr => ?_, fun r hr => ?_, rfl, rfl, rfl, rfl⟩, ?_⟩, rfl, Or.inl rfl⟩
  · exact (qp_upd_ne (fun _ => (0 : Int32)) (k := 1) (j := 10 + r) 1 (by omega)).symm
  · exact (qp_upd_ne (fun _ => (0 : Int32)) (k := 1) (j := 18 + r) 1 (by omega)).symm
  · exact (qp_upd_ne (fun _ => (0 : Int32)) (k := 1) (j := 22 + r) 1 (by omega)).symm
  · refine ⟨qi_lit (by decide), qi_lit (by decide), qi_lit (by decide), qi_lit (by decide), qb_0, qb_0, qb_0, qb_0, qb_0, fun k hk => ?_, rfl⟩
    show vp_in (upd _ 1 1 (18 + k)) 4
    rw [qp_upd_ne _ _ (by omega)]
    exact qi_lit (by decide)
/-- what the contracts of the steps ask -/
theorem qp_front {q : qs_Q} {x : qs_X} (h : qL q x) : vp_in q.2.2.1.2.2.2.1.1 128 ∧ (∀ k : Nat, k < 4 → vp_in (q.2.2.1.2.1 k) 4) ∧ vp_in (x.1 0) 128 ∧ (∀ k : Nat, k < 4 → vp_in (x.1 (18 + k)) 4) ∧ qb x.2.2.1 := by
  obtain ⟨l1, l2, ⟨⟨e1, e2, e3, e4, e5, e6, e7⟩, i0, i1, i5, i6, i2, i3, i4, i7, i8, is, ir⟩, l4, l5⟩ := h
  refine ⟨by rw [e4]; exact i0, fun k hk => by rw [e2 k hk]; exact is k hk, i0, is, ?_⟩
  rcases l5 with l5 | ⟨l5, -⟩
  · exact Or.inl l5
  · exact Or.inr l5
