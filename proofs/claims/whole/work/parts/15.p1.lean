/-! the pure part: the class's state and the reference's, side by side -/
theorem qp_place (x y : Int32) : qf_X_place x y = qf_Pl_of x y := by
  unfold qf_X_place qf_Pl_of
  rw [Int32.mul_comm]
theorem qp_holds (k x y : Int32) : qf_X_holds k x y = qf_Co_holds k x y := rfl
theorem qp_upd_same (f : Nat → Int32) (k : Nat) (x : Int32) : upd f k x k = x := if_pos rfl
theorem qp_upd_ne (f : Nat → Int32) {k j : Nat} (x : Int32) (h : j ≠ k) : upd f k x j = f j := if_neg h
/-- what holds of the reference's row -/
def qI (g : Nat → Int32) : Prop := vp_in (g 0) 128 ∧ vp_in (g 1) 128 ∧ vp_in (g 5) 128 ∧ vp_in (g 6) 128 ∧ qb (g 2) ∧ qb (g 3) ∧ qb (g 4) ∧ qb (g 7) ∧ qb (g 8) ∧ (∀ k : Nat, k < 4 → vp_in (g (18 + k)) 4) ∧ g 10 = 0
/-- a machine and the reference's row hold the same -/
def qE (m : qs_M) (g : Nat → Int32) : Prop := (∀ r : Nat, r < 8 → m.1 r = g (10 + r)) ∧ (∀ r : Nat, r < 4 → m.2.1 r = g (18 + r)) ∧ (∀ r : Nat, r < 64 → m.2.2.1 r = g (22 + r)) ∧ m.2.2.2.1 = (g 0, g 1, g 2, g 3) ∧ m.2.2.2.2.1 = (g 5, g 6, g 7, g 8) ∧ m.2.2.2.2.2.1 = g 9 ∧ m.2.2.2.2.2.2 = g 4
def qR (m : qs_M) (g : Nat → Int32) : Prop := qE m g ∧ qI g
/-- the two states side by side -/
def qL (q : qs_Q) (x : qs_X) : Prop := q.1 = x.2.2.2.1 ∧ q.2.1 = x.2.2.2.2.1 ∧ qR q.2.2.1 x.1 ∧ q.2.2.2.2 = x.2.2.1 ∧ (x.2.2.1 = 0 ∨ (x.2.2.1 = 1 ∧ qR q.2.2.2.1 x.2.1))
theorem qp_ix {x : Int32} {n : Nat} (c : Nat) {C : Int32} (hC : C = nI c) (hx : vp_in x n) (hn : c + n < 2 ^ 31) : (C + x).toNatClampNeg = c + x.toNatClampNeg ∧ x.toNatClampNeg < n := by
  obtain ⟨j, hj, rfl⟩ := vp_in_of hx (by omega)
  rw [hC, nI_add, nI_clamp (by omega), nI_clamp (by omega)]
  exact ⟨rfl, hj⟩
theorem qp_nI {x : Int32} {n : Nat} (hx : vp_in x n) (hn : n < 2 ^ 31) : x = nI x.toNatClampNeg := by
  obtain ⟨j, hj, rfl⟩ := vp_in_of hx hn
  rw [nI_clamp (by omega)]
theorem qp_A {m : qs_M} {g : Nat → Int32} (h : qE m g) (w : Int32) : qf_M_valueA m w = g (Int32.toNatClampNeg (10 + ((qf_ush w 21) &&& 7))) := by
  obtain ⟨e1, e2⟩ := qp_ix 10 (C := 10) rfl (qi_and7 (qf_ush w 21)) (by decide)
  rw [e1]; exact h.1 _ e2
theorem qp_B {m : qs_M} {g : Nat → Int32} (h : qE m g) (w : Int32) : qf_M_valueB m w = g (Int32.toNatClampNeg (10 + ((qf_ush w 18) &&& 7))) := by
  obtain ⟨e1, e2⟩ := qp_ix 10 (C := 10) rfl (qi_and7 (qf_ush w 18)) (by decide)
  rw [e1]; exact h.1 _ e2
theorem qp_T {m : qs_M} {g : Nat → Int32} (h : qE m g) (w : Int32) : qf_M_valueT m w = g (Int32.toNatClampNeg (10 + ((qf_ush w 24) &&& 7))) := by
  obtain ⟨e1, e2⟩ := qp_ix 10 (C := 10) rfl (qi_and7 (qf_ush w 24)) (by decide)
  rw [e1]; exact h.1 _ e2
theorem qp_S {m : qs_M} {g : Nat → Int32} (h : qE m g) (w : Int32) : qf_M_valueS m w = g (Int32.toNatClampNeg (18 + ((qf_ush w 18) &&& 3))) := by
  obtain ⟨e1, e2⟩ := qp_ix 18 (C := 18) rfl (qi_and3 (qf_ush w 18)) (by decide)
  rw [e1]; exact h.2.1 _ e2
/-- a row of the machine's written, and the reference's with it -/
theorem qp_rg {m : qs_M} {g : Nat → Int32} (h : qR m g) {t : Nat} (ht : t < 8) (h0 : t ≠ 0) (v : Int32) : qR (qm_M_rg m (upd m.1 t v)) (upd g (10 + t) v) := by
  obtain ⟨⟨e1, e2, e3, e4, e5, e6, e7⟩, i0, i1, i5, i6, i2, i3, i4, i7, i8, is, ir⟩ := h
  have N : ∀ j : Nat, j < 10 ∨ 18 ≤ j ∨ j = 10 → upd g (10 + t) v j = g j := fun j hj => qp_upd_ne _ _ (by omega)
  refine ⟨⟨fun r hr => ?_, fun r hr => ?_, fun r hr => ?_, ?_, ?_, ?_, ?_⟩, ?_⟩
  · by_cases e : r = t
    · subst e; rw [qp_upd_same]; exact qp_upd_same _ _ _
    · rw [qp_upd_ne _ _ (by omega)]; exact (qp_upd_ne _ _ e).trans (e1 r hr)
  · rw [N _ (by omega)]; exact e2 r hr
  · rw [N _ (by omega)]; exact e3 r hr
  · rw [N 0 (by omega), N 1 (by omega), N 2 (by omega), N 3 (by omega)]; exact e4
  · rw [N 5 (by omega), N 6 (by omega), N 7 (by omega), N 8 (by omega)]; exact e5
  · rw [N 9 (by omega)]; exact e6
  · rw [N 4 (by omega)]; exact e7
  · refine ⟨?_, ?_, ?_, ?_, ?_, ?_, ?_, ?_, ?_, fun k hk => ?_, ?_⟩ <;> rw [N _ (by omega)] <;> first | assumption | exact is k hk
theorem qp_sp {m : qs_M} {g : Nat → Int32} (h : qR m g) {t : Nat} (ht : t < 4) {v : Int32} (hv : vp_in v 4) : qR (qm_M_sp m (upd m.2.1 t v)) (upd g (18 + t) v) := by
  obtain ⟨⟨e1, e2, e3, e4, e5, e6, e7⟩, i0, i1, i5, i6, i2, i3, i4, i7, i8, is, ir⟩ := h
  have N : ∀ j : Nat, j < 18 ∨ 22 ≤ j → upd g (18 + t) v j = g j := fun j hj => qp_upd_ne _ _ (by omega)
  refine ⟨⟨fun r hr => ?_, fun r hr => ?_, fun r hr => ?_, ?_, ?_, ?_, ?_⟩, ?_⟩
  · rw [N _ (by omega)]; exact e1 r hr
  · by_cases e : r = t
    · subst e; rw [qp_upd_same]; exact qp_upd_same _ _ _
    · rw [qp_upd_ne _ _ (by omega)]; exact (qp_upd_ne _ _ e).trans (e2 r hr)
  · rw [N _ (by omega)]; exact e3 r hr
  · rw [N 0 (by omega), N 1 (by omega), N 2 (by omega), N 3 (by omega)]; exact e4
  · rw [N 5 (by omega), N 6 (by omega), N 7 (by omega), N 8 (by omega)]; exact e5
  · rw [N 9 (by omega)]; exact e6
  · rw [N 4 (by omega)]; exact e7
  · refine ⟨?_, ?_, ?_, ?_, ?_, ?_, ?_, ?_, ?_, fun k hk => ?_, ?_⟩
    case refine_10 =>
      by_cases e : k = t
      · subst e; rw [qp_upd_same]; exact hv
      · rw [qp_upd_ne _ _ (by omega)]; exact is k hk
    all_goals rw [N _ (by omega)]; assumption
theorem qp_dt {m : qs_M} {g : Nat → Int32} (h : qR m g) {t : Nat} (ht : t < 64) (v : Int32) : qR (qm_M_dt m (upd m.2.2.1 t v)) (upd g (22 + t) v) := by
  obtain ⟨⟨e1, e2, e3, e4, e5, e6, e7⟩, i0, i1, i5, i6, i2, i3, i4, i7, i8, is, ir⟩ := h
  have N : ∀ j : Nat, j < 22 → upd g (22 + t) v j = g j := fun j hj => qp_upd_ne _ _ (by omega)
  refine ⟨⟨fun r hr => ?_, fun r hr => ?_, fun r hr => ?_, ?_, ?_, ?_, ?_⟩, ?_⟩
  · rw [N _ (by omega)]; exact e1 r hr
  · rw [N _ (by omega)]; exact e2 r hr
  · by_cases e : r = t
    · subst e; rw [qp_upd_same]; exact qp_upd_same _ _ _
    · rw [qp_upd_ne _ _ (by omega)]; exact (qp_upd_ne _ _ e).trans (e3 r hr)
  · rw [N 0 (by omega), N 1 (by omega), N 2 (by omega), N 3 (by omega)]; exact e4
  · rw [N 5 (by omega), N 6 (by omega), N 7 (by omega), N 8 (by omega)]; exact e5
  · rw [N 9 (by omega)]; exact e6
  · rw [N 4 (by omega)]; exact e7
  · refine ⟨?_, ?_, ?_, ?_, ?_, ?_, ?_, ?_, ?_, fun k hk => ?_, ?_⟩ <;> rw [N _ (by omega)] <;> first | assumption | exact is k hk
/-- the first ten places given anew -/
theorem qp_fl {m : qs_M} {g g2 : Nat → Int32} (h : qR m g) (hg : ∀ j : Nat, 10 ≤ j → g2 j = g j) (h0 : vp_in (g2 0) 128) (h1 : vp_in (g2 1) 128) (h2 : qb (g2 2)) (h3 : qb (g2 3)) (h4 : qb (g2 4)) (h5 : vp_in (g2 5) 128) (h6 : vp_in (g2 6) 128) (h7 : qb (g2 7)) (h8 : qb (g2 8))
    {fl sv : qs_F} {cs pd : Int32} (ef : fl = (g2 0, g2 1, g2 2, g2 3)) (es : sv = (g2 5, g2 6, g2 7, g2 8)) (ec : cs = g2 9) (ep : pd = g2 4) : qR (m.1, m.2.1, m.2.2.1, fl, sv, cs, pd) g2 := by
  obtain ⟨⟨e1, e2, e3, -, -, -, -⟩, -, -, -, -, -, -, -, -, -, is, ir⟩ := h
  refine ⟨⟨fun r hr => ?_, fun r hr => ?_, fun r hr => ?_, ef, es, ec, ep⟩, h0, h1, h5, h6, h2, h3, h4, h7, h8, fun k hk => ?_, ?_⟩
  · rw [hg _ (by omega)]; exact e1 r hr
  · rw [hg _ (by omega)]; exact e2 r hr
  · rw [hg _ (by omega)]; exact e3 r hr
  · rw [hg _ (by omega)]; exact is k hk
  · rw [hg _ (by omega)]; exact ir
/-- setT and write -/
theorem qp_write {m : qs_M} {x : qs_X} (h : qR m x.1) (w v : Int32) : qR (qf_M_setT m w v) (qf_X_write x ((qf_ush w 24) &&& 7) v).1 ∧ (qf_X_write x ((qf_ush w 24) &&& 7) v).2 = x.2 := by
  obtain ⟨e1, e2⟩ := qp_ix 10 (C := 10) rfl (qi_and7 (qf_ush w 24)) (by decide)
  unfold qf_M_setT qf_X_write qf_Pa_t
  by_cases h0 : (qf_ush w 24) &&& 7 = 0
  · rw [if_pos h0, if_pos h0]
    refine ⟨?_, rfl⟩
    have : upd x.1 (Int32.toNatClampNeg (10 + ((qf_ush w 24) &&& 7))) 0 = x.1 := by
      funext j
      rw [h0]
      by_cases hj : j = 10
      · subst hj; exact (h.2.2.2.2.2.2.2.2.2.2.2).symm
      · exact qp_upd_ne _ _ hj
    show qR m (upd x.1 _ 0)
    rw [this]; exact h
  · rw [if_neg h0, if_neg h0]
    refine ⟨?_, rfl⟩
    show qR _ (upd x.1 (Int32.toNatClampNeg (10 + ((qf_ush w 24) &&& 7))) v)
    rw [e1]
    refine qp_rg h e2 (fun q => h0 ?_) v
    rw [qp_nI (qi_and7 (qf_ush w 24)) (by decide), q]; rfl
theorem qp_setT_fl (m : qs_M) (w v : Int32) : (qf_M_setT m w v).2.2.2.1 = m.2.2.2.1 := by
  unfold qf_M_setT
  by_cases h0 : qf_Pa_t w = 0
  · rw [if_pos h0]
  · rw [if_neg h0]
