/-- what the reference does behind its instruction -/
def qd_fin (r : qs_X × Int32) : qs_X :=
  if r.2 ≤ 0 then (if r.1.2.2.2.2.2.2.2 = 0 then (if (qf_X_moveOn r.1 r.1.2.2.2.2.2.2.1).2.2.2.2.2.1 = 0 then (qm_X_g (qf_X_moveOn r.1 r.1.2.2.2.2.2.2.1) (upd (qf_X_moveOn r.1 r.1.2.2.2.2.2.2.1).1 2 (0 : Int32)))
      else (qm_X_g (qf_X_moveOn r.1 r.1.2.2.2.2.2.2.1) (upd (qf_X_moveOn r.1 r.1.2.2.2.2.2.2.1).1 2 (1 : Int32))))
    else r.1)
  else (qf_X_trap r.1 r.2)
def qd_part (x : qs_X) (w k a b z s : Int32) : qs_X × Int32 :=
  if 11 ≤ k then (if 13 ≤ k then (if 18 ≤ k then qf_X_manage x w k a z else qf_X_branch x w k a b z) else qf_X_touch x w k (a + z) s) else qf_X_reckon x w k a b z
theorem qp_instr (st : qs_X) : qf_X_instruct st = qd_fin (qd_part (qm_X_sy (qm_X_tg (qm_X_nu st 0) (-1)) 0) (st.2.2.2.1 (Int32.toNatClampNeg (st.1 0))) (qf_ush (st.2.2.2.1 (Int32.toNatClampNeg (st.1 0))) 27) (st.1 (Int32.toNatClampNeg (10 + ((qf_ush (st.2.2.2.1 (Int32.toNatClampNeg (st.1 0))) 21) &&& 7)))) (st.1 (Int32.toNatClampNeg (10 + ((qf_ush (st.2.2.2.1 (Int32.toNatClampNeg (st.1 0))) 18) &&& 7)))) (qf_Pa_m (st.2.2.2.1 (Int32.toNatClampNeg (st.1 0)))) (st.1 (Int32.toNatClampNeg (18 + ((qf_ush (st.2.2.2.1 (Int32.toNatClampNeg (st.1 0))) 18) &&& 3))))) := by
  unfold qf_X_instruct qd_part
  by_cases h1 : 11 ≤ qf_ush (st.2.2.2.1 (Int32.toNatClampNeg (st.1 0))) 27
  · rw [if_pos h1, if_pos h1]
    by_cases h2 : 13 ≤ qf_ush (st.2.2.2.1 (Int32.toNatClampNeg (st.1 0))) 27
    · rw [if_pos h2, if_pos h2]
      by_cases h3 : 18 ≤ qf_ush (st.2.2.2.1 (Int32.toNatClampNeg (st.1 0))) 27
      · rw [if_pos h3, if_pos h3]; unfold qd_fin qf_Pa_m; rfl
      · rw [if_neg h3, if_neg h3]; unfold qd_fin qf_Pa_m; rfl
    · rw [if_neg h2, if_neg h2]; unfold qd_fin qf_Pa_m; rfl
  · rw [if_neg h1, if_neg h1]; unfold qd_fin qf_Pa_m; rfl
/-- what an instruction's part owes: its cause, what it leaves, and the machine behind it -/
def qS (m : qs_M) (x : qs_X) (w : Int32) (p : qs_X × Int32) : Prop := qf_M_causeOf m w = p.2 ∧ vp_in p.2 6 ∧ (p.1.2.1 = x.2.1 ∧ p.1.2.2.1 = x.2.2.1 ∧ p.1.2.2.2.1 = x.2.2.2.1 ∧ p.1.2.2.2.2.1 = x.2.2.2.2.1) ∧ (p.2 ≠ 0 → p.1.1 = x.1) ∧ (p.2 = 0 → qR (qf_M_perform m w) (qd_fin p).1)
theorem qp_not0 : ¬ (0 : Int32) ≤ -1 := by decide
theorem qp_move {m : qs_M} {x : qs_X} (h : qR m x.1) (hsy : x.2.2.2.2.2.2.2 = 0) {p n : Int32} (h1 : 0 ≤ x.2.2.2.2.2.2.1 → p = x.2.2.2.2.2.2.1 ∧ vp_in p 128) (h2 : ¬ 0 ≤ x.2.2.2.2.2.2.1 → p = qf_Pl_behind m.2.2.2.1.2.1) (hn : n = x.2.2.2.2.2.1) : qR (qm_M_fl m (qf_F_moveOnTo m.2.2.2.1 p n)) (qd_fin (x, 0)).1 := by
  have hf := h.1.2.2.2.1
  have i1 := h.2.2.1
  have hp : qf_X_moveOn x x.2.2.2.2.2.2.1 = qm_X_g x (upd (upd x.1 0 (x.1 1)) 1 p) ∧ vp_in p 128 := by
    unfold qf_X_moveOn
    by_cases h3 : 0 ≤ x.2.2.2.2.2.2.1
    · rw [if_pos h3, (h1 h3).1]; exact ⟨rfl, (h1 h3).1 ▸ (h1 h3).2⟩
    · rw [if_neg h3, h2 h3, hf]
      refine ⟨?_, qp_behIn _⟩
      show qm_X_g x (upd (upd x.1 0 (x.1 1)) 1 (qf_X_behind (x.1 1))) = qm_X_g x (upd (upd x.1 0 (x.1 1)) 1 (qf_Pl_behind (x.1 1)))
      rw [qp_beh i1]
  have key : ∀ c : Int32, qb c → qR (qm_M_fl m (m.2.2.2.1.2.1, p, c, m.2.2.2.1.2.2.2)) (upd (upd (upd x.1 0 (x.1 1)) 1 p) 2 c) := by
    intro c hc
    obtain ⟨⟨e1, e2, e3, e4, e5, e6, e7⟩, i0, i1, i5, i6, i2, i3, i4, i7, i8, is, ir⟩ := h
    refine qp_fl (g := x.1) (g2 := upd (upd (upd x.1 0 (x.1 1)) 1 p) 2 c) ⟨⟨e1, e2, e3, e4, e5, e6, e7⟩, i0, i1, i5, i6, i2, i3, i4, i7, i8, is, ir⟩ (fun j hj => ?_) i1 hp.2 hc i3 i4 i5 i6 i7 i8 ?_ e5 e6 e7
    · rw [qp_upd_ne _ _ (by omega), qp_upd_ne _ _ (by omega), qp_upd_ne _ _ (by omega)]
    · rw [e4]; rfl
  unfold qd_fin
  rw [if_pos (show (0 : Int32) ≤ 0 by decide), if_pos hsy]
  show qR _ (if (qf_X_moveOn x x.2.2.2.2.2.2.1).2.2.2.2.2.1 = 0 then (qm_X_g (qf_X_moveOn x x.2.2.2.2.2.2.1) (upd (qf_X_moveOn x x.2.2.2.2.2.2.1).1 2 (0 : Int32))) else (qm_X_g (qf_X_moveOn x x.2.2.2.2.2.2.1) (upd (qf_X_moveOn x x.2.2.2.2.2.2.1).1 2 (1 : Int32)))).1
  rw [hp.1]
  unfold qf_F_moveOnTo
  by_cases h5 : n = 0
  · rw [if_pos h5, if_pos (show x.2.2.2.2.2.1 = 0 from hn ▸ h5)]
    exact key 0 qb_0
  · rw [if_neg h5, if_neg (show ¬ x.2.2.2.2.2.1 = 0 from hn ▸ h5)]
    exact key 1 qb_1
/-- a row written, then on -/
theorem qp_wfin {m : qs_M} {x : qs_X} (h : qR m x.1) (hsy : x.2.2.2.2.2.2.2 = 0) (htg : x.2.2.2.2.2.2.1 = -1) {w v n : Int32} (hc : qf_M_causeOf m w = 0) (hp : qf_M_perform m w = qm_M_fl (qf_M_setT m w v) (qf_F_moveOn (qf_M_setT m w v).2.2.2.1 n)) : qS m x w (qm_X_nu (qf_X_write x ((qf_ush w 24) &&& 7) v) n, 0) := by
  obtain ⟨r1, r2⟩ := qp_write h w v
  refine ⟨hc, (qi_lit (by decide) : vp_in 0 6), ⟨?_, ?_, ?_, ?_⟩, fun q => absurd rfl q, fun _ => ?_⟩
  · show (qf_X_write x ((qf_ush w 24) &&& 7) v).2.1 = _
    rw [r2]
  · show (qf_X_write x ((qf_ush w 24) &&& 7) v).2.2.1 = _
    rw [r2]
  · show (qf_X_write x ((qf_ush w 24) &&& 7) v).2.2.2.1 = _
    rw [r2]
  · show (qf_X_write x ((qf_ush w 24) &&& 7) v).2.2.2.2.1 = _
    rw [r2]
  · rw [hp]
    have t1 : (qm_X_nu (qf_X_write x ((qf_ush w 24) &&& 7) v) n).2.2.2.2.2.2.1 = -1 := by
      show (qf_X_write x ((qf_ush w 24) &&& 7) v).2.2.2.2.2.2.1 = -1
      rw [r2]; exact htg
    refine qp_move (x := qm_X_nu (qf_X_write x ((qf_ush w 24) &&& 7) v) n) r1 ?_ ?_ ?_ rfl
    · show (qf_X_write x ((qf_ush w 24) &&& 7) v).2.2.2.2.2.2.2 = 0
      rw [r2]; exact hsy
    · rw [t1]; exact fun q => absurd q qp_not0
    · exact fun _ => rfl
theorem qp_cause {m : qs_M} {x : qs_X} {w : Int32} {c : Int32} (hc : qf_M_causeOf m w = c) (h7 : vp_in c 6) (h0 : c ≠ 0) : qS m x w (x, c) := ⟨hc, h7, ⟨rfl, rfl, rfl, rfl⟩, fun _ => rfl, fun q => absurd q h0⟩

theorem qp_reckon {m : qs_M} {x : qs_X} (h : qR m x.1) (hsy : x.2.2.2.2.2.2.2 = 0) (htg : x.2.2.2.2.2.2.1 = -1) {w : Int32} {j : Nat} (hk : qf_Pa_kind w = nI j) (hj : j < 11) {a b : Int32} (ha : qf_M_valueA m w = a) (hb : qf_M_valueB m w = b) : qS m x w (qf_X_reckon x w (nI j) a b (qf_Pa_m w)) := by
  rcases (show j = 0 ∨ j = 1 ∨ j = 2 ∨ j = 3 ∨ j = 4 ∨ j = 5 ∨ j = 6 ∨ j = 7 ∨ j = 8 ∨ j = 9 ∨ j = 10 by omega) with rfl | rfl | rfl | rfl | rfl | rfl | rfl | rfl | rfl | rfl | rfl
  · have hk : qf_Pa_kind w = 0 := hk
    show qS m x w (qf_X_reckon x w 0 a b (qf_Pa_m w))
    have hX : qf_X_reckon x w 0 a b (qf_Pa_m w) = (qm_X_nu (qf_X_write x ((qf_ush w 24) &&& 7) (a + b)) (qf_Co_holds ((qf_ush w 15) &&& 7) (a + b) 0), 0) := by simp only [qf_X_reckon, qf_X_reckon_j20, qf_X_reckon_j44, qf_X_reckon_j185, qf_X_reckon_j219, qp_holds]; simp
    rw [hX]
    exact qp_wfin h hsy htg (by simp [qf_M_causeOf, hk]) (by simp only [qf_M_perform, qf_M_reckon, qf_M_resultOf, hk, ha, hb, qf_Pa_condition]; simp)
  · have hk : qf_Pa_kind w = 1 := hk
    show qS m x w (qf_X_reckon x w 1 a b (qf_Pa_m w))
    by_cases hi : lg_cmp (a.toInt64 + b.toInt64) ((a.toInt64 + b.toInt64)).toInt32.toInt64 = 0
    · have hX : qf_X_reckon x w 1 a b (qf_Pa_m w) = (qm_X_nu (qf_X_write x ((qf_ush w 24) &&& 7) (a + b)) (qf_Co_holds ((qf_ush w 15) &&& 7) (a + b) 0), 0) := by simp only [qf_X_reckon, qf_X_reckon_j20, qf_X_reckon_j44, qf_X_reckon_j185, qf_X_reckon_j219, qp_holds, hi]; simp
      rw [hX]
      exact qp_wfin h hsy htg (by simp only [qf_M_causeOf, hk, ha, hb, qf_M_isInt, hi]; simp) (by simp [qf_M_perform, qf_M_reckon, qf_M_resultOf, hk, ha, hb, qf_Pa_condition])
    · have hX : qf_X_reckon x w 1 a b (qf_Pa_m w) = (x, 2) := by simp only [qf_X_reckon, qf_X_reckon_j20, hi]; simp
      rw [hX]
      exact qp_cause (by simp only [qf_M_causeOf, hk, ha, hb, qf_M_isInt, hi]; simp) (qi_lit (by decide)) (by decide)
  · have hk : qf_Pa_kind w = 2 := hk
    show qS m x w (qf_X_reckon x w 2 a b (qf_Pa_m w))
    have hX : qf_X_reckon x w 2 a b (qf_Pa_m w) = (qm_X_nu (qf_X_write x ((qf_ush w 24) &&& 7) (a - b)) (qf_Co_holds ((qf_ush w 15) &&& 7) a b), 0) := by simp only [qf_X_reckon, qf_X_reckon_j20, qf_X_reckon_j44, qf_X_reckon_j185, qf_X_reckon_j219, qp_holds]; simp
    rw [hX]
    exact qp_wfin h hsy htg (by simp [qf_M_causeOf, hk]) (by simp only [qf_M_perform, qf_M_reckon, qf_M_resultOf, hk, ha, hb, qf_Pa_condition]; simp)
  · have hk : qf_Pa_kind w = 3 := hk
    show qS m x w (qf_X_reckon x w 3 a b (qf_Pa_m w))
    by_cases hi : lg_cmp (a.toInt64 - b.toInt64) ((a.toInt64 - b.toInt64)).toInt32.toInt64 = 0
    · have hX : qf_X_reckon x w 3 a b (qf_Pa_m w) = (qm_X_nu (qf_X_write x ((qf_ush w 24) &&& 7) (a - b)) (qf_Co_holds ((qf_ush w 15) &&& 7) a b), 0) := by simp only [qf_X_reckon, qf_X_reckon_j20, qf_X_reckon_j44, qf_X_reckon_j185, qf_X_reckon_j219, qp_holds, hi]; simp
      rw [hX]
      exact qp_wfin h hsy htg (by simp only [qf_M_causeOf, hk, ha, hb, qf_M_isInt, hi]; simp) (by simp [qf_M_perform, qf_M_reckon, qf_M_resultOf, hk, ha, hb, qf_Pa_condition])
    · have hX : qf_X_reckon x w 3 a b (qf_Pa_m w) = (x, 2) := by simp only [qf_X_reckon, qf_X_reckon_j20, hi]; simp
      rw [hX]
      exact qp_cause (by simp only [qf_M_causeOf, hk, ha, hb, qf_M_isInt, hi]; simp) (qi_lit (by decide)) (by decide)
  · have hk : qf_Pa_kind w = 4 := hk
    show qS m x w (qf_X_reckon x w 4 a b (qf_Pa_m w))
    have hX : qf_X_reckon x w 4 a b (qf_Pa_m w) = (qm_X_nu (qf_X_write x ((qf_ush w 24) &&& 7) (a &&& b)) (qf_Co_holds ((qf_ush w 15) &&& 7) (a &&& b) 0), 0) := by simp only [qf_X_reckon, qf_X_reckon_j20, qf_X_reckon_j44, qf_X_reckon_j185, qf_X_reckon_j219, qp_holds]; simp
    rw [hX]
    exact qp_wfin h hsy htg (by simp [qf_M_causeOf, hk]) (by simp only [qf_M_perform, qf_M_reckon, qf_M_resultOf, hk, ha, hb, qf_Pa_condition]; simp)
  · have hk : qf_Pa_kind w = 5 := hk
    show qS m x w (qf_X_reckon x w 5 a b (qf_Pa_m w))
    have hX : qf_X_reckon x w 5 a b (qf_Pa_m w) = (qm_X_nu (qf_X_write x ((qf_ush w 24) &&& 7) (a ||| b)) (qf_Co_holds ((qf_ush w 15) &&& 7) (a ||| b) 0), 0) := by simp only [qf_X_reckon, qf_X_reckon_j20, qf_X_reckon_j44, qf_X_reckon_j185, qf_X_reckon_j219, qp_holds]; simp
    rw [hX]
    exact qp_wfin h hsy htg (by simp [qf_M_causeOf, hk]) (by simp only [qf_M_perform, qf_M_reckon, qf_M_resultOf, hk, ha, hb, qf_Pa_condition]; simp)
  · have hk : qf_Pa_kind w = 6 := hk
    show qS m x w (qf_X_reckon x w 6 a b (qf_Pa_m w))
    have hX : qf_X_reckon x w 6 a b (qf_Pa_m w) = (qm_X_nu (qf_X_write x ((qf_ush w 24) &&& 7) (a ^^^ b)) (qf_Co_holds ((qf_ush w 15) &&& 7) (a ^^^ b) 0), 0) := by simp only [qf_X_reckon, qf_X_reckon_j20, qf_X_reckon_j44, qf_X_reckon_j185, qf_X_reckon_j219, qp_holds]; simp
    rw [hX]
    exact qp_wfin h hsy htg (by simp [qf_M_causeOf, hk]) (by simp only [qf_M_perform, qf_M_reckon, qf_M_resultOf, hk, ha, hb, qf_Pa_condition]; simp)
  · have hk : qf_Pa_kind w = 7 := hk
    show qS m x w (qf_X_reckon x w 7 a b (qf_Pa_m w))
    have hX : qf_X_reckon x w 7 a b (qf_Pa_m w) = (qm_X_nu (qf_X_write x ((qf_ush w 24) &&& 7) (a &&& (b ^^^ (-1)))) (qf_Co_holds ((qf_ush w 15) &&& 7) (a &&& (b ^^^ (-1))) 0), 0) := by simp only [qf_X_reckon, qf_X_reckon_j20, qf_X_reckon_j44, qf_X_reckon_j185, qf_X_reckon_j219, qp_holds]; simp
    rw [hX]
    exact qp_wfin h hsy htg (by simp [qf_M_causeOf, hk]) (by simp only [qf_M_perform, qf_M_reckon, qf_M_resultOf, hk, ha, hb, qf_Pa_condition]; simp)
  · have hk : qf_Pa_kind w = 8 := hk
    show qS m x w (qf_X_reckon x w 8 a b (qf_Pa_m w))
    have hX : qf_X_reckon x w 8 a b (qf_Pa_m w) = (qm_X_nu (qf_X_write x ((qf_ush w 24) &&& 7) (0 : Int32)) (qf_Co_holds ((qf_ush w 15) &&& 7) a b), 0) := by simp only [qf_X_reckon, qf_X_reckon_j20, qf_X_reckon_j44, qf_X_reckon_j185, qf_X_reckon_j219, qp_holds]; simp
    rw [hX]
    exact qp_wfin h hsy htg (by simp [qf_M_causeOf, hk]) (by simp only [qf_M_perform, qf_M_reckon, qf_M_resultOf, hk, ha, hb, qf_Pa_condition]; simp)
  · have hk : qf_Pa_kind w = 9 := hk
    show qS m x w (qf_X_reckon x w 9 a b (qf_Pa_m w))
    have hX : qf_X_reckon x w 9 a b (qf_Pa_m w) = (qm_X_nu (qf_X_write x ((qf_ush w 24) &&& 7) (a + qf_Pa_m w)) (qf_Co_holds ((qf_ush w 15) &&& 7) (a + qf_Pa_m w) 0), 0) := by simp only [qf_X_reckon, qf_X_reckon_j20, qf_X_reckon_j44, qf_X_reckon_j185, qf_X_reckon_j219, qp_holds]; simp
    rw [hX]
    exact qp_wfin h hsy htg (by simp [qf_M_causeOf, hk]) (by simp only [qf_M_perform, qf_M_reckon, qf_M_resultOf, hk, ha, hb, qf_Pa_condition]; simp)
  · have hk : qf_Pa_kind w = 10 := hk
    show qS m x w (qf_X_reckon x w 10 a b (qf_Pa_m w))
    by_cases hi : ((qf_ush w 14) &&& 1) = 1
    · have hX : qf_X_reckon x w 10 a b (qf_Pa_m w) = (qm_X_nu (qf_X_write x ((qf_ush w 24) &&& 7) (qf_ush a (qf_Pa_m w &&& 31))) (qf_Co_holds ((qf_ush w 15) &&& 7) (qf_ush a (qf_Pa_m w &&& 31)) 0), 0) := by simp only [qf_X_reckon, qf_X_reckon_j20, qf_X_reckon_j44, qf_X_reckon_j185, qf_X_reckon_j219, qp_holds, hi]; simp
      rw [hX]
      exact qp_wfin h hsy htg (by simp [qf_M_causeOf, hk]) (by simp only [qf_M_perform, qf_M_reckon, qf_M_resultOf, hk, ha, hb, qf_Pa_condition, qf_Pa_n, hi, qf_M_shifted]; simp)
    · have hX : qf_X_reckon x w 10 a b (qf_Pa_m w) = (qm_X_nu (qf_X_write x ((qf_ush w 24) &&& 7) (a <<< ((qf_Pa_m w &&& 31) &&& 31))) (qf_Co_holds ((qf_ush w 15) &&& 7) (a <<< ((qf_Pa_m w &&& 31) &&& 31)) 0), 0) := by simp only [qf_X_reckon, qf_X_reckon_j20, qf_X_reckon_j44, qf_X_reckon_j185, qf_X_reckon_j219, qp_holds, hi]; simp
      rw [hX]
      exact qp_wfin h hsy htg (by simp [qf_M_causeOf, hk]) (by simp only [qf_M_perform, qf_M_reckon, qf_M_resultOf, hk, ha, hb, qf_Pa_condition, qf_Pa_n, hi, qf_M_shifted]; simp)
