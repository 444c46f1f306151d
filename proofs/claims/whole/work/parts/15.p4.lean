theorem qp_ufin {m m2 : qs_M} {x x2 : qs_X} (h : qR m2 x2.1) (h2 : x2.2 = x.2) (hnu : x.2.2.2.2.2.1 = 0) (hsy : x.2.2.2.2.2.2.2 = 0) (htg : x.2.2.2.2.2.2.1 = -1) {w : Int32} (hc : qf_M_causeOf m w = 0) (hp : qf_M_perform m w = qm_M_fl m2 (qf_F_moveOn m2.2.2.2.1 0)) : qS m x w (x2, 0) := by
  refine ⟨hc, (qi_lit (by decide) : vp_in 0 6), ⟨?_, ?_, ?_, ?_⟩, fun q => absurd rfl q, fun _ => ?_⟩
  · show x2.2.1 = _; rw [h2]
  · show x2.2.2.1 = _; rw [h2]
  · show x2.2.2.2.1 = _; rw [h2]
  · show x2.2.2.2.2.1 = _; rw [h2]
  · rw [hp]
    refine qp_move (x := x2) h ?_ ?_ ?_ ?_
    · rw [h2]; exact hsy
    · rw [h2, htg]; exact fun q => absurd q qp_not0
    · exact fun _ => rfl
    · rw [h2]; exact hnu.symm
theorem qp_dix {s y : Int32} (hs : vp_in s 4) (hy : vp_in y 16) : ((22 + (16 * s)) + y).toNatClampNeg = 22 + (qf_Q_dataIndex s y).toNatClampNeg ∧ (qf_Q_dataIndex s y).toNatClampNeg < 64 := by
  obtain ⟨i, hi, rfl⟩ := vp_in_of hs (by decide)
  obtain ⟨j, hj, rfl⟩ := vp_in_of hy (by decide)
  unfold qf_Q_dataIndex
  rw [show (22 : Int32) = nI 22 from rfl, show (16 : Int32) = nI 16 from rfl, pk_mul, pk_mul, nI_add, nI_add, nI_add, nI_clamp (by omega), nI_clamp (by omega)]
  omega
theorem qp_Sin {m : qs_M} {g : Nat → Int32} (h : qR m g) (w : Int32) : vp_in (qf_M_valueS m w) 4 := by
  rw [qp_S h.1]
  obtain ⟨e1, e2⟩ := qp_ix 18 (C := 18) rfl (qi_and3 (qf_ush w 18)) (by decide)
  rw [e1]
  exact h.2.2.2.2.2.2.2.2.2.2.1 _ e2
theorem qp_touch {m : qs_M} {x : qs_X} (h : qR m x.1) (hnu : x.2.2.2.2.2.1 = 0) (hsy : x.2.2.2.2.2.2.2 = 0) (htg : x.2.2.2.2.2.2.1 = -1) {w : Int32} {j : Nat} (hk : qf_Pa_kind w = nI j) (h11 : 11 ≤ j) (hj : j < 13) {a s : Int32} (ha : qf_M_valueA m w = a) (hs : qf_M_valueS m w = s) : qS m x w (qf_X_touch x w (nI j) (a + qf_Pa_m w) s) := by
  have hs4 : vp_in s 4 := hs ▸ qp_Sin h w
  by_cases hi : qf_Q_isDataOffset (a + qf_Pa_m w) = 0
  · have hX : qf_X_touch x w (nI j) (a + qf_Pa_m w) s = (x, 3) := if_pos hi
    rw [hX]
    refine qp_cause ?_ (qi_lit (by decide)) (by decide)
    rcases (show j = 11 ∨ j = 12 by omega) with rfl | rfl
    · have hk : qf_Pa_kind w = 11 := hk
      simp only [qf_M_causeOf, hk, ha, hi]; simp
    · have hk : qf_Pa_kind w = 12 := hk
      simp only [qf_M_causeOf, hk, ha, hi]; simp
  · obtain ⟨d1, d2⟩ := qp_dix hs4 (qi_ite (c := 16) (n := 16) (by decide) hi)
    rcases (show j = 11 ∨ j = 12 by omega) with rfl | rfl
    · have hk : qf_Pa_kind w = 11 := hk
      have hX : qf_X_touch x w (nI 11) (a + qf_Pa_m w) s = (qf_X_write x ((qf_ush w 24) &&& 7) (x.1 (Int32.toNatClampNeg ((22 + (16 * s)) + (a + qf_Pa_m w)))), 0) := (if_neg hi).trans (if_pos rfl)
      rw [hX]
      have hd : x.1 (Int32.toNatClampNeg ((22 + (16 * s)) + (a + qf_Pa_m w))) = m.2.2.1 (Int32.toNatClampNeg (qf_Q_dataIndex s (a + qf_Pa_m w))) := by
        rw [d1]; exact (h.1.2.2.1 _ d2).symm
      rw [hd]
      obtain ⟨r1, r2⟩ := qp_write h w (m.2.2.1 (Int32.toNatClampNeg (qf_Q_dataIndex s (a + qf_Pa_m w))))
      refine qp_ufin (x := x) (m := m) (w := w) r1 r2 hnu hsy htg (by simp only [qf_M_causeOf, hk, ha, hi]; simp) ?_
      simp only [qf_M_perform, qf_M_moveData, hk, ha, hs, hi]; simp
    · have hk : qf_Pa_kind w = 12 := hk
      have hX : qf_X_touch x w (nI 12) (a + qf_Pa_m w) s = (qm_X_g x (upd x.1 (Int32.toNatClampNeg ((22 + (16 * s)) + (a + qf_Pa_m w))) (x.1 (Int32.toNatClampNeg (10 + ((qf_ush w 24) &&& 7))))), 0) := (if_neg hi).trans (if_neg (by decide))
      rw [hX, d1, ← qp_T h.1 w]
      refine qp_ufin (x := x) (m := m) (w := w) (x2 := qm_X_g x (upd x.1 (22 + Int32.toNatClampNeg (qf_Q_dataIndex s (a + qf_Pa_m w))) (qf_M_valueT m w))) (m2 := qm_M_dt m (upd m.2.2.1 (Int32.toNatClampNeg (qf_Q_dataIndex s (a + qf_Pa_m w))) (qf_M_valueT m w))) (qp_dt h d2 _) rfl hnu hsy htg (by simp only [qf_M_causeOf, hk, ha, hi]; simp) ?_
      simp only [qf_M_perform, qf_M_moveData, hk, ha, hs, hi]; simp
/-- a branch -/
def qd_br (x1 : qs_X) (w goes to : Int32) : qs_X × Int32 := ((qm_X_tg (qm_X_nu x1 (qf_M_branchNullifies w goes)) (if goes = 0 then -1 else to)), 0)
theorem qp_bfin {m m2 : qs_M} {x x1 : qs_X} {w goes to : Int32} (h : qR m2 x1.1) (h2 : x1.2 = x.2) (hsy : x.2.2.2.2.2.2.2 = 0) (hto : vp_in to 128) (hc : qf_M_causeOf m w = 0) (hp : qf_M_perform m w = qm_M_fl m2 (qf_F_moveOnTo m2.2.2.2.1 (if goes = 0 then qf_Pl_behind m2.2.2.2.1.2.1 else to) (qf_M_branchNullifies w goes))) : qS m x w (qd_br x1 w goes to) := by
  refine ⟨hc, (qi_lit (by decide) : vp_in 0 6), ⟨?_, ?_, ?_, ?_⟩, fun q => absurd rfl q, fun _ => ?_⟩
  · show x1.2.1 = _; rw [h2]
  · show x1.2.2.1 = _; rw [h2]
  · show x1.2.2.2.1 = _; rw [h2]
  · show x1.2.2.2.2.1 = _; rw [h2]
  · rw [hp]
    refine qp_move (x := (qd_br x1 w goes to).1) h ?_ ?_ ?_ rfl
    · show x1.2.2.2.2.2.2.2 = 0; rw [h2]; exact hsy
    · show 0 ≤ (if goes = 0 then -1 else to) → _
      by_cases hg : goes = 0
      · rw [if_pos hg]; exact fun q => absurd q qp_not0
      · intro _
        rw [if_neg hg]
        exact ⟨(if_neg hg).symm, hto⟩
    · show ¬ 0 ≤ (if goes = 0 then -1 else to) → _
      by_cases hg : goes = 0
      · rw [if_pos hg]; exact fun _ => if_pos hg
      · rw [if_neg hg]
        intro q
        refine absurd ?_ q
        rw [vp_in_iff] at hto
        rw [Int32.le_iff_toInt_le]
        exact hto.1
theorem qp_n01 (w : Int32) : qf_Pa_n w = 0 ∨ qf_Pa_n w = 1 := qp_qb1 _
theorem qp_home {m : qs_M} {g : Nat → Int32} (h : qE m g) : m.2.2.2.1.1 = g 0 := by rw [h.2.2.2.1]
theorem qp_bk {m : qs_M} {g : Nat → Int32} (h : qE m g) : m.2.2.2.1.2.1 = g 1 := by rw [h.2.2.2.1]
theorem qp_tgt {m : qs_M} {g : Nat → Int32} (h : qE m g) (z : Int32) : qf_X_place (g 0 / 32) ((g 0 + 2) + z) = qf_Pl_of (qf_Pl_spaceOf m.2.2.2.1.1) ((qf_Pl_offsetOf m.2.2.2.1.1 + 2) + z) := by
  rw [qp_place, qp_home h]
  unfold qf_Pl_of qf_Pl_spaceOf
  rw [qp_target]

theorem qp_br13 (x : qs_X) (w a b : Int32) (hk : qf_Pa_kind w = 13) : qf_X_branch x w 13 a b (qf_Pa_m w) = qd_br (qf_X_write x ((qf_ush w 24) &&& 7) (((x.1 1) + 1) &&& 31)) w (1 : Int32) (qf_X_place ((x.1 0) / 32) ((((qf_X_write x ((qf_ush w 24) &&& 7) (((x.1 1) + 1) &&& 31)).1 0) + 2) + (qf_Pa_m w))) := by
  simp only [qf_X_branch, qf_X_branch_j24, qf_X_branch_j133, qf_X_branch_j150, qf_X_branch_j186, qf_X_branch_j243, qd_br, qf_M_branchNullifies, hk, qf_Pa_n]
  rcases qp_n01 w with hn | hn
  · have hn : (qf_ush w 14) &&& 1 = 0 := hn
    simp [hn]
  · have hn : (qf_ush w 14) &&& 1 = 1 := hn
    simp [hn]
theorem qp_br14 (x : qs_X) (w a b : Int32) (hk : qf_Pa_kind w = 14) : qf_X_branch x w 14 a b (qf_Pa_m w) = qd_br x w (qf_X_holds ((qf_ush w 15) &&& 7) a b) (qf_X_place ((x.1 0) / 32) (((x.1 0) + 2) + (qf_Pa_m w))) := by
  have hq : qb (qf_X_holds ((qf_ush w 15) &&& 7) a b) := qf_X_holds_qb _ _ _
  simp only [qf_X_branch, qf_X_branch_j24, qf_X_branch_j133, qf_X_branch_j150, qf_X_branch_j186, qf_X_branch_j243, qd_br, qf_M_branchNullifies, hk, qf_Pa_n]
  rcases qp_n01 w with hn | hn
  · have hn : (qf_ush w 14) &&& 1 = 0 := hn
    generalize (qf_X_holds ((qf_ush w 15) &&& 7) a b) = q at hq ⊢
    rcases hq with rfl | rfl <;> by_cases hz : qf_Pa_m w < 0 <;> simp [hn, hz]
  · have hn : (qf_ush w 14) &&& 1 = 1 := hn
    generalize (qf_X_holds ((qf_ush w 15) &&& 7) a b) = q at hq ⊢
    rcases hq with rfl | rfl <;> by_cases hz : qf_Pa_m w < 0 <;> simp [hn, hz]
theorem qp_br15 (x : qs_X) (w a b : Int32) (hk : qf_Pa_kind w = 15) : qf_X_branch x w 15 a b (qf_Pa_m w) = qd_br (qf_X_write x ((qf_ush w 24) &&& 7) ((x.1 (Int32.toNatClampNeg (10 + ((qf_ush w 24) &&& 7)))) + a)) w (qf_X_holds ((qf_ush w 15) &&& 7) ((x.1 (Int32.toNatClampNeg (10 + ((qf_ush w 24) &&& 7)))) + a) 0) (qf_X_place ((x.1 0) / 32) ((((qf_X_write x ((qf_ush w 24) &&& 7) ((x.1 (Int32.toNatClampNeg (10 + ((qf_ush w 24) &&& 7)))) + a)).1 0) + 2) + (qf_Pa_m w))) := by
  have hq : qb (qf_X_holds ((qf_ush w 15) &&& 7) ((x.1 (Int32.toNatClampNeg (10 + ((qf_ush w 24) &&& 7)))) + a) 0) := qf_X_holds_qb _ _ _
  simp only [qf_X_branch, qf_X_branch_j24, qf_X_branch_j133, qf_X_branch_j150, qf_X_branch_j186, qf_X_branch_j243, qd_br, qf_M_branchNullifies, hk, qf_Pa_n]
  rcases qp_n01 w with hn | hn
  · have hn : (qf_ush w 14) &&& 1 = 0 := hn
    generalize (qf_X_holds ((qf_ush w 15) &&& 7) ((x.1 (Int32.toNatClampNeg (10 + ((qf_ush w 24) &&& 7)))) + a) 0) = q at hq ⊢
    rcases hq with rfl | rfl <;> by_cases hz : qf_Pa_m w < 0 <;> simp [hn, hz]
  · have hn : (qf_ush w 14) &&& 1 = 1 := hn
    generalize (qf_X_holds ((qf_ush w 15) &&& 7) ((x.1 (Int32.toNatClampNeg (10 + ((qf_ush w 24) &&& 7)))) + a) 0) = q at hq ⊢
    rcases hq with rfl | rfl <;> by_cases hz : qf_Pa_m w < 0 <;> simp [hn, hz]
theorem qp_br16 (x : qs_X) (w a b : Int32) (hk : qf_Pa_kind w = 16) : qf_X_branch x w 16 a b (qf_Pa_m w) = qd_br x w (1 : Int32) (qf_X_place ((x.1 0) / 32) (a + (qf_Pa_m w))) := by
  simp only [qf_X_branch, qf_X_branch_j24, qf_X_branch_j133, qf_X_branch_j150, qf_X_branch_j186, qf_X_branch_j243, qd_br, qf_M_branchNullifies, hk, qf_Pa_n]
  rcases qp_n01 w with hn | hn
  · have hn : (qf_ush w 14) &&& 1 = 0 := hn
    simp [hn]
  · have hn : (qf_ush w 14) &&& 1 = 1 := hn
    simp [hn]
theorem qp_br17 (x : qs_X) (w a b : Int32) (hk : qf_Pa_kind w = 17) : qf_X_branch x w 17 a b (qf_Pa_m w) = qd_br x w (1 : Int32) (qf_X_place (x.1 (Int32.toNatClampNeg (18 + ((qf_ush w 18) &&& 3)))) (a + (qf_Pa_m w))) := by
  simp only [qf_X_branch, qf_X_branch_j24, qf_X_branch_j133, qf_X_branch_j150, qf_X_branch_j186, qf_X_branch_j243, qd_br, qf_M_branchNullifies, hk, qf_Pa_n]
  rcases qp_n01 w with hn | hn
  · have hn : (qf_ush w 14) &&& 1 = 0 := hn
    simp [hn]
  · have hn : (qf_ush w 14) &&& 1 = 1 := hn
    simp [hn]
theorem qp_w0 {m : qs_M} {x : qs_X} (h : qR m x.1) (w v : Int32) : (qf_X_write x ((qf_ush w 24) &&& 7) v).1 0 = x.1 0 := by
  have e := (qp_write h w v).1.1
  rw [← qp_home e, ← qp_home h.1, qp_setT_fl]
theorem qp_branch {m : qs_M} {x : qs_X} (h : qR m x.1) (hsy : x.2.2.2.2.2.2.2 = 0) {w : Int32} {j : Nat} (hk : qf_Pa_kind w = nI j) (h13 : 13 ≤ j) (hj : j < 18) {a b : Int32} (ha : qf_M_valueA m w = a) (hb : qf_M_valueB m w = b) : qS m x w (qf_X_branch x w (nI j) a b (qf_Pa_m w)) := by
  have hl := qp_link h.2.2.1
  have hbk := qp_bk h.1
  rcases (show j = 13 ∨ j = 14 ∨ j = 15 ∨ j = 16 ∨ j = 17 by omega) with rfl | rfl | rfl | rfl | rfl
  · have hk : qf_Pa_kind w = 13 := hk
    show qS m x w (qf_X_branch x w 13 a b (qf_Pa_m w))
    rw [qp_br13 x w a b hk]
    rw [qp_w0 h, hl, qp_tgt h.1]
    obtain ⟨r1, r2⟩ := qp_write h w (qf_Pl_offsetOf (qf_Pl_behind (x.1 1)))
    refine qp_bfin (x := x) (m := m) (w := w) r1 r2 hsy (qi_Pl _ _) (by simp [qf_M_causeOf, hk]) ?_
    simp only [qf_M_perform, qf_M_branch, qf_M_takesBranch, qf_M_targetOf, hk, ha, hb, qf_Pa_condition, qp_setT_fl, hbk]; simp
  · have hk : qf_Pa_kind w = 14 := hk
    show qS m x w (qf_X_branch x w 14 a b (qf_Pa_m w))
    rw [qp_br14 x w a b hk]
    rw [qp_tgt h.1, qp_holds]
    refine qp_bfin (x := x) (m := m) (w := w) h rfl hsy (qi_Pl _ _) (by simp [qf_M_causeOf, hk]) ?_
    by_cases hg : (qf_Co_holds ((qf_ush w 15) &&& 7) a b) = 0
    · simp only [qf_M_perform, qf_M_branch, qf_M_takesBranch, qf_M_targetOf, hk, ha, hb, qf_Pa_condition, qp_setT_fl, hbk]; simp [hg]
    · simp only [qf_M_perform, qf_M_branch, qf_M_takesBranch, qf_M_targetOf, hk, ha, hb, qf_Pa_condition, qp_setT_fl, hbk]; simp [hg]
  · have hk : qf_Pa_kind w = 15 := hk
    show qS m x w (qf_X_branch x w 15 a b (qf_Pa_m w))
    rw [qp_br15 x w a b hk]
    rw [qp_w0 h, qp_tgt h.1, qp_holds, ← qp_T h.1 w]
    obtain ⟨r1, r2⟩ := qp_write h w (qf_M_valueT m w + a)
    refine qp_bfin (x := x) (m := m) (w := w) r1 r2 hsy (qi_Pl _ _) (by simp [qf_M_causeOf, hk]) ?_
    by_cases hg : (qf_Co_holds ((qf_ush w 15) &&& 7) (qf_M_valueT m w + a) 0) = 0
    · simp only [qf_M_perform, qf_M_branch, qf_M_takesBranch, qf_M_targetOf, hk, ha, hb, qf_Pa_condition, qp_setT_fl, hbk]; simp [hg]
    · simp only [qf_M_perform, qf_M_branch, qf_M_takesBranch, qf_M_targetOf, hk, ha, hb, qf_Pa_condition, qp_setT_fl, hbk]; simp [hg]
  · have hk : qf_Pa_kind w = 16 := hk
    show qS m x w (qf_X_branch x w 16 a b (qf_Pa_m w))
    rw [qp_br16 x w a b hk]
    rw [qp_place]
    refine qp_bfin (x := x) (m := m) (w := w) h rfl hsy (qi_Pl _ _) (by simp [qf_M_causeOf, hk]) ?_
    simp only [qf_M_perform, qf_M_branch, qf_M_takesBranch, qf_M_targetOf, hk, ha, hb, qf_Pa_condition, qp_setT_fl, hbk]; simp [qp_home h.1, qf_Pl_spaceOf]
  · have hk : qf_Pa_kind w = 17 := hk
    show qS m x w (qf_X_branch x w 17 a b (qf_Pa_m w))
    rw [qp_br17 x w a b hk]
    rw [qp_place, ← qp_S h.1 w]
    refine qp_bfin (x := x) (m := m) (w := w) h rfl hsy (qi_Pl _ _) (by simp [qf_M_causeOf, hk]) ?_
    simp only [qf_M_perform, qf_M_branch, qf_M_takesBranch, qf_M_targetOf, hk, ha, hb, qf_Pa_condition, qp_setT_fl, hbk]; simp
