theorem qp_beh0 : ∀ j : Nat, j < 128 → qf_X_behind (nI j) = qf_Pl_behind (nI j) := by decide +kernel
theorem qp_beh {x : Int32} (h : vp_in x 128) : qf_X_behind x = qf_Pl_behind x := by
  obtain ⟨j, hj, rfl⟩ := vp_in_of h (by decide)
  exact qp_beh0 j hj
theorem qp_behIn (x : Int32) : vp_in (qf_Pl_behind x) 128 := qi_Pl _ _
theorem qp_link0 : ∀ j : Nat, j < 128 → ((nI j) + 1) &&& 31 = qf_Pl_offsetOf (qf_Pl_behind (nI j)) := by decide +kernel
theorem qp_link {x : Int32} (h : vp_in x 128) : (x + 1) &&& 31 = qf_Pl_offsetOf (qf_Pl_behind x) := by
  obtain ⟨j, hj, rfl⟩ := vp_in_of h (by decide)
  exact qp_link0 j hj
theorem qp_off0 : ∀ j : Nat, j < 128 → (nI j) &&& 31 = (qf_Pl_offsetOf (nI j)) &&& 31 := by decide +kernel
theorem qp_off {x : Int32} (h : vp_in x 128) : x &&& 31 = (qf_Pl_offsetOf x) &&& 31 := by
  obtain ⟨j, hj, rfl⟩ := vp_in_of h (by decide)
  exact qp_off0 j hj
theorem qp_trap0 : ∀ j : Nat, j < 7 → 4 * nI j = qf_Pl_of 0 (4 * nI j) ∧ 4 * nI j + 1 = qf_Pl_behind (qf_Pl_of 0 (4 * nI j)) := by decide +kernel
theorem qp_trapN {x : Int32} (h : vp_in x 7) : 4 * x = qf_Pl_of 0 (4 * x) ∧ 4 * x + 1 = qf_Pl_behind (qf_Pl_of 0 (4 * x)) := by
  obtain ⟨j, hj, rfl⟩ := vp_in_of h (by decide)
  exact qp_trap0 j hj
theorem qp_mod (x y : Int32) : (x + 32 * y) &&& 31 = x &&& 31 := by
  apply Int32.toBitVec_inj.mp
  apply BitVec.eq_of_toNat_eq
  rw [Int32.toBitVec_and, Int32.toBitVec_and, Int32.toBitVec_add, Int32.toBitVec_mul]
  rw [BitVec.toNat_and, BitVec.toNat_and, BitVec.toNat_add, BitVec.toNat_mul]
  have e1 : (31 : Int32).toBitVec.toNat = 2 ^ 5 - 1 := rfl
  have e2 : (32 : Int32).toBitVec.toNat = 32 := rfl
  rw [e1, e2, Nat.and_two_pow_sub_one_eq_mod, Nat.and_two_pow_sub_one_eq_mod]
  omega
theorem qp_target (x m : Int32) : ((x + 2) + m) &&& 31 = ((qf_Pl_offsetOf x + 2) + m) &&& 31 := by
  unfold qf_Pl_offsetOf
  have h : (x + 2) + m = (((x - (x / 32) * 32) + 2) + m) + 32 * (x / 32) := by
    rw [Int32.mul_comm 32 (x / 32)]
    generalize (x / 32) * 32 = z
    apply Int32.toBitVec_inj.mp
    simp only [Int32.toBitVec_add, Int32.toBitVec_sub]
    generalize x.toBitVec = X
    generalize m.toBitVec = M
    generalize z.toBitVec = Z
    generalize (2 : Int32).toBitVec = T
    rw [BitVec.sub_eq_add_neg]
    have : X + -Z + T + M + Z = X + T + M + (Z + -Z) := by ac_rfl
    rw [this, ← BitVec.sub_eq_add_neg, BitVec.sub_self, BitVec.add_zero]
  rw [h, qp_mod]
theorem qp_shr (v : Int32) : (v >>> ((1 : Int32) &&& 31)) &&& 1 = (qf_ush v 1) &&& 1 := by
  unfold qf_ush
  apply Int32.toBitVec_inj.mp
  rw [Int32.toBitVec_and, Int32.toBitVec_and]
  have e : ((1 : Int32) &&& 31) = 1 := by decide
  rw [e, Int32.toBitVec_shiftRight]
  have e1 : (((1 : Int32).toUInt32 &&& Int32.toUInt32 31)) = (1 : UInt32) := by decide
  rw [e1]
  have e2 : ((v.toUInt32 >>> (1 : UInt32)).toInt32).toBitVec = v.toBitVec >>> (1 : Nat) := by
    show (v.toUInt32 >>> (1 : UInt32)).toBitVec = _
    rw [UInt32.toBitVec_shiftRight]
    rfl
  rw [e2]
  have e3 : ((1 : Int32).toBitVec.smod 32) = 1#32 := by decide
  rw [e3]
  apply BitVec.eq_of_getLsbD_eq
  intro i hi
  rw [BitVec.getLsbD_and, BitVec.getLsbD_and]
  by_cases h : i = 0
  · subst h
    simp [BitVec.getElem_sshiftRight]
  · have : ((1 : Int32).toBitVec).getLsbD i = false := by
      show (1#32).getLsbD i = false
      rw [BitVec.getLsbD_one]
      simp [h]
    rw [this, Bool.and_false, Bool.and_false]
theorem qp_qb1 (x : Int32) : qb (x &&& 1) := by
  obtain ⟨j, hj, e⟩ := vp_in_of (qi_and1 x) (by decide)
  rw [e]
  have : j = 0 ∨ j = 1 := by omega
  rcases this with rfl | rfl
  · exact Or.inl rfl
  · exact Or.inr rfl
theorem qp_kind (w : Int32) : vp_in (qf_ush w 27) 32 := by
  rw [vp_in_iff]
  unfold qf_ush
  have e1 : (((27 : Int32).toUInt32 &&& Int32.toUInt32 31)) = (27 : UInt32) := by decide
  rw [e1]
  have h : (w.toUInt32 >>> (27 : UInt32)).toNat < 32 := by
    rw [UInt32.toNat_shiftRight]
    have := w.toUInt32.toNat_lt
    have e : (27 : UInt32).toNat % 32 = 27 := rfl
    rw [e, Nat.shiftRight_eq_div_pow]
    omega
  have h2 : ((w.toUInt32 >>> (27 : UInt32)).toInt32).toInt = ((w.toUInt32 >>> (27 : UInt32)).toNat : Int) := by
    generalize w.toUInt32 >>> (27 : UInt32) = u at h
    show u.toBitVec.toInt = _
    rw [BitVec.toInt_eq_toNat_of_lt]
    · rfl
    · show 2 * u.toNat < 2 ^ 32
      omega
  rw [h2]
  omega
