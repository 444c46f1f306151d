abbrev qs_F : Type := Int32 × Int32 × Int32 × Int32
abbrev qs_M : Type := (Nat → Int32) × (Nat → Int32) × (Nat → Int32) × qs_F × qs_F × Int32 × Int32
abbrev qs_Q : Type := (Nat → Int32) × (Nat → Int32) × qs_M × qs_M × Int32
abbrev qs_X : Type := (Nat → Int32) × (Nat → Int32) × Int32 × (Nat → Int32) × (Nat → Int32) × Int32 × Int32 × Int32
abbrev qa (ad : Nat → Nat) (n : Nat) : Nat → Nat := fun k => ad (n + k)
abbrev qm_F_a (st : qs_F) (x : Int32) : qs_F := (x, st.2.1, st.2.2.1, st.2.2.2)
abbrev qm_F_b (st : qs_F) (x : Int32) : qs_F := (st.1, x, st.2.2.1, st.2.2.2)
abbrev qm_F_n (st : qs_F) (x : Int32) : qs_F := (st.1, st.2.1, x, st.2.2.2)
abbrev qm_F_l (st : qs_F) (x : Int32) : qs_F := (st.1, st.2.1, st.2.2.1, x)
abbrev qm_M_rg (st : qs_M) (x : Nat → Int32) : qs_M := (x, st.2.1, st.2.2.1, st.2.2.2.1, st.2.2.2.2.1, st.2.2.2.2.2.1, st.2.2.2.2.2.2)
abbrev qm_M_sp (st : qs_M) (x : Nat → Int32) : qs_M := (st.1, x, st.2.2.1, st.2.2.2.1, st.2.2.2.2.1, st.2.2.2.2.2.1, st.2.2.2.2.2.2)
abbrev qm_M_dt (st : qs_M) (x : Nat → Int32) : qs_M := (st.1, st.2.1, x, st.2.2.2.1, st.2.2.2.2.1, st.2.2.2.2.2.1, st.2.2.2.2.2.2)
abbrev qm_M_fl (st : qs_M) (x : qs_F) : qs_M := (st.1, st.2.1, st.2.2.1, x, st.2.2.2.2.1, st.2.2.2.2.2.1, st.2.2.2.2.2.2)
abbrev qm_M_sv (st : qs_M) (x : qs_F) : qs_M := (st.1, st.2.1, st.2.2.1, st.2.2.2.1, x, st.2.2.2.2.2.1, st.2.2.2.2.2.2)
abbrev qm_M_cs (st : qs_M) (x : Int32) : qs_M := (st.1, st.2.1, st.2.2.1, st.2.2.2.1, st.2.2.2.2.1, x, st.2.2.2.2.2.2)
abbrev qm_M_pd (st : qs_M) (x : Int32) : qs_M := (st.1, st.2.1, st.2.2.1, st.2.2.2.1, st.2.2.2.2.1, st.2.2.2.2.2.1, x)
abbrev qm_Q_co (st : qs_Q) (x : Nat → Int32) : qs_Q := (x, st.2.1, st.2.2.1, st.2.2.2.1, st.2.2.2.2)
abbrev qm_Q_cn (st : qs_Q) (x : Nat → Int32) : qs_Q := (st.1, x, st.2.2.1, st.2.2.2.1, st.2.2.2.2)
abbrev qm_Q_m (st : qs_Q) (x : qs_M) : qs_Q := (st.1, st.2.1, x, st.2.2.2.1, st.2.2.2.2)
abbrev qm_Q_k (st : qs_Q) (x : qs_M) : qs_Q := (st.1, st.2.1, st.2.2.1, x, st.2.2.2.2)
abbrev qm_Q_rm (st : qs_Q) (x : Int32) : qs_Q := (st.1, st.2.1, st.2.2.1, st.2.2.2.1, x)
abbrev qm_X_g (st : qs_X) (x : Nat → Int32) : qs_X := (x, st.2.1, st.2.2.1, st.2.2.2.1, st.2.2.2.2.1, st.2.2.2.2.2.1, st.2.2.2.2.2.2.1, st.2.2.2.2.2.2.2)
abbrev qm_X_h (st : qs_X) (x : Nat → Int32) : qs_X := (st.1, x, st.2.2.1, st.2.2.2.1, st.2.2.2.2.1, st.2.2.2.2.2.1, st.2.2.2.2.2.2.1, st.2.2.2.2.2.2.2)
abbrev qm_X_mk (st : qs_X) (x : Int32) : qs_X := (st.1, st.2.1, x, st.2.2.2.1, st.2.2.2.2.1, st.2.2.2.2.2.1, st.2.2.2.2.2.2.1, st.2.2.2.2.2.2.2)
abbrev qm_X_co (st : qs_X) (x : Nat → Int32) : qs_X := (st.1, st.2.1, st.2.2.1, x, st.2.2.2.2.1, st.2.2.2.2.2.1, st.2.2.2.2.2.2.1, st.2.2.2.2.2.2.2)
abbrev qm_X_cn (st : qs_X) (x : Nat → Int32) : qs_X := (st.1, st.2.1, st.2.2.1, st.2.2.2.1, x, st.2.2.2.2.2.1, st.2.2.2.2.2.2.1, st.2.2.2.2.2.2.2)
abbrev qm_X_nu (st : qs_X) (x : Int32) : qs_X := (st.1, st.2.1, st.2.2.1, st.2.2.2.1, st.2.2.2.2.1, x, st.2.2.2.2.2.2.1, st.2.2.2.2.2.2.2)
abbrev qm_X_tg (st : qs_X) (x : Int32) : qs_X := (st.1, st.2.1, st.2.2.1, st.2.2.2.1, st.2.2.2.2.1, st.2.2.2.2.2.1, x, st.2.2.2.2.2.2.2)
abbrev qm_X_sy (st : qs_X) (x : Int32) : qs_X := (st.1, st.2.1, st.2.2.1, st.2.2.2.1, st.2.2.2.2.1, st.2.2.2.2.2.1, st.2.2.2.2.2.2.1, x)
abbrev qw_F (h : Nat) (st : qs_F) : va_W := [(h, .inr (2, [.int st.1, .int st.2.1, .int st.2.2.1, .int st.2.2.2]))]
abbrev qw_M (ad : Nat → Nat) (cA : ClassId) (st : qs_M) : va_W := [(ad 0, .inr (1, [.ref (ad 1), .ref (ad 2), .ref (ad 3), .ref (ad 4), .ref (ad 5), .int st.2.2.2.2.2.1, .int st.2.2.2.2.2.2])), (ad 1, .inl (cA, 8, .inl st.1)), (ad 2, .inl (cA, 4, .inl st.2.1)), (ad 3, .inl (cA, 64, .inl st.2.2.1)), (ad 4, .inr (2, [.int st.2.2.2.1.1, .int st.2.2.2.1.2.1, .int st.2.2.2.1.2.2.1, .int st.2.2.2.1.2.2.2])), (ad 5, .inr (2, [.int st.2.2.2.2.1.1, .int st.2.2.2.2.1.2.1, .int st.2.2.2.2.1.2.2.1, .int st.2.2.2.2.1.2.2.2]))]
abbrev qw_Q (ad : Nat → Nat) (cA : ClassId) (st : qs_Q) : va_W := [(ad 0, .inr (0, [.ref (ad 1), .ref (ad 2), .ref (ad 3), .ref (ad 9), .int st.2.2.2.2])), (ad 1, .inl (cA, 128, .inl st.1)), (ad 2, .inl (cA, 7, .inl st.2.1)), (ad 3, .inr (1, [.ref (ad 4), .ref (ad 5), .ref (ad 6), .ref (ad 7), .ref (ad 8), .int st.2.2.1.2.2.2.2.2.1, .int st.2.2.1.2.2.2.2.2.2])), (ad 4, .inl (cA, 8, .inl st.2.2.1.1)), (ad 5, .inl (cA, 4, .inl st.2.2.1.2.1)), (ad 6, .inl (cA, 64, .inl st.2.2.1.2.2.1)), (ad 7, .inr (2, [.int st.2.2.1.2.2.2.1.1, .int st.2.2.1.2.2.2.1.2.1, .int st.2.2.1.2.2.2.1.2.2.1, .int st.2.2.1.2.2.2.1.2.2.2])), (ad 8, .inr (2, [.int st.2.2.1.2.2.2.2.1.1, .int st.2.2.1.2.2.2.2.1.2.1, .int st.2.2.1.2.2.2.2.1.2.2.1, .int st.2.2.1.2.2.2.2.1.2.2.2])), (ad 9, .inr (1, [.ref (ad 10), .ref (ad 11), .ref (ad 12), .ref (ad 13), .ref (ad 14), .int st.2.2.2.1.2.2.2.2.2.1, .int st.2.2.2.1.2.2.2.2.2.2])), (ad 10, .inl (cA, 8, .inl st.2.2.2.1.1)), (ad 11, .inl (cA, 4, .inl st.2.2.2.1.2.1)), (ad 12, .inl (cA, 64, .inl st.2.2.2.1.2.2.1)), (ad 13, .inr (2, [.int st.2.2.2.1.2.2.2.1.1, .int st.2.2.2.1.2.2.2.1.2.1, .int st.2.2.2.1.2.2.2.1.2.2.1, .int st.2.2.2.1.2.2.2.1.2.2.2])), (ad 14, .inr (2, [.int st.2.2.2.1.2.2.2.2.1.1, .int st.2.2.2.1.2.2.2.2.1.2.1, .int st.2.2.2.1.2.2.2.2.1.2.2.1, .int st.2.2.2.1.2.2.2.2.1.2.2.2]))]
abbrev qw_X (ad : Nat → Nat) (cA : ClassId) (st : qs_X) : va_W := [(ad 0, .inr (3, [.ref (ad 1), .ref (ad 2), .int st.2.2.1, .ref (ad 3), .ref (ad 4), .int st.2.2.2.2.2.1, .int st.2.2.2.2.2.2.1, .int st.2.2.2.2.2.2.2])), (ad 1, .inl (cA, 86, .inl st.1)), (ad 2, .inl (cA, 86, .inl st.2.1)), (ad 3, .inl (cA, 128, .inl st.2.2.2.1)), (ad 4, .inl (cA, 7, .inl st.2.2.2.2.1))]
/-! numbers: what stands in an index, what is 0 or 1 -/
def qf_ush (x y : Int32) : Int32 := (x.toUInt32 >>> (y.toUInt32 &&& Int32.toUInt32 31)).toInt32
def qb (x : Int32) : Prop := x = 0 ∨ x = 1
theorem qb_nar {x : Int32} (h : qb x) : narrow .boolean (.int x) = .int x := by
  rcases h with rfl | rfl <;> rfl
theorem qb_fit {x : Int32} (h : qb x) : fits .boolean (.int x) = true := by
  rcases h with rfl | rfl <;> rfl
theorem qb_0 : qb 0 := Or.inl rfl
theorem qb_1 : qb 1 := Or.inr rfl
theorem qb_ite {c : Prop} [Decidable c] {x y : Int32} (hx : qb x) (hy : qb y) : qb (if c then x else y) := by
  by_cases h : c
  · rw [if_pos h]; exact hx
  · rw [if_neg h]; exact hy
theorem qi_of_nI {a : Int32} {k : Nat} (h : a.toInt = k) (hk : k < 2 ^ 31) : a = nI k := Int32.toInt_inj.mp (by rw [h, nI_toInt hk])
theorem qi_and1 (x : Int32) : vp_in (x &&& 1) 2 := pk_andIn x 1 (by decide) (by decide)
theorem qi_and3 (x : Int32) : vp_in (x &&& 3) 4 := pk_andIn x 2 (by decide) (by decide)
theorem qi_and7 (x : Int32) : vp_in (x &&& 7) 8 := pk_andIn x 3 (by decide) (by decide)
theorem qi_and31 (x : Int32) : vp_in (x &&& 31) 32 := pk_andIn x 5 (by decide) (by decide)
theorem qi_wide {x : Int32} {n N : Nat} (h : vp_in x n) (hN : n ≤ N) : vp_in x N := by
  rw [vp_in_iff] at h ⊢
  omega
theorem qi_add {a x : Int32} {n : Nat} (k N : Nat) (ha : a.toInt = k) (hx : vp_in x n) (h : k + n ≤ N) (hN : N < 2 ^ 31) : vp_in (a + x) N := by
  obtain ⟨j, hj, rfl⟩ := vp_in_of hx (by omega)
  rw [qi_of_nI ha (by omega), nI_add]
  exact vp_in_nI (by omega) hN
theorem qi_mul {a x : Int32} {n : Nat} (k N : Nat) (ha : a.toInt = k) (hx : vp_in x n) (h : k * n ≤ N) (h0 : 0 < k) (hn : n < 2 ^ 31) (hN : N < 2 ^ 31) : vp_in (a * x) N := by
  obtain ⟨j, hj, rfl⟩ := vp_in_of hx hn
  rw [qi_of_nI ha (by
    have : k * 1 ≤ k * n := Nat.mul_le_mul_left k (by omega)
    omega), pk_mul]
  refine vp_in_nI ?_ hN
  have : k * j < k * n := Nat.mul_lt_mul_of_pos_left hj h0
  omega
/-- a place of space and offset, as an index -/
theorem qi_row {x y : Int32} {a b : Nat} (k N : Nat) (hx : vp_in x a) (hy : vp_in y b) (hb : b ≤ k) (hk : k < 2 ^ 20) (ha : a < 2 ^ 10) (hN : a * k ≤ N) (hN2 : N < 2 ^ 31) {c : Int32} (hc : c.toInt = k) : vp_in (x * c + y) N := by
  obtain ⟨i, hi, rfl⟩ := vp_in_of hx (by omega)
  obtain ⟨j, hj, rfl⟩ := vp_in_of hy (by omega)
  rw [qi_of_nI hc (by omega), pk_mul, nI_add]
  refine vp_in_nI ?_ hN2
  have : i * k + k ≤ a * k := by
    have := Nat.mul_le_mul_right k (show i + 1 ≤ a from hi)
    rw [Nat.add_mul, Nat.one_mul] at this
    exact this
  omega
theorem qi_mulC (x y : Int32) : x * y = y * x := Int32.mul_comm x y
theorem qi_lit {x : Int32} {n : Nat} (h : decide (¬ (x < 0 ∨ n ≤ x.toNatClampNeg)) = true) : vp_in x n := (of_decide_eq_true h : ¬ (x < 0 ∨ n ≤ x.toNatClampNeg))
theorem qi_lt {x : Int32} {n : Nat} (h : vp_in x n) : x.toNatClampNeg < n := Nat.lt_of_not_le (fun q => h (Or.inr q))
theorem qi_le {x : Int32} {n : Nat} {c : Int32} (hc : c.toInt = n) (h0 : ¬ x < 0) (h1 : ¬ c < x) : vp_in x (n + 1) := by
  rw [vp_in_iff]
  rw [Int32.lt_iff_toInt_lt] at h0 h1
  rw [hc] at h1
  have : (0 : Int32).toInt = 0 := rfl
  omega
theorem qi_ge {x : Int32} {n : Nat} {c : Int32} (hc : c.toInt = n) (h0 : ¬ x < 0) (h1 : ¬ c ≤ x) : vp_in x n := by
  rw [vp_in_iff]
  rw [Int32.lt_iff_toInt_lt] at h0
  rw [Int32.le_iff_toInt_le, hc] at h1
  have : (0 : Int32).toInt = 0 := rfl
  omega
theorem qi_ite {x c : Int32} {n : Nat} (hc : c.toInt = n) (h : ¬ (if x < 0 then (0 : Int32) else if c ≤ x then 0 else 1) = 0) : vp_in x n := by
  by_cases h0 : x < 0
  · rw [if_pos h0] at h; exact absurd rfl h
  · rw [if_neg h0] at h
    by_cases h1 : c ≤ x
    · rw [if_pos h1] at h; exact absurd rfl h
    · exact qi_ge hc h0 h1
theorem qi_if {c : Prop} [Decidable c] {x y : Int32} {n : Nat} (hx : vp_in x n) (hy : vp_in y n) : vp_in (if c then x else y) n := by
  by_cases h : c
  · rw [if_pos h]; exact hx
  · rw [if_neg h]; exact hy
