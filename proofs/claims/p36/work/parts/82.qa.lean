/-! the law's longs as integers, and what a call of a wrapper gives -/
def lI (z : Int) : Int64 := Int64.ofInt z
theorem lI_add (a b : Int) : lI a + lI b = lI (a + b) := (Int64.ofInt_add a b).symm
theorem lI_sub (a b : Int) : lI a - lI b = lI (a - b) := (Int64.ofInt_sub a b).symm
theorem lI_toInt {z : Int} (h1 : -9223372036854775808 ≤ z) (h2 : z < 9223372036854775808) : (lI z).toInt = z := Int64.toInt_ofInt_of_le h1 h2
theorem i_L (x : Int32) : x.toInt64 = lI x.toInt := by
  have h1 := Int32.toInt_lt x
  have h2 := Int32.le_toInt x
  refine Int64.toInt_inj.mp ?_
  rw [lI_toInt (by omega) (by omega)]
  exact Int32.toInt_toInt64 x
theorem nI_L {a : Nat} (h : a < 2147483648) : (nI a).toInt64 = lI (a : Int) := by rw [i_L, nI_toInt (by omega)]
theorem i_Lz {x : Int32} {z : Int} (h : x.toInt = z) : x.toInt64 = lI z := by rw [i_L, h]
theorem L_z {z : Int} {x : Int32} (h : x.toInt = z) : (lI z).toInt32 = x := by
  rw [← h, ← i_L]
  exact Int32.toInt32_toInt64 x
theorem L_n {a : Nat} (h : a < 2147483648) : (lI (a : Int)).toInt32 = nI a := L_z (nI_toInt (by omega))
theorem i32b (x : Int32) : -2147483648 ≤ x.toInt ∧ x.toInt < 2147483648 := ⟨Int32.le_toInt x, Int32.toInt_lt x⟩
theorem lI_div {a b : Int} (ha : 0 ≤ a) (hb : 0 < b) (ha2 : a < 4611686018427387904) (hb2 : b < 4611686018427387904) : lI a / lI b = lI (a / b) := by
  have h1 : 0 ≤ a / b := Int.ediv_nonneg ha (by omega)
  have h2 : a / b ≤ a := Int.ediv_le_self _ ha
  refine Int64.toInt_inj.mp ?_
  rw [Int64.toInt_div, lI_toInt (by omega) (by omega), lI_toInt (by omega) (by omega), lI_toInt (by omega) (by omega), Int.tdiv_eq_ediv_of_nonneg ha, Int.bmod_def]
  split <;> omega
theorem lI_rem {a b : Int} (ha : 0 ≤ a) (hb : 0 < b) (ha2 : a < 4611686018427387904) (hb2 : b < 4611686018427387904) : lI a - lI a / lI b * lI b = lI (a % b) := by
  rw [lI_div ha hb ha2 hb2, show lI (a / b) * lI b = lI (a / b * b) from (Int64.ofInt_mul _ _).symm, lI_sub]
  congr 1
  rw [Int.emod_def, Int.mul_comm]
theorem c_eq {a b : Int} (h : a = b) : lg_cmp (lI a) (lI b) = 0 := by
  subst h
  unfold lg_cmp
  rw [if_neg (fun h => by have h2 := Int64.lt_iff_toInt_lt.mp h; omega), if_pos rfl]
theorem c_lt {a b : Int} (h : a < b) (h1 : -9223372036854775808 ≤ a) (h2 : b < 9223372036854775808) : lg_cmp (lI a) (lI b) = -1 := by
  have e1 := lI_toInt (z := a) h1 (by omega)
  have e2 := lI_toInt (z := b) (by omega) h2
  unfold lg_cmp
  rw [if_neg (fun h => by have h2 := Int64.lt_iff_toInt_lt.mp h; omega), if_neg (fun h => by rw [h] at e1; omega)]
theorem c_gt {a b : Int} (h : b < a) (h1 : -9223372036854775808 ≤ b) (h2 : a < 9223372036854775808) : lg_cmp (lI a) (lI b) = 1 := by
  have e1 := lI_toInt (z := a) (by omega) h2
  have e2 := lI_toInt (z := b) h1 (by omega)
  unfold lg_cmp
  rw [if_pos (Int64.lt_iff_toInt_lt.mpr (by omega))]
theorem c_ne {a b : Int} (h : a ≠ b) (h1 : -9223372036854775808 ≤ a ∧ -9223372036854775808 ≤ b) (h2 : a < 9223372036854775808 ∧ b < 9223372036854775808) : ¬ lg_cmp (lI a) (lI b) = 0 := by
  rcases Int.lt_or_gt_of_ne h with h3 | h3
  · rw [c_lt h3 h1.1 h2.2]; decide
  · rw [c_gt h3 h1.2 h2.1]; decide
theorem c_ge {a b : Int} (h : b ≤ a) (h1 : -9223372036854775808 ≤ b) (h2 : a < 9223372036854775808) : ¬ lg_cmp (lI a) (lI b) < 0 := by
  rcases Int.lt_or_eq_of_le h with h3 | h3
  · rw [c_gt h3 h1 h2]; decide
  · rw [c_eq h3.symm]; decide
theorem c_le {a b : Int} (h : a ≤ b) (h1 : -9223372036854775808 ≤ a) (h2 : b < 9223372036854775808) : ¬ 0 < lg_cmp (lI a) (lI b) := by
  rcases Int.lt_or_eq_of_le h with h3 | h3
  · rw [c_lt h3 h1 h2]; decide
  · rw [c_eq h3]; decide
theorem nI_div {a b : Nat} (ha : a < 2147483648) (hb : b < 2147483648) : nI a / nI b = nI (a / b) := by
  refine Int32.toInt_inj.mp ?_
  have h1 : a / b ≤ a := Nat.div_le_self a b
  rw [Int32.toInt_div, nI_toInt (by omega), nI_toInt (by omega), nI_toInt (by omega), Int.tdiv_eq_ediv_of_nonneg (by omega)]
  have h2 : 0 ≤ (a : Int) / (b : Int) := Int.ediv_nonneg (by omega) (by omega)
  have h3 : (a : Int) / (b : Int) ≤ a := Int.ediv_le_self _ (by omega)
  have h4 : ((a / b : Nat) : Int) = (a : Int) / (b : Int) := rfl
  rw [h4]
  exact bmod_id (by omega) (by omega)
theorem nI_mul (a b : Nat) : nI a * nI b = nI (a * b) := (Int32.ofNat_mul a b).symm
theorem nI_rem {a b : Nat} (ha : a < 2147483648) (hb : b < 2147483648) : nI a - nI a / nI b * nI b = nI (a % b) := by
  have h1 : a / b * b ≤ a := Nat.div_mul_le_self a b
  rw [nI_div ha hb, nI_mul, nI_sub h1]
  congr 1
  have h2 := Nat.mod_add_div a b
  have h3 : b * (a / b) = a / b * b := Nat.mul_comm _ _
  omega
section EQS
variable {g g1 : sG} {q q1 : sQ} {r : Int64} {C : Int32 × Int32 × sG × sQ} {D : Int32 × sG × sQ} {v : Int32} {z : Int}
theorem eq_q (h : C = (0, v, g, q)) (hz : v.toInt = z) (e : (r, g1, q1) = (wl C.1 C.2.1, C.2.2.1, C.2.2.2)) : lI z = r ∧ g = g1 ∧ q = q1 := by
  subst h
  cases e
  exact ⟨(i_Lz hz).symm, rfl, rfl⟩
theorem eq_n1 (h : C = (1, v, g, q)) (e : (r, g1, q1) = (wl C.1 C.2.1, C.2.2.1, C.2.2.2)) : lI (-9000000000000000001) = r ∧ g = g1 ∧ q = q1 := by
  subst h
  cases e
  exact ⟨rfl, rfl, rfl⟩
theorem eq_n2 (h : C = (2, v, g, q)) (e : (r, g1, q1) = (wl C.1 C.2.1, C.2.2.1, C.2.2.2)) : lI (-9000000000000000002) = r ∧ g = g1 ∧ q = q1 := by
  subst h
  cases e
  exact ⟨rfl, rfl, rfl⟩
theorem eq_n3 (h : C = (3, v, g, q)) (e : (r, g1, q1) = (wl C.1 C.2.1, C.2.2.1, C.2.2.2)) : lI (-9000000000000000003) = r ∧ g = g1 ∧ q = q1 := by
  subst h
  cases e
  exact ⟨rfl, rfl, rfl⟩
theorem eq_v1 (h : D = (1, g, q)) (e : (r, g1, q1) = (wl D.1 0, D.2.1, D.2.2)) : lI (-9000000000000000001) = r ∧ g = g1 ∧ q = q1 := by
  subst h
  cases e
  exact ⟨rfl, rfl, rfl⟩
theorem eq_v2 (h : D = (2, g, q)) (e : (r, g1, q1) = (wl D.1 0, D.2.1, D.2.2)) : lI (-9000000000000000002) = r ∧ g = g1 ∧ q = q1 := by
  subst h
  cases e
  exact ⟨rfl, rfl, rfl⟩
theorem eq_v3 (h : D = (3, g, q)) (e : (r, g1, q1) = (wl D.1 0, D.2.1, D.2.2)) : lI (-9000000000000000003) = r ∧ g = g1 ∧ q = q1 := by
  subst h
  cases e
  exact ⟨rfl, rfl, rfl⟩
theorem eq_y (h : C.1 = 0) (hz : C.2.1.toInt = z) (e : (r, g1, q1) = (wl C.1 C.2.1, C.2.2.1, C.2.2.2)) : lI z = r ∧ C.2.2.1 = g1 ∧ C.2.2.2 = q1 := by
  obtain ⟨c, v, g2, q2⟩ := C
  dsimp only at h hz e ⊢
  subst h
  cases e
  exact ⟨(i_Lz hz).symm, rfl, rfl⟩
theorem eq_yv (h : D.1 = 0) (e : (r, g1, q1) = (wl D.1 0, D.2.1, D.2.2)) : lI 0 = r ∧ D.2.1 = g1 ∧ D.2.2 = q1 := by
  obtain ⟨c, g2, q2⟩ := D
  dsimp only at h e ⊢
  subst h
  cases e
  exact ⟨rfl, rfl, rfl⟩
end EQS
theorem lI_ne0 {z : Int} (h : 1 ≤ z) (h2 : z < 4611686018427387904) : ¬ lI z = 0 := fun e => by
  have h1 := congrArg Int64.toInt e
  rw [lI_toInt (by omega) (by omega)] at h1
  have h3 : (0 : Int64).toInt = 0 := rfl
  omega
