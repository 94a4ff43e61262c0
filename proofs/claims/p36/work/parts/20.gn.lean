theorem vp_in_below {x a : Int32} {n N : Nat} (ha : a = nI n) (hn : n ≤ N) (hN : N < 2 ^ 30) (h : 0 ≤ x ∧ x ≤ a - 1) : vp_in x N := by
  have h1 := Int32.le_iff_toInt_le.mp h.1
  have h2 := Int32.le_iff_toInt_le.mp h.2
  have h3 : (a - 1).toInt = (n : Int) - 1 := by
    rw [ha, show (1 : Int32) = nI 1 from rfl, pk_sub_toInt (by omega) (by decide)]
    omega
  rw [h3] at h2
  refine vp_in_iff.mpr ⟨h1, ?_⟩
  omega
theorem vp_in_full {a : Int32} {n N : Nat} (ha : a = nI n) (hn : n ≤ N) (hN : N < 2 ^ 31) (h : ¬ a = nI N) : vp_in a N := by
  rw [ha] at h ⊢
  have : n ≠ N := fun e => h (by rw [e])
  exact vp_in_nI (by omega) hN
theorem t2_1 {α β : Type} {x : α × β} {a : α} {b : β} (h : x = (a, b)) : x.1 = a := by rw [h]
theorem t2_2 {α β : Type} {x : α × β} {a : α} {b : β} (h : x = (a, b)) : x.2 = b := by rw [h]
theorem t3_1 {α β γ : Type} {x : α × β × γ} {a : α} {b : β} {c : γ} (h : x = (a, b, c)) : x.1 = a := by rw [h]
theorem t3_2 {α β γ : Type} {x : α × β × γ} {a : α} {b : β} {c : γ} (h : x = (a, b, c)) : x.2.1 = b := by rw [h]
theorem t3_3 {α β γ : Type} {x : α × β × γ} {a : α} {b : β} {c : γ} (h : x = (a, b, c)) : x.2.2 = c := by rw [h]
theorem cnt_of {a : Int32} {M : Nat} (h : ∃ t, t ≤ M ∧ a = nI t) (hM : M < 2 ^ 31) : a = nI a.toNatClampNeg ∧ a.toNatClampNeg ≤ M := by
  obtain ⟨t, h1, h2⟩ := h
  have h3 : a.toNatClampNeg = t := by rw [h2]; exact nI_clamp (by omega)
  rw [h3]
  exact ⟨h2, h1⟩
theorem loop_exit {a : Int32} {N k : Nat} (ha : a = nI N) (hN : N < 2 ^ 31) (hi : k ≤ N) (c : a ≤ nI k) : N = k := by
  rw [ha] at c
  have := (nI_leI hN (by omega)).mp c
  omega
theorem loop_in {a : Int32} {N k : Nat} (ha : a = nI N) (hN : N < 2 ^ 31) (hi : k ≤ N) (c : ¬ a ≤ nI k) : k < N := by
  rw [ha] at c
  have := mt (nI_leI hN (by omega)).mpr c
  omega
theorem int_lt {a b : Int32} {A B k : Nat} (ha : a = nI A) (hb : b = nI B) (hA : A ≤ 5000) (hB : B ≤ A) (hk : k ≤ (A - B) / 14 + 1) : a < b + 14 * nI k ↔ A < B + 14 * k := by
  rw [ha, hb, show (14 : Int32) = nI 14 from rfl, pk_mul, nI_add]
  exact nI_ltI (by omega) (by omega)
theorem b_01 {x : Int32} (h : x = 0 ∨ x = 1) : x &&& 1 = x := by
  rcases h with h | h <;> rw [h] <;> rfl
theorem nI_self {x : Int32} (h : 0 ≤ x) : x = nI x.toNatClampNeg := by
  obtain ⟨j, h1, h2⟩ := nI_of (Int32.not_lt.mpr h)
  rw [h2, nI_clamp h1]
