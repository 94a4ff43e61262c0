theorem up_id {α : Type} (g : Nat → Nat → α) (o k : Nat) : sy_up g o k (g o k) = g := by
  funext a b
  rw [sy_up_a]
  split
  · rename_i h
    rw [h.1, h.2]
  · rfl
theorem up_cm {α : Type} (g : Nat → Nat → α) {o k o' k' : Nat} (v v' : α) (h : o ≠ o' ∨ k ≠ k') : sy_up (sy_up g o k v) o' k' v' = sy_up (sy_up g o' k' v') o k v := by
  funext a b
  rw [sy_up_a, sy_up_a, sy_up_a, sy_up_a]
  by_cases h1 : a = o ∧ b = k
  · have h2 : ¬ (a = o' ∧ b = k') := by omega
    simp only [if_pos h1, if_neg h2]
  · simp only [if_neg h1]
theorem up_up {α : Type} (g : Nat → Nat → α) (o k : Nat) (v v' : α) : sy_up (sy_up g o k v) o k v' = sy_up g o k v' := by
  funext a b
  rw [sy_up_a, sy_up_a, sy_up_a]
  by_cases h1 : a = o ∧ b = k
  · rw [if_pos h1, if_pos h1]
  · rw [if_neg h1, if_neg h1, if_neg h1]
theorem msum_at {f : Nat → Int32} {k : Nat} {x : Int32} : ∀ n : Nat, k < n → msum (va_up f k (f k + x)) n = msum f n + x
  | 0, h => by omega
  | n + 1, h => by
    show msum (va_up f k (f k + x)) n + va_up f k (f k + x) n = msum f n + f n + x
    by_cases hk : k = n
    · subst hk
      rw [va_up_self, msum_c k (f := va_up f k (f k + x)) (f' := f) (fun j hj => va_up_ne _ _ (by omega)), Int32.add_assoc]
    · rw [msum_at n (by omega), va_up_ne _ _ (by omega), Int32.add_assoc, Int32.add_assoc, Int32.add_comm x]
theorem msum_push {f : Nat → Int32} {n : Nat} {x : Int32} : msum (va_up f n x) (n + 1) = msum f n + x := by
  show msum (va_up f n x) n + va_up f n x n = _
  rw [va_up_self, msum_c n (f := va_up f n x) (f' := f) (fun j hj => va_up_ne _ _ (by omega))]
theorem lX5_msum {g : sG} {q : sQ} : ∀ n : Nat, lX5_sum g q n = msum (g 78) n
  | 0 => rfl
  | n + 1 => by
    show lX5_sum g q n + g 78 n = msum (g 78) n + g 78 n
    rw [lX5_msum n]
theorem bm_le (x : Int) : (Int.bmod x (2 ^ 32)).natAbs ≤ x.natAbs := by
  rw [Int.bmod_def]
  split <;> omega
theorem add_abs (a x : Int32) : (a + x).toInt.natAbs ≤ a.toInt.natAbs + x.toInt.natAbs := by
  rw [Int32.toInt_add]
  have := bm_le (a.toInt + x.toInt)
  omega
theorem ssum_le {f : Nat → Int32} {k : Nat} : ∀ n : Nat, k < n → (f k).toInt.natAbs ≤ ssum f n
  | 0, h => by omega
  | n + 1, h => by
    show _ ≤ ssum f n + _
    by_cases hk : k = n
    · subst hk; omega
    · have := ssum_le (f := f) n (show k < n by omega)
      omega
theorem ssum_up {f : Nat → Int32} {k : Nat} {v : Int32} : ∀ n : Nat, k < n → ssum (va_up f k v) n + (f k).toInt.natAbs = ssum f n + v.toInt.natAbs
  | 0, h => by omega
  | n + 1, h => by
    show ssum (va_up f k v) n + (va_up f k v n).toInt.natAbs + _ = ssum f n + _ + _
    by_cases hk : k = n
    · subst hk
      rw [va_up_self, ssum_c k (f := va_up f k v) (f' := f) (fun j hj => va_up_ne _ _ (by omega))]
      omega
    · have := ssum_up (f := f) (v := v) n (show k < n by omega)
      rw [va_up_ne _ _ (by omega)]
      omega
section MIC
variable {B m5 m6 nT nK cT cK : Nat} {gc : sG} {q : sQ} {gm : sG}
theorem inv_K (h : INV B m5 m6 nT nK cT cK gc q gm) : nK ≤ 40 := h.2.1.2.2.2.1
theorem inv_T (h : INV B m5 m6 nT nK cT cK gc q gm) : nT ≤ 40 := h.2.1.2.1
/-- money comes in or goes out: both keep the sum, the class the move too -/
theorem inv_move {x : Int32} {X : Nat} (q' : sQ) (hx : x.toInt.natAbs ≤ X) (h : INV B m5 m6 nT nK cT cK gc q gm) : INV (B + X) m5 m6 nT nK cT cK (fX5_move gc q' x) q (sy_up gm 0 44 (gm 0 44 + x)) := by
  obtain ⟨hR, hI, k3, k4, k5, k6, k7, k8, k9, k10⟩ := h
  have hT := hI.2.1
  have e44 : gc 68 0 = gm 0 44 := rd hR (a := 0) (b := 44) rfl
  obtain ⟨h1, h2, h3, h4, h5, h6, ⟨m, hm, h7, h8⟩, h9, h10, h11⟩ := k3
  have kA4 : A4 (B + X) nT nK (sy_up gm 0 44 (gm 0 44 + x)) := by
    refine ⟨fun i hi => ?_, fun j hj => ?_, fun j hj => ?_, fun k hk => ?_, ?_⟩
    · simp only [up_ne gm _ (show 7 ≠ 0 ∨ i ≠ 44 by omega), up_ne gm _ (show 8 ≠ 0 ∨ i ≠ 44 by omega), up_ne gm _ (show 9 ≠ 0 ∨ i ≠ 44 by omega), up_ne gm _ (show 12 ≠ 0 ∨ i ≠ 44 by omega), up_ne gm _ (show 13 ≠ 0 ∨ i ≠ 44 by omega)]
      exact k4.1 i hi
    · simp only [up_ne gm _ (show 39 ≠ 0 ∨ j ≠ 44 by omega), up_ne gm _ (show 40 ≠ 0 ∨ j ≠ 44 by omega), up_ne gm _ (show 43 ≠ 0 ∨ j ≠ 44 by omega), up_ne gm _ (show 41 ≠ 0 ∨ j ≠ 44 by omega)]
      exact k4.2.1 j hj
    · rw [up_ne gm _ (by omega)]; exact k4.2.2.1 j hj
    · rw [up_ne gm _ (by omega)]; exact k4.2.2.2.1 k hk
    · rw [sy_up_e, sy_up_o gm _ _ (by omega)]
      exact Nat.le_trans (Nat.add_le_add_right (add_abs (gm 0 44) x) _) (by rw [Nat.add_right_comm]; exact Nat.add_le_add k4.2.2.2.2 hx)
  unfold fX5_move
  by_cases hf : 600 ≤ gc 68 4
  · rw [if_pos hf]
    have hm6 : m = 600 := by
      rw [h7] at hf
      have := (nI_leI (a := 600) (b := m) (by decide) (by omega)).mp hf
      omega
    subst hm6
    refine ⟨Rx_n rfl (Rx_1 (a := 0) (b := 44) rfl (Rx_m (by simp) (Rx_w hR)) (by rw [sy_up_e, e44])), im_0 (by decide) hI, ⟨by rw [up_ne _ _ (by omega), up_ne _ _ (by omega)]; exact h1, h2, h3, by rw [up_ne _ _ (by omega), up_ne _ _ (by omega)]; exact h4, h5, h6, ⟨600, hm, by rw [up_ne _ _ (by omega), up_ne _ _ (by omega)]; exact h7, ?_⟩, fun i hi => by rw [up_ne _ _ (by omega), up_ne _ _ (by omega)]; exact h9 i hi, fun i hi => by rw [up_ne _ _ (by omega), up_ne _ _ (by omega)]; exact h10 i hi, fun i hi => by rw [up_ne _ _ (by omega), up_ne _ _ (by omega)]; exact h11 i hi⟩, kA4, A5_c hT (by omega) (A5_c hT (by omega) (A5_m (by omega) k5)), A6_c (by omega) (A6_c (by omega) (A6_m (by omega) k6)), A7_c (by omega) (A7_c (by omega) (A7_m (by omega) k7)), k8, B9_m (by omega) k9, B10_m (by omega) k10⟩
    rw [up_ne _ _ (by omega), sy_up_e, sy_up_s, sy_up_o _ _ _ (by omega), msum_at 600 (by omega), h8]
  · rw [if_neg hf]
    have hm6 : m < 600 := by
      rw [h7] at hf
      have h600 : ¬ 600 ≤ m := fun z => hf ((nI_leI (a := 600) (b := m) (by decide) (by omega)).mpr z)
      omega
    have hcl : (gc 68 4).toNatClampNeg = m := by rw [h7]; exact nI_clamp (by omega)
    rw [hcl]
    refine ⟨Rx_n rfl (Rx_n rfl (Rx_1 (a := 0) (b := 44) rfl (Rx_m (by simp) (Rx_w hR)) (by rw [sy_up_e, e44]))), im_0 (by decide) hI, ⟨by rw [up_ne _ _ (by omega), up_ne _ _ (by omega), up_ne _ _ (by omega)]; exact h1, h2, h3, by rw [up_ne _ _ (by omega), up_ne _ _ (by omega), up_ne _ _ (by omega)]; exact h4, h5, h6, ⟨m + 1, by omega, by rw [sy_up_e, h7, nI_1], ?_⟩, fun i hi => by rw [up_ne _ _ (by omega), up_ne _ _ (by omega), up_ne _ _ (by omega)]; exact h9 i hi, fun i hi => by rw [up_ne _ _ (by omega), up_ne _ _ (by omega), up_ne _ _ (by omega)]; exact h10 i hi, fun i hi => by rw [up_ne _ _ (by omega), up_ne _ _ (by omega), up_ne _ _ (by omega)]; exact h11 i hi⟩, kA4, A5_c hT (by omega) (A5_c hT (by omega) (A5_c hT (by omega) (A5_m (by omega) k5))), A6_c (by omega) (A6_c (by omega) (A6_c (by omega) (A6_m (by omega) k6))), A7_c (by omega) (A7_c (by omega) (A7_c (by omega) (A7_m (by omega) k7))), k8, B9_m (by omega) k9, B10_m (by omega) k10⟩
    rw [up_ne _ _ (by omega), up_ne _ _ (by omega), sy_up_e, sy_up_o _ _ _ (by omega), sy_up_s, sy_up_o _ _ _ (by omega), msum_push, h8]
/-- a loan, within its bounds -/
theorem inv_loan {j : Nat} {v : Int32} (hj : j < nK) (h0 : 0 ≤ v.toInt) (h1 : v.toInt ≤ 100000) (h : INV B m5 m6 nT nK cT cK gc q gm) : INV B m5 m6 nT nK cT cK (sy_up gc (200 + j) 8 v) q (sy_up gm 35 j v) := by
  have hK := inv_K h
  obtain ⟨hR, hI, k3, k4, k5, k6, k7, k8, k9, k10⟩ := h
  refine ⟨Rx_p (if_pos (by omega)) hR, im_o (by decide) hI, A3_up (by omega) k3, ⟨fun i hi => ?_, fun i hi => ?_, fun i hi => ?_, fun k hk => ?_, ?_⟩, A5_c hI.2.1 (by omega) (A5_m (by decide) k5), A6_c (by omega) (A6_m (by omega) k6), A7_c (by omega) (A7_m (by omega) k7), k8, B9_m (by decide) k9, B10_m (by decide) k10⟩
  · simp only [sy_up_o gm j v (show 7 ≠ 35 by decide), sy_up_o gm j v (show 8 ≠ 35 by decide), sy_up_o gm j v (show 9 ≠ 35 by decide), sy_up_o gm j v (show 12 ≠ 35 by decide), sy_up_o gm j v (show 13 ≠ 35 by decide)]
    exact k4.1 i hi
  · simp only [sy_up_o gm j v (show 39 ≠ 35 by decide), sy_up_o gm j v (show 40 ≠ 35 by decide), sy_up_o gm j v (show 43 ≠ 35 by decide), sy_up_o gm j v (show 41 ≠ 35 by decide)]
    exact k4.2.1 i hi
  · rw [sy_up_a]
    split
    · exact ⟨h0, h1⟩
    · exact k4.2.2.1 i hi
  · rw [up_ne gm _ (by omega)]; exact k4.2.2.2.1 k hk
  · rw [up_ne gm _ (by omega), sy_up_o gm _ _ (by omega)]; exact k4.2.2.2.2
/-- a ticket begins today -/
theorem inv_began {j : Nat} (hj : j < nK) (h : INV B m5 m6 nT nK cT cK gc q gm) : INV B m5 m6 nT nK cT cK (sy_up gc (200 + j) 9 (gc 60 9)) q (sy_up gm 37 j (gm 0 1)) := by
  have hK := inv_K h
  obtain ⟨hR, hI, k3, k4, k5, k6, k7, k8, k9, k10⟩ := h
  have e : gc 60 9 = gm 0 1 := rd hR (a := 0) (b := 1) rfl
  rw [e]
  refine ⟨Rx_p (if_pos (by omega)) hR, ?_, A3_up (by omega) k3, A4_up (by omega) k4, A5_c hI.2.1 (by omega) (A5_m (by decide) k5), A6_c (by omega) (A6_m (by omega) k6), A7_c (by omega) (A7_m (by omega) k7), k8, B9_m (by decide) k9, B10_m (by decide) k10⟩
  obtain ⟨i1, i2, i3, i4, i5, i6, i7, i8, i9, i10, ⟨d, hd, i11, i12⟩⟩ := hI
  unfold IM
  simp only [sy_up_o gm j (gm 0 1) (show 0 ≠ 37 by decide), sy_up_o gm j (gm 0 1) (show 4 ≠ 37 by decide), sy_up_o gm j (gm 0 1) (show 18 ≠ 37 by decide), sy_up_o gm j (gm 0 1) (show 30 ≠ 37 by decide), sy_up_o gm j (gm 0 1) (show 31 ≠ 37 by decide)]
  refine ⟨i1, i2, i3, i4, i5, i6, i7, i8, i9, i10, d, hd, i11, fun i hi => ?_⟩
  rw [sy_up_a]
  split
  · exact ⟨d, Nat.le_refl _, i11⟩
  · exact i12 i hi
/-- a notice -/
theorem inv_notice {j : Nat} {p : Int32} (hj : j < nK) (hm : nK ≤ m5) (hp : p ≠ -1) (h : INV B m5 m6 nT nK cT cK gc q gm) : INV B m5 m6 nT nK cT cK (sy_up (sy_up gc (200 + j) 11 p) (200 + j) 12 (gc 60 9)) q (sy_up (sy_up gm 41 j (gm 0 1)) 42 j p) := by
  have hK := inv_K h
  obtain ⟨hR, hI, k3, k4, k5, k6, k7, k8, k9, k10⟩ := h
  have hT := hI.2.1
  have e : gc 60 9 = gm 0 1 := rd hR (a := 0) (b := 1) rfl
  rw [e]
  obtain ⟨d, hd, hD, -⟩ := hI.2.2.2.2.2.2.2.2.2.2
  refine ⟨Rx_n ((mp_K (by omega)).trans rfl) (Rx_n ((mp_K (by omega)).trans rfl) (Rx_mn rfl (Rx_mn rfl hR))), im_o (by decide) (im_o (by decide) hI), A3_up (by omega) (A3_up (by omega) k3), A4_up (by omega) (A4_up (by omega) k4), A5_c hT (by omega) (A5_c hT (by omega) (A5_m (by decide) (A5_m (by decide) k5))), fun i hi => ?_, A7_c (by omega) (A7_c (by omega) (A7_m (by omega) (A7_m (by omega) k7))), k8, B9_m (by decide) (B9_m (by decide) k9), B10_m (by decide) (B10_m (by decide) k10)⟩
  by_cases h9 : i = j
  · subst h9
    right
    refine ⟨d, d, ?_, hd, ?_, Nat.le_refl _, by omega, ?_, ?_, ?_⟩
    · rw [up_ne _ _ (by omega), up_ne _ _ (by omega)]; exact hD
    · rw [up_ne _ _ (by omega), sy_up_e]; exact hD
    · rw [up_ne _ _ (by omega), sy_up_e, sy_up_e]
    · rw [sy_up_e]; exact hp
    · rw [sy_up_e]; exact hD
  · rw [up_ne _ _ (by omega), up_ne _ _ (by omega), up_ne _ _ (by omega), up_ne _ _ (by omega), up_ne _ _ (by omega), up_ne _ _ (by omega), up_ne _ _ (by omega), up_ne _ _ (by omega), up_ne _ _ (by omega), up_ne _ _ (by omega)]
    exact k6 i hi
/-- a notice ends -/
theorem inv_unnotice {j : Nat} (hj : j < nK) (h : INV B m5 m6 nT nK cT cK gc q gm) : INV B m5 m6 nT nK cT cK (sy_up gc (200 + j) 11 (-1)) q (sy_up gm 41 j (-1)) := by
  have hK := inv_K h
  obtain ⟨hR, hI, k3, k4, k5, k6, k7, k8, k9, k10⟩ := h
  have hT := hI.2.1
  refine ⟨Rx_n ((mp_K (by omega)).trans rfl) (Rx_mn rfl hR), im_o (by decide) hI, A3_up (by omega) k3, A4_up (by omega) k4, A5_c hT (by omega) (A5_m (by decide) k5), fun i hi => ?_, A7_c (by omega) (A7_m (by omega) k7), k8, B9_m (by decide) k9, B10_m (by decide) k10⟩
  by_cases h9 : i = j
  · subst h9
    left
    exact ⟨sy_up_e _ _ _ _, sy_up_e _ _ _ _⟩
  · rw [up_ne _ _ (by omega), up_ne _ _ (by omega), up_ne _ _ (by omega), up_ne _ _ (by omega), up_ne _ _ (by omega)]
    exact k6 i hi
/-- where a stored thing is, and where the books say that it is -/
theorem inv_place {i : Nat} {v : Int32} (hi : i < nT) (hs : gm 8 i ≠ 0) (h : INV B m5 m6 nT nK cT cK gc q gm) : INV B m5 m6 nT nK cT cK (sy_up gc (100 + i) 8 v) q (sy_up gm 11 i v) := by
  have hT := inv_T h
  obtain ⟨hR, hI, k3, k4, k5, k6, k7, k8, k9, k10⟩ := h
  refine ⟨Rx_n ((mp_T (by omega)).trans rfl) (Rx_mn rfl hR), im_o (by decide) hI, A3_up (by omega) k3, A4_up (by omega) k4, fun j hj => ?_, A6_c (by omega) (A6_m (by omega) k6), A7_c (by omega) (A7_m (by omega) k7), k8, B9_m (by decide) k9, B10_m (by decide) k10⟩
  by_cases h9 : j = i
  · subst h9
    rcases k5 j hj with ⟨h1, -, -⟩ | ⟨h1, h2, h3⟩
    · exact absurd h1 hs
    · right
      rw [up_ne _ _ (by omega), up_ne _ _ (by omega), up_ne _ _ (by omega), sy_up_e, sy_up_e]
      exact ⟨h1, h2, rfl⟩
  · rw [up_ne _ _ (by omega), up_ne _ _ (by omega), up_ne _ _ (by omega), up_ne _ _ (by omega), up_ne _ _ (by omega)]
    exact k5 j hj
theorem inv_book {i : Nat} {v : Int32} (hi : i < nT) (hs : gm 8 i ≠ 0) (h : INV B m5 m6 nT nK cT cK gc q gm) : INV B m5 m6 nT nK cT cK (sy_up gc (100 + i) 7 v) q (sy_up gm 10 i v) := by
  have hT := inv_T h
  obtain ⟨hR, hI, k3, k4, k5, k6, k7, k8, k9, k10⟩ := h
  refine ⟨Rx_n ((mp_T (by omega)).trans rfl) (Rx_mn rfl hR), im_o (by decide) hI, A3_up (by omega) k3, A4_up (by omega) k4, fun j hj => ?_, A6_c (by omega) (A6_m (by omega) k6), A7_c (by omega) (A7_m (by omega) k7), k8, B9_m (by decide) k9, B10_m (by decide) k10⟩
  by_cases h9 : j = i
  · subst h9
    rcases k5 j hj with ⟨h1, -, -⟩ | ⟨h1, h2, h3⟩
    · exact absurd h1 hs
    · right
      rw [up_ne gm _ (show 8 ≠ 10 ∨ _ by omega), sy_up_e, sy_up_e, up_ne _ _ (by omega), up_ne _ _ (by omega)]
      exact ⟨h1, rfl, h3⟩
  · rw [up_ne _ _ (by omega), up_ne _ _ (by omega), up_ne _ _ (by omega), up_ne _ _ (by omega), up_ne _ _ (by omega)]
    exact k5 j hj
end MIC
