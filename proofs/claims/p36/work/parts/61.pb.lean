theorem lt_of_toInt {x y : Int32} : (x < y) = (x.toInt < y.toInt) := propext Int32.lt_iff_toInt_lt
theorem le_of_toInt {x y : Int32} : (x ≤ y) = (x.toInt ≤ y.toInt) := propext Int32.le_iff_toInt_le
theorem bmod_id {x : Int} (h1 : -2147483648 ≤ x) (h2 : x < 2147483648) : Int.bmod x (2 ^ 32) = x := by
  rw [Int.bmod_def]
  split <;> omega
theorem toInt_addb {a b : Int32} (h1 : -2147483648 ≤ a.toInt + b.toInt) (h2 : a.toInt + b.toInt < 2147483648) : (a + b).toInt = a.toInt + b.toInt := by
  rw [Int32.toInt_add]
  exact bmod_id h1 h2
theorem toInt_subb {a b : Int32} (h1 : -2147483648 ≤ a.toInt - b.toInt) (h2 : a.toInt - b.toInt < 2147483648) : (a - b).toInt = a.toInt - b.toInt := by
  rw [Int32.toInt_sub]
  exact bmod_id h1 h2
theorem toInt_negb {a : Int32} (h1 : -2147483647 ≤ a.toInt) : (-a).toInt = -a.toInt := by
  rw [Int32.toInt_neg]
  have := Int32.toInt_lt a
  exact bmod_id (by omega) (by omega)
theorem toInt_mulb {a b : Int32} (h1 : -2147483648 ≤ a.toInt * b.toInt) (h2 : a.toInt * b.toInt < 2147483648) : (a * b).toInt = a.toInt * b.toInt := by
  rw [Int32.toInt_mul]
  exact bmod_id h1 h2
theorem toInt_divb {a b : Int32} (ha : 0 ≤ a.toInt) (hb : 0 < b.toInt) : (a / b).toInt = a.toInt / b.toInt := by
  rw [Int32.toInt_div, Int.tdiv_eq_ediv_of_nonneg ha]
  have h1 : 0 ≤ a.toInt / b.toInt := Int.ediv_nonneg ha (by omega)
  have h2 : a.toInt / b.toInt ≤ a.toInt := Int.ediv_le_self _ ha
  have h3 := Int32.toInt_lt a
  exact bmod_id (by omega) (by omega)
theorem vp_nI {x : Int32} {n : Nat} (hn : n < 2 ^ 31) (h : vp_in x n) : ∃ j, j < n ∧ x = nI j := by
  have h0 : 0 ≤ x := by
    rw [le_of_toInt]
    have h1 : ¬ x < 0 := fun z => h (Or.inl z)
    rw [lt_of_toInt] at h1
    omega
  exact ⟨x.toNatClampNeg, vp_in_lt h, nI_self h0⟩
theorem isum_at {f f' : Nat → Int} {j : Nat} : ∀ n : Nat, j < n → (∀ k, k < n → k ≠ j → f' k = f k) → isum f' n = isum f n - f j + f' j
  | 0, h, _ => by omega
  | n + 1, h, hk => by
    show isum f' n + f' n = isum f n + f n - f j + f' j
    by_cases hj : j = n
    · subst hj
      rw [isum_c j (f := f') (f' := f) (fun k h1 => hk k (by omega) (by omega))]
      omega
    · rw [isum_at n (by omega) (fun k h1 h2 => hk k (by omega) h2), hk n (by omega) (by omega)]
      omega
theorem isum_nn {f : Nat → Int} : ∀ n : Nat, (∀ k, k < n → 0 ≤ f k) → 0 ≤ isum f n
  | 0, _ => Int.le_refl _
  | n + 1, h => by
    have h1 := isum_nn n (fun k hk => h k (by omega))
    have h2 := h n (by omega)
    show 0 ≤ isum f n + f n
    omega
theorem isum_ge {f : Nat → Int} {j : Nat} : ∀ n : Nat, j < n → (∀ k, k < n → 0 ≤ f k) → f j ≤ isum f n
  | 0, h, _ => by omega
  | n + 1, h, hk => by
    show f j ≤ isum f n + f n
    have h2 := hk n (by omega)
    by_cases hj : j = n
    · subst hj
      have h1 := isum_nn j (fun k h1 => hk k (by omega))
      omega
    · have h1 := isum_ge n (show j < n by omega) (fun k h1 => hk k (by omega))
      omega
theorem msum_at {f : Nat → Int32} {k : Nat} {x : Int32} : ∀ n : Nat, k < n → msum (va_up f k (f k + x)) n = msum f n + x
  | 0, h => by omega
  | n + 1, h => by
    show msum (va_up f k (f k + x)) n + va_up f k (f k + x) n = msum f n + f n + x
    by_cases hk : k = n
    · subst hk
      rw [va_up_self, msum_c k (f := va_up f k (f k + x)) (f' := f) (fun j hj => va_up_ne _ _ (by omega)), Int32.add_assoc]
    · rw [msum_at n (by omega), va_up_ne _ _ (by omega), Int32.add_assoc, Int32.add_assoc, Int32.add_comm x]
theorem msum_push {f : Nat → Int32} {n : Nat} {x : Int32} : msum (va_up f n x) (n + 1) = msum f n + x := by
  show msum (va_up f n x) n + va_up f n x n = _
  rw [va_up_self, msum_c n (f := va_up f n x) (f' := f) (fun j hj => va_up_ne _ _ (by omega))]
theorem lX5_msum {g : sG} {q : sQ} : ∀ n : Nat, lX5_sum g q n = msum (g 78) n
  | 0 => rfl
  | n + 1 => by
    show lX5_sum g q n + g 78 n = msum (g 78) n + g 78 n
    rw [lX5_msum n]
section MV
variable {g : sG} {q q' : sQ} {x : Int32}
theorem cm_o {o : Nat} (h : o ≠ 68 ∧ o ≠ 78) : fX5_move g q x o = g o := by
  unfold fX5_move
  split
  · rw [sy_up_o _ _ _ (by omega), sy_up_o _ _ _ (by omega)]
  · rw [sy_up_o _ _ _ (by omega), sy_up_o _ _ _ (by omega), sy_up_o _ _ _ (by omega)]
theorem cm_0 : fX5_move g q x 68 0 = g 68 0 + x := by
  unfold fX5_move
  split
  · rw [up_ne _ _ (by omega), sy_up_e]
  · rw [up_ne _ _ (by omega), up_ne _ _ (by omega), sy_up_e]
theorem cm_k {k : Nat} (h : k ≠ 0 ∧ k ≠ 4) : fX5_move g q x 68 k = g 68 k := by
  unfold fX5_move
  split
  · rw [up_ne _ _ (by omega), up_ne _ _ (by omega)]
  · rw [up_ne _ _ (by omega), up_ne _ _ (by omega), up_ne _ _ (by omega)]
theorem cm_D (h : ∃ m, m ≤ 600 ∧ g 68 4 = nI m ∧ g 68 0 = msum (g 78) m) : ∃ m, m ≤ 600 ∧ fX5_move g q x 68 4 = nI m ∧ fX5_move g q x 68 0 = msum (fX5_move g q x 78) m := by
  obtain ⟨m, hm, h7, h8⟩ := h
  unfold fX5_move
  by_cases hf : 600 ≤ g 68 4
  · rw [if_pos hf]
    have hm6 : m = 600 := by
      rw [h7] at hf
      have := (nI_leI (a := 600) (b := m) (by decide) (by omega)).mp hf
      omega
    subst hm6
    refine ⟨600, hm, by rw [up_ne _ _ (by omega), up_ne _ _ (by omega)]; exact h7, ?_⟩
    rw [up_ne _ _ (by omega), sy_up_e, sy_up_s, sy_up_o _ _ _ (by omega), msum_at 600 (by omega), h8]
  · rw [if_neg hf]
    have hm6 : m < 600 := by
      rw [h7] at hf
      have h600 : ¬ 600 ≤ m := fun z => hf ((nI_leI (a := 600) (b := m) (by decide) (by omega)).mpr z)
      omega
    have hcl : (g 68 4).toNatClampNeg = m := by rw [h7]; exact nI_clamp (by omega)
    rw [hcl]
    refine ⟨m + 1, by omega, by rw [sy_up_e, h7, nI_1], ?_⟩
    rw [up_ne _ _ (by omega), up_ne _ _ (by omega), sy_up_e, sy_up_o _ _ _ (by omega), sy_up_s, sy_up_o _ _ _ (by omega), msum_push, h8]
end MV
section CIU
variable {n n' nT nK cT cK i j : Nat} {g g' : sG} {q q' : sQ} {v x : Int32}
/-- only the money's rows are others -/
theorem ci_rows (hr : ∀ o, o ≠ 68 → o ≠ 78 → g' o = g o) (hn : n ≤ n') (h6 : C6 (n' * cB) nK g') (c : CI n nT nK cT cK g q) : CI n' nT nK cT cK g' q := by
  obtain ⟨k1, k2, k3, k4, k5, k6, k7, k8⟩ := c
  refine ⟨?_, ?_, ?_, ?_, ?_, h6, ?_, k8⟩
  · unfold C1; rw [hr 61 (by omega) (by omega), hr 62 (by omega) (by omega)]; exact k1
  · unfold C2; rw [hr 67 (by omega) (by omega), hr 74 (by omega) (by omega)]; exact k2
  · obtain ⟨⟨d, h1, h2, h3⟩, h4⟩ := k3
    refine ⟨⟨d, h1, by rw [hr 60 (by omega) (by omega)]; exact h2, fun j hj => by rw [hr (200 + j) (by omega) (by omega)]; exact h3 j hj⟩, by rw [hr 60 (by omega) (by omega)]; exact h4⟩
  · intro i hi; rw [hr (100 + i) (by omega) (by omega), hr 90 (by omega) (by omega)]; exact k4 i hi
  · intro j hj; rw [hr (200 + j) (by omega) (by omega)]; exact c5_V hn k5 j hj
  · refine ⟨fun i hi => ?_, fun j hj => by rw [hr (200 + j) (by omega) (by omega)]; exact k7.2 j hj⟩
    rw [hr (100 + i) (by omega) (by omega)]
    rcases k7.1 i hi with h1 | ⟨h1, ⟨j, h2, h3, h4, h5⟩, h6⟩
    · exact Or.inl h1
    · exact Or.inr ⟨h1, ⟨j, h2, h3, by rw [hr (200 + j) (by omega) (by omega)]; exact h4, h5⟩, h6⟩
/-- money comes in or goes out -/
theorem ci_move (hn : n ≤ n') (hb : n' ≤ 10000) (h1 : (g 68 1).toInt ≤ (g 68 0).toInt + x.toInt) (h2 : (g 68 0).toInt + x.toInt + (g 68 2).toInt ≤ (n' * cB : Nat)) (c : CI n nT nK cT cK g q) : CI n' nT nK cT cK (fX5_move g q' x) q ∧ (fX5_move g q' x 68 0).toInt = (g 68 0).toInt + x.toInt := by
  have k6 := c.2.2.2.2.2.1
  obtain ⟨a1, a2, a3, a4, a5⟩ := k6
  have a6 : 0 ≤ isum (fun j => (g (200 + j) 14).toInt) nK := isum_nn nK (fun k hk => (c.2.2.2.2.1 k hk).2.2.2.2.2.2.1)
  unfold cB at *
  have e0 : (fX5_move g q' x 68 0).toInt = (g 68 0).toInt + x.toInt := by rw [cm_0]; exact toInt_addb (by omega) (by omega)
  refine ⟨ci_rows (fun o h1 h2 => cm_o ⟨h1, h2⟩) hn ⟨cm_D a1, ?_, ?_, ?_, ?_⟩ c, e0⟩
  · rw [cm_k (by omega), a2]
    exact isum_c nK fun j hj => by rw [cm_o (by omega)]
  · rw [cm_k (k := 1) (by omega), e0]; exact h1
  · rw [cm_k (by omega)]; exact a4
  · rw [cm_k (k := 2) (by omega), e0]; exact h2
theorem ci_wear (hi : i < nT) (h1 : 0 ≤ v.toInt ∧ v.toInt ≤ 10) (c : CI n nT nK cT cK g q) : CI n nT nK cT cK (sy_up g (100 + i) 4 v) q := by
  have hT := ci_T c
  obtain ⟨k1, k2, k3, k4, k5, k6, k7, k8⟩ := c
  refine ⟨c1_up (by omega) k1, c2_up (by omega) k2, c3_up (by omega) k3, fun i' hi' => ?_, c5_up (by omega) k5, c6_up (by omega) k6, c7_up hT (by omega) k7, k8⟩
  obtain ⟨h2, h3, h4, h5, h6⟩ := k4 i' hi'
  rw [up_ne _ _ (show 100 + i' ≠ 100 + i ∨ 0 ≠ 4 by omega), up_ne _ _ (show 100 + i' ≠ 100 + i ∨ 1 ≠ 4 by omega), up_ne _ _ (show 100 + i' ≠ 100 + i ∨ 2 ≠ 4 by omega), sy_up_o _ _ _ (show 90 ≠ 100 + i by omega)]
  refine ⟨h2, h3, h4, h5, ?_⟩
  rw [sy_up_a]
  split
  · exact h1
  · exact h6
theorem c7_pl {k : Nat} (hT : nT ≤ 40) (hk : k = 7 ∨ k = 8) (hi : i < nT) (hs : g (100 + i) 5 ≠ 0) (hv : vp_in v 12) (c : C7 nT nK g q) : C7 nT nK (sy_up g (100 + i) k v) q := by
  refine ⟨fun i' hi' => ?_, fun j hj => ?_⟩
  · by_cases h9 : i' = i
    · subst h9
      rcases c.1 i' hi' with ⟨h1, -⟩ | ⟨h1, ⟨j, h2, h3, h4, h5⟩, h6, h7⟩
      · exact absurd h1 hs
      · right
        rw [up_ne _ _ (show 100 + i' ≠ 100 + i' ∨ 5 ≠ k by omega)]
        refine ⟨h1, ⟨j, h2, h3, by rw [up_ne _ _ (by omega)]; exact h4, h5⟩, ?_, ?_⟩
        · rw [sy_up_a]; split
          · exact hv
          · exact h6
        · rw [sy_up_a]; split
          · exact hv
          · exact h7
    · rw [up_ne _ _ (show 100 + i' ≠ 100 + i ∨ 5 ≠ k by omega), up_ne _ _ (show 100 + i' ≠ 100 + i ∨ 7 ≠ k by omega), up_ne _ _ (show 100 + i' ≠ 100 + i ∨ 8 ≠ k by omega)]
      rcases c.1 i' hi' with h1 | ⟨h1, ⟨j, h2, h3, h4, h5⟩, h6⟩
      · exact Or.inl h1
      · exact Or.inr ⟨h1, ⟨j, h2, h3, by rw [up_ne _ _ (by omega)]; exact h4, h5⟩, h6⟩
  · rw [up_ne _ _ (show 200 + j ≠ 100 + i ∨ 7 ≠ k by omega)]
    exact c.2 j hj
/-- where a stored thing is, and where the books say that it is -/
theorem ci_pl {k : Nat} (hk : k = 7 ∨ k = 8) (hi : i < nT) (hs : g (100 + i) 5 ≠ 0) (hv : vp_in v 12) (c : CI n nT nK cT cK g q) : CI n nT nK cT cK (sy_up g (100 + i) k v) q := by
  have hT := ci_T c
  obtain ⟨k1, k2, k3, k4, k5, k6, k7, k8⟩ := c
  exact ⟨c1_up (by omega) k1, c2_up (by omega) k2, c3_up (by omega) k3, c4_up hT (by omega) k4, c5_up (by omega) k5, c6_up (by omega) k6, c7_pl hT hk hi hs hv k7, k8⟩
theorem c5_set {V V' k : Nat} (hV : V ≤ V') (hk : (k = 6 ∧ vp_in v 10) ∨ (k = 8 ∧ 1 ≤ v.toInt ∧ v.toInt ≤ 400) ∨ (k = 11 ∧ (v = -1 ∨ vp_in v 10)) ∨ (k = 13 ∧ 0 ≤ v.toInt ∧ v.toInt ≤ V')) (c : C5 V nK g) : C5 V' nK (sy_up g (200 + j) k v) := by
  intro j' hj'
  obtain ⟨h1, h2, h3, h4, h5, h6, h7⟩ := c5_V hV c j' hj'
  by_cases h9 : j' = j
  · subst h9
    rw [up_ne _ _ (show 200 + j' ≠ 200 + j' ∨ 0 ≠ k by omega), up_ne _ _ (show 200 + j' ≠ 200 + j' ∨ 7 ≠ k by omega), up_ne _ _ (show 200 + j' ≠ 200 + j' ∨ 14 ≠ k by omega)]
    rcases hk with ⟨rfl, hv⟩ | ⟨rfl, hv⟩ | ⟨rfl, hv⟩ | ⟨rfl, hv⟩
    · rw [sy_up_e, up_ne _ _ (by omega), up_ne _ _ (by omega), up_ne _ _ (by omega)]
      exact ⟨h1, hv, h3, h4, h5, h6, h7⟩
    · rw [sy_up_e, up_ne _ _ (by omega), up_ne _ _ (by omega), up_ne _ _ (by omega)]
      exact ⟨h1, h2, h3, hv, h5, h6, h7⟩
    · rw [sy_up_e, up_ne _ _ (by omega), up_ne _ _ (by omega), up_ne _ _ (by omega)]
      exact ⟨h1, h2, h3, h4, hv, h6, h7⟩
    · rw [sy_up_e, up_ne _ _ (by omega), up_ne _ _ (by omega), up_ne _ _ (by omega)]
      exact ⟨h1, h2, h3, h4, h5, hv, h7⟩
  · rw [sy_up_o _ _ _ (show 200 + j' ≠ 200 + j by omega)]
    exact ⟨h1, h2, h3, h4, h5, h6, h7⟩
/-- a ticket's holder, loan, notice, offers in vain -/
theorem ci_tk {k : Nat} (hn : n ≤ n') (hk : (k = 6 ∧ vp_in v 10) ∨ (k = 8 ∧ 1 ≤ v.toInt ∧ v.toInt ≤ 400) ∨ (k = 11 ∧ (v = -1 ∨ vp_in v 10)) ∨ (k = 13 ∧ 0 ≤ v.toInt ∧ v.toInt ≤ n')) (c : CI n nT nK cT cK g q) : CI n' nT nK cT cK (sy_up g (200 + j) k v) q := by
  have hT := ci_T c
  obtain ⟨k1, k2, k3, k4, k5, k6, k7, k8⟩ := c
  exact ⟨c1_up (by omega) k1, c2_up (by omega) k2, c3_up (by omega) k3, c4_up hT (by omega) k4, c5_set hn hk k5, c6_up (by omega) (c6_B (Nat.mul_le_mul_right _ hn) k6), c7_up hT (by omega) k7, k8⟩
/-- a ticket begins today -/
theorem ci_began (c : CI n nT nK cT cK g q) : CI n nT nK cT cK (sy_up g (200 + j) 9 (g 60 9)) q := by
  have hT := ci_T c
  obtain ⟨k1, k2, k3, k4, k5, k6, k7, k8⟩ := c
  refine ⟨c1_up (by omega) k1, c2_up (by omega) k2, ?_, c4_up hT (by omega) k4, c5_up (by omega) k5, c6_up (by omega) k6, c7_up hT (by omega) k7, k8⟩
  obtain ⟨⟨d, h1, h2, h3⟩, h4⟩ := k3
  refine ⟨⟨d, h1, by rw [up_ne _ _ (by omega)]; exact h2, fun j' hj' => ?_⟩, by rw [up_ne _ _ (by omega)]; exact h4⟩
  rw [sy_up_a]
  split
  · exact ⟨d, Nat.le_refl _, h2⟩
  · exact h3 j' hj'
end CIU
