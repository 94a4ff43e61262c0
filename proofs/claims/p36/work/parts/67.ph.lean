section REL
variable {n n' nT nK cT cK i j X : Nat} {g g' : sG} {q q' : sQ}
theorem ci_unkeep {s : Int32} (c : CI n nT nK cT cK g q) (hn : n ≤ 10000) (hj : j < nK) (hs : s = g (200 + j) 14) : CI n nT nK cT cK (sy_up (sy_up g (200 + j) 14 0) 68 1 ((sy_up g (200 + j) 14 0) 68 1 - s)) q ∧ (g 68 1 - s).toInt = (g 68 1).toInt - s.toInt ∧ 0 ≤ s.toInt ∧ s.toInt ≤ (g 68 1).toInt := by
  subst hs
  have hT := ci_T c
  obtain ⟨-, f2, f3, f4, f5⟩ := ci_free c hn
  have s0 := (c.2.2.2.2.1 j hj).2.2.2.2.2.2.1
  have a2 := c.2.2.2.2.2.1.2.1
  have s1 : (g (200 + j) 14).toInt ≤ isum (fun j => (g (200 + j) 14).toInt) nK := isum_ge (f := fun j => (g (200 + j) 14).toInt) nK hj (fun k hk => (c.2.2.2.2.1 k hk).2.2.2.2.2.2.1)
  have e : (g 68 1 - g (200 + j) 14).toInt = (g 68 1).toInt - (g (200 + j) 14).toInt := toInt_subb (by omega) (by unfold cB at *; omega)
  refine ⟨?_, e, s0, by omega⟩
  rw [up_ne g _ (show 68 ≠ 200 + j ∨ 1 ≠ 14 by omega)]
  obtain ⟨k1, k2, k3, k4, k5, k6, k7, k8⟩ := c
  refine ⟨c1_up (by omega) (c1_up (by omega) k1), c2_up (by omega) (c2_up (by omega) k2), c3_up (by omega) (c3_up (by omega) k3), c4_up hT (by omega) (c4_up hT (by omega) k4), c5_up (by omega) (fun j' hj' => ?_), ?_, c7_up hT (by omega) (c7_up hT (by omega) k7), k8⟩
  · obtain ⟨h1, h3, h4, h5, h6, h7, h8, h9⟩ := k5 j' hj'
    by_cases hjj : j' = j
    · subst hjj
      rw [up_ne _ _ (by omega), up_ne _ _ (by omega), up_ne _ _ (by omega), up_ne _ _ (by omega), up_ne _ _ (by omega), up_ne _ _ (by omega), sy_up_e]
      exact ⟨h1, h3, h4, h5, h6, h7, by decide, Or.inl rfl⟩
    · rw [sy_up_o _ _ _ (show 200 + j' ≠ 200 + j by omega)]
      exact ⟨h1, h3, h4, h5, h6, h7, h8, h9⟩
  · obtain ⟨⟨m, m1, m2, m3⟩, a2, a3, a4, a5⟩ := k6
    refine ⟨⟨m, m1, ?_, ?_⟩, ?_, ?_, ?_, ?_⟩
    · rw [up_ne _ _ (by omega), up_ne _ _ (by omega)]; exact m2
    · rw [up_ne _ _ (by omega), up_ne _ _ (by omega), sy_up_o _ _ _ (by omega), sy_up_o _ _ _ (by omega)]; exact m3
    · rw [sy_up_e, e, a2]
      rw [isum_at (f := fun j => (g (200 + j) 14).toInt) (f' := fun k => (sy_up (sy_up g (200 + j) 14 0) 68 1 (g 68 1 - g (200 + j) 14) (200 + k) 14).toInt) nK hj (fun k h1 h3 => by rw [up_ne _ _ (by omega), up_ne _ _ (by omega)])]
      rw [up_ne _ _ (by omega), sy_up_e]
      have z1 : (0 : Int32).toInt = 0 := rfl
      omega
    · rw [sy_up_e, e, up_ne _ _ (by omega), up_ne _ _ (by omega)]; omega
    · rw [up_ne _ _ (by omega), up_ne _ _ (by omega)]; exact a4
    · rw [up_ne _ _ (by omega), up_ne _ _ (by omega), up_ne _ _ (by omega), up_ne _ _ (by omega)]; exact a5
theorem ci_release (c : CI n nT nK cT cK g q) (hn : n ≤ 10000) (hj : j < nK) : CI n nT nK cT cK (fX6_releaseSurplus g q j).2 q ∧ ((fX6_releaseSurplus g q j).2 68 0).toInt = (g 68 0).toInt - (g (200 + j) 14).toInt ∧ ((fX6_releaseSurplus g q j).2 68 1).toInt = (g 68 1).toInt - (g (200 + j) 14).toInt ∧ (fX6_releaseSurplus g q j).2 68 2 = g 68 2 ∧ (fX6_releaseSurplus g q j).2 (200 + j) 14 = 0 ∧ 0 ≤ (g (200 + j) 14).toInt ∧ (g (200 + j) 14).toInt ≤ (g 68 1).toInt := by
  obtain ⟨c1, e1, e2, e3⟩ := ci_unkeep (s := g (200 + j) 14) c hn hj rfl
  obtain ⟨-, f2, f3, f4, f5⟩ := ci_free c hn
  unfold fX6_releaseSurplus
  dsimp only
  have n1 : (-(g (200 + j) 14)).toInt = -(g (200 + j) 14).toInt := toInt_negb (by omega)
  have r0 : (sy_up (sy_up g (200 + j) 14 0) 68 1 ((sy_up g (200 + j) 14 0) 68 1 - g (200 + j) 14)) 68 0 = g 68 0 := by rw [up_ne _ _ (by omega), up_ne _ _ (by omega)]
  have r1 : (sy_up (sy_up g (200 + j) 14 0) 68 1 ((sy_up g (200 + j) 14 0) 68 1 - g (200 + j) 14)) 68 1 = g 68 1 - g (200 + j) 14 := by rw [sy_up_e, up_ne _ _ (by omega)]
  have r2 : (sy_up (sy_up g (200 + j) 14 0) 68 1 ((sy_up g (200 + j) 14 0) 68 1 - g (200 + j) 14)) 68 2 = g 68 2 := by rw [up_ne _ _ (by omega), up_ne _ _ (by omega)]
  have r3 : (sy_up (sy_up g (200 + j) 14 0) 68 1 ((sy_up g (200 + j) 14 0) 68 1 - g (200 + j) 14)) (200 + j) 14 = 0 := by rw [up_ne _ _ (by omega), sy_up_e]
  have hm := ci_move (q' := q) (x := -(g (200 + j) 14)) (Nat.le_refl n) hn (by rw [r0, r1, n1, e1]; omega) (by rw [r0, r2, n1]; omega) c1
  refine ⟨hm.1, by rw [hm.2, r0, n1]; omega, ?_, ?_, ?_, e2, e3⟩
  · rw [cm_k (by omega), r1, e1]
  · rw [cm_k (by omega), r2]
  · rw [cm_o (by omega), r3]
theorem ci_gift {s : Int32} (c : CI n nT nK cT cK g q) (hn : n ≤ 10000) (h0 : 0 ≤ s.toInt) (h1 : (g 68 0).toInt + (g 68 2).toInt + s.toInt ≤ (n * cB : Nat)) : CI n nT nK cT cK (sy_up g 68 2 (g 68 2 + s)) q := by
  have hT := ci_T c
  obtain ⟨-, f2, f3, f4, f5⟩ := ci_free c hn
  have e : (g 68 2 + s).toInt = (g 68 2).toInt + s.toInt := toInt_addb (by omega) (by unfold cB at *; omega)
  obtain ⟨k1, k2, k3, k4, k5, k6, k7, k8⟩ := c
  refine ⟨c1_up (by omega) k1, c2_up (by omega) k2, c3_up (by omega) k3, c4_up hT (by omega) k4, c5_up (by omega) k5, ?_, c7_up hT (by omega) k7, k8⟩
  obtain ⟨⟨m, m1, m2, m3⟩, a2, a3, a4, a5⟩ := k6
  refine ⟨⟨m, m1, ?_, ?_⟩, ?_, ?_, ?_, ?_⟩
  · rw [up_ne _ _ (by omega)]; exact m2
  · rw [up_ne _ _ (by omega), sy_up_o _ _ _ (by omega)]; exact m3
  · rw [up_ne _ _ (by omega), a2]; exact isum_c nK fun k hk => by rw [up_ne _ _ (by omega)]
  · rw [up_ne _ _ (by omega), up_ne _ _ (by omega)]; exact a3
  · rw [sy_up_e, e]; omega
  · rw [sy_up_e, e, up_ne _ _ (by omega)]; omega
theorem p_claim (c : CI n nT nK cT cK g q) (hn : n ≤ 10000) (hj : j < nK) : (fX6_claim g q (nI j) (g (200 + j) 6) = (3, 0, g, q) ∧ (g (200 + j) 14 = 0 ∨ barI g q j ≠ 0)) ∨ (g (200 + j) 14 ≠ 0 ∧ barI g q j = 0 ∧ (fX6_claim g q (nI j) (g (200 + j) 6)).1 = 0 ∧ (fX6_claim g q (nI j) (g (200 + j) 6)).2.1 = g (200 + j) 14 ∧ CI n nT nK cT cK (fX6_claim g q (nI j) (g (200 + j) 6)).2.2.1 (fX6_claim g q (nI j) (g (200 + j) 6)).2.2.2 ∧ ((fX6_claim g q (nI j) (g (200 + j) 6)).2.2.1 68 0).toInt = (g 68 0).toInt - (g (200 + j) 14).toInt ∧ ((fX6_claim g q (nI j) (g (200 + j) 6)).2.2.1 68 1).toInt = (g 68 1).toInt - (g (200 + j) 14).toInt ∧ (fX6_claim g q (nI j) (g (200 + j) 6)).2.2.1 (200 + j) 14 = 0) := by
  obtain ⟨e1, e2⟩ := jK c hj
  obtain ⟨-, k6, -, -, -, -, k14, k2⟩ := c.2.2.2.2.1 j hj
  have z1 : (0 : Int32).toInt = 0 := rfl
  unfold fX6_claim
  rw [if_pos e1, if_pos (v10 k6), e2]
  by_cases h0 : g (200 + j) 14 ≤ 0
  · rw [if_pos h0]
    refine Or.inl ⟨rfl, Or.inl (Int32.toInt_inj.mp ?_)⟩
    rw [le_of_toInt] at h0
    omega
  · rw [if_neg h0]
    have hz : g (200 + j) 14 ≠ 0 := fun z => h0 (by rw [z, le_of_toInt]; omega)
    have h2 : g (200 + j) 7 ≠ 0 := fun z => by
      rcases k2 with k2 | k2
      · exact hz k2
      · rw [z] at k2; cases k2
    by_cases hb : fX4_hasNotice g q j = 0
    · rw [if_pos hb, if_pos rfl]
      obtain ⟨r1, r2, r3, r4, r5, r6, r7⟩ := ci_release c hn hj
      exact Or.inr ⟨hz, (bar_hn h2).mp hb, rfl, rfl, r1, r2, r3, r5⟩
    · rw [if_neg hb]
      exact Or.inl ⟨rfl, Or.inr (fun z => hb ((bar_hn h2).mpr z))⟩
theorem p_claim0 (c : CI n nT nK cT cK g q) (hj : j < nK) {x : Int32} (hx : vp_in x 10) (h0 : g (200 + j) 14 = 0) : fX6_claim g q (nI j) x = (3, 0, g, q) := by
  obtain ⟨e1, e2⟩ := jK c hj
  unfold fX6_claim
  rw [if_pos e1, if_pos (v10 hx), e2, h0]
  rfl
end REL
