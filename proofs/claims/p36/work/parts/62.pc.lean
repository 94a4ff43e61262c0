section CLS
variable {n n' nT nK cT cK i j : Nat} {g g' : sG} {q q' : sQ} {v x : Int32}
theorem ci_tg (c : CI n nT nK cT cK g q) (hj : j < nK) : q (200 + j) 1 = some (100 + tg q j) ∧ tg q j < nT := iq_tg (ci_IQ c) hj
/-- an open ticket's thing is stored for it -/
theorem ci_open (c : CI n nT nK cT cK g q) (hj : j < nK) (ho : g (200 + j) 7 = 0) : q (100 + tg q j) 11 = some (200 + j) ∧ g (100 + tg q j) 5 = 1 ∧ vp_in (g (100 + tg q j) 7) 12 ∧ vp_in (g (100 + tg q j) 8) 12 := by
  obtain ⟨h1, h2⟩ := ci_tg c hj
  obtain ⟨⟨i, h3, h4, h5⟩, -⟩ := c.2.2.2.2.2.2.1.2 j hj
  rw [h1] at h4
  have h6 : tg q j = i := by have := Option.some.inj h4; omega
  subst h6
  refine ⟨h5 ho, ?_⟩
  rcases c.2.2.2.2.2.2.1.1 _ h3 with ⟨-, h7, -⟩ | ⟨h7, -, h8⟩
  · rw [h5 ho] at h7; cases h7
  · exact ⟨h7, h8⟩
/-- an open ticket is closed, its thing leaves -/
theorem ci_close (hj : j < nK) (ho : g (200 + j) 7 = 0) (hv : v = 1 ∨ v = 2 ∨ v = 3) (c : CI n nT nK cT cK g q) : CI n nT nK cT cK (fX4_close g q j v).1 (fX4_close g q j v).2 := by
  have hT := ci_T c
  have hK := ci_K c
  obtain ⟨t1, ht⟩ := ci_tg c hj
  obtain ⟨o1, -⟩ := ci_open c hj ho
  obtain ⟨k1, k2, k3, k4, k5, k6, k7, k8⟩ := c
  unfold fX4_close fX3_leave
  dsimp only
  generalize htd : tg q j = t at *
  refine ⟨c1_up (by omega) (c1_up (by omega) (c1_up (by omega) (c1_up (by omega) k1))), c2_up (by omega) (c2_up (by omega) (c2_up (by omega) (c2_up (by omega) k2))), c3_up (by omega) (c3_up (by omega) (c3_up (by omega) (c3_up (by omega) k3))), c4_up hT (by omega) (c4_up hT (by omega) (c4_up hT (by omega) (c4_up hT (by omega) k4))), c5_up (by omega) (c5_up (by omega) (c5_up (by omega) (fun j' hj' => ?_))), c6_up (by omega) (c6_up (by omega) (c6_up (by omega) (c6_up (by omega) k6))), ⟨fun i hi => ?_, fun j' hj' => ?_⟩, ?_⟩
  · obtain ⟨h1, h2, h3, h4, h5, h6, h7, h8⟩ := k5 j' hj'
    by_cases h9 : j' = j
    · subst h9
      rw [sy_up_e, up_ne _ _ (by omega), up_ne _ _ (by omega), up_ne _ _ (by omega), up_ne _ _ (by omega), up_ne _ _ (by omega), up_ne _ _ (by omega)]
      refine ⟨h1, h2, ?_, h4, h5, h6, h7, Or.inl ?_⟩
      · rcases hv with rfl | rfl | rfl
        · exact vp_in_nI (n := 1) (by decide) (by decide)
        · exact vp_in_nI (n := 2) (by decide) (by decide)
        · exact vp_in_nI (n := 3) (by decide) (by decide)
      · rcases h8 with h8 | h8
        · exact h8
        · rw [ho] at h8; cases h8
    · rw [sy_up_o _ _ _ (show 200 + j' ≠ 200 + j by omega)]
      exact ⟨h1, h2, h3, h4, h5, h6, h7, h8⟩
  · by_cases h9 : i = t
    · subst h9
      left
      refine ⟨?_, sy_up_e _ _ _ _, ?_⟩
      · rw [up_ne _ _ (by omega), up_ne _ _ (by omega), sy_up_e]
      · rw [up_ne _ _ (by omega), sy_up_e]
    · rw [sy_up_o _ _ _ (show 100 + i ≠ 100 + t by omega), sy_up_o _ _ _ (show 100 + i ≠ 100 + t by omega), sy_up_o _ _ _ (show 100 + i ≠ 100 + t by omega), sy_up_o _ _ _ (show 100 + i ≠ 200 + j by omega), sy_up_o q _ _ (show 100 + i ≠ 100 + t by omega)]
      rcases k7.1 i hi with h1 | ⟨h1, ⟨j', h2, h3, h4, h5⟩, h6⟩
      · exact Or.inl h1
      · refine Or.inr ⟨h1, ⟨j', h2, h3, ?_, ?_⟩, h6⟩
        · have h7 : j' ≠ j := fun z => by
            subst z
            rw [t1] at h5
            have := Option.some.inj h5
            omega
          rw [sy_up_o _ _ _ (show 200 + j' ≠ 100 + t by omega), sy_up_o _ _ _ (show 200 + j' ≠ 100 + t by omega), sy_up_o _ _ _ (show 200 + j' ≠ 100 + t by omega), sy_up_o _ _ _ (show 200 + j' ≠ 200 + j by omega)]
          exact h4
        · rw [sy_up_o _ _ _ (show 200 + j' ≠ 100 + t by omega)]
          exact h5
  · simp only [sy_up_o _ _ _ (show 200 + j' ≠ 100 + t by omega)]
    obtain ⟨⟨i, h1, h2, h3⟩, h4⟩ := k7.2 j' hj'
    refine ⟨⟨i, h1, h2, fun h5 => ?_⟩, h4⟩
    by_cases h9 : j' = j
    · subst h9
      rw [sy_up_e] at h5
      rcases hv with rfl | rfl | rfl <;> cases h5
    · rw [sy_up_o _ _ _ (show 200 + j' ≠ 200 + j by omega)] at h5
      have h6 := h3 h5
      have h7 : i ≠ t := fun z => by
        subst z
        rw [o1] at h6
        have := Option.some.inj h6
        omega
      rw [sy_up_o _ _ _ (show 100 + i ≠ 100 + t by omega)]
      exact h6
  · obtain ⟨b1, b2, b3, b4, b5, b6, b7, b8⟩ := k8
    refine ⟨fun k hk => ?_, fun k hk => ?_, fun k hk => ?_, fun k hk => ?_, fun k hk => ?_, fun k hk => ?_, fun o k r hr => ?_, fun p hp => ?_⟩
    · rw [sy_up_o _ _ _ (by omega)]; exact b1 k hk
    · rw [sy_up_o _ _ _ (by omega)]; exact b2 k hk
    · rw [sy_up_o _ _ _ (by omega)]; exact b3 k hk
    · rw [sy_up_o _ _ _ (by omega)]; exact b4 k hk
    · rw [sy_up_o _ _ _ (by omega)]; exact b5 k hk
    · rw [sy_up_o _ _ _ (by omega)]; exact b6 k hk
    · rw [sy_up_a] at hr
      split at hr
      · cases hr
      · exact b7 o k r hr
    · rw [sy_up_o _ _ _ (by omega)]; exact b8 p hp
/-- what a close leaves as it was -/
theorem cl_o {o k : Nat} (h : (o < 100 ∨ 200 ≤ o ∨ (k ≠ 5 ∧ k ≠ 7 ∧ k ≠ 8)) ∧ (o ≠ 200 + j ∨ k ≠ 7)) (ht : tg q j < 100) : (fX4_close g q j v).1 o k = g o k := by
  unfold fX4_close fX3_leave
  dsimp only
  rw [up_ne _ _ (by omega), up_ne _ _ (by omega), up_ne _ _ (by omega), up_ne _ _ (by omega)]
theorem cl_7 (ht : tg q j < 100) : (fX4_close g q j v).1 (200 + j) 7 = v := by
  unfold fX4_close fX3_leave
  dsimp only
  rw [up_ne _ _ (by omega), up_ne _ _ (by omega), up_ne _ _ (by omega), sy_up_e]
end CLS
