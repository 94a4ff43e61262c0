section MON
variable {n n' nT nK cT cK i j X : Nat} {g g' : sG} {q q' : sQ}
def barI (g : sG) (q : sQ) (j : Nat) : Int32 := if fX4_hasNotice g q j = 0 then (if fX4_isBarredByList g q j = 0 then 0 else 2) else (if fX4_isBarredByList g q j = 0 then 1 else 3)
theorem bar_no : fX4_isBarred g q j = 0 ↔ barI g q j = 0 := by
  unfold fX4_isBarred barI
  by_cases h1 : fX4_hasNotice g q j = 0
  · rw [if_pos h1, if_pos h1]
    by_cases h2 : fX4_isBarredByList g q j = 0
    · rw [if_pos h2, if_pos h2]
    · rw [if_neg h2, if_neg h2]
      exact ⟨fun h => absurd h (by decide), fun h => absurd h (by decide)⟩
  · rw [if_neg h1, if_neg h1]
    refine ⟨fun h => absurd h (by decide), fun h => ?_⟩
    split at h
    · exact absurd h (by decide)
    · exact absurd h (by decide)
theorem bar_in : barI g q j = 0 ∨ barI g q j = 1 ∨ barI g q j = 2 ∨ barI g q j = 3 := by
  unfold barI
  repeat' split
  all_goals simp
theorem bar_cl (h : g (200 + j) 7 ≠ 0) : barI g q j = 0 ∨ barI g q j = 1 := by
  have h1 : fX4_isBarredByList g q j = 0 := by unfold fX4_isBarredByList; rw [if_neg h]
  unfold barI
  rw [if_pos h1, if_pos h1]
  split <;> simp
theorem bar_hn (h : g (200 + j) 7 ≠ 0) : fX4_hasNotice g q j = 0 ↔ barI g q j = 0 := by
  have h1 : fX4_isBarredByList g q j = 0 := by unfold fX4_isBarredByList; rw [if_neg h]
  unfold barI
  rw [if_pos h1, if_pos h1]
  by_cases h2 : fX4_hasNotice g q j = 0
  · rw [if_pos h2]; exact ⟨fun _ => rfl, fun _ => h2⟩
  · rw [if_neg h2]; exact ⟨fun h => absurd h h2, fun h => absurd h (by decide)⟩
theorem v10 {x : Int32} (h : vp_in x 10) : 0 ≤ x ∧ x < 10 := by
  obtain ⟨p, hp, rfl⟩ := vp_nI (by decide) h
  exact r_in (N := 10) (m := 10) hp (by decide) rfl
theorem jK (c : CI n nT nK cT cK g q) (hj : j < nK) : (0 ≤ nI j ∧ nI j < g 62 2) ∧ (nI j).toNatClampNeg = j := by
  have hK := ci_K c
  exact ⟨r_in hj (by omega) c.1.2.2.2.2.1, nI_clamp (by omega)⟩
theorem iT (c : CI n nT nK cT cK g q) (hi : i < nT) : (0 ≤ nI i ∧ nI i < g 61 2) ∧ (nI i).toNatClampNeg = i := by
  have hT := ci_T c
  exact ⟨r_in hi (by omega) c.1.1, nI_clamp (by omega)⟩
theorem p_redeem (c : CI n nT nK cT cK g q) (hn : n + 1 ≤ 10000) (hj : j < nK) : fX6_redeem g q (nI j) (g (200 + j) 6) = (3, 0, g, q) ∨ (g (200 + j) 7 = 0 ∧ barI g q j = 0 ∧ (fX6_redeem g q (nI j) (g (200 + j) 6)).1 = 0 ∧ (fX6_redeem g q (nI j) (g (200 + j) 6)).2.1.toInt = (g (200 + j) 8).toInt + (fX6_interestNow g q j).toInt ∧ CI (n + 1) nT nK cT cK (fX6_redeem g q (nI j) (g (200 + j) 6)).2.2.1 (fX6_redeem g q (nI j) (g (200 + j) 6)).2.2.2 ∧ ((fX6_redeem g q (nI j) (g (200 + j) 6)).2.2.1 68 0).toInt = (g 68 0).toInt + (g (200 + j) 8).toInt + (fX6_interestNow g q j).toInt ∧ (fX6_redeem g q (nI j) (g (200 + j) 6)).2.2.1 (200 + j) 7 = 1) := by
  have hT := ci_T c
  obtain ⟨e1, e2⟩ := jK c hj
  obtain ⟨t1, t2⟩ := ci_tg c hj
  obtain ⟨l1, l2⟩ := in_bd c hj
  obtain ⟨-, f2, f3, f4, f5⟩ := ci_free c (by omega)
  have k5 := c.2.2.2.2.1 j hj
  obtain ⟨-, k6, -, ⟨k8, k9⟩, -⟩ := k5
  have hs : ((g (200 + j) 8) + (fX6_interestNow g q j)).toInt = (g (200 + j) 8).toInt + (fX6_interestNow g q j).toInt := toInt_addb (by omega) (by omega)
  unfold fX6_redeem
  rw [if_pos e1, if_pos (v10 k6), e2]
  by_cases h7 : g (200 + j) 7 = 0
  · rw [if_pos h7]
    by_cases hb : fX4_isBarred g q j = 0
    · rw [if_pos hb, if_pos rfl]
      split
      · exact Or.inl rfl
      · right
        have cc := ci_close (v := 1) hj h7 (Or.inl rfl) c
        have r68 : ∀ k, (fX4_close g q j 1).1 68 k = g 68 k := fun k => cl_o (by omega) (by omega)
        have hm := ci_move (n' := n + 1) (q' := (fX4_close g q j 1).2) (x := (g (200 + j) 8) + (fX6_interestNow g q j)) (by omega) hn (by rw [r68, r68, hs]; omega) (by rw [r68, r68, hs]; unfold cB at *; omega) cc
        refine ⟨h7, bar_no.mp hb, rfl, hs, hm.1, ?_, ?_⟩
        · have h1 := hm.2
          rw [r68, hs] at h1
          exact h1.trans (by omega)
        · show fX5_move (fX4_close g q j 1).1 (fX4_close g q j 1).2 (g (200 + j) 8 + fX6_interestNow g q j) (200 + j) 7 = 1
          rw [cm_o (by omega)]
          exact cl_7 (by omega)
    · rw [if_neg hb]; exact Or.inl rfl
  · rw [if_neg h7]; exact Or.inl rfl
theorem p_renew (c : CI n nT nK cT cK g q) (hn : n + 1 ≤ 10000) (hj : j < nK) {l : Nat} (hl : (l : Int) < (g (200 + j) 8).toInt) : (fX6_renew g q (nI j) (g (200 + j) 6) (nI l) = (3, 0, g, q) ∧ (g (200 + j) 7 ≠ 0 ∨ barI g q j ≠ 0)) ∨ ((fX6_renew g q (nI j) (g (200 + j) 6) (nI l)).1 = 0 ∧ (fX6_renew g q (nI j) (g (200 + j) 6) (nI l)).2.1.toInt = (fX6_interestNow g q j).toInt + l ∧ CI (n + 1) nT nK cT cK (fX6_renew g q (nI j) (g (200 + j) 6) (nI l)).2.2.1 (fX6_renew g q (nI j) (g (200 + j) 6) (nI l)).2.2.2 ∧ ((fX6_renew g q (nI j) (g (200 + j) 6) (nI l)).2.2.1 68 0).toInt = (g 68 0).toInt + (fX6_interestNow g q j).toInt + l ∧ ((fX6_renew g q (nI j) (g (200 + j) 6) (nI l)).2.2.1 (200 + j) 8).toInt = (g (200 + j) 8).toInt - l ∧ fX6_interestNow (fX6_renew g q (nI j) (g (200 + j) 6) (nI l)).2.2.1 (fX6_renew g q (nI j) (g (200 + j) 6) (nI l)).2.2.2 j = 0 ∧ (fX6_renew g q (nI j) (g (200 + j) 6) (nI l)).2.2.1 (200 + j) 9 = (fX6_renew g q (nI j) (g (200 + j) 6) (nI l)).2.2.1 60 9) := by
  have hT := ci_T c
  obtain ⟨e1, e2⟩ := jK c hj
  obtain ⟨l1, l2⟩ := in_bd c hj
  obtain ⟨-, f2, f3, f4, f5⟩ := ci_free c (by omega)
  have k5 := c.2.2.2.2.1 j hj
  obtain ⟨-, k6, -, ⟨k8, k9⟩, -⟩ := k5
  have lI : (nI l).toInt = (l : Int) := nI_toInt (by omega)
  have o1 : (1 : Int32).toInt = 1 := rfl
  have z1 : (0 : Int32).toInt = 0 := rfl
  have hr : 0 ≤ nI l ∧ nI l ≤ g (200 + j) 8 - 1 := by
    rw [le_of_toInt, le_of_toInt, lI, toInt_subb (by omega) (by omega), o1, z1]
    omega
  have hs : ((fX6_interestNow g q j) + nI l).toInt = (fX6_interestNow g q j).toInt + l := by rw [toInt_addb (by omega) (by omega), lI]
  have hd : (g (200 + j) 8 - nI l).toInt = (g (200 + j) 8).toInt - l := by rw [toInt_subb (by omega) (by omega), lI]
  unfold fX6_renew
  rw [if_pos e1, if_pos (v10 k6), e2, if_pos hr]
  by_cases h7 : g (200 + j) 7 = 0
  · rw [if_pos h7]
    by_cases hb : fX4_isBarred g q j = 0
    · rw [if_pos hb, if_pos rfl]
      right
      unfold fX4_begin
      have c1 : CI n nT nK cT cK (sy_up g (200 + j) 8 (g (200 + j) 8 - nI l)) q := ci_tk (Nat.le_refl n) (Or.inr (Or.inl ⟨rfl, by omega⟩)) c
      have c2 := ci_began (j := j) c1
      have c3 : CI n nT nK cT cK (sy_up (sy_up (sy_up g (200 + j) 8 (g (200 + j) 8 - nI l)) (200 + j) 9 ((sy_up g (200 + j) 8 (g (200 + j) 8 - nI l)) 60 9)) (200 + j) 10 ((sy_up g (200 + j) 8 (g (200 + j) 8 - nI l)) 60 8)) q := ci_up (by omega) c2
      have r68 : ∀ k, (sy_up (sy_up (sy_up g (200 + j) 8 (g (200 + j) 8 - nI l)) (200 + j) 9 ((sy_up g (200 + j) 8 (g (200 + j) 8 - nI l)) 60 9)) (200 + j) 10 ((sy_up g (200 + j) 8 (g (200 + j) 8 - nI l)) 60 8)) 68 k = g 68 k := fun k => by rw [up_ne _ _ (by omega), up_ne _ _ (by omega), up_ne _ _ (by omega)]
      have r9 : (sy_up (sy_up (sy_up g (200 + j) 8 (g (200 + j) 8 - nI l)) (200 + j) 9 ((sy_up g (200 + j) 8 (g (200 + j) 8 - nI l)) 60 9)) (200 + j) 10 ((sy_up g (200 + j) 8 (g (200 + j) 8 - nI l)) 60 8)) (200 + j) 9 = (sy_up (sy_up (sy_up g (200 + j) 8 (g (200 + j) 8 - nI l)) (200 + j) 9 ((sy_up g (200 + j) 8 (g (200 + j) 8 - nI l)) 60 9)) (200 + j) 10 ((sy_up g (200 + j) 8 (g (200 + j) 8 - nI l)) 60 8)) 60 9 := by
        refine Eq.trans (b := g 60 9) ?_ (Eq.symm ?_)
        · rw [up_ne _ _ (by omega), sy_up_e, up_ne _ _ (by omega)]
        · rw [up_ne _ _ (by omega), up_ne _ _ (by omega), up_ne _ _ (by omega)]
      have r8 : (sy_up (sy_up (sy_up g (200 + j) 8 (g (200 + j) 8 - nI l)) (200 + j) 9 ((sy_up g (200 + j) 8 (g (200 + j) 8 - nI l)) 60 9)) (200 + j) 10 ((sy_up g (200 + j) 8 (g (200 + j) 8 - nI l)) 60 8)) (200 + j) 8 = g (200 + j) 8 - nI l := by
        rw [up_ne _ _ (by omega), up_ne _ _ (by omega), sy_up_e]
      generalize (sy_up (sy_up (sy_up g (200 + j) 8 (g (200 + j) 8 - nI l)) (200 + j) 9 ((sy_up g (200 + j) 8 (g (200 + j) 8 - nI l)) 60 9)) (200 + j) 10 ((sy_up g (200 + j) 8 (g (200 + j) 8 - nI l)) 60 8)) = G at c3 r68 r9 r8 ⊢
      have hm := ci_move (n' := n + 1) (q' := q) (x := (fX6_interestNow g q j) + nI l) (by omega) hn (by rw [r68, r68, hs]; omega) (by rw [r68, r68, hs]; unfold cB at *; omega) c3
      have r9' : fX5_move G q (fX6_interestNow g q j + nI l) (200 + j) 9 = fX5_move G q (fX6_interestNow g q j + nI l) 60 9 := by
        rw [cm_o (by omega), cm_o (by omega)]
        exact r9
      refine ⟨rfl, hs, hm.1, ?_, ?_, in_today r9', r9'⟩
      · have h1 := hm.2
        rw [r68, hs] at h1
        exact h1.trans (by omega)
      · show (fX5_move G q _ (200 + j) 8).toInt = _
        rw [cm_o (by omega), r8, hd]
    · rw [if_neg hb]; exact Or.inl ⟨rfl, Or.inr (fun z => hb (bar_no.mpr z))⟩
  · rw [if_neg h7]; exact Or.inl ⟨rfl, Or.inl h7⟩
/-- a surplus is kept -/
theorem ci_sell {r t : Int32} (c : CI n nT nK cT cK g q) (hn : n ≤ 10000) (hj : j < nK) (h0 : g (200 + j) 14 = 0) (h2 : g (200 + j) 7 = 2) (hr : 0 ≤ r.toInt) (hk : (g 68 1).toInt + r.toInt ≤ (g 68 0).toInt) : CI n nT nK cT cK (sy_up (sy_up (sy_up g (200 + j) 14 r) (200 + j) 15 t) 68 1 (g 68 1 + r)) q ∧ (g 68 1 + r).toInt = (g 68 1).toInt + r.toInt := by
  have hT := ci_T c
  obtain ⟨-, f2, f3, f4, f5⟩ := ci_free c hn
  have e : (g 68 1 + r).toInt = (g 68 1).toInt + r.toInt := toInt_addb (by omega) (by unfold cB at *; omega)
  refine ⟨?_, e⟩
  obtain ⟨k1, k2, k3, k4, k5, k6, k7, k8⟩ := c
  refine ⟨c1_up (by omega) (c1_up (by omega) (c1_up (by omega) k1)), c2_up (by omega) (c2_up (by omega) (c2_up (by omega) k2)), c3_up (by omega) (c3_up (by omega) (c3_up (by omega) k3)), c4_up hT (by omega) (c4_up hT (by omega) (c4_up hT (by omega) k4)), c5_up (by omega) (c5_up (by omega) (fun j' hj' => ?_)), ?_, c7_up hT (by omega) (c7_up hT (by omega) (c7_up hT (by omega) k7)), k8⟩
  · obtain ⟨h1, h3, h4, h5, h6, h7, h8, h9⟩ := k5 j' hj'
    by_cases hjj : j' = j
    · subst hjj
      rw [up_ne _ _ (by omega), up_ne _ _ (by omega), up_ne _ _ (by omega), up_ne _ _ (by omega), up_ne _ _ (by omega), up_ne _ _ (by omega), sy_up_e]
      exact ⟨h1, h3, h4, h5, h6, h7, hr, Or.inr h2⟩
    · rw [sy_up_o _ _ _ (show 200 + j' ≠ 200 + j by omega)]
      exact ⟨h1, h3, h4, h5, h6, h7, h8, h9⟩
  · obtain ⟨⟨m, m1, m2, m3⟩, a2, a3, a4, a5⟩ := k6
    refine ⟨⟨m, m1, ?_, ?_⟩, ?_, ?_, ?_, ?_⟩
    · rw [up_ne _ _ (by omega), up_ne _ _ (by omega), up_ne _ _ (by omega)]; exact m2
    · rw [up_ne _ _ (by omega), up_ne _ _ (by omega), up_ne _ _ (by omega), sy_up_o _ _ _ (by omega), sy_up_o _ _ _ (by omega), sy_up_o _ _ _ (by omega)]; exact m3
    · rw [sy_up_e, e, a2]
      rw [isum_at (f := fun j => (g (200 + j) 14).toInt) (f' := fun k => (sy_up (sy_up (sy_up g (200 + j) 14 r) (200 + j) 15 t) 68 1 (g 68 1 + r) (200 + k) 14).toInt) nK hj (fun k h1 h3 => by rw [up_ne _ _ (by omega), up_ne _ _ (by omega), up_ne _ _ (by omega)])]
      rw [up_ne _ _ (by omega), up_ne _ _ (by omega), sy_up_e, h0]
      have z1 : (0 : Int32).toInt = 0 := rfl
      omega
    · rw [sy_up_e, e, up_ne _ _ (by omega), up_ne _ _ (by omega), up_ne _ _ (by omega)]; exact hk
    · rw [up_ne _ _ (by omega), up_ne _ _ (by omega), up_ne _ _ (by omega)]; exact a4
    · rw [up_ne _ _ (by omega), up_ne _ _ (by omega), up_ne _ _ (by omega), up_ne _ _ (by omega), up_ne _ _ (by omega), up_ne _ _ (by omega)]; exact a5
end MON
