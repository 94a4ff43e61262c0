section OPI
variable {B nT nK cT cK : Nat} {gc : sG} {q : sQ} {gm : sG} {q' : sQ}
theorem o_thingOf (h : INV B 40 40 nT nK cT cK gc q gm) (x0 x1 : Int32) : OKr (wf 1 2 9) (B + oB) nT nK cT cK (fX6_thingOf gc q x0 x1) (fX7_thingOf gm q' x0 x1) := by
  have hT := inv_T h
  unfold fX6_thingOf fX7_thingOf
  rw [h.2.1.1, h.2.2.1.1]
  simp only [cvn hT]
  by_cases c0 : 0 ≤ x0 ∧ x0 < nI nT
  · obtain ⟨i, hi, rfl, ei⟩ := jof (by omega) c0
    by_cases c1 : 0 ≤ x1 ∧ x1 ≤ 6
    · simp only [if_pos c0, if_pos c1, ei]
      rw [r_T h (f := 1) (o := 4) (if_pos (by omega)), r_T h (f := 4) (o := 7) (if_pos (by omega)), r_T h (f := 5) (o := 8) (if_pos (by omega)), r_T h (f := 6) (o := 9) (if_pos (by omega)), q_open (e00 h) hi, q_value (e00 h) hi]
      have hb := i32_bd c1
      have h6 : (6 : Int32).toInt = 6 := rfl
      have h0 : (0 : Int32).toInt = 0 := rfl
      by_cases e0 : x1 = 0
      · subst e0
        rw [if_pos rfl, if_neg (show ¬ (4 : Int32) ≤ 0 by decide), if_pos rfl]
        exact ok_ask h rfl
      by_cases e1 : x1 = 1
      · subst e1
        rw [if_neg e0, if_pos rfl, if_neg (show ¬ (4 : Int32) ≤ 1 by decide), if_neg e0, if_pos rfl]
        exact ok_ask h rfl
      by_cases e2 : x1 = 2
      · subst e2
        rw [if_neg e0, if_neg e1, if_pos rfl, if_neg (show ¬ (4 : Int32) ≤ 2 by decide), if_neg e0, if_neg e1, if_pos rfl]
        exact ok_ask h rfl
      by_cases e3 : x1 = 3
      · subst e3
        rw [if_neg e0, if_neg e1, if_neg e2, if_pos rfl, if_neg (show ¬ (4 : Int32) ≤ 3 by decide), if_neg e0, if_neg e1, if_neg e2]
        split <;> exact ok_ask h rfl
      have h4 : 4 ≤ x1 := by
        rw [le_of_toInt]
        have z0 := fun z => e0 (Int32.toInt_inj.mp (z : x1.toInt = (0 : Int32).toInt))
        have z1 := fun z => e1 (Int32.toInt_inj.mp (z : x1.toInt = (1 : Int32).toInt))
        have z2 := fun z => e2 (Int32.toInt_inj.mp (z : x1.toInt = (2 : Int32).toInt))
        have z3 := fun z => e3 (Int32.toInt_inj.mp (z : x1.toInt = (3 : Int32).toInt))
        have k1 : (1 : Int32).toInt = 1 := rfl
        have k2 : (2 : Int32).toInt = 2 := rfl
        have k3 : (3 : Int32).toInt = 3 := rfl
        have k4 : (4 : Int32).toInt = 4 := rfl
        rw [h0] at z0
        rw [k1] at z1
        rw [k2] at z2
        rw [k3] at z3
        rw [k4]
        rcases (show x1.toInt = 0 ∨ x1.toInt = 1 ∨ x1.toInt = 2 ∨ x1.toInt = 3 ∨ 4 ≤ x1.toInt by omega) with z | z | z | z | z
        · exact absurd z z0
        · exact absurd z z1
        · exact absurd z z2
        · exact absurd z z3
        · exact z
      simp only [if_neg e0, if_neg e1, if_neg e2, if_neg e3, if_pos h4]
      by_cases e4 : x1 = 4
      · simp only [if_pos e4]
        rcases h.2.2.2.2.1 i hi with ⟨a1, a2, -⟩ | ⟨a1, a2, -⟩
        · rw [if_pos a1, a2]
          exact ok_ask h rfl
        · rw [if_neg (by rw [a1]; decide), a2]
          exact ok_ask h rfl
      · simp only [if_neg e4]
        by_cases e5 : x1 = 5
        · simp only [if_pos e5]
          exact ok_ask h rfl
        · simp only [if_neg e5]
          split <;> exact ok_ask h rfl
    · simp only [if_pos c0, if_neg c1]
      exact ok_no h rfl (by decide) (by decide)
  · simp only [if_neg c0]
    exact ok_no h rfl (by decide) (by decide)
theorem i32_cases {x : Int32} {n : Nat} (hn : n < 2 ^ 31) (h : 0 ≤ x ∧ x ≤ nI n) : ∃ k, k ≤ n ∧ x = nI k := by
  have h1 := nI_self h.1
  have h2 := h.2
  rw [h1] at h2
  have h4 : x.toNatClampNeg < 2 ^ 31 := by
    have := Int32.toInt_lt x
    unfold Int32.toNatClampNeg
    omega
  exact ⟨x.toNatClampNeg, (nI_leI h4 hn).mp h2, h1⟩
theorem o_ticketOf (h : INV B 40 40 nT nK cT cK gc q gm) (x0 x1 : Int32) : OKr (wf 1 2 9) (B + oB) nT nK cT cK (fX6_ticketOf gc q x0 x1) (fX7_ticketOf gm q' x0 x1) := by
  have hK := inv_K h
  have hT := inv_T h
  unfold fX6_ticketOf fX7_ticketOf
  rw [h.2.1.2.2.1, h.2.2.1.2.2.2.1]
  simp only [cvn hK]
  by_cases c0 : 0 ≤ x0 ∧ x0 < nI nK
  · obtain ⟨j, hj, rfl, ej⟩ := jof (by omega) c0
    by_cases c1 : 0 ≤ x1 ∧ x1 ≤ 9
    · simp only [if_pos c0, if_pos c1, ej]
      obtain ⟨t1, t2, t3⟩ := i_tg h hj
      unfold fX4_lastDay
      rw [r_K h (f := 7) (o := 39) (if_pos (by omega)), r_K h (f := 8) (o := 35) (if_pos (by omega)), r_K h (f := 6) (o := 33) (if_pos (by omega)), r_K h (f := 9) (o := 37) (if_pos (by omega)), r_K h (f := 10) (o := 38) (if_pos (by omega)), r_K h (f := 14) (o := 43) (if_pos (by omega)), r_K h (f := 13) (o := 40) (if_pos (by omega)), q_interest (e00 h) hj, q_bars (e00 h) hj, h.2.2.1.2.2.2.2.2.2.2.1 _ t1, t2]
      obtain ⟨k, hk, rfl⟩ := i32_cases (n := 9) (by decide) c1
      unfold fX4_hasNotice
      rcases (show k = 0 ∨ k = 1 ∨ k = 2 ∨ k = 3 ∨ k = 4 ∨ k = 5 ∨ k = 6 ∨ k = 7 ∨ k = 8 ∨ k = 9 by omega) with rfl | rfl | rfl | rfl | rfl | rfl | rfl | rfl | rfl | rfl
      · rw [if_pos (show nI 0 = 0 by decide), if_neg (show ¬ (5 : Int32) ≤ nI 0 by decide), if_pos (show nI 0 = 0 by decide)]
        exact ok_ask h rfl
      · rw [if_neg (show ¬ nI 1 = 0 by decide), if_pos (show nI 1 = 1 by decide), if_neg (show ¬ (5 : Int32) ≤ nI 1 by decide), if_neg (show ¬ nI 1 = 0 by decide), if_pos (show nI 1 = 1 by decide)]
        exact ok_ask h rfl
      · simp only [if_neg (show ¬ nI 2 = 0 by decide), if_neg (show ¬ nI 2 = 1 by decide), if_pos (show nI 2 = 2 by decide), if_neg (show ¬ (5 : Int32) ≤ nI 2 by decide)]
        exact ok_ask h rfl
      · simp only [if_neg (show ¬ nI 3 = 0 by decide), if_neg (show ¬ nI 3 = 1 by decide), if_neg (show ¬ nI 3 = 2 by decide), if_pos (show nI 3 = 3 by decide), if_neg (show ¬ (5 : Int32) ≤ nI 3 by decide)]
        exact ok_ask h rfl
      · simp only [if_neg (show ¬ nI 4 = 0 by decide), if_neg (show ¬ nI 4 = 1 by decide), if_neg (show ¬ nI 4 = 2 by decide), if_neg (show ¬ nI 4 = 3 by decide), if_pos (show nI 4 = 4 by decide), if_neg (show ¬ (5 : Int32) ≤ nI 4 by decide)]
        exact ok_ask h rfl
      · simp only [if_neg (show ¬ nI 5 = 0 by decide), if_neg (show ¬ nI 5 = 1 by decide), if_neg (show ¬ nI 5 = 2 by decide), if_neg (show ¬ nI 5 = 3 by decide), if_neg (show ¬ nI 5 = 4 by decide), if_pos (show nI 5 = 5 by decide), if_pos (show (5 : Int32) ≤ nI 5 by decide), if_neg (show ¬ (8 : Int32) ≤ nI 5 by decide)]
        exact ok_ask h rfl
      · simp only [if_neg (show ¬ nI 6 = 0 by decide), if_neg (show ¬ nI 6 = 1 by decide), if_neg (show ¬ nI 6 = 2 by decide), if_neg (show ¬ nI 6 = 3 by decide), if_neg (show ¬ nI 6 = 4 by decide), if_neg (show ¬ nI 6 = 5 by decide), if_pos (show nI 6 = 6 by decide), if_pos (show (5 : Int32) ≤ nI 6 by decide), if_neg (show ¬ (8 : Int32) ≤ nI 6 by decide)]
        exact ok_ask h rfl
      · simp only [if_neg (show ¬ nI 7 = 0 by decide), if_neg (show ¬ nI 7 = 1 by decide), if_neg (show ¬ nI 7 = 2 by decide), if_neg (show ¬ nI 7 = 3 by decide), if_neg (show ¬ nI 7 = 4 by decide), if_neg (show ¬ nI 7 = 5 by decide), if_neg (show ¬ nI 7 = 6 by decide), if_pos (show nI 7 = 7 by decide), if_pos (show (5 : Int32) ≤ nI 7 by decide), if_neg (show ¬ (8 : Int32) ≤ nI 7 by decide)]
        exact ok_ask h rfl
      · simp only [if_neg (show ¬ nI 8 = 0 by decide), if_neg (show ¬ nI 8 = 1 by decide), if_neg (show ¬ nI 8 = 2 by decide), if_neg (show ¬ nI 8 = 3 by decide), if_neg (show ¬ nI 8 = 4 by decide), if_neg (show ¬ nI 8 = 5 by decide), if_neg (show ¬ nI 8 = 6 by decide), if_neg (show ¬ nI 8 = 7 by decide), if_pos (show nI 8 = 8 by decide), if_pos (show (5 : Int32) ≤ nI 8 by decide), if_pos (show (8 : Int32) ≤ nI 8 by decide)]
        by_cases a1 : gc (200 + j) 11 = -1 <;> by_cases a2 : fX4_isBarredByList gc q j = 0 <;> simp only [a1, a2, if_true, if_false, if_neg (show ¬ (1 : Int32) = 0 by decide)] <;> exact ok_ask h (by decide)
      · simp only [if_neg (show ¬ nI 9 = 0 by decide), if_neg (show ¬ nI 9 = 1 by decide), if_neg (show ¬ nI 9 = 2 by decide), if_neg (show ¬ nI 9 = 3 by decide), if_neg (show ¬ nI 9 = 4 by decide), if_neg (show ¬ nI 9 = 5 by decide), if_neg (show ¬ nI 9 = 6 by decide), if_neg (show ¬ nI 9 = 7 by decide), if_neg (show ¬ nI 9 = 8 by decide), if_pos (show (5 : Int32) ≤ nI 9 by decide), if_pos (show (8 : Int32) ≤ nI 9 by decide)]
        exact ok_ask h rfl
    · simp only [if_pos c0, if_neg c1]
      exact ok_no h rfl (by decide) (by decide)
  · simp only [if_neg c0]
    exact ok_no h rfl (by decide) (by decide)
theorem o_interestAnew (h : INV B 40 40 nT nK cT cK gc q gm) (x0 : Int32) : OKr (wf 1 9 9) (B + oB) nT nK cT cK (fX6_interestAnew gc q x0) (fX7_interestAnew gm q' x0) := by
  have hK := inv_K h
  unfold fX6_interestAnew fX7_interestAnew
  rw [h.2.1.2.2.1, h.2.2.1.2.2.2.1]
  simp only [cvn hK]
  by_cases c0 : 0 ≤ x0 ∧ x0 < nI nK
  · obtain ⟨j, hj, rfl, ej⟩ := jof (by omega) c0
    simp only [if_pos c0, ej]
    rw [q_interest (e00 h) hj, ← q_anew h hj]
    split <;> exact ok_ask h rfl
  · simp only [if_neg c0]
    exact ok_no h rfl (by decide) (by decide)
theorem o_expertOf (h : INV B 40 40 nT nK cT cK gc q gm) (x0 x1 : Int32) : OKr (wf 1 2 9) (B + oB) nT nK cT cK (fX6_expertOf gc q x0 x1) (fX7_expertOf gm q' x0 x1) := by
  unfold fX6_expertOf fX7_expertOf
  simp only [cv3]
  by_cases c0 : 0 ≤ x0 ∧ x0 < 4
  · obtain ⟨k, hk, rfl, ek⟩ := jof4 c0
    by_cases c1 : 0 ≤ x1 ∧ x1 ≤ 2
    · simp only [if_pos c0, if_pos c1, ek]
      rw [rd h.1 (a := 15) (b := k) (if_pos hk), rd h.1 (a := 16) (b := k) (if_pos hk), rd h.1 (a := 17) (b := k) (if_pos hk)]
      split
      · exact ok_ask h rfl
      · split <;> exact ok_ask h rfl
    · simp only [if_pos c0, if_neg c1]
      exact ok_no h rfl (by decide) (by decide)
  · simp only [if_neg c0]
    exact ok_no h rfl (by decide) (by decide)
theorem o_bears (h : INV B 40 40 nT nK cT cK gc q gm) (x0 x1 : Int32) : OKr (wf 1 9 9) (B + oB) nT nK cT cK (fX6_bears gc q x0 x1) (fX7_bears gm q' x0 x1) := by
  unfold fX6_bears fX7_bears
  simp only [cv2, cv3]
  rw [q_roomN (e00 h)]
  split
  · split
    · exact ok_ask h rfl
    · exact ok_no h rfl (by decide) (by decide)
  · exact ok_no h rfl (by decide) (by decide)
theorem o_money (h : INV B 40 40 nT nK cT cK gc q gm) (x0 : Int32) : OKr (wf 9 1 9) (B + oB) nT nK cT cK (fX6_money gc q x0) (fX7_money gm q' x0) := by
  unfold fX6_money fX7_money fX5_free
  rw [rd h.1 (a := 0) (b := 44) rfl, rd h.1 (a := 0) (b := 45) rfl, rd h.1 (a := 0) (b := 46) rfl]
  split
  · split
    · exact ok_ask h rfl
    · split
      · exact ok_ask h rfl
      · split <;> exact ok_ask h rfl
  · exact ok_no h rfl (by decide) (by decide)
/-- day and moneyAnew throw nothing -/
theorem o_day (h : INV B 40 40 nT nK cT cK gc q gm) : fX6_day gc q = (fX7_day gm q').1 ∧ INV (B + oB) 40 40 nT nK cT cK gc q (fX7_day gm q').2 :=
  ⟨rd h.1 (a := 0) (b := 1) rfl, e00 h⟩
theorem o_moneyAnew (h : INV B 40 40 nT nK cT cK gc q gm) : fX6_moneyAnew gc q = (fX7_moneyAnew gm q').1 ∧ INV (B + oB) 40 40 nT nK cT cK gc q (fX7_moneyAnew gm q').2 := by
  refine ⟨?_, e00 h⟩
  obtain ⟨m, hm, e4, e0⟩ := h.2.2.1.2.2.2.2.2.2.1
  unfold fX6_moneyAnew fX5_sumOfMoves fX7_moneyAnew
  rw [e4, nI_clamp (by omega), lX5_msum, ← e0]
  exact rd h.1 (a := 0) (b := 44) rfl
end OPI
