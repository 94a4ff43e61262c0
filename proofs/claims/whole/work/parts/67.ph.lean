section BND
variable {B m5 m6 nT nK cT cK : Nat} {gc : sG} {q : sQ} {gm : sG} {q' : sQ}
theorem bmod_id {x : Int} (h1 : -2147483648 ≤ x) (h2 : x < 2147483648) : Int.bmod x (2 ^ 32) = x := by
  rw [Int.bmod_def]
  split <;> omega
theorem toInt_addb {a b : Int32} (h1 : -2147483648 ≤ a.toInt + b.toInt) (h2 : a.toInt + b.toInt < 2147483648) : (a + b).toInt = a.toInt + b.toInt := by
  rw [Int32.toInt_add]
  exact bmod_id h1 h2
theorem toInt_subb {a b : Int32} (h1 : -2147483648 ≤ a.toInt - b.toInt) (h2 : a.toInt - b.toInt < 2147483648) : (a - b).toInt = a.toInt - b.toInt := by
  rw [Int32.toInt_sub]
  exact bmod_id h1 h2
theorem toInt_mulb {a b : Int32} (h1 : -2147483648 ≤ a.toInt * b.toInt) (h2 : a.toInt * b.toInt < 2147483648) : (a * b).toInt = a.toInt * b.toInt := by
  rw [Int32.toInt_mul]
  exact bmod_id h1 h2
theorem toInt_divb {a b : Int32} (ha : 0 ≤ a.toInt) (hb : 0 < b.toInt) : (a / b).toInt = a.toInt / b.toInt := by
  rw [Int32.toInt_div, Int.tdiv_eq_ediv_of_nonneg ha]
  have h1 : 0 ≤ a.toInt / b.toInt := Int.ediv_nonneg ha (by omega)
  have h2 : a.toInt / b.toInt ≤ a.toInt := Int.ediv_le_self _ ha
  have h3 := Int32.toInt_lt a
  exact bmod_id (by omega) (by omega)
theorem cost_bd {L r : Int32} (h1 : 0 ≤ L.toInt) (h2 : L.toInt ≤ 100000) (h3 : 0 ≤ r.toInt) (h4 : r.toInt ≤ 100) : 0 ≤ ((L * r + 999) / 1000).toInt ∧ ((L * r + 999) / 1000).toInt ≤ 10000 := by
  have m1 : 0 ≤ L.toInt * r.toInt := Int.mul_nonneg h1 h3
  have m2 : L.toInt * r.toInt ≤ 100000 * 100 := Int.mul_le_mul h2 h4 h3 (by omega)
  have e1 : (L * r).toInt = L.toInt * r.toInt := toInt_mulb (by omega) (by omega)
  have e9 : (999 : Int32).toInt = 999 := rfl
  have e2 : (L * r + 999).toInt = L.toInt * r.toInt + 999 := by rw [toInt_addb (by rw [e1, e9]; omega) (by rw [e1, e9]; omega), e1, e9]
  have e3 : (1000 : Int32).toInt = 1000 := rfl
  rw [toInt_divb (by rw [e2]; omega) (by rw [e3]; omega), e2, e3]
  omega
theorem rate_bd (h : INV B m5 m6 nT nK cT cK gc q gm) {s : Int32} (hs : s = 0 ∨ s = 1 ∨ s = 2) (d : Int32) : 0 ≤ (fX2_rateOn gc q s d).toInt ∧ (fX2_rateOn gc q s d).toInt ≤ 100 := by
  obtain ⟨t, ht, e20⟩ := h.2.1.2.2.2.2.1
  have key : ∀ n, n ≤ t → 0 ≤ (lX2_rateOn gc q s d n).toInt ∧ (lX2_rateOn gc q s d n).toInt ≤ 100 := by
    intro n
    induction n with
    | zero =>
      intro _
      unfold lX2_rateOn fX2_firstRate
      rcases hs with rfl | rfl | rfl <;> decide
    | succ n ih =>
      intro hn
      unfold lX2_rateOn
      split
      · split
        · exact ih (by omega)
        · rw [rd h.1 (a := 24) (b := n) rfl]
          exact h.2.2.2.1.2.2.2.1 n (by omega)
      · exact ih (by omega)
  unfold fX2_rateOn
  rw [rd h.1 (a := 0) (b := 20) rfl, e20, nI_clamp (by omega)]
  exact key t (Nat.le_refl _)
theorem int_bd (h : INV B m5 m6 nT nK cT cK gc q gm) {L b D : Int32} (h1 : 0 ≤ L.toInt) (h2 : L.toInt ≤ 100000) : ∀ n : Nat, n ≤ 400 → 0 ≤ (lX2_interest gc q L b D n).toInt ∧ (lX2_interest gc q L b D n).toInt ≤ n * 10000
  | 0, _ => by
    show 0 ≤ (0 : Int32).toInt ∧ (0 : Int32).toInt ≤ _
    have : (0 : Int32).toInt = 0 := rfl
    omega
  | n + 1, hn => by
    have ih := int_bd (b := b) (D := D) h h1 h2 n (by omega)
    have hc : 0 ≤ (fX2_costOf gc q L (nI n) (b + nI n * 14)).toInt ∧ (fX2_costOf gc q L (nI n) (b + nI n * 14)).toInt ≤ 10000 := by
      unfold fX2_costOf
      split
      · have hr := rate_bd h (q_step (gc := gc) (q := q) (nI n)) (b + nI n * 14)
        exact cost_bd h1 h2 hr.1 hr.2
      · decide
    show 0 ≤ (lX2_interest gc q L b D n + fX2_costOf gc q L (nI n) (b + nI n * 14)).toInt ∧ (lX2_interest gc q L b D n + fX2_costOf gc q L (nI n) (b + nI n * 14)).toInt ≤ _
    rw [toInt_addb (by omega) (by omega)]
    omega
theorem now_bd (h : INV B m5 m6 nT nK cT cK gc q gm) {j : Nat} (hj : j < nK) : 0 ≤ (fX6_interestNow gc q j).toInt ∧ (fX6_interestNow gc q j).toInt ≤ 3600000 := by
  have hK := inv_K h
  have hl := h.2.2.2.1.2.2.1 j hj
  obtain ⟨b, d, e1, e2, hb, hd⟩ := q_days h hj
  unfold fX6_interestNow fX2_interest
  rw [r_K h (f := 8) (o := 35) (if_pos (by omega)), r_K h (f := 9) (o := 37) (if_pos (by omega)), r_S h (o := 0) (k := 1) rfl, e1, e2, nI_clamp (show d < 2 ^ 31 by omega), nI_clamp (show b < 2 ^ 31 by omega)]
  have := int_bd (b := nI b) (D := nI d) h hl.1 hl.2 ((d - b) / 14 + 1) (by omega)
  split
  · split
    · omega
    · decide
  · decide
end BND
section OPH
variable {B nT nK cT cK : Nat} {gc : sG} {q : sQ} {gm : sG} {q' : sQ}
theorem o_notice (h : INV B 40 40 nT nK cT cK gc q gm) (x0 x1 : Int32) : OKv (wf 1 9 2) (B + oB) nT nK cT cK (fX6_notice gc q x0 x1) (fX7_notice gm q' x0 x1) := by
  have hK := inv_K h
  unfold fX6_notice fX7_notice
  rw [h.2.1.2.2.1, h.2.2.1.2.2.2.1]
  simp only [cv9, cvn hK]
  by_cases c0 : 0 ≤ x0 ∧ x0 < nI nK
  · obtain ⟨j, hj, rfl, ej⟩ := jof (by omega) c0
    by_cases c1 : 0 ≤ x1 ∧ x1 < 10
    · simp only [if_pos c0, if_pos c1, ej]
      unfold fX4_isOpenOrSold fX4_hasNotice
      rw [r_K h (f := 7) (o := 39) (if_pos (by omega))]
      simp only [q_notice h hj]
      have hp : x1 ≠ -1 := fun z => by rw [z] at c1; exact absurd c1.1 (by decide)
      have hi := inv_notice hj (by omega) hp (e00 h)
      rw [up_ne (k' := 1) gm _ (by omega)] at hi
      by_cases c4 : gc (200 + j) 11 = -1
      · by_cases c3 : gm 39 j = 0
        · simp only [if_pos c4, if_pos c3, if_true, if_neg (show ¬ (1 : Int32) = 0 by decide)]
          rw [up_ne gc _ (show 60 ≠ 200 + j ∨ _ by omega)]
          exact okv_yes (by rw [up_ne _ _ (by omega), up_ne _ _ (by omega), sy_up_e]) hi
        · by_cases c5 : gm 39 j = 2
          · simp only [if_pos c4, if_neg c3, if_pos c5, if_true, if_neg (show ¬ (1 : Int32) = 0 by decide)]
            rw [up_ne gc _ (show 60 ≠ 200 + j ∨ _ by omega)]
            exact okv_yes (by rw [up_ne _ _ (by omega), up_ne _ _ (by omega), sy_up_e]) hi
          · simp only [if_neg c3, if_neg c5, if_true]
            exact okv_no h rfl (by decide)
      · by_cases c3 : gm 39 j = 0
        · simp only [if_neg c4, if_pos c3, if_neg (show ¬ (1 : Int32) = 0 by decide)]
          exact okv_no h rfl (by decide)
        · by_cases c5 : gm 39 j = 2
          · simp only [if_neg c4, if_neg c3, if_pos c5, if_neg (show ¬ (1 : Int32) = 0 by decide)]
            exact okv_no h rfl (by decide)
          · simp only [if_neg c3, if_neg c5, if_true]
            exact okv_no h rfl (by decide)
    · simp only [if_pos c0, if_neg c1]
      exact okv_no h rfl (by decide)
  · simp only [if_neg c0]
    exact okv_no h rfl (by decide)
theorem o_show (h : INV B 40 40 nT nK cT cK gc q gm) (x0 : Int32) : OKr (wf 1 9 2) (B + oB) nT nK cT cK (fX6_show gc q x0) (fX7_show gm q' x0) := by
  have hK := inv_K h
  unfold fX6_show fX7_show
  rw [h.2.1.2.2.1, h.2.2.1.2.2.2.1]
  simp only [cvn hK]
  by_cases c0 : 0 ≤ x0 ∧ x0 < nI nK
  · obtain ⟨j, hj, rfl, ej⟩ := jof (by omega) c0
    simp only [if_pos c0, ej]
    unfold fX4_hasNotice
    simp only [q_notice h hj]
    by_cases c4 : gc (200 + j) 11 = -1
    · simp only [if_pos c4, not_true, if_false]
      exact ok_no h rfl (by decide) (by decide)
    · simp only [if_neg c4]
      rw [if_pos (show ¬ (1 : Int32) = 0 by decide)]
      refine ok_yes ?_ (by rw [up_ne _ _ (by omega), sy_up_e]) (inv_unnotice hj (e00 h))
      rcases h.2.2.2.2.2.1 j hj with ⟨-, e⟩ | ⟨d, D, -, -, -, -, -, e, -⟩
      · exact absurd e c4
      · exact e
  · simp only [if_neg c0]
    exact ok_no h rfl (by decide) (by decide)
theorem o_police (h : INV B 40 40 nT nK cT cK gc q gm) (x0 : Int32) : OKr (wf 1 9 2) (B + oB) nT nK cT cK (fX6_police gc q x0) (fX7_police gm q' x0) := by
  have hT := inv_T h
  unfold fX6_police fX7_police
  rw [h.2.1.1, h.2.2.1.1]
  simp only [cvn hT]
  by_cases c0 : 0 ≤ x0 ∧ x0 < nI nT
  · obtain ⟨i, hi, rfl, ei⟩ := jof (by omega) c0
    simp only [if_pos c0, ei]
    rw [r_T h (f := 6) (o := 9) (if_pos (by omega))]
    by_cases c1 : gm 9 i = 0
    · simp only [if_pos c1]
      have hi2 := inv_p (a := 9) (b := i) (v := 1) (if_pos (show i < 40 by omega)) (by omega) (by omega) (by omega) (by omega) (by omega) (by omega) (e00 h)
      exact ok_yes (q_open hi2 hi).symm (by rw [up_ne _ _ (by omega), sy_up_e]) hi2
    · simp only [if_neg c1]
      exact ok_no h rfl (by decide) (by decide)
  · simp only [if_neg c0]
    exact ok_no h rfl (by decide) (by decide)
/-- a stored thing comes to a place -/
theorem inv_come {i : Nat} {v : Int32} (hi : i < nT) (hs : gm 8 i ≠ 0) (h : INV B 40 40 nT nK cT cK gc q gm) : INV B 40 40 nT nK cT cK (fX3_comeTo gc q' i v (gc 60 9)) q (fX7_come gm q' (nI i) v) := by
  have hT := inv_T h
  have e60 : gc 60 9 = gm 0 1 := rd h.1 (a := 0) (b := 1) rfl
  unfold fX3_comeTo fX7_come
  rw [nI_clamp (by omega)]
  rcases h.2.2.2.2.1 i hi with ⟨e1, -, -⟩ | ⟨-, -, e3⟩
  · exact absurd e1 hs
  rw [e3, e60]
  by_cases c : gm 11 i = v
  · rw [if_pos c, if_pos c, up_id]
    subst c
    rw [up_id]
    exact h
  · rw [if_neg c, if_neg c, up_cm gm _ _ (by omega)]
    exact inv_p (a := 12) (b := i) (if_pos (by omega)) (by omega) (by omega) (by omega) (by omega) (by omega) (by omega) (inv_place hi hs h)
theorem o_stray (h : INV B 40 40 nT nK cT cK gc q gm) (x0 x1 x2 : Int32) : OKv (wf 1 9 2) (B + oB) nT nK cT cK (fX6_stray gc q x0 x1 x2) (fX7_stray gm q' x0 x1 x2) := by
  have hT := inv_T h
  unfold fX6_stray fX7_stray
  rw [h.2.1.1, h.2.2.1.1]
  simp only [cvn hT, cv2, cv3]
  by_cases c0 : 0 ≤ x0 ∧ x0 < nI nT
  · obtain ⟨i, hi, rfl, ei⟩ := jof (by omega) c0
    by_cases c1 : 0 ≤ x1 ∧ x1 < 3
    · by_cases c2 : 0 ≤ x2 ∧ x2 < 4
      · simp only [if_pos c0, if_pos c1, if_pos c2, ei]
        rw [r_T h (f := 5) (o := 8) (if_pos (by omega))]
        by_cases c3 : gm 8 i = 0
        · rw [if_neg (fun z => z c3), if_pos c3]
          exact okv_no h rfl (by decide)
        · rw [if_pos c3, if_neg c3]
          have hi2 := inv_come (q' := q') (v := 4 * x1 + x2) hi (by rw [up_ne _ _ (by omega)]; exact c3) (e00 h)
          refine okv_yes ?_ hi2
          unfold fX7_come
          split <;> rw [up_ne _ _ (by omega), up_ne _ _ (by omega), sy_up_e]
      · simp only [if_pos c0, if_pos c1, if_neg c2]
        exact okv_no h rfl (by decide)
    · simp only [if_pos c0, if_neg c1]
      exact okv_no h rfl (by decide)
  · simp only [if_neg c0]
    exact okv_no h rfl (by decide)
theorem o_transfer (h : INV B 40 40 nT nK cT cK gc q gm) (x0 x1 : Int32) : OKr (wf 1 9 2) (B + oB) nT nK cT cK (fX6_transfer gc q x0 x1) (fX7_transfer gm q' x0 x1) := by
  have hT := inv_T h
  unfold fX6_transfer fX7_transfer
  rw [h.2.1.1, h.2.2.1.1]
  simp only [cvn hT, cv2]
  by_cases c0 : 0 ≤ x0 ∧ x0 < nI nT
  · obtain ⟨i, hi, rfl, ei⟩ := jof (by omega) c0
    by_cases c1 : 0 ≤ x1 ∧ x1 < 3
    · simp only [if_pos c0, if_pos c1, ei]
      rw [q_found h hi, q_shelf h hi]
      by_cases c2 : fX3_canBeFound gc q i = 0
      · rw [if_neg (fun z => z c2), if_pos c2]
        exact ok_no h rfl (by decide) (by decide)
      · rw [if_pos c2, if_neg c2]
        by_cases c3 : fX6_shelfFor gc q i x1 = -1
        · rw [if_pos c3, if_pos c3]
          exact ok_no h rfl (by decide) (by decide)
        · rw [if_neg c3, if_neg c3]
          have hs : gm 8 i ≠ 0 := fun z => c2 (by unfold fX3_canBeFound; rw [r_T h (f := 5) (o := 8) (if_pos (by omega)), if_pos z])
          have hs0 : sy_up gm 0 0 0 8 i ≠ 0 := by rw [up_ne _ _ (by omega)]; exact hs
          have hi2 := inv_come (q' := q') (v := 4 * x1 + fX6_shelfFor gc q i x1) hi hs0 (e00 h)
          have e11 : fX7_come (sy_up gm 0 0 0) q' (nI i) (4 * x1 + fX6_shelfFor gc q i x1) 11 i = 4 * x1 + fX6_shelfFor gc q i x1 := by
            unfold fX7_come
            rw [ei]
            split <;> exact sy_up_e _ _ _ _
          have e18 : fX3_comeTo gc q i (4 * x1 + fX6_shelfFor gc q i x1) (gc 60 9) (100 + i) 8 = 4 * x1 + fX6_shelfFor gc q i x1 := by
            unfold fX3_comeTo
            split
            · assumption
            · rw [up_ne _ _ (by omega), sy_up_e]
          have hs2 : fX7_come (sy_up gm 0 0 0) q' (nI i) (4 * x1 + fX6_shelfFor gc q i x1) 8 i ≠ 0 := by
            unfold fX7_come
            split <;> (rw [up_ne _ _ (by omega), up_ne _ _ (by omega)]; exact hs0)
          rw [e11, e18]
          refine ok_yes rfl ?_ (inv_book hi hs2 hi2)
          unfold fX7_come
          split <;> rw [up_ne _ _ (by omega), up_ne _ _ (by omega), up_ne _ _ (by omega), sy_up_e]
    · simp only [if_pos c0, if_neg c1]
      exact ok_no h rfl (by decide) (by decide)
  · simp only [if_neg c0]
    exact ok_no h rfl (by decide) (by decide)
end OPH
