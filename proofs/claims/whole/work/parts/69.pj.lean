section OPJ
variable {B nT nK cT cK : Nat} {gc : sG} {q : sQ} {gm : sG} {q' : sQ}
theorem inv_am (h : INV B 40 40 nT nK cT cK gc q gm) : (gm 0 44).toInt.natAbs ≤ B := by
  have := h.2.2.2.1.2.2.2.2
  omega
/-- fX5_move leaves all else -/
theorem mv_o {g : sG} {x : Int32} {o k : Nat} (ho : o ≠ 68 ∧ o ≠ 78) : fX5_move g q x o k = g o k := by
  unfold fX5_move
  split
  · rw [up_ne _ _ (by omega), up_ne _ _ (by omega)]
  · rw [up_ne _ _ (by omega), up_ne _ _ (by omega), up_ne _ _ (by omega)]
theorem mv_0 {g : sG} {x : Int32} : fX5_move g q x 68 0 = g 68 0 + x := by
  unfold fX5_move
  split
  · rw [up_ne _ _ (by omega), sy_up_e]
  · rw [up_ne _ _ (by omega), up_ne _ _ (by omega), sy_up_e]
theorem mv_k {g : sG} {x : Int32} {k : Nat} (hk : k ≠ 0 ∧ k ≠ 4) : fX5_move g q x 68 k = g 68 k := by
  unfold fX5_move
  split
  · rw [up_ne _ _ (by omega), up_ne _ _ (by omega)]
  · rw [up_ne _ _ (by omega), up_ne _ _ (by omega), up_ne _ _ (by omega)]
theorem neg_sub (a x : Int32) : a + -x = a - x := (Int32.sub_eq_add_neg a x).symm
theorem o_deposit (hB : B ≤ 2048000000) (h : INV B 40 40 nT nK cT cK gc q gm) (x0 : Int32) : OKr (wf 9 1 2) (B + oB) nT nK cT cK (fX6_deposit gc q x0) (fX7_deposit gm q' x0) := by
  unfold fX6_deposit fX7_deposit
  by_cases c0 : 1 ≤ x0 ∧ x0 ≤ 100000
  · simp only [if_pos c0]
    have e68 : gc 68 0 = gm 0 44 := rd h.1 (a := 0) (b := 44) rfl
    have hb := i32_bd c0
    have k1 : (1 : Int32).toInt = 1 := rfl
    have k2 : (100000 : Int32).toInt = 100000 := rfl
    have k3 : (100000000 : Int32).toInt = 100000000 := rfl
    have ha := inv_am h
    have hc : (100000000 - x0 < gm 0 44) = ¬ (gm 0 44 + x0 ≤ 100000000) := by
      rw [lt_of_toInt, le_of_toInt, toInt_subb (by omega) (by omega), toInt_addb (by omega) (by omega), k3]
      exact propext ⟨fun _ => by omega, fun _ => by omega⟩
    rw [e68]
    simp only [hc]
    by_cases c1 : gm 0 44 + x0 ≤ 100000000
    · rw [if_neg (fun z => z c1), if_pos c1]
      have hi := inv_move (x := x0) (X := 100000) q (by omega) (inv_0 (v := 0) h)
      rw [up_ne gm _ (show 0 ≠ 0 ∨ 44 ≠ 0 by omega)] at hi
      exact ok_yes (by rw [mv_0, e68]) (by rw [up_ne _ _ (by omega), sy_up_e]) (inv_B (by show B + 100000 ≤ B + 4000000; omega) hi)
    · rw [if_pos c1, if_neg c1]
      exact ok_no h rfl (by decide) (by decide)
  · simp only [if_neg c0]
    exact ok_no h rfl (by decide) (by decide)
theorem neg_abs (x : Int32) : (-x).toInt.natAbs ≤ x.toInt.natAbs := by
  rw [Int32.toInt_neg]
  have := bm_le (-x.toInt)
  omega
theorem o_withdraw (h : INV B 40 40 nT nK cT cK gc q gm) (x0 : Int32) : OKr (wf 9 1 2) (B + oB) nT nK cT cK (fX6_withdraw gc q x0) (fX7_withdraw gm q' x0) := by
  unfold fX6_withdraw fX7_withdraw fX5_free
  by_cases c0 : 1 ≤ x0 ∧ x0 ≤ 100000
  · simp only [if_pos c0]
    have e68 : gc 68 0 = gm 0 44 := rd h.1 (a := 0) (b := 44) rfl
    have hb := i32_bd c0
    have k1 : (1 : Int32).toInt = 1 := rfl
    have k2 : (100000 : Int32).toInt = 100000 := rfl
    have hc : (gm 0 44 - gm 0 45 < x0) = ¬ (x0 ≤ gm 0 44 - gm 0 45) := by
      rw [lt_of_toInt, le_of_toInt]
      exact propext ⟨fun _ => by omega, fun _ => by omega⟩
    rw [mv_0, e68, rd h.1 (a := 0) (b := 45) rfl, neg_sub]
    simp only [hc]
    by_cases c1 : x0 ≤ gm 0 44 - gm 0 45
    · rw [if_neg (fun z => z c1), if_pos c1]
      have hi := inv_move (x := -x0) (X := 100000) q (by have := neg_abs x0; omega) (inv_0 (v := 0) h)
      rw [up_ne gm _ (show 0 ≠ 0 ∨ 44 ≠ 0 by omega), neg_sub] at hi
      exact ok_yes rfl (by rw [up_ne _ _ (by omega), sy_up_e]) (inv_B (by show B + 100000 ≤ B + 4000000; omega) hi)
    · rw [if_pos c1, if_neg c1]
      exact ok_no h rfl (by decide) (by decide)
  · simp only [if_neg c0]
    exact ok_no h rfl (by decide) (by decide)
/-- a surplus goes out -/
theorem inv_release {m5 m6 : Nat} {j : Nat} (hj : j < nK) (h : INV B m5 m6 nT nK cT cK gc q gm) : INV B m5 m6 nT nK cT cK (fX6_releaseSurplus gc q' j).2 q (sy_up (sy_up (sy_up gm 43 j 0) 0 45 (gm 0 45 - gm 43 j)) 0 44 (gm 0 44 - gm 43 j)) := by
  have hK := inv_K h
  obtain ⟨hle, h1⟩ := inv_zero hj h
  have h2 := inv_p (a := 0) (b := 45) (v := gm 0 45 - gm 43 j) rfl (by omega) (by omega) (by omega) (by omega) (by omega) (by omega) h1
  have h3 := inv_move (x := -gm 43 j) (X := (gm 43 j).toInt.natAbs) q' (neg_abs _) h2
  rw [up_ne (sy_up gm 43 j 0) _ (show 0 ≠ 0 ∨ 44 ≠ 45 by omega), up_ne gm _ (show 0 ≠ 43 ∨ 44 ≠ j by omega), neg_sub] at h3
  unfold fX6_releaseSurplus
  rw [up_ne gc _ (show 68 ≠ 200 + j ∨ 1 ≠ 14 by omega), r_K h (f := 14) (o := 43) (if_pos (by omega)), rd h.1 (a := 0) (b := 45) rfl]
  exact inv_B (by omega) h3
theorem o_claim (h : INV B 40 40 nT nK cT cK gc q gm) (x0 x1 : Int32) : OKr (wf 1 9 2) (B + oB) nT nK cT cK (fX6_claim gc q x0 x1) (fX7_claim gm q' x0 x1) := by
  have hK := inv_K h
  unfold fX6_claim fX7_claim
  rw [h.2.1.2.2.1, h.2.2.1.2.2.2.1]
  simp only [cv9, cvn hK]
  by_cases c0 : 0 ≤ x0 ∧ x0 < nI nK
  · obtain ⟨j, hj, rfl, ej⟩ := jof (by omega) c0
    by_cases c1 : 0 ≤ x1 ∧ x1 < 10
    · simp only [if_pos c0, if_pos c1, ej]
      unfold fX4_hasNotice
      simp only [q_notice h hj]
      rw [r_K h (f := 14) (o := 43) (if_pos (by omega)), r_K h (f := 6) (o := 33) (if_pos (by omega))]
      by_cases c2 : gm 43 j ≤ 0
      · rw [if_pos c2, if_pos c2]
        exact ok_no h rfl (by decide) (by decide)
      · rw [if_neg c2, if_neg c2]
        by_cases c3 : gc (200 + j) 11 = -1
        · simp only [if_pos c3, if_true]
          by_cases c4 : gm 33 j = x1
          · rw [if_pos c4, if_pos c4]
            have hi := inv_release (q' := q) hj (e00 h)
            rw [up_ne gm _ (show 0 ≠ 0 ∨ 45 ≠ 0 by omega), up_ne gm _ (show 43 ≠ 0 ∨ j ≠ 0 by omega), up_ne gm _ (show 0 ≠ 0 ∨ 44 ≠ 0 by omega)] at hi
            exact ok_yes (r_K h (f := 14) (o := 43) (if_pos (by omega))) (by rw [up_ne _ _ (by omega), up_ne _ _ (by omega), up_ne _ _ (by omega), sy_up_e]) hi
          · rw [if_neg c4, if_neg c4]
            exact ok_no h rfl (by decide) (by decide)
        · simp only [if_neg c3, if_neg (show ¬ (1 : Int32) = 0 by decide)]
          exact ok_no h rfl (by decide) (by decide)
    · simp only [if_pos c0, if_neg c1]
      exact ok_no h rfl (by decide) (by decide)
  · simp only [if_neg c0]
    exact ok_no h rfl (by decide) (by decide)
theorem o_redeem (h : INV B 40 40 nT nK cT cK gc q gm) (x0 x1 : Int32) : OKr (wf 1 9 2) (B + oB) nT nK cT cK (fX6_redeem gc q x0 x1) (fX7_redeem gm q' x0 x1) := by
  have hK := inv_K h
  have hT := inv_T h
  unfold fX6_redeem fX7_redeem
  rw [h.2.1.2.2.1, h.2.2.1.2.2.2.1]
  simp only [cv9, cvn hK]
  by_cases c0 : 0 ≤ x0 ∧ x0 < nI nK
  · obtain ⟨j, hj, rfl, ej⟩ := jof (by omega) c0
    by_cases c1 : 0 ≤ x1 ∧ x1 < 10
    · simp only [if_pos c0, if_pos c1, ej]
      obtain ⟨t1, t2, t3⟩ := i_tg h hj
      have ef := q_found (q' := q') h t1
      rw [← t2] at ef
      simp only [q_barred h hj, ef]
      rw [r_K h (f := 7) (o := 39) (if_pos (by omega)), r_K h (f := 6) (o := 33) (if_pos (by omega)), r_K h (f := 8) (o := 35) (if_pos (by omega)), q_interest (e00 h) hj]
      by_cases c2 : gm 39 j = 0
      · by_cases c3 : fX4_isBarred gc q j = 0
        · by_cases c4 : gm 33 j = x1
          · by_cases c5 : fX3_canBeFound gc q (tg q j) = 0
            · simp only [if_pos c2, if_pos c3, if_pos c4, if_pos c5]
              exact ok_no h rfl (by decide) (by decide)
            · simp only [if_pos c2, if_pos c3, if_pos c4, if_neg c5]
              have hn := now_bd h hj
              have hl := h.2.2.2.1.2.2.1 j hj
              have hc := inv_close (v := 1) hj (show sy_up gm 0 0 0 39 j = 0 by rw [up_ne _ _ (by omega)]; exact c2) (by decide) (inv_0 (v := 0) h)
              have hm := inv_move (x := gm 35 j + fX6_interestNow gc q j) (X := oB) (fX4_close gc q j 1).2 (by rw [toInt_addb (by omega) (by omega)]; show _ ≤ 4000000; omega) hc
              rw [up_ne gm _ (show 30 ≠ 0 ∨ j ≠ 0 by omega), up_ne _ _ (show 0 ≠ 8 ∨ _ by omega), up_ne _ _ (show 0 ≠ 39 ∨ _ by omega), up_ne gm _ (show 0 ≠ 0 ∨ 44 ≠ 0 by omega), up_cm _ _ _ (show 8 ≠ 0 ∨ _ by omega), up_cm _ _ _ (show 39 ≠ 0 ∨ _ by omega)] at hm
              exact ok_yes rfl (by rw [up_ne _ _ (by omega), up_ne _ _ (by omega), up_ne _ _ (by omega), sy_up_e]) hm
          · simp only [if_pos c2, if_pos c3, if_neg c4]
            exact ok_no h rfl (by decide) (by decide)
        · simp only [if_pos c2, if_neg c3]
          exact ok_no h rfl (by decide) (by decide)
      · simp only [if_neg c2]
        exact ok_no h rfl (by decide) (by decide)
    · simp only [if_pos c0, if_neg c1]
      exact ok_no h rfl (by decide) (by decide)
  · simp only [if_neg c0]
    exact ok_no h rfl (by decide) (by decide)
theorem o_renew (h : INV B 40 40 nT nK cT cK gc q gm) (x0 x1 x2 : Int32) : OKr (wf 1 2 3) (B + oB) nT nK cT cK (fX6_renew gc q x0 x1 x2) (fX7_renew gm q' x0 x1 x2) := by
  have hK := inv_K h
  have hT := inv_T h
  unfold fX6_renew fX7_renew
  rw [h.2.1.2.2.1, h.2.2.1.2.2.2.1]
  simp only [cv9, cvn hK]
  by_cases c0 : 0 ≤ x0 ∧ x0 < nI nK
  · obtain ⟨j, hj, rfl, ej⟩ := jof (by omega) c0
    by_cases c1 : 0 ≤ x1 ∧ x1 < 10
    · simp only [if_pos c0, if_pos c1, ej]
      simp only [q_barred h hj]
      rw [r_K h (f := 7) (o := 39) (if_pos (by omega)), r_K h (f := 6) (o := 33) (if_pos (by omega)), r_K h (f := 8) (o := 35) (if_pos (by omega)), q_interest (e00 h) hj]
      by_cases c5 : 0 ≤ x2 ∧ x2 ≤ gm 35 j - 1
      · simp only [if_pos c5]
        by_cases c2 : gm 39 j = 0
        · by_cases c3 : fX4_isBarred gc q j = 0
          · by_cases c4 : gm 33 j = x1
            · simp only [if_pos c2, if_pos c3, if_pos c4]
              have hn := now_bd h hj
              have hl := h.2.2.2.1.2.2.1 j hj
              have hb := i32_bd c5
              have k0 : (0 : Int32).toInt = 0 := rfl
              have k1 : (1 : Int32).toInt = 1 := rfl
              rw [toInt_subb (by omega) (by omega)] at hb
              have hs : (gm 35 j - x2).toInt = (gm 35 j).toInt - x2.toInt := toInt_subb (by omega) (by omega)
              have h1 := inv_loan (v := gm 35 j - x2) hj (by omega) (by omega) (inv_0 (v := 0) h)
              have h2 := inv_began hj h1
              have h3 := inv_p (a := 38) (b := j) (v := gm 0 27) (if_pos (show j < 40 by omega)) (by omega) (by omega) (by omega) (by omega) (by omega) (by omega) h2
              have h4 := inv_move (x := fX6_interestNow gc q j + x2) (X := oB) q (by rw [toInt_addb (by omega) (by omega)]; show _ ≤ 4000000; omega) h3
              rw [up_ne gc _ (show 60 ≠ 200 + j ∨ 9 ≠ 8 by omega), up_ne _ _ (show 0 ≠ 38 ∨ 44 ≠ j by omega), up_ne _ _ (show 0 ≠ 37 ∨ 44 ≠ j by omega), up_ne _ _ (show 0 ≠ 35 ∨ 44 ≠ j by omega), up_ne _ _ (show 0 ≠ 35 ∨ 1 ≠ j by omega), up_ne gm _ (show 0 ≠ 0 ∨ 44 ≠ 0 by omega), up_ne gm _ (show 0 ≠ 0 ∨ 1 ≠ 0 by omega), up_cm _ _ _ (show 38 ≠ 0 ∨ _ by omega), up_cm _ _ _ (show 37 ≠ 0 ∨ _ by omega), up_cm _ _ _ (show 35 ≠ 0 ∨ _ by omega)] at h4
              unfold fX4_begin
              rw [up_ne gc _ (show 60 ≠ 200 + j ∨ 9 ≠ 8 by omega), up_ne gc _ (show 60 ≠ 200 + j ∨ 8 ≠ 8 by omega), rd h.1 (a := 0) (b := 27) (c := 60) (d := 8) rfl]
              exact ok_yes rfl (by rw [up_ne _ _ (by omega), up_ne _ _ (by omega), up_ne _ _ (by omega), up_ne _ _ (by omega), sy_up_e]) h4
            · simp only [if_pos c2, if_pos c3, if_neg c4]
              exact ok_no h rfl (by decide) (by decide)
          · simp only [if_pos c2, if_neg c3]
            exact ok_no h rfl (by decide) (by decide)
        · simp only [if_neg c2]
          exact ok_no h rfl (by decide) (by decide)
      · simp only [if_neg c5]
        have : (if gm 39 j = 0 then (if fX4_isBarred gc q j = 0 then (if gm 33 j = x1 then ((0 : Int32), sy_up gm 0 0 2) else (0, sy_up gm 0 0 2)) else (0, sy_up gm 0 0 2)) else (0, sy_up gm 0 0 2)) = (0, sy_up gm 0 0 2) := by
          split
          · split
            · split <;> rfl
            · rfl
          · rfl
        rw [this]
        exact ok_no h rfl (by decide) (by decide)
    · simp only [if_pos c0, if_neg c1]
      exact ok_no h rfl (by decide) (by decide)
  · simp only [if_neg c0]
    exact ok_no h rfl (by decide) (by decide)
end OPJ
