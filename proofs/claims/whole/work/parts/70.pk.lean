section OPK
variable {B nT nK cT cK : Nat} {gc : sG} {q : sQ} {gm : sG} {q' : sQ}
theorem cl_o {g : sG} {j o k : Nat} {v : Int32} (h1 : o ≠ 200 + j ∨ k ≠ 7) (h2 : o ≠ 100 + tg q j) : (fX4_close g q j v).1 o k = g o k := by
  unfold fX4_close fX3_leave
  show sy_up (sy_up (sy_up (sy_up g (200 + j) 7 v) (100 + tg q j) 5 0) (100 + tg q j) 7 (-1)) (100 + tg q j) 8 (-1) o k = _
  rw [up_ne _ _ (by omega), up_ne _ _ (by omega), up_ne _ _ (by omega), up_ne _ _ (by omega)]
theorem o_court (h : INV B 40 40 nT nK cT cK gc q gm) (x0 x1 : Int32) : OKr (wf 1 9 2) (B + oB) nT nK cT cK (fX6_court gc q x0 x1) (fX7_court gm q' x0 x1) := by
  have hK := inv_K h
  have hT := inv_T h
  unfold fX6_court fX7_court
  rw [h.2.1.1, h.2.2.1.1]
  simp only [cvn hT]
  by_cases c0 : 0 ≤ x0 ∧ x0 < nI nT
  · obtain ⟨i, hi, rfl, ei⟩ := jof (by omega) c0
    simp only [if_pos c0, ei]
    rw [r_T h (f := 6) (o := 9) (if_pos (by omega))]
    by_cases c1 : gm 9 i = 0
    · rw [if_neg (fun z => z c1), if_pos c1]
      exact ok_no h rfl (by decide) (by decide)
    · rw [if_pos c1, if_neg c1]
      have hi2 := inv_p (a := 9) (b := i) (v := 0) (if_pos (show i < 40 by omega)) (by omega) (by omega) (by omega) (by omega) (by omega) (by omega) (e00 h)
      have hy : OKr (wf 1 9 2) (B + oB) nT nK cT cK (0, -1, sy_up gc (100 + i) 6 0, q) (-1, sy_up (sy_up gm 0 0 0) 9 i 0) := ok_yes rfl (by rw [up_ne _ _ (by omega), sy_up_e]) hi2
      rw [q_open (e00 h) hi]
      unfold fX3_openTicketNumber
      rcases h.2.2.2.2.2.2.2.2.2 i hi with ⟨e1, -, -⟩ | ⟨j, hj, e1, e8, e30, e39, -⟩
      · simp only [if_pos e1, if_true]
        split <;> exact hy
      · have en : ¬ q (100 + i) 11 = none := by rw [e1]; intro z; cases z
        have eo : og q i = j := by unfold og; rw [e1]; show 200 + j - 200 = j; omega
        rw [if_neg en, if_neg en, eo, h.2.2.1.2.2.2.2.2.2.2.2.1 j hj]
        have hne : ¬ nI j = -1 := fun z => by
          have z1 := congrArg Int32.toInt z
          rw [nI_toInt (by omega)] at z1
          have : (-1 : Int32).toInt = -1 := rfl
          omega
        by_cases c2 : x1 = 0
        · rw [if_pos c2, if_pos c2]
          exact hy
        · rw [if_neg c2, if_neg c2, if_neg hne, nI_clamp (show j < 2 ^ 31 by omega)]
          obtain ⟨t1, t2, t3⟩ := i_tg h hj
          obtain ⟨x1', x2', x3'⟩ := i_xg h hj
          have etg : tg q j = i := (nI_eq (by omega) (by omega)).mp (t2.symm.trans e30)
          rw [up_ne _ _ (show 200 + j ≠ 80 + xg q j ∨ 0 ≠ 1 by omega), cl_o (by omega) (by omega), cl_o (by omega) (by omega), cl_o (by omega) (by omega), up_ne gc _ (by omega), up_ne gc _ (by omega), up_ne gc _ (by omega), h.2.2.1.2.2.2.2.2.2.2.2.1 j hj, r_K h (f := 8) (o := 35) (if_pos (by omega)), rd h.1 (a := 16) (b := xg q j) (if_pos x1'), x3']
          have hc := inv_close (v := 3) hj (show sy_up (sy_up gm 0 0 0) 9 i 0 39 j = 0 by rw [up_ne _ _ (by omega), up_ne _ _ (by omega)]; exact e39) (by decide) hi2
          rw [up_ne _ _ (show 30 ≠ 9 ∨ _ by omega), up_ne gm _ (show 30 ≠ 0 ∨ j ≠ 0 by omega), t3, etg] at hc
          have hp := inv_p (a := 16) (b := xg q j) (v := gm 16 (xg q j) + gm 35 j) (if_pos x1') (by omega) (by omega) (by omega) (by omega) (by omega) (by omega) hc
          exact ok_yes rfl (by rw [up_ne _ _ (by omega), up_ne _ _ (by omega), up_ne _ _ (by omega), up_ne _ _ (by omega), sy_up_e]) hp
  · simp only [if_neg c0]
    exact ok_no h rfl (by decide) (by decide)
theorem o_offer (h : INV B 40 40 nT nK cT cK gc q gm) (x0 x1 : Int32) : OKr (wf 1 2 3) (B + oB) nT nK cT cK (fX6_offer gc q x0 x1) (fX7_offer gm q' x0 x1) := by
  have hK := inv_K h
  have hT := inv_T h
  unfold fX6_offer fX7_offer
  rw [h.2.1.2.2.1, h.2.2.1.2.2.2.1]
  simp only [cvn hK]
  by_cases c0 : 0 ≤ x0 ∧ x0 < nI nK
  · obtain ⟨j, hj, rfl, ej⟩ := jof (by omega) c0
    simp only [if_pos c0, ej]
    obtain ⟨t1, t2, t3⟩ := i_tg h hj
    obtain ⟨y1, y2, y3⟩ := i_xg h hj
    have ef := q_found (q' := q') h t1
    rw [← t2] at ef
    by_cases c1 : 0 ≤ x1 ∧ x1 ≤ 100000
    · unfold fX6_mayBeOffered fX6_reserveOf fX4_lastDay
      simp only [if_pos c1, q_barred h hj, ef]
      rw [r_K h (f := 7) (o := 39) (if_pos (by omega)), r_K h (f := 9) (o := 37) (if_pos (by omega)), r_K h (f := 10) (o := 38) (if_pos (by omega)), r_K h (f := 8) (o := 35) (if_pos (by omega)), r_K h (f := 13) (o := 40) (if_pos (by omega)), q_interest (e00 h) hj, rd h.1 (a := 0) (b := 1) (c := 60) (d := 9) rfl]
      by_cases c2 : gm 39 j = 0
      · by_cases c3 : gm 0 1 ≤ gm 37 j + gm 38 j
        · simp only [if_pos c2, if_pos c3, if_neg (show ¬ ¬ (0 : Int32) = 0 by decide)]
          exact ok_no h rfl (by decide) (by decide)
        · by_cases c4 : fX4_isBarred gc q j = 0
          · by_cases c5 : fX3_canBeFound gc q (tg q j) = 0
            · simp only [if_pos c2, if_neg c3, if_pos c4, if_pos c5, if_neg (show ¬ ¬ (0 : Int32) = 0 by decide)]
              exact ok_no h rfl (by decide) (by decide)
            · simp only [if_pos c2, if_neg c3, if_pos c4, if_neg c5, if_pos (show ¬ (1 : Int32) = 0 by decide)]
              rw [Int32.mul_comm x1 5]
              generalize hov : x1 - gm 35 j - fX6_interestNow gc q j - 5 * x1 / 100 = ov
              have hn := now_bd h hj
              have hl := h.2.2.2.1.2.2.1 j hj
              have hb := i32_bd c1
              have k0 : (0 : Int32).toInt = 0 := rfl
              have k5 : (5 : Int32).toInt = 5 := rfl
              have k100 : (100 : Int32).toInt = 100 := rfl
              have k1e5 : (100000 : Int32).toInt = 100000 := rfl
              have hmu : (5 * x1).toInt = 5 * x1.toInt := by rw [toInt_mulb (by rw [k5]; omega) (by rw [k5]; omega), k5]
              have hdi : (5 * x1 / 100).toInt = 5 * x1.toInt / 100 := by rw [toInt_divb (by omega) (by omega), hmu, k100]
              have hov2 : ov.toInt = x1.toInt - (gm 35 j).toInt - (fX6_interestNow gc q j).toInt - 5 * x1.toInt / 100 := by
                have s1 : (x1 - gm 35 j).toInt = x1.toInt - (gm 35 j).toInt := toInt_subb (by omega) (by omega)
                have s2 : (x1 - gm 35 j - fX6_interestNow gc q j).toInt = x1.toInt - (gm 35 j).toInt - (fX6_interestNow gc q j).toInt := by rw [toInt_subb (by omega) (by omega), s1]
                rw [← hov, toInt_subb (by omega) (by omega), s2, hdi]
              have h43 : gm 43 j = 0 := by
                rcases h.2.2.2.2.2.2.1 j hj with e | ⟨-, -, -, -, e, -⟩
                · exact e
                · exact absurd c2 e
              -- a sale
              have hc := inv_close (v := 2) hj (show sy_up gm 0 0 0 39 j = 0 by rw [up_ne _ _ (by omega)]; exact c2) (by decide) (inv_0 (v := 0) h)
              rw [up_ne gm _ (show 30 ≠ 0 ∨ j ≠ 0 by omega), t3] at hc
              have hm := inv_move (x := x1) (X := 100000) (fX4_close gc q j 2).2 (by omega) hc
              rw [up_ne _ _ (show 0 ≠ 8 ∨ _ by omega), up_ne _ _ (show 0 ≠ 39 ∨ _ by omega), up_ne gm _ (show 0 ≠ 0 ∨ 44 ≠ 0 by omega)] at hm
              have hp := inv_p (a := 17) (b := xg q j) (v := gm 17 (xg q j) + (x1 - gm 36 j)) (if_pos y1) (by omega) (by omega) (by omega) (by omega) (by omega) (by omega) hm
              have r80 : ∀ k, fX5_move (fX4_close gc q j 2).1 (fX4_close gc q j 2).2 x1 (80 + xg q j) k = gc (80 + xg q j) k := fun k => by rw [mv_o (by omega), cl_o (by omega) (by omega)]
              have r200 : fX5_move (fX4_close gc q j 2).1 (fX4_close gc q j 2).2 x1 (200 + j) 5 = gm 36 j := by rw [mv_o (by omega), cl_o (by omega) (by omega)]; exact r_K h (if_pos (by omega))
              have r60 : fX5_move (fX4_close gc q j 2).1 (fX4_close gc q j 2).2 x1 60 9 = gc 60 9 := by rw [mv_o (by omega), cl_o (by omega) (by omega)]
              have r68 : fX5_move (fX4_close gc q j 2).1 (fX4_close gc q j 2).2 x1 68 1 = gc 68 1 := by rw [mv_k (by omega), cl_o (by omega) (by omega)]
              have e17 : gc (80 + xg q j) 2 = gm 17 (xg q j) := rd h.1 (if_pos y1)
              have e16 : gc (80 + xg q j) 1 = gm 16 (xg q j) := rd h.1 (if_pos y1)
              rw [r80, r200, e17, t3, y3]
              have key : OKr (wf 1 2 3) (B + oB) nT nK cT cK (if 0 ≤ ov then (0, ov, sy_up (sy_up (sy_up (sy_up (fX5_move (fX4_close gc q j 2).1 (fX4_close gc q j 2).2 x1) (80 + xg q j) 2 (gm 17 (xg q j) + (x1 - gm 36 j))) (200 + j) 14 ov) (200 + j) 15 ((sy_up (sy_up (fX5_move (fX4_close gc q j 2).1 (fX4_close gc q j 2).2 x1) (80 + xg q j) 2 (gm 17 (xg q j) + (x1 - gm 36 j))) (200 + j) 14 ov) 60 9)) 68 1 ((sy_up (sy_up (sy_up (fX5_move (fX4_close gc q j 2).1 (fX4_close gc q j 2).2 x1) (80 + xg q j) 2 (gm 17 (xg q j) + (x1 - gm 36 j))) (200 + j) 14 ov) (200 + j) 15 ((sy_up (sy_up (fX5_move (fX4_close gc q j 2).1 (fX4_close gc q j 2).2 x1) (80 + xg q j) 2 (gm 17 (xg q j) + (x1 - gm 36 j))) (200 + j) 14 ov) 60 9)) 68 1 + ov), (fX4_close gc q j 2).2) else (0, ov, sy_up (sy_up (fX5_move (fX4_close gc q j 2).1 (fX4_close gc q j 2).2 x1) (80 + xg q j) 2 (gm 17 (xg q j) + (x1 - gm 36 j))) (80 + xg q j) 1 (sy_up (fX5_move (fX4_close gc q j 2).1 (fX4_close gc q j 2).2 x1) (80 + xg q j) 2 (gm 17 (xg q j) + (x1 - gm 36 j)) (80 + xg q j) 1 - ov), (fX4_close gc q j 2).2))
                  (if ov ≤ 0 then (ov, sy_up (sy_up (sy_up (sy_up (sy_up (sy_up gm 0 0 0) 39 j 2) 8 (tg q j) 0) 0 44 (gm 0 44 + x1)) 17 (xg q j) (gm 17 (xg q j) + (x1 - gm 36 j))) 16 (xg q j) (gm 16 (xg q j) - ov)) else (ov, sy_up (sy_up (sy_up (sy_up (sy_up (sy_up (sy_up (sy_up gm 0 0 0) 39 j 2) 8 (tg q j) 0) 0 44 (gm 0 44 + x1)) 17 (xg q j) (gm 17 (xg q j) + (x1 - gm 36 j))) 43 j ov) 0 45 (gm 0 45 + ov)) 44 j (gm 0 1))) := by
                rw [up_ne _ _ (show 68 ≠ 200 + j ∨ _ by omega), up_ne _ _ (show 68 ≠ 200 + j ∨ _ by omega), up_ne _ _ (show 68 ≠ 80 + xg q j ∨ _ by omega), up_ne _ _ (show 60 ≠ 200 + j ∨ _ by omega), up_ne _ _ (show 60 ≠ 80 + xg q j ∨ _ by omega), up_ne _ _ (show 80 + xg q j ≠ 80 + xg q j ∨ 1 ≠ 2 by omega), r80, r60, r68, e16, rd h.1 (a := 0) (b := 1) (c := 60) (d := 9) rfl, rd h.1 (a := 0) (b := 45) (c := 68) (d := 1) rfl]
                have cle : (ov ≤ 0) = (ov.toInt ≤ 0) := by rw [le_of_toInt, k0]
                have cge : (0 ≤ ov) = (0 ≤ ov.toInt) := by rw [le_of_toInt, k0]
                simp only [cle, cge]
                by_cases d1 : 0 < ov.toInt
                · rw [if_pos (show 0 ≤ ov.toInt by omega), if_neg (show ¬ ov.toInt ≤ 0 by omega)]
                  have hs := inv_sell (v := ov) hj (by omega) (show sy_up (sy_up (sy_up (sy_up (sy_up gm 0 0 0) 39 j 2) 8 (tg q j) 0) 0 44 (gm 0 44 + x1)) 17 (xg q j) (gm 17 (xg q j) + (x1 - gm 36 j)) 43 j = 0 by rw [up_ne _ _ (by omega), up_ne _ _ (by omega), up_ne _ _ (by omega), up_ne _ _ (by omega), up_ne _ _ (by omega)]; exact h43) (show sy_up (sy_up (sy_up (sy_up (sy_up gm 0 0 0) 39 j 2) 8 (tg q j) 0) 0 44 (gm 0 44 + x1)) 17 (xg q j) (gm 17 (xg q j) + (x1 - gm 36 j)) 39 j ≠ 0 by rw [up_ne _ _ (by omega), up_ne _ _ (by omega), up_ne _ _ (by omega), sy_up_e]; decide) d1 (by omega) hp
                  rw [up_ne _ _ (show 60 ≠ 80 + xg q j ∨ _ by omega), r60, rd h.1 (a := 0) (b := 1) (c := 60) (d := 9) rfl, up_ne _ _ (show 0 ≠ 17 ∨ _ by omega), up_ne _ _ (show 0 ≠ 0 ∨ 1 ≠ 44 by omega), up_ne _ _ (show 0 ≠ 8 ∨ _ by omega), up_ne _ _ (show 0 ≠ 39 ∨ _ by omega), up_ne gm _ (show 0 ≠ 0 ∨ 1 ≠ 0 by omega)] at hs
                  have hk := inv_p (a := 0) (b := 45) (v := gm 0 45 + ov) rfl (by omega) (by omega) (by omega) (by omega) (by omega) (by omega) hs
                  rw [up_cm _ _ _ (show 44 ≠ 0 ∨ _ by omega)] at hk
                  exact ok_yes rfl (by rw [up_ne _ _ (by omega), up_ne _ _ (by omega), up_ne _ _ (by omega), up_ne _ _ (by omega), up_ne _ _ (by omega), up_ne _ _ (by omega), up_ne _ _ (by omega), sy_up_e]) (inv_B (by show B + 100000 + _ ≤ B + 4000000; omega) hk)
                · have hq := inv_p (a := 16) (b := xg q j) (v := gm 16 (xg q j) - ov) (if_pos y1) (by omega) (by omega) (by omega) (by omega) (by omega) (by omega) hp
                  rw [if_pos (show ov.toInt ≤ 0 by omega)]
                  by_cases d2 : 0 ≤ ov.toInt
                  · have ez : ov = 0 := Int32.toInt_inj.mp (by rw [k0]; omega)
                    rw [if_pos d2]
                    subst ez
                    rw [show gm 16 (xg q j) - 0 = gm 16 (xg q j) from Int32.sub_zero _, show gm 0 45 + 0 = gm 0 45 from Int32.add_zero _]
                    have es : sy_up (sy_up (sy_up (sy_up (sy_up (sy_up gm 0 0 0) 39 j 2) 8 (tg q j) 0) 0 44 (gm 0 44 + x1)) 17 (xg q j) (gm 17 (xg q j) + (x1 - gm 36 j))) 16 (xg q j) (gm 16 (xg q j)) = sy_up (sy_up (sy_up (sy_up (sy_up gm 0 0 0) 39 j 2) 8 (tg q j) 0) 0 44 (gm 0 44 + x1)) 17 (xg q j) (gm 17 (xg q j) + (x1 - gm 36 j)) := by
                      conv => lhs; arg 4; rw [show gm 16 (xg q j) = sy_up (sy_up (sy_up (sy_up (sy_up gm 0 0 0) 39 j 2) 8 (tg q j) 0) 0 44 (gm 0 44 + x1)) 17 (xg q j) (gm 17 (xg q j) + (x1 - gm 36 j)) 16 (xg q j) from by rw [up_ne _ _ (by omega), up_ne _ _ (by omega), up_ne _ _ (by omega), up_ne _ _ (by omega), up_ne _ _ (by omega)]]
                      exact up_id _ _ _
                    rw [es]
                    have h14 : sy_up (fX5_move (fX4_close gc q j 2).1 (fX4_close gc q j 2).2 x1) (80 + xg q j) 2 (gm 17 (xg q j) + (x1 - gm 36 j)) (200 + j) 14 = 0 := by
                      rw [up_ne _ _ (by omega), mv_o (by omega), cl_o (by omega) (by omega), r_K h (f := 14) (o := 43) (if_pos (by omega))]
                      exact h43
                    have e14 : sy_up (sy_up (fX5_move (fX4_close gc q j 2).1 (fX4_close gc q j 2).2 x1) (80 + xg q j) 2 (gm 17 (xg q j) + (x1 - gm 36 j))) (200 + j) 14 0 = sy_up (fX5_move (fX4_close gc q j 2).1 (fX4_close gc q j 2).2 x1) (80 + xg q j) 2 (gm 17 (xg q j) + (x1 - gm 36 j)) := by
                      conv => lhs; arg 4; rw [← h14]
                      exact up_id _ _ _
                    rw [e14]
                    have e45 : sy_up (sy_up (sy_up (fX5_move (fX4_close gc q j 2).1 (fX4_close gc q j 2).2 x1) (80 + xg q j) 2 (gm 17 (xg q j) + (x1 - gm 36 j))) (200 + j) 15 (gm 0 1)) 68 1 (gm 0 45) = sy_up (sy_up (fX5_move (fX4_close gc q j 2).1 (fX4_close gc q j 2).2 x1) (80 + xg q j) 2 (gm 17 (xg q j) + (x1 - gm 36 j))) (200 + j) 15 (gm 0 1) := by
                      have : gm 0 45 = sy_up (sy_up (fX5_move (fX4_close gc q j 2).1 (fX4_close gc q j 2).2 x1) (80 + xg q j) 2 (gm 17 (xg q j) + (x1 - gm 36 j))) (200 + j) 15 (gm 0 1) 68 1 := by
                        rw [up_ne _ _ (by omega), up_ne _ _ (by omega), r68]
                        exact (rd h.1 (a := 0) (b := 45) rfl).symm
                      conv => lhs; arg 4; rw [this]
                      exact up_id _ _ _
                    rw [e45]
                    have hso := inv_sold (v := gm 0 1) hj (show sy_up (sy_up (sy_up (sy_up (sy_up gm 0 0 0) 39 j 2) 8 (tg q j) 0) 0 44 (gm 0 44 + x1)) 17 (xg q j) (gm 17 (xg q j) + (x1 - gm 36 j)) 43 j = 0 by rw [up_ne _ _ (by omega), up_ne _ _ (by omega), up_ne _ _ (by omega), up_ne _ _ (by omega), up_ne _ _ (by omega)]; exact h43) hp
                    exact ok_yes rfl (by rw [up_ne _ _ (by omega), up_ne _ _ (by omega), up_ne _ _ (by omega), up_ne _ _ (by omega), sy_up_e]) (inv_B (by show B + 100000 ≤ B + 4000000; omega) hso)
                  · rw [if_neg d2]
                    exact ok_yes rfl (by rw [up_ne _ _ (by omega), up_ne _ _ (by omega), up_ne _ _ (by omega), up_ne _ _ (by omega), up_ne _ _ (by omega), sy_up_e]) (inv_B (by show B + 100000 ≤ B + 4000000; omega) hq)
              have hv : OKr (wf 1 2 3) (B + oB) nT nK cT cK (0, -2147483648, sy_up gc (200 + j) 13 (gm 40 j + 1), q) (-2147483648, sy_up (sy_up gm 0 0 0) 40 j (gm 40 j + 1)) :=
                ok_yes rfl (by rw [up_ne _ _ (by omega), sy_up_e]) (inv_p (a := 40) (b := j) (if_pos (show j < 40 by omega)) (by omega) (by omega) (by omega) (by omega) (by omega) (by omega) (e00 h))
              by_cases d0 : gm 40 j = 0
              · simp only [if_pos d0]
                split
                · exact key
                · exact hv
              · simp only [if_neg d0]
                by_cases d1 : gm 40 j = 1
                · simp only [if_pos d1]
                  split
                  · exact key
                  · exact hv
                · simp only [if_neg d1]
                  split
                  · exact key
                  · exact hv
          · simp only [if_pos c2, if_neg c3, if_neg c4, if_neg (show ¬ ¬ (0 : Int32) = 0 by decide)]
            exact ok_no h rfl (by decide) (by decide)
      · simp only [if_neg c2, if_neg (show ¬ ¬ (0 : Int32) = 0 by decide)]
        exact ok_no h rfl (by decide) (by decide)
    · simp only [if_neg c1]
      split
      · split
        · exact ok_no h rfl (by decide) (by decide)
        · split
          · split <;> exact ok_no h rfl (by decide) (by decide)
          · exact ok_no h rfl (by decide) (by decide)
      · exact ok_no h rfl (by decide) (by decide)
  · simp only [if_neg c0]
    exact ok_no h rfl (by decide) (by decide)
end OPK
