section OPP
variable {B nT nK cT cK : Nat} {gc : sG} {q : sQ} {gm : sG} {q' : sQ}
theorem okn_no2 {a b c code v r u : Int32} {nT' nK' cT' cK' : Nat} (h : INV B 40 40 nT nK cT cK gc q gm) (hw : wf a b c code = v) (h9 : v ≠ 9) (hc : code ≠ 0) : OKn (gc := gc) (q := q) (wf a b c) (B + oB) nT nK cT cK nT' nK' cT' cK' (code, 0, gc, q) (r, sy_up (sy_up gm 0 0 u) 0 0 v) := by
  rw [up_up]
  exact okn_no h hw h9 hc
theorem o_pledge (h : INV B 40 40 nT nK cT cK gc q gm) (x0 x1 x2 x3 x4 x5 : Int32) : OKn (gc := gc) (q := q) (wf 1 2 3) (B + oB) nT nK cT cK nT (nK + 1) cT (sCap nK cK) (fX6_pledge gc q nK x0 x1 x2 x3 x4 x5) (fX7_pledge gm q' x0 x1 x2 x3 x4 x5) := by
  have hT := inv_T h
  have hK := inv_K h
  unfold fX6_pledge fX7_pledge
  rw [h.2.1.1, h.2.2.1.1, h.2.1.2.2.1, h.2.2.1.2.2.2.1]
  simp only [cvn hT, cv2, cv3, cv9]
  by_cases c0 : 0 ≤ x0 ∧ x0 < 10
  · by_cases c1 : 0 ≤ x1 ∧ x1 < nI nT
    · by_cases c2 : 0 ≤ x2 ∧ x2 < 4
      · by_cases c3 : 0 ≤ x3 ∧ x3 < 3
        · by_cases c4 : 1 ≤ x4 ∧ x4 ≤ 100000
          · simp only [if_pos c0, if_pos c1, if_pos c2, if_pos c3, if_pos c4]
            obtain ⟨p, hp, rfl, ep⟩ := jof10 c0
            obtain ⟨i, hi, rfl, ei⟩ := jof (by omega) c1
            obtain ⟨e, he, rfl, ee⟩ := jof4 c2
            obtain ⟨t1, t2, t3⟩ := i_cg h hp
            rw [ei, ee, ep]
            unfold fX6_mayLend fX5_free fX1_valueBy
            rw [ep, t3, q_owes (e00 h), q_shelf (e00 h) hi, q_value (e00 h) hi, r_T h (f := 5) (o := 8) (if_pos (by omega)), r_T h (f := 6) (o := 9) (if_pos (by omega)), rd h.1 (a := 0) (b := 44) (c := 68) (d := 0) rfl, rd h.1 (a := 0) (b := 45) (c := 68) (d := 1) rfl, rd h.1 (a := 15) (b := e) (c := 80 + e) (d := 0) (if_pos he), rd h.1 (a := 19) (b := cg q p) (c := 84 + cg q p) (d := 1) (if_pos t1), rd h.1 (a := 20) (b := cg q p) (c := 84 + cg q p) (d := 2) (if_pos t1), nI_clamp (show nK < 2 ^ 31 by omega), Int32.add_comm (fX6_openLoansOf gc q (nI p)) x4]
            generalize fX6_valueNow gc q i * (100 + gm 15 e) / 100 = V
            by_cases d1 : gm 8 i = 0
            · by_cases d2 : gm 9 i = 0
              · simp only [if_pos d1, if_pos d2]
                by_cases d3 : V * gm 19 (cg q p) / 100 < x4
                · simp only [if_pos d3, not_true, if_false]
                  exact okn_no2 h rfl (by decide) (by decide)
                · simp only [if_neg d3]
                  by_cases d4 : gm 0 44 - gm 0 45 < x4
                  · simp only [if_pos d4, not_true, if_false]
                    exact okn_no2 h rfl (by decide) (by decide)
                  · simp only [if_neg d4]
                    by_cases d5 : gm 20 (cg q p) < x4 + fX6_openLoansOf gc q (nI p)
                    · simp only [if_pos d5, not_true, if_false]
                      exact okn_no2 h rfl (by decide) (by decide)
                    · simp only [if_neg d5, if_pos (show ¬ (1 : Int32) = 0 by decide)]
                      by_cases d6 : fX6_shelfFor gc q i x3 = -1
                      · simp only [if_pos d6]
                        exact okn_no2 h rfl (by decide) (by decide)
                      · simp only [if_neg d6]
                        by_cases d7 : nK = 40
                        · rw [if_pos (show (40 : Int32) ≤ nI nK by rw [d7]; decide), if_pos (show nI nK = 40 by rw [d7]; rfl)]
                          exact okn_no2 h rfl (by decide) (by decide)
                        · rw [if_neg (fun (z : (40 : Int32) ≤ nI nK) => d7 (by have := (nI_leI (a := 40) (b := nK) (by decide) (by omega)).mp z; omega)), if_neg (fun (z : nI nK = 40) => d7 ((nI_eq (a := nK) (b := 40) (by omega) (by decide)).mp z)), nI_1, up_up]
                          have hb := i32_bd c4
                          have k1 : (1 : Int32).toInt = 1 := rfl
                          have k2 : (100000 : Int32).toInt = 100000 := rfl
                          have ht := inv_ticket (i := i) (e := e) (x0 := nI p) (x5 := x5) (V := V) (x4 := x4) (x3 := x3) (S := fX6_shelfFor gc q i x3) (by omega) hi (show sy_up gm 0 0 0 8 i = 0 by rw [up_ne _ _ (by omega)]; exact d1) he (by omega) (by omega) (inv_0 (v := 0) h)
                          have hm := inv_move (x := -x4) (X := 100000) (tkM gc q nK i e (nI p) x5 V x4 x3 (fX6_shelfFor gc q i x3)).2 (by have := neg_abs x4; omega) ht
                          rw [up_ne gm _ (show 0 ≠ 0 ∨ 1 ≠ 0 by omega), up_ne gm _ (show 0 ≠ 0 ∨ 27 ≠ 0 by omega)] at hm
                          generalize hG9 : sy_up (sy_up (sy_up (sy_up (sy_up (sy_up (sy_up (sy_up (sy_up (sy_up (sy_up gm 0 0 0) 0 28 (nI (nK + 1))) 30 nK (nI i)) 31 nK (nI e)) 32 nK (nI p)) 33 nK (nI p)) 34 nK x5) 35 nK x4) 36 nK V) 37 nK (gm 0 1)) 38 nK (gm 0 27) = G at hm ⊢
                          have e44 : G 0 44 = gm 0 44 := by
                            rw [← hG9]
                            iterate 9 rw [sy_up_o _ _ _ (by omega)]
                            rw [up_ne _ _ (by omega), up_ne _ _ (by omega)]
                          have e00' : G 0 0 = 0 := by
                            rw [← hG9]
                            iterate 9 rw [sy_up_o _ _ _ (by omega)]
                            rw [up_ne _ _ (by omega), sy_up_e]
                          rw [up_ne _ _ (show 0 ≠ 13 ∨ _ by omega), up_ne _ _ (show 0 ≠ 12 ∨ _ by omega), up_ne _ _ (show 0 ≠ 11 ∨ _ by omega), up_ne _ _ (show 0 ≠ 10 ∨ _ by omega), up_ne _ _ (show 0 ≠ 8 ∨ _ by omega), e44, neg_sub, up_cm _ _ _ (show 13 ≠ 0 ∨ _ by omega), up_cm _ _ _ (show 12 ≠ 0 ∨ _ by omega), up_cm _ _ _ (show 11 ≠ 0 ∨ _ by omega), up_cm _ _ _ (show 10 ≠ 0 ∨ _ by omega), up_cm _ _ _ (show 8 ≠ 0 ∨ _ by omega)] at hm
                          exact okn_yes rfl (by rw [sy_up_o _ _ _ (by omega), sy_up_o _ _ _ (by omega), sy_up_o _ _ _ (by omega), sy_up_o _ _ _ (by omega), sy_up_o _ _ _ (by omega), up_ne _ _ (by omega)]; exact e00') (inv_B (by show B + 100000 ≤ B + 4000000; omega) hm)
              · simp only [if_pos d1, if_neg d2]
                split
                · exact okn_no2 h rfl (by decide) (by decide)
                · split
                  · exact okn_no2 h rfl (by decide) (by decide)
                  · split <;> exact okn_no2 h rfl (by decide) (by decide)
            · simp only [if_neg d1]
              split
              · exact okn_no2 h rfl (by decide) (by decide)
              · split
                · exact okn_no2 h rfl (by decide) (by decide)
                · split <;> exact okn_no2 h rfl (by decide) (by decide)
          · simp only [if_pos c0, if_pos c1, if_pos c2, if_pos c3, if_neg c4]
            exact okn_no h rfl (by decide) (by decide)
        · simp only [if_pos c0, if_pos c1, if_pos c2, if_neg c3]
          exact okn_no h rfl (by decide) (by decide)
      · simp only [if_pos c0, if_pos c1, if_neg c2]
        exact okn_no h rfl (by decide) (by decide)
    · simp only [if_pos c0, if_neg c1]
      exact okn_no h rfl (by decide) (by decide)
  · simp only [if_neg c0]
    exact okn_no h rfl (by decide) (by decide)
end OPP
