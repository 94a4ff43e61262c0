section OPS
variable {n n' nT nK cT cK i j X : Nat} {g g' : sG} {q q' : sQ}
theorem p_notice (c : CI n nT nK cT cK g q) (hj : j < nK) {p : Nat} (hp : p < 10) : fX6_notice g q (nI j) (nI p) = (3, g, q) ∨ ((barI g q j = 0 ∨ barI g q j = 2) ∧ (fX6_notice g q (nI j) (nI p)).1 = 0 ∧ CI n nT nK cT cK (fX6_notice g q (nI j) (nI p)).2.1 (fX6_notice g q (nI j) (nI p)).2.2 ∧ barI (fX6_notice g q (nI j) (nI p)).2.1 (fX6_notice g q (nI j) (nI p)).2.2 j = barI g q j + 1 ∧ (fX6_notice g q (nI j) (nI p)).2.1 (200 + j) 11 = nI p) := by
  have hT := ci_T c
  obtain ⟨e1, e2⟩ := jK c hj
  obtain ⟨t1, t2⟩ := ci_tg c hj
  have hpn : nI p ≠ -1 := fun z => by
    have h1 := congrArg Int32.toInt z
    rw [nI_toInt (by omega)] at h1
    have h2 : (-1 : Int32).toInt = -1 := rfl
    omega
  unfold fX6_notice
  rw [if_pos e1, if_pos (r_in (N := 10) (m := 10) hp (by decide) rfl), e2]
  split
  · exact Or.inl rfl
  · by_cases hb : fX4_hasNotice g q j = 0
    · rw [if_pos hb]
      right
      have hc := ci_up (o := 200 + j) (k := 12) (v := sy_up g (200 + j) 11 (nI p) 60 9) (by omega) (ci_tk (j := j) (k := 11) (v := nI p) (Nat.le_refl n) (Or.inr (Or.inr (Or.inl ⟨rfl, Or.inr (vp_in_nI hp (by decide))⟩))) c)
      have r11 : sy_up (sy_up g (200 + j) 11 (nI p)) (200 + j) 12 (sy_up g (200 + j) 11 (nI p) 60 9) (200 + j) 11 = nI p := by rw [up_ne _ _ (by omega), sy_up_e]
      have r7 : sy_up (sy_up g (200 + j) 11 (nI p)) (200 + j) 12 (sy_up g (200 + j) 11 (nI p) 60 9) (200 + j) 7 = g (200 + j) 7 := by rw [up_ne _ _ (by omega), up_ne _ _ (by omega)]
      have r6 : sy_up (sy_up g (200 + j) 11 (nI p)) (200 + j) 12 (sy_up g (200 + j) 11 (nI p) 60 9) (100 + tg q j) 6 = g (100 + tg q j) 6 := by rw [up_ne _ _ (by omega), up_ne _ _ (by omega)]
      generalize sy_up (sy_up g (200 + j) 11 (nI p)) (200 + j) 12 (sy_up g (200 + j) 11 (nI p) 60 9) = G at hc r11 r7 r6 ⊢
      have hn1 : ¬ fX4_hasNotice G q j = 0 := by unfold fX4_hasNotice; rw [r11, if_neg hpn]; decide
      have hl : fX4_isBarredByList G q j = fX4_isBarredByList g q j := by unfold fX4_isBarredByList; rw [r7, r6]
      have hB : barI G q j = barI g q j + 1 := by
        unfold barI
        rw [if_neg hn1, if_pos hb, hl]
        split <;> rfl
      refine ⟨?_, rfl, hc, hB, r11⟩
      unfold barI
      rw [if_pos hb]
      split
      · exact Or.inl rfl
      · exact Or.inr rfl
    · rw [if_neg hb]; exact Or.inl rfl
theorem p_show (c : CI n nT nK cT cK g q) (hj : j < nK) {p : Nat} (hp : p < 10) (h : g (200 + j) 11 = nI p) : (fX6_show g q (nI j)).1 = 0 ∧ (fX6_show g q (nI j)).2.1 = nI p ∧ CI n nT nK cT cK (fX6_show g q (nI j)).2.2.1 (fX6_show g q (nI j)).2.2.2 := by
  obtain ⟨e1, e2⟩ := jK c hj
  have hpn : nI p ≠ -1 := fun z => by
    have h1 := congrArg Int32.toInt z
    rw [nI_toInt (by omega)] at h1
    have h2 : (-1 : Int32).toInt = -1 := rfl
    omega
  have hn1 : ¬ fX4_hasNotice g q j = 0 := by unfold fX4_hasNotice; rw [h, if_neg hpn]; decide
  unfold fX6_show
  rw [if_pos e1, e2, if_pos hn1]
  exact ⟨rfl, h, ci_tk (Nat.le_refl n) (Or.inr (Or.inr (Or.inl ⟨rfl, Or.inl rfl⟩))) c⟩
theorem p_give (c : CI n nT nK cT cK g q) (hj : j < nK) {p : Nat} (hp : p < 10) : (fX6_give g q (nI j) (nI p) = (3, 0, g, q)) ∨ ((fX6_give g q (nI j) (nI p)).1 = 0 ∧ CI n nT nK cT cK (fX6_give g q (nI j) (nI p)).2.2.1 (fX6_give g q (nI j) (nI p)).2.2.2) := by
  obtain ⟨e1, e2⟩ := jK c hj
  unfold fX6_give
  rw [if_pos e1, if_pos (r_in (N := 10) (m := 10) hp (by decide) rfl), e2]
  split
  · split
    · exact Or.inl rfl
    · exact Or.inr ⟨rfl, ci_tk (Nat.le_refl n) (Or.inl ⟨rfl, vp_in_nI hp (by decide)⟩) c⟩
  · exact Or.inl rfl
/-- the number of a thing's ticket, as an answer -/
theorem otn (c : CI n nT nK cT cK g q) (hi : i < nT) : (g (100 + i) 5 = 0 ∧ q (100 + i) 11 = none ∧ fX3_openTicketNumber g q i = -1) ∨ (g (100 + i) 5 = 1 ∧ ∃ j, j < nK ∧ q (100 + i) 11 = some (200 + j) ∧ fX3_openTicketNumber g q i = nI j ∧ g (200 + j) 7 = 0 ∧ tg q j = i ∧ og q i = j) := by
  rcases c.2.2.2.2.2.2.1.1 i hi with ⟨h1, h2, h3⟩ | ⟨h1, ⟨j, h2, h3, h4, h5⟩, h6⟩
  · exact Or.inl ⟨h1, h2, by unfold fX3_openTicketNumber; rw [if_pos h2]⟩
  · have ho : og q i = j := by unfold og; rw [h3]; show 200 + j - 200 = j; omega
    refine Or.inr ⟨h1, j, h2, h3, ?_, h4, ?_, ho⟩
    · unfold fX3_openTicketNumber
      rw [if_neg (by rw [h3]; exact fun z => by cases z), ho]
      exact (c.2.2.2.2.1 j h2).1
    · unfold tg; rw [h5]; show 100 + i - 100 = i; omega
theorem p_police (c : CI n nT nK cT cK g q) (hi : i < nT) : (g (100 + i) 6 ≠ 0 → fX6_police g q (nI i) = (3, 0, g, q)) ∧ (g (100 + i) 6 = 0 → (fX6_police g q (nI i)).1 = 0 ∧ (fX6_police g q (nI i)).2.1 = fX3_openTicketNumber g q i ∧ CI n nT nK cT cK (fX6_police g q (nI i)).2.2.1 (fX6_police g q (nI i)).2.2.2 ∧ (fX6_police g q (nI i)).2.2.1 (100 + i) 6 = 1) := by
  have hT := ci_T c
  obtain ⟨e1, e2⟩ := iT c hi
  unfold fX6_police
  rw [if_pos e1, e2]
  refine ⟨fun h => by rw [if_neg h], fun h => ?_⟩
  rw [if_pos h]
  refine ⟨rfl, ?_, ci_up (by omega) c, sy_up_e _ _ _ _⟩
  show fX3_openTicketNumber (sy_up g (100 + i) 6 1) q i = _
  unfold fX3_openTicketNumber
  split
  · rfl
  · rw [up_ne _ _ (by omega)]
theorem p_court (c : CI n nT nK cT cK g q) (hi : i < nT) (hl : g (100 + i) 6 ≠ 0) {x : Int32} (hx : x = 0 ∨ x = 1) : (fX6_court g q (nI i) x).1 = 0 ∧ (fX6_court g q (nI i) x).2.1 = (if x = 0 then -1 else fX3_openTicketNumber g q i) ∧ CI n nT nK cT cK (fX6_court g q (nI i) x).2.2.1 (fX6_court g q (nI i) x).2.2.2 := by
  have hT := ci_T c
  obtain ⟨e1, e2⟩ := iT c hi
  have cu : CI n nT nK cT cK (sy_up g (100 + i) 6 0) q := ci_up (by omega) c
  unfold fX6_court
  rw [if_pos e1, e2, if_pos hl]
  rcases otn c hi with ⟨h1, h2, h3⟩ | ⟨h1, j, h2, h3, h4, h5, h6, h7⟩
  · rw [if_pos h2, h3]
    rcases hx with rfl | rfl
    · exact ⟨rfl, rfl, cu⟩
    · exact ⟨rfl, rfl, cu⟩
  · rw [if_neg (by rw [h3]; exact fun z => by cases z), h7, h4]
    rcases hx with rfl | rfl
    · exact ⟨rfl, rfl, cu⟩
    · rw [if_neg (by decide), if_neg (by decide)]
      have hx4 : xg q j < 4 := (iq_xg (ci_IQ c) h2).2
      have cc := ci_close (v := 3) h2 (by rw [up_ne _ _ (by omega)]; exact h5) (Or.inr (Or.inr rfl)) cu
      refine ⟨rfl, ?_, ci_up (by omega) cc⟩
      show sy_up (fX4_close (sy_up g (100 + i) 6 0) q j 3).1 (80 + xg q j) 1 _ (200 + j) 0 = nI j
      rw [up_ne _ _ (by omega)]
      exact (cc.2.2.2.2.1 j h2).1
/-- a thing comes to a place -/
theorem ci_comeTo (c : CI n nT nK cT cK g q) (hi : i < nT) (hs : g (100 + i) 5 ≠ 0) {p : Nat} (hp : p < 12) {d : Int32} : CI n nT nK cT cK (fX3_comeTo g q i (nI p) d) q ∧ fX3_comeTo g q i (nI p) d (100 + i) 8 = nI p ∧ (fX3_comeTo g q i (nI p) d (100 + i) 7 = g (100 + i) 7) ∧ fX3_comeTo g q i (nI p) d (100 + i) 5 = g (100 + i) 5 := by
  have hT := ci_T c
  unfold fX3_comeTo
  split
  · rename_i h
    exact ⟨c, h, rfl, rfl⟩
  · refine ⟨ci_up (by omega) (ci_pl (Or.inr rfl) hi hs (vp_in_nI hp (by decide)) c), ?_, ?_, ?_⟩
    · rw [up_ne _ _ (by omega), sy_up_e]
    · rw [up_ne _ _ (by omega), up_ne _ _ (by omega)]
    · rw [up_ne _ _ (by omega), up_ne _ _ (by omega)]
theorem pl_e {b s : Nat} : 4 * nI b + nI s = nI (4 * b + s) := by
  rw [← nI_add]
  congr 1
  exact (Int32.ofNat_mul 4 b).symm
theorem p_stray (c : CI n nT nK cT cK g q) (hi : i < nT) {b s : Nat} (hb : b < 3) (hs : s < 4) : (g (100 + i) 5 = 0 ∧ fX6_stray g q (nI i) (nI b) (nI s) = (3, g, q)) ∨ (g (100 + i) 5 ≠ 0 ∧ (fX6_stray g q (nI i) (nI b) (nI s)).1 = 0 ∧ CI n nT nK cT cK (fX6_stray g q (nI i) (nI b) (nI s)).2.1 (fX6_stray g q (nI i) (nI b) (nI s)).2.2 ∧ (fX6_stray g q (nI i) (nI b) (nI s)).2.1 (100 + i) 7 = g (100 + i) 7 ∧ (fX6_stray g q (nI i) (nI b) (nI s)).2.1 (100 + i) 8 = nI (4 * b + s) ∧ (fX6_stray g q (nI i) (nI b) (nI s)).2.1 (100 + i) 5 = g (100 + i) 5) := by
  obtain ⟨e1, e2⟩ := iT c hi
  unfold fX6_stray
  rw [if_pos e1, if_pos (r_in (N := 3) (m := 3) hb (by decide) rfl), if_pos (r_in (N := 4) (m := 4) hs (by decide) rfl), e2, pl_e]
  by_cases h : g (100 + i) 5 = 0
  · rw [if_neg (fun z => z h)]; exact Or.inl ⟨h, rfl⟩
  · rw [if_pos h]
    obtain ⟨c1, c2, c3, c4⟩ := ci_comeTo c hi h (p := 4 * b + s) (by omega) (d := g 60 9)
    exact Or.inr ⟨h, rfl, c1, c3, c2, c4⟩
/-- a count: things that are at this branch get their place in the books -/
theorem p_count0 (c : CI n nT nK cT cK g q) {x : Int32} : ∀ k, k ≤ nT → CI n nT nK cT cK (lX6_count g q x k).2.2 q ∧ (0 ≤ (lX6_count g q x k).1.toInt ∧ (lX6_count g q x k).1.toInt ≤ k) ∧ (0 ≤ (lX6_count g q x k).2.1.toInt ∧ (lX6_count g q x k).2.1.toInt ≤ k) ∧ (∀ i, (lX6_count g q x k).2.2 (100 + i) 5 = g (100 + i) 5 ∧ (lX6_count g q x k).2.2 (100 + i) 8 = g (100 + i) 8 ∧ (k ≤ i → (lX6_count g q x k).2.2 (100 + i) 7 = g (100 + i) 7) ∧ (i < k → g (100 + i) 5 ≠ 0 → g (100 + i) 8 / 4 = x → (lX6_count g q x k).2.2 (100 + i) 7 = g (100 + i) 8)) := by
  intro k
  induction k with
  | zero =>
    intro _
    refine ⟨c, ?_, ?_, fun i => ⟨rfl, rfl, fun _ => rfl, fun h => absurd h (by omega)⟩⟩
    · show 0 ≤ (0 : Int32).toInt ∧ (0 : Int32).toInt ≤ 0; decide
    · show 0 ≤ (0 : Int32).toInt ∧ (0 : Int32).toInt ≤ 0; decide
  | succ k ih =>
    intro hk
    obtain ⟨c1, m1, f1, r1⟩ := ih (by omega)
    have hT := ci_T c
    have o1 : (1 : Int32).toInt = 1 := rfl
    unfold lX6_count
    obtain ⟨a5, a8, a7, -⟩ := r1 k
    have a7 := a7 (Nat.le_refl _)
    generalize lX6_count g q x k = T at c1 m1 f1 r1 a5 a8 a7 ⊢
    obtain ⟨T1, T2, G⟩ := T
    dsimp only at c1 m1 f1 r1 a5 a8 a7 ⊢
    have same : (∀ i, G (100 + i) 5 = g (100 + i) 5 ∧ G (100 + i) 8 = g (100 + i) 8 ∧ (k + 1 ≤ i → G (100 + i) 7 = g (100 + i) 7) ∧ (i < k + 1 → g (100 + i) 5 ≠ 0 → g (100 + i) 8 / 4 = x → (g (100 + k) 5 = 0 ∨ G (100 + k) 7 = g (100 + k) 8 ∨ g (100 + k) 8 / 4 ≠ x) → G (100 + i) 7 = g (100 + i) 8)) := fun i => ⟨(r1 i).1, (r1 i).2.1, fun h => (r1 i).2.2.1 (by omega), fun h h1 h2 h3 => by
      by_cases h9 : i = k
      · subst h9
        rcases h3 with h3 | h3 | h3
        · exact absurd h3 h1
        · exact h3
        · exact absurd h2 h3
      · exact (r1 i).2.2.2 (by omega) h1 h2⟩
    by_cases h5' : G (100 + k) 5 = 0
    · rw [if_pos h5']
      have h5 : g (100 + k) 5 = 0 := a5.symm.trans h5'
      exact ⟨c1, by dsimp only; omega, by dsimp only; omega, fun i => ⟨(same i).1, (same i).2.1, (same i).2.2.1, fun h1 h2 h3 => (same i).2.2.2 h1 h2 h3 (Or.inl h5)⟩⟩
    · rw [if_neg h5']
      have h5 : ¬ g (100 + k) 5 = 0 := fun z => h5' (a5.trans z)
      by_cases hf : fX3_canBeFound G q k = 0
      · rw [if_pos hf]
        by_cases hb' : G (100 + k) 8 / 4 = x
        · rw [if_pos hb', a8]
          have hv : vp_in (g (100 + k) 8) 12 := by
            rcases c.2.2.2.2.2.2.1.1 k hk with ⟨h, -⟩ | ⟨-, -, -, h⟩
            · exact absurd h h5
            · exact h
          have c2 := ci_pl (k := 7) (Or.inl rfl) hk h5' hv c1
          refine ⟨c2, by dsimp only; omega, ?_, fun i => ?_⟩
          · show 0 ≤ (T2 + 1).toInt ∧ (T2 + 1).toInt ≤ _
            rw [toInt_addb (by omega) (by omega), o1]
            omega
          · dsimp only
            rw [up_ne _ _ (show 100 + i ≠ 100 + k ∨ 5 ≠ 7 by omega), up_ne _ _ (show 100 + i ≠ 100 + k ∨ 8 ≠ 7 by omega)]
            refine ⟨(r1 i).1, (r1 i).2.1, fun h => ?_, fun h h1 h2 => ?_⟩
            · rw [up_ne _ _ (by omega)]; exact (r1 i).2.2.1 (by omega)
            · by_cases h9 : i = k
              · subst h9
                rw [sy_up_e]
              · rw [up_ne _ _ (by omega)]; exact (r1 i).2.2.2 (by omega) h1 h2
        · rw [if_neg hb']
          have hb : g (100 + k) 8 / 4 ≠ x := fun z => hb' (by rw [a8]; exact z)
          have fin : ∀ i, G (100 + i) 5 = g (100 + i) 5 ∧ G (100 + i) 8 = g (100 + i) 8 ∧ (k + 1 ≤ i → G (100 + i) 7 = g (100 + i) 7) ∧ (i < k + 1 → g (100 + i) 5 ≠ 0 → g (100 + i) 8 / 4 = x → G (100 + i) 7 = g (100 + i) 8) := fun i => ⟨(same i).1, (same i).2.1, (same i).2.2.1, fun h1 h2 h3 => (same i).2.2.2 h1 h2 h3 (Or.inr (Or.inr hb))⟩
          split
          · refine ⟨c1, ?_, by dsimp only; omega, fin⟩
            show 0 ≤ (T1 + 1).toInt ∧ (T1 + 1).toInt ≤ _
            rw [toInt_addb (by omega) (by omega), o1]
            omega
          · exact ⟨c1, by dsimp only; omega, by dsimp only; omega, fin⟩
      · rw [if_neg hf]
        have hf2 : G (100 + k) 7 = g (100 + k) 8 := by
          unfold fX3_canBeFound at hf
          rw [if_neg h5', a8] at hf
          by_cases z : g (100 + k) 8 = G (100 + k) 7
          · exact z.symm
          · rw [if_neg z] at hf; exact absurd rfl hf
        exact ⟨c1, by dsimp only; omega, by dsimp only; omega, fun i => ⟨(same i).1, (same i).2.1, (same i).2.2.1, fun h1 h2 h3 => (same i).2.2.2 h1 h2 h3 (Or.inr (Or.inl hf2))⟩⟩
theorem p_count (c : CI n nT nK cT cK g q) {b : Nat} (hb : b < 3) : (fX6_count g q (nI b)).1 = 0 ∧ 0 ≤ (fX6_count g q (nI b)).2.1.toInt ∧ CI n nT nK cT cK (fX6_count g q (nI b)).2.2.1 (fX6_count g q (nI b)).2.2.2 ∧ ∀ i, i < nT → g (100 + i) 5 ≠ 0 → g (100 + i) 8 / 4 = nI b → (fX6_count g q (nI b)).2.2.1 (100 + i) 7 = g (100 + i) 8 := by
  have hT := ci_T c
  obtain ⟨c1, m1, f1, r1⟩ := p_count0 c (x := nI b) nT (Nat.le_refl _)
  unfold fX6_count
  rw [if_pos (r_in (N := 3) (m := 3) hb (by decide) rfl), nTe c]
  refine ⟨rfl, ?_, c1, fun i hi h1 h2 => (r1 i).2.2.2 hi h1 h2⟩
  have k : (100 : Int32).toInt = 100 := rfl
  have e : (100 * (lX6_count g q (nI b) nT).1).toInt = 100 * (lX6_count g q (nI b) nT).1.toInt := by rw [toInt_mulb (by rw [k]; omega) (by rw [k]; omega), k]
  show 0 ≤ (100 * (lX6_count g q (nI b) nT).1 + (lX6_count g q (nI b) nT).2.1).toInt
  rw [toInt_addb (by omega) (by omega), e]
  omega
theorem p_transfer (c : CI n nT nK cT cK g q) (hi : i < nT) {b : Nat} (hb : b < 3) : fX6_transfer g q (nI i) (nI b) = (3, 0, g, q) ∨ ((fX6_transfer g q (nI i) (nI b)).1 = 0 ∧ CI n nT nK cT cK (fX6_transfer g q (nI i) (nI b)).2.2.1 (fX6_transfer g q (nI i) (nI b)).2.2.2 ∧ ∃ s, s < 4 ∧ (fX6_transfer g q (nI i) (nI b)).2.1 = nI s ∧ (fX6_transfer g q (nI i) (nI b)).2.2.1 (100 + i) 7 = nI (4 * b + s)) := by
  obtain ⟨e1, e2⟩ := iT c hi
  unfold fX6_transfer
  rw [if_pos e1, if_pos (r_in (N := 3) (m := 3) hb (by decide) rfl), e2]
  by_cases hf : fX3_canBeFound g q i = 0
  · rw [if_neg (fun z => z hf)]; exact Or.inl rfl
  · rw [if_pos hf]
    by_cases h8 : fX6_shelfFor g q i (nI b) = -1
    · rw [if_pos h8]; exact Or.inl rfl
    · rw [if_neg h8]
      right
      obtain ⟨s, hs, e9⟩ := sf_in.resolve_left h8
      rw [e9, pl_e]
      have h5 : g (100 + i) 5 ≠ 0 := fun z => by
        apply hf; unfold fX3_canBeFound; rw [if_pos z]
      obtain ⟨c1, c2, c3, c4⟩ := ci_comeTo c hi h5 (p := 4 * b + s) (by omega) (d := g 60 9)
      generalize fX3_comeTo g q i (nI (4 * b + s)) (g 60 9) = G at c1 c2 c3 c4 ⊢
      rw [c2]
      refine ⟨rfl, ci_pl (Or.inl rfl) hi (by rw [c4]; exact h5) (vp_in_nI (by omega) (by decide)) c1, s, hs, rfl, sy_up_e _ _ _ _⟩
theorem p_wind0 (c : CI n nT nK cT cK g q) {x : Int32} : ∀ k, k ≤ nT → CI n nT nK cT cK (lX6_wind g q x k).2 q ∧ 0 ≤ (lX6_wind g q x k).1.toInt ∧ (lX6_wind g q x k).1.toInt ≤ k := by
  intro k
  induction k with
  | zero => intro _; exact ⟨c, by show 0 ≤ (0 : Int32).toInt; decide, by show (0 : Int32).toInt ≤ 0; decide⟩
  | succ k ih =>
    intro hk
    obtain ⟨c1, m1, m2⟩ := ih (by omega)
    have hT := ci_T c
    have o1 : (1 : Int32).toInt = 1 := rfl
    unfold lX6_wind
    generalize lX6_wind g q x k = T at c1 m1 m2 ⊢
    obtain ⟨T1, G⟩ := T
    dsimp only at c1 m1 m2 ⊢
    repeat' split
    all_goals first
      | exact ⟨c1, m1, by dsimp only; omega⟩
      | exact ⟨ci_up (by omega) c1, by show 0 ≤ (T1 + 1).toInt; rw [toInt_addb (by omega) (by omega), o1]; omega, by show (T1 + 1).toInt ≤ _; rw [toInt_addb (by omega) (by omega), o1]; omega⟩
theorem p_wind (c : CI n nT nK cT cK g q) {b : Nat} (hb : b < 3) : (fX6_wind g q (nI b)).1 = 0 ∧ (fX6_wind g q (nI b)).2.1.toInt ≤ nT ∧ CI n nT nK cT cK (fX6_wind g q (nI b)).2.2.1 (fX6_wind g q (nI b)).2.2.2 := by
  obtain ⟨c1, m1, m2⟩ := p_wind0 c (x := nI b) nT (Nat.le_refl _)
  unfold fX6_wind
  rw [if_pos (r_in (N := 3) (m := 3) hb (by decide) rfl), nTe c]
  exact ⟨rfl, m2, c1⟩
end OPS
