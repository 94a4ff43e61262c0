section OPL
variable {B nT nK cT cK : Nat} {gc : sG} {q : sQ} {gm : sG} {q' : sQ}
theorem up_id0 (g : sG) (o k : Nat) : sy_up g o k (g o k + 0) = g := by rw [Int32.add_zero]; exact up_id g o k
theorem l_count (h : INV B 40 40 nT nK cT cK gc q gm) (x0 : Int32) : ∀ n, n ≤ nT → (lX6_count gc q x0 n).1 = (lX7_count gm q' x0 n).1 ∧ (lX6_count gc q x0 n).2.1 = (lX7_count gm q' x0 n).2.1 ∧ (lX7_count gm q' x0 n).2.2 0 0 = 0 ∧ INV B 40 40 nT nK cT cK (lX6_count gc q x0 n).2.2 q (lX7_count gm q' x0 n).2.2 := by
  have hT := inv_T h
  intro n
  induction n with
  | zero => intro _; exact ⟨rfl, rfl, sy_up_e gm 0 0 0, inv_0 h⟩
  | succ n ih =>
    intro hn
    obtain ⟨i1, i2, i3, i4⟩ := ih (by omega)
    unfold lX6_count lX7_count
    rw [← i1, ← i2]
    generalize (lX6_count gc q x0 n).2.2 = gc1 at i4 ⊢
    generalize (lX7_count gm q' x0 n).2.2 = gm1 at i3 i4 ⊢
    generalize (lX6_count gc q x0 n).1 = c1
    generalize (lX6_count gc q x0 n).2.1 = c2
    rw [r_T i4 (f := 5) (o := 8) (i := n) (if_pos (by omega))]
    unfold fX3_canBeFound
    rw [r_T i4 (f := 5) (o := 8) (i := n) (if_pos (by omega))]
    rcases i4.2.2.2.2.1 n (by omega) with ⟨a1, -, -⟩ | ⟨a1, a2, a3⟩
    · simp only [if_pos a1, up_id, Int32.add_zero]
      exact ⟨trivial, trivial, i3, i4⟩
    · have a0 : ¬ gm1 8 n = 0 := by rw [a1]; decide
      rw [a2, a3]
      simp only [if_neg a0]
      by_cases e1 : gm1 11 n = gm1 10 n
      · have e3 : sy_up gm1 10 n (gm1 11 n) = gm1 := by rw [e1]; exact up_id gm1 10 n
        simp only [if_pos e1, if_pos e1.symm, if_neg (show ¬ (1 : Int32) = 0 by decide)]
        by_cases e2 : gm1 11 n / 4 = x0
        · simp only [if_pos e2, Int32.add_zero, e3]
          exact ⟨trivial, trivial, i3, i4⟩
        · have e5 : ¬ gm1 10 n / 4 = x0 := by rw [← e1]; exact e2
          simp only [if_neg e2, if_neg e5, up_id, Int32.add_zero]
          exact ⟨trivial, trivial, i3, i4⟩
      · simp only [if_neg e1, if_neg (fun z => e1 (Eq.symm z)), if_true]
        by_cases e2 : gm1 11 n / 4 = x0
        · simp only [if_pos e2, Int32.add_zero]
          exact ⟨trivial, trivial, by rw [up_ne _ _ (by omega)]; exact i3, inv_book (by omega) a0 i4⟩
        · simp only [if_neg e2]
          by_cases e4 : gm1 10 n / 4 = x0
          · simp only [if_pos e4, up_id, Int32.add_zero]
            exact ⟨trivial, trivial, i3, i4⟩
          · simp only [if_neg e4, up_id, Int32.add_zero]
            exact ⟨trivial, trivial, i3, i4⟩
theorem o_count (h : INV B 40 40 nT nK cT cK gc q gm) (x0 : Int32) : OKr (wf 1 9 9) (B + oB) nT nK cT cK (fX6_count gc q x0) (fX7_count gm q' x0) := by
  have hT := inv_T h
  unfold fX6_count fX7_count
  rw [h.2.1.1, h.2.2.1.1, nI_clamp (show nT < 2 ^ 31 by omega)]
  simp only [cv2]
  by_cases c0 : 0 ≤ x0 ∧ x0 < 3
  · simp only [if_pos c0]
    obtain ⟨i1, i2, i3, i4⟩ := l_count (q' := q') h x0 nT (Nat.le_refl _)
    exact ok_yes (by rw [i1, i2]) i3 (inv_B (Nat.le_add_right _ _) i4)
  · simp only [if_neg c0]
    exact ok_no h rfl (by decide) (by decide)
theorem l_wind (h : INV B 40 40 nT nK cT cK gc q gm) (x0 : Int32) : ∀ n, n ≤ nT → (lX6_wind gc q x0 n).1 = (lX7_wind gm q' x0 n).1 ∧ (lX7_wind gm q' x0 n).2 0 0 = 0 ∧ INV B 40 40 nT nK cT cK (lX6_wind gc q x0 n).2 q (lX7_wind gm q' x0 n).2 := by
  have hT := inv_T h
  intro n
  induction n with
  | zero => intro _; exact ⟨rfl, sy_up_e gm 0 0 0, inv_0 h⟩
  | succ n ih =>
    intro hn
    obtain ⟨i1, i3, i4⟩ := ih (by omega)
    unfold lX6_wind lX7_wind
    rw [← i1]
    generalize (lX6_wind gc q x0 n).2 = gc1 at i4 ⊢
    generalize (lX7_wind gm q' x0 n).2 = gm1 at i3 i4 ⊢
    generalize (lX6_wind gc q x0 n).1 = c1
    rw [r_T i4 (f := 5) (o := 8) (i := n) (if_pos (by omega)), r_T i4 (f := 1) (o := 4) (i := n) (if_pos (by omega)), rd i4.1 (a := 0) (b := 1) (c := 60) (d := 9) rfl]
    have hid : (c1 = c1 + 0) ∧ sy_up gm1 13 n (gm1 13 n) 0 0 = 0 ∧ INV B 40 40 nT nK cT cK gc1 q (sy_up gm1 13 n (gm1 13 n)) := by
      rw [up_id, Int32.add_zero]
      exact ⟨rfl, i3, i4⟩
    rcases i4.2.2.2.2.1 n (by omega) with ⟨a1, -, -⟩ | ⟨a1, a2, a3⟩
    · by_cases e1 : gm1 4 n = 2
      · simp only [if_pos a1, if_pos e1]
        exact hid
      · simp only [if_pos a1, if_neg e1]
        exact hid
    · have a0 : ¬ gm1 8 n = 0 := by rw [a1]; decide
      rw [a3]
      by_cases e1 : gm1 4 n = 2
      · by_cases e2 : gm1 11 n / 4 = x0
        · simp only [if_neg a0, if_pos e1, if_pos e2]
          exact ⟨trivial, by rw [up_ne _ _ (by omega)]; exact i3, inv_p (a := 13) (b := n) (if_pos (by omega)) (by omega) (by omega) (by omega) (by omega) (by omega) (by omega) i4⟩
        · simp only [if_neg a0, if_pos e1, if_neg e2]
          exact hid
      · simp only [if_neg a0, if_neg e1]
        exact hid
theorem o_wind (h : INV B 40 40 nT nK cT cK gc q gm) (x0 : Int32) : OKr (wf 1 9 9) (B + oB) nT nK cT cK (fX6_wind gc q x0) (fX7_wind gm q' x0) := by
  have hT := inv_T h
  unfold fX6_wind fX7_wind
  rw [h.2.1.1, h.2.2.1.1, nI_clamp (show nT < 2 ^ 31 by omega)]
  simp only [cv2]
  by_cases c0 : 0 ≤ x0 ∧ x0 < 3
  · simp only [if_pos c0]
    obtain ⟨i1, i3, i4⟩ := l_wind (q' := q') h x0 nT (Nat.le_refl _)
    exact ok_yes i1 i3 (inv_B (Nat.le_add_right _ _) i4)
  · simp only [if_neg c0]
    exact ok_no h rfl (by decide) (by decide)
/-- a day more: every notice, every surplus may be a day older than it may stay -/
theorem inv_day {D : Nat} (hD : gm 0 1 = nI D) (hD5 : D + 1 ≤ 5000) (h : INV B 40 40 nT nK cT cK gc q gm) : INV B 0 0 nT nK cT cK (sy_up gc 60 9 (gc 60 9 + 1)) q (sy_up gm 0 1 (gm 0 1 + 1)) := by
  have hK := inv_K h
  have hT := inv_T h
  obtain ⟨hR, hI, k3, k4, k5, k6, k7, k8, k9, k10⟩ := h
  have e60 : gc 60 9 = gm 0 1 := rd hR (a := 0) (b := 1) rfl
  rw [e60]
  refine ⟨Rx_p (a := 0) (b := 1) rfl hR, ?_, A3_up (by omega) k3, A4_up (by omega) k4, A5_c hT (by omega) (A5_m (by omega) k5), A6_c (by omega) fun j hj => ?_, A7_c (by omega) fun j hj => ?_, k8, B9_m (by omega) k9, B10_m (by omega) k10⟩
  · obtain ⟨i1, i2, i3, i4, i5, i6, i7, i8, i9, i10, ⟨d, hd, i11, i12⟩⟩ := hI
    have hdD : d = D := (nI_eq (by omega) (by omega)).mp (i11.symm.trans hD)
    unfold IM
    simp only [sy_up_o gm 1 (gm 0 1 + 1) (show 4 ≠ 0 by decide), sy_up_o gm 1 (gm 0 1 + 1) (show 18 ≠ 0 by decide), sy_up_o gm 1 (gm 0 1 + 1) (show 37 ≠ 0 by decide), sy_up_o gm 1 (gm 0 1 + 1) (show 30 ≠ 0 by decide), sy_up_o gm 1 (gm 0 1 + 1) (show 31 ≠ 0 by decide), sy_up_e, sy_up_k gm 0 (gm 0 1 + 1) (show 2 ≠ 1 by decide), sy_up_k gm 0 (gm 0 1 + 1) (show 28 ≠ 1 by decide), sy_up_k gm 0 (gm 0 1 + 1) (show 24 ≠ 1 by decide), sy_up_k gm 0 (gm 0 1 + 1) (show 20 ≠ 1 by decide)]
    exact ⟨i1, i2, i3, i4, i5, i6, i7, i8, i9, i10, D + 1, hD5, by rw [hD, nI_1], fun j hj => by
      obtain ⟨b, hb, e⟩ := i12 j hj
      exact ⟨b, by omega, e⟩⟩
  · rw [up_ne gm _ (show 41 ≠ 0 ∨ j ≠ 1 by omega), up_ne gm _ (show 42 ≠ 0 ∨ j ≠ 1 by omega), sy_up_e, hD, nI_1]
    rcases k6 j hj with h1 | ⟨d, D', e1, h1, h2, h3, h4, h5⟩
    · exact Or.inl h1
    · have hDD : D' = D := (nI_eq (by omega) (by omega)).mp (e1.symm.trans hD)
      rw [if_pos (show j < 40 by omega)] at h4
      exact Or.inr ⟨d, D + 1, rfl, hD5, h2, by omega, by rw [if_neg (Nat.not_lt_zero _)]; omega, h5⟩
  · rw [up_ne gm _ (show 43 ≠ 0 ∨ j ≠ 1 by omega), up_ne gm _ (show 39 ≠ 0 ∨ j ≠ 1 by omega), up_ne gm _ (show 44 ≠ 0 ∨ j ≠ 1 by omega), sy_up_e, hD, nI_1]
    rcases k7 j hj with h1 | ⟨s, D', e1, h1, h2, h3, h4, h5, h6, h7, h8⟩
    · exact Or.inl h1
    · have hDD : D' = D := (nI_eq (by omega) (by omega)).mp (e1.symm.trans hD)
      rw [if_pos (show j < 40 by omega)] at h7
      exact Or.inr ⟨s, D + 1, rfl, hD5, h2, h3, h4, h5, by omega, by rw [if_neg (Nat.not_lt_zero _)]; omega, h8⟩
theorem l_dayA {D : Nat} (hD : gm 0 1 = nI D) (hD5 : D + 1 ≤ 5000) (h : INV B 40 40 nT nK cT cK gc q gm) : ∀ n, n ≤ nT → (lX7_passA gm q' n) 0 0 = gm 0 0 ∧ (lX7_passA gm q' n) 0 1 = nI (D + 1) ∧ INV B 0 0 nT nK cT cK (lX6_dayA gc q n) q (lX7_passA gm q' n) := by
  have hT := inv_T h
  intro n
  induction n with
  | zero => intro _; exact ⟨up_ne _ _ (by omega), by show sy_up gm 0 1 (gm 0 1 + 1) 0 1 = _; rw [sy_up_e, hD, nI_1], inv_day hD hD5 h⟩
  | succ n ih =>
    intro hn
    obtain ⟨i1, i2, i3⟩ := ih (by omega)
    unfold lX6_dayA lX7_passA
    generalize lX6_dayA gc q n = gc1 at i3 ⊢
    generalize lX7_passA gm q' n = gm1 at i1 i2 i3 ⊢
    have e60 : gc1 60 9 = gm1 0 1 := rd i3.1 (a := 0) (b := 1) rfl
    have hid : (sy_up gm1 7 n (gm1 7 n + 0)) 0 0 = gm 0 0 ∧ (sy_up gm1 7 n (gm1 7 n + 0)) 0 1 = nI (D + 1) ∧ INV B 0 0 nT nK cT cK gc1 q (sy_up gm1 7 n (gm1 7 n + 0)) := by
      rw [up_id0]
      exact ⟨i1, i2, i3⟩
    have hup : (sy_up gm1 7 n (gm1 7 n + 1)) 0 0 = gm 0 0 ∧ (sy_up gm1 7 n (gm1 7 n + 1)) 0 1 = nI (D + 1) ∧ INV B 0 0 nT nK cT cK (sy_up gc1 (100 + n) 4 (gm1 7 n + 1)) q (sy_up gm1 7 n (gm1 7 n + 1)) :=
      ⟨by rw [up_ne _ _ (by omega)]; exact i1, by rw [up_ne _ _ (by omega)]; exact i2, inv_p (a := 7) (b := n) (if_pos (by omega)) (by omega) (by omega) (by omega) (by omega) (by omega) (by omega) i3⟩
    unfold fX3_wearOn fX3_furWearsOn fX3_clockWearsOn
    rw [r_T i3 (f := 5) (o := 8) (i := n) (if_pos (by omega)), r_T i3 (f := 4) (o := 7) (i := n) (if_pos (by omega)), r_T i3 (f := 1) (o := 4) (i := n) (if_pos (by omega)), r_T i3 (f := 9) (o := 12) (i := n) (if_pos (by omega)), r_T i3 (f := 10) (o := 13) (i := n) (if_pos (by omega)), e60]
    rcases i3.2.2.2.2.1 n (by omega) with ⟨a1, -, -⟩ | ⟨a1, a2, a3⟩
    · simp only [if_pos a1, ite_self]
      exact hid
    · have a0 : ¬ gm1 8 n = 0 := by rw [a1]; decide
      rw [a3]
      by_cases d1 : 10 ≤ gm1 7 n <;> by_cases d2 : gm1 4 n = 1 <;> by_cases d3 : gm1 4 n = 2 <;> by_cases d4 : gm1 11 n - gm1 11 n / 4 * 4 = 0 <;> by_cases d5 : gm1 0 1 - gm1 12 n - (gm1 0 1 - gm1 12 n) / 60 * 60 = 0 <;> by_cases d6 : gm1 0 1 - gm1 13 n - (gm1 0 1 - gm1 13 n) / 90 * 90 = 0 <;>
        (simp only [a0, d1, d2, d3, d4, d5, d6, if_true, if_false, if_neg (show ¬ (1 : Int32) = 0 by decide), ite_self]; first | exact hid | exact hup | (simp only [d2] at d3; exact absurd d3 (by decide)))
end OPL
