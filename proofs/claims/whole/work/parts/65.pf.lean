section RDF
variable {B m5 m6 nT nK cT cK : Nat} {gc : sG} {q : sQ} {gm : sG} {q' : sQ}
theorem i_tg (h : INV B m5 m6 nT nK cT cK gc q gm) {j : Nat} (hj : j < nK) : tg q j < nT ∧ gm 30 j = nI (tg q j) ∧ (gm 30 j).toNatClampNeg = tg q j := by
  have hT := inv_T h
  obtain ⟨t, ht, e1, e2⟩ := (h.2.2.2.2.2.2.2.2.1.2 j hj).1
  have h1 := (iq_tg (inv_IQ h) hj).1
  rw [e1] at h1
  have h2 : tg q j = t := by have := Option.some.inj h1; omega
  rw [h2]
  exact ⟨ht, e2, by rw [e2]; exact nI_clamp (by omega)⟩
theorem i_xg (h : INV B m5 m6 nT nK cT cK gc q gm) {j : Nat} (hj : j < nK) : xg q j < 4 ∧ gm 31 j = nI (xg q j) ∧ (gm 31 j).toNatClampNeg = xg q j := by
  obtain ⟨t, ht, e1, e2⟩ := (h.2.2.2.2.2.2.2.2.1.2 j hj).2
  have h1 := (iq_xg (inv_IQ h) hj).1
  rw [e1] at h1
  have h2 : xg q j = t := by have := Option.some.inj h1; omega
  rw [h2]
  exact ⟨ht, e2, by rw [e2]; exact nI_clamp (by omega)⟩
theorem i_cg (h : INV B m5 m6 nT nK cT cK gc q gm) {p : Nat} (hp : p < 10) : cg q p < 3 ∧ gm 18 p = nI (cg q p) ∧ (gm 18 p).toNatClampNeg = cg q p := by
  obtain ⟨t, ht, e1, e2⟩ := h.2.2.2.2.2.2.2.2.1.1 p hp
  have h1 := (iq_cg (inv_IQ h) hp).1
  rw [e1] at h1
  have h2 : cg q p = t := by have := Option.some.inj h1; omega
  rw [h2]
  exact ⟨ht, e2, by rw [e2]; exact nI_clamp (by omega)⟩
theorem q_found (h : INV B m5 m6 nT nK cT cK gc q gm) {i : Nat} (hi : i < nT) : fX7_isFound gm q' (nI i) = fX3_canBeFound gc q i := by
  have hT := inv_T h
  unfold fX7_isFound fX3_canBeFound
  rw [nI_clamp (by omega), r_T h (f := 5) (o := 8) (if_pos (by omega))]
  rcases h.2.2.2.2.1 i hi with ⟨e1, -, -⟩ | ⟨e1, e2, e3⟩
  · rw [if_pos e1, if_pos e1]
  · have h8 : ¬ gm 8 i = 0 := by rw [e1]; decide
    rw [e2, e3, if_neg h8, if_neg h8]
    by_cases c : gm 10 i = gm 11 i
    · rw [if_pos c, if_pos c.symm]
    · rw [if_neg c, if_neg (fun z => c z.symm)]
theorem q_notice (h : INV B m5 m6 nT nK cT cK gc q gm) {j : Nat} (hj : j < nK) : (gm 41 j = -1) = (gc (200 + j) 11 = -1) := by
  rcases h.2.2.2.2.2.1 j hj with ⟨e1, e2⟩ | ⟨d, D, -, hD, e1, hd, -, e2, e3, -⟩
  · rw [e1, e2]
  · refine propext ⟨fun z => ?_, fun z => ?_⟩
    · rw [e1] at z
      exact absurd (congrArg Int32.toInt z) (by rw [nI_toInt (by omega)]; intro z2; have : (-1 : Int32).toInt = -1 := rfl; omega)
    · rw [e2] at z
      exact absurd z e3
theorem q_bars (h : INV B m5 m6 nT nK cT cK gc q gm) {j : Nat} (hj : j < nK) : fX7_bars gm q' (nI j) = (if gc (200 + j) 11 = -1 then 0 else 1) + (if fX4_isBarredByList gc q j = 0 then 0 else 2) := by
  have hK := inv_K h
  have hT := inv_T h
  obtain ⟨t1, t2, t3⟩ := i_tg h hj
  unfold fX7_bars fX4_isBarredByList
  simp only [q_notice h hj, nI_clamp (show j < 2 ^ 31 by omega)]
  rw [t3, r_K h (f := 7) (o := 39) (if_pos (by omega)), r_T h (f := 6) (o := 9) (i := tg q j) (if_pos (by omega))]
  by_cases c1 : gc (200 + j) 11 = -1 <;> by_cases c2 : gm 39 j = 0 <;> by_cases c3 : gm 9 (tg q j) = 0 <;> simp only [c1, c2, c3, if_true, if_false] <;> decide
theorem q_barred (h : INV B m5 m6 nT nK cT cK gc q gm) {j : Nat} (hj : j < nK) : (fX7_bars gm q' (nI j) = 0) = (fX4_isBarred gc q j = 0) := by
  rw [q_bars h hj]
  unfold fX4_isBarred fX4_hasNotice
  by_cases c1 : gc (200 + j) 11 = -1 <;> by_cases c3 : fX4_isBarredByList gc q j = 0 <;> simp only [c1, c3, if_true, if_false] <;> decide
theorem q_owes (h : INV B m5 m6 nT nK cT cK gc q gm) (p : Int32) : fX7_owes gm q' p = fX6_openLoansOf gc q p := by
  have hK := inv_K h
  have key : ∀ n, n ≤ nK → lX7_owes gm q' p n = lX6_openLoansOf gc q p n := by
    intro n
    induction n with
    | zero => intro _; rfl
    | succ n ih =>
      intro hn
      unfold lX7_owes lX6_openLoansOf
      rw [ih (by omega), r_K h (f := 7) (o := 39) (j := n) (if_pos (by omega)), r_K h (f := 8) (o := 35) (j := n) (if_pos (by omega)), r_K h (f := 2) (o := 32) (j := n) (if_pos (by omega)), Int32.add_zero]
  unfold fX7_owes fX6_openLoansOf
  rw [h.2.1.2.2.1, h.2.2.1.2.2.2.1, nI_clamp (by omega)]
  exact key nK (Nat.le_refl _)
theorem q_roomT (h : INV B m5 m6 nT nK cT cK gc q gm) {i : Nat} (hi : i < nT) (p : Int32) : fX7_rest gm q' p (nI i) = fX6_roomAtT gc q p i := by
  have hT := inv_T h
  have key : ∀ n, n ≤ nT → lX7_rest gm q' p (nI i) n = lX6_roomAtT gc q p i n := by
    intro n
    induction n with
    | zero => intro _; rfl
    | succ n ih =>
      intro hn
      unfold lX7_rest lX6_roomAtT
      rw [ih (by omega), r_T h (f := 5) (o := 8) (i := n) (if_pos (by omega)), r_T h (f := 2) (o := 5) (i := n) (if_pos (by omega)), Int32.sub_zero]
      rcases h.2.2.2.2.1 n (by omega) with ⟨e1, e2, e3⟩ | ⟨e1, e2, e3⟩
      · simp only [if_pos e1]
        split <;> rfl
      · rw [e3]
        by_cases c : n = i
        · subst c
          simp only [if_true]
          split
          · rfl
          · split <;> rfl
        · rw [if_neg c, if_neg (fun z => c ((nI_eq (by omega) (by omega)).mp z))]
  unfold fX7_rest fX6_roomAtT
  rw [h.2.1.1, h.2.2.1.1, nI_clamp (by omega)]
  exact key nT (Nat.le_refl _)
theorem q_roomN (h : INV B m5 m6 nT nK cT cK gc q gm) (p : Int32) : fX7_rest gm q' p (-1) = fX6_roomAtN gc q p := by
  have hT := inv_T h
  have key : ∀ n, n ≤ nT → lX7_rest gm q' p (-1) n = lX6_roomAtN gc q p n := by
    intro n
    induction n with
    | zero => intro _; rfl
    | succ n ih =>
      intro hn
      unfold lX7_rest lX6_roomAtN
      have hne : ¬ nI n = -1 := fun z => by
        have z1 := congrArg Int32.toInt z
        rw [nI_toInt (by omega)] at z1
        have : (-1 : Int32).toInt = -1 := rfl
        omega
      rw [ih (by omega), r_T h (f := 5) (o := 8) (i := n) (if_pos (by omega)), r_T h (f := 2) (o := 5) (i := n) (if_pos (by omega)), Int32.sub_zero, if_neg hne]
      rcases h.2.2.2.2.1 n (by omega) with ⟨e1, e2, e3⟩ | ⟨e1, e2, e3⟩
      · rw [if_pos e1, if_pos e1]
      · rw [e3]
  unfold fX7_rest fX6_roomAtN
  rw [h.2.1.1, h.2.2.1.1, nI_clamp (by omega)]
  exact key nT (Nat.le_refl _)
theorem q_shelf (h : INV B m5 m6 nT nK cT cK gc q gm) {i : Nat} (hi : i < nT) (b : Int32) : fX7_shelfFor gm q' (nI i) b = fX6_shelfFor gc q i b := by
  have hT := inv_T h
  unfold fX7_shelfFor fX6_shelfFor
  rw [q_roomT h hi, q_roomT h hi, q_roomT h hi, q_roomT h hi, nI_clamp (by omega), r_T h (f := 1) (o := 4) (if_pos (by omega)), r_T h (f := 2) (o := 5) (if_pos (by omega)), Int32.add_zero]
  generalize fX6_roomAtT gc q (4 * b) i = a0
  generalize fX6_roomAtT gc q (4 * b + 1) i = a1
  generalize fX6_roomAtT gc q (4 * b + 2) i = a2
  generalize fX6_roomAtT gc q (4 * b + 3) i = a3
  by_cases c0 : a0 < gm 5 i <;> by_cases c1 : a1 < gm 5 i <;> by_cases c2 : a2 < gm 5 i <;> by_cases c3 : a3 < gm 5 i <;> by_cases c4 : gm 4 i = 1 <;> simp only [c0, c1, c2, c3, c4, if_true, if_false]
theorem q_value (h : INV B m5 m6 nT nK cT cK gc q gm) {i : Nat} (hi : i < nT) : fX7_valueNow gm q' (nI i) = fX6_valueNow gc q i := by
  have hT := inv_T h
  unfold fX7_valueNow fX6_valueNow
  rw [nI_clamp (by omega), r_T h (f := 3) (o := 6) (if_pos (by omega)), r_T h (f := 4) (o := 7) (if_pos (by omega)), r_T h (f := 1) (o := 4) (if_pos (by omega)), r_S h (c := 63) (o := 14) rfl]
theorem openOf_none {g : sG} {p : Int32} : ∀ n : Nat, (∀ j, j < n → g 30 j = p → g 39 j ≠ 0) → lX7_openOf g q' p n = -1
  | 0, _ => rfl
  | n + 1, hh => by
    unfold lX7_openOf
    rw [openOf_none n (fun j hj => hh j (by omega))]
    split
    · rw [if_neg (hh n (by omega) ‹_›)]
    · rfl
theorem openOf_some {g : sG} {p : Int32} {j0 : Nat} (h1 : g 30 j0 = p) (h2 : g 39 j0 = 0) : ∀ n : Nat, j0 < n → (∀ j, j < n → g 30 j = p → g 39 j = 0 → j = j0) → lX7_openOf g q' p n = nI j0
  | 0, h, _ => by omega
  | n + 1, h, hh => by
    unfold lX7_openOf
    by_cases c : n = j0
    · subst c
      rw [if_pos h1, if_pos h2]
    · rw [openOf_some h1 h2 n (by omega) (fun j hj => hh j (by omega))]
      split
      · split
        · exact absurd (hh n (by omega) ‹_› ‹_›) c
        · rfl
      · rfl
theorem q_open (h : INV B m5 m6 nT nK cT cK gc q gm) {i : Nat} (hi : i < nT) : fX7_openOf gm q' (nI i) = fX3_openTicketNumber gc q i := by
  have hK := inv_K h
  unfold fX7_openOf fX3_openTicketNumber
  rw [h.2.1.2.2.1, nI_clamp (by omega)]
  rcases h.2.2.2.2.2.2.2.2.2 i hi with ⟨e1, -, e2⟩ | ⟨j, hj, e1, -, e2, e3, e4⟩
  · rw [if_pos e1, openOf_none nK e2]
  · rw [if_neg (by rw [e1]; intro z; cases z), openOf_some e2 e3 nK hj e4]
    have : og q i = j := by unfold og; rw [e1]; show 200 + j - 200 = j; omega
    rw [this]
    exact (h.2.2.1.2.2.2.2.2.2.2.2.1 j hj).symm
end RDF
