section INT
variable {n n' nT nK cT cK i j X : Nat} {g g' : sG} {q q' : sQ}
theorem cost_bd {L r : Int32} (h1 : 0 ≤ L.toInt) (h2 : L.toInt ≤ 400) (h3 : 0 ≤ r.toInt) (h4 : r.toInt ≤ 100) : 0 ≤ ((L * r + 999) / 1000).toInt ∧ ((L * r + 999) / 1000).toInt ≤ 40 := by
  have m1 : 0 ≤ L.toInt * r.toInt := Int.mul_nonneg h1 h3
  have m2 : L.toInt * r.toInt ≤ 400 * 100 := Int.mul_le_mul h2 h4 h3 (by omega)
  have e1 : (L * r).toInt = L.toInt * r.toInt := toInt_mulb (by omega) (by omega)
  have n9 : (999 : Int32).toInt = 999 := rfl
  have e2 : (L * r + 999).toInt = L.toInt * r.toInt + 999 := by rw [toInt_addb (by omega) (by omega), e1, n9]
  have k9 : (1000 : Int32).toInt = 1000 := rfl
  rw [toInt_divb (by omega) (by omega), e2, k9]
  omega
theorem rate_bd (c : C2 g) {s d : Int32} : 0 ≤ (fX2_rateOn g q s d).toInt ∧ (fX2_rateOn g q s d).toInt ≤ 100 := by
  obtain ⟨⟨r, h1, h2⟩, -, h3⟩ := c
  have key : ∀ k, k ≤ 30 → 0 ≤ (lX2_rateOn g q s d k).toInt ∧ (lX2_rateOn g q s d k).toInt ≤ 100 := by
    intro k
    induction k with
    | zero =>
      intro _
      show 0 ≤ (fX2_firstRate g q s).toInt ∧ (fX2_firstRate g q s).toInt ≤ 100
      unfold fX2_firstRate
      split
      · decide
      · split <;> decide
    | succ k ih =>
      intro hk
      unfold lX2_rateOn
      split
      · split
        · exact ih (by omega)
        · exact h3 k (by omega)
      · exact ih (by omega)
  unfold fX2_rateOn
  rw [h2, nI_clamp (by omega)]
  exact key r h1
theorem int_bd (c : C2 g) {L b D : Int32} (h1 : 0 ≤ L.toInt) (h2 : L.toInt ≤ 400) : ∀ k : Nat, k ≤ 10000 → 0 ≤ (lX2_interest g q L b D k).toInt ∧ (lX2_interest g q L b D k).toInt ≤ 40 * k := by
  intro k
  induction k with
  | zero => intro _; show 0 ≤ (0 : Int32).toInt ∧ (0 : Int32).toInt ≤ _; have h0 : (0 : Int32).toInt = 0 := rfl; omega
  | succ k ih =>
    intro hk
    unfold lX2_interest
    have ih := ih (by omega)
    have hc : 0 ≤ (fX2_costOf g q L (nI k) (b + nI k * 14)).toInt ∧ (fX2_costOf g q L (nI k) (b + nI k * 14)).toInt ≤ 40 := by
      unfold fX2_costOf
      split
      · obtain ⟨r1, r2⟩ := rate_bd (q := q) (s := fX2_stepOf g q (nI k)) (d := b + nI k * 14) c
        exact cost_bd h1 h2 r1 r2
      · decide
    rw [toInt_addb (by omega) (by omega)]
    omega
theorem ci_days (c : CI n nT nK cT cK g q) (hj : j < nK) : ∃ b d : Nat, g (200 + j) 9 = nI b ∧ g 60 9 = nI d ∧ b ≤ d ∧ d ≤ 5000 := by
  obtain ⟨⟨d, hd, e1, e2⟩, -⟩ := c.2.2.1
  obtain ⟨b, hb, e3⟩ := e2 j hj
  exact ⟨b, d, e3, e1, hb, hd⟩
theorem in_bd (c : CI n nT nK cT cK g q) (hj : j < nK) : 0 ≤ (fX6_interestNow g q j).toInt ∧ (fX6_interestNow g q j).toInt ≤ 14360 := by
  obtain ⟨b, d, e1, e2, h1, h2⟩ := ci_days c hj
  obtain ⟨-, -, -, ⟨l1, l2⟩, -⟩ := c.2.2.2.2.1 j hj
  unfold fX6_interestNow fX2_interest
  split
  · split
    · rw [e1, e2, nI_clamp (by omega), nI_clamp (by omega)]
      have := int_bd (q := q) (L := g (200 + j) 8) (b := nI b) (D := nI d) c.2.1 (by omega) l2 ((d - b) / 14 + 1) (by omega)
      omega
    · decide
  · decide
theorem in_0 (hs : g (200 + j) 7 ≠ 0) : fX6_interestNow g q j = 0 := by
  unfold fX6_interestNow
  rw [if_neg hs]
theorem nI_sub {a b : Nat} (h : b ≤ a) : nI a - nI b = nI (a - b) := by
  have : nI a = nI (a - b) + nI b := by rw [nI_add]; congr 1; omega
  rw [this, Int32.add_sub_cancel]
theorem byDays {L : Int32} {b : Nat} (D : Int32) (hb : b ≤ 5000) : ∀ n, n ≤ 6000 → (lX2_byDays g q L (nI b) D n) = (lX2_interest g q L (nI b) D ((n + 13) / 14), nI ((n + 13) / 14), nI ((14 - n % 14) % 14)) := by
  intro n
  induction n with
  | zero => intro _; rfl
  | succ n ih =>
    intro hn
    unfold lX2_byDays
    rw [ih (by omega)]
    dsimp only
    by_cases c : n % 14 = 0
    · have e1 : (14 - n % 14) % 14 = 0 := by omega
      have e2 : (n + 13) / 14 = n / 14 := by omega
      have e3 : (n + 1 + 13) / 14 = n / 14 + 1 := by omega
      have e4 : (14 - (n + 1) % 14) % 14 = 13 := by omega
      rw [e1, e2, e3, e4, if_pos (show nI 0 = 0 from rfl)]
      have e5 : nI b + nI n = nI b + nI (n / 14) * 14 := by
        rw [show nI (n / 14) * 14 = nI (n / 14 * 14) from (Int32.ofNat_mul (n / 14) 14).symm]
        congr 2
        omega
      rw [e5]
      refine Prod.ext rfl (Prod.ext ?_ rfl)
      exact nI_1 _
    · have e1 : nI ((14 - n % 14) % 14) ≠ 0 := fun z => by
        have := (nI_eq (a := (14 - n % 14) % 14) (b := 0) (by omega) (by decide)).mp z
        omega
      rw [if_neg e1, show (n + 1 + 13) / 14 = (n + 13) / 14 by omega]
      refine Prod.ext rfl (Prod.ext rfl ?_)
      have e2 : (14 - n % 14) % 14 = (14 - (n + 1) % 14) % 14 + 1 := by omega
      show nI ((14 - n % 14) % 14) + -1 = _
      rw [e2, ← nI_1]
      rw [Int32.add_assoc]
      show nI _ + (1 + -1) = nI _
      rw [show (1 + -1 : Int32) = 0 from by decide, Int32.add_zero]
/-- interest, by fortnights and by days -/
theorem in_anew (c : CI n nT nK cT cK g q) (hj : j < nK) : (if g (200 + j) 7 = 0 then fX2_interestByDays g q (g (200 + j) 8) (g (200 + j) 9) (g 60 9) else 0) = fX6_interestNow g q j := by
  unfold fX6_interestNow fX2_interestByDays fX2_interest
  obtain ⟨b, d, e1, e2, hb, hd⟩ := ci_days c hj
  rw [e1, e2, nI_sub hb, nI_clamp (show d < 2 ^ 31 by omega), nI_clamp (show b < 2 ^ 31 by omega), byDays (nI d) (by omega) (d - b + 1) (by omega)]
  congr 1
  rw [show (d - b + 1 + 13) / 14 = (d - b) / 14 + 1 by omega]
  by_cases c : d - b ≤ 3
  · rw [if_pos (show nI (d - b) ≤ 3 from (nI_leI (b := 3) (by omega) (by omega)).mpr c), if_neg (fun (z : (3 : Int32) < nI (d - b)) => by have := (nI_ltI (a := 3) (b := d - b) (by omega) (by omega)).mp z; omega)]
  · rw [if_neg (fun (z : nI (d - b) ≤ 3) => c ((nI_leI (b := 3) (by omega) (by omega)).mp z)), if_pos (show (3 : Int32) < nI (d - b) from (nI_ltI (a := 3) (by omega) (by omega)).mpr (by omega))]
/-- a ticket that began today bears none -/
theorem in_today (h : g (200 + j) 9 = g 60 9) : fX6_interestNow g q j = 0 := by
  unfold fX6_interestNow fX2_interest
  rw [h, Int32.sub_self]
  split
  · rfl
  · rfl
end INT
