section RDS
variable {B m5 m6 nT nK cT cK : Nat} {gc : sG} {q : sQ} {gm : sG} {q' : sQ}
theorem r_T {f o i : Nat} (h : INV B m5 m6 nT nK cT cK gc q gm) (hp : pc o i = some (100 + i, f)) : gc (100 + i) f = gm o i := rd h.1 hp
theorem r_K {f o j : Nat} (h : INV B m5 m6 nT nK cT cK gc q gm) (hp : pc o j = some (200 + j, f)) : gc (200 + j) f = gm o j := rd h.1 hp
theorem r_S {c d o k : Nat} (h : INV B m5 m6 nT nK cT cK gc q gm) (hp : pc o k = some (c, d)) : gc c d = gm o k := rd h.1 hp
theorem q_rateOn (h : INV B m5 m6 nT nK cT cK gc q gm) {s : Int32} (hs : s = 0 ∨ s = 1 ∨ s = 2) (d : Int32) : fX2_rateOn gc q s d = fX7_rateOn gm q' s d := by
  have key : ∀ n, lX2_rateOn gc q s d n = lX7_rateOn gm q' s d n := by
    intro n
    induction n with
    | zero =>
      show fX2_firstRate gc q s = 10 + 5 * s
      unfold fX2_firstRate
      rcases hs with rfl | rfl | rfl <;> decide
    | succ n ih =>
      unfold lX2_rateOn lX7_rateOn
      rw [ih, rd h.1 (a := 22) (b := n) rfl, rd h.1 (a := 23) (b := n) rfl, rd h.1 (a := 24) (b := n) rfl]
  unfold fX2_rateOn fX7_rateOn
  rw [key, rd h.1 (a := 0) (b := 20) rfl]
theorem q_isFree (h : INV B m5 m6 nT nK cT cK gc q gm) (d : Int32) : fX2_isFree gc q d = fX7_isFree gm q' d := by
  have e24 : gc 67 6 = gm 0 24 := rd h.1 (a := 0) (b := 24) rfl
  unfold fX2_isFree fX7_isFree
  rw [e24]
  generalize hn : (gm 0 24).toNatClampNeg = n
  have k1 : ∀ k, k ≤ n → (lX2_isFree gc q d k = 1 ∧ ∃ i, n - k ≤ i ∧ i < n ∧ ¬ d < gm 26 i ∧ ¬ gm 27 i < d) ∨ (lX2_isFree gc q d k = 0 ∧ ∀ i, n - k ≤ i → i < n → d < gm 26 i ∨ gm 27 i < d) := by
    intro k
    induction k with
    | zero => intro _; exact Or.inr ⟨rfl, fun i h1 h2 => by omega⟩
    | succ k ih =>
      intro hk
      unfold lX2_isFree
      rw [e24, hn, rd h.1 (a := 26) (b := n - (k + 1)) rfl, rd h.1 (a := 27) (b := n - (k + 1)) rfl]
      by_cases c1 : d < gm 26 (n - (k + 1))
      · rw [if_pos c1]
        rcases ih (by omega) with ⟨h1, i, h2, h3, h4⟩ | ⟨h1, h2⟩
        · exact Or.inl ⟨h1, i, by omega, h3, h4⟩
        · refine Or.inr ⟨h1, fun i h3 h4 => ?_⟩
          by_cases h5 : i = n - (k + 1)
          · subst h5; exact Or.inl c1
          · exact h2 i (by omega) h4
      · rw [if_neg c1]
        by_cases c2 : gm 27 (n - (k + 1)) < d
        · rw [if_pos c2]
          rcases ih (by omega) with ⟨h1, i, h2, h3, h4⟩ | ⟨h1, h2⟩
          · exact Or.inl ⟨h1, i, by omega, h3, h4⟩
          · refine Or.inr ⟨h1, fun i h3 h4 => ?_⟩
            by_cases h5 : i = n - (k + 1)
            · subst h5; exact Or.inr c2
            · exact h2 i (by omega) h4
        · rw [if_neg c2]
          exact Or.inl ⟨rfl, n - (k + 1), by omega, by omega, c1, c2⟩
  have k2 : ∀ k, k ≤ n → (lX7_isFree gm q' d k = 1 ∧ ∃ i, i < k ∧ ¬ d < gm 26 i ∧ ¬ gm 27 i < d) ∨ (lX7_isFree gm q' d k = 0 ∧ ∀ i, i < k → d < gm 26 i ∨ gm 27 i < d) := by
    intro k
    induction k with
    | zero => intro _; exact Or.inr ⟨rfl, fun i h1 => by omega⟩
    | succ k ih =>
      intro hk
      unfold lX7_isFree
      rcases ih (by omega) with ⟨h1, i, h2, h3⟩ | ⟨h1, h2⟩
      · rw [if_neg (by rw [h1]; decide)]
        exact Or.inl ⟨rfl, i, by omega, h3⟩
      · rw [if_pos h1]
        by_cases c1 : d < gm 26 k
        · rw [if_pos c1]
          refine Or.inr ⟨rfl, fun i h3 => ?_⟩
          by_cases h5 : i = k
          · subst h5; exact Or.inl c1
          · exact h2 i (by omega)
        · rw [if_neg c1]
          by_cases c2 : gm 27 k < d
          · rw [if_pos c2]
            refine Or.inr ⟨rfl, fun i h3 => ?_⟩
            by_cases h5 : i = k
            · subst h5; exact Or.inr c2
            · exact h2 i (by omega)
          · rw [if_neg c2]
            exact Or.inl ⟨rfl, k, by omega, c1, c2⟩
  rcases k1 n (Nat.le_refl _) with ⟨h1, i, h2, h3, h4, h5⟩ | ⟨h1, h2⟩
  · rcases k2 n (Nat.le_refl _) with ⟨h6, -⟩ | ⟨h6, h7⟩
    · rw [h1, h6]
    · rcases h7 i h3 with h8 | h8
      · exact absurd h8 h4
      · exact absurd h8 h5
  · rcases k2 n (Nat.le_refl _) with ⟨h6, i, h3, h4, h5⟩ | ⟨h6, h7⟩
    · rcases h2 i (by omega) h3 with h8 | h8
      · exact absurd h8 h4
      · exact absurd h8 h5
    · rw [h1, h6]
theorem q_step (x : Int32) : fX2_stepOf gc q x = 0 ∨ fX2_stepOf gc q x = 1 ∨ fX2_stepOf gc q x = 2 := by
  unfold fX2_stepOf
  split
  · split
    · exact Or.inr (Or.inr rfl)
    · exact Or.inr (Or.inl rfl)
  · exact Or.inl rfl
theorem q_int (h : INV B m5 m6 nT nK cT cK gc q gm) {j : Nat} (hj : j < nK) (D : Int32) : ∀ n, lX2_interest gc q (gm 35 j) (gm 37 j) D n = lX7_interest gm q' (nI j) n := by
  have hjc : (nI j).toNatClampNeg = j := nI_clamp (by have := inv_K h; omega)
  intro n
  induction n with
  | zero => rfl
  | succ n ih =>
    unfold lX2_interest lX7_interest fX2_costOf
    rw [ih, hjc, q_isFree (q' := q') h, q_rateOn (q' := q') h (q_step _), Int32.mul_comm (nI n) 14]
    unfold fX2_stepOf
    by_cases c1 : 6 ≤ nI n
    · by_cases c2 : 18 ≤ nI n
      · simp only [if_pos c1, if_pos c2]
        split <;> rfl
      · simp only [if_pos c1, if_neg c2]
        split <;> rfl
    · simp only [if_neg c1]
      split <;> rfl
theorem nI_sub {a b : Nat} (h : b ≤ a) : nI a - nI b = nI (a - b) := by
  have : nI a = nI (a - b) + nI b := by rw [nI_add]; congr 1; omega
  rw [this, Int32.add_sub_cancel]
theorem q_days (h : INV B m5 m6 nT nK cT cK gc q gm) {j : Nat} (hj : j < nK) : ∃ b d : Nat, gm 37 j = nI b ∧ gm 0 1 = nI d ∧ b ≤ d ∧ d ≤ 5000 := by
  have hK := inv_K h
  obtain ⟨d, hd, e1, e2⟩ := h.2.1.2.2.2.2.2.2.2.2.2.2
  obtain ⟨b, hb, e3⟩ := e2 j (by omega)
  exact ⟨b, d, e3, e1, hb, hd⟩
theorem q_interest (h : INV B m5 m6 nT nK cT cK gc q gm) {j : Nat} (hj : j < nK) : fX7_interest gm q' (nI j) = fX6_interestNow gc q j := by
  have hK := inv_K h
  have hjc : (nI j).toNatClampNeg = j := nI_clamp (by omega)
  unfold fX7_interest fX6_interestNow fX2_interest
  rw [hjc, r_K h (f := 7) (o := 39) (if_pos (by omega)), r_K h (f := 8) (o := 35) (if_pos (by omega)), r_K h (f := 9) (o := 37) (if_pos (by omega)), r_S h (o := 0) (k := 1) rfl, q_int (q' := q') h hj]
  obtain ⟨b, d, e1, e2, hb, hd⟩ := q_days h hj
  rw [e1, e2, nI_sub hb, show nI b + 3 = nI (b + 3) from nI_add b 3]
  by_cases c : b + 3 < d
  · rw [if_pos ((nI_ltI (by omega) (by omega)).mpr c), if_pos (show (3 : Int32) < nI (d - b) from (nI_ltI (a := 3) (by omega) (by omega)).mpr (by omega))]
  · rw [if_neg (fun z => c ((nI_ltI (by omega) (by omega)).mp z)), if_neg (fun (z : (3 : Int32) < nI (d - b)) => c (by have := (nI_ltI (a := 3) (b := d - b) (by omega) (by omega)).mp z; omega))]
theorem q_byDays (h : INV B m5 m6 nT nK cT cK gc q gm) {L : Int32} {b : Nat} (D : Int32) (hb : b ≤ 5000) : ∀ n, n ≤ 6000 → (lX2_byDays gc q L (nI b) D n) = (lX2_interest gc q L (nI b) D ((n + 13) / 14), nI ((n + 13) / 14), nI ((14 - n % 14) % 14)) := by
  intro n
  induction n with
  | zero => intro _; rfl
  | succ n ih =>
    intro hn
    unfold lX2_byDays
    rw [ih (by omega)]
    dsimp only
    by_cases c : n % 14 = 0
    · have e1 : (14 - n % 14) % 14 = 0 := by omega
      have e2 : (n + 13) / 14 = n / 14 := by omega
      have e3 : (n + 1 + 13) / 14 = n / 14 + 1 := by omega
      have e4 : (14 - (n + 1) % 14) % 14 = 13 := by omega
      rw [e1, e2, e3, e4, if_pos (show nI 0 = 0 from rfl)]
      have e5 : nI b + nI n = nI b + nI (n / 14) * 14 := by
        rw [show nI (n / 14) * 14 = nI (n / 14 * 14) from (Int32.ofNat_mul (n / 14) 14).symm]
        congr 2
        omega
      rw [e5]
      refine Prod.ext rfl (Prod.ext ?_ rfl)
      exact nI_1 _
    · have e1 : nI ((14 - n % 14) % 14) ≠ 0 := fun z => by
        have := (nI_eq (a := (14 - n % 14) % 14) (b := 0) (by omega) (by decide)).mp z
        omega
      rw [if_neg e1, show (n + 1 + 13) / 14 = (n + 13) / 14 by omega]
      refine Prod.ext rfl (Prod.ext rfl ?_)
      have e2 : (14 - n % 14) % 14 = (14 - (n + 1) % 14) % 14 + 1 := by omega
      show nI ((14 - n % 14) % 14) + -1 = _
      rw [e2, ← nI_1]
      rw [Int32.add_assoc]
      show nI _ + (1 + -1) = nI _
      rw [show (1 + -1 : Int32) = 0 from by decide, Int32.add_zero]
theorem q_anew (h : INV B m5 m6 nT nK cT cK gc q gm) {j : Nat} (hj : j < nK) : (if gc (200 + j) 7 = 0 then fX2_interestByDays gc q (gc (200 + j) 8) (gc (200 + j) 9) (gc 60 9) else 0) = fX6_interestNow gc q j := by
  have hK := inv_K h
  unfold fX6_interestNow fX2_interestByDays fX2_interest
  obtain ⟨b, d, e1, e2, hb, hd⟩ := q_days h hj
  rw [r_K h (f := 9) (o := 37) (if_pos (by omega)), r_S h (o := 0) (k := 1) rfl, e1, e2, nI_sub hb, nI_clamp (show d < 2 ^ 31 by omega), nI_clamp (show b < 2 ^ 31 by omega), q_byDays h (nI d) (by omega) (d - b + 1) (by omega)]
  congr 1
  rw [show (d - b + 1 + 13) / 14 = (d - b) / 14 + 1 by omega]
  by_cases c : d - b ≤ 3
  · rw [if_pos (show nI (d - b) ≤ 3 from (nI_leI (b := 3) (by omega) (by omega)).mpr c), if_neg (fun (z : (3 : Int32) < nI (d - b)) => by have := (nI_ltI (a := 3) (b := d - b) (by omega) (by omega)).mp z; omega)]
  · rw [if_neg (fun (z : nI (d - b) ≤ 3) => c ((nI_leI (b := 3) (by omega) (by omega)).mp z)), if_pos (show (3 : Int32) < nI (d - b) from (nI_ltI (a := 3) (by omega) (by omega)).mpr (by omega))]
end RDS
