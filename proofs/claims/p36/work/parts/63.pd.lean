theorem cap_ok {k n : Nat} (h1 : k ≤ n) (h2 : n ≤ 60) (h3 : k < 40) : k + 1 ≤ sCap k n ∧ sCap k n ≤ 60 := by
  unfold sCap sGr
  split
  · split
    · omega
    · split <;> omega
  · omega
section NEWT
variable {n n' nT nK cT cK i j : Nat} {g g' : sG} {q q' : sQ} {v x x0 x1 x2 : Int32}
theorem tm_o {o : Nat} (h : o ≠ 100 + nT ∧ o ≠ 61) : (fX6_thingM g q nT x0 x1 x2).1 o = g o := by
  unfold fX6_thingM fX3_init
  dsimp only
  simp only [sy_up_o _ _ _ h.1, sy_up_o _ _ _ h.2, va_up_ne g _ h.1]
theorem tm_t (k : Nat) : (fX6_thingM g q nT x0 x1 x2).1 (100 + nT) k = if k = 3 then x2 else if k = 2 then x1 else if k = 1 then x0 else if k = 0 then nI nT else if k = 8 then -1 else if k = 7 then -1 else 0 := by
  have h : 100 + nT ≠ 61 := by omega
  unfold fX6_thingM fX3_init
  dsimp only
  simp only [sy_up_o _ _ _ h]
  simp only [sy_up_a, va_up_self, true_and]
  repeat' split
  all_goals first | rfl | omega
theorem tm_61 : (fX6_thingM g q nT x0 x1 x2).1 61 2 = nI (nT + 1) := by
  unfold fX6_thingM
  dsimp only
  rw [sy_up_e]
theorem tq_o {o : Nat} (h : o ≠ 100 + nT ∧ o ≠ 70) : (fX6_thingM g q nT x0 x1 x2).2 o = q o := by
  unfold fX6_thingM fX3_init
  dsimp only
  simp only [sy_up_o _ _ _ h.1, sy_up_o _ _ _ h.2, va_up_ne q _ h.1]
theorem tq_t (k : Nat) : (fX6_thingM g q nT x0 x1 x2).2 (100 + nT) k = none := by
  have h : 100 + nT ≠ 70 := by omega
  unfold fX6_thingM fX3_init
  dsimp only
  simp only [sy_up_o _ _ _ h]
  simp only [sy_up_a, va_up_self, true_and]
  split <;> rfl
theorem tq_70 (k : Nat) : (fX6_thingM g q nT x0 x1 x2).2 70 k = if k = nT then some (100 + nT) else q 70 k := by
  have h : 70 ≠ 100 + nT := by omega
  unfold fX6_thingM fX3_init
  dsimp only
  simp only [sy_up_a, va_up_ne q _ h, true_and, h, false_and, if_false]
theorem ci_thing (c : CI n nT nK cT cK g q) (hT : nT < 40) {k w : Nat} (hk : k < 4) (hw : w ≤ 50) : CI n (nT + 1) nK (sCap nT cT) cK (sy_up (fX6_thingM g q nT (nI k) (nI w) x2).1 90 nT (nI w)) (fX6_thingM g q nT (nI k) (nI w) x2).2 := by
  obtain ⟨k1, k2, k3, k4, k5, k6, k7, k8⟩ := c
  obtain ⟨a1, a2, a3, a4, a5, a6, a7, a8⟩ := k1
  have hcap := cap_ok a3 a4 hT
  generalize hG : (fX6_thingM g q nT (nI k) (nI w) x2).1 = G
  generalize hQ : (fX6_thingM g q nT (nI k) (nI w) x2).2 = Q
  have r : ∀ o, o ≠ 100 + nT → o ≠ 61 → G o = g o := fun o h1 h2 => by rw [← hG]; exact tm_o ⟨h1, h2⟩
  have rt : ∀ z, G (100 + nT) z = if z = 3 then x2 else if z = 2 then nI w else if z = 1 then nI k else if z = 0 then nI nT else if z = 8 then -1 else if z = 7 then -1 else 0 := fun z => by rw [← hG]; exact tm_t z
  have r61 : G 61 2 = nI (nT + 1) := by rw [← hG]; exact tm_61
  have qo : ∀ o, o ≠ 100 + nT → o ≠ 70 → Q o = q o := fun o h1 h2 => by rw [← hQ]; exact tq_o ⟨h1, h2⟩
  have qt : ∀ z, Q (100 + nT) z = none := fun z => by rw [← hQ]; exact tq_t z
  have q70 : ∀ z, Q 70 z = if z = nT then some (100 + nT) else q 70 z := fun z => by rw [← hQ]; exact tq_70 z
  have wI : (nI w).toInt = (w : Int) := nI_toInt (by omega)
  refine ⟨⟨?_, by omega, by omega, by omega, ?_, a6, a7, a8⟩, c2_up (by omega) ?_, c3_up (by omega) ?_, fun i hi => ?_, c5_up (by omega) (fun j hj => ?_), c6_up (by omega) ?_, c7_up (by omega) (by omega) ⟨fun i hi => ?_, fun j hj => ?_⟩, ?_⟩
  · rw [up_ne _ _ (by omega)]; exact r61
  · rw [up_ne _ _ (by omega), r 62 (by omega) (by omega)]; exact a5
  · unfold C2; rw [r 67 (by omega) (by omega), r 74 (by omega) (by omega)]; exact k2
  · unfold C3
    rw [r 60 (by omega) (by omega)]
    obtain ⟨⟨d, h1, h2, h3⟩, h4⟩ := k3
    exact ⟨⟨d, h1, h2, fun j hj => by rw [r (200 + j) (by omega) (by omega)]; exact h3 j hj⟩, h4⟩
  · simp only [sy_up_o _ _ _ (show 100 + i ≠ 90 by omega)]
    by_cases h9 : i = nT
    · subst h9
      rw [sy_up_e, rt, rt, rt, rt]
      refine ⟨rfl, vp_in_nI hk (by decide), rfl, ?_, ?_⟩
      · show 0 ≤ (nI w).toInt ∧ (nI w).toInt ≤ 50
        omega
      · show 0 ≤ (0 : Int32).toInt ∧ (0 : Int32).toInt ≤ 10
        decide
    · rw [up_ne _ _ (show 90 ≠ 90 ∨ i ≠ nT by omega), r (100 + i) (by omega) (by omega), r 90 (by omega) (by omega)]
      exact k4 i (by omega)
  · rw [r (200 + j) (by omega) (by omega)]; exact k5 j hj
  · unfold C6
    rw [r 68 (by omega) (by omega), r 78 (by omega) (by omega)]
    obtain ⟨h1, h2, h3⟩ := k6
    exact ⟨h1, h2.trans (isum_c nK fun j hj => by rw [r (200 + j) (by omega) (by omega)]), h3⟩
  · by_cases h9 : i = nT
    · subst h9
      exact Or.inl ⟨by rw [rt]; rfl, qt 11, by rw [rt]; rfl⟩
    · rw [r (100 + i) (by omega) (by omega), qo (100 + i) (by omega) (by omega)]
      rcases k7.1 i (by omega) with h1 | ⟨h1, ⟨j, h2, h3, h4, h5⟩, h6⟩
      · exact Or.inl h1
      · exact Or.inr ⟨h1, ⟨j, h2, h3, by rw [r (200 + j) (by omega) (by omega)]; exact h4, by rw [qo (200 + j) (by omega) (by omega)]; exact h5⟩, h6⟩
  · rw [r (200 + j) (by omega) (by omega), qo (200 + j) (by omega) (by omega)]
    obtain ⟨⟨i, h1, h2, h3⟩, h4⟩ := k7.2 j hj
    exact ⟨⟨i, by omega, h2, fun h5 => by rw [qo (100 + i) (by omega) (by omega)]; exact h3 h5⟩, h4⟩
  · obtain ⟨b1, b2, b3, b4, b5, b6, b7, b8⟩ := k8
    refine ⟨fun z hz => ?_, fun z hz => ?_, fun z hz => ?_, fun z hz => ?_, fun z hz => ?_, fun z hz => ?_, fun o z y hr => ?_, fun p hp => ?_⟩
    · rw [q70]
      split
      · rename_i h9; rw [h9]
      · exact b1 z (by omega)
    · rw [qo _ (by omega) (by omega)]; exact b2 z hz
    · rw [qo _ (by omega) (by omega)]; exact b3 z hz
    · rw [qo _ (by omega) (by omega)]; exact b4 z hz
    · rw [q70, if_neg (by omega)]; exact b5 z (by omega)
    · rw [qo _ (by omega) (by omega)]; exact b6 z hz
    · by_cases h1 : o = 100 + nT
      · subst h1; rw [qt] at hr; cases hr
      · by_cases h2 : o = 70
        · subst h2
          rw [q70] at hr
          split at hr
          · cases hr; omega
          · have := b7 _ _ _ hr; omega
        · rw [qo o h1 h2] at hr
          have := b7 _ _ _ hr
          omega
    · rw [qo _ (by omega) (by omega)]; exact b8 p hp
end NEWT
section NEWK
variable {n n' nT nK cT cK i j X : Nat} {g g' : sG} {q q' : sQ} {p z V L x3 S : Int32}
def kG (g : sG) (q : sQ) (nK i X : Nat) (p z V L x3 S : Int32) : sG := (pD (pC (pB (pA g q nK i X p z V L).1 (pA g q nK i X p z V L).2 nK) (pA g q nK i X p z V L).2 nK).1 (pC (pB (pA g q nK i X p z V L).1 (pA g q nK i X p z V L).2 nK) (pA g q nK i X p z V L).2 nK).2 nK i x3 S).1
def kQ (g : sG) (q : sQ) (nK i X : Nat) (p z V L x3 S : Int32) : sQ := (pD (pC (pB (pA g q nK i X p z V L).1 (pA g q nK i X p z V L).2 nK) (pA g q nK i X p z V L).2 nK).1 (pC (pB (pA g q nK i X p z V L).1 (pA g q nK i X p z V L).2 nK) (pA g q nK i X p z V L).2 nK).2 nK i x3 S).2
theorem kg_o {o : Nat} (h : o ≠ 200 + nK ∧ o ≠ 62 ∧ o ≠ 100 + i) : kG g q nK i X p z V L x3 S o = g o := by
  unfold kG pD pC pB pA fX3_store fX4_begin fX4_init
  dsimp only
  simp only [sy_up_o _ _ _ h.1, sy_up_o _ _ _ h.2.1, sy_up_o _ _ _ h.2.2, va_up_ne g _ h.1]
theorem kg_62 : kG g q nK i X p z V L x3 S 62 2 = nI (nK + 1) := by
  have h : 62 ≠ 100 + i := by omega
  unfold kG pD pC fX3_store
  dsimp only
  simp only [sy_up_o _ _ _ h, sy_up_e]
theorem kg_k (hi : i < 100) (k : Nat) : kG g q nK i X p z V L x3 S (200 + nK) k = if k = 10 then g 60 8 else if k = 9 then g 60 9 else if k = 8 then L else if k = 5 then V else if k = 3 then z else if k = 6 then p else if k = 2 then p else if k = 0 then nI nK else if k = 11 then -1 else 0 := by
  have h : 200 + nK ≠ 100 + i := by omega
  have h2 : 200 + nK ≠ 62 := by omega
  have h3 : 60 ≠ 200 + nK := by omega
  unfold kG pD pC pB pA fX3_store fX4_begin fX4_init
  dsimp only
  simp only [sy_up_o _ _ _ h, sy_up_o _ _ _ h2, sy_up_o _ _ _ h3, va_up_ne g _ h3]
  simp only [sy_up_a, va_up_self, true_and]
  match k with
  | 0 => rfl
  | 1 => rfl
  | 2 => rfl
  | 3 => rfl
  | 4 => rfl
  | 5 => rfl
  | 6 => rfl
  | 7 => rfl
  | 8 => rfl
  | 9 => rfl
  | 10 => rfl
  | 11 => rfl
  | 12 => rfl
  | 13 => rfl
  | 14 => rfl
  | 15 => rfl
  | k + 16 =>
    repeat rw [if_neg (by omega)]
theorem kg_t (hi : i < 100) (k : Nat) : kG g q nK i X p z V L x3 S (100 + i) k = if k = 10 then g 60 9 else if k = 9 then g 60 9 else if k = 8 then 4 * x3 + S else if k = 7 then 4 * x3 + S else if k = 5 then 1 else g (100 + i) k := by
  have h : 100 + i ≠ 200 + nK := by omega
  have h2 : 100 + i ≠ 62 := by omega
  have h3 : 60 ≠ 200 + nK := by omega
  have h4 : 60 ≠ 62 := by omega
  unfold kG pD pC pB pA fX3_store fX4_begin fX4_init fX6_placeOf
  dsimp only
  simp only [sy_up_o _ _ _ h3, sy_up_o _ _ _ h4, va_up_ne g _ h3]
  simp only [sy_up_a, h, h2, false_and, if_false, true_and, va_up_ne g _ h]
theorem kq_o {o : Nat} (h : o ≠ 200 + nK ∧ o ≠ 71 ∧ o ≠ 100 + i) : kQ g q nK i X p z V L x3 S o = q o := by
  unfold kQ pD pC pB pA fX3_store fX4_begin fX4_init
  dsimp only
  simp only [sy_up_o _ _ _ h.1, sy_up_o _ _ _ h.2.1, sy_up_o _ _ _ h.2.2, va_up_ne q _ h.1]
theorem kq_71 (k : Nat) : kQ g q nK i X p z V L x3 S 71 k = if k = nK then some (200 + nK) else q 71 k := by
  have h : 71 ≠ 100 + i := by omega
  have h2 : 71 ≠ 200 + nK := by omega
  unfold kQ pD pC pB pA fX3_store fX4_begin fX4_init
  dsimp only
  simp only [sy_up_a, h, h2, va_up_ne q _ h2, true_and, false_and, if_false]
theorem kq_k (hi : i < 100) (k : Nat) : kQ g q nK i X p z V L x3 S (200 + nK) k = if k = 4 then some (80 + X) else if k = 1 then some (100 + i) else none := by
  have h : 200 + nK ≠ 100 + i := by omega
  have h2 : 200 + nK ≠ 71 := by omega
  unfold kQ pD pC pB pA fX3_store fX4_begin fX4_init
  dsimp only
  simp only [sy_up_a, h, h2, va_up_self, true_and, false_and, if_false]
theorem kq_t (hi : i < 100) (k : Nat) : kQ g q nK i X p z V L x3 S (100 + i) k = if k = 11 then some (200 + nK) else q (100 + i) k := by
  have h : 100 + i ≠ 200 + nK := by omega
  have h2 : 100 + i ≠ 71 := by omega
  unfold kQ pD pC pB pA fX3_store fX4_begin fX4_init
  dsimp only
  simp only [sy_up_a, h, h2, va_up_ne q _ h, true_and, false_and, if_false]
end NEWK
