section DAY
variable {n n' nT nK cT cK i j X : Nat} {g g' : sG} {q q' : sQ}
/-- a day more -/
theorem ci_today (c : CI n nT nK cT cK g q) (hd : ∃ d, g 60 9 = nI d ∧ d + 1 ≤ 5000) : CI n nT nK cT cK (sy_up g 60 9 (g 60 9 + 1)) q := by
  have hT := ci_T c
  obtain ⟨k1, k2, k3, k4, k5, k6, k7, k8⟩ := c
  refine ⟨c1_up (by omega) k1, c2_up (by omega) k2, ?_, c4_up hT (by omega) k4, c5_up (by omega) k5, c6_up (by omega) k6, c7_up hT (by omega) k7, k8⟩
  obtain ⟨⟨d, h1, h2, h3⟩, h4⟩ := k3
  obtain ⟨d', e1, e2⟩ := hd
  have e3 : d = d' := (nI_eq (by omega) (by omega)).mp (h2.symm.trans e1)
  subst e3
  refine ⟨⟨d + 1, e2, by rw [sy_up_e, h2, nI_1], fun j hj => ?_⟩, by rw [up_ne _ _ (by omega)]; exact h4⟩
  rw [up_ne _ _ (by omega)]
  obtain ⟨b, h5, h6⟩ := h3 j hj
  exact ⟨b, by omega, h6⟩
theorem ci_wearOn (c : CI n nT nK cT cK g q) (hi : i < nT) {x : Int32} : CI n nT nK cT cK (fX3_wearOn g q i x) q := by
  unfold fX3_wearOn
  obtain ⟨-, -, -, -, w1, w2⟩ := c.2.2.2.1 i hi
  split
  · exact c
  · split
    · exact c
    · rename_i h1
      have h2 : (10 : Int32).toInt = 10 := rfl
      have h3 : (1 : Int32).toInt = 1 := rfl
      rw [le_of_toInt, h2] at h1
      have hw : CI n nT nK cT cK (sy_up g (100 + i) 4 (g (100 + i) 4 + 1)) q := ci_wear hi (by rw [toInt_addb (by omega) (by omega), h3]; omega) c
      split
      · split
        · exact c
        · exact hw
      · exact hw
theorem ci_endNotice (c : CI n nT nK cT cK g q) (hj : j < nK) {x : Int32} : CI n nT nK cT cK (fX4_endNoticeOn g q j x) q := by
  unfold fX4_endNoticeOn
  split
  · exact c
  · rename_i h1
    split
    · exact c
    · have h2 : vp_in (g (200 + j) 11) 10 := by
        rcases (c.2.2.2.2.1 j hj).2.2.2.2.1 with h2 | h2
        · exfalso; apply h1; unfold fX4_hasNotice; rw [if_pos h2]
        · exact h2
      exact ci_tk (Nat.le_refl n) (Or.inr (Or.inr (Or.inl ⟨rfl, Or.inl rfl⟩))) (ci_tk (Nat.le_refl n) (Or.inl ⟨rfl, h2⟩) c)
theorem ci_dayA (c : CI n nT nK cT cK g q) (hd : ∃ d, g 60 9 = nI d ∧ d + 1 ≤ 5000) : ∀ k, k ≤ nT → CI n nT nK cT cK (lX6_dayA g q k) q
  | 0, _ => ci_today c hd
  | k + 1, h => ci_wearOn (ci_dayA c hd k (by omega)) h
theorem nTe (c : CI n nT nK cT cK g q) : (g 61 2).toNatClampNeg = nT := by rw [c.1.1]; exact nI_clamp (by have := ci_T c; omega)
theorem nKe (c : CI n nT nK cT cK g q) : (g 62 2).toNatClampNeg = nK := by rw [c.1.2.2.2.2.1]; exact nI_clamp (by have := ci_K c; omega)
theorem ci_dayB (c : CI n nT nK cT cK g q) (hd : ∃ d, g 60 9 = nI d ∧ d + 1 ≤ 5000) : ∀ k, k ≤ nK → CI n nT nK cT cK (lX6_dayB g q k) q
  | 0, _ => by
    unfold lX6_dayB
    rw [nTe c]
    exact ci_dayA c hd nT (Nat.le_refl _)
  | k + 1, h => ci_endNotice (ci_dayB c hd k (by omega)) h
theorem ci_dayC (c : CI n nT nK cT cK g q) (hn : n ≤ 10000) (hd : ∃ d, g 60 9 = nI d ∧ d + 1 ≤ 5000) : ∀ k, k ≤ nK → CI n nT nK cT cK (lX6_dayC g q k) q
  | 0, _ => by
    unfold lX6_dayC
    rw [nKe c]
    exact ci_dayB c hd nK (Nat.le_refl _)
  | k + 1, h => by
    have ih := ci_dayC c hn hd k (by omega)
    unfold lX6_dayC
    generalize lX6_dayC g q k = M at ih ⊢
    split
    · exact ih
    · obtain ⟨r1, r2, r3, r4, r5, r6, r7⟩ := ci_release ih hn h
      obtain ⟨-, f2, f3, f4, f5⟩ := ci_free ih hn
      have h1 := ci_gift (s := M (200 + k) 14) r1 hn r6 (by rw [r2, r4]; omega)
      rw [r4] at h1
      exact h1
theorem ci_oneDay (c : CI n nT nK cT cK g q) (hn : n ≤ 10000) (hd : ∃ d, g 60 9 = nI d ∧ d + 1 ≤ 5000) : CI n nT nK cT cK (fX6_passOneDay g q) q := by
  unfold fX6_passOneDay
  rw [nKe c]
  exact ci_dayC c hn hd nK (Nat.le_refl _)
theorem p_pass0 {x0 : Int32} (c : CI n nT nK cT cK g q) (hn : n ≤ 10000) {d : Nat} (hd : g 60 9 = nI d) : ∀ k, d + k ≤ 5000 → CI n nT nK cT cK (lX6_pass g q x0 k) q ∧ lX6_pass g q x0 k 60 9 = nI (d + k)
  | 0, _ => ⟨c, hd⟩
  | k + 1, h => by
    obtain ⟨c1, e1⟩ := p_pass0 c hn hd k (by omega)
    unfold lX6_pass
    refine ⟨ci_oneDay c1 hn ⟨d + k, e1, by omega⟩, ?_⟩
    rw [day_60, e1, nI_1]
    rfl
/-- days pass -/
theorem p_pass (c : CI n nT nK cT cK g q) (hn : n ≤ 10000) {d k : Nat} (hd : g 60 9 = nI d) (hk : 1 ≤ k ∧ k ≤ 400) (hd5 : d ≤ 5000) : (5000 < d + k ∧ fX6_pass g q (nI k) = (3, 0, g, q)) ∨ (d + k ≤ 5000 ∧ (fX6_pass g q (nI k)).1 = 0 ∧ (fX6_pass g q (nI k)).2.1 = nI (d + k) ∧ CI n nT nK cT cK (fX6_pass g q (nI k)).2.2.1 (fX6_pass g q (nI k)).2.2.2) := by
  unfold fX6_pass
  rw [if_pos (r_rg (A := 1) (B := 400) (lo := 1) (hi := 400) hk.1 hk.2 (by decide) rfl rfl), hd, nI_add]
  by_cases h : 5000 < d + k
  · rw [if_pos (show (5000 : Int32) < nI (d + k) from (nI_ltI (a := 5000) (by decide) (by omega)).mpr h)]
    exact Or.inl ⟨h, rfl⟩
  · rw [if_neg (fun (z : (5000 : Int32) < nI (d + k)) => h ((nI_ltI (a := 5000) (by decide) (by omega)).mp z))]
    right
    have e : (nI k).toNatClampNeg = k := nI_clamp (by omega)
    obtain ⟨c1, e1⟩ := p_pass0 (x0 := nI k) c hn hd k (by omega)
    refine ⟨by omega, rfl, ?_, ?_⟩
    · show lX6_pass g q (nI k) (nI k).toNatClampNeg 60 9 = _
      rw [e, e1]
    · show CI n nT nK cT cK (lX6_pass g q (nI k) (nI k).toNatClampNeg) q
      rw [e]; exact c1
end DAY
