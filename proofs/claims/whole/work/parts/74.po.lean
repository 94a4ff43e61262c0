section OPO
variable {B nT nK cT cK : Nat} {gc : sG} {q : sQ} {gm : sG} {q' : sQ}
/-- the class's memory behind a new ticket that is stored, before the money -/
def tkM (g : sG) (q : sQ) (nK i X : Nat) (x0 x5 V x4 x3 S : Int32) : sG × sQ := pD (pC (pB (pA g q nK i X x0 x5 V x4).1 (pA g q nK i X x0 x5 V x4).2 nK) (pA g q nK i X x0 x5 V x4).2 nK).1 (pC (pB (pA g q nK i X x0 x5 V x4).1 (pA g q nK i X x0 x5 V x4).2 nK) (pA g q nK i X x0 x5 V x4).2 nK).2 nK i x3 S
theorem Rx_s {S : List (Nat × Nat)} {gc gm : sG} {a b c d : Nat} {v : Int32} (hS : (a, b) ∈ S) (hp : pc a b = some (c, d)) (h : Rx S gc gm) : Rx S (sy_up gc c d v) gm := by
  intro o k e he hs
  have h2 : ¬ (e.1 = c ∧ e.2 = d) := fun h3 => by
    have h4 := mp_pc he
    have h5 := mp_pc hp
    rw [h3.1, h3.2] at h4
    cases h4.symm.trans h5
    exact hs hS
  rw [sy_up_a, if_neg h2]
  exact h o k e he hs
theorem tk_day {i X : Nat} {x0 x5 V x4 : Int32} {k : Nat} : (pA gc q nK i X x0 x5 V x4).1 60 k = gc 60 k := by
  unfold pA fX4_init
  dsimp only
  simp only [sy_up_o _ _ _ (show 60 ≠ 200 + nK by omega), va_up_ne _ _ (show 60 ≠ 200 + nK by omega)]
/-- as one chain of updates -/
theorem tkM_1 {i X : Nat} {x0 x5 V x4 x3 S : Int32} : (tkM gc q nK i X x0 x5 V x4 x3 S).1 = sy_up (sy_up (sy_up (sy_up (sy_up (sy_up (sy_up (sy_up (sy_up (fX4_init (va_up gc (200 + nK) (fun _ => 0)) (va_up q (200 + nK) (fun _ => none)) nK (nI nK) i x0 x5 X V x4).1 (200 + nK) 9 (gc 60 9)) (200 + nK) 10 (gc 60 8)) 62 0 (gc 62 0 + 1)) 62 2 (nI (nK + 1))) (100 + i) 5 1) (100 + i) 7 (4 * x3 + S)) (100 + i) 8 (4 * x3 + S)) (100 + i) 9 (gc 60 9)) (100 + i) 10 (gc 60 9) := by
  unfold tkM pD fX3_store pC pB fX4_begin fX6_placeOf
  dsimp only
  rw [tk_day, tk_day, up_ne _ _ (show 60 ≠ 62 ∨ _ by omega), up_ne _ _ (show 60 ≠ 62 ∨ _ by omega), up_ne _ _ (show 60 ≠ 200 + nK ∨ _ by omega), up_ne _ _ (show 60 ≠ 200 + nK ∨ _ by omega), tk_day, up_ne _ _ (show 62 ≠ 200 + nK ∨ _ by omega), up_ne _ _ (show 62 ≠ 200 + nK ∨ _ by omega)]
  have e62 : (pA gc q nK i X x0 x5 V x4).1 62 0 = gc 62 0 := by
    unfold pA fX4_init
    dsimp only
    simp only [sy_up_o _ _ _ (show 62 ≠ 200 + nK by omega), va_up_ne _ _ (show 62 ≠ 200 + nK by omega)]
  rw [e62]
  rfl
theorem tkM_2 {i X : Nat} {x0 x5 V x4 x3 S : Int32} : (tkM gc q nK i X x0 x5 V x4 x3 S).2 = sy_up (sy_up (sy_up (sy_up (va_up q (200 + nK) (fun _ => none)) (200 + nK) 1 (some (100 + i))) (200 + nK) 4 (some (80 + X))) 71 nK (some (200 + nK))) (100 + i) 11 (some (200 + nK)) := rfl
theorem inv_ticket {i e : Nat} {x0 x5 V x4 x3 S : Int32} (hn : nK < 40) (hi : i < nT) (hs : gm 8 i = 0) (he : e < 4) (hx4 : 0 ≤ x4.toInt) (hx4' : x4.toInt ≤ 100000) (h : INV B 40 40 nT nK cT cK gc q gm) : INV B 40 40 nT (nK + 1) cT (sCap nK cK) (tkM gc q nK i e x0 x5 V x4 x3 S).1 (tkM gc q nK i e x0 x5 V x4 x3 S).2 (sy_up (sy_up (sy_up (sy_up (sy_up (sy_up (sy_up (sy_up (sy_up (sy_up (sy_up (sy_up (sy_up (sy_up (sy_up gm 0 28 (nI (nK + 1))) 30 nK (nI i)) 31 nK (nI e)) 32 nK x0) 33 nK x0) 34 nK x5) 35 nK x4) 36 nK V) 37 nK (gm 0 1)) 38 nK (gm 0 27)) 8 i 1) 10 i (4 * x3 + S)) 11 i (4 * x3 + S)) 12 i (gm 0 1)) 13 i (gm 0 1)) := by
  have hT := inv_T h
  obtain ⟨hR, hI, k3, k4, k5, k6, k7, k8, k9, k10⟩ := h
  have hcap := cap_ok k3.2.2.2.2.1 k3.2.2.2.2.2.1 hn
  obtain ⟨z39, z40, z43, z41⟩ := k4.2.1 nK (Nat.le_refl _) hn
  have e609 : gc 60 9 = gm 0 1 := rd hR (a := 0) (b := 1) rfl
  have e608 : gc 60 8 = gm 0 27 := rd hR (a := 0) (b := 27) rfl
  have hne : ∀ a b, 100 + i ≠ 200 + a ∨ b := fun a b => Or.inl (by omega)
  generalize hG : sy_up (sy_up (sy_up (sy_up (sy_up (sy_up (sy_up (sy_up (sy_up (sy_up (sy_up (sy_up (sy_up (sy_up (sy_up gm 0 28 (nI (nK + 1))) 30 nK (nI i)) 31 nK (nI e)) 32 nK x0) 33 nK x0) 34 nK x5) 35 nK x4) 36 nK V) 37 nK (gm 0 1)) 38 nK (gm 0 27)) 8 i 1) 10 i (4 * x3 + S)) 11 i (4 * x3 + S)) 12 i (gm 0 1)) 13 i (gm 0 1) = G
  -- the reference's memory
  have m0 : ∀ k, k ≠ 28 → G 0 k = gm 0 k := fun k hk => by
    rw [← hG]
    iterate 14 rw [sy_up_o _ _ _ (by omega)]
    exact up_ne _ _ (by omega)
  have m28 : G 0 28 = nI (nK + 1) := by
    rw [← hG]
    iterate 14 rw [sy_up_o _ _ _ (by omega)]
    exact sy_up_e _ _ _ _
  have mn : ∀ o, o ≠ 0 → (o < 30 ∨ 38 < o) → o ≠ 8 → o ≠ 10 → o ≠ 11 → o ≠ 12 → o ≠ 13 → G o = gm o := fun o a b c d e' f g => by
    rw [← hG]
    iterate 15 rw [sy_up_o _ _ _ (by omega)]
  have mK : ∀ o j, 30 ≤ o → o ≤ 38 → j ≠ nK → G o j = gm o j := fun o j a b c => by
    rw [← hG]
    iterate 15 rw [up_ne _ _ (by omega)]
  have mT : ∀ o j, (o = 8 ∨ o = 10 ∨ o = 11 ∨ o = 12 ∨ o = 13) → j ≠ i → G o j = gm o j := fun o j a c => by
    rw [← hG]
    iterate 15 rw [up_ne _ _ (by omega)]
  have m30 : G 30 nK = nI i := by rw [← hG]; simp [sy_up_a]
  have m31 : G 31 nK = nI e := by rw [← hG]; simp [sy_up_a]
  have m32 : G 32 nK = x0 := by rw [← hG]; simp [sy_up_a]
  have m33 : G 33 nK = x0 := by rw [← hG]; simp [sy_up_a]
  have m34 : G 34 nK = x5 := by rw [← hG]; simp [sy_up_a]
  have m35 : G 35 nK = x4 := by rw [← hG]; simp [sy_up_a]
  have m36 : G 36 nK = V := by rw [← hG]; simp [sy_up_a]
  have m37 : G 37 nK = gm 0 1 := by rw [← hG]; simp [sy_up_a]
  have m38 : G 38 nK = gm 0 27 := by rw [← hG]; simp [sy_up_a]
  have m8 : G 8 i = 1 := by rw [← hG]; simp [sy_up_a]
  have m10 : G 10 i = 4 * x3 + S := by rw [← hG]; simp [sy_up_a]
  have m11 : G 11 i = 4 * x3 + S := by rw [← hG]; simp [sy_up_a]
  have m12 : G 12 i = gm 0 1 := by rw [← hG]; simp [sy_up_a]
  have m13 : G 13 i = gm 0 1 := by rw [← hG]; simp [sy_up_a]
  have hRx : Rx [] (tkM gc q nK i e x0 x5 V x4 x3 S).1 G := by
    rw [tkM_1, e609, e608]
    unfold fX4_init
    dsimp only
    have hi40 : i < 40 := by omega
    refine Rx_1 (a := 13) (b := i) (if_pos hi40) (Rx_1 (a := 12) (b := i) (if_pos hi40) (Rx_n ((mp_T hi40).trans rfl) (Rx_n ((mp_T hi40).trans rfl) (Rx_1 (a := 8) (b := i) (if_pos hi40) (Rx_n rfl (Rx_n rfl (Rx_1 (a := 38) (b := nK) (if_pos hn) (Rx_1 (a := 37) (b := nK) (if_pos hn) (Rx_1 (a := 35) (b := nK) (if_pos hn) (Rx_1 (a := 36) (b := nK) (if_pos hn) (Rx_1 (a := 34) (b := nK) (if_pos hn) (Rx_1 (a := 33) (b := nK) (if_pos hn) (Rx_1 (a := 32) (b := nK) (if_pos hn) (Rx_n ((mp_K hn).trans rfl) (Rx_n ((mp_K hn).trans rfl) (Rx_1 (a := 43) (b := nK) (if_pos hn) (Rx_1 (a := 40) (b := nK) (if_pos hn) (Rx_n ((mp_K hn).trans rfl) (Rx_n ((mp_K hn).trans rfl) (Rx_s (a := 38) (b := nK) (by simp) (if_pos hn) (Rx_s (a := 37) (b := nK) (by simp) (if_pos hn) (Rx_1 (a := 39) (b := nK) (if_pos hn) ?_ ?_))))) ?_) ?_))) m32) m33) m34) m36) m35) m37) m38))) m8))) m12) m13
    · rw [← hG]
      refine Rx_m (by simp) (Rx_m (by simp) (Rx_mn rfl (Rx_mn rfl (Rx_m (by simp) (Rx_m (by simp) (Rx_m (by simp) (Rx_m (by simp) (Rx_m (by simp) (Rx_m (by simp) (Rx_m (by simp) (Rx_m (by simp) (Rx_mn rfl (Rx_mn rfl (Rx_mn rfl (Rx_rowK hn (fun o ho => ?_) hR)))))))))))))))
      rcases ho with rfl | rfl | rfl | rfl | rfl | rfl | rfl | rfl | rfl | rfl <;> simp
    · rw [mn 39 (by decide) (by decide) (by decide) (by decide) (by decide) (by decide) (by decide)]; exact z39
    · rw [mn 40 (by decide) (by decide) (by decide) (by decide) (by decide) (by decide) (by decide)]; exact z40
    · rw [mn 43 (by decide) (by decide) (by decide) (by decide) (by decide) (by decide) (by decide)]; exact z43
  -- the class's memory
  have gR : ∀ o, o ≠ 200 + nK → o ≠ 62 → o ≠ 100 + i → (tkM gc q nK i e x0 x5 V x4 x3 S).1 o = gc o := by
    intro o h1 h2 h3
    rw [tkM_1]
    unfold fX4_init
    dsimp only
    simp only [sy_up_o _ _ _ h1, sy_up_o _ _ _ h2, sy_up_o _ _ _ h3, va_up_ne _ _ h1]
  have gI : ∀ k, k ≠ 5 → k ≠ 7 → k ≠ 8 → k ≠ 9 → k ≠ 10 → (tkM gc q nK i e x0 x5 V x4 x3 S).1 (100 + i) k = gc (100 + i) k := by
    intro k h1 h2 h3 h4 h5
    rw [tkM_1]
    unfold fX4_init
    dsimp only
    simp only [sy_up_k _ _ _ h1, sy_up_k _ _ _ h2, sy_up_k _ _ _ h3, sy_up_k _ _ _ h4, sy_up_k _ _ _ h5, sy_up_o _ _ _ (show 100 + i ≠ 62 by omega), sy_up_o _ _ _ (show 100 + i ≠ 200 + nK by omega), va_up_ne _ _ (show 100 + i ≠ 200 + nK by omega)]
  have gI7 : (tkM gc q nK i e x0 x5 V x4 x3 S).1 (100 + i) 7 = 4 * x3 + S ∧ (tkM gc q nK i e x0 x5 V x4 x3 S).1 (100 + i) 8 = 4 * x3 + S := by
    rw [tkM_1]
    exact ⟨by rw [up_ne _ _ (by omega), up_ne _ _ (by omega), up_ne _ _ (by omega), sy_up_e], by rw [up_ne _ _ (by omega), up_ne _ _ (by omega), sy_up_e]⟩
  have g62 : (tkM gc q nK i e x0 x5 V x4 x3 S).1 62 2 = nI (nK + 1) := by
    rw [tkM_1]
    simp only [sy_up_o _ _ _ (show 62 ≠ 100 + i by omega), sy_up_e]
  have gN : (tkM gc q nK i e x0 x5 V x4 x3 S).1 (200 + nK) 0 = nI nK ∧ (tkM gc q nK i e x0 x5 V x4 x3 S).1 (200 + nK) 11 = -1 := by
    rw [tkM_1]
    unfold fX4_init
    dsimp only
    simp only [sy_up_o _ _ _ (show 200 + nK ≠ 100 + i by omega), sy_up_o _ _ _ (show 200 + nK ≠ 62 by omega)]
    constructor <;> simp [sy_up_a]
  have qR : ∀ o, o ≠ 200 + nK → o ≠ 71 → o ≠ 100 + i → (tkM gc q nK i e x0 x5 V x4 x3 S).2 o = q o := by
    intro o h1 h2 h3
    rw [tkM_2]
    simp only [sy_up_o _ _ _ h1, sy_up_o _ _ _ h2, sy_up_o _ _ _ h3, va_up_ne _ _ h1]
  have qI : ∀ k, (tkM gc q nK i e x0 x5 V x4 x3 S).2 (100 + i) k = if k = 11 then some (200 + nK) else q (100 + i) k := by
    intro k
    rw [tkM_2, sy_up_a, sy_up_o _ _ _ (show 100 + i ≠ 71 by omega), sy_up_o _ _ _ (show 100 + i ≠ 200 + nK by omega), sy_up_o _ _ _ (show 100 + i ≠ 200 + nK by omega), va_up_ne _ _ (show 100 + i ≠ 200 + nK by omega)]
    simp
  have q71 : ∀ k, (tkM gc q nK i e x0 x5 V x4 x3 S).2 71 k = if k = nK then some (200 + nK) else q 71 k := by
    intro k
    rw [tkM_2, sy_up_o _ _ _ (show 71 ≠ 100 + i by omega), sy_up_a, sy_up_o _ _ _ (show 71 ≠ 200 + nK by omega), sy_up_o _ _ _ (show 71 ≠ 200 + nK by omega), va_up_ne _ _ (show 71 ≠ 200 + nK by omega)]
    simp
  have qN : ∀ k, (tkM gc q nK i e x0 x5 V x4 x3 S).2 (200 + nK) k = if k = 4 then some (80 + e) else if k = 1 then some (100 + i) else none := by
    intro k
    rw [tkM_2, sy_up_o _ _ _ (show 200 + nK ≠ 100 + i by omega), sy_up_o _ _ _ (show 200 + nK ≠ 71 by omega), sy_up_a, sy_up_a, va_up_self]
    simp
  obtain ⟨i1, i2, i3, i4, i5, i6, i7, i8, i9, i10, ⟨d, hd, i11, i12⟩⟩ := hI
  refine ⟨hRx, ⟨by rw [m0 2 (by decide)]; exact i1, i2, m28, by omega, by rw [m0 20 (by decide)]; exact i5, by rw [m0 24 (by decide)]; exact i6, fun j hj => by rw [mn 4 (by decide) (by decide) (by decide) (by decide) (by decide) (by decide) (by decide)]; exact i7 j hj, fun j hj => by rw [mn 18 (by decide) (by decide) (by decide) (by decide) (by decide) (by decide) (by decide)]; exact i8 j hj, fun j hj => ?_, fun j hj => ?_, d, hd, by rw [m0 1 (by decide)]; exact i11, fun j hj => ?_⟩, ⟨by rw [gR 61 (by omega) (by omega) (by omega)]; exact k3.1, k3.2.1, k3.2.2.1, g62, hcap.1, hcap.2, by rw [gR 68 (by omega) (by omega) (by omega), gR 78 (by omega) (by omega) (by omega)]; exact k3.2.2.2.2.2.2.1, fun j hj => ?_, fun j hj => ?_, fun c hc => by rw [gR _ (by omega) (by omega) (by omega)]; exact k3.2.2.2.2.2.2.2.2.2 c hc⟩, ⟨fun j h1 h2 => ?_, fun j h1 h2 => ?_, fun j hj => ?_, fun k hk => ?_, ?_⟩, fun j hj => ?_, fun j hj => ?_, fun j hj => ?_, ⟨fun k hk => by rw [qR _ (by omega) (by omega) (by omega)]; exact k8.1 k hk, fun k hk => ?_, fun k hk => by rw [qR _ (by omega) (by omega) (by omega)]; exact k8.2.2.1 k hk, fun k hk => by rw [qR _ (by omega) (by omega) (by omega)]; exact k8.2.2.2.1 k hk, fun k hk => by rw [qR _ (by omega) (by omega) (by omega)]; exact k8.2.2.2.2.1 k hk, fun k hk => ?_, fun o k r hr => ?_⟩, ⟨fun p hp => ?_, fun j hj => ?_⟩, fun j hj => ?_⟩
  · by_cases c : j = nK
    · rw [c, m30]; exact vp_in_nI (by omega) (by decide)
    · rw [mK 30 j (by decide) (by decide) c]; exact i9 j hj
  · by_cases c : j = nK
    · rw [c, m31]; exact vp_in_nI he (by decide)
    · rw [mK 31 j (by decide) (by decide) c]; exact i10 j hj
  · by_cases c : j = nK
    · rw [c, m37]; exact ⟨d, Nat.le_refl _, i11⟩
    · rw [mK 37 j (by decide) (by decide) c]; exact i12 j hj
  · by_cases c : j = i
    · rw [c, gI 0 (by decide) (by decide) (by decide) (by decide) (by decide)]; exact k3.2.2.2.2.2.2.2.1 i hi
    · rw [gR _ (by omega) (by omega) (by omega)]; exact k3.2.2.2.2.2.2.2.1 j hj
  · by_cases c : j = nK
    · rw [c]; exact gN.1
    · rw [gR _ (by omega) (by omega) (by omega)]; exact k3.2.2.2.2.2.2.2.2.1 j (by omega)
  · rw [mn 7 (by decide) (by decide) (by decide) (by decide) (by decide) (by decide) (by decide), mT 8 j (by decide) (by omega), mn 9 (by decide) (by decide) (by decide) (by decide) (by decide) (by decide) (by decide), mT 12 j (by decide) (by omega), mT 13 j (by decide) (by omega)]
    exact k4.1 j h1 h2
  · rw [mn 39 (by decide) (by decide) (by decide) (by decide) (by decide) (by decide) (by decide), mn 40 (by decide) (by decide) (by decide) (by decide) (by decide) (by decide) (by decide), mn 43 (by decide) (by decide) (by decide) (by decide) (by decide) (by decide) (by decide), mn 41 (by decide) (by decide) (by decide) (by decide) (by decide) (by decide) (by decide)]
    exact k4.2.1 j (by omega) h2
  · by_cases c : j = nK
    · rw [c, m35]; exact ⟨hx4, hx4'⟩
    · rw [mK 35 j (by decide) (by decide) c]; exact k4.2.2.1 j (by omega)
  · rw [mn 24 (by decide) (by decide) (by decide) (by decide) (by decide) (by decide) (by decide)]; exact k4.2.2.2.1 k hk
  · rw [m0 44 (by decide), mn 43 (by decide) (by decide) (by decide) (by decide) (by decide) (by decide) (by decide)]; exact k4.2.2.2.2
  · by_cases c : j = i
    · rw [c, m8, m10, m11, gI7.1, gI7.2]
      exact Or.inr ⟨rfl, rfl, rfl⟩
    · rw [mT 8 j (by decide) c, mT 10 j (by decide) c, mT 11 j (by decide) c, gR _ (by omega) (by omega) (by omega)]
      exact k5 j hj
  · rw [m0 1 (by decide), mn 41 (by decide) (by decide) (by decide) (by decide) (by decide) (by decide) (by decide), mn 42 (by decide) (by decide) (by decide) (by decide) (by decide) (by decide) (by decide)]
    by_cases c : j = nK
    · rw [c]; exact Or.inl ⟨z41, gN.2⟩
    · rw [gR _ (by omega) (by omega) (by omega)]
      exact k6 j (by omega)
  · rw [m0 1 (by decide), mn 43 (by decide) (by decide) (by decide) (by decide) (by decide) (by decide) (by decide), mn 39 (by decide) (by decide) (by decide) (by decide) (by decide) (by decide) (by decide), mn 44 (by decide) (by decide) (by decide) (by decide) (by decide) (by decide) (by decide)]
    by_cases c : j = nK
    · rw [c]; exact Or.inl z43
    · rw [gR _ (by omega) (by omega) (by omega)]
      exact k7 j (by omega)
  · rw [q71]
    by_cases c : k = nK
    · rw [if_pos c, c]
    · rw [if_neg c]; exact k8.2.1 k (by omega)
  · rw [q71, if_neg (by omega)]; exact k8.2.2.2.2.2.1 k (by omega)
  · by_cases c : o = 200 + nK
    · rw [c, qN] at hr
      split at hr
      · cases hr; omega
      · split at hr
        · cases hr; omega
        · cases hr
    · by_cases c2 : o = 71
      · rw [c2, q71] at hr
        split at hr
        · cases hr; omega
        · have := k8.2.2.2.2.2.2 71 k r hr
          omega
      · by_cases c3 : o = 100 + i
        · rw [c3, qI] at hr
          split at hr
          · cases hr; omega
          · have := k8.2.2.2.2.2.2 _ k r hr
            omega
        · rw [qR o c c2 c3] at hr
          have := k8.2.2.2.2.2.2 o k r hr
          omega
  · rw [qR _ (by omega) (by omega) (by omega), mn 18 (by decide) (by decide) (by decide) (by decide) (by decide) (by decide) (by decide)]; exact k9.1 p hp
  · by_cases c : j = nK
    · rw [c, m30, m31, qN, qN]
      exact ⟨⟨i, hi, rfl, rfl⟩, e, he, rfl, rfl⟩
    · rw [mK 30 j (by decide) (by decide) c, mK 31 j (by decide) (by decide) c, qR _ (by omega) (by omega) (by omega)]
      exact k9.2 j (by omega)
  · rw [mn 39 (by decide) (by decide) (by decide) (by decide) (by decide) (by decide) (by decide)]
    by_cases c : j = i
    · subst c
      rw [qI, m8, if_pos rfl]
      refine Or.inr ⟨nK, by omega, rfl, rfl, m30, z39, fun j' hj' e1 e2 => ?_⟩
      by_cases c1 : j' = nK
      · exact c1
      · exfalso
        rw [mK 30 j' (by decide) (by decide) c1] at e1
        rcases k10 j hj with ⟨-, -, a3⟩ | ⟨j0, -, -, a2, -⟩
        · exact a3 j' (by omega) e1 e2
        · rw [hs] at a2
          exact absurd a2 (by decide)
    · rw [qR _ (by omega) (by omega) (by omega), mT 8 j (by decide) c]
      have hne : nI i ≠ nI j := fun z => c ((nI_eq (by omega) (by omega)).mp z).symm
      rcases k10 j hj with ⟨a1, a2, a3⟩ | ⟨j0, hj0, a1, a2, a3, a4, a5⟩
      · refine Or.inl ⟨a1, a2, fun j' hj' e1 => ?_⟩
        by_cases c1 : j' = nK
        · rw [c1, m30] at e1
          exact absurd e1 hne
        · rw [mK 30 j' (by decide) (by decide) c1] at e1
          exact a3 j' (by omega) e1
      · refine Or.inr ⟨j0, by omega, a1, a2, by rw [mK 30 j0 (by decide) (by decide) (by omega)]; exact a3, a4, fun j' hj' e1 e2 => ?_⟩
        by_cases c1 : j' = nK
        · rw [c1, m30] at e1
          exact absurd e1 hne
        · rw [mK 30 j' (by decide) (by decide) c1] at e1
          exact a5 j' (by omega) e1 e2
end OPO
