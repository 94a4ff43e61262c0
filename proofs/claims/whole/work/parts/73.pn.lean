section OPN
variable {B nT nK cT cK : Nat} {gc : sG} {q : sQ} {gm : sG} {q' : sQ}
theorem cap_ok {k n : Nat} (hk : k ≤ n) (hn : n ≤ 60) (h40 : k < 40) : k + 1 ≤ sCap k n ∧ sCap k n ≤ 60 := by
  unfold sCap sGr
  split
  · split
    · omega
    · split <;> omega
  · omega
/-- a row made anew -/
theorem Rx_rowT {S : List (Nat × Nat)} {i : Nat} {f : Nat → Int32} (hi : i < 40) (hS : ∀ o, (o = 4 ∨ o = 5 ∨ o = 6 ∨ o = 7 ∨ o = 8 ∨ o = 9 ∨ o = 12 ∨ o = 13) → (o, i) ∈ S) (h : Rx [] gc gm) : Rx S (va_up gc (100 + i) f) gm := by
  intro o k c hc hs
  have hm := mp_pc hc
  by_cases c1 : c.1 = 100 + i
  · rw [c1, mp_T hi] at hm
    exfalso
    have : k = i ∧ (o = 4 ∨ o = 5 ∨ o = 6 ∨ o = 7 ∨ o = 8 ∨ o = 9 ∨ o = 12 ∨ o = 13) := by
      unfold mpT at hm
      split at hm
      all_goals first | (cases hm; omega) | cases hm
    exact hs (this.1 ▸ hS o this.2)
  · rw [va_up_ne _ _ c1]
    exact h o k c hc (by simp)
theorem Rx_rowK {S : List (Nat × Nat)} {j : Nat} {f : Nat → Int32} (hj : j < 40) (hS : ∀ o, (o = 32 ∨ o = 33 ∨ o = 34 ∨ o = 35 ∨ o = 36 ∨ o = 37 ∨ o = 38 ∨ o = 39 ∨ o = 40 ∨ o = 43) → (o, j) ∈ S) (h : Rx [] gc gm) : Rx S (va_up gc (200 + j) f) gm := by
  intro o k c hc hs
  have hm := mp_pc hc
  by_cases c1 : c.1 = 200 + j
  · rw [c1, mp_K hj] at hm
    exfalso
    have : k = j ∧ (o = 32 ∨ o = 33 ∨ o = 34 ∨ o = 35 ∨ o = 36 ∨ o = 37 ∨ o = 38 ∨ o = 39 ∨ o = 40 ∨ o = 43) := by
      unfold mpK at hm
      split at hm
      all_goals first | (cases hm; omega) | cases hm
    exact hs (this.1 ▸ hS o this.2)
  · rw [va_up_ne _ _ c1]
    exact h o k c hc (by simp)
/-- a thing more -/
theorem inv_thing {x0 x1 x2 : Int32} (hn : nT < 40) (hx : vp_in x0 4) (h : INV B 40 40 nT nK cT cK gc q gm) : INV B 40 40 (nT + 1) nK (sCap nT cT) cK (fX6_thingM gc q nT x0 x1 x2).1 (fX6_thingM gc q nT x0 x1 x2).2 (sy_up (sy_up (sy_up (sy_up gm 4 nT x0) 5 nT x1) 6 nT x2) 0 2 (nI (nT + 1))) := by
  have hK := inv_K h
  obtain ⟨hR, hI, k3, k4, k5, k6, k7, k8, k9, k10⟩ := h
  have hcap := cap_ok k3.2.1 k3.2.2.1 hn
  obtain ⟨z7, z8, z9, z12, z13⟩ := k4.1 nT (Nat.le_refl _) hn
  -- the class's memory
  have gR : ∀ o, o ≠ 100 + nT → o ≠ 61 → (fX6_thingM gc q nT x0 x1 x2).1 o = gc o := by
    intro o h1 h2
    unfold fX6_thingM fX3_init
    dsimp only
    simp only [sy_up_o _ _ _ h1, sy_up_o _ _ _ h2, va_up_ne _ _ h1]
  have gS : ∀ k, k ≠ 0 → k ≠ 2 → (fX6_thingM gc q nT x0 x1 x2).1 61 k = gc 61 k := by
    intro k h1 h2
    unfold fX6_thingM fX3_init
    dsimp only
    simp only [sy_up_k _ _ _ h1, sy_up_k _ _ _ h2, sy_up_o _ _ _ (show 61 ≠ 100 + nT by omega), va_up_ne _ _ (show 61 ≠ 100 + nT by omega)]
  have gN : (fX6_thingM gc q nT x0 x1 x2).1 61 2 = nI (nT + 1) := by unfold fX6_thingM; dsimp only; exact sy_up_e _ _ _ _
  have g0 : (fX6_thingM gc q nT x0 x1 x2).1 (100 + nT) 0 = nI nT ∧ (fX6_thingM gc q nT x0 x1 x2).1 (100 + nT) 7 = -1 ∧ (fX6_thingM gc q nT x0 x1 x2).1 (100 + nT) 8 = -1 := by
    unfold fX6_thingM fX3_init
    dsimp only
    simp only [sy_up_o _ _ _ (show 100 + nT ≠ 61 by omega)]
    refine ⟨?_, ?_, ?_⟩ <;> simp [sy_up_a]
  have qR : ∀ o, o ≠ 100 + nT → o ≠ 70 → (fX6_thingM gc q nT x0 x1 x2).2 o = q o := by
    intro o h1 h2
    unfold fX6_thingM fX3_init
    dsimp only
    simp only [sy_up_o _ _ _ h1, sy_up_o _ _ _ h2, va_up_ne _ _ h1]
  have q7 : ∀ k, (fX6_thingM gc q nT x0 x1 x2).2 70 k = if k = nT then some (100 + nT) else q 70 k := by
    intro k
    unfold fX6_thingM fX3_init
    dsimp only
    rw [sy_up_a, sy_up_o _ _ _ (show 70 ≠ 100 + nT by omega), va_up_ne _ _ (show 70 ≠ 100 + nT by omega)]
    simp
  have qN : ∀ k, (fX6_thingM gc q nT x0 x1 x2).2 (100 + nT) k = none := by
    intro k
    unfold fX6_thingM fX3_init
    dsimp only
    rw [up_ne _ _ (by omega), sy_up_a]
    split
    · rfl
    · rw [va_up_self]
  have m0 : ∀ k, k ≠ 2 → sy_up (sy_up (sy_up (sy_up gm 4 nT x0) 5 nT x1) 6 nT x2) 0 2 (nI (nT + 1)) 0 k = gm 0 k := fun k hk => by
    rw [up_ne _ _ (by omega), up_ne _ _ (by omega), up_ne _ _ (by omega), up_ne _ _ (by omega)]
  have mo : ∀ o, o ≠ 0 → o ≠ 4 → o ≠ 5 → o ≠ 6 → sy_up (sy_up (sy_up (sy_up gm 4 nT x0) 5 nT x1) 6 nT x2) 0 2 (nI (nT + 1)) o = gm o := fun o a b c d => by
    rw [sy_up_o _ _ _ a, sy_up_o _ _ _ d, sy_up_o _ _ _ c, sy_up_o _ _ _ b]
  refine ⟨?_, ?_, ⟨gN, hcap.1, hcap.2, by rw [gR 62 (by omega) (by omega)]; exact k3.2.2.2.1, k3.2.2.2.2.1, k3.2.2.2.2.2.1, ?_, fun i hi => ?_, fun j hj => by rw [gR _ (by omega) (by omega)]; exact k3.2.2.2.2.2.2.2.2.1 j hj, fun c hc => by rw [gR _ (by omega) (by omega)]; exact k3.2.2.2.2.2.2.2.2.2 c hc⟩, ⟨fun i h1 h2 => ?_, fun j h1 h2 => ?_, fun j hj => ?_, fun k hk => ?_, ?_⟩, fun i hi => ?_, fun j hj => ?_, fun j hj => ?_, ⟨fun k hk => ?_, fun k hk => by rw [qR _ (by omega) (by omega)]; exact k8.2.1 k hk, fun k hk => by rw [qR _ (by omega) (by omega)]; exact k8.2.2.1 k hk, fun k hk => by rw [qR _ (by omega) (by omega)]; exact k8.2.2.2.1 k hk, fun k hk => ?_, fun k hk => by rw [qR _ (by omega) (by omega)]; exact k8.2.2.2.2.2.1 k hk, fun o k r hr => ?_⟩, ⟨fun p hp => ?_, fun j hj => ?_⟩, fun i hi => ?_⟩
  · -- pairs
    unfold fX6_thingM fX3_init
    dsimp only
    refine Rx_n rfl (Rx_n rfl (Rx_1 (a := 6) (b := nT) (if_pos hn) (Rx_1 (a := 5) (b := nT) (if_pos hn) (Rx_1 (a := 4) (b := nT) (if_pos hn) (Rx_n ((mp_T hn).trans rfl) (Rx_1 (a := 13) (b := nT) (if_pos hn) (Rx_1 (a := 12) (b := nT) (if_pos hn) (Rx_n ((mp_T hn).trans rfl) (Rx_n ((mp_T hn).trans rfl) (Rx_1 (a := 9) (b := nT) (if_pos hn) (Rx_1 (a := 8) (b := nT) (if_pos hn) (Rx_1 (a := 7) (b := nT) (if_pos hn) (Rx_mn rfl (Rx_m (by simp) (Rx_m (by simp) (Rx_m (by simp) (Rx_rowT hn (fun o ho => ?_) hR))))) ?_) ?_) ?_))) ?_) ?_)) ?_) ?_) ?_))
    · rcases ho with rfl | rfl | rfl | rfl | rfl | rfl | rfl | rfl <;> simp
    · rw [mo 7 (by decide) (by decide) (by decide) (by decide)]; exact z7
    · rw [mo 8 (by decide) (by decide) (by decide) (by decide)]; exact z8
    · rw [mo 9 (by decide) (by decide) (by decide) (by decide)]; exact z9
    · rw [mo 12 (by decide) (by decide) (by decide) (by decide)]; exact z12
    · rw [mo 13 (by decide) (by decide) (by decide) (by decide)]; exact z13
    · rw [up_ne _ _ (by omega), up_ne _ _ (by omega), up_ne _ _ (by omega), sy_up_e]
    · rw [up_ne _ _ (by omega), up_ne _ _ (by omega), sy_up_e]
    · rw [up_ne _ _ (by omega), sy_up_e]
  · obtain ⟨i1, i2, i3, i4, i5, i6, i7, i8, i9, i10, ⟨d, hd, i11, i12⟩⟩ := hI
    refine ⟨sy_up_e _ _ _ _, by omega, by rw [m0 28 (by decide)]; exact i3, i4, ?_, ?_, fun j hj => ?_, fun j hj => ?_, fun j hj => ?_, fun j hj => ?_, d, hd, ?_, fun j hj => ?_⟩
    · rw [m0 20 (by decide)]; exact i5
    · rw [m0 24 (by decide)]; exact i6
    · rw [sy_up_o _ _ _ (show 4 ≠ 0 by decide), sy_up_o _ _ _ (show 4 ≠ 6 by decide), sy_up_o _ _ _ (show 4 ≠ 5 by decide), sy_up_a]
      split
      · exact hx
      · exact i7 j hj
    · rw [mo 18 (by decide) (by decide) (by decide) (by decide)]; exact i8 j hj
    · rw [mo 30 (by decide) (by decide) (by decide) (by decide)]; exact i9 j hj
    · rw [mo 31 (by decide) (by decide) (by decide) (by decide)]; exact i10 j hj
    · rw [m0 1 (by decide)]; exact i11
    · rw [mo 37 (by decide) (by decide) (by decide) (by decide)]; exact i12 j hj
  · rw [gR 68 (by omega) (by omega), gR 78 (by omega) (by omega)]
    exact k3.2.2.2.2.2.2.1
  · by_cases c : i = nT
    · subst c; exact g0.1
    · rw [gR _ (by omega) (by omega)]
      exact k3.2.2.2.2.2.2.2.1 i (by omega)
  · rw [mo 7 (by decide) (by decide) (by decide) (by decide), mo 8 (by decide) (by decide) (by decide) (by decide), mo 9 (by decide) (by decide) (by decide) (by decide), mo 12 (by decide) (by decide) (by decide) (by decide), mo 13 (by decide) (by decide) (by decide) (by decide)]
    exact k4.1 i (by omega) h2
  · rw [mo 39 (by decide) (by decide) (by decide) (by decide), mo 40 (by decide) (by decide) (by decide) (by decide), mo 43 (by decide) (by decide) (by decide) (by decide), mo 41 (by decide) (by decide) (by decide) (by decide)]
    exact k4.2.1 j h1 h2
  · rw [mo 35 (by decide) (by decide) (by decide) (by decide)]; exact k4.2.2.1 j hj
  · rw [mo 24 (by decide) (by decide) (by decide) (by decide)]; exact k4.2.2.2.1 k hk
  · rw [m0 44 (by decide), mo 43 (by decide) (by decide) (by decide) (by decide)]; exact k4.2.2.2.2
  · rw [mo 8 (by decide) (by decide) (by decide) (by decide), mo 10 (by decide) (by decide) (by decide) (by decide), mo 11 (by decide) (by decide) (by decide) (by decide)]
    by_cases c : i = nT
    · subst c
      exact Or.inl ⟨z8, g0.2.1, g0.2.2⟩
    · rw [gR _ (by omega) (by omega)]
      exact k5 i (by omega)
  · rw [m0 1 (by decide), mo 41 (by decide) (by decide) (by decide) (by decide), mo 42 (by decide) (by decide) (by decide) (by decide), gR _ (by omega) (by omega)]
    exact k6 j hj
  · rw [m0 1 (by decide), mo 43 (by decide) (by decide) (by decide) (by decide), mo 39 (by decide) (by decide) (by decide) (by decide), mo 44 (by decide) (by decide) (by decide) (by decide), gR _ (by omega) (by omega)]
    exact k7 j hj
  · rw [q7]
    by_cases c : k = nT
    · rw [if_pos c, c]
    · rw [if_neg c]; exact k8.1 k (by omega)
  · rw [q7, if_neg (by omega)]; exact k8.2.2.2.2.1 k (by omega)
  · by_cases c : o = 100 + nT
    · rw [c, qN] at hr; cases hr
    · by_cases c2 : o = 70
      · rw [c2, q7] at hr
        split at hr
        · cases hr; omega
        · have := k8.2.2.2.2.2.2 70 k r hr
          omega
      · rw [qR o c c2] at hr
        have := k8.2.2.2.2.2.2 o k r hr
        omega
  · rw [qR _ (by omega) (by omega), mo 18 (by decide) (by decide) (by decide) (by decide)]; exact k9.1 p hp
  · rw [qR _ (by omega) (by omega), mo 30 (by decide) (by decide) (by decide) (by decide), mo 31 (by decide) (by decide) (by decide) (by decide)]
    obtain ⟨⟨i, hi, e⟩, e2⟩ := k9.2 j hj
    exact ⟨⟨i, by omega, e⟩, e2⟩
  · rw [mo 8 (by decide) (by decide) (by decide) (by decide), mo 30 (by decide) (by decide) (by decide) (by decide), mo 39 (by decide) (by decide) (by decide) (by decide)]
    by_cases c : i = nT
    · subst c
      refine Or.inl ⟨qN _, z8, fun j hj e => ?_⟩
      obtain ⟨⟨t, ht, -, e2⟩, -⟩ := k9.2 j hj
      have := (nI_eq (by omega) (by omega)).mp (e2.symm.trans e)
      omega
    · rw [qR _ (by omega) (by omega)]
      exact k10 i (by omega)
/-- what a call that may make a thing or a ticket leaves -/
abbrev OKn (w : Int32 → Int32) (B nT nK cT cK nT' nK' cT' cK' : Nat) (c : Int32 × Int32 × sG × sQ) (m : Int32 × sG) : Prop := w c.1 = m.2 0 0 ∧ w c.1 ≠ 9 ∧ (c.1 = 0 → c.2.1 = m.1) ∧ (c.1 = 0 → INV B 40 40 nT' nK' cT' cK' c.2.2.1 c.2.2.2 m.2) ∧ (c.1 ≠ 0 → c.2.2.1 = gc ∧ c.2.2.2 = q ∧ INV B 40 40 nT nK cT cK gc q m.2)
theorem okn_no {a b c code v r : Int32} {nT' nK' cT' cK' : Nat} (h : INV B 40 40 nT nK cT cK gc q gm) (hw : wf a b c code = v) (h9 : v ≠ 9) (hc : code ≠ 0) : OKn (gc := gc) (q := q) (wf a b c) (B + oB) nT nK cT cK nT' nK' cT' cK' (code, 0, gc, q) (r, sy_up gm 0 0 v) :=
  ⟨hw.trans (sy_up_e gm 0 0 v).symm, fun z => h9 (hw.symm.trans z), fun z => absurd z hc, fun z => absurd z hc, fun _ => ⟨rfl, rfl, inv_0 (inv_B (Nat.le_add_right _ _) h)⟩⟩
theorem okn_yes {a b c r r' : Int32} {gc1 gm1 : sG} {q1 : sQ} {nT' nK' cT' cK' : Nat} (hr : r = r') (h0 : gm1 0 0 = 0) (h : INV (B + oB) 40 40 nT' nK' cT' cK' gc1 q1 gm1) : OKn (gc := gc) (q := q) (wf a b c) (B + oB) nT nK cT cK nT' nK' cT' cK' (0, r, gc1, q1) (r', gm1) :=
  ⟨h0.symm, by show (0 : Int32) ≠ 9; decide, fun _ => hr, fun _ => h, fun z => absurd rfl z⟩
theorem o_thing (h : INV B 40 40 nT nK cT cK gc q gm) (x0 x1 x2 : Int32) : OKn (gc := gc) (q := q) (wf 1 2 3) (B + oB) nT nK cT cK (nT + 1) nK (sCap nT cT) cK (fX6_thing gc q nT x0 x1 x2) (fX7_thing gm q' x0 x1 x2) := by
  have hT := inv_T h
  unfold fX6_thing fX7_thing
  rw [h.2.1.1, h.2.2.1.1]
  simp only [cv3]
  by_cases c0 : 0 ≤ x0 ∧ x0 < 4
  · by_cases c1 : 1 ≤ x1 ∧ x1 ≤ 50
    · by_cases c2 : 10 ≤ x2 ∧ x2 ≤ 10000
      · simp only [if_pos c0, if_pos c1, if_pos c2]
        by_cases c3 : nT = 40
        · rw [if_pos (show (40 : Int32) ≤ nI nT by rw [c3]; decide), if_pos (show nI nT = 40 by rw [c3]; rfl)]
          exact okn_no h rfl (by decide) (by decide)
        · rw [if_neg (fun (z : (40 : Int32) ≤ nI nT) => c3 (by have := (nI_leI (a := 40) (b := nT) (by decide) (by omega)).mp z; omega)), if_neg (fun (z : nI nT = 40) => c3 ((nI_eq (a := nT) (b := 40) (by omega) (by decide)).mp z)), nI_clamp (show nT < 2 ^ 31 by omega), nI_1]
          obtain ⟨k, hk, rfl, -⟩ := jof4 c0
          exact okn_yes (by rw [← nI_1, Int32.add_sub_cancel]) (by rw [up_ne _ _ (by omega), up_ne _ _ (by omega), up_ne _ _ (by omega), up_ne _ _ (by omega), sy_up_e]) (inv_thing (by omega) (vp_in_nI hk (by decide)) (e00 h))
      · simp only [if_pos c0, if_pos c1, if_neg c2]
        exact okn_no h rfl (by decide) (by decide)
    · simp only [if_pos c0, if_neg c1]
      exact okn_no h rfl (by decide) (by decide)
  · simp only [if_neg c0]
    split
    · split <;> exact okn_no h rfl (by decide) (by decide)
    · exact okn_no h rfl (by decide) (by decide)
end OPN
