section MID
variable {B m5 m6 nT nK cT cK : Nat} {gc : sG} {q : sQ} {gm : sG}
/-- an open ticket is closed, its thing leaves -/
theorem inv_close {j : Nat} {v : Int32} (hj : j < nK) (ho : gm 39 j = 0) (hv : v ≠ 0) (h : INV B m5 m6 nT nK cT cK gc q gm) : INV B m5 m6 nT nK cT cK (fX4_close gc q j v).1 (fX4_close gc q j v).2 (sy_up (sy_up gm 39 j v) 8 (gm 30 j).toNatClampNeg 0) := by
  have hK := inv_K h
  have hT := inv_T h
  have hQ := inv_IQ h
  obtain ⟨hR, hI, k3, k4, k5, k6, k7, k8, k9, k10⟩ := h
  obtain ⟨t, ht, e1, e2⟩ := (k9.2 j hj).1
  have htg : tg q j = t := by
    have h1 := (iq_tg hQ hj).1
    rw [e1] at h1
    have := Option.some.inj h1
    omega
  have htc : (gm 30 j).toNatClampNeg = t := by rw [e2]; exact nI_clamp (by omega)
  unfold fX4_close fX3_leave
  rw [htg, htc]
  dsimp only
  refine ⟨Rx_n ((mp_T (by omega)).trans rfl) (Rx_n ((mp_T (by omega)).trans rfl) (Rx_1 (a := 8) (b := t) (if_pos (by omega)) (Rx_1 (a := 39) (b := j) (if_pos (by omega)) (Rx_m (by simp) (Rx_m (by simp) (Rx_w hR))) (by rw [up_ne _ _ (by omega), sy_up_e])) (sy_up_e _ _ _ _))), im_o (by decide) (im_o (by decide) hI), A3_up (by omega) (A3_up (by omega) (A3_up (by omega) (A3_up (by omega) k3))), A4_up (by omega) (A4_up (by omega) k4), fun i hi => ?_, A6_c (by omega) (A6_c (by omega) (A6_c (by omega) (A6_c (by omega) (A6_m (by omega) (A6_m (by omega) k6))))), A7_c (by omega) (A7_c (by omega) (A7_c (by omega) (A7_c (by omega) fun i hi => ?_))), ⟨fun k hk => ?_, fun k hk => ?_, fun k hk => ?_, fun k hk => ?_, fun k hk => ?_, fun k hk => ?_, fun o k r hr => ?_⟩, ⟨fun p hp => ?_, fun i hi => ?_⟩, fun i hi => ?_⟩
  · by_cases h9 : i = t
    · subst h9
      left
      rw [sy_up_e, sy_up_e, up_ne _ _ (show 100 + i ≠ 100 + i ∨ 7 ≠ 8 by omega), sy_up_e]
      exact ⟨rfl, rfl, rfl⟩
    · rw [up_ne _ _ (by omega), up_ne _ _ (by omega), up_ne _ _ (by omega), up_ne _ _ (by omega), up_ne _ _ (by omega), up_ne _ _ (by omega), up_ne _ _ (by omega), up_ne _ _ (by omega), up_ne _ _ (by omega), up_ne _ _ (by omega), up_ne _ _ (by omega), up_ne _ _ (by omega), up_ne _ _ (by omega), up_ne _ _ (by omega)]
      exact k5 i hi
  · simp only [sy_up_o _ _ _ (show 43 ≠ 8 by decide), sy_up_o _ _ _ (show 43 ≠ 39 by decide), sy_up_o _ _ _ (show 0 ≠ 8 by decide), sy_up_o _ _ _ (show 0 ≠ 39 by decide), sy_up_o _ _ _ (show 39 ≠ 8 by decide), sy_up_o _ _ _ (show 44 ≠ 8 by decide), sy_up_o _ _ _ (show 44 ≠ 39 by decide)]
    rcases k7 i hi with h1 | ⟨s, D, h1, h2, h3, h4⟩
    · exact Or.inl h1
    · refine Or.inr ⟨s, D, h1, h2, ?_, h4⟩
      rw [sy_up_a]
      split
      · exact hv
      · exact h3
  · rw [sy_up_o _ _ _ (by omega)]; exact k8.1 k hk
  · rw [sy_up_o _ _ _ (by omega)]; exact k8.2.1 k hk
  · rw [sy_up_o _ _ _ (by omega)]; exact k8.2.2.1 k hk
  · rw [sy_up_o _ _ _ (by omega)]; exact k8.2.2.2.1 k hk
  · rw [sy_up_o _ _ _ (by omega)]; exact k8.2.2.2.2.1 k hk
  · rw [sy_up_o _ _ _ (by omega)]; exact k8.2.2.2.2.2.1 k hk
  · rw [sy_up_a] at hr
    split at hr
    · cases hr
    · exact k8.2.2.2.2.2.2 o k r hr
  · rw [sy_up_o _ _ _ (by omega), sy_up_o _ _ _ (by omega), sy_up_o _ _ _ (by omega)]
    exact k9.1 p hp
  · rw [sy_up_o _ _ _ (by omega), sy_up_o _ _ _ (by omega), sy_up_o _ _ _ (by omega), sy_up_o _ _ _ (by omega), sy_up_o _ _ _ (by omega)]
    exact k9.2 i hi
  · have e30 : sy_up (sy_up gm 39 j v) 8 t 0 30 = gm 30 := by rw [sy_up_o _ _ _ (by omega), sy_up_o _ _ _ (by omega)]
    have e39 : sy_up (sy_up gm 39 j v) 8 t 0 39 = va_up (gm 39) j v := by rw [sy_up_o _ _ _ (by omega), sy_up_s]
    rw [e30, e39]
    by_cases h9 : i = t
    · subst h9
      left
      rw [sy_up_e, sy_up_e]
      refine ⟨rfl, rfl, fun i' hi' h8 => ?_⟩
      by_cases h7 : i' = j
      · subst h7
        rw [va_up_self]
        exact hv
      · rw [va_up_ne _ _ h7]
        intro h6
        rcases k10 i hi with ⟨-, -, h5⟩ | ⟨j0, hj0, -, -, -, -, h5⟩
        · exact h5 i' hi' h8 h6
        · exact h7 ((h5 i' hi' h8 h6).trans (h5 j hj e2 ho).symm)
    · rw [up_ne _ _ (by omega), up_ne _ _ (by omega), up_ne _ _ (by omega)]
      have hne : gm 30 j ≠ nI i := by
        rw [e2]
        intro h8
        exact h9 ((nI_eq (by omega) (by omega)).mp h8).symm
      rcases k10 i hi with ⟨h1, h2, h3⟩ | ⟨j0, hj0, h1, h2, h3, h4, h5⟩
      · left
        refine ⟨h1, h2, fun i' hi' h8 => ?_⟩
        by_cases h7 : i' = j
        · subst h7
          exact absurd h8 hne
        · rw [va_up_ne _ _ h7]
          exact h3 i' hi' h8
      · right
        have h6 : j0 ≠ j := fun h8 => hne (by rw [← h8]; exact h3)
        refine ⟨j0, hj0, h1, h2, h3, by rw [va_up_ne _ _ h6]; exact h4, fun i' hi' h8 h7 => ?_⟩
        by_cases h10 : i' = j
        · subst h10
          exact absurd h8 hne
        · rw [va_up_ne _ _ h10] at h7
          exact h5 i' hi' h8 h7
/-- the day of a sale of which nothing was kept is read no more -/
theorem inv_sold {j : Nat} {v : Int32} (hj : j < nK) (h0 : gm 43 j = 0) (h : INV B m5 m6 nT nK cT cK gc q gm) : INV B m5 m6 nT nK cT cK (sy_up gc (200 + j) 15 v) q gm := by
  have hK := inv_K h
  obtain ⟨hR, hI, k3, k4, k5, k6, k7, k8, k9, k10⟩ := h
  refine ⟨Rx_n ((mp_K (by omega)).trans rfl) hR, hI, A3_up (by omega) k3, k4, A5_c hI.2.1 (by omega) k5, A6_c (by omega) k6, fun i hi => ?_, k8, k9, k10⟩
  by_cases h9 : i = j
  · subst h9
    exact Or.inl h0
  · rw [up_ne _ _ (by omega)]
    exact k7 i hi
/-- a surplus is kept -/
theorem inv_sell {j : Nat} {v : Int32} (hj : j < nK) (hm : nK ≤ m6) (h0 : gm 43 j = 0) (hs : gm 39 j ≠ 0) (hv : 0 < v.toInt) (hv2 : v.toInt ≤ 100000) (h : INV B m5 m6 nT nK cT cK gc q gm) : INV (B + v.toInt.natAbs) m5 m6 nT nK cT cK (sy_up (sy_up gc (200 + j) 14 v) (200 + j) 15 (gc 60 9)) q (sy_up (sy_up gm 43 j v) 44 j (gm 0 1)) := by
  have hK := inv_K h
  have hT := inv_T h
  obtain ⟨hR, hI, k3, k4, k5, k6, k7, k8, k9, k10⟩ := h
  have e : gc 60 9 = gm 0 1 := rd hR (a := 0) (b := 1) rfl
  rw [e]
  obtain ⟨d, hd, hD, -⟩ := hI.2.2.2.2.2.2.2.2.2.2
  refine ⟨Rx_n ((mp_K (by omega)).trans rfl) (Rx_mn rfl (Rx_p (if_pos (by omega)) hR)), im_o (by decide) (im_o (by decide) hI), A3_up (by omega) (A3_up (by omega) k3), A4_up (by omega) ⟨fun i hi => ?_, fun i hi h40 => ?_, fun i hi => ?_, fun k hk => ?_, ?_⟩, A5_c hT (by omega) (A5_c hT (by omega) (A5_m (by decide) (A5_m (by decide) k5))), A6_c (by omega) (A6_c (by omega) (A6_m (by omega) (A6_m (by omega) k6))), fun i hi => ?_, k8, B9_m (by decide) (B9_m (by decide) k9), B10_m (by decide) (B10_m (by decide) k10)⟩
  · simp only [sy_up_o gm j v (show 7 ≠ 43 by decide), sy_up_o gm j v (show 8 ≠ 43 by decide), sy_up_o gm j v (show 9 ≠ 43 by decide), sy_up_o gm j v (show 12 ≠ 43 by decide), sy_up_o gm j v (show 13 ≠ 43 by decide)]
    exact k4.1 i hi
  · rw [up_ne gm _ (by omega), up_ne gm _ (by omega), up_ne gm _ (by omega), up_ne gm _ (by omega)]
    exact k4.2.1 i hi h40
  · rw [up_ne gm _ (by omega)]; exact k4.2.2.1 i hi
  · rw [up_ne gm _ (by omega)]; exact k4.2.2.2.1 k hk
  · rw [up_ne gm _ (by omega), sy_up_s]
    have h1 := ssum_up (f := gm 43) (v := v) 40 (show j < 40 by omega)
    have h2 := k4.2.2.2.2
    rw [h0] at h1
    have h3 : (0 : Int32).toInt.natAbs = 0 := rfl
    omega
  · by_cases h9 : i = j
    · subst h9
      right
      refine ⟨d, d, ?_, hd, ?_, ?_, ?_, ?_, Nat.le_refl _, by omega, ?_⟩
      · rw [up_ne _ _ (by omega), up_ne _ _ (by omega)]; exact hD
      · rw [up_ne _ _ (by omega), up_ne _ _ (by omega)]; exact hs
      · rw [up_ne _ _ (by omega), sy_up_e]; exact hv
      · rw [up_ne _ _ (by omega), sy_up_e]; exact hv2
      · rw [sy_up_e]; exact hD
      · rw [sy_up_e]; exact hD
    · rw [up_ne _ _ (by omega), up_ne _ _ (by omega), up_ne _ _ (by omega), up_ne _ _ (by omega), up_ne _ _ (by omega), up_ne _ _ (by omega), up_ne _ _ (by omega), up_ne _ _ (by omega), up_ne _ _ (by omega), up_ne _ _ (by omega)]
      exact k7 i hi
/-- a surplus is no more -/
theorem inv_zero {j : Nat} (hj : j < nK) (h : INV B m5 m6 nT nK cT cK gc q gm) : (gm 43 j).toInt.natAbs ≤ B ∧ INV (B - (gm 43 j).toInt.natAbs) m5 m6 nT nK cT cK (sy_up gc (200 + j) 14 0) q (sy_up gm 43 j 0) := by
  have hK := inv_K h
  have hT := inv_T h
  obtain ⟨hR, hI, k3, k4, k5, k6, k7, k8, k9, k10⟩ := h
  have hle := ssum_le (f := gm 43) 40 (show j < 40 by omega)
  have h2 := k4.2.2.2.2
  refine ⟨by omega, Rx_p (if_pos (by omega)) hR, im_o (by decide) hI, A3_up (by omega) k3, ⟨fun i hi => ?_, fun i hi h40 => ?_, fun i hi => ?_, fun k hk => ?_, ?_⟩, A5_c hT (by omega) (A5_m (by decide) k5), A6_c (by omega) (A6_m (by omega) k6), fun i hi => ?_, k8, B9_m (by decide) k9, B10_m (by decide) k10⟩
  · simp only [sy_up_o gm j (0 : Int32) (show 7 ≠ 43 by decide), sy_up_o gm j (0 : Int32) (show 8 ≠ 43 by decide), sy_up_o gm j (0 : Int32) (show 9 ≠ 43 by decide), sy_up_o gm j (0 : Int32) (show 12 ≠ 43 by decide), sy_up_o gm j (0 : Int32) (show 13 ≠ 43 by decide)]
    exact k4.1 i hi
  · rw [up_ne gm _ (by omega), up_ne gm _ (by omega), up_ne gm _ (by omega), up_ne gm _ (by omega)]
    exact k4.2.1 i hi h40
  · rw [up_ne gm _ (by omega)]; exact k4.2.2.1 i hi
  · rw [up_ne gm _ (by omega)]; exact k4.2.2.2.1 k hk
  · rw [up_ne gm _ (by omega), sy_up_s]
    have h1 := ssum_up (f := gm 43) (v := 0) 40 (show j < 40 by omega)
    have h3 : (0 : Int32).toInt.natAbs = 0 := rfl
    omega
  · by_cases h9 : i = j
    · subst h9
      exact Or.inl (sy_up_e _ _ _ _)
    · rw [up_ne _ _ (by omega), up_ne _ _ (by omega), up_ne _ _ (by omega), up_ne _ _ (by omega), up_ne _ _ (by omega)]
      exact k7 i hi
/-- a person's class -/
theorem inv_class {p c : Nat} (hp : p < 10) (hc : c < 3) (h : INV B m5 m6 nT nK cT cK gc q gm) : INV B m5 m6 nT nK cT cK gc (sy_up q 66 p (some (84 + c))) (sy_up gm 18 p (nI c)) := by
  have hK := inv_K h
  have hT := inv_T h
  obtain ⟨hR, hI, k3, k4, k5, k6, k7, k8, k9, k10⟩ := h
  refine ⟨Rx_mn rfl hR, ?_, k3, A4_up (by omega) k4, A5_m (by decide) k5, A6_m (by omega) k6, A7_m (by omega) k7, ⟨fun k hk => ?_, fun k hk => ?_, fun k hk => ?_, fun k hk => ?_, fun k hk => ?_, fun k hk => ?_, fun o k r hr => ?_⟩, ⟨fun x hx => ?_, fun i hi => ?_⟩, fun i hi => ?_⟩
  · obtain ⟨i1, i2, i3, i4, i5, i6, i7, i8, i9, i10, i11⟩ := hI
    unfold IM
    simp only [sy_up_o gm p (nI c) (show 0 ≠ 18 by decide), sy_up_o gm p (nI c) (show 4 ≠ 18 by decide), sy_up_o gm p (nI c) (show 37 ≠ 18 by decide), sy_up_o gm p (nI c) (show 30 ≠ 18 by decide), sy_up_o gm p (nI c) (show 31 ≠ 18 by decide)]
    refine ⟨i1, i2, i3, i4, i5, i6, i7, fun j hj => ?_, i9, i10, i11⟩
    rw [sy_up_a]
    split
    · exact vp_in_nI hc (by decide)
    · exact i8 j hj
  · rw [sy_up_o _ _ _ (by omega)]; exact k8.1 k hk
  · rw [sy_up_o _ _ _ (by omega)]; exact k8.2.1 k hk
  · rw [sy_up_o _ _ _ (by omega)]; exact k8.2.2.1 k hk
  · rw [sy_up_o _ _ _ (by omega)]; exact k8.2.2.2.1 k hk
  · rw [sy_up_o _ _ _ (by omega)]; exact k8.2.2.2.2.1 k hk
  · rw [sy_up_o _ _ _ (by omega)]; exact k8.2.2.2.2.2.1 k hk
  · rw [sy_up_a] at hr
    split at hr
    · cases hr
      omega
    · exact k8.2.2.2.2.2.2 o k r hr
  · by_cases h9 : x = p
    · subst h9
      exact ⟨c, hc, sy_up_e _ _ _ _, sy_up_e _ _ _ _⟩
    · rw [up_ne _ _ (by omega), up_ne _ _ (by omega)]
      exact k9.1 x hx
  · rw [sy_up_o _ _ _ (by omega), sy_up_o _ _ _ (by omega), sy_up_o _ _ _ (by omega)]
    exact k9.2 i hi
  · rw [sy_up_o _ _ _ (by omega), sy_up_o _ _ _ (by omega), sy_up_o _ _ _ (by omega), sy_up_o _ _ _ (by omega)]
    exact k10 i hi
/-- a rate is told -/
theorem inv_rate {t : Nat} {x v : Int32} (ht : gm 0 20 = nI t) (ht2 : t < 30) (h0 : 0 ≤ v.toInt) (h1 : v.toInt ≤ 100) (h : INV B m5 m6 nT nK cT cK gc q gm) : INV B m5 m6 nT nK cT cK (sy_up (sy_up (sy_up (sy_up gc 72 t (gm 0 1)) 73 t x) 74 t v) 67 3 (nI (t + 1))) q (sy_up (sy_up (sy_up (sy_up gm 22 t x) 23 t (gm 0 1)) 24 t v) 0 20 (nI (t + 1))) := by
  have hK := inv_K h
  have hT := inv_T h
  obtain ⟨hR, hI, k3, k4, k5, k6, k7, k8, k9, k10⟩ := h
  have hR1 : Rx [] (sy_up (sy_up gc 72 t (gm 0 1)) 73 t x) (sy_up (sy_up gm 22 t x) 23 t (gm 0 1)) := by
    rw [up_cm gc _ _ (by omega)]
    exact Rx_p (a := 23) (b := t) rfl (Rx_p (a := 22) (b := t) rfl hR)
  refine ⟨Rx_p (a := 0) (b := 20) rfl (Rx_p (a := 24) (b := t) rfl hR1), ?_, A3_up (by omega) (A3_up (by omega) (A3_up (by omega) (A3_up (by omega) k3))), A4_up (by omega) ⟨fun i hi => ?_, fun i hi h40 => ?_, fun i hi => ?_, fun k hk => ?_, ?_⟩, A5_c hT (by omega) (A5_c hT (by omega) (A5_c hT (by omega) (A5_c hT (by omega) (A5_m (by omega) (A5_m (by omega) (A5_m (by omega) (A5_m (by omega) k5))))))), A6_c (by omega) (A6_c (by omega) (A6_c (by omega) (A6_c (by omega) (A6_m (by omega) (A6_m (by omega) (A6_m (by omega) (A6_m (by omega) k6))))))), A7_c (by omega) (A7_c (by omega) (A7_c (by omega) (A7_c (by omega) (A7_m (by omega) (A7_m (by omega) (A7_m (by omega) (A7_m (by omega) k7))))))), k8, B9_m (by omega) (B9_m (by omega) (B9_m (by omega) (B9_m (by omega) k9))), B10_m (by omega) (B10_m (by omega) (B10_m (by omega) (B10_m (by omega) k10)))⟩
  · have hI3 : IM nT nK (sy_up (sy_up (sy_up gm 22 t x) 23 t (gm 0 1)) 24 t v) := im_o (by decide) (im_o (by decide) (im_o (by decide) hI))
    generalize sy_up (sy_up (sy_up gm 22 t x) 23 t (gm 0 1)) 24 t v = g3 at hI3 ⊢
    obtain ⟨i1, i2, i3, i4, i5, i6, i7, i8, i9, i10, i11⟩ := hI3
    unfold IM
    simp only [sy_up_o g3 20 (nI (t + 1)) (show 4 ≠ 0 by decide), sy_up_o g3 20 (nI (t + 1)) (show 18 ≠ 0 by decide), sy_up_o g3 20 (nI (t + 1)) (show 37 ≠ 0 by decide), sy_up_o g3 20 (nI (t + 1)) (show 30 ≠ 0 by decide), sy_up_o g3 20 (nI (t + 1)) (show 31 ≠ 0 by decide), sy_up_e, sy_up_k g3 0 (nI (t + 1)) (show 2 ≠ 20 by decide), sy_up_k g3 0 (nI (t + 1)) (show 28 ≠ 20 by decide), sy_up_k g3 0 (nI (t + 1)) (show 24 ≠ 20 by decide), sy_up_k g3 0 (nI (t + 1)) (show 1 ≠ 20 by decide)]
    exact ⟨i1, i2, i3, i4, ⟨t + 1, by omega, rfl⟩, i6, i7, i8, i9, i10, i11⟩
  · simp only [sy_up_o _ _ _ (show 7 ≠ 24 by decide), sy_up_o _ _ _ (show 8 ≠ 24 by decide), sy_up_o _ _ _ (show 9 ≠ 24 by decide), sy_up_o _ _ _ (show 12 ≠ 24 by decide), sy_up_o _ _ _ (show 13 ≠ 24 by decide), sy_up_o _ _ _ (show 7 ≠ 23 by decide), sy_up_o _ _ _ (show 8 ≠ 23 by decide), sy_up_o _ _ _ (show 9 ≠ 23 by decide), sy_up_o _ _ _ (show 12 ≠ 23 by decide), sy_up_o _ _ _ (show 13 ≠ 23 by decide), sy_up_o _ _ _ (show 7 ≠ 22 by decide), sy_up_o _ _ _ (show 8 ≠ 22 by decide), sy_up_o _ _ _ (show 9 ≠ 22 by decide), sy_up_o _ _ _ (show 12 ≠ 22 by decide), sy_up_o _ _ _ (show 13 ≠ 22 by decide)]
    exact k4.1 i hi
  · simp only [sy_up_o _ _ _ (show 39 ≠ 24 by decide), sy_up_o _ _ _ (show 40 ≠ 24 by decide), sy_up_o _ _ _ (show 43 ≠ 24 by decide), sy_up_o _ _ _ (show 41 ≠ 24 by decide), sy_up_o _ _ _ (show 39 ≠ 23 by decide), sy_up_o _ _ _ (show 40 ≠ 23 by decide), sy_up_o _ _ _ (show 43 ≠ 23 by decide), sy_up_o _ _ _ (show 41 ≠ 23 by decide), sy_up_o _ _ _ (show 39 ≠ 22 by decide), sy_up_o _ _ _ (show 40 ≠ 22 by decide), sy_up_o _ _ _ (show 43 ≠ 22 by decide), sy_up_o _ _ _ (show 41 ≠ 22 by decide)]
    exact k4.2.1 i hi h40
  · rw [up_ne _ _ (by omega), up_ne _ _ (by omega), up_ne _ _ (by omega)]; exact k4.2.2.1 i hi
  · rw [sy_up_a]
    split
    · exact ⟨h0, h1⟩
    · rw [up_ne _ _ (by omega), up_ne _ _ (by omega)]
      exact k4.2.2.2.1 k hk
  · rw [up_ne _ _ (by omega), up_ne _ _ (by omega), up_ne _ _ (by omega), sy_up_o _ _ _ (show 43 ≠ 24 by decide), sy_up_o _ _ _ (show 43 ≠ 23 by decide), sy_up_o _ _ _ (show 43 ≠ 22 by decide)]
    exact k4.2.2.2.2
/-- an amnesty is told -/
theorem inv_amnesty {t : Nat} {x v : Int32} (ht : gm 0 24 = nI t) (ht2 : t < 10) (h : INV B m5 m6 nT nK cT cK gc q gm) : INV B m5 m6 nT nK cT cK (sy_up (sy_up (sy_up gc 76 t x) 77 t v) 67 6 (nI (t + 1))) q (sy_up (sy_up (sy_up gm 26 t x) 27 t v) 0 24 (nI (t + 1))) := by
  have hT := inv_T h
  obtain ⟨hR, hI, k3, k4, k5, k6, k7, k8, k9, k10⟩ := h
  refine ⟨Rx_p (a := 0) (b := 24) rfl (Rx_p (a := 27) (b := t) rfl (Rx_p (a := 26) (b := t) rfl hR)), ?_, A3_up (by omega) (A3_up (by omega) (A3_up (by omega) k3)), A4_up (by omega) (A4_up (by omega) (A4_up (by omega) k4)), A5_c hT (by omega) (A5_c hT (by omega) (A5_c hT (by omega) (A5_m (by omega) (A5_m (by omega) (A5_m (by omega) k5))))), A6_c (by omega) (A6_c (by omega) (A6_c (by omega) (A6_m (by omega) (A6_m (by omega) (A6_m (by omega) k6))))), A7_c (by omega) (A7_c (by omega) (A7_c (by omega) (A7_m (by omega) (A7_m (by omega) (A7_m (by omega) k7))))), k8, B9_m (by omega) (B9_m (by omega) (B9_m (by omega) k9)), B10_m (by omega) (B10_m (by omega) (B10_m (by omega) k10))⟩
  have hI3 : IM nT nK (sy_up (sy_up gm 26 t x) 27 t v) := im_o (by decide) (im_o (by decide) hI)
  generalize sy_up (sy_up gm 26 t x) 27 t v = g3 at hI3 ⊢
  obtain ⟨i1, i2, i3, i4, i5, i6, i7, i8, i9, i10, i11⟩ := hI3
  unfold IM
  simp only [sy_up_o g3 24 (nI (t + 1)) (show 4 ≠ 0 by decide), sy_up_o g3 24 (nI (t + 1)) (show 18 ≠ 0 by decide), sy_up_o g3 24 (nI (t + 1)) (show 37 ≠ 0 by decide), sy_up_o g3 24 (nI (t + 1)) (show 30 ≠ 0 by decide), sy_up_o g3 24 (nI (t + 1)) (show 31 ≠ 0 by decide), sy_up_e, sy_up_k g3 0 (nI (t + 1)) (show 2 ≠ 24 by decide), sy_up_k g3 0 (nI (t + 1)) (show 28 ≠ 24 by decide), sy_up_k g3 0 (nI (t + 1)) (show 20 ≠ 24 by decide), sy_up_k g3 0 (nI (t + 1)) (show 1 ≠ 24 by decide)]
  exact ⟨i1, i2, i3, i4, i5, ⟨t + 1, by omega, rfl⟩, i7, i8, i9, i10, i11⟩
end MID
