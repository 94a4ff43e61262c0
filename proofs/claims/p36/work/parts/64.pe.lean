section PLG
variable {n n' nT nK cT cK i j X : Nat} {g g' : sG} {q q' : sQ} {p z V L x3 S x5 : Int32}
theorem ci_ticket (c : CI n nT nK cT cK g q) (hi : i < nT) (hs : g (100 + i) 5 = 0) (hK : nK < 40) (hX : X < 4) {pp b s : Nat} (hp : pp < 10) (hL : 1 ≤ L.toInt ∧ L.toInt ≤ 400) (hb : b < 3) (hs4 : s < 4) : CI n nT (nK + 1) cT (sCap nK cK) (kG g q nK i X (nI pp) z V L (nI b) (nI s)) (kQ g q nK i X (nI pp) z V L (nI b) (nI s)) := by
  obtain ⟨k1, k2, k3, k4, k5, k6, k7, k8⟩ := c
  obtain ⟨a1, a2, a3, a4, a5, a6, a7, a8⟩ := k1
  have hcap := cap_ok a7 a8 hK
  have hi1 : i < 100 := by omega
  generalize hG : kG g q nK i X (nI pp) z V L (nI b) (nI s) = G
  generalize hQ : kQ g q nK i X (nI pp) z V L (nI b) (nI s) = Q
  have r : ∀ o, o ≠ 200 + nK → o ≠ 62 → o ≠ 100 + i → G o = g o := fun o h1 h2 h3 => by rw [← hG]; exact kg_o ⟨h1, h2, h3⟩
  have rk : ∀ k, G (200 + nK) k = if k = 10 then g 60 8 else if k = 9 then g 60 9 else if k = 8 then L else if k = 5 then V else if k = 3 then z else if k = 6 then nI pp else if k = 2 then nI pp else if k = 0 then nI nK else if k = 11 then -1 else 0 := fun k => by rw [← hG]; exact kg_k hi1 k
  have rt : ∀ k, G (100 + i) k = if k = 10 then g 60 9 else if k = 9 then g 60 9 else if k = 8 then 4 * nI b + nI s else if k = 7 then 4 * nI b + nI s else if k = 5 then 1 else g (100 + i) k := fun k => by rw [← hG]; exact kg_t hi1 k
  have r62 : G 62 2 = nI (nK + 1) := by rw [← hG]; exact kg_62
  have qo : ∀ o, o ≠ 200 + nK → o ≠ 71 → o ≠ 100 + i → Q o = q o := fun o h1 h2 h3 => by rw [← hQ]; exact kq_o ⟨h1, h2, h3⟩
  have qk : ∀ k, Q (200 + nK) k = if k = 4 then some (80 + X) else if k = 1 then some (100 + i) else none := fun k => by rw [← hQ]; exact kq_k hi1 k
  have qt : ∀ k, Q (100 + i) k = if k = 11 then some (200 + nK) else q (100 + i) k := fun k => by rw [← hQ]; exact kq_t hi1 k
  have q71 : ∀ k, Q 71 k = if k = nK then some (200 + nK) else q 71 k := fun k => by rw [← hQ]; exact kq_71 k
  have pl : vp_in (4 * nI b + nI s) 12 := by
    have h1 : 4 * nI b + nI s = nI (4 * b + s) := by
      rw [← nI_add]
      congr 1
      exact (Int32.ofNat_mul 4 b).symm
    rw [h1]
    exact vp_in_nI (by omega) (by decide)
  refine ⟨⟨?_, a2, a3, a4, r62, by omega, by omega, by omega⟩, ?_, ?_, fun i' hi' => ?_, fun j hj => ?_, ?_, ⟨fun i' hi' => ?_, fun j hj => ?_⟩, ?_⟩
  · rw [r 61 (by omega) (by omega) (by omega)]; exact a1
  · unfold C2; rw [r 67 (by omega) (by omega) (by omega), r 74 (by omega) (by omega) (by omega)]; exact k2
  · obtain ⟨⟨d, h1, h2, h3⟩, h4⟩ := k3
    refine ⟨⟨d, h1, by rw [r 60 (by omega) (by omega) (by omega)]; exact h2, fun j hj => ?_⟩, by rw [r 60 (by omega) (by omega) (by omega)]; exact h4⟩
    by_cases h9 : j = nK
    · subst h9
      exact ⟨d, Nat.le_refl _, by rw [rk]; exact h2⟩
    · rw [r (200 + j) (by omega) (by omega) (by omega)]
      exact h3 j (by omega)
  · obtain ⟨h1, h2, h3, h4, h5⟩ := k4 i' hi'
    rw [r 90 (by omega) (by omega) (by omega)]
    by_cases h9 : i' = i
    · subst h9
      rw [rt, rt, rt, rt]
      exact ⟨h1, h2, h3, h4, h5⟩
    · rw [r (100 + i') (by omega) (by omega) (by omega)]
      exact ⟨h1, h2, h3, h4, h5⟩
  · by_cases h9 : j = nK
    · subst h9
      rw [rk, rk, rk, rk, rk, rk, rk]
      refine ⟨rfl, vp_in_nI hp (by decide), vp_in_nI (n := 0) (by decide) (by decide), hL, Or.inl rfl, ?_, ?_, Or.inl rfl⟩
      · show 0 ≤ (0 : Int32).toInt ∧ (0 : Int32).toInt ≤ (n : Int)
        have h0 : (0 : Int32).toInt = 0 := rfl
        omega
      · show 0 ≤ (0 : Int32).toInt
        decide
    · rw [r (200 + j) (by omega) (by omega) (by omega)]
      exact k5 j (by omega)
  · unfold C6
    rw [r 68 (by omega) (by omega) (by omega), r 78 (by omega) (by omega) (by omega)]
    obtain ⟨h1, h2, h3⟩ := k6
    refine ⟨h1, h2.trans ?_, h3⟩
    show _ = isum _ nK + (G (200 + nK) 14).toInt
    rw [rk]
    rw [isum_c nK (f := fun j => (G (200 + j) 14).toInt) (f' := fun j => (g (200 + j) 14).toInt) (fun j hj => by rw [r (200 + j) (by omega) (by omega) (by omega)])]
    show _ = _ + (0 : Int32).toInt
    have h0 : (0 : Int32).toInt = 0 := rfl
    omega
  · by_cases h9 : i' = i
    · subst h9
      right
      refine ⟨by rw [rt]; rfl, ⟨nK, by omega, by rw [qt]; rfl, by rw [rk]; rfl, by rw [qk]; rfl⟩, ?_, ?_⟩
      · rw [rt]; exact pl
      · rw [rt]; exact pl
    · rw [r (100 + i') (by omega) (by omega) (by omega), qo (100 + i') (by omega) (by omega) (by omega)]
      rcases k7.1 i' hi' with h1 | ⟨h1, ⟨j, h2, h3, h4, h5⟩, h6⟩
      · exact Or.inl h1
      · exact Or.inr ⟨h1, ⟨j, by omega, h3, by rw [r (200 + j) (by omega) (by omega) (by omega)]; exact h4, by rw [qo (200 + j) (by omega) (by omega) (by omega)]; exact h5⟩, h6⟩
  · by_cases h9 : j = nK
    · subst h9
      exact ⟨⟨i, hi, by rw [qk]; rfl, fun _ => by rw [qt]; rfl⟩, X, hX, by rw [qk]; rfl⟩
    · rw [r (200 + j) (by omega) (by omega) (by omega), qo (200 + j) (by omega) (by omega) (by omega)]
      obtain ⟨⟨i', h1, h2, h3⟩, h4⟩ := k7.2 j (by omega)
      refine ⟨⟨i', h1, h2, fun h5 => ?_⟩, h4⟩
      by_cases h8 : i' = i
      · subst h8
        have h6 := h3 h5
        rcases k7.1 i' h1 with ⟨-, h7, -⟩ | ⟨h7, -⟩
        · rw [h6] at h7; cases h7
        · rw [hs] at h7; cases h7
      · rw [qo (100 + i') (by omega) (by omega) (by omega)]
        exact h3 h5
  · obtain ⟨b1, b2, b3, b4, b5, b6, b7, b8⟩ := k8
    refine ⟨fun y hy => ?_, fun y hy => ?_, fun y hy => ?_, fun y hy => ?_, fun y hy => ?_, fun y hy => ?_, fun o y w hr => ?_, fun y hy => ?_⟩
    · rw [qo _ (by omega) (by omega) (by omega)]; exact b1 y hy
    · rw [q71]
      split
      · rename_i h9; rw [h9]
      · exact b2 y (by omega)
    · rw [qo _ (by omega) (by omega) (by omega)]; exact b3 y hy
    · rw [qo _ (by omega) (by omega) (by omega)]; exact b4 y hy
    · rw [qo _ (by omega) (by omega) (by omega)]; exact b5 y hy
    · rw [q71, if_neg (by omega)]; exact b6 y (by omega)
    · by_cases h1 : o = 200 + nK
      · subst h1
        rw [qk] at hr
        split at hr
        · cases hr; omega
        · split at hr
          · cases hr; omega
          · cases hr
      · by_cases h2 : o = 71
        · subst h2
          rw [q71] at hr
          split at hr
          · cases hr; omega
          · have := b7 _ _ _ hr; omega
        · by_cases h3 : o = 100 + i
          · subst h3
            rw [qt] at hr
            split at hr
            · cases hr; omega
            · have := b7 _ _ _ hr; omega
          · rw [qo o h1 h2 h3] at hr
            have := b7 _ _ _ hr
            omega
    · rw [qo _ (by omega) (by omega) (by omega)]; exact b8 y hy
theorem sf_in {g : sG} {q : sQ} {i : Nat} {x : Int32} : fX6_shelfFor g q i x = -1 ∨ ∃ s, s < 4 ∧ fX6_shelfFor g q i x = nI s := by
  have k0 : ∃ s, s < 4 ∧ (0 : Int32) = nI s := ⟨0, by decide, rfl⟩
  have k1 : ∃ s, s < 4 ∧ (1 : Int32) = nI s := ⟨1, by decide, rfl⟩
  have k2 : ∃ s, s < 4 ∧ (2 : Int32) = nI s := ⟨2, by decide, rfl⟩
  have k3 : ∃ s, s < 4 ∧ (3 : Int32) = nI s := ⟨3, by decide, rfl⟩
  unfold fX6_shelfFor
  repeat' split
  all_goals first | exact Or.inl rfl | exact Or.inr k0 | exact Or.inr k1 | exact Or.inr k2 | exact Or.inr k3
theorem ml_free {g : sG} {q : sQ} {x0 x1 x2 : Int32} (h : ¬ fX6_mayLend g q x0 x1 x2 = 0) : x1 ≤ fX5_free g q := by
  unfold fX6_mayLend at h
  by_cases h1 : x2 * g (84 + cg q x0.toNatClampNeg) 1 / 100 < x1
  · rw [if_pos h1] at h; exact absurd rfl h
  · rw [if_neg h1] at h
    by_cases h2 : fX5_free g q < x1
    · rw [if_pos h2] at h; exact absurd rfl h
    · rw [le_of_toInt]
      rw [lt_of_toInt] at h2
      omega
theorem r_in {x : Nat} {N : Int32} {m : Nat} (hx : x < m) (hm : m < 2 ^ 31) (hN : N = nI m) : 0 ≤ nI x ∧ nI x < N := by
  subst hN
  exact ⟨(nI_leI (a := 0) (by decide) (by omega)).mpr (Nat.zero_le _), (nI_ltI (by omega) hm).mpr hx⟩
theorem r_rg {x lo hi : Nat} {A B : Int32} (h1 : lo ≤ x) (h2 : x ≤ hi) (hh : hi < 2 ^ 31) (hA : A = nI lo) (hB : B = nI hi) : A ≤ nI x ∧ nI x ≤ B := by
  subst hA hB
  exact ⟨(nI_leI (by omega) (by omega)).mpr h1, (nI_leI (by omega) hh).mpr h2⟩
theorem ci_free (c : CI n nT nK cT cK g q) (hn : n ≤ 10000) : (fX5_free g q).toInt = (g 68 0).toInt - (g 68 1).toInt ∧ 0 ≤ (g 68 1).toInt ∧ (g 68 1).toInt ≤ (g 68 0).toInt ∧ 0 ≤ (g 68 2).toInt ∧ (g 68 0).toInt + (g 68 2).toInt ≤ (n * cB : Nat) := by
  obtain ⟨a1, a2, a3, a4, a5⟩ := c.2.2.2.2.2.1
  have a6 : 0 ≤ isum (fun j => (g (200 + j) 14).toInt) nK := isum_nn nK (fun k hk => (c.2.2.2.2.1 k hk).2.2.2.2.2.2.1)
  refine ⟨?_, by omega, a3, a4, a5⟩
  unfold fX5_free
  unfold cB at a5
  exact toInt_subb (by omega) (by omega)
theorem p_pledge (c : CI n nT nK cT cK g q) (hn : n ≤ 10000) {pp b l : Nat} (hp : pp < 10) (hi : i < nT) (hX : X < 4) (hb : b < 3) (hl : 1 ≤ l ∧ l ≤ 400) : fX6_pledge g q nK (nI pp) (nI i) (nI X) (nI b) (nI l) x5 = (3, 0, g, q) ∨ (g (100 + i) 5 = 0 ∧ g (100 + i) 6 = 0 ∧ (fX6_pledge g q nK (nI pp) (nI i) (nI X) (nI b) (nI l) x5).1 = 0 ∧ (fX6_pledge g q nK (nI pp) (nI i) (nI X) (nI b) (nI l) x5).2.1 = nI nK ∧ CI n nT (nK + 1) cT (sCap nK cK) (fX6_pledge g q nK (nI pp) (nI i) (nI X) (nI b) (nI l) x5).2.2.1 (fX6_pledge g q nK (nI pp) (nI i) (nI X) (nI b) (nI l) x5).2.2.2 ∧ ((fX6_pledge g q nK (nI pp) (nI i) (nI X) (nI b) (nI l) x5).2.2.1 68 0).toInt = (g 68 0).toInt - l ∧ (fX6_pledge g q nK (nI pp) (nI i) (nI X) (nI b) (nI l) x5).2.2.1 (200 + nK) 6 = nI pp) := by
  have hT := ci_T c
  have hK := ci_K c
  obtain ⟨f1, f2, f3, f4, f5⟩ := ci_free c hn
  have ic : (nI i).toNatClampNeg = i := nI_clamp (by omega)
  have Xc : (nI X).toNatClampNeg = X := nI_clamp (by omega)
  have lI : (nI l).toInt = (l : Int) := nI_toInt (by omega)
  unfold fX6_pledge
  rw [if_pos (r_in (N := 10) (m := 10) hp (by decide) rfl), if_pos (r_in hi (by omega) c.1.1), if_pos (r_in (N := 4) (m := 4) hX (by decide) rfl), if_pos (r_in (N := 3) (m := 3) hb (by decide) rfl), if_pos (r_rg (A := 1) (B := 100000) (lo := 1) (hi := 100000) hl.1 (by omega) (by decide) rfl rfl), ic, Xc]
  by_cases h5 : g (100 + i) 5 = 0
  · rw [if_pos h5]
    by_cases h6 : g (100 + i) 6 = 0
    · rw [if_pos h6]
      by_cases h7 : ¬ fX6_mayLend g q (nI pp) (nI l) (fX1_valueBy g q X (fX6_valueNow g q i)) = 0
      · rw [if_pos h7]
        by_cases h8 : fX6_shelfFor g q i (nI b) = -1
        · rw [if_pos h8]; exact Or.inl rfl
        · rw [if_neg h8]
          by_cases h9 : 40 ≤ g 62 2
          · rw [if_pos h9]; exact Or.inl rfl
          · rw [if_neg h9]
            right
            have hK4 : nK < 40 := by
              rw [c.1.2.2.2.2.1] at h9
              have := mt (nI_leI (a := 40) (b := nK) (by decide) (by omega)).mpr h9
              omega
            have hfr := ml_free h7
            rw [le_of_toInt, lI, f1] at hfr
            obtain ⟨s, hs, e9⟩ := sf_in.resolve_left h8
            rw [e9]
            have hc1 := ci_ticket (z := x5) (V := fX1_valueBy g q X (fX6_valueNow g q i)) (L := nI l) c hi h5 hK4 hX hp (by omega) hb hs
            have neg : (-(nI l)).toInt = -(l : Int) := by rw [toInt_negb (by omega), lI]
            have r68 : kG g q nK i X (nI pp) x5 (fX1_valueBy g q X (fX6_valueNow g q i)) (nI l) (nI b) (nI s) 68 = g 68 := kg_o (by omega)
            have hm := ci_move (q' := kQ g q nK i X (nI pp) x5 (fX1_valueBy g q X (fX6_valueNow g q i)) (nI l) (nI b) (nI s)) (x := -(nI l)) (Nat.le_refl n) hn (by rw [r68, neg]; omega) (by rw [r68, neg]; omega) hc1
            refine ⟨h5, h6, rfl, rfl, hm.1, ?_, ?_⟩
            · have h1 := hm.2
              rw [r68, neg] at h1
              exact h1.trans (by omega)
            · show fX5_move (kG g q nK i X (nI pp) x5 (fX1_valueBy g q X (fX6_valueNow g q i)) (nI l) (nI b) (nI s)) (kQ g q nK i X (nI pp) x5 (fX1_valueBy g q X (fX6_valueNow g q i)) (nI l) (nI b) (nI s)) (-(nI l)) (200 + nK) 6 = nI pp
              rw [cm_o (by omega), kg_k (by omega)]
              rfl
      · rw [if_neg h7]; exact Or.inl rfl
    · rw [if_neg h6]; exact Or.inl rfl
  · rw [if_neg h5]; exact Or.inl rfl
end PLG
