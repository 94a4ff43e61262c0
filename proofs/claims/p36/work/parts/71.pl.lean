section OP2
variable {n n' nT nK cT cK i j X : Nat} {g g' : sG} {q q' : sQ}
theorem p_fashion (c : CI n nT nK cT cK g q) {k h : Nat} (hk : k < 4) (hh : h ≤ 200) : (fX6_fashion g q (nI k) (nI h)).1 = 0 ∧ CI n nT nK cT cK (fX6_fashion g q (nI k) (nI h)).2.2.1 (fX6_fashion g q (nI k) (nI h)).2.2.2 := by
  unfold fX6_fashion
  rw [if_pos (r_in (N := 4) (m := 4) hk (by decide) rfl), if_pos (r_rg (A := 0) (B := 200) (lo := 0) (hi := 200) (Nat.zero_le _) hh (by decide) rfl rfl)]
  exact ⟨rfl, ci_up (by omega) c⟩
theorem p_charter (c : CI n nT nK cT cK g q) {k s m : Nat} (hk : k < 3) (hs : 10 ≤ s ∧ s ≤ 90) (hm : m ≤ 100000) : (fX6_charter g q (nI k) (nI s) (nI m)).1 = 0 ∧ CI n nT nK cT cK (fX6_charter g q (nI k) (nI s) (nI m)).2.1 (fX6_charter g q (nI k) (nI s) (nI m)).2.2 := by
  have e : (nI k).toNatClampNeg = k := nI_clamp (by omega)
  unfold fX6_charter
  rw [if_pos (r_in (N := 3) (m := 3) hk (by decide) rfl), if_pos (r_rg (A := 10) (B := 90) (lo := 10) (hi := 90) hs.1 hs.2 (by decide) rfl rfl), if_pos (r_rg (A := 0) (B := 100000) (lo := 0) (hi := 100000) (Nat.zero_le _) hm (by decide) rfl rfl), e]
  exact ⟨rfl, ci_up (by omega) (ci_up (by omega) c)⟩
theorem c2_rate {t : Nat} {d x v : Int32} (ht : g 67 3 = nI t) (ht2 : t < 30) (h0 : 0 ≤ v.toInt ∧ v.toInt ≤ 100) (c : C2 g) : C2 (sy_up (sy_up (sy_up (sy_up g 72 t d) 73 t x) 74 t v) 67 3 (nI t + 1)) := by
  obtain ⟨h1, ⟨a, h2, h3⟩, h4⟩ := c
  refine ⟨⟨t + 1, by omega, by rw [sy_up_e, nI_1]⟩, ⟨a, h2, ?_⟩, fun k hk => ?_⟩
  · rw [up_ne _ _ (by omega), up_ne _ _ (by omega), up_ne _ _ (by omega), up_ne _ _ (by omega)]; exact h3
  · rw [up_ne _ _ (by omega), sy_up_a]
    split
    · exact h0
    · rw [up_ne _ _ (by omega), up_ne _ _ (by omega)]; exact h4 k hk
theorem p_rate (c : CI n nT nK cT cK g q) {z h : Nat} (hz : z < 3) (hh : h ≤ 100) : fX6_rate g q (nI z) (nI h) = (3, 0, g, q) ∨ ((fX6_rate g q (nI z) (nI h)).1 = 0 ∧ CI n nT nK cT cK (fX6_rate g q (nI z) (nI h)).2.2.1 (fX6_rate g q (nI z) (nI h)).2.2.2) := by
  have hT := ci_T c
  have hI : (nI h).toInt = (h : Int) := nI_toInt (by omega)
  unfold fX6_rate
  rw [if_pos (r_in (N := 3) (m := 3) hz (by decide) rfl), if_pos (r_rg (A := 0) (B := 100) (lo := 0) (hi := 100) (Nat.zero_le _) hh (by decide) rfl rfl)]
  by_cases h1 : ¬ fX2_takesRate g q = 0
  · rw [if_pos h1]
    right
    refine ⟨rfl, ?_⟩
    show CI n nT nK cT cK (fX2_addRate g q (g 60 9) (nI z) (nI h)) q
    unfold fX2_addRate
    rw [if_neg h1]
    obtain ⟨k1, k2, k3, k4, k5, k6, k7, k8⟩ := c
    obtain ⟨r, r1, r2⟩ := k2.1
    have r3 : r < 30 := by
      have h2 : ¬ 30 ≤ g 67 3 := fun z => by apply h1; unfold fX2_takesRate; rw [if_pos z]
      rw [r2] at h2
      have := mt (nI_leI (a := 30) (b := r) (by decide) (by omega)).mpr h2
      omega
    have rc : (g 67 3).toNatClampNeg = r := by rw [r2]; exact nI_clamp (by omega)
    rw [rc, r2]
    exact ⟨c1_up (by omega) (c1_up (by omega) (c1_up (by omega) (c1_up (by omega) k1))), c2_rate r2 r3 (by omega) k2, c3_up (by omega) (c3_up (by omega) (c3_up (by omega) (c3_up (by omega) k3))), c4_up hT (by omega) (c4_up hT (by omega) (c4_up hT (by omega) (c4_up hT (by omega) k4))), c5_up (by omega) (c5_up (by omega) (c5_up (by omega) (c5_up (by omega) k5))), c6_up (by omega) (c6_up (by omega) (c6_up (by omega) (c6_up (by omega) k6))), c7_up hT (by omega) (c7_up hT (by omega) (c7_up hT (by omega) (c7_up hT (by omega) k7))), k8⟩
  · rw [if_neg h1]; exact Or.inl rfl
theorem p_amnesty (c : CI n nT nK cT cK g q) {x y : Nat} (hx : x ≤ 5000) (hxy : x ≤ y) (hy : y ≤ 5000) : fX6_amnesty g q (nI x) (nI y) = (3, 0, g, q) ∨ ((fX6_amnesty g q (nI x) (nI y)).1 = 0 ∧ CI n nT nK cT cK (fX6_amnesty g q (nI x) (nI y)).2.2.1 (fX6_amnesty g q (nI x) (nI y)).2.2.2) := by
  have hT := ci_T c
  unfold fX6_amnesty
  rw [if_pos (r_rg (A := 0) (B := 5000) (lo := 0) (hi := 5000) (Nat.zero_le _) hx (by decide) rfl rfl), if_pos (r_rg (A := nI x) (B := 5000) (lo := x) (hi := 5000) hxy hy (by decide) rfl rfl)]
  by_cases h1 : ¬ fX2_takesAmnesty g q = 0
  · rw [if_pos h1]
    right
    refine ⟨rfl, ?_⟩
    show CI n nT nK cT cK (fX2_addAmnesty g q (nI x) (nI y)) q
    unfold fX2_addAmnesty
    rw [if_neg h1]
    obtain ⟨k1, k2, k3, k4, k5, k6, k7, k8⟩ := c
    obtain ⟨r, r1, r2⟩ := k2.2.1
    have r3 : r < 10 := by
      have h2 : ¬ 10 ≤ g 67 6 := fun z => by apply h1; unfold fX2_takesAmnesty; rw [if_pos z]
      rw [r2] at h2
      have := mt (nI_leI (a := 10) (b := r) (by decide) (by omega)).mpr h2
      omega
    have rc : (g 67 6).toNatClampNeg = r := by rw [r2]; exact nI_clamp (by omega)
    rw [rc, r2]
    refine ⟨c1_up (by omega) (c1_up (by omega) (c1_up (by omega) k1)), ?_, c3_up (by omega) (c3_up (by omega) (c3_up (by omega) k3)), c4_up hT (by omega) (c4_up hT (by omega) (c4_up hT (by omega) k4)), c5_up (by omega) (c5_up (by omega) (c5_up (by omega) k5)), c6_up (by omega) (c6_up (by omega) (c6_up (by omega) k6)), c7_up hT (by omega) (c7_up hT (by omega) (c7_up hT (by omega) k7)), k8⟩
    obtain ⟨⟨r', h2, h3⟩, -, h4⟩ := k2
    refine ⟨⟨r', h2, ?_⟩, ⟨r + 1, by omega, by rw [sy_up_e, nI_1]⟩, fun k hk => ?_⟩
    · rw [up_ne _ _ (by omega), up_ne _ _ (by omega), up_ne _ _ (by omega)]; exact h3
    · rw [up_ne _ _ (by omega), up_ne _ _ (by omega), up_ne _ _ (by omega)]; exact h4 k hk
  · rw [if_neg h1]; exact Or.inl rfl
theorem p_term (c : CI n nT nK cT cK g q) {d : Nat} (hd : 14 ≤ d ∧ d ≤ 1000) : (fX6_term g q (nI d)).1 = 0 ∧ 14 ≤ (fX6_term g q (nI d)).2.1.toInt ∧ CI n nT nK cT cK (fX6_term g q (nI d)).2.2.1 (fX6_term g q (nI d)).2.2.2 := by
  have hT := ci_T c
  have dI : (nI d).toInt = (d : Int) := nI_toInt (by omega)
  unfold fX6_term
  rw [if_pos (r_rg (A := 14) (B := 1000) (lo := 14) (hi := 1000) hd.1 hd.2 (by decide) rfl rfl)]
  obtain ⟨k1, k2, k3, k4, k5, k6, k7, k8⟩ := c
  refine ⟨rfl, k3.2, c1_up (by omega) k1, c2_up (by omega) k2, ?_, c4_up hT (by omega) k4, c5_up (by omega) k5, c6_up (by omega) k6, c7_up hT (by omega) k7, k8⟩
  show C3 nK (sy_up g 60 8 (nI d))
  obtain ⟨⟨d', h1, h2, h3⟩, h4⟩ := k3
  exact ⟨⟨d', h1, by rw [up_ne _ _ (by omega)]; exact h2, fun j hj => by rw [up_ne _ _ (by omega)]; exact h3 j hj⟩, by rw [sy_up_e, dI]; omega⟩
theorem p_deposit (c : CI n nT nK cT cK g q) (hn : n + 1 ≤ 900) {a : Nat} (ha : 1 ≤ a ∧ a ≤ 100000) : (fX6_deposit g q (nI a)).1 = 0 ∧ (fX6_deposit g q (nI a)).2.1.toInt = (g 68 0).toInt + a ∧ CI (n + 1) nT nK cT cK (fX6_deposit g q (nI a)).2.2.1 (fX6_deposit g q (nI a)).2.2.2 := by
  obtain ⟨-, f2, f3, f4, f5⟩ := ci_free c (by omega)
  have aI : (nI a).toInt = (a : Int) := nI_toInt (by omega)
  have k : (100000000 : Int32).toInt = 100000000 := rfl
  have hm := ci_move (n' := n + 1) (q' := q) (x := nI a) (by omega) (by omega) (by rw [aI]; omega) (by rw [aI]; unfold cB at *; omega) c
  unfold fX6_deposit
  rw [if_pos (r_rg (A := 1) (B := 100000) (lo := 1) (hi := 100000) ha.1 ha.2 (by decide) rfl rfl), if_neg (by rw [lt_of_toInt, toInt_subb (by rw [k, aI]; omega) (by rw [k, aI]; omega), k, aI]; unfold cB at *; omega)]
  exact ⟨rfl, by show (fX5_move g q (nI a) 68 0).toInt = _; rw [hm.2, aI], hm.1⟩
theorem p_withdraw (c : CI n nT nK cT cK g q) (hn : n ≤ 10000) {a : Nat} (ha : 1 ≤ a ∧ a ≤ 100000) : fX6_withdraw g q (nI a) = (3, 0, g, q) ∨ ((fX6_withdraw g q (nI a)).1 = 0 ∧ CI n nT nK cT cK (fX6_withdraw g q (nI a)).2.2.1 (fX6_withdraw g q (nI a)).2.2.2 ∧ ((fX6_withdraw g q (nI a)).2.2.1 68 0).toInt = (g 68 0).toInt - a ∧ (fX6_withdraw g q (nI a)).2.2.1 60 9 = g 60 9) := by
  obtain ⟨f1, f2, f3, f4, f5⟩ := ci_free c (by omega)
  have aI : (nI a).toInt = (a : Int) := nI_toInt (by omega)
  have neg : (-(nI a)).toInt = -(a : Int) := by rw [toInt_negb (by omega), aI]
  unfold fX6_withdraw
  rw [if_pos (r_rg (A := 1) (B := 100000) (lo := 1) (hi := 100000) ha.1 ha.2 (by decide) rfl rfl)]
  by_cases h : fX5_free g q < nI a
  · rw [if_pos h]; exact Or.inl rfl
  · rw [if_neg h]
    rw [lt_of_toInt, f1, aI] at h
    have hm := ci_move (q' := q) (x := -(nI a)) (Nat.le_refl n) (by omega) (by rw [neg]; omega) (by rw [neg]; omega) c
    refine Or.inr ⟨rfl, hm.1, ?_, ?_⟩
    · show (fX5_move g q (-(nI a)) 68 0).toInt = _
      rw [hm.2, neg]; omega
    · show fX5_move g q (-(nI a)) 60 9 = _
      rw [cm_o (by omega)]
/-! what is asked -/
theorem a_T (c : CI n nT nK cT cK g q) (hi : i < nT) : fX6_thingOf g q (nI i) 2 = (0, g (100 + i) 4, g, q) ∧ fX6_thingOf g q (nI i) 3 = (0, (if g (100 + i) 5 = 0 then 0 else 1), g, q) ∧ fX6_thingOf g q (nI i) 4 = (0, g (100 + i) 7, g, q) ∧ fX6_thingOf g q (nI i) 5 = (0, fX3_openTicketNumber g q i, g, q) ∧ fX6_thingOf g q (nI i) 6 = (0, (if g (100 + i) 6 = 0 then 0 else 1), g, q) := by
  obtain ⟨e1, e2⟩ := iT c hi
  unfold fX6_thingOf
  rw [if_pos e1, if_pos e1, if_pos e1, if_pos e1, if_pos e1, e2]
  refine ⟨rfl, ?_, rfl, rfl, ?_⟩
  · show (if g (100 + i) 5 = 0 then ((0 : Int32), (0 : Int32), g, q) else (0, 1, g, q)) = _
    split <;> rfl
  · show (if g (100 + i) 6 = 0 then ((0 : Int32), (0 : Int32), g, q) else (0, 1, g, q)) = _
    split <;> rfl
theorem a_Tno (c : CI n nT nK cT cK g q) (w : Int32) : fX6_thingOf g q (nI nT) w = (1, 0, g, q) := by
  have hT := ci_T c
  unfold fX6_thingOf
  rw [c.1.1, if_neg (fun z => by have := (nI_ltI (a := nT) (b := nT) (by omega) (by omega)).mp z.2; omega)]
theorem a_Kno (c : CI n nT nK cT cK g q) (w : Int32) : fX6_ticketOf g q (nI nK) w = (1, 0, g, q) := by
  have hK := ci_K c
  unfold fX6_ticketOf
  rw [c.1.2.2.2.2.1, if_neg (fun z => by have := (nI_ltI (a := nK) (b := nK) (by omega) (by omega)).mp z.2; omega)]
theorem a_K (c : CI n nT nK cT cK g q) (hj : j < nK) : fX6_ticketOf g q (nI j) 0 = (0, g (200 + j) 7, g, q) ∧ fX6_ticketOf g q (nI j) 1 = (0, nI (tg q j), g, q) ∧ fX6_ticketOf g q (nI j) 2 = (0, g (200 + j) 8, g, q) ∧ fX6_ticketOf g q (nI j) 3 = (0, fX6_interestNow g q j, g, q) ∧ fX6_ticketOf g q (nI j) 4 = (0, g (200 + j) 6, g, q) ∧ fX6_ticketOf g q (nI j) 5 = (0, g (200 + j) 9, g, q) ∧ fX6_ticketOf g q (nI j) 6 = (0, fX4_lastDay g q j, g, q) ∧ fX6_ticketOf g q (nI j) 7 = (0, g (200 + j) 14, g, q) ∧ fX6_ticketOf g q (nI j) 8 = (0, barI g q j, g, q) ∧ fX6_ticketOf g q (nI j) 9 = (0, g (200 + j) 13, g, q) := by
  obtain ⟨e1, e2⟩ := jK c hj
  have e3 := (c.2.2.2.1 (tg q j) (ci_tg c hj).2).1
  unfold fX6_ticketOf
  rw [if_pos e1, if_pos e1, if_pos e1, if_pos e1, if_pos e1, if_pos e1, if_pos e1, if_pos e1, if_pos e1, if_pos e1, e2]
  refine ⟨rfl, ?_, rfl, rfl, rfl, rfl, rfl, rfl, ?_, rfl⟩
  · rw [← e3]; rfl
  · show (if fX4_hasNotice g q j = 0 then (if fX4_isBarredByList g q j = 0 then ((0 : Int32), (0 : Int32), g, q) else (0, 2, g, q)) else (if fX4_isBarredByList g q j = 0 then (0, 1, g, q) else (0, 3, g, q))) = _
    unfold barI
    split
    · split <;> rfl
    · split <;> rfl
theorem a_N (c : CI n nT nK cT cK g q) (hj : j < nK) : fX6_interestAnew g q (nI j) = (0, fX6_interestNow g q j, g, q) := by
  obtain ⟨e1, e2⟩ := jK c hj
  have h := in_anew c hj
  unfold fX6_interestAnew
  rw [if_pos e1, e2, ← h]
  split <;> rfl
theorem a_M : fX6_money g q 0 = (0, g 68 0, g, q) ∧ fX6_money g q 1 = (0, g 68 1, g, q) ∧ fX6_money g q 2 = (0, fX5_free g q, g, q) ∧ fX6_money g q 3 = (0, g 68 2, g, q) := ⟨rfl, rfl, rfl, rfl⟩
theorem a_MA (c : CI n nT nK cT cK g q) : fX6_moneyAnew g q = g 68 0 := by
  obtain ⟨⟨m, m1, m2, m3⟩, -⟩ := c.2.2.2.2.2.1
  unfold fX6_moneyAnew fX5_sumOfMoves
  rw [m2, nI_clamp (by omega), lX5_msum, m3]
theorem a_B {b s : Nat} (hb : b < 3) (hs : s < 4) : fX6_bears g q (nI b) (nI s) = (0, fX6_roomAtN g q (nI (4 * b + s)), g, q) := by
  unfold fX6_bears
  rw [if_pos (r_in (N := 3) (m := 3) hb (by decide) rfl), if_pos (r_in (N := 4) (m := 4) hs (by decide) rfl), pl_e]
end OP2
