section OFF
variable {n n' nT nK cT cK i j X : Nat} {g g' : sG} {q q' : sQ}
/-- the least price, as a number -/
def rsv (g : sG) (q : sQ) (j : Nat) : Int := if g (200 + j) 13 = 0 then (g (200 + j) 8).toInt + (fX6_interestNow g q j).toInt else if g (200 + j) 13 = 1 then (g (200 + j) 8).toInt else 0
theorem rsv_e (c : CI n nT nK cT cK g q) (hj : j < nK) : (fX6_reserveOf g q j (fX6_interestNow g q j)).toInt = rsv g q j := by
  obtain ⟨l1, l2⟩ := in_bd c hj
  obtain ⟨-, -, -, ⟨k8, k9⟩, -⟩ := c.2.2.2.2.1 j hj
  unfold fX6_reserveOf rsv
  split
  · exact toInt_addb (by omega) (by omega)
  · split
    · rfl
    · rfl
theorem p_offer (c : CI n nT nK cT cK g q) (hn : n + 1 ≤ 10000) (hj : j < nK) {m : Nat} (hm : m ≤ 4000) : fX6_offer g q (nI j) (nI m) = (3, 0, g, q) ∨ (g (200 + j) 7 = 0 ∧ barI g q j = 0 ∧ ¬ g 60 9 ≤ fX4_lastDay g q j ∧ (fX6_offer g q (nI j) (nI m)).1 = 0 ∧ CI (n + 1) nT nK cT cK (fX6_offer g q (nI j) (nI m)).2.2.1 (fX6_offer g q (nI j) (nI m)).2.2.2 ∧ (((m : Int) < rsv g q j ∧ (fX6_offer g q (nI j) (nI m)).2.1 = -2147483648 ∧ ((fX6_offer g q (nI j) (nI m)).2.2.1 (200 + j) 13).toInt = (g (200 + j) 13).toInt + 1 ∧ (fX6_offer g q (nI j) (nI m)).2.2.1 68 0 = g 68 0) ∨ (rsv g q j ≤ m ∧ (fX6_offer g q (nI j) (nI m)).2.1.toInt = m - (g (200 + j) 8).toInt - (fX6_interestNow g q j).toInt - ((m * 5 / 100 : Nat) : Int) ∧ (fX6_offer g q (nI j) (nI m)).2.2.1 (200 + j) 7 = 2 ∧ ((fX6_offer g q (nI j) (nI m)).2.2.1 68 0).toInt = (g 68 0).toInt + m ∧ ((0 ≤ (fX6_offer g q (nI j) (nI m)).2.1.toInt ∧ ((fX6_offer g q (nI j) (nI m)).2.2.1 68 1).toInt = (g 68 1).toInt + (fX6_offer g q (nI j) (nI m)).2.1.toInt ∧ (fX6_offer g q (nI j) (nI m)).2.2.1 (200 + j) 14 = (fX6_offer g q (nI j) (nI m)).2.1) ∨ ((fX6_offer g q (nI j) (nI m)).2.1.toInt < 0 ∧ (fX6_offer g q (nI j) (nI m)).2.2.1 68 1 = g 68 1 ∧ (fX6_offer g q (nI j) (nI m)).2.2.1 (200 + j) 14 = 0))))) := by
  have hT := ci_T c
  obtain ⟨e1, e2⟩ := jK c hj
  obtain ⟨t1, t2⟩ := ci_tg c hj
  obtain ⟨l1, l2⟩ := in_bd c hj
  obtain ⟨-, f2, f3, f4, f5⟩ := ci_free c (by omega)
  obtain ⟨-, k6, -, ⟨k8, k9⟩, -, ⟨k10, k11⟩, k14, k2⟩ := c.2.2.2.2.1 j hj
  have mI : (nI m).toInt = (m : Int) := nI_toInt (by omega)
  have hf : (nI m * 5 / 100).toInt = ((m * 5 / 100 : Nat) : Int) := by
    have h5 : (5 : Int32).toInt = 5 := rfl
    have h100 : (100 : Int32).toInt = 100 := rfl
    have h1 : (nI m * 5).toInt = (m : Int) * 5 := by rw [toInt_mulb (by rw [mI, h5]; omega) (by rw [mI, h5]; omega), mI, h5]
    rw [toInt_divb (by rw [h1]; omega) (by rw [h100]; omega), h1, h100]
    omega
  have hr : (nI m - g (200 + j) 8 - fX6_interestNow g q j - nI m * 5 / 100).toInt = m - (g (200 + j) 8).toInt - (fX6_interestNow g q j).toInt - ((m * 5 / 100 : Nat) : Int) := by
    have h1 : (nI m - g (200 + j) 8).toInt = m - (g (200 + j) 8).toInt := by rw [toInt_subb (by rw [mI]; omega) (by rw [mI]; omega), mI]
    have h2 : (nI m - g (200 + j) 8 - fX6_interestNow g q j).toInt = m - (g (200 + j) 8).toInt - (fX6_interestNow g q j).toInt := by rw [toInt_subb (by rw [h1]; omega) (by rw [h1]; omega), h1]
    rw [toInt_subb (by rw [h2, hf]; omega) (by rw [h2, hf]; omega), h2, hf]
  have hrg := r_rg (A := 0) (B := 100000) (x := m) (lo := 0) (hi := 100000) (Nat.zero_le _) (by omega) (by decide) rfl rfl
  have hre := rsv_e c hj
  unfold fX6_offer
  rw [if_pos e1, if_pos hrg, e2]
  by_cases h1 : ¬ fX6_mayBeOffered g q j = 0
  · rw [if_pos h1]
    right
    have h7 : g (200 + j) 7 = 0 := by
      by_cases z : g (200 + j) 7 = 0
      · exact z
      · exfalso; apply h1; unfold fX6_mayBeOffered; rw [if_neg z]
    have h9 : ¬ g 60 9 ≤ fX4_lastDay g q j := fun z => by apply h1; unfold fX6_mayBeOffered; rw [if_pos h7, if_pos z]
    have hb : fX4_isBarred g q j = 0 := by
      by_cases z : fX4_isBarred g q j = 0
      · exact z
      · exfalso; apply h1; unfold fX6_mayBeOffered; rw [if_pos h7, if_neg h9, if_neg z]
    refine ⟨h7, bar_no.mp hb, h9, ?_⟩
    by_cases hres : fX6_reserveOf g q j (fX6_interestNow g q j) ≤ nI m
    · rw [if_pos hres]
      rw [le_of_toInt, hre, mI] at hres
      have cc := ci_close (v := 2) hj h7 (Or.inr (Or.inl rfl)) c
      have r68 : ∀ k, (fX4_close g q j 2).1 68 k = g 68 k := fun k => cl_o (by omega) (by omega)
      have hmv := ci_move (n' := n + 1) (q' := (fX4_close g q j 2).2) (x := nI m) (by omega) hn (by rw [r68, r68, mI]; omega) (by rw [r68, r68, mI]; unfold cB at *; omega) cc
      have s0 : g (200 + j) 14 = 0 := by
        rcases k2 with k2 | k2
        · exact k2
        · rw [h7] at k2; cases k2
      have m7 : fX5_move (fX4_close g q j 2).1 (fX4_close g q j 2).2 (nI m) (200 + j) 7 = 2 := by rw [cm_o (by omega)]; exact cl_7 (by omega)
      have m14 : fX5_move (fX4_close g q j 2).1 (fX4_close g q j 2).2 (nI m) (200 + j) 14 = 0 := by rw [cm_o (by omega), cl_o (by omega) (by omega)]; exact s0
      have m68 : fX5_move (fX4_close g q j 2).1 (fX4_close g q j 2).2 (nI m) 68 1 = g 68 1 := by rw [cm_k (by omega), r68]
      have m0 : (fX5_move (fX4_close g q j 2).1 (fX4_close g q j 2).2 (nI m) 68 0).toInt = (g 68 0).toInt + m := by rw [hmv.2, r68, mI]
      have hc := hmv.1
      generalize fX5_move (fX4_close g q j 2).1 (fX4_close g q j 2).2 (nI m) = M at hc m7 m14 m68 m0 ⊢
      have hx : xg q j < 4 := (iq_xg (ci_IQ c) hj).2
      have hc2 := ci_up (o := 80 + xg q j) (k := 2) (v := M (80 + xg q j) 2 + (nI m - M (200 + j) 5)) (by omega) hc
      have q7 : sy_up M (80 + xg q j) 2 (M (80 + xg q j) 2 + (nI m - M (200 + j) 5)) (200 + j) 7 = 2 := by rw [up_ne _ _ (by omega)]; exact m7
      have q14 : sy_up M (80 + xg q j) 2 (M (80 + xg q j) 2 + (nI m - M (200 + j) 5)) (200 + j) 14 = 0 := by rw [up_ne _ _ (by omega)]; exact m14
      have q68 : ∀ k, sy_up M (80 + xg q j) 2 (M (80 + xg q j) 2 + (nI m - M (200 + j) 5)) 68 k = M 68 k := fun k => by rw [up_ne _ _ (by omega)]
      generalize sy_up M (80 + xg q j) 2 (M (80 + xg q j) 2 + (nI m - M (200 + j) 5)) = M2 at hc2 q7 q14 q68 ⊢
      generalize nI m - g (200 + j) 8 - fX6_interestNow g q j - nI m * 5 / 100 = R at hr ⊢
      have z1 : (0 : Int32).toInt = 0 := rfl
      by_cases hR : 0 ≤ R
      · rw [if_pos hR]
        rw [le_of_toInt, z1] at hR
        have hk : (M2 68 1).toInt + R.toInt ≤ (M2 68 0).toInt := by rw [q68, q68, m68, m0]; omega
        have s1 := ci_sell (t := sy_up M2 (200 + j) 14 R 60 9) hc2 hn hj q14 q7 hR hk
        have e8 : sy_up (sy_up M2 (200 + j) 14 R) (200 + j) 15 (sy_up M2 (200 + j) 14 R 60 9) 68 1 = M2 68 1 := by rw [up_ne _ _ (by omega), up_ne _ _ (by omega)]
        rw [e8]
        generalize hF : sy_up (sy_up (sy_up M2 (200 + j) 14 R) (200 + j) 15 (sy_up M2 (200 + j) 14 R 60 9)) 68 1 (M2 68 1 + R) = FF at s1 ⊢
        refine ⟨rfl, s1.1, Or.inr ⟨hres, hr, ?_, ?_, Or.inl ⟨hR, ?_, ?_⟩⟩⟩
        · dsimp only
          rw [← hF, up_ne _ _ (by omega), up_ne _ _ (by omega), up_ne _ _ (by omega)]; exact q7
        · dsimp only
          rw [← hF, up_ne _ _ (by omega), up_ne _ _ (by omega), up_ne _ _ (by omega), q68, m0]
        · dsimp only
          rw [← hF, sy_up_e, s1.2, q68, m68]
        · dsimp only
          rw [← hF, up_ne _ _ (by omega), up_ne _ _ (by omega), sy_up_e]
      · rw [if_neg hR]
        rw [le_of_toInt, z1] at hR
        have hc3 := ci_up (o := 80 + xg q j) (k := 1) (v := M2 (80 + xg q j) 1 - R) (by omega) hc2
        generalize hF : sy_up M2 (80 + xg q j) 1 (M2 (80 + xg q j) 1 - R) = FF at hc3 ⊢
        refine ⟨rfl, hc3, Or.inr ⟨hres, hr, ?_, ?_, Or.inr ⟨by show R.toInt < 0; omega, ?_, ?_⟩⟩⟩
        · dsimp only
          rw [← hF, up_ne _ _ (by omega)]; exact q7
        · dsimp only
          rw [← hF, up_ne _ _ (by omega), q68, m0]
        · dsimp only
          rw [← hF, up_ne _ _ (by omega), q68, m68]
        · dsimp only
          rw [← hF, up_ne _ _ (by omega), q14]
    · rw [if_neg hres]
      rw [le_of_toInt, hre, mI] at hres
      have o1 : (1 : Int32).toInt = 1 := rfl
      have v1 : (g (200 + j) 13 + 1).toInt = (g (200 + j) 13).toInt + 1 := by rw [toInt_addb (by omega) (by omega), o1]
      refine ⟨rfl, ci_tk (n' := n + 1) (by omega) (Or.inr (Or.inr (Or.inr ⟨rfl, by omega⟩))) c, Or.inl ⟨by omega, rfl, ?_, ?_⟩⟩
      · show (sy_up g (200 + j) 13 _ (200 + j) 13).toInt = _
        rw [sy_up_e, v1]
      · show sy_up g (200 + j) 13 _ 68 0 = _
        rw [up_ne _ _ (by omega)]
  · rw [if_neg h1]; exact Or.inl rfl
end OFF
