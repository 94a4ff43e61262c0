section OPM
variable {B nT nK cT cK : Nat} {gc : sG} {q : sQ} {gm : sG} {q' : sQ}
def nStep (g : sG) (k : Nat) : sG := if g 41 k = -1 then g else if g 41 k + 28 = g 0 1 then sy_up (sy_up g 33 k (g 42 k)) 41 k (-1) else g
def sStep (g : sG) (k : Nat) : sG := if g 43 k ≤ 0 then g else if g 44 k + 1001 = g 0 1 then sy_up (sy_up (sy_up (sy_up g 0 44 (g 0 44 - g 43 k)) 0 45 (g 0 45 - g 43 k)) 0 46 (g 0 46 + g 43 k)) 43 k 0 else g
def nLoop (g : sG) : Nat → sG
  | 0 => g
  | k + 1 => nStep (nLoop g k) k
def sLoop (g : sG) : Nat → sG
  | 0 => g
  | k + 1 => sStep (sLoop g k) k
theorem sStep_o (g : sG) {i o k : Nat} (h : o ≠ 43 ∧ (o ≠ 0 ∨ k < 44)) : sStep g i o k = g o k := by
  unfold sStep
  split
  · rfl
  · split
    · rw [up_ne _ _ (by omega), up_ne _ _ (by omega), up_ne _ _ (by omega), up_ne _ _ (by omega)]
    · rfl
theorem nStep_o (g : sG) {i o k : Nat} (h : o ≠ 33 ∧ o ≠ 41) : nStep g i o k = g o k := by
  unfold nStep
  split
  · rfl
  · split
    · rw [up_ne _ _ (by omega), up_ne _ _ (by omega)]
    · rfl
theorem ns_comm (g : sG) (i k : Nat) : nStep (sStep g i) k = sStep (nStep g k) i := by
  have e1 : nStep (sStep g i) k = if g 41 k = -1 then sStep g i else if g 41 k + 28 = g 0 1 then sy_up (sy_up (sStep g i) 33 k (g 42 k)) 41 k (-1) else sStep g i := by
    rw [nStep, sStep_o g (by omega), sStep_o g (by omega), sStep_o g (by omega)]
  rw [e1]
  unfold nStep
  split
  · rfl
  · split
    · unfold sStep
      rw [up_ne _ _ (show 43 ≠ 41 ∨ i ≠ k by omega), up_ne _ _ (show 43 ≠ 33 ∨ i ≠ k by omega), up_ne _ _ (show 44 ≠ 41 ∨ i ≠ k by omega), up_ne _ _ (show 44 ≠ 33 ∨ i ≠ k by omega), up_ne _ _ (show 0 ≠ 41 ∨ 1 ≠ k by omega), up_ne _ _ (show 0 ≠ 33 ∨ 1 ≠ k by omega), up_ne _ _ (show 0 ≠ 41 ∨ 44 ≠ k by omega), up_ne _ _ (show 0 ≠ 33 ∨ 44 ≠ k by omega), up_ne _ _ (show 0 ≠ 41 ∨ 45 ≠ k by omega), up_ne _ _ (show 0 ≠ 33 ∨ 45 ≠ k by omega), up_ne _ _ (show 0 ≠ 41 ∨ 46 ≠ k by omega), up_ne _ _ (show 0 ≠ 33 ∨ 46 ≠ k by omega)]
      split
      · rfl
      · split
        · rw [up_cm _ _ _ (show 43 ≠ 33 ∨ _ by omega), up_cm _ _ _ (show 0 ≠ 33 ∨ 46 ≠ k by omega), up_cm _ _ _ (show 0 ≠ 33 ∨ 45 ≠ k by omega), up_cm _ _ _ (show 0 ≠ 33 ∨ 44 ≠ k by omega), up_cm _ _ _ (show 43 ≠ 41 ∨ _ by omega), up_cm _ _ _ (show 0 ≠ 41 ∨ 46 ≠ k by omega), up_cm _ _ _ (show 0 ≠ 41 ∨ 45 ≠ k by omega), up_cm _ _ _ (show 0 ≠ 41 ∨ 44 ≠ k by omega)]
        · rfl
    · rfl
theorem ns_loop (g : sG) (k : Nat) : ∀ n, nStep (sLoop g n) k = sLoop (nStep g k) n
  | 0 => rfl
  | n + 1 => by
    show nStep (sStep (sLoop g n) n) k = sStep (sLoop (nStep g k) n) n
    rw [ns_comm, ns_loop g k n]
theorem passB_step (g : sG) (k : Nat) : lX7_passB g q (k + 1) = sStep (nStep (lX7_passB g q k) k) k := by
  have e : lX7_passB g q (k + 1) = if ((lX7_passB g q k) 41 k) = (-1) then sStep (lX7_passB g q k) k else if (((lX7_passB g q k) 41 k) + 28) = ((lX7_passB g q k) 0 1) then sStep (sy_up (sy_up (lX7_passB g q k) 33 k ((lX7_passB g q k) 42 k)) 41 k (-1)) k else sStep (lX7_passB g q k) k := by
    rw [lX7_passB]
    generalize lX7_passB g q k = g1
    split
    · rfl
    · split
      · unfold sStep
        rw [up_ne _ _ (show 43 ≠ 41 ∨ k ≠ k by omega), up_ne _ _ (show 43 ≠ 33 ∨ k ≠ k by omega), up_ne _ _ (show 44 ≠ 41 ∨ k ≠ k by omega), up_ne _ _ (show 44 ≠ 33 ∨ k ≠ k by omega), up_ne _ _ (show 0 ≠ 41 ∨ 1 ≠ k by omega), up_ne _ _ (show 0 ≠ 33 ∨ 1 ≠ k by omega), up_ne _ _ (show 0 ≠ 41 ∨ 44 ≠ k by omega), up_ne _ _ (show 0 ≠ 33 ∨ 44 ≠ k by omega), up_ne _ _ (show 0 ≠ 41 ∨ 45 ≠ k by omega), up_ne _ _ (show 0 ≠ 33 ∨ 45 ≠ k by omega), up_ne _ _ (show 0 ≠ 41 ∨ 46 ≠ k by omega), up_ne _ _ (show 0 ≠ 33 ∨ 46 ≠ k by omega)]
      · rfl
  rw [e]
  unfold nStep
  split
  · rfl
  · split <;> rfl
theorem passB_loops (g : sG) : ∀ n, lX7_passB g q n = sLoop (nLoop (lX7_passA g q (g 0 2).toNatClampNeg) n) n
  | 0 => rfl
  | n + 1 => by
    rw [passB_step, passB_loops g n, ns_loop]
    rfl
theorem A6_eq {nK m m' : Nat} {gc gm : sG} (hm : ∀ j, j < nK → (j < m ↔ j < m')) (h : A6 m nK gc gm) : A6 m' nK gc gm := by
  intro j hj
  have e : (if j < m then (0 : Nat) else 1) = (if j < m' then 0 else 1) := by simp only [hm j hj]
  rw [← e]
  exact h j hj
theorem A7_eq {nK m m' : Nat} {gc gm : sG} (hm : ∀ j, j < nK → (j < m ↔ j < m')) (h : A7 m nK gc gm) : A7 m' nK gc gm := by
  intro j hj
  have e : (if j < m then (0 : Nat) else 1) = (if j < m' then 0 else 1) := by simp only [hm j hj]
  rw [← e]
  exact h j hj
/-- one ticket's notice is looked at -/
theorem inv_nstep {k m6 D : Nat} (hk : k < nK) (hD : gm 0 1 = nI D) (hD5 : D ≤ 5000) (h : INV B k m6 nT nK cT cK gc q gm) : INV B (k + 1) m6 nT nK cT cK (fX4_endNoticeOn gc q' k (gc 60 9)) q (nStep gm k) := by
  have hK := inv_K h
  have e60 : gc 60 9 = gm 0 1 := rd h.1 (a := 0) (b := 1) rfl
  -- the others
  have up6 : ∀ {gc gm : sG}, INV B k m6 nT nK cT cK gc q gm → ((gm 41 k = -1 ∧ gc (200 + k) 11 = -1) ∨ ∃ d D, gm 0 1 = nI D ∧ D ≤ 5000 ∧ gm 41 k = nI d ∧ d ≤ D ∧ D < d + 28 ∧ gc (200 + k) 11 = gm 42 k ∧ gm 42 k ≠ -1 ∧ gc (200 + k) 12 = nI d) → INV B (k + 1) m6 nT nK cT cK gc q gm := by
    intro gc gm h hk6
    obtain ⟨hR, hI, k3, k4, k5, k6, k7, k8, k9, k10⟩ := h
    refine ⟨hR, hI, k3, k4, k5, fun j hj => ?_, k7, k8, k9, k10⟩
    by_cases c : j = k
    · subst c
      rcases hk6 with h1 | ⟨d, D, h1, h2, h3, h4, h5, h6⟩
      · exact Or.inl h1
      · exact Or.inr ⟨d, D, h1, h2, h3, h4, by rw [if_pos (Nat.lt_succ_self j)]; exact h5, h6⟩
    · have e : (if j < k + 1 then (0 : Nat) else 1) = (if j < k then 0 else 1) := by
        by_cases c2 : j < k
        · rw [if_pos c2, if_pos (by omega)]
        · rw [if_neg c2, if_neg (by omega)]
      rw [e]
      exact k6 j hj
  unfold fX4_endNoticeOn fX4_hasNotice nStep
  rw [e60]
  rcases h.2.2.2.2.2.1 k hk with ⟨e1, e2⟩ | ⟨d, D', h1, h2, h3, h4, h5, h6, h7, h8⟩
  · rw [if_pos e1]
    simp only [if_pos e2, if_true]
    exact up6 h (Or.inl ⟨e1, e2⟩)
  · have hDD : D' = D := (nI_eq (by omega) (by omega)).mp (h1.symm.trans hD)
    subst hDD
    rw [if_neg (Nat.lt_irrefl k)] at h5
    have en : ¬ gm 41 k = -1 := fun z => by
      have z1 := congrArg Int32.toInt (h3.symm.trans z)
      rw [nI_toInt (by omega)] at z1
      have : (-1 : Int32).toInt = -1 := rfl
      omega
    have ec : ¬ gc (200 + k) 11 = -1 := by rw [h6]; exact h7
    rw [if_neg en]
    simp only [if_neg ec, if_neg (show ¬ (1 : Int32) = 0 by decide)]
    rw [h8, h1, nI_sub h4, h3, show nI d + 28 = nI (d + 28) from nI_add d 28]
    by_cases c : D' = d + 28
    · rw [if_neg (fun (z : nI (D' - d) < 28) => by have := (nI_ltI (a := D' - d) (b := 28) (by omega) (by decide)).mp z; omega), if_pos (by rw [c])]
      have hp := inv_p (a := 33) (b := k) (v := gm 42 k) (if_pos (show k < 40 by omega)) (by omega) (by omega) (by omega) (by omega) (by omega) (by omega) h
      have hu := inv_unnotice hk hp
      rw [h6]
      exact up6 hu (Or.inl ⟨sy_up_e _ _ _ _, sy_up_e _ _ _ _⟩)
    · rw [if_pos (show nI (D' - d) < 28 from (nI_ltI (a := D' - d) (b := 28) (by omega) (by decide)).mpr (by omega)), if_neg (fun z => c ((nI_eq (by omega) (by omega)).mp z).symm)]
      exact up6 h (Or.inr ⟨d, D', h1, h2, h3, h4, by omega, h6, h7, h8⟩)
/-- one ticket's surplus is looked at -/
theorem inv_sstep {k D : Nat} (hk : k < nK) (hD : gm 0 1 = nI D) (hD5 : D ≤ 5000) (h : INV B 40 k nT nK cT cK gc q gm) : INV B 40 (k + 1) nT nK cT cK (if (fX4_surplusEndsOn gc q' k (gc 60 9)) = 0 then gc else (sy_up (fX6_releaseSurplus gc q' k).2 68 2 ((gc 68 2) + ((fX6_releaseSurplus gc q' k).1)))) q (sStep gm k) := by
  have hK := inv_K h
  have e60 : gc 60 9 = gm 0 1 := rd h.1 (a := 0) (b := 1) rfl
  have up7 : ∀ {gc gm : sG}, INV B 40 k nT nK cT cK gc q gm → (gm 43 k = 0 ∨ ∃ s D, gm 0 1 = nI D ∧ D ≤ 5000 ∧ gm 39 k ≠ 0 ∧ 0 < (gm 43 k).toInt ∧ (gm 43 k).toInt ≤ 100000 ∧ gm 44 k = nI s ∧ s ≤ D ∧ D ≤ s + 1000 ∧ gc (200 + k) 15 = nI s) → INV B 40 (k + 1) nT nK cT cK gc q gm := by
    intro gc gm h hk6
    obtain ⟨hR, hI, k3, k4, k5, k6, k7, k8, k9, k10⟩ := h
    refine ⟨hR, hI, k3, k4, k5, k6, fun j hj => ?_, k8, k9, k10⟩
    by_cases c : j = k
    · subst c
      rcases hk6 with h1 | ⟨s, D, h1, h2, h3, h4, h5, h6, h7, h8, h9⟩
      · exact Or.inl h1
      · exact Or.inr ⟨s, D, h1, h2, h3, h4, h5, h6, h7, by rw [if_pos (Nat.lt_succ_self j)]; exact h8, h9⟩
    · have e : (if j < k + 1 then (0 : Nat) else 1) = (if j < k then 0 else 1) := by
        by_cases c2 : j < k
        · rw [if_pos c2, if_pos (by omega)]
        · rw [if_neg c2, if_neg (by omega)]
      rw [e]
      exact k7 j hj
  unfold fX4_surplusEndsOn sStep
  rw [e60, r_K h (f := 14) (o := 43) (if_pos (show k < 40 by omega))]
  rcases h.2.2.2.2.2.2.1 k hk with e1 | ⟨s, D', h1, h2, h3, h4, h5, h6, h7, h8, h9⟩
  · have z0 : gm 43 k ≤ 0 := by rw [e1]; decide
    simp only [if_pos z0, if_true]
    exact up7 h (Or.inl e1)
  · have hDD : D' = D := (nI_eq (by omega) (by omega)).mp (h1.symm.trans hD)
    subst hDD
    rw [if_neg (Nat.lt_irrefl k)] at h8
    have en : ¬ gm 43 k ≤ 0 := fun z => by
      rw [le_of_toInt] at z
      have : (0 : Int32).toInt = 0 := rfl
      omega
    rw [if_neg en, if_neg en, h9, h1, nI_sub h7, h6, show nI s + 1001 = nI (s + 1001) from nI_add s 1001]
    by_cases c : D' = s + 1001
    · rw [if_neg (fun (z : nI (D' - s) ≤ 1000) => by have := (nI_leI (a := D' - s) (b := 1000) (by omega) (by decide)).mp z; omega), if_neg (show ¬ (1 : Int32) = 0 by decide), if_pos (by rw [c])]
      have hr := inv_release (q' := q') hk h
      have e68 : gc 68 2 = gm 0 46 := rd h.1 (a := 0) (b := 46) rfl
      have er : (fX6_releaseSurplus gc q' k).1 = gm 43 k := r_K h (f := 14) (o := 43) (if_pos (show k < 40 by omega))
      have hp := inv_p (a := 0) (b := 46) (v := gm 0 46 + gm 43 k) rfl (by omega) (by omega) (by omega) (by omega) (by omega) (by omega) hr
      rw [up_cm (sy_up gm 43 k 0) _ _ (show 0 ≠ 0 ∨ 45 ≠ 44 by omega), up_cm gm _ _ (show 43 ≠ 0 ∨ k ≠ 44 by omega), up_cm (sy_up gm 0 44 _) _ _ (show 43 ≠ 0 ∨ k ≠ 45 by omega), up_cm _ _ _ (show 43 ≠ 0 ∨ k ≠ 46 by omega)] at hp
      rw [er, e68]
      exact up7 hp (Or.inl (sy_up_e _ _ _ _))
    · rw [if_pos (show nI (D' - s) ≤ 1000 from (nI_leI (a := D' - s) (b := 1000) (by omega) (by decide)).mpr (by omega)), if_pos rfl, if_neg (fun z => c ((nI_eq (by omega) (by omega)).mp z).symm)]
      exact up7 h (Or.inr ⟨s, D', h1, h2, h3, h4, h5, h6, h7, by omega, h9⟩)
theorem inv_oneDay {D : Nat} (hD : gm 0 1 = nI D) (hD5 : D + 1 ≤ 5000) (h : INV B 40 40 nT nK cT cK gc q gm) : (fX7_passOne gm q') 0 0 = gm 0 0 ∧ (fX7_passOne gm q') 0 1 = nI (D + 1) ∧ INV B 40 40 nT nK cT cK (fX6_passOneDay gc q) q (fX7_passOne gm q') := by
  have hT := inv_T h
  have hK := inv_K h
  obtain ⟨a1, a2, a3⟩ := l_dayA (q' := q') hD hD5 h nT (Nat.le_refl _)
  have hB : ∀ n, n ≤ nK → (nLoop (lX7_passA gm q' nT) n) 0 0 = gm 0 0 ∧ (nLoop (lX7_passA gm q' nT) n) 0 1 = nI (D + 1) ∧ INV B n 0 nT nK cT cK (lX6_dayB gc q n) q (nLoop (lX7_passA gm q' nT) n) := by
    intro n
    induction n with
    | zero =>
      intro _
      refine ⟨a1, a2, ?_⟩
      show INV B 0 0 nT nK cT cK (lX6_dayA gc q (gc 61 2).toNatClampNeg) q (lX7_passA gm q' nT)
      rw [h.2.2.1.1, nI_clamp (by omega)]
      exact a3
    | succ n ih =>
      intro hn
      obtain ⟨i1, i2, i3⟩ := ih (by omega)
      exact ⟨by show nStep _ n 0 0 = _; rw [nStep_o _ (by omega)]; exact i1, by show nStep _ n 0 1 = _; rw [nStep_o _ (by omega)]; exact i2, inv_nstep (by omega) i2 hD5 i3⟩
  obtain ⟨b1, b2, b3⟩ := hB nK (Nat.le_refl _)
  have b4 : INV B 40 0 nT nK cT cK (lX6_dayB gc q nK) q (nLoop (lX7_passA gm q' nT) nK) := by
    obtain ⟨hR, hI, k3, k4, k5, k6, k7, k8, k9, k10⟩ := b3
    exact ⟨hR, hI, k3, k4, k5, A6_eq (fun j hj => ⟨fun _ => by omega, fun _ => hj⟩) k6, k7, k8, k9, k10⟩
  have hC : ∀ n, n ≤ nK → (sLoop (nLoop (lX7_passA gm q' nT) nK) n) 0 0 = gm 0 0 ∧ (sLoop (nLoop (lX7_passA gm q' nT) nK) n) 0 1 = nI (D + 1) ∧ INV B 40 n nT nK cT cK (lX6_dayC gc q n) q (sLoop (nLoop (lX7_passA gm q' nT) nK) n) := by
    intro n
    induction n with
    | zero =>
      intro _
      refine ⟨b1, b2, ?_⟩
      show INV B 40 0 nT nK cT cK (lX6_dayB gc q (gc 62 2).toNatClampNeg) q (nLoop (lX7_passA gm q' nT) nK)
      rw [h.2.2.1.2.2.2.1, nI_clamp (by omega)]
      exact b4
    | succ n ih =>
      intro hn
      obtain ⟨i1, i2, i3⟩ := ih (by omega)
      exact ⟨by show sStep _ n 0 0 = _; rw [sStep_o _ (by omega)]; exact i1, by show sStep _ n 0 1 = _; rw [sStep_o _ (by omega)]; exact i2, inv_sstep (by omega) i2 hD5 i3⟩
  obtain ⟨c1, c2, c3⟩ := hC nK (Nat.le_refl _)
  unfold fX6_passOneDay fX7_passOne
  rw [h.2.1.2.2.1, h.2.2.1.2.2.2.1, nI_clamp (show nK < 2 ^ 31 by omega), passB_loops, h.2.1.1, nI_clamp (show nT < 2 ^ 31 by omega)]
  refine ⟨c1, c2, ?_⟩
  obtain ⟨hR, hI, k3, k4, k5, k6, k7, k8, k9, k10⟩ := c3
  exact ⟨hR, hI, k3, k4, k5, k6, A7_eq (fun j hj => ⟨fun _ => by omega, fun _ => hj⟩) k7, k8, k9, k10⟩
theorem o_pass (h : INV B 40 40 nT nK cT cK gc q gm) (x0 : Int32) : OKr (wf 9 1 2) (B + oB) nT nK cT cK (fX6_pass gc q x0) (fX7_pass gm q' x0) := by
  unfold fX6_pass fX7_pass
  by_cases c0 : 1 ≤ x0 ∧ x0 ≤ 400
  · simp only [if_pos c0]
    obtain ⟨n, hn, rfl⟩ := i32_cases (n := 400) (x := x0) (by decide) ⟨Int32.le_trans (by decide) c0.1, c0.2⟩
    obtain ⟨D, hd, hD, -⟩ := h.2.1.2.2.2.2.2.2.2.2.2.2
    have e60 : gc 60 9 = gm 0 1 := rd h.1 (a := 0) (b := 1) rfl
    rw [e60, hD, nI_add, nI_clamp (show n < 2 ^ 31 by omega)]
    by_cases c1 : D + n ≤ 5000
    · rw [if_neg (fun (z : (5000 : Int32) < nI (D + n)) => by have := (nI_ltI (a := 5000) (b := D + n) (by decide) (by omega)).mp z; omega), if_pos (show nI (D + n) ≤ 5000 from (nI_leI (a := D + n) (b := 5000) (by omega) (by decide)).mpr c1)]
      have key : ∀ k, k ≤ n → (lX7_pass gm q' (nI n) k) 0 0 = 0 ∧ (lX7_pass gm q' (nI n) k) 0 1 = nI (D + k) ∧ INV B 40 40 nT nK cT cK (lX6_pass gc q (nI n) k) q (lX7_pass gm q' (nI n) k) := by
        intro k
        induction k with
        | zero => intro _; exact ⟨sy_up_e gm 0 0 0, (up_ne gm _ (by omega)).trans hD, inv_0 h⟩
        | succ k ih =>
          intro hk
          obtain ⟨i1, i2, i3⟩ := ih (by omega)
          obtain ⟨j1, j2, j3⟩ := inv_oneDay (q' := q') i2 (by omega) i3
          exact ⟨j1.trans i1, j2, j3⟩
      obtain ⟨i1, i2, i3⟩ := key n (Nat.le_refl _)
      exact ok_yes (rd i3.1 (a := 0) (b := 1) rfl) i1 (inv_B (Nat.le_add_right _ _) i3)
    · rw [if_pos (show (5000 : Int32) < nI (D + n) from (nI_ltI (a := 5000) (b := D + n) (by decide) (by omega)).mpr (by omega)), if_neg (fun (z : nI (D + n) ≤ 5000) => c1 ((nI_leI (a := D + n) (b := 5000) (by omega) (by decide)).mp z))]
      exact ok_no h rfl (by decide) (by decide)
  · simp only [if_neg c0]
    exact ok_no h rfl (by decide) (by decide)
end OPM
