section SUMS
variable {n n' nT nK cT cK i j X : Nat} {g g' : sG} {q q' : sQ}
theorem isum_add {f f' : Nat → Int} : ∀ n : Nat, isum (fun k => f k + f' k) n = isum f n + isum f' n
  | 0 => rfl
  | n + 1 => by
    show isum (fun k => f k + f' k) n + (f n + f' n) = isum f n + f n + (isum f' n + f' n)
    rw [isum_add n]
    omega
theorem isum_z : ∀ n : Nat, isum (fun _ => 0) n = 0
  | 0 => rfl
  | n + 1 => by
    show isum (fun _ => 0) n + 0 = 0
    rw [isum_z n]
    rfl
theorem isum_swap {f : Nat → Nat → Int} (n : Nat) : ∀ m : Nat, isum (fun p => isum (fun i => f p i) n) m = isum (fun i => isum (fun p => f p i) m) n
  | 0 => (isum_z n).symm
  | m + 1 => by
    show isum (fun p => isum (fun i => f p i) n) m + isum (fun i => f m i) n = isum (fun i => isum (fun p => f p i) m + f m i) n
    rw [isum_swap n m, isum_add]
/-- what a thing takes of a shelf -/
def wOn (g : sG) (i : Nat) : Int := if g (100 + i) 5 = 0 then 0 else (g (100 + i) 2).toInt
def wAt (g : sG) (p i : Nat) : Int := if g (100 + i) 5 = 0 then 0 else if g (100 + i) 8 = nI p then (g (100 + i) 2).toInt else 0
theorem room_k (c : C4 nT g) (hT : nT ≤ 40) {p : Nat} : ∀ k, k ≤ nT → (lX6_roomAtN g q (nI p) k).toInt = 60 - isum (wAt g p) k ∧ 0 ≤ isum (wAt g p) k ∧ isum (wAt g p) k ≤ 50 * k
  | 0, _ => ⟨rfl, Int.le_refl _, Int.le_refl _⟩
  | k + 1, h => by
    obtain ⟨h1, h2, h3⟩ := room_k c hT (p := p) k (by omega)
    obtain ⟨-, -, -, ⟨w1, w2⟩, -⟩ := c k h
    show (lX6_roomAtN g q (nI p) (k + 1)).toInt = 60 - (isum (wAt g p) k + wAt g p k) ∧ 0 ≤ isum (wAt g p) k + wAt g p k ∧ isum (wAt g p) k + wAt g p k ≤ _
    unfold lX6_roomAtN wAt
    by_cases h5 : g (100 + k) 5 = 0
    · rw [if_pos h5, if_pos h5]; refine ⟨by rw [h1]; unfold wAt; omega, by unfold wAt at *; omega, by unfold wAt at *; omega⟩
    · rw [if_neg h5, if_neg h5]
      by_cases h8 : g (100 + k) 8 = nI p
      · rw [if_pos h8, if_pos h8]
        unfold wAt at *
        refine ⟨by rw [toInt_subb (by omega) (by omega), h1]; omega, by omega, by omega⟩
      · rw [if_neg h8, if_neg h8]; unfold wAt at *; refine ⟨by rw [h1]; omega, by omega, by omega⟩
theorem wAt_12 (c : CI n nT nK cT cK g q) (hi : i < nT) : isum (fun p => wAt g p i) 12 = wOn g i := by
  unfold wAt wOn
  by_cases h5 : g (100 + i) 5 = 0
  · simp only [if_pos h5]
    exact isum_z 12
  · simp only [if_neg h5]
    have hv : vp_in (g (100 + i) 8) 12 := by
      rcases c.2.2.2.2.2.2.1.1 i hi with ⟨h, -⟩ | ⟨-, -, -, h⟩
      · exact absurd h h5
      · exact h
    obtain ⟨p, hp, e⟩ := vp_nI (by decide) hv
    rw [e]
    rw [isum_at (f := fun _ => 0) (j := p) 12 hp (fun k hk hkp => if_neg (fun z => hkp ((nI_eq (a := p) (b := k) (by omega) (by omega)).mp z).symm)), isum_z, if_pos rfl]
    omega
/-- the shelves bear less by the weights of what lies on them -/
theorem room_12 (c : CI n nT nK cT cK g q) : isum (fun p => (fX6_roomAtN g q (nI p)).toInt) 12 = 720 - isum (wOn g) nT := by
  have e : ∀ p, p < 12 → (fX6_roomAtN g q (nI p)).toInt = 60 - isum (wAt g p) nT := fun p _ => by
    unfold fX6_roomAtN
    rw [nTe c]
    exact (room_k c.2.2.2.1 (ci_T c) nT (Nat.le_refl _)).1
  rw [isum_c 12 e]
  have e2 : isum (fun p => isum (wAt g p) nT) 12 = isum (wOn g) nT := by
    rw [isum_swap nT 12]
    exact isum_c nT fun i hi => wAt_12 c hi
  have e3 : ∀ m, isum (fun p => 60 - isum (wAt g p) nT) m = 60 * (m : Int) - isum (fun p => isum (wAt g p) nT) m := by
    intro m
    induction m with
    | zero => rfl
    | succ m ih =>
      show isum (fun p => 60 - isum (wAt g p) nT) m + (60 - isum (wAt g m) nT) = 60 * ((m + 1 : Nat) : Int) - (isum (fun p => isum (wAt g p) nT) m + isum (wAt g m) nT)
      rw [ih]
      omega
  rw [e3, e2]
  omega
theorem wOn_bd (c : C4 nT g) : ∀ k, k ≤ nT → 0 ≤ isum (wOn g) k ∧ isum (wOn g) k ≤ 50 * k
  | 0, _ => ⟨Int.le_refl _, Int.le_refl _⟩
  | k + 1, h => by
    obtain ⟨h2, h3⟩ := wOn_bd c k (by omega)
    obtain ⟨-, -, -, ⟨w1, w2⟩, -⟩ := c k h
    show 0 ≤ isum (wOn g) k + wOn g k ∧ isum (wOn g) k + wOn g k ≤ _
    have : 0 ≤ wOn g k ∧ wOn g k ≤ 50 := by unfold wOn; split <;> omega
    omega
theorem rm_bd (c : CI n nT nK cT cK g q) {p : Nat} : -2000 ≤ (fX6_roomAtN g q (nI p)).toInt ∧ (fX6_roomAtN g q (nI p)).toInt ≤ 60 := by
  have hT := ci_T c
  obtain ⟨h1, h2, h3⟩ := room_k (q := q) c.2.2.2.1 (ci_T c) (p := p) nT (Nat.le_refl _)
  unfold fX6_roomAtN
  rw [nTe c, h1]
  omega
/-- what is kept is that of tickets -/
theorem kept_k (c : CI n nT nK cT cK g q) : ∀ k, k ≤ nK → 0 ≤ isum (fun j => (g (200 + j) 14).toInt) k ∧ isum (fun j => (g (200 + j) 14).toInt) k ≤ isum (fun j => (g (200 + j) 14).toInt) nK := by
  intro k hk
  refine ⟨isum_nn k (fun j hj => (c.2.2.2.2.1 j (by omega)).2.2.2.2.2.2.1), ?_⟩
  obtain ⟨d, rfl⟩ : ∃ d, nK = k + d := ⟨nK - k, by omega⟩
  clear hk
  have c5 := c.2.2.2.2.1
  clear c
  induction d with
  | zero => exact Int.le_refl _
  | succ d ih =>
    have h1 := ih (fun j hj => c5 j (by omega))
    have h2 := (c5 (k + d) (by omega)).2.2.2.2.2.2.1
    show _ ≤ isum (fun j => (g (200 + j) 14).toInt) (k + d) + (g (200 + (k + d)) 14).toInt
    omega
end SUMS
section REF
variable {n n' nT nK cT cK i j X : Nat} {g g' : sG} {q q' : sQ}
theorem no40 (c : CI n nT nK cT cK g q) : ¬ ((0 : Int32) ≤ 40 ∧ (40 : Int32) < g 62 2) := fun z => by
  have hK := ci_K c
  have h := z.2
  rw [c.1.2.2.2.2.1] at h
  have := (nI_ltI (a := 40) (b := nK) (by decide) (by omega)).mp h
  omega
theorem no40T (c : CI n nT nK cT cK g q) : ¬ ((0 : Int32) ≤ 40 ∧ (40 : Int32) < g 61 2) := fun z => by
  have hT := ci_T c
  have h := z.2
  rw [c.1.1] at h
  have := (nI_ltI (a := 40) (b := nT) (by decide) (by omega)).mp h
  omega
theorem is0T (c : CI n nT nK cT cK g q) (h0 : 0 < nT) : (0 : Int32) ≤ 0 ∧ (0 : Int32) < g 61 2 := by
  have hT := ci_T c
  rw [c.1.1]
  exact r_in (x := 0) h0 (by omega) rfl
theorem noM1 {x : Int32} : ¬ ((0 : Int32) ≤ -1 ∧ (-1 : Int32) < x) := fun z => absurd z.1 (by decide)
theorem f_thing1 : fX6_thing g q nT 4 1 10 = (1, 0, g, q) := by unfold fX6_thing; rw [if_neg (by decide)]
theorem f_thing2 : fX6_thing g q nT 0 51 10 = (2, 0, g, q) := by unfold fX6_thing; rw [if_pos (by decide), if_neg (by decide)]
theorem f_thing3 : fX6_thing g q nT 0 1 9 = (2, 0, g, q) := by unfold fX6_thing; rw [if_pos (by decide), if_pos (by decide), if_neg (by decide)]
theorem f_fashion1 : fX6_fashion g q (-1) 0 = (1, 0, g, q) := by unfold fX6_fashion; rw [if_neg (by decide)]
theorem f_fashion2 : fX6_fashion g q 0 201 = (2, 0, g, q) := by unfold fX6_fashion; rw [if_pos (by decide), if_neg (by decide)]
theorem f_bias1 : fX6_bias g q 4 0 = (1, 0, g, q) := by unfold fX6_bias; rw [if_neg (by decide)]
theorem f_bias2 : fX6_bias g q 0 21 = (2, 0, g, q) := by unfold fX6_bias; rw [if_pos (by decide), if_neg (by decide)]
theorem f_classOf1 : fX6_classOf g q 10 0 = (1, 0, g, q) := by unfold fX6_classOf; rw [if_neg (by decide)]
theorem f_classOf2 : fX6_classOf g q 0 3 = (1, 0, g, q) := by unfold fX6_classOf; rw [if_pos (by decide), if_neg (by decide)]
theorem f_charter1 : fX6_charter g q 3 50 0 = (1, g, q) := by unfold fX6_charter; rw [if_neg (by decide)]
theorem f_charter2 : fX6_charter g q 0 9 0 = (2, g, q) := by unfold fX6_charter; rw [if_pos (by decide), if_neg (by decide)]
theorem f_rate1 : fX6_rate g q 3 0 = (1, 0, g, q) := by unfold fX6_rate; rw [if_neg (by decide)]
theorem f_rate2 : fX6_rate g q 0 101 = (2, 0, g, q) := by unfold fX6_rate; rw [if_pos (by decide), if_neg (by decide)]
theorem f_term : fX6_term g q 13 = (2, 0, g, q) := by unfold fX6_term; rw [if_neg (by decide)]
theorem f_amnesty : fX6_amnesty g q 5 4 = (2, 0, g, q) := by unfold fX6_amnesty; rw [if_pos (by decide), if_neg (by decide)]
theorem f_pledge1 (c : CI n nT nK cT cK g q) {x : Int32} : fX6_pledge g q nK 0 40 0 0 1 x = (1, 0, g, q) := by unfold fX6_pledge; rw [if_pos (by decide), if_neg (no40T c)]
theorem f_pledge2 (c : CI n nT nK cT cK g q) (h0 : 0 < nT) {x : Int32} : fX6_pledge g q nK 0 0 0 0 0 x = (2, 0, g, q) := by unfold fX6_pledge; rw [if_pos (by decide), if_pos (is0T c h0), if_pos (by decide), if_pos (by decide), if_neg (by decide)]
theorem f_redeem (c : CI n nT nK cT cK g q) : fX6_redeem g q 40 0 = (1, 0, g, q) := by unfold fX6_redeem; rw [if_neg (no40 c)]
theorem f_renew : fX6_renew g q (-1) 0 0 = (1, 0, g, q) := by unfold fX6_renew; rw [if_neg noM1]
theorem f_give (c : CI n nT nK cT cK g q) : fX6_give g q 40 0 = (1, 0, g, q) := by unfold fX6_give; rw [if_neg (no40 c)]
theorem f_notice (c : CI n nT nK cT cK g q) : fX6_notice g q 40 0 = (1, g, q) := by unfold fX6_notice; rw [if_neg (no40 c)]
theorem f_show (c : CI n nT nK cT cK g q) : fX6_show g q 40 = (1, 0, g, q) := by unfold fX6_show; rw [if_neg (no40 c)]
theorem f_police (c : CI n nT nK cT cK g q) : fX6_police g q 40 = (1, 0, g, q) := by unfold fX6_police; rw [if_neg (no40T c)]
theorem f_court {x : Int32} : fX6_court g q (-1) x = (1, 0, g, q) := by unfold fX6_court; rw [if_neg noM1]
theorem f_stray1 (c : CI n nT nK cT cK g q) (h0 : 0 < nT) : fX6_stray g q 0 3 0 = (1, g, q) := by unfold fX6_stray; rw [if_pos (is0T c h0), if_neg (by decide)]
theorem f_stray2 (c : CI n nT nK cT cK g q) (h0 : 0 < nT) : fX6_stray g q 0 0 4 = (1, g, q) := by unfold fX6_stray; rw [if_pos (is0T c h0), if_pos (by decide), if_neg (by decide)]
theorem f_count : fX6_count g q 3 = (1, 0, g, q) := by unfold fX6_count; rw [if_neg (by decide)]
theorem f_transfer (c : CI n nT nK cT cK g q) (h0 : 0 < nT) : fX6_transfer g q 0 3 = (1, 0, g, q) := by unfold fX6_transfer; rw [if_pos (is0T c h0), if_neg (by decide)]
theorem f_wind : fX6_wind g q (-1) = (1, 0, g, q) := by unfold fX6_wind; rw [if_neg (by decide)]
theorem f_pass1 : fX6_pass g q 0 = (2, 0, g, q) := by unfold fX6_pass; rw [if_neg (by decide)]
theorem f_pass2 : fX6_pass g q 401 = (2, 0, g, q) := by unfold fX6_pass; rw [if_neg (by decide)]
theorem f_offer (c : CI n nT nK cT cK g q) : fX6_offer g q 40 0 = (1, 0, g, q) := by unfold fX6_offer; rw [if_neg (no40 c)]
theorem f_claim (c : CI n nT nK cT cK g q) : fX6_claim g q 40 0 = (1, 0, g, q) := by unfold fX6_claim; rw [if_neg (no40 c)]
theorem f_deposit : fX6_deposit g q 0 = (2, 0, g, q) := by unfold fX6_deposit; rw [if_neg (by decide)]
theorem f_withdraw : fX6_withdraw g q 100001 = (2, 0, g, q) := by unfold fX6_withdraw; rw [if_neg (by decide)]
theorem f_thingOf (c : CI n nT nK cT cK g q) (h0 : 0 < nT) : fX6_thingOf g q 0 7 = (2, 0, g, q) := by unfold fX6_thingOf; rw [if_pos (is0T c h0), if_neg (by decide)]
theorem f_expertOf : fX6_expertOf g q 0 3 = (2, 0, g, q) := by unfold fX6_expertOf; rw [if_pos (by decide), if_neg (by decide)]
theorem f_bears : fX6_bears g q 0 4 = (1, 0, g, q) := by unfold fX6_bears; rw [if_pos (by decide), if_neg (by decide)]
theorem f_money : fX6_money g q 4 = (2, 0, g, q) := by unfold fX6_money; rw [if_neg (by decide)]
end REF
