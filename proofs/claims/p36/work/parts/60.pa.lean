/-! THE PURE PART of the property: what holds of the class's memory ahead of and behind every call of the law -/
def isum (f : Nat → Int) : Nat → Int
  | 0 => 0
  | k + 1 => isum f k + f k
def msum (f : Nat → Int32) : Nat → Int32
  | 0 => 0
  | k + 1 => msum f k + f k
def C1 (nT nK cT cK : Nat) (g : sG) : Prop := g 61 2 = nI nT ∧ nT ≤ 40 ∧ nT ≤ cT ∧ cT ≤ 60 ∧ g 62 2 = nI nK ∧ nK ≤ 40 ∧ nK ≤ cK ∧ cK ≤ 60
def C2 (g : sG) : Prop := (∃ r, r ≤ 30 ∧ g 67 3 = nI r) ∧ (∃ a, a ≤ 10 ∧ g 67 6 = nI a) ∧ ∀ k, k < 30 → 0 ≤ (g 74 k).toInt ∧ (g 74 k).toInt ≤ 100
def C3 (nK : Nat) (g : sG) : Prop := (∃ d, d ≤ 5000 ∧ g 60 9 = nI d ∧ ∀ j, j < nK → ∃ b, b ≤ d ∧ g (200 + j) 9 = nI b) ∧ 14 ≤ (g 60 8).toInt
def C4 (nT : Nat) (g : sG) : Prop := ∀ i, i < nT → g (100 + i) 0 = nI i ∧ vp_in (g (100 + i) 1) 4 ∧ g (100 + i) 2 = g 90 i ∧ (0 ≤ (g (100 + i) 2).toInt ∧ (g (100 + i) 2).toInt ≤ 50) ∧ 0 ≤ (g (100 + i) 4).toInt ∧ (g (100 + i) 4).toInt ≤ 10
def C5 (V nK : Nat) (g : sG) : Prop := ∀ j, j < nK → g (200 + j) 0 = nI j ∧ vp_in (g (200 + j) 6) 10 ∧ vp_in (g (200 + j) 7) 4 ∧ (1 ≤ (g (200 + j) 8).toInt ∧ (g (200 + j) 8).toInt ≤ 400) ∧ (g (200 + j) 11 = -1 ∨ vp_in (g (200 + j) 11) 10) ∧ (0 ≤ (g (200 + j) 13).toInt ∧ (g (200 + j) 13).toInt ≤ V) ∧ 0 ≤ (g (200 + j) 14).toInt ∧ (g (200 + j) 14 = 0 ∨ g (200 + j) 7 = 2)
def C6 (B nK : Nat) (g : sG) : Prop := (∃ m, m ≤ 600 ∧ g 68 4 = nI m ∧ g 68 0 = msum (g 78) m) ∧ (g 68 1).toInt = isum (fun j => (g (200 + j) 14).toInt) nK ∧ (g 68 1).toInt ≤ (g 68 0).toInt ∧ 0 ≤ (g 68 2).toInt ∧ (g 68 0).toInt + (g 68 2).toInt ≤ B
def C7 (nT nK : Nat) (g : sG) (q : sQ) : Prop := (∀ i, i < nT → (g (100 + i) 5 = 0 ∧ q (100 + i) 11 = none ∧ g (100 + i) 7 = -1) ∨ (g (100 + i) 5 = 1 ∧ (∃ j, j < nK ∧ q (100 + i) 11 = some (200 + j) ∧ g (200 + j) 7 = 0 ∧ q (200 + j) 1 = some (100 + i)) ∧ vp_in (g (100 + i) 7) 12 ∧ vp_in (g (100 + i) 8) 12)) ∧ ∀ j, j < nK → (∃ i, i < nT ∧ q (200 + j) 1 = some (100 + i) ∧ (g (200 + j) 7 = 0 → q (100 + i) 11 = some (200 + j))) ∧ ∃ e, e < 4 ∧ q (200 + j) 4 = some (80 + e)
def C8 (nT nK : Nat) (q : sQ) : Prop := (∀ k, k < nT → q 70 k = some (100 + k)) ∧ (∀ k, k < nK → q 71 k = some (200 + k)) ∧ (∀ e, e < 4 → q 64 e = some (80 + e)) ∧ (∀ c, c < 3 → q 65 c = some (84 + c)) ∧ (∀ k, nT ≤ k → q 70 k = none) ∧ (∀ k, nK ≤ k → q 71 k = none) ∧ (∀ o k r, q o k = some r → r < 70 ∨ (80 ≤ r ∧ r < 100 + nT) ∨ (200 ≤ r ∧ r < 200 + nK)) ∧ ∀ p, p < 10 → ∃ c, c < 3 ∧ q 66 p = some (84 + c)
abbrev cB : Nat := 100000
def CI (n nT nK cT cK : Nat) (g : sG) (q : sQ) : Prop := C1 nT nK cT cK g ∧ C2 g ∧ C3 nK g ∧ C4 nT g ∧ C5 n nK g ∧ C6 (n * cB) nK g ∧ C7 nT nK g q ∧ C8 nT nK q
theorem up_ne {α : Type} (g : Nat → Nat → α) {o k : Nat} (v : α) {o' k' : Nat} (h : o' ≠ o ∨ k' ≠ k) : sy_up g o k v o' k' = g o' k' := by rw [sy_up_a, if_neg (by omega)]
theorem isum_c {f f' : Nat → Int} : ∀ n : Nat, (∀ k, k < n → f k = f' k) → isum f n = isum f' n
  | 0, _ => rfl
  | n + 1, h => by
    show isum f n + f n = isum f' n + f' n
    rw [isum_c n (fun k hk => h k (by omega)), h n (by omega)]
theorem msum_c {f f' : Nat → Int32} : ∀ n : Nat, (∀ k, k < n → f k = f' k) → msum f n = msum f' n
  | 0, _ => rfl
  | n + 1, h => by
    show msum f n + f n = msum f' n + f' n
    rw [msum_c n (fun k hk => h k (by omega)), h n (by omega)]
section CUP
variable {n nT nK cT cK B V o k : Nat} {g : sG} {q : sQ} {v : Int32}
theorem c1_up (h : (o ≠ 61 ∨ k ≠ 2) ∧ (o ≠ 62 ∨ k ≠ 2)) (c : C1 nT nK cT cK g) : C1 nT nK cT cK (sy_up g o k v) := by
  unfold C1
  rw [up_ne g v (show 61 ≠ o ∨ 2 ≠ k by omega), up_ne g v (show 62 ≠ o ∨ 2 ≠ k by omega)]
  exact c
theorem c2_up (h : (o ≠ 67 ∨ (k ≠ 3 ∧ k ≠ 6)) ∧ o ≠ 74) (c : C2 g) : C2 (sy_up g o k v) := by
  unfold C2
  rw [up_ne g v (show 67 ≠ o ∨ 3 ≠ k by omega), up_ne g v (show 67 ≠ o ∨ 6 ≠ k by omega), sy_up_o g k v (show 74 ≠ o by omega)]
  exact c
theorem c3_up (h : (o ≠ 60 ∨ (k ≠ 9 ∧ k ≠ 8)) ∧ (o < 200 ∨ k ≠ 9)) (c : C3 nK g) : C3 nK (sy_up g o k v) := by
  unfold C3
  rw [up_ne g v (show 60 ≠ o ∨ 9 ≠ k by omega), up_ne g v (show 60 ≠ o ∨ 8 ≠ k by omega)]
  obtain ⟨⟨d, h1, h2, h3⟩, h4⟩ := c
  refine ⟨⟨d, h1, h2, fun j hj => ?_⟩, h4⟩
  rw [up_ne g v (show 200 + j ≠ o ∨ 9 ≠ k by omega)]
  exact h3 j hj
theorem c4_up (hT : nT ≤ 40) (h : o ≠ 90 ∧ (o < 100 ∨ 200 ≤ o ∨ (k ≠ 0 ∧ k ≠ 1 ∧ k ≠ 2 ∧ k ≠ 4))) (c : C4 nT g) : C4 nT (sy_up g o k v) := by
  intro i hi
  rw [up_ne g v (show 100 + i ≠ o ∨ 0 ≠ k by omega), up_ne g v (show 100 + i ≠ o ∨ 1 ≠ k by omega), up_ne g v (show 100 + i ≠ o ∨ 2 ≠ k by omega), up_ne g v (show 100 + i ≠ o ∨ 4 ≠ k by omega), sy_up_o g k v (show 90 ≠ o by omega)]
  exact c i hi
theorem c5_up (h : o < 200 ∨ (k ≠ 0 ∧ k ≠ 6 ∧ k ≠ 7 ∧ k ≠ 8 ∧ k ≠ 11 ∧ k ≠ 13 ∧ k ≠ 14)) (c : C5 V nK g) : C5 V nK (sy_up g o k v) := by
  intro i hi
  rw [up_ne g v (show 200 + i ≠ o ∨ 0 ≠ k by omega), up_ne g v (show 200 + i ≠ o ∨ 6 ≠ k by omega), up_ne g v (show 200 + i ≠ o ∨ 7 ≠ k by omega), up_ne g v (show 200 + i ≠ o ∨ 8 ≠ k by omega), up_ne g v (show 200 + i ≠ o ∨ 11 ≠ k by omega), up_ne g v (show 200 + i ≠ o ∨ 13 ≠ k by omega), up_ne g v (show 200 + i ≠ o ∨ 14 ≠ k by omega)]
  exact c i hi
theorem c6_up (h : o ≠ 68 ∧ o ≠ 78 ∧ (o < 200 ∨ k ≠ 14)) (c : C6 B nK g) : C6 B nK (sy_up g o k v) := by
  unfold C6
  rw [sy_up_o g k v (show 68 ≠ o by omega), sy_up_o g k v (show 78 ≠ o by omega)]
  obtain ⟨h1, h2, h3⟩ := c
  refine ⟨h1, h2.trans (isum_c nK fun j hj => ?_), h3⟩
  rw [up_ne g v (show 200 + j ≠ o ∨ 14 ≠ k by omega)]
theorem c7_up (hT : nT ≤ 40) (h : (o < 100 ∨ 200 ≤ o ∨ (k ≠ 5 ∧ k ≠ 7 ∧ k ≠ 8)) ∧ (o < 200 ∨ k ≠ 7)) (c : C7 nT nK g q) : C7 nT nK (sy_up g o k v) q := by
  refine ⟨fun i hi => ?_, fun j hj => ?_⟩
  · rw [up_ne g v (show 100 + i ≠ o ∨ 5 ≠ k by omega), up_ne g v (show 100 + i ≠ o ∨ 7 ≠ k by omega), up_ne g v (show 100 + i ≠ o ∨ 8 ≠ k by omega)]
    rcases c.1 i hi with h1 | ⟨h1, ⟨j, h2, h3, h4, h5⟩, h6⟩
    · exact Or.inl h1
    · refine Or.inr ⟨h1, ⟨j, h2, h3, ?_, h5⟩, h6⟩
      rw [up_ne g v (show 200 + j ≠ o ∨ 7 ≠ k by omega)]
      exact h4
  · rw [up_ne g v (show 200 + j ≠ o ∨ 7 ≠ k by omega)]
    exact c.2 j hj
/-- a cell of which nothing is said -/
theorem ci_up (h : (o ≠ 61 ∨ k ≠ 2) ∧ (o ≠ 62 ∨ k ≠ 2) ∧ (o ≠ 67 ∨ (k ≠ 3 ∧ k ≠ 6)) ∧ o ≠ 74 ∧ o ≠ 60 ∧ o ≠ 68 ∧ o ≠ 78 ∧ o ≠ 90 ∧ (o < 100 ∨ 200 ≤ o ∨ k = 3 ∨ k = 6 ∨ k = 9 ∨ k = 10) ∧ (o < 200 ∨ k = 2 ∨ k = 3 ∨ k = 5 ∨ k = 10 ∨ k = 12 ∨ k = 15)) (c : CI n nT nK cT cK g q) : CI n nT nK cT cK (sy_up g o k v) q := by
  obtain ⟨k1, k2, k3, k4, k5, k6, k7, k8⟩ := c
  have hT := k1.2.1
  exact ⟨c1_up (by omega) k1, c2_up (by omega) k2, c3_up (by omega) k3, c4_up hT (by omega) k4, c5_up (by omega) k5, c6_up (by omega) k6, c7_up hT (by omega) k7, k8⟩
theorem c5_V {V' : Nat} (h : V ≤ V') (c : C5 V nK g) : C5 V' nK g := fun j hj => by
  obtain ⟨h1, h2, h3, h4, h5, ⟨h6, h7⟩, h8⟩ := c j hj
  exact ⟨h1, h2, h3, h4, h5, ⟨h6, by omega⟩, h8⟩
theorem c6_B {B' : Nat} (h : B ≤ B') (c : C6 B nK g) : C6 B' nK g := ⟨c.1, c.2.1, c.2.2.1, c.2.2.2.1, by have := c.2.2.2.2; omega⟩
theorem ci_n {n' : Nat} (h : n ≤ n') (c : CI n nT nK cT cK g q) : CI n' nT nK cT cK g q := by
  obtain ⟨k1, k2, k3, k4, k5, k6, k7, k8⟩ := c
  exact ⟨k1, k2, k3, k4, c5_V h k5, c6_B (Nat.mul_le_mul_right _ h) k6, k7, k8⟩
theorem ci_T (c : CI n nT nK cT cK g q) : nT ≤ 40 := c.1.2.1
theorem ci_K (c : CI n nT nK cT cK g q) : nK ≤ 40 := c.1.2.2.2.2.2.1
theorem ci_IG (c : CI n nT nK cT cK g q) : IG nT nK cT cK g := by
  obtain ⟨k1, k2, k3, k4, k5, k6, k7, k8⟩ := c
  obtain ⟨a1, a2, a3, a4, a5, a6, a7, a8⟩ := k1
  obtain ⟨⟨m, m1, m2, m3⟩, -⟩ := k6
  exact ⟨a1, a2, a3, a5, a6, a7, k2.1, k2.2.1, ⟨m, m1, m2⟩, fun i hi => (k4 i hi).2.1, k3.1⟩
theorem ci_IQ (c : CI n nT nK cT cK g q) : IQ nT nK q := by
  obtain ⟨k1, k2, k3, k4, k5, k6, k7, k8⟩ := c
  refine ⟨k8.1, k8.2.1, k8.2.2.1, k8.2.2.2.1, k8.2.2.2.2.2.2.2, fun j hj => ?_, fun i hi => ?_⟩
  · obtain ⟨⟨i, h1, h2, -⟩, h3⟩ := k7.2 j hj
    exact ⟨⟨i, h1, h2⟩, h3⟩
  · rcases k7.1 i hi with ⟨-, h1, -⟩ | ⟨-, ⟨j, h1, h2, -⟩, -⟩
    · exact Or.inl h1
    · exact Or.inr ⟨j, h1, h2⟩
end CUP
