/-! THE PURE PART: what the class's ints and the reference's ints have to do with each other. gc: the class's memory (o >= 60), gm: the reference's (o < 60); often one memory -/
/-- the class's cell that holds what the reference's cell holds -/
def pc (o k : Nat) : Option (Nat × Nat) := match o with
  | 0 => (match k with | 1 => some (60, 9) | 27 => some (60, 8) | 20 => some (67, 3) | 24 => some (67, 6) | 44 => some (68, 0) | 45 => some (68, 1) | 46 => some (68, 2) | _ => none)
  | 4 => if k < 40 then some (100 + k, 1) else none
  | 5 => if k < 40 then some (100 + k, 2) else none
  | 6 => if k < 40 then some (100 + k, 3) else none
  | 7 => if k < 40 then some (100 + k, 4) else none
  | 8 => if k < 40 then some (100 + k, 5) else none
  | 9 => if k < 40 then some (100 + k, 6) else none
  | 12 => if k < 40 then some (100 + k, 9) else none
  | 13 => if k < 40 then some (100 + k, 10) else none
  | 14 => some (63, k)
  | 15 => if k < 4 then some (80 + k, 0) else none
  | 16 => if k < 4 then some (80 + k, 1) else none
  | 17 => if k < 4 then some (80 + k, 2) else none
  | 19 => if k < 3 then some (84 + k, 1) else none
  | 20 => if k < 3 then some (84 + k, 2) else none
  | 22 => some (73, k)
  | 23 => some (72, k)
  | 24 => some (74, k)
  | 26 => some (76, k)
  | 27 => some (77, k)
  | 32 => if k < 40 then some (200 + k, 2) else none
  | 33 => if k < 40 then some (200 + k, 6) else none
  | 34 => if k < 40 then some (200 + k, 3) else none
  | 35 => if k < 40 then some (200 + k, 8) else none
  | 36 => if k < 40 then some (200 + k, 5) else none
  | 37 => if k < 40 then some (200 + k, 9) else none
  | 38 => if k < 40 then some (200 + k, 10) else none
  | 39 => if k < 40 then some (200 + k, 7) else none
  | 40 => if k < 40 then some (200 + k, 13) else none
  | 43 => if k < 40 then some (200 + k, 14) else none
  | _ => none
def mpT (d i : Nat) : Option (Nat × Nat) := match d with
  | 1 => some (4, i) | 2 => some (5, i) | 3 => some (6, i) | 4 => some (7, i) | 5 => some (8, i) | 6 => some (9, i) | 9 => some (12, i) | 10 => some (13, i) | _ => none
def mpK (d j : Nat) : Option (Nat × Nat) := match d with
  | 2 => some (32, j) | 6 => some (33, j) | 3 => some (34, j) | 8 => some (35, j) | 5 => some (36, j) | 9 => some (37, j) | 10 => some (38, j) | 7 => some (39, j) | 13 => some (40, j) | 14 => some (43, j) | _ => none
def mpE (d e : Nat) : Option (Nat × Nat) := match d with
  | 0 => some (15, e) | 1 => some (16, e) | 2 => some (17, e) | _ => none
def mpC (d c : Nat) : Option (Nat × Nat) := match d with
  | 1 => some (19, c) | 2 => some (20, c) | _ => none
def mpS (c d : Nat) : Option (Nat × Nat) := match c, d with
  | 60, 9 => some (0, 1) | 60, 8 => some (0, 27) | 67, 3 => some (0, 20) | 67, 6 => some (0, 24) | 68, 0 => some (0, 44) | 68, 1 => some (0, 45) | 68, 2 => some (0, 46)
  | 63, d => some (14, d) | 73, d => some (22, d) | 72, d => some (23, d) | 74, d => some (24, d) | 76, d => some (26, d) | 77, d => some (27, d) | _, _ => none
/-- the other way -/
def mp (c d : Nat) : Option (Nat × Nat) := if c < 80 then mpS c d else if c < 84 then mpE d (c - 80) else if c < 87 then mpC d (c - 84) else if c < 100 then none else if c < 140 then mpT d (c - 100) else if c < 200 then none else if c < 240 then mpK d (c - 200) else none
theorem mp_T {d i : Nat} (h : i < 40) : mp (100 + i) d = mpT d i := by
  unfold mp
  rw [if_neg (by omega), if_neg (by omega), if_neg (by omega), if_neg (by omega), if_pos (by omega), show 100 + i - 100 = i by omega]
theorem mp_K {d j : Nat} (h : j < 40) : mp (200 + j) d = mpK d j := by
  unfold mp
  rw [if_neg (by omega), if_neg (by omega), if_neg (by omega), if_neg (by omega), if_neg (by omega), if_neg (by omega), if_pos (by omega), show 200 + j - 200 = j by omega]
theorem mp_E {d e : Nat} (h : e < 4) : mp (80 + e) d = mpE d e := by
  unfold mp
  rw [if_neg (by omega), if_pos (by omega), show 80 + e - 80 = e by omega]
theorem mp_C {d c : Nat} (h : c < 3) : mp (84 + c) d = mpC d c := by
  unfold mp
  rw [if_neg (by omega), if_neg (by omega), if_pos (by omega), show 84 + c - 84 = c by omega]
theorem ite_some {p : Prop} [Decidable p] {α : Type} {a c : α} (h : (if p then some a else none) = some c) : p ∧ a = c := by
  by_cases hp : p
  · rw [if_pos hp] at h
    exact ⟨hp, Option.some.inj h⟩
  · rw [if_neg hp] at h
    cases h
theorem mp_pc {o k : Nat} {c : Nat × Nat} (h : pc o k = some c) : mp c.1 c.2 = some (o, k) := by
  unfold pc at h
  split at h
  · split at h
    all_goals first | (cases h; rfl) | cases h
  all_goals first
    | (obtain ⟨h1, h2⟩ := ite_some h
       subst h2
       first | exact (mp_T h1).trans rfl | exact (mp_K h1).trans rfl | exact (mp_E h1).trans rfl | exact (mp_C h1).trans rfl)
    | (cases h; rfl)
    | cases h
/-- pairs hold alike, but for those of S (model cells) -/
def Rx (S : List (Nat × Nat)) (gc gm : sG) : Prop := ∀ (o k : Nat) (c : Nat × Nat), pc o k = some c → (o, k) ∉ S → gc c.1 c.2 = gm o k
theorem Rx_1 {S : List (Nat × Nat)} {gc gm : sG} {a b c d : Nat} {v : Int32} (hp : pc a b = some (c, d)) (h : Rx ((a, b) :: S) gc gm) (hv : gm a b = v) : Rx S (sy_up gc c d v) gm := by
  intro o k e he hS
  by_cases h1 : o = a ∧ k = b
  · obtain ⟨rfl, rfl⟩ := h1
    rw [hp] at he
    cases he
    rw [sy_up_e, hv]
  · have h2 : ¬ (e.1 = c ∧ e.2 = d) := fun h3 => by
      have h4 := mp_pc he
      have h5 := mp_pc hp
      rw [h3.1, h3.2] at h4
      cases h4.symm.trans h5
      exact h1 ⟨rfl, rfl⟩
    rw [sy_up_a, if_neg h2]
    exact h o k e he (fun h3 => by
      rcases List.mem_cons.mp h3 with h4 | h4
      · cases h4; exact h1 ⟨rfl, rfl⟩
      · exact hS h4)
theorem Rx_n {S : List (Nat × Nat)} {gc gm : sG} {c d : Nat} {v : Int32} (hp : mp c d = none) (h : Rx S gc gm) : Rx S (sy_up gc c d v) gm := by
  intro o k e he hS
  have h2 : ¬ (e.1 = c ∧ e.2 = d) := fun h3 => by
    have h4 := mp_pc he
    rw [h3.1, h3.2, hp] at h4
    cases h4
  rw [sy_up_a, if_neg h2]
  exact h o k e he hS
theorem Rx_m {S : List (Nat × Nat)} {gc gm : sG} {a b : Nat} {v : Int32} (hp : (a, b) ∈ S) (h : Rx S gc gm) : Rx S gc (sy_up gm a b v) := by
  intro o k e he hS
  have h2 : ¬ (o = a ∧ k = b) := fun h3 => by rw [h3.1, h3.2] at hS; exact hS hp
  rw [sy_up_a, if_neg h2]
  exact h o k e he hS
theorem Rx_mn {S : List (Nat × Nat)} {gc gm : sG} {a b : Nat} {v : Int32} (hp : pc a b = none) (h : Rx S gc gm) : Rx S gc (sy_up gm a b v) := by
  intro o k e he hS
  have h2 : ¬ (o = a ∧ k = b) := fun h3 => by rw [h3.1, h3.2, hp] at he; cases he
  rw [sy_up_a, if_neg h2]
  exact h o k e he hS
theorem Rx_w {S : List (Nat × Nat)} {gc gm : sG} (h : Rx [] gc gm) : Rx S gc gm := fun o k e he _ => h o k e he (by simp)
/-- a pair's both cells take one value -/
theorem Rx_p {gc gm : sG} {a b c d : Nat} {v : Int32} (hp : pc a b = some (c, d)) (h : Rx [] gc gm) : Rx [] (sy_up gc c d v) (sy_up gm a b v) :=
  Rx_1 hp (Rx_m (by simp) (Rx_w h)) (sy_up_e _ _ _ _)
theorem rd {gc gm : sG} (h : Rx [] gc gm) {a b c d : Nat} (hp : pc a b = some (c, d)) : gc c d = gm a b := h a b (c, d) hp (by simp)
