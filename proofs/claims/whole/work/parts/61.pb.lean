def msum (f : Nat → Int32) : Nat → Int32
  | 0 => 0
  | k + 1 => msum f k + f k
def ssum (f : Nat → Int32) : Nat → Nat
  | 0 => 0
  | k + 1 => ssum f k + (f k).toInt.natAbs
def A3 (nT nK cT cK : Nat) (gc : sG) : Prop := gc 61 2 = nI nT ∧ nT ≤ cT ∧ cT ≤ 60 ∧ gc 62 2 = nI nK ∧ nK ≤ cK ∧ cK ≤ 60 ∧ (∃ m, m ≤ 600 ∧ gc 68 4 = nI m ∧ gc 68 0 = msum (gc 78) m) ∧ (∀ i, i < nT → gc (100 + i) 0 = nI i) ∧ (∀ j, j < nK → gc (200 + j) 0 = nI j) ∧ (∀ c, c < 3 → gc (84 + c) 0 = nI c)
def A4 (B nT nK : Nat) (gm : sG) : Prop := (∀ i, nT ≤ i → i < 40 → gm 7 i = 0 ∧ gm 8 i = 0 ∧ gm 9 i = 0 ∧ gm 12 i = 0 ∧ gm 13 i = 0) ∧ (∀ j, nK ≤ j → j < 40 → gm 39 j = 0 ∧ gm 40 j = 0 ∧ gm 43 j = 0 ∧ gm 41 j = -1) ∧ (∀ j, j < nK → 0 ≤ (gm 35 j).toInt ∧ (gm 35 j).toInt ≤ 100000) ∧ (∀ k, k < 30 → 0 ≤ (gm 24 k).toInt ∧ (gm 24 k).toInt ≤ 100) ∧ (gm 0 44).toInt.natAbs + ssum (gm 43) 40 ≤ B
def A5 (nT : Nat) (gc gm : sG) : Prop := ∀ i, i < nT → (gm 8 i = 0 ∧ gc (100 + i) 7 = -1 ∧ gc (100 + i) 8 = -1) ∨ (gm 8 i = 1 ∧ gc (100 + i) 7 = gm 10 i ∧ gc (100 + i) 8 = gm 11 i)
def A6 (m nK : Nat) (gc gm : sG) : Prop := ∀ j, j < nK → (gm 41 j = -1 ∧ gc (200 + j) 11 = -1) ∨ ∃ d D, gm 0 1 = nI D ∧ D ≤ 5000 ∧ gm 41 j = nI d ∧ d ≤ D ∧ D < d + 28 + (if j < m then 0 else 1) ∧ gc (200 + j) 11 = gm 42 j ∧ gm 42 j ≠ -1 ∧ gc (200 + j) 12 = nI d
def A7 (m nK : Nat) (gc gm : sG) : Prop := ∀ j, j < nK → gm 43 j = 0 ∨ ∃ s D, gm 0 1 = nI D ∧ D ≤ 5000 ∧ gm 39 j ≠ 0 ∧ 0 < (gm 43 j).toInt ∧ (gm 43 j).toInt ≤ 100000 ∧ gm 44 j = nI s ∧ s ≤ D ∧ D ≤ s + 1000 + (if j < m then 0 else 1) ∧ gc (200 + j) 15 = nI s
def B8 (nT nK : Nat) (q : sQ) : Prop := (∀ k, k < nT → q 70 k = some (100 + k)) ∧ (∀ k, k < nK → q 71 k = some (200 + k)) ∧ (∀ e, e < 4 → q 64 e = some (80 + e)) ∧ (∀ c, c < 3 → q 65 c = some (84 + c)) ∧ (∀ k, nT ≤ k → q 70 k = none) ∧ (∀ k, nK ≤ k → q 71 k = none) ∧ (∀ o k r, q o k = some r → r < 70 ∨ (80 ≤ r ∧ r < 100 + nT) ∨ (200 ≤ r ∧ r < 200 + nK))
def B9 (nT nK : Nat) (q : sQ) (gm : sG) : Prop := (∀ p, p < 10 → ∃ c, c < 3 ∧ q 66 p = some (84 + c) ∧ gm 18 p = nI c) ∧ (∀ j, j < nK → (∃ i, i < nT ∧ q (200 + j) 1 = some (100 + i) ∧ gm 30 j = nI i) ∧ ∃ e, e < 4 ∧ q (200 + j) 4 = some (80 + e) ∧ gm 31 j = nI e)
def B10 (nT nK : Nat) (q : sQ) (gm : sG) : Prop := ∀ i, i < nT → (q (100 + i) 11 = none ∧ gm 8 i = 0 ∧ ∀ j, j < nK → gm 30 j = nI i → gm 39 j ≠ 0) ∨ ∃ j, j < nK ∧ q (100 + i) 11 = some (200 + j) ∧ gm 8 i = 1 ∧ gm 30 j = nI i ∧ gm 39 j = 0 ∧ ∀ j', j' < nK → gm 30 j' = nI i → gm 39 j' = 0 → j' = j
def INV (B m5 m6 nT nK cT cK : Nat) (gc : sG) (q : sQ) (gm : sG) : Prop := Rx [] gc gm ∧ IM nT nK gm ∧ A3 nT nK cT cK gc ∧ A4 B nT nK gm ∧ A5 nT gc gm ∧ A6 m5 nK gc gm ∧ A7 m6 nK gc gm ∧ B8 nT nK q ∧ B9 nT nK q gm ∧ B10 nT nK q gm
theorem ite_ne {p : Prop} [Decidable p] {α : Type} {a b : α} (h : ¬ p) : (if p then a else b) = b := if_neg h
theorem msum_c {f f' : Nat → Int32} : ∀ n : Nat, (∀ k, k < n → f k = f' k) → msum f n = msum f' n
  | 0, _ => rfl
  | n + 1, h => by
    show msum f n + f n = msum f' n + f' n
    rw [msum_c n (fun k hk => h k (by omega)), h n (by omega)]
theorem ssum_c {f f' : Nat → Int32} : ∀ n : Nat, (∀ k, k < n → f k = f' k) → ssum f n = ssum f' n
  | 0, _ => rfl
  | n + 1, h => by
    show ssum f n + _ = ssum f' n + _
    rw [ssum_c n (fun k hk => h k (by omega)), h n (by omega)]
theorem up_ne {α : Type} (g : Nat → Nat → α) {o k : Nat} (v : α) {o' k' : Nat} (h : o' ≠ o ∨ k' ≠ k) : sy_up g o k v o' k' = g o' k' := by rw [sy_up_a, if_neg (by omega)]
theorem A3_up {nT nK cT cK c d : Nat} {gc : sG} {v : Int32} (hcd : (c ≠ 61 ∨ d ≠ 2) ∧ (c ≠ 62 ∨ d ≠ 2) ∧ (c ≠ 68 ∨ (d ≠ 4 ∧ d ≠ 0)) ∧ c ≠ 78 ∧ (c < 84 ∨ d ≠ 0)) (h : A3 nT nK cT cK gc) : A3 nT nK cT cK (sy_up gc c d v) := by
  obtain ⟨h1, h2, h3, h4, h5, h6, ⟨m, hm, h7, h8⟩, h9, h10, h11⟩ := h
  refine ⟨by rw [up_ne gc v (by omega)]; exact h1, h2, h3, by rw [up_ne gc v (by omega)]; exact h4, h5, h6, ⟨m, hm, by rw [up_ne gc v (by omega)]; exact h7, ?_⟩, fun i hi => by rw [up_ne gc v (by omega)]; exact h9 i hi, fun j hj => by rw [up_ne gc v (by omega)]; exact h10 j hj, fun c hc => by rw [up_ne gc v (by omega)]; exact h11 c hc⟩
  rw [up_ne gc v (by omega), sy_up_o gc d v (by omega)]
  exact h8
theorem A4_up {B nT nK a b : Nat} {gm : sG} {v : Int32} (hab : ((a = 7 ∨ a = 8 ∨ a = 9 ∨ a = 12 ∨ a = 13) → b < nT) ∧ ((a = 39 ∨ a = 40 ∨ a = 41) → b < nK) ∧ a ≠ 43 ∧ a ≠ 35 ∧ a ≠ 24 ∧ (a ≠ 0 ∨ b ≠ 44)) (h : A4 B nT nK gm) : A4 B nT nK (sy_up gm a b v) := by
  obtain ⟨h1, h2, h3, h4, h5⟩ := h
  refine ⟨fun i h7 h8 => ?_, fun j h7 h8 => ?_, fun j hj => by rw [up_ne gm v (by omega)]; exact h3 j hj, fun k hk => by rw [up_ne gm v (by omega)]; exact h4 k hk, ?_⟩
  · rw [up_ne gm v (by omega), up_ne gm v (by omega), up_ne gm v (by omega), up_ne gm v (by omega), up_ne gm v (by omega)]
    exact h1 i h7 h8
  · rw [up_ne gm v (by omega), up_ne gm v (by omega), up_ne gm v (by omega), up_ne gm v (by omega)]
    exact h2 j h7 h8
  · rw [up_ne gm v (by omega), sy_up_o gm b v (by omega)]
    exact h5
theorem A5_c {nT c d : Nat} {gc gm : sG} {v : Int32} (hn : nT ≤ 40) (hcd : c < 100 ∨ 200 ≤ c ∨ (d ≠ 7 ∧ d ≠ 8)) (h : A5 nT gc gm) : A5 nT (sy_up gc c d v) gm := by
  intro i hi
  rw [up_ne gc v (by omega), up_ne gc v (by omega)]
  exact h i hi
theorem A5_m {nT a b : Nat} {gc gm : sG} {v : Int32} (hab : a ≠ 8 ∧ a ≠ 10 ∧ a ≠ 11) (h : A5 nT gc gm) : A5 nT gc (sy_up gm a b v) := by
  intro i hi
  rw [up_ne gm v (by omega), up_ne gm v (by omega), up_ne gm v (by omega)]
  exact h i hi
theorem A6_c {m nK c d : Nat} {gc gm : sG} {v : Int32} (hcd : c < 200 ∨ (d ≠ 11 ∧ d ≠ 12)) (h : A6 m nK gc gm) : A6 m nK (sy_up gc c d v) gm := by
  intro i hi
  rw [up_ne gc v (by omega), up_ne gc v (by omega)]
  exact h i hi
theorem A6_m {m nK a b : Nat} {gc gm : sG} {v : Int32} (hab : a ≠ 41 ∧ a ≠ 42 ∧ (a ≠ 0 ∨ b ≠ 1)) (h : A6 m nK gc gm) : A6 m nK gc (sy_up gm a b v) := by
  intro i hi
  rw [up_ne gm v (by omega), up_ne gm v (by omega), up_ne gm v (by omega)]
  exact h i hi
theorem A7_c {m nK c d : Nat} {gc gm : sG} {v : Int32} (hcd : c < 200 ∨ d ≠ 15) (h : A7 m nK gc gm) : A7 m nK (sy_up gc c d v) gm := by
  intro i hi
  rw [up_ne gc v (by omega)]
  exact h i hi
theorem A7_m {m nK a b : Nat} {gc gm : sG} {v : Int32} (hab : a ≠ 43 ∧ a ≠ 39 ∧ a ≠ 44 ∧ (a ≠ 0 ∨ b ≠ 1)) (h : A7 m nK gc gm) : A7 m nK gc (sy_up gm a b v) := by
  intro i hi
  rw [up_ne gm v (by omega), up_ne gm v (by omega), up_ne gm v (by omega), up_ne gm v (by omega)]
  exact h i hi
theorem B9_m {nT nK a b : Nat} {q : sQ} {gm : sG} {v : Int32} (hab : a ≠ 18 ∧ a ≠ 30 ∧ a ≠ 31) (h : B9 nT nK q gm) : B9 nT nK q (sy_up gm a b v) := by
  refine ⟨fun p hp => ?_, fun j hj => ?_⟩
  · rw [up_ne gm v (by omega)]
    exact h.1 p hp
  · rw [up_ne gm v (by omega), up_ne gm v (by omega)]
    exact h.2 j hj
theorem B10_m {nT nK a b : Nat} {q : sQ} {gm : sG} {v : Int32} (hab : a ≠ 8 ∧ a ≠ 30 ∧ a ≠ 39) (h : B10 nT nK q gm) : B10 nT nK q (sy_up gm a b v) := by
  intro i hi
  have e1 : sy_up gm a b v 8 = gm 8 := sy_up_o gm b v (by omega)
  have e2 : sy_up gm a b v 30 = gm 30 := sy_up_o gm b v (by omega)
  have e3 : sy_up gm a b v 39 = gm 39 := sy_up_o gm b v (by omega)
  rw [e1, e2, e3]
  exact h i hi
theorem im_up {nT nK a b : Nat} {gm : sG} {v : Int32} (h : (a ≠ 0 ∧ a ≠ 4 ∧ a ≠ 18 ∧ a ≠ 30 ∧ a ≠ 31 ∧ a ≠ 37) ∨ (a = 0 ∧ b ≠ 2 ∧ b ≠ 28 ∧ b ≠ 20 ∧ b ≠ 24 ∧ b ≠ 1)) (hI : IM nT nK gm) : IM nT nK (sy_up gm a b v) := by
  rcases h with h | ⟨rfl, h⟩
  · exact im_o h hI
  · exact im_0 h hI
/-- what the class's own bounds follow from -/
theorem inv_IG {B m5 m6 nT nK cT cK : Nat} {gc : sG} {q : sQ} {gm : sG} (h : INV B m5 m6 nT nK cT cK gc q gm) : IG nT nK cT cK gc := by
  obtain ⟨hR, hI, h3, -, -, -, -, -, -, -⟩ := h
  obtain ⟨i1, i2, i3, i4, ⟨t, ht, i5⟩, ⟨a, ha, i6⟩, i7, i8, i9, i10, ⟨d, hd, i11, i12⟩⟩ := hI
  obtain ⟨c1, c2, c3, c4, c5, c6, ⟨m, hm, c7, c8⟩, -, -, -⟩ := h3
  refine ⟨c1, i2, c2, c4, i4, c5, ⟨t, ht, ?_⟩, ⟨a, ha, ?_⟩, ⟨m, hm, c7⟩, fun i hi => ?_, d, hd, ?_, fun j hj => ?_⟩
  · rw [rd hR (a := 0) (b := 20) rfl]; exact i5
  · rw [rd hR (a := 0) (b := 24) rfl]; exact i6
  · rw [rd hR (a := 4) (b := i) (if_pos (by omega))]; exact i7 i (by omega)
  · rw [rd hR (a := 0) (b := 1) rfl]; exact i11
  · obtain ⟨b, hb, e⟩ := i12 j (by omega)
    exact ⟨b, hb, by rw [rd hR (a := 37) (b := j) (if_pos (by omega))]; exact e⟩
theorem inv_IQ {B m5 m6 nT nK cT cK : Nat} {gc : sG} {q : sQ} {gm : sG} (h : INV B m5 m6 nT nK cT cK gc q gm) : IQ nT nK q := by
  obtain ⟨-, -, -, -, -, -, -, h8, h9, h10⟩ := h
  refine ⟨h8.1, h8.2.1, h8.2.2.1, h8.2.2.2.1, fun p hp => ?_, fun j hj => ?_, fun i hi => ?_⟩
  · obtain ⟨c, hc, e, -⟩ := h9.1 p hp
    exact ⟨c, hc, e⟩
  · obtain ⟨⟨i, hi, e, -⟩, x, hx, e2, -⟩ := h9.2 j hj
    exact ⟨⟨i, hi, e⟩, x, hx, e2⟩
  · rcases h10 i hi with ⟨e, -, -⟩ | ⟨j, hj, e, -⟩
    · exact Or.inl e
    · exact Or.inr ⟨j, hj, e⟩
/-- a pair of cells that nothing else speaks of -/
theorem inv_p {B m5 m6 nT nK cT cK a b c d : Nat} {gc : sG} {q : sQ} {gm : sG} {v : Int32} (hp : pc a b = some (c, d)) (h3 : (c ≠ 61 ∨ d ≠ 2) ∧ (c ≠ 62 ∨ d ≠ 2) ∧ (c ≠ 68 ∨ (d ≠ 4 ∧ d ≠ 0)) ∧ c ≠ 78 ∧ (c < 84 ∨ d ≠ 0)) (h4 : ((a = 7 ∨ a = 8 ∨ a = 9 ∨ a = 12 ∨ a = 13) → b < nT) ∧ ((a = 39 ∨ a = 40 ∨ a = 41) → b < nK) ∧ a ≠ 43 ∧ a ≠ 35 ∧ a ≠ 24 ∧ (a ≠ 0 ∨ b ≠ 44)) (h5 : c < 100 ∨ 200 ≤ c ∨ (d ≠ 7 ∧ d ≠ 8))
    (h6 : (a ≠ 8 ∧ a ≠ 10 ∧ a ≠ 11) ∧ a ≠ 41 ∧ a ≠ 42 ∧ (a ≠ 0 ∨ b ≠ 1) ∧ a ≠ 43 ∧ a ≠ 39 ∧ a ≠ 44 ∧ a ≠ 18 ∧ a ≠ 30 ∧ a ≠ 31) (h7 : c < 200 ∨ (d ≠ 11 ∧ d ≠ 12 ∧ d ≠ 15)) (h8 : (a ≠ 0 ∧ a ≠ 4 ∧ a ≠ 18 ∧ a ≠ 30 ∧ a ≠ 31 ∧ a ≠ 37) ∨ (a = 0 ∧ b ≠ 2 ∧ b ≠ 28 ∧ b ≠ 20 ∧ b ≠ 24 ∧ b ≠ 1)) (h : INV B m5 m6 nT nK cT cK gc q gm) : INV B m5 m6 nT nK cT cK (sy_up gc c d v) q (sy_up gm a b v) := by
  obtain ⟨hR, hI, k3, k4, k5, k6, k7, k8, k9, k10⟩ := h
  exact ⟨Rx_p hp hR, im_up h8 hI, A3_up h3 k3, A4_up h4 k4, A5_c hI.2.1 h5 (A5_m (by omega) k5), A6_c (by omega) (A6_m (by omega) k6), A7_c (by omega) (A7_m (by omega) k7), k8, B9_m (by omega) k9, B10_m (by omega) k10⟩
/-- the refusal's own cell -/
theorem inv_0 {B m5 m6 nT nK cT cK : Nat} {gc : sG} {q : sQ} {gm : sG} {v : Int32} (h : INV B m5 m6 nT nK cT cK gc q gm) : INV B m5 m6 nT nK cT cK gc q (sy_up gm 0 0 v) := by
  obtain ⟨hR, hI, k3, k4, k5, k6, k7, k8, k9, k10⟩ := h
  exact ⟨Rx_mn rfl hR, im_0 (by decide) hI, k3, A4_up (by omega) k4, A5_m (by decide) k5, A6_m (by decide) k6, A7_m (by decide) k7, k8, B9_m (by decide) k9, B10_m (by decide) k10⟩
theorem inv_B {B B' m5 m6 nT nK cT cK : Nat} {gc : sG} {q : sQ} {gm : sG} (hB : B ≤ B') (h : INV B m5 m6 nT nK cT cK gc q gm) : INV B' m5 m6 nT nK cT cK gc q gm := by
  obtain ⟨hR, hI, k3, k4, k5, k6, k7, k8, k9, k10⟩ := h
  exact ⟨hR, hI, k3, ⟨k4.1, k4.2.1, k4.2.2.1, k4.2.2.2.1, Nat.le_trans k4.2.2.2.2 hB⟩, k5, k6, k7, k8, k9, k10⟩
theorem mp_60 {c d : Nat} {x : Nat × Nat} (h : mp c d = some x) : 60 ≤ c := by
  unfold mp at h
  by_cases h1 : c < 80
  · rw [if_pos h1] at h
    unfold mpS at h
    split at h
    all_goals first | omega | cases h
  · omega
/-- the class's memory counts from object 60 on, the reference's below -/
theorem inv_cg {B m5 m6 nT nK cT cK : Nat} {gc gc' : sG} {q : sQ} {gm : sG} (he : ∀ o, 60 ≤ o → gc' o = gc o) (h : INV B m5 m6 nT nK cT cK gc q gm) : INV B m5 m6 nT nK cT cK gc' q gm := by
  obtain ⟨hR, hI, k3, k4, k5, k6, k7, k8, k9, k10⟩ := h
  refine ⟨fun o k c hc hS => ?_, hI, ?_, k4, fun i hi => ?_, fun j hj => ?_, fun j hj => ?_, k8, k9, k10⟩
  · rw [he c.1 (mp_60 (mp_pc hc))]
    exact hR o k c hc hS
  · unfold A3
    rw [he 61 (by omega), he 62 (by omega), he 68 (by omega), he 78 (by omega)]
    obtain ⟨h1, h2, h3, h4, h5, h6, h7, h9, h10, h11⟩ := k3
    exact ⟨h1, h2, h3, h4, h5, h6, h7, fun i hi => by rw [he _ (by omega)]; exact h9 i hi, fun i hi => by rw [he _ (by omega)]; exact h10 i hi, fun i hi => by rw [he _ (by omega)]; exact h11 i hi⟩
  · rw [he _ (by omega)]; exact k5 i hi
  · rw [he _ (by omega)]; exact k6 j hj
  · rw [he _ (by omega)]; exact k7 j hj
