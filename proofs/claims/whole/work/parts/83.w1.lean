def adL (a : Nat) (b : Nat → Nat) (m : Nat) (c : Nat → Nat) (o z : Nat) : Nat → Nat := fun k => ([m, z, z, z, (c 0), (c 1), (c 2), (c 3), (c 4), (c 5), (c 6), (c 7), (c 8), (c 9), (c 10), (c 11), (c 12), (c 13), (c 14), (c 15), (c 16), z, (c 17), (c 18), (c 19), z, (c 20), (c 21), z, z, (c 22), (c 23), (c 24), (c 25), (c 26), (c 27), (c 28), (c 29), (c 30), (c 31), (c 32), (c 33), (c 34), (c 35), (c 36), z, z, z, z, z, z, z, z, z, z, z, z, z, z, z, a, (b 0), (b 1), (b 2), (b 3), (b 8), (b 12), (b 13), (b 19), z, z, z, (b 14), (b 15), (b 16), z, (b 17), (b 18), (b 20), z, (b 4), (b 5), (b 6), (b 7), (b 9), (b 10), (b 11), z, z, z, o] : List Nat).getD k z
def fF : Nat → Int32 := va_up (va_up (va_up (va_up (fun _ => 0) 0 100) 1 100) 2 100) 3 100
def fS : Nat → Int32 := va_up (va_up (va_up (fun _ => 0) 0 50) 1 50) 2 50
def fC : Nat → Int32 := va_up (va_up (va_up (fun _ => 0) 0 1000) 1 1000) 2 1000
def fN : Nat → Int32 := fun j => if j < 40 then -1 else 0
def fK (x : Int32) : Nat → Int32 := fun k => if k = 0 then x else if k = 1 then 50 else if k = 2 then 1000 else 0
def gL : sG := fun o => if o = 0 then va_up (fun _ => 0) 27 120 else if o = 14 then fF else if o = 19 then fS else if o = 20 then fC else if o = 41 then fN else if o = 60 then va_up (fun _ => 0) 8 120 else if o = 63 then fF else if o = 84 then fK 0 else if o = 85 then fK 1 else if o = 86 then fK 2 else fun _ => 0
def qL : sQ := fun o => if o = 64 then (fun e => if e < 4 then some (80 + e) else none) else if o = 65 then (fun c => if c < 3 then some (84 + c) else none) else if o = 66 then (fun p => if p < 10 then some 84 else none) else fun _ => none
def oL : List Nat := [60, 61, 62, 63, 64, 80, 81, 82, 83, 65, 84, 85, 86, 66, 67, 72, 73, 74, 76, 77, 68, 78, 0, 4, 5, 6, 7, 8, 9, 10, 11, 12, 13, 14, 15, 16, 17, 18, 19, 20, 22, 23, 24, 26, 27, 30, 31, 32, 33, 34, 35, 36, 37, 38, 39, 40, 41, 42, 43, 44, 90]
theorem oL_all : ∀ o, sy_kd 0 0 0 0 o < 99 → o ∈ oL := by
  intro o h
  by_cases h1 : o < 100
  · have key : ∀ o, o < 100 → sy_kd 0 0 0 0 o < 99 → o ∈ oL := by decide +kernel
    exact key o h1 h
  · exfalso
    unfold sy_kd at h
    rw [if_neg h1] at h
    by_cases h2 : o < 200
    · rw [if_pos h2, if_neg (by omega)] at h
      omega
    · rw [if_neg h2, if_neg (by omega)] at h
      omega
abbrev wL (Z : sZ) (a : Nat) (b : Nat → Nat) (m : Nat) (c : Nat → Nat) (o : Nat) : va_W := [(a, .inr (7, [.ref (b 0), .ref (b 1), .ref (b 2), .ref (b 3), .ref (b 8), .ref (b 12), .ref (b 13), .ref (b 19), .int 120, .int 0])), ((b 0), .inr (0, [.int 0, .ref Z.2.2.2, .int 0])), ((b 1), .inr (0, [.int 0, .ref Z.2.2.2, .int 0])), ((b 2), .inl (Z.2.1 0, 4, .inl (va_up (va_up (va_up (va_up (fun _ => 0) 0 100) 1 100) 2 100) 3 100))), ((b 3), .inl (Z.2.1 3, 4, .inr (.inr (.inr (.inr (va_up (va_up (va_up (va_up (fun _ => none) 0 (some (b 4))) 1 (some (b 5))) 2 (some (b 6))) 3 (some (b 7)))))))), ((b 4), .inr (2, [.int 0, .int 0, .int 0])), ((b 5), .inr (2, [.int 0, .int 0, .int 0])), ((b 6), .inr (2, [.int 0, .int 0, .int 0])), ((b 7), .inr (2, [.int 0, .int 0, .int 0])), ((b 8), .inl (Z.2.1 4, 3, .inr (.inr (.inr (.inr (va_up (va_up (va_up (fun _ => none) 0 (some (b 9))) 1 (some (b 10))) 2 (some (b 11)))))))), ((b 9), .inr (1, [.int 0, .int 50, .int 1000])), ((b 10), .inr (1, [.int 1, .int 50, .int 1000])), ((b 11), .inr (1, [.int 2, .int 50, .int 1000])), ((b 12), .inl (Z.2.1 4, 10, .inr (.inr (.inr (.inr (va_up (va_up (va_up (va_up (va_up (va_up (va_up (va_up (va_up (va_up (fun _ => none) 0 (some (b 9))) 1 (some (b 9))) 2 (some (b 9))) 3 (some (b 9))) 4 (some (b 9))) 5 (some (b 9))) 6 (some (b 9))) 7 (some (b 9))) 8 (some (b 9))) 9 (some (b 9)))))))), ((b 13), .inr (3, [.ref (b 14), .ref (b 15), .ref (b 16), .int 0, .ref (b 17), .ref (b 18), .int 0])), ((b 14), .inl (Z.2.1 0, 30, .inl (fun _ => 0))), ((b 15), .inl (Z.2.1 0, 30, .inl (fun _ => 0))), ((b 16), .inl (Z.2.1 0, 30, .inl (fun _ => 0))), ((b 17), .inl (Z.2.1 0, 10, .inl (fun _ => 0))), ((b 18), .inl (Z.2.1 0, 10, .inl (fun _ => 0))), ((b 19), .inr (6, [.int 0, .int 0, .int 0, .ref (b 20), .int 0])), ((b 20), .inl (Z.2.1 0, 600, .inl (fun _ => 0)))] ++ [(m, .inr (8, [.int 0, .int 0, .int 0, .ref (c 0), .ref (c 1), .ref (c 2), .ref (c 3), .ref (c 4), .ref (c 5), .ref (c 6), .ref (c 7), .ref (c 8), .ref (c 9), .ref (c 10), .ref (c 11), .ref (c 12), .ref (c 13), .ref (c 14), .ref (c 15), .ref (c 16), .int 0, .ref (c 17), .ref (c 18), .ref (c 19), .int 0, .ref (c 20), .ref (c 21), .int 120, .int 0, .ref (c 22), .ref (c 23), .ref (c 24), .ref (c 25), .ref (c 26), .ref (c 27), .ref (c 28), .ref (c 29), .ref (c 30), .ref (c 31), .ref (c 32), .ref (c 33), .ref (c 34), .ref (c 35), .ref (c 36), .int 0, .int 0, .int 0])), ((c 0), .inl (Z.2.1 0, 40, .inl (fun _ => 0))), ((c 1), .inl (Z.2.1 0, 40, .inl (fun _ => 0))), ((c 2), .inl (Z.2.1 0, 40, .inl (fun _ => 0))), ((c 3), .inl (Z.2.1 0, 40, .inl (fun _ => 0))), ((c 4), .inl (Z.2.1 1, 40, .inl (fun _ => 0))), ((c 5), .inl (Z.2.1 1, 40, .inl (fun _ => 0))), ((c 6), .inl (Z.2.1 0, 40, .inl (fun _ => 0))), ((c 7), .inl (Z.2.1 0, 40, .inl (fun _ => 0))), ((c 8), .inl (Z.2.1 0, 40, .inl (fun _ => 0))), ((c 9), .inl (Z.2.1 0, 40, .inl (fun _ => 0))), ((c 10), .inl (Z.2.1 0, 4, .inl (va_up (va_up (va_up (va_up (fun _ => 0) 0 100) 1 100) 2 100) 3 100))), ((c 11), .inl (Z.2.1 0, 4, .inl (fun _ => 0))), ((c 12), .inl (Z.2.1 0, 4, .inl (fun _ => 0))), ((c 13), .inl (Z.2.1 0, 4, .inl (fun _ => 0))), ((c 14), .inl (Z.2.1 0, 10, .inl (fun _ => 0))), ((c 15), .inl (Z.2.1 0, 3, .inl (va_up (va_up (va_up (fun _ => 0) 0 50) 1 50) 2 50))), ((c 16), .inl (Z.2.1 0, 3, .inl (va_up (va_up (va_up (fun _ => 0) 0 1000) 1 1000) 2 1000))), ((c 17), .inl (Z.2.1 0, 30, .inl (fun _ => 0))), ((c 18), .inl (Z.2.1 0, 30, .inl (fun _ => 0))), ((c 19), .inl (Z.2.1 0, 30, .inl (fun _ => 0))), ((c 20), .inl (Z.2.1 0, 10, .inl (fun _ => 0))), ((c 21), .inl (Z.2.1 0, 10, .inl (fun _ => 0))), ((c 22), .inl (Z.2.1 0, 40, .inl (fun _ => 0))), ((c 23), .inl (Z.2.1 0, 40, .inl (fun _ => 0))), ((c 24), .inl (Z.2.1 0, 40, .inl (fun _ => 0))), ((c 25), .inl (Z.2.1 0, 40, .inl (fun _ => 0))), ((c 26), .inl (Z.2.1 1, 40, .inl (fun _ => 0))), ((c 27), .inl (Z.2.1 0, 40, .inl (fun _ => 0))), ((c 28), .inl (Z.2.1 0, 40, .inl (fun _ => 0))), ((c 29), .inl (Z.2.1 0, 40, .inl (fun _ => 0))), ((c 30), .inl (Z.2.1 0, 40, .inl (fun _ => 0))), ((c 31), .inl (Z.2.1 0, 40, .inl (fun _ => 0))), ((c 32), .inl (Z.2.1 0, 40, .inl (fun _ => 0))), ((c 33), .inl (Z.2.1 0, 40, .inl (fun j => if j < 40 then -1 else 0))), ((c 34), .inl (Z.2.1 0, 40, .inl (fun _ => 0))), ((c 35), .inl (Z.2.1 0, 40, .inl (fun _ => 0))), ((c 36), .inl (Z.2.1 0, 40, .inl (fun _ => 0)))] ++ [(o, .inl (Z.2.1 5, 1, .inr (.inl (fun _ => 0))))]
theorem qL_64 (a : Nat) (b : Nat → Nat) (m : Nat) (c : Nat → Nat) (o z : Nat) : (va_up (va_up (va_up (va_up (fun _ => none) 0 (some (b 4))) 1 (some (b 5))) 2 (some (b 6))) 3 (some (b 7))) = fun j => (qL 64 j).map (adL a b m c o z) := by
  funext j
  match j with
  | 0 => rfl
  | 1 => rfl
  | 2 => rfl
  | 3 => rfl
  | j + 4 =>
    have h9 : ¬ j + 4 < 4 := by omega
    simp [va_up, qL, h9]
theorem qL_65 (a : Nat) (b : Nat → Nat) (m : Nat) (c : Nat → Nat) (o z : Nat) : (va_up (va_up (va_up (fun _ => none) 0 (some (b 9))) 1 (some (b 10))) 2 (some (b 11))) = fun j => (qL 65 j).map (adL a b m c o z) := by
  funext j
  match j with
  | 0 => rfl
  | 1 => rfl
  | 2 => rfl
  | j + 3 =>
    have h9 : ¬ j + 3 < 3 := by omega
    simp [va_up, qL, h9]
theorem qL_66 (a : Nat) (b : Nat → Nat) (m : Nat) (c : Nat → Nat) (o z : Nat) : (va_up (va_up (va_up (va_up (va_up (va_up (va_up (va_up (va_up (va_up (fun _ => none) 0 (some (b 9))) 1 (some (b 9))) 2 (some (b 9))) 3 (some (b 9))) 4 (some (b 9))) 5 (some (b 9))) 6 (some (b 9))) 7 (some (b 9))) 8 (some (b 9))) 9 (some (b 9))) = fun j => (qL 66 j).map (adL a b m c o z) := by
  funext j
  match j with
  | 0 => rfl
  | 1 => rfl
  | 2 => rfl
  | 3 => rfl
  | 4 => rfl
  | 5 => rfl
  | 6 => rfl
  | 7 => rfl
  | 8 => rfl
  | 9 => rfl
  | j + 10 =>
    have h9 : ¬ j + 10 < 10 := by omega
    simp [va_up, qL, h9]
set_option maxHeartbeats 8000000 in
set_option maxRecDepth 100000 in
theorem sy_start {Z : sZ} {H : Heap} {A : Nat → Prop} {a : Nat} {b : Nat → Nat} {m : Nat} {c : Nat → Nat} {o : Nat} (hP : va_P Z.1 vwCl (wL Z a b m c o) H) (hD : va_D A (wL Z a b m c o)) (hA : ∀ q, A q → Z.2.2.1 ≤ q) : Sy Z 0 0 0 0 (adL a b m c o Z.2.2.2) gL qL H := by
  have key : ∀ x ∈ oL, va_at Z.1 vwCl (adL a b m c o Z.2.2.2 x, sy_ent Z.2.1 (adL a b m c o Z.2.2.2) x (sy_ln 0 0 x) (sy_kd 0 0 0 0 x) (gL x) (qL x)) H := by
    unfold oL
    refine List.forall_mem_cons.mpr ⟨hP 0 _ rfl, ?_⟩
    refine List.forall_mem_cons.mpr ⟨hP 1 _ rfl, ?_⟩
    refine List.forall_mem_cons.mpr ⟨hP 2 _ rfl, ?_⟩
    refine List.forall_mem_cons.mpr ⟨hP 3 _ rfl, ?_⟩
    refine List.forall_mem_cons.mpr ⟨(by
      have h := hP 4 _ rfl
      rw [qL_64 a b m c o Z.2.2.2] at h
      exact h), ?_⟩
    refine List.forall_mem_cons.mpr ⟨hP 5 _ rfl, ?_⟩
    refine List.forall_mem_cons.mpr ⟨hP 6 _ rfl, ?_⟩
    refine List.forall_mem_cons.mpr ⟨hP 7 _ rfl, ?_⟩
    refine List.forall_mem_cons.mpr ⟨hP 8 _ rfl, ?_⟩
    refine List.forall_mem_cons.mpr ⟨(by
      have h := hP 9 _ rfl
      rw [qL_65 a b m c o Z.2.2.2] at h
      exact h), ?_⟩
    refine List.forall_mem_cons.mpr ⟨hP 10 _ rfl, ?_⟩
    refine List.forall_mem_cons.mpr ⟨hP 11 _ rfl, ?_⟩
    refine List.forall_mem_cons.mpr ⟨hP 12 _ rfl, ?_⟩
    refine List.forall_mem_cons.mpr ⟨(by
      have h := hP 13 _ rfl
      rw [qL_66 a b m c o Z.2.2.2] at h
      exact h), ?_⟩
    refine List.forall_mem_cons.mpr ⟨hP 14 _ rfl, ?_⟩
    refine List.forall_mem_cons.mpr ⟨hP 15 _ rfl, ?_⟩
    refine List.forall_mem_cons.mpr ⟨hP 16 _ rfl, ?_⟩
    refine List.forall_mem_cons.mpr ⟨hP 17 _ rfl, ?_⟩
    refine List.forall_mem_cons.mpr ⟨hP 18 _ rfl, ?_⟩
    refine List.forall_mem_cons.mpr ⟨hP 19 _ rfl, ?_⟩
    refine List.forall_mem_cons.mpr ⟨hP 20 _ rfl, ?_⟩
    refine List.forall_mem_cons.mpr ⟨hP 21 _ rfl, ?_⟩
    refine List.forall_mem_cons.mpr ⟨hP 22 _ rfl, ?_⟩
    refine List.forall_mem_cons.mpr ⟨hP 23 _ rfl, ?_⟩
    refine List.forall_mem_cons.mpr ⟨hP 24 _ rfl, ?_⟩
    refine List.forall_mem_cons.mpr ⟨hP 25 _ rfl, ?_⟩
    refine List.forall_mem_cons.mpr ⟨hP 26 _ rfl, ?_⟩
    refine List.forall_mem_cons.mpr ⟨hP 27 _ rfl, ?_⟩
    refine List.forall_mem_cons.mpr ⟨hP 28 _ rfl, ?_⟩
    refine List.forall_mem_cons.mpr ⟨hP 29 _ rfl, ?_⟩
    refine List.forall_mem_cons.mpr ⟨hP 30 _ rfl, ?_⟩
    refine List.forall_mem_cons.mpr ⟨hP 31 _ rfl, ?_⟩
    refine List.forall_mem_cons.mpr ⟨hP 32 _ rfl, ?_⟩
    refine List.forall_mem_cons.mpr ⟨hP 33 _ rfl, ?_⟩
    refine List.forall_mem_cons.mpr ⟨hP 34 _ rfl, ?_⟩
    refine List.forall_mem_cons.mpr ⟨hP 35 _ rfl, ?_⟩
    refine List.forall_mem_cons.mpr ⟨hP 36 _ rfl, ?_⟩
    refine List.forall_mem_cons.mpr ⟨hP 37 _ rfl, ?_⟩
    refine List.forall_mem_cons.mpr ⟨hP 38 _ rfl, ?_⟩
    refine List.forall_mem_cons.mpr ⟨hP 39 _ rfl, ?_⟩
    refine List.forall_mem_cons.mpr ⟨hP 40 _ rfl, ?_⟩
    refine List.forall_mem_cons.mpr ⟨hP 41 _ rfl, ?_⟩
    refine List.forall_mem_cons.mpr ⟨hP 42 _ rfl, ?_⟩
    refine List.forall_mem_cons.mpr ⟨hP 43 _ rfl, ?_⟩
    refine List.forall_mem_cons.mpr ⟨hP 44 _ rfl, ?_⟩
    refine List.forall_mem_cons.mpr ⟨hP 45 _ rfl, ?_⟩
    refine List.forall_mem_cons.mpr ⟨hP 46 _ rfl, ?_⟩
    refine List.forall_mem_cons.mpr ⟨hP 47 _ rfl, ?_⟩
    refine List.forall_mem_cons.mpr ⟨hP 48 _ rfl, ?_⟩
    refine List.forall_mem_cons.mpr ⟨hP 49 _ rfl, ?_⟩
    refine List.forall_mem_cons.mpr ⟨hP 50 _ rfl, ?_⟩
    refine List.forall_mem_cons.mpr ⟨hP 51 _ rfl, ?_⟩
    refine List.forall_mem_cons.mpr ⟨hP 52 _ rfl, ?_⟩
    refine List.forall_mem_cons.mpr ⟨hP 53 _ rfl, ?_⟩
    refine List.forall_mem_cons.mpr ⟨hP 54 _ rfl, ?_⟩
    refine List.forall_mem_cons.mpr ⟨hP 55 _ rfl, ?_⟩
    refine List.forall_mem_cons.mpr ⟨hP 56 _ rfl, ?_⟩
    refine List.forall_mem_cons.mpr ⟨hP 57 _ rfl, ?_⟩
    refine List.forall_mem_cons.mpr ⟨hP 58 _ rfl, ?_⟩
    refine List.forall_mem_cons.mpr ⟨hP 59 _ rfl, ?_⟩
    refine List.forall_mem_cons.mpr ⟨(by
      have h := hP 60 _ rfl
      rw [show (fun _ => 0 : Nat → Int64) = fun j => (gL 90 j).toInt64 from by funext j; rfl] at h
      exact h), ?_⟩
    exact fun _ h => nomatch h
  have hm : oL.map (adL a b m c o Z.2.2.2) = (wL Z a b m c o).map (fun e => e.1) := rfl
  have at' : ∀ x ∈ oL, ∃ (i : Nat) (e : Nat × va_E), oL[i]? = some x ∧ (wL Z a b m c o)[i]? = some e ∧ e.1 = adL a b m c o Z.2.2.2 x := by
    intro x hx
    obtain ⟨i, hi⟩ := List.mem_iff_getElem?.mp hx
    have h1 : (oL.map (adL a b m c o Z.2.2.2))[i]? = some (adL a b m c o Z.2.2.2 x) := by rw [List.getElem?_map, hi]; rfl
    rw [hm, List.getElem?_map] at h1
    cases h2 : (wL Z a b m c o)[i]? with
    | none => rw [h2] at h1; cases h1
    | some e => rw [h2] at h1; exact ⟨i, e, hi, h2, Option.some.inj h1⟩
  refine ⟨fun x hx => key x (oL_all x hx), fun x hx => ?_, fun x y hx hy e => ?_⟩
  · obtain ⟨i, e, -, h2, h3⟩ := at' x (oL_all x (by omega))
    rw [← h3]
    exact hA _ (hD.2 i e h2)
  · obtain ⟨i, e1, h1, h2, h3⟩ := at' x (oL_all x hx)
    obtain ⟨j, e2, h4, h5, h6⟩ := at' y (oL_all y (by omega))
    have h7 := hD.1 i j e1 e2 h2 h5 (by rw [h3, h6, e])
    subst h7
    exact Option.some.inj (h1.symm.trans h4)
theorem gL_hi {o : Nat} (h : 87 ≤ o) : gL o = fun _ => 0 := by
  unfold gL
  rw [if_neg (by omega), if_neg (by omega), if_neg (by omega), if_neg (by omega), if_neg (by omega), if_neg (by omega), if_neg (by omega), if_neg (by omega), if_neg (by omega), if_neg (by omega)]
theorem gL_E {o : Nat} (h : 64 ≤ o ∧ o < 84) : gL o = fun _ => 0 := by
  unfold gL
  rw [if_neg (by omega), if_neg (by omega), if_neg (by omega), if_neg (by omega), if_neg (by omega), if_neg (by omega), if_neg (by omega), if_neg (by omega), if_neg (by omega), if_neg (by omega)]
theorem gL_C {k : Nat} (h : k < 3) : gL (84 + k) = fK (nI k) := by
  rcases (show k = 0 ∨ k = 1 ∨ k = 2 by omega) with rfl | rfl | rfl <;> rfl
theorem ssum_0 : ∀ n, ssum (fun _ => 0) n = 0
  | 0 => rfl
  | n + 1 => by
    show ssum (fun _ => 0) n + _ = 0
    rw [ssum_0 n]
    rfl
theorem fN_lt {j : Nat} (h : j < 40) : gL 41 j = -1 := if_pos h
theorem inv_start : INV 0 40 40 0 0 0 0 gL qL gL := by
  refine ⟨fun o k c hc _ => ?_, ⟨rfl, by decide, rfl, by decide, ⟨0, by decide, rfl⟩, ⟨0, by decide, rfl⟩, fun j _ => vp_in_nI (n := 0) (by decide) (by decide), fun j _ => vp_in_nI (n := 0) (by decide) (by decide), fun j _ => vp_in_nI (n := 0) (by decide) (by decide), fun j _ => vp_in_nI (n := 0) (by decide) (by decide), 0, by decide, rfl, fun j _ => ⟨0, by decide, rfl⟩⟩, ⟨rfl, by decide, by decide, rfl, by decide, by decide, ⟨0, by decide, rfl, rfl⟩, fun i h => absurd h (by omega), fun i h => absurd h (by omega), fun c hc => by rw [gL_C hc]; rfl⟩, ⟨fun i _ _ => ⟨rfl, rfl, rfl, rfl, rfl⟩, fun j _ h => ⟨rfl, rfl, rfl, fN_lt h⟩, fun j h => absurd h (by omega), fun k _ => by show 0 ≤ (0 : Int32).toInt ∧ (0 : Int32).toInt ≤ 100; decide, ?_⟩, fun i h => absurd h (by omega), fun i h => absurd h (by omega), fun i h => absurd h (by omega), ⟨fun k h => absurd h (by omega), fun k h => absurd h (by omega), fun e he => if_pos he, fun c hc => if_pos hc, fun _ _ => rfl, fun _ _ => rfl, fun o k r hr => ?_⟩, ⟨fun p hp => ⟨0, by decide, if_pos hp, rfl⟩, fun j h => absurd h (by omega)⟩, fun i h => absurd h (by omega)⟩
  · unfold pc at hc
    split at hc
    · split at hc
      all_goals first | (cases hc; rfl) | cases hc
    all_goals first
      | (cases hc; rfl)
      | (obtain ⟨h1, h2⟩ := ite_some hc
         subst h2
         first
           | (rw [gL_hi (by omega)]; rfl)
           | (rw [gL_E (by omega)]; rfl)
           | (rw [gL_C h1]; rcases (show k = 0 ∨ k = 1 ∨ k = 2 by omega) with rfl | rfl | rfl <;> rfl))
      | cases hc
  · show (0 : Int32).toInt.natAbs + ssum (fun _ => 0) 40 ≤ 0
    rw [ssum_0]
    decide
  · unfold qL at hr
    split at hr
    · dsimp only at hr
      split at hr
      · cases hr; omega
      · cases hr
    · split at hr
      · dsimp only at hr
        split at hr
        · cases hr; omega
        · cases hr
      · split at hr
        · dsimp only at hr
          split at hr
          · cases hr; omega
          · cases hr
        · cases hr
