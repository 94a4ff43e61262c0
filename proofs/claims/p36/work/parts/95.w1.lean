def adL (a : Nat) (b : Nat → Nat) (o z : Nat) : Nat → Nat := fun k => ([z, z, z, z, z, z, z, z, z, z, z, z, z, z, z, z, z, z, z, z, z, z, z, z, z, z, z, z, z, z, z, z, z, z, z, z, z, z, z, z, z, z, z, z, z, z, z, z, z, z, z, z, z, z, z, z, z, z, z, z, a, (b 0), (b 1), (b 2), (b 3), (b 8), (b 12), (b 13), (b 19), z, z, z, (b 14), (b 15), (b 16), z, (b 17), (b 18), (b 20), z, (b 4), (b 5), (b 6), (b 7), (b 9), (b 10), (b 11), z, z, z, o] : List Nat).getD k z
def fF : Nat → Int32 := va_up (va_up (va_up (va_up (fun _ => 0) 0 100) 1 100) 2 100) 3 100
def fK (x : Int32) : Nat → Int32 := fun k => if k = 0 then x else if k = 1 then 50 else if k = 2 then 1000 else 0
def gL : sG := fun o => if o = 60 then va_up (fun _ => 0) 8 120 else if o = 63 then fF else if o = 84 then fK 0 else if o = 85 then fK 1 else if o = 86 then fK 2 else fun _ => 0
def qL : sQ := fun o => if o = 64 then (fun e => if e < 4 then some (80 + e) else none) else if o = 65 then (fun c => if c < 3 then some (84 + c) else none) else if o = 66 then (fun p => if p < 10 then some 84 else none) else fun _ => none
def oL : List Nat := [60, 61, 62, 63, 64, 80, 81, 82, 83, 65, 84, 85, 86, 66, 67, 72, 73, 74, 76, 77, 68, 78, 90]
theorem oL_all : ∀ o, sy_kd 0 0 0 0 o < 99 → o ∈ oL := by
  intro o h
  by_cases h1 : o < 100
  · have key : ∀ o, o < 100 → sy_kd 0 0 0 0 o < 99 → o ∈ oL := by decide +kernel
    exact key o h1 h
  · exfalso
    unfold sy_kd at h
    rw [if_neg h1] at h
    by_cases h2 : o < 200
    · rw [if_pos h2, if_neg (by omega)] at h
      omega
    · rw [if_neg h2, if_neg (by omega)] at h
      omega
abbrev wL (Z : sZ) (a : Nat) (b : Nat → Nat) (o : Nat) : va_W := [(a, .inr (7, [.ref (b 0), .ref (b 1), .ref (b 2), .ref (b 3), .ref (b 8), .ref (b 12), .ref (b 13), .ref (b 19), .int 120, .int 0])), ((b 0), .inr (0, [.int 0, .ref Z.2.2.2, .int 0])), ((b 1), .inr (0, [.int 0, .ref Z.2.2.2, .int 0])), ((b 2), .inl (Z.2.1 0, 4, .inl (va_up (va_up (va_up (va_up (fun _ => 0) 0 100) 1 100) 2 100) 3 100))), ((b 3), .inl (Z.2.1 3, 4, .inr (.inr (.inr (.inr (va_up (va_up (va_up (va_up (fun _ => none) 0 (some (b 4))) 1 (some (b 5))) 2 (some (b 6))) 3 (some (b 7)))))))), ((b 4), .inr (2, [.int 0, .int 0, .int 0])), ((b 5), .inr (2, [.int 0, .int 0, .int 0])), ((b 6), .inr (2, [.int 0, .int 0, .int 0])), ((b 7), .inr (2, [.int 0, .int 0, .int 0])), ((b 8), .inl (Z.2.1 4, 3, .inr (.inr (.inr (.inr (va_up (va_up (va_up (fun _ => none) 0 (some (b 9))) 1 (some (b 10))) 2 (some (b 11)))))))), ((b 9), .inr (1, [.int 0, .int 50, .int 1000])), ((b 10), .inr (1, [.int 1, .int 50, .int 1000])), ((b 11), .inr (1, [.int 2, .int 50, .int 1000])), ((b 12), .inl (Z.2.1 4, 10, .inr (.inr (.inr (.inr (va_up (va_up (va_up (va_up (va_up (va_up (va_up (va_up (va_up (va_up (fun _ => none) 0 (some (b 9))) 1 (some (b 9))) 2 (some (b 9))) 3 (some (b 9))) 4 (some (b 9))) 5 (some (b 9))) 6 (some (b 9))) 7 (some (b 9))) 8 (some (b 9))) 9 (some (b 9)))))))), ((b 13), .inr (3, [.ref (b 14), .ref (b 15), .ref (b 16), .int 0, .ref (b 17), .ref (b 18), .int 0])), ((b 14), .inl (Z.2.1 0, 30, .inl (fun _ => 0))), ((b 15), .inl (Z.2.1 0, 30, .inl (fun _ => 0))), ((b 16), .inl (Z.2.1 0, 30, .inl (fun _ => 0))), ((b 17), .inl (Z.2.1 0, 10, .inl (fun _ => 0))), ((b 18), .inl (Z.2.1 0, 10, .inl (fun _ => 0))), ((b 19), .inr (6, [.int 0, .int 0, .int 0, .ref (b 20), .int 0])), ((b 20), .inl (Z.2.1 0, 600, .inl (fun _ => 0)))] ++ [(o, .inl (Z.2.1 0, 40, .inl (fun _ => 0)))]
theorem qL_64 (a : Nat) (b : Nat → Nat) (o z : Nat) : (va_up (va_up (va_up (va_up (fun _ => none) 0 (some (b 4))) 1 (some (b 5))) 2 (some (b 6))) 3 (some (b 7))) = fun j => (qL 64 j).map (adL a b o z) := by
  funext j
  match j with
  | 0 => rfl
  | 1 => rfl
  | 2 => rfl
  | 3 => rfl
  | j + 4 =>
    have h9 : ¬ j + 4 < 4 := by omega
    simp [va_up, qL, h9]
theorem qL_65 (a : Nat) (b : Nat → Nat) (o z : Nat) : (va_up (va_up (va_up (fun _ => none) 0 (some (b 9))) 1 (some (b 10))) 2 (some (b 11))) = fun j => (qL 65 j).map (adL a b o z) := by
  funext j
  match j with
  | 0 => rfl
  | 1 => rfl
  | 2 => rfl
  | j + 3 =>
    have h9 : ¬ j + 3 < 3 := by omega
    simp [va_up, qL, h9]
theorem qL_66 (a : Nat) (b : Nat → Nat) (o z : Nat) : (va_up (va_up (va_up (va_up (va_up (va_up (va_up (va_up (va_up (va_up (fun _ => none) 0 (some (b 9))) 1 (some (b 9))) 2 (some (b 9))) 3 (some (b 9))) 4 (some (b 9))) 5 (some (b 9))) 6 (some (b 9))) 7 (some (b 9))) 8 (some (b 9))) 9 (some (b 9))) = fun j => (qL 66 j).map (adL a b o z) := by
  funext j
  match j with
  | 0 => rfl
  | 1 => rfl
  | 2 => rfl
  | 3 => rfl
  | 4 => rfl
  | 5 => rfl
  | 6 => rfl
  | 7 => rfl
  | 8 => rfl
  | 9 => rfl
  | j + 10 =>
    have h9 : ¬ j + 10 < 10 := by omega
    simp [va_up, qL, h9]
set_option maxHeartbeats 8000000 in
set_option maxRecDepth 100000 in
theorem sy_start {Z : sZ} {H : Heap} {A : Nat → Prop} {a : Nat} {b : Nat → Nat} {o : Nat} (hP : va_P Z.1 vwCl (wL Z a b o) H) (hD : va_D A (wL Z a b o)) (hA : ∀ q, A q → Z.2.2.1 ≤ q) : Sy Z 0 0 0 0 (adL a b o Z.2.2.2) gL qL H := by
  have key : ∀ x ∈ oL, va_at Z.1 vwCl (adL a b o Z.2.2.2 x, sy_ent Z.2.1 (adL a b o Z.2.2.2) x (sy_ln 0 0 x) (sy_kd 0 0 0 0 x) (gL x) (qL x)) H := by
    unfold oL
    refine List.forall_mem_cons.mpr ⟨hP 0 _ rfl, ?_⟩
    refine List.forall_mem_cons.mpr ⟨hP 1 _ rfl, ?_⟩
    refine List.forall_mem_cons.mpr ⟨hP 2 _ rfl, ?_⟩
    refine List.forall_mem_cons.mpr ⟨hP 3 _ rfl, ?_⟩
    refine List.forall_mem_cons.mpr ⟨(by
      have h := hP 4 _ rfl
      rw [qL_64 a b o Z.2.2.2] at h
      exact h), ?_⟩
    refine List.forall_mem_cons.mpr ⟨hP 5 _ rfl, ?_⟩
    refine List.forall_mem_cons.mpr ⟨hP 6 _ rfl, ?_⟩
    refine List.forall_mem_cons.mpr ⟨hP 7 _ rfl, ?_⟩
    refine List.forall_mem_cons.mpr ⟨hP 8 _ rfl, ?_⟩
    refine List.forall_mem_cons.mpr ⟨(by
      have h := hP 9 _ rfl
      rw [qL_65 a b o Z.2.2.2] at h
      exact h), ?_⟩
    refine List.forall_mem_cons.mpr ⟨hP 10 _ rfl, ?_⟩
    refine List.forall_mem_cons.mpr ⟨hP 11 _ rfl, ?_⟩
    refine List.forall_mem_cons.mpr ⟨hP 12 _ rfl, ?_⟩
    refine List.forall_mem_cons.mpr ⟨(by
      have h := hP 13 _ rfl
      rw [qL_66 a b o Z.2.2.2] at h
      exact h), ?_⟩
    refine List.forall_mem_cons.mpr ⟨hP 14 _ rfl, ?_⟩
    refine List.forall_mem_cons.mpr ⟨hP 15 _ rfl, ?_⟩
    refine List.forall_mem_cons.mpr ⟨hP 16 _ rfl, ?_⟩
    refine List.forall_mem_cons.mpr ⟨hP 17 _ rfl, ?_⟩
    refine List.forall_mem_cons.mpr ⟨hP 18 _ rfl, ?_⟩
    refine List.forall_mem_cons.mpr ⟨hP 19 _ rfl, ?_⟩
    refine List.forall_mem_cons.mpr ⟨hP 20 _ rfl, ?_⟩
    refine List.forall_mem_cons.mpr ⟨hP 21 _ rfl, ?_⟩
    refine List.forall_mem_cons.mpr ⟨hP 22 _ rfl, ?_⟩
    exact fun _ h => nomatch h
  have hm : oL.map (adL a b o Z.2.2.2) = (wL Z a b o).map (fun e => e.1) := rfl
  have at' : ∀ x ∈ oL, ∃ (i : Nat) (e : Nat × va_E), oL[i]? = some x ∧ (wL Z a b o)[i]? = some e ∧ e.1 = adL a b o Z.2.2.2 x := by
    intro x hx
    obtain ⟨i, hi⟩ := List.mem_iff_getElem?.mp hx
    have h1 : (oL.map (adL a b o Z.2.2.2))[i]? = some (adL a b o Z.2.2.2 x) := by rw [List.getElem?_map, hi]; rfl
    rw [hm, List.getElem?_map] at h1
    cases h2 : (wL Z a b o)[i]? with
    | none => rw [h2] at h1; cases h1
    | some e => rw [h2] at h1; exact ⟨i, e, hi, h2, Option.some.inj h1⟩
  refine ⟨fun x hx => key x (oL_all x hx), fun x hx => ?_, fun x y hx hy e => ?_⟩
  · obtain ⟨i, e, -, h2, h3⟩ := at' x (oL_all x (by omega))
    rw [← h3]
    exact hA _ (hD.2 i e h2)
  · obtain ⟨i, e1, h1, h2, h3⟩ := at' x (oL_all x hx)
    obtain ⟨j, e2, h4, h5, h6⟩ := at' y (oL_all y (by omega))
    have h7 := hD.1 i j e1 e2 h2 h5 (by rw [h3, h6, e])
    subst h7
    exact Option.some.inj (h1.symm.trans h4)
theorem ci_start : CI 0 0 0 0 0 gL qL := by
  refine ⟨⟨rfl, by decide, by decide, by decide, rfl, by decide, by decide, by decide⟩, ⟨⟨0, by decide, rfl⟩, ⟨0, by decide, rfl⟩, fun k _ => by show 0 ≤ (0 : Int32).toInt ∧ (0 : Int32).toInt ≤ 100; decide⟩, ⟨⟨0, by decide, rfl, fun j h => absurd h (by omega)⟩, by show 14 ≤ (120 : Int32).toInt; decide⟩, fun i h => absurd h (by omega), fun i h => absurd h (by omega), ⟨⟨0, by decide, rfl, rfl⟩, rfl, by show (0 : Int32).toInt ≤ (0 : Int32).toInt; decide, by show 0 ≤ (0 : Int32).toInt; decide, by show (0 : Int32).toInt + (0 : Int32).toInt ≤ ((0 * cB : Nat) : Int); decide⟩, ⟨fun i h => absurd h (by omega), fun i h => absurd h (by omega)⟩, ⟨fun k h => absurd h (by omega), fun k h => absurd h (by omega), fun e he => if_pos he, fun c hc => if_pos hc, fun _ _ => rfl, fun _ _ => rfl, fun o k r hr => ?_, fun p hp => ⟨0, by decide, if_pos hp⟩⟩⟩
  unfold qL at hr
  split at hr
  · dsimp only at hr
    split at hr
    · cases hr; omega
    · cases hr
  · split at hr
    · dsimp only at hr
      split at hr
      · cases hr; omega
      · cases hr
    · split at hr
      · dsimp only at hr
        split at hr
        · cases hr; omega
        · cases hr
      · cases hr
