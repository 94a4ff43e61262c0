/-! NEW OBJECTS: the shape of the world grows; a list's array is another one -/
theorem sy_ent_ad {cy : Nat → ClassId} {ad : Nat → Nat} {u a o n kc : Nat} {r : Nat → Int32} {x : Nat → Option Nat} (hu : u = 70 ∨ u = 71 ∨ 100 ≤ u) (hx : ∀ k, x k ≠ some u) (h0 : kc = 0 → o + 9 ≠ u) : sy_ent cy (va_up ad u a) o n kc r x = sy_ent cy ad o n kc r x := by
  have c : ∀ k, k < 100 → k ≠ 70 → k ≠ 71 → va_up ad u a k = ad k := fun k h1 h2 h3 => va_up_ne ad a (by omega)
  have mm : ∀ k, (x k).map (va_up ad u a) = (x k).map ad := by
    intro k
    cases hk : x k with
    | none => rfl
    | some y =>
      have hy : y ≠ u := fun e => hx k (by rw [hk, e])
      show some (va_up ad u a y) = some (ad y)
      rw [va_up_ne ad a hy]
  have mv : ∀ k, sy_rv (va_up ad u a) (x k) = sy_rv ad (x k) := fun k => by unfold sy_rv; rw [mm]
  have mf : (fun j => (x j).map (va_up ad u a)) = fun j => (x j).map ad := funext mm
  unfold sy_ent
  split
  · rw [va_up_ne ad a (h0 rfl)]
  · rfl
  · rfl
  · rw [c 72 (by decide) (by decide) (by decide), c 73 (by decide) (by decide) (by decide), c 74 (by decide) (by decide) (by decide), c 76 (by decide) (by decide) (by decide), c 77 (by decide) (by decide) (by decide)]
  · rw [mv]
  · rw [mv, mv]
  · rw [c 78 (by decide) (by decide) (by decide)]
  · rw [c 61 (by decide) (by decide) (by decide), c 62 (by decide) (by decide) (by decide), c 63 (by decide) (by decide) (by decide), c 64 (by decide) (by decide) (by decide), c 65 (by decide) (by decide) (by decide), c 66 (by decide) (by decide) (by decide), c 67 (by decide) (by decide) (by decide), c 68 (by decide) (by decide) (by decide)]
  · rfl
  · rw [mf]
  · rw [mf]
  · rw [mf]
  · rfl
set_option maxRecDepth 100000 in
theorem sy_kd0 {nT nK cT cK o : Nat} (h : sy_kd nT nK cT cK o = 0) : o = 61 ∨ o = 62 := by
  unfold sy_kd at h
  have t : ∀ o, o < 100 → sy_kt.getD o 99 = 0 → o = 61 ∨ o = 62 := by decide
  split at h
  · rename_i h1
    split at h
    · split at h <;> omega
    · split at h
      · split at h <;> omega
      · exact t o h1 h
  · split at h
    · split at h <;> omega
    · split at h <;> omega
/-- an object more -/
theorem sy_addo {Z : sZ} {nT nK cT cK : Nat} {ad : Nat → Nat} {g g1 : sG} {q q1 : sQ} {H H1 : Heap} {u a kc nT' nK' : Nat} {e1 : va_E} (hP : Sy Z nT nK cT cK ad g q H) (hu0 : 100 ≤ u) (hk5 : kc < 50) (hkd' : ∀ o, o ≠ u → sy_kd nT' nK' cT cK o = sy_kd nT nK cT cK o) (hu : sy_kd nT' nK' cT cK u = kc) (ha : H.size ≤ a) (haZ : Z.2.2.1 ≤ a) (o1 : ∀ b, b < H.size → H1[b]? = H[b]?) (h1 : va_at Z.1 vwCl (a, e1) H1) (he : sy_ent Z.2.1 (va_up ad u a) u (sy_ln cT cK u) kc (g1 u) (q1 u) = e1) (hx : ∀ o k, q o k ≠ some u) (hg : ∀ o, o ≠ u → g1 o = g o) (hq : ∀ o, o ≠ u → q1 o = q o) : Sy Z nT' nK' cT cK (va_up ad u a) g1 q1 H1 := by
  have lt : ∀ o, sy_kd nT nK cT cK o < 99 → ad o < H.size := fun o ho => (hP.1 o ho).lt
  refine ⟨fun o ho => ?_, fun o ho => ?_, fun o o' h2 h3 h4 => ?_⟩
  · by_cases e : o = u
    · subst e
      rw [va_up_self, hu, he]
      exact h1
    · rw [hkd' o e] at ho
      rw [hkd' o e, hg o e, hq o e, va_up_ne ad a e, sy_ent_ad (Or.inr (Or.inr hu0)) (hx o) (fun z => by rcases sy_kd0 z with z | z <;> omega)]
      exact (hP.1 o ho).kept (o1 _ (lt o ho))
  · by_cases e : o = u
    · subst e
      rw [va_up_self]
      exact haZ
    · rw [hkd' o e] at ho
      rw [va_up_ne ad a e]
      exact hP.2.1 o ho
  · by_cases e : o = u
    · by_cases e' : o' = u
      · rw [e, e']
      · rw [hkd' o' e'] at h3
        rw [e, va_up_self, va_up_ne ad a e'] at h4
        exact absurd (lt o' (by omega)) (by omega)
    · rw [hkd' o e] at h2
      by_cases e' : o' = u
      · rw [e', va_up_self, va_up_ne ad a e] at h4
        exact absurd (lt o h2) (by omega)
      · rw [hkd' o' e'] at h3
        rw [va_up_ne ad a e, va_up_ne ad a e'] at h4
        exact hP.2.2 o o' h2 h3 h4
theorem sy_kdT1 {nT nK cT cK : Nat} (h : nT < 100) : (∀ o, o ≠ 100 + nT → sy_kd (nT + 1) nK cT cK o = sy_kd nT nK cT cK o) ∧ sy_kd (nT + 1) nK cT cK (100 + nT) = 4 := by
  refine ⟨fun o ho => ?_, ?_⟩
  · unfold sy_kd
    by_cases h1 : o < 100
    · rw [if_pos h1, if_pos h1]
    · rw [if_neg h1, if_neg h1]
      by_cases h2 : o < 200
      · rw [if_pos h2, if_pos h2]
        by_cases h3 : o < 100 + nT
        · rw [if_pos (by omega), if_pos h3]
        · rw [if_neg (by omega), if_neg h3]
      · rw [if_neg h2, if_neg h2]
  · unfold sy_kd
    rw [if_neg (by omega), if_pos (by omega), if_pos (by omega)]
theorem sy_kdK1 {nT nK cT cK : Nat} : (∀ o, o ≠ 200 + nK → sy_kd nT (nK + 1) cT cK o = sy_kd nT nK cT cK o) ∧ sy_kd nT (nK + 1) cT cK (200 + nK) = 5 := by
  refine ⟨fun o ho => ?_, ?_⟩
  · unfold sy_kd
    by_cases h1 : o < 100
    · rw [if_pos h1, if_pos h1]
    · rw [if_neg h1, if_neg h1]
      by_cases h2 : o < 200
      · rw [if_pos h2, if_pos h2]
      · rw [if_neg h2, if_neg h2]
        by_cases h3 : o < 200 + nK
        · rw [if_pos (by omega), if_pos h3]
        · rw [if_neg (by omega), if_neg h3]
  · unfold sy_kd
    rw [if_neg (by omega), if_neg (by omega), if_pos (by omega)]
section SNEW
variable {p : Program} {l : Launch} {e : Env} {R : Room} {s : State} {m : MethodId} {args : Array Value} {below : List Frame} {meth : Method} {c : Code} {H : Heap} {locs : List Loc} {cells slots : Nat} {Q : State → Prop}
variable {cc : ByteArray} {pc : Nat} {ls : Array Slot} {rest : List Value} {Z : sZ} {nT nK cT cK : Nat} {ad : Nat → Nat} {g : sG} {q : sQ} {c0 : Cond}
theorem sy_newo (hexec : p.tables.exec = Jvm.exec) (hb : c.code = cc) {own C : String} {T : u_T} {N ci index : Nat} {Ts : List Cond} (hts : ∀ w ∈ Ts, w.before args s = true) (hin : ∀ w ∈ u_ws C T N, w ∈ Ts) (ty : Nat → FieldType) (hty : ∀ k, k < N → parseFieldDescriptor (T k).2.2.1 = some (ty k)) (hown : s.vm.findClass own = some m.cls) (hcl : (Cond.classLink own index C).before args s = true) (hinst : (Cond.instantiable C N).before args s = true) (hini : (Cond.initialized C).before args s = true) (hE : sEnv Z s) (hP : Sy Z nT nK cT cK ad g q H) (hS : va_S (sy_A Z) s.heap H locs) (hc : vwCl[ci]? = some (C, T, N)) {fs : List Value} (hfs : ∀ j, j < N → defaultValue (ty j) = vp_V fs j) (hcells : cells + 1 ≤ R.cells) (hslots : slots + N ≤ R.slots) (hdg : decode cc pc = .ok (.new index, 3))
    {u kc nT' nK' : Nat} (hu0 : 100 ≤ u) (hk5 : kc < 50) (hkd' : (∀ o, o ≠ u → sy_kd nT' nK' cT cK o = sy_kd nT nK cT cK o) ∧ sy_kd nT' nK' cT cK u = kc) (hx : ∀ o k, q o k ≠ some u) (he : ∀ ad' : Nat → Nat, sy_ent Z.2.1 ad' u (sy_ln cT cK u) kc (fun _ => 0) (fun _ => none) = .inr (ci, fs))
    (kk : ∀ (ad' : Nat → Nat) (H1 : Heap), (∀ x, x ≠ u → ad' x = ad x) → Sy Z nT' nK' cT cK ad' (va_up g u (fun _ => 0)) (va_up q u (fun _ => none)) H1 → va_S (sy_A Z) s.heap H1 locs → W p l e R s m args below meth c H1 locs (cells + 1) (slots + N) Q (F0 m (pc + 3) ls (.ref (ad' u) :: rest))) : W p l e R s m args below meth c H locs cells slots Q (F0 m pc ls rest) := by
  have hKn := hE.1.1 ci _ hc
  refine W.newcK hexec hb hown hcl hinst hini rfl hdg hcells hslots hKn.2.1 rfl fun H1 kC hkC e1 z1 o1 => ?_
  have h1 : va_at Z.1 vwCl (H.size, .inr (ci, fs)) H1 := ⟨_, hc, (u_born ty hts hin hKn hkC e1 hty).to hfs⟩
  have hA : Z.2.2.1 ≤ H.size := Nat.le_trans hE.2.1 hS.1
  have hP1 : Sy Z nT' nK' cT cK (va_up ad u H.size) (va_up g u (fun _ => 0)) (va_up q u (fun _ => none)) H1 := sy_addo hP hu0 hk5 hkd'.1 hkd'.2 (Nat.le_refl _) hA o1 h1 (by rw [va_up_self, va_up_self]; exact he _) hx (fun o h => va_up_ne g _ h) (fun o h => va_up_ne q _ h)
  have hk := kk _ H1 (fun x h => va_up_ne ad H.size h) hP1 ⟨Nat.le_trans hS.1 (by omega), fun x h1 h2 => (o1 x (Nat.lt_of_lt_of_le h1 hS.1)).trans (hS.2.1 x h1 h2), hS.2.2⟩
  rw [va_up_self] at hk
  exact hk
end SNEW
