/-! THE WORLD OF THE SYSTEM: objects by their numbers (not addresses); ad: number to address; g: the ints that an object holds; q: the objects that it refers to.
60 house, 61, 62 its lists, 63 fashions, 64 experts, 65 charters, 66 charterOfPerson, 67 tariff, 68 till, 70, 71 the lists' arrays, 72 .. 77 the tariff's arrays, 78 moves, 80 .. 83 experts, 84 .. 86 charters, 90 the law's weights; 100 + i things, 200 + j tickets -/
abbrev sZ : Type := va_G × (Nat → ClassId) × Nat × Nat
abbrev sG : Type := Nat → Nat → Int32
abbrev sQ : Type := Nat → Nat → Option Nat
def sy_tys (cy : Nat → ClassId) : List (ClassId × FieldType) := [(cy 0, .int), (cy 1, .int), (cy 2, .object "java/lang/Object"), (cy 3, .object "Pledgehouse$Expert"), (cy 4, .object "Pledgehouse$Charter"), (cy 5, .int)]
def sy_rv (ad : Nat → Nat) (x : Option Nat) : Value := va_rf (x.map ad)
/-- what an object of kind kc holds -/
def sy_ent (cy : Nat → ClassId) (ad : Nat → Nat) (o n kc : Nat) (r : Nat → Int32) (x : Nat → Option Nat) : va_E := match kc with
  | 0 => .inr (0, [.int (r 0), .ref (ad (o + 9)), .int (r 2)])
  | 1 => .inr (1, [.int (r 0), .int (r 1), .int (r 2)])
  | 2 => .inr (2, [.int (r 0), .int (r 1), .int (r 2)])
  | 3 => .inr (3, [.ref (ad 72), .ref (ad 73), .ref (ad 74), .int (r 3), .ref (ad 76), .ref (ad 77), .int (r 6)])
  | 4 => .inr (4, [.int (r 0), .int (r 1), .int (r 2), .int (r 3), .int (r 4), .int (r 5), .int (r 6), .int (r 7), .int (r 8), .int (r 9), .int (r 10), sy_rv ad (x 11)])
  | 5 => .inr (5, [.int (r 0), sy_rv ad (x 1), .int (r 2), .int (r 3), sy_rv ad (x 4), .int (r 5), .int (r 6), .int (r 7), .int (r 8), .int (r 9), .int (r 10), .int (r 11), .int (r 12), .int (r 13), .int (r 14), .int (r 15)])
  | 6 => .inr (6, [.int (r 0), .int (r 1), .int (r 2), .ref (ad 78), .int (r 4)])
  | 7 => .inr (7, [.ref (ad 61), .ref (ad 62), .ref (ad 63), .ref (ad 64), .ref (ad 65), .ref (ad 66), .ref (ad 67), .ref (ad 68), .int (r 8), .int (r 9)])
  | 10 => .inl (cy 0, n, .inl r)
  | 13 => .inl (cy 2, n, .inr (.inr (.inr (.inr (fun j => (x j).map ad)))))
  | 14 => .inl (cy 3, n, .inr (.inr (.inr (.inr (fun j => (x j).map ad)))))
  | 15 => .inl (cy 4, n, .inr (.inr (.inr (.inr (fun j => (x j).map ad)))))
  | _ => .inl (cy 2, 0, .inr (.inr (.inr (.inr (fun _ => none)))))
def sy_kt : List Nat := [99, 99, 99, 99, 99, 99, 99, 99, 99, 99, 99, 99, 99, 99, 99, 99, 99, 99, 99, 99, 99, 99, 99, 99, 99, 99, 99, 99, 99, 99, 99, 99, 99, 99, 99, 99, 99, 99, 99, 99, 99, 99, 99, 99, 99, 99, 99, 99, 99, 99, 99, 99, 99, 99, 99, 99, 99, 99, 99, 99, 7, 0, 0, 10, 14, 15, 15, 3, 6, 99, 99, 99, 10, 10, 10, 99, 10, 10, 10, 99, 2, 2, 2, 2, 1, 1, 1, 99, 99, 99, 10]
def sy_kd (nT nK cT cK o : Nat) : Nat := if o < 100 then (if o = 70 then (if cT = 0 then 99 else 13) else if o = 71 then (if cK = 0 then 99 else 13) else sy_kt.getD o 99) else if o < 200 then (if o < 100 + nT then 4 else 99) else (if o < 200 + nK then 5 else 99)
def sy_lt : List Nat := [0, 0, 0, 0, 0, 0, 0, 0, 0, 0, 0, 0, 0, 0, 0, 0, 0, 0, 0, 0, 0, 0, 0, 0, 0, 0, 0, 0, 0, 0, 0, 0, 0, 0, 0, 0, 0, 0, 0, 0, 0, 0, 0, 0, 0, 0, 0, 0, 0, 0, 0, 0, 0, 0, 0, 0, 0, 0, 0, 0, 0, 0, 0, 4, 4, 3, 10, 0, 0, 0, 0, 0, 30, 30, 30, 0, 10, 10, 600, 0, 0, 0, 0, 0, 0, 0, 0, 0, 0, 0, 40]
def sy_ln (cT cK o : Nat) : Nat := if o = 70 then cT else if o = 71 then cK else sy_lt.getD o 0
def sy_A (Z : sZ) : Nat → Prop := fun a => Z.2.2.1 ≤ a
def sy_up {α : Type} (g : Nat → Nat → α) (o k : Nat) (v : α) : Nat → Nat → α := va_up g o (va_up (g o) k v)
def Sy (Z : sZ) (nT nK cT cK : Nat) (ad : Nat → Nat) (g : sG) (q : sQ) (H : Heap) : Prop :=
  (∀ o, sy_kd nT nK cT cK o < 99 → va_at Z.1 vwCl (ad o, sy_ent Z.2.1 ad o (sy_ln cT cK o) (sy_kd nT nK cT cK o) (g o) (q o)) H) ∧ (∀ o, sy_kd nT nK cT cK o < 50 → Z.2.2.1 ≤ ad o) ∧ (∀ o o', sy_kd nT nK cT cK o < 99 → sy_kd nT nK cT cK o' < 50 → ad o = ad o' → o = o')
/-- the words that are no good ones (casts, declarations), but hold in every state whose tables are alike -/
def wsNb : Cond → Bool
  | .castable _ _ => true
  | .declares _ => true
  | _ => false
def wsN : List Cond := tables_1.filter wsNb
theorem wsN_next {s U : State} (hv : s.vm.Alike U.vm) (h : ∀ w ∈ wsN, va_Nw w s) : ∀ w ∈ wsN, va_Nw w U := by
  intro w hw
  have hb : wsNb w = true := (List.mem_filter.mp hw).2
  have h1 := h w hw
  cases w with
  | castable a b => exact va_tabs rfl (rfl : (s.setVm U.vm).vm = U.vm) (by rw [Cond.castable_setVm hv]; exact h1)
  | declares x => exact va_tabs rfl (rfl : (s.setVm U.vm).vm = U.vm) (by rw [Cond.declares_setVm hv]; exact h1)
  | _ => cases hb
/-- ArrayList's empty array, arrays of objects, the class object of Object[] -/
def sZ5 (Z : sZ) (U : State) : Prop := va_Z "java/util/ArrayList" "DEFAULTCAPACITY_EMPTY_ELEMENTDATA" "[Ljava/lang/Object;" (.ref Z.2.2.2) (sy_A Z) U U.heap ∧ Z.2.2.2 < Z.2.2.1 ∧ (∃ cell : Cell, U.heap[Z.2.2.2]? = some cell ∧ U.isArrayOf cell (.object "java/lang/Object") ∧ cell.vm ≠ .unknown ∧ cell.slots.size = 0) ∧ va_AO "java/lang/Object" U ∧ va_AO "Pledgehouse$Expert" U ∧ va_AO "Pledgehouse$Charter" U ∧ ∃ mi : Nat, va_Mi "[Ljava/lang/Object;" mi U
def sEnv (Z : sZ) (U : State) : Prop := va_K Z.1 vwCl (sy_tys Z.2.1) U ∧ Z.2.2.1 ≤ U.heap.size ∧ vx_Zq Bundle.tN "UNASSIGNED_STACK" Bundle.steD (sy_A Z) U U.heap ∧ vx_Zq Bundle.tN "SUPPRESSED_SENTINEL" Bundle.listD (sy_A Z) U U.heap ∧ sZ5 Z U ∧ ∀ w ∈ wsN, va_Nw w U
theorem sEnv.next {Z : sZ} {s U : State} {H : Heap} {locs : List Loc} (h : sEnv Z s) (hS : va_S (sy_A Z) s.heap H locs) (hU : U.heap = H) (hv : s.vm.Alike U.vm) : sEnv Z U := by
  obtain ⟨h1, h2, h3, h4, h5, h6⟩ := h
  subst hU
  have hq : ∀ a : Nat, a < s.heap.size → ¬ sy_A Z a → U.heap[a]? = s.heap[a]? := fun a b c => hS.2.1 a b c
  exact ⟨va_K.moved hv h1, Nat.le_trans h2 hS.1, vx_Zq.moved hv (vx_Zq.kept h3 hq), vx_Zq.moved hv (vx_Zq.kept h4 hq), ⟨va_Z.moved hv (va_Z.kept h5.1 hq), h5.2.1, h5.2.2.1.elim fun cell h => ⟨cell, (hq _ (Nat.lt_of_lt_of_le h5.2.1 h2) (Nat.not_le.mpr h5.2.1)).trans h.1, State.isArrayOf_alike hv h.2.1, h.2.2⟩, h5.2.2.2.1.moved hv, h5.2.2.2.2.1.moved hv, h5.2.2.2.2.2.1.moved hv, h5.2.2.2.2.2.2.elim fun mi h => ⟨mi, h.moved hv⟩⟩, wsN_next hv h6⟩
theorem sEnv.A {Z : sZ} {s : State} (h : sEnv Z s) : ∀ a, s.heap.size ≤ a → sy_A Z a := fun _ ha => Nat.le_trans h.2.1 ha
theorem sy_up_o {α : Type} (g : Nat → Nat → α) {o o' : Nat} (k : Nat) (v : α) (h : o' ≠ o) : sy_up g o k v o' = g o' := by simp [sy_up, va_up, h]
theorem sy_up_s {α : Type} (g : Nat → Nat → α) (o k : Nat) (v : α) : sy_up g o k v o = va_up (g o) k v := by simp [sy_up, va_up]
theorem sy_up_k {α : Type} (g : Nat → Nat → α) (o : Nat) {k k' : Nat} (v : α) (h : k' ≠ k) : sy_up g o k v o k' = g o k' := by simp [sy_up, va_up, h]
theorem sy_up_e {α : Type} (g : Nat → Nat → α) (o k : Nat) (v : α) : sy_up g o k v o k = v := by simp [sy_up, va_up]
theorem sy_up_a {α : Type} (g : Nat → Nat → α) (o k : Nat) (v : α) (o' k' : Nat) : sy_up g o k v o' k' = if o' = o ∧ k' = k then v else g o' k' := by
  by_cases h : o' = o
  · subst h
    by_cases h2 : k' = k <;> simp [sy_up, va_up, h2]
  · simp [sy_up, va_up, h]
section SY
variable {p : Program} {l : Launch} {e : Env} {R : Room} {s : State} {m : MethodId} {args : Array Value} {below : List Frame} {meth : Method} {c : Code} {H : Heap} {locs : List Loc} {cells slots : Nat} {Q : State → Prop}
variable {cc : ByteArray} {pc : Nat} {ls : Array Slot} {rest : List Value} {Z : sZ} {nT nK cT cK : Nat} {ad : Nat → Nat} {g : sG} {q : sQ}
/-- one object of the world alone -/
theorem sy_one (hP : Sy Z nT nK cT cK ad g q H) {o kc : Nat} {e0 : va_E} (hkd : sy_kd nT nK cT cK o = kc) (h9 : kc < 99) (he : sy_ent Z.2.1 ad o (sy_ln cT cK o) kc (g o) (q o) = e0) : va_P Z.1 vwCl [(ad o, e0)] H := by
  intro k x hk
  have hz : k < 1 := (List.getElem?_eq_some_iff.mp hk).1
  rw [show k = 0 by omega] at hk
  cases hk
  have h := hP.1 o (by rw [hkd]; exact h9)
  rw [hkd, he] at h
  exact h
theorem sy_get (hexec : p.tables.exec = Jvm.exec) (hb : c.code = cc) {own ref C : String} {T : u_T} {N ci index : Nat} {Ts : List Cond} (hts : ∀ w ∈ Ts, w.before args s = true) (hin : ∀ w ∈ u_ws C T N, w ∈ Ts) (hown : s.vm.findClass own = some m.cls) (hE : sEnv Z s) (hP : Sy Z nT nK cT cK ad g q H) (o kc : Nat) (hkd : sy_kd nT nK cT cK o = kc) (h9 : kc < 99) {fs : List Value} (he : sy_ent Z.2.1 ad o (sy_ln cT cK o) kc (g o) (q o) = .inr (ci, fs)) (hc : vwCl[ci]? = some (C, T, N)) (k : Nat) (hk : k < N) (hlink : (Cond.fieldLink own index ref (T k).2.1 (T k).2.2.1).before args s = true) (hsame : ∀ x, s.fieldFound? (T k).1 (T k).2.1 (T k).2.2.1 = some x → s.fieldFound? ref (T k).2.1 (T k).2.2.1 = some x) {v : Value} (hv : fs[k]? = some v) (hdg : decode cc pc = .ok (.getfield index, 3))
    (kk : W p l e R s m args below meth c H locs cells slots Q (F0 m (pc + 3) ls (v :: rest))) : W p l e R s m args below meth c H locs cells slots Q (F0 m pc ls (.ref (ad o) :: rest)) :=
  va_get (ws := [(ad o, .inr (ci, fs))]) hexec hb hts hin hown hE.1 (sy_one hP hkd h9 he) 0 rfl hc k hk hlink hsame hv hdg kk
/-- one object's row is new, the rest as it was -/
theorem sy_set {H1 : Heap} (hP : Sy Z nT nK cT cK ad g q H) {o kc : Nat} {e1 : va_E} {g1 : sG} {q1 : sQ} (hkd : sy_kd nT nK cT cK o = kc) (h5 : kc < 50) (h1 : va_at Z.1 vwCl (ad o, e1) H1) (oq : ∀ a : Nat, a ≠ ad o → H1[a]? = H[a]?) (he : sy_ent Z.2.1 ad o (sy_ln cT cK o) kc (g1 o) (q1 o) = e1) (hg : ∀ o', o' ≠ o → g1 o' = g o') (hq : ∀ o', o' ≠ o → q1 o' = q o') : Sy Z nT nK cT cK ad g1 q1 H1 := by
  refine ⟨fun o' ho' => ?_, hP.2.1, hP.2.2⟩
  by_cases h : o' = o
  · subst h
    rw [hkd, he]
    exact h1
  · rw [hg o' h, hq o' h]
    exact (hP.1 o' ho').kept (oq _ (fun z => h (hP.2.2 o' o ho' (by rw [hkd]; exact h5) z)))
theorem sy_put (hexec : p.tables.exec = Jvm.exec) (hb : c.code = cc) {own ref C : String} {T : u_T} {N ci index : Nat} {Ts : List Cond} (hts : ∀ w ∈ Ts, w.before args s = true) (hin : ∀ w ∈ u_ws C T N, w ∈ Ts) (ty0 : Nat → FieldType) (hty : ∀ k, k < N → parseFieldDescriptor (T k).2.2.1 = some (ty0 k)) (hnm : ∀ a, a < N → ∀ b, b < N → a ≠ b → (T a).2.1 ≠ (T b).2.1) (hown : s.vm.findClass own = some m.cls) (hE : sEnv Z s) (hP : Sy Z nT nK cT cK ad g q H) (hS0 : va_S (sy_A Z) s.heap H locs) (o kc : Nat) (hkd : sy_kd nT nK cT cK o = kc) (h5 : kc < 50) {fs : List Value} (he : sy_ent Z.2.1 ad o (sy_ln cT cK o) kc (g o) (q o) = .inr (ci, fs)) (hc : vwCl[ci]? = some (C, T, N)) (k : Nat) (hk : k < N) (hlink : (Cond.fieldLink own index ref (T k).2.1 (T k).2.2.1).before args s = true) (hsame : ∀ x, s.fieldFound? (T k).1 (T k).2.1 (T k).2.2.1 = some x → s.fieldFound? ref (T k).2.1 (T k).2.2.1 = some x) (hfin : (T k).2.2.2 = false) {ty : FieldType} {v : Value} (hd : parseFieldDescriptor (T k).2.2.1 = some ty) (hn : narrow ty v = v) (hfit : fits ty v = true) (hl : k < fs.length) (g1 : sG) (q1 : sQ) (he1 : sy_ent Z.2.1 ad o (sy_ln cT cK o) kc (g1 o) (q1 o) = .inr (ci, fs.set k v)) (hg : ∀ o', o' ≠ o → g1 o' = g o') (hq : ∀ o', o' ≠ o → q1 o' = q o')
    (hdg : decode cc pc = .ok (.putfield index, 3)) (kk : ∀ (H1 : Heap) (locs1 : List Loc), Sy Z nT nK cT cK ad g1 q1 H1 → va_S (sy_A Z) s.heap H1 locs1 → W p l e R s m args below meth c H1 locs1 cells slots Q (F0 m (pc + 3) ls rest)) : W p l e R s m args below meth c H locs cells slots Q (F0 m pc ls (v :: .ref (ad o) :: rest)) := by
  have hap := va_apart (own := own) hts hin ty0 hty hnm hE.1 hc
  have hA : sy_A Z (ad o) := hP.2.1 o (by rw [hkd]; exact h5)
  have hP1 := sy_one hP hkd (by omega) he
  obtain ⟨r, h1, cell, q2, q3, q4, q5⟩ := hP1 0 _ rfl
  have hr : r = (C, T, N) := Option.some.inj (h1.symm.trans hc)
  subst hr
  obtain ⟨hS, hfc, kC, hkC, hkind⟩ := hE.1.1 ci _ hc
  obtain ⟨cf, kf, fi, f, hi, hsl⟩ := hS k hk
  have hlay := hts _ (hin _ (u_in_lay hk))
  unfold u_lay at hlay
  rw [if_neg (by rw [hfin]; decide)] at hlay
  have hst := (u_facts hfc hkC (u_lays hts hin hk) hi).1
  have h6 := u_store hfc hkC hkind hlay hi hd hn hfit
  refine W.putK hexec hb (f := f) ⟨hown, hlink, ⟨_, _, _, hsame _ hi⟩, hst⟩ (by rw [q3]; exact h6) q2 q4 (by rw [hsl]; exact k2_hasslot (q5 k hk)) rfl rfl hdg fun H' e1 e2 e3 => ?_
  rw [hsl] at e1 ⊢
  exact kk H' _ (sy_set hP hkd h5 (e1 := .inr (ci, fs.set k v)) ⟨_, hc, t_OB.to (V := updV (vp_V fs) k v) ⟨_, e1, q3, q4, t_set q5 hap hk v⟩ (fun j _ => vp_updV_set hl v j)⟩ e3 he1 hg hq) (hS0.put e2 e3 hA)
theorem sy_iald (hexec : p.tables.exec = Jvm.exec) (hb : c.code = cc) (hE : sEnv Z s) (hP : Sy Z nT nK cT cK ad g q H) (o : Nat) (hkd : sy_kd nT nK cT cK o = 10) {i : Int32} (hin : vp_in i (sy_ln cT cK o)) (hdg : decode cc pc = .ok (.iaload, 1))
    (kk : W p l e R s m args below meth c H locs cells slots Q (F0 m (pc + 1) ls (.int (g o i.toNatClampNeg) :: rest))) : W p l e R s m args below meth c H locs cells slots Q (F0 m pc ls (.int i :: .ref (ad o) :: rest)) :=
  va_iald (ws := [(ad o, .inl (Z.2.1 0, sy_ln cT cK o, .inl (g o)))]) hexec hb hE.1 (sy_one hP hkd (by omega) rfl) 0 0 rfl rfl hin hdg kk
theorem sy_iast (hexec : p.tables.exec = Jvm.exec) (hb : c.code = cc) (hE : sEnv Z s) (hP : Sy Z nT nK cT cK ad g q H) (hS : va_S (sy_A Z) s.heap H locs) (o : Nat) (hkd : sy_kd nT nK cT cK o = 10) {i x : Int32} (hin : vp_in i (sy_ln cT cK o)) (hdg : decode cc pc = .ok (.iastore, 1))
    (kk : ∀ (H1 : Heap) (locs1 : List Loc), Sy Z nT nK cT cK ad (sy_up g o i.toNatClampNeg x) q H1 → va_S (sy_A Z) s.heap H1 locs1 → W p l e R s m args below meth c H1 locs1 cells slots Q (F0 m (pc + 1) ls rest)) : W p l e R s m args below meth c H locs cells slots Q (F0 m pc ls (.int x :: .int i :: .ref (ad o) :: rest)) := by
  have h1 := sy_one hP hkd (by omega) (e0 := .inl (Z.2.1 0, sy_ln cT cK o, .inl (g o))) rfl
  refine W.iast hexec hb (h1 0 _ rfl) ((hE.1.2 0 _ rfl).1 (sy_ln cT cK o) (fun j => .int (g o j))) (fun q => by cases q) (by show ¬ (i < 0 ∨ (arrV _ _ _).slots.size ≤ _); rw [arrV_size]; exact hin) rfl rfl hdg fun H1 e2 z oq => ?_
  refine kk H1 _ (sy_set hP hkd (by omega) (e1 := .inl (Z.2.1 0, sy_ln cT cK o, .inl (va_up (g o) i.toNatClampNeg x))) ?_ oq (by rw [sy_up_s]; rfl) (fun o' h => sy_up_o g _ _ h) (fun _ _ => rfl)) (hS.put z oq (hP.2.1 o (by rw [hkd]; omega)))
  show H1[ad o]? = some (vp_cell _ _)
  rw [e2, vp_cell_i, vp_cell_i, arrV_store]
  congr 2
  funext j
  by_cases hj : j = i.toNatClampNeg <;> simp [updV, va_up, hj]
/-- the length of ArrayList's constant empty array -/
theorem sy_alen0 (hexec : p.tables.exec = Jvm.exec) (hb : c.code = cc) (hE : sEnv Z s) (hS : va_S (sy_A Z) s.heap H locs) (hdg : decode cc pc = .ok (.arraylength, 1))
    (kk : W p l e R s m args below meth c H locs cells slots Q (F0 m (pc + 1) ls (.int 0 :: rest))) : W p l e R s m args below meth c H locs cells slots Q (F0 m pc ls (.ref Z.2.2.2 :: rest)) := by
  obtain ⟨cell, h1, h2, h3, h4⟩ := hE.2.2.2.2.1.2.2.1
  exact W.alen (n := 0) hexec hb (by rw [hS.2.1 _ (Nat.lt_of_lt_of_le hE.2.2.2.2.1.2.1 hE.2.1) (Nat.not_le.mpr hE.2.2.2.2.1.2.1)]; exact h1) h2 (by rw [h4]; rfl) rfl rfl hdg kk
end SY
