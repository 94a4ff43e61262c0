/-! a truth as an int -/
def iB (p : Prop) [Decidable p] : Int32 := if p then 1 else 0
theorem iB_0 {p : Prop} [Decidable p] : iB p = 0 ↔ ¬ p := by
  unfold iB
  by_cases h : p <;> simp [h]
theorem iB_n {p : Prop} [Decidable p] : ¬ iB p = 0 ↔ p := by
  unfold iB
  by_cases h : p <;> simp [h]
theorem iB_t {p : Prop} [Decidable p] (h : p) : iB p = 1 := if_pos h
theorem iB_f {p : Prop} [Decidable p] (h : ¬ p) : iB p = 0 := if_neg h
theorem iB_a {p : Prop} [Decidable p] : iB p &&& 1 = iB p := by
  unfold iB
  by_cases h : p <;> simp [h]
def exc (E : String) : Int32 := if E = "java/lang/IndexOutOfBoundsException" then 1 else if E = "java/lang/IllegalArgumentException" then 2 else if E = "java/lang/IllegalStateException" then 3 else 9
theorem uat_hat {own : String} {ic : Nat} {X : String} {names : List String} {c0 : Cond} {args : Array Value} {s : State} {Z : sZ} (h : (vx_at0 own ic X names).all (fun w => decide (w ∈ tables_1) && (goodWord w || wsNb w)) = true) (hts : ∀ w ∈ uW c0, w.before args s = true) (hE : sEnv Z s) : ∀ w ∈ vx_at0 own ic X names, w.before args s = true := by
  intro w hw
  have h1 := List.all_eq_true.mp h w hw
  simp only [Bool.and_eq_true, Bool.or_eq_true, decide_eq_true_eq] at h1
  rcases h1.2 with h2 | h2
  · exact hts w (u_in (List.mem_filter.mpr ⟨List.mem_append_right _ h1.1, h2⟩))
  · exact va_Nw.use (by cases w <;> first | rfl | cases h2) (hE.2.2.2.2.2 w (un_mem h1.1 h2))
theorem uat_good {own : String} {ic ik : Nat} {X : String} {names : List String} (h : (vx_at0 own ic X names).all (fun w => decide (w ∈ tables_1) && (goodWord w || wsNb w)) = true) (h1 : vx_ot (Cond.classLink own ik X) = true) (h2 : vx_ot (Cond.initialized X) = true) : ∀ w ∈ Cond.classLink own ik X :: Cond.initialized X :: vx_at0 own ic X names, vx_ot w = true := by
  intro w hw
  rcases List.mem_cons.mp hw with e | hw
  · rw [e]; exact h1
  rcases List.mem_cons.mp hw with e | hw
  · rw [e]; exact h2
  have h3 := List.all_eq_true.mp h w hw
  simp only [Bool.and_eq_true, Bool.or_eq_true, decide_eq_true_eq] at h3
  show (w.onTables || goodWord w) = true
  rcases h3.2 with h4 | h4
  · rw [h4, Bool.or_true]
  · have : w.onTables = true := by cases w <;> first | rfl | cases h4
    rw [this]; rfl
set_option maxRecDepth 100000 in
theorem uat_IO : (vx_at0 RX6 321 "java/lang/IndexOutOfBoundsException" ["java/lang/RuntimeException", "java/lang/Exception"]).all (fun w => decide (w ∈ tables_1) && (goodWord w || wsNb w)) = true := by decide +kernel
set_option maxRecDepth 100000 in
theorem uat_IA : (vx_at0 RX6 324 "java/lang/IllegalArgumentException" ["java/lang/RuntimeException", "java/lang/Exception"]).all (fun w => decide (w ∈ tables_1) && (goodWord w || wsNb w)) = true := by decide +kernel
set_option maxRecDepth 100000 in
theorem uat_IS : (vx_at0 RX6 327 "java/lang/IllegalStateException" ["java/lang/RuntimeException", "java/lang/Exception"]).all (fun w => decide (w ∈ tables_1) && (goodWord w || wsNb w)) = true := by decide +kernel
theorem uin_all {C : String} {T : u_T} {N : Nat} (h : (u_ws C T N).all (fun w => decide (w ∈ tables_1) && goodWord w) = true) {c0 : Cond} : ∀ w ∈ u_ws C T N, w ∈ uW c0 := by
  intro w hw
  have h1 := List.all_eq_true.mp h w hw
  simp only [Bool.and_eq_true, decide_eq_true_eq] at h1
  exact u_in (List.mem_filter.mpr ⟨List.mem_append_right _ h1.1, h1.2⟩)
section SFL
variable {p : Program} {l : Launch} {e : Env} {R : Room} {s : State} {m : MethodId} {args : Array Value} {below : List Frame} {meth : Method} {c : Code} {H : Heap} {locs : List Loc} {cells slots : Nat} {Q : State → Prop}
variable {cc : ByteArray} {pc : Nat} {ls : Array Slot} {rest : List Value} {Z : sZ} {nT nK cT cK : Nat} {ad : Nat → Nat} {g : sG} {q : sQ} {c0 : Cond}
set_option maxRecDepth 100000 in
theorem uin_RJx4a65c : (u_ws RJx4a65c TJx4a65c 3).all (fun w => decide (w ∈ tables_1) && goodWord w) = true := by decide +kernel
theorem sy_getRJx4a65c {own : String} {index : Nat} (hexec : p.tables.exec = Jvm.exec) (hb : c.code = cc) (hts : ∀ w ∈ uW c0, w.before args s = true) (hown : s.vm.findClass own = some m.cls) (hE : sEnv Z s) (hP : Sy Z nT nK cT cK ad g q H) (o : Nat) (hkd : sy_kd nT nK cT cK o = 0) (k : Nat) (hk : k < 3) (hlink : (Cond.fieldLink own index (TJx4a65c k).1 (TJx4a65c k).2.1 (TJx4a65c k).2.2.1).before args s = true) {v : Value} (hv : ([.int (g o 0), .ref (ad (o + 9)), .int (g o 2)] : List Value)[k]? = some v) (hdg : decode cc pc = .ok (.getfield index, 3))
    (kk : W p l e R s m args below meth c H locs cells slots Q (F0 m (pc + 3) ls (v :: rest))) : W p l e R s m args below meth c H locs cells slots Q (F0 m pc ls (.ref (ad o) :: rest)) :=
  sy_get hexec hb hts (uin_all uin_RJx4a65c) hown hE hP o 0 hkd (by decide) rfl rfl k hk hlink (fun _ h9 => h9) hv hdg kk
theorem sy_putRJx4a65c {own : String} {index : Nat} (hexec : p.tables.exec = Jvm.exec) (hb : c.code = cc) (hts : ∀ w ∈ uW c0, w.before args s = true) (hown : s.vm.findClass own = some m.cls) (hE : sEnv Z s) (hP : Sy Z nT nK cT cK ad g q H) (hS : va_S (sy_A Z) s.heap H locs) (o : Nat) (hkd : sy_kd nT nK cT cK o = 0) (k : Nat) (hk : k < 3) (hlink : (Cond.fieldLink own index (TJx4a65c k).1 (TJx4a65c k).2.1 (TJx4a65c k).2.2.1).before args s = true) (hfin : (TJx4a65c k).2.2.2 = false) {ty : FieldType} {v : Value} (hd : parseFieldDescriptor (TJx4a65c k).2.2.1 = some ty) (hn : narrow ty v = v) (hfit : fits ty v = true) (g1 : sG) (q1 : sQ) (he1 : sy_ent Z.2.1 ad o (sy_ln cT cK o) 0 (g1 o) (q1 o) = .inr (0, ([.int (g o 0), .ref (ad (o + 9)), .int (g o 2)] : List Value).set k v)) (hg : ∀ o', o' ≠ o → g1 o' = g o') (hq : ∀ o', o' ≠ o → q1 o' = q o')
    (hdg : decode cc pc = .ok (.putfield index, 3)) (kk : ∀ (H1 : Heap) (locs1 : List Loc), Sy Z nT nK cT cK ad g1 q1 H1 → va_S (sy_A Z) s.heap H1 locs1 → W p l e R s m args below meth c H1 locs1 cells slots Q (F0 m (pc + 3) ls rest)) : W p l e R s m args below meth c H locs cells slots Q (F0 m pc ls (v :: .ref (ad o) :: rest)) :=
  sy_put hexec hb hts (uin_all uin_RJx4a65c) tyJx4a65c tyJx4a65c_ok nmJx4a65c hown hE hP hS o 0 hkd (by decide) rfl rfl k hk hlink (fun _ h9 => h9) hfin hd hn hfit hk g1 q1 he1 hg hq hdg kk
set_option maxRecDepth 100000 in
theorem uin_RX0 : (u_ws RX0 TX0 3).all (fun w => decide (w ∈ tables_1) && goodWord w) = true := by decide +kernel
theorem sy_getRX0 {own : String} {index : Nat} (hexec : p.tables.exec = Jvm.exec) (hb : c.code = cc) (hts : ∀ w ∈ uW c0, w.before args s = true) (hown : s.vm.findClass own = some m.cls) (hE : sEnv Z s) (hP : Sy Z nT nK cT cK ad g q H) (o : Nat) (hkd : sy_kd nT nK cT cK o = 1) (k : Nat) (hk : k < 3) (hlink : (Cond.fieldLink own index (TX0 k).1 (TX0 k).2.1 (TX0 k).2.2.1).before args s = true) {v : Value} (hv : ([.int (g o 0), .int (g o 1), .int (g o 2)] : List Value)[k]? = some v) (hdg : decode cc pc = .ok (.getfield index, 3))
    (kk : W p l e R s m args below meth c H locs cells slots Q (F0 m (pc + 3) ls (v :: rest))) : W p l e R s m args below meth c H locs cells slots Q (F0 m pc ls (.ref (ad o) :: rest)) :=
  sy_get hexec hb hts (uin_all uin_RX0) hown hE hP o 1 hkd (by decide) rfl rfl k hk hlink (fun _ h9 => h9) hv hdg kk
theorem sy_putRX0 {own : String} {index : Nat} (hexec : p.tables.exec = Jvm.exec) (hb : c.code = cc) (hts : ∀ w ∈ uW c0, w.before args s = true) (hown : s.vm.findClass own = some m.cls) (hE : sEnv Z s) (hP : Sy Z nT nK cT cK ad g q H) (hS : va_S (sy_A Z) s.heap H locs) (o : Nat) (hkd : sy_kd nT nK cT cK o = 1) (k : Nat) (hk : k < 3) (hlink : (Cond.fieldLink own index (TX0 k).1 (TX0 k).2.1 (TX0 k).2.2.1).before args s = true) (hfin : (TX0 k).2.2.2 = false) {ty : FieldType} {v : Value} (hd : parseFieldDescriptor (TX0 k).2.2.1 = some ty) (hn : narrow ty v = v) (hfit : fits ty v = true) (g1 : sG) (q1 : sQ) (he1 : sy_ent Z.2.1 ad o (sy_ln cT cK o) 1 (g1 o) (q1 o) = .inr (1, ([.int (g o 0), .int (g o 1), .int (g o 2)] : List Value).set k v)) (hg : ∀ o', o' ≠ o → g1 o' = g o') (hq : ∀ o', o' ≠ o → q1 o' = q o')
    (hdg : decode cc pc = .ok (.putfield index, 3)) (kk : ∀ (H1 : Heap) (locs1 : List Loc), Sy Z nT nK cT cK ad g1 q1 H1 → va_S (sy_A Z) s.heap H1 locs1 → W p l e R s m args below meth c H1 locs1 cells slots Q (F0 m (pc + 3) ls rest)) : W p l e R s m args below meth c H locs cells slots Q (F0 m pc ls (v :: .ref (ad o) :: rest)) :=
  sy_put hexec hb hts (uin_all uin_RX0) tyX0 tyX0_ok nmX0 hown hE hP hS o 1 hkd (by decide) rfl rfl k hk hlink (fun _ h9 => h9) hfin hd hn hfit hk g1 q1 he1 hg hq hdg kk
set_option maxRecDepth 100000 in
theorem uin_RX1 : (u_ws RX1 TX1 3).all (fun w => decide (w ∈ tables_1) && goodWord w) = true := by decide +kernel
theorem sy_getRX1 {own : String} {index : Nat} (hexec : p.tables.exec = Jvm.exec) (hb : c.code = cc) (hts : ∀ w ∈ uW c0, w.before args s = true) (hown : s.vm.findClass own = some m.cls) (hE : sEnv Z s) (hP : Sy Z nT nK cT cK ad g q H) (o : Nat) (hkd : sy_kd nT nK cT cK o = 2) (k : Nat) (hk : k < 3) (hlink : (Cond.fieldLink own index (TX1 k).1 (TX1 k).2.1 (TX1 k).2.2.1).before args s = true) {v : Value} (hv : ([.int (g o 0), .int (g o 1), .int (g o 2)] : List Value)[k]? = some v) (hdg : decode cc pc = .ok (.getfield index, 3))
    (kk : W p l e R s m args below meth c H locs cells slots Q (F0 m (pc + 3) ls (v :: rest))) : W p l e R s m args below meth c H locs cells slots Q (F0 m pc ls (.ref (ad o) :: rest)) :=
  sy_get hexec hb hts (uin_all uin_RX1) hown hE hP o 2 hkd (by decide) rfl rfl k hk hlink (fun _ h9 => h9) hv hdg kk
theorem sy_putRX1 {own : String} {index : Nat} (hexec : p.tables.exec = Jvm.exec) (hb : c.code = cc) (hts : ∀ w ∈ uW c0, w.before args s = true) (hown : s.vm.findClass own = some m.cls) (hE : sEnv Z s) (hP : Sy Z nT nK cT cK ad g q H) (hS : va_S (sy_A Z) s.heap H locs) (o : Nat) (hkd : sy_kd nT nK cT cK o = 2) (k : Nat) (hk : k < 3) (hlink : (Cond.fieldLink own index (TX1 k).1 (TX1 k).2.1 (TX1 k).2.2.1).before args s = true) (hfin : (TX1 k).2.2.2 = false) {ty : FieldType} {v : Value} (hd : parseFieldDescriptor (TX1 k).2.2.1 = some ty) (hn : narrow ty v = v) (hfit : fits ty v = true) (g1 : sG) (q1 : sQ) (he1 : sy_ent Z.2.1 ad o (sy_ln cT cK o) 2 (g1 o) (q1 o) = .inr (2, ([.int (g o 0), .int (g o 1), .int (g o 2)] : List Value).set k v)) (hg : ∀ o', o' ≠ o → g1 o' = g o') (hq : ∀ o', o' ≠ o → q1 o' = q o')
    (hdg : decode cc pc = .ok (.putfield index, 3)) (kk : ∀ (H1 : Heap) (locs1 : List Loc), Sy Z nT nK cT cK ad g1 q1 H1 → va_S (sy_A Z) s.heap H1 locs1 → W p l e R s m args below meth c H1 locs1 cells slots Q (F0 m (pc + 3) ls rest)) : W p l e R s m args below meth c H locs cells slots Q (F0 m pc ls (v :: .ref (ad o) :: rest)) :=
  sy_put hexec hb hts (uin_all uin_RX1) tyX1 tyX1_ok nmX1 hown hE hP hS o 2 hkd (by decide) rfl rfl k hk hlink (fun _ h9 => h9) hfin hd hn hfit hk g1 q1 he1 hg hq hdg kk
set_option maxRecDepth 100000 in
theorem uin_RX2 : (u_ws RX2 TX2 7).all (fun w => decide (w ∈ tables_1) && goodWord w) = true := by decide +kernel
theorem sy_getRX2 {own : String} {index : Nat} (hexec : p.tables.exec = Jvm.exec) (hb : c.code = cc) (hts : ∀ w ∈ uW c0, w.before args s = true) (hown : s.vm.findClass own = some m.cls) (hE : sEnv Z s) (hP : Sy Z nT nK cT cK ad g q H) (o : Nat) (hkd : sy_kd nT nK cT cK o = 3) (k : Nat) (hk : k < 7) (hlink : (Cond.fieldLink own index (TX2 k).1 (TX2 k).2.1 (TX2 k).2.2.1).before args s = true) {v : Value} (hv : ([.ref (ad 72), .ref (ad 73), .ref (ad 74), .int (g o 3), .ref (ad 76), .ref (ad 77), .int (g o 6)] : List Value)[k]? = some v) (hdg : decode cc pc = .ok (.getfield index, 3))
    (kk : W p l e R s m args below meth c H locs cells slots Q (F0 m (pc + 3) ls (v :: rest))) : W p l e R s m args below meth c H locs cells slots Q (F0 m pc ls (.ref (ad o) :: rest)) :=
  sy_get hexec hb hts (uin_all uin_RX2) hown hE hP o 3 hkd (by decide) rfl rfl k hk hlink (fun _ h9 => h9) hv hdg kk
theorem sy_putRX2 {own : String} {index : Nat} (hexec : p.tables.exec = Jvm.exec) (hb : c.code = cc) (hts : ∀ w ∈ uW c0, w.before args s = true) (hown : s.vm.findClass own = some m.cls) (hE : sEnv Z s) (hP : Sy Z nT nK cT cK ad g q H) (hS : va_S (sy_A Z) s.heap H locs) (o : Nat) (hkd : sy_kd nT nK cT cK o = 3) (k : Nat) (hk : k < 7) (hlink : (Cond.fieldLink own index (TX2 k).1 (TX2 k).2.1 (TX2 k).2.2.1).before args s = true) (hfin : (TX2 k).2.2.2 = false) {ty : FieldType} {v : Value} (hd : parseFieldDescriptor (TX2 k).2.2.1 = some ty) (hn : narrow ty v = v) (hfit : fits ty v = true) (g1 : sG) (q1 : sQ) (he1 : sy_ent Z.2.1 ad o (sy_ln cT cK o) 3 (g1 o) (q1 o) = .inr (3, ([.ref (ad 72), .ref (ad 73), .ref (ad 74), .int (g o 3), .ref (ad 76), .ref (ad 77), .int (g o 6)] : List Value).set k v)) (hg : ∀ o', o' ≠ o → g1 o' = g o') (hq : ∀ o', o' ≠ o → q1 o' = q o')
    (hdg : decode cc pc = .ok (.putfield index, 3)) (kk : ∀ (H1 : Heap) (locs1 : List Loc), Sy Z nT nK cT cK ad g1 q1 H1 → va_S (sy_A Z) s.heap H1 locs1 → W p l e R s m args below meth c H1 locs1 cells slots Q (F0 m (pc + 3) ls rest)) : W p l e R s m args below meth c H locs cells slots Q (F0 m pc ls (v :: .ref (ad o) :: rest)) :=
  sy_put hexec hb hts (uin_all uin_RX2) tyX2 tyX2_ok nmX2 hown hE hP hS o 3 hkd (by decide) rfl rfl k hk hlink (fun _ h9 => h9) hfin hd hn hfit hk g1 q1 he1 hg hq hdg kk
set_option maxRecDepth 100000 in
theorem uin_RX3 : (u_ws RX3 TX3 12).all (fun w => decide (w ∈ tables_1) && goodWord w) = true := by decide +kernel
theorem sy_getRX3 {own : String} {index : Nat} (hexec : p.tables.exec = Jvm.exec) (hb : c.code = cc) (hts : ∀ w ∈ uW c0, w.before args s = true) (hown : s.vm.findClass own = some m.cls) (hE : sEnv Z s) (hP : Sy Z nT nK cT cK ad g q H) (o : Nat) (hkd : sy_kd nT nK cT cK o = 4) (k : Nat) (hk : k < 12) (hlink : (Cond.fieldLink own index (TX3 k).1 (TX3 k).2.1 (TX3 k).2.2.1).before args s = true) {v : Value} (hv : ([.int (g o 0), .int (g o 1), .int (g o 2), .int (g o 3), .int (g o 4), .int (g o 5), .int (g o 6), .int (g o 7), .int (g o 8), .int (g o 9), .int (g o 10), sy_rv ad (q o 11)] : List Value)[k]? = some v) (hdg : decode cc pc = .ok (.getfield index, 3))
    (kk : W p l e R s m args below meth c H locs cells slots Q (F0 m (pc + 3) ls (v :: rest))) : W p l e R s m args below meth c H locs cells slots Q (F0 m pc ls (.ref (ad o) :: rest)) :=
  sy_get hexec hb hts (uin_all uin_RX3) hown hE hP o 4 hkd (by decide) rfl rfl k hk hlink (fun _ h9 => h9) hv hdg kk
theorem sy_putRX3 {own : String} {index : Nat} (hexec : p.tables.exec = Jvm.exec) (hb : c.code = cc) (hts : ∀ w ∈ uW c0, w.before args s = true) (hown : s.vm.findClass own = some m.cls) (hE : sEnv Z s) (hP : Sy Z nT nK cT cK ad g q H) (hS : va_S (sy_A Z) s.heap H locs) (o : Nat) (hkd : sy_kd nT nK cT cK o = 4) (k : Nat) (hk : k < 12) (hlink : (Cond.fieldLink own index (TX3 k).1 (TX3 k).2.1 (TX3 k).2.2.1).before args s = true) (hfin : (TX3 k).2.2.2 = false) {ty : FieldType} {v : Value} (hd : parseFieldDescriptor (TX3 k).2.2.1 = some ty) (hn : narrow ty v = v) (hfit : fits ty v = true) (g1 : sG) (q1 : sQ) (he1 : sy_ent Z.2.1 ad o (sy_ln cT cK o) 4 (g1 o) (q1 o) = .inr (4, ([.int (g o 0), .int (g o 1), .int (g o 2), .int (g o 3), .int (g o 4), .int (g o 5), .int (g o 6), .int (g o 7), .int (g o 8), .int (g o 9), .int (g o 10), sy_rv ad (q o 11)] : List Value).set k v)) (hg : ∀ o', o' ≠ o → g1 o' = g o') (hq : ∀ o', o' ≠ o → q1 o' = q o')
    (hdg : decode cc pc = .ok (.putfield index, 3)) (kk : ∀ (H1 : Heap) (locs1 : List Loc), Sy Z nT nK cT cK ad g1 q1 H1 → va_S (sy_A Z) s.heap H1 locs1 → W p l e R s m args below meth c H1 locs1 cells slots Q (F0 m (pc + 3) ls rest)) : W p l e R s m args below meth c H locs cells slots Q (F0 m pc ls (v :: .ref (ad o) :: rest)) :=
  sy_put hexec hb hts (uin_all uin_RX3) tyX3 tyX3_ok nmX3 hown hE hP hS o 4 hkd (by decide) rfl rfl k hk hlink (fun _ h9 => h9) hfin hd hn hfit hk g1 q1 he1 hg hq hdg kk
set_option maxRecDepth 100000 in
theorem uin_RX4 : (u_ws RX4 TX4 16).all (fun w => decide (w ∈ tables_1) && goodWord w) = true := by decide +kernel
theorem sy_getRX4 {own : String} {index : Nat} (hexec : p.tables.exec = Jvm.exec) (hb : c.code = cc) (hts : ∀ w ∈ uW c0, w.before args s = true) (hown : s.vm.findClass own = some m.cls) (hE : sEnv Z s) (hP : Sy Z nT nK cT cK ad g q H) (o : Nat) (hkd : sy_kd nT nK cT cK o = 5) (k : Nat) (hk : k < 16) (hlink : (Cond.fieldLink own index (TX4 k).1 (TX4 k).2.1 (TX4 k).2.2.1).before args s = true) {v : Value} (hv : ([.int (g o 0), sy_rv ad (q o 1), .int (g o 2), .int (g o 3), sy_rv ad (q o 4), .int (g o 5), .int (g o 6), .int (g o 7), .int (g o 8), .int (g o 9), .int (g o 10), .int (g o 11), .int (g o 12), .int (g o 13), .int (g o 14), .int (g o 15)] : List Value)[k]? = some v) (hdg : decode cc pc = .ok (.getfield index, 3))
    (kk : W p l e R s m args below meth c H locs cells slots Q (F0 m (pc + 3) ls (v :: rest))) : W p l e R s m args below meth c H locs cells slots Q (F0 m pc ls (.ref (ad o) :: rest)) :=
  sy_get hexec hb hts (uin_all uin_RX4) hown hE hP o 5 hkd (by decide) rfl rfl k hk hlink (fun _ h9 => h9) hv hdg kk
theorem sy_putRX4 {own : String} {index : Nat} (hexec : p.tables.exec = Jvm.exec) (hb : c.code = cc) (hts : ∀ w ∈ uW c0, w.before args s = true) (hown : s.vm.findClass own = some m.cls) (hE : sEnv Z s) (hP : Sy Z nT nK cT cK ad g q H) (hS : va_S (sy_A Z) s.heap H locs) (o : Nat) (hkd : sy_kd nT nK cT cK o = 5) (k : Nat) (hk : k < 16) (hlink : (Cond.fieldLink own index (TX4 k).1 (TX4 k).2.1 (TX4 k).2.2.1).before args s = true) (hfin : (TX4 k).2.2.2 = false) {ty : FieldType} {v : Value} (hd : parseFieldDescriptor (TX4 k).2.2.1 = some ty) (hn : narrow ty v = v) (hfit : fits ty v = true) (g1 : sG) (q1 : sQ) (he1 : sy_ent Z.2.1 ad o (sy_ln cT cK o) 5 (g1 o) (q1 o) = .inr (5, ([.int (g o 0), sy_rv ad (q o 1), .int (g o 2), .int (g o 3), sy_rv ad (q o 4), .int (g o 5), .int (g o 6), .int (g o 7), .int (g o 8), .int (g o 9), .int (g o 10), .int (g o 11), .int (g o 12), .int (g o 13), .int (g o 14), .int (g o 15)] : List Value).set k v)) (hg : ∀ o', o' ≠ o → g1 o' = g o') (hq : ∀ o', o' ≠ o → q1 o' = q o')
    (hdg : decode cc pc = .ok (.putfield index, 3)) (kk : ∀ (H1 : Heap) (locs1 : List Loc), Sy Z nT nK cT cK ad g1 q1 H1 → va_S (sy_A Z) s.heap H1 locs1 → W p l e R s m args below meth c H1 locs1 cells slots Q (F0 m (pc + 3) ls rest)) : W p l e R s m args below meth c H locs cells slots Q (F0 m pc ls (v :: .ref (ad o) :: rest)) :=
  sy_put hexec hb hts (uin_all uin_RX4) tyX4 tyX4_ok nmX4 hown hE hP hS o 5 hkd (by decide) rfl rfl k hk hlink (fun _ h9 => h9) hfin hd hn hfit hk g1 q1 he1 hg hq hdg kk
set_option maxRecDepth 100000 in
theorem uin_RX5 : (u_ws RX5 TX5 5).all (fun w => decide (w ∈ tables_1) && goodWord w) = true := by decide +kernel
theorem sy_getRX5 {own : String} {index : Nat} (hexec : p.tables.exec = Jvm.exec) (hb : c.code = cc) (hts : ∀ w ∈ uW c0, w.before args s = true) (hown : s.vm.findClass own = some m.cls) (hE : sEnv Z s) (hP : Sy Z nT nK cT cK ad g q H) (o : Nat) (hkd : sy_kd nT nK cT cK o = 6) (k : Nat) (hk : k < 5) (hlink : (Cond.fieldLink own index (TX5 k).1 (TX5 k).2.1 (TX5 k).2.2.1).before args s = true) {v : Value} (hv : ([.int (g o 0), .int (g o 1), .int (g o 2), .ref (ad 78), .int (g o 4)] : List Value)[k]? = some v) (hdg : decode cc pc = .ok (.getfield index, 3))
    (kk : W p l e R s m args below meth c H locs cells slots Q (F0 m (pc + 3) ls (v :: rest))) : W p l e R s m args below meth c H locs cells slots Q (F0 m pc ls (.ref (ad o) :: rest)) :=
  sy_get hexec hb hts (uin_all uin_RX5) hown hE hP o 6 hkd (by decide) rfl rfl k hk hlink (fun _ h9 => h9) hv hdg kk
theorem sy_putRX5 {own : String} {index : Nat} (hexec : p.tables.exec = Jvm.exec) (hb : c.code = cc) (hts : ∀ w ∈ uW c0, w.before args s = true) (hown : s.vm.findClass own = some m.cls) (hE : sEnv Z s) (hP : Sy Z nT nK cT cK ad g q H) (hS : va_S (sy_A Z) s.heap H locs) (o : Nat) (hkd : sy_kd nT nK cT cK o = 6) (k : Nat) (hk : k < 5) (hlink : (Cond.fieldLink own index (TX5 k).1 (TX5 k).2.1 (TX5 k).2.2.1).before args s = true) (hfin : (TX5 k).2.2.2 = false) {ty : FieldType} {v : Value} (hd : parseFieldDescriptor (TX5 k).2.2.1 = some ty) (hn : narrow ty v = v) (hfit : fits ty v = true) (g1 : sG) (q1 : sQ) (he1 : sy_ent Z.2.1 ad o (sy_ln cT cK o) 6 (g1 o) (q1 o) = .inr (6, ([.int (g o 0), .int (g o 1), .int (g o 2), .ref (ad 78), .int (g o 4)] : List Value).set k v)) (hg : ∀ o', o' ≠ o → g1 o' = g o') (hq : ∀ o', o' ≠ o → q1 o' = q o')
    (hdg : decode cc pc = .ok (.putfield index, 3)) (kk : ∀ (H1 : Heap) (locs1 : List Loc), Sy Z nT nK cT cK ad g1 q1 H1 → va_S (sy_A Z) s.heap H1 locs1 → W p l e R s m args below meth c H1 locs1 cells slots Q (F0 m (pc + 3) ls rest)) : W p l e R s m args below meth c H locs cells slots Q (F0 m pc ls (v :: .ref (ad o) :: rest)) :=
  sy_put hexec hb hts (uin_all uin_RX5) tyX5 tyX5_ok nmX5 hown hE hP hS o 6 hkd (by decide) rfl rfl k hk hlink (fun _ h9 => h9) hfin hd hn hfit hk g1 q1 he1 hg hq hdg kk
set_option maxRecDepth 100000 in
theorem uin_RX6 : (u_ws RX6 TX6 10).all (fun w => decide (w ∈ tables_1) && goodWord w) = true := by decide +kernel
theorem sy_getRX6 {own : String} {index : Nat} (hexec : p.tables.exec = Jvm.exec) (hb : c.code = cc) (hts : ∀ w ∈ uW c0, w.before args s = true) (hown : s.vm.findClass own = some m.cls) (hE : sEnv Z s) (hP : Sy Z nT nK cT cK ad g q H) (o : Nat) (hkd : sy_kd nT nK cT cK o = 7) (k : Nat) (hk : k < 10) (hlink : (Cond.fieldLink own index (TX6 k).1 (TX6 k).2.1 (TX6 k).2.2.1).before args s = true) {v : Value} (hv : ([.ref (ad 61), .ref (ad 62), .ref (ad 63), .ref (ad 64), .ref (ad 65), .ref (ad 66), .ref (ad 67), .ref (ad 68), .int (g o 8), .int (g o 9)] : List Value)[k]? = some v) (hdg : decode cc pc = .ok (.getfield index, 3))
    (kk : W p l e R s m args below meth c H locs cells slots Q (F0 m (pc + 3) ls (v :: rest))) : W p l e R s m args below meth c H locs cells slots Q (F0 m pc ls (.ref (ad o) :: rest)) :=
  sy_get hexec hb hts (uin_all uin_RX6) hown hE hP o 7 hkd (by decide) rfl rfl k hk hlink (fun _ h9 => h9) hv hdg kk
theorem sy_putRX6 {own : String} {index : Nat} (hexec : p.tables.exec = Jvm.exec) (hb : c.code = cc) (hts : ∀ w ∈ uW c0, w.before args s = true) (hown : s.vm.findClass own = some m.cls) (hE : sEnv Z s) (hP : Sy Z nT nK cT cK ad g q H) (hS : va_S (sy_A Z) s.heap H locs) (o : Nat) (hkd : sy_kd nT nK cT cK o = 7) (k : Nat) (hk : k < 10) (hlink : (Cond.fieldLink own index (TX6 k).1 (TX6 k).2.1 (TX6 k).2.2.1).before args s = true) (hfin : (TX6 k).2.2.2 = false) {ty : FieldType} {v : Value} (hd : parseFieldDescriptor (TX6 k).2.2.1 = some ty) (hn : narrow ty v = v) (hfit : fits ty v = true) (g1 : sG) (q1 : sQ) (he1 : sy_ent Z.2.1 ad o (sy_ln cT cK o) 7 (g1 o) (q1 o) = .inr (7, ([.ref (ad 61), .ref (ad 62), .ref (ad 63), .ref (ad 64), .ref (ad 65), .ref (ad 66), .ref (ad 67), .ref (ad 68), .int (g o 8), .int (g o 9)] : List Value).set k v)) (hg : ∀ o', o' ≠ o → g1 o' = g o') (hq : ∀ o', o' ≠ o → q1 o' = q o')
    (hdg : decode cc pc = .ok (.putfield index, 3)) (kk : ∀ (H1 : Heap) (locs1 : List Loc), Sy Z nT nK cT cK ad g1 q1 H1 → va_S (sy_A Z) s.heap H1 locs1 → W p l e R s m args below meth c H1 locs1 cells slots Q (F0 m (pc + 3) ls rest)) : W p l e R s m args below meth c H locs cells slots Q (F0 m pc ls (v :: .ref (ad o) :: rest)) :=
  sy_put hexec hb hts (uin_all uin_RX6) tyX6 tyX6_ok nmX6 hown hE hP hS o 7 hkd (by decide) rfl rfl k hk hlink (fun _ h9 => h9) hfin hd hn hfit hk g1 q1 he1 hg hq hdg kk
theorem sy_ialdN (hexec : p.tables.exec = Jvm.exec) (hb : c.code = cc) (hE : sEnv Z s) (hP : Sy Z nT nK cT cK ad g q H) (o : Nat) (hkd : sy_kd nT nK cT cK o = 10) {i : Int32} (hin : vp_in i (sy_ln cT cK o)) (kx : Nat) (hkx : i.toNatClampNeg = kx) {v : Int32} (hv : g o kx = v) (hdg : decode cc pc = .ok (.iaload, 1))
    (kk : W p l e R s m args below meth c H locs cells slots Q (F0 m (pc + 1) ls (.int v :: rest))) : W p l e R s m args below meth c H locs cells slots Q (F0 m pc ls (.int i :: .ref (ad o) :: rest)) :=
  sy_iald hexec hb hE hP o hkd hin hdg (by rw [hkx, hv]; exact kk)
theorem sy_iastN (hexec : p.tables.exec = Jvm.exec) (hb : c.code = cc) (hE : sEnv Z s) (hP : Sy Z nT nK cT cK ad g q H) (hS : va_S (sy_A Z) s.heap H locs) (o : Nat) (hkd : sy_kd nT nK cT cK o = 10) {i x : Int32} (hin : vp_in i (sy_ln cT cK o)) (kx : Nat) (hkx : i.toNatClampNeg = kx) (hdg : decode cc pc = .ok (.iastore, 1))
    (kk : ∀ (H1 : Heap) (locs1 : List Loc), Sy Z nT nK cT cK ad (sy_up g o kx x) q H1 → va_S (sy_A Z) s.heap H1 locs1 → W p l e R s m args below meth c H1 locs1 cells slots Q (F0 m (pc + 1) ls rest)) : W p l e R s m args below meth c H locs cells slots Q (F0 m pc ls (.int x :: .int i :: .ref (ad o) :: rest)) := by
  subst hkx
  exact sy_iast hexec hb hE hP hS o hkd hin hdg kk
theorem sy_top {x y : Int32} (h : x = y) (k : W p l e R s m args below meth c H locs cells slots Q (F0 m pc ls (.int y :: rest))) : W p l e R s m args below meth c H locs cells slots Q (F0 m pc ls (.int x :: rest)) := by
  subst h
  exact k
set_option maxRecDepth 100000 in
theorem se_RJx4a65c_0 (cy : Nat → ClassId) (ad : Nat → Nat) (o n : Nat) (r : Nat → Int32) (x : Nat → Option Nat) (v : Int32) : sy_ent cy ad o n 0 (va_up r 0 v) x = .inr (0, ([.int (r 0), .ref (ad (o + 9)), .int (r 2)] : List Value).set 0 (.int v)) := rfl
set_option maxRecDepth 100000 in
theorem se_RJx4a65c_2 (cy : Nat → ClassId) (ad : Nat → Nat) (o n : Nat) (r : Nat → Int32) (x : Nat → Option Nat) (v : Int32) : sy_ent cy ad o n 0 (va_up r 2 v) x = .inr (0, ([.int (r 0), .ref (ad (o + 9)), .int (r 2)] : List Value).set 2 (.int v)) := rfl
set_option maxRecDepth 100000 in
theorem se_RX0_0 (cy : Nat → ClassId) (ad : Nat → Nat) (o n : Nat) (r : Nat → Int32) (x : Nat → Option Nat) (v : Int32) : sy_ent cy ad o n 1 (va_up r 0 v) x = .inr (1, ([.int (r 0), .int (r 1), .int (r 2)] : List Value).set 0 (.int v)) := rfl
set_option maxRecDepth 100000 in
theorem se_RX0_1 (cy : Nat → ClassId) (ad : Nat → Nat) (o n : Nat) (r : Nat → Int32) (x : Nat → Option Nat) (v : Int32) : sy_ent cy ad o n 1 (va_up r 1 v) x = .inr (1, ([.int (r 0), .int (r 1), .int (r 2)] : List Value).set 1 (.int v)) := rfl
set_option maxRecDepth 100000 in
theorem se_RX0_2 (cy : Nat → ClassId) (ad : Nat → Nat) (o n : Nat) (r : Nat → Int32) (x : Nat → Option Nat) (v : Int32) : sy_ent cy ad o n 1 (va_up r 2 v) x = .inr (1, ([.int (r 0), .int (r 1), .int (r 2)] : List Value).set 2 (.int v)) := rfl
set_option maxRecDepth 100000 in
theorem se_RX1_0 (cy : Nat → ClassId) (ad : Nat → Nat) (o n : Nat) (r : Nat → Int32) (x : Nat → Option Nat) (v : Int32) : sy_ent cy ad o n 2 (va_up r 0 v) x = .inr (2, ([.int (r 0), .int (r 1), .int (r 2)] : List Value).set 0 (.int v)) := rfl
set_option maxRecDepth 100000 in
theorem se_RX1_1 (cy : Nat → ClassId) (ad : Nat → Nat) (o n : Nat) (r : Nat → Int32) (x : Nat → Option Nat) (v : Int32) : sy_ent cy ad o n 2 (va_up r 1 v) x = .inr (2, ([.int (r 0), .int (r 1), .int (r 2)] : List Value).set 1 (.int v)) := rfl
set_option maxRecDepth 100000 in
theorem se_RX1_2 (cy : Nat → ClassId) (ad : Nat → Nat) (o n : Nat) (r : Nat → Int32) (x : Nat → Option Nat) (v : Int32) : sy_ent cy ad o n 2 (va_up r 2 v) x = .inr (2, ([.int (r 0), .int (r 1), .int (r 2)] : List Value).set 2 (.int v)) := rfl
set_option maxRecDepth 100000 in
theorem se_RX2_3 (cy : Nat → ClassId) (ad : Nat → Nat) (o n : Nat) (r : Nat → Int32) (x : Nat → Option Nat) (v : Int32) : sy_ent cy ad o n 3 (va_up r 3 v) x = .inr (3, ([.ref (ad 72), .ref (ad 73), .ref (ad 74), .int (r 3), .ref (ad 76), .ref (ad 77), .int (r 6)] : List Value).set 3 (.int v)) := rfl
set_option maxRecDepth 100000 in
theorem se_RX2_6 (cy : Nat → ClassId) (ad : Nat → Nat) (o n : Nat) (r : Nat → Int32) (x : Nat → Option Nat) (v : Int32) : sy_ent cy ad o n 3 (va_up r 6 v) x = .inr (3, ([.ref (ad 72), .ref (ad 73), .ref (ad 74), .int (r 3), .ref (ad 76), .ref (ad 77), .int (r 6)] : List Value).set 6 (.int v)) := rfl
set_option maxRecDepth 100000 in
theorem se_RX3_0 (cy : Nat → ClassId) (ad : Nat → Nat) (o n : Nat) (r : Nat → Int32) (x : Nat → Option Nat) (v : Int32) : sy_ent cy ad o n 4 (va_up r 0 v) x = .inr (4, ([.int (r 0), .int (r 1), .int (r 2), .int (r 3), .int (r 4), .int (r 5), .int (r 6), .int (r 7), .int (r 8), .int (r 9), .int (r 10), sy_rv ad (x 11)] : List Value).set 0 (.int v)) := rfl
set_option maxRecDepth 100000 in
theorem se_RX3_1 (cy : Nat → ClassId) (ad : Nat → Nat) (o n : Nat) (r : Nat → Int32) (x : Nat → Option Nat) (v : Int32) : sy_ent cy ad o n 4 (va_up r 1 v) x = .inr (4, ([.int (r 0), .int (r 1), .int (r 2), .int (r 3), .int (r 4), .int (r 5), .int (r 6), .int (r 7), .int (r 8), .int (r 9), .int (r 10), sy_rv ad (x 11)] : List Value).set 1 (.int v)) := rfl
set_option maxRecDepth 100000 in
theorem se_RX3_2 (cy : Nat → ClassId) (ad : Nat → Nat) (o n : Nat) (r : Nat → Int32) (x : Nat → Option Nat) (v : Int32) : sy_ent cy ad o n 4 (va_up r 2 v) x = .inr (4, ([.int (r 0), .int (r 1), .int (r 2), .int (r 3), .int (r 4), .int (r 5), .int (r 6), .int (r 7), .int (r 8), .int (r 9), .int (r 10), sy_rv ad (x 11)] : List Value).set 2 (.int v)) := rfl
set_option maxRecDepth 100000 in
theorem se_RX3_3 (cy : Nat → ClassId) (ad : Nat → Nat) (o n : Nat) (r : Nat → Int32) (x : Nat → Option Nat) (v : Int32) : sy_ent cy ad o n 4 (va_up r 3 v) x = .inr (4, ([.int (r 0), .int (r 1), .int (r 2), .int (r 3), .int (r 4), .int (r 5), .int (r 6), .int (r 7), .int (r 8), .int (r 9), .int (r 10), sy_rv ad (x 11)] : List Value).set 3 (.int v)) := rfl
set_option maxRecDepth 100000 in
theorem se_RX3_4 (cy : Nat → ClassId) (ad : Nat → Nat) (o n : Nat) (r : Nat → Int32) (x : Nat → Option Nat) (v : Int32) : sy_ent cy ad o n 4 (va_up r 4 v) x = .inr (4, ([.int (r 0), .int (r 1), .int (r 2), .int (r 3), .int (r 4), .int (r 5), .int (r 6), .int (r 7), .int (r 8), .int (r 9), .int (r 10), sy_rv ad (x 11)] : List Value).set 4 (.int v)) := rfl
set_option maxRecDepth 100000 in
theorem se_RX3_5 (cy : Nat → ClassId) (ad : Nat → Nat) (o n : Nat) (r : Nat → Int32) (x : Nat → Option Nat) (v : Int32) : sy_ent cy ad o n 4 (va_up r 5 v) x = .inr (4, ([.int (r 0), .int (r 1), .int (r 2), .int (r 3), .int (r 4), .int (r 5), .int (r 6), .int (r 7), .int (r 8), .int (r 9), .int (r 10), sy_rv ad (x 11)] : List Value).set 5 (.int v)) := rfl
set_option maxRecDepth 100000 in
theorem se_RX3_6 (cy : Nat → ClassId) (ad : Nat → Nat) (o n : Nat) (r : Nat → Int32) (x : Nat → Option Nat) (v : Int32) : sy_ent cy ad o n 4 (va_up r 6 v) x = .inr (4, ([.int (r 0), .int (r 1), .int (r 2), .int (r 3), .int (r 4), .int (r 5), .int (r 6), .int (r 7), .int (r 8), .int (r 9), .int (r 10), sy_rv ad (x 11)] : List Value).set 6 (.int v)) := rfl
set_option maxRecDepth 100000 in
theorem se_RX3_7 (cy : Nat → ClassId) (ad : Nat → Nat) (o n : Nat) (r : Nat → Int32) (x : Nat → Option Nat) (v : Int32) : sy_ent cy ad o n 4 (va_up r 7 v) x = .inr (4, ([.int (r 0), .int (r 1), .int (r 2), .int (r 3), .int (r 4), .int (r 5), .int (r 6), .int (r 7), .int (r 8), .int (r 9), .int (r 10), sy_rv ad (x 11)] : List Value).set 7 (.int v)) := rfl
set_option maxRecDepth 100000 in
theorem se_RX3_8 (cy : Nat → ClassId) (ad : Nat → Nat) (o n : Nat) (r : Nat → Int32) (x : Nat → Option Nat) (v : Int32) : sy_ent cy ad o n 4 (va_up r 8 v) x = .inr (4, ([.int (r 0), .int (r 1), .int (r 2), .int (r 3), .int (r 4), .int (r 5), .int (r 6), .int (r 7), .int (r 8), .int (r 9), .int (r 10), sy_rv ad (x 11)] : List Value).set 8 (.int v)) := rfl
set_option maxRecDepth 100000 in
theorem se_RX3_9 (cy : Nat → ClassId) (ad : Nat → Nat) (o n : Nat) (r : Nat → Int32) (x : Nat → Option Nat) (v : Int32) : sy_ent cy ad o n 4 (va_up r 9 v) x = .inr (4, ([.int (r 0), .int (r 1), .int (r 2), .int (r 3), .int (r 4), .int (r 5), .int (r 6), .int (r 7), .int (r 8), .int (r 9), .int (r 10), sy_rv ad (x 11)] : List Value).set 9 (.int v)) := rfl
set_option maxRecDepth 100000 in
theorem se_RX3_10 (cy : Nat → ClassId) (ad : Nat → Nat) (o n : Nat) (r : Nat → Int32) (x : Nat → Option Nat) (v : Int32) : sy_ent cy ad o n 4 (va_up r 10 v) x = .inr (4, ([.int (r 0), .int (r 1), .int (r 2), .int (r 3), .int (r 4), .int (r 5), .int (r 6), .int (r 7), .int (r 8), .int (r 9), .int (r 10), sy_rv ad (x 11)] : List Value).set 10 (.int v)) := rfl
set_option maxRecDepth 100000 in
theorem se_RX3_11 (cy : Nat → ClassId) (ad : Nat → Nat) (o n : Nat) (r : Nat → Int32) (x : Nat → Option Nat) (v : Option Nat) : sy_ent cy ad o n 4 r (va_up x 11 v) = .inr (4, ([.int (r 0), .int (r 1), .int (r 2), .int (r 3), .int (r 4), .int (r 5), .int (r 6), .int (r 7), .int (r 8), .int (r 9), .int (r 10), sy_rv ad (x 11)] : List Value).set 11 (sy_rv ad v)) := rfl
set_option maxRecDepth 100000 in
theorem se_RX4_0 (cy : Nat → ClassId) (ad : Nat → Nat) (o n : Nat) (r : Nat → Int32) (x : Nat → Option Nat) (v : Int32) : sy_ent cy ad o n 5 (va_up r 0 v) x = .inr (5, ([.int (r 0), sy_rv ad (x 1), .int (r 2), .int (r 3), sy_rv ad (x 4), .int (r 5), .int (r 6), .int (r 7), .int (r 8), .int (r 9), .int (r 10), .int (r 11), .int (r 12), .int (r 13), .int (r 14), .int (r 15)] : List Value).set 0 (.int v)) := rfl
set_option maxRecDepth 100000 in
theorem se_RX4_1 (cy : Nat → ClassId) (ad : Nat → Nat) (o n : Nat) (r : Nat → Int32) (x : Nat → Option Nat) (v : Option Nat) : sy_ent cy ad o n 5 r (va_up x 1 v) = .inr (5, ([.int (r 0), sy_rv ad (x 1), .int (r 2), .int (r 3), sy_rv ad (x 4), .int (r 5), .int (r 6), .int (r 7), .int (r 8), .int (r 9), .int (r 10), .int (r 11), .int (r 12), .int (r 13), .int (r 14), .int (r 15)] : List Value).set 1 (sy_rv ad v)) := rfl
set_option maxRecDepth 100000 in
theorem se_RX4_2 (cy : Nat → ClassId) (ad : Nat → Nat) (o n : Nat) (r : Nat → Int32) (x : Nat → Option Nat) (v : Int32) : sy_ent cy ad o n 5 (va_up r 2 v) x = .inr (5, ([.int (r 0), sy_rv ad (x 1), .int (r 2), .int (r 3), sy_rv ad (x 4), .int (r 5), .int (r 6), .int (r 7), .int (r 8), .int (r 9), .int (r 10), .int (r 11), .int (r 12), .int (r 13), .int (r 14), .int (r 15)] : List Value).set 2 (.int v)) := rfl
set_option maxRecDepth 100000 in
theorem se_RX4_3 (cy : Nat → ClassId) (ad : Nat → Nat) (o n : Nat) (r : Nat → Int32) (x : Nat → Option Nat) (v : Int32) : sy_ent cy ad o n 5 (va_up r 3 v) x = .inr (5, ([.int (r 0), sy_rv ad (x 1), .int (r 2), .int (r 3), sy_rv ad (x 4), .int (r 5), .int (r 6), .int (r 7), .int (r 8), .int (r 9), .int (r 10), .int (r 11), .int (r 12), .int (r 13), .int (r 14), .int (r 15)] : List Value).set 3 (.int v)) := rfl
set_option maxRecDepth 100000 in
theorem se_RX4_4 (cy : Nat → ClassId) (ad : Nat → Nat) (o n : Nat) (r : Nat → Int32) (x : Nat → Option Nat) (v : Option Nat) : sy_ent cy ad o n 5 r (va_up x 4 v) = .inr (5, ([.int (r 0), sy_rv ad (x 1), .int (r 2), .int (r 3), sy_rv ad (x 4), .int (r 5), .int (r 6), .int (r 7), .int (r 8), .int (r 9), .int (r 10), .int (r 11), .int (r 12), .int (r 13), .int (r 14), .int (r 15)] : List Value).set 4 (sy_rv ad v)) := rfl
set_option maxRecDepth 100000 in
theorem se_RX4_5 (cy : Nat → ClassId) (ad : Nat → Nat) (o n : Nat) (r : Nat → Int32) (x : Nat → Option Nat) (v : Int32) : sy_ent cy ad o n 5 (va_up r 5 v) x = .inr (5, ([.int (r 0), sy_rv ad (x 1), .int (r 2), .int (r 3), sy_rv ad (x 4), .int (r 5), .int (r 6), .int (r 7), .int (r 8), .int (r 9), .int (r 10), .int (r 11), .int (r 12), .int (r 13), .int (r 14), .int (r 15)] : List Value).set 5 (.int v)) := rfl
set_option maxRecDepth 100000 in
theorem se_RX4_6 (cy : Nat → ClassId) (ad : Nat → Nat) (o n : Nat) (r : Nat → Int32) (x : Nat → Option Nat) (v : Int32) : sy_ent cy ad o n 5 (va_up r 6 v) x = .inr (5, ([.int (r 0), sy_rv ad (x 1), .int (r 2), .int (r 3), sy_rv ad (x 4), .int (r 5), .int (r 6), .int (r 7), .int (r 8), .int (r 9), .int (r 10), .int (r 11), .int (r 12), .int (r 13), .int (r 14), .int (r 15)] : List Value).set 6 (.int v)) := rfl
set_option maxRecDepth 100000 in
theorem se_RX4_7 (cy : Nat → ClassId) (ad : Nat → Nat) (o n : Nat) (r : Nat → Int32) (x : Nat → Option Nat) (v : Int32) : sy_ent cy ad o n 5 (va_up r 7 v) x = .inr (5, ([.int (r 0), sy_rv ad (x 1), .int (r 2), .int (r 3), sy_rv ad (x 4), .int (r 5), .int (r 6), .int (r 7), .int (r 8), .int (r 9), .int (r 10), .int (r 11), .int (r 12), .int (r 13), .int (r 14), .int (r 15)] : List Value).set 7 (.int v)) := rfl
set_option maxRecDepth 100000 in
theorem se_RX4_8 (cy : Nat → ClassId) (ad : Nat → Nat) (o n : Nat) (r : Nat → Int32) (x : Nat → Option Nat) (v : Int32) : sy_ent cy ad o n 5 (va_up r 8 v) x = .inr (5, ([.int (r 0), sy_rv ad (x 1), .int (r 2), .int (r 3), sy_rv ad (x 4), .int (r 5), .int (r 6), .int (r 7), .int (r 8), .int (r 9), .int (r 10), .int (r 11), .int (r 12), .int (r 13), .int (r 14), .int (r 15)] : List Value).set 8 (.int v)) := rfl
set_option maxRecDepth 100000 in
theorem se_RX4_9 (cy : Nat → ClassId) (ad : Nat → Nat) (o n : Nat) (r : Nat → Int32) (x : Nat → Option Nat) (v : Int32) : sy_ent cy ad o n 5 (va_up r 9 v) x = .inr (5, ([.int (r 0), sy_rv ad (x 1), .int (r 2), .int (r 3), sy_rv ad (x 4), .int (r 5), .int (r 6), .int (r 7), .int (r 8), .int (r 9), .int (r 10), .int (r 11), .int (r 12), .int (r 13), .int (r 14), .int (r 15)] : List Value).set 9 (.int v)) := rfl
set_option maxRecDepth 100000 in
theorem se_RX4_10 (cy : Nat → ClassId) (ad : Nat → Nat) (o n : Nat) (r : Nat → Int32) (x : Nat → Option Nat) (v : Int32) : sy_ent cy ad o n 5 (va_up r 10 v) x = .inr (5, ([.int (r 0), sy_rv ad (x 1), .int (r 2), .int (r 3), sy_rv ad (x 4), .int (r 5), .int (r 6), .int (r 7), .int (r 8), .int (r 9), .int (r 10), .int (r 11), .int (r 12), .int (r 13), .int (r 14), .int (r 15)] : List Value).set 10 (.int v)) := rfl
set_option maxRecDepth 100000 in
theorem se_RX4_11 (cy : Nat → ClassId) (ad : Nat → Nat) (o n : Nat) (r : Nat → Int32) (x : Nat → Option Nat) (v : Int32) : sy_ent cy ad o n 5 (va_up r 11 v) x = .inr (5, ([.int (r 0), sy_rv ad (x 1), .int (r 2), .int (r 3), sy_rv ad (x 4), .int (r 5), .int (r 6), .int (r 7), .int (r 8), .int (r 9), .int (r 10), .int (r 11), .int (r 12), .int (r 13), .int (r 14), .int (r 15)] : List Value).set 11 (.int v)) := rfl
set_option maxRecDepth 100000 in
theorem se_RX4_12 (cy : Nat → ClassId) (ad : Nat → Nat) (o n : Nat) (r : Nat → Int32) (x : Nat → Option Nat) (v : Int32) : sy_ent cy ad o n 5 (va_up r 12 v) x = .inr (5, ([.int (r 0), sy_rv ad (x 1), .int (r 2), .int (r 3), sy_rv ad (x 4), .int (r 5), .int (r 6), .int (r 7), .int (r 8), .int (r 9), .int (r 10), .int (r 11), .int (r 12), .int (r 13), .int (r 14), .int (r 15)] : List Value).set 12 (.int v)) := rfl
set_option maxRecDepth 100000 in
theorem se_RX4_13 (cy : Nat → ClassId) (ad : Nat → Nat) (o n : Nat) (r : Nat → Int32) (x : Nat → Option Nat) (v : Int32) : sy_ent cy ad o n 5 (va_up r 13 v) x = .inr (5, ([.int (r 0), sy_rv ad (x 1), .int (r 2), .int (r 3), sy_rv ad (x 4), .int (r 5), .int (r 6), .int (r 7), .int (r 8), .int (r 9), .int (r 10), .int (r 11), .int (r 12), .int (r 13), .int (r 14), .int (r 15)] : List Value).set 13 (.int v)) := rfl
set_option maxRecDepth 100000 in
theorem se_RX4_14 (cy : Nat → ClassId) (ad : Nat → Nat) (o n : Nat) (r : Nat → Int32) (x : Nat → Option Nat) (v : Int32) : sy_ent cy ad o n 5 (va_up r 14 v) x = .inr (5, ([.int (r 0), sy_rv ad (x 1), .int (r 2), .int (r 3), sy_rv ad (x 4), .int (r 5), .int (r 6), .int (r 7), .int (r 8), .int (r 9), .int (r 10), .int (r 11), .int (r 12), .int (r 13), .int (r 14), .int (r 15)] : List Value).set 14 (.int v)) := rfl
set_option maxRecDepth 100000 in
theorem se_RX4_15 (cy : Nat → ClassId) (ad : Nat → Nat) (o n : Nat) (r : Nat → Int32) (x : Nat → Option Nat) (v : Int32) : sy_ent cy ad o n 5 (va_up r 15 v) x = .inr (5, ([.int (r 0), sy_rv ad (x 1), .int (r 2), .int (r 3), sy_rv ad (x 4), .int (r 5), .int (r 6), .int (r 7), .int (r 8), .int (r 9), .int (r 10), .int (r 11), .int (r 12), .int (r 13), .int (r 14), .int (r 15)] : List Value).set 15 (.int v)) := rfl
set_option maxRecDepth 100000 in
theorem se_RX5_0 (cy : Nat → ClassId) (ad : Nat → Nat) (o n : Nat) (r : Nat → Int32) (x : Nat → Option Nat) (v : Int32) : sy_ent cy ad o n 6 (va_up r 0 v) x = .inr (6, ([.int (r 0), .int (r 1), .int (r 2), .ref (ad 78), .int (r 4)] : List Value).set 0 (.int v)) := rfl
set_option maxRecDepth 100000 in
theorem se_RX5_1 (cy : Nat → ClassId) (ad : Nat → Nat) (o n : Nat) (r : Nat → Int32) (x : Nat → Option Nat) (v : Int32) : sy_ent cy ad o n 6 (va_up r 1 v) x = .inr (6, ([.int (r 0), .int (r 1), .int (r 2), .ref (ad 78), .int (r 4)] : List Value).set 1 (.int v)) := rfl
set_option maxRecDepth 100000 in
theorem se_RX5_2 (cy : Nat → ClassId) (ad : Nat → Nat) (o n : Nat) (r : Nat → Int32) (x : Nat → Option Nat) (v : Int32) : sy_ent cy ad o n 6 (va_up r 2 v) x = .inr (6, ([.int (r 0), .int (r 1), .int (r 2), .ref (ad 78), .int (r 4)] : List Value).set 2 (.int v)) := rfl
set_option maxRecDepth 100000 in
theorem se_RX5_4 (cy : Nat → ClassId) (ad : Nat → Nat) (o n : Nat) (r : Nat → Int32) (x : Nat → Option Nat) (v : Int32) : sy_ent cy ad o n 6 (va_up r 4 v) x = .inr (6, ([.int (r 0), .int (r 1), .int (r 2), .ref (ad 78), .int (r 4)] : List Value).set 4 (.int v)) := rfl
set_option maxRecDepth 100000 in
theorem se_RX6_8 (cy : Nat → ClassId) (ad : Nat → Nat) (o n : Nat) (r : Nat → Int32) (x : Nat → Option Nat) (v : Int32) : sy_ent cy ad o n 7 (va_up r 8 v) x = .inr (7, ([.ref (ad 61), .ref (ad 62), .ref (ad 63), .ref (ad 64), .ref (ad 65), .ref (ad 66), .ref (ad 67), .ref (ad 68), .int (r 8), .int (r 9)] : List Value).set 8 (.int v)) := rfl
set_option maxRecDepth 100000 in
theorem se_RX6_9 (cy : Nat → ClassId) (ad : Nat → Nat) (o n : Nat) (r : Nat → Int32) (x : Nat → Option Nat) (v : Int32) : sy_ent cy ad o n 7 (va_up r 9 v) x = .inr (7, ([.ref (ad 61), .ref (ad 62), .ref (ad 63), .ref (ad 64), .ref (ad 65), .ref (ad 66), .ref (ad 67), .ref (ad 68), .int (r 8), .int (r 9)] : List Value).set 9 (.int v)) := rfl
theorem sy_alen (hexec : p.tables.exec = Jvm.exec) (hb : c.code = cc) (hE : sEnv Z s) (hP : Sy Z nT nK cT cK ad g q H) (o : Nat) {kc t0 : Nat} (hkd : sy_kd nT nK cT cK o = kc) (h9 : kc < 99) {cA : ClassId} {x : vp_A} (he : sy_ent Z.2.1 ad o (sy_ln cT cK o) kc (g o) (q o) = .inl (cA, x)) {ty : FieldType} (ht : (sy_tys Z.2.1)[t0]? = some (cA, ty)) {v : Int32} (hv : Int32.ofNat x.1 = v) (hdg : decode cc pc = .ok (.arraylength, 1))
    (kk : W p l e R s m args below meth c H locs cells slots Q (F0 m (pc + 1) ls (.int v :: rest))) : W p l e R s m args below meth c H locs cells slots Q (F0 m pc ls (.ref (ad o) :: rest)) :=
  va_alen (ws := [(ad o, .inl (cA, x))]) hexec hb hE.1 (sy_one hP hkd h9 he) 0 t0 rfl ht hv hdg kk
theorem sy_aald (hexec : p.tables.exec = Jvm.exec) (hb : c.code = cc) (hE : sEnv Z s) (hP : Sy Z nT nK cT cK ad g q H) (o kc t0 : Nat) (hkd : sy_kd nT nK cT cK o = kc) (h9 : kc < 99) {cA : ClassId} {n : Nat} (he : sy_ent Z.2.1 ad o (sy_ln cT cK o) kc (g o) (q o) = .inl (cA, n, .inr (.inr (.inr (.inr (fun j => (q o j).map ad)))))) {C : String} (ht : (sy_tys Z.2.1)[t0]? = some (cA, .object C)) {i : Int32} (hin : vp_in i n) (o1 : Nat) (ho1 : q o i.toNatClampNeg = some o1) (hdg : decode cc pc = .ok (.aaload, 1))
    (kk : W p l e R s m args below meth c H locs cells slots Q (F0 m (pc + 1) ls (.ref (ad o1) :: rest))) : W p l e R s m args below meth c H locs cells slots Q (F0 m pc ls (.int i :: .ref (ad o) :: rest)) :=
  va_aldq (ws := [(ad o, .inl (cA, n, .inr (.inr (.inr (.inr (fun j => (q o j).map ad))))))]) hexec hb hE.1 (sy_one hP hkd h9 he) 0 t0 rfl ht hin hdg (by rw [ho1]; exact kk)
/-- a reference of any kind from a local, and the comparison of two -/
theorem sy_aload (hexec : p.tables.exec = Jvm.exec) (hb : c.code = cc) {i : Nat} {x : Nat} (hdg : decode cc pc = .ok (.aload i, 2)) (hl : ls[i]? = some (.val (.ref x)))
    (k : W p l e R s m args below meth c H locs cells slots Q (F0 m (pc + 2) ls (.ref x :: rest))) : W p l e R s m args below meth c H locs cells slots Q (F0 m pc ls rest) := lv_aload hexec hb hdg hl k
end SFL
theorem sy_injT {Z : sZ} {nT nK cT cK : Nat} {ad : Nat → Nat} {g : sG} {q : sQ} {H : Heap} {a b : Nat} (hP : Sy Z nT nK cT cK ad g q H) (h1 : sy_kd nT nK cT cK (100 + a) = 4) (h2 : sy_kd nT nK cT cK (100 + b) = 4) (h : some (ad (100 + a)) = some (ad (100 + b))) : a = b := by
  have := hP.2.2 (100 + a) (100 + b) (by rw [h1]; decide) (by rw [h2]; decide) (Option.some.inj h)
  omega
theorem sy_kdT {nT nK cT cK i : Nat} (h : i < nT) (h2 : nT ≤ 100) : sy_kd nT nK cT cK (100 + i) = 4 := by
  unfold sy_kd
  rw [if_neg (by omega), if_pos (by omega), if_pos (by omega)]
theorem sy_kdK {nT nK cT cK j : Nat} (h : j < nK) : sy_kd nT nK cT cK (200 + j) = 5 := by
  unfold sy_kd
  rw [if_neg (by omega), if_neg (by omega), if_pos (by omega)]
theorem sy_kdX {nT nK cT cK k : Nat} (h : k < 4) : sy_kd nT nK cT cK (80 + k) = 2 := by
  match k, h with
  | 0, _ => rfl
  | 1, _ => rfl
  | 2, _ => rfl
  | 3, _ => rfl
theorem sy_kdC {nT nK cT cK k : Nat} (h : k < 3) : sy_kd nT nK cT cK (84 + k) = 1 := by
  match k, h with
  | 0, _ => rfl
  | 1, _ => rfl
  | 2, _ => rfl
theorem vp_in_c {x k : Int32} {n : Nat} (h : 0 ≤ x ∧ x ≤ k) (hk : k.toInt + 1 = n) : vp_in x n := by
  refine vp_in_iff.mpr ⟨Int32.le_iff_toInt_le.mp h.1, ?_⟩
  have h1 := Int32.le_iff_toInt_le.mp h.2
  omega
theorem vp_in_lt {i : Int32} {n : Nat} (h : vp_in i n) : i.toNatClampNeg < n := Nat.not_le.mp fun q => h (Or.inr q)
theorem vp_in_of2 {x : Int32} {a : Int32} {n N : Nat} (ha : a = nI n) (hn : n ≤ N) (hN : N < 2 ^ 31) (h : 0 ≤ x ∧ x < a) : vp_in x N := by
  refine vp_in_iff.mpr ⟨Int32.le_iff_toInt_le.mp h.1, ?_⟩
  have h1 := Int32.lt_iff_toInt_lt.mp h.2
  rw [ha, nI_toInt (by omega)] at h1
  omega

