section SPF
variable {p : Program} {l : Launch} {e : Env} {R : Room} {s : State} {m : MethodId} {args : Array Value} {below : List Frame} {meth : Method} {c : Code} {H : Heap} {locs : List Loc} {cells slots : Nat} {Q : State → Prop}
variable {cc : ByteArray} {pc : Nat} {ls : Array Slot} {rest : List Value} {Z : sZ} {nT nK cT cK : Nat} {ad : Nat → Nat} {g : sG} {q : sQ} {c0 : Cond}
theorem sy_putF (hexec : p.tables.exec = Jvm.exec) (hb : c.code = cc) {own ref C : String} {T : u_T} {N ci index : Nat} {Ts : List Cond} (hts : ∀ w ∈ Ts, w.before args s = true) (hin : ∀ w ∈ u_ws C T N, w ∈ Ts) (ty0 : Nat → FieldType) (hty : ∀ k, k < N → parseFieldDescriptor (T k).2.2.1 = some (ty0 k)) (hnm : ∀ a, a < N → ∀ b, b < N → a ≠ b → (T a).2.1 ≠ (T b).2.1) (hown : s.vm.findClass own = some m.cls) (hE : sEnv Z s) (hP : Sy Z nT nK cT cK ad g q H) (hS0 : va_S (sy_A Z) s.heap H locs) (o kc : Nat) (hkd : sy_kd nT nK cT cK o = kc) (h5 : kc < 50) {fs : List Value} (he : sy_ent Z.2.1 ad o (sy_ln cT cK o) kc (g o) (q o) = .inr (ci, fs)) (hc : vwCl[ci]? = some (C, T, N)) (k : Nat) (hk : k < N) (hlink : (Cond.fieldLink own index ref (T k).2.1 (T k).2.2.1).before args s = true) (hsame : ∀ x, s.fieldFound? (T k).1 (T k).2.1 (T k).2.2.1 = some x → s.fieldFound? ref (T k).2.1 (T k).2.2.1 = some x) (hfin : (T k).2.2.2 = true) (hin2 : meth.name = "<init>") (hdecl : (T k).1 = own) {ty : FieldType} {v : Value} (hd : parseFieldDescriptor (T k).2.2.1 = some ty) (hn : narrow ty v = v) (hfit : fits ty v = true) (hl : k < fs.length) (g1 : sG) (q1 : sQ) (he1 : sy_ent Z.2.1 ad o (sy_ln cT cK o) kc (g1 o) (q1 o) = .inr (ci, fs.set k v)) (hg : ∀ o', o' ≠ o → g1 o' = g o') (hq : ∀ o', o' ≠ o → q1 o' = q o')
    (hdg : decode cc pc = .ok (.putfield index, 3)) (kk : ∀ (H1 : Heap) (locs1 : List Loc), Sy Z nT nK cT cK ad g1 q1 H1 → va_S (sy_A Z) s.heap H1 locs1 → W p l e R s m args below meth c H1 locs1 cells slots Q (F0 m (pc + 3) ls rest)) : W p l e R s m args below meth c H locs cells slots Q (F0 m pc ls (v :: .ref (ad o) :: rest)) := by
  have hap := va_apart (own := own) hts hin ty0 hty hnm hE.1 hc
  have hA : sy_A Z (ad o) := hP.2.1 o (by rw [hkd]; exact h5)
  have hP1 := sy_one hP hkd (by omega) he
  obtain ⟨r, h1, cell, q2, q3, q4, q5⟩ := hP1 0 _ rfl
  have hr : r = (C, T, N) := Option.some.inj (h1.symm.trans hc)
  subst hr
  obtain ⟨hS, hfc, kC, hkC, hkind⟩ := hE.1.1 ci _ hc
  obtain ⟨cf, kf, fi, f, hi, hsl⟩ := hS k hk
  have hlay := hts _ (hin _ (u_in_lay hk))
  unfold u_lay at hlay
  rw [if_pos hfin] at hlay
  have hst := (u_facts hfc hkC (u_lays hts hin hk) hi).1
  have hcf : m.cls = cf := by
    obtain ⟨_, _, c', _, _, _, -, -, hf', -, -, -, hown2, -⟩ := Cond.laysFinal_spec hlay
    have e1 : c' = cf := by have := hi.symm.trans hf'; simp at this; exact this.1.symm
    rw [hdecl] at hown2
    rw [← e1]; exact Option.some.inj (hown.symm.trans hown2)
  have h6 := u_fits hfc hkC hkind (Or.inr hlay) hi hd hn hfit
  refine W.putFinK hexec hb hown hlink (hsame _ hi) hst hcf hin2 (by rw [q3]; exact h6) q2 q4 (by rw [hsl]; exact k2_hasslot (q5 k hk)) rfl rfl hdg fun H' e1 e2 e3 => ?_
  rw [hsl] at e1 ⊢
  exact kk H' _ (sy_set hP hkd h5 (e1 := .inr (ci, fs.set k v)) ⟨_, hc, t_OB.to (V := updV (vp_V fs) k v) ⟨_, e1, q3, q4, t_set q5 hap hk v⟩ (fun j _ => vp_updV_set hl v j)⟩ e3 he1 hg hq) (hS0.put e2 e3 hA)
theorem sy_putFRX3 {own : String} {index : Nat} (hexec : p.tables.exec = Jvm.exec) (hb : c.code = cc) (hts : ∀ w ∈ uW c0, w.before args s = true) (hown : s.vm.findClass own = some m.cls) (hE : sEnv Z s) (hP : Sy Z nT nK cT cK ad g q H) (hS : va_S (sy_A Z) s.heap H locs) (o : Nat) (hkd : sy_kd nT nK cT cK o = 4) (k : Nat) (hk : k < 12) (hlink : (Cond.fieldLink own index (TX3 k).1 (TX3 k).2.1 (TX3 k).2.2.1).before args s = true) (hfin : (TX3 k).2.2.2 = true) (hin2 : meth.name = "<init>") (hdecl : (TX3 k).1 = own) {ty : FieldType} {v : Value} (hd : parseFieldDescriptor (TX3 k).2.2.1 = some ty) (hn : narrow ty v = v) (hfit : fits ty v = true) (g1 : sG) (q1 : sQ) (he1 : sy_ent Z.2.1 ad o (sy_ln cT cK o) 4 (g1 o) (q1 o) = .inr (4, ([.int (g o 0), .int (g o 1), .int (g o 2), .int (g o 3), .int (g o 4), .int (g o 5), .int (g o 6), .int (g o 7), .int (g o 8), .int (g o 9), .int (g o 10), sy_rv ad (q o 11)] : List Value).set k v)) (hg : ∀ o', o' ≠ o → g1 o' = g o') (hq : ∀ o', o' ≠ o → q1 o' = q o')
    (hdg : decode cc pc = .ok (.putfield index, 3)) (kk : ∀ (H1 : Heap) (locs1 : List Loc), Sy Z nT nK cT cK ad g1 q1 H1 → va_S (sy_A Z) s.heap H1 locs1 → W p l e R s m args below meth c H1 locs1 cells slots Q (F0 m (pc + 3) ls rest)) : W p l e R s m args below meth c H locs cells slots Q (F0 m pc ls (v :: .ref (ad o) :: rest)) :=
  sy_putF hexec hb hts (uin_all uin_RX3) tyX3 tyX3_ok nmX3 hown hE hP hS o 4 hkd (by decide) rfl rfl k hk hlink (fun _ h9 => h9) hfin hin2 hdecl hd hn hfit hk g1 q1 he1 hg hq hdg kk
theorem sy_putFRX4 {own : String} {index : Nat} (hexec : p.tables.exec = Jvm.exec) (hb : c.code = cc) (hts : ∀ w ∈ uW c0, w.before args s = true) (hown : s.vm.findClass own = some m.cls) (hE : sEnv Z s) (hP : Sy Z nT nK cT cK ad g q H) (hS : va_S (sy_A Z) s.heap H locs) (o : Nat) (hkd : sy_kd nT nK cT cK o = 5) (k : Nat) (hk : k < 16) (hlink : (Cond.fieldLink own index (TX4 k).1 (TX4 k).2.1 (TX4 k).2.2.1).before args s = true) (hfin : (TX4 k).2.2.2 = true) (hin2 : meth.name = "<init>") (hdecl : (TX4 k).1 = own) {ty : FieldType} {v : Value} (hd : parseFieldDescriptor (TX4 k).2.2.1 = some ty) (hn : narrow ty v = v) (hfit : fits ty v = true) (g1 : sG) (q1 : sQ) (he1 : sy_ent Z.2.1 ad o (sy_ln cT cK o) 5 (g1 o) (q1 o) = .inr (5, ([.int (g o 0), sy_rv ad (q o 1), .int (g o 2), .int (g o 3), sy_rv ad (q o 4), .int (g o 5), .int (g o 6), .int (g o 7), .int (g o 8), .int (g o 9), .int (g o 10), .int (g o 11), .int (g o 12), .int (g o 13), .int (g o 14), .int (g o 15)] : List Value).set k v)) (hg : ∀ o', o' ≠ o → g1 o' = g o') (hq : ∀ o', o' ≠ o → q1 o' = q o')
    (hdg : decode cc pc = .ok (.putfield index, 3)) (kk : ∀ (H1 : Heap) (locs1 : List Loc), Sy Z nT nK cT cK ad g1 q1 H1 → va_S (sy_A Z) s.heap H1 locs1 → W p l e R s m args below meth c H1 locs1 cells slots Q (F0 m (pc + 3) ls rest)) : W p l e R s m args below meth c H locs cells slots Q (F0 m pc ls (v :: .ref (ad o) :: rest)) :=
  sy_putF hexec hb hts (uin_all uin_RX4) tyX4 tyX4_ok nmX4 hown hE hP hS o 5 hkd (by decide) rfl rfl k hk hlink (fun _ h9 => h9) hfin hin2 hdecl hd hn hfit hk g1 q1 he1 hg hq hdg kk
end SPF
theorem b01 {x : Int32} (h : x = 0 ∨ x = 1) : x &&& 1 = x := by rcases h with h | h <;> subst h <;> rfl
theorem b01f {x : Int32} (h : x = 0 ∨ x = 1) : fits .boolean (.int x) = true := by rcases h with h | h <;> subst h <;> rfl
def fX3_init (g : sG) (q : sQ) (k : Nat) (x1 x2 x3 x4 : Int32) : sG × sQ := ((sy_up (sy_up (sy_up (sy_up (sy_up (sy_up (sy_up (sy_up (sy_up (sy_up (sy_up g (100 + k) 4 0) (100 + k) 5 0) (100 + k) 6 0) (100 + k) 7 (-1)) (100 + k) 8 (-1)) (100 + k) 9 0) (100 + k) 10 0) (100 + k) 0 x1) (100 + k) 1 x2) (100 + k) 2 x3) (100 + k) 3 x4), (sy_up q (100 + k) 11 none))
set_option maxHeartbeats 4000000 in
set_option maxRecDepth 100000 in
theorem mX3_init (l : Launch) (hfl : l.stackTraces = false) (Z : sZ) (nT nK cT cK : Nat) (ad : Nat → Nat) (g : sG) (q : sQ) (k : Nat) (x1 x2 x3 x4 : Int32) (hkd : sy_kd nT nK cT cK (100 + k) = 4) : sMv l Z yX3_init (uW (.code yX3_init cX3_init 5 none)) { frames := 1, cells := 0, slots := 0, locals := 30 } [.ref (ad (100 + k)), .int x1, .int x2, .int x3, .int x4] nT nK cT cK ad g q (fun g1 q1 => (g1, q1) = fX3_init g q k x1 x2 x3 x4) := by
  refine Met.ofW (cc := cX3_init) (maxL := 5) (ret := none) (by decide) rfl ?_
  intro p e s m args below meth c s₁ B hml hv
  obtain ⟨rfl, hE, hP⟩ := hv
  have hx := B.exec
  have hb := B.bytes
  have hr := B.returns
  have hts := atoms_spec (ws := uW (.code yX3_init cX3_init 5 none)) B.pre
  have hown : s.vm.findClass RX3 = some m.cls := findClass_of_methodNamed B.named
  have hlocks := B.notSynchronized
  have hin : meth.name = "<init>" := (name_of_methodNamed B.named B.method).1
  have hS : va_S (sy_A Z) s.heap s.heap [] := va_S.rf
  have hl := lv_entry ([.ref (ad (100 + k)), .int x1, .int x2, .int x3, .int x4]) (n := 5) (Nat.le_of_ble_eq_true rfl)
  rw [lg_entry_eq]
  generalize (lg_sl ([.ref (ad (100 + k)), .int x1, .int x2, .int x3, .int x4]) ++ List.replicate (5 - (lg_sl ([.ref (ad (100 + k)), .int x1, .int x2, .int x3, .int x4])).length) Slot.unset).toArray = ls at hl ⊢
  have hl : lv_has ls 5 [(0, .ref (ad (100 + k))), (1, .int x1), (2, .int x2), (3, .int x3), (4, .int x4)] := hl
  refine lv_aload_n hx hb dX3_init_0 rfl (lv_at hl 0 rfl) ?_
  refine W.objInit hx hb hown (hts _ (u_in uk_2_73)) (hts _ (u_in uk_1_29)) (hts _ (u_in uk_1_30)) rfl (by rw [hml]; exact hl.1) rfl dX3_init_1 (Nat.le_of_ble_eq_true rfl) (Nat.le_of_ble_eq_true rfl) ?_
  refine lv_aload_n hx hb dX3_init_4 rfl (lv_at hl 0 rfl) ?_
  refine lv_iconst (v := 0) hx hb dX3_init_5 (by decide) ?_
  refine sy_putRX3 hx hb hts hown hE hP hS (100 + k) hkd 4 (by decide) (hts _ (u_in uk_2_82)) rfl (ty := .int) (by decide +kernel) rfl rfl (sy_up g (100 + k) 4 0) q (by rw [sy_up_s g (100 + k) 4 0]; exact se_RX3_4 _ _ _ _ _ _ _) (fun _ h9 => sy_up_o _ _ _ h9) (fun _ _ => rfl) dX3_init_6 (fun H locs hP hS => ?_)
  refine lv_aload_n hx hb dX3_init_9 rfl (lv_at hl 0 rfl) ?_
  refine lv_iconst (v := 0) hx hb dX3_init_10 (by decide) ?_
  refine sy_putRX3 hx hb hts hown hE hP hS (100 + k) hkd 5 (by decide) (hts _ (u_in uk_2_84)) rfl (ty := .boolean) (by decide +kernel) (by show Value.int (0 &&& 1) = .int 0; exact congrArg Value.int (by decide)) rfl (sy_up (sy_up g (100 + k) 4 0) (100 + k) 5 0) q (by rw [sy_up_s (sy_up g (100 + k) 4 0) (100 + k) 5 0]; exact se_RX3_5 _ _ _ _ _ _ _) (fun _ h9 => sy_up_o _ _ _ h9) (fun _ _ => rfl) dX3_init_11 (fun H locs hP hS => ?_)
  refine lv_aload_n hx hb dX3_init_14 rfl (lv_at hl 0 rfl) ?_
  refine lv_iconst (v := 0) hx hb dX3_init_15 (by decide) ?_
  refine sy_putRX3 hx hb hts hown hE hP hS (100 + k) hkd 6 (by decide) (hts _ (u_in uk_2_86)) rfl (ty := .boolean) (by decide +kernel) (by show Value.int (0 &&& 1) = .int 0; exact congrArg Value.int (by decide)) rfl (sy_up (sy_up (sy_up g (100 + k) 4 0) (100 + k) 5 0) (100 + k) 6 0) q (by rw [sy_up_s (sy_up (sy_up g (100 + k) 4 0) (100 + k) 5 0) (100 + k) 6 0]; exact se_RX3_6 _ _ _ _ _ _ _) (fun _ h9 => sy_up_o _ _ _ h9) (fun _ _ => rfl) dX3_init_16 (fun H locs hP hS => ?_)
  refine lv_aload_n hx hb dX3_init_19 rfl (lv_at hl 0 rfl) ?_
  refine lv_iconst (v := (-1)) hx hb dX3_init_20 (by decide) ?_
  refine sy_putRX3 hx hb hts hown hE hP hS (100 + k) hkd 7 (by decide) (hts _ (u_in uk_2_89)) rfl (ty := .int) (by decide +kernel) rfl rfl (sy_up (sy_up (sy_up (sy_up g (100 + k) 4 0) (100 + k) 5 0) (100 + k) 6 0) (100 + k) 7 (-1)) q (by rw [sy_up_s (sy_up (sy_up (sy_up g (100 + k) 4 0) (100 + k) 5 0) (100 + k) 6 0) (100 + k) 7 (-1)]; exact se_RX3_7 _ _ _ _ _ _ _) (fun _ h9 => sy_up_o _ _ _ h9) (fun _ _ => rfl) dX3_init_21 (fun H locs hP hS => ?_)
  refine lv_aload_n hx hb dX3_init_24 rfl (lv_at hl 0 rfl) ?_
  refine lv_iconst (v := (-1)) hx hb dX3_init_25 (by decide) ?_
  refine sy_putRX3 hx hb hts hown hE hP hS (100 + k) hkd 8 (by decide) (hts _ (u_in uk_2_91)) rfl (ty := .int) (by decide +kernel) rfl rfl (sy_up (sy_up (sy_up (sy_up (sy_up g (100 + k) 4 0) (100 + k) 5 0) (100 + k) 6 0) (100 + k) 7 (-1)) (100 + k) 8 (-1)) q (by rw [sy_up_s (sy_up (sy_up (sy_up (sy_up g (100 + k) 4 0) (100 + k) 5 0) (100 + k) 6 0) (100 + k) 7 (-1)) (100 + k) 8 (-1)]; exact se_RX3_8 _ _ _ _ _ _ _) (fun _ h9 => sy_up_o _ _ _ h9) (fun _ _ => rfl) dX3_init_26 (fun H locs hP hS => ?_)
  refine lv_aload_n hx hb dX3_init_29 rfl (lv_at hl 0 rfl) ?_
  refine lv_iconst (v := 0) hx hb dX3_init_30 (by decide) ?_
  refine sy_putRX3 hx hb hts hown hE hP hS (100 + k) hkd 9 (by decide) (hts _ (u_in uk_2_93)) rfl (ty := .int) (by decide +kernel) rfl rfl (sy_up (sy_up (sy_up (sy_up (sy_up (sy_up g (100 + k) 4 0) (100 + k) 5 0) (100 + k) 6 0) (100 + k) 7 (-1)) (100 + k) 8 (-1)) (100 + k) 9 0) q (by rw [sy_up_s (sy_up (sy_up (sy_up (sy_up (sy_up g (100 + k) 4 0) (100 + k) 5 0) (100 + k) 6 0) (100 + k) 7 (-1)) (100 + k) 8 (-1)) (100 + k) 9 0]; exact se_RX3_9 _ _ _ _ _ _ _) (fun _ h9 => sy_up_o _ _ _ h9) (fun _ _ => rfl) dX3_init_31 (fun H locs hP hS => ?_)
  refine lv_aload_n hx hb dX3_init_34 rfl (lv_at hl 0 rfl) ?_
  refine lv_iconst (v := 0) hx hb dX3_init_35 (by decide) ?_
  refine sy_putRX3 hx hb hts hown hE hP hS (100 + k) hkd 10 (by decide) (hts _ (u_in uk_2_94)) rfl (ty := .int) (by decide +kernel) rfl rfl (sy_up (sy_up (sy_up (sy_up (sy_up (sy_up (sy_up g (100 + k) 4 0) (100 + k) 5 0) (100 + k) 6 0) (100 + k) 7 (-1)) (100 + k) 8 (-1)) (100 + k) 9 0) (100 + k) 10 0) q (by rw [sy_up_s (sy_up (sy_up (sy_up (sy_up (sy_up (sy_up g (100 + k) 4 0) (100 + k) 5 0) (100 + k) 6 0) (100 + k) 7 (-1)) (100 + k) 8 (-1)) (100 + k) 9 0) (100 + k) 10 0]; exact se_RX3_10 _ _ _ _ _ _ _) (fun _ h9 => sy_up_o _ _ _ h9) (fun _ _ => rfl) dX3_init_36 (fun H locs hP hS => ?_)
  refine lv_aload_n hx hb dX3_init_39 rfl (lv_at hl 0 rfl) ?_
  refine lv_null hx hb dX3_init_40 ?_
  refine sy_putRX3 hx hb hts hown hE hP hS (100 + k) hkd 11 (by decide) (hts _ (u_in uk_2_96)) rfl (ty := .object "Pledgehouse$Ticket") (by decide +kernel) rfl rfl (sy_up (sy_up (sy_up (sy_up (sy_up (sy_up (sy_up g (100 + k) 4 0) (100 + k) 5 0) (100 + k) 6 0) (100 + k) 7 (-1)) (100 + k) 8 (-1)) (100 + k) 9 0) (100 + k) 10 0) (sy_up q (100 + k) 11 none) (by rw [sy_up_s q (100 + k) 11 none]; exact se_RX3_11 _ _ _ _ _ _ _) (fun _ _ => rfl) (fun _ h9 => sy_up_o _ _ _ h9) dX3_init_41 (fun H locs hP hS => ?_)
  refine lv_aload_n hx hb dX3_init_44 rfl (lv_at hl 0 rfl) ?_
  refine lv_iload_n hx hb dX3_init_45 rfl (lv_at hl 1 rfl) ?_
  refine sy_putFRX3 hx hb hts hown hE hP hS (100 + k) hkd 0 (by decide) (hts _ (u_in uk_2_74)) rfl hin rfl (ty := .int) (by decide +kernel) rfl rfl (sy_up (sy_up (sy_up (sy_up (sy_up (sy_up (sy_up (sy_up g (100 + k) 4 0) (100 + k) 5 0) (100 + k) 6 0) (100 + k) 7 (-1)) (100 + k) 8 (-1)) (100 + k) 9 0) (100 + k) 10 0) (100 + k) 0 x1) (sy_up q (100 + k) 11 none) (by rw [sy_up_s (sy_up (sy_up (sy_up (sy_up (sy_up (sy_up (sy_up g (100 + k) 4 0) (100 + k) 5 0) (100 + k) 6 0) (100 + k) 7 (-1)) (100 + k) 8 (-1)) (100 + k) 9 0) (100 + k) 10 0) (100 + k) 0 x1]; exact se_RX3_0 _ _ _ _ _ _ _) (fun _ h9 => sy_up_o _ _ _ h9) (fun _ _ => rfl) dX3_init_46 (fun H locs hP hS => ?_)
  refine lv_aload_n hx hb dX3_init_49 rfl (lv_at hl 0 rfl) ?_
  refine lv_iload_n hx hb dX3_init_50 rfl (lv_at hl 2 rfl) ?_
  refine sy_putFRX3 hx hb hts hown hE hP hS (100 + k) hkd 1 (by decide) (hts _ (u_in uk_2_76)) rfl hin rfl (ty := .int) (by decide +kernel) rfl rfl (sy_up (sy_up (sy_up (sy_up (sy_up (sy_up (sy_up (sy_up (sy_up g (100 + k) 4 0) (100 + k) 5 0) (100 + k) 6 0) (100 + k) 7 (-1)) (100 + k) 8 (-1)) (100 + k) 9 0) (100 + k) 10 0) (100 + k) 0 x1) (100 + k) 1 x2) (sy_up q (100 + k) 11 none) (by rw [sy_up_s (sy_up (sy_up (sy_up (sy_up (sy_up (sy_up (sy_up (sy_up g (100 + k) 4 0) (100 + k) 5 0) (100 + k) 6 0) (100 + k) 7 (-1)) (100 + k) 8 (-1)) (100 + k) 9 0) (100 + k) 10 0) (100 + k) 0 x1) (100 + k) 1 x2]; exact se_RX3_1 _ _ _ _ _ _ _) (fun _ h9 => sy_up_o _ _ _ h9) (fun _ _ => rfl) dX3_init_51 (fun H locs hP hS => ?_)
  refine lv_aload_n hx hb dX3_init_54 rfl (lv_at hl 0 rfl) ?_
  refine lv_iload_n hx hb dX3_init_55 rfl (lv_at hl 3 rfl) ?_
  refine sy_putFRX3 hx hb hts hown hE hP hS (100 + k) hkd 2 (by decide) (hts _ (u_in uk_2_78)) rfl hin rfl (ty := .int) (by decide +kernel) rfl rfl (sy_up (sy_up (sy_up (sy_up (sy_up (sy_up (sy_up (sy_up (sy_up (sy_up g (100 + k) 4 0) (100 + k) 5 0) (100 + k) 6 0) (100 + k) 7 (-1)) (100 + k) 8 (-1)) (100 + k) 9 0) (100 + k) 10 0) (100 + k) 0 x1) (100 + k) 1 x2) (100 + k) 2 x3) (sy_up q (100 + k) 11 none) (by rw [sy_up_s (sy_up (sy_up (sy_up (sy_up (sy_up (sy_up (sy_up (sy_up (sy_up g (100 + k) 4 0) (100 + k) 5 0) (100 + k) 6 0) (100 + k) 7 (-1)) (100 + k) 8 (-1)) (100 + k) 9 0) (100 + k) 10 0) (100 + k) 0 x1) (100 + k) 1 x2) (100 + k) 2 x3]; exact se_RX3_2 _ _ _ _ _ _ _) (fun _ h9 => sy_up_o _ _ _ h9) (fun _ _ => rfl) dX3_init_56 (fun H locs hP hS => ?_)
  refine lv_aload_n hx hb dX3_init_59 rfl (lv_at hl 0 rfl) ?_
  refine lv_iload hx hb dX3_init_60 (lv_at hl 4 rfl) ?_
  refine sy_putFRX3 hx hb hts hown hE hP hS (100 + k) hkd 3 (by decide) (hts _ (u_in uk_2_80)) rfl hin rfl (ty := .int) (by decide +kernel) rfl rfl (sy_up (sy_up (sy_up (sy_up (sy_up (sy_up (sy_up (sy_up (sy_up (sy_up (sy_up g (100 + k) 4 0) (100 + k) 5 0) (100 + k) 6 0) (100 + k) 7 (-1)) (100 + k) 8 (-1)) (100 + k) 9 0) (100 + k) 10 0) (100 + k) 0 x1) (100 + k) 1 x2) (100 + k) 2 x3) (100 + k) 3 x4) (sy_up q (100 + k) 11 none) (by rw [sy_up_s (sy_up (sy_up (sy_up (sy_up (sy_up (sy_up (sy_up (sy_up (sy_up (sy_up g (100 + k) 4 0) (100 + k) 5 0) (100 + k) 6 0) (100 + k) 7 (-1)) (100 + k) 8 (-1)) (100 + k) 9 0) (100 + k) 10 0) (100 + k) 0 x1) (100 + k) 1 x2) (100 + k) 2 x3) (100 + k) 3 x4]; exact se_RX3_3 _ _ _ _ _ _ _) (fun _ h9 => sy_up_o _ _ _ h9) (fun _ _ => rfl) dX3_init_62 (fun H locs hP hS => ?_)
  exact (sy_vret hx hb hr hlocks hE hP hS dX3_init_65 ⟨Nat.le_of_ble_eq_true rfl, Nat.le_of_ble_eq_true rfl⟩ (by unfold fX3_init; rfl))
def fX4_init (g : sG) (q : sQ) (k : Nat) (x1 : Int32) (x2 : Nat) (x3 x4 : Int32) (x5 : Nat) (x6 x7 : Int32) : sG × sQ := ((sy_up (sy_up (sy_up (sy_up (sy_up (sy_up (sy_up (sy_up (sy_up (sy_up (sy_up (sy_up (sy_up (sy_up g (200 + k) 7 0) (200 + k) 9 0) (200 + k) 10 0) (200 + k) 11 (-1)) (200 + k) 12 0) (200 + k) 13 0) (200 + k) 14 0) (200 + k) 15 0) (200 + k) 0 x1) (200 + k) 2 x3) (200 + k) 6 x3) (200 + k) 3 x4) (200 + k) 5 x6) (200 + k) 8 x7), (sy_up (sy_up q (200 + k) 1 (some (100 + x2))) (200 + k) 4 (some (80 + x5))))
set_option maxHeartbeats 4000000 in
set_option maxRecDepth 100000 in
theorem mX4_init (l : Launch) (hfl : l.stackTraces = false) (Z : sZ) (nT nK cT cK : Nat) (ad : Nat → Nat) (g : sG) (q : sQ) (k : Nat) (x1 : Int32) (x2 : Nat) (x3 x4 : Int32) (x5 : Nat) (x6 x7 : Int32) (hkd : sy_kd nT nK cT cK (200 + k) = 5) (hz4 : x4 = 0 ∨ x4 = 1) : sMv l Z yX4_init (uW (.code yX4_init cX4_init 8 none)) { frames := 1, cells := 0, slots := 0, locals := 30 } [.ref (ad (200 + k)), .int x1, .ref (ad (100 + x2)), .int x3, .int x4, .ref (ad (80 + x5)), .int x6, .int x7] nT nK cT cK ad g q (fun g1 q1 => (g1, q1) = fX4_init g q k x1 x2 x3 x4 x5 x6 x7) := by
  refine Met.ofW (cc := cX4_init) (maxL := 8) (ret := none) (by decide) rfl ?_
  intro p e s m args below meth c s₁ B hml hv
  obtain ⟨rfl, hE, hP⟩ := hv
  have hx := B.exec
  have hb := B.bytes
  have hr := B.returns
  have hts := atoms_spec (ws := uW (.code yX4_init cX4_init 8 none)) B.pre
  have hown : s.vm.findClass RX4 = some m.cls := findClass_of_methodNamed B.named
  have hlocks := B.notSynchronized
  have hin : meth.name = "<init>" := (name_of_methodNamed B.named B.method).1
  have hS : va_S (sy_A Z) s.heap s.heap [] := va_S.rf
  have hl := lv_entry ([.ref (ad (200 + k)), .int x1, .ref (ad (100 + x2)), .int x3, .int x4, .ref (ad (80 + x5)), .int x6, .int x7]) (n := 8) (Nat.le_of_ble_eq_true rfl)
  rw [lg_entry_eq]
  generalize (lg_sl ([.ref (ad (200 + k)), .int x1, .ref (ad (100 + x2)), .int x3, .int x4, .ref (ad (80 + x5)), .int x6, .int x7]) ++ List.replicate (8 - (lg_sl ([.ref (ad (200 + k)), .int x1, .ref (ad (100 + x2)), .int x3, .int x4, .ref (ad (80 + x5)), .int x6, .int x7])).length) Slot.unset).toArray = ls at hl ⊢
  have hl : lv_has ls 8 [(0, .ref (ad (200 + k))), (1, .int x1), (2, .ref (ad (100 + x2))), (3, .int x3), (4, .int x4), (5, .ref (ad (80 + x5))), (6, .int x6), (7, .int x7)] := hl
  refine lv_aload_n hx hb dX4_init_0 rfl (lv_at hl 0 rfl) ?_
  refine W.objInit hx hb hown (hts _ (u_in uk_3_66)) (hts _ (u_in uk_1_29)) (hts _ (u_in uk_1_30)) rfl (by rw [hml]; exact hl.1) rfl dX4_init_1 (Nat.le_of_ble_eq_true rfl) (Nat.le_of_ble_eq_true rfl) ?_
  refine lv_aload_n hx hb dX4_init_4 rfl (lv_at hl 0 rfl) ?_
  refine lv_iconst (v := 0) hx hb dX4_init_5 (by decide) ?_
  refine sy_putRX4 hx hb hts hown hE hP hS (200 + k) hkd 7 (by decide) (hts _ (u_in uk_3_82)) rfl (ty := .int) (by decide +kernel) rfl rfl (sy_up g (200 + k) 7 0) q (by rw [sy_up_s g (200 + k) 7 0]; exact se_RX4_7 _ _ _ _ _ _ _) (fun _ h9 => sy_up_o _ _ _ h9) (fun _ _ => rfl) dX4_init_6 (fun H locs hP hS => ?_)
  refine lv_aload_n hx hb dX4_init_9 rfl (lv_at hl 0 rfl) ?_
  refine lv_iconst (v := 0) hx hb dX4_init_10 (by decide) ?_
  refine sy_putRX4 hx hb hts hown hE hP hS (200 + k) hkd 9 (by decide) (hts _ (u_in uk_3_86)) rfl (ty := .int) (by decide +kernel) rfl rfl (sy_up (sy_up g (200 + k) 7 0) (200 + k) 9 0) q (by rw [sy_up_s (sy_up g (200 + k) 7 0) (200 + k) 9 0]; exact se_RX4_9 _ _ _ _ _ _ _) (fun _ h9 => sy_up_o _ _ _ h9) (fun _ _ => rfl) dX4_init_11 (fun H locs hP hS => ?_)
  refine lv_aload_n hx hb dX4_init_14 rfl (lv_at hl 0 rfl) ?_
  refine lv_iconst (v := 0) hx hb dX4_init_15 (by decide) ?_
  refine sy_putRX4 hx hb hts hown hE hP hS (200 + k) hkd 10 (by decide) (hts _ (u_in uk_3_88)) rfl (ty := .int) (by decide +kernel) rfl rfl (sy_up (sy_up (sy_up g (200 + k) 7 0) (200 + k) 9 0) (200 + k) 10 0) q (by rw [sy_up_s (sy_up (sy_up g (200 + k) 7 0) (200 + k) 9 0) (200 + k) 10 0]; exact se_RX4_10 _ _ _ _ _ _ _) (fun _ h9 => sy_up_o _ _ _ h9) (fun _ _ => rfl) dX4_init_16 (fun H locs hP hS => ?_)
  refine lv_aload_n hx hb dX4_init_19 rfl (lv_at hl 0 rfl) ?_
  refine lv_iconst (v := (-1)) hx hb dX4_init_20 (by decide) ?_
  refine sy_putRX4 hx hb hts hown hE hP hS (200 + k) hkd 11 (by decide) (hts _ (u_in uk_3_89)) rfl (ty := .int) (by decide +kernel) rfl rfl (sy_up (sy_up (sy_up (sy_up g (200 + k) 7 0) (200 + k) 9 0) (200 + k) 10 0) (200 + k) 11 (-1)) q (by rw [sy_up_s (sy_up (sy_up (sy_up g (200 + k) 7 0) (200 + k) 9 0) (200 + k) 10 0) (200 + k) 11 (-1)]; exact se_RX4_11 _ _ _ _ _ _ _) (fun _ h9 => sy_up_o _ _ _ h9) (fun _ _ => rfl) dX4_init_21 (fun H locs hP hS => ?_)
  refine lv_aload_n hx hb dX4_init_24 rfl (lv_at hl 0 rfl) ?_
  refine lv_iconst (v := 0) hx hb dX4_init_25 (by decide) ?_
  refine sy_putRX4 hx hb hts hown hE hP hS (200 + k) hkd 12 (by decide) (hts _ (u_in uk_3_91)) rfl (ty := .int) (by decide +kernel) rfl rfl (sy_up (sy_up (sy_up (sy_up (sy_up g (200 + k) 7 0) (200 + k) 9 0) (200 + k) 10 0) (200 + k) 11 (-1)) (200 + k) 12 0) q (by rw [sy_up_s (sy_up (sy_up (sy_up (sy_up g (200 + k) 7 0) (200 + k) 9 0) (200 + k) 10 0) (200 + k) 11 (-1)) (200 + k) 12 0]; exact se_RX4_12 _ _ _ _ _ _ _) (fun _ h9 => sy_up_o _ _ _ h9) (fun _ _ => rfl) dX4_init_26 (fun H locs hP hS => ?_)
  refine lv_aload_n hx hb dX4_init_29 rfl (lv_at hl 0 rfl) ?_
  refine lv_iconst (v := 0) hx hb dX4_init_30 (by decide) ?_
  refine sy_putRX4 hx hb hts hown hE hP hS (200 + k) hkd 13 (by decide) (hts _ (u_in uk_3_93)) rfl (ty := .int) (by decide +kernel) rfl rfl (sy_up (sy_up (sy_up (sy_up (sy_up (sy_up g (200 + k) 7 0) (200 + k) 9 0) (200 + k) 10 0) (200 + k) 11 (-1)) (200 + k) 12 0) (200 + k) 13 0) q (by rw [sy_up_s (sy_up (sy_up (sy_up (sy_up (sy_up g (200 + k) 7 0) (200 + k) 9 0) (200 + k) 10 0) (200 + k) 11 (-1)) (200 + k) 12 0) (200 + k) 13 0]; exact se_RX4_13 _ _ _ _ _ _ _) (fun _ h9 => sy_up_o _ _ _ h9) (fun _ _ => rfl) dX4_init_31 (fun H locs hP hS => ?_)
  refine lv_aload_n hx hb dX4_init_34 rfl (lv_at hl 0 rfl) ?_
  refine lv_iconst (v := 0) hx hb dX4_init_35 (by decide) ?_
  refine sy_putRX4 hx hb hts hown hE hP hS (200 + k) hkd 14 (by decide) (hts _ (u_in uk_3_95)) rfl (ty := .int) (by decide +kernel) rfl rfl (sy_up (sy_up (sy_up (sy_up (sy_up (sy_up (sy_up g (200 + k) 7 0) (200 + k) 9 0) (200 + k) 10 0) (200 + k) 11 (-1)) (200 + k) 12 0) (200 + k) 13 0) (200 + k) 14 0) q (by rw [sy_up_s (sy_up (sy_up (sy_up (sy_up (sy_up (sy_up g (200 + k) 7 0) (200 + k) 9 0) (200 + k) 10 0) (200 + k) 11 (-1)) (200 + k) 12 0) (200 + k) 13 0) (200 + k) 14 0]; exact se_RX4_14 _ _ _ _ _ _ _) (fun _ h9 => sy_up_o _ _ _ h9) (fun _ _ => rfl) dX4_init_36 (fun H locs hP hS => ?_)
  refine lv_aload_n hx hb dX4_init_39 rfl (lv_at hl 0 rfl) ?_
  refine lv_iconst (v := 0) hx hb dX4_init_40 (by decide) ?_
  refine sy_putRX4 hx hb hts hown hE hP hS (200 + k) hkd 15 (by decide) (hts _ (u_in uk_3_97)) rfl (ty := .int) (by decide +kernel) rfl rfl (sy_up (sy_up (sy_up (sy_up (sy_up (sy_up (sy_up (sy_up g (200 + k) 7 0) (200 + k) 9 0) (200 + k) 10 0) (200 + k) 11 (-1)) (200 + k) 12 0) (200 + k) 13 0) (200 + k) 14 0) (200 + k) 15 0) q (by rw [sy_up_s (sy_up (sy_up (sy_up (sy_up (sy_up (sy_up (sy_up g (200 + k) 7 0) (200 + k) 9 0) (200 + k) 10 0) (200 + k) 11 (-1)) (200 + k) 12 0) (200 + k) 13 0) (200 + k) 14 0) (200 + k) 15 0]; exact se_RX4_15 _ _ _ _ _ _ _) (fun _ h9 => sy_up_o _ _ _ h9) (fun _ _ => rfl) dX4_init_41 (fun H locs hP hS => ?_)
  refine lv_aload_n hx hb dX4_init_44 rfl (lv_at hl 0 rfl) ?_
  refine lv_iload_n hx hb dX4_init_45 rfl (lv_at hl 1 rfl) ?_
  refine sy_putFRX4 hx hb hts hown hE hP hS (200 + k) hkd 0 (by decide) (hts _ (u_in uk_3_67)) rfl hin rfl (ty := .int) (by decide +kernel) rfl rfl (sy_up (sy_up (sy_up (sy_up (sy_up (sy_up (sy_up (sy_up (sy_up g (200 + k) 7 0) (200 + k) 9 0) (200 + k) 10 0) (200 + k) 11 (-1)) (200 + k) 12 0) (200 + k) 13 0) (200 + k) 14 0) (200 + k) 15 0) (200 + k) 0 x1) q (by rw [sy_up_s (sy_up (sy_up (sy_up (sy_up (sy_up (sy_up (sy_up (sy_up g (200 + k) 7 0) (200 + k) 9 0) (200 + k) 10 0) (200 + k) 11 (-1)) (200 + k) 12 0) (200 + k) 13 0) (200 + k) 14 0) (200 + k) 15 0) (200 + k) 0 x1]; exact se_RX4_0 _ _ _ _ _ _ _) (fun _ h9 => sy_up_o _ _ _ h9) (fun _ _ => rfl) dX4_init_46 (fun H locs hP hS => ?_)
  refine lv_aload_n hx hb dX4_init_49 rfl (lv_at hl 0 rfl) ?_
  refine lv_aload_n hx hb dX4_init_50 rfl (lv_at hl 2 rfl) ?_
  refine sy_putFRX4 hx hb hts hown hE hP hS (200 + k) hkd 1 (by decide) (hts _ (u_in uk_3_70)) rfl hin rfl (ty := .object "Pledgehouse$Thing") (by decide +kernel) rfl rfl (sy_up (sy_up (sy_up (sy_up (sy_up (sy_up (sy_up (sy_up (sy_up g (200 + k) 7 0) (200 + k) 9 0) (200 + k) 10 0) (200 + k) 11 (-1)) (200 + k) 12 0) (200 + k) 13 0) (200 + k) 14 0) (200 + k) 15 0) (200 + k) 0 x1) (sy_up q (200 + k) 1 (some (100 + x2))) (by rw [sy_up_s q (200 + k) 1 (some (100 + x2))]; exact se_RX4_1 _ _ _ _ _ _ _) (fun _ _ => rfl) (fun _ h9 => sy_up_o _ _ _ h9) dX4_init_51 (fun H locs hP hS => ?_)
  refine lv_aload_n hx hb dX4_init_54 rfl (lv_at hl 0 rfl) ?_
  refine lv_iload_n hx hb dX4_init_55 rfl (lv_at hl 3 rfl) ?_
  refine sy_putFRX4 hx hb hts hown hE hP hS (200 + k) hkd 2 (by decide) (hts _ (u_in uk_3_72)) rfl hin rfl (ty := .int) (by decide +kernel) rfl rfl (sy_up (sy_up (sy_up (sy_up (sy_up (sy_up (sy_up (sy_up (sy_up (sy_up g (200 + k) 7 0) (200 + k) 9 0) (200 + k) 10 0) (200 + k) 11 (-1)) (200 + k) 12 0) (200 + k) 13 0) (200 + k) 14 0) (200 + k) 15 0) (200 + k) 0 x1) (200 + k) 2 x3) (sy_up q (200 + k) 1 (some (100 + x2))) (by rw [sy_up_s (sy_up (sy_up (sy_up (sy_up (sy_up (sy_up (sy_up (sy_up (sy_up g (200 + k) 7 0) (200 + k) 9 0) (200 + k) 10 0) (200 + k) 11 (-1)) (200 + k) 12 0) (200 + k) 13 0) (200 + k) 14 0) (200 + k) 15 0) (200 + k) 0 x1) (200 + k) 2 x3]; exact se_RX4_2 _ _ _ _ _ _ _) (fun _ h9 => sy_up_o _ _ _ h9) (fun _ _ => rfl) dX4_init_56 (fun H locs hP hS => ?_)
  refine lv_aload_n hx hb dX4_init_59 rfl (lv_at hl 0 rfl) ?_
  refine lv_iload_n hx hb dX4_init_60 rfl (lv_at hl 3 rfl) ?_
  refine sy_putRX4 hx hb hts hown hE hP hS (200 + k) hkd 6 (by decide) (hts _ (u_in uk_3_80)) rfl (ty := .int) (by decide +kernel) rfl rfl (sy_up (sy_up (sy_up (sy_up (sy_up (sy_up (sy_up (sy_up (sy_up (sy_up (sy_up g (200 + k) 7 0) (200 + k) 9 0) (200 + k) 10 0) (200 + k) 11 (-1)) (200 + k) 12 0) (200 + k) 13 0) (200 + k) 14 0) (200 + k) 15 0) (200 + k) 0 x1) (200 + k) 2 x3) (200 + k) 6 x3) (sy_up q (200 + k) 1 (some (100 + x2))) (by rw [sy_up_s (sy_up (sy_up (sy_up (sy_up (sy_up (sy_up (sy_up (sy_up (sy_up (sy_up g (200 + k) 7 0) (200 + k) 9 0) (200 + k) 10 0) (200 + k) 11 (-1)) (200 + k) 12 0) (200 + k) 13 0) (200 + k) 14 0) (200 + k) 15 0) (200 + k) 0 x1) (200 + k) 2 x3) (200 + k) 6 x3]; exact se_RX4_6 _ _ _ _ _ _ _) (fun _ h9 => sy_up_o _ _ _ h9) (fun _ _ => rfl) dX4_init_61 (fun H locs hP hS => ?_)
  refine lv_aload_n hx hb dX4_init_64 rfl (lv_at hl 0 rfl) ?_
  refine lv_iload hx hb dX4_init_65 (lv_at hl 4 rfl) ?_
  refine sy_putFRX4 hx hb hts hown hE hP hS (200 + k) hkd 3 (by decide) (hts _ (u_in uk_3_74)) rfl hin rfl (ty := .boolean) (by decide +kernel) (by show Value.int (x4 &&& 1) = .int x4; exact congrArg Value.int (b01 hz4)) (b01f hz4) (sy_up (sy_up (sy_up (sy_up (sy_up (sy_up (sy_up (sy_up (sy_up (sy_up (sy_up (sy_up g (200 + k) 7 0) (200 + k) 9 0) (200 + k) 10 0) (200 + k) 11 (-1)) (200 + k) 12 0) (200 + k) 13 0) (200 + k) 14 0) (200 + k) 15 0) (200 + k) 0 x1) (200 + k) 2 x3) (200 + k) 6 x3) (200 + k) 3 x4) (sy_up q (200 + k) 1 (some (100 + x2))) (by rw [sy_up_s (sy_up (sy_up (sy_up (sy_up (sy_up (sy_up (sy_up (sy_up (sy_up (sy_up (sy_up g (200 + k) 7 0) (200 + k) 9 0) (200 + k) 10 0) (200 + k) 11 (-1)) (200 + k) 12 0) (200 + k) 13 0) (200 + k) 14 0) (200 + k) 15 0) (200 + k) 0 x1) (200 + k) 2 x3) (200 + k) 6 x3) (200 + k) 3 x4]; exact se_RX4_3 _ _ _ _ _ _ _) (fun _ h9 => sy_up_o _ _ _ h9) (fun _ _ => rfl) dX4_init_67 (fun H locs hP hS => ?_)
  refine lv_aload_n hx hb dX4_init_70 rfl (lv_at hl 0 rfl) ?_
  refine lv_aload hx hb dX4_init_71 (lv_at hl 5 rfl) ?_
  refine sy_putFRX4 hx hb hts hown hE hP hS (200 + k) hkd 4 (by decide) (hts _ (u_in uk_3_76)) rfl hin rfl (ty := .object "Pledgehouse$Expert") (by decide +kernel) rfl rfl (sy_up (sy_up (sy_up (sy_up (sy_up (sy_up (sy_up (sy_up (sy_up (sy_up (sy_up (sy_up g (200 + k) 7 0) (200 + k) 9 0) (200 + k) 10 0) (200 + k) 11 (-1)) (200 + k) 12 0) (200 + k) 13 0) (200 + k) 14 0) (200 + k) 15 0) (200 + k) 0 x1) (200 + k) 2 x3) (200 + k) 6 x3) (200 + k) 3 x4) (sy_up (sy_up q (200 + k) 1 (some (100 + x2))) (200 + k) 4 (some (80 + x5))) (by rw [sy_up_s (sy_up q (200 + k) 1 (some (100 + x2))) (200 + k) 4 (some (80 + x5))]; exact se_RX4_4 _ _ _ _ _ _ _) (fun _ _ => rfl) (fun _ h9 => sy_up_o _ _ _ h9) dX4_init_73 (fun H locs hP hS => ?_)
  refine lv_aload_n hx hb dX4_init_76 rfl (lv_at hl 0 rfl) ?_
  refine lv_iload hx hb dX4_init_77 (lv_at hl 6 rfl) ?_
  refine sy_putFRX4 hx hb hts hown hE hP hS (200 + k) hkd 5 (by decide) (hts _ (u_in uk_3_78)) rfl hin rfl (ty := .int) (by decide +kernel) rfl rfl (sy_up (sy_up (sy_up (sy_up (sy_up (sy_up (sy_up (sy_up (sy_up (sy_up (sy_up (sy_up (sy_up g (200 + k) 7 0) (200 + k) 9 0) (200 + k) 10 0) (200 + k) 11 (-1)) (200 + k) 12 0) (200 + k) 13 0) (200 + k) 14 0) (200 + k) 15 0) (200 + k) 0 x1) (200 + k) 2 x3) (200 + k) 6 x3) (200 + k) 3 x4) (200 + k) 5 x6) (sy_up (sy_up q (200 + k) 1 (some (100 + x2))) (200 + k) 4 (some (80 + x5))) (by rw [sy_up_s (sy_up (sy_up (sy_up (sy_up (sy_up (sy_up (sy_up (sy_up (sy_up (sy_up (sy_up (sy_up g (200 + k) 7 0) (200 + k) 9 0) (200 + k) 10 0) (200 + k) 11 (-1)) (200 + k) 12 0) (200 + k) 13 0) (200 + k) 14 0) (200 + k) 15 0) (200 + k) 0 x1) (200 + k) 2 x3) (200 + k) 6 x3) (200 + k) 3 x4) (200 + k) 5 x6]; exact se_RX4_5 _ _ _ _ _ _ _) (fun _ h9 => sy_up_o _ _ _ h9) (fun _ _ => rfl) dX4_init_79 (fun H locs hP hS => ?_)
  refine lv_aload_n hx hb dX4_init_82 rfl (lv_at hl 0 rfl) ?_
  refine lv_iload hx hb dX4_init_83 (lv_at hl 7 rfl) ?_
  refine sy_putRX4 hx hb hts hown hE hP hS (200 + k) hkd 8 (by decide) (hts _ (u_in uk_3_84)) rfl (ty := .int) (by decide +kernel) rfl rfl (sy_up (sy_up (sy_up (sy_up (sy_up (sy_up (sy_up (sy_up (sy_up (sy_up (sy_up (sy_up (sy_up (sy_up g (200 + k) 7 0) (200 + k) 9 0) (200 + k) 10 0) (200 + k) 11 (-1)) (200 + k) 12 0) (200 + k) 13 0) (200 + k) 14 0) (200 + k) 15 0) (200 + k) 0 x1) (200 + k) 2 x3) (200 + k) 6 x3) (200 + k) 3 x4) (200 + k) 5 x6) (200 + k) 8 x7) (sy_up (sy_up q (200 + k) 1 (some (100 + x2))) (200 + k) 4 (some (80 + x5))) (by rw [sy_up_s (sy_up (sy_up (sy_up (sy_up (sy_up (sy_up (sy_up (sy_up (sy_up (sy_up (sy_up (sy_up (sy_up g (200 + k) 7 0) (200 + k) 9 0) (200 + k) 10 0) (200 + k) 11 (-1)) (200 + k) 12 0) (200 + k) 13 0) (200 + k) 14 0) (200 + k) 15 0) (200 + k) 0 x1) (200 + k) 2 x3) (200 + k) 6 x3) (200 + k) 3 x4) (200 + k) 5 x6) (200 + k) 8 x7]; exact se_RX4_8 _ _ _ _ _ _ _) (fun _ h9 => sy_up_o _ _ _ h9) (fun _ _ => rfl) dX4_init_85 (fun H locs hP hS => ?_)
  exact (sy_vret hx hb hr hlocks hE hP hS dX4_init_88 ⟨Nat.le_of_ble_eq_true rfl, Nat.le_of_ble_eq_true rfl⟩ (by unfold fX4_init; rfl))
