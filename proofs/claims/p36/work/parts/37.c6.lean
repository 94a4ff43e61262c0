section SAA
variable {p : Program} {l : Launch} {e : Env} {R : Room} {s : State} {m : MethodId} {args : Array Value} {below : List Frame} {meth : Method} {c : Code} {H : Heap} {locs : List Loc} {cells slots : Nat} {Q : State → Prop}
variable {cc : ByteArray} {pc : Nat} {ls : Array Slot} {rest : List Value} {Z : sZ} {nT nK cT cK : Nat} {ad : Nat → Nat} {g : sG} {q : sQ}
theorem sy_aast (hexec : p.tables.exec = Jvm.exec) (hb : c.code = cc) (hE : sEnv Z s) (hP : Sy Z nT nK cT cK ad g q H) (hS : va_S (sy_A Z) s.heap H locs) (o kc t0 : Nat) (hkd : sy_kd nT nK cT cK o = kc) (h5 : kc < 50) {cA : ClassId} {n : Nat} (he : sy_ent Z.2.1 ad o (sy_ln cT cK o) kc (g o) (q o) = .inl (cA, n, .inr (.inr (.inr (.inr (fun j => (q o j).map ad)))))) {r : vw_C} (ht : (sy_tys Z.2.1)[t0]? = some (cA, .object r.1)) {o1 kc1 ci : Nat} {vs : List Value} (hkd1 : sy_kd nT nK cT cK o1 = kc1) (h51 : kc1 < 99) (he1 : sy_ent Z.2.1 ad o1 (sy_ln cT cK o1) kc1 (g o1) (q o1) = .inr (ci, vs)) (hc : vwCl[ci]? = some r) (hn : n = sy_ln cT cK o) {i : Int32} (hin : vp_in i (sy_ln cT cK o)) (kx : Nat) (hkx : i.toNatClampNeg = kx) (heq : sy_ent Z.2.1 ad o (sy_ln cT cK o) kc (g o) ((sy_up q o kx (some o1)) o) = .inl (cA, n, .inr (.inr (.inr (.inr (fun j => (va_up (q o) kx (some o1) j).map ad)))))) (hdg : decode cc pc = .ok (.aastore, 1))
    (kk : ∀ (H1 : Heap) (locs1 : List Loc), Sy Z nT nK cT cK ad g (sy_up q o kx (some o1)) H1 → va_S (sy_A Z) s.heap H1 locs1 → W p l e R s m args below meth c H1 locs1 cells slots Q (F0 m (pc + 1) ls rest)) : W p l e R s m args below meth c H locs cells slots Q (F0 m pc ls (.ref (ad o1) :: .int i :: .ref (ad o) :: rest)) := by
  subst hkx
  subst hn
  have hA : sy_A Z (ad o) := hP.2.1 o (by rw [hkd]; exact h5)
  have h1 := sy_one hP hkd (by omega) he
  have h2 := sy_one hP hkd1 h51 he1
  have hlt : i.toNatClampNeg < sy_ln cT cK o := Nat.not_le.mp fun q => hin (Or.inr q)
  have h0 : ¬ i < 0 := fun q => hin (Or.inl q)
  obtain ⟨r', hr', cellV, g1, g2, g3, -⟩ := h2 0 _ rfl
  have hcls := (hE.1.1 ci r hc).2
  obtain ⟨kA, comp, k1, k2, k3, -⟩ := (hE.1.2 t0 _ ht).2
  have hcomp : comp = Z.1.1 ci := Option.some.inj (k3.symm.trans hcls.1)
  subst hcomp
  obtain ⟨kC, hkC, -⟩ := hcls.2
  refine W.aast hexec hb (h1 0 _ rfl) (fun q h => by cases h) (fun h => by cases h) k1 k2 rfl hkC ⟨h0, by show _ < (arrV _ _ _).slots.size; rw [arrV_size]; exact hlt⟩ g1 (fun q h => by rw [g3] at h; cases h) (by rw [g2]; exact hkC) (by rw [g2]; exact va_assign hcls) rfl rfl hdg fun H1 e2 z oq => ?_
  refine kk H1 _ (sy_set hP hkd h5 (e1 := .inl (cA, sy_ln cT cK o, .inr (.inr (.inr (.inr (fun j => (va_up (q o) i.toNatClampNeg (some o1) j).map ad)))))) ?_ oq heq (fun _ _ => rfl) (fun o' h => sy_up_o q _ _ h)) (hS.put z oq hA)
  show H1[ad o]? = some (vp_cell _ _)
  rw [e2, vp_cell_q, vp_cell_q, arrV_store]
  congr 2
  funext j
  by_cases hj : j = i.toNatClampNeg <;> simp [updV, va_up, va_rf, hj]
end SAA
theorem close_q {nT nK : Nat} {g : sG} {q : sQ} {j j' k : Nat} {x : Int32} (hT : nT ≤ 100) (hQ : IQ nT nK q) (hj : j < nK) : (fX4_close g q j x).2 (200 + j') k = q (200 + j') k := by
  have := (iq_tg hQ hj).2
  unfold fX4_close fX3_leave
  show (sy_up q (100 + tg q j) 11 none) (200 + j') k = _
  rw [sy_up_o _ _ _ (by omega)]
theorem mv_close {g : sG} {q : sQ} {j : Nat} {x : Int32} (h : ∃ m, m ≤ 600 ∧ g 68 4 = nI m) : ∃ m, m ≤ 600 ∧ (fX4_close g q j x).1 68 4 = nI m := by
  unfold fX4_close fX3_leave
  simp only [sy_up_a]
  rw [if_neg (by omega), if_neg (by omega), if_neg (by omega), if_neg (by omega)]
  exact h
theorem mv_begin {g : sG} {q : sQ} {j : Nat} {x y : Int32} (h : ∃ m, m ≤ 600 ∧ g 68 4 = nI m) : ∃ m, m ≤ 600 ∧ (fX4_begin g q j x y) 68 4 = nI m := by
  unfold fX4_begin
  simp only [sy_up_a]
  rw [if_neg (by omega), if_neg (by omega)]
  exact h
def fX6_day (g : sG) (q : sQ)  : Int32 := (g 60 9)
set_option maxHeartbeats 4000000 in
set_option maxRecDepth 100000 in
theorem mX6_day (l : Launch) (hfl : l.stackTraces = false) (Z : sZ) (nT nK cT cK : Nat) (ad : Nat → Nat) (g : sG) (q : sQ)  (hT : nT ≤ 100) (hG : IG nT nK cT cK g) (hQ : IQ nT nK q) : sMi l Z yX6_day (uW (.code yX6_day cX6_day 1 (some .int))) { frames := 0, cells := 0, slots := 0, locals := 0 } [.ref (ad 60)] nT nK cT cK ad g q (fun r g1 q1 => (r, g1, q1) = (fX6_day g q, g, q)) := by
  refine Met.ofW (cc := cX6_day) (maxL := 1) (ret := (some .int)) (by decide) rfl ?_
  intro p e s m args below meth c s₁ B hml hv
  obtain ⟨rfl, hE, hP⟩ := hv
  have hx := B.exec
  have hb := B.bytes
  have hr := B.returns
  have hts := atoms_spec (ws := uW (.code yX6_day cX6_day 1 (some .int))) B.pre
  have hown : s.vm.findClass RX6 = some m.cls := findClass_of_methodNamed B.named
  have hlocks := B.notSynchronized
  have hS : va_S (sy_A Z) s.heap s.heap [] := va_S.rf
  have hl := lv_entry ([.ref (ad 60)]) (n := 1) (Nat.le_of_ble_eq_true rfl)
  rw [lg_entry_eq]
  generalize (lg_sl ([.ref (ad 60)]) ++ List.replicate (1 - (lg_sl ([.ref (ad 60)])).length) Slot.unset).toArray = ls at hl ⊢
  have hl : lv_has ls 1 [(0, .ref (ad 60))] := hl
  refine lv_aload_n hx hb dX6_day_0 rfl (lv_at hl 0 rfl) ?_
  refine sy_getRX6 hx hb hts hown hE hP 60 rfl 9 (by decide) (hts _ (u_in uk_1_161)) (v := .int (g 60 9)) rfl dX6_day_1 ?_
  exact (sy_ireti hx hb hr hlocks hE hP hS dX6_day_4 ⟨Nat.le_of_ble_eq_true rfl, Nat.le_of_ble_eq_true rfl⟩ (by unfold fX6_day; rfl))
def fX6_moneyAnew (g : sG) (q : sQ)  : Int32 := (fX5_sumOfMoves g q)
set_option maxHeartbeats 4000000 in
set_option maxRecDepth 100000 in
theorem mX6_moneyAnew (l : Launch) (hfl : l.stackTraces = false) (Z : sZ) (nT nK cT cK : Nat) (ad : Nat → Nat) (g : sG) (q : sQ)  (hT : nT ≤ 100) (hG : IG nT nK cT cK g) (hQ : IQ nT nK q) : sMi l Z yX6_moneyAnew (uW (.code yX6_moneyAnew cX6_moneyAnew 1 (some .int))) { frames := 1, cells := 0, slots := 0, locals := 22 } [.ref (ad 60)] nT nK cT cK ad g q (fun r g1 q1 => (r, g1, q1) = (fX6_moneyAnew g q, g, q)) := by
  refine Met.ofW (cc := cX6_moneyAnew) (maxL := 1) (ret := (some .int)) (by decide) rfl ?_
  intro p e s m args below meth c s₁ B hml hv
  obtain ⟨rfl, hE, hP⟩ := hv
  have hx := B.exec
  have hb := B.bytes
  have hr := B.returns
  have hts := atoms_spec (ws := uW (.code yX6_moneyAnew cX6_moneyAnew 1 (some .int))) B.pre
  have hown : s.vm.findClass RX6 = some m.cls := findClass_of_methodNamed B.named
  have hlocks := B.notSynchronized
  have hS : va_S (sy_A Z) s.heap s.heap [] := va_S.rf
  have hl := lv_entry ([.ref (ad 60)]) (n := 1) (Nat.le_of_ble_eq_true rfl)
  rw [lg_entry_eq]
  generalize (lg_sl ([.ref (ad 60)]) ++ List.replicate (1 - (lg_sl ([.ref (ad 60)])).length) Slot.unset).toArray = ls at hl ⊢
  have hl : lv_has ls 1 [(0, .ref (ad 60))] := hl
  refine lv_aload_n hx hb dX6_moneyAnew_0 rfl (lv_at hl 0 rfl) ?_
  refine sy_getRX6 hx hb hts hown hE hP 60 rfl 7 (by decide) (hts _ (u_in uk_1_159)) (v := .ref (ad 68)) rfl dX6_moneyAnew_1 ?_
  refine sy_ki (sy_rV (o := 68) (As := []) (rest := []) ⟨hx, hb, hml, hown, hts⟩ hE hP hS (mX5_sumOfMoves l hfl Z nT nK cT cK ad g q hT hG) (cwV 0 hts (gu_V uk_4_127 uk_4_128 uk_4_129 uk_1_8 uk_4_130) rfl rfl rfl (by decide +kernel) ⟨Nat.le_of_ble_eq_true rfl, Nat.le_of_ble_eq_true rfl⟩) (sy_recv (kc := 6) hE hP rfl (by decide) rfl rfl rfl) rfl hl.1 rfl (Nat.le_of_ble_eq_true rfl) dX6_moneyAnew_4 ⟨Nat.le_of_ble_eq_true rfl, Nat.le_of_ble_eq_true rfl⟩) hS (fun r_e_1 g_e_1 q_e_1 H locs e_1 hP hS => ?_)
  cases e_1
  exact (sy_ireti hx hb hr hlocks hE hP hS dX6_moneyAnew_7 ⟨Nat.le_of_ble_eq_true rfl, Nat.le_of_ble_eq_true rfl⟩ (by unfold fX6_moneyAnew; rfl))
def fX6_fashion (g : sG) (q : sQ) (x0 : Int32) (x1 : Int32) : Int32 × Int32 × sG × sQ := (if 0 ≤ x0 ∧ x0 < 4 then (if 0 ≤ x1 ∧ x1 ≤ 200 then (0, (g 63 x0.toNatClampNeg), (sy_up g 63 x0.toNatClampNeg x1), q) else (2, 0, g, q)) else (1, 0, g, q))
set_option maxHeartbeats 4000000 in
set_option maxRecDepth 100000 in
theorem mX6_fashion (l : Launch) (hfl : l.stackTraces = false) (Z : sZ) (nT nK cT cK : Nat) (ad : Nat → Nat) (g : sG) (q : sQ) (x0 : Int32) (x1 : Int32) (hT : nT ≤ 100) (hG : IG nT nK cT cK g) (hQ : IQ nT nK q) : sXi l Z yX6_fashion (uW (.code yX6_fashion cX6_fashion 4 (some .int))) { frames := 7, cells := 2, slots := 12, locals := 103 } [.ref (ad 60), .int x0, .int x1] nT nK cT cK ad g q (fun r g1 q1 => (0, r, g1, q1) = fX6_fashion g q x0 x1) (fun E => exc E = (fX6_fashion g q x0 x1).1) := by
  refine vx_ofW (cc := cX6_fashion) (maxL := 4) (ret := (some .int)) (by decide) rfl ?_
  intro p e s m args below meth c s₁ B hml hno hv
  obtain ⟨rfl, hE, hP⟩ := hv
  have hx := B.exec
  have hb := B.bytes
  have hr := B.returns
  have hts := atoms_spec (ws := uW (.code yX6_fashion cX6_fashion 4 (some .int))) B.pre
  have hown : s.vm.findClass RX6 = some m.cls := findClass_of_methodNamed B.named
  have hlocks := B.notSynchronized
  have hS : va_S (sy_A Z) s.heap s.heap [] := va_S.rf
  have hl := lv_entry ([.ref (ad 60), .int x0, .int x1]) (n := 4) (Nat.le_of_ble_eq_true rfl)
  rw [lg_entry_eq]
  generalize (lg_sl ([.ref (ad 60), .int x0, .int x1]) ++ List.replicate (4 - (lg_sl ([.ref (ad 60), .int x0, .int x1])).length) Slot.unset).toArray = ls at hl ⊢
  have hl : lv_has ls 4 [(0, .ref (ad 60)), (1, .int x0), (2, .int x1)] := hl
  refine lv_iload_n hx hb dX6_fashion_0 rfl (lv_at hl 1 rfl) ?_
  refine lv_aload_n hx hb dX6_fashion_1 rfl (lv_at hl 0 rfl) ?_
  refine sy_getRX6 hx hb hts hown hE hP 60 rfl 2 (by decide) (hts _ (u_in uk_1_154)) (v := .ref (ad 63)) rfl dX6_fashion_2 ?_
  refine sy_alen (kc := 10) (t0 := 0) hx hb hE hP 63 rfl (by decide) rfl rfl (v := 4) rfl dX6_fashion_5 ?_
  refine sy_xkv (sy_xS (As := [.int x0, .int 4]) (rest := []) ⟨hx, hb, hml, hown, hts⟩ hE hP hS (mX6_needIndex l hfl Z nT nK cT cK ad g q x0 4) (va_cwS 2 hts (gu_S uk_1_202 uk_1_203 uk_1_1 uk_1_204) rfl rfl rfl (by decide +kernel) ⟨Nat.le_of_ble_eq_true rfl, Nat.le_of_ble_eq_true rfl⟩) rfl hl.1 rfl (Nat.le_of_ble_eq_true rfl) dX6_fashion_6 ⟨Nat.le_of_ble_eq_true rfl, Nat.le_of_ble_eq_true rfl⟩) hno hlocks hE hS ⟨Nat.le_of_ble_eq_true rfl, Nat.le_of_ble_eq_true rfl⟩ (fun E9 h9 => (by rw [h9.1, exc_IO]; unfold fX6_fashion; rw [if_neg h9.2] <;> rfl)) (fun g_e_1 q_e_1 H locs e_1 hP hS => ?_)
  have c_3 := e_1.1
  obtain ⟨-, h7, h8⟩ := e_1; rw [h7, h8] at hP
  refine lv_iload_n hx hb dX6_fashion_9 rfl (lv_at hl 2 rfl) ?_
  refine lv_iconst (v := 0) hx hb dX6_fashion_10 (by decide) ?_
  refine lv_sipush (v := 200) hx hb dX6_fashion_11 (by decide) ?_
  refine sy_xkv (sy_xS (As := [.int x1, .int 0, .int 200]) (rest := []) ⟨hx, hb, hml, hown, hts⟩ hE hP hS (mX6_needRange l hfl Z nT nK cT cK ad g q x1 0 200) (va_cwS 3 hts (gu_S uk_2_28 uk_2_29 uk_1_1 uk_2_30) rfl rfl rfl (by decide +kernel) ⟨Nat.le_of_ble_eq_true rfl, Nat.le_of_ble_eq_true rfl⟩) rfl hl.1 rfl (Nat.le_of_ble_eq_true rfl) dX6_fashion_14 ⟨Nat.le_of_ble_eq_true rfl, Nat.le_of_ble_eq_true rfl⟩) hno hlocks hE hS ⟨Nat.le_of_ble_eq_true rfl, Nat.le_of_ble_eq_true rfl⟩ (fun E9 h9 => (by rw [h9.1, exc_IA]; unfold fX6_fashion; rw [if_pos c_3, if_neg h9.2] <;> rfl)) (fun g_e_4 q_e_4 H locs e_4 hP hS => ?_)
  have c_6 := e_4.1
  obtain ⟨-, h7, h8⟩ := e_4; rw [h7, h8] at hP
  refine lv_aload_n hx hb dX6_fashion_17 rfl (lv_at hl 0 rfl) ?_
  refine sy_getRX6 hx hb hts hown hE hP 60 rfl 2 (by decide) (hts _ (u_in uk_1_154)) (v := .ref (ad 63)) rfl dX6_fashion_18 ?_
  refine lv_iload_n hx hb dX6_fashion_21 rfl (lv_at hl 1 rfl) ?_
  refine sy_ialdN hx hb hE hP 63 rfl (show vp_in x0 4 from (vp_in_of2 (n := 4) rfl (Nat.le_refl _) (by decide) c_3)) x0.toNatClampNeg rfl (v := g 63 x0.toNatClampNeg) rfl dX6_fashion_22 ?_
  refine lv_istore_n (lv' := [(3, .int (g 63 x0.toNatClampNeg)), (0, .ref (ad 60)), (1, .int x0), (2, .int x1)]) hx hb dX6_fashion_23 rfl hl (by decide) rfl (fun ls hl => ?_)
  refine lv_aload_n hx hb dX6_fashion_24 rfl (lv_at hl 1 rfl) ?_
  refine sy_getRX6 hx hb hts hown hE hP 60 rfl 2 (by decide) (hts _ (u_in uk_1_154)) (v := .ref (ad 63)) rfl dX6_fashion_25 ?_
  refine lv_iload_n hx hb dX6_fashion_28 rfl (lv_at hl 2 rfl) ?_
  refine lv_iload_n hx hb dX6_fashion_29 rfl (lv_at hl 3 rfl) ?_
  refine sy_iastN hx hb hE hP hS 63 rfl (show vp_in x0 4 from (vp_in_of2 (n := 4) rfl (Nat.le_refl _) (by decide) c_3)) x0.toNatClampNeg rfl dX6_fashion_30 (fun H locs hP hS => ?_)
  refine lv_iload_n hx hb dX6_fashion_31 rfl (lv_at hl 0 rfl) ?_
  exact vx_ret (sy_ireti hx hb hr hlocks hE hP hS dX6_fashion_32 ⟨Nat.le_of_ble_eq_true rfl, Nat.le_of_ble_eq_true rfl⟩ (by unfold fX6_fashion; rw [if_pos c_3, if_pos c_6] <;> rfl))
def fX6_bias (g : sG) (q : sQ) (x0 : Int32) (x1 : Int32) : Int32 × Int32 × sG × sQ := (if 0 ≤ x0 ∧ x0 < 4 then (if (-20) ≤ x1 ∧ x1 ≤ 20 then (0, (g (80 + x0.toNatClampNeg) 0), (sy_up g (80 + x0.toNatClampNeg) 0 x1), q) else (2, 0, g, q)) else (1, 0, g, q))
set_option maxHeartbeats 4000000 in
set_option maxRecDepth 100000 in
theorem mX6_bias (l : Launch) (hfl : l.stackTraces = false) (Z : sZ) (nT nK cT cK : Nat) (ad : Nat → Nat) (g : sG) (q : sQ) (x0 : Int32) (x1 : Int32) (hT : nT ≤ 100) (hG : IG nT nK cT cK g) (hQ : IQ nT nK q) : sXi l Z yX6_bias (uW (.code yX6_bias cX6_bias 4 (some .int))) { frames := 7, cells := 2, slots := 12, locals := 103 } [.ref (ad 60), .int x0, .int x1] nT nK cT cK ad g q (fun r g1 q1 => (0, r, g1, q1) = fX6_bias g q x0 x1) (fun E => exc E = (fX6_bias g q x0 x1).1) := by
  refine vx_ofW (cc := cX6_bias) (maxL := 4) (ret := (some .int)) (by decide) rfl ?_
  intro p e s m args below meth c s₁ B hml hno hv
  obtain ⟨rfl, hE, hP⟩ := hv
  have hx := B.exec
  have hb := B.bytes
  have hr := B.returns
  have hts := atoms_spec (ws := uW (.code yX6_bias cX6_bias 4 (some .int))) B.pre
  have hown : s.vm.findClass RX6 = some m.cls := findClass_of_methodNamed B.named
  have hlocks := B.notSynchronized
  have hS : va_S (sy_A Z) s.heap s.heap [] := va_S.rf
  have hl := lv_entry ([.ref (ad 60), .int x0, .int x1]) (n := 4) (Nat.le_of_ble_eq_true rfl)
  rw [lg_entry_eq]
  generalize (lg_sl ([.ref (ad 60), .int x0, .int x1]) ++ List.replicate (4 - (lg_sl ([.ref (ad 60), .int x0, .int x1])).length) Slot.unset).toArray = ls at hl ⊢
  have hl : lv_has ls 4 [(0, .ref (ad 60)), (1, .int x0), (2, .int x1)] := hl
  refine lv_iload_n hx hb dX6_bias_0 rfl (lv_at hl 1 rfl) ?_
  refine lv_aload_n hx hb dX6_bias_1 rfl (lv_at hl 0 rfl) ?_
  refine sy_getRX6 hx hb hts hown hE hP 60 rfl 3 (by decide) (hts _ (u_in uk_1_155)) (v := .ref (ad 64)) rfl dX6_bias_2 ?_
  refine sy_alen (kc := 14) (t0 := 3) hx hb hE hP 64 rfl (by decide) rfl rfl (v := 4) rfl dX6_bias_5 ?_
  refine sy_xkv (sy_xS (As := [.int x0, .int 4]) (rest := []) ⟨hx, hb, hml, hown, hts⟩ hE hP hS (mX6_needIndex l hfl Z nT nK cT cK ad g q x0 4) (va_cwS 2 hts (gu_S uk_1_202 uk_1_203 uk_1_1 uk_1_204) rfl rfl rfl (by decide +kernel) ⟨Nat.le_of_ble_eq_true rfl, Nat.le_of_ble_eq_true rfl⟩) rfl hl.1 rfl (Nat.le_of_ble_eq_true rfl) dX6_bias_6 ⟨Nat.le_of_ble_eq_true rfl, Nat.le_of_ble_eq_true rfl⟩) hno hlocks hE hS ⟨Nat.le_of_ble_eq_true rfl, Nat.le_of_ble_eq_true rfl⟩ (fun E9 h9 => (by rw [h9.1, exc_IO]; unfold fX6_bias; rw [if_neg h9.2] <;> rfl)) (fun g_e_1 q_e_1 H locs e_1 hP hS => ?_)
  have c_3 := e_1.1
  obtain ⟨-, h7, h8⟩ := e_1; rw [h7, h8] at hP
  refine lv_iload_n hx hb dX6_bias_9 rfl (lv_at hl 2 rfl) ?_
  refine lv_bipush (v := (-20)) hx hb dX6_bias_10 (by decide) ?_
  refine lv_bipush (v := 20) hx hb dX6_bias_12 (by decide) ?_
  refine sy_xkv (sy_xS (As := [.int x1, .int (-20), .int 20]) (rest := []) ⟨hx, hb, hml, hown, hts⟩ hE hP hS (mX6_needRange l hfl Z nT nK cT cK ad g q x1 (-20) 20) (va_cwS 3 hts (gu_S uk_2_28 uk_2_29 uk_1_1 uk_2_30) rfl rfl rfl (by decide +kernel) ⟨Nat.le_of_ble_eq_true rfl, Nat.le_of_ble_eq_true rfl⟩) rfl hl.1 rfl (Nat.le_of_ble_eq_true rfl) dX6_bias_14 ⟨Nat.le_of_ble_eq_true rfl, Nat.le_of_ble_eq_true rfl⟩) hno hlocks hE hS ⟨Nat.le_of_ble_eq_true rfl, Nat.le_of_ble_eq_true rfl⟩ (fun E9 h9 => (by rw [h9.1, exc_IA]; unfold fX6_bias; rw [if_pos c_3, if_neg h9.2] <;> rfl)) (fun g_e_4 q_e_4 H locs e_4 hP hS => ?_)
  have c_6 := e_4.1
  obtain ⟨-, h7, h8⟩ := e_4; rw [h7, h8] at hP
  refine lv_aload_n hx hb dX6_bias_17 rfl (lv_at hl 0 rfl) ?_
  refine sy_getRX6 hx hb hts hown hE hP 60 rfl 3 (by decide) (hts _ (u_in uk_1_155)) (v := .ref (ad 64)) rfl dX6_bias_18 ?_
  refine lv_iload_n hx hb dX6_bias_21 rfl (lv_at hl 1 rfl) ?_
  refine sy_aald hx hb hE hP 64 14 3 rfl (by decide) rfl rfl (show vp_in x0 4 from (vp_in_of2 (n := 4) rfl (Nat.le_refl _) (by decide) c_3)) (80 + x0.toNatClampNeg) (hQ.2.2.1 _ (vp_in_lt (show vp_in x0 4 from (vp_in_of2 (n := 4) rfl (Nat.le_refl _) (by decide) c_3)))) dX6_bias_22 ?_
  refine sy_getRX1 hx hb hts hown hE hP (80 + x0.toNatClampNeg) (sy_kdX (vp_in_lt (show vp_in x0 4 from (vp_in_of2 (n := 4) rfl (Nat.le_refl _) (by decide) c_3)))) 0 (by decide) (hts _ (u_in uk_1_65)) (v := .int (g (80 + x0.toNatClampNeg) 0)) rfl dX6_bias_23 ?_
  refine lv_istore_n (lv' := [(3, .int (g (80 + x0.toNatClampNeg) 0)), (0, .ref (ad 60)), (1, .int x0), (2, .int x1)]) hx hb dX6_bias_26 rfl hl (by decide) rfl (fun ls hl => ?_)
  refine lv_aload_n hx hb dX6_bias_27 rfl (lv_at hl 1 rfl) ?_
  refine sy_getRX6 hx hb hts hown hE hP 60 rfl 3 (by decide) (hts _ (u_in uk_1_155)) (v := .ref (ad 64)) rfl dX6_bias_28 ?_
  refine lv_iload_n hx hb dX6_bias_31 rfl (lv_at hl 2 rfl) ?_
  refine sy_aald hx hb hE hP 64 14 3 rfl (by decide) rfl rfl (show vp_in x0 4 from (vp_in_of2 (n := 4) rfl (Nat.le_refl _) (by decide) c_3)) (80 + x0.toNatClampNeg) (hQ.2.2.1 _ (vp_in_lt (show vp_in x0 4 from (vp_in_of2 (n := 4) rfl (Nat.le_refl _) (by decide) c_3)))) dX6_bias_32 ?_
  refine lv_iload_n hx hb dX6_bias_33 rfl (lv_at hl 3 rfl) ?_
  refine sy_putRX1 hx hb hts hown hE hP hS (80 + x0.toNatClampNeg) (sy_kdX (vp_in_lt (show vp_in x0 4 from (vp_in_of2 (n := 4) rfl (Nat.le_refl _) (by decide) c_3)))) 0 (by decide) (hts _ (u_in uk_1_65)) rfl (ty := .int) (by decide +kernel) rfl rfl (sy_up g (80 + x0.toNatClampNeg) 0 x1) q (by rw [sy_up_s g (80 + x0.toNatClampNeg) 0 x1]; exact se_RX1_0 _ _ _ _ _ _ _) (fun _ h9 => sy_up_o _ _ _ h9) (fun _ _ => rfl) dX6_bias_34 (fun H locs hP hS => ?_)
  refine lv_iload_n hx hb dX6_bias_37 rfl (lv_at hl 0 rfl) ?_
  exact vx_ret (sy_ireti hx hb hr hlocks hE hP hS dX6_bias_38 ⟨Nat.le_of_ble_eq_true rfl, Nat.le_of_ble_eq_true rfl⟩ (by unfold fX6_bias; rw [if_pos c_3, if_pos c_6] <;> rfl))
def fX6_classOf (g : sG) (q : sQ) (x0 : Int32) (x1 : Int32) : Int32 × Int32 × sG × sQ := (if 0 ≤ x0 ∧ x0 < 10 then (if 0 ≤ x1 ∧ x1 < 3 then (0, (g (84 + (cg q x0.toNatClampNeg)) 0), g, (sy_up q 66 x0.toNatClampNeg (some (84 + x1.toNatClampNeg)))) else (1, 0, g, q)) else (1, 0, g, q))
set_option maxHeartbeats 4000000 in
set_option maxRecDepth 100000 in
theorem mX6_classOf (l : Launch) (hfl : l.stackTraces = false) (Z : sZ) (nT nK cT cK : Nat) (ad : Nat → Nat) (g : sG) (q : sQ) (x0 : Int32) (x1 : Int32) (hT : nT ≤ 100) (hG : IG nT nK cT cK g) (hQ : IQ nT nK q) : sXi l Z yX6_classOf (uW (.code yX6_classOf cX6_classOf 4 (some .int))) { frames := 7, cells := 2, slots := 12, locals := 102 } [.ref (ad 60), .int x0, .int x1] nT nK cT cK ad g q (fun r g1 q1 => (0, r, g1, q1) = fX6_classOf g q x0 x1) (fun E => exc E = (fX6_classOf g q x0 x1).1) := by
  refine vx_ofW (cc := cX6_classOf) (maxL := 4) (ret := (some .int)) (by decide) rfl ?_
  intro p e s m args below meth c s₁ B hml hno hv
  obtain ⟨rfl, hE, hP⟩ := hv
  have hx := B.exec
  have hb := B.bytes
  have hr := B.returns
  have hts := atoms_spec (ws := uW (.code yX6_classOf cX6_classOf 4 (some .int))) B.pre
  have hown : s.vm.findClass RX6 = some m.cls := findClass_of_methodNamed B.named
  have hlocks := B.notSynchronized
  have hS : va_S (sy_A Z) s.heap s.heap [] := va_S.rf
  have hl := lv_entry ([.ref (ad 60), .int x0, .int x1]) (n := 4) (Nat.le_of_ble_eq_true rfl)
  rw [lg_entry_eq]
  generalize (lg_sl ([.ref (ad 60), .int x0, .int x1]) ++ List.replicate (4 - (lg_sl ([.ref (ad 60), .int x0, .int x1])).length) Slot.unset).toArray = ls at hl ⊢
  have hl : lv_has ls 4 [(0, .ref (ad 60)), (1, .int x0), (2, .int x1)] := hl
  refine lv_iload_n hx hb dX6_classOf_0 rfl (lv_at hl 1 rfl) ?_
  refine lv_aload_n hx hb dX6_classOf_1 rfl (lv_at hl 0 rfl) ?_
  refine sy_getRX6 hx hb hts hown hE hP 60 rfl 5 (by decide) (hts _ (u_in uk_1_157)) (v := .ref (ad 66)) rfl dX6_classOf_2 ?_
  refine sy_alen (kc := 15) (t0 := 4) hx hb hE hP 66 rfl (by decide) rfl rfl (v := 10) rfl dX6_classOf_5 ?_
  refine sy_xkv (sy_xS (As := [.int x0, .int 10]) (rest := []) ⟨hx, hb, hml, hown, hts⟩ hE hP hS (mX6_needIndex l hfl Z nT nK cT cK ad g q x0 10) (va_cwS 2 hts (gu_S uk_1_202 uk_1_203 uk_1_1 uk_1_204) rfl rfl rfl (by decide +kernel) ⟨Nat.le_of_ble_eq_true rfl, Nat.le_of_ble_eq_true rfl⟩) rfl hl.1 rfl (Nat.le_of_ble_eq_true rfl) dX6_classOf_6 ⟨Nat.le_of_ble_eq_true rfl, Nat.le_of_ble_eq_true rfl⟩) hno hlocks hE hS ⟨Nat.le_of_ble_eq_true rfl, Nat.le_of_ble_eq_true rfl⟩ (fun E9 h9 => (by rw [h9.1, exc_IO]; unfold fX6_classOf; rw [if_neg h9.2] <;> rfl)) (fun g_e_1 q_e_1 H locs e_1 hP hS => ?_)
  have c_3 := e_1.1
  obtain ⟨-, h7, h8⟩ := e_1; rw [h7, h8] at hP
  refine lv_iload_n hx hb dX6_classOf_9 rfl (lv_at hl 2 rfl) ?_
  refine lv_aload_n hx hb dX6_classOf_10 rfl (lv_at hl 0 rfl) ?_
  refine sy_getRX6 hx hb hts hown hE hP 60 rfl 4 (by decide) (hts _ (u_in uk_1_156)) (v := .ref (ad 65)) rfl dX6_classOf_11 ?_
  refine sy_alen (kc := 15) (t0 := 4) hx hb hE hP 65 rfl (by decide) rfl rfl (v := 3) rfl dX6_classOf_14 ?_
  refine sy_xkv (sy_xS (As := [.int x1, .int 3]) (rest := []) ⟨hx, hb, hml, hown, hts⟩ hE hP hS (mX6_needIndex l hfl Z nT nK cT cK ad g q x1 3) (va_cwS 2 hts (gu_S uk_1_202 uk_1_203 uk_1_1 uk_1_204) rfl rfl rfl (by decide +kernel) ⟨Nat.le_of_ble_eq_true rfl, Nat.le_of_ble_eq_true rfl⟩) rfl hl.1 rfl (Nat.le_of_ble_eq_true rfl) dX6_classOf_15 ⟨Nat.le_of_ble_eq_true rfl, Nat.le_of_ble_eq_true rfl⟩) hno hlocks hE hS ⟨Nat.le_of_ble_eq_true rfl, Nat.le_of_ble_eq_true rfl⟩ (fun E9 h9 => (by rw [h9.1, exc_IO]; unfold fX6_classOf; rw [if_pos c_3, if_neg h9.2] <;> rfl)) (fun g_e_4 q_e_4 H locs e_4 hP hS => ?_)
  have c_6 := e_4.1
  obtain ⟨-, h7, h8⟩ := e_4; rw [h7, h8] at hP
  refine lv_aload_n hx hb dX6_classOf_18 rfl (lv_at hl 0 rfl) ?_
  refine sy_getRX6 hx hb hts hown hE hP 60 rfl 5 (by decide) (hts _ (u_in uk_1_157)) (v := .ref (ad 66)) rfl dX6_classOf_19 ?_
  refine lv_iload_n hx hb dX6_classOf_22 rfl (lv_at hl 1 rfl) ?_
  refine sy_aald hx hb hE hP 66 15 4 rfl (by decide) rfl rfl (show vp_in x0 10 from (vp_in_of2 (n := 10) rfl (Nat.le_refl _) (by decide) c_3)) (84 + (cg q x0.toNatClampNeg)) (iq_cg hQ (vp_in_lt (show vp_in x0 10 from (vp_in_of2 (n := 10) rfl (Nat.le_refl _) (by decide) c_3)))).1 dX6_classOf_23 ?_
  refine sy_getRX0 hx hb hts hown hE hP (84 + (cg q x0.toNatClampNeg)) (sy_kdC (iq_cg hQ (vp_in_lt (show vp_in x0 10 from (vp_in_of2 (n := 10) rfl (Nat.le_refl _) (by decide) c_3)))).2) 0 (by decide) (hts _ (u_in uk_1_86)) (v := .int (g (84 + (cg q x0.toNatClampNeg)) 0)) rfl dX6_classOf_24 ?_
  refine lv_istore_n (lv' := [(3, .int (g (84 + (cg q x0.toNatClampNeg)) 0)), (0, .ref (ad 60)), (1, .int x0), (2, .int x1)]) hx hb dX6_classOf_27 rfl hl (by decide) rfl (fun ls hl => ?_)
  refine lv_aload_n hx hb dX6_classOf_28 rfl (lv_at hl 1 rfl) ?_
  refine sy_getRX6 hx hb hts hown hE hP 60 rfl 5 (by decide) (hts _ (u_in uk_1_157)) (v := .ref (ad 66)) rfl dX6_classOf_29 ?_
  refine lv_iload_n hx hb dX6_classOf_32 rfl (lv_at hl 2 rfl) ?_
  refine lv_aload_n hx hb dX6_classOf_33 rfl (lv_at hl 1 rfl) ?_
  refine sy_getRX6 hx hb hts hown hE hP 60 rfl 4 (by decide) (hts _ (u_in uk_1_156)) (v := .ref (ad 65)) rfl dX6_classOf_34 ?_
  refine lv_iload_n hx hb dX6_classOf_37 rfl (lv_at hl 3 rfl) ?_
  refine sy_aald hx hb hE hP 65 15 4 rfl (by decide) rfl rfl (show vp_in x1 3 from (vp_in_of2 (n := 3) rfl (Nat.le_refl _) (by decide) c_6)) (84 + x1.toNatClampNeg) (hQ.2.2.2.1 _ (vp_in_lt (show vp_in x1 3 from (vp_in_of2 (n := 3) rfl (Nat.le_refl _) (by decide) c_6)))) dX6_classOf_38 ?_
  refine sy_aast hx hb hE hP hS 66 15 4 rfl (by decide) rfl rfl (o1 := (84 + x1.toNatClampNeg)) (kc1 := 1) (ci := 1) (sy_kdC (vp_in_lt (show vp_in x1 3 from (vp_in_of2 (n := 3) rfl (Nat.le_refl _) (by decide) c_6)))) (by decide) rfl rfl rfl (show vp_in x0 10 from (vp_in_of2 (n := 10) rfl (Nat.le_refl _) (by decide) c_3)) x0.toNatClampNeg rfl (by rw [sy_up_s]; rfl) dX6_classOf_39 (fun H locs hP hS => ?_)
  refine lv_iload_n hx hb dX6_classOf_40 rfl (lv_at hl 0 rfl) ?_
  exact vx_ret (sy_ireti hx hb hr hlocks hE hP hS dX6_classOf_41 ⟨Nat.le_of_ble_eq_true rfl, Nat.le_of_ble_eq_true rfl⟩ (by unfold fX6_classOf; rw [if_pos c_3, if_pos c_6] <;> rfl))
def fX6_charter (g : sG) (q : sQ) (x0 : Int32) (x1 : Int32) (x2 : Int32) : Int32 × sG × sQ := (if 0 ≤ x0 ∧ x0 < 3 then (if 10 ≤ x1 ∧ x1 ≤ 90 then (if 0 ≤ x2 ∧ x2 ≤ 100000 then (0, (sy_up (sy_up g (84 + x0.toNatClampNeg) 1 x1) (84 + x0.toNatClampNeg) 2 x2), q) else (2, g, q)) else (2, g, q)) else (1, g, q))
set_option maxHeartbeats 4000000 in
set_option maxRecDepth 100000 in
theorem mX6_charter (l : Launch) (hfl : l.stackTraces = false) (Z : sZ) (nT nK cT cK : Nat) (ad : Nat → Nat) (g : sG) (q : sQ) (x0 : Int32) (x1 : Int32) (x2 : Int32) (hT : nT ≤ 100) (hG : IG nT nK cT cK g) (hQ : IQ nT nK q) : sXv l Z yX6_charter (uW (.code yX6_charter cX6_charter 4 none)) { frames := 7, cells := 3, slots := 18, locals := 103 } [.ref (ad 60), .int x0, .int x1, .int x2] nT nK cT cK ad g q (fun g1 q1 => (0, g1, q1) = fX6_charter g q x0 x1 x2) (fun E => exc E = (fX6_charter g q x0 x1 x2).1) := by
  refine vx_ofW (cc := cX6_charter) (maxL := 4) (ret := none) (by decide) rfl ?_
  intro p e s m args below meth c s₁ B hml hno hv
  obtain ⟨rfl, hE, hP⟩ := hv
  have hx := B.exec
  have hb := B.bytes
  have hr := B.returns
  have hts := atoms_spec (ws := uW (.code yX6_charter cX6_charter 4 none)) B.pre
  have hown : s.vm.findClass RX6 = some m.cls := findClass_of_methodNamed B.named
  have hlocks := B.notSynchronized
  have hS : va_S (sy_A Z) s.heap s.heap [] := va_S.rf
  have hl := lv_entry ([.ref (ad 60), .int x0, .int x1, .int x2]) (n := 4) (Nat.le_of_ble_eq_true rfl)
  rw [lg_entry_eq]
  generalize (lg_sl ([.ref (ad 60), .int x0, .int x1, .int x2]) ++ List.replicate (4 - (lg_sl ([.ref (ad 60), .int x0, .int x1, .int x2])).length) Slot.unset).toArray = ls at hl ⊢
  have hl : lv_has ls 4 [(0, .ref (ad 60)), (1, .int x0), (2, .int x1), (3, .int x2)] := hl
  refine lv_iload_n hx hb dX6_charter_0 rfl (lv_at hl 1 rfl) ?_
  refine lv_aload_n hx hb dX6_charter_1 rfl (lv_at hl 0 rfl) ?_
  refine sy_getRX6 hx hb hts hown hE hP 60 rfl 4 (by decide) (hts _ (u_in uk_1_156)) (v := .ref (ad 65)) rfl dX6_charter_2 ?_
  refine sy_alen (kc := 15) (t0 := 4) hx hb hE hP 65 rfl (by decide) rfl rfl (v := 3) rfl dX6_charter_5 ?_
  refine sy_xkv (sy_xS (As := [.int x0, .int 3]) (rest := []) ⟨hx, hb, hml, hown, hts⟩ hE hP hS (mX6_needIndex l hfl Z nT nK cT cK ad g q x0 3) (va_cwS 2 hts (gu_S uk_1_202 uk_1_203 uk_1_1 uk_1_204) rfl rfl rfl (by decide +kernel) ⟨Nat.le_of_ble_eq_true rfl, Nat.le_of_ble_eq_true rfl⟩) rfl hl.1 rfl (Nat.le_of_ble_eq_true rfl) dX6_charter_6 ⟨Nat.le_of_ble_eq_true rfl, Nat.le_of_ble_eq_true rfl⟩) hno hlocks hE hS ⟨Nat.le_of_ble_eq_true rfl, Nat.le_of_ble_eq_true rfl⟩ (fun E9 h9 => (by rw [h9.1, exc_IO]; unfold fX6_charter; rw [if_neg h9.2] <;> rfl)) (fun g_e_1 q_e_1 H locs e_1 hP hS => ?_)
  have c_3 := e_1.1
  obtain ⟨-, h7, h8⟩ := e_1; rw [h7, h8] at hP
  refine lv_iload_n hx hb dX6_charter_9 rfl (lv_at hl 2 rfl) ?_
  refine lv_bipush (v := 10) hx hb dX6_charter_10 (by decide) ?_
  refine lv_bipush (v := 90) hx hb dX6_charter_12 (by decide) ?_
  refine sy_xkv (sy_xS (As := [.int x1, .int 10, .int 90]) (rest := []) ⟨hx, hb, hml, hown, hts⟩ hE hP hS (mX6_needRange l hfl Z nT nK cT cK ad g q x1 10 90) (va_cwS 3 hts (gu_S uk_2_28 uk_2_29 uk_1_1 uk_2_30) rfl rfl rfl (by decide +kernel) ⟨Nat.le_of_ble_eq_true rfl, Nat.le_of_ble_eq_true rfl⟩) rfl hl.1 rfl (Nat.le_of_ble_eq_true rfl) dX6_charter_14 ⟨Nat.le_of_ble_eq_true rfl, Nat.le_of_ble_eq_true rfl⟩) hno hlocks hE hS ⟨Nat.le_of_ble_eq_true rfl, Nat.le_of_ble_eq_true rfl⟩ (fun E9 h9 => (by rw [h9.1, exc_IA]; unfold fX6_charter; rw [if_pos c_3, if_neg h9.2] <;> rfl)) (fun g_e_4 q_e_4 H locs e_4 hP hS => ?_)
  have c_6 := e_4.1
  obtain ⟨-, h7, h8⟩ := e_4; rw [h7, h8] at hP
  refine lv_iload_n hx hb dX6_charter_17 rfl (lv_at hl 3 rfl) ?_
  refine lv_iconst (v := 0) hx hb dX6_charter_18 (by decide) ?_
  refine lv_ldc (v := 100000) hx hb hown (hts _ (u_in uk_2_198)) dX6_charter_19 ?_
  refine sy_xkv (sy_xS (As := [.int x2, .int 0, .int 100000]) (rest := []) ⟨hx, hb, hml, hown, hts⟩ hE hP hS (mX6_needRange l hfl Z nT nK cT cK ad g q x2 0 100000) (va_cwS 3 hts (gu_S uk_2_28 uk_2_29 uk_1_1 uk_2_30) rfl rfl rfl (by decide +kernel) ⟨Nat.le_of_ble_eq_true rfl, Nat.le_of_ble_eq_true rfl⟩) rfl hl.1 rfl (Nat.le_of_ble_eq_true rfl) dX6_charter_21 ⟨Nat.le_of_ble_eq_true rfl, Nat.le_of_ble_eq_true rfl⟩) hno hlocks hE hS ⟨Nat.le_of_ble_eq_true rfl, Nat.le_of_ble_eq_true rfl⟩ (fun E9 h9 => (by rw [h9.1, exc_IA]; unfold fX6_charter; rw [if_pos c_3, if_pos c_6, if_neg h9.2] <;> rfl)) (fun g_e_7 q_e_7 H locs e_7 hP hS => ?_)
  have c_9 := e_7.1
  obtain ⟨-, h7, h8⟩ := e_7; rw [h7, h8] at hP
  refine lv_aload_n hx hb dX6_charter_24 rfl (lv_at hl 0 rfl) ?_
  refine sy_getRX6 hx hb hts hown hE hP 60 rfl 4 (by decide) (hts _ (u_in uk_1_156)) (v := .ref (ad 65)) rfl dX6_charter_25 ?_
  refine lv_iload_n hx hb dX6_charter_28 rfl (lv_at hl 1 rfl) ?_
  refine sy_aald hx hb hE hP 65 15 4 rfl (by decide) rfl rfl (show vp_in x0 3 from (vp_in_of2 (n := 3) rfl (Nat.le_refl _) (by decide) c_3)) (84 + x0.toNatClampNeg) (hQ.2.2.2.1 _ (vp_in_lt (show vp_in x0 3 from (vp_in_of2 (n := 3) rfl (Nat.le_refl _) (by decide) c_3)))) dX6_charter_29 ?_
  refine lv_iload_n hx hb dX6_charter_30 rfl (lv_at hl 2 rfl) ?_
  refine sy_putRX0 hx hb hts hown hE hP hS (84 + x0.toNatClampNeg) (sy_kdC (vp_in_lt (show vp_in x0 3 from (vp_in_of2 (n := 3) rfl (Nat.le_refl _) (by decide) c_3)))) 1 (by decide) (hts _ (u_in uk_1_88)) rfl (ty := .int) (by decide +kernel) rfl rfl (sy_up g (84 + x0.toNatClampNeg) 1 x1) q (by rw [sy_up_s g (84 + x0.toNatClampNeg) 1 x1]; exact se_RX0_1 _ _ _ _ _ _ _) (fun _ h9 => sy_up_o _ _ _ h9) (fun _ _ => rfl) dX6_charter_31 (fun H locs hP hS => ?_)
  refine lv_aload_n hx hb dX6_charter_34 rfl (lv_at hl 0 rfl) ?_
  refine sy_getRX6 hx hb hts hown hE hP 60 rfl 4 (by decide) (hts _ (u_in uk_1_156)) (v := .ref (ad 65)) rfl dX6_charter_35 ?_
  refine lv_iload_n hx hb dX6_charter_38 rfl (lv_at hl 1 rfl) ?_
  refine sy_aald hx hb hE hP 65 15 4 rfl (by decide) rfl rfl (show vp_in x0 3 from (vp_in_of2 (n := 3) rfl (Nat.le_refl _) (by decide) c_3)) (84 + x0.toNatClampNeg) (hQ.2.2.2.1 _ (vp_in_lt (show vp_in x0 3 from (vp_in_of2 (n := 3) rfl (Nat.le_refl _) (by decide) c_3)))) dX6_charter_39 ?_
  refine lv_iload_n hx hb dX6_charter_40 rfl (lv_at hl 3 rfl) ?_
  refine sy_putRX0 hx hb hts hown hE hP hS (84 + x0.toNatClampNeg) (sy_kdC (vp_in_lt (show vp_in x0 3 from (vp_in_of2 (n := 3) rfl (Nat.le_refl _) (by decide) c_3)))) 2 (by decide) (hts _ (u_in uk_1_90)) rfl (ty := .int) (by decide +kernel) rfl rfl (sy_up (sy_up g (84 + x0.toNatClampNeg) 1 x1) (84 + x0.toNatClampNeg) 2 x2) q (by rw [sy_up_s (sy_up g (84 + x0.toNatClampNeg) 1 x1) (84 + x0.toNatClampNeg) 2 x2]; exact se_RX0_2 _ _ _ _ _ _ _) (fun _ h9 => sy_up_o _ _ _ h9) (fun _ _ => rfl) dX6_charter_41 (fun H locs hP hS => ?_)
  exact vx_ret (sy_vret hx hb hr hlocks hE hP hS dX6_charter_44 ⟨Nat.le_of_ble_eq_true rfl, Nat.le_of_ble_eq_true rfl⟩ (by unfold fX6_charter; rw [if_pos c_3, if_pos c_6, if_pos c_9] <;> rfl))
def fX6_rate (g : sG) (q : sQ) (x0 : Int32) (x1 : Int32) : Int32 × Int32 × sG × sQ := (if 0 ≤ x0 ∧ x0 < 3 then (if 0 ≤ x1 ∧ x1 ≤ 100 then (if ¬ ((fX2_takesRate g q) = 0) then (0, (fX2_rateOn g q x0 (g 60 9)), (fX2_addRate g q (g 60 9) x0 x1), q) else (3, 0, g, q)) else (2, 0, g, q)) else (1, 0, g, q))
set_option maxHeartbeats 4000000 in
set_option maxRecDepth 100000 in
theorem mX6_rate (l : Launch) (hfl : l.stackTraces = false) (Z : sZ) (nT nK cT cK : Nat) (ad : Nat → Nat) (g : sG) (q : sQ) (x0 : Int32) (x1 : Int32) (hT : nT ≤ 100) (hG : IG nT nK cT cK g) (hQ : IQ nT nK q) : sXi l Z yX6_rate (uW (.code yX6_rate cX6_rate 4 (some .int))) { frames := 7, cells := 3, slots := 18, locals := 103 } [.ref (ad 60), .int x0, .int x1] nT nK cT cK ad g q (fun r g1 q1 => (0, r, g1, q1) = fX6_rate g q x0 x1) (fun E => exc E = (fX6_rate g q x0 x1).1) := by
  refine vx_ofW (cc := cX6_rate) (maxL := 4) (ret := (some .int)) (by decide) rfl ?_
  intro p e s m args below meth c s₁ B hml hno hv
  obtain ⟨rfl, hE, hP⟩ := hv
  have hx := B.exec
  have hb := B.bytes
  have hr := B.returns
  have hts := atoms_spec (ws := uW (.code yX6_rate cX6_rate 4 (some .int))) B.pre
  have hown : s.vm.findClass RX6 = some m.cls := findClass_of_methodNamed B.named
  have hlocks := B.notSynchronized
  have hS : va_S (sy_A Z) s.heap s.heap [] := va_S.rf
  have hl := lv_entry ([.ref (ad 60), .int x0, .int x1]) (n := 4) (Nat.le_of_ble_eq_true rfl)
  rw [lg_entry_eq]
  generalize (lg_sl ([.ref (ad 60), .int x0, .int x1]) ++ List.replicate (4 - (lg_sl ([.ref (ad 60), .int x0, .int x1])).length) Slot.unset).toArray = ls at hl ⊢
  have hl : lv_has ls 4 [(0, .ref (ad 60)), (1, .int x0), (2, .int x1)] := hl
  refine lv_iload_n hx hb dX6_rate_0 rfl (lv_at hl 1 rfl) ?_
  refine lv_iconst (v := 3) hx hb dX6_rate_1 (by decide) ?_
  refine sy_xkv (sy_xS (As := [.int x0, .int 3]) (rest := []) ⟨hx, hb, hml, hown, hts⟩ hE hP hS (mX6_needIndex l hfl Z nT nK cT cK ad g q x0 3) (va_cwS 2 hts (gu_S uk_1_202 uk_1_203 uk_1_1 uk_1_204) rfl rfl rfl (by decide +kernel) ⟨Nat.le_of_ble_eq_true rfl, Nat.le_of_ble_eq_true rfl⟩) rfl hl.1 rfl (Nat.le_of_ble_eq_true rfl) dX6_rate_2 ⟨Nat.le_of_ble_eq_true rfl, Nat.le_of_ble_eq_true rfl⟩) hno hlocks hE hS ⟨Nat.le_of_ble_eq_true rfl, Nat.le_of_ble_eq_true rfl⟩ (fun E9 h9 => (by rw [h9.1, exc_IO]; unfold fX6_rate; rw [if_neg h9.2] <;> rfl)) (fun g_e_1 q_e_1 H locs e_1 hP hS => ?_)
  have c_3 := e_1.1
  obtain ⟨-, h7, h8⟩ := e_1; rw [h7, h8] at hP
  refine lv_iload_n hx hb dX6_rate_5 rfl (lv_at hl 2 rfl) ?_
  refine lv_iconst (v := 0) hx hb dX6_rate_6 (by decide) ?_
  refine lv_bipush (v := 100) hx hb dX6_rate_7 (by decide) ?_
  refine sy_xkv (sy_xS (As := [.int x1, .int 0, .int 100]) (rest := []) ⟨hx, hb, hml, hown, hts⟩ hE hP hS (mX6_needRange l hfl Z nT nK cT cK ad g q x1 0 100) (va_cwS 3 hts (gu_S uk_2_28 uk_2_29 uk_1_1 uk_2_30) rfl rfl rfl (by decide +kernel) ⟨Nat.le_of_ble_eq_true rfl, Nat.le_of_ble_eq_true rfl⟩) rfl hl.1 rfl (Nat.le_of_ble_eq_true rfl) dX6_rate_9 ⟨Nat.le_of_ble_eq_true rfl, Nat.le_of_ble_eq_true rfl⟩) hno hlocks hE hS ⟨Nat.le_of_ble_eq_true rfl, Nat.le_of_ble_eq_true rfl⟩ (fun E9 h9 => (by rw [h9.1, exc_IA]; unfold fX6_rate; rw [if_pos c_3, if_neg h9.2] <;> rfl)) (fun g_e_4 q_e_4 H locs e_4 hP hS => ?_)
  have c_6 := e_4.1
  obtain ⟨-, h7, h8⟩ := e_4; rw [h7, h8] at hP
  refine lv_aload_n hx hb dX6_rate_12 rfl (lv_at hl 0 rfl) ?_
  refine sy_getRX6 hx hb hts hown hE hP 60 rfl 6 (by decide) (hts _ (u_in uk_1_158)) (v := .ref (ad 67)) rfl dX6_rate_13 ?_
  refine sy_ki (sy_rV (o := 67) (As := []) (rest := []) ⟨hx, hb, hml, hown, hts⟩ hE hP hS (mX2_takesRate l hfl Z nT nK cT cK ad g q hT) (cwV 0 hts (gu_V uk_2_206 uk_2_207 uk_2_208 uk_1_7 uk_2_209) rfl rfl rfl (by decide +kernel) ⟨Nat.le_of_ble_eq_true rfl, Nat.le_of_ble_eq_true rfl⟩) (sy_recv (kc := 3) hE hP rfl (by decide) rfl rfl rfl) rfl hl.1 rfl (Nat.le_of_ble_eq_true rfl) dX6_rate_16 ⟨Nat.le_of_ble_eq_true rfl, Nat.le_of_ble_eq_true rfl⟩) hS (fun r_e_7 g_e_7 q_e_7 H locs e_7 hP hS => ?_)
  cases e_7
  refine sy_xkv (sy_xS (As := [.int (fX2_takesRate g q)]) (rest := []) ⟨hx, hb, hml, hown, hts⟩ hE hP hS (mX6_needState l hfl Z nT nK cT cK ad g q (fX2_takesRate g q)) (va_cwS 1 hts (gu_S uk_2_50 uk_2_51 uk_1_1 uk_2_52) rfl rfl rfl (by decide +kernel) ⟨Nat.le_of_ble_eq_true rfl, Nat.le_of_ble_eq_true rfl⟩) rfl hl.1 rfl (Nat.le_of_ble_eq_true rfl) dX6_rate_19 ⟨Nat.le_of_ble_eq_true rfl, Nat.le_of_ble_eq_true rfl⟩) hno hlocks hE hS ⟨Nat.le_of_ble_eq_true rfl, Nat.le_of_ble_eq_true rfl⟩ (fun E9 h9 => (by rw [h9.1, exc_IS]; unfold fX6_rate; rw [if_pos c_3, if_pos c_6, if_neg h9.2] <;> rfl)) (fun g_e_8 q_e_8 H locs e_8 hP hS => ?_)
  have c_10 := e_8.1
  obtain ⟨-, h7, h8⟩ := e_8; rw [h7, h8] at hP
  refine lv_aload_n hx hb dX6_rate_22 rfl (lv_at hl 0 rfl) ?_
  refine sy_getRX6 hx hb hts hown hE hP 60 rfl 6 (by decide) (hts _ (u_in uk_1_158)) (v := .ref (ad 67)) rfl dX6_rate_23 ?_
  refine lv_iload_n hx hb dX6_rate_26 rfl (lv_at hl 1 rfl) ?_
  refine lv_aload_n hx hb dX6_rate_27 rfl (lv_at hl 0 rfl) ?_
  refine sy_getRX6 hx hb hts hown hE hP 60 rfl 9 (by decide) (hts _ (u_in uk_1_161)) (v := .int (g 60 9)) rfl dX6_rate_28 ?_
  refine sy_ki (sy_rV (o := 67) (As := [.int x0, .int (g 60 9)]) (rest := []) ⟨hx, hb, hml, hown, hts⟩ hE hP hS (mX2_rateOn l hfl Z nT nK cT cK ad g q x0 (g 60 9) hT hG) (cwV 2 hts (gu_V uk_2_210 uk_2_211 uk_2_212 uk_1_7 uk_2_213) rfl rfl rfl (by decide +kernel) ⟨Nat.le_of_ble_eq_true rfl, Nat.le_of_ble_eq_true rfl⟩) (sy_recv (kc := 3) hE hP rfl (by decide) rfl rfl rfl) rfl hl.1 rfl (Nat.le_of_ble_eq_true rfl) dX6_rate_31 ⟨Nat.le_of_ble_eq_true rfl, Nat.le_of_ble_eq_true rfl⟩) hS (fun r_e_11 g_e_11 q_e_11 H locs e_11 hP hS => ?_)
  cases e_11
  refine lv_istore_n (lv' := [(3, .int (fX2_rateOn g q x0 (g 60 9))), (0, .ref (ad 60)), (1, .int x0), (2, .int x1)]) hx hb dX6_rate_34 rfl hl (by decide) rfl (fun ls hl => ?_)
  refine lv_aload_n hx hb dX6_rate_35 rfl (lv_at hl 1 rfl) ?_
  refine sy_getRX6 hx hb hts hown hE hP 60 rfl 6 (by decide) (hts _ (u_in uk_1_158)) (v := .ref (ad 67)) rfl dX6_rate_36 ?_
  refine lv_aload_n hx hb dX6_rate_39 rfl (lv_at hl 1 rfl) ?_
  refine sy_getRX6 hx hb hts hown hE hP 60 rfl 9 (by decide) (hts _ (u_in uk_1_161)) (v := .int (g 60 9)) rfl dX6_rate_40 ?_
  refine lv_iload_n hx hb dX6_rate_43 rfl (lv_at hl 2 rfl) ?_
  refine lv_iload_n hx hb dX6_rate_44 rfl (lv_at hl 3 rfl) ?_
  refine sy_kv (sy_rV (o := 67) (As := [.int (g 60 9), .int x0, .int x1]) (rest := []) ⟨hx, hb, hml, hown, hts⟩ hE hP hS (mX2_addRate l hfl Z nT nK cT cK ad g q (g 60 9) x0 x1 hT hG) (cwV 3 hts (gu_V uk_2_217 uk_2_218 uk_2_219 uk_1_7 uk_2_220) rfl rfl rfl (by decide +kernel) ⟨Nat.le_of_ble_eq_true rfl, Nat.le_of_ble_eq_true rfl⟩) (sy_recv (kc := 3) hE hP rfl (by decide) rfl rfl rfl) rfl hl.1 rfl (Nat.le_of_ble_eq_true rfl) dX6_rate_45 ⟨Nat.le_of_ble_eq_true rfl, Nat.le_of_ble_eq_true rfl⟩) hS (fun g_e_12 q_e_12 H locs e_12 hP hS => ?_)
  cases e_12
  refine lv_iload_n hx hb dX6_rate_48 rfl (lv_at hl 0 rfl) ?_
  exact vx_ret (sy_ireti hx hb hr hlocks hE hP hS dX6_rate_49 ⟨Nat.le_of_ble_eq_true rfl, Nat.le_of_ble_eq_true rfl⟩ (by unfold fX6_rate; rw [if_pos c_3, if_pos c_6, if_pos c_10] <;> rfl))
def fX6_term (g : sG) (q : sQ) (x0 : Int32) : Int32 × Int32 × sG × sQ := (if 14 ≤ x0 ∧ x0 ≤ 1000 then (0, (g 60 8), (sy_up g 60 8 x0), q) else (2, 0, g, q))
set_option maxHeartbeats 4000000 in
set_option maxRecDepth 100000 in
theorem mX6_term (l : Launch) (hfl : l.stackTraces = false) (Z : sZ) (nT nK cT cK : Nat) (ad : Nat → Nat) (g : sG) (q : sQ) (x0 : Int32) (hT : nT ≤ 100) (hG : IG nT nK cT cK g) (hQ : IQ nT nK q) : sXi l Z yX6_term (uW (.code yX6_term cX6_term 3 (some .int))) { frames := 7, cells := 1, slots := 6, locals := 103 } [.ref (ad 60), .int x0] nT nK cT cK ad g q (fun r g1 q1 => (0, r, g1, q1) = fX6_term g q x0) (fun E => exc E = (fX6_term g q x0).1) := by
  refine vx_ofW (cc := cX6_term) (maxL := 3) (ret := (some .int)) (by decide) rfl ?_
  intro p e s m args below meth c s₁ B hml hno hv
  obtain ⟨rfl, hE, hP⟩ := hv
  have hx := B.exec
  have hb := B.bytes
  have hr := B.returns
  have hts := atoms_spec (ws := uW (.code yX6_term cX6_term 3 (some .int))) B.pre
  have hown : s.vm.findClass RX6 = some m.cls := findClass_of_methodNamed B.named
  have hlocks := B.notSynchronized
  have hS : va_S (sy_A Z) s.heap s.heap [] := va_S.rf
  have hl := lv_entry ([.ref (ad 60), .int x0]) (n := 3) (Nat.le_of_ble_eq_true rfl)
  rw [lg_entry_eq]
  generalize (lg_sl ([.ref (ad 60), .int x0]) ++ List.replicate (3 - (lg_sl ([.ref (ad 60), .int x0])).length) Slot.unset).toArray = ls at hl ⊢
  have hl : lv_has ls 3 [(0, .ref (ad 60)), (1, .int x0)] := hl
  refine lv_iload_n hx hb dX6_term_0 rfl (lv_at hl 1 rfl) ?_
  refine lv_bipush (v := 14) hx hb dX6_term_1 (by decide) ?_
  refine lv_sipush (v := 1000) hx hb dX6_term_3 (by decide) ?_
  refine sy_xkv (sy_xS (As := [.int x0, .int 14, .int 1000]) (rest := []) ⟨hx, hb, hml, hown, hts⟩ hE hP hS (mX6_needRange l hfl Z nT nK cT cK ad g q x0 14 1000) (va_cwS 3 hts (gu_S uk_2_28 uk_2_29 uk_1_1 uk_2_30) rfl rfl rfl (by decide +kernel) ⟨Nat.le_of_ble_eq_true rfl, Nat.le_of_ble_eq_true rfl⟩) rfl hl.1 rfl (Nat.le_of_ble_eq_true rfl) dX6_term_6 ⟨Nat.le_of_ble_eq_true rfl, Nat.le_of_ble_eq_true rfl⟩) hno hlocks hE hS ⟨Nat.le_of_ble_eq_true rfl, Nat.le_of_ble_eq_true rfl⟩ (fun E9 h9 => (by rw [h9.1, exc_IA]; unfold fX6_term; rw [if_neg h9.2] <;> rfl)) (fun g_e_1 q_e_1 H locs e_1 hP hS => ?_)
  have c_3 := e_1.1
  obtain ⟨-, h7, h8⟩ := e_1; rw [h7, h8] at hP
  refine lv_aload_n hx hb dX6_term_9 rfl (lv_at hl 0 rfl) ?_
  refine sy_getRX6 hx hb hts hown hE hP 60 rfl 8 (by decide) (hts _ (u_in uk_1_160)) (v := .int (g 60 8)) rfl dX6_term_10 ?_
  refine lv_istore_n (lv' := [(2, .int (g 60 8)), (0, .ref (ad 60)), (1, .int x0)]) hx hb dX6_term_13 rfl hl (by decide) rfl (fun ls hl => ?_)
  refine lv_aload_n hx hb dX6_term_14 rfl (lv_at hl 1 rfl) ?_
  refine lv_iload_n hx hb dX6_term_15 rfl (lv_at hl 2 rfl) ?_
  refine sy_putRX6 hx hb hts hown hE hP hS 60 rfl 8 (by decide) (hts _ (u_in uk_1_160)) rfl (ty := .int) (by decide +kernel) rfl rfl (sy_up g 60 8 x0) q (by rw [sy_up_s g 60 8 x0]; exact se_RX6_8 _ _ _ _ _ _ _) (fun _ h9 => sy_up_o _ _ _ h9) (fun _ _ => rfl) dX6_term_16 (fun H locs hP hS => ?_)
  refine lv_iload_n hx hb dX6_term_19 rfl (lv_at hl 0 rfl) ?_
  exact vx_ret (sy_ireti hx hb hr hlocks hE hP hS dX6_term_20 ⟨Nat.le_of_ble_eq_true rfl, Nat.le_of_ble_eq_true rfl⟩ (by unfold fX6_term; rw [if_pos c_3] <;> rfl))
def fX6_amnesty (g : sG) (q : sQ) (x0 : Int32) (x1 : Int32) : Int32 × Int32 × sG × sQ := (if 0 ≤ x0 ∧ x0 ≤ 5000 then (if x0 ≤ x1 ∧ x1 ≤ 5000 then (if ¬ ((fX2_takesAmnesty g q) = 0) then (0, ((fX2_addAmnesty g q x0 x1) 67 6), (fX2_addAmnesty g q x0 x1), q) else (3, 0, g, q)) else (2, 0, g, q)) else (2, 0, g, q))
set_option maxHeartbeats 4000000 in
set_option maxRecDepth 100000 in
theorem mX6_amnesty (l : Launch) (hfl : l.stackTraces = false) (Z : sZ) (nT nK cT cK : Nat) (ad : Nat → Nat) (g : sG) (q : sQ) (x0 : Int32) (x1 : Int32) (hT : nT ≤ 100) (hG : IG nT nK cT cK g) (hQ : IQ nT nK q) : sXi l Z yX6_amnesty (uW (.code yX6_amnesty cX6_amnesty 3 (some .int))) { frames := 7, cells := 3, slots := 18, locals := 103 } [.ref (ad 60), .int x0, .int x1] nT nK cT cK ad g q (fun r g1 q1 => (0, r, g1, q1) = fX6_amnesty g q x0 x1) (fun E => exc E = (fX6_amnesty g q x0 x1).1) := by
  refine vx_ofW (cc := cX6_amnesty) (maxL := 3) (ret := (some .int)) (by decide) rfl ?_
  intro p e s m args below meth c s₁ B hml hno hv
  obtain ⟨rfl, hE, hP⟩ := hv
  have hx := B.exec
  have hb := B.bytes
  have hr := B.returns
  have hts := atoms_spec (ws := uW (.code yX6_amnesty cX6_amnesty 3 (some .int))) B.pre
  have hown : s.vm.findClass RX6 = some m.cls := findClass_of_methodNamed B.named
  have hlocks := B.notSynchronized
  have hS : va_S (sy_A Z) s.heap s.heap [] := va_S.rf
  have hl := lv_entry ([.ref (ad 60), .int x0, .int x1]) (n := 3) (Nat.le_of_ble_eq_true rfl)
  rw [lg_entry_eq]
  generalize (lg_sl ([.ref (ad 60), .int x0, .int x1]) ++ List.replicate (3 - (lg_sl ([.ref (ad 60), .int x0, .int x1])).length) Slot.unset).toArray = ls at hl ⊢
  have hl : lv_has ls 3 [(0, .ref (ad 60)), (1, .int x0), (2, .int x1)] := hl
  refine lv_iload_n hx hb dX6_amnesty_0 rfl (lv_at hl 1 rfl) ?_
  refine lv_iconst (v := 0) hx hb dX6_amnesty_1 (by decide) ?_
  refine lv_sipush (v := 5000) hx hb dX6_amnesty_2 (by decide) ?_
  refine sy_xkv (sy_xS (As := [.int x0, .int 0, .int 5000]) (rest := []) ⟨hx, hb, hml, hown, hts⟩ hE hP hS (mX6_needRange l hfl Z nT nK cT cK ad g q x0 0 5000) (va_cwS 3 hts (gu_S uk_2_28 uk_2_29 uk_1_1 uk_2_30) rfl rfl rfl (by decide +kernel) ⟨Nat.le_of_ble_eq_true rfl, Nat.le_of_ble_eq_true rfl⟩) rfl hl.1 rfl (Nat.le_of_ble_eq_true rfl) dX6_amnesty_5 ⟨Nat.le_of_ble_eq_true rfl, Nat.le_of_ble_eq_true rfl⟩) hno hlocks hE hS ⟨Nat.le_of_ble_eq_true rfl, Nat.le_of_ble_eq_true rfl⟩ (fun E9 h9 => (by rw [h9.1, exc_IA]; unfold fX6_amnesty; rw [if_neg h9.2] <;> rfl)) (fun g_e_1 q_e_1 H locs e_1 hP hS => ?_)
  have c_3 := e_1.1
  obtain ⟨-, h7, h8⟩ := e_1; rw [h7, h8] at hP
  refine lv_iload_n hx hb dX6_amnesty_8 rfl (lv_at hl 2 rfl) ?_
  refine lv_iload_n hx hb dX6_amnesty_9 rfl (lv_at hl 1 rfl) ?_
  refine lv_sipush (v := 5000) hx hb dX6_amnesty_10 (by decide) ?_
  refine sy_xkv (sy_xS (As := [.int x1, .int x0, .int 5000]) (rest := []) ⟨hx, hb, hml, hown, hts⟩ hE hP hS (mX6_needRange l hfl Z nT nK cT cK ad g q x1 x0 5000) (va_cwS 3 hts (gu_S uk_2_28 uk_2_29 uk_1_1 uk_2_30) rfl rfl rfl (by decide +kernel) ⟨Nat.le_of_ble_eq_true rfl, Nat.le_of_ble_eq_true rfl⟩) rfl hl.1 rfl (Nat.le_of_ble_eq_true rfl) dX6_amnesty_13 ⟨Nat.le_of_ble_eq_true rfl, Nat.le_of_ble_eq_true rfl⟩) hno hlocks hE hS ⟨Nat.le_of_ble_eq_true rfl, Nat.le_of_ble_eq_true rfl⟩ (fun E9 h9 => (by rw [h9.1, exc_IA]; unfold fX6_amnesty; rw [if_pos c_3, if_neg h9.2] <;> rfl)) (fun g_e_4 q_e_4 H locs e_4 hP hS => ?_)
  have c_6 := e_4.1
  obtain ⟨-, h7, h8⟩ := e_4; rw [h7, h8] at hP
  refine lv_aload_n hx hb dX6_amnesty_16 rfl (lv_at hl 0 rfl) ?_
  refine sy_getRX6 hx hb hts hown hE hP 60 rfl 6 (by decide) (hts _ (u_in uk_1_158)) (v := .ref (ad 67)) rfl dX6_amnesty_17 ?_
  refine sy_ki (sy_rV (o := 67) (As := []) (rest := []) ⟨hx, hb, hml, hown, hts⟩ hE hP hS (mX2_takesAmnesty l hfl Z nT nK cT cK ad g q hT) (cwV 0 hts (gu_V uk_2_236 uk_2_237 uk_2_238 uk_1_7 uk_2_239) rfl rfl rfl (by decide +kernel) ⟨Nat.le_of_ble_eq_true rfl, Nat.le_of_ble_eq_true rfl⟩) (sy_recv (kc := 3) hE hP rfl (by decide) rfl rfl rfl) rfl hl.1 rfl (Nat.le_of_ble_eq_true rfl) dX6_amnesty_20 ⟨Nat.le_of_ble_eq_true rfl, Nat.le_of_ble_eq_true rfl⟩) hS (fun r_e_7 g_e_7 q_e_7 H locs e_7 hP hS => ?_)
  cases e_7
  refine sy_xkv (sy_xS (As := [.int (fX2_takesAmnesty g q)]) (rest := []) ⟨hx, hb, hml, hown, hts⟩ hE hP hS (mX6_needState l hfl Z nT nK cT cK ad g q (fX2_takesAmnesty g q)) (va_cwS 1 hts (gu_S uk_2_50 uk_2_51 uk_1_1 uk_2_52) rfl rfl rfl (by decide +kernel) ⟨Nat.le_of_ble_eq_true rfl, Nat.le_of_ble_eq_true rfl⟩) rfl hl.1 rfl (Nat.le_of_ble_eq_true rfl) dX6_amnesty_23 ⟨Nat.le_of_ble_eq_true rfl, Nat.le_of_ble_eq_true rfl⟩) hno hlocks hE hS ⟨Nat.le_of_ble_eq_true rfl, Nat.le_of_ble_eq_true rfl⟩ (fun E9 h9 => (by rw [h9.1, exc_IS]; unfold fX6_amnesty; rw [if_pos c_3, if_pos c_6, if_neg h9.2] <;> rfl)) (fun g_e_8 q_e_8 H locs e_8 hP hS => ?_)
  have c_10 := e_8.1
  obtain ⟨-, h7, h8⟩ := e_8; rw [h7, h8] at hP
  refine lv_aload_n hx hb dX6_amnesty_26 rfl (lv_at hl 0 rfl) ?_
  refine sy_getRX6 hx hb hts hown hE hP 60 rfl 6 (by decide) (hts _ (u_in uk_1_158)) (v := .ref (ad 67)) rfl dX6_amnesty_27 ?_
  refine lv_iload_n hx hb dX6_amnesty_30 rfl (lv_at hl 1 rfl) ?_
  refine lv_iload_n hx hb dX6_amnesty_31 rfl (lv_at hl 2 rfl) ?_
  refine sy_kv (sy_rV (o := 67) (As := [.int x0, .int x1]) (rest := []) ⟨hx, hb, hml, hown, hts⟩ hE hP hS (mX2_addAmnesty l hfl Z nT nK cT cK ad g q x0 x1 hT hG) (cwV 2 hts (gu_V uk_3_0 uk_3_1 uk_3_2 uk_1_7 uk_3_3) rfl rfl rfl (by decide +kernel) ⟨Nat.le_of_ble_eq_true rfl, Nat.le_of_ble_eq_true rfl⟩) (sy_recv (kc := 3) hE hP rfl (by decide) rfl rfl rfl) rfl hl.1 rfl (Nat.le_of_ble_eq_true rfl) dX6_amnesty_32 ⟨Nat.le_of_ble_eq_true rfl, Nat.le_of_ble_eq_true rfl⟩) hS (fun g_e_11 q_e_11 H locs e_11 hP hS => ?_)
  cases e_11
  refine lv_aload_n hx hb dX6_amnesty_35 rfl (lv_at hl 0 rfl) ?_
  refine sy_getRX6 hx hb hts hown hE hP 60 rfl 6 (by decide) (hts _ (u_in uk_1_158)) (v := .ref (ad 67)) rfl dX6_amnesty_36 ?_
  refine sy_getRX2 hx hb hts hown hE hP 67 rfl 6 (by decide) (hts _ (u_in uk_1_111)) (v := .int ((fX2_addAmnesty g q x0 x1) 67 6)) rfl dX6_amnesty_39 ?_
  exact vx_ret (sy_ireti hx hb hr hlocks hE hP hS dX6_amnesty_42 ⟨Nat.le_of_ble_eq_true rfl, Nat.le_of_ble_eq_true rfl⟩ (by unfold fX6_amnesty; rw [if_pos c_3, if_pos c_6, if_pos c_10] <;> rfl))
def fX6_redeem (g : sG) (q : sQ) (x0 : Int32) (x1 : Int32) : Int32 × Int32 × sG × sQ := (if 0 ≤ x0 ∧ x0 < (g 62 2) then (if 0 ≤ x1 ∧ x1 < 10 then (if (g (200 + x0.toNatClampNeg) 7) = 0 then (if (fX4_isBarred g q x0.toNatClampNeg) = 0 then (if (g (200 + x0.toNatClampNeg) 6) = x1 then (if (fX3_canBeFound g q (tg q x0.toNatClampNeg)) = 0 then (3, 0, g, q) else (0, ((g (200 + x0.toNatClampNeg) 8) + (fX6_interestNow g q x0.toNatClampNeg)), (fX5_move (fX4_close g q x0.toNatClampNeg 1).1 (fX4_close g q x0.toNatClampNeg 1).2 ((g (200 + x0.toNatClampNeg) 8) + (fX6_interestNow g q x0.toNatClampNeg))), (fX4_close g q x0.toNatClampNeg 1).2)) else (3, 0, g, q)) else (3, 0, g, q)) else (3, 0, g, q)) else (1, 0, g, q)) else (1, 0, g, q))
set_option maxHeartbeats 4000000 in
set_option maxRecDepth 100000 in
theorem mX6_redeem (l : Launch) (hfl : l.stackTraces = false) (Z : sZ) (nT nK cT cK : Nat) (ad : Nat → Nat) (g : sG) (q : sQ) (x0 : Int32) (x1 : Int32) (hT : nT ≤ 100) (hG : IG nT nK cT cK g) (hQ : IQ nT nK q) : sXi l Z yX6_redeem (uW (.code yX6_redeem cX6_redeem 5 (some .int))) { frames := 8, cells := 4, slots := 24, locals := 123 } [.ref (ad 60), .int x0, .int x1] nT nK cT cK ad g q (fun r g1 q1 => (0, r, g1, q1) = fX6_redeem g q x0 x1) (fun E => exc E = (fX6_redeem g q x0 x1).1) := by
  refine vx_ofW (cc := cX6_redeem) (maxL := 5) (ret := (some .int)) (by decide) rfl ?_
  intro p e s m args below meth c s₁ B hml hno hv
  obtain ⟨rfl, hE, hP⟩ := hv
  have hx := B.exec
  have hb := B.bytes
  have hr := B.returns
  have hts := atoms_spec (ws := uW (.code yX6_redeem cX6_redeem 5 (some .int))) B.pre
  have hown : s.vm.findClass RX6 = some m.cls := findClass_of_methodNamed B.named
  have hlocks := B.notSynchronized
  have hS : va_S (sy_A Z) s.heap s.heap [] := va_S.rf
  have hl := lv_entry ([.ref (ad 60), .int x0, .int x1]) (n := 5) (Nat.le_of_ble_eq_true rfl)
  rw [lg_entry_eq]
  generalize (lg_sl ([.ref (ad 60), .int x0, .int x1]) ++ List.replicate (5 - (lg_sl ([.ref (ad 60), .int x0, .int x1])).length) Slot.unset).toArray = ls at hl ⊢
  have hl : lv_has ls 5 [(0, .ref (ad 60)), (1, .int x0), (2, .int x1)] := hl
  refine lv_aload_n hx hb dX6_redeem_0 rfl (lv_at hl 0 rfl) ?_
  refine lv_iload_n hx hb dX6_redeem_1 rfl (lv_at hl 1 rfl) ?_
  refine sy_xkr (sy_xV (o := 60) (As := [.int x0]) (rest := []) ⟨hx, hb, hml, hown, hts⟩ hE hP hS (mX6_ticketAt l hfl Z nT nK cT cK ad g q x0 hT hG hQ) (cwV 1 hts (gu_V uk_3_151 uk_3_153 uk_0_10 uk_1_1 uk_3_154) rfl rfl rfl (by decide +kernel) ⟨Nat.le_of_ble_eq_true rfl, Nat.le_of_ble_eq_true rfl⟩) (sy_recv (kc := 7) hE hP rfl (by decide) rfl rfl rfl) rfl hl.1 rfl (Nat.le_of_ble_eq_true rfl) dX6_redeem_2 ⟨Nat.le_of_ble_eq_true rfl, Nat.le_of_ble_eq_true rfl⟩) hno hlocks hE hS ⟨Nat.le_of_ble_eq_true rfl, Nat.le_of_ble_eq_true rfl⟩ (fun E9 h9 => (by rw [h9.1, exc_IO]; unfold fX6_redeem; rw [if_neg h9.2] <;> rfl)) (fun o_e_1 H locs e_1 hP hS => ?_)
  obtain ⟨c9, rfl⟩ := e_1
  have c_3 := c9
  refine lv_astore_n (lv' := [(3, .ref (ad (200 + x0.toNatClampNeg))), (0, .ref (ad 60)), (1, .int x0), (2, .int x1)]) hx hb dX6_redeem_5 rfl hl (by decide) rfl (fun ls hl => ?_)
  refine lv_iload_n hx hb dX6_redeem_6 rfl (lv_at hl 3 rfl) ?_
  refine lv_bipush (v := 10) hx hb dX6_redeem_7 (by decide) ?_
  refine sy_xkv (sy_xS (As := [.int x1, .int 10]) (rest := []) ⟨hx, hb, hml, hown, hts⟩ hE hP hS (mX6_needIndex l hfl Z nT nK cT cK ad g q x1 10) (va_cwS 2 hts (gu_S uk_1_202 uk_1_203 uk_1_1 uk_1_204) rfl rfl rfl (by decide +kernel) ⟨Nat.le_of_ble_eq_true rfl, Nat.le_of_ble_eq_true rfl⟩) rfl hl.1 rfl (Nat.le_of_ble_eq_true rfl) dX6_redeem_9 ⟨Nat.le_of_ble_eq_true rfl, Nat.le_of_ble_eq_true rfl⟩) hno hlocks hE hS ⟨Nat.le_of_ble_eq_true rfl, Nat.le_of_ble_eq_true rfl⟩ (fun E9 h9 => (by rw [h9.1, exc_IO]; unfold fX6_redeem; rw [if_pos c_3, if_neg h9.2] <;> rfl)) (fun g_e_4 q_e_4 H locs e_4 hP hS => ?_)
  have c_6 := e_4.1
  obtain ⟨-, h7, h8⟩ := e_4; rw [h7, h8] at hP
  refine lv_aload_n hx hb dX6_redeem_12 rfl (lv_at hl 0 rfl) ?_
  refine sy_getRX4 hx hb hts hown hE hP (200 + x0.toNatClampNeg) (sy_kdK (at_lt hG.2.2.2.1 (by have := hG.2.1; have := hG.2.2.2.2.1; omega) c_3)) 7 (by decide) (hts _ (u_in uk_3_83)) (v := .int (g (200 + x0.toNatClampNeg) 7)) rfl dX6_redeem_13 ?_
  refine lv_if_ne (tgt := 30) hx hb dX6_redeem_16 (by decide) (fun c_7 => ?_) (fun c_7 => ?_)
  · skip
    refine lv_iconst (v := 0) hx hb dX6_redeem_30 (by decide) ?_
    refine sy_xkv (sy_xS (As := [.int 0]) (rest := []) ⟨hx, hb, hml, hown, hts⟩ hE hP hS (mX6_needState l hfl Z nT nK cT cK ad g q 0) (va_cwS 1 hts (gu_S uk_2_50 uk_2_51 uk_1_1 uk_2_52) rfl rfl rfl (by decide +kernel) ⟨Nat.le_of_ble_eq_true rfl, Nat.le_of_ble_eq_true rfl⟩) rfl hl.1 rfl (Nat.le_of_ble_eq_true rfl) dX6_redeem_31 ⟨Nat.le_of_ble_eq_true rfl, Nat.le_of_ble_eq_true rfl⟩) hno hlocks hE hS ⟨Nat.le_of_ble_eq_true rfl, Nat.le_of_ble_eq_true rfl⟩ (fun E9 h9 => (by rw [h9.1, exc_IS]; unfold fX6_redeem; rw [if_pos c_3, if_pos c_6, if_neg c_7] <;> rfl)) (fun g_e_8 q_e_8 H locs e_8 hP hS => ?_)
    exact absurd rfl e_8.1
  · skip
    refine lv_aload_n hx hb dX6_redeem_19 rfl (lv_at hl 0 rfl) ?_
    refine sy_ki (sy_rV (o := (200 + x0.toNatClampNeg)) (As := []) (rest := []) ⟨hx, hb, hml, hown, hts⟩ hE hP hS (mX4_isBarred l hfl Z nT nK cT cK ad g q x0.toNatClampNeg hT (at_lt hG.2.2.2.1 (by have := hG.2.1; have := hG.2.2.2.2.1; omega) c_3) hQ) (cwV 0 hts (gu_V uk_4_155 uk_4_156 uk_4_157 uk_1_22 uk_4_158) rfl rfl rfl (by decide +kernel) ⟨Nat.le_of_ble_eq_true rfl, Nat.le_of_ble_eq_true rfl⟩) (sy_recv (kc := 5) hE hP (sy_kdK (at_lt hG.2.2.2.1 (by have := hG.2.1; have := hG.2.2.2.2.1; omega) c_3)) (by decide) rfl rfl rfl) rfl hl.1 rfl (Nat.le_of_ble_eq_true rfl) dX6_redeem_20 ⟨Nat.le_of_ble_eq_true rfl, Nat.le_of_ble_eq_true rfl⟩) hS (fun r_e_11 g_e_11 q_e_11 H locs e_11 hP hS => ?_)
    cases e_11
    refine lv_if_ne (tgt := 30) hx hb dX6_redeem_23 (by decide) (fun c_12 => ?_) (fun c_12 => ?_)
    · skip
      refine lv_iconst (v := 0) hx hb dX6_redeem_30 (by decide) ?_
      refine sy_xkv (sy_xS (As := [.int 0]) (rest := []) ⟨hx, hb, hml, hown, hts⟩ hE hP hS (mX6_needState l hfl Z nT nK cT cK ad g q 0) (va_cwS 1 hts (gu_S uk_2_50 uk_2_51 uk_1_1 uk_2_52) rfl rfl rfl (by decide +kernel) ⟨Nat.le_of_ble_eq_true rfl, Nat.le_of_ble_eq_true rfl⟩) rfl hl.1 rfl (Nat.le_of_ble_eq_true rfl) dX6_redeem_31 ⟨Nat.le_of_ble_eq_true rfl, Nat.le_of_ble_eq_true rfl⟩) hno hlocks hE hS ⟨Nat.le_of_ble_eq_true rfl, Nat.le_of_ble_eq_true rfl⟩ (fun E9 h9 => (by rw [h9.1, exc_IS]; unfold fX6_redeem; rw [if_pos c_3, if_pos c_6, if_pos c_7, if_neg c_12] <;> rfl)) (fun g_e_13 q_e_13 H locs e_13 hP hS => ?_)
      exact absurd rfl e_13.1
    · skip
      refine lv_iconst (v := 1) hx hb dX6_redeem_26 (by decide) ?_
      refine lv_goto (tgt := 31) hx hb dX6_redeem_27 (by decide) ?_
      refine sy_xkv (sy_xS (As := [.int 1]) (rest := []) ⟨hx, hb, hml, hown, hts⟩ hE hP hS (mX6_needState l hfl Z nT nK cT cK ad g q 1) (va_cwS 1 hts (gu_S uk_2_50 uk_2_51 uk_1_1 uk_2_52) rfl rfl rfl (by decide +kernel) ⟨Nat.le_of_ble_eq_true rfl, Nat.le_of_ble_eq_true rfl⟩) rfl hl.1 rfl (Nat.le_of_ble_eq_true rfl) dX6_redeem_31 ⟨Nat.le_of_ble_eq_true rfl, Nat.le_of_ble_eq_true rfl⟩) hno hlocks hE hS ⟨Nat.le_of_ble_eq_true rfl, Nat.le_of_ble_eq_true rfl⟩ (fun E9 h9 => (absurd (by decide) h9.2)) (fun g_e_16 q_e_16 H locs e_16 hP hS => ?_)
      obtain ⟨-, h7, h8⟩ := e_16; rw [h7, h8] at hP
      refine lv_aload_n hx hb dX6_redeem_34 rfl (lv_at hl 0 rfl) ?_
      refine sy_getRX4 hx hb hts hown hE hP (200 + x0.toNatClampNeg) (sy_kdK (at_lt hG.2.2.2.1 (by have := hG.2.1; have := hG.2.2.2.2.1; omega) c_3)) 6 (by decide) (hts _ (u_in uk_3_81)) (v := .int (g (200 + x0.toNatClampNeg) 6)) rfl dX6_redeem_35 ?_
      refine lv_iload_n hx hb dX6_redeem_38 rfl (lv_at hl 3 rfl) ?_
      refine lv_icmp_ne (tgt := 56) hx hb dX6_redeem_39 (by decide) (fun c_19 => ?_) (fun c_19 => ?_)
      · skip
        refine lv_iconst (v := 0) hx hb dX6_redeem_56 (by decide) ?_
        refine sy_xkv (sy_xS (As := [.int 0]) (rest := []) ⟨hx, hb, hml, hown, hts⟩ hE hP hS (mX6_needState l hfl Z nT nK cT cK ad g q 0) (va_cwS 1 hts (gu_S uk_2_50 uk_2_51 uk_1_1 uk_2_52) rfl rfl rfl (by decide +kernel) ⟨Nat.le_of_ble_eq_true rfl, Nat.le_of_ble_eq_true rfl⟩) rfl hl.1 rfl (Nat.le_of_ble_eq_true rfl) dX6_redeem_57 ⟨Nat.le_of_ble_eq_true rfl, Nat.le_of_ble_eq_true rfl⟩) hno hlocks hE hS ⟨Nat.le_of_ble_eq_true rfl, Nat.le_of_ble_eq_true rfl⟩ (fun E9 h9 => (by rw [h9.1, exc_IS]; unfold fX6_redeem; rw [if_pos c_3, if_pos c_6, if_pos c_7, if_pos c_12, if_neg c_19] <;> rfl)) (fun g_e_20 q_e_20 H locs e_20 hP hS => ?_)
        exact absurd rfl e_20.1
      · skip
        refine lv_aload_n hx hb dX6_redeem_42 rfl (lv_at hl 0 rfl) ?_
        refine sy_getRX4 hx hb hts hown hE hP (200 + x0.toNatClampNeg) (sy_kdK (at_lt hG.2.2.2.1 (by have := hG.2.1; have := hG.2.2.2.2.1; omega) c_3)) 1 (by decide) (hts _ (u_in uk_3_71)) (v := .ref (ad (100 + (tg q x0.toNatClampNeg)))) (by show some (sy_rv ad (q (200 + x0.toNatClampNeg) 1)) = _; rw [(iq_tg hQ (at_lt hG.2.2.2.1 (by have := hG.2.1; have := hG.2.2.2.2.1; omega) c_3)).1]; rfl) dX6_redeem_43 ?_
        refine sy_ki (sy_rV (o := (100 + (tg q x0.toNatClampNeg))) (As := []) (rest := []) ⟨hx, hb, hml, hown, hts⟩ hE hP hS (mX3_canBeFound l hfl Z nT nK cT cK ad g q (tg q x0.toNatClampNeg) hT (iq_tg hQ (at_lt hG.2.2.2.1 (by have := hG.2.1; have := hG.2.2.2.2.1; omega) c_3)).2) (cwV 0 hts (gu_V uk_3_221 uk_3_222 uk_3_223 uk_1_15 uk_3_224) rfl rfl rfl (by decide +kernel) ⟨Nat.le_of_ble_eq_true rfl, Nat.le_of_ble_eq_true rfl⟩) (sy_recv (kc := 4) hE hP (sy_kdT (iq_tg hQ (at_lt hG.2.2.2.1 (by have := hG.2.1; have := hG.2.2.2.2.1; omega) c_3)).2 hT) (by decide) rfl rfl rfl) rfl hl.1 rfl (Nat.le_of_ble_eq_true rfl) dX6_redeem_46 ⟨Nat.le_of_ble_eq_true rfl, Nat.le_of_ble_eq_true rfl⟩) hS (fun r_e_23 g_e_23 q_e_23 H locs e_23 hP hS => ?_)
        cases e_23
        refine lv_if_eq (tgt := 56) hx hb dX6_redeem_49 (by decide) (fun c_24 => ?_) (fun c_24 => ?_)
        · skip
          refine lv_iconst (v := 0) hx hb dX6_redeem_56 (by decide) ?_
          refine sy_xkv (sy_xS (As := [.int 0]) (rest := []) ⟨hx, hb, hml, hown, hts⟩ hE hP hS (mX6_needState l hfl Z nT nK cT cK ad g q 0) (va_cwS 1 hts (gu_S uk_2_50 uk_2_51 uk_1_1 uk_2_52) rfl rfl rfl (by decide +kernel) ⟨Nat.le_of_ble_eq_true rfl, Nat.le_of_ble_eq_true rfl⟩) rfl hl.1 rfl (Nat.le_of_ble_eq_true rfl) dX6_redeem_57 ⟨Nat.le_of_ble_eq_true rfl, Nat.le_of_ble_eq_true rfl⟩) hno hlocks hE hS ⟨Nat.le_of_ble_eq_true rfl, Nat.le_of_ble_eq_true rfl⟩ (fun E9 h9 => (by rw [h9.1, exc_IS]; unfold fX6_redeem; rw [if_pos c_3, if_pos c_6, if_pos c_7, if_pos c_12, if_pos c_19, if_pos c_24] <;> rfl)) (fun g_e_25 q_e_25 H locs e_25 hP hS => ?_)
          exact absurd rfl e_25.1
        · skip
          refine lv_iconst (v := 1) hx hb dX6_redeem_52 (by decide) ?_
          refine lv_goto (tgt := 57) hx hb dX6_redeem_53 (by decide) ?_
          refine sy_xkv (sy_xS (As := [.int 1]) (rest := []) ⟨hx, hb, hml, hown, hts⟩ hE hP hS (mX6_needState l hfl Z nT nK cT cK ad g q 1) (va_cwS 1 hts (gu_S uk_2_50 uk_2_51 uk_1_1 uk_2_52) rfl rfl rfl (by decide +kernel) ⟨Nat.le_of_ble_eq_true rfl, Nat.le_of_ble_eq_true rfl⟩) rfl hl.1 rfl (Nat.le_of_ble_eq_true rfl) dX6_redeem_57 ⟨Nat.le_of_ble_eq_true rfl, Nat.le_of_ble_eq_true rfl⟩) hno hlocks hE hS ⟨Nat.le_of_ble_eq_true rfl, Nat.le_of_ble_eq_true rfl⟩ (fun E9 h9 => (absurd (by decide) h9.2)) (fun g_e_28 q_e_28 H locs e_28 hP hS => ?_)
          obtain ⟨-, h7, h8⟩ := e_28; rw [h7, h8] at hP
          refine lv_aload_n hx hb dX6_redeem_60 rfl (lv_at hl 0 rfl) ?_
          refine sy_getRX4 hx hb hts hown hE hP (200 + x0.toNatClampNeg) (sy_kdK (at_lt hG.2.2.2.1 (by have := hG.2.1; have := hG.2.2.2.2.1; omega) c_3)) 8 (by decide) (hts _ (u_in uk_3_85)) (v := .int (g (200 + x0.toNatClampNeg) 8)) rfl dX6_redeem_61 ?_
          refine lv_aload_n hx hb dX6_redeem_64 rfl (lv_at hl 1 rfl) ?_
          refine lv_aload_n hx hb dX6_redeem_65 rfl (lv_at hl 0 rfl) ?_
          refine sy_ki (sy_rV (o := 60) (As := [.ref (ad (200 + x0.toNatClampNeg))]) (rest := [.int (g (200 + x0.toNatClampNeg) 8)]) ⟨hx, hb, hml, hown, hts⟩ hE hP hS (mX6_interestNow l hfl Z nT nK cT cK ad g q x0.toNatClampNeg hT hG hQ (at_lt hG.2.2.2.1 (by have := hG.2.1; have := hG.2.2.2.2.1; omega) c_3)) (cwV 1 hts (gu_V uk_4_60 uk_4_62 uk_0_15 uk_1_1 uk_4_63) rfl rfl rfl (by decide +kernel) ⟨Nat.le_of_ble_eq_true rfl, Nat.le_of_ble_eq_true rfl⟩) (sy_recv (kc := 7) hE hP rfl (by decide) rfl rfl rfl) rfl hl.1 rfl (Nat.le_of_ble_eq_true rfl) dX6_redeem_66 ⟨Nat.le_of_ble_eq_true rfl, Nat.le_of_ble_eq_true rfl⟩) hS (fun r_e_31 g_e_31 q_e_31 H locs e_31 hP hS => ?_)
          cases e_31
          refine lv_iadd hx hb dX6_redeem_69 ?_
          refine lv_istore (lv' := [(4, .int ((g (200 + x0.toNatClampNeg) 8) + (fX6_interestNow g q x0.toNatClampNeg))), (3, .ref (ad (200 + x0.toNatClampNeg))), (0, .ref (ad 60)), (1, .int x0), (2, .int x1)]) hx hb dX6_redeem_70 hl (by decide) rfl (fun ls hl => ?_)
          refine lv_aload_n hx hb dX6_redeem_72 rfl (lv_at hl 1 rfl) ?_
          refine lv_iconst (v := 1) hx hb dX6_redeem_73 (by decide) ?_
          refine sy_kv (sy_rV (o := (200 + x0.toNatClampNeg)) (As := [.int 1]) (rest := []) ⟨hx, hb, hml, hown, hts⟩ hE hP hS (mX4_close l hfl Z nT nK cT cK ad g q x0.toNatClampNeg 1 hT (at_lt hG.2.2.2.1 (by have := hG.2.1; have := hG.2.2.2.2.1; omega) c_3) hQ) (cwV 1 hts (gu_V uk_3_195 uk_3_196 uk_3_197 uk_1_22 uk_3_198) rfl rfl rfl (by decide +kernel) ⟨Nat.le_of_ble_eq_true rfl, Nat.le_of_ble_eq_true rfl⟩) (sy_recv (kc := 5) hE hP (sy_kdK (at_lt hG.2.2.2.1 (by have := hG.2.1; have := hG.2.2.2.2.1; omega) c_3)) (by decide) rfl rfl rfl) rfl hl.1 rfl (Nat.le_of_ble_eq_true rfl) dX6_redeem_74 ⟨Nat.le_of_ble_eq_true rfl, Nat.le_of_ble_eq_true rfl⟩) hS (fun g_e_32 q_e_32 H locs e_32 hP hS => ?_)
          obtain ⟨rfl, rfl⟩ : g_e_32 = (fX4_close g q x0.toNatClampNeg 1).1 ∧ q_e_32 = (fX4_close g q x0.toNatClampNeg 1).2 := by rw [← e_32]; exact ⟨rfl, rfl⟩
          refine lv_aload_n hx hb dX6_redeem_77 rfl (lv_at hl 2 rfl) ?_
          refine sy_getRX6 hx hb hts hown hE hP 60 rfl 7 (by decide) (hts _ (u_in uk_1_159)) (v := .ref (ad 68)) rfl dX6_redeem_78 ?_
          refine lv_iload hx hb dX6_redeem_81 (lv_at hl 0 rfl) ?_
          refine sy_kv (sy_rV (o := 68) (As := [.int ((g (200 + x0.toNatClampNeg) 8) + (fX6_interestNow g q x0.toNatClampNeg))]) (rest := []) ⟨hx, hb, hml, hown, hts⟩ hE hP hS (mX5_move l hfl Z nT nK cT cK ad (fX4_close g q x0.toNatClampNeg 1).1 (fX4_close g q x0.toNatClampNeg 1).2 ((g (200 + x0.toNatClampNeg) 8) + (fX6_interestNow g q x0.toNatClampNeg)) hT (mv_close (ig_mv hG))) (cwV 1 hts (gu_V uk_3_140 uk_3_141 uk_3_142 uk_1_8 uk_3_143) rfl rfl rfl (by decide +kernel) ⟨Nat.le_of_ble_eq_true rfl, Nat.le_of_ble_eq_true rfl⟩) (sy_recv (kc := 6) hE hP rfl (by decide) rfl rfl rfl) rfl hl.1 rfl (Nat.le_of_ble_eq_true rfl) dX6_redeem_83 ⟨Nat.le_of_ble_eq_true rfl, Nat.le_of_ble_eq_true rfl⟩) hS (fun g_e_33 q_e_33 H locs e_33 hP hS => ?_)
          cases e_33
          refine lv_iload hx hb dX6_redeem_86 (lv_at hl 0 rfl) ?_
          exact vx_ret (sy_ireti hx hb hr hlocks hE hP hS dX6_redeem_88 ⟨Nat.le_of_ble_eq_true rfl, Nat.le_of_ble_eq_true rfl⟩ (by unfold fX6_redeem; rw [if_pos c_3, if_pos c_6, if_pos c_7, if_pos c_12, if_pos c_19, if_neg c_24] <;> rfl))
def fX6_renew (g : sG) (q : sQ) (x0 : Int32) (x1 : Int32) (x2 : Int32) : Int32 × Int32 × sG × sQ := (if 0 ≤ x0 ∧ x0 < (g 62 2) then (if 0 ≤ x1 ∧ x1 < 10 then (if 0 ≤ x2 ∧ x2 ≤ ((g (200 + x0.toNatClampNeg) 8) - 1) then (if (g (200 + x0.toNatClampNeg) 7) = 0 then (if (fX4_isBarred g q x0.toNatClampNeg) = 0 then (if (g (200 + x0.toNatClampNeg) 6) = x1 then (0, ((fX6_interestNow g q x0.toNatClampNeg) + x2), (fX5_move (fX4_begin (sy_up g (200 + x0.toNatClampNeg) 8 ((g (200 + x0.toNatClampNeg) 8) - x2)) q x0.toNatClampNeg ((sy_up g (200 + x0.toNatClampNeg) 8 ((g (200 + x0.toNatClampNeg) 8) - x2)) 60 9) ((sy_up g (200 + x0.toNatClampNeg) 8 ((g (200 + x0.toNatClampNeg) 8) - x2)) 60 8)) q ((fX6_interestNow g q x0.toNatClampNeg) + x2)), q) else (3, 0, g, q)) else (3, 0, g, q)) else (3, 0, g, q)) else (2, 0, g, q)) else (1, 0, g, q)) else (1, 0, g, q))
set_option maxHeartbeats 4000000 in
set_option maxRecDepth 100000 in
theorem mX6_renew (l : Launch) (hfl : l.stackTraces = false) (Z : sZ) (nT nK cT cK : Nat) (ad : Nat → Nat) (g : sG) (q : sQ) (x0 : Int32) (x1 : Int32) (x2 : Int32) (hT : nT ≤ 100) (hG : IG nT nK cT cK g) (hQ : IQ nT nK q) : sXi l Z yX6_renew (uW (.code yX6_renew cX6_renew 6 (some .int))) { frames := 8, cells := 4, slots := 24, locals := 123 } [.ref (ad 60), .int x0, .int x1, .int x2] nT nK cT cK ad g q (fun r g1 q1 => (0, r, g1, q1) = fX6_renew g q x0 x1 x2) (fun E => exc E = (fX6_renew g q x0 x1 x2).1) := by
  refine vx_ofW (cc := cX6_renew) (maxL := 6) (ret := (some .int)) (by decide) rfl ?_
  intro p e s m args below meth c s₁ B hml hno hv
  obtain ⟨rfl, hE, hP⟩ := hv
  have hx := B.exec
  have hb := B.bytes
  have hr := B.returns
  have hts := atoms_spec (ws := uW (.code yX6_renew cX6_renew 6 (some .int))) B.pre
  have hown : s.vm.findClass RX6 = some m.cls := findClass_of_methodNamed B.named
  have hlocks := B.notSynchronized
  have hS : va_S (sy_A Z) s.heap s.heap [] := va_S.rf
  have hl := lv_entry ([.ref (ad 60), .int x0, .int x1, .int x2]) (n := 6) (Nat.le_of_ble_eq_true rfl)
  rw [lg_entry_eq]
  generalize (lg_sl ([.ref (ad 60), .int x0, .int x1, .int x2]) ++ List.replicate (6 - (lg_sl ([.ref (ad 60), .int x0, .int x1, .int x2])).length) Slot.unset).toArray = ls at hl ⊢
  have hl : lv_has ls 6 [(0, .ref (ad 60)), (1, .int x0), (2, .int x1), (3, .int x2)] := hl
  refine lv_aload_n hx hb dX6_renew_0 rfl (lv_at hl 0 rfl) ?_
  refine lv_iload_n hx hb dX6_renew_1 rfl (lv_at hl 1 rfl) ?_
  refine sy_xkr (sy_xV (o := 60) (As := [.int x0]) (rest := []) ⟨hx, hb, hml, hown, hts⟩ hE hP hS (mX6_ticketAt l hfl Z nT nK cT cK ad g q x0 hT hG hQ) (cwV 1 hts (gu_V uk_3_151 uk_3_153 uk_0_10 uk_1_1 uk_3_154) rfl rfl rfl (by decide +kernel) ⟨Nat.le_of_ble_eq_true rfl, Nat.le_of_ble_eq_true rfl⟩) (sy_recv (kc := 7) hE hP rfl (by decide) rfl rfl rfl) rfl hl.1 rfl (Nat.le_of_ble_eq_true rfl) dX6_renew_2 ⟨Nat.le_of_ble_eq_true rfl, Nat.le_of_ble_eq_true rfl⟩) hno hlocks hE hS ⟨Nat.le_of_ble_eq_true rfl, Nat.le_of_ble_eq_true rfl⟩ (fun E9 h9 => (by rw [h9.1, exc_IO]; unfold fX6_renew; rw [if_neg h9.2] <;> rfl)) (fun o_e_1 H locs e_1 hP hS => ?_)
  obtain ⟨c9, rfl⟩ := e_1
  have c_3 := c9
  refine lv_astore (lv' := [(4, .ref (ad (200 + x0.toNatClampNeg))), (0, .ref (ad 60)), (1, .int x0), (2, .int x1), (3, .int x2)]) hx hb dX6_renew_5 hl (by decide) rfl (fun ls hl => ?_)
  refine lv_iload_n hx hb dX6_renew_7 rfl (lv_at hl 3 rfl) ?_
  refine lv_bipush (v := 10) hx hb dX6_renew_8 (by decide) ?_
  refine sy_xkv (sy_xS (As := [.int x1, .int 10]) (rest := []) ⟨hx, hb, hml, hown, hts⟩ hE hP hS (mX6_needIndex l hfl Z nT nK cT cK ad g q x1 10) (va_cwS 2 hts (gu_S uk_1_202 uk_1_203 uk_1_1 uk_1_204) rfl rfl rfl (by decide +kernel) ⟨Nat.le_of_ble_eq_true rfl, Nat.le_of_ble_eq_true rfl⟩) rfl hl.1 rfl (Nat.le_of_ble_eq_true rfl) dX6_renew_10 ⟨Nat.le_of_ble_eq_true rfl, Nat.le_of_ble_eq_true rfl⟩) hno hlocks hE hS ⟨Nat.le_of_ble_eq_true rfl, Nat.le_of_ble_eq_true rfl⟩ (fun E9 h9 => (by rw [h9.1, exc_IO]; unfold fX6_renew; rw [if_pos c_3, if_neg h9.2] <;> rfl)) (fun g_e_4 q_e_4 H locs e_4 hP hS => ?_)
  have c_6 := e_4.1
  obtain ⟨-, h7, h8⟩ := e_4; rw [h7, h8] at hP
  refine lv_iload_n hx hb dX6_renew_13 rfl (lv_at hl 4 rfl) ?_
  refine lv_iconst (v := 0) hx hb dX6_renew_14 (by decide) ?_
  refine lv_aload hx hb dX6_renew_15 (lv_at hl 0 rfl) ?_
  refine sy_getRX4 hx hb hts hown hE hP (200 + x0.toNatClampNeg) (sy_kdK (at_lt hG.2.2.2.1 (by have := hG.2.1; have := hG.2.2.2.2.1; omega) c_3)) 8 (by decide) (hts _ (u_in uk_3_85)) (v := .int (g (200 + x0.toNatClampNeg) 8)) rfl dX6_renew_17 ?_
  refine lv_iconst (v := 1) hx hb dX6_renew_20 (by decide) ?_
  refine lv_isub hx hb dX6_renew_21 ?_
  refine sy_xkv (sy_xS (As := [.int x2, .int 0, .int ((g (200 + x0.toNatClampNeg) 8) - 1)]) (rest := []) ⟨hx, hb, hml, hown, hts⟩ hE hP hS (mX6_needRange l hfl Z nT nK cT cK ad g q x2 0 ((g (200 + x0.toNatClampNeg) 8) - 1)) (va_cwS 3 hts (gu_S uk_2_28 uk_2_29 uk_1_1 uk_2_30) rfl rfl rfl (by decide +kernel) ⟨Nat.le_of_ble_eq_true rfl, Nat.le_of_ble_eq_true rfl⟩) rfl hl.1 rfl (Nat.le_of_ble_eq_true rfl) dX6_renew_22 ⟨Nat.le_of_ble_eq_true rfl, Nat.le_of_ble_eq_true rfl⟩) hno hlocks hE hS ⟨Nat.le_of_ble_eq_true rfl, Nat.le_of_ble_eq_true rfl⟩ (fun E9 h9 => (by rw [h9.1, exc_IA]; unfold fX6_renew; rw [if_pos c_3, if_pos c_6, if_neg h9.2] <;> rfl)) (fun g_e_7 q_e_7 H locs e_7 hP hS => ?_)
  have c_9 := e_7.1
  obtain ⟨-, h7, h8⟩ := e_7; rw [h7, h8] at hP
  refine lv_aload hx hb dX6_renew_25 (lv_at hl 0 rfl) ?_
  refine sy_getRX4 hx hb hts hown hE hP (200 + x0.toNatClampNeg) (sy_kdK (at_lt hG.2.2.2.1 (by have := hG.2.1; have := hG.2.2.2.2.1; omega) c_3)) 7 (by decide) (hts _ (u_in uk_3_83)) (v := .int (g (200 + x0.toNatClampNeg) 7)) rfl dX6_renew_27 ?_
  refine lv_if_ne (tgt := 54) hx hb dX6_renew_30 (by decide) (fun c_10 => ?_) (fun c_10 => ?_)
  · skip
    refine lv_iconst (v := 0) hx hb dX6_renew_54 (by decide) ?_
    refine sy_xkv (sy_xS (As := [.int 0]) (rest := []) ⟨hx, hb, hml, hown, hts⟩ hE hP hS (mX6_needState l hfl Z nT nK cT cK ad g q 0) (va_cwS 1 hts (gu_S uk_2_50 uk_2_51 uk_1_1 uk_2_52) rfl rfl rfl (by decide +kernel) ⟨Nat.le_of_ble_eq_true rfl, Nat.le_of_ble_eq_true rfl⟩) rfl hl.1 rfl (Nat.le_of_ble_eq_true rfl) dX6_renew_55 ⟨Nat.le_of_ble_eq_true rfl, Nat.le_of_ble_eq_true rfl⟩) hno hlocks hE hS ⟨Nat.le_of_ble_eq_true rfl, Nat.le_of_ble_eq_true rfl⟩ (fun E9 h9 => (by rw [h9.1, exc_IS]; unfold fX6_renew; rw [if_pos c_3, if_pos c_6, if_pos c_9, if_neg c_10] <;> rfl)) (fun g_e_11 q_e_11 H locs e_11 hP hS => ?_)
    exact absurd rfl e_11.1
  · skip
    refine lv_aload hx hb dX6_renew_33 (lv_at hl 0 rfl) ?_
    refine sy_ki (sy_rV (o := (200 + x0.toNatClampNeg)) (As := []) (rest := []) ⟨hx, hb, hml, hown, hts⟩ hE hP hS (mX4_isBarred l hfl Z nT nK cT cK ad g q x0.toNatClampNeg hT (at_lt hG.2.2.2.1 (by have := hG.2.1; have := hG.2.2.2.2.1; omega) c_3) hQ) (cwV 0 hts (gu_V uk_4_155 uk_4_156 uk_4_157 uk_1_22 uk_4_158) rfl rfl rfl (by decide +kernel) ⟨Nat.le_of_ble_eq_true rfl, Nat.le_of_ble_eq_true rfl⟩) (sy_recv (kc := 5) hE hP (sy_kdK (at_lt hG.2.2.2.1 (by have := hG.2.1; have := hG.2.2.2.2.1; omega) c_3)) (by decide) rfl rfl rfl) rfl hl.1 rfl (Nat.le_of_ble_eq_true rfl) dX6_renew_35 ⟨Nat.le_of_ble_eq_true rfl, Nat.le_of_ble_eq_true rfl⟩) hS (fun r_e_14 g_e_14 q_e_14 H locs e_14 hP hS => ?_)
    cases e_14
    refine lv_if_ne (tgt := 54) hx hb dX6_renew_38 (by decide) (fun c_15 => ?_) (fun c_15 => ?_)
    · skip
      refine lv_iconst (v := 0) hx hb dX6_renew_54 (by decide) ?_
      refine sy_xkv (sy_xS (As := [.int 0]) (rest := []) ⟨hx, hb, hml, hown, hts⟩ hE hP hS (mX6_needState l hfl Z nT nK cT cK ad g q 0) (va_cwS 1 hts (gu_S uk_2_50 uk_2_51 uk_1_1 uk_2_52) rfl rfl rfl (by decide +kernel) ⟨Nat.le_of_ble_eq_true rfl, Nat.le_of_ble_eq_true rfl⟩) rfl hl.1 rfl (Nat.le_of_ble_eq_true rfl) dX6_renew_55 ⟨Nat.le_of_ble_eq_true rfl, Nat.le_of_ble_eq_true rfl⟩) hno hlocks hE hS ⟨Nat.le_of_ble_eq_true rfl, Nat.le_of_ble_eq_true rfl⟩ (fun E9 h9 => (by rw [h9.1, exc_IS]; unfold fX6_renew; rw [if_pos c_3, if_pos c_6, if_pos c_9, if_pos c_10, if_neg c_15] <;> rfl)) (fun g_e_16 q_e_16 H locs e_16 hP hS => ?_)
      exact absurd rfl e_16.1
    · skip
      refine lv_aload hx hb dX6_renew_41 (lv_at hl 0 rfl) ?_
      refine sy_getRX4 hx hb hts hown hE hP (200 + x0.toNatClampNeg) (sy_kdK (at_lt hG.2.2.2.1 (by have := hG.2.1; have := hG.2.2.2.2.1; omega) c_3)) 6 (by decide) (hts _ (u_in uk_3_81)) (v := .int (g (200 + x0.toNatClampNeg) 6)) rfl dX6_renew_43 ?_
      refine lv_iload_n hx hb dX6_renew_46 rfl (lv_at hl 3 rfl) ?_
      refine lv_icmp_ne (tgt := 54) hx hb dX6_renew_47 (by decide) (fun c_19 => ?_) (fun c_19 => ?_)
      · skip
        refine lv_iconst (v := 0) hx hb dX6_renew_54 (by decide) ?_
        refine sy_xkv (sy_xS (As := [.int 0]) (rest := []) ⟨hx, hb, hml, hown, hts⟩ hE hP hS (mX6_needState l hfl Z nT nK cT cK ad g q 0) (va_cwS 1 hts (gu_S uk_2_50 uk_2_51 uk_1_1 uk_2_52) rfl rfl rfl (by decide +kernel) ⟨Nat.le_of_ble_eq_true rfl, Nat.le_of_ble_eq_true rfl⟩) rfl hl.1 rfl (Nat.le_of_ble_eq_true rfl) dX6_renew_55 ⟨Nat.le_of_ble_eq_true rfl, Nat.le_of_ble_eq_true rfl⟩) hno hlocks hE hS ⟨Nat.le_of_ble_eq_true rfl, Nat.le_of_ble_eq_true rfl⟩ (fun E9 h9 => (by rw [h9.1, exc_IS]; unfold fX6_renew; rw [if_pos c_3, if_pos c_6, if_pos c_9, if_pos c_10, if_pos c_15, if_neg c_19] <;> rfl)) (fun g_e_20 q_e_20 H locs e_20 hP hS => ?_)
        exact absurd rfl e_20.1
      · skip
        refine lv_iconst (v := 1) hx hb dX6_renew_50 (by decide) ?_
        refine lv_goto (tgt := 55) hx hb dX6_renew_51 (by decide) ?_
        refine sy_xkv (sy_xS (As := [.int 1]) (rest := []) ⟨hx, hb, hml, hown, hts⟩ hE hP hS (mX6_needState l hfl Z nT nK cT cK ad g q 1) (va_cwS 1 hts (gu_S uk_2_50 uk_2_51 uk_1_1 uk_2_52) rfl rfl rfl (by decide +kernel) ⟨Nat.le_of_ble_eq_true rfl, Nat.le_of_ble_eq_true rfl⟩) rfl hl.1 rfl (Nat.le_of_ble_eq_true rfl) dX6_renew_55 ⟨Nat.le_of_ble_eq_true rfl, Nat.le_of_ble_eq_true rfl⟩) hno hlocks hE hS ⟨Nat.le_of_ble_eq_true rfl, Nat.le_of_ble_eq_true rfl⟩ (fun E9 h9 => (absurd (by decide) h9.2)) (fun g_e_23 q_e_23 H locs e_23 hP hS => ?_)
        obtain ⟨-, h7, h8⟩ := e_23; rw [h7, h8] at hP
        refine lv_aload_n hx hb dX6_renew_58 rfl (lv_at hl 1 rfl) ?_
        refine lv_aload hx hb dX6_renew_59 (lv_at hl 0 rfl) ?_
        refine sy_ki (sy_rV (o := 60) (As := [.ref (ad (200 + x0.toNatClampNeg))]) (rest := []) ⟨hx, hb, hml, hown, hts⟩ hE hP hS (mX6_interestNow l hfl Z nT nK cT cK ad g q x0.toNatClampNeg hT hG hQ (at_lt hG.2.2.2.1 (by have := hG.2.1; have := hG.2.2.2.2.1; omega) c_3)) (cwV 1 hts (gu_V uk_4_60 uk_4_62 uk_0_15 uk_1_1 uk_4_63) rfl rfl rfl (by decide +kernel) ⟨Nat.le_of_ble_eq_true rfl, Nat.le_of_ble_eq_true rfl⟩) (sy_recv (kc := 7) hE hP rfl (by decide) rfl rfl rfl) rfl hl.1 rfl (Nat.le_of_ble_eq_true rfl) dX6_renew_61 ⟨Nat.le_of_ble_eq_true rfl, Nat.le_of_ble_eq_true rfl⟩) hS (fun r_e_26 g_e_26 q_e_26 H locs e_26 hP hS => ?_)
        cases e_26
        refine lv_iload_n hx hb dX6_renew_64 rfl (lv_at hl 4 rfl) ?_
        refine lv_iadd hx hb dX6_renew_65 ?_
        refine lv_istore (lv' := [(5, .int ((fX6_interestNow g q x0.toNatClampNeg) + x2)), (4, .ref (ad (200 + x0.toNatClampNeg))), (0, .ref (ad 60)), (1, .int x0), (2, .int x1), (3, .int x2)]) hx hb dX6_renew_66 hl (by decide) rfl (fun ls hl => ?_)
        refine lv_aload hx hb dX6_renew_68 (lv_at hl 1 rfl) ?_
        refine lv_dup hx hb dX6_renew_70 rfl ?_
        refine sy_getRX4 hx hb hts hown hE hP (200 + x0.toNatClampNeg) (sy_kdK (at_lt hG.2.2.2.1 (by have := hG.2.1; have := hG.2.2.2.2.1; omega) c_3)) 8 (by decide) (hts _ (u_in uk_3_85)) (v := .int (g (200 + x0.toNatClampNeg) 8)) rfl dX6_renew_71 ?_
        refine lv_iload_n hx hb dX6_renew_74 rfl (lv_at hl 5 rfl) ?_
        refine lv_isub hx hb dX6_renew_75 ?_
        refine sy_putRX4 hx hb hts hown hE hP hS (200 + x0.toNatClampNeg) (sy_kdK (at_lt hG.2.2.2.1 (by have := hG.2.1; have := hG.2.2.2.2.1; omega) c_3)) 8 (by decide) (hts _ (u_in uk_3_85)) rfl (ty := .int) (by decide +kernel) rfl rfl (sy_up g (200 + x0.toNatClampNeg) 8 ((g (200 + x0.toNatClampNeg) 8) - x2)) q (by rw [sy_up_s g (200 + x0.toNatClampNeg) 8 ((g (200 + x0.toNatClampNeg) 8) - x2)]; exact se_RX4_8 _ _ _ _ _ _ _) (fun _ h9 => sy_up_o _ _ _ h9) (fun _ _ => rfl) dX6_renew_76 (fun H locs hP hS => ?_)
        refine lv_aload hx hb dX6_renew_79 (lv_at hl 1 rfl) ?_
        refine lv_aload_n hx hb dX6_renew_81 rfl (lv_at hl 2 rfl) ?_
        refine sy_getRX6 hx hb hts hown hE hP 60 rfl 9 (by decide) (hts _ (u_in uk_1_161)) (v := .int ((sy_up g (200 + x0.toNatClampNeg) 8 ((g (200 + x0.toNatClampNeg) 8) - x2)) 60 9)) rfl dX6_renew_82 ?_
        refine lv_aload_n hx hb dX6_renew_85 rfl (lv_at hl 2 rfl) ?_
        refine sy_getRX6 hx hb hts hown hE hP 60 rfl 8 (by decide) (hts _ (u_in uk_1_160)) (v := .int ((sy_up g (200 + x0.toNatClampNeg) 8 ((g (200 + x0.toNatClampNeg) 8) - x2)) 60 8)) rfl dX6_renew_86 ?_
        refine sy_kv (sy_rV (o := (200 + x0.toNatClampNeg)) (As := [.int ((sy_up g (200 + x0.toNatClampNeg) 8 ((g (200 + x0.toNatClampNeg) 8) - x2)) 60 9), .int ((sy_up g (200 + x0.toNatClampNeg) 8 ((g (200 + x0.toNatClampNeg) 8) - x2)) 60 8)]) (rest := []) ⟨hx, hb, hml, hown, hts⟩ hE hP hS (mX4_begin l hfl Z nT nK cT cK ad (sy_up g (200 + x0.toNatClampNeg) 8 ((g (200 + x0.toNatClampNeg) 8) - x2)) q x0.toNatClampNeg ((sy_up g (200 + x0.toNatClampNeg) 8 ((g (200 + x0.toNatClampNeg) 8) - x2)) 60 9) ((sy_up g (200 + x0.toNatClampNeg) 8 ((g (200 + x0.toNatClampNeg) 8) - x2)) 60 8) hT (at_lt hG.2.2.2.1 (by have := hG.2.1; have := hG.2.2.2.2.1; omega) c_3)) (cwV 2 hts (gu_V uk_3_132 uk_3_133 uk_3_134 uk_1_22 uk_3_135) rfl rfl rfl (by decide +kernel) ⟨Nat.le_of_ble_eq_true rfl, Nat.le_of_ble_eq_true rfl⟩) (sy_recv (kc := 5) hE hP (sy_kdK (at_lt hG.2.2.2.1 (by have := hG.2.1; have := hG.2.2.2.2.1; omega) c_3)) (by decide) rfl rfl rfl) rfl hl.1 rfl (Nat.le_of_ble_eq_true rfl) dX6_renew_89 ⟨Nat.le_of_ble_eq_true rfl, Nat.le_of_ble_eq_true rfl⟩) hS (fun g_e_27 q_e_27 H locs e_27 hP hS => ?_)
        cases e_27
        refine lv_aload_n hx hb dX6_renew_92 rfl (lv_at hl 2 rfl) ?_
        refine sy_getRX6 hx hb hts hown hE hP 60 rfl 7 (by decide) (hts _ (u_in uk_1_159)) (v := .ref (ad 68)) rfl dX6_renew_93 ?_
        refine lv_iload hx hb dX6_renew_96 (lv_at hl 0 rfl) ?_
        refine sy_kv (sy_rV (o := 68) (As := [.int ((fX6_interestNow g q x0.toNatClampNeg) + x2)]) (rest := []) ⟨hx, hb, hml, hown, hts⟩ hE hP hS (mX5_move l hfl Z nT nK cT cK ad (fX4_begin (sy_up g (200 + x0.toNatClampNeg) 8 ((g (200 + x0.toNatClampNeg) 8) - x2)) q x0.toNatClampNeg ((sy_up g (200 + x0.toNatClampNeg) 8 ((g (200 + x0.toNatClampNeg) 8) - x2)) 60 9) ((sy_up g (200 + x0.toNatClampNeg) 8 ((g (200 + x0.toNatClampNeg) 8) - x2)) 60 8)) q ((fX6_interestNow g q x0.toNatClampNeg) + x2) hT (mv_begin (mv_a (by omega) (ig_mv hG)))) (cwV 1 hts (gu_V uk_3_140 uk_3_141 uk_3_142 uk_1_8 uk_3_143) rfl rfl rfl (by decide +kernel) ⟨Nat.le_of_ble_eq_true rfl, Nat.le_of_ble_eq_true rfl⟩) (sy_recv (kc := 6) hE hP rfl (by decide) rfl rfl rfl) rfl hl.1 rfl (Nat.le_of_ble_eq_true rfl) dX6_renew_98 ⟨Nat.le_of_ble_eq_true rfl, Nat.le_of_ble_eq_true rfl⟩) hS (fun g_e_28 q_e_28 H locs e_28 hP hS => ?_)
        cases e_28
        refine lv_iload hx hb dX6_renew_101 (lv_at hl 0 rfl) ?_
        exact vx_ret (sy_ireti hx hb hr hlocks hE hP hS dX6_renew_103 ⟨Nat.le_of_ble_eq_true rfl, Nat.le_of_ble_eq_true rfl⟩ (by unfold fX6_renew; rw [if_pos c_3, if_pos c_6, if_pos c_9, if_pos c_10, if_pos c_15, if_pos c_19] <;> rfl))
def fX6_give (g : sG) (q : sQ) (x0 : Int32) (x1 : Int32) : Int32 × Int32 × sG × sQ := (if 0 ≤ x0 ∧ x0 < (g 62 2) then (if 0 ≤ x1 ∧ x1 < 10 then (if (g (200 + x0.toNatClampNeg) 3) = 0 then (if (fX4_isOpenOrSold g q x0.toNatClampNeg) = 0 then (3, 0, g, q) else (0, (g (200 + x0.toNatClampNeg) 6), (sy_up g (200 + x0.toNatClampNeg) 6 x1), q)) else (3, 0, g, q)) else (1, 0, g, q)) else (1, 0, g, q))
set_option maxHeartbeats 4000000 in
set_option maxRecDepth 100000 in
theorem mX6_give (l : Launch) (hfl : l.stackTraces = false) (Z : sZ) (nT nK cT cK : Nat) (ad : Nat → Nat) (g : sG) (q : sQ) (x0 : Int32) (x1 : Int32) (hT : nT ≤ 100) (hG : IG nT nK cT cK g) (hQ : IQ nT nK q) : sXi l Z yX6_give (uW (.code yX6_give cX6_give 5 (some .int))) { frames := 8, cells := 3, slots := 18, locals := 123 } [.ref (ad 60), .int x0, .int x1] nT nK cT cK ad g q (fun r g1 q1 => (0, r, g1, q1) = fX6_give g q x0 x1) (fun E => exc E = (fX6_give g q x0 x1).1) := by
  refine vx_ofW (cc := cX6_give) (maxL := 5) (ret := (some .int)) (by decide) rfl ?_
  intro p e s m args below meth c s₁ B hml hno hv
  obtain ⟨rfl, hE, hP⟩ := hv
  have hx := B.exec
  have hb := B.bytes
  have hr := B.returns
  have hts := atoms_spec (ws := uW (.code yX6_give cX6_give 5 (some .int))) B.pre
  have hown : s.vm.findClass RX6 = some m.cls := findClass_of_methodNamed B.named
  have hlocks := B.notSynchronized
  have hS : va_S (sy_A Z) s.heap s.heap [] := va_S.rf
  have hl := lv_entry ([.ref (ad 60), .int x0, .int x1]) (n := 5) (Nat.le_of_ble_eq_true rfl)
  rw [lg_entry_eq]
  generalize (lg_sl ([.ref (ad 60), .int x0, .int x1]) ++ List.replicate (5 - (lg_sl ([.ref (ad 60), .int x0, .int x1])).length) Slot.unset).toArray = ls at hl ⊢
  have hl : lv_has ls 5 [(0, .ref (ad 60)), (1, .int x0), (2, .int x1)] := hl
  refine lv_aload_n hx hb dX6_give_0 rfl (lv_at hl 0 rfl) ?_
  refine lv_iload_n hx hb dX6_give_1 rfl (lv_at hl 1 rfl) ?_
  refine sy_xkr (sy_xV (o := 60) (As := [.int x0]) (rest := []) ⟨hx, hb, hml, hown, hts⟩ hE hP hS (mX6_ticketAt l hfl Z nT nK cT cK ad g q x0 hT hG hQ) (cwV 1 hts (gu_V uk_3_151 uk_3_153 uk_0_10 uk_1_1 uk_3_154) rfl rfl rfl (by decide +kernel) ⟨Nat.le_of_ble_eq_true rfl, Nat.le_of_ble_eq_true rfl⟩) (sy_recv (kc := 7) hE hP rfl (by decide) rfl rfl rfl) rfl hl.1 rfl (Nat.le_of_ble_eq_true rfl) dX6_give_2 ⟨Nat.le_of_ble_eq_true rfl, Nat.le_of_ble_eq_true rfl⟩) hno hlocks hE hS ⟨Nat.le_of_ble_eq_true rfl, Nat.le_of_ble_eq_true rfl⟩ (fun E9 h9 => (by rw [h9.1, exc_IO]; unfold fX6_give; rw [if_neg h9.2] <;> rfl)) (fun o_e_1 H locs e_1 hP hS => ?_)
  obtain ⟨c9, rfl⟩ := e_1
  have c_3 := c9
  refine lv_astore_n (lv' := [(3, .ref (ad (200 + x0.toNatClampNeg))), (0, .ref (ad 60)), (1, .int x0), (2, .int x1)]) hx hb dX6_give_5 rfl hl (by decide) rfl (fun ls hl => ?_)
  refine lv_iload_n hx hb dX6_give_6 rfl (lv_at hl 3 rfl) ?_
  refine lv_bipush (v := 10) hx hb dX6_give_7 (by decide) ?_
  refine sy_xkv (sy_xS (As := [.int x1, .int 10]) (rest := []) ⟨hx, hb, hml, hown, hts⟩ hE hP hS (mX6_needIndex l hfl Z nT nK cT cK ad g q x1 10) (va_cwS 2 hts (gu_S uk_1_202 uk_1_203 uk_1_1 uk_1_204) rfl rfl rfl (by decide +kernel) ⟨Nat.le_of_ble_eq_true rfl, Nat.le_of_ble_eq_true rfl⟩) rfl hl.1 rfl (Nat.le_of_ble_eq_true rfl) dX6_give_9 ⟨Nat.le_of_ble_eq_true rfl, Nat.le_of_ble_eq_true rfl⟩) hno hlocks hE hS ⟨Nat.le_of_ble_eq_true rfl, Nat.le_of_ble_eq_true rfl⟩ (fun E9 h9 => (by rw [h9.1, exc_IO]; unfold fX6_give; rw [if_pos c_3, if_neg h9.2] <;> rfl)) (fun g_e_4 q_e_4 H locs e_4 hP hS => ?_)
  have c_6 := e_4.1
  obtain ⟨-, h7, h8⟩ := e_4; rw [h7, h8] at hP
  refine lv_aload_n hx hb dX6_give_12 rfl (lv_at hl 0 rfl) ?_
  refine sy_getRX4 hx hb hts hown hE hP (200 + x0.toNatClampNeg) (sy_kdK (at_lt hG.2.2.2.1 (by have := hG.2.1; have := hG.2.2.2.2.1; omega) c_3)) 3 (by decide) (hts _ (u_in uk_3_75)) (v := .int (g (200 + x0.toNatClampNeg) 3)) rfl dX6_give_13 ?_
  refine lv_if_ne (tgt := 30) hx hb dX6_give_16 (by decide) (fun c_7 => ?_) (fun c_7 => ?_)
  · skip
    refine lv_iconst (v := 0) hx hb dX6_give_30 (by decide) ?_
    refine sy_xkv (sy_xS (As := [.int 0]) (rest := []) ⟨hx, hb, hml, hown, hts⟩ hE hP hS (mX6_needState l hfl Z nT nK cT cK ad g q 0) (va_cwS 1 hts (gu_S uk_2_50 uk_2_51 uk_1_1 uk_2_52) rfl rfl rfl (by decide +kernel) ⟨Nat.le_of_ble_eq_true rfl, Nat.le_of_ble_eq_true rfl⟩) rfl hl.1 rfl (Nat.le_of_ble_eq_true rfl) dX6_give_31 ⟨Nat.le_of_ble_eq_true rfl, Nat.le_of_ble_eq_true rfl⟩) hno hlocks hE hS ⟨Nat.le_of_ble_eq_true rfl, Nat.le_of_ble_eq_true rfl⟩ (fun E9 h9 => (by rw [h9.1, exc_IS]; unfold fX6_give; rw [if_pos c_3, if_pos c_6, if_neg c_7] <;> rfl)) (fun g_e_8 q_e_8 H locs e_8 hP hS => ?_)
    exact absurd rfl e_8.1
  · skip
    refine lv_aload_n hx hb dX6_give_19 rfl (lv_at hl 0 rfl) ?_
    refine sy_ki (sy_rV (o := (200 + x0.toNatClampNeg)) (As := []) (rest := []) ⟨hx, hb, hml, hown, hts⟩ hE hP hS (mX4_isOpenOrSold l hfl Z nT nK cT cK ad g q x0.toNatClampNeg hT (at_lt hG.2.2.2.1 (by have := hG.2.1; have := hG.2.2.2.2.1; omega) c_3)) (cwV 0 hts (gu_V uk_3_155 uk_3_156 uk_3_157 uk_1_22 uk_3_158) rfl rfl rfl (by decide +kernel) ⟨Nat.le_of_ble_eq_true rfl, Nat.le_of_ble_eq_true rfl⟩) (sy_recv (kc := 5) hE hP (sy_kdK (at_lt hG.2.2.2.1 (by have := hG.2.1; have := hG.2.2.2.2.1; omega) c_3)) (by decide) rfl rfl rfl) rfl hl.1 rfl (Nat.le_of_ble_eq_true rfl) dX6_give_20 ⟨Nat.le_of_ble_eq_true rfl, Nat.le_of_ble_eq_true rfl⟩) hS (fun r_e_11 g_e_11 q_e_11 H locs e_11 hP hS => ?_)
    cases e_11
    refine lv_if_eq (tgt := 30) hx hb dX6_give_23 (by decide) (fun c_12 => ?_) (fun c_12 => ?_)
    · skip
      refine lv_iconst (v := 0) hx hb dX6_give_30 (by decide) ?_
      refine sy_xkv (sy_xS (As := [.int 0]) (rest := []) ⟨hx, hb, hml, hown, hts⟩ hE hP hS (mX6_needState l hfl Z nT nK cT cK ad g q 0) (va_cwS 1 hts (gu_S uk_2_50 uk_2_51 uk_1_1 uk_2_52) rfl rfl rfl (by decide +kernel) ⟨Nat.le_of_ble_eq_true rfl, Nat.le_of_ble_eq_true rfl⟩) rfl hl.1 rfl (Nat.le_of_ble_eq_true rfl) dX6_give_31 ⟨Nat.le_of_ble_eq_true rfl, Nat.le_of_ble_eq_true rfl⟩) hno hlocks hE hS ⟨Nat.le_of_ble_eq_true rfl, Nat.le_of_ble_eq_true rfl⟩ (fun E9 h9 => (by rw [h9.1, exc_IS]; unfold fX6_give; rw [if_pos c_3, if_pos c_6, if_pos c_7, if_pos c_12] <;> rfl)) (fun g_e_13 q_e_13 H locs e_13 hP hS => ?_)
      exact absurd rfl e_13.1
    · skip
      refine lv_iconst (v := 1) hx hb dX6_give_26 (by decide) ?_
      refine lv_goto (tgt := 31) hx hb dX6_give_27 (by decide) ?_
      refine sy_xkv (sy_xS (As := [.int 1]) (rest := []) ⟨hx, hb, hml, hown, hts⟩ hE hP hS (mX6_needState l hfl Z nT nK cT cK ad g q 1) (va_cwS 1 hts (gu_S uk_2_50 uk_2_51 uk_1_1 uk_2_52) rfl rfl rfl (by decide +kernel) ⟨Nat.le_of_ble_eq_true rfl, Nat.le_of_ble_eq_true rfl⟩) rfl hl.1 rfl (Nat.le_of_ble_eq_true rfl) dX6_give_31 ⟨Nat.le_of_ble_eq_true rfl, Nat.le_of_ble_eq_true rfl⟩) hno hlocks hE hS ⟨Nat.le_of_ble_eq_true rfl, Nat.le_of_ble_eq_true rfl⟩ (fun E9 h9 => (absurd (by decide) h9.2)) (fun g_e_16 q_e_16 H locs e_16 hP hS => ?_)
      obtain ⟨-, h7, h8⟩ := e_16; rw [h7, h8] at hP
      refine lv_aload_n hx hb dX6_give_34 rfl (lv_at hl 0 rfl) ?_
      refine sy_getRX4 hx hb hts hown hE hP (200 + x0.toNatClampNeg) (sy_kdK (at_lt hG.2.2.2.1 (by have := hG.2.1; have := hG.2.2.2.2.1; omega) c_3)) 6 (by decide) (hts _ (u_in uk_3_81)) (v := .int (g (200 + x0.toNatClampNeg) 6)) rfl dX6_give_35 ?_
      refine lv_istore (lv' := [(4, .int (g (200 + x0.toNatClampNeg) 6)), (3, .ref (ad (200 + x0.toNatClampNeg))), (0, .ref (ad 60)), (1, .int x0), (2, .int x1)]) hx hb dX6_give_38 hl (by decide) rfl (fun ls hl => ?_)
      refine lv_aload_n hx hb dX6_give_40 rfl (lv_at hl 1 rfl) ?_
      refine lv_iload_n hx hb dX6_give_41 rfl (lv_at hl 4 rfl) ?_
      refine sy_putRX4 hx hb hts hown hE hP hS (200 + x0.toNatClampNeg) (sy_kdK (at_lt hG.2.2.2.1 (by have := hG.2.1; have := hG.2.2.2.2.1; omega) c_3)) 6 (by decide) (hts _ (u_in uk_3_81)) rfl (ty := .int) (by decide +kernel) rfl rfl (sy_up g (200 + x0.toNatClampNeg) 6 x1) q (by rw [sy_up_s g (200 + x0.toNatClampNeg) 6 x1]; exact se_RX4_6 _ _ _ _ _ _ _) (fun _ h9 => sy_up_o _ _ _ h9) (fun _ _ => rfl) dX6_give_42 (fun H locs hP hS => ?_)
      refine lv_iload hx hb dX6_give_45 (lv_at hl 0 rfl) ?_
      exact vx_ret (sy_ireti hx hb hr hlocks hE hP hS dX6_give_47 ⟨Nat.le_of_ble_eq_true rfl, Nat.le_of_ble_eq_true rfl⟩ (by unfold fX6_give; rw [if_pos c_3, if_pos c_6, if_pos c_7, if_neg c_12] <;> rfl))
def fX6_notice (g : sG) (q : sQ) (x0 : Int32) (x1 : Int32) : Int32 × sG × sQ := (if 0 ≤ x0 ∧ x0 < (g 62 2) then (if 0 ≤ x1 ∧ x1 < 10 then (if (fX4_isOpenOrSold g q x0.toNatClampNeg) = 0 then (3, g, q) else (if (fX4_hasNotice g q x0.toNatClampNeg) = 0 then (0, (sy_up (sy_up g (200 + x0.toNatClampNeg) 11 x1) (200 + x0.toNatClampNeg) 12 ((sy_up g (200 + x0.toNatClampNeg) 11 x1) 60 9)), q) else (3, g, q))) else (1, g, q)) else (1, g, q))
set_option maxHeartbeats 4000000 in
set_option maxRecDepth 100000 in
theorem mX6_notice (l : Launch) (hfl : l.stackTraces = false) (Z : sZ) (nT nK cT cK : Nat) (ad : Nat → Nat) (g : sG) (q : sQ) (x0 : Int32) (x1 : Int32) (hT : nT ≤ 100) (hG : IG nT nK cT cK g) (hQ : IQ nT nK q) : sXv l Z yX6_notice (uW (.code yX6_notice cX6_notice 4 none)) { frames := 8, cells := 3, slots := 18, locals := 123 } [.ref (ad 60), .int x0, .int x1] nT nK cT cK ad g q (fun g1 q1 => (0, g1, q1) = fX6_notice g q x0 x1) (fun E => exc E = (fX6_notice g q x0 x1).1) := by
  refine vx_ofW (cc := cX6_notice) (maxL := 4) (ret := none) (by decide) rfl ?_
  intro p e s m args below meth c s₁ B hml hno hv
  obtain ⟨rfl, hE, hP⟩ := hv
  have hx := B.exec
  have hb := B.bytes
  have hr := B.returns
  have hts := atoms_spec (ws := uW (.code yX6_notice cX6_notice 4 none)) B.pre
  have hown : s.vm.findClass RX6 = some m.cls := findClass_of_methodNamed B.named
  have hlocks := B.notSynchronized
  have hS : va_S (sy_A Z) s.heap s.heap [] := va_S.rf
  have hl := lv_entry ([.ref (ad 60), .int x0, .int x1]) (n := 4) (Nat.le_of_ble_eq_true rfl)
  rw [lg_entry_eq]
  generalize (lg_sl ([.ref (ad 60), .int x0, .int x1]) ++ List.replicate (4 - (lg_sl ([.ref (ad 60), .int x0, .int x1])).length) Slot.unset).toArray = ls at hl ⊢
  have hl : lv_has ls 4 [(0, .ref (ad 60)), (1, .int x0), (2, .int x1)] := hl
  refine lv_aload_n hx hb dX6_notice_0 rfl (lv_at hl 0 rfl) ?_
  refine lv_iload_n hx hb dX6_notice_1 rfl (lv_at hl 1 rfl) ?_
  refine sy_xkr (sy_xV (o := 60) (As := [.int x0]) (rest := []) ⟨hx, hb, hml, hown, hts⟩ hE hP hS (mX6_ticketAt l hfl Z nT nK cT cK ad g q x0 hT hG hQ) (cwV 1 hts (gu_V uk_3_151 uk_3_153 uk_0_10 uk_1_1 uk_3_154) rfl rfl rfl (by decide +kernel) ⟨Nat.le_of_ble_eq_true rfl, Nat.le_of_ble_eq_true rfl⟩) (sy_recv (kc := 7) hE hP rfl (by decide) rfl rfl rfl) rfl hl.1 rfl (Nat.le_of_ble_eq_true rfl) dX6_notice_2 ⟨Nat.le_of_ble_eq_true rfl, Nat.le_of_ble_eq_true rfl⟩) hno hlocks hE hS ⟨Nat.le_of_ble_eq_true rfl, Nat.le_of_ble_eq_true rfl⟩ (fun E9 h9 => (by rw [h9.1, exc_IO]; unfold fX6_notice; rw [if_neg h9.2] <;> rfl)) (fun o_e_1 H locs e_1 hP hS => ?_)
  obtain ⟨c9, rfl⟩ := e_1
  have c_3 := c9
  refine lv_astore_n (lv' := [(3, .ref (ad (200 + x0.toNatClampNeg))), (0, .ref (ad 60)), (1, .int x0), (2, .int x1)]) hx hb dX6_notice_5 rfl hl (by decide) rfl (fun ls hl => ?_)
  refine lv_iload_n hx hb dX6_notice_6 rfl (lv_at hl 3 rfl) ?_
  refine lv_bipush (v := 10) hx hb dX6_notice_7 (by decide) ?_
  refine sy_xkv (sy_xS (As := [.int x1, .int 10]) (rest := []) ⟨hx, hb, hml, hown, hts⟩ hE hP hS (mX6_needIndex l hfl Z nT nK cT cK ad g q x1 10) (va_cwS 2 hts (gu_S uk_1_202 uk_1_203 uk_1_1 uk_1_204) rfl rfl rfl (by decide +kernel) ⟨Nat.le_of_ble_eq_true rfl, Nat.le_of_ble_eq_true rfl⟩) rfl hl.1 rfl (Nat.le_of_ble_eq_true rfl) dX6_notice_9 ⟨Nat.le_of_ble_eq_true rfl, Nat.le_of_ble_eq_true rfl⟩) hno hlocks hE hS ⟨Nat.le_of_ble_eq_true rfl, Nat.le_of_ble_eq_true rfl⟩ (fun E9 h9 => (by rw [h9.1, exc_IO]; unfold fX6_notice; rw [if_pos c_3, if_neg h9.2] <;> rfl)) (fun g_e_4 q_e_4 H locs e_4 hP hS => ?_)
  have c_6 := e_4.1
  obtain ⟨-, h7, h8⟩ := e_4; rw [h7, h8] at hP
  refine lv_aload_n hx hb dX6_notice_12 rfl (lv_at hl 0 rfl) ?_
  refine sy_ki (sy_rV (o := (200 + x0.toNatClampNeg)) (As := []) (rest := []) ⟨hx, hb, hml, hown, hts⟩ hE hP hS (mX4_isOpenOrSold l hfl Z nT nK cT cK ad g q x0.toNatClampNeg hT (at_lt hG.2.2.2.1 (by have := hG.2.1; have := hG.2.2.2.2.1; omega) c_3)) (cwV 0 hts (gu_V uk_3_155 uk_3_156 uk_3_157 uk_1_22 uk_3_158) rfl rfl rfl (by decide +kernel) ⟨Nat.le_of_ble_eq_true rfl, Nat.le_of_ble_eq_true rfl⟩) (sy_recv (kc := 5) hE hP (sy_kdK (at_lt hG.2.2.2.1 (by have := hG.2.1; have := hG.2.2.2.2.1; omega) c_3)) (by decide) rfl rfl rfl) rfl hl.1 rfl (Nat.le_of_ble_eq_true rfl) dX6_notice_13 ⟨Nat.le_of_ble_eq_true rfl, Nat.le_of_ble_eq_true rfl⟩) hS (fun r_e_7 g_e_7 q_e_7 H locs e_7 hP hS => ?_)
  cases e_7
  refine lv_if_eq (tgt := 30) hx hb dX6_notice_16 (by decide) (fun c_8 => ?_) (fun c_8 => ?_)
  · skip
    refine lv_iconst (v := 0) hx hb dX6_notice_30 (by decide) ?_
    refine sy_xkv (sy_xS (As := [.int 0]) (rest := []) ⟨hx, hb, hml, hown, hts⟩ hE hP hS (mX6_needState l hfl Z nT nK cT cK ad g q 0) (va_cwS 1 hts (gu_S uk_2_50 uk_2_51 uk_1_1 uk_2_52) rfl rfl rfl (by decide +kernel) ⟨Nat.le_of_ble_eq_true rfl, Nat.le_of_ble_eq_true rfl⟩) rfl hl.1 rfl (Nat.le_of_ble_eq_true rfl) dX6_notice_31 ⟨Nat.le_of_ble_eq_true rfl, Nat.le_of_ble_eq_true rfl⟩) hno hlocks hE hS ⟨Nat.le_of_ble_eq_true rfl, Nat.le_of_ble_eq_true rfl⟩ (fun E9 h9 => (by rw [h9.1, exc_IS]; unfold fX6_notice; rw [if_pos c_3, if_pos c_6, if_pos c_8] <;> rfl)) (fun g_e_9 q_e_9 H locs e_9 hP hS => ?_)
    exact absurd rfl e_9.1
  · skip
    refine lv_aload_n hx hb dX6_notice_19 rfl (lv_at hl 0 rfl) ?_
    refine sy_ki (sy_rV (o := (200 + x0.toNatClampNeg)) (As := []) (rest := []) ⟨hx, hb, hml, hown, hts⟩ hE hP hS (mX4_hasNotice l hfl Z nT nK cT cK ad g q x0.toNatClampNeg hT (at_lt hG.2.2.2.1 (by have := hG.2.1; have := hG.2.2.2.2.1; omega) c_3)) (cwV 0 hts (gu_V uk_3_166 uk_3_167 uk_3_168 uk_1_22 uk_3_169) rfl rfl rfl (by decide +kernel) ⟨Nat.le_of_ble_eq_true rfl, Nat.le_of_ble_eq_true rfl⟩) (sy_recv (kc := 5) hE hP (sy_kdK (at_lt hG.2.2.2.1 (by have := hG.2.1; have := hG.2.2.2.2.1; omega) c_3)) (by decide) rfl rfl rfl) rfl hl.1 rfl (Nat.le_of_ble_eq_true rfl) dX6_notice_20 ⟨Nat.le_of_ble_eq_true rfl, Nat.le_of_ble_eq_true rfl⟩) hS (fun r_e_12 g_e_12 q_e_12 H locs e_12 hP hS => ?_)
    cases e_12
    refine lv_if_ne (tgt := 30) hx hb dX6_notice_23 (by decide) (fun c_13 => ?_) (fun c_13 => ?_)
    · skip
      refine lv_iconst (v := 0) hx hb dX6_notice_30 (by decide) ?_
      refine sy_xkv (sy_xS (As := [.int 0]) (rest := []) ⟨hx, hb, hml, hown, hts⟩ hE hP hS (mX6_needState l hfl Z nT nK cT cK ad g q 0) (va_cwS 1 hts (gu_S uk_2_50 uk_2_51 uk_1_1 uk_2_52) rfl rfl rfl (by decide +kernel) ⟨Nat.le_of_ble_eq_true rfl, Nat.le_of_ble_eq_true rfl⟩) rfl hl.1 rfl (Nat.le_of_ble_eq_true rfl) dX6_notice_31 ⟨Nat.le_of_ble_eq_true rfl, Nat.le_of_ble_eq_true rfl⟩) hno hlocks hE hS ⟨Nat.le_of_ble_eq_true rfl, Nat.le_of_ble_eq_true rfl⟩ (fun E9 h9 => (by rw [h9.1, exc_IS]; unfold fX6_notice; rw [if_pos c_3, if_pos c_6, if_neg c_8, if_neg c_13] <;> rfl)) (fun g_e_14 q_e_14 H locs e_14 hP hS => ?_)
      exact absurd rfl e_14.1
    · skip
      refine lv_iconst (v := 1) hx hb dX6_notice_26 (by decide) ?_
      refine lv_goto (tgt := 31) hx hb dX6_notice_27 (by decide) ?_
      refine sy_xkv (sy_xS (As := [.int 1]) (rest := []) ⟨hx, hb, hml, hown, hts⟩ hE hP hS (mX6_needState l hfl Z nT nK cT cK ad g q 1) (va_cwS 1 hts (gu_S uk_2_50 uk_2_51 uk_1_1 uk_2_52) rfl rfl rfl (by decide +kernel) ⟨Nat.le_of_ble_eq_true rfl, Nat.le_of_ble_eq_true rfl⟩) rfl hl.1 rfl (Nat.le_of_ble_eq_true rfl) dX6_notice_31 ⟨Nat.le_of_ble_eq_true rfl, Nat.le_of_ble_eq_true rfl⟩) hno hlocks hE hS ⟨Nat.le_of_ble_eq_true rfl, Nat.le_of_ble_eq_true rfl⟩ (fun E9 h9 => (absurd (by decide) h9.2)) (fun g_e_17 q_e_17 H locs e_17 hP hS => ?_)
      obtain ⟨-, h7, h8⟩ := e_17; rw [h7, h8] at hP
      refine lv_aload_n hx hb dX6_notice_34 rfl (lv_at hl 0 rfl) ?_
      refine lv_iload_n hx hb dX6_notice_35 rfl (lv_at hl 3 rfl) ?_
      refine sy_putRX4 hx hb hts hown hE hP hS (200 + x0.toNatClampNeg) (sy_kdK (at_lt hG.2.2.2.1 (by have := hG.2.1; have := hG.2.2.2.2.1; omega) c_3)) 11 (by decide) (hts _ (u_in uk_3_90)) rfl (ty := .int) (by decide +kernel) rfl rfl (sy_up g (200 + x0.toNatClampNeg) 11 x1) q (by rw [sy_up_s g (200 + x0.toNatClampNeg) 11 x1]; exact se_RX4_11 _ _ _ _ _ _ _) (fun _ h9 => sy_up_o _ _ _ h9) (fun _ _ => rfl) dX6_notice_36 (fun H locs hP hS => ?_)
      refine lv_aload_n hx hb dX6_notice_39 rfl (lv_at hl 0 rfl) ?_
      refine lv_aload_n hx hb dX6_notice_40 rfl (lv_at hl 1 rfl) ?_
      refine sy_getRX6 hx hb hts hown hE hP 60 rfl 9 (by decide) (hts _ (u_in uk_1_161)) (v := .int ((sy_up g (200 + x0.toNatClampNeg) 11 x1) 60 9)) rfl dX6_notice_41 ?_
      refine sy_putRX4 hx hb hts hown hE hP hS (200 + x0.toNatClampNeg) (sy_kdK (at_lt hG.2.2.2.1 (by have := hG.2.1; have := hG.2.2.2.2.1; omega) c_3)) 12 (by decide) (hts _ (u_in uk_3_92)) rfl (ty := .int) (by decide +kernel) rfl rfl (sy_up (sy_up g (200 + x0.toNatClampNeg) 11 x1) (200 + x0.toNatClampNeg) 12 ((sy_up g (200 + x0.toNatClampNeg) 11 x1) 60 9)) q (by rw [sy_up_s (sy_up g (200 + x0.toNatClampNeg) 11 x1) (200 + x0.toNatClampNeg) 12 ((sy_up g (200 + x0.toNatClampNeg) 11 x1) 60 9)]; exact se_RX4_12 _ _ _ _ _ _ _) (fun _ h9 => sy_up_o _ _ _ h9) (fun _ _ => rfl) dX6_notice_44 (fun H locs hP hS => ?_)
      exact vx_ret (sy_vret hx hb hr hlocks hE hP hS dX6_notice_47 ⟨Nat.le_of_ble_eq_true rfl, Nat.le_of_ble_eq_true rfl⟩ (by unfold fX6_notice; rw [if_pos c_3, if_pos c_6, if_neg c_8, if_pos c_13] <;> rfl))
def fX6_show (g : sG) (q : sQ) (x0 : Int32) : Int32 × Int32 × sG × sQ := (if 0 ≤ x0 ∧ x0 < (g 62 2) then (if ¬ ((fX4_hasNotice g q x0.toNatClampNeg) = 0) then (0, (g (200 + x0.toNatClampNeg) 11), (sy_up g (200 + x0.toNatClampNeg) 11 (-1)), q) else (3, 0, g, q)) else (1, 0, g, q))
set_option maxHeartbeats 4000000 in
set_option maxRecDepth 100000 in
theorem mX6_show (l : Launch) (hfl : l.stackTraces = false) (Z : sZ) (nT nK cT cK : Nat) (ad : Nat → Nat) (g : sG) (q : sQ) (x0 : Int32) (hT : nT ≤ 100) (hG : IG nT nK cT cK g) (hQ : IQ nT nK q) : sXi l Z yX6_show (uW (.code yX6_show cX6_show 4 (some .int))) { frames := 8, cells := 2, slots := 12, locals := 123 } [.ref (ad 60), .int x0] nT nK cT cK ad g q (fun r g1 q1 => (0, r, g1, q1) = fX6_show g q x0) (fun E => exc E = (fX6_show g q x0).1) := by
  refine vx_ofW (cc := cX6_show) (maxL := 4) (ret := (some .int)) (by decide) rfl ?_
  intro p e s m args below meth c s₁ B hml hno hv
  obtain ⟨rfl, hE, hP⟩ := hv
  have hx := B.exec
  have hb := B.bytes
  have hr := B.returns
  have hts := atoms_spec (ws := uW (.code yX6_show cX6_show 4 (some .int))) B.pre
  have hown : s.vm.findClass RX6 = some m.cls := findClass_of_methodNamed B.named
  have hlocks := B.notSynchronized
  have hS : va_S (sy_A Z) s.heap s.heap [] := va_S.rf
  have hl := lv_entry ([.ref (ad 60), .int x0]) (n := 4) (Nat.le_of_ble_eq_true rfl)
  rw [lg_entry_eq]
  generalize (lg_sl ([.ref (ad 60), .int x0]) ++ List.replicate (4 - (lg_sl ([.ref (ad 60), .int x0])).length) Slot.unset).toArray = ls at hl ⊢
  have hl : lv_has ls 4 [(0, .ref (ad 60)), (1, .int x0)] := hl
  refine lv_aload_n hx hb dX6_show_0 rfl (lv_at hl 0 rfl) ?_
  refine lv_iload_n hx hb dX6_show_1 rfl (lv_at hl 1 rfl) ?_
  refine sy_xkr (sy_xV (o := 60) (As := [.int x0]) (rest := []) ⟨hx, hb, hml, hown, hts⟩ hE hP hS (mX6_ticketAt l hfl Z nT nK cT cK ad g q x0 hT hG hQ) (cwV 1 hts (gu_V uk_3_151 uk_3_153 uk_0_10 uk_1_1 uk_3_154) rfl rfl rfl (by decide +kernel) ⟨Nat.le_of_ble_eq_true rfl, Nat.le_of_ble_eq_true rfl⟩) (sy_recv (kc := 7) hE hP rfl (by decide) rfl rfl rfl) rfl hl.1 rfl (Nat.le_of_ble_eq_true rfl) dX6_show_2 ⟨Nat.le_of_ble_eq_true rfl, Nat.le_of_ble_eq_true rfl⟩) hno hlocks hE hS ⟨Nat.le_of_ble_eq_true rfl, Nat.le_of_ble_eq_true rfl⟩ (fun E9 h9 => (by rw [h9.1, exc_IO]; unfold fX6_show; rw [if_neg h9.2] <;> rfl)) (fun o_e_1 H locs e_1 hP hS => ?_)
  obtain ⟨c9, rfl⟩ := e_1
  have c_3 := c9
  refine lv_astore_n (lv' := [(2, .ref (ad (200 + x0.toNatClampNeg))), (0, .ref (ad 60)), (1, .int x0)]) hx hb dX6_show_5 rfl hl (by decide) rfl (fun ls hl => ?_)
  refine lv_aload_n hx hb dX6_show_6 rfl (lv_at hl 0 rfl) ?_
  refine sy_ki (sy_rV (o := (200 + x0.toNatClampNeg)) (As := []) (rest := []) ⟨hx, hb, hml, hown, hts⟩ hE hP hS (mX4_hasNotice l hfl Z nT nK cT cK ad g q x0.toNatClampNeg hT (at_lt hG.2.2.2.1 (by have := hG.2.1; have := hG.2.2.2.2.1; omega) c_3)) (cwV 0 hts (gu_V uk_3_166 uk_3_167 uk_3_168 uk_1_22 uk_3_169) rfl rfl rfl (by decide +kernel) ⟨Nat.le_of_ble_eq_true rfl, Nat.le_of_ble_eq_true rfl⟩) (sy_recv (kc := 5) hE hP (sy_kdK (at_lt hG.2.2.2.1 (by have := hG.2.1; have := hG.2.2.2.2.1; omega) c_3)) (by decide) rfl rfl rfl) rfl hl.1 rfl (Nat.le_of_ble_eq_true rfl) dX6_show_7 ⟨Nat.le_of_ble_eq_true rfl, Nat.le_of_ble_eq_true rfl⟩) hS (fun r_e_4 g_e_4 q_e_4 H locs e_4 hP hS => ?_)
  cases e_4
  refine sy_xkv (sy_xS (As := [.int (fX4_hasNotice g q x0.toNatClampNeg)]) (rest := []) ⟨hx, hb, hml, hown, hts⟩ hE hP hS (mX6_needState l hfl Z nT nK cT cK ad g q (fX4_hasNotice g q x0.toNatClampNeg)) (va_cwS 1 hts (gu_S uk_2_50 uk_2_51 uk_1_1 uk_2_52) rfl rfl rfl (by decide +kernel) ⟨Nat.le_of_ble_eq_true rfl, Nat.le_of_ble_eq_true rfl⟩) rfl hl.1 rfl (Nat.le_of_ble_eq_true rfl) dX6_show_10 ⟨Nat.le_of_ble_eq_true rfl, Nat.le_of_ble_eq_true rfl⟩) hno hlocks hE hS ⟨Nat.le_of_ble_eq_true rfl, Nat.le_of_ble_eq_true rfl⟩ (fun E9 h9 => (by rw [h9.1, exc_IS]; unfold fX6_show; rw [if_pos c_3, if_neg h9.2] <;> rfl)) (fun g_e_5 q_e_5 H locs e_5 hP hS => ?_)
  have c_7 := e_5.1
  obtain ⟨-, h7, h8⟩ := e_5; rw [h7, h8] at hP
  refine lv_aload_n hx hb dX6_show_13 rfl (lv_at hl 0 rfl) ?_
  refine sy_getRX4 hx hb hts hown hE hP (200 + x0.toNatClampNeg) (sy_kdK (at_lt hG.2.2.2.1 (by have := hG.2.1; have := hG.2.2.2.2.1; omega) c_3)) 11 (by decide) (hts _ (u_in uk_3_90)) (v := .int (g (200 + x0.toNatClampNeg) 11)) rfl dX6_show_14 ?_
  refine lv_istore_n (lv' := [(3, .int (g (200 + x0.toNatClampNeg) 11)), (2, .ref (ad (200 + x0.toNatClampNeg))), (0, .ref (ad 60)), (1, .int x0)]) hx hb dX6_show_17 rfl hl (by decide) rfl (fun ls hl => ?_)
  refine lv_aload_n hx hb dX6_show_18 rfl (lv_at hl 1 rfl) ?_
  refine lv_iconst (v := (-1)) hx hb dX6_show_19 (by decide) ?_
  refine sy_putRX4 hx hb hts hown hE hP hS (200 + x0.toNatClampNeg) (sy_kdK (at_lt hG.2.2.2.1 (by have := hG.2.1; have := hG.2.2.2.2.1; omega) c_3)) 11 (by decide) (hts _ (u_in uk_3_90)) rfl (ty := .int) (by decide +kernel) rfl rfl (sy_up g (200 + x0.toNatClampNeg) 11 (-1)) q (by rw [sy_up_s g (200 + x0.toNatClampNeg) 11 (-1)]; exact se_RX4_11 _ _ _ _ _ _ _) (fun _ h9 => sy_up_o _ _ _ h9) (fun _ _ => rfl) dX6_show_20 (fun H locs hP hS => ?_)
  refine lv_iload_n hx hb dX6_show_23 rfl (lv_at hl 0 rfl) ?_
  exact vx_ret (sy_ireti hx hb hr hlocks hE hP hS dX6_show_24 ⟨Nat.le_of_ble_eq_true rfl, Nat.le_of_ble_eq_true rfl⟩ (by unfold fX6_show; rw [if_pos c_3, if_pos c_7] <;> rfl))
def fX6_police (g : sG) (q : sQ) (x0 : Int32) : Int32 × Int32 × sG × sQ := (if 0 ≤ x0 ∧ x0 < (g 61 2) then (if (g (100 + x0.toNatClampNeg) 6) = 0 then (0, (fX3_openTicketNumber (sy_up g (100 + x0.toNatClampNeg) 6 1) q x0.toNatClampNeg), (sy_up g (100 + x0.toNatClampNeg) 6 1), q) else (3, 0, g, q)) else (1, 0, g, q))
set_option maxHeartbeats 4000000 in
set_option maxRecDepth 100000 in
theorem mX6_police (l : Launch) (hfl : l.stackTraces = false) (Z : sZ) (nT nK cT cK : Nat) (ad : Nat → Nat) (g : sG) (q : sQ) (x0 : Int32) (hT : nT ≤ 100) (hG : IG nT nK cT cK g) (hQ : IQ nT nK q) : sXi l Z yX6_police (uW (.code yX6_police cX6_police 3 (some .int))) { frames := 8, cells := 2, slots := 12, locals := 123 } [.ref (ad 60), .int x0] nT nK cT cK ad g q (fun r g1 q1 => (0, r, g1, q1) = fX6_police g q x0) (fun E => exc E = (fX6_police g q x0).1) := by
  refine vx_ofW (cc := cX6_police) (maxL := 3) (ret := (some .int)) (by decide) rfl ?_
  intro p e s m args below meth c s₁ B hml hno hv
  obtain ⟨rfl, hE, hP⟩ := hv
  have hx := B.exec
  have hb := B.bytes
  have hr := B.returns
  have hts := atoms_spec (ws := uW (.code yX6_police cX6_police 3 (some .int))) B.pre
  have hown : s.vm.findClass RX6 = some m.cls := findClass_of_methodNamed B.named
  have hlocks := B.notSynchronized
  have hS : va_S (sy_A Z) s.heap s.heap [] := va_S.rf
  have hl := lv_entry ([.ref (ad 60), .int x0]) (n := 3) (Nat.le_of_ble_eq_true rfl)
  rw [lg_entry_eq]
  generalize (lg_sl ([.ref (ad 60), .int x0]) ++ List.replicate (3 - (lg_sl ([.ref (ad 60), .int x0])).length) Slot.unset).toArray = ls at hl ⊢
  have hl : lv_has ls 3 [(0, .ref (ad 60)), (1, .int x0)] := hl
  refine lv_aload_n hx hb dX6_police_0 rfl (lv_at hl 0 rfl) ?_
  refine lv_iload_n hx hb dX6_police_1 rfl (lv_at hl 1 rfl) ?_
  refine sy_xkr (sy_xV (o := 60) (As := [.int x0]) (rest := []) ⟨hx, hb, hml, hown, hts⟩ hE hP hS (mX6_thingAt l hfl Z nT nK cT cK ad g q x0 hT hG hQ) (cwV 1 hts (gu_V uk_3_12 uk_3_14 uk_0_4 uk_1_1 uk_3_15) rfl rfl rfl (by decide +kernel) ⟨Nat.le_of_ble_eq_true rfl, Nat.le_of_ble_eq_true rfl⟩) (sy_recv (kc := 7) hE hP rfl (by decide) rfl rfl rfl) rfl hl.1 rfl (Nat.le_of_ble_eq_true rfl) dX6_police_2 ⟨Nat.le_of_ble_eq_true rfl, Nat.le_of_ble_eq_true rfl⟩) hno hlocks hE hS ⟨Nat.le_of_ble_eq_true rfl, Nat.le_of_ble_eq_true rfl⟩ (fun E9 h9 => (by rw [h9.1, exc_IO]; unfold fX6_police; rw [if_neg h9.2] <;> rfl)) (fun o_e_1 H locs e_1 hP hS => ?_)
  obtain ⟨c9, rfl⟩ := e_1
  have c_3 := c9
  refine lv_astore_n (lv' := [(2, .ref (ad (100 + x0.toNatClampNeg))), (0, .ref (ad 60)), (1, .int x0)]) hx hb dX6_police_5 rfl hl (by decide) rfl (fun ls hl => ?_)
  refine lv_aload_n hx hb dX6_police_6 rfl (lv_at hl 0 rfl) ?_
  refine sy_getRX3 hx hb hts hown hE hP (100 + x0.toNatClampNeg) (sy_kdT (at_lt hG.1 (by have := hG.2.1; have := hG.2.2.2.2.1; omega) c_3) hT) 6 (by decide) (hts _ (u_in uk_2_88)) (v := .int (g (100 + x0.toNatClampNeg) 6)) rfl dX6_police_7 ?_
  refine lv_if_ne (tgt := 17) hx hb dX6_police_10 (by decide) (fun c_4 => ?_) (fun c_4 => ?_)
  · skip
    refine lv_iconst (v := 0) hx hb dX6_police_17 (by decide) ?_
    refine sy_xkv (sy_xS (As := [.int 0]) (rest := []) ⟨hx, hb, hml, hown, hts⟩ hE hP hS (mX6_needState l hfl Z nT nK cT cK ad g q 0) (va_cwS 1 hts (gu_S uk_2_50 uk_2_51 uk_1_1 uk_2_52) rfl rfl rfl (by decide +kernel) ⟨Nat.le_of_ble_eq_true rfl, Nat.le_of_ble_eq_true rfl⟩) rfl hl.1 rfl (Nat.le_of_ble_eq_true rfl) dX6_police_18 ⟨Nat.le_of_ble_eq_true rfl, Nat.le_of_ble_eq_true rfl⟩) hno hlocks hE hS ⟨Nat.le_of_ble_eq_true rfl, Nat.le_of_ble_eq_true rfl⟩ (fun E9 h9 => (by rw [h9.1, exc_IS]; unfold fX6_police; rw [if_pos c_3, if_neg c_4] <;> rfl)) (fun g_e_5 q_e_5 H locs e_5 hP hS => ?_)
    exact absurd rfl e_5.1
  · skip
    refine lv_iconst (v := 1) hx hb dX6_police_13 (by decide) ?_
    refine lv_goto (tgt := 18) hx hb dX6_police_14 (by decide) ?_
    refine sy_xkv (sy_xS (As := [.int 1]) (rest := []) ⟨hx, hb, hml, hown, hts⟩ hE hP hS (mX6_needState l hfl Z nT nK cT cK ad g q 1) (va_cwS 1 hts (gu_S uk_2_50 uk_2_51 uk_1_1 uk_2_52) rfl rfl rfl (by decide +kernel) ⟨Nat.le_of_ble_eq_true rfl, Nat.le_of_ble_eq_true rfl⟩) rfl hl.1 rfl (Nat.le_of_ble_eq_true rfl) dX6_police_18 ⟨Nat.le_of_ble_eq_true rfl, Nat.le_of_ble_eq_true rfl⟩) hno hlocks hE hS ⟨Nat.le_of_ble_eq_true rfl, Nat.le_of_ble_eq_true rfl⟩ (fun E9 h9 => (absurd (by decide) h9.2)) (fun g_e_8 q_e_8 H locs e_8 hP hS => ?_)
    obtain ⟨-, h7, h8⟩ := e_8; rw [h7, h8] at hP
    refine lv_aload_n hx hb dX6_police_21 rfl (lv_at hl 0 rfl) ?_
    refine lv_iconst (v := 1) hx hb dX6_police_22 (by decide) ?_
    refine sy_putRX3 hx hb hts hown hE hP hS (100 + x0.toNatClampNeg) (sy_kdT (at_lt hG.1 (by have := hG.2.1; have := hG.2.2.2.2.1; omega) c_3) hT) 6 (by decide) (hts _ (u_in uk_2_88)) rfl (ty := .boolean) (by decide +kernel) (by show Value.int (1 &&& 1) = .int 1; exact congrArg Value.int (by decide)) rfl (sy_up g (100 + x0.toNatClampNeg) 6 1) q (by rw [sy_up_s g (100 + x0.toNatClampNeg) 6 1]; exact se_RX3_6 _ _ _ _ _ _ _) (fun _ h9 => sy_up_o _ _ _ h9) (fun _ _ => rfl) dX6_police_23 (fun H locs hP hS => ?_)
    refine lv_aload_n hx hb dX6_police_26 rfl (lv_at hl 0 rfl) ?_
    refine sy_ki (sy_rV (o := (100 + x0.toNatClampNeg)) (As := []) (rest := []) ⟨hx, hb, hml, hown, hts⟩ hE hP hS (mX3_openTicketNumber l hfl Z nT nK cT cK ad (sy_up g (100 + x0.toNatClampNeg) 6 1) q x0.toNatClampNeg hT (at_lt hG.1 (by have := hG.2.1; have := hG.2.2.2.2.1; omega) c_3) hQ) (cwV 0 hts (gu_V uk_3_184 uk_3_185 uk_3_186 uk_1_15 uk_3_187) rfl rfl rfl (by decide +kernel) ⟨Nat.le_of_ble_eq_true rfl, Nat.le_of_ble_eq_true rfl⟩) (sy_recv (kc := 4) hE hP (sy_kdT (at_lt hG.1 (by have := hG.2.1; have := hG.2.2.2.2.1; omega) c_3) hT) (by decide) rfl rfl rfl) rfl hl.1 rfl (Nat.le_of_ble_eq_true rfl) dX6_police_27 ⟨Nat.le_of_ble_eq_true rfl, Nat.le_of_ble_eq_true rfl⟩) hS (fun r_e_11 g_e_11 q_e_11 H locs e_11 hP hS => ?_)
    cases e_11
    exact vx_ret (sy_ireti hx hb hr hlocks hE hP hS dX6_police_30 ⟨Nat.le_of_ble_eq_true rfl, Nat.le_of_ble_eq_true rfl⟩ (by unfold fX6_police; rw [if_pos c_3, if_pos c_4] <;> rfl))
def fX6_court (g : sG) (q : sQ) (x0 : Int32) (x1 : Int32) : Int32 × Int32 × sG × sQ := (if 0 ≤ x0 ∧ x0 < (g 61 2) then (if ¬ ((g (100 + x0.toNatClampNeg) 6) = 0) then (if q (100 + x0.toNatClampNeg) 11 = none then (if x1 = 0 then (0, (-1), (sy_up g (100 + x0.toNatClampNeg) 6 0), q) else (0, (-1), (sy_up g (100 + x0.toNatClampNeg) 6 0), q)) else (if x1 = 0 then (0, (-1), (sy_up g (100 + x0.toNatClampNeg) 6 0), q) else (0, ((sy_up (fX4_close (sy_up g (100 + x0.toNatClampNeg) 6 0) q (og q x0.toNatClampNeg) 3).1 (80 + (xg q (og q x0.toNatClampNeg))) 1 (((fX4_close (sy_up g (100 + x0.toNatClampNeg) 6 0) q (og q x0.toNatClampNeg) 3).1 (80 + (xg q (og q x0.toNatClampNeg))) 1) + ((fX4_close (sy_up g (100 + x0.toNatClampNeg) 6 0) q (og q x0.toNatClampNeg) 3).1 (200 + (og q x0.toNatClampNeg)) 8))) (200 + (og q x0.toNatClampNeg)) 0), (sy_up (fX4_close (sy_up g (100 + x0.toNatClampNeg) 6 0) q (og q x0.toNatClampNeg) 3).1 (80 + (xg q (og q x0.toNatClampNeg))) 1 (((fX4_close (sy_up g (100 + x0.toNatClampNeg) 6 0) q (og q x0.toNatClampNeg) 3).1 (80 + (xg q (og q x0.toNatClampNeg))) 1) + ((fX4_close (sy_up g (100 + x0.toNatClampNeg) 6 0) q (og q x0.toNatClampNeg) 3).1 (200 + (og q x0.toNatClampNeg)) 8))), (fX4_close (sy_up g (100 + x0.toNatClampNeg) 6 0) q (og q x0.toNatClampNeg) 3).2))) else (3, 0, g, q)) else (1, 0, g, q))
set_option maxHeartbeats 4000000 in
set_option maxRecDepth 100000 in
theorem mX6_court (l : Launch) (hfl : l.stackTraces = false) (Z : sZ) (nT nK cT cK : Nat) (ad : Nat → Nat) (g : sG) (q : sQ) (x0 : Int32) (x1 : Int32) (hT : nT ≤ 100) (hG : IG nT nK cT cK g) (hQ : IQ nT nK q) : sXi l Z yX6_court (uW (.code yX6_court cX6_court 5 (some .int))) { frames := 8, cells := 2, slots := 12, locals := 123 } [.ref (ad 60), .int x0, .int x1] nT nK cT cK ad g q (fun r g1 q1 => (0, r, g1, q1) = fX6_court g q x0 x1) (fun E => exc E = (fX6_court g q x0 x1).1) := by
  refine vx_ofW (cc := cX6_court) (maxL := 5) (ret := (some .int)) (by decide) rfl ?_
  intro p e s m args below meth c s₁ B hml hno hv
  obtain ⟨rfl, hE, hP⟩ := hv
  have hx := B.exec
  have hb := B.bytes
  have hr := B.returns
  have hts := atoms_spec (ws := uW (.code yX6_court cX6_court 5 (some .int))) B.pre
  have hown : s.vm.findClass RX6 = some m.cls := findClass_of_methodNamed B.named
  have hlocks := B.notSynchronized
  have hS : va_S (sy_A Z) s.heap s.heap [] := va_S.rf
  have hl := lv_entry ([.ref (ad 60), .int x0, .int x1]) (n := 5) (Nat.le_of_ble_eq_true rfl)
  rw [lg_entry_eq]
  generalize (lg_sl ([.ref (ad 60), .int x0, .int x1]) ++ List.replicate (5 - (lg_sl ([.ref (ad 60), .int x0, .int x1])).length) Slot.unset).toArray = ls at hl ⊢
  have hl : lv_has ls 5 [(0, .ref (ad 60)), (1, .int x0), (2, .int x1)] := hl
  refine lv_aload_n hx hb dX6_court_0 rfl (lv_at hl 0 rfl) ?_
  refine lv_iload_n hx hb dX6_court_1 rfl (lv_at hl 1 rfl) ?_
  refine sy_xkr (sy_xV (o := 60) (As := [.int x0]) (rest := []) ⟨hx, hb, hml, hown, hts⟩ hE hP hS (mX6_thingAt l hfl Z nT nK cT cK ad g q x0 hT hG hQ) (cwV 1 hts (gu_V uk_3_12 uk_3_14 uk_0_4 uk_1_1 uk_3_15) rfl rfl rfl (by decide +kernel) ⟨Nat.le_of_ble_eq_true rfl, Nat.le_of_ble_eq_true rfl⟩) (sy_recv (kc := 7) hE hP rfl (by decide) rfl rfl rfl) rfl hl.1 rfl (Nat.le_of_ble_eq_true rfl) dX6_court_2 ⟨Nat.le_of_ble_eq_true rfl, Nat.le_of_ble_eq_true rfl⟩) hno hlocks hE hS ⟨Nat.le_of_ble_eq_true rfl, Nat.le_of_ble_eq_true rfl⟩ (fun E9 h9 => (by rw [h9.1, exc_IO]; unfold fX6_court; rw [if_neg h9.2] <;> rfl)) (fun o_e_1 H locs e_1 hP hS => ?_)
  obtain ⟨c9, rfl⟩ := e_1
  have c_3 := c9
  refine lv_astore_n (lv' := [(3, .ref (ad (100 + x0.toNatClampNeg))), (0, .ref (ad 60)), (1, .int x0), (2, .int x1)]) hx hb dX6_court_5 rfl hl (by decide) rfl (fun ls hl => ?_)
  refine lv_aload_n hx hb dX6_court_6 rfl (lv_at hl 0 rfl) ?_
  refine sy_getRX3 hx hb hts hown hE hP (100 + x0.toNatClampNeg) (sy_kdT (at_lt hG.1 (by have := hG.2.1; have := hG.2.2.2.2.1; omega) c_3) hT) 6 (by decide) (hts _ (u_in uk_2_88)) (v := .int (g (100 + x0.toNatClampNeg) 6)) rfl dX6_court_7 ?_
  refine sy_xkv (sy_xS (As := [.int (g (100 + x0.toNatClampNeg) 6)]) (rest := []) ⟨hx, hb, hml, hown, hts⟩ hE hP hS (mX6_needState l hfl Z nT nK cT cK ad g q (g (100 + x0.toNatClampNeg) 6)) (va_cwS 1 hts (gu_S uk_2_50 uk_2_51 uk_1_1 uk_2_52) rfl rfl rfl (by decide +kernel) ⟨Nat.le_of_ble_eq_true rfl, Nat.le_of_ble_eq_true rfl⟩) rfl hl.1 rfl (Nat.le_of_ble_eq_true rfl) dX6_court_10 ⟨Nat.le_of_ble_eq_true rfl, Nat.le_of_ble_eq_true rfl⟩) hno hlocks hE hS ⟨Nat.le_of_ble_eq_true rfl, Nat.le_of_ble_eq_true rfl⟩ (fun E9 h9 => (by rw [h9.1, exc_IS]; unfold fX6_court; rw [if_pos c_3, if_neg h9.2] <;> rfl)) (fun g_e_4 q_e_4 H locs e_4 hP hS => ?_)
  have c_6 := e_4.1
  obtain ⟨-, h7, h8⟩ := e_4; rw [h7, h8] at hP
  refine lv_aload_n hx hb dX6_court_13 rfl (lv_at hl 0 rfl) ?_
  refine lv_iconst (v := 0) hx hb dX6_court_14 (by decide) ?_
  refine sy_putRX3 hx hb hts hown hE hP hS (100 + x0.toNatClampNeg) (sy_kdT (at_lt hG.1 (by have := hG.2.1; have := hG.2.2.2.2.1; omega) c_3) hT) 6 (by decide) (hts _ (u_in uk_2_88)) rfl (ty := .boolean) (by decide +kernel) (by show Value.int (0 &&& 1) = .int 0; exact congrArg Value.int (by decide)) rfl (sy_up g (100 + x0.toNatClampNeg) 6 0) q (by rw [sy_up_s g (100 + x0.toNatClampNeg) 6 0]; exact se_RX3_6 _ _ _ _ _ _ _) (fun _ h9 => sy_up_o _ _ _ h9) (fun _ _ => rfl) dX6_court_15 (fun H locs hP hS => ?_)
  refine lv_aload_n hx hb dX6_court_18 rfl (lv_at hl 0 rfl) ?_
  by_cases c_7 : q (100 + x0.toNatClampNeg) 11 = none
  · refine sy_getRX3 hx hb hts hown hE hP (100 + x0.toNatClampNeg) (sy_kdT (at_lt hG.1 (by have := hG.2.1; have := hG.2.2.2.2.1; omega) c_3) hT) 11 (by decide) (hts _ (u_in uk_2_97)) (v := .null) (by show some (sy_rv ad (q (100 + x0.toNatClampNeg) 11)) = _; rw [c_7]; rfl) dX6_court_19 ?_
    refine lv_astoreN (lv' := [(4, .null), (3, .ref (ad (100 + x0.toNatClampNeg))), (0, .ref (ad 60)), (1, .int x0), (2, .int x1)]) hx hb dX6_court_22 hl (by decide) rfl (fun ls hl => ?_)
    refine lv_iload_n hx hb dX6_court_24 rfl (lv_at hl 4 rfl) ?_
    refine lv_if_eq (tgt := 33) hx hb dX6_court_25 (by decide) (fun c_8 => ?_) (fun c_8 => ?_)
    · skip
      refine lv_iconst (v := (-1)) hx hb dX6_court_33 (by decide) ?_
      exact vx_ret (sy_ireti hx hb hr hlocks hE hP hS dX6_court_34 ⟨Nat.le_of_ble_eq_true rfl, Nat.le_of_ble_eq_true rfl⟩ (by unfold fX6_court; rw [if_pos c_3, if_pos c_6, if_pos c_7, if_pos c_8] <;> rfl))
    · skip
      refine lv_aloadN hx hb dX6_court_28 (lv_at hl 0 rfl) ?_
      refine lv_ifnonnullN hx hb dX6_court_30 ?_
      refine lv_iconst (v := (-1)) hx hb dX6_court_33 (by decide) ?_
      exact vx_ret (sy_ireti hx hb hr hlocks hE hP hS dX6_court_34 ⟨Nat.le_of_ble_eq_true rfl, Nat.le_of_ble_eq_true rfl⟩ (by unfold fX6_court; rw [if_pos c_3, if_pos c_6, if_pos c_7, if_neg c_8] <;> rfl))
  · refine sy_getRX3 hx hb hts hown hE hP (100 + x0.toNatClampNeg) (sy_kdT (at_lt hG.1 (by have := hG.2.1; have := hG.2.2.2.2.1; omega) c_3) hT) 11 (by decide) (hts _ (u_in uk_2_97)) (v := .ref (ad (200 + (og q x0.toNatClampNeg)))) (by show some (sy_rv ad (q (100 + x0.toNatClampNeg) 11)) = _; rw [(iq_og hQ (at_lt hG.1 (by have := hG.2.1; have := hG.2.2.2.2.1; omega) c_3) c_7).1]; rfl) dX6_court_19 ?_
    refine lv_astore (lv' := [(4, .ref (ad (200 + (og q x0.toNatClampNeg)))), (3, .ref (ad (100 + x0.toNatClampNeg))), (0, .ref (ad 60)), (1, .int x0), (2, .int x1)]) hx hb dX6_court_22 hl (by decide) rfl (fun ls hl => ?_)
    refine lv_iload_n hx hb dX6_court_24 rfl (lv_at hl 4 rfl) ?_
    refine lv_if_eq (tgt := 33) hx hb dX6_court_25 (by decide) (fun c_9 => ?_) (fun c_9 => ?_)
    · skip
      refine lv_iconst (v := (-1)) hx hb dX6_court_33 (by decide) ?_
      exact vx_ret (sy_ireti hx hb hr hlocks hE hP hS dX6_court_34 ⟨Nat.le_of_ble_eq_true rfl, Nat.le_of_ble_eq_true rfl⟩ (by unfold fX6_court; rw [if_pos c_3, if_pos c_6, if_neg c_7, if_pos c_9] <;> rfl))
    · skip
      refine lv_aload hx hb dX6_court_28 (lv_at hl 0 rfl) ?_
      refine lv_ifnonnull (tgt := 35) hx hb dX6_court_30 (by decide) ?_
      refine lv_aload hx hb dX6_court_35 (lv_at hl 0 rfl) ?_
      refine lv_iconst (v := 3) hx hb dX6_court_37 (by decide) ?_
      refine sy_kv (sy_rV (o := (200 + (og q x0.toNatClampNeg))) (As := [.int 3]) (rest := []) ⟨hx, hb, hml, hown, hts⟩ hE hP hS (mX4_close l hfl Z nT nK cT cK ad (sy_up g (100 + x0.toNatClampNeg) 6 0) q (og q x0.toNatClampNeg) 3 hT (iq_og hQ (at_lt hG.1 (by have := hG.2.1; have := hG.2.2.2.2.1; omega) c_3) c_7).2 hQ) (cwV 1 hts (gu_V uk_3_195 uk_3_196 uk_3_197 uk_1_22 uk_3_198) rfl rfl rfl (by decide +kernel) ⟨Nat.le_of_ble_eq_true rfl, Nat.le_of_ble_eq_true rfl⟩) (sy_recv (kc := 5) hE hP (sy_kdK (iq_og hQ (at_lt hG.1 (by have := hG.2.1; have := hG.2.2.2.2.1; omega) c_3) c_7).2) (by decide) rfl rfl rfl) rfl hl.1 rfl (Nat.le_of_ble_eq_true rfl) dX6_court_38 ⟨Nat.le_of_ble_eq_true rfl, Nat.le_of_ble_eq_true rfl⟩) hS (fun g_e_10 q_e_10 H locs e_10 hP hS => ?_)
      obtain ⟨rfl, rfl⟩ : g_e_10 = (fX4_close (sy_up g (100 + x0.toNatClampNeg) 6 0) q (og q x0.toNatClampNeg) 3).1 ∧ q_e_10 = (fX4_close (sy_up g (100 + x0.toNatClampNeg) 6 0) q (og q x0.toNatClampNeg) 3).2 := by rw [← e_10]; exact ⟨rfl, rfl⟩
      refine lv_aload hx hb dX6_court_41 (lv_at hl 0 rfl) ?_
      refine sy_getRX4 hx hb hts hown hE hP (200 + (og q x0.toNatClampNeg)) (sy_kdK (iq_og hQ (at_lt hG.1 (by have := hG.2.1; have := hG.2.2.2.2.1; omega) c_3) c_7).2) 4 (by decide) (hts _ (u_in uk_3_77)) (v := .ref (ad (80 + (xg q (og q x0.toNatClampNeg))))) (by show some (sy_rv ad ((fX4_close (sy_up g (100 + x0.toNatClampNeg) 6 0) q (og q x0.toNatClampNeg) 3).2 (200 + (og q x0.toNatClampNeg)) 4)) = _; rw [close_q hT hQ (iq_og hQ (at_lt hG.1 (by have := hG.2.1; have := hG.2.2.2.2.1; omega) c_3) c_7).2, (iq_xg hQ (iq_og hQ (at_lt hG.1 (by have := hG.2.1; have := hG.2.2.2.2.1; omega) c_3) c_7).2).1]; rfl) dX6_court_43 ?_
      refine lv_dup hx hb dX6_court_46 rfl ?_
      refine sy_getRX1 hx hb hts hown hE hP (80 + (xg q (og q x0.toNatClampNeg))) (sy_kdX (iq_xg hQ (iq_og hQ (at_lt hG.1 (by have := hG.2.1; have := hG.2.2.2.2.1; omega) c_3) c_7).2).2) 1 (by decide) (hts _ (u_in uk_1_67)) (v := .int ((fX4_close (sy_up g (100 + x0.toNatClampNeg) 6 0) q (og q x0.toNatClampNeg) 3).1 (80 + (xg q (og q x0.toNatClampNeg))) 1)) rfl dX6_court_47 ?_
      refine lv_aload hx hb dX6_court_50 (lv_at hl 0 rfl) ?_
      refine sy_getRX4 hx hb hts hown hE hP (200 + (og q x0.toNatClampNeg)) (sy_kdK (iq_og hQ (at_lt hG.1 (by have := hG.2.1; have := hG.2.2.2.2.1; omega) c_3) c_7).2) 8 (by decide) (hts _ (u_in uk_3_85)) (v := .int ((fX4_close (sy_up g (100 + x0.toNatClampNeg) 6 0) q (og q x0.toNatClampNeg) 3).1 (200 + (og q x0.toNatClampNeg)) 8)) rfl dX6_court_52 ?_
      refine lv_iadd hx hb dX6_court_55 ?_
      refine sy_putRX1 hx hb hts hown hE hP hS (80 + (xg q (og q x0.toNatClampNeg))) (sy_kdX (iq_xg hQ (iq_og hQ (at_lt hG.1 (by have := hG.2.1; have := hG.2.2.2.2.1; omega) c_3) c_7).2).2) 1 (by decide) (hts _ (u_in uk_1_67)) rfl (ty := .int) (by decide +kernel) rfl rfl (sy_up (fX4_close (sy_up g (100 + x0.toNatClampNeg) 6 0) q (og q x0.toNatClampNeg) 3).1 (80 + (xg q (og q x0.toNatClampNeg))) 1 (((fX4_close (sy_up g (100 + x0.toNatClampNeg) 6 0) q (og q x0.toNatClampNeg) 3).1 (80 + (xg q (og q x0.toNatClampNeg))) 1) + ((fX4_close (sy_up g (100 + x0.toNatClampNeg) 6 0) q (og q x0.toNatClampNeg) 3).1 (200 + (og q x0.toNatClampNeg)) 8))) (fX4_close (sy_up g (100 + x0.toNatClampNeg) 6 0) q (og q x0.toNatClampNeg) 3).2 (by rw [sy_up_s (fX4_close (sy_up g (100 + x0.toNatClampNeg) 6 0) q (og q x0.toNatClampNeg) 3).1 (80 + (xg q (og q x0.toNatClampNeg))) 1 (((fX4_close (sy_up g (100 + x0.toNatClampNeg) 6 0) q (og q x0.toNatClampNeg) 3).1 (80 + (xg q (og q x0.toNatClampNeg))) 1) + ((fX4_close (sy_up g (100 + x0.toNatClampNeg) 6 0) q (og q x0.toNatClampNeg) 3).1 (200 + (og q x0.toNatClampNeg)) 8))]; exact se_RX1_1 _ _ _ _ _ _ _) (fun _ h9 => sy_up_o _ _ _ h9) (fun _ _ => rfl) dX6_court_56 (fun H locs hP hS => ?_)
      refine lv_aload hx hb dX6_court_59 (lv_at hl 0 rfl) ?_
      refine sy_getRX4 hx hb hts hown hE hP (200 + (og q x0.toNatClampNeg)) (sy_kdK (iq_og hQ (at_lt hG.1 (by have := hG.2.1; have := hG.2.2.2.2.1; omega) c_3) c_7).2) 0 (by decide) (hts _ (u_in uk_3_69)) (v := .int ((sy_up (fX4_close (sy_up g (100 + x0.toNatClampNeg) 6 0) q (og q x0.toNatClampNeg) 3).1 (80 + (xg q (og q x0.toNatClampNeg))) 1 (((fX4_close (sy_up g (100 + x0.toNatClampNeg) 6 0) q (og q x0.toNatClampNeg) 3).1 (80 + (xg q (og q x0.toNatClampNeg))) 1) + ((fX4_close (sy_up g (100 + x0.toNatClampNeg) 6 0) q (og q x0.toNatClampNeg) 3).1 (200 + (og q x0.toNatClampNeg)) 8))) (200 + (og q x0.toNatClampNeg)) 0)) rfl dX6_court_61 ?_
      exact vx_ret (sy_ireti hx hb hr hlocks hE hP hS dX6_court_64 ⟨Nat.le_of_ble_eq_true rfl, Nat.le_of_ble_eq_true rfl⟩ (by unfold fX6_court; rw [if_pos c_3, if_pos c_6, if_neg c_7, if_neg c_9] <;> rfl))
def fX6_stray (g : sG) (q : sQ) (x0 : Int32) (x1 : Int32) (x2 : Int32) : Int32 × sG × sQ := (if 0 ≤ x0 ∧ x0 < (g 61 2) then (if 0 ≤ x1 ∧ x1 < 3 then (if 0 ≤ x2 ∧ x2 < 4 then (if ¬ ((g (100 + x0.toNatClampNeg) 5) = 0) then (0, (fX3_comeTo g q x0.toNatClampNeg ((4 * x1) + x2) (g 60 9)), q) else (3, g, q)) else (1, g, q)) else (1, g, q)) else (1, g, q))
set_option maxHeartbeats 4000000 in
set_option maxRecDepth 100000 in
theorem mX6_stray (l : Launch) (hfl : l.stackTraces = false) (Z : sZ) (nT nK cT cK : Nat) (ad : Nat → Nat) (g : sG) (q : sQ) (x0 : Int32) (x1 : Int32) (x2 : Int32) (hT : nT ≤ 100) (hG : IG nT nK cT cK g) (hQ : IQ nT nK q) : sXv l Z yX6_stray (uW (.code yX6_stray cX6_stray 5 none)) { frames := 8, cells := 4, slots := 24, locals := 123 } [.ref (ad 60), .int x0, .int x1, .int x2] nT nK cT cK ad g q (fun g1 q1 => (0, g1, q1) = fX6_stray g q x0 x1 x2) (fun E => exc E = (fX6_stray g q x0 x1 x2).1) := by
  refine vx_ofW (cc := cX6_stray) (maxL := 5) (ret := none) (by decide) rfl ?_
  intro p e s m args below meth c s₁ B hml hno hv
  obtain ⟨rfl, hE, hP⟩ := hv
  have hx := B.exec
  have hb := B.bytes
  have hr := B.returns
  have hts := atoms_spec (ws := uW (.code yX6_stray cX6_stray 5 none)) B.pre
  have hown : s.vm.findClass RX6 = some m.cls := findClass_of_methodNamed B.named
  have hlocks := B.notSynchronized
  have hS : va_S (sy_A Z) s.heap s.heap [] := va_S.rf
  have hl := lv_entry ([.ref (ad 60), .int x0, .int x1, .int x2]) (n := 5) (Nat.le_of_ble_eq_true rfl)
  rw [lg_entry_eq]
  generalize (lg_sl ([.ref (ad 60), .int x0, .int x1, .int x2]) ++ List.replicate (5 - (lg_sl ([.ref (ad 60), .int x0, .int x1, .int x2])).length) Slot.unset).toArray = ls at hl ⊢
  have hl : lv_has ls 5 [(0, .ref (ad 60)), (1, .int x0), (2, .int x1), (3, .int x2)] := hl
  refine lv_aload_n hx hb dX6_stray_0 rfl (lv_at hl 0 rfl) ?_
  refine lv_iload_n hx hb dX6_stray_1 rfl (lv_at hl 1 rfl) ?_
  refine sy_xkr (sy_xV (o := 60) (As := [.int x0]) (rest := []) ⟨hx, hb, hml, hown, hts⟩ hE hP hS (mX6_thingAt l hfl Z nT nK cT cK ad g q x0 hT hG hQ) (cwV 1 hts (gu_V uk_3_12 uk_3_14 uk_0_4 uk_1_1 uk_3_15) rfl rfl rfl (by decide +kernel) ⟨Nat.le_of_ble_eq_true rfl, Nat.le_of_ble_eq_true rfl⟩) (sy_recv (kc := 7) hE hP rfl (by decide) rfl rfl rfl) rfl hl.1 rfl (Nat.le_of_ble_eq_true rfl) dX6_stray_2 ⟨Nat.le_of_ble_eq_true rfl, Nat.le_of_ble_eq_true rfl⟩) hno hlocks hE hS ⟨Nat.le_of_ble_eq_true rfl, Nat.le_of_ble_eq_true rfl⟩ (fun E9 h9 => (by rw [h9.1, exc_IO]; unfold fX6_stray; rw [if_neg h9.2] <;> rfl)) (fun o_e_1 H locs e_1 hP hS => ?_)
  obtain ⟨c9, rfl⟩ := e_1
  have c_3 := c9
  refine lv_astore (lv' := [(4, .ref (ad (100 + x0.toNatClampNeg))), (0, .ref (ad 60)), (1, .int x0), (2, .int x1), (3, .int x2)]) hx hb dX6_stray_5 hl (by decide) rfl (fun ls hl => ?_)
  refine lv_iload_n hx hb dX6_stray_7 rfl (lv_at hl 3 rfl) ?_
  refine lv_iconst (v := 3) hx hb dX6_stray_8 (by decide) ?_
  refine sy_xkv (sy_xS (As := [.int x1, .int 3]) (rest := []) ⟨hx, hb, hml, hown, hts⟩ hE hP hS (mX6_needIndex l hfl Z nT nK cT cK ad g q x1 3) (va_cwS 2 hts (gu_S uk_1_202 uk_1_203 uk_1_1 uk_1_204) rfl rfl rfl (by decide +kernel) ⟨Nat.le_of_ble_eq_true rfl, Nat.le_of_ble_eq_true rfl⟩) rfl hl.1 rfl (Nat.le_of_ble_eq_true rfl) dX6_stray_9 ⟨Nat.le_of_ble_eq_true rfl, Nat.le_of_ble_eq_true rfl⟩) hno hlocks hE hS ⟨Nat.le_of_ble_eq_true rfl, Nat.le_of_ble_eq_true rfl⟩ (fun E9 h9 => (by rw [h9.1, exc_IO]; unfold fX6_stray; rw [if_pos c_3, if_neg h9.2] <;> rfl)) (fun g_e_4 q_e_4 H locs e_4 hP hS => ?_)
  have c_6 := e_4.1
  obtain ⟨-, h7, h8⟩ := e_4; rw [h7, h8] at hP
  refine lv_iload_n hx hb dX6_stray_12 rfl (lv_at hl 4 rfl) ?_
  refine lv_iconst (v := 4) hx hb dX6_stray_13 (by decide) ?_
  refine sy_xkv (sy_xS (As := [.int x2, .int 4]) (rest := []) ⟨hx, hb, hml, hown, hts⟩ hE hP hS (mX6_needIndex l hfl Z nT nK cT cK ad g q x2 4) (va_cwS 2 hts (gu_S uk_1_202 uk_1_203 uk_1_1 uk_1_204) rfl rfl rfl (by decide +kernel) ⟨Nat.le_of_ble_eq_true rfl, Nat.le_of_ble_eq_true rfl⟩) rfl hl.1 rfl (Nat.le_of_ble_eq_true rfl) dX6_stray_14 ⟨Nat.le_of_ble_eq_true rfl, Nat.le_of_ble_eq_true rfl⟩) hno hlocks hE hS ⟨Nat.le_of_ble_eq_true rfl, Nat.le_of_ble_eq_true rfl⟩ (fun E9 h9 => (by rw [h9.1, exc_IO]; unfold fX6_stray; rw [if_pos c_3, if_pos c_6, if_neg h9.2] <;> rfl)) (fun g_e_7 q_e_7 H locs e_7 hP hS => ?_)
  have c_9 := e_7.1
  obtain ⟨-, h7, h8⟩ := e_7; rw [h7, h8] at hP
  refine lv_aload hx hb dX6_stray_17 (lv_at hl 0 rfl) ?_
  refine sy_getRX3 hx hb hts hown hE hP (100 + x0.toNatClampNeg) (sy_kdT (at_lt hG.1 (by have := hG.2.1; have := hG.2.2.2.2.1; omega) c_3) hT) 5 (by decide) (hts _ (u_in uk_2_85)) (v := .int (g (100 + x0.toNatClampNeg) 5)) rfl dX6_stray_19 ?_
  refine sy_xkv (sy_xS (As := [.int (g (100 + x0.toNatClampNeg) 5)]) (rest := []) ⟨hx, hb, hml, hown, hts⟩ hE hP hS (mX6_needState l hfl Z nT nK cT cK ad g q (g (100 + x0.toNatClampNeg) 5)) (va_cwS 1 hts (gu_S uk_2_50 uk_2_51 uk_1_1 uk_2_52) rfl rfl rfl (by decide +kernel) ⟨Nat.le_of_ble_eq_true rfl, Nat.le_of_ble_eq_true rfl⟩) rfl hl.1 rfl (Nat.le_of_ble_eq_true rfl) dX6_stray_22 ⟨Nat.le_of_ble_eq_true rfl, Nat.le_of_ble_eq_true rfl⟩) hno hlocks hE hS ⟨Nat.le_of_ble_eq_true rfl, Nat.le_of_ble_eq_true rfl⟩ (fun E9 h9 => (by rw [h9.1, exc_IS]; unfold fX6_stray; rw [if_pos c_3, if_pos c_6, if_pos c_9, if_neg h9.2] <;> rfl)) (fun g_e_10 q_e_10 H locs e_10 hP hS => ?_)
  have c_12 := e_10.1
  obtain ⟨-, h7, h8⟩ := e_10; rw [h7, h8] at hP
  refine lv_aload hx hb dX6_stray_25 (lv_at hl 0 rfl) ?_
  refine lv_iload_n hx hb dX6_stray_27 rfl (lv_at hl 3 rfl) ?_
  refine lv_iload_n hx hb dX6_stray_28 rfl (lv_at hl 4 rfl) ?_
  refine sy_ki (sy_rS (As := [.int x1, .int x2]) (rest := [.ref (ad (100 + x0.toNatClampNeg))]) ⟨hx, hb, hml, hown, hts⟩ hE hP hS (mX6_placeOf l hfl Z nT nK cT cK ad g q x1 x2 hT) (va_cwS 2 hts (gu_S uk_3_55 uk_3_56 uk_1_1 uk_3_57) rfl rfl rfl (by decide +kernel) ⟨Nat.le_of_ble_eq_true rfl, Nat.le_of_ble_eq_true rfl⟩) rfl hl.1 rfl (Nat.le_of_ble_eq_true rfl) dX6_stray_29 ⟨Nat.le_of_ble_eq_true rfl, Nat.le_of_ble_eq_true rfl⟩) hS (fun r_e_13 g_e_13 q_e_13 H locs e_13 hP hS => ?_)
  cases e_13
  refine sy_top (y := ((4 * x1) + x2)) (by rfl) ?_
  refine lv_aload_n hx hb dX6_stray_32 rfl (lv_at hl 1 rfl) ?_
  refine sy_getRX6 hx hb hts hown hE hP 60 rfl 9 (by decide) (hts _ (u_in uk_1_161)) (v := .int (g 60 9)) rfl dX6_stray_33 ?_
  refine sy_kv (sy_rV (o := (100 + x0.toNatClampNeg)) (As := [.int ((4 * x1) + x2), .int (g 60 9)]) (rest := []) ⟨hx, hb, hml, hown, hts⟩ hE hP hS (mX3_comeTo l hfl Z nT nK cT cK ad g q x0.toNatClampNeg ((4 * x1) + x2) (g 60 9) hT (at_lt hG.1 (by have := hG.2.1; have := hG.2.2.2.2.1; omega) c_3)) (cwV 2 hts (gu_V uk_3_210 uk_3_211 uk_3_212 uk_1_15 uk_3_213) rfl rfl rfl (by decide +kernel) ⟨Nat.le_of_ble_eq_true rfl, Nat.le_of_ble_eq_true rfl⟩) (sy_recv (kc := 4) hE hP (sy_kdT (at_lt hG.1 (by have := hG.2.1; have := hG.2.2.2.2.1; omega) c_3) hT) (by decide) rfl rfl rfl) rfl hl.1 rfl (Nat.le_of_ble_eq_true rfl) dX6_stray_36 ⟨Nat.le_of_ble_eq_true rfl, Nat.le_of_ble_eq_true rfl⟩) hS (fun g_e_14 q_e_14 H locs e_14 hP hS => ?_)
  cases e_14
  exact vx_ret (sy_vret hx hb hr hlocks hE hP hS dX6_stray_39 ⟨Nat.le_of_ble_eq_true rfl, Nat.le_of_ble_eq_true rfl⟩ (by unfold fX6_stray; rw [if_pos c_3, if_pos c_6, if_pos c_9, if_pos c_12] <;> rfl))
def fX6_transfer (g : sG) (q : sQ) (x0 : Int32) (x1 : Int32) : Int32 × Int32 × sG × sQ := (if 0 ≤ x0 ∧ x0 < (g 61 2) then (if 0 ≤ x1 ∧ x1 < 3 then (if ¬ ((fX3_canBeFound g q x0.toNatClampNeg) = 0) then (if (fX6_shelfFor g q x0.toNatClampNeg x1) = (-1) then (3, 0, g, q) else (0, (fX6_shelfFor g q x0.toNatClampNeg x1), (sy_up (fX3_comeTo g q x0.toNatClampNeg ((4 * x1) + (fX6_shelfFor g q x0.toNatClampNeg x1)) (g 60 9)) (100 + x0.toNatClampNeg) 7 ((fX3_comeTo g q x0.toNatClampNeg ((4 * x1) + (fX6_shelfFor g q x0.toNatClampNeg x1)) (g 60 9)) (100 + x0.toNatClampNeg) 8)), q)) else (3, 0, g, q)) else (1, 0, g, q)) else (1, 0, g, q))
set_option maxHeartbeats 4000000 in
set_option maxRecDepth 100000 in
theorem mX6_transfer (l : Launch) (hfl : l.stackTraces = false) (Z : sZ) (nT nK cT cK : Nat) (ad : Nat → Nat) (g : sG) (q : sQ) (x0 : Int32) (x1 : Int32) (hT : nT ≤ 100) (hG : IG nT nK cT cK g) (hQ : IQ nT nK q) : sXi l Z yX6_transfer (uW (.code yX6_transfer cX6_transfer 5 (some .int))) { frames := 8, cells := 4, slots := 24, locals := 123 } [.ref (ad 60), .int x0, .int x1] nT nK cT cK ad g q (fun r g1 q1 => (0, r, g1, q1) = fX6_transfer g q x0 x1) (fun E => exc E = (fX6_transfer g q x0 x1).1) := by
  refine vx_ofW (cc := cX6_transfer) (maxL := 5) (ret := (some .int)) (by decide) rfl ?_
  intro p e s m args below meth c s₁ B hml hno hv
  obtain ⟨rfl, hE, hP⟩ := hv
  have hx := B.exec
  have hb := B.bytes
  have hr := B.returns
  have hts := atoms_spec (ws := uW (.code yX6_transfer cX6_transfer 5 (some .int))) B.pre
  have hown : s.vm.findClass RX6 = some m.cls := findClass_of_methodNamed B.named
  have hlocks := B.notSynchronized
  have hS : va_S (sy_A Z) s.heap s.heap [] := va_S.rf
  have hl := lv_entry ([.ref (ad 60), .int x0, .int x1]) (n := 5) (Nat.le_of_ble_eq_true rfl)
  rw [lg_entry_eq]
  generalize (lg_sl ([.ref (ad 60), .int x0, .int x1]) ++ List.replicate (5 - (lg_sl ([.ref (ad 60), .int x0, .int x1])).length) Slot.unset).toArray = ls at hl ⊢
  have hl : lv_has ls 5 [(0, .ref (ad 60)), (1, .int x0), (2, .int x1)] := hl
  refine lv_aload_n hx hb dX6_transfer_0 rfl (lv_at hl 0 rfl) ?_
  refine lv_iload_n hx hb dX6_transfer_1 rfl (lv_at hl 1 rfl) ?_
  refine sy_xkr (sy_xV (o := 60) (As := [.int x0]) (rest := []) ⟨hx, hb, hml, hown, hts⟩ hE hP hS (mX6_thingAt l hfl Z nT nK cT cK ad g q x0 hT hG hQ) (cwV 1 hts (gu_V uk_3_12 uk_3_14 uk_0_4 uk_1_1 uk_3_15) rfl rfl rfl (by decide +kernel) ⟨Nat.le_of_ble_eq_true rfl, Nat.le_of_ble_eq_true rfl⟩) (sy_recv (kc := 7) hE hP rfl (by decide) rfl rfl rfl) rfl hl.1 rfl (Nat.le_of_ble_eq_true rfl) dX6_transfer_2 ⟨Nat.le_of_ble_eq_true rfl, Nat.le_of_ble_eq_true rfl⟩) hno hlocks hE hS ⟨Nat.le_of_ble_eq_true rfl, Nat.le_of_ble_eq_true rfl⟩ (fun E9 h9 => (by rw [h9.1, exc_IO]; unfold fX6_transfer; rw [if_neg h9.2] <;> rfl)) (fun o_e_1 H locs e_1 hP hS => ?_)
  obtain ⟨c9, rfl⟩ := e_1
  have c_3 := c9
  refine lv_astore_n (lv' := [(3, .ref (ad (100 + x0.toNatClampNeg))), (0, .ref (ad 60)), (1, .int x0), (2, .int x1)]) hx hb dX6_transfer_5 rfl hl (by decide) rfl (fun ls hl => ?_)
  refine lv_iload_n hx hb dX6_transfer_6 rfl (lv_at hl 3 rfl) ?_
  refine lv_iconst (v := 3) hx hb dX6_transfer_7 (by decide) ?_
  refine sy_xkv (sy_xS (As := [.int x1, .int 3]) (rest := []) ⟨hx, hb, hml, hown, hts⟩ hE hP hS (mX6_needIndex l hfl Z nT nK cT cK ad g q x1 3) (va_cwS 2 hts (gu_S uk_1_202 uk_1_203 uk_1_1 uk_1_204) rfl rfl rfl (by decide +kernel) ⟨Nat.le_of_ble_eq_true rfl, Nat.le_of_ble_eq_true rfl⟩) rfl hl.1 rfl (Nat.le_of_ble_eq_true rfl) dX6_transfer_8 ⟨Nat.le_of_ble_eq_true rfl, Nat.le_of_ble_eq_true rfl⟩) hno hlocks hE hS ⟨Nat.le_of_ble_eq_true rfl, Nat.le_of_ble_eq_true rfl⟩ (fun E9 h9 => (by rw [h9.1, exc_IO]; unfold fX6_transfer; rw [if_pos c_3, if_neg h9.2] <;> rfl)) (fun g_e_4 q_e_4 H locs e_4 hP hS => ?_)
  have c_6 := e_4.1
  obtain ⟨-, h7, h8⟩ := e_4; rw [h7, h8] at hP
  refine lv_aload_n hx hb dX6_transfer_11 rfl (lv_at hl 0 rfl) ?_
  refine sy_ki (sy_rV (o := (100 + x0.toNatClampNeg)) (As := []) (rest := []) ⟨hx, hb, hml, hown, hts⟩ hE hP hS (mX3_canBeFound l hfl Z nT nK cT cK ad g q x0.toNatClampNeg hT (at_lt hG.1 (by have := hG.2.1; have := hG.2.2.2.2.1; omega) c_3)) (cwV 0 hts (gu_V uk_3_221 uk_3_222 uk_3_223 uk_1_15 uk_3_224) rfl rfl rfl (by decide +kernel) ⟨Nat.le_of_ble_eq_true rfl, Nat.le_of_ble_eq_true rfl⟩) (sy_recv (kc := 4) hE hP (sy_kdT (at_lt hG.1 (by have := hG.2.1; have := hG.2.2.2.2.1; omega) c_3) hT) (by decide) rfl rfl rfl) rfl hl.1 rfl (Nat.le_of_ble_eq_true rfl) dX6_transfer_12 ⟨Nat.le_of_ble_eq_true rfl, Nat.le_of_ble_eq_true rfl⟩) hS (fun r_e_7 g_e_7 q_e_7 H locs e_7 hP hS => ?_)
  cases e_7
  refine sy_xkv (sy_xS (As := [.int (fX3_canBeFound g q x0.toNatClampNeg)]) (rest := []) ⟨hx, hb, hml, hown, hts⟩ hE hP hS (mX6_needState l hfl Z nT nK cT cK ad g q (fX3_canBeFound g q x0.toNatClampNeg)) (va_cwS 1 hts (gu_S uk_2_50 uk_2_51 uk_1_1 uk_2_52) rfl rfl rfl (by decide +kernel) ⟨Nat.le_of_ble_eq_true rfl, Nat.le_of_ble_eq_true rfl⟩) rfl hl.1 rfl (Nat.le_of_ble_eq_true rfl) dX6_transfer_15 ⟨Nat.le_of_ble_eq_true rfl, Nat.le_of_ble_eq_true rfl⟩) hno hlocks hE hS ⟨Nat.le_of_ble_eq_true rfl, Nat.le_of_ble_eq_true rfl⟩ (fun E9 h9 => (by rw [h9.1, exc_IS]; unfold fX6_transfer; rw [if_pos c_3, if_pos c_6, if_neg h9.2] <;> rfl)) (fun g_e_8 q_e_8 H locs e_8 hP hS => ?_)
  have c_10 := e_8.1
  obtain ⟨-, h7, h8⟩ := e_8; rw [h7, h8] at hP
  refine lv_aload_n hx hb dX6_transfer_18 rfl (lv_at hl 1 rfl) ?_
  refine lv_aload_n hx hb dX6_transfer_19 rfl (lv_at hl 0 rfl) ?_
  refine lv_iload_n hx hb dX6_transfer_20 rfl (lv_at hl 3 rfl) ?_
  refine sy_ki (sy_rV (o := 60) (As := [.ref (ad (100 + x0.toNatClampNeg)), .int x1]) (rest := []) ⟨hx, hb, hml, hown, hts⟩ hE hP hS (mX6_shelfFor l hfl Z nT nK cT cK ad g q x0.toNatClampNeg x1 hT hG hQ (at_lt hG.1 (by have := hG.2.1; have := hG.2.2.2.2.1; omega) c_3)) (cwV 2 hts (gu_V uk_3_51 uk_3_53 uk_0_8 uk_1_1 uk_3_54) rfl rfl rfl (by decide +kernel) ⟨Nat.le_of_ble_eq_true rfl, Nat.le_of_ble_eq_true rfl⟩) (sy_recv (kc := 7) hE hP rfl (by decide) rfl rfl rfl) rfl hl.1 rfl (Nat.le_of_ble_eq_true rfl) dX6_transfer_21 ⟨Nat.le_of_ble_eq_true rfl, Nat.le_of_ble_eq_true rfl⟩) hS (fun r_e_11 g_e_11 q_e_11 H locs e_11 hP hS => ?_)
  cases e_11
  refine lv_istore (lv' := [(4, .int (fX6_shelfFor g q x0.toNatClampNeg x1)), (3, .ref (ad (100 + x0.toNatClampNeg))), (0, .ref (ad 60)), (1, .int x0), (2, .int x1)]) hx hb dX6_transfer_24 hl (by decide) rfl (fun ls hl => ?_)
  refine lv_iload hx hb dX6_transfer_26 (lv_at hl 0 rfl) ?_
  refine lv_iconst (v := (-1)) hx hb dX6_transfer_28 (by decide) ?_
  refine lv_icmp_eq (tgt := 36) hx hb dX6_transfer_29 (by decide) (fun c_12 => ?_) (fun c_12 => ?_)
  · skip
    refine lv_iconst (v := 0) hx hb dX6_transfer_36 (by decide) ?_
    refine sy_xkv (sy_xS (As := [.int 0]) (rest := []) ⟨hx, hb, hml, hown, hts⟩ hE hP hS (mX6_needState l hfl Z nT nK cT cK ad g q 0) (va_cwS 1 hts (gu_S uk_2_50 uk_2_51 uk_1_1 uk_2_52) rfl rfl rfl (by decide +kernel) ⟨Nat.le_of_ble_eq_true rfl, Nat.le_of_ble_eq_true rfl⟩) rfl hl.1 rfl (Nat.le_of_ble_eq_true rfl) dX6_transfer_37 ⟨Nat.le_of_ble_eq_true rfl, Nat.le_of_ble_eq_true rfl⟩) hno hlocks hE hS ⟨Nat.le_of_ble_eq_true rfl, Nat.le_of_ble_eq_true rfl⟩ (fun E9 h9 => (by rw [h9.1, exc_IS]; unfold fX6_transfer; rw [if_pos c_3, if_pos c_6, if_pos c_10, if_pos c_12] <;> rfl)) (fun g_e_13 q_e_13 H locs e_13 hP hS => ?_)
    exact absurd rfl e_13.1
  · skip
    refine lv_iconst (v := 1) hx hb dX6_transfer_32 (by decide) ?_
    refine lv_goto (tgt := 37) hx hb dX6_transfer_33 (by decide) ?_
    refine sy_xkv (sy_xS (As := [.int 1]) (rest := []) ⟨hx, hb, hml, hown, hts⟩ hE hP hS (mX6_needState l hfl Z nT nK cT cK ad g q 1) (va_cwS 1 hts (gu_S uk_2_50 uk_2_51 uk_1_1 uk_2_52) rfl rfl rfl (by decide +kernel) ⟨Nat.le_of_ble_eq_true rfl, Nat.le_of_ble_eq_true rfl⟩) rfl hl.1 rfl (Nat.le_of_ble_eq_true rfl) dX6_transfer_37 ⟨Nat.le_of_ble_eq_true rfl, Nat.le_of_ble_eq_true rfl⟩) hno hlocks hE hS ⟨Nat.le_of_ble_eq_true rfl, Nat.le_of_ble_eq_true rfl⟩ (fun E9 h9 => (absurd (by decide) h9.2)) (fun g_e_16 q_e_16 H locs e_16 hP hS => ?_)
    obtain ⟨-, h7, h8⟩ := e_16; rw [h7, h8] at hP
    refine lv_aload_n hx hb dX6_transfer_40 rfl (lv_at hl 1 rfl) ?_
    refine lv_iload_n hx hb dX6_transfer_41 rfl (lv_at hl 4 rfl) ?_
    refine lv_iload hx hb dX6_transfer_42 (lv_at hl 0 rfl) ?_
    refine sy_ki (sy_rS (As := [.int x1, .int (fX6_shelfFor g q x0.toNatClampNeg x1)]) (rest := [.ref (ad (100 + x0.toNatClampNeg))]) ⟨hx, hb, hml, hown, hts⟩ hE hP hS (mX6_placeOf l hfl Z nT nK cT cK ad g q x1 (fX6_shelfFor g q x0.toNatClampNeg x1) hT) (va_cwS 2 hts (gu_S uk_3_55 uk_3_56 uk_1_1 uk_3_57) rfl rfl rfl (by decide +kernel) ⟨Nat.le_of_ble_eq_true rfl, Nat.le_of_ble_eq_true rfl⟩) rfl hl.1 rfl (Nat.le_of_ble_eq_true rfl) dX6_transfer_44 ⟨Nat.le_of_ble_eq_true rfl, Nat.le_of_ble_eq_true rfl⟩) hS (fun r_e_19 g_e_19 q_e_19 H locs e_19 hP hS => ?_)
    cases e_19
    refine sy_top (y := ((4 * x1) + (fX6_shelfFor g q x0.toNatClampNeg x1))) (by rfl) ?_
    refine lv_aload_n hx hb dX6_transfer_47 rfl (lv_at hl 2 rfl) ?_
    refine sy_getRX6 hx hb hts hown hE hP 60 rfl 9 (by decide) (hts _ (u_in uk_1_161)) (v := .int (g 60 9)) rfl dX6_transfer_48 ?_
    refine sy_kv (sy_rV (o := (100 + x0.toNatClampNeg)) (As := [.int ((4 * x1) + (fX6_shelfFor g q x0.toNatClampNeg x1)), .int (g 60 9)]) (rest := []) ⟨hx, hb, hml, hown, hts⟩ hE hP hS (mX3_comeTo l hfl Z nT nK cT cK ad g q x0.toNatClampNeg ((4 * x1) + (fX6_shelfFor g q x0.toNatClampNeg x1)) (g 60 9) hT (at_lt hG.1 (by have := hG.2.1; have := hG.2.2.2.2.1; omega) c_3)) (cwV 2 hts (gu_V uk_3_210 uk_3_211 uk_3_212 uk_1_15 uk_3_213) rfl rfl rfl (by decide +kernel) ⟨Nat.le_of_ble_eq_true rfl, Nat.le_of_ble_eq_true rfl⟩) (sy_recv (kc := 4) hE hP (sy_kdT (at_lt hG.1 (by have := hG.2.1; have := hG.2.2.2.2.1; omega) c_3) hT) (by decide) rfl rfl rfl) rfl hl.1 rfl (Nat.le_of_ble_eq_true rfl) dX6_transfer_51 ⟨Nat.le_of_ble_eq_true rfl, Nat.le_of_ble_eq_true rfl⟩) hS (fun g_e_20 q_e_20 H locs e_20 hP hS => ?_)
    cases e_20
    refine lv_aload_n hx hb dX6_transfer_54 rfl (lv_at hl 1 rfl) ?_
    refine lv_aload_n hx hb dX6_transfer_55 rfl (lv_at hl 1 rfl) ?_
    refine sy_getRX3 hx hb hts hown hE hP (100 + x0.toNatClampNeg) (sy_kdT (at_lt hG.1 (by have := hG.2.1; have := hG.2.2.2.2.1; omega) c_3) hT) 8 (by decide) (hts _ (u_in uk_2_92)) (v := .int ((fX3_comeTo g q x0.toNatClampNeg ((4 * x1) + (fX6_shelfFor g q x0.toNatClampNeg x1)) (g 60 9)) (100 + x0.toNatClampNeg) 8)) rfl dX6_transfer_56 ?_
    refine sy_putRX3 hx hb hts hown hE hP hS (100 + x0.toNatClampNeg) (sy_kdT (at_lt hG.1 (by have := hG.2.1; have := hG.2.2.2.2.1; omega) c_3) hT) 7 (by decide) (hts _ (u_in uk_2_90)) rfl (ty := .int) (by decide +kernel) rfl rfl (sy_up (fX3_comeTo g q x0.toNatClampNeg ((4 * x1) + (fX6_shelfFor g q x0.toNatClampNeg x1)) (g 60 9)) (100 + x0.toNatClampNeg) 7 ((fX3_comeTo g q x0.toNatClampNeg ((4 * x1) + (fX6_shelfFor g q x0.toNatClampNeg x1)) (g 60 9)) (100 + x0.toNatClampNeg) 8)) q (by rw [sy_up_s (fX3_comeTo g q x0.toNatClampNeg ((4 * x1) + (fX6_shelfFor g q x0.toNatClampNeg x1)) (g 60 9)) (100 + x0.toNatClampNeg) 7 ((fX3_comeTo g q x0.toNatClampNeg ((4 * x1) + (fX6_shelfFor g q x0.toNatClampNeg x1)) (g 60 9)) (100 + x0.toNatClampNeg) 8)]; exact se_RX3_7 _ _ _ _ _ _ _) (fun _ h9 => sy_up_o _ _ _ h9) (fun _ _ => rfl) dX6_transfer_59 (fun H locs hP hS => ?_)
    refine lv_iload hx hb dX6_transfer_62 (lv_at hl 0 rfl) ?_
    exact vx_ret (sy_ireti hx hb hr hlocks hE hP hS dX6_transfer_64 ⟨Nat.le_of_ble_eq_true rfl, Nat.le_of_ble_eq_true rfl⟩ (by unfold fX6_transfer; rw [if_pos c_3, if_pos c_6, if_pos c_10, if_neg c_12] <;> rfl))
def fX6_offer (g : sG) (q : sQ) (x0 : Int32) (x1 : Int32) : Int32 × Int32 × sG × sQ := (if 0 ≤ x0 ∧ x0 < (g 62 2) then (if 0 ≤ x1 ∧ x1 ≤ 100000 then (if ¬ ((fX6_mayBeOffered g q x0.toNatClampNeg) = 0) then (if (fX6_reserveOf g q x0.toNatClampNeg (fX6_interestNow g q x0.toNatClampNeg)) ≤ x1 then (if 0 ≤ (((x1 - (g (200 + x0.toNatClampNeg) 8)) - (fX6_interestNow g q x0.toNatClampNeg)) - ((x1 * 5) / 100)) then (0, (((x1 - (g (200 + x0.toNatClampNeg) 8)) - (fX6_interestNow g q x0.toNatClampNeg)) - ((x1 * 5) / 100)), (sy_up (sy_up (sy_up (sy_up (fX5_move (fX4_close g q x0.toNatClampNeg 2).1 (fX4_close g q x0.toNatClampNeg 2).2 x1) (80 + (xg q x0.toNatClampNeg)) 2 (((fX5_move (fX4_close g q x0.toNatClampNeg 2).1 (fX4_close g q x0.toNatClampNeg 2).2 x1) (80 + (xg q x0.toNatClampNeg)) 2) + (x1 - ((fX5_move (fX4_close g q x0.toNatClampNeg 2).1 (fX4_close g q x0.toNatClampNeg 2).2 x1) (200 + x0.toNatClampNeg) 5)))) (200 + x0.toNatClampNeg) 14 (((x1 - (g (200 + x0.toNatClampNeg) 8)) - (fX6_interestNow g q x0.toNatClampNeg)) - ((x1 * 5) / 100))) (200 + x0.toNatClampNeg) 15 ((sy_up (sy_up (fX5_move (fX4_close g q x0.toNatClampNeg 2).1 (fX4_close g q x0.toNatClampNeg 2).2 x1) (80 + (xg q x0.toNatClampNeg)) 2 (((fX5_move (fX4_close g q x0.toNatClampNeg 2).1 (fX4_close g q x0.toNatClampNeg 2).2 x1) (80 + (xg q x0.toNatClampNeg)) 2) + (x1 - ((fX5_move (fX4_close g q x0.toNatClampNeg 2).1 (fX4_close g q x0.toNatClampNeg 2).2 x1) (200 + x0.toNatClampNeg) 5)))) (200 + x0.toNatClampNeg) 14 (((x1 - (g (200 + x0.toNatClampNeg) 8)) - (fX6_interestNow g q x0.toNatClampNeg)) - ((x1 * 5) / 100))) 60 9)) 68 1 (((sy_up (sy_up (sy_up (fX5_move (fX4_close g q x0.toNatClampNeg 2).1 (fX4_close g q x0.toNatClampNeg 2).2 x1) (80 + (xg q x0.toNatClampNeg)) 2 (((fX5_move (fX4_close g q x0.toNatClampNeg 2).1 (fX4_close g q x0.toNatClampNeg 2).2 x1) (80 + (xg q x0.toNatClampNeg)) 2) + (x1 - ((fX5_move (fX4_close g q x0.toNatClampNeg 2).1 (fX4_close g q x0.toNatClampNeg 2).2 x1) (200 + x0.toNatClampNeg) 5)))) (200 + x0.toNatClampNeg) 14 (((x1 - (g (200 + x0.toNatClampNeg) 8)) - (fX6_interestNow g q x0.toNatClampNeg)) - ((x1 * 5) / 100))) (200 + x0.toNatClampNeg) 15 ((sy_up (sy_up (fX5_move (fX4_close g q x0.toNatClampNeg 2).1 (fX4_close g q x0.toNatClampNeg 2).2 x1) (80 + (xg q x0.toNatClampNeg)) 2 (((fX5_move (fX4_close g q x0.toNatClampNeg 2).1 (fX4_close g q x0.toNatClampNeg 2).2 x1) (80 + (xg q x0.toNatClampNeg)) 2) + (x1 - ((fX5_move (fX4_close g q x0.toNatClampNeg 2).1 (fX4_close g q x0.toNatClampNeg 2).2 x1) (200 + x0.toNatClampNeg) 5)))) (200 + x0.toNatClampNeg) 14 (((x1 - (g (200 + x0.toNatClampNeg) 8)) - (fX6_interestNow g q x0.toNatClampNeg)) - ((x1 * 5) / 100))) 60 9)) 68 1) + (((x1 - (g (200 + x0.toNatClampNeg) 8)) - (fX6_interestNow g q x0.toNatClampNeg)) - ((x1 * 5) / 100)))), (fX4_close g q x0.toNatClampNeg 2).2) else (0, (((x1 - (g (200 + x0.toNatClampNeg) 8)) - (fX6_interestNow g q x0.toNatClampNeg)) - ((x1 * 5) / 100)), (sy_up (sy_up (fX5_move (fX4_close g q x0.toNatClampNeg 2).1 (fX4_close g q x0.toNatClampNeg 2).2 x1) (80 + (xg q x0.toNatClampNeg)) 2 (((fX5_move (fX4_close g q x0.toNatClampNeg 2).1 (fX4_close g q x0.toNatClampNeg 2).2 x1) (80 + (xg q x0.toNatClampNeg)) 2) + (x1 - ((fX5_move (fX4_close g q x0.toNatClampNeg 2).1 (fX4_close g q x0.toNatClampNeg 2).2 x1) (200 + x0.toNatClampNeg) 5)))) (80 + (xg q x0.toNatClampNeg)) 1 (((sy_up (fX5_move (fX4_close g q x0.toNatClampNeg 2).1 (fX4_close g q x0.toNatClampNeg 2).2 x1) (80 + (xg q x0.toNatClampNeg)) 2 (((fX5_move (fX4_close g q x0.toNatClampNeg 2).1 (fX4_close g q x0.toNatClampNeg 2).2 x1) (80 + (xg q x0.toNatClampNeg)) 2) + (x1 - ((fX5_move (fX4_close g q x0.toNatClampNeg 2).1 (fX4_close g q x0.toNatClampNeg 2).2 x1) (200 + x0.toNatClampNeg) 5)))) (80 + (xg q x0.toNatClampNeg)) 1) - (((x1 - (g (200 + x0.toNatClampNeg) 8)) - (fX6_interestNow g q x0.toNatClampNeg)) - ((x1 * 5) / 100)))), (fX4_close g q x0.toNatClampNeg 2).2)) else (0, (-2147483648), (sy_up g (200 + x0.toNatClampNeg) 13 ((g (200 + x0.toNatClampNeg) 13) + 1)), q)) else (3, 0, g, q)) else (2, 0, g, q)) else (1, 0, g, q))
set_option maxHeartbeats 4000000 in
set_option maxRecDepth 100000 in
theorem mX6_offer (l : Launch) (hfl : l.stackTraces = false) (Z : sZ) (nT nK cT cK : Nat) (ad : Nat → Nat) (g : sG) (q : sQ) (x0 : Int32) (x1 : Int32) (hT : nT ≤ 100) (hG : IG nT nK cT cK g) (hQ : IQ nT nK q) : sXi l Z yX6_offer (uW (.code yX6_offer cX6_offer 7 (some .int))) { frames := 8, cells := 3, slots := 18, locals := 123 } [.ref (ad 60), .int x0, .int x1] nT nK cT cK ad g q (fun r g1 q1 => (0, r, g1, q1) = fX6_offer g q x0 x1) (fun E => exc E = (fX6_offer g q x0 x1).1) := by
  refine vx_ofW (cc := cX6_offer) (maxL := 7) (ret := (some .int)) (by decide) rfl ?_
  intro p e s m args below meth c s₁ B hml hno hv
  obtain ⟨rfl, hE, hP⟩ := hv
  have hx := B.exec
  have hb := B.bytes
  have hr := B.returns
  have hts := atoms_spec (ws := uW (.code yX6_offer cX6_offer 7 (some .int))) B.pre
  have hown : s.vm.findClass RX6 = some m.cls := findClass_of_methodNamed B.named
  have hlocks := B.notSynchronized
  have hS : va_S (sy_A Z) s.heap s.heap [] := va_S.rf
  have hl := lv_entry ([.ref (ad 60), .int x0, .int x1]) (n := 7) (Nat.le_of_ble_eq_true rfl)
  rw [lg_entry_eq]
  generalize (lg_sl ([.ref (ad 60), .int x0, .int x1]) ++ List.replicate (7 - (lg_sl ([.ref (ad 60), .int x0, .int x1])).length) Slot.unset).toArray = ls at hl ⊢
  have hl : lv_has ls 7 [(0, .ref (ad 60)), (1, .int x0), (2, .int x1)] := hl
  have K_1 : (0 ≤ x0 ∧ x0 < (g 62 2)) → (0 ≤ x1 ∧ x1 ≤ 100000) → (¬ ((fX6_mayBeOffered g q x0.toNatClampNeg) = 0)) → ((fX6_reserveOf g q x0.toNatClampNeg (fX6_interestNow g q x0.toNatClampNeg)) ≤ x1) → (0 ≤ (((x1 - (g (200 + x0.toNatClampNeg) 8)) - (fX6_interestNow g q x0.toNatClampNeg)) - ((x1 * 5) / 100))) → ∀ (H : Heap) (locs : List Loc) (ls : Array Slot), Sy Z nT nK cT cK ad (sy_up (sy_up (fX5_move (fX4_close g q x0.toNatClampNeg 2).1 (fX4_close g q x0.toNatClampNeg 2).2 x1) (80 + (xg q x0.toNatClampNeg)) 2 (((fX5_move (fX4_close g q x0.toNatClampNeg 2).1 (fX4_close g q x0.toNatClampNeg 2).2 x1) (80 + (xg q x0.toNatClampNeg)) 2) + (x1 - ((fX5_move (fX4_close g q x0.toNatClampNeg 2).1 (fX4_close g q x0.toNatClampNeg 2).2 x1) (200 + x0.toNatClampNeg) 5)))) (200 + x0.toNatClampNeg) 14 (((x1 - (g (200 + x0.toNatClampNeg) 8)) - (fX6_interestNow g q x0.toNatClampNeg)) - ((x1 * 5) / 100))) (fX4_close g q x0.toNatClampNeg 2).2 H → va_S (sy_A Z) s.heap H locs → lv_has ls 7 [(6, .int (((x1 - (g (200 + x0.toNatClampNeg) 8)) - (fX6_interestNow g q x0.toNatClampNeg)) - ((x1 * 5) / 100))), (5, .int ((x1 * 5) / 100)), (4, .int (fX6_interestNow g q x0.toNatClampNeg)), (3, .ref (ad (200 + x0.toNatClampNeg))), (0, .ref (ad 60)), (1, .int x0), (2, .int x1)] → W p l e ({ frames := 8, cells := 3, slots := 18, locals := 123 } : Room) s m ([.ref (ad 60), .int x0, .int x1] : List Value).toArray below meth c H locs 3 18 (vx_MQ below (sQi Z nT nK cT cK ad (fun r g1 q1 => (0, r, g1, q1) = fX6_offer g q x0 x1)) (sQx Z nT nK cT cK ad g q (fun E => exc E = (fX6_offer g q x0 x1).1)) ([.ref (ad 60), .int x0, .int x1] : List Value).toArray s 3 18 (sy_A Z)) (F0 m 135 ls [.ref (ad 60), .ref (ad (200 + x0.toNatClampNeg))]) := by
    intro c_3 c_6 c_10 c_13 c_16 H locs ls hP hS hl
    refine sy_getRX6 hx hb hts hown hE hP 60 rfl 9 (by decide) (hts _ (u_in uk_1_161)) (v := .int ((sy_up (sy_up (fX5_move (fX4_close g q x0.toNatClampNeg 2).1 (fX4_close g q x0.toNatClampNeg 2).2 x1) (80 + (xg q x0.toNatClampNeg)) 2 (((fX5_move (fX4_close g q x0.toNatClampNeg 2).1 (fX4_close g q x0.toNatClampNeg 2).2 x1) (80 + (xg q x0.toNatClampNeg)) 2) + (x1 - ((fX5_move (fX4_close g q x0.toNatClampNeg 2).1 (fX4_close g q x0.toNatClampNeg 2).2 x1) (200 + x0.toNatClampNeg) 5)))) (200 + x0.toNatClampNeg) 14 (((x1 - (g (200 + x0.toNatClampNeg) 8)) - (fX6_interestNow g q x0.toNatClampNeg)) - ((x1 * 5) / 100))) 60 9)) rfl dX6_offer_135 ?_
    refine sy_putRX4 hx hb hts hown hE hP hS (200 + x0.toNatClampNeg) (sy_kdK (at_lt hG.2.2.2.1 (by have := hG.2.1; have := hG.2.2.2.2.1; omega) c_3)) 15 (by decide) (hts _ (u_in uk_3_98)) rfl (ty := .int) (by decide +kernel) rfl rfl (sy_up (sy_up (sy_up (fX5_move (fX4_close g q x0.toNatClampNeg 2).1 (fX4_close g q x0.toNatClampNeg 2).2 x1) (80 + (xg q x0.toNatClampNeg)) 2 (((fX5_move (fX4_close g q x0.toNatClampNeg 2).1 (fX4_close g q x0.toNatClampNeg 2).2 x1) (80 + (xg q x0.toNatClampNeg)) 2) + (x1 - ((fX5_move (fX4_close g q x0.toNatClampNeg 2).1 (fX4_close g q x0.toNatClampNeg 2).2 x1) (200 + x0.toNatClampNeg) 5)))) (200 + x0.toNatClampNeg) 14 (((x1 - (g (200 + x0.toNatClampNeg) 8)) - (fX6_interestNow g q x0.toNatClampNeg)) - ((x1 * 5) / 100))) (200 + x0.toNatClampNeg) 15 ((sy_up (sy_up (fX5_move (fX4_close g q x0.toNatClampNeg 2).1 (fX4_close g q x0.toNatClampNeg 2).2 x1) (80 + (xg q x0.toNatClampNeg)) 2 (((fX5_move (fX4_close g q x0.toNatClampNeg 2).1 (fX4_close g q x0.toNatClampNeg 2).2 x1) (80 + (xg q x0.toNatClampNeg)) 2) + (x1 - ((fX5_move (fX4_close g q x0.toNatClampNeg 2).1 (fX4_close g q x0.toNatClampNeg 2).2 x1) (200 + x0.toNatClampNeg) 5)))) (200 + x0.toNatClampNeg) 14 (((x1 - (g (200 + x0.toNatClampNeg) 8)) - (fX6_interestNow g q x0.toNatClampNeg)) - ((x1 * 5) / 100))) 60 9)) (fX4_close g q x0.toNatClampNeg 2).2 (by rw [sy_up_s (sy_up (sy_up (fX5_move (fX4_close g q x0.toNatClampNeg 2).1 (fX4_close g q x0.toNatClampNeg 2).2 x1) (80 + (xg q x0.toNatClampNeg)) 2 (((fX5_move (fX4_close g q x0.toNatClampNeg 2).1 (fX4_close g q x0.toNatClampNeg 2).2 x1) (80 + (xg q x0.toNatClampNeg)) 2) + (x1 - ((fX5_move (fX4_close g q x0.toNatClampNeg 2).1 (fX4_close g q x0.toNatClampNeg 2).2 x1) (200 + x0.toNatClampNeg) 5)))) (200 + x0.toNatClampNeg) 14 (((x1 - (g (200 + x0.toNatClampNeg) 8)) - (fX6_interestNow g q x0.toNatClampNeg)) - ((x1 * 5) / 100))) (200 + x0.toNatClampNeg) 15 ((sy_up (sy_up (fX5_move (fX4_close g q x0.toNatClampNeg 2).1 (fX4_close g q x0.toNatClampNeg 2).2 x1) (80 + (xg q x0.toNatClampNeg)) 2 (((fX5_move (fX4_close g q x0.toNatClampNeg 2).1 (fX4_close g q x0.toNatClampNeg 2).2 x1) (80 + (xg q x0.toNatClampNeg)) 2) + (x1 - ((fX5_move (fX4_close g q x0.toNatClampNeg 2).1 (fX4_close g q x0.toNatClampNeg 2).2 x1) (200 + x0.toNatClampNeg) 5)))) (200 + x0.toNatClampNeg) 14 (((x1 - (g (200 + x0.toNatClampNeg) 8)) - (fX6_interestNow g q x0.toNatClampNeg)) - ((x1 * 5) / 100))) 60 9)]; exact se_RX4_15 _ _ _ _ _ _ _) (fun _ h9 => sy_up_o _ _ _ h9) (fun _ _ => rfl) dX6_offer_138 (fun H locs hP hS => ?_)
    refine lv_aload_n hx hb dX6_offer_141 rfl (lv_at hl 4 rfl) ?_
    refine sy_getRX6 hx hb hts hown hE hP 60 rfl 7 (by decide) (hts _ (u_in uk_1_159)) (v := .ref (ad 68)) rfl dX6_offer_142 ?_
    refine lv_dup hx hb dX6_offer_145 rfl ?_
    refine sy_getRX5 hx hb hts hown hE hP 68 rfl 1 (by decide) (hts _ (u_in uk_1_136)) (v := .int ((sy_up (sy_up (sy_up (fX5_move (fX4_close g q x0.toNatClampNeg 2).1 (fX4_close g q x0.toNatClampNeg 2).2 x1) (80 + (xg q x0.toNatClampNeg)) 2 (((fX5_move (fX4_close g q x0.toNatClampNeg 2).1 (fX4_close g q x0.toNatClampNeg 2).2 x1) (80 + (xg q x0.toNatClampNeg)) 2) + (x1 - ((fX5_move (fX4_close g q x0.toNatClampNeg 2).1 (fX4_close g q x0.toNatClampNeg 2).2 x1) (200 + x0.toNatClampNeg) 5)))) (200 + x0.toNatClampNeg) 14 (((x1 - (g (200 + x0.toNatClampNeg) 8)) - (fX6_interestNow g q x0.toNatClampNeg)) - ((x1 * 5) / 100))) (200 + x0.toNatClampNeg) 15 ((sy_up (sy_up (fX5_move (fX4_close g q x0.toNatClampNeg 2).1 (fX4_close g q x0.toNatClampNeg 2).2 x1) (80 + (xg q x0.toNatClampNeg)) 2 (((fX5_move (fX4_close g q x0.toNatClampNeg 2).1 (fX4_close g q x0.toNatClampNeg 2).2 x1) (80 + (xg q x0.toNatClampNeg)) 2) + (x1 - ((fX5_move (fX4_close g q x0.toNatClampNeg 2).1 (fX4_close g q x0.toNatClampNeg 2).2 x1) (200 + x0.toNatClampNeg) 5)))) (200 + x0.toNatClampNeg) 14 (((x1 - (g (200 + x0.toNatClampNeg) 8)) - (fX6_interestNow g q x0.toNatClampNeg)) - ((x1 * 5) / 100))) 60 9)) 68 1)) rfl dX6_offer_146 ?_
    refine lv_iload hx hb dX6_offer_149 (lv_at hl 0 rfl) ?_
    refine lv_iadd hx hb dX6_offer_151 ?_
    refine sy_putRX5 hx hb hts hown hE hP hS 68 rfl 1 (by decide) (hts _ (u_in uk_1_136)) rfl (ty := .int) (by decide +kernel) rfl rfl (sy_up (sy_up (sy_up (sy_up (fX5_move (fX4_close g q x0.toNatClampNeg 2).1 (fX4_close g q x0.toNatClampNeg 2).2 x1) (80 + (xg q x0.toNatClampNeg)) 2 (((fX5_move (fX4_close g q x0.toNatClampNeg 2).1 (fX4_close g q x0.toNatClampNeg 2).2 x1) (80 + (xg q x0.toNatClampNeg)) 2) + (x1 - ((fX5_move (fX4_close g q x0.toNatClampNeg 2).1 (fX4_close g q x0.toNatClampNeg 2).2 x1) (200 + x0.toNatClampNeg) 5)))) (200 + x0.toNatClampNeg) 14 (((x1 - (g (200 + x0.toNatClampNeg) 8)) - (fX6_interestNow g q x0.toNatClampNeg)) - ((x1 * 5) / 100))) (200 + x0.toNatClampNeg) 15 ((sy_up (sy_up (fX5_move (fX4_close g q x0.toNatClampNeg 2).1 (fX4_close g q x0.toNatClampNeg 2).2 x1) (80 + (xg q x0.toNatClampNeg)) 2 (((fX5_move (fX4_close g q x0.toNatClampNeg 2).1 (fX4_close g q x0.toNatClampNeg 2).2 x1) (80 + (xg q x0.toNatClampNeg)) 2) + (x1 - ((fX5_move (fX4_close g q x0.toNatClampNeg 2).1 (fX4_close g q x0.toNatClampNeg 2).2 x1) (200 + x0.toNatClampNeg) 5)))) (200 + x0.toNatClampNeg) 14 (((x1 - (g (200 + x0.toNatClampNeg) 8)) - (fX6_interestNow g q x0.toNatClampNeg)) - ((x1 * 5) / 100))) 60 9)) 68 1 (((sy_up (sy_up (sy_up (fX5_move (fX4_close g q x0.toNatClampNeg 2).1 (fX4_close g q x0.toNatClampNeg 2).2 x1) (80 + (xg q x0.toNatClampNeg)) 2 (((fX5_move (fX4_close g q x0.toNatClampNeg 2).1 (fX4_close g q x0.toNatClampNeg 2).2 x1) (80 + (xg q x0.toNatClampNeg)) 2) + (x1 - ((fX5_move (fX4_close g q x0.toNatClampNeg 2).1 (fX4_close g q x0.toNatClampNeg 2).2 x1) (200 + x0.toNatClampNeg) 5)))) (200 + x0.toNatClampNeg) 14 (((x1 - (g (200 + x0.toNatClampNeg) 8)) - (fX6_interestNow g q x0.toNatClampNeg)) - ((x1 * 5) / 100))) (200 + x0.toNatClampNeg) 15 ((sy_up (sy_up (fX5_move (fX4_close g q x0.toNatClampNeg 2).1 (fX4_close g q x0.toNatClampNeg 2).2 x1) (80 + (xg q x0.toNatClampNeg)) 2 (((fX5_move (fX4_close g q x0.toNatClampNeg 2).1 (fX4_close g q x0.toNatClampNeg 2).2 x1) (80 + (xg q x0.toNatClampNeg)) 2) + (x1 - ((fX5_move (fX4_close g q x0.toNatClampNeg 2).1 (fX4_close g q x0.toNatClampNeg 2).2 x1) (200 + x0.toNatClampNeg) 5)))) (200 + x0.toNatClampNeg) 14 (((x1 - (g (200 + x0.toNatClampNeg) 8)) - (fX6_interestNow g q x0.toNatClampNeg)) - ((x1 * 5) / 100))) 60 9)) 68 1) + (((x1 - (g (200 + x0.toNatClampNeg) 8)) - (fX6_interestNow g q x0.toNatClampNeg)) - ((x1 * 5) / 100)))) (fX4_close g q x0.toNatClampNeg 2).2 (by rw [sy_up_s (sy_up (sy_up (sy_up (fX5_move (fX4_close g q x0.toNatClampNeg 2).1 (fX4_close g q x0.toNatClampNeg 2).2 x1) (80 + (xg q x0.toNatClampNeg)) 2 (((fX5_move (fX4_close g q x0.toNatClampNeg 2).1 (fX4_close g q x0.toNatClampNeg 2).2 x1) (80 + (xg q x0.toNatClampNeg)) 2) + (x1 - ((fX5_move (fX4_close g q x0.toNatClampNeg 2).1 (fX4_close g q x0.toNatClampNeg 2).2 x1) (200 + x0.toNatClampNeg) 5)))) (200 + x0.toNatClampNeg) 14 (((x1 - (g (200 + x0.toNatClampNeg) 8)) - (fX6_interestNow g q x0.toNatClampNeg)) - ((x1 * 5) / 100))) (200 + x0.toNatClampNeg) 15 ((sy_up (sy_up (fX5_move (fX4_close g q x0.toNatClampNeg 2).1 (fX4_close g q x0.toNatClampNeg 2).2 x1) (80 + (xg q x0.toNatClampNeg)) 2 (((fX5_move (fX4_close g q x0.toNatClampNeg 2).1 (fX4_close g q x0.toNatClampNeg 2).2 x1) (80 + (xg q x0.toNatClampNeg)) 2) + (x1 - ((fX5_move (fX4_close g q x0.toNatClampNeg 2).1 (fX4_close g q x0.toNatClampNeg 2).2 x1) (200 + x0.toNatClampNeg) 5)))) (200 + x0.toNatClampNeg) 14 (((x1 - (g (200 + x0.toNatClampNeg) 8)) - (fX6_interestNow g q x0.toNatClampNeg)) - ((x1 * 5) / 100))) 60 9)) 68 1 (((sy_up (sy_up (sy_up (fX5_move (fX4_close g q x0.toNatClampNeg 2).1 (fX4_close g q x0.toNatClampNeg 2).2 x1) (80 + (xg q x0.toNatClampNeg)) 2 (((fX5_move (fX4_close g q x0.toNatClampNeg 2).1 (fX4_close g q x0.toNatClampNeg 2).2 x1) (80 + (xg q x0.toNatClampNeg)) 2) + (x1 - ((fX5_move (fX4_close g q x0.toNatClampNeg 2).1 (fX4_close g q x0.toNatClampNeg 2).2 x1) (200 + x0.toNatClampNeg) 5)))) (200 + x0.toNatClampNeg) 14 (((x1 - (g (200 + x0.toNatClampNeg) 8)) - (fX6_interestNow g q x0.toNatClampNeg)) - ((x1 * 5) / 100))) (200 + x0.toNatClampNeg) 15 ((sy_up (sy_up (fX5_move (fX4_close g q x0.toNatClampNeg 2).1 (fX4_close g q x0.toNatClampNeg 2).2 x1) (80 + (xg q x0.toNatClampNeg)) 2 (((fX5_move (fX4_close g q x0.toNatClampNeg 2).1 (fX4_close g q x0.toNatClampNeg 2).2 x1) (80 + (xg q x0.toNatClampNeg)) 2) + (x1 - ((fX5_move (fX4_close g q x0.toNatClampNeg 2).1 (fX4_close g q x0.toNatClampNeg 2).2 x1) (200 + x0.toNatClampNeg) 5)))) (200 + x0.toNatClampNeg) 14 (((x1 - (g (200 + x0.toNatClampNeg) 8)) - (fX6_interestNow g q x0.toNatClampNeg)) - ((x1 * 5) / 100))) 60 9)) 68 1) + (((x1 - (g (200 + x0.toNatClampNeg) 8)) - (fX6_interestNow g q x0.toNatClampNeg)) - ((x1 * 5) / 100)))]; exact se_RX5_1 _ _ _ _ _ _ _) (fun _ h9 => sy_up_o _ _ _ h9) (fun _ _ => rfl) dX6_offer_152 (fun H locs hP hS => ?_)
    refine lv_iload hx hb dX6_offer_155 (lv_at hl 0 rfl) ?_
    exact vx_ret (sy_ireti hx hb hr hlocks hE hP hS dX6_offer_157 ⟨Nat.le_of_ble_eq_true rfl, Nat.le_of_ble_eq_true rfl⟩ (by unfold fX6_offer; rw [if_pos c_3, if_pos c_6, if_pos c_10, if_pos c_13, if_pos c_16] <;> rfl))
  have K_2 : (0 ≤ x0 ∧ x0 < (g 62 2)) → (0 ≤ x1 ∧ x1 ≤ 100000) → (¬ ((fX6_mayBeOffered g q x0.toNatClampNeg) = 0)) → ((fX6_reserveOf g q x0.toNatClampNeg (fX6_interestNow g q x0.toNatClampNeg)) ≤ x1) → (¬ (0 ≤ (((x1 - (g (200 + x0.toNatClampNeg) 8)) - (fX6_interestNow g q x0.toNatClampNeg)) - ((x1 * 5) / 100)))) → ∀ (H : Heap) (locs : List Loc) (ls : Array Slot), Sy Z nT nK cT cK ad (sy_up (fX5_move (fX4_close g q x0.toNatClampNeg 2).1 (fX4_close g q x0.toNatClampNeg 2).2 x1) (80 + (xg q x0.toNatClampNeg)) 2 (((fX5_move (fX4_close g q x0.toNatClampNeg 2).1 (fX4_close g q x0.toNatClampNeg 2).2 x1) (80 + (xg q x0.toNatClampNeg)) 2) + (x1 - ((fX5_move (fX4_close g q x0.toNatClampNeg 2).1 (fX4_close g q x0.toNatClampNeg 2).2 x1) (200 + x0.toNatClampNeg) 5)))) (fX4_close g q x0.toNatClampNeg 2).2 H → va_S (sy_A Z) s.heap H locs → lv_has ls 7 [(6, .int (((x1 - (g (200 + x0.toNatClampNeg) 8)) - (fX6_interestNow g q x0.toNatClampNeg)) - ((x1 * 5) / 100))), (5, .int ((x1 * 5) / 100)), (4, .int (fX6_interestNow g q x0.toNatClampNeg)), (3, .ref (ad (200 + x0.toNatClampNeg))), (0, .ref (ad 60)), (1, .int x0), (2, .int x1)] → W p l e ({ frames := 8, cells := 3, slots := 18, locals := 123 } : Room) s m ([.ref (ad 60), .int x0, .int x1] : List Value).toArray below meth c H locs 3 18 (vx_MQ below (sQi Z nT nK cT cK ad (fun r g1 q1 => (0, r, g1, q1) = fX6_offer g q x0 x1)) (sQx Z nT nK cT cK ad g q (fun E => exc E = (fX6_offer g q x0 x1).1)) ([.ref (ad 60), .int x0, .int x1] : List Value).toArray s 3 18 (sy_A Z)) (F0 m 120 ls [.int (((x1 - (g (200 + x0.toNatClampNeg) 8)) - (fX6_interestNow g q x0.toNatClampNeg)) - ((x1 * 5) / 100)), .int ((sy_up (fX5_move (fX4_close g q x0.toNatClampNeg 2).1 (fX4_close g q x0.toNatClampNeg 2).2 x1) (80 + (xg q x0.toNatClampNeg)) 2 (((fX5_move (fX4_close g q x0.toNatClampNeg 2).1 (fX4_close g q x0.toNatClampNeg 2).2 x1) (80 + (xg q x0.toNatClampNeg)) 2) + (x1 - ((fX5_move (fX4_close g q x0.toNatClampNeg 2).1 (fX4_close g q x0.toNatClampNeg 2).2 x1) (200 + x0.toNatClampNeg) 5)))) (80 + (xg q x0.toNatClampNeg)) 1), .ref (ad (80 + (xg q x0.toNatClampNeg)))]) := by
    intro c_3 c_6 c_10 c_13 c_16 H locs ls hP hS hl
    refine lv_isub hx hb dX6_offer_120 ?_
    refine sy_putRX1 hx hb hts hown hE hP hS (80 + (xg q x0.toNatClampNeg)) (sy_kdX (iq_xg hQ (at_lt hG.2.2.2.1 (by have := hG.2.1; have := hG.2.2.2.2.1; omega) c_3)).2) 1 (by decide) (hts _ (u_in uk_1_67)) rfl (ty := .int) (by decide +kernel) rfl rfl (sy_up (sy_up (fX5_move (fX4_close g q x0.toNatClampNeg 2).1 (fX4_close g q x0.toNatClampNeg 2).2 x1) (80 + (xg q x0.toNatClampNeg)) 2 (((fX5_move (fX4_close g q x0.toNatClampNeg 2).1 (fX4_close g q x0.toNatClampNeg 2).2 x1) (80 + (xg q x0.toNatClampNeg)) 2) + (x1 - ((fX5_move (fX4_close g q x0.toNatClampNeg 2).1 (fX4_close g q x0.toNatClampNeg 2).2 x1) (200 + x0.toNatClampNeg) 5)))) (80 + (xg q x0.toNatClampNeg)) 1 (((sy_up (fX5_move (fX4_close g q x0.toNatClampNeg 2).1 (fX4_close g q x0.toNatClampNeg 2).2 x1) (80 + (xg q x0.toNatClampNeg)) 2 (((fX5_move (fX4_close g q x0.toNatClampNeg 2).1 (fX4_close g q x0.toNatClampNeg 2).2 x1) (80 + (xg q x0.toNatClampNeg)) 2) + (x1 - ((fX5_move (fX4_close g q x0.toNatClampNeg 2).1 (fX4_close g q x0.toNatClampNeg 2).2 x1) (200 + x0.toNatClampNeg) 5)))) (80 + (xg q x0.toNatClampNeg)) 1) - (((x1 - (g (200 + x0.toNatClampNeg) 8)) - (fX6_interestNow g q x0.toNatClampNeg)) - ((x1 * 5) / 100)))) (fX4_close g q x0.toNatClampNeg 2).2 (by rw [sy_up_s (sy_up (fX5_move (fX4_close g q x0.toNatClampNeg 2).1 (fX4_close g q x0.toNatClampNeg 2).2 x1) (80 + (xg q x0.toNatClampNeg)) 2 (((fX5_move (fX4_close g q x0.toNatClampNeg 2).1 (fX4_close g q x0.toNatClampNeg 2).2 x1) (80 + (xg q x0.toNatClampNeg)) 2) + (x1 - ((fX5_move (fX4_close g q x0.toNatClampNeg 2).1 (fX4_close g q x0.toNatClampNeg 2).2 x1) (200 + x0.toNatClampNeg) 5)))) (80 + (xg q x0.toNatClampNeg)) 1 (((sy_up (fX5_move (fX4_close g q x0.toNatClampNeg 2).1 (fX4_close g q x0.toNatClampNeg 2).2 x1) (80 + (xg q x0.toNatClampNeg)) 2 (((fX5_move (fX4_close g q x0.toNatClampNeg 2).1 (fX4_close g q x0.toNatClampNeg 2).2 x1) (80 + (xg q x0.toNatClampNeg)) 2) + (x1 - ((fX5_move (fX4_close g q x0.toNatClampNeg 2).1 (fX4_close g q x0.toNatClampNeg 2).2 x1) (200 + x0.toNatClampNeg) 5)))) (80 + (xg q x0.toNatClampNeg)) 1) - (((x1 - (g (200 + x0.toNatClampNeg) 8)) - (fX6_interestNow g q x0.toNatClampNeg)) - ((x1 * 5) / 100)))]; exact se_RX1_1 _ _ _ _ _ _ _) (fun _ h9 => sy_up_o _ _ _ h9) (fun _ _ => rfl) dX6_offer_121 (fun H locs hP hS => ?_)
    refine lv_goto (tgt := 155) hx hb dX6_offer_124 (by decide) ?_
    refine lv_iload hx hb dX6_offer_155 (lv_at hl 0 rfl) ?_
    exact vx_ret (sy_ireti hx hb hr hlocks hE hP hS dX6_offer_157 ⟨Nat.le_of_ble_eq_true rfl, Nat.le_of_ble_eq_true rfl⟩ (by unfold fX6_offer; rw [if_pos c_3, if_pos c_6, if_pos c_10, if_pos c_13, if_neg c_16] <;> rfl))
  refine lv_aload_n hx hb dX6_offer_0 rfl (lv_at hl 0 rfl) ?_
  refine lv_iload_n hx hb dX6_offer_1 rfl (lv_at hl 1 rfl) ?_
  refine sy_xkr (sy_xV (o := 60) (As := [.int x0]) (rest := []) ⟨hx, hb, hml, hown, hts⟩ hE hP hS (mX6_ticketAt l hfl Z nT nK cT cK ad g q x0 hT hG hQ) (cwV 1 hts (gu_V uk_3_151 uk_3_153 uk_0_10 uk_1_1 uk_3_154) rfl rfl rfl (by decide +kernel) ⟨Nat.le_of_ble_eq_true rfl, Nat.le_of_ble_eq_true rfl⟩) (sy_recv (kc := 7) hE hP rfl (by decide) rfl rfl rfl) rfl hl.1 rfl (Nat.le_of_ble_eq_true rfl) dX6_offer_2 ⟨Nat.le_of_ble_eq_true rfl, Nat.le_of_ble_eq_true rfl⟩) hno hlocks hE hS ⟨Nat.le_of_ble_eq_true rfl, Nat.le_of_ble_eq_true rfl⟩ (fun E9 h9 => (by rw [h9.1, exc_IO]; unfold fX6_offer; rw [if_neg h9.2] <;> rfl)) (fun o_e_1 H locs e_1 hP hS => ?_)
  obtain ⟨c9, rfl⟩ := e_1
  have c_3 := c9
  refine lv_astore_n (lv' := [(3, .ref (ad (200 + x0.toNatClampNeg))), (0, .ref (ad 60)), (1, .int x0), (2, .int x1)]) hx hb dX6_offer_5 rfl hl (by decide) rfl (fun ls hl => ?_)
  refine lv_iload_n hx hb dX6_offer_6 rfl (lv_at hl 3 rfl) ?_
  refine lv_iconst (v := 0) hx hb dX6_offer_7 (by decide) ?_
  refine lv_ldc (v := 100000) hx hb hown (hts _ (u_in uk_2_198)) dX6_offer_8 ?_
  refine sy_xkv (sy_xS (As := [.int x1, .int 0, .int 100000]) (rest := []) ⟨hx, hb, hml, hown, hts⟩ hE hP hS (mX6_needRange l hfl Z nT nK cT cK ad g q x1 0 100000) (va_cwS 3 hts (gu_S uk_2_28 uk_2_29 uk_1_1 uk_2_30) rfl rfl rfl (by decide +kernel) ⟨Nat.le_of_ble_eq_true rfl, Nat.le_of_ble_eq_true rfl⟩) rfl hl.1 rfl (Nat.le_of_ble_eq_true rfl) dX6_offer_10 ⟨Nat.le_of_ble_eq_true rfl, Nat.le_of_ble_eq_true rfl⟩) hno hlocks hE hS ⟨Nat.le_of_ble_eq_true rfl, Nat.le_of_ble_eq_true rfl⟩ (fun E9 h9 => (by rw [h9.1, exc_IA]; unfold fX6_offer; rw [if_pos c_3, if_neg h9.2] <;> rfl)) (fun g_e_4 q_e_4 H locs e_4 hP hS => ?_)
  have c_6 := e_4.1
  obtain ⟨-, h7, h8⟩ := e_4; rw [h7, h8] at hP
  refine lv_aload_n hx hb dX6_offer_13 rfl (lv_at hl 1 rfl) ?_
  refine lv_aload_n hx hb dX6_offer_14 rfl (lv_at hl 0 rfl) ?_
  refine sy_ki (sy_rV (o := 60) (As := [.ref (ad (200 + x0.toNatClampNeg))]) (rest := []) ⟨hx, hb, hml, hown, hts⟩ hE hP hS (mX6_mayBeOffered l hfl Z nT nK cT cK ad g q x0.toNatClampNeg hT hG hQ (at_lt hG.2.2.2.1 (by have := hG.2.1; have := hG.2.2.2.2.1; omega) c_3)) (cwV 1 hts (gu_V uk_4_174 uk_4_176 uk_0_16 uk_1_1 uk_4_177) rfl rfl rfl (by decide +kernel) ⟨Nat.le_of_ble_eq_true rfl, Nat.le_of_ble_eq_true rfl⟩) (sy_recv (kc := 7) hE hP rfl (by decide) rfl rfl rfl) rfl hl.1 rfl (Nat.le_of_ble_eq_true rfl) dX6_offer_15 ⟨Nat.le_of_ble_eq_true rfl, Nat.le_of_ble_eq_true rfl⟩) hS (fun r_e_7 g_e_7 q_e_7 H locs e_7 hP hS => ?_)
  cases e_7
  refine sy_xkv (sy_xS (As := [.int (fX6_mayBeOffered g q x0.toNatClampNeg)]) (rest := []) ⟨hx, hb, hml, hown, hts⟩ hE hP hS (mX6_needState l hfl Z nT nK cT cK ad g q (fX6_mayBeOffered g q x0.toNatClampNeg)) (va_cwS 1 hts (gu_S uk_2_50 uk_2_51 uk_1_1 uk_2_52) rfl rfl rfl (by decide +kernel) ⟨Nat.le_of_ble_eq_true rfl, Nat.le_of_ble_eq_true rfl⟩) rfl hl.1 rfl (Nat.le_of_ble_eq_true rfl) dX6_offer_18 ⟨Nat.le_of_ble_eq_true rfl, Nat.le_of_ble_eq_true rfl⟩) hno hlocks hE hS ⟨Nat.le_of_ble_eq_true rfl, Nat.le_of_ble_eq_true rfl⟩ (fun E9 h9 => (by rw [h9.1, exc_IS]; unfold fX6_offer; rw [if_pos c_3, if_pos c_6, if_neg h9.2] <;> rfl)) (fun g_e_8 q_e_8 H locs e_8 hP hS => ?_)
  have c_10 := e_8.1
  obtain ⟨-, h7, h8⟩ := e_8; rw [h7, h8] at hP
  refine lv_aload_n hx hb dX6_offer_21 rfl (lv_at hl 1 rfl) ?_
  refine lv_aload_n hx hb dX6_offer_22 rfl (lv_at hl 0 rfl) ?_
  refine sy_ki (sy_rV (o := 60) (As := [.ref (ad (200 + x0.toNatClampNeg))]) (rest := []) ⟨hx, hb, hml, hown, hts⟩ hE hP hS (mX6_interestNow l hfl Z nT nK cT cK ad g q x0.toNatClampNeg hT hG hQ (at_lt hG.2.2.2.1 (by have := hG.2.1; have := hG.2.2.2.2.1; omega) c_3)) (cwV 1 hts (gu_V uk_4_60 uk_4_62 uk_0_15 uk_1_1 uk_4_63) rfl rfl rfl (by decide +kernel) ⟨Nat.le_of_ble_eq_true rfl, Nat.le_of_ble_eq_true rfl⟩) (sy_recv (kc := 7) hE hP rfl (by decide) rfl rfl rfl) rfl hl.1 rfl (Nat.le_of_ble_eq_true rfl) dX6_offer_23 ⟨Nat.le_of_ble_eq_true rfl, Nat.le_of_ble_eq_true rfl⟩) hS (fun r_e_11 g_e_11 q_e_11 H locs e_11 hP hS => ?_)
  cases e_11
  refine lv_istore (lv' := [(4, .int (fX6_interestNow g q x0.toNatClampNeg)), (3, .ref (ad (200 + x0.toNatClampNeg))), (0, .ref (ad 60)), (1, .int x0), (2, .int x1)]) hx hb dX6_offer_26 hl (by decide) rfl (fun ls hl => ?_)
  refine lv_iload_n hx hb dX6_offer_28 rfl (lv_at hl 4 rfl) ?_
  refine lv_aload_n hx hb dX6_offer_29 rfl (lv_at hl 1 rfl) ?_
  refine lv_iload hx hb dX6_offer_30 (lv_at hl 0 rfl) ?_
  refine sy_ki (sy_rS (As := [.ref (ad (200 + x0.toNatClampNeg)), .int (fX6_interestNow g q x0.toNatClampNeg)]) (rest := [.int x1]) ⟨hx, hb, hml, hown, hts⟩ hE hP hS (mX6_reserveOf l hfl Z nT nK cT cK ad g q x0.toNatClampNeg (fX6_interestNow g q x0.toNatClampNeg) hT hG hQ (at_lt hG.2.2.2.1 (by have := hG.2.1; have := hG.2.2.2.2.1; omega) c_3)) (va_cwS 2 hts (gu_S uk_4_178 uk_4_179 uk_1_1 uk_4_180) rfl rfl rfl (by decide +kernel) ⟨Nat.le_of_ble_eq_true rfl, Nat.le_of_ble_eq_true rfl⟩) rfl hl.1 rfl (Nat.le_of_ble_eq_true rfl) dX6_offer_32 ⟨Nat.le_of_ble_eq_true rfl, Nat.le_of_ble_eq_true rfl⟩) hS (fun r_e_12 g_e_12 q_e_12 H locs e_12 hP hS => ?_)
  cases e_12
  refine lv_icmp_ge (tgt := 52) hx hb dX6_offer_35 (by decide) (fun c_13 => ?_) (fun c_13 => ?_)
  · skip
    refine lv_iload_n hx hb dX6_offer_52 rfl (lv_at hl 4 rfl) ?_
    refine lv_iconst (v := 5) hx hb dX6_offer_53 (by decide) ?_
    refine lv_imul hx hb dX6_offer_54 ?_
    refine lv_bipush (v := 100) hx hb dX6_offer_55 (by decide) ?_
    refine lv_idiv hx hb dX6_offer_57 (by decide) ?_
    refine lv_istore (lv' := [(5, .int ((x1 * 5) / 100)), (4, .int (fX6_interestNow g q x0.toNatClampNeg)), (3, .ref (ad (200 + x0.toNatClampNeg))), (0, .ref (ad 60)), (1, .int x0), (2, .int x1)]) hx hb dX6_offer_58 hl (by decide) rfl (fun ls hl => ?_)
    refine lv_iload_n hx hb dX6_offer_60 rfl (lv_at hl 5 rfl) ?_
    refine lv_aload_n hx hb dX6_offer_61 rfl (lv_at hl 2 rfl) ?_
    refine sy_getRX4 hx hb hts hown hE hP (200 + x0.toNatClampNeg) (sy_kdK (at_lt hG.2.2.2.1 (by have := hG.2.1; have := hG.2.2.2.2.1; omega) c_3)) 8 (by decide) (hts _ (u_in uk_3_85)) (v := .int (g (200 + x0.toNatClampNeg) 8)) rfl dX6_offer_62 ?_
    refine lv_isub hx hb dX6_offer_65 ?_
    refine lv_iload hx hb dX6_offer_66 (lv_at hl 1 rfl) ?_
    refine lv_isub hx hb dX6_offer_68 ?_
    refine lv_iload hx hb dX6_offer_69 (lv_at hl 0 rfl) ?_
    refine lv_isub hx hb dX6_offer_71 ?_
    refine lv_istore (lv' := [(6, .int (((x1 - (g (200 + x0.toNatClampNeg) 8)) - (fX6_interestNow g q x0.toNatClampNeg)) - ((x1 * 5) / 100))), (5, .int ((x1 * 5) / 100)), (4, .int (fX6_interestNow g q x0.toNatClampNeg)), (3, .ref (ad (200 + x0.toNatClampNeg))), (0, .ref (ad 60)), (1, .int x0), (2, .int x1)]) hx hb dX6_offer_72 hl (by decide) rfl (fun ls hl => ?_)
    refine lv_aload_n hx hb dX6_offer_74 rfl (lv_at hl 3 rfl) ?_
    refine lv_iconst (v := 2) hx hb dX6_offer_75 (by decide) ?_
    refine sy_kv (sy_rV (o := (200 + x0.toNatClampNeg)) (As := [.int 2]) (rest := []) ⟨hx, hb, hml, hown, hts⟩ hE hP hS (mX4_close l hfl Z nT nK cT cK ad g q x0.toNatClampNeg 2 hT (at_lt hG.2.2.2.1 (by have := hG.2.1; have := hG.2.2.2.2.1; omega) c_3) hQ) (cwV 1 hts (gu_V uk_3_195 uk_3_196 uk_3_197 uk_1_22 uk_3_198) rfl rfl rfl (by decide +kernel) ⟨Nat.le_of_ble_eq_true rfl, Nat.le_of_ble_eq_true rfl⟩) (sy_recv (kc := 5) hE hP (sy_kdK (at_lt hG.2.2.2.1 (by have := hG.2.1; have := hG.2.2.2.2.1; omega) c_3)) (by decide) rfl rfl rfl) rfl hl.1 rfl (Nat.le_of_ble_eq_true rfl) dX6_offer_76 ⟨Nat.le_of_ble_eq_true rfl, Nat.le_of_ble_eq_true rfl⟩) hS (fun g_e_14 q_e_14 H locs e_14 hP hS => ?_)
    obtain ⟨rfl, rfl⟩ : g_e_14 = (fX4_close g q x0.toNatClampNeg 2).1 ∧ q_e_14 = (fX4_close g q x0.toNatClampNeg 2).2 := by rw [← e_14]; exact ⟨rfl, rfl⟩
    refine lv_aload_n hx hb dX6_offer_79 rfl (lv_at hl 4 rfl) ?_
    refine sy_getRX6 hx hb hts hown hE hP 60 rfl 7 (by decide) (hts _ (u_in uk_1_159)) (v := .ref (ad 68)) rfl dX6_offer_80 ?_
    refine lv_iload_n hx hb dX6_offer_83 rfl (lv_at hl 6 rfl) ?_
    refine sy_kv (sy_rV (o := 68) (As := [.int x1]) (rest := []) ⟨hx, hb, hml, hown, hts⟩ hE hP hS (mX5_move l hfl Z nT nK cT cK ad (fX4_close g q x0.toNatClampNeg 2).1 (fX4_close g q x0.toNatClampNeg 2).2 x1 hT (mv_close (ig_mv hG))) (cwV 1 hts (gu_V uk_3_140 uk_3_141 uk_3_142 uk_1_8 uk_3_143) rfl rfl rfl (by decide +kernel) ⟨Nat.le_of_ble_eq_true rfl, Nat.le_of_ble_eq_true rfl⟩) (sy_recv (kc := 6) hE hP rfl (by decide) rfl rfl rfl) rfl hl.1 rfl (Nat.le_of_ble_eq_true rfl) dX6_offer_84 ⟨Nat.le_of_ble_eq_true rfl, Nat.le_of_ble_eq_true rfl⟩) hS (fun g_e_15 q_e_15 H locs e_15 hP hS => ?_)
    cases e_15
    refine lv_aload_n hx hb dX6_offer_87 rfl (lv_at hl 3 rfl) ?_
    refine sy_getRX4 hx hb hts hown hE hP (200 + x0.toNatClampNeg) (sy_kdK (at_lt hG.2.2.2.1 (by have := hG.2.1; have := hG.2.2.2.2.1; omega) c_3)) 4 (by decide) (hts _ (u_in uk_3_77)) (v := .ref (ad (80 + (xg q x0.toNatClampNeg)))) (by show some (sy_rv ad ((fX4_close g q x0.toNatClampNeg 2).2 (200 + x0.toNatClampNeg) 4)) = _; rw [close_q hT hQ (at_lt hG.2.2.2.1 (by have := hG.2.1; have := hG.2.2.2.2.1; omega) c_3), (iq_xg hQ (at_lt hG.2.2.2.1 (by have := hG.2.1; have := hG.2.2.2.2.1; omega) c_3)).1]; rfl) dX6_offer_88 ?_
    refine lv_dup hx hb dX6_offer_91 rfl ?_
    refine sy_getRX1 hx hb hts hown hE hP (80 + (xg q x0.toNatClampNeg)) (sy_kdX (iq_xg hQ (at_lt hG.2.2.2.1 (by have := hG.2.1; have := hG.2.2.2.2.1; omega) c_3)).2) 2 (by decide) (hts _ (u_in uk_1_69)) (v := .int ((fX5_move (fX4_close g q x0.toNatClampNeg 2).1 (fX4_close g q x0.toNatClampNeg 2).2 x1) (80 + (xg q x0.toNatClampNeg)) 2)) rfl dX6_offer_92 ?_
    refine lv_iload_n hx hb dX6_offer_95 rfl (lv_at hl 6 rfl) ?_
    refine lv_aload_n hx hb dX6_offer_96 rfl (lv_at hl 3 rfl) ?_
    refine sy_getRX4 hx hb hts hown hE hP (200 + x0.toNatClampNeg) (sy_kdK (at_lt hG.2.2.2.1 (by have := hG.2.1; have := hG.2.2.2.2.1; omega) c_3)) 5 (by decide) (hts _ (u_in uk_3_79)) (v := .int ((fX5_move (fX4_close g q x0.toNatClampNeg 2).1 (fX4_close g q x0.toNatClampNeg 2).2 x1) (200 + x0.toNatClampNeg) 5)) rfl dX6_offer_97 ?_
    refine lv_isub hx hb dX6_offer_100 ?_
    refine lv_iadd hx hb dX6_offer_101 ?_
    refine sy_putRX1 hx hb hts hown hE hP hS (80 + (xg q x0.toNatClampNeg)) (sy_kdX (iq_xg hQ (at_lt hG.2.2.2.1 (by have := hG.2.1; have := hG.2.2.2.2.1; omega) c_3)).2) 2 (by decide) (hts _ (u_in uk_1_69)) rfl (ty := .int) (by decide +kernel) rfl rfl (sy_up (fX5_move (fX4_close g q x0.toNatClampNeg 2).1 (fX4_close g q x0.toNatClampNeg 2).2 x1) (80 + (xg q x0.toNatClampNeg)) 2 (((fX5_move (fX4_close g q x0.toNatClampNeg 2).1 (fX4_close g q x0.toNatClampNeg 2).2 x1) (80 + (xg q x0.toNatClampNeg)) 2) + (x1 - ((fX5_move (fX4_close g q x0.toNatClampNeg 2).1 (fX4_close g q x0.toNatClampNeg 2).2 x1) (200 + x0.toNatClampNeg) 5)))) (fX4_close g q x0.toNatClampNeg 2).2 (by rw [sy_up_s (fX5_move (fX4_close g q x0.toNatClampNeg 2).1 (fX4_close g q x0.toNatClampNeg 2).2 x1) (80 + (xg q x0.toNatClampNeg)) 2 (((fX5_move (fX4_close g q x0.toNatClampNeg 2).1 (fX4_close g q x0.toNatClampNeg 2).2 x1) (80 + (xg q x0.toNatClampNeg)) 2) + (x1 - ((fX5_move (fX4_close g q x0.toNatClampNeg 2).1 (fX4_close g q x0.toNatClampNeg 2).2 x1) (200 + x0.toNatClampNeg) 5)))]; exact se_RX1_2 _ _ _ _ _ _ _) (fun _ h9 => sy_up_o _ _ _ h9) (fun _ _ => rfl) dX6_offer_102 (fun H locs hP hS => ?_)
    refine lv_iload hx hb dX6_offer_105 (lv_at hl 0 rfl) ?_
    refine lv_if_ge (tgt := 127) hx hb dX6_offer_107 (by decide) (fun c_16 => ?_) (fun c_16 => ?_)
    · skip
      refine lv_aload_n hx hb dX6_offer_127 rfl (lv_at hl 3 rfl) ?_
      refine lv_iload hx hb dX6_offer_128 (lv_at hl 0 rfl) ?_
      refine sy_putRX4 hx hb hts hown hE hP hS (200 + x0.toNatClampNeg) (sy_kdK (at_lt hG.2.2.2.1 (by have := hG.2.1; have := hG.2.2.2.2.1; omega) c_3)) 14 (by decide) (hts _ (u_in uk_3_96)) rfl (ty := .int) (by decide +kernel) rfl rfl (sy_up (sy_up (fX5_move (fX4_close g q x0.toNatClampNeg 2).1 (fX4_close g q x0.toNatClampNeg 2).2 x1) (80 + (xg q x0.toNatClampNeg)) 2 (((fX5_move (fX4_close g q x0.toNatClampNeg 2).1 (fX4_close g q x0.toNatClampNeg 2).2 x1) (80 + (xg q x0.toNatClampNeg)) 2) + (x1 - ((fX5_move (fX4_close g q x0.toNatClampNeg 2).1 (fX4_close g q x0.toNatClampNeg 2).2 x1) (200 + x0.toNatClampNeg) 5)))) (200 + x0.toNatClampNeg) 14 (((x1 - (g (200 + x0.toNatClampNeg) 8)) - (fX6_interestNow g q x0.toNatClampNeg)) - ((x1 * 5) / 100))) (fX4_close g q x0.toNatClampNeg 2).2 (by rw [sy_up_s (sy_up (fX5_move (fX4_close g q x0.toNatClampNeg 2).1 (fX4_close g q x0.toNatClampNeg 2).2 x1) (80 + (xg q x0.toNatClampNeg)) 2 (((fX5_move (fX4_close g q x0.toNatClampNeg 2).1 (fX4_close g q x0.toNatClampNeg 2).2 x1) (80 + (xg q x0.toNatClampNeg)) 2) + (x1 - ((fX5_move (fX4_close g q x0.toNatClampNeg 2).1 (fX4_close g q x0.toNatClampNeg 2).2 x1) (200 + x0.toNatClampNeg) 5)))) (200 + x0.toNatClampNeg) 14 (((x1 - (g (200 + x0.toNatClampNeg) 8)) - (fX6_interestNow g q x0.toNatClampNeg)) - ((x1 * 5) / 100))]; exact se_RX4_14 _ _ _ _ _ _ _) (fun _ h9 => sy_up_o _ _ _ h9) (fun _ _ => rfl) dX6_offer_130 (fun H locs hP hS => ?_)
      refine lv_aload_n hx hb dX6_offer_133 rfl (lv_at hl 3 rfl) ?_
      refine lv_aload_n hx hb dX6_offer_134 rfl (lv_at hl 4 rfl) ?_
      exact K_1 c_3 c_6 c_10 c_13 c_16 _ _ _ hP hS hl
    · skip
      refine lv_aload_n hx hb dX6_offer_110 rfl (lv_at hl 3 rfl) ?_
      refine sy_getRX4 hx hb hts hown hE hP (200 + x0.toNatClampNeg) (sy_kdK (at_lt hG.2.2.2.1 (by have := hG.2.1; have := hG.2.2.2.2.1; omega) c_3)) 4 (by decide) (hts _ (u_in uk_3_77)) (v := .ref (ad (80 + (xg q x0.toNatClampNeg)))) (by show some (sy_rv ad ((fX4_close g q x0.toNatClampNeg 2).2 (200 + x0.toNatClampNeg) 4)) = _; rw [close_q hT hQ (at_lt hG.2.2.2.1 (by have := hG.2.1; have := hG.2.2.2.2.1; omega) c_3), (iq_xg hQ (at_lt hG.2.2.2.1 (by have := hG.2.1; have := hG.2.2.2.2.1; omega) c_3)).1]; rfl) dX6_offer_111 ?_
      refine lv_dup hx hb dX6_offer_114 rfl ?_
      refine sy_getRX1 hx hb hts hown hE hP (80 + (xg q x0.toNatClampNeg)) (sy_kdX (iq_xg hQ (at_lt hG.2.2.2.1 (by have := hG.2.1; have := hG.2.2.2.2.1; omega) c_3)).2) 1 (by decide) (hts _ (u_in uk_1_67)) (v := .int ((sy_up (fX5_move (fX4_close g q x0.toNatClampNeg 2).1 (fX4_close g q x0.toNatClampNeg 2).2 x1) (80 + (xg q x0.toNatClampNeg)) 2 (((fX5_move (fX4_close g q x0.toNatClampNeg 2).1 (fX4_close g q x0.toNatClampNeg 2).2 x1) (80 + (xg q x0.toNatClampNeg)) 2) + (x1 - ((fX5_move (fX4_close g q x0.toNatClampNeg 2).1 (fX4_close g q x0.toNatClampNeg 2).2 x1) (200 + x0.toNatClampNeg) 5)))) (80 + (xg q x0.toNatClampNeg)) 1)) rfl dX6_offer_115 ?_
      refine lv_iload hx hb dX6_offer_118 (lv_at hl 0 rfl) ?_
      exact K_2 c_3 c_6 c_10 c_13 c_16 _ _ _ hP hS hl
  · skip
    refine lv_aload_n hx hb dX6_offer_38 rfl (lv_at hl 1 rfl) ?_
    refine lv_dup hx hb dX6_offer_39 rfl ?_
    refine sy_getRX4 hx hb hts hown hE hP (200 + x0.toNatClampNeg) (sy_kdK (at_lt hG.2.2.2.1 (by have := hG.2.1; have := hG.2.2.2.2.1; omega) c_3)) 13 (by decide) (hts _ (u_in uk_3_94)) (v := .int (g (200 + x0.toNatClampNeg) 13)) rfl dX6_offer_40 ?_
    refine lv_iconst (v := 1) hx hb dX6_offer_43 (by decide) ?_
    refine lv_iadd hx hb dX6_offer_44 ?_
    refine sy_putRX4 hx hb hts hown hE hP hS (200 + x0.toNatClampNeg) (sy_kdK (at_lt hG.2.2.2.1 (by have := hG.2.1; have := hG.2.2.2.2.1; omega) c_3)) 13 (by decide) (hts _ (u_in uk_3_94)) rfl (ty := .int) (by decide +kernel) rfl rfl (sy_up g (200 + x0.toNatClampNeg) 13 ((g (200 + x0.toNatClampNeg) 13) + 1)) q (by rw [sy_up_s g (200 + x0.toNatClampNeg) 13 ((g (200 + x0.toNatClampNeg) 13) + 1)]; exact se_RX4_13 _ _ _ _ _ _ _) (fun _ h9 => sy_up_o _ _ _ h9) (fun _ _ => rfl) dX6_offer_45 (fun H locs hP hS => ?_)
    refine lv_ldcw (v := (-2147483648)) hx hb hown (hts _ (u_in uk_4_181)) dX6_offer_48 ?_
    exact vx_ret (sy_ireti hx hb hr hlocks hE hP hS dX6_offer_51 ⟨Nat.le_of_ble_eq_true rfl, Nat.le_of_ble_eq_true rfl⟩ (by unfold fX6_offer; rw [if_pos c_3, if_pos c_6, if_pos c_10, if_neg c_13] <;> rfl))
def fX6_claim (g : sG) (q : sQ) (x0 : Int32) (x1 : Int32) : Int32 × Int32 × sG × sQ := (if 0 ≤ x0 ∧ x0 < (g 62 2) then (if 0 ≤ x1 ∧ x1 < 10 then (if (g (200 + x0.toNatClampNeg) 14) ≤ 0 then (3, 0, g, q) else (if (fX4_hasNotice g q x0.toNatClampNeg) = 0 then (if (g (200 + x0.toNatClampNeg) 6) = x1 then (0, ((fX6_releaseSurplus g q x0.toNatClampNeg).1), (fX6_releaseSurplus g q x0.toNatClampNeg).2, q) else (3, 0, g, q)) else (3, 0, g, q))) else (1, 0, g, q)) else (1, 0, g, q))
set_option maxHeartbeats 4000000 in
set_option maxRecDepth 100000 in
theorem mX6_claim (l : Launch) (hfl : l.stackTraces = false) (Z : sZ) (nT nK cT cK : Nat) (ad : Nat → Nat) (g : sG) (q : sQ) (x0 : Int32) (x1 : Int32) (hT : nT ≤ 100) (hG : IG nT nK cT cK g) (hQ : IQ nT nK q) : sXi l Z yX6_claim (uW (.code yX6_claim cX6_claim 4 (some .int))) { frames := 8, cells := 3, slots := 18, locals := 123 } [.ref (ad 60), .int x0, .int x1] nT nK cT cK ad g q (fun r g1 q1 => (0, r, g1, q1) = fX6_claim g q x0 x1) (fun E => exc E = (fX6_claim g q x0 x1).1) := by
  refine vx_ofW (cc := cX6_claim) (maxL := 4) (ret := (some .int)) (by decide) rfl ?_
  intro p e s m args below meth c s₁ B hml hno hv
  obtain ⟨rfl, hE, hP⟩ := hv
  have hx := B.exec
  have hb := B.bytes
  have hr := B.returns
  have hts := atoms_spec (ws := uW (.code yX6_claim cX6_claim 4 (some .int))) B.pre
  have hown : s.vm.findClass RX6 = some m.cls := findClass_of_methodNamed B.named
  have hlocks := B.notSynchronized
  have hS : va_S (sy_A Z) s.heap s.heap [] := va_S.rf
  have hl := lv_entry ([.ref (ad 60), .int x0, .int x1]) (n := 4) (Nat.le_of_ble_eq_true rfl)
  rw [lg_entry_eq]
  generalize (lg_sl ([.ref (ad 60), .int x0, .int x1]) ++ List.replicate (4 - (lg_sl ([.ref (ad 60), .int x0, .int x1])).length) Slot.unset).toArray = ls at hl ⊢
  have hl : lv_has ls 4 [(0, .ref (ad 60)), (1, .int x0), (2, .int x1)] := hl
  refine lv_aload_n hx hb dX6_claim_0 rfl (lv_at hl 0 rfl) ?_
  refine lv_iload_n hx hb dX6_claim_1 rfl (lv_at hl 1 rfl) ?_
  refine sy_xkr (sy_xV (o := 60) (As := [.int x0]) (rest := []) ⟨hx, hb, hml, hown, hts⟩ hE hP hS (mX6_ticketAt l hfl Z nT nK cT cK ad g q x0 hT hG hQ) (cwV 1 hts (gu_V uk_3_151 uk_3_153 uk_0_10 uk_1_1 uk_3_154) rfl rfl rfl (by decide +kernel) ⟨Nat.le_of_ble_eq_true rfl, Nat.le_of_ble_eq_true rfl⟩) (sy_recv (kc := 7) hE hP rfl (by decide) rfl rfl rfl) rfl hl.1 rfl (Nat.le_of_ble_eq_true rfl) dX6_claim_2 ⟨Nat.le_of_ble_eq_true rfl, Nat.le_of_ble_eq_true rfl⟩) hno hlocks hE hS ⟨Nat.le_of_ble_eq_true rfl, Nat.le_of_ble_eq_true rfl⟩ (fun E9 h9 => (by rw [h9.1, exc_IO]; unfold fX6_claim; rw [if_neg h9.2] <;> rfl)) (fun o_e_1 H locs e_1 hP hS => ?_)
  obtain ⟨c9, rfl⟩ := e_1
  have c_3 := c9
  refine lv_astore_n (lv' := [(3, .ref (ad (200 + x0.toNatClampNeg))), (0, .ref (ad 60)), (1, .int x0), (2, .int x1)]) hx hb dX6_claim_5 rfl hl (by decide) rfl (fun ls hl => ?_)
  refine lv_iload_n hx hb dX6_claim_6 rfl (lv_at hl 3 rfl) ?_
  refine lv_bipush (v := 10) hx hb dX6_claim_7 (by decide) ?_
  refine sy_xkv (sy_xS (As := [.int x1, .int 10]) (rest := []) ⟨hx, hb, hml, hown, hts⟩ hE hP hS (mX6_needIndex l hfl Z nT nK cT cK ad g q x1 10) (va_cwS 2 hts (gu_S uk_1_202 uk_1_203 uk_1_1 uk_1_204) rfl rfl rfl (by decide +kernel) ⟨Nat.le_of_ble_eq_true rfl, Nat.le_of_ble_eq_true rfl⟩) rfl hl.1 rfl (Nat.le_of_ble_eq_true rfl) dX6_claim_9 ⟨Nat.le_of_ble_eq_true rfl, Nat.le_of_ble_eq_true rfl⟩) hno hlocks hE hS ⟨Nat.le_of_ble_eq_true rfl, Nat.le_of_ble_eq_true rfl⟩ (fun E9 h9 => (by rw [h9.1, exc_IO]; unfold fX6_claim; rw [if_pos c_3, if_neg h9.2] <;> rfl)) (fun g_e_4 q_e_4 H locs e_4 hP hS => ?_)
  have c_6 := e_4.1
  obtain ⟨-, h7, h8⟩ := e_4; rw [h7, h8] at hP
  refine lv_aload_n hx hb dX6_claim_12 rfl (lv_at hl 0 rfl) ?_
  refine sy_getRX4 hx hb hts hown hE hP (200 + x0.toNatClampNeg) (sy_kdK (at_lt hG.2.2.2.1 (by have := hG.2.1; have := hG.2.2.2.2.1; omega) c_3)) 14 (by decide) (hts _ (u_in uk_3_96)) (v := .int (g (200 + x0.toNatClampNeg) 14)) rfl dX6_claim_13 ?_
  refine lv_if_le (tgt := 38) hx hb dX6_claim_16 (by decide) (fun c_7 => ?_) (fun c_7 => ?_)
  · skip
    refine lv_iconst (v := 0) hx hb dX6_claim_38 (by decide) ?_
    refine sy_xkv (sy_xS (As := [.int 0]) (rest := []) ⟨hx, hb, hml, hown, hts⟩ hE hP hS (mX6_needState l hfl Z nT nK cT cK ad g q 0) (va_cwS 1 hts (gu_S uk_2_50 uk_2_51 uk_1_1 uk_2_52) rfl rfl rfl (by decide +kernel) ⟨Nat.le_of_ble_eq_true rfl, Nat.le_of_ble_eq_true rfl⟩) rfl hl.1 rfl (Nat.le_of_ble_eq_true rfl) dX6_claim_39 ⟨Nat.le_of_ble_eq_true rfl, Nat.le_of_ble_eq_true rfl⟩) hno hlocks hE hS ⟨Nat.le_of_ble_eq_true rfl, Nat.le_of_ble_eq_true rfl⟩ (fun E9 h9 => (by rw [h9.1, exc_IS]; unfold fX6_claim; rw [if_pos c_3, if_pos c_6, if_pos c_7] <;> rfl)) (fun g_e_8 q_e_8 H locs e_8 hP hS => ?_)
    exact absurd rfl e_8.1
  · skip
    refine lv_aload_n hx hb dX6_claim_19 rfl (lv_at hl 0 rfl) ?_
    refine sy_ki (sy_rV (o := (200 + x0.toNatClampNeg)) (As := []) (rest := []) ⟨hx, hb, hml, hown, hts⟩ hE hP hS (mX4_hasNotice l hfl Z nT nK cT cK ad g q x0.toNatClampNeg hT (at_lt hG.2.2.2.1 (by have := hG.2.1; have := hG.2.2.2.2.1; omega) c_3)) (cwV 0 hts (gu_V uk_3_166 uk_3_167 uk_3_168 uk_1_22 uk_3_169) rfl rfl rfl (by decide +kernel) ⟨Nat.le_of_ble_eq_true rfl, Nat.le_of_ble_eq_true rfl⟩) (sy_recv (kc := 5) hE hP (sy_kdK (at_lt hG.2.2.2.1 (by have := hG.2.1; have := hG.2.2.2.2.1; omega) c_3)) (by decide) rfl rfl rfl) rfl hl.1 rfl (Nat.le_of_ble_eq_true rfl) dX6_claim_20 ⟨Nat.le_of_ble_eq_true rfl, Nat.le_of_ble_eq_true rfl⟩) hS (fun r_e_11 g_e_11 q_e_11 H locs e_11 hP hS => ?_)
    cases e_11
    refine lv_if_ne (tgt := 38) hx hb dX6_claim_23 (by decide) (fun c_12 => ?_) (fun c_12 => ?_)
    · skip
      refine lv_iconst (v := 0) hx hb dX6_claim_38 (by decide) ?_
      refine sy_xkv (sy_xS (As := [.int 0]) (rest := []) ⟨hx, hb, hml, hown, hts⟩ hE hP hS (mX6_needState l hfl Z nT nK cT cK ad g q 0) (va_cwS 1 hts (gu_S uk_2_50 uk_2_51 uk_1_1 uk_2_52) rfl rfl rfl (by decide +kernel) ⟨Nat.le_of_ble_eq_true rfl, Nat.le_of_ble_eq_true rfl⟩) rfl hl.1 rfl (Nat.le_of_ble_eq_true rfl) dX6_claim_39 ⟨Nat.le_of_ble_eq_true rfl, Nat.le_of_ble_eq_true rfl⟩) hno hlocks hE hS ⟨Nat.le_of_ble_eq_true rfl, Nat.le_of_ble_eq_true rfl⟩ (fun E9 h9 => (by rw [h9.1, exc_IS]; unfold fX6_claim; rw [if_pos c_3, if_pos c_6, if_neg c_7, if_neg c_12] <;> rfl)) (fun g_e_13 q_e_13 H locs e_13 hP hS => ?_)
      exact absurd rfl e_13.1
    · skip
      refine lv_aload_n hx hb dX6_claim_26 rfl (lv_at hl 0 rfl) ?_
      refine sy_getRX4 hx hb hts hown hE hP (200 + x0.toNatClampNeg) (sy_kdK (at_lt hG.2.2.2.1 (by have := hG.2.1; have := hG.2.2.2.2.1; omega) c_3)) 6 (by decide) (hts _ (u_in uk_3_81)) (v := .int (g (200 + x0.toNatClampNeg) 6)) rfl dX6_claim_27 ?_
      refine lv_iload_n hx hb dX6_claim_30 rfl (lv_at hl 3 rfl) ?_
      refine lv_icmp_ne (tgt := 38) hx hb dX6_claim_31 (by decide) (fun c_16 => ?_) (fun c_16 => ?_)
      · skip
        refine lv_iconst (v := 0) hx hb dX6_claim_38 (by decide) ?_
        refine sy_xkv (sy_xS (As := [.int 0]) (rest := []) ⟨hx, hb, hml, hown, hts⟩ hE hP hS (mX6_needState l hfl Z nT nK cT cK ad g q 0) (va_cwS 1 hts (gu_S uk_2_50 uk_2_51 uk_1_1 uk_2_52) rfl rfl rfl (by decide +kernel) ⟨Nat.le_of_ble_eq_true rfl, Nat.le_of_ble_eq_true rfl⟩) rfl hl.1 rfl (Nat.le_of_ble_eq_true rfl) dX6_claim_39 ⟨Nat.le_of_ble_eq_true rfl, Nat.le_of_ble_eq_true rfl⟩) hno hlocks hE hS ⟨Nat.le_of_ble_eq_true rfl, Nat.le_of_ble_eq_true rfl⟩ (fun E9 h9 => (by rw [h9.1, exc_IS]; unfold fX6_claim; rw [if_pos c_3, if_pos c_6, if_neg c_7, if_pos c_12, if_neg c_16] <;> rfl)) (fun g_e_17 q_e_17 H locs e_17 hP hS => ?_)
        exact absurd rfl e_17.1
      · skip
        refine lv_iconst (v := 1) hx hb dX6_claim_34 (by decide) ?_
        refine lv_goto (tgt := 39) hx hb dX6_claim_35 (by decide) ?_
        refine sy_xkv (sy_xS (As := [.int 1]) (rest := []) ⟨hx, hb, hml, hown, hts⟩ hE hP hS (mX6_needState l hfl Z nT nK cT cK ad g q 1) (va_cwS 1 hts (gu_S uk_2_50 uk_2_51 uk_1_1 uk_2_52) rfl rfl rfl (by decide +kernel) ⟨Nat.le_of_ble_eq_true rfl, Nat.le_of_ble_eq_true rfl⟩) rfl hl.1 rfl (Nat.le_of_ble_eq_true rfl) dX6_claim_39 ⟨Nat.le_of_ble_eq_true rfl, Nat.le_of_ble_eq_true rfl⟩) hno hlocks hE hS ⟨Nat.le_of_ble_eq_true rfl, Nat.le_of_ble_eq_true rfl⟩ (fun E9 h9 => (absurd (by decide) h9.2)) (fun g_e_20 q_e_20 H locs e_20 hP hS => ?_)
        obtain ⟨-, h7, h8⟩ := e_20; rw [h7, h8] at hP
        refine lv_aload_n hx hb dX6_claim_42 rfl (lv_at hl 1 rfl) ?_
        refine lv_aload_n hx hb dX6_claim_43 rfl (lv_at hl 0 rfl) ?_
        refine sy_ki (sy_rV (o := 60) (As := [.ref (ad (200 + x0.toNatClampNeg))]) (rest := []) ⟨hx, hb, hml, hown, hts⟩ hE hP hS (mX6_releaseSurplus l hfl Z nT nK cT cK ad g q x0.toNatClampNeg hT hG hQ (at_lt hG.2.2.2.1 (by have := hG.2.1; have := hG.2.2.2.2.1; omega) c_3)) (cwV 1 hts (gu_V uk_4_34 uk_4_36 uk_0_14 uk_1_1 uk_4_37) rfl rfl rfl (by decide +kernel) ⟨Nat.le_of_ble_eq_true rfl, Nat.le_of_ble_eq_true rfl⟩) (sy_recv (kc := 7) hE hP rfl (by decide) rfl rfl rfl) rfl hl.1 rfl (Nat.le_of_ble_eq_true rfl) dX6_claim_44 ⟨Nat.le_of_ble_eq_true rfl, Nat.le_of_ble_eq_true rfl⟩) hS (fun r_e_23 g_e_23 q_e_23 H locs e_23 hP hS => ?_)
        cases e_23
        exact vx_ret (sy_ireti hx hb hr hlocks hE hP hS dX6_claim_47 ⟨Nat.le_of_ble_eq_true rfl, Nat.le_of_ble_eq_true rfl⟩ (by unfold fX6_claim; rw [if_pos c_3, if_pos c_6, if_neg c_7, if_pos c_12, if_pos c_16] <;> rfl))
def fX6_deposit (g : sG) (q : sQ) (x0 : Int32) : Int32 × Int32 × sG × sQ := (if 1 ≤ x0 ∧ x0 ≤ 100000 then (if (100000000 - x0) < (g 68 0) then (3, 0, g, q) else (0, ((fX5_move g q x0) 68 0), (fX5_move g q x0), q)) else (2, 0, g, q))
set_option maxHeartbeats 4000000 in
set_option maxRecDepth 100000 in
theorem mX6_deposit (l : Launch) (hfl : l.stackTraces = false) (Z : sZ) (nT nK cT cK : Nat) (ad : Nat → Nat) (g : sG) (q : sQ) (x0 : Int32) (hT : nT ≤ 100) (hG : IG nT nK cT cK g) (hQ : IQ nT nK q) : sXi l Z yX6_deposit (uW (.code yX6_deposit cX6_deposit 2 (some .int))) { frames := 7, cells := 2, slots := 12, locals := 103 } [.ref (ad 60), .int x0] nT nK cT cK ad g q (fun r g1 q1 => (0, r, g1, q1) = fX6_deposit g q x0) (fun E => exc E = (fX6_deposit g q x0).1) := by
  refine vx_ofW (cc := cX6_deposit) (maxL := 2) (ret := (some .int)) (by decide) rfl ?_
  intro p e s m args below meth c s₁ B hml hno hv
  obtain ⟨rfl, hE, hP⟩ := hv
  have hx := B.exec
  have hb := B.bytes
  have hr := B.returns
  have hts := atoms_spec (ws := uW (.code yX6_deposit cX6_deposit 2 (some .int))) B.pre
  have hown : s.vm.findClass RX6 = some m.cls := findClass_of_methodNamed B.named
  have hlocks := B.notSynchronized
  have hS : va_S (sy_A Z) s.heap s.heap [] := va_S.rf
  have hl := lv_entry ([.ref (ad 60), .int x0]) (n := 2) (Nat.le_of_ble_eq_true rfl)
  rw [lg_entry_eq]
  generalize (lg_sl ([.ref (ad 60), .int x0]) ++ List.replicate (2 - (lg_sl ([.ref (ad 60), .int x0])).length) Slot.unset).toArray = ls at hl ⊢
  have hl : lv_has ls 2 [(0, .ref (ad 60)), (1, .int x0)] := hl
  refine lv_iload_n hx hb dX6_deposit_0 rfl (lv_at hl 1 rfl) ?_
  refine lv_iconst (v := 1) hx hb dX6_deposit_1 (by decide) ?_
  refine lv_ldc (v := 100000) hx hb hown (hts _ (u_in uk_2_198)) dX6_deposit_2 ?_
  refine sy_xkv (sy_xS (As := [.int x0, .int 1, .int 100000]) (rest := []) ⟨hx, hb, hml, hown, hts⟩ hE hP hS (mX6_needRange l hfl Z nT nK cT cK ad g q x0 1 100000) (va_cwS 3 hts (gu_S uk_2_28 uk_2_29 uk_1_1 uk_2_30) rfl rfl rfl (by decide +kernel) ⟨Nat.le_of_ble_eq_true rfl, Nat.le_of_ble_eq_true rfl⟩) rfl hl.1 rfl (Nat.le_of_ble_eq_true rfl) dX6_deposit_4 ⟨Nat.le_of_ble_eq_true rfl, Nat.le_of_ble_eq_true rfl⟩) hno hlocks hE hS ⟨Nat.le_of_ble_eq_true rfl, Nat.le_of_ble_eq_true rfl⟩ (fun E9 h9 => (by rw [h9.1, exc_IA]; unfold fX6_deposit; rw [if_neg h9.2] <;> rfl)) (fun g_e_1 q_e_1 H locs e_1 hP hS => ?_)
  have c_3 := e_1.1
  obtain ⟨-, h7, h8⟩ := e_1; rw [h7, h8] at hP
  refine lv_aload_n hx hb dX6_deposit_7 rfl (lv_at hl 0 rfl) ?_
  refine sy_getRX6 hx hb hts hown hE hP 60 rfl 7 (by decide) (hts _ (u_in uk_1_159)) (v := .ref (ad 68)) rfl dX6_deposit_8 ?_
  refine sy_getRX5 hx hb hts hown hE hP 68 rfl 0 (by decide) (hts _ (u_in uk_1_134)) (v := .int (g 68 0)) rfl dX6_deposit_11 ?_
  refine lv_ldcw (v := 100000000) hx hb hown (hts _ (u_in uk_4_45)) dX6_deposit_14 ?_
  refine lv_iload_n hx hb dX6_deposit_17 rfl (lv_at hl 1 rfl) ?_
  refine lv_isub hx hb dX6_deposit_18 ?_
  refine lv_icmp_gt (tgt := 26) hx hb dX6_deposit_19 (by decide) (fun c_4 => ?_) (fun c_4 => ?_)
  · skip
    refine lv_iconst (v := 0) hx hb dX6_deposit_26 (by decide) ?_
    refine sy_xkv (sy_xS (As := [.int 0]) (rest := []) ⟨hx, hb, hml, hown, hts⟩ hE hP hS (mX6_needState l hfl Z nT nK cT cK ad g q 0) (va_cwS 1 hts (gu_S uk_2_50 uk_2_51 uk_1_1 uk_2_52) rfl rfl rfl (by decide +kernel) ⟨Nat.le_of_ble_eq_true rfl, Nat.le_of_ble_eq_true rfl⟩) rfl hl.1 rfl (Nat.le_of_ble_eq_true rfl) dX6_deposit_27 ⟨Nat.le_of_ble_eq_true rfl, Nat.le_of_ble_eq_true rfl⟩) hno hlocks hE hS ⟨Nat.le_of_ble_eq_true rfl, Nat.le_of_ble_eq_true rfl⟩ (fun E9 h9 => (by rw [h9.1, exc_IS]; unfold fX6_deposit; rw [if_pos c_3, if_pos c_4] <;> rfl)) (fun g_e_5 q_e_5 H locs e_5 hP hS => ?_)
    exact absurd rfl e_5.1
  · skip
    refine lv_iconst (v := 1) hx hb dX6_deposit_22 (by decide) ?_
    refine lv_goto (tgt := 27) hx hb dX6_deposit_23 (by decide) ?_
    refine sy_xkv (sy_xS (As := [.int 1]) (rest := []) ⟨hx, hb, hml, hown, hts⟩ hE hP hS (mX6_needState l hfl Z nT nK cT cK ad g q 1) (va_cwS 1 hts (gu_S uk_2_50 uk_2_51 uk_1_1 uk_2_52) rfl rfl rfl (by decide +kernel) ⟨Nat.le_of_ble_eq_true rfl, Nat.le_of_ble_eq_true rfl⟩) rfl hl.1 rfl (Nat.le_of_ble_eq_true rfl) dX6_deposit_27 ⟨Nat.le_of_ble_eq_true rfl, Nat.le_of_ble_eq_true rfl⟩) hno hlocks hE hS ⟨Nat.le_of_ble_eq_true rfl, Nat.le_of_ble_eq_true rfl⟩ (fun E9 h9 => (absurd (by decide) h9.2)) (fun g_e_8 q_e_8 H locs e_8 hP hS => ?_)
    obtain ⟨-, h7, h8⟩ := e_8; rw [h7, h8] at hP
    refine lv_aload_n hx hb dX6_deposit_30 rfl (lv_at hl 0 rfl) ?_
    refine sy_getRX6 hx hb hts hown hE hP 60 rfl 7 (by decide) (hts _ (u_in uk_1_159)) (v := .ref (ad 68)) rfl dX6_deposit_31 ?_
    refine lv_iload_n hx hb dX6_deposit_34 rfl (lv_at hl 1 rfl) ?_
    refine sy_kv (sy_rV (o := 68) (As := [.int x0]) (rest := []) ⟨hx, hb, hml, hown, hts⟩ hE hP hS (mX5_move l hfl Z nT nK cT cK ad g q x0 hT (ig_mv hG)) (cwV 1 hts (gu_V uk_3_140 uk_3_141 uk_3_142 uk_1_8 uk_3_143) rfl rfl rfl (by decide +kernel) ⟨Nat.le_of_ble_eq_true rfl, Nat.le_of_ble_eq_true rfl⟩) (sy_recv (kc := 6) hE hP rfl (by decide) rfl rfl rfl) rfl hl.1 rfl (Nat.le_of_ble_eq_true rfl) dX6_deposit_35 ⟨Nat.le_of_ble_eq_true rfl, Nat.le_of_ble_eq_true rfl⟩) hS (fun g_e_11 q_e_11 H locs e_11 hP hS => ?_)
    cases e_11
    refine lv_aload_n hx hb dX6_deposit_38 rfl (lv_at hl 0 rfl) ?_
    refine sy_getRX6 hx hb hts hown hE hP 60 rfl 7 (by decide) (hts _ (u_in uk_1_159)) (v := .ref (ad 68)) rfl dX6_deposit_39 ?_
    refine sy_getRX5 hx hb hts hown hE hP 68 rfl 0 (by decide) (hts _ (u_in uk_1_134)) (v := .int ((fX5_move g q x0) 68 0)) rfl dX6_deposit_42 ?_
    exact vx_ret (sy_ireti hx hb hr hlocks hE hP hS dX6_deposit_45 ⟨Nat.le_of_ble_eq_true rfl, Nat.le_of_ble_eq_true rfl⟩ (by unfold fX6_deposit; rw [if_pos c_3, if_neg c_4] <;> rfl))
def fX6_withdraw (g : sG) (q : sQ) (x0 : Int32) : Int32 × Int32 × sG × sQ := (if 1 ≤ x0 ∧ x0 ≤ 100000 then (if (fX5_free g q) < x0 then (3, 0, g, q) else (0, ((fX5_move g q (-x0)) 68 0), (fX5_move g q (-x0)), q)) else (2, 0, g, q))
set_option maxHeartbeats 4000000 in
set_option maxRecDepth 100000 in
theorem mX6_withdraw (l : Launch) (hfl : l.stackTraces = false) (Z : sZ) (nT nK cT cK : Nat) (ad : Nat → Nat) (g : sG) (q : sQ) (x0 : Int32) (hT : nT ≤ 100) (hG : IG nT nK cT cK g) (hQ : IQ nT nK q) : sXi l Z yX6_withdraw (uW (.code yX6_withdraw cX6_withdraw 2 (some .int))) { frames := 7, cells := 2, slots := 12, locals := 103 } [.ref (ad 60), .int x0] nT nK cT cK ad g q (fun r g1 q1 => (0, r, g1, q1) = fX6_withdraw g q x0) (fun E => exc E = (fX6_withdraw g q x0).1) := by
  refine vx_ofW (cc := cX6_withdraw) (maxL := 2) (ret := (some .int)) (by decide) rfl ?_
  intro p e s m args below meth c s₁ B hml hno hv
  obtain ⟨rfl, hE, hP⟩ := hv
  have hx := B.exec
  have hb := B.bytes
  have hr := B.returns
  have hts := atoms_spec (ws := uW (.code yX6_withdraw cX6_withdraw 2 (some .int))) B.pre
  have hown : s.vm.findClass RX6 = some m.cls := findClass_of_methodNamed B.named
  have hlocks := B.notSynchronized
  have hS : va_S (sy_A Z) s.heap s.heap [] := va_S.rf
  have hl := lv_entry ([.ref (ad 60), .int x0]) (n := 2) (Nat.le_of_ble_eq_true rfl)
  rw [lg_entry_eq]
  generalize (lg_sl ([.ref (ad 60), .int x0]) ++ List.replicate (2 - (lg_sl ([.ref (ad 60), .int x0])).length) Slot.unset).toArray = ls at hl ⊢
  have hl : lv_has ls 2 [(0, .ref (ad 60)), (1, .int x0)] := hl
  refine lv_iload_n hx hb dX6_withdraw_0 rfl (lv_at hl 1 rfl) ?_
  refine lv_iconst (v := 1) hx hb dX6_withdraw_1 (by decide) ?_
  refine lv_ldc (v := 100000) hx hb hown (hts _ (u_in uk_2_198)) dX6_withdraw_2 ?_
  refine sy_xkv (sy_xS (As := [.int x0, .int 1, .int 100000]) (rest := []) ⟨hx, hb, hml, hown, hts⟩ hE hP hS (mX6_needRange l hfl Z nT nK cT cK ad g q x0 1 100000) (va_cwS 3 hts (gu_S uk_2_28 uk_2_29 uk_1_1 uk_2_30) rfl rfl rfl (by decide +kernel) ⟨Nat.le_of_ble_eq_true rfl, Nat.le_of_ble_eq_true rfl⟩) rfl hl.1 rfl (Nat.le_of_ble_eq_true rfl) dX6_withdraw_4 ⟨Nat.le_of_ble_eq_true rfl, Nat.le_of_ble_eq_true rfl⟩) hno hlocks hE hS ⟨Nat.le_of_ble_eq_true rfl, Nat.le_of_ble_eq_true rfl⟩ (fun E9 h9 => (by rw [h9.1, exc_IA]; unfold fX6_withdraw; rw [if_neg h9.2] <;> rfl)) (fun g_e_1 q_e_1 H locs e_1 hP hS => ?_)
  have c_3 := e_1.1
  obtain ⟨-, h7, h8⟩ := e_1; rw [h7, h8] at hP
  refine lv_iload_n hx hb dX6_withdraw_7 rfl (lv_at hl 1 rfl) ?_
  refine lv_aload_n hx hb dX6_withdraw_8 rfl (lv_at hl 0 rfl) ?_
  refine sy_getRX6 hx hb hts hown hE hP 60 rfl 7 (by decide) (hts _ (u_in uk_1_159)) (v := .ref (ad 68)) rfl dX6_withdraw_9 ?_
  refine sy_ki (sy_rV (o := 68) (As := []) (rest := [.int x0]) ⟨hx, hb, hml, hown, hts⟩ hE hP hS (mX5_free l hfl Z nT nK cT cK ad g q hT) (cwV 0 hts (gu_V uk_3_42 uk_3_43 uk_3_44 uk_1_8 uk_3_45) rfl rfl rfl (by decide +kernel) ⟨Nat.le_of_ble_eq_true rfl, Nat.le_of_ble_eq_true rfl⟩) (sy_recv (kc := 6) hE hP rfl (by decide) rfl rfl rfl) rfl hl.1 rfl (Nat.le_of_ble_eq_true rfl) dX6_withdraw_12 ⟨Nat.le_of_ble_eq_true rfl, Nat.le_of_ble_eq_true rfl⟩) hS (fun r_e_4 g_e_4 q_e_4 H locs e_4 hP hS => ?_)
  cases e_4
  refine lv_icmp_gt (tgt := 22) hx hb dX6_withdraw_15 (by decide) (fun c_5 => ?_) (fun c_5 => ?_)
  · skip
    refine lv_iconst (v := 0) hx hb dX6_withdraw_22 (by decide) ?_
    refine sy_xkv (sy_xS (As := [.int 0]) (rest := []) ⟨hx, hb, hml, hown, hts⟩ hE hP hS (mX6_needState l hfl Z nT nK cT cK ad g q 0) (va_cwS 1 hts (gu_S uk_2_50 uk_2_51 uk_1_1 uk_2_52) rfl rfl rfl (by decide +kernel) ⟨Nat.le_of_ble_eq_true rfl, Nat.le_of_ble_eq_true rfl⟩) rfl hl.1 rfl (Nat.le_of_ble_eq_true rfl) dX6_withdraw_23 ⟨Nat.le_of_ble_eq_true rfl, Nat.le_of_ble_eq_true rfl⟩) hno hlocks hE hS ⟨Nat.le_of_ble_eq_true rfl, Nat.le_of_ble_eq_true rfl⟩ (fun E9 h9 => (by rw [h9.1, exc_IS]; unfold fX6_withdraw; rw [if_pos c_3, if_pos c_5] <;> rfl)) (fun g_e_6 q_e_6 H locs e_6 hP hS => ?_)
    exact absurd rfl e_6.1
  · skip
    refine lv_iconst (v := 1) hx hb dX6_withdraw_18 (by decide) ?_
    refine lv_goto (tgt := 23) hx hb dX6_withdraw_19 (by decide) ?_
    refine sy_xkv (sy_xS (As := [.int 1]) (rest := []) ⟨hx, hb, hml, hown, hts⟩ hE hP hS (mX6_needState l hfl Z nT nK cT cK ad g q 1) (va_cwS 1 hts (gu_S uk_2_50 uk_2_51 uk_1_1 uk_2_52) rfl rfl rfl (by decide +kernel) ⟨Nat.le_of_ble_eq_true rfl, Nat.le_of_ble_eq_true rfl⟩) rfl hl.1 rfl (Nat.le_of_ble_eq_true rfl) dX6_withdraw_23 ⟨Nat.le_of_ble_eq_true rfl, Nat.le_of_ble_eq_true rfl⟩) hno hlocks hE hS ⟨Nat.le_of_ble_eq_true rfl, Nat.le_of_ble_eq_true rfl⟩ (fun E9 h9 => (absurd (by decide) h9.2)) (fun g_e_9 q_e_9 H locs e_9 hP hS => ?_)
    obtain ⟨-, h7, h8⟩ := e_9; rw [h7, h8] at hP
    refine lv_aload_n hx hb dX6_withdraw_26 rfl (lv_at hl 0 rfl) ?_
    refine sy_getRX6 hx hb hts hown hE hP 60 rfl 7 (by decide) (hts _ (u_in uk_1_159)) (v := .ref (ad 68)) rfl dX6_withdraw_27 ?_
    refine lv_iload_n hx hb dX6_withdraw_30 rfl (lv_at hl 1 rfl) ?_
    refine lv_ineg hx hb dX6_withdraw_31 ?_
    refine sy_kv (sy_rV (o := 68) (As := [.int (-x0)]) (rest := []) ⟨hx, hb, hml, hown, hts⟩ hE hP hS (mX5_move l hfl Z nT nK cT cK ad g q (-x0) hT (ig_mv hG)) (cwV 1 hts (gu_V uk_3_140 uk_3_141 uk_3_142 uk_1_8 uk_3_143) rfl rfl rfl (by decide +kernel) ⟨Nat.le_of_ble_eq_true rfl, Nat.le_of_ble_eq_true rfl⟩) (sy_recv (kc := 6) hE hP rfl (by decide) rfl rfl rfl) rfl hl.1 rfl (Nat.le_of_ble_eq_true rfl) dX6_withdraw_32 ⟨Nat.le_of_ble_eq_true rfl, Nat.le_of_ble_eq_true rfl⟩) hS (fun g_e_12 q_e_12 H locs e_12 hP hS => ?_)
    cases e_12
    refine lv_aload_n hx hb dX6_withdraw_35 rfl (lv_at hl 0 rfl) ?_
    refine sy_getRX6 hx hb hts hown hE hP 60 rfl 7 (by decide) (hts _ (u_in uk_1_159)) (v := .ref (ad 68)) rfl dX6_withdraw_36 ?_
    refine sy_getRX5 hx hb hts hown hE hP 68 rfl 0 (by decide) (hts _ (u_in uk_1_134)) (v := .int ((fX5_move g q (-x0)) 68 0)) rfl dX6_withdraw_39 ?_
    exact vx_ret (sy_ireti hx hb hr hlocks hE hP hS dX6_withdraw_42 ⟨Nat.le_of_ble_eq_true rfl, Nat.le_of_ble_eq_true rfl⟩ (by unfold fX6_withdraw; rw [if_pos c_3, if_neg c_5] <;> rfl))
def fX6_thingOf (g : sG) (q : sQ) (x0 : Int32) (x1 : Int32) : Int32 × Int32 × sG × sQ := (if 0 ≤ x0 ∧ x0 < (g 61 2) then (if 0 ≤ x1 ∧ x1 ≤ 6 then (if x1 = 0 then (0, (g (100 + x0.toNatClampNeg) 1), g, q) else (if x1 = 1 then (0, (fX6_valueNow g q x0.toNatClampNeg), g, q) else (if x1 = 2 then (0, (g (100 + x0.toNatClampNeg) 4), g, q) else (if x1 = 3 then (if (g (100 + x0.toNatClampNeg) 5) = 0 then (0, 0, g, q) else (0, 1, g, q)) else (if x1 = 4 then (0, (g (100 + x0.toNatClampNeg) 7), g, q) else (if x1 = 5 then (0, (fX3_openTicketNumber g q x0.toNatClampNeg), g, q) else (if (g (100 + x0.toNatClampNeg) 6) = 0 then (0, 0, g, q) else (0, 1, g, q)))))))) else (2, 0, g, q)) else (1, 0, g, q))
set_option maxHeartbeats 4000000 in
set_option maxRecDepth 100000 in
theorem mX6_thingOf (l : Launch) (hfl : l.stackTraces = false) (Z : sZ) (nT nK cT cK : Nat) (ad : Nat → Nat) (g : sG) (q : sQ) (x0 : Int32) (x1 : Int32) (hT : nT ≤ 100) (hG : IG nT nK cT cK g) (hQ : IQ nT nK q) : sXi l Z yX6_thingOf (uW (.code yX6_thingOf cX6_thingOf 4 (some .int))) { frames := 8, cells := 2, slots := 12, locals := 123 } [.ref (ad 60), .int x0, .int x1] nT nK cT cK ad g q (fun r g1 q1 => (0, r, g1, q1) = fX6_thingOf g q x0 x1) (fun E => exc E = (fX6_thingOf g q x0 x1).1) := by
  refine vx_ofW (cc := cX6_thingOf) (maxL := 4) (ret := (some .int)) (by decide) rfl ?_
  intro p e s m args below meth c s₁ B hml hno hv
  obtain ⟨rfl, hE, hP⟩ := hv
  have hx := B.exec
  have hb := B.bytes
  have hr := B.returns
  have hts := atoms_spec (ws := uW (.code yX6_thingOf cX6_thingOf 4 (some .int))) B.pre
  have hown : s.vm.findClass RX6 = some m.cls := findClass_of_methodNamed B.named
  have hlocks := B.notSynchronized
  have hS : va_S (sy_A Z) s.heap s.heap [] := va_S.rf
  have hl := lv_entry ([.ref (ad 60), .int x0, .int x1]) (n := 4) (Nat.le_of_ble_eq_true rfl)
  rw [lg_entry_eq]
  generalize (lg_sl ([.ref (ad 60), .int x0, .int x1]) ++ List.replicate (4 - (lg_sl ([.ref (ad 60), .int x0, .int x1])).length) Slot.unset).toArray = ls at hl ⊢
  have hl : lv_has ls 4 [(0, .ref (ad 60)), (1, .int x0), (2, .int x1)] := hl
  refine lv_aload_n hx hb dX6_thingOf_0 rfl (lv_at hl 0 rfl) ?_
  refine lv_iload_n hx hb dX6_thingOf_1 rfl (lv_at hl 1 rfl) ?_
  refine sy_xkr (sy_xV (o := 60) (As := [.int x0]) (rest := []) ⟨hx, hb, hml, hown, hts⟩ hE hP hS (mX6_thingAt l hfl Z nT nK cT cK ad g q x0 hT hG hQ) (cwV 1 hts (gu_V uk_3_12 uk_3_14 uk_0_4 uk_1_1 uk_3_15) rfl rfl rfl (by decide +kernel) ⟨Nat.le_of_ble_eq_true rfl, Nat.le_of_ble_eq_true rfl⟩) (sy_recv (kc := 7) hE hP rfl (by decide) rfl rfl rfl) rfl hl.1 rfl (Nat.le_of_ble_eq_true rfl) dX6_thingOf_2 ⟨Nat.le_of_ble_eq_true rfl, Nat.le_of_ble_eq_true rfl⟩) hno hlocks hE hS ⟨Nat.le_of_ble_eq_true rfl, Nat.le_of_ble_eq_true rfl⟩ (fun E9 h9 => (by rw [h9.1, exc_IO]; unfold fX6_thingOf; rw [if_neg h9.2] <;> rfl)) (fun o_e_1 H locs e_1 hP hS => ?_)
  obtain ⟨c9, rfl⟩ := e_1
  have c_3 := c9
  refine lv_astore_n (lv' := [(3, .ref (ad (100 + x0.toNatClampNeg))), (0, .ref (ad 60)), (1, .int x0), (2, .int x1)]) hx hb dX6_thingOf_5 rfl hl (by decide) rfl (fun ls hl => ?_)
  refine lv_iload_n hx hb dX6_thingOf_6 rfl (lv_at hl 3 rfl) ?_
  refine lv_iconst (v := 0) hx hb dX6_thingOf_7 (by decide) ?_
  refine lv_bipush (v := 6) hx hb dX6_thingOf_8 (by decide) ?_
  refine sy_xkv (sy_xS (As := [.int x1, .int 0, .int 6]) (rest := []) ⟨hx, hb, hml, hown, hts⟩ hE hP hS (mX6_needRange l hfl Z nT nK cT cK ad g q x1 0 6) (va_cwS 3 hts (gu_S uk_2_28 uk_2_29 uk_1_1 uk_2_30) rfl rfl rfl (by decide +kernel) ⟨Nat.le_of_ble_eq_true rfl, Nat.le_of_ble_eq_true rfl⟩) rfl hl.1 rfl (Nat.le_of_ble_eq_true rfl) dX6_thingOf_10 ⟨Nat.le_of_ble_eq_true rfl, Nat.le_of_ble_eq_true rfl⟩) hno hlocks hE hS ⟨Nat.le_of_ble_eq_true rfl, Nat.le_of_ble_eq_true rfl⟩ (fun E9 h9 => (by rw [h9.1, exc_IA]; unfold fX6_thingOf; rw [if_pos c_3, if_neg h9.2] <;> rfl)) (fun g_e_4 q_e_4 H locs e_4 hP hS => ?_)
  have c_6 := e_4.1
  obtain ⟨-, h7, h8⟩ := e_4; rw [h7, h8] at hP
  refine lv_iload_n hx hb dX6_thingOf_13 rfl (lv_at hl 3 rfl) ?_
  by_cases c_7 : x1 = 0
  · refine lv_tableIn (off := 38) (tgt := 52) hx hb dX6_thingOf_14 (by rw [c_7]; decide) (by rw [c_7]; decide) (by rw [c_7]; rfl) (by decide) ?_
    refine lv_aload_n hx hb dX6_thingOf_52 rfl (lv_at hl 0 rfl) ?_
    refine sy_getRX3 hx hb hts hown hE hP (100 + x0.toNatClampNeg) (sy_kdT (at_lt hG.1 (by have := hG.2.1; have := hG.2.2.2.2.1; omega) c_3) hT) 1 (by decide) (hts _ (u_in uk_2_77)) (v := .int (g (100 + x0.toNatClampNeg) 1)) rfl dX6_thingOf_53 ?_
    exact vx_ret (sy_ireti hx hb hr hlocks hE hP hS dX6_thingOf_56 ⟨Nat.le_of_ble_eq_true rfl, Nat.le_of_ble_eq_true rfl⟩ (by unfold fX6_thingOf; rw [if_pos c_3, if_pos c_6, if_pos c_7] <;> rfl))
  · skip
    by_cases c_8 : x1 = 1
    · refine lv_tableIn (off := 43) (tgt := 57) hx hb dX6_thingOf_14 (by rw [c_8]; decide) (by rw [c_8]; decide) (by rw [c_8]; rfl) (by decide) ?_
      refine lv_aload_n hx hb dX6_thingOf_57 rfl (lv_at hl 1 rfl) ?_
      refine lv_aload_n hx hb dX6_thingOf_58 rfl (lv_at hl 0 rfl) ?_
      refine sy_ki (sy_rV (o := 60) (As := [.ref (ad (100 + x0.toNatClampNeg))]) (rest := []) ⟨hx, hb, hml, hown, hts⟩ hE hP hS (mX6_valueNow l hfl Z nT nK cT cK ad g q x0.toNatClampNeg hT hG hQ (at_lt hG.1 (by have := hG.2.1; have := hG.2.2.2.2.1; omega) c_3)) (cwV 1 hts (gu_V uk_3_30 uk_3_32 uk_0_5 uk_1_1 uk_3_33) rfl rfl rfl (by decide +kernel) ⟨Nat.le_of_ble_eq_true rfl, Nat.le_of_ble_eq_true rfl⟩) (sy_recv (kc := 7) hE hP rfl (by decide) rfl rfl rfl) rfl hl.1 rfl (Nat.le_of_ble_eq_true rfl) dX6_thingOf_59 ⟨Nat.le_of_ble_eq_true rfl, Nat.le_of_ble_eq_true rfl⟩) hS (fun r_e_9 g_e_9 q_e_9 H locs e_9 hP hS => ?_)
      cases e_9
      exact vx_ret (sy_ireti hx hb hr hlocks hE hP hS dX6_thingOf_62 ⟨Nat.le_of_ble_eq_true rfl, Nat.le_of_ble_eq_true rfl⟩ (by unfold fX6_thingOf; rw [if_pos c_3, if_pos c_6, if_neg c_7, if_pos c_8] <;> rfl))
    · skip
      by_cases c_10 : x1 = 2
      · refine lv_tableIn (off := 49) (tgt := 63) hx hb dX6_thingOf_14 (by rw [c_10]; decide) (by rw [c_10]; decide) (by rw [c_10]; rfl) (by decide) ?_
        refine lv_aload_n hx hb dX6_thingOf_63 rfl (lv_at hl 0 rfl) ?_
        refine sy_getRX3 hx hb hts hown hE hP (100 + x0.toNatClampNeg) (sy_kdT (at_lt hG.1 (by have := hG.2.1; have := hG.2.2.2.2.1; omega) c_3) hT) 4 (by decide) (hts _ (u_in uk_2_83)) (v := .int (g (100 + x0.toNatClampNeg) 4)) rfl dX6_thingOf_64 ?_
        exact vx_ret (sy_ireti hx hb hr hlocks hE hP hS dX6_thingOf_67 ⟨Nat.le_of_ble_eq_true rfl, Nat.le_of_ble_eq_true rfl⟩ (by unfold fX6_thingOf; rw [if_pos c_3, if_pos c_6, if_neg c_7, if_neg c_8, if_pos c_10] <;> rfl))
      · skip
        by_cases c_11 : x1 = 3
        · refine lv_tableIn (off := 54) (tgt := 68) hx hb dX6_thingOf_14 (by rw [c_11]; decide) (by rw [c_11]; decide) (by rw [c_11]; rfl) (by decide) ?_
          refine lv_aload_n hx hb dX6_thingOf_68 rfl (lv_at hl 0 rfl) ?_
          refine sy_getRX3 hx hb hts hown hE hP (100 + x0.toNatClampNeg) (sy_kdT (at_lt hG.1 (by have := hG.2.1; have := hG.2.2.2.2.1; omega) c_3) hT) 5 (by decide) (hts _ (u_in uk_2_85)) (v := .int (g (100 + x0.toNatClampNeg) 5)) rfl dX6_thingOf_69 ?_
          refine lv_if_eq (tgt := 79) hx hb dX6_thingOf_72 (by decide) (fun c_12 => ?_) (fun c_12 => ?_)
          · skip
            refine lv_iconst (v := 0) hx hb dX6_thingOf_79 (by decide) ?_
            exact vx_ret (sy_ireti hx hb hr hlocks hE hP hS dX6_thingOf_80 ⟨Nat.le_of_ble_eq_true rfl, Nat.le_of_ble_eq_true rfl⟩ (by unfold fX6_thingOf; rw [if_pos c_3, if_pos c_6, if_neg c_7, if_neg c_8, if_neg c_10, if_pos c_11, if_pos c_12] <;> rfl))
          · skip
            refine lv_iconst (v := 1) hx hb dX6_thingOf_75 (by decide) ?_
            refine lv_goto (tgt := 80) hx hb dX6_thingOf_76 (by decide) ?_
            exact vx_ret (sy_ireti hx hb hr hlocks hE hP hS dX6_thingOf_80 ⟨Nat.le_of_ble_eq_true rfl, Nat.le_of_ble_eq_true rfl⟩ (by unfold fX6_thingOf; rw [if_pos c_3, if_pos c_6, if_neg c_7, if_neg c_8, if_neg c_10, if_pos c_11, if_neg c_12] <;> rfl))
        · skip
          by_cases c_13 : x1 = 4
          · refine lv_tableIn (off := 67) (tgt := 81) hx hb dX6_thingOf_14 (by rw [c_13]; decide) (by rw [c_13]; decide) (by rw [c_13]; rfl) (by decide) ?_
            refine lv_aload_n hx hb dX6_thingOf_81 rfl (lv_at hl 0 rfl) ?_
            refine sy_getRX3 hx hb hts hown hE hP (100 + x0.toNatClampNeg) (sy_kdT (at_lt hG.1 (by have := hG.2.1; have := hG.2.2.2.2.1; omega) c_3) hT) 7 (by decide) (hts _ (u_in uk_2_90)) (v := .int (g (100 + x0.toNatClampNeg) 7)) rfl dX6_thingOf_82 ?_
            exact vx_ret (sy_ireti hx hb hr hlocks hE hP hS dX6_thingOf_85 ⟨Nat.le_of_ble_eq_true rfl, Nat.le_of_ble_eq_true rfl⟩ (by unfold fX6_thingOf; rw [if_pos c_3, if_pos c_6, if_neg c_7, if_neg c_8, if_neg c_10, if_neg c_11, if_pos c_13] <;> rfl))
          · skip
            by_cases c_14 : x1 = 5
            · refine lv_tableIn (off := 72) (tgt := 86) hx hb dX6_thingOf_14 (by rw [c_14]; decide) (by rw [c_14]; decide) (by rw [c_14]; rfl) (by decide) ?_
              refine lv_aload_n hx hb dX6_thingOf_86 rfl (lv_at hl 0 rfl) ?_
              refine sy_ki (sy_rV (o := (100 + x0.toNatClampNeg)) (As := []) (rest := []) ⟨hx, hb, hml, hown, hts⟩ hE hP hS (mX3_openTicketNumber l hfl Z nT nK cT cK ad g q x0.toNatClampNeg hT (at_lt hG.1 (by have := hG.2.1; have := hG.2.2.2.2.1; omega) c_3) hQ) (cwV 0 hts (gu_V uk_3_184 uk_3_185 uk_3_186 uk_1_15 uk_3_187) rfl rfl rfl (by decide +kernel) ⟨Nat.le_of_ble_eq_true rfl, Nat.le_of_ble_eq_true rfl⟩) (sy_recv (kc := 4) hE hP (sy_kdT (at_lt hG.1 (by have := hG.2.1; have := hG.2.2.2.2.1; omega) c_3) hT) (by decide) rfl rfl rfl) rfl hl.1 rfl (Nat.le_of_ble_eq_true rfl) dX6_thingOf_87 ⟨Nat.le_of_ble_eq_true rfl, Nat.le_of_ble_eq_true rfl⟩) hS (fun r_e_15 g_e_15 q_e_15 H locs e_15 hP hS => ?_)
              cases e_15
              exact vx_ret (sy_ireti hx hb hr hlocks hE hP hS dX6_thingOf_90 ⟨Nat.le_of_ble_eq_true rfl, Nat.le_of_ble_eq_true rfl⟩ (by unfold fX6_thingOf; rw [if_pos c_3, if_pos c_6, if_neg c_7, if_neg c_8, if_neg c_10, if_neg c_11, if_neg c_13, if_pos c_14] <;> rfl))
            · skip
              have a9 := Int32.le_iff_toInt_le.mp c_6.1
              have a9_0 : x1.toInt ≠ 0 := fun e9 => c_7 (Int32.toInt_inj.mp (e9.trans (by decide)))
              have a9_1 : x1.toInt ≠ 1 := fun e9 => c_8 (Int32.toInt_inj.mp (e9.trans (by decide)))
              have a9_2 : x1.toInt ≠ 2 := fun e9 => c_10 (Int32.toInt_inj.mp (e9.trans (by decide)))
              have a9_3 : x1.toInt ≠ 3 := fun e9 => c_11 (Int32.toInt_inj.mp (e9.trans (by decide)))
              have a9_4 : x1.toInt ≠ 4 := fun e9 => c_13 (Int32.toInt_inj.mp (e9.trans (by decide)))
              have a9_5 : x1.toInt ≠ 5 := fun e9 => c_14 (Int32.toInt_inj.mp (e9.trans (by decide)))
              rw [show Int32.toInt 0 = 0 from by decide] at a9
              refine lv_tableOut (tgt := 91) hx hb dX6_thingOf_14 (Or.inr (by omega)) (by decide) ?_
              refine lv_aload_n hx hb dX6_thingOf_91 rfl (lv_at hl 0 rfl) ?_
              refine sy_getRX3 hx hb hts hown hE hP (100 + x0.toNatClampNeg) (sy_kdT (at_lt hG.1 (by have := hG.2.1; have := hG.2.2.2.2.1; omega) c_3) hT) 6 (by decide) (hts _ (u_in uk_2_88)) (v := .int (g (100 + x0.toNatClampNeg) 6)) rfl dX6_thingOf_92 ?_
              refine lv_if_eq (tgt := 102) hx hb dX6_thingOf_95 (by decide) (fun c_16 => ?_) (fun c_16 => ?_)
              · skip
                refine lv_iconst (v := 0) hx hb dX6_thingOf_102 (by decide) ?_
                exact vx_ret (sy_ireti hx hb hr hlocks hE hP hS dX6_thingOf_103 ⟨Nat.le_of_ble_eq_true rfl, Nat.le_of_ble_eq_true rfl⟩ (by unfold fX6_thingOf; rw [if_pos c_3, if_pos c_6, if_neg c_7, if_neg c_8, if_neg c_10, if_neg c_11, if_neg c_13, if_neg c_14, if_pos c_16] <;> rfl))
              · skip
                refine lv_iconst (v := 1) hx hb dX6_thingOf_98 (by decide) ?_
                refine lv_goto (tgt := 103) hx hb dX6_thingOf_99 (by decide) ?_
                exact vx_ret (sy_ireti hx hb hr hlocks hE hP hS dX6_thingOf_103 ⟨Nat.le_of_ble_eq_true rfl, Nat.le_of_ble_eq_true rfl⟩ (by unfold fX6_thingOf; rw [if_pos c_3, if_pos c_6, if_neg c_7, if_neg c_8, if_neg c_10, if_neg c_11, if_neg c_13, if_neg c_14, if_neg c_16] <;> rfl))
def fX6_ticketOf (g : sG) (q : sQ) (x0 : Int32) (x1 : Int32) : Int32 × Int32 × sG × sQ := (if 0 ≤ x0 ∧ x0 < (g 62 2) then (if 0 ≤ x1 ∧ x1 ≤ 9 then (if x1 = 0 then (0, (g (200 + x0.toNatClampNeg) 7), g, q) else (if x1 = 1 then (0, (g (100 + (tg q x0.toNatClampNeg)) 0), g, q) else (if x1 = 2 then (0, (g (200 + x0.toNatClampNeg) 8), g, q) else (if x1 = 3 then (0, (fX6_interestNow g q x0.toNatClampNeg), g, q) else (if x1 = 4 then (0, (g (200 + x0.toNatClampNeg) 6), g, q) else (if x1 = 5 then (0, (g (200 + x0.toNatClampNeg) 9), g, q) else (if x1 = 6 then (0, (fX4_lastDay g q x0.toNatClampNeg), g, q) else (if x1 = 7 then (0, (g (200 + x0.toNatClampNeg) 14), g, q) else (if x1 = 8 then (if (fX4_hasNotice g q x0.toNatClampNeg) = 0 then (if (fX4_isBarredByList g q x0.toNatClampNeg) = 0 then (0, 0, g, q) else (0, 2, g, q)) else (if (fX4_isBarredByList g q x0.toNatClampNeg) = 0 then (0, 1, g, q) else (0, 3, g, q))) else (0, (g (200 + x0.toNatClampNeg) 13), g, q)))))))))) else (2, 0, g, q)) else (1, 0, g, q))
set_option maxHeartbeats 4000000 in
set_option maxRecDepth 100000 in
theorem mX6_ticketOf (l : Launch) (hfl : l.stackTraces = false) (Z : sZ) (nT nK cT cK : Nat) (ad : Nat → Nat) (g : sG) (q : sQ) (x0 : Int32) (x1 : Int32) (hT : nT ≤ 100) (hG : IG nT nK cT cK g) (hQ : IQ nT nK q) : sXi l Z yX6_ticketOf (uW (.code yX6_ticketOf cX6_ticketOf 4 (some .int))) { frames := 8, cells := 2, slots := 12, locals := 123 } [.ref (ad 60), .int x0, .int x1] nT nK cT cK ad g q (fun r g1 q1 => (0, r, g1, q1) = fX6_ticketOf g q x0 x1) (fun E => exc E = (fX6_ticketOf g q x0 x1).1) := by
  refine vx_ofW (cc := cX6_ticketOf) (maxL := 4) (ret := (some .int)) (by decide) rfl ?_
  intro p e s m args below meth c s₁ B hml hno hv
  obtain ⟨rfl, hE, hP⟩ := hv
  have hx := B.exec
  have hb := B.bytes
  have hr := B.returns
  have hts := atoms_spec (ws := uW (.code yX6_ticketOf cX6_ticketOf 4 (some .int))) B.pre
  have hown : s.vm.findClass RX6 = some m.cls := findClass_of_methodNamed B.named
  have hlocks := B.notSynchronized
  have hS : va_S (sy_A Z) s.heap s.heap [] := va_S.rf
  have hl := lv_entry ([.ref (ad 60), .int x0, .int x1]) (n := 4) (Nat.le_of_ble_eq_true rfl)
  rw [lg_entry_eq]
  generalize (lg_sl ([.ref (ad 60), .int x0, .int x1]) ++ List.replicate (4 - (lg_sl ([.ref (ad 60), .int x0, .int x1])).length) Slot.unset).toArray = ls at hl ⊢
  have hl : lv_has ls 4 [(0, .ref (ad 60)), (1, .int x0), (2, .int x1)] := hl
  refine lv_aload_n hx hb dX6_ticketOf_0 rfl (lv_at hl 0 rfl) ?_
  refine lv_iload_n hx hb dX6_ticketOf_1 rfl (lv_at hl 1 rfl) ?_
  refine sy_xkr (sy_xV (o := 60) (As := [.int x0]) (rest := []) ⟨hx, hb, hml, hown, hts⟩ hE hP hS (mX6_ticketAt l hfl Z nT nK cT cK ad g q x0 hT hG hQ) (cwV 1 hts (gu_V uk_3_151 uk_3_153 uk_0_10 uk_1_1 uk_3_154) rfl rfl rfl (by decide +kernel) ⟨Nat.le_of_ble_eq_true rfl, Nat.le_of_ble_eq_true rfl⟩) (sy_recv (kc := 7) hE hP rfl (by decide) rfl rfl rfl) rfl hl.1 rfl (Nat.le_of_ble_eq_true rfl) dX6_ticketOf_2 ⟨Nat.le_of_ble_eq_true rfl, Nat.le_of_ble_eq_true rfl⟩) hno hlocks hE hS ⟨Nat.le_of_ble_eq_true rfl, Nat.le_of_ble_eq_true rfl⟩ (fun E9 h9 => (by rw [h9.1, exc_IO]; unfold fX6_ticketOf; rw [if_neg h9.2] <;> rfl)) (fun o_e_1 H locs e_1 hP hS => ?_)
  obtain ⟨c9, rfl⟩ := e_1
  have c_3 := c9
  refine lv_astore_n (lv' := [(3, .ref (ad (200 + x0.toNatClampNeg))), (0, .ref (ad 60)), (1, .int x0), (2, .int x1)]) hx hb dX6_ticketOf_5 rfl hl (by decide) rfl (fun ls hl => ?_)
  refine lv_iload_n hx hb dX6_ticketOf_6 rfl (lv_at hl 3 rfl) ?_
  refine lv_iconst (v := 0) hx hb dX6_ticketOf_7 (by decide) ?_
  refine lv_bipush (v := 9) hx hb dX6_ticketOf_8 (by decide) ?_
  refine sy_xkv (sy_xS (As := [.int x1, .int 0, .int 9]) (rest := []) ⟨hx, hb, hml, hown, hts⟩ hE hP hS (mX6_needRange l hfl Z nT nK cT cK ad g q x1 0 9) (va_cwS 3 hts (gu_S uk_2_28 uk_2_29 uk_1_1 uk_2_30) rfl rfl rfl (by decide +kernel) ⟨Nat.le_of_ble_eq_true rfl, Nat.le_of_ble_eq_true rfl⟩) rfl hl.1 rfl (Nat.le_of_ble_eq_true rfl) dX6_ticketOf_10 ⟨Nat.le_of_ble_eq_true rfl, Nat.le_of_ble_eq_true rfl⟩) hno hlocks hE hS ⟨Nat.le_of_ble_eq_true rfl, Nat.le_of_ble_eq_true rfl⟩ (fun E9 h9 => (by rw [h9.1, exc_IA]; unfold fX6_ticketOf; rw [if_pos c_3, if_neg h9.2] <;> rfl)) (fun g_e_4 q_e_4 H locs e_4 hP hS => ?_)
  have c_6 := e_4.1
  obtain ⟨-, h7, h8⟩ := e_4; rw [h7, h8] at hP
  refine lv_iload_n hx hb dX6_ticketOf_13 rfl (lv_at hl 3 rfl) ?_
  by_cases c_7 : x1 = 0
  · refine lv_tableIn (off := 50) (tgt := 64) hx hb dX6_ticketOf_14 (by rw [c_7]; decide) (by rw [c_7]; decide) (by rw [c_7]; rfl) (by decide) ?_
    refine lv_aload_n hx hb dX6_ticketOf_64 rfl (lv_at hl 0 rfl) ?_
    refine sy_getRX4 hx hb hts hown hE hP (200 + x0.toNatClampNeg) (sy_kdK (at_lt hG.2.2.2.1 (by have := hG.2.1; have := hG.2.2.2.2.1; omega) c_3)) 7 (by decide) (hts _ (u_in uk_3_83)) (v := .int (g (200 + x0.toNatClampNeg) 7)) rfl dX6_ticketOf_65 ?_
    exact vx_ret (sy_ireti hx hb hr hlocks hE hP hS dX6_ticketOf_68 ⟨Nat.le_of_ble_eq_true rfl, Nat.le_of_ble_eq_true rfl⟩ (by unfold fX6_ticketOf; rw [if_pos c_3, if_pos c_6, if_pos c_7] <;> rfl))
  · skip
    by_cases c_8 : x1 = 1
    · refine lv_tableIn (off := 55) (tgt := 69) hx hb dX6_ticketOf_14 (by rw [c_8]; decide) (by rw [c_8]; decide) (by rw [c_8]; rfl) (by decide) ?_
      refine lv_aload_n hx hb dX6_ticketOf_69 rfl (lv_at hl 0 rfl) ?_
      refine sy_getRX4 hx hb hts hown hE hP (200 + x0.toNatClampNeg) (sy_kdK (at_lt hG.2.2.2.1 (by have := hG.2.1; have := hG.2.2.2.2.1; omega) c_3)) 1 (by decide) (hts _ (u_in uk_3_71)) (v := .ref (ad (100 + (tg q x0.toNatClampNeg)))) (by show some (sy_rv ad (q (200 + x0.toNatClampNeg) 1)) = _; rw [(iq_tg hQ (at_lt hG.2.2.2.1 (by have := hG.2.1; have := hG.2.2.2.2.1; omega) c_3)).1]; rfl) dX6_ticketOf_70 ?_
      refine sy_getRX3 hx hb hts hown hE hP (100 + (tg q x0.toNatClampNeg)) (sy_kdT (iq_tg hQ (at_lt hG.2.2.2.1 (by have := hG.2.1; have := hG.2.2.2.2.1; omega) c_3)).2 hT) 0 (by decide) (hts _ (u_in uk_2_75)) (v := .int (g (100 + (tg q x0.toNatClampNeg)) 0)) rfl dX6_ticketOf_73 ?_
      exact vx_ret (sy_ireti hx hb hr hlocks hE hP hS dX6_ticketOf_76 ⟨Nat.le_of_ble_eq_true rfl, Nat.le_of_ble_eq_true rfl⟩ (by unfold fX6_ticketOf; rw [if_pos c_3, if_pos c_6, if_neg c_7, if_pos c_8] <;> rfl))
    · skip
      by_cases c_9 : x1 = 2
      · refine lv_tableIn (off := 63) (tgt := 77) hx hb dX6_ticketOf_14 (by rw [c_9]; decide) (by rw [c_9]; decide) (by rw [c_9]; rfl) (by decide) ?_
        refine lv_aload_n hx hb dX6_ticketOf_77 rfl (lv_at hl 0 rfl) ?_
        refine sy_getRX4 hx hb hts hown hE hP (200 + x0.toNatClampNeg) (sy_kdK (at_lt hG.2.2.2.1 (by have := hG.2.1; have := hG.2.2.2.2.1; omega) c_3)) 8 (by decide) (hts _ (u_in uk_3_85)) (v := .int (g (200 + x0.toNatClampNeg) 8)) rfl dX6_ticketOf_78 ?_
        exact vx_ret (sy_ireti hx hb hr hlocks hE hP hS dX6_ticketOf_81 ⟨Nat.le_of_ble_eq_true rfl, Nat.le_of_ble_eq_true rfl⟩ (by unfold fX6_ticketOf; rw [if_pos c_3, if_pos c_6, if_neg c_7, if_neg c_8, if_pos c_9] <;> rfl))
      · skip
        by_cases c_10 : x1 = 3
        · refine lv_tableIn (off := 68) (tgt := 82) hx hb dX6_ticketOf_14 (by rw [c_10]; decide) (by rw [c_10]; decide) (by rw [c_10]; rfl) (by decide) ?_
          refine lv_aload_n hx hb dX6_ticketOf_82 rfl (lv_at hl 1 rfl) ?_
          refine lv_aload_n hx hb dX6_ticketOf_83 rfl (lv_at hl 0 rfl) ?_
          refine sy_ki (sy_rV (o := 60) (As := [.ref (ad (200 + x0.toNatClampNeg))]) (rest := []) ⟨hx, hb, hml, hown, hts⟩ hE hP hS (mX6_interestNow l hfl Z nT nK cT cK ad g q x0.toNatClampNeg hT hG hQ (at_lt hG.2.2.2.1 (by have := hG.2.1; have := hG.2.2.2.2.1; omega) c_3)) (cwV 1 hts (gu_V uk_4_60 uk_4_62 uk_0_15 uk_1_1 uk_4_63) rfl rfl rfl (by decide +kernel) ⟨Nat.le_of_ble_eq_true rfl, Nat.le_of_ble_eq_true rfl⟩) (sy_recv (kc := 7) hE hP rfl (by decide) rfl rfl rfl) rfl hl.1 rfl (Nat.le_of_ble_eq_true rfl) dX6_ticketOf_84 ⟨Nat.le_of_ble_eq_true rfl, Nat.le_of_ble_eq_true rfl⟩) hS (fun r_e_11 g_e_11 q_e_11 H locs e_11 hP hS => ?_)
          cases e_11
          exact vx_ret (sy_ireti hx hb hr hlocks hE hP hS dX6_ticketOf_87 ⟨Nat.le_of_ble_eq_true rfl, Nat.le_of_ble_eq_true rfl⟩ (by unfold fX6_ticketOf; rw [if_pos c_3, if_pos c_6, if_neg c_7, if_neg c_8, if_neg c_9, if_pos c_10] <;> rfl))
        · skip
          by_cases c_12 : x1 = 4
          · refine lv_tableIn (off := 74) (tgt := 88) hx hb dX6_ticketOf_14 (by rw [c_12]; decide) (by rw [c_12]; decide) (by rw [c_12]; rfl) (by decide) ?_
            refine lv_aload_n hx hb dX6_ticketOf_88 rfl (lv_at hl 0 rfl) ?_
            refine sy_getRX4 hx hb hts hown hE hP (200 + x0.toNatClampNeg) (sy_kdK (at_lt hG.2.2.2.1 (by have := hG.2.1; have := hG.2.2.2.2.1; omega) c_3)) 6 (by decide) (hts _ (u_in uk_3_81)) (v := .int (g (200 + x0.toNatClampNeg) 6)) rfl dX6_ticketOf_89 ?_
            exact vx_ret (sy_ireti hx hb hr hlocks hE hP hS dX6_ticketOf_92 ⟨Nat.le_of_ble_eq_true rfl, Nat.le_of_ble_eq_true rfl⟩ (by unfold fX6_ticketOf; rw [if_pos c_3, if_pos c_6, if_neg c_7, if_neg c_8, if_neg c_9, if_neg c_10, if_pos c_12] <;> rfl))
          · skip
            by_cases c_13 : x1 = 5
            · refine lv_tableIn (off := 79) (tgt := 93) hx hb dX6_ticketOf_14 (by rw [c_13]; decide) (by rw [c_13]; decide) (by rw [c_13]; rfl) (by decide) ?_
              refine lv_aload_n hx hb dX6_ticketOf_93 rfl (lv_at hl 0 rfl) ?_
              refine sy_getRX4 hx hb hts hown hE hP (200 + x0.toNatClampNeg) (sy_kdK (at_lt hG.2.2.2.1 (by have := hG.2.1; have := hG.2.2.2.2.1; omega) c_3)) 9 (by decide) (hts _ (u_in uk_3_87)) (v := .int (g (200 + x0.toNatClampNeg) 9)) rfl dX6_ticketOf_94 ?_
              exact vx_ret (sy_ireti hx hb hr hlocks hE hP hS dX6_ticketOf_97 ⟨Nat.le_of_ble_eq_true rfl, Nat.le_of_ble_eq_true rfl⟩ (by unfold fX6_ticketOf; rw [if_pos c_3, if_pos c_6, if_neg c_7, if_neg c_8, if_neg c_9, if_neg c_10, if_neg c_12, if_pos c_13] <;> rfl))
            · skip
              by_cases c_14 : x1 = 6
              · refine lv_tableIn (off := 84) (tgt := 98) hx hb dX6_ticketOf_14 (by rw [c_14]; decide) (by rw [c_14]; decide) (by rw [c_14]; rfl) (by decide) ?_
                refine lv_aload_n hx hb dX6_ticketOf_98 rfl (lv_at hl 0 rfl) ?_
                refine sy_ki (sy_rV (o := (200 + x0.toNatClampNeg)) (As := []) (rest := []) ⟨hx, hb, hml, hown, hts⟩ hE hP hS (mX4_lastDay l hfl Z nT nK cT cK ad g q x0.toNatClampNeg hT (at_lt hG.2.2.2.1 (by have := hG.2.1; have := hG.2.2.2.2.1; omega) c_3)) (cwV 0 hts (gu_V uk_4_80 uk_4_81 uk_4_82 uk_1_22 uk_4_83) rfl rfl rfl (by decide +kernel) ⟨Nat.le_of_ble_eq_true rfl, Nat.le_of_ble_eq_true rfl⟩) (sy_recv (kc := 5) hE hP (sy_kdK (at_lt hG.2.2.2.1 (by have := hG.2.1; have := hG.2.2.2.2.1; omega) c_3)) (by decide) rfl rfl rfl) rfl hl.1 rfl (Nat.le_of_ble_eq_true rfl) dX6_ticketOf_99 ⟨Nat.le_of_ble_eq_true rfl, Nat.le_of_ble_eq_true rfl⟩) hS (fun r_e_15 g_e_15 q_e_15 H locs e_15 hP hS => ?_)
                cases e_15
                exact vx_ret (sy_ireti hx hb hr hlocks hE hP hS dX6_ticketOf_102 ⟨Nat.le_of_ble_eq_true rfl, Nat.le_of_ble_eq_true rfl⟩ (by unfold fX6_ticketOf; rw [if_pos c_3, if_pos c_6, if_neg c_7, if_neg c_8, if_neg c_9, if_neg c_10, if_neg c_12, if_neg c_13, if_pos c_14] <;> rfl))
              · skip
                by_cases c_16 : x1 = 7
                · refine lv_tableIn (off := 89) (tgt := 103) hx hb dX6_ticketOf_14 (by rw [c_16]; decide) (by rw [c_16]; decide) (by rw [c_16]; rfl) (by decide) ?_
                  refine lv_aload_n hx hb dX6_ticketOf_103 rfl (lv_at hl 0 rfl) ?_
                  refine sy_getRX4 hx hb hts hown hE hP (200 + x0.toNatClampNeg) (sy_kdK (at_lt hG.2.2.2.1 (by have := hG.2.1; have := hG.2.2.2.2.1; omega) c_3)) 14 (by decide) (hts _ (u_in uk_3_96)) (v := .int (g (200 + x0.toNatClampNeg) 14)) rfl dX6_ticketOf_104 ?_
                  exact vx_ret (sy_ireti hx hb hr hlocks hE hP hS dX6_ticketOf_107 ⟨Nat.le_of_ble_eq_true rfl, Nat.le_of_ble_eq_true rfl⟩ (by unfold fX6_ticketOf; rw [if_pos c_3, if_pos c_6, if_neg c_7, if_neg c_8, if_neg c_9, if_neg c_10, if_neg c_12, if_neg c_13, if_neg c_14, if_pos c_16] <;> rfl))
                · skip
                  by_cases c_17 : x1 = 8
                  · refine lv_tableIn (off := 94) (tgt := 108) hx hb dX6_ticketOf_14 (by rw [c_17]; decide) (by rw [c_17]; decide) (by rw [c_17]; rfl) (by decide) ?_
                    refine lv_aload_n hx hb dX6_ticketOf_108 rfl (lv_at hl 0 rfl) ?_
                    refine sy_ki (sy_rV (o := (200 + x0.toNatClampNeg)) (As := []) (rest := []) ⟨hx, hb, hml, hown, hts⟩ hE hP hS (mX4_hasNotice l hfl Z nT nK cT cK ad g q x0.toNatClampNeg hT (at_lt hG.2.2.2.1 (by have := hG.2.1; have := hG.2.2.2.2.1; omega) c_3)) (cwV 0 hts (gu_V uk_3_166 uk_3_167 uk_3_168 uk_1_22 uk_3_169) rfl rfl rfl (by decide +kernel) ⟨Nat.le_of_ble_eq_true rfl, Nat.le_of_ble_eq_true rfl⟩) (sy_recv (kc := 5) hE hP (sy_kdK (at_lt hG.2.2.2.1 (by have := hG.2.1; have := hG.2.2.2.2.1; omega) c_3)) (by decide) rfl rfl rfl) rfl hl.1 rfl (Nat.le_of_ble_eq_true rfl) dX6_ticketOf_109 ⟨Nat.le_of_ble_eq_true rfl, Nat.le_of_ble_eq_true rfl⟩) hS (fun r_e_18 g_e_18 q_e_18 H locs e_18 hP hS => ?_)
                    cases e_18
                    refine lv_if_eq (tgt := 119) hx hb dX6_ticketOf_112 (by decide) (fun c_19 => ?_) (fun c_19 => ?_)
                    · skip
                      refine lv_iconst (v := 0) hx hb dX6_ticketOf_119 (by decide) ?_
                      refine lv_aload_n hx hb dX6_ticketOf_120 rfl (lv_at hl 0 rfl) ?_
                      refine sy_ki (sy_rV (o := (200 + x0.toNatClampNeg)) (As := []) (rest := [.int 0]) ⟨hx, hb, hml, hown, hts⟩ hE hP hS (mX4_isBarredByList l hfl Z nT nK cT cK ad g q x0.toNatClampNeg hT (at_lt hG.2.2.2.1 (by have := hG.2.1; have := hG.2.2.2.2.1; omega) c_3) hQ) (cwV 0 hts (gu_V uk_4_84 uk_4_85 uk_4_86 uk_1_22 uk_4_87) rfl rfl rfl (by decide +kernel) ⟨Nat.le_of_ble_eq_true rfl, Nat.le_of_ble_eq_true rfl⟩) (sy_recv (kc := 5) hE hP (sy_kdK (at_lt hG.2.2.2.1 (by have := hG.2.1; have := hG.2.2.2.2.1; omega) c_3)) (by decide) rfl rfl rfl) rfl hl.1 rfl (Nat.le_of_ble_eq_true rfl) dX6_ticketOf_121 ⟨Nat.le_of_ble_eq_true rfl, Nat.le_of_ble_eq_true rfl⟩) hS (fun r_e_20 g_e_20 q_e_20 H locs e_20 hP hS => ?_)
                      cases e_20
                      refine lv_if_eq (tgt := 131) hx hb dX6_ticketOf_124 (by decide) (fun c_21 => ?_) (fun c_21 => ?_)
                      · skip
                        refine lv_iconst (v := 0) hx hb dX6_ticketOf_131 (by decide) ?_
                        refine lv_iadd hx hb dX6_ticketOf_132 ?_
                        refine sy_top (y := 0) (by decide) ?_
                        exact vx_ret (sy_ireti hx hb hr hlocks hE hP hS dX6_ticketOf_133 ⟨Nat.le_of_ble_eq_true rfl, Nat.le_of_ble_eq_true rfl⟩ (by unfold fX6_ticketOf; rw [if_pos c_3, if_pos c_6, if_neg c_7, if_neg c_8, if_neg c_9, if_neg c_10, if_neg c_12, if_neg c_13, if_neg c_14, if_neg c_16, if_pos c_17, if_pos c_19, if_pos c_21] <;> rfl))
                      · skip
                        refine lv_iconst (v := 2) hx hb dX6_ticketOf_127 (by decide) ?_
                        refine lv_goto (tgt := 132) hx hb dX6_ticketOf_128 (by decide) ?_
                        refine lv_iadd hx hb dX6_ticketOf_132 ?_
                        refine sy_top (y := 2) (by decide) ?_
                        exact vx_ret (sy_ireti hx hb hr hlocks hE hP hS dX6_ticketOf_133 ⟨Nat.le_of_ble_eq_true rfl, Nat.le_of_ble_eq_true rfl⟩ (by unfold fX6_ticketOf; rw [if_pos c_3, if_pos c_6, if_neg c_7, if_neg c_8, if_neg c_9, if_neg c_10, if_neg c_12, if_neg c_13, if_neg c_14, if_neg c_16, if_pos c_17, if_pos c_19, if_neg c_21] <;> rfl))
                    · skip
                      refine lv_iconst (v := 1) hx hb dX6_ticketOf_115 (by decide) ?_
                      refine lv_goto (tgt := 120) hx hb dX6_ticketOf_116 (by decide) ?_
                      refine lv_aload_n hx hb dX6_ticketOf_120 rfl (lv_at hl 0 rfl) ?_
                      refine sy_ki (sy_rV (o := (200 + x0.toNatClampNeg)) (As := []) (rest := [.int 1]) ⟨hx, hb, hml, hown, hts⟩ hE hP hS (mX4_isBarredByList l hfl Z nT nK cT cK ad g q x0.toNatClampNeg hT (at_lt hG.2.2.2.1 (by have := hG.2.1; have := hG.2.2.2.2.1; omega) c_3) hQ) (cwV 0 hts (gu_V uk_4_84 uk_4_85 uk_4_86 uk_1_22 uk_4_87) rfl rfl rfl (by decide +kernel) ⟨Nat.le_of_ble_eq_true rfl, Nat.le_of_ble_eq_true rfl⟩) (sy_recv (kc := 5) hE hP (sy_kdK (at_lt hG.2.2.2.1 (by have := hG.2.1; have := hG.2.2.2.2.1; omega) c_3)) (by decide) rfl rfl rfl) rfl hl.1 rfl (Nat.le_of_ble_eq_true rfl) dX6_ticketOf_121 ⟨Nat.le_of_ble_eq_true rfl, Nat.le_of_ble_eq_true rfl⟩) hS (fun r_e_22 g_e_22 q_e_22 H locs e_22 hP hS => ?_)
                      cases e_22
                      refine lv_if_eq (tgt := 131) hx hb dX6_ticketOf_124 (by decide) (fun c_23 => ?_) (fun c_23 => ?_)
                      · skip
                        refine lv_iconst (v := 0) hx hb dX6_ticketOf_131 (by decide) ?_
                        refine lv_iadd hx hb dX6_ticketOf_132 ?_
                        refine sy_top (y := 1) (by decide) ?_
                        exact vx_ret (sy_ireti hx hb hr hlocks hE hP hS dX6_ticketOf_133 ⟨Nat.le_of_ble_eq_true rfl, Nat.le_of_ble_eq_true rfl⟩ (by unfold fX6_ticketOf; rw [if_pos c_3, if_pos c_6, if_neg c_7, if_neg c_8, if_neg c_9, if_neg c_10, if_neg c_12, if_neg c_13, if_neg c_14, if_neg c_16, if_pos c_17, if_neg c_19, if_pos c_23] <;> rfl))
                      · skip
                        refine lv_iconst (v := 2) hx hb dX6_ticketOf_127 (by decide) ?_
                        refine lv_goto (tgt := 132) hx hb dX6_ticketOf_128 (by decide) ?_
                        refine lv_iadd hx hb dX6_ticketOf_132 ?_
                        refine sy_top (y := 3) (by decide) ?_
                        exact vx_ret (sy_ireti hx hb hr hlocks hE hP hS dX6_ticketOf_133 ⟨Nat.le_of_ble_eq_true rfl, Nat.le_of_ble_eq_true rfl⟩ (by unfold fX6_ticketOf; rw [if_pos c_3, if_pos c_6, if_neg c_7, if_neg c_8, if_neg c_9, if_neg c_10, if_neg c_12, if_neg c_13, if_neg c_14, if_neg c_16, if_pos c_17, if_neg c_19, if_neg c_23] <;> rfl))
                  · skip
                    have a9 := Int32.le_iff_toInt_le.mp c_6.1
                    have a9_0 : x1.toInt ≠ 0 := fun e9 => c_7 (Int32.toInt_inj.mp (e9.trans (by decide)))
                    have a9_1 : x1.toInt ≠ 1 := fun e9 => c_8 (Int32.toInt_inj.mp (e9.trans (by decide)))
                    have a9_2 : x1.toInt ≠ 2 := fun e9 => c_9 (Int32.toInt_inj.mp (e9.trans (by decide)))
                    have a9_3 : x1.toInt ≠ 3 := fun e9 => c_10 (Int32.toInt_inj.mp (e9.trans (by decide)))
                    have a9_4 : x1.toInt ≠ 4 := fun e9 => c_12 (Int32.toInt_inj.mp (e9.trans (by decide)))
                    have a9_5 : x1.toInt ≠ 5 := fun e9 => c_13 (Int32.toInt_inj.mp (e9.trans (by decide)))
                    have a9_6 : x1.toInt ≠ 6 := fun e9 => c_14 (Int32.toInt_inj.mp (e9.trans (by decide)))
                    have a9_7 : x1.toInt ≠ 7 := fun e9 => c_16 (Int32.toInt_inj.mp (e9.trans (by decide)))
                    have a9_8 : x1.toInt ≠ 8 := fun e9 => c_17 (Int32.toInt_inj.mp (e9.trans (by decide)))
                    rw [show Int32.toInt 0 = 0 from by decide] at a9
                    refine lv_tableOut (tgt := 134) hx hb dX6_ticketOf_14 (Or.inr (by omega)) (by decide) ?_
                    refine lv_aload_n hx hb dX6_ticketOf_134 rfl (lv_at hl 0 rfl) ?_
                    refine sy_getRX4 hx hb hts hown hE hP (200 + x0.toNatClampNeg) (sy_kdK (at_lt hG.2.2.2.1 (by have := hG.2.1; have := hG.2.2.2.2.1; omega) c_3)) 13 (by decide) (hts _ (u_in uk_3_94)) (v := .int (g (200 + x0.toNatClampNeg) 13)) rfl dX6_ticketOf_135 ?_
                    exact vx_ret (sy_ireti hx hb hr hlocks hE hP hS dX6_ticketOf_138 ⟨Nat.le_of_ble_eq_true rfl, Nat.le_of_ble_eq_true rfl⟩ (by unfold fX6_ticketOf; rw [if_pos c_3, if_pos c_6, if_neg c_7, if_neg c_8, if_neg c_9, if_neg c_10, if_neg c_12, if_neg c_13, if_neg c_14, if_neg c_16, if_neg c_17] <;> rfl))
def fX6_interestAnew (g : sG) (q : sQ) (x0 : Int32) : Int32 × Int32 × sG × sQ := (if 0 ≤ x0 ∧ x0 < (g 62 2) then (if (g (200 + x0.toNatClampNeg) 7) = 0 then (0, (fX2_interestByDays g q (g (200 + x0.toNatClampNeg) 8) (g (200 + x0.toNatClampNeg) 9) (g 60 9)), g, q) else (0, 0, g, q)) else (1, 0, g, q))
set_option maxHeartbeats 4000000 in
set_option maxRecDepth 100000 in
theorem mX6_interestAnew (l : Launch) (hfl : l.stackTraces = false) (Z : sZ) (nT nK cT cK : Nat) (ad : Nat → Nat) (g : sG) (q : sQ) (x0 : Int32) (hT : nT ≤ 100) (hG : IG nT nK cT cK g) (hQ : IQ nT nK q) : sXi l Z yX6_interestAnew (uW (.code yX6_interestAnew cX6_interestAnew 3 (some .int))) { frames := 8, cells := 1, slots := 6, locals := 123 } [.ref (ad 60), .int x0] nT nK cT cK ad g q (fun r g1 q1 => (0, r, g1, q1) = fX6_interestAnew g q x0) (fun E => exc E = (fX6_interestAnew g q x0).1) := by
  refine vx_ofW (cc := cX6_interestAnew) (maxL := 3) (ret := (some .int)) (by decide) rfl ?_
  intro p e s m args below meth c s₁ B hml hno hv
  obtain ⟨rfl, hE, hP⟩ := hv
  have hx := B.exec
  have hb := B.bytes
  have hr := B.returns
  have hts := atoms_spec (ws := uW (.code yX6_interestAnew cX6_interestAnew 3 (some .int))) B.pre
  have hown : s.vm.findClass RX6 = some m.cls := findClass_of_methodNamed B.named
  have hlocks := B.notSynchronized
  have hS : va_S (sy_A Z) s.heap s.heap [] := va_S.rf
  have hl := lv_entry ([.ref (ad 60), .int x0]) (n := 3) (Nat.le_of_ble_eq_true rfl)
  rw [lg_entry_eq]
  generalize (lg_sl ([.ref (ad 60), .int x0]) ++ List.replicate (3 - (lg_sl ([.ref (ad 60), .int x0])).length) Slot.unset).toArray = ls at hl ⊢
  have hl : lv_has ls 3 [(0, .ref (ad 60)), (1, .int x0)] := hl
  refine lv_aload_n hx hb dX6_interestAnew_0 rfl (lv_at hl 0 rfl) ?_
  refine lv_iload_n hx hb dX6_interestAnew_1 rfl (lv_at hl 1 rfl) ?_
  refine sy_xkr (sy_xV (o := 60) (As := [.int x0]) (rest := []) ⟨hx, hb, hml, hown, hts⟩ hE hP hS (mX6_ticketAt l hfl Z nT nK cT cK ad g q x0 hT hG hQ) (cwV 1 hts (gu_V uk_3_151 uk_3_153 uk_0_10 uk_1_1 uk_3_154) rfl rfl rfl (by decide +kernel) ⟨Nat.le_of_ble_eq_true rfl, Nat.le_of_ble_eq_true rfl⟩) (sy_recv (kc := 7) hE hP rfl (by decide) rfl rfl rfl) rfl hl.1 rfl (Nat.le_of_ble_eq_true rfl) dX6_interestAnew_2 ⟨Nat.le_of_ble_eq_true rfl, Nat.le_of_ble_eq_true rfl⟩) hno hlocks hE hS ⟨Nat.le_of_ble_eq_true rfl, Nat.le_of_ble_eq_true rfl⟩ (fun E9 h9 => (by rw [h9.1, exc_IO]; unfold fX6_interestAnew; rw [if_neg h9.2] <;> rfl)) (fun o_e_1 H locs e_1 hP hS => ?_)
  obtain ⟨c9, rfl⟩ := e_1
  have c_3 := c9
  refine lv_astore_n (lv' := [(2, .ref (ad (200 + x0.toNatClampNeg))), (0, .ref (ad 60)), (1, .int x0)]) hx hb dX6_interestAnew_5 rfl hl (by decide) rfl (fun ls hl => ?_)
  refine lv_aload_n hx hb dX6_interestAnew_6 rfl (lv_at hl 0 rfl) ?_
  refine sy_getRX4 hx hb hts hown hE hP (200 + x0.toNatClampNeg) (sy_kdK (at_lt hG.2.2.2.1 (by have := hG.2.1; have := hG.2.2.2.2.1; omega) c_3)) 7 (by decide) (hts _ (u_in uk_3_83)) (v := .int (g (200 + x0.toNatClampNeg) 7)) rfl dX6_interestAnew_7 ?_
  refine lv_if_ne (tgt := 35) hx hb dX6_interestAnew_10 (by decide) (fun c_4 => ?_) (fun c_4 => ?_)
  · skip
    refine lv_iconst (v := 0) hx hb dX6_interestAnew_35 (by decide) ?_
    exact vx_ret (sy_ireti hx hb hr hlocks hE hP hS dX6_interestAnew_36 ⟨Nat.le_of_ble_eq_true rfl, Nat.le_of_ble_eq_true rfl⟩ (by unfold fX6_interestAnew; rw [if_pos c_3, if_neg c_4] <;> rfl))
  · skip
    refine lv_aload_n hx hb dX6_interestAnew_13 rfl (lv_at hl 1 rfl) ?_
    refine sy_getRX6 hx hb hts hown hE hP 60 rfl 6 (by decide) (hts _ (u_in uk_1_158)) (v := .ref (ad 67)) rfl dX6_interestAnew_14 ?_
    refine lv_aload_n hx hb dX6_interestAnew_17 rfl (lv_at hl 0 rfl) ?_
    refine sy_getRX4 hx hb hts hown hE hP (200 + x0.toNatClampNeg) (sy_kdK (at_lt hG.2.2.2.1 (by have := hG.2.1; have := hG.2.2.2.2.1; omega) c_3)) 8 (by decide) (hts _ (u_in uk_3_85)) (v := .int (g (200 + x0.toNatClampNeg) 8)) rfl dX6_interestAnew_18 ?_
    refine lv_aload_n hx hb dX6_interestAnew_21 rfl (lv_at hl 0 rfl) ?_
    refine sy_getRX4 hx hb hts hown hE hP (200 + x0.toNatClampNeg) (sy_kdK (at_lt hG.2.2.2.1 (by have := hG.2.1; have := hG.2.2.2.2.1; omega) c_3)) 9 (by decide) (hts _ (u_in uk_3_87)) (v := .int (g (200 + x0.toNatClampNeg) 9)) rfl dX6_interestAnew_22 ?_
    refine lv_aload_n hx hb dX6_interestAnew_25 rfl (lv_at hl 1 rfl) ?_
    refine sy_getRX6 hx hb hts hown hE hP 60 rfl 9 (by decide) (hts _ (u_in uk_1_161)) (v := .int (g 60 9)) rfl dX6_interestAnew_26 ?_
    refine sy_ki (sy_rV (o := 67) (As := [.int (g (200 + x0.toNatClampNeg) 8), .int (g (200 + x0.toNatClampNeg) 9), .int (g 60 9)]) (rest := []) ⟨hx, hb, hml, hown, hts⟩ hE hP hS (mX2_interestByDays l hfl Z nT nK cT cK ad g q (g (200 + x0.toNatClampNeg) 8) (g (200 + x0.toNatClampNeg) 9) (g 60 9) hT hG (ig_dd hG (at_lt hG.2.2.2.1 (by have := hG.2.1; have := hG.2.2.2.2.1; omega) c_3))) (cwV 3 hts (gu_V uk_4_117 uk_4_118 uk_4_119 uk_1_7 uk_4_120) rfl rfl rfl (by decide +kernel) ⟨Nat.le_of_ble_eq_true rfl, Nat.le_of_ble_eq_true rfl⟩) (sy_recv (kc := 3) hE hP rfl (by decide) rfl rfl rfl) rfl hl.1 rfl (Nat.le_of_ble_eq_true rfl) dX6_interestAnew_29 ⟨Nat.le_of_ble_eq_true rfl, Nat.le_of_ble_eq_true rfl⟩) hS (fun r_e_5 g_e_5 q_e_5 H locs e_5 hP hS => ?_)
    cases e_5
    refine lv_goto (tgt := 36) hx hb dX6_interestAnew_32 (by decide) ?_
    exact vx_ret (sy_ireti hx hb hr hlocks hE hP hS dX6_interestAnew_36 ⟨Nat.le_of_ble_eq_true rfl, Nat.le_of_ble_eq_true rfl⟩ (by unfold fX6_interestAnew; rw [if_pos c_3, if_pos c_4] <;> rfl))
def fX6_bears (g : sG) (q : sQ) (x0 : Int32) (x1 : Int32) : Int32 × Int32 × sG × sQ := (if 0 ≤ x0 ∧ x0 < 3 then (if 0 ≤ x1 ∧ x1 < 4 then (0, (fX6_roomAtN g q ((4 * x0) + x1)), g, q) else (1, 0, g, q)) else (1, 0, g, q))
set_option maxHeartbeats 4000000 in
set_option maxRecDepth 100000 in
theorem mX6_bears (l : Launch) (hfl : l.stackTraces = false) (Z : sZ) (nT nK cT cK : Nat) (ad : Nat → Nat) (g : sG) (q : sQ) (x0 : Int32) (x1 : Int32) (hT : nT ≤ 100) (hG : IG nT nK cT cK g) (hQ : IQ nT nK q) : sXi l Z yX6_bears (uW (.code yX6_bears cX6_bears 3 (some .int))) { frames := 7, cells := 2, slots := 12, locals := 102 } [.ref (ad 60), .int x0, .int x1] nT nK cT cK ad g q (fun r g1 q1 => (0, r, g1, q1) = fX6_bears g q x0 x1) (fun E => exc E = (fX6_bears g q x0 x1).1) := by
  refine vx_ofW (cc := cX6_bears) (maxL := 3) (ret := (some .int)) (by decide) rfl ?_
  intro p e s m args below meth c s₁ B hml hno hv
  obtain ⟨rfl, hE, hP⟩ := hv
  have hx := B.exec
  have hb := B.bytes
  have hr := B.returns
  have hts := atoms_spec (ws := uW (.code yX6_bears cX6_bears 3 (some .int))) B.pre
  have hown : s.vm.findClass RX6 = some m.cls := findClass_of_methodNamed B.named
  have hlocks := B.notSynchronized
  have hS : va_S (sy_A Z) s.heap s.heap [] := va_S.rf
  have hl := lv_entry ([.ref (ad 60), .int x0, .int x1]) (n := 3) (Nat.le_of_ble_eq_true rfl)
  rw [lg_entry_eq]
  generalize (lg_sl ([.ref (ad 60), .int x0, .int x1]) ++ List.replicate (3 - (lg_sl ([.ref (ad 60), .int x0, .int x1])).length) Slot.unset).toArray = ls at hl ⊢
  have hl : lv_has ls 3 [(0, .ref (ad 60)), (1, .int x0), (2, .int x1)] := hl
  refine lv_iload_n hx hb dX6_bears_0 rfl (lv_at hl 1 rfl) ?_
  refine lv_iconst (v := 3) hx hb dX6_bears_1 (by decide) ?_
  refine sy_xkv (sy_xS (As := [.int x0, .int 3]) (rest := []) ⟨hx, hb, hml, hown, hts⟩ hE hP hS (mX6_needIndex l hfl Z nT nK cT cK ad g q x0 3) (va_cwS 2 hts (gu_S uk_1_202 uk_1_203 uk_1_1 uk_1_204) rfl rfl rfl (by decide +kernel) ⟨Nat.le_of_ble_eq_true rfl, Nat.le_of_ble_eq_true rfl⟩) rfl hl.1 rfl (Nat.le_of_ble_eq_true rfl) dX6_bears_2 ⟨Nat.le_of_ble_eq_true rfl, Nat.le_of_ble_eq_true rfl⟩) hno hlocks hE hS ⟨Nat.le_of_ble_eq_true rfl, Nat.le_of_ble_eq_true rfl⟩ (fun E9 h9 => (by rw [h9.1, exc_IO]; unfold fX6_bears; rw [if_neg h9.2] <;> rfl)) (fun g_e_1 q_e_1 H locs e_1 hP hS => ?_)
  have c_3 := e_1.1
  obtain ⟨-, h7, h8⟩ := e_1; rw [h7, h8] at hP
  refine lv_iload_n hx hb dX6_bears_5 rfl (lv_at hl 2 rfl) ?_
  refine lv_iconst (v := 4) hx hb dX6_bears_6 (by decide) ?_
  refine sy_xkv (sy_xS (As := [.int x1, .int 4]) (rest := []) ⟨hx, hb, hml, hown, hts⟩ hE hP hS (mX6_needIndex l hfl Z nT nK cT cK ad g q x1 4) (va_cwS 2 hts (gu_S uk_1_202 uk_1_203 uk_1_1 uk_1_204) rfl rfl rfl (by decide +kernel) ⟨Nat.le_of_ble_eq_true rfl, Nat.le_of_ble_eq_true rfl⟩) rfl hl.1 rfl (Nat.le_of_ble_eq_true rfl) dX6_bears_7 ⟨Nat.le_of_ble_eq_true rfl, Nat.le_of_ble_eq_true rfl⟩) hno hlocks hE hS ⟨Nat.le_of_ble_eq_true rfl, Nat.le_of_ble_eq_true rfl⟩ (fun E9 h9 => (by rw [h9.1, exc_IO]; unfold fX6_bears; rw [if_pos c_3, if_neg h9.2] <;> rfl)) (fun g_e_4 q_e_4 H locs e_4 hP hS => ?_)
  have c_6 := e_4.1
  obtain ⟨-, h7, h8⟩ := e_4; rw [h7, h8] at hP
  refine lv_aload_n hx hb dX6_bears_10 rfl (lv_at hl 0 rfl) ?_
  refine lv_iload_n hx hb dX6_bears_11 rfl (lv_at hl 1 rfl) ?_
  refine lv_iload_n hx hb dX6_bears_12 rfl (lv_at hl 2 rfl) ?_
  refine sy_ki (sy_rS (As := [.int x0, .int x1]) (rest := [.ref (ad 60)]) ⟨hx, hb, hml, hown, hts⟩ hE hP hS (mX6_placeOf l hfl Z nT nK cT cK ad g q x0 x1 hT) (va_cwS 2 hts (gu_S uk_3_55 uk_3_56 uk_1_1 uk_3_57) rfl rfl rfl (by decide +kernel) ⟨Nat.le_of_ble_eq_true rfl, Nat.le_of_ble_eq_true rfl⟩) rfl hl.1 rfl (Nat.le_of_ble_eq_true rfl) dX6_bears_13 ⟨Nat.le_of_ble_eq_true rfl, Nat.le_of_ble_eq_true rfl⟩) hS (fun r_e_7 g_e_7 q_e_7 H locs e_7 hP hS => ?_)
  cases e_7
  refine sy_top (y := ((4 * x0) + x1)) (by rfl) ?_
  refine lv_null hx hb dX6_bears_16 ?_
  refine sy_ki (sy_rV (o := 60) (As := [.int ((4 * x0) + x1), .null]) (rest := []) ⟨hx, hb, hml, hown, hts⟩ hE hP hS (mX6_roomAtN l hfl Z nT nK cT cK ad g q ((4 * x0) + x1) hT hG hQ) (cwV 2 hts (gu_V uk_3_58 uk_3_60 uk_0_9 uk_1_1 uk_3_61) rfl rfl rfl (by decide +kernel) ⟨Nat.le_of_ble_eq_true rfl, Nat.le_of_ble_eq_true rfl⟩) (sy_recv (kc := 7) hE hP rfl (by decide) rfl rfl rfl) rfl hl.1 rfl (Nat.le_of_ble_eq_true rfl) dX6_bears_17 ⟨Nat.le_of_ble_eq_true rfl, Nat.le_of_ble_eq_true rfl⟩) hS (fun r_e_8 g_e_8 q_e_8 H locs e_8 hP hS => ?_)
  cases e_8
  exact vx_ret (sy_ireti hx hb hr hlocks hE hP hS dX6_bears_20 ⟨Nat.le_of_ble_eq_true rfl, Nat.le_of_ble_eq_true rfl⟩ (by unfold fX6_bears; rw [if_pos c_3, if_pos c_6] <;> rfl))
def fX6_money (g : sG) (q : sQ) (x0 : Int32) : Int32 × Int32 × sG × sQ := (if 0 ≤ x0 ∧ x0 ≤ 3 then (if x0 = 0 then (0, (g 68 0), g, q) else (if x0 = 1 then (0, (g 68 1), g, q) else (if x0 = 2 then (0, (fX5_free g q), g, q) else (0, (g 68 2), g, q)))) else (2, 0, g, q))
set_option maxHeartbeats 4000000 in
set_option maxRecDepth 100000 in
theorem mX6_money (l : Launch) (hfl : l.stackTraces = false) (Z : sZ) (nT nK cT cK : Nat) (ad : Nat → Nat) (g : sG) (q : sQ) (x0 : Int32) (hT : nT ≤ 100) (hG : IG nT nK cT cK g) (hQ : IQ nT nK q) : sXi l Z yX6_money (uW (.code yX6_money cX6_money 2 (some .int))) { frames := 7, cells := 1, slots := 6, locals := 103 } [.ref (ad 60), .int x0] nT nK cT cK ad g q (fun r g1 q1 => (0, r, g1, q1) = fX6_money g q x0) (fun E => exc E = (fX6_money g q x0).1) := by
  refine vx_ofW (cc := cX6_money) (maxL := 2) (ret := (some .int)) (by decide) rfl ?_
  intro p e s m args below meth c s₁ B hml hno hv
  obtain ⟨rfl, hE, hP⟩ := hv
  have hx := B.exec
  have hb := B.bytes
  have hr := B.returns
  have hts := atoms_spec (ws := uW (.code yX6_money cX6_money 2 (some .int))) B.pre
  have hown : s.vm.findClass RX6 = some m.cls := findClass_of_methodNamed B.named
  have hlocks := B.notSynchronized
  have hS : va_S (sy_A Z) s.heap s.heap [] := va_S.rf
  have hl := lv_entry ([.ref (ad 60), .int x0]) (n := 2) (Nat.le_of_ble_eq_true rfl)
  rw [lg_entry_eq]
  generalize (lg_sl ([.ref (ad 60), .int x0]) ++ List.replicate (2 - (lg_sl ([.ref (ad 60), .int x0])).length) Slot.unset).toArray = ls at hl ⊢
  have hl : lv_has ls 2 [(0, .ref (ad 60)), (1, .int x0)] := hl
  refine lv_iload_n hx hb dX6_money_0 rfl (lv_at hl 1 rfl) ?_
  refine lv_iconst (v := 0) hx hb dX6_money_1 (by decide) ?_
  refine lv_iconst (v := 3) hx hb dX6_money_2 (by decide) ?_
  refine sy_xkv (sy_xS (As := [.int x0, .int 0, .int 3]) (rest := []) ⟨hx, hb, hml, hown, hts⟩ hE hP hS (mX6_needRange l hfl Z nT nK cT cK ad g q x0 0 3) (va_cwS 3 hts (gu_S uk_2_28 uk_2_29 uk_1_1 uk_2_30) rfl rfl rfl (by decide +kernel) ⟨Nat.le_of_ble_eq_true rfl, Nat.le_of_ble_eq_true rfl⟩) rfl hl.1 rfl (Nat.le_of_ble_eq_true rfl) dX6_money_3 ⟨Nat.le_of_ble_eq_true rfl, Nat.le_of_ble_eq_true rfl⟩) hno hlocks hE hS ⟨Nat.le_of_ble_eq_true rfl, Nat.le_of_ble_eq_true rfl⟩ (fun E9 h9 => (by rw [h9.1, exc_IA]; unfold fX6_money; rw [if_neg h9.2] <;> rfl)) (fun g_e_1 q_e_1 H locs e_1 hP hS => ?_)
  have c_3 := e_1.1
  obtain ⟨-, h7, h8⟩ := e_1; rw [h7, h8] at hP
  refine lv_iload_n hx hb dX6_money_6 rfl (lv_at hl 1 rfl) ?_
  by_cases c_4 : x0 = 0
  · refine lv_tableIn (off := 25) (tgt := 32) hx hb dX6_money_7 (by rw [c_4]; decide) (by rw [c_4]; decide) (by rw [c_4]; rfl) (by decide) ?_
    refine lv_aload_n hx hb dX6_money_32 rfl (lv_at hl 0 rfl) ?_
    refine sy_getRX6 hx hb hts hown hE hP 60 rfl 7 (by decide) (hts _ (u_in uk_1_159)) (v := .ref (ad 68)) rfl dX6_money_33 ?_
    refine sy_getRX5 hx hb hts hown hE hP 68 rfl 0 (by decide) (hts _ (u_in uk_1_134)) (v := .int (g 68 0)) rfl dX6_money_36 ?_
    exact vx_ret (sy_ireti hx hb hr hlocks hE hP hS dX6_money_39 ⟨Nat.le_of_ble_eq_true rfl, Nat.le_of_ble_eq_true rfl⟩ (by unfold fX6_money; rw [if_pos c_3, if_pos c_4] <;> rfl))
  · skip
    by_cases c_5 : x0 = 1
    · refine lv_tableIn (off := 33) (tgt := 40) hx hb dX6_money_7 (by rw [c_5]; decide) (by rw [c_5]; decide) (by rw [c_5]; rfl) (by decide) ?_
      refine lv_aload_n hx hb dX6_money_40 rfl (lv_at hl 0 rfl) ?_
      refine sy_getRX6 hx hb hts hown hE hP 60 rfl 7 (by decide) (hts _ (u_in uk_1_159)) (v := .ref (ad 68)) rfl dX6_money_41 ?_
      refine sy_getRX5 hx hb hts hown hE hP 68 rfl 1 (by decide) (hts _ (u_in uk_1_136)) (v := .int (g 68 1)) rfl dX6_money_44 ?_
      exact vx_ret (sy_ireti hx hb hr hlocks hE hP hS dX6_money_47 ⟨Nat.le_of_ble_eq_true rfl, Nat.le_of_ble_eq_true rfl⟩ (by unfold fX6_money; rw [if_pos c_3, if_neg c_4, if_pos c_5] <;> rfl))
    · skip
      by_cases c_6 : x0 = 2
      · refine lv_tableIn (off := 41) (tgt := 48) hx hb dX6_money_7 (by rw [c_6]; decide) (by rw [c_6]; decide) (by rw [c_6]; rfl) (by decide) ?_
        refine lv_aload_n hx hb dX6_money_48 rfl (lv_at hl 0 rfl) ?_
        refine sy_getRX6 hx hb hts hown hE hP 60 rfl 7 (by decide) (hts _ (u_in uk_1_159)) (v := .ref (ad 68)) rfl dX6_money_49 ?_
        refine sy_ki (sy_rV (o := 68) (As := []) (rest := []) ⟨hx, hb, hml, hown, hts⟩ hE hP hS (mX5_free l hfl Z nT nK cT cK ad g q hT) (cwV 0 hts (gu_V uk_3_42 uk_3_43 uk_3_44 uk_1_8 uk_3_45) rfl rfl rfl (by decide +kernel) ⟨Nat.le_of_ble_eq_true rfl, Nat.le_of_ble_eq_true rfl⟩) (sy_recv (kc := 6) hE hP rfl (by decide) rfl rfl rfl) rfl hl.1 rfl (Nat.le_of_ble_eq_true rfl) dX6_money_52 ⟨Nat.le_of_ble_eq_true rfl, Nat.le_of_ble_eq_true rfl⟩) hS (fun r_e_7 g_e_7 q_e_7 H locs e_7 hP hS => ?_)
        cases e_7
        exact vx_ret (sy_ireti hx hb hr hlocks hE hP hS dX6_money_55 ⟨Nat.le_of_ble_eq_true rfl, Nat.le_of_ble_eq_true rfl⟩ (by unfold fX6_money; rw [if_pos c_3, if_neg c_4, if_neg c_5, if_pos c_6] <;> rfl))
      · skip
        have a9 := Int32.le_iff_toInt_le.mp c_3.1
        have a9_0 : x0.toInt ≠ 0 := fun e9 => c_4 (Int32.toInt_inj.mp (e9.trans (by decide)))
        have a9_1 : x0.toInt ≠ 1 := fun e9 => c_5 (Int32.toInt_inj.mp (e9.trans (by decide)))
        have a9_2 : x0.toInt ≠ 2 := fun e9 => c_6 (Int32.toInt_inj.mp (e9.trans (by decide)))
        rw [show Int32.toInt 0 = 0 from by decide] at a9
        refine lv_tableOut (tgt := 56) hx hb dX6_money_7 (Or.inr (by omega)) (by decide) ?_
        refine lv_aload_n hx hb dX6_money_56 rfl (lv_at hl 0 rfl) ?_
        refine sy_getRX6 hx hb hts hown hE hP 60 rfl 7 (by decide) (hts _ (u_in uk_1_159)) (v := .ref (ad 68)) rfl dX6_money_57 ?_
        refine sy_getRX5 hx hb hts hown hE hP 68 rfl 2 (by decide) (hts _ (u_in uk_1_138)) (v := .int (g 68 2)) rfl dX6_money_60 ?_
        exact vx_ret (sy_ireti hx hb hr hlocks hE hP hS dX6_money_63 ⟨Nat.le_of_ble_eq_true rfl, Nat.le_of_ble_eq_true rfl⟩ (by unfold fX6_money; rw [if_pos c_3, if_neg c_4, if_neg c_5, if_neg c_6] <;> rfl))
def fX6_expertOf (g : sG) (q : sQ) (x0 : Int32) (x1 : Int32) : Int32 × Int32 × sG × sQ := (if 0 ≤ x0 ∧ x0 < 4 then (if 0 ≤ x1 ∧ x1 ≤ 2 then (if x1 = 0 then (0, (g (80 + x0.toNatClampNeg) 0), g, q) else (if x1 = 1 then (0, (g (80 + x0.toNatClampNeg) 1), g, q) else (0, (g (80 + x0.toNatClampNeg) 2), g, q))) else (2, 0, g, q)) else (1, 0, g, q))
set_option maxHeartbeats 4000000 in
set_option maxRecDepth 100000 in
theorem mX6_expertOf (l : Launch) (hfl : l.stackTraces = false) (Z : sZ) (nT nK cT cK : Nat) (ad : Nat → Nat) (g : sG) (q : sQ) (x0 : Int32) (x1 : Int32) (hT : nT ≤ 100) (hG : IG nT nK cT cK g) (hQ : IQ nT nK q) : sXi l Z yX6_expertOf (uW (.code yX6_expertOf cX6_expertOf 3 (some .int))) { frames := 7, cells := 2, slots := 12, locals := 103 } [.ref (ad 60), .int x0, .int x1] nT nK cT cK ad g q (fun r g1 q1 => (0, r, g1, q1) = fX6_expertOf g q x0 x1) (fun E => exc E = (fX6_expertOf g q x0 x1).1) := by
  refine vx_ofW (cc := cX6_expertOf) (maxL := 3) (ret := (some .int)) (by decide) rfl ?_
  intro p e s m args below meth c s₁ B hml hno hv
  obtain ⟨rfl, hE, hP⟩ := hv
  have hx := B.exec
  have hb := B.bytes
  have hr := B.returns
  have hts := atoms_spec (ws := uW (.code yX6_expertOf cX6_expertOf 3 (some .int))) B.pre
  have hown : s.vm.findClass RX6 = some m.cls := findClass_of_methodNamed B.named
  have hlocks := B.notSynchronized
  have hS : va_S (sy_A Z) s.heap s.heap [] := va_S.rf
  have hl := lv_entry ([.ref (ad 60), .int x0, .int x1]) (n := 3) (Nat.le_of_ble_eq_true rfl)
  rw [lg_entry_eq]
  generalize (lg_sl ([.ref (ad 60), .int x0, .int x1]) ++ List.replicate (3 - (lg_sl ([.ref (ad 60), .int x0, .int x1])).length) Slot.unset).toArray = ls at hl ⊢
  have hl : lv_has ls 3 [(0, .ref (ad 60)), (1, .int x0), (2, .int x1)] := hl
  refine lv_iload_n hx hb dX6_expertOf_0 rfl (lv_at hl 1 rfl) ?_
  refine lv_aload_n hx hb dX6_expertOf_1 rfl (lv_at hl 0 rfl) ?_
  refine sy_getRX6 hx hb hts hown hE hP 60 rfl 3 (by decide) (hts _ (u_in uk_1_155)) (v := .ref (ad 64)) rfl dX6_expertOf_2 ?_
  refine sy_alen (kc := 14) (t0 := 3) hx hb hE hP 64 rfl (by decide) rfl rfl (v := 4) rfl dX6_expertOf_5 ?_
  refine sy_xkv (sy_xS (As := [.int x0, .int 4]) (rest := []) ⟨hx, hb, hml, hown, hts⟩ hE hP hS (mX6_needIndex l hfl Z nT nK cT cK ad g q x0 4) (va_cwS 2 hts (gu_S uk_1_202 uk_1_203 uk_1_1 uk_1_204) rfl rfl rfl (by decide +kernel) ⟨Nat.le_of_ble_eq_true rfl, Nat.le_of_ble_eq_true rfl⟩) rfl hl.1 rfl (Nat.le_of_ble_eq_true rfl) dX6_expertOf_6 ⟨Nat.le_of_ble_eq_true rfl, Nat.le_of_ble_eq_true rfl⟩) hno hlocks hE hS ⟨Nat.le_of_ble_eq_true rfl, Nat.le_of_ble_eq_true rfl⟩ (fun E9 h9 => (by rw [h9.1, exc_IO]; unfold fX6_expertOf; rw [if_neg h9.2] <;> rfl)) (fun g_e_1 q_e_1 H locs e_1 hP hS => ?_)
  have c_3 := e_1.1
  obtain ⟨-, h7, h8⟩ := e_1; rw [h7, h8] at hP
  refine lv_iload_n hx hb dX6_expertOf_9 rfl (lv_at hl 2 rfl) ?_
  refine lv_iconst (v := 0) hx hb dX6_expertOf_10 (by decide) ?_
  refine lv_iconst (v := 2) hx hb dX6_expertOf_11 (by decide) ?_
  refine sy_xkv (sy_xS (As := [.int x1, .int 0, .int 2]) (rest := []) ⟨hx, hb, hml, hown, hts⟩ hE hP hS (mX6_needRange l hfl Z nT nK cT cK ad g q x1 0 2) (va_cwS 3 hts (gu_S uk_2_28 uk_2_29 uk_1_1 uk_2_30) rfl rfl rfl (by decide +kernel) ⟨Nat.le_of_ble_eq_true rfl, Nat.le_of_ble_eq_true rfl⟩) rfl hl.1 rfl (Nat.le_of_ble_eq_true rfl) dX6_expertOf_12 ⟨Nat.le_of_ble_eq_true rfl, Nat.le_of_ble_eq_true rfl⟩) hno hlocks hE hS ⟨Nat.le_of_ble_eq_true rfl, Nat.le_of_ble_eq_true rfl⟩ (fun E9 h9 => (by rw [h9.1, exc_IA]; unfold fX6_expertOf; rw [if_pos c_3, if_neg h9.2] <;> rfl)) (fun g_e_4 q_e_4 H locs e_4 hP hS => ?_)
  have c_6 := e_4.1
  obtain ⟨-, h7, h8⟩ := e_4; rw [h7, h8] at hP
  refine lv_iload_n hx hb dX6_expertOf_15 rfl (lv_at hl 2 rfl) ?_
  by_cases c_7 : x1 = 0
  · refine lv_lookup (off := 28) (tgt := 44) hx hb dX6_expertOf_16 (by decide) (by rw [c_7]; rfl) (by decide) ?_
    refine lv_aload_n hx hb dX6_expertOf_44 rfl (lv_at hl 0 rfl) ?_
    refine sy_getRX6 hx hb hts hown hE hP 60 rfl 3 (by decide) (hts _ (u_in uk_1_155)) (v := .ref (ad 64)) rfl dX6_expertOf_45 ?_
    refine lv_iload_n hx hb dX6_expertOf_48 rfl (lv_at hl 1 rfl) ?_
    refine sy_aald hx hb hE hP 64 14 3 rfl (by decide) rfl rfl (show vp_in x0 4 from (vp_in_of2 (n := 4) rfl (Nat.le_refl _) (by decide) c_3)) (80 + x0.toNatClampNeg) (hQ.2.2.1 _ (vp_in_lt (show vp_in x0 4 from (vp_in_of2 (n := 4) rfl (Nat.le_refl _) (by decide) c_3)))) dX6_expertOf_49 ?_
    refine sy_getRX1 hx hb hts hown hE hP (80 + x0.toNatClampNeg) (sy_kdX (vp_in_lt (show vp_in x0 4 from (vp_in_of2 (n := 4) rfl (Nat.le_refl _) (by decide) c_3)))) 0 (by decide) (hts _ (u_in uk_1_65)) (v := .int (g (80 + x0.toNatClampNeg) 0)) rfl dX6_expertOf_50 ?_
    exact vx_ret (sy_ireti hx hb hr hlocks hE hP hS dX6_expertOf_53 ⟨Nat.le_of_ble_eq_true rfl, Nat.le_of_ble_eq_true rfl⟩ (by unfold fX6_expertOf; rw [if_pos c_3, if_pos c_6, if_pos c_7] <;> rfl))
  · skip
    by_cases c_8 : x1 = 1
    · refine lv_lookup (off := 38) (tgt := 54) hx hb dX6_expertOf_16 (by decide) (by rw [c_8]; rfl) (by decide) ?_
      refine lv_aload_n hx hb dX6_expertOf_54 rfl (lv_at hl 0 rfl) ?_
      refine sy_getRX6 hx hb hts hown hE hP 60 rfl 3 (by decide) (hts _ (u_in uk_1_155)) (v := .ref (ad 64)) rfl dX6_expertOf_55 ?_
      refine lv_iload_n hx hb dX6_expertOf_58 rfl (lv_at hl 1 rfl) ?_
      refine sy_aald hx hb hE hP 64 14 3 rfl (by decide) rfl rfl (show vp_in x0 4 from (vp_in_of2 (n := 4) rfl (Nat.le_refl _) (by decide) c_3)) (80 + x0.toNatClampNeg) (hQ.2.2.1 _ (vp_in_lt (show vp_in x0 4 from (vp_in_of2 (n := 4) rfl (Nat.le_refl _) (by decide) c_3)))) dX6_expertOf_59 ?_
      refine sy_getRX1 hx hb hts hown hE hP (80 + x0.toNatClampNeg) (sy_kdX (vp_in_lt (show vp_in x0 4 from (vp_in_of2 (n := 4) rfl (Nat.le_refl _) (by decide) c_3)))) 1 (by decide) (hts _ (u_in uk_1_67)) (v := .int (g (80 + x0.toNatClampNeg) 1)) rfl dX6_expertOf_60 ?_
      exact vx_ret (sy_ireti hx hb hr hlocks hE hP hS dX6_expertOf_63 ⟨Nat.le_of_ble_eq_true rfl, Nat.le_of_ble_eq_true rfl⟩ (by unfold fX6_expertOf; rw [if_pos c_3, if_pos c_6, if_neg c_7, if_pos c_8] <;> rfl))
    · skip
      refine lv_lookup (off := 48) (tgt := 64) hx hb dX6_expertOf_16 (by decide) (by show Op.lookupswitch.offset [(0, 28), (1, 38)] 48 x1.toInt = 48; rw [lv_osw c_7 (by decide), lv_osw c_8 (by decide)]; rfl) (by decide) ?_
      refine lv_aload_n hx hb dX6_expertOf_64 rfl (lv_at hl 0 rfl) ?_
      refine sy_getRX6 hx hb hts hown hE hP 60 rfl 3 (by decide) (hts _ (u_in uk_1_155)) (v := .ref (ad 64)) rfl dX6_expertOf_65 ?_
      refine lv_iload_n hx hb dX6_expertOf_68 rfl (lv_at hl 1 rfl) ?_
      refine sy_aald hx hb hE hP 64 14 3 rfl (by decide) rfl rfl (show vp_in x0 4 from (vp_in_of2 (n := 4) rfl (Nat.le_refl _) (by decide) c_3)) (80 + x0.toNatClampNeg) (hQ.2.2.1 _ (vp_in_lt (show vp_in x0 4 from (vp_in_of2 (n := 4) rfl (Nat.le_refl _) (by decide) c_3)))) dX6_expertOf_69 ?_
      refine sy_getRX1 hx hb hts hown hE hP (80 + x0.toNatClampNeg) (sy_kdX (vp_in_lt (show vp_in x0 4 from (vp_in_of2 (n := 4) rfl (Nat.le_refl _) (by decide) c_3)))) 2 (by decide) (hts _ (u_in uk_1_69)) (v := .int (g (80 + x0.toNatClampNeg) 2)) rfl dX6_expertOf_70 ?_
      exact vx_ret (sy_ireti hx hb hr hlocks hE hP hS dX6_expertOf_73 ⟨Nat.le_of_ble_eq_true rfl, Nat.le_of_ble_eq_true rfl⟩ (by unfold fX6_expertOf; rw [if_pos c_3, if_pos c_6, if_neg c_7, if_neg c_8] <;> rfl))
