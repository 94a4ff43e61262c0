def sCap (k n : Nat) : Nat := if k = n then sGr n else n
abbrev sQa (Z : sZ) (nT nK cT cK : Nat) (ad : Nat → Nat) (g : sG) (q : sQ) (b : Nat) : Array Value → State → Outcome → State → Prop := va_Qv (fun ad' : Nat → Nat => ∀ x, x ≠ b → ad' x = ad x) (fun ad' t => sEnv Z t ∧ Sy Z nT nK cT cK ad' g q t.heap) (sy_A Z)
abbrev sQb (Z : sZ) (nT nK cT cK : Nat) (ad : Nat → Nat) (g : sG) (q : sQ) (b : Nat) : Array Value → State → Outcome → State → Prop := va_Qi (fun (_ : Int32) (ad' : Nat → Nat) => ∀ x, x ≠ b → ad' x = ad x) (fun ad' t => sEnv Z t ∧ Sy Z nT nK cT cK ad' g q t.heap) (sy_A Z)
section SADD
variable {p : Program} {l : Launch} {e : Env} {R : Room} {s : State} {m : MethodId} {args : Array Value} {below : List Frame} {meth : Method} {c : Code} {H : Heap} {locs : List Loc} {cells slots : Nat} {Q : State → Prop}
variable {cc : ByteArray} {pc : Nat} {ls : Array Slot} {rest : List Value} {Z : sZ} {nT nK cT cK : Nat} {ad : Nat → Nat} {g : sG} {q : sQ} {c0 : Cond}
theorem sy_aastO (hexec : p.tables.exec = Jvm.exec) (hb : c.code = cc) (hE : sEnv Z s) (hP : Sy Z nT nK cT cK ad g q H) (hS : va_S (sy_A Z) s.heap H locs) (o : Nat) (hkd : sy_kd nT nK cT cK o = 13) {C : String} (hca : Cond.castable C "java/lang/Object" ∈ wsN) {o1 : Nat} (hr : ∃ cellV : Cell, H[ad o1]? = some cellV ∧ cellV.vm.isStatics = false ∧ s.vm.findClass C = some cellV.cls) {k : Nat} (hk : k < sy_ln cT cK o) (hk31 : k < 2 ^ 31) (hdg : decode cc pc = .ok (.aastore, 1))
    (kk : ∀ (H1 : Heap) (locs1 : List Loc), Sy Z nT nK cT cK ad g (sy_up q o k (some o1)) H1 → va_S (sy_A Z) s.heap H1 locs1 → W p l e R s m args below meth c H1 locs1 cells slots Q (F0 m (pc + 1) ls rest)) : W p l e R s m args below meth c H locs cells slots Q (F0 m pc ls (.ref (ad o1) :: .int (nI k) :: .ref (ad o) :: rest)) := by
  have hA : sy_A Z (ad o) := hP.2.1 o (by rw [hkd]; decide)
  have h1 : H[ad o]? = some (vp_cell (Z.2.1 2) (sy_ln cT cK o, .inr (.inr (.inr (.inr (fun j => (q o j).map ad)))))) := by
    have h := hP.1 o (by rw [hkd]; decide)
    rw [hkd] at h
    exact h
  have hlt : (nI k).toNatClampNeg < sy_ln cT cK o := by rw [nI_clamp hk31]; exact hk
  obtain ⟨cellV, g1, g3, g2⟩ := hr
  obtain ⟨kA, comp, k1, k2, k3, -⟩ := (hE.1.2 2 _ rfl).2
  obtain ⟨kE, hkE, -⟩ := Vm.findClass_spec k3
  obtain ⟨kC, hkC, -⟩ := Vm.findClass_spec g2
  refine W.aast hexec hb h1 (fun q h => by cases h) (fun h => by cases h) k1 k2 rfl hkE ⟨nI_pos hk31, by show _ < (arrV _ _ _).slots.size; rw [arrV_size]; exact hlt⟩ g1 (fun q h => by rw [h] at g3; cases g3) hkC (vb_asgC (hE.2.2.2.2.2 _ hca) _ _ k3 g2) rfl rfl hdg fun H1 e2 z oq => ?_
  refine kk H1 _ (sy_set hP hkd (by decide) (e1 := .inl (Z.2.1 2, sy_ln cT cK o, .inr (.inr (.inr (.inr (fun j => (va_up (q o) k (some o1) j).map ad)))))) ?_ oq (by rw [sy_up_s]; rfl) (fun _ _ => rfl) (fun o' h => sy_up_o q _ _ h)) (hS.put z oq hA)
  show H1[ad o]? = some (vp_cell _ _)
  rw [e2, vp_cell_q, vp_cell_q, arrV_store, nI_clamp hk31]
  congr 2
  funext j
  by_cases hj : j = k <;> simp [updV, va_up, va_rf, hj]
theorem sy_alenT (hexec : p.tables.exec = Jvm.exec) (hb : c.code = cc) (hE : sEnv Z s) (hS : va_S (sy_A Z) s.heap H locs) (h0 : cT = 0 → ad 70 = Z.2.2.2) (hP : Sy Z nT nK cT cK ad g q H) (hdg : decode cc pc = .ok (.arraylength, 1))
    (kk : W p l e R s m args below meth c H locs cells slots Q (F0 m (pc + 1) ls (.int (nI cT) :: rest))) : W p l e R s m args below meth c H locs cells slots Q (F0 m pc ls (.ref (ad 70) :: rest)) := by
  by_cases hz : cT = 0
  · subst hz
    rw [h0 rfl]
    exact sy_alen0 hexec hb hE hS hdg kk
  · exact sy_alen (kc := 13) (t0 := 2) hexec hb hE hP 70 (sy_kd70 hz) (by decide) rfl rfl (v := nI cT) rfl hdg kk
theorem sy_alenK (hexec : p.tables.exec = Jvm.exec) (hb : c.code = cc) (hE : sEnv Z s) (hS : va_S (sy_A Z) s.heap H locs) (h0 : cK = 0 → ad 71 = Z.2.2.2) (hP : Sy Z nT nK cT cK ad g q H) (hdg : decode cc pc = .ok (.arraylength, 1))
    (kk : W p l e R s m args below meth c H locs cells slots Q (F0 m (pc + 1) ls (.int (nI cK) :: rest))) : W p l e R s m args below meth c H locs cells slots Q (F0 m pc ls (.ref (ad 71) :: rest)) := by
  by_cases hz : cK = 0
  · subst hz
    rw [h0 rfl]
    exact sy_alen0 hexec hb hE hS hdg kk
  · exact sy_alen (kc := 13) (t0 := 2) hexec hb hE hP 71 (sy_kd71 hz) (by decide) rfl rfl (v := nI cK) rfl hdg kk
end SADD
set_option maxHeartbeats 4000000 in
set_option maxRecDepth 100000 in
theorem mJx4a65c_addAT (l : Launch) (hfl : l.stackTraces = false) (Z : sZ) (nT nK cT cK : Nat) (ad : Nat → Nat) (g : sG) (q : sQ) (k x : Nat) (hsz : g 61 2 = nI k) (hkc : k ≤ cT) (hk : k ≤ 40) (hc : cT ≤ 60) (h0 : cT = 0 → ad 70 = Z.2.2.2) (hx : ∀ o k, q o k ≠ some 70) (hrest : ∀ j, k ≤ j → q 70 j = none) (helem : ∀ i y, i < k → q 70 i = some y → ∀ cT cK, sy_kd nT nK cT cK y = 4) (hkx : ∀ cT cK, sy_kd nT nK cT cK x = 4) : Met l yJx4a65c_add_72be8 (uW (.code yJx4a65c_add_72be8 cJx4a65c_add_72be8 4 none)) { frames := 5, cells := 1, slots := 60, locals := 127 } (va_Pc [.ref (ad 61), .ref (ad x), .ref (ad 70), .int (nI k)] (sPre Z nT nK cT cK ad g q)) (sQa Z nT nK (sCap k cT) cK ad (sy_up g 61 2 (nI (k + 1))) (sy_up q 70 k (some x)) 70) 1 60 (sy_A Z) := by
  have hgx := hx
  have hx70 : x ≠ 70 := fun e => by
    have h9 := hkx 0 0
    rw [e] at h9
    exact absurd (show (99 : Nat) = 4 from h9) (by decide)
  refine Met.ofW (cc := cJx4a65c_add_72be8) (maxL := 4) (ret := none) (by decide) rfl ?_
  intro p e s m args below meth c s₁ B hml hv
  obtain ⟨rfl, hE, hP⟩ := hv
  have hx := B.exec
  have hb := B.bytes
  have hr := B.returns
  have hts := atoms_spec (ws := uW (.code yJx4a65c_add_72be8 cJx4a65c_add_72be8 4 none)) B.pre
  have hown : s.vm.findClass RJx4a65c = some m.cls := findClass_of_methodNamed B.named
  have hlocks := B.notSynchronized
  have hS : va_S (sy_A Z) s.heap s.heap [] := va_S.rf
  have hl := lv_entry ([.ref (ad 61), .ref (ad x), .ref (ad 70), .int (nI k)]) (n := 4) (Nat.le_of_ble_eq_true rfl)
  rw [lg_entry_eq]
  generalize (lg_sl ([.ref (ad 61), .ref (ad x), .ref (ad 70), .int (nI k)]) ++ List.replicate (4 - (lg_sl ([.ref (ad 61), .ref (ad x), .ref (ad 70), .int (nI k)])).length) Slot.unset).toArray = ls at hl ⊢
  have hl : lv_has ls 4 [(0, .ref (ad 61)), (1, .ref (ad x)), (2, .ref (ad 70)), (3, .int (nI k))] := hl
  have K : ∀ (n1 : Nat) (ad' : Nat → Nat) (H : Heap) (locs : List Loc) (ls : Array Slot) (cells slots : Nat), (∀ x, x ≠ 70 → ad' x = ad x) → k < n1 → sCap k cT = n1 → cells ≤ 1 → slots ≤ 60 → Sy Z nT nK n1 cK ad' g q H → va_S (sy_A Z) s.heap H locs → lv_has ls 4 [(2, .ref (ad' 70)), (0, .ref (ad' 61)), (1, .ref (ad' x)), (3, .int (nI k))] → W p l e ({ frames := 5, cells := 1, slots := 60, locals := 127 } : Room) s m ([.ref (ad 61), .ref (ad x), .ref (ad 70), .int (nI k)] : List Value).toArray below meth c H locs cells slots (MQ below (sQa Z nT nK (sCap k cT) cK ad (sy_up g 61 2 (nI (k + 1))) (sy_up q 70 k (some x)) 70) ([.ref (ad 61), .ref (ad x), .ref (ad 70), .int (nI k)] : List Value).toArray s 1 60 (sy_A Z)) (F0 m 11 ls []) := by
    intro n1 ad' H locs ls cells slots had hkn he hcl hsl hP hS hl
    refine lv_aload_n hx hb dJx4a65c_add_72be8_11 rfl (lv_at hl 0 rfl) ?_
    refine lv_iload_n hx hb dJx4a65c_add_72be8_12 rfl (lv_at hl 3 rfl) ?_
    refine lv_aload_n hx hb dJx4a65c_add_72be8_13 rfl (lv_at hl 2 rfl) ?_
    refine sy_aastO hx hb hE hP hS 70 (sy_kd70 (by omega)) (C := RX3) un_4_224 (sy_recv (kc := 4) hE hP (hkx _ _) (by decide) rfl rfl rfl) (k := k) hkn (by omega) dJx4a65c_add_72be8_14 (fun H locs hP hS => ?_)
    refine lv_aload_n hx hb dJx4a65c_add_72be8_15 rfl (lv_at hl 1 rfl) ?_
    refine lv_iload_n hx hb dJx4a65c_add_72be8_16 rfl (lv_at hl 3 rfl) ?_
    refine lv_iconst (v := 1) hx hb dJx4a65c_add_72be8_17 (by decide) ?_
    refine lv_iadd hx hb dJx4a65c_add_72be8_18 ?_
    refine sy_top (y := nI (k + 1)) (nI_succ k).symm ?_
    refine sy_putRJx4a65c hx hb hts hown hE hP hS 61 rfl 2 (by decide) (hts _ (u_in uk_1_46)) rfl (ty := .int) (by decide +kernel) rfl rfl (sy_up g 61 2 (nI (k + 1))) (sy_up q 70 k (some x)) (by rw [sy_up_s g 61 2 (nI (k + 1))]; exact se_RJx4a65c_2 _ _ _ _ _ _ _) (fun _ h9 => sy_up_o _ _ _ h9) (fun _ _ => rfl) dJx4a65c_add_72be8_19 (fun H locs hP hS => ?_)
    exact W.widen hcl hsl (W.vret hx hb hr (fun t ht hW => ⟨⟨ad', rfl, had, hE.next hS ht hW.alike, by rw [ht, he]; exact hP⟩, hS.F ht⟩) hS.2.2 dJx4a65c_add_72be8_22 hlocks)
  refine lv_iload_n hx hb dJx4a65c_add_72be8_0 rfl (lv_at hl 3 rfl) ?_
  refine lv_aload_n hx hb dJx4a65c_add_72be8_1 rfl (lv_at hl 2 rfl) ?_
  refine sy_alenT hx hb hE hS h0 hP dJx4a65c_add_72be8_2 ?_
  refine lv_icmp_ne (tgt := 11) hx hb dJx4a65c_add_72be8_3 (by decide) (fun c9 => ?_) (fun c9 => ?_)
  · have hne : k ≠ cT := fun e => c9 (by rw [e])
    exact K cT ad s.heap [] ls 0 0 (fun _ _ => rfl) (by omega) (if_neg hne) (Nat.le_of_ble_eq_true rfl) (Nat.le_of_ble_eq_true rfl) hP hS ⟨hl.1, hl.2.1, fun z hz => hl.2.2 z (by simp only [List.mem_cons, List.not_mem_nil, or_false] at hz ⊢; rcases hz with h | h | h | h <;> simp [h])⟩
  · have heq : k = cT := (nI_eq (by omega) (by omega)).mp c9
    have h41 : cT < 41 := by omega
    refine lv_aload_n hx hb dJx4a65c_add_72be8_6 rfl (lv_at hl 0 rfl) ?_
    refine va_callr (sy_rV (o := 61) (As := []) (rest := []) ⟨hx, hb, hml, hown, hts⟩ hE hP hS (mJx4a65c_growT l hfl Z nT nK cT cK ad g q (by rw [hsz, heq]) hgx (by omega) h0 (fun j hj => hrest j (by omega)) RX3 un_4_224 (fun s H hE hP i hi y hy => by
      cases hq : q 70 i with
      | none => rw [hq] at hy; cases hy
      | some z => rw [hq] at hy; cases hy; exact sy_recv (kc := 4) hE hP (helem i z (by omega) hq _ _) (by decide) rfl rfl rfl)) (cwV 0 hts (gu_V uk_2_131 uk_2_133 uk_0_2 uk_1_4 uk_2_134) rfl rfl rfl (by decide +kernel) ⟨Nat.le_of_ble_eq_true rfl, Nat.le_of_ble_eq_true rfl⟩) (sy_recv (kc := 0) hE hP rfl (by decide) rfl rfl rfl) rfl hl.1 rfl (Nat.le_of_ble_eq_true rfl) dJx4a65c_add_72be8_7 ⟨Nat.le_of_ble_eq_true rfl, Nat.le_of_ble_eq_true rfl⟩) hS (fun _ _ h => h) (fun _ h => h) (fun ad' ra t H1 locs1 ht hv had hB _ _ hS => ?_)
    subst ht
    obtain ⟨h70, -, hP⟩ := hB
    refine lv_astore_n (lv' := [(2, .ref ra), (0, .ref (ad 61)), (1, .ref (ad x)), (3, .int (nI k))]) hx hb dJx4a65c_add_72be8_10 rfl hl (by decide) rfl (fun ls hl => ?_)
    rw [h70, ← had 61 (by decide), ← had x hx70] at hl
    exact K (sGr cT) ad' t.heap locs1 ls _ _ had (by have := (ng_5 _ h41).2.2.2; omega) (if_pos heq) (Nat.le_of_ble_eq_true rfl) (Nat.le_of_ble_eq_true rfl) hP hS hl
set_option maxHeartbeats 4000000 in
set_option maxRecDepth 100000 in
theorem mJx4a65c_addT (l : Launch) (hfl : l.stackTraces = false) (Z : sZ) (nT nK cT cK : Nat) (ad : Nat → Nat) (g : sG) (q : sQ) (k x : Nat) (hsz : g 61 2 = nI k) (hkc : k ≤ cT) (hk : k ≤ 40) (hc : cT ≤ 60) (h0 : cT = 0 → ad 70 = Z.2.2.2) (hx : ∀ o k, q o k ≠ some 70) (hrest : ∀ j, k ≤ j → q 70 j = none) (helem : ∀ i y, i < k → q 70 i = some y → ∀ cT cK, sy_kd nT nK cT cK y = 4) (hkx : ∀ cT cK, sy_kd nT nK cT cK x = 4) : Met l yJx4a65c_add_9ea2d (uW (.code yJx4a65c_add_9ea2d cJx4a65c_add_9ea2d 2 (some .boolean))) { frames := 6, cells := 1, slots := 60, locals := 150 } (va_Pc [.ref (ad 61), .ref (ad x)] (sPre Z nT nK cT cK ad g q)) (sQb Z nT nK (sCap k cT) cK ad (sy_up (sy_up g 61 0 (g 61 0 + 1)) 61 2 (nI (k + 1))) (sy_up q 70 k (some x)) 70) 1 60 (sy_A Z) := by
  have hgx := hx
  refine Met.ofW (cc := cJx4a65c_add_9ea2d) (maxL := 2) (ret := (some .boolean)) (by decide) rfl ?_
  intro p e s m args below meth c s₁ B hml hv
  obtain ⟨rfl, hE, hP⟩ := hv
  have hx := B.exec
  have hb := B.bytes
  have hr := B.returns
  have hts := atoms_spec (ws := uW (.code yJx4a65c_add_9ea2d cJx4a65c_add_9ea2d 2 (some .boolean))) B.pre
  have hown : s.vm.findClass RJx4a65c = some m.cls := findClass_of_methodNamed B.named
  have hlocks := B.notSynchronized
  have hS : va_S (sy_A Z) s.heap s.heap [] := va_S.rf
  have hl := lv_entry ([.ref (ad 61), .ref (ad x)]) (n := 2) (Nat.le_of_ble_eq_true rfl)
  rw [lg_entry_eq]
  generalize (lg_sl ([.ref (ad 61), .ref (ad x)]) ++ List.replicate (2 - (lg_sl ([.ref (ad 61), .ref (ad x)])).length) Slot.unset).toArray = ls at hl ⊢
  have hl : lv_has ls 2 [(0, .ref (ad 61)), (1, .ref (ad x))] := hl
  refine lv_aload_n hx hb dJx4a65c_add_9ea2d_0 rfl (lv_at hl 0 rfl) ?_
  refine lv_dup hx hb dJx4a65c_add_9ea2d_1 rfl ?_
  refine sy_get hx hb hts (uin_all uin_RJx4a65c) hown hE hP 61 0 rfl (by decide) (fs := [.int (g 61 0), .ref (ad (61 + 9)), .int (g 61 2)]) rfl rfl 0 (by decide) (hts _ (u_in uk_1_48)) (u_same (hts _ (u_in uk_1_49))) (v := .int (g 61 0)) rfl dJx4a65c_add_9ea2d_2 ?_
  refine lv_iconst (v := 1) hx hb dJx4a65c_add_9ea2d_5 (by decide) ?_
  refine lv_iadd hx hb dJx4a65c_add_9ea2d_6 ?_
  refine sy_put hx hb hts (uin_all uin_RJx4a65c) tyJx4a65c tyJx4a65c_ok nmJx4a65c hown hE hP hS 61 0 rfl (by decide) (fs := [.int (g 61 0), .ref (ad (61 + 9)), .int (g 61 2)]) rfl rfl 0 (by decide) (hts _ (u_in uk_1_48)) (u_same (hts _ (u_in uk_1_49))) rfl (ty := .int) (by decide +kernel) rfl rfl (show 0 < 3 by decide) (sy_up g 61 0 (g 61 0 + 1)) q (by rw [sy_up_s g 61 0 (g 61 0 + 1)]; exact se_RJx4a65c_0 _ _ _ _ _ _ _) (fun _ h9 => sy_up_o _ _ _ h9) (fun _ _ => rfl) dJx4a65c_add_9ea2d_7 (fun H locs hP hS => ?_)
  refine lv_aload_n hx hb dJx4a65c_add_9ea2d_10 rfl (lv_at hl 0 rfl) ?_
  refine lv_aload_n hx hb dJx4a65c_add_9ea2d_11 rfl (lv_at hl 1 rfl) ?_
  refine lv_aload_n hx hb dJx4a65c_add_9ea2d_12 rfl (lv_at hl 0 rfl) ?_
  refine sy_getRJx4a65c hx hb hts hown hE hP 61 rfl 1 (by decide) (hts _ (u_in uk_1_45)) (v := .ref (ad 70)) rfl dJx4a65c_add_9ea2d_13 ?_
  refine lv_aload_n hx hb dJx4a65c_add_9ea2d_16 rfl (lv_at hl 0 rfl) ?_
  have hsz1 : sy_up g 61 0 (g 61 0 + 1) 61 2 = nI k := hsz
  refine sy_getRJx4a65c hx hb hts hown hE hP 61 rfl 2 (by decide) (hts _ (u_in uk_1_46)) (v := .int (sy_up g 61 0 (g 61 0 + 1) 61 2)) rfl dJx4a65c_add_9ea2d_17 ?_
  refine sy_top (y := nI k) hsz1 ?_
  refine va_callv (sy_rV (o := 61) (As := [.ref (ad x), .ref (ad 70), .int (nI k)]) (rest := []) ⟨hx, hb, hml, hown, hts⟩ hE hP hS (mJx4a65c_addAT l hfl Z nT nK cT cK ad (sy_up g 61 0 (g 61 0 + 1)) q k x hsz1 hkc hk hc h0 hgx hrest helem hkx) (cwV 3 hts (gu_V uk_2_127 uk_2_129 uk_0_1 uk_1_4 uk_2_130) rfl rfl rfl (by decide +kernel) ⟨Nat.le_of_ble_eq_true rfl, Nat.le_of_ble_eq_true rfl⟩) (sy_recv (kc := 0) hE hP rfl (by decide) rfl rfl rfl) rfl hl.1 rfl (Nat.le_of_ble_eq_true rfl) dJx4a65c_add_9ea2d_20 ⟨Nat.le_of_ble_eq_true rfl, Nat.le_of_ble_eq_true rfl⟩) hS (fun _ _ h => h) (fun _ h => h) (fun ad' t H1 locs1 ht hv had hB _ _ hS => ?_)
  subst ht
  obtain ⟨-, hP⟩ := hB
  refine lv_iconst (v := 1) hx hb dJx4a65c_add_9ea2d_23 (by decide) ?_
  exact W.widen (Nat.le_of_ble_eq_true rfl) (Nat.le_of_ble_eq_true rfl) (W.zret hx hb hr rfl (fun t2 ht hW => ⟨⟨1, ad', rfl, had, hE.next hS ht hW.alike, by rw [ht]; exact hP⟩, hS.F ht⟩) hS.2.2 dJx4a65c_add_9ea2d_24 hlocks)
set_option maxHeartbeats 4000000 in
set_option maxRecDepth 100000 in
theorem mJx4a65c_addAK (l : Launch) (hfl : l.stackTraces = false) (Z : sZ) (nT nK cT cK : Nat) (ad : Nat → Nat) (g : sG) (q : sQ) (k x : Nat) (hsz : g 62 2 = nI k) (hkc : k ≤ cK) (hk : k ≤ 40) (hc : cK ≤ 60) (h0 : cK = 0 → ad 71 = Z.2.2.2) (hx : ∀ o k, q o k ≠ some 71) (hrest : ∀ j, k ≤ j → q 71 j = none) (helem : ∀ i y, i < k → q 71 i = some y → ∀ cT cK, sy_kd nT nK cT cK y = 5) (hkx : ∀ cT cK, sy_kd nT nK cT cK x = 5) : Met l yJx4a65c_add_72be8 (uW (.code yJx4a65c_add_72be8 cJx4a65c_add_72be8 4 none)) { frames := 5, cells := 1, slots := 60, locals := 127 } (va_Pc [.ref (ad 62), .ref (ad x), .ref (ad 71), .int (nI k)] (sPre Z nT nK cT cK ad g q)) (sQa Z nT nK cT (sCap k cK) ad (sy_up g 62 2 (nI (k + 1))) (sy_up q 71 k (some x)) 71) 1 60 (sy_A Z) := by
  have hgx := hx
  have hx70 : x ≠ 71 := fun e => by
    have h9 := hkx 0 0
    rw [e] at h9
    exact absurd (show (99 : Nat) = 5 from h9) (by decide)
  refine Met.ofW (cc := cJx4a65c_add_72be8) (maxL := 4) (ret := none) (by decide) rfl ?_
  intro p e s m args below meth c s₁ B hml hv
  obtain ⟨rfl, hE, hP⟩ := hv
  have hx := B.exec
  have hb := B.bytes
  have hr := B.returns
  have hts := atoms_spec (ws := uW (.code yJx4a65c_add_72be8 cJx4a65c_add_72be8 4 none)) B.pre
  have hown : s.vm.findClass RJx4a65c = some m.cls := findClass_of_methodNamed B.named
  have hlocks := B.notSynchronized
  have hS : va_S (sy_A Z) s.heap s.heap [] := va_S.rf
  have hl := lv_entry ([.ref (ad 62), .ref (ad x), .ref (ad 71), .int (nI k)]) (n := 4) (Nat.le_of_ble_eq_true rfl)
  rw [lg_entry_eq]
  generalize (lg_sl ([.ref (ad 62), .ref (ad x), .ref (ad 71), .int (nI k)]) ++ List.replicate (4 - (lg_sl ([.ref (ad 62), .ref (ad x), .ref (ad 71), .int (nI k)])).length) Slot.unset).toArray = ls at hl ⊢
  have hl : lv_has ls 4 [(0, .ref (ad 62)), (1, .ref (ad x)), (2, .ref (ad 71)), (3, .int (nI k))] := hl
  have K : ∀ (n1 : Nat) (ad' : Nat → Nat) (H : Heap) (locs : List Loc) (ls : Array Slot) (cells slots : Nat), (∀ x, x ≠ 71 → ad' x = ad x) → k < n1 → sCap k cK = n1 → cells ≤ 1 → slots ≤ 60 → Sy Z nT nK cT n1 ad' g q H → va_S (sy_A Z) s.heap H locs → lv_has ls 4 [(2, .ref (ad' 71)), (0, .ref (ad' 62)), (1, .ref (ad' x)), (3, .int (nI k))] → W p l e ({ frames := 5, cells := 1, slots := 60, locals := 127 } : Room) s m ([.ref (ad 62), .ref (ad x), .ref (ad 71), .int (nI k)] : List Value).toArray below meth c H locs cells slots (MQ below (sQa Z nT nK cT (sCap k cK) ad (sy_up g 62 2 (nI (k + 1))) (sy_up q 71 k (some x)) 71) ([.ref (ad 62), .ref (ad x), .ref (ad 71), .int (nI k)] : List Value).toArray s 1 60 (sy_A Z)) (F0 m 11 ls []) := by
    intro n1 ad' H locs ls cells slots had hkn he hcl hsl hP hS hl
    refine lv_aload_n hx hb dJx4a65c_add_72be8_11 rfl (lv_at hl 0 rfl) ?_
    refine lv_iload_n hx hb dJx4a65c_add_72be8_12 rfl (lv_at hl 3 rfl) ?_
    refine lv_aload_n hx hb dJx4a65c_add_72be8_13 rfl (lv_at hl 2 rfl) ?_
    refine sy_aastO hx hb hE hP hS 71 (sy_kd71 (by omega)) (C := RX4) un_4_225 (sy_recv (kc := 5) hE hP (hkx _ _) (by decide) rfl rfl rfl) (k := k) hkn (by omega) dJx4a65c_add_72be8_14 (fun H locs hP hS => ?_)
    refine lv_aload_n hx hb dJx4a65c_add_72be8_15 rfl (lv_at hl 1 rfl) ?_
    refine lv_iload_n hx hb dJx4a65c_add_72be8_16 rfl (lv_at hl 3 rfl) ?_
    refine lv_iconst (v := 1) hx hb dJx4a65c_add_72be8_17 (by decide) ?_
    refine lv_iadd hx hb dJx4a65c_add_72be8_18 ?_
    refine sy_top (y := nI (k + 1)) (nI_succ k).symm ?_
    refine sy_putRJx4a65c hx hb hts hown hE hP hS 62 rfl 2 (by decide) (hts _ (u_in uk_1_46)) rfl (ty := .int) (by decide +kernel) rfl rfl (sy_up g 62 2 (nI (k + 1))) (sy_up q 71 k (some x)) (by rw [sy_up_s g 62 2 (nI (k + 1))]; exact se_RJx4a65c_2 _ _ _ _ _ _ _) (fun _ h9 => sy_up_o _ _ _ h9) (fun _ _ => rfl) dJx4a65c_add_72be8_19 (fun H locs hP hS => ?_)
    exact W.widen hcl hsl (W.vret hx hb hr (fun t ht hW => ⟨⟨ad', rfl, had, hE.next hS ht hW.alike, by rw [ht, he]; exact hP⟩, hS.F ht⟩) hS.2.2 dJx4a65c_add_72be8_22 hlocks)
  refine lv_iload_n hx hb dJx4a65c_add_72be8_0 rfl (lv_at hl 3 rfl) ?_
  refine lv_aload_n hx hb dJx4a65c_add_72be8_1 rfl (lv_at hl 2 rfl) ?_
  refine sy_alenK hx hb hE hS h0 hP dJx4a65c_add_72be8_2 ?_
  refine lv_icmp_ne (tgt := 11) hx hb dJx4a65c_add_72be8_3 (by decide) (fun c9 => ?_) (fun c9 => ?_)
  · have hne : k ≠ cK := fun e => c9 (by rw [e])
    exact K cK ad s.heap [] ls 0 0 (fun _ _ => rfl) (by omega) (if_neg hne) (Nat.le_of_ble_eq_true rfl) (Nat.le_of_ble_eq_true rfl) hP hS ⟨hl.1, hl.2.1, fun z hz => hl.2.2 z (by simp only [List.mem_cons, List.not_mem_nil, or_false] at hz ⊢; rcases hz with h | h | h | h <;> simp [h])⟩
  · have heq : k = cK := (nI_eq (by omega) (by omega)).mp c9
    have h41 : cK < 41 := by omega
    refine lv_aload_n hx hb dJx4a65c_add_72be8_6 rfl (lv_at hl 0 rfl) ?_
    refine va_callr (sy_rV (o := 62) (As := []) (rest := []) ⟨hx, hb, hml, hown, hts⟩ hE hP hS (mJx4a65c_growK l hfl Z nT nK cT cK ad g q (by rw [hsz, heq]) hgx (by omega) h0 (fun j hj => hrest j (by omega)) RX4 un_4_225 (fun s H hE hP i hi y hy => by
      cases hq : q 71 i with
      | none => rw [hq] at hy; cases hy
      | some z => rw [hq] at hy; cases hy; exact sy_recv (kc := 5) hE hP (helem i z (by omega) hq _ _) (by decide) rfl rfl rfl)) (cwV 0 hts (gu_V uk_2_131 uk_2_133 uk_0_2 uk_1_4 uk_2_134) rfl rfl rfl (by decide +kernel) ⟨Nat.le_of_ble_eq_true rfl, Nat.le_of_ble_eq_true rfl⟩) (sy_recv (kc := 0) hE hP rfl (by decide) rfl rfl rfl) rfl hl.1 rfl (Nat.le_of_ble_eq_true rfl) dJx4a65c_add_72be8_7 ⟨Nat.le_of_ble_eq_true rfl, Nat.le_of_ble_eq_true rfl⟩) hS (fun _ _ h => h) (fun _ h => h) (fun ad' ra t H1 locs1 ht hv had hB _ _ hS => ?_)
    subst ht
    obtain ⟨h70, -, hP⟩ := hB
    refine lv_astore_n (lv' := [(2, .ref ra), (0, .ref (ad 62)), (1, .ref (ad x)), (3, .int (nI k))]) hx hb dJx4a65c_add_72be8_10 rfl hl (by decide) rfl (fun ls hl => ?_)
    rw [h70, ← had 62 (by decide), ← had x hx70] at hl
    exact K (sGr cK) ad' t.heap locs1 ls _ _ had (by have := (ng_5 _ h41).2.2.2; omega) (if_pos heq) (Nat.le_of_ble_eq_true rfl) (Nat.le_of_ble_eq_true rfl) hP hS hl
set_option maxHeartbeats 4000000 in
set_option maxRecDepth 100000 in
theorem mJx4a65c_addK (l : Launch) (hfl : l.stackTraces = false) (Z : sZ) (nT nK cT cK : Nat) (ad : Nat → Nat) (g : sG) (q : sQ) (k x : Nat) (hsz : g 62 2 = nI k) (hkc : k ≤ cK) (hk : k ≤ 40) (hc : cK ≤ 60) (h0 : cK = 0 → ad 71 = Z.2.2.2) (hx : ∀ o k, q o k ≠ some 71) (hrest : ∀ j, k ≤ j → q 71 j = none) (helem : ∀ i y, i < k → q 71 i = some y → ∀ cT cK, sy_kd nT nK cT cK y = 5) (hkx : ∀ cT cK, sy_kd nT nK cT cK x = 5) : Met l yJx4a65c_add_9ea2d (uW (.code yJx4a65c_add_9ea2d cJx4a65c_add_9ea2d 2 (some .boolean))) { frames := 6, cells := 1, slots := 60, locals := 150 } (va_Pc [.ref (ad 62), .ref (ad x)] (sPre Z nT nK cT cK ad g q)) (sQb Z nT nK cT (sCap k cK) ad (sy_up (sy_up g 62 0 (g 62 0 + 1)) 62 2 (nI (k + 1))) (sy_up q 71 k (some x)) 71) 1 60 (sy_A Z) := by
  have hgx := hx
  refine Met.ofW (cc := cJx4a65c_add_9ea2d) (maxL := 2) (ret := (some .boolean)) (by decide) rfl ?_
  intro p e s m args below meth c s₁ B hml hv
  obtain ⟨rfl, hE, hP⟩ := hv
  have hx := B.exec
  have hb := B.bytes
  have hr := B.returns
  have hts := atoms_spec (ws := uW (.code yJx4a65c_add_9ea2d cJx4a65c_add_9ea2d 2 (some .boolean))) B.pre
  have hown : s.vm.findClass RJx4a65c = some m.cls := findClass_of_methodNamed B.named
  have hlocks := B.notSynchronized
  have hS : va_S (sy_A Z) s.heap s.heap [] := va_S.rf
  have hl := lv_entry ([.ref (ad 62), .ref (ad x)]) (n := 2) (Nat.le_of_ble_eq_true rfl)
  rw [lg_entry_eq]
  generalize (lg_sl ([.ref (ad 62), .ref (ad x)]) ++ List.replicate (2 - (lg_sl ([.ref (ad 62), .ref (ad x)])).length) Slot.unset).toArray = ls at hl ⊢
  have hl : lv_has ls 2 [(0, .ref (ad 62)), (1, .ref (ad x))] := hl
  refine lv_aload_n hx hb dJx4a65c_add_9ea2d_0 rfl (lv_at hl 0 rfl) ?_
  refine lv_dup hx hb dJx4a65c_add_9ea2d_1 rfl ?_
  refine sy_get hx hb hts (uin_all uin_RJx4a65c) hown hE hP 62 0 rfl (by decide) (fs := [.int (g 62 0), .ref (ad (62 + 9)), .int (g 62 2)]) rfl rfl 0 (by decide) (hts _ (u_in uk_1_48)) (u_same (hts _ (u_in uk_1_49))) (v := .int (g 62 0)) rfl dJx4a65c_add_9ea2d_2 ?_
  refine lv_iconst (v := 1) hx hb dJx4a65c_add_9ea2d_5 (by decide) ?_
  refine lv_iadd hx hb dJx4a65c_add_9ea2d_6 ?_
  refine sy_put hx hb hts (uin_all uin_RJx4a65c) tyJx4a65c tyJx4a65c_ok nmJx4a65c hown hE hP hS 62 0 rfl (by decide) (fs := [.int (g 62 0), .ref (ad (62 + 9)), .int (g 62 2)]) rfl rfl 0 (by decide) (hts _ (u_in uk_1_48)) (u_same (hts _ (u_in uk_1_49))) rfl (ty := .int) (by decide +kernel) rfl rfl (show 0 < 3 by decide) (sy_up g 62 0 (g 62 0 + 1)) q (by rw [sy_up_s g 62 0 (g 62 0 + 1)]; exact se_RJx4a65c_0 _ _ _ _ _ _ _) (fun _ h9 => sy_up_o _ _ _ h9) (fun _ _ => rfl) dJx4a65c_add_9ea2d_7 (fun H locs hP hS => ?_)
  refine lv_aload_n hx hb dJx4a65c_add_9ea2d_10 rfl (lv_at hl 0 rfl) ?_
  refine lv_aload_n hx hb dJx4a65c_add_9ea2d_11 rfl (lv_at hl 1 rfl) ?_
  refine lv_aload_n hx hb dJx4a65c_add_9ea2d_12 rfl (lv_at hl 0 rfl) ?_
  refine sy_getRJx4a65c hx hb hts hown hE hP 62 rfl 1 (by decide) (hts _ (u_in uk_1_45)) (v := .ref (ad 71)) rfl dJx4a65c_add_9ea2d_13 ?_
  refine lv_aload_n hx hb dJx4a65c_add_9ea2d_16 rfl (lv_at hl 0 rfl) ?_
  have hsz1 : sy_up g 62 0 (g 62 0 + 1) 62 2 = nI k := hsz
  refine sy_getRJx4a65c hx hb hts hown hE hP 62 rfl 2 (by decide) (hts _ (u_in uk_1_46)) (v := .int (sy_up g 62 0 (g 62 0 + 1) 62 2)) rfl dJx4a65c_add_9ea2d_17 ?_
  refine sy_top (y := nI k) hsz1 ?_
  refine va_callv (sy_rV (o := 62) (As := [.ref (ad x), .ref (ad 71), .int (nI k)]) (rest := []) ⟨hx, hb, hml, hown, hts⟩ hE hP hS (mJx4a65c_addAK l hfl Z nT nK cT cK ad (sy_up g 62 0 (g 62 0 + 1)) q k x hsz1 hkc hk hc h0 hgx hrest helem hkx) (cwV 3 hts (gu_V uk_2_127 uk_2_129 uk_0_1 uk_1_4 uk_2_130) rfl rfl rfl (by decide +kernel) ⟨Nat.le_of_ble_eq_true rfl, Nat.le_of_ble_eq_true rfl⟩) (sy_recv (kc := 0) hE hP rfl (by decide) rfl rfl rfl) rfl hl.1 rfl (Nat.le_of_ble_eq_true rfl) dJx4a65c_add_9ea2d_20 ⟨Nat.le_of_ble_eq_true rfl, Nat.le_of_ble_eq_true rfl⟩) hS (fun _ _ h => h) (fun _ h => h) (fun ad' t H1 locs1 ht hv had hB _ _ hS => ?_)
  subst ht
  obtain ⟨-, hP⟩ := hB
  refine lv_iconst (v := 1) hx hb dJx4a65c_add_9ea2d_23 (by decide) ?_
  exact W.widen (Nat.le_of_ble_eq_true rfl) (Nat.le_of_ble_eq_true rfl) (W.zret hx hb hr rfl (fun t2 ht hW => ⟨⟨1, ad', rfl, had, hE.next hS ht hW.alike, by rw [ht]; exact hP⟩, hS.F ht⟩) hS.2.2 dJx4a65c_add_9ea2d_24 hlocks)
