theorem ng_1 : ∀ n, n < 41 → nI (n + 1) - nI n = 1 := by decide
theorem ng_2 : ∀ n, n < 41 → nI n >>> ((1 : Int32) &&& 31) = nI (n / 2) := by decide
theorem ng_3 : ∀ n, n < 41 → n ≠ 0 → ¬ (nI n + (sMax 1 (nI (n / 2)))) ≤ 0 ∧ ¬ 2147483639 < (nI n + (sMax 1 (nI (n / 2)))) := by decide
theorem ng_4 : ∀ n, n < 41 → n ≠ 0 → nI n + sMax 1 (nI (n / 2)) = nI (sGr n) := by decide
theorem ng_5 : ∀ n, n < 41 → n ≤ sGr n ∧ sGr n ≤ 60 ∧ sGr n ≠ 0 ∧ n < sGr n := by decide
abbrev sQg (Z : sZ) (nT nK cT cK : Nat) (ad : Nat → Nat) (g : sG) (q : sQ) (b : Nat) : Array Value → State → Outcome → State → Prop := va_Qr (fun ad' : Nat → Nat => ∀ x, x ≠ b → ad' x = ad x) (fun ad' ra t => ra = ad' b ∧ sEnv Z t ∧ Sy Z nT nK cT cK ad' g q t.heap) (sy_A Z)
set_option maxHeartbeats 4000000 in
set_option maxRecDepth 100000 in
theorem mJx4a65c_growIT (l : Launch) (hfl : l.stackTraces = false) (Z : sZ) (nT nK cT cK : Nat) (ad : Nat → Nat) (g : sG) (q : sQ) (hx : ∀ o k, q o k ≠ some 70) (hc : cT ≤ 40) (h0 : cT = 0 → ad 70 = Z.2.2.2) (hrest : ∀ j, cT ≤ j → q 70 j = none) (C : String) (hcn : Cond.castable C "java/lang/Object" ∈ wsN) (hrv : ∀ (s : State) (H : Heap), sEnv Z s → Sy Z nT nK cT cK ad g q H → ∀ i : Nat, i < cT → ∀ y : Nat, (q 70 i).map ad = some y → ∃ cellV : Cell, H[y]? = some cellV ∧ cellV.vm.isStatics = false ∧ s.vm.findClass C = some cellV.cls) : Met l yJx4a65c_grow_92f84 (uW (.code yJx4a65c_grow_92f84 cJx4a65c_grow_92f84 4 (some (.array (.object "java/lang/Object"))))) { frames := 3, cells := 1, slots := 60, locals := 84 } (va_Pc [.ref (ad 61), .int (nI (cT + 1))] (sPre Z nT nK cT cK ad g q)) (sQg Z nT nK (sGr cT) cK ad g q 70) 1 60 (sy_A Z) := by
  have hgx := hx
  refine Met.ofW (cc := cJx4a65c_grow_92f84) (maxL := 4) (ret := (some (.array (.object "java/lang/Object")))) (by decide) rfl ?_
  intro p e s m args below meth c s₁ B hml hv
  obtain ⟨rfl, hE, hP⟩ := hv
  have hx := B.exec
  have hb := B.bytes
  have hr := B.returns
  have hts := atoms_spec (ws := uW (.code yJx4a65c_grow_92f84 cJx4a65c_grow_92f84 4 (some (.array (.object "java/lang/Object"))))) B.pre
  have hown : s.vm.findClass RJx4a65c = some m.cls := findClass_of_methodNamed B.named
  have hlocks := B.notSynchronized
  have hS : va_S (sy_A Z) s.heap s.heap [] := va_S.rf
  have hl := lv_entry ([.ref (ad 61), .int (nI (cT + 1))]) (n := 4) (Nat.le_of_ble_eq_true rfl)
  rw [lg_entry_eq]
  generalize (lg_sl ([.ref (ad 61), .int (nI (cT + 1))]) ++ List.replicate (4 - (lg_sl ([.ref (ad 61), .int (nI (cT + 1))])).length) Slot.unset).toArray = ls at hl ⊢
  have hl : lv_has ls 4 [(0, .ref (ad 61)), (1, .int (nI (cT + 1)))] := hl
  refine lv_aload_n hx hb dJx4a65c_grow_92f84_0 rfl (lv_at hl 0 rfl) ?_
  refine sy_getRJx4a65c hx hb hts hown hE hP 61 rfl 1 (by decide) (hts _ (u_in uk_1_45)) (v := .ref (ad 70)) rfl dJx4a65c_grow_92f84_1 ?_
  by_cases hz : cT = 0
  · subst hz
    rw [h0 rfl]
    refine sy_alen0 hx hb hE hS dJx4a65c_grow_92f84_4 ?_
    refine lv_istore_n (lv' := [(2, .int 0), (0, .ref (ad 61)), (1, .int (nI (0 + 1)))]) hx hb dJx4a65c_grow_92f84_5 rfl hl (by decide) rfl (fun ls hl => ?_)
    refine lv_iload_n hx hb dJx4a65c_grow_92f84_6 rfl (lv_at hl 0 rfl) ?_
    refine lv_if_gt (tgt := 20) hx hb dJx4a65c_grow_92f84_7 (by decide) (fun c9 => absurd c9 (by decide)) (fun _ => ?_)
    refine lv_aload_n hx hb dJx4a65c_grow_92f84_10 rfl (lv_at hl 1 rfl) ?_
    refine sy_getRJx4a65c hx hb hts hown hE hP 61 rfl 1 (by decide) (hts _ (u_in uk_1_45)) (v := .ref (ad 70)) rfl dJx4a65c_grow_92f84_11 ?_
    refine va_gets hx hb hE.2.2.2.2.1.1 hS hown (hts _ (u_in uk_1_43)) (fun _ h9 => h9) dJx4a65c_grow_92f84_14 ?_
    refine lv_acmp_eq (rx := some (ad 70)) (ry := some Z.2.2.2) (tgt := 45) hx hb dJx4a65c_grow_92f84_17 (by decide) (fun _ => ?_) (fun c9 => absurd (by rw [h0 rfl]) c9)
    refine lv_aload_n hx hb dJx4a65c_grow_92f84_45 rfl (lv_at hl 1 rfl) ?_
    refine lv_bipush (v := 10) hx hb dJx4a65c_grow_92f84_46 (by decide) ?_
    refine lv_iload_n hx hb dJx4a65c_grow_92f84_48 rfl (lv_at hl 2 rfl) ?_
    refine va_mmax hx hb (hml.trans hl.1.symm) hown (hts _ (u_in uk_2_179)) (hts _ (u_in uk_2_143)) (hts _ (u_in uk_1_17)) (hts _ (u_in uk_2_144)) (Nat.le_of_ble_eq_true rfl) (Nat.le_of_ble_eq_true rfl) (Nat.le_of_ble_eq_true rfl) (Nat.le_of_ble_eq_true rfl) dJx4a65c_grow_92f84_49 ?_
    refine sy_top (y := 10) (by decide) ?_
    refine sy_anew hx hb hown (hts _ (u_in uk_2_180)) hE hP hS (N := 10) (by decide) (by decide) (by decide) (Nat.le_of_ble_eq_true rfl) (Nat.le_of_ble_eq_true rfl) dJx4a65c_grow_92f84_52 (fun a H hP hS hN1 => ?_)
    refine lv_dup_x1 hx hb dJx4a65c_grow_92f84_55 rfl rfl ?_
    refine sy_growT hx hb hts hown hE hP hS (hts _ (u_in uk_1_45)) hN1 (by decide) (fun j => by rw [hrest j (Nat.zero_le _)]; rfl) hgx dJx4a65c_grow_92f84_56 (fun ad' H locs had h70 hP hS => ?_)
    exact W.widen (Nat.le_of_ble_eq_true rfl) (Nat.le_of_ble_eq_true rfl) (W.aret hx hb hr (Or.inr ⟨_, rfl⟩) (Or.inr ⟨_, rfl⟩) (fun t ht hW => ⟨⟨ad', a, rfl, had, h70.symm, hE.next hS ht hW.alike, by rw [ht]; exact hP⟩, hS.F ht⟩) hS.2.2 dJx4a65c_grow_92f84_59 hlocks)
  · have hk : sy_kd nT nK cT cK 70 = 13 := sy_kd70 hz
    have h41 : cT < 41 := by omega
    refine sy_alen (kc := 13) (t0 := 2) hx hb hE hP 70 hk (by decide) rfl rfl (v := nI cT) rfl dJx4a65c_grow_92f84_4 ?_
    refine lv_istore_n (lv' := [(2, .int (nI cT)), (0, .ref (ad 61)), (1, .int (nI (cT + 1)))]) hx hb dJx4a65c_grow_92f84_5 rfl hl (by decide) rfl (fun ls hl => ?_)
    refine lv_iload_n hx hb dJx4a65c_grow_92f84_6 rfl (lv_at hl 0 rfl) ?_
    refine lv_if_gt (tgt := 20) hx hb dJx4a65c_grow_92f84_7 (by decide) (fun _ => ?_) (fun c9 => absurd (show nI 0 < nI cT from (nI_ltI (by omega) (by omega)).mpr (by omega)) c9)
    refine lv_iload_n hx hb dJx4a65c_grow_92f84_20 rfl (lv_at hl 0 rfl) ?_
    refine lv_iload_n hx hb dJx4a65c_grow_92f84_21 rfl (lv_at hl 2 rfl) ?_
    refine lv_iload_n hx hb dJx4a65c_grow_92f84_22 rfl (lv_at hl 0 rfl) ?_
    refine lv_isub hx hb dJx4a65c_grow_92f84_23 ?_
    refine sy_top (y := 1) (ng_1 _ h41) ?_
    refine lv_iload_n hx hb dJx4a65c_grow_92f84_24 rfl (lv_at hl 0 rfl) ?_
    refine lv_iconst (v := 1) hx hb dJx4a65c_grow_92f84_25 (by decide) ?_
    refine lv_ishr hx hb dJx4a65c_grow_92f84_26 ?_
    refine sy_top (y := nI (cT / 2)) (ng_2 _ h41) ?_
    refine sy_ki (sy_rS (As := [.int (nI cT), .int 1, .int (nI (cT / 2))]) (rest := []) ⟨hx, hb, hml, hown, hts⟩ hE hP hS (mJ8_newLength_cabcc l hfl Z nT nK cT cK ad g q (nI cT) 1 (nI (cT / 2)) (ng_3 _ h41 hz).1 (ng_3 _ h41 hz).2) (va_cwS 3 hts (gu_S uk_2_139 uk_2_140 uk_1_16 uk_2_141) rfl rfl rfl (by decide +kernel) ⟨Nat.le_of_ble_eq_true rfl, Nat.le_of_ble_eq_true rfl⟩) rfl hl.1 rfl (Nat.le_of_ble_eq_true rfl) dJx4a65c_grow_92f84_27 ⟨Nat.le_of_ble_eq_true rfl, Nat.le_of_ble_eq_true rfl⟩) hS (fun r_e g_e q_e H locs e hP hS => ?_)
    cases e
    refine sy_top (y := nI (sGr cT)) (ng_4 _ h41 hz) ?_
    refine lv_istore_n (lv' := [(3, .int (nI (sGr cT))), (2, .int (nI cT)), (0, .ref (ad 61)), (1, .int (nI (cT + 1)))]) hx hb dJx4a65c_grow_92f84_30 rfl hl (by decide) rfl (fun ls hl => ?_)
    refine lv_aload_n hx hb dJx4a65c_grow_92f84_31 rfl (lv_at hl 2 rfl) ?_
    refine lv_aload_n hx hb dJx4a65c_grow_92f84_32 rfl (lv_at hl 2 rfl) ?_
    refine sy_getRJx4a65c hx hb hts hown hE hP 61 rfl 1 (by decide) (hts _ (u_in uk_1_45)) (v := .ref (ad 70)) rfl dJx4a65c_grow_92f84_33 ?_
    refine lv_iload_n hx hb dJx4a65c_grow_92f84_36 rfl (lv_at hl 0 rfl) ?_
    refine va_callr (sy_rS (As := [.ref (ad 70), .int (nI (sGr cT))]) (rest := [.ref (ad 61)]) ⟨hx, hb, hml, hown, hts⟩ hE hP hS (mJ7_copyOf2 l Z nT nK cT cK ad g q 70 cT (sGr cT) C hk rfl (ng_5 _ h41).1 (ng_5 _ h41).2.1 hcn hrv) (va_cwS 2 hts (gu_S uk_2_149 uk_2_150 uk_1_18 uk_2_151) rfl rfl rfl (by decide +kernel) ⟨Nat.le_of_ble_eq_true rfl, Nat.le_of_ble_eq_true rfl⟩) rfl hl.1 rfl (Nat.le_of_ble_eq_true rfl) dJx4a65c_grow_92f84_37 ⟨Nat.le_of_ble_eq_true rfl, Nat.le_of_ble_eq_true rfl⟩) hS (fun _ _ h => h) (fun _ h => h) (fun u ra t H1 locs1 ht hv _ hB _ _ hS => ?_)
    subst ht
    obtain ⟨⟨-, hP⟩, hN1⟩ := hB
    refine lv_dup_x1 hx hb dJx4a65c_grow_92f84_40 rfl rfl ?_
    refine sy_growT hx hb hts hown hE hP hS (hts _ (u_in uk_1_45)) hN1 (ng_5 _ h41).2.2.1 (fun j => ?_) hgx dJx4a65c_grow_92f84_41 (fun ad' H locs had h70 hP hS => ?_)
    · by_cases hj : j < cT
      · rw [if_pos hj]
      · rw [if_neg hj, hrest j (by omega)]; rfl
    exact W.widen (Nat.le_of_ble_eq_true rfl) (Nat.le_of_ble_eq_true rfl) (W.aret hx hb hr (Or.inr ⟨_, rfl⟩) (Or.inr ⟨_, rfl⟩) (fun t ht hW => ⟨⟨ad', ra, rfl, had, h70.symm, hE.next hS ht hW.alike, by rw [ht]; exact hP⟩, hS.F ht⟩) hS.2.2 dJx4a65c_grow_92f84_44 hlocks)
set_option maxHeartbeats 4000000 in
set_option maxRecDepth 100000 in
theorem mJx4a65c_growT (l : Launch) (hfl : l.stackTraces = false) (Z : sZ) (nT nK cT cK : Nat) (ad : Nat → Nat) (g : sG) (q : sQ) (hsz : g 61 2 = nI cT) (hx : ∀ o k, q o k ≠ some 70) (hc : cT ≤ 40) (h0 : cT = 0 → ad 70 = Z.2.2.2) (hrest : ∀ j, cT ≤ j → q 70 j = none) (C : String) (hcn : Cond.castable C "java/lang/Object" ∈ wsN) (hrv : ∀ (s : State) (H : Heap), sEnv Z s → Sy Z nT nK cT cK ad g q H → ∀ i : Nat, i < cT → ∀ y : Nat, (q 70 i).map ad = some y → ∃ cellV : Cell, H[y]? = some cellV ∧ cellV.vm.isStatics = false ∧ s.vm.findClass C = some cellV.cls) : Met l yJx4a65c_grow_d5877 (uW (.code yJx4a65c_grow_d5877 cJx4a65c_grow_d5877 1 (some (.array (.object "java/lang/Object"))))) { frames := 4, cells := 1, slots := 60, locals := 107 } (va_Pc [.ref (ad 61)] (sPre Z nT nK cT cK ad g q)) (sQg Z nT nK (sGr cT) cK ad g q 70) 1 60 (sy_A Z) := by
  have hgx := hx
  refine Met.ofW (cc := cJx4a65c_grow_d5877) (maxL := 1) (ret := (some (.array (.object "java/lang/Object")))) (by decide) rfl ?_
  intro p e s m args below meth c s₁ B hml hv
  obtain ⟨rfl, hE, hP⟩ := hv
  have hx := B.exec
  have hb := B.bytes
  have hr := B.returns
  have hts := atoms_spec (ws := uW (.code yJx4a65c_grow_d5877 cJx4a65c_grow_d5877 1 (some (.array (.object "java/lang/Object"))))) B.pre
  have hown : s.vm.findClass RJx4a65c = some m.cls := findClass_of_methodNamed B.named
  have hlocks := B.notSynchronized
  have hS : va_S (sy_A Z) s.heap s.heap [] := va_S.rf
  have hl := lv_entry ([.ref (ad 61)]) (n := 1) (Nat.le_of_ble_eq_true rfl)
  rw [lg_entry_eq]
  generalize (lg_sl ([.ref (ad 61)]) ++ List.replicate (1 - (lg_sl ([.ref (ad 61)])).length) Slot.unset).toArray = ls at hl ⊢
  have hl : lv_has ls 1 [(0, .ref (ad 61))] := hl
  refine lv_aload_n hx hb dJx4a65c_grow_d5877_0 rfl (lv_at hl 0 rfl) ?_
  refine lv_aload_n hx hb dJx4a65c_grow_d5877_1 rfl (lv_at hl 0 rfl) ?_
  refine sy_getRJx4a65c hx hb hts hown hE hP 61 rfl 2 (by decide) (hts _ (u_in uk_1_46)) (v := .int (g 61 2)) rfl dJx4a65c_grow_d5877_2 ?_
  refine lv_iconst (v := 1) hx hb dJx4a65c_grow_d5877_5 (by decide) ?_
  refine lv_iadd hx hb dJx4a65c_grow_d5877_6 ?_
  refine sy_top (y := nI (cT + 1)) (by rw [hsz, nI_succ]) ?_
  refine va_callr (sy_rV (o := 61) (As := [.int (nI (cT + 1))]) (rest := []) ⟨hx, hb, hml, hown, hts⟩ hE hP hS (mJx4a65c_growIT l hfl Z nT nK cT cK ad g q hgx hc h0 hrest C hcn hrv) (cwV 1 hts (gu_V uk_2_135 uk_2_137 uk_0_3 uk_1_4 uk_2_138) rfl rfl rfl (by decide +kernel) ⟨Nat.le_of_ble_eq_true rfl, Nat.le_of_ble_eq_true rfl⟩) (sy_recv (kc := 0) hE hP rfl (by decide) rfl rfl rfl) rfl hl.1 rfl (Nat.le_of_ble_eq_true rfl) dJx4a65c_grow_d5877_7 ⟨Nat.le_of_ble_eq_true rfl, Nat.le_of_ble_eq_true rfl⟩) hS (fun _ _ h => h) (fun _ h => h) (fun ad' ra t H1 locs1 ht hv had hB _ _ hS => ?_)
  subst ht
  obtain ⟨h70, -, hP⟩ := hB
  exact W.widen (Nat.le_of_ble_eq_true rfl) (Nat.le_of_ble_eq_true rfl) (W.aret hx hb hr (Or.inr ⟨_, rfl⟩) (Or.inr ⟨_, rfl⟩) (fun t2 ht hW => ⟨⟨ad', ra, rfl, had, h70, hE.next hS ht hW.alike, by rw [ht]; exact hP⟩, hS.F ht⟩) hS.2.2 dJx4a65c_grow_d5877_10 hlocks)
set_option maxHeartbeats 4000000 in
set_option maxRecDepth 100000 in
theorem mJx4a65c_growIK (l : Launch) (hfl : l.stackTraces = false) (Z : sZ) (nT nK cT cK : Nat) (ad : Nat → Nat) (g : sG) (q : sQ) (hx : ∀ o k, q o k ≠ some 71) (hc : cK ≤ 40) (h0 : cK = 0 → ad 71 = Z.2.2.2) (hrest : ∀ j, cK ≤ j → q 71 j = none) (C : String) (hcn : Cond.castable C "java/lang/Object" ∈ wsN) (hrv : ∀ (s : State) (H : Heap), sEnv Z s → Sy Z nT nK cT cK ad g q H → ∀ i : Nat, i < cK → ∀ y : Nat, (q 71 i).map ad = some y → ∃ cellV : Cell, H[y]? = some cellV ∧ cellV.vm.isStatics = false ∧ s.vm.findClass C = some cellV.cls) : Met l yJx4a65c_grow_92f84 (uW (.code yJx4a65c_grow_92f84 cJx4a65c_grow_92f84 4 (some (.array (.object "java/lang/Object"))))) { frames := 3, cells := 1, slots := 60, locals := 84 } (va_Pc [.ref (ad 62), .int (nI (cK + 1))] (sPre Z nT nK cT cK ad g q)) (sQg Z nT nK cT (sGr cK) ad g q 71) 1 60 (sy_A Z) := by
  have hgx := hx
  refine Met.ofW (cc := cJx4a65c_grow_92f84) (maxL := 4) (ret := (some (.array (.object "java/lang/Object")))) (by decide) rfl ?_
  intro p e s m args below meth c s₁ B hml hv
  obtain ⟨rfl, hE, hP⟩ := hv
  have hx := B.exec
  have hb := B.bytes
  have hr := B.returns
  have hts := atoms_spec (ws := uW (.code yJx4a65c_grow_92f84 cJx4a65c_grow_92f84 4 (some (.array (.object "java/lang/Object"))))) B.pre
  have hown : s.vm.findClass RJx4a65c = some m.cls := findClass_of_methodNamed B.named
  have hlocks := B.notSynchronized
  have hS : va_S (sy_A Z) s.heap s.heap [] := va_S.rf
  have hl := lv_entry ([.ref (ad 62), .int (nI (cK + 1))]) (n := 4) (Nat.le_of_ble_eq_true rfl)
  rw [lg_entry_eq]
  generalize (lg_sl ([.ref (ad 62), .int (nI (cK + 1))]) ++ List.replicate (4 - (lg_sl ([.ref (ad 62), .int (nI (cK + 1))])).length) Slot.unset).toArray = ls at hl ⊢
  have hl : lv_has ls 4 [(0, .ref (ad 62)), (1, .int (nI (cK + 1)))] := hl
  refine lv_aload_n hx hb dJx4a65c_grow_92f84_0 rfl (lv_at hl 0 rfl) ?_
  refine sy_getRJx4a65c hx hb hts hown hE hP 62 rfl 1 (by decide) (hts _ (u_in uk_1_45)) (v := .ref (ad 71)) rfl dJx4a65c_grow_92f84_1 ?_
  by_cases hz : cK = 0
  · subst hz
    rw [h0 rfl]
    refine sy_alen0 hx hb hE hS dJx4a65c_grow_92f84_4 ?_
    refine lv_istore_n (lv' := [(2, .int 0), (0, .ref (ad 62)), (1, .int (nI (0 + 1)))]) hx hb dJx4a65c_grow_92f84_5 rfl hl (by decide) rfl (fun ls hl => ?_)
    refine lv_iload_n hx hb dJx4a65c_grow_92f84_6 rfl (lv_at hl 0 rfl) ?_
    refine lv_if_gt (tgt := 20) hx hb dJx4a65c_grow_92f84_7 (by decide) (fun c9 => absurd c9 (by decide)) (fun _ => ?_)
    refine lv_aload_n hx hb dJx4a65c_grow_92f84_10 rfl (lv_at hl 1 rfl) ?_
    refine sy_getRJx4a65c hx hb hts hown hE hP 62 rfl 1 (by decide) (hts _ (u_in uk_1_45)) (v := .ref (ad 71)) rfl dJx4a65c_grow_92f84_11 ?_
    refine va_gets hx hb hE.2.2.2.2.1.1 hS hown (hts _ (u_in uk_1_43)) (fun _ h9 => h9) dJx4a65c_grow_92f84_14 ?_
    refine lv_acmp_eq (rx := some (ad 71)) (ry := some Z.2.2.2) (tgt := 45) hx hb dJx4a65c_grow_92f84_17 (by decide) (fun _ => ?_) (fun c9 => absurd (by rw [h0 rfl]) c9)
    refine lv_aload_n hx hb dJx4a65c_grow_92f84_45 rfl (lv_at hl 1 rfl) ?_
    refine lv_bipush (v := 10) hx hb dJx4a65c_grow_92f84_46 (by decide) ?_
    refine lv_iload_n hx hb dJx4a65c_grow_92f84_48 rfl (lv_at hl 2 rfl) ?_
    refine va_mmax hx hb (hml.trans hl.1.symm) hown (hts _ (u_in uk_2_179)) (hts _ (u_in uk_2_143)) (hts _ (u_in uk_1_17)) (hts _ (u_in uk_2_144)) (Nat.le_of_ble_eq_true rfl) (Nat.le_of_ble_eq_true rfl) (Nat.le_of_ble_eq_true rfl) (Nat.le_of_ble_eq_true rfl) dJx4a65c_grow_92f84_49 ?_
    refine sy_top (y := 10) (by decide) ?_
    refine sy_anew hx hb hown (hts _ (u_in uk_2_180)) hE hP hS (N := 10) (by decide) (by decide) (by decide) (Nat.le_of_ble_eq_true rfl) (Nat.le_of_ble_eq_true rfl) dJx4a65c_grow_92f84_52 (fun a H hP hS hN1 => ?_)
    refine lv_dup_x1 hx hb dJx4a65c_grow_92f84_55 rfl rfl ?_
    refine sy_growK hx hb hts hown hE hP hS (hts _ (u_in uk_1_45)) hN1 (by decide) (fun j => by rw [hrest j (Nat.zero_le _)]; rfl) hgx dJx4a65c_grow_92f84_56 (fun ad' H locs had h70 hP hS => ?_)
    exact W.widen (Nat.le_of_ble_eq_true rfl) (Nat.le_of_ble_eq_true rfl) (W.aret hx hb hr (Or.inr ⟨_, rfl⟩) (Or.inr ⟨_, rfl⟩) (fun t ht hW => ⟨⟨ad', a, rfl, had, h70.symm, hE.next hS ht hW.alike, by rw [ht]; exact hP⟩, hS.F ht⟩) hS.2.2 dJx4a65c_grow_92f84_59 hlocks)
  · have hk : sy_kd nT nK cT cK 71 = 13 := sy_kd71 hz
    have h41 : cK < 41 := by omega
    refine sy_alen (kc := 13) (t0 := 2) hx hb hE hP 71 hk (by decide) rfl rfl (v := nI cK) rfl dJx4a65c_grow_92f84_4 ?_
    refine lv_istore_n (lv' := [(2, .int (nI cK)), (0, .ref (ad 62)), (1, .int (nI (cK + 1)))]) hx hb dJx4a65c_grow_92f84_5 rfl hl (by decide) rfl (fun ls hl => ?_)
    refine lv_iload_n hx hb dJx4a65c_grow_92f84_6 rfl (lv_at hl 0 rfl) ?_
    refine lv_if_gt (tgt := 20) hx hb dJx4a65c_grow_92f84_7 (by decide) (fun _ => ?_) (fun c9 => absurd (show nI 0 < nI cK from (nI_ltI (by omega) (by omega)).mpr (by omega)) c9)
    refine lv_iload_n hx hb dJx4a65c_grow_92f84_20 rfl (lv_at hl 0 rfl) ?_
    refine lv_iload_n hx hb dJx4a65c_grow_92f84_21 rfl (lv_at hl 2 rfl) ?_
    refine lv_iload_n hx hb dJx4a65c_grow_92f84_22 rfl (lv_at hl 0 rfl) ?_
    refine lv_isub hx hb dJx4a65c_grow_92f84_23 ?_
    refine sy_top (y := 1) (ng_1 _ h41) ?_
    refine lv_iload_n hx hb dJx4a65c_grow_92f84_24 rfl (lv_at hl 0 rfl) ?_
    refine lv_iconst (v := 1) hx hb dJx4a65c_grow_92f84_25 (by decide) ?_
    refine lv_ishr hx hb dJx4a65c_grow_92f84_26 ?_
    refine sy_top (y := nI (cK / 2)) (ng_2 _ h41) ?_
    refine sy_ki (sy_rS (As := [.int (nI cK), .int 1, .int (nI (cK / 2))]) (rest := []) ⟨hx, hb, hml, hown, hts⟩ hE hP hS (mJ8_newLength_cabcc l hfl Z nT nK cT cK ad g q (nI cK) 1 (nI (cK / 2)) (ng_3 _ h41 hz).1 (ng_3 _ h41 hz).2) (va_cwS 3 hts (gu_S uk_2_139 uk_2_140 uk_1_16 uk_2_141) rfl rfl rfl (by decide +kernel) ⟨Nat.le_of_ble_eq_true rfl, Nat.le_of_ble_eq_true rfl⟩) rfl hl.1 rfl (Nat.le_of_ble_eq_true rfl) dJx4a65c_grow_92f84_27 ⟨Nat.le_of_ble_eq_true rfl, Nat.le_of_ble_eq_true rfl⟩) hS (fun r_e g_e q_e H locs e hP hS => ?_)
    cases e
    refine sy_top (y := nI (sGr cK)) (ng_4 _ h41 hz) ?_
    refine lv_istore_n (lv' := [(3, .int (nI (sGr cK))), (2, .int (nI cK)), (0, .ref (ad 62)), (1, .int (nI (cK + 1)))]) hx hb dJx4a65c_grow_92f84_30 rfl hl (by decide) rfl (fun ls hl => ?_)
    refine lv_aload_n hx hb dJx4a65c_grow_92f84_31 rfl (lv_at hl 2 rfl) ?_
    refine lv_aload_n hx hb dJx4a65c_grow_92f84_32 rfl (lv_at hl 2 rfl) ?_
    refine sy_getRJx4a65c hx hb hts hown hE hP 62 rfl 1 (by decide) (hts _ (u_in uk_1_45)) (v := .ref (ad 71)) rfl dJx4a65c_grow_92f84_33 ?_
    refine lv_iload_n hx hb dJx4a65c_grow_92f84_36 rfl (lv_at hl 0 rfl) ?_
    refine va_callr (sy_rS (As := [.ref (ad 71), .int (nI (sGr cK))]) (rest := [.ref (ad 62)]) ⟨hx, hb, hml, hown, hts⟩ hE hP hS (mJ7_copyOf2 l Z nT nK cT cK ad g q 71 cK (sGr cK) C hk rfl (ng_5 _ h41).1 (ng_5 _ h41).2.1 hcn hrv) (va_cwS 2 hts (gu_S uk_2_149 uk_2_150 uk_1_18 uk_2_151) rfl rfl rfl (by decide +kernel) ⟨Nat.le_of_ble_eq_true rfl, Nat.le_of_ble_eq_true rfl⟩) rfl hl.1 rfl (Nat.le_of_ble_eq_true rfl) dJx4a65c_grow_92f84_37 ⟨Nat.le_of_ble_eq_true rfl, Nat.le_of_ble_eq_true rfl⟩) hS (fun _ _ h => h) (fun _ h => h) (fun u ra t H1 locs1 ht hv _ hB _ _ hS => ?_)
    subst ht
    obtain ⟨⟨-, hP⟩, hN1⟩ := hB
    refine lv_dup_x1 hx hb dJx4a65c_grow_92f84_40 rfl rfl ?_
    refine sy_growK hx hb hts hown hE hP hS (hts _ (u_in uk_1_45)) hN1 (ng_5 _ h41).2.2.1 (fun j => ?_) hgx dJx4a65c_grow_92f84_41 (fun ad' H locs had h70 hP hS => ?_)
    · by_cases hj : j < cK
      · rw [if_pos hj]
      · rw [if_neg hj, hrest j (by omega)]; rfl
    exact W.widen (Nat.le_of_ble_eq_true rfl) (Nat.le_of_ble_eq_true rfl) (W.aret hx hb hr (Or.inr ⟨_, rfl⟩) (Or.inr ⟨_, rfl⟩) (fun t ht hW => ⟨⟨ad', ra, rfl, had, h70.symm, hE.next hS ht hW.alike, by rw [ht]; exact hP⟩, hS.F ht⟩) hS.2.2 dJx4a65c_grow_92f84_44 hlocks)
set_option maxHeartbeats 4000000 in
set_option maxRecDepth 100000 in
theorem mJx4a65c_growK (l : Launch) (hfl : l.stackTraces = false) (Z : sZ) (nT nK cT cK : Nat) (ad : Nat → Nat) (g : sG) (q : sQ) (hsz : g 62 2 = nI cK) (hx : ∀ o k, q o k ≠ some 71) (hc : cK ≤ 40) (h0 : cK = 0 → ad 71 = Z.2.2.2) (hrest : ∀ j, cK ≤ j → q 71 j = none) (C : String) (hcn : Cond.castable C "java/lang/Object" ∈ wsN) (hrv : ∀ (s : State) (H : Heap), sEnv Z s → Sy Z nT nK cT cK ad g q H → ∀ i : Nat, i < cK → ∀ y : Nat, (q 71 i).map ad = some y → ∃ cellV : Cell, H[y]? = some cellV ∧ cellV.vm.isStatics = false ∧ s.vm.findClass C = some cellV.cls) : Met l yJx4a65c_grow_d5877 (uW (.code yJx4a65c_grow_d5877 cJx4a65c_grow_d5877 1 (some (.array (.object "java/lang/Object"))))) { frames := 4, cells := 1, slots := 60, locals := 107 } (va_Pc [.ref (ad 62)] (sPre Z nT nK cT cK ad g q)) (sQg Z nT nK cT (sGr cK) ad g q 71) 1 60 (sy_A Z) := by
  have hgx := hx
  refine Met.ofW (cc := cJx4a65c_grow_d5877) (maxL := 1) (ret := (some (.array (.object "java/lang/Object")))) (by decide) rfl ?_
  intro p e s m args below meth c s₁ B hml hv
  obtain ⟨rfl, hE, hP⟩ := hv
  have hx := B.exec
  have hb := B.bytes
  have hr := B.returns
  have hts := atoms_spec (ws := uW (.code yJx4a65c_grow_d5877 cJx4a65c_grow_d5877 1 (some (.array (.object "java/lang/Object"))))) B.pre
  have hown : s.vm.findClass RJx4a65c = some m.cls := findClass_of_methodNamed B.named
  have hlocks := B.notSynchronized
  have hS : va_S (sy_A Z) s.heap s.heap [] := va_S.rf
  have hl := lv_entry ([.ref (ad 62)]) (n := 1) (Nat.le_of_ble_eq_true rfl)
  rw [lg_entry_eq]
  generalize (lg_sl ([.ref (ad 62)]) ++ List.replicate (1 - (lg_sl ([.ref (ad 62)])).length) Slot.unset).toArray = ls at hl ⊢
  have hl : lv_has ls 1 [(0, .ref (ad 62))] := hl
  refine lv_aload_n hx hb dJx4a65c_grow_d5877_0 rfl (lv_at hl 0 rfl) ?_
  refine lv_aload_n hx hb dJx4a65c_grow_d5877_1 rfl (lv_at hl 0 rfl) ?_
  refine sy_getRJx4a65c hx hb hts hown hE hP 62 rfl 2 (by decide) (hts _ (u_in uk_1_46)) (v := .int (g 62 2)) rfl dJx4a65c_grow_d5877_2 ?_
  refine lv_iconst (v := 1) hx hb dJx4a65c_grow_d5877_5 (by decide) ?_
  refine lv_iadd hx hb dJx4a65c_grow_d5877_6 ?_
  refine sy_top (y := nI (cK + 1)) (by rw [hsz, nI_succ]) ?_
  refine va_callr (sy_rV (o := 62) (As := [.int (nI (cK + 1))]) (rest := []) ⟨hx, hb, hml, hown, hts⟩ hE hP hS (mJx4a65c_growIK l hfl Z nT nK cT cK ad g q hgx hc h0 hrest C hcn hrv) (cwV 1 hts (gu_V uk_2_135 uk_2_137 uk_0_3 uk_1_4 uk_2_138) rfl rfl rfl (by decide +kernel) ⟨Nat.le_of_ble_eq_true rfl, Nat.le_of_ble_eq_true rfl⟩) (sy_recv (kc := 0) hE hP rfl (by decide) rfl rfl rfl) rfl hl.1 rfl (Nat.le_of_ble_eq_true rfl) dJx4a65c_grow_d5877_7 ⟨Nat.le_of_ble_eq_true rfl, Nat.le_of_ble_eq_true rfl⟩) hS (fun _ _ h => h) (fun _ h => h) (fun ad' ra t H1 locs1 ht hv had hB _ _ hS => ?_)
  subst ht
  obtain ⟨h70, -, hP⟩ := hB
  exact W.widen (Nat.le_of_ble_eq_true rfl) (Nat.le_of_ble_eq_true rfl) (W.aret hx hb hr (Or.inr ⟨_, rfl⟩) (Or.inr ⟨_, rfl⟩) (fun t2 ht hW => ⟨⟨ad', ra, rfl, had, h70, hE.next hS ht hW.alike, by rw [ht]; exact hP⟩, hS.F ht⟩) hS.2.2 dJx4a65c_grow_d5877_10 hlocks)
