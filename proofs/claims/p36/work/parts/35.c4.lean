set_option maxHeartbeats 4000000 in
set_option maxRecDepth 100000 in
theorem mX6_needIndex (l : Launch) (hfl : l.stackTraces = false) (Z : sZ) (nT nK cT cK : Nat) (ad : Nat → Nat) (g : sG) (q : sQ) (x0 x1 : Int32)  : sXv l Z yX6_needIndex (uW (.code yX6_needIndex cX6_needIndex 2 none)) { frames := 6, cells := 1, slots := 6, locals := 81 } [.int x0, .int x1] nT nK cT cK ad g q (fun g1 q1 => (0 ≤ x0 ∧ x0 < x1) ∧ g1 = g ∧ q1 = q) (fun E => E = "java/lang/IndexOutOfBoundsException" ∧ ¬ (0 ≤ x0 ∧ x0 < x1)) := by
  refine vx_ofW (cc := cX6_needIndex) (maxL := 2) (ret := none) (by decide) rfl ?_
  intro p e s m args below meth c s₁ B hml hno hv
  obtain ⟨rfl, hE, hP⟩ := hv
  have hx := B.exec
  have hb := B.bytes
  have hr := B.returns
  have hts := atoms_spec (ws := uW (.code yX6_needIndex cX6_needIndex 2 none)) B.pre
  have hown : s.vm.findClass RX6 = some m.cls := findClass_of_methodNamed B.named
  have hlocks := B.notSynchronized
  have hS : va_S (sy_A Z) s.heap s.heap [] := va_S.rf
  have hl := lv_entry ([.int x0, .int x1]) (n := 2) (Nat.le_of_ble_eq_true rfl)
  rw [lg_entry_eq]
  generalize (lg_sl ([.int x0, .int x1]) ++ List.replicate (2 - (lg_sl ([.int x0, .int x1])).length) Slot.unset).toArray = ls at hl ⊢
  have hl : lv_has ls 2 [(0, .int x0), (1, .int x1)] := hl
  refine lv_iload_n hx hb dX6_needIndex_0 rfl (lv_at hl 0 rfl) ?_
  refine lv_if_lt (tgt := 9) hx hb dX6_needIndex_1 (by decide) (fun c_1 => ?_) (fun c_1 => ?_)
  · skip
    exact sy_throw (Xs := []) (names := ["java/lang/RuntimeException", "java/lang/Exception"]) hx hb hfl hno hlocks hown (by decide) (by decide) (hts _ (u_in uk_1_205)) (hts _ (u_in uk_1_14)) (uat_hat uat_IO hts hE) (uat_good uat_IO rfl rfl) hE hP hS (hl.1.trans hml.symm) dX6_needIndex_9 dX6_needIndex_12 dX6_needIndex_13 dX6_needIndex_16 ⟨Nat.le_of_ble_eq_true rfl, Nat.le_of_ble_eq_true rfl, Nat.le_of_ble_eq_true rfl, Nat.le_of_ble_eq_true rfl⟩ ⟨Nat.le_of_ble_eq_true rfl, Nat.le_of_ble_eq_true rfl⟩ ⟨rfl, fun h => absurd c_1 (Int32.not_lt.mpr h.1)⟩
  · skip
    refine lv_iload_n hx hb dX6_needIndex_4 rfl (lv_at hl 0 rfl) ?_
    refine lv_iload_n hx hb dX6_needIndex_5 rfl (lv_at hl 1 rfl) ?_
    refine lv_icmp_lt (tgt := 17) hx hb dX6_needIndex_6 (by decide) (fun c_2 => ?_) (fun c_2 => ?_)
    · skip
      exact vx_ret (sy_vret hx hb hr hlocks hE hP hS dX6_needIndex_17 ⟨Nat.le_of_ble_eq_true rfl, Nat.le_of_ble_eq_true rfl⟩ ⟨⟨Int32.not_lt.mp c_1, c_2⟩, rfl, rfl⟩)
    · skip
      exact sy_throw (Xs := []) (names := ["java/lang/RuntimeException", "java/lang/Exception"]) hx hb hfl hno hlocks hown (by decide) (by decide) (hts _ (u_in uk_1_205)) (hts _ (u_in uk_1_14)) (uat_hat uat_IO hts hE) (uat_good uat_IO rfl rfl) hE hP hS (hl.1.trans hml.symm) dX6_needIndex_9 dX6_needIndex_12 dX6_needIndex_13 dX6_needIndex_16 ⟨Nat.le_of_ble_eq_true rfl, Nat.le_of_ble_eq_true rfl, Nat.le_of_ble_eq_true rfl, Nat.le_of_ble_eq_true rfl⟩ ⟨Nat.le_of_ble_eq_true rfl, Nat.le_of_ble_eq_true rfl⟩ ⟨rfl, fun h => absurd h.2 c_2⟩
set_option maxHeartbeats 4000000 in
set_option maxRecDepth 100000 in
theorem mX6_needRange (l : Launch) (hfl : l.stackTraces = false) (Z : sZ) (nT nK cT cK : Nat) (ad : Nat → Nat) (g : sG) (q : sQ) (x0 x1 x2 : Int32)  : sXv l Z yX6_needRange (uW (.code yX6_needRange cX6_needRange 3 none)) { frames := 6, cells := 1, slots := 6, locals := 81 } [.int x0, .int x1, .int x2] nT nK cT cK ad g q (fun g1 q1 => (x1 ≤ x0 ∧ x0 ≤ x2) ∧ g1 = g ∧ q1 = q) (fun E => E = "java/lang/IllegalArgumentException" ∧ ¬ (x1 ≤ x0 ∧ x0 ≤ x2)) := by
  refine vx_ofW (cc := cX6_needRange) (maxL := 3) (ret := none) (by decide) rfl ?_
  intro p e s m args below meth c s₁ B hml hno hv
  obtain ⟨rfl, hE, hP⟩ := hv
  have hx := B.exec
  have hb := B.bytes
  have hr := B.returns
  have hts := atoms_spec (ws := uW (.code yX6_needRange cX6_needRange 3 none)) B.pre
  have hown : s.vm.findClass RX6 = some m.cls := findClass_of_methodNamed B.named
  have hlocks := B.notSynchronized
  have hS : va_S (sy_A Z) s.heap s.heap [] := va_S.rf
  have hl := lv_entry ([.int x0, .int x1, .int x2]) (n := 3) (Nat.le_of_ble_eq_true rfl)
  rw [lg_entry_eq]
  generalize (lg_sl ([.int x0, .int x1, .int x2]) ++ List.replicate (3 - (lg_sl ([.int x0, .int x1, .int x2])).length) Slot.unset).toArray = ls at hl ⊢
  have hl : lv_has ls 3 [(0, .int x0), (1, .int x1), (2, .int x2)] := hl
  refine lv_iload_n hx hb dX6_needRange_0 rfl (lv_at hl 0 rfl) ?_
  refine lv_iload_n hx hb dX6_needRange_1 rfl (lv_at hl 1 rfl) ?_
  refine lv_icmp_lt (tgt := 10) hx hb dX6_needRange_2 (by decide) (fun c_1 => ?_) (fun c_1 => ?_)
  · skip
    exact sy_throw (Xs := []) (names := ["java/lang/RuntimeException", "java/lang/Exception"]) hx hb hfl hno hlocks hown (by decide) (by decide) (hts _ (u_in uk_2_31)) (hts _ (u_in uk_1_12)) (uat_hat uat_IA hts hE) (uat_good uat_IA rfl rfl) hE hP hS (hl.1.trans hml.symm) dX6_needRange_10 dX6_needRange_13 dX6_needRange_14 dX6_needRange_17 ⟨Nat.le_of_ble_eq_true rfl, Nat.le_of_ble_eq_true rfl, Nat.le_of_ble_eq_true rfl, Nat.le_of_ble_eq_true rfl⟩ ⟨Nat.le_of_ble_eq_true rfl, Nat.le_of_ble_eq_true rfl⟩ ⟨rfl, fun h => absurd c_1 (Int32.not_lt.mpr h.1)⟩
  · skip
    refine lv_iload_n hx hb dX6_needRange_5 rfl (lv_at hl 0 rfl) ?_
    refine lv_iload_n hx hb dX6_needRange_6 rfl (lv_at hl 2 rfl) ?_
    refine lv_icmp_le (tgt := 18) hx hb dX6_needRange_7 (by decide) (fun c_2 => ?_) (fun c_2 => ?_)
    · skip
      exact vx_ret (sy_vret hx hb hr hlocks hE hP hS dX6_needRange_18 ⟨Nat.le_of_ble_eq_true rfl, Nat.le_of_ble_eq_true rfl⟩ ⟨⟨Int32.not_lt.mp c_1, c_2⟩, rfl, rfl⟩)
    · skip
      exact sy_throw (Xs := []) (names := ["java/lang/RuntimeException", "java/lang/Exception"]) hx hb hfl hno hlocks hown (by decide) (by decide) (hts _ (u_in uk_2_31)) (hts _ (u_in uk_1_12)) (uat_hat uat_IA hts hE) (uat_good uat_IA rfl rfl) hE hP hS (hl.1.trans hml.symm) dX6_needRange_10 dX6_needRange_13 dX6_needRange_14 dX6_needRange_17 ⟨Nat.le_of_ble_eq_true rfl, Nat.le_of_ble_eq_true rfl, Nat.le_of_ble_eq_true rfl, Nat.le_of_ble_eq_true rfl⟩ ⟨Nat.le_of_ble_eq_true rfl, Nat.le_of_ble_eq_true rfl⟩ ⟨rfl, fun h => absurd h.2 c_2⟩
set_option maxHeartbeats 4000000 in
set_option maxRecDepth 100000 in
theorem mX6_needState (l : Launch) (hfl : l.stackTraces = false) (Z : sZ) (nT nK cT cK : Nat) (ad : Nat → Nat) (g : sG) (q : sQ) (x0 : Int32)  : sXv l Z yX6_needState (uW (.code yX6_needState cX6_needState 1 none)) { frames := 6, cells := 1, slots := 6, locals := 81 } [.int x0] nT nK cT cK ad g q (fun g1 q1 => (¬ (x0 = 0)) ∧ g1 = g ∧ q1 = q) (fun E => E = "java/lang/IllegalStateException" ∧ ¬ (¬ (x0 = 0))) := by
  refine vx_ofW (cc := cX6_needState) (maxL := 1) (ret := none) (by decide) rfl ?_
  intro p e s m args below meth c s₁ B hml hno hv
  obtain ⟨rfl, hE, hP⟩ := hv
  have hx := B.exec
  have hb := B.bytes
  have hr := B.returns
  have hts := atoms_spec (ws := uW (.code yX6_needState cX6_needState 1 none)) B.pre
  have hown : s.vm.findClass RX6 = some m.cls := findClass_of_methodNamed B.named
  have hlocks := B.notSynchronized
  have hS : va_S (sy_A Z) s.heap s.heap [] := va_S.rf
  have hl := lv_entry ([.int x0]) (n := 1) (Nat.le_of_ble_eq_true rfl)
  rw [lg_entry_eq]
  generalize (lg_sl ([.int x0]) ++ List.replicate (1 - (lg_sl ([.int x0])).length) Slot.unset).toArray = ls at hl ⊢
  have hl : lv_has ls 1 [(0, .int x0)] := hl
  refine lv_iload_n hx hb dX6_needState_0 rfl (lv_at hl 0 rfl) ?_
  refine lv_if_ne (tgt := 12) hx hb dX6_needState_1 (by decide) (fun c_1 => ?_) (fun c_1 => ?_)
  · skip
    exact vx_ret (sy_vret hx hb hr hlocks hE hP hS dX6_needState_12 ⟨Nat.le_of_ble_eq_true rfl, Nat.le_of_ble_eq_true rfl⟩ ⟨c_1, rfl, rfl⟩)
  · skip
    exact sy_throw (Xs := []) (names := ["java/lang/RuntimeException", "java/lang/Exception"]) hx hb hfl hno hlocks hown (by decide) (by decide) (hts _ (u_in uk_2_53)) (hts _ (u_in uk_1_13)) (uat_hat uat_IS hts hE) (uat_good uat_IS rfl rfl) hE hP hS (hl.1.trans hml.symm) dX6_needState_4 dX6_needState_7 dX6_needState_8 dX6_needState_11 ⟨Nat.le_of_ble_eq_true rfl, Nat.le_of_ble_eq_true rfl, Nat.le_of_ble_eq_true rfl, Nat.le_of_ble_eq_true rfl⟩ ⟨Nat.le_of_ble_eq_true rfl, Nat.le_of_ble_eq_true rfl⟩ ⟨rfl, fun h => h c_1⟩
theorem at_lt {x a : Int32} {n : Nat} (ha : a = nI n) (hn : n < 2 ^ 31) (h : 0 ≤ x ∧ x < a) : x.toNatClampNeg < n := vp_in_lt (vp_in_of2 ha (Nat.le_refl _) hn h)
set_option maxHeartbeats 4000000 in
set_option maxRecDepth 100000 in
theorem mX6_thingAt (l : Launch) (hfl : l.stackTraces = false) (Z : sZ) (nT nK cT cK : Nat) (ad : Nat → Nat) (g : sG) (q : sQ) (x0 : Int32) (hT : nT ≤ 100) (hG : IG nT nK cT cK g) (hQ : IQ nT nK q) : sXr l Z yX6_thingAt (uW (.code yX6_thingAt cX6_thingAt 2 (some (.object "Pledgehouse$Thing")))) { frames := 7, cells := 1, slots := 6, locals := 102 } [.ref (ad 60), .int x0] nT nK cT cK ad g q (fun o1 => (0 ≤ x0 ∧ x0 < (g 61 2)) ∧ o1 = 100 + x0.toNatClampNeg) (fun E => E = "java/lang/IndexOutOfBoundsException" ∧ ¬ (0 ≤ x0 ∧ x0 < (g 61 2))) := by
  refine vx_ofW (cc := cX6_thingAt) (maxL := 2) (ret := (some (.object "Pledgehouse$Thing"))) (by decide) rfl ?_
  intro p e s m args below meth c s₁ B hml hno hv
  obtain ⟨rfl, hE, hP⟩ := hv
  have hx := B.exec
  have hb := B.bytes
  have hr := B.returns
  have hts := atoms_spec (ws := uW (.code yX6_thingAt cX6_thingAt 2 (some (.object "Pledgehouse$Thing")))) B.pre
  have hown : s.vm.findClass RX6 = some m.cls := findClass_of_methodNamed B.named
  have hlocks := B.notSynchronized
  have hS : va_S (sy_A Z) s.heap s.heap [] := va_S.rf
  have hl := lv_entry ([.ref (ad 60), .int x0]) (n := 2) (Nat.le_of_ble_eq_true rfl)
  rw [lg_entry_eq]
  generalize (lg_sl ([.ref (ad 60), .int x0]) ++ List.replicate (2 - (lg_sl ([.ref (ad 60), .int x0])).length) Slot.unset).toArray = ls at hl ⊢
  have hl : lv_has ls 2 [(0, .ref (ad 60)), (1, .int x0)] := hl
  refine lv_iload_n hx hb dX6_thingAt_0 rfl (lv_at hl 1 rfl) ?_
  refine lv_aload_n hx hb dX6_thingAt_1 rfl (lv_at hl 0 rfl) ?_
  refine sy_getRX6 hx hb hts hown hE hP 60 rfl 0 (by decide) (hts _ (u_in uk_1_152)) (v := .ref (ad 61)) rfl dX6_thingAt_2 ?_
  refine sy_ki (sy_rV (o := 61) (As := []) (rest := [.int x0]) ⟨hx, hb, hml, hown, hts⟩ hE hP hS (mJx4a65c_size_8abf5T l hfl Z nT nK cT cK ad g q) (cwV 0 hts (gu_V uk_2_46 uk_2_47 uk_2_48 uk_1_4 uk_2_49) rfl rfl rfl (by decide +kernel) ⟨Nat.le_of_ble_eq_true rfl, Nat.le_of_ble_eq_true rfl⟩) (sy_recv (kc := 0) hE hP rfl (by decide) rfl rfl rfl) rfl hl.1 rfl (Nat.le_of_ble_eq_true rfl) dX6_thingAt_5 ⟨Nat.le_of_ble_eq_true rfl, Nat.le_of_ble_eq_true rfl⟩) hS (fun r_e_1 g_e_1 q_e_1 H locs e_1 hP hS => ?_)
  cases e_1
  refine sy_top (y := (g 61 2)) (by rfl) ?_
  refine sy_xkv (sy_xS (As := [.int x0, .int (g 61 2)]) (rest := []) ⟨hx, hb, hml, hown, hts⟩ hE hP hS (mX6_needIndex l hfl Z nT nK cT cK ad g q x0 (g 61 2)) (va_cwS 2 hts (gu_S uk_1_202 uk_1_203 uk_1_1 uk_1_204) rfl rfl rfl (by decide +kernel) ⟨Nat.le_of_ble_eq_true rfl, Nat.le_of_ble_eq_true rfl⟩) rfl hl.1 rfl (Nat.le_of_ble_eq_true rfl) dX6_thingAt_8 ⟨Nat.le_of_ble_eq_true rfl, Nat.le_of_ble_eq_true rfl⟩) hno hlocks hE hS ⟨Nat.le_of_ble_eq_true rfl, Nat.le_of_ble_eq_true rfl⟩ (fun E9 h9 => ⟨h9.1, h9.2⟩) (fun g_e_2 q_e_2 H locs e_2 hP hS => ?_)
  have c_4 := e_2.1
  obtain ⟨-, h7, h8⟩ := e_2; rw [h7, h8] at hP
  refine lv_aload_n hx hb dX6_thingAt_11 rfl (lv_at hl 0 rfl) ?_
  refine sy_getRX6 hx hb hts hown hE hP 60 rfl 0 (by decide) (hts _ (u_in uk_1_152)) (v := .ref (ad 61)) rfl dX6_thingAt_12 ?_
  refine lv_iload_n hx hb dX6_thingAt_15 rfl (lv_at hl 1 rfl) ?_
  refine sy_top (y := (nI x0.toNatClampNeg)) (nI_self c_4.1) ?_
  refine sy_kr (sy_rV (o := 61) (As := [.int (nI x0.toNatClampNeg)]) (rest := []) ⟨hx, hb, hml, hown, hts⟩ hE hP hS (mJx4a65c_get_915e3T l hfl Z nT nK cT cK ad g q x0.toNatClampNeg hG hQ (at_lt hG.1 (by have := hG.2.1; have := hG.2.2.2.2.1; omega) c_4)) (cwV 1 hts (gu_V uk_3_16 uk_3_17 uk_3_18 uk_1_4 uk_3_19) rfl rfl rfl (by decide +kernel) ⟨Nat.le_of_ble_eq_true rfl, Nat.le_of_ble_eq_true rfl⟩) (sy_recv (kc := 0) hE hP rfl (by decide) rfl rfl rfl) rfl hl.1 rfl (Nat.le_of_ble_eq_true rfl) dX6_thingAt_16 ⟨Nat.le_of_ble_eq_true rfl, Nat.le_of_ble_eq_true rfl⟩) hS (fun o_e_5 H locs e_5 hP hS => ?_)
  subst e_5
  refine va_castS hx hb hown (hts _ (u_in uk_2_68)) (hE.1.1 4 _ rfl).2 (sy_recv (kc := 4) hE hP (sy_kdT (at_lt hG.1 (by have := hG.2.1; have := hG.2.2.2.2.1; omega) c_4) hT) (by decide) rfl rfl rfl) dX6_thingAt_19 ?_
  exact vx_ret (sy_aret (o := (100 + x0.toNatClampNeg)) hx hb hr hlocks hE hP hS dX6_thingAt_22 ⟨Nat.le_of_ble_eq_true rfl, Nat.le_of_ble_eq_true rfl⟩ ⟨c_4, rfl⟩)
set_option maxHeartbeats 4000000 in
set_option maxRecDepth 100000 in
theorem mX6_ticketAt (l : Launch) (hfl : l.stackTraces = false) (Z : sZ) (nT nK cT cK : Nat) (ad : Nat → Nat) (g : sG) (q : sQ) (x0 : Int32) (hT : nT ≤ 100) (hG : IG nT nK cT cK g) (hQ : IQ nT nK q) : sXr l Z yX6_ticketAt (uW (.code yX6_ticketAt cX6_ticketAt 2 (some (.object "Pledgehouse$Ticket")))) { frames := 7, cells := 1, slots := 6, locals := 102 } [.ref (ad 60), .int x0] nT nK cT cK ad g q (fun o1 => (0 ≤ x0 ∧ x0 < (g 62 2)) ∧ o1 = 200 + x0.toNatClampNeg) (fun E => E = "java/lang/IndexOutOfBoundsException" ∧ ¬ (0 ≤ x0 ∧ x0 < (g 62 2))) := by
  refine vx_ofW (cc := cX6_ticketAt) (maxL := 2) (ret := (some (.object "Pledgehouse$Ticket"))) (by decide) rfl ?_
  intro p e s m args below meth c s₁ B hml hno hv
  obtain ⟨rfl, hE, hP⟩ := hv
  have hx := B.exec
  have hb := B.bytes
  have hr := B.returns
  have hts := atoms_spec (ws := uW (.code yX6_ticketAt cX6_ticketAt 2 (some (.object "Pledgehouse$Ticket")))) B.pre
  have hown : s.vm.findClass RX6 = some m.cls := findClass_of_methodNamed B.named
  have hlocks := B.notSynchronized
  have hS : va_S (sy_A Z) s.heap s.heap [] := va_S.rf
  have hl := lv_entry ([.ref (ad 60), .int x0]) (n := 2) (Nat.le_of_ble_eq_true rfl)
  rw [lg_entry_eq]
  generalize (lg_sl ([.ref (ad 60), .int x0]) ++ List.replicate (2 - (lg_sl ([.ref (ad 60), .int x0])).length) Slot.unset).toArray = ls at hl ⊢
  have hl : lv_has ls 2 [(0, .ref (ad 60)), (1, .int x0)] := hl
  refine lv_iload_n hx hb dX6_ticketAt_0 rfl (lv_at hl 1 rfl) ?_
  refine lv_aload_n hx hb dX6_ticketAt_1 rfl (lv_at hl 0 rfl) ?_
  refine sy_getRX6 hx hb hts hown hE hP 60 rfl 1 (by decide) (hts _ (u_in uk_1_153)) (v := .ref (ad 62)) rfl dX6_ticketAt_2 ?_
  refine sy_ki (sy_rV (o := 62) (As := []) (rest := [.int x0]) ⟨hx, hb, hml, hown, hts⟩ hE hP hS (mJx4a65c_size_8abf5K l hfl Z nT nK cT cK ad g q) (cwV 0 hts (gu_V uk_2_46 uk_2_47 uk_2_48 uk_1_4 uk_2_49) rfl rfl rfl (by decide +kernel) ⟨Nat.le_of_ble_eq_true rfl, Nat.le_of_ble_eq_true rfl⟩) (sy_recv (kc := 0) hE hP rfl (by decide) rfl rfl rfl) rfl hl.1 rfl (Nat.le_of_ble_eq_true rfl) dX6_ticketAt_5 ⟨Nat.le_of_ble_eq_true rfl, Nat.le_of_ble_eq_true rfl⟩) hS (fun r_e_1 g_e_1 q_e_1 H locs e_1 hP hS => ?_)
  cases e_1
  refine sy_top (y := (g 62 2)) (by rfl) ?_
  refine sy_xkv (sy_xS (As := [.int x0, .int (g 62 2)]) (rest := []) ⟨hx, hb, hml, hown, hts⟩ hE hP hS (mX6_needIndex l hfl Z nT nK cT cK ad g q x0 (g 62 2)) (va_cwS 2 hts (gu_S uk_1_202 uk_1_203 uk_1_1 uk_1_204) rfl rfl rfl (by decide +kernel) ⟨Nat.le_of_ble_eq_true rfl, Nat.le_of_ble_eq_true rfl⟩) rfl hl.1 rfl (Nat.le_of_ble_eq_true rfl) dX6_ticketAt_8 ⟨Nat.le_of_ble_eq_true rfl, Nat.le_of_ble_eq_true rfl⟩) hno hlocks hE hS ⟨Nat.le_of_ble_eq_true rfl, Nat.le_of_ble_eq_true rfl⟩ (fun E9 h9 => ⟨h9.1, h9.2⟩) (fun g_e_2 q_e_2 H locs e_2 hP hS => ?_)
  have c_4 := e_2.1
  obtain ⟨-, h7, h8⟩ := e_2; rw [h7, h8] at hP
  refine lv_aload_n hx hb dX6_ticketAt_11 rfl (lv_at hl 0 rfl) ?_
  refine sy_getRX6 hx hb hts hown hE hP 60 rfl 1 (by decide) (hts _ (u_in uk_1_153)) (v := .ref (ad 62)) rfl dX6_ticketAt_12 ?_
  refine lv_iload_n hx hb dX6_ticketAt_15 rfl (lv_at hl 1 rfl) ?_
  refine sy_top (y := (nI x0.toNatClampNeg)) (nI_self c_4.1) ?_
  refine sy_kr (sy_rV (o := 62) (As := [.int (nI x0.toNatClampNeg)]) (rest := []) ⟨hx, hb, hml, hown, hts⟩ hE hP hS (mJx4a65c_get_915e3K l hfl Z nT nK cT cK ad g q x0.toNatClampNeg hG hQ (at_lt hG.2.2.2.1 (by have := hG.2.1; have := hG.2.2.2.2.1; omega) c_4)) (cwV 1 hts (gu_V uk_3_16 uk_3_17 uk_3_18 uk_1_4 uk_3_19) rfl rfl rfl (by decide +kernel) ⟨Nat.le_of_ble_eq_true rfl, Nat.le_of_ble_eq_true rfl⟩) (sy_recv (kc := 0) hE hP rfl (by decide) rfl rfl rfl) rfl hl.1 rfl (Nat.le_of_ble_eq_true rfl) dX6_ticketAt_16 ⟨Nat.le_of_ble_eq_true rfl, Nat.le_of_ble_eq_true rfl⟩) hS (fun o_e_5 H locs e_5 hP hS => ?_)
  subst e_5
  refine va_castS hx hb hown (hts _ (u_in uk_3_50)) (hE.1.1 5 _ rfl).2 (sy_recv (kc := 5) hE hP (sy_kdK (at_lt hG.2.2.2.1 (by have := hG.2.1; have := hG.2.2.2.2.1; omega) c_4)) (by decide) rfl rfl rfl) dX6_ticketAt_19 ?_
  exact vx_ret (sy_aret (o := (200 + x0.toNatClampNeg)) hx hb hr hlocks hE hP hS dX6_ticketAt_22 ⟨Nat.le_of_ble_eq_true rfl, Nat.le_of_ble_eq_true rfl⟩ ⟨c_4, rfl⟩)
