theorem and_nI (v : Int32) : ∃ x, x < 2147483648 ∧ v &&& 2147483647 = nI x := by
  have h : v.toBitVec.toNat &&& 2147483647 ≤ 2147483647 := Nat.and_le_right
  refine ⟨v.toBitVec.toNat &&& 2147483647, by omega, Int32.toBitVec_inj.mp (BitVec.eq_of_toNat_eq ?_)⟩
  rw [Int32.toBitVec_and, BitVec.toNat_and]
  show v.toBitVec.toNat &&& 2147483647 = (BitVec.ofNat 32 _).toNat
  rw [BitVec.toNat_ofNat, Nat.mod_eq_of_lt (by omega)]
set_option maxHeartbeats 8000000 in
set_option maxRecDepth 100000 in
theorem nL_draw (l : Launch) (hfl : l.stackTraces = false) (Z : sZ) (nT nK cT cK : Nat) (ad : Nat → Nat) (g : sG) (q : sQ) {b L k : Nat} {xs : Nat → Int32} (hL : L ≤ 260) (hk : k < 1000) : Met l yL_draw (uW (.code yL_draw cL_draw 2 (some FieldType.int))) { frames := 1, cells := 0, slots := 0, locals := 60 } (va_Pc [.ref b, .int (nI k)] (fun U => sPre Z nT nK cT cK ad g q U ∧ va_X b L xs U U.heap ∧ b < U.heap.size ∧ ¬ sy_A Z b)) (sQi Z nT nK cT cK ad (fun r g1 q1 => (∃ x, x < 2147483648 ∧ r = nI x) ∧ g1 = g ∧ q1 = q)) 0 0 (sy_A Z) := by
  refine Met.ofW (cc := cL_draw) (maxL := 2) (ret := (some FieldType.int)) (by decide) rfl ?_
  intro p e s m args below meth c s₁ B hml hv
  obtain ⟨rfl, ⟨hE, hP⟩, hX, hbl, hbA⟩ := hv
  have hx := B.exec
  have hb := B.bytes
  have hr := B.returns
  have hts := atoms_spec (ws := uW (.code yL_draw cL_draw 2 (some FieldType.int))) B.pre
  have hown : s.vm.findClass RL = some m.cls := findClass_of_methodNamed B.named
  have hlocks := B.notSynchronized
  have hS : va_S (sy_A Z) s.heap s.heap [] := va_S.rf
  have hl := lv_entry ([.ref b, .int (nI k)]) (n := 2) (Nat.le_of_ble_eq_true rfl)
  rw [lg_entry_eq]
  generalize (lg_sl ([.ref b, .int (nI k)]) ++ List.replicate (2 - (lg_sl ([.ref b, .int (nI k)])).length) Slot.unset).toArray = ls at hl ⊢
  have hl : lv_has ls 2 [(0, .ref b), (1, .int (nI k))] := hl
  refine lv_iload_n hx hb dL_draw_0 rfl (lv_at hl 1 rfl) ?_
  refine lv_aload_n hx hb dL_draw_1 rfl (lv_at hl 0 rfl) ?_
  refine va_slen hx hb hX hbl hbA hS dL_draw_2 ?_
  have fin : ∀ v : Int32, W p l e ({ frames := 1, cells := 0, slots := 0, locals := 60 } : Room) s m ([.ref b, .int (nI k)] : List Value).toArray below meth c s.heap [] 0 0 (MQ below (sQi Z nT nK cT cK ad (fun r g1 q1 => (∃ x, x < 2147483648 ∧ r = nI x) ∧ g1 = g ∧ q1 = q)) ([.ref b, .int (nI k)] : List Value).toArray s 0 0 (sy_A Z)) (F0 m 20 ls [.int v]) := by
    intro v
    refine lv_ldc (v := 2147483647) hx hb hown (hts _ (u_in uk_1_191)) dL_draw_20 ?_
    refine lv_iand hx hb dL_draw_22 ?_
    exact sy_ireti hx hb hr hlocks hE hP hS dL_draw_23 ⟨Nat.le_of_ble_eq_true rfl, Nat.le_of_ble_eq_true rfl⟩ ⟨and_nI v, rfl, rfl⟩
  by_cases hq : L ≤ k
  · refine lv_icmp_ge (tgt := 12) hx hb dL_draw_3 (by decide) (fun _ => ?_) (fun c9 => absurd ((nI_leI (a := L) (b := k) (by omega) (by omega)).mpr hq) c9)
    refine lv_ldc (v := 15595837) hx hb hown (hts _ (u_in uk_1_190)) dL_draw_12 ?_
    refine lv_iload_n hx hb dL_draw_14 rfl (lv_at hl 1 rfl) ?_
    refine lv_imul hx hb dL_draw_15 ?_
    refine lv_sipush (v := 11789) hx hb dL_draw_16 (by decide) ?_
    refine lv_iadd hx hb dL_draw_19 ?_
    exact fin _
  · refine lv_icmp_ge (tgt := 12) hx hb dL_draw_3 (by decide) (fun c9 => absurd c9 (mt (nI_leI (a := L) (b := k) (by omega) (by omega)).mp hq)) (fun _ => ?_)
    refine lv_aload_n hx hb dL_draw_6 rfl (lv_at hl 0 rfl) ?_
    refine lv_iload_n hx hb dL_draw_7 rfl (lv_at hl 1 rfl) ?_
    refine va_sld hx hb hX hbl hbA hS (vp_in_nI (show k < L by omega) (by omega)) dL_draw_8 ?_
    refine lv_goto (tgt := 20) hx hb dL_draw_9 (by decide) ?_
    exact fin _
set_option maxHeartbeats 8000000 in
set_option maxRecDepth 100000 in
theorem nL_thingsHold (l : Launch) (hfl : l.stackTraces = false) (Z : sZ) (nT nK cT cK : Nat) (ad : Nat → Nat) (g : sG) (q : sQ) {n : Nat} (hI : CI n nT nK cT cK g q) : Met l yL_thingsHold (uW (.code yL_thingsHold cL_thingsHold 11 (some FieldType.boolean))) { frames := 10, cells := 670, slots := 4000, locals := 169 } (va_Pc [.ref (ad 60), .ref (ad 90), .int (nI nT), .int (nI nK)] (sPreL Z nT nK cT cK ad g q)) (sQi Z nT nK cT cK ad (fun r g1 q1 => r = 1 ∧ g1 = g ∧ q1 = q)) 670 4000 (sy_A Z) := by
  refine Met.ofW (cc := cL_thingsHold) (maxL := 11) (ret := (some FieldType.boolean)) (by decide) rfl ?_
  intro p e s m args below meth c s₁ B hml hv
  obtain ⟨rfl, ⟨hE, hP⟩, hNc⟩ := hv
  have hx := B.exec
  have hb := B.bytes
  have hr := B.returns
  have hts := atoms_spec (ws := uW (.code yL_thingsHold cL_thingsHold 11 (some FieldType.boolean))) B.pre
  have hown : s.vm.findClass RL = some m.cls := findClass_of_methodNamed B.named
  have hlocks := B.notSynchronized
  have hS : va_S (sy_A Z) s.heap s.heap [] := va_S.rf
  have hl := lv_entry ([.ref (ad 60), .ref (ad 90), .int (nI nT), .int (nI nK)]) (n := 11) (Nat.le_of_ble_eq_true rfl)
  rw [lg_entry_eq]
  generalize (lg_sl ([.ref (ad 60), .ref (ad 90), .int (nI nT), .int (nI nK)]) ++ List.replicate (11 - (lg_sl ([.ref (ad 60), .ref (ad 90), .int (nI nT), .int (nI nK)])).length) Slot.unset).toArray = ls at hl ⊢
  have hl : lv_has ls 11 [(0, .ref (ad 60)), (1, .ref (ad 90)), (2, .int (nI nT)), (3, .int (nI nK))] := hl
  have hT40 := ci_T hI
  have hK40 := ci_K hI
  refine lv_ldc2 (v := lI (720)) hx hb hown (hts _ (u_in uk_4_98)) dL_thingsHold_0 ?_
  refine lv_lstore (lv' := [(4, .long (lI (720))), (0, .ref (ad 60)), (1, .ref (ad 90)), (2, .int (nI nT)), (3, .int (nI nK))]) hx hb dL_thingsHold_3 hl (by decide) rfl (fun ls hl => ?_)
  refine lv_aload_n hx hb dL_thingsHold_5 rfl (lv_at hl 1 rfl) ?_
  refine lv_iload_n hx hb dL_thingsHold_6 rfl (lv_at hl 3 rfl) ?_
  refine lv_iconst (v := 0) hx hb dL_thingsHold_7 (by decide) ?_
  refine sy_kl (vx_runSW (As := [.ref (ad 60), .int (nI nT), .int 0]) (rest := []) ⟨hx, hb, hml, hown, hts⟩ (mL_thingOf l hfl Z nT nK cT cK ad g q (nI nT) 0 hI) (vx_cwSW 3 hts (gu_S uk_4_46 uk_4_47 uk_1_0 uk_4_48) rfl rfl rfl (by decide +kernel) ⟨Nat.le_of_ble_eq_true rfl, Nat.le_of_ble_eq_true rfl⟩) ⟨sPreL_blind _, fun U hU hW => ⟨rfl, ⟨hE.next hS hU hW.alike, by rw [hU]; exact hP⟩, hNc.next hW.alike⟩⟩ rfl rfl hl.1 rfl (lv_room (Nat.le_of_ble_eq_true rfl)) dL_thingsHold_8 ⟨by show _ ≤ 670; (try dsimp only); omega, by show _ ≤ 4000; (try dsimp only); omega⟩) hS (fun r g1 q1 H locs e9 hP hS => ?_)
  obtain ⟨er, eg, eq⟩ := eq_n1 (a_Tno hI 0) e9
  subst er; subst eg; subst eq
  refine lv_ldc2 (v := lI (-9000000000000000001)) hx hb hown (hts _ (u_in uk_2_181)) dL_thingsHold_11 ?_
  refine W.lcmp hx hb dL_thingsHold_14 ?_
  refine lv_if_ne (tgt := 22) hx hb dL_thingsHold_15 (by decide) (fun c9 => absurd (c_eq (a := (-9000000000000000001)) (b := (-9000000000000000001)) (by omega)) c9) (fun _ => ?_)
  refine lv_iconst (v := 1) hx hb dL_thingsHold_18 (by decide) ?_
  refine lv_goto (tgt := 23) hx hb dL_thingsHold_19 (by decide) ?_
  refine lv_istore (lv' := [(6, .int 1), (4, .long (lI (720))), (0, .ref (ad 60)), (1, .ref (ad 90)), (2, .int (nI nT)), (3, .int (nI nK))]) hx hb dL_thingsHold_23 hl (by decide) rfl (fun ls hl => ?_)
  refine lv_iconst (v := 0) hx hb dL_thingsHold_25 (by decide) ?_
  refine lv_istore (lv' := [(7, .int 0), (6, .int 1), (4, .long (lI (720))), (0, .ref (ad 60)), (1, .ref (ad 90)), (2, .int (nI nT)), (3, .int (nI nK))]) hx hb dL_thingsHold_26 hl (by decide) rfl (fun ls hl => ?_)
  have hL2 : ∀ (f k : Nat), k + f = 12 → ∀ (H : Heap) (locs : List Loc) (ls : Array Slot), Sy Z nT nK cT cK ad g q H → va_S (sy_A Z) s.heap H locs → lv_has ls 11 [(7, .int (nI k)), (6, .int 1), (4, .long (lI (720 - isum (wOn g) nT - isum (fun p => (fX6_roomAtN g q (nI p)).toInt) k))), (0, .ref (ad 60)), (1, .ref (ad 90)), (2, .int (nI nT)), (3, .int (nI nK))] → W p l e ({ frames := 10, cells := 670, slots := 4000, locals := 169 } : Room) s m ([.ref (ad 60), .ref (ad 90), .int (nI nT), .int (nI nK)] : List Value).toArray below meth c H locs (642 + 2 * k) (3852 + 12 * k) (MQ below (sQi Z nT nK cT cK ad (fun r g1 q1 => r = 1 ∧ g1 = g ∧ q1 = q)) ([.ref (ad 60), .ref (ad 90), .int (nI nT), .int (nI nK)] : List Value).toArray s 670 4000 (sy_A Z)) (F0 m 202 ls []) := by
    intro f
    induction f with
    | zero =>
      intro k hkf H locs ls hP hS hl
      have h12 : k = 12 := by omega
      have hsum := room_12 hI
      refine lv_iload hx hb dL_thingsHold_202 (lv_at hl 0 rfl) ?_
      refine lv_bipush (v := 12) hx hb dL_thingsHold_204 (by decide) ?_
      refine lv_icmp_ge (tgt := 237) hx hb dL_thingsHold_206 (by decide) (fun _ => ?_) (fun c9 => absurd ((nI_leI (a := 12) (b := k) (by omega) (by omega)).mpr (by omega)) c9)
      have hz : 720 - isum (wOn g) nT - isum (fun p => (fX6_roomAtN g q (nI p)).toInt) k = 0 := by rw [h12, hsum]; omega
      refine lv_iload hx hb dL_thingsHold_237 (lv_at hl 1 rfl) ?_
      refine lv_if_eq (tgt := 253) hx hb dL_thingsHold_239 (by decide) (fun c9 => absurd c9 (by decide)) (fun _ => ?_)
      refine lv_lload hx hb dL_thingsHold_242 (lv_at hl 2 rfl) ?_
      refine lv_lconst (v := lI 0) hx hb dL_thingsHold_244 rfl ?_
      refine W.lcmp hx hb dL_thingsHold_245 ?_
      refine lv_if_ne (tgt := 253) hx hb dL_thingsHold_246 (by decide) (fun c9 => absurd (c_eq (a := (720 - isum (wOn g) nT - isum (fun p => (fX6_roomAtN g q (nI p)).toInt) k)) (b := 0) (hz)) c9) (fun _ => ?_)
      refine lv_iconst (v := 1) hx hb dL_thingsHold_249 (by decide) ?_
      refine lv_goto (tgt := 254) hx hb dL_thingsHold_250 (by decide) ?_
      exact sy_iretz hx hb hr hlocks hE hP hS dL_thingsHold_254 ⟨by (try dsimp only); omega, by (try dsimp only); omega⟩ (by decide) ⟨rfl, rfl, rfl⟩
    | succ f ih =>
      intro k hkf H locs ls hP hS hl
      have hk12 : k < 12 := by omega
      refine lv_iload hx hb dL_thingsHold_202 (lv_at hl 0 rfl) ?_
      refine lv_bipush (v := 12) hx hb dL_thingsHold_204 (by decide) ?_
      refine lv_icmp_ge (tgt := 237) hx hb dL_thingsHold_206 (by decide) (fun c9 => absurd c9 (mt (nI_leI (a := 12) (b := k) (by omega) (by omega)).mp (by omega))) (fun _ => ?_)
      refine lv_iload hx hb dL_thingsHold_209 (lv_at hl 1 rfl) ?_
      refine lv_if_eq (tgt := 237) hx hb dL_thingsHold_211 (by decide) (fun c9 => absurd c9 (by decide)) (fun _ => ?_)
      refine lv_lload hx hb dL_thingsHold_214 (lv_at hl 2 rfl) ?_
      refine lv_aload_n hx hb dL_thingsHold_216 rfl (lv_at hl 3 rfl) ?_
      refine lv_iload hx hb dL_thingsHold_217 (lv_at hl 0 rfl) ?_
      refine lv_iconst (v := 4) hx hb dL_thingsHold_219 (by decide) ?_
      refine lv_idiv hx hb dL_thingsHold_220 (by decide) ?_
      refine sy_top (y := nI (k / 4)) (nI_div (a := k) (b := 4) (by omega) (by omega)) ?_
      refine lv_iload hx hb dL_thingsHold_221 (lv_at hl 0 rfl) ?_
      refine lv_iconst (v := 4) hx hb dL_thingsHold_223 (by decide) ?_
      refine lv_irem hx hb dL_thingsHold_224 (by decide) ?_
      refine sy_top (y := nI (k % 4)) (nI_rem (a := k) (b := 4) (by omega) (by omega)) ?_
      refine sy_kl (vx_runSW (As := [.ref (ad 60), .int (nI (k / 4)), .int (nI (k % 4))]) (rest := [.long (lI (720 - isum (wOn g) nT - isum (fun p => (fX6_roomAtN g q (nI p)).toInt) k))]) ⟨hx, hb, hml, hown, hts⟩ (mL_bears l hfl Z nT nK cT cK ad g q (nI (k / 4)) (nI (k % 4)) hI) (vx_cwSW 3 hts (gu_S uk_4_100 uk_4_101 uk_1_0 uk_4_102) rfl rfl rfl (by decide +kernel) ⟨Nat.le_of_ble_eq_true rfl, Nat.le_of_ble_eq_true rfl⟩) ⟨sPreL_blind _, fun U hU hW => ⟨rfl, ⟨hE.next hS hU hW.alike, by rw [hU]; exact hP⟩, hNc.next hW.alike⟩⟩ rfl rfl hl.1 rfl (lv_room (Nat.le_of_ble_eq_true rfl)) dL_thingsHold_225 ⟨by show _ ≤ 670; (try dsimp only); omega, by show _ ≤ 4000; (try dsimp only); omega⟩) hS (fun r g1 q1 H locs e9 hP hS => ?_)
      obtain ⟨er, eg, eq⟩ := eq_q (z := (fX6_roomAtN g q (nI k)).toInt) (a_B (g := g) (q := q) (b := k / 4) (s := k % 4) (by omega) (by omega)) (by rw [show 4 * (k / 4) + k % 4 = k by omega]) e9
      subst er; subst eg; subst eq
      refine lv_lsub hx hb dL_thingsHold_228 ?_
      refine sy_topL (y := lI ((720 - isum (wOn g) nT - isum (fun p => (fX6_roomAtN g q (nI p)).toInt) k) - (fX6_roomAtN g q (nI k)).toInt)) (lI_sub _ _) ?_
      refine lv_lstore (lv' := [(4, .long (lI ((720 - isum (wOn g) nT - isum (fun p => (fX6_roomAtN g q (nI p)).toInt) k) - (fX6_roomAtN g q (nI k)).toInt))), (7, .int (nI k)), (6, .int 1), (0, .ref (ad 60)), (1, .ref (ad 90)), (2, .int (nI nT)), (3, .int (nI nK))]) hx hb dL_thingsHold_229 hl (by decide) rfl (fun ls hl => ?_)
      refine lv_iinc (v := nI (k + 1)) (lv' := [(7, .int (nI (k + 1))), (4, .long (lI ((720 - isum (wOn g) nT - isum (fun p => (fX6_roomAtN g q (nI p)).toInt) k) - (fX6_roomAtN g q (nI k)).toInt))), (6, .int 1), (0, .ref (ad 60)), (1, .ref (ad 90)), (2, .int (nI nT)), (3, .int (nI nK))]) hx hb dL_thingsHold_231 hl (k := 1) rfl (nI_add k 1) (by decide) rfl (fun ls hl => ?_)
      refine lv_goto (tgt := 202) hx hb dL_thingsHold_234 (by decide) ?_
      have hF : 720 - isum (wOn g) nT - isum (fun p => (fX6_roomAtN g q (nI p)).toInt) k - (fX6_roomAtN g q (nI k)).toInt = 720 - isum (wOn g) nT - isum (fun p => (fX6_roomAtN g q (nI p)).toInt) (k + 1) := by show _ = 720 - isum (wOn g) nT - (isum (fun p => (fX6_roomAtN g q (nI p)).toInt) k + (fX6_roomAtN g q (nI k)).toInt); omega
      refine W.widen (k := 642 + 2 * (k + 1)) (n := 3852 + 12 * (k + 1)) (by (try dsimp only); omega) (by (try dsimp only); omega) ?_
      exact ih (k + 1) (by omega) H locs ls hP hS (by have h9 := lv_sub hl [0, 2, 1, 3, 4, 5, 6] rfl; rw [hF] at h9; exact h9)
  have hL1 : ∀ (f k : Nat), k + f = nT → ∀ (H : Heap) (locs : List Loc) (ls : Array Slot), Sy Z nT nK cT cK ad g q H → va_S (sy_A Z) s.heap H locs → lv_has ls 11 [(7, .int (nI k)), (6, .int 1), (4, .long (lI (720 - isum (wOn g) k))), (0, .ref (ad 60)), (1, .ref (ad 90)), (2, .int (nI nT)), (3, .int (nI nK))] → W p l e ({ frames := 10, cells := 670, slots := 4000, locals := 169 } : Room) s m ([.ref (ad 60), .ref (ad 90), .int (nI nT), .int (nI nK)] : List Value).toArray below meth c H locs (2 + 16 * k) (12 + 96 * k) (MQ below (sQi Z nT nK cT cK ad (fun r g1 q1 => r = 1 ∧ g1 = g ∧ q1 = q)) ([.ref (ad 60), .ref (ad 90), .int (nI nT), .int (nI nK)] : List Value).toArray s 670 4000 (sy_A Z)) (F0 m 28 ls []) := by
    intro f
    induction f with
    | zero =>
      intro k hkf H locs ls hP hS hl
      have hkn : k = nT := by omega
      refine lv_iload hx hb dL_thingsHold_28 (lv_at hl 0 rfl) ?_
      refine lv_iload_n hx hb dL_thingsHold_30 rfl (lv_at hl 5 rfl) ?_
      refine lv_icmp_ge (tgt := 199) hx hb dL_thingsHold_31 (by decide) (fun _ => ?_) (fun c9 => absurd ((nI_leI (a := nT) (b := k) (by omega) (by omega)).mpr (by omega)) c9)
      refine lv_iconst (v := 0) hx hb dL_thingsHold_199 (by decide) ?_
      refine lv_istore (lv' := [(7, .int 0), (6, .int 1), (4, .long (lI (720 - isum (wOn g) k))), (0, .ref (ad 60)), (1, .ref (ad 90)), (2, .int (nI nT)), (3, .int (nI nK))]) hx hb dL_thingsHold_200 hl (by decide) rfl (fun ls hl => ?_)
      refine W.widen (k := 642 + 2 * 0) (n := 3852 + 12 * 0) (by (try dsimp only); omega) (by (try dsimp only); omega) ?_
      exact hL2 12 0 (by omega) H locs ls hP hS (by have h9 := lv_sub hl [0, 1, 2, 3, 4, 5, 6] rfl; rw [hkn, show (720 - isum (wOn g) nT : Int) = 720 - isum (wOn g) nT - isum (fun p => (fX6_roomAtN g q (nI p)).toInt) 0 from (Int.sub_zero _).symm] at h9; exact h9)
    | succ f ih =>
      intro k hkf H locs ls hP hS hl
      have hk : k < nT := by omega
      obtain ⟨hnum, hkind, hwt, hwb, hwr⟩ := hI.2.2.2.1 k hk
      have hbk := wOn_bd hI.2.2.2.1 k (by omega)
      rcases hI.2.2.2.2.2.2.1.1 k hk with ⟨h5, h11, h77⟩ | ⟨h5, h11, h77, h88⟩
      · skip
        have hot : fX3_openTicketNumber g q k = -1 := by unfold fX3_openTicketNumber; rw [if_pos h11]
        refine lv_iload hx hb dL_thingsHold_28 (lv_at hl 0 rfl) ?_
        refine lv_iload_n hx hb dL_thingsHold_30 rfl (lv_at hl 5 rfl) ?_
        refine lv_icmp_ge (tgt := 199) hx hb dL_thingsHold_31 (by decide) (fun c9 => absurd c9 (mt (nI_leI (a := nT) (b := k) (by omega) (by omega)).mp (by omega))) (fun _ => ?_)
        refine lv_iload hx hb dL_thingsHold_34 (lv_at hl 1 rfl) ?_
        refine lv_if_eq (tgt := 199) hx hb dL_thingsHold_36 (by decide) (fun c9 => absurd c9 (by decide)) (fun _ => ?_)
        refine lv_aload_n hx hb dL_thingsHold_39 rfl (lv_at hl 3 rfl) ?_
        refine lv_iload hx hb dL_thingsHold_40 (lv_at hl 0 rfl) ?_
        refine lv_iconst (v := 5) hx hb dL_thingsHold_42 (by decide) ?_
        refine sy_kl (vx_runSW (As := [.ref (ad 60), .int (nI k), .int 5]) (rest := []) ⟨hx, hb, hml, hown, hts⟩ (mL_thingOf l hfl Z nT nK cT cK ad g q (nI k) 5 hI) (vx_cwSW 3 hts (gu_S uk_4_46 uk_4_47 uk_1_0 uk_4_48) rfl rfl rfl (by decide +kernel) ⟨Nat.le_of_ble_eq_true rfl, Nat.le_of_ble_eq_true rfl⟩) ⟨sPreL_blind _, fun U hU hW => ⟨rfl, ⟨hE.next hS hU hW.alike, by rw [hU]; exact hP⟩, hNc.next hW.alike⟩⟩ rfl rfl hl.1 rfl (lv_room (Nat.le_of_ble_eq_true rfl)) dL_thingsHold_43 ⟨by show _ ≤ 670; (try dsimp only); omega, by show _ ≤ 4000; (try dsimp only); omega⟩) hS (fun r g1 q1 H locs e9 hP hS => ?_)
        obtain ⟨er, eg, eq⟩ := eq_q (z := (-1)) (a_T hI hk).2.2.2.1 (by rw [hot]; rfl) e9
        subst er; subst eg; subst eq
        refine lv_lstore (lv' := [(8, .long (lI (-1))), (7, .int (nI k)), (6, .int 1), (4, .long (lI (720 - isum (wOn g) k))), (0, .ref (ad 60)), (1, .ref (ad 90)), (2, .int (nI nT)), (3, .int (nI nK))]) hx hb dL_thingsHold_46 hl (by decide) rfl (fun ls hl => ?_)
        refine lv_aload_n hx hb dL_thingsHold_48 rfl (lv_at hl 4 rfl) ?_
        refine lv_iload hx hb dL_thingsHold_49 (lv_at hl 1 rfl) ?_
        refine lv_iconst (v := 3) hx hb dL_thingsHold_51 (by decide) ?_
        refine sy_kl (vx_runSW (As := [.ref (ad 60), .int (nI k), .int 3]) (rest := []) ⟨hx, hb, hml, hown, hts⟩ (mL_thingOf l hfl Z nT nK cT cK ad g q (nI k) 3 hI) (vx_cwSW 3 hts (gu_S uk_4_46 uk_4_47 uk_1_0 uk_4_48) rfl rfl rfl (by decide +kernel) ⟨Nat.le_of_ble_eq_true rfl, Nat.le_of_ble_eq_true rfl⟩) ⟨sPreL_blind _, fun U hU hW => ⟨rfl, ⟨hE.next hS hU hW.alike, by rw [hU]; exact hP⟩, hNc.next hW.alike⟩⟩ rfl rfl hl.1 rfl (lv_room (Nat.le_of_ble_eq_true rfl)) dL_thingsHold_52 ⟨by show _ ≤ 670; (try dsimp only); omega, by show _ ≤ 4000; (try dsimp only); omega⟩) hS (fun r g1 q1 H locs e9 hP hS => ?_)
        obtain ⟨er, eg, eq⟩ := eq_q (z := 0) (a_T hI hk).2.1 (by rw [if_pos h5]; rfl) e9
        subst er; subst eg; subst eq
        refine lv_lconst (v := lI 1) hx hb dL_thingsHold_55 rfl ?_
        refine W.lcmp hx hb dL_thingsHold_56 ?_
        refine lv_if_ne (tgt := 64) hx hb dL_thingsHold_57 (by decide) (fun _ => ?_) (fun c9 => absurd c9 (c_ne (a := 0) (b := 1) (by omega) (by omega) (by omega)))
        refine lv_iconst (v := 0) hx hb dL_thingsHold_64 (by decide) ?_
        refine lv_istore (lv' := [(10, .int 0), (8, .long (lI (-1))), (7, .int (nI k)), (6, .int 1), (4, .long (lI (720 - isum (wOn g) k))), (0, .ref (ad 60)), (1, .ref (ad 90)), (2, .int (nI nT)), (3, .int (nI nK))]) hx hb dL_thingsHold_65 hl (by decide) rfl (fun ls hl => ?_)
        refine lv_lload hx hb dL_thingsHold_67 (lv_at hl 4 rfl) ?_
        refine lv_iload hx hb dL_thingsHold_69 (lv_at hl 0 rfl) ?_
        refine lv_if_eq (tgt := 82) hx hb dL_thingsHold_71 (by decide) (fun _ => ?_) (fun c9 => absurd c9 (by decide))
        refine lv_lconst (v := lI 0) hx hb dL_thingsHold_82 rfl ?_
        refine lv_lsub hx hb dL_thingsHold_83 ?_
        refine sy_topL (y := lI ((720 - isum (wOn g) k) - 0)) (lI_sub _ _) ?_
        refine lv_lstore (lv' := [(4, .long (lI ((720 - isum (wOn g) k) - 0))), (10, .int 0), (8, .long (lI (-1))), (7, .int (nI k)), (6, .int 1), (0, .ref (ad 60)), (1, .ref (ad 90)), (2, .int (nI nT)), (3, .int (nI nK))]) hx hb dL_thingsHold_84 hl (by decide) rfl (fun ls hl => ?_)
        refine lv_iload hx hb dL_thingsHold_86 (lv_at hl 1 rfl) ?_
        refine lv_lload hx hb dL_thingsHold_88 (lv_at hl 2 rfl) ?_
        refine lv_lconst (v := lI 0) hx hb dL_thingsHold_90 rfl ?_
        refine W.lcmp hx hb dL_thingsHold_91 ?_
        refine lv_if_lt (tgt := 99) hx hb dL_thingsHold_92 (by decide) (fun _ => ?_) (fun c9 => absurd (by rw [(c_lt (a := (-1)) (b := 0) (by omega) (by omega) (by omega))]; decide) c9)
        refine lv_iconst (v := 0) hx hb dL_thingsHold_99 (by decide) ?_
        refine lv_icmp_ne (tgt := 190) hx hb dL_thingsHold_100 (by decide) (fun c9 => absurd c9 (by decide)) (fun _ => ?_)
        refine lv_aload_n hx hb dL_thingsHold_103 rfl (lv_at hl 5 rfl) ?_
        refine lv_iload hx hb dL_thingsHold_104 (lv_at hl 3 rfl) ?_
        refine lv_iconst (v := 4) hx hb dL_thingsHold_106 (by decide) ?_
        refine sy_kl (vx_runSW (As := [.ref (ad 60), .int (nI k), .int 4]) (rest := []) ⟨hx, hb, hml, hown, hts⟩ (mL_thingOf l hfl Z nT nK cT cK ad g q (nI k) 4 hI) (vx_cwSW 3 hts (gu_S uk_4_46 uk_4_47 uk_1_0 uk_4_48) rfl rfl rfl (by decide +kernel) ⟨Nat.le_of_ble_eq_true rfl, Nat.le_of_ble_eq_true rfl⟩) ⟨sPreL_blind _, fun U hU hW => ⟨rfl, ⟨hE.next hS hU hW.alike, by rw [hU]; exact hP⟩, hNc.next hW.alike⟩⟩ rfl rfl hl.1 rfl (lv_room (Nat.le_of_ble_eq_true rfl)) dL_thingsHold_107 ⟨by show _ ≤ 670; (try dsimp only); omega, by show _ ≤ 4000; (try dsimp only); omega⟩) hS (fun r g1 q1 H locs e9 hP hS => ?_)
        obtain ⟨er, eg, eq⟩ := eq_q (z := (-1)) (a_T hI hk).2.2.1 (by rw [h77]; rfl) e9
        subst er; subst eg; subst eq
        refine lv_lconst (v := lI 0) hx hb dL_thingsHold_110 rfl ?_
        refine W.lcmp hx hb dL_thingsHold_111 ?_
        refine lv_if_lt (tgt := 119) hx hb dL_thingsHold_112 (by decide) (fun _ => ?_) (fun c9 => absurd (by rw [(c_lt (a := (-1)) (b := 0) (by omega) (by omega) (by omega))]; decide) c9)
        refine lv_iconst (v := 0) hx hb dL_thingsHold_119 (by decide) ?_
        refine lv_iload hx hb dL_thingsHold_120 (lv_at hl 1 rfl) ?_
        refine lv_icmp_ne (tgt := 190) hx hb dL_thingsHold_122 (by decide) (fun c9 => absurd c9 (by decide)) (fun _ => ?_)
        refine lv_aload_n hx hb dL_thingsHold_125 rfl (lv_at hl 5 rfl) ?_
        refine lv_iload hx hb dL_thingsHold_126 (lv_at hl 3 rfl) ?_
        refine lv_iconst (v := 2) hx hb dL_thingsHold_128 (by decide) ?_
        refine sy_kl (vx_runSW (As := [.ref (ad 60), .int (nI k), .int 2]) (rest := []) ⟨hx, hb, hml, hown, hts⟩ (mL_thingOf l hfl Z nT nK cT cK ad g q (nI k) 2 hI) (vx_cwSW 3 hts (gu_S uk_4_46 uk_4_47 uk_1_0 uk_4_48) rfl rfl rfl (by decide +kernel) ⟨Nat.le_of_ble_eq_true rfl, Nat.le_of_ble_eq_true rfl⟩) ⟨sPreL_blind _, fun U hU hW => ⟨rfl, ⟨hE.next hS hU hW.alike, by rw [hU]; exact hP⟩, hNc.next hW.alike⟩⟩ rfl rfl hl.1 rfl (lv_room (Nat.le_of_ble_eq_true rfl)) dL_thingsHold_129 ⟨by show _ ≤ 670; (try dsimp only); omega, by show _ ≤ 4000; (try dsimp only); omega⟩) hS (fun r g1 q1 H locs e9 hP hS => ?_)
        obtain ⟨er, eg, eq⟩ := eq_q (z := (g (100 + k) 4).toInt) (a_T hI hk).1 rfl e9
        subst er; subst eg; subst eq
        refine lv_lconst (v := lI 0) hx hb dL_thingsHold_132 rfl ?_
        refine W.lcmp hx hb dL_thingsHold_133 ?_
        refine lv_if_lt (tgt := 190) hx hb dL_thingsHold_134 (by decide) (fun c9 => absurd c9 (c_ge (a := (g (100 + k) 4).toInt) (b := 0) (by omega) (by omega) (by omega))) (fun _ => ?_)
        refine lv_aload_n hx hb dL_thingsHold_137 rfl (lv_at hl 5 rfl) ?_
        refine lv_iload hx hb dL_thingsHold_138 (lv_at hl 3 rfl) ?_
        refine lv_iconst (v := 2) hx hb dL_thingsHold_140 (by decide) ?_
        refine sy_kl (vx_runSW (As := [.ref (ad 60), .int (nI k), .int 2]) (rest := []) ⟨hx, hb, hml, hown, hts⟩ (mL_thingOf l hfl Z nT nK cT cK ad g q (nI k) 2 hI) (vx_cwSW 3 hts (gu_S uk_4_46 uk_4_47 uk_1_0 uk_4_48) rfl rfl rfl (by decide +kernel) ⟨Nat.le_of_ble_eq_true rfl, Nat.le_of_ble_eq_true rfl⟩) ⟨sPreL_blind _, fun U hU hW => ⟨rfl, ⟨hE.next hS hU hW.alike, by rw [hU]; exact hP⟩, hNc.next hW.alike⟩⟩ rfl rfl hl.1 rfl (lv_room (Nat.le_of_ble_eq_true rfl)) dL_thingsHold_141 ⟨by show _ ≤ 670; (try dsimp only); omega, by show _ ≤ 4000; (try dsimp only); omega⟩) hS (fun r g1 q1 H locs e9 hP hS => ?_)
        obtain ⟨er, eg, eq⟩ := eq_q (z := (g (100 + k) 4).toInt) (a_T hI hk).1 rfl e9
        subst er; subst eg; subst eq
        refine lv_ldc2 (v := lI (10)) hx hb hown (hts _ (u_in uk_4_99)) dL_thingsHold_144 ?_
        refine W.lcmp hx hb dL_thingsHold_147 ?_
        refine lv_if_gt (tgt := 190) hx hb dL_thingsHold_148 (by decide) (fun c9 => absurd c9 (c_le (a := (g (100 + k) 4).toInt) (b := (10)) (by omega) (by omega) (by omega))) (fun _ => ?_)
        refine lv_lload hx hb dL_thingsHold_151 (lv_at hl 2 rfl) ?_
        refine lv_lconst (v := lI 0) hx hb dL_thingsHold_153 rfl ?_
        refine W.lcmp hx hb dL_thingsHold_154 ?_
        refine lv_if_lt (tgt := 186) hx hb dL_thingsHold_155 (by decide) (fun _ => ?_) (fun c9 => absurd (by rw [(c_lt (a := (-1)) (b := 0) (by omega) (by omega) (by omega))]; decide) c9)
        refine lv_iconst (v := 1) hx hb dL_thingsHold_186 (by decide) ?_
        refine lv_goto (tgt := 191) hx hb dL_thingsHold_187 (by decide) ?_
        refine lv_istore (lv' := [(6, .int 1), (4, .long (lI ((720 - isum (wOn g) k) - 0))), (10, .int 0), (8, .long (lI (-1))), (7, .int (nI k)), (0, .ref (ad 60)), (1, .ref (ad 90)), (2, .int (nI nT)), (3, .int (nI nK))]) hx hb dL_thingsHold_191 hl (by decide) rfl (fun ls hl => ?_)
        refine lv_iinc (v := nI (k + 1)) (lv' := [(7, .int (nI (k + 1))), (6, .int 1), (4, .long (lI ((720 - isum (wOn g) k) - 0))), (10, .int 0), (8, .long (lI (-1))), (0, .ref (ad 60)), (1, .ref (ad 90)), (2, .int (nI nT)), (3, .int (nI nK))]) hx hb dL_thingsHold_193 hl (k := 4) rfl (nI_add k 1) (by decide) rfl (fun ls hl => ?_)
        refine lv_goto (tgt := 28) hx hb dL_thingsHold_196 (by decide) ?_
        have hF : 720 - isum (wOn g) k - 0 = 720 - isum (wOn g) (k + 1) := by
          show _ = 720 - (isum (wOn g) k + wOn g k)
          have hw9 : wOn g k = 0 := by unfold wOn; rw [if_pos h5]
          omega
        refine W.widen (k := 2 + 16 * (k + 1)) (n := 12 + 96 * (k + 1)) (by (try dsimp only); omega) (by (try dsimp only); omega) ?_
        exact ih (k + 1) (by omega) H locs ls hP hS (by have h9 := lv_sub hl [0, 1, 2, 5, 6, 7, 8] rfl; rw [hF] at h9; exact h9)
      · skip
        obtain ⟨j, hj, hot, h7, htg⟩ : ∃ j, j < nK ∧ fX3_openTicketNumber g q k = nI j ∧ g (200 + j) 7 = 0 ∧ tg q j = k := by
          rcases otn hI hk with ⟨z, -⟩ | ⟨-, j, h1, -, h2, h3, h4, -⟩
          · rw [h5] at z; cases z
          · exact ⟨j, h1, h2, h3, h4⟩
        obtain ⟨pb, hpb, ebk⟩ := vp_nI (by decide) h77
        refine lv_iload hx hb dL_thingsHold_28 (lv_at hl 0 rfl) ?_
        refine lv_iload_n hx hb dL_thingsHold_30 rfl (lv_at hl 5 rfl) ?_
        refine lv_icmp_ge (tgt := 199) hx hb dL_thingsHold_31 (by decide) (fun c9 => absurd c9 (mt (nI_leI (a := nT) (b := k) (by omega) (by omega)).mp (by omega))) (fun _ => ?_)
        refine lv_iload hx hb dL_thingsHold_34 (lv_at hl 1 rfl) ?_
        refine lv_if_eq (tgt := 199) hx hb dL_thingsHold_36 (by decide) (fun c9 => absurd c9 (by decide)) (fun _ => ?_)
        refine lv_aload_n hx hb dL_thingsHold_39 rfl (lv_at hl 3 rfl) ?_
        refine lv_iload hx hb dL_thingsHold_40 (lv_at hl 0 rfl) ?_
        refine lv_iconst (v := 5) hx hb dL_thingsHold_42 (by decide) ?_
        refine sy_kl (vx_runSW (As := [.ref (ad 60), .int (nI k), .int 5]) (rest := []) ⟨hx, hb, hml, hown, hts⟩ (mL_thingOf l hfl Z nT nK cT cK ad g q (nI k) 5 hI) (vx_cwSW 3 hts (gu_S uk_4_46 uk_4_47 uk_1_0 uk_4_48) rfl rfl rfl (by decide +kernel) ⟨Nat.le_of_ble_eq_true rfl, Nat.le_of_ble_eq_true rfl⟩) ⟨sPreL_blind _, fun U hU hW => ⟨rfl, ⟨hE.next hS hU hW.alike, by rw [hU]; exact hP⟩, hNc.next hW.alike⟩⟩ rfl rfl hl.1 rfl (lv_room (Nat.le_of_ble_eq_true rfl)) dL_thingsHold_43 ⟨by show _ ≤ 670; (try dsimp only); omega, by show _ ≤ 4000; (try dsimp only); omega⟩) hS (fun r g1 q1 H locs e9 hP hS => ?_)
        obtain ⟨er, eg, eq⟩ := eq_q (z := ((j : Nat) : Int)) (a_T hI hk).2.2.2.1 (by rw [hot]; exact nI_toInt (by omega)) e9
        subst er; subst eg; subst eq
        refine lv_lstore (lv' := [(8, .long (lI ((j : Nat) : Int))), (7, .int (nI k)), (6, .int 1), (4, .long (lI (720 - isum (wOn g) k))), (0, .ref (ad 60)), (1, .ref (ad 90)), (2, .int (nI nT)), (3, .int (nI nK))]) hx hb dL_thingsHold_46 hl (by decide) rfl (fun ls hl => ?_)
        refine lv_aload_n hx hb dL_thingsHold_48 rfl (lv_at hl 4 rfl) ?_
        refine lv_iload hx hb dL_thingsHold_49 (lv_at hl 1 rfl) ?_
        refine lv_iconst (v := 3) hx hb dL_thingsHold_51 (by decide) ?_
        refine sy_kl (vx_runSW (As := [.ref (ad 60), .int (nI k), .int 3]) (rest := []) ⟨hx, hb, hml, hown, hts⟩ (mL_thingOf l hfl Z nT nK cT cK ad g q (nI k) 3 hI) (vx_cwSW 3 hts (gu_S uk_4_46 uk_4_47 uk_1_0 uk_4_48) rfl rfl rfl (by decide +kernel) ⟨Nat.le_of_ble_eq_true rfl, Nat.le_of_ble_eq_true rfl⟩) ⟨sPreL_blind _, fun U hU hW => ⟨rfl, ⟨hE.next hS hU hW.alike, by rw [hU]; exact hP⟩, hNc.next hW.alike⟩⟩ rfl rfl hl.1 rfl (lv_room (Nat.le_of_ble_eq_true rfl)) dL_thingsHold_52 ⟨by show _ ≤ 670; (try dsimp only); omega, by show _ ≤ 4000; (try dsimp only); omega⟩) hS (fun r g1 q1 H locs e9 hP hS => ?_)
        obtain ⟨er, eg, eq⟩ := eq_q (z := 1) (a_T hI hk).2.1 (by rw [if_neg (by rw [h5]; decide)]; rfl) e9
        subst er; subst eg; subst eq
        refine lv_lconst (v := lI 1) hx hb dL_thingsHold_55 rfl ?_
        refine W.lcmp hx hb dL_thingsHold_56 ?_
        refine lv_if_ne (tgt := 64) hx hb dL_thingsHold_57 (by decide) (fun c9 => absurd (c_eq (a := 1) (b := 1) (by omega)) c9) (fun _ => ?_)
        refine lv_iconst (v := 1) hx hb dL_thingsHold_60 (by decide) ?_
        refine lv_goto (tgt := 65) hx hb dL_thingsHold_61 (by decide) ?_
        refine lv_istore (lv' := [(10, .int 1), (8, .long (lI ((j : Nat) : Int))), (7, .int (nI k)), (6, .int 1), (4, .long (lI (720 - isum (wOn g) k))), (0, .ref (ad 60)), (1, .ref (ad 90)), (2, .int (nI nT)), (3, .int (nI nK))]) hx hb dL_thingsHold_65 hl (by decide) rfl (fun ls hl => ?_)
        refine lv_lload hx hb dL_thingsHold_67 (lv_at hl 4 rfl) ?_
        refine lv_iload hx hb dL_thingsHold_69 (lv_at hl 0 rfl) ?_
        refine lv_if_eq (tgt := 82) hx hb dL_thingsHold_71 (by decide) (fun c9 => absurd c9 (by decide)) (fun _ => ?_)
        refine lv_aload_n hx hb dL_thingsHold_74 rfl (lv_at hl 6 rfl) ?_
        refine lv_iload hx hb dL_thingsHold_75 (lv_at hl 2 rfl) ?_
        refine sy_ialdN hx hb hE hP 90 rfl (i := nI k) (show vp_in (nI k) 40 from vp_in_nI (by omega) (by decide)) k (nI_clamp (by omega)) (v := g (100 + k) 2) hwt.symm dL_thingsHold_77 ?_
        refine lv_i2l (v := lI (g (100 + k) 2).toInt) hx hb dL_thingsHold_78 (i_L _) ?_
        refine lv_goto (tgt := 83) hx hb dL_thingsHold_79 (by decide) ?_
        refine lv_lsub hx hb dL_thingsHold_83 ?_
        refine sy_topL (y := lI ((720 - isum (wOn g) k) - (g (100 + k) 2).toInt)) (lI_sub _ _) ?_
        refine lv_lstore (lv' := [(4, .long (lI ((720 - isum (wOn g) k) - (g (100 + k) 2).toInt))), (10, .int 1), (8, .long (lI ((j : Nat) : Int))), (7, .int (nI k)), (6, .int 1), (0, .ref (ad 60)), (1, .ref (ad 90)), (2, .int (nI nT)), (3, .int (nI nK))]) hx hb dL_thingsHold_84 hl (by decide) rfl (fun ls hl => ?_)
        refine lv_iload hx hb dL_thingsHold_86 (lv_at hl 1 rfl) ?_
        refine lv_lload hx hb dL_thingsHold_88 (lv_at hl 2 rfl) ?_
        refine lv_lconst (v := lI 0) hx hb dL_thingsHold_90 rfl ?_
        refine W.lcmp hx hb dL_thingsHold_91 ?_
        refine lv_if_lt (tgt := 99) hx hb dL_thingsHold_92 (by decide) (fun c9 => absurd c9 (c_ge (a := ((j : Nat) : Int)) (b := 0) (by omega) (by omega) (by omega))) (fun _ => ?_)
        refine lv_iconst (v := 1) hx hb dL_thingsHold_95 (by decide) ?_
        refine lv_goto (tgt := 100) hx hb dL_thingsHold_96 (by decide) ?_
        refine lv_icmp_ne (tgt := 190) hx hb dL_thingsHold_100 (by decide) (fun c9 => absurd c9 (by decide)) (fun _ => ?_)
        refine lv_aload_n hx hb dL_thingsHold_103 rfl (lv_at hl 5 rfl) ?_
        refine lv_iload hx hb dL_thingsHold_104 (lv_at hl 3 rfl) ?_
        refine lv_iconst (v := 4) hx hb dL_thingsHold_106 (by decide) ?_
        refine sy_kl (vx_runSW (As := [.ref (ad 60), .int (nI k), .int 4]) (rest := []) ⟨hx, hb, hml, hown, hts⟩ (mL_thingOf l hfl Z nT nK cT cK ad g q (nI k) 4 hI) (vx_cwSW 3 hts (gu_S uk_4_46 uk_4_47 uk_1_0 uk_4_48) rfl rfl rfl (by decide +kernel) ⟨Nat.le_of_ble_eq_true rfl, Nat.le_of_ble_eq_true rfl⟩) ⟨sPreL_blind _, fun U hU hW => ⟨rfl, ⟨hE.next hS hU hW.alike, by rw [hU]; exact hP⟩, hNc.next hW.alike⟩⟩ rfl rfl hl.1 rfl (lv_room (Nat.le_of_ble_eq_true rfl)) dL_thingsHold_107 ⟨by show _ ≤ 670; (try dsimp only); omega, by show _ ≤ 4000; (try dsimp only); omega⟩) hS (fun r g1 q1 H locs e9 hP hS => ?_)
        obtain ⟨er, eg, eq⟩ := eq_q (z := ((pb : Nat) : Int)) (a_T hI hk).2.2.1 (by rw [ebk]; exact nI_toInt (by omega)) e9
        subst er; subst eg; subst eq
        refine lv_lconst (v := lI 0) hx hb dL_thingsHold_110 rfl ?_
        refine W.lcmp hx hb dL_thingsHold_111 ?_
        refine lv_if_lt (tgt := 119) hx hb dL_thingsHold_112 (by decide) (fun c9 => absurd c9 (c_ge (a := ((pb : Nat) : Int)) (b := 0) (by omega) (by omega) (by omega))) (fun _ => ?_)
        refine lv_iconst (v := 1) hx hb dL_thingsHold_115 (by decide) ?_
        refine lv_goto (tgt := 120) hx hb dL_thingsHold_116 (by decide) ?_
        refine lv_iload hx hb dL_thingsHold_120 (lv_at hl 1 rfl) ?_
        refine lv_icmp_ne (tgt := 190) hx hb dL_thingsHold_122 (by decide) (fun c9 => absurd c9 (by decide)) (fun _ => ?_)
        refine lv_aload_n hx hb dL_thingsHold_125 rfl (lv_at hl 5 rfl) ?_
        refine lv_iload hx hb dL_thingsHold_126 (lv_at hl 3 rfl) ?_
        refine lv_iconst (v := 2) hx hb dL_thingsHold_128 (by decide) ?_
        refine sy_kl (vx_runSW (As := [.ref (ad 60), .int (nI k), .int 2]) (rest := []) ⟨hx, hb, hml, hown, hts⟩ (mL_thingOf l hfl Z nT nK cT cK ad g q (nI k) 2 hI) (vx_cwSW 3 hts (gu_S uk_4_46 uk_4_47 uk_1_0 uk_4_48) rfl rfl rfl (by decide +kernel) ⟨Nat.le_of_ble_eq_true rfl, Nat.le_of_ble_eq_true rfl⟩) ⟨sPreL_blind _, fun U hU hW => ⟨rfl, ⟨hE.next hS hU hW.alike, by rw [hU]; exact hP⟩, hNc.next hW.alike⟩⟩ rfl rfl hl.1 rfl (lv_room (Nat.le_of_ble_eq_true rfl)) dL_thingsHold_129 ⟨by show _ ≤ 670; (try dsimp only); omega, by show _ ≤ 4000; (try dsimp only); omega⟩) hS (fun r g1 q1 H locs e9 hP hS => ?_)
        obtain ⟨er, eg, eq⟩ := eq_q (z := (g (100 + k) 4).toInt) (a_T hI hk).1 rfl e9
        subst er; subst eg; subst eq
        refine lv_lconst (v := lI 0) hx hb dL_thingsHold_132 rfl ?_
        refine W.lcmp hx hb dL_thingsHold_133 ?_
        refine lv_if_lt (tgt := 190) hx hb dL_thingsHold_134 (by decide) (fun c9 => absurd c9 (c_ge (a := (g (100 + k) 4).toInt) (b := 0) (by omega) (by omega) (by omega))) (fun _ => ?_)
        refine lv_aload_n hx hb dL_thingsHold_137 rfl (lv_at hl 5 rfl) ?_
        refine lv_iload hx hb dL_thingsHold_138 (lv_at hl 3 rfl) ?_
        refine lv_iconst (v := 2) hx hb dL_thingsHold_140 (by decide) ?_
        refine sy_kl (vx_runSW (As := [.ref (ad 60), .int (nI k), .int 2]) (rest := []) ⟨hx, hb, hml, hown, hts⟩ (mL_thingOf l hfl Z nT nK cT cK ad g q (nI k) 2 hI) (vx_cwSW 3 hts (gu_S uk_4_46 uk_4_47 uk_1_0 uk_4_48) rfl rfl rfl (by decide +kernel) ⟨Nat.le_of_ble_eq_true rfl, Nat.le_of_ble_eq_true rfl⟩) ⟨sPreL_blind _, fun U hU hW => ⟨rfl, ⟨hE.next hS hU hW.alike, by rw [hU]; exact hP⟩, hNc.next hW.alike⟩⟩ rfl rfl hl.1 rfl (lv_room (Nat.le_of_ble_eq_true rfl)) dL_thingsHold_141 ⟨by show _ ≤ 670; (try dsimp only); omega, by show _ ≤ 4000; (try dsimp only); omega⟩) hS (fun r g1 q1 H locs e9 hP hS => ?_)
        obtain ⟨er, eg, eq⟩ := eq_q (z := (g (100 + k) 4).toInt) (a_T hI hk).1 rfl e9
        subst er; subst eg; subst eq
        refine lv_ldc2 (v := lI (10)) hx hb hown (hts _ (u_in uk_4_99)) dL_thingsHold_144 ?_
        refine W.lcmp hx hb dL_thingsHold_147 ?_
        refine lv_if_gt (tgt := 190) hx hb dL_thingsHold_148 (by decide) (fun c9 => absurd c9 (c_le (a := (g (100 + k) 4).toInt) (b := (10)) (by omega) (by omega) (by omega))) (fun _ => ?_)
        refine lv_lload hx hb dL_thingsHold_151 (lv_at hl 2 rfl) ?_
        refine lv_lconst (v := lI 0) hx hb dL_thingsHold_153 rfl ?_
        refine W.lcmp hx hb dL_thingsHold_154 ?_
        refine lv_if_lt (tgt := 186) hx hb dL_thingsHold_155 (by decide) (fun c9 => absurd c9 (c_ge (a := ((j : Nat) : Int)) (b := 0) (by omega) (by omega) (by omega))) (fun _ => ?_)
        refine lv_aload_n hx hb dL_thingsHold_158 rfl (lv_at hl 5 rfl) ?_
        refine lv_lload hx hb dL_thingsHold_159 (lv_at hl 2 rfl) ?_
        refine lv_l2i (v := (nI j)) hx hb dL_thingsHold_161 (L_n (by omega)) ?_
        refine lv_iconst (v := 0) hx hb dL_thingsHold_162 (by decide) ?_
        refine sy_kl (vx_runSW (As := [.ref (ad 60), .int (nI j), .int 0]) (rest := []) ⟨hx, hb, hml, hown, hts⟩ (mL_ticketOf l hfl Z nT nK cT cK ad g q (nI j) 0 hI) (vx_cwSW 3 hts (gu_S uk_4_53 uk_4_54 uk_1_0 uk_4_55) rfl rfl rfl (by decide +kernel) ⟨Nat.le_of_ble_eq_true rfl, Nat.le_of_ble_eq_true rfl⟩) ⟨sPreL_blind _, fun U hU hW => ⟨rfl, ⟨hE.next hS hU hW.alike, by rw [hU]; exact hP⟩, hNc.next hW.alike⟩⟩ rfl rfl hl.1 rfl (lv_room (Nat.le_of_ble_eq_true rfl)) dL_thingsHold_163 ⟨by show _ ≤ 670; (try dsimp only); omega, by show _ ≤ 4000; (try dsimp only); omega⟩) hS (fun r g1 q1 H locs e9 hP hS => ?_)
        obtain ⟨er, eg, eq⟩ := eq_q (z := 0) (a_K hI hj).1 (by rw [h7]; rfl) e9
        subst er; subst eg; subst eq
        refine lv_lconst (v := lI 0) hx hb dL_thingsHold_166 rfl ?_
        refine W.lcmp hx hb dL_thingsHold_167 ?_
        refine lv_if_ne (tgt := 190) hx hb dL_thingsHold_168 (by decide) (fun c9 => absurd (c_eq (a := 0) (b := 0) (by omega)) c9) (fun _ => ?_)
        refine lv_aload_n hx hb dL_thingsHold_171 rfl (lv_at hl 5 rfl) ?_
        refine lv_lload hx hb dL_thingsHold_172 (lv_at hl 2 rfl) ?_
        refine lv_l2i (v := (nI j)) hx hb dL_thingsHold_174 (L_n (by omega)) ?_
        refine lv_iconst (v := 1) hx hb dL_thingsHold_175 (by decide) ?_
        refine sy_kl (vx_runSW (As := [.ref (ad 60), .int (nI j), .int 1]) (rest := []) ⟨hx, hb, hml, hown, hts⟩ (mL_ticketOf l hfl Z nT nK cT cK ad g q (nI j) 1 hI) (vx_cwSW 3 hts (gu_S uk_4_53 uk_4_54 uk_1_0 uk_4_55) rfl rfl rfl (by decide +kernel) ⟨Nat.le_of_ble_eq_true rfl, Nat.le_of_ble_eq_true rfl⟩) ⟨sPreL_blind _, fun U hU hW => ⟨rfl, ⟨hE.next hS hU hW.alike, by rw [hU]; exact hP⟩, hNc.next hW.alike⟩⟩ rfl rfl hl.1 rfl (lv_room (Nat.le_of_ble_eq_true rfl)) dL_thingsHold_176 ⟨by show _ ≤ 670; (try dsimp only); omega, by show _ ≤ 4000; (try dsimp only); omega⟩) hS (fun r g1 q1 H locs e9 hP hS => ?_)
        obtain ⟨er, eg, eq⟩ := eq_q (z := ((k : Nat) : Int)) (a_K hI hj).2.1 (by rw [htg]; exact nI_toInt (by omega)) e9
        subst er; subst eg; subst eq
        refine lv_iload hx hb dL_thingsHold_179 (lv_at hl 3 rfl) ?_
        refine lv_i2l (v := lI ((k : Nat) : Int)) hx hb dL_thingsHold_181 (nI_L (by omega)) ?_
        refine W.lcmp hx hb dL_thingsHold_182 ?_
        refine lv_if_ne (tgt := 190) hx hb dL_thingsHold_183 (by decide) (fun c9 => absurd (c_eq (a := ((k : Nat) : Int)) (b := ((k : Nat) : Int)) (by omega)) c9) (fun _ => ?_)
        refine lv_iconst (v := 1) hx hb dL_thingsHold_186 (by decide) ?_
        refine lv_goto (tgt := 191) hx hb dL_thingsHold_187 (by decide) ?_
        refine lv_istore (lv' := [(6, .int 1), (4, .long (lI ((720 - isum (wOn g) k) - (g (100 + k) 2).toInt))), (10, .int 1), (8, .long (lI ((j : Nat) : Int))), (7, .int (nI k)), (0, .ref (ad 60)), (1, .ref (ad 90)), (2, .int (nI nT)), (3, .int (nI nK))]) hx hb dL_thingsHold_191 hl (by decide) rfl (fun ls hl => ?_)
        refine lv_iinc (v := nI (k + 1)) (lv' := [(7, .int (nI (k + 1))), (6, .int 1), (4, .long (lI ((720 - isum (wOn g) k) - (g (100 + k) 2).toInt))), (10, .int 1), (8, .long (lI ((j : Nat) : Int))), (0, .ref (ad 60)), (1, .ref (ad 90)), (2, .int (nI nT)), (3, .int (nI nK))]) hx hb dL_thingsHold_193 hl (k := 4) rfl (nI_add k 1) (by decide) rfl (fun ls hl => ?_)
        refine lv_goto (tgt := 28) hx hb dL_thingsHold_196 (by decide) ?_
        have hF : 720 - isum (wOn g) k - (g (100 + k) 2).toInt = 720 - isum (wOn g) (k + 1) := by
          show _ = 720 - (isum (wOn g) k + wOn g k)
          have hw9 : wOn g k = (g (100 + k) 2).toInt := by unfold wOn; rw [if_neg (by rw [h5]; decide)]
          omega
        refine W.widen (k := 2 + 16 * (k + 1)) (n := 12 + 96 * (k + 1)) (by (try dsimp only); omega) (by (try dsimp only); omega) ?_
        exact ih (k + 1) (by omega) H locs ls hP hS (by have h9 := lv_sub hl [0, 1, 2, 5, 6, 7, 8] rfl; rw [hF] at h9; exact h9)
  refine W.widen (k := 2 + 16 * 0) (n := 12 + 96 * 0) (by (try dsimp only); omega) (by (try dsimp only); omega) ?_
  exact hL1 nT 0 (by omega) H locs ls hP hS (lv_sub hl [0, 1, 2, 3, 4, 5, 6] rfl)
