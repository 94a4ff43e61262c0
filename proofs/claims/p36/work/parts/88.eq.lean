set_option maxHeartbeats 8000000 in
set_option maxRecDepth 100000 in
theorem nL_ends (l : Launch) (hfl : l.stackTraces = false) (Z : sZ) (nT nK cT cK : Nat) (ad : Nat → Nat) (g : sG) (q : sQ) {n j how yy : Nat} (hI : CI n nT nK cT cK g q) (hn : n + 1 ≤ 10000) (hj : j < nK) (hho : how < 8) (hyy : yy < 2147483648) : Met l yL_ends (uW (.code yL_ends cL_ends 26 (some FieldType.boolean))) { frames := 10, cells := 80, slots := 800, locals := 172 } (va_Pc [.ref (ad 60), .int (nI j), .int (nI how), .int (nI yy)] (sPreL Z nT nK cT cK ad g q)) (sQi Z nT nK cT cK ad (fun r g1 q1 => r = 1 ∧ CI (n + 1) nT nK cT cK g1 q1)) 80 800 (sy_A Z) := by
  refine Met.ofW (cc := cL_ends) (maxL := 26) (ret := (some FieldType.boolean)) (by decide) rfl ?_
  intro p e s m args below meth c s₁ B hml hv
  obtain ⟨rfl, ⟨hE, hP⟩, hNc⟩ := hv
  have hx := B.exec
  have hb := B.bytes
  have hr := B.returns
  have hts := atoms_spec (ws := uW (.code yL_ends cL_ends 26 (some FieldType.boolean))) B.pre
  have hown : s.vm.findClass RL = some m.cls := findClass_of_methodNamed B.named
  have hlocks := B.notSynchronized
  have hS : va_S (sy_A Z) s.heap s.heap [] := va_S.rf
  have hl := lv_entry ([.ref (ad 60), .int (nI j), .int (nI how), .int (nI yy)]) (n := 26) (Nat.le_of_ble_eq_true rfl)
  rw [lg_entry_eq]
  generalize (lg_sl ([.ref (ad 60), .int (nI j), .int (nI how), .int (nI yy)]) ++ List.replicate (26 - (lg_sl ([.ref (ad 60), .int (nI j), .int (nI how), .int (nI yy)])).length) Slot.unset).toArray = ls at hl ⊢
  have hl : lv_has ls 26 [(0, .ref (ad 60)), (1, .int (nI j)), (2, .int (nI how)), (3, .int (nI yy))] := hl
  have hT40 := ci_T hI
  have hK40 := ci_K hI
  obtain ⟨k0, k6, k7, ⟨k81, k82⟩, k11, ⟨k131, k132⟩, k14, ks⟩ := hI.2.2.2.2.1 j hj
  obtain ⟨in1, in2⟩ := in_bd hI hj
  obtain ⟨fr1, fr2, fr3, fr4, fr5⟩ := ci_free hI (by omega)
  have b0 := i32b (g 68 0)
  have b1 := i32b (g 68 1)
  have b7 := i32b (g (200 + j) 7)
  have b14 := i32b (g (200 + j) 14)
  have b13 := i32b (g (200 + j) 13)
  have hbar : 0 ≤ (barI g q j).toInt ∧ (barI g q j).toInt ≤ 3 := by rcases bar_in (g := g) (q := q) (j := j) with z | z | z | z <;> rw [z] <;> decide
  have n7 : g (200 + j) 7 ≠ 0 → (g (200 + j) 7).toInt ≠ 0 := fun h z => h (Int32.toInt_inj.mp z)
  have n14 : g (200 + j) 14 ≠ 0 → (g (200 + j) 14).toInt ≠ 0 := fun h z => h (Int32.toInt_inj.mp z)
  have nB : barI g q j ≠ 0 → (barI g q j).toInt ≠ 0 := fun h z => h (Int32.toInt_inj.mp z)
  refine lv_aload_n hx hb dL_ends_0 rfl (lv_at hl 0 rfl) ?_
  refine lv_iload_n hx hb dL_ends_1 rfl (lv_at hl 1 rfl) ?_
  refine lv_iconst (v := 0) hx hb dL_ends_2 (by decide) ?_
  refine sy_kl (vx_runSW (As := [.ref (ad 60), .int (nI j), .int 0]) (rest := []) ⟨hx, hb, hml, hown, hts⟩ (mL_ticketOf l hfl Z nT nK cT cK ad g q (nI j) 0 hI) (vx_cwSW 3 hts (gu_S uk_4_53 uk_4_54 uk_1_0 uk_4_55) rfl rfl rfl (by decide +kernel) ⟨Nat.le_of_ble_eq_true rfl, Nat.le_of_ble_eq_true rfl⟩) ⟨sPreL_blind _, fun U hU hW => ⟨rfl, ⟨hE.next hS hU hW.alike, by rw [hU]; exact hP⟩, hNc.next hW.alike⟩⟩ rfl rfl hl.1 rfl (lv_room (Nat.le_of_ble_eq_true rfl)) dL_ends_3 ⟨by show _ ≤ 80; (try dsimp only); omega, by show _ ≤ 800; (try dsimp only); omega⟩) hS (fun r gz qz H locs e9 hP hS => ?_)
  obtain ⟨er, eg, eq⟩ := eq_q (z := (g (200 + j) 7).toInt) (a_K hI hj).1 rfl e9
  subst er; subst eg; subst eq
  refine lv_lstore (lv' := [(4, .long (lI ((g (200 + j) 7).toInt))), (0, .ref (ad 60)), (1, .int (nI j)), (2, .int (nI how)), (3, .int (nI yy))]) hx hb dL_ends_6 hl (by decide) rfl (fun ls hl => ?_)
  refine lv_aload_n hx hb dL_ends_8 rfl (lv_at hl 1 rfl) ?_
  refine lv_iload_n hx hb dL_ends_9 rfl (lv_at hl 2 rfl) ?_
  refine lv_iconst (v := 2) hx hb dL_ends_10 (by decide) ?_
  refine sy_kl (vx_runSW (As := [.ref (ad 60), .int (nI j), .int 2]) (rest := []) ⟨hx, hb, hml, hown, hts⟩ (mL_ticketOf l hfl Z nT nK cT cK ad g q (nI j) 2 hI) (vx_cwSW 3 hts (gu_S uk_4_53 uk_4_54 uk_1_0 uk_4_55) rfl rfl rfl (by decide +kernel) ⟨Nat.le_of_ble_eq_true rfl, Nat.le_of_ble_eq_true rfl⟩) ⟨sPreL_blind _, fun U hU hW => ⟨rfl, ⟨hE.next hS hU hW.alike, by rw [hU]; exact hP⟩, hNc.next hW.alike⟩⟩ rfl rfl hl.1 rfl (lv_room (Nat.le_of_ble_eq_true rfl)) dL_ends_11 ⟨by show _ ≤ 80; (try dsimp only); omega, by show _ ≤ 800; (try dsimp only); omega⟩) hS (fun r gz qz H locs e9 hP hS => ?_)
  obtain ⟨er, eg, eq⟩ := eq_q (z := (g (200 + j) 8).toInt) (a_K hI hj).2.2.1 rfl e9
  subst er; subst eg; subst eq
  refine lv_lstore (lv' := [(6, .long (lI ((g (200 + j) 8).toInt))), (4, .long (lI ((g (200 + j) 7).toInt))), (0, .ref (ad 60)), (1, .int (nI j)), (2, .int (nI how)), (3, .int (nI yy))]) hx hb dL_ends_14 hl (by decide) rfl (fun ls hl => ?_)
  refine lv_aload_n hx hb dL_ends_16 rfl (lv_at hl 2 rfl) ?_
  refine lv_iload_n hx hb dL_ends_17 rfl (lv_at hl 3 rfl) ?_
  refine lv_iconst (v := 3) hx hb dL_ends_18 (by decide) ?_
  refine sy_kl (vx_runSW (As := [.ref (ad 60), .int (nI j), .int 3]) (rest := []) ⟨hx, hb, hml, hown, hts⟩ (mL_ticketOf l hfl Z nT nK cT cK ad g q (nI j) 3 hI) (vx_cwSW 3 hts (gu_S uk_4_53 uk_4_54 uk_1_0 uk_4_55) rfl rfl rfl (by decide +kernel) ⟨Nat.le_of_ble_eq_true rfl, Nat.le_of_ble_eq_true rfl⟩) ⟨sPreL_blind _, fun U hU hW => ⟨rfl, ⟨hE.next hS hU hW.alike, by rw [hU]; exact hP⟩, hNc.next hW.alike⟩⟩ rfl rfl hl.1 rfl (lv_room (Nat.le_of_ble_eq_true rfl)) dL_ends_19 ⟨by show _ ≤ 80; (try dsimp only); omega, by show _ ≤ 800; (try dsimp only); omega⟩) hS (fun r gz qz H locs e9 hP hS => ?_)
  obtain ⟨er, eg, eq⟩ := eq_q (z := (fX6_interestNow g q j).toInt) (a_K hI hj).2.2.2.1 rfl e9
  subst er; subst eg; subst eq
  refine lv_lstore (lv' := [(8, .long (lI ((fX6_interestNow g q j).toInt))), (6, .long (lI ((g (200 + j) 8).toInt))), (4, .long (lI ((g (200 + j) 7).toInt))), (0, .ref (ad 60)), (1, .int (nI j)), (2, .int (nI how)), (3, .int (nI yy))]) hx hb dL_ends_22 hl (by decide) rfl (fun ls hl => ?_)
  refine lv_aload_n hx hb dL_ends_24 rfl (lv_at hl 3 rfl) ?_
  refine lv_iload_n hx hb dL_ends_25 rfl (lv_at hl 4 rfl) ?_
  refine lv_iconst (v := 4) hx hb dL_ends_26 (by decide) ?_
  refine sy_kl (vx_runSW (As := [.ref (ad 60), .int (nI j), .int 4]) (rest := []) ⟨hx, hb, hml, hown, hts⟩ (mL_ticketOf l hfl Z nT nK cT cK ad g q (nI j) 4 hI) (vx_cwSW 3 hts (gu_S uk_4_53 uk_4_54 uk_1_0 uk_4_55) rfl rfl rfl (by decide +kernel) ⟨Nat.le_of_ble_eq_true rfl, Nat.le_of_ble_eq_true rfl⟩) ⟨sPreL_blind _, fun U hU hW => ⟨rfl, ⟨hE.next hS hU hW.alike, by rw [hU]; exact hP⟩, hNc.next hW.alike⟩⟩ rfl rfl hl.1 rfl (lv_room (Nat.le_of_ble_eq_true rfl)) dL_ends_27 ⟨by show _ ≤ 80; (try dsimp only); omega, by show _ ≤ 800; (try dsimp only); omega⟩) hS (fun r gz qz H locs e9 hP hS => ?_)
  obtain ⟨er, eg, eq⟩ := eq_q (z := (g (200 + j) 6).toInt) (a_K hI hj).2.2.2.2.1 rfl e9
  subst er; subst eg; subst eq
  refine lv_l2i (v := (g (200 + j) 6)) hx hb dL_ends_30 (L_z rfl) ?_
  refine lv_istore (lv' := [(10, .int (g (200 + j) 6)), (8, .long (lI ((fX6_interestNow g q j).toInt))), (6, .long (lI ((g (200 + j) 8).toInt))), (4, .long (lI ((g (200 + j) 7).toInt))), (0, .ref (ad 60)), (1, .int (nI j)), (2, .int (nI how)), (3, .int (nI yy))]) hx hb dL_ends_31 hl (by decide) rfl (fun ls hl => ?_)
  refine lv_aload_n hx hb dL_ends_33 rfl (lv_at hl 4 rfl) ?_
  refine lv_iload_n hx hb dL_ends_34 rfl (lv_at hl 5 rfl) ?_
  refine lv_bipush (v := 8) hx hb dL_ends_35 (by decide) ?_
  refine sy_kl (vx_runSW (As := [.ref (ad 60), .int (nI j), .int 8]) (rest := []) ⟨hx, hb, hml, hown, hts⟩ (mL_ticketOf l hfl Z nT nK cT cK ad g q (nI j) 8 hI) (vx_cwSW 3 hts (gu_S uk_4_53 uk_4_54 uk_1_0 uk_4_55) rfl rfl rfl (by decide +kernel) ⟨Nat.le_of_ble_eq_true rfl, Nat.le_of_ble_eq_true rfl⟩) ⟨sPreL_blind _, fun U hU hW => ⟨rfl, ⟨hE.next hS hU hW.alike, by rw [hU]; exact hP⟩, hNc.next hW.alike⟩⟩ rfl rfl hl.1 rfl (lv_room (Nat.le_of_ble_eq_true rfl)) dL_ends_37 ⟨by show _ ≤ 80; (try dsimp only); omega, by show _ ≤ 800; (try dsimp only); omega⟩) hS (fun r gz qz H locs e9 hP hS => ?_)
  obtain ⟨er, eg, eq⟩ := eq_q (z := (barI g q j).toInt) (a_K hI hj).2.2.2.2.2.2.2.2.1 rfl e9
  subst er; subst eg; subst eq
  refine lv_lstore (lv' := [(11, .long (lI ((barI g q j).toInt))), (10, .int (g (200 + j) 6)), (8, .long (lI ((fX6_interestNow g q j).toInt))), (6, .long (lI ((g (200 + j) 8).toInt))), (4, .long (lI ((g (200 + j) 7).toInt))), (0, .ref (ad 60)), (1, .int (nI j)), (2, .int (nI how)), (3, .int (nI yy))]) hx hb dL_ends_40 hl (by decide) rfl (fun ls hl => ?_)
  refine lv_aload_n hx hb dL_ends_42 rfl (lv_at hl 5 rfl) ?_
  refine lv_iconst (v := 0) hx hb dL_ends_43 (by decide) ?_
  refine sy_kl (vx_runSW (As := [.ref (ad 60), .int 0]) (rest := []) ⟨hx, hb, hml, hown, hts⟩ (mL_money l hfl Z nT nK cT cK ad g q 0 hI) (vx_cwSW 2 hts (gu_S uk_4_88 uk_4_89 uk_1_0 uk_4_90) rfl rfl rfl (by decide +kernel) ⟨Nat.le_of_ble_eq_true rfl, Nat.le_of_ble_eq_true rfl⟩) ⟨sPreL_blind _, fun U hU hW => ⟨rfl, ⟨hE.next hS hU hW.alike, by rw [hU]; exact hP⟩, hNc.next hW.alike⟩⟩ rfl rfl hl.1 rfl (lv_room (Nat.le_of_ble_eq_true rfl)) dL_ends_44 ⟨by show _ ≤ 80; (try dsimp only); omega, by show _ ≤ 800; (try dsimp only); omega⟩) hS (fun r gz qz H locs e9 hP hS => ?_)
  obtain ⟨er, eg, eq⟩ := eq_q (z := (g 68 0).toInt) a_M.1 rfl e9
  subst er; subst eg; subst eq
  refine lv_lstore (lv' := [(13, .long (lI ((g 68 0).toInt))), (11, .long (lI ((barI g q j).toInt))), (10, .int (g (200 + j) 6)), (8, .long (lI ((fX6_interestNow g q j).toInt))), (6, .long (lI ((g (200 + j) 8).toInt))), (4, .long (lI ((g (200 + j) 7).toInt))), (0, .ref (ad 60)), (1, .int (nI j)), (2, .int (nI how)), (3, .int (nI yy))]) hx hb dL_ends_47 hl (by decide) rfl (fun ls hl => ?_)
  refine lv_aload_n hx hb dL_ends_49 rfl (lv_at hl 6 rfl) ?_
  refine lv_iconst (v := 1) hx hb dL_ends_50 (by decide) ?_
  refine sy_kl (vx_runSW (As := [.ref (ad 60), .int 1]) (rest := []) ⟨hx, hb, hml, hown, hts⟩ (mL_money l hfl Z nT nK cT cK ad g q 1 hI) (vx_cwSW 2 hts (gu_S uk_4_88 uk_4_89 uk_1_0 uk_4_90) rfl rfl rfl (by decide +kernel) ⟨Nat.le_of_ble_eq_true rfl, Nat.le_of_ble_eq_true rfl⟩) ⟨sPreL_blind _, fun U hU hW => ⟨rfl, ⟨hE.next hS hU hW.alike, by rw [hU]; exact hP⟩, hNc.next hW.alike⟩⟩ rfl rfl hl.1 rfl (lv_room (Nat.le_of_ble_eq_true rfl)) dL_ends_51 ⟨by show _ ≤ 80; (try dsimp only); omega, by show _ ≤ 800; (try dsimp only); omega⟩) hS (fun r gz qz H locs e9 hP hS => ?_)
  obtain ⟨er, eg, eq⟩ := eq_q (z := (g 68 1).toInt) a_M.2.1 rfl e9
  subst er; subst eg; subst eq
  refine lv_lstore (lv' := [(15, .long (lI ((g 68 1).toInt))), (13, .long (lI ((g 68 0).toInt))), (11, .long (lI ((barI g q j).toInt))), (10, .int (g (200 + j) 6)), (8, .long (lI ((fX6_interestNow g q j).toInt))), (6, .long (lI ((g (200 + j) 8).toInt))), (4, .long (lI ((g (200 + j) 7).toInt))), (0, .ref (ad 60)), (1, .int (nI j)), (2, .int (nI how)), (3, .int (nI yy))]) hx hb dL_ends_54 hl (by decide) rfl (fun ls hl => ?_)
  rcases (show how < 2 ∨ (2 ≤ how ∧ how < 4) ∨ (4 ≤ how ∧ how < 7) ∨ 7 ≤ how by omega) with c1 | c1 | c1 | c1
  · skip
    refine lv_iload_n hx hb dL_ends_56 rfl (lv_at hl 9 rfl) ?_
    refine lv_iconst (v := 2) hx hb dL_ends_57 (by decide) ?_
    refine lv_icmp_ge (tgt := 166) hx hb dL_ends_58 (by decide) (fun c9 => absurd c9 (mt (nI_leI (a := 2) (b := how) (by omega) (by omega)).mp (by omega))) (fun _ => ?_)
    refine lv_aload_n hx hb dL_ends_61 rfl (lv_at hl 7 rfl) ?_
    refine lv_iload_n hx hb dL_ends_62 rfl (lv_at hl 8 rfl) ?_
    refine lv_iload hx hb dL_ends_63 (lv_at hl 3 rfl) ?_
    refine sy_kl (vx_runSW (As := [.ref (ad 60), .int (nI j), .int (g (200 + j) 6)]) (rest := []) ⟨hx, hb, hml, hown, hts⟩ (mL_redeem l hfl Z nT nK cT cK ad g q (nI j) (g (200 + j) 6) hI) (vx_cwSW 3 hts (gu_S uk_4_148 uk_4_149 uk_1_0 uk_4_150) rfl rfl rfl (by decide +kernel) ⟨Nat.le_of_ble_eq_true rfl, Nat.le_of_ble_eq_true rfl⟩) ⟨sPreL_blind _, fun U hU hW => ⟨rfl, ⟨hE.next hS hU hW.alike, by rw [hU]; exact hP⟩, hNc.next hW.alike⟩⟩ rfl rfl hl.1 rfl (lv_room (Nat.le_of_ble_eq_true rfl)) dL_ends_65 ⟨by show _ ≤ 80; (try dsimp only); omega, by show _ ≤ 800; (try dsimp only); omega⟩) hS (fun r g1 q1 H locs e9 hP hS => ?_)
    rcases p_redeem hI hn hj with hw | ⟨h7, hbz, h1, h2, hI2, h4, h5⟩
    · skip
      obtain ⟨er, eg, eq⟩ := eq_n3 hw e9
      subst er; subst eg; subst eq
      refine lv_lstore (lv' := [(17, .long (lI (-9000000000000000003))), (15, .long (lI ((g 68 1).toInt))), (13, .long (lI ((g 68 0).toInt))), (11, .long (lI ((barI g q j).toInt))), (10, .int (g (200 + j) 6)), (8, .long (lI ((fX6_interestNow g q j).toInt))), (6, .long (lI ((g (200 + j) 8).toInt))), (4, .long (lI ((g (200 + j) 7).toInt))), (0, .ref (ad 60)), (1, .int (nI j)), (2, .int (nI how)), (3, .int (nI yy))]) hx hb dL_ends_68 hl (by decide) rfl (fun ls hl => ?_)
      refine lv_lload hx hb dL_ends_70 (lv_at hl 0 rfl) ?_
      refine lv_ldc2 (v := lI (-9000000000000000003)) hx hb hown (hts _ (u_in uk_2_183)) dL_ends_72 ?_
      refine W.lcmp hx hb dL_ends_75 ?_
      refine lv_if_ne (tgt := 110) hx hb dL_ends_76 (by decide) (fun c9 => absurd (c_eq (a := (-9000000000000000003)) (b := (-9000000000000000003)) (by omega)) c9) (fun _ => ?_)
      refine lv_aload_n hx hb dL_ends_79 rfl (lv_at hl 8 rfl) ?_
      refine lv_iload_n hx hb dL_ends_80 rfl (lv_at hl 9 rfl) ?_
      refine lv_iconst (v := 0) hx hb dL_ends_81 (by decide) ?_
      refine sy_kl (vx_runSW (As := [.ref (ad 60), .int (nI j), .int 0]) (rest := []) ⟨hx, hb, hml, hown, hts⟩ (mL_ticketOf l hfl Z nT nK cT cK ad g q (nI j) 0 hI) (vx_cwSW 3 hts (gu_S uk_4_53 uk_4_54 uk_1_0 uk_4_55) rfl rfl rfl (by decide +kernel) ⟨Nat.le_of_ble_eq_true rfl, Nat.le_of_ble_eq_true rfl⟩) ⟨sPreL_blind _, fun U hU hW => ⟨rfl, ⟨hE.next hS hU hW.alike, by rw [hU]; exact hP⟩, hNc.next hW.alike⟩⟩ rfl rfl hl.1 rfl (lv_room (Nat.le_of_ble_eq_true rfl)) dL_ends_82 ⟨by show _ ≤ 80; (try dsimp only); omega, by show _ ≤ 800; (try dsimp only); omega⟩) hS (fun r gz qz H locs e9 hP hS => ?_)
      obtain ⟨er, eg, eq⟩ := eq_q (z := (g (200 + j) 7).toInt) (a_K hI hj).1 rfl e9
      subst er; subst eg; subst eq
      refine lv_lload hx hb dL_ends_85 (lv_at hl 7 rfl) ?_
      refine W.lcmp hx hb dL_ends_87 ?_
      refine lv_if_ne (tgt := 106) hx hb dL_ends_88 (by decide) (fun c9 => absurd (c_eq (a := (g (200 + j) 7).toInt) (b := (g (200 + j) 7).toInt) (by omega)) c9) (fun _ => ?_)
      refine lv_aload_n hx hb dL_ends_91 rfl (lv_at hl 8 rfl) ?_
      refine lv_iconst (v := 0) hx hb dL_ends_92 (by decide) ?_
      refine sy_kl (vx_runSW (As := [.ref (ad 60), .int 0]) (rest := []) ⟨hx, hb, hml, hown, hts⟩ (mL_money l hfl Z nT nK cT cK ad g q 0 hI) (vx_cwSW 2 hts (gu_S uk_4_88 uk_4_89 uk_1_0 uk_4_90) rfl rfl rfl (by decide +kernel) ⟨Nat.le_of_ble_eq_true rfl, Nat.le_of_ble_eq_true rfl⟩) ⟨sPreL_blind _, fun U hU hW => ⟨rfl, ⟨hE.next hS hU hW.alike, by rw [hU]; exact hP⟩, hNc.next hW.alike⟩⟩ rfl rfl hl.1 rfl (lv_room (Nat.le_of_ble_eq_true rfl)) dL_ends_93 ⟨by show _ ≤ 80; (try dsimp only); omega, by show _ ≤ 800; (try dsimp only); omega⟩) hS (fun r gz qz H locs e9 hP hS => ?_)
      obtain ⟨er, eg, eq⟩ := eq_q (z := (g 68 0).toInt) a_M.1 rfl e9
      subst er; subst eg; subst eq
      refine lv_lload hx hb dL_ends_96 (lv_at hl 2 rfl) ?_
      refine W.lcmp hx hb dL_ends_98 ?_
      refine lv_if_ne (tgt := 106) hx hb dL_ends_99 (by decide) (fun c9 => absurd (c_eq (a := (g 68 0).toInt) (b := (g 68 0).toInt) (by omega)) c9) (fun _ => ?_)
      refine lv_iconst (v := 1) hx hb dL_ends_102 (by decide) ?_
      refine lv_goto (tgt := 165) hx hb dL_ends_103 (by decide) ?_
      exact sy_iretz hx hb hr hlocks hE hP hS dL_ends_165 ⟨by (try dsimp only); omega, by (try dsimp only); omega⟩ (by decide) ⟨rfl, ci_n (by omega) hI⟩
    · skip
      obtain ⟨er, eg, eq⟩ := eq_y (z := ((g (200 + j) 8).toInt + (fX6_interestNow g q j).toInt)) h1 h2 e9
      subst er
      rw [eg, eq] at hI2
      rw [eg] at h4
      rw [eg] at h5
      have hI := hI2
      clear e9
      have b9 := i32b (g1 68 0)
      refine lv_lstore (lv' := [(17, .long (lI ((g (200 + j) 8).toInt + (fX6_interestNow g q j).toInt))), (15, .long (lI ((g 68 1).toInt))), (13, .long (lI ((g 68 0).toInt))), (11, .long (lI ((barI g q j).toInt))), (10, .int (g (200 + j) 6)), (8, .long (lI ((fX6_interestNow g q j).toInt))), (6, .long (lI ((g (200 + j) 8).toInt))), (4, .long (lI ((g (200 + j) 7).toInt))), (0, .ref (ad 60)), (1, .int (nI j)), (2, .int (nI how)), (3, .int (nI yy))]) hx hb dL_ends_68 hl (by decide) rfl (fun ls hl => ?_)
      refine lv_lload hx hb dL_ends_70 (lv_at hl 0 rfl) ?_
      refine lv_ldc2 (v := lI (-9000000000000000003)) hx hb hown (hts _ (u_in uk_2_183)) dL_ends_72 ?_
      refine W.lcmp hx hb dL_ends_75 ?_
      refine lv_if_ne (tgt := 110) hx hb dL_ends_76 (by decide) (fun _ => ?_) (fun c9 => absurd c9 (c_ne (a := ((g (200 + j) 8).toInt + (fX6_interestNow g q j).toInt)) (b := (-9000000000000000003)) (by omega) (by omega) (by omega)))
      refine lv_lload hx hb dL_ends_110 (lv_at hl 7 rfl) ?_
      refine lv_lconst (v := lI 0) hx hb dL_ends_112 rfl ?_
      refine W.lcmp hx hb dL_ends_113 ?_
      refine lv_if_ne (tgt := 164) hx hb dL_ends_114 (by decide) (fun c9 => absurd (c_eq (a := (g (200 + j) 7).toInt) (b := 0) ((by rw [h7]; rfl))) c9) (fun _ => ?_)
      refine lv_lload hx hb dL_ends_117 (lv_at hl 3 rfl) ?_
      refine lv_lconst (v := lI 0) hx hb dL_ends_119 rfl ?_
      refine W.lcmp hx hb dL_ends_120 ?_
      refine lv_if_ne (tgt := 164) hx hb dL_ends_121 (by decide) (fun c9 => absurd (c_eq (a := (barI g q j).toInt) (b := 0) ((by rw [hbz]; rfl))) c9) (fun _ => ?_)
      refine lv_lload hx hb dL_ends_124 (lv_at hl 0 rfl) ?_
      refine lv_lload hx hb dL_ends_126 (lv_at hl 6 rfl) ?_
      refine lv_lload hx hb dL_ends_128 (lv_at hl 5 rfl) ?_
      refine lv_ladd hx hb dL_ends_130 ?_
      refine sy_topL (y := lI ((g (200 + j) 8).toInt + (fX6_interestNow g q j).toInt)) (lI_add _ _) ?_
      refine W.lcmp hx hb dL_ends_131 ?_
      refine lv_if_ne (tgt := 164) hx hb dL_ends_132 (by decide) (fun c9 => absurd (c_eq (a := ((g (200 + j) 8).toInt + (fX6_interestNow g q j).toInt)) (b := ((g (200 + j) 8).toInt + (fX6_interestNow g q j).toInt)) (by omega)) c9) (fun _ => ?_)
      refine lv_aload_n hx hb dL_ends_135 rfl (lv_at hl 8 rfl) ?_
      refine lv_iconst (v := 0) hx hb dL_ends_136 (by decide) ?_
      refine sy_kl (vx_runSW (As := [.ref (ad 60), .int 0]) (rest := []) ⟨hx, hb, hml, hown, hts⟩ (mL_money l hfl Z nT nK cT cK ad g1 q1 0 hI) (vx_cwSW 2 hts (gu_S uk_4_88 uk_4_89 uk_1_0 uk_4_90) rfl rfl rfl (by decide +kernel) ⟨Nat.le_of_ble_eq_true rfl, Nat.le_of_ble_eq_true rfl⟩) ⟨sPreL_blind _, fun U hU hW => ⟨rfl, ⟨hE.next hS hU hW.alike, by rw [hU]; exact hP⟩, hNc.next hW.alike⟩⟩ rfl rfl hl.1 rfl (lv_room (Nat.le_of_ble_eq_true rfl)) dL_ends_137 ⟨by show _ ≤ 80; (try dsimp only); omega, by show _ ≤ 800; (try dsimp only); omega⟩) hS (fun r gz qz H locs e9 hP hS => ?_)
      obtain ⟨er, eg, eq⟩ := eq_q (z := (g1 68 0).toInt) a_M.1 rfl e9
      subst er; subst eg; subst eq
      refine lv_lload hx hb dL_ends_140 (lv_at hl 2 rfl) ?_
      refine lv_lload hx hb dL_ends_142 (lv_at hl 0 rfl) ?_
      refine lv_ladd hx hb dL_ends_144 ?_
      refine sy_topL (y := lI ((g 68 0).toInt + ((g (200 + j) 8).toInt + (fX6_interestNow g q j).toInt))) (lI_add _ _) ?_
      refine W.lcmp hx hb dL_ends_145 ?_
      refine lv_if_ne (tgt := 164) hx hb dL_ends_146 (by decide) (fun c9 => absurd (c_eq (a := (g1 68 0).toInt) (b := ((g 68 0).toInt + ((g (200 + j) 8).toInt + (fX6_interestNow g q j).toInt))) (by omega)) c9) (fun _ => ?_)
      refine lv_aload_n hx hb dL_ends_149 rfl (lv_at hl 8 rfl) ?_
      refine lv_iload_n hx hb dL_ends_150 rfl (lv_at hl 9 rfl) ?_
      refine lv_iconst (v := 0) hx hb dL_ends_151 (by decide) ?_
      refine sy_kl (vx_runSW (As := [.ref (ad 60), .int (nI j), .int 0]) (rest := []) ⟨hx, hb, hml, hown, hts⟩ (mL_ticketOf l hfl Z nT nK cT cK ad g1 q1 (nI j) 0 hI) (vx_cwSW 3 hts (gu_S uk_4_53 uk_4_54 uk_1_0 uk_4_55) rfl rfl rfl (by decide +kernel) ⟨Nat.le_of_ble_eq_true rfl, Nat.le_of_ble_eq_true rfl⟩) ⟨sPreL_blind _, fun U hU hW => ⟨rfl, ⟨hE.next hS hU hW.alike, by rw [hU]; exact hP⟩, hNc.next hW.alike⟩⟩ rfl rfl hl.1 rfl (lv_room (Nat.le_of_ble_eq_true rfl)) dL_ends_152 ⟨by show _ ≤ 80; (try dsimp only); omega, by show _ ≤ 800; (try dsimp only); omega⟩) hS (fun r gz qz H locs e9 hP hS => ?_)
      obtain ⟨er, eg, eq⟩ := eq_q (z := 1) (a_K hI hj).1 (by rw [h5]; rfl) e9
      subst er; subst eg; subst eq
      refine lv_lconst (v := lI 1) hx hb dL_ends_155 rfl ?_
      refine W.lcmp hx hb dL_ends_156 ?_
      refine lv_if_ne (tgt := 164) hx hb dL_ends_157 (by decide) (fun c9 => absurd (c_eq (a := 1) (b := 1) (by omega)) c9) (fun _ => ?_)
      refine lv_iconst (v := 1) hx hb dL_ends_160 (by decide) ?_
      refine lv_goto (tgt := 165) hx hb dL_ends_161 (by decide) ?_
      exact sy_iretz hx hb hr hlocks hE hP hS dL_ends_165 ⟨by (try dsimp only); omega, by (try dsimp only); omega⟩ (by decide) ⟨rfl, hI⟩
  · skip
    obtain ⟨l9, hl9, hl8⟩ : ∃ l9 : Nat, ((yy : Nat) : Int) % (g (200 + j) 8).toInt = ((l9 : Nat) : Int) ∧ ((l9 : Nat) : Int) < (g (200 + j) 8).toInt := ⟨(((yy : Nat) : Int) % (g (200 + j) 8).toInt).toNat, (Int.toNat_of_nonneg (Int.emod_nonneg _ (by omega))).symm, by rw [Int.toNat_of_nonneg (Int.emod_nonneg _ (by omega))]; exact Int.emod_lt_of_pos _ (by omega)⟩
    refine lv_iload_n hx hb dL_ends_56 rfl (lv_at hl 9 rfl) ?_
    refine lv_iconst (v := 2) hx hb dL_ends_57 (by decide) ?_
    refine lv_icmp_ge (tgt := 166) hx hb dL_ends_58 (by decide) (fun _ => ?_) (fun c9 => absurd ((nI_leI (a := 2) (b := how) (by omega) (by omega)).mpr (by omega)) c9)
    refine lv_iload_n hx hb dL_ends_166 rfl (lv_at hl 9 rfl) ?_
    refine lv_iconst (v := 4) hx hb dL_ends_167 (by decide) ?_
    refine lv_icmp_ge (tgt := 306) hx hb dL_ends_168 (by decide) (fun c9 => absurd c9 (mt (nI_leI (a := 4) (b := how) (by omega) (by omega)).mp (by omega))) (fun _ => ?_)
    refine lv_iload_n hx hb dL_ends_171 rfl (lv_at hl 10 rfl) ?_
    refine lv_i2l (v := lI ((yy : Nat) : Int)) hx hb dL_ends_172 (nI_L (by omega)) ?_
    refine lv_lload hx hb dL_ends_173 (lv_at hl 5 rfl) ?_
    refine lv_lrem hx hb dL_ends_175 (lI_ne0 k81 (by omega)) ?_
    refine sy_topL (y := lI (((yy : Nat) : Int) % (g (200 + j) 8).toInt)) (lI_rem (a := ((yy : Nat) : Int)) (b := (g (200 + j) 8).toInt) (by omega) (by omega) (by omega) (by omega)) ?_
    refine lv_l2i (v := (nI l9)) hx hb dL_ends_176 (by rw [hl9]; exact L_n (by omega)) ?_
    refine lv_istore (lv' := [(17, .int (nI l9)), (15, .long (lI ((g 68 1).toInt))), (13, .long (lI ((g 68 0).toInt))), (11, .long (lI ((barI g q j).toInt))), (10, .int (g (200 + j) 6)), (8, .long (lI ((fX6_interestNow g q j).toInt))), (6, .long (lI ((g (200 + j) 8).toInt))), (4, .long (lI ((g (200 + j) 7).toInt))), (0, .ref (ad 60)), (1, .int (nI j)), (2, .int (nI how)), (3, .int (nI yy))]) hx hb dL_ends_177 hl (by decide) rfl (fun ls hl => ?_)
    refine lv_aload_n hx hb dL_ends_179 rfl (lv_at hl 8 rfl) ?_
    refine lv_iload_n hx hb dL_ends_180 rfl (lv_at hl 9 rfl) ?_
    refine lv_iload hx hb dL_ends_181 (lv_at hl 4 rfl) ?_
    refine lv_iload hx hb dL_ends_183 (lv_at hl 0 rfl) ?_
    refine sy_kl (vx_runSW (As := [.ref (ad 60), .int (nI j), .int (g (200 + j) 6), .int (nI l9)]) (rest := []) ⟨hx, hb, hml, hown, hts⟩ (mL_renew l hfl Z nT nK cT cK ad g q (nI j) (g (200 + j) 6) (nI l9) hI) (vx_cwSW 4 hts (gu_S uk_4_160 uk_4_161 uk_1_0 uk_4_162) rfl rfl rfl (by decide +kernel) ⟨Nat.le_of_ble_eq_true rfl, Nat.le_of_ble_eq_true rfl⟩) ⟨sPreL_blind _, fun U hU hW => ⟨rfl, ⟨hE.next hS hU hW.alike, by rw [hU]; exact hP⟩, hNc.next hW.alike⟩⟩ rfl rfl hl.1 rfl (lv_room (Nat.le_of_ble_eq_true rfl)) dL_ends_185 ⟨by show _ ≤ 80; (try dsimp only); omega, by show _ ≤ 800; (try dsimp only); omega⟩) hS (fun r g1 q1 H locs e9 hP hS => ?_)
    rcases p_renew hI hn hj (l := l9) hl8 with ⟨hw, hor⟩ | ⟨h1, h2, hI2, h4, h5, h6, h9⟩
    · skip
      obtain ⟨er, eg, eq⟩ := eq_n3 hw e9
      subst er; subst eg; subst eq
      by_cases h7 : g (200 + j) 7 = 0
      · skip
        have hbn := nB (hor.resolve_left (fun z => z h7))
        refine lv_lstore (lv' := [(18, .long (lI (-9000000000000000003))), (17, .int (nI l9)), (15, .long (lI ((g 68 1).toInt))), (13, .long (lI ((g 68 0).toInt))), (11, .long (lI ((barI g q j).toInt))), (10, .int (g (200 + j) 6)), (8, .long (lI ((fX6_interestNow g q j).toInt))), (6, .long (lI ((g (200 + j) 8).toInt))), (4, .long (lI ((g (200 + j) 7).toInt))), (0, .ref (ad 60)), (1, .int (nI j)), (2, .int (nI how)), (3, .int (nI yy))]) hx hb dL_ends_188 hl (by decide) rfl (fun ls hl => ?_)
        refine lv_lload hx hb dL_ends_190 (lv_at hl 0 rfl) ?_
        refine lv_ldc2 (v := lI (-9000000000000000003)) hx hb hown (hts _ (u_in uk_2_183)) dL_ends_192 ?_
        refine W.lcmp hx hb dL_ends_195 ?_
        refine lv_if_ne (tgt := 232) hx hb dL_ends_196 (by decide) (fun c9 => absurd (c_eq (a := (-9000000000000000003)) (b := (-9000000000000000003)) (by omega)) c9) (fun _ => ?_)
        refine lv_lload hx hb dL_ends_199 (lv_at hl 8 rfl) ?_
        refine lv_lconst (v := lI 0) hx hb dL_ends_201 rfl ?_
        refine W.lcmp hx hb dL_ends_202 ?_
        refine lv_if_ne (tgt := 213) hx hb dL_ends_203 (by decide) (fun c9 => absurd (c_eq (a := (g (200 + j) 7).toInt) (b := 0) ((by rw [h7]; rfl))) c9) (fun _ => ?_)
        refine lv_lload hx hb dL_ends_206 (lv_at hl 4 rfl) ?_
        refine lv_lconst (v := lI 0) hx hb dL_ends_208 rfl ?_
        refine W.lcmp hx hb dL_ends_209 ?_
        refine lv_if_le (tgt := 228) hx hb dL_ends_210 (by decide) (fun c9 => absurd c9 (by rw [(c_gt (a := (barI g q j).toInt) (b := 0) (by omega) (by omega) (by omega))]; decide)) (fun _ => ?_)
        refine lv_aload_n hx hb dL_ends_213 rfl (lv_at hl 9 rfl) ?_
        refine lv_iconst (v := 0) hx hb dL_ends_214 (by decide) ?_
        refine sy_kl (vx_runSW (As := [.ref (ad 60), .int 0]) (rest := []) ⟨hx, hb, hml, hown, hts⟩ (mL_money l hfl Z nT nK cT cK ad g q 0 hI) (vx_cwSW 2 hts (gu_S uk_4_88 uk_4_89 uk_1_0 uk_4_90) rfl rfl rfl (by decide +kernel) ⟨Nat.le_of_ble_eq_true rfl, Nat.le_of_ble_eq_true rfl⟩) ⟨sPreL_blind _, fun U hU hW => ⟨rfl, ⟨hE.next hS hU hW.alike, by rw [hU]; exact hP⟩, hNc.next hW.alike⟩⟩ rfl rfl hl.1 rfl (lv_room (Nat.le_of_ble_eq_true rfl)) dL_ends_215 ⟨by show _ ≤ 80; (try dsimp only); omega, by show _ ≤ 800; (try dsimp only); omega⟩) hS (fun r gz qz H locs e9 hP hS => ?_)
        obtain ⟨er, eg, eq⟩ := eq_q (z := (g 68 0).toInt) a_M.1 rfl e9
        subst er; subst eg; subst eq
        refine lv_lload hx hb dL_ends_218 (lv_at hl 3 rfl) ?_
        refine W.lcmp hx hb dL_ends_220 ?_
        refine lv_if_ne (tgt := 228) hx hb dL_ends_221 (by decide) (fun c9 => absurd (c_eq (a := (g 68 0).toInt) (b := (g 68 0).toInt) (by omega)) c9) (fun _ => ?_)
        refine lv_iconst (v := 1) hx hb dL_ends_224 (by decide) ?_
        refine lv_goto (tgt := 305) hx hb dL_ends_225 (by decide) ?_
        exact sy_iretz hx hb hr hlocks hE hP hS dL_ends_305 ⟨by (try dsimp only); omega, by (try dsimp only); omega⟩ (by decide) ⟨rfl, ci_n (by omega) hI⟩
      · skip
        have h70 := n7 h7
        refine lv_lstore (lv' := [(18, .long (lI (-9000000000000000003))), (17, .int (nI l9)), (15, .long (lI ((g 68 1).toInt))), (13, .long (lI ((g 68 0).toInt))), (11, .long (lI ((barI g q j).toInt))), (10, .int (g (200 + j) 6)), (8, .long (lI ((fX6_interestNow g q j).toInt))), (6, .long (lI ((g (200 + j) 8).toInt))), (4, .long (lI ((g (200 + j) 7).toInt))), (0, .ref (ad 60)), (1, .int (nI j)), (2, .int (nI how)), (3, .int (nI yy))]) hx hb dL_ends_188 hl (by decide) rfl (fun ls hl => ?_)
        refine lv_lload hx hb dL_ends_190 (lv_at hl 0 rfl) ?_
        refine lv_ldc2 (v := lI (-9000000000000000003)) hx hb hown (hts _ (u_in uk_2_183)) dL_ends_192 ?_
        refine W.lcmp hx hb dL_ends_195 ?_
        refine lv_if_ne (tgt := 232) hx hb dL_ends_196 (by decide) (fun c9 => absurd (c_eq (a := (-9000000000000000003)) (b := (-9000000000000000003)) (by omega)) c9) (fun _ => ?_)
        refine lv_lload hx hb dL_ends_199 (lv_at hl 8 rfl) ?_
        refine lv_lconst (v := lI 0) hx hb dL_ends_201 rfl ?_
        refine W.lcmp hx hb dL_ends_202 ?_
        refine lv_if_ne (tgt := 213) hx hb dL_ends_203 (by decide) (fun _ => ?_) (fun c9 => absurd c9 (c_ne (a := (g (200 + j) 7).toInt) (b := 0) (by omega) (by omega) (by omega)))
        refine lv_aload_n hx hb dL_ends_213 rfl (lv_at hl 9 rfl) ?_
        refine lv_iconst (v := 0) hx hb dL_ends_214 (by decide) ?_
        refine sy_kl (vx_runSW (As := [.ref (ad 60), .int 0]) (rest := []) ⟨hx, hb, hml, hown, hts⟩ (mL_money l hfl Z nT nK cT cK ad g q 0 hI) (vx_cwSW 2 hts (gu_S uk_4_88 uk_4_89 uk_1_0 uk_4_90) rfl rfl rfl (by decide +kernel) ⟨Nat.le_of_ble_eq_true rfl, Nat.le_of_ble_eq_true rfl⟩) ⟨sPreL_blind _, fun U hU hW => ⟨rfl, ⟨hE.next hS hU hW.alike, by rw [hU]; exact hP⟩, hNc.next hW.alike⟩⟩ rfl rfl hl.1 rfl (lv_room (Nat.le_of_ble_eq_true rfl)) dL_ends_215 ⟨by show _ ≤ 80; (try dsimp only); omega, by show _ ≤ 800; (try dsimp only); omega⟩) hS (fun r gz qz H locs e9 hP hS => ?_)
        obtain ⟨er, eg, eq⟩ := eq_q (z := (g 68 0).toInt) a_M.1 rfl e9
        subst er; subst eg; subst eq
        refine lv_lload hx hb dL_ends_218 (lv_at hl 3 rfl) ?_
        refine W.lcmp hx hb dL_ends_220 ?_
        refine lv_if_ne (tgt := 228) hx hb dL_ends_221 (by decide) (fun c9 => absurd (c_eq (a := (g 68 0).toInt) (b := (g 68 0).toInt) (by omega)) c9) (fun _ => ?_)
        refine lv_iconst (v := 1) hx hb dL_ends_224 (by decide) ?_
        refine lv_goto (tgt := 305) hx hb dL_ends_225 (by decide) ?_
        exact sy_iretz hx hb hr hlocks hE hP hS dL_ends_305 ⟨by (try dsimp only); omega, by (try dsimp only); omega⟩ (by decide) ⟨rfl, ci_n (by omega) hI⟩
    · skip
      obtain ⟨er, eg, eq⟩ := eq_y (z := ((fX6_interestNow g q j).toInt + ((l9 : Nat) : Int))) h1 h2 e9
      subst er
      rw [eg, eq] at hI2
      rw [eg] at h4
      rw [eg] at h5
      rw [eg, eq] at h6
      rw [eg] at h9
      have hI := hI2
      clear e9
      have b9 := i32b (g1 68 0)
      have b10 := i32b (g1 (200 + j) 8)
      have b11 := i32b (g1 (200 + j) 9)
      refine lv_lstore (lv' := [(18, .long (lI ((fX6_interestNow g q j).toInt + ((l9 : Nat) : Int)))), (17, .int (nI l9)), (15, .long (lI ((g 68 1).toInt))), (13, .long (lI ((g 68 0).toInt))), (11, .long (lI ((barI g q j).toInt))), (10, .int (g (200 + j) 6)), (8, .long (lI ((fX6_interestNow g q j).toInt))), (6, .long (lI ((g (200 + j) 8).toInt))), (4, .long (lI ((g (200 + j) 7).toInt))), (0, .ref (ad 60)), (1, .int (nI j)), (2, .int (nI how)), (3, .int (nI yy))]) hx hb dL_ends_188 hl (by decide) rfl (fun ls hl => ?_)
      refine lv_lload hx hb dL_ends_190 (lv_at hl 0 rfl) ?_
      refine lv_ldc2 (v := lI (-9000000000000000003)) hx hb hown (hts _ (u_in uk_2_183)) dL_ends_192 ?_
      refine W.lcmp hx hb dL_ends_195 ?_
      refine lv_if_ne (tgt := 232) hx hb dL_ends_196 (by decide) (fun _ => ?_) (fun c9 => absurd c9 (c_ne (a := ((fX6_interestNow g q j).toInt + ((l9 : Nat) : Int))) (b := (-9000000000000000003)) (by omega) (by omega) (by omega)))
      refine lv_lload hx hb dL_ends_232 (lv_at hl 0 rfl) ?_
      refine lv_lload hx hb dL_ends_234 (lv_at hl 6 rfl) ?_
      refine lv_iload hx hb dL_ends_236 (lv_at hl 1 rfl) ?_
      refine lv_i2l (v := lI ((l9 : Nat) : Int)) hx hb dL_ends_238 (nI_L (by omega)) ?_
      refine lv_ladd hx hb dL_ends_239 ?_
      refine sy_topL (y := lI ((fX6_interestNow g q j).toInt + ((l9 : Nat) : Int))) (lI_add _ _) ?_
      refine W.lcmp hx hb dL_ends_240 ?_
      refine lv_if_ne (tgt := 304) hx hb dL_ends_241 (by decide) (fun c9 => absurd (c_eq (a := ((fX6_interestNow g q j).toInt + ((l9 : Nat) : Int))) (b := ((fX6_interestNow g q j).toInt + ((l9 : Nat) : Int))) (by omega)) c9) (fun _ => ?_)
      refine lv_aload_n hx hb dL_ends_244 rfl (lv_at hl 9 rfl) ?_
      refine lv_iload_n hx hb dL_ends_245 rfl (lv_at hl 10 rfl) ?_
      refine lv_iconst (v := 2) hx hb dL_ends_246 (by decide) ?_
      refine sy_kl (vx_runSW (As := [.ref (ad 60), .int (nI j), .int 2]) (rest := []) ⟨hx, hb, hml, hown, hts⟩ (mL_ticketOf l hfl Z nT nK cT cK ad g1 q1 (nI j) 2 hI) (vx_cwSW 3 hts (gu_S uk_4_53 uk_4_54 uk_1_0 uk_4_55) rfl rfl rfl (by decide +kernel) ⟨Nat.le_of_ble_eq_true rfl, Nat.le_of_ble_eq_true rfl⟩) ⟨sPreL_blind _, fun U hU hW => ⟨rfl, ⟨hE.next hS hU hW.alike, by rw [hU]; exact hP⟩, hNc.next hW.alike⟩⟩ rfl rfl hl.1 rfl (lv_room (Nat.le_of_ble_eq_true rfl)) dL_ends_247 ⟨by show _ ≤ 80; (try dsimp only); omega, by show _ ≤ 800; (try dsimp only); omega⟩) hS (fun r gz qz H locs e9 hP hS => ?_)
      obtain ⟨er, eg, eq⟩ := eq_q (z := (g1 (200 + j) 8).toInt) (a_K hI hj).2.2.1 rfl e9
      subst er; subst eg; subst eq
      refine lv_lload hx hb dL_ends_250 (lv_at hl 7 rfl) ?_
      refine lv_iload hx hb dL_ends_252 (lv_at hl 1 rfl) ?_
      refine lv_i2l (v := lI ((l9 : Nat) : Int)) hx hb dL_ends_254 (nI_L (by omega)) ?_
      refine lv_lsub hx hb dL_ends_255 ?_
      refine sy_topL (y := lI ((g (200 + j) 8).toInt - ((l9 : Nat) : Int))) (lI_sub _ _) ?_
      refine W.lcmp hx hb dL_ends_256 ?_
      refine lv_if_ne (tgt := 304) hx hb dL_ends_257 (by decide) (fun c9 => absurd (c_eq (a := (g1 (200 + j) 8).toInt) (b := ((g (200 + j) 8).toInt - ((l9 : Nat) : Int))) (by omega)) c9) (fun _ => ?_)
      refine lv_aload_n hx hb dL_ends_260 rfl (lv_at hl 9 rfl) ?_
      refine lv_iload_n hx hb dL_ends_261 rfl (lv_at hl 10 rfl) ?_
      refine lv_iconst (v := 3) hx hb dL_ends_262 (by decide) ?_
      refine sy_kl (vx_runSW (As := [.ref (ad 60), .int (nI j), .int 3]) (rest := []) ⟨hx, hb, hml, hown, hts⟩ (mL_ticketOf l hfl Z nT nK cT cK ad g1 q1 (nI j) 3 hI) (vx_cwSW 3 hts (gu_S uk_4_53 uk_4_54 uk_1_0 uk_4_55) rfl rfl rfl (by decide +kernel) ⟨Nat.le_of_ble_eq_true rfl, Nat.le_of_ble_eq_true rfl⟩) ⟨sPreL_blind _, fun U hU hW => ⟨rfl, ⟨hE.next hS hU hW.alike, by rw [hU]; exact hP⟩, hNc.next hW.alike⟩⟩ rfl rfl hl.1 rfl (lv_room (Nat.le_of_ble_eq_true rfl)) dL_ends_263 ⟨by show _ ≤ 80; (try dsimp only); omega, by show _ ≤ 800; (try dsimp only); omega⟩) hS (fun r gz qz H locs e9 hP hS => ?_)
      obtain ⟨er, eg, eq⟩ := eq_q (z := 0) (a_K hI hj).2.2.2.1 (by rw [h6]; rfl) e9
      subst er; subst eg; subst eq
      refine lv_lconst (v := lI 0) hx hb dL_ends_266 rfl ?_
      refine W.lcmp hx hb dL_ends_267 ?_
      refine lv_if_ne (tgt := 304) hx hb dL_ends_268 (by decide) (fun c9 => absurd (c_eq (a := 0) (b := 0) (by omega)) c9) (fun _ => ?_)
      refine lv_aload_n hx hb dL_ends_271 rfl (lv_at hl 9 rfl) ?_
      refine lv_iload_n hx hb dL_ends_272 rfl (lv_at hl 10 rfl) ?_
      refine lv_iconst (v := 5) hx hb dL_ends_273 (by decide) ?_
      refine sy_kl (vx_runSW (As := [.ref (ad 60), .int (nI j), .int 5]) (rest := []) ⟨hx, hb, hml, hown, hts⟩ (mL_ticketOf l hfl Z nT nK cT cK ad g1 q1 (nI j) 5 hI) (vx_cwSW 3 hts (gu_S uk_4_53 uk_4_54 uk_1_0 uk_4_55) rfl rfl rfl (by decide +kernel) ⟨Nat.le_of_ble_eq_true rfl, Nat.le_of_ble_eq_true rfl⟩) ⟨sPreL_blind _, fun U hU hW => ⟨rfl, ⟨hE.next hS hU hW.alike, by rw [hU]; exact hP⟩, hNc.next hW.alike⟩⟩ rfl rfl hl.1 rfl (lv_room (Nat.le_of_ble_eq_true rfl)) dL_ends_274 ⟨by show _ ≤ 80; (try dsimp only); omega, by show _ ≤ 800; (try dsimp only); omega⟩) hS (fun r gz qz H locs e9 hP hS => ?_)
      obtain ⟨er, eg, eq⟩ := eq_q (z := (g1 (200 + j) 9).toInt) (a_K hI hj).2.2.2.2.2.1 rfl e9
      subst er; subst eg; subst eq
      refine lv_aload_n hx hb dL_ends_277 rfl (lv_at hl 9 rfl) ?_
      refine sy_ki (sy_rV (o := 60) (As := []) (rest := [.long (lI ((g1 (200 + j) 9).toInt))]) ⟨hx, hb, hml, hown, hts⟩ hE hP hS (mX6_day l hfl Z nT nK cT cK ad g1 q1 (by have := ci_T hI; omega) (ci_IG hI) (ci_IQ hI)) (cwV 0 hts (gu_V uk_1_183 uk_1_184 uk_1_185 uk_1_1 uk_1_186) rfl rfl rfl (by decide +kernel) ⟨Nat.le_of_ble_eq_true rfl, Nat.le_of_ble_eq_true rfl⟩) (sy_recv (kc := 7) hE hP rfl (by decide) rfl rfl rfl) rfl hl.1 rfl (Nat.le_of_ble_eq_true rfl) dL_ends_278 ⟨by show _ ≤ 80; (try dsimp only); omega, by show _ ≤ 800; (try dsimp only); omega⟩) hS (fun r gz qz H locs e9 hP hS => ?_)
      obtain ⟨er, eg, eq⟩ : g1 60 9 = r ∧ g1 = gz ∧ q1 = qz := by rw [show fX6_day g1 q1 = g1 60 9 from rfl] at e9; cases e9; exact ⟨rfl, rfl, rfl⟩
      subst er; subst eg; subst eq
      refine lv_i2l (v := lI (g1 60 9).toInt) hx hb dL_ends_281 (i_L _) ?_
      refine W.lcmp hx hb dL_ends_282 ?_
      refine lv_if_ne (tgt := 304) hx hb dL_ends_283 (by decide) (fun c9 => absurd (c_eq (a := (g1 (200 + j) 9).toInt) (b := (g1 60 9).toInt) ((by rw [h9]))) c9) (fun _ => ?_)
      refine lv_aload_n hx hb dL_ends_286 rfl (lv_at hl 9 rfl) ?_
      refine lv_iconst (v := 0) hx hb dL_ends_287 (by decide) ?_
      refine sy_kl (vx_runSW (As := [.ref (ad 60), .int 0]) (rest := []) ⟨hx, hb, hml, hown, hts⟩ (mL_money l hfl Z nT nK cT cK ad g1 q1 0 hI) (vx_cwSW 2 hts (gu_S uk_4_88 uk_4_89 uk_1_0 uk_4_90) rfl rfl rfl (by decide +kernel) ⟨Nat.le_of_ble_eq_true rfl, Nat.le_of_ble_eq_true rfl⟩) ⟨sPreL_blind _, fun U hU hW => ⟨rfl, ⟨hE.next hS hU hW.alike, by rw [hU]; exact hP⟩, hNc.next hW.alike⟩⟩ rfl rfl hl.1 rfl (lv_room (Nat.le_of_ble_eq_true rfl)) dL_ends_288 ⟨by show _ ≤ 80; (try dsimp only); omega, by show _ ≤ 800; (try dsimp only); omega⟩) hS (fun r gz qz H locs e9 hP hS => ?_)
      obtain ⟨er, eg, eq⟩ := eq_q (z := (g1 68 0).toInt) a_M.1 rfl e9
      subst er; subst eg; subst eq
      refine lv_lload hx hb dL_ends_291 (lv_at hl 3 rfl) ?_
      refine lv_lload hx hb dL_ends_293 (lv_at hl 0 rfl) ?_
      refine lv_ladd hx hb dL_ends_295 ?_
      refine sy_topL (y := lI ((g 68 0).toInt + ((fX6_interestNow g q j).toInt + ((l9 : Nat) : Int)))) (lI_add _ _) ?_
      refine W.lcmp hx hb dL_ends_296 ?_
      refine lv_if_ne (tgt := 304) hx hb dL_ends_297 (by decide) (fun c9 => absurd (c_eq (a := (g1 68 0).toInt) (b := ((g 68 0).toInt + ((fX6_interestNow g q j).toInt + ((l9 : Nat) : Int)))) (by omega)) c9) (fun _ => ?_)
      refine lv_iconst (v := 1) hx hb dL_ends_300 (by decide) ?_
      refine lv_goto (tgt := 305) hx hb dL_ends_301 (by decide) ?_
      exact sy_iretz hx hb hr hlocks hE hP hS dL_ends_305 ⟨by (try dsimp only); omega, by (try dsimp only); omega⟩ (by decide) ⟨rfl, hI⟩
  · skip
    obtain ⟨pm, hpm⟩ : ∃ pm : Nat, pm = if yy % 5 = 0 then yy / 8 % 30 else yy / 8 % 4000 := ⟨_, rfl⟩
    have hpm4 : pm ≤ 4000 := by rw [hpm]; split <;> omega
    have bl := i32b (fX4_lastDay g q j)
    have bd := i32b (g 60 9)
    have hrs : 0 ≤ rsv g q j ∧ rsv g q j ≤ 20000 := by unfold rsv; split; omega; split <;> omega
    rcases p_offer hI hn hj (m := pm) hpm4 with hw | ⟨h7, hbz, hlt, h1, hI2, hO⟩
    · skip
      by_cases hlate : (fX4_lastDay g q j).toInt < (g 60 9).toInt
      · skip
        refine lv_iload_n hx hb dL_ends_56 rfl (lv_at hl 9 rfl) ?_
        refine lv_iconst (v := 2) hx hb dL_ends_57 (by decide) ?_
        refine lv_icmp_ge (tgt := 166) hx hb dL_ends_58 (by decide) (fun _ => ?_) (fun c9 => absurd ((nI_leI (a := 2) (b := how) (by omega) (by omega)).mpr (by omega)) c9)
        refine lv_iload_n hx hb dL_ends_166 rfl (lv_at hl 9 rfl) ?_
        refine lv_iconst (v := 4) hx hb dL_ends_167 (by decide) ?_
        refine lv_icmp_ge (tgt := 306) hx hb dL_ends_168 (by decide) (fun _ => ?_) (fun c9 => absurd ((nI_leI (a := 4) (b := how) (by omega) (by omega)).mpr (by omega)) c9)
        refine lv_iload_n hx hb dL_ends_306 rfl (lv_at hl 9 rfl) ?_
        refine lv_bipush (v := 7) hx hb dL_ends_307 (by decide) ?_
        refine lv_icmp_ge (tgt := 629) hx hb dL_ends_309 (by decide) (fun c9 => absurd c9 (mt (nI_leI (a := 7) (b := how) (by omega) (by omega)).mp (by omega))) (fun _ => ?_)
        refine lv_aload_n hx hb dL_ends_312 rfl (lv_at hl 7 rfl) ?_
        refine lv_iload_n hx hb dL_ends_313 rfl (lv_at hl 8 rfl) ?_
        refine lv_bipush (v := 6) hx hb dL_ends_314 (by decide) ?_
        refine sy_kl (vx_runSW (As := [.ref (ad 60), .int (nI j), .int 6]) (rest := []) ⟨hx, hb, hml, hown, hts⟩ (mL_ticketOf l hfl Z nT nK cT cK ad g q (nI j) 6 hI) (vx_cwSW 3 hts (gu_S uk_4_53 uk_4_54 uk_1_0 uk_4_55) rfl rfl rfl (by decide +kernel) ⟨Nat.le_of_ble_eq_true rfl, Nat.le_of_ble_eq_true rfl⟩) ⟨sPreL_blind _, fun U hU hW => ⟨rfl, ⟨hE.next hS hU hW.alike, by rw [hU]; exact hP⟩, hNc.next hW.alike⟩⟩ rfl rfl hl.1 rfl (lv_room (Nat.le_of_ble_eq_true rfl)) dL_ends_316 ⟨by show _ ≤ 80; (try dsimp only); omega, by show _ ≤ 800; (try dsimp only); omega⟩) hS (fun r gz qz H locs e9 hP hS => ?_)
        obtain ⟨er, eg, eq⟩ := eq_q (z := (fX4_lastDay g q j).toInt) (a_K hI hj).2.2.2.2.2.2.1 rfl e9
        subst er; subst eg; subst eq
        refine lv_aload_n hx hb dL_ends_319 rfl (lv_at hl 7 rfl) ?_
        refine sy_ki (sy_rV (o := 60) (As := []) (rest := [.long (lI ((fX4_lastDay g q j).toInt))]) ⟨hx, hb, hml, hown, hts⟩ hE hP hS (mX6_day l hfl Z nT nK cT cK ad g q (by have := ci_T hI; omega) (ci_IG hI) (ci_IQ hI)) (cwV 0 hts (gu_V uk_1_183 uk_1_184 uk_1_185 uk_1_1 uk_1_186) rfl rfl rfl (by decide +kernel) ⟨Nat.le_of_ble_eq_true rfl, Nat.le_of_ble_eq_true rfl⟩) (sy_recv (kc := 7) hE hP rfl (by decide) rfl rfl rfl) rfl hl.1 rfl (Nat.le_of_ble_eq_true rfl) dL_ends_320 ⟨by show _ ≤ 80; (try dsimp only); omega, by show _ ≤ 800; (try dsimp only); omega⟩) hS (fun r gz qz H locs e9 hP hS => ?_)
        obtain ⟨er, eg, eq⟩ : g 60 9 = r ∧ g = gz ∧ q = qz := by rw [show fX6_day g q = g 60 9 from rfl] at e9; cases e9; exact ⟨rfl, rfl, rfl⟩
        subst er; subst eg; subst eq
        refine lv_i2l (v := lI (g 60 9).toInt) hx hb dL_ends_323 (i_L _) ?_
        refine W.lcmp hx hb dL_ends_324 ?_
        refine lv_if_ge (tgt := 332) hx hb dL_ends_325 (by decide) (fun c9 => absurd c9 (by rw [(c_lt (a := (fX4_lastDay g q j).toInt) (b := (g 60 9).toInt) (by omega) (by omega) (by omega))]; decide)) (fun _ => ?_)
        refine lv_iconst (v := 1) hx hb dL_ends_328 (by decide) ?_
        refine lv_goto (tgt := 333) hx hb dL_ends_329 (by decide) ?_
        refine lv_istore (lv' := [(17, .int 1), (15, .long (lI ((g 68 1).toInt))), (13, .long (lI ((g 68 0).toInt))), (11, .long (lI ((barI g q j).toInt))), (10, .int (g (200 + j) 6)), (8, .long (lI ((fX6_interestNow g q j).toInt))), (6, .long (lI ((g (200 + j) 8).toInt))), (4, .long (lI ((g (200 + j) 7).toInt))), (0, .ref (ad 60)), (1, .int (nI j)), (2, .int (nI how)), (3, .int (nI yy))]) hx hb dL_ends_333 hl (by decide) rfl (fun ls hl => ?_)
        refine lv_aload_n hx hb dL_ends_335 rfl (lv_at hl 8 rfl) ?_
        refine lv_iload_n hx hb dL_ends_336 rfl (lv_at hl 9 rfl) ?_
        refine lv_bipush (v := 9) hx hb dL_ends_337 (by decide) ?_
        refine sy_kl (vx_runSW (As := [.ref (ad 60), .int (nI j), .int 9]) (rest := []) ⟨hx, hb, hml, hown, hts⟩ (mL_ticketOf l hfl Z nT nK cT cK ad g q (nI j) 9 hI) (vx_cwSW 3 hts (gu_S uk_4_53 uk_4_54 uk_1_0 uk_4_55) rfl rfl rfl (by decide +kernel) ⟨Nat.le_of_ble_eq_true rfl, Nat.le_of_ble_eq_true rfl⟩) ⟨sPreL_blind _, fun U hU hW => ⟨rfl, ⟨hE.next hS hU hW.alike, by rw [hU]; exact hP⟩, hNc.next hW.alike⟩⟩ rfl rfl hl.1 rfl (lv_room (Nat.le_of_ble_eq_true rfl)) dL_ends_339 ⟨by show _ ≤ 80; (try dsimp only); omega, by show _ ≤ 800; (try dsimp only); omega⟩) hS (fun r gz qz H locs e9 hP hS => ?_)
        obtain ⟨er, eg, eq⟩ := eq_q (z := (g (200 + j) 13).toInt) (a_K hI hj).2.2.2.2.2.2.2.2.2 rfl e9
        subst er; subst eg; subst eq
        refine lv_lstore (lv' := [(18, .long (lI ((g (200 + j) 13).toInt))), (17, .int 1), (15, .long (lI ((g 68 1).toInt))), (13, .long (lI ((g 68 0).toInt))), (11, .long (lI ((barI g q j).toInt))), (10, .int (g (200 + j) 6)), (8, .long (lI ((fX6_interestNow g q j).toInt))), (6, .long (lI ((g (200 + j) 8).toInt))), (4, .long (lI ((g (200 + j) 7).toInt))), (0, .ref (ad 60)), (1, .int (nI j)), (2, .int (nI how)), (3, .int (nI yy))]) hx hb dL_ends_342 hl (by decide) rfl (fun ls hl => ?_)
        refine W.widen (k := 40) (n := 400) (by (try dsimp only); omega) (by (try dsimp only); omega) ?_
        have hM : W p l e ({ frames := 10, cells := 80, slots := 800, locals := 172 } : Room) s m ([.ref (ad 60), .int (nI j), .int (nI how), .int (nI yy)] : List Value).toArray below meth c H locs 40 400 (MQ below (sQi Z nT nK cT cK ad (fun r g1 q1 => r = 1 ∧ CI (n + 1) nT nK cT cK g1 q1)) ([.ref (ad 60), .int (nI j), .int (nI how), .int (nI yy)] : List Value).toArray s 80 800 (sy_A Z)) (F0 m 368 ls [.int (nI pm)]) := by
          refine lv_istore (lv' := [(20, .int (nI pm)), (18, .long (lI ((g (200 + j) 13).toInt))), (17, .int 1), (15, .long (lI ((g 68 1).toInt))), (13, .long (lI ((g 68 0).toInt))), (11, .long (lI ((barI g q j).toInt))), (10, .int (g (200 + j) 6)), (8, .long (lI ((fX6_interestNow g q j).toInt))), (6, .long (lI ((g (200 + j) 8).toInt))), (4, .long (lI ((g (200 + j) 7).toInt))), (0, .ref (ad 60)), (1, .int (nI j)), (2, .int (nI how)), (3, .int (nI yy))]) hx hb dL_ends_368 hl (by decide) rfl (fun ls hl => ?_)
          refine lv_aload_n hx hb dL_ends_370 rfl (lv_at hl 10 rfl) ?_
          refine lv_iload_n hx hb dL_ends_371 rfl (lv_at hl 11 rfl) ?_
          refine lv_iload hx hb dL_ends_372 (lv_at hl 0 rfl) ?_
          refine sy_kl (vx_runSW (As := [.ref (ad 60), .int (nI j), .int (nI pm)]) (rest := []) ⟨hx, hb, hml, hown, hts⟩ (mL_offer l hfl Z nT nK cT cK ad g q (nI j) (nI pm) hI) (vx_cwSW 3 hts (gu_S uk_4_167 uk_4_168 uk_1_0 uk_4_169) rfl rfl rfl (by decide +kernel) ⟨Nat.le_of_ble_eq_true rfl, Nat.le_of_ble_eq_true rfl⟩) ⟨sPreL_blind _, fun U hU hW => ⟨rfl, ⟨hE.next hS hU hW.alike, by rw [hU]; exact hP⟩, hNc.next hW.alike⟩⟩ rfl rfl hl.1 rfl (lv_room (Nat.le_of_ble_eq_true rfl)) dL_ends_374 ⟨by show _ ≤ 80; (try dsimp only); omega, by show _ ≤ 800; (try dsimp only); omega⟩) hS (fun r g1 q1 H locs e9 hP hS => ?_)
          obtain ⟨er, eg, eq⟩ := eq_n3 hw e9
          subst er; subst eg; subst eq
          refine lv_lstore (lv' := [(21, .long (lI (-9000000000000000003))), (20, .int (nI pm)), (18, .long (lI ((g (200 + j) 13).toInt))), (17, .int 1), (15, .long (lI ((g 68 1).toInt))), (13, .long (lI ((g 68 0).toInt))), (11, .long (lI ((barI g q j).toInt))), (10, .int (g (200 + j) 6)), (8, .long (lI ((fX6_interestNow g q j).toInt))), (6, .long (lI ((g (200 + j) 8).toInt))), (4, .long (lI ((g (200 + j) 7).toInt))), (0, .ref (ad 60)), (1, .int (nI j)), (2, .int (nI how)), (3, .int (nI yy))]) hx hb dL_ends_377 hl (by decide) rfl (fun ls hl => ?_)
          refine W.widen (k := 60) (n := 500) (by (try dsimp only); omega) (by (try dsimp only); omega) ?_
          have hR : W p l e ({ frames := 10, cells := 80, slots := 800, locals := 172 } : Room) s m ([.ref (ad 60), .int (nI j), .int (nI how), .int (nI yy)] : List Value).toArray below meth c H locs 60 500 (MQ below (sQi Z nT nK cT cK ad (fun r g1 q1 => r = 1 ∧ CI (n + 1) nT nK cT cK g1 q1)) ([.ref (ad 60), .int (nI j), .int (nI how), .int (nI yy)] : List Value).toArray s 80 800 (sy_A Z)) (F0 m 407 ls [.long (lI (rsv g q j))]) := by
            refine lv_lstore (lv' := [(23, .long (lI (rsv g q j))), (21, .long (lI (-9000000000000000003))), (20, .int (nI pm)), (18, .long (lI ((g (200 + j) 13).toInt))), (17, .int 1), (15, .long (lI ((g 68 1).toInt))), (13, .long (lI ((g 68 0).toInt))), (11, .long (lI ((barI g q j).toInt))), (10, .int (g (200 + j) 6)), (8, .long (lI ((fX6_interestNow g q j).toInt))), (6, .long (lI ((g (200 + j) 8).toInt))), (4, .long (lI ((g (200 + j) 7).toInt))), (0, .ref (ad 60)), (1, .int (nI j)), (2, .int (nI how)), (3, .int (nI yy))]) hx hb dL_ends_407 hl (by decide) rfl (fun ls hl => ?_)
            refine lv_lload hx hb dL_ends_409 (lv_at hl 1 rfl) ?_
            refine lv_ldc2 (v := lI (-9000000000000000003)) hx hb hown (hts _ (u_in uk_2_183)) dL_ends_411 ?_
            refine W.lcmp hx hb dL_ends_414 ?_
            refine lv_if_ne (tgt := 436) hx hb dL_ends_415 (by decide) (fun c9 => absurd (c_eq (a := (-9000000000000000003)) (b := (-9000000000000000003)) (by omega)) c9) (fun _ => ?_)
            refine lv_aload_n hx hb dL_ends_418 rfl (lv_at hl 12 rfl) ?_
            refine lv_iload_n hx hb dL_ends_419 rfl (lv_at hl 13 rfl) ?_
            refine lv_iconst (v := 0) hx hb dL_ends_420 (by decide) ?_
            refine sy_kl (vx_runSW (As := [.ref (ad 60), .int (nI j), .int 0]) (rest := []) ⟨hx, hb, hml, hown, hts⟩ (mL_ticketOf l hfl Z nT nK cT cK ad g q (nI j) 0 hI) (vx_cwSW 3 hts (gu_S uk_4_53 uk_4_54 uk_1_0 uk_4_55) rfl rfl rfl (by decide +kernel) ⟨Nat.le_of_ble_eq_true rfl, Nat.le_of_ble_eq_true rfl⟩) ⟨sPreL_blind _, fun U hU hW => ⟨rfl, ⟨hE.next hS hU hW.alike, by rw [hU]; exact hP⟩, hNc.next hW.alike⟩⟩ rfl rfl hl.1 rfl (lv_room (Nat.le_of_ble_eq_true rfl)) dL_ends_421 ⟨by show _ ≤ 80; (try dsimp only); omega, by show _ ≤ 800; (try dsimp only); omega⟩) hS (fun r gz qz H locs e9 hP hS => ?_)
            obtain ⟨er, eg, eq⟩ := eq_q (z := (g (200 + j) 7).toInt) (a_K hI hj).1 rfl e9
            subst er; subst eg; subst eq
            refine lv_lload hx hb dL_ends_424 (lv_at hl 11 rfl) ?_
            refine W.lcmp hx hb dL_ends_426 ?_
            refine lv_if_ne (tgt := 434) hx hb dL_ends_427 (by decide) (fun c9 => absurd (c_eq (a := (g (200 + j) 7).toInt) (b := (g (200 + j) 7).toInt) (by omega)) c9) (fun _ => ?_)
            refine lv_iconst (v := 1) hx hb dL_ends_430 (by decide) ?_
            refine lv_goto (tgt := 435) hx hb dL_ends_431 (by decide) ?_
            exact sy_iretz hx hb hr hlocks hE hP hS dL_ends_435 ⟨by (try dsimp only); omega, by (try dsimp only); omega⟩ (by decide) ⟨rfl, ci_n (by omega) hI⟩
          by_cases v0 : g (200 + j) 13 = 0
          · skip
            refine lv_lload hx hb dL_ends_379 (lv_at hl 2 rfl) ?_
            refine lv_lconst (v := lI 0) hx hb dL_ends_381 rfl ?_
            refine W.lcmp hx hb dL_ends_382 ?_
            refine lv_if_ne (tgt := 394) hx hb dL_ends_383 (by decide) (fun c9 => absurd (c_eq (a := (g (200 + j) 13).toInt) (b := 0) ((by rw [v0]; rfl))) c9) (fun _ => ?_)
            refine lv_lload hx hb dL_ends_386 (lv_at hl 9 rfl) ?_
            refine lv_lload hx hb dL_ends_388 (lv_at hl 8 rfl) ?_
            refine lv_ladd hx hb dL_ends_390 ?_
            refine sy_topL (y := lI ((g (200 + j) 8).toInt + (fX6_interestNow g q j).toInt)) (lI_add _ _) ?_
            refine lv_goto (tgt := 407) hx hb dL_ends_391 (by decide) ?_
            refine sy_topL (y := lI (rsv g q j)) (by unfold rsv; rw [if_pos v0]) ?_
            exact hR
          · skip
            have v0n : (g (200 + j) 13).toInt ≠ 0 := fun z => v0 (Int32.toInt_inj.mp z)
            by_cases v1 : g (200 + j) 13 = 1
            · skip
              refine lv_lload hx hb dL_ends_379 (lv_at hl 2 rfl) ?_
              refine lv_lconst (v := lI 0) hx hb dL_ends_381 rfl ?_
              refine W.lcmp hx hb dL_ends_382 ?_
              refine lv_if_ne (tgt := 394) hx hb dL_ends_383 (by decide) (fun _ => ?_) (fun c9 => absurd c9 (c_ne (a := (g (200 + j) 13).toInt) (b := 0) (by omega) (by omega) (by omega)))
              refine lv_lload hx hb dL_ends_394 (lv_at hl 2 rfl) ?_
              refine lv_lconst (v := lI 1) hx hb dL_ends_396 rfl ?_
              refine W.lcmp hx hb dL_ends_397 ?_
              refine lv_if_ne (tgt := 406) hx hb dL_ends_398 (by decide) (fun c9 => absurd (c_eq (a := (g (200 + j) 13).toInt) (b := 1) ((by rw [v1]; rfl))) c9) (fun _ => ?_)
              refine lv_lload hx hb dL_ends_401 (lv_at hl 9 rfl) ?_
              refine lv_goto (tgt := 407) hx hb dL_ends_403 (by decide) ?_
              refine sy_topL (y := lI (rsv g q j)) (by unfold rsv; rw [if_neg v0, if_pos v1]) ?_
              exact hR
            · skip
              have v1n : (g (200 + j) 13).toInt ≠ 1 := fun z => v1 (Int32.toInt_inj.mp z)
              refine lv_lload hx hb dL_ends_379 (lv_at hl 2 rfl) ?_
              refine lv_lconst (v := lI 0) hx hb dL_ends_381 rfl ?_
              refine W.lcmp hx hb dL_ends_382 ?_
              refine lv_if_ne (tgt := 394) hx hb dL_ends_383 (by decide) (fun _ => ?_) (fun c9 => absurd c9 (c_ne (a := (g (200 + j) 13).toInt) (b := 0) (by omega) (by omega) (by omega)))
              refine lv_lload hx hb dL_ends_394 (lv_at hl 2 rfl) ?_
              refine lv_lconst (v := lI 1) hx hb dL_ends_396 rfl ?_
              refine W.lcmp hx hb dL_ends_397 ?_
              refine lv_if_ne (tgt := 406) hx hb dL_ends_398 (by decide) (fun _ => ?_) (fun c9 => absurd c9 (c_ne (a := (g (200 + j) 13).toInt) (b := 1) (by omega) (by omega) (by omega)))
              refine lv_lconst (v := lI 0) hx hb dL_ends_406 rfl ?_
              refine sy_topL (y := lI (rsv g q j)) (by unfold rsv; rw [if_neg v0, if_neg v1]) ?_
              exact hR
        by_cases h5y : yy % 5 = 0
        · skip
          refine lv_iload_n hx hb dL_ends_344 rfl (lv_at hl 12 rfl) ?_
          refine lv_iconst (v := 5) hx hb dL_ends_345 (by decide) ?_
          refine lv_irem hx hb dL_ends_346 (by decide) ?_
          refine sy_top (y := nI (yy % 5)) (nI_rem (a := yy) (b := 5) (by omega) (by omega)) ?_
          refine lv_if_ne (tgt := 360) hx hb dL_ends_347 (by decide) (fun c9 => absurd ((nI_eq (a := (yy % 5)) (b := 0) (by omega) (by omega)).mpr (by omega)) c9) (fun _ => ?_)
          refine lv_iload_n hx hb dL_ends_350 rfl (lv_at hl 12 rfl) ?_
          refine lv_bipush (v := 8) hx hb dL_ends_351 (by decide) ?_
          refine lv_idiv hx hb dL_ends_353 (by decide) ?_
          refine sy_top (y := nI (yy / 8)) (nI_div (a := yy) (b := 8) (by omega) (by omega)) ?_
          refine lv_bipush (v := 30) hx hb dL_ends_354 (by decide) ?_
          refine lv_irem hx hb dL_ends_356 (by decide) ?_
          refine sy_top (y := nI ((yy / 8) % 30)) (nI_rem (a := (yy / 8)) (b := 30) (by omega) (by omega)) ?_
          refine lv_goto (tgt := 368) hx hb dL_ends_357 (by decide) ?_
          refine sy_top (y := nI pm) (by rw [hpm, if_pos h5y]) ?_
          exact hM
        · skip
          refine lv_iload_n hx hb dL_ends_344 rfl (lv_at hl 12 rfl) ?_
          refine lv_iconst (v := 5) hx hb dL_ends_345 (by decide) ?_
          refine lv_irem hx hb dL_ends_346 (by decide) ?_
          refine sy_top (y := nI (yy % 5)) (nI_rem (a := yy) (b := 5) (by omega) (by omega)) ?_
          refine lv_if_ne (tgt := 360) hx hb dL_ends_347 (by decide) (fun _ => ?_) (fun c9 => absurd c9 (mt (nI_eq (a := (yy % 5)) (b := 0) (by omega) (by omega)).mp (by omega)))
          refine lv_iload_n hx hb dL_ends_360 rfl (lv_at hl 12 rfl) ?_
          refine lv_bipush (v := 8) hx hb dL_ends_361 (by decide) ?_
          refine lv_idiv hx hb dL_ends_363 (by decide) ?_
          refine sy_top (y := nI (yy / 8)) (nI_div (a := yy) (b := 8) (by omega) (by omega)) ?_
          refine lv_sipush (v := 4000) hx hb dL_ends_364 (by decide) ?_
          refine lv_irem hx hb dL_ends_367 (by decide) ?_
          refine sy_top (y := nI ((yy / 8) % 4000)) (nI_rem (a := (yy / 8)) (b := 4000) (by omega) (by omega)) ?_
          refine sy_top (y := nI pm) (by rw [hpm, if_neg h5y]) ?_
          exact hM
      · skip
        refine lv_iload_n hx hb dL_ends_56 rfl (lv_at hl 9 rfl) ?_
        refine lv_iconst (v := 2) hx hb dL_ends_57 (by decide) ?_
        refine lv_icmp_ge (tgt := 166) hx hb dL_ends_58 (by decide) (fun _ => ?_) (fun c9 => absurd ((nI_leI (a := 2) (b := how) (by omega) (by omega)).mpr (by omega)) c9)
        refine lv_iload_n hx hb dL_ends_166 rfl (lv_at hl 9 rfl) ?_
        refine lv_iconst (v := 4) hx hb dL_ends_167 (by decide) ?_
        refine lv_icmp_ge (tgt := 306) hx hb dL_ends_168 (by decide) (fun _ => ?_) (fun c9 => absurd ((nI_leI (a := 4) (b := how) (by omega) (by omega)).mpr (by omega)) c9)
        refine lv_iload_n hx hb dL_ends_306 rfl (lv_at hl 9 rfl) ?_
        refine lv_bipush (v := 7) hx hb dL_ends_307 (by decide) ?_
        refine lv_icmp_ge (tgt := 629) hx hb dL_ends_309 (by decide) (fun c9 => absurd c9 (mt (nI_leI (a := 7) (b := how) (by omega) (by omega)).mp (by omega))) (fun _ => ?_)
        refine lv_aload_n hx hb dL_ends_312 rfl (lv_at hl 7 rfl) ?_
        refine lv_iload_n hx hb dL_ends_313 rfl (lv_at hl 8 rfl) ?_
        refine lv_bipush (v := 6) hx hb dL_ends_314 (by decide) ?_
        refine sy_kl (vx_runSW (As := [.ref (ad 60), .int (nI j), .int 6]) (rest := []) ⟨hx, hb, hml, hown, hts⟩ (mL_ticketOf l hfl Z nT nK cT cK ad g q (nI j) 6 hI) (vx_cwSW 3 hts (gu_S uk_4_53 uk_4_54 uk_1_0 uk_4_55) rfl rfl rfl (by decide +kernel) ⟨Nat.le_of_ble_eq_true rfl, Nat.le_of_ble_eq_true rfl⟩) ⟨sPreL_blind _, fun U hU hW => ⟨rfl, ⟨hE.next hS hU hW.alike, by rw [hU]; exact hP⟩, hNc.next hW.alike⟩⟩ rfl rfl hl.1 rfl (lv_room (Nat.le_of_ble_eq_true rfl)) dL_ends_316 ⟨by show _ ≤ 80; (try dsimp only); omega, by show _ ≤ 800; (try dsimp only); omega⟩) hS (fun r gz qz H locs e9 hP hS => ?_)
        obtain ⟨er, eg, eq⟩ := eq_q (z := (fX4_lastDay g q j).toInt) (a_K hI hj).2.2.2.2.2.2.1 rfl e9
        subst er; subst eg; subst eq
        refine lv_aload_n hx hb dL_ends_319 rfl (lv_at hl 7 rfl) ?_
        refine sy_ki (sy_rV (o := 60) (As := []) (rest := [.long (lI ((fX4_lastDay g q j).toInt))]) ⟨hx, hb, hml, hown, hts⟩ hE hP hS (mX6_day l hfl Z nT nK cT cK ad g q (by have := ci_T hI; omega) (ci_IG hI) (ci_IQ hI)) (cwV 0 hts (gu_V uk_1_183 uk_1_184 uk_1_185 uk_1_1 uk_1_186) rfl rfl rfl (by decide +kernel) ⟨Nat.le_of_ble_eq_true rfl, Nat.le_of_ble_eq_true rfl⟩) (sy_recv (kc := 7) hE hP rfl (by decide) rfl rfl rfl) rfl hl.1 rfl (Nat.le_of_ble_eq_true rfl) dL_ends_320 ⟨by show _ ≤ 80; (try dsimp only); omega, by show _ ≤ 800; (try dsimp only); omega⟩) hS (fun r gz qz H locs e9 hP hS => ?_)
        obtain ⟨er, eg, eq⟩ : g 60 9 = r ∧ g = gz ∧ q = qz := by rw [show fX6_day g q = g 60 9 from rfl] at e9; cases e9; exact ⟨rfl, rfl, rfl⟩
        subst er; subst eg; subst eq
        refine lv_i2l (v := lI (g 60 9).toInt) hx hb dL_ends_323 (i_L _) ?_
        refine W.lcmp hx hb dL_ends_324 ?_
        refine lv_if_ge (tgt := 332) hx hb dL_ends_325 (by decide) (fun _ => ?_) (fun c9 => absurd (by rw [le_of_toInt]; have h9 := (c_ge (a := (fX4_lastDay g q j).toInt) (b := (g 60 9).toInt) (by omega) (by omega) (by omega)); rw [lt_of_toInt] at h9; have h8 : (0 : Int32).toInt = 0 := rfl; omega) c9)
        refine lv_iconst (v := 0) hx hb dL_ends_332 (by decide) ?_
        refine lv_istore (lv' := [(17, .int 0), (15, .long (lI ((g 68 1).toInt))), (13, .long (lI ((g 68 0).toInt))), (11, .long (lI ((barI g q j).toInt))), (10, .int (g (200 + j) 6)), (8, .long (lI ((fX6_interestNow g q j).toInt))), (6, .long (lI ((g (200 + j) 8).toInt))), (4, .long (lI ((g (200 + j) 7).toInt))), (0, .ref (ad 60)), (1, .int (nI j)), (2, .int (nI how)), (3, .int (nI yy))]) hx hb dL_ends_333 hl (by decide) rfl (fun ls hl => ?_)
        refine lv_aload_n hx hb dL_ends_335 rfl (lv_at hl 8 rfl) ?_
        refine lv_iload_n hx hb dL_ends_336 rfl (lv_at hl 9 rfl) ?_
        refine lv_bipush (v := 9) hx hb dL_ends_337 (by decide) ?_
        refine sy_kl (vx_runSW (As := [.ref (ad 60), .int (nI j), .int 9]) (rest := []) ⟨hx, hb, hml, hown, hts⟩ (mL_ticketOf l hfl Z nT nK cT cK ad g q (nI j) 9 hI) (vx_cwSW 3 hts (gu_S uk_4_53 uk_4_54 uk_1_0 uk_4_55) rfl rfl rfl (by decide +kernel) ⟨Nat.le_of_ble_eq_true rfl, Nat.le_of_ble_eq_true rfl⟩) ⟨sPreL_blind _, fun U hU hW => ⟨rfl, ⟨hE.next hS hU hW.alike, by rw [hU]; exact hP⟩, hNc.next hW.alike⟩⟩ rfl rfl hl.1 rfl (lv_room (Nat.le_of_ble_eq_true rfl)) dL_ends_339 ⟨by show _ ≤ 80; (try dsimp only); omega, by show _ ≤ 800; (try dsimp only); omega⟩) hS (fun r gz qz H locs e9 hP hS => ?_)
        obtain ⟨er, eg, eq⟩ := eq_q (z := (g (200 + j) 13).toInt) (a_K hI hj).2.2.2.2.2.2.2.2.2 rfl e9
        subst er; subst eg; subst eq
        refine lv_lstore (lv' := [(18, .long (lI ((g (200 + j) 13).toInt))), (17, .int 0), (15, .long (lI ((g 68 1).toInt))), (13, .long (lI ((g 68 0).toInt))), (11, .long (lI ((barI g q j).toInt))), (10, .int (g (200 + j) 6)), (8, .long (lI ((fX6_interestNow g q j).toInt))), (6, .long (lI ((g (200 + j) 8).toInt))), (4, .long (lI ((g (200 + j) 7).toInt))), (0, .ref (ad 60)), (1, .int (nI j)), (2, .int (nI how)), (3, .int (nI yy))]) hx hb dL_ends_342 hl (by decide) rfl (fun ls hl => ?_)
        refine W.widen (k := 40) (n := 400) (by (try dsimp only); omega) (by (try dsimp only); omega) ?_
        have hM : W p l e ({ frames := 10, cells := 80, slots := 800, locals := 172 } : Room) s m ([.ref (ad 60), .int (nI j), .int (nI how), .int (nI yy)] : List Value).toArray below meth c H locs 40 400 (MQ below (sQi Z nT nK cT cK ad (fun r g1 q1 => r = 1 ∧ CI (n + 1) nT nK cT cK g1 q1)) ([.ref (ad 60), .int (nI j), .int (nI how), .int (nI yy)] : List Value).toArray s 80 800 (sy_A Z)) (F0 m 368 ls [.int (nI pm)]) := by
          refine lv_istore (lv' := [(20, .int (nI pm)), (18, .long (lI ((g (200 + j) 13).toInt))), (17, .int 0), (15, .long (lI ((g 68 1).toInt))), (13, .long (lI ((g 68 0).toInt))), (11, .long (lI ((barI g q j).toInt))), (10, .int (g (200 + j) 6)), (8, .long (lI ((fX6_interestNow g q j).toInt))), (6, .long (lI ((g (200 + j) 8).toInt))), (4, .long (lI ((g (200 + j) 7).toInt))), (0, .ref (ad 60)), (1, .int (nI j)), (2, .int (nI how)), (3, .int (nI yy))]) hx hb dL_ends_368 hl (by decide) rfl (fun ls hl => ?_)
          refine lv_aload_n hx hb dL_ends_370 rfl (lv_at hl 10 rfl) ?_
          refine lv_iload_n hx hb dL_ends_371 rfl (lv_at hl 11 rfl) ?_
          refine lv_iload hx hb dL_ends_372 (lv_at hl 0 rfl) ?_
          refine sy_kl (vx_runSW (As := [.ref (ad 60), .int (nI j), .int (nI pm)]) (rest := []) ⟨hx, hb, hml, hown, hts⟩ (mL_offer l hfl Z nT nK cT cK ad g q (nI j) (nI pm) hI) (vx_cwSW 3 hts (gu_S uk_4_167 uk_4_168 uk_1_0 uk_4_169) rfl rfl rfl (by decide +kernel) ⟨Nat.le_of_ble_eq_true rfl, Nat.le_of_ble_eq_true rfl⟩) ⟨sPreL_blind _, fun U hU hW => ⟨rfl, ⟨hE.next hS hU hW.alike, by rw [hU]; exact hP⟩, hNc.next hW.alike⟩⟩ rfl rfl hl.1 rfl (lv_room (Nat.le_of_ble_eq_true rfl)) dL_ends_374 ⟨by show _ ≤ 80; (try dsimp only); omega, by show _ ≤ 800; (try dsimp only); omega⟩) hS (fun r g1 q1 H locs e9 hP hS => ?_)
          obtain ⟨er, eg, eq⟩ := eq_n3 hw e9
          subst er; subst eg; subst eq
          refine lv_lstore (lv' := [(21, .long (lI (-9000000000000000003))), (20, .int (nI pm)), (18, .long (lI ((g (200 + j) 13).toInt))), (17, .int 0), (15, .long (lI ((g 68 1).toInt))), (13, .long (lI ((g 68 0).toInt))), (11, .long (lI ((barI g q j).toInt))), (10, .int (g (200 + j) 6)), (8, .long (lI ((fX6_interestNow g q j).toInt))), (6, .long (lI ((g (200 + j) 8).toInt))), (4, .long (lI ((g (200 + j) 7).toInt))), (0, .ref (ad 60)), (1, .int (nI j)), (2, .int (nI how)), (3, .int (nI yy))]) hx hb dL_ends_377 hl (by decide) rfl (fun ls hl => ?_)
          refine W.widen (k := 60) (n := 500) (by (try dsimp only); omega) (by (try dsimp only); omega) ?_
          have hR : W p l e ({ frames := 10, cells := 80, slots := 800, locals := 172 } : Room) s m ([.ref (ad 60), .int (nI j), .int (nI how), .int (nI yy)] : List Value).toArray below meth c H locs 60 500 (MQ below (sQi Z nT nK cT cK ad (fun r g1 q1 => r = 1 ∧ CI (n + 1) nT nK cT cK g1 q1)) ([.ref (ad 60), .int (nI j), .int (nI how), .int (nI yy)] : List Value).toArray s 80 800 (sy_A Z)) (F0 m 407 ls [.long (lI (rsv g q j))]) := by
            refine lv_lstore (lv' := [(23, .long (lI (rsv g q j))), (21, .long (lI (-9000000000000000003))), (20, .int (nI pm)), (18, .long (lI ((g (200 + j) 13).toInt))), (17, .int 0), (15, .long (lI ((g 68 1).toInt))), (13, .long (lI ((g 68 0).toInt))), (11, .long (lI ((barI g q j).toInt))), (10, .int (g (200 + j) 6)), (8, .long (lI ((fX6_interestNow g q j).toInt))), (6, .long (lI ((g (200 + j) 8).toInt))), (4, .long (lI ((g (200 + j) 7).toInt))), (0, .ref (ad 60)), (1, .int (nI j)), (2, .int (nI how)), (3, .int (nI yy))]) hx hb dL_ends_407 hl (by decide) rfl (fun ls hl => ?_)
            refine lv_lload hx hb dL_ends_409 (lv_at hl 1 rfl) ?_
            refine lv_ldc2 (v := lI (-9000000000000000003)) hx hb hown (hts _ (u_in uk_2_183)) dL_ends_411 ?_
            refine W.lcmp hx hb dL_ends_414 ?_
            refine lv_if_ne (tgt := 436) hx hb dL_ends_415 (by decide) (fun c9 => absurd (c_eq (a := (-9000000000000000003)) (b := (-9000000000000000003)) (by omega)) c9) (fun _ => ?_)
            refine lv_aload_n hx hb dL_ends_418 rfl (lv_at hl 12 rfl) ?_
            refine lv_iload_n hx hb dL_ends_419 rfl (lv_at hl 13 rfl) ?_
            refine lv_iconst (v := 0) hx hb dL_ends_420 (by decide) ?_
            refine sy_kl (vx_runSW (As := [.ref (ad 60), .int (nI j), .int 0]) (rest := []) ⟨hx, hb, hml, hown, hts⟩ (mL_ticketOf l hfl Z nT nK cT cK ad g q (nI j) 0 hI) (vx_cwSW 3 hts (gu_S uk_4_53 uk_4_54 uk_1_0 uk_4_55) rfl rfl rfl (by decide +kernel) ⟨Nat.le_of_ble_eq_true rfl, Nat.le_of_ble_eq_true rfl⟩) ⟨sPreL_blind _, fun U hU hW => ⟨rfl, ⟨hE.next hS hU hW.alike, by rw [hU]; exact hP⟩, hNc.next hW.alike⟩⟩ rfl rfl hl.1 rfl (lv_room (Nat.le_of_ble_eq_true rfl)) dL_ends_421 ⟨by show _ ≤ 80; (try dsimp only); omega, by show _ ≤ 800; (try dsimp only); omega⟩) hS (fun r gz qz H locs e9 hP hS => ?_)
            obtain ⟨er, eg, eq⟩ := eq_q (z := (g (200 + j) 7).toInt) (a_K hI hj).1 rfl e9
            subst er; subst eg; subst eq
            refine lv_lload hx hb dL_ends_424 (lv_at hl 11 rfl) ?_
            refine W.lcmp hx hb dL_ends_426 ?_
            refine lv_if_ne (tgt := 434) hx hb dL_ends_427 (by decide) (fun c9 => absurd (c_eq (a := (g (200 + j) 7).toInt) (b := (g (200 + j) 7).toInt) (by omega)) c9) (fun _ => ?_)
            refine lv_iconst (v := 1) hx hb dL_ends_430 (by decide) ?_
            refine lv_goto (tgt := 435) hx hb dL_ends_431 (by decide) ?_
            exact sy_iretz hx hb hr hlocks hE hP hS dL_ends_435 ⟨by (try dsimp only); omega, by (try dsimp only); omega⟩ (by decide) ⟨rfl, ci_n (by omega) hI⟩
          by_cases v0 : g (200 + j) 13 = 0
          · skip
            refine lv_lload hx hb dL_ends_379 (lv_at hl 2 rfl) ?_
            refine lv_lconst (v := lI 0) hx hb dL_ends_381 rfl ?_
            refine W.lcmp hx hb dL_ends_382 ?_
            refine lv_if_ne (tgt := 394) hx hb dL_ends_383 (by decide) (fun c9 => absurd (c_eq (a := (g (200 + j) 13).toInt) (b := 0) ((by rw [v0]; rfl))) c9) (fun _ => ?_)
            refine lv_lload hx hb dL_ends_386 (lv_at hl 9 rfl) ?_
            refine lv_lload hx hb dL_ends_388 (lv_at hl 8 rfl) ?_
            refine lv_ladd hx hb dL_ends_390 ?_
            refine sy_topL (y := lI ((g (200 + j) 8).toInt + (fX6_interestNow g q j).toInt)) (lI_add _ _) ?_
            refine lv_goto (tgt := 407) hx hb dL_ends_391 (by decide) ?_
            refine sy_topL (y := lI (rsv g q j)) (by unfold rsv; rw [if_pos v0]) ?_
            exact hR
          · skip
            have v0n : (g (200 + j) 13).toInt ≠ 0 := fun z => v0 (Int32.toInt_inj.mp z)
            by_cases v1 : g (200 + j) 13 = 1
            · skip
              refine lv_lload hx hb dL_ends_379 (lv_at hl 2 rfl) ?_
              refine lv_lconst (v := lI 0) hx hb dL_ends_381 rfl ?_
              refine W.lcmp hx hb dL_ends_382 ?_
              refine lv_if_ne (tgt := 394) hx hb dL_ends_383 (by decide) (fun _ => ?_) (fun c9 => absurd c9 (c_ne (a := (g (200 + j) 13).toInt) (b := 0) (by omega) (by omega) (by omega)))
              refine lv_lload hx hb dL_ends_394 (lv_at hl 2 rfl) ?_
              refine lv_lconst (v := lI 1) hx hb dL_ends_396 rfl ?_
              refine W.lcmp hx hb dL_ends_397 ?_
              refine lv_if_ne (tgt := 406) hx hb dL_ends_398 (by decide) (fun c9 => absurd (c_eq (a := (g (200 + j) 13).toInt) (b := 1) ((by rw [v1]; rfl))) c9) (fun _ => ?_)
              refine lv_lload hx hb dL_ends_401 (lv_at hl 9 rfl) ?_
              refine lv_goto (tgt := 407) hx hb dL_ends_403 (by decide) ?_
              refine sy_topL (y := lI (rsv g q j)) (by unfold rsv; rw [if_neg v0, if_pos v1]) ?_
              exact hR
            · skip
              have v1n : (g (200 + j) 13).toInt ≠ 1 := fun z => v1 (Int32.toInt_inj.mp z)
              refine lv_lload hx hb dL_ends_379 (lv_at hl 2 rfl) ?_
              refine lv_lconst (v := lI 0) hx hb dL_ends_381 rfl ?_
              refine W.lcmp hx hb dL_ends_382 ?_
              refine lv_if_ne (tgt := 394) hx hb dL_ends_383 (by decide) (fun _ => ?_) (fun c9 => absurd c9 (c_ne (a := (g (200 + j) 13).toInt) (b := 0) (by omega) (by omega) (by omega)))
              refine lv_lload hx hb dL_ends_394 (lv_at hl 2 rfl) ?_
              refine lv_lconst (v := lI 1) hx hb dL_ends_396 rfl ?_
              refine W.lcmp hx hb dL_ends_397 ?_
              refine lv_if_ne (tgt := 406) hx hb dL_ends_398 (by decide) (fun _ => ?_) (fun c9 => absurd c9 (c_ne (a := (g (200 + j) 13).toInt) (b := 1) (by omega) (by omega) (by omega)))
              refine lv_lconst (v := lI 0) hx hb dL_ends_406 rfl ?_
              refine sy_topL (y := lI (rsv g q j)) (by unfold rsv; rw [if_neg v0, if_neg v1]) ?_
              exact hR
        by_cases h5y : yy % 5 = 0
        · skip
          refine lv_iload_n hx hb dL_ends_344 rfl (lv_at hl 12 rfl) ?_
          refine lv_iconst (v := 5) hx hb dL_ends_345 (by decide) ?_
          refine lv_irem hx hb dL_ends_346 (by decide) ?_
          refine sy_top (y := nI (yy % 5)) (nI_rem (a := yy) (b := 5) (by omega) (by omega)) ?_
          refine lv_if_ne (tgt := 360) hx hb dL_ends_347 (by decide) (fun c9 => absurd ((nI_eq (a := (yy % 5)) (b := 0) (by omega) (by omega)).mpr (by omega)) c9) (fun _ => ?_)
          refine lv_iload_n hx hb dL_ends_350 rfl (lv_at hl 12 rfl) ?_
          refine lv_bipush (v := 8) hx hb dL_ends_351 (by decide) ?_
          refine lv_idiv hx hb dL_ends_353 (by decide) ?_
          refine sy_top (y := nI (yy / 8)) (nI_div (a := yy) (b := 8) (by omega) (by omega)) ?_
          refine lv_bipush (v := 30) hx hb dL_ends_354 (by decide) ?_
          refine lv_irem hx hb dL_ends_356 (by decide) ?_
          refine sy_top (y := nI ((yy / 8) % 30)) (nI_rem (a := (yy / 8)) (b := 30) (by omega) (by omega)) ?_
          refine lv_goto (tgt := 368) hx hb dL_ends_357 (by decide) ?_
          refine sy_top (y := nI pm) (by rw [hpm, if_pos h5y]) ?_
          exact hM
        · skip
          refine lv_iload_n hx hb dL_ends_344 rfl (lv_at hl 12 rfl) ?_
          refine lv_iconst (v := 5) hx hb dL_ends_345 (by decide) ?_
          refine lv_irem hx hb dL_ends_346 (by decide) ?_
          refine sy_top (y := nI (yy % 5)) (nI_rem (a := yy) (b := 5) (by omega) (by omega)) ?_
          refine lv_if_ne (tgt := 360) hx hb dL_ends_347 (by decide) (fun _ => ?_) (fun c9 => absurd c9 (mt (nI_eq (a := (yy % 5)) (b := 0) (by omega) (by omega)).mp (by omega)))
          refine lv_iload_n hx hb dL_ends_360 rfl (lv_at hl 12 rfl) ?_
          refine lv_bipush (v := 8) hx hb dL_ends_361 (by decide) ?_
          refine lv_idiv hx hb dL_ends_363 (by decide) ?_
          refine sy_top (y := nI (yy / 8)) (nI_div (a := yy) (b := 8) (by omega) (by omega)) ?_
          refine lv_sipush (v := 4000) hx hb dL_ends_364 (by decide) ?_
          refine lv_irem hx hb dL_ends_367 (by decide) ?_
          refine sy_top (y := nI ((yy / 8) % 4000)) (nI_rem (a := (yy / 8)) (b := 4000) (by omega) (by omega)) ?_
          refine sy_top (y := nI pm) (by rw [hpm, if_neg h5y]) ?_
          exact hM
    · skip
      have hlate : (fX4_lastDay g q j).toInt < (g 60 9).toInt := by rw [le_of_toInt] at hlt; omega
      obtain ⟨ov, hov⟩ : ∃ ov : Int, (fX6_offer g q (nI j) (nI pm)).2.1.toInt = ov := ⟨_, rfl⟩
      have bov : -2147483648 ≤ ov ∧ ov < 2147483648 := by rw [← hov]; exact i32b _
      rcases hO with ⟨o1, o2, o3, o4⟩ | ⟨o1, o2, o3, o4, hS4⟩
      · skip
        have ovv : ov = -2147483648 := by rw [← hov, o2]; rfl
        refine lv_iload_n hx hb dL_ends_56 rfl (lv_at hl 9 rfl) ?_
        refine lv_iconst (v := 2) hx hb dL_ends_57 (by decide) ?_
        refine lv_icmp_ge (tgt := 166) hx hb dL_ends_58 (by decide) (fun _ => ?_) (fun c9 => absurd ((nI_leI (a := 2) (b := how) (by omega) (by omega)).mpr (by omega)) c9)
        refine lv_iload_n hx hb dL_ends_166 rfl (lv_at hl 9 rfl) ?_
        refine lv_iconst (v := 4) hx hb dL_ends_167 (by decide) ?_
        refine lv_icmp_ge (tgt := 306) hx hb dL_ends_168 (by decide) (fun _ => ?_) (fun c9 => absurd ((nI_leI (a := 4) (b := how) (by omega) (by omega)).mpr (by omega)) c9)
        refine lv_iload_n hx hb dL_ends_306 rfl (lv_at hl 9 rfl) ?_
        refine lv_bipush (v := 7) hx hb dL_ends_307 (by decide) ?_
        refine lv_icmp_ge (tgt := 629) hx hb dL_ends_309 (by decide) (fun c9 => absurd c9 (mt (nI_leI (a := 7) (b := how) (by omega) (by omega)).mp (by omega))) (fun _ => ?_)
        refine lv_aload_n hx hb dL_ends_312 rfl (lv_at hl 7 rfl) ?_
        refine lv_iload_n hx hb dL_ends_313 rfl (lv_at hl 8 rfl) ?_
        refine lv_bipush (v := 6) hx hb dL_ends_314 (by decide) ?_
        refine sy_kl (vx_runSW (As := [.ref (ad 60), .int (nI j), .int 6]) (rest := []) ⟨hx, hb, hml, hown, hts⟩ (mL_ticketOf l hfl Z nT nK cT cK ad g q (nI j) 6 hI) (vx_cwSW 3 hts (gu_S uk_4_53 uk_4_54 uk_1_0 uk_4_55) rfl rfl rfl (by decide +kernel) ⟨Nat.le_of_ble_eq_true rfl, Nat.le_of_ble_eq_true rfl⟩) ⟨sPreL_blind _, fun U hU hW => ⟨rfl, ⟨hE.next hS hU hW.alike, by rw [hU]; exact hP⟩, hNc.next hW.alike⟩⟩ rfl rfl hl.1 rfl (lv_room (Nat.le_of_ble_eq_true rfl)) dL_ends_316 ⟨by show _ ≤ 80; (try dsimp only); omega, by show _ ≤ 800; (try dsimp only); omega⟩) hS (fun r gz qz H locs e9 hP hS => ?_)
        obtain ⟨er, eg, eq⟩ := eq_q (z := (fX4_lastDay g q j).toInt) (a_K hI hj).2.2.2.2.2.2.1 rfl e9
        subst er; subst eg; subst eq
        refine lv_aload_n hx hb dL_ends_319 rfl (lv_at hl 7 rfl) ?_
        refine sy_ki (sy_rV (o := 60) (As := []) (rest := [.long (lI ((fX4_lastDay g q j).toInt))]) ⟨hx, hb, hml, hown, hts⟩ hE hP hS (mX6_day l hfl Z nT nK cT cK ad g q (by have := ci_T hI; omega) (ci_IG hI) (ci_IQ hI)) (cwV 0 hts (gu_V uk_1_183 uk_1_184 uk_1_185 uk_1_1 uk_1_186) rfl rfl rfl (by decide +kernel) ⟨Nat.le_of_ble_eq_true rfl, Nat.le_of_ble_eq_true rfl⟩) (sy_recv (kc := 7) hE hP rfl (by decide) rfl rfl rfl) rfl hl.1 rfl (Nat.le_of_ble_eq_true rfl) dL_ends_320 ⟨by show _ ≤ 80; (try dsimp only); omega, by show _ ≤ 800; (try dsimp only); omega⟩) hS (fun r gz qz H locs e9 hP hS => ?_)
        obtain ⟨er, eg, eq⟩ : g 60 9 = r ∧ g = gz ∧ q = qz := by rw [show fX6_day g q = g 60 9 from rfl] at e9; cases e9; exact ⟨rfl, rfl, rfl⟩
        subst er; subst eg; subst eq
        refine lv_i2l (v := lI (g 60 9).toInt) hx hb dL_ends_323 (i_L _) ?_
        refine W.lcmp hx hb dL_ends_324 ?_
        refine lv_if_ge (tgt := 332) hx hb dL_ends_325 (by decide) (fun c9 => absurd c9 (by rw [(c_lt (a := (fX4_lastDay g q j).toInt) (b := (g 60 9).toInt) (by omega) (by omega) (by omega))]; decide)) (fun _ => ?_)
        refine lv_iconst (v := 1) hx hb dL_ends_328 (by decide) ?_
        refine lv_goto (tgt := 333) hx hb dL_ends_329 (by decide) ?_
        refine lv_istore (lv' := [(17, .int 1), (15, .long (lI ((g 68 1).toInt))), (13, .long (lI ((g 68 0).toInt))), (11, .long (lI ((barI g q j).toInt))), (10, .int (g (200 + j) 6)), (8, .long (lI ((fX6_interestNow g q j).toInt))), (6, .long (lI ((g (200 + j) 8).toInt))), (4, .long (lI ((g (200 + j) 7).toInt))), (0, .ref (ad 60)), (1, .int (nI j)), (2, .int (nI how)), (3, .int (nI yy))]) hx hb dL_ends_333 hl (by decide) rfl (fun ls hl => ?_)
        refine lv_aload_n hx hb dL_ends_335 rfl (lv_at hl 8 rfl) ?_
        refine lv_iload_n hx hb dL_ends_336 rfl (lv_at hl 9 rfl) ?_
        refine lv_bipush (v := 9) hx hb dL_ends_337 (by decide) ?_
        refine sy_kl (vx_runSW (As := [.ref (ad 60), .int (nI j), .int 9]) (rest := []) ⟨hx, hb, hml, hown, hts⟩ (mL_ticketOf l hfl Z nT nK cT cK ad g q (nI j) 9 hI) (vx_cwSW 3 hts (gu_S uk_4_53 uk_4_54 uk_1_0 uk_4_55) rfl rfl rfl (by decide +kernel) ⟨Nat.le_of_ble_eq_true rfl, Nat.le_of_ble_eq_true rfl⟩) ⟨sPreL_blind _, fun U hU hW => ⟨rfl, ⟨hE.next hS hU hW.alike, by rw [hU]; exact hP⟩, hNc.next hW.alike⟩⟩ rfl rfl hl.1 rfl (lv_room (Nat.le_of_ble_eq_true rfl)) dL_ends_339 ⟨by show _ ≤ 80; (try dsimp only); omega, by show _ ≤ 800; (try dsimp only); omega⟩) hS (fun r gz qz H locs e9 hP hS => ?_)
        obtain ⟨er, eg, eq⟩ := eq_q (z := (g (200 + j) 13).toInt) (a_K hI hj).2.2.2.2.2.2.2.2.2 rfl e9
        subst er; subst eg; subst eq
        refine lv_lstore (lv' := [(18, .long (lI ((g (200 + j) 13).toInt))), (17, .int 1), (15, .long (lI ((g 68 1).toInt))), (13, .long (lI ((g 68 0).toInt))), (11, .long (lI ((barI g q j).toInt))), (10, .int (g (200 + j) 6)), (8, .long (lI ((fX6_interestNow g q j).toInt))), (6, .long (lI ((g (200 + j) 8).toInt))), (4, .long (lI ((g (200 + j) 7).toInt))), (0, .ref (ad 60)), (1, .int (nI j)), (2, .int (nI how)), (3, .int (nI yy))]) hx hb dL_ends_342 hl (by decide) rfl (fun ls hl => ?_)
        refine W.widen (k := 40) (n := 400) (by (try dsimp only); omega) (by (try dsimp only); omega) ?_
        have hM : W p l e ({ frames := 10, cells := 80, slots := 800, locals := 172 } : Room) s m ([.ref (ad 60), .int (nI j), .int (nI how), .int (nI yy)] : List Value).toArray below meth c H locs 40 400 (MQ below (sQi Z nT nK cT cK ad (fun r g1 q1 => r = 1 ∧ CI (n + 1) nT nK cT cK g1 q1)) ([.ref (ad 60), .int (nI j), .int (nI how), .int (nI yy)] : List Value).toArray s 80 800 (sy_A Z)) (F0 m 368 ls [.int (nI pm)]) := by
          refine lv_istore (lv' := [(20, .int (nI pm)), (18, .long (lI ((g (200 + j) 13).toInt))), (17, .int 1), (15, .long (lI ((g 68 1).toInt))), (13, .long (lI ((g 68 0).toInt))), (11, .long (lI ((barI g q j).toInt))), (10, .int (g (200 + j) 6)), (8, .long (lI ((fX6_interestNow g q j).toInt))), (6, .long (lI ((g (200 + j) 8).toInt))), (4, .long (lI ((g (200 + j) 7).toInt))), (0, .ref (ad 60)), (1, .int (nI j)), (2, .int (nI how)), (3, .int (nI yy))]) hx hb dL_ends_368 hl (by decide) rfl (fun ls hl => ?_)
          refine lv_aload_n hx hb dL_ends_370 rfl (lv_at hl 10 rfl) ?_
          refine lv_iload_n hx hb dL_ends_371 rfl (lv_at hl 11 rfl) ?_
          refine lv_iload hx hb dL_ends_372 (lv_at hl 0 rfl) ?_
          refine sy_kl (vx_runSW (As := [.ref (ad 60), .int (nI j), .int (nI pm)]) (rest := []) ⟨hx, hb, hml, hown, hts⟩ (mL_offer l hfl Z nT nK cT cK ad g q (nI j) (nI pm) hI) (vx_cwSW 3 hts (gu_S uk_4_167 uk_4_168 uk_1_0 uk_4_169) rfl rfl rfl (by decide +kernel) ⟨Nat.le_of_ble_eq_true rfl, Nat.le_of_ble_eq_true rfl⟩) ⟨sPreL_blind _, fun U hU hW => ⟨rfl, ⟨hE.next hS hU hW.alike, by rw [hU]; exact hP⟩, hNc.next hW.alike⟩⟩ rfl rfl hl.1 rfl (lv_room (Nat.le_of_ble_eq_true rfl)) dL_ends_374 ⟨by show _ ≤ 80; (try dsimp only); omega, by show _ ≤ 800; (try dsimp only); omega⟩) hS (fun r g1 q1 H locs e9 hP hS => ?_)
          obtain ⟨er, eg, eq⟩ := eq_y (z := ov) h1 hov e9
          subst er
          rw [eg, eq] at hI2
          rw [eg] at o3
          rw [eg] at o4
          have hI := hI2
          clear e9
          have b9 := i32b (g1 68 0)
          have b10 := i32b (g1 (200 + j) 13)
          refine lv_lstore (lv' := [(21, .long (lI ov)), (20, .int (nI pm)), (18, .long (lI ((g (200 + j) 13).toInt))), (17, .int 1), (15, .long (lI ((g 68 1).toInt))), (13, .long (lI ((g 68 0).toInt))), (11, .long (lI ((barI g q j).toInt))), (10, .int (g (200 + j) 6)), (8, .long (lI ((fX6_interestNow g q j).toInt))), (6, .long (lI ((g (200 + j) 8).toInt))), (4, .long (lI ((g (200 + j) 7).toInt))), (0, .ref (ad 60)), (1, .int (nI j)), (2, .int (nI how)), (3, .int (nI yy))]) hx hb dL_ends_377 hl (by decide) rfl (fun ls hl => ?_)
          refine W.widen (k := 60) (n := 500) (by (try dsimp only); omega) (by (try dsimp only); omega) ?_
          have hR : W p l e ({ frames := 10, cells := 80, slots := 800, locals := 172 } : Room) s m ([.ref (ad 60), .int (nI j), .int (nI how), .int (nI yy)] : List Value).toArray below meth c H locs 60 500 (MQ below (sQi Z nT nK cT cK ad (fun r g1 q1 => r = 1 ∧ CI (n + 1) nT nK cT cK g1 q1)) ([.ref (ad 60), .int (nI j), .int (nI how), .int (nI yy)] : List Value).toArray s 80 800 (sy_A Z)) (F0 m 407 ls [.long (lI (rsv g q j))]) := by
            refine lv_lstore (lv' := [(23, .long (lI (rsv g q j))), (21, .long (lI ov)), (20, .int (nI pm)), (18, .long (lI ((g (200 + j) 13).toInt))), (17, .int 1), (15, .long (lI ((g 68 1).toInt))), (13, .long (lI ((g 68 0).toInt))), (11, .long (lI ((barI g q j).toInt))), (10, .int (g (200 + j) 6)), (8, .long (lI ((fX6_interestNow g q j).toInt))), (6, .long (lI ((g (200 + j) 8).toInt))), (4, .long (lI ((g (200 + j) 7).toInt))), (0, .ref (ad 60)), (1, .int (nI j)), (2, .int (nI how)), (3, .int (nI yy))]) hx hb dL_ends_407 hl (by decide) rfl (fun ls hl => ?_)
            refine lv_lload hx hb dL_ends_409 (lv_at hl 1 rfl) ?_
            refine lv_ldc2 (v := lI (-9000000000000000003)) hx hb hown (hts _ (u_in uk_2_183)) dL_ends_411 ?_
            refine W.lcmp hx hb dL_ends_414 ?_
            refine lv_if_ne (tgt := 436) hx hb dL_ends_415 (by decide) (fun _ => ?_) (fun c9 => absurd c9 (c_ne (a := ov) (b := (-9000000000000000003)) (by omega) (by omega) (by omega)))
            refine lv_lload hx hb dL_ends_436 (lv_at hl 11 rfl) ?_
            refine lv_lconst (v := lI 0) hx hb dL_ends_438 rfl ?_
            refine W.lcmp hx hb dL_ends_439 ?_
            refine lv_if_ne (tgt := 459) hx hb dL_ends_440 (by decide) (fun c9 => absurd (c_eq (a := (g (200 + j) 7).toInt) (b := 0) ((by rw [h7]; rfl))) c9) (fun _ => ?_)
            refine lv_lload hx hb dL_ends_443 (lv_at hl 7 rfl) ?_
            refine lv_lconst (v := lI 0) hx hb dL_ends_445 rfl ?_
            refine W.lcmp hx hb dL_ends_446 ?_
            refine lv_if_ne (tgt := 459) hx hb dL_ends_447 (by decide) (fun c9 => absurd (c_eq (a := (barI g q j).toInt) (b := 0) ((by rw [hbz]; rfl))) c9) (fun _ => ?_)
            refine lv_iload hx hb dL_ends_450 (lv_at hl 4 rfl) ?_
            refine lv_if_eq (tgt := 459) hx hb dL_ends_452 (by decide) (fun c9 => absurd c9 (by decide)) (fun _ => ?_)
            refine lv_iconst (v := 1) hx hb dL_ends_455 (by decide) ?_
            refine lv_goto (tgt := 460) hx hb dL_ends_456 (by decide) ?_
            refine lv_istore (lv' := [(25, .int 1), (23, .long (lI (rsv g q j))), (21, .long (lI ov)), (20, .int (nI pm)), (18, .long (lI ((g (200 + j) 13).toInt))), (17, .int 1), (15, .long (lI ((g 68 1).toInt))), (13, .long (lI ((g 68 0).toInt))), (11, .long (lI ((barI g q j).toInt))), (10, .int (g (200 + j) 6)), (8, .long (lI ((fX6_interestNow g q j).toInt))), (6, .long (lI ((g (200 + j) 8).toInt))), (4, .long (lI ((g (200 + j) 7).toInt))), (0, .ref (ad 60)), (1, .int (nI j)), (2, .int (nI how)), (3, .int (nI yy))]) hx hb dL_ends_460 hl (by decide) rfl (fun ls hl => ?_)
            refine lv_iload hx hb dL_ends_462 (lv_at hl 3 rfl) ?_
            refine lv_i2l (v := lI ((pm : Nat) : Int)) hx hb dL_ends_464 (nI_L (by omega)) ?_
            refine lv_lload hx hb dL_ends_465 (lv_at hl 1 rfl) ?_
            refine W.lcmp hx hb dL_ends_467 ?_
            refine lv_if_ge (tgt := 517) hx hb dL_ends_468 (by decide) (fun c9 => absurd c9 (by rw [(c_lt (a := ((pm : Nat) : Int)) (b := (rsv g q j)) (by omega) (by omega) (by omega))]; decide)) (fun _ => ?_)
            refine lv_iload hx hb dL_ends_471 (lv_at hl 0 rfl) ?_
            refine lv_if_eq (tgt := 515) hx hb dL_ends_473 (by decide) (fun c9 => absurd c9 (by decide)) (fun _ => ?_)
            refine lv_lload hx hb dL_ends_476 (lv_at hl 2 rfl) ?_
            refine lv_ldc2 (v := lI (-2147483648)) hx hb hown (hts _ (u_in uk_4_209)) dL_ends_478 ?_
            refine W.lcmp hx hb dL_ends_481 ?_
            refine lv_if_ne (tgt := 515) hx hb dL_ends_482 (by decide) (fun c9 => absurd (c_eq (a := ov) (b := (-2147483648)) (by omega)) c9) (fun _ => ?_)
            refine lv_aload_n hx hb dL_ends_485 rfl (lv_at hl 13 rfl) ?_
            refine lv_iload_n hx hb dL_ends_486 rfl (lv_at hl 14 rfl) ?_
            refine lv_bipush (v := 9) hx hb dL_ends_487 (by decide) ?_
            refine sy_kl (vx_runSW (As := [.ref (ad 60), .int (nI j), .int 9]) (rest := []) ⟨hx, hb, hml, hown, hts⟩ (mL_ticketOf l hfl Z nT nK cT cK ad g1 q1 (nI j) 9 hI) (vx_cwSW 3 hts (gu_S uk_4_53 uk_4_54 uk_1_0 uk_4_55) rfl rfl rfl (by decide +kernel) ⟨Nat.le_of_ble_eq_true rfl, Nat.le_of_ble_eq_true rfl⟩) ⟨sPreL_blind _, fun U hU hW => ⟨rfl, ⟨hE.next hS hU hW.alike, by rw [hU]; exact hP⟩, hNc.next hW.alike⟩⟩ rfl rfl hl.1 rfl (lv_room (Nat.le_of_ble_eq_true rfl)) dL_ends_489 ⟨by show _ ≤ 80; (try dsimp only); omega, by show _ ≤ 800; (try dsimp only); omega⟩) hS (fun r gz qz H locs e9 hP hS => ?_)
            obtain ⟨er, eg, eq⟩ := eq_q (z := (g1 (200 + j) 13).toInt) (a_K hI hj).2.2.2.2.2.2.2.2.2 rfl e9
            subst er; subst eg; subst eq
            refine lv_lload hx hb dL_ends_492 (lv_at hl 4 rfl) ?_
            refine lv_lconst (v := lI 1) hx hb dL_ends_494 rfl ?_
            refine lv_ladd hx hb dL_ends_495 ?_
            refine sy_topL (y := lI ((g (200 + j) 13).toInt + 1)) (lI_add _ _) ?_
            refine W.lcmp hx hb dL_ends_496 ?_
            refine lv_if_ne (tgt := 515) hx hb dL_ends_497 (by decide) (fun c9 => absurd (c_eq (a := (g1 (200 + j) 13).toInt) (b := ((g (200 + j) 13).toInt + 1)) (by omega)) c9) (fun _ => ?_)
            refine lv_aload_n hx hb dL_ends_500 rfl (lv_at hl 13 rfl) ?_
            refine lv_iconst (v := 0) hx hb dL_ends_501 (by decide) ?_
            refine sy_kl (vx_runSW (As := [.ref (ad 60), .int 0]) (rest := []) ⟨hx, hb, hml, hown, hts⟩ (mL_money l hfl Z nT nK cT cK ad g1 q1 0 hI) (vx_cwSW 2 hts (gu_S uk_4_88 uk_4_89 uk_1_0 uk_4_90) rfl rfl rfl (by decide +kernel) ⟨Nat.le_of_ble_eq_true rfl, Nat.le_of_ble_eq_true rfl⟩) ⟨sPreL_blind _, fun U hU hW => ⟨rfl, ⟨hE.next hS hU hW.alike, by rw [hU]; exact hP⟩, hNc.next hW.alike⟩⟩ rfl rfl hl.1 rfl (lv_room (Nat.le_of_ble_eq_true rfl)) dL_ends_502 ⟨by show _ ≤ 80; (try dsimp only); omega, by show _ ≤ 800; (try dsimp only); omega⟩) hS (fun r gz qz H locs e9 hP hS => ?_)
            obtain ⟨er, eg, eq⟩ := eq_q (z := (g1 68 0).toInt) a_M.1 rfl e9
            subst er; subst eg; subst eq
            refine lv_lload hx hb dL_ends_505 (lv_at hl 7 rfl) ?_
            refine W.lcmp hx hb dL_ends_507 ?_
            refine lv_if_ne (tgt := 515) hx hb dL_ends_508 (by decide) (fun c9 => absurd (c_eq (a := (g1 68 0).toInt) (b := (g 68 0).toInt) ((by rw [o4]))) c9) (fun _ => ?_)
            refine lv_iconst (v := 1) hx hb dL_ends_511 (by decide) ?_
            refine lv_goto (tgt := 516) hx hb dL_ends_512 (by decide) ?_
            exact sy_iretz hx hb hr hlocks hE hP hS dL_ends_516 ⟨by (try dsimp only); omega, by (try dsimp only); omega⟩ (by decide) ⟨rfl, hI⟩
          by_cases v0 : g (200 + j) 13 = 0
          · skip
            refine lv_lload hx hb dL_ends_379 (lv_at hl 2 rfl) ?_
            refine lv_lconst (v := lI 0) hx hb dL_ends_381 rfl ?_
            refine W.lcmp hx hb dL_ends_382 ?_
            refine lv_if_ne (tgt := 394) hx hb dL_ends_383 (by decide) (fun c9 => absurd (c_eq (a := (g (200 + j) 13).toInt) (b := 0) ((by rw [v0]; rfl))) c9) (fun _ => ?_)
            refine lv_lload hx hb dL_ends_386 (lv_at hl 9 rfl) ?_
            refine lv_lload hx hb dL_ends_388 (lv_at hl 8 rfl) ?_
            refine lv_ladd hx hb dL_ends_390 ?_
            refine sy_topL (y := lI ((g (200 + j) 8).toInt + (fX6_interestNow g q j).toInt)) (lI_add _ _) ?_
            refine lv_goto (tgt := 407) hx hb dL_ends_391 (by decide) ?_
            refine sy_topL (y := lI (rsv g q j)) (by unfold rsv; rw [if_pos v0]) ?_
            exact hR
          · skip
            have v0n : (g (200 + j) 13).toInt ≠ 0 := fun z => v0 (Int32.toInt_inj.mp z)
            by_cases v1 : g (200 + j) 13 = 1
            · skip
              refine lv_lload hx hb dL_ends_379 (lv_at hl 2 rfl) ?_
              refine lv_lconst (v := lI 0) hx hb dL_ends_381 rfl ?_
              refine W.lcmp hx hb dL_ends_382 ?_
              refine lv_if_ne (tgt := 394) hx hb dL_ends_383 (by decide) (fun _ => ?_) (fun c9 => absurd c9 (c_ne (a := (g (200 + j) 13).toInt) (b := 0) (by omega) (by omega) (by omega)))
              refine lv_lload hx hb dL_ends_394 (lv_at hl 2 rfl) ?_
              refine lv_lconst (v := lI 1) hx hb dL_ends_396 rfl ?_
              refine W.lcmp hx hb dL_ends_397 ?_
              refine lv_if_ne (tgt := 406) hx hb dL_ends_398 (by decide) (fun c9 => absurd (c_eq (a := (g (200 + j) 13).toInt) (b := 1) ((by rw [v1]; rfl))) c9) (fun _ => ?_)
              refine lv_lload hx hb dL_ends_401 (lv_at hl 9 rfl) ?_
              refine lv_goto (tgt := 407) hx hb dL_ends_403 (by decide) ?_
              refine sy_topL (y := lI (rsv g q j)) (by unfold rsv; rw [if_neg v0, if_pos v1]) ?_
              exact hR
            · skip
              have v1n : (g (200 + j) 13).toInt ≠ 1 := fun z => v1 (Int32.toInt_inj.mp z)
              refine lv_lload hx hb dL_ends_379 (lv_at hl 2 rfl) ?_
              refine lv_lconst (v := lI 0) hx hb dL_ends_381 rfl ?_
              refine W.lcmp hx hb dL_ends_382 ?_
              refine lv_if_ne (tgt := 394) hx hb dL_ends_383 (by decide) (fun _ => ?_) (fun c9 => absurd c9 (c_ne (a := (g (200 + j) 13).toInt) (b := 0) (by omega) (by omega) (by omega)))
              refine lv_lload hx hb dL_ends_394 (lv_at hl 2 rfl) ?_
              refine lv_lconst (v := lI 1) hx hb dL_ends_396 rfl ?_
              refine W.lcmp hx hb dL_ends_397 ?_
              refine lv_if_ne (tgt := 406) hx hb dL_ends_398 (by decide) (fun _ => ?_) (fun c9 => absurd c9 (c_ne (a := (g (200 + j) 13).toInt) (b := 1) (by omega) (by omega) (by omega)))
              refine lv_lconst (v := lI 0) hx hb dL_ends_406 rfl ?_
              refine sy_topL (y := lI (rsv g q j)) (by unfold rsv; rw [if_neg v0, if_neg v1]) ?_
              exact hR
        by_cases h5y : yy % 5 = 0
        · skip
          refine lv_iload_n hx hb dL_ends_344 rfl (lv_at hl 12 rfl) ?_
          refine lv_iconst (v := 5) hx hb dL_ends_345 (by decide) ?_
          refine lv_irem hx hb dL_ends_346 (by decide) ?_
          refine sy_top (y := nI (yy % 5)) (nI_rem (a := yy) (b := 5) (by omega) (by omega)) ?_
          refine lv_if_ne (tgt := 360) hx hb dL_ends_347 (by decide) (fun c9 => absurd ((nI_eq (a := (yy % 5)) (b := 0) (by omega) (by omega)).mpr (by omega)) c9) (fun _ => ?_)
          refine lv_iload_n hx hb dL_ends_350 rfl (lv_at hl 12 rfl) ?_
          refine lv_bipush (v := 8) hx hb dL_ends_351 (by decide) ?_
          refine lv_idiv hx hb dL_ends_353 (by decide) ?_
          refine sy_top (y := nI (yy / 8)) (nI_div (a := yy) (b := 8) (by omega) (by omega)) ?_
          refine lv_bipush (v := 30) hx hb dL_ends_354 (by decide) ?_
          refine lv_irem hx hb dL_ends_356 (by decide) ?_
          refine sy_top (y := nI ((yy / 8) % 30)) (nI_rem (a := (yy / 8)) (b := 30) (by omega) (by omega)) ?_
          refine lv_goto (tgt := 368) hx hb dL_ends_357 (by decide) ?_
          refine sy_top (y := nI pm) (by rw [hpm, if_pos h5y]) ?_
          exact hM
        · skip
          refine lv_iload_n hx hb dL_ends_344 rfl (lv_at hl 12 rfl) ?_
          refine lv_iconst (v := 5) hx hb dL_ends_345 (by decide) ?_
          refine lv_irem hx hb dL_ends_346 (by decide) ?_
          refine sy_top (y := nI (yy % 5)) (nI_rem (a := yy) (b := 5) (by omega) (by omega)) ?_
          refine lv_if_ne (tgt := 360) hx hb dL_ends_347 (by decide) (fun _ => ?_) (fun c9 => absurd c9 (mt (nI_eq (a := (yy % 5)) (b := 0) (by omega) (by omega)).mp (by omega)))
          refine lv_iload_n hx hb dL_ends_360 rfl (lv_at hl 12 rfl) ?_
          refine lv_bipush (v := 8) hx hb dL_ends_361 (by decide) ?_
          refine lv_idiv hx hb dL_ends_363 (by decide) ?_
          refine sy_top (y := nI (yy / 8)) (nI_div (a := yy) (b := 8) (by omega) (by omega)) ?_
          refine lv_sipush (v := 4000) hx hb dL_ends_364 (by decide) ?_
          refine lv_irem hx hb dL_ends_367 (by decide) ?_
          refine sy_top (y := nI ((yy / 8) % 4000)) (nI_rem (a := (yy / 8)) (b := 4000) (by omega) (by omega)) ?_
          refine sy_top (y := nI pm) (by rw [hpm, if_neg h5y]) ?_
          exact hM
      · skip
        rw [hov] at o2 hS4
        rcases (show (0 < ov ∧ ((fX6_offer g q (nI j) (nI pm)).2.2.1 68 1).toInt = (g 68 1).toInt + ov ∧ ((fX6_offer g q (nI j) (nI pm)).2.2.1 (200 + j) 14).toInt = ov) ∨ (ov ≤ 0 ∧ ((fX6_offer g q (nI j) (nI pm)).2.2.1 68 1).toInt = (g 68 1).toInt ∧ ((fX6_offer g q (nI j) (nI pm)).2.2.1 (200 + j) 14).toInt = 0) by
            rcases hS4 with ⟨s1, s2, s3⟩ | ⟨s1, s2, s3⟩
            · by_cases z : 0 < ov
              · exact Or.inl ⟨z, s2, by rw [s3]; exact hov⟩
              · exact Or.inr ⟨by omega, by omega, by rw [s3]; omega⟩
            · exact Or.inr ⟨by omega, by rw [s2], by rw [s3]; rfl⟩) with ⟨s1, s2, s3⟩ | ⟨s1, s2, s3⟩
        · skip
          refine lv_iload_n hx hb dL_ends_56 rfl (lv_at hl 9 rfl) ?_
          refine lv_iconst (v := 2) hx hb dL_ends_57 (by decide) ?_
          refine lv_icmp_ge (tgt := 166) hx hb dL_ends_58 (by decide) (fun _ => ?_) (fun c9 => absurd ((nI_leI (a := 2) (b := how) (by omega) (by omega)).mpr (by omega)) c9)
          refine lv_iload_n hx hb dL_ends_166 rfl (lv_at hl 9 rfl) ?_
          refine lv_iconst (v := 4) hx hb dL_ends_167 (by decide) ?_
          refine lv_icmp_ge (tgt := 306) hx hb dL_ends_168 (by decide) (fun _ => ?_) (fun c9 => absurd ((nI_leI (a := 4) (b := how) (by omega) (by omega)).mpr (by omega)) c9)
          refine lv_iload_n hx hb dL_ends_306 rfl (lv_at hl 9 rfl) ?_
          refine lv_bipush (v := 7) hx hb dL_ends_307 (by decide) ?_
          refine lv_icmp_ge (tgt := 629) hx hb dL_ends_309 (by decide) (fun c9 => absurd c9 (mt (nI_leI (a := 7) (b := how) (by omega) (by omega)).mp (by omega))) (fun _ => ?_)
          refine lv_aload_n hx hb dL_ends_312 rfl (lv_at hl 7 rfl) ?_
          refine lv_iload_n hx hb dL_ends_313 rfl (lv_at hl 8 rfl) ?_
          refine lv_bipush (v := 6) hx hb dL_ends_314 (by decide) ?_
          refine sy_kl (vx_runSW (As := [.ref (ad 60), .int (nI j), .int 6]) (rest := []) ⟨hx, hb, hml, hown, hts⟩ (mL_ticketOf l hfl Z nT nK cT cK ad g q (nI j) 6 hI) (vx_cwSW 3 hts (gu_S uk_4_53 uk_4_54 uk_1_0 uk_4_55) rfl rfl rfl (by decide +kernel) ⟨Nat.le_of_ble_eq_true rfl, Nat.le_of_ble_eq_true rfl⟩) ⟨sPreL_blind _, fun U hU hW => ⟨rfl, ⟨hE.next hS hU hW.alike, by rw [hU]; exact hP⟩, hNc.next hW.alike⟩⟩ rfl rfl hl.1 rfl (lv_room (Nat.le_of_ble_eq_true rfl)) dL_ends_316 ⟨by show _ ≤ 80; (try dsimp only); omega, by show _ ≤ 800; (try dsimp only); omega⟩) hS (fun r gz qz H locs e9 hP hS => ?_)
          obtain ⟨er, eg, eq⟩ := eq_q (z := (fX4_lastDay g q j).toInt) (a_K hI hj).2.2.2.2.2.2.1 rfl e9
          subst er; subst eg; subst eq
          refine lv_aload_n hx hb dL_ends_319 rfl (lv_at hl 7 rfl) ?_
          refine sy_ki (sy_rV (o := 60) (As := []) (rest := [.long (lI ((fX4_lastDay g q j).toInt))]) ⟨hx, hb, hml, hown, hts⟩ hE hP hS (mX6_day l hfl Z nT nK cT cK ad g q (by have := ci_T hI; omega) (ci_IG hI) (ci_IQ hI)) (cwV 0 hts (gu_V uk_1_183 uk_1_184 uk_1_185 uk_1_1 uk_1_186) rfl rfl rfl (by decide +kernel) ⟨Nat.le_of_ble_eq_true rfl, Nat.le_of_ble_eq_true rfl⟩) (sy_recv (kc := 7) hE hP rfl (by decide) rfl rfl rfl) rfl hl.1 rfl (Nat.le_of_ble_eq_true rfl) dL_ends_320 ⟨by show _ ≤ 80; (try dsimp only); omega, by show _ ≤ 800; (try dsimp only); omega⟩) hS (fun r gz qz H locs e9 hP hS => ?_)
          obtain ⟨er, eg, eq⟩ : g 60 9 = r ∧ g = gz ∧ q = qz := by rw [show fX6_day g q = g 60 9 from rfl] at e9; cases e9; exact ⟨rfl, rfl, rfl⟩
          subst er; subst eg; subst eq
          refine lv_i2l (v := lI (g 60 9).toInt) hx hb dL_ends_323 (i_L _) ?_
          refine W.lcmp hx hb dL_ends_324 ?_
          refine lv_if_ge (tgt := 332) hx hb dL_ends_325 (by decide) (fun c9 => absurd c9 (by rw [(c_lt (a := (fX4_lastDay g q j).toInt) (b := (g 60 9).toInt) (by omega) (by omega) (by omega))]; decide)) (fun _ => ?_)
          refine lv_iconst (v := 1) hx hb dL_ends_328 (by decide) ?_
          refine lv_goto (tgt := 333) hx hb dL_ends_329 (by decide) ?_
          refine lv_istore (lv' := [(17, .int 1), (15, .long (lI ((g 68 1).toInt))), (13, .long (lI ((g 68 0).toInt))), (11, .long (lI ((barI g q j).toInt))), (10, .int (g (200 + j) 6)), (8, .long (lI ((fX6_interestNow g q j).toInt))), (6, .long (lI ((g (200 + j) 8).toInt))), (4, .long (lI ((g (200 + j) 7).toInt))), (0, .ref (ad 60)), (1, .int (nI j)), (2, .int (nI how)), (3, .int (nI yy))]) hx hb dL_ends_333 hl (by decide) rfl (fun ls hl => ?_)
          refine lv_aload_n hx hb dL_ends_335 rfl (lv_at hl 8 rfl) ?_
          refine lv_iload_n hx hb dL_ends_336 rfl (lv_at hl 9 rfl) ?_
          refine lv_bipush (v := 9) hx hb dL_ends_337 (by decide) ?_
          refine sy_kl (vx_runSW (As := [.ref (ad 60), .int (nI j), .int 9]) (rest := []) ⟨hx, hb, hml, hown, hts⟩ (mL_ticketOf l hfl Z nT nK cT cK ad g q (nI j) 9 hI) (vx_cwSW 3 hts (gu_S uk_4_53 uk_4_54 uk_1_0 uk_4_55) rfl rfl rfl (by decide +kernel) ⟨Nat.le_of_ble_eq_true rfl, Nat.le_of_ble_eq_true rfl⟩) ⟨sPreL_blind _, fun U hU hW => ⟨rfl, ⟨hE.next hS hU hW.alike, by rw [hU]; exact hP⟩, hNc.next hW.alike⟩⟩ rfl rfl hl.1 rfl (lv_room (Nat.le_of_ble_eq_true rfl)) dL_ends_339 ⟨by show _ ≤ 80; (try dsimp only); omega, by show _ ≤ 800; (try dsimp only); omega⟩) hS (fun r gz qz H locs e9 hP hS => ?_)
          obtain ⟨er, eg, eq⟩ := eq_q (z := (g (200 + j) 13).toInt) (a_K hI hj).2.2.2.2.2.2.2.2.2 rfl e9
          subst er; subst eg; subst eq
          refine lv_lstore (lv' := [(18, .long (lI ((g (200 + j) 13).toInt))), (17, .int 1), (15, .long (lI ((g 68 1).toInt))), (13, .long (lI ((g 68 0).toInt))), (11, .long (lI ((barI g q j).toInt))), (10, .int (g (200 + j) 6)), (8, .long (lI ((fX6_interestNow g q j).toInt))), (6, .long (lI ((g (200 + j) 8).toInt))), (4, .long (lI ((g (200 + j) 7).toInt))), (0, .ref (ad 60)), (1, .int (nI j)), (2, .int (nI how)), (3, .int (nI yy))]) hx hb dL_ends_342 hl (by decide) rfl (fun ls hl => ?_)
          refine W.widen (k := 40) (n := 400) (by (try dsimp only); omega) (by (try dsimp only); omega) ?_
          have hM : W p l e ({ frames := 10, cells := 80, slots := 800, locals := 172 } : Room) s m ([.ref (ad 60), .int (nI j), .int (nI how), .int (nI yy)] : List Value).toArray below meth c H locs 40 400 (MQ below (sQi Z nT nK cT cK ad (fun r g1 q1 => r = 1 ∧ CI (n + 1) nT nK cT cK g1 q1)) ([.ref (ad 60), .int (nI j), .int (nI how), .int (nI yy)] : List Value).toArray s 80 800 (sy_A Z)) (F0 m 368 ls [.int (nI pm)]) := by
            refine lv_istore (lv' := [(20, .int (nI pm)), (18, .long (lI ((g (200 + j) 13).toInt))), (17, .int 1), (15, .long (lI ((g 68 1).toInt))), (13, .long (lI ((g 68 0).toInt))), (11, .long (lI ((barI g q j).toInt))), (10, .int (g (200 + j) 6)), (8, .long (lI ((fX6_interestNow g q j).toInt))), (6, .long (lI ((g (200 + j) 8).toInt))), (4, .long (lI ((g (200 + j) 7).toInt))), (0, .ref (ad 60)), (1, .int (nI j)), (2, .int (nI how)), (3, .int (nI yy))]) hx hb dL_ends_368 hl (by decide) rfl (fun ls hl => ?_)
            refine lv_aload_n hx hb dL_ends_370 rfl (lv_at hl 10 rfl) ?_
            refine lv_iload_n hx hb dL_ends_371 rfl (lv_at hl 11 rfl) ?_
            refine lv_iload hx hb dL_ends_372 (lv_at hl 0 rfl) ?_
            refine sy_kl (vx_runSW (As := [.ref (ad 60), .int (nI j), .int (nI pm)]) (rest := []) ⟨hx, hb, hml, hown, hts⟩ (mL_offer l hfl Z nT nK cT cK ad g q (nI j) (nI pm) hI) (vx_cwSW 3 hts (gu_S uk_4_167 uk_4_168 uk_1_0 uk_4_169) rfl rfl rfl (by decide +kernel) ⟨Nat.le_of_ble_eq_true rfl, Nat.le_of_ble_eq_true rfl⟩) ⟨sPreL_blind _, fun U hU hW => ⟨rfl, ⟨hE.next hS hU hW.alike, by rw [hU]; exact hP⟩, hNc.next hW.alike⟩⟩ rfl rfl hl.1 rfl (lv_room (Nat.le_of_ble_eq_true rfl)) dL_ends_374 ⟨by show _ ≤ 80; (try dsimp only); omega, by show _ ≤ 800; (try dsimp only); omega⟩) hS (fun r g1 q1 H locs e9 hP hS => ?_)
            obtain ⟨er, eg, eq⟩ := eq_y (z := ov) h1 hov e9
            subst er
            rw [eg, eq] at hI2
            rw [eg] at o3
            rw [eg] at o4
            rw [eg] at s2
            rw [eg] at s3
            have hI := hI2
            clear e9
            have b9 := i32b (g1 68 0)
            have b10 := i32b (g1 68 1)
            have b11 := i32b (g1 (200 + j) 14)
            refine lv_lstore (lv' := [(21, .long (lI ov)), (20, .int (nI pm)), (18, .long (lI ((g (200 + j) 13).toInt))), (17, .int 1), (15, .long (lI ((g 68 1).toInt))), (13, .long (lI ((g 68 0).toInt))), (11, .long (lI ((barI g q j).toInt))), (10, .int (g (200 + j) 6)), (8, .long (lI ((fX6_interestNow g q j).toInt))), (6, .long (lI ((g (200 + j) 8).toInt))), (4, .long (lI ((g (200 + j) 7).toInt))), (0, .ref (ad 60)), (1, .int (nI j)), (2, .int (nI how)), (3, .int (nI yy))]) hx hb dL_ends_377 hl (by decide) rfl (fun ls hl => ?_)
            refine W.widen (k := 60) (n := 500) (by (try dsimp only); omega) (by (try dsimp only); omega) ?_
            have hR : W p l e ({ frames := 10, cells := 80, slots := 800, locals := 172 } : Room) s m ([.ref (ad 60), .int (nI j), .int (nI how), .int (nI yy)] : List Value).toArray below meth c H locs 60 500 (MQ below (sQi Z nT nK cT cK ad (fun r g1 q1 => r = 1 ∧ CI (n + 1) nT nK cT cK g1 q1)) ([.ref (ad 60), .int (nI j), .int (nI how), .int (nI yy)] : List Value).toArray s 80 800 (sy_A Z)) (F0 m 407 ls [.long (lI (rsv g q j))]) := by
              refine lv_lstore (lv' := [(23, .long (lI (rsv g q j))), (21, .long (lI ov)), (20, .int (nI pm)), (18, .long (lI ((g (200 + j) 13).toInt))), (17, .int 1), (15, .long (lI ((g 68 1).toInt))), (13, .long (lI ((g 68 0).toInt))), (11, .long (lI ((barI g q j).toInt))), (10, .int (g (200 + j) 6)), (8, .long (lI ((fX6_interestNow g q j).toInt))), (6, .long (lI ((g (200 + j) 8).toInt))), (4, .long (lI ((g (200 + j) 7).toInt))), (0, .ref (ad 60)), (1, .int (nI j)), (2, .int (nI how)), (3, .int (nI yy))]) hx hb dL_ends_407 hl (by decide) rfl (fun ls hl => ?_)
              refine lv_lload hx hb dL_ends_409 (lv_at hl 1 rfl) ?_
              refine lv_ldc2 (v := lI (-9000000000000000003)) hx hb hown (hts _ (u_in uk_2_183)) dL_ends_411 ?_
              refine W.lcmp hx hb dL_ends_414 ?_
              refine lv_if_ne (tgt := 436) hx hb dL_ends_415 (by decide) (fun _ => ?_) (fun c9 => absurd c9 (c_ne (a := ov) (b := (-9000000000000000003)) (by omega) (by omega) (by omega)))
              refine lv_lload hx hb dL_ends_436 (lv_at hl 11 rfl) ?_
              refine lv_lconst (v := lI 0) hx hb dL_ends_438 rfl ?_
              refine W.lcmp hx hb dL_ends_439 ?_
              refine lv_if_ne (tgt := 459) hx hb dL_ends_440 (by decide) (fun c9 => absurd (c_eq (a := (g (200 + j) 7).toInt) (b := 0) ((by rw [h7]; rfl))) c9) (fun _ => ?_)
              refine lv_lload hx hb dL_ends_443 (lv_at hl 7 rfl) ?_
              refine lv_lconst (v := lI 0) hx hb dL_ends_445 rfl ?_
              refine W.lcmp hx hb dL_ends_446 ?_
              refine lv_if_ne (tgt := 459) hx hb dL_ends_447 (by decide) (fun c9 => absurd (c_eq (a := (barI g q j).toInt) (b := 0) ((by rw [hbz]; rfl))) c9) (fun _ => ?_)
              refine lv_iload hx hb dL_ends_450 (lv_at hl 4 rfl) ?_
              refine lv_if_eq (tgt := 459) hx hb dL_ends_452 (by decide) (fun c9 => absurd c9 (by decide)) (fun _ => ?_)
              refine lv_iconst (v := 1) hx hb dL_ends_455 (by decide) ?_
              refine lv_goto (tgt := 460) hx hb dL_ends_456 (by decide) ?_
              refine lv_istore (lv' := [(25, .int 1), (23, .long (lI (rsv g q j))), (21, .long (lI ov)), (20, .int (nI pm)), (18, .long (lI ((g (200 + j) 13).toInt))), (17, .int 1), (15, .long (lI ((g 68 1).toInt))), (13, .long (lI ((g 68 0).toInt))), (11, .long (lI ((barI g q j).toInt))), (10, .int (g (200 + j) 6)), (8, .long (lI ((fX6_interestNow g q j).toInt))), (6, .long (lI ((g (200 + j) 8).toInt))), (4, .long (lI ((g (200 + j) 7).toInt))), (0, .ref (ad 60)), (1, .int (nI j)), (2, .int (nI how)), (3, .int (nI yy))]) hx hb dL_ends_460 hl (by decide) rfl (fun ls hl => ?_)
              refine lv_iload hx hb dL_ends_462 (lv_at hl 3 rfl) ?_
              refine lv_i2l (v := lI ((pm : Nat) : Int)) hx hb dL_ends_464 (nI_L (by omega)) ?_
              refine lv_lload hx hb dL_ends_465 (lv_at hl 1 rfl) ?_
              refine W.lcmp hx hb dL_ends_467 ?_
              refine lv_if_ge (tgt := 517) hx hb dL_ends_468 (by decide) (fun _ => ?_) (fun c9 => absurd (by rw [le_of_toInt]; have h9 := (c_ge (a := ((pm : Nat) : Int)) (b := (rsv g q j)) (by omega) (by omega) (by omega)); rw [lt_of_toInt] at h9; have h8 : (0 : Int32).toInt = 0 := rfl; omega) c9)
              refine lv_iload hx hb dL_ends_517 (lv_at hl 0 rfl) ?_
              refine lv_if_eq (tgt := 627) hx hb dL_ends_519 (by decide) (fun c9 => absurd c9 (by decide)) (fun _ => ?_)
              refine lv_lload hx hb dL_ends_522 (lv_at hl 2 rfl) ?_
              refine lv_iload hx hb dL_ends_524 (lv_at hl 3 rfl) ?_
              refine lv_i2l (v := lI ((pm : Nat) : Int)) hx hb dL_ends_526 (nI_L (by omega)) ?_
              refine lv_lload hx hb dL_ends_527 (lv_at hl 11 rfl) ?_
              refine lv_lsub hx hb dL_ends_529 ?_
              refine sy_topL (y := lI (((pm : Nat) : Int) - (g (200 + j) 8).toInt)) (lI_sub _ _) ?_
              refine lv_lload hx hb dL_ends_530 (lv_at hl 10 rfl) ?_
              refine lv_lsub hx hb dL_ends_532 ?_
              refine sy_topL (y := lI ((((pm : Nat) : Int) - (g (200 + j) 8).toInt) - (fX6_interestNow g q j).toInt)) (lI_sub _ _) ?_
              refine lv_iconst (v := 5) hx hb dL_ends_533 (by decide) ?_
              refine lv_iload hx hb dL_ends_534 (lv_at hl 3 rfl) ?_
              refine lv_imul hx hb dL_ends_536 ?_
              refine sy_top (y := nI (5 * pm)) (nI_mul 5 pm) ?_
              refine lv_bipush (v := 100) hx hb dL_ends_537 (by decide) ?_
              refine lv_idiv hx hb dL_ends_539 (by decide) ?_
              refine sy_top (y := nI ((5 * pm) / 100)) (nI_div (a := (5 * pm)) (b := 100) (by omega) (by omega)) ?_
              refine lv_i2l (v := lI ((((5 * pm) / 100) : Nat) : Int)) hx hb dL_ends_540 (nI_L (by omega)) ?_
              refine lv_lsub hx hb dL_ends_541 ?_
              refine sy_topL (y := lI (((((pm : Nat) : Int) - (g (200 + j) 8).toInt) - (fX6_interestNow g q j).toInt) - ((((5 * pm) / 100) : Nat) : Int))) (lI_sub _ _) ?_
              refine W.lcmp hx hb dL_ends_542 ?_
              refine lv_if_ne (tgt := 627) hx hb dL_ends_543 (by decide) (fun c9 => absurd (c_eq (a := ov) (b := (((((pm : Nat) : Int) - (g (200 + j) 8).toInt) - (fX6_interestNow g q j).toInt) - ((((5 * pm) / 100) : Nat) : Int))) (by omega)) c9) (fun _ => ?_)
              refine lv_aload_n hx hb dL_ends_546 rfl (lv_at hl 13 rfl) ?_
              refine lv_iload_n hx hb dL_ends_547 rfl (lv_at hl 14 rfl) ?_
              refine lv_iconst (v := 0) hx hb dL_ends_548 (by decide) ?_
              refine sy_kl (vx_runSW (As := [.ref (ad 60), .int (nI j), .int 0]) (rest := []) ⟨hx, hb, hml, hown, hts⟩ (mL_ticketOf l hfl Z nT nK cT cK ad g1 q1 (nI j) 0 hI) (vx_cwSW 3 hts (gu_S uk_4_53 uk_4_54 uk_1_0 uk_4_55) rfl rfl rfl (by decide +kernel) ⟨Nat.le_of_ble_eq_true rfl, Nat.le_of_ble_eq_true rfl⟩) ⟨sPreL_blind _, fun U hU hW => ⟨rfl, ⟨hE.next hS hU hW.alike, by rw [hU]; exact hP⟩, hNc.next hW.alike⟩⟩ rfl rfl hl.1 rfl (lv_room (Nat.le_of_ble_eq_true rfl)) dL_ends_549 ⟨by show _ ≤ 80; (try dsimp only); omega, by show _ ≤ 800; (try dsimp only); omega⟩) hS (fun r gz qz H locs e9 hP hS => ?_)
              obtain ⟨er, eg, eq⟩ := eq_q (z := 2) (a_K hI hj).1 (by rw [o3]; rfl) e9
              subst er; subst eg; subst eq
              refine lv_ldc2 (v := lI (2)) hx hb hown (hts _ (u_in uk_4_121)) dL_ends_552 ?_
              refine W.lcmp hx hb dL_ends_555 ?_
              refine lv_if_ne (tgt := 627) hx hb dL_ends_556 (by decide) (fun c9 => absurd (c_eq (a := 2) (b := (2)) (by omega)) c9) (fun _ => ?_)
              refine lv_aload_n hx hb dL_ends_559 rfl (lv_at hl 13 rfl) ?_
              refine lv_iconst (v := 0) hx hb dL_ends_560 (by decide) ?_
              refine sy_kl (vx_runSW (As := [.ref (ad 60), .int 0]) (rest := []) ⟨hx, hb, hml, hown, hts⟩ (mL_money l hfl Z nT nK cT cK ad g1 q1 0 hI) (vx_cwSW 2 hts (gu_S uk_4_88 uk_4_89 uk_1_0 uk_4_90) rfl rfl rfl (by decide +kernel) ⟨Nat.le_of_ble_eq_true rfl, Nat.le_of_ble_eq_true rfl⟩) ⟨sPreL_blind _, fun U hU hW => ⟨rfl, ⟨hE.next hS hU hW.alike, by rw [hU]; exact hP⟩, hNc.next hW.alike⟩⟩ rfl rfl hl.1 rfl (lv_room (Nat.le_of_ble_eq_true rfl)) dL_ends_561 ⟨by show _ ≤ 80; (try dsimp only); omega, by show _ ≤ 800; (try dsimp only); omega⟩) hS (fun r gz qz H locs e9 hP hS => ?_)
              obtain ⟨er, eg, eq⟩ := eq_q (z := (g1 68 0).toInt) a_M.1 rfl e9
              subst er; subst eg; subst eq
              refine lv_lload hx hb dL_ends_564 (lv_at hl 7 rfl) ?_
              refine lv_iload hx hb dL_ends_566 (lv_at hl 3 rfl) ?_
              refine lv_i2l (v := lI ((pm : Nat) : Int)) hx hb dL_ends_568 (nI_L (by omega)) ?_
              refine lv_ladd hx hb dL_ends_569 ?_
              refine sy_topL (y := lI ((g 68 0).toInt + ((pm : Nat) : Int))) (lI_add _ _) ?_
              refine W.lcmp hx hb dL_ends_570 ?_
              refine lv_if_ne (tgt := 627) hx hb dL_ends_571 (by decide) (fun c9 => absurd (c_eq (a := (g1 68 0).toInt) (b := ((g 68 0).toInt + ((pm : Nat) : Int))) (by omega)) c9) (fun _ => ?_)
              refine lv_aload_n hx hb dL_ends_574 rfl (lv_at hl 13 rfl) ?_
              refine lv_iconst (v := 1) hx hb dL_ends_575 (by decide) ?_
              refine sy_kl (vx_runSW (As := [.ref (ad 60), .int 1]) (rest := []) ⟨hx, hb, hml, hown, hts⟩ (mL_money l hfl Z nT nK cT cK ad g1 q1 1 hI) (vx_cwSW 2 hts (gu_S uk_4_88 uk_4_89 uk_1_0 uk_4_90) rfl rfl rfl (by decide +kernel) ⟨Nat.le_of_ble_eq_true rfl, Nat.le_of_ble_eq_true rfl⟩) ⟨sPreL_blind _, fun U hU hW => ⟨rfl, ⟨hE.next hS hU hW.alike, by rw [hU]; exact hP⟩, hNc.next hW.alike⟩⟩ rfl rfl hl.1 rfl (lv_room (Nat.le_of_ble_eq_true rfl)) dL_ends_576 ⟨by show _ ≤ 80; (try dsimp only); omega, by show _ ≤ 800; (try dsimp only); omega⟩) hS (fun r gz qz H locs e9 hP hS => ?_)
              obtain ⟨er, eg, eq⟩ := eq_q (z := (g1 68 1).toInt) a_M.2.1 rfl e9
              subst er; subst eg; subst eq
              refine lv_lload hx hb dL_ends_579 (lv_at hl 6 rfl) ?_
              refine lv_lload hx hb dL_ends_581 (lv_at hl 2 rfl) ?_
              refine lv_lconst (v := lI 0) hx hb dL_ends_583 rfl ?_
              refine W.lcmp hx hb dL_ends_584 ?_
              refine lv_if_le (tgt := 593) hx hb dL_ends_585 (by decide) (fun c9 => absurd c9 (by rw [(c_gt (a := ov) (b := 0) (by omega) (by omega) (by omega))]; decide)) (fun _ => ?_)
              refine lv_lload hx hb dL_ends_588 (lv_at hl 2 rfl) ?_
              refine lv_goto (tgt := 594) hx hb dL_ends_590 (by decide) ?_
              refine lv_ladd hx hb dL_ends_594 ?_
              refine sy_topL (y := lI ((g 68 1).toInt + ov)) (lI_add _ _) ?_
              refine W.lcmp hx hb dL_ends_595 ?_
              refine lv_if_ne (tgt := 627) hx hb dL_ends_596 (by decide) (fun c9 => absurd (c_eq (a := (g1 68 1).toInt) (b := ((g 68 1).toInt + ov)) (by omega)) c9) (fun _ => ?_)
              refine lv_aload_n hx hb dL_ends_599 rfl (lv_at hl 13 rfl) ?_
              refine lv_iload_n hx hb dL_ends_600 rfl (lv_at hl 14 rfl) ?_
              refine lv_bipush (v := 7) hx hb dL_ends_601 (by decide) ?_
              refine sy_kl (vx_runSW (As := [.ref (ad 60), .int (nI j), .int 7]) (rest := []) ⟨hx, hb, hml, hown, hts⟩ (mL_ticketOf l hfl Z nT nK cT cK ad g1 q1 (nI j) 7 hI) (vx_cwSW 3 hts (gu_S uk_4_53 uk_4_54 uk_1_0 uk_4_55) rfl rfl rfl (by decide +kernel) ⟨Nat.le_of_ble_eq_true rfl, Nat.le_of_ble_eq_true rfl⟩) ⟨sPreL_blind _, fun U hU hW => ⟨rfl, ⟨hE.next hS hU hW.alike, by rw [hU]; exact hP⟩, hNc.next hW.alike⟩⟩ rfl rfl hl.1 rfl (lv_room (Nat.le_of_ble_eq_true rfl)) dL_ends_603 ⟨by show _ ≤ 80; (try dsimp only); omega, by show _ ≤ 800; (try dsimp only); omega⟩) hS (fun r gz qz H locs e9 hP hS => ?_)
              obtain ⟨er, eg, eq⟩ := eq_q (z := (g1 (200 + j) 14).toInt) (a_K hI hj).2.2.2.2.2.2.2.1 rfl e9
              subst er; subst eg; subst eq
              refine lv_lload hx hb dL_ends_606 (lv_at hl 2 rfl) ?_
              refine lv_lconst (v := lI 0) hx hb dL_ends_608 rfl ?_
              refine W.lcmp hx hb dL_ends_609 ?_
              refine lv_if_le (tgt := 618) hx hb dL_ends_610 (by decide) (fun c9 => absurd c9 (by rw [(c_gt (a := ov) (b := 0) (by omega) (by omega) (by omega))]; decide)) (fun _ => ?_)
              refine lv_lload hx hb dL_ends_613 (lv_at hl 2 rfl) ?_
              refine lv_goto (tgt := 619) hx hb dL_ends_615 (by decide) ?_
              refine W.lcmp hx hb dL_ends_619 ?_
              refine lv_if_ne (tgt := 627) hx hb dL_ends_620 (by decide) (fun c9 => absurd (c_eq (a := (g1 (200 + j) 14).toInt) (b := ov) (by omega)) c9) (fun _ => ?_)
              refine lv_iconst (v := 1) hx hb dL_ends_623 (by decide) ?_
              refine lv_goto (tgt := 628) hx hb dL_ends_624 (by decide) ?_
              exact sy_iretz hx hb hr hlocks hE hP hS dL_ends_628 ⟨by (try dsimp only); omega, by (try dsimp only); omega⟩ (by decide) ⟨rfl, hI⟩
            by_cases v0 : g (200 + j) 13 = 0
            · skip
              refine lv_lload hx hb dL_ends_379 (lv_at hl 2 rfl) ?_
              refine lv_lconst (v := lI 0) hx hb dL_ends_381 rfl ?_
              refine W.lcmp hx hb dL_ends_382 ?_
              refine lv_if_ne (tgt := 394) hx hb dL_ends_383 (by decide) (fun c9 => absurd (c_eq (a := (g (200 + j) 13).toInt) (b := 0) ((by rw [v0]; rfl))) c9) (fun _ => ?_)
              refine lv_lload hx hb dL_ends_386 (lv_at hl 9 rfl) ?_
              refine lv_lload hx hb dL_ends_388 (lv_at hl 8 rfl) ?_
              refine lv_ladd hx hb dL_ends_390 ?_
              refine sy_topL (y := lI ((g (200 + j) 8).toInt + (fX6_interestNow g q j).toInt)) (lI_add _ _) ?_
              refine lv_goto (tgt := 407) hx hb dL_ends_391 (by decide) ?_
              refine sy_topL (y := lI (rsv g q j)) (by unfold rsv; rw [if_pos v0]) ?_
              exact hR
            · skip
              have v0n : (g (200 + j) 13).toInt ≠ 0 := fun z => v0 (Int32.toInt_inj.mp z)
              by_cases v1 : g (200 + j) 13 = 1
              · skip
                refine lv_lload hx hb dL_ends_379 (lv_at hl 2 rfl) ?_
                refine lv_lconst (v := lI 0) hx hb dL_ends_381 rfl ?_
                refine W.lcmp hx hb dL_ends_382 ?_
                refine lv_if_ne (tgt := 394) hx hb dL_ends_383 (by decide) (fun _ => ?_) (fun c9 => absurd c9 (c_ne (a := (g (200 + j) 13).toInt) (b := 0) (by omega) (by omega) (by omega)))
                refine lv_lload hx hb dL_ends_394 (lv_at hl 2 rfl) ?_
                refine lv_lconst (v := lI 1) hx hb dL_ends_396 rfl ?_
                refine W.lcmp hx hb dL_ends_397 ?_
                refine lv_if_ne (tgt := 406) hx hb dL_ends_398 (by decide) (fun c9 => absurd (c_eq (a := (g (200 + j) 13).toInt) (b := 1) ((by rw [v1]; rfl))) c9) (fun _ => ?_)
                refine lv_lload hx hb dL_ends_401 (lv_at hl 9 rfl) ?_
                refine lv_goto (tgt := 407) hx hb dL_ends_403 (by decide) ?_
                refine sy_topL (y := lI (rsv g q j)) (by unfold rsv; rw [if_neg v0, if_pos v1]) ?_
                exact hR
              · skip
                have v1n : (g (200 + j) 13).toInt ≠ 1 := fun z => v1 (Int32.toInt_inj.mp z)
                refine lv_lload hx hb dL_ends_379 (lv_at hl 2 rfl) ?_
                refine lv_lconst (v := lI 0) hx hb dL_ends_381 rfl ?_
                refine W.lcmp hx hb dL_ends_382 ?_
                refine lv_if_ne (tgt := 394) hx hb dL_ends_383 (by decide) (fun _ => ?_) (fun c9 => absurd c9 (c_ne (a := (g (200 + j) 13).toInt) (b := 0) (by omega) (by omega) (by omega)))
                refine lv_lload hx hb dL_ends_394 (lv_at hl 2 rfl) ?_
                refine lv_lconst (v := lI 1) hx hb dL_ends_396 rfl ?_
                refine W.lcmp hx hb dL_ends_397 ?_
                refine lv_if_ne (tgt := 406) hx hb dL_ends_398 (by decide) (fun _ => ?_) (fun c9 => absurd c9 (c_ne (a := (g (200 + j) 13).toInt) (b := 1) (by omega) (by omega) (by omega)))
                refine lv_lconst (v := lI 0) hx hb dL_ends_406 rfl ?_
                refine sy_topL (y := lI (rsv g q j)) (by unfold rsv; rw [if_neg v0, if_neg v1]) ?_
                exact hR
          by_cases h5y : yy % 5 = 0
          · skip
            refine lv_iload_n hx hb dL_ends_344 rfl (lv_at hl 12 rfl) ?_
            refine lv_iconst (v := 5) hx hb dL_ends_345 (by decide) ?_
            refine lv_irem hx hb dL_ends_346 (by decide) ?_
            refine sy_top (y := nI (yy % 5)) (nI_rem (a := yy) (b := 5) (by omega) (by omega)) ?_
            refine lv_if_ne (tgt := 360) hx hb dL_ends_347 (by decide) (fun c9 => absurd ((nI_eq (a := (yy % 5)) (b := 0) (by omega) (by omega)).mpr (by omega)) c9) (fun _ => ?_)
            refine lv_iload_n hx hb dL_ends_350 rfl (lv_at hl 12 rfl) ?_
            refine lv_bipush (v := 8) hx hb dL_ends_351 (by decide) ?_
            refine lv_idiv hx hb dL_ends_353 (by decide) ?_
            refine sy_top (y := nI (yy / 8)) (nI_div (a := yy) (b := 8) (by omega) (by omega)) ?_
            refine lv_bipush (v := 30) hx hb dL_ends_354 (by decide) ?_
            refine lv_irem hx hb dL_ends_356 (by decide) ?_
            refine sy_top (y := nI ((yy / 8) % 30)) (nI_rem (a := (yy / 8)) (b := 30) (by omega) (by omega)) ?_
            refine lv_goto (tgt := 368) hx hb dL_ends_357 (by decide) ?_
            refine sy_top (y := nI pm) (by rw [hpm, if_pos h5y]) ?_
            exact hM
          · skip
            refine lv_iload_n hx hb dL_ends_344 rfl (lv_at hl 12 rfl) ?_
            refine lv_iconst (v := 5) hx hb dL_ends_345 (by decide) ?_
            refine lv_irem hx hb dL_ends_346 (by decide) ?_
            refine sy_top (y := nI (yy % 5)) (nI_rem (a := yy) (b := 5) (by omega) (by omega)) ?_
            refine lv_if_ne (tgt := 360) hx hb dL_ends_347 (by decide) (fun _ => ?_) (fun c9 => absurd c9 (mt (nI_eq (a := (yy % 5)) (b := 0) (by omega) (by omega)).mp (by omega)))
            refine lv_iload_n hx hb dL_ends_360 rfl (lv_at hl 12 rfl) ?_
            refine lv_bipush (v := 8) hx hb dL_ends_361 (by decide) ?_
            refine lv_idiv hx hb dL_ends_363 (by decide) ?_
            refine sy_top (y := nI (yy / 8)) (nI_div (a := yy) (b := 8) (by omega) (by omega)) ?_
            refine lv_sipush (v := 4000) hx hb dL_ends_364 (by decide) ?_
            refine lv_irem hx hb dL_ends_367 (by decide) ?_
            refine sy_top (y := nI ((yy / 8) % 4000)) (nI_rem (a := (yy / 8)) (b := 4000) (by omega) (by omega)) ?_
            refine sy_top (y := nI pm) (by rw [hpm, if_neg h5y]) ?_
            exact hM
        · skip
          refine lv_iload_n hx hb dL_ends_56 rfl (lv_at hl 9 rfl) ?_
          refine lv_iconst (v := 2) hx hb dL_ends_57 (by decide) ?_
          refine lv_icmp_ge (tgt := 166) hx hb dL_ends_58 (by decide) (fun _ => ?_) (fun c9 => absurd ((nI_leI (a := 2) (b := how) (by omega) (by omega)).mpr (by omega)) c9)
          refine lv_iload_n hx hb dL_ends_166 rfl (lv_at hl 9 rfl) ?_
          refine lv_iconst (v := 4) hx hb dL_ends_167 (by decide) ?_
          refine lv_icmp_ge (tgt := 306) hx hb dL_ends_168 (by decide) (fun _ => ?_) (fun c9 => absurd ((nI_leI (a := 4) (b := how) (by omega) (by omega)).mpr (by omega)) c9)
          refine lv_iload_n hx hb dL_ends_306 rfl (lv_at hl 9 rfl) ?_
          refine lv_bipush (v := 7) hx hb dL_ends_307 (by decide) ?_
          refine lv_icmp_ge (tgt := 629) hx hb dL_ends_309 (by decide) (fun c9 => absurd c9 (mt (nI_leI (a := 7) (b := how) (by omega) (by omega)).mp (by omega))) (fun _ => ?_)
          refine lv_aload_n hx hb dL_ends_312 rfl (lv_at hl 7 rfl) ?_
          refine lv_iload_n hx hb dL_ends_313 rfl (lv_at hl 8 rfl) ?_
          refine lv_bipush (v := 6) hx hb dL_ends_314 (by decide) ?_
          refine sy_kl (vx_runSW (As := [.ref (ad 60), .int (nI j), .int 6]) (rest := []) ⟨hx, hb, hml, hown, hts⟩ (mL_ticketOf l hfl Z nT nK cT cK ad g q (nI j) 6 hI) (vx_cwSW 3 hts (gu_S uk_4_53 uk_4_54 uk_1_0 uk_4_55) rfl rfl rfl (by decide +kernel) ⟨Nat.le_of_ble_eq_true rfl, Nat.le_of_ble_eq_true rfl⟩) ⟨sPreL_blind _, fun U hU hW => ⟨rfl, ⟨hE.next hS hU hW.alike, by rw [hU]; exact hP⟩, hNc.next hW.alike⟩⟩ rfl rfl hl.1 rfl (lv_room (Nat.le_of_ble_eq_true rfl)) dL_ends_316 ⟨by show _ ≤ 80; (try dsimp only); omega, by show _ ≤ 800; (try dsimp only); omega⟩) hS (fun r gz qz H locs e9 hP hS => ?_)
          obtain ⟨er, eg, eq⟩ := eq_q (z := (fX4_lastDay g q j).toInt) (a_K hI hj).2.2.2.2.2.2.1 rfl e9
          subst er; subst eg; subst eq
          refine lv_aload_n hx hb dL_ends_319 rfl (lv_at hl 7 rfl) ?_
          refine sy_ki (sy_rV (o := 60) (As := []) (rest := [.long (lI ((fX4_lastDay g q j).toInt))]) ⟨hx, hb, hml, hown, hts⟩ hE hP hS (mX6_day l hfl Z nT nK cT cK ad g q (by have := ci_T hI; omega) (ci_IG hI) (ci_IQ hI)) (cwV 0 hts (gu_V uk_1_183 uk_1_184 uk_1_185 uk_1_1 uk_1_186) rfl rfl rfl (by decide +kernel) ⟨Nat.le_of_ble_eq_true rfl, Nat.le_of_ble_eq_true rfl⟩) (sy_recv (kc := 7) hE hP rfl (by decide) rfl rfl rfl) rfl hl.1 rfl (Nat.le_of_ble_eq_true rfl) dL_ends_320 ⟨by show _ ≤ 80; (try dsimp only); omega, by show _ ≤ 800; (try dsimp only); omega⟩) hS (fun r gz qz H locs e9 hP hS => ?_)
          obtain ⟨er, eg, eq⟩ : g 60 9 = r ∧ g = gz ∧ q = qz := by rw [show fX6_day g q = g 60 9 from rfl] at e9; cases e9; exact ⟨rfl, rfl, rfl⟩
          subst er; subst eg; subst eq
          refine lv_i2l (v := lI (g 60 9).toInt) hx hb dL_ends_323 (i_L _) ?_
          refine W.lcmp hx hb dL_ends_324 ?_
          refine lv_if_ge (tgt := 332) hx hb dL_ends_325 (by decide) (fun c9 => absurd c9 (by rw [(c_lt (a := (fX4_lastDay g q j).toInt) (b := (g 60 9).toInt) (by omega) (by omega) (by omega))]; decide)) (fun _ => ?_)
          refine lv_iconst (v := 1) hx hb dL_ends_328 (by decide) ?_
          refine lv_goto (tgt := 333) hx hb dL_ends_329 (by decide) ?_
          refine lv_istore (lv' := [(17, .int 1), (15, .long (lI ((g 68 1).toInt))), (13, .long (lI ((g 68 0).toInt))), (11, .long (lI ((barI g q j).toInt))), (10, .int (g (200 + j) 6)), (8, .long (lI ((fX6_interestNow g q j).toInt))), (6, .long (lI ((g (200 + j) 8).toInt))), (4, .long (lI ((g (200 + j) 7).toInt))), (0, .ref (ad 60)), (1, .int (nI j)), (2, .int (nI how)), (3, .int (nI yy))]) hx hb dL_ends_333 hl (by decide) rfl (fun ls hl => ?_)
          refine lv_aload_n hx hb dL_ends_335 rfl (lv_at hl 8 rfl) ?_
          refine lv_iload_n hx hb dL_ends_336 rfl (lv_at hl 9 rfl) ?_
          refine lv_bipush (v := 9) hx hb dL_ends_337 (by decide) ?_
          refine sy_kl (vx_runSW (As := [.ref (ad 60), .int (nI j), .int 9]) (rest := []) ⟨hx, hb, hml, hown, hts⟩ (mL_ticketOf l hfl Z nT nK cT cK ad g q (nI j) 9 hI) (vx_cwSW 3 hts (gu_S uk_4_53 uk_4_54 uk_1_0 uk_4_55) rfl rfl rfl (by decide +kernel) ⟨Nat.le_of_ble_eq_true rfl, Nat.le_of_ble_eq_true rfl⟩) ⟨sPreL_blind _, fun U hU hW => ⟨rfl, ⟨hE.next hS hU hW.alike, by rw [hU]; exact hP⟩, hNc.next hW.alike⟩⟩ rfl rfl hl.1 rfl (lv_room (Nat.le_of_ble_eq_true rfl)) dL_ends_339 ⟨by show _ ≤ 80; (try dsimp only); omega, by show _ ≤ 800; (try dsimp only); omega⟩) hS (fun r gz qz H locs e9 hP hS => ?_)
          obtain ⟨er, eg, eq⟩ := eq_q (z := (g (200 + j) 13).toInt) (a_K hI hj).2.2.2.2.2.2.2.2.2 rfl e9
          subst er; subst eg; subst eq
          refine lv_lstore (lv' := [(18, .long (lI ((g (200 + j) 13).toInt))), (17, .int 1), (15, .long (lI ((g 68 1).toInt))), (13, .long (lI ((g 68 0).toInt))), (11, .long (lI ((barI g q j).toInt))), (10, .int (g (200 + j) 6)), (8, .long (lI ((fX6_interestNow g q j).toInt))), (6, .long (lI ((g (200 + j) 8).toInt))), (4, .long (lI ((g (200 + j) 7).toInt))), (0, .ref (ad 60)), (1, .int (nI j)), (2, .int (nI how)), (3, .int (nI yy))]) hx hb dL_ends_342 hl (by decide) rfl (fun ls hl => ?_)
          refine W.widen (k := 40) (n := 400) (by (try dsimp only); omega) (by (try dsimp only); omega) ?_
          have hM : W p l e ({ frames := 10, cells := 80, slots := 800, locals := 172 } : Room) s m ([.ref (ad 60), .int (nI j), .int (nI how), .int (nI yy)] : List Value).toArray below meth c H locs 40 400 (MQ below (sQi Z nT nK cT cK ad (fun r g1 q1 => r = 1 ∧ CI (n + 1) nT nK cT cK g1 q1)) ([.ref (ad 60), .int (nI j), .int (nI how), .int (nI yy)] : List Value).toArray s 80 800 (sy_A Z)) (F0 m 368 ls [.int (nI pm)]) := by
            refine lv_istore (lv' := [(20, .int (nI pm)), (18, .long (lI ((g (200 + j) 13).toInt))), (17, .int 1), (15, .long (lI ((g 68 1).toInt))), (13, .long (lI ((g 68 0).toInt))), (11, .long (lI ((barI g q j).toInt))), (10, .int (g (200 + j) 6)), (8, .long (lI ((fX6_interestNow g q j).toInt))), (6, .long (lI ((g (200 + j) 8).toInt))), (4, .long (lI ((g (200 + j) 7).toInt))), (0, .ref (ad 60)), (1, .int (nI j)), (2, .int (nI how)), (3, .int (nI yy))]) hx hb dL_ends_368 hl (by decide) rfl (fun ls hl => ?_)
            refine lv_aload_n hx hb dL_ends_370 rfl (lv_at hl 10 rfl) ?_
            refine lv_iload_n hx hb dL_ends_371 rfl (lv_at hl 11 rfl) ?_
            refine lv_iload hx hb dL_ends_372 (lv_at hl 0 rfl) ?_
            refine sy_kl (vx_runSW (As := [.ref (ad 60), .int (nI j), .int (nI pm)]) (rest := []) ⟨hx, hb, hml, hown, hts⟩ (mL_offer l hfl Z nT nK cT cK ad g q (nI j) (nI pm) hI) (vx_cwSW 3 hts (gu_S uk_4_167 uk_4_168 uk_1_0 uk_4_169) rfl rfl rfl (by decide +kernel) ⟨Nat.le_of_ble_eq_true rfl, Nat.le_of_ble_eq_true rfl⟩) ⟨sPreL_blind _, fun U hU hW => ⟨rfl, ⟨hE.next hS hU hW.alike, by rw [hU]; exact hP⟩, hNc.next hW.alike⟩⟩ rfl rfl hl.1 rfl (lv_room (Nat.le_of_ble_eq_true rfl)) dL_ends_374 ⟨by show _ ≤ 80; (try dsimp only); omega, by show _ ≤ 800; (try dsimp only); omega⟩) hS (fun r g1 q1 H locs e9 hP hS => ?_)
            obtain ⟨er, eg, eq⟩ := eq_y (z := ov) h1 hov e9
            subst er
            rw [eg, eq] at hI2
            rw [eg] at o3
            rw [eg] at o4
            rw [eg] at s2
            rw [eg] at s3
            have hI := hI2
            clear e9
            have b9 := i32b (g1 68 0)
            have b10 := i32b (g1 68 1)
            have b11 := i32b (g1 (200 + j) 14)
            refine lv_lstore (lv' := [(21, .long (lI ov)), (20, .int (nI pm)), (18, .long (lI ((g (200 + j) 13).toInt))), (17, .int 1), (15, .long (lI ((g 68 1).toInt))), (13, .long (lI ((g 68 0).toInt))), (11, .long (lI ((barI g q j).toInt))), (10, .int (g (200 + j) 6)), (8, .long (lI ((fX6_interestNow g q j).toInt))), (6, .long (lI ((g (200 + j) 8).toInt))), (4, .long (lI ((g (200 + j) 7).toInt))), (0, .ref (ad 60)), (1, .int (nI j)), (2, .int (nI how)), (3, .int (nI yy))]) hx hb dL_ends_377 hl (by decide) rfl (fun ls hl => ?_)
            refine W.widen (k := 60) (n := 500) (by (try dsimp only); omega) (by (try dsimp only); omega) ?_
            have hR : W p l e ({ frames := 10, cells := 80, slots := 800, locals := 172 } : Room) s m ([.ref (ad 60), .int (nI j), .int (nI how), .int (nI yy)] : List Value).toArray below meth c H locs 60 500 (MQ below (sQi Z nT nK cT cK ad (fun r g1 q1 => r = 1 ∧ CI (n + 1) nT nK cT cK g1 q1)) ([.ref (ad 60), .int (nI j), .int (nI how), .int (nI yy)] : List Value).toArray s 80 800 (sy_A Z)) (F0 m 407 ls [.long (lI (rsv g q j))]) := by
              refine lv_lstore (lv' := [(23, .long (lI (rsv g q j))), (21, .long (lI ov)), (20, .int (nI pm)), (18, .long (lI ((g (200 + j) 13).toInt))), (17, .int 1), (15, .long (lI ((g 68 1).toInt))), (13, .long (lI ((g 68 0).toInt))), (11, .long (lI ((barI g q j).toInt))), (10, .int (g (200 + j) 6)), (8, .long (lI ((fX6_interestNow g q j).toInt))), (6, .long (lI ((g (200 + j) 8).toInt))), (4, .long (lI ((g (200 + j) 7).toInt))), (0, .ref (ad 60)), (1, .int (nI j)), (2, .int (nI how)), (3, .int (nI yy))]) hx hb dL_ends_407 hl (by decide) rfl (fun ls hl => ?_)
              refine lv_lload hx hb dL_ends_409 (lv_at hl 1 rfl) ?_
              refine lv_ldc2 (v := lI (-9000000000000000003)) hx hb hown (hts _ (u_in uk_2_183)) dL_ends_411 ?_
              refine W.lcmp hx hb dL_ends_414 ?_
              refine lv_if_ne (tgt := 436) hx hb dL_ends_415 (by decide) (fun _ => ?_) (fun c9 => absurd c9 (c_ne (a := ov) (b := (-9000000000000000003)) (by omega) (by omega) (by omega)))
              refine lv_lload hx hb dL_ends_436 (lv_at hl 11 rfl) ?_
              refine lv_lconst (v := lI 0) hx hb dL_ends_438 rfl ?_
              refine W.lcmp hx hb dL_ends_439 ?_
              refine lv_if_ne (tgt := 459) hx hb dL_ends_440 (by decide) (fun c9 => absurd (c_eq (a := (g (200 + j) 7).toInt) (b := 0) ((by rw [h7]; rfl))) c9) (fun _ => ?_)
              refine lv_lload hx hb dL_ends_443 (lv_at hl 7 rfl) ?_
              refine lv_lconst (v := lI 0) hx hb dL_ends_445 rfl ?_
              refine W.lcmp hx hb dL_ends_446 ?_
              refine lv_if_ne (tgt := 459) hx hb dL_ends_447 (by decide) (fun c9 => absurd (c_eq (a := (barI g q j).toInt) (b := 0) ((by rw [hbz]; rfl))) c9) (fun _ => ?_)
              refine lv_iload hx hb dL_ends_450 (lv_at hl 4 rfl) ?_
              refine lv_if_eq (tgt := 459) hx hb dL_ends_452 (by decide) (fun c9 => absurd c9 (by decide)) (fun _ => ?_)
              refine lv_iconst (v := 1) hx hb dL_ends_455 (by decide) ?_
              refine lv_goto (tgt := 460) hx hb dL_ends_456 (by decide) ?_
              refine lv_istore (lv' := [(25, .int 1), (23, .long (lI (rsv g q j))), (21, .long (lI ov)), (20, .int (nI pm)), (18, .long (lI ((g (200 + j) 13).toInt))), (17, .int 1), (15, .long (lI ((g 68 1).toInt))), (13, .long (lI ((g 68 0).toInt))), (11, .long (lI ((barI g q j).toInt))), (10, .int (g (200 + j) 6)), (8, .long (lI ((fX6_interestNow g q j).toInt))), (6, .long (lI ((g (200 + j) 8).toInt))), (4, .long (lI ((g (200 + j) 7).toInt))), (0, .ref (ad 60)), (1, .int (nI j)), (2, .int (nI how)), (3, .int (nI yy))]) hx hb dL_ends_460 hl (by decide) rfl (fun ls hl => ?_)
              refine lv_iload hx hb dL_ends_462 (lv_at hl 3 rfl) ?_
              refine lv_i2l (v := lI ((pm : Nat) : Int)) hx hb dL_ends_464 (nI_L (by omega)) ?_
              refine lv_lload hx hb dL_ends_465 (lv_at hl 1 rfl) ?_
              refine W.lcmp hx hb dL_ends_467 ?_
              refine lv_if_ge (tgt := 517) hx hb dL_ends_468 (by decide) (fun _ => ?_) (fun c9 => absurd (by rw [le_of_toInt]; have h9 := (c_ge (a := ((pm : Nat) : Int)) (b := (rsv g q j)) (by omega) (by omega) (by omega)); rw [lt_of_toInt] at h9; have h8 : (0 : Int32).toInt = 0 := rfl; omega) c9)
              refine lv_iload hx hb dL_ends_517 (lv_at hl 0 rfl) ?_
              refine lv_if_eq (tgt := 627) hx hb dL_ends_519 (by decide) (fun c9 => absurd c9 (by decide)) (fun _ => ?_)
              refine lv_lload hx hb dL_ends_522 (lv_at hl 2 rfl) ?_
              refine lv_iload hx hb dL_ends_524 (lv_at hl 3 rfl) ?_
              refine lv_i2l (v := lI ((pm : Nat) : Int)) hx hb dL_ends_526 (nI_L (by omega)) ?_
              refine lv_lload hx hb dL_ends_527 (lv_at hl 11 rfl) ?_
              refine lv_lsub hx hb dL_ends_529 ?_
              refine sy_topL (y := lI (((pm : Nat) : Int) - (g (200 + j) 8).toInt)) (lI_sub _ _) ?_
              refine lv_lload hx hb dL_ends_530 (lv_at hl 10 rfl) ?_
              refine lv_lsub hx hb dL_ends_532 ?_
              refine sy_topL (y := lI ((((pm : Nat) : Int) - (g (200 + j) 8).toInt) - (fX6_interestNow g q j).toInt)) (lI_sub _ _) ?_
              refine lv_iconst (v := 5) hx hb dL_ends_533 (by decide) ?_
              refine lv_iload hx hb dL_ends_534 (lv_at hl 3 rfl) ?_
              refine lv_imul hx hb dL_ends_536 ?_
              refine sy_top (y := nI (5 * pm)) (nI_mul 5 pm) ?_
              refine lv_bipush (v := 100) hx hb dL_ends_537 (by decide) ?_
              refine lv_idiv hx hb dL_ends_539 (by decide) ?_
              refine sy_top (y := nI ((5 * pm) / 100)) (nI_div (a := (5 * pm)) (b := 100) (by omega) (by omega)) ?_
              refine lv_i2l (v := lI ((((5 * pm) / 100) : Nat) : Int)) hx hb dL_ends_540 (nI_L (by omega)) ?_
              refine lv_lsub hx hb dL_ends_541 ?_
              refine sy_topL (y := lI (((((pm : Nat) : Int) - (g (200 + j) 8).toInt) - (fX6_interestNow g q j).toInt) - ((((5 * pm) / 100) : Nat) : Int))) (lI_sub _ _) ?_
              refine W.lcmp hx hb dL_ends_542 ?_
              refine lv_if_ne (tgt := 627) hx hb dL_ends_543 (by decide) (fun c9 => absurd (c_eq (a := ov) (b := (((((pm : Nat) : Int) - (g (200 + j) 8).toInt) - (fX6_interestNow g q j).toInt) - ((((5 * pm) / 100) : Nat) : Int))) (by omega)) c9) (fun _ => ?_)
              refine lv_aload_n hx hb dL_ends_546 rfl (lv_at hl 13 rfl) ?_
              refine lv_iload_n hx hb dL_ends_547 rfl (lv_at hl 14 rfl) ?_
              refine lv_iconst (v := 0) hx hb dL_ends_548 (by decide) ?_
              refine sy_kl (vx_runSW (As := [.ref (ad 60), .int (nI j), .int 0]) (rest := []) ⟨hx, hb, hml, hown, hts⟩ (mL_ticketOf l hfl Z nT nK cT cK ad g1 q1 (nI j) 0 hI) (vx_cwSW 3 hts (gu_S uk_4_53 uk_4_54 uk_1_0 uk_4_55) rfl rfl rfl (by decide +kernel) ⟨Nat.le_of_ble_eq_true rfl, Nat.le_of_ble_eq_true rfl⟩) ⟨sPreL_blind _, fun U hU hW => ⟨rfl, ⟨hE.next hS hU hW.alike, by rw [hU]; exact hP⟩, hNc.next hW.alike⟩⟩ rfl rfl hl.1 rfl (lv_room (Nat.le_of_ble_eq_true rfl)) dL_ends_549 ⟨by show _ ≤ 80; (try dsimp only); omega, by show _ ≤ 800; (try dsimp only); omega⟩) hS (fun r gz qz H locs e9 hP hS => ?_)
              obtain ⟨er, eg, eq⟩ := eq_q (z := 2) (a_K hI hj).1 (by rw [o3]; rfl) e9
              subst er; subst eg; subst eq
              refine lv_ldc2 (v := lI (2)) hx hb hown (hts _ (u_in uk_4_121)) dL_ends_552 ?_
              refine W.lcmp hx hb dL_ends_555 ?_
              refine lv_if_ne (tgt := 627) hx hb dL_ends_556 (by decide) (fun c9 => absurd (c_eq (a := 2) (b := (2)) (by omega)) c9) (fun _ => ?_)
              refine lv_aload_n hx hb dL_ends_559 rfl (lv_at hl 13 rfl) ?_
              refine lv_iconst (v := 0) hx hb dL_ends_560 (by decide) ?_
              refine sy_kl (vx_runSW (As := [.ref (ad 60), .int 0]) (rest := []) ⟨hx, hb, hml, hown, hts⟩ (mL_money l hfl Z nT nK cT cK ad g1 q1 0 hI) (vx_cwSW 2 hts (gu_S uk_4_88 uk_4_89 uk_1_0 uk_4_90) rfl rfl rfl (by decide +kernel) ⟨Nat.le_of_ble_eq_true rfl, Nat.le_of_ble_eq_true rfl⟩) ⟨sPreL_blind _, fun U hU hW => ⟨rfl, ⟨hE.next hS hU hW.alike, by rw [hU]; exact hP⟩, hNc.next hW.alike⟩⟩ rfl rfl hl.1 rfl (lv_room (Nat.le_of_ble_eq_true rfl)) dL_ends_561 ⟨by show _ ≤ 80; (try dsimp only); omega, by show _ ≤ 800; (try dsimp only); omega⟩) hS (fun r gz qz H locs e9 hP hS => ?_)
              obtain ⟨er, eg, eq⟩ := eq_q (z := (g1 68 0).toInt) a_M.1 rfl e9
              subst er; subst eg; subst eq
              refine lv_lload hx hb dL_ends_564 (lv_at hl 7 rfl) ?_
              refine lv_iload hx hb dL_ends_566 (lv_at hl 3 rfl) ?_
              refine lv_i2l (v := lI ((pm : Nat) : Int)) hx hb dL_ends_568 (nI_L (by omega)) ?_
              refine lv_ladd hx hb dL_ends_569 ?_
              refine sy_topL (y := lI ((g 68 0).toInt + ((pm : Nat) : Int))) (lI_add _ _) ?_
              refine W.lcmp hx hb dL_ends_570 ?_
              refine lv_if_ne (tgt := 627) hx hb dL_ends_571 (by decide) (fun c9 => absurd (c_eq (a := (g1 68 0).toInt) (b := ((g 68 0).toInt + ((pm : Nat) : Int))) (by omega)) c9) (fun _ => ?_)
              refine lv_aload_n hx hb dL_ends_574 rfl (lv_at hl 13 rfl) ?_
              refine lv_iconst (v := 1) hx hb dL_ends_575 (by decide) ?_
              refine sy_kl (vx_runSW (As := [.ref (ad 60), .int 1]) (rest := []) ⟨hx, hb, hml, hown, hts⟩ (mL_money l hfl Z nT nK cT cK ad g1 q1 1 hI) (vx_cwSW 2 hts (gu_S uk_4_88 uk_4_89 uk_1_0 uk_4_90) rfl rfl rfl (by decide +kernel) ⟨Nat.le_of_ble_eq_true rfl, Nat.le_of_ble_eq_true rfl⟩) ⟨sPreL_blind _, fun U hU hW => ⟨rfl, ⟨hE.next hS hU hW.alike, by rw [hU]; exact hP⟩, hNc.next hW.alike⟩⟩ rfl rfl hl.1 rfl (lv_room (Nat.le_of_ble_eq_true rfl)) dL_ends_576 ⟨by show _ ≤ 80; (try dsimp only); omega, by show _ ≤ 800; (try dsimp only); omega⟩) hS (fun r gz qz H locs e9 hP hS => ?_)
              obtain ⟨er, eg, eq⟩ := eq_q (z := (g1 68 1).toInt) a_M.2.1 rfl e9
              subst er; subst eg; subst eq
              refine lv_lload hx hb dL_ends_579 (lv_at hl 6 rfl) ?_
              refine lv_lload hx hb dL_ends_581 (lv_at hl 2 rfl) ?_
              refine lv_lconst (v := lI 0) hx hb dL_ends_583 rfl ?_
              refine W.lcmp hx hb dL_ends_584 ?_
              refine lv_if_le (tgt := 593) hx hb dL_ends_585 (by decide) (fun _ => ?_) (fun c9 => absurd (by rw [le_of_toInt]; have h9 := (c_le (a := ov) (b := 0) (by omega) (by omega) (by omega)); rw [lt_of_toInt] at h9; have h8 : (0 : Int32).toInt = 0 := rfl; omega) c9)
              refine lv_lconst (v := lI 0) hx hb dL_ends_593 rfl ?_
              refine lv_ladd hx hb dL_ends_594 ?_
              refine sy_topL (y := lI ((g 68 1).toInt + 0)) (lI_add _ _) ?_
              refine W.lcmp hx hb dL_ends_595 ?_
              refine lv_if_ne (tgt := 627) hx hb dL_ends_596 (by decide) (fun c9 => absurd (c_eq (a := (g1 68 1).toInt) (b := ((g 68 1).toInt + 0)) (by omega)) c9) (fun _ => ?_)
              refine lv_aload_n hx hb dL_ends_599 rfl (lv_at hl 13 rfl) ?_
              refine lv_iload_n hx hb dL_ends_600 rfl (lv_at hl 14 rfl) ?_
              refine lv_bipush (v := 7) hx hb dL_ends_601 (by decide) ?_
              refine sy_kl (vx_runSW (As := [.ref (ad 60), .int (nI j), .int 7]) (rest := []) ⟨hx, hb, hml, hown, hts⟩ (mL_ticketOf l hfl Z nT nK cT cK ad g1 q1 (nI j) 7 hI) (vx_cwSW 3 hts (gu_S uk_4_53 uk_4_54 uk_1_0 uk_4_55) rfl rfl rfl (by decide +kernel) ⟨Nat.le_of_ble_eq_true rfl, Nat.le_of_ble_eq_true rfl⟩) ⟨sPreL_blind _, fun U hU hW => ⟨rfl, ⟨hE.next hS hU hW.alike, by rw [hU]; exact hP⟩, hNc.next hW.alike⟩⟩ rfl rfl hl.1 rfl (lv_room (Nat.le_of_ble_eq_true rfl)) dL_ends_603 ⟨by show _ ≤ 80; (try dsimp only); omega, by show _ ≤ 800; (try dsimp only); omega⟩) hS (fun r gz qz H locs e9 hP hS => ?_)
              obtain ⟨er, eg, eq⟩ := eq_q (z := (g1 (200 + j) 14).toInt) (a_K hI hj).2.2.2.2.2.2.2.1 rfl e9
              subst er; subst eg; subst eq
              refine lv_lload hx hb dL_ends_606 (lv_at hl 2 rfl) ?_
              refine lv_lconst (v := lI 0) hx hb dL_ends_608 rfl ?_
              refine W.lcmp hx hb dL_ends_609 ?_
              refine lv_if_le (tgt := 618) hx hb dL_ends_610 (by decide) (fun _ => ?_) (fun c9 => absurd (by rw [le_of_toInt]; have h9 := (c_le (a := ov) (b := 0) (by omega) (by omega) (by omega)); rw [lt_of_toInt] at h9; have h8 : (0 : Int32).toInt = 0 := rfl; omega) c9)
              refine lv_lconst (v := lI 0) hx hb dL_ends_618 rfl ?_
              refine W.lcmp hx hb dL_ends_619 ?_
              refine lv_if_ne (tgt := 627) hx hb dL_ends_620 (by decide) (fun c9 => absurd (c_eq (a := (g1 (200 + j) 14).toInt) (b := 0) (by omega)) c9) (fun _ => ?_)
              refine lv_iconst (v := 1) hx hb dL_ends_623 (by decide) ?_
              refine lv_goto (tgt := 628) hx hb dL_ends_624 (by decide) ?_
              exact sy_iretz hx hb hr hlocks hE hP hS dL_ends_628 ⟨by (try dsimp only); omega, by (try dsimp only); omega⟩ (by decide) ⟨rfl, hI⟩
            by_cases v0 : g (200 + j) 13 = 0
            · skip
              refine lv_lload hx hb dL_ends_379 (lv_at hl 2 rfl) ?_
              refine lv_lconst (v := lI 0) hx hb dL_ends_381 rfl ?_
              refine W.lcmp hx hb dL_ends_382 ?_
              refine lv_if_ne (tgt := 394) hx hb dL_ends_383 (by decide) (fun c9 => absurd (c_eq (a := (g (200 + j) 13).toInt) (b := 0) ((by rw [v0]; rfl))) c9) (fun _ => ?_)
              refine lv_lload hx hb dL_ends_386 (lv_at hl 9 rfl) ?_
              refine lv_lload hx hb dL_ends_388 (lv_at hl 8 rfl) ?_
              refine lv_ladd hx hb dL_ends_390 ?_
              refine sy_topL (y := lI ((g (200 + j) 8).toInt + (fX6_interestNow g q j).toInt)) (lI_add _ _) ?_
              refine lv_goto (tgt := 407) hx hb dL_ends_391 (by decide) ?_
              refine sy_topL (y := lI (rsv g q j)) (by unfold rsv; rw [if_pos v0]) ?_
              exact hR
            · skip
              have v0n : (g (200 + j) 13).toInt ≠ 0 := fun z => v0 (Int32.toInt_inj.mp z)
              by_cases v1 : g (200 + j) 13 = 1
              · skip
                refine lv_lload hx hb dL_ends_379 (lv_at hl 2 rfl) ?_
                refine lv_lconst (v := lI 0) hx hb dL_ends_381 rfl ?_
                refine W.lcmp hx hb dL_ends_382 ?_
                refine lv_if_ne (tgt := 394) hx hb dL_ends_383 (by decide) (fun _ => ?_) (fun c9 => absurd c9 (c_ne (a := (g (200 + j) 13).toInt) (b := 0) (by omega) (by omega) (by omega)))
                refine lv_lload hx hb dL_ends_394 (lv_at hl 2 rfl) ?_
                refine lv_lconst (v := lI 1) hx hb dL_ends_396 rfl ?_
                refine W.lcmp hx hb dL_ends_397 ?_
                refine lv_if_ne (tgt := 406) hx hb dL_ends_398 (by decide) (fun c9 => absurd (c_eq (a := (g (200 + j) 13).toInt) (b := 1) ((by rw [v1]; rfl))) c9) (fun _ => ?_)
                refine lv_lload hx hb dL_ends_401 (lv_at hl 9 rfl) ?_
                refine lv_goto (tgt := 407) hx hb dL_ends_403 (by decide) ?_
                refine sy_topL (y := lI (rsv g q j)) (by unfold rsv; rw [if_neg v0, if_pos v1]) ?_
                exact hR
              · skip
                have v1n : (g (200 + j) 13).toInt ≠ 1 := fun z => v1 (Int32.toInt_inj.mp z)
                refine lv_lload hx hb dL_ends_379 (lv_at hl 2 rfl) ?_
                refine lv_lconst (v := lI 0) hx hb dL_ends_381 rfl ?_
                refine W.lcmp hx hb dL_ends_382 ?_
                refine lv_if_ne (tgt := 394) hx hb dL_ends_383 (by decide) (fun _ => ?_) (fun c9 => absurd c9 (c_ne (a := (g (200 + j) 13).toInt) (b := 0) (by omega) (by omega) (by omega)))
                refine lv_lload hx hb dL_ends_394 (lv_at hl 2 rfl) ?_
                refine lv_lconst (v := lI 1) hx hb dL_ends_396 rfl ?_
                refine W.lcmp hx hb dL_ends_397 ?_
                refine lv_if_ne (tgt := 406) hx hb dL_ends_398 (by decide) (fun _ => ?_) (fun c9 => absurd c9 (c_ne (a := (g (200 + j) 13).toInt) (b := 1) (by omega) (by omega) (by omega)))
                refine lv_lconst (v := lI 0) hx hb dL_ends_406 rfl ?_
                refine sy_topL (y := lI (rsv g q j)) (by unfold rsv; rw [if_neg v0, if_neg v1]) ?_
                exact hR
          by_cases h5y : yy % 5 = 0
          · skip
            refine lv_iload_n hx hb dL_ends_344 rfl (lv_at hl 12 rfl) ?_
            refine lv_iconst (v := 5) hx hb dL_ends_345 (by decide) ?_
            refine lv_irem hx hb dL_ends_346 (by decide) ?_
            refine sy_top (y := nI (yy % 5)) (nI_rem (a := yy) (b := 5) (by omega) (by omega)) ?_
            refine lv_if_ne (tgt := 360) hx hb dL_ends_347 (by decide) (fun c9 => absurd ((nI_eq (a := (yy % 5)) (b := 0) (by omega) (by omega)).mpr (by omega)) c9) (fun _ => ?_)
            refine lv_iload_n hx hb dL_ends_350 rfl (lv_at hl 12 rfl) ?_
            refine lv_bipush (v := 8) hx hb dL_ends_351 (by decide) ?_
            refine lv_idiv hx hb dL_ends_353 (by decide) ?_
            refine sy_top (y := nI (yy / 8)) (nI_div (a := yy) (b := 8) (by omega) (by omega)) ?_
            refine lv_bipush (v := 30) hx hb dL_ends_354 (by decide) ?_
            refine lv_irem hx hb dL_ends_356 (by decide) ?_
            refine sy_top (y := nI ((yy / 8) % 30)) (nI_rem (a := (yy / 8)) (b := 30) (by omega) (by omega)) ?_
            refine lv_goto (tgt := 368) hx hb dL_ends_357 (by decide) ?_
            refine sy_top (y := nI pm) (by rw [hpm, if_pos h5y]) ?_
            exact hM
          · skip
            refine lv_iload_n hx hb dL_ends_344 rfl (lv_at hl 12 rfl) ?_
            refine lv_iconst (v := 5) hx hb dL_ends_345 (by decide) ?_
            refine lv_irem hx hb dL_ends_346 (by decide) ?_
            refine sy_top (y := nI (yy % 5)) (nI_rem (a := yy) (b := 5) (by omega) (by omega)) ?_
            refine lv_if_ne (tgt := 360) hx hb dL_ends_347 (by decide) (fun _ => ?_) (fun c9 => absurd c9 (mt (nI_eq (a := (yy % 5)) (b := 0) (by omega) (by omega)).mp (by omega)))
            refine lv_iload_n hx hb dL_ends_360 rfl (lv_at hl 12 rfl) ?_
            refine lv_bipush (v := 8) hx hb dL_ends_361 (by decide) ?_
            refine lv_idiv hx hb dL_ends_363 (by decide) ?_
            refine sy_top (y := nI (yy / 8)) (nI_div (a := yy) (b := 8) (by omega) (by omega)) ?_
            refine lv_sipush (v := 4000) hx hb dL_ends_364 (by decide) ?_
            refine lv_irem hx hb dL_ends_367 (by decide) ?_
            refine sy_top (y := nI ((yy / 8) % 4000)) (nI_rem (a := (yy / 8)) (b := 4000) (by omega) (by omega)) ?_
            refine sy_top (y := nI pm) (by rw [hpm, if_neg h5y]) ?_
            exact hM
  · skip
    refine lv_iload_n hx hb dL_ends_56 rfl (lv_at hl 9 rfl) ?_
    refine lv_iconst (v := 2) hx hb dL_ends_57 (by decide) ?_
    refine lv_icmp_ge (tgt := 166) hx hb dL_ends_58 (by decide) (fun _ => ?_) (fun c9 => absurd ((nI_leI (a := 2) (b := how) (by omega) (by omega)).mpr (by omega)) c9)
    refine lv_iload_n hx hb dL_ends_166 rfl (lv_at hl 9 rfl) ?_
    refine lv_iconst (v := 4) hx hb dL_ends_167 (by decide) ?_
    refine lv_icmp_ge (tgt := 306) hx hb dL_ends_168 (by decide) (fun _ => ?_) (fun c9 => absurd ((nI_leI (a := 4) (b := how) (by omega) (by omega)).mpr (by omega)) c9)
    refine lv_iload_n hx hb dL_ends_306 rfl (lv_at hl 9 rfl) ?_
    refine lv_bipush (v := 7) hx hb dL_ends_307 (by decide) ?_
    refine lv_icmp_ge (tgt := 629) hx hb dL_ends_309 (by decide) (fun _ => ?_) (fun c9 => absurd ((nI_leI (a := 7) (b := how) (by omega) (by omega)).mpr (by omega)) c9)
    refine lv_aload_n hx hb dL_ends_629 rfl (lv_at hl 7 rfl) ?_
    refine lv_iload_n hx hb dL_ends_630 rfl (lv_at hl 8 rfl) ?_
    refine lv_bipush (v := 7) hx hb dL_ends_631 (by decide) ?_
    refine sy_kl (vx_runSW (As := [.ref (ad 60), .int (nI j), .int 7]) (rest := []) ⟨hx, hb, hml, hown, hts⟩ (mL_ticketOf l hfl Z nT nK cT cK ad g q (nI j) 7 hI) (vx_cwSW 3 hts (gu_S uk_4_53 uk_4_54 uk_1_0 uk_4_55) rfl rfl rfl (by decide +kernel) ⟨Nat.le_of_ble_eq_true rfl, Nat.le_of_ble_eq_true rfl⟩) ⟨sPreL_blind _, fun U hU hW => ⟨rfl, ⟨hE.next hS hU hW.alike, by rw [hU]; exact hP⟩, hNc.next hW.alike⟩⟩ rfl rfl hl.1 rfl (lv_room (Nat.le_of_ble_eq_true rfl)) dL_ends_633 ⟨by show _ ≤ 80; (try dsimp only); omega, by show _ ≤ 800; (try dsimp only); omega⟩) hS (fun r gz qz H locs e9 hP hS => ?_)
    obtain ⟨er, eg, eq⟩ := eq_q (z := (g (200 + j) 14).toInt) (a_K hI hj).2.2.2.2.2.2.2.1 rfl e9
    subst er; subst eg; subst eq
    refine lv_lstore (lv' := [(17, .long (lI ((g (200 + j) 14).toInt))), (15, .long (lI ((g 68 1).toInt))), (13, .long (lI ((g 68 0).toInt))), (11, .long (lI ((barI g q j).toInt))), (10, .int (g (200 + j) 6)), (8, .long (lI ((fX6_interestNow g q j).toInt))), (6, .long (lI ((g (200 + j) 8).toInt))), (4, .long (lI ((g (200 + j) 7).toInt))), (0, .ref (ad 60)), (1, .int (nI j)), (2, .int (nI how)), (3, .int (nI yy))]) hx hb dL_ends_636 hl (by decide) rfl (fun ls hl => ?_)
    refine lv_aload_n hx hb dL_ends_638 rfl (lv_at hl 8 rfl) ?_
    refine lv_iload_n hx hb dL_ends_639 rfl (lv_at hl 9 rfl) ?_
    refine lv_iload hx hb dL_ends_640 (lv_at hl 4 rfl) ?_
    refine sy_kl (vx_runSW (As := [.ref (ad 60), .int (nI j), .int (g (200 + j) 6)]) (rest := []) ⟨hx, hb, hml, hown, hts⟩ (mL_claim l hfl Z nT nK cT cK ad g q (nI j) (g (200 + j) 6) hI) (vx_cwSW 3 hts (gu_S uk_4_182 uk_4_183 uk_1_0 uk_4_184) rfl rfl rfl (by decide +kernel) ⟨Nat.le_of_ble_eq_true rfl, Nat.le_of_ble_eq_true rfl⟩) ⟨sPreL_blind _, fun U hU hW => ⟨rfl, ⟨hE.next hS hU hW.alike, by rw [hU]; exact hP⟩, hNc.next hW.alike⟩⟩ rfl rfl hl.1 rfl (lv_room (Nat.le_of_ble_eq_true rfl)) dL_ends_642 ⟨by show _ ≤ 80; (try dsimp only); omega, by show _ ≤ 800; (try dsimp only); omega⟩) hS (fun r g1 q1 H locs e9 hP hS => ?_)
    rcases p_claim hI (by omega) hj with ⟨hw, hor⟩ | ⟨hs, hbz, h1, h2, hI2, h4, h5, h6⟩
    · skip
      obtain ⟨er, eg, eq⟩ := eq_n3 hw e9
      subst er; subst eg; subst eq
      by_cases h14 : g (200 + j) 14 = 0
      · skip
        refine lv_lstore (lv' := [(19, .long (lI (-9000000000000000003))), (17, .long (lI ((g (200 + j) 14).toInt))), (15, .long (lI ((g 68 1).toInt))), (13, .long (lI ((g 68 0).toInt))), (11, .long (lI ((barI g q j).toInt))), (10, .int (g (200 + j) 6)), (8, .long (lI ((fX6_interestNow g q j).toInt))), (6, .long (lI ((g (200 + j) 8).toInt))), (4, .long (lI ((g (200 + j) 7).toInt))), (0, .ref (ad 60)), (1, .int (nI j)), (2, .int (nI how)), (3, .int (nI yy))]) hx hb dL_ends_645 hl (by decide) rfl (fun ls hl => ?_)
        refine lv_lload hx hb dL_ends_647 (lv_at hl 1 rfl) ?_
        refine lv_lconst (v := lI 0) hx hb dL_ends_649 rfl ?_
        refine W.lcmp hx hb dL_ends_650 ?_
        refine lv_if_eq (tgt := 661) hx hb dL_ends_651 (by decide) (fun _ => ?_) (fun c9 => absurd (c_eq (a := (g (200 + j) 14).toInt) (b := 0) ((by rw [h14]; rfl))) c9)
        refine lv_lload hx hb dL_ends_661 (lv_at hl 0 rfl) ?_
        refine lv_ldc2 (v := lI (-9000000000000000003)) hx hb hown (hts _ (u_in uk_2_183)) dL_ends_663 ?_
        refine W.lcmp hx hb dL_ends_666 ?_
        refine lv_if_ne (tgt := 674) hx hb dL_ends_667 (by decide) (fun c9 => absurd (c_eq (a := (-9000000000000000003)) (b := (-9000000000000000003)) (by omega)) c9) (fun _ => ?_)
        refine lv_iconst (v := 1) hx hb dL_ends_670 (by decide) ?_
        refine lv_goto (tgt := 733) hx hb dL_ends_671 (by decide) ?_
        exact sy_iretz hx hb hr hlocks hE hP hS dL_ends_733 ⟨by (try dsimp only); omega, by (try dsimp only); omega⟩ (by decide) ⟨rfl, ci_n (by omega) hI⟩
      · skip
        have h14n := n14 h14
        have hbn := nB (hor.resolve_left h14)
        refine lv_lstore (lv' := [(19, .long (lI (-9000000000000000003))), (17, .long (lI ((g (200 + j) 14).toInt))), (15, .long (lI ((g 68 1).toInt))), (13, .long (lI ((g 68 0).toInt))), (11, .long (lI ((barI g q j).toInt))), (10, .int (g (200 + j) 6)), (8, .long (lI ((fX6_interestNow g q j).toInt))), (6, .long (lI ((g (200 + j) 8).toInt))), (4, .long (lI ((g (200 + j) 7).toInt))), (0, .ref (ad 60)), (1, .int (nI j)), (2, .int (nI how)), (3, .int (nI yy))]) hx hb dL_ends_645 hl (by decide) rfl (fun ls hl => ?_)
        refine lv_lload hx hb dL_ends_647 (lv_at hl 1 rfl) ?_
        refine lv_lconst (v := lI 0) hx hb dL_ends_649 rfl ?_
        refine W.lcmp hx hb dL_ends_650 ?_
        refine lv_if_eq (tgt := 661) hx hb dL_ends_651 (by decide) (fun c9 => absurd c9 (c_ne (a := (g (200 + j) 14).toInt) (b := 0) (by omega) (by omega) (by omega))) (fun _ => ?_)
        refine lv_lload hx hb dL_ends_654 (lv_at hl 4 rfl) ?_
        refine lv_lconst (v := lI 0) hx hb dL_ends_656 rfl ?_
        refine W.lcmp hx hb dL_ends_657 ?_
        refine lv_if_le (tgt := 678) hx hb dL_ends_658 (by decide) (fun c9 => absurd c9 (by rw [(c_gt (a := (barI g q j).toInt) (b := 0) (by omega) (by omega) (by omega))]; decide)) (fun _ => ?_)
        refine lv_lload hx hb dL_ends_661 (lv_at hl 0 rfl) ?_
        refine lv_ldc2 (v := lI (-9000000000000000003)) hx hb hown (hts _ (u_in uk_2_183)) dL_ends_663 ?_
        refine W.lcmp hx hb dL_ends_666 ?_
        refine lv_if_ne (tgt := 674) hx hb dL_ends_667 (by decide) (fun c9 => absurd (c_eq (a := (-9000000000000000003)) (b := (-9000000000000000003)) (by omega)) c9) (fun _ => ?_)
        refine lv_iconst (v := 1) hx hb dL_ends_670 (by decide) ?_
        refine lv_goto (tgt := 733) hx hb dL_ends_671 (by decide) ?_
        exact sy_iretz hx hb hr hlocks hE hP hS dL_ends_733 ⟨by (try dsimp only); omega, by (try dsimp only); omega⟩ (by decide) ⟨rfl, ci_n (by omega) hI⟩
    · skip
      have h14n := n14 hs
      obtain ⟨er, eg, eq⟩ := eq_y (z := (g (200 + j) 14).toInt) h1 (by rw [h2]) e9
      subst er
      rw [eg, eq] at hI2
      rw [eg] at h4
      rw [eg] at h5
      rw [eg] at h6
      have hI := hI2
      clear e9
      have b9 := i32b (g1 68 0)
      have b10 := i32b (g1 68 1)
      refine lv_lstore (lv' := [(19, .long (lI ((g (200 + j) 14).toInt))), (17, .long (lI ((g (200 + j) 14).toInt))), (15, .long (lI ((g 68 1).toInt))), (13, .long (lI ((g 68 0).toInt))), (11, .long (lI ((barI g q j).toInt))), (10, .int (g (200 + j) 6)), (8, .long (lI ((fX6_interestNow g q j).toInt))), (6, .long (lI ((g (200 + j) 8).toInt))), (4, .long (lI ((g (200 + j) 7).toInt))), (0, .ref (ad 60)), (1, .int (nI j)), (2, .int (nI how)), (3, .int (nI yy))]) hx hb dL_ends_645 hl (by decide) rfl (fun ls hl => ?_)
      refine lv_lload hx hb dL_ends_647 (lv_at hl 1 rfl) ?_
      refine lv_lconst (v := lI 0) hx hb dL_ends_649 rfl ?_
      refine W.lcmp hx hb dL_ends_650 ?_
      refine lv_if_eq (tgt := 661) hx hb dL_ends_651 (by decide) (fun c9 => absurd c9 (c_ne (a := (g (200 + j) 14).toInt) (b := 0) (by omega) (by omega) (by omega))) (fun _ => ?_)
      refine lv_lload hx hb dL_ends_654 (lv_at hl 4 rfl) ?_
      refine lv_lconst (v := lI 0) hx hb dL_ends_656 rfl ?_
      refine W.lcmp hx hb dL_ends_657 ?_
      refine lv_if_le (tgt := 678) hx hb dL_ends_658 (by decide) (fun _ => ?_) (fun c9 => absurd (by rw [le_of_toInt]; have h9 := (c_le (a := (barI g q j).toInt) (b := 0) ((by rw [hbz]; decide)) (by omega) (by omega)); rw [lt_of_toInt] at h9; have h8 : (0 : Int32).toInt = 0 := rfl; omega) c9)
      refine lv_lload hx hb dL_ends_678 (lv_at hl 0 rfl) ?_
      refine lv_lload hx hb dL_ends_680 (lv_at hl 1 rfl) ?_
      refine W.lcmp hx hb dL_ends_682 ?_
      refine lv_if_ne (tgt := 732) hx hb dL_ends_683 (by decide) (fun c9 => absurd (c_eq (a := (g (200 + j) 14).toInt) (b := (g (200 + j) 14).toInt) (by omega)) c9) (fun _ => ?_)
      refine lv_aload_n hx hb dL_ends_686 rfl (lv_at hl 9 rfl) ?_
      refine lv_iconst (v := 0) hx hb dL_ends_687 (by decide) ?_
      refine sy_kl (vx_runSW (As := [.ref (ad 60), .int 0]) (rest := []) ⟨hx, hb, hml, hown, hts⟩ (mL_money l hfl Z nT nK cT cK ad g1 q1 0 hI) (vx_cwSW 2 hts (gu_S uk_4_88 uk_4_89 uk_1_0 uk_4_90) rfl rfl rfl (by decide +kernel) ⟨Nat.le_of_ble_eq_true rfl, Nat.le_of_ble_eq_true rfl⟩) ⟨sPreL_blind _, fun U hU hW => ⟨rfl, ⟨hE.next hS hU hW.alike, by rw [hU]; exact hP⟩, hNc.next hW.alike⟩⟩ rfl rfl hl.1 rfl (lv_room (Nat.le_of_ble_eq_true rfl)) dL_ends_688 ⟨by show _ ≤ 80; (try dsimp only); omega, by show _ ≤ 800; (try dsimp only); omega⟩) hS (fun r gz qz H locs e9 hP hS => ?_)
      obtain ⟨er, eg, eq⟩ := eq_q (z := (g1 68 0).toInt) a_M.1 rfl e9
      subst er; subst eg; subst eq
      refine lv_lload hx hb dL_ends_691 (lv_at hl 3 rfl) ?_
      refine lv_lload hx hb dL_ends_693 (lv_at hl 0 rfl) ?_
      refine lv_lsub hx hb dL_ends_695 ?_
      refine sy_topL (y := lI ((g 68 0).toInt - (g (200 + j) 14).toInt)) (lI_sub _ _) ?_
      refine W.lcmp hx hb dL_ends_696 ?_
      refine lv_if_ne (tgt := 732) hx hb dL_ends_697 (by decide) (fun c9 => absurd (c_eq (a := (g1 68 0).toInt) (b := ((g 68 0).toInt - (g (200 + j) 14).toInt)) (by omega)) c9) (fun _ => ?_)
      refine lv_aload_n hx hb dL_ends_700 rfl (lv_at hl 9 rfl) ?_
      refine lv_iconst (v := 1) hx hb dL_ends_701 (by decide) ?_
      refine sy_kl (vx_runSW (As := [.ref (ad 60), .int 1]) (rest := []) ⟨hx, hb, hml, hown, hts⟩ (mL_money l hfl Z nT nK cT cK ad g1 q1 1 hI) (vx_cwSW 2 hts (gu_S uk_4_88 uk_4_89 uk_1_0 uk_4_90) rfl rfl rfl (by decide +kernel) ⟨Nat.le_of_ble_eq_true rfl, Nat.le_of_ble_eq_true rfl⟩) ⟨sPreL_blind _, fun U hU hW => ⟨rfl, ⟨hE.next hS hU hW.alike, by rw [hU]; exact hP⟩, hNc.next hW.alike⟩⟩ rfl rfl hl.1 rfl (lv_room (Nat.le_of_ble_eq_true rfl)) dL_ends_702 ⟨by show _ ≤ 80; (try dsimp only); omega, by show _ ≤ 800; (try dsimp only); omega⟩) hS (fun r gz qz H locs e9 hP hS => ?_)
      obtain ⟨er, eg, eq⟩ := eq_q (z := (g1 68 1).toInt) a_M.2.1 rfl e9
      subst er; subst eg; subst eq
      refine lv_lload hx hb dL_ends_705 (lv_at hl 2 rfl) ?_
      refine lv_lload hx hb dL_ends_707 (lv_at hl 0 rfl) ?_
      refine lv_lsub hx hb dL_ends_709 ?_
      refine sy_topL (y := lI ((g 68 1).toInt - (g (200 + j) 14).toInt)) (lI_sub _ _) ?_
      refine W.lcmp hx hb dL_ends_710 ?_
      refine lv_if_ne (tgt := 732) hx hb dL_ends_711 (by decide) (fun c9 => absurd (c_eq (a := (g1 68 1).toInt) (b := ((g 68 1).toInt - (g (200 + j) 14).toInt)) (by omega)) c9) (fun _ => ?_)
      refine lv_aload_n hx hb dL_ends_714 rfl (lv_at hl 9 rfl) ?_
      refine lv_iload_n hx hb dL_ends_715 rfl (lv_at hl 10 rfl) ?_
      refine lv_iload hx hb dL_ends_716 (lv_at hl 5 rfl) ?_
      refine sy_kl (vx_runSW (As := [.ref (ad 60), .int (nI j), .int (g (200 + j) 6)]) (rest := []) ⟨hx, hb, hml, hown, hts⟩ (mL_claim l hfl Z nT nK cT cK ad g1 q1 (nI j) (g (200 + j) 6) hI) (vx_cwSW 3 hts (gu_S uk_4_182 uk_4_183 uk_1_0 uk_4_184) rfl rfl rfl (by decide +kernel) ⟨Nat.le_of_ble_eq_true rfl, Nat.le_of_ble_eq_true rfl⟩) ⟨sPreL_blind _, fun U hU hW => ⟨rfl, ⟨hE.next hS hU hW.alike, by rw [hU]; exact hP⟩, hNc.next hW.alike⟩⟩ rfl rfl hl.1 rfl (lv_room (Nat.le_of_ble_eq_true rfl)) dL_ends_718 ⟨by show _ ≤ 80; (try dsimp only); omega, by show _ ≤ 800; (try dsimp only); omega⟩) hS (fun r gz qz H locs e9 hP hS => ?_)
      obtain ⟨er, eg, eq⟩ := eq_n3 (p_claim0 hI hj k6 h6) e9
      subst er; subst eg; subst eq
      refine lv_ldc2 (v := lI (-9000000000000000003)) hx hb hown (hts _ (u_in uk_2_183)) dL_ends_721 ?_
      refine W.lcmp hx hb dL_ends_724 ?_
      refine lv_if_ne (tgt := 732) hx hb dL_ends_725 (by decide) (fun c9 => absurd (c_eq (a := (-9000000000000000003)) (b := (-9000000000000000003)) (by omega)) c9) (fun _ => ?_)
      refine lv_iconst (v := 1) hx hb dL_ends_728 (by decide) ?_
      refine lv_goto (tgt := 733) hx hb dL_ends_729 (by decide) ?_
      exact sy_iretz hx hb hr hlocks hE hP hS dL_ends_733 ⟨by (try dsimp only); omega, by (try dsimp only); omega⟩ (by decide) ⟨rfl, ci_n (by omega) hI⟩
