set_option maxHeartbeats 8000000 in
set_option maxRecDepth 100000 in
theorem nL_refuses (l : Launch) (hfl : l.stackTraces = false) (Z : sZ) (nT nK cT cK : Nat) (ad : Nat → Nat) (g : sG) (q : sQ) {n : Nat} (hI : CI n nT nK cT cK g q) (hn : n ≤ 10000) (h0 : 0 < nT) (h70 : cT = 0 → ad 70 = Z.2.2.2) (h71 : cK = 0 → ad 71 = Z.2.2.2) : Met l yL_refuses (uW (.code yL_refuses cL_refuses 5 (some FieldType.boolean))) { frames := 10, cells := 134, slots := 1112, locals := 228 } (va_Pc [.ref (ad 60)] (sPreL Z nT nK cT cK ad g q)) (sQi Z nT nK cT cK ad (fun r g1 q1 => r = 1 ∧ CI n nT nK cT cK g1 q1)) 134 1112 (sy_A Z) := by
  refine Met.ofW (cc := cL_refuses) (maxL := 5) (ret := (some FieldType.boolean)) (by decide) rfl ?_
  intro p e s m args below meth c s₁ B hml hv
  obtain ⟨rfl, ⟨hE, hP⟩, hNc⟩ := hv
  have hx := B.exec
  have hb := B.bytes
  have hr := B.returns
  have hts := atoms_spec (ws := uW (.code yL_refuses cL_refuses 5 (some FieldType.boolean))) B.pre
  have hown : s.vm.findClass RL = some m.cls := findClass_of_methodNamed B.named
  have hlocks := B.notSynchronized
  have hS : va_S (sy_A Z) s.heap s.heap [] := va_S.rf
  have hl := lv_entry ([.ref (ad 60)]) (n := 5) (Nat.le_of_ble_eq_true rfl)
  rw [lg_entry_eq]
  generalize (lg_sl ([.ref (ad 60)]) ++ List.replicate (5 - (lg_sl ([.ref (ad 60)])).length) Slot.unset).toArray = ls at hl ⊢
  have hl : lv_has ls 5 [(0, .ref (ad 60))] := hl
  have b0 := i32b (g 68 0)
  refine lv_aload_n hx hb dL_refuses_0 rfl (lv_at hl 0 rfl) ?_
  refine sy_ki (sy_rV (o := 60) (As := []) (rest := []) ⟨hx, hb, hml, hown, hts⟩ hE hP hS (mX6_day l hfl Z nT nK cT cK ad g q (by have := ci_T hI; omega) (ci_IG hI) (ci_IQ hI)) (cwV 0 hts (gu_V uk_1_183 uk_1_184 uk_1_185 uk_1_1 uk_1_186) rfl rfl rfl (by decide +kernel) ⟨Nat.le_of_ble_eq_true rfl, Nat.le_of_ble_eq_true rfl⟩) (sy_recv (kc := 7) hE hP rfl (by decide) rfl rfl rfl) rfl hl.1 rfl (Nat.le_of_ble_eq_true rfl) dL_refuses_1 ⟨by show _ ≤ 134; (try dsimp only); omega, by show _ ≤ 1112; (try dsimp only); omega⟩) hS (fun r gz qz H locs e9 hP hS => ?_)
  obtain ⟨er, eg, eq⟩ : g 60 9 = r ∧ g = gz ∧ q = qz := by rw [show fX6_day g q = g 60 9 from rfl] at e9; cases e9; exact ⟨rfl, rfl, rfl⟩
  subst er; subst eg; subst eq
  refine lv_istore_n (lv' := [(1, .int (g 60 9)), (0, .ref (ad 60))]) hx hb dL_refuses_4 rfl hl (by decide) rfl (fun ls hl => ?_)
  refine lv_aload_n hx hb dL_refuses_5 rfl (lv_at hl 1 rfl) ?_
  refine lv_iconst (v := 0) hx hb dL_refuses_6 (by decide) ?_
  refine sy_kl (vx_runSW (As := [.ref (ad 60), .int 0]) (rest := []) ⟨hx, hb, hml, hown, hts⟩ (mL_money l hfl Z nT nK cT cK ad g q 0 hI) (vx_cwSW 2 hts (gu_S uk_4_88 uk_4_89 uk_1_0 uk_4_90) rfl rfl rfl (by decide +kernel) ⟨Nat.le_of_ble_eq_true rfl, Nat.le_of_ble_eq_true rfl⟩) ⟨sPreL_blind _, fun U hU hW => ⟨rfl, ⟨hE.next hS hU hW.alike, by rw [hU]; exact hP⟩, hNc.next hW.alike⟩⟩ rfl rfl hl.1 rfl (lv_room (Nat.le_of_ble_eq_true rfl)) dL_refuses_7 ⟨by show _ ≤ 134; (try dsimp only); omega, by show _ ≤ 1112; (try dsimp only); omega⟩) hS (fun r gz qz H locs e9 hP hS => ?_)
  obtain ⟨er, eg, eq⟩ := eq_q (z := (g 68 0).toInt) a_M.1 rfl e9
  subst er; subst eg; subst eq
  refine lv_lstore_n (lv' := [(2, .long (lI ((g 68 0).toInt))), (1, .int (g 60 9)), (0, .ref (ad 60))]) hx hb dL_refuses_10 rfl hl (by decide) rfl (fun ls hl => ?_)
  refine lv_aload_n hx hb dL_refuses_11 rfl (lv_at hl 2 rfl) ?_
  refine lv_iconst (v := 4) hx hb dL_refuses_12 (by decide) ?_
  refine lv_iconst (v := 1) hx hb dL_refuses_13 (by decide) ?_
  refine lv_bipush (v := 10) hx hb dL_refuses_14 (by decide) ?_
  refine va_calll (vx_runSW (As := [.ref (ad 60), .int 4, .int 1, .int 10]) (rest := []) ⟨hx, hb, hml, hown, hts⟩ (mL_thing l hfl Z nT nK cT cK ad g q 4 1 10 hI h70) (vx_cwSW 4 hts (gu_S uk_1_192 uk_1_193 uk_1_0 uk_1_194) rfl rfl rfl (by decide +kernel) ⟨Nat.le_of_ble_eq_true rfl, Nat.le_of_ble_eq_true rfl⟩) ⟨sPreL_blind _, fun U hU hW => ⟨rfl, ⟨hE.next hS hU hW.alike, by rw [hU]; exact hP⟩, hNc.next hW.alike⟩⟩ rfl rfl hl.1 rfl (lv_room (Nat.le_of_ble_eq_true rfl)) dL_refuses_16 ⟨by show _ ≤ 134; (try dsimp only); omega, by show _ ≤ 1112; (try dsimp only); omega⟩) hS (fun _ _ h => h) (fun _ h => h) (fun r u t H locs ht _ hp hB _ _ hS => ?_)
  obtain ⟨er, -⟩ := hp
  have hP := hB.2.2 (by rw [f_thing1]; exact (by decide : (1 : Int32) ≠ 0))
  rw [ht] at hP
  rw [f_thing1] at er
  subst er
  refine sy_topL (y := lI (-9000000000000000001)) rfl ?_
  refine lv_ldc2 (v := lI (-9000000000000000001)) hx hb hown (hts _ (u_in uk_2_181)) dL_refuses_19 ?_
  refine W.lcmp hx hb dL_refuses_22 ?_
  refine lv_if_ne (tgt := 303) hx hb dL_refuses_23 (by decide) (fun c9 => absurd (c_eq (a := (-9000000000000000001)) (b := (-9000000000000000001)) (by omega)) c9) (fun _ => ?_)
  refine lv_aload_n hx hb dL_refuses_26 rfl (lv_at hl 2 rfl) ?_
  refine lv_iconst (v := 0) hx hb dL_refuses_27 (by decide) ?_
  refine lv_bipush (v := 51) hx hb dL_refuses_28 (by decide) ?_
  refine lv_bipush (v := 10) hx hb dL_refuses_30 (by decide) ?_
  refine va_calll (vx_runSW (As := [.ref (ad 60), .int 0, .int 51, .int 10]) (rest := []) ⟨hx, hb, hml, hown, hts⟩ (mL_thing l hfl Z nT nK cT cK ad g q 0 51 10 hI h70) (vx_cwSW 4 hts (gu_S uk_1_192 uk_1_193 uk_1_0 uk_1_194) rfl rfl rfl (by decide +kernel) ⟨Nat.le_of_ble_eq_true rfl, Nat.le_of_ble_eq_true rfl⟩) ⟨sPreL_blind _, fun U hU hW => ⟨rfl, ⟨hE.next hS hU hW.alike, by rw [hU]; exact hP⟩, hNc.next hW.alike⟩⟩ rfl rfl hl.1 rfl (lv_room (Nat.le_of_ble_eq_true rfl)) dL_refuses_32 ⟨by show _ ≤ 134; (try dsimp only); omega, by show _ ≤ 1112; (try dsimp only); omega⟩) hS (fun _ _ h => h) (fun _ h => h) (fun r u t H locs ht _ hp hB _ _ hS => ?_)
  obtain ⟨er, -⟩ := hp
  have hP := hB.2.2 (by rw [f_thing2]; exact (by decide : (2 : Int32) ≠ 0))
  rw [ht] at hP
  rw [f_thing2] at er
  subst er
  refine sy_topL (y := lI (-9000000000000000002)) rfl ?_
  refine lv_ldc2 (v := lI (-9000000000000000002)) hx hb hown (hts _ (u_in uk_2_182)) dL_refuses_35 ?_
  refine W.lcmp hx hb dL_refuses_38 ?_
  refine lv_if_ne (tgt := 303) hx hb dL_refuses_39 (by decide) (fun c9 => absurd (c_eq (a := (-9000000000000000002)) (b := (-9000000000000000002)) (by omega)) c9) (fun _ => ?_)
  refine lv_aload_n hx hb dL_refuses_42 rfl (lv_at hl 2 rfl) ?_
  refine lv_iconst (v := 0) hx hb dL_refuses_43 (by decide) ?_
  refine lv_iconst (v := 1) hx hb dL_refuses_44 (by decide) ?_
  refine lv_bipush (v := 9) hx hb dL_refuses_45 (by decide) ?_
  refine va_calll (vx_runSW (As := [.ref (ad 60), .int 0, .int 1, .int 9]) (rest := []) ⟨hx, hb, hml, hown, hts⟩ (mL_thing l hfl Z nT nK cT cK ad g q 0 1 9 hI h70) (vx_cwSW 4 hts (gu_S uk_1_192 uk_1_193 uk_1_0 uk_1_194) rfl rfl rfl (by decide +kernel) ⟨Nat.le_of_ble_eq_true rfl, Nat.le_of_ble_eq_true rfl⟩) ⟨sPreL_blind _, fun U hU hW => ⟨rfl, ⟨hE.next hS hU hW.alike, by rw [hU]; exact hP⟩, hNc.next hW.alike⟩⟩ rfl rfl hl.1 rfl (lv_room (Nat.le_of_ble_eq_true rfl)) dL_refuses_47 ⟨by show _ ≤ 134; (try dsimp only); omega, by show _ ≤ 1112; (try dsimp only); omega⟩) hS (fun _ _ h => h) (fun _ h => h) (fun r u t H locs ht _ hp hB _ _ hS => ?_)
  obtain ⟨er, -⟩ := hp
  have hP := hB.2.2 (by rw [f_thing3]; exact (by decide : (2 : Int32) ≠ 0))
  rw [ht] at hP
  rw [f_thing3] at er
  subst er
  refine sy_topL (y := lI (-9000000000000000002)) rfl ?_
  refine lv_ldc2 (v := lI (-9000000000000000002)) hx hb hown (hts _ (u_in uk_2_182)) dL_refuses_50 ?_
  refine W.lcmp hx hb dL_refuses_53 ?_
  refine lv_if_ne (tgt := 303) hx hb dL_refuses_54 (by decide) (fun c9 => absurd (c_eq (a := (-9000000000000000002)) (b := (-9000000000000000002)) (by omega)) c9) (fun _ => ?_)
  refine lv_aload_n hx hb dL_refuses_57 rfl (lv_at hl 2 rfl) ?_
  refine lv_iconst (v := (-1)) hx hb dL_refuses_58 (by decide) ?_
  refine lv_iconst (v := 0) hx hb dL_refuses_59 (by decide) ?_
  refine sy_kl (vx_runSW (As := [.ref (ad 60), .int (-1), .int 0]) (rest := []) ⟨hx, hb, hml, hown, hts⟩ (mL_fashion l hfl Z nT nK cT cK ad g q (-1) 0 hI) (vx_cwSW 3 hts (gu_S uk_2_184 uk_2_185 uk_1_0 uk_2_186) rfl rfl rfl (by decide +kernel) ⟨Nat.le_of_ble_eq_true rfl, Nat.le_of_ble_eq_true rfl⟩) ⟨sPreL_blind _, fun U hU hW => ⟨rfl, ⟨hE.next hS hU hW.alike, by rw [hU]; exact hP⟩, hNc.next hW.alike⟩⟩ rfl rfl hl.1 rfl (lv_room (Nat.le_of_ble_eq_true rfl)) dL_refuses_60 ⟨by show _ ≤ 134; (try dsimp only); omega, by show _ ≤ 1112; (try dsimp only); omega⟩) hS (fun r gz qz H locs e9 hP hS => ?_)
  obtain ⟨er, eg, eq⟩ := eq_n1 f_fashion1 e9
  subst er; subst eg; subst eq
  refine lv_ldc2 (v := lI (-9000000000000000001)) hx hb hown (hts _ (u_in uk_2_181)) dL_refuses_63 ?_
  refine W.lcmp hx hb dL_refuses_66 ?_
  refine lv_if_ne (tgt := 303) hx hb dL_refuses_67 (by decide) (fun c9 => absurd (c_eq (a := (-9000000000000000001)) (b := (-9000000000000000001)) (by omega)) c9) (fun _ => ?_)
  refine lv_aload_n hx hb dL_refuses_70 rfl (lv_at hl 2 rfl) ?_
  refine lv_iconst (v := 0) hx hb dL_refuses_71 (by decide) ?_
  refine lv_sipush (v := 201) hx hb dL_refuses_72 (by decide) ?_
  refine sy_kl (vx_runSW (As := [.ref (ad 60), .int 0, .int 201]) (rest := []) ⟨hx, hb, hml, hown, hts⟩ (mL_fashion l hfl Z nT nK cT cK ad g q 0 201 hI) (vx_cwSW 3 hts (gu_S uk_2_184 uk_2_185 uk_1_0 uk_2_186) rfl rfl rfl (by decide +kernel) ⟨Nat.le_of_ble_eq_true rfl, Nat.le_of_ble_eq_true rfl⟩) ⟨sPreL_blind _, fun U hU hW => ⟨rfl, ⟨hE.next hS hU hW.alike, by rw [hU]; exact hP⟩, hNc.next hW.alike⟩⟩ rfl rfl hl.1 rfl (lv_room (Nat.le_of_ble_eq_true rfl)) dL_refuses_75 ⟨by show _ ≤ 134; (try dsimp only); omega, by show _ ≤ 1112; (try dsimp only); omega⟩) hS (fun r gz qz H locs e9 hP hS => ?_)
  obtain ⟨er, eg, eq⟩ := eq_n2 f_fashion2 e9
  subst er; subst eg; subst eq
  refine lv_ldc2 (v := lI (-9000000000000000002)) hx hb hown (hts _ (u_in uk_2_182)) dL_refuses_78 ?_
  refine W.lcmp hx hb dL_refuses_81 ?_
  refine lv_if_ne (tgt := 303) hx hb dL_refuses_82 (by decide) (fun c9 => absurd (c_eq (a := (-9000000000000000002)) (b := (-9000000000000000002)) (by omega)) c9) (fun _ => ?_)
  refine lv_aload_n hx hb dL_refuses_85 rfl (lv_at hl 2 rfl) ?_
  refine lv_iconst (v := 4) hx hb dL_refuses_86 (by decide) ?_
  refine lv_iconst (v := 0) hx hb dL_refuses_87 (by decide) ?_
  refine sy_kl (vx_runSW (As := [.ref (ad 60), .int 4, .int 0]) (rest := []) ⟨hx, hb, hml, hown, hts⟩ (mL_bias l hfl Z nT nK cT cK ad g q 4 0 hI) (vx_cwSW 3 hts (gu_S uk_4_134 uk_4_135 uk_1_0 uk_4_136) rfl rfl rfl (by decide +kernel) ⟨Nat.le_of_ble_eq_true rfl, Nat.le_of_ble_eq_true rfl⟩) ⟨sPreL_blind _, fun U hU hW => ⟨rfl, ⟨hE.next hS hU hW.alike, by rw [hU]; exact hP⟩, hNc.next hW.alike⟩⟩ rfl rfl hl.1 rfl (lv_room (Nat.le_of_ble_eq_true rfl)) dL_refuses_88 ⟨by show _ ≤ 134; (try dsimp only); omega, by show _ ≤ 1112; (try dsimp only); omega⟩) hS (fun r gz qz H locs e9 hP hS => ?_)
  obtain ⟨er, eg, eq⟩ := eq_n1 f_bias1 e9
  subst er; subst eg; subst eq
  refine lv_ldc2 (v := lI (-9000000000000000001)) hx hb hown (hts _ (u_in uk_2_181)) dL_refuses_91 ?_
  refine W.lcmp hx hb dL_refuses_94 ?_
  refine lv_if_ne (tgt := 303) hx hb dL_refuses_95 (by decide) (fun c9 => absurd (c_eq (a := (-9000000000000000001)) (b := (-9000000000000000001)) (by omega)) c9) (fun _ => ?_)
  refine lv_aload_n hx hb dL_refuses_98 rfl (lv_at hl 2 rfl) ?_
  refine lv_iconst (v := 0) hx hb dL_refuses_99 (by decide) ?_
  refine lv_bipush (v := 21) hx hb dL_refuses_100 (by decide) ?_
  refine sy_kl (vx_runSW (As := [.ref (ad 60), .int 0, .int 21]) (rest := []) ⟨hx, hb, hml, hown, hts⟩ (mL_bias l hfl Z nT nK cT cK ad g q 0 21 hI) (vx_cwSW 3 hts (gu_S uk_4_134 uk_4_135 uk_1_0 uk_4_136) rfl rfl rfl (by decide +kernel) ⟨Nat.le_of_ble_eq_true rfl, Nat.le_of_ble_eq_true rfl⟩) ⟨sPreL_blind _, fun U hU hW => ⟨rfl, ⟨hE.next hS hU hW.alike, by rw [hU]; exact hP⟩, hNc.next hW.alike⟩⟩ rfl rfl hl.1 rfl (lv_room (Nat.le_of_ble_eq_true rfl)) dL_refuses_102 ⟨by show _ ≤ 134; (try dsimp only); omega, by show _ ≤ 1112; (try dsimp only); omega⟩) hS (fun r gz qz H locs e9 hP hS => ?_)
  obtain ⟨er, eg, eq⟩ := eq_n2 f_bias2 e9
  subst er; subst eg; subst eq
  refine lv_ldc2 (v := lI (-9000000000000000002)) hx hb hown (hts _ (u_in uk_2_182)) dL_refuses_105 ?_
  refine W.lcmp hx hb dL_refuses_108 ?_
  refine lv_if_ne (tgt := 303) hx hb dL_refuses_109 (by decide) (fun c9 => absurd (c_eq (a := (-9000000000000000002)) (b := (-9000000000000000002)) (by omega)) c9) (fun _ => ?_)
  refine lv_aload_n hx hb dL_refuses_112 rfl (lv_at hl 2 rfl) ?_
  refine lv_bipush (v := 10) hx hb dL_refuses_113 (by decide) ?_
  refine lv_iconst (v := 0) hx hb dL_refuses_115 (by decide) ?_
  refine sy_kl (vx_runSW (As := [.ref (ad 60), .int 10, .int 0]) (rest := []) ⟨hx, hb, hml, hown, hts⟩ (mL_classOf l hfl Z nT nK cT cK ad g q 10 0 hI) (vx_cwSW 3 hts (gu_S uk_4_141 uk_4_142 uk_1_0 uk_4_143) rfl rfl rfl (by decide +kernel) ⟨Nat.le_of_ble_eq_true rfl, Nat.le_of_ble_eq_true rfl⟩) ⟨sPreL_blind _, fun U hU hW => ⟨rfl, ⟨hE.next hS hU hW.alike, by rw [hU]; exact hP⟩, hNc.next hW.alike⟩⟩ rfl rfl hl.1 rfl (lv_room (Nat.le_of_ble_eq_true rfl)) dL_refuses_116 ⟨by show _ ≤ 134; (try dsimp only); omega, by show _ ≤ 1112; (try dsimp only); omega⟩) hS (fun r gz qz H locs e9 hP hS => ?_)
  obtain ⟨er, eg, eq⟩ := eq_n1 f_classOf1 e9
  subst er; subst eg; subst eq
  refine lv_ldc2 (v := lI (-9000000000000000001)) hx hb hown (hts _ (u_in uk_2_181)) dL_refuses_119 ?_
  refine W.lcmp hx hb dL_refuses_122 ?_
  refine lv_if_ne (tgt := 303) hx hb dL_refuses_123 (by decide) (fun c9 => absurd (c_eq (a := (-9000000000000000001)) (b := (-9000000000000000001)) (by omega)) c9) (fun _ => ?_)
  refine lv_aload_n hx hb dL_refuses_126 rfl (lv_at hl 2 rfl) ?_
  refine lv_iconst (v := 0) hx hb dL_refuses_127 (by decide) ?_
  refine lv_iconst (v := 3) hx hb dL_refuses_128 (by decide) ?_
  refine sy_kl (vx_runSW (As := [.ref (ad 60), .int 0, .int 3]) (rest := []) ⟨hx, hb, hml, hown, hts⟩ (mL_classOf l hfl Z nT nK cT cK ad g q 0 3 hI) (vx_cwSW 3 hts (gu_S uk_4_141 uk_4_142 uk_1_0 uk_4_143) rfl rfl rfl (by decide +kernel) ⟨Nat.le_of_ble_eq_true rfl, Nat.le_of_ble_eq_true rfl⟩) ⟨sPreL_blind _, fun U hU hW => ⟨rfl, ⟨hE.next hS hU hW.alike, by rw [hU]; exact hP⟩, hNc.next hW.alike⟩⟩ rfl rfl hl.1 rfl (lv_room (Nat.le_of_ble_eq_true rfl)) dL_refuses_129 ⟨by show _ ≤ 134; (try dsimp only); omega, by show _ ≤ 1112; (try dsimp only); omega⟩) hS (fun r gz qz H locs e9 hP hS => ?_)
  obtain ⟨er, eg, eq⟩ := eq_n1 f_classOf2 e9
  subst er; subst eg; subst eq
  refine lv_ldc2 (v := lI (-9000000000000000001)) hx hb hown (hts _ (u_in uk_2_181)) dL_refuses_132 ?_
  refine W.lcmp hx hb dL_refuses_135 ?_
  refine lv_if_ne (tgt := 303) hx hb dL_refuses_136 (by decide) (fun c9 => absurd (c_eq (a := (-9000000000000000001)) (b := (-9000000000000000001)) (by omega)) c9) (fun _ => ?_)
  refine lv_aload_n hx hb dL_refuses_139 rfl (lv_at hl 2 rfl) ?_
  refine lv_iconst (v := 3) hx hb dL_refuses_140 (by decide) ?_
  refine lv_bipush (v := 50) hx hb dL_refuses_141 (by decide) ?_
  refine lv_iconst (v := 0) hx hb dL_refuses_143 (by decide) ?_
  refine sy_kl (vx_runSW (As := [.ref (ad 60), .int 3, .int 50, .int 0]) (rest := []) ⟨hx, hb, hml, hown, hts⟩ (mL_charter l hfl Z nT nK cT cK ad g q 3 50 0 hI) (vx_cwSW 4 hts (gu_S uk_2_191 uk_2_192 uk_1_0 uk_2_193) rfl rfl rfl (by decide +kernel) ⟨Nat.le_of_ble_eq_true rfl, Nat.le_of_ble_eq_true rfl⟩) ⟨sPreL_blind _, fun U hU hW => ⟨rfl, ⟨hE.next hS hU hW.alike, by rw [hU]; exact hP⟩, hNc.next hW.alike⟩⟩ rfl rfl hl.1 rfl (lv_room (Nat.le_of_ble_eq_true rfl)) dL_refuses_144 ⟨by show _ ≤ 134; (try dsimp only); omega, by show _ ≤ 1112; (try dsimp only); omega⟩) hS (fun r gz qz H locs e9 hP hS => ?_)
  obtain ⟨er, eg, eq⟩ := eq_v1 f_charter1 e9
  subst er; subst eg; subst eq
  refine lv_ldc2 (v := lI (-9000000000000000001)) hx hb hown (hts _ (u_in uk_2_181)) dL_refuses_147 ?_
  refine W.lcmp hx hb dL_refuses_150 ?_
  refine lv_if_ne (tgt := 303) hx hb dL_refuses_151 (by decide) (fun c9 => absurd (c_eq (a := (-9000000000000000001)) (b := (-9000000000000000001)) (by omega)) c9) (fun _ => ?_)
  refine lv_aload_n hx hb dL_refuses_154 rfl (lv_at hl 2 rfl) ?_
  refine lv_iconst (v := 0) hx hb dL_refuses_155 (by decide) ?_
  refine lv_bipush (v := 9) hx hb dL_refuses_156 (by decide) ?_
  refine lv_iconst (v := 0) hx hb dL_refuses_158 (by decide) ?_
  refine sy_kl (vx_runSW (As := [.ref (ad 60), .int 0, .int 9, .int 0]) (rest := []) ⟨hx, hb, hml, hown, hts⟩ (mL_charter l hfl Z nT nK cT cK ad g q 0 9 0 hI) (vx_cwSW 4 hts (gu_S uk_2_191 uk_2_192 uk_1_0 uk_2_193) rfl rfl rfl (by decide +kernel) ⟨Nat.le_of_ble_eq_true rfl, Nat.le_of_ble_eq_true rfl⟩) ⟨sPreL_blind _, fun U hU hW => ⟨rfl, ⟨hE.next hS hU hW.alike, by rw [hU]; exact hP⟩, hNc.next hW.alike⟩⟩ rfl rfl hl.1 rfl (lv_room (Nat.le_of_ble_eq_true rfl)) dL_refuses_159 ⟨by show _ ≤ 134; (try dsimp only); omega, by show _ ≤ 1112; (try dsimp only); omega⟩) hS (fun r gz qz H locs e9 hP hS => ?_)
  obtain ⟨er, eg, eq⟩ := eq_v2 f_charter2 e9
  subst er; subst eg; subst eq
  refine lv_ldc2 (v := lI (-9000000000000000002)) hx hb hown (hts _ (u_in uk_2_182)) dL_refuses_162 ?_
  refine W.lcmp hx hb dL_refuses_165 ?_
  refine lv_if_ne (tgt := 303) hx hb dL_refuses_166 (by decide) (fun c9 => absurd (c_eq (a := (-9000000000000000002)) (b := (-9000000000000000002)) (by omega)) c9) (fun _ => ?_)
  refine lv_aload_n hx hb dL_refuses_169 rfl (lv_at hl 2 rfl) ?_
  refine lv_iconst (v := 3) hx hb dL_refuses_170 (by decide) ?_
  refine lv_iconst (v := 0) hx hb dL_refuses_171 (by decide) ?_
  refine sy_kl (vx_runSW (As := [.ref (ad 60), .int 3, .int 0]) (rest := []) ⟨hx, hb, hml, hown, hts⟩ (mL_rate l hfl Z nT nK cT cK ad g q 3 0 hI) (vx_cwSW 3 hts (gu_S uk_2_199 uk_2_200 uk_1_0 uk_2_201) rfl rfl rfl (by decide +kernel) ⟨Nat.le_of_ble_eq_true rfl, Nat.le_of_ble_eq_true rfl⟩) ⟨sPreL_blind _, fun U hU hW => ⟨rfl, ⟨hE.next hS hU hW.alike, by rw [hU]; exact hP⟩, hNc.next hW.alike⟩⟩ rfl rfl hl.1 rfl (lv_room (Nat.le_of_ble_eq_true rfl)) dL_refuses_172 ⟨by show _ ≤ 134; (try dsimp only); omega, by show _ ≤ 1112; (try dsimp only); omega⟩) hS (fun r gz qz H locs e9 hP hS => ?_)
  obtain ⟨er, eg, eq⟩ := eq_n1 f_rate1 e9
  subst er; subst eg; subst eq
  refine lv_ldc2 (v := lI (-9000000000000000001)) hx hb hown (hts _ (u_in uk_2_181)) dL_refuses_175 ?_
  refine W.lcmp hx hb dL_refuses_178 ?_
  refine lv_if_ne (tgt := 303) hx hb dL_refuses_179 (by decide) (fun c9 => absurd (c_eq (a := (-9000000000000000001)) (b := (-9000000000000000001)) (by omega)) c9) (fun _ => ?_)
  refine lv_aload_n hx hb dL_refuses_182 rfl (lv_at hl 2 rfl) ?_
  refine lv_iconst (v := 0) hx hb dL_refuses_183 (by decide) ?_
  refine lv_bipush (v := 101) hx hb dL_refuses_184 (by decide) ?_
  refine sy_kl (vx_runSW (As := [.ref (ad 60), .int 0, .int 101]) (rest := []) ⟨hx, hb, hml, hown, hts⟩ (mL_rate l hfl Z nT nK cT cK ad g q 0 101 hI) (vx_cwSW 3 hts (gu_S uk_2_199 uk_2_200 uk_1_0 uk_2_201) rfl rfl rfl (by decide +kernel) ⟨Nat.le_of_ble_eq_true rfl, Nat.le_of_ble_eq_true rfl⟩) ⟨sPreL_blind _, fun U hU hW => ⟨rfl, ⟨hE.next hS hU hW.alike, by rw [hU]; exact hP⟩, hNc.next hW.alike⟩⟩ rfl rfl hl.1 rfl (lv_room (Nat.le_of_ble_eq_true rfl)) dL_refuses_186 ⟨by show _ ≤ 134; (try dsimp only); omega, by show _ ≤ 1112; (try dsimp only); omega⟩) hS (fun r gz qz H locs e9 hP hS => ?_)
  obtain ⟨er, eg, eq⟩ := eq_n2 f_rate2 e9
  subst er; subst eg; subst eq
  refine lv_ldc2 (v := lI (-9000000000000000002)) hx hb hown (hts _ (u_in uk_2_182)) dL_refuses_189 ?_
  refine W.lcmp hx hb dL_refuses_192 ?_
  refine lv_if_ne (tgt := 303) hx hb dL_refuses_193 (by decide) (fun c9 => absurd (c_eq (a := (-9000000000000000002)) (b := (-9000000000000000002)) (by omega)) c9) (fun _ => ?_)
  refine lv_aload_n hx hb dL_refuses_196 rfl (lv_at hl 2 rfl) ?_
  refine lv_bipush (v := 13) hx hb dL_refuses_197 (by decide) ?_
  refine sy_kl (vx_runSW (As := [.ref (ad 60), .int 13]) (rest := []) ⟨hx, hb, hml, hown, hts⟩ (mL_term l hfl Z nT nK cT cK ad g q 13 hI) (vx_cwSW 2 hts (gu_S uk_2_222 uk_2_223 uk_1_0 uk_2_224) rfl rfl rfl (by decide +kernel) ⟨Nat.le_of_ble_eq_true rfl, Nat.le_of_ble_eq_true rfl⟩) ⟨sPreL_blind _, fun U hU hW => ⟨rfl, ⟨hE.next hS hU hW.alike, by rw [hU]; exact hP⟩, hNc.next hW.alike⟩⟩ rfl rfl hl.1 rfl (lv_room (Nat.le_of_ble_eq_true rfl)) dL_refuses_199 ⟨by show _ ≤ 134; (try dsimp only); omega, by show _ ≤ 1112; (try dsimp only); omega⟩) hS (fun r gz qz H locs e9 hP hS => ?_)
  obtain ⟨er, eg, eq⟩ := eq_n2 f_term e9
  subst er; subst eg; subst eq
  refine lv_ldc2 (v := lI (-9000000000000000002)) hx hb hown (hts _ (u_in uk_2_182)) dL_refuses_202 ?_
  refine W.lcmp hx hb dL_refuses_205 ?_
  refine lv_if_ne (tgt := 303) hx hb dL_refuses_206 (by decide) (fun c9 => absurd (c_eq (a := (-9000000000000000002)) (b := (-9000000000000000002)) (by omega)) c9) (fun _ => ?_)
  refine lv_aload_n hx hb dL_refuses_209 rfl (lv_at hl 2 rfl) ?_
  refine lv_iconst (v := 5) hx hb dL_refuses_210 (by decide) ?_
  refine lv_iconst (v := 4) hx hb dL_refuses_211 (by decide) ?_
  refine sy_kl (vx_runSW (As := [.ref (ad 60), .int 5, .int 4]) (rest := []) ⟨hx, hb, hml, hown, hts⟩ (mL_amnesty l hfl Z nT nK cT cK ad g q 5 4 hI) (vx_cwSW 3 hts (gu_S uk_2_229 uk_2_230 uk_1_0 uk_2_231) rfl rfl rfl (by decide +kernel) ⟨Nat.le_of_ble_eq_true rfl, Nat.le_of_ble_eq_true rfl⟩) ⟨sPreL_blind _, fun U hU hW => ⟨rfl, ⟨hE.next hS hU hW.alike, by rw [hU]; exact hP⟩, hNc.next hW.alike⟩⟩ rfl rfl hl.1 rfl (lv_room (Nat.le_of_ble_eq_true rfl)) dL_refuses_212 ⟨by show _ ≤ 134; (try dsimp only); omega, by show _ ≤ 1112; (try dsimp only); omega⟩) hS (fun r gz qz H locs e9 hP hS => ?_)
  obtain ⟨er, eg, eq⟩ := eq_n2 f_amnesty e9
  subst er; subst eg; subst eq
  refine lv_ldc2 (v := lI (-9000000000000000002)) hx hb hown (hts _ (u_in uk_2_182)) dL_refuses_215 ?_
  refine W.lcmp hx hb dL_refuses_218 ?_
  refine lv_if_ne (tgt := 303) hx hb dL_refuses_219 (by decide) (fun c9 => absurd (c_eq (a := (-9000000000000000002)) (b := (-9000000000000000002)) (by omega)) c9) (fun _ => ?_)
  refine lv_aload_n hx hb dL_refuses_222 rfl (lv_at hl 2 rfl) ?_
  refine lv_iconst (v := 0) hx hb dL_refuses_223 (by decide) ?_
  refine lv_bipush (v := 40) hx hb dL_refuses_224 (by decide) ?_
  refine lv_iconst (v := 0) hx hb dL_refuses_226 (by decide) ?_
  refine lv_iconst (v := 0) hx hb dL_refuses_227 (by decide) ?_
  refine lv_iconst (v := 1) hx hb dL_refuses_228 (by decide) ?_
  refine lv_iconst (v := 1) hx hb dL_refuses_229 (by decide) ?_
  refine va_calll (vx_runSW (As := [.ref (ad 60), .int 0, .int 40, .int 0, .int 0, .int 1, .int 1]) (rest := []) ⟨hx, hb, hml, hown, hts⟩ (mL_pledge l hfl Z nT nK cT cK ad g q 0 40 0 0 1 1 hI (Or.inr rfl) h71) (vx_cwSW 7 hts (gu_S uk_3_5 uk_3_6 uk_1_0 uk_3_7) rfl rfl rfl (by decide +kernel) ⟨Nat.le_of_ble_eq_true rfl, Nat.le_of_ble_eq_true rfl⟩) ⟨sPreL_blind _, fun U hU hW => ⟨rfl, ⟨hE.next hS hU hW.alike, by rw [hU]; exact hP⟩, hNc.next hW.alike⟩⟩ rfl rfl hl.1 rfl (lv_room (Nat.le_of_ble_eq_true rfl)) dL_refuses_230 ⟨by show _ ≤ 134; (try dsimp only); omega, by show _ ≤ 1112; (try dsimp only); omega⟩) hS (fun _ _ h => h) (fun _ h => h) (fun r u t H locs ht _ hp hB _ _ hS => ?_)
  obtain ⟨er, -⟩ := hp
  have hP := hB.2.2 (by rw [(f_pledge1 hI)]; exact (by decide : (1 : Int32) ≠ 0))
  rw [ht] at hP
  rw [(f_pledge1 hI)] at er
  subst er
  refine sy_topL (y := lI (-9000000000000000001)) rfl ?_
  refine lv_ldc2 (v := lI (-9000000000000000001)) hx hb hown (hts _ (u_in uk_2_181)) dL_refuses_233 ?_
  refine W.lcmp hx hb dL_refuses_236 ?_
  refine lv_if_ne (tgt := 303) hx hb dL_refuses_237 (by decide) (fun c9 => absurd (c_eq (a := (-9000000000000000001)) (b := (-9000000000000000001)) (by omega)) c9) (fun _ => ?_)
  refine lv_aload_n hx hb dL_refuses_240 rfl (lv_at hl 2 rfl) ?_
  refine lv_iconst (v := 0) hx hb dL_refuses_241 (by decide) ?_
  refine lv_iconst (v := 0) hx hb dL_refuses_242 (by decide) ?_
  refine lv_iconst (v := 0) hx hb dL_refuses_243 (by decide) ?_
  refine lv_iconst (v := 0) hx hb dL_refuses_244 (by decide) ?_
  refine lv_iconst (v := 0) hx hb dL_refuses_245 (by decide) ?_
  refine lv_iconst (v := 1) hx hb dL_refuses_246 (by decide) ?_
  refine va_calll (vx_runSW (As := [.ref (ad 60), .int 0, .int 0, .int 0, .int 0, .int 0, .int 1]) (rest := []) ⟨hx, hb, hml, hown, hts⟩ (mL_pledge l hfl Z nT nK cT cK ad g q 0 0 0 0 0 1 hI (Or.inr rfl) h71) (vx_cwSW 7 hts (gu_S uk_3_5 uk_3_6 uk_1_0 uk_3_7) rfl rfl rfl (by decide +kernel) ⟨Nat.le_of_ble_eq_true rfl, Nat.le_of_ble_eq_true rfl⟩) ⟨sPreL_blind _, fun U hU hW => ⟨rfl, ⟨hE.next hS hU hW.alike, by rw [hU]; exact hP⟩, hNc.next hW.alike⟩⟩ rfl rfl hl.1 rfl (lv_room (Nat.le_of_ble_eq_true rfl)) dL_refuses_247 ⟨by show _ ≤ 134; (try dsimp only); omega, by show _ ≤ 1112; (try dsimp only); omega⟩) hS (fun _ _ h => h) (fun _ h => h) (fun r u t H locs ht _ hp hB _ _ hS => ?_)
  obtain ⟨er, -⟩ := hp
  have hP := hB.2.2 (by rw [(f_pledge2 hI h0)]; exact (by decide : (2 : Int32) ≠ 0))
  rw [ht] at hP
  rw [(f_pledge2 hI h0)] at er
  subst er
  refine sy_topL (y := lI (-9000000000000000002)) rfl ?_
  refine lv_ldc2 (v := lI (-9000000000000000002)) hx hb hown (hts _ (u_in uk_2_182)) dL_refuses_250 ?_
  refine W.lcmp hx hb dL_refuses_253 ?_
  refine lv_if_ne (tgt := 303) hx hb dL_refuses_254 (by decide) (fun c9 => absurd (c_eq (a := (-9000000000000000002)) (b := (-9000000000000000002)) (by omega)) c9) (fun _ => ?_)
  refine lv_aload_n hx hb dL_refuses_257 rfl (lv_at hl 2 rfl) ?_
  refine lv_bipush (v := 40) hx hb dL_refuses_258 (by decide) ?_
  refine lv_iconst (v := 0) hx hb dL_refuses_260 (by decide) ?_
  refine sy_kl (vx_runSW (As := [.ref (ad 60), .int 40, .int 0]) (rest := []) ⟨hx, hb, hml, hown, hts⟩ (mL_redeem l hfl Z nT nK cT cK ad g q 40 0 hI) (vx_cwSW 3 hts (gu_S uk_4_148 uk_4_149 uk_1_0 uk_4_150) rfl rfl rfl (by decide +kernel) ⟨Nat.le_of_ble_eq_true rfl, Nat.le_of_ble_eq_true rfl⟩) ⟨sPreL_blind _, fun U hU hW => ⟨rfl, ⟨hE.next hS hU hW.alike, by rw [hU]; exact hP⟩, hNc.next hW.alike⟩⟩ rfl rfl hl.1 rfl (lv_room (Nat.le_of_ble_eq_true rfl)) dL_refuses_261 ⟨by show _ ≤ 134; (try dsimp only); omega, by show _ ≤ 1112; (try dsimp only); omega⟩) hS (fun r gz qz H locs e9 hP hS => ?_)
  obtain ⟨er, eg, eq⟩ := eq_n1 (f_redeem hI) e9
  subst er; subst eg; subst eq
  refine lv_ldc2 (v := lI (-9000000000000000001)) hx hb hown (hts _ (u_in uk_2_181)) dL_refuses_264 ?_
  refine W.lcmp hx hb dL_refuses_267 ?_
  refine lv_if_ne (tgt := 303) hx hb dL_refuses_268 (by decide) (fun c9 => absurd (c_eq (a := (-9000000000000000001)) (b := (-9000000000000000001)) (by omega)) c9) (fun _ => ?_)
  refine lv_aload_n hx hb dL_refuses_271 rfl (lv_at hl 2 rfl) ?_
  refine lv_iconst (v := (-1)) hx hb dL_refuses_272 (by decide) ?_
  refine lv_iconst (v := 0) hx hb dL_refuses_273 (by decide) ?_
  refine lv_iconst (v := 0) hx hb dL_refuses_274 (by decide) ?_
  refine sy_kl (vx_runSW (As := [.ref (ad 60), .int (-1), .int 0, .int 0]) (rest := []) ⟨hx, hb, hml, hown, hts⟩ (mL_renew l hfl Z nT nK cT cK ad g q (-1) 0 0 hI) (vx_cwSW 4 hts (gu_S uk_4_160 uk_4_161 uk_1_0 uk_4_162) rfl rfl rfl (by decide +kernel) ⟨Nat.le_of_ble_eq_true rfl, Nat.le_of_ble_eq_true rfl⟩) ⟨sPreL_blind _, fun U hU hW => ⟨rfl, ⟨hE.next hS hU hW.alike, by rw [hU]; exact hP⟩, hNc.next hW.alike⟩⟩ rfl rfl hl.1 rfl (lv_room (Nat.le_of_ble_eq_true rfl)) dL_refuses_275 ⟨by show _ ≤ 134; (try dsimp only); omega, by show _ ≤ 1112; (try dsimp only); omega⟩) hS (fun r gz qz H locs e9 hP hS => ?_)
  obtain ⟨er, eg, eq⟩ := eq_n1 f_renew e9
  subst er; subst eg; subst eq
  refine lv_ldc2 (v := lI (-9000000000000000001)) hx hb hown (hts _ (u_in uk_2_181)) dL_refuses_278 ?_
  refine W.lcmp hx hb dL_refuses_281 ?_
  refine lv_if_ne (tgt := 303) hx hb dL_refuses_282 (by decide) (fun c9 => absurd (c_eq (a := (-9000000000000000001)) (b := (-9000000000000000001)) (by omega)) c9) (fun _ => ?_)
  refine lv_aload_n hx hb dL_refuses_285 rfl (lv_at hl 2 rfl) ?_
  refine lv_bipush (v := 40) hx hb dL_refuses_286 (by decide) ?_
  refine lv_iconst (v := 0) hx hb dL_refuses_288 (by decide) ?_
  refine sy_kl (vx_runSW (As := [.ref (ad 60), .int 40, .int 0]) (rest := []) ⟨hx, hb, hml, hown, hts⟩ (mL_give l hfl Z nT nK cT cK ad g q 40 0 hI) (vx_cwSW 3 hts (gu_S uk_3_144 uk_3_145 uk_1_0 uk_3_146) rfl rfl rfl (by decide +kernel) ⟨Nat.le_of_ble_eq_true rfl, Nat.le_of_ble_eq_true rfl⟩) ⟨sPreL_blind _, fun U hU hW => ⟨rfl, ⟨hE.next hS hU hW.alike, by rw [hU]; exact hP⟩, hNc.next hW.alike⟩⟩ rfl rfl hl.1 rfl (lv_room (Nat.le_of_ble_eq_true rfl)) dL_refuses_289 ⟨by show _ ≤ 134; (try dsimp only); omega, by show _ ≤ 1112; (try dsimp only); omega⟩) hS (fun r gz qz H locs e9 hP hS => ?_)
  obtain ⟨er, eg, eq⟩ := eq_n1 (f_give hI) e9
  subst er; subst eg; subst eq
  refine lv_ldc2 (v := lI (-9000000000000000001)) hx hb hown (hts _ (u_in uk_2_181)) dL_refuses_292 ?_
  refine W.lcmp hx hb dL_refuses_295 ?_
  refine lv_if_ne (tgt := 303) hx hb dL_refuses_296 (by decide) (fun c9 => absurd (c_eq (a := (-9000000000000000001)) (b := (-9000000000000000001)) (by omega)) c9) (fun _ => ?_)
  refine lv_iconst (v := 1) hx hb dL_refuses_299 (by decide) ?_
  refine lv_goto (tgt := 304) hx hb dL_refuses_300 (by decide) ?_
  refine lv_istore (lv' := [(4, .int 1), (2, .long (lI ((g 68 0).toInt))), (1, .int (g 60 9)), (0, .ref (ad 60))]) hx hb dL_refuses_304 hl (by decide) rfl (fun ls hl => ?_)
  refine lv_iload hx hb dL_refuses_306 (lv_at hl 0 rfl) ?_
  refine lv_if_eq (tgt := 577) hx hb dL_refuses_308 (by decide) (fun c9 => absurd c9 (by decide)) (fun _ => ?_)
  refine lv_aload_n hx hb dL_refuses_311 rfl (lv_at hl 3 rfl) ?_
  refine lv_bipush (v := 40) hx hb dL_refuses_312 (by decide) ?_
  refine lv_iconst (v := 0) hx hb dL_refuses_314 (by decide) ?_
  refine sy_kl (vx_runSW (As := [.ref (ad 60), .int 40, .int 0]) (rest := []) ⟨hx, hb, hml, hown, hts⟩ (mL_notice l hfl Z nT nK cT cK ad g q 40 0 hI) (vx_cwSW 3 hts (gu_S uk_3_159 uk_3_160 uk_1_0 uk_3_161) rfl rfl rfl (by decide +kernel) ⟨Nat.le_of_ble_eq_true rfl, Nat.le_of_ble_eq_true rfl⟩) ⟨sPreL_blind _, fun U hU hW => ⟨rfl, ⟨hE.next hS hU hW.alike, by rw [hU]; exact hP⟩, hNc.next hW.alike⟩⟩ rfl rfl hl.1 rfl (lv_room (Nat.le_of_ble_eq_true rfl)) dL_refuses_315 ⟨by show _ ≤ 134; (try dsimp only); omega, by show _ ≤ 1112; (try dsimp only); omega⟩) hS (fun r gz qz H locs e9 hP hS => ?_)
  obtain ⟨er, eg, eq⟩ := eq_v1 (f_notice hI) e9
  subst er; subst eg; subst eq
  refine lv_ldc2 (v := lI (-9000000000000000001)) hx hb hown (hts _ (u_in uk_2_181)) dL_refuses_318 ?_
  refine W.lcmp hx hb dL_refuses_321 ?_
  refine lv_if_ne (tgt := 577) hx hb dL_refuses_322 (by decide) (fun c9 => absurd (c_eq (a := (-9000000000000000001)) (b := (-9000000000000000001)) (by omega)) c9) (fun _ => ?_)
  refine lv_aload_n hx hb dL_refuses_325 rfl (lv_at hl 3 rfl) ?_
  refine lv_bipush (v := 40) hx hb dL_refuses_326 (by decide) ?_
  refine sy_kl (vx_runSW (As := [.ref (ad 60), .int 40]) (rest := []) ⟨hx, hb, hml, hown, hts⟩ (mL_show l hfl Z nT nK cT cK ad g q 40 hI) (vx_cwSW 2 hts (gu_S uk_3_170 uk_3_171 uk_1_0 uk_3_172) rfl rfl rfl (by decide +kernel) ⟨Nat.le_of_ble_eq_true rfl, Nat.le_of_ble_eq_true rfl⟩) ⟨sPreL_blind _, fun U hU hW => ⟨rfl, ⟨hE.next hS hU hW.alike, by rw [hU]; exact hP⟩, hNc.next hW.alike⟩⟩ rfl rfl hl.1 rfl (lv_room (Nat.le_of_ble_eq_true rfl)) dL_refuses_328 ⟨by show _ ≤ 134; (try dsimp only); omega, by show _ ≤ 1112; (try dsimp only); omega⟩) hS (fun r gz qz H locs e9 hP hS => ?_)
  obtain ⟨er, eg, eq⟩ := eq_n1 (f_show hI) e9
  subst er; subst eg; subst eq
  refine lv_ldc2 (v := lI (-9000000000000000001)) hx hb hown (hts _ (u_in uk_2_181)) dL_refuses_331 ?_
  refine W.lcmp hx hb dL_refuses_334 ?_
  refine lv_if_ne (tgt := 577) hx hb dL_refuses_335 (by decide) (fun c9 => absurd (c_eq (a := (-9000000000000000001)) (b := (-9000000000000000001)) (by omega)) c9) (fun _ => ?_)
  refine lv_aload_n hx hb dL_refuses_338 rfl (lv_at hl 3 rfl) ?_
  refine lv_bipush (v := 40) hx hb dL_refuses_339 (by decide) ?_
  refine sy_kl (vx_runSW (As := [.ref (ad 60), .int 40]) (rest := []) ⟨hx, hb, hml, hown, hts⟩ (mL_police l hfl Z nT nK cT cK ad g q 40 hI) (vx_cwSW 2 hts (gu_S uk_3_177 uk_3_178 uk_1_0 uk_3_179) rfl rfl rfl (by decide +kernel) ⟨Nat.le_of_ble_eq_true rfl, Nat.le_of_ble_eq_true rfl⟩) ⟨sPreL_blind _, fun U hU hW => ⟨rfl, ⟨hE.next hS hU hW.alike, by rw [hU]; exact hP⟩, hNc.next hW.alike⟩⟩ rfl rfl hl.1 rfl (lv_room (Nat.le_of_ble_eq_true rfl)) dL_refuses_341 ⟨by show _ ≤ 134; (try dsimp only); omega, by show _ ≤ 1112; (try dsimp only); omega⟩) hS (fun r gz qz H locs e9 hP hS => ?_)
  obtain ⟨er, eg, eq⟩ := eq_n1 (f_police hI) e9
  subst er; subst eg; subst eq
  refine lv_ldc2 (v := lI (-9000000000000000001)) hx hb hown (hts _ (u_in uk_2_181)) dL_refuses_344 ?_
  refine W.lcmp hx hb dL_refuses_347 ?_
  refine lv_if_ne (tgt := 577) hx hb dL_refuses_348 (by decide) (fun c9 => absurd (c_eq (a := (-9000000000000000001)) (b := (-9000000000000000001)) (by omega)) c9) (fun _ => ?_)
  refine lv_aload_n hx hb dL_refuses_351 rfl (lv_at hl 3 rfl) ?_
  refine lv_iconst (v := (-1)) hx hb dL_refuses_352 (by decide) ?_
  refine lv_iconst (v := 1) hx hb dL_refuses_353 (by decide) ?_
  refine sy_kl (vx_runSW (As := [.ref (ad 60), .int (-1), .int 1]) (rest := []) ⟨hx, hb, hml, hown, hts⟩ (mL_court l hfl Z nT nK cT cK ad g q (-1) 1 hI) (vx_cwSW 3 hts (gu_S uk_3_188 uk_3_189 uk_1_0 uk_3_190) rfl rfl rfl (by decide +kernel) ⟨Nat.le_of_ble_eq_true rfl, Nat.le_of_ble_eq_true rfl⟩) ⟨sPreL_blind _, fun U hU hW => ⟨rfl, ⟨hE.next hS hU hW.alike, by rw [hU]; exact hP⟩, hNc.next hW.alike⟩⟩ rfl rfl hl.1 rfl (lv_room (Nat.le_of_ble_eq_true rfl)) dL_refuses_354 ⟨by show _ ≤ 134; (try dsimp only); omega, by show _ ≤ 1112; (try dsimp only); omega⟩) hS (fun r gz qz H locs e9 hP hS => ?_)
  obtain ⟨er, eg, eq⟩ := eq_n1 f_court e9
  subst er; subst eg; subst eq
  refine lv_ldc2 (v := lI (-9000000000000000001)) hx hb hown (hts _ (u_in uk_2_181)) dL_refuses_357 ?_
  refine W.lcmp hx hb dL_refuses_360 ?_
  refine lv_if_ne (tgt := 577) hx hb dL_refuses_361 (by decide) (fun c9 => absurd (c_eq (a := (-9000000000000000001)) (b := (-9000000000000000001)) (by omega)) c9) (fun _ => ?_)
  refine lv_aload_n hx hb dL_refuses_364 rfl (lv_at hl 3 rfl) ?_
  refine lv_iconst (v := 0) hx hb dL_refuses_365 (by decide) ?_
  refine lv_iconst (v := 3) hx hb dL_refuses_366 (by decide) ?_
  refine lv_iconst (v := 0) hx hb dL_refuses_367 (by decide) ?_
  refine sy_kl (vx_runSW (As := [.ref (ad 60), .int 0, .int 3, .int 0]) (rest := []) ⟨hx, hb, hml, hown, hts⟩ (mL_stray l hfl Z nT nK cT cK ad g q 0 3 0 hI) (vx_cwSW 4 hts (gu_S uk_3_203 uk_3_204 uk_1_0 uk_3_205) rfl rfl rfl (by decide +kernel) ⟨Nat.le_of_ble_eq_true rfl, Nat.le_of_ble_eq_true rfl⟩) ⟨sPreL_blind _, fun U hU hW => ⟨rfl, ⟨hE.next hS hU hW.alike, by rw [hU]; exact hP⟩, hNc.next hW.alike⟩⟩ rfl rfl hl.1 rfl (lv_room (Nat.le_of_ble_eq_true rfl)) dL_refuses_368 ⟨by show _ ≤ 134; (try dsimp only); omega, by show _ ≤ 1112; (try dsimp only); omega⟩) hS (fun r gz qz H locs e9 hP hS => ?_)
  obtain ⟨er, eg, eq⟩ := eq_v1 (f_stray1 hI h0) e9
  subst er; subst eg; subst eq
  refine lv_ldc2 (v := lI (-9000000000000000001)) hx hb hown (hts _ (u_in uk_2_181)) dL_refuses_371 ?_
  refine W.lcmp hx hb dL_refuses_374 ?_
  refine lv_if_ne (tgt := 577) hx hb dL_refuses_375 (by decide) (fun c9 => absurd (c_eq (a := (-9000000000000000001)) (b := (-9000000000000000001)) (by omega)) c9) (fun _ => ?_)
  refine lv_aload_n hx hb dL_refuses_378 rfl (lv_at hl 3 rfl) ?_
  refine lv_iconst (v := 0) hx hb dL_refuses_379 (by decide) ?_
  refine lv_iconst (v := 0) hx hb dL_refuses_380 (by decide) ?_
  refine lv_iconst (v := 4) hx hb dL_refuses_381 (by decide) ?_
  refine sy_kl (vx_runSW (As := [.ref (ad 60), .int 0, .int 0, .int 4]) (rest := []) ⟨hx, hb, hml, hown, hts⟩ (mL_stray l hfl Z nT nK cT cK ad g q 0 0 4 hI) (vx_cwSW 4 hts (gu_S uk_3_203 uk_3_204 uk_1_0 uk_3_205) rfl rfl rfl (by decide +kernel) ⟨Nat.le_of_ble_eq_true rfl, Nat.le_of_ble_eq_true rfl⟩) ⟨sPreL_blind _, fun U hU hW => ⟨rfl, ⟨hE.next hS hU hW.alike, by rw [hU]; exact hP⟩, hNc.next hW.alike⟩⟩ rfl rfl hl.1 rfl (lv_room (Nat.le_of_ble_eq_true rfl)) dL_refuses_382 ⟨by show _ ≤ 134; (try dsimp only); omega, by show _ ≤ 1112; (try dsimp only); omega⟩) hS (fun r gz qz H locs e9 hP hS => ?_)
  obtain ⟨er, eg, eq⟩ := eq_v1 (f_stray2 hI h0) e9
  subst er; subst eg; subst eq
  refine lv_ldc2 (v := lI (-9000000000000000001)) hx hb hown (hts _ (u_in uk_2_181)) dL_refuses_385 ?_
  refine W.lcmp hx hb dL_refuses_388 ?_
  refine lv_if_ne (tgt := 577) hx hb dL_refuses_389 (by decide) (fun c9 => absurd (c_eq (a := (-9000000000000000001)) (b := (-9000000000000000001)) (by omega)) c9) (fun _ => ?_)
  refine lv_aload_n hx hb dL_refuses_392 rfl (lv_at hl 3 rfl) ?_
  refine lv_iconst (v := 3) hx hb dL_refuses_393 (by decide) ?_
  refine sy_kl (vx_runSW (As := [.ref (ad 60), .int 3]) (rest := []) ⟨hx, hb, hml, hown, hts⟩ (mL_count l hfl Z nT nK cT cK ad g q 3 hI) (vx_cwSW 2 hts (gu_S uk_3_214 uk_3_215 uk_1_0 uk_3_216) rfl rfl rfl (by decide +kernel) ⟨Nat.le_of_ble_eq_true rfl, Nat.le_of_ble_eq_true rfl⟩) ⟨sPreL_blind _, fun U hU hW => ⟨rfl, ⟨hE.next hS hU hW.alike, by rw [hU]; exact hP⟩, hNc.next hW.alike⟩⟩ rfl rfl hl.1 rfl (lv_room (Nat.le_of_ble_eq_true rfl)) dL_refuses_394 ⟨by show _ ≤ 134; (try dsimp only); omega, by show _ ≤ 1112; (try dsimp only); omega⟩) hS (fun r gz qz H locs e9 hP hS => ?_)
  obtain ⟨er, eg, eq⟩ := eq_n1 f_count e9
  subst er; subst eg; subst eq
  refine lv_ldc2 (v := lI (-9000000000000000001)) hx hb hown (hts _ (u_in uk_2_181)) dL_refuses_397 ?_
  refine W.lcmp hx hb dL_refuses_400 ?_
  refine lv_if_ne (tgt := 577) hx hb dL_refuses_401 (by decide) (fun c9 => absurd (c_eq (a := (-9000000000000000001)) (b := (-9000000000000000001)) (by omega)) c9) (fun _ => ?_)
  refine lv_aload_n hx hb dL_refuses_404 rfl (lv_at hl 3 rfl) ?_
  refine lv_iconst (v := 0) hx hb dL_refuses_405 (by decide) ?_
  refine lv_iconst (v := 3) hx hb dL_refuses_406 (by decide) ?_
  refine sy_kl (vx_runSW (As := [.ref (ad 60), .int 0, .int 3]) (rest := []) ⟨hx, hb, hml, hown, hts⟩ (mL_transfer l hfl Z nT nK cT cK ad g q 0 3 hI) (vx_cwSW 3 hts (gu_S uk_3_228 uk_3_229 uk_1_0 uk_3_230) rfl rfl rfl (by decide +kernel) ⟨Nat.le_of_ble_eq_true rfl, Nat.le_of_ble_eq_true rfl⟩) ⟨sPreL_blind _, fun U hU hW => ⟨rfl, ⟨hE.next hS hU hW.alike, by rw [hU]; exact hP⟩, hNc.next hW.alike⟩⟩ rfl rfl hl.1 rfl (lv_room (Nat.le_of_ble_eq_true rfl)) dL_refuses_407 ⟨by show _ ≤ 134; (try dsimp only); omega, by show _ ≤ 1112; (try dsimp only); omega⟩) hS (fun r gz qz H locs e9 hP hS => ?_)
  obtain ⟨er, eg, eq⟩ := eq_n1 (f_transfer hI h0) e9
  subst er; subst eg; subst eq
  refine lv_ldc2 (v := lI (-9000000000000000001)) hx hb hown (hts _ (u_in uk_2_181)) dL_refuses_410 ?_
  refine W.lcmp hx hb dL_refuses_413 ?_
  refine lv_if_ne (tgt := 577) hx hb dL_refuses_414 (by decide) (fun c9 => absurd (c_eq (a := (-9000000000000000001)) (b := (-9000000000000000001)) (by omega)) c9) (fun _ => ?_)
  refine lv_aload_n hx hb dL_refuses_417 rfl (lv_at hl 3 rfl) ?_
  refine lv_iconst (v := (-1)) hx hb dL_refuses_418 (by decide) ?_
  refine sy_kl (vx_runSW (As := [.ref (ad 60), .int (-1)]) (rest := []) ⟨hx, hb, hml, hown, hts⟩ (mL_wind l hfl Z nT nK cT cK ad g q (-1) hI) (vx_cwSW 2 hts (gu_S uk_3_235 uk_3_236 uk_1_0 uk_3_237) rfl rfl rfl (by decide +kernel) ⟨Nat.le_of_ble_eq_true rfl, Nat.le_of_ble_eq_true rfl⟩) ⟨sPreL_blind _, fun U hU hW => ⟨rfl, ⟨hE.next hS hU hW.alike, by rw [hU]; exact hP⟩, hNc.next hW.alike⟩⟩ rfl rfl hl.1 rfl (lv_room (Nat.le_of_ble_eq_true rfl)) dL_refuses_419 ⟨by show _ ≤ 134; (try dsimp only); omega, by show _ ≤ 1112; (try dsimp only); omega⟩) hS (fun r gz qz H locs e9 hP hS => ?_)
  obtain ⟨er, eg, eq⟩ := eq_n1 f_wind e9
  subst er; subst eg; subst eq
  refine lv_ldc2 (v := lI (-9000000000000000001)) hx hb hown (hts _ (u_in uk_2_181)) dL_refuses_422 ?_
  refine W.lcmp hx hb dL_refuses_425 ?_
  refine lv_if_ne (tgt := 577) hx hb dL_refuses_426 (by decide) (fun c9 => absurd (c_eq (a := (-9000000000000000001)) (b := (-9000000000000000001)) (by omega)) c9) (fun _ => ?_)
  refine lv_aload_n hx hb dL_refuses_429 rfl (lv_at hl 3 rfl) ?_
  refine lv_iconst (v := 0) hx hb dL_refuses_430 (by decide) ?_
  refine sy_kl (vx_runSW (As := [.ref (ad 60), .int 0]) (rest := []) ⟨hx, hb, hml, hown, hts⟩ (mL_pass l hfl Z nT nK cT cK ad g q 0 hI) (vx_cwSW 2 hts (gu_S uk_4_2 uk_4_3 uk_1_0 uk_4_4) rfl rfl rfl (by decide +kernel) ⟨Nat.le_of_ble_eq_true rfl, Nat.le_of_ble_eq_true rfl⟩) ⟨sPreL_blind _, fun U hU hW => ⟨rfl, ⟨hE.next hS hU hW.alike, by rw [hU]; exact hP⟩, hNc.next hW.alike⟩⟩ rfl rfl hl.1 rfl (lv_room (Nat.le_of_ble_eq_true rfl)) dL_refuses_431 ⟨by show _ ≤ 134; (try dsimp only); omega, by show _ ≤ 1112; (try dsimp only); omega⟩) hS (fun r gz qz H locs e9 hP hS => ?_)
  obtain ⟨er, eg, eq⟩ := eq_n2 f_pass1 e9
  subst er; subst eg; subst eq
  refine lv_ldc2 (v := lI (-9000000000000000002)) hx hb hown (hts _ (u_in uk_2_182)) dL_refuses_434 ?_
  refine W.lcmp hx hb dL_refuses_437 ?_
  refine lv_if_ne (tgt := 577) hx hb dL_refuses_438 (by decide) (fun c9 => absurd (c_eq (a := (-9000000000000000002)) (b := (-9000000000000000002)) (by omega)) c9) (fun _ => ?_)
  refine lv_aload_n hx hb dL_refuses_441 rfl (lv_at hl 3 rfl) ?_
  refine lv_sipush (v := 401) hx hb dL_refuses_442 (by decide) ?_
  refine sy_kl (vx_runSW (As := [.ref (ad 60), .int 401]) (rest := []) ⟨hx, hb, hml, hown, hts⟩ (mL_pass l hfl Z nT nK cT cK ad g q 401 hI) (vx_cwSW 2 hts (gu_S uk_4_2 uk_4_3 uk_1_0 uk_4_4) rfl rfl rfl (by decide +kernel) ⟨Nat.le_of_ble_eq_true rfl, Nat.le_of_ble_eq_true rfl⟩) ⟨sPreL_blind _, fun U hU hW => ⟨rfl, ⟨hE.next hS hU hW.alike, by rw [hU]; exact hP⟩, hNc.next hW.alike⟩⟩ rfl rfl hl.1 rfl (lv_room (Nat.le_of_ble_eq_true rfl)) dL_refuses_445 ⟨by show _ ≤ 134; (try dsimp only); omega, by show _ ≤ 1112; (try dsimp only); omega⟩) hS (fun r gz qz H locs e9 hP hS => ?_)
  obtain ⟨er, eg, eq⟩ := eq_n2 f_pass2 e9
  subst er; subst eg; subst eq
  refine lv_ldc2 (v := lI (-9000000000000000002)) hx hb hown (hts _ (u_in uk_2_182)) dL_refuses_448 ?_
  refine W.lcmp hx hb dL_refuses_451 ?_
  refine lv_if_ne (tgt := 577) hx hb dL_refuses_452 (by decide) (fun c9 => absurd (c_eq (a := (-9000000000000000002)) (b := (-9000000000000000002)) (by omega)) c9) (fun _ => ?_)
  refine lv_aload_n hx hb dL_refuses_455 rfl (lv_at hl 3 rfl) ?_
  refine lv_bipush (v := 40) hx hb dL_refuses_456 (by decide) ?_
  refine lv_iconst (v := 0) hx hb dL_refuses_458 (by decide) ?_
  refine sy_kl (vx_runSW (As := [.ref (ad 60), .int 40, .int 0]) (rest := []) ⟨hx, hb, hml, hown, hts⟩ (mL_offer l hfl Z nT nK cT cK ad g q 40 0 hI) (vx_cwSW 3 hts (gu_S uk_4_167 uk_4_168 uk_1_0 uk_4_169) rfl rfl rfl (by decide +kernel) ⟨Nat.le_of_ble_eq_true rfl, Nat.le_of_ble_eq_true rfl⟩) ⟨sPreL_blind _, fun U hU hW => ⟨rfl, ⟨hE.next hS hU hW.alike, by rw [hU]; exact hP⟩, hNc.next hW.alike⟩⟩ rfl rfl hl.1 rfl (lv_room (Nat.le_of_ble_eq_true rfl)) dL_refuses_459 ⟨by show _ ≤ 134; (try dsimp only); omega, by show _ ≤ 1112; (try dsimp only); omega⟩) hS (fun r gz qz H locs e9 hP hS => ?_)
  obtain ⟨er, eg, eq⟩ := eq_n1 (f_offer hI) e9
  subst er; subst eg; subst eq
  refine lv_ldc2 (v := lI (-9000000000000000001)) hx hb hown (hts _ (u_in uk_2_181)) dL_refuses_462 ?_
  refine W.lcmp hx hb dL_refuses_465 ?_
  refine lv_if_ne (tgt := 577) hx hb dL_refuses_466 (by decide) (fun c9 => absurd (c_eq (a := (-9000000000000000001)) (b := (-9000000000000000001)) (by omega)) c9) (fun _ => ?_)
  refine lv_aload_n hx hb dL_refuses_469 rfl (lv_at hl 3 rfl) ?_
  refine lv_bipush (v := 40) hx hb dL_refuses_470 (by decide) ?_
  refine lv_iconst (v := 0) hx hb dL_refuses_472 (by decide) ?_
  refine sy_kl (vx_runSW (As := [.ref (ad 60), .int 40, .int 0]) (rest := []) ⟨hx, hb, hml, hown, hts⟩ (mL_claim l hfl Z nT nK cT cK ad g q 40 0 hI) (vx_cwSW 3 hts (gu_S uk_4_182 uk_4_183 uk_1_0 uk_4_184) rfl rfl rfl (by decide +kernel) ⟨Nat.le_of_ble_eq_true rfl, Nat.le_of_ble_eq_true rfl⟩) ⟨sPreL_blind _, fun U hU hW => ⟨rfl, ⟨hE.next hS hU hW.alike, by rw [hU]; exact hP⟩, hNc.next hW.alike⟩⟩ rfl rfl hl.1 rfl (lv_room (Nat.le_of_ble_eq_true rfl)) dL_refuses_473 ⟨by show _ ≤ 134; (try dsimp only); omega, by show _ ≤ 1112; (try dsimp only); omega⟩) hS (fun r gz qz H locs e9 hP hS => ?_)
  obtain ⟨er, eg, eq⟩ := eq_n1 (f_claim hI) e9
  subst er; subst eg; subst eq
  refine lv_ldc2 (v := lI (-9000000000000000001)) hx hb hown (hts _ (u_in uk_2_181)) dL_refuses_476 ?_
  refine W.lcmp hx hb dL_refuses_479 ?_
  refine lv_if_ne (tgt := 577) hx hb dL_refuses_480 (by decide) (fun c9 => absurd (c_eq (a := (-9000000000000000001)) (b := (-9000000000000000001)) (by omega)) c9) (fun _ => ?_)
  refine lv_aload_n hx hb dL_refuses_483 rfl (lv_at hl 3 rfl) ?_
  refine lv_iconst (v := 0) hx hb dL_refuses_484 (by decide) ?_
  refine sy_kl (vx_runSW (As := [.ref (ad 60), .int 0]) (rest := []) ⟨hx, hb, hml, hown, hts⟩ (mL_deposit l hfl Z nT nK cT cK ad g q 0 hI) (vx_cwSW 2 hts (gu_S uk_4_38 uk_4_39 uk_1_0 uk_4_40) rfl rfl rfl (by decide +kernel) ⟨Nat.le_of_ble_eq_true rfl, Nat.le_of_ble_eq_true rfl⟩) ⟨sPreL_blind _, fun U hU hW => ⟨rfl, ⟨hE.next hS hU hW.alike, by rw [hU]; exact hP⟩, hNc.next hW.alike⟩⟩ rfl rfl hl.1 rfl (lv_room (Nat.le_of_ble_eq_true rfl)) dL_refuses_485 ⟨by show _ ≤ 134; (try dsimp only); omega, by show _ ≤ 1112; (try dsimp only); omega⟩) hS (fun r gz qz H locs e9 hP hS => ?_)
  obtain ⟨er, eg, eq⟩ := eq_n2 f_deposit e9
  subst er; subst eg; subst eq
  refine lv_ldc2 (v := lI (-9000000000000000002)) hx hb hown (hts _ (u_in uk_2_182)) dL_refuses_488 ?_
  refine W.lcmp hx hb dL_refuses_491 ?_
  refine lv_if_ne (tgt := 577) hx hb dL_refuses_492 (by decide) (fun c9 => absurd (c_eq (a := (-9000000000000000002)) (b := (-9000000000000000002)) (by omega)) c9) (fun _ => ?_)
  refine lv_aload_n hx hb dL_refuses_495 rfl (lv_at hl 3 rfl) ?_
  refine lv_ldc (v := 100001) hx hb hown (hts _ (u_in uk_4_189)) dL_refuses_496 ?_
  refine sy_kl (vx_runSW (As := [.ref (ad 60), .int 100001]) (rest := []) ⟨hx, hb, hml, hown, hts⟩ (mL_withdraw l hfl Z nT nK cT cK ad g q 100001 hI) (vx_cwSW 2 hts (gu_S uk_4_190 uk_4_191 uk_1_0 uk_4_192) rfl rfl rfl (by decide +kernel) ⟨Nat.le_of_ble_eq_true rfl, Nat.le_of_ble_eq_true rfl⟩) ⟨sPreL_blind _, fun U hU hW => ⟨rfl, ⟨hE.next hS hU hW.alike, by rw [hU]; exact hP⟩, hNc.next hW.alike⟩⟩ rfl rfl hl.1 rfl (lv_room (Nat.le_of_ble_eq_true rfl)) dL_refuses_498 ⟨by show _ ≤ 134; (try dsimp only); omega, by show _ ≤ 1112; (try dsimp only); omega⟩) hS (fun r gz qz H locs e9 hP hS => ?_)
  obtain ⟨er, eg, eq⟩ := eq_n2 f_withdraw e9
  subst er; subst eg; subst eq
  refine lv_ldc2 (v := lI (-9000000000000000002)) hx hb hown (hts _ (u_in uk_2_182)) dL_refuses_501 ?_
  refine W.lcmp hx hb dL_refuses_504 ?_
  refine lv_if_ne (tgt := 577) hx hb dL_refuses_505 (by decide) (fun c9 => absurd (c_eq (a := (-9000000000000000002)) (b := (-9000000000000000002)) (by omega)) c9) (fun _ => ?_)
  refine lv_aload_n hx hb dL_refuses_508 rfl (lv_at hl 3 rfl) ?_
  refine lv_ldc (v := 100000) hx hb hown (hts _ (u_in uk_4_197)) dL_refuses_509 ?_
  refine sy_kl (vx_runSW (As := [.ref (ad 60), .int 100000]) (rest := []) ⟨hx, hb, hml, hown, hts⟩ (mL_withdraw l hfl Z nT nK cT cK ad g q 100000 hI) (vx_cwSW 2 hts (gu_S uk_4_190 uk_4_191 uk_1_0 uk_4_192) rfl rfl rfl (by decide +kernel) ⟨Nat.le_of_ble_eq_true rfl, Nat.le_of_ble_eq_true rfl⟩) ⟨sPreL_blind _, fun U hU hW => ⟨rfl, ⟨hE.next hS hU hW.alike, by rw [hU]; exact hP⟩, hNc.next hW.alike⟩⟩ rfl rfl hl.1 rfl (lv_room (Nat.le_of_ble_eq_true rfl)) dL_refuses_511 ⟨by show _ ≤ 134; (try dsimp only); omega, by show _ ≤ 1112; (try dsimp only); omega⟩) hS (fun r g1 q1 H locs e9 hP hS => ?_)
  rcases (p_withdraw (a := 100000) hI hn (by decide)) with hw | ⟨h1, h2, h3, h4⟩
  · skip
    obtain ⟨er, eg, eq⟩ := eq_n3 hw e9
    subst er; subst eg; subst eq
    refine lv_ldc2 (v := lI (-9000000000000000003)) hx hb hown (hts _ (u_in uk_2_183)) dL_refuses_514 ?_
    refine W.lcmp hx hb dL_refuses_517 ?_
    refine lv_if_lt (tgt := 577) hx hb dL_refuses_518 (by decide) (fun c9 => absurd c9 (c_ge (a := (-9000000000000000003)) (b := (-9000000000000000003)) (by omega) (by omega) (by omega))) (fun _ => ?_)
    refine lv_aload_n hx hb dL_refuses_521 rfl (lv_at hl 3 rfl) ?_
    refine lv_iconst (v := 0) hx hb dL_refuses_522 (by decide) ?_
    refine lv_bipush (v := 7) hx hb dL_refuses_523 (by decide) ?_
    refine sy_kl (vx_runSW (As := [.ref (ad 60), .int 0, .int 7]) (rest := []) ⟨hx, hb, hml, hown, hts⟩ (mL_thingOf l hfl Z nT nK cT cK ad g q 0 7 hI) (vx_cwSW 3 hts (gu_S uk_4_46 uk_4_47 uk_1_0 uk_4_48) rfl rfl rfl (by decide +kernel) ⟨Nat.le_of_ble_eq_true rfl, Nat.le_of_ble_eq_true rfl⟩) ⟨sPreL_blind _, fun U hU hW => ⟨rfl, ⟨hE.next hS hU hW.alike, by rw [hU]; exact hP⟩, hNc.next hW.alike⟩⟩ rfl rfl hl.1 rfl (lv_room (Nat.le_of_ble_eq_true rfl)) dL_refuses_525 ⟨by show _ ≤ 134; (try dsimp only); omega, by show _ ≤ 1112; (try dsimp only); omega⟩) hS (fun r gz qz H locs e9 hP hS => ?_)
    obtain ⟨er, eg, eq⟩ := eq_n2 (f_thingOf hI h0) e9
    subst er; subst eg; subst eq
    refine lv_ldc2 (v := lI (-9000000000000000002)) hx hb hown (hts _ (u_in uk_2_182)) dL_refuses_528 ?_
    refine W.lcmp hx hb dL_refuses_531 ?_
    refine lv_if_ne (tgt := 577) hx hb dL_refuses_532 (by decide) (fun c9 => absurd (c_eq (a := (-9000000000000000002)) (b := (-9000000000000000002)) (by omega)) c9) (fun _ => ?_)
    refine lv_aload_n hx hb dL_refuses_535 rfl (lv_at hl 3 rfl) ?_
    refine lv_iconst (v := 0) hx hb dL_refuses_536 (by decide) ?_
    refine lv_iconst (v := 3) hx hb dL_refuses_537 (by decide) ?_
    refine sy_kl (vx_runSW (As := [.ref (ad 60), .int 0, .int 3]) (rest := []) ⟨hx, hb, hml, hown, hts⟩ (mL_expertOf l hfl Z nT nK cT cK ad g q 0 3 hI) (vx_cwSW 3 hts (gu_S uk_4_198 uk_4_199 uk_1_0 uk_4_200) rfl rfl rfl (by decide +kernel) ⟨Nat.le_of_ble_eq_true rfl, Nat.le_of_ble_eq_true rfl⟩) ⟨sPreL_blind _, fun U hU hW => ⟨rfl, ⟨hE.next hS hU hW.alike, by rw [hU]; exact hP⟩, hNc.next hW.alike⟩⟩ rfl rfl hl.1 rfl (lv_room (Nat.le_of_ble_eq_true rfl)) dL_refuses_538 ⟨by show _ ≤ 134; (try dsimp only); omega, by show _ ≤ 1112; (try dsimp only); omega⟩) hS (fun r gz qz H locs e9 hP hS => ?_)
    obtain ⟨er, eg, eq⟩ := eq_n2 f_expertOf e9
    subst er; subst eg; subst eq
    refine lv_ldc2 (v := lI (-9000000000000000002)) hx hb hown (hts _ (u_in uk_2_182)) dL_refuses_541 ?_
    refine W.lcmp hx hb dL_refuses_544 ?_
    refine lv_if_ne (tgt := 577) hx hb dL_refuses_545 (by decide) (fun c9 => absurd (c_eq (a := (-9000000000000000002)) (b := (-9000000000000000002)) (by omega)) c9) (fun _ => ?_)
    refine lv_aload_n hx hb dL_refuses_548 rfl (lv_at hl 3 rfl) ?_
    refine lv_iconst (v := 0) hx hb dL_refuses_549 (by decide) ?_
    refine lv_iconst (v := 4) hx hb dL_refuses_550 (by decide) ?_
    refine sy_kl (vx_runSW (As := [.ref (ad 60), .int 0, .int 4]) (rest := []) ⟨hx, hb, hml, hown, hts⟩ (mL_bears l hfl Z nT nK cT cK ad g q 0 4 hI) (vx_cwSW 3 hts (gu_S uk_4_100 uk_4_101 uk_1_0 uk_4_102) rfl rfl rfl (by decide +kernel) ⟨Nat.le_of_ble_eq_true rfl, Nat.le_of_ble_eq_true rfl⟩) ⟨sPreL_blind _, fun U hU hW => ⟨rfl, ⟨hE.next hS hU hW.alike, by rw [hU]; exact hP⟩, hNc.next hW.alike⟩⟩ rfl rfl hl.1 rfl (lv_room (Nat.le_of_ble_eq_true rfl)) dL_refuses_551 ⟨by show _ ≤ 134; (try dsimp only); omega, by show _ ≤ 1112; (try dsimp only); omega⟩) hS (fun r gz qz H locs e9 hP hS => ?_)
    obtain ⟨er, eg, eq⟩ := eq_n1 f_bears e9
    subst er; subst eg; subst eq
    refine lv_ldc2 (v := lI (-9000000000000000001)) hx hb hown (hts _ (u_in uk_2_181)) dL_refuses_554 ?_
    refine W.lcmp hx hb dL_refuses_557 ?_
    refine lv_if_ne (tgt := 577) hx hb dL_refuses_558 (by decide) (fun c9 => absurd (c_eq (a := (-9000000000000000001)) (b := (-9000000000000000001)) (by omega)) c9) (fun _ => ?_)
    refine lv_aload_n hx hb dL_refuses_561 rfl (lv_at hl 3 rfl) ?_
    refine lv_iconst (v := 4) hx hb dL_refuses_562 (by decide) ?_
    refine sy_kl (vx_runSW (As := [.ref (ad 60), .int 4]) (rest := []) ⟨hx, hb, hml, hown, hts⟩ (mL_money l hfl Z nT nK cT cK ad g q 4 hI) (vx_cwSW 2 hts (gu_S uk_4_88 uk_4_89 uk_1_0 uk_4_90) rfl rfl rfl (by decide +kernel) ⟨Nat.le_of_ble_eq_true rfl, Nat.le_of_ble_eq_true rfl⟩) ⟨sPreL_blind _, fun U hU hW => ⟨rfl, ⟨hE.next hS hU hW.alike, by rw [hU]; exact hP⟩, hNc.next hW.alike⟩⟩ rfl rfl hl.1 rfl (lv_room (Nat.le_of_ble_eq_true rfl)) dL_refuses_563 ⟨by show _ ≤ 134; (try dsimp only); omega, by show _ ≤ 1112; (try dsimp only); omega⟩) hS (fun r gz qz H locs e9 hP hS => ?_)
    obtain ⟨er, eg, eq⟩ := eq_n2 f_money e9
    subst er; subst eg; subst eq
    refine lv_ldc2 (v := lI (-9000000000000000002)) hx hb hown (hts _ (u_in uk_2_182)) dL_refuses_566 ?_
    refine W.lcmp hx hb dL_refuses_569 ?_
    refine lv_if_ne (tgt := 577) hx hb dL_refuses_570 (by decide) (fun c9 => absurd (c_eq (a := (-9000000000000000002)) (b := (-9000000000000000002)) (by omega)) c9) (fun _ => ?_)
    refine lv_iconst (v := 1) hx hb dL_refuses_573 (by decide) ?_
    refine lv_goto (tgt := 578) hx hb dL_refuses_574 (by decide) ?_
    refine lv_istore (lv' := [(4, .int 1), (2, .long (lI ((g 68 0).toInt))), (1, .int (g 60 9)), (0, .ref (ad 60))]) hx hb dL_refuses_578 hl (by decide) rfl (fun ls hl => ?_)
    refine lv_iload hx hb dL_refuses_580 (lv_at hl 0 rfl) ?_
    refine lv_if_eq (tgt := 621) hx hb dL_refuses_582 (by decide) (fun c9 => absurd c9 (by decide)) (fun _ => ?_)
    refine lv_aload_n hx hb dL_refuses_585 rfl (lv_at hl 3 rfl) ?_
    refine sy_ki (sy_rV (o := 60) (As := []) (rest := []) ⟨hx, hb, hml, hown, hts⟩ hE hP hS (mX6_day l hfl Z nT nK cT cK ad g q (by have := ci_T hI; omega) (ci_IG hI) (ci_IQ hI)) (cwV 0 hts (gu_V uk_1_183 uk_1_184 uk_1_185 uk_1_1 uk_1_186) rfl rfl rfl (by decide +kernel) ⟨Nat.le_of_ble_eq_true rfl, Nat.le_of_ble_eq_true rfl⟩) (sy_recv (kc := 7) hE hP rfl (by decide) rfl rfl rfl) rfl hl.1 rfl (Nat.le_of_ble_eq_true rfl) dL_refuses_586 ⟨by show _ ≤ 134; (try dsimp only); omega, by show _ ≤ 1112; (try dsimp only); omega⟩) hS (fun r gz qz H locs e9 hP hS => ?_)
    obtain ⟨er, eg, eq⟩ : g 60 9 = r ∧ g = gz ∧ q = qz := by rw [show fX6_day g q = g 60 9 from rfl] at e9; cases e9; exact ⟨rfl, rfl, rfl⟩
    subst er; subst eg; subst eq
    refine lv_iload_n hx hb dL_refuses_589 rfl (lv_at hl 2 rfl) ?_
    refine lv_icmp_ne (tgt := 621) hx hb dL_refuses_590 (by decide) (fun c9 => absurd rfl c9) (fun _ => ?_)
    refine lv_aload_n hx hb dL_refuses_593 rfl (lv_at hl 3 rfl) ?_
    refine lv_iconst (v := 0) hx hb dL_refuses_594 (by decide) ?_
    refine sy_kl (vx_runSW (As := [.ref (ad 60), .int 0]) (rest := []) ⟨hx, hb, hml, hown, hts⟩ (mL_money l hfl Z nT nK cT cK ad g q 0 hI) (vx_cwSW 2 hts (gu_S uk_4_88 uk_4_89 uk_1_0 uk_4_90) rfl rfl rfl (by decide +kernel) ⟨Nat.le_of_ble_eq_true rfl, Nat.le_of_ble_eq_true rfl⟩) ⟨sPreL_blind _, fun U hU hW => ⟨rfl, ⟨hE.next hS hU hW.alike, by rw [hU]; exact hP⟩, hNc.next hW.alike⟩⟩ rfl rfl hl.1 rfl (lv_room (Nat.le_of_ble_eq_true rfl)) dL_refuses_595 ⟨by show _ ≤ 134; (try dsimp only); omega, by show _ ≤ 1112; (try dsimp only); omega⟩) hS (fun r gz qz H locs e9 hP hS => ?_)
    obtain ⟨er, eg, eq⟩ := eq_q (z := (g 68 0).toInt) a_M.1 rfl e9
    subst er; subst eg; subst eq
    refine lv_lload_n hx hb dL_refuses_598 rfl (lv_at hl 1 rfl) ?_
    refine W.lcmp hx hb dL_refuses_599 ?_
    refine lv_if_eq (tgt := 617) hx hb dL_refuses_600 (by decide) (fun _ => ?_) (fun c9 => absurd (c_eq (a := (g 68 0).toInt) (b := (g 68 0).toInt) (by omega)) c9)
    refine lv_iconst (v := 1) hx hb dL_refuses_617 (by decide) ?_
    refine lv_goto (tgt := 622) hx hb dL_refuses_618 (by decide) ?_
    exact sy_iretz hx hb hr hlocks hE hP hS dL_refuses_622 ⟨by (try dsimp only); omega, by (try dsimp only); omega⟩ (by decide) ⟨rfl, hI⟩
  · skip
    obtain ⟨er, eg, eq⟩ := eq_y (z := (fX6_withdraw g q (nI 100000)).2.1.toInt) h1 rfl e9
    have bv := i32b (fX6_withdraw g q (nI 100000)).2.1
    subst er
    rw [eg, eq] at h2
    rw [eg] at h3 h4
    have hI := h2
    clear eg eq e9 h1
    refine lv_ldc2 (v := lI (-9000000000000000003)) hx hb hown (hts _ (u_in uk_2_183)) dL_refuses_514 ?_
    refine W.lcmp hx hb dL_refuses_517 ?_
    refine lv_if_lt (tgt := 577) hx hb dL_refuses_518 (by decide) (fun c9 => absurd c9 (c_ge (a := (fX6_withdraw g q (nI 100000)).2.1.toInt) (b := (-9000000000000000003)) (by omega) (by omega) (by omega))) (fun _ => ?_)
    refine lv_aload_n hx hb dL_refuses_521 rfl (lv_at hl 3 rfl) ?_
    refine lv_iconst (v := 0) hx hb dL_refuses_522 (by decide) ?_
    refine lv_bipush (v := 7) hx hb dL_refuses_523 (by decide) ?_
    refine sy_kl (vx_runSW (As := [.ref (ad 60), .int 0, .int 7]) (rest := []) ⟨hx, hb, hml, hown, hts⟩ (mL_thingOf l hfl Z nT nK cT cK ad g1 q1 0 7 hI) (vx_cwSW 3 hts (gu_S uk_4_46 uk_4_47 uk_1_0 uk_4_48) rfl rfl rfl (by decide +kernel) ⟨Nat.le_of_ble_eq_true rfl, Nat.le_of_ble_eq_true rfl⟩) ⟨sPreL_blind _, fun U hU hW => ⟨rfl, ⟨hE.next hS hU hW.alike, by rw [hU]; exact hP⟩, hNc.next hW.alike⟩⟩ rfl rfl hl.1 rfl (lv_room (Nat.le_of_ble_eq_true rfl)) dL_refuses_525 ⟨by show _ ≤ 134; (try dsimp only); omega, by show _ ≤ 1112; (try dsimp only); omega⟩) hS (fun r gz qz H locs e9 hP hS => ?_)
    obtain ⟨er, eg, eq⟩ := eq_n2 (f_thingOf hI h0) e9
    subst er; subst eg; subst eq
    refine lv_ldc2 (v := lI (-9000000000000000002)) hx hb hown (hts _ (u_in uk_2_182)) dL_refuses_528 ?_
    refine W.lcmp hx hb dL_refuses_531 ?_
    refine lv_if_ne (tgt := 577) hx hb dL_refuses_532 (by decide) (fun c9 => absurd (c_eq (a := (-9000000000000000002)) (b := (-9000000000000000002)) (by omega)) c9) (fun _ => ?_)
    refine lv_aload_n hx hb dL_refuses_535 rfl (lv_at hl 3 rfl) ?_
    refine lv_iconst (v := 0) hx hb dL_refuses_536 (by decide) ?_
    refine lv_iconst (v := 3) hx hb dL_refuses_537 (by decide) ?_
    refine sy_kl (vx_runSW (As := [.ref (ad 60), .int 0, .int 3]) (rest := []) ⟨hx, hb, hml, hown, hts⟩ (mL_expertOf l hfl Z nT nK cT cK ad g1 q1 0 3 hI) (vx_cwSW 3 hts (gu_S uk_4_198 uk_4_199 uk_1_0 uk_4_200) rfl rfl rfl (by decide +kernel) ⟨Nat.le_of_ble_eq_true rfl, Nat.le_of_ble_eq_true rfl⟩) ⟨sPreL_blind _, fun U hU hW => ⟨rfl, ⟨hE.next hS hU hW.alike, by rw [hU]; exact hP⟩, hNc.next hW.alike⟩⟩ rfl rfl hl.1 rfl (lv_room (Nat.le_of_ble_eq_true rfl)) dL_refuses_538 ⟨by show _ ≤ 134; (try dsimp only); omega, by show _ ≤ 1112; (try dsimp only); omega⟩) hS (fun r gz qz H locs e9 hP hS => ?_)
    obtain ⟨er, eg, eq⟩ := eq_n2 f_expertOf e9
    subst er; subst eg; subst eq
    refine lv_ldc2 (v := lI (-9000000000000000002)) hx hb hown (hts _ (u_in uk_2_182)) dL_refuses_541 ?_
    refine W.lcmp hx hb dL_refuses_544 ?_
    refine lv_if_ne (tgt := 577) hx hb dL_refuses_545 (by decide) (fun c9 => absurd (c_eq (a := (-9000000000000000002)) (b := (-9000000000000000002)) (by omega)) c9) (fun _ => ?_)
    refine lv_aload_n hx hb dL_refuses_548 rfl (lv_at hl 3 rfl) ?_
    refine lv_iconst (v := 0) hx hb dL_refuses_549 (by decide) ?_
    refine lv_iconst (v := 4) hx hb dL_refuses_550 (by decide) ?_
    refine sy_kl (vx_runSW (As := [.ref (ad 60), .int 0, .int 4]) (rest := []) ⟨hx, hb, hml, hown, hts⟩ (mL_bears l hfl Z nT nK cT cK ad g1 q1 0 4 hI) (vx_cwSW 3 hts (gu_S uk_4_100 uk_4_101 uk_1_0 uk_4_102) rfl rfl rfl (by decide +kernel) ⟨Nat.le_of_ble_eq_true rfl, Nat.le_of_ble_eq_true rfl⟩) ⟨sPreL_blind _, fun U hU hW => ⟨rfl, ⟨hE.next hS hU hW.alike, by rw [hU]; exact hP⟩, hNc.next hW.alike⟩⟩ rfl rfl hl.1 rfl (lv_room (Nat.le_of_ble_eq_true rfl)) dL_refuses_551 ⟨by show _ ≤ 134; (try dsimp only); omega, by show _ ≤ 1112; (try dsimp only); omega⟩) hS (fun r gz qz H locs e9 hP hS => ?_)
    obtain ⟨er, eg, eq⟩ := eq_n1 f_bears e9
    subst er; subst eg; subst eq
    refine lv_ldc2 (v := lI (-9000000000000000001)) hx hb hown (hts _ (u_in uk_2_181)) dL_refuses_554 ?_
    refine W.lcmp hx hb dL_refuses_557 ?_
    refine lv_if_ne (tgt := 577) hx hb dL_refuses_558 (by decide) (fun c9 => absurd (c_eq (a := (-9000000000000000001)) (b := (-9000000000000000001)) (by omega)) c9) (fun _ => ?_)
    refine lv_aload_n hx hb dL_refuses_561 rfl (lv_at hl 3 rfl) ?_
    refine lv_iconst (v := 4) hx hb dL_refuses_562 (by decide) ?_
    refine sy_kl (vx_runSW (As := [.ref (ad 60), .int 4]) (rest := []) ⟨hx, hb, hml, hown, hts⟩ (mL_money l hfl Z nT nK cT cK ad g1 q1 4 hI) (vx_cwSW 2 hts (gu_S uk_4_88 uk_4_89 uk_1_0 uk_4_90) rfl rfl rfl (by decide +kernel) ⟨Nat.le_of_ble_eq_true rfl, Nat.le_of_ble_eq_true rfl⟩) ⟨sPreL_blind _, fun U hU hW => ⟨rfl, ⟨hE.next hS hU hW.alike, by rw [hU]; exact hP⟩, hNc.next hW.alike⟩⟩ rfl rfl hl.1 rfl (lv_room (Nat.le_of_ble_eq_true rfl)) dL_refuses_563 ⟨by show _ ≤ 134; (try dsimp only); omega, by show _ ≤ 1112; (try dsimp only); omega⟩) hS (fun r gz qz H locs e9 hP hS => ?_)
    obtain ⟨er, eg, eq⟩ := eq_n2 f_money e9
    subst er; subst eg; subst eq
    refine lv_ldc2 (v := lI (-9000000000000000002)) hx hb hown (hts _ (u_in uk_2_182)) dL_refuses_566 ?_
    refine W.lcmp hx hb dL_refuses_569 ?_
    refine lv_if_ne (tgt := 577) hx hb dL_refuses_570 (by decide) (fun c9 => absurd (c_eq (a := (-9000000000000000002)) (b := (-9000000000000000002)) (by omega)) c9) (fun _ => ?_)
    refine lv_iconst (v := 1) hx hb dL_refuses_573 (by decide) ?_
    refine lv_goto (tgt := 578) hx hb dL_refuses_574 (by decide) ?_
    refine lv_istore (lv' := [(4, .int 1), (2, .long (lI ((g 68 0).toInt))), (1, .int (g 60 9)), (0, .ref (ad 60))]) hx hb dL_refuses_578 hl (by decide) rfl (fun ls hl => ?_)
    refine lv_iload hx hb dL_refuses_580 (lv_at hl 0 rfl) ?_
    refine lv_if_eq (tgt := 621) hx hb dL_refuses_582 (by decide) (fun c9 => absurd c9 (by decide)) (fun _ => ?_)
    refine lv_aload_n hx hb dL_refuses_585 rfl (lv_at hl 3 rfl) ?_
    refine sy_ki (sy_rV (o := 60) (As := []) (rest := []) ⟨hx, hb, hml, hown, hts⟩ hE hP hS (mX6_day l hfl Z nT nK cT cK ad g1 q1 (by have := ci_T hI; omega) (ci_IG hI) (ci_IQ hI)) (cwV 0 hts (gu_V uk_1_183 uk_1_184 uk_1_185 uk_1_1 uk_1_186) rfl rfl rfl (by decide +kernel) ⟨Nat.le_of_ble_eq_true rfl, Nat.le_of_ble_eq_true rfl⟩) (sy_recv (kc := 7) hE hP rfl (by decide) rfl rfl rfl) rfl hl.1 rfl (Nat.le_of_ble_eq_true rfl) dL_refuses_586 ⟨by show _ ≤ 134; (try dsimp only); omega, by show _ ≤ 1112; (try dsimp only); omega⟩) hS (fun r gz qz H locs e9 hP hS => ?_)
    obtain ⟨er, eg, eq⟩ : g1 60 9 = r ∧ g1 = gz ∧ q1 = qz := by rw [show fX6_day g1 q1 = g1 60 9 from rfl] at e9; cases e9; exact ⟨rfl, rfl, rfl⟩
    subst er; subst eg; subst eq
    refine lv_iload_n hx hb dL_refuses_589 rfl (lv_at hl 2 rfl) ?_
    refine lv_icmp_ne (tgt := 621) hx hb dL_refuses_590 (by decide) (fun c9 => absurd h4 c9) (fun _ => ?_)
    refine lv_aload_n hx hb dL_refuses_593 rfl (lv_at hl 3 rfl) ?_
    refine lv_iconst (v := 0) hx hb dL_refuses_594 (by decide) ?_
    refine sy_kl (vx_runSW (As := [.ref (ad 60), .int 0]) (rest := []) ⟨hx, hb, hml, hown, hts⟩ (mL_money l hfl Z nT nK cT cK ad g1 q1 0 hI) (vx_cwSW 2 hts (gu_S uk_4_88 uk_4_89 uk_1_0 uk_4_90) rfl rfl rfl (by decide +kernel) ⟨Nat.le_of_ble_eq_true rfl, Nat.le_of_ble_eq_true rfl⟩) ⟨sPreL_blind _, fun U hU hW => ⟨rfl, ⟨hE.next hS hU hW.alike, by rw [hU]; exact hP⟩, hNc.next hW.alike⟩⟩ rfl rfl hl.1 rfl (lv_room (Nat.le_of_ble_eq_true rfl)) dL_refuses_595 ⟨by show _ ≤ 134; (try dsimp only); omega, by show _ ≤ 1112; (try dsimp only); omega⟩) hS (fun r gz qz H locs e9 hP hS => ?_)
    obtain ⟨er, eg, eq⟩ := eq_q (z := (g1 68 0).toInt) a_M.1 rfl e9
    subst er; subst eg; subst eq
    have b1 := i32b (g1 68 0)
    refine lv_lload_n hx hb dL_refuses_598 rfl (lv_at hl 1 rfl) ?_
    refine W.lcmp hx hb dL_refuses_599 ?_
    refine lv_if_eq (tgt := 617) hx hb dL_refuses_600 (by decide) (fun c9 => absurd c9 (c_ne (a := (g1 68 0).toInt) (b := (g 68 0).toInt) (by omega) (by omega) (by omega))) (fun _ => ?_)
    refine lv_aload_n hx hb dL_refuses_603 rfl (lv_at hl 3 rfl) ?_
    refine lv_iconst (v := 0) hx hb dL_refuses_604 (by decide) ?_
    refine sy_kl (vx_runSW (As := [.ref (ad 60), .int 0]) (rest := []) ⟨hx, hb, hml, hown, hts⟩ (mL_money l hfl Z nT nK cT cK ad g1 q1 0 hI) (vx_cwSW 2 hts (gu_S uk_4_88 uk_4_89 uk_1_0 uk_4_90) rfl rfl rfl (by decide +kernel) ⟨Nat.le_of_ble_eq_true rfl, Nat.le_of_ble_eq_true rfl⟩) ⟨sPreL_blind _, fun U hU hW => ⟨rfl, ⟨hE.next hS hU hW.alike, by rw [hU]; exact hP⟩, hNc.next hW.alike⟩⟩ rfl rfl hl.1 rfl (lv_room (Nat.le_of_ble_eq_true rfl)) dL_refuses_605 ⟨by show _ ≤ 134; (try dsimp only); omega, by show _ ≤ 1112; (try dsimp only); omega⟩) hS (fun r gz qz H locs e9 hP hS => ?_)
    obtain ⟨er, eg, eq⟩ := eq_q (z := (g1 68 0).toInt) a_M.1 rfl e9
    subst er; subst eg; subst eq
    refine lv_lload_n hx hb dL_refuses_608 rfl (lv_at hl 1 rfl) ?_
    refine lv_ldc2 (v := lI (100000)) hx hb hown (hts _ (u_in uk_4_205)) dL_refuses_609 ?_
    refine lv_lsub hx hb dL_refuses_612 ?_
    refine sy_topL (y := lI ((g 68 0).toInt - (100000))) (lI_sub _ _) ?_
    refine W.lcmp hx hb dL_refuses_613 ?_
    refine lv_if_ne (tgt := 621) hx hb dL_refuses_614 (by decide) (fun c9 => absurd (c_eq (a := (g1 68 0).toInt) (b := ((g 68 0).toInt - (100000))) (by omega)) c9) (fun _ => ?_)
    refine lv_iconst (v := 1) hx hb dL_refuses_617 (by decide) ?_
    refine lv_goto (tgt := 622) hx hb dL_refuses_618 (by decide) ?_
    exact sy_iretz hx hb hr hlocks hE hP hS dL_refuses_622 ⟨by (try dsimp only); omega, by (try dsimp only); omega⟩ (by decide) ⟨rfl, hI⟩
