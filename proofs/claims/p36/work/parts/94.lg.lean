section LWC
variable {p : Program} {l : Launch} {e : Env} {s : State} {m : MethodId} {below : List Frame} {meth : Method} {c : Code} {b L : Nat} {xs : Nat → Int32} {Z : sZ}
set_option maxHeartbeats 8000000 in
set_option maxRecDepth 100000 in
theorem lc_G (hC : lCtx p l s m meth c b L xs Z) {k : Nat} (hk : k < 48) {nT nK cT cK : Nat} {ad : Nat → Nat} {g : sG} {q : sQ} {H : Heap} {locs : List Loc} {ls : Array Slot} {wh q9 c9 y : Nat} (hy : y < 2147483648) (hwh : wh = 11) (hT0 : 0 < nT) (hq9 : q9 < nT) (h : lSt Z s b k (k + 1) nT nK cT cK ad g q H locs ls [(11, .int (nI c9)), (10, .int (nI q9)), (9, .int (nI wh)), (8, .int (nI y))]) (hJ : ∀ (nT nK cT cK : Nat) (ad : Nat → Nat) (g : sG) (q : sQ) (H : Heap) (locs : List Loc) (ls : Array Slot), 0 < nT → lSt Z s b k (k + 2) nT nK cT cK ad g q H locs ls [] → W p l e room_1 s m #[Value.ref b] below meth c H locs (100 + 2000 * k + 100) (4000 + 14000 * k + 1000) (lw_Z below #[Value.ref b] s) (F0 m 1280 ls [])) : W p l e room_1 s m #[Value.ref b] below meth c H locs (100 + 2000 * k) (4000 + 14000 * k) (lw_Z below #[Value.ref b] s) (F0 m 133 ls []) := by
  obtain ⟨hx, hb, hr, hml, hown, hts, hX, hbl, hlocks, hZ, hE, hNc, hfl⟩ := hC
  obtain ⟨hP, hI, h70, h71, hS, hl⟩ := h
  have hl : lv_has ls 18 [(11, .int (nI c9)), (10, .int (nI q9)), (9, .int (nI wh)), (8, .int (nI y)), (6, .int (nI k)), (5, .int 1), (4, .int (nI nK)), (3, .int (nI nT)), (2, .ref (ad 90)), (1, .ref (ad 60)), (0, .ref b)] := hl
  have hT40 := ci_T hI
  have hK40 := ci_K hI
  refine lv_iload hx hb dL_law_133 (lv_at hl 2 rfl) ?_
  refine lv_iconst (v := 4) hx hb dL_law_135 (by decide) ?_
  refine lv_icmp_lt (tgt := 143) hx hb dL_law_136 (by decide) (fun cz9 => absurd cz9 (mt (nI_ltI (a := wh) (b := 4) (by omega) (by omega)).mp (by omega))) (fun _ => ?_)
  refine lv_iload_n hx hb dL_law_139 rfl (lv_at hl 7 rfl) ?_
  refine lv_if_ne (tgt := 377) hx hb dL_law_140 (by decide) (fun _ => ?_) (fun cz9 => absurd cz9 (mt (nI_eq (a := nT) (b := 0) (by omega) (by omega)).mp (by omega)))
  refine lv_iload hx hb dL_law_377 (lv_at hl 2 rfl) ?_
  refine lv_iconst (v := 4) hx hb dL_law_379 (by decide) ?_
  refine lv_icmp_ne (tgt := 506) hx hb dL_law_380 (by decide) (fun _ => ?_) (fun cz9 => absurd cz9 (mt (nI_eq (a := wh) (b := 4) (by omega) (by omega)).mp (by omega)))
  refine lv_iload hx hb dL_law_506 (lv_at hl 2 rfl) ?_
  refine lv_bipush (v := 8) hx hb dL_law_508 (by decide) ?_
  refine lv_icmp_ge (tgt := 539) hx hb dL_law_510 (by decide) (fun _ => ?_) (fun cz9 => absurd ((nI_leI (a := 8) (b := wh) (by omega) (by omega)).mpr (by omega)) cz9)
  refine lv_iload hx hb dL_law_539 (lv_at hl 2 rfl) ?_
  refine lv_bipush (v := 8) hx hb dL_law_541 (by decide) ?_
  refine lv_icmp_ne (tgt := 708) hx hb dL_law_543 (by decide) (fun _ => ?_) (fun cz9 => absurd cz9 (mt (nI_eq (a := wh) (b := 8) (by omega) (by omega)).mp (by omega)))
  refine lv_iload hx hb dL_law_708 (lv_at hl 2 rfl) ?_
  refine lv_bipush (v := 9) hx hb dL_law_710 (by decide) ?_
  refine lv_icmp_ne (tgt := 842) hx hb dL_law_712 (by decide) (fun _ => ?_) (fun cz9 => absurd cz9 (mt (nI_eq (a := wh) (b := 9) (by omega) (by omega)).mp (by omega)))
  refine lv_iload hx hb dL_law_842 (lv_at hl 2 rfl) ?_
  refine lv_bipush (v := 10) hx hb dL_law_844 (by decide) ?_
  refine lv_icmp_ne (tgt := 997) hx hb dL_law_846 (by decide) (fun _ => ?_) (fun cz9 => absurd cz9 (mt (nI_eq (a := wh) (b := 10) (by omega) (by omega)).mp (by omega)))
  refine lv_iload hx hb dL_law_997 (lv_at hl 2 rfl) ?_
  refine lv_bipush (v := 11) hx hb dL_law_999 (by decide) ?_
  refine lv_icmp_ne (tgt := 1082) hx hb dL_law_1001 (by decide) (fun cz9 => absurd ((nI_eq (a := wh) (b := 11) (by omega) (by omega)).mpr (by omega)) cz9) (fun _ => ?_)
  refine lv_aload_n hx hb dL_law_1004 rfl (lv_at hl 9 rfl) ?_
  refine lv_iload hx hb dL_law_1005 (lv_at hl 1 rfl) ?_
  refine lv_iload hx hb dL_law_1007 (lv_at hl 3 rfl) ?_
  refine lv_iconst (v := 3) hx hb dL_law_1009 (by decide) ?_
  refine lv_irem hx hb dL_law_1010 (by decide) ?_
  refine sy_top (y := nI (y % 3)) (nI_rem (a := y) (b := 3) (by omega) (by omega)) ?_
  refine sy_kl (vx_runSW (As := [.ref (ad 60), .int (nI q9), .int (nI (y % 3))]) (rest := []) ⟨hx, hb, hml, hown, hts⟩ (mL_transfer l hfl Z nT nK cT cK ad g q (nI q9) (nI (y % 3)) hI) (vx_cwSW 3 hts (gl_S uk_3_228 uk_3_229 uk_1_0 uk_3_230) rfl rfl rfl (by decide +kernel) ⟨Nat.le_of_ble_eq_true rfl, Nat.le_of_ble_eq_true rfl⟩) ⟨sPreL_blind _, fun U hU hW => ⟨rfl, ⟨hE.next hS hU hW.alike, by rw [hU]; exact hP⟩, hNc.next hW.alike⟩⟩ rfl rfl hl.1 rfl (lv_room (Nat.le_of_ble_eq_true rfl)) dL_law_1011 ⟨by show _ ≤ 600074; (try dsimp only); omega, by show _ ≤ 7301550; (try dsimp only); omega⟩) hS (fun r g1 q1 H locs e9 hP hS => ?_)
  rcases p_transfer hI hq9 (b := y % 3) (by omega) with hw | ⟨h1, hI2, s9, hs9, h2, h3⟩
  · skip
    obtain ⟨er, eg, eq⟩ := eq_n3 hw e9
    subst er; subst eg; subst eq
    refine lv_lstore (lv' := [(12, .long (lI (-9000000000000000003))), (11, .int (nI c9)), (10, .int (nI q9)), (9, .int (nI wh)), (8, .int (nI y)), (6, .int (nI k)), (5, .int 1), (4, .int (nI nK)), (3, .int (nI nT)), (2, .ref (ad 90)), (1, .ref (ad 60)), (0, .ref b)]) hx hb dL_law_1014 hl (by decide) rfl (fun ls hl => ?_)
    refine lv_lload hx hb dL_law_1016 (lv_at hl 0 rfl) ?_
    refine lv_ldc2 (v := lI (-9000000000000000003)) hx hb hown (hts _ (wsU_tbl uk_2_183)) dL_law_1018 ?_
    refine W.lcmp hx hb dL_law_1021 ?_
    refine lv_if_eq (tgt := 1046) hx hb dL_law_1022 (by decide) (fun _ => ?_) (fun cz9 => absurd (c_eq (a := (-9000000000000000003)) (b := (-9000000000000000003)) (by omega)) cz9)
    refine lv_iconst (v := 1) hx hb dL_law_1046 (by decide) ?_
    refine lv_goto (tgt := 1051) hx hb dL_law_1047 (by decide) ?_
    refine lv_istore (lv' := [(5, .int 1), (12, .long (lI (-9000000000000000003))), (11, .int (nI c9)), (10, .int (nI q9)), (9, .int (nI wh)), (8, .int (nI y)), (6, .int (nI k)), (4, .int (nI nK)), (3, .int (nI nT)), (2, .ref (ad 90)), (1, .ref (ad 60)), (0, .ref b)]) hx hb dL_law_1051 hl (by decide) rfl (fun ls hl => ?_)
    refine lv_iload hx hb dL_law_1053 (lv_at hl 0 rfl) ?_
    refine lv_if_eq (tgt := 1076) hx hb dL_law_1055 (by decide) (fun cz9 => absurd cz9 (by decide)) (fun _ => ?_)
    refine lv_aload_n hx hb dL_law_1058 rfl (lv_at hl 10 rfl) ?_
    refine lv_iload hx hb dL_law_1059 (lv_at hl 5 rfl) ?_
    refine lv_iconst (v := 3) hx hb dL_law_1061 (by decide) ?_
    refine lv_irem hx hb dL_law_1062 (by decide) ?_
    refine sy_top (y := nI (y % 3)) (nI_rem (a := y) (b := 3) (by omega) (by omega)) ?_
    refine sy_kl (vx_runSW (As := [.ref (ad 60), .int (nI (y % 3))]) (rest := []) ⟨hx, hb, hml, hown, hts⟩ (mL_wind l hfl Z nT nK cT cK ad g q (nI (y % 3)) hI) (vx_cwSW 2 hts (gl_S uk_3_235 uk_3_236 uk_1_0 uk_3_237) rfl rfl rfl (by decide +kernel) ⟨Nat.le_of_ble_eq_true rfl, Nat.le_of_ble_eq_true rfl⟩) ⟨sPreL_blind _, fun U hU hW => ⟨rfl, ⟨hE.next hS hU hW.alike, by rw [hU]; exact hP⟩, hNc.next hW.alike⟩⟩ rfl rfl hl.1 rfl (lv_room (Nat.le_of_ble_eq_true rfl)) dL_law_1063 ⟨by show _ ≤ 600074; (try dsimp only); omega, by show _ ≤ 7301550; (try dsimp only); omega⟩) hS (fun r g2 q2 H locs e9 hP hS => ?_)
    obtain ⟨n1, n2, hI3⟩ := p_wind hI (b := y % 3) (by omega)
    obtain ⟨zz, hzz⟩ : ∃ zz : Int, (fX6_wind g q (nI (y % 3))).2.1.toInt = zz := ⟨_, rfl⟩
    have bz : -2147483648 ≤ zz ∧ zz < 2147483648 := by rw [← hzz]; exact i32b _
    rw [hzz] at n2
    obtain ⟨er, eg, eq⟩ := eq_y (z := zz) n1 hzz e9
    subst er
    rw [eg, eq] at hI3
    have hI := hI3
    clear e9 eg eq
    refine lv_iload_n hx hb dL_law_1066 rfl (lv_at hl 8 rfl) ?_
    refine lv_i2l (v := lI ((nT : Nat) : Int)) hx hb dL_law_1067 (nI_L (by omega)) ?_
    refine W.lcmp hx hb dL_law_1068 ?_
    refine lv_if_gt (tgt := 1076) hx hb dL_law_1069 (by decide) (fun cz9 => absurd cz9 (c_le (a := zz) (b := ((nT : Nat) : Int)) (by omega) (by omega) (by omega))) (fun _ => ?_)
    refine lv_iconst (v := 1) hx hb dL_law_1072 (by decide) ?_
    refine lv_goto (tgt := 1077) hx hb dL_law_1073 (by decide) ?_
    refine lv_istore (lv' := [(5, .int 1), (12, .long (lI (-9000000000000000003))), (11, .int (nI c9)), (10, .int (nI q9)), (9, .int (nI wh)), (8, .int (nI y)), (6, .int (nI k)), (4, .int (nI nK)), (3, .int (nI nT)), (2, .ref (ad 90)), (1, .ref (ad 60)), (0, .ref b)]) hx hb dL_law_1077 hl (by decide) rfl (fun ls hl => ?_)
    refine lv_goto (tgt := 1280) hx hb dL_law_1079 (by decide) ?_
    refine W.widen (k := 100 + 2000 * k + 100) (n := 4000 + 14000 * k + 1000) (by (try dsimp only); omega) (by (try dsimp only); omega) ?_
    exact hJ _ _ _ _ _ _ _ _ _ _ (by omega) ⟨hP, (ci_n (by omega) hI), h70, h71, hS, lv_sub hl [6, 0, 7, 8, 9, 10, 11] rfl⟩
  · skip
    obtain ⟨er, eg, eq⟩ := eq_y (z := ((s9 : Nat) : Int)) h1 (by rw [h2]; exact nI_toInt (by omega)) e9
    subst er
    rw [eg, eq] at hI2
    rw [eg] at h3
    have hI := hI2
    clear e9
    refine lv_lstore (lv' := [(12, .long (lI ((s9 : Nat) : Int))), (11, .int (nI c9)), (10, .int (nI q9)), (9, .int (nI wh)), (8, .int (nI y)), (6, .int (nI k)), (5, .int 1), (4, .int (nI nK)), (3, .int (nI nT)), (2, .ref (ad 90)), (1, .ref (ad 60)), (0, .ref b)]) hx hb dL_law_1014 hl (by decide) rfl (fun ls hl => ?_)
    refine lv_lload hx hb dL_law_1016 (lv_at hl 0 rfl) ?_
    refine lv_ldc2 (v := lI (-9000000000000000003)) hx hb hown (hts _ (wsU_tbl uk_2_183)) dL_law_1018 ?_
    refine W.lcmp hx hb dL_law_1021 ?_
    refine lv_if_eq (tgt := 1046) hx hb dL_law_1022 (by decide) (fun cz9 => absurd cz9 (c_ne (a := ((s9 : Nat) : Int)) (b := (-9000000000000000003)) (by omega) (by omega) (by omega))) (fun _ => ?_)
    refine lv_aload_n hx hb dL_law_1025 rfl (lv_at hl 10 rfl) ?_
    refine lv_iload hx hb dL_law_1026 (lv_at hl 2 rfl) ?_
    refine lv_iconst (v := 4) hx hb dL_law_1028 (by decide) ?_
    refine sy_kl (vx_runSW (As := [.ref (ad 60), .int (nI q9), .int 4]) (rest := []) ⟨hx, hb, hml, hown, hts⟩ (mL_thingOf l hfl Z nT nK cT cK ad g1 q1 (nI q9) 4 hI) (vx_cwSW 3 hts (gl_S uk_4_46 uk_4_47 uk_1_0 uk_4_48) rfl rfl rfl (by decide +kernel) ⟨Nat.le_of_ble_eq_true rfl, Nat.le_of_ble_eq_true rfl⟩) ⟨sPreL_blind _, fun U hU hW => ⟨rfl, ⟨hE.next hS hU hW.alike, by rw [hU]; exact hP⟩, hNc.next hW.alike⟩⟩ rfl rfl hl.1 rfl (lv_room (Nat.le_of_ble_eq_true rfl)) dL_law_1029 ⟨by show _ ≤ 600074; (try dsimp only); omega, by show _ ≤ 7301550; (try dsimp only); omega⟩) hS (fun r gz qz H locs e9 hP hS => ?_)
    obtain ⟨er, eg, eq⟩ := eq_q (z := ((4 * (y % 3) + s9 : Nat) : Int)) (a_T hI hq9).2.2.1 (by rw [h3]; exact nI_toInt (by omega)) e9
    subst er; subst eg; subst eq
    refine lv_iconst (v := 4) hx hb dL_law_1032 (by decide) ?_
    refine lv_iload hx hb dL_law_1033 (lv_at hl 4 rfl) ?_
    refine lv_iconst (v := 3) hx hb dL_law_1035 (by decide) ?_
    refine lv_irem hx hb dL_law_1036 (by decide) ?_
    refine sy_top (y := nI (y % 3)) (nI_rem (a := y) (b := 3) (by omega) (by omega)) ?_
    refine lv_imul hx hb dL_law_1037 ?_
    refine sy_top (y := nI (4 * (y % 3))) (nI_mul 4 (y % 3)) ?_
    refine lv_i2l (v := lI (((4 * (y % 3)) : Nat) : Int)) hx hb dL_law_1038 (nI_L (by omega)) ?_
    refine lv_lload hx hb dL_law_1039 (lv_at hl 0 rfl) ?_
    refine lv_ladd hx hb dL_law_1041 ?_
    refine sy_topL (y := lI ((((4 * (y % 3)) : Nat) : Int) + ((s9 : Nat) : Int))) (lI_add _ _) ?_
    refine W.lcmp hx hb dL_law_1042 ?_
    refine lv_if_ne (tgt := 1050) hx hb dL_law_1043 (by decide) (fun cz9 => absurd (c_eq (a := ((4 * (y % 3) + s9 : Nat) : Int)) (b := ((((4 * (y % 3)) : Nat) : Int) + ((s9 : Nat) : Int))) (by omega)) cz9) (fun _ => ?_)
    refine lv_iconst (v := 1) hx hb dL_law_1046 (by decide) ?_
    refine lv_goto (tgt := 1051) hx hb dL_law_1047 (by decide) ?_
    refine lv_istore (lv' := [(5, .int 1), (12, .long (lI ((s9 : Nat) : Int))), (11, .int (nI c9)), (10, .int (nI q9)), (9, .int (nI wh)), (8, .int (nI y)), (6, .int (nI k)), (4, .int (nI nK)), (3, .int (nI nT)), (2, .ref (ad 90)), (1, .ref (ad 60)), (0, .ref b)]) hx hb dL_law_1051 hl (by decide) rfl (fun ls hl => ?_)
    refine lv_iload hx hb dL_law_1053 (lv_at hl 0 rfl) ?_
    refine lv_if_eq (tgt := 1076) hx hb dL_law_1055 (by decide) (fun cz9 => absurd cz9 (by decide)) (fun _ => ?_)
    refine lv_aload_n hx hb dL_law_1058 rfl (lv_at hl 10 rfl) ?_
    refine lv_iload hx hb dL_law_1059 (lv_at hl 5 rfl) ?_
    refine lv_iconst (v := 3) hx hb dL_law_1061 (by decide) ?_
    refine lv_irem hx hb dL_law_1062 (by decide) ?_
    refine sy_top (y := nI (y % 3)) (nI_rem (a := y) (b := 3) (by omega) (by omega)) ?_
    refine sy_kl (vx_runSW (As := [.ref (ad 60), .int (nI (y % 3))]) (rest := []) ⟨hx, hb, hml, hown, hts⟩ (mL_wind l hfl Z nT nK cT cK ad g1 q1 (nI (y % 3)) hI) (vx_cwSW 2 hts (gl_S uk_3_235 uk_3_236 uk_1_0 uk_3_237) rfl rfl rfl (by decide +kernel) ⟨Nat.le_of_ble_eq_true rfl, Nat.le_of_ble_eq_true rfl⟩) ⟨sPreL_blind _, fun U hU hW => ⟨rfl, ⟨hE.next hS hU hW.alike, by rw [hU]; exact hP⟩, hNc.next hW.alike⟩⟩ rfl rfl hl.1 rfl (lv_room (Nat.le_of_ble_eq_true rfl)) dL_law_1063 ⟨by show _ ≤ 600074; (try dsimp only); omega, by show _ ≤ 7301550; (try dsimp only); omega⟩) hS (fun r g2 q2 H locs e9 hP hS => ?_)
    obtain ⟨n1, n2, hI3⟩ := p_wind hI (b := y % 3) (by omega)
    obtain ⟨zz, hzz⟩ : ∃ zz : Int, (fX6_wind g1 q1 (nI (y % 3))).2.1.toInt = zz := ⟨_, rfl⟩
    have bz : -2147483648 ≤ zz ∧ zz < 2147483648 := by rw [← hzz]; exact i32b _
    rw [hzz] at n2
    obtain ⟨er, eg, eq⟩ := eq_y (z := zz) n1 hzz e9
    subst er
    rw [eg, eq] at hI3
    have hI := hI3
    clear e9 eg eq
    refine lv_iload_n hx hb dL_law_1066 rfl (lv_at hl 8 rfl) ?_
    refine lv_i2l (v := lI ((nT : Nat) : Int)) hx hb dL_law_1067 (nI_L (by omega)) ?_
    refine W.lcmp hx hb dL_law_1068 ?_
    refine lv_if_gt (tgt := 1076) hx hb dL_law_1069 (by decide) (fun cz9 => absurd cz9 (c_le (a := zz) (b := ((nT : Nat) : Int)) (by omega) (by omega) (by omega))) (fun _ => ?_)
    refine lv_iconst (v := 1) hx hb dL_law_1072 (by decide) ?_
    refine lv_goto (tgt := 1077) hx hb dL_law_1073 (by decide) ?_
    refine lv_istore (lv' := [(5, .int 1), (12, .long (lI ((s9 : Nat) : Int))), (11, .int (nI c9)), (10, .int (nI q9)), (9, .int (nI wh)), (8, .int (nI y)), (6, .int (nI k)), (4, .int (nI nK)), (3, .int (nI nT)), (2, .ref (ad 90)), (1, .ref (ad 60)), (0, .ref b)]) hx hb dL_law_1077 hl (by decide) rfl (fun ls hl => ?_)
    refine lv_goto (tgt := 1280) hx hb dL_law_1079 (by decide) ?_
    refine W.widen (k := 100 + 2000 * k + 100) (n := 4000 + 14000 * k + 1000) (by (try dsimp only); omega) (by (try dsimp only); omega) ?_
    exact hJ _ _ _ _ _ _ _ _ _ _ (by omega) ⟨hP, (ci_n (by omega) hI), h70, h71, hS, lv_sub hl [6, 0, 7, 8, 9, 10, 11] rfl⟩
end LWC
