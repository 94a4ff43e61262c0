section LWC
variable {p : Program} {l : Launch} {e : Env} {s : State} {m : MethodId} {below : List Frame} {meth : Method} {c : Code} {b L : Nat} {xs : Nat → Int32} {Z : sZ}
set_option maxHeartbeats 8000000 in
set_option maxRecDepth 100000 in
theorem lc_H (hC : lCtx p l s m meth c b L xs Z) {k : Nat} (hk : k < 48) {nT nK cT cK : Nat} {ad : Nat → Nat} {g : sG} {q : sQ} {H : Heap} {locs : List Loc} {ls : Array Slot} {wh q9 c9 y : Nat} (hy : y < 2147483648) (hwh : (12 ≤ wh ∧ wh < 15) ∨ (5 ≤ wh ∧ wh < 9 ∧ nK = 0)) (hT0 : 0 < nT) (h : lSt Z s b k (k + 1) nT nK cT cK ad g q H locs ls [(11, .int (nI c9)), (10, .int (nI q9)), (9, .int (nI wh)), (8, .int (nI y))]) (hJ : ∀ (nT nK cT cK : Nat) (ad : Nat → Nat) (g : sG) (q : sQ) (H : Heap) (locs : List Loc) (ls : Array Slot), 0 < nT → lSt Z s b k (k + 2) nT nK cT cK ad g q H locs ls [] → W p l e room_1 s m #[Value.ref b] below meth c H locs (100 + 2000 * k + 100) (4000 + 14000 * k + 1000) (lw_Z below #[Value.ref b] s) (F0 m 1280 ls [])) : W p l e room_1 s m #[Value.ref b] below meth c H locs (100 + 2000 * k) (4000 + 14000 * k) (lw_Z below #[Value.ref b] s) (F0 m 133 ls []) := by
  obtain ⟨hx, hb, hr, hml, hown, hts, hX, hbl, hlocks, hZ, hE, hNc, hfl⟩ := hC
  obtain ⟨hP, hI, h70, h71, hS, hl⟩ := h
  have hl : lv_has ls 18 [(11, .int (nI c9)), (10, .int (nI q9)), (9, .int (nI wh)), (8, .int (nI y)), (6, .int (nI k)), (5, .int 1), (4, .int (nI nK)), (3, .int (nI nT)), (2, .ref (ad 90)), (1, .ref (ad 60)), (0, .ref b)] := hl
  have hT40 := ci_T hI
  have hK40 := ci_K hI
  obtain ⟨⟨d, hd5, hd, -⟩, -⟩ := hI.2.2.1
  have hM : W p l e room_1 s m #[Value.ref b] below meth c H locs (100 + 2000 * k) (4000 + 14000 * k) (lw_Z below #[Value.ref b] s) (F0 m 1089 ls []) := by
    refine lv_iconst (v := 1) hx hb dL_law_1089 (by decide) ?_
    refine lv_iload hx hb dL_law_1090 (lv_at hl 3 rfl) ?_
    refine lv_iload hx hb dL_law_1092 (lv_at hl 2 rfl) ?_
    refine lv_bipush (v := 12) hx hb dL_law_1094 (by decide) ?_
    by_cases h12 : wh = 12
    · skip
      refine lv_icmp_ne (tgt := 1105) hx hb dL_law_1096 (by decide) (fun cz9 => absurd ((nI_eq (a := wh) (b := 12) (by omega) (by omega)).mpr (by omega)) cz9) (fun _ => ?_)
      refine lv_sipush (v := 200) hx hb dL_law_1099 (by decide) ?_
      refine lv_goto (tgt := 1107) hx hb dL_law_1102 (by decide) ?_
      refine lv_irem hx hb dL_law_1107 (by decide) ?_
      refine sy_top (y := nI (y % 200)) (nI_rem (a := y) (b := 200) (by omega) (by omega)) ?_
      refine lv_iadd hx hb dL_law_1108 ?_
      refine sy_top (y := nI (1 + (y % 200))) (nI_add 1 (y % 200)) ?_
      refine lv_istore (lv' := [(12, .int (nI (1 + (y % 200)))), (11, .int (nI c9)), (10, .int (nI q9)), (9, .int (nI wh)), (8, .int (nI y)), (6, .int (nI k)), (5, .int 1), (4, .int (nI nK)), (3, .int (nI nT)), (2, .ref (ad 90)), (1, .ref (ad 60)), (0, .ref b)]) hx hb dL_law_1109 hl (by decide) rfl (fun ls hl => ?_)
      refine lv_aload_n hx hb dL_law_1111 rfl (lv_at hl 10 rfl) ?_
      refine sy_ki (sy_rV (o := 60) (As := []) (rest := []) ⟨hx, hb, hml, hown, hts⟩ hE hP hS (mX6_day l hfl Z nT nK cT cK ad g q (by have := ci_T hI; omega) (ci_IG hI) (ci_IQ hI)) (cwV 0 hts (gl_V uk_1_183 uk_1_184 uk_1_185 uk_1_1 uk_1_186) rfl rfl rfl (by decide +kernel) ⟨Nat.le_of_ble_eq_true rfl, Nat.le_of_ble_eq_true rfl⟩) (sy_recv (kc := 7) hE hP rfl (by decide) rfl rfl rfl) rfl hl.1 rfl (Nat.le_of_ble_eq_true rfl) dL_law_1112 ⟨by show _ ≤ 600074; (try dsimp only); omega, by show _ ≤ 7301550; (try dsimp only); omega⟩) hS (fun r gz qz H locs e9 hP hS => ?_)
      obtain ⟨er, eg, eq⟩ : nI d = r ∧ g = gz ∧ q = qz := by rw [show fX6_day g q = nI d from hd] at e9; cases e9; exact ⟨rfl, rfl, rfl⟩
      subst er; subst eg; subst eq
      refine lv_istore (lv' := [(13, .int (nI d)), (12, .int (nI (1 + (y % 200)))), (11, .int (nI c9)), (10, .int (nI q9)), (9, .int (nI wh)), (8, .int (nI y)), (6, .int (nI k)), (5, .int 1), (4, .int (nI nK)), (3, .int (nI nT)), (2, .ref (ad 90)), (1, .ref (ad 60)), (0, .ref b)]) hx hb dL_law_1115 hl (by decide) rfl (fun ls hl => ?_)
      refine lv_aload_n hx hb dL_law_1117 rfl (lv_at hl 11 rfl) ?_
      refine lv_iload hx hb dL_law_1118 (lv_at hl 1 rfl) ?_
      refine sy_kl (vx_runSW (As := [.ref (ad 60), .int (nI (1 + (y % 200)))]) (rest := []) ⟨hx, hb, hml, hown, hts⟩ (mL_pass l hfl Z nT nK cT cK ad g q (nI (1 + (y % 200))) hI) (vx_cwSW 2 hts (gl_S uk_4_2 uk_4_3 uk_1_0 uk_4_4) rfl rfl rfl (by decide +kernel) ⟨Nat.le_of_ble_eq_true rfl, Nat.le_of_ble_eq_true rfl⟩) ⟨sPreL_blind _, fun U hU hW => ⟨rfl, ⟨hE.next hS hU hW.alike, by rw [hU]; exact hP⟩, hNc.next hW.alike⟩⟩ rfl rfl hl.1 rfl (lv_room (Nat.le_of_ble_eq_true rfl)) dL_law_1120 ⟨by show _ ≤ 600074; (try dsimp only); omega, by show _ ≤ 7301550; (try dsimp only); omega⟩) hS (fun r g1 q1 H locs e9 hP hS => ?_)
      rcases p_pass hI (by omega) hd (k := (1 + (y % 200))) (by omega) hd5 with ⟨hlt, hw⟩ | ⟨hle, h1, h2, hI2⟩
      · skip
        obtain ⟨er, eg, eq⟩ := eq_n3 hw e9
        subst er; subst eg; subst eq
        refine lv_iload hx hb dL_law_1123 (lv_at hl 0 rfl) ?_
        refine lv_iload hx hb dL_law_1125 (lv_at hl 1 rfl) ?_
        refine lv_iadd hx hb dL_law_1127 ?_
        refine sy_top (y := nI (d + (1 + (y % 200)))) (nI_add d (1 + (y % 200))) ?_
        refine lv_sipush (v := 5000) hx hb dL_law_1128 (by decide) ?_
        refine lv_icmp_le (tgt := 1140) hx hb dL_law_1131 (by decide) (fun cz9 => absurd cz9 (mt (nI_leI (a := (d + (1 + (y % 200)))) (b := 5000) (by omega) (by omega)).mp (by omega))) (fun _ => ?_)
        refine lv_ldc2 (v := lI (-9000000000000000003)) hx hb hown (hts _ (wsU_tbl uk_2_183)) dL_law_1134 ?_
        refine lv_goto (tgt := 1146) hx hb dL_law_1137 (by decide) ?_
        refine W.lcmp hx hb dL_law_1146 ?_
        refine lv_if_ne (tgt := 1154) hx hb dL_law_1147 (by decide) (fun cz9 => absurd (c_eq (a := (-9000000000000000003)) (b := (-9000000000000000003)) (by omega)) cz9) (fun _ => ?_)
        refine lv_iconst (v := 1) hx hb dL_law_1150 (by decide) ?_
        refine lv_goto (tgt := 1155) hx hb dL_law_1151 (by decide) ?_
        refine lv_istore (lv' := [(5, .int 1), (13, .int (nI d)), (12, .int (nI (1 + (y % 200)))), (11, .int (nI c9)), (10, .int (nI q9)), (9, .int (nI wh)), (8, .int (nI y)), (6, .int (nI k)), (4, .int (nI nK)), (3, .int (nI nT)), (2, .ref (ad 90)), (1, .ref (ad 60)), (0, .ref b)]) hx hb dL_law_1155 hl (by decide) rfl (fun ls hl => ?_)
        refine lv_goto (tgt := 1280) hx hb dL_law_1157 (by decide) ?_
        refine W.widen (k := 100 + 2000 * k + 100) (n := 4000 + 14000 * k + 1000) (by (try dsimp only); omega) (by (try dsimp only); omega) ?_
        exact hJ _ _ _ _ _ _ _ _ _ _ (by omega) ⟨hP, (ci_n (by omega) hI), h70, h71, hS, lv_sub hl [7, 0, 8, 9, 10, 11, 12] rfl⟩
      · skip
        obtain ⟨er, eg, eq⟩ := eq_y (z := ((d + (1 + (y % 200)) : Nat) : Int)) h1 (by rw [h2]; exact nI_toInt (by omega)) e9
        subst er
        rw [eg, eq] at hI2
        have hI := hI2
        clear e9
        refine lv_iload hx hb dL_law_1123 (lv_at hl 0 rfl) ?_
        refine lv_iload hx hb dL_law_1125 (lv_at hl 1 rfl) ?_
        refine lv_iadd hx hb dL_law_1127 ?_
        refine sy_top (y := nI (d + (1 + (y % 200)))) (nI_add d (1 + (y % 200))) ?_
        refine lv_sipush (v := 5000) hx hb dL_law_1128 (by decide) ?_
        refine lv_icmp_le (tgt := 1140) hx hb dL_law_1131 (by decide) (fun _ => ?_) (fun cz9 => absurd ((nI_leI (a := (d + (1 + (y % 200)))) (b := 5000) (by omega) (by omega)).mpr (by omega)) cz9)
        refine lv_iload hx hb dL_law_1140 (lv_at hl 0 rfl) ?_
        refine lv_iload hx hb dL_law_1142 (lv_at hl 1 rfl) ?_
        refine lv_iadd hx hb dL_law_1144 ?_
        refine sy_top (y := nI (d + (1 + (y % 200)))) (nI_add d (1 + (y % 200))) ?_
        refine lv_i2l (v := lI (((d + (1 + (y % 200))) : Nat) : Int)) hx hb dL_law_1145 (nI_L (by omega)) ?_
        refine W.lcmp hx hb dL_law_1146 ?_
        refine lv_if_ne (tgt := 1154) hx hb dL_law_1147 (by decide) (fun cz9 => absurd (c_eq (a := ((d + (1 + (y % 200)) : Nat) : Int)) (b := (((d + (1 + (y % 200))) : Nat) : Int)) (by omega)) cz9) (fun _ => ?_)
        refine lv_iconst (v := 1) hx hb dL_law_1150 (by decide) ?_
        refine lv_goto (tgt := 1155) hx hb dL_law_1151 (by decide) ?_
        refine lv_istore (lv' := [(5, .int 1), (13, .int (nI d)), (12, .int (nI (1 + (y % 200)))), (11, .int (nI c9)), (10, .int (nI q9)), (9, .int (nI wh)), (8, .int (nI y)), (6, .int (nI k)), (4, .int (nI nK)), (3, .int (nI nT)), (2, .ref (ad 90)), (1, .ref (ad 60)), (0, .ref b)]) hx hb dL_law_1155 hl (by decide) rfl (fun ls hl => ?_)
        refine lv_goto (tgt := 1280) hx hb dL_law_1157 (by decide) ?_
        refine W.widen (k := 100 + 2000 * k + 100) (n := 4000 + 14000 * k + 1000) (by (try dsimp only); omega) (by (try dsimp only); omega) ?_
        exact hJ _ _ _ _ _ _ _ _ _ _ (by omega) ⟨hP, (ci_n (by omega) hI), h70, h71, hS, lv_sub hl [7, 0, 8, 9, 10, 11, 12] rfl⟩
    · skip
      refine lv_icmp_ne (tgt := 1105) hx hb dL_law_1096 (by decide) (fun _ => ?_) (fun cz9 => absurd cz9 (mt (nI_eq (a := wh) (b := 12) (by omega) (by omega)).mp (by omega)))
      refine lv_bipush (v := 20) hx hb dL_law_1105 (by decide) ?_
      refine lv_irem hx hb dL_law_1107 (by decide) ?_
      refine sy_top (y := nI (y % 20)) (nI_rem (a := y) (b := 20) (by omega) (by omega)) ?_
      refine lv_iadd hx hb dL_law_1108 ?_
      refine sy_top (y := nI (1 + (y % 20))) (nI_add 1 (y % 20)) ?_
      refine lv_istore (lv' := [(12, .int (nI (1 + (y % 20)))), (11, .int (nI c9)), (10, .int (nI q9)), (9, .int (nI wh)), (8, .int (nI y)), (6, .int (nI k)), (5, .int 1), (4, .int (nI nK)), (3, .int (nI nT)), (2, .ref (ad 90)), (1, .ref (ad 60)), (0, .ref b)]) hx hb dL_law_1109 hl (by decide) rfl (fun ls hl => ?_)
      refine lv_aload_n hx hb dL_law_1111 rfl (lv_at hl 10 rfl) ?_
      refine sy_ki (sy_rV (o := 60) (As := []) (rest := []) ⟨hx, hb, hml, hown, hts⟩ hE hP hS (mX6_day l hfl Z nT nK cT cK ad g q (by have := ci_T hI; omega) (ci_IG hI) (ci_IQ hI)) (cwV 0 hts (gl_V uk_1_183 uk_1_184 uk_1_185 uk_1_1 uk_1_186) rfl rfl rfl (by decide +kernel) ⟨Nat.le_of_ble_eq_true rfl, Nat.le_of_ble_eq_true rfl⟩) (sy_recv (kc := 7) hE hP rfl (by decide) rfl rfl rfl) rfl hl.1 rfl (Nat.le_of_ble_eq_true rfl) dL_law_1112 ⟨by show _ ≤ 600074; (try dsimp only); omega, by show _ ≤ 7301550; (try dsimp only); omega⟩) hS (fun r gz qz H locs e9 hP hS => ?_)
      obtain ⟨er, eg, eq⟩ : nI d = r ∧ g = gz ∧ q = qz := by rw [show fX6_day g q = nI d from hd] at e9; cases e9; exact ⟨rfl, rfl, rfl⟩
      subst er; subst eg; subst eq
      refine lv_istore (lv' := [(13, .int (nI d)), (12, .int (nI (1 + (y % 20)))), (11, .int (nI c9)), (10, .int (nI q9)), (9, .int (nI wh)), (8, .int (nI y)), (6, .int (nI k)), (5, .int 1), (4, .int (nI nK)), (3, .int (nI nT)), (2, .ref (ad 90)), (1, .ref (ad 60)), (0, .ref b)]) hx hb dL_law_1115 hl (by decide) rfl (fun ls hl => ?_)
      refine lv_aload_n hx hb dL_law_1117 rfl (lv_at hl 11 rfl) ?_
      refine lv_iload hx hb dL_law_1118 (lv_at hl 1 rfl) ?_
      refine sy_kl (vx_runSW (As := [.ref (ad 60), .int (nI (1 + (y % 20)))]) (rest := []) ⟨hx, hb, hml, hown, hts⟩ (mL_pass l hfl Z nT nK cT cK ad g q (nI (1 + (y % 20))) hI) (vx_cwSW 2 hts (gl_S uk_4_2 uk_4_3 uk_1_0 uk_4_4) rfl rfl rfl (by decide +kernel) ⟨Nat.le_of_ble_eq_true rfl, Nat.le_of_ble_eq_true rfl⟩) ⟨sPreL_blind _, fun U hU hW => ⟨rfl, ⟨hE.next hS hU hW.alike, by rw [hU]; exact hP⟩, hNc.next hW.alike⟩⟩ rfl rfl hl.1 rfl (lv_room (Nat.le_of_ble_eq_true rfl)) dL_law_1120 ⟨by show _ ≤ 600074; (try dsimp only); omega, by show _ ≤ 7301550; (try dsimp only); omega⟩) hS (fun r g1 q1 H locs e9 hP hS => ?_)
      rcases p_pass hI (by omega) hd (k := (1 + (y % 20))) (by omega) hd5 with ⟨hlt, hw⟩ | ⟨hle, h1, h2, hI2⟩
      · skip
        obtain ⟨er, eg, eq⟩ := eq_n3 hw e9
        subst er; subst eg; subst eq
        refine lv_iload hx hb dL_law_1123 (lv_at hl 0 rfl) ?_
        refine lv_iload hx hb dL_law_1125 (lv_at hl 1 rfl) ?_
        refine lv_iadd hx hb dL_law_1127 ?_
        refine sy_top (y := nI (d + (1 + (y % 20)))) (nI_add d (1 + (y % 20))) ?_
        refine lv_sipush (v := 5000) hx hb dL_law_1128 (by decide) ?_
        refine lv_icmp_le (tgt := 1140) hx hb dL_law_1131 (by decide) (fun cz9 => absurd cz9 (mt (nI_leI (a := (d + (1 + (y % 20)))) (b := 5000) (by omega) (by omega)).mp (by omega))) (fun _ => ?_)
        refine lv_ldc2 (v := lI (-9000000000000000003)) hx hb hown (hts _ (wsU_tbl uk_2_183)) dL_law_1134 ?_
        refine lv_goto (tgt := 1146) hx hb dL_law_1137 (by decide) ?_
        refine W.lcmp hx hb dL_law_1146 ?_
        refine lv_if_ne (tgt := 1154) hx hb dL_law_1147 (by decide) (fun cz9 => absurd (c_eq (a := (-9000000000000000003)) (b := (-9000000000000000003)) (by omega)) cz9) (fun _ => ?_)
        refine lv_iconst (v := 1) hx hb dL_law_1150 (by decide) ?_
        refine lv_goto (tgt := 1155) hx hb dL_law_1151 (by decide) ?_
        refine lv_istore (lv' := [(5, .int 1), (13, .int (nI d)), (12, .int (nI (1 + (y % 20)))), (11, .int (nI c9)), (10, .int (nI q9)), (9, .int (nI wh)), (8, .int (nI y)), (6, .int (nI k)), (4, .int (nI nK)), (3, .int (nI nT)), (2, .ref (ad 90)), (1, .ref (ad 60)), (0, .ref b)]) hx hb dL_law_1155 hl (by decide) rfl (fun ls hl => ?_)
        refine lv_goto (tgt := 1280) hx hb dL_law_1157 (by decide) ?_
        refine W.widen (k := 100 + 2000 * k + 100) (n := 4000 + 14000 * k + 1000) (by (try dsimp only); omega) (by (try dsimp only); omega) ?_
        exact hJ _ _ _ _ _ _ _ _ _ _ (by omega) ⟨hP, (ci_n (by omega) hI), h70, h71, hS, lv_sub hl [7, 0, 8, 9, 10, 11, 12] rfl⟩
      · skip
        obtain ⟨er, eg, eq⟩ := eq_y (z := ((d + (1 + (y % 20)) : Nat) : Int)) h1 (by rw [h2]; exact nI_toInt (by omega)) e9
        subst er
        rw [eg, eq] at hI2
        have hI := hI2
        clear e9
        refine lv_iload hx hb dL_law_1123 (lv_at hl 0 rfl) ?_
        refine lv_iload hx hb dL_law_1125 (lv_at hl 1 rfl) ?_
        refine lv_iadd hx hb dL_law_1127 ?_
        refine sy_top (y := nI (d + (1 + (y % 20)))) (nI_add d (1 + (y % 20))) ?_
        refine lv_sipush (v := 5000) hx hb dL_law_1128 (by decide) ?_
        refine lv_icmp_le (tgt := 1140) hx hb dL_law_1131 (by decide) (fun _ => ?_) (fun cz9 => absurd ((nI_leI (a := (d + (1 + (y % 20)))) (b := 5000) (by omega) (by omega)).mpr (by omega)) cz9)
        refine lv_iload hx hb dL_law_1140 (lv_at hl 0 rfl) ?_
        refine lv_iload hx hb dL_law_1142 (lv_at hl 1 rfl) ?_
        refine lv_iadd hx hb dL_law_1144 ?_
        refine sy_top (y := nI (d + (1 + (y % 20)))) (nI_add d (1 + (y % 20))) ?_
        refine lv_i2l (v := lI (((d + (1 + (y % 20))) : Nat) : Int)) hx hb dL_law_1145 (nI_L (by omega)) ?_
        refine W.lcmp hx hb dL_law_1146 ?_
        refine lv_if_ne (tgt := 1154) hx hb dL_law_1147 (by decide) (fun cz9 => absurd (c_eq (a := ((d + (1 + (y % 20)) : Nat) : Int)) (b := (((d + (1 + (y % 20))) : Nat) : Int)) (by omega)) cz9) (fun _ => ?_)
        refine lv_iconst (v := 1) hx hb dL_law_1150 (by decide) ?_
        refine lv_goto (tgt := 1155) hx hb dL_law_1151 (by decide) ?_
        refine lv_istore (lv' := [(5, .int 1), (13, .int (nI d)), (12, .int (nI (1 + (y % 20)))), (11, .int (nI c9)), (10, .int (nI q9)), (9, .int (nI wh)), (8, .int (nI y)), (6, .int (nI k)), (4, .int (nI nK)), (3, .int (nI nT)), (2, .ref (ad 90)), (1, .ref (ad 60)), (0, .ref b)]) hx hb dL_law_1155 hl (by decide) rfl (fun ls hl => ?_)
        refine lv_goto (tgt := 1280) hx hb dL_law_1157 (by decide) ?_
        refine W.widen (k := 100 + 2000 * k + 100) (n := 4000 + 14000 * k + 1000) (by (try dsimp only); omega) (by (try dsimp only); omega) ?_
        exact hJ _ _ _ _ _ _ _ _ _ _ (by omega) ⟨hP, (ci_n (by omega) hI), h70, h71, hS, lv_sub hl [7, 0, 8, 9, 10, 11, 12] rfl⟩
  rcases hwh with c1 | c1
  · skip
    refine lv_iload hx hb dL_law_133 (lv_at hl 2 rfl) ?_
    refine lv_iconst (v := 4) hx hb dL_law_135 (by decide) ?_
    refine lv_icmp_lt (tgt := 143) hx hb dL_law_136 (by decide) (fun cz9 => absurd cz9 (mt (nI_ltI (a := wh) (b := 4) (by omega) (by omega)).mp (by omega))) (fun _ => ?_)
    refine lv_iload_n hx hb dL_law_139 rfl (lv_at hl 7 rfl) ?_
    refine lv_if_ne (tgt := 377) hx hb dL_law_140 (by decide) (fun _ => ?_) (fun cz9 => absurd cz9 (mt (nI_eq (a := nT) (b := 0) (by omega) (by omega)).mp (by omega)))
    refine lv_iload hx hb dL_law_377 (lv_at hl 2 rfl) ?_
    refine lv_iconst (v := 4) hx hb dL_law_379 (by decide) ?_
    refine lv_icmp_ne (tgt := 506) hx hb dL_law_380 (by decide) (fun _ => ?_) (fun cz9 => absurd cz9 (mt (nI_eq (a := wh) (b := 4) (by omega) (by omega)).mp (by omega)))
    refine lv_iload hx hb dL_law_506 (lv_at hl 2 rfl) ?_
    refine lv_bipush (v := 8) hx hb dL_law_508 (by decide) ?_
    refine lv_icmp_ge (tgt := 539) hx hb dL_law_510 (by decide) (fun _ => ?_) (fun cz9 => absurd ((nI_leI (a := 8) (b := wh) (by omega) (by omega)).mpr (by omega)) cz9)
    refine lv_iload hx hb dL_law_539 (lv_at hl 2 rfl) ?_
    refine lv_bipush (v := 8) hx hb dL_law_541 (by decide) ?_
    refine lv_icmp_ne (tgt := 708) hx hb dL_law_543 (by decide) (fun _ => ?_) (fun cz9 => absurd cz9 (mt (nI_eq (a := wh) (b := 8) (by omega) (by omega)).mp (by omega)))
    refine lv_iload hx hb dL_law_708 (lv_at hl 2 rfl) ?_
    refine lv_bipush (v := 9) hx hb dL_law_710 (by decide) ?_
    refine lv_icmp_ne (tgt := 842) hx hb dL_law_712 (by decide) (fun _ => ?_) (fun cz9 => absurd cz9 (mt (nI_eq (a := wh) (b := 9) (by omega) (by omega)).mp (by omega)))
    refine lv_iload hx hb dL_law_842 (lv_at hl 2 rfl) ?_
    refine lv_bipush (v := 10) hx hb dL_law_844 (by decide) ?_
    refine lv_icmp_ne (tgt := 997) hx hb dL_law_846 (by decide) (fun _ => ?_) (fun cz9 => absurd cz9 (mt (nI_eq (a := wh) (b := 10) (by omega) (by omega)).mp (by omega)))
    refine lv_iload hx hb dL_law_997 (lv_at hl 2 rfl) ?_
    refine lv_bipush (v := 11) hx hb dL_law_999 (by decide) ?_
    refine lv_icmp_ne (tgt := 1082) hx hb dL_law_1001 (by decide) (fun _ => ?_) (fun cz9 => absurd cz9 (mt (nI_eq (a := wh) (b := 11) (by omega) (by omega)).mp (by omega)))
    refine lv_iload hx hb dL_law_1082 (lv_at hl 2 rfl) ?_
    refine lv_bipush (v := 15) hx hb dL_law_1084 (by decide) ?_
    refine lv_icmp_ge (tgt := 1160) hx hb dL_law_1086 (by decide) (fun cz9 => absurd cz9 (mt (nI_leI (a := 15) (b := wh) (by omega) (by omega)).mp (by omega))) (fun _ => ?_)
    exact hM
  · skip
    by_cases h8 : wh = 8
    · skip
      refine lv_iload hx hb dL_law_133 (lv_at hl 2 rfl) ?_
      refine lv_iconst (v := 4) hx hb dL_law_135 (by decide) ?_
      refine lv_icmp_lt (tgt := 143) hx hb dL_law_136 (by decide) (fun cz9 => absurd cz9 (mt (nI_ltI (a := wh) (b := 4) (by omega) (by omega)).mp (by omega))) (fun _ => ?_)
      refine lv_iload_n hx hb dL_law_139 rfl (lv_at hl 7 rfl) ?_
      refine lv_if_ne (tgt := 377) hx hb dL_law_140 (by decide) (fun _ => ?_) (fun cz9 => absurd cz9 (mt (nI_eq (a := nT) (b := 0) (by omega) (by omega)).mp (by omega)))
      refine lv_iload hx hb dL_law_377 (lv_at hl 2 rfl) ?_
      refine lv_iconst (v := 4) hx hb dL_law_379 (by decide) ?_
      refine lv_icmp_ne (tgt := 506) hx hb dL_law_380 (by decide) (fun _ => ?_) (fun cz9 => absurd cz9 (mt (nI_eq (a := wh) (b := 4) (by omega) (by omega)).mp (by omega)))
      refine lv_iload hx hb dL_law_506 (lv_at hl 2 rfl) ?_
      refine lv_bipush (v := 8) hx hb dL_law_508 (by decide) ?_
      refine lv_icmp_ge (tgt := 539) hx hb dL_law_510 (by decide) (fun _ => ?_) (fun cz9 => absurd ((nI_leI (a := 8) (b := wh) (by omega) (by omega)).mpr (by omega)) cz9)
      refine lv_iload hx hb dL_law_539 (lv_at hl 2 rfl) ?_
      refine lv_bipush (v := 8) hx hb dL_law_541 (by decide) ?_
      refine lv_icmp_ne (tgt := 708) hx hb dL_law_543 (by decide) (fun cz9 => absurd ((nI_eq (a := wh) (b := 8) (by omega) (by omega)).mpr (by omega)) cz9) (fun _ => ?_)
      refine lv_iload hx hb dL_law_546 (lv_at hl 6 rfl) ?_
      refine lv_if_le (tgt := 708) hx hb dL_law_548 (by decide) (fun _ => ?_) (fun cz9 => absurd ((nI_leI (a := nK) (b := 0) (by omega) (by omega)).mpr (by omega)) cz9)
      refine lv_iload hx hb dL_law_708 (lv_at hl 2 rfl) ?_
      refine lv_bipush (v := 9) hx hb dL_law_710 (by decide) ?_
      refine lv_icmp_ne (tgt := 842) hx hb dL_law_712 (by decide) (fun _ => ?_) (fun cz9 => absurd cz9 (mt (nI_eq (a := wh) (b := 9) (by omega) (by omega)).mp (by omega)))
      refine lv_iload hx hb dL_law_842 (lv_at hl 2 rfl) ?_
      refine lv_bipush (v := 10) hx hb dL_law_844 (by decide) ?_
      refine lv_icmp_ne (tgt := 997) hx hb dL_law_846 (by decide) (fun _ => ?_) (fun cz9 => absurd cz9 (mt (nI_eq (a := wh) (b := 10) (by omega) (by omega)).mp (by omega)))
      refine lv_iload hx hb dL_law_997 (lv_at hl 2 rfl) ?_
      refine lv_bipush (v := 11) hx hb dL_law_999 (by decide) ?_
      refine lv_icmp_ne (tgt := 1082) hx hb dL_law_1001 (by decide) (fun _ => ?_) (fun cz9 => absurd cz9 (mt (nI_eq (a := wh) (b := 11) (by omega) (by omega)).mp (by omega)))
      refine lv_iload hx hb dL_law_1082 (lv_at hl 2 rfl) ?_
      refine lv_bipush (v := 15) hx hb dL_law_1084 (by decide) ?_
      refine lv_icmp_ge (tgt := 1160) hx hb dL_law_1086 (by decide) (fun cz9 => absurd cz9 (mt (nI_leI (a := 15) (b := wh) (by omega) (by omega)).mp (by omega))) (fun _ => ?_)
      exact hM
    · skip
      refine lv_iload hx hb dL_law_133 (lv_at hl 2 rfl) ?_
      refine lv_iconst (v := 4) hx hb dL_law_135 (by decide) ?_
      refine lv_icmp_lt (tgt := 143) hx hb dL_law_136 (by decide) (fun cz9 => absurd cz9 (mt (nI_ltI (a := wh) (b := 4) (by omega) (by omega)).mp (by omega))) (fun _ => ?_)
      refine lv_iload_n hx hb dL_law_139 rfl (lv_at hl 7 rfl) ?_
      refine lv_if_ne (tgt := 377) hx hb dL_law_140 (by decide) (fun _ => ?_) (fun cz9 => absurd cz9 (mt (nI_eq (a := nT) (b := 0) (by omega) (by omega)).mp (by omega)))
      refine lv_iload hx hb dL_law_377 (lv_at hl 2 rfl) ?_
      refine lv_iconst (v := 4) hx hb dL_law_379 (by decide) ?_
      refine lv_icmp_ne (tgt := 506) hx hb dL_law_380 (by decide) (fun _ => ?_) (fun cz9 => absurd cz9 (mt (nI_eq (a := wh) (b := 4) (by omega) (by omega)).mp (by omega)))
      refine lv_iload hx hb dL_law_506 (lv_at hl 2 rfl) ?_
      refine lv_bipush (v := 8) hx hb dL_law_508 (by decide) ?_
      refine lv_icmp_ge (tgt := 539) hx hb dL_law_510 (by decide) (fun cz9 => absurd cz9 (mt (nI_leI (a := 8) (b := wh) (by omega) (by omega)).mp (by omega))) (fun _ => ?_)
      refine lv_iload hx hb dL_law_513 (lv_at hl 6 rfl) ?_
      refine lv_if_le (tgt := 539) hx hb dL_law_515 (by decide) (fun _ => ?_) (fun cz9 => absurd ((nI_leI (a := nK) (b := 0) (by omega) (by omega)).mpr (by omega)) cz9)
      refine lv_iload hx hb dL_law_539 (lv_at hl 2 rfl) ?_
      refine lv_bipush (v := 8) hx hb dL_law_541 (by decide) ?_
      refine lv_icmp_ne (tgt := 708) hx hb dL_law_543 (by decide) (fun _ => ?_) (fun cz9 => absurd cz9 (mt (nI_eq (a := wh) (b := 8) (by omega) (by omega)).mp (by omega)))
      refine lv_iload hx hb dL_law_708 (lv_at hl 2 rfl) ?_
      refine lv_bipush (v := 9) hx hb dL_law_710 (by decide) ?_
      refine lv_icmp_ne (tgt := 842) hx hb dL_law_712 (by decide) (fun _ => ?_) (fun cz9 => absurd cz9 (mt (nI_eq (a := wh) (b := 9) (by omega) (by omega)).mp (by omega)))
      refine lv_iload hx hb dL_law_842 (lv_at hl 2 rfl) ?_
      refine lv_bipush (v := 10) hx hb dL_law_844 (by decide) ?_
      refine lv_icmp_ne (tgt := 997) hx hb dL_law_846 (by decide) (fun _ => ?_) (fun cz9 => absurd cz9 (mt (nI_eq (a := wh) (b := 10) (by omega) (by omega)).mp (by omega)))
      refine lv_iload hx hb dL_law_997 (lv_at hl 2 rfl) ?_
      refine lv_bipush (v := 11) hx hb dL_law_999 (by decide) ?_
      refine lv_icmp_ne (tgt := 1082) hx hb dL_law_1001 (by decide) (fun _ => ?_) (fun cz9 => absurd cz9 (mt (nI_eq (a := wh) (b := 11) (by omega) (by omega)).mp (by omega)))
      refine lv_iload hx hb dL_law_1082 (lv_at hl 2 rfl) ?_
      refine lv_bipush (v := 15) hx hb dL_law_1084 (by decide) ?_
      refine lv_icmp_ge (tgt := 1160) hx hb dL_law_1086 (by decide) (fun cz9 => absurd cz9 (mt (nI_leI (a := 15) (b := wh) (by omega) (by omega)).mp (by omega))) (fun _ => ?_)
      exact hM
end LWC
