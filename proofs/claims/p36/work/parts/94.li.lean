section LWC
variable {p : Program} {l : Launch} {e : Env} {s : State} {m : MethodId} {below : List Frame} {meth : Method} {c : Code} {b L : Nat} {xs : Nat → Int32} {Z : sZ}
set_option maxHeartbeats 8000000 in
set_option maxRecDepth 100000 in
theorem lc_I2 (hC : lCtx p l s m meth c b L xs Z) {k : Nat} (hk : k < 48) {nT nK cT cK : Nat} {ad : Nat → Nat} {g : sG} {q : sQ} {H : Heap} {locs : List Loc} {ls : Array Slot} {y : Nat} (hy : y < 2147483648) (hT0 : 0 < nT) {zz : Int} (hz : -9000000000000000003 ≤ zz ∧ zz < 2147483648) (h : lSt Z s b k (k + 1) nT nK cT cK ad g q H locs ls [(8, .int (nI y))]) (hJ : ∀ (nT nK cT cK : Nat) (ad : Nat → Nat) (g : sG) (q : sQ) (H : Heap) (locs : List Loc) (ls : Array Slot), 0 < nT → lSt Z s b k (k + 2) nT nK cT cK ad g q H locs ls [] → W p l e room_1 s m #[Value.ref b] below meth c H locs (100 + 2000 * k + 100) (4000 + 14000 * k + 1000) (lw_Z below #[Value.ref b] s) (F0 m 1280 ls [])) : W p l e room_1 s m #[Value.ref b] below meth c H locs (100 + 2000 * k + 10) (4000 + 14000 * k + 100) (lw_Z below #[Value.ref b] s) (F0 m 1244 ls [.long (lI zz)]) := by
  obtain ⟨hx, hb, hr, hml, hown, hts, hX, hbl, hlocks, hZ, hE, hNc, hfl⟩ := hC
  obtain ⟨hP, hI, h70, h71, hS, hl⟩ := h
  have hl : lv_has ls 18 [(8, .int (nI y)), (6, .int (nI k)), (5, .int 1), (4, .int (nI nK)), (3, .int (nI nT)), (2, .ref (ad 90)), (1, .ref (ad 60)), (0, .ref b)] := hl
  have hT40 := ci_T hI
  have hK40 := ci_K hI
  refine lv_ldc2 (v := lI (-9000000000000000003)) hx hb hown (hts _ (wsU_tbl uk_2_183)) dL_law_1244 ?_
  refine W.lcmp hx hb dL_law_1247 ?_
  refine lv_if_lt (tgt := 1277) hx hb dL_law_1248 (by decide) (fun cz9 => absurd cz9 (c_ge (a := zz) (b := (-9000000000000000003)) (by omega) (by omega) (by omega))) (fun _ => ?_)
  refine lv_aload_n hx hb dL_law_1251 rfl (lv_at hl 6 rfl) ?_
  refine lv_bipush (v := 14) hx hb dL_law_1252 (by decide) ?_
  refine lv_iload hx hb dL_law_1254 (lv_at hl 0 rfl) ?_
  refine lv_bipush (v := 8) hx hb dL_law_1256 (by decide) ?_
  refine lv_idiv hx hb dL_law_1258 (by decide) ?_
  refine sy_top (y := nI (y / 8)) (nI_div (a := y) (b := 8) (by omega) (by omega)) ?_
  refine lv_bipush (v := 100) hx hb dL_law_1259 (by decide) ?_
  refine lv_irem hx hb dL_law_1261 (by decide) ?_
  refine sy_top (y := nI ((y / 8) % 100)) (nI_rem (a := (y / 8)) (b := 100) (by omega) (by omega)) ?_
  refine lv_iadd hx hb dL_law_1262 ?_
  refine sy_top (y := nI (14 + ((y / 8) % 100))) (nI_add 14 ((y / 8) % 100)) ?_
  refine sy_kl (vx_runSW (As := [.ref (ad 60), .int (nI (14 + ((y / 8) % 100)))]) (rest := []) ⟨hx, hb, hml, hown, hts⟩ (mL_term l hfl Z nT nK cT cK ad g q (nI (14 + ((y / 8) % 100))) hI) (vx_cwSW 2 hts (gl_S uk_2_222 uk_2_223 uk_1_0 uk_2_224) rfl rfl rfl (by decide +kernel) ⟨Nat.le_of_ble_eq_true rfl, Nat.le_of_ble_eq_true rfl⟩) ⟨sPreL_blind _, fun U hU hW => ⟨rfl, ⟨hE.next hS hU hW.alike, by rw [hU]; exact hP⟩, hNc.next hW.alike⟩⟩ rfl rfl hl.1 rfl (lv_room (Nat.le_of_ble_eq_true rfl)) dL_law_1263 ⟨by show _ ≤ 600074; (try dsimp only); omega, by show _ ≤ 7301550; (try dsimp only); omega⟩) hS (fun r g1 q1 H locs e9 hP hS => ?_)
  obtain ⟨h1, h2, hI2⟩ := p_term hI (d := 14 + ((y / 8) % 100)) (by omega)
  obtain ⟨z2, hz2⟩ : ∃ z2 : Int, (fX6_term g q (nI (14 + ((y / 8) % 100)))).2.1.toInt = z2 := ⟨_, rfl⟩
  have bz : -2147483648 ≤ z2 ∧ z2 < 2147483648 := by rw [← hz2]; exact i32b _
  rw [hz2] at h2
  obtain ⟨er, eg, eq⟩ := eq_y (z := z2) h1 hz2 e9
  subst er
  rw [eg, eq] at hI2
  have hI := hI2
  clear e9
  refine lv_ldc2 (v := lI (14)) hx hb hown (hts _ (wsU_tbl uk_4_213)) dL_law_1266 ?_
  refine W.lcmp hx hb dL_law_1269 ?_
  refine lv_if_lt (tgt := 1277) hx hb dL_law_1270 (by decide) (fun cz9 => absurd cz9 (c_ge (a := z2) (b := (14)) (by omega) (by omega) (by omega))) (fun _ => ?_)
  refine lv_iconst (v := 1) hx hb dL_law_1273 (by decide) ?_
  refine lv_goto (tgt := 1278) hx hb dL_law_1274 (by decide) ?_
  refine lv_istore (lv' := [(5, .int 1), (8, .int (nI y)), (6, .int (nI k)), (4, .int (nI nK)), (3, .int (nI nT)), (2, .ref (ad 90)), (1, .ref (ad 60)), (0, .ref b)]) hx hb dL_law_1278 hl (by decide) rfl (fun ls hl => ?_)
  refine W.widen (k := 100 + 2000 * k + 100) (n := 4000 + 14000 * k + 1000) (by (try dsimp only); omega) (by (try dsimp only); omega) ?_
  exact hJ _ _ _ _ _ _ _ _ _ _ (by omega) ⟨hP, (ci_n (by omega) hI), h70, h71, hS, lv_sub hl [2, 0, 3, 4, 5, 6, 7] rfl⟩
set_option maxHeartbeats 8000000 in
set_option maxRecDepth 100000 in
theorem lc_I (hC : lCtx p l s m meth c b L xs Z) {k : Nat} (hk : k < 48) {nT nK cT cK : Nat} {ad : Nat → Nat} {g : sG} {q : sQ} {H : Heap} {locs : List Loc} {ls : Array Slot} {wh q9 c9 y : Nat} (hy : y < 2147483648) (hwh : wh = 15) (hT0 : 0 < nT) (h : lSt Z s b k (k + 1) nT nK cT cK ad g q H locs ls [(11, .int (nI c9)), (10, .int (nI q9)), (9, .int (nI wh)), (8, .int (nI y))]) (hJ : ∀ (nT nK cT cK : Nat) (ad : Nat → Nat) (g : sG) (q : sQ) (H : Heap) (locs : List Loc) (ls : Array Slot), 0 < nT → lSt Z s b k (k + 2) nT nK cT cK ad g q H locs ls [] → W p l e room_1 s m #[Value.ref b] below meth c H locs (100 + 2000 * k + 100) (4000 + 14000 * k + 1000) (lw_Z below #[Value.ref b] s) (F0 m 1280 ls [])) : W p l e room_1 s m #[Value.ref b] below meth c H locs (100 + 2000 * k) (4000 + 14000 * k) (lw_Z below #[Value.ref b] s) (F0 m 133 ls []) := by
  obtain ⟨hx, hb, hr, hml, hown, hts, hX, hbl, hlocks, hZ, hE, hNc, hfl⟩ := hC
  obtain ⟨hP, hI, h70, h71, hS, hl⟩ := h
  have hl : lv_has ls 18 [(11, .int (nI c9)), (10, .int (nI q9)), (9, .int (nI wh)), (8, .int (nI y)), (6, .int (nI k)), (5, .int 1), (4, .int (nI nK)), (3, .int (nI nT)), (2, .ref (ad 90)), (1, .ref (ad 60)), (0, .ref b)] := hl
  have hT40 := ci_T hI
  have hK40 := ci_K hI
  have hC0 : lCtx p l s m meth c b L xs Z := ⟨hx, hb, hr, hml, hown, hts, hX, hbl, hlocks, hZ, hE, hNc, hfl⟩
  refine lv_iload hx hb dL_law_133 (lv_at hl 2 rfl) ?_
  refine lv_iconst (v := 4) hx hb dL_law_135 (by decide) ?_
  refine lv_icmp_lt (tgt := 143) hx hb dL_law_136 (by decide) (fun cz9 => absurd cz9 (mt (nI_ltI (a := wh) (b := 4) (by omega) (by omega)).mp (by omega))) (fun _ => ?_)
  refine lv_iload_n hx hb dL_law_139 rfl (lv_at hl 7 rfl) ?_
  refine lv_if_ne (tgt := 377) hx hb dL_law_140 (by decide) (fun _ => ?_) (fun cz9 => absurd cz9 (mt (nI_eq (a := nT) (b := 0) (by omega) (by omega)).mp (by omega)))
  refine lv_iload hx hb dL_law_377 (lv_at hl 2 rfl) ?_
  refine lv_iconst (v := 4) hx hb dL_law_379 (by decide) ?_
  refine lv_icmp_ne (tgt := 506) hx hb dL_law_380 (by decide) (fun _ => ?_) (fun cz9 => absurd cz9 (mt (nI_eq (a := wh) (b := 4) (by omega) (by omega)).mp (by omega)))
  refine lv_iload hx hb dL_law_506 (lv_at hl 2 rfl) ?_
  refine lv_bipush (v := 8) hx hb dL_law_508 (by decide) ?_
  refine lv_icmp_ge (tgt := 539) hx hb dL_law_510 (by decide) (fun _ => ?_) (fun cz9 => absurd ((nI_leI (a := 8) (b := wh) (by omega) (by omega)).mpr (by omega)) cz9)
  refine lv_iload hx hb dL_law_539 (lv_at hl 2 rfl) ?_
  refine lv_bipush (v := 8) hx hb dL_law_541 (by decide) ?_
  refine lv_icmp_ne (tgt := 708) hx hb dL_law_543 (by decide) (fun _ => ?_) (fun cz9 => absurd cz9 (mt (nI_eq (a := wh) (b := 8) (by omega) (by omega)).mp (by omega)))
  refine lv_iload hx hb dL_law_708 (lv_at hl 2 rfl) ?_
  refine lv_bipush (v := 9) hx hb dL_law_710 (by decide) ?_
  refine lv_icmp_ne (tgt := 842) hx hb dL_law_712 (by decide) (fun _ => ?_) (fun cz9 => absurd cz9 (mt (nI_eq (a := wh) (b := 9) (by omega) (by omega)).mp (by omega)))
  refine lv_iload hx hb dL_law_842 (lv_at hl 2 rfl) ?_
  refine lv_bipush (v := 10) hx hb dL_law_844 (by decide) ?_
  refine lv_icmp_ne (tgt := 997) hx hb dL_law_846 (by decide) (fun _ => ?_) (fun cz9 => absurd cz9 (mt (nI_eq (a := wh) (b := 10) (by omega) (by omega)).mp (by omega)))
  refine lv_iload hx hb dL_law_997 (lv_at hl 2 rfl) ?_
  refine lv_bipush (v := 11) hx hb dL_law_999 (by decide) ?_
  refine lv_icmp_ne (tgt := 1082) hx hb dL_law_1001 (by decide) (fun _ => ?_) (fun cz9 => absurd cz9 (mt (nI_eq (a := wh) (b := 11) (by omega) (by omega)).mp (by omega)))
  refine lv_iload hx hb dL_law_1082 (lv_at hl 2 rfl) ?_
  refine lv_bipush (v := 15) hx hb dL_law_1084 (by decide) ?_
  refine lv_icmp_ge (tgt := 1160) hx hb dL_law_1086 (by decide) (fun _ => ?_) (fun cz9 => absurd ((nI_leI (a := 15) (b := wh) (by omega) (by omega)).mpr (by omega)) cz9)
  refine lv_iload hx hb dL_law_1160 (lv_at hl 3 rfl) ?_
  refine lv_iconst (v := 3) hx hb dL_law_1162 (by decide) ?_
  refine lv_irem hx hb dL_law_1163 (by decide) ?_
  refine sy_top (y := nI (y % 3)) (nI_rem (a := y) (b := 3) (by omega) (by omega)) ?_
  rcases (show y % 3 = 0 ∨ y % 3 = 1 ∨ y % 3 = 2 by omega) with h3 | h3 | h3
  · skip
    refine lv_if_ne (tgt := 1188) hx hb dL_law_1164 (by decide) (fun cz9 => absurd ((nI_eq (a := (y % 3)) (b := 0) (by omega) (by omega)).mpr (by omega)) cz9) (fun _ => ?_)
    refine lv_aload_n hx hb dL_law_1167 rfl (lv_at hl 9 rfl) ?_
    refine lv_iload hx hb dL_law_1168 (lv_at hl 3 rfl) ?_
    refine lv_iconst (v := 4) hx hb dL_law_1170 (by decide) ?_
    refine lv_idiv hx hb dL_law_1171 (by decide) ?_
    refine sy_top (y := nI (y / 4)) (nI_div (a := y) (b := 4) (by omega) (by omega)) ?_
    refine lv_iconst (v := 3) hx hb dL_law_1172 (by decide) ?_
    refine lv_irem hx hb dL_law_1173 (by decide) ?_
    refine sy_top (y := nI ((y / 4) % 3)) (nI_rem (a := (y / 4)) (b := 3) (by omega) (by omega)) ?_
    refine lv_iload hx hb dL_law_1174 (lv_at hl 3 rfl) ?_
    refine lv_bipush (v := 16) hx hb dL_law_1176 (by decide) ?_
    refine lv_idiv hx hb dL_law_1178 (by decide) ?_
    refine sy_top (y := nI (y / 16)) (nI_div (a := y) (b := 16) (by omega) (by omega)) ?_
    refine lv_bipush (v := 101) hx hb dL_law_1179 (by decide) ?_
    refine lv_irem hx hb dL_law_1181 (by decide) ?_
    refine sy_top (y := nI ((y / 16) % 101)) (nI_rem (a := (y / 16)) (b := 101) (by omega) (by omega)) ?_
    refine sy_kl (vx_runSW (As := [.ref (ad 60), .int (nI ((y / 4) % 3)), .int (nI ((y / 16) % 101))]) (rest := []) ⟨hx, hb, hml, hown, hts⟩ (mL_rate l hfl Z nT nK cT cK ad g q (nI ((y / 4) % 3)) (nI ((y / 16) % 101)) hI) (vx_cwSW 3 hts (gl_S uk_2_199 uk_2_200 uk_1_0 uk_2_201) rfl rfl rfl (by decide +kernel) ⟨Nat.le_of_ble_eq_true rfl, Nat.le_of_ble_eq_true rfl⟩) ⟨sPreL_blind _, fun U hU hW => ⟨rfl, ⟨hE.next hS hU hW.alike, by rw [hU]; exact hP⟩, hNc.next hW.alike⟩⟩ rfl rfl hl.1 rfl (lv_room (Nat.le_of_ble_eq_true rfl)) dL_law_1182 ⟨by show _ ≤ 600074; (try dsimp only); omega, by show _ ≤ 7301550; (try dsimp only); omega⟩) hS (fun r g1 q1 H locs e9 hP hS => ?_)
    rcases p_rate hI (z := y / 4 % 3) (h := y / 16 % 101) (by omega) (by omega) with hw | ⟨h1, hI2⟩
    · skip
      obtain ⟨er, eg, eq⟩ := eq_n3 hw e9
      subst er; subst eg; subst eq
      refine lv_goto (tgt := 1244) hx hb dL_law_1185 (by decide) ?_
      refine W.widen (k := 100 + 2000 * k + 10) (n := 4000 + 14000 * k + 100) (by (try dsimp only); omega) (by (try dsimp only); omega) ?_
      exact lc_I2 hC0 hk hy hT0 (by omega) ⟨hP, hI, h70, h71, hS, lv_sub hl [3, 4, 5, 6, 7, 8, 9, 10] rfl⟩ hJ
    · skip
      obtain ⟨zz, hzz⟩ : ∃ zz : Int, (fX6_rate g q (nI (y / 4 % 3)) (nI (y / 16 % 101))).2.1.toInt = zz := ⟨_, rfl⟩
      have bz : -2147483648 ≤ zz ∧ zz < 2147483648 := by rw [← hzz]; exact i32b _
      obtain ⟨er, eg, eq⟩ := eq_y (z := zz) h1 hzz e9
      subst er
      rw [eg, eq] at hI2
      have hI := hI2
      clear e9
      refine lv_goto (tgt := 1244) hx hb dL_law_1185 (by decide) ?_
      refine W.widen (k := 100 + 2000 * k + 10) (n := 4000 + 14000 * k + 100) (by (try dsimp only); omega) (by (try dsimp only); omega) ?_
      exact lc_I2 hC0 hk hy hT0 (by omega) ⟨hP, hI, h70, h71, hS, lv_sub hl [3, 4, 5, 6, 7, 8, 9, 10] rfl⟩ hJ
  · skip
    refine lv_if_ne (tgt := 1188) hx hb dL_law_1164 (by decide) (fun _ => ?_) (fun cz9 => absurd cz9 (mt (nI_eq (a := (y % 3)) (b := 0) (by omega) (by omega)).mp (by omega)))
    refine lv_iload hx hb dL_law_1188 (lv_at hl 3 rfl) ?_
    refine lv_iconst (v := 3) hx hb dL_law_1190 (by decide) ?_
    refine lv_irem hx hb dL_law_1191 (by decide) ?_
    refine sy_top (y := nI (y % 3)) (nI_rem (a := y) (b := 3) (by omega) (by omega)) ?_
    refine lv_iconst (v := 1) hx hb dL_law_1192 (by decide) ?_
    refine lv_icmp_ne (tgt := 1225) hx hb dL_law_1193 (by decide) (fun cz9 => absurd ((nI_eq (a := (y % 3)) (b := 1) (by omega) (by omega)).mpr (by omega)) cz9) (fun _ => ?_)
    refine lv_aload_n hx hb dL_law_1196 rfl (lv_at hl 9 rfl) ?_
    refine lv_iload hx hb dL_law_1197 (lv_at hl 3 rfl) ?_
    refine lv_iconst (v := 4) hx hb dL_law_1199 (by decide) ?_
    refine lv_idiv hx hb dL_law_1200 (by decide) ?_
    refine sy_top (y := nI (y / 4)) (nI_div (a := y) (b := 4) (by omega) (by omega)) ?_
    refine lv_sipush (v := 500) hx hb dL_law_1201 (by decide) ?_
    refine lv_irem hx hb dL_law_1204 (by decide) ?_
    refine sy_top (y := nI ((y / 4) % 500)) (nI_rem (a := (y / 4)) (b := 500) (by omega) (by omega)) ?_
    refine lv_sipush (v := 500) hx hb dL_law_1205 (by decide) ?_
    refine lv_iload hx hb dL_law_1208 (lv_at hl 3 rfl) ?_
    refine lv_sipush (v := 2048) hx hb dL_law_1210 (by decide) ?_
    refine lv_idiv hx hb dL_law_1213 (by decide) ?_
    refine sy_top (y := nI (y / 2048)) (nI_div (a := y) (b := 2048) (by omega) (by omega)) ?_
    refine lv_sipush (v := 300) hx hb dL_law_1214 (by decide) ?_
    refine lv_irem hx hb dL_law_1217 (by decide) ?_
    refine sy_top (y := nI ((y / 2048) % 300)) (nI_rem (a := (y / 2048)) (b := 300) (by omega) (by omega)) ?_
    refine lv_iadd hx hb dL_law_1218 ?_
    refine sy_top (y := nI (500 + ((y / 2048) % 300))) (nI_add 500 ((y / 2048) % 300)) ?_
    refine sy_kl (vx_runSW (As := [.ref (ad 60), .int (nI ((y / 4) % 500)), .int (nI (500 + ((y / 2048) % 300)))]) (rest := []) ⟨hx, hb, hml, hown, hts⟩ (mL_amnesty l hfl Z nT nK cT cK ad g q (nI ((y / 4) % 500)) (nI (500 + ((y / 2048) % 300))) hI) (vx_cwSW 3 hts (gl_S uk_2_229 uk_2_230 uk_1_0 uk_2_231) rfl rfl rfl (by decide +kernel) ⟨Nat.le_of_ble_eq_true rfl, Nat.le_of_ble_eq_true rfl⟩) ⟨sPreL_blind _, fun U hU hW => ⟨rfl, ⟨hE.next hS hU hW.alike, by rw [hU]; exact hP⟩, hNc.next hW.alike⟩⟩ rfl rfl hl.1 rfl (lv_room (Nat.le_of_ble_eq_true rfl)) dL_law_1219 ⟨by show _ ≤ 600074; (try dsimp only); omega, by show _ ≤ 7301550; (try dsimp only); omega⟩) hS (fun r g1 q1 H locs e9 hP hS => ?_)
    rcases p_amnesty hI (x := y / 4 % 500) (y := 500 + y / 2048 % 300) (by omega) (by omega) (by omega) with hw | ⟨h1, hI2⟩
    · skip
      obtain ⟨er, eg, eq⟩ := eq_n3 hw e9
      subst er; subst eg; subst eq
      refine lv_goto (tgt := 1244) hx hb dL_law_1222 (by decide) ?_
      refine W.widen (k := 100 + 2000 * k + 10) (n := 4000 + 14000 * k + 100) (by (try dsimp only); omega) (by (try dsimp only); omega) ?_
      exact lc_I2 hC0 hk hy hT0 (by omega) ⟨hP, hI, h70, h71, hS, lv_sub hl [3, 4, 5, 6, 7, 8, 9, 10] rfl⟩ hJ
    · skip
      obtain ⟨zz, hzz⟩ : ∃ zz : Int, (fX6_amnesty g q (nI (y / 4 % 500)) (nI (500 + y / 2048 % 300))).2.1.toInt = zz := ⟨_, rfl⟩
      have bz : -2147483648 ≤ zz ∧ zz < 2147483648 := by rw [← hzz]; exact i32b _
      obtain ⟨er, eg, eq⟩ := eq_y (z := zz) h1 hzz e9
      subst er
      rw [eg, eq] at hI2
      have hI := hI2
      clear e9
      refine lv_goto (tgt := 1244) hx hb dL_law_1222 (by decide) ?_
      refine W.widen (k := 100 + 2000 * k + 10) (n := 4000 + 14000 * k + 100) (by (try dsimp only); omega) (by (try dsimp only); omega) ?_
      exact lc_I2 hC0 hk hy hT0 (by omega) ⟨hP, hI, h70, h71, hS, lv_sub hl [3, 4, 5, 6, 7, 8, 9, 10] rfl⟩ hJ
  · skip
    refine lv_if_ne (tgt := 1188) hx hb dL_law_1164 (by decide) (fun _ => ?_) (fun cz9 => absurd cz9 (mt (nI_eq (a := (y % 3)) (b := 0) (by omega) (by omega)).mp (by omega)))
    refine lv_iload hx hb dL_law_1188 (lv_at hl 3 rfl) ?_
    refine lv_iconst (v := 3) hx hb dL_law_1190 (by decide) ?_
    refine lv_irem hx hb dL_law_1191 (by decide) ?_
    refine sy_top (y := nI (y % 3)) (nI_rem (a := y) (b := 3) (by omega) (by omega)) ?_
    refine lv_iconst (v := 1) hx hb dL_law_1192 (by decide) ?_
    refine lv_icmp_ne (tgt := 1225) hx hb dL_law_1193 (by decide) (fun _ => ?_) (fun cz9 => absurd cz9 (mt (nI_eq (a := (y % 3)) (b := 1) (by omega) (by omega)).mp (by omega)))
    refine lv_aload_n hx hb dL_law_1225 rfl (lv_at hl 9 rfl) ?_
    refine lv_iload hx hb dL_law_1226 (lv_at hl 3 rfl) ?_
    refine lv_iconst (v := 4) hx hb dL_law_1228 (by decide) ?_
    refine lv_idiv hx hb dL_law_1229 (by decide) ?_
    refine sy_top (y := nI (y / 4)) (nI_div (a := y) (b := 4) (by omega) (by omega)) ?_
    refine lv_iconst (v := 4) hx hb dL_law_1230 (by decide) ?_
    refine lv_irem hx hb dL_law_1231 (by decide) ?_
    refine sy_top (y := nI ((y / 4) % 4)) (nI_rem (a := (y / 4)) (b := 4) (by omega) (by omega)) ?_
    refine lv_iload hx hb dL_law_1232 (lv_at hl 3 rfl) ?_
    refine lv_bipush (v := 16) hx hb dL_law_1234 (by decide) ?_
    refine lv_idiv hx hb dL_law_1236 (by decide) ?_
    refine sy_top (y := nI (y / 16)) (nI_div (a := y) (b := 16) (by omega) (by omega)) ?_
    refine lv_sipush (v := 201) hx hb dL_law_1237 (by decide) ?_
    refine lv_irem hx hb dL_law_1240 (by decide) ?_
    refine sy_top (y := nI ((y / 16) % 201)) (nI_rem (a := (y / 16)) (b := 201) (by omega) (by omega)) ?_
    refine sy_kl (vx_runSW (As := [.ref (ad 60), .int (nI ((y / 4) % 4)), .int (nI ((y / 16) % 201))]) (rest := []) ⟨hx, hb, hml, hown, hts⟩ (mL_fashion l hfl Z nT nK cT cK ad g q (nI ((y / 4) % 4)) (nI ((y / 16) % 201)) hI) (vx_cwSW 3 hts (gl_S uk_2_184 uk_2_185 uk_1_0 uk_2_186) rfl rfl rfl (by decide +kernel) ⟨Nat.le_of_ble_eq_true rfl, Nat.le_of_ble_eq_true rfl⟩) ⟨sPreL_blind _, fun U hU hW => ⟨rfl, ⟨hE.next hS hU hW.alike, by rw [hU]; exact hP⟩, hNc.next hW.alike⟩⟩ rfl rfl hl.1 rfl (lv_room (Nat.le_of_ble_eq_true rfl)) dL_law_1241 ⟨by show _ ≤ 600074; (try dsimp only); omega, by show _ ≤ 7301550; (try dsimp only); omega⟩) hS (fun r g1 q1 H locs e9 hP hS => ?_)
    obtain ⟨h1, hI2⟩ := p_fashion hI (k := y / 4 % 4) (h := y / 16 % 201) (by omega) (by omega)
    obtain ⟨zz, hzz⟩ : ∃ zz : Int, (fX6_fashion g q (nI (y / 4 % 4)) (nI (y / 16 % 201))).2.1.toInt = zz := ⟨_, rfl⟩
    have bz : -2147483648 ≤ zz ∧ zz < 2147483648 := by rw [← hzz]; exact i32b _
    obtain ⟨er, eg, eq⟩ := eq_y (z := zz) h1 hzz e9
    subst er
    rw [eg, eq] at hI2
    have hI := hI2
    clear e9
    refine W.widen (k := 100 + 2000 * k + 10) (n := 4000 + 14000 * k + 100) (by (try dsimp only); omega) (by (try dsimp only); omega) ?_
    exact lc_I2 hC0 hk hy hT0 (by omega) ⟨hP, hI, h70, h71, hS, lv_sub hl [3, 4, 5, 6, 7, 8, 9, 10] rfl⟩ hJ
end LWC
