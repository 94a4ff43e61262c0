section LWC
variable {p : Program} {l : Launch} {e : Env} {s : State} {m : MethodId} {below : List Frame} {meth : Method} {c : Code} {b L : Nat} {xs : Nat → Int32} {Z : sZ}
set_option maxHeartbeats 8000000 in
set_option maxRecDepth 100000 in
theorem lc_J (hC : lCtx p l s m meth c b L xs Z) {k : Nat} (hk : k < 48) {nT nK cT cK : Nat} {ad : Nat → Nat} {g : sG} {q : sQ} {H : Heap} {locs : List Loc} {ls : Array Slot} (hT0 : 0 < nT) (hN : ∀ (nT nK cT cK : Nat) (ad : Nat → Nat) (g : sG) (q : sQ) (H : Heap) (locs : List Loc) (ls : Array Slot), 0 < nT → lSt Z s b (k + 1) (k + 2) nT nK cT cK ad g q H locs ls [] → W p l e room_1 s m #[Value.ref b] below meth c H locs (100 + 2000 * (k + 1)) (4000 + 14000 * (k + 1)) (lw_Z below #[Value.ref b] s) (F0 m 56 ls [])) (h : lSt Z s b k (k + 2) nT nK cT cK ad g q H locs ls [])  : W p l e room_1 s m #[Value.ref b] below meth c H locs (100 + 2000 * k + 100) (4000 + 14000 * k + 1000) (lw_Z below #[Value.ref b] s) (F0 m 1280 ls []) := by
  obtain ⟨hx, hb, hr, hml, hown, hts, hX, hbl, hlocks, hZ, hE, hNc, hfl⟩ := hC
  obtain ⟨hP, hI, h70, h71, hS, hl⟩ := h
  have hl : lv_has ls 18 [(6, .int (nI k)), (5, .int 1), (4, .int (nI nK)), (3, .int (nI nT)), (2, .ref (ad 90)), (1, .ref (ad 60)), (0, .ref b)] := hl
  have hT40 := ci_T hI
  have hK40 := ci_K hI
  have hM : ∀ (H : Heap) (locs : List Loc) (ls : Array Slot), Sy Z nT nK cT cK ad g q H → va_S (sy_A Z) s.heap H locs → lv_has ls 18 [(6, .int (nI k)), (5, .int 1), (4, .int (nI nK)), (3, .int (nI nT)), (2, .ref (ad 90)), (1, .ref (ad 60)), (0, .ref b)] → W p l e room_1 s m #[Value.ref b] below meth c H locs (100 + 2000 * k + 1800) (4000 + 14000 * k + 11000) (lw_Z below #[Value.ref b] s) (F0 m 1322 ls []) := by
    intro H locs ls hP hS hl
    refine lv_iload hx hb dL_law_1322 (lv_at hl 0 rfl) ?_
    refine lv_bipush (v := 24) hx hb dL_law_1324 (by decide) ?_
    refine lv_irem hx hb dL_law_1326 (by decide) ?_
    refine sy_top (y := nI (k % 24)) (nI_rem (a := k) (b := 24) (by omega) (by omega)) ?_
    refine lv_bipush (v := 23) hx hb dL_law_1327 (by decide) ?_
    by_cases h24 : k % 24 = 23
    · skip
      refine lv_icmp_ne (tgt := 1351) hx hb dL_law_1329 (by decide) (fun cz9 => absurd ((nI_eq (a := (k % 24)) (b := 23) (by omega) (by omega)).mpr (by omega)) cz9) (fun _ => ?_)
      refine lv_iload hx hb dL_law_1332 (lv_at hl 1 rfl) ?_
      refine lv_if_eq (tgt := 1348) hx hb dL_law_1334 (by decide) (fun cz9 => absurd cz9 (by decide)) (fun _ => ?_)
      refine lv_aload_n hx hb dL_law_1337 rfl (lv_at hl 5 rfl) ?_
      refine sy_ki (va_runS (As := [.ref (ad 60)]) (rest := []) ⟨hx, hb, hml, hown, hts⟩ (nL_refuses l hfl Z nT nK cT cK ad g q hI (by omega) hT0 h70 h71) (va_cwS 1 hts (gl_S uk_4_131 uk_4_132 uk_1_0 uk_4_133) rfl rfl rfl (by decide +kernel) ⟨Nat.le_of_ble_eq_true rfl, Nat.le_of_ble_eq_true rfl⟩) ⟨sPreL_blind _, fun U hU hW => ⟨rfl, ⟨hE.next hS hU hW.alike, by rw [hU]; exact hP⟩, hNc.next hW.alike⟩⟩ rfl rfl hl.1 rfl (lv_room (Nat.le_of_ble_eq_true rfl)) dL_law_1338 ⟨by show _ ≤ 600074; (try dsimp only); omega, by show _ ≤ 7301550; (try dsimp only); omega⟩) hS (fun r g1 q1 H locs e9 hP hS => ?_)
      obtain ⟨er, hI2⟩ := e9
      subst er
      have hI := hI2
      refine lv_if_eq (tgt := 1348) hx hb dL_law_1341 (by decide) (fun cz9 => absurd cz9 (by decide)) (fun _ => ?_)
      refine lv_iconst (v := 1) hx hb dL_law_1344 (by decide) ?_
      refine lv_goto (tgt := 1349) hx hb dL_law_1345 (by decide) ?_
      refine lv_istore (lv' := [(5, .int 1), (6, .int (nI k)), (4, .int (nI nK)), (3, .int (nI nT)), (2, .ref (ad 90)), (1, .ref (ad 60)), (0, .ref b)]) hx hb dL_law_1349 hl (by decide) rfl (fun ls hl => ?_)
      refine lv_iinc (v := nI (k + 1)) (lv' := [(6, .int (nI (k + 1))), (5, .int 1), (4, .int (nI nK)), (3, .int (nI nT)), (2, .ref (ad 90)), (1, .ref (ad 60)), (0, .ref b)]) hx hb dL_law_1351 hl (k := 1) rfl (nI_add k 1) (by decide) rfl (fun ls hl => ?_)
      refine lv_goto (tgt := 56) hx hb dL_law_1354 (by decide) ?_
      refine W.widen (k := 100 + 2000 * (k + 1)) (n := 4000 + 14000 * (k + 1)) (by (try dsimp only); omega) (by (try dsimp only); omega) ?_
      exact hN _ _ _ _ _ _ _ _ _ _ hT0 ⟨hP, hI, h70, h71, hS, lv_sub hl [0, 1, 2, 3, 4, 5, 6] rfl⟩
    · skip
      refine lv_icmp_ne (tgt := 1351) hx hb dL_law_1329 (by decide) (fun _ => ?_) (fun cz9 => absurd cz9 (mt (nI_eq (a := (k % 24)) (b := 23) (by omega) (by omega)).mp (by omega)))
      refine lv_iinc (v := nI (k + 1)) (lv' := [(6, .int (nI (k + 1))), (5, .int 1), (4, .int (nI nK)), (3, .int (nI nT)), (2, .ref (ad 90)), (1, .ref (ad 60)), (0, .ref b)]) hx hb dL_law_1351 hl (k := 0) rfl (nI_add k 1) (by decide) rfl (fun ls hl => ?_)
      refine lv_goto (tgt := 56) hx hb dL_law_1354 (by decide) ?_
      refine W.widen (k := 100 + 2000 * (k + 1)) (n := 4000 + 14000 * (k + 1)) (by (try dsimp only); omega) (by (try dsimp only); omega) ?_
      exact hN _ _ _ _ _ _ _ _ _ _ hT0 ⟨hP, hI, h70, h71, hS, lv_sub hl [0, 1, 2, 3, 4, 5, 6] rfl⟩
  refine lv_iload hx hb dL_law_1280 (lv_at hl 0 rfl) ?_
  refine lv_bipush (v := 8) hx hb dL_law_1282 (by decide) ?_
  refine lv_irem hx hb dL_law_1284 (by decide) ?_
  refine sy_top (y := nI (k % 8)) (nI_rem (a := k) (b := 8) (by omega) (by omega)) ?_
  refine lv_bipush (v := 7) hx hb dL_law_1285 (by decide) ?_
  by_cases h8 : k % 8 = 7
  · skip
    refine lv_icmp_ne (tgt := 1322) hx hb dL_law_1287 (by decide) (fun cz9 => absurd ((nI_eq (a := (k % 8)) (b := 7) (by omega) (by omega)).mpr (by omega)) cz9) (fun _ => ?_)
    refine lv_iload hx hb dL_law_1290 (lv_at hl 1 rfl) ?_
    refine lv_if_eq (tgt := 1319) hx hb dL_law_1292 (by decide) (fun cz9 => absurd cz9 (by decide)) (fun _ => ?_)
    refine lv_aload_n hx hb dL_law_1295 rfl (lv_at hl 5 rfl) ?_
    refine lv_aload_n hx hb dL_law_1296 rfl (lv_at hl 4 rfl) ?_
    refine lv_iload_n hx hb dL_law_1297 rfl (lv_at hl 3 rfl) ?_
    refine lv_iload hx hb dL_law_1298 (lv_at hl 2 rfl) ?_
    refine sy_ki (va_runS (As := [.ref (ad 60), .ref (ad 90), .int (nI nT), .int (nI nK)]) (rest := []) ⟨hx, hb, hml, hown, hts⟩ (nL_thingsHold l hfl Z nT nK cT cK ad g q hI) (va_cwS 4 hts (gl_S uk_4_95 uk_4_96 uk_1_0 uk_4_97) rfl rfl rfl (by decide +kernel) ⟨Nat.le_of_ble_eq_true rfl, Nat.le_of_ble_eq_true rfl⟩) ⟨sPreL_blind _, fun U hU hW => ⟨rfl, ⟨hE.next hS hU hW.alike, by rw [hU]; exact hP⟩, hNc.next hW.alike⟩⟩ rfl rfl hl.1 rfl (lv_room (Nat.le_of_ble_eq_true rfl)) dL_law_1300 ⟨by show _ ≤ 600074; (try dsimp only); omega, by show _ ≤ 7301550; (try dsimp only); omega⟩) hS (fun r gz qz H locs e9 hP hS => ?_)
    obtain ⟨er, eg, eq⟩ := e9
    subst er
    replace eg := eg.symm
    replace eq := eq.symm
    subst eg
    subst eq
    refine lv_if_eq (tgt := 1319) hx hb dL_law_1303 (by decide) (fun cz9 => absurd cz9 (by decide)) (fun _ => ?_)
    refine lv_aload_n hx hb dL_law_1306 rfl (lv_at hl 5 rfl) ?_
    refine lv_iload hx hb dL_law_1307 (lv_at hl 2 rfl) ?_
    refine sy_ki (va_runS (As := [.ref (ad 60), .int (nI nK)]) (rest := []) ⟨hx, hb, hml, hown, hts⟩ (nL_moneyHolds l hfl Z nT nK cT cK ad g q hI (by omega)) (va_cwS 2 hts (gl_S uk_4_107 uk_4_108 uk_1_0 uk_4_109) rfl rfl rfl (by decide +kernel) ⟨Nat.le_of_ble_eq_true rfl, Nat.le_of_ble_eq_true rfl⟩) ⟨sPreL_blind _, fun U hU hW => ⟨rfl, ⟨hE.next hS hU hW.alike, by rw [hU]; exact hP⟩, hNc.next hW.alike⟩⟩ rfl rfl hl.1 rfl (lv_room (Nat.le_of_ble_eq_true rfl)) dL_law_1309 ⟨by show _ ≤ 600074; (try dsimp only); omega, by show _ ≤ 7301550; (try dsimp only); omega⟩) hS (fun r gz qz H locs e9 hP hS => ?_)
    obtain ⟨er, eg, eq⟩ := e9
    subst er
    replace eg := eg.symm
    replace eq := eq.symm
    subst eg
    subst eq
    refine lv_if_eq (tgt := 1319) hx hb dL_law_1312 (by decide) (fun cz9 => absurd cz9 (by decide)) (fun _ => ?_)
    refine lv_iconst (v := 1) hx hb dL_law_1315 (by decide) ?_
    refine lv_goto (tgt := 1320) hx hb dL_law_1316 (by decide) ?_
    refine lv_istore (lv' := [(5, .int 1), (6, .int (nI k)), (4, .int (nI nK)), (3, .int (nI nT)), (2, .ref (ad 90)), (1, .ref (ad 60)), (0, .ref b)]) hx hb dL_law_1320 hl (by decide) rfl (fun ls hl => ?_)
    refine W.widen (k := 100 + 2000 * k + 1800) (n := 4000 + 14000 * k + 11000) (by (try dsimp only); omega) (by (try dsimp only); omega) ?_
    exact hM _ _ _ hP hS (lv_sub hl [1, 0, 2, 3, 4, 5, 6] rfl)
  · skip
    refine lv_icmp_ne (tgt := 1322) hx hb dL_law_1287 (by decide) (fun _ => ?_) (fun cz9 => absurd cz9 (mt (nI_eq (a := (k % 8)) (b := 7) (by omega) (by omega)).mp (by omega)))
    refine W.widen (k := 100 + 2000 * k + 1800) (n := 4000 + 14000 * k + 11000) (by (try dsimp only); omega) (by (try dsimp only); omega) ?_
    exact hM _ _ _ hP hS (lv_sub hl [0, 1, 2, 3, 4, 5, 6] rfl)
end LWC
