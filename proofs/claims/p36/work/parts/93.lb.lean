section LWC
variable {p : Program} {l : Launch} {e : Env} {s : State} {m : MethodId} {below : List Frame} {meth : Method} {c : Code} {b L : Nat} {xs : Nat → Int32} {Z : sZ}
set_option maxHeartbeats 8000000 in
set_option maxRecDepth 100000 in
theorem lc_B (hC : lCtx p l s m meth c b L xs Z) {k : Nat} (hk : k < 48) {nT nK cT cK : Nat} {ad : Nat → Nat} {g : sG} {q : sQ} {H : Heap} {locs : List Loc} {ls : Array Slot} {wh q9 c9 y : Nat} (hy : y < 2147483648) (hwh : wh = 4) (hT0 : 0 < nT) (hq9 : q9 < nT) (h : lSt Z s b k (k + 1) nT nK cT cK ad g q H locs ls [(11, .int (nI c9)), (10, .int (nI q9)), (9, .int (nI wh)), (8, .int (nI y))]) (hJ : ∀ (nT nK cT cK : Nat) (ad : Nat → Nat) (g : sG) (q : sQ) (H : Heap) (locs : List Loc) (ls : Array Slot), 0 < nT → lSt Z s b k (k + 2) nT nK cT cK ad g q H locs ls [] → W p l e room_1 s m #[Value.ref b] below meth c H locs (100 + 2000 * k + 100) (4000 + 12000 * k + 1000) (lw_Z below #[Value.ref b] s) (F0 m 1280 ls [])) : W p l e room_1 s m #[Value.ref b] below meth c H locs (100 + 2000 * k) (4000 + 12000 * k) (lw_Z below #[Value.ref b] s) (F0 m 133 ls []) := by
  obtain ⟨hx, hb, hr, hml, hown, hts, hX, hbl, hlocks, hZ, hE, hNc, hfl⟩ := hC
  obtain ⟨hP, hI, h70, h71, hS, hl⟩ := h
  have hT40 := ci_T hI
  have hK40 := ci_K hI
  refine lv_iload hx hb dL_law_133 (lv_at hl 2 rfl) ?_
  refine lv_iconst (v := 4) hx hb dL_law_135 (by decide) ?_
  refine lv_icmp_lt (tgt := 143) hx hb dL_law_136 (by decide) (fun c9 => absurd c9 (mt (nI_ltI (a := wh) (b := 4) (by omega) (by omega)).mp (by omega))) (fun _ => ?_)
  refine lv_iload_n hx hb dL_law_139 rfl (lv_at hl 7 rfl) ?_
  refine lv_if_ne (tgt := 377) hx hb dL_law_140 (by decide) (fun _ => ?_) (fun c9 => absurd c9 (mt (nI_eq (a := nT) (b := 0) (by omega) (by omega)).mp (by omega)))
  refine lv_iload hx hb dL_law_377 (lv_at hl 2 rfl) ?_
  refine lv_iconst (v := 4) hx hb dL_law_379 (by decide) ?_
  refine lv_icmp_ne (tgt := 506) hx hb dL_law_380 (by decide) (fun c9 => absurd ((nI_eq (a := wh) (b := 4) (by omega) (by omega)).mpr (by omega)) c9) (fun _ => ?_)
  refine lv_iconst (v := 1) hx hb dL_law_383 (by decide) ?_
  refine lv_iload hx hb dL_law_384 (lv_at hl 3 rfl) ?_
  refine lv_bipush (v := 16) hx hb dL_law_386 (by decide) ?_
  refine lv_idiv hx hb dL_law_388 (by decide) ?_
  refine sy_top (y := nI (y / 16)) (nI_div (a := y) (b := 16) (by omega) (by omega)) ?_
  refine lv_bipush (v := 100) hx hb dL_law_389 (by decide) ?_
  refine lv_irem hx hb dL_law_391 (by decide) ?_
  refine sy_top (y := nI ((y / 16) % 100)) (nI_rem (a := (y / 16)) (b := 100) (by omega) (by omega)) ?_
  refine lv_iadd hx hb dL_law_392 ?_
  refine sy_top (y := nI (1 + ((y / 16) % 100))) (nI_add 1 ((y / 16) % 100)) ?_
  refine lv_istore (lv' := [(12, .int (nI (1 + ((y / 16) % 100)))), (11, .int (nI c9)), (10, .int (nI q9)), (9, .int (nI wh)), (8, .int (nI y)), (6, .int (nI k)), (5, .int 1), (4, .int (nI nK)), (3, .int (nI nT)), (2, .ref (ad 90)), (1, .ref (ad 60)), (0, .ref b)]) hx hb dL_law_393 hl (by decide) rfl (fun ls hl => ?_)
  refine lv_aload_n hx hb dL_law_395 rfl (lv_at hl 10 rfl) ?_
  refine lv_iload hx hb dL_law_396 (lv_at hl 2 rfl) ?_
  refine lv_iconst (v := 3) hx hb dL_law_398 (by decide) ?_
  rcases p_pledge (x5 := 0) hI (by omega) (pp := y % 3) (i := q9) (X := y / 8 % 4) (b := y / 32 % 3) (l := (1 + ((y / 16) % 100))) (by omega) hq9 (by omega) (by omega) (by omega) with hw | ⟨h5, h6, h1, h2, hI2, h3, h4⟩
  · skip
    have hM : ∀ (H : Heap) (locs : List Loc), Sy Z nT nK cT cK ad g q H → va_S (sy_A Z) s.heap H locs → ∀ iso : Int32, W p l e room_1 s m #[Value.ref b] below meth c H locs (100 + 2000 * k + 10) (4000 + 12000 * k + 100) (lw_Z below #[Value.ref b] s) (F0 m 425 ls [.int iso]) := by
      intro H locs hP hS iso
      refine lv_istore (lv' := [(13, .int iso), (12, .int (nI (1 + ((y / 16) % 100)))), (11, .int (nI c9)), (10, .int (nI q9)), (9, .int (nI wh)), (8, .int (nI y)), (6, .int (nI k)), (5, .int 1), (4, .int (nI nK)), (3, .int (nI nT)), (2, .ref (ad 90)), (1, .ref (ad 60)), (0, .ref b)]) hx hb dL_law_425 hl (by decide) rfl (fun ls hl => ?_)
      refine lv_aload_n hx hb dL_law_427 rfl (lv_at hl 11 rfl) ?_
      refine lv_iload hx hb dL_law_428 (lv_at hl 5 rfl) ?_
      refine lv_iconst (v := 3) hx hb dL_law_430 (by decide) ?_
      refine lv_irem hx hb dL_law_431 (by decide) ?_
      refine sy_top (y := nI (y % 3)) (nI_rem (a := y) (b := 3) (by omega) (by omega)) ?_
      refine lv_iload hx hb dL_law_432 (lv_at hl 3 rfl) ?_
      refine lv_iload hx hb dL_law_434 (lv_at hl 5 rfl) ?_
      refine lv_bipush (v := 8) hx hb dL_law_436 (by decide) ?_
      refine lv_idiv hx hb dL_law_438 (by decide) ?_
      refine sy_top (y := nI (y / 8)) (nI_div (a := y) (b := 8) (by omega) (by omega)) ?_
      refine lv_iconst (v := 4) hx hb dL_law_439 (by decide) ?_
      refine lv_irem hx hb dL_law_440 (by decide) ?_
      refine sy_top (y := nI ((y / 8) % 4)) (nI_rem (a := (y / 8)) (b := 4) (by omega) (by omega)) ?_
      refine lv_iload hx hb dL_law_441 (lv_at hl 5 rfl) ?_
      refine lv_bipush (v := 32) hx hb dL_law_443 (by decide) ?_
      refine lv_idiv hx hb dL_law_445 (by decide) ?_
      refine sy_top (y := nI (y / 32)) (nI_div (a := y) (b := 32) (by omega) (by omega)) ?_
      refine lv_iconst (v := 3) hx hb dL_law_446 (by decide) ?_
      refine lv_irem hx hb dL_law_447 (by decide) ?_
      refine sy_top (y := nI ((y / 32) % 3)) (nI_rem (a := (y / 32)) (b := 3) (by omega) (by omega)) ?_
      refine lv_iload hx hb dL_law_448 (lv_at hl 1 rfl) ?_
      refine lv_iconst (v := 0) hx hb dL_law_450 (by decide) ?_
      refine va_calll (vx_runSW (As := [.ref (ad 60), .int (nI (y % 3)), .int (nI q9), .int (nI ((y / 8) % 4)), .int (nI ((y / 32) % 3)), .int (nI (1 + ((y / 16) % 100))), .int 0]) (rest := []) ⟨hx, hb, hml, hown, hts⟩ (mL_pledge l hfl Z nT nK cT cK ad g q (nI (y % 3)) (nI q9) (nI ((y / 8) % 4)) (nI ((y / 32) % 3)) (nI (1 + ((y / 16) % 100))) 0 hI (Or.inl rfl) h71) (vx_cwSW 7 hts (gl_S uk_3_5 uk_3_6 uk_1_0 uk_3_7) rfl rfl rfl (by decide +kernel) ⟨Nat.le_of_ble_eq_true rfl, Nat.le_of_ble_eq_true rfl⟩) ⟨sPreL_blind _, fun U hU hW => ⟨rfl, ⟨hE.next hS hU hW.alike, by rw [hU]; exact hP⟩, hNc.next hW.alike⟩⟩ rfl rfl hl.1 rfl (lv_room (Nat.le_of_ble_eq_true rfl)) dL_law_451 ⟨by show _ ≤ 600074; (try dsimp only); omega, by show _ ≤ 7301550; (try dsimp only); omega⟩) hS (fun _ _ h => h) (fun _ h => h) (fun r u t H locs ht _ hp hB _ _ hS => ?_)
      obtain ⟨ad1, g1, q1⟩ := u
      obtain ⟨-, hB1, hB2⟩ := hB
      rw [ht] at hB1 hB2
      obtain ⟨er, hp⟩ := hp
      dsimp only at hp hB1
      rw [hw] at er hB2
      have hP := hB2 (show (3 : Int32) ≠ 0 by decide)
      subst er
      refine sy_topL (y := lI (-9000000000000000003)) rfl ?_
      refine lv_lstore (lv' := [(14, .long (lI (-9000000000000000003))), (13, .int iso), (12, .int (nI (1 + ((y / 16) % 100)))), (11, .int (nI c9)), (10, .int (nI q9)), (9, .int (nI wh)), (8, .int (nI y)), (6, .int (nI k)), (5, .int 1), (4, .int (nI nK)), (3, .int (nI nT)), (2, .ref (ad 90)), (1, .ref (ad 60)), (0, .ref b)]) hx hb dL_law_454 hl (by decide) rfl (fun ls hl => ?_)
      refine lv_lload hx hb dL_law_456 (lv_at hl 0 rfl) ?_
      refine lv_ldc2 (v := lI (-9000000000000000003)) hx hb hown (hts _ (wsU_tbl uk_2_183)) dL_law_458 ?_
      refine W.lcmp hx hb dL_law_461 ?_
      refine lv_if_eq (tgt := 479) hx hb dL_law_462 (by decide) (fun _ => ?_) (fun c9 => absurd (c_eq (a := (-9000000000000000003)) (b := (-9000000000000000003)) (by omega)) c9)
      refine lv_iconst (v := 1) hx hb dL_law_479 (by decide) ?_
      refine lv_goto (tgt := 484) hx hb dL_law_480 (by decide) ?_
      refine lv_istore (lv' := [(5, .int 1), (14, .long (lI (-9000000000000000003))), (13, .int iso), (12, .int (nI (1 + ((y / 16) % 100)))), (11, .int (nI c9)), (10, .int (nI q9)), (9, .int (nI wh)), (8, .int (nI y)), (6, .int (nI k)), (4, .int (nI nK)), (3, .int (nI nT)), (2, .ref (ad 90)), (1, .ref (ad 60)), (0, .ref b)]) hx hb dL_law_484 hl (by decide) rfl (fun ls hl => ?_)
      refine lv_iload hx hb dL_law_486 (lv_at hl 9 rfl) ?_
      refine lv_lload hx hb dL_law_488 (lv_at hl 1 rfl) ?_
      refine lv_lconst (v := lI 0) hx hb dL_law_490 rfl ?_
      refine W.lcmp hx hb dL_law_491 ?_
      refine lv_if_lt (tgt := 499) hx hb dL_law_492 (by decide) (fun _ => ?_) (fun c9 => absurd (by rw [(c_lt (a := (-9000000000000000003)) (b := 0) (by omega) (by omega) (by omega))]; decide) c9)
      refine lv_iconst (v := 0) hx hb dL_law_499 (by decide) ?_
      refine lv_iadd hx hb dL_law_500 ?_
      refine sy_top (y := nI (nK + 0)) (nI_add nK 0) ?_
      refine lv_istore (lv' := [(4, .int (nI (nK + 0))), (5, .int 1), (14, .long (lI (-9000000000000000003))), (13, .int iso), (12, .int (nI (1 + ((y / 16) % 100)))), (11, .int (nI c9)), (10, .int (nI q9)), (9, .int (nI wh)), (8, .int (nI y)), (6, .int (nI k)), (3, .int (nI nT)), (2, .ref (ad 90)), (1, .ref (ad 60)), (0, .ref b)]) hx hb dL_law_501 hl (by decide) rfl (fun ls hl => ?_)
      refine lv_goto (tgt := 1280) hx hb dL_law_503 (by decide) ?_
      refine W.widen (k := 100 + 2000 * k + 100) (n := 4000 + 12000 * k + 1000) (by (try dsimp only); omega) (by (try dsimp only); omega) ?_
      exact hJ _ _ _ _ _ _ _ _ _ _ (by omega) ⟨hP, (ci_n (by omega) hI), h70, h71, hS, lv_sub hl [9, 1, 0, 10, 11, 12, 13] rfl⟩
    by_cases h5 : g (100 + q9) 5 = 0
    · skip
      refine sy_kl (vx_runSW (As := [.ref (ad 60), .int (nI q9), .int 3]) (rest := []) ⟨hx, hb, hml, hown, hts⟩ (mL_thingOf l hfl Z nT nK cT cK ad g q (nI q9) 3 hI) (vx_cwSW 3 hts (gl_S uk_4_46 uk_4_47 uk_1_0 uk_4_48) rfl rfl rfl (by decide +kernel) ⟨Nat.le_of_ble_eq_true rfl, Nat.le_of_ble_eq_true rfl⟩) ⟨sPreL_blind _, fun U hU hW => ⟨rfl, ⟨hE.next hS hU hW.alike, by rw [hU]; exact hP⟩, hNc.next hW.alike⟩⟩ rfl rfl hl.1 rfl (lv_room (Nat.le_of_ble_eq_true rfl)) dL_law_399 ⟨by show _ ≤ 600074; (try dsimp only); omega, by show _ ≤ 7301550; (try dsimp only); omega⟩) hS (fun r gz qz H locs e9 hP hS => ?_)
      obtain ⟨er, eg, eq⟩ := eq_q (z := 0) (a_T hI hq9).2.1 (by rw [if_pos h5]; rfl) e9
      subst er; subst eg; subst eq
      refine lv_lconst (v := lI 0) hx hb dL_law_402 rfl ?_
      refine W.lcmp hx hb dL_law_403 ?_
      refine lv_if_ne (tgt := 424) hx hb dL_law_404 (by decide) (fun c9 => absurd (c_eq (a := 0) (b := 0) (by omega)) c9) (fun _ => ?_)
      refine lv_aload_n hx hb dL_law_407 rfl (lv_at hl 10 rfl) ?_
      refine lv_iload hx hb dL_law_408 (lv_at hl 2 rfl) ?_
      refine lv_bipush (v := 6) hx hb dL_law_410 (by decide) ?_
      by_cases h6 : g (100 + q9) 6 = 0
      · skip
        refine sy_kl (vx_runSW (As := [.ref (ad 60), .int (nI q9), .int 6]) (rest := []) ⟨hx, hb, hml, hown, hts⟩ (mL_thingOf l hfl Z nT nK cT cK ad g q (nI q9) 6 hI) (vx_cwSW 3 hts (gl_S uk_4_46 uk_4_47 uk_1_0 uk_4_48) rfl rfl rfl (by decide +kernel) ⟨Nat.le_of_ble_eq_true rfl, Nat.le_of_ble_eq_true rfl⟩) ⟨sPreL_blind _, fun U hU hW => ⟨rfl, ⟨hE.next hS hU hW.alike, by rw [hU]; exact hP⟩, hNc.next hW.alike⟩⟩ rfl rfl hl.1 rfl (lv_room (Nat.le_of_ble_eq_true rfl)) dL_law_412 ⟨by show _ ≤ 600074; (try dsimp only); omega, by show _ ≤ 7301550; (try dsimp only); omega⟩) hS (fun r gz qz H locs e9 hP hS => ?_)
        obtain ⟨er, eg, eq⟩ := eq_q (z := 0) (a_T hI hq9).2.2.2.2 (by rw [if_pos h6]; rfl) e9
        subst er; subst eg; subst eq
        refine lv_lconst (v := lI 0) hx hb dL_law_415 rfl ?_
        refine W.lcmp hx hb dL_law_416 ?_
        refine lv_if_ne (tgt := 424) hx hb dL_law_417 (by decide) (fun c9 => absurd (c_eq (a := 0) (b := 0) (by omega)) c9) (fun _ => ?_)
        refine lv_iconst (v := 1) hx hb dL_law_420 (by decide) ?_
        refine lv_goto (tgt := 425) hx hb dL_law_421 (by decide) ?_
        refine W.widen (k := 100 + 2000 * k + 10) (n := 4000 + 12000 * k + 100) (by (try dsimp only); omega) (by (try dsimp only); omega) ?_
        exact hM _ _ hP hS _
      · skip
        refine sy_kl (vx_runSW (As := [.ref (ad 60), .int (nI q9), .int 6]) (rest := []) ⟨hx, hb, hml, hown, hts⟩ (mL_thingOf l hfl Z nT nK cT cK ad g q (nI q9) 6 hI) (vx_cwSW 3 hts (gl_S uk_4_46 uk_4_47 uk_1_0 uk_4_48) rfl rfl rfl (by decide +kernel) ⟨Nat.le_of_ble_eq_true rfl, Nat.le_of_ble_eq_true rfl⟩) ⟨sPreL_blind _, fun U hU hW => ⟨rfl, ⟨hE.next hS hU hW.alike, by rw [hU]; exact hP⟩, hNc.next hW.alike⟩⟩ rfl rfl hl.1 rfl (lv_room (Nat.le_of_ble_eq_true rfl)) dL_law_412 ⟨by show _ ≤ 600074; (try dsimp only); omega, by show _ ≤ 7301550; (try dsimp only); omega⟩) hS (fun r gz qz H locs e9 hP hS => ?_)
        obtain ⟨er, eg, eq⟩ := eq_q (z := 1) (a_T hI hq9).2.2.2.2 (by rw [if_neg h6]; rfl) e9
        subst er; subst eg; subst eq
        refine lv_lconst (v := lI 0) hx hb dL_law_415 rfl ?_
        refine W.lcmp hx hb dL_law_416 ?_
        refine lv_if_ne (tgt := 424) hx hb dL_law_417 (by decide) (fun _ => ?_) (fun c9 => absurd c9 (c_ne (a := 1) (b := 0) (by omega) (by omega) (by omega)))
        refine lv_iconst (v := 0) hx hb dL_law_424 (by decide) ?_
        refine W.widen (k := 100 + 2000 * k + 10) (n := 4000 + 12000 * k + 100) (by (try dsimp only); omega) (by (try dsimp only); omega) ?_
        exact hM _ _ hP hS _
    · skip
      refine sy_kl (vx_runSW (As := [.ref (ad 60), .int (nI q9), .int 3]) (rest := []) ⟨hx, hb, hml, hown, hts⟩ (mL_thingOf l hfl Z nT nK cT cK ad g q (nI q9) 3 hI) (vx_cwSW 3 hts (gl_S uk_4_46 uk_4_47 uk_1_0 uk_4_48) rfl rfl rfl (by decide +kernel) ⟨Nat.le_of_ble_eq_true rfl, Nat.le_of_ble_eq_true rfl⟩) ⟨sPreL_blind _, fun U hU hW => ⟨rfl, ⟨hE.next hS hU hW.alike, by rw [hU]; exact hP⟩, hNc.next hW.alike⟩⟩ rfl rfl hl.1 rfl (lv_room (Nat.le_of_ble_eq_true rfl)) dL_law_399 ⟨by show _ ≤ 600074; (try dsimp only); omega, by show _ ≤ 7301550; (try dsimp only); omega⟩) hS (fun r gz qz H locs e9 hP hS => ?_)
      obtain ⟨er, eg, eq⟩ := eq_q (z := 1) (a_T hI hq9).2.1 (by rw [if_neg h5]; rfl) e9
      subst er; subst eg; subst eq
      refine lv_lconst (v := lI 0) hx hb dL_law_402 rfl ?_
      refine W.lcmp hx hb dL_law_403 ?_
      refine lv_if_ne (tgt := 424) hx hb dL_law_404 (by decide) (fun _ => ?_) (fun c9 => absurd c9 (c_ne (a := 1) (b := 0) (by omega) (by omega) (by omega)))
      refine lv_iconst (v := 0) hx hb dL_law_424 (by decide) ?_
      refine W.widen (k := 100 + 2000 * k + 10) (n := 4000 + 12000 * k + 100) (by (try dsimp only); omega) (by (try dsimp only); omega) ?_
      exact hM _ _ hP hS _
  · skip
    refine sy_kl (vx_runSW (As := [.ref (ad 60), .int (nI q9), .int 3]) (rest := []) ⟨hx, hb, hml, hown, hts⟩ (mL_thingOf l hfl Z nT nK cT cK ad g q (nI q9) 3 hI) (vx_cwSW 3 hts (gl_S uk_4_46 uk_4_47 uk_1_0 uk_4_48) rfl rfl rfl (by decide +kernel) ⟨Nat.le_of_ble_eq_true rfl, Nat.le_of_ble_eq_true rfl⟩) ⟨sPreL_blind _, fun U hU hW => ⟨rfl, ⟨hE.next hS hU hW.alike, by rw [hU]; exact hP⟩, hNc.next hW.alike⟩⟩ rfl rfl hl.1 rfl (lv_room (Nat.le_of_ble_eq_true rfl)) dL_law_399 ⟨by show _ ≤ 600074; (try dsimp only); omega, by show _ ≤ 7301550; (try dsimp only); omega⟩) hS (fun r gz qz H locs e9 hP hS => ?_)
    obtain ⟨er, eg, eq⟩ := eq_q (z := 0) (a_T hI hq9).2.1 (by rw [if_pos h5]; rfl) e9
    subst er; subst eg; subst eq
    refine lv_lconst (v := lI 0) hx hb dL_law_402 rfl ?_
    refine W.lcmp hx hb dL_law_403 ?_
    refine lv_if_ne (tgt := 424) hx hb dL_law_404 (by decide) (fun c9 => absurd (c_eq (a := 0) (b := 0) (by omega)) c9) (fun _ => ?_)
    refine lv_aload_n hx hb dL_law_407 rfl (lv_at hl 10 rfl) ?_
    refine lv_iload hx hb dL_law_408 (lv_at hl 2 rfl) ?_
    refine lv_bipush (v := 6) hx hb dL_law_410 (by decide) ?_
    refine sy_kl (vx_runSW (As := [.ref (ad 60), .int (nI q9), .int 6]) (rest := []) ⟨hx, hb, hml, hown, hts⟩ (mL_thingOf l hfl Z nT nK cT cK ad g q (nI q9) 6 hI) (vx_cwSW 3 hts (gl_S uk_4_46 uk_4_47 uk_1_0 uk_4_48) rfl rfl rfl (by decide +kernel) ⟨Nat.le_of_ble_eq_true rfl, Nat.le_of_ble_eq_true rfl⟩) ⟨sPreL_blind _, fun U hU hW => ⟨rfl, ⟨hE.next hS hU hW.alike, by rw [hU]; exact hP⟩, hNc.next hW.alike⟩⟩ rfl rfl hl.1 rfl (lv_room (Nat.le_of_ble_eq_true rfl)) dL_law_412 ⟨by show _ ≤ 600074; (try dsimp only); omega, by show _ ≤ 7301550; (try dsimp only); omega⟩) hS (fun r gz qz H locs e9 hP hS => ?_)
    obtain ⟨er, eg, eq⟩ := eq_q (z := 0) (a_T hI hq9).2.2.2.2 (by rw [if_pos h6]; rfl) e9
    subst er; subst eg; subst eq
    refine lv_lconst (v := lI 0) hx hb dL_law_415 rfl ?_
    refine W.lcmp hx hb dL_law_416 ?_
    refine lv_if_ne (tgt := 424) hx hb dL_law_417 (by decide) (fun c9 => absurd (c_eq (a := 0) (b := 0) (by omega)) c9) (fun _ => ?_)
    refine lv_iconst (v := 1) hx hb dL_law_420 (by decide) ?_
    refine lv_goto (tgt := 425) hx hb dL_law_421 (by decide) ?_
    refine lv_istore (lv' := [(13, .int 1), (12, .int (nI (1 + ((y / 16) % 100)))), (11, .int (nI c9)), (10, .int (nI q9)), (9, .int (nI wh)), (8, .int (nI y)), (6, .int (nI k)), (5, .int 1), (4, .int (nI nK)), (3, .int (nI nT)), (2, .ref (ad 90)), (1, .ref (ad 60)), (0, .ref b)]) hx hb dL_law_425 hl (by decide) rfl (fun ls hl => ?_)
    refine lv_aload_n hx hb dL_law_427 rfl (lv_at hl 11 rfl) ?_
    refine lv_iload hx hb dL_law_428 (lv_at hl 5 rfl) ?_
    refine lv_iconst (v := 3) hx hb dL_law_430 (by decide) ?_
    refine lv_irem hx hb dL_law_431 (by decide) ?_
    refine sy_top (y := nI (y % 3)) (nI_rem (a := y) (b := 3) (by omega) (by omega)) ?_
    refine lv_iload hx hb dL_law_432 (lv_at hl 3 rfl) ?_
    refine lv_iload hx hb dL_law_434 (lv_at hl 5 rfl) ?_
    refine lv_bipush (v := 8) hx hb dL_law_436 (by decide) ?_
    refine lv_idiv hx hb dL_law_438 (by decide) ?_
    refine sy_top (y := nI (y / 8)) (nI_div (a := y) (b := 8) (by omega) (by omega)) ?_
    refine lv_iconst (v := 4) hx hb dL_law_439 (by decide) ?_
    refine lv_irem hx hb dL_law_440 (by decide) ?_
    refine sy_top (y := nI ((y / 8) % 4)) (nI_rem (a := (y / 8)) (b := 4) (by omega) (by omega)) ?_
    refine lv_iload hx hb dL_law_441 (lv_at hl 5 rfl) ?_
    refine lv_bipush (v := 32) hx hb dL_law_443 (by decide) ?_
    refine lv_idiv hx hb dL_law_445 (by decide) ?_
    refine sy_top (y := nI (y / 32)) (nI_div (a := y) (b := 32) (by omega) (by omega)) ?_
    refine lv_iconst (v := 3) hx hb dL_law_446 (by decide) ?_
    refine lv_irem hx hb dL_law_447 (by decide) ?_
    refine sy_top (y := nI ((y / 32) % 3)) (nI_rem (a := (y / 32)) (b := 3) (by omega) (by omega)) ?_
    refine lv_iload hx hb dL_law_448 (lv_at hl 1 rfl) ?_
    refine lv_iconst (v := 0) hx hb dL_law_450 (by decide) ?_
    refine va_calll (vx_runSW (As := [.ref (ad 60), .int (nI (y % 3)), .int (nI q9), .int (nI ((y / 8) % 4)), .int (nI ((y / 32) % 3)), .int (nI (1 + ((y / 16) % 100))), .int 0]) (rest := []) ⟨hx, hb, hml, hown, hts⟩ (mL_pledge l hfl Z nT nK cT cK ad g q (nI (y % 3)) (nI q9) (nI ((y / 8) % 4)) (nI ((y / 32) % 3)) (nI (1 + ((y / 16) % 100))) 0 hI (Or.inl rfl) h71) (vx_cwSW 7 hts (gl_S uk_3_5 uk_3_6 uk_1_0 uk_3_7) rfl rfl rfl (by decide +kernel) ⟨Nat.le_of_ble_eq_true rfl, Nat.le_of_ble_eq_true rfl⟩) ⟨sPreL_blind _, fun U hU hW => ⟨rfl, ⟨hE.next hS hU hW.alike, by rw [hU]; exact hP⟩, hNc.next hW.alike⟩⟩ rfl rfl hl.1 rfl (lv_room (Nat.le_of_ble_eq_true rfl)) dL_law_451 ⟨by show _ ≤ 600074; (try dsimp only); omega, by show _ ≤ 7301550; (try dsimp only); omega⟩) hS (fun _ _ h => h) (fun _ h => h) (fun r u t H locs ht _ hp hB _ _ hS => ?_)
    obtain ⟨ad1, g1, q1⟩ := u
    obtain ⟨-, hB1, hB2⟩ := hB
    rw [ht] at hB1 hB2
    obtain ⟨er, hp⟩ := hp
    dsimp only at hp hB1
    have hP := hB1 h1
    obtain ⟨had, eg, eq⟩ := hp h1
    rw [h1, h2] at er
    subst er
    rw [← eg, ← eq] at hI2
    have hI := hI2
    clear eg eq h1 h2 h3 h4
    have h60 := had 60 (by omega) (by omega)
    have h90 := had 90 (by omega) (by omega)
    rw [← h60, ← h90] at hl
    refine sy_topL (y := lI ((nK : Nat) : Int)) (nI_L (by omega)) ?_
    refine lv_lstore (lv' := [(14, .long (lI ((nK : Nat) : Int))), (13, .int 1), (12, .int (nI (1 + ((y / 16) % 100)))), (11, .int (nI c9)), (10, .int (nI q9)), (9, .int (nI wh)), (8, .int (nI y)), (6, .int (nI k)), (5, .int 1), (4, .int (nI nK)), (3, .int (nI nT)), (2, .ref (ad1 90)), (1, .ref (ad1 60)), (0, .ref b)]) hx hb dL_law_454 hl (by decide) rfl (fun ls hl => ?_)
    refine lv_lload hx hb dL_law_456 (lv_at hl 0 rfl) ?_
    refine lv_ldc2 (v := lI (-9000000000000000003)) hx hb hown (hts _ (wsU_tbl uk_2_183)) dL_law_458 ?_
    refine W.lcmp hx hb dL_law_461 ?_
    refine lv_if_eq (tgt := 479) hx hb dL_law_462 (by decide) (fun c9 => absurd c9 (c_ne (a := ((nK : Nat) : Int)) (b := (-9000000000000000003)) (by omega) (by omega) (by omega))) (fun _ => ?_)
    refine lv_iload hx hb dL_law_465 (lv_at hl 1 rfl) ?_
    refine lv_if_eq (tgt := 483) hx hb dL_law_467 (by decide) (fun c9 => absurd c9 (by decide)) (fun _ => ?_)
    refine lv_lload hx hb dL_law_470 (lv_at hl 0 rfl) ?_
    refine lv_iload hx hb dL_law_472 (lv_at hl 9 rfl) ?_
    refine lv_i2l (v := lI ((nK : Nat) : Int)) hx hb dL_law_474 (nI_L (by omega)) ?_
    refine W.lcmp hx hb dL_law_475 ?_
    refine lv_if_ne (tgt := 483) hx hb dL_law_476 (by decide) (fun c9 => absurd (c_eq (a := ((nK : Nat) : Int)) (b := ((nK : Nat) : Int)) (by omega)) c9) (fun _ => ?_)
    refine lv_iconst (v := 1) hx hb dL_law_479 (by decide) ?_
    refine lv_goto (tgt := 484) hx hb dL_law_480 (by decide) ?_
    refine lv_istore (lv' := [(5, .int 1), (14, .long (lI ((nK : Nat) : Int))), (13, .int 1), (12, .int (nI (1 + ((y / 16) % 100)))), (11, .int (nI c9)), (10, .int (nI q9)), (9, .int (nI wh)), (8, .int (nI y)), (6, .int (nI k)), (4, .int (nI nK)), (3, .int (nI nT)), (2, .ref (ad1 90)), (1, .ref (ad1 60)), (0, .ref b)]) hx hb dL_law_484 hl (by decide) rfl (fun ls hl => ?_)
    refine lv_iload hx hb dL_law_486 (lv_at hl 9 rfl) ?_
    refine lv_lload hx hb dL_law_488 (lv_at hl 1 rfl) ?_
    refine lv_lconst (v := lI 0) hx hb dL_law_490 rfl ?_
    refine W.lcmp hx hb dL_law_491 ?_
    refine lv_if_lt (tgt := 499) hx hb dL_law_492 (by decide) (fun c9 => absurd c9 (c_ge (a := ((nK : Nat) : Int)) (b := 0) (by omega) (by omega) (by omega))) (fun _ => ?_)
    refine lv_iconst (v := 1) hx hb dL_law_495 (by decide) ?_
    refine lv_goto (tgt := 500) hx hb dL_law_496 (by decide) ?_
    refine lv_iadd hx hb dL_law_500 ?_
    refine sy_top (y := nI (nK + 1)) (nI_add nK 1) ?_
    refine lv_istore (lv' := [(4, .int (nI (nK + 1))), (5, .int 1), (14, .long (lI ((nK : Nat) : Int))), (13, .int 1), (12, .int (nI (1 + ((y / 16) % 100)))), (11, .int (nI c9)), (10, .int (nI q9)), (9, .int (nI wh)), (8, .int (nI y)), (6, .int (nI k)), (3, .int (nI nT)), (2, .ref (ad1 90)), (1, .ref (ad1 60)), (0, .ref b)]) hx hb dL_law_501 hl (by decide) rfl (fun ls hl => ?_)
    refine lv_goto (tgt := 1280) hx hb dL_law_503 (by decide) ?_
    refine W.widen (k := 100 + 2000 * k + 100) (n := 4000 + 12000 * k + 1000) (by (try dsimp only); omega) (by (try dsimp only); omega) ?_
    exact hJ _ _ _ _ _ _ _ _ _ _ (by omega) ⟨hP, (ci_n (by omega) hI), (fun z => (had 70 (by omega) (by omega)).trans (h70 z)), (fun z => absurd z (by have := hI.1.2.2.2.2.2.2.1; omega)), hS, lv_sub hl [9, 1, 0, 10, 11, 12, 13] rfl⟩
set_option maxHeartbeats 8000000 in
set_option maxRecDepth 100000 in
theorem lc_C (hC : lCtx p l s m meth c b L xs Z) {k : Nat} (hk : k < 48) {nT nK cT cK : Nat} {ad : Nat → Nat} {g : sG} {q : sQ} {H : Heap} {locs : List Loc} {ls : Array Slot} {wh q9 c9 y : Nat} (hy : y < 2147483648) (hwh : 5 ≤ wh ∧ wh < 8) (hT0 : 0 < nT) (hK0 : 0 < nK) (hc9 : c9 < nK) (h : lSt Z s b k (k + 1) nT nK cT cK ad g q H locs ls [(11, .int (nI c9)), (10, .int (nI q9)), (9, .int (nI wh)), (8, .int (nI y))]) (hJ : ∀ (nT nK cT cK : Nat) (ad : Nat → Nat) (g : sG) (q : sQ) (H : Heap) (locs : List Loc) (ls : Array Slot), 0 < nT → lSt Z s b k (k + 2) nT nK cT cK ad g q H locs ls [] → W p l e room_1 s m #[Value.ref b] below meth c H locs (100 + 2000 * k + 100) (4000 + 12000 * k + 1000) (lw_Z below #[Value.ref b] s) (F0 m 1280 ls [])) : W p l e room_1 s m #[Value.ref b] below meth c H locs (100 + 2000 * k) (4000 + 12000 * k) (lw_Z below #[Value.ref b] s) (F0 m 133 ls []) := by
  obtain ⟨hx, hb, hr, hml, hown, hts, hX, hbl, hlocks, hZ, hE, hNc, hfl⟩ := hC
  obtain ⟨hP, hI, h70, h71, hS, hl⟩ := h
  have hT40 := ci_T hI
  have hK40 := ci_K hI
  refine lv_iload hx hb dL_law_133 (lv_at hl 2 rfl) ?_
  refine lv_iconst (v := 4) hx hb dL_law_135 (by decide) ?_
  refine lv_icmp_lt (tgt := 143) hx hb dL_law_136 (by decide) (fun c9 => absurd c9 (mt (nI_ltI (a := wh) (b := 4) (by omega) (by omega)).mp (by omega))) (fun _ => ?_)
  refine lv_iload_n hx hb dL_law_139 rfl (lv_at hl 7 rfl) ?_
  refine lv_if_ne (tgt := 377) hx hb dL_law_140 (by decide) (fun _ => ?_) (fun c9 => absurd c9 (mt (nI_eq (a := nT) (b := 0) (by omega) (by omega)).mp (by omega)))
  refine lv_iload hx hb dL_law_377 (lv_at hl 2 rfl) ?_
  refine lv_iconst (v := 4) hx hb dL_law_379 (by decide) ?_
  refine lv_icmp_ne (tgt := 506) hx hb dL_law_380 (by decide) (fun _ => ?_) (fun c9 => absurd c9 (mt (nI_eq (a := wh) (b := 4) (by omega) (by omega)).mp (by omega)))
  refine lv_iload hx hb dL_law_506 (lv_at hl 2 rfl) ?_
  refine lv_bipush (v := 8) hx hb dL_law_508 (by decide) ?_
  refine lv_icmp_ge (tgt := 539) hx hb dL_law_510 (by decide) (fun c9 => absurd c9 (mt (nI_leI (a := 8) (b := wh) (by omega) (by omega)).mp (by omega))) (fun _ => ?_)
  refine lv_iload hx hb dL_law_513 (lv_at hl 6 rfl) ?_
  refine lv_if_le (tgt := 539) hx hb dL_law_515 (by decide) (fun c9 => absurd c9 (mt (nI_leI (a := nK) (b := 0) (by omega) (by omega)).mp (by omega))) (fun _ => ?_)
  refine lv_aload_n hx hb dL_law_518 rfl (lv_at hl 9 rfl) ?_
  refine lv_iload hx hb dL_law_519 (lv_at hl 0 rfl) ?_
  refine lv_iload hx hb dL_law_521 (lv_at hl 3 rfl) ?_
  refine lv_bipush (v := 8) hx hb dL_law_523 (by decide) ?_
  refine lv_irem hx hb dL_law_525 (by decide) ?_
  refine sy_top (y := nI (y % 8)) (nI_rem (a := y) (b := 8) (by omega) (by omega)) ?_
  refine lv_iload hx hb dL_law_526 (lv_at hl 3 rfl) ?_
  refine lv_bipush (v := 8) hx hb dL_law_528 (by decide) ?_
  refine lv_idiv hx hb dL_law_530 (by decide) ?_
  refine sy_top (y := nI (y / 8)) (nI_div (a := y) (b := 8) (by omega) (by omega)) ?_
  refine sy_ki (va_runS (As := [.ref (ad 60), .int (nI c9), .int (nI (y % 8)), .int (nI (y / 8))]) (rest := []) ⟨hx, hb, hml, hown, hts⟩ (nL_ends l hfl Z nT nK cT cK ad g q (j := c9) (how := y % 8) (yy := y / 8) hI (by omega) hc9 (by omega) (by omega)) (va_cwS 4 hts (gl_S uk_4_206 uk_4_207 uk_1_0 uk_4_208) rfl rfl rfl (by decide +kernel) ⟨Nat.le_of_ble_eq_true rfl, Nat.le_of_ble_eq_true rfl⟩) ⟨sPreL_blind _, fun U hU hW => ⟨rfl, ⟨hE.next hS hU hW.alike, by rw [hU]; exact hP⟩, hNc.next hW.alike⟩⟩ rfl rfl hl.1 rfl (lv_room (Nat.le_of_ble_eq_true rfl)) dL_law_531 ⟨by show _ ≤ 600074; (try dsimp only); omega, by show _ ≤ 7301550; (try dsimp only); omega⟩) hS (fun r g1 q1 H locs e9 hP hS => ?_)
  obtain ⟨er, hI2⟩ := e9
  subst er
  have hI := hI2
  refine lv_istore (lv' := [(5, .int 1), (11, .int (nI c9)), (10, .int (nI q9)), (9, .int (nI wh)), (8, .int (nI y)), (6, .int (nI k)), (4, .int (nI nK)), (3, .int (nI nT)), (2, .ref (ad 90)), (1, .ref (ad 60)), (0, .ref b)]) hx hb dL_law_534 hl (by decide) rfl (fun ls hl => ?_)
  refine lv_goto (tgt := 1280) hx hb dL_law_536 (by decide) ?_
  refine W.widen (k := 100 + 2000 * k + 100) (n := 4000 + 12000 * k + 1000) (by (try dsimp only); omega) (by (try dsimp only); omega) ?_
  exact hJ _ _ _ _ _ _ _ _ _ _ (by omega) ⟨hP, hI, h70, h71, hS, lv_sub hl [5, 0, 6, 7, 8, 9, 10] rfl⟩
set_option maxHeartbeats 8000000 in
set_option maxRecDepth 100000 in
theorem lc_D2 (hC : lCtx p l s m meth c b L xs Z) {k : Nat} (hk : k < 48) {nT nK cT cK : Nat} {ad : Nat → Nat} {g : sG} {q : sQ} {H : Heap} {locs : List Loc} {ls : Array Slot} {c9 y : Nat} (hy : y < 2147483648) (hT0 : 0 < nT) (hc9 : c9 < nK) (h : lSt Z s b k (k + 1) nT nK cT cK ad g q H locs ls [(11, .int (nI c9)), (8, .int (nI y))]) (hJ : ∀ (nT nK cT cK : Nat) (ad : Nat → Nat) (g : sG) (q : sQ) (H : Heap) (locs : List Loc) (ls : Array Slot), 0 < nT → lSt Z s b k (k + 2) nT nK cT cK ad g q H locs ls [] → W p l e room_1 s m #[Value.ref b] below meth c H locs (100 + 2000 * k + 100) (4000 + 12000 * k + 1000) (lw_Z below #[Value.ref b] s) (F0 m 1280 ls [])) : W p l e room_1 s m #[Value.ref b] below meth c H locs (100 + 2000 * k + 20) (4000 + 12000 * k + 200) (lw_Z below #[Value.ref b] s) (F0 m 662 ls []) := by
  obtain ⟨hx, hb, hr, hml, hown, hts, hX, hbl, hlocks, hZ, hE, hNc, hfl⟩ := hC
  obtain ⟨hP, hI, h70, h71, hS, hl⟩ := h
  have hT40 := ci_T hI
  have hK40 := ci_K hI
  refine lv_iload hx hb dL_law_662 (lv_at hl 3 rfl) ?_
  refine lv_if_eq (tgt := 702) hx hb dL_law_664 (by decide) (fun c9 => absurd c9 (by decide)) (fun _ => ?_)
  refine lv_iload hx hb dL_law_667 (lv_at hl 1 rfl) ?_
  refine lv_bipush (v := 32) hx hb dL_law_669 (by decide) ?_
  refine lv_idiv hx hb dL_law_671 (by decide) ?_
  refine sy_top (y := nI (y / 32)) (nI_div (a := y) (b := 32) (by omega) (by omega)) ?_
  refine lv_iconst (v := 3) hx hb dL_law_672 (by decide) ?_
  refine lv_irem hx hb dL_law_673 (by decide) ?_
  refine sy_top (y := nI ((y / 32) % 3)) (nI_rem (a := (y / 32)) (b := 3) (by omega) (by omega)) ?_
  by_cases h3 : 0 < y / 32 % 3
  · skip
    refine lv_if_gt (tgt := 698) hx hb dL_law_674 (by decide) (fun _ => ?_) (fun c9 => absurd ((nI_ltI (a := 0) (b := ((y / 32) % 3)) (by omega) (by omega)).mpr (by omega)) c9)
    refine lv_iconst (v := 1) hx hb dL_law_698 (by decide) ?_
    refine lv_goto (tgt := 703) hx hb dL_law_699 (by decide) ?_
    refine lv_istore (lv' := [(5, .int 1), (11, .int (nI c9)), (8, .int (nI y)), (6, .int (nI k)), (4, .int (nI nK)), (3, .int (nI nT)), (2, .ref (ad 90)), (1, .ref (ad 60)), (0, .ref b)]) hx hb dL_law_703 hl (by decide) rfl (fun ls hl => ?_)
    refine lv_goto (tgt := 1280) hx hb dL_law_705 (by decide) ?_
    refine W.widen (k := 100 + 2000 * k + 100) (n := 4000 + 12000 * k + 1000) (by (try dsimp only); omega) (by (try dsimp only); omega) ?_
    exact hJ _ _ _ _ _ _ _ _ _ _ (by omega) ⟨hP, (ci_n (by omega) hI), h70, h71, hS, lv_sub hl [3, 0, 4, 5, 6, 7, 8] rfl⟩
  · skip
    refine lv_if_gt (tgt := 698) hx hb dL_law_674 (by decide) (fun c9 => absurd c9 (mt (nI_ltI (a := 0) (b := ((y / 32) % 3)) (by omega) (by omega)).mp (by omega))) (fun _ => ?_)
    refine lv_aload_n hx hb dL_law_677 rfl (lv_at hl 7 rfl) ?_
    refine lv_iload hx hb dL_law_678 (lv_at hl 0 rfl) ?_
    refine lv_iload hx hb dL_law_680 (lv_at hl 1 rfl) ?_
    refine lv_bipush (v := 64) hx hb dL_law_682 (by decide) ?_
    refine lv_idiv hx hb dL_law_684 (by decide) ?_
    refine sy_top (y := nI (y / 64)) (nI_div (a := y) (b := 64) (by omega) (by omega)) ?_
    refine lv_bipush (v := 10) hx hb dL_law_685 (by decide) ?_
    refine lv_irem hx hb dL_law_687 (by decide) ?_
    refine sy_top (y := nI ((y / 64) % 10)) (nI_rem (a := (y / 64)) (b := 10) (by omega) (by omega)) ?_
    refine sy_kl (vx_runSW (As := [.ref (ad 60), .int (nI c9), .int (nI ((y / 64) % 10))]) (rest := []) ⟨hx, hb, hml, hown, hts⟩ (mL_give l hfl Z nT nK cT cK ad g q (nI c9) (nI ((y / 64) % 10)) hI) (vx_cwSW 3 hts (gl_S uk_3_144 uk_3_145 uk_1_0 uk_3_146) rfl rfl rfl (by decide +kernel) ⟨Nat.le_of_ble_eq_true rfl, Nat.le_of_ble_eq_true rfl⟩) ⟨sPreL_blind _, fun U hU hW => ⟨rfl, ⟨hE.next hS hU hW.alike, by rw [hU]; exact hP⟩, hNc.next hW.alike⟩⟩ rfl rfl hl.1 rfl (lv_room (Nat.le_of_ble_eq_true rfl)) dL_law_688 ⟨by show _ ≤ 600074; (try dsimp only); omega, by show _ ≤ 7301550; (try dsimp only); omega⟩) hS (fun r g1 q1 H locs e9 hP hS => ?_)
    rcases p_give hI hc9 (p := y / 64 % 10) (by omega) with hw | ⟨h1, hI2⟩
    · skip
      obtain ⟨er, eg, eq⟩ := eq_n3 hw e9
      subst er; subst eg; subst eq
      refine lv_ldc2 (v := lI (-9000000000000000003)) hx hb hown (hts _ (wsU_tbl uk_2_183)) dL_law_691 ?_
      refine W.lcmp hx hb dL_law_694 ?_
      refine lv_if_lt (tgt := 702) hx hb dL_law_695 (by decide) (fun c9 => absurd c9 (c_ge (a := (-9000000000000000003)) (b := (-9000000000000000003)) (by omega) (by omega) (by omega))) (fun _ => ?_)
      refine lv_iconst (v := 1) hx hb dL_law_698 (by decide) ?_
      refine lv_goto (tgt := 703) hx hb dL_law_699 (by decide) ?_
      refine lv_istore (lv' := [(5, .int 1), (11, .int (nI c9)), (8, .int (nI y)), (6, .int (nI k)), (4, .int (nI nK)), (3, .int (nI nT)), (2, .ref (ad 90)), (1, .ref (ad 60)), (0, .ref b)]) hx hb dL_law_703 hl (by decide) rfl (fun ls hl => ?_)
      refine lv_goto (tgt := 1280) hx hb dL_law_705 (by decide) ?_
      refine W.widen (k := 100 + 2000 * k + 100) (n := 4000 + 12000 * k + 1000) (by (try dsimp only); omega) (by (try dsimp only); omega) ?_
      exact hJ _ _ _ _ _ _ _ _ _ _ (by omega) ⟨hP, (ci_n (by omega) hI), h70, h71, hS, lv_sub hl [3, 0, 4, 5, 6, 7, 8] rfl⟩
    · skip
      obtain ⟨zz, hzz⟩ : ∃ zz : Int, (fX6_give g q (nI c9) (nI (y / 64 % 10))).2.1.toInt = zz := ⟨_, rfl⟩
      have bz : -2147483648 ≤ zz ∧ zz < 2147483648 := by rw [← hzz]; exact i32b _
      obtain ⟨er, eg, eq⟩ := eq_y (z := zz) h1 hzz e9
      subst er
      rw [eg, eq] at hI2
      have hI := hI2
      clear e9
      refine lv_ldc2 (v := lI (-9000000000000000003)) hx hb hown (hts _ (wsU_tbl uk_2_183)) dL_law_691 ?_
      refine W.lcmp hx hb dL_law_694 ?_
      refine lv_if_lt (tgt := 702) hx hb dL_law_695 (by decide) (fun c9 => absurd c9 (c_ge (a := zz) (b := (-9000000000000000003)) (by omega) (by omega) (by omega))) (fun _ => ?_)
      refine lv_iconst (v := 1) hx hb dL_law_698 (by decide) ?_
      refine lv_goto (tgt := 703) hx hb dL_law_699 (by decide) ?_
      refine lv_istore (lv' := [(5, .int 1), (11, .int (nI c9)), (8, .int (nI y)), (6, .int (nI k)), (4, .int (nI nK)), (3, .int (nI nT)), (2, .ref (ad 90)), (1, .ref (ad 60)), (0, .ref b)]) hx hb dL_law_703 hl (by decide) rfl (fun ls hl => ?_)
      refine lv_goto (tgt := 1280) hx hb dL_law_705 (by decide) ?_
      refine W.widen (k := 100 + 2000 * k + 100) (n := 4000 + 12000 * k + 1000) (by (try dsimp only); omega) (by (try dsimp only); omega) ?_
      exact hJ _ _ _ _ _ _ _ _ _ _ (by omega) ⟨hP, (ci_n (by omega) hI), h70, h71, hS, lv_sub hl [3, 0, 4, 5, 6, 7, 8] rfl⟩
set_option maxHeartbeats 8000000 in
set_option maxRecDepth 100000 in
theorem lc_D (hC : lCtx p l s m meth c b L xs Z) {k : Nat} (hk : k < 48) {nT nK cT cK : Nat} {ad : Nat → Nat} {g : sG} {q : sQ} {H : Heap} {locs : List Loc} {ls : Array Slot} {wh q9 c9 y : Nat} (hy : y < 2147483648) (hwh : wh = 8) (hT0 : 0 < nT) (hK0 : 0 < nK) (hc9 : c9 < nK) (h : lSt Z s b k (k + 1) nT nK cT cK ad g q H locs ls [(11, .int (nI c9)), (10, .int (nI q9)), (9, .int (nI wh)), (8, .int (nI y))]) (hJ : ∀ (nT nK cT cK : Nat) (ad : Nat → Nat) (g : sG) (q : sQ) (H : Heap) (locs : List Loc) (ls : Array Slot), 0 < nT → lSt Z s b k (k + 2) nT nK cT cK ad g q H locs ls [] → W p l e room_1 s m #[Value.ref b] below meth c H locs (100 + 2000 * k + 100) (4000 + 12000 * k + 1000) (lw_Z below #[Value.ref b] s) (F0 m 1280 ls [])) : W p l e room_1 s m #[Value.ref b] below meth c H locs (100 + 2000 * k) (4000 + 12000 * k) (lw_Z below #[Value.ref b] s) (F0 m 133 ls []) := by
  obtain ⟨hx, hb, hr, hml, hown, hts, hX, hbl, hlocks, hZ, hE, hNc, hfl⟩ := hC
  obtain ⟨hP, hI, h70, h71, hS, hl⟩ := h
  have hT40 := ci_T hI
  have hK40 := ci_K hI
  have hC0 : lCtx p l s m meth c b L xs Z := ⟨hx, hb, hr, hml, hown, hts, hX, hbl, hlocks, hZ, hE, hNc, hfl⟩
  have hbar : 0 ≤ (barI g q c9).toInt ∧ (barI g q c9).toInt ≤ 3 := by rcases bar_in (g := g) (q := q) (j := c9) with z | z | z | z <;> rw [z] <;> decide
  refine lv_iload hx hb dL_law_133 (lv_at hl 2 rfl) ?_
  refine lv_iconst (v := 4) hx hb dL_law_135 (by decide) ?_
  refine lv_icmp_lt (tgt := 143) hx hb dL_law_136 (by decide) (fun c9 => absurd c9 (mt (nI_ltI (a := wh) (b := 4) (by omega) (by omega)).mp (by omega))) (fun _ => ?_)
  refine lv_iload_n hx hb dL_law_139 rfl (lv_at hl 7 rfl) ?_
  refine lv_if_ne (tgt := 377) hx hb dL_law_140 (by decide) (fun _ => ?_) (fun c9 => absurd c9 (mt (nI_eq (a := nT) (b := 0) (by omega) (by omega)).mp (by omega)))
  refine lv_iload hx hb dL_law_377 (lv_at hl 2 rfl) ?_
  refine lv_iconst (v := 4) hx hb dL_law_379 (by decide) ?_
  refine lv_icmp_ne (tgt := 506) hx hb dL_law_380 (by decide) (fun _ => ?_) (fun c9 => absurd c9 (mt (nI_eq (a := wh) (b := 4) (by omega) (by omega)).mp (by omega)))
  refine lv_iload hx hb dL_law_506 (lv_at hl 2 rfl) ?_
  refine lv_bipush (v := 8) hx hb dL_law_508 (by decide) ?_
  refine lv_icmp_ge (tgt := 539) hx hb dL_law_510 (by decide) (fun _ => ?_) (fun c9 => absurd ((nI_leI (a := 8) (b := wh) (by omega) (by omega)).mpr (by omega)) c9)
  refine lv_iload hx hb dL_law_539 (lv_at hl 2 rfl) ?_
  refine lv_bipush (v := 8) hx hb dL_law_541 (by decide) ?_
  refine lv_icmp_ne (tgt := 708) hx hb dL_law_543 (by decide) (fun c9 => absurd ((nI_eq (a := wh) (b := 8) (by omega) (by omega)).mpr (by omega)) c9) (fun _ => ?_)
  refine lv_iload hx hb dL_law_546 (lv_at hl 6 rfl) ?_
  refine lv_if_le (tgt := 708) hx hb dL_law_548 (by decide) (fun c9 => absurd c9 (mt (nI_leI (a := nK) (b := 0) (by omega) (by omega)).mp (by omega))) (fun _ => ?_)
  refine lv_aload_n hx hb dL_law_551 rfl (lv_at hl 9 rfl) ?_
  refine lv_iload hx hb dL_law_552 (lv_at hl 0 rfl) ?_
  refine lv_bipush (v := 8) hx hb dL_law_554 (by decide) ?_
  refine sy_kl (vx_runSW (As := [.ref (ad 60), .int (nI c9), .int 8]) (rest := []) ⟨hx, hb, hml, hown, hts⟩ (mL_ticketOf l hfl Z nT nK cT cK ad g q (nI c9) 8 hI) (vx_cwSW 3 hts (gl_S uk_4_53 uk_4_54 uk_1_0 uk_4_55) rfl rfl rfl (by decide +kernel) ⟨Nat.le_of_ble_eq_true rfl, Nat.le_of_ble_eq_true rfl⟩) ⟨sPreL_blind _, fun U hU hW => ⟨rfl, ⟨hE.next hS hU hW.alike, by rw [hU]; exact hP⟩, hNc.next hW.alike⟩⟩ rfl rfl hl.1 rfl (lv_room (Nat.le_of_ble_eq_true rfl)) dL_law_556 ⟨by show _ ≤ 600074; (try dsimp only); omega, by show _ ≤ 7301550; (try dsimp only); omega⟩) hS (fun r gz qz H locs e9 hP hS => ?_)
  obtain ⟨er, eg, eq⟩ := eq_q (z := (barI g q c9).toInt) (a_K hI hc9).2.2.2.2.2.2.2.2.1 rfl e9
  subst er; subst eg; subst eq
  refine lv_lstore (lv' := [(12, .long (lI ((barI g q c9).toInt))), (11, .int (nI c9)), (10, .int (nI q9)), (9, .int (nI wh)), (8, .int (nI y)), (6, .int (nI k)), (5, .int 1), (4, .int (nI nK)), (3, .int (nI nT)), (2, .ref (ad 90)), (1, .ref (ad 60)), (0, .ref b)]) hx hb dL_law_559 hl (by decide) rfl (fun ls hl => ?_)
  refine lv_aload_n hx hb dL_law_561 rfl (lv_at hl 10 rfl) ?_
  refine lv_iload hx hb dL_law_562 (lv_at hl 1 rfl) ?_
  refine lv_iload hx hb dL_law_564 (lv_at hl 4 rfl) ?_
  refine lv_bipush (v := 10) hx hb dL_law_566 (by decide) ?_
  refine lv_irem hx hb dL_law_568 (by decide) ?_
  refine sy_top (y := nI (y % 10)) (nI_rem (a := y) (b := 10) (by omega) (by omega)) ?_
  refine sy_kl (vx_runSW (As := [.ref (ad 60), .int (nI c9), .int (nI (y % 10))]) (rest := []) ⟨hx, hb, hml, hown, hts⟩ (mL_notice l hfl Z nT nK cT cK ad g q (nI c9) (nI (y % 10)) hI) (vx_cwSW 3 hts (gl_S uk_3_159 uk_3_160 uk_1_0 uk_3_161) rfl rfl rfl (by decide +kernel) ⟨Nat.le_of_ble_eq_true rfl, Nat.le_of_ble_eq_true rfl⟩) ⟨sPreL_blind _, fun U hU hW => ⟨rfl, ⟨hE.next hS hU hW.alike, by rw [hU]; exact hP⟩, hNc.next hW.alike⟩⟩ rfl rfl hl.1 rfl (lv_room (Nat.le_of_ble_eq_true rfl)) dL_law_569 ⟨by show _ ≤ 600074; (try dsimp only); omega, by show _ ≤ 7301550; (try dsimp only); omega⟩) hS (fun r g1 q1 H locs e9 hP hS => ?_)
  rcases p_notice hI hc9 (p := y % 10) (by omega) with hw | ⟨hbb, h1, hI2, h3, h4⟩
  · skip
    obtain ⟨er, eg, eq⟩ := eq_v3 hw e9
    subst er; subst eg; subst eq
    refine lv_lstore (lv' := [(14, .long (lI (-9000000000000000003))), (12, .long (lI ((barI g q c9).toInt))), (11, .int (nI c9)), (10, .int (nI q9)), (9, .int (nI wh)), (8, .int (nI y)), (6, .int (nI k)), (5, .int 1), (4, .int (nI nK)), (3, .int (nI nT)), (2, .ref (ad 90)), (1, .ref (ad 60)), (0, .ref b)]) hx hb dL_law_572 hl (by decide) rfl (fun ls hl => ?_)
    refine lv_lload hx hb dL_law_574 (lv_at hl 0 rfl) ?_
    refine lv_ldc2 (v := lI (-9000000000000000003)) hx hb hown (hts _ (wsU_tbl uk_2_183)) dL_law_576 ?_
    refine W.lcmp hx hb dL_law_579 ?_
    refine lv_if_eq (tgt := 610) hx hb dL_law_580 (by decide) (fun _ => ?_) (fun c9 => absurd (c_eq (a := (-9000000000000000003)) (b := (-9000000000000000003)) (by omega)) c9)
    refine lv_iconst (v := 1) hx hb dL_law_610 (by decide) ?_
    refine lv_goto (tgt := 615) hx hb dL_law_611 (by decide) ?_
    refine lv_istore (lv' := [(5, .int 1), (14, .long (lI (-9000000000000000003))), (12, .long (lI ((barI g q c9).toInt))), (11, .int (nI c9)), (10, .int (nI q9)), (9, .int (nI wh)), (8, .int (nI y)), (6, .int (nI k)), (4, .int (nI nK)), (3, .int (nI nT)), (2, .ref (ad 90)), (1, .ref (ad 60)), (0, .ref b)]) hx hb dL_law_615 hl (by decide) rfl (fun ls hl => ?_)
    refine lv_iload hx hb dL_law_617 (lv_at hl 0 rfl) ?_
    refine lv_if_eq (tgt := 659) hx hb dL_law_619 (by decide) (fun c9 => absurd c9 (by decide)) (fun _ => ?_)
    refine lv_iload hx hb dL_law_622 (lv_at hl 6 rfl) ?_
    refine lv_bipush (v := 16) hx hb dL_law_624 (by decide) ?_
    refine lv_idiv hx hb dL_law_626 (by decide) ?_
    refine sy_top (y := nI (y / 16)) (nI_div (a := y) (b := 16) (by omega) (by omega)) ?_
    refine lv_iconst (v := 2) hx hb dL_law_627 (by decide) ?_
    refine lv_irem hx hb dL_law_628 (by decide) ?_
    refine sy_top (y := nI ((y / 16) % 2)) (nI_rem (a := (y / 16)) (b := 2) (by omega) (by omega)) ?_
    by_cases h2 : y / 16 % 2 = 0
    · skip
      refine lv_if_eq (tgt := 655) hx hb dL_law_629 (by decide) (fun _ => ?_) (fun c9 => absurd ((nI_eq (a := ((y / 16) % 2)) (b := 0) (by omega) (by omega)).mpr (by omega)) c9)
      refine lv_iconst (v := 1) hx hb dL_law_655 (by decide) ?_
      refine lv_goto (tgt := 660) hx hb dL_law_656 (by decide) ?_
      refine lv_istore (lv' := [(5, .int 1), (14, .long (lI (-9000000000000000003))), (12, .long (lI ((barI g q c9).toInt))), (11, .int (nI c9)), (10, .int (nI q9)), (9, .int (nI wh)), (8, .int (nI y)), (6, .int (nI k)), (4, .int (nI nK)), (3, .int (nI nT)), (2, .ref (ad 90)), (1, .ref (ad 60)), (0, .ref b)]) hx hb dL_law_660 hl (by decide) rfl (fun ls hl => ?_)
      refine W.widen (k := 100 + 2000 * k + 20) (n := 4000 + 12000 * k + 200) (by (try dsimp only); omega) (by (try dsimp only); omega) ?_
      exact lc_D2 hC0 hk hy hT0 hc9 ⟨hP, hI, h70, h71, hS, lv_sub hl [3, 6, 7, 0, 8, 9, 10, 11, 12] rfl⟩ hJ
    · skip
      refine lv_if_eq (tgt := 655) hx hb dL_law_629 (by decide) (fun c9 => absurd c9 (mt (nI_eq (a := ((y / 16) % 2)) (b := 0) (by omega) (by omega)).mp (by omega))) (fun _ => ?_)
      refine lv_lload hx hb dL_law_632 (lv_at hl 1 rfl) ?_
      refine lv_lconst (v := lI 0) hx hb dL_law_634 rfl ?_
      refine W.lcmp hx hb dL_law_635 ?_
      refine lv_if_ne (tgt := 655) hx hb dL_law_636 (by decide) (fun _ => ?_) (fun c9 => absurd c9 (c_ne (a := (-9000000000000000003)) (b := 0) (by omega) (by omega) (by omega)))
      refine lv_iconst (v := 1) hx hb dL_law_655 (by decide) ?_
      refine lv_goto (tgt := 660) hx hb dL_law_656 (by decide) ?_
      refine lv_istore (lv' := [(5, .int 1), (14, .long (lI (-9000000000000000003))), (12, .long (lI ((barI g q c9).toInt))), (11, .int (nI c9)), (10, .int (nI q9)), (9, .int (nI wh)), (8, .int (nI y)), (6, .int (nI k)), (4, .int (nI nK)), (3, .int (nI nT)), (2, .ref (ad 90)), (1, .ref (ad 60)), (0, .ref b)]) hx hb dL_law_660 hl (by decide) rfl (fun ls hl => ?_)
      refine W.widen (k := 100 + 2000 * k + 20) (n := 4000 + 12000 * k + 200) (by (try dsimp only); omega) (by (try dsimp only); omega) ?_
      exact lc_D2 hC0 hk hy hT0 hc9 ⟨hP, hI, h70, h71, hS, lv_sub hl [3, 6, 7, 0, 8, 9, 10, 11, 12] rfl⟩ hJ
  · skip
    obtain ⟨er, eg, eq⟩ := eq_yv h1 e9
    subst er
    rw [eg, eq] at hI2 h3
    rw [eg] at h4
    have hI := hI2
    clear e9
    refine lv_lstore (lv' := [(14, .long (lI 0)), (12, .long (lI ((barI g q c9).toInt))), (11, .int (nI c9)), (10, .int (nI q9)), (9, .int (nI wh)), (8, .int (nI y)), (6, .int (nI k)), (5, .int 1), (4, .int (nI nK)), (3, .int (nI nT)), (2, .ref (ad 90)), (1, .ref (ad 60)), (0, .ref b)]) hx hb dL_law_572 hl (by decide) rfl (fun ls hl => ?_)
    refine lv_lload hx hb dL_law_574 (lv_at hl 0 rfl) ?_
    refine lv_ldc2 (v := lI (-9000000000000000003)) hx hb hown (hts _ (wsU_tbl uk_2_183)) dL_law_576 ?_
    refine W.lcmp hx hb dL_law_579 ?_
    refine lv_if_eq (tgt := 610) hx hb dL_law_580 (by decide) (fun c9 => absurd c9 (c_ne (a := 0) (b := (-9000000000000000003)) (by omega) (by omega) (by omega))) (fun _ => ?_)
    refine lv_lload hx hb dL_law_583 (lv_at hl 1 rfl) ?_
    refine lv_ldc2 (v := lI (2)) hx hb hown (hts _ (wsU_tbl uk_4_121)) dL_law_585 ?_
    refine lv_lrem hx hb dL_law_588 (lI_ne0 (z := 2) (by decide) (by decide)) ?_
    refine sy_topL (y := lI ((barI g q c9).toInt % (2))) (lI_rem (a := (barI g q c9).toInt) (b := (2)) (by omega) (by omega) (by omega) (by omega)) ?_
    refine lv_lconst (v := lI 0) hx hb dL_law_589 rfl ?_
    refine W.lcmp hx hb dL_law_590 ?_
    refine lv_if_ne (tgt := 614) hx hb dL_law_591 (by decide) (fun c9 => absurd (c_eq (a := ((barI g q c9).toInt % (2))) (b := 0) ((by rcases hbb with z | z <;> rw [z] <;> rfl))) c9) (fun _ => ?_)
    refine lv_aload_n hx hb dL_law_594 rfl (lv_at hl 11 rfl) ?_
    refine lv_iload hx hb dL_law_595 (lv_at hl 2 rfl) ?_
    refine lv_bipush (v := 8) hx hb dL_law_597 (by decide) ?_
    refine sy_kl (vx_runSW (As := [.ref (ad 60), .int (nI c9), .int 8]) (rest := []) ⟨hx, hb, hml, hown, hts⟩ (mL_ticketOf l hfl Z nT nK cT cK ad g1 q1 (nI c9) 8 hI) (vx_cwSW 3 hts (gl_S uk_4_53 uk_4_54 uk_1_0 uk_4_55) rfl rfl rfl (by decide +kernel) ⟨Nat.le_of_ble_eq_true rfl, Nat.le_of_ble_eq_true rfl⟩) ⟨sPreL_blind _, fun U hU hW => ⟨rfl, ⟨hE.next hS hU hW.alike, by rw [hU]; exact hP⟩, hNc.next hW.alike⟩⟩ rfl rfl hl.1 rfl (lv_room (Nat.le_of_ble_eq_true rfl)) dL_law_599 ⟨by show _ ≤ 600074; (try dsimp only); omega, by show _ ≤ 7301550; (try dsimp only); omega⟩) hS (fun r gz qz H locs e9 hP hS => ?_)
    obtain ⟨er, eg, eq⟩ := eq_q (z := (barI g1 q1 c9).toInt) (a_K hI hc9).2.2.2.2.2.2.2.2.1 rfl e9
    subst er; subst eg; subst eq
    refine lv_lload hx hb dL_law_602 (lv_at hl 1 rfl) ?_
    refine lv_lconst (v := lI 1) hx hb dL_law_604 rfl ?_
    refine lv_ladd hx hb dL_law_605 ?_
    refine sy_topL (y := lI ((barI g q c9).toInt + 1)) (lI_add _ _) ?_
    refine W.lcmp hx hb dL_law_606 ?_
    refine lv_if_ne (tgt := 614) hx hb dL_law_607 (by decide) (fun c9 => absurd (c_eq (a := (barI g1 q1 c9).toInt) (b := ((barI g q c9).toInt + 1)) ((by rw [h3]; rcases hbb with z | z <;> rw [z] <;> rfl))) c9) (fun _ => ?_)
    refine lv_iconst (v := 1) hx hb dL_law_610 (by decide) ?_
    refine lv_goto (tgt := 615) hx hb dL_law_611 (by decide) ?_
    refine lv_istore (lv' := [(5, .int 1), (14, .long (lI 0)), (12, .long (lI ((barI g q c9).toInt))), (11, .int (nI c9)), (10, .int (nI q9)), (9, .int (nI wh)), (8, .int (nI y)), (6, .int (nI k)), (4, .int (nI nK)), (3, .int (nI nT)), (2, .ref (ad 90)), (1, .ref (ad 60)), (0, .ref b)]) hx hb dL_law_615 hl (by decide) rfl (fun ls hl => ?_)
    refine lv_iload hx hb dL_law_617 (lv_at hl 0 rfl) ?_
    refine lv_if_eq (tgt := 659) hx hb dL_law_619 (by decide) (fun c9 => absurd c9 (by decide)) (fun _ => ?_)
    refine lv_iload hx hb dL_law_622 (lv_at hl 6 rfl) ?_
    refine lv_bipush (v := 16) hx hb dL_law_624 (by decide) ?_
    refine lv_idiv hx hb dL_law_626 (by decide) ?_
    refine sy_top (y := nI (y / 16)) (nI_div (a := y) (b := 16) (by omega) (by omega)) ?_
    refine lv_iconst (v := 2) hx hb dL_law_627 (by decide) ?_
    refine lv_irem hx hb dL_law_628 (by decide) ?_
    refine sy_top (y := nI ((y / 16) % 2)) (nI_rem (a := (y / 16)) (b := 2) (by omega) (by omega)) ?_
    by_cases h2 : y / 16 % 2 = 0
    · skip
      refine lv_if_eq (tgt := 655) hx hb dL_law_629 (by decide) (fun _ => ?_) (fun c9 => absurd ((nI_eq (a := ((y / 16) % 2)) (b := 0) (by omega) (by omega)).mpr (by omega)) c9)
      refine lv_iconst (v := 1) hx hb dL_law_655 (by decide) ?_
      refine lv_goto (tgt := 660) hx hb dL_law_656 (by decide) ?_
      refine lv_istore (lv' := [(5, .int 1), (14, .long (lI 0)), (12, .long (lI ((barI g q c9).toInt))), (11, .int (nI c9)), (10, .int (nI q9)), (9, .int (nI wh)), (8, .int (nI y)), (6, .int (nI k)), (4, .int (nI nK)), (3, .int (nI nT)), (2, .ref (ad 90)), (1, .ref (ad 60)), (0, .ref b)]) hx hb dL_law_660 hl (by decide) rfl (fun ls hl => ?_)
      refine W.widen (k := 100 + 2000 * k + 20) (n := 4000 + 12000 * k + 200) (by (try dsimp only); omega) (by (try dsimp only); omega) ?_
      exact lc_D2 hC0 hk hy hT0 hc9 ⟨hP, hI, h70, h71, hS, lv_sub hl [3, 6, 7, 0, 8, 9, 10, 11, 12] rfl⟩ hJ
    · skip
      refine lv_if_eq (tgt := 655) hx hb dL_law_629 (by decide) (fun c9 => absurd c9 (mt (nI_eq (a := ((y / 16) % 2)) (b := 0) (by omega) (by omega)).mp (by omega))) (fun _ => ?_)
      refine lv_lload hx hb dL_law_632 (lv_at hl 1 rfl) ?_
      refine lv_lconst (v := lI 0) hx hb dL_law_634 rfl ?_
      refine W.lcmp hx hb dL_law_635 ?_
      refine lv_if_ne (tgt := 655) hx hb dL_law_636 (by decide) (fun c9 => absurd (c_eq (a := 0) (b := 0) (by omega)) c9) (fun _ => ?_)
      refine lv_aload_n hx hb dL_law_639 rfl (lv_at hl 11 rfl) ?_
      refine lv_iload hx hb dL_law_640 (lv_at hl 3 rfl) ?_
      refine sy_kl (vx_runSW (As := [.ref (ad 60), .int (nI c9)]) (rest := []) ⟨hx, hb, hml, hown, hts⟩ (mL_show l hfl Z nT nK cT cK ad g1 q1 (nI c9) hI) (vx_cwSW 2 hts (gl_S uk_3_170 uk_3_171 uk_1_0 uk_3_172) rfl rfl rfl (by decide +kernel) ⟨Nat.le_of_ble_eq_true rfl, Nat.le_of_ble_eq_true rfl⟩) ⟨sPreL_blind _, fun U hU hW => ⟨rfl, ⟨hE.next hS hU hW.alike, by rw [hU]; exact hP⟩, hNc.next hW.alike⟩⟩ rfl rfl hl.1 rfl (lv_room (Nat.le_of_ble_eq_true rfl)) dL_law_642 ⟨by show _ ≤ 600074; (try dsimp only); omega, by show _ ≤ 7301550; (try dsimp only); omega⟩) hS (fun r g2 q2 H locs e9 hP hS => ?_)
      obtain ⟨s1, s2, hI3⟩ := p_show hI hc9 (p := y % 10) (by omega) h4
      obtain ⟨er, eg, eq⟩ := eq_y (z := ((y % 10 : Nat) : Int)) s1 (by rw [s2]; exact nI_toInt (by omega)) e9
      subst er
      rw [eg, eq] at hI3
      have hI := hI3
      refine lv_iload hx hb dL_law_645 (lv_at hl 6 rfl) ?_
      refine lv_bipush (v := 10) hx hb dL_law_647 (by decide) ?_
      refine lv_irem hx hb dL_law_649 (by decide) ?_
      refine sy_top (y := nI (y % 10)) (nI_rem (a := y) (b := 10) (by omega) (by omega)) ?_
      refine lv_i2l (v := lI (((y % 10) : Nat) : Int)) hx hb dL_law_650 (nI_L (by omega)) ?_
      refine W.lcmp hx hb dL_law_651 ?_
      refine lv_if_ne (tgt := 659) hx hb dL_law_652 (by decide) (fun c9 => absurd (c_eq (a := ((y % 10 : Nat) : Int)) (b := (((y % 10) : Nat) : Int)) (by omega)) c9) (fun _ => ?_)
      refine lv_iconst (v := 1) hx hb dL_law_655 (by decide) ?_
      refine lv_goto (tgt := 660) hx hb dL_law_656 (by decide) ?_
      refine lv_istore (lv' := [(5, .int 1), (14, .long (lI 0)), (12, .long (lI ((barI g q c9).toInt))), (11, .int (nI c9)), (10, .int (nI q9)), (9, .int (nI wh)), (8, .int (nI y)), (6, .int (nI k)), (4, .int (nI nK)), (3, .int (nI nT)), (2, .ref (ad 90)), (1, .ref (ad 60)), (0, .ref b)]) hx hb dL_law_660 hl (by decide) rfl (fun ls hl => ?_)
      refine W.widen (k := 100 + 2000 * k + 20) (n := 4000 + 12000 * k + 200) (by (try dsimp only); omega) (by (try dsimp only); omega) ?_
      exact lc_D2 hC0 hk hy hT0 hc9 ⟨hP, hI, h70, h71, hS, lv_sub hl [3, 6, 7, 0, 8, 9, 10, 11, 12] rfl⟩ hJ
set_option maxHeartbeats 8000000 in
set_option maxRecDepth 100000 in
theorem lc_E (hC : lCtx p l s m meth c b L xs Z) {k : Nat} (hk : k < 48) {nT nK cT cK : Nat} {ad : Nat → Nat} {g : sG} {q : sQ} {H : Heap} {locs : List Loc} {ls : Array Slot} {wh q9 c9 y : Nat} (hy : y < 2147483648) (hwh : wh = 9) (hT0 : 0 < nT) (hq9 : q9 < nT) (h : lSt Z s b k (k + 1) nT nK cT cK ad g q H locs ls [(11, .int (nI c9)), (10, .int (nI q9)), (9, .int (nI wh)), (8, .int (nI y))]) (hJ : ∀ (nT nK cT cK : Nat) (ad : Nat → Nat) (g : sG) (q : sQ) (H : Heap) (locs : List Loc) (ls : Array Slot), 0 < nT → lSt Z s b k (k + 2) nT nK cT cK ad g q H locs ls [] → W p l e room_1 s m #[Value.ref b] below meth c H locs (100 + 2000 * k + 100) (4000 + 12000 * k + 1000) (lw_Z below #[Value.ref b] s) (F0 m 1280 ls [])) : W p l e room_1 s m #[Value.ref b] below meth c H locs (100 + 2000 * k) (4000 + 12000 * k) (lw_Z below #[Value.ref b] s) (F0 m 133 ls []) := by
  obtain ⟨hx, hb, hr, hml, hown, hts, hX, hbl, hlocks, hZ, hE, hNc, hfl⟩ := hC
  obtain ⟨hP, hI, h70, h71, hS, hl⟩ := h
  have hT40 := ci_T hI
  have hK40 := ci_K hI
  have bt := i32b (fX3_openTicketNumber g q q9)
  refine lv_iload hx hb dL_law_133 (lv_at hl 2 rfl) ?_
  refine lv_iconst (v := 4) hx hb dL_law_135 (by decide) ?_
  refine lv_icmp_lt (tgt := 143) hx hb dL_law_136 (by decide) (fun c9 => absurd c9 (mt (nI_ltI (a := wh) (b := 4) (by omega) (by omega)).mp (by omega))) (fun _ => ?_)
  refine lv_iload_n hx hb dL_law_139 rfl (lv_at hl 7 rfl) ?_
  refine lv_if_ne (tgt := 377) hx hb dL_law_140 (by decide) (fun _ => ?_) (fun c9 => absurd c9 (mt (nI_eq (a := nT) (b := 0) (by omega) (by omega)).mp (by omega)))
  refine lv_iload hx hb dL_law_377 (lv_at hl 2 rfl) ?_
  refine lv_iconst (v := 4) hx hb dL_law_379 (by decide) ?_
  refine lv_icmp_ne (tgt := 506) hx hb dL_law_380 (by decide) (fun _ => ?_) (fun c9 => absurd c9 (mt (nI_eq (a := wh) (b := 4) (by omega) (by omega)).mp (by omega)))
  refine lv_iload hx hb dL_law_506 (lv_at hl 2 rfl) ?_
  refine lv_bipush (v := 8) hx hb dL_law_508 (by decide) ?_
  refine lv_icmp_ge (tgt := 539) hx hb dL_law_510 (by decide) (fun _ => ?_) (fun c9 => absurd ((nI_leI (a := 8) (b := wh) (by omega) (by omega)).mpr (by omega)) c9)
  refine lv_iload hx hb dL_law_539 (lv_at hl 2 rfl) ?_
  refine lv_bipush (v := 8) hx hb dL_law_541 (by decide) ?_
  refine lv_icmp_ne (tgt := 708) hx hb dL_law_543 (by decide) (fun _ => ?_) (fun c9 => absurd c9 (mt (nI_eq (a := wh) (b := 8) (by omega) (by omega)).mp (by omega)))
  refine lv_iload hx hb dL_law_708 (lv_at hl 2 rfl) ?_
  refine lv_bipush (v := 9) hx hb dL_law_710 (by decide) ?_
  refine lv_icmp_ne (tgt := 842) hx hb dL_law_712 (by decide) (fun c9 => absurd ((nI_eq (a := wh) (b := 9) (by omega) (by omega)).mpr (by omega)) c9) (fun _ => ?_)
  refine lv_aload_n hx hb dL_law_715 rfl (lv_at hl 9 rfl) ?_
  refine lv_iload hx hb dL_law_716 (lv_at hl 1 rfl) ?_
  refine lv_iconst (v := 5) hx hb dL_law_718 (by decide) ?_
  refine sy_kl (vx_runSW (As := [.ref (ad 60), .int (nI q9), .int 5]) (rest := []) ⟨hx, hb, hml, hown, hts⟩ (mL_thingOf l hfl Z nT nK cT cK ad g q (nI q9) 5 hI) (vx_cwSW 3 hts (gl_S uk_4_46 uk_4_47 uk_1_0 uk_4_48) rfl rfl rfl (by decide +kernel) ⟨Nat.le_of_ble_eq_true rfl, Nat.le_of_ble_eq_true rfl⟩) ⟨sPreL_blind _, fun U hU hW => ⟨rfl, ⟨hE.next hS hU hW.alike, by rw [hU]; exact hP⟩, hNc.next hW.alike⟩⟩ rfl rfl hl.1 rfl (lv_room (Nat.le_of_ble_eq_true rfl)) dL_law_719 ⟨by show _ ≤ 600074; (try dsimp only); omega, by show _ ≤ 7301550; (try dsimp only); omega⟩) hS (fun r gz qz H locs e9 hP hS => ?_)
  obtain ⟨er, eg, eq⟩ := eq_q (z := (fX3_openTicketNumber g q q9).toInt) (a_T hI hq9).2.2.2.1 rfl e9
  subst er; subst eg; subst eq
  refine lv_lstore (lv' := [(12, .long (lI ((fX3_openTicketNumber g q q9).toInt))), (11, .int (nI c9)), (10, .int (nI q9)), (9, .int (nI wh)), (8, .int (nI y)), (6, .int (nI k)), (5, .int 1), (4, .int (nI nK)), (3, .int (nI nT)), (2, .ref (ad 90)), (1, .ref (ad 60)), (0, .ref b)]) hx hb dL_law_722 hl (by decide) rfl (fun ls hl => ?_)
  refine lv_aload_n hx hb dL_law_724 rfl (lv_at hl 10 rfl) ?_
  refine lv_iload hx hb dL_law_725 (lv_at hl 2 rfl) ?_
  refine lv_bipush (v := 6) hx hb dL_law_727 (by decide) ?_
  by_cases h6 : g (100 + q9) 6 = 0
  · skip
    refine sy_kl (vx_runSW (As := [.ref (ad 60), .int (nI q9), .int 6]) (rest := []) ⟨hx, hb, hml, hown, hts⟩ (mL_thingOf l hfl Z nT nK cT cK ad g q (nI q9) 6 hI) (vx_cwSW 3 hts (gl_S uk_4_46 uk_4_47 uk_1_0 uk_4_48) rfl rfl rfl (by decide +kernel) ⟨Nat.le_of_ble_eq_true rfl, Nat.le_of_ble_eq_true rfl⟩) ⟨sPreL_blind _, fun U hU hW => ⟨rfl, ⟨hE.next hS hU hW.alike, by rw [hU]; exact hP⟩, hNc.next hW.alike⟩⟩ rfl rfl hl.1 rfl (lv_room (Nat.le_of_ble_eq_true rfl)) dL_law_729 ⟨by show _ ≤ 600074; (try dsimp only); omega, by show _ ≤ 7301550; (try dsimp only); omega⟩) hS (fun r gz qz H locs e9 hP hS => ?_)
    obtain ⟨er, eg, eq⟩ := eq_q (z := 0) (a_T hI hq9).2.2.2.2 (by rw [if_pos h6]; rfl) e9
    subst er; subst eg; subst eq
    refine lv_lconst (v := lI 1) hx hb dL_law_732 rfl ?_
    refine W.lcmp hx hb dL_law_733 ?_
    refine lv_if_ne (tgt := 741) hx hb dL_law_734 (by decide) (fun _ => ?_) (fun c9 => absurd c9 (c_ne (a := 0) (b := 1) (by omega) (by omega) (by omega)))
    refine lv_iconst (v := 0) hx hb dL_law_741 (by decide) ?_
    refine lv_istore (lv' := [(14, .int 0), (12, .long (lI ((fX3_openTicketNumber g q q9).toInt))), (11, .int (nI c9)), (10, .int (nI q9)), (9, .int (nI wh)), (8, .int (nI y)), (6, .int (nI k)), (5, .int 1), (4, .int (nI nK)), (3, .int (nI nT)), (2, .ref (ad 90)), (1, .ref (ad 60)), (0, .ref b)]) hx hb dL_law_742 hl (by decide) rfl (fun ls hl => ?_)
    refine lv_iload hx hb dL_law_744 (lv_at hl 0 rfl) ?_
    refine lv_if_eq (tgt := 807) hx hb dL_law_746 (by decide) (fun _ => ?_) (fun c9 => absurd c9 (by decide))
    refine lv_aload_n hx hb dL_law_807 rfl (lv_at hl 11 rfl) ?_
    refine lv_iload hx hb dL_law_808 (lv_at hl 3 rfl) ?_
    refine sy_kl (vx_runSW (As := [.ref (ad 60), .int (nI q9)]) (rest := []) ⟨hx, hb, hml, hown, hts⟩ (mL_police l hfl Z nT nK cT cK ad g q (nI q9) hI) (vx_cwSW 2 hts (gl_S uk_3_177 uk_3_178 uk_1_0 uk_3_179) rfl rfl rfl (by decide +kernel) ⟨Nat.le_of_ble_eq_true rfl, Nat.le_of_ble_eq_true rfl⟩) ⟨sPreL_blind _, fun U hU hW => ⟨rfl, ⟨hE.next hS hU hW.alike, by rw [hU]; exact hP⟩, hNc.next hW.alike⟩⟩ rfl rfl hl.1 rfl (lv_room (Nat.le_of_ble_eq_true rfl)) dL_law_810 ⟨by show _ ≤ 600074; (try dsimp only); omega, by show _ ≤ 7301550; (try dsimp only); omega⟩) hS (fun r g1 q1 H locs e9 hP hS => ?_)
    obtain ⟨h1, h2, hI2, h3⟩ := (p_police hI hq9).2 h6
    obtain ⟨er, eg, eq⟩ := eq_y (z := (fX3_openTicketNumber g q q9).toInt) h1 (by rw [h2]) e9
    subst er
    rw [eg, eq] at hI2
    rw [eg] at h3
    have hI := hI2
    clear e9
    refine lv_lload hx hb dL_law_813 (lv_at hl 1 rfl) ?_
    refine W.lcmp hx hb dL_law_815 ?_
    refine lv_if_ne (tgt := 836) hx hb dL_law_816 (by decide) (fun c9 => absurd (c_eq (a := (fX3_openTicketNumber g q q9).toInt) (b := (fX3_openTicketNumber g q q9).toInt) (by omega)) c9) (fun _ => ?_)
    refine lv_aload_n hx hb dL_law_819 rfl (lv_at hl 11 rfl) ?_
    refine lv_iload hx hb dL_law_820 (lv_at hl 3 rfl) ?_
    refine lv_bipush (v := 6) hx hb dL_law_822 (by decide) ?_
    refine sy_kl (vx_runSW (As := [.ref (ad 60), .int (nI q9), .int 6]) (rest := []) ⟨hx, hb, hml, hown, hts⟩ (mL_thingOf l hfl Z nT nK cT cK ad g1 q1 (nI q9) 6 hI) (vx_cwSW 3 hts (gl_S uk_4_46 uk_4_47 uk_1_0 uk_4_48) rfl rfl rfl (by decide +kernel) ⟨Nat.le_of_ble_eq_true rfl, Nat.le_of_ble_eq_true rfl⟩) ⟨sPreL_blind _, fun U hU hW => ⟨rfl, ⟨hE.next hS hU hW.alike, by rw [hU]; exact hP⟩, hNc.next hW.alike⟩⟩ rfl rfl hl.1 rfl (lv_room (Nat.le_of_ble_eq_true rfl)) dL_law_824 ⟨by show _ ≤ 600074; (try dsimp only); omega, by show _ ≤ 7301550; (try dsimp only); omega⟩) hS (fun r gz qz H locs e9 hP hS => ?_)
    obtain ⟨er, eg, eq⟩ := eq_q (z := 1) (a_T hI hq9).2.2.2.2 (by rw [h3]; rfl) e9
    subst er; subst eg; subst eq
    refine lv_lconst (v := lI 1) hx hb dL_law_827 rfl ?_
    refine W.lcmp hx hb dL_law_828 ?_
    refine lv_if_ne (tgt := 836) hx hb dL_law_829 (by decide) (fun c9 => absurd (c_eq (a := 1) (b := 1) (by omega)) c9) (fun _ => ?_)
    refine lv_iconst (v := 1) hx hb dL_law_832 (by decide) ?_
    refine lv_goto (tgt := 837) hx hb dL_law_833 (by decide) ?_
    refine lv_istore (lv' := [(5, .int 1), (14, .int 0), (12, .long (lI ((fX3_openTicketNumber g q q9).toInt))), (11, .int (nI c9)), (10, .int (nI q9)), (9, .int (nI wh)), (8, .int (nI y)), (6, .int (nI k)), (4, .int (nI nK)), (3, .int (nI nT)), (2, .ref (ad 90)), (1, .ref (ad 60)), (0, .ref b)]) hx hb dL_law_837 hl (by decide) rfl (fun ls hl => ?_)
    refine lv_goto (tgt := 1280) hx hb dL_law_839 (by decide) ?_
    refine W.widen (k := 100 + 2000 * k + 100) (n := 4000 + 12000 * k + 1000) (by (try dsimp only); omega) (by (try dsimp only); omega) ?_
    exact hJ _ _ _ _ _ _ _ _ _ _ (by omega) ⟨hP, (ci_n (by omega) hI), h70, h71, hS, lv_sub hl [7, 0, 8, 9, 10, 11, 12] rfl⟩
  · skip
    refine sy_kl (vx_runSW (As := [.ref (ad 60), .int (nI q9), .int 6]) (rest := []) ⟨hx, hb, hml, hown, hts⟩ (mL_thingOf l hfl Z nT nK cT cK ad g q (nI q9) 6 hI) (vx_cwSW 3 hts (gl_S uk_4_46 uk_4_47 uk_1_0 uk_4_48) rfl rfl rfl (by decide +kernel) ⟨Nat.le_of_ble_eq_true rfl, Nat.le_of_ble_eq_true rfl⟩) ⟨sPreL_blind _, fun U hU hW => ⟨rfl, ⟨hE.next hS hU hW.alike, by rw [hU]; exact hP⟩, hNc.next hW.alike⟩⟩ rfl rfl hl.1 rfl (lv_room (Nat.le_of_ble_eq_true rfl)) dL_law_729 ⟨by show _ ≤ 600074; (try dsimp only); omega, by show _ ≤ 7301550; (try dsimp only); omega⟩) hS (fun r gz qz H locs e9 hP hS => ?_)
    obtain ⟨er, eg, eq⟩ := eq_q (z := 1) (a_T hI hq9).2.2.2.2 (by rw [if_neg h6]; rfl) e9
    subst er; subst eg; subst eq
    refine lv_lconst (v := lI 1) hx hb dL_law_732 rfl ?_
    refine W.lcmp hx hb dL_law_733 ?_
    refine lv_if_ne (tgt := 741) hx hb dL_law_734 (by decide) (fun c9 => absurd (c_eq (a := 1) (b := 1) (by omega)) c9) (fun _ => ?_)
    refine lv_iconst (v := 1) hx hb dL_law_737 (by decide) ?_
    refine lv_goto (tgt := 742) hx hb dL_law_738 (by decide) ?_
    refine lv_istore (lv' := [(14, .int 1), (12, .long (lI ((fX3_openTicketNumber g q q9).toInt))), (11, .int (nI c9)), (10, .int (nI q9)), (9, .int (nI wh)), (8, .int (nI y)), (6, .int (nI k)), (5, .int 1), (4, .int (nI nK)), (3, .int (nI nT)), (2, .ref (ad 90)), (1, .ref (ad 60)), (0, .ref b)]) hx hb dL_law_742 hl (by decide) rfl (fun ls hl => ?_)
    refine lv_iload hx hb dL_law_744 (lv_at hl 0 rfl) ?_
    refine lv_if_eq (tgt := 807) hx hb dL_law_746 (by decide) (fun c9 => absurd c9 (by decide)) (fun _ => ?_)
    refine lv_aload_n hx hb dL_law_749 rfl (lv_at hl 11 rfl) ?_
    refine lv_iload hx hb dL_law_750 (lv_at hl 3 rfl) ?_
    refine sy_kl (vx_runSW (As := [.ref (ad 60), .int (nI q9)]) (rest := []) ⟨hx, hb, hml, hown, hts⟩ (mL_police l hfl Z nT nK cT cK ad g q (nI q9) hI) (vx_cwSW 2 hts (gl_S uk_3_177 uk_3_178 uk_1_0 uk_3_179) rfl rfl rfl (by decide +kernel) ⟨Nat.le_of_ble_eq_true rfl, Nat.le_of_ble_eq_true rfl⟩) ⟨sPreL_blind _, fun U hU hW => ⟨rfl, ⟨hE.next hS hU hW.alike, by rw [hU]; exact hP⟩, hNc.next hW.alike⟩⟩ rfl rfl hl.1 rfl (lv_room (Nat.le_of_ble_eq_true rfl)) dL_law_752 ⟨by show _ ≤ 600074; (try dsimp only); omega, by show _ ≤ 7301550; (try dsimp only); omega⟩) hS (fun r gz qz H locs e9 hP hS => ?_)
    obtain ⟨er, eg, eq⟩ := eq_n3 ((p_police hI hq9).1 h6) e9
    subst er; subst eg; subst eq
    refine lv_ldc2 (v := lI (-9000000000000000003)) hx hb hown (hts _ (wsU_tbl uk_2_183)) dL_law_755 ?_
    refine W.lcmp hx hb dL_law_758 ?_
    refine lv_if_ne (tgt := 803) hx hb dL_law_759 (by decide) (fun c9 => absurd (c_eq (a := (-9000000000000000003)) (b := (-9000000000000000003)) (by omega)) c9) (fun _ => ?_)
    refine lv_aload_n hx hb dL_law_762 rfl (lv_at hl 11 rfl) ?_
    refine lv_iload hx hb dL_law_763 (lv_at hl 3 rfl) ?_
    refine lv_iload hx hb dL_law_765 (lv_at hl 5 rfl) ?_
    refine lv_iconst (v := 2) hx hb dL_law_767 (by decide) ?_
    refine lv_irem hx hb dL_law_768 (by decide) ?_
    refine sy_top (y := nI (y % 2)) (nI_rem (a := y) (b := 2) (by omega) (by omega)) ?_
    by_cases h2y : y % 2 = 0
    · skip
      refine lv_if_ne (tgt := 776) hx hb dL_law_769 (by decide) (fun c9 => absurd ((nI_eq (a := (y % 2)) (b := 0) (by omega) (by omega)).mpr (by omega)) c9) (fun _ => ?_)
      refine lv_iconst (v := 1) hx hb dL_law_772 (by decide) ?_
      refine lv_goto (tgt := 777) hx hb dL_law_773 (by decide) ?_
      refine sy_kl (vx_runSW (As := [.ref (ad 60), .int (nI q9), .int 1]) (rest := []) ⟨hx, hb, hml, hown, hts⟩ (mL_court l hfl Z nT nK cT cK ad g q (nI q9) 1 hI) (vx_cwSW 3 hts (gl_S uk_3_188 uk_3_189 uk_1_0 uk_3_190) rfl rfl rfl (by decide +kernel) ⟨Nat.le_of_ble_eq_true rfl, Nat.le_of_ble_eq_true rfl⟩) ⟨sPreL_blind _, fun U hU hW => ⟨rfl, ⟨hE.next hS hU hW.alike, by rw [hU]; exact hP⟩, hNc.next hW.alike⟩⟩ rfl rfl hl.1 rfl (lv_room (Nat.le_of_ble_eq_true rfl)) dL_law_777 ⟨by show _ ≤ 600074; (try dsimp only); omega, by show _ ≤ 7301550; (try dsimp only); omega⟩) hS (fun r g1 q1 H locs e9 hP hS => ?_)
      obtain ⟨h1, h2, hI2⟩ := p_court hI hq9 h6 (x := 1) (Or.inr rfl)
      obtain ⟨er, eg, eq⟩ := eq_y (z := (fX3_openTicketNumber g q q9).toInt) h1 (by rw [h2]; rfl) e9
      subst er
      rw [eg, eq] at hI2
      have hI := hI2
      clear e9
      refine lv_iload hx hb dL_law_780 (lv_at hl 5 rfl) ?_
      refine lv_iconst (v := 2) hx hb dL_law_782 (by decide) ?_
      refine lv_irem hx hb dL_law_783 (by decide) ?_
      refine sy_top (y := nI (y % 2)) (nI_rem (a := y) (b := 2) (by omega) (by omega)) ?_
      refine lv_if_ne (tgt := 792) hx hb dL_law_784 (by decide) (fun c9 => absurd ((nI_eq (a := (y % 2)) (b := 0) (by omega) (by omega)).mpr (by omega)) c9) (fun _ => ?_)
      refine lv_lload hx hb dL_law_787 (lv_at hl 1 rfl) ?_
      refine lv_goto (tgt := 795) hx hb dL_law_789 (by decide) ?_
      refine W.lcmp hx hb dL_law_795 ?_
      refine lv_if_ne (tgt := 803) hx hb dL_law_796 (by decide) (fun c9 => absurd (c_eq (a := (fX3_openTicketNumber g q q9).toInt) (b := (fX3_openTicketNumber g q q9).toInt) (by omega)) c9) (fun _ => ?_)
      refine lv_iconst (v := 1) hx hb dL_law_799 (by decide) ?_
      refine lv_goto (tgt := 837) hx hb dL_law_800 (by decide) ?_
      refine lv_istore (lv' := [(5, .int 1), (14, .int 1), (12, .long (lI ((fX3_openTicketNumber g q q9).toInt))), (11, .int (nI c9)), (10, .int (nI q9)), (9, .int (nI wh)), (8, .int (nI y)), (6, .int (nI k)), (4, .int (nI nK)), (3, .int (nI nT)), (2, .ref (ad 90)), (1, .ref (ad 60)), (0, .ref b)]) hx hb dL_law_837 hl (by decide) rfl (fun ls hl => ?_)
      refine lv_goto (tgt := 1280) hx hb dL_law_839 (by decide) ?_
      refine W.widen (k := 100 + 2000 * k + 100) (n := 4000 + 12000 * k + 1000) (by (try dsimp only); omega) (by (try dsimp only); omega) ?_
      exact hJ _ _ _ _ _ _ _ _ _ _ (by omega) ⟨hP, (ci_n (by omega) hI), h70, h71, hS, lv_sub hl [7, 0, 8, 9, 10, 11, 12] rfl⟩
    · skip
      refine lv_if_ne (tgt := 776) hx hb dL_law_769 (by decide) (fun _ => ?_) (fun c9 => absurd c9 (mt (nI_eq (a := (y % 2)) (b := 0) (by omega) (by omega)).mp (by omega)))
      refine lv_iconst (v := 0) hx hb dL_law_776 (by decide) ?_
      refine sy_kl (vx_runSW (As := [.ref (ad 60), .int (nI q9), .int 0]) (rest := []) ⟨hx, hb, hml, hown, hts⟩ (mL_court l hfl Z nT nK cT cK ad g q (nI q9) 0 hI) (vx_cwSW 3 hts (gl_S uk_3_188 uk_3_189 uk_1_0 uk_3_190) rfl rfl rfl (by decide +kernel) ⟨Nat.le_of_ble_eq_true rfl, Nat.le_of_ble_eq_true rfl⟩) ⟨sPreL_blind _, fun U hU hW => ⟨rfl, ⟨hE.next hS hU hW.alike, by rw [hU]; exact hP⟩, hNc.next hW.alike⟩⟩ rfl rfl hl.1 rfl (lv_room (Nat.le_of_ble_eq_true rfl)) dL_law_777 ⟨by show _ ≤ 600074; (try dsimp only); omega, by show _ ≤ 7301550; (try dsimp only); omega⟩) hS (fun r g1 q1 H locs e9 hP hS => ?_)
      obtain ⟨h1, h2, hI2⟩ := p_court hI hq9 h6 (x := 0) (Or.inl rfl)
      obtain ⟨er, eg, eq⟩ := eq_y (z := (-1)) h1 (by rw [h2]; rfl) e9
      subst er
      rw [eg, eq] at hI2
      have hI := hI2
      clear e9
      refine lv_iload hx hb dL_law_780 (lv_at hl 5 rfl) ?_
      refine lv_iconst (v := 2) hx hb dL_law_782 (by decide) ?_
      refine lv_irem hx hb dL_law_783 (by decide) ?_
      refine sy_top (y := nI (y % 2)) (nI_rem (a := y) (b := 2) (by omega) (by omega)) ?_
      refine lv_if_ne (tgt := 792) hx hb dL_law_784 (by decide) (fun _ => ?_) (fun c9 => absurd c9 (mt (nI_eq (a := (y % 2)) (b := 0) (by omega) (by omega)).mp (by omega)))
      refine lv_ldc2 (v := lI (-1)) hx hb hown (hts _ (wsU_tbl uk_4_212)) dL_law_792 ?_
      refine W.lcmp hx hb dL_law_795 ?_
      refine lv_if_ne (tgt := 803) hx hb dL_law_796 (by decide) (fun c9 => absurd (c_eq (a := (-1)) (b := (-1)) (by omega)) c9) (fun _ => ?_)
      refine lv_iconst (v := 1) hx hb dL_law_799 (by decide) ?_
      refine lv_goto (tgt := 837) hx hb dL_law_800 (by decide) ?_
      refine lv_istore (lv' := [(5, .int 1), (14, .int 1), (12, .long (lI ((fX3_openTicketNumber g q q9).toInt))), (11, .int (nI c9)), (10, .int (nI q9)), (9, .int (nI wh)), (8, .int (nI y)), (6, .int (nI k)), (4, .int (nI nK)), (3, .int (nI nT)), (2, .ref (ad 90)), (1, .ref (ad 60)), (0, .ref b)]) hx hb dL_law_837 hl (by decide) rfl (fun ls hl => ?_)
      refine lv_goto (tgt := 1280) hx hb dL_law_839 (by decide) ?_
      refine W.widen (k := 100 + 2000 * k + 100) (n := 4000 + 12000 * k + 1000) (by (try dsimp only); omega) (by (try dsimp only); omega) ?_
      exact hJ _ _ _ _ _ _ _ _ _ _ (by omega) ⟨hP, (ci_n (by omega) hI), h70, h71, hS, lv_sub hl [7, 0, 8, 9, 10, 11, 12] rfl⟩
end LWC
