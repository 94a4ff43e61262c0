section LWC
variable {p : Program} {l : Launch} {e : Env} {s : State} {m : MethodId} {below : List Frame} {meth : Method} {c : Code} {b L : Nat} {xs : Nat → Int32} {Z : sZ}
set_option maxHeartbeats 8000000 in
set_option maxRecDepth 100000 in
theorem lc_B (hC : lCtx p l s m meth c b L xs Z) {k : Nat} (hk : k < 48) {nT nK cT cK : Nat} {ad : Nat → Nat} {g : sG} {q : sQ} {H : Heap} {locs : List Loc} {ls : Array Slot} {wh q9 c9 y : Nat} (hy : y < 2147483648) (hwh : wh = 4) (hT0 : 0 < nT) (hq9 : q9 < nT) (h : lSt Z s b k (k + 1) nT nK cT cK ad g q H locs ls [(11, .int (nI c9)), (10, .int (nI q9)), (9, .int (nI wh)), (8, .int (nI y))]) (hJ : ∀ (nT nK cT cK : Nat) (ad : Nat → Nat) (g : sG) (q : sQ) (H : Heap) (locs : List Loc) (ls : Array Slot), 0 < nT → lSt Z s b k (k + 2) nT nK cT cK ad g q H locs ls [] → W p l e room_1 s m #[Value.ref b] below meth c H locs (100 + 2000 * k + 100) (4000 + 14000 * k + 1000) (lw_Z below #[Value.ref b] s) (F0 m 1280 ls [])) : W p l e room_1 s m #[Value.ref b] below meth c H locs (100 + 2000 * k) (4000 + 14000 * k) (lw_Z below #[Value.ref b] s) (F0 m 133 ls []) := by
  obtain ⟨hx, hb, hr, hml, hown, hts, hX, hbl, hlocks, hZ, hE, hNc, hfl⟩ := hC
  obtain ⟨hP, hI, h70, h71, hS, hl⟩ := h
  have hl : lv_has ls 18 [(11, .int (nI c9)), (10, .int (nI q9)), (9, .int (nI wh)), (8, .int (nI y)), (6, .int (nI k)), (5, .int 1), (4, .int (nI nK)), (3, .int (nI nT)), (2, .ref (ad 90)), (1, .ref (ad 60)), (0, .ref b)] := hl
  have hT40 := ci_T hI
  have hK40 := ci_K hI
  refine lv_iload hx hb dL_law_133 (lv_at hl 2 rfl) ?_
  refine lv_iconst (v := 4) hx hb dL_law_135 (by decide) ?_
  refine lv_icmp_lt (tgt := 143) hx hb dL_law_136 (by decide) (fun cz9 => absurd cz9 (mt (nI_ltI (a := wh) (b := 4) (by omega) (by omega)).mp (by omega))) (fun _ => ?_)
  refine lv_iload_n hx hb dL_law_139 rfl (lv_at hl 7 rfl) ?_
  refine lv_if_ne (tgt := 377) hx hb dL_law_140 (by decide) (fun _ => ?_) (fun cz9 => absurd cz9 (mt (nI_eq (a := nT) (b := 0) (by omega) (by omega)).mp (by omega)))
  refine lv_iload hx hb dL_law_377 (lv_at hl 2 rfl) ?_
  refine lv_iconst (v := 4) hx hb dL_law_379 (by decide) ?_
  refine lv_icmp_ne (tgt := 506) hx hb dL_law_380 (by decide) (fun cz9 => absurd ((nI_eq (a := wh) (b := 4) (by omega) (by omega)).mpr (by omega)) cz9) (fun _ => ?_)
  refine lv_iconst (v := 1) hx hb dL_law_383 (by decide) ?_
  refine lv_iload hx hb dL_law_384 (lv_at hl 3 rfl) ?_
  refine lv_bipush (v := 16) hx hb dL_law_386 (by decide) ?_
  refine lv_idiv hx hb dL_law_388 (by decide) ?_
  refine sy_top (y := nI (y / 16)) (nI_div (a := y) (b := 16) (by omega) (by omega)) ?_
  refine lv_bipush (v := 100) hx hb dL_law_389 (by decide) ?_
  refine lv_irem hx hb dL_law_391 (by decide) ?_
  refine sy_top (y := nI ((y / 16) % 100)) (nI_rem (a := (y / 16)) (b := 100) (by omega) (by omega)) ?_
  refine lv_iadd hx hb dL_law_392 ?_
  refine sy_top (y := nI (1 + ((y / 16) % 100))) (nI_add 1 ((y / 16) % 100)) ?_
  refine lv_istore (lv' := [(12, .int (nI (1 + ((y / 16) % 100)))), (11, .int (nI c9)), (10, .int (nI q9)), (9, .int (nI wh)), (8, .int (nI y)), (6, .int (nI k)), (5, .int 1), (4, .int (nI nK)), (3, .int (nI nT)), (2, .ref (ad 90)), (1, .ref (ad 60)), (0, .ref b)]) hx hb dL_law_393 hl (by decide) rfl (fun ls hl => ?_)
  refine lv_aload_n hx hb dL_law_395 rfl (lv_at hl 10 rfl) ?_
  refine lv_iload hx hb dL_law_396 (lv_at hl 2 rfl) ?_
  refine lv_iconst (v := 3) hx hb dL_law_398 (by decide) ?_
  rcases p_pledge (x5 := 0) hI (by omega) (pp := y % 3) (i := q9) (X := y / 8 % 4) (b := y / 32 % 3) (l := (1 + ((y / 16) % 100))) (by omega) hq9 (by omega) (by omega) (by omega) with hw | ⟨h5, h6, h1, h2, hI2, h3, h4⟩
  · skip
    have hM : ∀ (H : Heap) (locs : List Loc), Sy Z nT nK cT cK ad g q H → va_S (sy_A Z) s.heap H locs → ∀ iso : Int32, W p l e room_1 s m #[Value.ref b] below meth c H locs (100 + 2000 * k + 10) (4000 + 14000 * k + 100) (lw_Z below #[Value.ref b] s) (F0 m 425 ls [.int iso]) := by
      intro H locs hP hS iso
      refine lv_istore (lv' := [(13, .int iso), (12, .int (nI (1 + ((y / 16) % 100)))), (11, .int (nI c9)), (10, .int (nI q9)), (9, .int (nI wh)), (8, .int (nI y)), (6, .int (nI k)), (5, .int 1), (4, .int (nI nK)), (3, .int (nI nT)), (2, .ref (ad 90)), (1, .ref (ad 60)), (0, .ref b)]) hx hb dL_law_425 hl (by decide) rfl (fun ls hl => ?_)
      refine lv_aload_n hx hb dL_law_427 rfl (lv_at hl 11 rfl) ?_
      refine lv_iload hx hb dL_law_428 (lv_at hl 5 rfl) ?_
      refine lv_iconst (v := 3) hx hb dL_law_430 (by decide) ?_
      refine lv_irem hx hb dL_law_431 (by decide) ?_
      refine sy_top (y := nI (y % 3)) (nI_rem (a := y) (b := 3) (by omega) (by omega)) ?_
      refine lv_iload hx hb dL_law_432 (lv_at hl 3 rfl) ?_
      refine lv_iload hx hb dL_law_434 (lv_at hl 5 rfl) ?_
      refine lv_bipush (v := 8) hx hb dL_law_436 (by decide) ?_
      refine lv_idiv hx hb dL_law_438 (by decide) ?_
      refine sy_top (y := nI (y / 8)) (nI_div (a := y) (b := 8) (by omega) (by omega)) ?_
      refine lv_iconst (v := 4) hx hb dL_law_439 (by decide) ?_
      refine lv_irem hx hb dL_law_440 (by decide) ?_
      refine sy_top (y := nI ((y / 8) % 4)) (nI_rem (a := (y / 8)) (b := 4) (by omega) (by omega)) ?_
      refine lv_iload hx hb dL_law_441 (lv_at hl 5 rfl) ?_
      refine lv_bipush (v := 32) hx hb dL_law_443 (by decide) ?_
      refine lv_idiv hx hb dL_law_445 (by decide) ?_
      refine sy_top (y := nI (y / 32)) (nI_div (a := y) (b := 32) (by omega) (by omega)) ?_
      refine lv_iconst (v := 3) hx hb dL_law_446 (by decide) ?_
      refine lv_irem hx hb dL_law_447 (by decide) ?_
      refine sy_top (y := nI ((y / 32) % 3)) (nI_rem (a := (y / 32)) (b := 3) (by omega) (by omega)) ?_
      refine lv_iload hx hb dL_law_448 (lv_at hl 1 rfl) ?_
      refine lv_iconst (v := 0) hx hb dL_law_450 (by decide) ?_
      refine va_calll (vx_runSW (As := [.ref (ad 60), .int (nI (y % 3)), .int (nI q9), .int (nI ((y / 8) % 4)), .int (nI ((y / 32) % 3)), .int (nI (1 + ((y / 16) % 100))), .int 0]) (rest := []) ⟨hx, hb, hml, hown, hts⟩ (mL_pledge l hfl Z nT nK cT cK ad g q (nI (y % 3)) (nI q9) (nI ((y / 8) % 4)) (nI ((y / 32) % 3)) (nI (1 + ((y / 16) % 100))) 0 hI (Or.inl rfl) h71) (vx_cwSW 7 hts (gl_S uk_3_5 uk_3_6 uk_1_0 uk_3_7) rfl rfl rfl (by decide +kernel) ⟨Nat.le_of_ble_eq_true rfl, Nat.le_of_ble_eq_true rfl⟩) ⟨sPreL_blind _, fun U hU hW => ⟨rfl, ⟨hE.next hS hU hW.alike, by rw [hU]; exact hP⟩, hNc.next hW.alike⟩⟩ rfl rfl hl.1 rfl (lv_room (Nat.le_of_ble_eq_true rfl)) dL_law_451 ⟨by show _ ≤ 600074; (try dsimp only); omega, by show _ ≤ 7301550; (try dsimp only); omega⟩) hS (fun _ _ h => h) (fun _ h => h) (fun r u t H locs ht _ hp hB _ _ hS => ?_)
      obtain ⟨ad1, g1, q1⟩ := u
      obtain ⟨-, hB1, hB2⟩ := hB
      rw [ht] at hB1 hB2
      obtain ⟨er, hp⟩ := hp
      dsimp only at hp hB1
      rw [hw] at er hB2
      have hP := hB2 (show (3 : Int32) ≠ 0 by decide)
      subst er
      refine sy_topL (y := lI (-9000000000000000003)) rfl ?_
      refine lv_lstore (lv' := [(14, .long (lI (-9000000000000000003))), (13, .int iso), (12, .int (nI (1 + ((y / 16) % 100)))), (11, .int (nI c9)), (10, .int (nI q9)), (9, .int (nI wh)), (8, .int (nI y)), (6, .int (nI k)), (5, .int 1), (4, .int (nI nK)), (3, .int (nI nT)), (2, .ref (ad 90)), (1, .ref (ad 60)), (0, .ref b)]) hx hb dL_law_454 hl (by decide) rfl (fun ls hl => ?_)
      refine lv_lload hx hb dL_law_456 (lv_at hl 0 rfl) ?_
      refine lv_ldc2 (v := lI (-9000000000000000003)) hx hb hown (hts _ (wsU_tbl uk_2_183)) dL_law_458 ?_
      refine W.lcmp hx hb dL_law_461 ?_
      refine lv_if_eq (tgt := 479) hx hb dL_law_462 (by decide) (fun _ => ?_) (fun cz9 => absurd (c_eq (a := (-9000000000000000003)) (b := (-9000000000000000003)) (by omega)) cz9)
      refine lv_iconst (v := 1) hx hb dL_law_479 (by decide) ?_
      refine lv_goto (tgt := 484) hx hb dL_law_480 (by decide) ?_
      refine lv_istore (lv' := [(5, .int 1), (14, .long (lI (-9000000000000000003))), (13, .int iso), (12, .int (nI (1 + ((y / 16) % 100)))), (11, .int (nI c9)), (10, .int (nI q9)), (9, .int (nI wh)), (8, .int (nI y)), (6, .int (nI k)), (4, .int (nI nK)), (3, .int (nI nT)), (2, .ref (ad 90)), (1, .ref (ad 60)), (0, .ref b)]) hx hb dL_law_484 hl (by decide) rfl (fun ls hl => ?_)
      refine lv_iload hx hb dL_law_486 (lv_at hl 9 rfl) ?_
      refine lv_lload hx hb dL_law_488 (lv_at hl 1 rfl) ?_
      refine lv_lconst (v := lI 0) hx hb dL_law_490 rfl ?_
      refine W.lcmp hx hb dL_law_491 ?_
      refine lv_if_lt (tgt := 499) hx hb dL_law_492 (by decide) (fun _ => ?_) (fun cz9 => absurd (by rw [(c_lt (a := (-9000000000000000003)) (b := 0) (by omega) (by omega) (by omega))]; decide) cz9)
      refine lv_iconst (v := 0) hx hb dL_law_499 (by decide) ?_
      refine lv_iadd hx hb dL_law_500 ?_
      refine sy_top (y := nI (nK + 0)) (nI_add nK 0) ?_
      refine lv_istore (lv' := [(4, .int (nI (nK + 0))), (5, .int 1), (14, .long (lI (-9000000000000000003))), (13, .int iso), (12, .int (nI (1 + ((y / 16) % 100)))), (11, .int (nI c9)), (10, .int (nI q9)), (9, .int (nI wh)), (8, .int (nI y)), (6, .int (nI k)), (3, .int (nI nT)), (2, .ref (ad 90)), (1, .ref (ad 60)), (0, .ref b)]) hx hb dL_law_501 hl (by decide) rfl (fun ls hl => ?_)
      refine lv_goto (tgt := 1280) hx hb dL_law_503 (by decide) ?_
      refine W.widen (k := 100 + 2000 * k + 100) (n := 4000 + 14000 * k + 1000) (by (try dsimp only); omega) (by (try dsimp only); omega) ?_
      exact hJ _ _ _ _ _ _ _ _ _ _ (by omega) ⟨hP, (ci_n (by omega) hI), h70, h71, hS, lv_sub hl [9, 1, 0, 10, 11, 12, 13] rfl⟩
    by_cases h5 : g (100 + q9) 5 = 0
    · skip
      refine sy_kl (vx_runSW (As := [.ref (ad 60), .int (nI q9), .int 3]) (rest := []) ⟨hx, hb, hml, hown, hts⟩ (mL_thingOf l hfl Z nT nK cT cK ad g q (nI q9) 3 hI) (vx_cwSW 3 hts (gl_S uk_4_46 uk_4_47 uk_1_0 uk_4_48) rfl rfl rfl (by decide +kernel) ⟨Nat.le_of_ble_eq_true rfl, Nat.le_of_ble_eq_true rfl⟩) ⟨sPreL_blind _, fun U hU hW => ⟨rfl, ⟨hE.next hS hU hW.alike, by rw [hU]; exact hP⟩, hNc.next hW.alike⟩⟩ rfl rfl hl.1 rfl (lv_room (Nat.le_of_ble_eq_true rfl)) dL_law_399 ⟨by show _ ≤ 600074; (try dsimp only); omega, by show _ ≤ 7301550; (try dsimp only); omega⟩) hS (fun r gz qz H locs e9 hP hS => ?_)
      obtain ⟨er, eg, eq⟩ := eq_q (z := 0) (a_T hI hq9).2.1 (by rw [if_pos h5]; rfl) e9
      subst er; subst eg; subst eq
      refine lv_lconst (v := lI 0) hx hb dL_law_402 rfl ?_
      refine W.lcmp hx hb dL_law_403 ?_
      refine lv_if_ne (tgt := 424) hx hb dL_law_404 (by decide) (fun cz9 => absurd (c_eq (a := 0) (b := 0) (by omega)) cz9) (fun _ => ?_)
      refine lv_aload_n hx hb dL_law_407 rfl (lv_at hl 10 rfl) ?_
      refine lv_iload hx hb dL_law_408 (lv_at hl 2 rfl) ?_
      refine lv_bipush (v := 6) hx hb dL_law_410 (by decide) ?_
      by_cases h6 : g (100 + q9) 6 = 0
      · skip
        refine sy_kl (vx_runSW (As := [.ref (ad 60), .int (nI q9), .int 6]) (rest := []) ⟨hx, hb, hml, hown, hts⟩ (mL_thingOf l hfl Z nT nK cT cK ad g q (nI q9) 6 hI) (vx_cwSW 3 hts (gl_S uk_4_46 uk_4_47 uk_1_0 uk_4_48) rfl rfl rfl (by decide +kernel) ⟨Nat.le_of_ble_eq_true rfl, Nat.le_of_ble_eq_true rfl⟩) ⟨sPreL_blind _, fun U hU hW => ⟨rfl, ⟨hE.next hS hU hW.alike, by rw [hU]; exact hP⟩, hNc.next hW.alike⟩⟩ rfl rfl hl.1 rfl (lv_room (Nat.le_of_ble_eq_true rfl)) dL_law_412 ⟨by show _ ≤ 600074; (try dsimp only); omega, by show _ ≤ 7301550; (try dsimp only); omega⟩) hS (fun r gz qz H locs e9 hP hS => ?_)
        obtain ⟨er, eg, eq⟩ := eq_q (z := 0) (a_T hI hq9).2.2.2.2 (by rw [if_pos h6]; rfl) e9
        subst er; subst eg; subst eq
        refine lv_lconst (v := lI 0) hx hb dL_law_415 rfl ?_
        refine W.lcmp hx hb dL_law_416 ?_
        refine lv_if_ne (tgt := 424) hx hb dL_law_417 (by decide) (fun cz9 => absurd (c_eq (a := 0) (b := 0) (by omega)) cz9) (fun _ => ?_)
        refine lv_iconst (v := 1) hx hb dL_law_420 (by decide) ?_
        refine lv_goto (tgt := 425) hx hb dL_law_421 (by decide) ?_
        refine W.widen (k := 100 + 2000 * k + 10) (n := 4000 + 14000 * k + 100) (by (try dsimp only); omega) (by (try dsimp only); omega) ?_
        exact hM _ _ hP hS _
      · skip
        refine sy_kl (vx_runSW (As := [.ref (ad 60), .int (nI q9), .int 6]) (rest := []) ⟨hx, hb, hml, hown, hts⟩ (mL_thingOf l hfl Z nT nK cT cK ad g q (nI q9) 6 hI) (vx_cwSW 3 hts (gl_S uk_4_46 uk_4_47 uk_1_0 uk_4_48) rfl rfl rfl (by decide +kernel) ⟨Nat.le_of_ble_eq_true rfl, Nat.le_of_ble_eq_true rfl⟩) ⟨sPreL_blind _, fun U hU hW => ⟨rfl, ⟨hE.next hS hU hW.alike, by rw [hU]; exact hP⟩, hNc.next hW.alike⟩⟩ rfl rfl hl.1 rfl (lv_room (Nat.le_of_ble_eq_true rfl)) dL_law_412 ⟨by show _ ≤ 600074; (try dsimp only); omega, by show _ ≤ 7301550; (try dsimp only); omega⟩) hS (fun r gz qz H locs e9 hP hS => ?_)
        obtain ⟨er, eg, eq⟩ := eq_q (z := 1) (a_T hI hq9).2.2.2.2 (by rw [if_neg h6]; rfl) e9
        subst er; subst eg; subst eq
        refine lv_lconst (v := lI 0) hx hb dL_law_415 rfl ?_
        refine W.lcmp hx hb dL_law_416 ?_
        refine lv_if_ne (tgt := 424) hx hb dL_law_417 (by decide) (fun _ => ?_) (fun cz9 => absurd cz9 (c_ne (a := 1) (b := 0) (by omega) (by omega) (by omega)))
        refine lv_iconst (v := 0) hx hb dL_law_424 (by decide) ?_
        refine W.widen (k := 100 + 2000 * k + 10) (n := 4000 + 14000 * k + 100) (by (try dsimp only); omega) (by (try dsimp only); omega) ?_
        exact hM _ _ hP hS _
    · skip
      refine sy_kl (vx_runSW (As := [.ref (ad 60), .int (nI q9), .int 3]) (rest := []) ⟨hx, hb, hml, hown, hts⟩ (mL_thingOf l hfl Z nT nK cT cK ad g q (nI q9) 3 hI) (vx_cwSW 3 hts (gl_S uk_4_46 uk_4_47 uk_1_0 uk_4_48) rfl rfl rfl (by decide +kernel) ⟨Nat.le_of_ble_eq_true rfl, Nat.le_of_ble_eq_true rfl⟩) ⟨sPreL_blind _, fun U hU hW => ⟨rfl, ⟨hE.next hS hU hW.alike, by rw [hU]; exact hP⟩, hNc.next hW.alike⟩⟩ rfl rfl hl.1 rfl (lv_room (Nat.le_of_ble_eq_true rfl)) dL_law_399 ⟨by show _ ≤ 600074; (try dsimp only); omega, by show _ ≤ 7301550; (try dsimp only); omega⟩) hS (fun r gz qz H locs e9 hP hS => ?_)
      obtain ⟨er, eg, eq⟩ := eq_q (z := 1) (a_T hI hq9).2.1 (by rw [if_neg h5]; rfl) e9
      subst er; subst eg; subst eq
      refine lv_lconst (v := lI 0) hx hb dL_law_402 rfl ?_
      refine W.lcmp hx hb dL_law_403 ?_
      refine lv_if_ne (tgt := 424) hx hb dL_law_404 (by decide) (fun _ => ?_) (fun cz9 => absurd cz9 (c_ne (a := 1) (b := 0) (by omega) (by omega) (by omega)))
      refine lv_iconst (v := 0) hx hb dL_law_424 (by decide) ?_
      refine W.widen (k := 100 + 2000 * k + 10) (n := 4000 + 14000 * k + 100) (by (try dsimp only); omega) (by (try dsimp only); omega) ?_
      exact hM _ _ hP hS _
  · skip
    refine sy_kl (vx_runSW (As := [.ref (ad 60), .int (nI q9), .int 3]) (rest := []) ⟨hx, hb, hml, hown, hts⟩ (mL_thingOf l hfl Z nT nK cT cK ad g q (nI q9) 3 hI) (vx_cwSW 3 hts (gl_S uk_4_46 uk_4_47 uk_1_0 uk_4_48) rfl rfl rfl (by decide +kernel) ⟨Nat.le_of_ble_eq_true rfl, Nat.le_of_ble_eq_true rfl⟩) ⟨sPreL_blind _, fun U hU hW => ⟨rfl, ⟨hE.next hS hU hW.alike, by rw [hU]; exact hP⟩, hNc.next hW.alike⟩⟩ rfl rfl hl.1 rfl (lv_room (Nat.le_of_ble_eq_true rfl)) dL_law_399 ⟨by show _ ≤ 600074; (try dsimp only); omega, by show _ ≤ 7301550; (try dsimp only); omega⟩) hS (fun r gz qz H locs e9 hP hS => ?_)
    obtain ⟨er, eg, eq⟩ := eq_q (z := 0) (a_T hI hq9).2.1 (by rw [if_pos h5]; rfl) e9
    subst er; subst eg; subst eq
    refine lv_lconst (v := lI 0) hx hb dL_law_402 rfl ?_
    refine W.lcmp hx hb dL_law_403 ?_
    refine lv_if_ne (tgt := 424) hx hb dL_law_404 (by decide) (fun cz9 => absurd (c_eq (a := 0) (b := 0) (by omega)) cz9) (fun _ => ?_)
    refine lv_aload_n hx hb dL_law_407 rfl (lv_at hl 10 rfl) ?_
    refine lv_iload hx hb dL_law_408 (lv_at hl 2 rfl) ?_
    refine lv_bipush (v := 6) hx hb dL_law_410 (by decide) ?_
    refine sy_kl (vx_runSW (As := [.ref (ad 60), .int (nI q9), .int 6]) (rest := []) ⟨hx, hb, hml, hown, hts⟩ (mL_thingOf l hfl Z nT nK cT cK ad g q (nI q9) 6 hI) (vx_cwSW 3 hts (gl_S uk_4_46 uk_4_47 uk_1_0 uk_4_48) rfl rfl rfl (by decide +kernel) ⟨Nat.le_of_ble_eq_true rfl, Nat.le_of_ble_eq_true rfl⟩) ⟨sPreL_blind _, fun U hU hW => ⟨rfl, ⟨hE.next hS hU hW.alike, by rw [hU]; exact hP⟩, hNc.next hW.alike⟩⟩ rfl rfl hl.1 rfl (lv_room (Nat.le_of_ble_eq_true rfl)) dL_law_412 ⟨by show _ ≤ 600074; (try dsimp only); omega, by show _ ≤ 7301550; (try dsimp only); omega⟩) hS (fun r gz qz H locs e9 hP hS => ?_)
    obtain ⟨er, eg, eq⟩ := eq_q (z := 0) (a_T hI hq9).2.2.2.2 (by rw [if_pos h6]; rfl) e9
    subst er; subst eg; subst eq
    refine lv_lconst (v := lI 0) hx hb dL_law_415 rfl ?_
    refine W.lcmp hx hb dL_law_416 ?_
    refine lv_if_ne (tgt := 424) hx hb dL_law_417 (by decide) (fun cz9 => absurd (c_eq (a := 0) (b := 0) (by omega)) cz9) (fun _ => ?_)
    refine lv_iconst (v := 1) hx hb dL_law_420 (by decide) ?_
    refine lv_goto (tgt := 425) hx hb dL_law_421 (by decide) ?_
    refine lv_istore (lv' := [(13, .int 1), (12, .int (nI (1 + ((y / 16) % 100)))), (11, .int (nI c9)), (10, .int (nI q9)), (9, .int (nI wh)), (8, .int (nI y)), (6, .int (nI k)), (5, .int 1), (4, .int (nI nK)), (3, .int (nI nT)), (2, .ref (ad 90)), (1, .ref (ad 60)), (0, .ref b)]) hx hb dL_law_425 hl (by decide) rfl (fun ls hl => ?_)
    refine lv_aload_n hx hb dL_law_427 rfl (lv_at hl 11 rfl) ?_
    refine lv_iload hx hb dL_law_428 (lv_at hl 5 rfl) ?_
    refine lv_iconst (v := 3) hx hb dL_law_430 (by decide) ?_
    refine lv_irem hx hb dL_law_431 (by decide) ?_
    refine sy_top (y := nI (y % 3)) (nI_rem (a := y) (b := 3) (by omega) (by omega)) ?_
    refine lv_iload hx hb dL_law_432 (lv_at hl 3 rfl) ?_
    refine lv_iload hx hb dL_law_434 (lv_at hl 5 rfl) ?_
    refine lv_bipush (v := 8) hx hb dL_law_436 (by decide) ?_
    refine lv_idiv hx hb dL_law_438 (by decide) ?_
    refine sy_top (y := nI (y / 8)) (nI_div (a := y) (b := 8) (by omega) (by omega)) ?_
    refine lv_iconst (v := 4) hx hb dL_law_439 (by decide) ?_
    refine lv_irem hx hb dL_law_440 (by decide) ?_
    refine sy_top (y := nI ((y / 8) % 4)) (nI_rem (a := (y / 8)) (b := 4) (by omega) (by omega)) ?_
    refine lv_iload hx hb dL_law_441 (lv_at hl 5 rfl) ?_
    refine lv_bipush (v := 32) hx hb dL_law_443 (by decide) ?_
    refine lv_idiv hx hb dL_law_445 (by decide) ?_
    refine sy_top (y := nI (y / 32)) (nI_div (a := y) (b := 32) (by omega) (by omega)) ?_
    refine lv_iconst (v := 3) hx hb dL_law_446 (by decide) ?_
    refine lv_irem hx hb dL_law_447 (by decide) ?_
    refine sy_top (y := nI ((y / 32) % 3)) (nI_rem (a := (y / 32)) (b := 3) (by omega) (by omega)) ?_
    refine lv_iload hx hb dL_law_448 (lv_at hl 1 rfl) ?_
    refine lv_iconst (v := 0) hx hb dL_law_450 (by decide) ?_
    refine va_calll (vx_runSW (As := [.ref (ad 60), .int (nI (y % 3)), .int (nI q9), .int (nI ((y / 8) % 4)), .int (nI ((y / 32) % 3)), .int (nI (1 + ((y / 16) % 100))), .int 0]) (rest := []) ⟨hx, hb, hml, hown, hts⟩ (mL_pledge l hfl Z nT nK cT cK ad g q (nI (y % 3)) (nI q9) (nI ((y / 8) % 4)) (nI ((y / 32) % 3)) (nI (1 + ((y / 16) % 100))) 0 hI (Or.inl rfl) h71) (vx_cwSW 7 hts (gl_S uk_3_5 uk_3_6 uk_1_0 uk_3_7) rfl rfl rfl (by decide +kernel) ⟨Nat.le_of_ble_eq_true rfl, Nat.le_of_ble_eq_true rfl⟩) ⟨sPreL_blind _, fun U hU hW => ⟨rfl, ⟨hE.next hS hU hW.alike, by rw [hU]; exact hP⟩, hNc.next hW.alike⟩⟩ rfl rfl hl.1 rfl (lv_room (Nat.le_of_ble_eq_true rfl)) dL_law_451 ⟨by show _ ≤ 600074; (try dsimp only); omega, by show _ ≤ 7301550; (try dsimp only); omega⟩) hS (fun _ _ h => h) (fun _ h => h) (fun r u t H locs ht _ hp hB _ _ hS => ?_)
    obtain ⟨ad1, g1, q1⟩ := u
    obtain ⟨-, hB1, hB2⟩ := hB
    rw [ht] at hB1 hB2
    obtain ⟨er, hp⟩ := hp
    dsimp only at hp hB1
    have hP := hB1 h1
    obtain ⟨had, eg, eq⟩ := hp h1
    rw [h1, h2] at er
    subst er
    rw [← eg, ← eq] at hI2
    have hI := hI2
    clear eg eq h1 h2 h3 h4
    have h60 := had 60 (by omega) (by omega)
    have h90 := had 90 (by omega) (by omega)
    rw [← h60, ← h90] at hl
    refine sy_topL (y := lI ((nK : Nat) : Int)) (nI_L (by omega)) ?_
    refine lv_lstore (lv' := [(14, .long (lI ((nK : Nat) : Int))), (13, .int 1), (12, .int (nI (1 + ((y / 16) % 100)))), (11, .int (nI c9)), (10, .int (nI q9)), (9, .int (nI wh)), (8, .int (nI y)), (6, .int (nI k)), (5, .int 1), (4, .int (nI nK)), (3, .int (nI nT)), (2, .ref (ad1 90)), (1, .ref (ad1 60)), (0, .ref b)]) hx hb dL_law_454 hl (by decide) rfl (fun ls hl => ?_)
    refine lv_lload hx hb dL_law_456 (lv_at hl 0 rfl) ?_
    refine lv_ldc2 (v := lI (-9000000000000000003)) hx hb hown (hts _ (wsU_tbl uk_2_183)) dL_law_458 ?_
    refine W.lcmp hx hb dL_law_461 ?_
    refine lv_if_eq (tgt := 479) hx hb dL_law_462 (by decide) (fun cz9 => absurd cz9 (c_ne (a := ((nK : Nat) : Int)) (b := (-9000000000000000003)) (by omega) (by omega) (by omega))) (fun _ => ?_)
    refine lv_iload hx hb dL_law_465 (lv_at hl 1 rfl) ?_
    refine lv_if_eq (tgt := 483) hx hb dL_law_467 (by decide) (fun cz9 => absurd cz9 (by decide)) (fun _ => ?_)
    refine lv_lload hx hb dL_law_470 (lv_at hl 0 rfl) ?_
    refine lv_iload hx hb dL_law_472 (lv_at hl 9 rfl) ?_
    refine lv_i2l (v := lI ((nK : Nat) : Int)) hx hb dL_law_474 (nI_L (by omega)) ?_
    refine W.lcmp hx hb dL_law_475 ?_
    refine lv_if_ne (tgt := 483) hx hb dL_law_476 (by decide) (fun cz9 => absurd (c_eq (a := ((nK : Nat) : Int)) (b := ((nK : Nat) : Int)) (by omega)) cz9) (fun _ => ?_)
    refine lv_iconst (v := 1) hx hb dL_law_479 (by decide) ?_
    refine lv_goto (tgt := 484) hx hb dL_law_480 (by decide) ?_
    refine lv_istore (lv' := [(5, .int 1), (14, .long (lI ((nK : Nat) : Int))), (13, .int 1), (12, .int (nI (1 + ((y / 16) % 100)))), (11, .int (nI c9)), (10, .int (nI q9)), (9, .int (nI wh)), (8, .int (nI y)), (6, .int (nI k)), (4, .int (nI nK)), (3, .int (nI nT)), (2, .ref (ad1 90)), (1, .ref (ad1 60)), (0, .ref b)]) hx hb dL_law_484 hl (by decide) rfl (fun ls hl => ?_)
    refine lv_iload hx hb dL_law_486 (lv_at hl 9 rfl) ?_
    refine lv_lload hx hb dL_law_488 (lv_at hl 1 rfl) ?_
    refine lv_lconst (v := lI 0) hx hb dL_law_490 rfl ?_
    refine W.lcmp hx hb dL_law_491 ?_
    refine lv_if_lt (tgt := 499) hx hb dL_law_492 (by decide) (fun cz9 => absurd cz9 (c_ge (a := ((nK : Nat) : Int)) (b := 0) (by omega) (by omega) (by omega))) (fun _ => ?_)
    refine lv_iconst (v := 1) hx hb dL_law_495 (by decide) ?_
    refine lv_goto (tgt := 500) hx hb dL_law_496 (by decide) ?_
    refine lv_iadd hx hb dL_law_500 ?_
    refine sy_top (y := nI (nK + 1)) (nI_add nK 1) ?_
    refine lv_istore (lv' := [(4, .int (nI (nK + 1))), (5, .int 1), (14, .long (lI ((nK : Nat) : Int))), (13, .int 1), (12, .int (nI (1 + ((y / 16) % 100)))), (11, .int (nI c9)), (10, .int (nI q9)), (9, .int (nI wh)), (8, .int (nI y)), (6, .int (nI k)), (3, .int (nI nT)), (2, .ref (ad1 90)), (1, .ref (ad1 60)), (0, .ref b)]) hx hb dL_law_501 hl (by decide) rfl (fun ls hl => ?_)
    refine lv_goto (tgt := 1280) hx hb dL_law_503 (by decide) ?_
    refine W.widen (k := 100 + 2000 * k + 100) (n := 4000 + 14000 * k + 1000) (by (try dsimp only); omega) (by (try dsimp only); omega) ?_
    exact hJ _ _ _ _ _ _ _ _ _ _ (by omega) ⟨hP, (ci_n (by omega) hI), (fun z => (had 70 (by omega) (by omega)).trans (h70 z)), (fun z => absurd z (by have := hI.1.2.2.2.2.2.2.1; omega)), hS, lv_sub hl [9, 1, 0, 10, 11, 12, 13] rfl⟩
end LWC
