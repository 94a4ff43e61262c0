section LWC
variable {p : Program} {l : Launch} {e : Env} {s : State} {m : MethodId} {below : List Frame} {meth : Method} {c : Code} {b L : Nat} {xs : Nat → Int32} {Z : sZ}
set_option maxHeartbeats 8000000 in
set_option maxRecDepth 100000 in
theorem lc_D (hC : lCtx p l s m meth c b L xs Z) {k : Nat} (hk : k < 48) {nT nK cT cK : Nat} {ad : Nat → Nat} {g : sG} {q : sQ} {H : Heap} {locs : List Loc} {ls : Array Slot} {wh q9 c9 y : Nat} (hy : y < 2147483648) (hwh : wh = 8) (hT0 : 0 < nT) (hK0 : 0 < nK) (hc9 : c9 < nK) (h : lSt Z s b k (k + 1) nT nK cT cK ad g q H locs ls [(11, .int (nI c9)), (10, .int (nI q9)), (9, .int (nI wh)), (8, .int (nI y))]) (hJ : ∀ (nT nK cT cK : Nat) (ad : Nat → Nat) (g : sG) (q : sQ) (H : Heap) (locs : List Loc) (ls : Array Slot), 0 < nT → lSt Z s b k (k + 2) nT nK cT cK ad g q H locs ls [] → W p l e room_1 s m #[Value.ref b] below meth c H locs (100 + 2000 * k + 100) (4000 + 14000 * k + 1000) (lw_Z below #[Value.ref b] s) (F0 m 1280 ls [])) : W p l e room_1 s m #[Value.ref b] below meth c H locs (100 + 2000 * k) (4000 + 14000 * k) (lw_Z below #[Value.ref b] s) (F0 m 133 ls []) := by
  obtain ⟨hx, hb, hr, hml, hown, hts, hX, hbl, hlocks, hZ, hE, hNc, hfl⟩ := hC
  obtain ⟨hP, hI, h70, h71, hS, hl⟩ := h
  have hl : lv_has ls 18 [(11, .int (nI c9)), (10, .int (nI q9)), (9, .int (nI wh)), (8, .int (nI y)), (6, .int (nI k)), (5, .int 1), (4, .int (nI nK)), (3, .int (nI nT)), (2, .ref (ad 90)), (1, .ref (ad 60)), (0, .ref b)] := hl
  have hT40 := ci_T hI
  have hK40 := ci_K hI
  have hC0 : lCtx p l s m meth c b L xs Z := ⟨hx, hb, hr, hml, hown, hts, hX, hbl, hlocks, hZ, hE, hNc, hfl⟩
  have hbar : 0 ≤ (barI g q c9).toInt ∧ (barI g q c9).toInt ≤ 3 := by rcases bar_in (g := g) (q := q) (j := c9) with z | z | z | z <;> rw [z] <;> decide
  refine lv_iload hx hb dL_law_133 (lv_at hl 2 rfl) ?_
  refine lv_iconst (v := 4) hx hb dL_law_135 (by decide) ?_
  refine lv_icmp_lt (tgt := 143) hx hb dL_law_136 (by decide) (fun cz9 => absurd cz9 (mt (nI_ltI (a := wh) (b := 4) (by omega) (by omega)).mp (by omega))) (fun _ => ?_)
  refine lv_iload_n hx hb dL_law_139 rfl (lv_at hl 7 rfl) ?_
  refine lv_if_ne (tgt := 377) hx hb dL_law_140 (by decide) (fun _ => ?_) (fun cz9 => absurd cz9 (mt (nI_eq (a := nT) (b := 0) (by omega) (by omega)).mp (by omega)))
  refine lv_iload hx hb dL_law_377 (lv_at hl 2 rfl) ?_
  refine lv_iconst (v := 4) hx hb dL_law_379 (by decide) ?_
  refine lv_icmp_ne (tgt := 506) hx hb dL_law_380 (by decide) (fun _ => ?_) (fun cz9 => absurd cz9 (mt (nI_eq (a := wh) (b := 4) (by omega) (by omega)).mp (by omega)))
  refine lv_iload hx hb dL_law_506 (lv_at hl 2 rfl) ?_
  refine lv_bipush (v := 8) hx hb dL_law_508 (by decide) ?_
  refine lv_icmp_ge (tgt := 539) hx hb dL_law_510 (by decide) (fun _ => ?_) (fun cz9 => absurd ((nI_leI (a := 8) (b := wh) (by omega) (by omega)).mpr (by omega)) cz9)
  refine lv_iload hx hb dL_law_539 (lv_at hl 2 rfl) ?_
  refine lv_bipush (v := 8) hx hb dL_law_541 (by decide) ?_
  refine lv_icmp_ne (tgt := 708) hx hb dL_law_543 (by decide) (fun cz9 => absurd ((nI_eq (a := wh) (b := 8) (by omega) (by omega)).mpr (by omega)) cz9) (fun _ => ?_)
  refine lv_iload hx hb dL_law_546 (lv_at hl 6 rfl) ?_
  refine lv_if_le (tgt := 708) hx hb dL_law_548 (by decide) (fun cz9 => absurd cz9 (mt (nI_leI (a := nK) (b := 0) (by omega) (by omega)).mp (by omega))) (fun _ => ?_)
  refine lv_aload_n hx hb dL_law_551 rfl (lv_at hl 9 rfl) ?_
  refine lv_iload hx hb dL_law_552 (lv_at hl 0 rfl) ?_
  refine lv_bipush (v := 8) hx hb dL_law_554 (by decide) ?_
  refine sy_kl (vx_runSW (As := [.ref (ad 60), .int (nI c9), .int 8]) (rest := []) ⟨hx, hb, hml, hown, hts⟩ (mL_ticketOf l hfl Z nT nK cT cK ad g q (nI c9) 8 hI) (vx_cwSW 3 hts (gl_S uk_4_53 uk_4_54 uk_1_0 uk_4_55) rfl rfl rfl (by decide +kernel) ⟨Nat.le_of_ble_eq_true rfl, Nat.le_of_ble_eq_true rfl⟩) ⟨sPreL_blind _, fun U hU hW => ⟨rfl, ⟨hE.next hS hU hW.alike, by rw [hU]; exact hP⟩, hNc.next hW.alike⟩⟩ rfl rfl hl.1 rfl (lv_room (Nat.le_of_ble_eq_true rfl)) dL_law_556 ⟨by show _ ≤ 600074; (try dsimp only); omega, by show _ ≤ 7301550; (try dsimp only); omega⟩) hS (fun r gz qz H locs e9 hP hS => ?_)
  obtain ⟨er, eg, eq⟩ := eq_q (z := (barI g q c9).toInt) (a_K hI hc9).2.2.2.2.2.2.2.2.1 rfl e9
  subst er; subst eg; subst eq
  refine lv_lstore (lv' := [(12, .long (lI ((barI g q c9).toInt))), (11, .int (nI c9)), (10, .int (nI q9)), (9, .int (nI wh)), (8, .int (nI y)), (6, .int (nI k)), (5, .int 1), (4, .int (nI nK)), (3, .int (nI nT)), (2, .ref (ad 90)), (1, .ref (ad 60)), (0, .ref b)]) hx hb dL_law_559 hl (by decide) rfl (fun ls hl => ?_)
  refine lv_aload_n hx hb dL_law_561 rfl (lv_at hl 10 rfl) ?_
  refine lv_iload hx hb dL_law_562 (lv_at hl 1 rfl) ?_
  refine lv_iload hx hb dL_law_564 (lv_at hl 4 rfl) ?_
  refine lv_bipush (v := 10) hx hb dL_law_566 (by decide) ?_
  refine lv_irem hx hb dL_law_568 (by decide) ?_
  refine sy_top (y := nI (y % 10)) (nI_rem (a := y) (b := 10) (by omega) (by omega)) ?_
  refine sy_kl (vx_runSW (As := [.ref (ad 60), .int (nI c9), .int (nI (y % 10))]) (rest := []) ⟨hx, hb, hml, hown, hts⟩ (mL_notice l hfl Z nT nK cT cK ad g q (nI c9) (nI (y % 10)) hI) (vx_cwSW 3 hts (gl_S uk_3_159 uk_3_160 uk_1_0 uk_3_161) rfl rfl rfl (by decide +kernel) ⟨Nat.le_of_ble_eq_true rfl, Nat.le_of_ble_eq_true rfl⟩) ⟨sPreL_blind _, fun U hU hW => ⟨rfl, ⟨hE.next hS hU hW.alike, by rw [hU]; exact hP⟩, hNc.next hW.alike⟩⟩ rfl rfl hl.1 rfl (lv_room (Nat.le_of_ble_eq_true rfl)) dL_law_569 ⟨by show _ ≤ 600074; (try dsimp only); omega, by show _ ≤ 7301550; (try dsimp only); omega⟩) hS (fun r g1 q1 H locs e9 hP hS => ?_)
  rcases p_notice hI hc9 (p := y % 10) (by omega) with hw | ⟨hbb, h1, hI2, h3, h4⟩
  · skip
    obtain ⟨er, eg, eq⟩ := eq_v3 hw e9
    subst er; subst eg; subst eq
    refine lv_lstore (lv' := [(14, .long (lI (-9000000000000000003))), (12, .long (lI ((barI g q c9).toInt))), (11, .int (nI c9)), (10, .int (nI q9)), (9, .int (nI wh)), (8, .int (nI y)), (6, .int (nI k)), (5, .int 1), (4, .int (nI nK)), (3, .int (nI nT)), (2, .ref (ad 90)), (1, .ref (ad 60)), (0, .ref b)]) hx hb dL_law_572 hl (by decide) rfl (fun ls hl => ?_)
    refine lv_lload hx hb dL_law_574 (lv_at hl 0 rfl) ?_
    refine lv_ldc2 (v := lI (-9000000000000000003)) hx hb hown (hts _ (wsU_tbl uk_2_183)) dL_law_576 ?_
    refine W.lcmp hx hb dL_law_579 ?_
    refine lv_if_eq (tgt := 610) hx hb dL_law_580 (by decide) (fun _ => ?_) (fun cz9 => absurd (c_eq (a := (-9000000000000000003)) (b := (-9000000000000000003)) (by omega)) cz9)
    refine lv_iconst (v := 1) hx hb dL_law_610 (by decide) ?_
    refine lv_goto (tgt := 615) hx hb dL_law_611 (by decide) ?_
    refine lv_istore (lv' := [(5, .int 1), (14, .long (lI (-9000000000000000003))), (12, .long (lI ((barI g q c9).toInt))), (11, .int (nI c9)), (10, .int (nI q9)), (9, .int (nI wh)), (8, .int (nI y)), (6, .int (nI k)), (4, .int (nI nK)), (3, .int (nI nT)), (2, .ref (ad 90)), (1, .ref (ad 60)), (0, .ref b)]) hx hb dL_law_615 hl (by decide) rfl (fun ls hl => ?_)
    refine lv_iload hx hb dL_law_617 (lv_at hl 0 rfl) ?_
    refine lv_if_eq (tgt := 659) hx hb dL_law_619 (by decide) (fun cz9 => absurd cz9 (by decide)) (fun _ => ?_)
    refine lv_iload hx hb dL_law_622 (lv_at hl 6 rfl) ?_
    refine lv_bipush (v := 16) hx hb dL_law_624 (by decide) ?_
    refine lv_idiv hx hb dL_law_626 (by decide) ?_
    refine sy_top (y := nI (y / 16)) (nI_div (a := y) (b := 16) (by omega) (by omega)) ?_
    refine lv_iconst (v := 2) hx hb dL_law_627 (by decide) ?_
    refine lv_irem hx hb dL_law_628 (by decide) ?_
    refine sy_top (y := nI ((y / 16) % 2)) (nI_rem (a := (y / 16)) (b := 2) (by omega) (by omega)) ?_
    by_cases h2 : y / 16 % 2 = 0
    · skip
      refine lv_if_eq (tgt := 655) hx hb dL_law_629 (by decide) (fun _ => ?_) (fun cz9 => absurd ((nI_eq (a := ((y / 16) % 2)) (b := 0) (by omega) (by omega)).mpr (by omega)) cz9)
      refine lv_iconst (v := 1) hx hb dL_law_655 (by decide) ?_
      refine lv_goto (tgt := 660) hx hb dL_law_656 (by decide) ?_
      refine lv_istore (lv' := [(5, .int 1), (14, .long (lI (-9000000000000000003))), (12, .long (lI ((barI g q c9).toInt))), (11, .int (nI c9)), (10, .int (nI q9)), (9, .int (nI wh)), (8, .int (nI y)), (6, .int (nI k)), (4, .int (nI nK)), (3, .int (nI nT)), (2, .ref (ad 90)), (1, .ref (ad 60)), (0, .ref b)]) hx hb dL_law_660 hl (by decide) rfl (fun ls hl => ?_)
      refine W.widen (k := 100 + 2000 * k + 20) (n := 4000 + 14000 * k + 200) (by (try dsimp only); omega) (by (try dsimp only); omega) ?_
      exact lc_D2 hC0 hk hy hT0 hc9 ⟨hP, hI, h70, h71, hS, lv_sub hl [3, 6, 7, 0, 8, 9, 10, 11, 12] rfl⟩ hJ
    · skip
      refine lv_if_eq (tgt := 655) hx hb dL_law_629 (by decide) (fun cz9 => absurd cz9 (mt (nI_eq (a := ((y / 16) % 2)) (b := 0) (by omega) (by omega)).mp (by omega))) (fun _ => ?_)
      refine lv_lload hx hb dL_law_632 (lv_at hl 1 rfl) ?_
      refine lv_lconst (v := lI 0) hx hb dL_law_634 rfl ?_
      refine W.lcmp hx hb dL_law_635 ?_
      refine lv_if_ne (tgt := 655) hx hb dL_law_636 (by decide) (fun _ => ?_) (fun cz9 => absurd cz9 (c_ne (a := (-9000000000000000003)) (b := 0) (by omega) (by omega) (by omega)))
      refine lv_iconst (v := 1) hx hb dL_law_655 (by decide) ?_
      refine lv_goto (tgt := 660) hx hb dL_law_656 (by decide) ?_
      refine lv_istore (lv' := [(5, .int 1), (14, .long (lI (-9000000000000000003))), (12, .long (lI ((barI g q c9).toInt))), (11, .int (nI c9)), (10, .int (nI q9)), (9, .int (nI wh)), (8, .int (nI y)), (6, .int (nI k)), (4, .int (nI nK)), (3, .int (nI nT)), (2, .ref (ad 90)), (1, .ref (ad 60)), (0, .ref b)]) hx hb dL_law_660 hl (by decide) rfl (fun ls hl => ?_)
      refine W.widen (k := 100 + 2000 * k + 20) (n := 4000 + 14000 * k + 200) (by (try dsimp only); omega) (by (try dsimp only); omega) ?_
      exact lc_D2 hC0 hk hy hT0 hc9 ⟨hP, hI, h70, h71, hS, lv_sub hl [3, 6, 7, 0, 8, 9, 10, 11, 12] rfl⟩ hJ
  · skip
    obtain ⟨er, eg, eq⟩ := eq_yv h1 e9
    subst er
    rw [eg, eq] at hI2 h3
    rw [eg] at h4
    have hI := hI2
    clear e9
    refine lv_lstore (lv' := [(14, .long (lI 0)), (12, .long (lI ((barI g q c9).toInt))), (11, .int (nI c9)), (10, .int (nI q9)), (9, .int (nI wh)), (8, .int (nI y)), (6, .int (nI k)), (5, .int 1), (4, .int (nI nK)), (3, .int (nI nT)), (2, .ref (ad 90)), (1, .ref (ad 60)), (0, .ref b)]) hx hb dL_law_572 hl (by decide) rfl (fun ls hl => ?_)
    refine lv_lload hx hb dL_law_574 (lv_at hl 0 rfl) ?_
    refine lv_ldc2 (v := lI (-9000000000000000003)) hx hb hown (hts _ (wsU_tbl uk_2_183)) dL_law_576 ?_
    refine W.lcmp hx hb dL_law_579 ?_
    refine lv_if_eq (tgt := 610) hx hb dL_law_580 (by decide) (fun cz9 => absurd cz9 (c_ne (a := 0) (b := (-9000000000000000003)) (by omega) (by omega) (by omega))) (fun _ => ?_)
    refine lv_lload hx hb dL_law_583 (lv_at hl 1 rfl) ?_
    refine lv_ldc2 (v := lI (2)) hx hb hown (hts _ (wsU_tbl uk_4_121)) dL_law_585 ?_
    refine lv_lrem hx hb dL_law_588 (lI_ne0 (z := 2) (by decide) (by decide)) ?_
    refine sy_topL (y := lI ((barI g q c9).toInt % (2))) (lI_rem (a := (barI g q c9).toInt) (b := (2)) (by omega) (by omega) (by omega) (by omega)) ?_
    refine lv_lconst (v := lI 0) hx hb dL_law_589 rfl ?_
    refine W.lcmp hx hb dL_law_590 ?_
    refine lv_if_ne (tgt := 614) hx hb dL_law_591 (by decide) (fun cz9 => absurd (c_eq (a := ((barI g q c9).toInt % (2))) (b := 0) ((by rcases hbb with z | z <;> rw [z] <;> decide))) cz9) (fun _ => ?_)
    refine lv_aload_n hx hb dL_law_594 rfl (lv_at hl 11 rfl) ?_
    refine lv_iload hx hb dL_law_595 (lv_at hl 2 rfl) ?_
    refine lv_bipush (v := 8) hx hb dL_law_597 (by decide) ?_
    refine sy_kl (vx_runSW (As := [.ref (ad 60), .int (nI c9), .int 8]) (rest := []) ⟨hx, hb, hml, hown, hts⟩ (mL_ticketOf l hfl Z nT nK cT cK ad g1 q1 (nI c9) 8 hI) (vx_cwSW 3 hts (gl_S uk_4_53 uk_4_54 uk_1_0 uk_4_55) rfl rfl rfl (by decide +kernel) ⟨Nat.le_of_ble_eq_true rfl, Nat.le_of_ble_eq_true rfl⟩) ⟨sPreL_blind _, fun U hU hW => ⟨rfl, ⟨hE.next hS hU hW.alike, by rw [hU]; exact hP⟩, hNc.next hW.alike⟩⟩ rfl rfl hl.1 rfl (lv_room (Nat.le_of_ble_eq_true rfl)) dL_law_599 ⟨by show _ ≤ 600074; (try dsimp only); omega, by show _ ≤ 7301550; (try dsimp only); omega⟩) hS (fun r gz qz H locs e9 hP hS => ?_)
    obtain ⟨er, eg, eq⟩ := eq_q (z := (barI g1 q1 c9).toInt) (a_K hI hc9).2.2.2.2.2.2.2.2.1 rfl e9
    subst er; subst eg; subst eq
    refine lv_lload hx hb dL_law_602 (lv_at hl 1 rfl) ?_
    refine lv_lconst (v := lI 1) hx hb dL_law_604 rfl ?_
    refine lv_ladd hx hb dL_law_605 ?_
    refine sy_topL (y := lI ((barI g q c9).toInt + 1)) (lI_add _ _) ?_
    refine W.lcmp hx hb dL_law_606 ?_
    refine lv_if_ne (tgt := 614) hx hb dL_law_607 (by decide) (fun cz9 => absurd (c_eq (a := (barI g1 q1 c9).toInt) (b := ((barI g q c9).toInt + 1)) ((by rw [h3]; rcases hbb with z | z <;> rw [z] <;> decide))) cz9) (fun _ => ?_)
    refine lv_iconst (v := 1) hx hb dL_law_610 (by decide) ?_
    refine lv_goto (tgt := 615) hx hb dL_law_611 (by decide) ?_
    refine lv_istore (lv' := [(5, .int 1), (14, .long (lI 0)), (12, .long (lI ((barI g q c9).toInt))), (11, .int (nI c9)), (10, .int (nI q9)), (9, .int (nI wh)), (8, .int (nI y)), (6, .int (nI k)), (4, .int (nI nK)), (3, .int (nI nT)), (2, .ref (ad 90)), (1, .ref (ad 60)), (0, .ref b)]) hx hb dL_law_615 hl (by decide) rfl (fun ls hl => ?_)
    refine lv_iload hx hb dL_law_617 (lv_at hl 0 rfl) ?_
    refine lv_if_eq (tgt := 659) hx hb dL_law_619 (by decide) (fun cz9 => absurd cz9 (by decide)) (fun _ => ?_)
    refine lv_iload hx hb dL_law_622 (lv_at hl 6 rfl) ?_
    refine lv_bipush (v := 16) hx hb dL_law_624 (by decide) ?_
    refine lv_idiv hx hb dL_law_626 (by decide) ?_
    refine sy_top (y := nI (y / 16)) (nI_div (a := y) (b := 16) (by omega) (by omega)) ?_
    refine lv_iconst (v := 2) hx hb dL_law_627 (by decide) ?_
    refine lv_irem hx hb dL_law_628 (by decide) ?_
    refine sy_top (y := nI ((y / 16) % 2)) (nI_rem (a := (y / 16)) (b := 2) (by omega) (by omega)) ?_
    by_cases h2 : y / 16 % 2 = 0
    · skip
      refine lv_if_eq (tgt := 655) hx hb dL_law_629 (by decide) (fun _ => ?_) (fun cz9 => absurd ((nI_eq (a := ((y / 16) % 2)) (b := 0) (by omega) (by omega)).mpr (by omega)) cz9)
      refine lv_iconst (v := 1) hx hb dL_law_655 (by decide) ?_
      refine lv_goto (tgt := 660) hx hb dL_law_656 (by decide) ?_
      refine lv_istore (lv' := [(5, .int 1), (14, .long (lI 0)), (12, .long (lI ((barI g q c9).toInt))), (11, .int (nI c9)), (10, .int (nI q9)), (9, .int (nI wh)), (8, .int (nI y)), (6, .int (nI k)), (4, .int (nI nK)), (3, .int (nI nT)), (2, .ref (ad 90)), (1, .ref (ad 60)), (0, .ref b)]) hx hb dL_law_660 hl (by decide) rfl (fun ls hl => ?_)
      refine W.widen (k := 100 + 2000 * k + 20) (n := 4000 + 14000 * k + 200) (by (try dsimp only); omega) (by (try dsimp only); omega) ?_
      exact lc_D2 hC0 hk hy hT0 hc9 ⟨hP, hI, h70, h71, hS, lv_sub hl [3, 6, 7, 0, 8, 9, 10, 11, 12] rfl⟩ hJ
    · skip
      refine lv_if_eq (tgt := 655) hx hb dL_law_629 (by decide) (fun cz9 => absurd cz9 (mt (nI_eq (a := ((y / 16) % 2)) (b := 0) (by omega) (by omega)).mp (by omega))) (fun _ => ?_)
      refine lv_lload hx hb dL_law_632 (lv_at hl 1 rfl) ?_
      refine lv_lconst (v := lI 0) hx hb dL_law_634 rfl ?_
      refine W.lcmp hx hb dL_law_635 ?_
      refine lv_if_ne (tgt := 655) hx hb dL_law_636 (by decide) (fun cz9 => absurd (c_eq (a := 0) (b := 0) (by omega)) cz9) (fun _ => ?_)
      refine lv_aload_n hx hb dL_law_639 rfl (lv_at hl 11 rfl) ?_
      refine lv_iload hx hb dL_law_640 (lv_at hl 3 rfl) ?_
      refine sy_kl (vx_runSW (As := [.ref (ad 60), .int (nI c9)]) (rest := []) ⟨hx, hb, hml, hown, hts⟩ (mL_show l hfl Z nT nK cT cK ad g1 q1 (nI c9) hI) (vx_cwSW 2 hts (gl_S uk_3_170 uk_3_171 uk_1_0 uk_3_172) rfl rfl rfl (by decide +kernel) ⟨Nat.le_of_ble_eq_true rfl, Nat.le_of_ble_eq_true rfl⟩) ⟨sPreL_blind _, fun U hU hW => ⟨rfl, ⟨hE.next hS hU hW.alike, by rw [hU]; exact hP⟩, hNc.next hW.alike⟩⟩ rfl rfl hl.1 rfl (lv_room (Nat.le_of_ble_eq_true rfl)) dL_law_642 ⟨by show _ ≤ 600074; (try dsimp only); omega, by show _ ≤ 7301550; (try dsimp only); omega⟩) hS (fun r g2 q2 H locs e9 hP hS => ?_)
      obtain ⟨s1, s2, hI3⟩ := p_show hI hc9 (p := y % 10) (by omega) h4
      obtain ⟨er, eg, eq⟩ := eq_y (z := ((y % 10 : Nat) : Int)) s1 (by rw [s2]; exact nI_toInt (by omega)) e9
      subst er
      rw [eg, eq] at hI3
      have hI := hI3
      refine lv_iload hx hb dL_law_645 (lv_at hl 6 rfl) ?_
      refine lv_bipush (v := 10) hx hb dL_law_647 (by decide) ?_
      refine lv_irem hx hb dL_law_649 (by decide) ?_
      refine sy_top (y := nI (y % 10)) (nI_rem (a := y) (b := 10) (by omega) (by omega)) ?_
      refine lv_i2l (v := lI (((y % 10) : Nat) : Int)) hx hb dL_law_650 (nI_L (by omega)) ?_
      refine W.lcmp hx hb dL_law_651 ?_
      refine lv_if_ne (tgt := 659) hx hb dL_law_652 (by decide) (fun cz9 => absurd (c_eq (a := ((y % 10 : Nat) : Int)) (b := (((y % 10) : Nat) : Int)) (by omega)) cz9) (fun _ => ?_)
      refine lv_iconst (v := 1) hx hb dL_law_655 (by decide) ?_
      refine lv_goto (tgt := 660) hx hb dL_law_656 (by decide) ?_
      refine lv_istore (lv' := [(5, .int 1), (14, .long (lI 0)), (12, .long (lI ((barI g q c9).toInt))), (11, .int (nI c9)), (10, .int (nI q9)), (9, .int (nI wh)), (8, .int (nI y)), (6, .int (nI k)), (4, .int (nI nK)), (3, .int (nI nT)), (2, .ref (ad 90)), (1, .ref (ad 60)), (0, .ref b)]) hx hb dL_law_660 hl (by decide) rfl (fun ls hl => ?_)
      refine W.widen (k := 100 + 2000 * k + 20) (n := 4000 + 14000 * k + 200) (by (try dsimp only); omega) (by (try dsimp only); omega) ?_
      exact lc_D2 hC0 hk hy hT0 hc9 ⟨hP, hI, h70, h71, hS, lv_sub hl [3, 6, 7, 0, 8, 9, 10, 11, 12] rfl⟩ hJ
end LWC
