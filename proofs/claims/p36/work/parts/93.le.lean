section LWC
variable {p : Program} {l : Launch} {e : Env} {s : State} {m : MethodId} {below : List Frame} {meth : Method} {c : Code} {b L : Nat} {xs : Nat → Int32} {Z : sZ}
set_option maxHeartbeats 8000000 in
set_option maxRecDepth 100000 in
theorem lc_E (hC : lCtx p l s m meth c b L xs Z) {k : Nat} (hk : k < 48) {nT nK cT cK : Nat} {ad : Nat → Nat} {g : sG} {q : sQ} {H : Heap} {locs : List Loc} {ls : Array Slot} {wh q9 c9 y : Nat} (hy : y < 2147483648) (hwh : wh = 9) (hT0 : 0 < nT) (hq9 : q9 < nT) (h : lSt Z s b k (k + 1) nT nK cT cK ad g q H locs ls [(11, .int (nI c9)), (10, .int (nI q9)), (9, .int (nI wh)), (8, .int (nI y))]) (hJ : ∀ (nT nK cT cK : Nat) (ad : Nat → Nat) (g : sG) (q : sQ) (H : Heap) (locs : List Loc) (ls : Array Slot), 0 < nT → lSt Z s b k (k + 2) nT nK cT cK ad g q H locs ls [] → W p l e room_1 s m #[Value.ref b] below meth c H locs (100 + 2000 * k + 100) (4000 + 14000 * k + 1000) (lw_Z below #[Value.ref b] s) (F0 m 1280 ls [])) : W p l e room_1 s m #[Value.ref b] below meth c H locs (100 + 2000 * k) (4000 + 14000 * k) (lw_Z below #[Value.ref b] s) (F0 m 133 ls []) := by
  obtain ⟨hx, hb, hr, hml, hown, hts, hX, hbl, hlocks, hZ, hE, hNc, hfl⟩ := hC
  obtain ⟨hP, hI, h70, h71, hS, hl⟩ := h
  have hl : lv_has ls 18 [(11, .int (nI c9)), (10, .int (nI q9)), (9, .int (nI wh)), (8, .int (nI y)), (6, .int (nI k)), (5, .int 1), (4, .int (nI nK)), (3, .int (nI nT)), (2, .ref (ad 90)), (1, .ref (ad 60)), (0, .ref b)] := hl
  have hT40 := ci_T hI
  have hK40 := ci_K hI
  have bt := i32b (fX3_openTicketNumber g q q9)
  refine lv_iload hx hb dL_law_133 (lv_at hl 2 rfl) ?_
  refine lv_iconst (v := 4) hx hb dL_law_135 (by decide) ?_
  refine lv_icmp_lt (tgt := 143) hx hb dL_law_136 (by decide) (fun cz9 => absurd cz9 (mt (nI_ltI (a := wh) (b := 4) (by omega) (by omega)).mp (by omega))) (fun _ => ?_)
  refine lv_iload_n hx hb dL_law_139 rfl (lv_at hl 7 rfl) ?_
  refine lv_if_ne (tgt := 377) hx hb dL_law_140 (by decide) (fun _ => ?_) (fun cz9 => absurd cz9 (mt (nI_eq (a := nT) (b := 0) (by omega) (by omega)).mp (by omega)))
  refine lv_iload hx hb dL_law_377 (lv_at hl 2 rfl) ?_
  refine lv_iconst (v := 4) hx hb dL_law_379 (by decide) ?_
  refine lv_icmp_ne (tgt := 506) hx hb dL_law_380 (by decide) (fun _ => ?_) (fun cz9 => absurd cz9 (mt (nI_eq (a := wh) (b := 4) (by omega) (by omega)).mp (by omega)))
  refine lv_iload hx hb dL_law_506 (lv_at hl 2 rfl) ?_
  refine lv_bipush (v := 8) hx hb dL_law_508 (by decide) ?_
  refine lv_icmp_ge (tgt := 539) hx hb dL_law_510 (by decide) (fun _ => ?_) (fun cz9 => absurd ((nI_leI (a := 8) (b := wh) (by omega) (by omega)).mpr (by omega)) cz9)
  refine lv_iload hx hb dL_law_539 (lv_at hl 2 rfl) ?_
  refine lv_bipush (v := 8) hx hb dL_law_541 (by decide) ?_
  refine lv_icmp_ne (tgt := 708) hx hb dL_law_543 (by decide) (fun _ => ?_) (fun cz9 => absurd cz9 (mt (nI_eq (a := wh) (b := 8) (by omega) (by omega)).mp (by omega)))
  refine lv_iload hx hb dL_law_708 (lv_at hl 2 rfl) ?_
  refine lv_bipush (v := 9) hx hb dL_law_710 (by decide) ?_
  refine lv_icmp_ne (tgt := 842) hx hb dL_law_712 (by decide) (fun cz9 => absurd ((nI_eq (a := wh) (b := 9) (by omega) (by omega)).mpr (by omega)) cz9) (fun _ => ?_)
  refine lv_aload_n hx hb dL_law_715 rfl (lv_at hl 9 rfl) ?_
  refine lv_iload hx hb dL_law_716 (lv_at hl 1 rfl) ?_
  refine lv_iconst (v := 5) hx hb dL_law_718 (by decide) ?_
  refine sy_kl (vx_runSW (As := [.ref (ad 60), .int (nI q9), .int 5]) (rest := []) ⟨hx, hb, hml, hown, hts⟩ (mL_thingOf l hfl Z nT nK cT cK ad g q (nI q9) 5 hI) (vx_cwSW 3 hts (gl_S uk_4_46 uk_4_47 uk_1_0 uk_4_48) rfl rfl rfl (by decide +kernel) ⟨Nat.le_of_ble_eq_true rfl, Nat.le_of_ble_eq_true rfl⟩) ⟨sPreL_blind _, fun U hU hW => ⟨rfl, ⟨hE.next hS hU hW.alike, by rw [hU]; exact hP⟩, hNc.next hW.alike⟩⟩ rfl rfl hl.1 rfl (lv_room (Nat.le_of_ble_eq_true rfl)) dL_law_719 ⟨by show _ ≤ 600074; (try dsimp only); omega, by show _ ≤ 7301550; (try dsimp only); omega⟩) hS (fun r gz qz H locs e9 hP hS => ?_)
  obtain ⟨er, eg, eq⟩ := eq_q (z := (fX3_openTicketNumber g q q9).toInt) (a_T hI hq9).2.2.2.1 rfl e9
  subst er; subst eg; subst eq
  refine lv_lstore (lv' := [(12, .long (lI ((fX3_openTicketNumber g q q9).toInt))), (11, .int (nI c9)), (10, .int (nI q9)), (9, .int (nI wh)), (8, .int (nI y)), (6, .int (nI k)), (5, .int 1), (4, .int (nI nK)), (3, .int (nI nT)), (2, .ref (ad 90)), (1, .ref (ad 60)), (0, .ref b)]) hx hb dL_law_722 hl (by decide) rfl (fun ls hl => ?_)
  refine lv_aload_n hx hb dL_law_724 rfl (lv_at hl 10 rfl) ?_
  refine lv_iload hx hb dL_law_725 (lv_at hl 2 rfl) ?_
  refine lv_bipush (v := 6) hx hb dL_law_727 (by decide) ?_
  by_cases h6 : g (100 + q9) 6 = 0
  · skip
    refine sy_kl (vx_runSW (As := [.ref (ad 60), .int (nI q9), .int 6]) (rest := []) ⟨hx, hb, hml, hown, hts⟩ (mL_thingOf l hfl Z nT nK cT cK ad g q (nI q9) 6 hI) (vx_cwSW 3 hts (gl_S uk_4_46 uk_4_47 uk_1_0 uk_4_48) rfl rfl rfl (by decide +kernel) ⟨Nat.le_of_ble_eq_true rfl, Nat.le_of_ble_eq_true rfl⟩) ⟨sPreL_blind _, fun U hU hW => ⟨rfl, ⟨hE.next hS hU hW.alike, by rw [hU]; exact hP⟩, hNc.next hW.alike⟩⟩ rfl rfl hl.1 rfl (lv_room (Nat.le_of_ble_eq_true rfl)) dL_law_729 ⟨by show _ ≤ 600074; (try dsimp only); omega, by show _ ≤ 7301550; (try dsimp only); omega⟩) hS (fun r gz qz H locs e9 hP hS => ?_)
    obtain ⟨er, eg, eq⟩ := eq_q (z := 0) (a_T hI hq9).2.2.2.2 (by rw [if_pos h6]; rfl) e9
    subst er; subst eg; subst eq
    refine lv_lconst (v := lI 1) hx hb dL_law_732 rfl ?_
    refine W.lcmp hx hb dL_law_733 ?_
    refine lv_if_ne (tgt := 741) hx hb dL_law_734 (by decide) (fun _ => ?_) (fun cz9 => absurd cz9 (c_ne (a := 0) (b := 1) (by omega) (by omega) (by omega)))
    refine lv_iconst (v := 0) hx hb dL_law_741 (by decide) ?_
    refine lv_istore (lv' := [(14, .int 0), (12, .long (lI ((fX3_openTicketNumber g q q9).toInt))), (11, .int (nI c9)), (10, .int (nI q9)), (9, .int (nI wh)), (8, .int (nI y)), (6, .int (nI k)), (5, .int 1), (4, .int (nI nK)), (3, .int (nI nT)), (2, .ref (ad 90)), (1, .ref (ad 60)), (0, .ref b)]) hx hb dL_law_742 hl (by decide) rfl (fun ls hl => ?_)
    refine lv_iload hx hb dL_law_744 (lv_at hl 0 rfl) ?_
    refine lv_if_eq (tgt := 807) hx hb dL_law_746 (by decide) (fun _ => ?_) (fun cz9 => absurd cz9 (by decide))
    refine lv_aload_n hx hb dL_law_807 rfl (lv_at hl 11 rfl) ?_
    refine lv_iload hx hb dL_law_808 (lv_at hl 3 rfl) ?_
    refine sy_kl (vx_runSW (As := [.ref (ad 60), .int (nI q9)]) (rest := []) ⟨hx, hb, hml, hown, hts⟩ (mL_police l hfl Z nT nK cT cK ad g q (nI q9) hI) (vx_cwSW 2 hts (gl_S uk_3_177 uk_3_178 uk_1_0 uk_3_179) rfl rfl rfl (by decide +kernel) ⟨Nat.le_of_ble_eq_true rfl, Nat.le_of_ble_eq_true rfl⟩) ⟨sPreL_blind _, fun U hU hW => ⟨rfl, ⟨hE.next hS hU hW.alike, by rw [hU]; exact hP⟩, hNc.next hW.alike⟩⟩ rfl rfl hl.1 rfl (lv_room (Nat.le_of_ble_eq_true rfl)) dL_law_810 ⟨by show _ ≤ 600074; (try dsimp only); omega, by show _ ≤ 7301550; (try dsimp only); omega⟩) hS (fun r g1 q1 H locs e9 hP hS => ?_)
    obtain ⟨h1, h2, hI2, h3⟩ := (p_police hI hq9).2 h6
    obtain ⟨er, eg, eq⟩ := eq_y (z := (fX3_openTicketNumber g q q9).toInt) h1 (by rw [h2]) e9
    subst er
    rw [eg, eq] at hI2
    rw [eg] at h3
    have hI := hI2
    clear e9
    refine lv_lload hx hb dL_law_813 (lv_at hl 1 rfl) ?_
    refine W.lcmp hx hb dL_law_815 ?_
    refine lv_if_ne (tgt := 836) hx hb dL_law_816 (by decide) (fun cz9 => absurd (c_eq (a := (fX3_openTicketNumber g q q9).toInt) (b := (fX3_openTicketNumber g q q9).toInt) (by omega)) cz9) (fun _ => ?_)
    refine lv_aload_n hx hb dL_law_819 rfl (lv_at hl 11 rfl) ?_
    refine lv_iload hx hb dL_law_820 (lv_at hl 3 rfl) ?_
    refine lv_bipush (v := 6) hx hb dL_law_822 (by decide) ?_
    refine sy_kl (vx_runSW (As := [.ref (ad 60), .int (nI q9), .int 6]) (rest := []) ⟨hx, hb, hml, hown, hts⟩ (mL_thingOf l hfl Z nT nK cT cK ad g1 q1 (nI q9) 6 hI) (vx_cwSW 3 hts (gl_S uk_4_46 uk_4_47 uk_1_0 uk_4_48) rfl rfl rfl (by decide +kernel) ⟨Nat.le_of_ble_eq_true rfl, Nat.le_of_ble_eq_true rfl⟩) ⟨sPreL_blind _, fun U hU hW => ⟨rfl, ⟨hE.next hS hU hW.alike, by rw [hU]; exact hP⟩, hNc.next hW.alike⟩⟩ rfl rfl hl.1 rfl (lv_room (Nat.le_of_ble_eq_true rfl)) dL_law_824 ⟨by show _ ≤ 600074; (try dsimp only); omega, by show _ ≤ 7301550; (try dsimp only); omega⟩) hS (fun r gz qz H locs e9 hP hS => ?_)
    obtain ⟨er, eg, eq⟩ := eq_q (z := 1) (a_T hI hq9).2.2.2.2 (by rw [h3]; rfl) e9
    subst er; subst eg; subst eq
    refine lv_lconst (v := lI 1) hx hb dL_law_827 rfl ?_
    refine W.lcmp hx hb dL_law_828 ?_
    refine lv_if_ne (tgt := 836) hx hb dL_law_829 (by decide) (fun cz9 => absurd (c_eq (a := 1) (b := 1) (by omega)) cz9) (fun _ => ?_)
    refine lv_iconst (v := 1) hx hb dL_law_832 (by decide) ?_
    refine lv_goto (tgt := 837) hx hb dL_law_833 (by decide) ?_
    refine lv_istore (lv' := [(5, .int 1), (14, .int 0), (12, .long (lI ((fX3_openTicketNumber g q q9).toInt))), (11, .int (nI c9)), (10, .int (nI q9)), (9, .int (nI wh)), (8, .int (nI y)), (6, .int (nI k)), (4, .int (nI nK)), (3, .int (nI nT)), (2, .ref (ad 90)), (1, .ref (ad 60)), (0, .ref b)]) hx hb dL_law_837 hl (by decide) rfl (fun ls hl => ?_)
    refine lv_goto (tgt := 1280) hx hb dL_law_839 (by decide) ?_
    refine W.widen (k := 100 + 2000 * k + 100) (n := 4000 + 14000 * k + 1000) (by (try dsimp only); omega) (by (try dsimp only); omega) ?_
    exact hJ _ _ _ _ _ _ _ _ _ _ (by omega) ⟨hP, (ci_n (by omega) hI), h70, h71, hS, lv_sub hl [7, 0, 8, 9, 10, 11, 12] rfl⟩
  · skip
    refine sy_kl (vx_runSW (As := [.ref (ad 60), .int (nI q9), .int 6]) (rest := []) ⟨hx, hb, hml, hown, hts⟩ (mL_thingOf l hfl Z nT nK cT cK ad g q (nI q9) 6 hI) (vx_cwSW 3 hts (gl_S uk_4_46 uk_4_47 uk_1_0 uk_4_48) rfl rfl rfl (by decide +kernel) ⟨Nat.le_of_ble_eq_true rfl, Nat.le_of_ble_eq_true rfl⟩) ⟨sPreL_blind _, fun U hU hW => ⟨rfl, ⟨hE.next hS hU hW.alike, by rw [hU]; exact hP⟩, hNc.next hW.alike⟩⟩ rfl rfl hl.1 rfl (lv_room (Nat.le_of_ble_eq_true rfl)) dL_law_729 ⟨by show _ ≤ 600074; (try dsimp only); omega, by show _ ≤ 7301550; (try dsimp only); omega⟩) hS (fun r gz qz H locs e9 hP hS => ?_)
    obtain ⟨er, eg, eq⟩ := eq_q (z := 1) (a_T hI hq9).2.2.2.2 (by rw [if_neg h6]; rfl) e9
    subst er; subst eg; subst eq
    refine lv_lconst (v := lI 1) hx hb dL_law_732 rfl ?_
    refine W.lcmp hx hb dL_law_733 ?_
    refine lv_if_ne (tgt := 741) hx hb dL_law_734 (by decide) (fun cz9 => absurd (c_eq (a := 1) (b := 1) (by omega)) cz9) (fun _ => ?_)
    refine lv_iconst (v := 1) hx hb dL_law_737 (by decide) ?_
    refine lv_goto (tgt := 742) hx hb dL_law_738 (by decide) ?_
    refine lv_istore (lv' := [(14, .int 1), (12, .long (lI ((fX3_openTicketNumber g q q9).toInt))), (11, .int (nI c9)), (10, .int (nI q9)), (9, .int (nI wh)), (8, .int (nI y)), (6, .int (nI k)), (5, .int 1), (4, .int (nI nK)), (3, .int (nI nT)), (2, .ref (ad 90)), (1, .ref (ad 60)), (0, .ref b)]) hx hb dL_law_742 hl (by decide) rfl (fun ls hl => ?_)
    refine lv_iload hx hb dL_law_744 (lv_at hl 0 rfl) ?_
    refine lv_if_eq (tgt := 807) hx hb dL_law_746 (by decide) (fun cz9 => absurd cz9 (by decide)) (fun _ => ?_)
    refine lv_aload_n hx hb dL_law_749 rfl (lv_at hl 11 rfl) ?_
    refine lv_iload hx hb dL_law_750 (lv_at hl 3 rfl) ?_
    refine sy_kl (vx_runSW (As := [.ref (ad 60), .int (nI q9)]) (rest := []) ⟨hx, hb, hml, hown, hts⟩ (mL_police l hfl Z nT nK cT cK ad g q (nI q9) hI) (vx_cwSW 2 hts (gl_S uk_3_177 uk_3_178 uk_1_0 uk_3_179) rfl rfl rfl (by decide +kernel) ⟨Nat.le_of_ble_eq_true rfl, Nat.le_of_ble_eq_true rfl⟩) ⟨sPreL_blind _, fun U hU hW => ⟨rfl, ⟨hE.next hS hU hW.alike, by rw [hU]; exact hP⟩, hNc.next hW.alike⟩⟩ rfl rfl hl.1 rfl (lv_room (Nat.le_of_ble_eq_true rfl)) dL_law_752 ⟨by show _ ≤ 600074; (try dsimp only); omega, by show _ ≤ 7301550; (try dsimp only); omega⟩) hS (fun r gz qz H locs e9 hP hS => ?_)
    obtain ⟨er, eg, eq⟩ := eq_n3 ((p_police hI hq9).1 h6) e9
    subst er; subst eg; subst eq
    refine lv_ldc2 (v := lI (-9000000000000000003)) hx hb hown (hts _ (wsU_tbl uk_2_183)) dL_law_755 ?_
    refine W.lcmp hx hb dL_law_758 ?_
    refine lv_if_ne (tgt := 803) hx hb dL_law_759 (by decide) (fun cz9 => absurd (c_eq (a := (-9000000000000000003)) (b := (-9000000000000000003)) (by omega)) cz9) (fun _ => ?_)
    refine lv_aload_n hx hb dL_law_762 rfl (lv_at hl 11 rfl) ?_
    refine lv_iload hx hb dL_law_763 (lv_at hl 3 rfl) ?_
    refine lv_iload hx hb dL_law_765 (lv_at hl 5 rfl) ?_
    refine lv_iconst (v := 2) hx hb dL_law_767 (by decide) ?_
    refine lv_irem hx hb dL_law_768 (by decide) ?_
    refine sy_top (y := nI (y % 2)) (nI_rem (a := y) (b := 2) (by omega) (by omega)) ?_
    by_cases h2y : y % 2 = 0
    · skip
      refine lv_if_ne (tgt := 776) hx hb dL_law_769 (by decide) (fun cz9 => absurd ((nI_eq (a := (y % 2)) (b := 0) (by omega) (by omega)).mpr (by omega)) cz9) (fun _ => ?_)
      refine lv_iconst (v := 1) hx hb dL_law_772 (by decide) ?_
      refine lv_goto (tgt := 777) hx hb dL_law_773 (by decide) ?_
      refine sy_kl (vx_runSW (As := [.ref (ad 60), .int (nI q9), .int 1]) (rest := []) ⟨hx, hb, hml, hown, hts⟩ (mL_court l hfl Z nT nK cT cK ad g q (nI q9) 1 hI) (vx_cwSW 3 hts (gl_S uk_3_188 uk_3_189 uk_1_0 uk_3_190) rfl rfl rfl (by decide +kernel) ⟨Nat.le_of_ble_eq_true rfl, Nat.le_of_ble_eq_true rfl⟩) ⟨sPreL_blind _, fun U hU hW => ⟨rfl, ⟨hE.next hS hU hW.alike, by rw [hU]; exact hP⟩, hNc.next hW.alike⟩⟩ rfl rfl hl.1 rfl (lv_room (Nat.le_of_ble_eq_true rfl)) dL_law_777 ⟨by show _ ≤ 600074; (try dsimp only); omega, by show _ ≤ 7301550; (try dsimp only); omega⟩) hS (fun r g1 q1 H locs e9 hP hS => ?_)
      obtain ⟨h1, h2, hI2⟩ := p_court hI hq9 h6 (x := 1) (Or.inr rfl)
      obtain ⟨er, eg, eq⟩ := eq_y (z := (fX3_openTicketNumber g q q9).toInt) h1 (by rw [h2]; rfl) e9
      subst er
      rw [eg, eq] at hI2
      have hI := hI2
      clear e9
      refine lv_iload hx hb dL_law_780 (lv_at hl 5 rfl) ?_
      refine lv_iconst (v := 2) hx hb dL_law_782 (by decide) ?_
      refine lv_irem hx hb dL_law_783 (by decide) ?_
      refine sy_top (y := nI (y % 2)) (nI_rem (a := y) (b := 2) (by omega) (by omega)) ?_
      refine lv_if_ne (tgt := 792) hx hb dL_law_784 (by decide) (fun cz9 => absurd ((nI_eq (a := (y % 2)) (b := 0) (by omega) (by omega)).mpr (by omega)) cz9) (fun _ => ?_)
      refine lv_lload hx hb dL_law_787 (lv_at hl 1 rfl) ?_
      refine lv_goto (tgt := 795) hx hb dL_law_789 (by decide) ?_
      refine W.lcmp hx hb dL_law_795 ?_
      refine lv_if_ne (tgt := 803) hx hb dL_law_796 (by decide) (fun cz9 => absurd (c_eq (a := (fX3_openTicketNumber g q q9).toInt) (b := (fX3_openTicketNumber g q q9).toInt) (by omega)) cz9) (fun _ => ?_)
      refine lv_iconst (v := 1) hx hb dL_law_799 (by decide) ?_
      refine lv_goto (tgt := 837) hx hb dL_law_800 (by decide) ?_
      refine lv_istore (lv' := [(5, .int 1), (14, .int 1), (12, .long (lI ((fX3_openTicketNumber g q q9).toInt))), (11, .int (nI c9)), (10, .int (nI q9)), (9, .int (nI wh)), (8, .int (nI y)), (6, .int (nI k)), (4, .int (nI nK)), (3, .int (nI nT)), (2, .ref (ad 90)), (1, .ref (ad 60)), (0, .ref b)]) hx hb dL_law_837 hl (by decide) rfl (fun ls hl => ?_)
      refine lv_goto (tgt := 1280) hx hb dL_law_839 (by decide) ?_
      refine W.widen (k := 100 + 2000 * k + 100) (n := 4000 + 14000 * k + 1000) (by (try dsimp only); omega) (by (try dsimp only); omega) ?_
      exact hJ _ _ _ _ _ _ _ _ _ _ (by omega) ⟨hP, (ci_n (by omega) hI), h70, h71, hS, lv_sub hl [7, 0, 8, 9, 10, 11, 12] rfl⟩
    · skip
      refine lv_if_ne (tgt := 776) hx hb dL_law_769 (by decide) (fun _ => ?_) (fun cz9 => absurd cz9 (mt (nI_eq (a := (y % 2)) (b := 0) (by omega) (by omega)).mp (by omega)))
      refine lv_iconst (v := 0) hx hb dL_law_776 (by decide) ?_
      refine sy_kl (vx_runSW (As := [.ref (ad 60), .int (nI q9), .int 0]) (rest := []) ⟨hx, hb, hml, hown, hts⟩ (mL_court l hfl Z nT nK cT cK ad g q (nI q9) 0 hI) (vx_cwSW 3 hts (gl_S uk_3_188 uk_3_189 uk_1_0 uk_3_190) rfl rfl rfl (by decide +kernel) ⟨Nat.le_of_ble_eq_true rfl, Nat.le_of_ble_eq_true rfl⟩) ⟨sPreL_blind _, fun U hU hW => ⟨rfl, ⟨hE.next hS hU hW.alike, by rw [hU]; exact hP⟩, hNc.next hW.alike⟩⟩ rfl rfl hl.1 rfl (lv_room (Nat.le_of_ble_eq_true rfl)) dL_law_777 ⟨by show _ ≤ 600074; (try dsimp only); omega, by show _ ≤ 7301550; (try dsimp only); omega⟩) hS (fun r g1 q1 H locs e9 hP hS => ?_)
      obtain ⟨h1, h2, hI2⟩ := p_court hI hq9 h6 (x := 0) (Or.inl rfl)
      obtain ⟨er, eg, eq⟩ := eq_y (z := (-1)) h1 (by rw [h2]; rfl) e9
      subst er
      rw [eg, eq] at hI2
      have hI := hI2
      clear e9
      refine lv_iload hx hb dL_law_780 (lv_at hl 5 rfl) ?_
      refine lv_iconst (v := 2) hx hb dL_law_782 (by decide) ?_
      refine lv_irem hx hb dL_law_783 (by decide) ?_
      refine sy_top (y := nI (y % 2)) (nI_rem (a := y) (b := 2) (by omega) (by omega)) ?_
      refine lv_if_ne (tgt := 792) hx hb dL_law_784 (by decide) (fun _ => ?_) (fun cz9 => absurd cz9 (mt (nI_eq (a := (y % 2)) (b := 0) (by omega) (by omega)).mp (by omega)))
      refine lv_ldc2 (v := lI (-1)) hx hb hown (hts _ (wsU_tbl uk_4_212)) dL_law_792 ?_
      refine W.lcmp hx hb dL_law_795 ?_
      refine lv_if_ne (tgt := 803) hx hb dL_law_796 (by decide) (fun cz9 => absurd (c_eq (a := (-1)) (b := (-1)) (by omega)) cz9) (fun _ => ?_)
      refine lv_iconst (v := 1) hx hb dL_law_799 (by decide) ?_
      refine lv_goto (tgt := 837) hx hb dL_law_800 (by decide) ?_
      refine lv_istore (lv' := [(5, .int 1), (14, .int 1), (12, .long (lI ((fX3_openTicketNumber g q q9).toInt))), (11, .int (nI c9)), (10, .int (nI q9)), (9, .int (nI wh)), (8, .int (nI y)), (6, .int (nI k)), (4, .int (nI nK)), (3, .int (nI nT)), (2, .ref (ad 90)), (1, .ref (ad 60)), (0, .ref b)]) hx hb dL_law_837 hl (by decide) rfl (fun ls hl => ?_)
      refine lv_goto (tgt := 1280) hx hb dL_law_839 (by decide) ?_
      refine W.widen (k := 100 + 2000 * k + 100) (n := 4000 + 14000 * k + 1000) (by (try dsimp only); omega) (by (try dsimp only); omega) ?_
      exact hJ _ _ _ _ _ _ _ _ _ _ (by omega) ⟨hP, (ci_n (by omega) hI), h70, h71, hS, lv_sub hl [7, 0, 8, 9, 10, 11, 12] rfl⟩
end LWC
