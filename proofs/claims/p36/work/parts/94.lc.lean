section LWC
variable {p : Program} {l : Launch} {e : Env} {s : State} {m : MethodId} {below : List Frame} {meth : Method} {c : Code} {b L : Nat} {xs : Nat → Int32} {Z : sZ}
set_option maxHeartbeats 8000000 in
set_option maxRecDepth 100000 in
theorem lc_F (hC : lCtx p l s m meth c b L xs Z) {k : Nat} (hk : k < 48) {nT nK cT cK : Nat} {ad : Nat → Nat} {g : sG} {q : sQ} {H : Heap} {locs : List Loc} {ls : Array Slot} {wh q9 c9 y : Nat} (hy : y < 2147483648) (hwh : wh = 10) (hT0 : 0 < nT) (hq9 : q9 < nT) (h : lSt Z s b k (k + 1) nT nK cT cK ad g q H locs ls [(11, .int (nI c9)), (10, .int (nI q9)), (9, .int (nI wh)), (8, .int (nI y))]) (hJ : ∀ (nT nK cT cK : Nat) (ad : Nat → Nat) (g : sG) (q : sQ) (H : Heap) (locs : List Loc) (ls : Array Slot), 0 < nT → lSt Z s b k (k + 2) nT nK cT cK ad g q H locs ls [] → W p l e room_1 s m #[Value.ref b] below meth c H locs (100 + 2000 * k + 100) (4000 + 12000 * k + 1000) (lw_Z below #[Value.ref b] s) (F0 m 1280 ls [])) : W p l e room_1 s m #[Value.ref b] below meth c H locs (100 + 2000 * k) (4000 + 12000 * k) (lw_Z below #[Value.ref b] s) (F0 m 133 ls []) := by
  obtain ⟨hx, hb, hr, hml, hown, hts, hX, hbl, hlocks, hZ, hE, hNc, hfl⟩ := hC
  obtain ⟨hP, hI, h70, h71, hS, hl⟩ := h
  have hT40 := ci_T hI
  have hK40 := ci_K hI
  have b7 := i32b (g (100 + q9) 7)
  refine lv_iload hx hb dL_law_133 (lv_at hl 2 rfl) ?_
  refine lv_iconst (v := 4) hx hb dL_law_135 (by decide) ?_
  refine lv_icmp_lt (tgt := 143) hx hb dL_law_136 (by decide) (fun c9 => absurd c9 (mt (nI_ltI (a := wh) (b := 4) (by omega) (by omega)).mp (by omega))) (fun _ => ?_)
  refine lv_iload_n hx hb dL_law_139 rfl (lv_at hl 7 rfl) ?_
  refine lv_if_ne (tgt := 377) hx hb dL_law_140 (by decide) (fun _ => ?_) (fun c9 => absurd c9 (mt (nI_eq (a := nT) (b := 0) (by omega) (by omega)).mp (by omega)))
  refine lv_iload hx hb dL_law_377 (lv_at hl 2 rfl) ?_
  refine lv_iconst (v := 4) hx hb dL_law_379 (by decide) ?_
  refine lv_icmp_ne (tgt := 506) hx hb dL_law_380 (by decide) (fun _ => ?_) (fun c9 => absurd c9 (mt (nI_eq (a := wh) (b := 4) (by omega) (by omega)).mp (by omega)))
  refine lv_iload hx hb dL_law_506 (lv_at hl 2 rfl) ?_
  refine lv_bipush (v := 8) hx hb dL_law_508 (by decide) ?_
  refine lv_icmp_ge (tgt := 539) hx hb dL_law_510 (by decide) (fun _ => ?_) (fun c9 => absurd ((nI_leI (a := 8) (b := wh) (by omega) (by omega)).mpr (by omega)) c9)
  refine lv_iload hx hb dL_law_539 (lv_at hl 2 rfl) ?_
  refine lv_bipush (v := 8) hx hb dL_law_541 (by decide) ?_
  refine lv_icmp_ne (tgt := 708) hx hb dL_law_543 (by decide) (fun _ => ?_) (fun c9 => absurd c9 (mt (nI_eq (a := wh) (b := 8) (by omega) (by omega)).mp (by omega)))
  refine lv_iload hx hb dL_law_708 (lv_at hl 2 rfl) ?_
  refine lv_bipush (v := 9) hx hb dL_law_710 (by decide) ?_
  refine lv_icmp_ne (tgt := 842) hx hb dL_law_712 (by decide) (fun _ => ?_) (fun c9 => absurd c9 (mt (nI_eq (a := wh) (b := 9) (by omega) (by omega)).mp (by omega)))
  refine lv_iload hx hb dL_law_842 (lv_at hl 2 rfl) ?_
  refine lv_bipush (v := 10) hx hb dL_law_844 (by decide) ?_
  refine lv_icmp_ne (tgt := 997) hx hb dL_law_846 (by decide) (fun c9 => absurd ((nI_eq (a := wh) (b := 10) (by omega) (by omega)).mpr (by omega)) c9) (fun _ => ?_)
  refine lv_aload_n hx hb dL_law_849 rfl (lv_at hl 9 rfl) ?_
  refine lv_iload hx hb dL_law_850 (lv_at hl 1 rfl) ?_
  refine lv_iconst (v := 3) hx hb dL_law_852 (by decide) ?_
  rcases p_stray hI hq9 (b := y % 3) (s := y / 4 % 4) (by omega) (by omega) with ⟨h5, hw⟩ | ⟨h5, h1, hI2, h2, h3, h4⟩
  · skip
    refine sy_kl (vx_runSW (As := [.ref (ad 60), .int (nI q9), .int 3]) (rest := []) ⟨hx, hb, hml, hown, hts⟩ (mL_thingOf l hfl Z nT nK cT cK ad g q (nI q9) 3 hI) (vx_cwSW 3 hts (gl_S uk_4_46 uk_4_47 uk_1_0 uk_4_48) rfl rfl rfl (by decide +kernel) ⟨Nat.le_of_ble_eq_true rfl, Nat.le_of_ble_eq_true rfl⟩) ⟨sPreL_blind _, fun U hU hW => ⟨rfl, ⟨hE.next hS hU hW.alike, by rw [hU]; exact hP⟩, hNc.next hW.alike⟩⟩ rfl rfl hl.1 rfl (lv_room (Nat.le_of_ble_eq_true rfl)) dL_law_853 ⟨by show _ ≤ 600074; (try dsimp only); omega, by show _ ≤ 7301550; (try dsimp only); omega⟩) hS (fun r gz qz H locs e9 hP hS => ?_)
    obtain ⟨er, eg, eq⟩ := eq_q (z := 0) (a_T hI hq9).2.1 (by rw [if_pos h5]; rfl) e9
    subst er; subst eg; subst eq
    refine lv_lconst (v := lI 1) hx hb dL_law_856 rfl ?_
    refine W.lcmp hx hb dL_law_857 ?_
    refine lv_if_ne (tgt := 865) hx hb dL_law_858 (by decide) (fun _ => ?_) (fun c9 => absurd c9 (c_ne (a := 0) (b := 1) (by omega) (by omega) (by omega)))
    refine lv_iconst (v := 0) hx hb dL_law_865 (by decide) ?_
    refine lv_istore (lv' := [(12, .int 0), (11, .int (nI c9)), (10, .int (nI q9)), (9, .int (nI wh)), (8, .int (nI y)), (6, .int (nI k)), (5, .int 1), (4, .int (nI nK)), (3, .int (nI nT)), (2, .ref (ad 90)), (1, .ref (ad 60)), (0, .ref b)]) hx hb dL_law_866 hl (by decide) rfl (fun ls hl => ?_)
    refine lv_aload_n hx hb dL_law_868 rfl (lv_at hl 10 rfl) ?_
    refine lv_iload hx hb dL_law_869 (lv_at hl 2 rfl) ?_
    refine lv_iconst (v := 4) hx hb dL_law_871 (by decide) ?_
    refine sy_kl (vx_runSW (As := [.ref (ad 60), .int (nI q9), .int 4]) (rest := []) ⟨hx, hb, hml, hown, hts⟩ (mL_thingOf l hfl Z nT nK cT cK ad g q (nI q9) 4 hI) (vx_cwSW 3 hts (gl_S uk_4_46 uk_4_47 uk_1_0 uk_4_48) rfl rfl rfl (by decide +kernel) ⟨Nat.le_of_ble_eq_true rfl, Nat.le_of_ble_eq_true rfl⟩) ⟨sPreL_blind _, fun U hU hW => ⟨rfl, ⟨hE.next hS hU hW.alike, by rw [hU]; exact hP⟩, hNc.next hW.alike⟩⟩ rfl rfl hl.1 rfl (lv_room (Nat.le_of_ble_eq_true rfl)) dL_law_872 ⟨by show _ ≤ 600074; (try dsimp only); omega, by show _ ≤ 7301550; (try dsimp only); omega⟩) hS (fun r gz qz H locs e9 hP hS => ?_)
    obtain ⟨er, eg, eq⟩ := eq_q (z := (g (100 + q9) 7).toInt) (a_T hI hq9).2.2.1 rfl e9
    subst er; subst eg; subst eq
    refine lv_lstore (lv' := [(13, .long (lI ((g (100 + q9) 7).toInt))), (12, .int 0), (11, .int (nI c9)), (10, .int (nI q9)), (9, .int (nI wh)), (8, .int (nI y)), (6, .int (nI k)), (5, .int 1), (4, .int (nI nK)), (3, .int (nI nT)), (2, .ref (ad 90)), (1, .ref (ad 60)), (0, .ref b)]) hx hb dL_law_875 hl (by decide) rfl (fun ls hl => ?_)
    refine lv_aload_n hx hb dL_law_877 rfl (lv_at hl 11 rfl) ?_
    refine lv_iload hx hb dL_law_878 (lv_at hl 3 rfl) ?_
    refine lv_iload hx hb dL_law_880 (lv_at hl 5 rfl) ?_
    refine lv_iconst (v := 3) hx hb dL_law_882 (by decide) ?_
    refine lv_irem hx hb dL_law_883 (by decide) ?_
    refine sy_top (y := nI (y % 3)) (nI_rem (a := y) (b := 3) (by omega) (by omega)) ?_
    refine lv_iload hx hb dL_law_884 (lv_at hl 5 rfl) ?_
    refine lv_iconst (v := 4) hx hb dL_law_886 (by decide) ?_
    refine lv_idiv hx hb dL_law_887 (by decide) ?_
    refine sy_top (y := nI (y / 4)) (nI_div (a := y) (b := 4) (by omega) (by omega)) ?_
    refine lv_iconst (v := 4) hx hb dL_law_888 (by decide) ?_
    refine lv_irem hx hb dL_law_889 (by decide) ?_
    refine sy_top (y := nI ((y / 4) % 4)) (nI_rem (a := (y / 4)) (b := 4) (by omega) (by omega)) ?_
    refine sy_kl (vx_runSW (As := [.ref (ad 60), .int (nI q9), .int (nI (y % 3)), .int (nI ((y / 4) % 4))]) (rest := []) ⟨hx, hb, hml, hown, hts⟩ (mL_stray l hfl Z nT nK cT cK ad g q (nI q9) (nI (y % 3)) (nI ((y / 4) % 4)) hI) (vx_cwSW 4 hts (gl_S uk_3_203 uk_3_204 uk_1_0 uk_3_205) rfl rfl rfl (by decide +kernel) ⟨Nat.le_of_ble_eq_true rfl, Nat.le_of_ble_eq_true rfl⟩) ⟨sPreL_blind _, fun U hU hW => ⟨rfl, ⟨hE.next hS hU hW.alike, by rw [hU]; exact hP⟩, hNc.next hW.alike⟩⟩ rfl rfl hl.1 rfl (lv_room (Nat.le_of_ble_eq_true rfl)) dL_law_890 ⟨by show _ ≤ 600074; (try dsimp only); omega, by show _ ≤ 7301550; (try dsimp only); omega⟩) hS (fun r g1 q1 H locs e9 hP hS => ?_)
    obtain ⟨er, eg, eq⟩ := eq_v3 hw e9
    subst er; subst eg; subst eq
    refine lv_iload hx hb dL_law_893 (lv_at hl 1 rfl) ?_
    refine lv_if_eq (tgt := 902) hx hb dL_law_895 (by decide) (fun _ => ?_) (fun c9 => absurd c9 (by decide))
    refine lv_ldc2 (v := lI (-9000000000000000003)) hx hb hown (hts _ (wsU_tbl uk_2_183)) dL_law_902 ?_
    refine W.lcmp hx hb dL_law_905 ?_
    refine lv_if_ne (tgt := 926) hx hb dL_law_906 (by decide) (fun c9 => absurd (c_eq (a := (-9000000000000000003)) (b := (-9000000000000000003)) (by omega)) c9) (fun _ => ?_)
    refine lv_aload_n hx hb dL_law_909 rfl (lv_at hl 11 rfl) ?_
    refine lv_iload hx hb dL_law_910 (lv_at hl 3 rfl) ?_
    refine lv_iconst (v := 4) hx hb dL_law_912 (by decide) ?_
    refine sy_kl (vx_runSW (As := [.ref (ad 60), .int (nI q9), .int 4]) (rest := []) ⟨hx, hb, hml, hown, hts⟩ (mL_thingOf l hfl Z nT nK cT cK ad g q (nI q9) 4 hI) (vx_cwSW 3 hts (gl_S uk_4_46 uk_4_47 uk_1_0 uk_4_48) rfl rfl rfl (by decide +kernel) ⟨Nat.le_of_ble_eq_true rfl, Nat.le_of_ble_eq_true rfl⟩) ⟨sPreL_blind _, fun U hU hW => ⟨rfl, ⟨hE.next hS hU hW.alike, by rw [hU]; exact hP⟩, hNc.next hW.alike⟩⟩ rfl rfl hl.1 rfl (lv_room (Nat.le_of_ble_eq_true rfl)) dL_law_913 ⟨by show _ ≤ 600074; (try dsimp only); omega, by show _ ≤ 7301550; (try dsimp only); omega⟩) hS (fun r gz qz H locs e9 hP hS => ?_)
    obtain ⟨er, eg, eq⟩ := eq_q (z := (g (100 + q9) 7).toInt) (a_T hI hq9).2.2.1 rfl e9
    subst er; subst eg; subst eq
    refine lv_lload hx hb dL_law_916 (lv_at hl 0 rfl) ?_
    refine W.lcmp hx hb dL_law_918 ?_
    refine lv_if_ne (tgt := 926) hx hb dL_law_919 (by decide) (fun c9 => absurd (c_eq (a := (g (100 + q9) 7).toInt) (b := (g (100 + q9) 7).toInt) (by omega)) c9) (fun _ => ?_)
    refine lv_iconst (v := 1) hx hb dL_law_922 (by decide) ?_
    refine lv_goto (tgt := 927) hx hb dL_law_923 (by decide) ?_
    refine lv_istore (lv' := [(5, .int 1), (13, .long (lI ((g (100 + q9) 7).toInt))), (12, .int 0), (11, .int (nI c9)), (10, .int (nI q9)), (9, .int (nI wh)), (8, .int (nI y)), (6, .int (nI k)), (4, .int (nI nK)), (3, .int (nI nT)), (2, .ref (ad 90)), (1, .ref (ad 60)), (0, .ref b)]) hx hb dL_law_927 hl (by decide) rfl (fun ls hl => ?_)
    refine lv_iload hx hb dL_law_929 (lv_at hl 0 rfl) ?_
    refine lv_if_eq (tgt := 991) hx hb dL_law_931 (by decide) (fun c9 => absurd c9 (by decide)) (fun _ => ?_)
    refine lv_iload hx hb dL_law_934 (lv_at hl 6 rfl) ?_
    refine lv_bipush (v := 16) hx hb dL_law_936 (by decide) ?_
    refine lv_idiv hx hb dL_law_938 (by decide) ?_
    refine sy_top (y := nI (y / 16)) (nI_div (a := y) (b := 16) (by omega) (by omega)) ?_
    refine lv_iconst (v := 3) hx hb dL_law_939 (by decide) ?_
    refine lv_irem hx hb dL_law_940 (by decide) ?_
    refine sy_top (y := nI ((y / 16) % 3)) (nI_rem (a := (y / 16)) (b := 3) (by omega) (by omega)) ?_
    by_cases h3y : 0 < y / 16 % 3
    · skip
      refine lv_if_gt (tgt := 987) hx hb dL_law_941 (by decide) (fun _ => ?_) (fun c9 => absurd ((nI_ltI (a := 0) (b := ((y / 16) % 3)) (by omega) (by omega)).mpr (by omega)) c9)
      refine lv_iconst (v := 1) hx hb dL_law_987 (by decide) ?_
      refine lv_goto (tgt := 992) hx hb dL_law_988 (by decide) ?_
      refine lv_istore (lv' := [(5, .int 1), (13, .long (lI ((g (100 + q9) 7).toInt))), (12, .int 0), (11, .int (nI c9)), (10, .int (nI q9)), (9, .int (nI wh)), (8, .int (nI y)), (6, .int (nI k)), (4, .int (nI nK)), (3, .int (nI nT)), (2, .ref (ad 90)), (1, .ref (ad 60)), (0, .ref b)]) hx hb dL_law_992 hl (by decide) rfl (fun ls hl => ?_)
      refine lv_goto (tgt := 1280) hx hb dL_law_994 (by decide) ?_
      refine W.widen (k := 100 + 2000 * k + 100) (n := 4000 + 12000 * k + 1000) (by (try dsimp only); omega) (by (try dsimp only); omega) ?_
      exact hJ _ _ _ _ _ _ _ _ _ _ (by omega) ⟨hP, (ci_n (by omega) hI), h70, h71, hS, lv_sub hl [7, 0, 8, 9, 10, 11, 12] rfl⟩
    · skip
      refine lv_if_gt (tgt := 987) hx hb dL_law_941 (by decide) (fun c9 => absurd c9 (mt (nI_ltI (a := 0) (b := ((y / 16) % 3)) (by omega) (by omega)).mp (by omega))) (fun _ => ?_)
      refine lv_aload_n hx hb dL_law_944 rfl (lv_at hl 11 rfl) ?_
      refine lv_iload hx hb dL_law_945 (lv_at hl 6 rfl) ?_
      refine lv_iconst (v := 3) hx hb dL_law_947 (by decide) ?_
      refine lv_irem hx hb dL_law_948 (by decide) ?_
      refine sy_top (y := nI (y % 3)) (nI_rem (a := y) (b := 3) (by omega) (by omega)) ?_
      refine sy_kl (vx_runSW (As := [.ref (ad 60), .int (nI (y % 3))]) (rest := []) ⟨hx, hb, hml, hown, hts⟩ (mL_count l hfl Z nT nK cT cK ad g q (nI (y % 3)) hI) (vx_cwSW 2 hts (gl_S uk_3_214 uk_3_215 uk_1_0 uk_3_216) rfl rfl rfl (by decide +kernel) ⟨Nat.le_of_ble_eq_true rfl, Nat.le_of_ble_eq_true rfl⟩) ⟨sPreL_blind _, fun U hU hW => ⟨rfl, ⟨hE.next hS hU hW.alike, by rw [hU]; exact hP⟩, hNc.next hW.alike⟩⟩ rfl rfl hl.1 rfl (lv_room (Nat.le_of_ble_eq_true rfl)) dL_law_949 ⟨by show _ ≤ 600074; (try dsimp only); omega, by show _ ≤ 7301550; (try dsimp only); omega⟩) hS (fun r g2 q2 H locs e9 hP hS => ?_)
      obtain ⟨n1, n2, hI3, n4⟩ := p_count hI (b := y % 3) (by omega)
      obtain ⟨zz, hzz⟩ : ∃ zz : Int, (fX6_count g q (nI (y % 3))).2.1.toInt = zz := ⟨_, rfl⟩
      have bz : -2147483648 ≤ zz ∧ zz < 2147483648 := by rw [← hzz]; exact i32b _
      rw [hzz] at n2
      obtain ⟨er, eg, eq⟩ := eq_y (z := zz) n1 hzz e9
      subst er
      rw [eg, eq] at hI3
      have hI := hI3
      clear e9 eg eq
      refine lv_lconst (v := lI 0) hx hb dL_law_952 rfl ?_
      refine W.lcmp hx hb dL_law_953 ?_
      refine lv_if_lt (tgt := 991) hx hb dL_law_954 (by decide) (fun c9 => absurd c9 (c_ge (a := zz) (b := 0) (by omega) (by omega) (by omega))) (fun _ => ?_)
      refine lv_iload hx hb dL_law_957 (lv_at hl 2 rfl) ?_
      refine lv_if_eq (tgt := 987) hx hb dL_law_959 (by decide) (fun _ => ?_) (fun c9 => absurd c9 (by decide))
      refine lv_iconst (v := 1) hx hb dL_law_987 (by decide) ?_
      refine lv_goto (tgt := 992) hx hb dL_law_988 (by decide) ?_
      refine lv_istore (lv' := [(5, .int 1), (13, .long (lI ((g (100 + q9) 7).toInt))), (12, .int 0), (11, .int (nI c9)), (10, .int (nI q9)), (9, .int (nI wh)), (8, .int (nI y)), (6, .int (nI k)), (4, .int (nI nK)), (3, .int (nI nT)), (2, .ref (ad 90)), (1, .ref (ad 60)), (0, .ref b)]) hx hb dL_law_992 hl (by decide) rfl (fun ls hl => ?_)
      refine lv_goto (tgt := 1280) hx hb dL_law_994 (by decide) ?_
      refine W.widen (k := 100 + 2000 * k + 100) (n := 4000 + 12000 * k + 1000) (by (try dsimp only); omega) (by (try dsimp only); omega) ?_
      exact hJ _ _ _ _ _ _ _ _ _ _ (by omega) ⟨hP, (ci_n (by omega) hI), h70, h71, hS, lv_sub hl [7, 0, 8, 9, 10, 11, 12] rfl⟩
  · skip
    refine sy_kl (vx_runSW (As := [.ref (ad 60), .int (nI q9), .int 3]) (rest := []) ⟨hx, hb, hml, hown, hts⟩ (mL_thingOf l hfl Z nT nK cT cK ad g q (nI q9) 3 hI) (vx_cwSW 3 hts (gl_S uk_4_46 uk_4_47 uk_1_0 uk_4_48) rfl rfl rfl (by decide +kernel) ⟨Nat.le_of_ble_eq_true rfl, Nat.le_of_ble_eq_true rfl⟩) ⟨sPreL_blind _, fun U hU hW => ⟨rfl, ⟨hE.next hS hU hW.alike, by rw [hU]; exact hP⟩, hNc.next hW.alike⟩⟩ rfl rfl hl.1 rfl (lv_room (Nat.le_of_ble_eq_true rfl)) dL_law_853 ⟨by show _ ≤ 600074; (try dsimp only); omega, by show _ ≤ 7301550; (try dsimp only); omega⟩) hS (fun r gz qz H locs e9 hP hS => ?_)
    obtain ⟨er, eg, eq⟩ := eq_q (z := 1) (a_T hI hq9).2.1 (by rw [if_neg h5]; rfl) e9
    subst er; subst eg; subst eq
    refine lv_lconst (v := lI 1) hx hb dL_law_856 rfl ?_
    refine W.lcmp hx hb dL_law_857 ?_
    refine lv_if_ne (tgt := 865) hx hb dL_law_858 (by decide) (fun c9 => absurd (c_eq (a := 1) (b := 1) (by omega)) c9) (fun _ => ?_)
    refine lv_iconst (v := 1) hx hb dL_law_861 (by decide) ?_
    refine lv_goto (tgt := 866) hx hb dL_law_862 (by decide) ?_
    refine lv_istore (lv' := [(12, .int 1), (11, .int (nI c9)), (10, .int (nI q9)), (9, .int (nI wh)), (8, .int (nI y)), (6, .int (nI k)), (5, .int 1), (4, .int (nI nK)), (3, .int (nI nT)), (2, .ref (ad 90)), (1, .ref (ad 60)), (0, .ref b)]) hx hb dL_law_866 hl (by decide) rfl (fun ls hl => ?_)
    refine lv_aload_n hx hb dL_law_868 rfl (lv_at hl 10 rfl) ?_
    refine lv_iload hx hb dL_law_869 (lv_at hl 2 rfl) ?_
    refine lv_iconst (v := 4) hx hb dL_law_871 (by decide) ?_
    refine sy_kl (vx_runSW (As := [.ref (ad 60), .int (nI q9), .int 4]) (rest := []) ⟨hx, hb, hml, hown, hts⟩ (mL_thingOf l hfl Z nT nK cT cK ad g q (nI q9) 4 hI) (vx_cwSW 3 hts (gl_S uk_4_46 uk_4_47 uk_1_0 uk_4_48) rfl rfl rfl (by decide +kernel) ⟨Nat.le_of_ble_eq_true rfl, Nat.le_of_ble_eq_true rfl⟩) ⟨sPreL_blind _, fun U hU hW => ⟨rfl, ⟨hE.next hS hU hW.alike, by rw [hU]; exact hP⟩, hNc.next hW.alike⟩⟩ rfl rfl hl.1 rfl (lv_room (Nat.le_of_ble_eq_true rfl)) dL_law_872 ⟨by show _ ≤ 600074; (try dsimp only); omega, by show _ ≤ 7301550; (try dsimp only); omega⟩) hS (fun r gz qz H locs e9 hP hS => ?_)
    obtain ⟨er, eg, eq⟩ := eq_q (z := (g (100 + q9) 7).toInt) (a_T hI hq9).2.2.1 rfl e9
    subst er; subst eg; subst eq
    refine lv_lstore (lv' := [(13, .long (lI ((g (100 + q9) 7).toInt))), (12, .int 1), (11, .int (nI c9)), (10, .int (nI q9)), (9, .int (nI wh)), (8, .int (nI y)), (6, .int (nI k)), (5, .int 1), (4, .int (nI nK)), (3, .int (nI nT)), (2, .ref (ad 90)), (1, .ref (ad 60)), (0, .ref b)]) hx hb dL_law_875 hl (by decide) rfl (fun ls hl => ?_)
    refine lv_aload_n hx hb dL_law_877 rfl (lv_at hl 11 rfl) ?_
    refine lv_iload hx hb dL_law_878 (lv_at hl 3 rfl) ?_
    refine lv_iload hx hb dL_law_880 (lv_at hl 5 rfl) ?_
    refine lv_iconst (v := 3) hx hb dL_law_882 (by decide) ?_
    refine lv_irem hx hb dL_law_883 (by decide) ?_
    refine sy_top (y := nI (y % 3)) (nI_rem (a := y) (b := 3) (by omega) (by omega)) ?_
    refine lv_iload hx hb dL_law_884 (lv_at hl 5 rfl) ?_
    refine lv_iconst (v := 4) hx hb dL_law_886 (by decide) ?_
    refine lv_idiv hx hb dL_law_887 (by decide) ?_
    refine sy_top (y := nI (y / 4)) (nI_div (a := y) (b := 4) (by omega) (by omega)) ?_
    refine lv_iconst (v := 4) hx hb dL_law_888 (by decide) ?_
    refine lv_irem hx hb dL_law_889 (by decide) ?_
    refine sy_top (y := nI ((y / 4) % 4)) (nI_rem (a := (y / 4)) (b := 4) (by omega) (by omega)) ?_
    refine sy_kl (vx_runSW (As := [.ref (ad 60), .int (nI q9), .int (nI (y % 3)), .int (nI ((y / 4) % 4))]) (rest := []) ⟨hx, hb, hml, hown, hts⟩ (mL_stray l hfl Z nT nK cT cK ad g q (nI q9) (nI (y % 3)) (nI ((y / 4) % 4)) hI) (vx_cwSW 4 hts (gl_S uk_3_203 uk_3_204 uk_1_0 uk_3_205) rfl rfl rfl (by decide +kernel) ⟨Nat.le_of_ble_eq_true rfl, Nat.le_of_ble_eq_true rfl⟩) ⟨sPreL_blind _, fun U hU hW => ⟨rfl, ⟨hE.next hS hU hW.alike, by rw [hU]; exact hP⟩, hNc.next hW.alike⟩⟩ rfl rfl hl.1 rfl (lv_room (Nat.le_of_ble_eq_true rfl)) dL_law_890 ⟨by show _ ≤ 600074; (try dsimp only); omega, by show _ ≤ 7301550; (try dsimp only); omega⟩) hS (fun r g1 q1 H locs e9 hP hS => ?_)
    obtain ⟨er, eg, eq⟩ := eq_yv h1 e9
    subst er
    rw [eg, eq] at hI2
    rw [eg] at h2 h3 h4
    have hI := hI2
    clear e9 eg eq h1
    refine lv_iload hx hb dL_law_893 (lv_at hl 1 rfl) ?_
    refine lv_if_eq (tgt := 902) hx hb dL_law_895 (by decide) (fun c9 => absurd c9 (by decide)) (fun _ => ?_)
    refine lv_lconst (v := lI 0) hx hb dL_law_898 rfl ?_
    refine lv_goto (tgt := 905) hx hb dL_law_899 (by decide) ?_
    refine W.lcmp hx hb dL_law_905 ?_
    refine lv_if_ne (tgt := 926) hx hb dL_law_906 (by decide) (fun c9 => absurd (c_eq (a := 0) (b := 0) (by omega)) c9) (fun _ => ?_)
    refine lv_aload_n hx hb dL_law_909 rfl (lv_at hl 11 rfl) ?_
    refine lv_iload hx hb dL_law_910 (lv_at hl 3 rfl) ?_
    refine lv_iconst (v := 4) hx hb dL_law_912 (by decide) ?_
    refine sy_kl (vx_runSW (As := [.ref (ad 60), .int (nI q9), .int 4]) (rest := []) ⟨hx, hb, hml, hown, hts⟩ (mL_thingOf l hfl Z nT nK cT cK ad g1 q1 (nI q9) 4 hI) (vx_cwSW 3 hts (gl_S uk_4_46 uk_4_47 uk_1_0 uk_4_48) rfl rfl rfl (by decide +kernel) ⟨Nat.le_of_ble_eq_true rfl, Nat.le_of_ble_eq_true rfl⟩) ⟨sPreL_blind _, fun U hU hW => ⟨rfl, ⟨hE.next hS hU hW.alike, by rw [hU]; exact hP⟩, hNc.next hW.alike⟩⟩ rfl rfl hl.1 rfl (lv_room (Nat.le_of_ble_eq_true rfl)) dL_law_913 ⟨by show _ ≤ 600074; (try dsimp only); omega, by show _ ≤ 7301550; (try dsimp only); omega⟩) hS (fun r gz qz H locs e9 hP hS => ?_)
    obtain ⟨er, eg, eq⟩ := eq_q (z := (g (100 + q9) 7).toInt) (a_T hI hq9).2.2.1 (by rw [h2]) e9
    subst er; subst eg; subst eq
    refine lv_lload hx hb dL_law_916 (lv_at hl 0 rfl) ?_
    refine W.lcmp hx hb dL_law_918 ?_
    refine lv_if_ne (tgt := 926) hx hb dL_law_919 (by decide) (fun c9 => absurd (c_eq (a := (g (100 + q9) 7).toInt) (b := (g (100 + q9) 7).toInt) (by omega)) c9) (fun _ => ?_)
    refine lv_iconst (v := 1) hx hb dL_law_922 (by decide) ?_
    refine lv_goto (tgt := 927) hx hb dL_law_923 (by decide) ?_
    refine lv_istore (lv' := [(5, .int 1), (13, .long (lI ((g (100 + q9) 7).toInt))), (12, .int 1), (11, .int (nI c9)), (10, .int (nI q9)), (9, .int (nI wh)), (8, .int (nI y)), (6, .int (nI k)), (4, .int (nI nK)), (3, .int (nI nT)), (2, .ref (ad 90)), (1, .ref (ad 60)), (0, .ref b)]) hx hb dL_law_927 hl (by decide) rfl (fun ls hl => ?_)
    refine lv_iload hx hb dL_law_929 (lv_at hl 0 rfl) ?_
    refine lv_if_eq (tgt := 991) hx hb dL_law_931 (by decide) (fun c9 => absurd c9 (by decide)) (fun _ => ?_)
    refine lv_iload hx hb dL_law_934 (lv_at hl 6 rfl) ?_
    refine lv_bipush (v := 16) hx hb dL_law_936 (by decide) ?_
    refine lv_idiv hx hb dL_law_938 (by decide) ?_
    refine sy_top (y := nI (y / 16)) (nI_div (a := y) (b := 16) (by omega) (by omega)) ?_
    refine lv_iconst (v := 3) hx hb dL_law_939 (by decide) ?_
    refine lv_irem hx hb dL_law_940 (by decide) ?_
    refine sy_top (y := nI ((y / 16) % 3)) (nI_rem (a := (y / 16)) (b := 3) (by omega) (by omega)) ?_
    by_cases h3y : 0 < y / 16 % 3
    · skip
      refine lv_if_gt (tgt := 987) hx hb dL_law_941 (by decide) (fun _ => ?_) (fun c9 => absurd ((nI_ltI (a := 0) (b := ((y / 16) % 3)) (by omega) (by omega)).mpr (by omega)) c9)
      refine lv_iconst (v := 1) hx hb dL_law_987 (by decide) ?_
      refine lv_goto (tgt := 992) hx hb dL_law_988 (by decide) ?_
      refine lv_istore (lv' := [(5, .int 1), (13, .long (lI ((g (100 + q9) 7).toInt))), (12, .int 1), (11, .int (nI c9)), (10, .int (nI q9)), (9, .int (nI wh)), (8, .int (nI y)), (6, .int (nI k)), (4, .int (nI nK)), (3, .int (nI nT)), (2, .ref (ad 90)), (1, .ref (ad 60)), (0, .ref b)]) hx hb dL_law_992 hl (by decide) rfl (fun ls hl => ?_)
      refine lv_goto (tgt := 1280) hx hb dL_law_994 (by decide) ?_
      refine W.widen (k := 100 + 2000 * k + 100) (n := 4000 + 12000 * k + 1000) (by (try dsimp only); omega) (by (try dsimp only); omega) ?_
      exact hJ _ _ _ _ _ _ _ _ _ _ (by omega) ⟨hP, (ci_n (by omega) hI), h70, h71, hS, lv_sub hl [7, 0, 8, 9, 10, 11, 12] rfl⟩
    · skip
      refine lv_if_gt (tgt := 987) hx hb dL_law_941 (by decide) (fun c9 => absurd c9 (mt (nI_ltI (a := 0) (b := ((y / 16) % 3)) (by omega) (by omega)).mp (by omega))) (fun _ => ?_)
      refine lv_aload_n hx hb dL_law_944 rfl (lv_at hl 11 rfl) ?_
      refine lv_iload hx hb dL_law_945 (lv_at hl 6 rfl) ?_
      refine lv_iconst (v := 3) hx hb dL_law_947 (by decide) ?_
      refine lv_irem hx hb dL_law_948 (by decide) ?_
      refine sy_top (y := nI (y % 3)) (nI_rem (a := y) (b := 3) (by omega) (by omega)) ?_
      refine sy_kl (vx_runSW (As := [.ref (ad 60), .int (nI (y % 3))]) (rest := []) ⟨hx, hb, hml, hown, hts⟩ (mL_count l hfl Z nT nK cT cK ad g1 q1 (nI (y % 3)) hI) (vx_cwSW 2 hts (gl_S uk_3_214 uk_3_215 uk_1_0 uk_3_216) rfl rfl rfl (by decide +kernel) ⟨Nat.le_of_ble_eq_true rfl, Nat.le_of_ble_eq_true rfl⟩) ⟨sPreL_blind _, fun U hU hW => ⟨rfl, ⟨hE.next hS hU hW.alike, by rw [hU]; exact hP⟩, hNc.next hW.alike⟩⟩ rfl rfl hl.1 rfl (lv_room (Nat.le_of_ble_eq_true rfl)) dL_law_949 ⟨by show _ ≤ 600074; (try dsimp only); omega, by show _ ≤ 7301550; (try dsimp only); omega⟩) hS (fun r g2 q2 H locs e9 hP hS => ?_)
      obtain ⟨n1, n2, hI3, n4⟩ := p_count hI (b := y % 3) (by omega)
      obtain ⟨zz, hzz⟩ : ∃ zz : Int, (fX6_count g1 q1 (nI (y % 3))).2.1.toInt = zz := ⟨_, rfl⟩
      have bz : -2147483648 ≤ zz ∧ zz < 2147483648 := by rw [← hzz]; exact i32b _
      rw [hzz] at n2
      have n5 := n4 q9 hq9 (by rw [h4]; exact h5) (by rw [h3, show (4 : Int32) = nI 4 from rfl, nI_div (by omega) (by omega)]; congr 1; omega)
      rw [h3] at n5
      obtain ⟨er, eg, eq⟩ := eq_y (z := zz) n1 hzz e9
      subst er
      rw [eg, eq] at hI3
      rw [eg] at n5
      have hI := hI3
      clear e9 eg eq
      refine lv_lconst (v := lI 0) hx hb dL_law_952 rfl ?_
      refine W.lcmp hx hb dL_law_953 ?_
      refine lv_if_lt (tgt := 991) hx hb dL_law_954 (by decide) (fun c9 => absurd c9 (c_ge (a := zz) (b := 0) (by omega) (by omega) (by omega))) (fun _ => ?_)
      refine lv_iload hx hb dL_law_957 (lv_at hl 2 rfl) ?_
      refine lv_if_eq (tgt := 987) hx hb dL_law_959 (by decide) (fun c9 => absurd c9 (by decide)) (fun _ => ?_)
      refine lv_aload_n hx hb dL_law_962 rfl (lv_at hl 11 rfl) ?_
      refine lv_iload hx hb dL_law_963 (lv_at hl 4 rfl) ?_
      refine lv_iconst (v := 4) hx hb dL_law_965 (by decide) ?_
      refine sy_kl (vx_runSW (As := [.ref (ad 60), .int (nI q9), .int 4]) (rest := []) ⟨hx, hb, hml, hown, hts⟩ (mL_thingOf l hfl Z nT nK cT cK ad g2 q2 (nI q9) 4 hI) (vx_cwSW 3 hts (gl_S uk_4_46 uk_4_47 uk_1_0 uk_4_48) rfl rfl rfl (by decide +kernel) ⟨Nat.le_of_ble_eq_true rfl, Nat.le_of_ble_eq_true rfl⟩) ⟨sPreL_blind _, fun U hU hW => ⟨rfl, ⟨hE.next hS hU hW.alike, by rw [hU]; exact hP⟩, hNc.next hW.alike⟩⟩ rfl rfl hl.1 rfl (lv_room (Nat.le_of_ble_eq_true rfl)) dL_law_966 ⟨by show _ ≤ 600074; (try dsimp only); omega, by show _ ≤ 7301550; (try dsimp only); omega⟩) hS (fun r gz qz H locs e9 hP hS => ?_)
      obtain ⟨er, eg, eq⟩ := eq_q (z := ((4 * (y % 3) + y / 4 % 4 : Nat) : Int)) (a_T hI hq9).2.2.1 (by rw [n5]; exact nI_toInt (by omega)) e9
      subst er; subst eg; subst eq
      refine lv_iconst (v := 4) hx hb dL_law_969 (by decide) ?_
      refine lv_iload hx hb dL_law_970 (lv_at hl 6 rfl) ?_
      refine lv_iconst (v := 3) hx hb dL_law_972 (by decide) ?_
      refine lv_irem hx hb dL_law_973 (by decide) ?_
      refine sy_top (y := nI (y % 3)) (nI_rem (a := y) (b := 3) (by omega) (by omega)) ?_
      refine lv_imul hx hb dL_law_974 ?_
      refine sy_top (y := nI (4 * (y % 3))) (nI_mul 4 (y % 3)) ?_
      refine lv_iload hx hb dL_law_975 (lv_at hl 6 rfl) ?_
      refine lv_iconst (v := 4) hx hb dL_law_977 (by decide) ?_
      refine lv_idiv hx hb dL_law_978 (by decide) ?_
      refine sy_top (y := nI (y / 4)) (nI_div (a := y) (b := 4) (by omega) (by omega)) ?_
      refine lv_iconst (v := 4) hx hb dL_law_979 (by decide) ?_
      refine lv_irem hx hb dL_law_980 (by decide) ?_
      refine sy_top (y := nI ((y / 4) % 4)) (nI_rem (a := (y / 4)) (b := 4) (by omega) (by omega)) ?_
      refine lv_iadd hx hb dL_law_981 ?_
      refine sy_top (y := nI ((4 * (y % 3)) + ((y / 4) % 4))) (nI_add (4 * (y % 3)) ((y / 4) % 4)) ?_
      refine lv_i2l (v := lI ((((4 * (y % 3)) + ((y / 4) % 4)) : Nat) : Int)) hx hb dL_law_982 (nI_L (by omega)) ?_
      refine W.lcmp hx hb dL_law_983 ?_
      refine lv_if_ne (tgt := 991) hx hb dL_law_984 (by decide) (fun c9 => absurd (c_eq (a := ((4 * (y % 3) + y / 4 % 4 : Nat) : Int)) (b := ((((4 * (y % 3)) + ((y / 4) % 4)) : Nat) : Int)) (by omega)) c9) (fun _ => ?_)
      refine lv_iconst (v := 1) hx hb dL_law_987 (by decide) ?_
      refine lv_goto (tgt := 992) hx hb dL_law_988 (by decide) ?_
      refine lv_istore (lv' := [(5, .int 1), (13, .long (lI ((g (100 + q9) 7).toInt))), (12, .int 1), (11, .int (nI c9)), (10, .int (nI q9)), (9, .int (nI wh)), (8, .int (nI y)), (6, .int (nI k)), (4, .int (nI nK)), (3, .int (nI nT)), (2, .ref (ad 90)), (1, .ref (ad 60)), (0, .ref b)]) hx hb dL_law_992 hl (by decide) rfl (fun ls hl => ?_)
      refine lv_goto (tgt := 1280) hx hb dL_law_994 (by decide) ?_
      refine W.widen (k := 100 + 2000 * k + 100) (n := 4000 + 12000 * k + 1000) (by (try dsimp only); omega) (by (try dsimp only); omega) ?_
      exact hJ _ _ _ _ _ _ _ _ _ _ (by omega) ⟨hP, (ci_n (by omega) hI), h70, h71, hS, lv_sub hl [7, 0, 8, 9, 10, 11, 12] rfl⟩
set_option maxHeartbeats 8000000 in
set_option maxRecDepth 100000 in
theorem lc_G (hC : lCtx p l s m meth c b L xs Z) {k : Nat} (hk : k < 48) {nT nK cT cK : Nat} {ad : Nat → Nat} {g : sG} {q : sQ} {H : Heap} {locs : List Loc} {ls : Array Slot} {wh q9 c9 y : Nat} (hy : y < 2147483648) (hwh : wh = 11) (hT0 : 0 < nT) (hq9 : q9 < nT) (h : lSt Z s b k (k + 1) nT nK cT cK ad g q H locs ls [(11, .int (nI c9)), (10, .int (nI q9)), (9, .int (nI wh)), (8, .int (nI y))]) (hJ : ∀ (nT nK cT cK : Nat) (ad : Nat → Nat) (g : sG) (q : sQ) (H : Heap) (locs : List Loc) (ls : Array Slot), 0 < nT → lSt Z s b k (k + 2) nT nK cT cK ad g q H locs ls [] → W p l e room_1 s m #[Value.ref b] below meth c H locs (100 + 2000 * k + 100) (4000 + 12000 * k + 1000) (lw_Z below #[Value.ref b] s) (F0 m 1280 ls [])) : W p l e room_1 s m #[Value.ref b] below meth c H locs (100 + 2000 * k) (4000 + 12000 * k) (lw_Z below #[Value.ref b] s) (F0 m 133 ls []) := by
  obtain ⟨hx, hb, hr, hml, hown, hts, hX, hbl, hlocks, hZ, hE, hNc, hfl⟩ := hC
  obtain ⟨hP, hI, h70, h71, hS, hl⟩ := h
  have hT40 := ci_T hI
  have hK40 := ci_K hI
  refine lv_iload hx hb dL_law_133 (lv_at hl 2 rfl) ?_
  refine lv_iconst (v := 4) hx hb dL_law_135 (by decide) ?_
  refine lv_icmp_lt (tgt := 143) hx hb dL_law_136 (by decide) (fun c9 => absurd c9 (mt (nI_ltI (a := wh) (b := 4) (by omega) (by omega)).mp (by omega))) (fun _ => ?_)
  refine lv_iload_n hx hb dL_law_139 rfl (lv_at hl 7 rfl) ?_
  refine lv_if_ne (tgt := 377) hx hb dL_law_140 (by decide) (fun _ => ?_) (fun c9 => absurd c9 (mt (nI_eq (a := nT) (b := 0) (by omega) (by omega)).mp (by omega)))
  refine lv_iload hx hb dL_law_377 (lv_at hl 2 rfl) ?_
  refine lv_iconst (v := 4) hx hb dL_law_379 (by decide) ?_
  refine lv_icmp_ne (tgt := 506) hx hb dL_law_380 (by decide) (fun _ => ?_) (fun c9 => absurd c9 (mt (nI_eq (a := wh) (b := 4) (by omega) (by omega)).mp (by omega)))
  refine lv_iload hx hb dL_law_506 (lv_at hl 2 rfl) ?_
  refine lv_bipush (v := 8) hx hb dL_law_508 (by decide) ?_
  refine lv_icmp_ge (tgt := 539) hx hb dL_law_510 (by decide) (fun _ => ?_) (fun c9 => absurd ((nI_leI (a := 8) (b := wh) (by omega) (by omega)).mpr (by omega)) c9)
  refine lv_iload hx hb dL_law_539 (lv_at hl 2 rfl) ?_
  refine lv_bipush (v := 8) hx hb dL_law_541 (by decide) ?_
  refine lv_icmp_ne (tgt := 708) hx hb dL_law_543 (by decide) (fun _ => ?_) (fun c9 => absurd c9 (mt (nI_eq (a := wh) (b := 8) (by omega) (by omega)).mp (by omega)))
  refine lv_iload hx hb dL_law_708 (lv_at hl 2 rfl) ?_
  refine lv_bipush (v := 9) hx hb dL_law_710 (by decide) ?_
  refine lv_icmp_ne (tgt := 842) hx hb dL_law_712 (by decide) (fun _ => ?_) (fun c9 => absurd c9 (mt (nI_eq (a := wh) (b := 9) (by omega) (by omega)).mp (by omega)))
  refine lv_iload hx hb dL_law_842 (lv_at hl 2 rfl) ?_
  refine lv_bipush (v := 10) hx hb dL_law_844 (by decide) ?_
  refine lv_icmp_ne (tgt := 997) hx hb dL_law_846 (by decide) (fun _ => ?_) (fun c9 => absurd c9 (mt (nI_eq (a := wh) (b := 10) (by omega) (by omega)).mp (by omega)))
  refine lv_iload hx hb dL_law_997 (lv_at hl 2 rfl) ?_
  refine lv_bipush (v := 11) hx hb dL_law_999 (by decide) ?_
  refine lv_icmp_ne (tgt := 1082) hx hb dL_law_1001 (by decide) (fun c9 => absurd ((nI_eq (a := wh) (b := 11) (by omega) (by omega)).mpr (by omega)) c9) (fun _ => ?_)
  refine lv_aload_n hx hb dL_law_1004 rfl (lv_at hl 9 rfl) ?_
  refine lv_iload hx hb dL_law_1005 (lv_at hl 1 rfl) ?_
  refine lv_iload hx hb dL_law_1007 (lv_at hl 3 rfl) ?_
  refine lv_iconst (v := 3) hx hb dL_law_1009 (by decide) ?_
  refine lv_irem hx hb dL_law_1010 (by decide) ?_
  refine sy_top (y := nI (y % 3)) (nI_rem (a := y) (b := 3) (by omega) (by omega)) ?_
  refine sy_kl (vx_runSW (As := [.ref (ad 60), .int (nI q9), .int (nI (y % 3))]) (rest := []) ⟨hx, hb, hml, hown, hts⟩ (mL_transfer l hfl Z nT nK cT cK ad g q (nI q9) (nI (y % 3)) hI) (vx_cwSW 3 hts (gl_S uk_3_228 uk_3_229 uk_1_0 uk_3_230) rfl rfl rfl (by decide +kernel) ⟨Nat.le_of_ble_eq_true rfl, Nat.le_of_ble_eq_true rfl⟩) ⟨sPreL_blind _, fun U hU hW => ⟨rfl, ⟨hE.next hS hU hW.alike, by rw [hU]; exact hP⟩, hNc.next hW.alike⟩⟩ rfl rfl hl.1 rfl (lv_room (Nat.le_of_ble_eq_true rfl)) dL_law_1011 ⟨by show _ ≤ 600074; (try dsimp only); omega, by show _ ≤ 7301550; (try dsimp only); omega⟩) hS (fun r g1 q1 H locs e9 hP hS => ?_)
  rcases p_transfer hI hq9 (b := y % 3) (by omega) with hw | ⟨h1, hI2, s9, hs9, h2, h3⟩
  · skip
    obtain ⟨er, eg, eq⟩ := eq_n3 hw e9
    subst er; subst eg; subst eq
    refine lv_lstore (lv' := [(12, .long (lI (-9000000000000000003))), (11, .int (nI c9)), (10, .int (nI q9)), (9, .int (nI wh)), (8, .int (nI y)), (6, .int (nI k)), (5, .int 1), (4, .int (nI nK)), (3, .int (nI nT)), (2, .ref (ad 90)), (1, .ref (ad 60)), (0, .ref b)]) hx hb dL_law_1014 hl (by decide) rfl (fun ls hl => ?_)
    refine lv_lload hx hb dL_law_1016 (lv_at hl 0 rfl) ?_
    refine lv_ldc2 (v := lI (-9000000000000000003)) hx hb hown (hts _ (wsU_tbl uk_2_183)) dL_law_1018 ?_
    refine W.lcmp hx hb dL_law_1021 ?_
    refine lv_if_eq (tgt := 1046) hx hb dL_law_1022 (by decide) (fun _ => ?_) (fun c9 => absurd (c_eq (a := (-9000000000000000003)) (b := (-9000000000000000003)) (by omega)) c9)
    refine lv_iconst (v := 1) hx hb dL_law_1046 (by decide) ?_
    refine lv_goto (tgt := 1051) hx hb dL_law_1047 (by decide) ?_
    refine lv_istore (lv' := [(5, .int 1), (12, .long (lI (-9000000000000000003))), (11, .int (nI c9)), (10, .int (nI q9)), (9, .int (nI wh)), (8, .int (nI y)), (6, .int (nI k)), (4, .int (nI nK)), (3, .int (nI nT)), (2, .ref (ad 90)), (1, .ref (ad 60)), (0, .ref b)]) hx hb dL_law_1051 hl (by decide) rfl (fun ls hl => ?_)
    refine lv_iload hx hb dL_law_1053 (lv_at hl 0 rfl) ?_
    refine lv_if_eq (tgt := 1076) hx hb dL_law_1055 (by decide) (fun c9 => absurd c9 (by decide)) (fun _ => ?_)
    refine lv_aload_n hx hb dL_law_1058 rfl (lv_at hl 10 rfl) ?_
    refine lv_iload hx hb dL_law_1059 (lv_at hl 5 rfl) ?_
    refine lv_iconst (v := 3) hx hb dL_law_1061 (by decide) ?_
    refine lv_irem hx hb dL_law_1062 (by decide) ?_
    refine sy_top (y := nI (y % 3)) (nI_rem (a := y) (b := 3) (by omega) (by omega)) ?_
    refine sy_kl (vx_runSW (As := [.ref (ad 60), .int (nI (y % 3))]) (rest := []) ⟨hx, hb, hml, hown, hts⟩ (mL_wind l hfl Z nT nK cT cK ad g q (nI (y % 3)) hI) (vx_cwSW 2 hts (gl_S uk_3_235 uk_3_236 uk_1_0 uk_3_237) rfl rfl rfl (by decide +kernel) ⟨Nat.le_of_ble_eq_true rfl, Nat.le_of_ble_eq_true rfl⟩) ⟨sPreL_blind _, fun U hU hW => ⟨rfl, ⟨hE.next hS hU hW.alike, by rw [hU]; exact hP⟩, hNc.next hW.alike⟩⟩ rfl rfl hl.1 rfl (lv_room (Nat.le_of_ble_eq_true rfl)) dL_law_1063 ⟨by show _ ≤ 600074; (try dsimp only); omega, by show _ ≤ 7301550; (try dsimp only); omega⟩) hS (fun r g2 q2 H locs e9 hP hS => ?_)
    obtain ⟨n1, n2, hI3⟩ := p_wind hI (b := y % 3) (by omega)
    obtain ⟨zz, hzz⟩ : ∃ zz : Int, (fX6_wind g q (nI (y % 3))).2.1.toInt = zz := ⟨_, rfl⟩
    have bz : -2147483648 ≤ zz ∧ zz < 2147483648 := by rw [← hzz]; exact i32b _
    rw [hzz] at n2
    obtain ⟨er, eg, eq⟩ := eq_y (z := zz) n1 hzz e9
    subst er
    rw [eg, eq] at hI3
    have hI := hI3
    clear e9 eg eq
    refine lv_iload_n hx hb dL_law_1066 rfl (lv_at hl 8 rfl) ?_
    refine lv_i2l (v := lI ((nT : Nat) : Int)) hx hb dL_law_1067 (nI_L (by omega)) ?_
    refine W.lcmp hx hb dL_law_1068 ?_
    refine lv_if_gt (tgt := 1076) hx hb dL_law_1069 (by decide) (fun c9 => absurd c9 (c_le (a := zz) (b := ((nT : Nat) : Int)) (by omega) (by omega) (by omega))) (fun _ => ?_)
    refine lv_iconst (v := 1) hx hb dL_law_1072 (by decide) ?_
    refine lv_goto (tgt := 1077) hx hb dL_law_1073 (by decide) ?_
    refine lv_istore (lv' := [(5, .int 1), (12, .long (lI (-9000000000000000003))), (11, .int (nI c9)), (10, .int (nI q9)), (9, .int (nI wh)), (8, .int (nI y)), (6, .int (nI k)), (4, .int (nI nK)), (3, .int (nI nT)), (2, .ref (ad 90)), (1, .ref (ad 60)), (0, .ref b)]) hx hb dL_law_1077 hl (by decide) rfl (fun ls hl => ?_)
    refine lv_goto (tgt := 1280) hx hb dL_law_1079 (by decide) ?_
    refine W.widen (k := 100 + 2000 * k + 100) (n := 4000 + 12000 * k + 1000) (by (try dsimp only); omega) (by (try dsimp only); omega) ?_
    exact hJ _ _ _ _ _ _ _ _ _ _ (by omega) ⟨hP, (ci_n (by omega) hI), h70, h71, hS, lv_sub hl [6, 0, 7, 8, 9, 10, 11] rfl⟩
  · skip
    obtain ⟨er, eg, eq⟩ := eq_y (z := ((s9 : Nat) : Int)) h1 (by rw [h2]; exact nI_toInt (by omega)) e9
    subst er
    rw [eg, eq] at hI2
    rw [eg] at h3
    have hI := hI2
    clear e9
    refine lv_lstore (lv' := [(12, .long (lI ((s9 : Nat) : Int))), (11, .int (nI c9)), (10, .int (nI q9)), (9, .int (nI wh)), (8, .int (nI y)), (6, .int (nI k)), (5, .int 1), (4, .int (nI nK)), (3, .int (nI nT)), (2, .ref (ad 90)), (1, .ref (ad 60)), (0, .ref b)]) hx hb dL_law_1014 hl (by decide) rfl (fun ls hl => ?_)
    refine lv_lload hx hb dL_law_1016 (lv_at hl 0 rfl) ?_
    refine lv_ldc2 (v := lI (-9000000000000000003)) hx hb hown (hts _ (wsU_tbl uk_2_183)) dL_law_1018 ?_
    refine W.lcmp hx hb dL_law_1021 ?_
    refine lv_if_eq (tgt := 1046) hx hb dL_law_1022 (by decide) (fun c9 => absurd c9 (c_ne (a := ((s9 : Nat) : Int)) (b := (-9000000000000000003)) (by omega) (by omega) (by omega))) (fun _ => ?_)
    refine lv_aload_n hx hb dL_law_1025 rfl (lv_at hl 10 rfl) ?_
    refine lv_iload hx hb dL_law_1026 (lv_at hl 2 rfl) ?_
    refine lv_iconst (v := 4) hx hb dL_law_1028 (by decide) ?_
    refine sy_kl (vx_runSW (As := [.ref (ad 60), .int (nI q9), .int 4]) (rest := []) ⟨hx, hb, hml, hown, hts⟩ (mL_thingOf l hfl Z nT nK cT cK ad g1 q1 (nI q9) 4 hI) (vx_cwSW 3 hts (gl_S uk_4_46 uk_4_47 uk_1_0 uk_4_48) rfl rfl rfl (by decide +kernel) ⟨Nat.le_of_ble_eq_true rfl, Nat.le_of_ble_eq_true rfl⟩) ⟨sPreL_blind _, fun U hU hW => ⟨rfl, ⟨hE.next hS hU hW.alike, by rw [hU]; exact hP⟩, hNc.next hW.alike⟩⟩ rfl rfl hl.1 rfl (lv_room (Nat.le_of_ble_eq_true rfl)) dL_law_1029 ⟨by show _ ≤ 600074; (try dsimp only); omega, by show _ ≤ 7301550; (try dsimp only); omega⟩) hS (fun r gz qz H locs e9 hP hS => ?_)
    obtain ⟨er, eg, eq⟩ := eq_q (z := ((4 * (y % 3) + s9 : Nat) : Int)) (a_T hI hq9).2.2.1 (by rw [h3]; exact nI_toInt (by omega)) e9
    subst er; subst eg; subst eq
    refine lv_iconst (v := 4) hx hb dL_law_1032 (by decide) ?_
    refine lv_iload hx hb dL_law_1033 (lv_at hl 4 rfl) ?_
    refine lv_iconst (v := 3) hx hb dL_law_1035 (by decide) ?_
    refine lv_irem hx hb dL_law_1036 (by decide) ?_
    refine sy_top (y := nI (y % 3)) (nI_rem (a := y) (b := 3) (by omega) (by omega)) ?_
    refine lv_imul hx hb dL_law_1037 ?_
    refine sy_top (y := nI (4 * (y % 3))) (nI_mul 4 (y % 3)) ?_
    refine lv_i2l (v := lI (((4 * (y % 3)) : Nat) : Int)) hx hb dL_law_1038 (nI_L (by omega)) ?_
    refine lv_lload hx hb dL_law_1039 (lv_at hl 0 rfl) ?_
    refine lv_ladd hx hb dL_law_1041 ?_
    refine sy_topL (y := lI ((((4 * (y % 3)) : Nat) : Int) + ((s9 : Nat) : Int))) (lI_add _ _) ?_
    refine W.lcmp hx hb dL_law_1042 ?_
    refine lv_if_ne (tgt := 1050) hx hb dL_law_1043 (by decide) (fun c9 => absurd (c_eq (a := ((4 * (y % 3) + s9 : Nat) : Int)) (b := ((((4 * (y % 3)) : Nat) : Int) + ((s9 : Nat) : Int))) (by omega)) c9) (fun _ => ?_)
    refine lv_iconst (v := 1) hx hb dL_law_1046 (by decide) ?_
    refine lv_goto (tgt := 1051) hx hb dL_law_1047 (by decide) ?_
    refine lv_istore (lv' := [(5, .int 1), (12, .long (lI ((s9 : Nat) : Int))), (11, .int (nI c9)), (10, .int (nI q9)), (9, .int (nI wh)), (8, .int (nI y)), (6, .int (nI k)), (4, .int (nI nK)), (3, .int (nI nT)), (2, .ref (ad 90)), (1, .ref (ad 60)), (0, .ref b)]) hx hb dL_law_1051 hl (by decide) rfl (fun ls hl => ?_)
    refine lv_iload hx hb dL_law_1053 (lv_at hl 0 rfl) ?_
    refine lv_if_eq (tgt := 1076) hx hb dL_law_1055 (by decide) (fun c9 => absurd c9 (by decide)) (fun _ => ?_)
    refine lv_aload_n hx hb dL_law_1058 rfl (lv_at hl 10 rfl) ?_
    refine lv_iload hx hb dL_law_1059 (lv_at hl 5 rfl) ?_
    refine lv_iconst (v := 3) hx hb dL_law_1061 (by decide) ?_
    refine lv_irem hx hb dL_law_1062 (by decide) ?_
    refine sy_top (y := nI (y % 3)) (nI_rem (a := y) (b := 3) (by omega) (by omega)) ?_
    refine sy_kl (vx_runSW (As := [.ref (ad 60), .int (nI (y % 3))]) (rest := []) ⟨hx, hb, hml, hown, hts⟩ (mL_wind l hfl Z nT nK cT cK ad g1 q1 (nI (y % 3)) hI) (vx_cwSW 2 hts (gl_S uk_3_235 uk_3_236 uk_1_0 uk_3_237) rfl rfl rfl (by decide +kernel) ⟨Nat.le_of_ble_eq_true rfl, Nat.le_of_ble_eq_true rfl⟩) ⟨sPreL_blind _, fun U hU hW => ⟨rfl, ⟨hE.next hS hU hW.alike, by rw [hU]; exact hP⟩, hNc.next hW.alike⟩⟩ rfl rfl hl.1 rfl (lv_room (Nat.le_of_ble_eq_true rfl)) dL_law_1063 ⟨by show _ ≤ 600074; (try dsimp only); omega, by show _ ≤ 7301550; (try dsimp only); omega⟩) hS (fun r g2 q2 H locs e9 hP hS => ?_)
    obtain ⟨n1, n2, hI3⟩ := p_wind hI (b := y % 3) (by omega)
    obtain ⟨zz, hzz⟩ : ∃ zz : Int, (fX6_wind g1 q1 (nI (y % 3))).2.1.toInt = zz := ⟨_, rfl⟩
    have bz : -2147483648 ≤ zz ∧ zz < 2147483648 := by rw [← hzz]; exact i32b _
    rw [hzz] at n2
    obtain ⟨er, eg, eq⟩ := eq_y (z := zz) n1 hzz e9
    subst er
    rw [eg, eq] at hI3
    have hI := hI3
    clear e9 eg eq
    refine lv_iload_n hx hb dL_law_1066 rfl (lv_at hl 8 rfl) ?_
    refine lv_i2l (v := lI ((nT : Nat) : Int)) hx hb dL_law_1067 (nI_L (by omega)) ?_
    refine W.lcmp hx hb dL_law_1068 ?_
    refine lv_if_gt (tgt := 1076) hx hb dL_law_1069 (by decide) (fun c9 => absurd c9 (c_le (a := zz) (b := ((nT : Nat) : Int)) (by omega) (by omega) (by omega))) (fun _ => ?_)
    refine lv_iconst (v := 1) hx hb dL_law_1072 (by decide) ?_
    refine lv_goto (tgt := 1077) hx hb dL_law_1073 (by decide) ?_
    refine lv_istore (lv' := [(5, .int 1), (12, .long (lI ((s9 : Nat) : Int))), (11, .int (nI c9)), (10, .int (nI q9)), (9, .int (nI wh)), (8, .int (nI y)), (6, .int (nI k)), (4, .int (nI nK)), (3, .int (nI nT)), (2, .ref (ad 90)), (1, .ref (ad 60)), (0, .ref b)]) hx hb dL_law_1077 hl (by decide) rfl (fun ls hl => ?_)
    refine lv_goto (tgt := 1280) hx hb dL_law_1079 (by decide) ?_
    refine W.widen (k := 100 + 2000 * k + 100) (n := 4000 + 12000 * k + 1000) (by (try dsimp only); omega) (by (try dsimp only); omega) ?_
    exact hJ _ _ _ _ _ _ _ _ _ _ (by omega) ⟨hP, (ci_n (by omega) hI), h70, h71, hS, lv_sub hl [6, 0, 7, 8, 9, 10, 11] rfl⟩
set_option maxHeartbeats 8000000 in
set_option maxRecDepth 100000 in
theorem lc_H (hC : lCtx p l s m meth c b L xs Z) {k : Nat} (hk : k < 48) {nT nK cT cK : Nat} {ad : Nat → Nat} {g : sG} {q : sQ} {H : Heap} {locs : List Loc} {ls : Array Slot} {wh q9 c9 y : Nat} (hy : y < 2147483648) (hwh : (12 ≤ wh ∧ wh < 15) ∨ (5 ≤ wh ∧ wh < 9 ∧ nK = 0)) (hT0 : 0 < nT) (h : lSt Z s b k (k + 1) nT nK cT cK ad g q H locs ls [(11, .int (nI c9)), (10, .int (nI q9)), (9, .int (nI wh)), (8, .int (nI y))]) (hJ : ∀ (nT nK cT cK : Nat) (ad : Nat → Nat) (g : sG) (q : sQ) (H : Heap) (locs : List Loc) (ls : Array Slot), 0 < nT → lSt Z s b k (k + 2) nT nK cT cK ad g q H locs ls [] → W p l e room_1 s m #[Value.ref b] below meth c H locs (100 + 2000 * k + 100) (4000 + 12000 * k + 1000) (lw_Z below #[Value.ref b] s) (F0 m 1280 ls [])) : W p l e room_1 s m #[Value.ref b] below meth c H locs (100 + 2000 * k) (4000 + 12000 * k) (lw_Z below #[Value.ref b] s) (F0 m 133 ls []) := by
  obtain ⟨hx, hb, hr, hml, hown, hts, hX, hbl, hlocks, hZ, hE, hNc, hfl⟩ := hC
  obtain ⟨hP, hI, h70, h71, hS, hl⟩ := h
  have hT40 := ci_T hI
  have hK40 := ci_K hI
  obtain ⟨⟨d, hd5, hd, -⟩, -⟩ := hI.2.2.1
  have hM : W p l e room_1 s m #[Value.ref b] below meth c H locs (100 + 2000 * k) (4000 + 12000 * k) (lw_Z below #[Value.ref b] s) (F0 m 1089 ls []) := by
    refine lv_iconst (v := 1) hx hb dL_law_1089 (by decide) ?_
    refine lv_iload hx hb dL_law_1090 (lv_at hl 3 rfl) ?_
    refine lv_iload hx hb dL_law_1092 (lv_at hl 2 rfl) ?_
    refine lv_bipush (v := 12) hx hb dL_law_1094 (by decide) ?_
    by_cases h12 : wh = 12
    · skip
      refine lv_icmp_ne (tgt := 1105) hx hb dL_law_1096 (by decide) (fun c9 => absurd ((nI_eq (a := wh) (b := 12) (by omega) (by omega)).mpr (by omega)) c9) (fun _ => ?_)
      refine lv_sipush (v := 200) hx hb dL_law_1099 (by decide) ?_
      refine lv_goto (tgt := 1107) hx hb dL_law_1102 (by decide) ?_
      refine lv_irem hx hb dL_law_1107 (by decide) ?_
      refine sy_top (y := nI (y % 200)) (nI_rem (a := y) (b := 200) (by omega) (by omega)) ?_
      refine lv_iadd hx hb dL_law_1108 ?_
      refine sy_top (y := nI (1 + (y % 200))) (nI_add 1 (y % 200)) ?_
      refine lv_istore (lv' := [(12, .int (nI (1 + (y % 200)))), (11, .int (nI c9)), (10, .int (nI q9)), (9, .int (nI wh)), (8, .int (nI y)), (6, .int (nI k)), (5, .int 1), (4, .int (nI nK)), (3, .int (nI nT)), (2, .ref (ad 90)), (1, .ref (ad 60)), (0, .ref b)]) hx hb dL_law_1109 hl (by decide) rfl (fun ls hl => ?_)
      refine lv_aload_n hx hb dL_law_1111 rfl (lv_at hl 10 rfl) ?_
      refine sy_ki (sy_rV (o := 60) (As := []) (rest := []) ⟨hx, hb, hml, hown, hts⟩ hE hP hS (mX6_day l hfl Z nT nK cT cK ad g q (by have := ci_T hI; omega) (ci_IG hI) (ci_IQ hI)) (cwV 0 hts (gl_V uk_1_183 uk_1_184 uk_1_185 uk_1_1 uk_1_186) rfl rfl rfl (by decide +kernel) ⟨Nat.le_of_ble_eq_true rfl, Nat.le_of_ble_eq_true rfl⟩) (sy_recv (kc := 7) hE hP rfl (by decide) rfl rfl rfl) rfl hl.1 rfl (Nat.le_of_ble_eq_true rfl) dL_law_1112 ⟨by show _ ≤ 600074; (try dsimp only); omega, by show _ ≤ 7301550; (try dsimp only); omega⟩) hS (fun r gz qz H locs e9 hP hS => ?_)
      obtain ⟨er, eg, eq⟩ : nI d = r ∧ g = gz ∧ q = qz := by rw [show fX6_day g q = nI d from hd] at e9; cases e9; exact ⟨rfl, rfl, rfl⟩
      subst er; subst eg; subst eq
      refine lv_istore (lv' := [(13, .int (nI d)), (12, .int (nI (1 + (y % 200)))), (11, .int (nI c9)), (10, .int (nI q9)), (9, .int (nI wh)), (8, .int (nI y)), (6, .int (nI k)), (5, .int 1), (4, .int (nI nK)), (3, .int (nI nT)), (2, .ref (ad 90)), (1, .ref (ad 60)), (0, .ref b)]) hx hb dL_law_1115 hl (by decide) rfl (fun ls hl => ?_)
      refine lv_aload_n hx hb dL_law_1117 rfl (lv_at hl 11 rfl) ?_
      refine lv_iload hx hb dL_law_1118 (lv_at hl 1 rfl) ?_
      refine sy_kl (vx_runSW (As := [.ref (ad 60), .int (nI (1 + (y % 200)))]) (rest := []) ⟨hx, hb, hml, hown, hts⟩ (mL_pass l hfl Z nT nK cT cK ad g q (nI (1 + (y % 200))) hI) (vx_cwSW 2 hts (gl_S uk_4_2 uk_4_3 uk_1_0 uk_4_4) rfl rfl rfl (by decide +kernel) ⟨Nat.le_of_ble_eq_true rfl, Nat.le_of_ble_eq_true rfl⟩) ⟨sPreL_blind _, fun U hU hW => ⟨rfl, ⟨hE.next hS hU hW.alike, by rw [hU]; exact hP⟩, hNc.next hW.alike⟩⟩ rfl rfl hl.1 rfl (lv_room (Nat.le_of_ble_eq_true rfl)) dL_law_1120 ⟨by show _ ≤ 600074; (try dsimp only); omega, by show _ ≤ 7301550; (try dsimp only); omega⟩) hS (fun r g1 q1 H locs e9 hP hS => ?_)
      rcases p_pass hI (by omega) hd (k := (1 + (y % 200))) (by omega) hd5 with ⟨hlt, hw⟩ | ⟨hle, h1, h2, hI2⟩
      · skip
        obtain ⟨er, eg, eq⟩ := eq_n3 hw e9
        subst er; subst eg; subst eq
        refine lv_iload hx hb dL_law_1123 (lv_at hl 0 rfl) ?_
        refine lv_iload hx hb dL_law_1125 (lv_at hl 1 rfl) ?_
        refine lv_iadd hx hb dL_law_1127 ?_
        refine sy_top (y := nI (d + (1 + (y % 200)))) (nI_add d (1 + (y % 200))) ?_
        refine lv_sipush (v := 5000) hx hb dL_law_1128 (by decide) ?_
        refine lv_icmp_le (tgt := 1140) hx hb dL_law_1131 (by decide) (fun c9 => absurd c9 (mt (nI_leI (a := (d + (1 + (y % 200)))) (b := 5000) (by omega) (by omega)).mp (by omega))) (fun _ => ?_)
        refine lv_ldc2 (v := lI (-9000000000000000003)) hx hb hown (hts _ (wsU_tbl uk_2_183)) dL_law_1134 ?_
        refine lv_goto (tgt := 1146) hx hb dL_law_1137 (by decide) ?_
        refine W.lcmp hx hb dL_law_1146 ?_
        refine lv_if_ne (tgt := 1154) hx hb dL_law_1147 (by decide) (fun c9 => absurd (c_eq (a := (-9000000000000000003)) (b := (-9000000000000000003)) (by omega)) c9) (fun _ => ?_)
        refine lv_iconst (v := 1) hx hb dL_law_1150 (by decide) ?_
        refine lv_goto (tgt := 1155) hx hb dL_law_1151 (by decide) ?_
        refine lv_istore (lv' := [(5, .int 1), (13, .int (nI d)), (12, .int (nI (1 + (y % 200)))), (11, .int (nI c9)), (10, .int (nI q9)), (9, .int (nI wh)), (8, .int (nI y)), (6, .int (nI k)), (4, .int (nI nK)), (3, .int (nI nT)), (2, .ref (ad 90)), (1, .ref (ad 60)), (0, .ref b)]) hx hb dL_law_1155 hl (by decide) rfl (fun ls hl => ?_)
        refine lv_goto (tgt := 1280) hx hb dL_law_1157 (by decide) ?_
        refine W.widen (k := 100 + 2000 * k + 100) (n := 4000 + 12000 * k + 1000) (by (try dsimp only); omega) (by (try dsimp only); omega) ?_
        exact hJ _ _ _ _ _ _ _ _ _ _ (by omega) ⟨hP, (ci_n (by omega) hI), h70, h71, hS, lv_sub hl [7, 0, 8, 9, 10, 11, 12] rfl⟩
      · skip
        obtain ⟨er, eg, eq⟩ := eq_y (z := ((d + (1 + (y % 200)) : Nat) : Int)) h1 (by rw [h2]; exact nI_toInt (by omega)) e9
        subst er
        rw [eg, eq] at hI2
        have hI := hI2
        clear e9
        refine lv_iload hx hb dL_law_1123 (lv_at hl 0 rfl) ?_
        refine lv_iload hx hb dL_law_1125 (lv_at hl 1 rfl) ?_
        refine lv_iadd hx hb dL_law_1127 ?_
        refine sy_top (y := nI (d + (1 + (y % 200)))) (nI_add d (1 + (y % 200))) ?_
        refine lv_sipush (v := 5000) hx hb dL_law_1128 (by decide) ?_
        refine lv_icmp_le (tgt := 1140) hx hb dL_law_1131 (by decide) (fun _ => ?_) (fun c9 => absurd ((nI_leI (a := (d + (1 + (y % 200)))) (b := 5000) (by omega) (by omega)).mpr (by omega)) c9)
        refine lv_iload hx hb dL_law_1140 (lv_at hl 0 rfl) ?_
        refine lv_iload hx hb dL_law_1142 (lv_at hl 1 rfl) ?_
        refine lv_iadd hx hb dL_law_1144 ?_
        refine sy_top (y := nI (d + (1 + (y % 200)))) (nI_add d (1 + (y % 200))) ?_
        refine lv_i2l (v := lI (((d + (1 + (y % 200))) : Nat) : Int)) hx hb dL_law_1145 (nI_L (by omega)) ?_
        refine W.lcmp hx hb dL_law_1146 ?_
        refine lv_if_ne (tgt := 1154) hx hb dL_law_1147 (by decide) (fun c9 => absurd (c_eq (a := ((d + (1 + (y % 200)) : Nat) : Int)) (b := (((d + (1 + (y % 200))) : Nat) : Int)) (by omega)) c9) (fun _ => ?_)
        refine lv_iconst (v := 1) hx hb dL_law_1150 (by decide) ?_
        refine lv_goto (tgt := 1155) hx hb dL_law_1151 (by decide) ?_
        refine lv_istore (lv' := [(5, .int 1), (13, .int (nI d)), (12, .int (nI (1 + (y % 200)))), (11, .int (nI c9)), (10, .int (nI q9)), (9, .int (nI wh)), (8, .int (nI y)), (6, .int (nI k)), (4, .int (nI nK)), (3, .int (nI nT)), (2, .ref (ad 90)), (1, .ref (ad 60)), (0, .ref b)]) hx hb dL_law_1155 hl (by decide) rfl (fun ls hl => ?_)
        refine lv_goto (tgt := 1280) hx hb dL_law_1157 (by decide) ?_
        refine W.widen (k := 100 + 2000 * k + 100) (n := 4000 + 12000 * k + 1000) (by (try dsimp only); omega) (by (try dsimp only); omega) ?_
        exact hJ _ _ _ _ _ _ _ _ _ _ (by omega) ⟨hP, (ci_n (by omega) hI), h70, h71, hS, lv_sub hl [7, 0, 8, 9, 10, 11, 12] rfl⟩
    · skip
      refine lv_icmp_ne (tgt := 1105) hx hb dL_law_1096 (by decide) (fun _ => ?_) (fun c9 => absurd c9 (mt (nI_eq (a := wh) (b := 12) (by omega) (by omega)).mp (by omega)))
      refine lv_bipush (v := 20) hx hb dL_law_1105 (by decide) ?_
      refine lv_irem hx hb dL_law_1107 (by decide) ?_
      refine sy_top (y := nI (y % 20)) (nI_rem (a := y) (b := 20) (by omega) (by omega)) ?_
      refine lv_iadd hx hb dL_law_1108 ?_
      refine sy_top (y := nI (1 + (y % 20))) (nI_add 1 (y % 20)) ?_
      refine lv_istore (lv' := [(12, .int (nI (1 + (y % 20)))), (11, .int (nI c9)), (10, .int (nI q9)), (9, .int (nI wh)), (8, .int (nI y)), (6, .int (nI k)), (5, .int 1), (4, .int (nI nK)), (3, .int (nI nT)), (2, .ref (ad 90)), (1, .ref (ad 60)), (0, .ref b)]) hx hb dL_law_1109 hl (by decide) rfl (fun ls hl => ?_)
      refine lv_aload_n hx hb dL_law_1111 rfl (lv_at hl 10 rfl) ?_
      refine sy_ki (sy_rV (o := 60) (As := []) (rest := []) ⟨hx, hb, hml, hown, hts⟩ hE hP hS (mX6_day l hfl Z nT nK cT cK ad g q (by have := ci_T hI; omega) (ci_IG hI) (ci_IQ hI)) (cwV 0 hts (gl_V uk_1_183 uk_1_184 uk_1_185 uk_1_1 uk_1_186) rfl rfl rfl (by decide +kernel) ⟨Nat.le_of_ble_eq_true rfl, Nat.le_of_ble_eq_true rfl⟩) (sy_recv (kc := 7) hE hP rfl (by decide) rfl rfl rfl) rfl hl.1 rfl (Nat.le_of_ble_eq_true rfl) dL_law_1112 ⟨by show _ ≤ 600074; (try dsimp only); omega, by show _ ≤ 7301550; (try dsimp only); omega⟩) hS (fun r gz qz H locs e9 hP hS => ?_)
      obtain ⟨er, eg, eq⟩ : nI d = r ∧ g = gz ∧ q = qz := by rw [show fX6_day g q = nI d from hd] at e9; cases e9; exact ⟨rfl, rfl, rfl⟩
      subst er; subst eg; subst eq
      refine lv_istore (lv' := [(13, .int (nI d)), (12, .int (nI (1 + (y % 20)))), (11, .int (nI c9)), (10, .int (nI q9)), (9, .int (nI wh)), (8, .int (nI y)), (6, .int (nI k)), (5, .int 1), (4, .int (nI nK)), (3, .int (nI nT)), (2, .ref (ad 90)), (1, .ref (ad 60)), (0, .ref b)]) hx hb dL_law_1115 hl (by decide) rfl (fun ls hl => ?_)
      refine lv_aload_n hx hb dL_law_1117 rfl (lv_at hl 11 rfl) ?_
      refine lv_iload hx hb dL_law_1118 (lv_at hl 1 rfl) ?_
      refine sy_kl (vx_runSW (As := [.ref (ad 60), .int (nI (1 + (y % 20)))]) (rest := []) ⟨hx, hb, hml, hown, hts⟩ (mL_pass l hfl Z nT nK cT cK ad g q (nI (1 + (y % 20))) hI) (vx_cwSW 2 hts (gl_S uk_4_2 uk_4_3 uk_1_0 uk_4_4) rfl rfl rfl (by decide +kernel) ⟨Nat.le_of_ble_eq_true rfl, Nat.le_of_ble_eq_true rfl⟩) ⟨sPreL_blind _, fun U hU hW => ⟨rfl, ⟨hE.next hS hU hW.alike, by rw [hU]; exact hP⟩, hNc.next hW.alike⟩⟩ rfl rfl hl.1 rfl (lv_room (Nat.le_of_ble_eq_true rfl)) dL_law_1120 ⟨by show _ ≤ 600074; (try dsimp only); omega, by show _ ≤ 7301550; (try dsimp only); omega⟩) hS (fun r g1 q1 H locs e9 hP hS => ?_)
      rcases p_pass hI (by omega) hd (k := (1 + (y % 20))) (by omega) hd5 with ⟨hlt, hw⟩ | ⟨hle, h1, h2, hI2⟩
      · skip
        obtain ⟨er, eg, eq⟩ := eq_n3 hw e9
        subst er; subst eg; subst eq
        refine lv_iload hx hb dL_law_1123 (lv_at hl 0 rfl) ?_
        refine lv_iload hx hb dL_law_1125 (lv_at hl 1 rfl) ?_
        refine lv_iadd hx hb dL_law_1127 ?_
        refine sy_top (y := nI (d + (1 + (y % 20)))) (nI_add d (1 + (y % 20))) ?_
        refine lv_sipush (v := 5000) hx hb dL_law_1128 (by decide) ?_
        refine lv_icmp_le (tgt := 1140) hx hb dL_law_1131 (by decide) (fun c9 => absurd c9 (mt (nI_leI (a := (d + (1 + (y % 20)))) (b := 5000) (by omega) (by omega)).mp (by omega))) (fun _ => ?_)
        refine lv_ldc2 (v := lI (-9000000000000000003)) hx hb hown (hts _ (wsU_tbl uk_2_183)) dL_law_1134 ?_
        refine lv_goto (tgt := 1146) hx hb dL_law_1137 (by decide) ?_
        refine W.lcmp hx hb dL_law_1146 ?_
        refine lv_if_ne (tgt := 1154) hx hb dL_law_1147 (by decide) (fun c9 => absurd (c_eq (a := (-9000000000000000003)) (b := (-9000000000000000003)) (by omega)) c9) (fun _ => ?_)
        refine lv_iconst (v := 1) hx hb dL_law_1150 (by decide) ?_
        refine lv_goto (tgt := 1155) hx hb dL_law_1151 (by decide) ?_
        refine lv_istore (lv' := [(5, .int 1), (13, .int (nI d)), (12, .int (nI (1 + (y % 20)))), (11, .int (nI c9)), (10, .int (nI q9)), (9, .int (nI wh)), (8, .int (nI y)), (6, .int (nI k)), (4, .int (nI nK)), (3, .int (nI nT)), (2, .ref (ad 90)), (1, .ref (ad 60)), (0, .ref b)]) hx hb dL_law_1155 hl (by decide) rfl (fun ls hl => ?_)
        refine lv_goto (tgt := 1280) hx hb dL_law_1157 (by decide) ?_
        refine W.widen (k := 100 + 2000 * k + 100) (n := 4000 + 12000 * k + 1000) (by (try dsimp only); omega) (by (try dsimp only); omega) ?_
        exact hJ _ _ _ _ _ _ _ _ _ _ (by omega) ⟨hP, (ci_n (by omega) hI), h70, h71, hS, lv_sub hl [7, 0, 8, 9, 10, 11, 12] rfl⟩
      · skip
        obtain ⟨er, eg, eq⟩ := eq_y (z := ((d + (1 + (y % 20)) : Nat) : Int)) h1 (by rw [h2]; exact nI_toInt (by omega)) e9
        subst er
        rw [eg, eq] at hI2
        have hI := hI2
        clear e9
        refine lv_iload hx hb dL_law_1123 (lv_at hl 0 rfl) ?_
        refine lv_iload hx hb dL_law_1125 (lv_at hl 1 rfl) ?_
        refine lv_iadd hx hb dL_law_1127 ?_
        refine sy_top (y := nI (d + (1 + (y % 20)))) (nI_add d (1 + (y % 20))) ?_
        refine lv_sipush (v := 5000) hx hb dL_law_1128 (by decide) ?_
        refine lv_icmp_le (tgt := 1140) hx hb dL_law_1131 (by decide) (fun _ => ?_) (fun c9 => absurd ((nI_leI (a := (d + (1 + (y % 20)))) (b := 5000) (by omega) (by omega)).mpr (by omega)) c9)
        refine lv_iload hx hb dL_law_1140 (lv_at hl 0 rfl) ?_
        refine lv_iload hx hb dL_law_1142 (lv_at hl 1 rfl) ?_
        refine lv_iadd hx hb dL_law_1144 ?_
        refine sy_top (y := nI (d + (1 + (y % 20)))) (nI_add d (1 + (y % 20))) ?_
        refine lv_i2l (v := lI (((d + (1 + (y % 20))) : Nat) : Int)) hx hb dL_law_1145 (nI_L (by omega)) ?_
        refine W.lcmp hx hb dL_law_1146 ?_
        refine lv_if_ne (tgt := 1154) hx hb dL_law_1147 (by decide) (fun c9 => absurd (c_eq (a := ((d + (1 + (y % 20)) : Nat) : Int)) (b := (((d + (1 + (y % 20))) : Nat) : Int)) (by omega)) c9) (fun _ => ?_)
        refine lv_iconst (v := 1) hx hb dL_law_1150 (by decide) ?_
        refine lv_goto (tgt := 1155) hx hb dL_law_1151 (by decide) ?_
        refine lv_istore (lv' := [(5, .int 1), (13, .int (nI d)), (12, .int (nI (1 + (y % 20)))), (11, .int (nI c9)), (10, .int (nI q9)), (9, .int (nI wh)), (8, .int (nI y)), (6, .int (nI k)), (4, .int (nI nK)), (3, .int (nI nT)), (2, .ref (ad 90)), (1, .ref (ad 60)), (0, .ref b)]) hx hb dL_law_1155 hl (by decide) rfl (fun ls hl => ?_)
        refine lv_goto (tgt := 1280) hx hb dL_law_1157 (by decide) ?_
        refine W.widen (k := 100 + 2000 * k + 100) (n := 4000 + 12000 * k + 1000) (by (try dsimp only); omega) (by (try dsimp only); omega) ?_
        exact hJ _ _ _ _ _ _ _ _ _ _ (by omega) ⟨hP, (ci_n (by omega) hI), h70, h71, hS, lv_sub hl [7, 0, 8, 9, 10, 11, 12] rfl⟩
  rcases hwh with c1 | c1
  · skip
    refine lv_iload hx hb dL_law_133 (lv_at hl 2 rfl) ?_
    refine lv_iconst (v := 4) hx hb dL_law_135 (by decide) ?_
    refine lv_icmp_lt (tgt := 143) hx hb dL_law_136 (by decide) (fun c9 => absurd c9 (mt (nI_ltI (a := wh) (b := 4) (by omega) (by omega)).mp (by omega))) (fun _ => ?_)
    refine lv_iload_n hx hb dL_law_139 rfl (lv_at hl 7 rfl) ?_
    refine lv_if_ne (tgt := 377) hx hb dL_law_140 (by decide) (fun _ => ?_) (fun c9 => absurd c9 (mt (nI_eq (a := nT) (b := 0) (by omega) (by omega)).mp (by omega)))
    refine lv_iload hx hb dL_law_377 (lv_at hl 2 rfl) ?_
    refine lv_iconst (v := 4) hx hb dL_law_379 (by decide) ?_
    refine lv_icmp_ne (tgt := 506) hx hb dL_law_380 (by decide) (fun _ => ?_) (fun c9 => absurd c9 (mt (nI_eq (a := wh) (b := 4) (by omega) (by omega)).mp (by omega)))
    refine lv_iload hx hb dL_law_506 (lv_at hl 2 rfl) ?_
    refine lv_bipush (v := 8) hx hb dL_law_508 (by decide) ?_
    refine lv_icmp_ge (tgt := 539) hx hb dL_law_510 (by decide) (fun _ => ?_) (fun c9 => absurd ((nI_leI (a := 8) (b := wh) (by omega) (by omega)).mpr (by omega)) c9)
    refine lv_iload hx hb dL_law_539 (lv_at hl 2 rfl) ?_
    refine lv_bipush (v := 8) hx hb dL_law_541 (by decide) ?_
    refine lv_icmp_ne (tgt := 708) hx hb dL_law_543 (by decide) (fun _ => ?_) (fun c9 => absurd c9 (mt (nI_eq (a := wh) (b := 8) (by omega) (by omega)).mp (by omega)))
    refine lv_iload hx hb dL_law_708 (lv_at hl 2 rfl) ?_
    refine lv_bipush (v := 9) hx hb dL_law_710 (by decide) ?_
    refine lv_icmp_ne (tgt := 842) hx hb dL_law_712 (by decide) (fun _ => ?_) (fun c9 => absurd c9 (mt (nI_eq (a := wh) (b := 9) (by omega) (by omega)).mp (by omega)))
    refine lv_iload hx hb dL_law_842 (lv_at hl 2 rfl) ?_
    refine lv_bipush (v := 10) hx hb dL_law_844 (by decide) ?_
    refine lv_icmp_ne (tgt := 997) hx hb dL_law_846 (by decide) (fun _ => ?_) (fun c9 => absurd c9 (mt (nI_eq (a := wh) (b := 10) (by omega) (by omega)).mp (by omega)))
    refine lv_iload hx hb dL_law_997 (lv_at hl 2 rfl) ?_
    refine lv_bipush (v := 11) hx hb dL_law_999 (by decide) ?_
    refine lv_icmp_ne (tgt := 1082) hx hb dL_law_1001 (by decide) (fun _ => ?_) (fun c9 => absurd c9 (mt (nI_eq (a := wh) (b := 11) (by omega) (by omega)).mp (by omega)))
    refine lv_iload hx hb dL_law_1082 (lv_at hl 2 rfl) ?_
    refine lv_bipush (v := 15) hx hb dL_law_1084 (by decide) ?_
    refine lv_icmp_ge (tgt := 1160) hx hb dL_law_1086 (by decide) (fun c9 => absurd c9 (mt (nI_leI (a := 15) (b := wh) (by omega) (by omega)).mp (by omega))) (fun _ => ?_)
    exact hM
  · skip
    by_cases h8 : wh = 8
    · skip
      refine lv_iload hx hb dL_law_133 (lv_at hl 2 rfl) ?_
      refine lv_iconst (v := 4) hx hb dL_law_135 (by decide) ?_
      refine lv_icmp_lt (tgt := 143) hx hb dL_law_136 (by decide) (fun c9 => absurd c9 (mt (nI_ltI (a := wh) (b := 4) (by omega) (by omega)).mp (by omega))) (fun _ => ?_)
      refine lv_iload_n hx hb dL_law_139 rfl (lv_at hl 7 rfl) ?_
      refine lv_if_ne (tgt := 377) hx hb dL_law_140 (by decide) (fun _ => ?_) (fun c9 => absurd c9 (mt (nI_eq (a := nT) (b := 0) (by omega) (by omega)).mp (by omega)))
      refine lv_iload hx hb dL_law_377 (lv_at hl 2 rfl) ?_
      refine lv_iconst (v := 4) hx hb dL_law_379 (by decide) ?_
      refine lv_icmp_ne (tgt := 506) hx hb dL_law_380 (by decide) (fun _ => ?_) (fun c9 => absurd c9 (mt (nI_eq (a := wh) (b := 4) (by omega) (by omega)).mp (by omega)))
      refine lv_iload hx hb dL_law_506 (lv_at hl 2 rfl) ?_
      refine lv_bipush (v := 8) hx hb dL_law_508 (by decide) ?_
      refine lv_icmp_ge (tgt := 539) hx hb dL_law_510 (by decide) (fun _ => ?_) (fun c9 => absurd ((nI_leI (a := 8) (b := wh) (by omega) (by omega)).mpr (by omega)) c9)
      refine lv_iload hx hb dL_law_539 (lv_at hl 2 rfl) ?_
      refine lv_bipush (v := 8) hx hb dL_law_541 (by decide) ?_
      refine lv_icmp_ne (tgt := 708) hx hb dL_law_543 (by decide) (fun c9 => absurd ((nI_eq (a := wh) (b := 8) (by omega) (by omega)).mpr (by omega)) c9) (fun _ => ?_)
      refine lv_iload hx hb dL_law_546 (lv_at hl 6 rfl) ?_
      refine lv_if_le (tgt := 708) hx hb dL_law_548 (by decide) (fun _ => ?_) (fun c9 => absurd ((nI_leI (a := nK) (b := 0) (by omega) (by omega)).mpr (by omega)) c9)
      refine lv_iload hx hb dL_law_708 (lv_at hl 2 rfl) ?_
      refine lv_bipush (v := 9) hx hb dL_law_710 (by decide) ?_
      refine lv_icmp_ne (tgt := 842) hx hb dL_law_712 (by decide) (fun _ => ?_) (fun c9 => absurd c9 (mt (nI_eq (a := wh) (b := 9) (by omega) (by omega)).mp (by omega)))
      refine lv_iload hx hb dL_law_842 (lv_at hl 2 rfl) ?_
      refine lv_bipush (v := 10) hx hb dL_law_844 (by decide) ?_
      refine lv_icmp_ne (tgt := 997) hx hb dL_law_846 (by decide) (fun _ => ?_) (fun c9 => absurd c9 (mt (nI_eq (a := wh) (b := 10) (by omega) (by omega)).mp (by omega)))
      refine lv_iload hx hb dL_law_997 (lv_at hl 2 rfl) ?_
      refine lv_bipush (v := 11) hx hb dL_law_999 (by decide) ?_
      refine lv_icmp_ne (tgt := 1082) hx hb dL_law_1001 (by decide) (fun _ => ?_) (fun c9 => absurd c9 (mt (nI_eq (a := wh) (b := 11) (by omega) (by omega)).mp (by omega)))
      refine lv_iload hx hb dL_law_1082 (lv_at hl 2 rfl) ?_
      refine lv_bipush (v := 15) hx hb dL_law_1084 (by decide) ?_
      refine lv_icmp_ge (tgt := 1160) hx hb dL_law_1086 (by decide) (fun c9 => absurd c9 (mt (nI_leI (a := 15) (b := wh) (by omega) (by omega)).mp (by omega))) (fun _ => ?_)
      exact hM
    · skip
      refine lv_iload hx hb dL_law_133 (lv_at hl 2 rfl) ?_
      refine lv_iconst (v := 4) hx hb dL_law_135 (by decide) ?_
      refine lv_icmp_lt (tgt := 143) hx hb dL_law_136 (by decide) (fun c9 => absurd c9 (mt (nI_ltI (a := wh) (b := 4) (by omega) (by omega)).mp (by omega))) (fun _ => ?_)
      refine lv_iload_n hx hb dL_law_139 rfl (lv_at hl 7 rfl) ?_
      refine lv_if_ne (tgt := 377) hx hb dL_law_140 (by decide) (fun _ => ?_) (fun c9 => absurd c9 (mt (nI_eq (a := nT) (b := 0) (by omega) (by omega)).mp (by omega)))
      refine lv_iload hx hb dL_law_377 (lv_at hl 2 rfl) ?_
      refine lv_iconst (v := 4) hx hb dL_law_379 (by decide) ?_
      refine lv_icmp_ne (tgt := 506) hx hb dL_law_380 (by decide) (fun _ => ?_) (fun c9 => absurd c9 (mt (nI_eq (a := wh) (b := 4) (by omega) (by omega)).mp (by omega)))
      refine lv_iload hx hb dL_law_506 (lv_at hl 2 rfl) ?_
      refine lv_bipush (v := 8) hx hb dL_law_508 (by decide) ?_
      refine lv_icmp_ge (tgt := 539) hx hb dL_law_510 (by decide) (fun c9 => absurd c9 (mt (nI_leI (a := 8) (b := wh) (by omega) (by omega)).mp (by omega))) (fun _ => ?_)
      refine lv_iload hx hb dL_law_513 (lv_at hl 6 rfl) ?_
      refine lv_if_le (tgt := 539) hx hb dL_law_515 (by decide) (fun _ => ?_) (fun c9 => absurd ((nI_leI (a := nK) (b := 0) (by omega) (by omega)).mpr (by omega)) c9)
      refine lv_iload hx hb dL_law_539 (lv_at hl 2 rfl) ?_
      refine lv_bipush (v := 8) hx hb dL_law_541 (by decide) ?_
      refine lv_icmp_ne (tgt := 708) hx hb dL_law_543 (by decide) (fun _ => ?_) (fun c9 => absurd c9 (mt (nI_eq (a := wh) (b := 8) (by omega) (by omega)).mp (by omega)))
      refine lv_iload hx hb dL_law_708 (lv_at hl 2 rfl) ?_
      refine lv_bipush (v := 9) hx hb dL_law_710 (by decide) ?_
      refine lv_icmp_ne (tgt := 842) hx hb dL_law_712 (by decide) (fun _ => ?_) (fun c9 => absurd c9 (mt (nI_eq (a := wh) (b := 9) (by omega) (by omega)).mp (by omega)))
      refine lv_iload hx hb dL_law_842 (lv_at hl 2 rfl) ?_
      refine lv_bipush (v := 10) hx hb dL_law_844 (by decide) ?_
      refine lv_icmp_ne (tgt := 997) hx hb dL_law_846 (by decide) (fun _ => ?_) (fun c9 => absurd c9 (mt (nI_eq (a := wh) (b := 10) (by omega) (by omega)).mp (by omega)))
      refine lv_iload hx hb dL_law_997 (lv_at hl 2 rfl) ?_
      refine lv_bipush (v := 11) hx hb dL_law_999 (by decide) ?_
      refine lv_icmp_ne (tgt := 1082) hx hb dL_law_1001 (by decide) (fun _ => ?_) (fun c9 => absurd c9 (mt (nI_eq (a := wh) (b := 11) (by omega) (by omega)).mp (by omega)))
      refine lv_iload hx hb dL_law_1082 (lv_at hl 2 rfl) ?_
      refine lv_bipush (v := 15) hx hb dL_law_1084 (by decide) ?_
      refine lv_icmp_ge (tgt := 1160) hx hb dL_law_1086 (by decide) (fun c9 => absurd c9 (mt (nI_leI (a := 15) (b := wh) (by omega) (by omega)).mp (by omega))) (fun _ => ?_)
      exact hM
set_option maxHeartbeats 8000000 in
set_option maxRecDepth 100000 in
theorem lc_I2 (hC : lCtx p l s m meth c b L xs Z) {k : Nat} (hk : k < 48) {nT nK cT cK : Nat} {ad : Nat → Nat} {g : sG} {q : sQ} {H : Heap} {locs : List Loc} {ls : Array Slot} {y : Nat} (hy : y < 2147483648) (hT0 : 0 < nT) {zz : Int} (hz : -9000000000000000003 ≤ zz ∧ zz < 2147483648) (h : lSt Z s b k (k + 1) nT nK cT cK ad g q H locs ls [(8, .int (nI y))]) (hJ : ∀ (nT nK cT cK : Nat) (ad : Nat → Nat) (g : sG) (q : sQ) (H : Heap) (locs : List Loc) (ls : Array Slot), 0 < nT → lSt Z s b k (k + 2) nT nK cT cK ad g q H locs ls [] → W p l e room_1 s m #[Value.ref b] below meth c H locs (100 + 2000 * k + 100) (4000 + 12000 * k + 1000) (lw_Z below #[Value.ref b] s) (F0 m 1280 ls [])) : W p l e room_1 s m #[Value.ref b] below meth c H locs (100 + 2000 * k + 10) (4000 + 12000 * k + 100) (lw_Z below #[Value.ref b] s) (F0 m 1244 ls [.long (lI zz)]) := by
  obtain ⟨hx, hb, hr, hml, hown, hts, hX, hbl, hlocks, hZ, hE, hNc, hfl⟩ := hC
  obtain ⟨hP, hI, h70, h71, hS, hl⟩ := h
  have hT40 := ci_T hI
  have hK40 := ci_K hI
  refine lv_ldc2 (v := lI (-9000000000000000003)) hx hb hown (hts _ (wsU_tbl uk_2_183)) dL_law_1244 ?_
  refine W.lcmp hx hb dL_law_1247 ?_
  refine lv_if_lt (tgt := 1277) hx hb dL_law_1248 (by decide) (fun c9 => absurd c9 (c_ge (a := zz) (b := (-9000000000000000003)) (by omega) (by omega) (by omega))) (fun _ => ?_)
  refine lv_aload_n hx hb dL_law_1251 rfl (lv_at hl 6 rfl) ?_
  refine lv_bipush (v := 14) hx hb dL_law_1252 (by decide) ?_
  refine lv_iload hx hb dL_law_1254 (lv_at hl 0 rfl) ?_
  refine lv_bipush (v := 8) hx hb dL_law_1256 (by decide) ?_
  refine lv_idiv hx hb dL_law_1258 (by decide) ?_
  refine sy_top (y := nI (y / 8)) (nI_div (a := y) (b := 8) (by omega) (by omega)) ?_
  refine lv_bipush (v := 100) hx hb dL_law_1259 (by decide) ?_
  refine lv_irem hx hb dL_law_1261 (by decide) ?_
  refine sy_top (y := nI ((y / 8) % 100)) (nI_rem (a := (y / 8)) (b := 100) (by omega) (by omega)) ?_
  refine lv_iadd hx hb dL_law_1262 ?_
  refine sy_top (y := nI (14 + ((y / 8) % 100))) (nI_add 14 ((y / 8) % 100)) ?_
  refine sy_kl (vx_runSW (As := [.ref (ad 60), .int (nI (14 + ((y / 8) % 100)))]) (rest := []) ⟨hx, hb, hml, hown, hts⟩ (mL_term l hfl Z nT nK cT cK ad g q (nI (14 + ((y / 8) % 100))) hI) (vx_cwSW 2 hts (gl_S uk_2_222 uk_2_223 uk_1_0 uk_2_224) rfl rfl rfl (by decide +kernel) ⟨Nat.le_of_ble_eq_true rfl, Nat.le_of_ble_eq_true rfl⟩) ⟨sPreL_blind _, fun U hU hW => ⟨rfl, ⟨hE.next hS hU hW.alike, by rw [hU]; exact hP⟩, hNc.next hW.alike⟩⟩ rfl rfl hl.1 rfl (lv_room (Nat.le_of_ble_eq_true rfl)) dL_law_1263 ⟨by show _ ≤ 600074; (try dsimp only); omega, by show _ ≤ 7301550; (try dsimp only); omega⟩) hS (fun r g1 q1 H locs e9 hP hS => ?_)
  obtain ⟨h1, h2, hI2⟩ := p_term hI (d := 14 + ((y / 8) % 100)) (by omega)
  obtain ⟨z2, hz2⟩ : ∃ z2 : Int, (fX6_term g q (nI (14 + ((y / 8) % 100)))).2.1.toInt = z2 := ⟨_, rfl⟩
  have bz : -2147483648 ≤ z2 ∧ z2 < 2147483648 := by rw [← hz2]; exact i32b _
  rw [hz2] at h2
  obtain ⟨er, eg, eq⟩ := eq_y (z := z2) h1 hz2 e9
  subst er
  rw [eg, eq] at hI2
  have hI := hI2
  clear e9
  refine lv_ldc2 (v := lI (14)) hx hb hown (hts _ (wsU_tbl uk_4_213)) dL_law_1266 ?_
  refine W.lcmp hx hb dL_law_1269 ?_
  refine lv_if_lt (tgt := 1277) hx hb dL_law_1270 (by decide) (fun c9 => absurd c9 (c_ge (a := z2) (b := (14)) (by omega) (by omega) (by omega))) (fun _ => ?_)
  refine lv_iconst (v := 1) hx hb dL_law_1273 (by decide) ?_
  refine lv_goto (tgt := 1278) hx hb dL_law_1274 (by decide) ?_
  refine lv_istore (lv' := [(5, .int 1), (8, .int (nI y)), (6, .int (nI k)), (4, .int (nI nK)), (3, .int (nI nT)), (2, .ref (ad 90)), (1, .ref (ad 60)), (0, .ref b)]) hx hb dL_law_1278 hl (by decide) rfl (fun ls hl => ?_)
  refine W.widen (k := 100 + 2000 * k + 100) (n := 4000 + 12000 * k + 1000) (by (try dsimp only); omega) (by (try dsimp only); omega) ?_
  exact hJ _ _ _ _ _ _ _ _ _ _ (by omega) ⟨hP, (ci_n (by omega) hI), h70, h71, hS, lv_sub hl [2, 0, 3, 4, 5, 6, 7] rfl⟩
set_option maxHeartbeats 8000000 in
set_option maxRecDepth 100000 in
theorem lc_I (hC : lCtx p l s m meth c b L xs Z) {k : Nat} (hk : k < 48) {nT nK cT cK : Nat} {ad : Nat → Nat} {g : sG} {q : sQ} {H : Heap} {locs : List Loc} {ls : Array Slot} {wh q9 c9 y : Nat} (hy : y < 2147483648) (hwh : wh = 15) (hT0 : 0 < nT) (h : lSt Z s b k (k + 1) nT nK cT cK ad g q H locs ls [(11, .int (nI c9)), (10, .int (nI q9)), (9, .int (nI wh)), (8, .int (nI y))]) (hJ : ∀ (nT nK cT cK : Nat) (ad : Nat → Nat) (g : sG) (q : sQ) (H : Heap) (locs : List Loc) (ls : Array Slot), 0 < nT → lSt Z s b k (k + 2) nT nK cT cK ad g q H locs ls [] → W p l e room_1 s m #[Value.ref b] below meth c H locs (100 + 2000 * k + 100) (4000 + 12000 * k + 1000) (lw_Z below #[Value.ref b] s) (F0 m 1280 ls [])) : W p l e room_1 s m #[Value.ref b] below meth c H locs (100 + 2000 * k) (4000 + 12000 * k) (lw_Z below #[Value.ref b] s) (F0 m 133 ls []) := by
  obtain ⟨hx, hb, hr, hml, hown, hts, hX, hbl, hlocks, hZ, hE, hNc, hfl⟩ := hC
  obtain ⟨hP, hI, h70, h71, hS, hl⟩ := h
  have hT40 := ci_T hI
  have hK40 := ci_K hI
  have hC0 : lCtx p l s m meth c b L xs Z := ⟨hx, hb, hr, hml, hown, hts, hX, hbl, hlocks, hZ, hE, hNc, hfl⟩
  refine lv_iload hx hb dL_law_133 (lv_at hl 2 rfl) ?_
  refine lv_iconst (v := 4) hx hb dL_law_135 (by decide) ?_
  refine lv_icmp_lt (tgt := 143) hx hb dL_law_136 (by decide) (fun c9 => absurd c9 (mt (nI_ltI (a := wh) (b := 4) (by omega) (by omega)).mp (by omega))) (fun _ => ?_)
  refine lv_iload_n hx hb dL_law_139 rfl (lv_at hl 7 rfl) ?_
  refine lv_if_ne (tgt := 377) hx hb dL_law_140 (by decide) (fun _ => ?_) (fun c9 => absurd c9 (mt (nI_eq (a := nT) (b := 0) (by omega) (by omega)).mp (by omega)))
  refine lv_iload hx hb dL_law_377 (lv_at hl 2 rfl) ?_
  refine lv_iconst (v := 4) hx hb dL_law_379 (by decide) ?_
  refine lv_icmp_ne (tgt := 506) hx hb dL_law_380 (by decide) (fun _ => ?_) (fun c9 => absurd c9 (mt (nI_eq (a := wh) (b := 4) (by omega) (by omega)).mp (by omega)))
  refine lv_iload hx hb dL_law_506 (lv_at hl 2 rfl) ?_
  refine lv_bipush (v := 8) hx hb dL_law_508 (by decide) ?_
  refine lv_icmp_ge (tgt := 539) hx hb dL_law_510 (by decide) (fun _ => ?_) (fun c9 => absurd ((nI_leI (a := 8) (b := wh) (by omega) (by omega)).mpr (by omega)) c9)
  refine lv_iload hx hb dL_law_539 (lv_at hl 2 rfl) ?_
  refine lv_bipush (v := 8) hx hb dL_law_541 (by decide) ?_
  refine lv_icmp_ne (tgt := 708) hx hb dL_law_543 (by decide) (fun _ => ?_) (fun c9 => absurd c9 (mt (nI_eq (a := wh) (b := 8) (by omega) (by omega)).mp (by omega)))
  refine lv_iload hx hb dL_law_708 (lv_at hl 2 rfl) ?_
  refine lv_bipush (v := 9) hx hb dL_law_710 (by decide) ?_
  refine lv_icmp_ne (tgt := 842) hx hb dL_law_712 (by decide) (fun _ => ?_) (fun c9 => absurd c9 (mt (nI_eq (a := wh) (b := 9) (by omega) (by omega)).mp (by omega)))
  refine lv_iload hx hb dL_law_842 (lv_at hl 2 rfl) ?_
  refine lv_bipush (v := 10) hx hb dL_law_844 (by decide) ?_
  refine lv_icmp_ne (tgt := 997) hx hb dL_law_846 (by decide) (fun _ => ?_) (fun c9 => absurd c9 (mt (nI_eq (a := wh) (b := 10) (by omega) (by omega)).mp (by omega)))
  refine lv_iload hx hb dL_law_997 (lv_at hl 2 rfl) ?_
  refine lv_bipush (v := 11) hx hb dL_law_999 (by decide) ?_
  refine lv_icmp_ne (tgt := 1082) hx hb dL_law_1001 (by decide) (fun _ => ?_) (fun c9 => absurd c9 (mt (nI_eq (a := wh) (b := 11) (by omega) (by omega)).mp (by omega)))
  refine lv_iload hx hb dL_law_1082 (lv_at hl 2 rfl) ?_
  refine lv_bipush (v := 15) hx hb dL_law_1084 (by decide) ?_
  refine lv_icmp_ge (tgt := 1160) hx hb dL_law_1086 (by decide) (fun _ => ?_) (fun c9 => absurd ((nI_leI (a := 15) (b := wh) (by omega) (by omega)).mpr (by omega)) c9)
  refine lv_iload hx hb dL_law_1160 (lv_at hl 3 rfl) ?_
  refine lv_iconst (v := 3) hx hb dL_law_1162 (by decide) ?_
  refine lv_irem hx hb dL_law_1163 (by decide) ?_
  refine sy_top (y := nI (y % 3)) (nI_rem (a := y) (b := 3) (by omega) (by omega)) ?_
  rcases (show y % 3 = 0 ∨ y % 3 = 1 ∨ y % 3 = 2 by omega) with h3 | h3 | h3
  · skip
    refine lv_if_ne (tgt := 1188) hx hb dL_law_1164 (by decide) (fun c9 => absurd ((nI_eq (a := (y % 3)) (b := 0) (by omega) (by omega)).mpr (by omega)) c9) (fun _ => ?_)
    refine lv_aload_n hx hb dL_law_1167 rfl (lv_at hl 9 rfl) ?_
    refine lv_iload hx hb dL_law_1168 (lv_at hl 3 rfl) ?_
    refine lv_iconst (v := 4) hx hb dL_law_1170 (by decide) ?_
    refine lv_idiv hx hb dL_law_1171 (by decide) ?_
    refine sy_top (y := nI (y / 4)) (nI_div (a := y) (b := 4) (by omega) (by omega)) ?_
    refine lv_iconst (v := 3) hx hb dL_law_1172 (by decide) ?_
    refine lv_irem hx hb dL_law_1173 (by decide) ?_
    refine sy_top (y := nI ((y / 4) % 3)) (nI_rem (a := (y / 4)) (b := 3) (by omega) (by omega)) ?_
    refine lv_iload hx hb dL_law_1174 (lv_at hl 3 rfl) ?_
    refine lv_bipush (v := 16) hx hb dL_law_1176 (by decide) ?_
    refine lv_idiv hx hb dL_law_1178 (by decide) ?_
    refine sy_top (y := nI (y / 16)) (nI_div (a := y) (b := 16) (by omega) (by omega)) ?_
    refine lv_bipush (v := 101) hx hb dL_law_1179 (by decide) ?_
    refine lv_irem hx hb dL_law_1181 (by decide) ?_
    refine sy_top (y := nI ((y / 16) % 101)) (nI_rem (a := (y / 16)) (b := 101) (by omega) (by omega)) ?_
    refine sy_kl (vx_runSW (As := [.ref (ad 60), .int (nI ((y / 4) % 3)), .int (nI ((y / 16) % 101))]) (rest := []) ⟨hx, hb, hml, hown, hts⟩ (mL_rate l hfl Z nT nK cT cK ad g q (nI ((y / 4) % 3)) (nI ((y / 16) % 101)) hI) (vx_cwSW 3 hts (gl_S uk_2_199 uk_2_200 uk_1_0 uk_2_201) rfl rfl rfl (by decide +kernel) ⟨Nat.le_of_ble_eq_true rfl, Nat.le_of_ble_eq_true rfl⟩) ⟨sPreL_blind _, fun U hU hW => ⟨rfl, ⟨hE.next hS hU hW.alike, by rw [hU]; exact hP⟩, hNc.next hW.alike⟩⟩ rfl rfl hl.1 rfl (lv_room (Nat.le_of_ble_eq_true rfl)) dL_law_1182 ⟨by show _ ≤ 600074; (try dsimp only); omega, by show _ ≤ 7301550; (try dsimp only); omega⟩) hS (fun r g1 q1 H locs e9 hP hS => ?_)
    rcases p_rate hI (z := y / 4 % 3) (h := y / 16 % 101) (by omega) (by omega) with hw | ⟨h1, hI2⟩
    · skip
      obtain ⟨er, eg, eq⟩ := eq_n3 hw e9
      subst er; subst eg; subst eq
      refine lv_goto (tgt := 1244) hx hb dL_law_1185 (by decide) ?_
      refine W.widen (k := 100 + 2000 * k + 10) (n := 4000 + 12000 * k + 100) (by (try dsimp only); omega) (by (try dsimp only); omega) ?_
      exact lc_I2 hC0 hk hy hT0 (by omega) ⟨hP, hI, h70, h71, hS, lv_sub hl [3, 4, 5, 6, 7, 8, 9, 10] rfl⟩ hJ
    · skip
      obtain ⟨zz, hzz⟩ : ∃ zz : Int, (fX6_rate g q (nI (y / 4 % 3)) (nI (y / 16 % 101))).2.1.toInt = zz := ⟨_, rfl⟩
      have bz : -2147483648 ≤ zz ∧ zz < 2147483648 := by rw [← hzz]; exact i32b _
      obtain ⟨er, eg, eq⟩ := eq_y (z := zz) h1 hzz e9
      subst er
      rw [eg, eq] at hI2
      have hI := hI2
      clear e9
      refine lv_goto (tgt := 1244) hx hb dL_law_1185 (by decide) ?_
      refine W.widen (k := 100 + 2000 * k + 10) (n := 4000 + 12000 * k + 100) (by (try dsimp only); omega) (by (try dsimp only); omega) ?_
      exact lc_I2 hC0 hk hy hT0 (by omega) ⟨hP, hI, h70, h71, hS, lv_sub hl [3, 4, 5, 6, 7, 8, 9, 10] rfl⟩ hJ
  · skip
    refine lv_if_ne (tgt := 1188) hx hb dL_law_1164 (by decide) (fun _ => ?_) (fun c9 => absurd c9 (mt (nI_eq (a := (y % 3)) (b := 0) (by omega) (by omega)).mp (by omega)))
    refine lv_iload hx hb dL_law_1188 (lv_at hl 3 rfl) ?_
    refine lv_iconst (v := 3) hx hb dL_law_1190 (by decide) ?_
    refine lv_irem hx hb dL_law_1191 (by decide) ?_
    refine sy_top (y := nI (y % 3)) (nI_rem (a := y) (b := 3) (by omega) (by omega)) ?_
    refine lv_iconst (v := 1) hx hb dL_law_1192 (by decide) ?_
    refine lv_icmp_ne (tgt := 1225) hx hb dL_law_1193 (by decide) (fun c9 => absurd ((nI_eq (a := (y % 3)) (b := 1) (by omega) (by omega)).mpr (by omega)) c9) (fun _ => ?_)
    refine lv_aload_n hx hb dL_law_1196 rfl (lv_at hl 9 rfl) ?_
    refine lv_iload hx hb dL_law_1197 (lv_at hl 3 rfl) ?_
    refine lv_iconst (v := 4) hx hb dL_law_1199 (by decide) ?_
    refine lv_idiv hx hb dL_law_1200 (by decide) ?_
    refine sy_top (y := nI (y / 4)) (nI_div (a := y) (b := 4) (by omega) (by omega)) ?_
    refine lv_sipush (v := 500) hx hb dL_law_1201 (by decide) ?_
    refine lv_irem hx hb dL_law_1204 (by decide) ?_
    refine sy_top (y := nI ((y / 4) % 500)) (nI_rem (a := (y / 4)) (b := 500) (by omega) (by omega)) ?_
    refine lv_sipush (v := 500) hx hb dL_law_1205 (by decide) ?_
    refine lv_iload hx hb dL_law_1208 (lv_at hl 3 rfl) ?_
    refine lv_sipush (v := 2048) hx hb dL_law_1210 (by decide) ?_
    refine lv_idiv hx hb dL_law_1213 (by decide) ?_
    refine sy_top (y := nI (y / 2048)) (nI_div (a := y) (b := 2048) (by omega) (by omega)) ?_
    refine lv_sipush (v := 300) hx hb dL_law_1214 (by decide) ?_
    refine lv_irem hx hb dL_law_1217 (by decide) ?_
    refine sy_top (y := nI ((y / 2048) % 300)) (nI_rem (a := (y / 2048)) (b := 300) (by omega) (by omega)) ?_
    refine lv_iadd hx hb dL_law_1218 ?_
    refine sy_top (y := nI (500 + ((y / 2048) % 300))) (nI_add 500 ((y / 2048) % 300)) ?_
    refine sy_kl (vx_runSW (As := [.ref (ad 60), .int (nI ((y / 4) % 500)), .int (nI (500 + ((y / 2048) % 300)))]) (rest := []) ⟨hx, hb, hml, hown, hts⟩ (mL_amnesty l hfl Z nT nK cT cK ad g q (nI ((y / 4) % 500)) (nI (500 + ((y / 2048) % 300))) hI) (vx_cwSW 3 hts (gl_S uk_2_229 uk_2_230 uk_1_0 uk_2_231) rfl rfl rfl (by decide +kernel) ⟨Nat.le_of_ble_eq_true rfl, Nat.le_of_ble_eq_true rfl⟩) ⟨sPreL_blind _, fun U hU hW => ⟨rfl, ⟨hE.next hS hU hW.alike, by rw [hU]; exact hP⟩, hNc.next hW.alike⟩⟩ rfl rfl hl.1 rfl (lv_room (Nat.le_of_ble_eq_true rfl)) dL_law_1219 ⟨by show _ ≤ 600074; (try dsimp only); omega, by show _ ≤ 7301550; (try dsimp only); omega⟩) hS (fun r g1 q1 H locs e9 hP hS => ?_)
    rcases p_amnesty hI (x := y / 4 % 500) (y := 500 + y / 2048 % 300) (by omega) (by omega) (by omega) with hw | ⟨h1, hI2⟩
    · skip
      obtain ⟨er, eg, eq⟩ := eq_n3 hw e9
      subst er; subst eg; subst eq
      refine lv_goto (tgt := 1244) hx hb dL_law_1222 (by decide) ?_
      refine W.widen (k := 100 + 2000 * k + 10) (n := 4000 + 12000 * k + 100) (by (try dsimp only); omega) (by (try dsimp only); omega) ?_
      exact lc_I2 hC0 hk hy hT0 (by omega) ⟨hP, hI, h70, h71, hS, lv_sub hl [3, 4, 5, 6, 7, 8, 9, 10] rfl⟩ hJ
    · skip
      obtain ⟨zz, hzz⟩ : ∃ zz : Int, (fX6_amnesty g q (nI (y / 4 % 500)) (nI (500 + y / 2048 % 300))).2.1.toInt = zz := ⟨_, rfl⟩
      have bz : -2147483648 ≤ zz ∧ zz < 2147483648 := by rw [← hzz]; exact i32b _
      obtain ⟨er, eg, eq⟩ := eq_y (z := zz) h1 hzz e9
      subst er
      rw [eg, eq] at hI2
      have hI := hI2
      clear e9
      refine lv_goto (tgt := 1244) hx hb dL_law_1222 (by decide) ?_
      refine W.widen (k := 100 + 2000 * k + 10) (n := 4000 + 12000 * k + 100) (by (try dsimp only); omega) (by (try dsimp only); omega) ?_
      exact lc_I2 hC0 hk hy hT0 (by omega) ⟨hP, hI, h70, h71, hS, lv_sub hl [3, 4, 5, 6, 7, 8, 9, 10] rfl⟩ hJ
  · skip
    refine lv_if_ne (tgt := 1188) hx hb dL_law_1164 (by decide) (fun _ => ?_) (fun c9 => absurd c9 (mt (nI_eq (a := (y % 3)) (b := 0) (by omega) (by omega)).mp (by omega)))
    refine lv_iload hx hb dL_law_1188 (lv_at hl 3 rfl) ?_
    refine lv_iconst (v := 3) hx hb dL_law_1190 (by decide) ?_
    refine lv_irem hx hb dL_law_1191 (by decide) ?_
    refine sy_top (y := nI (y % 3)) (nI_rem (a := y) (b := 3) (by omega) (by omega)) ?_
    refine lv_iconst (v := 1) hx hb dL_law_1192 (by decide) ?_
    refine lv_icmp_ne (tgt := 1225) hx hb dL_law_1193 (by decide) (fun _ => ?_) (fun c9 => absurd c9 (mt (nI_eq (a := (y % 3)) (b := 1) (by omega) (by omega)).mp (by omega)))
    refine lv_aload_n hx hb dL_law_1225 rfl (lv_at hl 9 rfl) ?_
    refine lv_iload hx hb dL_law_1226 (lv_at hl 3 rfl) ?_
    refine lv_iconst (v := 4) hx hb dL_law_1228 (by decide) ?_
    refine lv_idiv hx hb dL_law_1229 (by decide) ?_
    refine sy_top (y := nI (y / 4)) (nI_div (a := y) (b := 4) (by omega) (by omega)) ?_
    refine lv_iconst (v := 4) hx hb dL_law_1230 (by decide) ?_
    refine lv_irem hx hb dL_law_1231 (by decide) ?_
    refine sy_top (y := nI ((y / 4) % 4)) (nI_rem (a := (y / 4)) (b := 4) (by omega) (by omega)) ?_
    refine lv_iload hx hb dL_law_1232 (lv_at hl 3 rfl) ?_
    refine lv_bipush (v := 16) hx hb dL_law_1234 (by decide) ?_
    refine lv_idiv hx hb dL_law_1236 (by decide) ?_
    refine sy_top (y := nI (y / 16)) (nI_div (a := y) (b := 16) (by omega) (by omega)) ?_
    refine lv_sipush (v := 201) hx hb dL_law_1237 (by decide) ?_
    refine lv_irem hx hb dL_law_1240 (by decide) ?_
    refine sy_top (y := nI ((y / 16) % 201)) (nI_rem (a := (y / 16)) (b := 201) (by omega) (by omega)) ?_
    refine sy_kl (vx_runSW (As := [.ref (ad 60), .int (nI ((y / 4) % 4)), .int (nI ((y / 16) % 201))]) (rest := []) ⟨hx, hb, hml, hown, hts⟩ (mL_fashion l hfl Z nT nK cT cK ad g q (nI ((y / 4) % 4)) (nI ((y / 16) % 201)) hI) (vx_cwSW 3 hts (gl_S uk_2_184 uk_2_185 uk_1_0 uk_2_186) rfl rfl rfl (by decide +kernel) ⟨Nat.le_of_ble_eq_true rfl, Nat.le_of_ble_eq_true rfl⟩) ⟨sPreL_blind _, fun U hU hW => ⟨rfl, ⟨hE.next hS hU hW.alike, by rw [hU]; exact hP⟩, hNc.next hW.alike⟩⟩ rfl rfl hl.1 rfl (lv_room (Nat.le_of_ble_eq_true rfl)) dL_law_1241 ⟨by show _ ≤ 600074; (try dsimp only); omega, by show _ ≤ 7301550; (try dsimp only); omega⟩) hS (fun r g1 q1 H locs e9 hP hS => ?_)
    obtain ⟨h1, hI2⟩ := p_fashion hI (k := y / 4 % 4) (h := y / 16 % 201) (by omega) (by omega)
    obtain ⟨zz, hzz⟩ : ∃ zz : Int, (fX6_fashion g q (nI (y / 4 % 4)) (nI (y / 16 % 201))).2.1.toInt = zz := ⟨_, rfl⟩
    have bz : -2147483648 ≤ zz ∧ zz < 2147483648 := by rw [← hzz]; exact i32b _
    obtain ⟨er, eg, eq⟩ := eq_y (z := zz) h1 hzz e9
    subst er
    rw [eg, eq] at hI2
    have hI := hI2
    clear e9
    refine W.widen (k := 100 + 2000 * k + 10) (n := 4000 + 12000 * k + 100) (by (try dsimp only); omega) (by (try dsimp only); omega) ?_
    exact lc_I2 hC0 hk hy hT0 (by omega) ⟨hP, hI, h70, h71, hS, lv_sub hl [3, 4, 5, 6, 7, 8, 9, 10] rfl⟩ hJ
set_option maxHeartbeats 8000000 in
set_option maxRecDepth 100000 in
theorem lc_J (hC : lCtx p l s m meth c b L xs Z) {k : Nat} (hk : k < 48) {nT nK cT cK : Nat} {ad : Nat → Nat} {g : sG} {q : sQ} {H : Heap} {locs : List Loc} {ls : Array Slot} (hT0 : 0 < nT) (hN : ∀ (nT nK cT cK : Nat) (ad : Nat → Nat) (g : sG) (q : sQ) (H : Heap) (locs : List Loc) (ls : Array Slot), 0 < nT → lSt Z s b (k + 1) (k + 2) nT nK cT cK ad g q H locs ls [] → W p l e room_1 s m #[Value.ref b] below meth c H locs (100 + 2000 * (k + 1)) (4000 + 12000 * (k + 1)) (lw_Z below #[Value.ref b] s) (F0 m 56 ls [])) (h : lSt Z s b k (k + 2) nT nK cT cK ad g q H locs ls [])  : W p l e room_1 s m #[Value.ref b] below meth c H locs (100 + 2000 * k + 100) (4000 + 12000 * k + 1000) (lw_Z below #[Value.ref b] s) (F0 m 1280 ls []) := by
  obtain ⟨hx, hb, hr, hml, hown, hts, hX, hbl, hlocks, hZ, hE, hNc, hfl⟩ := hC
  obtain ⟨hP, hI, h70, h71, hS, hl⟩ := h
  have hT40 := ci_T hI
  have hK40 := ci_K hI
  have hM : ∀ (H : Heap) (locs : List Loc) (ls : Array Slot), Sy Z nT nK cT cK ad g q H → va_S (sy_A Z) s.heap H locs → lv_has ls 18 [(6, .int (nI k)), (5, .int 1), (4, .int (nI nK)), (3, .int (nI nT)), (2, .ref (ad 90)), (1, .ref (ad 60)), (0, .ref b)] → W p l e room_1 s m #[Value.ref b] below meth c H locs (100 + 2000 * k + 1800) (4000 + 12000 * k + 11000) (lw_Z below #[Value.ref b] s) (F0 m 1322 ls []) := by
    intro H locs ls hP hS hl
    refine lv_iload hx hb dL_law_1322 (lv_at hl 0 rfl) ?_
    refine lv_bipush (v := 24) hx hb dL_law_1324 (by decide) ?_
    refine lv_irem hx hb dL_law_1326 (by decide) ?_
    refine sy_top (y := nI (k % 24)) (nI_rem (a := k) (b := 24) (by omega) (by omega)) ?_
    refine lv_bipush (v := 23) hx hb dL_law_1327 (by decide) ?_
    by_cases h24 : k % 24 = 23
    · skip
      refine lv_icmp_ne (tgt := 1351) hx hb dL_law_1329 (by decide) (fun c9 => absurd ((nI_eq (a := (k % 24)) (b := 23) (by omega) (by omega)).mpr (by omega)) c9) (fun _ => ?_)
      refine lv_iload hx hb dL_law_1332 (lv_at hl 1 rfl) ?_
      refine lv_if_eq (tgt := 1348) hx hb dL_law_1334 (by decide) (fun c9 => absurd c9 (by decide)) (fun _ => ?_)
      refine lv_aload_n hx hb dL_law_1337 rfl (lv_at hl 5 rfl) ?_
      refine sy_ki (va_runS (As := [.ref (ad 60)]) (rest := []) ⟨hx, hb, hml, hown, hts⟩ (nL_refuses l hfl Z nT nK cT cK ad g q hI (by omega) hT0 h70 h71) (va_cwS 1 hts (gl_S uk_4_131 uk_4_132 uk_1_0 uk_4_133) rfl rfl rfl (by decide +kernel) ⟨Nat.le_of_ble_eq_true rfl, Nat.le_of_ble_eq_true rfl⟩) ⟨sPreL_blind _, fun U hU hW => ⟨rfl, ⟨hE.next hS hU hW.alike, by rw [hU]; exact hP⟩, hNc.next hW.alike⟩⟩ rfl rfl hl.1 rfl (lv_room (Nat.le_of_ble_eq_true rfl)) dL_law_1338 ⟨by show _ ≤ 600074; (try dsimp only); omega, by show _ ≤ 7301550; (try dsimp only); omega⟩) hS (fun r g1 q1 H locs e9 hP hS => ?_)
      obtain ⟨er, hI2⟩ := e9
      subst er
      have hI := hI2
      refine lv_if_eq (tgt := 1348) hx hb dL_law_1341 (by decide) (fun c9 => absurd c9 (by decide)) (fun _ => ?_)
      refine lv_iconst (v := 1) hx hb dL_law_1344 (by decide) ?_
      refine lv_goto (tgt := 1349) hx hb dL_law_1345 (by decide) ?_
      refine lv_istore (lv' := [(5, .int 1), (6, .int (nI k)), (4, .int (nI nK)), (3, .int (nI nT)), (2, .ref (ad 90)), (1, .ref (ad 60)), (0, .ref b)]) hx hb dL_law_1349 hl (by decide) rfl (fun ls hl => ?_)
      refine lv_iinc (v := nI (k + 1)) (lv' := [(6, .int (nI (k + 1))), (5, .int 1), (4, .int (nI nK)), (3, .int (nI nT)), (2, .ref (ad 90)), (1, .ref (ad 60)), (0, .ref b)]) hx hb dL_law_1351 hl (k := 1) rfl (nI_add k 1) (by decide) rfl (fun ls hl => ?_)
      refine lv_goto (tgt := 56) hx hb dL_law_1354 (by decide) ?_
      refine W.widen (k := 100 + 2000 * (k + 1)) (n := 4000 + 12000 * (k + 1)) (by (try dsimp only); omega) (by (try dsimp only); omega) ?_
      exact hN _ _ _ _ _ _ _ _ _ _ hT0 ⟨hP, hI, h70, h71, hS, lv_sub hl [0, 1, 2, 3, 4, 5, 6] rfl⟩
    · skip
      refine lv_icmp_ne (tgt := 1351) hx hb dL_law_1329 (by decide) (fun _ => ?_) (fun c9 => absurd c9 (mt (nI_eq (a := (k % 24)) (b := 23) (by omega) (by omega)).mp (by omega)))
      refine lv_iinc (v := nI (k + 1)) (lv' := [(6, .int (nI (k + 1))), (5, .int 1), (4, .int (nI nK)), (3, .int (nI nT)), (2, .ref (ad 90)), (1, .ref (ad 60)), (0, .ref b)]) hx hb dL_law_1351 hl (k := 0) rfl (nI_add k 1) (by decide) rfl (fun ls hl => ?_)
      refine lv_goto (tgt := 56) hx hb dL_law_1354 (by decide) ?_
      refine W.widen (k := 100 + 2000 * (k + 1)) (n := 4000 + 12000 * (k + 1)) (by (try dsimp only); omega) (by (try dsimp only); omega) ?_
      exact hN _ _ _ _ _ _ _ _ _ _ hT0 ⟨hP, hI, h70, h71, hS, lv_sub hl [0, 1, 2, 3, 4, 5, 6] rfl⟩
  refine lv_iload hx hb dL_law_1280 (lv_at hl 0 rfl) ?_
  refine lv_bipush (v := 8) hx hb dL_law_1282 (by decide) ?_
  refine lv_irem hx hb dL_law_1284 (by decide) ?_
  refine sy_top (y := nI (k % 8)) (nI_rem (a := k) (b := 8) (by omega) (by omega)) ?_
  refine lv_bipush (v := 7) hx hb dL_law_1285 (by decide) ?_
  by_cases h8 : k % 8 = 7
  · skip
    refine lv_icmp_ne (tgt := 1322) hx hb dL_law_1287 (by decide) (fun c9 => absurd ((nI_eq (a := (k % 8)) (b := 7) (by omega) (by omega)).mpr (by omega)) c9) (fun _ => ?_)
    refine lv_iload hx hb dL_law_1290 (lv_at hl 1 rfl) ?_
    refine lv_if_eq (tgt := 1319) hx hb dL_law_1292 (by decide) (fun c9 => absurd c9 (by decide)) (fun _ => ?_)
    refine lv_aload_n hx hb dL_law_1295 rfl (lv_at hl 5 rfl) ?_
    refine lv_aload_n hx hb dL_law_1296 rfl (lv_at hl 4 rfl) ?_
    refine lv_iload_n hx hb dL_law_1297 rfl (lv_at hl 3 rfl) ?_
    refine lv_iload hx hb dL_law_1298 (lv_at hl 2 rfl) ?_
    refine sy_ki (va_runS (As := [.ref (ad 60), .ref (ad 90), .int (nI nT), .int (nI nK)]) (rest := []) ⟨hx, hb, hml, hown, hts⟩ (nL_thingsHold l hfl Z nT nK cT cK ad g q hI) (va_cwS 4 hts (gl_S uk_4_95 uk_4_96 uk_1_0 uk_4_97) rfl rfl rfl (by decide +kernel) ⟨Nat.le_of_ble_eq_true rfl, Nat.le_of_ble_eq_true rfl⟩) ⟨sPreL_blind _, fun U hU hW => ⟨rfl, ⟨hE.next hS hU hW.alike, by rw [hU]; exact hP⟩, hNc.next hW.alike⟩⟩ rfl rfl hl.1 rfl (lv_room (Nat.le_of_ble_eq_true rfl)) dL_law_1300 ⟨by show _ ≤ 600074; (try dsimp only); omega, by show _ ≤ 7301550; (try dsimp only); omega⟩) hS (fun r gz qz H locs e9 hP hS => ?_)
    obtain ⟨er, eg, eq⟩ := e9
    subst er
    replace eg := eg.symm
    replace eq := eq.symm
    subst eg
    subst eq
    refine lv_if_eq (tgt := 1319) hx hb dL_law_1303 (by decide) (fun c9 => absurd c9 (by decide)) (fun _ => ?_)
    refine lv_aload_n hx hb dL_law_1306 rfl (lv_at hl 5 rfl) ?_
    refine lv_iload hx hb dL_law_1307 (lv_at hl 2 rfl) ?_
    refine sy_ki (va_runS (As := [.ref (ad 60), .int (nI nK)]) (rest := []) ⟨hx, hb, hml, hown, hts⟩ (nL_moneyHolds l hfl Z nT nK cT cK ad g q hI (by omega)) (va_cwS 2 hts (gl_S uk_4_107 uk_4_108 uk_1_0 uk_4_109) rfl rfl rfl (by decide +kernel) ⟨Nat.le_of_ble_eq_true rfl, Nat.le_of_ble_eq_true rfl⟩) ⟨sPreL_blind _, fun U hU hW => ⟨rfl, ⟨hE.next hS hU hW.alike, by rw [hU]; exact hP⟩, hNc.next hW.alike⟩⟩ rfl rfl hl.1 rfl (lv_room (Nat.le_of_ble_eq_true rfl)) dL_law_1309 ⟨by show _ ≤ 600074; (try dsimp only); omega, by show _ ≤ 7301550; (try dsimp only); omega⟩) hS (fun r gz qz H locs e9 hP hS => ?_)
    obtain ⟨er, eg, eq⟩ := e9
    subst er
    replace eg := eg.symm
    replace eq := eq.symm
    subst eg
    subst eq
    refine lv_if_eq (tgt := 1319) hx hb dL_law_1312 (by decide) (fun c9 => absurd c9 (by decide)) (fun _ => ?_)
    refine lv_iconst (v := 1) hx hb dL_law_1315 (by decide) ?_
    refine lv_goto (tgt := 1320) hx hb dL_law_1316 (by decide) ?_
    refine lv_istore (lv' := [(5, .int 1), (6, .int (nI k)), (4, .int (nI nK)), (3, .int (nI nT)), (2, .ref (ad 90)), (1, .ref (ad 60)), (0, .ref b)]) hx hb dL_law_1320 hl (by decide) rfl (fun ls hl => ?_)
    refine W.widen (k := 100 + 2000 * k + 1800) (n := 4000 + 12000 * k + 11000) (by (try dsimp only); omega) (by (try dsimp only); omega) ?_
    exact hM _ _ _ hP hS (lv_sub hl [1, 0, 2, 3, 4, 5, 6] rfl)
  · skip
    refine lv_icmp_ne (tgt := 1322) hx hb dL_law_1287 (by decide) (fun _ => ?_) (fun c9 => absurd c9 (mt (nI_eq (a := (k % 8)) (b := 7) (by omega) (by omega)).mp (by omega)))
    refine W.widen (k := 100 + 2000 * k + 1800) (n := 4000 + 12000 * k + 11000) (by (try dsimp only); omega) (by (try dsimp only); omega) ?_
    exact hM _ _ _ hP hS (lv_sub hl [0, 1, 2, 3, 4, 5, 6] rfl)
end LWC
