section LWC
variable {p : Program} {l : Launch} {e : Env} {s : State} {m : MethodId} {below : List Frame} {meth : Method} {c : Code} {b L : Nat} {xs : Nat → Int32} {Z : sZ}
set_option maxHeartbeats 8000000 in
set_option maxRecDepth 100000 in
theorem lc_F (hC : lCtx p l s m meth c b L xs Z) {k : Nat} (hk : k < 48) {nT nK cT cK : Nat} {ad : Nat → Nat} {g : sG} {q : sQ} {H : Heap} {locs : List Loc} {ls : Array Slot} {wh q9 c9 y : Nat} (hy : y < 2147483648) (hwh : wh = 10) (hT0 : 0 < nT) (hq9 : q9 < nT) (h : lSt Z s b k (k + 1) nT nK cT cK ad g q H locs ls [(11, .int (nI c9)), (10, .int (nI q9)), (9, .int (nI wh)), (8, .int (nI y))]) (hJ : ∀ (nT nK cT cK : Nat) (ad : Nat → Nat) (g : sG) (q : sQ) (H : Heap) (locs : List Loc) (ls : Array Slot), 0 < nT → lSt Z s b k (k + 2) nT nK cT cK ad g q H locs ls [] → W p l e room_1 s m #[Value.ref b] below meth c H locs (100 + 2000 * k + 100) (4000 + 14000 * k + 1000) (lw_Z below #[Value.ref b] s) (F0 m 1280 ls [])) : W p l e room_1 s m #[Value.ref b] below meth c H locs (100 + 2000 * k) (4000 + 14000 * k) (lw_Z below #[Value.ref b] s) (F0 m 133 ls []) := by
  obtain ⟨hx, hb, hr, hml, hown, hts, hX, hbl, hlocks, hZ, hE, hNc, hfl⟩ := hC
  obtain ⟨hP, hI, h70, h71, hS, hl⟩ := h
  have hl : lv_has ls 18 [(11, .int (nI c9)), (10, .int (nI q9)), (9, .int (nI wh)), (8, .int (nI y)), (6, .int (nI k)), (5, .int 1), (4, .int (nI nK)), (3, .int (nI nT)), (2, .ref (ad 90)), (1, .ref (ad 60)), (0, .ref b)] := hl
  have hT40 := ci_T hI
  have hK40 := ci_K hI
  have b7 := i32b (g (100 + q9) 7)
  refine lv_iload hx hb dL_law_133 (lv_at hl 2 rfl) ?_
  refine lv_iconst (v := 4) hx hb dL_law_135 (by decide) ?_
  refine lv_icmp_lt (tgt := 143) hx hb dL_law_136 (by decide) (fun cz9 => absurd cz9 (mt (nI_ltI (a := wh) (b := 4) (by omega) (by omega)).mp (by omega))) (fun _ => ?_)
  refine lv_iload_n hx hb dL_law_139 rfl (lv_at hl 7 rfl) ?_
  refine lv_if_ne (tgt := 377) hx hb dL_law_140 (by decide) (fun _ => ?_) (fun cz9 => absurd cz9 (mt (nI_eq (a := nT) (b := 0) (by omega) (by omega)).mp (by omega)))
  refine lv_iload hx hb dL_law_377 (lv_at hl 2 rfl) ?_
  refine lv_iconst (v := 4) hx hb dL_law_379 (by decide) ?_
  refine lv_icmp_ne (tgt := 506) hx hb dL_law_380 (by decide) (fun _ => ?_) (fun cz9 => absurd cz9 (mt (nI_eq (a := wh) (b := 4) (by omega) (by omega)).mp (by omega)))
  refine lv_iload hx hb dL_law_506 (lv_at hl 2 rfl) ?_
  refine lv_bipush (v := 8) hx hb dL_law_508 (by decide) ?_
  refine lv_icmp_ge (tgt := 539) hx hb dL_law_510 (by decide) (fun _ => ?_) (fun cz9 => absurd ((nI_leI (a := 8) (b := wh) (by omega) (by omega)).mpr (by omega)) cz9)
  refine lv_iload hx hb dL_law_539 (lv_at hl 2 rfl) ?_
  refine lv_bipush (v := 8) hx hb dL_law_541 (by decide) ?_
  refine lv_icmp_ne (tgt := 708) hx hb dL_law_543 (by decide) (fun _ => ?_) (fun cz9 => absurd cz9 (mt (nI_eq (a := wh) (b := 8) (by omega) (by omega)).mp (by omega)))
  refine lv_iload hx hb dL_law_708 (lv_at hl 2 rfl) ?_
  refine lv_bipush (v := 9) hx hb dL_law_710 (by decide) ?_
  refine lv_icmp_ne (tgt := 842) hx hb dL_law_712 (by decide) (fun _ => ?_) (fun cz9 => absurd cz9 (mt (nI_eq (a := wh) (b := 9) (by omega) (by omega)).mp (by omega)))
  refine lv_iload hx hb dL_law_842 (lv_at hl 2 rfl) ?_
  refine lv_bipush (v := 10) hx hb dL_law_844 (by decide) ?_
  refine lv_icmp_ne (tgt := 997) hx hb dL_law_846 (by decide) (fun cz9 => absurd ((nI_eq (a := wh) (b := 10) (by omega) (by omega)).mpr (by omega)) cz9) (fun _ => ?_)
  refine lv_aload_n hx hb dL_law_849 rfl (lv_at hl 9 rfl) ?_
  refine lv_iload hx hb dL_law_850 (lv_at hl 1 rfl) ?_
  refine lv_iconst (v := 3) hx hb dL_law_852 (by decide) ?_
  rcases p_stray hI hq9 (b := y % 3) (s := y / 4 % 4) (by omega) (by omega) with ⟨h5, hw⟩ | ⟨h5, h1, hI2, h2, h3, h4⟩
  · skip
    refine sy_kl (vx_runSW (As := [.ref (ad 60), .int (nI q9), .int 3]) (rest := []) ⟨hx, hb, hml, hown, hts⟩ (mL_thingOf l hfl Z nT nK cT cK ad g q (nI q9) 3 hI) (vx_cwSW 3 hts (gl_S uk_4_46 uk_4_47 uk_1_0 uk_4_48) rfl rfl rfl (by decide +kernel) ⟨Nat.le_of_ble_eq_true rfl, Nat.le_of_ble_eq_true rfl⟩) ⟨sPreL_blind _, fun U hU hW => ⟨rfl, ⟨hE.next hS hU hW.alike, by rw [hU]; exact hP⟩, hNc.next hW.alike⟩⟩ rfl rfl hl.1 rfl (lv_room (Nat.le_of_ble_eq_true rfl)) dL_law_853 ⟨by show _ ≤ 600074; (try dsimp only); omega, by show _ ≤ 7301550; (try dsimp only); omega⟩) hS (fun r gz qz H locs e9 hP hS => ?_)
    obtain ⟨er, eg, eq⟩ := eq_q (z := 0) (a_T hI hq9).2.1 (by rw [if_pos h5]; rfl) e9
    subst er; subst eg; subst eq
    refine lv_lconst (v := lI 1) hx hb dL_law_856 rfl ?_
    refine W.lcmp hx hb dL_law_857 ?_
    refine lv_if_ne (tgt := 865) hx hb dL_law_858 (by decide) (fun _ => ?_) (fun cz9 => absurd cz9 (c_ne (a := 0) (b := 1) (by omega) (by omega) (by omega)))
    refine lv_iconst (v := 0) hx hb dL_law_865 (by decide) ?_
    refine lv_istore (lv' := [(12, .int 0), (11, .int (nI c9)), (10, .int (nI q9)), (9, .int (nI wh)), (8, .int (nI y)), (6, .int (nI k)), (5, .int 1), (4, .int (nI nK)), (3, .int (nI nT)), (2, .ref (ad 90)), (1, .ref (ad 60)), (0, .ref b)]) hx hb dL_law_866 hl (by decide) rfl (fun ls hl => ?_)
    refine lv_aload_n hx hb dL_law_868 rfl (lv_at hl 10 rfl) ?_
    refine lv_iload hx hb dL_law_869 (lv_at hl 2 rfl) ?_
    refine lv_iconst (v := 4) hx hb dL_law_871 (by decide) ?_
    refine sy_kl (vx_runSW (As := [.ref (ad 60), .int (nI q9), .int 4]) (rest := []) ⟨hx, hb, hml, hown, hts⟩ (mL_thingOf l hfl Z nT nK cT cK ad g q (nI q9) 4 hI) (vx_cwSW 3 hts (gl_S uk_4_46 uk_4_47 uk_1_0 uk_4_48) rfl rfl rfl (by decide +kernel) ⟨Nat.le_of_ble_eq_true rfl, Nat.le_of_ble_eq_true rfl⟩) ⟨sPreL_blind _, fun U hU hW => ⟨rfl, ⟨hE.next hS hU hW.alike, by rw [hU]; exact hP⟩, hNc.next hW.alike⟩⟩ rfl rfl hl.1 rfl (lv_room (Nat.le_of_ble_eq_true rfl)) dL_law_872 ⟨by show _ ≤ 600074; (try dsimp only); omega, by show _ ≤ 7301550; (try dsimp only); omega⟩) hS (fun r gz qz H locs e9 hP hS => ?_)
    obtain ⟨er, eg, eq⟩ := eq_q (z := (g (100 + q9) 7).toInt) (a_T hI hq9).2.2.1 rfl e9
    subst er; subst eg; subst eq
    refine lv_lstore (lv' := [(13, .long (lI ((g (100 + q9) 7).toInt))), (12, .int 0), (11, .int (nI c9)), (10, .int (nI q9)), (9, .int (nI wh)), (8, .int (nI y)), (6, .int (nI k)), (5, .int 1), (4, .int (nI nK)), (3, .int (nI nT)), (2, .ref (ad 90)), (1, .ref (ad 60)), (0, .ref b)]) hx hb dL_law_875 hl (by decide) rfl (fun ls hl => ?_)
    refine lv_aload_n hx hb dL_law_877 rfl (lv_at hl 11 rfl) ?_
    refine lv_iload hx hb dL_law_878 (lv_at hl 3 rfl) ?_
    refine lv_iload hx hb dL_law_880 (lv_at hl 5 rfl) ?_
    refine lv_iconst (v := 3) hx hb dL_law_882 (by decide) ?_
    refine lv_irem hx hb dL_law_883 (by decide) ?_
    refine sy_top (y := nI (y % 3)) (nI_rem (a := y) (b := 3) (by omega) (by omega)) ?_
    refine lv_iload hx hb dL_law_884 (lv_at hl 5 rfl) ?_
    refine lv_iconst (v := 4) hx hb dL_law_886 (by decide) ?_
    refine lv_idiv hx hb dL_law_887 (by decide) ?_
    refine sy_top (y := nI (y / 4)) (nI_div (a := y) (b := 4) (by omega) (by omega)) ?_
    refine lv_iconst (v := 4) hx hb dL_law_888 (by decide) ?_
    refine lv_irem hx hb dL_law_889 (by decide) ?_
    refine sy_top (y := nI ((y / 4) % 4)) (nI_rem (a := (y / 4)) (b := 4) (by omega) (by omega)) ?_
    refine sy_kl (vx_runSW (As := [.ref (ad 60), .int (nI q9), .int (nI (y % 3)), .int (nI ((y / 4) % 4))]) (rest := []) ⟨hx, hb, hml, hown, hts⟩ (mL_stray l hfl Z nT nK cT cK ad g q (nI q9) (nI (y % 3)) (nI ((y / 4) % 4)) hI) (vx_cwSW 4 hts (gl_S uk_3_203 uk_3_204 uk_1_0 uk_3_205) rfl rfl rfl (by decide +kernel) ⟨Nat.le_of_ble_eq_true rfl, Nat.le_of_ble_eq_true rfl⟩) ⟨sPreL_blind _, fun U hU hW => ⟨rfl, ⟨hE.next hS hU hW.alike, by rw [hU]; exact hP⟩, hNc.next hW.alike⟩⟩ rfl rfl hl.1 rfl (lv_room (Nat.le_of_ble_eq_true rfl)) dL_law_890 ⟨by show _ ≤ 600074; (try dsimp only); omega, by show _ ≤ 7301550; (try dsimp only); omega⟩) hS (fun r g1 q1 H locs e9 hP hS => ?_)
    obtain ⟨er, eg, eq⟩ := eq_v3 hw e9
    subst er; subst eg; subst eq
    refine lv_iload hx hb dL_law_893 (lv_at hl 1 rfl) ?_
    refine lv_if_eq (tgt := 902) hx hb dL_law_895 (by decide) (fun _ => ?_) (fun cz9 => absurd cz9 (by decide))
    refine lv_ldc2 (v := lI (-9000000000000000003)) hx hb hown (hts _ (wsU_tbl uk_2_183)) dL_law_902 ?_
    refine W.lcmp hx hb dL_law_905 ?_
    refine lv_if_ne (tgt := 926) hx hb dL_law_906 (by decide) (fun cz9 => absurd (c_eq (a := (-9000000000000000003)) (b := (-9000000000000000003)) (by omega)) cz9) (fun _ => ?_)
    refine lv_aload_n hx hb dL_law_909 rfl (lv_at hl 11 rfl) ?_
    refine lv_iload hx hb dL_law_910 (lv_at hl 3 rfl) ?_
    refine lv_iconst (v := 4) hx hb dL_law_912 (by decide) ?_
    refine sy_kl (vx_runSW (As := [.ref (ad 60), .int (nI q9), .int 4]) (rest := []) ⟨hx, hb, hml, hown, hts⟩ (mL_thingOf l hfl Z nT nK cT cK ad g q (nI q9) 4 hI) (vx_cwSW 3 hts (gl_S uk_4_46 uk_4_47 uk_1_0 uk_4_48) rfl rfl rfl (by decide +kernel) ⟨Nat.le_of_ble_eq_true rfl, Nat.le_of_ble_eq_true rfl⟩) ⟨sPreL_blind _, fun U hU hW => ⟨rfl, ⟨hE.next hS hU hW.alike, by rw [hU]; exact hP⟩, hNc.next hW.alike⟩⟩ rfl rfl hl.1 rfl (lv_room (Nat.le_of_ble_eq_true rfl)) dL_law_913 ⟨by show _ ≤ 600074; (try dsimp only); omega, by show _ ≤ 7301550; (try dsimp only); omega⟩) hS (fun r gz qz H locs e9 hP hS => ?_)
    obtain ⟨er, eg, eq⟩ := eq_q (z := (g (100 + q9) 7).toInt) (a_T hI hq9).2.2.1 rfl e9
    subst er; subst eg; subst eq
    refine lv_lload hx hb dL_law_916 (lv_at hl 0 rfl) ?_
    refine W.lcmp hx hb dL_law_918 ?_
    refine lv_if_ne (tgt := 926) hx hb dL_law_919 (by decide) (fun cz9 => absurd (c_eq (a := (g (100 + q9) 7).toInt) (b := (g (100 + q9) 7).toInt) (by omega)) cz9) (fun _ => ?_)
    refine lv_iconst (v := 1) hx hb dL_law_922 (by decide) ?_
    refine lv_goto (tgt := 927) hx hb dL_law_923 (by decide) ?_
    refine lv_istore (lv' := [(5, .int 1), (13, .long (lI ((g (100 + q9) 7).toInt))), (12, .int 0), (11, .int (nI c9)), (10, .int (nI q9)), (9, .int (nI wh)), (8, .int (nI y)), (6, .int (nI k)), (4, .int (nI nK)), (3, .int (nI nT)), (2, .ref (ad 90)), (1, .ref (ad 60)), (0, .ref b)]) hx hb dL_law_927 hl (by decide) rfl (fun ls hl => ?_)
    refine lv_iload hx hb dL_law_929 (lv_at hl 0 rfl) ?_
    refine lv_if_eq (tgt := 991) hx hb dL_law_931 (by decide) (fun cz9 => absurd cz9 (by decide)) (fun _ => ?_)
    refine lv_iload hx hb dL_law_934 (lv_at hl 6 rfl) ?_
    refine lv_bipush (v := 16) hx hb dL_law_936 (by decide) ?_
    refine lv_idiv hx hb dL_law_938 (by decide) ?_
    refine sy_top (y := nI (y / 16)) (nI_div (a := y) (b := 16) (by omega) (by omega)) ?_
    refine lv_iconst (v := 3) hx hb dL_law_939 (by decide) ?_
    refine lv_irem hx hb dL_law_940 (by decide) ?_
    refine sy_top (y := nI ((y / 16) % 3)) (nI_rem (a := (y / 16)) (b := 3) (by omega) (by omega)) ?_
    by_cases h3y : 0 < y / 16 % 3
    · skip
      refine lv_if_gt (tgt := 987) hx hb dL_law_941 (by decide) (fun _ => ?_) (fun cz9 => absurd ((nI_ltI (a := 0) (b := ((y / 16) % 3)) (by omega) (by omega)).mpr (by omega)) cz9)
      refine lv_iconst (v := 1) hx hb dL_law_987 (by decide) ?_
      refine lv_goto (tgt := 992) hx hb dL_law_988 (by decide) ?_
      refine lv_istore (lv' := [(5, .int 1), (13, .long (lI ((g (100 + q9) 7).toInt))), (12, .int 0), (11, .int (nI c9)), (10, .int (nI q9)), (9, .int (nI wh)), (8, .int (nI y)), (6, .int (nI k)), (4, .int (nI nK)), (3, .int (nI nT)), (2, .ref (ad 90)), (1, .ref (ad 60)), (0, .ref b)]) hx hb dL_law_992 hl (by decide) rfl (fun ls hl => ?_)
      refine lv_goto (tgt := 1280) hx hb dL_law_994 (by decide) ?_
      refine W.widen (k := 100 + 2000 * k + 100) (n := 4000 + 14000 * k + 1000) (by (try dsimp only); omega) (by (try dsimp only); omega) ?_
      exact hJ _ _ _ _ _ _ _ _ _ _ (by omega) ⟨hP, (ci_n (by omega) hI), h70, h71, hS, lv_sub hl [7, 0, 8, 9, 10, 11, 12] rfl⟩
    · skip
      refine lv_if_gt (tgt := 987) hx hb dL_law_941 (by decide) (fun cz9 => absurd cz9 (mt (nI_ltI (a := 0) (b := ((y / 16) % 3)) (by omega) (by omega)).mp (by omega))) (fun _ => ?_)
      refine lv_aload_n hx hb dL_law_944 rfl (lv_at hl 11 rfl) ?_
      refine lv_iload hx hb dL_law_945 (lv_at hl 6 rfl) ?_
      refine lv_iconst (v := 3) hx hb dL_law_947 (by decide) ?_
      refine lv_irem hx hb dL_law_948 (by decide) ?_
      refine sy_top (y := nI (y % 3)) (nI_rem (a := y) (b := 3) (by omega) (by omega)) ?_
      refine sy_kl (vx_runSW (As := [.ref (ad 60), .int (nI (y % 3))]) (rest := []) ⟨hx, hb, hml, hown, hts⟩ (mL_count l hfl Z nT nK cT cK ad g q (nI (y % 3)) hI) (vx_cwSW 2 hts (gl_S uk_3_214 uk_3_215 uk_1_0 uk_3_216) rfl rfl rfl (by decide +kernel) ⟨Nat.le_of_ble_eq_true rfl, Nat.le_of_ble_eq_true rfl⟩) ⟨sPreL_blind _, fun U hU hW => ⟨rfl, ⟨hE.next hS hU hW.alike, by rw [hU]; exact hP⟩, hNc.next hW.alike⟩⟩ rfl rfl hl.1 rfl (lv_room (Nat.le_of_ble_eq_true rfl)) dL_law_949 ⟨by show _ ≤ 600074; (try dsimp only); omega, by show _ ≤ 7301550; (try dsimp only); omega⟩) hS (fun r g2 q2 H locs e9 hP hS => ?_)
      obtain ⟨n1, n2, hI3, n4⟩ := p_count hI (b := y % 3) (by omega)
      obtain ⟨zz, hzz⟩ : ∃ zz : Int, (fX6_count g q (nI (y % 3))).2.1.toInt = zz := ⟨_, rfl⟩
      have bz : -2147483648 ≤ zz ∧ zz < 2147483648 := by rw [← hzz]; exact i32b _
      rw [hzz] at n2
      obtain ⟨er, eg, eq⟩ := eq_y (z := zz) n1 hzz e9
      subst er
      rw [eg, eq] at hI3
      have hI := hI3
      clear e9 eg eq
      refine lv_lconst (v := lI 0) hx hb dL_law_952 rfl ?_
      refine W.lcmp hx hb dL_law_953 ?_
      refine lv_if_lt (tgt := 991) hx hb dL_law_954 (by decide) (fun cz9 => absurd cz9 (c_ge (a := zz) (b := 0) (by omega) (by omega) (by omega))) (fun _ => ?_)
      refine lv_iload hx hb dL_law_957 (lv_at hl 2 rfl) ?_
      refine lv_if_eq (tgt := 987) hx hb dL_law_959 (by decide) (fun _ => ?_) (fun cz9 => absurd cz9 (by decide))
      refine lv_iconst (v := 1) hx hb dL_law_987 (by decide) ?_
      refine lv_goto (tgt := 992) hx hb dL_law_988 (by decide) ?_
      refine lv_istore (lv' := [(5, .int 1), (13, .long (lI ((g (100 + q9) 7).toInt))), (12, .int 0), (11, .int (nI c9)), (10, .int (nI q9)), (9, .int (nI wh)), (8, .int (nI y)), (6, .int (nI k)), (4, .int (nI nK)), (3, .int (nI nT)), (2, .ref (ad 90)), (1, .ref (ad 60)), (0, .ref b)]) hx hb dL_law_992 hl (by decide) rfl (fun ls hl => ?_)
      refine lv_goto (tgt := 1280) hx hb dL_law_994 (by decide) ?_
      refine W.widen (k := 100 + 2000 * k + 100) (n := 4000 + 14000 * k + 1000) (by (try dsimp only); omega) (by (try dsimp only); omega) ?_
      exact hJ _ _ _ _ _ _ _ _ _ _ (by omega) ⟨hP, (ci_n (by omega) hI), h70, h71, hS, lv_sub hl [7, 0, 8, 9, 10, 11, 12] rfl⟩
  · skip
    refine sy_kl (vx_runSW (As := [.ref (ad 60), .int (nI q9), .int 3]) (rest := []) ⟨hx, hb, hml, hown, hts⟩ (mL_thingOf l hfl Z nT nK cT cK ad g q (nI q9) 3 hI) (vx_cwSW 3 hts (gl_S uk_4_46 uk_4_47 uk_1_0 uk_4_48) rfl rfl rfl (by decide +kernel) ⟨Nat.le_of_ble_eq_true rfl, Nat.le_of_ble_eq_true rfl⟩) ⟨sPreL_blind _, fun U hU hW => ⟨rfl, ⟨hE.next hS hU hW.alike, by rw [hU]; exact hP⟩, hNc.next hW.alike⟩⟩ rfl rfl hl.1 rfl (lv_room (Nat.le_of_ble_eq_true rfl)) dL_law_853 ⟨by show _ ≤ 600074; (try dsimp only); omega, by show _ ≤ 7301550; (try dsimp only); omega⟩) hS (fun r gz qz H locs e9 hP hS => ?_)
    obtain ⟨er, eg, eq⟩ := eq_q (z := 1) (a_T hI hq9).2.1 (by rw [if_neg h5]; rfl) e9
    subst er; subst eg; subst eq
    refine lv_lconst (v := lI 1) hx hb dL_law_856 rfl ?_
    refine W.lcmp hx hb dL_law_857 ?_
    refine lv_if_ne (tgt := 865) hx hb dL_law_858 (by decide) (fun cz9 => absurd (c_eq (a := 1) (b := 1) (by omega)) cz9) (fun _ => ?_)
    refine lv_iconst (v := 1) hx hb dL_law_861 (by decide) ?_
    refine lv_goto (tgt := 866) hx hb dL_law_862 (by decide) ?_
    refine lv_istore (lv' := [(12, .int 1), (11, .int (nI c9)), (10, .int (nI q9)), (9, .int (nI wh)), (8, .int (nI y)), (6, .int (nI k)), (5, .int 1), (4, .int (nI nK)), (3, .int (nI nT)), (2, .ref (ad 90)), (1, .ref (ad 60)), (0, .ref b)]) hx hb dL_law_866 hl (by decide) rfl (fun ls hl => ?_)
    refine lv_aload_n hx hb dL_law_868 rfl (lv_at hl 10 rfl) ?_
    refine lv_iload hx hb dL_law_869 (lv_at hl 2 rfl) ?_
    refine lv_iconst (v := 4) hx hb dL_law_871 (by decide) ?_
    refine sy_kl (vx_runSW (As := [.ref (ad 60), .int (nI q9), .int 4]) (rest := []) ⟨hx, hb, hml, hown, hts⟩ (mL_thingOf l hfl Z nT nK cT cK ad g q (nI q9) 4 hI) (vx_cwSW 3 hts (gl_S uk_4_46 uk_4_47 uk_1_0 uk_4_48) rfl rfl rfl (by decide +kernel) ⟨Nat.le_of_ble_eq_true rfl, Nat.le_of_ble_eq_true rfl⟩) ⟨sPreL_blind _, fun U hU hW => ⟨rfl, ⟨hE.next hS hU hW.alike, by rw [hU]; exact hP⟩, hNc.next hW.alike⟩⟩ rfl rfl hl.1 rfl (lv_room (Nat.le_of_ble_eq_true rfl)) dL_law_872 ⟨by show _ ≤ 600074; (try dsimp only); omega, by show _ ≤ 7301550; (try dsimp only); omega⟩) hS (fun r gz qz H locs e9 hP hS => ?_)
    obtain ⟨er, eg, eq⟩ := eq_q (z := (g (100 + q9) 7).toInt) (a_T hI hq9).2.2.1 rfl e9
    subst er; subst eg; subst eq
    refine lv_lstore (lv' := [(13, .long (lI ((g (100 + q9) 7).toInt))), (12, .int 1), (11, .int (nI c9)), (10, .int (nI q9)), (9, .int (nI wh)), (8, .int (nI y)), (6, .int (nI k)), (5, .int 1), (4, .int (nI nK)), (3, .int (nI nT)), (2, .ref (ad 90)), (1, .ref (ad 60)), (0, .ref b)]) hx hb dL_law_875 hl (by decide) rfl (fun ls hl => ?_)
    refine lv_aload_n hx hb dL_law_877 rfl (lv_at hl 11 rfl) ?_
    refine lv_iload hx hb dL_law_878 (lv_at hl 3 rfl) ?_
    refine lv_iload hx hb dL_law_880 (lv_at hl 5 rfl) ?_
    refine lv_iconst (v := 3) hx hb dL_law_882 (by decide) ?_
    refine lv_irem hx hb dL_law_883 (by decide) ?_
    refine sy_top (y := nI (y % 3)) (nI_rem (a := y) (b := 3) (by omega) (by omega)) ?_
    refine lv_iload hx hb dL_law_884 (lv_at hl 5 rfl) ?_
    refine lv_iconst (v := 4) hx hb dL_law_886 (by decide) ?_
    refine lv_idiv hx hb dL_law_887 (by decide) ?_
    refine sy_top (y := nI (y / 4)) (nI_div (a := y) (b := 4) (by omega) (by omega)) ?_
    refine lv_iconst (v := 4) hx hb dL_law_888 (by decide) ?_
    refine lv_irem hx hb dL_law_889 (by decide) ?_
    refine sy_top (y := nI ((y / 4) % 4)) (nI_rem (a := (y / 4)) (b := 4) (by omega) (by omega)) ?_
    refine sy_kl (vx_runSW (As := [.ref (ad 60), .int (nI q9), .int (nI (y % 3)), .int (nI ((y / 4) % 4))]) (rest := []) ⟨hx, hb, hml, hown, hts⟩ (mL_stray l hfl Z nT nK cT cK ad g q (nI q9) (nI (y % 3)) (nI ((y / 4) % 4)) hI) (vx_cwSW 4 hts (gl_S uk_3_203 uk_3_204 uk_1_0 uk_3_205) rfl rfl rfl (by decide +kernel) ⟨Nat.le_of_ble_eq_true rfl, Nat.le_of_ble_eq_true rfl⟩) ⟨sPreL_blind _, fun U hU hW => ⟨rfl, ⟨hE.next hS hU hW.alike, by rw [hU]; exact hP⟩, hNc.next hW.alike⟩⟩ rfl rfl hl.1 rfl (lv_room (Nat.le_of_ble_eq_true rfl)) dL_law_890 ⟨by show _ ≤ 600074; (try dsimp only); omega, by show _ ≤ 7301550; (try dsimp only); omega⟩) hS (fun r g1 q1 H locs e9 hP hS => ?_)
    obtain ⟨er, eg, eq⟩ := eq_yv h1 e9
    subst er
    rw [eg, eq] at hI2
    rw [eg] at h2 h3 h4
    have hI := hI2
    clear e9 eg eq h1
    refine lv_iload hx hb dL_law_893 (lv_at hl 1 rfl) ?_
    refine lv_if_eq (tgt := 902) hx hb dL_law_895 (by decide) (fun cz9 => absurd cz9 (by decide)) (fun _ => ?_)
    refine lv_lconst (v := lI 0) hx hb dL_law_898 rfl ?_
    refine lv_goto (tgt := 905) hx hb dL_law_899 (by decide) ?_
    refine W.lcmp hx hb dL_law_905 ?_
    refine lv_if_ne (tgt := 926) hx hb dL_law_906 (by decide) (fun cz9 => absurd (c_eq (a := 0) (b := 0) (by omega)) cz9) (fun _ => ?_)
    refine lv_aload_n hx hb dL_law_909 rfl (lv_at hl 11 rfl) ?_
    refine lv_iload hx hb dL_law_910 (lv_at hl 3 rfl) ?_
    refine lv_iconst (v := 4) hx hb dL_law_912 (by decide) ?_
    refine sy_kl (vx_runSW (As := [.ref (ad 60), .int (nI q9), .int 4]) (rest := []) ⟨hx, hb, hml, hown, hts⟩ (mL_thingOf l hfl Z nT nK cT cK ad g1 q1 (nI q9) 4 hI) (vx_cwSW 3 hts (gl_S uk_4_46 uk_4_47 uk_1_0 uk_4_48) rfl rfl rfl (by decide +kernel) ⟨Nat.le_of_ble_eq_true rfl, Nat.le_of_ble_eq_true rfl⟩) ⟨sPreL_blind _, fun U hU hW => ⟨rfl, ⟨hE.next hS hU hW.alike, by rw [hU]; exact hP⟩, hNc.next hW.alike⟩⟩ rfl rfl hl.1 rfl (lv_room (Nat.le_of_ble_eq_true rfl)) dL_law_913 ⟨by show _ ≤ 600074; (try dsimp only); omega, by show _ ≤ 7301550; (try dsimp only); omega⟩) hS (fun r gz qz H locs e9 hP hS => ?_)
    obtain ⟨er, eg, eq⟩ := eq_q (z := (g (100 + q9) 7).toInt) (a_T hI hq9).2.2.1 (by rw [h2]) e9
    subst er; subst eg; subst eq
    refine lv_lload hx hb dL_law_916 (lv_at hl 0 rfl) ?_
    refine W.lcmp hx hb dL_law_918 ?_
    refine lv_if_ne (tgt := 926) hx hb dL_law_919 (by decide) (fun cz9 => absurd (c_eq (a := (g (100 + q9) 7).toInt) (b := (g (100 + q9) 7).toInt) (by omega)) cz9) (fun _ => ?_)
    refine lv_iconst (v := 1) hx hb dL_law_922 (by decide) ?_
    refine lv_goto (tgt := 927) hx hb dL_law_923 (by decide) ?_
    refine lv_istore (lv' := [(5, .int 1), (13, .long (lI ((g (100 + q9) 7).toInt))), (12, .int 1), (11, .int (nI c9)), (10, .int (nI q9)), (9, .int (nI wh)), (8, .int (nI y)), (6, .int (nI k)), (4, .int (nI nK)), (3, .int (nI nT)), (2, .ref (ad 90)), (1, .ref (ad 60)), (0, .ref b)]) hx hb dL_law_927 hl (by decide) rfl (fun ls hl => ?_)
    refine lv_iload hx hb dL_law_929 (lv_at hl 0 rfl) ?_
    refine lv_if_eq (tgt := 991) hx hb dL_law_931 (by decide) (fun cz9 => absurd cz9 (by decide)) (fun _ => ?_)
    refine lv_iload hx hb dL_law_934 (lv_at hl 6 rfl) ?_
    refine lv_bipush (v := 16) hx hb dL_law_936 (by decide) ?_
    refine lv_idiv hx hb dL_law_938 (by decide) ?_
    refine sy_top (y := nI (y / 16)) (nI_div (a := y) (b := 16) (by omega) (by omega)) ?_
    refine lv_iconst (v := 3) hx hb dL_law_939 (by decide) ?_
    refine lv_irem hx hb dL_law_940 (by decide) ?_
    refine sy_top (y := nI ((y / 16) % 3)) (nI_rem (a := (y / 16)) (b := 3) (by omega) (by omega)) ?_
    by_cases h3y : 0 < y / 16 % 3
    · skip
      refine lv_if_gt (tgt := 987) hx hb dL_law_941 (by decide) (fun _ => ?_) (fun cz9 => absurd ((nI_ltI (a := 0) (b := ((y / 16) % 3)) (by omega) (by omega)).mpr (by omega)) cz9)
      refine lv_iconst (v := 1) hx hb dL_law_987 (by decide) ?_
      refine lv_goto (tgt := 992) hx hb dL_law_988 (by decide) ?_
      refine lv_istore (lv' := [(5, .int 1), (13, .long (lI ((g (100 + q9) 7).toInt))), (12, .int 1), (11, .int (nI c9)), (10, .int (nI q9)), (9, .int (nI wh)), (8, .int (nI y)), (6, .int (nI k)), (4, .int (nI nK)), (3, .int (nI nT)), (2, .ref (ad 90)), (1, .ref (ad 60)), (0, .ref b)]) hx hb dL_law_992 hl (by decide) rfl (fun ls hl => ?_)
      refine lv_goto (tgt := 1280) hx hb dL_law_994 (by decide) ?_
      refine W.widen (k := 100 + 2000 * k + 100) (n := 4000 + 14000 * k + 1000) (by (try dsimp only); omega) (by (try dsimp only); omega) ?_
      exact hJ _ _ _ _ _ _ _ _ _ _ (by omega) ⟨hP, (ci_n (by omega) hI), h70, h71, hS, lv_sub hl [7, 0, 8, 9, 10, 11, 12] rfl⟩
    · skip
      refine lv_if_gt (tgt := 987) hx hb dL_law_941 (by decide) (fun cz9 => absurd cz9 (mt (nI_ltI (a := 0) (b := ((y / 16) % 3)) (by omega) (by omega)).mp (by omega))) (fun _ => ?_)
      refine lv_aload_n hx hb dL_law_944 rfl (lv_at hl 11 rfl) ?_
      refine lv_iload hx hb dL_law_945 (lv_at hl 6 rfl) ?_
      refine lv_iconst (v := 3) hx hb dL_law_947 (by decide) ?_
      refine lv_irem hx hb dL_law_948 (by decide) ?_
      refine sy_top (y := nI (y % 3)) (nI_rem (a := y) (b := 3) (by omega) (by omega)) ?_
      refine sy_kl (vx_runSW (As := [.ref (ad 60), .int (nI (y % 3))]) (rest := []) ⟨hx, hb, hml, hown, hts⟩ (mL_count l hfl Z nT nK cT cK ad g1 q1 (nI (y % 3)) hI) (vx_cwSW 2 hts (gl_S uk_3_214 uk_3_215 uk_1_0 uk_3_216) rfl rfl rfl (by decide +kernel) ⟨Nat.le_of_ble_eq_true rfl, Nat.le_of_ble_eq_true rfl⟩) ⟨sPreL_blind _, fun U hU hW => ⟨rfl, ⟨hE.next hS hU hW.alike, by rw [hU]; exact hP⟩, hNc.next hW.alike⟩⟩ rfl rfl hl.1 rfl (lv_room (Nat.le_of_ble_eq_true rfl)) dL_law_949 ⟨by show _ ≤ 600074; (try dsimp only); omega, by show _ ≤ 7301550; (try dsimp only); omega⟩) hS (fun r g2 q2 H locs e9 hP hS => ?_)
      obtain ⟨n1, n2, hI3, n4⟩ := p_count hI (b := y % 3) (by omega)
      obtain ⟨zz, hzz⟩ : ∃ zz : Int, (fX6_count g1 q1 (nI (y % 3))).2.1.toInt = zz := ⟨_, rfl⟩
      have bz : -2147483648 ≤ zz ∧ zz < 2147483648 := by rw [← hzz]; exact i32b _
      rw [hzz] at n2
      have n5 := n4 q9 hq9 (by rw [h4]; exact h5) (by rw [h3, show (4 : Int32) = nI 4 from rfl, nI_div (by omega) (by omega)]; congr 1; omega)
      rw [h3] at n5
      obtain ⟨er, eg, eq⟩ := eq_y (z := zz) n1 hzz e9
      subst er
      rw [eg, eq] at hI3
      rw [eg] at n5
      have hI := hI3
      clear e9 eg eq
      refine lv_lconst (v := lI 0) hx hb dL_law_952 rfl ?_
      refine W.lcmp hx hb dL_law_953 ?_
      refine lv_if_lt (tgt := 991) hx hb dL_law_954 (by decide) (fun cz9 => absurd cz9 (c_ge (a := zz) (b := 0) (by omega) (by omega) (by omega))) (fun _ => ?_)
      refine lv_iload hx hb dL_law_957 (lv_at hl 2 rfl) ?_
      refine lv_if_eq (tgt := 987) hx hb dL_law_959 (by decide) (fun cz9 => absurd cz9 (by decide)) (fun _ => ?_)
      refine lv_aload_n hx hb dL_law_962 rfl (lv_at hl 11 rfl) ?_
      refine lv_iload hx hb dL_law_963 (lv_at hl 4 rfl) ?_
      refine lv_iconst (v := 4) hx hb dL_law_965 (by decide) ?_
      refine sy_kl (vx_runSW (As := [.ref (ad 60), .int (nI q9), .int 4]) (rest := []) ⟨hx, hb, hml, hown, hts⟩ (mL_thingOf l hfl Z nT nK cT cK ad g2 q2 (nI q9) 4 hI) (vx_cwSW 3 hts (gl_S uk_4_46 uk_4_47 uk_1_0 uk_4_48) rfl rfl rfl (by decide +kernel) ⟨Nat.le_of_ble_eq_true rfl, Nat.le_of_ble_eq_true rfl⟩) ⟨sPreL_blind _, fun U hU hW => ⟨rfl, ⟨hE.next hS hU hW.alike, by rw [hU]; exact hP⟩, hNc.next hW.alike⟩⟩ rfl rfl hl.1 rfl (lv_room (Nat.le_of_ble_eq_true rfl)) dL_law_966 ⟨by show _ ≤ 600074; (try dsimp only); omega, by show _ ≤ 7301550; (try dsimp only); omega⟩) hS (fun r gz qz H locs e9 hP hS => ?_)
      obtain ⟨er, eg, eq⟩ := eq_q (z := ((4 * (y % 3) + y / 4 % 4 : Nat) : Int)) (a_T hI hq9).2.2.1 (by rw [n5]; exact nI_toInt (by omega)) e9
      subst er; subst eg; subst eq
      refine lv_iconst (v := 4) hx hb dL_law_969 (by decide) ?_
      refine lv_iload hx hb dL_law_970 (lv_at hl 6 rfl) ?_
      refine lv_iconst (v := 3) hx hb dL_law_972 (by decide) ?_
      refine lv_irem hx hb dL_law_973 (by decide) ?_
      refine sy_top (y := nI (y % 3)) (nI_rem (a := y) (b := 3) (by omega) (by omega)) ?_
      refine lv_imul hx hb dL_law_974 ?_
      refine sy_top (y := nI (4 * (y % 3))) (nI_mul 4 (y % 3)) ?_
      refine lv_iload hx hb dL_law_975 (lv_at hl 6 rfl) ?_
      refine lv_iconst (v := 4) hx hb dL_law_977 (by decide) ?_
      refine lv_idiv hx hb dL_law_978 (by decide) ?_
      refine sy_top (y := nI (y / 4)) (nI_div (a := y) (b := 4) (by omega) (by omega)) ?_
      refine lv_iconst (v := 4) hx hb dL_law_979 (by decide) ?_
      refine lv_irem hx hb dL_law_980 (by decide) ?_
      refine sy_top (y := nI ((y / 4) % 4)) (nI_rem (a := (y / 4)) (b := 4) (by omega) (by omega)) ?_
      refine lv_iadd hx hb dL_law_981 ?_
      refine sy_top (y := nI ((4 * (y % 3)) + ((y / 4) % 4))) (nI_add (4 * (y % 3)) ((y / 4) % 4)) ?_
      refine lv_i2l (v := lI ((((4 * (y % 3)) + ((y / 4) % 4)) : Nat) : Int)) hx hb dL_law_982 (nI_L (by omega)) ?_
      refine W.lcmp hx hb dL_law_983 ?_
      refine lv_if_ne (tgt := 991) hx hb dL_law_984 (by decide) (fun cz9 => absurd (c_eq (a := ((4 * (y % 3) + y / 4 % 4 : Nat) : Int)) (b := ((((4 * (y % 3)) + ((y / 4) % 4)) : Nat) : Int)) (by omega)) cz9) (fun _ => ?_)
      refine lv_iconst (v := 1) hx hb dL_law_987 (by decide) ?_
      refine lv_goto (tgt := 992) hx hb dL_law_988 (by decide) ?_
      refine lv_istore (lv' := [(5, .int 1), (13, .long (lI ((g (100 + q9) 7).toInt))), (12, .int 1), (11, .int (nI c9)), (10, .int (nI q9)), (9, .int (nI wh)), (8, .int (nI y)), (6, .int (nI k)), (4, .int (nI nK)), (3, .int (nI nT)), (2, .ref (ad 90)), (1, .ref (ad 60)), (0, .ref b)]) hx hb dL_law_992 hl (by decide) rfl (fun ls hl => ?_)
      refine lv_goto (tgt := 1280) hx hb dL_law_994 (by decide) ?_
      refine W.widen (k := 100 + 2000 * k + 100) (n := 4000 + 14000 * k + 1000) (by (try dsimp only); omega) (by (try dsimp only); omega) ?_
      exact hJ _ _ _ _ _ _ _ _ _ _ (by omega) ⟨hP, (ci_n (by omega) hI), h70, h71, hS, lv_sub hl [7, 0, 8, 9, 10, 11, 12] rfl⟩
end LWC
