section LWC
variable {p : Program} {l : Launch} {e : Env} {s : State} {m : MethodId} {below : List Frame} {meth : Method} {c : Code} {b L : Nat} {xs : Nat → Int32} {Z : sZ}
set_option maxHeartbeats 8000000 in
set_option maxRecDepth 100000 in
theorem lc_D2 (hC : lCtx p l s m meth c b L xs Z) {k : Nat} (hk : k < 48) {nT nK cT cK : Nat} {ad : Nat → Nat} {g : sG} {q : sQ} {H : Heap} {locs : List Loc} {ls : Array Slot} {c9 y : Nat} (hy : y < 2147483648) (hT0 : 0 < nT) (hc9 : c9 < nK) (h : lSt Z s b k (k + 1) nT nK cT cK ad g q H locs ls [(11, .int (nI c9)), (8, .int (nI y))]) (hJ : ∀ (nT nK cT cK : Nat) (ad : Nat → Nat) (g : sG) (q : sQ) (H : Heap) (locs : List Loc) (ls : Array Slot), 0 < nT → lSt Z s b k (k + 2) nT nK cT cK ad g q H locs ls [] → W p l e room_1 s m #[Value.ref b] below meth c H locs (100 + 2000 * k + 100) (4000 + 14000 * k + 1000) (lw_Z below #[Value.ref b] s) (F0 m 1280 ls [])) : W p l e room_1 s m #[Value.ref b] below meth c H locs (100 + 2000 * k + 20) (4000 + 14000 * k + 200) (lw_Z below #[Value.ref b] s) (F0 m 662 ls []) := by
  obtain ⟨hx, hb, hr, hml, hown, hts, hX, hbl, hlocks, hZ, hE, hNc, hfl⟩ := hC
  obtain ⟨hP, hI, h70, h71, hS, hl⟩ := h
  have hl : lv_has ls 18 [(11, .int (nI c9)), (8, .int (nI y)), (6, .int (nI k)), (5, .int 1), (4, .int (nI nK)), (3, .int (nI nT)), (2, .ref (ad 90)), (1, .ref (ad 60)), (0, .ref b)] := hl
  have hT40 := ci_T hI
  have hK40 := ci_K hI
  refine lv_iload hx hb dL_law_662 (lv_at hl 3 rfl) ?_
  refine lv_if_eq (tgt := 702) hx hb dL_law_664 (by decide) (fun cz9 => absurd cz9 (by decide)) (fun _ => ?_)
  refine lv_iload hx hb dL_law_667 (lv_at hl 1 rfl) ?_
  refine lv_bipush (v := 32) hx hb dL_law_669 (by decide) ?_
  refine lv_idiv hx hb dL_law_671 (by decide) ?_
  refine sy_top (y := nI (y / 32)) (nI_div (a := y) (b := 32) (by omega) (by omega)) ?_
  refine lv_iconst (v := 3) hx hb dL_law_672 (by decide) ?_
  refine lv_irem hx hb dL_law_673 (by decide) ?_
  refine sy_top (y := nI ((y / 32) % 3)) (nI_rem (a := (y / 32)) (b := 3) (by omega) (by omega)) ?_
  by_cases h3 : 0 < y / 32 % 3
  · skip
    refine lv_if_gt (tgt := 698) hx hb dL_law_674 (by decide) (fun _ => ?_) (fun cz9 => absurd ((nI_ltI (a := 0) (b := ((y / 32) % 3)) (by omega) (by omega)).mpr (by omega)) cz9)
    refine lv_iconst (v := 1) hx hb dL_law_698 (by decide) ?_
    refine lv_goto (tgt := 703) hx hb dL_law_699 (by decide) ?_
    refine lv_istore (lv' := [(5, .int 1), (11, .int (nI c9)), (8, .int (nI y)), (6, .int (nI k)), (4, .int (nI nK)), (3, .int (nI nT)), (2, .ref (ad 90)), (1, .ref (ad 60)), (0, .ref b)]) hx hb dL_law_703 hl (by decide) rfl (fun ls hl => ?_)
    refine lv_goto (tgt := 1280) hx hb dL_law_705 (by decide) ?_
    refine W.widen (k := 100 + 2000 * k + 100) (n := 4000 + 14000 * k + 1000) (by (try dsimp only); omega) (by (try dsimp only); omega) ?_
    exact hJ _ _ _ _ _ _ _ _ _ _ (by omega) ⟨hP, (ci_n (by omega) hI), h70, h71, hS, lv_sub hl [3, 0, 4, 5, 6, 7, 8] rfl⟩
  · skip
    refine lv_if_gt (tgt := 698) hx hb dL_law_674 (by decide) (fun cz9 => absurd cz9 (mt (nI_ltI (a := 0) (b := ((y / 32) % 3)) (by omega) (by omega)).mp (by omega))) (fun _ => ?_)
    refine lv_aload_n hx hb dL_law_677 rfl (lv_at hl 7 rfl) ?_
    refine lv_iload hx hb dL_law_678 (lv_at hl 0 rfl) ?_
    refine lv_iload hx hb dL_law_680 (lv_at hl 1 rfl) ?_
    refine lv_bipush (v := 64) hx hb dL_law_682 (by decide) ?_
    refine lv_idiv hx hb dL_law_684 (by decide) ?_
    refine sy_top (y := nI (y / 64)) (nI_div (a := y) (b := 64) (by omega) (by omega)) ?_
    refine lv_bipush (v := 10) hx hb dL_law_685 (by decide) ?_
    refine lv_irem hx hb dL_law_687 (by decide) ?_
    refine sy_top (y := nI ((y / 64) % 10)) (nI_rem (a := (y / 64)) (b := 10) (by omega) (by omega)) ?_
    refine sy_kl (vx_runSW (As := [.ref (ad 60), .int (nI c9), .int (nI ((y / 64) % 10))]) (rest := []) ⟨hx, hb, hml, hown, hts⟩ (mL_give l hfl Z nT nK cT cK ad g q (nI c9) (nI ((y / 64) % 10)) hI) (vx_cwSW 3 hts (gl_S uk_3_144 uk_3_145 uk_1_0 uk_3_146) rfl rfl rfl (by decide +kernel) ⟨Nat.le_of_ble_eq_true rfl, Nat.le_of_ble_eq_true rfl⟩) ⟨sPreL_blind _, fun U hU hW => ⟨rfl, ⟨hE.next hS hU hW.alike, by rw [hU]; exact hP⟩, hNc.next hW.alike⟩⟩ rfl rfl hl.1 rfl (lv_room (Nat.le_of_ble_eq_true rfl)) dL_law_688 ⟨by show _ ≤ 600074; (try dsimp only); omega, by show _ ≤ 7301550; (try dsimp only); omega⟩) hS (fun r g1 q1 H locs e9 hP hS => ?_)
    rcases p_give hI hc9 (p := y / 64 % 10) (by omega) with hw | ⟨h1, hI2⟩
    · skip
      obtain ⟨er, eg, eq⟩ := eq_n3 hw e9
      subst er; subst eg; subst eq
      refine lv_ldc2 (v := lI (-9000000000000000003)) hx hb hown (hts _ (wsU_tbl uk_2_183)) dL_law_691 ?_
      refine W.lcmp hx hb dL_law_694 ?_
      refine lv_if_lt (tgt := 702) hx hb dL_law_695 (by decide) (fun cz9 => absurd cz9 (c_ge (a := (-9000000000000000003)) (b := (-9000000000000000003)) (by omega) (by omega) (by omega))) (fun _ => ?_)
      refine lv_iconst (v := 1) hx hb dL_law_698 (by decide) ?_
      refine lv_goto (tgt := 703) hx hb dL_law_699 (by decide) ?_
      refine lv_istore (lv' := [(5, .int 1), (11, .int (nI c9)), (8, .int (nI y)), (6, .int (nI k)), (4, .int (nI nK)), (3, .int (nI nT)), (2, .ref (ad 90)), (1, .ref (ad 60)), (0, .ref b)]) hx hb dL_law_703 hl (by decide) rfl (fun ls hl => ?_)
      refine lv_goto (tgt := 1280) hx hb dL_law_705 (by decide) ?_
      refine W.widen (k := 100 + 2000 * k + 100) (n := 4000 + 14000 * k + 1000) (by (try dsimp only); omega) (by (try dsimp only); omega) ?_
      exact hJ _ _ _ _ _ _ _ _ _ _ (by omega) ⟨hP, (ci_n (by omega) hI), h70, h71, hS, lv_sub hl [3, 0, 4, 5, 6, 7, 8] rfl⟩
    · skip
      obtain ⟨zz, hzz⟩ : ∃ zz : Int, (fX6_give g q (nI c9) (nI (y / 64 % 10))).2.1.toInt = zz := ⟨_, rfl⟩
      have bz : -2147483648 ≤ zz ∧ zz < 2147483648 := by rw [← hzz]; exact i32b _
      obtain ⟨er, eg, eq⟩ := eq_y (z := zz) h1 hzz e9
      subst er
      rw [eg, eq] at hI2
      have hI := hI2
      clear e9
      refine lv_ldc2 (v := lI (-9000000000000000003)) hx hb hown (hts _ (wsU_tbl uk_2_183)) dL_law_691 ?_
      refine W.lcmp hx hb dL_law_694 ?_
      refine lv_if_lt (tgt := 702) hx hb dL_law_695 (by decide) (fun cz9 => absurd cz9 (c_ge (a := zz) (b := (-9000000000000000003)) (by omega) (by omega) (by omega))) (fun _ => ?_)
      refine lv_iconst (v := 1) hx hb dL_law_698 (by decide) ?_
      refine lv_goto (tgt := 703) hx hb dL_law_699 (by decide) ?_
      refine lv_istore (lv' := [(5, .int 1), (11, .int (nI c9)), (8, .int (nI y)), (6, .int (nI k)), (4, .int (nI nK)), (3, .int (nI nT)), (2, .ref (ad 90)), (1, .ref (ad 60)), (0, .ref b)]) hx hb dL_law_703 hl (by decide) rfl (fun ls hl => ?_)
      refine lv_goto (tgt := 1280) hx hb dL_law_705 (by decide) ?_
      refine W.widen (k := 100 + 2000 * k + 100) (n := 4000 + 14000 * k + 1000) (by (try dsimp only); omega) (by (try dsimp only); omega) ?_
      exact hJ _ _ _ _ _ _ _ _ _ _ (by omega) ⟨hP, (ci_n (by omega) hI), h70, h71, hS, lv_sub hl [3, 0, 4, 5, 6, 7, 8] rfl⟩
end LWC
