section LWC
variable {p : Program} {l : Launch} {e : Env} {s : State} {m : MethodId} {below : List Frame} {meth : Method} {c : Code} {b L : Nat} {xs : Nat → Int32} {Z : sZ}
set_option maxHeartbeats 8000000 in
set_option maxRecDepth 100000 in
theorem lc_C (hC : lCtx p l s m meth c b L xs Z) {k : Nat} (hk : k < 48) {nT nK cT cK : Nat} {ad : Nat → Nat} {g : sG} {q : sQ} {H : Heap} {locs : List Loc} {ls : Array Slot} {wh q9 c9 y : Nat} (hy : y < 2147483648) (hwh : 5 ≤ wh ∧ wh < 8) (hT0 : 0 < nT) (hK0 : 0 < nK) (hc9 : c9 < nK) (h : lSt Z s b k (k + 1) nT nK cT cK ad g q H locs ls [(11, .int (nI c9)), (10, .int (nI q9)), (9, .int (nI wh)), (8, .int (nI y))]) (hJ : ∀ (nT nK cT cK : Nat) (ad : Nat → Nat) (g : sG) (q : sQ) (H : Heap) (locs : List Loc) (ls : Array Slot), 0 < nT → lSt Z s b k (k + 2) nT nK cT cK ad g q H locs ls [] → W p l e room_1 s m #[Value.ref b] below meth c H locs (100 + 2000 * k + 100) (4000 + 14000 * k + 1000) (lw_Z below #[Value.ref b] s) (F0 m 1280 ls [])) : W p l e room_1 s m #[Value.ref b] below meth c H locs (100 + 2000 * k) (4000 + 14000 * k) (lw_Z below #[Value.ref b] s) (F0 m 133 ls []) := by
  obtain ⟨hx, hb, hr, hml, hown, hts, hX, hbl, hlocks, hZ, hE, hNc, hfl⟩ := hC
  obtain ⟨hP, hI, h70, h71, hS, hl⟩ := h
  have hl : lv_has ls 18 [(11, .int (nI c9)), (10, .int (nI q9)), (9, .int (nI wh)), (8, .int (nI y)), (6, .int (nI k)), (5, .int 1), (4, .int (nI nK)), (3, .int (nI nT)), (2, .ref (ad 90)), (1, .ref (ad 60)), (0, .ref b)] := hl
  have hT40 := ci_T hI
  have hK40 := ci_K hI
  refine lv_iload hx hb dL_law_133 (lv_at hl 2 rfl) ?_
  refine lv_iconst (v := 4) hx hb dL_law_135 (by decide) ?_
  refine lv_icmp_lt (tgt := 143) hx hb dL_law_136 (by decide) (fun cz9 => absurd cz9 (mt (nI_ltI (a := wh) (b := 4) (by omega) (by omega)).mp (by omega))) (fun _ => ?_)
  refine lv_iload_n hx hb dL_law_139 rfl (lv_at hl 7 rfl) ?_
  refine lv_if_ne (tgt := 377) hx hb dL_law_140 (by decide) (fun _ => ?_) (fun cz9 => absurd cz9 (mt (nI_eq (a := nT) (b := 0) (by omega) (by omega)).mp (by omega)))
  refine lv_iload hx hb dL_law_377 (lv_at hl 2 rfl) ?_
  refine lv_iconst (v := 4) hx hb dL_law_379 (by decide) ?_
  refine lv_icmp_ne (tgt := 506) hx hb dL_law_380 (by decide) (fun _ => ?_) (fun cz9 => absurd cz9 (mt (nI_eq (a := wh) (b := 4) (by omega) (by omega)).mp (by omega)))
  refine lv_iload hx hb dL_law_506 (lv_at hl 2 rfl) ?_
  refine lv_bipush (v := 8) hx hb dL_law_508 (by decide) ?_
  refine lv_icmp_ge (tgt := 539) hx hb dL_law_510 (by decide) (fun cz9 => absurd cz9 (mt (nI_leI (a := 8) (b := wh) (by omega) (by omega)).mp (by omega))) (fun _ => ?_)
  refine lv_iload hx hb dL_law_513 (lv_at hl 6 rfl) ?_
  refine lv_if_le (tgt := 539) hx hb dL_law_515 (by decide) (fun cz9 => absurd cz9 (mt (nI_leI (a := nK) (b := 0) (by omega) (by omega)).mp (by omega))) (fun _ => ?_)
  refine lv_aload_n hx hb dL_law_518 rfl (lv_at hl 9 rfl) ?_
  refine lv_iload hx hb dL_law_519 (lv_at hl 0 rfl) ?_
  refine lv_iload hx hb dL_law_521 (lv_at hl 3 rfl) ?_
  refine lv_bipush (v := 8) hx hb dL_law_523 (by decide) ?_
  refine lv_irem hx hb dL_law_525 (by decide) ?_
  refine sy_top (y := nI (y % 8)) (nI_rem (a := y) (b := 8) (by omega) (by omega)) ?_
  refine lv_iload hx hb dL_law_526 (lv_at hl 3 rfl) ?_
  refine lv_bipush (v := 8) hx hb dL_law_528 (by decide) ?_
  refine lv_idiv hx hb dL_law_530 (by decide) ?_
  refine sy_top (y := nI (y / 8)) (nI_div (a := y) (b := 8) (by omega) (by omega)) ?_
  refine sy_ki (va_runS (As := [.ref (ad 60), .int (nI c9), .int (nI (y % 8)), .int (nI (y / 8))]) (rest := []) ⟨hx, hb, hml, hown, hts⟩ (nL_ends l hfl Z nT nK cT cK ad g q (j := c9) (how := y % 8) (yy := y / 8) hI (by omega) hc9 (by omega) (by omega)) (va_cwS 4 hts (gl_S uk_4_206 uk_4_207 uk_1_0 uk_4_208) rfl rfl rfl (by decide +kernel) ⟨Nat.le_of_ble_eq_true rfl, Nat.le_of_ble_eq_true rfl⟩) ⟨sPreL_blind _, fun U hU hW => ⟨rfl, ⟨hE.next hS hU hW.alike, by rw [hU]; exact hP⟩, hNc.next hW.alike⟩⟩ rfl rfl hl.1 rfl (lv_room (Nat.le_of_ble_eq_true rfl)) dL_law_531 ⟨by show _ ≤ 600074; (try dsimp only); omega, by show _ ≤ 7301550; (try dsimp only); omega⟩) hS (fun r g1 q1 H locs e9 hP hS => ?_)
  obtain ⟨er, hI2⟩ := e9
  subst er
  have hI := hI2
  refine lv_istore (lv' := [(5, .int 1), (11, .int (nI c9)), (10, .int (nI q9)), (9, .int (nI wh)), (8, .int (nI y)), (6, .int (nI k)), (4, .int (nI nK)), (3, .int (nI nT)), (2, .ref (ad 90)), (1, .ref (ad 60)), (0, .ref b)]) hx hb dL_law_534 hl (by decide) rfl (fun ls hl => ?_)
  refine lv_goto (tgt := 1280) hx hb dL_law_536 (by decide) ?_
  refine W.widen (k := 100 + 2000 * k + 100) (n := 4000 + 14000 * k + 1000) (by (try dsimp only); omega) (by (try dsimp only); omega) ?_
  exact hJ _ _ _ _ _ _ _ _ _ _ (by omega) ⟨hP, hI, h70, h71, hS, lv_sub hl [5, 0, 6, 7, 8, 9, 10] rfl⟩
end LWC
