theorem kAl {D : va_G} {cl : List vw_C} {cy : Nat → ClassId} {s : State} {cA : ClassId} (h : va_K D cl (sy_tys cy ++ [(cA, .long)]) s) : cA = cy 5 := Option.some.inj ((h.2 6 _ rfl).2.symm.trans (h.2 5 _ rfl).2)
theorem law_gt {L k : Nat} (hL : L ≤ 3584) (hk : 7 * k ≤ 3584) : (Int32.ofNat L - 7 < nI (7 * k)) = (L < 7 * k + 7) := by
  rw [lt_of_toInt, nI_toInt (by omega)]
  have h1 : (Int32.ofNat L - 7).toInt = (L : Int) - 7 := by
    have h2 : (Int32.ofNat L).toInt = (L : Int) := nI_toInt (n := L) (by omega)
    have h3 : (7 : Int32).toInt = 7 := rfl
    rw [toInt_subb (by omega) (by omega), h2, h3]
  rw [h1]
  exact propext ⟨fun _ => by omega, fun _ => by omega⟩
set_option maxHeartbeats 8000000 in
set_option maxRecDepth 100000 in
theorem law_loop9 {p : Program} {l : Launch} {e : Env} {s : State} {m : MethodId} {below : List Frame} {meth : Method} {c : Code} {b L : Nat} {xs : Nat → Int32} {Z : sZ} (hC : lCtx p l s m meth c b L xs Z) (hL : L ≤ 3584) : ∀ n k, k + n = L / 7 → ∀ {nT nK cT cK : Nat} {ad : Nat → Nat} {g : sG} {q : sQ} {H : Heap} {locs : List Loc} {ls : Array Slot}, lSt Z s b k k nT nK cT cK ad g q H locs ls → W p l e room_1 s m #[Value.ref b] below meth c H locs (100 + 16 * k) (4000 + 200 * k) (lw_Z below #[Value.ref b] s) (F0 m 23 ls []) := by
  have hC' := hC
  obtain ⟨hx, hb, hr, hml, hown, hts, hX, hbl, hlocks, hZ, hE, hNc, hfl⟩ := hC'
  have hbA : ¬ sy_A Z b := fun z => absurd (show Z.2.2.1 ≤ b from z) (by omega)
  intro n
  induction n with
  | zero =>
    intro k hkn nT nK cT cK ad g q H locs ls h
    obtain ⟨hP, hI, h70, h71, hS, hl⟩ := h
    refine lv_iload hx hb dL_law_23 (lv_at hl 0 rfl) ?_
    refine lv_aload_n hx hb dL_law_25 rfl (lv_at hl 1 rfl) ?_
    refine va_slen hx hb hX hbl hbA hS dL_law_26 ?_
    refine lv_bipush (v := 7) hx hb dL_law_27 (by decide) ?_
    refine lv_isub hx hb dL_law_29 ?_
    refine lv_icmp_gt (tgt := 2278) hx hb dL_law_30 (by decide) (fun _ => ?_) (fun c9 => absurd (by rw [law_gt hL (by omega)]; omega) c9)
    refine lv_iconst (v := 1) hx hb dL_law_2278 (by decide) ?_
    refine va_forget (fun q hq => by have := hS.2.2 q hq; rw [← hZ]; exact this) ?_
    refine W.widen (k := 601024) (n := 7293034) (by omega) (by omega) ?_
    exact lw_ret hx hb hr hlocks dL_law_2279
  | succ n ih =>
    intro k hkn nT nK cT cK ad g q H locs ls h
    have hk : 7 * k + 7 ≤ L := by omega
    have hJ : ∀ (nT nK cT cK : Nat) (ad : Nat → Nat) (g : sG) (q : sQ) (H : Heap) (locs : List Loc) (ls : Array Slot), lSt Z s b k (k + 1) nT nK cT cK ad g q H locs ls → W p l e room_1 s m #[Value.ref b] below meth c H locs (100 + 16 * (k + 1)) (4000 + 200 * (k + 1)) (lw_Z below #[Value.ref b] s) (F0 m 2272 ls []) := by
      intro nT nK cT cK ad g q H locs ls h
      obtain ⟨hP, hI, h70, h71, hS, hl⟩ := h
      refine lv_iinc (v := nI (7 * (k + 1))) (lv' := [(4, .int (nI (7 * (k + 1)))), (0, .ref b), (1, .ref (ad 60)), (2, .ref (ad 0)), (3, .ref (ad 90))]) hx hb dL_law_2272 hl (k := 0) rfl (by show nI (7 * k) + nI 7 = _; rw [nI_add, Nat.mul_succ]) (by decide) rfl (fun ls hl => ?_)
      refine lv_goto (tgt := 23) hx hb dL_law_2275 (by decide) ?_
      exact ih (k + 1) (by omega) ⟨hP, hI, h70, h71, hS, hl⟩
    have h' := h
    obtain ⟨hP, hI, h70, h71, hS, hl⟩ := h
    refine lv_iload hx hb dL_law_23 (lv_at hl 0 rfl) ?_
    refine lv_aload_n hx hb dL_law_25 rfl (lv_at hl 1 rfl) ?_
    refine va_slen hx hb hX hbl hbA hS dL_law_26 ?_
    refine lv_bipush (v := 7) hx hb dL_law_27 (by decide) ?_
    refine lv_isub hx hb dL_law_29 ?_
    refine lv_icmp_gt (tgt := 2278) hx hb dL_law_30 (by decide) (fun c9 => absurd c9 (by rw [law_gt hL (by omega)]; omega)) (fun _ => ?_)
    refine lv_aload_n hx hb dL_law_33 rfl (lv_at hl 1 rfl) ?_
    refine lv_iload hx hb dL_law_34 (lv_at hl 0 rfl) ?_
    refine va_sld hx hb hX hbl hbA hS (vp_in_nI (show 7 * k < L by omega) (by omega)) dL_law_36 ?_
    refine lv_bipush (v := 63) hx hb dL_law_37 (by decide) ?_
    refine lv_iand hx hb dL_law_39 ?_
    by_cases hr9 : 0 ≤ xs (nI (7 * k)).toNatClampNeg &&& 63 ∧ xs (nI (7 * k)).toNatClampNeg &&& 63 ≤ nI 32
    · obtain ⟨j, hj, hv⟩ := i32_cases (by decide) hr9
      rcases (show j = 0 ∨ j = 1 ∨ j = 2 ∨ j = 3 ∨ j = 4 ∨ j = 5 ∨ j = 6 ∨ j = 7 ∨ j = 8 ∨ j = 9 ∨ j = 10 ∨ j = 11 ∨ j = 12 ∨ j = 13 ∨ j = 14 ∨ j = 15 ∨ j = 16 ∨ j = 17 ∨ j = 18 ∨ j = 19 ∨ j = 20 ∨ j = 21 ∨ j = 22 ∨ j = 23 ∨ j = 24 ∨ j = 25 ∨ j = 26 ∨ j = 27 ∨ j = 28 ∨ j = 29 ∨ j = 30 ∨ j = 31 ∨ j = 32 by omega) with rfl | rfl | rfl | rfl | rfl | rfl | rfl | rfl | rfl | rfl | rfl | rfl | rfl | rfl | rfl | rfl | rfl | rfl | rfl | rfl | rfl | rfl | rfl | rfl | rfl | rfl | rfl | rfl | rfl | rfl | rfl | rfl | rfl
      · refine sy_top (y := 0) hv ?_
        refine lv_tableIn (x := 0) (tgt := 188) hx hb dL_law_40 (by decide) (by decide) rfl (by decide) ?_
        exact lc_thing hC hk hL hJ h'
      · refine sy_top (y := 1) hv ?_
        refine lv_tableIn (x := 1) (tgt := 268) hx hb dL_law_40 (by decide) (by decide) rfl (by decide) ?_
        exact lc_fashion hC hk hL hJ h'
      · refine sy_top (y := 2) hv ?_
        refine lv_tableIn (x := 2) (tgt := 336) hx hb dL_law_40 (by decide) (by decide) rfl (by decide) ?_
        exact lc_bias hC hk hL hJ h'
      · refine sy_top (y := 3) hv ?_
        refine lv_tableIn (x := 3) (tgt := 404) hx hb dL_law_40 (by decide) (by decide) rfl (by decide) ?_
        exact lc_classOf hC hk hL hJ h'
      · refine sy_top (y := 4) hv ?_
        refine lv_tableIn (x := 4) (tgt := 472) hx hb dL_law_40 (by decide) (by decide) rfl (by decide) ?_
        exact lc_charter hC hk hL hJ h'
      · refine sy_top (y := 5) hv ?_
        refine lv_tableIn (x := 5) (tgt := 532) hx hb dL_law_40 (by decide) (by decide) rfl (by decide) ?_
        exact lc_rate hC hk hL hJ h'
      · refine sy_top (y := 6) hv ?_
        refine lv_tableIn (x := 6) (tgt := 600) hx hb dL_law_40 (by decide) (by decide) rfl (by decide) ?_
        exact lc_term hC hk hL hJ h'
      · refine sy_top (y := 7) hv ?_
        refine lv_tableIn (x := 7) (tgt := 656) hx hb dL_law_40 (by decide) (by decide) rfl (by decide) ?_
        exact lc_amnesty hC hk hL hJ h'
      · refine sy_top (y := 8) hv ?_
        refine lv_tableIn (x := 8) (tgt := 724) hx hb dL_law_40 (by decide) (by decide) rfl (by decide) ?_
        exact lc_pledge hC hk hL hJ h'
      · refine sy_top (y := 9) hv ?_
        refine lv_tableIn (x := 9) (tgt := 858) hx hb dL_law_40 (by decide) (by decide) rfl (by decide) ?_
        exact lc_redeem hC hk hL hJ h'
      · refine sy_top (y := 10) hv ?_
        refine lv_tableIn (x := 10) (tgt := 926) hx hb dL_law_40 (by decide) (by decide) rfl (by decide) ?_
        exact lc_renew hC hk hL hJ h'
      · refine sy_top (y := 11) hv ?_
        refine lv_tableIn (x := 11) (tgt := 1006) hx hb dL_law_40 (by decide) (by decide) rfl (by decide) ?_
        exact lc_give hC hk hL hJ h'
      · refine sy_top (y := 12) hv ?_
        refine lv_tableIn (x := 12) (tgt := 1074) hx hb dL_law_40 (by decide) (by decide) rfl (by decide) ?_
        exact lc_notice hC hk hL hJ h'
      · refine sy_top (y := 13) hv ?_
        refine lv_tableIn (x := 13) (tgt := 1122) hx hb dL_law_40 (by decide) (by decide) rfl (by decide) ?_
        exact lc_show hC hk hL hJ h'
      · refine sy_top (y := 14) hv ?_
        refine lv_tableIn (x := 14) (tgt := 1178) hx hb dL_law_40 (by decide) (by decide) rfl (by decide) ?_
        exact lc_police hC hk hL hJ h'
      · refine sy_top (y := 15) hv ?_
        refine lv_tableIn (x := 15) (tgt := 1234) hx hb dL_law_40 (by decide) (by decide) rfl (by decide) ?_
        exact lc_court hC hk hL hJ h'
      · refine sy_top (y := 16) hv ?_
        refine lv_tableIn (x := 16) (tgt := 1318) hx hb dL_law_40 (by decide) (by decide) rfl (by decide) ?_
        exact lc_stray hC hk hL hJ h'
      · refine sy_top (y := 17) hv ?_
        refine lv_tableIn (x := 17) (tgt := 1378) hx hb dL_law_40 (by decide) (by decide) rfl (by decide) ?_
        exact lc_count hC hk hL hJ h'
      · refine sy_top (y := 18) hv ?_
        refine lv_tableIn (x := 18) (tgt := 1434) hx hb dL_law_40 (by decide) (by decide) rfl (by decide) ?_
        exact lc_transfer hC hk hL hJ h'
      · refine sy_top (y := 19) hv ?_
        refine lv_tableIn (x := 19) (tgt := 1502) hx hb dL_law_40 (by decide) (by decide) rfl (by decide) ?_
        exact lc_wind hC hk hL hJ h'
      · refine sy_top (y := 20) hv ?_
        refine lv_tableIn (x := 20) (tgt := 1558) hx hb dL_law_40 (by decide) (by decide) rfl (by decide) ?_
        exact lc_pass hC hk hL hJ h'
      · refine sy_top (y := 21) hv ?_
        refine lv_tableIn (x := 21) (tgt := 1614) hx hb dL_law_40 (by decide) (by decide) rfl (by decide) ?_
        exact lc_offer hC hk hL hJ h'
      · refine sy_top (y := 22) hv ?_
        refine lv_tableIn (x := 22) (tgt := 1682) hx hb dL_law_40 (by decide) (by decide) rfl (by decide) ?_
        exact lc_claim hC hk hL hJ h'
      · refine sy_top (y := 23) hv ?_
        refine lv_tableIn (x := 23) (tgt := 1750) hx hb dL_law_40 (by decide) (by decide) rfl (by decide) ?_
        exact lc_deposit hC hk hL hJ h'
      · refine sy_top (y := 24) hv ?_
        refine lv_tableIn (x := 24) (tgt := 1806) hx hb dL_law_40 (by decide) (by decide) rfl (by decide) ?_
        exact lc_withdraw hC hk hL hJ h'
      · refine sy_top (y := 25) hv ?_
        refine lv_tableIn (x := 25) (tgt := 1862) hx hb dL_law_40 (by decide) (by decide) rfl (by decide) ?_
        exact lc_day hC hk hL hJ h'
      · refine sy_top (y := 26) hv ?_
        refine lv_tableIn (x := 26) (tgt := 1875) hx hb dL_law_40 (by decide) (by decide) rfl (by decide) ?_
        exact lc_thingOf hC hk hL hJ h'
      · refine sy_top (y := 27) hv ?_
        refine lv_tableIn (x := 27) (tgt := 1943) hx hb dL_law_40 (by decide) (by decide) rfl (by decide) ?_
        exact lc_ticketOf hC hk hL hJ h'
      · refine sy_top (y := 28) hv ?_
        refine lv_tableIn (x := 28) (tgt := 2011) hx hb dL_law_40 (by decide) (by decide) rfl (by decide) ?_
        exact lc_interestAnew hC hk hL hJ h'
      · refine sy_top (y := 29) hv ?_
        refine lv_tableIn (x := 29) (tgt := 2067) hx hb dL_law_40 (by decide) (by decide) rfl (by decide) ?_
        exact lc_expertOf hC hk hL hJ h'
      · refine sy_top (y := 30) hv ?_
        refine lv_tableIn (x := 30) (tgt := 2135) hx hb dL_law_40 (by decide) (by decide) rfl (by decide) ?_
        exact lc_bears hC hk hL hJ h'
      · refine sy_top (y := 31) hv ?_
        refine lv_tableIn (x := 31) (tgt := 2203) hx hb dL_law_40 (by decide) (by decide) rfl (by decide) ?_
        exact lc_money hC hk hL hJ h'
      · refine sy_top (y := 32) hv ?_
        refine lv_tableIn (x := 32) (tgt := 2259) hx hb dL_law_40 (by decide) (by decide) rfl (by decide) ?_
        exact lc_moneyAnew hC hk hL hJ h'
    · refine lv_tableOut (tgt := 2272) hx hb dL_law_40 ?_ (by decide) ?_
      · by_cases z : (xs (nI (7 * k)).toNatClampNeg &&& 63).toInt < 0
        · exact Or.inl z
        · right
          have h0 : (0 : Int32).toInt = 0 := rfl
          have h32 : (nI 32).toInt = 32 := nI_toInt (by decide)
          rw [le_of_toInt, le_of_toInt, h0, h32] at hr9
          omega
      · refine W.widen (k := 100 + 16 * (k + 1)) (n := 4000 + 200 * (k + 1)) (by omega) (by omega) ?_
        exact hJ _ _ _ _ _ _ _ _ _ _ ⟨hP, inv_B (Nat.mul_le_mul_right _ (Nat.le_succ k)) hI, h70, h71, hS, hl⟩
set_option maxHeartbeats 8000000 in
set_option maxRecDepth 100000 in
theorem whole_start {p : Program} {e : Env} {s : State} {m : MethodId} {below : List Frame} {meth : Method} {c : Code} (l : Launch) (hflags : l.flags = flags0) {b L : Nat} {xs : Nat → Int32} (hL : L ≤ 3584) (C0 : lw_At p s m meth c b L xs) : W p l e room_1 s m #[Value.ref b] below meth c s.heap [] 0 0 (lw_Z below #[Value.ref b] s) (entryFrame m ([Value.ref b] : List Value).toArray 7) := by
  obtain ⟨hx, hb, hr, hml, hown, hts, hX, hbl, hlocks, hgv⟩ := C0
  have hfl : l.stackTraces = false := by
    unfold Launch.stackTraces
    rw [hflags]
    decide
  obtain ⟨Z, hZ, hE, hNc, hN1, hN2, hN3⟩ := law_env hts hgv
  have hC : lCtx p l s m meth c b L xs Z := ⟨hx, hb, hr, hml, hown, hts, hX, hbl, hlocks, hZ, hE, hNc, hfl⟩
  have hA : ∀ q : Nat, s.heap.size ≤ q → sy_A Z q := fun q h => by rw [← hZ] at h; exact h
  have hK := hE.1
  have hP : va_P Z.1 vwCl [] s.heap := fun k q h => by cases h
  have hD : va_D (sy_A Z) [] := ⟨fun i j p9 q9 h h2 h3 => (by cases h), fun k q9 h => (by cases h)⟩
  have hS : va_S (sy_A Z) s.heap s.heap [] := va_S.rf
  have hl := lv_entry ([.ref b]) (n := 7) (Nat.le_of_ble_eq_true rfl)
  rw [lg_entry_eq]
  generalize (lg_sl ([.ref b]) ++ List.replicate (7 - (lg_sl ([.ref b])).length) Slot.unset).toArray = ls at hl ⊢
  have hl : lv_has ls 7 [(0, .ref b)] := hl
  refine va_new (ci := 7) (fs := [.null, .null, .null, .null, .null, .null, .null, .null, .int 0, .int 0]) (C := RX6) (T := TX6) (N := 10) hx hb hts (uin_tbl uin_RX6) tyX6 tyX6_ok hown (hts _ (wsU_tbl uk_1_24)) (hts _ (wsU_tbl uk_1_25)) (hts _ (wsU_tbl uk_1_1)) hK hP hD hS hA rfl (fun j hj => by rcases (show j = 0 ∨ j = 1 ∨ j = 2 ∨ j = 3 ∨ j = 4 ∨ j = 5 ∨ j = 6 ∨ j = 7 ∨ j = 8 ∨ j = 9 by omega) with rfl | rfl | rfl | rfl | rfl | rfl | rfl | rfl | rfl | rfl <;> rfl) (by show _ ≤ 601024; (try dsimp only); omega) (by show _ ≤ 7293034; (try dsimp only); omega) dL_law_0 (fun a H hP hD hS => ?_)
  have hP : va_P Z.1 vwCl [(a, .inr (7, [.null, .null, .null, .null, .null, .null, .null, .null, .int 0, .int 0]))] H := hP
  have hD : va_D (sy_A Z) [(a, .inr (7, [.null, .null, .null, .null, .null, .null, .null, .null, .int 0, .int 0]))] := hD
  refine lv_dup hx hb dL_law_3 rfl ?_
  have hFc := va_free (wc := [(a, .inr (7, [.null, .null, .null, .null, .null, .null, .null, .null, .int 0, .int 0]))]) hD hS hA [0] rfl
  have hNa : Z.2.2.1 ≤ a := hD.2 0 _ rfl
  have hNs : Z.2.2.1 ≤ H.size := by rw [hZ]; exact hS.1
  have hZc : ∀ U : State, U.heap = H → s.WarmedH U.vm → va_Z "java/util/ArrayList" "DEFAULTCAPACITY_EMPTY_ELEMENTDATA" "[Ljava/lang/Object;" (.ref Z.2.2.2) (sy_A Z) U U.heap := fun U hU hW => (hE.next hS hU hW.alike).2.2.2.2.1.1
  refine va_callv (va_runI (As := []) (rest := [.ref a]) ⟨hx, hb, hml, hown, hts⟩ (kX6_init l Z a H.size) (cwI 0 hts (gl_all uk_1_28) rfl rfl rfl (hts _ (wsU_tbl uk_1_1)) (hts _ (wsU_tbl uk_1_26)) (hts _ (wsU_tbl uk_1_27)) rfl (by decide +kernel) ⟨Nat.le_of_ble_eq_true rfl, Nat.le_of_ble_eq_true rfl⟩) ⟨fun a U g mk q => by obtain ⟨q0, q1, q2, q3, q4, q5, q6, q7, q8, q9, q10, q11, q12⟩ := q; exact ⟨q0, q1, va_K.moved (u := U) (U := U.calling g mk a) (Vm.Alike.refl U.vm) q2, va_Z.moved (u := U) (U := U.calling g mk a) (Vm.Alike.refl U.vm) q3, va_AO.moved (u := U) (U := U.calling g mk a) (Vm.Alike.refl U.vm) q4, va_AO.moved (u := U) (U := U.calling g mk a) (Vm.Alike.refl U.vm) q5, q6, q7, va_Nw.same rfl rfl q8, va_Nw.same rfl rfl q9, va_Nw.same rfl rfl q10, q11, q12⟩, fun U hU hW => ⟨rfl, by rw [hU], va_K.moved hW.alike hK, hZc U hU hW, va_AO.moved hW.alike hE.2.2.2.2.1.2.2.2.2.1, va_AO.moved hW.alike hE.2.2.2.2.1.2.2.2.2.2.1, hNa, hNs, va_Nw.warmM hW hN1, va_Nw.warmM hW hN2, va_Nw.warmM hW hN3, by rw [hU]; exact hP, hD.weaken (fun _ _ _ _ => trivial)⟩⟩ rfl rfl hl.1 rfl (lv_room (Nat.le_of_ble_eq_true rfl)) dL_law_4 ⟨by show _ ≤ 601024; (try dsimp only); omega, by show _ ≤ 7293034; (try dsimp only); omega⟩) hS (fun q _ h => hFc q h) hFc (fun u t H1 locs ht hvm hu hB hz1 hk1 hS => ?_)
  obtain ⟨hP1, hD1⟩ := hB
  rw [ht] at hP1
  obtain ⟨b9, rfl⟩ : ∃ z, z = u := ⟨_, rfl⟩
  obtain ⟨hP, hD⟩ := va_join (wr := []) (w1 := [(a, .inr (7, [.ref (b9 0), .ref (b9 1), .ref (b9 2), .ref (b9 3), .ref (b9 8), .ref (b9 12), .ref (b9 13), .ref (b9 19), .int 120, .int 0])), ((b9 0), .inr (0, [.int 0, .ref Z.2.2.2, .int 0])), ((b9 1), .inr (0, [.int 0, .ref Z.2.2.2, .int 0])), ((b9 2), .inl (Z.2.1 0, 4, .inl (va_up (va_up (va_up (va_up (fun _ => 0) 0 100) 1 100) 2 100) 3 100))), ((b9 3), .inl (Z.2.1 3, 4, .inr (.inr (.inr (.inr (va_up (va_up (va_up (va_up (fun _ => none) 0 (some (b9 4))) 1 (some (b9 5))) 2 (some (b9 6))) 3 (some (b9 7)))))))), ((b9 4), .inr (2, [.int 0, .int 0, .int 0])), ((b9 5), .inr (2, [.int 0, .int 0, .int 0])), ((b9 6), .inr (2, [.int 0, .int 0, .int 0])), ((b9 7), .inr (2, [.int 0, .int 0, .int 0])), ((b9 8), .inl (Z.2.1 4, 3, .inr (.inr (.inr (.inr (va_up (va_up (va_up (fun _ => none) 0 (some (b9 9))) 1 (some (b9 10))) 2 (some (b9 11)))))))), ((b9 9), .inr (1, [.int 0, .int 50, .int 1000])), ((b9 10), .inr (1, [.int 1, .int 50, .int 1000])), ((b9 11), .inr (1, [.int 2, .int 50, .int 1000])), ((b9 12), .inl (Z.2.1 4, 10, .inr (.inr (.inr (.inr (va_up (va_up (va_up (va_up (va_up (va_up (va_up (va_up (va_up (va_up (fun _ => none) 0 (some (b9 9))) 1 (some (b9 9))) 2 (some (b9 9))) 3 (some (b9 9))) 4 (some (b9 9))) 5 (some (b9 9))) 6 (some (b9 9))) 7 (some (b9 9))) 8 (some (b9 9))) 9 (some (b9 9)))))))), ((b9 13), .inr (3, [.ref (b9 14), .ref (b9 15), .ref (b9 16), .int 0, .ref (b9 17), .ref (b9 18), .int 0])), ((b9 14), .inl (Z.2.1 0, 30, .inl (fun _ => 0))), ((b9 15), .inl (Z.2.1 0, 30, .inl (fun _ => 0))), ((b9 16), .inl (Z.2.1 0, 30, .inl (fun _ => 0))), ((b9 17), .inl (Z.2.1 0, 10, .inl (fun _ => 0))), ((b9 18), .inl (Z.2.1 0, 10, .inl (fun _ => 0))), ((b9 19), .inr (6, [.int 0, .int 0, .int 0, .ref (b9 20), .int 0])), ((b9 20), .inl (Z.2.1 0, 600, .inl (fun _ => 0)))]) hP hD [0] [] rfl rfl (by decide) (by decide) hk1 hFc hP1 hD1
  generalize H1 = H at hP hS ⊢
  have hP : va_P Z.1 vwCl [(a, .inr (7, [.ref (b9 0), .ref (b9 1), .ref (b9 2), .ref (b9 3), .ref (b9 8), .ref (b9 12), .ref (b9 13), .ref (b9 19), .int 120, .int 0])), ((b9 0), .inr (0, [.int 0, .ref Z.2.2.2, .int 0])), ((b9 1), .inr (0, [.int 0, .ref Z.2.2.2, .int 0])), ((b9 2), .inl (Z.2.1 0, 4, .inl (va_up (va_up (va_up (va_up (fun _ => 0) 0 100) 1 100) 2 100) 3 100))), ((b9 3), .inl (Z.2.1 3, 4, .inr (.inr (.inr (.inr (va_up (va_up (va_up (va_up (fun _ => none) 0 (some (b9 4))) 1 (some (b9 5))) 2 (some (b9 6))) 3 (some (b9 7)))))))), ((b9 4), .inr (2, [.int 0, .int 0, .int 0])), ((b9 5), .inr (2, [.int 0, .int 0, .int 0])), ((b9 6), .inr (2, [.int 0, .int 0, .int 0])), ((b9 7), .inr (2, [.int 0, .int 0, .int 0])), ((b9 8), .inl (Z.2.1 4, 3, .inr (.inr (.inr (.inr (va_up (va_up (va_up (fun _ => none) 0 (some (b9 9))) 1 (some (b9 10))) 2 (some (b9 11)))))))), ((b9 9), .inr (1, [.int 0, .int 50, .int 1000])), ((b9 10), .inr (1, [.int 1, .int 50, .int 1000])), ((b9 11), .inr (1, [.int 2, .int 50, .int 1000])), ((b9 12), .inl (Z.2.1 4, 10, .inr (.inr (.inr (.inr (va_up (va_up (va_up (va_up (va_up (va_up (va_up (va_up (va_up (va_up (fun _ => none) 0 (some (b9 9))) 1 (some (b9 9))) 2 (some (b9 9))) 3 (some (b9 9))) 4 (some (b9 9))) 5 (some (b9 9))) 6 (some (b9 9))) 7 (some (b9 9))) 8 (some (b9 9))) 9 (some (b9 9)))))))), ((b9 13), .inr (3, [.ref (b9 14), .ref (b9 15), .ref (b9 16), .int 0, .ref (b9 17), .ref (b9 18), .int 0])), ((b9 14), .inl (Z.2.1 0, 30, .inl (fun _ => 0))), ((b9 15), .inl (Z.2.1 0, 30, .inl (fun _ => 0))), ((b9 16), .inl (Z.2.1 0, 30, .inl (fun _ => 0))), ((b9 17), .inl (Z.2.1 0, 10, .inl (fun _ => 0))), ((b9 18), .inl (Z.2.1 0, 10, .inl (fun _ => 0))), ((b9 19), .inr (6, [.int 0, .int 0, .int 0, .ref (b9 20), .int 0])), ((b9 20), .inl (Z.2.1 0, 600, .inl (fun _ => 0)))] H := hP
  have hD : va_D (sy_A Z) [(a, .inr (7, [.ref (b9 0), .ref (b9 1), .ref (b9 2), .ref (b9 3), .ref (b9 8), .ref (b9 12), .ref (b9 13), .ref (b9 19), .int 120, .int 0])), ((b9 0), .inr (0, [.int 0, .ref Z.2.2.2, .int 0])), ((b9 1), .inr (0, [.int 0, .ref Z.2.2.2, .int 0])), ((b9 2), .inl (Z.2.1 0, 4, .inl (va_up (va_up (va_up (va_up (fun _ => 0) 0 100) 1 100) 2 100) 3 100))), ((b9 3), .inl (Z.2.1 3, 4, .inr (.inr (.inr (.inr (va_up (va_up (va_up (va_up (fun _ => none) 0 (some (b9 4))) 1 (some (b9 5))) 2 (some (b9 6))) 3 (some (b9 7)))))))), ((b9 4), .inr (2, [.int 0, .int 0, .int 0])), ((b9 5), .inr (2, [.int 0, .int 0, .int 0])), ((b9 6), .inr (2, [.int 0, .int 0, .int 0])), ((b9 7), .inr (2, [.int 0, .int 0, .int 0])), ((b9 8), .inl (Z.2.1 4, 3, .inr (.inr (.inr (.inr (va_up (va_up (va_up (fun _ => none) 0 (some (b9 9))) 1 (some (b9 10))) 2 (some (b9 11)))))))), ((b9 9), .inr (1, [.int 0, .int 50, .int 1000])), ((b9 10), .inr (1, [.int 1, .int 50, .int 1000])), ((b9 11), .inr (1, [.int 2, .int 50, .int 1000])), ((b9 12), .inl (Z.2.1 4, 10, .inr (.inr (.inr (.inr (va_up (va_up (va_up (va_up (va_up (va_up (va_up (va_up (va_up (va_up (fun _ => none) 0 (some (b9 9))) 1 (some (b9 9))) 2 (some (b9 9))) 3 (some (b9 9))) 4 (some (b9 9))) 5 (some (b9 9))) 6 (some (b9 9))) 7 (some (b9 9))) 8 (some (b9 9))) 9 (some (b9 9)))))))), ((b9 13), .inr (3, [.ref (b9 14), .ref (b9 15), .ref (b9 16), .int 0, .ref (b9 17), .ref (b9 18), .int 0])), ((b9 14), .inl (Z.2.1 0, 30, .inl (fun _ => 0))), ((b9 15), .inl (Z.2.1 0, 30, .inl (fun _ => 0))), ((b9 16), .inl (Z.2.1 0, 30, .inl (fun _ => 0))), ((b9 17), .inl (Z.2.1 0, 10, .inl (fun _ => 0))), ((b9 18), .inl (Z.2.1 0, 10, .inl (fun _ => 0))), ((b9 19), .inr (6, [.int 0, .int 0, .int 0, .ref (b9 20), .int 0])), ((b9 20), .inl (Z.2.1 0, 600, .inl (fun _ => 0)))] := hD
  refine lv_astore_n (lv' := [(1, .ref a), (0, .ref b)]) hx hb dL_law_7 rfl hl (by decide) rfl (fun ls hl => ?_)
  refine va_new (ci := 8) (fs := [.int 0, .int 0, .int 0, .null, .null, .null, .null, .null, .null, .null, .null, .null, .null, .null, .null, .null, .null, .null, .null, .null, .int 0, .null, .null, .null, .int 0, .null, .null, .int 0, .int 0, .null, .null, .null, .null, .null, .null, .null, .null, .null, .null, .null, .null, .null, .null, .null, .int 0, .int 0, .int 0]) (C := RX7) (T := TX7) (N := 47) hx hb hts (uin_tbl uin_RX7) tyX7 tyX7_ok hown (hts _ (wsU_tbl uk_4_184)) (hts _ (wsU_tbl uk_4_185)) (hts _ (wsU_tbl uk_1_9)) hK hP hD hS hA rfl (fun j hj => by rcases (show j = 0 ∨ j = 1 ∨ j = 2 ∨ j = 3 ∨ j = 4 ∨ j = 5 ∨ j = 6 ∨ j = 7 ∨ j = 8 ∨ j = 9 ∨ j = 10 ∨ j = 11 ∨ j = 12 ∨ j = 13 ∨ j = 14 ∨ j = 15 ∨ j = 16 ∨ j = 17 ∨ j = 18 ∨ j = 19 ∨ j = 20 ∨ j = 21 ∨ j = 22 ∨ j = 23 ∨ j = 24 ∨ j = 25 ∨ j = 26 ∨ j = 27 ∨ j = 28 ∨ j = 29 ∨ j = 30 ∨ j = 31 ∨ j = 32 ∨ j = 33 ∨ j = 34 ∨ j = 35 ∨ j = 36 ∨ j = 37 ∨ j = 38 ∨ j = 39 ∨ j = 40 ∨ j = 41 ∨ j = 42 ∨ j = 43 ∨ j = 44 ∨ j = 45 ∨ j = 46 by omega) with rfl | rfl | rfl | rfl | rfl | rfl | rfl | rfl | rfl | rfl | rfl | rfl | rfl | rfl | rfl | rfl | rfl | rfl | rfl | rfl | rfl | rfl | rfl | rfl | rfl | rfl | rfl | rfl | rfl | rfl | rfl | rfl | rfl | rfl | rfl | rfl | rfl | rfl | rfl | rfl | rfl | rfl | rfl | rfl | rfl | rfl | rfl <;> rfl) (by show _ ≤ 601024; (try dsimp only); omega) (by show _ ≤ 7293034; (try dsimp only); omega) dL_law_8 (fun m9 H hP hD hS => ?_)
  have hP : va_P Z.1 vwCl ([(a, .inr (7, [.ref (b9 0), .ref (b9 1), .ref (b9 2), .ref (b9 3), .ref (b9 8), .ref (b9 12), .ref (b9 13), .ref (b9 19), .int 120, .int 0])), ((b9 0), .inr (0, [.int 0, .ref Z.2.2.2, .int 0])), ((b9 1), .inr (0, [.int 0, .ref Z.2.2.2, .int 0])), ((b9 2), .inl (Z.2.1 0, 4, .inl (va_up (va_up (va_up (va_up (fun _ => 0) 0 100) 1 100) 2 100) 3 100))), ((b9 3), .inl (Z.2.1 3, 4, .inr (.inr (.inr (.inr (va_up (va_up (va_up (va_up (fun _ => none) 0 (some (b9 4))) 1 (some (b9 5))) 2 (some (b9 6))) 3 (some (b9 7)))))))), ((b9 4), .inr (2, [.int 0, .int 0, .int 0])), ((b9 5), .inr (2, [.int 0, .int 0, .int 0])), ((b9 6), .inr (2, [.int 0, .int 0, .int 0])), ((b9 7), .inr (2, [.int 0, .int 0, .int 0])), ((b9 8), .inl (Z.2.1 4, 3, .inr (.inr (.inr (.inr (va_up (va_up (va_up (fun _ => none) 0 (some (b9 9))) 1 (some (b9 10))) 2 (some (b9 11)))))))), ((b9 9), .inr (1, [.int 0, .int 50, .int 1000])), ((b9 10), .inr (1, [.int 1, .int 50, .int 1000])), ((b9 11), .inr (1, [.int 2, .int 50, .int 1000])), ((b9 12), .inl (Z.2.1 4, 10, .inr (.inr (.inr (.inr (va_up (va_up (va_up (va_up (va_up (va_up (va_up (va_up (va_up (va_up (fun _ => none) 0 (some (b9 9))) 1 (some (b9 9))) 2 (some (b9 9))) 3 (some (b9 9))) 4 (some (b9 9))) 5 (some (b9 9))) 6 (some (b9 9))) 7 (some (b9 9))) 8 (some (b9 9))) 9 (some (b9 9)))))))), ((b9 13), .inr (3, [.ref (b9 14), .ref (b9 15), .ref (b9 16), .int 0, .ref (b9 17), .ref (b9 18), .int 0])), ((b9 14), .inl (Z.2.1 0, 30, .inl (fun _ => 0))), ((b9 15), .inl (Z.2.1 0, 30, .inl (fun _ => 0))), ((b9 16), .inl (Z.2.1 0, 30, .inl (fun _ => 0))), ((b9 17), .inl (Z.2.1 0, 10, .inl (fun _ => 0))), ((b9 18), .inl (Z.2.1 0, 10, .inl (fun _ => 0))), ((b9 19), .inr (6, [.int 0, .int 0, .int 0, .ref (b9 20), .int 0])), ((b9 20), .inl (Z.2.1 0, 600, .inl (fun _ => 0)))] ++ [(m9, .inr (8, [.int 0, .int 0, .int 0, .null, .null, .null, .null, .null, .null, .null, .null, .null, .null, .null, .null, .null, .null, .null, .null, .null, .int 0, .null, .null, .null, .int 0, .null, .null, .int 0, .int 0, .null, .null, .null, .null, .null, .null, .null, .null, .null, .null, .null, .null, .null, .null, .null, .int 0, .int 0, .int 0]))]) H := hP
  have hD : va_D (sy_A Z) ([(a, .inr (7, [.ref (b9 0), .ref (b9 1), .ref (b9 2), .ref (b9 3), .ref (b9 8), .ref (b9 12), .ref (b9 13), .ref (b9 19), .int 120, .int 0])), ((b9 0), .inr (0, [.int 0, .ref Z.2.2.2, .int 0])), ((b9 1), .inr (0, [.int 0, .ref Z.2.2.2, .int 0])), ((b9 2), .inl (Z.2.1 0, 4, .inl (va_up (va_up (va_up (va_up (fun _ => 0) 0 100) 1 100) 2 100) 3 100))), ((b9 3), .inl (Z.2.1 3, 4, .inr (.inr (.inr (.inr (va_up (va_up (va_up (va_up (fun _ => none) 0 (some (b9 4))) 1 (some (b9 5))) 2 (some (b9 6))) 3 (some (b9 7)))))))), ((b9 4), .inr (2, [.int 0, .int 0, .int 0])), ((b9 5), .inr (2, [.int 0, .int 0, .int 0])), ((b9 6), .inr (2, [.int 0, .int 0, .int 0])), ((b9 7), .inr (2, [.int 0, .int 0, .int 0])), ((b9 8), .inl (Z.2.1 4, 3, .inr (.inr (.inr (.inr (va_up (va_up (va_up (fun _ => none) 0 (some (b9 9))) 1 (some (b9 10))) 2 (some (b9 11)))))))), ((b9 9), .inr (1, [.int 0, .int 50, .int 1000])), ((b9 10), .inr (1, [.int 1, .int 50, .int 1000])), ((b9 11), .inr (1, [.int 2, .int 50, .int 1000])), ((b9 12), .inl (Z.2.1 4, 10, .inr (.inr (.inr (.inr (va_up (va_up (va_up (va_up (va_up (va_up (va_up (va_up (va_up (va_up (fun _ => none) 0 (some (b9 9))) 1 (some (b9 9))) 2 (some (b9 9))) 3 (some (b9 9))) 4 (some (b9 9))) 5 (some (b9 9))) 6 (some (b9 9))) 7 (some (b9 9))) 8 (some (b9 9))) 9 (some (b9 9)))))))), ((b9 13), .inr (3, [.ref (b9 14), .ref (b9 15), .ref (b9 16), .int 0, .ref (b9 17), .ref (b9 18), .int 0])), ((b9 14), .inl (Z.2.1 0, 30, .inl (fun _ => 0))), ((b9 15), .inl (Z.2.1 0, 30, .inl (fun _ => 0))), ((b9 16), .inl (Z.2.1 0, 30, .inl (fun _ => 0))), ((b9 17), .inl (Z.2.1 0, 10, .inl (fun _ => 0))), ((b9 18), .inl (Z.2.1 0, 10, .inl (fun _ => 0))), ((b9 19), .inr (6, [.int 0, .int 0, .int 0, .ref (b9 20), .int 0])), ((b9 20), .inl (Z.2.1 0, 600, .inl (fun _ => 0)))] ++ [(m9, .inr (8, [.int 0, .int 0, .int 0, .null, .null, .null, .null, .null, .null, .null, .null, .null, .null, .null, .null, .null, .null, .null, .null, .null, .int 0, .null, .null, .null, .int 0, .null, .null, .int 0, .int 0, .null, .null, .null, .null, .null, .null, .null, .null, .null, .null, .null, .null, .null, .null, .null, .int 0, .int 0, .int 0]))]) := hD
  refine lv_dup hx hb dL_law_11 rfl ?_
  have hPc := hP.sub (ws' := [(m9, .inr (8, [.int 0, .int 0, .int 0, .null, .null, .null, .null, .null, .null, .null, .null, .null, .null, .null, .null, .null, .null, .null, .null, .null, .int 0, .null, .null, .null, .int 0, .null, .null, .int 0, .int 0, .null, .null, .null, .null, .null, .null, .null, .null, .null, .null, .null, .null, .null, .null, .null, .int 0, .int 0, .int 0]))]) [22] rfl
  have hDc := hD.sub (ws' := [(m9, .inr (8, [.int 0, .int 0, .int 0, .null, .null, .null, .null, .null, .null, .null, .null, .null, .null, .null, .null, .null, .null, .null, .null, .null, .int 0, .null, .null, .null, .int 0, .null, .null, .int 0, .int 0, .null, .null, .null, .null, .null, .null, .null, .null, .null, .null, .null, .null, .null, .null, .null, .int 0, .int 0, .int 0]))]) [22] (by decide) rfl
  have hFc := va_free (wc := [(m9, .inr (8, [.int 0, .int 0, .int 0, .null, .null, .null, .null, .null, .null, .null, .null, .null, .null, .null, .null, .null, .null, .null, .null, .null, .int 0, .null, .null, .null, .int 0, .null, .null, .int 0, .int 0, .null, .null, .null, .null, .null, .null, .null, .null, .null, .null, .null, .null, .null, .null, .null, .int 0, .int 0, .int 0]))]) hD hS hA [22] rfl
  refine va_callv (va_runI (As := []) (rest := [.ref m9]) ⟨hx, hb, hml, hown, hts⟩ (kX7_init l Z m9 H.size) (cwI 0 hts (gl_all uk_4_188) rfl rfl rfl (hts _ (wsU_tbl uk_1_9)) (hts _ (wsU_tbl uk_4_186)) (hts _ (wsU_tbl uk_4_187)) rfl (by decide +kernel) ⟨Nat.le_of_ble_eq_true rfl, Nat.le_of_ble_eq_true rfl⟩) ⟨fun a U g mk q => by obtain ⟨q0, q1, q2, q3, q4⟩ := q; exact ⟨q0, q1, va_K.moved (u := U) (U := U.calling g mk a) (Vm.Alike.refl U.vm) q2, q3, q4⟩, fun U hU hW => ⟨rfl, by rw [hU], va_K.moved hW.alike hK, by rw [hU]; exact hPc, hDc.weaken (fun _ _ _ _ => trivial)⟩⟩ rfl rfl hl.1 rfl (lv_room (Nat.le_of_ble_eq_true rfl)) dL_law_12 ⟨by show _ ≤ 601024; (try dsimp only); omega, by show _ ≤ 7293034; (try dsimp only); omega⟩) hS (fun q _ h => hFc q h) hFc (fun u t H1 locs ht hvm hu hB hz1 hk1 hS => ?_)
  obtain ⟨hP1, hD1⟩ := hB
  rw [ht] at hP1
  obtain ⟨c9, rfl⟩ : ∃ z, z = u := ⟨_, rfl⟩
  obtain ⟨hP, hD⟩ := va_join (wr := [(a, .inr (7, [.ref (b9 0), .ref (b9 1), .ref (b9 2), .ref (b9 3), .ref (b9 8), .ref (b9 12), .ref (b9 13), .ref (b9 19), .int 120, .int 0])), ((b9 0), .inr (0, [.int 0, .ref Z.2.2.2, .int 0])), ((b9 1), .inr (0, [.int 0, .ref Z.2.2.2, .int 0])), ((b9 2), .inl (Z.2.1 0, 4, .inl (va_up (va_up (va_up (va_up (fun _ => 0) 0 100) 1 100) 2 100) 3 100))), ((b9 3), .inl (Z.2.1 3, 4, .inr (.inr (.inr (.inr (va_up (va_up (va_up (va_up (fun _ => none) 0 (some (b9 4))) 1 (some (b9 5))) 2 (some (b9 6))) 3 (some (b9 7)))))))), ((b9 4), .inr (2, [.int 0, .int 0, .int 0])), ((b9 5), .inr (2, [.int 0, .int 0, .int 0])), ((b9 6), .inr (2, [.int 0, .int 0, .int 0])), ((b9 7), .inr (2, [.int 0, .int 0, .int 0])), ((b9 8), .inl (Z.2.1 4, 3, .inr (.inr (.inr (.inr (va_up (va_up (va_up (fun _ => none) 0 (some (b9 9))) 1 (some (b9 10))) 2 (some (b9 11)))))))), ((b9 9), .inr (1, [.int 0, .int 50, .int 1000])), ((b9 10), .inr (1, [.int 1, .int 50, .int 1000])), ((b9 11), .inr (1, [.int 2, .int 50, .int 1000])), ((b9 12), .inl (Z.2.1 4, 10, .inr (.inr (.inr (.inr (va_up (va_up (va_up (va_up (va_up (va_up (va_up (va_up (va_up (va_up (fun _ => none) 0 (some (b9 9))) 1 (some (b9 9))) 2 (some (b9 9))) 3 (some (b9 9))) 4 (some (b9 9))) 5 (some (b9 9))) 6 (some (b9 9))) 7 (some (b9 9))) 8 (some (b9 9))) 9 (some (b9 9)))))))), ((b9 13), .inr (3, [.ref (b9 14), .ref (b9 15), .ref (b9 16), .int 0, .ref (b9 17), .ref (b9 18), .int 0])), ((b9 14), .inl (Z.2.1 0, 30, .inl (fun _ => 0))), ((b9 15), .inl (Z.2.1 0, 30, .inl (fun _ => 0))), ((b9 16), .inl (Z.2.1 0, 30, .inl (fun _ => 0))), ((b9 17), .inl (Z.2.1 0, 10, .inl (fun _ => 0))), ((b9 18), .inl (Z.2.1 0, 10, .inl (fun _ => 0))), ((b9 19), .inr (6, [.int 0, .int 0, .int 0, .ref (b9 20), .int 0])), ((b9 20), .inl (Z.2.1 0, 600, .inl (fun _ => 0)))]) (w1 := [(m9, .inr (8, [.int 0, .int 0, .int 0, .ref (c9 0), .ref (c9 1), .ref (c9 2), .ref (c9 3), .ref (c9 4), .ref (c9 5), .ref (c9 6), .ref (c9 7), .ref (c9 8), .ref (c9 9), .ref (c9 10), .ref (c9 11), .ref (c9 12), .ref (c9 13), .ref (c9 14), .ref (c9 15), .ref (c9 16), .int 0, .ref (c9 17), .ref (c9 18), .ref (c9 19), .int 0, .ref (c9 20), .ref (c9 21), .int 120, .int 0, .ref (c9 22), .ref (c9 23), .ref (c9 24), .ref (c9 25), .ref (c9 26), .ref (c9 27), .ref (c9 28), .ref (c9 29), .ref (c9 30), .ref (c9 31), .ref (c9 32), .ref (c9 33), .ref (c9 34), .ref (c9 35), .ref (c9 36), .int 0, .int 0, .int 0])), ((c9 0), .inl (Z.2.1 0, 40, .inl (fun _ => 0))), ((c9 1), .inl (Z.2.1 0, 40, .inl (fun _ => 0))), ((c9 2), .inl (Z.2.1 0, 40, .inl (fun _ => 0))), ((c9 3), .inl (Z.2.1 0, 40, .inl (fun _ => 0))), ((c9 4), .inl (Z.2.1 1, 40, .inl (fun _ => 0))), ((c9 5), .inl (Z.2.1 1, 40, .inl (fun _ => 0))), ((c9 6), .inl (Z.2.1 0, 40, .inl (fun _ => 0))), ((c9 7), .inl (Z.2.1 0, 40, .inl (fun _ => 0))), ((c9 8), .inl (Z.2.1 0, 40, .inl (fun _ => 0))), ((c9 9), .inl (Z.2.1 0, 40, .inl (fun _ => 0))), ((c9 10), .inl (Z.2.1 0, 4, .inl (va_up (va_up (va_up (va_up (fun _ => 0) 0 100) 1 100) 2 100) 3 100))), ((c9 11), .inl (Z.2.1 0, 4, .inl (fun _ => 0))), ((c9 12), .inl (Z.2.1 0, 4, .inl (fun _ => 0))), ((c9 13), .inl (Z.2.1 0, 4, .inl (fun _ => 0))), ((c9 14), .inl (Z.2.1 0, 10, .inl (fun _ => 0))), ((c9 15), .inl (Z.2.1 0, 3, .inl (va_up (va_up (va_up (fun _ => 0) 0 50) 1 50) 2 50))), ((c9 16), .inl (Z.2.1 0, 3, .inl (va_up (va_up (va_up (fun _ => 0) 0 1000) 1 1000) 2 1000))), ((c9 17), .inl (Z.2.1 0, 30, .inl (fun _ => 0))), ((c9 18), .inl (Z.2.1 0, 30, .inl (fun _ => 0))), ((c9 19), .inl (Z.2.1 0, 30, .inl (fun _ => 0))), ((c9 20), .inl (Z.2.1 0, 10, .inl (fun _ => 0))), ((c9 21), .inl (Z.2.1 0, 10, .inl (fun _ => 0))), ((c9 22), .inl (Z.2.1 0, 40, .inl (fun _ => 0))), ((c9 23), .inl (Z.2.1 0, 40, .inl (fun _ => 0))), ((c9 24), .inl (Z.2.1 0, 40, .inl (fun _ => 0))), ((c9 25), .inl (Z.2.1 0, 40, .inl (fun _ => 0))), ((c9 26), .inl (Z.2.1 1, 40, .inl (fun _ => 0))), ((c9 27), .inl (Z.2.1 0, 40, .inl (fun _ => 0))), ((c9 28), .inl (Z.2.1 0, 40, .inl (fun _ => 0))), ((c9 29), .inl (Z.2.1 0, 40, .inl (fun _ => 0))), ((c9 30), .inl (Z.2.1 0, 40, .inl (fun _ => 0))), ((c9 31), .inl (Z.2.1 0, 40, .inl (fun _ => 0))), ((c9 32), .inl (Z.2.1 0, 40, .inl (fun _ => 0))), ((c9 33), .inl (Z.2.1 0, 40, .inl (fun j => if j < 40 then -1 else 0))), ((c9 34), .inl (Z.2.1 0, 40, .inl (fun _ => 0))), ((c9 35), .inl (Z.2.1 0, 40, .inl (fun _ => 0))), ((c9 36), .inl (Z.2.1 0, 40, .inl (fun _ => 0)))]) hP hD [22] [0, 1, 2, 3, 4, 5, 6, 7, 8, 9, 10, 11, 12, 13, 14, 15, 16, 17, 18, 19, 20, 21] rfl rfl (by decide) (by decide) hk1 hFc hP1 hD1
  generalize H1 = H at hP hS ⊢
  have hP : va_P Z.1 vwCl ([(a, .inr (7, [.ref (b9 0), .ref (b9 1), .ref (b9 2), .ref (b9 3), .ref (b9 8), .ref (b9 12), .ref (b9 13), .ref (b9 19), .int 120, .int 0])), ((b9 0), .inr (0, [.int 0, .ref Z.2.2.2, .int 0])), ((b9 1), .inr (0, [.int 0, .ref Z.2.2.2, .int 0])), ((b9 2), .inl (Z.2.1 0, 4, .inl (va_up (va_up (va_up (va_up (fun _ => 0) 0 100) 1 100) 2 100) 3 100))), ((b9 3), .inl (Z.2.1 3, 4, .inr (.inr (.inr (.inr (va_up (va_up (va_up (va_up (fun _ => none) 0 (some (b9 4))) 1 (some (b9 5))) 2 (some (b9 6))) 3 (some (b9 7)))))))), ((b9 4), .inr (2, [.int 0, .int 0, .int 0])), ((b9 5), .inr (2, [.int 0, .int 0, .int 0])), ((b9 6), .inr (2, [.int 0, .int 0, .int 0])), ((b9 7), .inr (2, [.int 0, .int 0, .int 0])), ((b9 8), .inl (Z.2.1 4, 3, .inr (.inr (.inr (.inr (va_up (va_up (va_up (fun _ => none) 0 (some (b9 9))) 1 (some (b9 10))) 2 (some (b9 11)))))))), ((b9 9), .inr (1, [.int 0, .int 50, .int 1000])), ((b9 10), .inr (1, [.int 1, .int 50, .int 1000])), ((b9 11), .inr (1, [.int 2, .int 50, .int 1000])), ((b9 12), .inl (Z.2.1 4, 10, .inr (.inr (.inr (.inr (va_up (va_up (va_up (va_up (va_up (va_up (va_up (va_up (va_up (va_up (fun _ => none) 0 (some (b9 9))) 1 (some (b9 9))) 2 (some (b9 9))) 3 (some (b9 9))) 4 (some (b9 9))) 5 (some (b9 9))) 6 (some (b9 9))) 7 (some (b9 9))) 8 (some (b9 9))) 9 (some (b9 9)))))))), ((b9 13), .inr (3, [.ref (b9 14), .ref (b9 15), .ref (b9 16), .int 0, .ref (b9 17), .ref (b9 18), .int 0])), ((b9 14), .inl (Z.2.1 0, 30, .inl (fun _ => 0))), ((b9 15), .inl (Z.2.1 0, 30, .inl (fun _ => 0))), ((b9 16), .inl (Z.2.1 0, 30, .inl (fun _ => 0))), ((b9 17), .inl (Z.2.1 0, 10, .inl (fun _ => 0))), ((b9 18), .inl (Z.2.1 0, 10, .inl (fun _ => 0))), ((b9 19), .inr (6, [.int 0, .int 0, .int 0, .ref (b9 20), .int 0])), ((b9 20), .inl (Z.2.1 0, 600, .inl (fun _ => 0)))] ++ [(m9, .inr (8, [.int 0, .int 0, .int 0, .ref (c9 0), .ref (c9 1), .ref (c9 2), .ref (c9 3), .ref (c9 4), .ref (c9 5), .ref (c9 6), .ref (c9 7), .ref (c9 8), .ref (c9 9), .ref (c9 10), .ref (c9 11), .ref (c9 12), .ref (c9 13), .ref (c9 14), .ref (c9 15), .ref (c9 16), .int 0, .ref (c9 17), .ref (c9 18), .ref (c9 19), .int 0, .ref (c9 20), .ref (c9 21), .int 120, .int 0, .ref (c9 22), .ref (c9 23), .ref (c9 24), .ref (c9 25), .ref (c9 26), .ref (c9 27), .ref (c9 28), .ref (c9 29), .ref (c9 30), .ref (c9 31), .ref (c9 32), .ref (c9 33), .ref (c9 34), .ref (c9 35), .ref (c9 36), .int 0, .int 0, .int 0])), ((c9 0), .inl (Z.2.1 0, 40, .inl (fun _ => 0))), ((c9 1), .inl (Z.2.1 0, 40, .inl (fun _ => 0))), ((c9 2), .inl (Z.2.1 0, 40, .inl (fun _ => 0))), ((c9 3), .inl (Z.2.1 0, 40, .inl (fun _ => 0))), ((c9 4), .inl (Z.2.1 1, 40, .inl (fun _ => 0))), ((c9 5), .inl (Z.2.1 1, 40, .inl (fun _ => 0))), ((c9 6), .inl (Z.2.1 0, 40, .inl (fun _ => 0))), ((c9 7), .inl (Z.2.1 0, 40, .inl (fun _ => 0))), ((c9 8), .inl (Z.2.1 0, 40, .inl (fun _ => 0))), ((c9 9), .inl (Z.2.1 0, 40, .inl (fun _ => 0))), ((c9 10), .inl (Z.2.1 0, 4, .inl (va_up (va_up (va_up (va_up (fun _ => 0) 0 100) 1 100) 2 100) 3 100))), ((c9 11), .inl (Z.2.1 0, 4, .inl (fun _ => 0))), ((c9 12), .inl (Z.2.1 0, 4, .inl (fun _ => 0))), ((c9 13), .inl (Z.2.1 0, 4, .inl (fun _ => 0))), ((c9 14), .inl (Z.2.1 0, 10, .inl (fun _ => 0))), ((c9 15), .inl (Z.2.1 0, 3, .inl (va_up (va_up (va_up (fun _ => 0) 0 50) 1 50) 2 50))), ((c9 16), .inl (Z.2.1 0, 3, .inl (va_up (va_up (va_up (fun _ => 0) 0 1000) 1 1000) 2 1000))), ((c9 17), .inl (Z.2.1 0, 30, .inl (fun _ => 0))), ((c9 18), .inl (Z.2.1 0, 30, .inl (fun _ => 0))), ((c9 19), .inl (Z.2.1 0, 30, .inl (fun _ => 0))), ((c9 20), .inl (Z.2.1 0, 10, .inl (fun _ => 0))), ((c9 21), .inl (Z.2.1 0, 10, .inl (fun _ => 0))), ((c9 22), .inl (Z.2.1 0, 40, .inl (fun _ => 0))), ((c9 23), .inl (Z.2.1 0, 40, .inl (fun _ => 0))), ((c9 24), .inl (Z.2.1 0, 40, .inl (fun _ => 0))), ((c9 25), .inl (Z.2.1 0, 40, .inl (fun _ => 0))), ((c9 26), .inl (Z.2.1 1, 40, .inl (fun _ => 0))), ((c9 27), .inl (Z.2.1 0, 40, .inl (fun _ => 0))), ((c9 28), .inl (Z.2.1 0, 40, .inl (fun _ => 0))), ((c9 29), .inl (Z.2.1 0, 40, .inl (fun _ => 0))), ((c9 30), .inl (Z.2.1 0, 40, .inl (fun _ => 0))), ((c9 31), .inl (Z.2.1 0, 40, .inl (fun _ => 0))), ((c9 32), .inl (Z.2.1 0, 40, .inl (fun _ => 0))), ((c9 33), .inl (Z.2.1 0, 40, .inl (fun j => if j < 40 then -1 else 0))), ((c9 34), .inl (Z.2.1 0, 40, .inl (fun _ => 0))), ((c9 35), .inl (Z.2.1 0, 40, .inl (fun _ => 0))), ((c9 36), .inl (Z.2.1 0, 40, .inl (fun _ => 0)))]) H := hP
  have hD : va_D (sy_A Z) ([(a, .inr (7, [.ref (b9 0), .ref (b9 1), .ref (b9 2), .ref (b9 3), .ref (b9 8), .ref (b9 12), .ref (b9 13), .ref (b9 19), .int 120, .int 0])), ((b9 0), .inr (0, [.int 0, .ref Z.2.2.2, .int 0])), ((b9 1), .inr (0, [.int 0, .ref Z.2.2.2, .int 0])), ((b9 2), .inl (Z.2.1 0, 4, .inl (va_up (va_up (va_up (va_up (fun _ => 0) 0 100) 1 100) 2 100) 3 100))), ((b9 3), .inl (Z.2.1 3, 4, .inr (.inr (.inr (.inr (va_up (va_up (va_up (va_up (fun _ => none) 0 (some (b9 4))) 1 (some (b9 5))) 2 (some (b9 6))) 3 (some (b9 7)))))))), ((b9 4), .inr (2, [.int 0, .int 0, .int 0])), ((b9 5), .inr (2, [.int 0, .int 0, .int 0])), ((b9 6), .inr (2, [.int 0, .int 0, .int 0])), ((b9 7), .inr (2, [.int 0, .int 0, .int 0])), ((b9 8), .inl (Z.2.1 4, 3, .inr (.inr (.inr (.inr (va_up (va_up (va_up (fun _ => none) 0 (some (b9 9))) 1 (some (b9 10))) 2 (some (b9 11)))))))), ((b9 9), .inr (1, [.int 0, .int 50, .int 1000])), ((b9 10), .inr (1, [.int 1, .int 50, .int 1000])), ((b9 11), .inr (1, [.int 2, .int 50, .int 1000])), ((b9 12), .inl (Z.2.1 4, 10, .inr (.inr (.inr (.inr (va_up (va_up (va_up (va_up (va_up (va_up (va_up (va_up (va_up (va_up (fun _ => none) 0 (some (b9 9))) 1 (some (b9 9))) 2 (some (b9 9))) 3 (some (b9 9))) 4 (some (b9 9))) 5 (some (b9 9))) 6 (some (b9 9))) 7 (some (b9 9))) 8 (some (b9 9))) 9 (some (b9 9)))))))), ((b9 13), .inr (3, [.ref (b9 14), .ref (b9 15), .ref (b9 16), .int 0, .ref (b9 17), .ref (b9 18), .int 0])), ((b9 14), .inl (Z.2.1 0, 30, .inl (fun _ => 0))), ((b9 15), .inl (Z.2.1 0, 30, .inl (fun _ => 0))), ((b9 16), .inl (Z.2.1 0, 30, .inl (fun _ => 0))), ((b9 17), .inl (Z.2.1 0, 10, .inl (fun _ => 0))), ((b9 18), .inl (Z.2.1 0, 10, .inl (fun _ => 0))), ((b9 19), .inr (6, [.int 0, .int 0, .int 0, .ref (b9 20), .int 0])), ((b9 20), .inl (Z.2.1 0, 600, .inl (fun _ => 0)))] ++ [(m9, .inr (8, [.int 0, .int 0, .int 0, .ref (c9 0), .ref (c9 1), .ref (c9 2), .ref (c9 3), .ref (c9 4), .ref (c9 5), .ref (c9 6), .ref (c9 7), .ref (c9 8), .ref (c9 9), .ref (c9 10), .ref (c9 11), .ref (c9 12), .ref (c9 13), .ref (c9 14), .ref (c9 15), .ref (c9 16), .int 0, .ref (c9 17), .ref (c9 18), .ref (c9 19), .int 0, .ref (c9 20), .ref (c9 21), .int 120, .int 0, .ref (c9 22), .ref (c9 23), .ref (c9 24), .ref (c9 25), .ref (c9 26), .ref (c9 27), .ref (c9 28), .ref (c9 29), .ref (c9 30), .ref (c9 31), .ref (c9 32), .ref (c9 33), .ref (c9 34), .ref (c9 35), .ref (c9 36), .int 0, .int 0, .int 0])), ((c9 0), .inl (Z.2.1 0, 40, .inl (fun _ => 0))), ((c9 1), .inl (Z.2.1 0, 40, .inl (fun _ => 0))), ((c9 2), .inl (Z.2.1 0, 40, .inl (fun _ => 0))), ((c9 3), .inl (Z.2.1 0, 40, .inl (fun _ => 0))), ((c9 4), .inl (Z.2.1 1, 40, .inl (fun _ => 0))), ((c9 5), .inl (Z.2.1 1, 40, .inl (fun _ => 0))), ((c9 6), .inl (Z.2.1 0, 40, .inl (fun _ => 0))), ((c9 7), .inl (Z.2.1 0, 40, .inl (fun _ => 0))), ((c9 8), .inl (Z.2.1 0, 40, .inl (fun _ => 0))), ((c9 9), .inl (Z.2.1 0, 40, .inl (fun _ => 0))), ((c9 10), .inl (Z.2.1 0, 4, .inl (va_up (va_up (va_up (va_up (fun _ => 0) 0 100) 1 100) 2 100) 3 100))), ((c9 11), .inl (Z.2.1 0, 4, .inl (fun _ => 0))), ((c9 12), .inl (Z.2.1 0, 4, .inl (fun _ => 0))), ((c9 13), .inl (Z.2.1 0, 4, .inl (fun _ => 0))), ((c9 14), .inl (Z.2.1 0, 10, .inl (fun _ => 0))), ((c9 15), .inl (Z.2.1 0, 3, .inl (va_up (va_up (va_up (fun _ => 0) 0 50) 1 50) 2 50))), ((c9 16), .inl (Z.2.1 0, 3, .inl (va_up (va_up (va_up (fun _ => 0) 0 1000) 1 1000) 2 1000))), ((c9 17), .inl (Z.2.1 0, 30, .inl (fun _ => 0))), ((c9 18), .inl (Z.2.1 0, 30, .inl (fun _ => 0))), ((c9 19), .inl (Z.2.1 0, 30, .inl (fun _ => 0))), ((c9 20), .inl (Z.2.1 0, 10, .inl (fun _ => 0))), ((c9 21), .inl (Z.2.1 0, 10, .inl (fun _ => 0))), ((c9 22), .inl (Z.2.1 0, 40, .inl (fun _ => 0))), ((c9 23), .inl (Z.2.1 0, 40, .inl (fun _ => 0))), ((c9 24), .inl (Z.2.1 0, 40, .inl (fun _ => 0))), ((c9 25), .inl (Z.2.1 0, 40, .inl (fun _ => 0))), ((c9 26), .inl (Z.2.1 1, 40, .inl (fun _ => 0))), ((c9 27), .inl (Z.2.1 0, 40, .inl (fun _ => 0))), ((c9 28), .inl (Z.2.1 0, 40, .inl (fun _ => 0))), ((c9 29), .inl (Z.2.1 0, 40, .inl (fun _ => 0))), ((c9 30), .inl (Z.2.1 0, 40, .inl (fun _ => 0))), ((c9 31), .inl (Z.2.1 0, 40, .inl (fun _ => 0))), ((c9 32), .inl (Z.2.1 0, 40, .inl (fun _ => 0))), ((c9 33), .inl (Z.2.1 0, 40, .inl (fun j => if j < 40 then -1 else 0))), ((c9 34), .inl (Z.2.1 0, 40, .inl (fun _ => 0))), ((c9 35), .inl (Z.2.1 0, 40, .inl (fun _ => 0))), ((c9 36), .inl (Z.2.1 0, 40, .inl (fun _ => 0)))]) := hD
  refine lv_astore_n (lv' := [(2, .ref m9), (1, .ref a), (0, .ref b)]) hx hb dL_law_15 rfl hl (by decide) rfl (fun ls hl => ?_)
  refine lv_iconst (v := 1) hx hb dL_law_16 (by decide) ?_
  refine va_newa (atype := .long) (a0 := (1, .inr (.inl (fun _ => 0)))) (ty := .long) hx hb (hts _ (wsU_tbl uk_6_58)) rfl hK hP hD hS hA (fun _ => rfl) (by decide) (by decide) (by decide) (by show _ ≤ 601024; (try dsimp only); omega) (by show _ ≤ 7293034; (try dsimp only); omega) dL_law_17 (fun o9 cA H hK9 hP hD hS => ?_)
  obtain rfl : cA = Z.2.1 5 := kAl hK9
  have hSy := sy_start (a := a) (b := b9) (m := m9) (c := c9) (o := o9) hP hD (fun q h => h)
  refine lv_astore_n (lv' := [(3, .ref o9), (2, .ref m9), (1, .ref a), (0, .ref b)]) hx hb dL_law_19 rfl hl (by decide) rfl (fun ls hl => ?_)
  refine lv_iconst (v := 0) hx hb dL_law_20 (by decide) ?_
  refine lv_istore (lv' := [(4, .int 0), (3, .ref o9), (2, .ref m9), (1, .ref a), (0, .ref b)]) hx hb dL_law_21 hl (by decide) rfl (fun ls hl => ?_)
  refine W.widen (k := 100 + 16 * 0) (n := 4000 + 200 * 0) (by (try dsimp only); omega) (by (try dsimp only); omega) ?_
  refine W.eq (g2 := F0 m 23 ls []) rfl ?_
  exact law_loop9 hC hL (L / 7) 0 (by omega) (nT := 0) (nK := 0) (cT := 0) (cK := 0) (ad := adL a b9 m9 c9 o9 Z.2.2.2) (g := gL) (q := qL) ⟨hSy, by rw [Nat.zero_mul]; exact inv_start, fun _ => rfl, fun _ => rfl, hS, lv_sub hl [0, 4, 3, 2, 1] rfl⟩
