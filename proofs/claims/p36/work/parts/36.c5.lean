theorem ig_mv {nT nK cT cK : Nat} {g : sG} (h : IG nT nK cT cK g) : ∃ m, m ≤ 600 ∧ g 68 4 = nI m := h.2.2.2.2.2.2.2.2.1
theorem ig_kind {nT nK cT cK : Nat} {g : sG} (h : IG nT nK cT cK g) {i : Nat} (hi : i < nT) : vp_in (g (100 + i) 1) 4 := h.2.2.2.2.2.2.2.2.2.1 i hi
theorem ig_dd {nT nK cT cK : Nat} {g : sG} (h : IG nT nK cT cK g) {j : Nat} (hj : j < nK) : DD (g (200 + j) 9) (g 60 9) := by
  obtain ⟨d, h1, h2, h3⟩ := h.2.2.2.2.2.2.2.2.2.2
  obtain ⟨b, h4, h5⟩ := h3 j hj
  unfold DD
  rw [h2, h5, nI_clamp (by omega), nI_clamp (by omega)]
  exact ⟨rfl, rfl, h4, h1⟩
theorem ig_nT {nT nK cT cK : Nat} {g : sG} (h : IG nT nK cT cK g) : g 61 2 = nI (g 61 2).toNatClampNeg ∧ (g 61 2).toNatClampNeg ≤ 40 := cnt_of ⟨nT, h.2.1, h.1⟩ (by decide)
theorem ig_nK {nT nK cT cK : Nat} {g : sG} (h : IG nT nK cT cK g) : g 62 2 = nI (g 62 2).toNatClampNeg ∧ (g 62 2).toNatClampNeg ≤ 40 := cnt_of ⟨nK, h.2.2.2.2.1, h.2.2.2.1⟩ (by decide)
theorem ig_ltT {nT nK cT cK k : Nat} {g : sG} (h : IG nT nK cT cK g) (hk : k < (g 61 2).toNatClampNeg) : k < nT := by
  rw [h.1, nI_clamp (by have := h.2.1; omega)] at hk
  exact hk
theorem ig_ltK {nT nK cT cK k : Nat} {g : sG} (h : IG nT nK cT cK g) (hk : k < (g 62 2).toNatClampNeg) : k < nK := by
  rw [h.2.2.2.1, nI_clamp (by have := h.2.2.2.2.1; omega)] at hk
  exact hk
theorem mv_a {g : sG} {o k : Nat} {v : Int32} (ho : o ≠ 68 ∨ k ≠ 4) (h : ∃ m, m ≤ 600 ∧ g 68 4 = nI m) : ∃ m, m ≤ 600 ∧ (sy_up g o k v) 68 4 = nI m := by
  rw [sy_up_a, if_neg (by omega)]
  exact h
def fX6_valueNow (g : sG) (q : sQ) (i : Nat) : Int32 := (((((g (100 + i) 3) * (10 - (g (100 + i) 4))) / 10) * (g 63 ((g (100 + i) 1).toNatClampNeg))) / 100)
set_option maxHeartbeats 4000000 in
set_option maxRecDepth 100000 in
theorem mX6_valueNow (l : Launch) (hfl : l.stackTraces = false) (Z : sZ) (nT nK cT cK : Nat) (ad : Nat → Nat) (g : sG) (q : sQ) (i : Nat) (hT : nT ≤ 100) (hG : IG nT nK cT cK g) (hQ : IQ nT nK q) (hiT : i < nT) : sMi l Z yX6_valueNow (uW (.code yX6_valueNow cX6_valueNow 3 (some .int))) { frames := 0, cells := 0, slots := 0, locals := 0 } [.ref (ad 60), .ref (ad (100 + i))] nT nK cT cK ad g q (fun r g1 q1 => (r, g1, q1) = (fX6_valueNow g q i, g, q)) := by
  refine Met.ofW (cc := cX6_valueNow) (maxL := 3) (ret := (some .int)) (by decide) rfl ?_
  intro p e s m args below meth c s₁ B hml hv
  obtain ⟨rfl, hE, hP⟩ := hv
  have hx := B.exec
  have hb := B.bytes
  have hr := B.returns
  have hts := atoms_spec (ws := uW (.code yX6_valueNow cX6_valueNow 3 (some .int))) B.pre
  have hown : s.vm.findClass RX6 = some m.cls := findClass_of_methodNamed B.named
  have hlocks := B.notSynchronized
  have hS : va_S (sy_A Z) s.heap s.heap [] := va_S.rf
  have hl := lv_entry ([.ref (ad 60), .ref (ad (100 + i))]) (n := 3) (Nat.le_of_ble_eq_true rfl)
  rw [lg_entry_eq]
  generalize (lg_sl ([.ref (ad 60), .ref (ad (100 + i))]) ++ List.replicate (3 - (lg_sl ([.ref (ad 60), .ref (ad (100 + i))])).length) Slot.unset).toArray = ls at hl ⊢
  have hl : lv_has ls 3 [(0, .ref (ad 60)), (1, .ref (ad (100 + i)))] := hl
  refine lv_aload_n hx hb dX6_valueNow_0 rfl (lv_at hl 1 rfl) ?_
  refine sy_getRX3 hx hb hts hown hE hP (100 + i) (sy_kdT hiT hT) 3 (by decide) (hts _ (u_in uk_2_81)) (v := .int (g (100 + i) 3)) rfl dX6_valueNow_1 ?_
  refine lv_bipush (v := 10) hx hb dX6_valueNow_4 (by decide) ?_
  refine lv_aload_n hx hb dX6_valueNow_6 rfl (lv_at hl 1 rfl) ?_
  refine sy_getRX3 hx hb hts hown hE hP (100 + i) (sy_kdT hiT hT) 4 (by decide) (hts _ (u_in uk_2_83)) (v := .int (g (100 + i) 4)) rfl dX6_valueNow_7 ?_
  refine lv_isub hx hb dX6_valueNow_10 ?_
  refine lv_imul hx hb dX6_valueNow_11 ?_
  refine lv_bipush (v := 10) hx hb dX6_valueNow_12 (by decide) ?_
  refine lv_idiv hx hb dX6_valueNow_14 (by decide) ?_
  refine lv_istore_n (lv' := [(2, .int (((g (100 + i) 3) * (10 - (g (100 + i) 4))) / 10)), (0, .ref (ad 60)), (1, .ref (ad (100 + i)))]) hx hb dX6_valueNow_15 rfl hl (by decide) rfl (fun ls hl => ?_)
  refine lv_iload_n hx hb dX6_valueNow_16 rfl (lv_at hl 0 rfl) ?_
  refine lv_aload_n hx hb dX6_valueNow_17 rfl (lv_at hl 1 rfl) ?_
  refine sy_getRX6 hx hb hts hown hE hP 60 rfl 2 (by decide) (hts _ (u_in uk_1_154)) (v := .ref (ad 63)) rfl dX6_valueNow_18 ?_
  refine lv_aload_n hx hb dX6_valueNow_21 rfl (lv_at hl 2 rfl) ?_
  refine sy_getRX3 hx hb hts hown hE hP (100 + i) (sy_kdT hiT hT) 1 (by decide) (hts _ (u_in uk_2_77)) (v := .int (g (100 + i) 1)) rfl dX6_valueNow_22 ?_
  refine sy_ialdN hx hb hE hP 63 rfl (show vp_in (g (100 + i) 1) 4 from (ig_kind hG hiT)) ((g (100 + i) 1).toNatClampNeg) rfl (v := g 63 ((g (100 + i) 1).toNatClampNeg)) rfl dX6_valueNow_25 ?_
  refine lv_imul hx hb dX6_valueNow_26 ?_
  refine lv_bipush (v := 100) hx hb dX6_valueNow_27 (by decide) ?_
  refine lv_idiv hx hb dX6_valueNow_29 (by decide) ?_
  exact (sy_ireti hx hb hr hlocks hE hP hS dX6_valueNow_30 ⟨Nat.le_of_ble_eq_true rfl, Nat.le_of_ble_eq_true rfl⟩ (by unfold fX6_valueNow; rfl))
def lX6_openLoansOf (g : sG) (q : sQ) (x0 : Int32) : Nat → Int32
  | 0 => 0
  | k0 + 1 => (if (g (200 + k0) 7) = 0 then (if (g (200 + k0) 2) = x0 then ((lX6_openLoansOf g q x0 k0) + (g (200 + k0) 8)) else (lX6_openLoansOf g q x0 k0)) else (lX6_openLoansOf g q x0 k0))
def fX6_openLoansOf (g : sG) (q : sQ) (x0 : Int32) : Int32 := (lX6_openLoansOf g q x0 (g 62 2).toNatClampNeg)
set_option maxHeartbeats 4000000 in
set_option maxRecDepth 100000 in
theorem mX6_openLoansOf (l : Launch) (hfl : l.stackTraces = false) (Z : sZ) (nT nK cT cK : Nat) (ad : Nat → Nat) (g : sG) (q : sQ) (x0 : Int32) (hT : nT ≤ 100) (hG : IG nT nK cT cK g) (hQ : IQ nT nK q) : sMi l Z yX6_openLoansOf (uW (.code yX6_openLoansOf cX6_openLoansOf 5 (some .int))) { frames := 3, cells := 0, slots := 0, locals := 64 } [.ref (ad 60), .int x0] nT nK cT cK ad g q (fun r g1 q1 => (r, g1, q1) = (fX6_openLoansOf g q x0, g, q)) := by
  refine Met.ofW (cc := cX6_openLoansOf) (maxL := 5) (ret := (some .int)) (by decide) rfl ?_
  intro p e s m args below meth c s₁ B hml hv
  obtain ⟨rfl, hE, hP⟩ := hv
  have hx := B.exec
  have hb := B.bytes
  have hr := B.returns
  have hts := atoms_spec (ws := uW (.code yX6_openLoansOf cX6_openLoansOf 5 (some .int))) B.pre
  have hown : s.vm.findClass RX6 = some m.cls := findClass_of_methodNamed B.named
  have hlocks := B.notSynchronized
  have hS : va_S (sy_A Z) s.heap s.heap [] := va_S.rf
  have hl := lv_entry ([.ref (ad 60), .int x0]) (n := 5) (Nat.le_of_ble_eq_true rfl)
  rw [lg_entry_eq]
  generalize (lg_sl ([.ref (ad 60), .int x0]) ++ List.replicate (5 - (lg_sl ([.ref (ad 60), .int x0])).length) Slot.unset).toArray = ls at hl ⊢
  have hl : lv_has ls 5 [(0, .ref (ad 60)), (1, .int x0)] := hl
  refine lv_iconst (v := 0) hx hb dX6_openLoansOf_0 (by decide) ?_
  refine lv_istore_n (lv' := [(2, .int 0), (0, .ref (ad 60)), (1, .int x0)]) hx hb dX6_openLoansOf_1 rfl hl (by decide) rfl (fun ls hl => ?_)
  refine lv_iconst (v := 0) hx hb dX6_openLoansOf_2 (by decide) ?_
  refine lv_istore_n (lv' := [(3, .int 0), (2, .int 0), (0, .ref (ad 60)), (1, .int x0)]) hx hb dX6_openLoansOf_3 rfl hl (by decide) rfl (fun ls hl => ?_)
  have hL_4 : ∀ (n k0 : Nat), k0 ≤ (g 62 2).toNatClampNeg → (g 62 2).toNatClampNeg + 1 ≤ k0 + n → ∀ (H : Heap) (locs : List Loc) (ls : Array Slot), Sy Z nT nK cT cK ad g q H → va_S (sy_A Z) s.heap H locs → lv_has ls 5 [(3, .int (nI k0)), (2, .int (lX6_openLoansOf g q x0 k0)), (0, .ref (ad 60)), (1, .int x0)] → W p l e ({ frames := 3, cells := 0, slots := 0, locals := 64 } : Room) s m ([.ref (ad 60), .int x0] : List Value).toArray below meth c H locs 0 0 (MQ below (sQi Z nT nK cT cK ad (fun r g1 q1 => (r, g1, q1) = (fX6_openLoansOf g q x0, g, q))) ([.ref (ad 60), .int x0] : List Value).toArray s 0 0 (sy_A Z)) (F0 m 4 ls []) := by
    intro n
    induction n with
    | zero => intro k0 hi hn ; exact absurd hn (by omega)
    | succ n ih =>
      intro k0 hi hn H locs ls hP hS hl
      have hN9 := (ig_nK hG).2
      refine lv_iload_n hx hb dX6_openLoansOf_4 rfl (lv_at hl 0 rfl) ?_
      refine lv_aload_n hx hb dX6_openLoansOf_5 rfl (lv_at hl 2 rfl) ?_
      refine sy_getRX6 hx hb hts hown hE hP 60 rfl 1 (by decide) (hts _ (u_in uk_1_153)) (v := .ref (ad 62)) rfl dX6_openLoansOf_6 ?_
      refine sy_ki (sy_rV (o := 62) (As := []) (rest := [.int (nI k0)]) ⟨hx, hb, hml, hown, hts⟩ hE hP hS (mJx4a65c_size_8abf5K l hfl Z nT nK cT cK ad g q) (cwV 0 hts (gu_V uk_2_46 uk_2_47 uk_2_48 uk_1_4 uk_2_49) rfl rfl rfl (by decide +kernel) ⟨Nat.le_of_ble_eq_true rfl, Nat.le_of_ble_eq_true rfl⟩) (sy_recv (kc := 0) hE hP rfl (by decide) rfl rfl rfl) rfl hl.1 rfl (Nat.le_of_ble_eq_true rfl) dX6_openLoansOf_9 ⟨Nat.le_of_ble_eq_true rfl, Nat.le_of_ble_eq_true rfl⟩) hS (fun r_e_1 g_e_1 q_e_1 H locs e_1 hP hS => ?_)
      cases e_1
      refine sy_top (y := (g 62 2)) (by rfl) ?_
      refine lv_icmp_ge (tgt := 59) hx hb dX6_openLoansOf_12 (by decide) (fun c_2 => ?_) (fun c_2 => ?_)
      · skip
        obtain rfl := loop_exit (N := (g 62 2).toNatClampNeg) (ig_nK hG).1 (by omega) hi c_2
        refine lv_iload_n hx hb dX6_openLoansOf_59 rfl (lv_at hl 1 rfl) ?_
        exact (sy_ireti hx hb hr hlocks hE hP hS dX6_openLoansOf_60 ⟨Nat.le_of_ble_eq_true rfl, Nat.le_of_ble_eq_true rfl⟩ (by unfold fX6_openLoansOf; rfl))
      · skip
        have hk0 : k0 < (g 62 2).toNatClampNeg := loop_in (N := (g 62 2).toNatClampNeg) (ig_nK hG).1 (by omega) hi c_2
        refine lv_aload_n hx hb dX6_openLoansOf_15 rfl (lv_at hl 2 rfl) ?_
        refine sy_getRX6 hx hb hts hown hE hP 60 rfl 1 (by decide) (hts _ (u_in uk_1_153)) (v := .ref (ad 62)) rfl dX6_openLoansOf_16 ?_
        refine lv_iload_n hx hb dX6_openLoansOf_19 rfl (lv_at hl 0 rfl) ?_
        refine sy_kr (sy_rV (o := 62) (As := [.int (nI k0)]) (rest := []) ⟨hx, hb, hml, hown, hts⟩ hE hP hS (mJx4a65c_get_915e3K l hfl Z nT nK cT cK ad g q k0 hG hQ (ig_ltK hG hk0)) (cwV 1 hts (gu_V uk_3_16 uk_3_17 uk_3_18 uk_1_4 uk_3_19) rfl rfl rfl (by decide +kernel) ⟨Nat.le_of_ble_eq_true rfl, Nat.le_of_ble_eq_true rfl⟩) (sy_recv (kc := 0) hE hP rfl (by decide) rfl rfl rfl) rfl hl.1 rfl (Nat.le_of_ble_eq_true rfl) dX6_openLoansOf_20 ⟨Nat.le_of_ble_eq_true rfl, Nat.le_of_ble_eq_true rfl⟩) hS (fun o_e_3 H locs e_3 hP hS => ?_)
        subst e_3
        refine va_castS hx hb hown (hts _ (u_in uk_3_50)) (hE.1.1 5 _ rfl).2 (sy_recv (kc := 5) hE hP (sy_kdK (ig_ltK hG hk0)) (by decide) rfl rfl rfl) dX6_openLoansOf_23 ?_
        refine lv_astore (lv' := [(4, .ref (ad (200 + k0))), (3, .int (nI k0)), (2, .int (lX6_openLoansOf g q x0 k0)), (0, .ref (ad 60)), (1, .int x0)]) hx hb dX6_openLoansOf_26 hl (by decide) rfl (fun ls hl => ?_)
        refine lv_aload hx hb dX6_openLoansOf_28 (lv_at hl 0 rfl) ?_
        refine sy_getRX4 hx hb hts hown hE hP (200 + k0) (sy_kdK (ig_ltK hG hk0)) 7 (by decide) (hts _ (u_in uk_3_83)) (v := .int (g (200 + k0) 7)) rfl dX6_openLoansOf_30 ?_
        refine lv_if_ne (tgt := 53) hx hb dX6_openLoansOf_33 (by decide) (fun c_4 => ?_) (fun c_4 => ?_)
        · skip
          refine lv_iinc (v := ((nI k0) + 1)) (lv' := [(3, .int ((nI k0) + 1)), (4, .ref (ad (200 + k0))), (2, .int (lX6_openLoansOf g q x0 k0)), (0, .ref (ad 60)), (1, .int x0)]) hx hb dX6_openLoansOf_53 hl (k := 1) rfl rfl (by decide) rfl (fun ls hl => ?_)
          refine lv_goto (tgt := 4) hx hb dX6_openLoansOf_56 (by decide) ?_
          have hF : lX6_openLoansOf g q x0 (k0 + 1) = (lX6_openLoansOf g q x0 k0) := by rw [lX6_openLoansOf, if_neg c_4] <;> rfl
          exact ih (k0 + 1) (by omega) (by omega) H locs ls hP hS (by rw [nI_succ, hF]; exact lv_sub hl [0, 2, 3, 4] rfl)
        · skip
          refine lv_aload hx hb dX6_openLoansOf_36 (lv_at hl 0 rfl) ?_
          refine sy_getRX4 hx hb hts hown hE hP (200 + k0) (sy_kdK (ig_ltK hG hk0)) 2 (by decide) (hts _ (u_in uk_3_73)) (v := .int (g (200 + k0) 2)) rfl dX6_openLoansOf_38 ?_
          refine lv_iload_n hx hb dX6_openLoansOf_41 rfl (lv_at hl 4 rfl) ?_
          refine lv_icmp_ne (tgt := 53) hx hb dX6_openLoansOf_42 (by decide) (fun c_5 => ?_) (fun c_5 => ?_)
          · skip
            refine lv_iinc (v := ((nI k0) + 1)) (lv' := [(3, .int ((nI k0) + 1)), (4, .ref (ad (200 + k0))), (2, .int (lX6_openLoansOf g q x0 k0)), (0, .ref (ad 60)), (1, .int x0)]) hx hb dX6_openLoansOf_53 hl (k := 1) rfl rfl (by decide) rfl (fun ls hl => ?_)
            refine lv_goto (tgt := 4) hx hb dX6_openLoansOf_56 (by decide) ?_
            have hF : lX6_openLoansOf g q x0 (k0 + 1) = (lX6_openLoansOf g q x0 k0) := by rw [lX6_openLoansOf, if_pos c_4, if_neg c_5] <;> rfl
            exact ih (k0 + 1) (by omega) (by omega) H locs ls hP hS (by rw [nI_succ, hF]; exact lv_sub hl [0, 2, 3, 4] rfl)
          · skip
            refine lv_iload_n hx hb dX6_openLoansOf_45 rfl (lv_at hl 2 rfl) ?_
            refine lv_aload hx hb dX6_openLoansOf_46 (lv_at hl 0 rfl) ?_
            refine sy_getRX4 hx hb hts hown hE hP (200 + k0) (sy_kdK (ig_ltK hG hk0)) 8 (by decide) (hts _ (u_in uk_3_85)) (v := .int (g (200 + k0) 8)) rfl dX6_openLoansOf_48 ?_
            refine lv_iadd hx hb dX6_openLoansOf_51 ?_
            refine lv_istore_n (lv' := [(2, .int ((lX6_openLoansOf g q x0 k0) + (g (200 + k0) 8))), (4, .ref (ad (200 + k0))), (3, .int (nI k0)), (0, .ref (ad 60)), (1, .int x0)]) hx hb dX6_openLoansOf_52 rfl hl (by decide) rfl (fun ls hl => ?_)
            refine lv_iinc (v := ((nI k0) + 1)) (lv' := [(3, .int ((nI k0) + 1)), (2, .int ((lX6_openLoansOf g q x0 k0) + (g (200 + k0) 8))), (4, .ref (ad (200 + k0))), (0, .ref (ad 60)), (1, .int x0)]) hx hb dX6_openLoansOf_53 hl (k := 2) rfl rfl (by decide) rfl (fun ls hl => ?_)
            refine lv_goto (tgt := 4) hx hb dX6_openLoansOf_56 (by decide) ?_
            have hF : lX6_openLoansOf g q x0 (k0 + 1) = ((lX6_openLoansOf g q x0 k0) + (g (200 + k0) 8)) := by rw [lX6_openLoansOf, if_pos c_4, if_pos c_5] <;> rfl
            exact ih (k0 + 1) (by omega) (by omega) H locs ls hP hS (by rw [nI_succ, hF]; exact lv_sub hl [0, 1, 3, 4] rfl)
  exact hL_4 ((g 62 2).toNatClampNeg + 1) 0 (Nat.zero_le _) (by omega) _ _ _ hP hS (lv_sub hl [0, 1, 2, 3] rfl)
def fX6_mayLend (g : sG) (q : sQ) (x0 : Int32) (x1 : Int32) (x2 : Int32) : Int32 := (if ((x2 * (g (84 + (cg q x0.toNatClampNeg)) 1)) / 100) < x1 then 0 else (if (fX5_free g q) < x1 then 0 else (if (g (84 + (cg q x0.toNatClampNeg)) 2) < (x1 + (fX6_openLoansOf g q x0)) then 0 else 1)))
set_option maxHeartbeats 4000000 in
set_option maxRecDepth 100000 in
theorem mX6_mayLend (l : Launch) (hfl : l.stackTraces = false) (Z : sZ) (nT nK cT cK : Nat) (ad : Nat → Nat) (g : sG) (q : sQ) (x0 : Int32) (x1 : Int32) (x2 : Int32) (hT : nT ≤ 100) (hG : IG nT nK cT cK g) (hQ : IQ nT nK q) (hx0 : vp_in x0 10) : sMi l Z yX6_mayLend (uW (.code yX6_mayLend cX6_mayLend 5 (some .boolean))) { frames := 4, cells := 0, slots := 0, locals := 88 } [.ref (ad 60), .int x0, .int x1, .int x2] nT nK cT cK ad g q (fun r g1 q1 => (r, g1, q1) = (fX6_mayLend g q x0 x1 x2, g, q)) := by
  refine Met.ofW (cc := cX6_mayLend) (maxL := 5) (ret := (some .boolean)) (by decide) rfl ?_
  intro p e s m args below meth c s₁ B hml hv
  obtain ⟨rfl, hE, hP⟩ := hv
  have hx := B.exec
  have hb := B.bytes
  have hr := B.returns
  have hts := atoms_spec (ws := uW (.code yX6_mayLend cX6_mayLend 5 (some .boolean))) B.pre
  have hown : s.vm.findClass RX6 = some m.cls := findClass_of_methodNamed B.named
  have hlocks := B.notSynchronized
  have hS : va_S (sy_A Z) s.heap s.heap [] := va_S.rf
  have hl := lv_entry ([.ref (ad 60), .int x0, .int x1, .int x2]) (n := 5) (Nat.le_of_ble_eq_true rfl)
  rw [lg_entry_eq]
  generalize (lg_sl ([.ref (ad 60), .int x0, .int x1, .int x2]) ++ List.replicate (5 - (lg_sl ([.ref (ad 60), .int x0, .int x1, .int x2])).length) Slot.unset).toArray = ls at hl ⊢
  have hl : lv_has ls 5 [(0, .ref (ad 60)), (1, .int x0), (2, .int x1), (3, .int x2)] := hl
  refine lv_aload_n hx hb dX6_mayLend_0 rfl (lv_at hl 0 rfl) ?_
  refine sy_getRX6 hx hb hts hown hE hP 60 rfl 5 (by decide) (hts _ (u_in uk_1_157)) (v := .ref (ad 66)) rfl dX6_mayLend_1 ?_
  refine lv_iload_n hx hb dX6_mayLend_4 rfl (lv_at hl 1 rfl) ?_
  refine sy_aald hx hb hE hP 66 15 4 rfl (by decide) rfl rfl (show vp_in x0 10 from hx0) (84 + (cg q x0.toNatClampNeg)) (iq_cg hQ (vp_in_lt (show vp_in x0 10 from hx0))).1 dX6_mayLend_5 ?_
  refine lv_astore (lv' := [(4, .ref (ad (84 + (cg q x0.toNatClampNeg)))), (0, .ref (ad 60)), (1, .int x0), (2, .int x1), (3, .int x2)]) hx hb dX6_mayLend_6 hl (by decide) rfl (fun ls hl => ?_)
  refine lv_iload_n hx hb dX6_mayLend_8 rfl (lv_at hl 3 rfl) ?_
  refine lv_iload_n hx hb dX6_mayLend_9 rfl (lv_at hl 4 rfl) ?_
  refine lv_aload hx hb dX6_mayLend_10 (lv_at hl 0 rfl) ?_
  refine sy_getRX0 hx hb hts hown hE hP (84 + (cg q x0.toNatClampNeg)) (sy_kdC (iq_cg hQ (vp_in_lt (show vp_in x0 10 from hx0))).2) 1 (by decide) (hts _ (u_in uk_1_88)) (v := .int (g (84 + (cg q x0.toNatClampNeg)) 1)) rfl dX6_mayLend_12 ?_
  refine lv_imul hx hb dX6_mayLend_15 ?_
  refine lv_bipush (v := 100) hx hb dX6_mayLend_16 (by decide) ?_
  refine lv_idiv hx hb dX6_mayLend_18 (by decide) ?_
  refine lv_icmp_gt (tgt := 52) hx hb dX6_mayLend_19 (by decide) (fun c_1 => ?_) (fun c_1 => ?_)
  · skip
    refine lv_iconst (v := 0) hx hb dX6_mayLend_52 (by decide) ?_
    exact (sy_iretz hx hb hr hlocks hE hP hS dX6_mayLend_53 ⟨Nat.le_of_ble_eq_true rfl, Nat.le_of_ble_eq_true rfl⟩ (by decide) (by unfold fX6_mayLend; rw [if_pos c_1] <;> rfl))
  · skip
    refine lv_iload_n hx hb dX6_mayLend_22 rfl (lv_at hl 3 rfl) ?_
    refine lv_aload_n hx hb dX6_mayLend_23 rfl (lv_at hl 1 rfl) ?_
    refine sy_getRX6 hx hb hts hown hE hP 60 rfl 7 (by decide) (hts _ (u_in uk_1_159)) (v := .ref (ad 68)) rfl dX6_mayLend_24 ?_
    refine sy_ki (sy_rV (o := 68) (As := []) (rest := [.int x1]) ⟨hx, hb, hml, hown, hts⟩ hE hP hS (mX5_free l hfl Z nT nK cT cK ad g q hT) (cwV 0 hts (gu_V uk_3_42 uk_3_43 uk_3_44 uk_1_8 uk_3_45) rfl rfl rfl (by decide +kernel) ⟨Nat.le_of_ble_eq_true rfl, Nat.le_of_ble_eq_true rfl⟩) (sy_recv (kc := 6) hE hP rfl (by decide) rfl rfl rfl) rfl hl.1 rfl (Nat.le_of_ble_eq_true rfl) dX6_mayLend_27 ⟨Nat.le_of_ble_eq_true rfl, Nat.le_of_ble_eq_true rfl⟩) hS (fun r_e_2 g_e_2 q_e_2 H locs e_2 hP hS => ?_)
    cases e_2
    refine lv_icmp_gt (tgt := 52) hx hb dX6_mayLend_30 (by decide) (fun c_3 => ?_) (fun c_3 => ?_)
    · skip
      refine lv_iconst (v := 0) hx hb dX6_mayLend_52 (by decide) ?_
      exact (sy_iretz hx hb hr hlocks hE hP hS dX6_mayLend_53 ⟨Nat.le_of_ble_eq_true rfl, Nat.le_of_ble_eq_true rfl⟩ (by decide) (by unfold fX6_mayLend; rw [if_neg c_1, if_pos c_3] <;> rfl))
    · skip
      refine lv_iload_n hx hb dX6_mayLend_33 rfl (lv_at hl 3 rfl) ?_
      refine lv_aload_n hx hb dX6_mayLend_34 rfl (lv_at hl 1 rfl) ?_
      refine lv_iload_n hx hb dX6_mayLend_35 rfl (lv_at hl 2 rfl) ?_
      refine sy_ki (sy_rV (o := 60) (As := [.int x0]) (rest := [.int x1]) ⟨hx, hb, hml, hown, hts⟩ hE hP hS (mX6_openLoansOf l hfl Z nT nK cT cK ad g q x0 hT hG hQ) (cwV 1 hts (gu_V uk_3_46 uk_3_48 uk_0_7 uk_1_1 uk_3_49) rfl rfl rfl (by decide +kernel) ⟨Nat.le_of_ble_eq_true rfl, Nat.le_of_ble_eq_true rfl⟩) (sy_recv (kc := 7) hE hP rfl (by decide) rfl rfl rfl) rfl hl.1 rfl (Nat.le_of_ble_eq_true rfl) dX6_mayLend_36 ⟨Nat.le_of_ble_eq_true rfl, Nat.le_of_ble_eq_true rfl⟩) hS (fun r_e_4 g_e_4 q_e_4 H locs e_4 hP hS => ?_)
      cases e_4
      refine lv_iadd hx hb dX6_mayLend_39 ?_
      refine lv_aload hx hb dX6_mayLend_40 (lv_at hl 0 rfl) ?_
      refine sy_getRX0 hx hb hts hown hE hP (84 + (cg q x0.toNatClampNeg)) (sy_kdC (iq_cg hQ (vp_in_lt (show vp_in x0 10 from hx0))).2) 2 (by decide) (hts _ (u_in uk_1_90)) (v := .int (g (84 + (cg q x0.toNatClampNeg)) 2)) rfl dX6_mayLend_42 ?_
      refine lv_icmp_gt (tgt := 52) hx hb dX6_mayLend_45 (by decide) (fun c_5 => ?_) (fun c_5 => ?_)
      · skip
        refine lv_iconst (v := 0) hx hb dX6_mayLend_52 (by decide) ?_
        exact (sy_iretz hx hb hr hlocks hE hP hS dX6_mayLend_53 ⟨Nat.le_of_ble_eq_true rfl, Nat.le_of_ble_eq_true rfl⟩ (by decide) (by unfold fX6_mayLend; rw [if_neg c_1, if_neg c_3, if_pos c_5] <;> rfl))
      · skip
        refine lv_iconst (v := 1) hx hb dX6_mayLend_48 (by decide) ?_
        refine lv_goto (tgt := 53) hx hb dX6_mayLend_49 (by decide) ?_
        exact (sy_iretz hx hb hr hlocks hE hP hS dX6_mayLend_53 ⟨Nat.le_of_ble_eq_true rfl, Nat.le_of_ble_eq_true rfl⟩ (by decide) (by unfold fX6_mayLend; rw [if_neg c_1, if_neg c_3, if_neg c_5] <;> rfl))
def fX6_interestNow (g : sG) (q : sQ) (j : Nat) : Int32 := (if (g (200 + j) 7) = 0 then (fX2_interest g q (g (200 + j) 8) (g (200 + j) 9) (g 60 9)) else 0)
set_option maxHeartbeats 4000000 in
set_option maxRecDepth 100000 in
theorem mX6_interestNow (l : Launch) (hfl : l.stackTraces = false) (Z : sZ) (nT nK cT cK : Nat) (ad : Nat → Nat) (g : sG) (q : sQ) (j : Nat) (hT : nT ≤ 100) (hG : IG nT nK cT cK g) (hQ : IQ nT nK q) (hjK : j < nK) : sMi l Z yX6_interestNow (uW (.code yX6_interestNow cX6_interestNow 2 (some .int))) { frames := 4, cells := 0, slots := 0, locals := 92 } [.ref (ad 60), .ref (ad (200 + j))] nT nK cT cK ad g q (fun r g1 q1 => (r, g1, q1) = (fX6_interestNow g q j, g, q)) := by
  refine Met.ofW (cc := cX6_interestNow) (maxL := 2) (ret := (some .int)) (by decide) rfl ?_
  intro p e s m args below meth c s₁ B hml hv
  obtain ⟨rfl, hE, hP⟩ := hv
  have hx := B.exec
  have hb := B.bytes
  have hr := B.returns
  have hts := atoms_spec (ws := uW (.code yX6_interestNow cX6_interestNow 2 (some .int))) B.pre
  have hown : s.vm.findClass RX6 = some m.cls := findClass_of_methodNamed B.named
  have hlocks := B.notSynchronized
  have hS : va_S (sy_A Z) s.heap s.heap [] := va_S.rf
  have hl := lv_entry ([.ref (ad 60), .ref (ad (200 + j))]) (n := 2) (Nat.le_of_ble_eq_true rfl)
  rw [lg_entry_eq]
  generalize (lg_sl ([.ref (ad 60), .ref (ad (200 + j))]) ++ List.replicate (2 - (lg_sl ([.ref (ad 60), .ref (ad (200 + j))])).length) Slot.unset).toArray = ls at hl ⊢
  have hl : lv_has ls 2 [(0, .ref (ad 60)), (1, .ref (ad (200 + j)))] := hl
  refine lv_aload_n hx hb dX6_interestNow_0 rfl (lv_at hl 1 rfl) ?_
  refine sy_getRX4 hx hb hts hown hE hP (200 + j) (sy_kdK hjK) 7 (by decide) (hts _ (u_in uk_3_83)) (v := .int (g (200 + j) 7)) rfl dX6_interestNow_1 ?_
  refine lv_if_ne (tgt := 29) hx hb dX6_interestNow_4 (by decide) (fun c_1 => ?_) (fun c_1 => ?_)
  · skip
    refine lv_iconst (v := 0) hx hb dX6_interestNow_29 (by decide) ?_
    exact (sy_ireti hx hb hr hlocks hE hP hS dX6_interestNow_30 ⟨Nat.le_of_ble_eq_true rfl, Nat.le_of_ble_eq_true rfl⟩ (by unfold fX6_interestNow; rw [if_neg c_1] <;> rfl))
  · skip
    refine lv_aload_n hx hb dX6_interestNow_7 rfl (lv_at hl 0 rfl) ?_
    refine sy_getRX6 hx hb hts hown hE hP 60 rfl 6 (by decide) (hts _ (u_in uk_1_158)) (v := .ref (ad 67)) rfl dX6_interestNow_8 ?_
    refine lv_aload_n hx hb dX6_interestNow_11 rfl (lv_at hl 1 rfl) ?_
    refine sy_getRX4 hx hb hts hown hE hP (200 + j) (sy_kdK hjK) 8 (by decide) (hts _ (u_in uk_3_85)) (v := .int (g (200 + j) 8)) rfl dX6_interestNow_12 ?_
    refine lv_aload_n hx hb dX6_interestNow_15 rfl (lv_at hl 1 rfl) ?_
    refine sy_getRX4 hx hb hts hown hE hP (200 + j) (sy_kdK hjK) 9 (by decide) (hts _ (u_in uk_3_87)) (v := .int (g (200 + j) 9)) rfl dX6_interestNow_16 ?_
    refine lv_aload_n hx hb dX6_interestNow_19 rfl (lv_at hl 0 rfl) ?_
    refine sy_getRX6 hx hb hts hown hE hP 60 rfl 9 (by decide) (hts _ (u_in uk_1_161)) (v := .int (g 60 9)) rfl dX6_interestNow_20 ?_
    refine sy_ki (sy_rV (o := 67) (As := [.int (g (200 + j) 8), .int (g (200 + j) 9), .int (g 60 9)]) (rest := []) ⟨hx, hb, hml, hown, hts⟩ hE hP hS (mX2_interest l hfl Z nT nK cT cK ad g q (g (200 + j) 8) (g (200 + j) 9) (g 60 9) hT hG (ig_dd hG hjK)) (cwV 3 hts (gu_V uk_4_64 uk_4_65 uk_4_66 uk_1_7 uk_4_67) rfl rfl rfl (by decide +kernel) ⟨Nat.le_of_ble_eq_true rfl, Nat.le_of_ble_eq_true rfl⟩) (sy_recv (kc := 3) hE hP rfl (by decide) rfl rfl rfl) rfl hl.1 rfl (Nat.le_of_ble_eq_true rfl) dX6_interestNow_23 ⟨Nat.le_of_ble_eq_true rfl, Nat.le_of_ble_eq_true rfl⟩) hS (fun r_e_2 g_e_2 q_e_2 H locs e_2 hP hS => ?_)
    cases e_2
    refine lv_goto (tgt := 30) hx hb dX6_interestNow_26 (by decide) ?_
    exact (sy_ireti hx hb hr hlocks hE hP hS dX6_interestNow_30 ⟨Nat.le_of_ble_eq_true rfl, Nat.le_of_ble_eq_true rfl⟩ (by unfold fX6_interestNow; rw [if_pos c_1] <;> rfl))
def fX6_mayBeOffered (g : sG) (q : sQ) (j : Nat) : Int32 := (if (g (200 + j) 7) = 0 then (if (g 60 9) ≤ (fX4_lastDay g q j) then 0 else (if (fX4_isBarred g q j) = 0 then (if (fX3_canBeFound g q (tg q j)) = 0 then 0 else 1) else 0)) else 0)
set_option maxHeartbeats 4000000 in
set_option maxRecDepth 100000 in
theorem mX6_mayBeOffered (l : Launch) (hfl : l.stackTraces = false) (Z : sZ) (nT nK cT cK : Nat) (ad : Nat → Nat) (g : sG) (q : sQ) (j : Nat) (hT : nT ≤ 100) (hG : IG nT nK cT cK g) (hQ : IQ nT nK q) (hjK : j < nK) : sMi l Z yX6_mayBeOffered (uW (.code yX6_mayBeOffered cX6_mayBeOffered 2 (some .boolean))) { frames := 2, cells := 0, slots := 0, locals := 40 } [.ref (ad 60), .ref (ad (200 + j))] nT nK cT cK ad g q (fun r g1 q1 => (r, g1, q1) = (fX6_mayBeOffered g q j, g, q)) := by
  refine Met.ofW (cc := cX6_mayBeOffered) (maxL := 2) (ret := (some .boolean)) (by decide) rfl ?_
  intro p e s m args below meth c s₁ B hml hv
  obtain ⟨rfl, hE, hP⟩ := hv
  have hx := B.exec
  have hb := B.bytes
  have hr := B.returns
  have hts := atoms_spec (ws := uW (.code yX6_mayBeOffered cX6_mayBeOffered 2 (some .boolean))) B.pre
  have hown : s.vm.findClass RX6 = some m.cls := findClass_of_methodNamed B.named
  have hlocks := B.notSynchronized
  have hS : va_S (sy_A Z) s.heap s.heap [] := va_S.rf
  have hl := lv_entry ([.ref (ad 60), .ref (ad (200 + j))]) (n := 2) (Nat.le_of_ble_eq_true rfl)
  rw [lg_entry_eq]
  generalize (lg_sl ([.ref (ad 60), .ref (ad (200 + j))]) ++ List.replicate (2 - (lg_sl ([.ref (ad 60), .ref (ad (200 + j))])).length) Slot.unset).toArray = ls at hl ⊢
  have hl : lv_has ls 2 [(0, .ref (ad 60)), (1, .ref (ad (200 + j)))] := hl
  refine lv_aload_n hx hb dX6_mayBeOffered_0 rfl (lv_at hl 1 rfl) ?_
  refine sy_getRX4 hx hb hts hown hE hP (200 + j) (sy_kdK hjK) 7 (by decide) (hts _ (u_in uk_3_83)) (v := .int (g (200 + j) 7)) rfl dX6_mayBeOffered_1 ?_
  refine lv_if_ne (tgt := 39) hx hb dX6_mayBeOffered_4 (by decide) (fun c_1 => ?_) (fun c_1 => ?_)
  · skip
    refine lv_iconst (v := 0) hx hb dX6_mayBeOffered_39 (by decide) ?_
    exact (sy_iretz hx hb hr hlocks hE hP hS dX6_mayBeOffered_40 ⟨Nat.le_of_ble_eq_true rfl, Nat.le_of_ble_eq_true rfl⟩ (by decide) (by unfold fX6_mayBeOffered; rw [if_neg c_1] <;> rfl))
  · skip
    refine lv_aload_n hx hb dX6_mayBeOffered_7 rfl (lv_at hl 0 rfl) ?_
    refine sy_getRX6 hx hb hts hown hE hP 60 rfl 9 (by decide) (hts _ (u_in uk_1_161)) (v := .int (g 60 9)) rfl dX6_mayBeOffered_8 ?_
    refine lv_aload_n hx hb dX6_mayBeOffered_11 rfl (lv_at hl 1 rfl) ?_
    refine sy_ki (sy_rV (o := (200 + j)) (As := []) (rest := [.int (g 60 9)]) ⟨hx, hb, hml, hown, hts⟩ hE hP hS (mX4_lastDay l hfl Z nT nK cT cK ad g q j hT hjK) (cwV 0 hts (gu_V uk_4_80 uk_4_81 uk_4_82 uk_1_22 uk_4_83) rfl rfl rfl (by decide +kernel) ⟨Nat.le_of_ble_eq_true rfl, Nat.le_of_ble_eq_true rfl⟩) (sy_recv (kc := 5) hE hP (sy_kdK hjK) (by decide) rfl rfl rfl) rfl hl.1 rfl (Nat.le_of_ble_eq_true rfl) dX6_mayBeOffered_12 ⟨Nat.le_of_ble_eq_true rfl, Nat.le_of_ble_eq_true rfl⟩) hS (fun r_e_2 g_e_2 q_e_2 H locs e_2 hP hS => ?_)
    cases e_2
    refine lv_icmp_le (tgt := 39) hx hb dX6_mayBeOffered_15 (by decide) (fun c_3 => ?_) (fun c_3 => ?_)
    · skip
      refine lv_iconst (v := 0) hx hb dX6_mayBeOffered_39 (by decide) ?_
      exact (sy_iretz hx hb hr hlocks hE hP hS dX6_mayBeOffered_40 ⟨Nat.le_of_ble_eq_true rfl, Nat.le_of_ble_eq_true rfl⟩ (by decide) (by unfold fX6_mayBeOffered; rw [if_pos c_1, if_pos c_3] <;> rfl))
    · skip
      refine lv_aload_n hx hb dX6_mayBeOffered_18 rfl (lv_at hl 1 rfl) ?_
      refine sy_ki (sy_rV (o := (200 + j)) (As := []) (rest := []) ⟨hx, hb, hml, hown, hts⟩ hE hP hS (mX4_isBarred l hfl Z nT nK cT cK ad g q j hT hjK hQ) (cwV 0 hts (gu_V uk_4_155 uk_4_156 uk_4_157 uk_1_22 uk_4_158) rfl rfl rfl (by decide +kernel) ⟨Nat.le_of_ble_eq_true rfl, Nat.le_of_ble_eq_true rfl⟩) (sy_recv (kc := 5) hE hP (sy_kdK hjK) (by decide) rfl rfl rfl) rfl hl.1 rfl (Nat.le_of_ble_eq_true rfl) dX6_mayBeOffered_19 ⟨Nat.le_of_ble_eq_true rfl, Nat.le_of_ble_eq_true rfl⟩) hS (fun r_e_4 g_e_4 q_e_4 H locs e_4 hP hS => ?_)
      cases e_4
      refine lv_if_ne (tgt := 39) hx hb dX6_mayBeOffered_22 (by decide) (fun c_5 => ?_) (fun c_5 => ?_)
      · skip
        refine lv_iconst (v := 0) hx hb dX6_mayBeOffered_39 (by decide) ?_
        exact (sy_iretz hx hb hr hlocks hE hP hS dX6_mayBeOffered_40 ⟨Nat.le_of_ble_eq_true rfl, Nat.le_of_ble_eq_true rfl⟩ (by decide) (by unfold fX6_mayBeOffered; rw [if_pos c_1, if_neg c_3, if_neg c_5] <;> rfl))
      · skip
        refine lv_aload_n hx hb dX6_mayBeOffered_25 rfl (lv_at hl 1 rfl) ?_
        refine sy_getRX4 hx hb hts hown hE hP (200 + j) (sy_kdK hjK) 1 (by decide) (hts _ (u_in uk_3_71)) (v := .ref (ad (100 + (tg q j)))) (by show some (sy_rv ad (q (200 + j) 1)) = _; rw [(iq_tg hQ hjK).1]; rfl) dX6_mayBeOffered_26 ?_
        refine sy_ki (sy_rV (o := (100 + (tg q j))) (As := []) (rest := []) ⟨hx, hb, hml, hown, hts⟩ hE hP hS (mX3_canBeFound l hfl Z nT nK cT cK ad g q (tg q j) hT (iq_tg hQ hjK).2) (cwV 0 hts (gu_V uk_3_221 uk_3_222 uk_3_223 uk_1_15 uk_3_224) rfl rfl rfl (by decide +kernel) ⟨Nat.le_of_ble_eq_true rfl, Nat.le_of_ble_eq_true rfl⟩) (sy_recv (kc := 4) hE hP (sy_kdT (iq_tg hQ hjK).2 hT) (by decide) rfl rfl rfl) rfl hl.1 rfl (Nat.le_of_ble_eq_true rfl) dX6_mayBeOffered_29 ⟨Nat.le_of_ble_eq_true rfl, Nat.le_of_ble_eq_true rfl⟩) hS (fun r_e_6 g_e_6 q_e_6 H locs e_6 hP hS => ?_)
        cases e_6
        refine lv_if_eq (tgt := 39) hx hb dX6_mayBeOffered_32 (by decide) (fun c_7 => ?_) (fun c_7 => ?_)
        · skip
          refine lv_iconst (v := 0) hx hb dX6_mayBeOffered_39 (by decide) ?_
          exact (sy_iretz hx hb hr hlocks hE hP hS dX6_mayBeOffered_40 ⟨Nat.le_of_ble_eq_true rfl, Nat.le_of_ble_eq_true rfl⟩ (by decide) (by unfold fX6_mayBeOffered; rw [if_pos c_1, if_neg c_3, if_pos c_5, if_pos c_7] <;> rfl))
        · skip
          refine lv_iconst (v := 1) hx hb dX6_mayBeOffered_35 (by decide) ?_
          refine lv_goto (tgt := 40) hx hb dX6_mayBeOffered_36 (by decide) ?_
          exact (sy_iretz hx hb hr hlocks hE hP hS dX6_mayBeOffered_40 ⟨Nat.le_of_ble_eq_true rfl, Nat.le_of_ble_eq_true rfl⟩ (by decide) (by unfold fX6_mayBeOffered; rw [if_pos c_1, if_neg c_3, if_pos c_5, if_neg c_7] <;> rfl))
def fX6_reserveOf (g : sG) (q : sQ) (j : Nat) (x0 : Int32) : Int32 := (if (g (200 + j) 13) = 0 then ((g (200 + j) 8) + x0) else (if (g (200 + j) 13) = 1 then (g (200 + j) 8) else 0))
set_option maxHeartbeats 4000000 in
set_option maxRecDepth 100000 in
theorem mX6_reserveOf (l : Launch) (hfl : l.stackTraces = false) (Z : sZ) (nT nK cT cK : Nat) (ad : Nat → Nat) (g : sG) (q : sQ) (j : Nat) (x0 : Int32) (hT : nT ≤ 100) (hG : IG nT nK cT cK g) (hQ : IQ nT nK q) (hjK : j < nK) : sMi l Z yX6_reserveOf (uW (.code yX6_reserveOf cX6_reserveOf 2 (some .int))) { frames := 0, cells := 0, slots := 0, locals := 0 } [.ref (ad (200 + j)), .int x0] nT nK cT cK ad g q (fun r g1 q1 => (r, g1, q1) = (fX6_reserveOf g q j x0, g, q)) := by
  refine Met.ofW (cc := cX6_reserveOf) (maxL := 2) (ret := (some .int)) (by decide) rfl ?_
  intro p e s m args below meth c s₁ B hml hv
  obtain ⟨rfl, hE, hP⟩ := hv
  have hx := B.exec
  have hb := B.bytes
  have hr := B.returns
  have hts := atoms_spec (ws := uW (.code yX6_reserveOf cX6_reserveOf 2 (some .int))) B.pre
  have hown : s.vm.findClass RX6 = some m.cls := findClass_of_methodNamed B.named
  have hlocks := B.notSynchronized
  have hS : va_S (sy_A Z) s.heap s.heap [] := va_S.rf
  have hl := lv_entry ([.ref (ad (200 + j)), .int x0]) (n := 2) (Nat.le_of_ble_eq_true rfl)
  rw [lg_entry_eq]
  generalize (lg_sl ([.ref (ad (200 + j)), .int x0]) ++ List.replicate (2 - (lg_sl ([.ref (ad (200 + j)), .int x0])).length) Slot.unset).toArray = ls at hl ⊢
  have hl : lv_has ls 2 [(0, .ref (ad (200 + j))), (1, .int x0)] := hl
  refine lv_aload_n hx hb dX6_reserveOf_0 rfl (lv_at hl 0 rfl) ?_
  refine sy_getRX4 hx hb hts hown hE hP (200 + j) (sy_kdK hjK) 13 (by decide) (hts _ (u_in uk_3_94)) (v := .int (g (200 + j) 13)) rfl dX6_reserveOf_1 ?_
  refine lv_if_ne (tgt := 14) hx hb dX6_reserveOf_4 (by decide) (fun c_1 => ?_) (fun c_1 => ?_)
  · skip
    refine lv_aload_n hx hb dX6_reserveOf_14 rfl (lv_at hl 0 rfl) ?_
    refine sy_getRX4 hx hb hts hown hE hP (200 + j) (sy_kdK hjK) 13 (by decide) (hts _ (u_in uk_3_94)) (v := .int (g (200 + j) 13)) rfl dX6_reserveOf_15 ?_
    refine lv_iconst (v := 1) hx hb dX6_reserveOf_18 (by decide) ?_
    refine lv_icmp_ne (tgt := 29) hx hb dX6_reserveOf_19 (by decide) (fun c_2 => ?_) (fun c_2 => ?_)
    · skip
      refine lv_iconst (v := 0) hx hb dX6_reserveOf_29 (by decide) ?_
      exact (sy_ireti hx hb hr hlocks hE hP hS dX6_reserveOf_30 ⟨Nat.le_of_ble_eq_true rfl, Nat.le_of_ble_eq_true rfl⟩ (by unfold fX6_reserveOf; rw [if_neg c_1, if_neg c_2] <;> rfl))
    · skip
      refine lv_aload_n hx hb dX6_reserveOf_22 rfl (lv_at hl 0 rfl) ?_
      refine sy_getRX4 hx hb hts hown hE hP (200 + j) (sy_kdK hjK) 8 (by decide) (hts _ (u_in uk_3_85)) (v := .int (g (200 + j) 8)) rfl dX6_reserveOf_23 ?_
      refine lv_goto (tgt := 30) hx hb dX6_reserveOf_26 (by decide) ?_
      exact (sy_ireti hx hb hr hlocks hE hP hS dX6_reserveOf_30 ⟨Nat.le_of_ble_eq_true rfl, Nat.le_of_ble_eq_true rfl⟩ (by unfold fX6_reserveOf; rw [if_neg c_1, if_pos c_2] <;> rfl))
  · skip
    refine lv_aload_n hx hb dX6_reserveOf_7 rfl (lv_at hl 0 rfl) ?_
    refine sy_getRX4 hx hb hts hown hE hP (200 + j) (sy_kdK hjK) 8 (by decide) (hts _ (u_in uk_3_85)) (v := .int (g (200 + j) 8)) rfl dX6_reserveOf_8 ?_
    refine lv_iload_n hx hb dX6_reserveOf_11 rfl (lv_at hl 1 rfl) ?_
    refine lv_iadd hx hb dX6_reserveOf_12 ?_
    exact (sy_ireti hx hb hr hlocks hE hP hS dX6_reserveOf_13 ⟨Nat.le_of_ble_eq_true rfl, Nat.le_of_ble_eq_true rfl⟩ (by unfold fX6_reserveOf; rw [if_pos c_1] <;> rfl))
def fX6_releaseSurplus (g : sG) (q : sQ) (j : Nat) : Int32 × sG := ((g (200 + j) 14), (fX5_move (sy_up (sy_up g (200 + j) 14 0) 68 1 (((sy_up g (200 + j) 14 0) 68 1) - (g (200 + j) 14))) q (-(g (200 + j) 14))))
set_option maxHeartbeats 4000000 in
set_option maxRecDepth 100000 in
theorem mX6_releaseSurplus (l : Launch) (hfl : l.stackTraces = false) (Z : sZ) (nT nK cT cK : Nat) (ad : Nat → Nat) (g : sG) (q : sQ) (j : Nat) (hT : nT ≤ 100) (hG : IG nT nK cT cK g) (hQ : IQ nT nK q) (hjK : j < nK) : sMi l Z yX6_releaseSurplus (uW (.code yX6_releaseSurplus cX6_releaseSurplus 3 (some .int))) { frames := 1, cells := 0, slots := 0, locals := 21 } [.ref (ad 60), .ref (ad (200 + j))] nT nK cT cK ad g q (fun r g1 q1 => (r, g1, q1) = ((fX6_releaseSurplus g q j).1, (fX6_releaseSurplus g q j).2, q)) := by
  refine Met.ofW (cc := cX6_releaseSurplus) (maxL := 3) (ret := (some .int)) (by decide) rfl ?_
  intro p e s m args below meth c s₁ B hml hv
  obtain ⟨rfl, hE, hP⟩ := hv
  have hx := B.exec
  have hb := B.bytes
  have hr := B.returns
  have hts := atoms_spec (ws := uW (.code yX6_releaseSurplus cX6_releaseSurplus 3 (some .int))) B.pre
  have hown : s.vm.findClass RX6 = some m.cls := findClass_of_methodNamed B.named
  have hlocks := B.notSynchronized
  have hS : va_S (sy_A Z) s.heap s.heap [] := va_S.rf
  have hl := lv_entry ([.ref (ad 60), .ref (ad (200 + j))]) (n := 3) (Nat.le_of_ble_eq_true rfl)
  rw [lg_entry_eq]
  generalize (lg_sl ([.ref (ad 60), .ref (ad (200 + j))]) ++ List.replicate (3 - (lg_sl ([.ref (ad 60), .ref (ad (200 + j))])).length) Slot.unset).toArray = ls at hl ⊢
  have hl : lv_has ls 3 [(0, .ref (ad 60)), (1, .ref (ad (200 + j)))] := hl
  refine lv_aload_n hx hb dX6_releaseSurplus_0 rfl (lv_at hl 1 rfl) ?_
  refine sy_getRX4 hx hb hts hown hE hP (200 + j) (sy_kdK hjK) 14 (by decide) (hts _ (u_in uk_3_96)) (v := .int (g (200 + j) 14)) rfl dX6_releaseSurplus_1 ?_
  refine lv_istore_n (lv' := [(2, .int (g (200 + j) 14)), (0, .ref (ad 60)), (1, .ref (ad (200 + j)))]) hx hb dX6_releaseSurplus_4 rfl hl (by decide) rfl (fun ls hl => ?_)
  refine lv_aload_n hx hb dX6_releaseSurplus_5 rfl (lv_at hl 2 rfl) ?_
  refine lv_iconst (v := 0) hx hb dX6_releaseSurplus_6 (by decide) ?_
  refine sy_putRX4 hx hb hts hown hE hP hS (200 + j) (sy_kdK hjK) 14 (by decide) (hts _ (u_in uk_3_96)) rfl (ty := .int) (by decide +kernel) rfl rfl (sy_up g (200 + j) 14 0) q (by rw [sy_up_s g (200 + j) 14 0]; exact se_RX4_14 _ _ _ _ _ _ _) (fun _ h9 => sy_up_o _ _ _ h9) (fun _ _ => rfl) dX6_releaseSurplus_7 (fun H locs hP hS => ?_)
  refine lv_aload_n hx hb dX6_releaseSurplus_10 rfl (lv_at hl 1 rfl) ?_
  refine sy_getRX6 hx hb hts hown hE hP 60 rfl 7 (by decide) (hts _ (u_in uk_1_159)) (v := .ref (ad 68)) rfl dX6_releaseSurplus_11 ?_
  refine lv_dup hx hb dX6_releaseSurplus_14 rfl ?_
  refine sy_getRX5 hx hb hts hown hE hP 68 rfl 1 (by decide) (hts _ (u_in uk_1_136)) (v := .int ((sy_up g (200 + j) 14 0) 68 1)) rfl dX6_releaseSurplus_15 ?_
  refine lv_iload_n hx hb dX6_releaseSurplus_18 rfl (lv_at hl 0 rfl) ?_
  refine lv_isub hx hb dX6_releaseSurplus_19 ?_
  refine sy_putRX5 hx hb hts hown hE hP hS 68 rfl 1 (by decide) (hts _ (u_in uk_1_136)) rfl (ty := .int) (by decide +kernel) rfl rfl (sy_up (sy_up g (200 + j) 14 0) 68 1 (((sy_up g (200 + j) 14 0) 68 1) - (g (200 + j) 14))) q (by rw [sy_up_s (sy_up g (200 + j) 14 0) 68 1 (((sy_up g (200 + j) 14 0) 68 1) - (g (200 + j) 14))]; exact se_RX5_1 _ _ _ _ _ _ _) (fun _ h9 => sy_up_o _ _ _ h9) (fun _ _ => rfl) dX6_releaseSurplus_20 (fun H locs hP hS => ?_)
  refine lv_aload_n hx hb dX6_releaseSurplus_23 rfl (lv_at hl 1 rfl) ?_
  refine sy_getRX6 hx hb hts hown hE hP 60 rfl 7 (by decide) (hts _ (u_in uk_1_159)) (v := .ref (ad 68)) rfl dX6_releaseSurplus_24 ?_
  refine lv_iload_n hx hb dX6_releaseSurplus_27 rfl (lv_at hl 0 rfl) ?_
  refine lv_ineg hx hb dX6_releaseSurplus_28 ?_
  refine sy_kv (sy_rV (o := 68) (As := [.int (-(g (200 + j) 14))]) (rest := []) ⟨hx, hb, hml, hown, hts⟩ hE hP hS (mX5_move l hfl Z nT nK cT cK ad (sy_up (sy_up g (200 + j) 14 0) 68 1 (((sy_up g (200 + j) 14 0) 68 1) - (g (200 + j) 14))) q (-(g (200 + j) 14)) hT (mv_a (by omega) (mv_a (by omega) (ig_mv hG)))) (cwV 1 hts (gu_V uk_3_140 uk_3_141 uk_3_142 uk_1_8 uk_3_143) rfl rfl rfl (by decide +kernel) ⟨Nat.le_of_ble_eq_true rfl, Nat.le_of_ble_eq_true rfl⟩) (sy_recv (kc := 6) hE hP rfl (by decide) rfl rfl rfl) rfl hl.1 rfl (Nat.le_of_ble_eq_true rfl) dX6_releaseSurplus_29 ⟨Nat.le_of_ble_eq_true rfl, Nat.le_of_ble_eq_true rfl⟩) hS (fun g_e_1 q_e_1 H locs e_1 hP hS => ?_)
  cases e_1
  refine lv_iload_n hx hb dX6_releaseSurplus_32 rfl (lv_at hl 0 rfl) ?_
  exact (sy_ireti hx hb hr hlocks hE hP hS dX6_releaseSurplus_33 ⟨Nat.le_of_ble_eq_true rfl, Nat.le_of_ble_eq_true rfl⟩ (by unfold fX6_releaseSurplus; rfl))
def lX6_roomAtN (g : sG) (q : sQ) (x0 : Int32) : Nat → Int32
  | 0 => 60
  | k0 + 1 => (if (g (100 + k0) 5) = 0 then (lX6_roomAtN g q x0 k0) else (if (g (100 + k0) 8) = x0 then ((lX6_roomAtN g q x0 k0) - (g (100 + k0) 2)) else (lX6_roomAtN g q x0 k0)))
def fX6_roomAtN (g : sG) (q : sQ) (x0 : Int32) : Int32 := (lX6_roomAtN g q x0 (g 61 2).toNatClampNeg)
set_option maxHeartbeats 4000000 in
set_option maxRecDepth 100000 in
theorem mX6_roomAtN (l : Launch) (hfl : l.stackTraces = false) (Z : sZ) (nT nK cT cK : Nat) (ad : Nat → Nat) (g : sG) (q : sQ) (x0 : Int32) (hT : nT ≤ 100) (hG : IG nT nK cT cK g) (hQ : IQ nT nK q) : sMi l Z yX6_roomAt (uW (.code yX6_roomAt cX6_roomAt 6 (some .int))) { frames := 3, cells := 0, slots := 0, locals := 64 } [.ref (ad 60), .int x0, .null] nT nK cT cK ad g q (fun r g1 q1 => (r, g1, q1) = (fX6_roomAtN g q x0, g, q)) := by
  refine Met.ofW (cc := cX6_roomAt) (maxL := 6) (ret := (some .int)) (by decide) rfl ?_
  intro p e s m args below meth c s₁ B hml hv
  obtain ⟨rfl, hE, hP⟩ := hv
  have hx := B.exec
  have hb := B.bytes
  have hr := B.returns
  have hts := atoms_spec (ws := uW (.code yX6_roomAt cX6_roomAt 6 (some .int))) B.pre
  have hown : s.vm.findClass RX6 = some m.cls := findClass_of_methodNamed B.named
  have hlocks := B.notSynchronized
  have hS : va_S (sy_A Z) s.heap s.heap [] := va_S.rf
  have hl := lv_entry ([.ref (ad 60), .int x0, .null]) (n := 6) (Nat.le_of_ble_eq_true rfl)
  rw [lg_entry_eq]
  generalize (lg_sl ([.ref (ad 60), .int x0, .null]) ++ List.replicate (6 - (lg_sl ([.ref (ad 60), .int x0, .null])).length) Slot.unset).toArray = ls at hl ⊢
  have hl : lv_has ls 6 [(0, .ref (ad 60)), (1, .int x0), (2, .null)] := hl
  refine lv_bipush (v := 60) hx hb dX6_roomAt_0 (by decide) ?_
  refine lv_istore_n (lv' := [(3, .int 60), (0, .ref (ad 60)), (1, .int x0), (2, .null)]) hx hb dX6_roomAt_2 rfl hl (by decide) rfl (fun ls hl => ?_)
  refine lv_iconst (v := 0) hx hb dX6_roomAt_3 (by decide) ?_
  refine lv_istore (lv' := [(4, .int 0), (3, .int 60), (0, .ref (ad 60)), (1, .int x0), (2, .null)]) hx hb dX6_roomAt_4 hl (by decide) rfl (fun ls hl => ?_)
  have hL_6 : ∀ (n k0 : Nat), k0 ≤ (g 61 2).toNatClampNeg → (g 61 2).toNatClampNeg + 1 ≤ k0 + n → ∀ (H : Heap) (locs : List Loc) (ls : Array Slot), Sy Z nT nK cT cK ad g q H → va_S (sy_A Z) s.heap H locs → lv_has ls 6 [(4, .int (nI k0)), (3, .int (lX6_roomAtN g q x0 k0)), (0, .ref (ad 60)), (1, .int x0), (2, .null)] → W p l e ({ frames := 3, cells := 0, slots := 0, locals := 64 } : Room) s m ([.ref (ad 60), .int x0, .null] : List Value).toArray below meth c H locs 0 0 (MQ below (sQi Z nT nK cT cK ad (fun r g1 q1 => (r, g1, q1) = (fX6_roomAtN g q x0, g, q))) ([.ref (ad 60), .int x0, .null] : List Value).toArray s 0 0 (sy_A Z)) (F0 m 6 ls []) := by
    intro n
    induction n with
    | zero => intro k0 hi hn ; exact absurd hn (by omega)
    | succ n ih =>
      intro k0 hi hn H locs ls hP hS hl
      have hN9 := (ig_nT hG).2
      refine lv_iload hx hb dX6_roomAt_6 (lv_at hl 0 rfl) ?_
      refine lv_aload_n hx hb dX6_roomAt_8 rfl (lv_at hl 2 rfl) ?_
      refine sy_getRX6 hx hb hts hown hE hP 60 rfl 0 (by decide) (hts _ (u_in uk_1_152)) (v := .ref (ad 61)) rfl dX6_roomAt_9 ?_
      refine sy_ki (sy_rV (o := 61) (As := []) (rest := [.int (nI k0)]) ⟨hx, hb, hml, hown, hts⟩ hE hP hS (mJx4a65c_size_8abf5T l hfl Z nT nK cT cK ad g q) (cwV 0 hts (gu_V uk_2_46 uk_2_47 uk_2_48 uk_1_4 uk_2_49) rfl rfl rfl (by decide +kernel) ⟨Nat.le_of_ble_eq_true rfl, Nat.le_of_ble_eq_true rfl⟩) (sy_recv (kc := 0) hE hP rfl (by decide) rfl rfl rfl) rfl hl.1 rfl (Nat.le_of_ble_eq_true rfl) dX6_roomAt_12 ⟨Nat.le_of_ble_eq_true rfl, Nat.le_of_ble_eq_true rfl⟩) hS (fun r_e_1 g_e_1 q_e_1 H locs e_1 hP hS => ?_)
      cases e_1
      refine sy_top (y := (g 61 2)) (by rfl) ?_
      refine lv_icmp_ge (tgt := 69) hx hb dX6_roomAt_15 (by decide) (fun c_2 => ?_) (fun c_2 => ?_)
      · skip
        obtain rfl := loop_exit (N := (g 61 2).toNatClampNeg) (ig_nT hG).1 (by omega) hi c_2
        refine lv_iload_n hx hb dX6_roomAt_69 rfl (lv_at hl 1 rfl) ?_
        exact (sy_ireti hx hb hr hlocks hE hP hS dX6_roomAt_70 ⟨Nat.le_of_ble_eq_true rfl, Nat.le_of_ble_eq_true rfl⟩ (by unfold fX6_roomAtN; rfl))
      · skip
        have hk0 : k0 < (g 61 2).toNatClampNeg := loop_in (N := (g 61 2).toNatClampNeg) (ig_nT hG).1 (by omega) hi c_2
        refine lv_aload_n hx hb dX6_roomAt_18 rfl (lv_at hl 2 rfl) ?_
        refine sy_getRX6 hx hb hts hown hE hP 60 rfl 0 (by decide) (hts _ (u_in uk_1_152)) (v := .ref (ad 61)) rfl dX6_roomAt_19 ?_
        refine lv_iload hx hb dX6_roomAt_22 (lv_at hl 0 rfl) ?_
        refine sy_kr (sy_rV (o := 61) (As := [.int (nI k0)]) (rest := []) ⟨hx, hb, hml, hown, hts⟩ hE hP hS (mJx4a65c_get_915e3T l hfl Z nT nK cT cK ad g q k0 hG hQ (ig_ltT hG hk0)) (cwV 1 hts (gu_V uk_3_16 uk_3_17 uk_3_18 uk_1_4 uk_3_19) rfl rfl rfl (by decide +kernel) ⟨Nat.le_of_ble_eq_true rfl, Nat.le_of_ble_eq_true rfl⟩) (sy_recv (kc := 0) hE hP rfl (by decide) rfl rfl rfl) rfl hl.1 rfl (Nat.le_of_ble_eq_true rfl) dX6_roomAt_24 ⟨Nat.le_of_ble_eq_true rfl, Nat.le_of_ble_eq_true rfl⟩) hS (fun o_e_3 H locs e_3 hP hS => ?_)
        subst e_3
        refine va_castS hx hb hown (hts _ (u_in uk_2_68)) (hE.1.1 4 _ rfl).2 (sy_recv (kc := 4) hE hP (sy_kdT (ig_ltT hG hk0) hT) (by decide) rfl rfl rfl) dX6_roomAt_27 ?_
        refine lv_astore (lv' := [(5, .ref (ad (100 + k0))), (4, .int (nI k0)), (3, .int (lX6_roomAtN g q x0 k0)), (0, .ref (ad 60)), (1, .int x0), (2, .null)]) hx hb dX6_roomAt_30 hl (by decide) rfl (fun ls hl => ?_)
        refine lv_aload hx hb dX6_roomAt_32 (lv_at hl 0 rfl) ?_
        refine lv_aload_nN hx hb dX6_roomAt_34 rfl (lv_at hl 5 rfl) ?_
        refine lv_acmp_eq (rx := some (ad (100 + k0))) (ry := none) (tgt := 63) hx hb dX6_roomAt_35 (by decide) (fun c9 => absurd c9 (by intro h9; cases h9)) (fun _ => ?_)
        refine lv_aload hx hb dX6_roomAt_38 (lv_at hl 0 rfl) ?_
        refine sy_getRX3 hx hb hts hown hE hP (100 + k0) (sy_kdT (ig_ltT hG hk0) hT) 5 (by decide) (hts _ (u_in uk_2_85)) (v := .int (g (100 + k0) 5)) rfl dX6_roomAt_40 ?_
        refine lv_if_eq (tgt := 63) hx hb dX6_roomAt_43 (by decide) (fun c_4 => ?_) (fun c_4 => ?_)
        · skip
          refine lv_iinc (v := ((nI k0) + 1)) (lv' := [(4, .int ((nI k0) + 1)), (5, .ref (ad (100 + k0))), (3, .int (lX6_roomAtN g q x0 k0)), (0, .ref (ad 60)), (1, .int x0), (2, .null)]) hx hb dX6_roomAt_63 hl (k := 1) rfl rfl (by decide) rfl (fun ls hl => ?_)
          refine lv_goto (tgt := 6) hx hb dX6_roomAt_66 (by decide) ?_
          have hF : lX6_roomAtN g q x0 (k0 + 1) = (lX6_roomAtN g q x0 k0) := by rw [lX6_roomAtN, if_pos c_4] <;> rfl
          exact ih (k0 + 1) (by omega) (by omega) H locs ls hP hS (by rw [nI_succ, hF]; exact lv_sub hl [0, 2, 3, 4, 5] rfl)
        · skip
          refine lv_aload hx hb dX6_roomAt_46 (lv_at hl 0 rfl) ?_
          refine sy_getRX3 hx hb hts hown hE hP (100 + k0) (sy_kdT (ig_ltT hG hk0) hT) 8 (by decide) (hts _ (u_in uk_2_92)) (v := .int (g (100 + k0) 8)) rfl dX6_roomAt_48 ?_
          refine lv_iload_n hx hb dX6_roomAt_51 rfl (lv_at hl 4 rfl) ?_
          refine lv_icmp_ne (tgt := 63) hx hb dX6_roomAt_52 (by decide) (fun c_5 => ?_) (fun c_5 => ?_)
          · skip
            refine lv_iinc (v := ((nI k0) + 1)) (lv' := [(4, .int ((nI k0) + 1)), (5, .ref (ad (100 + k0))), (3, .int (lX6_roomAtN g q x0 k0)), (0, .ref (ad 60)), (1, .int x0), (2, .null)]) hx hb dX6_roomAt_63 hl (k := 1) rfl rfl (by decide) rfl (fun ls hl => ?_)
            refine lv_goto (tgt := 6) hx hb dX6_roomAt_66 (by decide) ?_
            have hF : lX6_roomAtN g q x0 (k0 + 1) = (lX6_roomAtN g q x0 k0) := by rw [lX6_roomAtN, if_neg c_4, if_neg c_5] <;> rfl
            exact ih (k0 + 1) (by omega) (by omega) H locs ls hP hS (by rw [nI_succ, hF]; exact lv_sub hl [0, 2, 3, 4, 5] rfl)
          · skip
            refine lv_iload_n hx hb dX6_roomAt_55 rfl (lv_at hl 2 rfl) ?_
            refine lv_aload hx hb dX6_roomAt_56 (lv_at hl 0 rfl) ?_
            refine sy_getRX3 hx hb hts hown hE hP (100 + k0) (sy_kdT (ig_ltT hG hk0) hT) 2 (by decide) (hts _ (u_in uk_2_79)) (v := .int (g (100 + k0) 2)) rfl dX6_roomAt_58 ?_
            refine lv_isub hx hb dX6_roomAt_61 ?_
            refine lv_istore_n (lv' := [(3, .int ((lX6_roomAtN g q x0 k0) - (g (100 + k0) 2))), (5, .ref (ad (100 + k0))), (4, .int (nI k0)), (0, .ref (ad 60)), (1, .int x0), (2, .null)]) hx hb dX6_roomAt_62 rfl hl (by decide) rfl (fun ls hl => ?_)
            refine lv_iinc (v := ((nI k0) + 1)) (lv' := [(4, .int ((nI k0) + 1)), (3, .int ((lX6_roomAtN g q x0 k0) - (g (100 + k0) 2))), (5, .ref (ad (100 + k0))), (0, .ref (ad 60)), (1, .int x0), (2, .null)]) hx hb dX6_roomAt_63 hl (k := 2) rfl rfl (by decide) rfl (fun ls hl => ?_)
            refine lv_goto (tgt := 6) hx hb dX6_roomAt_66 (by decide) ?_
            have hF : lX6_roomAtN g q x0 (k0 + 1) = ((lX6_roomAtN g q x0 k0) - (g (100 + k0) 2)) := by rw [lX6_roomAtN, if_neg c_4, if_pos c_5] <;> rfl
            exact ih (k0 + 1) (by omega) (by omega) H locs ls hP hS (by rw [nI_succ, hF]; exact lv_sub hl [0, 1, 3, 4, 5] rfl)
  exact hL_6 ((g 61 2).toNatClampNeg + 1) 0 (Nat.zero_le _) (by omega) _ _ _ hP hS (lv_sub hl [0, 1, 2, 3, 4] rfl)
def lX6_roomAtT (g : sG) (q : sQ) (x0 : Int32) (i : Nat) : Nat → Int32
  | 0 => 60
  | k0 + 1 => (if k0 = i then (lX6_roomAtT g q x0 i k0) else (if (g (100 + k0) 5) = 0 then (lX6_roomAtT g q x0 i k0) else (if (g (100 + k0) 8) = x0 then ((lX6_roomAtT g q x0 i k0) - (g (100 + k0) 2)) else (lX6_roomAtT g q x0 i k0))))
def fX6_roomAtT (g : sG) (q : sQ) (x0 : Int32) (i : Nat) : Int32 := (lX6_roomAtT g q x0 i (g 61 2).toNatClampNeg)
set_option maxHeartbeats 4000000 in
set_option maxRecDepth 100000 in
theorem mX6_roomAtT (l : Launch) (hfl : l.stackTraces = false) (Z : sZ) (nT nK cT cK : Nat) (ad : Nat → Nat) (g : sG) (q : sQ) (x0 : Int32) (i : Nat) (hT : nT ≤ 100) (hG : IG nT nK cT cK g) (hQ : IQ nT nK q) (hiT : i < nT) : sMi l Z yX6_roomAt (uW (.code yX6_roomAt cX6_roomAt 6 (some .int))) { frames := 3, cells := 0, slots := 0, locals := 64 } [.ref (ad 60), .int x0, .ref (ad (100 + i))] nT nK cT cK ad g q (fun r g1 q1 => (r, g1, q1) = (fX6_roomAtT g q x0 i, g, q)) := by
  refine Met.ofW (cc := cX6_roomAt) (maxL := 6) (ret := (some .int)) (by decide) rfl ?_
  intro p e s m args below meth c s₁ B hml hv
  obtain ⟨rfl, hE, hP⟩ := hv
  have hx := B.exec
  have hb := B.bytes
  have hr := B.returns
  have hts := atoms_spec (ws := uW (.code yX6_roomAt cX6_roomAt 6 (some .int))) B.pre
  have hown : s.vm.findClass RX6 = some m.cls := findClass_of_methodNamed B.named
  have hlocks := B.notSynchronized
  have hS : va_S (sy_A Z) s.heap s.heap [] := va_S.rf
  have hl := lv_entry ([.ref (ad 60), .int x0, .ref (ad (100 + i))]) (n := 6) (Nat.le_of_ble_eq_true rfl)
  rw [lg_entry_eq]
  generalize (lg_sl ([.ref (ad 60), .int x0, .ref (ad (100 + i))]) ++ List.replicate (6 - (lg_sl ([.ref (ad 60), .int x0, .ref (ad (100 + i))])).length) Slot.unset).toArray = ls at hl ⊢
  have hl : lv_has ls 6 [(0, .ref (ad 60)), (1, .int x0), (2, .ref (ad (100 + i)))] := hl
  refine lv_bipush (v := 60) hx hb dX6_roomAt_0 (by decide) ?_
  refine lv_istore_n (lv' := [(3, .int 60), (0, .ref (ad 60)), (1, .int x0), (2, .ref (ad (100 + i)))]) hx hb dX6_roomAt_2 rfl hl (by decide) rfl (fun ls hl => ?_)
  refine lv_iconst (v := 0) hx hb dX6_roomAt_3 (by decide) ?_
  refine lv_istore (lv' := [(4, .int 0), (3, .int 60), (0, .ref (ad 60)), (1, .int x0), (2, .ref (ad (100 + i)))]) hx hb dX6_roomAt_4 hl (by decide) rfl (fun ls hl => ?_)
  have hL_6 : ∀ (n k0 : Nat), k0 ≤ (g 61 2).toNatClampNeg → (g 61 2).toNatClampNeg + 1 ≤ k0 + n → ∀ (H : Heap) (locs : List Loc) (ls : Array Slot), Sy Z nT nK cT cK ad g q H → va_S (sy_A Z) s.heap H locs → lv_has ls 6 [(4, .int (nI k0)), (3, .int (lX6_roomAtT g q x0 i k0)), (0, .ref (ad 60)), (1, .int x0), (2, .ref (ad (100 + i)))] → W p l e ({ frames := 3, cells := 0, slots := 0, locals := 64 } : Room) s m ([.ref (ad 60), .int x0, .ref (ad (100 + i))] : List Value).toArray below meth c H locs 0 0 (MQ below (sQi Z nT nK cT cK ad (fun r g1 q1 => (r, g1, q1) = (fX6_roomAtT g q x0 i, g, q))) ([.ref (ad 60), .int x0, .ref (ad (100 + i))] : List Value).toArray s 0 0 (sy_A Z)) (F0 m 6 ls []) := by
    intro n
    induction n with
    | zero => intro k0 hi hn ; exact absurd hn (by omega)
    | succ n ih =>
      intro k0 hi hn H locs ls hP hS hl
      have hN9 := (ig_nT hG).2
      refine lv_iload hx hb dX6_roomAt_6 (lv_at hl 0 rfl) ?_
      refine lv_aload_n hx hb dX6_roomAt_8 rfl (lv_at hl 2 rfl) ?_
      refine sy_getRX6 hx hb hts hown hE hP 60 rfl 0 (by decide) (hts _ (u_in uk_1_152)) (v := .ref (ad 61)) rfl dX6_roomAt_9 ?_
      refine sy_ki (sy_rV (o := 61) (As := []) (rest := [.int (nI k0)]) ⟨hx, hb, hml, hown, hts⟩ hE hP hS (mJx4a65c_size_8abf5T l hfl Z nT nK cT cK ad g q) (cwV 0 hts (gu_V uk_2_46 uk_2_47 uk_2_48 uk_1_4 uk_2_49) rfl rfl rfl (by decide +kernel) ⟨Nat.le_of_ble_eq_true rfl, Nat.le_of_ble_eq_true rfl⟩) (sy_recv (kc := 0) hE hP rfl (by decide) rfl rfl rfl) rfl hl.1 rfl (Nat.le_of_ble_eq_true rfl) dX6_roomAt_12 ⟨Nat.le_of_ble_eq_true rfl, Nat.le_of_ble_eq_true rfl⟩) hS (fun r_e_1 g_e_1 q_e_1 H locs e_1 hP hS => ?_)
      cases e_1
      refine sy_top (y := (g 61 2)) (by rfl) ?_
      refine lv_icmp_ge (tgt := 69) hx hb dX6_roomAt_15 (by decide) (fun c_2 => ?_) (fun c_2 => ?_)
      · skip
        obtain rfl := loop_exit (N := (g 61 2).toNatClampNeg) (ig_nT hG).1 (by omega) hi c_2
        refine lv_iload_n hx hb dX6_roomAt_69 rfl (lv_at hl 1 rfl) ?_
        exact (sy_ireti hx hb hr hlocks hE hP hS dX6_roomAt_70 ⟨Nat.le_of_ble_eq_true rfl, Nat.le_of_ble_eq_true rfl⟩ (by unfold fX6_roomAtT; rfl))
      · skip
        have hk0 : k0 < (g 61 2).toNatClampNeg := loop_in (N := (g 61 2).toNatClampNeg) (ig_nT hG).1 (by omega) hi c_2
        refine lv_aload_n hx hb dX6_roomAt_18 rfl (lv_at hl 2 rfl) ?_
        refine sy_getRX6 hx hb hts hown hE hP 60 rfl 0 (by decide) (hts _ (u_in uk_1_152)) (v := .ref (ad 61)) rfl dX6_roomAt_19 ?_
        refine lv_iload hx hb dX6_roomAt_22 (lv_at hl 0 rfl) ?_
        refine sy_kr (sy_rV (o := 61) (As := [.int (nI k0)]) (rest := []) ⟨hx, hb, hml, hown, hts⟩ hE hP hS (mJx4a65c_get_915e3T l hfl Z nT nK cT cK ad g q k0 hG hQ (ig_ltT hG hk0)) (cwV 1 hts (gu_V uk_3_16 uk_3_17 uk_3_18 uk_1_4 uk_3_19) rfl rfl rfl (by decide +kernel) ⟨Nat.le_of_ble_eq_true rfl, Nat.le_of_ble_eq_true rfl⟩) (sy_recv (kc := 0) hE hP rfl (by decide) rfl rfl rfl) rfl hl.1 rfl (Nat.le_of_ble_eq_true rfl) dX6_roomAt_24 ⟨Nat.le_of_ble_eq_true rfl, Nat.le_of_ble_eq_true rfl⟩) hS (fun o_e_3 H locs e_3 hP hS => ?_)
        subst e_3
        refine va_castS hx hb hown (hts _ (u_in uk_2_68)) (hE.1.1 4 _ rfl).2 (sy_recv (kc := 4) hE hP (sy_kdT (ig_ltT hG hk0) hT) (by decide) rfl rfl rfl) dX6_roomAt_27 ?_
        refine lv_astore (lv' := [(5, .ref (ad (100 + k0))), (4, .int (nI k0)), (3, .int (lX6_roomAtT g q x0 i k0)), (0, .ref (ad 60)), (1, .int x0), (2, .ref (ad (100 + i)))]) hx hb dX6_roomAt_30 hl (by decide) rfl (fun ls hl => ?_)
        refine lv_aload hx hb dX6_roomAt_32 (lv_at hl 0 rfl) ?_
        refine lv_aload_n hx hb dX6_roomAt_34 rfl (lv_at hl 5 rfl) ?_
        refine lv_acmp_eq (rx := some (ad (100 + k0))) (ry := some (ad (100 + i))) (tgt := 63) hx hb dX6_roomAt_35 (by decide) (fun c_4 => ?_) (fun c_4 => ?_)
        · have c_4 : k0 = i := sy_injT hP (sy_kdT (ig_ltT hG hk0) hT) (sy_kdT hiT hT) c_4
          refine lv_iinc (v := ((nI k0) + 1)) (lv' := [(4, .int ((nI k0) + 1)), (5, .ref (ad (100 + k0))), (3, .int (lX6_roomAtT g q x0 i k0)), (0, .ref (ad 60)), (1, .int x0), (2, .ref (ad (100 + i)))]) hx hb dX6_roomAt_63 hl (k := 1) rfl rfl (by decide) rfl (fun ls hl => ?_)
          refine lv_goto (tgt := 6) hx hb dX6_roomAt_66 (by decide) ?_
          have hF : lX6_roomAtT g q x0 i (k0 + 1) = (lX6_roomAtT g q x0 i k0) := by rw [lX6_roomAtT, if_pos c_4] <;> rfl
          exact ih (k0 + 1) (by omega) (by omega) H locs ls hP hS (by rw [nI_succ, hF]; exact lv_sub hl [0, 2, 3, 4, 5] rfl)
        · have c_4 : ¬ (k0 = i) := fun h9 => c_4 (by rw [h9])
          refine lv_aload hx hb dX6_roomAt_38 (lv_at hl 0 rfl) ?_
          refine sy_getRX3 hx hb hts hown hE hP (100 + k0) (sy_kdT (ig_ltT hG hk0) hT) 5 (by decide) (hts _ (u_in uk_2_85)) (v := .int (g (100 + k0) 5)) rfl dX6_roomAt_40 ?_
          refine lv_if_eq (tgt := 63) hx hb dX6_roomAt_43 (by decide) (fun c_5 => ?_) (fun c_5 => ?_)
          · skip
            refine lv_iinc (v := ((nI k0) + 1)) (lv' := [(4, .int ((nI k0) + 1)), (5, .ref (ad (100 + k0))), (3, .int (lX6_roomAtT g q x0 i k0)), (0, .ref (ad 60)), (1, .int x0), (2, .ref (ad (100 + i)))]) hx hb dX6_roomAt_63 hl (k := 1) rfl rfl (by decide) rfl (fun ls hl => ?_)
            refine lv_goto (tgt := 6) hx hb dX6_roomAt_66 (by decide) ?_
            have hF : lX6_roomAtT g q x0 i (k0 + 1) = (lX6_roomAtT g q x0 i k0) := by rw [lX6_roomAtT, if_neg c_4, if_pos c_5] <;> rfl
            exact ih (k0 + 1) (by omega) (by omega) H locs ls hP hS (by rw [nI_succ, hF]; exact lv_sub hl [0, 2, 3, 4, 5] rfl)
          · skip
            refine lv_aload hx hb dX6_roomAt_46 (lv_at hl 0 rfl) ?_
            refine sy_getRX3 hx hb hts hown hE hP (100 + k0) (sy_kdT (ig_ltT hG hk0) hT) 8 (by decide) (hts _ (u_in uk_2_92)) (v := .int (g (100 + k0) 8)) rfl dX6_roomAt_48 ?_
            refine lv_iload_n hx hb dX6_roomAt_51 rfl (lv_at hl 4 rfl) ?_
            refine lv_icmp_ne (tgt := 63) hx hb dX6_roomAt_52 (by decide) (fun c_6 => ?_) (fun c_6 => ?_)
            · skip
              refine lv_iinc (v := ((nI k0) + 1)) (lv' := [(4, .int ((nI k0) + 1)), (5, .ref (ad (100 + k0))), (3, .int (lX6_roomAtT g q x0 i k0)), (0, .ref (ad 60)), (1, .int x0), (2, .ref (ad (100 + i)))]) hx hb dX6_roomAt_63 hl (k := 1) rfl rfl (by decide) rfl (fun ls hl => ?_)
              refine lv_goto (tgt := 6) hx hb dX6_roomAt_66 (by decide) ?_
              have hF : lX6_roomAtT g q x0 i (k0 + 1) = (lX6_roomAtT g q x0 i k0) := by rw [lX6_roomAtT, if_neg c_4, if_neg c_5, if_neg c_6] <;> rfl
              exact ih (k0 + 1) (by omega) (by omega) H locs ls hP hS (by rw [nI_succ, hF]; exact lv_sub hl [0, 2, 3, 4, 5] rfl)
            · skip
              refine lv_iload_n hx hb dX6_roomAt_55 rfl (lv_at hl 2 rfl) ?_
              refine lv_aload hx hb dX6_roomAt_56 (lv_at hl 0 rfl) ?_
              refine sy_getRX3 hx hb hts hown hE hP (100 + k0) (sy_kdT (ig_ltT hG hk0) hT) 2 (by decide) (hts _ (u_in uk_2_79)) (v := .int (g (100 + k0) 2)) rfl dX6_roomAt_58 ?_
              refine lv_isub hx hb dX6_roomAt_61 ?_
              refine lv_istore_n (lv' := [(3, .int ((lX6_roomAtT g q x0 i k0) - (g (100 + k0) 2))), (5, .ref (ad (100 + k0))), (4, .int (nI k0)), (0, .ref (ad 60)), (1, .int x0), (2, .ref (ad (100 + i)))]) hx hb dX6_roomAt_62 rfl hl (by decide) rfl (fun ls hl => ?_)
              refine lv_iinc (v := ((nI k0) + 1)) (lv' := [(4, .int ((nI k0) + 1)), (3, .int ((lX6_roomAtT g q x0 i k0) - (g (100 + k0) 2))), (5, .ref (ad (100 + k0))), (0, .ref (ad 60)), (1, .int x0), (2, .ref (ad (100 + i)))]) hx hb dX6_roomAt_63 hl (k := 2) rfl rfl (by decide) rfl (fun ls hl => ?_)
              refine lv_goto (tgt := 6) hx hb dX6_roomAt_66 (by decide) ?_
              have hF : lX6_roomAtT g q x0 i (k0 + 1) = ((lX6_roomAtT g q x0 i k0) - (g (100 + k0) 2)) := by rw [lX6_roomAtT, if_neg c_4, if_neg c_5, if_pos c_6] <;> rfl
              exact ih (k0 + 1) (by omega) (by omega) H locs ls hP hS (by rw [nI_succ, hF]; exact lv_sub hl [0, 1, 3, 4, 5] rfl)
  exact hL_6 ((g 61 2).toNatClampNeg + 1) 0 (Nat.zero_le _) (by omega) _ _ _ hP hS (lv_sub hl [0, 1, 2, 3, 4] rfl)
def fX6_shelfFor (g : sG) (q : sQ) (i : Nat) (x0 : Int32) : Int32 := (if (g (100 + i) 1) = 1 then (if (fX6_roomAtT g q ((4 * x0) + 0) i) < (g (100 + i) 2) then (if (fX6_roomAtT g q ((4 * x0) + 1) i) < (g (100 + i) 2) then (if (fX6_roomAtT g q ((4 * x0) + 2) i) < (g (100 + i) 2) then (if (fX6_roomAtT g q ((4 * x0) + 3) i) < (g (100 + i) 2) then (-1) else 3) else 2) else 1) else 0) else (if (fX6_roomAtT g q ((4 * x0) + 1) i) < (g (100 + i) 2) then (if (fX6_roomAtT g q ((4 * x0) + 2) i) < (g (100 + i) 2) then (if (fX6_roomAtT g q ((4 * x0) + 3) i) < (g (100 + i) 2) then (if (fX6_roomAtT g q ((4 * x0) + 0) i) < (g (100 + i) 2) then (-1) else 0) else 3) else 2) else 1))
set_option maxHeartbeats 4000000 in
set_option maxRecDepth 100000 in
theorem mX6_shelfFor (l : Launch) (hfl : l.stackTraces = false) (Z : sZ) (nT nK cT cK : Nat) (ad : Nat → Nat) (g : sG) (q : sQ) (i : Nat) (x0 : Int32) (hT : nT ≤ 100) (hG : IG nT nK cT cK g) (hQ : IQ nT nK q) (hiT : i < nT) : sMi l Z yX6_shelfFor (uW (.code yX6_shelfFor cX6_shelfFor 6 (some .int))) { frames := 4, cells := 0, slots := 0, locals := 89 } [.ref (ad 60), .ref (ad (100 + i)), .int x0] nT nK cT cK ad g q (fun r g1 q1 => (r, g1, q1) = (fX6_shelfFor g q i x0, g, q)) := by
  refine Met.ofW (cc := cX6_shelfFor) (maxL := 6) (ret := (some .int)) (by decide) rfl ?_
  intro p e s m args below meth c s₁ B hml hv
  obtain ⟨rfl, hE, hP⟩ := hv
  have hx := B.exec
  have hb := B.bytes
  have hr := B.returns
  have hts := atoms_spec (ws := uW (.code yX6_shelfFor cX6_shelfFor 6 (some .int))) B.pre
  have hown : s.vm.findClass RX6 = some m.cls := findClass_of_methodNamed B.named
  have hlocks := B.notSynchronized
  have hS : va_S (sy_A Z) s.heap s.heap [] := va_S.rf
  have hl := lv_entry ([.ref (ad 60), .ref (ad (100 + i)), .int x0]) (n := 6) (Nat.le_of_ble_eq_true rfl)
  rw [lg_entry_eq]
  generalize (lg_sl ([.ref (ad 60), .ref (ad (100 + i)), .int x0]) ++ List.replicate (6 - (lg_sl ([.ref (ad 60), .ref (ad (100 + i)), .int x0])).length) Slot.unset).toArray = ls at hl ⊢
  have hl : lv_has ls 6 [(0, .ref (ad 60)), (1, .ref (ad (100 + i))), (2, .int x0)] := hl
  have K_1 : (¬ ((g (100 + i) 1) = 1)) → ((fX6_roomAtT g q ((4 * x0) + 1) i) < (g (100 + i) 2)) → ((fX6_roomAtT g q ((4 * x0) + 2) i) < (g (100 + i) 2)) → ∀ (H : Heap) (locs : List Loc) (ls : Array Slot), Sy Z nT nK cT cK ad g q H → va_S (sy_A Z) s.heap H locs → lv_has ls 6 [(5, .int 3), (4, .int 2), (3, .int 1), (0, .ref (ad 60)), (1, .ref (ad (100 + i))), (2, .int x0)] → W p l e ({ frames := 4, cells := 0, slots := 0, locals := 89 } : Room) s m ([.ref (ad 60), .ref (ad (100 + i)), .int x0] : List Value).toArray below meth c H locs 0 0 (MQ below (sQi Z nT nK cT cK ad (fun r g1 q1 => (r, g1, q1) = (fX6_shelfFor g q i x0, g, q))) ([.ref (ad 60), .ref (ad (100 + i)), .int x0] : List Value).toArray s 0 0 (sy_A Z)) (F0 m 35 ls [.int 3, .int x0, .ref (ad 60)]) := by
    intro c_1 c_4 c_7 H locs ls hP hS hl
    refine sy_ki (sy_rS (As := [.int x0, .int 3]) (rest := [.ref (ad 60)]) ⟨hx, hb, hml, hown, hts⟩ hE hP hS (mX6_placeOf l hfl Z nT nK cT cK ad g q x0 3 hT) (va_cwS 2 hts (gu_S uk_3_55 uk_3_56 uk_1_1 uk_3_57) rfl rfl rfl (by decide +kernel) ⟨Nat.le_of_ble_eq_true rfl, Nat.le_of_ble_eq_true rfl⟩) rfl hl.1 rfl (Nat.le_of_ble_eq_true rfl) dX6_shelfFor_35 ⟨Nat.le_of_ble_eq_true rfl, Nat.le_of_ble_eq_true rfl⟩) hS (fun r_e_8 g_e_8 q_e_8 H locs e_8 hP hS => ?_)
    cases e_8
    refine sy_top (y := ((4 * x0) + 3)) (by rfl) ?_
    refine lv_aload_n hx hb dX6_shelfFor_38 rfl (lv_at hl 4 rfl) ?_
    refine sy_ki (sy_rV (o := 60) (As := [.int ((4 * x0) + 3), .ref (ad (100 + i))]) (rest := []) ⟨hx, hb, hml, hown, hts⟩ hE hP hS (mX6_roomAtT l hfl Z nT nK cT cK ad g q ((4 * x0) + 3) i hT hG hQ hiT) (cwV 2 hts (gu_V uk_3_58 uk_3_60 uk_0_9 uk_1_1 uk_3_61) rfl rfl rfl (by decide +kernel) ⟨Nat.le_of_ble_eq_true rfl, Nat.le_of_ble_eq_true rfl⟩) (sy_recv (kc := 7) hE hP rfl (by decide) rfl rfl rfl) rfl hl.1 rfl (Nat.le_of_ble_eq_true rfl) dX6_shelfFor_39 ⟨Nat.le_of_ble_eq_true rfl, Nat.le_of_ble_eq_true rfl⟩) hS (fun r_e_9 g_e_9 q_e_9 H locs e_9 hP hS => ?_)
    cases e_9
    refine lv_aload_n hx hb dX6_shelfFor_42 rfl (lv_at hl 4 rfl) ?_
    refine sy_getRX3 hx hb hts hown hE hP (100 + i) (sy_kdT hiT hT) 2 (by decide) (hts _ (u_in uk_2_79)) (v := .int (g (100 + i) 2)) rfl dX6_shelfFor_43 ?_
    refine lv_icmp_lt (tgt := 52) hx hb dX6_shelfFor_46 (by decide) (fun c_10 => ?_) (fun c_10 => ?_)
    · skip
      refine lv_iinc (v := 3) (lv' := [(4, .int 3), (5, .int 3), (3, .int 1), (0, .ref (ad 60)), (1, .ref (ad (100 + i))), (2, .int x0)]) hx hb dX6_shelfFor_52 hl (k := 1) rfl rfl (by decide) rfl (fun ls hl => ?_)
      refine lv_goto (tgt := 17) hx hb dX6_shelfFor_55 (by decide) ?_
      refine lv_iload hx hb dX6_shelfFor_17 (lv_at hl 0 rfl) ?_
      refine lv_iconst (v := 4) hx hb dX6_shelfFor_19 (by decide) ?_
      refine lv_icmp_ge (tgt := 58) hx hb dX6_shelfFor_20 (by decide) (fun c9 => absurd c9 (by decide)) (fun _ => ?_)
      refine lv_iload_n hx hb dX6_shelfFor_23 rfl (lv_at hl 2 rfl) ?_
      refine lv_iload hx hb dX6_shelfFor_24 (lv_at hl 0 rfl) ?_
      refine lv_iadd hx hb dX6_shelfFor_26 ?_
      refine sy_top (y := 4) (by decide) ?_
      refine lv_iconst (v := 4) hx hb dX6_shelfFor_27 (by decide) ?_
      refine lv_irem hx hb dX6_shelfFor_28 (by decide) ?_
      refine sy_top (y := 0) (by decide) ?_
      refine lv_istore (lv' := [(5, .int 0), (4, .int 3), (3, .int 1), (0, .ref (ad 60)), (1, .ref (ad (100 + i))), (2, .int x0)]) hx hb dX6_shelfFor_29 hl (by decide) rfl (fun ls hl => ?_)
      refine lv_aload_n hx hb dX6_shelfFor_31 rfl (lv_at hl 3 rfl) ?_
      refine lv_iload_n hx hb dX6_shelfFor_32 rfl (lv_at hl 5 rfl) ?_
      refine lv_iload hx hb dX6_shelfFor_33 (lv_at hl 0 rfl) ?_
      refine sy_ki (sy_rS (As := [.int x0, .int 0]) (rest := [.ref (ad 60)]) ⟨hx, hb, hml, hown, hts⟩ hE hP hS (mX6_placeOf l hfl Z nT nK cT cK ad g q x0 0 hT) (va_cwS 2 hts (gu_S uk_3_55 uk_3_56 uk_1_1 uk_3_57) rfl rfl rfl (by decide +kernel) ⟨Nat.le_of_ble_eq_true rfl, Nat.le_of_ble_eq_true rfl⟩) rfl hl.1 rfl (Nat.le_of_ble_eq_true rfl) dX6_shelfFor_35 ⟨Nat.le_of_ble_eq_true rfl, Nat.le_of_ble_eq_true rfl⟩) hS (fun r_e_11 g_e_11 q_e_11 H locs e_11 hP hS => ?_)
      cases e_11
      refine sy_top (y := ((4 * x0) + 0)) (by rfl) ?_
      refine lv_aload_n hx hb dX6_shelfFor_38 rfl (lv_at hl 4 rfl) ?_
      refine sy_ki (sy_rV (o := 60) (As := [.int ((4 * x0) + 0), .ref (ad (100 + i))]) (rest := []) ⟨hx, hb, hml, hown, hts⟩ hE hP hS (mX6_roomAtT l hfl Z nT nK cT cK ad g q ((4 * x0) + 0) i hT hG hQ hiT) (cwV 2 hts (gu_V uk_3_58 uk_3_60 uk_0_9 uk_1_1 uk_3_61) rfl rfl rfl (by decide +kernel) ⟨Nat.le_of_ble_eq_true rfl, Nat.le_of_ble_eq_true rfl⟩) (sy_recv (kc := 7) hE hP rfl (by decide) rfl rfl rfl) rfl hl.1 rfl (Nat.le_of_ble_eq_true rfl) dX6_shelfFor_39 ⟨Nat.le_of_ble_eq_true rfl, Nat.le_of_ble_eq_true rfl⟩) hS (fun r_e_12 g_e_12 q_e_12 H locs e_12 hP hS => ?_)
      cases e_12
      refine lv_aload_n hx hb dX6_shelfFor_42 rfl (lv_at hl 4 rfl) ?_
      refine sy_getRX3 hx hb hts hown hE hP (100 + i) (sy_kdT hiT hT) 2 (by decide) (hts _ (u_in uk_2_79)) (v := .int (g (100 + i) 2)) rfl dX6_shelfFor_43 ?_
      refine lv_icmp_lt (tgt := 52) hx hb dX6_shelfFor_46 (by decide) (fun c_13 => ?_) (fun c_13 => ?_)
      · skip
        refine lv_iinc (v := 4) (lv' := [(4, .int 4), (5, .int 0), (3, .int 1), (0, .ref (ad 60)), (1, .ref (ad (100 + i))), (2, .int x0)]) hx hb dX6_shelfFor_52 hl (k := 1) rfl rfl (by decide) rfl (fun ls hl => ?_)
        refine lv_goto (tgt := 17) hx hb dX6_shelfFor_55 (by decide) ?_
        refine lv_iload hx hb dX6_shelfFor_17 (lv_at hl 0 rfl) ?_
        refine lv_iconst (v := 4) hx hb dX6_shelfFor_19 (by decide) ?_
        refine lv_icmp_ge (tgt := 58) hx hb dX6_shelfFor_20 (by decide) (fun _ => ?_) (fun c9 => absurd c9 (by decide))
        refine lv_iconst (v := (-1)) hx hb dX6_shelfFor_58 (by decide) ?_
        exact (sy_ireti hx hb hr hlocks hE hP hS dX6_shelfFor_59 ⟨Nat.le_of_ble_eq_true rfl, Nat.le_of_ble_eq_true rfl⟩ (by unfold fX6_shelfFor; rw [if_neg c_1, if_pos c_4, if_pos c_7, if_pos c_10, if_pos c_13] <;> rfl))
      · skip
        refine lv_iload hx hb dX6_shelfFor_49 (lv_at hl 0 rfl) ?_
        exact (sy_ireti hx hb hr hlocks hE hP hS dX6_shelfFor_51 ⟨Nat.le_of_ble_eq_true rfl, Nat.le_of_ble_eq_true rfl⟩ (by unfold fX6_shelfFor; rw [if_neg c_1, if_pos c_4, if_pos c_7, if_pos c_10, if_neg c_13] <;> rfl))
    · skip
      refine lv_iload hx hb dX6_shelfFor_49 (lv_at hl 0 rfl) ?_
      exact (sy_ireti hx hb hr hlocks hE hP hS dX6_shelfFor_51 ⟨Nat.le_of_ble_eq_true rfl, Nat.le_of_ble_eq_true rfl⟩ (by unfold fX6_shelfFor; rw [if_neg c_1, if_pos c_4, if_pos c_7, if_neg c_10] <;> rfl))
  have K_2 : ((g (100 + i) 1) = 1) → ((fX6_roomAtT g q ((4 * x0) + 0) i) < (g (100 + i) 2)) → ((fX6_roomAtT g q ((4 * x0) + 1) i) < (g (100 + i) 2)) → ∀ (H : Heap) (locs : List Loc) (ls : Array Slot), Sy Z nT nK cT cK ad g q H → va_S (sy_A Z) s.heap H locs → lv_has ls 6 [(5, .int 2), (4, .int 2), (3, .int 0), (0, .ref (ad 60)), (1, .ref (ad (100 + i))), (2, .int x0)] → W p l e ({ frames := 4, cells := 0, slots := 0, locals := 89 } : Room) s m ([.ref (ad 60), .ref (ad (100 + i)), .int x0] : List Value).toArray below meth c H locs 0 0 (MQ below (sQi Z nT nK cT cK ad (fun r g1 q1 => (r, g1, q1) = (fX6_shelfFor g q i x0, g, q))) ([.ref (ad 60), .ref (ad (100 + i)), .int x0] : List Value).toArray s 0 0 (sy_A Z)) (F0 m 33 ls [.int x0, .ref (ad 60)]) := by
    intro c_1 c_16 c_19 H locs ls hP hS hl
    refine lv_iload hx hb dX6_shelfFor_33 (lv_at hl 0 rfl) ?_
    refine sy_ki (sy_rS (As := [.int x0, .int 2]) (rest := [.ref (ad 60)]) ⟨hx, hb, hml, hown, hts⟩ hE hP hS (mX6_placeOf l hfl Z nT nK cT cK ad g q x0 2 hT) (va_cwS 2 hts (gu_S uk_3_55 uk_3_56 uk_1_1 uk_3_57) rfl rfl rfl (by decide +kernel) ⟨Nat.le_of_ble_eq_true rfl, Nat.le_of_ble_eq_true rfl⟩) rfl hl.1 rfl (Nat.le_of_ble_eq_true rfl) dX6_shelfFor_35 ⟨Nat.le_of_ble_eq_true rfl, Nat.le_of_ble_eq_true rfl⟩) hS (fun r_e_20 g_e_20 q_e_20 H locs e_20 hP hS => ?_)
    cases e_20
    refine sy_top (y := ((4 * x0) + 2)) (by rfl) ?_
    refine lv_aload_n hx hb dX6_shelfFor_38 rfl (lv_at hl 4 rfl) ?_
    refine sy_ki (sy_rV (o := 60) (As := [.int ((4 * x0) + 2), .ref (ad (100 + i))]) (rest := []) ⟨hx, hb, hml, hown, hts⟩ hE hP hS (mX6_roomAtT l hfl Z nT nK cT cK ad g q ((4 * x0) + 2) i hT hG hQ hiT) (cwV 2 hts (gu_V uk_3_58 uk_3_60 uk_0_9 uk_1_1 uk_3_61) rfl rfl rfl (by decide +kernel) ⟨Nat.le_of_ble_eq_true rfl, Nat.le_of_ble_eq_true rfl⟩) (sy_recv (kc := 7) hE hP rfl (by decide) rfl rfl rfl) rfl hl.1 rfl (Nat.le_of_ble_eq_true rfl) dX6_shelfFor_39 ⟨Nat.le_of_ble_eq_true rfl, Nat.le_of_ble_eq_true rfl⟩) hS (fun r_e_21 g_e_21 q_e_21 H locs e_21 hP hS => ?_)
    cases e_21
    refine lv_aload_n hx hb dX6_shelfFor_42 rfl (lv_at hl 4 rfl) ?_
    refine sy_getRX3 hx hb hts hown hE hP (100 + i) (sy_kdT hiT hT) 2 (by decide) (hts _ (u_in uk_2_79)) (v := .int (g (100 + i) 2)) rfl dX6_shelfFor_43 ?_
    refine lv_icmp_lt (tgt := 52) hx hb dX6_shelfFor_46 (by decide) (fun c_22 => ?_) (fun c_22 => ?_)
    · skip
      refine lv_iinc (v := 3) (lv' := [(4, .int 3), (5, .int 2), (3, .int 0), (0, .ref (ad 60)), (1, .ref (ad (100 + i))), (2, .int x0)]) hx hb dX6_shelfFor_52 hl (k := 1) rfl rfl (by decide) rfl (fun ls hl => ?_)
      refine lv_goto (tgt := 17) hx hb dX6_shelfFor_55 (by decide) ?_
      refine lv_iload hx hb dX6_shelfFor_17 (lv_at hl 0 rfl) ?_
      refine lv_iconst (v := 4) hx hb dX6_shelfFor_19 (by decide) ?_
      refine lv_icmp_ge (tgt := 58) hx hb dX6_shelfFor_20 (by decide) (fun c9 => absurd c9 (by decide)) (fun _ => ?_)
      refine lv_iload_n hx hb dX6_shelfFor_23 rfl (lv_at hl 2 rfl) ?_
      refine lv_iload hx hb dX6_shelfFor_24 (lv_at hl 0 rfl) ?_
      refine lv_iadd hx hb dX6_shelfFor_26 ?_
      refine sy_top (y := 3) (by decide) ?_
      refine lv_iconst (v := 4) hx hb dX6_shelfFor_27 (by decide) ?_
      refine lv_irem hx hb dX6_shelfFor_28 (by decide) ?_
      refine sy_top (y := 3) (by decide) ?_
      refine lv_istore (lv' := [(5, .int 3), (4, .int 3), (3, .int 0), (0, .ref (ad 60)), (1, .ref (ad (100 + i))), (2, .int x0)]) hx hb dX6_shelfFor_29 hl (by decide) rfl (fun ls hl => ?_)
      refine lv_aload_n hx hb dX6_shelfFor_31 rfl (lv_at hl 3 rfl) ?_
      refine lv_iload_n hx hb dX6_shelfFor_32 rfl (lv_at hl 5 rfl) ?_
      refine lv_iload hx hb dX6_shelfFor_33 (lv_at hl 0 rfl) ?_
      refine sy_ki (sy_rS (As := [.int x0, .int 3]) (rest := [.ref (ad 60)]) ⟨hx, hb, hml, hown, hts⟩ hE hP hS (mX6_placeOf l hfl Z nT nK cT cK ad g q x0 3 hT) (va_cwS 2 hts (gu_S uk_3_55 uk_3_56 uk_1_1 uk_3_57) rfl rfl rfl (by decide +kernel) ⟨Nat.le_of_ble_eq_true rfl, Nat.le_of_ble_eq_true rfl⟩) rfl hl.1 rfl (Nat.le_of_ble_eq_true rfl) dX6_shelfFor_35 ⟨Nat.le_of_ble_eq_true rfl, Nat.le_of_ble_eq_true rfl⟩) hS (fun r_e_23 g_e_23 q_e_23 H locs e_23 hP hS => ?_)
      cases e_23
      refine sy_top (y := ((4 * x0) + 3)) (by rfl) ?_
      refine lv_aload_n hx hb dX6_shelfFor_38 rfl (lv_at hl 4 rfl) ?_
      refine sy_ki (sy_rV (o := 60) (As := [.int ((4 * x0) + 3), .ref (ad (100 + i))]) (rest := []) ⟨hx, hb, hml, hown, hts⟩ hE hP hS (mX6_roomAtT l hfl Z nT nK cT cK ad g q ((4 * x0) + 3) i hT hG hQ hiT) (cwV 2 hts (gu_V uk_3_58 uk_3_60 uk_0_9 uk_1_1 uk_3_61) rfl rfl rfl (by decide +kernel) ⟨Nat.le_of_ble_eq_true rfl, Nat.le_of_ble_eq_true rfl⟩) (sy_recv (kc := 7) hE hP rfl (by decide) rfl rfl rfl) rfl hl.1 rfl (Nat.le_of_ble_eq_true rfl) dX6_shelfFor_39 ⟨Nat.le_of_ble_eq_true rfl, Nat.le_of_ble_eq_true rfl⟩) hS (fun r_e_24 g_e_24 q_e_24 H locs e_24 hP hS => ?_)
      cases e_24
      refine lv_aload_n hx hb dX6_shelfFor_42 rfl (lv_at hl 4 rfl) ?_
      refine sy_getRX3 hx hb hts hown hE hP (100 + i) (sy_kdT hiT hT) 2 (by decide) (hts _ (u_in uk_2_79)) (v := .int (g (100 + i) 2)) rfl dX6_shelfFor_43 ?_
      refine lv_icmp_lt (tgt := 52) hx hb dX6_shelfFor_46 (by decide) (fun c_25 => ?_) (fun c_25 => ?_)
      · skip
        refine lv_iinc (v := 4) (lv' := [(4, .int 4), (5, .int 3), (3, .int 0), (0, .ref (ad 60)), (1, .ref (ad (100 + i))), (2, .int x0)]) hx hb dX6_shelfFor_52 hl (k := 1) rfl rfl (by decide) rfl (fun ls hl => ?_)
        refine lv_goto (tgt := 17) hx hb dX6_shelfFor_55 (by decide) ?_
        refine lv_iload hx hb dX6_shelfFor_17 (lv_at hl 0 rfl) ?_
        refine lv_iconst (v := 4) hx hb dX6_shelfFor_19 (by decide) ?_
        refine lv_icmp_ge (tgt := 58) hx hb dX6_shelfFor_20 (by decide) (fun _ => ?_) (fun c9 => absurd c9 (by decide))
        refine lv_iconst (v := (-1)) hx hb dX6_shelfFor_58 (by decide) ?_
        exact (sy_ireti hx hb hr hlocks hE hP hS dX6_shelfFor_59 ⟨Nat.le_of_ble_eq_true rfl, Nat.le_of_ble_eq_true rfl⟩ (by unfold fX6_shelfFor; rw [if_pos c_1, if_pos c_16, if_pos c_19, if_pos c_22, if_pos c_25] <;> rfl))
      · skip
        refine lv_iload hx hb dX6_shelfFor_49 (lv_at hl 0 rfl) ?_
        exact (sy_ireti hx hb hr hlocks hE hP hS dX6_shelfFor_51 ⟨Nat.le_of_ble_eq_true rfl, Nat.le_of_ble_eq_true rfl⟩ (by unfold fX6_shelfFor; rw [if_pos c_1, if_pos c_16, if_pos c_19, if_pos c_22, if_neg c_25] <;> rfl))
    · skip
      refine lv_iload hx hb dX6_shelfFor_49 (lv_at hl 0 rfl) ?_
      exact (sy_ireti hx hb hr hlocks hE hP hS dX6_shelfFor_51 ⟨Nat.le_of_ble_eq_true rfl, Nat.le_of_ble_eq_true rfl⟩ (by unfold fX6_shelfFor; rw [if_pos c_1, if_pos c_16, if_pos c_19, if_neg c_22] <;> rfl))
  refine lv_aload_n hx hb dX6_shelfFor_0 rfl (lv_at hl 1 rfl) ?_
  refine sy_getRX3 hx hb hts hown hE hP (100 + i) (sy_kdT hiT hT) 1 (by decide) (hts _ (u_in uk_2_77)) (v := .int (g (100 + i) 1)) rfl dX6_shelfFor_1 ?_
  refine lv_iconst (v := 1) hx hb dX6_shelfFor_4 (by decide) ?_
  refine lv_icmp_ne (tgt := 12) hx hb dX6_shelfFor_5 (by decide) (fun c_1 => ?_) (fun c_1 => ?_)
  · skip
    refine lv_iconst (v := 1) hx hb dX6_shelfFor_12 (by decide) ?_
    refine lv_istore_n (lv' := [(3, .int 1), (0, .ref (ad 60)), (1, .ref (ad (100 + i))), (2, .int x0)]) hx hb dX6_shelfFor_13 rfl hl (by decide) rfl (fun ls hl => ?_)
    refine lv_iconst (v := 0) hx hb dX6_shelfFor_14 (by decide) ?_
    refine lv_istore (lv' := [(4, .int 0), (3, .int 1), (0, .ref (ad 60)), (1, .ref (ad (100 + i))), (2, .int x0)]) hx hb dX6_shelfFor_15 hl (by decide) rfl (fun ls hl => ?_)
    refine lv_iload hx hb dX6_shelfFor_17 (lv_at hl 0 rfl) ?_
    refine lv_iconst (v := 4) hx hb dX6_shelfFor_19 (by decide) ?_
    refine lv_icmp_ge (tgt := 58) hx hb dX6_shelfFor_20 (by decide) (fun c9 => absurd c9 (by decide)) (fun _ => ?_)
    refine lv_iload_n hx hb dX6_shelfFor_23 rfl (lv_at hl 1 rfl) ?_
    refine lv_iload hx hb dX6_shelfFor_24 (lv_at hl 0 rfl) ?_
    refine lv_iadd hx hb dX6_shelfFor_26 ?_
    refine sy_top (y := 1) (by decide) ?_
    refine lv_iconst (v := 4) hx hb dX6_shelfFor_27 (by decide) ?_
    refine lv_irem hx hb dX6_shelfFor_28 (by decide) ?_
    refine sy_top (y := 1) (by decide) ?_
    refine lv_istore (lv' := [(5, .int 1), (4, .int 0), (3, .int 1), (0, .ref (ad 60)), (1, .ref (ad (100 + i))), (2, .int x0)]) hx hb dX6_shelfFor_29 hl (by decide) rfl (fun ls hl => ?_)
    refine lv_aload_n hx hb dX6_shelfFor_31 rfl (lv_at hl 3 rfl) ?_
    refine lv_iload_n hx hb dX6_shelfFor_32 rfl (lv_at hl 5 rfl) ?_
    refine lv_iload hx hb dX6_shelfFor_33 (lv_at hl 0 rfl) ?_
    refine sy_ki (sy_rS (As := [.int x0, .int 1]) (rest := [.ref (ad 60)]) ⟨hx, hb, hml, hown, hts⟩ hE hP hS (mX6_placeOf l hfl Z nT nK cT cK ad g q x0 1 hT) (va_cwS 2 hts (gu_S uk_3_55 uk_3_56 uk_1_1 uk_3_57) rfl rfl rfl (by decide +kernel) ⟨Nat.le_of_ble_eq_true rfl, Nat.le_of_ble_eq_true rfl⟩) rfl hl.1 rfl (Nat.le_of_ble_eq_true rfl) dX6_shelfFor_35 ⟨Nat.le_of_ble_eq_true rfl, Nat.le_of_ble_eq_true rfl⟩) hS (fun r_e_2 g_e_2 q_e_2 H locs e_2 hP hS => ?_)
    cases e_2
    refine sy_top (y := ((4 * x0) + 1)) (by rfl) ?_
    refine lv_aload_n hx hb dX6_shelfFor_38 rfl (lv_at hl 4 rfl) ?_
    refine sy_ki (sy_rV (o := 60) (As := [.int ((4 * x0) + 1), .ref (ad (100 + i))]) (rest := []) ⟨hx, hb, hml, hown, hts⟩ hE hP hS (mX6_roomAtT l hfl Z nT nK cT cK ad g q ((4 * x0) + 1) i hT hG hQ hiT) (cwV 2 hts (gu_V uk_3_58 uk_3_60 uk_0_9 uk_1_1 uk_3_61) rfl rfl rfl (by decide +kernel) ⟨Nat.le_of_ble_eq_true rfl, Nat.le_of_ble_eq_true rfl⟩) (sy_recv (kc := 7) hE hP rfl (by decide) rfl rfl rfl) rfl hl.1 rfl (Nat.le_of_ble_eq_true rfl) dX6_shelfFor_39 ⟨Nat.le_of_ble_eq_true rfl, Nat.le_of_ble_eq_true rfl⟩) hS (fun r_e_3 g_e_3 q_e_3 H locs e_3 hP hS => ?_)
    cases e_3
    refine lv_aload_n hx hb dX6_shelfFor_42 rfl (lv_at hl 4 rfl) ?_
    refine sy_getRX3 hx hb hts hown hE hP (100 + i) (sy_kdT hiT hT) 2 (by decide) (hts _ (u_in uk_2_79)) (v := .int (g (100 + i) 2)) rfl dX6_shelfFor_43 ?_
    refine lv_icmp_lt (tgt := 52) hx hb dX6_shelfFor_46 (by decide) (fun c_4 => ?_) (fun c_4 => ?_)
    · skip
      refine lv_iinc (v := 1) (lv' := [(4, .int 1), (5, .int 1), (3, .int 1), (0, .ref (ad 60)), (1, .ref (ad (100 + i))), (2, .int x0)]) hx hb dX6_shelfFor_52 hl (k := 1) rfl rfl (by decide) rfl (fun ls hl => ?_)
      refine lv_goto (tgt := 17) hx hb dX6_shelfFor_55 (by decide) ?_
      refine lv_iload hx hb dX6_shelfFor_17 (lv_at hl 0 rfl) ?_
      refine lv_iconst (v := 4) hx hb dX6_shelfFor_19 (by decide) ?_
      refine lv_icmp_ge (tgt := 58) hx hb dX6_shelfFor_20 (by decide) (fun c9 => absurd c9 (by decide)) (fun _ => ?_)
      refine lv_iload_n hx hb dX6_shelfFor_23 rfl (lv_at hl 2 rfl) ?_
      refine lv_iload hx hb dX6_shelfFor_24 (lv_at hl 0 rfl) ?_
      refine lv_iadd hx hb dX6_shelfFor_26 ?_
      refine sy_top (y := 2) (by decide) ?_
      refine lv_iconst (v := 4) hx hb dX6_shelfFor_27 (by decide) ?_
      refine lv_irem hx hb dX6_shelfFor_28 (by decide) ?_
      refine sy_top (y := 2) (by decide) ?_
      refine lv_istore (lv' := [(5, .int 2), (4, .int 1), (3, .int 1), (0, .ref (ad 60)), (1, .ref (ad (100 + i))), (2, .int x0)]) hx hb dX6_shelfFor_29 hl (by decide) rfl (fun ls hl => ?_)
      refine lv_aload_n hx hb dX6_shelfFor_31 rfl (lv_at hl 3 rfl) ?_
      refine lv_iload_n hx hb dX6_shelfFor_32 rfl (lv_at hl 5 rfl) ?_
      refine lv_iload hx hb dX6_shelfFor_33 (lv_at hl 0 rfl) ?_
      refine sy_ki (sy_rS (As := [.int x0, .int 2]) (rest := [.ref (ad 60)]) ⟨hx, hb, hml, hown, hts⟩ hE hP hS (mX6_placeOf l hfl Z nT nK cT cK ad g q x0 2 hT) (va_cwS 2 hts (gu_S uk_3_55 uk_3_56 uk_1_1 uk_3_57) rfl rfl rfl (by decide +kernel) ⟨Nat.le_of_ble_eq_true rfl, Nat.le_of_ble_eq_true rfl⟩) rfl hl.1 rfl (Nat.le_of_ble_eq_true rfl) dX6_shelfFor_35 ⟨Nat.le_of_ble_eq_true rfl, Nat.le_of_ble_eq_true rfl⟩) hS (fun r_e_5 g_e_5 q_e_5 H locs e_5 hP hS => ?_)
      cases e_5
      refine sy_top (y := ((4 * x0) + 2)) (by rfl) ?_
      refine lv_aload_n hx hb dX6_shelfFor_38 rfl (lv_at hl 4 rfl) ?_
      refine sy_ki (sy_rV (o := 60) (As := [.int ((4 * x0) + 2), .ref (ad (100 + i))]) (rest := []) ⟨hx, hb, hml, hown, hts⟩ hE hP hS (mX6_roomAtT l hfl Z nT nK cT cK ad g q ((4 * x0) + 2) i hT hG hQ hiT) (cwV 2 hts (gu_V uk_3_58 uk_3_60 uk_0_9 uk_1_1 uk_3_61) rfl rfl rfl (by decide +kernel) ⟨Nat.le_of_ble_eq_true rfl, Nat.le_of_ble_eq_true rfl⟩) (sy_recv (kc := 7) hE hP rfl (by decide) rfl rfl rfl) rfl hl.1 rfl (Nat.le_of_ble_eq_true rfl) dX6_shelfFor_39 ⟨Nat.le_of_ble_eq_true rfl, Nat.le_of_ble_eq_true rfl⟩) hS (fun r_e_6 g_e_6 q_e_6 H locs e_6 hP hS => ?_)
      cases e_6
      refine lv_aload_n hx hb dX6_shelfFor_42 rfl (lv_at hl 4 rfl) ?_
      refine sy_getRX3 hx hb hts hown hE hP (100 + i) (sy_kdT hiT hT) 2 (by decide) (hts _ (u_in uk_2_79)) (v := .int (g (100 + i) 2)) rfl dX6_shelfFor_43 ?_
      refine lv_icmp_lt (tgt := 52) hx hb dX6_shelfFor_46 (by decide) (fun c_7 => ?_) (fun c_7 => ?_)
      · skip
        refine lv_iinc (v := 2) (lv' := [(4, .int 2), (5, .int 2), (3, .int 1), (0, .ref (ad 60)), (1, .ref (ad (100 + i))), (2, .int x0)]) hx hb dX6_shelfFor_52 hl (k := 1) rfl rfl (by decide) rfl (fun ls hl => ?_)
        refine lv_goto (tgt := 17) hx hb dX6_shelfFor_55 (by decide) ?_
        refine lv_iload hx hb dX6_shelfFor_17 (lv_at hl 0 rfl) ?_
        refine lv_iconst (v := 4) hx hb dX6_shelfFor_19 (by decide) ?_
        refine lv_icmp_ge (tgt := 58) hx hb dX6_shelfFor_20 (by decide) (fun c9 => absurd c9 (by decide)) (fun _ => ?_)
        refine lv_iload_n hx hb dX6_shelfFor_23 rfl (lv_at hl 2 rfl) ?_
        refine lv_iload hx hb dX6_shelfFor_24 (lv_at hl 0 rfl) ?_
        refine lv_iadd hx hb dX6_shelfFor_26 ?_
        refine sy_top (y := 3) (by decide) ?_
        refine lv_iconst (v := 4) hx hb dX6_shelfFor_27 (by decide) ?_
        refine lv_irem hx hb dX6_shelfFor_28 (by decide) ?_
        refine sy_top (y := 3) (by decide) ?_
        refine lv_istore (lv' := [(5, .int 3), (4, .int 2), (3, .int 1), (0, .ref (ad 60)), (1, .ref (ad (100 + i))), (2, .int x0)]) hx hb dX6_shelfFor_29 hl (by decide) rfl (fun ls hl => ?_)
        refine lv_aload_n hx hb dX6_shelfFor_31 rfl (lv_at hl 3 rfl) ?_
        refine lv_iload_n hx hb dX6_shelfFor_32 rfl (lv_at hl 5 rfl) ?_
        refine lv_iload hx hb dX6_shelfFor_33 (lv_at hl 0 rfl) ?_
        exact K_1 c_1 c_4 c_7 _ _ _ hP hS hl
      · skip
        refine lv_iload hx hb dX6_shelfFor_49 (lv_at hl 0 rfl) ?_
        exact (sy_ireti hx hb hr hlocks hE hP hS dX6_shelfFor_51 ⟨Nat.le_of_ble_eq_true rfl, Nat.le_of_ble_eq_true rfl⟩ (by unfold fX6_shelfFor; rw [if_neg c_1, if_pos c_4, if_neg c_7] <;> rfl))
    · skip
      refine lv_iload hx hb dX6_shelfFor_49 (lv_at hl 0 rfl) ?_
      exact (sy_ireti hx hb hr hlocks hE hP hS dX6_shelfFor_51 ⟨Nat.le_of_ble_eq_true rfl, Nat.le_of_ble_eq_true rfl⟩ (by unfold fX6_shelfFor; rw [if_neg c_1, if_neg c_4] <;> rfl))
  · skip
    refine lv_iconst (v := 0) hx hb dX6_shelfFor_8 (by decide) ?_
    refine lv_goto (tgt := 13) hx hb dX6_shelfFor_9 (by decide) ?_
    refine lv_istore_n (lv' := [(3, .int 0), (0, .ref (ad 60)), (1, .ref (ad (100 + i))), (2, .int x0)]) hx hb dX6_shelfFor_13 rfl hl (by decide) rfl (fun ls hl => ?_)
    refine lv_iconst (v := 0) hx hb dX6_shelfFor_14 (by decide) ?_
    refine lv_istore (lv' := [(4, .int 0), (3, .int 0), (0, .ref (ad 60)), (1, .ref (ad (100 + i))), (2, .int x0)]) hx hb dX6_shelfFor_15 hl (by decide) rfl (fun ls hl => ?_)
    refine lv_iload hx hb dX6_shelfFor_17 (lv_at hl 0 rfl) ?_
    refine lv_iconst (v := 4) hx hb dX6_shelfFor_19 (by decide) ?_
    refine lv_icmp_ge (tgt := 58) hx hb dX6_shelfFor_20 (by decide) (fun c9 => absurd c9 (by decide)) (fun _ => ?_)
    refine lv_iload_n hx hb dX6_shelfFor_23 rfl (lv_at hl 1 rfl) ?_
    refine lv_iload hx hb dX6_shelfFor_24 (lv_at hl 0 rfl) ?_
    refine lv_iadd hx hb dX6_shelfFor_26 ?_
    refine sy_top (y := 0) (by decide) ?_
    refine lv_iconst (v := 4) hx hb dX6_shelfFor_27 (by decide) ?_
    refine lv_irem hx hb dX6_shelfFor_28 (by decide) ?_
    refine sy_top (y := 0) (by decide) ?_
    refine lv_istore (lv' := [(5, .int 0), (4, .int 0), (3, .int 0), (0, .ref (ad 60)), (1, .ref (ad (100 + i))), (2, .int x0)]) hx hb dX6_shelfFor_29 hl (by decide) rfl (fun ls hl => ?_)
    refine lv_aload_n hx hb dX6_shelfFor_31 rfl (lv_at hl 3 rfl) ?_
    refine lv_iload_n hx hb dX6_shelfFor_32 rfl (lv_at hl 5 rfl) ?_
    refine lv_iload hx hb dX6_shelfFor_33 (lv_at hl 0 rfl) ?_
    refine sy_ki (sy_rS (As := [.int x0, .int 0]) (rest := [.ref (ad 60)]) ⟨hx, hb, hml, hown, hts⟩ hE hP hS (mX6_placeOf l hfl Z nT nK cT cK ad g q x0 0 hT) (va_cwS 2 hts (gu_S uk_3_55 uk_3_56 uk_1_1 uk_3_57) rfl rfl rfl (by decide +kernel) ⟨Nat.le_of_ble_eq_true rfl, Nat.le_of_ble_eq_true rfl⟩) rfl hl.1 rfl (Nat.le_of_ble_eq_true rfl) dX6_shelfFor_35 ⟨Nat.le_of_ble_eq_true rfl, Nat.le_of_ble_eq_true rfl⟩) hS (fun r_e_14 g_e_14 q_e_14 H locs e_14 hP hS => ?_)
    cases e_14
    refine sy_top (y := ((4 * x0) + 0)) (by rfl) ?_
    refine lv_aload_n hx hb dX6_shelfFor_38 rfl (lv_at hl 4 rfl) ?_
    refine sy_ki (sy_rV (o := 60) (As := [.int ((4 * x0) + 0), .ref (ad (100 + i))]) (rest := []) ⟨hx, hb, hml, hown, hts⟩ hE hP hS (mX6_roomAtT l hfl Z nT nK cT cK ad g q ((4 * x0) + 0) i hT hG hQ hiT) (cwV 2 hts (gu_V uk_3_58 uk_3_60 uk_0_9 uk_1_1 uk_3_61) rfl rfl rfl (by decide +kernel) ⟨Nat.le_of_ble_eq_true rfl, Nat.le_of_ble_eq_true rfl⟩) (sy_recv (kc := 7) hE hP rfl (by decide) rfl rfl rfl) rfl hl.1 rfl (Nat.le_of_ble_eq_true rfl) dX6_shelfFor_39 ⟨Nat.le_of_ble_eq_true rfl, Nat.le_of_ble_eq_true rfl⟩) hS (fun r_e_15 g_e_15 q_e_15 H locs e_15 hP hS => ?_)
    cases e_15
    refine lv_aload_n hx hb dX6_shelfFor_42 rfl (lv_at hl 4 rfl) ?_
    refine sy_getRX3 hx hb hts hown hE hP (100 + i) (sy_kdT hiT hT) 2 (by decide) (hts _ (u_in uk_2_79)) (v := .int (g (100 + i) 2)) rfl dX6_shelfFor_43 ?_
    refine lv_icmp_lt (tgt := 52) hx hb dX6_shelfFor_46 (by decide) (fun c_16 => ?_) (fun c_16 => ?_)
    · skip
      refine lv_iinc (v := 1) (lv' := [(4, .int 1), (5, .int 0), (3, .int 0), (0, .ref (ad 60)), (1, .ref (ad (100 + i))), (2, .int x0)]) hx hb dX6_shelfFor_52 hl (k := 1) rfl rfl (by decide) rfl (fun ls hl => ?_)
      refine lv_goto (tgt := 17) hx hb dX6_shelfFor_55 (by decide) ?_
      refine lv_iload hx hb dX6_shelfFor_17 (lv_at hl 0 rfl) ?_
      refine lv_iconst (v := 4) hx hb dX6_shelfFor_19 (by decide) ?_
      refine lv_icmp_ge (tgt := 58) hx hb dX6_shelfFor_20 (by decide) (fun c9 => absurd c9 (by decide)) (fun _ => ?_)
      refine lv_iload_n hx hb dX6_shelfFor_23 rfl (lv_at hl 2 rfl) ?_
      refine lv_iload hx hb dX6_shelfFor_24 (lv_at hl 0 rfl) ?_
      refine lv_iadd hx hb dX6_shelfFor_26 ?_
      refine sy_top (y := 1) (by decide) ?_
      refine lv_iconst (v := 4) hx hb dX6_shelfFor_27 (by decide) ?_
      refine lv_irem hx hb dX6_shelfFor_28 (by decide) ?_
      refine sy_top (y := 1) (by decide) ?_
      refine lv_istore (lv' := [(5, .int 1), (4, .int 1), (3, .int 0), (0, .ref (ad 60)), (1, .ref (ad (100 + i))), (2, .int x0)]) hx hb dX6_shelfFor_29 hl (by decide) rfl (fun ls hl => ?_)
      refine lv_aload_n hx hb dX6_shelfFor_31 rfl (lv_at hl 3 rfl) ?_
      refine lv_iload_n hx hb dX6_shelfFor_32 rfl (lv_at hl 5 rfl) ?_
      refine lv_iload hx hb dX6_shelfFor_33 (lv_at hl 0 rfl) ?_
      refine sy_ki (sy_rS (As := [.int x0, .int 1]) (rest := [.ref (ad 60)]) ⟨hx, hb, hml, hown, hts⟩ hE hP hS (mX6_placeOf l hfl Z nT nK cT cK ad g q x0 1 hT) (va_cwS 2 hts (gu_S uk_3_55 uk_3_56 uk_1_1 uk_3_57) rfl rfl rfl (by decide +kernel) ⟨Nat.le_of_ble_eq_true rfl, Nat.le_of_ble_eq_true rfl⟩) rfl hl.1 rfl (Nat.le_of_ble_eq_true rfl) dX6_shelfFor_35 ⟨Nat.le_of_ble_eq_true rfl, Nat.le_of_ble_eq_true rfl⟩) hS (fun r_e_17 g_e_17 q_e_17 H locs e_17 hP hS => ?_)
      cases e_17
      refine sy_top (y := ((4 * x0) + 1)) (by rfl) ?_
      refine lv_aload_n hx hb dX6_shelfFor_38 rfl (lv_at hl 4 rfl) ?_
      refine sy_ki (sy_rV (o := 60) (As := [.int ((4 * x0) + 1), .ref (ad (100 + i))]) (rest := []) ⟨hx, hb, hml, hown, hts⟩ hE hP hS (mX6_roomAtT l hfl Z nT nK cT cK ad g q ((4 * x0) + 1) i hT hG hQ hiT) (cwV 2 hts (gu_V uk_3_58 uk_3_60 uk_0_9 uk_1_1 uk_3_61) rfl rfl rfl (by decide +kernel) ⟨Nat.le_of_ble_eq_true rfl, Nat.le_of_ble_eq_true rfl⟩) (sy_recv (kc := 7) hE hP rfl (by decide) rfl rfl rfl) rfl hl.1 rfl (Nat.le_of_ble_eq_true rfl) dX6_shelfFor_39 ⟨Nat.le_of_ble_eq_true rfl, Nat.le_of_ble_eq_true rfl⟩) hS (fun r_e_18 g_e_18 q_e_18 H locs e_18 hP hS => ?_)
      cases e_18
      refine lv_aload_n hx hb dX6_shelfFor_42 rfl (lv_at hl 4 rfl) ?_
      refine sy_getRX3 hx hb hts hown hE hP (100 + i) (sy_kdT hiT hT) 2 (by decide) (hts _ (u_in uk_2_79)) (v := .int (g (100 + i) 2)) rfl dX6_shelfFor_43 ?_
      refine lv_icmp_lt (tgt := 52) hx hb dX6_shelfFor_46 (by decide) (fun c_19 => ?_) (fun c_19 => ?_)
      · skip
        refine lv_iinc (v := 2) (lv' := [(4, .int 2), (5, .int 1), (3, .int 0), (0, .ref (ad 60)), (1, .ref (ad (100 + i))), (2, .int x0)]) hx hb dX6_shelfFor_52 hl (k := 1) rfl rfl (by decide) rfl (fun ls hl => ?_)
        refine lv_goto (tgt := 17) hx hb dX6_shelfFor_55 (by decide) ?_
        refine lv_iload hx hb dX6_shelfFor_17 (lv_at hl 0 rfl) ?_
        refine lv_iconst (v := 4) hx hb dX6_shelfFor_19 (by decide) ?_
        refine lv_icmp_ge (tgt := 58) hx hb dX6_shelfFor_20 (by decide) (fun c9 => absurd c9 (by decide)) (fun _ => ?_)
        refine lv_iload_n hx hb dX6_shelfFor_23 rfl (lv_at hl 2 rfl) ?_
        refine lv_iload hx hb dX6_shelfFor_24 (lv_at hl 0 rfl) ?_
        refine lv_iadd hx hb dX6_shelfFor_26 ?_
        refine sy_top (y := 2) (by decide) ?_
        refine lv_iconst (v := 4) hx hb dX6_shelfFor_27 (by decide) ?_
        refine lv_irem hx hb dX6_shelfFor_28 (by decide) ?_
        refine sy_top (y := 2) (by decide) ?_
        refine lv_istore (lv' := [(5, .int 2), (4, .int 2), (3, .int 0), (0, .ref (ad 60)), (1, .ref (ad (100 + i))), (2, .int x0)]) hx hb dX6_shelfFor_29 hl (by decide) rfl (fun ls hl => ?_)
        refine lv_aload_n hx hb dX6_shelfFor_31 rfl (lv_at hl 3 rfl) ?_
        refine lv_iload_n hx hb dX6_shelfFor_32 rfl (lv_at hl 5 rfl) ?_
        exact K_2 c_1 c_16 c_19 _ _ _ hP hS hl
      · skip
        refine lv_iload hx hb dX6_shelfFor_49 (lv_at hl 0 rfl) ?_
        exact (sy_ireti hx hb hr hlocks hE hP hS dX6_shelfFor_51 ⟨Nat.le_of_ble_eq_true rfl, Nat.le_of_ble_eq_true rfl⟩ (by unfold fX6_shelfFor; rw [if_pos c_1, if_pos c_16, if_neg c_19] <;> rfl))
    · skip
      refine lv_iload hx hb dX6_shelfFor_49 (lv_at hl 0 rfl) ?_
      exact (sy_ireti hx hb hr hlocks hE hP hS dX6_shelfFor_51 ⟨Nat.le_of_ble_eq_true rfl, Nat.le_of_ble_eq_true rfl⟩ (by unfold fX6_shelfFor; rw [if_pos c_1, if_neg c_16] <;> rfl))
