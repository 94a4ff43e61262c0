def fX7_rate (g : sG) (q : sQ) (x0 x1 : Int32) : Int32 × sG := (if 0 ≤ x0 ∧ x0 ≤ 2 then (if 0 ≤ x1 ∧ x1 ≤ 100 then (if (g 0 20) = 30 then (0, (sy_up g 0 0 3)) else ((fX7_rateOn (sy_up g 0 0 0) q x0 (g 0 1)), (sy_up (sy_up (sy_up (sy_up (sy_up g 0 0 0) 22 ((g 0 20).toNatClampNeg) x0) 23 ((g 0 20).toNatClampNeg) (g 0 1)) 24 ((g 0 20).toNatClampNeg) x1) 0 20 ((g 0 20) + 1)))) else (0, (sy_up g 0 0 2))) else (0, (sy_up g 0 0 1)))
set_option maxHeartbeats 4000000 in
set_option maxRecDepth 100000 in
theorem mX7_rate (l : Launch) (hfl : l.stackTraces = false) (Z : sZ) (nT nK cT cK : Nat) (ad : Nat → Nat) (g : sG) (q : sQ) (x0 x1 : Int32) {mT mK : Nat} (hI : IM mT mK g) : sMi l Z yX7_rate (uW (.code yX7_rate cX7_rate 4 (some .int))) { frames := 1, cells := 0, slots := 0, locals := 24 } [.ref (ad 0), .int x0, .int x1] nT nK cT cK ad g q (fun r g1 q1 => (r, g1, q1) = ((fX7_rate g q x0 x1).1, (fX7_rate g q x0 x1).2, q)) := by
  refine Met.ofW (cc := cX7_rate) (maxL := 4) (ret := (some .int)) (by decide) rfl ?_
  intro p e s m args below meth c s₁ B hml hv
  obtain ⟨rfl, hE, hP⟩ := hv
  have hx := B.exec
  have hb := B.bytes
  have hr := B.returns
  have hts := atoms_spec (ws := uW (.code yX7_rate cX7_rate 4 (some .int))) B.pre
  have hown : s.vm.findClass RX7 = some m.cls := findClass_of_methodNamed B.named
  have hlocks := B.notSynchronized
  have hS : va_S (sy_A Z) s.heap s.heap [] := va_S.rf
  have hl := lv_entry ([.ref (ad 0), .int x0, .int x1]) (n := 4) (Nat.le_of_ble_eq_true rfl)
  rw [lg_entry_eq]
  generalize (lg_sl ([.ref (ad 0), .int x0, .int x1]) ++ List.replicate (4 - (lg_sl ([.ref (ad 0), .int x0, .int x1])).length) Slot.unset).toArray = ls at hl ⊢
  have hl : lv_has ls 4 [(0, .ref (ad 0)), (1, .int x0), (2, .int x1)] := hl
  refine lv_aload_n hx hb dX7_rate_0 rfl (lv_at hl 0 rfl) ?_
  refine lv_iload_n hx hb dX7_rate_1 rfl (lv_at hl 1 rfl) ?_
  refine lv_iconst (v := 0) hx hb dX7_rate_2 (by decide) ?_
  refine lv_iconst (v := 2) hx hb dX7_rate_3 (by decide) ?_
  refine sy_ki (sy_rS (As := [.int x0, .int 0, .int 2]) (rest := [.ref (ad 0)]) ⟨hx, hb, hml, hown, hts⟩ hE hP hS (nX7_is l hfl Z nT nK cT cK ad g q x0 0 2) (va_cwS 3 hts (gu_S uk_5_101 uk_5_102 uk_1_9 uk_5_103) rfl rfl rfl (by decide +kernel) ⟨Nat.le_of_ble_eq_true rfl, Nat.le_of_ble_eq_true rfl⟩) rfl hl.1 rfl (Nat.le_of_ble_eq_true rfl) dX7_rate_4 ⟨Nat.le_of_ble_eq_true rfl, Nat.le_of_ble_eq_true rfl⟩) hS (fun r_e_1 g_e_1 q_e_1 H locs e_1 hP hS => ?_)
  cases e_1
  refine lv_if_ne (tgt := 14) hx hb dX7_rate_7 (by decide) (fun c_2 => ?_) (fun c_2 => ?_)
  · have c_2 := iB_n.mp c_2
    refine lv_iload_n hx hb dX7_rate_14 rfl (lv_at hl 2 rfl) ?_
    refine lv_iconst (v := 0) hx hb dX7_rate_15 (by decide) ?_
    refine lv_bipush (v := 100) hx hb dX7_rate_16 (by decide) ?_
    refine sy_ki (sy_rS (As := [.int x1, .int 0, .int 100]) (rest := [.ref (ad 0)]) ⟨hx, hb, hml, hown, hts⟩ hE hP hS (nX7_is l hfl Z nT nK cT cK ad g q x1 0 100) (va_cwS 3 hts (gu_S uk_5_101 uk_5_102 uk_1_9 uk_5_103) rfl rfl rfl (by decide +kernel) ⟨Nat.le_of_ble_eq_true rfl, Nat.le_of_ble_eq_true rfl⟩) rfl hl.1 rfl (Nat.le_of_ble_eq_true rfl) dX7_rate_18 ⟨Nat.le_of_ble_eq_true rfl, Nat.le_of_ble_eq_true rfl⟩) hS (fun r_e_3 g_e_3 q_e_3 H locs e_3 hP hS => ?_)
    cases e_3
    refine lv_if_ne (tgt := 28) hx hb dX7_rate_21 (by decide) (fun c_4 => ?_) (fun c_4 => ?_)
    · have c_4 := iB_n.mp c_4
      refine lv_aload_n hx hb dX7_rate_28 rfl (lv_at hl 0 rfl) ?_
      refine sy_getRX7 hx hb hts hown hE hP 0 rfl 20 (by decide) (hts _ (u_in uk_4_210)) (v := .int (g 0 20)) rfl dX7_rate_29 ?_
      refine lv_bipush (v := 30) hx hb dX7_rate_32 (by decide) ?_
      refine lv_icmp_ne (tgt := 41) hx hb dX7_rate_34 (by decide) (fun c_5 => ?_) (fun c_5 => ?_)
      · skip
        refine lv_iconst (v := 0) hx hb dX7_rate_41 (by decide) ?_
        refine sy_ki (sy_rV (o := 0) (As := [.int 0]) (rest := []) ⟨hx, hb, hml, hown, hts⟩ hE hP hS (nX7_refused l hfl Z nT nK cT cK ad g q 0) (cwV 1 hts (gu_V uk_5_104 uk_5_106 uk_0_17 uk_1_9 uk_5_107) rfl rfl rfl (by decide +kernel) ⟨Nat.le_of_ble_eq_true rfl, Nat.le_of_ble_eq_true rfl⟩) (sy_recv (kc := 8) hE hP rfl (by decide) rfl rfl rfl) rfl hl.1 rfl (Nat.le_of_ble_eq_true rfl) dX7_rate_42 ⟨Nat.le_of_ble_eq_true rfl, Nat.le_of_ble_eq_true rfl⟩) hS (fun r_e_6 g_e_6 q_e_6 H locs e_6 hP hS => ?_)
        cases e_6
        refine sy_top (y := 0) (by rfl) ?_
        refine lv_if_eq (tgt := 50) hx hb dX7_rate_45 (by decide) (fun _ => ?_) (fun c9 => absurd c9 (by decide))
        refine lv_aload_n hx hb dX7_rate_50 rfl (lv_at hl 0 rfl) ?_
        refine lv_iload_n hx hb dX7_rate_51 rfl (lv_at hl 1 rfl) ?_
        refine lv_aload_n hx hb dX7_rate_52 rfl (lv_at hl 0 rfl) ?_
        refine sy_getRX7 hx hb hts hown hE hP 0 rfl 1 (by decide) (hts _ (u_in uk_4_191)) (v := .int (g 0 1)) rfl dX7_rate_53 ?_
        refine sy_ki (sy_rV (o := 0) (As := [.int x0, .int (g 0 1)]) (rest := []) ⟨hx, hb, hml, hown, hts⟩ hE hP hS (mX7_rateOn l hfl Z nT nK cT cK ad (sy_up g 0 0 0) q x0 (g 0 1) (im_0 (by decide) hI)) (cwV 2 hts (gu_V uk_5_132 uk_5_134 uk_0_18 uk_1_9 uk_5_135) rfl rfl rfl (by decide +kernel) ⟨Nat.le_of_ble_eq_true rfl, Nat.le_of_ble_eq_true rfl⟩) (sy_recv (kc := 8) hE hP rfl (by decide) rfl rfl rfl) rfl hl.1 rfl (Nat.le_of_ble_eq_true rfl) dX7_rate_56 ⟨Nat.le_of_ble_eq_true rfl, Nat.le_of_ble_eq_true rfl⟩) hS (fun r_e_7 g_e_7 q_e_7 H locs e_7 hP hS => ?_)
        cases e_7
        refine lv_istore_n (lv' := [(3, .int (fX7_rateOn (sy_up g 0 0 0) q x0 (g 0 1))), (0, .ref (ad 0)), (1, .int x0), (2, .int x1)]) hx hb dX7_rate_59 rfl hl (by decide) rfl (fun ls hl => ?_)
        refine lv_aload_n hx hb dX7_rate_60 rfl (lv_at hl 1 rfl) ?_
        refine sy_getRX7 hx hb hts hown hE hP 0 rfl 21 (by decide) (hts _ (u_in uk_4_211)) (v := .ref (ad 22)) rfl dX7_rate_61 ?_
        refine lv_aload_n hx hb dX7_rate_64 rfl (lv_at hl 1 rfl) ?_
        refine sy_getRX7 hx hb hts hown hE hP 0 rfl 20 (by decide) (hts _ (u_in uk_4_210)) (v := .int (g 0 20)) rfl dX7_rate_65 ?_
        refine lv_iload_n hx hb dX7_rate_68 rfl (lv_at hl 2 rfl) ?_
        refine sy_iastN hx hb hE hP hS 22 rfl (show vp_in (g 0 20) 30 from (by obtain ⟨a9, h9, h8⟩ := hI.2.2.2.2.1; exact vp_in_full h8 h9 (by decide) c_5)) ((g 0 20).toNatClampNeg) rfl dX7_rate_69 (fun H locs hP hS => ?_)
        refine lv_aload_n hx hb dX7_rate_70 rfl (lv_at hl 1 rfl) ?_
        refine sy_getRX7 hx hb hts hown hE hP 0 rfl 22 (by decide) (hts _ (u_in uk_4_212)) (v := .ref (ad 23)) rfl dX7_rate_71 ?_
        refine lv_aload_n hx hb dX7_rate_74 rfl (lv_at hl 1 rfl) ?_
        refine sy_getRX7 hx hb hts hown hE hP 0 rfl 20 (by decide) (hts _ (u_in uk_4_210)) (v := .int (g 0 20)) rfl dX7_rate_75 ?_
        refine lv_aload_n hx hb dX7_rate_78 rfl (lv_at hl 1 rfl) ?_
        refine sy_getRX7 hx hb hts hown hE hP 0 rfl 1 (by decide) (hts _ (u_in uk_4_191)) (v := .int (g 0 1)) rfl dX7_rate_79 ?_
        refine sy_iastN hx hb hE hP hS 23 rfl (show vp_in (g 0 20) 30 from (by obtain ⟨a9, h9, h8⟩ := hI.2.2.2.2.1; exact vp_in_full h8 h9 (by decide) c_5)) ((g 0 20).toNatClampNeg) rfl dX7_rate_82 (fun H locs hP hS => ?_)
        refine lv_aload_n hx hb dX7_rate_83 rfl (lv_at hl 1 rfl) ?_
        refine sy_getRX7 hx hb hts hown hE hP 0 rfl 23 (by decide) (hts _ (u_in uk_4_213)) (v := .ref (ad 24)) rfl dX7_rate_84 ?_
        refine lv_aload_n hx hb dX7_rate_87 rfl (lv_at hl 1 rfl) ?_
        refine sy_getRX7 hx hb hts hown hE hP 0 rfl 20 (by decide) (hts _ (u_in uk_4_210)) (v := .int (g 0 20)) rfl dX7_rate_88 ?_
        refine lv_iload_n hx hb dX7_rate_91 rfl (lv_at hl 3 rfl) ?_
        refine sy_iastN hx hb hE hP hS 24 rfl (show vp_in (g 0 20) 30 from (by obtain ⟨a9, h9, h8⟩ := hI.2.2.2.2.1; exact vp_in_full h8 h9 (by decide) c_5)) ((g 0 20).toNatClampNeg) rfl dX7_rate_92 (fun H locs hP hS => ?_)
        refine lv_aload_n hx hb dX7_rate_93 rfl (lv_at hl 1 rfl) ?_
        refine lv_dup hx hb dX7_rate_94 rfl ?_
        refine sy_getRX7 hx hb hts hown hE hP 0 rfl 20 (by decide) (hts _ (u_in uk_4_210)) (v := .int (g 0 20)) rfl dX7_rate_95 ?_
        refine lv_iconst (v := 1) hx hb dX7_rate_98 (by decide) ?_
        refine lv_iadd hx hb dX7_rate_99 ?_
        refine sy_putRX7 hx hb hts hown hE hP hS 0 rfl 20 (by decide) (hts _ (u_in uk_4_210)) rfl (ty := .int) (by decide +kernel) rfl rfl (sy_up (sy_up (sy_up (sy_up (sy_up g 0 0 0) 22 ((g 0 20).toNatClampNeg) x0) 23 ((g 0 20).toNatClampNeg) (g 0 1)) 24 ((g 0 20).toNatClampNeg) x1) 0 20 ((g 0 20) + 1)) q (by rw [sy_up_s (sy_up (sy_up (sy_up (sy_up g 0 0 0) 22 ((g 0 20).toNatClampNeg) x0) 23 ((g 0 20).toNatClampNeg) (g 0 1)) 24 ((g 0 20).toNatClampNeg) x1) 0 20 ((g 0 20) + 1)]; exact se_RX7_20 _ _ _ _ _ _ _) (fun _ h9 => sy_up_o _ _ _ h9) (fun _ _ => rfl) dX7_rate_100 (fun H locs hP hS => ?_)
        refine lv_iload_n hx hb dX7_rate_103 rfl (lv_at hl 0 rfl) ?_
        exact (sy_ireti hx hb hr hlocks hE hP hS dX7_rate_104 ⟨Nat.le_of_ble_eq_true rfl, Nat.le_of_ble_eq_true rfl⟩ (by unfold fX7_rate; rw [if_pos c_2, if_pos c_4, if_neg c_5] <;> rfl))
      · skip
        refine lv_iconst (v := 3) hx hb dX7_rate_37 (by decide) ?_
        refine lv_goto (tgt := 42) hx hb dX7_rate_38 (by decide) ?_
        refine sy_ki (sy_rV (o := 0) (As := [.int 3]) (rest := []) ⟨hx, hb, hml, hown, hts⟩ hE hP hS (nX7_refused l hfl Z nT nK cT cK ad g q 3) (cwV 1 hts (gu_V uk_5_104 uk_5_106 uk_0_17 uk_1_9 uk_5_107) rfl rfl rfl (by decide +kernel) ⟨Nat.le_of_ble_eq_true rfl, Nat.le_of_ble_eq_true rfl⟩) (sy_recv (kc := 8) hE hP rfl (by decide) rfl rfl rfl) rfl hl.1 rfl (Nat.le_of_ble_eq_true rfl) dX7_rate_42 ⟨Nat.le_of_ble_eq_true rfl, Nat.le_of_ble_eq_true rfl⟩) hS (fun r_e_8 g_e_8 q_e_8 H locs e_8 hP hS => ?_)
        cases e_8
        refine sy_top (y := 1) (by rfl) ?_
        refine lv_if_eq (tgt := 50) hx hb dX7_rate_45 (by decide) (fun c9 => absurd c9 (by decide)) (fun _ => ?_)
        refine lv_iconst (v := 0) hx hb dX7_rate_48 (by decide) ?_
        exact (sy_ireti hx hb hr hlocks hE hP hS dX7_rate_49 ⟨Nat.le_of_ble_eq_true rfl, Nat.le_of_ble_eq_true rfl⟩ (by unfold fX7_rate; rw [if_pos c_2, if_pos c_4, if_pos c_5] <;> rfl))
    · have c_4 := iB_0.mp c_4
      refine lv_iconst (v := 2) hx hb dX7_rate_24 (by decide) ?_
      refine lv_goto (tgt := 42) hx hb dX7_rate_25 (by decide) ?_
      refine sy_ki (sy_rV (o := 0) (As := [.int 2]) (rest := []) ⟨hx, hb, hml, hown, hts⟩ hE hP hS (nX7_refused l hfl Z nT nK cT cK ad g q 2) (cwV 1 hts (gu_V uk_5_104 uk_5_106 uk_0_17 uk_1_9 uk_5_107) rfl rfl rfl (by decide +kernel) ⟨Nat.le_of_ble_eq_true rfl, Nat.le_of_ble_eq_true rfl⟩) (sy_recv (kc := 8) hE hP rfl (by decide) rfl rfl rfl) rfl hl.1 rfl (Nat.le_of_ble_eq_true rfl) dX7_rate_42 ⟨Nat.le_of_ble_eq_true rfl, Nat.le_of_ble_eq_true rfl⟩) hS (fun r_e_9 g_e_9 q_e_9 H locs e_9 hP hS => ?_)
      cases e_9
      refine sy_top (y := 1) (by rfl) ?_
      refine lv_if_eq (tgt := 50) hx hb dX7_rate_45 (by decide) (fun c9 => absurd c9 (by decide)) (fun _ => ?_)
      refine lv_iconst (v := 0) hx hb dX7_rate_48 (by decide) ?_
      exact (sy_ireti hx hb hr hlocks hE hP hS dX7_rate_49 ⟨Nat.le_of_ble_eq_true rfl, Nat.le_of_ble_eq_true rfl⟩ (by unfold fX7_rate; rw [if_pos c_2, if_neg c_4] <;> rfl))
  · have c_2 := iB_0.mp c_2
    refine lv_iconst (v := 1) hx hb dX7_rate_10 (by decide) ?_
    refine lv_goto (tgt := 42) hx hb dX7_rate_11 (by decide) ?_
    refine sy_ki (sy_rV (o := 0) (As := [.int 1]) (rest := []) ⟨hx, hb, hml, hown, hts⟩ hE hP hS (nX7_refused l hfl Z nT nK cT cK ad g q 1) (cwV 1 hts (gu_V uk_5_104 uk_5_106 uk_0_17 uk_1_9 uk_5_107) rfl rfl rfl (by decide +kernel) ⟨Nat.le_of_ble_eq_true rfl, Nat.le_of_ble_eq_true rfl⟩) (sy_recv (kc := 8) hE hP rfl (by decide) rfl rfl rfl) rfl hl.1 rfl (Nat.le_of_ble_eq_true rfl) dX7_rate_42 ⟨Nat.le_of_ble_eq_true rfl, Nat.le_of_ble_eq_true rfl⟩) hS (fun r_e_10 g_e_10 q_e_10 H locs e_10 hP hS => ?_)
    cases e_10
    refine sy_top (y := 1) (by rfl) ?_
    refine lv_if_eq (tgt := 50) hx hb dX7_rate_45 (by decide) (fun c9 => absurd c9 (by decide)) (fun _ => ?_)
    refine lv_iconst (v := 0) hx hb dX7_rate_48 (by decide) ?_
    exact (sy_ireti hx hb hr hlocks hE hP hS dX7_rate_49 ⟨Nat.le_of_ble_eq_true rfl, Nat.le_of_ble_eq_true rfl⟩ (by unfold fX7_rate; rw [if_neg c_2] <;> rfl))
def fX7_redeem (g : sG) (q : sQ) (x0 x1 : Int32) : Int32 × sG := (if 0 ≤ x0 ∧ x0 ≤ (g 0 28) - 1 then (if 0 ≤ x1 ∧ x1 ≤ 9 then (if (g 39 x0.toNatClampNeg) = 0 then (if (fX7_bars g q x0) = 0 then (if (g 33 x0.toNatClampNeg) = x1 then (if (fX7_isFound g q (g 30 x0.toNatClampNeg)) = 0 then (0, (sy_up g 0 0 2)) else (((g 35 x0.toNatClampNeg) + (fX7_interest (sy_up g 0 0 0) q x0)), (sy_up (sy_up (sy_up (sy_up g 0 0 0) 0 44 ((g 0 44) + ((g 35 x0.toNatClampNeg) + (fX7_interest (sy_up g 0 0 0) q x0)))) 39 x0.toNatClampNeg 1) 8 ((g 30 x0.toNatClampNeg).toNatClampNeg) 0))) else (0, (sy_up g 0 0 2))) else (0, (sy_up g 0 0 2))) else (0, (sy_up g 0 0 2))) else (0, (sy_up g 0 0 1))) else (0, (sy_up g 0 0 1)))
set_option maxHeartbeats 4000000 in
set_option maxRecDepth 100000 in
theorem mX7_redeem (l : Launch) (hfl : l.stackTraces = false) (Z : sZ) (nT nK cT cK : Nat) (ad : Nat → Nat) (g : sG) (q : sQ) (x0 x1 : Int32) {mT mK : Nat} (hI : IM mT mK g) : sMi l Z yX7_redeem (uW (.code yX7_redeem cX7_redeem 6 (some .int))) { frames := 2, cells := 0, slots := 0, locals := 49 } [.ref (ad 0), .int x0, .int x1] nT nK cT cK ad g q (fun r g1 q1 => (r, g1, q1) = ((fX7_redeem g q x0 x1).1, (fX7_redeem g q x0 x1).2, q)) := by
  refine Met.ofW (cc := cX7_redeem) (maxL := 6) (ret := (some .int)) (by decide) rfl ?_
  intro p e s m args below meth c s₁ B hml hv
  obtain ⟨rfl, hE, hP⟩ := hv
  have hx := B.exec
  have hb := B.bytes
  have hr := B.returns
  have hts := atoms_spec (ws := uW (.code yX7_redeem cX7_redeem 6 (some .int))) B.pre
  have hown : s.vm.findClass RX7 = some m.cls := findClass_of_methodNamed B.named
  have hlocks := B.notSynchronized
  have hS : va_S (sy_A Z) s.heap s.heap [] := va_S.rf
  have hl := lv_entry ([.ref (ad 0), .int x0, .int x1]) (n := 6) (Nat.le_of_ble_eq_true rfl)
  rw [lg_entry_eq]
  generalize (lg_sl ([.ref (ad 0), .int x0, .int x1]) ++ List.replicate (6 - (lg_sl ([.ref (ad 0), .int x0, .int x1])).length) Slot.unset).toArray = ls at hl ⊢
  have hl : lv_has ls 6 [(0, .ref (ad 0)), (1, .int x0), (2, .int x1)] := hl
  have K_1 : (0 ≤ x0 ∧ x0 ≤ (g 0 28) - 1) → (0 ≤ x1 ∧ x1 ≤ 9) → ((g 39 x0.toNatClampNeg) = 0) → ((fX7_bars g q x0) = 0) → ((g 33 x0.toNatClampNeg) = x1) → (¬ ((fX7_isFound g q (g 30 x0.toNatClampNeg)) = 0)) → ∀ (H : Heap) (locs : List Loc) (ls : Array Slot), Sy Z nT nK cT cK ad (sy_up (sy_up g 0 0 0) 0 44 ((g 0 44) + ((g 35 x0.toNatClampNeg) + (fX7_interest (sy_up g 0 0 0) q x0)))) q H → va_S (sy_A Z) s.heap H locs → lv_has ls 6 [(5, .int ((g 35 x0.toNatClampNeg) + (fX7_interest (sy_up g 0 0 0) q x0))), (4, .int 1), (3, .int 1), (0, .ref (ad 0)), (1, .int x0), (2, .int x1)] → W p l e ({ frames := 2, cells := 0, slots := 0, locals := 49 } : Room) s m ([.ref (ad 0), .int x0, .int x1] : List Value).toArray below meth c H locs 0 0 (MQ below (sQi Z nT nK cT cK ad (fun r g1 q1 => (r, g1, q1) = ((fX7_redeem g q x0 x1).1, (fX7_redeem g q x0 x1).2, q))) ([.ref (ad 0), .int x0, .int x1] : List Value).toArray s 0 0 (sy_A Z)) (F0 m 124 ls []) := by
    intro c_2 c_5 c_7 c_10 c_12 c_15 H locs ls hP hS hl
    refine lv_aload_n hx hb dX7_redeem_124 rfl (lv_at hl 3 rfl) ?_
    refine sy_getRX7 hx hb hts hown hE hP 0 rfl 38 (by decide) (hts _ (u_in uk_4_228)) (v := .ref (ad 39)) rfl dX7_redeem_125 ?_
    refine lv_iload_n hx hb dX7_redeem_128 rfl (lv_at hl 4 rfl) ?_
    refine lv_iconst (v := 1) hx hb dX7_redeem_129 (by decide) ?_
    refine sy_iastN hx hb hE hP hS 39 rfl (show vp_in x0 40 from (im_ticket hI c_2)) x0.toNatClampNeg rfl dX7_redeem_130 (fun H locs hP hS => ?_)
    refine lv_aload_n hx hb dX7_redeem_131 rfl (lv_at hl 3 rfl) ?_
    refine sy_getRX7 hx hb hts hown hE hP 0 rfl 7 (by decide) (hts _ (u_in uk_4_197)) (v := .ref (ad 8)) rfl dX7_redeem_132 ?_
    refine lv_aload_n hx hb dX7_redeem_135 rfl (lv_at hl 3 rfl) ?_
    refine sy_getRX7 hx hb hts hown hE hP 0 rfl 29 (by decide) (hts _ (u_in uk_4_219)) (v := .ref (ad 30)) rfl dX7_redeem_136 ?_
    refine lv_iload_n hx hb dX7_redeem_139 rfl (lv_at hl 4 rfl) ?_
    refine sy_ialdN hx hb hE hP 30 rfl (show vp_in x0 40 from (im_ticket hI c_2)) x0.toNatClampNeg rfl (v := g 30 x0.toNatClampNeg) rfl dX7_redeem_140 ?_
    refine lv_iconst (v := 0) hx hb dX7_redeem_141 (by decide) ?_
    refine sy_zastN hx hb hE hP hS 8 rfl (show vp_in (g 30 x0.toNatClampNeg) 40 from (im_thingOf hI (im_ticket hI c_2))) (by decide) ((g 30 x0.toNatClampNeg).toNatClampNeg) rfl dX7_redeem_142 (fun H locs hP hS => ?_)
    refine lv_iload hx hb dX7_redeem_143 (lv_at hl 0 rfl) ?_
    exact (sy_ireti hx hb hr hlocks hE hP hS dX7_redeem_145 ⟨Nat.le_of_ble_eq_true rfl, Nat.le_of_ble_eq_true rfl⟩ (by unfold fX7_redeem; rw [if_pos c_2, if_pos c_5, if_pos c_7, if_pos c_10, if_pos c_12, if_neg c_15] <;> rfl))
  refine lv_aload_n hx hb dX7_redeem_0 rfl (lv_at hl 0 rfl) ?_
  refine lv_iload_n hx hb dX7_redeem_1 rfl (lv_at hl 1 rfl) ?_
  refine sy_ki (sy_rV (o := 0) (As := [.int x0]) (rest := []) ⟨hx, hb, hml, hown, hts⟩ hE hP hS (mX7_isTicket l hfl Z nT nK cT cK ad g q x0) (cwV 1 hts (gu_V uk_5_172 uk_5_174 uk_0_24 uk_1_9 uk_5_175) rfl rfl rfl (by decide +kernel) ⟨Nat.le_of_ble_eq_true rfl, Nat.le_of_ble_eq_true rfl⟩) (sy_recv (kc := 8) hE hP rfl (by decide) rfl rfl rfl) rfl hl.1 rfl (Nat.le_of_ble_eq_true rfl) dX7_redeem_2 ⟨Nat.le_of_ble_eq_true rfl, Nat.le_of_ble_eq_true rfl⟩) hS (fun r_e_1 g_e_1 q_e_1 H locs e_1 hP hS => ?_)
  cases e_1
  refine sy_top (y := (iB (0 ≤ x0 ∧ x0 ≤ (g 0 28) - 1))) (by rfl) ?_
  refine lv_if_eq (tgt := 19) hx hb dX7_redeem_5 (by decide) (fun c_2 => ?_) (fun c_2 => ?_)
  · have c_2 := iB_0.mp c_2
    refine lv_iconst (v := 0) hx hb dX7_redeem_19 (by decide) ?_
    refine lv_istore_n (lv' := [(3, .int 0), (0, .ref (ad 0)), (1, .int x0), (2, .int x1)]) hx hb dX7_redeem_20 rfl hl (by decide) rfl (fun ls hl => ?_)
    refine lv_iload_n hx hb dX7_redeem_21 rfl (lv_at hl 0 rfl) ?_
    refine lv_if_eq (tgt := 69) hx hb dX7_redeem_22 (by decide) (fun _ => ?_) (fun c9 => absurd c9 (by decide))
    refine lv_iconst (v := 0) hx hb dX7_redeem_69 (by decide) ?_
    refine lv_istore (lv' := [(4, .int 0), (3, .int 0), (0, .ref (ad 0)), (1, .int x0), (2, .int x1)]) hx hb dX7_redeem_70 hl (by decide) rfl (fun ls hl => ?_)
    refine lv_aload_n hx hb dX7_redeem_72 rfl (lv_at hl 2 rfl) ?_
    refine lv_iload_n hx hb dX7_redeem_73 rfl (lv_at hl 1 rfl) ?_
    refine lv_if_ne (tgt := 81) hx hb dX7_redeem_74 (by decide) (fun c9 => absurd c9 (by decide)) (fun _ => ?_)
    refine lv_iconst (v := 1) hx hb dX7_redeem_77 (by decide) ?_
    refine lv_goto (tgt := 91) hx hb dX7_redeem_78 (by decide) ?_
    refine sy_ki (sy_rV (o := 0) (As := [.int 1]) (rest := []) ⟨hx, hb, hml, hown, hts⟩ hE hP hS (nX7_refused l hfl Z nT nK cT cK ad g q 1) (cwV 1 hts (gu_V uk_5_104 uk_5_106 uk_0_17 uk_1_9 uk_5_107) rfl rfl rfl (by decide +kernel) ⟨Nat.le_of_ble_eq_true rfl, Nat.le_of_ble_eq_true rfl⟩) (sy_recv (kc := 8) hE hP rfl (by decide) rfl rfl rfl) rfl hl.1 rfl (Nat.le_of_ble_eq_true rfl) dX7_redeem_91 ⟨Nat.le_of_ble_eq_true rfl, Nat.le_of_ble_eq_true rfl⟩) hS (fun r_e_3 g_e_3 q_e_3 H locs e_3 hP hS => ?_)
    cases e_3
    refine sy_top (y := 1) (by rfl) ?_
    refine lv_if_eq (tgt := 99) hx hb dX7_redeem_94 (by decide) (fun c9 => absurd c9 (by decide)) (fun _ => ?_)
    refine lv_iconst (v := 0) hx hb dX7_redeem_97 (by decide) ?_
    exact (sy_ireti hx hb hr hlocks hE hP hS dX7_redeem_98 ⟨Nat.le_of_ble_eq_true rfl, Nat.le_of_ble_eq_true rfl⟩ (by unfold fX7_redeem; rw [if_neg c_2] <;> rfl))
  · have c_2 := iB_n.mp c_2
    refine lv_iload_n hx hb dX7_redeem_8 rfl (lv_at hl 2 rfl) ?_
    refine sy_ki (sy_rS (As := [.int x1]) (rest := []) ⟨hx, hb, hml, hown, hts⟩ hE hP hS (mX7_isPerson l hfl Z nT nK cT cK ad g q x1) (va_cwS 1 hts (gu_S uk_5_120 uk_5_121 uk_1_9 uk_5_122) rfl rfl rfl (by decide +kernel) ⟨Nat.le_of_ble_eq_true rfl, Nat.le_of_ble_eq_true rfl⟩) rfl hl.1 rfl (Nat.le_of_ble_eq_true rfl) dX7_redeem_9 ⟨Nat.le_of_ble_eq_true rfl, Nat.le_of_ble_eq_true rfl⟩) hS (fun r_e_4 g_e_4 q_e_4 H locs e_4 hP hS => ?_)
    cases e_4
    refine sy_top (y := (iB (0 ≤ x1 ∧ x1 ≤ 9))) (by rfl) ?_
    refine lv_if_eq (tgt := 19) hx hb dX7_redeem_12 (by decide) (fun c_5 => ?_) (fun c_5 => ?_)
    · have c_5 := iB_0.mp c_5
      refine lv_iconst (v := 0) hx hb dX7_redeem_19 (by decide) ?_
      refine lv_istore_n (lv' := [(3, .int 0), (0, .ref (ad 0)), (1, .int x0), (2, .int x1)]) hx hb dX7_redeem_20 rfl hl (by decide) rfl (fun ls hl => ?_)
      refine lv_iload_n hx hb dX7_redeem_21 rfl (lv_at hl 0 rfl) ?_
      refine lv_if_eq (tgt := 69) hx hb dX7_redeem_22 (by decide) (fun _ => ?_) (fun c9 => absurd c9 (by decide))
      refine lv_iconst (v := 0) hx hb dX7_redeem_69 (by decide) ?_
      refine lv_istore (lv' := [(4, .int 0), (3, .int 0), (0, .ref (ad 0)), (1, .int x0), (2, .int x1)]) hx hb dX7_redeem_70 hl (by decide) rfl (fun ls hl => ?_)
      refine lv_aload_n hx hb dX7_redeem_72 rfl (lv_at hl 2 rfl) ?_
      refine lv_iload_n hx hb dX7_redeem_73 rfl (lv_at hl 1 rfl) ?_
      refine lv_if_ne (tgt := 81) hx hb dX7_redeem_74 (by decide) (fun c9 => absurd c9 (by decide)) (fun _ => ?_)
      refine lv_iconst (v := 1) hx hb dX7_redeem_77 (by decide) ?_
      refine lv_goto (tgt := 91) hx hb dX7_redeem_78 (by decide) ?_
      refine sy_ki (sy_rV (o := 0) (As := [.int 1]) (rest := []) ⟨hx, hb, hml, hown, hts⟩ hE hP hS (nX7_refused l hfl Z nT nK cT cK ad g q 1) (cwV 1 hts (gu_V uk_5_104 uk_5_106 uk_0_17 uk_1_9 uk_5_107) rfl rfl rfl (by decide +kernel) ⟨Nat.le_of_ble_eq_true rfl, Nat.le_of_ble_eq_true rfl⟩) (sy_recv (kc := 8) hE hP rfl (by decide) rfl rfl rfl) rfl hl.1 rfl (Nat.le_of_ble_eq_true rfl) dX7_redeem_91 ⟨Nat.le_of_ble_eq_true rfl, Nat.le_of_ble_eq_true rfl⟩) hS (fun r_e_6 g_e_6 q_e_6 H locs e_6 hP hS => ?_)
      cases e_6
      refine sy_top (y := 1) (by rfl) ?_
      refine lv_if_eq (tgt := 99) hx hb dX7_redeem_94 (by decide) (fun c9 => absurd c9 (by decide)) (fun _ => ?_)
      refine lv_iconst (v := 0) hx hb dX7_redeem_97 (by decide) ?_
      exact (sy_ireti hx hb hr hlocks hE hP hS dX7_redeem_98 ⟨Nat.le_of_ble_eq_true rfl, Nat.le_of_ble_eq_true rfl⟩ (by unfold fX7_redeem; rw [if_pos c_2, if_neg c_5] <;> rfl))
    · have c_5 := iB_n.mp c_5
      refine lv_iconst (v := 1) hx hb dX7_redeem_15 (by decide) ?_
      refine lv_goto (tgt := 20) hx hb dX7_redeem_16 (by decide) ?_
      refine lv_istore_n (lv' := [(3, .int 1), (0, .ref (ad 0)), (1, .int x0), (2, .int x1)]) hx hb dX7_redeem_20 rfl hl (by decide) rfl (fun ls hl => ?_)
      refine lv_iload_n hx hb dX7_redeem_21 rfl (lv_at hl 0 rfl) ?_
      refine lv_if_eq (tgt := 69) hx hb dX7_redeem_22 (by decide) (fun c9 => absurd c9 (by decide)) (fun _ => ?_)
      refine lv_aload_n hx hb dX7_redeem_25 rfl (lv_at hl 1 rfl) ?_
      refine sy_getRX7 hx hb hts hown hE hP 0 rfl 38 (by decide) (hts _ (u_in uk_4_228)) (v := .ref (ad 39)) rfl dX7_redeem_26 ?_
      refine lv_iload_n hx hb dX7_redeem_29 rfl (lv_at hl 2 rfl) ?_
      refine sy_ialdN hx hb hE hP 39 rfl (show vp_in x0 40 from (im_ticket hI c_2)) x0.toNatClampNeg rfl (v := g 39 x0.toNatClampNeg) rfl dX7_redeem_30 ?_
      refine lv_if_ne (tgt := 69) hx hb dX7_redeem_31 (by decide) (fun c_7 => ?_) (fun c_7 => ?_)
      · skip
        refine lv_iconst (v := 0) hx hb dX7_redeem_69 (by decide) ?_
        refine lv_istore (lv' := [(4, .int 0), (3, .int 1), (0, .ref (ad 0)), (1, .int x0), (2, .int x1)]) hx hb dX7_redeem_70 hl (by decide) rfl (fun ls hl => ?_)
        refine lv_aload_n hx hb dX7_redeem_72 rfl (lv_at hl 2 rfl) ?_
        refine lv_iload_n hx hb dX7_redeem_73 rfl (lv_at hl 1 rfl) ?_
        refine lv_if_ne (tgt := 81) hx hb dX7_redeem_74 (by decide) (fun _ => ?_) (fun c9 => absurd c9 (by decide))
        refine lv_iload hx hb dX7_redeem_81 (lv_at hl 0 rfl) ?_
        refine lv_if_ne (tgt := 90) hx hb dX7_redeem_83 (by decide) (fun c9 => absurd c9 (by decide)) (fun _ => ?_)
        refine lv_iconst (v := 2) hx hb dX7_redeem_86 (by decide) ?_
        refine lv_goto (tgt := 91) hx hb dX7_redeem_87 (by decide) ?_
        refine sy_ki (sy_rV (o := 0) (As := [.int 2]) (rest := []) ⟨hx, hb, hml, hown, hts⟩ hE hP hS (nX7_refused l hfl Z nT nK cT cK ad g q 2) (cwV 1 hts (gu_V uk_5_104 uk_5_106 uk_0_17 uk_1_9 uk_5_107) rfl rfl rfl (by decide +kernel) ⟨Nat.le_of_ble_eq_true rfl, Nat.le_of_ble_eq_true rfl⟩) (sy_recv (kc := 8) hE hP rfl (by decide) rfl rfl rfl) rfl hl.1 rfl (Nat.le_of_ble_eq_true rfl) dX7_redeem_91 ⟨Nat.le_of_ble_eq_true rfl, Nat.le_of_ble_eq_true rfl⟩) hS (fun r_e_8 g_e_8 q_e_8 H locs e_8 hP hS => ?_)
        cases e_8
        refine sy_top (y := 1) (by rfl) ?_
        refine lv_if_eq (tgt := 99) hx hb dX7_redeem_94 (by decide) (fun c9 => absurd c9 (by decide)) (fun _ => ?_)
        refine lv_iconst (v := 0) hx hb dX7_redeem_97 (by decide) ?_
        exact (sy_ireti hx hb hr hlocks hE hP hS dX7_redeem_98 ⟨Nat.le_of_ble_eq_true rfl, Nat.le_of_ble_eq_true rfl⟩ (by unfold fX7_redeem; rw [if_pos c_2, if_pos c_5, if_neg c_7] <;> rfl))
      · skip
        refine lv_aload_n hx hb dX7_redeem_34 rfl (lv_at hl 1 rfl) ?_
        refine lv_iload_n hx hb dX7_redeem_35 rfl (lv_at hl 2 rfl) ?_
        refine sy_ki (sy_rV (o := 0) (As := [.int x0]) (rest := []) ⟨hx, hb, hml, hown, hts⟩ hE hP hS (mX7_bars l hfl Z nT nK cT cK ad g q x0 hI (show vp_in x0 40 from (im_ticket hI c_2))) (cwV 1 hts (gu_V uk_5_176 uk_5_178 uk_0_25 uk_1_9 uk_5_179) rfl rfl rfl (by decide +kernel) ⟨Nat.le_of_ble_eq_true rfl, Nat.le_of_ble_eq_true rfl⟩) (sy_recv (kc := 8) hE hP rfl (by decide) rfl rfl rfl) rfl hl.1 rfl (Nat.le_of_ble_eq_true rfl) dX7_redeem_36 ⟨Nat.le_of_ble_eq_true rfl, Nat.le_of_ble_eq_true rfl⟩) hS (fun r_e_9 g_e_9 q_e_9 H locs e_9 hP hS => ?_)
        cases e_9
        refine lv_if_ne (tgt := 69) hx hb dX7_redeem_39 (by decide) (fun c_10 => ?_) (fun c_10 => ?_)
        · skip
          refine lv_iconst (v := 0) hx hb dX7_redeem_69 (by decide) ?_
          refine lv_istore (lv' := [(4, .int 0), (3, .int 1), (0, .ref (ad 0)), (1, .int x0), (2, .int x1)]) hx hb dX7_redeem_70 hl (by decide) rfl (fun ls hl => ?_)
          refine lv_aload_n hx hb dX7_redeem_72 rfl (lv_at hl 2 rfl) ?_
          refine lv_iload_n hx hb dX7_redeem_73 rfl (lv_at hl 1 rfl) ?_
          refine lv_if_ne (tgt := 81) hx hb dX7_redeem_74 (by decide) (fun _ => ?_) (fun c9 => absurd c9 (by decide))
          refine lv_iload hx hb dX7_redeem_81 (lv_at hl 0 rfl) ?_
          refine lv_if_ne (tgt := 90) hx hb dX7_redeem_83 (by decide) (fun c9 => absurd c9 (by decide)) (fun _ => ?_)
          refine lv_iconst (v := 2) hx hb dX7_redeem_86 (by decide) ?_
          refine lv_goto (tgt := 91) hx hb dX7_redeem_87 (by decide) ?_
          refine sy_ki (sy_rV (o := 0) (As := [.int 2]) (rest := []) ⟨hx, hb, hml, hown, hts⟩ hE hP hS (nX7_refused l hfl Z nT nK cT cK ad g q 2) (cwV 1 hts (gu_V uk_5_104 uk_5_106 uk_0_17 uk_1_9 uk_5_107) rfl rfl rfl (by decide +kernel) ⟨Nat.le_of_ble_eq_true rfl, Nat.le_of_ble_eq_true rfl⟩) (sy_recv (kc := 8) hE hP rfl (by decide) rfl rfl rfl) rfl hl.1 rfl (Nat.le_of_ble_eq_true rfl) dX7_redeem_91 ⟨Nat.le_of_ble_eq_true rfl, Nat.le_of_ble_eq_true rfl⟩) hS (fun r_e_11 g_e_11 q_e_11 H locs e_11 hP hS => ?_)
          cases e_11
          refine sy_top (y := 1) (by rfl) ?_
          refine lv_if_eq (tgt := 99) hx hb dX7_redeem_94 (by decide) (fun c9 => absurd c9 (by decide)) (fun _ => ?_)
          refine lv_iconst (v := 0) hx hb dX7_redeem_97 (by decide) ?_
          exact (sy_ireti hx hb hr hlocks hE hP hS dX7_redeem_98 ⟨Nat.le_of_ble_eq_true rfl, Nat.le_of_ble_eq_true rfl⟩ (by unfold fX7_redeem; rw [if_pos c_2, if_pos c_5, if_pos c_7, if_neg c_10] <;> rfl))
        · skip
          refine lv_aload_n hx hb dX7_redeem_42 rfl (lv_at hl 1 rfl) ?_
          refine sy_getRX7 hx hb hts hown hE hP 0 rfl 32 (by decide) (hts _ (u_in uk_4_222)) (v := .ref (ad 33)) rfl dX7_redeem_43 ?_
          refine lv_iload_n hx hb dX7_redeem_46 rfl (lv_at hl 2 rfl) ?_
          refine sy_ialdN hx hb hE hP 33 rfl (show vp_in x0 40 from (im_ticket hI c_2)) x0.toNatClampNeg rfl (v := g 33 x0.toNatClampNeg) rfl dX7_redeem_47 ?_
          refine lv_iload_n hx hb dX7_redeem_48 rfl (lv_at hl 3 rfl) ?_
          refine lv_icmp_ne (tgt := 69) hx hb dX7_redeem_49 (by decide) (fun c_12 => ?_) (fun c_12 => ?_)
          · skip
            refine lv_iconst (v := 0) hx hb dX7_redeem_69 (by decide) ?_
            refine lv_istore (lv' := [(4, .int 0), (3, .int 1), (0, .ref (ad 0)), (1, .int x0), (2, .int x1)]) hx hb dX7_redeem_70 hl (by decide) rfl (fun ls hl => ?_)
            refine lv_aload_n hx hb dX7_redeem_72 rfl (lv_at hl 2 rfl) ?_
            refine lv_iload_n hx hb dX7_redeem_73 rfl (lv_at hl 1 rfl) ?_
            refine lv_if_ne (tgt := 81) hx hb dX7_redeem_74 (by decide) (fun _ => ?_) (fun c9 => absurd c9 (by decide))
            refine lv_iload hx hb dX7_redeem_81 (lv_at hl 0 rfl) ?_
            refine lv_if_ne (tgt := 90) hx hb dX7_redeem_83 (by decide) (fun c9 => absurd c9 (by decide)) (fun _ => ?_)
            refine lv_iconst (v := 2) hx hb dX7_redeem_86 (by decide) ?_
            refine lv_goto (tgt := 91) hx hb dX7_redeem_87 (by decide) ?_
            refine sy_ki (sy_rV (o := 0) (As := [.int 2]) (rest := []) ⟨hx, hb, hml, hown, hts⟩ hE hP hS (nX7_refused l hfl Z nT nK cT cK ad g q 2) (cwV 1 hts (gu_V uk_5_104 uk_5_106 uk_0_17 uk_1_9 uk_5_107) rfl rfl rfl (by decide +kernel) ⟨Nat.le_of_ble_eq_true rfl, Nat.le_of_ble_eq_true rfl⟩) (sy_recv (kc := 8) hE hP rfl (by decide) rfl rfl rfl) rfl hl.1 rfl (Nat.le_of_ble_eq_true rfl) dX7_redeem_91 ⟨Nat.le_of_ble_eq_true rfl, Nat.le_of_ble_eq_true rfl⟩) hS (fun r_e_13 g_e_13 q_e_13 H locs e_13 hP hS => ?_)
            cases e_13
            refine sy_top (y := 1) (by rfl) ?_
            refine lv_if_eq (tgt := 99) hx hb dX7_redeem_94 (by decide) (fun c9 => absurd c9 (by decide)) (fun _ => ?_)
            refine lv_iconst (v := 0) hx hb dX7_redeem_97 (by decide) ?_
            exact (sy_ireti hx hb hr hlocks hE hP hS dX7_redeem_98 ⟨Nat.le_of_ble_eq_true rfl, Nat.le_of_ble_eq_true rfl⟩ (by unfold fX7_redeem; rw [if_pos c_2, if_pos c_5, if_pos c_7, if_pos c_10, if_neg c_12] <;> rfl))
          · skip
            refine lv_aload_n hx hb dX7_redeem_52 rfl (lv_at hl 1 rfl) ?_
            refine lv_aload_n hx hb dX7_redeem_53 rfl (lv_at hl 1 rfl) ?_
            refine sy_getRX7 hx hb hts hown hE hP 0 rfl 29 (by decide) (hts _ (u_in uk_4_219)) (v := .ref (ad 30)) rfl dX7_redeem_54 ?_
            refine lv_iload_n hx hb dX7_redeem_57 rfl (lv_at hl 2 rfl) ?_
            refine sy_ialdN hx hb hE hP 30 rfl (show vp_in x0 40 from (im_ticket hI c_2)) x0.toNatClampNeg rfl (v := g 30 x0.toNatClampNeg) rfl dX7_redeem_58 ?_
            refine sy_ki (sy_rV (o := 0) (As := [.int (g 30 x0.toNatClampNeg)]) (rest := []) ⟨hx, hb, hml, hown, hts⟩ hE hP hS (mX7_isFound l hfl Z nT nK cT cK ad g q (g 30 x0.toNatClampNeg) hI (show vp_in (g 30 x0.toNatClampNeg) 40 from (im_thingOf hI (im_ticket hI c_2)))) (cwV 1 hts (gu_V uk_5_180 uk_5_182 uk_0_26 uk_1_9 uk_5_183) rfl rfl rfl (by decide +kernel) ⟨Nat.le_of_ble_eq_true rfl, Nat.le_of_ble_eq_true rfl⟩) (sy_recv (kc := 8) hE hP rfl (by decide) rfl rfl rfl) rfl hl.1 rfl (Nat.le_of_ble_eq_true rfl) dX7_redeem_59 ⟨Nat.le_of_ble_eq_true rfl, Nat.le_of_ble_eq_true rfl⟩) hS (fun r_e_14 g_e_14 q_e_14 H locs e_14 hP hS => ?_)
            cases e_14
            refine lv_if_eq (tgt := 69) hx hb dX7_redeem_62 (by decide) (fun c_15 => ?_) (fun c_15 => ?_)
            · skip
              refine lv_iconst (v := 0) hx hb dX7_redeem_69 (by decide) ?_
              refine lv_istore (lv' := [(4, .int 0), (3, .int 1), (0, .ref (ad 0)), (1, .int x0), (2, .int x1)]) hx hb dX7_redeem_70 hl (by decide) rfl (fun ls hl => ?_)
              refine lv_aload_n hx hb dX7_redeem_72 rfl (lv_at hl 2 rfl) ?_
              refine lv_iload_n hx hb dX7_redeem_73 rfl (lv_at hl 1 rfl) ?_
              refine lv_if_ne (tgt := 81) hx hb dX7_redeem_74 (by decide) (fun _ => ?_) (fun c9 => absurd c9 (by decide))
              refine lv_iload hx hb dX7_redeem_81 (lv_at hl 0 rfl) ?_
              refine lv_if_ne (tgt := 90) hx hb dX7_redeem_83 (by decide) (fun c9 => absurd c9 (by decide)) (fun _ => ?_)
              refine lv_iconst (v := 2) hx hb dX7_redeem_86 (by decide) ?_
              refine lv_goto (tgt := 91) hx hb dX7_redeem_87 (by decide) ?_
              refine sy_ki (sy_rV (o := 0) (As := [.int 2]) (rest := []) ⟨hx, hb, hml, hown, hts⟩ hE hP hS (nX7_refused l hfl Z nT nK cT cK ad g q 2) (cwV 1 hts (gu_V uk_5_104 uk_5_106 uk_0_17 uk_1_9 uk_5_107) rfl rfl rfl (by decide +kernel) ⟨Nat.le_of_ble_eq_true rfl, Nat.le_of_ble_eq_true rfl⟩) (sy_recv (kc := 8) hE hP rfl (by decide) rfl rfl rfl) rfl hl.1 rfl (Nat.le_of_ble_eq_true rfl) dX7_redeem_91 ⟨Nat.le_of_ble_eq_true rfl, Nat.le_of_ble_eq_true rfl⟩) hS (fun r_e_16 g_e_16 q_e_16 H locs e_16 hP hS => ?_)
              cases e_16
              refine sy_top (y := 1) (by rfl) ?_
              refine lv_if_eq (tgt := 99) hx hb dX7_redeem_94 (by decide) (fun c9 => absurd c9 (by decide)) (fun _ => ?_)
              refine lv_iconst (v := 0) hx hb dX7_redeem_97 (by decide) ?_
              exact (sy_ireti hx hb hr hlocks hE hP hS dX7_redeem_98 ⟨Nat.le_of_ble_eq_true rfl, Nat.le_of_ble_eq_true rfl⟩ (by unfold fX7_redeem; rw [if_pos c_2, if_pos c_5, if_pos c_7, if_pos c_10, if_pos c_12, if_pos c_15] <;> rfl))
            · skip
              refine lv_iconst (v := 1) hx hb dX7_redeem_65 (by decide) ?_
              refine lv_goto (tgt := 70) hx hb dX7_redeem_66 (by decide) ?_
              refine lv_istore (lv' := [(4, .int 1), (3, .int 1), (0, .ref (ad 0)), (1, .int x0), (2, .int x1)]) hx hb dX7_redeem_70 hl (by decide) rfl (fun ls hl => ?_)
              refine lv_aload_n hx hb dX7_redeem_72 rfl (lv_at hl 2 rfl) ?_
              refine lv_iload_n hx hb dX7_redeem_73 rfl (lv_at hl 1 rfl) ?_
              refine lv_if_ne (tgt := 81) hx hb dX7_redeem_74 (by decide) (fun _ => ?_) (fun c9 => absurd c9 (by decide))
              refine lv_iload hx hb dX7_redeem_81 (lv_at hl 0 rfl) ?_
              refine lv_if_ne (tgt := 90) hx hb dX7_redeem_83 (by decide) (fun _ => ?_) (fun c9 => absurd c9 (by decide))
              refine lv_iconst (v := 0) hx hb dX7_redeem_90 (by decide) ?_
              refine sy_ki (sy_rV (o := 0) (As := [.int 0]) (rest := []) ⟨hx, hb, hml, hown, hts⟩ hE hP hS (nX7_refused l hfl Z nT nK cT cK ad g q 0) (cwV 1 hts (gu_V uk_5_104 uk_5_106 uk_0_17 uk_1_9 uk_5_107) rfl rfl rfl (by decide +kernel) ⟨Nat.le_of_ble_eq_true rfl, Nat.le_of_ble_eq_true rfl⟩) (sy_recv (kc := 8) hE hP rfl (by decide) rfl rfl rfl) rfl hl.1 rfl (Nat.le_of_ble_eq_true rfl) dX7_redeem_91 ⟨Nat.le_of_ble_eq_true rfl, Nat.le_of_ble_eq_true rfl⟩) hS (fun r_e_17 g_e_17 q_e_17 H locs e_17 hP hS => ?_)
              cases e_17
              refine sy_top (y := 0) (by rfl) ?_
              refine lv_if_eq (tgt := 99) hx hb dX7_redeem_94 (by decide) (fun _ => ?_) (fun c9 => absurd c9 (by decide))
              refine lv_aload_n hx hb dX7_redeem_99 rfl (lv_at hl 2 rfl) ?_
              refine sy_getRX7 hx hb hts hown hE hP 0 rfl 34 (by decide) (hts _ (u_in uk_4_224)) (v := .ref (ad 35)) rfl dX7_redeem_100 ?_
              refine lv_iload_n hx hb dX7_redeem_103 rfl (lv_at hl 3 rfl) ?_
              refine sy_ialdN hx hb hE hP 35 rfl (show vp_in x0 40 from (im_ticket hI c_2)) x0.toNatClampNeg rfl (v := g 35 x0.toNatClampNeg) rfl dX7_redeem_104 ?_
              refine lv_aload_n hx hb dX7_redeem_105 rfl (lv_at hl 2 rfl) ?_
              refine lv_iload_n hx hb dX7_redeem_106 rfl (lv_at hl 3 rfl) ?_
              refine sy_ki (sy_rV (o := 0) (As := [.int x0]) (rest := [.int (g 35 x0.toNatClampNeg)]) ⟨hx, hb, hml, hown, hts⟩ hE hP hS (mX7_interest l hfl Z nT nK cT cK ad (sy_up g 0 0 0) q x0 (im_0 (by decide) hI) (show vp_in x0 40 from (im_ticket hI c_2))) (cwV 1 hts (gu_V uk_5_184 uk_5_186 uk_0_27 uk_1_9 uk_5_187) rfl rfl rfl (by decide +kernel) ⟨Nat.le_of_ble_eq_true rfl, Nat.le_of_ble_eq_true rfl⟩) (sy_recv (kc := 8) hE hP rfl (by decide) rfl rfl rfl) rfl hl.1 rfl (Nat.le_of_ble_eq_true rfl) dX7_redeem_107 ⟨Nat.le_of_ble_eq_true rfl, Nat.le_of_ble_eq_true rfl⟩) hS (fun r_e_18 g_e_18 q_e_18 H locs e_18 hP hS => ?_)
              cases e_18
              refine lv_iadd hx hb dX7_redeem_110 ?_
              refine lv_istore (lv' := [(5, .int ((g 35 x0.toNatClampNeg) + (fX7_interest (sy_up g 0 0 0) q x0))), (4, .int 1), (3, .int 1), (0, .ref (ad 0)), (1, .int x0), (2, .int x1)]) hx hb dX7_redeem_111 hl (by decide) rfl (fun ls hl => ?_)
              refine lv_aload_n hx hb dX7_redeem_113 rfl (lv_at hl 3 rfl) ?_
              refine lv_dup hx hb dX7_redeem_114 rfl ?_
              refine sy_getRX7 hx hb hts hown hE hP 0 rfl 44 (by decide) (hts _ (u_in uk_4_234)) (v := .int (g 0 44)) rfl dX7_redeem_115 ?_
              refine lv_iload hx hb dX7_redeem_118 (lv_at hl 0 rfl) ?_
              refine lv_iadd hx hb dX7_redeem_120 ?_
              refine sy_putRX7 hx hb hts hown hE hP hS 0 rfl 44 (by decide) (hts _ (u_in uk_4_234)) rfl (ty := .int) (by decide +kernel) rfl rfl (sy_up (sy_up g 0 0 0) 0 44 ((g 0 44) + ((g 35 x0.toNatClampNeg) + (fX7_interest (sy_up g 0 0 0) q x0)))) q (by rw [sy_up_s (sy_up g 0 0 0) 0 44 ((g 0 44) + ((g 35 x0.toNatClampNeg) + (fX7_interest (sy_up g 0 0 0) q x0)))]; exact se_RX7_44 _ _ _ _ _ _ _) (fun _ h9 => sy_up_o _ _ _ h9) (fun _ _ => rfl) dX7_redeem_121 (fun H locs hP hS => ?_)
              exact K_1 c_2 c_5 c_7 c_10 c_12 c_15 _ _ _ hP hS hl
def fX7_renew (g : sG) (q : sQ) (x0 x1 x2 : Int32) : Int32 × sG := (if 0 ≤ x0 ∧ x0 ≤ (g 0 28) - 1 then (if 0 ≤ x1 ∧ x1 ≤ 9 then (if 0 ≤ x2 ∧ x2 ≤ ((g 35 x0.toNatClampNeg) - 1) then (if (g 39 x0.toNatClampNeg) = 0 then (if (fX7_bars g q x0) = 0 then (if (g 33 x0.toNatClampNeg) = x1 then (((fX7_interest (sy_up g 0 0 0) q x0) + x2), (sy_up (sy_up (sy_up (sy_up (sy_up g 0 0 0) 0 44 ((g 0 44) + ((fX7_interest (sy_up g 0 0 0) q x0) + x2))) 35 x0.toNatClampNeg ((g 35 x0.toNatClampNeg) - x2)) 37 x0.toNatClampNeg (g 0 1)) 38 x0.toNatClampNeg (g 0 27))) else (0, (sy_up g 0 0 3))) else (0, (sy_up g 0 0 3))) else (0, (sy_up g 0 0 3))) else (if (g 39 x0.toNatClampNeg) = 0 then (if (fX7_bars g q x0) = 0 then (if (g 33 x0.toNatClampNeg) = x1 then (0, (sy_up g 0 0 2)) else (0, (sy_up g 0 0 2))) else (0, (sy_up g 0 0 2))) else (0, (sy_up g 0 0 2)))) else (0, (sy_up g 0 0 1))) else (0, (sy_up g 0 0 1)))
set_option maxHeartbeats 4000000 in
set_option maxRecDepth 100000 in
theorem mX7_renew (l : Launch) (hfl : l.stackTraces = false) (Z : sZ) (nT nK cT cK : Nat) (ad : Nat → Nat) (g : sG) (q : sQ) (x0 x1 x2 : Int32) {mT mK : Nat} (hI : IM mT mK g) : sMi l Z yX7_renew (uW (.code yX7_renew cX7_renew 8 (some .int))) { frames := 2, cells := 0, slots := 0, locals := 49 } [.ref (ad 0), .int x0, .int x1, .int x2] nT nK cT cK ad g q (fun r g1 q1 => (r, g1, q1) = ((fX7_renew g q x0 x1 x2).1, (fX7_renew g q x0 x1 x2).2, q)) := by
  refine Met.ofW (cc := cX7_renew) (maxL := 8) (ret := (some .int)) (by decide) rfl ?_
  intro p e s m args below meth c s₁ B hml hv
  obtain ⟨rfl, hE, hP⟩ := hv
  have hx := B.exec
  have hb := B.bytes
  have hr := B.returns
  have hts := atoms_spec (ws := uW (.code yX7_renew cX7_renew 8 (some .int))) B.pre
  have hown : s.vm.findClass RX7 = some m.cls := findClass_of_methodNamed B.named
  have hlocks := B.notSynchronized
  have hS : va_S (sy_A Z) s.heap s.heap [] := va_S.rf
  have hl := lv_entry ([.ref (ad 0), .int x0, .int x1, .int x2]) (n := 8) (Nat.le_of_ble_eq_true rfl)
  rw [lg_entry_eq]
  generalize (lg_sl ([.ref (ad 0), .int x0, .int x1, .int x2]) ++ List.replicate (8 - (lg_sl ([.ref (ad 0), .int x0, .int x1, .int x2])).length) Slot.unset).toArray = ls at hl ⊢
  have hl : lv_has ls 8 [(0, .ref (ad 0)), (1, .int x0), (2, .int x1), (3, .int x2)] := hl
  have K_1 : (0 ≤ x0 ∧ x0 ≤ (g 0 28) - 1) → (0 ≤ x1 ∧ x1 ≤ 9) → (0 ≤ x2 ∧ x2 ≤ ((g 35 x0.toNatClampNeg) - 1)) → ((g 39 x0.toNatClampNeg) = 0) → ((fX7_bars g q x0) = 0) → ((g 33 x0.toNatClampNeg) = x1) → ∀ (H : Heap) (locs : List Loc) (ls : Array Slot), Sy Z nT nK cT cK ad (sy_up g 0 0 0) q H → va_S (sy_A Z) s.heap H locs → lv_has ls 8 [(6, .int 1), (5, .int 1), (4, .int 1), (0, .ref (ad 0)), (1, .int x0), (2, .int x1), (3, .int x2)] → W p l e ({ frames := 2, cells := 0, slots := 0, locals := 49 } : Room) s m ([.ref (ad 0), .int x0, .int x1, .int x2] : List Value).toArray below meth c H locs 0 0 (MQ below (sQi Z nT nK cT cK ad (fun r g1 q1 => (r, g1, q1) = ((fX7_renew g q x0 x1 x2).1, (fX7_renew g q x0 x1 x2).2, q))) ([.ref (ad 0), .int x0, .int x1, .int x2] : List Value).toArray s 0 0 (sy_A Z)) (F0 m 133 ls [.int ((fX7_interest (sy_up g 0 0 0) q x0) + x2)]) := by
    intro c_2 c_5 c_8 c_17 c_20 c_22 H locs ls hP hS hl
    refine lv_istore (lv' := [(7, .int ((fX7_interest (sy_up g 0 0 0) q x0) + x2)), (6, .int 1), (5, .int 1), (4, .int 1), (0, .ref (ad 0)), (1, .int x0), (2, .int x1), (3, .int x2)]) hx hb dX7_renew_133 hl (by decide) rfl (fun ls hl => ?_)
    refine lv_aload_n hx hb dX7_renew_135 rfl (lv_at hl 4 rfl) ?_
    refine lv_dup hx hb dX7_renew_136 rfl ?_
    refine sy_getRX7 hx hb hts hown hE hP 0 rfl 44 (by decide) (hts _ (u_in uk_4_234)) (v := .int (g 0 44)) rfl dX7_renew_137 ?_
    refine lv_iload hx hb dX7_renew_140 (lv_at hl 0 rfl) ?_
    refine lv_iadd hx hb dX7_renew_142 ?_
    refine sy_putRX7 hx hb hts hown hE hP hS 0 rfl 44 (by decide) (hts _ (u_in uk_4_234)) rfl (ty := .int) (by decide +kernel) rfl rfl (sy_up (sy_up g 0 0 0) 0 44 ((g 0 44) + ((fX7_interest (sy_up g 0 0 0) q x0) + x2))) q (by rw [sy_up_s (sy_up g 0 0 0) 0 44 ((g 0 44) + ((fX7_interest (sy_up g 0 0 0) q x0) + x2))]; exact se_RX7_44 _ _ _ _ _ _ _) (fun _ h9 => sy_up_o _ _ _ h9) (fun _ _ => rfl) dX7_renew_143 (fun H locs hP hS => ?_)
    refine lv_aload_n hx hb dX7_renew_146 rfl (lv_at hl 4 rfl) ?_
    refine sy_getRX7 hx hb hts hown hE hP 0 rfl 34 (by decide) (hts _ (u_in uk_4_224)) (v := .ref (ad 35)) rfl dX7_renew_147 ?_
    refine lv_iload_n hx hb dX7_renew_150 rfl (lv_at hl 5 rfl) ?_
    refine lv_dup2_11 hx hb dX7_renew_151 rfl rfl ?_
    refine sy_ialdN hx hb hE hP 35 rfl (show vp_in x0 40 from (im_ticket hI c_2)) x0.toNatClampNeg rfl (v := g 35 x0.toNatClampNeg) rfl dX7_renew_152 ?_
    refine lv_iload_n hx hb dX7_renew_153 rfl (lv_at hl 7 rfl) ?_
    refine lv_isub hx hb dX7_renew_154 ?_
    refine sy_iastN hx hb hE hP hS 35 rfl (show vp_in x0 40 from (im_ticket hI c_2)) x0.toNatClampNeg rfl dX7_renew_155 (fun H locs hP hS => ?_)
    refine lv_aload_n hx hb dX7_renew_156 rfl (lv_at hl 4 rfl) ?_
    refine sy_getRX7 hx hb hts hown hE hP 0 rfl 36 (by decide) (hts _ (u_in uk_4_226)) (v := .ref (ad 37)) rfl dX7_renew_157 ?_
    refine lv_iload_n hx hb dX7_renew_160 rfl (lv_at hl 5 rfl) ?_
    refine lv_aload_n hx hb dX7_renew_161 rfl (lv_at hl 4 rfl) ?_
    refine sy_getRX7 hx hb hts hown hE hP 0 rfl 1 (by decide) (hts _ (u_in uk_4_191)) (v := .int (g 0 1)) rfl dX7_renew_162 ?_
    refine sy_iastN hx hb hE hP hS 37 rfl (show vp_in x0 40 from (im_ticket hI c_2)) x0.toNatClampNeg rfl dX7_renew_165 (fun H locs hP hS => ?_)
    refine lv_aload_n hx hb dX7_renew_166 rfl (lv_at hl 4 rfl) ?_
    refine sy_getRX7 hx hb hts hown hE hP 0 rfl 37 (by decide) (hts _ (u_in uk_4_227)) (v := .ref (ad 38)) rfl dX7_renew_167 ?_
    refine lv_iload_n hx hb dX7_renew_170 rfl (lv_at hl 5 rfl) ?_
    refine lv_aload_n hx hb dX7_renew_171 rfl (lv_at hl 4 rfl) ?_
    refine sy_getRX7 hx hb hts hown hE hP 0 rfl 27 (by decide) (hts _ (u_in uk_4_217)) (v := .int (g 0 27)) rfl dX7_renew_172 ?_
    refine sy_iastN hx hb hE hP hS 38 rfl (show vp_in x0 40 from (im_ticket hI c_2)) x0.toNatClampNeg rfl dX7_renew_175 (fun H locs hP hS => ?_)
    refine lv_iload hx hb dX7_renew_176 (lv_at hl 0 rfl) ?_
    exact (sy_ireti hx hb hr hlocks hE hP hS dX7_renew_178 ⟨Nat.le_of_ble_eq_true rfl, Nat.le_of_ble_eq_true rfl⟩ (by unfold fX7_renew; rw [if_pos c_2, if_pos c_5, if_pos c_8, if_pos c_17, if_pos c_20, if_pos c_22] <;> rfl))
  refine lv_aload_n hx hb dX7_renew_0 rfl (lv_at hl 0 rfl) ?_
  refine lv_iload_n hx hb dX7_renew_1 rfl (lv_at hl 1 rfl) ?_
  refine sy_ki (sy_rV (o := 0) (As := [.int x0]) (rest := []) ⟨hx, hb, hml, hown, hts⟩ hE hP hS (mX7_isTicket l hfl Z nT nK cT cK ad g q x0) (cwV 1 hts (gu_V uk_5_172 uk_5_174 uk_0_24 uk_1_9 uk_5_175) rfl rfl rfl (by decide +kernel) ⟨Nat.le_of_ble_eq_true rfl, Nat.le_of_ble_eq_true rfl⟩) (sy_recv (kc := 8) hE hP rfl (by decide) rfl rfl rfl) rfl hl.1 rfl (Nat.le_of_ble_eq_true rfl) dX7_renew_2 ⟨Nat.le_of_ble_eq_true rfl, Nat.le_of_ble_eq_true rfl⟩) hS (fun r_e_1 g_e_1 q_e_1 H locs e_1 hP hS => ?_)
  cases e_1
  refine sy_top (y := (iB (0 ≤ x0 ∧ x0 ≤ (g 0 28) - 1))) (by rfl) ?_
  refine lv_if_eq (tgt := 19) hx hb dX7_renew_5 (by decide) (fun c_2 => ?_) (fun c_2 => ?_)
  · have c_2 := iB_0.mp c_2
    refine lv_iconst (v := 0) hx hb dX7_renew_19 (by decide) ?_
    refine lv_istore (lv' := [(4, .int 0), (0, .ref (ad 0)), (1, .int x0), (2, .int x1), (3, .int x2)]) hx hb dX7_renew_20 hl (by decide) rfl (fun ls hl => ?_)
    refine lv_iload hx hb dX7_renew_22 (lv_at hl 0 rfl) ?_
    refine lv_if_eq (tgt := 47) hx hb dX7_renew_24 (by decide) (fun _ => ?_) (fun c9 => absurd c9 (by decide))
    refine lv_iconst (v := 0) hx hb dX7_renew_47 (by decide) ?_
    refine lv_istore (lv' := [(5, .int 0), (4, .int 0), (0, .ref (ad 0)), (1, .int x0), (2, .int x1), (3, .int x2)]) hx hb dX7_renew_48 hl (by decide) rfl (fun ls hl => ?_)
    refine lv_iload hx hb dX7_renew_50 (lv_at hl 1 rfl) ?_
    refine lv_if_eq (tgt := 86) hx hb dX7_renew_52 (by decide) (fun _ => ?_) (fun c9 => absurd c9 (by decide))
    refine lv_iconst (v := 0) hx hb dX7_renew_86 (by decide) ?_
    refine lv_istore (lv' := [(6, .int 0), (5, .int 0), (4, .int 0), (0, .ref (ad 0)), (1, .int x0), (2, .int x1), (3, .int x2)]) hx hb dX7_renew_87 hl (by decide) rfl (fun ls hl => ?_)
    refine lv_aload_n hx hb dX7_renew_89 rfl (lv_at hl 3 rfl) ?_
    refine lv_iload hx hb dX7_renew_90 (lv_at hl 2 rfl) ?_
    refine lv_if_ne (tgt := 99) hx hb dX7_renew_92 (by decide) (fun c9 => absurd c9 (by decide)) (fun _ => ?_)
    refine lv_iconst (v := 1) hx hb dX7_renew_95 (by decide) ?_
    refine lv_goto (tgt := 118) hx hb dX7_renew_96 (by decide) ?_
    refine sy_ki (sy_rV (o := 0) (As := [.int 1]) (rest := []) ⟨hx, hb, hml, hown, hts⟩ hE hP hS (nX7_refused l hfl Z nT nK cT cK ad g q 1) (cwV 1 hts (gu_V uk_5_104 uk_5_106 uk_0_17 uk_1_9 uk_5_107) rfl rfl rfl (by decide +kernel) ⟨Nat.le_of_ble_eq_true rfl, Nat.le_of_ble_eq_true rfl⟩) (sy_recv (kc := 8) hE hP rfl (by decide) rfl rfl rfl) rfl hl.1 rfl (Nat.le_of_ble_eq_true rfl) dX7_renew_118 ⟨Nat.le_of_ble_eq_true rfl, Nat.le_of_ble_eq_true rfl⟩) hS (fun r_e_3 g_e_3 q_e_3 H locs e_3 hP hS => ?_)
    cases e_3
    refine sy_top (y := 1) (by rfl) ?_
    refine lv_if_eq (tgt := 126) hx hb dX7_renew_121 (by decide) (fun c9 => absurd c9 (by decide)) (fun _ => ?_)
    refine lv_iconst (v := 0) hx hb dX7_renew_124 (by decide) ?_
    exact (sy_ireti hx hb hr hlocks hE hP hS dX7_renew_125 ⟨Nat.le_of_ble_eq_true rfl, Nat.le_of_ble_eq_true rfl⟩ (by unfold fX7_renew; rw [if_neg c_2] <;> rfl))
  · have c_2 := iB_n.mp c_2
    refine lv_iload_n hx hb dX7_renew_8 rfl (lv_at hl 2 rfl) ?_
    refine sy_ki (sy_rS (As := [.int x1]) (rest := []) ⟨hx, hb, hml, hown, hts⟩ hE hP hS (mX7_isPerson l hfl Z nT nK cT cK ad g q x1) (va_cwS 1 hts (gu_S uk_5_120 uk_5_121 uk_1_9 uk_5_122) rfl rfl rfl (by decide +kernel) ⟨Nat.le_of_ble_eq_true rfl, Nat.le_of_ble_eq_true rfl⟩) rfl hl.1 rfl (Nat.le_of_ble_eq_true rfl) dX7_renew_9 ⟨Nat.le_of_ble_eq_true rfl, Nat.le_of_ble_eq_true rfl⟩) hS (fun r_e_4 g_e_4 q_e_4 H locs e_4 hP hS => ?_)
    cases e_4
    refine sy_top (y := (iB (0 ≤ x1 ∧ x1 ≤ 9))) (by rfl) ?_
    refine lv_if_eq (tgt := 19) hx hb dX7_renew_12 (by decide) (fun c_5 => ?_) (fun c_5 => ?_)
    · have c_5 := iB_0.mp c_5
      refine lv_iconst (v := 0) hx hb dX7_renew_19 (by decide) ?_
      refine lv_istore (lv' := [(4, .int 0), (0, .ref (ad 0)), (1, .int x0), (2, .int x1), (3, .int x2)]) hx hb dX7_renew_20 hl (by decide) rfl (fun ls hl => ?_)
      refine lv_iload hx hb dX7_renew_22 (lv_at hl 0 rfl) ?_
      refine lv_if_eq (tgt := 47) hx hb dX7_renew_24 (by decide) (fun _ => ?_) (fun c9 => absurd c9 (by decide))
      refine lv_iconst (v := 0) hx hb dX7_renew_47 (by decide) ?_
      refine lv_istore (lv' := [(5, .int 0), (4, .int 0), (0, .ref (ad 0)), (1, .int x0), (2, .int x1), (3, .int x2)]) hx hb dX7_renew_48 hl (by decide) rfl (fun ls hl => ?_)
      refine lv_iload hx hb dX7_renew_50 (lv_at hl 1 rfl) ?_
      refine lv_if_eq (tgt := 86) hx hb dX7_renew_52 (by decide) (fun _ => ?_) (fun c9 => absurd c9 (by decide))
      refine lv_iconst (v := 0) hx hb dX7_renew_86 (by decide) ?_
      refine lv_istore (lv' := [(6, .int 0), (5, .int 0), (4, .int 0), (0, .ref (ad 0)), (1, .int x0), (2, .int x1), (3, .int x2)]) hx hb dX7_renew_87 hl (by decide) rfl (fun ls hl => ?_)
      refine lv_aload_n hx hb dX7_renew_89 rfl (lv_at hl 3 rfl) ?_
      refine lv_iload hx hb dX7_renew_90 (lv_at hl 2 rfl) ?_
      refine lv_if_ne (tgt := 99) hx hb dX7_renew_92 (by decide) (fun c9 => absurd c9 (by decide)) (fun _ => ?_)
      refine lv_iconst (v := 1) hx hb dX7_renew_95 (by decide) ?_
      refine lv_goto (tgt := 118) hx hb dX7_renew_96 (by decide) ?_
      refine sy_ki (sy_rV (o := 0) (As := [.int 1]) (rest := []) ⟨hx, hb, hml, hown, hts⟩ hE hP hS (nX7_refused l hfl Z nT nK cT cK ad g q 1) (cwV 1 hts (gu_V uk_5_104 uk_5_106 uk_0_17 uk_1_9 uk_5_107) rfl rfl rfl (by decide +kernel) ⟨Nat.le_of_ble_eq_true rfl, Nat.le_of_ble_eq_true rfl⟩) (sy_recv (kc := 8) hE hP rfl (by decide) rfl rfl rfl) rfl hl.1 rfl (Nat.le_of_ble_eq_true rfl) dX7_renew_118 ⟨Nat.le_of_ble_eq_true rfl, Nat.le_of_ble_eq_true rfl⟩) hS (fun r_e_6 g_e_6 q_e_6 H locs e_6 hP hS => ?_)
      cases e_6
      refine sy_top (y := 1) (by rfl) ?_
      refine lv_if_eq (tgt := 126) hx hb dX7_renew_121 (by decide) (fun c9 => absurd c9 (by decide)) (fun _ => ?_)
      refine lv_iconst (v := 0) hx hb dX7_renew_124 (by decide) ?_
      exact (sy_ireti hx hb hr hlocks hE hP hS dX7_renew_125 ⟨Nat.le_of_ble_eq_true rfl, Nat.le_of_ble_eq_true rfl⟩ (by unfold fX7_renew; rw [if_pos c_2, if_neg c_5] <;> rfl))
    · have c_5 := iB_n.mp c_5
      refine lv_iconst (v := 1) hx hb dX7_renew_15 (by decide) ?_
      refine lv_goto (tgt := 20) hx hb dX7_renew_16 (by decide) ?_
      refine lv_istore (lv' := [(4, .int 1), (0, .ref (ad 0)), (1, .int x0), (2, .int x1), (3, .int x2)]) hx hb dX7_renew_20 hl (by decide) rfl (fun ls hl => ?_)
      refine lv_iload hx hb dX7_renew_22 (lv_at hl 0 rfl) ?_
      refine lv_if_eq (tgt := 47) hx hb dX7_renew_24 (by decide) (fun c9 => absurd c9 (by decide)) (fun _ => ?_)
      refine lv_iload_n hx hb dX7_renew_27 rfl (lv_at hl 4 rfl) ?_
      refine lv_iconst (v := 0) hx hb dX7_renew_28 (by decide) ?_
      refine lv_aload_n hx hb dX7_renew_29 rfl (lv_at hl 1 rfl) ?_
      refine sy_getRX7 hx hb hts hown hE hP 0 rfl 34 (by decide) (hts _ (u_in uk_4_224)) (v := .ref (ad 35)) rfl dX7_renew_30 ?_
      refine lv_iload_n hx hb dX7_renew_33 rfl (lv_at hl 2 rfl) ?_
      refine sy_ialdN hx hb hE hP 35 rfl (show vp_in x0 40 from (im_ticket hI c_2)) x0.toNatClampNeg rfl (v := g 35 x0.toNatClampNeg) rfl dX7_renew_34 ?_
      refine lv_iconst (v := 1) hx hb dX7_renew_35 (by decide) ?_
      refine lv_isub hx hb dX7_renew_36 ?_
      refine sy_ki (sy_rS (As := [.int x2, .int 0, .int ((g 35 x0.toNatClampNeg) - 1)]) (rest := []) ⟨hx, hb, hml, hown, hts⟩ hE hP hS (nX7_is l hfl Z nT nK cT cK ad g q x2 0 ((g 35 x0.toNatClampNeg) - 1)) (va_cwS 3 hts (gu_S uk_5_101 uk_5_102 uk_1_9 uk_5_103) rfl rfl rfl (by decide +kernel) ⟨Nat.le_of_ble_eq_true rfl, Nat.le_of_ble_eq_true rfl⟩) rfl hl.1 rfl (Nat.le_of_ble_eq_true rfl) dX7_renew_37 ⟨Nat.le_of_ble_eq_true rfl, Nat.le_of_ble_eq_true rfl⟩) hS (fun r_e_7 g_e_7 q_e_7 H locs e_7 hP hS => ?_)
      cases e_7
      refine lv_if_eq (tgt := 47) hx hb dX7_renew_40 (by decide) (fun c_8 => ?_) (fun c_8 => ?_)
      · have c_8 := iB_0.mp c_8
        refine lv_iconst (v := 0) hx hb dX7_renew_47 (by decide) ?_
        refine lv_istore (lv' := [(5, .int 0), (4, .int 1), (0, .ref (ad 0)), (1, .int x0), (2, .int x1), (3, .int x2)]) hx hb dX7_renew_48 hl (by decide) rfl (fun ls hl => ?_)
        refine lv_iload hx hb dX7_renew_50 (lv_at hl 1 rfl) ?_
        refine lv_if_eq (tgt := 86) hx hb dX7_renew_52 (by decide) (fun c9 => absurd c9 (by decide)) (fun _ => ?_)
        refine lv_aload_n hx hb dX7_renew_55 rfl (lv_at hl 2 rfl) ?_
        refine sy_getRX7 hx hb hts hown hE hP 0 rfl 38 (by decide) (hts _ (u_in uk_4_228)) (v := .ref (ad 39)) rfl dX7_renew_56 ?_
        refine lv_iload_n hx hb dX7_renew_59 rfl (lv_at hl 3 rfl) ?_
        refine sy_ialdN hx hb hE hP 39 rfl (show vp_in x0 40 from (im_ticket hI c_2)) x0.toNatClampNeg rfl (v := g 39 x0.toNatClampNeg) rfl dX7_renew_60 ?_
        refine lv_if_ne (tgt := 86) hx hb dX7_renew_61 (by decide) (fun c_9 => ?_) (fun c_9 => ?_)
        · skip
          refine lv_iconst (v := 0) hx hb dX7_renew_86 (by decide) ?_
          refine lv_istore (lv' := [(6, .int 0), (5, .int 0), (4, .int 1), (0, .ref (ad 0)), (1, .int x0), (2, .int x1), (3, .int x2)]) hx hb dX7_renew_87 hl (by decide) rfl (fun ls hl => ?_)
          refine lv_aload_n hx hb dX7_renew_89 rfl (lv_at hl 3 rfl) ?_
          refine lv_iload hx hb dX7_renew_90 (lv_at hl 2 rfl) ?_
          refine lv_if_ne (tgt := 99) hx hb dX7_renew_92 (by decide) (fun _ => ?_) (fun c9 => absurd c9 (by decide))
          refine lv_iload hx hb dX7_renew_99 (lv_at hl 1 rfl) ?_
          refine lv_if_ne (tgt := 108) hx hb dX7_renew_101 (by decide) (fun c9 => absurd c9 (by decide)) (fun _ => ?_)
          refine lv_iconst (v := 2) hx hb dX7_renew_104 (by decide) ?_
          refine lv_goto (tgt := 118) hx hb dX7_renew_105 (by decide) ?_
          refine sy_ki (sy_rV (o := 0) (As := [.int 2]) (rest := []) ⟨hx, hb, hml, hown, hts⟩ hE hP hS (nX7_refused l hfl Z nT nK cT cK ad g q 2) (cwV 1 hts (gu_V uk_5_104 uk_5_106 uk_0_17 uk_1_9 uk_5_107) rfl rfl rfl (by decide +kernel) ⟨Nat.le_of_ble_eq_true rfl, Nat.le_of_ble_eq_true rfl⟩) (sy_recv (kc := 8) hE hP rfl (by decide) rfl rfl rfl) rfl hl.1 rfl (Nat.le_of_ble_eq_true rfl) dX7_renew_118 ⟨Nat.le_of_ble_eq_true rfl, Nat.le_of_ble_eq_true rfl⟩) hS (fun r_e_10 g_e_10 q_e_10 H locs e_10 hP hS => ?_)
          cases e_10
          refine sy_top (y := 1) (by rfl) ?_
          refine lv_if_eq (tgt := 126) hx hb dX7_renew_121 (by decide) (fun c9 => absurd c9 (by decide)) (fun _ => ?_)
          refine lv_iconst (v := 0) hx hb dX7_renew_124 (by decide) ?_
          exact (sy_ireti hx hb hr hlocks hE hP hS dX7_renew_125 ⟨Nat.le_of_ble_eq_true rfl, Nat.le_of_ble_eq_true rfl⟩ (by unfold fX7_renew; rw [if_pos c_2, if_pos c_5, if_neg c_8, if_neg c_9] <;> rfl))
        · skip
          refine lv_aload_n hx hb dX7_renew_64 rfl (lv_at hl 2 rfl) ?_
          refine lv_iload_n hx hb dX7_renew_65 rfl (lv_at hl 3 rfl) ?_
          refine sy_ki (sy_rV (o := 0) (As := [.int x0]) (rest := []) ⟨hx, hb, hml, hown, hts⟩ hE hP hS (mX7_bars l hfl Z nT nK cT cK ad g q x0 hI (show vp_in x0 40 from (im_ticket hI c_2))) (cwV 1 hts (gu_V uk_5_176 uk_5_178 uk_0_25 uk_1_9 uk_5_179) rfl rfl rfl (by decide +kernel) ⟨Nat.le_of_ble_eq_true rfl, Nat.le_of_ble_eq_true rfl⟩) (sy_recv (kc := 8) hE hP rfl (by decide) rfl rfl rfl) rfl hl.1 rfl (Nat.le_of_ble_eq_true rfl) dX7_renew_66 ⟨Nat.le_of_ble_eq_true rfl, Nat.le_of_ble_eq_true rfl⟩) hS (fun r_e_11 g_e_11 q_e_11 H locs e_11 hP hS => ?_)
          cases e_11
          refine lv_if_ne (tgt := 86) hx hb dX7_renew_69 (by decide) (fun c_12 => ?_) (fun c_12 => ?_)
          · skip
            refine lv_iconst (v := 0) hx hb dX7_renew_86 (by decide) ?_
            refine lv_istore (lv' := [(6, .int 0), (5, .int 0), (4, .int 1), (0, .ref (ad 0)), (1, .int x0), (2, .int x1), (3, .int x2)]) hx hb dX7_renew_87 hl (by decide) rfl (fun ls hl => ?_)
            refine lv_aload_n hx hb dX7_renew_89 rfl (lv_at hl 3 rfl) ?_
            refine lv_iload hx hb dX7_renew_90 (lv_at hl 2 rfl) ?_
            refine lv_if_ne (tgt := 99) hx hb dX7_renew_92 (by decide) (fun _ => ?_) (fun c9 => absurd c9 (by decide))
            refine lv_iload hx hb dX7_renew_99 (lv_at hl 1 rfl) ?_
            refine lv_if_ne (tgt := 108) hx hb dX7_renew_101 (by decide) (fun c9 => absurd c9 (by decide)) (fun _ => ?_)
            refine lv_iconst (v := 2) hx hb dX7_renew_104 (by decide) ?_
            refine lv_goto (tgt := 118) hx hb dX7_renew_105 (by decide) ?_
            refine sy_ki (sy_rV (o := 0) (As := [.int 2]) (rest := []) ⟨hx, hb, hml, hown, hts⟩ hE hP hS (nX7_refused l hfl Z nT nK cT cK ad g q 2) (cwV 1 hts (gu_V uk_5_104 uk_5_106 uk_0_17 uk_1_9 uk_5_107) rfl rfl rfl (by decide +kernel) ⟨Nat.le_of_ble_eq_true rfl, Nat.le_of_ble_eq_true rfl⟩) (sy_recv (kc := 8) hE hP rfl (by decide) rfl rfl rfl) rfl hl.1 rfl (Nat.le_of_ble_eq_true rfl) dX7_renew_118 ⟨Nat.le_of_ble_eq_true rfl, Nat.le_of_ble_eq_true rfl⟩) hS (fun r_e_13 g_e_13 q_e_13 H locs e_13 hP hS => ?_)
            cases e_13
            refine sy_top (y := 1) (by rfl) ?_
            refine lv_if_eq (tgt := 126) hx hb dX7_renew_121 (by decide) (fun c9 => absurd c9 (by decide)) (fun _ => ?_)
            refine lv_iconst (v := 0) hx hb dX7_renew_124 (by decide) ?_
            exact (sy_ireti hx hb hr hlocks hE hP hS dX7_renew_125 ⟨Nat.le_of_ble_eq_true rfl, Nat.le_of_ble_eq_true rfl⟩ (by unfold fX7_renew; rw [if_pos c_2, if_pos c_5, if_neg c_8, if_pos c_9, if_neg c_12] <;> rfl))
          · skip
            refine lv_aload_n hx hb dX7_renew_72 rfl (lv_at hl 2 rfl) ?_
            refine sy_getRX7 hx hb hts hown hE hP 0 rfl 32 (by decide) (hts _ (u_in uk_4_222)) (v := .ref (ad 33)) rfl dX7_renew_73 ?_
            refine lv_iload_n hx hb dX7_renew_76 rfl (lv_at hl 3 rfl) ?_
            refine sy_ialdN hx hb hE hP 33 rfl (show vp_in x0 40 from (im_ticket hI c_2)) x0.toNatClampNeg rfl (v := g 33 x0.toNatClampNeg) rfl dX7_renew_77 ?_
            refine lv_iload_n hx hb dX7_renew_78 rfl (lv_at hl 4 rfl) ?_
            refine lv_icmp_ne (tgt := 86) hx hb dX7_renew_79 (by decide) (fun c_14 => ?_) (fun c_14 => ?_)
            · skip
              refine lv_iconst (v := 0) hx hb dX7_renew_86 (by decide) ?_
              refine lv_istore (lv' := [(6, .int 0), (5, .int 0), (4, .int 1), (0, .ref (ad 0)), (1, .int x0), (2, .int x1), (3, .int x2)]) hx hb dX7_renew_87 hl (by decide) rfl (fun ls hl => ?_)
              refine lv_aload_n hx hb dX7_renew_89 rfl (lv_at hl 3 rfl) ?_
              refine lv_iload hx hb dX7_renew_90 (lv_at hl 2 rfl) ?_
              refine lv_if_ne (tgt := 99) hx hb dX7_renew_92 (by decide) (fun _ => ?_) (fun c9 => absurd c9 (by decide))
              refine lv_iload hx hb dX7_renew_99 (lv_at hl 1 rfl) ?_
              refine lv_if_ne (tgt := 108) hx hb dX7_renew_101 (by decide) (fun c9 => absurd c9 (by decide)) (fun _ => ?_)
              refine lv_iconst (v := 2) hx hb dX7_renew_104 (by decide) ?_
              refine lv_goto (tgt := 118) hx hb dX7_renew_105 (by decide) ?_
              refine sy_ki (sy_rV (o := 0) (As := [.int 2]) (rest := []) ⟨hx, hb, hml, hown, hts⟩ hE hP hS (nX7_refused l hfl Z nT nK cT cK ad g q 2) (cwV 1 hts (gu_V uk_5_104 uk_5_106 uk_0_17 uk_1_9 uk_5_107) rfl rfl rfl (by decide +kernel) ⟨Nat.le_of_ble_eq_true rfl, Nat.le_of_ble_eq_true rfl⟩) (sy_recv (kc := 8) hE hP rfl (by decide) rfl rfl rfl) rfl hl.1 rfl (Nat.le_of_ble_eq_true rfl) dX7_renew_118 ⟨Nat.le_of_ble_eq_true rfl, Nat.le_of_ble_eq_true rfl⟩) hS (fun r_e_15 g_e_15 q_e_15 H locs e_15 hP hS => ?_)
              cases e_15
              refine sy_top (y := 1) (by rfl) ?_
              refine lv_if_eq (tgt := 126) hx hb dX7_renew_121 (by decide) (fun c9 => absurd c9 (by decide)) (fun _ => ?_)
              refine lv_iconst (v := 0) hx hb dX7_renew_124 (by decide) ?_
              exact (sy_ireti hx hb hr hlocks hE hP hS dX7_renew_125 ⟨Nat.le_of_ble_eq_true rfl, Nat.le_of_ble_eq_true rfl⟩ (by unfold fX7_renew; rw [if_pos c_2, if_pos c_5, if_neg c_8, if_pos c_9, if_pos c_12, if_neg c_14] <;> rfl))
            · skip
              refine lv_iconst (v := 1) hx hb dX7_renew_82 (by decide) ?_
              refine lv_goto (tgt := 87) hx hb dX7_renew_83 (by decide) ?_
              refine lv_istore (lv' := [(6, .int 1), (5, .int 0), (4, .int 1), (0, .ref (ad 0)), (1, .int x0), (2, .int x1), (3, .int x2)]) hx hb dX7_renew_87 hl (by decide) rfl (fun ls hl => ?_)
              refine lv_aload_n hx hb dX7_renew_89 rfl (lv_at hl 3 rfl) ?_
              refine lv_iload hx hb dX7_renew_90 (lv_at hl 2 rfl) ?_
              refine lv_if_ne (tgt := 99) hx hb dX7_renew_92 (by decide) (fun _ => ?_) (fun c9 => absurd c9 (by decide))
              refine lv_iload hx hb dX7_renew_99 (lv_at hl 1 rfl) ?_
              refine lv_if_ne (tgt := 108) hx hb dX7_renew_101 (by decide) (fun c9 => absurd c9 (by decide)) (fun _ => ?_)
              refine lv_iconst (v := 2) hx hb dX7_renew_104 (by decide) ?_
              refine lv_goto (tgt := 118) hx hb dX7_renew_105 (by decide) ?_
              refine sy_ki (sy_rV (o := 0) (As := [.int 2]) (rest := []) ⟨hx, hb, hml, hown, hts⟩ hE hP hS (nX7_refused l hfl Z nT nK cT cK ad g q 2) (cwV 1 hts (gu_V uk_5_104 uk_5_106 uk_0_17 uk_1_9 uk_5_107) rfl rfl rfl (by decide +kernel) ⟨Nat.le_of_ble_eq_true rfl, Nat.le_of_ble_eq_true rfl⟩) (sy_recv (kc := 8) hE hP rfl (by decide) rfl rfl rfl) rfl hl.1 rfl (Nat.le_of_ble_eq_true rfl) dX7_renew_118 ⟨Nat.le_of_ble_eq_true rfl, Nat.le_of_ble_eq_true rfl⟩) hS (fun r_e_16 g_e_16 q_e_16 H locs e_16 hP hS => ?_)
              cases e_16
              refine sy_top (y := 1) (by rfl) ?_
              refine lv_if_eq (tgt := 126) hx hb dX7_renew_121 (by decide) (fun c9 => absurd c9 (by decide)) (fun _ => ?_)
              refine lv_iconst (v := 0) hx hb dX7_renew_124 (by decide) ?_
              exact (sy_ireti hx hb hr hlocks hE hP hS dX7_renew_125 ⟨Nat.le_of_ble_eq_true rfl, Nat.le_of_ble_eq_true rfl⟩ (by unfold fX7_renew; rw [if_pos c_2, if_pos c_5, if_neg c_8, if_pos c_9, if_pos c_12, if_pos c_14] <;> rfl))
      · have c_8 := iB_n.mp c_8
        refine lv_iconst (v := 1) hx hb dX7_renew_43 (by decide) ?_
        refine lv_goto (tgt := 48) hx hb dX7_renew_44 (by decide) ?_
        refine lv_istore (lv' := [(5, .int 1), (4, .int 1), (0, .ref (ad 0)), (1, .int x0), (2, .int x1), (3, .int x2)]) hx hb dX7_renew_48 hl (by decide) rfl (fun ls hl => ?_)
        refine lv_iload hx hb dX7_renew_50 (lv_at hl 1 rfl) ?_
        refine lv_if_eq (tgt := 86) hx hb dX7_renew_52 (by decide) (fun c9 => absurd c9 (by decide)) (fun _ => ?_)
        refine lv_aload_n hx hb dX7_renew_55 rfl (lv_at hl 2 rfl) ?_
        refine sy_getRX7 hx hb hts hown hE hP 0 rfl 38 (by decide) (hts _ (u_in uk_4_228)) (v := .ref (ad 39)) rfl dX7_renew_56 ?_
        refine lv_iload_n hx hb dX7_renew_59 rfl (lv_at hl 3 rfl) ?_
        refine sy_ialdN hx hb hE hP 39 rfl (show vp_in x0 40 from (im_ticket hI c_2)) x0.toNatClampNeg rfl (v := g 39 x0.toNatClampNeg) rfl dX7_renew_60 ?_
        refine lv_if_ne (tgt := 86) hx hb dX7_renew_61 (by decide) (fun c_17 => ?_) (fun c_17 => ?_)
        · skip
          refine lv_iconst (v := 0) hx hb dX7_renew_86 (by decide) ?_
          refine lv_istore (lv' := [(6, .int 0), (5, .int 1), (4, .int 1), (0, .ref (ad 0)), (1, .int x0), (2, .int x1), (3, .int x2)]) hx hb dX7_renew_87 hl (by decide) rfl (fun ls hl => ?_)
          refine lv_aload_n hx hb dX7_renew_89 rfl (lv_at hl 3 rfl) ?_
          refine lv_iload hx hb dX7_renew_90 (lv_at hl 2 rfl) ?_
          refine lv_if_ne (tgt := 99) hx hb dX7_renew_92 (by decide) (fun _ => ?_) (fun c9 => absurd c9 (by decide))
          refine lv_iload hx hb dX7_renew_99 (lv_at hl 1 rfl) ?_
          refine lv_if_ne (tgt := 108) hx hb dX7_renew_101 (by decide) (fun _ => ?_) (fun c9 => absurd c9 (by decide))
          refine lv_iload hx hb dX7_renew_108 (lv_at hl 0 rfl) ?_
          refine lv_if_ne (tgt := 117) hx hb dX7_renew_110 (by decide) (fun c9 => absurd c9 (by decide)) (fun _ => ?_)
          refine lv_iconst (v := 3) hx hb dX7_renew_113 (by decide) ?_
          refine lv_goto (tgt := 118) hx hb dX7_renew_114 (by decide) ?_
          refine sy_ki (sy_rV (o := 0) (As := [.int 3]) (rest := []) ⟨hx, hb, hml, hown, hts⟩ hE hP hS (nX7_refused l hfl Z nT nK cT cK ad g q 3) (cwV 1 hts (gu_V uk_5_104 uk_5_106 uk_0_17 uk_1_9 uk_5_107) rfl rfl rfl (by decide +kernel) ⟨Nat.le_of_ble_eq_true rfl, Nat.le_of_ble_eq_true rfl⟩) (sy_recv (kc := 8) hE hP rfl (by decide) rfl rfl rfl) rfl hl.1 rfl (Nat.le_of_ble_eq_true rfl) dX7_renew_118 ⟨Nat.le_of_ble_eq_true rfl, Nat.le_of_ble_eq_true rfl⟩) hS (fun r_e_18 g_e_18 q_e_18 H locs e_18 hP hS => ?_)
          cases e_18
          refine sy_top (y := 1) (by rfl) ?_
          refine lv_if_eq (tgt := 126) hx hb dX7_renew_121 (by decide) (fun c9 => absurd c9 (by decide)) (fun _ => ?_)
          refine lv_iconst (v := 0) hx hb dX7_renew_124 (by decide) ?_
          exact (sy_ireti hx hb hr hlocks hE hP hS dX7_renew_125 ⟨Nat.le_of_ble_eq_true rfl, Nat.le_of_ble_eq_true rfl⟩ (by unfold fX7_renew; rw [if_pos c_2, if_pos c_5, if_pos c_8, if_neg c_17] <;> rfl))
        · skip
          refine lv_aload_n hx hb dX7_renew_64 rfl (lv_at hl 2 rfl) ?_
          refine lv_iload_n hx hb dX7_renew_65 rfl (lv_at hl 3 rfl) ?_
          refine sy_ki (sy_rV (o := 0) (As := [.int x0]) (rest := []) ⟨hx, hb, hml, hown, hts⟩ hE hP hS (mX7_bars l hfl Z nT nK cT cK ad g q x0 hI (show vp_in x0 40 from (im_ticket hI c_2))) (cwV 1 hts (gu_V uk_5_176 uk_5_178 uk_0_25 uk_1_9 uk_5_179) rfl rfl rfl (by decide +kernel) ⟨Nat.le_of_ble_eq_true rfl, Nat.le_of_ble_eq_true rfl⟩) (sy_recv (kc := 8) hE hP rfl (by decide) rfl rfl rfl) rfl hl.1 rfl (Nat.le_of_ble_eq_true rfl) dX7_renew_66 ⟨Nat.le_of_ble_eq_true rfl, Nat.le_of_ble_eq_true rfl⟩) hS (fun r_e_19 g_e_19 q_e_19 H locs e_19 hP hS => ?_)
          cases e_19
          refine lv_if_ne (tgt := 86) hx hb dX7_renew_69 (by decide) (fun c_20 => ?_) (fun c_20 => ?_)
          · skip
            refine lv_iconst (v := 0) hx hb dX7_renew_86 (by decide) ?_
            refine lv_istore (lv' := [(6, .int 0), (5, .int 1), (4, .int 1), (0, .ref (ad 0)), (1, .int x0), (2, .int x1), (3, .int x2)]) hx hb dX7_renew_87 hl (by decide) rfl (fun ls hl => ?_)
            refine lv_aload_n hx hb dX7_renew_89 rfl (lv_at hl 3 rfl) ?_
            refine lv_iload hx hb dX7_renew_90 (lv_at hl 2 rfl) ?_
            refine lv_if_ne (tgt := 99) hx hb dX7_renew_92 (by decide) (fun _ => ?_) (fun c9 => absurd c9 (by decide))
            refine lv_iload hx hb dX7_renew_99 (lv_at hl 1 rfl) ?_
            refine lv_if_ne (tgt := 108) hx hb dX7_renew_101 (by decide) (fun _ => ?_) (fun c9 => absurd c9 (by decide))
            refine lv_iload hx hb dX7_renew_108 (lv_at hl 0 rfl) ?_
            refine lv_if_ne (tgt := 117) hx hb dX7_renew_110 (by decide) (fun c9 => absurd c9 (by decide)) (fun _ => ?_)
            refine lv_iconst (v := 3) hx hb dX7_renew_113 (by decide) ?_
            refine lv_goto (tgt := 118) hx hb dX7_renew_114 (by decide) ?_
            refine sy_ki (sy_rV (o := 0) (As := [.int 3]) (rest := []) ⟨hx, hb, hml, hown, hts⟩ hE hP hS (nX7_refused l hfl Z nT nK cT cK ad g q 3) (cwV 1 hts (gu_V uk_5_104 uk_5_106 uk_0_17 uk_1_9 uk_5_107) rfl rfl rfl (by decide +kernel) ⟨Nat.le_of_ble_eq_true rfl, Nat.le_of_ble_eq_true rfl⟩) (sy_recv (kc := 8) hE hP rfl (by decide) rfl rfl rfl) rfl hl.1 rfl (Nat.le_of_ble_eq_true rfl) dX7_renew_118 ⟨Nat.le_of_ble_eq_true rfl, Nat.le_of_ble_eq_true rfl⟩) hS (fun r_e_21 g_e_21 q_e_21 H locs e_21 hP hS => ?_)
            cases e_21
            refine sy_top (y := 1) (by rfl) ?_
            refine lv_if_eq (tgt := 126) hx hb dX7_renew_121 (by decide) (fun c9 => absurd c9 (by decide)) (fun _ => ?_)
            refine lv_iconst (v := 0) hx hb dX7_renew_124 (by decide) ?_
            exact (sy_ireti hx hb hr hlocks hE hP hS dX7_renew_125 ⟨Nat.le_of_ble_eq_true rfl, Nat.le_of_ble_eq_true rfl⟩ (by unfold fX7_renew; rw [if_pos c_2, if_pos c_5, if_pos c_8, if_pos c_17, if_neg c_20] <;> rfl))
          · skip
            refine lv_aload_n hx hb dX7_renew_72 rfl (lv_at hl 2 rfl) ?_
            refine sy_getRX7 hx hb hts hown hE hP 0 rfl 32 (by decide) (hts _ (u_in uk_4_222)) (v := .ref (ad 33)) rfl dX7_renew_73 ?_
            refine lv_iload_n hx hb dX7_renew_76 rfl (lv_at hl 3 rfl) ?_
            refine sy_ialdN hx hb hE hP 33 rfl (show vp_in x0 40 from (im_ticket hI c_2)) x0.toNatClampNeg rfl (v := g 33 x0.toNatClampNeg) rfl dX7_renew_77 ?_
            refine lv_iload_n hx hb dX7_renew_78 rfl (lv_at hl 4 rfl) ?_
            refine lv_icmp_ne (tgt := 86) hx hb dX7_renew_79 (by decide) (fun c_22 => ?_) (fun c_22 => ?_)
            · skip
              refine lv_iconst (v := 0) hx hb dX7_renew_86 (by decide) ?_
              refine lv_istore (lv' := [(6, .int 0), (5, .int 1), (4, .int 1), (0, .ref (ad 0)), (1, .int x0), (2, .int x1), (3, .int x2)]) hx hb dX7_renew_87 hl (by decide) rfl (fun ls hl => ?_)
              refine lv_aload_n hx hb dX7_renew_89 rfl (lv_at hl 3 rfl) ?_
              refine lv_iload hx hb dX7_renew_90 (lv_at hl 2 rfl) ?_
              refine lv_if_ne (tgt := 99) hx hb dX7_renew_92 (by decide) (fun _ => ?_) (fun c9 => absurd c9 (by decide))
              refine lv_iload hx hb dX7_renew_99 (lv_at hl 1 rfl) ?_
              refine lv_if_ne (tgt := 108) hx hb dX7_renew_101 (by decide) (fun _ => ?_) (fun c9 => absurd c9 (by decide))
              refine lv_iload hx hb dX7_renew_108 (lv_at hl 0 rfl) ?_
              refine lv_if_ne (tgt := 117) hx hb dX7_renew_110 (by decide) (fun c9 => absurd c9 (by decide)) (fun _ => ?_)
              refine lv_iconst (v := 3) hx hb dX7_renew_113 (by decide) ?_
              refine lv_goto (tgt := 118) hx hb dX7_renew_114 (by decide) ?_
              refine sy_ki (sy_rV (o := 0) (As := [.int 3]) (rest := []) ⟨hx, hb, hml, hown, hts⟩ hE hP hS (nX7_refused l hfl Z nT nK cT cK ad g q 3) (cwV 1 hts (gu_V uk_5_104 uk_5_106 uk_0_17 uk_1_9 uk_5_107) rfl rfl rfl (by decide +kernel) ⟨Nat.le_of_ble_eq_true rfl, Nat.le_of_ble_eq_true rfl⟩) (sy_recv (kc := 8) hE hP rfl (by decide) rfl rfl rfl) rfl hl.1 rfl (Nat.le_of_ble_eq_true rfl) dX7_renew_118 ⟨Nat.le_of_ble_eq_true rfl, Nat.le_of_ble_eq_true rfl⟩) hS (fun r_e_23 g_e_23 q_e_23 H locs e_23 hP hS => ?_)
              cases e_23
              refine sy_top (y := 1) (by rfl) ?_
              refine lv_if_eq (tgt := 126) hx hb dX7_renew_121 (by decide) (fun c9 => absurd c9 (by decide)) (fun _ => ?_)
              refine lv_iconst (v := 0) hx hb dX7_renew_124 (by decide) ?_
              exact (sy_ireti hx hb hr hlocks hE hP hS dX7_renew_125 ⟨Nat.le_of_ble_eq_true rfl, Nat.le_of_ble_eq_true rfl⟩ (by unfold fX7_renew; rw [if_pos c_2, if_pos c_5, if_pos c_8, if_pos c_17, if_pos c_20, if_neg c_22] <;> rfl))
            · skip
              refine lv_iconst (v := 1) hx hb dX7_renew_82 (by decide) ?_
              refine lv_goto (tgt := 87) hx hb dX7_renew_83 (by decide) ?_
              refine lv_istore (lv' := [(6, .int 1), (5, .int 1), (4, .int 1), (0, .ref (ad 0)), (1, .int x0), (2, .int x1), (3, .int x2)]) hx hb dX7_renew_87 hl (by decide) rfl (fun ls hl => ?_)
              refine lv_aload_n hx hb dX7_renew_89 rfl (lv_at hl 3 rfl) ?_
              refine lv_iload hx hb dX7_renew_90 (lv_at hl 2 rfl) ?_
              refine lv_if_ne (tgt := 99) hx hb dX7_renew_92 (by decide) (fun _ => ?_) (fun c9 => absurd c9 (by decide))
              refine lv_iload hx hb dX7_renew_99 (lv_at hl 1 rfl) ?_
              refine lv_if_ne (tgt := 108) hx hb dX7_renew_101 (by decide) (fun _ => ?_) (fun c9 => absurd c9 (by decide))
              refine lv_iload hx hb dX7_renew_108 (lv_at hl 0 rfl) ?_
              refine lv_if_ne (tgt := 117) hx hb dX7_renew_110 (by decide) (fun _ => ?_) (fun c9 => absurd c9 (by decide))
              refine lv_iconst (v := 0) hx hb dX7_renew_117 (by decide) ?_
              refine sy_ki (sy_rV (o := 0) (As := [.int 0]) (rest := []) ⟨hx, hb, hml, hown, hts⟩ hE hP hS (nX7_refused l hfl Z nT nK cT cK ad g q 0) (cwV 1 hts (gu_V uk_5_104 uk_5_106 uk_0_17 uk_1_9 uk_5_107) rfl rfl rfl (by decide +kernel) ⟨Nat.le_of_ble_eq_true rfl, Nat.le_of_ble_eq_true rfl⟩) (sy_recv (kc := 8) hE hP rfl (by decide) rfl rfl rfl) rfl hl.1 rfl (Nat.le_of_ble_eq_true rfl) dX7_renew_118 ⟨Nat.le_of_ble_eq_true rfl, Nat.le_of_ble_eq_true rfl⟩) hS (fun r_e_24 g_e_24 q_e_24 H locs e_24 hP hS => ?_)
              cases e_24
              refine sy_top (y := 0) (by rfl) ?_
              refine lv_if_eq (tgt := 126) hx hb dX7_renew_121 (by decide) (fun _ => ?_) (fun c9 => absurd c9 (by decide))
              refine lv_aload_n hx hb dX7_renew_126 rfl (lv_at hl 3 rfl) ?_
              refine lv_iload_n hx hb dX7_renew_127 rfl (lv_at hl 4 rfl) ?_
              refine sy_ki (sy_rV (o := 0) (As := [.int x0]) (rest := []) ⟨hx, hb, hml, hown, hts⟩ hE hP hS (mX7_interest l hfl Z nT nK cT cK ad (sy_up g 0 0 0) q x0 (im_0 (by decide) hI) (show vp_in x0 40 from (im_ticket hI c_2))) (cwV 1 hts (gu_V uk_5_184 uk_5_186 uk_0_27 uk_1_9 uk_5_187) rfl rfl rfl (by decide +kernel) ⟨Nat.le_of_ble_eq_true rfl, Nat.le_of_ble_eq_true rfl⟩) (sy_recv (kc := 8) hE hP rfl (by decide) rfl rfl rfl) rfl hl.1 rfl (Nat.le_of_ble_eq_true rfl) dX7_renew_128 ⟨Nat.le_of_ble_eq_true rfl, Nat.le_of_ble_eq_true rfl⟩) hS (fun r_e_25 g_e_25 q_e_25 H locs e_25 hP hS => ?_)
              cases e_25
              refine lv_iload_n hx hb dX7_renew_131 rfl (lv_at hl 6 rfl) ?_
              refine lv_iadd hx hb dX7_renew_132 ?_
              exact K_1 c_2 c_5 c_8 c_17 c_20 c_22 _ _ _ hP hS hl
def fX7_give (g : sG) (q : sQ) (x0 x1 : Int32) : Int32 × sG := (if 0 ≤ x0 ∧ x0 ≤ (g 0 28) - 1 then (if 0 ≤ x1 ∧ x1 ≤ 9 then (if (g 34 x0.toNatClampNeg) = 0 then (if (g 39 x0.toNatClampNeg) = 0 then ((g 33 x0.toNatClampNeg), (sy_up (sy_up g 0 0 0) 33 x0.toNatClampNeg x1)) else (if (g 39 x0.toNatClampNeg) = 2 then ((g 33 x0.toNatClampNeg), (sy_up (sy_up g 0 0 0) 33 x0.toNatClampNeg x1)) else (0, (sy_up g 0 0 2)))) else (0, (sy_up g 0 0 2))) else (0, (sy_up g 0 0 1))) else (0, (sy_up g 0 0 1)))
set_option maxHeartbeats 4000000 in
set_option maxRecDepth 100000 in
theorem mX7_give (l : Launch) (hfl : l.stackTraces = false) (Z : sZ) (nT nK cT cK : Nat) (ad : Nat → Nat) (g : sG) (q : sQ) (x0 x1 : Int32) {mT mK : Nat} (hI : IM mT mK g) : sMi l Z yX7_give (uW (.code yX7_give cX7_give 6 (some .int))) { frames := 2, cells := 0, slots := 0, locals := 43 } [.ref (ad 0), .int x0, .int x1] nT nK cT cK ad g q (fun r g1 q1 => (r, g1, q1) = ((fX7_give g q x0 x1).1, (fX7_give g q x0 x1).2, q)) := by
  refine Met.ofW (cc := cX7_give) (maxL := 6) (ret := (some .int)) (by decide) rfl ?_
  intro p e s m args below meth c s₁ B hml hv
  obtain ⟨rfl, hE, hP⟩ := hv
  have hx := B.exec
  have hb := B.bytes
  have hr := B.returns
  have hts := atoms_spec (ws := uW (.code yX7_give cX7_give 6 (some .int))) B.pre
  have hown : s.vm.findClass RX7 = some m.cls := findClass_of_methodNamed B.named
  have hlocks := B.notSynchronized
  have hS : va_S (sy_A Z) s.heap s.heap [] := va_S.rf
  have hl := lv_entry ([.ref (ad 0), .int x0, .int x1]) (n := 6) (Nat.le_of_ble_eq_true rfl)
  rw [lg_entry_eq]
  generalize (lg_sl ([.ref (ad 0), .int x0, .int x1]) ++ List.replicate (6 - (lg_sl ([.ref (ad 0), .int x0, .int x1])).length) Slot.unset).toArray = ls at hl ⊢
  have hl : lv_has ls 6 [(0, .ref (ad 0)), (1, .int x0), (2, .int x1)] := hl
  refine lv_aload_n hx hb dX7_give_0 rfl (lv_at hl 0 rfl) ?_
  refine lv_iload_n hx hb dX7_give_1 rfl (lv_at hl 1 rfl) ?_
  refine sy_ki (sy_rV (o := 0) (As := [.int x0]) (rest := []) ⟨hx, hb, hml, hown, hts⟩ hE hP hS (mX7_isTicket l hfl Z nT nK cT cK ad g q x0) (cwV 1 hts (gu_V uk_5_172 uk_5_174 uk_0_24 uk_1_9 uk_5_175) rfl rfl rfl (by decide +kernel) ⟨Nat.le_of_ble_eq_true rfl, Nat.le_of_ble_eq_true rfl⟩) (sy_recv (kc := 8) hE hP rfl (by decide) rfl rfl rfl) rfl hl.1 rfl (Nat.le_of_ble_eq_true rfl) dX7_give_2 ⟨Nat.le_of_ble_eq_true rfl, Nat.le_of_ble_eq_true rfl⟩) hS (fun r_e_1 g_e_1 q_e_1 H locs e_1 hP hS => ?_)
  cases e_1
  refine sy_top (y := (iB (0 ≤ x0 ∧ x0 ≤ (g 0 28) - 1))) (by rfl) ?_
  refine lv_if_eq (tgt := 19) hx hb dX7_give_5 (by decide) (fun c_2 => ?_) (fun c_2 => ?_)
  · have c_2 := iB_0.mp c_2
    refine lv_iconst (v := 0) hx hb dX7_give_19 (by decide) ?_
    refine lv_istore_n (lv' := [(3, .int 0), (0, .ref (ad 0)), (1, .int x0), (2, .int x1)]) hx hb dX7_give_20 rfl hl (by decide) rfl (fun ls hl => ?_)
    refine lv_iload_n hx hb dX7_give_21 rfl (lv_at hl 0 rfl) ?_
    refine lv_if_eq (tgt := 57) hx hb dX7_give_22 (by decide) (fun _ => ?_) (fun c9 => absurd c9 (by decide))
    refine lv_iconst (v := 0) hx hb dX7_give_57 (by decide) ?_
    refine lv_istore (lv' := [(4, .int 0), (3, .int 0), (0, .ref (ad 0)), (1, .int x0), (2, .int x1)]) hx hb dX7_give_58 hl (by decide) rfl (fun ls hl => ?_)
    refine lv_aload_n hx hb dX7_give_60 rfl (lv_at hl 2 rfl) ?_
    refine lv_iload_n hx hb dX7_give_61 rfl (lv_at hl 1 rfl) ?_
    refine lv_if_ne (tgt := 69) hx hb dX7_give_62 (by decide) (fun c9 => absurd c9 (by decide)) (fun _ => ?_)
    refine lv_iconst (v := 1) hx hb dX7_give_65 (by decide) ?_
    refine lv_goto (tgt := 79) hx hb dX7_give_66 (by decide) ?_
    refine sy_ki (sy_rV (o := 0) (As := [.int 1]) (rest := []) ⟨hx, hb, hml, hown, hts⟩ hE hP hS (nX7_refused l hfl Z nT nK cT cK ad g q 1) (cwV 1 hts (gu_V uk_5_104 uk_5_106 uk_0_17 uk_1_9 uk_5_107) rfl rfl rfl (by decide +kernel) ⟨Nat.le_of_ble_eq_true rfl, Nat.le_of_ble_eq_true rfl⟩) (sy_recv (kc := 8) hE hP rfl (by decide) rfl rfl rfl) rfl hl.1 rfl (Nat.le_of_ble_eq_true rfl) dX7_give_79 ⟨Nat.le_of_ble_eq_true rfl, Nat.le_of_ble_eq_true rfl⟩) hS (fun r_e_3 g_e_3 q_e_3 H locs e_3 hP hS => ?_)
    cases e_3
    refine sy_top (y := 1) (by rfl) ?_
    refine lv_if_eq (tgt := 87) hx hb dX7_give_82 (by decide) (fun c9 => absurd c9 (by decide)) (fun _ => ?_)
    refine lv_iconst (v := 0) hx hb dX7_give_85 (by decide) ?_
    exact (sy_ireti hx hb hr hlocks hE hP hS dX7_give_86 ⟨Nat.le_of_ble_eq_true rfl, Nat.le_of_ble_eq_true rfl⟩ (by unfold fX7_give; rw [if_neg c_2] <;> rfl))
  · have c_2 := iB_n.mp c_2
    refine lv_iload_n hx hb dX7_give_8 rfl (lv_at hl 2 rfl) ?_
    refine sy_ki (sy_rS (As := [.int x1]) (rest := []) ⟨hx, hb, hml, hown, hts⟩ hE hP hS (mX7_isPerson l hfl Z nT nK cT cK ad g q x1) (va_cwS 1 hts (gu_S uk_5_120 uk_5_121 uk_1_9 uk_5_122) rfl rfl rfl (by decide +kernel) ⟨Nat.le_of_ble_eq_true rfl, Nat.le_of_ble_eq_true rfl⟩) rfl hl.1 rfl (Nat.le_of_ble_eq_true rfl) dX7_give_9 ⟨Nat.le_of_ble_eq_true rfl, Nat.le_of_ble_eq_true rfl⟩) hS (fun r_e_4 g_e_4 q_e_4 H locs e_4 hP hS => ?_)
    cases e_4
    refine sy_top (y := (iB (0 ≤ x1 ∧ x1 ≤ 9))) (by rfl) ?_
    refine lv_if_eq (tgt := 19) hx hb dX7_give_12 (by decide) (fun c_5 => ?_) (fun c_5 => ?_)
    · have c_5 := iB_0.mp c_5
      refine lv_iconst (v := 0) hx hb dX7_give_19 (by decide) ?_
      refine lv_istore_n (lv' := [(3, .int 0), (0, .ref (ad 0)), (1, .int x0), (2, .int x1)]) hx hb dX7_give_20 rfl hl (by decide) rfl (fun ls hl => ?_)
      refine lv_iload_n hx hb dX7_give_21 rfl (lv_at hl 0 rfl) ?_
      refine lv_if_eq (tgt := 57) hx hb dX7_give_22 (by decide) (fun _ => ?_) (fun c9 => absurd c9 (by decide))
      refine lv_iconst (v := 0) hx hb dX7_give_57 (by decide) ?_
      refine lv_istore (lv' := [(4, .int 0), (3, .int 0), (0, .ref (ad 0)), (1, .int x0), (2, .int x1)]) hx hb dX7_give_58 hl (by decide) rfl (fun ls hl => ?_)
      refine lv_aload_n hx hb dX7_give_60 rfl (lv_at hl 2 rfl) ?_
      refine lv_iload_n hx hb dX7_give_61 rfl (lv_at hl 1 rfl) ?_
      refine lv_if_ne (tgt := 69) hx hb dX7_give_62 (by decide) (fun c9 => absurd c9 (by decide)) (fun _ => ?_)
      refine lv_iconst (v := 1) hx hb dX7_give_65 (by decide) ?_
      refine lv_goto (tgt := 79) hx hb dX7_give_66 (by decide) ?_
      refine sy_ki (sy_rV (o := 0) (As := [.int 1]) (rest := []) ⟨hx, hb, hml, hown, hts⟩ hE hP hS (nX7_refused l hfl Z nT nK cT cK ad g q 1) (cwV 1 hts (gu_V uk_5_104 uk_5_106 uk_0_17 uk_1_9 uk_5_107) rfl rfl rfl (by decide +kernel) ⟨Nat.le_of_ble_eq_true rfl, Nat.le_of_ble_eq_true rfl⟩) (sy_recv (kc := 8) hE hP rfl (by decide) rfl rfl rfl) rfl hl.1 rfl (Nat.le_of_ble_eq_true rfl) dX7_give_79 ⟨Nat.le_of_ble_eq_true rfl, Nat.le_of_ble_eq_true rfl⟩) hS (fun r_e_6 g_e_6 q_e_6 H locs e_6 hP hS => ?_)
      cases e_6
      refine sy_top (y := 1) (by rfl) ?_
      refine lv_if_eq (tgt := 87) hx hb dX7_give_82 (by decide) (fun c9 => absurd c9 (by decide)) (fun _ => ?_)
      refine lv_iconst (v := 0) hx hb dX7_give_85 (by decide) ?_
      exact (sy_ireti hx hb hr hlocks hE hP hS dX7_give_86 ⟨Nat.le_of_ble_eq_true rfl, Nat.le_of_ble_eq_true rfl⟩ (by unfold fX7_give; rw [if_pos c_2, if_neg c_5] <;> rfl))
    · have c_5 := iB_n.mp c_5
      refine lv_iconst (v := 1) hx hb dX7_give_15 (by decide) ?_
      refine lv_goto (tgt := 20) hx hb dX7_give_16 (by decide) ?_
      refine lv_istore_n (lv' := [(3, .int 1), (0, .ref (ad 0)), (1, .int x0), (2, .int x1)]) hx hb dX7_give_20 rfl hl (by decide) rfl (fun ls hl => ?_)
      refine lv_iload_n hx hb dX7_give_21 rfl (lv_at hl 0 rfl) ?_
      refine lv_if_eq (tgt := 57) hx hb dX7_give_22 (by decide) (fun c9 => absurd c9 (by decide)) (fun _ => ?_)
      refine lv_aload_n hx hb dX7_give_25 rfl (lv_at hl 1 rfl) ?_
      refine sy_getRX7 hx hb hts hown hE hP 0 rfl 33 (by decide) (hts _ (u_in uk_4_223)) (v := .ref (ad 34)) rfl dX7_give_26 ?_
      refine lv_iload_n hx hb dX7_give_29 rfl (lv_at hl 2 rfl) ?_
      refine sy_zaldN hx hb hE hP 34 rfl (show vp_in x0 40 from (im_ticket hI c_2)) x0.toNatClampNeg rfl (v := g 34 x0.toNatClampNeg) rfl dX7_give_30 ?_
      refine lv_if_ne (tgt := 57) hx hb dX7_give_31 (by decide) (fun c_7 => ?_) (fun c_7 => ?_)
      · skip
        refine lv_iconst (v := 0) hx hb dX7_give_57 (by decide) ?_
        refine lv_istore (lv' := [(4, .int 0), (3, .int 1), (0, .ref (ad 0)), (1, .int x0), (2, .int x1)]) hx hb dX7_give_58 hl (by decide) rfl (fun ls hl => ?_)
        refine lv_aload_n hx hb dX7_give_60 rfl (lv_at hl 2 rfl) ?_
        refine lv_iload_n hx hb dX7_give_61 rfl (lv_at hl 1 rfl) ?_
        refine lv_if_ne (tgt := 69) hx hb dX7_give_62 (by decide) (fun _ => ?_) (fun c9 => absurd c9 (by decide))
        refine lv_iload hx hb dX7_give_69 (lv_at hl 0 rfl) ?_
        refine lv_if_ne (tgt := 78) hx hb dX7_give_71 (by decide) (fun c9 => absurd c9 (by decide)) (fun _ => ?_)
        refine lv_iconst (v := 2) hx hb dX7_give_74 (by decide) ?_
        refine lv_goto (tgt := 79) hx hb dX7_give_75 (by decide) ?_
        refine sy_ki (sy_rV (o := 0) (As := [.int 2]) (rest := []) ⟨hx, hb, hml, hown, hts⟩ hE hP hS (nX7_refused l hfl Z nT nK cT cK ad g q 2) (cwV 1 hts (gu_V uk_5_104 uk_5_106 uk_0_17 uk_1_9 uk_5_107) rfl rfl rfl (by decide +kernel) ⟨Nat.le_of_ble_eq_true rfl, Nat.le_of_ble_eq_true rfl⟩) (sy_recv (kc := 8) hE hP rfl (by decide) rfl rfl rfl) rfl hl.1 rfl (Nat.le_of_ble_eq_true rfl) dX7_give_79 ⟨Nat.le_of_ble_eq_true rfl, Nat.le_of_ble_eq_true rfl⟩) hS (fun r_e_8 g_e_8 q_e_8 H locs e_8 hP hS => ?_)
        cases e_8
        refine sy_top (y := 1) (by rfl) ?_
        refine lv_if_eq (tgt := 87) hx hb dX7_give_82 (by decide) (fun c9 => absurd c9 (by decide)) (fun _ => ?_)
        refine lv_iconst (v := 0) hx hb dX7_give_85 (by decide) ?_
        exact (sy_ireti hx hb hr hlocks hE hP hS dX7_give_86 ⟨Nat.le_of_ble_eq_true rfl, Nat.le_of_ble_eq_true rfl⟩ (by unfold fX7_give; rw [if_pos c_2, if_pos c_5, if_neg c_7] <;> rfl))
      · skip
        refine lv_aload_n hx hb dX7_give_34 rfl (lv_at hl 1 rfl) ?_
        refine sy_getRX7 hx hb hts hown hE hP 0 rfl 38 (by decide) (hts _ (u_in uk_4_228)) (v := .ref (ad 39)) rfl dX7_give_35 ?_
        refine lv_iload_n hx hb dX7_give_38 rfl (lv_at hl 2 rfl) ?_
        refine sy_ialdN hx hb hE hP 39 rfl (show vp_in x0 40 from (im_ticket hI c_2)) x0.toNatClampNeg rfl (v := g 39 x0.toNatClampNeg) rfl dX7_give_39 ?_
        refine lv_if_eq (tgt := 53) hx hb dX7_give_40 (by decide) (fun c_9 => ?_) (fun c_9 => ?_)
        · skip
          refine lv_iconst (v := 1) hx hb dX7_give_53 (by decide) ?_
          refine lv_goto (tgt := 58) hx hb dX7_give_54 (by decide) ?_
          refine lv_istore (lv' := [(4, .int 1), (3, .int 1), (0, .ref (ad 0)), (1, .int x0), (2, .int x1)]) hx hb dX7_give_58 hl (by decide) rfl (fun ls hl => ?_)
          refine lv_aload_n hx hb dX7_give_60 rfl (lv_at hl 2 rfl) ?_
          refine lv_iload_n hx hb dX7_give_61 rfl (lv_at hl 1 rfl) ?_
          refine lv_if_ne (tgt := 69) hx hb dX7_give_62 (by decide) (fun _ => ?_) (fun c9 => absurd c9 (by decide))
          refine lv_iload hx hb dX7_give_69 (lv_at hl 0 rfl) ?_
          refine lv_if_ne (tgt := 78) hx hb dX7_give_71 (by decide) (fun _ => ?_) (fun c9 => absurd c9 (by decide))
          refine lv_iconst (v := 0) hx hb dX7_give_78 (by decide) ?_
          refine sy_ki (sy_rV (o := 0) (As := [.int 0]) (rest := []) ⟨hx, hb, hml, hown, hts⟩ hE hP hS (nX7_refused l hfl Z nT nK cT cK ad g q 0) (cwV 1 hts (gu_V uk_5_104 uk_5_106 uk_0_17 uk_1_9 uk_5_107) rfl rfl rfl (by decide +kernel) ⟨Nat.le_of_ble_eq_true rfl, Nat.le_of_ble_eq_true rfl⟩) (sy_recv (kc := 8) hE hP rfl (by decide) rfl rfl rfl) rfl hl.1 rfl (Nat.le_of_ble_eq_true rfl) dX7_give_79 ⟨Nat.le_of_ble_eq_true rfl, Nat.le_of_ble_eq_true rfl⟩) hS (fun r_e_10 g_e_10 q_e_10 H locs e_10 hP hS => ?_)
          cases e_10
          refine sy_top (y := 0) (by rfl) ?_
          refine lv_if_eq (tgt := 87) hx hb dX7_give_82 (by decide) (fun _ => ?_) (fun c9 => absurd c9 (by decide))
          refine lv_aload_n hx hb dX7_give_87 rfl (lv_at hl 2 rfl) ?_
          refine sy_getRX7 hx hb hts hown hE hP 0 rfl 32 (by decide) (hts _ (u_in uk_4_222)) (v := .ref (ad 33)) rfl dX7_give_88 ?_
          refine lv_iload_n hx hb dX7_give_91 rfl (lv_at hl 3 rfl) ?_
          refine sy_ialdN hx hb hE hP 33 rfl (show vp_in x0 40 from (im_ticket hI c_2)) x0.toNatClampNeg rfl (v := g 33 x0.toNatClampNeg) rfl dX7_give_92 ?_
          refine lv_istore (lv' := [(5, .int (g 33 x0.toNatClampNeg)), (4, .int 1), (3, .int 1), (0, .ref (ad 0)), (1, .int x0), (2, .int x1)]) hx hb dX7_give_93 hl (by decide) rfl (fun ls hl => ?_)
          refine lv_aload_n hx hb dX7_give_95 rfl (lv_at hl 3 rfl) ?_
          refine sy_getRX7 hx hb hts hown hE hP 0 rfl 32 (by decide) (hts _ (u_in uk_4_222)) (v := .ref (ad 33)) rfl dX7_give_96 ?_
          refine lv_iload_n hx hb dX7_give_99 rfl (lv_at hl 4 rfl) ?_
          refine lv_iload_n hx hb dX7_give_100 rfl (lv_at hl 5 rfl) ?_
          refine sy_iastN hx hb hE hP hS 33 rfl (show vp_in x0 40 from (im_ticket hI c_2)) x0.toNatClampNeg rfl dX7_give_101 (fun H locs hP hS => ?_)
          refine lv_iload hx hb dX7_give_102 (lv_at hl 0 rfl) ?_
          exact (sy_ireti hx hb hr hlocks hE hP hS dX7_give_104 ⟨Nat.le_of_ble_eq_true rfl, Nat.le_of_ble_eq_true rfl⟩ (by unfold fX7_give; rw [if_pos c_2, if_pos c_5, if_pos c_7, if_pos c_9] <;> rfl))
        · skip
          refine lv_aload_n hx hb dX7_give_43 rfl (lv_at hl 1 rfl) ?_
          refine sy_getRX7 hx hb hts hown hE hP 0 rfl 38 (by decide) (hts _ (u_in uk_4_228)) (v := .ref (ad 39)) rfl dX7_give_44 ?_
          refine lv_iload_n hx hb dX7_give_47 rfl (lv_at hl 2 rfl) ?_
          refine sy_ialdN hx hb hE hP 39 rfl (show vp_in x0 40 from (im_ticket hI c_2)) x0.toNatClampNeg rfl (v := g 39 x0.toNatClampNeg) rfl dX7_give_48 ?_
          refine lv_iconst (v := 2) hx hb dX7_give_49 (by decide) ?_
          refine lv_icmp_ne (tgt := 57) hx hb dX7_give_50 (by decide) (fun c_11 => ?_) (fun c_11 => ?_)
          · skip
            refine lv_iconst (v := 0) hx hb dX7_give_57 (by decide) ?_
            refine lv_istore (lv' := [(4, .int 0), (3, .int 1), (0, .ref (ad 0)), (1, .int x0), (2, .int x1)]) hx hb dX7_give_58 hl (by decide) rfl (fun ls hl => ?_)
            refine lv_aload_n hx hb dX7_give_60 rfl (lv_at hl 2 rfl) ?_
            refine lv_iload_n hx hb dX7_give_61 rfl (lv_at hl 1 rfl) ?_
            refine lv_if_ne (tgt := 69) hx hb dX7_give_62 (by decide) (fun _ => ?_) (fun c9 => absurd c9 (by decide))
            refine lv_iload hx hb dX7_give_69 (lv_at hl 0 rfl) ?_
            refine lv_if_ne (tgt := 78) hx hb dX7_give_71 (by decide) (fun c9 => absurd c9 (by decide)) (fun _ => ?_)
            refine lv_iconst (v := 2) hx hb dX7_give_74 (by decide) ?_
            refine lv_goto (tgt := 79) hx hb dX7_give_75 (by decide) ?_
            refine sy_ki (sy_rV (o := 0) (As := [.int 2]) (rest := []) ⟨hx, hb, hml, hown, hts⟩ hE hP hS (nX7_refused l hfl Z nT nK cT cK ad g q 2) (cwV 1 hts (gu_V uk_5_104 uk_5_106 uk_0_17 uk_1_9 uk_5_107) rfl rfl rfl (by decide +kernel) ⟨Nat.le_of_ble_eq_true rfl, Nat.le_of_ble_eq_true rfl⟩) (sy_recv (kc := 8) hE hP rfl (by decide) rfl rfl rfl) rfl hl.1 rfl (Nat.le_of_ble_eq_true rfl) dX7_give_79 ⟨Nat.le_of_ble_eq_true rfl, Nat.le_of_ble_eq_true rfl⟩) hS (fun r_e_12 g_e_12 q_e_12 H locs e_12 hP hS => ?_)
            cases e_12
            refine sy_top (y := 1) (by rfl) ?_
            refine lv_if_eq (tgt := 87) hx hb dX7_give_82 (by decide) (fun c9 => absurd c9 (by decide)) (fun _ => ?_)
            refine lv_iconst (v := 0) hx hb dX7_give_85 (by decide) ?_
            exact (sy_ireti hx hb hr hlocks hE hP hS dX7_give_86 ⟨Nat.le_of_ble_eq_true rfl, Nat.le_of_ble_eq_true rfl⟩ (by unfold fX7_give; rw [if_pos c_2, if_pos c_5, if_pos c_7, if_neg c_9, if_neg c_11] <;> rfl))
          · skip
            refine lv_iconst (v := 1) hx hb dX7_give_53 (by decide) ?_
            refine lv_goto (tgt := 58) hx hb dX7_give_54 (by decide) ?_
            refine lv_istore (lv' := [(4, .int 1), (3, .int 1), (0, .ref (ad 0)), (1, .int x0), (2, .int x1)]) hx hb dX7_give_58 hl (by decide) rfl (fun ls hl => ?_)
            refine lv_aload_n hx hb dX7_give_60 rfl (lv_at hl 2 rfl) ?_
            refine lv_iload_n hx hb dX7_give_61 rfl (lv_at hl 1 rfl) ?_
            refine lv_if_ne (tgt := 69) hx hb dX7_give_62 (by decide) (fun _ => ?_) (fun c9 => absurd c9 (by decide))
            refine lv_iload hx hb dX7_give_69 (lv_at hl 0 rfl) ?_
            refine lv_if_ne (tgt := 78) hx hb dX7_give_71 (by decide) (fun _ => ?_) (fun c9 => absurd c9 (by decide))
            refine lv_iconst (v := 0) hx hb dX7_give_78 (by decide) ?_
            refine sy_ki (sy_rV (o := 0) (As := [.int 0]) (rest := []) ⟨hx, hb, hml, hown, hts⟩ hE hP hS (nX7_refused l hfl Z nT nK cT cK ad g q 0) (cwV 1 hts (gu_V uk_5_104 uk_5_106 uk_0_17 uk_1_9 uk_5_107) rfl rfl rfl (by decide +kernel) ⟨Nat.le_of_ble_eq_true rfl, Nat.le_of_ble_eq_true rfl⟩) (sy_recv (kc := 8) hE hP rfl (by decide) rfl rfl rfl) rfl hl.1 rfl (Nat.le_of_ble_eq_true rfl) dX7_give_79 ⟨Nat.le_of_ble_eq_true rfl, Nat.le_of_ble_eq_true rfl⟩) hS (fun r_e_13 g_e_13 q_e_13 H locs e_13 hP hS => ?_)
            cases e_13
            refine sy_top (y := 0) (by rfl) ?_
            refine lv_if_eq (tgt := 87) hx hb dX7_give_82 (by decide) (fun _ => ?_) (fun c9 => absurd c9 (by decide))
            refine lv_aload_n hx hb dX7_give_87 rfl (lv_at hl 2 rfl) ?_
            refine sy_getRX7 hx hb hts hown hE hP 0 rfl 32 (by decide) (hts _ (u_in uk_4_222)) (v := .ref (ad 33)) rfl dX7_give_88 ?_
            refine lv_iload_n hx hb dX7_give_91 rfl (lv_at hl 3 rfl) ?_
            refine sy_ialdN hx hb hE hP 33 rfl (show vp_in x0 40 from (im_ticket hI c_2)) x0.toNatClampNeg rfl (v := g 33 x0.toNatClampNeg) rfl dX7_give_92 ?_
            refine lv_istore (lv' := [(5, .int (g 33 x0.toNatClampNeg)), (4, .int 1), (3, .int 1), (0, .ref (ad 0)), (1, .int x0), (2, .int x1)]) hx hb dX7_give_93 hl (by decide) rfl (fun ls hl => ?_)
            refine lv_aload_n hx hb dX7_give_95 rfl (lv_at hl 3 rfl) ?_
            refine sy_getRX7 hx hb hts hown hE hP 0 rfl 32 (by decide) (hts _ (u_in uk_4_222)) (v := .ref (ad 33)) rfl dX7_give_96 ?_
            refine lv_iload_n hx hb dX7_give_99 rfl (lv_at hl 4 rfl) ?_
            refine lv_iload_n hx hb dX7_give_100 rfl (lv_at hl 5 rfl) ?_
            refine sy_iastN hx hb hE hP hS 33 rfl (show vp_in x0 40 from (im_ticket hI c_2)) x0.toNatClampNeg rfl dX7_give_101 (fun H locs hP hS => ?_)
            refine lv_iload hx hb dX7_give_102 (lv_at hl 0 rfl) ?_
            exact (sy_ireti hx hb hr hlocks hE hP hS dX7_give_104 ⟨Nat.le_of_ble_eq_true rfl, Nat.le_of_ble_eq_true rfl⟩ (by unfold fX7_give; rw [if_pos c_2, if_pos c_5, if_pos c_7, if_neg c_9, if_pos c_11] <;> rfl))
def fX7_notice (g : sG) (q : sQ) (x0 x1 : Int32) : sG := (if 0 ≤ x0 ∧ x0 ≤ (g 0 28) - 1 then (if 0 ≤ x1 ∧ x1 ≤ 9 then (if (g 39 x0.toNatClampNeg) = 0 then (if (g 41 x0.toNatClampNeg) = (-1) then (sy_up (sy_up (sy_up g 0 0 0) 41 x0.toNatClampNeg (g 0 1)) 42 x0.toNatClampNeg x1) else (sy_up g 0 0 2)) else (if (g 39 x0.toNatClampNeg) = 2 then (if (g 41 x0.toNatClampNeg) = (-1) then (sy_up (sy_up (sy_up g 0 0 0) 41 x0.toNatClampNeg (g 0 1)) 42 x0.toNatClampNeg x1) else (sy_up g 0 0 2)) else (sy_up g 0 0 2))) else (sy_up g 0 0 1)) else (sy_up g 0 0 1))
set_option maxHeartbeats 4000000 in
set_option maxRecDepth 100000 in
theorem mX7_notice (l : Launch) (hfl : l.stackTraces = false) (Z : sZ) (nT nK cT cK : Nat) (ad : Nat → Nat) (g : sG) (q : sQ) (x0 x1 : Int32) {mT mK : Nat} (hI : IM mT mK g) : sMv l Z yX7_notice (uW (.code yX7_notice cX7_notice 5 none)) { frames := 2, cells := 0, slots := 0, locals := 43 } [.ref (ad 0), .int x0, .int x1] nT nK cT cK ad g q (fun g1 q1 => (g1, q1) = (fX7_notice g q x0 x1, q)) := by
  refine Met.ofW (cc := cX7_notice) (maxL := 5) (ret := none) (by decide) rfl ?_
  intro p e s m args below meth c s₁ B hml hv
  obtain ⟨rfl, hE, hP⟩ := hv
  have hx := B.exec
  have hb := B.bytes
  have hr := B.returns
  have hts := atoms_spec (ws := uW (.code yX7_notice cX7_notice 5 none)) B.pre
  have hown : s.vm.findClass RX7 = some m.cls := findClass_of_methodNamed B.named
  have hlocks := B.notSynchronized
  have hS : va_S (sy_A Z) s.heap s.heap [] := va_S.rf
  have hl := lv_entry ([.ref (ad 0), .int x0, .int x1]) (n := 5) (Nat.le_of_ble_eq_true rfl)
  rw [lg_entry_eq]
  generalize (lg_sl ([.ref (ad 0), .int x0, .int x1]) ++ List.replicate (5 - (lg_sl ([.ref (ad 0), .int x0, .int x1])).length) Slot.unset).toArray = ls at hl ⊢
  have hl : lv_has ls 5 [(0, .ref (ad 0)), (1, .int x0), (2, .int x1)] := hl
  refine lv_aload_n hx hb dX7_notice_0 rfl (lv_at hl 0 rfl) ?_
  refine lv_iload_n hx hb dX7_notice_1 rfl (lv_at hl 1 rfl) ?_
  refine sy_ki (sy_rV (o := 0) (As := [.int x0]) (rest := []) ⟨hx, hb, hml, hown, hts⟩ hE hP hS (mX7_isTicket l hfl Z nT nK cT cK ad g q x0) (cwV 1 hts (gu_V uk_5_172 uk_5_174 uk_0_24 uk_1_9 uk_5_175) rfl rfl rfl (by decide +kernel) ⟨Nat.le_of_ble_eq_true rfl, Nat.le_of_ble_eq_true rfl⟩) (sy_recv (kc := 8) hE hP rfl (by decide) rfl rfl rfl) rfl hl.1 rfl (Nat.le_of_ble_eq_true rfl) dX7_notice_2 ⟨Nat.le_of_ble_eq_true rfl, Nat.le_of_ble_eq_true rfl⟩) hS (fun r_e_1 g_e_1 q_e_1 H locs e_1 hP hS => ?_)
  cases e_1
  refine sy_top (y := (iB (0 ≤ x0 ∧ x0 ≤ (g 0 28) - 1))) (by rfl) ?_
  refine lv_if_eq (tgt := 19) hx hb dX7_notice_5 (by decide) (fun c_2 => ?_) (fun c_2 => ?_)
  · have c_2 := iB_0.mp c_2
    refine lv_iconst (v := 0) hx hb dX7_notice_19 (by decide) ?_
    refine lv_istore_n (lv' := [(3, .int 0), (0, .ref (ad 0)), (1, .int x0), (2, .int x1)]) hx hb dX7_notice_20 rfl hl (by decide) rfl (fun ls hl => ?_)
    refine lv_iload_n hx hb dX7_notice_21 rfl (lv_at hl 0 rfl) ?_
    refine lv_if_eq (tgt := 58) hx hb dX7_notice_22 (by decide) (fun _ => ?_) (fun c9 => absurd c9 (by decide))
    refine lv_iconst (v := 0) hx hb dX7_notice_58 (by decide) ?_
    refine lv_istore (lv' := [(4, .int 0), (3, .int 0), (0, .ref (ad 0)), (1, .int x0), (2, .int x1)]) hx hb dX7_notice_59 hl (by decide) rfl (fun ls hl => ?_)
    refine lv_aload_n hx hb dX7_notice_61 rfl (lv_at hl 2 rfl) ?_
    refine lv_iload_n hx hb dX7_notice_62 rfl (lv_at hl 1 rfl) ?_
    refine lv_if_ne (tgt := 70) hx hb dX7_notice_63 (by decide) (fun c9 => absurd c9 (by decide)) (fun _ => ?_)
    refine lv_iconst (v := 1) hx hb dX7_notice_66 (by decide) ?_
    refine lv_goto (tgt := 80) hx hb dX7_notice_67 (by decide) ?_
    refine sy_ki (sy_rV (o := 0) (As := [.int 1]) (rest := []) ⟨hx, hb, hml, hown, hts⟩ hE hP hS (nX7_refused l hfl Z nT nK cT cK ad g q 1) (cwV 1 hts (gu_V uk_5_104 uk_5_106 uk_0_17 uk_1_9 uk_5_107) rfl rfl rfl (by decide +kernel) ⟨Nat.le_of_ble_eq_true rfl, Nat.le_of_ble_eq_true rfl⟩) (sy_recv (kc := 8) hE hP rfl (by decide) rfl rfl rfl) rfl hl.1 rfl (Nat.le_of_ble_eq_true rfl) dX7_notice_80 ⟨Nat.le_of_ble_eq_true rfl, Nat.le_of_ble_eq_true rfl⟩) hS (fun r_e_3 g_e_3 q_e_3 H locs e_3 hP hS => ?_)
    cases e_3
    refine sy_top (y := 1) (by rfl) ?_
    refine lv_if_ne (tgt := 103) hx hb dX7_notice_83 (by decide) (fun _ => ?_) (fun c9 => absurd c9 (by decide))
    exact (sy_vret hx hb hr hlocks hE hP hS dX7_notice_103 ⟨Nat.le_of_ble_eq_true rfl, Nat.le_of_ble_eq_true rfl⟩ (by unfold fX7_notice; rw [if_neg c_2] <;> rfl))
  · have c_2 := iB_n.mp c_2
    refine lv_iload_n hx hb dX7_notice_8 rfl (lv_at hl 2 rfl) ?_
    refine sy_ki (sy_rS (As := [.int x1]) (rest := []) ⟨hx, hb, hml, hown, hts⟩ hE hP hS (mX7_isPerson l hfl Z nT nK cT cK ad g q x1) (va_cwS 1 hts (gu_S uk_5_120 uk_5_121 uk_1_9 uk_5_122) rfl rfl rfl (by decide +kernel) ⟨Nat.le_of_ble_eq_true rfl, Nat.le_of_ble_eq_true rfl⟩) rfl hl.1 rfl (Nat.le_of_ble_eq_true rfl) dX7_notice_9 ⟨Nat.le_of_ble_eq_true rfl, Nat.le_of_ble_eq_true rfl⟩) hS (fun r_e_4 g_e_4 q_e_4 H locs e_4 hP hS => ?_)
    cases e_4
    refine sy_top (y := (iB (0 ≤ x1 ∧ x1 ≤ 9))) (by rfl) ?_
    refine lv_if_eq (tgt := 19) hx hb dX7_notice_12 (by decide) (fun c_5 => ?_) (fun c_5 => ?_)
    · have c_5 := iB_0.mp c_5
      refine lv_iconst (v := 0) hx hb dX7_notice_19 (by decide) ?_
      refine lv_istore_n (lv' := [(3, .int 0), (0, .ref (ad 0)), (1, .int x0), (2, .int x1)]) hx hb dX7_notice_20 rfl hl (by decide) rfl (fun ls hl => ?_)
      refine lv_iload_n hx hb dX7_notice_21 rfl (lv_at hl 0 rfl) ?_
      refine lv_if_eq (tgt := 58) hx hb dX7_notice_22 (by decide) (fun _ => ?_) (fun c9 => absurd c9 (by decide))
      refine lv_iconst (v := 0) hx hb dX7_notice_58 (by decide) ?_
      refine lv_istore (lv' := [(4, .int 0), (3, .int 0), (0, .ref (ad 0)), (1, .int x0), (2, .int x1)]) hx hb dX7_notice_59 hl (by decide) rfl (fun ls hl => ?_)
      refine lv_aload_n hx hb dX7_notice_61 rfl (lv_at hl 2 rfl) ?_
      refine lv_iload_n hx hb dX7_notice_62 rfl (lv_at hl 1 rfl) ?_
      refine lv_if_ne (tgt := 70) hx hb dX7_notice_63 (by decide) (fun c9 => absurd c9 (by decide)) (fun _ => ?_)
      refine lv_iconst (v := 1) hx hb dX7_notice_66 (by decide) ?_
      refine lv_goto (tgt := 80) hx hb dX7_notice_67 (by decide) ?_
      refine sy_ki (sy_rV (o := 0) (As := [.int 1]) (rest := []) ⟨hx, hb, hml, hown, hts⟩ hE hP hS (nX7_refused l hfl Z nT nK cT cK ad g q 1) (cwV 1 hts (gu_V uk_5_104 uk_5_106 uk_0_17 uk_1_9 uk_5_107) rfl rfl rfl (by decide +kernel) ⟨Nat.le_of_ble_eq_true rfl, Nat.le_of_ble_eq_true rfl⟩) (sy_recv (kc := 8) hE hP rfl (by decide) rfl rfl rfl) rfl hl.1 rfl (Nat.le_of_ble_eq_true rfl) dX7_notice_80 ⟨Nat.le_of_ble_eq_true rfl, Nat.le_of_ble_eq_true rfl⟩) hS (fun r_e_6 g_e_6 q_e_6 H locs e_6 hP hS => ?_)
      cases e_6
      refine sy_top (y := 1) (by rfl) ?_
      refine lv_if_ne (tgt := 103) hx hb dX7_notice_83 (by decide) (fun _ => ?_) (fun c9 => absurd c9 (by decide))
      exact (sy_vret hx hb hr hlocks hE hP hS dX7_notice_103 ⟨Nat.le_of_ble_eq_true rfl, Nat.le_of_ble_eq_true rfl⟩ (by unfold fX7_notice; rw [if_pos c_2, if_neg c_5] <;> rfl))
    · have c_5 := iB_n.mp c_5
      refine lv_iconst (v := 1) hx hb dX7_notice_15 (by decide) ?_
      refine lv_goto (tgt := 20) hx hb dX7_notice_16 (by decide) ?_
      refine lv_istore_n (lv' := [(3, .int 1), (0, .ref (ad 0)), (1, .int x0), (2, .int x1)]) hx hb dX7_notice_20 rfl hl (by decide) rfl (fun ls hl => ?_)
      refine lv_iload_n hx hb dX7_notice_21 rfl (lv_at hl 0 rfl) ?_
      refine lv_if_eq (tgt := 58) hx hb dX7_notice_22 (by decide) (fun c9 => absurd c9 (by decide)) (fun _ => ?_)
      refine lv_aload_n hx hb dX7_notice_25 rfl (lv_at hl 1 rfl) ?_
      refine sy_getRX7 hx hb hts hown hE hP 0 rfl 38 (by decide) (hts _ (u_in uk_4_228)) (v := .ref (ad 39)) rfl dX7_notice_26 ?_
      refine lv_iload_n hx hb dX7_notice_29 rfl (lv_at hl 2 rfl) ?_
      refine sy_ialdN hx hb hE hP 39 rfl (show vp_in x0 40 from (im_ticket hI c_2)) x0.toNatClampNeg rfl (v := g 39 x0.toNatClampNeg) rfl dX7_notice_30 ?_
      refine lv_if_eq (tgt := 44) hx hb dX7_notice_31 (by decide) (fun c_7 => ?_) (fun c_7 => ?_)
      · skip
        refine lv_aload_n hx hb dX7_notice_44 rfl (lv_at hl 1 rfl) ?_
        refine sy_getRX7 hx hb hts hown hE hP 0 rfl 40 (by decide) (hts _ (u_in uk_4_230)) (v := .ref (ad 41)) rfl dX7_notice_45 ?_
        refine lv_iload_n hx hb dX7_notice_48 rfl (lv_at hl 2 rfl) ?_
        refine sy_ialdN hx hb hE hP 41 rfl (show vp_in x0 40 from (im_ticket hI c_2)) x0.toNatClampNeg rfl (v := g 41 x0.toNatClampNeg) rfl dX7_notice_49 ?_
        refine lv_iconst (v := (-1)) hx hb dX7_notice_50 (by decide) ?_
        refine lv_icmp_ne (tgt := 58) hx hb dX7_notice_51 (by decide) (fun c_8 => ?_) (fun c_8 => ?_)
        · skip
          refine lv_iconst (v := 0) hx hb dX7_notice_58 (by decide) ?_
          refine lv_istore (lv' := [(4, .int 0), (3, .int 1), (0, .ref (ad 0)), (1, .int x0), (2, .int x1)]) hx hb dX7_notice_59 hl (by decide) rfl (fun ls hl => ?_)
          refine lv_aload_n hx hb dX7_notice_61 rfl (lv_at hl 2 rfl) ?_
          refine lv_iload_n hx hb dX7_notice_62 rfl (lv_at hl 1 rfl) ?_
          refine lv_if_ne (tgt := 70) hx hb dX7_notice_63 (by decide) (fun _ => ?_) (fun c9 => absurd c9 (by decide))
          refine lv_iload hx hb dX7_notice_70 (lv_at hl 0 rfl) ?_
          refine lv_if_ne (tgt := 79) hx hb dX7_notice_72 (by decide) (fun c9 => absurd c9 (by decide)) (fun _ => ?_)
          refine lv_iconst (v := 2) hx hb dX7_notice_75 (by decide) ?_
          refine lv_goto (tgt := 80) hx hb dX7_notice_76 (by decide) ?_
          refine sy_ki (sy_rV (o := 0) (As := [.int 2]) (rest := []) ⟨hx, hb, hml, hown, hts⟩ hE hP hS (nX7_refused l hfl Z nT nK cT cK ad g q 2) (cwV 1 hts (gu_V uk_5_104 uk_5_106 uk_0_17 uk_1_9 uk_5_107) rfl rfl rfl (by decide +kernel) ⟨Nat.le_of_ble_eq_true rfl, Nat.le_of_ble_eq_true rfl⟩) (sy_recv (kc := 8) hE hP rfl (by decide) rfl rfl rfl) rfl hl.1 rfl (Nat.le_of_ble_eq_true rfl) dX7_notice_80 ⟨Nat.le_of_ble_eq_true rfl, Nat.le_of_ble_eq_true rfl⟩) hS (fun r_e_9 g_e_9 q_e_9 H locs e_9 hP hS => ?_)
          cases e_9
          refine sy_top (y := 1) (by rfl) ?_
          refine lv_if_ne (tgt := 103) hx hb dX7_notice_83 (by decide) (fun _ => ?_) (fun c9 => absurd c9 (by decide))
          exact (sy_vret hx hb hr hlocks hE hP hS dX7_notice_103 ⟨Nat.le_of_ble_eq_true rfl, Nat.le_of_ble_eq_true rfl⟩ (by unfold fX7_notice; rw [if_pos c_2, if_pos c_5, if_pos c_7, if_neg c_8] <;> rfl))
        · skip
          refine lv_iconst (v := 1) hx hb dX7_notice_54 (by decide) ?_
          refine lv_goto (tgt := 59) hx hb dX7_notice_55 (by decide) ?_
          refine lv_istore (lv' := [(4, .int 1), (3, .int 1), (0, .ref (ad 0)), (1, .int x0), (2, .int x1)]) hx hb dX7_notice_59 hl (by decide) rfl (fun ls hl => ?_)
          refine lv_aload_n hx hb dX7_notice_61 rfl (lv_at hl 2 rfl) ?_
          refine lv_iload_n hx hb dX7_notice_62 rfl (lv_at hl 1 rfl) ?_
          refine lv_if_ne (tgt := 70) hx hb dX7_notice_63 (by decide) (fun _ => ?_) (fun c9 => absurd c9 (by decide))
          refine lv_iload hx hb dX7_notice_70 (lv_at hl 0 rfl) ?_
          refine lv_if_ne (tgt := 79) hx hb dX7_notice_72 (by decide) (fun _ => ?_) (fun c9 => absurd c9 (by decide))
          refine lv_iconst (v := 0) hx hb dX7_notice_79 (by decide) ?_
          refine sy_ki (sy_rV (o := 0) (As := [.int 0]) (rest := []) ⟨hx, hb, hml, hown, hts⟩ hE hP hS (nX7_refused l hfl Z nT nK cT cK ad g q 0) (cwV 1 hts (gu_V uk_5_104 uk_5_106 uk_0_17 uk_1_9 uk_5_107) rfl rfl rfl (by decide +kernel) ⟨Nat.le_of_ble_eq_true rfl, Nat.le_of_ble_eq_true rfl⟩) (sy_recv (kc := 8) hE hP rfl (by decide) rfl rfl rfl) rfl hl.1 rfl (Nat.le_of_ble_eq_true rfl) dX7_notice_80 ⟨Nat.le_of_ble_eq_true rfl, Nat.le_of_ble_eq_true rfl⟩) hS (fun r_e_10 g_e_10 q_e_10 H locs e_10 hP hS => ?_)
          cases e_10
          refine sy_top (y := 0) (by rfl) ?_
          refine lv_if_ne (tgt := 103) hx hb dX7_notice_83 (by decide) (fun c9 => absurd c9 (by decide)) (fun _ => ?_)
          refine lv_aload_n hx hb dX7_notice_86 rfl (lv_at hl 2 rfl) ?_
          refine sy_getRX7 hx hb hts hown hE hP 0 rfl 40 (by decide) (hts _ (u_in uk_4_230)) (v := .ref (ad 41)) rfl dX7_notice_87 ?_
          refine lv_iload_n hx hb dX7_notice_90 rfl (lv_at hl 3 rfl) ?_
          refine lv_aload_n hx hb dX7_notice_91 rfl (lv_at hl 2 rfl) ?_
          refine sy_getRX7 hx hb hts hown hE hP 0 rfl 1 (by decide) (hts _ (u_in uk_4_191)) (v := .int (g 0 1)) rfl dX7_notice_92 ?_
          refine sy_iastN hx hb hE hP hS 41 rfl (show vp_in x0 40 from (im_ticket hI c_2)) x0.toNatClampNeg rfl dX7_notice_95 (fun H locs hP hS => ?_)
          refine lv_aload_n hx hb dX7_notice_96 rfl (lv_at hl 2 rfl) ?_
          refine sy_getRX7 hx hb hts hown hE hP 0 rfl 41 (by decide) (hts _ (u_in uk_4_231)) (v := .ref (ad 42)) rfl dX7_notice_97 ?_
          refine lv_iload_n hx hb dX7_notice_100 rfl (lv_at hl 3 rfl) ?_
          refine lv_iload_n hx hb dX7_notice_101 rfl (lv_at hl 4 rfl) ?_
          refine sy_iastN hx hb hE hP hS 42 rfl (show vp_in x0 40 from (im_ticket hI c_2)) x0.toNatClampNeg rfl dX7_notice_102 (fun H locs hP hS => ?_)
          exact (sy_vret hx hb hr hlocks hE hP hS dX7_notice_103 ⟨Nat.le_of_ble_eq_true rfl, Nat.le_of_ble_eq_true rfl⟩ (by unfold fX7_notice; rw [if_pos c_2, if_pos c_5, if_pos c_7, if_pos c_8] <;> rfl))
      · skip
        refine lv_aload_n hx hb dX7_notice_34 rfl (lv_at hl 1 rfl) ?_
        refine sy_getRX7 hx hb hts hown hE hP 0 rfl 38 (by decide) (hts _ (u_in uk_4_228)) (v := .ref (ad 39)) rfl dX7_notice_35 ?_
        refine lv_iload_n hx hb dX7_notice_38 rfl (lv_at hl 2 rfl) ?_
        refine sy_ialdN hx hb hE hP 39 rfl (show vp_in x0 40 from (im_ticket hI c_2)) x0.toNatClampNeg rfl (v := g 39 x0.toNatClampNeg) rfl dX7_notice_39 ?_
        refine lv_iconst (v := 2) hx hb dX7_notice_40 (by decide) ?_
        refine lv_icmp_ne (tgt := 58) hx hb dX7_notice_41 (by decide) (fun c_11 => ?_) (fun c_11 => ?_)
        · skip
          refine lv_iconst (v := 0) hx hb dX7_notice_58 (by decide) ?_
          refine lv_istore (lv' := [(4, .int 0), (3, .int 1), (0, .ref (ad 0)), (1, .int x0), (2, .int x1)]) hx hb dX7_notice_59 hl (by decide) rfl (fun ls hl => ?_)
          refine lv_aload_n hx hb dX7_notice_61 rfl (lv_at hl 2 rfl) ?_
          refine lv_iload_n hx hb dX7_notice_62 rfl (lv_at hl 1 rfl) ?_
          refine lv_if_ne (tgt := 70) hx hb dX7_notice_63 (by decide) (fun _ => ?_) (fun c9 => absurd c9 (by decide))
          refine lv_iload hx hb dX7_notice_70 (lv_at hl 0 rfl) ?_
          refine lv_if_ne (tgt := 79) hx hb dX7_notice_72 (by decide) (fun c9 => absurd c9 (by decide)) (fun _ => ?_)
          refine lv_iconst (v := 2) hx hb dX7_notice_75 (by decide) ?_
          refine lv_goto (tgt := 80) hx hb dX7_notice_76 (by decide) ?_
          refine sy_ki (sy_rV (o := 0) (As := [.int 2]) (rest := []) ⟨hx, hb, hml, hown, hts⟩ hE hP hS (nX7_refused l hfl Z nT nK cT cK ad g q 2) (cwV 1 hts (gu_V uk_5_104 uk_5_106 uk_0_17 uk_1_9 uk_5_107) rfl rfl rfl (by decide +kernel) ⟨Nat.le_of_ble_eq_true rfl, Nat.le_of_ble_eq_true rfl⟩) (sy_recv (kc := 8) hE hP rfl (by decide) rfl rfl rfl) rfl hl.1 rfl (Nat.le_of_ble_eq_true rfl) dX7_notice_80 ⟨Nat.le_of_ble_eq_true rfl, Nat.le_of_ble_eq_true rfl⟩) hS (fun r_e_12 g_e_12 q_e_12 H locs e_12 hP hS => ?_)
          cases e_12
          refine sy_top (y := 1) (by rfl) ?_
          refine lv_if_ne (tgt := 103) hx hb dX7_notice_83 (by decide) (fun _ => ?_) (fun c9 => absurd c9 (by decide))
          exact (sy_vret hx hb hr hlocks hE hP hS dX7_notice_103 ⟨Nat.le_of_ble_eq_true rfl, Nat.le_of_ble_eq_true rfl⟩ (by unfold fX7_notice; rw [if_pos c_2, if_pos c_5, if_neg c_7, if_neg c_11] <;> rfl))
        · skip
          refine lv_aload_n hx hb dX7_notice_44 rfl (lv_at hl 1 rfl) ?_
          refine sy_getRX7 hx hb hts hown hE hP 0 rfl 40 (by decide) (hts _ (u_in uk_4_230)) (v := .ref (ad 41)) rfl dX7_notice_45 ?_
          refine lv_iload_n hx hb dX7_notice_48 rfl (lv_at hl 2 rfl) ?_
          refine sy_ialdN hx hb hE hP 41 rfl (show vp_in x0 40 from (im_ticket hI c_2)) x0.toNatClampNeg rfl (v := g 41 x0.toNatClampNeg) rfl dX7_notice_49 ?_
          refine lv_iconst (v := (-1)) hx hb dX7_notice_50 (by decide) ?_
          refine lv_icmp_ne (tgt := 58) hx hb dX7_notice_51 (by decide) (fun c_13 => ?_) (fun c_13 => ?_)
          · skip
            refine lv_iconst (v := 0) hx hb dX7_notice_58 (by decide) ?_
            refine lv_istore (lv' := [(4, .int 0), (3, .int 1), (0, .ref (ad 0)), (1, .int x0), (2, .int x1)]) hx hb dX7_notice_59 hl (by decide) rfl (fun ls hl => ?_)
            refine lv_aload_n hx hb dX7_notice_61 rfl (lv_at hl 2 rfl) ?_
            refine lv_iload_n hx hb dX7_notice_62 rfl (lv_at hl 1 rfl) ?_
            refine lv_if_ne (tgt := 70) hx hb dX7_notice_63 (by decide) (fun _ => ?_) (fun c9 => absurd c9 (by decide))
            refine lv_iload hx hb dX7_notice_70 (lv_at hl 0 rfl) ?_
            refine lv_if_ne (tgt := 79) hx hb dX7_notice_72 (by decide) (fun c9 => absurd c9 (by decide)) (fun _ => ?_)
            refine lv_iconst (v := 2) hx hb dX7_notice_75 (by decide) ?_
            refine lv_goto (tgt := 80) hx hb dX7_notice_76 (by decide) ?_
            refine sy_ki (sy_rV (o := 0) (As := [.int 2]) (rest := []) ⟨hx, hb, hml, hown, hts⟩ hE hP hS (nX7_refused l hfl Z nT nK cT cK ad g q 2) (cwV 1 hts (gu_V uk_5_104 uk_5_106 uk_0_17 uk_1_9 uk_5_107) rfl rfl rfl (by decide +kernel) ⟨Nat.le_of_ble_eq_true rfl, Nat.le_of_ble_eq_true rfl⟩) (sy_recv (kc := 8) hE hP rfl (by decide) rfl rfl rfl) rfl hl.1 rfl (Nat.le_of_ble_eq_true rfl) dX7_notice_80 ⟨Nat.le_of_ble_eq_true rfl, Nat.le_of_ble_eq_true rfl⟩) hS (fun r_e_14 g_e_14 q_e_14 H locs e_14 hP hS => ?_)
            cases e_14
            refine sy_top (y := 1) (by rfl) ?_
            refine lv_if_ne (tgt := 103) hx hb dX7_notice_83 (by decide) (fun _ => ?_) (fun c9 => absurd c9 (by decide))
            exact (sy_vret hx hb hr hlocks hE hP hS dX7_notice_103 ⟨Nat.le_of_ble_eq_true rfl, Nat.le_of_ble_eq_true rfl⟩ (by unfold fX7_notice; rw [if_pos c_2, if_pos c_5, if_neg c_7, if_pos c_11, if_neg c_13] <;> rfl))
          · skip
            refine lv_iconst (v := 1) hx hb dX7_notice_54 (by decide) ?_
            refine lv_goto (tgt := 59) hx hb dX7_notice_55 (by decide) ?_
            refine lv_istore (lv' := [(4, .int 1), (3, .int 1), (0, .ref (ad 0)), (1, .int x0), (2, .int x1)]) hx hb dX7_notice_59 hl (by decide) rfl (fun ls hl => ?_)
            refine lv_aload_n hx hb dX7_notice_61 rfl (lv_at hl 2 rfl) ?_
            refine lv_iload_n hx hb dX7_notice_62 rfl (lv_at hl 1 rfl) ?_
            refine lv_if_ne (tgt := 70) hx hb dX7_notice_63 (by decide) (fun _ => ?_) (fun c9 => absurd c9 (by decide))
            refine lv_iload hx hb dX7_notice_70 (lv_at hl 0 rfl) ?_
            refine lv_if_ne (tgt := 79) hx hb dX7_notice_72 (by decide) (fun _ => ?_) (fun c9 => absurd c9 (by decide))
            refine lv_iconst (v := 0) hx hb dX7_notice_79 (by decide) ?_
            refine sy_ki (sy_rV (o := 0) (As := [.int 0]) (rest := []) ⟨hx, hb, hml, hown, hts⟩ hE hP hS (nX7_refused l hfl Z nT nK cT cK ad g q 0) (cwV 1 hts (gu_V uk_5_104 uk_5_106 uk_0_17 uk_1_9 uk_5_107) rfl rfl rfl (by decide +kernel) ⟨Nat.le_of_ble_eq_true rfl, Nat.le_of_ble_eq_true rfl⟩) (sy_recv (kc := 8) hE hP rfl (by decide) rfl rfl rfl) rfl hl.1 rfl (Nat.le_of_ble_eq_true rfl) dX7_notice_80 ⟨Nat.le_of_ble_eq_true rfl, Nat.le_of_ble_eq_true rfl⟩) hS (fun r_e_15 g_e_15 q_e_15 H locs e_15 hP hS => ?_)
            cases e_15
            refine sy_top (y := 0) (by rfl) ?_
            refine lv_if_ne (tgt := 103) hx hb dX7_notice_83 (by decide) (fun c9 => absurd c9 (by decide)) (fun _ => ?_)
            refine lv_aload_n hx hb dX7_notice_86 rfl (lv_at hl 2 rfl) ?_
            refine sy_getRX7 hx hb hts hown hE hP 0 rfl 40 (by decide) (hts _ (u_in uk_4_230)) (v := .ref (ad 41)) rfl dX7_notice_87 ?_
            refine lv_iload_n hx hb dX7_notice_90 rfl (lv_at hl 3 rfl) ?_
            refine lv_aload_n hx hb dX7_notice_91 rfl (lv_at hl 2 rfl) ?_
            refine sy_getRX7 hx hb hts hown hE hP 0 rfl 1 (by decide) (hts _ (u_in uk_4_191)) (v := .int (g 0 1)) rfl dX7_notice_92 ?_
            refine sy_iastN hx hb hE hP hS 41 rfl (show vp_in x0 40 from (im_ticket hI c_2)) x0.toNatClampNeg rfl dX7_notice_95 (fun H locs hP hS => ?_)
            refine lv_aload_n hx hb dX7_notice_96 rfl (lv_at hl 2 rfl) ?_
            refine sy_getRX7 hx hb hts hown hE hP 0 rfl 41 (by decide) (hts _ (u_in uk_4_231)) (v := .ref (ad 42)) rfl dX7_notice_97 ?_
            refine lv_iload_n hx hb dX7_notice_100 rfl (lv_at hl 3 rfl) ?_
            refine lv_iload_n hx hb dX7_notice_101 rfl (lv_at hl 4 rfl) ?_
            refine sy_iastN hx hb hE hP hS 42 rfl (show vp_in x0 40 from (im_ticket hI c_2)) x0.toNatClampNeg rfl dX7_notice_102 (fun H locs hP hS => ?_)
            exact (sy_vret hx hb hr hlocks hE hP hS dX7_notice_103 ⟨Nat.le_of_ble_eq_true rfl, Nat.le_of_ble_eq_true rfl⟩ (by unfold fX7_notice; rw [if_pos c_2, if_pos c_5, if_neg c_7, if_pos c_11, if_pos c_13] <;> rfl))
def fX7_show (g : sG) (q : sQ) (x0 : Int32) : Int32 × sG := (if 0 ≤ x0 ∧ x0 ≤ (g 0 28) - 1 then (if (g 41 x0.toNatClampNeg) = (-1) then (0, (sy_up g 0 0 2)) else ((g 42 x0.toNatClampNeg), (sy_up (sy_up g 0 0 0) 41 x0.toNatClampNeg (-1)))) else (0, (sy_up g 0 0 1)))
set_option maxHeartbeats 4000000 in
set_option maxRecDepth 100000 in
theorem mX7_show (l : Launch) (hfl : l.stackTraces = false) (Z : sZ) (nT nK cT cK : Nat) (ad : Nat → Nat) (g : sG) (q : sQ) (x0 : Int32) {mT mK : Nat} (hI : IM mT mK g) : sMi l Z yX7_show (uW (.code yX7_show cX7_show 3 (some .int))) { frames := 2, cells := 0, slots := 0, locals := 43 } [.ref (ad 0), .int x0] nT nK cT cK ad g q (fun r g1 q1 => (r, g1, q1) = ((fX7_show g q x0).1, (fX7_show g q x0).2, q)) := by
  refine Met.ofW (cc := cX7_show) (maxL := 3) (ret := (some .int)) (by decide) rfl ?_
  intro p e s m args below meth c s₁ B hml hv
  obtain ⟨rfl, hE, hP⟩ := hv
  have hx := B.exec
  have hb := B.bytes
  have hr := B.returns
  have hts := atoms_spec (ws := uW (.code yX7_show cX7_show 3 (some .int))) B.pre
  have hown : s.vm.findClass RX7 = some m.cls := findClass_of_methodNamed B.named
  have hlocks := B.notSynchronized
  have hS : va_S (sy_A Z) s.heap s.heap [] := va_S.rf
  have hl := lv_entry ([.ref (ad 0), .int x0]) (n := 3) (Nat.le_of_ble_eq_true rfl)
  rw [lg_entry_eq]
  generalize (lg_sl ([.ref (ad 0), .int x0]) ++ List.replicate (3 - (lg_sl ([.ref (ad 0), .int x0])).length) Slot.unset).toArray = ls at hl ⊢
  have hl : lv_has ls 3 [(0, .ref (ad 0)), (1, .int x0)] := hl
  refine lv_aload_n hx hb dX7_show_0 rfl (lv_at hl 0 rfl) ?_
  refine lv_iload_n hx hb dX7_show_1 rfl (lv_at hl 1 rfl) ?_
  refine sy_ki (sy_rV (o := 0) (As := [.int x0]) (rest := []) ⟨hx, hb, hml, hown, hts⟩ hE hP hS (mX7_isTicket l hfl Z nT nK cT cK ad g q x0) (cwV 1 hts (gu_V uk_5_172 uk_5_174 uk_0_24 uk_1_9 uk_5_175) rfl rfl rfl (by decide +kernel) ⟨Nat.le_of_ble_eq_true rfl, Nat.le_of_ble_eq_true rfl⟩) (sy_recv (kc := 8) hE hP rfl (by decide) rfl rfl rfl) rfl hl.1 rfl (Nat.le_of_ble_eq_true rfl) dX7_show_2 ⟨Nat.le_of_ble_eq_true rfl, Nat.le_of_ble_eq_true rfl⟩) hS (fun r_e_1 g_e_1 q_e_1 H locs e_1 hP hS => ?_)
  cases e_1
  refine sy_top (y := (iB (0 ≤ x0 ∧ x0 ≤ (g 0 28) - 1))) (by rfl) ?_
  refine lv_istore_n (lv' := [(2, .int (iB (0 ≤ x0 ∧ x0 ≤ (g 0 28) - 1))), (0, .ref (ad 0)), (1, .int x0)]) hx hb dX7_show_5 rfl hl (by decide) rfl (fun ls hl => ?_)
  refine lv_aload_n hx hb dX7_show_6 rfl (lv_at hl 1 rfl) ?_
  refine lv_iload_n hx hb dX7_show_7 rfl (lv_at hl 0 rfl) ?_
  refine lv_if_ne (tgt := 15) hx hb dX7_show_8 (by decide) (fun c_2 => ?_) (fun c_2 => ?_)
  · have c_2 := iB_n.mp c_2
    refine lv_aload_n hx hb dX7_show_15 rfl (lv_at hl 1 rfl) ?_
    refine sy_getRX7 hx hb hts hown hE hP 0 rfl 40 (by decide) (hts _ (u_in uk_4_230)) (v := .ref (ad 41)) rfl dX7_show_16 ?_
    refine lv_iload_n hx hb dX7_show_19 rfl (lv_at hl 2 rfl) ?_
    refine sy_ialdN hx hb hE hP 41 rfl (show vp_in x0 40 from (im_ticket hI c_2)) x0.toNatClampNeg rfl (v := g 41 x0.toNatClampNeg) rfl dX7_show_20 ?_
    refine lv_iconst (v := (-1)) hx hb dX7_show_21 (by decide) ?_
    refine lv_icmp_ne (tgt := 29) hx hb dX7_show_22 (by decide) (fun c_3 => ?_) (fun c_3 => ?_)
    · skip
      refine lv_iconst (v := 0) hx hb dX7_show_29 (by decide) ?_
      refine sy_ki (sy_rV (o := 0) (As := [.int 0]) (rest := []) ⟨hx, hb, hml, hown, hts⟩ hE hP hS (nX7_refused l hfl Z nT nK cT cK ad g q 0) (cwV 1 hts (gu_V uk_5_104 uk_5_106 uk_0_17 uk_1_9 uk_5_107) rfl rfl rfl (by decide +kernel) ⟨Nat.le_of_ble_eq_true rfl, Nat.le_of_ble_eq_true rfl⟩) (sy_recv (kc := 8) hE hP rfl (by decide) rfl rfl rfl) rfl hl.1 rfl (Nat.le_of_ble_eq_true rfl) dX7_show_30 ⟨Nat.le_of_ble_eq_true rfl, Nat.le_of_ble_eq_true rfl⟩) hS (fun r_e_4 g_e_4 q_e_4 H locs e_4 hP hS => ?_)
      cases e_4
      refine sy_top (y := 0) (by rfl) ?_
      refine lv_if_eq (tgt := 38) hx hb dX7_show_33 (by decide) (fun _ => ?_) (fun c9 => absurd c9 (by decide))
      refine lv_aload_n hx hb dX7_show_38 rfl (lv_at hl 1 rfl) ?_
      refine sy_getRX7 hx hb hts hown hE hP 0 rfl 40 (by decide) (hts _ (u_in uk_4_230)) (v := .ref (ad 41)) rfl dX7_show_39 ?_
      refine lv_iload_n hx hb dX7_show_42 rfl (lv_at hl 2 rfl) ?_
      refine lv_iconst (v := (-1)) hx hb dX7_show_43 (by decide) ?_
      refine sy_iastN hx hb hE hP hS 41 rfl (show vp_in x0 40 from (im_ticket hI c_2)) x0.toNatClampNeg rfl dX7_show_44 (fun H locs hP hS => ?_)
      refine lv_aload_n hx hb dX7_show_45 rfl (lv_at hl 1 rfl) ?_
      refine sy_getRX7 hx hb hts hown hE hP 0 rfl 41 (by decide) (hts _ (u_in uk_4_231)) (v := .ref (ad 42)) rfl dX7_show_46 ?_
      refine lv_iload_n hx hb dX7_show_49 rfl (lv_at hl 2 rfl) ?_
      refine sy_ialdN hx hb hE hP 42 rfl (show vp_in x0 40 from (im_ticket hI c_2)) x0.toNatClampNeg rfl (v := g 42 x0.toNatClampNeg) rfl dX7_show_50 ?_
      exact (sy_ireti hx hb hr hlocks hE hP hS dX7_show_51 ⟨Nat.le_of_ble_eq_true rfl, Nat.le_of_ble_eq_true rfl⟩ (by unfold fX7_show; rw [if_pos c_2, if_neg c_3] <;> rfl))
    · skip
      refine lv_iconst (v := 2) hx hb dX7_show_25 (by decide) ?_
      refine lv_goto (tgt := 30) hx hb dX7_show_26 (by decide) ?_
      refine sy_ki (sy_rV (o := 0) (As := [.int 2]) (rest := []) ⟨hx, hb, hml, hown, hts⟩ hE hP hS (nX7_refused l hfl Z nT nK cT cK ad g q 2) (cwV 1 hts (gu_V uk_5_104 uk_5_106 uk_0_17 uk_1_9 uk_5_107) rfl rfl rfl (by decide +kernel) ⟨Nat.le_of_ble_eq_true rfl, Nat.le_of_ble_eq_true rfl⟩) (sy_recv (kc := 8) hE hP rfl (by decide) rfl rfl rfl) rfl hl.1 rfl (Nat.le_of_ble_eq_true rfl) dX7_show_30 ⟨Nat.le_of_ble_eq_true rfl, Nat.le_of_ble_eq_true rfl⟩) hS (fun r_e_5 g_e_5 q_e_5 H locs e_5 hP hS => ?_)
      cases e_5
      refine sy_top (y := 1) (by rfl) ?_
      refine lv_if_eq (tgt := 38) hx hb dX7_show_33 (by decide) (fun c9 => absurd c9 (by decide)) (fun _ => ?_)
      refine lv_iconst (v := 0) hx hb dX7_show_36 (by decide) ?_
      exact (sy_ireti hx hb hr hlocks hE hP hS dX7_show_37 ⟨Nat.le_of_ble_eq_true rfl, Nat.le_of_ble_eq_true rfl⟩ (by unfold fX7_show; rw [if_pos c_2, if_pos c_3] <;> rfl))
  · have c_2 := iB_0.mp c_2
    refine lv_iconst (v := 1) hx hb dX7_show_11 (by decide) ?_
    refine lv_goto (tgt := 30) hx hb dX7_show_12 (by decide) ?_
    refine sy_ki (sy_rV (o := 0) (As := [.int 1]) (rest := []) ⟨hx, hb, hml, hown, hts⟩ hE hP hS (nX7_refused l hfl Z nT nK cT cK ad g q 1) (cwV 1 hts (gu_V uk_5_104 uk_5_106 uk_0_17 uk_1_9 uk_5_107) rfl rfl rfl (by decide +kernel) ⟨Nat.le_of_ble_eq_true rfl, Nat.le_of_ble_eq_true rfl⟩) (sy_recv (kc := 8) hE hP rfl (by decide) rfl rfl rfl) rfl hl.1 rfl (Nat.le_of_ble_eq_true rfl) dX7_show_30 ⟨Nat.le_of_ble_eq_true rfl, Nat.le_of_ble_eq_true rfl⟩) hS (fun r_e_6 g_e_6 q_e_6 H locs e_6 hP hS => ?_)
    cases e_6
    refine sy_top (y := 1) (by rfl) ?_
    refine lv_if_eq (tgt := 38) hx hb dX7_show_33 (by decide) (fun c9 => absurd c9 (by decide)) (fun _ => ?_)
    refine lv_iconst (v := 0) hx hb dX7_show_36 (by decide) ?_
    exact (sy_ireti hx hb hr hlocks hE hP hS dX7_show_37 ⟨Nat.le_of_ble_eq_true rfl, Nat.le_of_ble_eq_true rfl⟩ (by unfold fX7_show; rw [if_neg c_2] <;> rfl))
def fX7_police (g : sG) (q : sQ) (x0 : Int32) : Int32 × sG := (if 0 ≤ x0 ∧ x0 ≤ (g 0 2) - 1 then (if (g 9 x0.toNatClampNeg) = 0 then ((fX7_openOf (sy_up (sy_up g 0 0 0) 9 x0.toNatClampNeg 1) q x0), (sy_up (sy_up g 0 0 0) 9 x0.toNatClampNeg 1)) else (0, (sy_up g 0 0 2))) else (0, (sy_up g 0 0 1)))
set_option maxHeartbeats 4000000 in
set_option maxRecDepth 100000 in
theorem mX7_police (l : Launch) (hfl : l.stackTraces = false) (Z : sZ) (nT nK cT cK : Nat) (ad : Nat → Nat) (g : sG) (q : sQ) (x0 : Int32) {mT mK : Nat} (hI : IM mT mK g) : sMi l Z yX7_police (uW (.code yX7_police cX7_police 3 (some .int))) { frames := 2, cells := 0, slots := 0, locals := 43 } [.ref (ad 0), .int x0] nT nK cT cK ad g q (fun r g1 q1 => (r, g1, q1) = ((fX7_police g q x0).1, (fX7_police g q x0).2, q)) := by
  refine Met.ofW (cc := cX7_police) (maxL := 3) (ret := (some .int)) (by decide) rfl ?_
  intro p e s m args below meth c s₁ B hml hv
  obtain ⟨rfl, hE, hP⟩ := hv
  have hx := B.exec
  have hb := B.bytes
  have hr := B.returns
  have hts := atoms_spec (ws := uW (.code yX7_police cX7_police 3 (some .int))) B.pre
  have hown : s.vm.findClass RX7 = some m.cls := findClass_of_methodNamed B.named
  have hlocks := B.notSynchronized
  have hS : va_S (sy_A Z) s.heap s.heap [] := va_S.rf
  have hl := lv_entry ([.ref (ad 0), .int x0]) (n := 3) (Nat.le_of_ble_eq_true rfl)
  rw [lg_entry_eq]
  generalize (lg_sl ([.ref (ad 0), .int x0]) ++ List.replicate (3 - (lg_sl ([.ref (ad 0), .int x0])).length) Slot.unset).toArray = ls at hl ⊢
  have hl : lv_has ls 3 [(0, .ref (ad 0)), (1, .int x0)] := hl
  refine lv_aload_n hx hb dX7_police_0 rfl (lv_at hl 0 rfl) ?_
  refine lv_iload_n hx hb dX7_police_1 rfl (lv_at hl 1 rfl) ?_
  refine sy_ki (sy_rV (o := 0) (As := [.int x0]) (rest := []) ⟨hx, hb, hml, hown, hts⟩ hE hP hS (mX7_isThing l hfl Z nT nK cT cK ad g q x0) (cwV 1 hts (gu_V uk_5_148 uk_5_150 uk_0_19 uk_1_9 uk_5_151) rfl rfl rfl (by decide +kernel) ⟨Nat.le_of_ble_eq_true rfl, Nat.le_of_ble_eq_true rfl⟩) (sy_recv (kc := 8) hE hP rfl (by decide) rfl rfl rfl) rfl hl.1 rfl (Nat.le_of_ble_eq_true rfl) dX7_police_2 ⟨Nat.le_of_ble_eq_true rfl, Nat.le_of_ble_eq_true rfl⟩) hS (fun r_e_1 g_e_1 q_e_1 H locs e_1 hP hS => ?_)
  cases e_1
  refine sy_top (y := (iB (0 ≤ x0 ∧ x0 ≤ (g 0 2) - 1))) (by rfl) ?_
  refine lv_istore_n (lv' := [(2, .int (iB (0 ≤ x0 ∧ x0 ≤ (g 0 2) - 1))), (0, .ref (ad 0)), (1, .int x0)]) hx hb dX7_police_5 rfl hl (by decide) rfl (fun ls hl => ?_)
  refine lv_aload_n hx hb dX7_police_6 rfl (lv_at hl 1 rfl) ?_
  refine lv_iload_n hx hb dX7_police_7 rfl (lv_at hl 0 rfl) ?_
  refine lv_if_ne (tgt := 15) hx hb dX7_police_8 (by decide) (fun c_2 => ?_) (fun c_2 => ?_)
  · have c_2 := iB_n.mp c_2
    refine lv_aload_n hx hb dX7_police_15 rfl (lv_at hl 1 rfl) ?_
    refine sy_getRX7 hx hb hts hown hE hP 0 rfl 8 (by decide) (hts _ (u_in uk_4_198)) (v := .ref (ad 9)) rfl dX7_police_16 ?_
    refine lv_iload_n hx hb dX7_police_19 rfl (lv_at hl 2 rfl) ?_
    refine sy_zaldN hx hb hE hP 9 rfl (show vp_in x0 40 from (im_thing hI c_2)) x0.toNatClampNeg rfl (v := g 9 x0.toNatClampNeg) rfl dX7_police_20 ?_
    refine lv_if_eq (tgt := 28) hx hb dX7_police_21 (by decide) (fun c_3 => ?_) (fun c_3 => ?_)
    · skip
      refine lv_iconst (v := 0) hx hb dX7_police_28 (by decide) ?_
      refine sy_ki (sy_rV (o := 0) (As := [.int 0]) (rest := []) ⟨hx, hb, hml, hown, hts⟩ hE hP hS (nX7_refused l hfl Z nT nK cT cK ad g q 0) (cwV 1 hts (gu_V uk_5_104 uk_5_106 uk_0_17 uk_1_9 uk_5_107) rfl rfl rfl (by decide +kernel) ⟨Nat.le_of_ble_eq_true rfl, Nat.le_of_ble_eq_true rfl⟩) (sy_recv (kc := 8) hE hP rfl (by decide) rfl rfl rfl) rfl hl.1 rfl (Nat.le_of_ble_eq_true rfl) dX7_police_29 ⟨Nat.le_of_ble_eq_true rfl, Nat.le_of_ble_eq_true rfl⟩) hS (fun r_e_4 g_e_4 q_e_4 H locs e_4 hP hS => ?_)
      cases e_4
      refine sy_top (y := 0) (by rfl) ?_
      refine lv_if_eq (tgt := 37) hx hb dX7_police_32 (by decide) (fun _ => ?_) (fun c9 => absurd c9 (by decide))
      refine lv_aload_n hx hb dX7_police_37 rfl (lv_at hl 1 rfl) ?_
      refine sy_getRX7 hx hb hts hown hE hP 0 rfl 8 (by decide) (hts _ (u_in uk_4_198)) (v := .ref (ad 9)) rfl dX7_police_38 ?_
      refine lv_iload_n hx hb dX7_police_41 rfl (lv_at hl 2 rfl) ?_
      refine lv_iconst (v := 1) hx hb dX7_police_42 (by decide) ?_
      refine sy_zastN hx hb hE hP hS 9 rfl (show vp_in x0 40 from (im_thing hI c_2)) (by decide) x0.toNatClampNeg rfl dX7_police_43 (fun H locs hP hS => ?_)
      refine lv_aload_n hx hb dX7_police_44 rfl (lv_at hl 1 rfl) ?_
      refine lv_iload_n hx hb dX7_police_45 rfl (lv_at hl 2 rfl) ?_
      refine sy_ki (sy_rV (o := 0) (As := [.int x0]) (rest := []) ⟨hx, hb, hml, hown, hts⟩ hE hP hS (mX7_openOf l hfl Z nT nK cT cK ad (sy_up (sy_up g 0 0 0) 9 x0.toNatClampNeg 1) q x0 (im_o (by decide) (im_0 (by decide) hI))) (cwV 1 hts (gu_V uk_5_212 uk_5_214 uk_0_29 uk_1_9 uk_5_215) rfl rfl rfl (by decide +kernel) ⟨Nat.le_of_ble_eq_true rfl, Nat.le_of_ble_eq_true rfl⟩) (sy_recv (kc := 8) hE hP rfl (by decide) rfl rfl rfl) rfl hl.1 rfl (Nat.le_of_ble_eq_true rfl) dX7_police_46 ⟨Nat.le_of_ble_eq_true rfl, Nat.le_of_ble_eq_true rfl⟩) hS (fun r_e_5 g_e_5 q_e_5 H locs e_5 hP hS => ?_)
      cases e_5
      exact (sy_ireti hx hb hr hlocks hE hP hS dX7_police_49 ⟨Nat.le_of_ble_eq_true rfl, Nat.le_of_ble_eq_true rfl⟩ (by unfold fX7_police; rw [if_pos c_2, if_pos c_3] <;> rfl))
    · skip
      refine lv_iconst (v := 2) hx hb dX7_police_24 (by decide) ?_
      refine lv_goto (tgt := 29) hx hb dX7_police_25 (by decide) ?_
      refine sy_ki (sy_rV (o := 0) (As := [.int 2]) (rest := []) ⟨hx, hb, hml, hown, hts⟩ hE hP hS (nX7_refused l hfl Z nT nK cT cK ad g q 2) (cwV 1 hts (gu_V uk_5_104 uk_5_106 uk_0_17 uk_1_9 uk_5_107) rfl rfl rfl (by decide +kernel) ⟨Nat.le_of_ble_eq_true rfl, Nat.le_of_ble_eq_true rfl⟩) (sy_recv (kc := 8) hE hP rfl (by decide) rfl rfl rfl) rfl hl.1 rfl (Nat.le_of_ble_eq_true rfl) dX7_police_29 ⟨Nat.le_of_ble_eq_true rfl, Nat.le_of_ble_eq_true rfl⟩) hS (fun r_e_6 g_e_6 q_e_6 H locs e_6 hP hS => ?_)
      cases e_6
      refine sy_top (y := 1) (by rfl) ?_
      refine lv_if_eq (tgt := 37) hx hb dX7_police_32 (by decide) (fun c9 => absurd c9 (by decide)) (fun _ => ?_)
      refine lv_iconst (v := 0) hx hb dX7_police_35 (by decide) ?_
      exact (sy_ireti hx hb hr hlocks hE hP hS dX7_police_36 ⟨Nat.le_of_ble_eq_true rfl, Nat.le_of_ble_eq_true rfl⟩ (by unfold fX7_police; rw [if_pos c_2, if_neg c_3] <;> rfl))
  · have c_2 := iB_0.mp c_2
    refine lv_iconst (v := 1) hx hb dX7_police_11 (by decide) ?_
    refine lv_goto (tgt := 29) hx hb dX7_police_12 (by decide) ?_
    refine sy_ki (sy_rV (o := 0) (As := [.int 1]) (rest := []) ⟨hx, hb, hml, hown, hts⟩ hE hP hS (nX7_refused l hfl Z nT nK cT cK ad g q 1) (cwV 1 hts (gu_V uk_5_104 uk_5_106 uk_0_17 uk_1_9 uk_5_107) rfl rfl rfl (by decide +kernel) ⟨Nat.le_of_ble_eq_true rfl, Nat.le_of_ble_eq_true rfl⟩) (sy_recv (kc := 8) hE hP rfl (by decide) rfl rfl rfl) rfl hl.1 rfl (Nat.le_of_ble_eq_true rfl) dX7_police_29 ⟨Nat.le_of_ble_eq_true rfl, Nat.le_of_ble_eq_true rfl⟩) hS (fun r_e_7 g_e_7 q_e_7 H locs e_7 hP hS => ?_)
    cases e_7
    refine sy_top (y := 1) (by rfl) ?_
    refine lv_if_eq (tgt := 37) hx hb dX7_police_32 (by decide) (fun c9 => absurd c9 (by decide)) (fun _ => ?_)
    refine lv_iconst (v := 0) hx hb dX7_police_35 (by decide) ?_
    exact (sy_ireti hx hb hr hlocks hE hP hS dX7_police_36 ⟨Nat.le_of_ble_eq_true rfl, Nat.le_of_ble_eq_true rfl⟩ (by unfold fX7_police; rw [if_neg c_2] <;> rfl))
theorem lX7_openOf_in {nT nK : Nat} {g : sG} (hI : IM nT nK g) (q : sQ) (x0 : Int32) : ∀ k, k ≤ 40 → lX7_openOf g q x0 k = -1 ∨ vp_in (lX7_openOf g q x0 k) 40 := by
  intro k
  induction k with
  | zero => intro _; exact Or.inl rfl
  | succ k ih =>
    intro hk
    rw [lX7_openOf]
    repeat' split
    all_goals first | exact ih (by omega) | exact Or.inr (vp_in_nI (by omega) (by decide))
theorem openOf_in {nT nK : Nat} {g : sG} (hI : IM nT nK g) {q : sQ} {x0 : Int32} (h : ¬ fX7_openOf g q x0 = -1) : vp_in (fX7_openOf g q x0) 40 := (lX7_openOf_in hI q x0 _ (im_nK hI).2).resolve_left h
def fX7_court (g : sG) (q : sQ) (x0 x1 : Int32) : Int32 × sG := (if 0 ≤ x0 ∧ x0 ≤ (g 0 2) - 1 then (if (g 9 x0.toNatClampNeg) = 0 then (0, (sy_up g 0 0 2)) else (if x1 = 0 then ((-1), (sy_up (sy_up g 0 0 0) 9 x0.toNatClampNeg 0)) else (if (fX7_openOf (sy_up g 0 0 0) q x0) = (-1) then ((fX7_openOf (sy_up g 0 0 0) q x0), (sy_up (sy_up g 0 0 0) 9 x0.toNatClampNeg 0)) else ((fX7_openOf (sy_up g 0 0 0) q x0), (sy_up (sy_up (sy_up (sy_up (sy_up g 0 0 0) 9 x0.toNatClampNeg 0) 39 ((fX7_openOf (sy_up g 0 0 0) q x0).toNatClampNeg) 3) 8 x0.toNatClampNeg 0) 16 ((g 31 ((fX7_openOf (sy_up g 0 0 0) q x0).toNatClampNeg)).toNatClampNeg) ((g 16 ((g 31 ((fX7_openOf (sy_up g 0 0 0) q x0).toNatClampNeg)).toNatClampNeg)) + (g 35 ((fX7_openOf (sy_up g 0 0 0) q x0).toNatClampNeg)))))))) else (0, (sy_up g 0 0 1)))
set_option maxHeartbeats 4000000 in
set_option maxRecDepth 100000 in
theorem mX7_court (l : Launch) (hfl : l.stackTraces = false) (Z : sZ) (nT nK cT cK : Nat) (ad : Nat → Nat) (g : sG) (q : sQ) (x0 x1 : Int32) {mT mK : Nat} (hI : IM mT mK g) : sMi l Z yX7_court (uW (.code yX7_court cX7_court 5 (some .int))) { frames := 2, cells := 0, slots := 0, locals := 43 } [.ref (ad 0), .int x0, .int x1] nT nK cT cK ad g q (fun r g1 q1 => (r, g1, q1) = ((fX7_court g q x0 x1).1, (fX7_court g q x0 x1).2, q)) := by
  refine Met.ofW (cc := cX7_court) (maxL := 5) (ret := (some .int)) (by decide) rfl ?_
  intro p e s m args below meth c s₁ B hml hv
  obtain ⟨rfl, hE, hP⟩ := hv
  have hx := B.exec
  have hb := B.bytes
  have hr := B.returns
  have hts := atoms_spec (ws := uW (.code yX7_court cX7_court 5 (some .int))) B.pre
  have hown : s.vm.findClass RX7 = some m.cls := findClass_of_methodNamed B.named
  have hlocks := B.notSynchronized
  have hS : va_S (sy_A Z) s.heap s.heap [] := va_S.rf
  have hl := lv_entry ([.ref (ad 0), .int x0, .int x1]) (n := 5) (Nat.le_of_ble_eq_true rfl)
  rw [lg_entry_eq]
  generalize (lg_sl ([.ref (ad 0), .int x0, .int x1]) ++ List.replicate (5 - (lg_sl ([.ref (ad 0), .int x0, .int x1])).length) Slot.unset).toArray = ls at hl ⊢
  have hl : lv_has ls 5 [(0, .ref (ad 0)), (1, .int x0), (2, .int x1)] := hl
  refine lv_aload_n hx hb dX7_court_0 rfl (lv_at hl 0 rfl) ?_
  refine lv_iload_n hx hb dX7_court_1 rfl (lv_at hl 1 rfl) ?_
  refine sy_ki (sy_rV (o := 0) (As := [.int x0]) (rest := []) ⟨hx, hb, hml, hown, hts⟩ hE hP hS (mX7_isThing l hfl Z nT nK cT cK ad g q x0) (cwV 1 hts (gu_V uk_5_148 uk_5_150 uk_0_19 uk_1_9 uk_5_151) rfl rfl rfl (by decide +kernel) ⟨Nat.le_of_ble_eq_true rfl, Nat.le_of_ble_eq_true rfl⟩) (sy_recv (kc := 8) hE hP rfl (by decide) rfl rfl rfl) rfl hl.1 rfl (Nat.le_of_ble_eq_true rfl) dX7_court_2 ⟨Nat.le_of_ble_eq_true rfl, Nat.le_of_ble_eq_true rfl⟩) hS (fun r_e_1 g_e_1 q_e_1 H locs e_1 hP hS => ?_)
  cases e_1
  refine sy_top (y := (iB (0 ≤ x0 ∧ x0 ≤ (g 0 2) - 1))) (by rfl) ?_
  refine lv_istore_n (lv' := [(3, .int (iB (0 ≤ x0 ∧ x0 ≤ (g 0 2) - 1))), (0, .ref (ad 0)), (1, .int x0), (2, .int x1)]) hx hb dX7_court_5 rfl hl (by decide) rfl (fun ls hl => ?_)
  refine lv_aload_n hx hb dX7_court_6 rfl (lv_at hl 1 rfl) ?_
  refine lv_iload_n hx hb dX7_court_7 rfl (lv_at hl 0 rfl) ?_
  refine lv_if_ne (tgt := 15) hx hb dX7_court_8 (by decide) (fun c_2 => ?_) (fun c_2 => ?_)
  · have c_2 := iB_n.mp c_2
    refine lv_aload_n hx hb dX7_court_15 rfl (lv_at hl 1 rfl) ?_
    refine sy_getRX7 hx hb hts hown hE hP 0 rfl 8 (by decide) (hts _ (u_in uk_4_198)) (v := .ref (ad 9)) rfl dX7_court_16 ?_
    refine lv_iload_n hx hb dX7_court_19 rfl (lv_at hl 2 rfl) ?_
    refine sy_zaldN hx hb hE hP 9 rfl (show vp_in x0 40 from (im_thing hI c_2)) x0.toNatClampNeg rfl (v := g 9 x0.toNatClampNeg) rfl dX7_court_20 ?_
    refine lv_if_ne (tgt := 28) hx hb dX7_court_21 (by decide) (fun c_3 => ?_) (fun c_3 => ?_)
    · skip
      refine lv_iconst (v := 0) hx hb dX7_court_28 (by decide) ?_
      refine sy_ki (sy_rV (o := 0) (As := [.int 0]) (rest := []) ⟨hx, hb, hml, hown, hts⟩ hE hP hS (nX7_refused l hfl Z nT nK cT cK ad g q 0) (cwV 1 hts (gu_V uk_5_104 uk_5_106 uk_0_17 uk_1_9 uk_5_107) rfl rfl rfl (by decide +kernel) ⟨Nat.le_of_ble_eq_true rfl, Nat.le_of_ble_eq_true rfl⟩) (sy_recv (kc := 8) hE hP rfl (by decide) rfl rfl rfl) rfl hl.1 rfl (Nat.le_of_ble_eq_true rfl) dX7_court_29 ⟨Nat.le_of_ble_eq_true rfl, Nat.le_of_ble_eq_true rfl⟩) hS (fun r_e_4 g_e_4 q_e_4 H locs e_4 hP hS => ?_)
      cases e_4
      refine sy_top (y := 0) (by rfl) ?_
      refine lv_if_eq (tgt := 37) hx hb dX7_court_32 (by decide) (fun _ => ?_) (fun c9 => absurd c9 (by decide))
      refine lv_iload_n hx hb dX7_court_37 rfl (lv_at hl 3 rfl) ?_
      refine lv_if_eq (tgt := 49) hx hb dX7_court_38 (by decide) (fun c_5 => ?_) (fun c_5 => ?_)
      · skip
        refine lv_iconst (v := (-1)) hx hb dX7_court_49 (by decide) ?_
        refine lv_istore (lv' := [(4, .int (-1)), (3, .int (iB (0 ≤ x0 ∧ x0 ≤ (g 0 2) - 1))), (0, .ref (ad 0)), (1, .int x0), (2, .int x1)]) hx hb dX7_court_50 hl (by decide) rfl (fun ls hl => ?_)
        refine lv_aload_n hx hb dX7_court_52 rfl (lv_at hl 2 rfl) ?_
        refine sy_getRX7 hx hb hts hown hE hP 0 rfl 8 (by decide) (hts _ (u_in uk_4_198)) (v := .ref (ad 9)) rfl dX7_court_53 ?_
        refine lv_iload_n hx hb dX7_court_56 rfl (lv_at hl 3 rfl) ?_
        refine lv_iconst (v := 0) hx hb dX7_court_57 (by decide) ?_
        refine sy_zastN hx hb hE hP hS 9 rfl (show vp_in x0 40 from (im_thing hI c_2)) (by decide) x0.toNatClampNeg rfl dX7_court_58 (fun H locs hP hS => ?_)
        refine lv_iload hx hb dX7_court_59 (lv_at hl 0 rfl) ?_
        refine lv_iconst (v := (-1)) hx hb dX7_court_61 (by decide) ?_
        refine lv_icmp_eq (tgt := 102) hx hb dX7_court_62 (by decide) (fun _ => ?_) (fun c9 => absurd c9 (by decide))
        refine lv_iload hx hb dX7_court_102 (lv_at hl 0 rfl) ?_
        exact (sy_ireti hx hb hr hlocks hE hP hS dX7_court_104 ⟨Nat.le_of_ble_eq_true rfl, Nat.le_of_ble_eq_true rfl⟩ (by unfold fX7_court; rw [if_pos c_2, if_neg c_3, if_pos c_5] <;> rfl))
      · skip
        refine lv_aload_n hx hb dX7_court_41 rfl (lv_at hl 1 rfl) ?_
        refine lv_iload_n hx hb dX7_court_42 rfl (lv_at hl 2 rfl) ?_
        refine sy_ki (sy_rV (o := 0) (As := [.int x0]) (rest := []) ⟨hx, hb, hml, hown, hts⟩ hE hP hS (mX7_openOf l hfl Z nT nK cT cK ad (sy_up g 0 0 0) q x0 (im_0 (by decide) hI)) (cwV 1 hts (gu_V uk_5_212 uk_5_214 uk_0_29 uk_1_9 uk_5_215) rfl rfl rfl (by decide +kernel) ⟨Nat.le_of_ble_eq_true rfl, Nat.le_of_ble_eq_true rfl⟩) (sy_recv (kc := 8) hE hP rfl (by decide) rfl rfl rfl) rfl hl.1 rfl (Nat.le_of_ble_eq_true rfl) dX7_court_43 ⟨Nat.le_of_ble_eq_true rfl, Nat.le_of_ble_eq_true rfl⟩) hS (fun r_e_6 g_e_6 q_e_6 H locs e_6 hP hS => ?_)
        cases e_6
        refine lv_goto (tgt := 50) hx hb dX7_court_46 (by decide) ?_
        refine lv_istore (lv' := [(4, .int (fX7_openOf (sy_up g 0 0 0) q x0)), (3, .int (iB (0 ≤ x0 ∧ x0 ≤ (g 0 2) - 1))), (0, .ref (ad 0)), (1, .int x0), (2, .int x1)]) hx hb dX7_court_50 hl (by decide) rfl (fun ls hl => ?_)
        refine lv_aload_n hx hb dX7_court_52 rfl (lv_at hl 2 rfl) ?_
        refine sy_getRX7 hx hb hts hown hE hP 0 rfl 8 (by decide) (hts _ (u_in uk_4_198)) (v := .ref (ad 9)) rfl dX7_court_53 ?_
        refine lv_iload_n hx hb dX7_court_56 rfl (lv_at hl 3 rfl) ?_
        refine lv_iconst (v := 0) hx hb dX7_court_57 (by decide) ?_
        refine sy_zastN hx hb hE hP hS 9 rfl (show vp_in x0 40 from (im_thing hI c_2)) (by decide) x0.toNatClampNeg rfl dX7_court_58 (fun H locs hP hS => ?_)
        refine lv_iload hx hb dX7_court_59 (lv_at hl 0 rfl) ?_
        refine lv_iconst (v := (-1)) hx hb dX7_court_61 (by decide) ?_
        refine lv_icmp_eq (tgt := 102) hx hb dX7_court_62 (by decide) (fun c_7 => ?_) (fun c_7 => ?_)
        · skip
          refine lv_iload hx hb dX7_court_102 (lv_at hl 0 rfl) ?_
          exact (sy_ireti hx hb hr hlocks hE hP hS dX7_court_104 ⟨Nat.le_of_ble_eq_true rfl, Nat.le_of_ble_eq_true rfl⟩ (by unfold fX7_court; rw [if_pos c_2, if_neg c_3, if_neg c_5, if_pos c_7] <;> rfl))
        · skip
          refine lv_aload_n hx hb dX7_court_65 rfl (lv_at hl 2 rfl) ?_
          refine sy_getRX7 hx hb hts hown hE hP 0 rfl 38 (by decide) (hts _ (u_in uk_4_228)) (v := .ref (ad 39)) rfl dX7_court_66 ?_
          refine lv_iload hx hb dX7_court_69 (lv_at hl 0 rfl) ?_
          refine lv_iconst (v := 3) hx hb dX7_court_71 (by decide) ?_
          refine sy_iastN hx hb hE hP hS 39 rfl (show vp_in (fX7_openOf (sy_up g 0 0 0) q x0) 40 from (openOf_in (im_0 (by decide) hI) c_7)) ((fX7_openOf (sy_up g 0 0 0) q x0).toNatClampNeg) rfl dX7_court_72 (fun H locs hP hS => ?_)
          refine lv_aload_n hx hb dX7_court_73 rfl (lv_at hl 2 rfl) ?_
          refine sy_getRX7 hx hb hts hown hE hP 0 rfl 7 (by decide) (hts _ (u_in uk_4_197)) (v := .ref (ad 8)) rfl dX7_court_74 ?_
          refine lv_iload_n hx hb dX7_court_77 rfl (lv_at hl 3 rfl) ?_
          refine lv_iconst (v := 0) hx hb dX7_court_78 (by decide) ?_
          refine sy_zastN hx hb hE hP hS 8 rfl (show vp_in x0 40 from (im_thing hI c_2)) (by decide) x0.toNatClampNeg rfl dX7_court_79 (fun H locs hP hS => ?_)
          refine lv_aload_n hx hb dX7_court_80 rfl (lv_at hl 2 rfl) ?_
          refine sy_getRX7 hx hb hts hown hE hP 0 rfl 15 (by decide) (hts _ (u_in uk_4_205)) (v := .ref (ad 16)) rfl dX7_court_81 ?_
          refine lv_aload_n hx hb dX7_court_84 rfl (lv_at hl 2 rfl) ?_
          refine sy_getRX7 hx hb hts hown hE hP 0 rfl 30 (by decide) (hts _ (u_in uk_4_220)) (v := .ref (ad 31)) rfl dX7_court_85 ?_
          refine lv_iload hx hb dX7_court_88 (lv_at hl 0 rfl) ?_
          refine sy_ialdN hx hb hE hP 31 rfl (show vp_in (fX7_openOf (sy_up g 0 0 0) q x0) 40 from (openOf_in (im_0 (by decide) hI) c_7)) ((fX7_openOf (sy_up g 0 0 0) q x0).toNatClampNeg) rfl (v := g 31 ((fX7_openOf (sy_up g 0 0 0) q x0).toNatClampNeg)) rfl dX7_court_90 ?_
          refine lv_dup2_11 hx hb dX7_court_91 rfl rfl ?_
          refine sy_ialdN hx hb hE hP 16 rfl (show vp_in (g 31 ((fX7_openOf (sy_up g 0 0 0) q x0).toNatClampNeg)) 4 from (im_expertOf hI (openOf_in (im_0 (by decide) hI) c_7))) ((g 31 ((fX7_openOf (sy_up g 0 0 0) q x0).toNatClampNeg)).toNatClampNeg) rfl (v := g 16 ((g 31 ((fX7_openOf (sy_up g 0 0 0) q x0).toNatClampNeg)).toNatClampNeg)) rfl dX7_court_92 ?_
          refine lv_aload_n hx hb dX7_court_93 rfl (lv_at hl 2 rfl) ?_
          refine sy_getRX7 hx hb hts hown hE hP 0 rfl 34 (by decide) (hts _ (u_in uk_4_224)) (v := .ref (ad 35)) rfl dX7_court_94 ?_
          refine lv_iload hx hb dX7_court_97 (lv_at hl 0 rfl) ?_
          refine sy_ialdN hx hb hE hP 35 rfl (show vp_in (fX7_openOf (sy_up g 0 0 0) q x0) 40 from (openOf_in (im_0 (by decide) hI) c_7)) ((fX7_openOf (sy_up g 0 0 0) q x0).toNatClampNeg) rfl (v := g 35 ((fX7_openOf (sy_up g 0 0 0) q x0).toNatClampNeg)) rfl dX7_court_99 ?_
          refine lv_iadd hx hb dX7_court_100 ?_
          refine sy_iastN hx hb hE hP hS 16 rfl (show vp_in (g 31 ((fX7_openOf (sy_up g 0 0 0) q x0).toNatClampNeg)) 4 from (im_expertOf hI (openOf_in (im_0 (by decide) hI) c_7))) ((g 31 ((fX7_openOf (sy_up g 0 0 0) q x0).toNatClampNeg)).toNatClampNeg) rfl dX7_court_101 (fun H locs hP hS => ?_)
          refine lv_iload hx hb dX7_court_102 (lv_at hl 0 rfl) ?_
          exact (sy_ireti hx hb hr hlocks hE hP hS dX7_court_104 ⟨Nat.le_of_ble_eq_true rfl, Nat.le_of_ble_eq_true rfl⟩ (by unfold fX7_court; rw [if_pos c_2, if_neg c_3, if_neg c_5, if_neg c_7] <;> rfl))
    · skip
      refine lv_iconst (v := 2) hx hb dX7_court_24 (by decide) ?_
      refine lv_goto (tgt := 29) hx hb dX7_court_25 (by decide) ?_
      refine sy_ki (sy_rV (o := 0) (As := [.int 2]) (rest := []) ⟨hx, hb, hml, hown, hts⟩ hE hP hS (nX7_refused l hfl Z nT nK cT cK ad g q 2) (cwV 1 hts (gu_V uk_5_104 uk_5_106 uk_0_17 uk_1_9 uk_5_107) rfl rfl rfl (by decide +kernel) ⟨Nat.le_of_ble_eq_true rfl, Nat.le_of_ble_eq_true rfl⟩) (sy_recv (kc := 8) hE hP rfl (by decide) rfl rfl rfl) rfl hl.1 rfl (Nat.le_of_ble_eq_true rfl) dX7_court_29 ⟨Nat.le_of_ble_eq_true rfl, Nat.le_of_ble_eq_true rfl⟩) hS (fun r_e_8 g_e_8 q_e_8 H locs e_8 hP hS => ?_)
      cases e_8
      refine sy_top (y := 1) (by rfl) ?_
      refine lv_if_eq (tgt := 37) hx hb dX7_court_32 (by decide) (fun c9 => absurd c9 (by decide)) (fun _ => ?_)
      refine lv_iconst (v := 0) hx hb dX7_court_35 (by decide) ?_
      exact (sy_ireti hx hb hr hlocks hE hP hS dX7_court_36 ⟨Nat.le_of_ble_eq_true rfl, Nat.le_of_ble_eq_true rfl⟩ (by unfold fX7_court; rw [if_pos c_2, if_pos c_3] <;> rfl))
  · have c_2 := iB_0.mp c_2
    refine lv_iconst (v := 1) hx hb dX7_court_11 (by decide) ?_
    refine lv_goto (tgt := 29) hx hb dX7_court_12 (by decide) ?_
    refine sy_ki (sy_rV (o := 0) (As := [.int 1]) (rest := []) ⟨hx, hb, hml, hown, hts⟩ hE hP hS (nX7_refused l hfl Z nT nK cT cK ad g q 1) (cwV 1 hts (gu_V uk_5_104 uk_5_106 uk_0_17 uk_1_9 uk_5_107) rfl rfl rfl (by decide +kernel) ⟨Nat.le_of_ble_eq_true rfl, Nat.le_of_ble_eq_true rfl⟩) (sy_recv (kc := 8) hE hP rfl (by decide) rfl rfl rfl) rfl hl.1 rfl (Nat.le_of_ble_eq_true rfl) dX7_court_29 ⟨Nat.le_of_ble_eq_true rfl, Nat.le_of_ble_eq_true rfl⟩) hS (fun r_e_9 g_e_9 q_e_9 H locs e_9 hP hS => ?_)
    cases e_9
    refine sy_top (y := 1) (by rfl) ?_
    refine lv_if_eq (tgt := 37) hx hb dX7_court_32 (by decide) (fun c9 => absurd c9 (by decide)) (fun _ => ?_)
    refine lv_iconst (v := 0) hx hb dX7_court_35 (by decide) ?_
    exact (sy_ireti hx hb hr hlocks hE hP hS dX7_court_36 ⟨Nat.le_of_ble_eq_true rfl, Nat.le_of_ble_eq_true rfl⟩ (by unfold fX7_court; rw [if_neg c_2] <;> rfl))
def fX7_come (g : sG) (q : sQ) (x0 x1 : Int32) : sG := (if (g 11 x0.toNatClampNeg) = x1 then (sy_up (sy_up g 12 x0.toNatClampNeg (g 12 x0.toNatClampNeg)) 11 x0.toNatClampNeg x1) else (sy_up (sy_up g 12 x0.toNatClampNeg (g 0 1)) 11 x0.toNatClampNeg x1))
set_option maxHeartbeats 4000000 in
set_option maxRecDepth 100000 in
theorem mX7_come (l : Launch) (hfl : l.stackTraces = false) (Z : sZ) (nT nK cT cK : Nat) (ad : Nat → Nat) (g : sG) (q : sQ) (x0 x1 : Int32) {mT mK : Nat} (hI : IM mT mK g) (hx0 : vp_in x0 40) : sMv l Z yX7_come (uW (.code yX7_come cX7_come 3 none)) { frames := 0, cells := 0, slots := 0, locals := 0 } [.ref (ad 0), .int x0, .int x1] nT nK cT cK ad g q (fun g1 q1 => (g1, q1) = (fX7_come g q x0 x1, q)) := by
  refine Met.ofW (cc := cX7_come) (maxL := 3) (ret := none) (by decide) rfl ?_
  intro p e s m args below meth c s₁ B hml hv
  obtain ⟨rfl, hE, hP⟩ := hv
  have hx := B.exec
  have hb := B.bytes
  have hr := B.returns
  have hts := atoms_spec (ws := uW (.code yX7_come cX7_come 3 none)) B.pre
  have hown : s.vm.findClass RX7 = some m.cls := findClass_of_methodNamed B.named
  have hlocks := B.notSynchronized
  have hS : va_S (sy_A Z) s.heap s.heap [] := va_S.rf
  have hl := lv_entry ([.ref (ad 0), .int x0, .int x1]) (n := 3) (Nat.le_of_ble_eq_true rfl)
  rw [lg_entry_eq]
  generalize (lg_sl ([.ref (ad 0), .int x0, .int x1]) ++ List.replicate (3 - (lg_sl ([.ref (ad 0), .int x0, .int x1])).length) Slot.unset).toArray = ls at hl ⊢
  have hl : lv_has ls 3 [(0, .ref (ad 0)), (1, .int x0), (2, .int x1)] := hl
  refine lv_aload_n hx hb dX7_come_0 rfl (lv_at hl 0 rfl) ?_
  refine sy_getRX7 hx hb hts hown hE hP 0 rfl 11 (by decide) (hts _ (u_in uk_4_201)) (v := .ref (ad 12)) rfl dX7_come_1 ?_
  refine lv_iload_n hx hb dX7_come_4 rfl (lv_at hl 1 rfl) ?_
  refine lv_aload_n hx hb dX7_come_5 rfl (lv_at hl 0 rfl) ?_
  refine sy_getRX7 hx hb hts hown hE hP 0 rfl 10 (by decide) (hts _ (u_in uk_4_200)) (v := .ref (ad 11)) rfl dX7_come_6 ?_
  refine lv_iload_n hx hb dX7_come_9 rfl (lv_at hl 1 rfl) ?_
  refine sy_ialdN hx hb hE hP 11 rfl (show vp_in x0 40 from hx0) x0.toNatClampNeg rfl (v := g 11 x0.toNatClampNeg) rfl dX7_come_10 ?_
  refine lv_iload_n hx hb dX7_come_11 rfl (lv_at hl 2 rfl) ?_
  refine lv_icmp_eq (tgt := 22) hx hb dX7_come_12 (by decide) (fun c_1 => ?_) (fun c_1 => ?_)
  · skip
    refine lv_aload_n hx hb dX7_come_22 rfl (lv_at hl 0 rfl) ?_
    refine sy_getRX7 hx hb hts hown hE hP 0 rfl 11 (by decide) (hts _ (u_in uk_4_201)) (v := .ref (ad 12)) rfl dX7_come_23 ?_
    refine lv_iload_n hx hb dX7_come_26 rfl (lv_at hl 1 rfl) ?_
    refine sy_ialdN hx hb hE hP 12 rfl (show vp_in x0 40 from hx0) x0.toNatClampNeg rfl (v := g 12 x0.toNatClampNeg) rfl dX7_come_27 ?_
    refine sy_iastN hx hb hE hP hS 12 rfl (show vp_in x0 40 from hx0) x0.toNatClampNeg rfl dX7_come_28 (fun H locs hP hS => ?_)
    refine lv_aload_n hx hb dX7_come_29 rfl (lv_at hl 0 rfl) ?_
    refine sy_getRX7 hx hb hts hown hE hP 0 rfl 10 (by decide) (hts _ (u_in uk_4_200)) (v := .ref (ad 11)) rfl dX7_come_30 ?_
    refine lv_iload_n hx hb dX7_come_33 rfl (lv_at hl 1 rfl) ?_
    refine lv_iload_n hx hb dX7_come_34 rfl (lv_at hl 2 rfl) ?_
    refine sy_iastN hx hb hE hP hS 11 rfl (show vp_in x0 40 from hx0) x0.toNatClampNeg rfl dX7_come_35 (fun H locs hP hS => ?_)
    exact (sy_vret hx hb hr hlocks hE hP hS dX7_come_36 ⟨Nat.le_of_ble_eq_true rfl, Nat.le_of_ble_eq_true rfl⟩ (by unfold fX7_come; rw [if_pos c_1] <;> rfl))
  · skip
    refine lv_aload_n hx hb dX7_come_15 rfl (lv_at hl 0 rfl) ?_
    refine sy_getRX7 hx hb hts hown hE hP 0 rfl 1 (by decide) (hts _ (u_in uk_4_191)) (v := .int (g 0 1)) rfl dX7_come_16 ?_
    refine lv_goto (tgt := 28) hx hb dX7_come_19 (by decide) ?_
    refine sy_iastN hx hb hE hP hS 12 rfl (show vp_in x0 40 from hx0) x0.toNatClampNeg rfl dX7_come_28 (fun H locs hP hS => ?_)
    refine lv_aload_n hx hb dX7_come_29 rfl (lv_at hl 0 rfl) ?_
    refine sy_getRX7 hx hb hts hown hE hP 0 rfl 10 (by decide) (hts _ (u_in uk_4_200)) (v := .ref (ad 11)) rfl dX7_come_30 ?_
    refine lv_iload_n hx hb dX7_come_33 rfl (lv_at hl 1 rfl) ?_
    refine lv_iload_n hx hb dX7_come_34 rfl (lv_at hl 2 rfl) ?_
    refine sy_iastN hx hb hE hP hS 11 rfl (show vp_in x0 40 from hx0) x0.toNatClampNeg rfl dX7_come_35 (fun H locs hP hS => ?_)
    exact (sy_vret hx hb hr hlocks hE hP hS dX7_come_36 ⟨Nat.le_of_ble_eq_true rfl, Nat.le_of_ble_eq_true rfl⟩ (by unfold fX7_come; rw [if_neg c_1] <;> rfl))
def fX7_stray (g : sG) (q : sQ) (x0 x1 x2 : Int32) : sG := (if 0 ≤ x0 ∧ x0 ≤ (g 0 2) - 1 then (if 0 ≤ x1 ∧ x1 ≤ 2 then (if 0 ≤ x2 ∧ x2 ≤ 3 then (if (g 8 x0.toNatClampNeg) = 0 then (sy_up g 0 0 2) else (fX7_come (sy_up g 0 0 0) q x0 ((4 * x1) + x2))) else (sy_up g 0 0 1)) else (sy_up g 0 0 1)) else (sy_up g 0 0 1))
set_option maxHeartbeats 4000000 in
set_option maxRecDepth 100000 in
theorem mX7_stray (l : Launch) (hfl : l.stackTraces = false) (Z : sZ) (nT nK cT cK : Nat) (ad : Nat → Nat) (g : sG) (q : sQ) (x0 x1 x2 : Int32) {mT mK : Nat} (hI : IM mT mK g) : sMv l Z yX7_stray (uW (.code yX7_stray cX7_stray 5 none)) { frames := 2, cells := 0, slots := 0, locals := 43 } [.ref (ad 0), .int x0, .int x1, .int x2] nT nK cT cK ad g q (fun g1 q1 => (g1, q1) = (fX7_stray g q x0 x1 x2, q)) := by
  refine Met.ofW (cc := cX7_stray) (maxL := 5) (ret := none) (by decide) rfl ?_
  intro p e s m args below meth c s₁ B hml hv
  obtain ⟨rfl, hE, hP⟩ := hv
  have hx := B.exec
  have hb := B.bytes
  have hr := B.returns
  have hts := atoms_spec (ws := uW (.code yX7_stray cX7_stray 5 none)) B.pre
  have hown : s.vm.findClass RX7 = some m.cls := findClass_of_methodNamed B.named
  have hlocks := B.notSynchronized
  have hS : va_S (sy_A Z) s.heap s.heap [] := va_S.rf
  have hl := lv_entry ([.ref (ad 0), .int x0, .int x1, .int x2]) (n := 5) (Nat.le_of_ble_eq_true rfl)
  rw [lg_entry_eq]
  generalize (lg_sl ([.ref (ad 0), .int x0, .int x1, .int x2]) ++ List.replicate (5 - (lg_sl ([.ref (ad 0), .int x0, .int x1, .int x2])).length) Slot.unset).toArray = ls at hl ⊢
  have hl : lv_has ls 5 [(0, .ref (ad 0)), (1, .int x0), (2, .int x1), (3, .int x2)] := hl
  refine lv_aload_n hx hb dX7_stray_0 rfl (lv_at hl 0 rfl) ?_
  refine lv_iload_n hx hb dX7_stray_1 rfl (lv_at hl 1 rfl) ?_
  refine sy_ki (sy_rV (o := 0) (As := [.int x0]) (rest := []) ⟨hx, hb, hml, hown, hts⟩ hE hP hS (mX7_isThing l hfl Z nT nK cT cK ad g q x0) (cwV 1 hts (gu_V uk_5_148 uk_5_150 uk_0_19 uk_1_9 uk_5_151) rfl rfl rfl (by decide +kernel) ⟨Nat.le_of_ble_eq_true rfl, Nat.le_of_ble_eq_true rfl⟩) (sy_recv (kc := 8) hE hP rfl (by decide) rfl rfl rfl) rfl hl.1 rfl (Nat.le_of_ble_eq_true rfl) dX7_stray_2 ⟨Nat.le_of_ble_eq_true rfl, Nat.le_of_ble_eq_true rfl⟩) hS (fun r_e_1 g_e_1 q_e_1 H locs e_1 hP hS => ?_)
  cases e_1
  refine sy_top (y := (iB (0 ≤ x0 ∧ x0 ≤ (g 0 2) - 1))) (by rfl) ?_
  refine lv_if_eq (tgt := 30) hx hb dX7_stray_5 (by decide) (fun c_2 => ?_) (fun c_2 => ?_)
  · have c_2 := iB_0.mp c_2
    refine lv_iconst (v := 0) hx hb dX7_stray_30 (by decide) ?_
    refine lv_istore (lv' := [(4, .int 0), (0, .ref (ad 0)), (1, .int x0), (2, .int x1), (3, .int x2)]) hx hb dX7_stray_31 hl (by decide) rfl (fun ls hl => ?_)
    refine lv_aload_n hx hb dX7_stray_33 rfl (lv_at hl 1 rfl) ?_
    refine lv_iload hx hb dX7_stray_34 (lv_at hl 0 rfl) ?_
    refine lv_if_ne (tgt := 43) hx hb dX7_stray_36 (by decide) (fun c9 => absurd c9 (by decide)) (fun _ => ?_)
    refine lv_iconst (v := 1) hx hb dX7_stray_39 (by decide) ?_
    refine lv_goto (tgt := 57) hx hb dX7_stray_40 (by decide) ?_
    refine sy_ki (sy_rV (o := 0) (As := [.int 1]) (rest := []) ⟨hx, hb, hml, hown, hts⟩ hE hP hS (nX7_refused l hfl Z nT nK cT cK ad g q 1) (cwV 1 hts (gu_V uk_5_104 uk_5_106 uk_0_17 uk_1_9 uk_5_107) rfl rfl rfl (by decide +kernel) ⟨Nat.le_of_ble_eq_true rfl, Nat.le_of_ble_eq_true rfl⟩) (sy_recv (kc := 8) hE hP rfl (by decide) rfl rfl rfl) rfl hl.1 rfl (Nat.le_of_ble_eq_true rfl) dX7_stray_57 ⟨Nat.le_of_ble_eq_true rfl, Nat.le_of_ble_eq_true rfl⟩) hS (fun r_e_3 g_e_3 q_e_3 H locs e_3 hP hS => ?_)
    cases e_3
    refine sy_top (y := 1) (by rfl) ?_
    refine lv_if_ne (tgt := 73) hx hb dX7_stray_60 (by decide) (fun _ => ?_) (fun c9 => absurd c9 (by decide))
    exact (sy_vret hx hb hr hlocks hE hP hS dX7_stray_73 ⟨Nat.le_of_ble_eq_true rfl, Nat.le_of_ble_eq_true rfl⟩ (by unfold fX7_stray; rw [if_neg c_2] <;> rfl))
  · have c_2 := iB_n.mp c_2
    refine lv_iload_n hx hb dX7_stray_8 rfl (lv_at hl 2 rfl) ?_
    refine lv_iconst (v := 0) hx hb dX7_stray_9 (by decide) ?_
    refine lv_iconst (v := 2) hx hb dX7_stray_10 (by decide) ?_
    refine sy_ki (sy_rS (As := [.int x1, .int 0, .int 2]) (rest := []) ⟨hx, hb, hml, hown, hts⟩ hE hP hS (nX7_is l hfl Z nT nK cT cK ad g q x1 0 2) (va_cwS 3 hts (gu_S uk_5_101 uk_5_102 uk_1_9 uk_5_103) rfl rfl rfl (by decide +kernel) ⟨Nat.le_of_ble_eq_true rfl, Nat.le_of_ble_eq_true rfl⟩) rfl hl.1 rfl (Nat.le_of_ble_eq_true rfl) dX7_stray_11 ⟨Nat.le_of_ble_eq_true rfl, Nat.le_of_ble_eq_true rfl⟩) hS (fun r_e_4 g_e_4 q_e_4 H locs e_4 hP hS => ?_)
    cases e_4
    refine lv_if_eq (tgt := 30) hx hb dX7_stray_14 (by decide) (fun c_5 => ?_) (fun c_5 => ?_)
    · have c_5 := iB_0.mp c_5
      refine lv_iconst (v := 0) hx hb dX7_stray_30 (by decide) ?_
      refine lv_istore (lv' := [(4, .int 0), (0, .ref (ad 0)), (1, .int x0), (2, .int x1), (3, .int x2)]) hx hb dX7_stray_31 hl (by decide) rfl (fun ls hl => ?_)
      refine lv_aload_n hx hb dX7_stray_33 rfl (lv_at hl 1 rfl) ?_
      refine lv_iload hx hb dX7_stray_34 (lv_at hl 0 rfl) ?_
      refine lv_if_ne (tgt := 43) hx hb dX7_stray_36 (by decide) (fun c9 => absurd c9 (by decide)) (fun _ => ?_)
      refine lv_iconst (v := 1) hx hb dX7_stray_39 (by decide) ?_
      refine lv_goto (tgt := 57) hx hb dX7_stray_40 (by decide) ?_
      refine sy_ki (sy_rV (o := 0) (As := [.int 1]) (rest := []) ⟨hx, hb, hml, hown, hts⟩ hE hP hS (nX7_refused l hfl Z nT nK cT cK ad g q 1) (cwV 1 hts (gu_V uk_5_104 uk_5_106 uk_0_17 uk_1_9 uk_5_107) rfl rfl rfl (by decide +kernel) ⟨Nat.le_of_ble_eq_true rfl, Nat.le_of_ble_eq_true rfl⟩) (sy_recv (kc := 8) hE hP rfl (by decide) rfl rfl rfl) rfl hl.1 rfl (Nat.le_of_ble_eq_true rfl) dX7_stray_57 ⟨Nat.le_of_ble_eq_true rfl, Nat.le_of_ble_eq_true rfl⟩) hS (fun r_e_6 g_e_6 q_e_6 H locs e_6 hP hS => ?_)
      cases e_6
      refine sy_top (y := 1) (by rfl) ?_
      refine lv_if_ne (tgt := 73) hx hb dX7_stray_60 (by decide) (fun _ => ?_) (fun c9 => absurd c9 (by decide))
      exact (sy_vret hx hb hr hlocks hE hP hS dX7_stray_73 ⟨Nat.le_of_ble_eq_true rfl, Nat.le_of_ble_eq_true rfl⟩ (by unfold fX7_stray; rw [if_pos c_2, if_neg c_5] <;> rfl))
    · have c_5 := iB_n.mp c_5
      refine lv_iload_n hx hb dX7_stray_17 rfl (lv_at hl 3 rfl) ?_
      refine lv_iconst (v := 0) hx hb dX7_stray_18 (by decide) ?_
      refine lv_iconst (v := 3) hx hb dX7_stray_19 (by decide) ?_
      refine sy_ki (sy_rS (As := [.int x2, .int 0, .int 3]) (rest := []) ⟨hx, hb, hml, hown, hts⟩ hE hP hS (nX7_is l hfl Z nT nK cT cK ad g q x2 0 3) (va_cwS 3 hts (gu_S uk_5_101 uk_5_102 uk_1_9 uk_5_103) rfl rfl rfl (by decide +kernel) ⟨Nat.le_of_ble_eq_true rfl, Nat.le_of_ble_eq_true rfl⟩) rfl hl.1 rfl (Nat.le_of_ble_eq_true rfl) dX7_stray_20 ⟨Nat.le_of_ble_eq_true rfl, Nat.le_of_ble_eq_true rfl⟩) hS (fun r_e_7 g_e_7 q_e_7 H locs e_7 hP hS => ?_)
      cases e_7
      refine lv_if_eq (tgt := 30) hx hb dX7_stray_23 (by decide) (fun c_8 => ?_) (fun c_8 => ?_)
      · have c_8 := iB_0.mp c_8
        refine lv_iconst (v := 0) hx hb dX7_stray_30 (by decide) ?_
        refine lv_istore (lv' := [(4, .int 0), (0, .ref (ad 0)), (1, .int x0), (2, .int x1), (3, .int x2)]) hx hb dX7_stray_31 hl (by decide) rfl (fun ls hl => ?_)
        refine lv_aload_n hx hb dX7_stray_33 rfl (lv_at hl 1 rfl) ?_
        refine lv_iload hx hb dX7_stray_34 (lv_at hl 0 rfl) ?_
        refine lv_if_ne (tgt := 43) hx hb dX7_stray_36 (by decide) (fun c9 => absurd c9 (by decide)) (fun _ => ?_)
        refine lv_iconst (v := 1) hx hb dX7_stray_39 (by decide) ?_
        refine lv_goto (tgt := 57) hx hb dX7_stray_40 (by decide) ?_
        refine sy_ki (sy_rV (o := 0) (As := [.int 1]) (rest := []) ⟨hx, hb, hml, hown, hts⟩ hE hP hS (nX7_refused l hfl Z nT nK cT cK ad g q 1) (cwV 1 hts (gu_V uk_5_104 uk_5_106 uk_0_17 uk_1_9 uk_5_107) rfl rfl rfl (by decide +kernel) ⟨Nat.le_of_ble_eq_true rfl, Nat.le_of_ble_eq_true rfl⟩) (sy_recv (kc := 8) hE hP rfl (by decide) rfl rfl rfl) rfl hl.1 rfl (Nat.le_of_ble_eq_true rfl) dX7_stray_57 ⟨Nat.le_of_ble_eq_true rfl, Nat.le_of_ble_eq_true rfl⟩) hS (fun r_e_9 g_e_9 q_e_9 H locs e_9 hP hS => ?_)
        cases e_9
        refine sy_top (y := 1) (by rfl) ?_
        refine lv_if_ne (tgt := 73) hx hb dX7_stray_60 (by decide) (fun _ => ?_) (fun c9 => absurd c9 (by decide))
        exact (sy_vret hx hb hr hlocks hE hP hS dX7_stray_73 ⟨Nat.le_of_ble_eq_true rfl, Nat.le_of_ble_eq_true rfl⟩ (by unfold fX7_stray; rw [if_pos c_2, if_pos c_5, if_neg c_8] <;> rfl))
      · have c_8 := iB_n.mp c_8
        refine lv_iconst (v := 1) hx hb dX7_stray_26 (by decide) ?_
        refine lv_goto (tgt := 31) hx hb dX7_stray_27 (by decide) ?_
        refine lv_istore (lv' := [(4, .int 1), (0, .ref (ad 0)), (1, .int x0), (2, .int x1), (3, .int x2)]) hx hb dX7_stray_31 hl (by decide) rfl (fun ls hl => ?_)
        refine lv_aload_n hx hb dX7_stray_33 rfl (lv_at hl 1 rfl) ?_
        refine lv_iload hx hb dX7_stray_34 (lv_at hl 0 rfl) ?_
        refine lv_if_ne (tgt := 43) hx hb dX7_stray_36 (by decide) (fun _ => ?_) (fun c9 => absurd c9 (by decide))
        refine lv_aload_n hx hb dX7_stray_43 rfl (lv_at hl 1 rfl) ?_
        refine sy_getRX7 hx hb hts hown hE hP 0 rfl 7 (by decide) (hts _ (u_in uk_4_197)) (v := .ref (ad 8)) rfl dX7_stray_44 ?_
        refine lv_iload_n hx hb dX7_stray_47 rfl (lv_at hl 2 rfl) ?_
        refine sy_zaldN hx hb hE hP 8 rfl (show vp_in x0 40 from (im_thing hI c_2)) x0.toNatClampNeg rfl (v := g 8 x0.toNatClampNeg) rfl dX7_stray_48 ?_
        refine lv_if_ne (tgt := 56) hx hb dX7_stray_49 (by decide) (fun c_10 => ?_) (fun c_10 => ?_)
        · skip
          refine lv_iconst (v := 0) hx hb dX7_stray_56 (by decide) ?_
          refine sy_ki (sy_rV (o := 0) (As := [.int 0]) (rest := []) ⟨hx, hb, hml, hown, hts⟩ hE hP hS (nX7_refused l hfl Z nT nK cT cK ad g q 0) (cwV 1 hts (gu_V uk_5_104 uk_5_106 uk_0_17 uk_1_9 uk_5_107) rfl rfl rfl (by decide +kernel) ⟨Nat.le_of_ble_eq_true rfl, Nat.le_of_ble_eq_true rfl⟩) (sy_recv (kc := 8) hE hP rfl (by decide) rfl rfl rfl) rfl hl.1 rfl (Nat.le_of_ble_eq_true rfl) dX7_stray_57 ⟨Nat.le_of_ble_eq_true rfl, Nat.le_of_ble_eq_true rfl⟩) hS (fun r_e_11 g_e_11 q_e_11 H locs e_11 hP hS => ?_)
          cases e_11
          refine sy_top (y := 0) (by rfl) ?_
          refine lv_if_ne (tgt := 73) hx hb dX7_stray_60 (by decide) (fun c9 => absurd c9 (by decide)) (fun _ => ?_)
          refine lv_aload_n hx hb dX7_stray_63 rfl (lv_at hl 1 rfl) ?_
          refine lv_iload_n hx hb dX7_stray_64 rfl (lv_at hl 2 rfl) ?_
          refine lv_iconst (v := 4) hx hb dX7_stray_65 (by decide) ?_
          refine lv_iload_n hx hb dX7_stray_66 rfl (lv_at hl 3 rfl) ?_
          refine lv_imul hx hb dX7_stray_67 ?_
          refine lv_iload_n hx hb dX7_stray_68 rfl (lv_at hl 4 rfl) ?_
          refine lv_iadd hx hb dX7_stray_69 ?_
          refine sy_kv (sy_rV (o := 0) (As := [.int x0, .int ((4 * x1) + x2)]) (rest := []) ⟨hx, hb, hml, hown, hts⟩ hE hP hS (mX7_come l hfl Z nT nK cT cK ad (sy_up g 0 0 0) q x0 ((4 * x1) + x2) (im_0 (by decide) hI) (show vp_in x0 40 from (im_thing hI c_2))) (cwV 2 hts (gu_V uk_5_224 uk_5_226 uk_0_30 uk_1_9 uk_5_227) rfl rfl rfl (by decide +kernel) ⟨Nat.le_of_ble_eq_true rfl, Nat.le_of_ble_eq_true rfl⟩) (sy_recv (kc := 8) hE hP rfl (by decide) rfl rfl rfl) rfl hl.1 rfl (Nat.le_of_ble_eq_true rfl) dX7_stray_70 ⟨Nat.le_of_ble_eq_true rfl, Nat.le_of_ble_eq_true rfl⟩) hS (fun g_e_12 q_e_12 H locs e_12 hP hS => ?_)
          cases e_12
          exact (sy_vret hx hb hr hlocks hE hP hS dX7_stray_73 ⟨Nat.le_of_ble_eq_true rfl, Nat.le_of_ble_eq_true rfl⟩ (by unfold fX7_stray; rw [if_pos c_2, if_pos c_5, if_pos c_8, if_neg c_10] <;> rfl))
        · skip
          refine lv_iconst (v := 2) hx hb dX7_stray_52 (by decide) ?_
          refine lv_goto (tgt := 57) hx hb dX7_stray_53 (by decide) ?_
          refine sy_ki (sy_rV (o := 0) (As := [.int 2]) (rest := []) ⟨hx, hb, hml, hown, hts⟩ hE hP hS (nX7_refused l hfl Z nT nK cT cK ad g q 2) (cwV 1 hts (gu_V uk_5_104 uk_5_106 uk_0_17 uk_1_9 uk_5_107) rfl rfl rfl (by decide +kernel) ⟨Nat.le_of_ble_eq_true rfl, Nat.le_of_ble_eq_true rfl⟩) (sy_recv (kc := 8) hE hP rfl (by decide) rfl rfl rfl) rfl hl.1 rfl (Nat.le_of_ble_eq_true rfl) dX7_stray_57 ⟨Nat.le_of_ble_eq_true rfl, Nat.le_of_ble_eq_true rfl⟩) hS (fun r_e_13 g_e_13 q_e_13 H locs e_13 hP hS => ?_)
          cases e_13
          refine sy_top (y := 1) (by rfl) ?_
          refine lv_if_ne (tgt := 73) hx hb dX7_stray_60 (by decide) (fun _ => ?_) (fun c9 => absurd c9 (by decide))
          exact (sy_vret hx hb hr hlocks hE hP hS dX7_stray_73 ⟨Nat.le_of_ble_eq_true rfl, Nat.le_of_ble_eq_true rfl⟩ (by unfold fX7_stray; rw [if_pos c_2, if_pos c_5, if_pos c_8, if_pos c_10] <;> rfl))
def fX7_transfer (g : sG) (q : sQ) (x0 x1 : Int32) : Int32 × sG := (if 0 ≤ x0 ∧ x0 ≤ (g 0 2) - 1 then (if 0 ≤ x1 ∧ x1 ≤ 2 then (if (fX7_isFound g q x0) = 0 then (0, (sy_up g 0 0 2)) else (if (fX7_shelfFor g q x0 x1) = (-1) then (0, (sy_up g 0 0 2)) else ((fX7_shelfFor g q x0 x1), (sy_up (fX7_come (sy_up g 0 0 0) q x0 ((4 * x1) + (fX7_shelfFor g q x0 x1))) 10 x0.toNatClampNeg ((fX7_come (sy_up g 0 0 0) q x0 ((4 * x1) + (fX7_shelfFor g q x0 x1))) 11 x0.toNatClampNeg))))) else (0, (sy_up g 0 0 1))) else (0, (sy_up g 0 0 1)))
set_option maxHeartbeats 4000000 in
set_option maxRecDepth 100000 in
theorem mX7_transfer (l : Launch) (hfl : l.stackTraces = false) (Z : sZ) (nT nK cT cK : Nat) (ad : Nat → Nat) (g : sG) (q : sQ) (x0 x1 : Int32) {mT mK : Nat} (hI : IM mT mK g) : sMi l Z yX7_transfer (uW (.code yX7_transfer cX7_transfer 5 (some .int))) { frames := 2, cells := 0, slots := 0, locals := 48 } [.ref (ad 0), .int x0, .int x1] nT nK cT cK ad g q (fun r g1 q1 => (r, g1, q1) = ((fX7_transfer g q x0 x1).1, (fX7_transfer g q x0 x1).2, q)) := by
  refine Met.ofW (cc := cX7_transfer) (maxL := 5) (ret := (some .int)) (by decide) rfl ?_
  intro p e s m args below meth c s₁ B hml hv
  obtain ⟨rfl, hE, hP⟩ := hv
  have hx := B.exec
  have hb := B.bytes
  have hr := B.returns
  have hts := atoms_spec (ws := uW (.code yX7_transfer cX7_transfer 5 (some .int))) B.pre
  have hown : s.vm.findClass RX7 = some m.cls := findClass_of_methodNamed B.named
  have hlocks := B.notSynchronized
  have hS : va_S (sy_A Z) s.heap s.heap [] := va_S.rf
  have hl := lv_entry ([.ref (ad 0), .int x0, .int x1]) (n := 5) (Nat.le_of_ble_eq_true rfl)
  rw [lg_entry_eq]
  generalize (lg_sl ([.ref (ad 0), .int x0, .int x1]) ++ List.replicate (5 - (lg_sl ([.ref (ad 0), .int x0, .int x1])).length) Slot.unset).toArray = ls at hl ⊢
  have hl : lv_has ls 5 [(0, .ref (ad 0)), (1, .int x0), (2, .int x1)] := hl
  refine lv_aload_n hx hb dX7_transfer_0 rfl (lv_at hl 0 rfl) ?_
  refine lv_iload_n hx hb dX7_transfer_1 rfl (lv_at hl 1 rfl) ?_
  refine sy_ki (sy_rV (o := 0) (As := [.int x0]) (rest := []) ⟨hx, hb, hml, hown, hts⟩ hE hP hS (mX7_isThing l hfl Z nT nK cT cK ad g q x0) (cwV 1 hts (gu_V uk_5_148 uk_5_150 uk_0_19 uk_1_9 uk_5_151) rfl rfl rfl (by decide +kernel) ⟨Nat.le_of_ble_eq_true rfl, Nat.le_of_ble_eq_true rfl⟩) (sy_recv (kc := 8) hE hP rfl (by decide) rfl rfl rfl) rfl hl.1 rfl (Nat.le_of_ble_eq_true rfl) dX7_transfer_2 ⟨Nat.le_of_ble_eq_true rfl, Nat.le_of_ble_eq_true rfl⟩) hS (fun r_e_1 g_e_1 q_e_1 H locs e_1 hP hS => ?_)
  cases e_1
  refine sy_top (y := (iB (0 ≤ x0 ∧ x0 ≤ (g 0 2) - 1))) (by rfl) ?_
  refine lv_if_eq (tgt := 21) hx hb dX7_transfer_5 (by decide) (fun c_2 => ?_) (fun c_2 => ?_)
  · have c_2 := iB_0.mp c_2
    refine lv_iconst (v := 0) hx hb dX7_transfer_21 (by decide) ?_
    refine lv_istore_n (lv' := [(3, .int 0), (0, .ref (ad 0)), (1, .int x0), (2, .int x1)]) hx hb dX7_transfer_22 rfl hl (by decide) rfl (fun ls hl => ?_)
    refine lv_iload_n hx hb dX7_transfer_23 rfl (lv_at hl 0 rfl) ?_
    refine lv_if_eq (tgt := 36) hx hb dX7_transfer_24 (by decide) (fun _ => ?_) (fun c9 => absurd c9 (by decide))
    refine lv_iconst (v := (-1)) hx hb dX7_transfer_36 (by decide) ?_
    refine lv_istore (lv' := [(4, .int (-1)), (3, .int 0), (0, .ref (ad 0)), (1, .int x0), (2, .int x1)]) hx hb dX7_transfer_37 hl (by decide) rfl (fun ls hl => ?_)
    refine lv_aload_n hx hb dX7_transfer_39 rfl (lv_at hl 2 rfl) ?_
    refine lv_iload_n hx hb dX7_transfer_40 rfl (lv_at hl 1 rfl) ?_
    refine lv_if_ne (tgt := 48) hx hb dX7_transfer_41 (by decide) (fun c9 => absurd c9 (by decide)) (fun _ => ?_)
    refine lv_iconst (v := 1) hx hb dX7_transfer_44 (by decide) ?_
    refine lv_goto (tgt := 67) hx hb dX7_transfer_45 (by decide) ?_
    refine sy_ki (sy_rV (o := 0) (As := [.int 1]) (rest := []) ⟨hx, hb, hml, hown, hts⟩ hE hP hS (nX7_refused l hfl Z nT nK cT cK ad g q 1) (cwV 1 hts (gu_V uk_5_104 uk_5_106 uk_0_17 uk_1_9 uk_5_107) rfl rfl rfl (by decide +kernel) ⟨Nat.le_of_ble_eq_true rfl, Nat.le_of_ble_eq_true rfl⟩) (sy_recv (kc := 8) hE hP rfl (by decide) rfl rfl rfl) rfl hl.1 rfl (Nat.le_of_ble_eq_true rfl) dX7_transfer_67 ⟨Nat.le_of_ble_eq_true rfl, Nat.le_of_ble_eq_true rfl⟩) hS (fun r_e_3 g_e_3 q_e_3 H locs e_3 hP hS => ?_)
    cases e_3
    refine sy_top (y := 1) (by rfl) ?_
    refine lv_if_eq (tgt := 75) hx hb dX7_transfer_70 (by decide) (fun c9 => absurd c9 (by decide)) (fun _ => ?_)
    refine lv_iconst (v := 0) hx hb dX7_transfer_73 (by decide) ?_
    exact (sy_ireti hx hb hr hlocks hE hP hS dX7_transfer_74 ⟨Nat.le_of_ble_eq_true rfl, Nat.le_of_ble_eq_true rfl⟩ (by unfold fX7_transfer; rw [if_neg c_2] <;> rfl))
  · have c_2 := iB_n.mp c_2
    refine lv_iload_n hx hb dX7_transfer_8 rfl (lv_at hl 2 rfl) ?_
    refine lv_iconst (v := 0) hx hb dX7_transfer_9 (by decide) ?_
    refine lv_iconst (v := 2) hx hb dX7_transfer_10 (by decide) ?_
    refine sy_ki (sy_rS (As := [.int x1, .int 0, .int 2]) (rest := []) ⟨hx, hb, hml, hown, hts⟩ hE hP hS (nX7_is l hfl Z nT nK cT cK ad g q x1 0 2) (va_cwS 3 hts (gu_S uk_5_101 uk_5_102 uk_1_9 uk_5_103) rfl rfl rfl (by decide +kernel) ⟨Nat.le_of_ble_eq_true rfl, Nat.le_of_ble_eq_true rfl⟩) rfl hl.1 rfl (Nat.le_of_ble_eq_true rfl) dX7_transfer_11 ⟨Nat.le_of_ble_eq_true rfl, Nat.le_of_ble_eq_true rfl⟩) hS (fun r_e_4 g_e_4 q_e_4 H locs e_4 hP hS => ?_)
    cases e_4
    refine lv_if_eq (tgt := 21) hx hb dX7_transfer_14 (by decide) (fun c_5 => ?_) (fun c_5 => ?_)
    · have c_5 := iB_0.mp c_5
      refine lv_iconst (v := 0) hx hb dX7_transfer_21 (by decide) ?_
      refine lv_istore_n (lv' := [(3, .int 0), (0, .ref (ad 0)), (1, .int x0), (2, .int x1)]) hx hb dX7_transfer_22 rfl hl (by decide) rfl (fun ls hl => ?_)
      refine lv_iload_n hx hb dX7_transfer_23 rfl (lv_at hl 0 rfl) ?_
      refine lv_if_eq (tgt := 36) hx hb dX7_transfer_24 (by decide) (fun _ => ?_) (fun c9 => absurd c9 (by decide))
      refine lv_iconst (v := (-1)) hx hb dX7_transfer_36 (by decide) ?_
      refine lv_istore (lv' := [(4, .int (-1)), (3, .int 0), (0, .ref (ad 0)), (1, .int x0), (2, .int x1)]) hx hb dX7_transfer_37 hl (by decide) rfl (fun ls hl => ?_)
      refine lv_aload_n hx hb dX7_transfer_39 rfl (lv_at hl 2 rfl) ?_
      refine lv_iload_n hx hb dX7_transfer_40 rfl (lv_at hl 1 rfl) ?_
      refine lv_if_ne (tgt := 48) hx hb dX7_transfer_41 (by decide) (fun c9 => absurd c9 (by decide)) (fun _ => ?_)
      refine lv_iconst (v := 1) hx hb dX7_transfer_44 (by decide) ?_
      refine lv_goto (tgt := 67) hx hb dX7_transfer_45 (by decide) ?_
      refine sy_ki (sy_rV (o := 0) (As := [.int 1]) (rest := []) ⟨hx, hb, hml, hown, hts⟩ hE hP hS (nX7_refused l hfl Z nT nK cT cK ad g q 1) (cwV 1 hts (gu_V uk_5_104 uk_5_106 uk_0_17 uk_1_9 uk_5_107) rfl rfl rfl (by decide +kernel) ⟨Nat.le_of_ble_eq_true rfl, Nat.le_of_ble_eq_true rfl⟩) (sy_recv (kc := 8) hE hP rfl (by decide) rfl rfl rfl) rfl hl.1 rfl (Nat.le_of_ble_eq_true rfl) dX7_transfer_67 ⟨Nat.le_of_ble_eq_true rfl, Nat.le_of_ble_eq_true rfl⟩) hS (fun r_e_6 g_e_6 q_e_6 H locs e_6 hP hS => ?_)
      cases e_6
      refine sy_top (y := 1) (by rfl) ?_
      refine lv_if_eq (tgt := 75) hx hb dX7_transfer_70 (by decide) (fun c9 => absurd c9 (by decide)) (fun _ => ?_)
      refine lv_iconst (v := 0) hx hb dX7_transfer_73 (by decide) ?_
      exact (sy_ireti hx hb hr hlocks hE hP hS dX7_transfer_74 ⟨Nat.le_of_ble_eq_true rfl, Nat.le_of_ble_eq_true rfl⟩ (by unfold fX7_transfer; rw [if_pos c_2, if_neg c_5] <;> rfl))
    · have c_5 := iB_n.mp c_5
      refine lv_iconst (v := 1) hx hb dX7_transfer_17 (by decide) ?_
      refine lv_goto (tgt := 22) hx hb dX7_transfer_18 (by decide) ?_
      refine lv_istore_n (lv' := [(3, .int 1), (0, .ref (ad 0)), (1, .int x0), (2, .int x1)]) hx hb dX7_transfer_22 rfl hl (by decide) rfl (fun ls hl => ?_)
      refine lv_iload_n hx hb dX7_transfer_23 rfl (lv_at hl 0 rfl) ?_
      refine lv_if_eq (tgt := 36) hx hb dX7_transfer_24 (by decide) (fun c9 => absurd c9 (by decide)) (fun _ => ?_)
      refine lv_aload_n hx hb dX7_transfer_27 rfl (lv_at hl 1 rfl) ?_
      refine lv_iload_n hx hb dX7_transfer_28 rfl (lv_at hl 2 rfl) ?_
      refine lv_iload_n hx hb dX7_transfer_29 rfl (lv_at hl 3 rfl) ?_
      refine sy_ki (sy_rV (o := 0) (As := [.int x0, .int x1]) (rest := []) ⟨hx, hb, hml, hown, hts⟩ hE hP hS (mX7_shelfFor l hfl Z nT nK cT cK ad g q x0 x1 hI (show vp_in x0 40 from (im_thing hI c_2))) (cwV 2 hts (gu_V uk_5_160 uk_5_162 uk_0_22 uk_1_9 uk_5_163) rfl rfl rfl (by decide +kernel) ⟨Nat.le_of_ble_eq_true rfl, Nat.le_of_ble_eq_true rfl⟩) (sy_recv (kc := 8) hE hP rfl (by decide) rfl rfl rfl) rfl hl.1 rfl (Nat.le_of_ble_eq_true rfl) dX7_transfer_30 ⟨Nat.le_of_ble_eq_true rfl, Nat.le_of_ble_eq_true rfl⟩) hS (fun r_e_7 g_e_7 q_e_7 H locs e_7 hP hS => ?_)
      cases e_7
      refine lv_goto (tgt := 37) hx hb dX7_transfer_33 (by decide) ?_
      refine lv_istore (lv' := [(4, .int (fX7_shelfFor g q x0 x1)), (3, .int 1), (0, .ref (ad 0)), (1, .int x0), (2, .int x1)]) hx hb dX7_transfer_37 hl (by decide) rfl (fun ls hl => ?_)
      refine lv_aload_n hx hb dX7_transfer_39 rfl (lv_at hl 2 rfl) ?_
      refine lv_iload_n hx hb dX7_transfer_40 rfl (lv_at hl 1 rfl) ?_
      refine lv_if_ne (tgt := 48) hx hb dX7_transfer_41 (by decide) (fun _ => ?_) (fun c9 => absurd c9 (by decide))
      refine lv_aload_n hx hb dX7_transfer_48 rfl (lv_at hl 2 rfl) ?_
      refine lv_iload_n hx hb dX7_transfer_49 rfl (lv_at hl 3 rfl) ?_
      refine sy_ki (sy_rV (o := 0) (As := [.int x0]) (rest := [.ref (ad 0)]) ⟨hx, hb, hml, hown, hts⟩ hE hP hS (mX7_isFound l hfl Z nT nK cT cK ad g q x0 hI (show vp_in x0 40 from (im_thing hI c_2))) (cwV 1 hts (gu_V uk_5_180 uk_5_182 uk_0_26 uk_1_9 uk_5_183) rfl rfl rfl (by decide +kernel) ⟨Nat.le_of_ble_eq_true rfl, Nat.le_of_ble_eq_true rfl⟩) (sy_recv (kc := 8) hE hP rfl (by decide) rfl rfl rfl) rfl hl.1 rfl (Nat.le_of_ble_eq_true rfl) dX7_transfer_50 ⟨Nat.le_of_ble_eq_true rfl, Nat.le_of_ble_eq_true rfl⟩) hS (fun r_e_8 g_e_8 q_e_8 H locs e_8 hP hS => ?_)
      cases e_8
      refine lv_if_eq (tgt := 62) hx hb dX7_transfer_53 (by decide) (fun c_9 => ?_) (fun c_9 => ?_)
      · skip
        refine lv_iconst (v := 2) hx hb dX7_transfer_62 (by decide) ?_
        refine lv_goto (tgt := 67) hx hb dX7_transfer_63 (by decide) ?_
        refine sy_ki (sy_rV (o := 0) (As := [.int 2]) (rest := []) ⟨hx, hb, hml, hown, hts⟩ hE hP hS (nX7_refused l hfl Z nT nK cT cK ad g q 2) (cwV 1 hts (gu_V uk_5_104 uk_5_106 uk_0_17 uk_1_9 uk_5_107) rfl rfl rfl (by decide +kernel) ⟨Nat.le_of_ble_eq_true rfl, Nat.le_of_ble_eq_true rfl⟩) (sy_recv (kc := 8) hE hP rfl (by decide) rfl rfl rfl) rfl hl.1 rfl (Nat.le_of_ble_eq_true rfl) dX7_transfer_67 ⟨Nat.le_of_ble_eq_true rfl, Nat.le_of_ble_eq_true rfl⟩) hS (fun r_e_10 g_e_10 q_e_10 H locs e_10 hP hS => ?_)
        cases e_10
        refine sy_top (y := 1) (by rfl) ?_
        refine lv_if_eq (tgt := 75) hx hb dX7_transfer_70 (by decide) (fun c9 => absurd c9 (by decide)) (fun _ => ?_)
        refine lv_iconst (v := 0) hx hb dX7_transfer_73 (by decide) ?_
        exact (sy_ireti hx hb hr hlocks hE hP hS dX7_transfer_74 ⟨Nat.le_of_ble_eq_true rfl, Nat.le_of_ble_eq_true rfl⟩ (by unfold fX7_transfer; rw [if_pos c_2, if_pos c_5, if_pos c_9] <;> rfl))
      · skip
        refine lv_iload hx hb dX7_transfer_56 (lv_at hl 0 rfl) ?_
        refine lv_iconst (v := (-1)) hx hb dX7_transfer_58 (by decide) ?_
        refine lv_icmp_ne (tgt := 66) hx hb dX7_transfer_59 (by decide) (fun c_11 => ?_) (fun c_11 => ?_)
        · skip
          refine lv_iconst (v := 0) hx hb dX7_transfer_66 (by decide) ?_
          refine sy_ki (sy_rV (o := 0) (As := [.int 0]) (rest := []) ⟨hx, hb, hml, hown, hts⟩ hE hP hS (nX7_refused l hfl Z nT nK cT cK ad g q 0) (cwV 1 hts (gu_V uk_5_104 uk_5_106 uk_0_17 uk_1_9 uk_5_107) rfl rfl rfl (by decide +kernel) ⟨Nat.le_of_ble_eq_true rfl, Nat.le_of_ble_eq_true rfl⟩) (sy_recv (kc := 8) hE hP rfl (by decide) rfl rfl rfl) rfl hl.1 rfl (Nat.le_of_ble_eq_true rfl) dX7_transfer_67 ⟨Nat.le_of_ble_eq_true rfl, Nat.le_of_ble_eq_true rfl⟩) hS (fun r_e_12 g_e_12 q_e_12 H locs e_12 hP hS => ?_)
          cases e_12
          refine sy_top (y := 0) (by rfl) ?_
          refine lv_if_eq (tgt := 75) hx hb dX7_transfer_70 (by decide) (fun _ => ?_) (fun c9 => absurd c9 (by decide))
          refine lv_aload_n hx hb dX7_transfer_75 rfl (lv_at hl 2 rfl) ?_
          refine lv_iload_n hx hb dX7_transfer_76 rfl (lv_at hl 3 rfl) ?_
          refine lv_iconst (v := 4) hx hb dX7_transfer_77 (by decide) ?_
          refine lv_iload_n hx hb dX7_transfer_78 rfl (lv_at hl 4 rfl) ?_
          refine lv_imul hx hb dX7_transfer_79 ?_
          refine lv_iload hx hb dX7_transfer_80 (lv_at hl 0 rfl) ?_
          refine lv_iadd hx hb dX7_transfer_82 ?_
          refine sy_kv (sy_rV (o := 0) (As := [.int x0, .int ((4 * x1) + (fX7_shelfFor g q x0 x1))]) (rest := []) ⟨hx, hb, hml, hown, hts⟩ hE hP hS (mX7_come l hfl Z nT nK cT cK ad (sy_up g 0 0 0) q x0 ((4 * x1) + (fX7_shelfFor g q x0 x1)) (im_0 (by decide) hI) (show vp_in x0 40 from (im_thing hI c_2))) (cwV 2 hts (gu_V uk_5_224 uk_5_226 uk_0_30 uk_1_9 uk_5_227) rfl rfl rfl (by decide +kernel) ⟨Nat.le_of_ble_eq_true rfl, Nat.le_of_ble_eq_true rfl⟩) (sy_recv (kc := 8) hE hP rfl (by decide) rfl rfl rfl) rfl hl.1 rfl (Nat.le_of_ble_eq_true rfl) dX7_transfer_83 ⟨Nat.le_of_ble_eq_true rfl, Nat.le_of_ble_eq_true rfl⟩) hS (fun g_e_13 q_e_13 H locs e_13 hP hS => ?_)
          cases e_13
          refine lv_aload_n hx hb dX7_transfer_86 rfl (lv_at hl 2 rfl) ?_
          refine sy_getRX7 hx hb hts hown hE hP 0 rfl 9 (by decide) (hts _ (u_in uk_4_199)) (v := .ref (ad 10)) rfl dX7_transfer_87 ?_
          refine lv_iload_n hx hb dX7_transfer_90 rfl (lv_at hl 3 rfl) ?_
          refine lv_aload_n hx hb dX7_transfer_91 rfl (lv_at hl 2 rfl) ?_
          refine sy_getRX7 hx hb hts hown hE hP 0 rfl 10 (by decide) (hts _ (u_in uk_4_200)) (v := .ref (ad 11)) rfl dX7_transfer_92 ?_
          refine lv_iload_n hx hb dX7_transfer_95 rfl (lv_at hl 3 rfl) ?_
          refine sy_ialdN hx hb hE hP 11 rfl (show vp_in x0 40 from (im_thing hI c_2)) x0.toNatClampNeg rfl (v := (fX7_come (sy_up g 0 0 0) q x0 ((4 * x1) + (fX7_shelfFor g q x0 x1))) 11 x0.toNatClampNeg) rfl dX7_transfer_96 ?_
          refine sy_iastN hx hb hE hP hS 10 rfl (show vp_in x0 40 from (im_thing hI c_2)) x0.toNatClampNeg rfl dX7_transfer_97 (fun H locs hP hS => ?_)
          refine lv_iload hx hb dX7_transfer_98 (lv_at hl 0 rfl) ?_
          exact (sy_ireti hx hb hr hlocks hE hP hS dX7_transfer_100 ⟨Nat.le_of_ble_eq_true rfl, Nat.le_of_ble_eq_true rfl⟩ (by unfold fX7_transfer; rw [if_pos c_2, if_pos c_5, if_neg c_9, if_neg c_11] <;> rfl))
        · skip
          refine lv_iconst (v := 2) hx hb dX7_transfer_62 (by decide) ?_
          refine lv_goto (tgt := 67) hx hb dX7_transfer_63 (by decide) ?_
          refine sy_ki (sy_rV (o := 0) (As := [.int 2]) (rest := []) ⟨hx, hb, hml, hown, hts⟩ hE hP hS (nX7_refused l hfl Z nT nK cT cK ad g q 2) (cwV 1 hts (gu_V uk_5_104 uk_5_106 uk_0_17 uk_1_9 uk_5_107) rfl rfl rfl (by decide +kernel) ⟨Nat.le_of_ble_eq_true rfl, Nat.le_of_ble_eq_true rfl⟩) (sy_recv (kc := 8) hE hP rfl (by decide) rfl rfl rfl) rfl hl.1 rfl (Nat.le_of_ble_eq_true rfl) dX7_transfer_67 ⟨Nat.le_of_ble_eq_true rfl, Nat.le_of_ble_eq_true rfl⟩) hS (fun r_e_14 g_e_14 q_e_14 H locs e_14 hP hS => ?_)
          cases e_14
          refine sy_top (y := 1) (by rfl) ?_
          refine lv_if_eq (tgt := 75) hx hb dX7_transfer_70 (by decide) (fun c9 => absurd c9 (by decide)) (fun _ => ?_)
          refine lv_iconst (v := 0) hx hb dX7_transfer_73 (by decide) ?_
          exact (sy_ireti hx hb hr hlocks hE hP hS dX7_transfer_74 ⟨Nat.le_of_ble_eq_true rfl, Nat.le_of_ble_eq_true rfl⟩ (by unfold fX7_transfer; rw [if_pos c_2, if_pos c_5, if_neg c_9, if_pos c_11] <;> rfl))
def fX7_offer (g : sG) (q : sQ) (x0 x1 : Int32) : Int32 × sG := (if 0 ≤ x0 ∧ x0 ≤ (g 0 28) - 1 then (if (g 39 x0.toNatClampNeg) = 0 then (if (g 0 1) ≤ ((g 37 x0.toNatClampNeg) + (g 38 x0.toNatClampNeg)) then (if 0 ≤ x1 ∧ x1 ≤ 100000 then (0, (sy_up g 0 0 3)) else (0, (sy_up g 0 0 2))) else (if (fX7_bars g q x0) = 0 then (if (fX7_isFound g q (g 30 x0.toNatClampNeg)) = 0 then (if 0 ≤ x1 ∧ x1 ≤ 100000 then (0, (sy_up g 0 0 3)) else (0, (sy_up g 0 0 2))) else (if 0 ≤ x1 ∧ x1 ≤ 100000 then (if (g 40 x0.toNatClampNeg) = 0 then (if ((g 35 x0.toNatClampNeg) + (fX7_interest (sy_up g 0 0 0) q x0)) ≤ x1 then (if (((x1 - (g 35 x0.toNatClampNeg)) - (fX7_interest (sy_up g 0 0 0) q x0)) - ((5 * x1) / 100)) ≤ 0 then ((((x1 - (g 35 x0.toNatClampNeg)) - (fX7_interest (sy_up g 0 0 0) q x0)) - ((5 * x1) / 100)), (sy_up (sy_up (sy_up (sy_up (sy_up (sy_up g 0 0 0) 39 x0.toNatClampNeg 2) 8 ((g 30 x0.toNatClampNeg).toNatClampNeg) 0) 0 44 ((g 0 44) + x1)) 17 ((g 31 x0.toNatClampNeg).toNatClampNeg) ((g 17 ((g 31 x0.toNatClampNeg).toNatClampNeg)) + (x1 - (g 36 x0.toNatClampNeg)))) 16 ((g 31 x0.toNatClampNeg).toNatClampNeg) ((g 16 ((g 31 x0.toNatClampNeg).toNatClampNeg)) - (((x1 - (g 35 x0.toNatClampNeg)) - (fX7_interest (sy_up g 0 0 0) q x0)) - ((5 * x1) / 100))))) else ((((x1 - (g 35 x0.toNatClampNeg)) - (fX7_interest (sy_up g 0 0 0) q x0)) - ((5 * x1) / 100)), (sy_up (sy_up (sy_up (sy_up (sy_up (sy_up (sy_up (sy_up g 0 0 0) 39 x0.toNatClampNeg 2) 8 ((g 30 x0.toNatClampNeg).toNatClampNeg) 0) 0 44 ((g 0 44) + x1)) 17 ((g 31 x0.toNatClampNeg).toNatClampNeg) ((g 17 ((g 31 x0.toNatClampNeg).toNatClampNeg)) + (x1 - (g 36 x0.toNatClampNeg)))) 43 x0.toNatClampNeg (((x1 - (g 35 x0.toNatClampNeg)) - (fX7_interest (sy_up g 0 0 0) q x0)) - ((5 * x1) / 100))) 0 45 ((g 0 45) + (((x1 - (g 35 x0.toNatClampNeg)) - (fX7_interest (sy_up g 0 0 0) q x0)) - ((5 * x1) / 100)))) 44 x0.toNatClampNeg (g 0 1)))) else ((-2147483648), (sy_up (sy_up g 0 0 0) 40 x0.toNatClampNeg ((g 40 x0.toNatClampNeg) + 1)))) else (if (g 40 x0.toNatClampNeg) = 1 then (if (g 35 x0.toNatClampNeg) ≤ x1 then (if (((x1 - (g 35 x0.toNatClampNeg)) - (fX7_interest (sy_up g 0 0 0) q x0)) - ((5 * x1) / 100)) ≤ 0 then ((((x1 - (g 35 x0.toNatClampNeg)) - (fX7_interest (sy_up g 0 0 0) q x0)) - ((5 * x1) / 100)), (sy_up (sy_up (sy_up (sy_up (sy_up (sy_up g 0 0 0) 39 x0.toNatClampNeg 2) 8 ((g 30 x0.toNatClampNeg).toNatClampNeg) 0) 0 44 ((g 0 44) + x1)) 17 ((g 31 x0.toNatClampNeg).toNatClampNeg) ((g 17 ((g 31 x0.toNatClampNeg).toNatClampNeg)) + (x1 - (g 36 x0.toNatClampNeg)))) 16 ((g 31 x0.toNatClampNeg).toNatClampNeg) ((g 16 ((g 31 x0.toNatClampNeg).toNatClampNeg)) - (((x1 - (g 35 x0.toNatClampNeg)) - (fX7_interest (sy_up g 0 0 0) q x0)) - ((5 * x1) / 100))))) else ((((x1 - (g 35 x0.toNatClampNeg)) - (fX7_interest (sy_up g 0 0 0) q x0)) - ((5 * x1) / 100)), (sy_up (sy_up (sy_up (sy_up (sy_up (sy_up (sy_up (sy_up g 0 0 0) 39 x0.toNatClampNeg 2) 8 ((g 30 x0.toNatClampNeg).toNatClampNeg) 0) 0 44 ((g 0 44) + x1)) 17 ((g 31 x0.toNatClampNeg).toNatClampNeg) ((g 17 ((g 31 x0.toNatClampNeg).toNatClampNeg)) + (x1 - (g 36 x0.toNatClampNeg)))) 43 x0.toNatClampNeg (((x1 - (g 35 x0.toNatClampNeg)) - (fX7_interest (sy_up g 0 0 0) q x0)) - ((5 * x1) / 100))) 0 45 ((g 0 45) + (((x1 - (g 35 x0.toNatClampNeg)) - (fX7_interest (sy_up g 0 0 0) q x0)) - ((5 * x1) / 100)))) 44 x0.toNatClampNeg (g 0 1)))) else ((-2147483648), (sy_up (sy_up g 0 0 0) 40 x0.toNatClampNeg ((g 40 x0.toNatClampNeg) + 1)))) else (if 0 ≤ x1 then (if (((x1 - (g 35 x0.toNatClampNeg)) - (fX7_interest (sy_up g 0 0 0) q x0)) - ((5 * x1) / 100)) ≤ 0 then ((((x1 - (g 35 x0.toNatClampNeg)) - (fX7_interest (sy_up g 0 0 0) q x0)) - ((5 * x1) / 100)), (sy_up (sy_up (sy_up (sy_up (sy_up (sy_up g 0 0 0) 39 x0.toNatClampNeg 2) 8 ((g 30 x0.toNatClampNeg).toNatClampNeg) 0) 0 44 ((g 0 44) + x1)) 17 ((g 31 x0.toNatClampNeg).toNatClampNeg) ((g 17 ((g 31 x0.toNatClampNeg).toNatClampNeg)) + (x1 - (g 36 x0.toNatClampNeg)))) 16 ((g 31 x0.toNatClampNeg).toNatClampNeg) ((g 16 ((g 31 x0.toNatClampNeg).toNatClampNeg)) - (((x1 - (g 35 x0.toNatClampNeg)) - (fX7_interest (sy_up g 0 0 0) q x0)) - ((5 * x1) / 100))))) else ((((x1 - (g 35 x0.toNatClampNeg)) - (fX7_interest (sy_up g 0 0 0) q x0)) - ((5 * x1) / 100)), (sy_up (sy_up (sy_up (sy_up (sy_up (sy_up (sy_up (sy_up g 0 0 0) 39 x0.toNatClampNeg 2) 8 ((g 30 x0.toNatClampNeg).toNatClampNeg) 0) 0 44 ((g 0 44) + x1)) 17 ((g 31 x0.toNatClampNeg).toNatClampNeg) ((g 17 ((g 31 x0.toNatClampNeg).toNatClampNeg)) + (x1 - (g 36 x0.toNatClampNeg)))) 43 x0.toNatClampNeg (((x1 - (g 35 x0.toNatClampNeg)) - (fX7_interest (sy_up g 0 0 0) q x0)) - ((5 * x1) / 100))) 0 45 ((g 0 45) + (((x1 - (g 35 x0.toNatClampNeg)) - (fX7_interest (sy_up g 0 0 0) q x0)) - ((5 * x1) / 100)))) 44 x0.toNatClampNeg (g 0 1)))) else ((-2147483648), (sy_up (sy_up g 0 0 0) 40 x0.toNatClampNeg ((g 40 x0.toNatClampNeg) + 1)))))) else (0, (sy_up g 0 0 2)))) else (if 0 ≤ x1 ∧ x1 ≤ 100000 then (0, (sy_up g 0 0 3)) else (0, (sy_up g 0 0 2))))) else (if 0 ≤ x1 ∧ x1 ≤ 100000 then (0, (sy_up g 0 0 3)) else (0, (sy_up g 0 0 2)))) else (0, (sy_up g 0 0 1)))
set_option maxHeartbeats 4000000 in
set_option maxRecDepth 100000 in
theorem mX7_offer (l : Launch) (hfl : l.stackTraces = false) (Z : sZ) (nT nK cT cK : Nat) (ad : Nat → Nat) (g : sG) (q : sQ) (x0 x1 : Int32) {mT mK : Nat} (hI : IM mT mK g) : sMi l Z yX7_offer (uW (.code yX7_offer cX7_offer 8 (some .int))) { frames := 2, cells := 0, slots := 0, locals := 49 } [.ref (ad 0), .int x0, .int x1] nT nK cT cK ad g q (fun r g1 q1 => (r, g1, q1) = ((fX7_offer g q x0 x1).1, (fX7_offer g q x0 x1).2, q)) := by
  refine Met.ofW (cc := cX7_offer) (maxL := 8) (ret := (some .int)) (by decide) rfl ?_
  intro p e s m args below meth c s₁ B hml hv
  obtain ⟨rfl, hE, hP⟩ := hv
  have hx := B.exec
  have hb := B.bytes
  have hr := B.returns
  have hts := atoms_spec (ws := uW (.code yX7_offer cX7_offer 8 (some .int))) B.pre
  have hown : s.vm.findClass RX7 = some m.cls := findClass_of_methodNamed B.named
  have hlocks := B.notSynchronized
  have hS : va_S (sy_A Z) s.heap s.heap [] := va_S.rf
  have hl := lv_entry ([.ref (ad 0), .int x0, .int x1]) (n := 8) (Nat.le_of_ble_eq_true rfl)
  rw [lg_entry_eq]
  generalize (lg_sl ([.ref (ad 0), .int x0, .int x1]) ++ List.replicate (8 - (lg_sl ([.ref (ad 0), .int x0, .int x1])).length) Slot.unset).toArray = ls at hl ⊢
  have hl : lv_has ls 8 [(0, .ref (ad 0)), (1, .int x0), (2, .int x1)] := hl
  have K_2 : (0 ≤ x0 ∧ x0 ≤ (g 0 28) - 1) → ((g 39 x0.toNatClampNeg) = 0) → (¬ ((g 0 1) ≤ ((g 37 x0.toNatClampNeg) + (g 38 x0.toNatClampNeg)))) → ((fX7_bars g q x0) = 0) → (¬ ((fX7_isFound g q (g 30 x0.toNatClampNeg)) = 0)) → (0 ≤ x1 ∧ x1 ≤ 100000) → (¬ ((g 40 x0.toNatClampNeg) = 0)) → (¬ ((g 40 x0.toNatClampNeg) = 1)) → (0 ≤ x1) → ∀ (H : Heap) (locs : List Loc) (ls : Array Slot), Sy Z nT nK cT cK ad (sy_up (sy_up (sy_up (sy_up (sy_up g 0 0 0) 39 x0.toNatClampNeg 2) 8 ((g 30 x0.toNatClampNeg).toNatClampNeg) 0) 0 44 ((g 0 44) + x1)) 17 ((g 31 x0.toNatClampNeg).toNatClampNeg) ((g 17 ((g 31 x0.toNatClampNeg).toNatClampNeg)) + (x1 - (g 36 x0.toNatClampNeg)))) q H → va_S (sy_A Z) s.heap H locs → lv_has ls 8 [(7, .int (((x1 - (g 35 x0.toNatClampNeg)) - (fX7_interest (sy_up g 0 0 0) q x0)) - ((5 * x1) / 100))), (6, .int 0), (5, .int (fX7_interest (sy_up g 0 0 0) q x0)), (4, .int 1), (3, .int (iB (0 ≤ x0 ∧ x0 ≤ (g 0 28) - 1))), (0, .ref (ad 0)), (1, .int x0), (2, .int x1)] → W p l e ({ frames := 2, cells := 0, slots := 0, locals := 49 } : Room) s m ([.ref (ad 0), .int x0, .int x1] : List Value).toArray below meth c H locs 0 0 (MQ below (sQi Z nT nK cT cK ad (fun r g1 q1 => (r, g1, q1) = ((fX7_offer g q x0 x1).1, (fX7_offer g q x0 x1).2, q))) ([.ref (ad 0), .int x0, .int x1] : List Value).toArray s 0 0 (sy_A Z)) (F0 m 248 ls []) := by
    intro c_2 c_4 c_9 c_15 c_21 c_27 c_30 c_31 c_32 H locs ls hP hS hl
    refine lv_iload hx hb dX7_offer_248 (lv_at hl 0 rfl) ?_
    refine lv_if_le (tgt := 285) hx hb dX7_offer_250 (by decide) (fun c_33 => ?_) (fun c_33 => ?_)
    · skip
      refine lv_aload_n hx hb dX7_offer_285 rfl (lv_at hl 5 rfl) ?_
      refine sy_getRX7 hx hb hts hown hE hP 0 rfl 15 (by decide) (hts _ (u_in uk_4_205)) (v := .ref (ad 16)) rfl dX7_offer_286 ?_
      refine lv_aload_n hx hb dX7_offer_289 rfl (lv_at hl 5 rfl) ?_
      refine sy_getRX7 hx hb hts hown hE hP 0 rfl 30 (by decide) (hts _ (u_in uk_4_220)) (v := .ref (ad 31)) rfl dX7_offer_290 ?_
      refine lv_iload_n hx hb dX7_offer_293 rfl (lv_at hl 6 rfl) ?_
      refine sy_ialdN hx hb hE hP 31 rfl (show vp_in x0 40 from (im_ticket hI c_2)) x0.toNatClampNeg rfl (v := g 31 x0.toNatClampNeg) rfl dX7_offer_294 ?_
      refine lv_dup2_11 hx hb dX7_offer_295 rfl rfl ?_
      refine sy_ialdN hx hb hE hP 16 rfl (show vp_in (g 31 x0.toNatClampNeg) 4 from (im_expertOf hI (im_ticket hI c_2))) ((g 31 x0.toNatClampNeg).toNatClampNeg) rfl (v := g 16 ((g 31 x0.toNatClampNeg).toNatClampNeg)) rfl dX7_offer_296 ?_
      refine lv_iload hx hb dX7_offer_297 (lv_at hl 0 rfl) ?_
      refine lv_isub hx hb dX7_offer_299 ?_
      refine sy_iastN hx hb hE hP hS 16 rfl (show vp_in (g 31 x0.toNatClampNeg) 4 from (im_expertOf hI (im_ticket hI c_2))) ((g 31 x0.toNatClampNeg).toNatClampNeg) rfl dX7_offer_300 (fun H locs hP hS => ?_)
      refine lv_iload hx hb dX7_offer_301 (lv_at hl 0 rfl) ?_
      exact (sy_ireti hx hb hr hlocks hE hP hS dX7_offer_303 ⟨Nat.le_of_ble_eq_true rfl, Nat.le_of_ble_eq_true rfl⟩ (by unfold fX7_offer; rw [if_pos c_2, if_pos c_4, if_neg c_9, if_pos c_15, if_neg c_21, if_pos c_27, if_neg c_30, if_neg c_31, if_pos c_32, if_pos c_33] <;> rfl))
    · skip
      refine lv_aload_n hx hb dX7_offer_253 rfl (lv_at hl 5 rfl) ?_
      refine sy_getRX7 hx hb hts hown hE hP 0 rfl 42 (by decide) (hts _ (u_in uk_4_232)) (v := .ref (ad 43)) rfl dX7_offer_254 ?_
      refine lv_iload_n hx hb dX7_offer_257 rfl (lv_at hl 6 rfl) ?_
      refine lv_iload hx hb dX7_offer_258 (lv_at hl 0 rfl) ?_
      refine sy_iastN hx hb hE hP hS 43 rfl (show vp_in x0 40 from (im_ticket hI c_2)) x0.toNatClampNeg rfl dX7_offer_260 (fun H locs hP hS => ?_)
      refine lv_aload_n hx hb dX7_offer_261 rfl (lv_at hl 5 rfl) ?_
      refine lv_dup hx hb dX7_offer_262 rfl ?_
      refine sy_getRX7 hx hb hts hown hE hP 0 rfl 45 (by decide) (hts _ (u_in uk_4_235)) (v := .int (g 0 45)) rfl dX7_offer_263 ?_
      refine lv_iload hx hb dX7_offer_266 (lv_at hl 0 rfl) ?_
      refine lv_iadd hx hb dX7_offer_268 ?_
      refine sy_putRX7 hx hb hts hown hE hP hS 0 rfl 45 (by decide) (hts _ (u_in uk_4_235)) rfl (ty := .int) (by decide +kernel) rfl rfl (sy_up (sy_up (sy_up (sy_up (sy_up (sy_up (sy_up g 0 0 0) 39 x0.toNatClampNeg 2) 8 ((g 30 x0.toNatClampNeg).toNatClampNeg) 0) 0 44 ((g 0 44) + x1)) 17 ((g 31 x0.toNatClampNeg).toNatClampNeg) ((g 17 ((g 31 x0.toNatClampNeg).toNatClampNeg)) + (x1 - (g 36 x0.toNatClampNeg)))) 43 x0.toNatClampNeg (((x1 - (g 35 x0.toNatClampNeg)) - (fX7_interest (sy_up g 0 0 0) q x0)) - ((5 * x1) / 100))) 0 45 ((g 0 45) + (((x1 - (g 35 x0.toNatClampNeg)) - (fX7_interest (sy_up g 0 0 0) q x0)) - ((5 * x1) / 100)))) q (by rw [sy_up_s (sy_up (sy_up (sy_up (sy_up (sy_up (sy_up g 0 0 0) 39 x0.toNatClampNeg 2) 8 ((g 30 x0.toNatClampNeg).toNatClampNeg) 0) 0 44 ((g 0 44) + x1)) 17 ((g 31 x0.toNatClampNeg).toNatClampNeg) ((g 17 ((g 31 x0.toNatClampNeg).toNatClampNeg)) + (x1 - (g 36 x0.toNatClampNeg)))) 43 x0.toNatClampNeg (((x1 - (g 35 x0.toNatClampNeg)) - (fX7_interest (sy_up g 0 0 0) q x0)) - ((5 * x1) / 100))) 0 45 ((g 0 45) + (((x1 - (g 35 x0.toNatClampNeg)) - (fX7_interest (sy_up g 0 0 0) q x0)) - ((5 * x1) / 100)))]; exact se_RX7_45 _ _ _ _ _ _ _) (fun _ h9 => sy_up_o _ _ _ h9) (fun _ _ => rfl) dX7_offer_269 (fun H locs hP hS => ?_)
      refine lv_aload_n hx hb dX7_offer_272 rfl (lv_at hl 5 rfl) ?_
      refine sy_getRX7 hx hb hts hown hE hP 0 rfl 43 (by decide) (hts _ (u_in uk_4_233)) (v := .ref (ad 44)) rfl dX7_offer_273 ?_
      refine lv_iload_n hx hb dX7_offer_276 rfl (lv_at hl 6 rfl) ?_
      refine lv_aload_n hx hb dX7_offer_277 rfl (lv_at hl 5 rfl) ?_
      refine sy_getRX7 hx hb hts hown hE hP 0 rfl 1 (by decide) (hts _ (u_in uk_4_191)) (v := .int (g 0 1)) rfl dX7_offer_278 ?_
      refine sy_iastN hx hb hE hP hS 44 rfl (show vp_in x0 40 from (im_ticket hI c_2)) x0.toNatClampNeg rfl dX7_offer_281 (fun H locs hP hS => ?_)
      refine lv_goto (tgt := 301) hx hb dX7_offer_282 (by decide) ?_
      refine lv_iload hx hb dX7_offer_301 (lv_at hl 0 rfl) ?_
      exact (sy_ireti hx hb hr hlocks hE hP hS dX7_offer_303 ⟨Nat.le_of_ble_eq_true rfl, Nat.le_of_ble_eq_true rfl⟩ (by unfold fX7_offer; rw [if_pos c_2, if_pos c_4, if_neg c_9, if_pos c_15, if_neg c_21, if_pos c_27, if_neg c_30, if_neg c_31, if_pos c_32, if_neg c_33] <;> rfl))
  have K_3 : (0 ≤ x0 ∧ x0 ≤ (g 0 28) - 1) → ((g 39 x0.toNatClampNeg) = 0) → (¬ ((g 0 1) ≤ ((g 37 x0.toNatClampNeg) + (g 38 x0.toNatClampNeg)))) → ((fX7_bars g q x0) = 0) → (¬ ((fX7_isFound g q (g 30 x0.toNatClampNeg)) = 0)) → (0 ≤ x1 ∧ x1 ≤ 100000) → (¬ ((g 40 x0.toNatClampNeg) = 0)) → ((g 40 x0.toNatClampNeg) = 1) → ((g 35 x0.toNatClampNeg) ≤ x1) → ∀ (H : Heap) (locs : List Loc) (ls : Array Slot), Sy Z nT nK cT cK ad (sy_up (sy_up (sy_up (sy_up g 0 0 0) 39 x0.toNatClampNeg 2) 8 ((g 30 x0.toNatClampNeg).toNatClampNeg) 0) 0 44 ((g 0 44) + x1)) q H → va_S (sy_A Z) s.heap H locs → lv_has ls 8 [(7, .int (((x1 - (g 35 x0.toNatClampNeg)) - (fX7_interest (sy_up g 0 0 0) q x0)) - ((5 * x1) / 100))), (6, .int (g 35 x0.toNatClampNeg)), (5, .int (fX7_interest (sy_up g 0 0 0) q x0)), (4, .int 1), (3, .int (iB (0 ≤ x0 ∧ x0 ≤ (g 0 28) - 1))), (0, .ref (ad 0)), (1, .int x0), (2, .int x1)] → W p l e ({ frames := 2, cells := 0, slots := 0, locals := 49 } : Room) s m ([.ref (ad 0), .int x0, .int x1] : List Value).toArray below meth c H locs 0 0 (MQ below (sQi Z nT nK cT cK ad (fun r g1 q1 => (r, g1, q1) = ((fX7_offer g q x0 x1).1, (fX7_offer g q x0 x1).2, q))) ([.ref (ad 0), .int x0, .int x1] : List Value).toArray s 0 0 (sy_A Z)) (F0 m 244 ls [.int x0, .ref (ad 36), .int x1, .int (g 17 ((g 31 x0.toNatClampNeg).toNatClampNeg)), .int (g 31 x0.toNatClampNeg), .ref (ad 17)]) := by
    intro c_2 c_4 c_9 c_15 c_21 c_27 c_30 c_31 c_34 H locs ls hP hS hl
    refine sy_ialdN hx hb hE hP 36 rfl (show vp_in x0 40 from (im_ticket hI c_2)) x0.toNatClampNeg rfl (v := g 36 x0.toNatClampNeg) rfl dX7_offer_244 ?_
    refine lv_isub hx hb dX7_offer_245 ?_
    refine lv_iadd hx hb dX7_offer_246 ?_
    refine sy_iastN hx hb hE hP hS 17 rfl (show vp_in (g 31 x0.toNatClampNeg) 4 from (im_expertOf hI (im_ticket hI c_2))) ((g 31 x0.toNatClampNeg).toNatClampNeg) rfl dX7_offer_247 (fun H locs hP hS => ?_)
    refine lv_iload hx hb dX7_offer_248 (lv_at hl 0 rfl) ?_
    refine lv_if_le (tgt := 285) hx hb dX7_offer_250 (by decide) (fun c_35 => ?_) (fun c_35 => ?_)
    · skip
      refine lv_aload_n hx hb dX7_offer_285 rfl (lv_at hl 5 rfl) ?_
      refine sy_getRX7 hx hb hts hown hE hP 0 rfl 15 (by decide) (hts _ (u_in uk_4_205)) (v := .ref (ad 16)) rfl dX7_offer_286 ?_
      refine lv_aload_n hx hb dX7_offer_289 rfl (lv_at hl 5 rfl) ?_
      refine sy_getRX7 hx hb hts hown hE hP 0 rfl 30 (by decide) (hts _ (u_in uk_4_220)) (v := .ref (ad 31)) rfl dX7_offer_290 ?_
      refine lv_iload_n hx hb dX7_offer_293 rfl (lv_at hl 6 rfl) ?_
      refine sy_ialdN hx hb hE hP 31 rfl (show vp_in x0 40 from (im_ticket hI c_2)) x0.toNatClampNeg rfl (v := g 31 x0.toNatClampNeg) rfl dX7_offer_294 ?_
      refine lv_dup2_11 hx hb dX7_offer_295 rfl rfl ?_
      refine sy_ialdN hx hb hE hP 16 rfl (show vp_in (g 31 x0.toNatClampNeg) 4 from (im_expertOf hI (im_ticket hI c_2))) ((g 31 x0.toNatClampNeg).toNatClampNeg) rfl (v := g 16 ((g 31 x0.toNatClampNeg).toNatClampNeg)) rfl dX7_offer_296 ?_
      refine lv_iload hx hb dX7_offer_297 (lv_at hl 0 rfl) ?_
      refine lv_isub hx hb dX7_offer_299 ?_
      refine sy_iastN hx hb hE hP hS 16 rfl (show vp_in (g 31 x0.toNatClampNeg) 4 from (im_expertOf hI (im_ticket hI c_2))) ((g 31 x0.toNatClampNeg).toNatClampNeg) rfl dX7_offer_300 (fun H locs hP hS => ?_)
      refine lv_iload hx hb dX7_offer_301 (lv_at hl 0 rfl) ?_
      exact (sy_ireti hx hb hr hlocks hE hP hS dX7_offer_303 ⟨Nat.le_of_ble_eq_true rfl, Nat.le_of_ble_eq_true rfl⟩ (by unfold fX7_offer; rw [if_pos c_2, if_pos c_4, if_neg c_9, if_pos c_15, if_neg c_21, if_pos c_27, if_neg c_30, if_pos c_31, if_pos c_34, if_pos c_35] <;> rfl))
    · skip
      refine lv_aload_n hx hb dX7_offer_253 rfl (lv_at hl 5 rfl) ?_
      refine sy_getRX7 hx hb hts hown hE hP 0 rfl 42 (by decide) (hts _ (u_in uk_4_232)) (v := .ref (ad 43)) rfl dX7_offer_254 ?_
      refine lv_iload_n hx hb dX7_offer_257 rfl (lv_at hl 6 rfl) ?_
      refine lv_iload hx hb dX7_offer_258 (lv_at hl 0 rfl) ?_
      refine sy_iastN hx hb hE hP hS 43 rfl (show vp_in x0 40 from (im_ticket hI c_2)) x0.toNatClampNeg rfl dX7_offer_260 (fun H locs hP hS => ?_)
      refine lv_aload_n hx hb dX7_offer_261 rfl (lv_at hl 5 rfl) ?_
      refine lv_dup hx hb dX7_offer_262 rfl ?_
      refine sy_getRX7 hx hb hts hown hE hP 0 rfl 45 (by decide) (hts _ (u_in uk_4_235)) (v := .int (g 0 45)) rfl dX7_offer_263 ?_
      refine lv_iload hx hb dX7_offer_266 (lv_at hl 0 rfl) ?_
      refine lv_iadd hx hb dX7_offer_268 ?_
      refine sy_putRX7 hx hb hts hown hE hP hS 0 rfl 45 (by decide) (hts _ (u_in uk_4_235)) rfl (ty := .int) (by decide +kernel) rfl rfl (sy_up (sy_up (sy_up (sy_up (sy_up (sy_up (sy_up g 0 0 0) 39 x0.toNatClampNeg 2) 8 ((g 30 x0.toNatClampNeg).toNatClampNeg) 0) 0 44 ((g 0 44) + x1)) 17 ((g 31 x0.toNatClampNeg).toNatClampNeg) ((g 17 ((g 31 x0.toNatClampNeg).toNatClampNeg)) + (x1 - (g 36 x0.toNatClampNeg)))) 43 x0.toNatClampNeg (((x1 - (g 35 x0.toNatClampNeg)) - (fX7_interest (sy_up g 0 0 0) q x0)) - ((5 * x1) / 100))) 0 45 ((g 0 45) + (((x1 - (g 35 x0.toNatClampNeg)) - (fX7_interest (sy_up g 0 0 0) q x0)) - ((5 * x1) / 100)))) q (by rw [sy_up_s (sy_up (sy_up (sy_up (sy_up (sy_up (sy_up g 0 0 0) 39 x0.toNatClampNeg 2) 8 ((g 30 x0.toNatClampNeg).toNatClampNeg) 0) 0 44 ((g 0 44) + x1)) 17 ((g 31 x0.toNatClampNeg).toNatClampNeg) ((g 17 ((g 31 x0.toNatClampNeg).toNatClampNeg)) + (x1 - (g 36 x0.toNatClampNeg)))) 43 x0.toNatClampNeg (((x1 - (g 35 x0.toNatClampNeg)) - (fX7_interest (sy_up g 0 0 0) q x0)) - ((5 * x1) / 100))) 0 45 ((g 0 45) + (((x1 - (g 35 x0.toNatClampNeg)) - (fX7_interest (sy_up g 0 0 0) q x0)) - ((5 * x1) / 100)))]; exact se_RX7_45 _ _ _ _ _ _ _) (fun _ h9 => sy_up_o _ _ _ h9) (fun _ _ => rfl) dX7_offer_269 (fun H locs hP hS => ?_)
      refine lv_aload_n hx hb dX7_offer_272 rfl (lv_at hl 5 rfl) ?_
      refine sy_getRX7 hx hb hts hown hE hP 0 rfl 43 (by decide) (hts _ (u_in uk_4_233)) (v := .ref (ad 44)) rfl dX7_offer_273 ?_
      refine lv_iload_n hx hb dX7_offer_276 rfl (lv_at hl 6 rfl) ?_
      refine lv_aload_n hx hb dX7_offer_277 rfl (lv_at hl 5 rfl) ?_
      refine sy_getRX7 hx hb hts hown hE hP 0 rfl 1 (by decide) (hts _ (u_in uk_4_191)) (v := .int (g 0 1)) rfl dX7_offer_278 ?_
      refine sy_iastN hx hb hE hP hS 44 rfl (show vp_in x0 40 from (im_ticket hI c_2)) x0.toNatClampNeg rfl dX7_offer_281 (fun H locs hP hS => ?_)
      refine lv_goto (tgt := 301) hx hb dX7_offer_282 (by decide) ?_
      refine lv_iload hx hb dX7_offer_301 (lv_at hl 0 rfl) ?_
      exact (sy_ireti hx hb hr hlocks hE hP hS dX7_offer_303 ⟨Nat.le_of_ble_eq_true rfl, Nat.le_of_ble_eq_true rfl⟩ (by unfold fX7_offer; rw [if_pos c_2, if_pos c_4, if_neg c_9, if_pos c_15, if_neg c_21, if_pos c_27, if_neg c_30, if_pos c_31, if_pos c_34, if_neg c_35] <;> rfl))
  have K_1 : (0 ≤ x0 ∧ x0 ≤ (g 0 28) - 1) → ((g 39 x0.toNatClampNeg) = 0) → (¬ ((g 0 1) ≤ ((g 37 x0.toNatClampNeg) + (g 38 x0.toNatClampNeg)))) → ((fX7_bars g q x0) = 0) → (¬ ((fX7_isFound g q (g 30 x0.toNatClampNeg)) = 0)) → (0 ≤ x1 ∧ x1 ≤ 100000) → (¬ ((g 40 x0.toNatClampNeg) = 0)) → ∀ (H : Heap) (locs : List Loc) (ls : Array Slot), Sy Z nT nK cT cK ad (sy_up g 0 0 0) q H → va_S (sy_A Z) s.heap H locs → lv_has ls 8 [(5, .int (fX7_interest (sy_up g 0 0 0) q x0)), (4, .int 1), (3, .int (iB (0 ≤ x0 ∧ x0 ≤ (g 0 28) - 1))), (0, .ref (ad 0)), (1, .int x0), (2, .int x1)] → W p l e ({ frames := 2, cells := 0, slots := 0, locals := 49 } : Room) s m ([.ref (ad 0), .int x0, .int x1] : List Value).toArray below meth c H locs 0 0 (MQ below (sQi Z nT nK cT cK ad (fun r g1 q1 => (r, g1, q1) = ((fX7_offer g q x0 x1).1, (fX7_offer g q x0 x1).2, q))) ([.ref (ad 0), .int x0, .int x1] : List Value).toArray s 0 0 (sy_A Z)) (F0 m 137 ls [.ref (ad 0)]) := by
    intro c_2 c_4 c_9 c_15 c_21 c_27 c_30 H locs ls hP hS hl
    refine sy_getRX7 hx hb hts hown hE hP 0 rfl 39 (by decide) (hts _ (u_in uk_4_229)) (v := .ref (ad 40)) rfl dX7_offer_137 ?_
    refine lv_iload_n hx hb dX7_offer_140 rfl (lv_at hl 4 rfl) ?_
    refine sy_ialdN hx hb hE hP 40 rfl (show vp_in x0 40 from (im_ticket hI c_2)) x0.toNatClampNeg rfl (v := g 40 x0.toNatClampNeg) rfl dX7_offer_141 ?_
    refine lv_iconst (v := 1) hx hb dX7_offer_142 (by decide) ?_
    refine lv_icmp_ne (tgt := 155) hx hb dX7_offer_143 (by decide) (fun c_31 => ?_) (fun c_31 => ?_)
    · skip
      refine lv_iconst (v := 0) hx hb dX7_offer_155 (by decide) ?_
      refine lv_istore (lv' := [(6, .int 0), (5, .int (fX7_interest (sy_up g 0 0 0) q x0)), (4, .int 1), (3, .int (iB (0 ≤ x0 ∧ x0 ≤ (g 0 28) - 1))), (0, .ref (ad 0)), (1, .int x0), (2, .int x1)]) hx hb dX7_offer_156 hl (by decide) rfl (fun ls hl => ?_)
      refine lv_iload_n hx hb dX7_offer_158 rfl (lv_at hl 6 rfl) ?_
      refine lv_iload hx hb dX7_offer_159 (lv_at hl 0 rfl) ?_
      refine lv_icmp_ge (tgt := 177) hx hb dX7_offer_161 (by decide) (fun c_32 => ?_) (fun c_32 => ?_)
      · skip
        refine lv_iload_n hx hb dX7_offer_177 rfl (lv_at hl 6 rfl) ?_
        refine lv_aload_n hx hb dX7_offer_178 rfl (lv_at hl 4 rfl) ?_
        refine sy_getRX7 hx hb hts hown hE hP 0 rfl 34 (by decide) (hts _ (u_in uk_4_224)) (v := .ref (ad 35)) rfl dX7_offer_179 ?_
        refine lv_iload_n hx hb dX7_offer_182 rfl (lv_at hl 5 rfl) ?_
        refine sy_ialdN hx hb hE hP 35 rfl (show vp_in x0 40 from (im_ticket hI c_2)) x0.toNatClampNeg rfl (v := g 35 x0.toNatClampNeg) rfl dX7_offer_183 ?_
        refine lv_isub hx hb dX7_offer_184 ?_
        refine lv_iload hx hb dX7_offer_185 (lv_at hl 1 rfl) ?_
        refine lv_isub hx hb dX7_offer_187 ?_
        refine lv_iconst (v := 5) hx hb dX7_offer_188 (by decide) ?_
        refine lv_iload_n hx hb dX7_offer_189 rfl (lv_at hl 6 rfl) ?_
        refine lv_imul hx hb dX7_offer_190 ?_
        refine lv_bipush (v := 100) hx hb dX7_offer_191 (by decide) ?_
        refine lv_idiv hx hb dX7_offer_193 (by decide) ?_
        refine lv_isub hx hb dX7_offer_194 ?_
        refine lv_istore (lv' := [(7, .int (((x1 - (g 35 x0.toNatClampNeg)) - (fX7_interest (sy_up g 0 0 0) q x0)) - ((5 * x1) / 100))), (6, .int 0), (5, .int (fX7_interest (sy_up g 0 0 0) q x0)), (4, .int 1), (3, .int (iB (0 ≤ x0 ∧ x0 ≤ (g 0 28) - 1))), (0, .ref (ad 0)), (1, .int x0), (2, .int x1)]) hx hb dX7_offer_195 hl (by decide) rfl (fun ls hl => ?_)
        refine lv_aload_n hx hb dX7_offer_197 rfl (lv_at hl 5 rfl) ?_
        refine sy_getRX7 hx hb hts hown hE hP 0 rfl 38 (by decide) (hts _ (u_in uk_4_228)) (v := .ref (ad 39)) rfl dX7_offer_198 ?_
        refine lv_iload_n hx hb dX7_offer_201 rfl (lv_at hl 6 rfl) ?_
        refine lv_iconst (v := 2) hx hb dX7_offer_202 (by decide) ?_
        refine sy_iastN hx hb hE hP hS 39 rfl (show vp_in x0 40 from (im_ticket hI c_2)) x0.toNatClampNeg rfl dX7_offer_203 (fun H locs hP hS => ?_)
        refine lv_aload_n hx hb dX7_offer_204 rfl (lv_at hl 5 rfl) ?_
        refine sy_getRX7 hx hb hts hown hE hP 0 rfl 7 (by decide) (hts _ (u_in uk_4_197)) (v := .ref (ad 8)) rfl dX7_offer_205 ?_
        refine lv_aload_n hx hb dX7_offer_208 rfl (lv_at hl 5 rfl) ?_
        refine sy_getRX7 hx hb hts hown hE hP 0 rfl 29 (by decide) (hts _ (u_in uk_4_219)) (v := .ref (ad 30)) rfl dX7_offer_209 ?_
        refine lv_iload_n hx hb dX7_offer_212 rfl (lv_at hl 6 rfl) ?_
        refine sy_ialdN hx hb hE hP 30 rfl (show vp_in x0 40 from (im_ticket hI c_2)) x0.toNatClampNeg rfl (v := g 30 x0.toNatClampNeg) rfl dX7_offer_213 ?_
        refine lv_iconst (v := 0) hx hb dX7_offer_214 (by decide) ?_
        refine sy_zastN hx hb hE hP hS 8 rfl (show vp_in (g 30 x0.toNatClampNeg) 40 from (im_thingOf hI (im_ticket hI c_2))) (by decide) ((g 30 x0.toNatClampNeg).toNatClampNeg) rfl dX7_offer_215 (fun H locs hP hS => ?_)
        refine lv_aload_n hx hb dX7_offer_216 rfl (lv_at hl 5 rfl) ?_
        refine lv_dup hx hb dX7_offer_217 rfl ?_
        refine sy_getRX7 hx hb hts hown hE hP 0 rfl 44 (by decide) (hts _ (u_in uk_4_234)) (v := .int (g 0 44)) rfl dX7_offer_218 ?_
        refine lv_iload_n hx hb dX7_offer_221 rfl (lv_at hl 7 rfl) ?_
        refine lv_iadd hx hb dX7_offer_222 ?_
        refine sy_putRX7 hx hb hts hown hE hP hS 0 rfl 44 (by decide) (hts _ (u_in uk_4_234)) rfl (ty := .int) (by decide +kernel) rfl rfl (sy_up (sy_up (sy_up (sy_up g 0 0 0) 39 x0.toNatClampNeg 2) 8 ((g 30 x0.toNatClampNeg).toNatClampNeg) 0) 0 44 ((g 0 44) + x1)) q (by rw [sy_up_s (sy_up (sy_up (sy_up g 0 0 0) 39 x0.toNatClampNeg 2) 8 ((g 30 x0.toNatClampNeg).toNatClampNeg) 0) 0 44 ((g 0 44) + x1)]; exact se_RX7_44 _ _ _ _ _ _ _) (fun _ h9 => sy_up_o _ _ _ h9) (fun _ _ => rfl) dX7_offer_223 (fun H locs hP hS => ?_)
        refine lv_aload_n hx hb dX7_offer_226 rfl (lv_at hl 5 rfl) ?_
        refine sy_getRX7 hx hb hts hown hE hP 0 rfl 16 (by decide) (hts _ (u_in uk_4_206)) (v := .ref (ad 17)) rfl dX7_offer_227 ?_
        refine lv_aload_n hx hb dX7_offer_230 rfl (lv_at hl 5 rfl) ?_
        refine sy_getRX7 hx hb hts hown hE hP 0 rfl 30 (by decide) (hts _ (u_in uk_4_220)) (v := .ref (ad 31)) rfl dX7_offer_231 ?_
        refine lv_iload_n hx hb dX7_offer_234 rfl (lv_at hl 6 rfl) ?_
        refine sy_ialdN hx hb hE hP 31 rfl (show vp_in x0 40 from (im_ticket hI c_2)) x0.toNatClampNeg rfl (v := g 31 x0.toNatClampNeg) rfl dX7_offer_235 ?_
        refine lv_dup2_11 hx hb dX7_offer_236 rfl rfl ?_
        refine sy_ialdN hx hb hE hP 17 rfl (show vp_in (g 31 x0.toNatClampNeg) 4 from (im_expertOf hI (im_ticket hI c_2))) ((g 31 x0.toNatClampNeg).toNatClampNeg) rfl (v := g 17 ((g 31 x0.toNatClampNeg).toNatClampNeg)) rfl dX7_offer_237 ?_
        refine lv_iload_n hx hb dX7_offer_238 rfl (lv_at hl 7 rfl) ?_
        refine lv_aload_n hx hb dX7_offer_239 rfl (lv_at hl 5 rfl) ?_
        refine sy_getRX7 hx hb hts hown hE hP 0 rfl 35 (by decide) (hts _ (u_in uk_4_225)) (v := .ref (ad 36)) rfl dX7_offer_240 ?_
        refine lv_iload_n hx hb dX7_offer_243 rfl (lv_at hl 6 rfl) ?_
        refine sy_ialdN hx hb hE hP 36 rfl (show vp_in x0 40 from (im_ticket hI c_2)) x0.toNatClampNeg rfl (v := g 36 x0.toNatClampNeg) rfl dX7_offer_244 ?_
        refine lv_isub hx hb dX7_offer_245 ?_
        refine lv_iadd hx hb dX7_offer_246 ?_
        refine sy_iastN hx hb hE hP hS 17 rfl (show vp_in (g 31 x0.toNatClampNeg) 4 from (im_expertOf hI (im_ticket hI c_2))) ((g 31 x0.toNatClampNeg).toNatClampNeg) rfl dX7_offer_247 (fun H locs hP hS => ?_)
        exact K_2 c_2 c_4 c_9 c_15 c_21 c_27 c_30 c_31 c_32 _ _ _ hP hS hl
      · skip
        refine lv_aload_n hx hb dX7_offer_164 rfl (lv_at hl 4 rfl) ?_
        refine sy_getRX7 hx hb hts hown hE hP 0 rfl 39 (by decide) (hts _ (u_in uk_4_229)) (v := .ref (ad 40)) rfl dX7_offer_165 ?_
        refine lv_iload_n hx hb dX7_offer_168 rfl (lv_at hl 5 rfl) ?_
        refine lv_dup2_11 hx hb dX7_offer_169 rfl rfl ?_
        refine sy_ialdN hx hb hE hP 40 rfl (show vp_in x0 40 from (im_ticket hI c_2)) x0.toNatClampNeg rfl (v := g 40 x0.toNatClampNeg) rfl dX7_offer_170 ?_
        refine lv_iconst (v := 1) hx hb dX7_offer_171 (by decide) ?_
        refine lv_iadd hx hb dX7_offer_172 ?_
        refine sy_iastN hx hb hE hP hS 40 rfl (show vp_in x0 40 from (im_ticket hI c_2)) x0.toNatClampNeg rfl dX7_offer_173 (fun H locs hP hS => ?_)
        refine lv_ldc (v := (-2147483648)) hx hb hown (hts _ (u_in uk_6_12)) dX7_offer_174 ?_
        exact (sy_ireti hx hb hr hlocks hE hP hS dX7_offer_176 ⟨Nat.le_of_ble_eq_true rfl, Nat.le_of_ble_eq_true rfl⟩ (by unfold fX7_offer; rw [if_pos c_2, if_pos c_4, if_neg c_9, if_pos c_15, if_neg c_21, if_pos c_27, if_neg c_30, if_neg c_31, if_neg c_32] <;> rfl))
    · skip
      refine lv_aload_n hx hb dX7_offer_146 rfl (lv_at hl 3 rfl) ?_
      refine sy_getRX7 hx hb hts hown hE hP 0 rfl 34 (by decide) (hts _ (u_in uk_4_224)) (v := .ref (ad 35)) rfl dX7_offer_147 ?_
      refine lv_iload_n hx hb dX7_offer_150 rfl (lv_at hl 4 rfl) ?_
      refine sy_ialdN hx hb hE hP 35 rfl (show vp_in x0 40 from (im_ticket hI c_2)) x0.toNatClampNeg rfl (v := g 35 x0.toNatClampNeg) rfl dX7_offer_151 ?_
      refine lv_goto (tgt := 156) hx hb dX7_offer_152 (by decide) ?_
      refine lv_istore (lv' := [(6, .int (g 35 x0.toNatClampNeg)), (5, .int (fX7_interest (sy_up g 0 0 0) q x0)), (4, .int 1), (3, .int (iB (0 ≤ x0 ∧ x0 ≤ (g 0 28) - 1))), (0, .ref (ad 0)), (1, .int x0), (2, .int x1)]) hx hb dX7_offer_156 hl (by decide) rfl (fun ls hl => ?_)
      refine lv_iload_n hx hb dX7_offer_158 rfl (lv_at hl 6 rfl) ?_
      refine lv_iload hx hb dX7_offer_159 (lv_at hl 0 rfl) ?_
      refine lv_icmp_ge (tgt := 177) hx hb dX7_offer_161 (by decide) (fun c_34 => ?_) (fun c_34 => ?_)
      · skip
        refine lv_iload_n hx hb dX7_offer_177 rfl (lv_at hl 6 rfl) ?_
        refine lv_aload_n hx hb dX7_offer_178 rfl (lv_at hl 4 rfl) ?_
        refine sy_getRX7 hx hb hts hown hE hP 0 rfl 34 (by decide) (hts _ (u_in uk_4_224)) (v := .ref (ad 35)) rfl dX7_offer_179 ?_
        refine lv_iload_n hx hb dX7_offer_182 rfl (lv_at hl 5 rfl) ?_
        refine sy_ialdN hx hb hE hP 35 rfl (show vp_in x0 40 from (im_ticket hI c_2)) x0.toNatClampNeg rfl (v := g 35 x0.toNatClampNeg) rfl dX7_offer_183 ?_
        refine lv_isub hx hb dX7_offer_184 ?_
        refine lv_iload hx hb dX7_offer_185 (lv_at hl 1 rfl) ?_
        refine lv_isub hx hb dX7_offer_187 ?_
        refine lv_iconst (v := 5) hx hb dX7_offer_188 (by decide) ?_
        refine lv_iload_n hx hb dX7_offer_189 rfl (lv_at hl 6 rfl) ?_
        refine lv_imul hx hb dX7_offer_190 ?_
        refine lv_bipush (v := 100) hx hb dX7_offer_191 (by decide) ?_
        refine lv_idiv hx hb dX7_offer_193 (by decide) ?_
        refine lv_isub hx hb dX7_offer_194 ?_
        refine lv_istore (lv' := [(7, .int (((x1 - (g 35 x0.toNatClampNeg)) - (fX7_interest (sy_up g 0 0 0) q x0)) - ((5 * x1) / 100))), (6, .int (g 35 x0.toNatClampNeg)), (5, .int (fX7_interest (sy_up g 0 0 0) q x0)), (4, .int 1), (3, .int (iB (0 ≤ x0 ∧ x0 ≤ (g 0 28) - 1))), (0, .ref (ad 0)), (1, .int x0), (2, .int x1)]) hx hb dX7_offer_195 hl (by decide) rfl (fun ls hl => ?_)
        refine lv_aload_n hx hb dX7_offer_197 rfl (lv_at hl 5 rfl) ?_
        refine sy_getRX7 hx hb hts hown hE hP 0 rfl 38 (by decide) (hts _ (u_in uk_4_228)) (v := .ref (ad 39)) rfl dX7_offer_198 ?_
        refine lv_iload_n hx hb dX7_offer_201 rfl (lv_at hl 6 rfl) ?_
        refine lv_iconst (v := 2) hx hb dX7_offer_202 (by decide) ?_
        refine sy_iastN hx hb hE hP hS 39 rfl (show vp_in x0 40 from (im_ticket hI c_2)) x0.toNatClampNeg rfl dX7_offer_203 (fun H locs hP hS => ?_)
        refine lv_aload_n hx hb dX7_offer_204 rfl (lv_at hl 5 rfl) ?_
        refine sy_getRX7 hx hb hts hown hE hP 0 rfl 7 (by decide) (hts _ (u_in uk_4_197)) (v := .ref (ad 8)) rfl dX7_offer_205 ?_
        refine lv_aload_n hx hb dX7_offer_208 rfl (lv_at hl 5 rfl) ?_
        refine sy_getRX7 hx hb hts hown hE hP 0 rfl 29 (by decide) (hts _ (u_in uk_4_219)) (v := .ref (ad 30)) rfl dX7_offer_209 ?_
        refine lv_iload_n hx hb dX7_offer_212 rfl (lv_at hl 6 rfl) ?_
        refine sy_ialdN hx hb hE hP 30 rfl (show vp_in x0 40 from (im_ticket hI c_2)) x0.toNatClampNeg rfl (v := g 30 x0.toNatClampNeg) rfl dX7_offer_213 ?_
        refine lv_iconst (v := 0) hx hb dX7_offer_214 (by decide) ?_
        refine sy_zastN hx hb hE hP hS 8 rfl (show vp_in (g 30 x0.toNatClampNeg) 40 from (im_thingOf hI (im_ticket hI c_2))) (by decide) ((g 30 x0.toNatClampNeg).toNatClampNeg) rfl dX7_offer_215 (fun H locs hP hS => ?_)
        refine lv_aload_n hx hb dX7_offer_216 rfl (lv_at hl 5 rfl) ?_
        refine lv_dup hx hb dX7_offer_217 rfl ?_
        refine sy_getRX7 hx hb hts hown hE hP 0 rfl 44 (by decide) (hts _ (u_in uk_4_234)) (v := .int (g 0 44)) rfl dX7_offer_218 ?_
        refine lv_iload_n hx hb dX7_offer_221 rfl (lv_at hl 7 rfl) ?_
        refine lv_iadd hx hb dX7_offer_222 ?_
        refine sy_putRX7 hx hb hts hown hE hP hS 0 rfl 44 (by decide) (hts _ (u_in uk_4_234)) rfl (ty := .int) (by decide +kernel) rfl rfl (sy_up (sy_up (sy_up (sy_up g 0 0 0) 39 x0.toNatClampNeg 2) 8 ((g 30 x0.toNatClampNeg).toNatClampNeg) 0) 0 44 ((g 0 44) + x1)) q (by rw [sy_up_s (sy_up (sy_up (sy_up g 0 0 0) 39 x0.toNatClampNeg 2) 8 ((g 30 x0.toNatClampNeg).toNatClampNeg) 0) 0 44 ((g 0 44) + x1)]; exact se_RX7_44 _ _ _ _ _ _ _) (fun _ h9 => sy_up_o _ _ _ h9) (fun _ _ => rfl) dX7_offer_223 (fun H locs hP hS => ?_)
        refine lv_aload_n hx hb dX7_offer_226 rfl (lv_at hl 5 rfl) ?_
        refine sy_getRX7 hx hb hts hown hE hP 0 rfl 16 (by decide) (hts _ (u_in uk_4_206)) (v := .ref (ad 17)) rfl dX7_offer_227 ?_
        refine lv_aload_n hx hb dX7_offer_230 rfl (lv_at hl 5 rfl) ?_
        refine sy_getRX7 hx hb hts hown hE hP 0 rfl 30 (by decide) (hts _ (u_in uk_4_220)) (v := .ref (ad 31)) rfl dX7_offer_231 ?_
        refine lv_iload_n hx hb dX7_offer_234 rfl (lv_at hl 6 rfl) ?_
        refine sy_ialdN hx hb hE hP 31 rfl (show vp_in x0 40 from (im_ticket hI c_2)) x0.toNatClampNeg rfl (v := g 31 x0.toNatClampNeg) rfl dX7_offer_235 ?_
        refine lv_dup2_11 hx hb dX7_offer_236 rfl rfl ?_
        refine sy_ialdN hx hb hE hP 17 rfl (show vp_in (g 31 x0.toNatClampNeg) 4 from (im_expertOf hI (im_ticket hI c_2))) ((g 31 x0.toNatClampNeg).toNatClampNeg) rfl (v := g 17 ((g 31 x0.toNatClampNeg).toNatClampNeg)) rfl dX7_offer_237 ?_
        refine lv_iload_n hx hb dX7_offer_238 rfl (lv_at hl 7 rfl) ?_
        refine lv_aload_n hx hb dX7_offer_239 rfl (lv_at hl 5 rfl) ?_
        refine sy_getRX7 hx hb hts hown hE hP 0 rfl 35 (by decide) (hts _ (u_in uk_4_225)) (v := .ref (ad 36)) rfl dX7_offer_240 ?_
        refine lv_iload_n hx hb dX7_offer_243 rfl (lv_at hl 6 rfl) ?_
        exact K_3 c_2 c_4 c_9 c_15 c_21 c_27 c_30 c_31 c_34 _ _ _ hP hS hl
      · skip
        refine lv_aload_n hx hb dX7_offer_164 rfl (lv_at hl 4 rfl) ?_
        refine sy_getRX7 hx hb hts hown hE hP 0 rfl 39 (by decide) (hts _ (u_in uk_4_229)) (v := .ref (ad 40)) rfl dX7_offer_165 ?_
        refine lv_iload_n hx hb dX7_offer_168 rfl (lv_at hl 5 rfl) ?_
        refine lv_dup2_11 hx hb dX7_offer_169 rfl rfl ?_
        refine sy_ialdN hx hb hE hP 40 rfl (show vp_in x0 40 from (im_ticket hI c_2)) x0.toNatClampNeg rfl (v := g 40 x0.toNatClampNeg) rfl dX7_offer_170 ?_
        refine lv_iconst (v := 1) hx hb dX7_offer_171 (by decide) ?_
        refine lv_iadd hx hb dX7_offer_172 ?_
        refine sy_iastN hx hb hE hP hS 40 rfl (show vp_in x0 40 from (im_ticket hI c_2)) x0.toNatClampNeg rfl dX7_offer_173 (fun H locs hP hS => ?_)
        refine lv_ldc (v := (-2147483648)) hx hb hown (hts _ (u_in uk_6_12)) dX7_offer_174 ?_
        exact (sy_ireti hx hb hr hlocks hE hP hS dX7_offer_176 ⟨Nat.le_of_ble_eq_true rfl, Nat.le_of_ble_eq_true rfl⟩ (by unfold fX7_offer; rw [if_pos c_2, if_pos c_4, if_neg c_9, if_pos c_15, if_neg c_21, if_pos c_27, if_neg c_30, if_pos c_31, if_neg c_34] <;> rfl))
  have K_5 : (0 ≤ x0 ∧ x0 ≤ (g 0 28) - 1) → ((g 39 x0.toNatClampNeg) = 0) → (¬ ((g 0 1) ≤ ((g 37 x0.toNatClampNeg) + (g 38 x0.toNatClampNeg)))) → ((fX7_bars g q x0) = 0) → (¬ ((fX7_isFound g q (g 30 x0.toNatClampNeg)) = 0)) → (0 ≤ x1 ∧ x1 ≤ 100000) → ((g 40 x0.toNatClampNeg) = 0) → (((g 35 x0.toNatClampNeg) + (fX7_interest (sy_up g 0 0 0) q x0)) ≤ x1) → ∀ (H : Heap) (locs : List Loc) (ls : Array Slot), Sy Z nT nK cT cK ad (sy_up (sy_up (sy_up (sy_up (sy_up g 0 0 0) 39 x0.toNatClampNeg 2) 8 ((g 30 x0.toNatClampNeg).toNatClampNeg) 0) 0 44 ((g 0 44) + x1)) 17 ((g 31 x0.toNatClampNeg).toNatClampNeg) ((g 17 ((g 31 x0.toNatClampNeg).toNatClampNeg)) + (x1 - (g 36 x0.toNatClampNeg)))) q H → va_S (sy_A Z) s.heap H locs → lv_has ls 8 [(7, .int (((x1 - (g 35 x0.toNatClampNeg)) - (fX7_interest (sy_up g 0 0 0) q x0)) - ((5 * x1) / 100))), (6, .int ((g 35 x0.toNatClampNeg) + (fX7_interest (sy_up g 0 0 0) q x0))), (5, .int (fX7_interest (sy_up g 0 0 0) q x0)), (4, .int 1), (3, .int (iB (0 ≤ x0 ∧ x0 ≤ (g 0 28) - 1))), (0, .ref (ad 0)), (1, .int x0), (2, .int x1)] → W p l e ({ frames := 2, cells := 0, slots := 0, locals := 49 } : Room) s m ([.ref (ad 0), .int x0, .int x1] : List Value).toArray below meth c H locs 0 0 (MQ below (sQi Z nT nK cT cK ad (fun r g1 q1 => (r, g1, q1) = ((fX7_offer g q x0 x1).1, (fX7_offer g q x0 x1).2, q))) ([.ref (ad 0), .int x0, .int x1] : List Value).toArray s 0 0 (sy_A Z)) (F0 m 248 ls []) := by
    intro c_2 c_4 c_9 c_15 c_21 c_27 c_30 c_36 H locs ls hP hS hl
    refine lv_iload hx hb dX7_offer_248 (lv_at hl 0 rfl) ?_
    refine lv_if_le (tgt := 285) hx hb dX7_offer_250 (by decide) (fun c_37 => ?_) (fun c_37 => ?_)
    · skip
      refine lv_aload_n hx hb dX7_offer_285 rfl (lv_at hl 5 rfl) ?_
      refine sy_getRX7 hx hb hts hown hE hP 0 rfl 15 (by decide) (hts _ (u_in uk_4_205)) (v := .ref (ad 16)) rfl dX7_offer_286 ?_
      refine lv_aload_n hx hb dX7_offer_289 rfl (lv_at hl 5 rfl) ?_
      refine sy_getRX7 hx hb hts hown hE hP 0 rfl 30 (by decide) (hts _ (u_in uk_4_220)) (v := .ref (ad 31)) rfl dX7_offer_290 ?_
      refine lv_iload_n hx hb dX7_offer_293 rfl (lv_at hl 6 rfl) ?_
      refine sy_ialdN hx hb hE hP 31 rfl (show vp_in x0 40 from (im_ticket hI c_2)) x0.toNatClampNeg rfl (v := g 31 x0.toNatClampNeg) rfl dX7_offer_294 ?_
      refine lv_dup2_11 hx hb dX7_offer_295 rfl rfl ?_
      refine sy_ialdN hx hb hE hP 16 rfl (show vp_in (g 31 x0.toNatClampNeg) 4 from (im_expertOf hI (im_ticket hI c_2))) ((g 31 x0.toNatClampNeg).toNatClampNeg) rfl (v := g 16 ((g 31 x0.toNatClampNeg).toNatClampNeg)) rfl dX7_offer_296 ?_
      refine lv_iload hx hb dX7_offer_297 (lv_at hl 0 rfl) ?_
      refine lv_isub hx hb dX7_offer_299 ?_
      refine sy_iastN hx hb hE hP hS 16 rfl (show vp_in (g 31 x0.toNatClampNeg) 4 from (im_expertOf hI (im_ticket hI c_2))) ((g 31 x0.toNatClampNeg).toNatClampNeg) rfl dX7_offer_300 (fun H locs hP hS => ?_)
      refine lv_iload hx hb dX7_offer_301 (lv_at hl 0 rfl) ?_
      exact (sy_ireti hx hb hr hlocks hE hP hS dX7_offer_303 ⟨Nat.le_of_ble_eq_true rfl, Nat.le_of_ble_eq_true rfl⟩ (by unfold fX7_offer; rw [if_pos c_2, if_pos c_4, if_neg c_9, if_pos c_15, if_neg c_21, if_pos c_27, if_pos c_30, if_pos c_36, if_pos c_37] <;> rfl))
    · skip
      refine lv_aload_n hx hb dX7_offer_253 rfl (lv_at hl 5 rfl) ?_
      refine sy_getRX7 hx hb hts hown hE hP 0 rfl 42 (by decide) (hts _ (u_in uk_4_232)) (v := .ref (ad 43)) rfl dX7_offer_254 ?_
      refine lv_iload_n hx hb dX7_offer_257 rfl (lv_at hl 6 rfl) ?_
      refine lv_iload hx hb dX7_offer_258 (lv_at hl 0 rfl) ?_
      refine sy_iastN hx hb hE hP hS 43 rfl (show vp_in x0 40 from (im_ticket hI c_2)) x0.toNatClampNeg rfl dX7_offer_260 (fun H locs hP hS => ?_)
      refine lv_aload_n hx hb dX7_offer_261 rfl (lv_at hl 5 rfl) ?_
      refine lv_dup hx hb dX7_offer_262 rfl ?_
      refine sy_getRX7 hx hb hts hown hE hP 0 rfl 45 (by decide) (hts _ (u_in uk_4_235)) (v := .int (g 0 45)) rfl dX7_offer_263 ?_
      refine lv_iload hx hb dX7_offer_266 (lv_at hl 0 rfl) ?_
      refine lv_iadd hx hb dX7_offer_268 ?_
      refine sy_putRX7 hx hb hts hown hE hP hS 0 rfl 45 (by decide) (hts _ (u_in uk_4_235)) rfl (ty := .int) (by decide +kernel) rfl rfl (sy_up (sy_up (sy_up (sy_up (sy_up (sy_up (sy_up g 0 0 0) 39 x0.toNatClampNeg 2) 8 ((g 30 x0.toNatClampNeg).toNatClampNeg) 0) 0 44 ((g 0 44) + x1)) 17 ((g 31 x0.toNatClampNeg).toNatClampNeg) ((g 17 ((g 31 x0.toNatClampNeg).toNatClampNeg)) + (x1 - (g 36 x0.toNatClampNeg)))) 43 x0.toNatClampNeg (((x1 - (g 35 x0.toNatClampNeg)) - (fX7_interest (sy_up g 0 0 0) q x0)) - ((5 * x1) / 100))) 0 45 ((g 0 45) + (((x1 - (g 35 x0.toNatClampNeg)) - (fX7_interest (sy_up g 0 0 0) q x0)) - ((5 * x1) / 100)))) q (by rw [sy_up_s (sy_up (sy_up (sy_up (sy_up (sy_up (sy_up g 0 0 0) 39 x0.toNatClampNeg 2) 8 ((g 30 x0.toNatClampNeg).toNatClampNeg) 0) 0 44 ((g 0 44) + x1)) 17 ((g 31 x0.toNatClampNeg).toNatClampNeg) ((g 17 ((g 31 x0.toNatClampNeg).toNatClampNeg)) + (x1 - (g 36 x0.toNatClampNeg)))) 43 x0.toNatClampNeg (((x1 - (g 35 x0.toNatClampNeg)) - (fX7_interest (sy_up g 0 0 0) q x0)) - ((5 * x1) / 100))) 0 45 ((g 0 45) + (((x1 - (g 35 x0.toNatClampNeg)) - (fX7_interest (sy_up g 0 0 0) q x0)) - ((5 * x1) / 100)))]; exact se_RX7_45 _ _ _ _ _ _ _) (fun _ h9 => sy_up_o _ _ _ h9) (fun _ _ => rfl) dX7_offer_269 (fun H locs hP hS => ?_)
      refine lv_aload_n hx hb dX7_offer_272 rfl (lv_at hl 5 rfl) ?_
      refine sy_getRX7 hx hb hts hown hE hP 0 rfl 43 (by decide) (hts _ (u_in uk_4_233)) (v := .ref (ad 44)) rfl dX7_offer_273 ?_
      refine lv_iload_n hx hb dX7_offer_276 rfl (lv_at hl 6 rfl) ?_
      refine lv_aload_n hx hb dX7_offer_277 rfl (lv_at hl 5 rfl) ?_
      refine sy_getRX7 hx hb hts hown hE hP 0 rfl 1 (by decide) (hts _ (u_in uk_4_191)) (v := .int (g 0 1)) rfl dX7_offer_278 ?_
      refine sy_iastN hx hb hE hP hS 44 rfl (show vp_in x0 40 from (im_ticket hI c_2)) x0.toNatClampNeg rfl dX7_offer_281 (fun H locs hP hS => ?_)
      refine lv_goto (tgt := 301) hx hb dX7_offer_282 (by decide) ?_
      refine lv_iload hx hb dX7_offer_301 (lv_at hl 0 rfl) ?_
      exact (sy_ireti hx hb hr hlocks hE hP hS dX7_offer_303 ⟨Nat.le_of_ble_eq_true rfl, Nat.le_of_ble_eq_true rfl⟩ (by unfold fX7_offer; rw [if_pos c_2, if_pos c_4, if_neg c_9, if_pos c_15, if_neg c_21, if_pos c_27, if_pos c_30, if_pos c_36, if_neg c_37] <;> rfl))
  have K_4 : (0 ≤ x0 ∧ x0 ≤ (g 0 28) - 1) → ((g 39 x0.toNatClampNeg) = 0) → (¬ ((g 0 1) ≤ ((g 37 x0.toNatClampNeg) + (g 38 x0.toNatClampNeg)))) → ((fX7_bars g q x0) = 0) → (¬ ((fX7_isFound g q (g 30 x0.toNatClampNeg)) = 0)) → (0 ≤ x1 ∧ x1 ≤ 100000) → ((g 40 x0.toNatClampNeg) = 0) → ∀ (H : Heap) (locs : List Loc) (ls : Array Slot), Sy Z nT nK cT cK ad (sy_up g 0 0 0) q H → va_S (sy_A Z) s.heap H locs → lv_has ls 8 [(5, .int (fX7_interest (sy_up g 0 0 0) q x0)), (4, .int 1), (3, .int (iB (0 ≤ x0 ∧ x0 ≤ (g 0 28) - 1))), (0, .ref (ad 0)), (1, .int x0), (2, .int x1)] → W p l e ({ frames := 2, cells := 0, slots := 0, locals := 49 } : Room) s m ([.ref (ad 0), .int x0, .int x1] : List Value).toArray below meth c H locs 0 0 (MQ below (sQi Z nT nK cT cK ad (fun r g1 q1 => (r, g1, q1) = ((fX7_offer g q x0 x1).1, (fX7_offer g q x0 x1).2, q))) ([.ref (ad 0), .int x0, .int x1] : List Value).toArray s 0 0 (sy_A Z)) (F0 m 125 ls [.ref (ad 0)]) := by
    intro c_2 c_4 c_9 c_15 c_21 c_27 c_30 H locs ls hP hS hl
    refine sy_getRX7 hx hb hts hown hE hP 0 rfl 34 (by decide) (hts _ (u_in uk_4_224)) (v := .ref (ad 35)) rfl dX7_offer_125 ?_
    refine lv_iload_n hx hb dX7_offer_128 rfl (lv_at hl 4 rfl) ?_
    refine sy_ialdN hx hb hE hP 35 rfl (show vp_in x0 40 from (im_ticket hI c_2)) x0.toNatClampNeg rfl (v := g 35 x0.toNatClampNeg) rfl dX7_offer_129 ?_
    refine lv_iload hx hb dX7_offer_130 (lv_at hl 0 rfl) ?_
    refine lv_iadd hx hb dX7_offer_132 ?_
    refine lv_goto (tgt := 156) hx hb dX7_offer_133 (by decide) ?_
    refine lv_istore (lv' := [(6, .int ((g 35 x0.toNatClampNeg) + (fX7_interest (sy_up g 0 0 0) q x0))), (5, .int (fX7_interest (sy_up g 0 0 0) q x0)), (4, .int 1), (3, .int (iB (0 ≤ x0 ∧ x0 ≤ (g 0 28) - 1))), (0, .ref (ad 0)), (1, .int x0), (2, .int x1)]) hx hb dX7_offer_156 hl (by decide) rfl (fun ls hl => ?_)
    refine lv_iload_n hx hb dX7_offer_158 rfl (lv_at hl 6 rfl) ?_
    refine lv_iload hx hb dX7_offer_159 (lv_at hl 0 rfl) ?_
    refine lv_icmp_ge (tgt := 177) hx hb dX7_offer_161 (by decide) (fun c_36 => ?_) (fun c_36 => ?_)
    · skip
      refine lv_iload_n hx hb dX7_offer_177 rfl (lv_at hl 6 rfl) ?_
      refine lv_aload_n hx hb dX7_offer_178 rfl (lv_at hl 4 rfl) ?_
      refine sy_getRX7 hx hb hts hown hE hP 0 rfl 34 (by decide) (hts _ (u_in uk_4_224)) (v := .ref (ad 35)) rfl dX7_offer_179 ?_
      refine lv_iload_n hx hb dX7_offer_182 rfl (lv_at hl 5 rfl) ?_
      refine sy_ialdN hx hb hE hP 35 rfl (show vp_in x0 40 from (im_ticket hI c_2)) x0.toNatClampNeg rfl (v := g 35 x0.toNatClampNeg) rfl dX7_offer_183 ?_
      refine lv_isub hx hb dX7_offer_184 ?_
      refine lv_iload hx hb dX7_offer_185 (lv_at hl 1 rfl) ?_
      refine lv_isub hx hb dX7_offer_187 ?_
      refine lv_iconst (v := 5) hx hb dX7_offer_188 (by decide) ?_
      refine lv_iload_n hx hb dX7_offer_189 rfl (lv_at hl 6 rfl) ?_
      refine lv_imul hx hb dX7_offer_190 ?_
      refine lv_bipush (v := 100) hx hb dX7_offer_191 (by decide) ?_
      refine lv_idiv hx hb dX7_offer_193 (by decide) ?_
      refine lv_isub hx hb dX7_offer_194 ?_
      refine lv_istore (lv' := [(7, .int (((x1 - (g 35 x0.toNatClampNeg)) - (fX7_interest (sy_up g 0 0 0) q x0)) - ((5 * x1) / 100))), (6, .int ((g 35 x0.toNatClampNeg) + (fX7_interest (sy_up g 0 0 0) q x0))), (5, .int (fX7_interest (sy_up g 0 0 0) q x0)), (4, .int 1), (3, .int (iB (0 ≤ x0 ∧ x0 ≤ (g 0 28) - 1))), (0, .ref (ad 0)), (1, .int x0), (2, .int x1)]) hx hb dX7_offer_195 hl (by decide) rfl (fun ls hl => ?_)
      refine lv_aload_n hx hb dX7_offer_197 rfl (lv_at hl 5 rfl) ?_
      refine sy_getRX7 hx hb hts hown hE hP 0 rfl 38 (by decide) (hts _ (u_in uk_4_228)) (v := .ref (ad 39)) rfl dX7_offer_198 ?_
      refine lv_iload_n hx hb dX7_offer_201 rfl (lv_at hl 6 rfl) ?_
      refine lv_iconst (v := 2) hx hb dX7_offer_202 (by decide) ?_
      refine sy_iastN hx hb hE hP hS 39 rfl (show vp_in x0 40 from (im_ticket hI c_2)) x0.toNatClampNeg rfl dX7_offer_203 (fun H locs hP hS => ?_)
      refine lv_aload_n hx hb dX7_offer_204 rfl (lv_at hl 5 rfl) ?_
      refine sy_getRX7 hx hb hts hown hE hP 0 rfl 7 (by decide) (hts _ (u_in uk_4_197)) (v := .ref (ad 8)) rfl dX7_offer_205 ?_
      refine lv_aload_n hx hb dX7_offer_208 rfl (lv_at hl 5 rfl) ?_
      refine sy_getRX7 hx hb hts hown hE hP 0 rfl 29 (by decide) (hts _ (u_in uk_4_219)) (v := .ref (ad 30)) rfl dX7_offer_209 ?_
      refine lv_iload_n hx hb dX7_offer_212 rfl (lv_at hl 6 rfl) ?_
      refine sy_ialdN hx hb hE hP 30 rfl (show vp_in x0 40 from (im_ticket hI c_2)) x0.toNatClampNeg rfl (v := g 30 x0.toNatClampNeg) rfl dX7_offer_213 ?_
      refine lv_iconst (v := 0) hx hb dX7_offer_214 (by decide) ?_
      refine sy_zastN hx hb hE hP hS 8 rfl (show vp_in (g 30 x0.toNatClampNeg) 40 from (im_thingOf hI (im_ticket hI c_2))) (by decide) ((g 30 x0.toNatClampNeg).toNatClampNeg) rfl dX7_offer_215 (fun H locs hP hS => ?_)
      refine lv_aload_n hx hb dX7_offer_216 rfl (lv_at hl 5 rfl) ?_
      refine lv_dup hx hb dX7_offer_217 rfl ?_
      refine sy_getRX7 hx hb hts hown hE hP 0 rfl 44 (by decide) (hts _ (u_in uk_4_234)) (v := .int (g 0 44)) rfl dX7_offer_218 ?_
      refine lv_iload_n hx hb dX7_offer_221 rfl (lv_at hl 7 rfl) ?_
      refine lv_iadd hx hb dX7_offer_222 ?_
      refine sy_putRX7 hx hb hts hown hE hP hS 0 rfl 44 (by decide) (hts _ (u_in uk_4_234)) rfl (ty := .int) (by decide +kernel) rfl rfl (sy_up (sy_up (sy_up (sy_up g 0 0 0) 39 x0.toNatClampNeg 2) 8 ((g 30 x0.toNatClampNeg).toNatClampNeg) 0) 0 44 ((g 0 44) + x1)) q (by rw [sy_up_s (sy_up (sy_up (sy_up g 0 0 0) 39 x0.toNatClampNeg 2) 8 ((g 30 x0.toNatClampNeg).toNatClampNeg) 0) 0 44 ((g 0 44) + x1)]; exact se_RX7_44 _ _ _ _ _ _ _) (fun _ h9 => sy_up_o _ _ _ h9) (fun _ _ => rfl) dX7_offer_223 (fun H locs hP hS => ?_)
      refine lv_aload_n hx hb dX7_offer_226 rfl (lv_at hl 5 rfl) ?_
      refine sy_getRX7 hx hb hts hown hE hP 0 rfl 16 (by decide) (hts _ (u_in uk_4_206)) (v := .ref (ad 17)) rfl dX7_offer_227 ?_
      refine lv_aload_n hx hb dX7_offer_230 rfl (lv_at hl 5 rfl) ?_
      refine sy_getRX7 hx hb hts hown hE hP 0 rfl 30 (by decide) (hts _ (u_in uk_4_220)) (v := .ref (ad 31)) rfl dX7_offer_231 ?_
      refine lv_iload_n hx hb dX7_offer_234 rfl (lv_at hl 6 rfl) ?_
      refine sy_ialdN hx hb hE hP 31 rfl (show vp_in x0 40 from (im_ticket hI c_2)) x0.toNatClampNeg rfl (v := g 31 x0.toNatClampNeg) rfl dX7_offer_235 ?_
      refine lv_dup2_11 hx hb dX7_offer_236 rfl rfl ?_
      refine sy_ialdN hx hb hE hP 17 rfl (show vp_in (g 31 x0.toNatClampNeg) 4 from (im_expertOf hI (im_ticket hI c_2))) ((g 31 x0.toNatClampNeg).toNatClampNeg) rfl (v := g 17 ((g 31 x0.toNatClampNeg).toNatClampNeg)) rfl dX7_offer_237 ?_
      refine lv_iload_n hx hb dX7_offer_238 rfl (lv_at hl 7 rfl) ?_
      refine lv_aload_n hx hb dX7_offer_239 rfl (lv_at hl 5 rfl) ?_
      refine sy_getRX7 hx hb hts hown hE hP 0 rfl 35 (by decide) (hts _ (u_in uk_4_225)) (v := .ref (ad 36)) rfl dX7_offer_240 ?_
      refine lv_iload_n hx hb dX7_offer_243 rfl (lv_at hl 6 rfl) ?_
      refine sy_ialdN hx hb hE hP 36 rfl (show vp_in x0 40 from (im_ticket hI c_2)) x0.toNatClampNeg rfl (v := g 36 x0.toNatClampNeg) rfl dX7_offer_244 ?_
      refine lv_isub hx hb dX7_offer_245 ?_
      refine lv_iadd hx hb dX7_offer_246 ?_
      refine sy_iastN hx hb hE hP hS 17 rfl (show vp_in (g 31 x0.toNatClampNeg) 4 from (im_expertOf hI (im_ticket hI c_2))) ((g 31 x0.toNatClampNeg).toNatClampNeg) rfl dX7_offer_247 (fun H locs hP hS => ?_)
      exact K_5 c_2 c_4 c_9 c_15 c_21 c_27 c_30 c_36 _ _ _ hP hS hl
    · skip
      refine lv_aload_n hx hb dX7_offer_164 rfl (lv_at hl 4 rfl) ?_
      refine sy_getRX7 hx hb hts hown hE hP 0 rfl 39 (by decide) (hts _ (u_in uk_4_229)) (v := .ref (ad 40)) rfl dX7_offer_165 ?_
      refine lv_iload_n hx hb dX7_offer_168 rfl (lv_at hl 5 rfl) ?_
      refine lv_dup2_11 hx hb dX7_offer_169 rfl rfl ?_
      refine sy_ialdN hx hb hE hP 40 rfl (show vp_in x0 40 from (im_ticket hI c_2)) x0.toNatClampNeg rfl (v := g 40 x0.toNatClampNeg) rfl dX7_offer_170 ?_
      refine lv_iconst (v := 1) hx hb dX7_offer_171 (by decide) ?_
      refine lv_iadd hx hb dX7_offer_172 ?_
      refine sy_iastN hx hb hE hP hS 40 rfl (show vp_in x0 40 from (im_ticket hI c_2)) x0.toNatClampNeg rfl dX7_offer_173 (fun H locs hP hS => ?_)
      refine lv_ldc (v := (-2147483648)) hx hb hown (hts _ (u_in uk_6_12)) dX7_offer_174 ?_
      exact (sy_ireti hx hb hr hlocks hE hP hS dX7_offer_176 ⟨Nat.le_of_ble_eq_true rfl, Nat.le_of_ble_eq_true rfl⟩ (by unfold fX7_offer; rw [if_pos c_2, if_pos c_4, if_neg c_9, if_pos c_15, if_neg c_21, if_pos c_27, if_pos c_30, if_neg c_36] <;> rfl))
  refine lv_aload_n hx hb dX7_offer_0 rfl (lv_at hl 0 rfl) ?_
  refine lv_iload_n hx hb dX7_offer_1 rfl (lv_at hl 1 rfl) ?_
  refine sy_ki (sy_rV (o := 0) (As := [.int x0]) (rest := []) ⟨hx, hb, hml, hown, hts⟩ hE hP hS (mX7_isTicket l hfl Z nT nK cT cK ad g q x0) (cwV 1 hts (gu_V uk_5_172 uk_5_174 uk_0_24 uk_1_9 uk_5_175) rfl rfl rfl (by decide +kernel) ⟨Nat.le_of_ble_eq_true rfl, Nat.le_of_ble_eq_true rfl⟩) (sy_recv (kc := 8) hE hP rfl (by decide) rfl rfl rfl) rfl hl.1 rfl (Nat.le_of_ble_eq_true rfl) dX7_offer_2 ⟨Nat.le_of_ble_eq_true rfl, Nat.le_of_ble_eq_true rfl⟩) hS (fun r_e_1 g_e_1 q_e_1 H locs e_1 hP hS => ?_)
  cases e_1
  refine sy_top (y := (iB (0 ≤ x0 ∧ x0 ≤ (g 0 28) - 1))) (by rfl) ?_
  refine lv_istore_n (lv' := [(3, .int (iB (0 ≤ x0 ∧ x0 ≤ (g 0 28) - 1))), (0, .ref (ad 0)), (1, .int x0), (2, .int x1)]) hx hb dX7_offer_5 rfl hl (by decide) rfl (fun ls hl => ?_)
  refine lv_iload_n hx hb dX7_offer_6 rfl (lv_at hl 0 rfl) ?_
  refine lv_if_eq (tgt := 64) hx hb dX7_offer_7 (by decide) (fun c_2 => ?_) (fun c_2 => ?_)
  · have c_2 := iB_0.mp c_2
    refine lv_iconst (v := 0) hx hb dX7_offer_64 (by decide) ?_
    refine lv_istore (lv' := [(4, .int 0), (3, .int (iB (0 ≤ x0 ∧ x0 ≤ (g 0 28) - 1))), (0, .ref (ad 0)), (1, .int x0), (2, .int x1)]) hx hb dX7_offer_65 hl (by decide) rfl (fun ls hl => ?_)
    refine lv_aload_n hx hb dX7_offer_67 rfl (lv_at hl 2 rfl) ?_
    refine lv_iload_n hx hb dX7_offer_68 rfl (lv_at hl 1 rfl) ?_
    refine lv_if_ne (tgt := 76) hx hb dX7_offer_69 (by decide) (fun c9 => absurd (iB_n.mp c9) c_2) (fun _ => ?_)
    refine lv_iconst (v := 1) hx hb dX7_offer_72 (by decide) ?_
    refine lv_goto (tgt := 100) hx hb dX7_offer_73 (by decide) ?_
    refine sy_ki (sy_rV (o := 0) (As := [.int 1]) (rest := []) ⟨hx, hb, hml, hown, hts⟩ hE hP hS (nX7_refused l hfl Z nT nK cT cK ad g q 1) (cwV 1 hts (gu_V uk_5_104 uk_5_106 uk_0_17 uk_1_9 uk_5_107) rfl rfl rfl (by decide +kernel) ⟨Nat.le_of_ble_eq_true rfl, Nat.le_of_ble_eq_true rfl⟩) (sy_recv (kc := 8) hE hP rfl (by decide) rfl rfl rfl) rfl hl.1 rfl (Nat.le_of_ble_eq_true rfl) dX7_offer_100 ⟨Nat.le_of_ble_eq_true rfl, Nat.le_of_ble_eq_true rfl⟩) hS (fun r_e_3 g_e_3 q_e_3 H locs e_3 hP hS => ?_)
    cases e_3
    refine sy_top (y := 1) (by rfl) ?_
    refine lv_if_eq (tgt := 108) hx hb dX7_offer_103 (by decide) (fun c9 => absurd c9 (by decide)) (fun _ => ?_)
    refine lv_iconst (v := 0) hx hb dX7_offer_106 (by decide) ?_
    exact (sy_ireti hx hb hr hlocks hE hP hS dX7_offer_107 ⟨Nat.le_of_ble_eq_true rfl, Nat.le_of_ble_eq_true rfl⟩ (by unfold fX7_offer; rw [if_neg c_2] <;> rfl))
  · have c_2 := iB_n.mp c_2
    refine lv_aload_n hx hb dX7_offer_10 rfl (lv_at hl 1 rfl) ?_
    refine sy_getRX7 hx hb hts hown hE hP 0 rfl 38 (by decide) (hts _ (u_in uk_4_228)) (v := .ref (ad 39)) rfl dX7_offer_11 ?_
    refine lv_iload_n hx hb dX7_offer_14 rfl (lv_at hl 2 rfl) ?_
    refine sy_ialdN hx hb hE hP 39 rfl (show vp_in x0 40 from (im_ticket hI c_2)) x0.toNatClampNeg rfl (v := g 39 x0.toNatClampNeg) rfl dX7_offer_15 ?_
    refine lv_if_ne (tgt := 64) hx hb dX7_offer_16 (by decide) (fun c_4 => ?_) (fun c_4 => ?_)
    · skip
      refine lv_iconst (v := 0) hx hb dX7_offer_64 (by decide) ?_
      refine lv_istore (lv' := [(4, .int 0), (3, .int (iB (0 ≤ x0 ∧ x0 ≤ (g 0 28) - 1))), (0, .ref (ad 0)), (1, .int x0), (2, .int x1)]) hx hb dX7_offer_65 hl (by decide) rfl (fun ls hl => ?_)
      refine lv_aload_n hx hb dX7_offer_67 rfl (lv_at hl 2 rfl) ?_
      refine lv_iload_n hx hb dX7_offer_68 rfl (lv_at hl 1 rfl) ?_
      refine lv_if_ne (tgt := 76) hx hb dX7_offer_69 (by decide) (fun _ => ?_) (fun c9 => absurd c_2 (iB_0.mp c9))
      refine lv_iload_n hx hb dX7_offer_76 rfl (lv_at hl 4 rfl) ?_
      refine lv_iconst (v := 0) hx hb dX7_offer_77 (by decide) ?_
      refine lv_ldc (v := 100000) hx hb hown (hts _ (u_in uk_5_127)) dX7_offer_78 ?_
      refine sy_ki (sy_rS (As := [.int x1, .int 0, .int 100000]) (rest := [.ref (ad 0)]) ⟨hx, hb, hml, hown, hts⟩ hE hP hS (nX7_is l hfl Z nT nK cT cK ad g q x1 0 100000) (va_cwS 3 hts (gu_S uk_5_101 uk_5_102 uk_1_9 uk_5_103) rfl rfl rfl (by decide +kernel) ⟨Nat.le_of_ble_eq_true rfl, Nat.le_of_ble_eq_true rfl⟩) rfl hl.1 rfl (Nat.le_of_ble_eq_true rfl) dX7_offer_80 ⟨Nat.le_of_ble_eq_true rfl, Nat.le_of_ble_eq_true rfl⟩) hS (fun r_e_5 g_e_5 q_e_5 H locs e_5 hP hS => ?_)
      cases e_5
      refine lv_if_ne (tgt := 90) hx hb dX7_offer_83 (by decide) (fun c_6 => ?_) (fun c_6 => ?_)
      · have c_6 := iB_n.mp c_6
        refine lv_iload hx hb dX7_offer_90 (lv_at hl 0 rfl) ?_
        refine lv_if_ne (tgt := 99) hx hb dX7_offer_92 (by decide) (fun c9 => absurd c9 (by decide)) (fun _ => ?_)
        refine lv_iconst (v := 3) hx hb dX7_offer_95 (by decide) ?_
        refine lv_goto (tgt := 100) hx hb dX7_offer_96 (by decide) ?_
        refine sy_ki (sy_rV (o := 0) (As := [.int 3]) (rest := []) ⟨hx, hb, hml, hown, hts⟩ hE hP hS (nX7_refused l hfl Z nT nK cT cK ad g q 3) (cwV 1 hts (gu_V uk_5_104 uk_5_106 uk_0_17 uk_1_9 uk_5_107) rfl rfl rfl (by decide +kernel) ⟨Nat.le_of_ble_eq_true rfl, Nat.le_of_ble_eq_true rfl⟩) (sy_recv (kc := 8) hE hP rfl (by decide) rfl rfl rfl) rfl hl.1 rfl (Nat.le_of_ble_eq_true rfl) dX7_offer_100 ⟨Nat.le_of_ble_eq_true rfl, Nat.le_of_ble_eq_true rfl⟩) hS (fun r_e_7 g_e_7 q_e_7 H locs e_7 hP hS => ?_)
        cases e_7
        refine sy_top (y := 1) (by rfl) ?_
        refine lv_if_eq (tgt := 108) hx hb dX7_offer_103 (by decide) (fun c9 => absurd c9 (by decide)) (fun _ => ?_)
        refine lv_iconst (v := 0) hx hb dX7_offer_106 (by decide) ?_
        exact (sy_ireti hx hb hr hlocks hE hP hS dX7_offer_107 ⟨Nat.le_of_ble_eq_true rfl, Nat.le_of_ble_eq_true rfl⟩ (by unfold fX7_offer; rw [if_pos c_2, if_neg c_4, if_pos c_6] <;> rfl))
      · have c_6 := iB_0.mp c_6
        refine lv_iconst (v := 2) hx hb dX7_offer_86 (by decide) ?_
        refine lv_goto (tgt := 100) hx hb dX7_offer_87 (by decide) ?_
        refine sy_ki (sy_rV (o := 0) (As := [.int 2]) (rest := []) ⟨hx, hb, hml, hown, hts⟩ hE hP hS (nX7_refused l hfl Z nT nK cT cK ad g q 2) (cwV 1 hts (gu_V uk_5_104 uk_5_106 uk_0_17 uk_1_9 uk_5_107) rfl rfl rfl (by decide +kernel) ⟨Nat.le_of_ble_eq_true rfl, Nat.le_of_ble_eq_true rfl⟩) (sy_recv (kc := 8) hE hP rfl (by decide) rfl rfl rfl) rfl hl.1 rfl (Nat.le_of_ble_eq_true rfl) dX7_offer_100 ⟨Nat.le_of_ble_eq_true rfl, Nat.le_of_ble_eq_true rfl⟩) hS (fun r_e_8 g_e_8 q_e_8 H locs e_8 hP hS => ?_)
        cases e_8
        refine sy_top (y := 1) (by rfl) ?_
        refine lv_if_eq (tgt := 108) hx hb dX7_offer_103 (by decide) (fun c9 => absurd c9 (by decide)) (fun _ => ?_)
        refine lv_iconst (v := 0) hx hb dX7_offer_106 (by decide) ?_
        exact (sy_ireti hx hb hr hlocks hE hP hS dX7_offer_107 ⟨Nat.le_of_ble_eq_true rfl, Nat.le_of_ble_eq_true rfl⟩ (by unfold fX7_offer; rw [if_pos c_2, if_neg c_4, if_neg c_6] <;> rfl))
    · skip
      refine lv_aload_n hx hb dX7_offer_19 rfl (lv_at hl 1 rfl) ?_
      refine sy_getRX7 hx hb hts hown hE hP 0 rfl 1 (by decide) (hts _ (u_in uk_4_191)) (v := .int (g 0 1)) rfl dX7_offer_20 ?_
      refine lv_aload_n hx hb dX7_offer_23 rfl (lv_at hl 1 rfl) ?_
      refine sy_getRX7 hx hb hts hown hE hP 0 rfl 36 (by decide) (hts _ (u_in uk_4_226)) (v := .ref (ad 37)) rfl dX7_offer_24 ?_
      refine lv_iload_n hx hb dX7_offer_27 rfl (lv_at hl 2 rfl) ?_
      refine sy_ialdN hx hb hE hP 37 rfl (show vp_in x0 40 from (im_ticket hI c_2)) x0.toNatClampNeg rfl (v := g 37 x0.toNatClampNeg) rfl dX7_offer_28 ?_
      refine lv_aload_n hx hb dX7_offer_29 rfl (lv_at hl 1 rfl) ?_
      refine sy_getRX7 hx hb hts hown hE hP 0 rfl 37 (by decide) (hts _ (u_in uk_4_227)) (v := .ref (ad 38)) rfl dX7_offer_30 ?_
      refine lv_iload_n hx hb dX7_offer_33 rfl (lv_at hl 2 rfl) ?_
      refine sy_ialdN hx hb hE hP 38 rfl (show vp_in x0 40 from (im_ticket hI c_2)) x0.toNatClampNeg rfl (v := g 38 x0.toNatClampNeg) rfl dX7_offer_34 ?_
      refine lv_iadd hx hb dX7_offer_35 ?_
      refine lv_icmp_le (tgt := 64) hx hb dX7_offer_36 (by decide) (fun c_9 => ?_) (fun c_9 => ?_)
      · skip
        refine lv_iconst (v := 0) hx hb dX7_offer_64 (by decide) ?_
        refine lv_istore (lv' := [(4, .int 0), (3, .int (iB (0 ≤ x0 ∧ x0 ≤ (g 0 28) - 1))), (0, .ref (ad 0)), (1, .int x0), (2, .int x1)]) hx hb dX7_offer_65 hl (by decide) rfl (fun ls hl => ?_)
        refine lv_aload_n hx hb dX7_offer_67 rfl (lv_at hl 2 rfl) ?_
        refine lv_iload_n hx hb dX7_offer_68 rfl (lv_at hl 1 rfl) ?_
        refine lv_if_ne (tgt := 76) hx hb dX7_offer_69 (by decide) (fun _ => ?_) (fun c9 => absurd c_2 (iB_0.mp c9))
        refine lv_iload_n hx hb dX7_offer_76 rfl (lv_at hl 4 rfl) ?_
        refine lv_iconst (v := 0) hx hb dX7_offer_77 (by decide) ?_
        refine lv_ldc (v := 100000) hx hb hown (hts _ (u_in uk_5_127)) dX7_offer_78 ?_
        refine sy_ki (sy_rS (As := [.int x1, .int 0, .int 100000]) (rest := [.ref (ad 0)]) ⟨hx, hb, hml, hown, hts⟩ hE hP hS (nX7_is l hfl Z nT nK cT cK ad g q x1 0 100000) (va_cwS 3 hts (gu_S uk_5_101 uk_5_102 uk_1_9 uk_5_103) rfl rfl rfl (by decide +kernel) ⟨Nat.le_of_ble_eq_true rfl, Nat.le_of_ble_eq_true rfl⟩) rfl hl.1 rfl (Nat.le_of_ble_eq_true rfl) dX7_offer_80 ⟨Nat.le_of_ble_eq_true rfl, Nat.le_of_ble_eq_true rfl⟩) hS (fun r_e_10 g_e_10 q_e_10 H locs e_10 hP hS => ?_)
        cases e_10
        refine lv_if_ne (tgt := 90) hx hb dX7_offer_83 (by decide) (fun c_11 => ?_) (fun c_11 => ?_)
        · have c_11 := iB_n.mp c_11
          refine lv_iload hx hb dX7_offer_90 (lv_at hl 0 rfl) ?_
          refine lv_if_ne (tgt := 99) hx hb dX7_offer_92 (by decide) (fun c9 => absurd c9 (by decide)) (fun _ => ?_)
          refine lv_iconst (v := 3) hx hb dX7_offer_95 (by decide) ?_
          refine lv_goto (tgt := 100) hx hb dX7_offer_96 (by decide) ?_
          refine sy_ki (sy_rV (o := 0) (As := [.int 3]) (rest := []) ⟨hx, hb, hml, hown, hts⟩ hE hP hS (nX7_refused l hfl Z nT nK cT cK ad g q 3) (cwV 1 hts (gu_V uk_5_104 uk_5_106 uk_0_17 uk_1_9 uk_5_107) rfl rfl rfl (by decide +kernel) ⟨Nat.le_of_ble_eq_true rfl, Nat.le_of_ble_eq_true rfl⟩) (sy_recv (kc := 8) hE hP rfl (by decide) rfl rfl rfl) rfl hl.1 rfl (Nat.le_of_ble_eq_true rfl) dX7_offer_100 ⟨Nat.le_of_ble_eq_true rfl, Nat.le_of_ble_eq_true rfl⟩) hS (fun r_e_12 g_e_12 q_e_12 H locs e_12 hP hS => ?_)
          cases e_12
          refine sy_top (y := 1) (by rfl) ?_
          refine lv_if_eq (tgt := 108) hx hb dX7_offer_103 (by decide) (fun c9 => absurd c9 (by decide)) (fun _ => ?_)
          refine lv_iconst (v := 0) hx hb dX7_offer_106 (by decide) ?_
          exact (sy_ireti hx hb hr hlocks hE hP hS dX7_offer_107 ⟨Nat.le_of_ble_eq_true rfl, Nat.le_of_ble_eq_true rfl⟩ (by unfold fX7_offer; rw [if_pos c_2, if_pos c_4, if_pos c_9, if_pos c_11] <;> rfl))
        · have c_11 := iB_0.mp c_11
          refine lv_iconst (v := 2) hx hb dX7_offer_86 (by decide) ?_
          refine lv_goto (tgt := 100) hx hb dX7_offer_87 (by decide) ?_
          refine sy_ki (sy_rV (o := 0) (As := [.int 2]) (rest := []) ⟨hx, hb, hml, hown, hts⟩ hE hP hS (nX7_refused l hfl Z nT nK cT cK ad g q 2) (cwV 1 hts (gu_V uk_5_104 uk_5_106 uk_0_17 uk_1_9 uk_5_107) rfl rfl rfl (by decide +kernel) ⟨Nat.le_of_ble_eq_true rfl, Nat.le_of_ble_eq_true rfl⟩) (sy_recv (kc := 8) hE hP rfl (by decide) rfl rfl rfl) rfl hl.1 rfl (Nat.le_of_ble_eq_true rfl) dX7_offer_100 ⟨Nat.le_of_ble_eq_true rfl, Nat.le_of_ble_eq_true rfl⟩) hS (fun r_e_13 g_e_13 q_e_13 H locs e_13 hP hS => ?_)
          cases e_13
          refine sy_top (y := 1) (by rfl) ?_
          refine lv_if_eq (tgt := 108) hx hb dX7_offer_103 (by decide) (fun c9 => absurd c9 (by decide)) (fun _ => ?_)
          refine lv_iconst (v := 0) hx hb dX7_offer_106 (by decide) ?_
          exact (sy_ireti hx hb hr hlocks hE hP hS dX7_offer_107 ⟨Nat.le_of_ble_eq_true rfl, Nat.le_of_ble_eq_true rfl⟩ (by unfold fX7_offer; rw [if_pos c_2, if_pos c_4, if_pos c_9, if_neg c_11] <;> rfl))
      · skip
        refine lv_aload_n hx hb dX7_offer_39 rfl (lv_at hl 1 rfl) ?_
        refine lv_iload_n hx hb dX7_offer_40 rfl (lv_at hl 2 rfl) ?_
        refine sy_ki (sy_rV (o := 0) (As := [.int x0]) (rest := []) ⟨hx, hb, hml, hown, hts⟩ hE hP hS (mX7_bars l hfl Z nT nK cT cK ad g q x0 hI (show vp_in x0 40 from (im_ticket hI c_2))) (cwV 1 hts (gu_V uk_5_176 uk_5_178 uk_0_25 uk_1_9 uk_5_179) rfl rfl rfl (by decide +kernel) ⟨Nat.le_of_ble_eq_true rfl, Nat.le_of_ble_eq_true rfl⟩) (sy_recv (kc := 8) hE hP rfl (by decide) rfl rfl rfl) rfl hl.1 rfl (Nat.le_of_ble_eq_true rfl) dX7_offer_41 ⟨Nat.le_of_ble_eq_true rfl, Nat.le_of_ble_eq_true rfl⟩) hS (fun r_e_14 g_e_14 q_e_14 H locs e_14 hP hS => ?_)
        cases e_14
        refine lv_if_ne (tgt := 64) hx hb dX7_offer_44 (by decide) (fun c_15 => ?_) (fun c_15 => ?_)
        · skip
          refine lv_iconst (v := 0) hx hb dX7_offer_64 (by decide) ?_
          refine lv_istore (lv' := [(4, .int 0), (3, .int (iB (0 ≤ x0 ∧ x0 ≤ (g 0 28) - 1))), (0, .ref (ad 0)), (1, .int x0), (2, .int x1)]) hx hb dX7_offer_65 hl (by decide) rfl (fun ls hl => ?_)
          refine lv_aload_n hx hb dX7_offer_67 rfl (lv_at hl 2 rfl) ?_
          refine lv_iload_n hx hb dX7_offer_68 rfl (lv_at hl 1 rfl) ?_
          refine lv_if_ne (tgt := 76) hx hb dX7_offer_69 (by decide) (fun _ => ?_) (fun c9 => absurd c_2 (iB_0.mp c9))
          refine lv_iload_n hx hb dX7_offer_76 rfl (lv_at hl 4 rfl) ?_
          refine lv_iconst (v := 0) hx hb dX7_offer_77 (by decide) ?_
          refine lv_ldc (v := 100000) hx hb hown (hts _ (u_in uk_5_127)) dX7_offer_78 ?_
          refine sy_ki (sy_rS (As := [.int x1, .int 0, .int 100000]) (rest := [.ref (ad 0)]) ⟨hx, hb, hml, hown, hts⟩ hE hP hS (nX7_is l hfl Z nT nK cT cK ad g q x1 0 100000) (va_cwS 3 hts (gu_S uk_5_101 uk_5_102 uk_1_9 uk_5_103) rfl rfl rfl (by decide +kernel) ⟨Nat.le_of_ble_eq_true rfl, Nat.le_of_ble_eq_true rfl⟩) rfl hl.1 rfl (Nat.le_of_ble_eq_true rfl) dX7_offer_80 ⟨Nat.le_of_ble_eq_true rfl, Nat.le_of_ble_eq_true rfl⟩) hS (fun r_e_16 g_e_16 q_e_16 H locs e_16 hP hS => ?_)
          cases e_16
          refine lv_if_ne (tgt := 90) hx hb dX7_offer_83 (by decide) (fun c_17 => ?_) (fun c_17 => ?_)
          · have c_17 := iB_n.mp c_17
            refine lv_iload hx hb dX7_offer_90 (lv_at hl 0 rfl) ?_
            refine lv_if_ne (tgt := 99) hx hb dX7_offer_92 (by decide) (fun c9 => absurd c9 (by decide)) (fun _ => ?_)
            refine lv_iconst (v := 3) hx hb dX7_offer_95 (by decide) ?_
            refine lv_goto (tgt := 100) hx hb dX7_offer_96 (by decide) ?_
            refine sy_ki (sy_rV (o := 0) (As := [.int 3]) (rest := []) ⟨hx, hb, hml, hown, hts⟩ hE hP hS (nX7_refused l hfl Z nT nK cT cK ad g q 3) (cwV 1 hts (gu_V uk_5_104 uk_5_106 uk_0_17 uk_1_9 uk_5_107) rfl rfl rfl (by decide +kernel) ⟨Nat.le_of_ble_eq_true rfl, Nat.le_of_ble_eq_true rfl⟩) (sy_recv (kc := 8) hE hP rfl (by decide) rfl rfl rfl) rfl hl.1 rfl (Nat.le_of_ble_eq_true rfl) dX7_offer_100 ⟨Nat.le_of_ble_eq_true rfl, Nat.le_of_ble_eq_true rfl⟩) hS (fun r_e_18 g_e_18 q_e_18 H locs e_18 hP hS => ?_)
            cases e_18
            refine sy_top (y := 1) (by rfl) ?_
            refine lv_if_eq (tgt := 108) hx hb dX7_offer_103 (by decide) (fun c9 => absurd c9 (by decide)) (fun _ => ?_)
            refine lv_iconst (v := 0) hx hb dX7_offer_106 (by decide) ?_
            exact (sy_ireti hx hb hr hlocks hE hP hS dX7_offer_107 ⟨Nat.le_of_ble_eq_true rfl, Nat.le_of_ble_eq_true rfl⟩ (by unfold fX7_offer; rw [if_pos c_2, if_pos c_4, if_neg c_9, if_neg c_15, if_pos c_17] <;> rfl))
          · have c_17 := iB_0.mp c_17
            refine lv_iconst (v := 2) hx hb dX7_offer_86 (by decide) ?_
            refine lv_goto (tgt := 100) hx hb dX7_offer_87 (by decide) ?_
            refine sy_ki (sy_rV (o := 0) (As := [.int 2]) (rest := []) ⟨hx, hb, hml, hown, hts⟩ hE hP hS (nX7_refused l hfl Z nT nK cT cK ad g q 2) (cwV 1 hts (gu_V uk_5_104 uk_5_106 uk_0_17 uk_1_9 uk_5_107) rfl rfl rfl (by decide +kernel) ⟨Nat.le_of_ble_eq_true rfl, Nat.le_of_ble_eq_true rfl⟩) (sy_recv (kc := 8) hE hP rfl (by decide) rfl rfl rfl) rfl hl.1 rfl (Nat.le_of_ble_eq_true rfl) dX7_offer_100 ⟨Nat.le_of_ble_eq_true rfl, Nat.le_of_ble_eq_true rfl⟩) hS (fun r_e_19 g_e_19 q_e_19 H locs e_19 hP hS => ?_)
            cases e_19
            refine sy_top (y := 1) (by rfl) ?_
            refine lv_if_eq (tgt := 108) hx hb dX7_offer_103 (by decide) (fun c9 => absurd c9 (by decide)) (fun _ => ?_)
            refine lv_iconst (v := 0) hx hb dX7_offer_106 (by decide) ?_
            exact (sy_ireti hx hb hr hlocks hE hP hS dX7_offer_107 ⟨Nat.le_of_ble_eq_true rfl, Nat.le_of_ble_eq_true rfl⟩ (by unfold fX7_offer; rw [if_pos c_2, if_pos c_4, if_neg c_9, if_neg c_15, if_neg c_17] <;> rfl))
        · skip
          refine lv_aload_n hx hb dX7_offer_47 rfl (lv_at hl 1 rfl) ?_
          refine lv_aload_n hx hb dX7_offer_48 rfl (lv_at hl 1 rfl) ?_
          refine sy_getRX7 hx hb hts hown hE hP 0 rfl 29 (by decide) (hts _ (u_in uk_4_219)) (v := .ref (ad 30)) rfl dX7_offer_49 ?_
          refine lv_iload_n hx hb dX7_offer_52 rfl (lv_at hl 2 rfl) ?_
          refine sy_ialdN hx hb hE hP 30 rfl (show vp_in x0 40 from (im_ticket hI c_2)) x0.toNatClampNeg rfl (v := g 30 x0.toNatClampNeg) rfl dX7_offer_53 ?_
          refine sy_ki (sy_rV (o := 0) (As := [.int (g 30 x0.toNatClampNeg)]) (rest := []) ⟨hx, hb, hml, hown, hts⟩ hE hP hS (mX7_isFound l hfl Z nT nK cT cK ad g q (g 30 x0.toNatClampNeg) hI (show vp_in (g 30 x0.toNatClampNeg) 40 from (im_thingOf hI (im_ticket hI c_2)))) (cwV 1 hts (gu_V uk_5_180 uk_5_182 uk_0_26 uk_1_9 uk_5_183) rfl rfl rfl (by decide +kernel) ⟨Nat.le_of_ble_eq_true rfl, Nat.le_of_ble_eq_true rfl⟩) (sy_recv (kc := 8) hE hP rfl (by decide) rfl rfl rfl) rfl hl.1 rfl (Nat.le_of_ble_eq_true rfl) dX7_offer_54 ⟨Nat.le_of_ble_eq_true rfl, Nat.le_of_ble_eq_true rfl⟩) hS (fun r_e_20 g_e_20 q_e_20 H locs e_20 hP hS => ?_)
          cases e_20
          refine lv_if_eq (tgt := 64) hx hb dX7_offer_57 (by decide) (fun c_21 => ?_) (fun c_21 => ?_)
          · skip
            refine lv_iconst (v := 0) hx hb dX7_offer_64 (by decide) ?_
            refine lv_istore (lv' := [(4, .int 0), (3, .int (iB (0 ≤ x0 ∧ x0 ≤ (g 0 28) - 1))), (0, .ref (ad 0)), (1, .int x0), (2, .int x1)]) hx hb dX7_offer_65 hl (by decide) rfl (fun ls hl => ?_)
            refine lv_aload_n hx hb dX7_offer_67 rfl (lv_at hl 2 rfl) ?_
            refine lv_iload_n hx hb dX7_offer_68 rfl (lv_at hl 1 rfl) ?_
            refine lv_if_ne (tgt := 76) hx hb dX7_offer_69 (by decide) (fun _ => ?_) (fun c9 => absurd c_2 (iB_0.mp c9))
            refine lv_iload_n hx hb dX7_offer_76 rfl (lv_at hl 4 rfl) ?_
            refine lv_iconst (v := 0) hx hb dX7_offer_77 (by decide) ?_
            refine lv_ldc (v := 100000) hx hb hown (hts _ (u_in uk_5_127)) dX7_offer_78 ?_
            refine sy_ki (sy_rS (As := [.int x1, .int 0, .int 100000]) (rest := [.ref (ad 0)]) ⟨hx, hb, hml, hown, hts⟩ hE hP hS (nX7_is l hfl Z nT nK cT cK ad g q x1 0 100000) (va_cwS 3 hts (gu_S uk_5_101 uk_5_102 uk_1_9 uk_5_103) rfl rfl rfl (by decide +kernel) ⟨Nat.le_of_ble_eq_true rfl, Nat.le_of_ble_eq_true rfl⟩) rfl hl.1 rfl (Nat.le_of_ble_eq_true rfl) dX7_offer_80 ⟨Nat.le_of_ble_eq_true rfl, Nat.le_of_ble_eq_true rfl⟩) hS (fun r_e_22 g_e_22 q_e_22 H locs e_22 hP hS => ?_)
            cases e_22
            refine lv_if_ne (tgt := 90) hx hb dX7_offer_83 (by decide) (fun c_23 => ?_) (fun c_23 => ?_)
            · have c_23 := iB_n.mp c_23
              refine lv_iload hx hb dX7_offer_90 (lv_at hl 0 rfl) ?_
              refine lv_if_ne (tgt := 99) hx hb dX7_offer_92 (by decide) (fun c9 => absurd c9 (by decide)) (fun _ => ?_)
              refine lv_iconst (v := 3) hx hb dX7_offer_95 (by decide) ?_
              refine lv_goto (tgt := 100) hx hb dX7_offer_96 (by decide) ?_
              refine sy_ki (sy_rV (o := 0) (As := [.int 3]) (rest := []) ⟨hx, hb, hml, hown, hts⟩ hE hP hS (nX7_refused l hfl Z nT nK cT cK ad g q 3) (cwV 1 hts (gu_V uk_5_104 uk_5_106 uk_0_17 uk_1_9 uk_5_107) rfl rfl rfl (by decide +kernel) ⟨Nat.le_of_ble_eq_true rfl, Nat.le_of_ble_eq_true rfl⟩) (sy_recv (kc := 8) hE hP rfl (by decide) rfl rfl rfl) rfl hl.1 rfl (Nat.le_of_ble_eq_true rfl) dX7_offer_100 ⟨Nat.le_of_ble_eq_true rfl, Nat.le_of_ble_eq_true rfl⟩) hS (fun r_e_24 g_e_24 q_e_24 H locs e_24 hP hS => ?_)
              cases e_24
              refine sy_top (y := 1) (by rfl) ?_
              refine lv_if_eq (tgt := 108) hx hb dX7_offer_103 (by decide) (fun c9 => absurd c9 (by decide)) (fun _ => ?_)
              refine lv_iconst (v := 0) hx hb dX7_offer_106 (by decide) ?_
              exact (sy_ireti hx hb hr hlocks hE hP hS dX7_offer_107 ⟨Nat.le_of_ble_eq_true rfl, Nat.le_of_ble_eq_true rfl⟩ (by unfold fX7_offer; rw [if_pos c_2, if_pos c_4, if_neg c_9, if_pos c_15, if_pos c_21, if_pos c_23] <;> rfl))
            · have c_23 := iB_0.mp c_23
              refine lv_iconst (v := 2) hx hb dX7_offer_86 (by decide) ?_
              refine lv_goto (tgt := 100) hx hb dX7_offer_87 (by decide) ?_
              refine sy_ki (sy_rV (o := 0) (As := [.int 2]) (rest := []) ⟨hx, hb, hml, hown, hts⟩ hE hP hS (nX7_refused l hfl Z nT nK cT cK ad g q 2) (cwV 1 hts (gu_V uk_5_104 uk_5_106 uk_0_17 uk_1_9 uk_5_107) rfl rfl rfl (by decide +kernel) ⟨Nat.le_of_ble_eq_true rfl, Nat.le_of_ble_eq_true rfl⟩) (sy_recv (kc := 8) hE hP rfl (by decide) rfl rfl rfl) rfl hl.1 rfl (Nat.le_of_ble_eq_true rfl) dX7_offer_100 ⟨Nat.le_of_ble_eq_true rfl, Nat.le_of_ble_eq_true rfl⟩) hS (fun r_e_25 g_e_25 q_e_25 H locs e_25 hP hS => ?_)
              cases e_25
              refine sy_top (y := 1) (by rfl) ?_
              refine lv_if_eq (tgt := 108) hx hb dX7_offer_103 (by decide) (fun c9 => absurd c9 (by decide)) (fun _ => ?_)
              refine lv_iconst (v := 0) hx hb dX7_offer_106 (by decide) ?_
              exact (sy_ireti hx hb hr hlocks hE hP hS dX7_offer_107 ⟨Nat.le_of_ble_eq_true rfl, Nat.le_of_ble_eq_true rfl⟩ (by unfold fX7_offer; rw [if_pos c_2, if_pos c_4, if_neg c_9, if_pos c_15, if_pos c_21, if_neg c_23] <;> rfl))
          · skip
            refine lv_iconst (v := 1) hx hb dX7_offer_60 (by decide) ?_
            refine lv_goto (tgt := 65) hx hb dX7_offer_61 (by decide) ?_
            refine lv_istore (lv' := [(4, .int 1), (3, .int (iB (0 ≤ x0 ∧ x0 ≤ (g 0 28) - 1))), (0, .ref (ad 0)), (1, .int x0), (2, .int x1)]) hx hb dX7_offer_65 hl (by decide) rfl (fun ls hl => ?_)
            refine lv_aload_n hx hb dX7_offer_67 rfl (lv_at hl 2 rfl) ?_
            refine lv_iload_n hx hb dX7_offer_68 rfl (lv_at hl 1 rfl) ?_
            refine lv_if_ne (tgt := 76) hx hb dX7_offer_69 (by decide) (fun _ => ?_) (fun c9 => absurd c_2 (iB_0.mp c9))
            refine lv_iload_n hx hb dX7_offer_76 rfl (lv_at hl 4 rfl) ?_
            refine lv_iconst (v := 0) hx hb dX7_offer_77 (by decide) ?_
            refine lv_ldc (v := 100000) hx hb hown (hts _ (u_in uk_5_127)) dX7_offer_78 ?_
            refine sy_ki (sy_rS (As := [.int x1, .int 0, .int 100000]) (rest := [.ref (ad 0)]) ⟨hx, hb, hml, hown, hts⟩ hE hP hS (nX7_is l hfl Z nT nK cT cK ad g q x1 0 100000) (va_cwS 3 hts (gu_S uk_5_101 uk_5_102 uk_1_9 uk_5_103) rfl rfl rfl (by decide +kernel) ⟨Nat.le_of_ble_eq_true rfl, Nat.le_of_ble_eq_true rfl⟩) rfl hl.1 rfl (Nat.le_of_ble_eq_true rfl) dX7_offer_80 ⟨Nat.le_of_ble_eq_true rfl, Nat.le_of_ble_eq_true rfl⟩) hS (fun r_e_26 g_e_26 q_e_26 H locs e_26 hP hS => ?_)
            cases e_26
            refine lv_if_ne (tgt := 90) hx hb dX7_offer_83 (by decide) (fun c_27 => ?_) (fun c_27 => ?_)
            · have c_27 := iB_n.mp c_27
              refine lv_iload hx hb dX7_offer_90 (lv_at hl 0 rfl) ?_
              refine lv_if_ne (tgt := 99) hx hb dX7_offer_92 (by decide) (fun _ => ?_) (fun c9 => absurd c9 (by decide))
              refine lv_iconst (v := 0) hx hb dX7_offer_99 (by decide) ?_
              refine sy_ki (sy_rV (o := 0) (As := [.int 0]) (rest := []) ⟨hx, hb, hml, hown, hts⟩ hE hP hS (nX7_refused l hfl Z nT nK cT cK ad g q 0) (cwV 1 hts (gu_V uk_5_104 uk_5_106 uk_0_17 uk_1_9 uk_5_107) rfl rfl rfl (by decide +kernel) ⟨Nat.le_of_ble_eq_true rfl, Nat.le_of_ble_eq_true rfl⟩) (sy_recv (kc := 8) hE hP rfl (by decide) rfl rfl rfl) rfl hl.1 rfl (Nat.le_of_ble_eq_true rfl) dX7_offer_100 ⟨Nat.le_of_ble_eq_true rfl, Nat.le_of_ble_eq_true rfl⟩) hS (fun r_e_28 g_e_28 q_e_28 H locs e_28 hP hS => ?_)
              cases e_28
              refine sy_top (y := 0) (by rfl) ?_
              refine lv_if_eq (tgt := 108) hx hb dX7_offer_103 (by decide) (fun _ => ?_) (fun c9 => absurd c9 (by decide))
              refine lv_aload_n hx hb dX7_offer_108 rfl (lv_at hl 2 rfl) ?_
              refine lv_iload_n hx hb dX7_offer_109 rfl (lv_at hl 3 rfl) ?_
              refine sy_ki (sy_rV (o := 0) (As := [.int x0]) (rest := []) ⟨hx, hb, hml, hown, hts⟩ hE hP hS (mX7_interest l hfl Z nT nK cT cK ad (sy_up g 0 0 0) q x0 (im_0 (by decide) hI) (show vp_in x0 40 from (im_ticket hI c_2))) (cwV 1 hts (gu_V uk_5_184 uk_5_186 uk_0_27 uk_1_9 uk_5_187) rfl rfl rfl (by decide +kernel) ⟨Nat.le_of_ble_eq_true rfl, Nat.le_of_ble_eq_true rfl⟩) (sy_recv (kc := 8) hE hP rfl (by decide) rfl rfl rfl) rfl hl.1 rfl (Nat.le_of_ble_eq_true rfl) dX7_offer_110 ⟨Nat.le_of_ble_eq_true rfl, Nat.le_of_ble_eq_true rfl⟩) hS (fun r_e_29 g_e_29 q_e_29 H locs e_29 hP hS => ?_)
              cases e_29
              refine lv_istore (lv' := [(5, .int (fX7_interest (sy_up g 0 0 0) q x0)), (4, .int 1), (3, .int (iB (0 ≤ x0 ∧ x0 ≤ (g 0 28) - 1))), (0, .ref (ad 0)), (1, .int x0), (2, .int x1)]) hx hb dX7_offer_113 hl (by decide) rfl (fun ls hl => ?_)
              refine lv_aload_n hx hb dX7_offer_115 rfl (lv_at hl 3 rfl) ?_
              refine sy_getRX7 hx hb hts hown hE hP 0 rfl 39 (by decide) (hts _ (u_in uk_4_229)) (v := .ref (ad 40)) rfl dX7_offer_116 ?_
              refine lv_iload_n hx hb dX7_offer_119 rfl (lv_at hl 4 rfl) ?_
              refine sy_ialdN hx hb hE hP 40 rfl (show vp_in x0 40 from (im_ticket hI c_2)) x0.toNatClampNeg rfl (v := g 40 x0.toNatClampNeg) rfl dX7_offer_120 ?_
              refine lv_if_ne (tgt := 136) hx hb dX7_offer_121 (by decide) (fun c_30 => ?_) (fun c_30 => ?_)
              · skip
                refine lv_aload_n hx hb dX7_offer_136 rfl (lv_at hl 3 rfl) ?_
                exact K_1 c_2 c_4 c_9 c_15 c_21 c_27 c_30 _ _ _ hP hS hl
              · skip
                refine lv_aload_n hx hb dX7_offer_124 rfl (lv_at hl 3 rfl) ?_
                exact K_4 c_2 c_4 c_9 c_15 c_21 c_27 c_30 _ _ _ hP hS hl
            · have c_27 := iB_0.mp c_27
              refine lv_iconst (v := 2) hx hb dX7_offer_86 (by decide) ?_
              refine lv_goto (tgt := 100) hx hb dX7_offer_87 (by decide) ?_
              refine sy_ki (sy_rV (o := 0) (As := [.int 2]) (rest := []) ⟨hx, hb, hml, hown, hts⟩ hE hP hS (nX7_refused l hfl Z nT nK cT cK ad g q 2) (cwV 1 hts (gu_V uk_5_104 uk_5_106 uk_0_17 uk_1_9 uk_5_107) rfl rfl rfl (by decide +kernel) ⟨Nat.le_of_ble_eq_true rfl, Nat.le_of_ble_eq_true rfl⟩) (sy_recv (kc := 8) hE hP rfl (by decide) rfl rfl rfl) rfl hl.1 rfl (Nat.le_of_ble_eq_true rfl) dX7_offer_100 ⟨Nat.le_of_ble_eq_true rfl, Nat.le_of_ble_eq_true rfl⟩) hS (fun r_e_38 g_e_38 q_e_38 H locs e_38 hP hS => ?_)
              cases e_38
              refine sy_top (y := 1) (by rfl) ?_
              refine lv_if_eq (tgt := 108) hx hb dX7_offer_103 (by decide) (fun c9 => absurd c9 (by decide)) (fun _ => ?_)
              refine lv_iconst (v := 0) hx hb dX7_offer_106 (by decide) ?_
              exact (sy_ireti hx hb hr hlocks hE hP hS dX7_offer_107 ⟨Nat.le_of_ble_eq_true rfl, Nat.le_of_ble_eq_true rfl⟩ (by unfold fX7_offer; rw [if_pos c_2, if_pos c_4, if_neg c_9, if_pos c_15, if_neg c_21, if_neg c_27] <;> rfl))
def fX7_claim (g : sG) (q : sQ) (x0 x1 : Int32) : Int32 × sG := (if 0 ≤ x0 ∧ x0 ≤ (g 0 28) - 1 then (if 0 ≤ x1 ∧ x1 ≤ 9 then (if (g 43 x0.toNatClampNeg) ≤ 0 then (0, (sy_up g 0 0 2)) else (if (g 41 x0.toNatClampNeg) = (-1) then (if (g 33 x0.toNatClampNeg) = x1 then ((g 43 x0.toNatClampNeg), (sy_up (sy_up (sy_up (sy_up g 0 0 0) 43 x0.toNatClampNeg 0) 0 45 ((g 0 45) - (g 43 x0.toNatClampNeg))) 0 44 ((g 0 44) - (g 43 x0.toNatClampNeg)))) else (0, (sy_up g 0 0 2))) else (0, (sy_up g 0 0 2)))) else (0, (sy_up g 0 0 1))) else (0, (sy_up g 0 0 1)))
set_option maxHeartbeats 4000000 in
set_option maxRecDepth 100000 in
theorem mX7_claim (l : Launch) (hfl : l.stackTraces = false) (Z : sZ) (nT nK cT cK : Nat) (ad : Nat → Nat) (g : sG) (q : sQ) (x0 x1 : Int32) {mT mK : Nat} (hI : IM mT mK g) : sMi l Z yX7_claim (uW (.code yX7_claim cX7_claim 6 (some .int))) { frames := 2, cells := 0, slots := 0, locals := 43 } [.ref (ad 0), .int x0, .int x1] nT nK cT cK ad g q (fun r g1 q1 => (r, g1, q1) = ((fX7_claim g q x0 x1).1, (fX7_claim g q x0 x1).2, q)) := by
  refine Met.ofW (cc := cX7_claim) (maxL := 6) (ret := (some .int)) (by decide) rfl ?_
  intro p e s m args below meth c s₁ B hml hv
  obtain ⟨rfl, hE, hP⟩ := hv
  have hx := B.exec
  have hb := B.bytes
  have hr := B.returns
  have hts := atoms_spec (ws := uW (.code yX7_claim cX7_claim 6 (some .int))) B.pre
  have hown : s.vm.findClass RX7 = some m.cls := findClass_of_methodNamed B.named
  have hlocks := B.notSynchronized
  have hS : va_S (sy_A Z) s.heap s.heap [] := va_S.rf
  have hl := lv_entry ([.ref (ad 0), .int x0, .int x1]) (n := 6) (Nat.le_of_ble_eq_true rfl)
  rw [lg_entry_eq]
  generalize (lg_sl ([.ref (ad 0), .int x0, .int x1]) ++ List.replicate (6 - (lg_sl ([.ref (ad 0), .int x0, .int x1])).length) Slot.unset).toArray = ls at hl ⊢
  have hl : lv_has ls 6 [(0, .ref (ad 0)), (1, .int x0), (2, .int x1)] := hl
  have K_1 : (0 ≤ x0 ∧ x0 ≤ (g 0 28) - 1) → (0 ≤ x1 ∧ x1 ≤ 9) → (¬ ((g 43 x0.toNatClampNeg) ≤ 0)) → ((g 41 x0.toNatClampNeg) = (-1)) → ((g 33 x0.toNatClampNeg) = x1) → ∀ (H : Heap) (locs : List Loc) (ls : Array Slot), Sy Z nT nK cT cK ad (sy_up (sy_up (sy_up g 0 0 0) 43 x0.toNatClampNeg 0) 0 45 ((g 0 45) - (g 43 x0.toNatClampNeg))) q H → va_S (sy_A Z) s.heap H locs → lv_has ls 6 [(5, .int (g 43 x0.toNatClampNeg)), (4, .int 1), (3, .int 1), (0, .ref (ad 0)), (1, .int x0), (2, .int x1)] → W p l e ({ frames := 2, cells := 0, slots := 0, locals := 43 } : Room) s m ([.ref (ad 0), .int x0, .int x1] : List Value).toArray below meth c H locs 0 0 (MQ below (sQi Z nT nK cT cK ad (fun r g1 q1 => (r, g1, q1) = ((fX7_claim g q x0 x1).1, (fX7_claim g q x0 x1).2, q))) ([.ref (ad 0), .int x0, .int x1] : List Value).toArray s 0 0 (sy_A Z)) (F0 m 121 ls [.int (g 43 x0.toNatClampNeg), .int (g 0 44), .ref (ad 0)]) := by
    intro c_2 c_5 c_7 c_9 c_11 H locs ls hP hS hl
    refine lv_isub hx hb dX7_claim_121 ?_
    refine sy_putRX7 hx hb hts hown hE hP hS 0 rfl 44 (by decide) (hts _ (u_in uk_4_234)) rfl (ty := .int) (by decide +kernel) rfl rfl (sy_up (sy_up (sy_up (sy_up g 0 0 0) 43 x0.toNatClampNeg 0) 0 45 ((g 0 45) - (g 43 x0.toNatClampNeg))) 0 44 ((g 0 44) - (g 43 x0.toNatClampNeg))) q (by rw [sy_up_s (sy_up (sy_up (sy_up g 0 0 0) 43 x0.toNatClampNeg 0) 0 45 ((g 0 45) - (g 43 x0.toNatClampNeg))) 0 44 ((g 0 44) - (g 43 x0.toNatClampNeg))]; exact se_RX7_44 _ _ _ _ _ _ _) (fun _ h9 => sy_up_o _ _ _ h9) (fun _ _ => rfl) dX7_claim_122 (fun H locs hP hS => ?_)
    refine lv_iload hx hb dX7_claim_125 (lv_at hl 0 rfl) ?_
    exact (sy_ireti hx hb hr hlocks hE hP hS dX7_claim_127 ⟨Nat.le_of_ble_eq_true rfl, Nat.le_of_ble_eq_true rfl⟩ (by unfold fX7_claim; rw [if_pos c_2, if_pos c_5, if_neg c_7, if_pos c_9, if_pos c_11] <;> rfl))
  refine lv_aload_n hx hb dX7_claim_0 rfl (lv_at hl 0 rfl) ?_
  refine lv_iload_n hx hb dX7_claim_1 rfl (lv_at hl 1 rfl) ?_
  refine sy_ki (sy_rV (o := 0) (As := [.int x0]) (rest := []) ⟨hx, hb, hml, hown, hts⟩ hE hP hS (mX7_isTicket l hfl Z nT nK cT cK ad g q x0) (cwV 1 hts (gu_V uk_5_172 uk_5_174 uk_0_24 uk_1_9 uk_5_175) rfl rfl rfl (by decide +kernel) ⟨Nat.le_of_ble_eq_true rfl, Nat.le_of_ble_eq_true rfl⟩) (sy_recv (kc := 8) hE hP rfl (by decide) rfl rfl rfl) rfl hl.1 rfl (Nat.le_of_ble_eq_true rfl) dX7_claim_2 ⟨Nat.le_of_ble_eq_true rfl, Nat.le_of_ble_eq_true rfl⟩) hS (fun r_e_1 g_e_1 q_e_1 H locs e_1 hP hS => ?_)
  cases e_1
  refine sy_top (y := (iB (0 ≤ x0 ∧ x0 ≤ (g 0 28) - 1))) (by rfl) ?_
  refine lv_if_eq (tgt := 19) hx hb dX7_claim_5 (by decide) (fun c_2 => ?_) (fun c_2 => ?_)
  · have c_2 := iB_0.mp c_2
    refine lv_iconst (v := 0) hx hb dX7_claim_19 (by decide) ?_
    refine lv_istore_n (lv' := [(3, .int 0), (0, .ref (ad 0)), (1, .int x0), (2, .int x1)]) hx hb dX7_claim_20 rfl hl (by decide) rfl (fun ls hl => ?_)
    refine lv_iload_n hx hb dX7_claim_21 rfl (lv_at hl 0 rfl) ?_
    refine lv_if_eq (tgt := 58) hx hb dX7_claim_22 (by decide) (fun _ => ?_) (fun c9 => absurd c9 (by decide))
    refine lv_iconst (v := 0) hx hb dX7_claim_58 (by decide) ?_
    refine lv_istore (lv' := [(4, .int 0), (3, .int 0), (0, .ref (ad 0)), (1, .int x0), (2, .int x1)]) hx hb dX7_claim_59 hl (by decide) rfl (fun ls hl => ?_)
    refine lv_aload_n hx hb dX7_claim_61 rfl (lv_at hl 2 rfl) ?_
    refine lv_iload_n hx hb dX7_claim_62 rfl (lv_at hl 1 rfl) ?_
    refine lv_if_ne (tgt := 70) hx hb dX7_claim_63 (by decide) (fun c9 => absurd c9 (by decide)) (fun _ => ?_)
    refine lv_iconst (v := 1) hx hb dX7_claim_66 (by decide) ?_
    refine lv_goto (tgt := 80) hx hb dX7_claim_67 (by decide) ?_
    refine sy_ki (sy_rV (o := 0) (As := [.int 1]) (rest := []) ⟨hx, hb, hml, hown, hts⟩ hE hP hS (nX7_refused l hfl Z nT nK cT cK ad g q 1) (cwV 1 hts (gu_V uk_5_104 uk_5_106 uk_0_17 uk_1_9 uk_5_107) rfl rfl rfl (by decide +kernel) ⟨Nat.le_of_ble_eq_true rfl, Nat.le_of_ble_eq_true rfl⟩) (sy_recv (kc := 8) hE hP rfl (by decide) rfl rfl rfl) rfl hl.1 rfl (Nat.le_of_ble_eq_true rfl) dX7_claim_80 ⟨Nat.le_of_ble_eq_true rfl, Nat.le_of_ble_eq_true rfl⟩) hS (fun r_e_3 g_e_3 q_e_3 H locs e_3 hP hS => ?_)
    cases e_3
    refine sy_top (y := 1) (by rfl) ?_
    refine lv_if_eq (tgt := 88) hx hb dX7_claim_83 (by decide) (fun c9 => absurd c9 (by decide)) (fun _ => ?_)
    refine lv_iconst (v := 0) hx hb dX7_claim_86 (by decide) ?_
    exact (sy_ireti hx hb hr hlocks hE hP hS dX7_claim_87 ⟨Nat.le_of_ble_eq_true rfl, Nat.le_of_ble_eq_true rfl⟩ (by unfold fX7_claim; rw [if_neg c_2] <;> rfl))
  · have c_2 := iB_n.mp c_2
    refine lv_iload_n hx hb dX7_claim_8 rfl (lv_at hl 2 rfl) ?_
    refine sy_ki (sy_rS (As := [.int x1]) (rest := []) ⟨hx, hb, hml, hown, hts⟩ hE hP hS (mX7_isPerson l hfl Z nT nK cT cK ad g q x1) (va_cwS 1 hts (gu_S uk_5_120 uk_5_121 uk_1_9 uk_5_122) rfl rfl rfl (by decide +kernel) ⟨Nat.le_of_ble_eq_true rfl, Nat.le_of_ble_eq_true rfl⟩) rfl hl.1 rfl (Nat.le_of_ble_eq_true rfl) dX7_claim_9 ⟨Nat.le_of_ble_eq_true rfl, Nat.le_of_ble_eq_true rfl⟩) hS (fun r_e_4 g_e_4 q_e_4 H locs e_4 hP hS => ?_)
    cases e_4
    refine sy_top (y := (iB (0 ≤ x1 ∧ x1 ≤ 9))) (by rfl) ?_
    refine lv_if_eq (tgt := 19) hx hb dX7_claim_12 (by decide) (fun c_5 => ?_) (fun c_5 => ?_)
    · have c_5 := iB_0.mp c_5
      refine lv_iconst (v := 0) hx hb dX7_claim_19 (by decide) ?_
      refine lv_istore_n (lv' := [(3, .int 0), (0, .ref (ad 0)), (1, .int x0), (2, .int x1)]) hx hb dX7_claim_20 rfl hl (by decide) rfl (fun ls hl => ?_)
      refine lv_iload_n hx hb dX7_claim_21 rfl (lv_at hl 0 rfl) ?_
      refine lv_if_eq (tgt := 58) hx hb dX7_claim_22 (by decide) (fun _ => ?_) (fun c9 => absurd c9 (by decide))
      refine lv_iconst (v := 0) hx hb dX7_claim_58 (by decide) ?_
      refine lv_istore (lv' := [(4, .int 0), (3, .int 0), (0, .ref (ad 0)), (1, .int x0), (2, .int x1)]) hx hb dX7_claim_59 hl (by decide) rfl (fun ls hl => ?_)
      refine lv_aload_n hx hb dX7_claim_61 rfl (lv_at hl 2 rfl) ?_
      refine lv_iload_n hx hb dX7_claim_62 rfl (lv_at hl 1 rfl) ?_
      refine lv_if_ne (tgt := 70) hx hb dX7_claim_63 (by decide) (fun c9 => absurd c9 (by decide)) (fun _ => ?_)
      refine lv_iconst (v := 1) hx hb dX7_claim_66 (by decide) ?_
      refine lv_goto (tgt := 80) hx hb dX7_claim_67 (by decide) ?_
      refine sy_ki (sy_rV (o := 0) (As := [.int 1]) (rest := []) ⟨hx, hb, hml, hown, hts⟩ hE hP hS (nX7_refused l hfl Z nT nK cT cK ad g q 1) (cwV 1 hts (gu_V uk_5_104 uk_5_106 uk_0_17 uk_1_9 uk_5_107) rfl rfl rfl (by decide +kernel) ⟨Nat.le_of_ble_eq_true rfl, Nat.le_of_ble_eq_true rfl⟩) (sy_recv (kc := 8) hE hP rfl (by decide) rfl rfl rfl) rfl hl.1 rfl (Nat.le_of_ble_eq_true rfl) dX7_claim_80 ⟨Nat.le_of_ble_eq_true rfl, Nat.le_of_ble_eq_true rfl⟩) hS (fun r_e_6 g_e_6 q_e_6 H locs e_6 hP hS => ?_)
      cases e_6
      refine sy_top (y := 1) (by rfl) ?_
      refine lv_if_eq (tgt := 88) hx hb dX7_claim_83 (by decide) (fun c9 => absurd c9 (by decide)) (fun _ => ?_)
      refine lv_iconst (v := 0) hx hb dX7_claim_86 (by decide) ?_
      exact (sy_ireti hx hb hr hlocks hE hP hS dX7_claim_87 ⟨Nat.le_of_ble_eq_true rfl, Nat.le_of_ble_eq_true rfl⟩ (by unfold fX7_claim; rw [if_pos c_2, if_neg c_5] <;> rfl))
    · have c_5 := iB_n.mp c_5
      refine lv_iconst (v := 1) hx hb dX7_claim_15 (by decide) ?_
      refine lv_goto (tgt := 20) hx hb dX7_claim_16 (by decide) ?_
      refine lv_istore_n (lv' := [(3, .int 1), (0, .ref (ad 0)), (1, .int x0), (2, .int x1)]) hx hb dX7_claim_20 rfl hl (by decide) rfl (fun ls hl => ?_)
      refine lv_iload_n hx hb dX7_claim_21 rfl (lv_at hl 0 rfl) ?_
      refine lv_if_eq (tgt := 58) hx hb dX7_claim_22 (by decide) (fun c9 => absurd c9 (by decide)) (fun _ => ?_)
      refine lv_aload_n hx hb dX7_claim_25 rfl (lv_at hl 1 rfl) ?_
      refine sy_getRX7 hx hb hts hown hE hP 0 rfl 42 (by decide) (hts _ (u_in uk_4_232)) (v := .ref (ad 43)) rfl dX7_claim_26 ?_
      refine lv_iload_n hx hb dX7_claim_29 rfl (lv_at hl 2 rfl) ?_
      refine sy_ialdN hx hb hE hP 43 rfl (show vp_in x0 40 from (im_ticket hI c_2)) x0.toNatClampNeg rfl (v := g 43 x0.toNatClampNeg) rfl dX7_claim_30 ?_
      refine lv_if_le (tgt := 58) hx hb dX7_claim_31 (by decide) (fun c_7 => ?_) (fun c_7 => ?_)
      · skip
        refine lv_iconst (v := 0) hx hb dX7_claim_58 (by decide) ?_
        refine lv_istore (lv' := [(4, .int 0), (3, .int 1), (0, .ref (ad 0)), (1, .int x0), (2, .int x1)]) hx hb dX7_claim_59 hl (by decide) rfl (fun ls hl => ?_)
        refine lv_aload_n hx hb dX7_claim_61 rfl (lv_at hl 2 rfl) ?_
        refine lv_iload_n hx hb dX7_claim_62 rfl (lv_at hl 1 rfl) ?_
        refine lv_if_ne (tgt := 70) hx hb dX7_claim_63 (by decide) (fun _ => ?_) (fun c9 => absurd c9 (by decide))
        refine lv_iload hx hb dX7_claim_70 (lv_at hl 0 rfl) ?_
        refine lv_if_ne (tgt := 79) hx hb dX7_claim_72 (by decide) (fun c9 => absurd c9 (by decide)) (fun _ => ?_)
        refine lv_iconst (v := 2) hx hb dX7_claim_75 (by decide) ?_
        refine lv_goto (tgt := 80) hx hb dX7_claim_76 (by decide) ?_
        refine sy_ki (sy_rV (o := 0) (As := [.int 2]) (rest := []) ⟨hx, hb, hml, hown, hts⟩ hE hP hS (nX7_refused l hfl Z nT nK cT cK ad g q 2) (cwV 1 hts (gu_V uk_5_104 uk_5_106 uk_0_17 uk_1_9 uk_5_107) rfl rfl rfl (by decide +kernel) ⟨Nat.le_of_ble_eq_true rfl, Nat.le_of_ble_eq_true rfl⟩) (sy_recv (kc := 8) hE hP rfl (by decide) rfl rfl rfl) rfl hl.1 rfl (Nat.le_of_ble_eq_true rfl) dX7_claim_80 ⟨Nat.le_of_ble_eq_true rfl, Nat.le_of_ble_eq_true rfl⟩) hS (fun r_e_8 g_e_8 q_e_8 H locs e_8 hP hS => ?_)
        cases e_8
        refine sy_top (y := 1) (by rfl) ?_
        refine lv_if_eq (tgt := 88) hx hb dX7_claim_83 (by decide) (fun c9 => absurd c9 (by decide)) (fun _ => ?_)
        refine lv_iconst (v := 0) hx hb dX7_claim_86 (by decide) ?_
        exact (sy_ireti hx hb hr hlocks hE hP hS dX7_claim_87 ⟨Nat.le_of_ble_eq_true rfl, Nat.le_of_ble_eq_true rfl⟩ (by unfold fX7_claim; rw [if_pos c_2, if_pos c_5, if_pos c_7] <;> rfl))
      · skip
        refine lv_aload_n hx hb dX7_claim_34 rfl (lv_at hl 1 rfl) ?_
        refine sy_getRX7 hx hb hts hown hE hP 0 rfl 40 (by decide) (hts _ (u_in uk_4_230)) (v := .ref (ad 41)) rfl dX7_claim_35 ?_
        refine lv_iload_n hx hb dX7_claim_38 rfl (lv_at hl 2 rfl) ?_
        refine sy_ialdN hx hb hE hP 41 rfl (show vp_in x0 40 from (im_ticket hI c_2)) x0.toNatClampNeg rfl (v := g 41 x0.toNatClampNeg) rfl dX7_claim_39 ?_
        refine lv_iconst (v := (-1)) hx hb dX7_claim_40 (by decide) ?_
        refine lv_icmp_ne (tgt := 58) hx hb dX7_claim_41 (by decide) (fun c_9 => ?_) (fun c_9 => ?_)
        · skip
          refine lv_iconst (v := 0) hx hb dX7_claim_58 (by decide) ?_
          refine lv_istore (lv' := [(4, .int 0), (3, .int 1), (0, .ref (ad 0)), (1, .int x0), (2, .int x1)]) hx hb dX7_claim_59 hl (by decide) rfl (fun ls hl => ?_)
          refine lv_aload_n hx hb dX7_claim_61 rfl (lv_at hl 2 rfl) ?_
          refine lv_iload_n hx hb dX7_claim_62 rfl (lv_at hl 1 rfl) ?_
          refine lv_if_ne (tgt := 70) hx hb dX7_claim_63 (by decide) (fun _ => ?_) (fun c9 => absurd c9 (by decide))
          refine lv_iload hx hb dX7_claim_70 (lv_at hl 0 rfl) ?_
          refine lv_if_ne (tgt := 79) hx hb dX7_claim_72 (by decide) (fun c9 => absurd c9 (by decide)) (fun _ => ?_)
          refine lv_iconst (v := 2) hx hb dX7_claim_75 (by decide) ?_
          refine lv_goto (tgt := 80) hx hb dX7_claim_76 (by decide) ?_
          refine sy_ki (sy_rV (o := 0) (As := [.int 2]) (rest := []) ⟨hx, hb, hml, hown, hts⟩ hE hP hS (nX7_refused l hfl Z nT nK cT cK ad g q 2) (cwV 1 hts (gu_V uk_5_104 uk_5_106 uk_0_17 uk_1_9 uk_5_107) rfl rfl rfl (by decide +kernel) ⟨Nat.le_of_ble_eq_true rfl, Nat.le_of_ble_eq_true rfl⟩) (sy_recv (kc := 8) hE hP rfl (by decide) rfl rfl rfl) rfl hl.1 rfl (Nat.le_of_ble_eq_true rfl) dX7_claim_80 ⟨Nat.le_of_ble_eq_true rfl, Nat.le_of_ble_eq_true rfl⟩) hS (fun r_e_10 g_e_10 q_e_10 H locs e_10 hP hS => ?_)
          cases e_10
          refine sy_top (y := 1) (by rfl) ?_
          refine lv_if_eq (tgt := 88) hx hb dX7_claim_83 (by decide) (fun c9 => absurd c9 (by decide)) (fun _ => ?_)
          refine lv_iconst (v := 0) hx hb dX7_claim_86 (by decide) ?_
          exact (sy_ireti hx hb hr hlocks hE hP hS dX7_claim_87 ⟨Nat.le_of_ble_eq_true rfl, Nat.le_of_ble_eq_true rfl⟩ (by unfold fX7_claim; rw [if_pos c_2, if_pos c_5, if_neg c_7, if_neg c_9] <;> rfl))
        · skip
          refine lv_aload_n hx hb dX7_claim_44 rfl (lv_at hl 1 rfl) ?_
          refine sy_getRX7 hx hb hts hown hE hP 0 rfl 32 (by decide) (hts _ (u_in uk_4_222)) (v := .ref (ad 33)) rfl dX7_claim_45 ?_
          refine lv_iload_n hx hb dX7_claim_48 rfl (lv_at hl 2 rfl) ?_
          refine sy_ialdN hx hb hE hP 33 rfl (show vp_in x0 40 from (im_ticket hI c_2)) x0.toNatClampNeg rfl (v := g 33 x0.toNatClampNeg) rfl dX7_claim_49 ?_
          refine lv_iload_n hx hb dX7_claim_50 rfl (lv_at hl 3 rfl) ?_
          refine lv_icmp_ne (tgt := 58) hx hb dX7_claim_51 (by decide) (fun c_11 => ?_) (fun c_11 => ?_)
          · skip
            refine lv_iconst (v := 0) hx hb dX7_claim_58 (by decide) ?_
            refine lv_istore (lv' := [(4, .int 0), (3, .int 1), (0, .ref (ad 0)), (1, .int x0), (2, .int x1)]) hx hb dX7_claim_59 hl (by decide) rfl (fun ls hl => ?_)
            refine lv_aload_n hx hb dX7_claim_61 rfl (lv_at hl 2 rfl) ?_
            refine lv_iload_n hx hb dX7_claim_62 rfl (lv_at hl 1 rfl) ?_
            refine lv_if_ne (tgt := 70) hx hb dX7_claim_63 (by decide) (fun _ => ?_) (fun c9 => absurd c9 (by decide))
            refine lv_iload hx hb dX7_claim_70 (lv_at hl 0 rfl) ?_
            refine lv_if_ne (tgt := 79) hx hb dX7_claim_72 (by decide) (fun c9 => absurd c9 (by decide)) (fun _ => ?_)
            refine lv_iconst (v := 2) hx hb dX7_claim_75 (by decide) ?_
            refine lv_goto (tgt := 80) hx hb dX7_claim_76 (by decide) ?_
            refine sy_ki (sy_rV (o := 0) (As := [.int 2]) (rest := []) ⟨hx, hb, hml, hown, hts⟩ hE hP hS (nX7_refused l hfl Z nT nK cT cK ad g q 2) (cwV 1 hts (gu_V uk_5_104 uk_5_106 uk_0_17 uk_1_9 uk_5_107) rfl rfl rfl (by decide +kernel) ⟨Nat.le_of_ble_eq_true rfl, Nat.le_of_ble_eq_true rfl⟩) (sy_recv (kc := 8) hE hP rfl (by decide) rfl rfl rfl) rfl hl.1 rfl (Nat.le_of_ble_eq_true rfl) dX7_claim_80 ⟨Nat.le_of_ble_eq_true rfl, Nat.le_of_ble_eq_true rfl⟩) hS (fun r_e_12 g_e_12 q_e_12 H locs e_12 hP hS => ?_)
            cases e_12
            refine sy_top (y := 1) (by rfl) ?_
            refine lv_if_eq (tgt := 88) hx hb dX7_claim_83 (by decide) (fun c9 => absurd c9 (by decide)) (fun _ => ?_)
            refine lv_iconst (v := 0) hx hb dX7_claim_86 (by decide) ?_
            exact (sy_ireti hx hb hr hlocks hE hP hS dX7_claim_87 ⟨Nat.le_of_ble_eq_true rfl, Nat.le_of_ble_eq_true rfl⟩ (by unfold fX7_claim; rw [if_pos c_2, if_pos c_5, if_neg c_7, if_pos c_9, if_neg c_11] <;> rfl))
          · skip
            refine lv_iconst (v := 1) hx hb dX7_claim_54 (by decide) ?_
            refine lv_goto (tgt := 59) hx hb dX7_claim_55 (by decide) ?_
            refine lv_istore (lv' := [(4, .int 1), (3, .int 1), (0, .ref (ad 0)), (1, .int x0), (2, .int x1)]) hx hb dX7_claim_59 hl (by decide) rfl (fun ls hl => ?_)
            refine lv_aload_n hx hb dX7_claim_61 rfl (lv_at hl 2 rfl) ?_
            refine lv_iload_n hx hb dX7_claim_62 rfl (lv_at hl 1 rfl) ?_
            refine lv_if_ne (tgt := 70) hx hb dX7_claim_63 (by decide) (fun _ => ?_) (fun c9 => absurd c9 (by decide))
            refine lv_iload hx hb dX7_claim_70 (lv_at hl 0 rfl) ?_
            refine lv_if_ne (tgt := 79) hx hb dX7_claim_72 (by decide) (fun _ => ?_) (fun c9 => absurd c9 (by decide))
            refine lv_iconst (v := 0) hx hb dX7_claim_79 (by decide) ?_
            refine sy_ki (sy_rV (o := 0) (As := [.int 0]) (rest := []) ⟨hx, hb, hml, hown, hts⟩ hE hP hS (nX7_refused l hfl Z nT nK cT cK ad g q 0) (cwV 1 hts (gu_V uk_5_104 uk_5_106 uk_0_17 uk_1_9 uk_5_107) rfl rfl rfl (by decide +kernel) ⟨Nat.le_of_ble_eq_true rfl, Nat.le_of_ble_eq_true rfl⟩) (sy_recv (kc := 8) hE hP rfl (by decide) rfl rfl rfl) rfl hl.1 rfl (Nat.le_of_ble_eq_true rfl) dX7_claim_80 ⟨Nat.le_of_ble_eq_true rfl, Nat.le_of_ble_eq_true rfl⟩) hS (fun r_e_13 g_e_13 q_e_13 H locs e_13 hP hS => ?_)
            cases e_13
            refine sy_top (y := 0) (by rfl) ?_
            refine lv_if_eq (tgt := 88) hx hb dX7_claim_83 (by decide) (fun _ => ?_) (fun c9 => absurd c9 (by decide))
            refine lv_aload_n hx hb dX7_claim_88 rfl (lv_at hl 2 rfl) ?_
            refine sy_getRX7 hx hb hts hown hE hP 0 rfl 42 (by decide) (hts _ (u_in uk_4_232)) (v := .ref (ad 43)) rfl dX7_claim_89 ?_
            refine lv_iload_n hx hb dX7_claim_92 rfl (lv_at hl 3 rfl) ?_
            refine sy_ialdN hx hb hE hP 43 rfl (show vp_in x0 40 from (im_ticket hI c_2)) x0.toNatClampNeg rfl (v := g 43 x0.toNatClampNeg) rfl dX7_claim_93 ?_
            refine lv_istore (lv' := [(5, .int (g 43 x0.toNatClampNeg)), (4, .int 1), (3, .int 1), (0, .ref (ad 0)), (1, .int x0), (2, .int x1)]) hx hb dX7_claim_94 hl (by decide) rfl (fun ls hl => ?_)
            refine lv_aload_n hx hb dX7_claim_96 rfl (lv_at hl 3 rfl) ?_
            refine sy_getRX7 hx hb hts hown hE hP 0 rfl 42 (by decide) (hts _ (u_in uk_4_232)) (v := .ref (ad 43)) rfl dX7_claim_97 ?_
            refine lv_iload_n hx hb dX7_claim_100 rfl (lv_at hl 4 rfl) ?_
            refine lv_iconst (v := 0) hx hb dX7_claim_101 (by decide) ?_
            refine sy_iastN hx hb hE hP hS 43 rfl (show vp_in x0 40 from (im_ticket hI c_2)) x0.toNatClampNeg rfl dX7_claim_102 (fun H locs hP hS => ?_)
            refine lv_aload_n hx hb dX7_claim_103 rfl (lv_at hl 3 rfl) ?_
            refine lv_dup hx hb dX7_claim_104 rfl ?_
            refine sy_getRX7 hx hb hts hown hE hP 0 rfl 45 (by decide) (hts _ (u_in uk_4_235)) (v := .int (g 0 45)) rfl dX7_claim_105 ?_
            refine lv_iload hx hb dX7_claim_108 (lv_at hl 0 rfl) ?_
            refine lv_isub hx hb dX7_claim_110 ?_
            refine sy_putRX7 hx hb hts hown hE hP hS 0 rfl 45 (by decide) (hts _ (u_in uk_4_235)) rfl (ty := .int) (by decide +kernel) rfl rfl (sy_up (sy_up (sy_up g 0 0 0) 43 x0.toNatClampNeg 0) 0 45 ((g 0 45) - (g 43 x0.toNatClampNeg))) q (by rw [sy_up_s (sy_up (sy_up g 0 0 0) 43 x0.toNatClampNeg 0) 0 45 ((g 0 45) - (g 43 x0.toNatClampNeg))]; exact se_RX7_45 _ _ _ _ _ _ _) (fun _ h9 => sy_up_o _ _ _ h9) (fun _ _ => rfl) dX7_claim_111 (fun H locs hP hS => ?_)
            refine lv_aload_n hx hb dX7_claim_114 rfl (lv_at hl 3 rfl) ?_
            refine lv_dup hx hb dX7_claim_115 rfl ?_
            refine sy_getRX7 hx hb hts hown hE hP 0 rfl 44 (by decide) (hts _ (u_in uk_4_234)) (v := .int (g 0 44)) rfl dX7_claim_116 ?_
            refine lv_iload hx hb dX7_claim_119 (lv_at hl 0 rfl) ?_
            exact K_1 c_2 c_5 c_7 c_9 c_11 _ _ _ hP hS hl
def fX7_deposit (g : sG) (q : sQ) (x0 : Int32) : Int32 × sG := (if 1 ≤ x0 ∧ x0 ≤ 100000 then (if ((g 0 44) + x0) ≤ 100000000 then (((g 0 44) + x0), (sy_up (sy_up g 0 0 0) 0 44 ((g 0 44) + x0))) else (0, (sy_up g 0 0 2))) else (0, (sy_up g 0 0 1)))
set_option maxHeartbeats 4000000 in
set_option maxRecDepth 100000 in
theorem mX7_deposit (l : Launch) (hfl : l.stackTraces = false) (Z : sZ) (nT nK cT cK : Nat) (ad : Nat → Nat) (g : sG) (q : sQ) (x0 : Int32) {mT mK : Nat} (hI : IM mT mK g) : sMi l Z yX7_deposit (uW (.code yX7_deposit cX7_deposit 2 (some .int))) { frames := 1, cells := 0, slots := 0, locals := 22 } [.ref (ad 0), .int x0] nT nK cT cK ad g q (fun r g1 q1 => (r, g1, q1) = ((fX7_deposit g q x0).1, (fX7_deposit g q x0).2, q)) := by
  refine Met.ofW (cc := cX7_deposit) (maxL := 2) (ret := (some .int)) (by decide) rfl ?_
  intro p e s m args below meth c s₁ B hml hv
  obtain ⟨rfl, hE, hP⟩ := hv
  have hx := B.exec
  have hb := B.bytes
  have hr := B.returns
  have hts := atoms_spec (ws := uW (.code yX7_deposit cX7_deposit 2 (some .int))) B.pre
  have hown : s.vm.findClass RX7 = some m.cls := findClass_of_methodNamed B.named
  have hlocks := B.notSynchronized
  have hS : va_S (sy_A Z) s.heap s.heap [] := va_S.rf
  have hl := lv_entry ([.ref (ad 0), .int x0]) (n := 2) (Nat.le_of_ble_eq_true rfl)
  rw [lg_entry_eq]
  generalize (lg_sl ([.ref (ad 0), .int x0]) ++ List.replicate (2 - (lg_sl ([.ref (ad 0), .int x0])).length) Slot.unset).toArray = ls at hl ⊢
  have hl : lv_has ls 2 [(0, .ref (ad 0)), (1, .int x0)] := hl
  refine lv_aload_n hx hb dX7_deposit_0 rfl (lv_at hl 0 rfl) ?_
  refine lv_iload_n hx hb dX7_deposit_1 rfl (lv_at hl 1 rfl) ?_
  refine lv_iconst (v := 1) hx hb dX7_deposit_2 (by decide) ?_
  refine lv_ldc (v := 100000) hx hb hown (hts _ (u_in uk_5_127)) dX7_deposit_3 ?_
  refine sy_ki (sy_rS (As := [.int x0, .int 1, .int 100000]) (rest := [.ref (ad 0)]) ⟨hx, hb, hml, hown, hts⟩ hE hP hS (nX7_is l hfl Z nT nK cT cK ad g q x0 1 100000) (va_cwS 3 hts (gu_S uk_5_101 uk_5_102 uk_1_9 uk_5_103) rfl rfl rfl (by decide +kernel) ⟨Nat.le_of_ble_eq_true rfl, Nat.le_of_ble_eq_true rfl⟩) rfl hl.1 rfl (Nat.le_of_ble_eq_true rfl) dX7_deposit_5 ⟨Nat.le_of_ble_eq_true rfl, Nat.le_of_ble_eq_true rfl⟩) hS (fun r_e_1 g_e_1 q_e_1 H locs e_1 hP hS => ?_)
  cases e_1
  refine lv_if_ne (tgt := 15) hx hb dX7_deposit_8 (by decide) (fun c_2 => ?_) (fun c_2 => ?_)
  · have c_2 := iB_n.mp c_2
    refine lv_aload_n hx hb dX7_deposit_15 rfl (lv_at hl 0 rfl) ?_
    refine sy_getRX7 hx hb hts hown hE hP 0 rfl 44 (by decide) (hts _ (u_in uk_4_234)) (v := .int (g 0 44)) rfl dX7_deposit_16 ?_
    refine lv_iload_n hx hb dX7_deposit_19 rfl (lv_at hl 1 rfl) ?_
    refine lv_iadd hx hb dX7_deposit_20 ?_
    refine lv_ldc (v := 100000000) hx hb hown (hts _ (u_in uk_6_21)) dX7_deposit_21 ?_
    refine lv_icmp_le (tgt := 30) hx hb dX7_deposit_23 (by decide) (fun c_3 => ?_) (fun c_3 => ?_)
    · skip
      refine lv_iconst (v := 0) hx hb dX7_deposit_30 (by decide) ?_
      refine sy_ki (sy_rV (o := 0) (As := [.int 0]) (rest := []) ⟨hx, hb, hml, hown, hts⟩ hE hP hS (nX7_refused l hfl Z nT nK cT cK ad g q 0) (cwV 1 hts (gu_V uk_5_104 uk_5_106 uk_0_17 uk_1_9 uk_5_107) rfl rfl rfl (by decide +kernel) ⟨Nat.le_of_ble_eq_true rfl, Nat.le_of_ble_eq_true rfl⟩) (sy_recv (kc := 8) hE hP rfl (by decide) rfl rfl rfl) rfl hl.1 rfl (Nat.le_of_ble_eq_true rfl) dX7_deposit_31 ⟨Nat.le_of_ble_eq_true rfl, Nat.le_of_ble_eq_true rfl⟩) hS (fun r_e_4 g_e_4 q_e_4 H locs e_4 hP hS => ?_)
      cases e_4
      refine sy_top (y := 0) (by rfl) ?_
      refine lv_if_eq (tgt := 39) hx hb dX7_deposit_34 (by decide) (fun _ => ?_) (fun c9 => absurd c9 (by decide))
      refine lv_aload_n hx hb dX7_deposit_39 rfl (lv_at hl 0 rfl) ?_
      refine lv_dup hx hb dX7_deposit_40 rfl ?_
      refine sy_getRX7 hx hb hts hown hE hP 0 rfl 44 (by decide) (hts _ (u_in uk_4_234)) (v := .int (g 0 44)) rfl dX7_deposit_41 ?_
      refine lv_iload_n hx hb dX7_deposit_44 rfl (lv_at hl 1 rfl) ?_
      refine lv_iadd hx hb dX7_deposit_45 ?_
      refine sy_putRX7 hx hb hts hown hE hP hS 0 rfl 44 (by decide) (hts _ (u_in uk_4_234)) rfl (ty := .int) (by decide +kernel) rfl rfl (sy_up (sy_up g 0 0 0) 0 44 ((g 0 44) + x0)) q (by rw [sy_up_s (sy_up g 0 0 0) 0 44 ((g 0 44) + x0)]; exact se_RX7_44 _ _ _ _ _ _ _) (fun _ h9 => sy_up_o _ _ _ h9) (fun _ _ => rfl) dX7_deposit_46 (fun H locs hP hS => ?_)
      refine lv_aload_n hx hb dX7_deposit_49 rfl (lv_at hl 0 rfl) ?_
      refine sy_getRX7 hx hb hts hown hE hP 0 rfl 44 (by decide) (hts _ (u_in uk_4_234)) (v := .int ((g 0 44) + x0)) rfl dX7_deposit_50 ?_
      exact (sy_ireti hx hb hr hlocks hE hP hS dX7_deposit_53 ⟨Nat.le_of_ble_eq_true rfl, Nat.le_of_ble_eq_true rfl⟩ (by unfold fX7_deposit; rw [if_pos c_2, if_pos c_3] <;> rfl))
    · skip
      refine lv_iconst (v := 2) hx hb dX7_deposit_26 (by decide) ?_
      refine lv_goto (tgt := 31) hx hb dX7_deposit_27 (by decide) ?_
      refine sy_ki (sy_rV (o := 0) (As := [.int 2]) (rest := []) ⟨hx, hb, hml, hown, hts⟩ hE hP hS (nX7_refused l hfl Z nT nK cT cK ad g q 2) (cwV 1 hts (gu_V uk_5_104 uk_5_106 uk_0_17 uk_1_9 uk_5_107) rfl rfl rfl (by decide +kernel) ⟨Nat.le_of_ble_eq_true rfl, Nat.le_of_ble_eq_true rfl⟩) (sy_recv (kc := 8) hE hP rfl (by decide) rfl rfl rfl) rfl hl.1 rfl (Nat.le_of_ble_eq_true rfl) dX7_deposit_31 ⟨Nat.le_of_ble_eq_true rfl, Nat.le_of_ble_eq_true rfl⟩) hS (fun r_e_5 g_e_5 q_e_5 H locs e_5 hP hS => ?_)
      cases e_5
      refine sy_top (y := 1) (by rfl) ?_
      refine lv_if_eq (tgt := 39) hx hb dX7_deposit_34 (by decide) (fun c9 => absurd c9 (by decide)) (fun _ => ?_)
      refine lv_iconst (v := 0) hx hb dX7_deposit_37 (by decide) ?_
      exact (sy_ireti hx hb hr hlocks hE hP hS dX7_deposit_38 ⟨Nat.le_of_ble_eq_true rfl, Nat.le_of_ble_eq_true rfl⟩ (by unfold fX7_deposit; rw [if_pos c_2, if_neg c_3] <;> rfl))
  · have c_2 := iB_0.mp c_2
    refine lv_iconst (v := 1) hx hb dX7_deposit_11 (by decide) ?_
    refine lv_goto (tgt := 31) hx hb dX7_deposit_12 (by decide) ?_
    refine sy_ki (sy_rV (o := 0) (As := [.int 1]) (rest := []) ⟨hx, hb, hml, hown, hts⟩ hE hP hS (nX7_refused l hfl Z nT nK cT cK ad g q 1) (cwV 1 hts (gu_V uk_5_104 uk_5_106 uk_0_17 uk_1_9 uk_5_107) rfl rfl rfl (by decide +kernel) ⟨Nat.le_of_ble_eq_true rfl, Nat.le_of_ble_eq_true rfl⟩) (sy_recv (kc := 8) hE hP rfl (by decide) rfl rfl rfl) rfl hl.1 rfl (Nat.le_of_ble_eq_true rfl) dX7_deposit_31 ⟨Nat.le_of_ble_eq_true rfl, Nat.le_of_ble_eq_true rfl⟩) hS (fun r_e_6 g_e_6 q_e_6 H locs e_6 hP hS => ?_)
    cases e_6
    refine sy_top (y := 1) (by rfl) ?_
    refine lv_if_eq (tgt := 39) hx hb dX7_deposit_34 (by decide) (fun c9 => absurd c9 (by decide)) (fun _ => ?_)
    refine lv_iconst (v := 0) hx hb dX7_deposit_37 (by decide) ?_
    exact (sy_ireti hx hb hr hlocks hE hP hS dX7_deposit_38 ⟨Nat.le_of_ble_eq_true rfl, Nat.le_of_ble_eq_true rfl⟩ (by unfold fX7_deposit; rw [if_neg c_2] <;> rfl))
def fX7_withdraw (g : sG) (q : sQ) (x0 : Int32) : Int32 × sG := (if 1 ≤ x0 ∧ x0 ≤ 100000 then (if x0 ≤ ((g 0 44) - (g 0 45)) then (((g 0 44) - x0), (sy_up (sy_up g 0 0 0) 0 44 ((g 0 44) - x0))) else (0, (sy_up g 0 0 2))) else (0, (sy_up g 0 0 1)))
set_option maxHeartbeats 4000000 in
set_option maxRecDepth 100000 in
theorem mX7_withdraw (l : Launch) (hfl : l.stackTraces = false) (Z : sZ) (nT nK cT cK : Nat) (ad : Nat → Nat) (g : sG) (q : sQ) (x0 : Int32) {mT mK : Nat} (hI : IM mT mK g) : sMi l Z yX7_withdraw (uW (.code yX7_withdraw cX7_withdraw 2 (some .int))) { frames := 1, cells := 0, slots := 0, locals := 22 } [.ref (ad 0), .int x0] nT nK cT cK ad g q (fun r g1 q1 => (r, g1, q1) = ((fX7_withdraw g q x0).1, (fX7_withdraw g q x0).2, q)) := by
  refine Met.ofW (cc := cX7_withdraw) (maxL := 2) (ret := (some .int)) (by decide) rfl ?_
  intro p e s m args below meth c s₁ B hml hv
  obtain ⟨rfl, hE, hP⟩ := hv
  have hx := B.exec
  have hb := B.bytes
  have hr := B.returns
  have hts := atoms_spec (ws := uW (.code yX7_withdraw cX7_withdraw 2 (some .int))) B.pre
  have hown : s.vm.findClass RX7 = some m.cls := findClass_of_methodNamed B.named
  have hlocks := B.notSynchronized
  have hS : va_S (sy_A Z) s.heap s.heap [] := va_S.rf
  have hl := lv_entry ([.ref (ad 0), .int x0]) (n := 2) (Nat.le_of_ble_eq_true rfl)
  rw [lg_entry_eq]
  generalize (lg_sl ([.ref (ad 0), .int x0]) ++ List.replicate (2 - (lg_sl ([.ref (ad 0), .int x0])).length) Slot.unset).toArray = ls at hl ⊢
  have hl : lv_has ls 2 [(0, .ref (ad 0)), (1, .int x0)] := hl
  refine lv_aload_n hx hb dX7_withdraw_0 rfl (lv_at hl 0 rfl) ?_
  refine lv_iload_n hx hb dX7_withdraw_1 rfl (lv_at hl 1 rfl) ?_
  refine lv_iconst (v := 1) hx hb dX7_withdraw_2 (by decide) ?_
  refine lv_ldc (v := 100000) hx hb hown (hts _ (u_in uk_5_127)) dX7_withdraw_3 ?_
  refine sy_ki (sy_rS (As := [.int x0, .int 1, .int 100000]) (rest := [.ref (ad 0)]) ⟨hx, hb, hml, hown, hts⟩ hE hP hS (nX7_is l hfl Z nT nK cT cK ad g q x0 1 100000) (va_cwS 3 hts (gu_S uk_5_101 uk_5_102 uk_1_9 uk_5_103) rfl rfl rfl (by decide +kernel) ⟨Nat.le_of_ble_eq_true rfl, Nat.le_of_ble_eq_true rfl⟩) rfl hl.1 rfl (Nat.le_of_ble_eq_true rfl) dX7_withdraw_5 ⟨Nat.le_of_ble_eq_true rfl, Nat.le_of_ble_eq_true rfl⟩) hS (fun r_e_1 g_e_1 q_e_1 H locs e_1 hP hS => ?_)
  cases e_1
  refine lv_if_ne (tgt := 15) hx hb dX7_withdraw_8 (by decide) (fun c_2 => ?_) (fun c_2 => ?_)
  · have c_2 := iB_n.mp c_2
    refine lv_iload_n hx hb dX7_withdraw_15 rfl (lv_at hl 1 rfl) ?_
    refine lv_aload_n hx hb dX7_withdraw_16 rfl (lv_at hl 0 rfl) ?_
    refine sy_getRX7 hx hb hts hown hE hP 0 rfl 44 (by decide) (hts _ (u_in uk_4_234)) (v := .int (g 0 44)) rfl dX7_withdraw_17 ?_
    refine lv_aload_n hx hb dX7_withdraw_20 rfl (lv_at hl 0 rfl) ?_
    refine sy_getRX7 hx hb hts hown hE hP 0 rfl 45 (by decide) (hts _ (u_in uk_4_235)) (v := .int (g 0 45)) rfl dX7_withdraw_21 ?_
    refine lv_isub hx hb dX7_withdraw_24 ?_
    refine lv_icmp_le (tgt := 32) hx hb dX7_withdraw_25 (by decide) (fun c_3 => ?_) (fun c_3 => ?_)
    · skip
      refine lv_iconst (v := 0) hx hb dX7_withdraw_32 (by decide) ?_
      refine sy_ki (sy_rV (o := 0) (As := [.int 0]) (rest := []) ⟨hx, hb, hml, hown, hts⟩ hE hP hS (nX7_refused l hfl Z nT nK cT cK ad g q 0) (cwV 1 hts (gu_V uk_5_104 uk_5_106 uk_0_17 uk_1_9 uk_5_107) rfl rfl rfl (by decide +kernel) ⟨Nat.le_of_ble_eq_true rfl, Nat.le_of_ble_eq_true rfl⟩) (sy_recv (kc := 8) hE hP rfl (by decide) rfl rfl rfl) rfl hl.1 rfl (Nat.le_of_ble_eq_true rfl) dX7_withdraw_33 ⟨Nat.le_of_ble_eq_true rfl, Nat.le_of_ble_eq_true rfl⟩) hS (fun r_e_4 g_e_4 q_e_4 H locs e_4 hP hS => ?_)
      cases e_4
      refine sy_top (y := 0) (by rfl) ?_
      refine lv_if_eq (tgt := 41) hx hb dX7_withdraw_36 (by decide) (fun _ => ?_) (fun c9 => absurd c9 (by decide))
      refine lv_aload_n hx hb dX7_withdraw_41 rfl (lv_at hl 0 rfl) ?_
      refine lv_dup hx hb dX7_withdraw_42 rfl ?_
      refine sy_getRX7 hx hb hts hown hE hP 0 rfl 44 (by decide) (hts _ (u_in uk_4_234)) (v := .int (g 0 44)) rfl dX7_withdraw_43 ?_
      refine lv_iload_n hx hb dX7_withdraw_46 rfl (lv_at hl 1 rfl) ?_
      refine lv_isub hx hb dX7_withdraw_47 ?_
      refine sy_putRX7 hx hb hts hown hE hP hS 0 rfl 44 (by decide) (hts _ (u_in uk_4_234)) rfl (ty := .int) (by decide +kernel) rfl rfl (sy_up (sy_up g 0 0 0) 0 44 ((g 0 44) - x0)) q (by rw [sy_up_s (sy_up g 0 0 0) 0 44 ((g 0 44) - x0)]; exact se_RX7_44 _ _ _ _ _ _ _) (fun _ h9 => sy_up_o _ _ _ h9) (fun _ _ => rfl) dX7_withdraw_48 (fun H locs hP hS => ?_)
      refine lv_aload_n hx hb dX7_withdraw_51 rfl (lv_at hl 0 rfl) ?_
      refine sy_getRX7 hx hb hts hown hE hP 0 rfl 44 (by decide) (hts _ (u_in uk_4_234)) (v := .int ((g 0 44) - x0)) rfl dX7_withdraw_52 ?_
      exact (sy_ireti hx hb hr hlocks hE hP hS dX7_withdraw_55 ⟨Nat.le_of_ble_eq_true rfl, Nat.le_of_ble_eq_true rfl⟩ (by unfold fX7_withdraw; rw [if_pos c_2, if_pos c_3] <;> rfl))
    · skip
      refine lv_iconst (v := 2) hx hb dX7_withdraw_28 (by decide) ?_
      refine lv_goto (tgt := 33) hx hb dX7_withdraw_29 (by decide) ?_
      refine sy_ki (sy_rV (o := 0) (As := [.int 2]) (rest := []) ⟨hx, hb, hml, hown, hts⟩ hE hP hS (nX7_refused l hfl Z nT nK cT cK ad g q 2) (cwV 1 hts (gu_V uk_5_104 uk_5_106 uk_0_17 uk_1_9 uk_5_107) rfl rfl rfl (by decide +kernel) ⟨Nat.le_of_ble_eq_true rfl, Nat.le_of_ble_eq_true rfl⟩) (sy_recv (kc := 8) hE hP rfl (by decide) rfl rfl rfl) rfl hl.1 rfl (Nat.le_of_ble_eq_true rfl) dX7_withdraw_33 ⟨Nat.le_of_ble_eq_true rfl, Nat.le_of_ble_eq_true rfl⟩) hS (fun r_e_5 g_e_5 q_e_5 H locs e_5 hP hS => ?_)
      cases e_5
      refine sy_top (y := 1) (by rfl) ?_
      refine lv_if_eq (tgt := 41) hx hb dX7_withdraw_36 (by decide) (fun c9 => absurd c9 (by decide)) (fun _ => ?_)
      refine lv_iconst (v := 0) hx hb dX7_withdraw_39 (by decide) ?_
      exact (sy_ireti hx hb hr hlocks hE hP hS dX7_withdraw_40 ⟨Nat.le_of_ble_eq_true rfl, Nat.le_of_ble_eq_true rfl⟩ (by unfold fX7_withdraw; rw [if_pos c_2, if_neg c_3] <;> rfl))
  · have c_2 := iB_0.mp c_2
    refine lv_iconst (v := 1) hx hb dX7_withdraw_11 (by decide) ?_
    refine lv_goto (tgt := 33) hx hb dX7_withdraw_12 (by decide) ?_
    refine sy_ki (sy_rV (o := 0) (As := [.int 1]) (rest := []) ⟨hx, hb, hml, hown, hts⟩ hE hP hS (nX7_refused l hfl Z nT nK cT cK ad g q 1) (cwV 1 hts (gu_V uk_5_104 uk_5_106 uk_0_17 uk_1_9 uk_5_107) rfl rfl rfl (by decide +kernel) ⟨Nat.le_of_ble_eq_true rfl, Nat.le_of_ble_eq_true rfl⟩) (sy_recv (kc := 8) hE hP rfl (by decide) rfl rfl rfl) rfl hl.1 rfl (Nat.le_of_ble_eq_true rfl) dX7_withdraw_33 ⟨Nat.le_of_ble_eq_true rfl, Nat.le_of_ble_eq_true rfl⟩) hS (fun r_e_6 g_e_6 q_e_6 H locs e_6 hP hS => ?_)
    cases e_6
    refine sy_top (y := 1) (by rfl) ?_
    refine lv_if_eq (tgt := 41) hx hb dX7_withdraw_36 (by decide) (fun c9 => absurd c9 (by decide)) (fun _ => ?_)
    refine lv_iconst (v := 0) hx hb dX7_withdraw_39 (by decide) ?_
    exact (sy_ireti hx hb hr hlocks hE hP hS dX7_withdraw_40 ⟨Nat.le_of_ble_eq_true rfl, Nat.le_of_ble_eq_true rfl⟩ (by unfold fX7_withdraw; rw [if_neg c_2] <;> rfl))
def fX7_thingOf (g : sG) (q : sQ) (x0 x1 : Int32) : Int32 × sG := (if 0 ≤ x0 ∧ x0 ≤ (g 0 2) - 1 then (if 0 ≤ x1 ∧ x1 ≤ 6 then (if 4 ≤ x1 then (if x1 = 4 then (if (g 8 x0.toNatClampNeg) = 0 then ((-1), (sy_up g 0 0 0)) else ((g 10 x0.toNatClampNeg), (sy_up g 0 0 0))) else (if x1 = 5 then ((fX7_openOf (sy_up g 0 0 0) q x0), (sy_up g 0 0 0)) else (if (g 9 x0.toNatClampNeg) = 0 then (0, (sy_up g 0 0 0)) else (1, (sy_up g 0 0 0))))) else (if x1 = 0 then ((g 4 x0.toNatClampNeg), (sy_up g 0 0 0)) else (if x1 = 1 then ((fX7_valueNow (sy_up g 0 0 0) q x0), (sy_up g 0 0 0)) else (if x1 = 2 then ((g 7 x0.toNatClampNeg), (sy_up g 0 0 0)) else (if (g 8 x0.toNatClampNeg) = 0 then (0, (sy_up g 0 0 0)) else (1, (sy_up g 0 0 0))))))) else (0, (sy_up g 0 0 2))) else (0, (sy_up g 0 0 1)))
set_option maxHeartbeats 4000000 in
set_option maxRecDepth 100000 in
theorem mX7_thingOf (l : Launch) (hfl : l.stackTraces = false) (Z : sZ) (nT nK cT cK : Nat) (ad : Nat → Nat) (g : sG) (q : sQ) (x0 x1 : Int32) {mT mK : Nat} (hI : IM mT mK g) : sMi l Z yX7_thingOf (uW (.code yX7_thingOf cX7_thingOf 3 (some .int))) { frames := 2, cells := 0, slots := 0, locals := 43 } [.ref (ad 0), .int x0, .int x1] nT nK cT cK ad g q (fun r g1 q1 => (r, g1, q1) = ((fX7_thingOf g q x0 x1).1, (fX7_thingOf g q x0 x1).2, q)) := by
  refine Met.ofW (cc := cX7_thingOf) (maxL := 3) (ret := (some .int)) (by decide) rfl ?_
  intro p e s m args below meth c s₁ B hml hv
  obtain ⟨rfl, hE, hP⟩ := hv
  have hx := B.exec
  have hb := B.bytes
  have hr := B.returns
  have hts := atoms_spec (ws := uW (.code yX7_thingOf cX7_thingOf 3 (some .int))) B.pre
  have hown : s.vm.findClass RX7 = some m.cls := findClass_of_methodNamed B.named
  have hlocks := B.notSynchronized
  have hS : va_S (sy_A Z) s.heap s.heap [] := va_S.rf
  have hl := lv_entry ([.ref (ad 0), .int x0, .int x1]) (n := 3) (Nat.le_of_ble_eq_true rfl)
  rw [lg_entry_eq]
  generalize (lg_sl ([.ref (ad 0), .int x0, .int x1]) ++ List.replicate (3 - (lg_sl ([.ref (ad 0), .int x0, .int x1])).length) Slot.unset).toArray = ls at hl ⊢
  have hl : lv_has ls 3 [(0, .ref (ad 0)), (1, .int x0), (2, .int x1)] := hl
  refine lv_aload_n hx hb dX7_thingOf_0 rfl (lv_at hl 0 rfl) ?_
  refine lv_aload_n hx hb dX7_thingOf_1 rfl (lv_at hl 0 rfl) ?_
  refine lv_iload_n hx hb dX7_thingOf_2 rfl (lv_at hl 1 rfl) ?_
  refine sy_ki (sy_rV (o := 0) (As := [.int x0]) (rest := [.ref (ad 0)]) ⟨hx, hb, hml, hown, hts⟩ hE hP hS (mX7_isThing l hfl Z nT nK cT cK ad g q x0) (cwV 1 hts (gu_V uk_5_148 uk_5_150 uk_0_19 uk_1_9 uk_5_151) rfl rfl rfl (by decide +kernel) ⟨Nat.le_of_ble_eq_true rfl, Nat.le_of_ble_eq_true rfl⟩) (sy_recv (kc := 8) hE hP rfl (by decide) rfl rfl rfl) rfl hl.1 rfl (Nat.le_of_ble_eq_true rfl) dX7_thingOf_3 ⟨Nat.le_of_ble_eq_true rfl, Nat.le_of_ble_eq_true rfl⟩) hS (fun r_e_1 g_e_1 q_e_1 H locs e_1 hP hS => ?_)
  cases e_1
  refine sy_top (y := (iB (0 ≤ x0 ∧ x0 ≤ (g 0 2) - 1))) (by rfl) ?_
  refine lv_if_ne (tgt := 13) hx hb dX7_thingOf_6 (by decide) (fun c_2 => ?_) (fun c_2 => ?_)
  · have c_2 := iB_n.mp c_2
    refine lv_iload_n hx hb dX7_thingOf_13 rfl (lv_at hl 2 rfl) ?_
    refine lv_iconst (v := 0) hx hb dX7_thingOf_14 (by decide) ?_
    refine lv_bipush (v := 6) hx hb dX7_thingOf_15 (by decide) ?_
    refine sy_ki (sy_rS (As := [.int x1, .int 0, .int 6]) (rest := [.ref (ad 0)]) ⟨hx, hb, hml, hown, hts⟩ hE hP hS (nX7_is l hfl Z nT nK cT cK ad g q x1 0 6) (va_cwS 3 hts (gu_S uk_5_101 uk_5_102 uk_1_9 uk_5_103) rfl rfl rfl (by decide +kernel) ⟨Nat.le_of_ble_eq_true rfl, Nat.le_of_ble_eq_true rfl⟩) rfl hl.1 rfl (Nat.le_of_ble_eq_true rfl) dX7_thingOf_17 ⟨Nat.le_of_ble_eq_true rfl, Nat.le_of_ble_eq_true rfl⟩) hS (fun r_e_3 g_e_3 q_e_3 H locs e_3 hP hS => ?_)
    cases e_3
    refine lv_if_ne (tgt := 27) hx hb dX7_thingOf_20 (by decide) (fun c_4 => ?_) (fun c_4 => ?_)
    · have c_4 := iB_n.mp c_4
      refine lv_iconst (v := 0) hx hb dX7_thingOf_27 (by decide) ?_
      refine sy_ki (sy_rV (o := 0) (As := [.int 0]) (rest := []) ⟨hx, hb, hml, hown, hts⟩ hE hP hS (nX7_refused l hfl Z nT nK cT cK ad g q 0) (cwV 1 hts (gu_V uk_5_104 uk_5_106 uk_0_17 uk_1_9 uk_5_107) rfl rfl rfl (by decide +kernel) ⟨Nat.le_of_ble_eq_true rfl, Nat.le_of_ble_eq_true rfl⟩) (sy_recv (kc := 8) hE hP rfl (by decide) rfl rfl rfl) rfl hl.1 rfl (Nat.le_of_ble_eq_true rfl) dX7_thingOf_28 ⟨Nat.le_of_ble_eq_true rfl, Nat.le_of_ble_eq_true rfl⟩) hS (fun r_e_5 g_e_5 q_e_5 H locs e_5 hP hS => ?_)
      cases e_5
      refine sy_top (y := 0) (by rfl) ?_
      refine lv_if_eq (tgt := 36) hx hb dX7_thingOf_31 (by decide) (fun _ => ?_) (fun c9 => absurd c9 (by decide))
      refine lv_iload_n hx hb dX7_thingOf_36 rfl (lv_at hl 2 rfl) ?_
      refine lv_iconst (v := 4) hx hb dX7_thingOf_37 (by decide) ?_
      refine lv_icmp_ge (tgt := 96) hx hb dX7_thingOf_38 (by decide) (fun c_6 => ?_) (fun c_6 => ?_)
      · skip
        refine lv_iload_n hx hb dX7_thingOf_96 rfl (lv_at hl 2 rfl) ?_
        refine lv_iconst (v := 4) hx hb dX7_thingOf_97 (by decide) ?_
        refine lv_icmp_ne (tgt := 123) hx hb dX7_thingOf_98 (by decide) (fun c_7 => ?_) (fun c_7 => ?_)
        · skip
          refine lv_iload_n hx hb dX7_thingOf_123 rfl (lv_at hl 2 rfl) ?_
          refine lv_iconst (v := 5) hx hb dX7_thingOf_124 (by decide) ?_
          refine lv_icmp_ne (tgt := 136) hx hb dX7_thingOf_125 (by decide) (fun c_8 => ?_) (fun c_8 => ?_)
          · skip
            refine lv_aload_n hx hb dX7_thingOf_136 rfl (lv_at hl 0 rfl) ?_
            refine sy_getRX7 hx hb hts hown hE hP 0 rfl 8 (by decide) (hts _ (u_in uk_4_198)) (v := .ref (ad 9)) rfl dX7_thingOf_137 ?_
            refine lv_iload_n hx hb dX7_thingOf_140 rfl (lv_at hl 1 rfl) ?_
            refine sy_zaldN hx hb hE hP 9 rfl (show vp_in x0 40 from (im_thing hI c_2)) x0.toNatClampNeg rfl (v := g 9 x0.toNatClampNeg) rfl dX7_thingOf_141 ?_
            refine lv_if_eq (tgt := 149) hx hb dX7_thingOf_142 (by decide) (fun c_9 => ?_) (fun c_9 => ?_)
            · skip
              refine lv_iconst (v := 0) hx hb dX7_thingOf_149 (by decide) ?_
              exact (sy_ireti hx hb hr hlocks hE hP hS dX7_thingOf_150 ⟨Nat.le_of_ble_eq_true rfl, Nat.le_of_ble_eq_true rfl⟩ (by unfold fX7_thingOf; rw [if_pos c_2, if_pos c_4, if_pos c_6, if_neg c_7, if_neg c_8, if_pos c_9] <;> rfl))
            · skip
              refine lv_iconst (v := 1) hx hb dX7_thingOf_145 (by decide) ?_
              refine lv_goto (tgt := 150) hx hb dX7_thingOf_146 (by decide) ?_
              exact (sy_ireti hx hb hr hlocks hE hP hS dX7_thingOf_150 ⟨Nat.le_of_ble_eq_true rfl, Nat.le_of_ble_eq_true rfl⟩ (by unfold fX7_thingOf; rw [if_pos c_2, if_pos c_4, if_pos c_6, if_neg c_7, if_neg c_8, if_neg c_9] <;> rfl))
          · skip
            refine lv_aload_n hx hb dX7_thingOf_128 rfl (lv_at hl 0 rfl) ?_
            refine lv_iload_n hx hb dX7_thingOf_129 rfl (lv_at hl 1 rfl) ?_
            refine sy_ki (sy_rV (o := 0) (As := [.int x0]) (rest := []) ⟨hx, hb, hml, hown, hts⟩ hE hP hS (mX7_openOf l hfl Z nT nK cT cK ad (sy_up g 0 0 0) q x0 (im_0 (by decide) hI)) (cwV 1 hts (gu_V uk_5_212 uk_5_214 uk_0_29 uk_1_9 uk_5_215) rfl rfl rfl (by decide +kernel) ⟨Nat.le_of_ble_eq_true rfl, Nat.le_of_ble_eq_true rfl⟩) (sy_recv (kc := 8) hE hP rfl (by decide) rfl rfl rfl) rfl hl.1 rfl (Nat.le_of_ble_eq_true rfl) dX7_thingOf_130 ⟨Nat.le_of_ble_eq_true rfl, Nat.le_of_ble_eq_true rfl⟩) hS (fun r_e_10 g_e_10 q_e_10 H locs e_10 hP hS => ?_)
            cases e_10
            refine lv_goto (tgt := 150) hx hb dX7_thingOf_133 (by decide) ?_
            exact (sy_ireti hx hb hr hlocks hE hP hS dX7_thingOf_150 ⟨Nat.le_of_ble_eq_true rfl, Nat.le_of_ble_eq_true rfl⟩ (by unfold fX7_thingOf; rw [if_pos c_2, if_pos c_4, if_pos c_6, if_neg c_7, if_pos c_8] <;> rfl))
        · skip
          refine lv_aload_n hx hb dX7_thingOf_101 rfl (lv_at hl 0 rfl) ?_
          refine sy_getRX7 hx hb hts hown hE hP 0 rfl 7 (by decide) (hts _ (u_in uk_4_197)) (v := .ref (ad 8)) rfl dX7_thingOf_102 ?_
          refine lv_iload_n hx hb dX7_thingOf_105 rfl (lv_at hl 1 rfl) ?_
          refine sy_zaldN hx hb hE hP 8 rfl (show vp_in x0 40 from (im_thing hI c_2)) x0.toNatClampNeg rfl (v := g 8 x0.toNatClampNeg) rfl dX7_thingOf_106 ?_
          refine lv_if_eq (tgt := 119) hx hb dX7_thingOf_107 (by decide) (fun c_11 => ?_) (fun c_11 => ?_)
          · skip
            refine lv_iconst (v := (-1)) hx hb dX7_thingOf_119 (by decide) ?_
            refine lv_goto (tgt := 150) hx hb dX7_thingOf_120 (by decide) ?_
            exact (sy_ireti hx hb hr hlocks hE hP hS dX7_thingOf_150 ⟨Nat.le_of_ble_eq_true rfl, Nat.le_of_ble_eq_true rfl⟩ (by unfold fX7_thingOf; rw [if_pos c_2, if_pos c_4, if_pos c_6, if_pos c_7, if_pos c_11] <;> rfl))
          · skip
            refine lv_aload_n hx hb dX7_thingOf_110 rfl (lv_at hl 0 rfl) ?_
            refine sy_getRX7 hx hb hts hown hE hP 0 rfl 9 (by decide) (hts _ (u_in uk_4_199)) (v := .ref (ad 10)) rfl dX7_thingOf_111 ?_
            refine lv_iload_n hx hb dX7_thingOf_114 rfl (lv_at hl 1 rfl) ?_
            refine sy_ialdN hx hb hE hP 10 rfl (show vp_in x0 40 from (im_thing hI c_2)) x0.toNatClampNeg rfl (v := g 10 x0.toNatClampNeg) rfl dX7_thingOf_115 ?_
            refine lv_goto (tgt := 150) hx hb dX7_thingOf_116 (by decide) ?_
            exact (sy_ireti hx hb hr hlocks hE hP hS dX7_thingOf_150 ⟨Nat.le_of_ble_eq_true rfl, Nat.le_of_ble_eq_true rfl⟩ (by unfold fX7_thingOf; rw [if_pos c_2, if_pos c_4, if_pos c_6, if_pos c_7, if_neg c_11] <;> rfl))
      · skip
        refine lv_iload_n hx hb dX7_thingOf_41 rfl (lv_at hl 2 rfl) ?_
        refine lv_if_ne (tgt := 54) hx hb dX7_thingOf_42 (by decide) (fun c_12 => ?_) (fun c_12 => ?_)
        · skip
          refine lv_iload_n hx hb dX7_thingOf_54 rfl (lv_at hl 2 rfl) ?_
          refine lv_iconst (v := 1) hx hb dX7_thingOf_55 (by decide) ?_
          refine lv_icmp_ne (tgt := 67) hx hb dX7_thingOf_56 (by decide) (fun c_13 => ?_) (fun c_13 => ?_)
          · skip
            refine lv_iload_n hx hb dX7_thingOf_67 rfl (lv_at hl 2 rfl) ?_
            refine lv_iconst (v := 2) hx hb dX7_thingOf_68 (by decide) ?_
            refine lv_icmp_ne (tgt := 81) hx hb dX7_thingOf_69 (by decide) (fun c_14 => ?_) (fun c_14 => ?_)
            · skip
              refine lv_aload_n hx hb dX7_thingOf_81 rfl (lv_at hl 0 rfl) ?_
              refine sy_getRX7 hx hb hts hown hE hP 0 rfl 7 (by decide) (hts _ (u_in uk_4_197)) (v := .ref (ad 8)) rfl dX7_thingOf_82 ?_
              refine lv_iload_n hx hb dX7_thingOf_85 rfl (lv_at hl 1 rfl) ?_
              refine sy_zaldN hx hb hE hP 8 rfl (show vp_in x0 40 from (im_thing hI c_2)) x0.toNatClampNeg rfl (v := g 8 x0.toNatClampNeg) rfl dX7_thingOf_86 ?_
              refine lv_if_eq (tgt := 94) hx hb dX7_thingOf_87 (by decide) (fun c_15 => ?_) (fun c_15 => ?_)
              · skip
                refine lv_iconst (v := 0) hx hb dX7_thingOf_94 (by decide) ?_
                exact (sy_ireti hx hb hr hlocks hE hP hS dX7_thingOf_95 ⟨Nat.le_of_ble_eq_true rfl, Nat.le_of_ble_eq_true rfl⟩ (by unfold fX7_thingOf; rw [if_pos c_2, if_pos c_4, if_neg c_6, if_neg c_12, if_neg c_13, if_neg c_14, if_pos c_15] <;> rfl))
              · skip
                refine lv_iconst (v := 1) hx hb dX7_thingOf_90 (by decide) ?_
                refine lv_goto (tgt := 95) hx hb dX7_thingOf_91 (by decide) ?_
                exact (sy_ireti hx hb hr hlocks hE hP hS dX7_thingOf_95 ⟨Nat.le_of_ble_eq_true rfl, Nat.le_of_ble_eq_true rfl⟩ (by unfold fX7_thingOf; rw [if_pos c_2, if_pos c_4, if_neg c_6, if_neg c_12, if_neg c_13, if_neg c_14, if_neg c_15] <;> rfl))
            · skip
              refine lv_aload_n hx hb dX7_thingOf_72 rfl (lv_at hl 0 rfl) ?_
              refine sy_getRX7 hx hb hts hown hE hP 0 rfl 6 (by decide) (hts _ (u_in uk_4_196)) (v := .ref (ad 7)) rfl dX7_thingOf_73 ?_
              refine lv_iload_n hx hb dX7_thingOf_76 rfl (lv_at hl 1 rfl) ?_
              refine sy_ialdN hx hb hE hP 7 rfl (show vp_in x0 40 from (im_thing hI c_2)) x0.toNatClampNeg rfl (v := g 7 x0.toNatClampNeg) rfl dX7_thingOf_77 ?_
              refine lv_goto (tgt := 95) hx hb dX7_thingOf_78 (by decide) ?_
              exact (sy_ireti hx hb hr hlocks hE hP hS dX7_thingOf_95 ⟨Nat.le_of_ble_eq_true rfl, Nat.le_of_ble_eq_true rfl⟩ (by unfold fX7_thingOf; rw [if_pos c_2, if_pos c_4, if_neg c_6, if_neg c_12, if_neg c_13, if_pos c_14] <;> rfl))
          · skip
            refine lv_aload_n hx hb dX7_thingOf_59 rfl (lv_at hl 0 rfl) ?_
            refine lv_iload_n hx hb dX7_thingOf_60 rfl (lv_at hl 1 rfl) ?_
            refine sy_ki (sy_rV (o := 0) (As := [.int x0]) (rest := []) ⟨hx, hb, hml, hown, hts⟩ hE hP hS (mX7_valueNow l hfl Z nT nK cT cK ad (sy_up g 0 0 0) q x0 (im_0 (by decide) hI) (show vp_in x0 40 from (im_thing hI c_2))) (cwV 1 hts (gu_V uk_5_152 uk_5_154 uk_0_20 uk_1_9 uk_5_155) rfl rfl rfl (by decide +kernel) ⟨Nat.le_of_ble_eq_true rfl, Nat.le_of_ble_eq_true rfl⟩) (sy_recv (kc := 8) hE hP rfl (by decide) rfl rfl rfl) rfl hl.1 rfl (Nat.le_of_ble_eq_true rfl) dX7_thingOf_61 ⟨Nat.le_of_ble_eq_true rfl, Nat.le_of_ble_eq_true rfl⟩) hS (fun r_e_16 g_e_16 q_e_16 H locs e_16 hP hS => ?_)
            cases e_16
            refine lv_goto (tgt := 95) hx hb dX7_thingOf_64 (by decide) ?_
            exact (sy_ireti hx hb hr hlocks hE hP hS dX7_thingOf_95 ⟨Nat.le_of_ble_eq_true rfl, Nat.le_of_ble_eq_true rfl⟩ (by unfold fX7_thingOf; rw [if_pos c_2, if_pos c_4, if_neg c_6, if_neg c_12, if_pos c_13] <;> rfl))
        · skip
          refine lv_aload_n hx hb dX7_thingOf_45 rfl (lv_at hl 0 rfl) ?_
          refine sy_getRX7 hx hb hts hown hE hP 0 rfl 3 (by decide) (hts _ (u_in uk_4_193)) (v := .ref (ad 4)) rfl dX7_thingOf_46 ?_
          refine lv_iload_n hx hb dX7_thingOf_49 rfl (lv_at hl 1 rfl) ?_
          refine sy_ialdN hx hb hE hP 4 rfl (show vp_in x0 40 from (im_thing hI c_2)) x0.toNatClampNeg rfl (v := g 4 x0.toNatClampNeg) rfl dX7_thingOf_50 ?_
          refine lv_goto (tgt := 95) hx hb dX7_thingOf_51 (by decide) ?_
          exact (sy_ireti hx hb hr hlocks hE hP hS dX7_thingOf_95 ⟨Nat.le_of_ble_eq_true rfl, Nat.le_of_ble_eq_true rfl⟩ (by unfold fX7_thingOf; rw [if_pos c_2, if_pos c_4, if_neg c_6, if_pos c_12] <;> rfl))
    · have c_4 := iB_0.mp c_4
      refine lv_iconst (v := 2) hx hb dX7_thingOf_23 (by decide) ?_
      refine lv_goto (tgt := 28) hx hb dX7_thingOf_24 (by decide) ?_
      refine sy_ki (sy_rV (o := 0) (As := [.int 2]) (rest := []) ⟨hx, hb, hml, hown, hts⟩ hE hP hS (nX7_refused l hfl Z nT nK cT cK ad g q 2) (cwV 1 hts (gu_V uk_5_104 uk_5_106 uk_0_17 uk_1_9 uk_5_107) rfl rfl rfl (by decide +kernel) ⟨Nat.le_of_ble_eq_true rfl, Nat.le_of_ble_eq_true rfl⟩) (sy_recv (kc := 8) hE hP rfl (by decide) rfl rfl rfl) rfl hl.1 rfl (Nat.le_of_ble_eq_true rfl) dX7_thingOf_28 ⟨Nat.le_of_ble_eq_true rfl, Nat.le_of_ble_eq_true rfl⟩) hS (fun r_e_17 g_e_17 q_e_17 H locs e_17 hP hS => ?_)
      cases e_17
      refine sy_top (y := 1) (by rfl) ?_
      refine lv_if_eq (tgt := 36) hx hb dX7_thingOf_31 (by decide) (fun c9 => absurd c9 (by decide)) (fun _ => ?_)
      refine lv_iconst (v := 0) hx hb dX7_thingOf_34 (by decide) ?_
      exact (sy_ireti hx hb hr hlocks hE hP hS dX7_thingOf_35 ⟨Nat.le_of_ble_eq_true rfl, Nat.le_of_ble_eq_true rfl⟩ (by unfold fX7_thingOf; rw [if_pos c_2, if_neg c_4] <;> rfl))
  · have c_2 := iB_0.mp c_2
    refine lv_iconst (v := 1) hx hb dX7_thingOf_9 (by decide) ?_
    refine lv_goto (tgt := 28) hx hb dX7_thingOf_10 (by decide) ?_
    refine sy_ki (sy_rV (o := 0) (As := [.int 1]) (rest := []) ⟨hx, hb, hml, hown, hts⟩ hE hP hS (nX7_refused l hfl Z nT nK cT cK ad g q 1) (cwV 1 hts (gu_V uk_5_104 uk_5_106 uk_0_17 uk_1_9 uk_5_107) rfl rfl rfl (by decide +kernel) ⟨Nat.le_of_ble_eq_true rfl, Nat.le_of_ble_eq_true rfl⟩) (sy_recv (kc := 8) hE hP rfl (by decide) rfl rfl rfl) rfl hl.1 rfl (Nat.le_of_ble_eq_true rfl) dX7_thingOf_28 ⟨Nat.le_of_ble_eq_true rfl, Nat.le_of_ble_eq_true rfl⟩) hS (fun r_e_18 g_e_18 q_e_18 H locs e_18 hP hS => ?_)
    cases e_18
    refine sy_top (y := 1) (by rfl) ?_
    refine lv_if_eq (tgt := 36) hx hb dX7_thingOf_31 (by decide) (fun c9 => absurd c9 (by decide)) (fun _ => ?_)
    refine lv_iconst (v := 0) hx hb dX7_thingOf_34 (by decide) ?_
    exact (sy_ireti hx hb hr hlocks hE hP hS dX7_thingOf_35 ⟨Nat.le_of_ble_eq_true rfl, Nat.le_of_ble_eq_true rfl⟩ (by unfold fX7_thingOf; rw [if_neg c_2] <;> rfl))
def fX7_ticketOf (g : sG) (q : sQ) (x0 x1 : Int32) : Int32 × sG := (if 0 ≤ x0 ∧ x0 ≤ (g 0 28) - 1 then (if 0 ≤ x1 ∧ x1 ≤ 9 then (if 5 ≤ x1 then (if 8 ≤ x1 then (if x1 = 8 then ((fX7_bars (sy_up g 0 0 0) q x0), (sy_up g 0 0 0)) else ((g 40 x0.toNatClampNeg), (sy_up g 0 0 0))) else (if x1 = 5 then ((g 37 x0.toNatClampNeg), (sy_up g 0 0 0)) else (if x1 = 6 then (((g 37 x0.toNatClampNeg) + (g 38 x0.toNatClampNeg)), (sy_up g 0 0 0)) else ((g 43 x0.toNatClampNeg), (sy_up g 0 0 0))))) else (if x1 = 0 then ((g 39 x0.toNatClampNeg), (sy_up g 0 0 0)) else (if x1 = 1 then ((g 30 x0.toNatClampNeg), (sy_up g 0 0 0)) else (if x1 = 2 then ((g 35 x0.toNatClampNeg), (sy_up g 0 0 0)) else (if x1 = 3 then ((fX7_interest (sy_up g 0 0 0) q x0), (sy_up g 0 0 0)) else ((g 33 x0.toNatClampNeg), (sy_up g 0 0 0))))))) else (0, (sy_up g 0 0 2))) else (0, (sy_up g 0 0 1)))
set_option maxHeartbeats 4000000 in
set_option maxRecDepth 100000 in
theorem mX7_ticketOf (l : Launch) (hfl : l.stackTraces = false) (Z : sZ) (nT nK cT cK : Nat) (ad : Nat → Nat) (g : sG) (q : sQ) (x0 x1 : Int32) {mT mK : Nat} (hI : IM mT mK g) : sMi l Z yX7_ticketOf (uW (.code yX7_ticketOf cX7_ticketOf 3 (some .int))) { frames := 2, cells := 0, slots := 0, locals := 49 } [.ref (ad 0), .int x0, .int x1] nT nK cT cK ad g q (fun r g1 q1 => (r, g1, q1) = ((fX7_ticketOf g q x0 x1).1, (fX7_ticketOf g q x0 x1).2, q)) := by
  refine Met.ofW (cc := cX7_ticketOf) (maxL := 3) (ret := (some .int)) (by decide) rfl ?_
  intro p e s m args below meth c s₁ B hml hv
  obtain ⟨rfl, hE, hP⟩ := hv
  have hx := B.exec
  have hb := B.bytes
  have hr := B.returns
  have hts := atoms_spec (ws := uW (.code yX7_ticketOf cX7_ticketOf 3 (some .int))) B.pre
  have hown : s.vm.findClass RX7 = some m.cls := findClass_of_methodNamed B.named
  have hlocks := B.notSynchronized
  have hS : va_S (sy_A Z) s.heap s.heap [] := va_S.rf
  have hl := lv_entry ([.ref (ad 0), .int x0, .int x1]) (n := 3) (Nat.le_of_ble_eq_true rfl)
  rw [lg_entry_eq]
  generalize (lg_sl ([.ref (ad 0), .int x0, .int x1]) ++ List.replicate (3 - (lg_sl ([.ref (ad 0), .int x0, .int x1])).length) Slot.unset).toArray = ls at hl ⊢
  have hl : lv_has ls 3 [(0, .ref (ad 0)), (1, .int x0), (2, .int x1)] := hl
  refine lv_aload_n hx hb dX7_ticketOf_0 rfl (lv_at hl 0 rfl) ?_
  refine lv_aload_n hx hb dX7_ticketOf_1 rfl (lv_at hl 0 rfl) ?_
  refine lv_iload_n hx hb dX7_ticketOf_2 rfl (lv_at hl 1 rfl) ?_
  refine sy_ki (sy_rV (o := 0) (As := [.int x0]) (rest := [.ref (ad 0)]) ⟨hx, hb, hml, hown, hts⟩ hE hP hS (mX7_isTicket l hfl Z nT nK cT cK ad g q x0) (cwV 1 hts (gu_V uk_5_172 uk_5_174 uk_0_24 uk_1_9 uk_5_175) rfl rfl rfl (by decide +kernel) ⟨Nat.le_of_ble_eq_true rfl, Nat.le_of_ble_eq_true rfl⟩) (sy_recv (kc := 8) hE hP rfl (by decide) rfl rfl rfl) rfl hl.1 rfl (Nat.le_of_ble_eq_true rfl) dX7_ticketOf_3 ⟨Nat.le_of_ble_eq_true rfl, Nat.le_of_ble_eq_true rfl⟩) hS (fun r_e_1 g_e_1 q_e_1 H locs e_1 hP hS => ?_)
  cases e_1
  refine sy_top (y := (iB (0 ≤ x0 ∧ x0 ≤ (g 0 28) - 1))) (by rfl) ?_
  refine lv_if_ne (tgt := 13) hx hb dX7_ticketOf_6 (by decide) (fun c_2 => ?_) (fun c_2 => ?_)
  · have c_2 := iB_n.mp c_2
    refine lv_iload_n hx hb dX7_ticketOf_13 rfl (lv_at hl 2 rfl) ?_
    refine lv_iconst (v := 0) hx hb dX7_ticketOf_14 (by decide) ?_
    refine lv_bipush (v := 9) hx hb dX7_ticketOf_15 (by decide) ?_
    refine sy_ki (sy_rS (As := [.int x1, .int 0, .int 9]) (rest := [.ref (ad 0)]) ⟨hx, hb, hml, hown, hts⟩ hE hP hS (nX7_is l hfl Z nT nK cT cK ad g q x1 0 9) (va_cwS 3 hts (gu_S uk_5_101 uk_5_102 uk_1_9 uk_5_103) rfl rfl rfl (by decide +kernel) ⟨Nat.le_of_ble_eq_true rfl, Nat.le_of_ble_eq_true rfl⟩) rfl hl.1 rfl (Nat.le_of_ble_eq_true rfl) dX7_ticketOf_17 ⟨Nat.le_of_ble_eq_true rfl, Nat.le_of_ble_eq_true rfl⟩) hS (fun r_e_3 g_e_3 q_e_3 H locs e_3 hP hS => ?_)
    cases e_3
    refine lv_if_ne (tgt := 27) hx hb dX7_ticketOf_20 (by decide) (fun c_4 => ?_) (fun c_4 => ?_)
    · have c_4 := iB_n.mp c_4
      refine lv_iconst (v := 0) hx hb dX7_ticketOf_27 (by decide) ?_
      refine sy_ki (sy_rV (o := 0) (As := [.int 0]) (rest := []) ⟨hx, hb, hml, hown, hts⟩ hE hP hS (nX7_refused l hfl Z nT nK cT cK ad g q 0) (cwV 1 hts (gu_V uk_5_104 uk_5_106 uk_0_17 uk_1_9 uk_5_107) rfl rfl rfl (by decide +kernel) ⟨Nat.le_of_ble_eq_true rfl, Nat.le_of_ble_eq_true rfl⟩) (sy_recv (kc := 8) hE hP rfl (by decide) rfl rfl rfl) rfl hl.1 rfl (Nat.le_of_ble_eq_true rfl) dX7_ticketOf_28 ⟨Nat.le_of_ble_eq_true rfl, Nat.le_of_ble_eq_true rfl⟩) hS (fun r_e_5 g_e_5 q_e_5 H locs e_5 hP hS => ?_)
      cases e_5
      refine sy_top (y := 0) (by rfl) ?_
      refine lv_if_eq (tgt := 36) hx hb dX7_ticketOf_31 (by decide) (fun _ => ?_) (fun c9 => absurd c9 (by decide))
      refine lv_iload_n hx hb dX7_ticketOf_36 rfl (lv_at hl 2 rfl) ?_
      refine lv_iconst (v := 5) hx hb dX7_ticketOf_37 (by decide) ?_
      refine lv_icmp_ge (tgt := 102) hx hb dX7_ticketOf_38 (by decide) (fun c_6 => ?_) (fun c_6 => ?_)
      · skip
        refine lv_iload_n hx hb dX7_ticketOf_102 rfl (lv_at hl 2 rfl) ?_
        refine lv_bipush (v := 8) hx hb dX7_ticketOf_103 (by decide) ?_
        refine lv_icmp_ge (tgt := 151) hx hb dX7_ticketOf_105 (by decide) (fun c_7 => ?_) (fun c_7 => ?_)
        · skip
          refine lv_iload_n hx hb dX7_ticketOf_151 rfl (lv_at hl 2 rfl) ?_
          refine lv_bipush (v := 8) hx hb dX7_ticketOf_152 (by decide) ?_
          refine lv_icmp_ne (tgt := 165) hx hb dX7_ticketOf_154 (by decide) (fun c_8 => ?_) (fun c_8 => ?_)
          · skip
            refine lv_aload_n hx hb dX7_ticketOf_165 rfl (lv_at hl 0 rfl) ?_
            refine sy_getRX7 hx hb hts hown hE hP 0 rfl 39 (by decide) (hts _ (u_in uk_4_229)) (v := .ref (ad 40)) rfl dX7_ticketOf_166 ?_
            refine lv_iload_n hx hb dX7_ticketOf_169 rfl (lv_at hl 1 rfl) ?_
            refine sy_ialdN hx hb hE hP 40 rfl (show vp_in x0 40 from (im_ticket hI c_2)) x0.toNatClampNeg rfl (v := g 40 x0.toNatClampNeg) rfl dX7_ticketOf_170 ?_
            exact (sy_ireti hx hb hr hlocks hE hP hS dX7_ticketOf_171 ⟨Nat.le_of_ble_eq_true rfl, Nat.le_of_ble_eq_true rfl⟩ (by unfold fX7_ticketOf; rw [if_pos c_2, if_pos c_4, if_pos c_6, if_pos c_7, if_neg c_8] <;> rfl))
          · skip
            refine lv_aload_n hx hb dX7_ticketOf_157 rfl (lv_at hl 0 rfl) ?_
            refine lv_iload_n hx hb dX7_ticketOf_158 rfl (lv_at hl 1 rfl) ?_
            refine sy_ki (sy_rV (o := 0) (As := [.int x0]) (rest := []) ⟨hx, hb, hml, hown, hts⟩ hE hP hS (mX7_bars l hfl Z nT nK cT cK ad (sy_up g 0 0 0) q x0 (im_0 (by decide) hI) (show vp_in x0 40 from (im_ticket hI c_2))) (cwV 1 hts (gu_V uk_5_176 uk_5_178 uk_0_25 uk_1_9 uk_5_179) rfl rfl rfl (by decide +kernel) ⟨Nat.le_of_ble_eq_true rfl, Nat.le_of_ble_eq_true rfl⟩) (sy_recv (kc := 8) hE hP rfl (by decide) rfl rfl rfl) rfl hl.1 rfl (Nat.le_of_ble_eq_true rfl) dX7_ticketOf_159 ⟨Nat.le_of_ble_eq_true rfl, Nat.le_of_ble_eq_true rfl⟩) hS (fun r_e_9 g_e_9 q_e_9 H locs e_9 hP hS => ?_)
            cases e_9
            refine lv_goto (tgt := 171) hx hb dX7_ticketOf_162 (by decide) ?_
            exact (sy_ireti hx hb hr hlocks hE hP hS dX7_ticketOf_171 ⟨Nat.le_of_ble_eq_true rfl, Nat.le_of_ble_eq_true rfl⟩ (by unfold fX7_ticketOf; rw [if_pos c_2, if_pos c_4, if_pos c_6, if_pos c_7, if_pos c_8] <;> rfl))
        · skip
          refine lv_iload_n hx hb dX7_ticketOf_108 rfl (lv_at hl 2 rfl) ?_
          refine lv_iconst (v := 5) hx hb dX7_ticketOf_109 (by decide) ?_
          refine lv_icmp_ne (tgt := 122) hx hb dX7_ticketOf_110 (by decide) (fun c_10 => ?_) (fun c_10 => ?_)
          · skip
            refine lv_iload_n hx hb dX7_ticketOf_122 rfl (lv_at hl 2 rfl) ?_
            refine lv_bipush (v := 6) hx hb dX7_ticketOf_123 (by decide) ?_
            refine lv_icmp_ne (tgt := 144) hx hb dX7_ticketOf_125 (by decide) (fun c_11 => ?_) (fun c_11 => ?_)
            · skip
              refine lv_aload_n hx hb dX7_ticketOf_144 rfl (lv_at hl 0 rfl) ?_
              refine sy_getRX7 hx hb hts hown hE hP 0 rfl 42 (by decide) (hts _ (u_in uk_4_232)) (v := .ref (ad 43)) rfl dX7_ticketOf_145 ?_
              refine lv_iload_n hx hb dX7_ticketOf_148 rfl (lv_at hl 1 rfl) ?_
              refine sy_ialdN hx hb hE hP 43 rfl (show vp_in x0 40 from (im_ticket hI c_2)) x0.toNatClampNeg rfl (v := g 43 x0.toNatClampNeg) rfl dX7_ticketOf_149 ?_
              exact (sy_ireti hx hb hr hlocks hE hP hS dX7_ticketOf_150 ⟨Nat.le_of_ble_eq_true rfl, Nat.le_of_ble_eq_true rfl⟩ (by unfold fX7_ticketOf; rw [if_pos c_2, if_pos c_4, if_pos c_6, if_neg c_7, if_neg c_10, if_neg c_11] <;> rfl))
            · skip
              refine lv_aload_n hx hb dX7_ticketOf_128 rfl (lv_at hl 0 rfl) ?_
              refine sy_getRX7 hx hb hts hown hE hP 0 rfl 36 (by decide) (hts _ (u_in uk_4_226)) (v := .ref (ad 37)) rfl dX7_ticketOf_129 ?_
              refine lv_iload_n hx hb dX7_ticketOf_132 rfl (lv_at hl 1 rfl) ?_
              refine sy_ialdN hx hb hE hP 37 rfl (show vp_in x0 40 from (im_ticket hI c_2)) x0.toNatClampNeg rfl (v := g 37 x0.toNatClampNeg) rfl dX7_ticketOf_133 ?_
              refine lv_aload_n hx hb dX7_ticketOf_134 rfl (lv_at hl 0 rfl) ?_
              refine sy_getRX7 hx hb hts hown hE hP 0 rfl 37 (by decide) (hts _ (u_in uk_4_227)) (v := .ref (ad 38)) rfl dX7_ticketOf_135 ?_
              refine lv_iload_n hx hb dX7_ticketOf_138 rfl (lv_at hl 1 rfl) ?_
              refine sy_ialdN hx hb hE hP 38 rfl (show vp_in x0 40 from (im_ticket hI c_2)) x0.toNatClampNeg rfl (v := g 38 x0.toNatClampNeg) rfl dX7_ticketOf_139 ?_
              refine lv_iadd hx hb dX7_ticketOf_140 ?_
              refine lv_goto (tgt := 150) hx hb dX7_ticketOf_141 (by decide) ?_
              exact (sy_ireti hx hb hr hlocks hE hP hS dX7_ticketOf_150 ⟨Nat.le_of_ble_eq_true rfl, Nat.le_of_ble_eq_true rfl⟩ (by unfold fX7_ticketOf; rw [if_pos c_2, if_pos c_4, if_pos c_6, if_neg c_7, if_neg c_10, if_pos c_11] <;> rfl))
          · skip
            refine lv_aload_n hx hb dX7_ticketOf_113 rfl (lv_at hl 0 rfl) ?_
            refine sy_getRX7 hx hb hts hown hE hP 0 rfl 36 (by decide) (hts _ (u_in uk_4_226)) (v := .ref (ad 37)) rfl dX7_ticketOf_114 ?_
            refine lv_iload_n hx hb dX7_ticketOf_117 rfl (lv_at hl 1 rfl) ?_
            refine sy_ialdN hx hb hE hP 37 rfl (show vp_in x0 40 from (im_ticket hI c_2)) x0.toNatClampNeg rfl (v := g 37 x0.toNatClampNeg) rfl dX7_ticketOf_118 ?_
            refine lv_goto (tgt := 150) hx hb dX7_ticketOf_119 (by decide) ?_
            exact (sy_ireti hx hb hr hlocks hE hP hS dX7_ticketOf_150 ⟨Nat.le_of_ble_eq_true rfl, Nat.le_of_ble_eq_true rfl⟩ (by unfold fX7_ticketOf; rw [if_pos c_2, if_pos c_4, if_pos c_6, if_neg c_7, if_pos c_10] <;> rfl))
      · skip
        refine lv_iload_n hx hb dX7_ticketOf_41 rfl (lv_at hl 2 rfl) ?_
        refine lv_if_ne (tgt := 54) hx hb dX7_ticketOf_42 (by decide) (fun c_12 => ?_) (fun c_12 => ?_)
        · skip
          refine lv_iload_n hx hb dX7_ticketOf_54 rfl (lv_at hl 2 rfl) ?_
          refine lv_iconst (v := 1) hx hb dX7_ticketOf_55 (by decide) ?_
          refine lv_icmp_ne (tgt := 68) hx hb dX7_ticketOf_56 (by decide) (fun c_13 => ?_) (fun c_13 => ?_)
          · skip
            refine lv_iload_n hx hb dX7_ticketOf_68 rfl (lv_at hl 2 rfl) ?_
            refine lv_iconst (v := 2) hx hb dX7_ticketOf_69 (by decide) ?_
            refine lv_icmp_ne (tgt := 82) hx hb dX7_ticketOf_70 (by decide) (fun c_14 => ?_) (fun c_14 => ?_)
            · skip
              refine lv_iload_n hx hb dX7_ticketOf_82 rfl (lv_at hl 2 rfl) ?_
              refine lv_iconst (v := 3) hx hb dX7_ticketOf_83 (by decide) ?_
              refine lv_icmp_ne (tgt := 95) hx hb dX7_ticketOf_84 (by decide) (fun c_15 => ?_) (fun c_15 => ?_)
              · skip
                refine lv_aload_n hx hb dX7_ticketOf_95 rfl (lv_at hl 0 rfl) ?_
                refine sy_getRX7 hx hb hts hown hE hP 0 rfl 32 (by decide) (hts _ (u_in uk_4_222)) (v := .ref (ad 33)) rfl dX7_ticketOf_96 ?_
                refine lv_iload_n hx hb dX7_ticketOf_99 rfl (lv_at hl 1 rfl) ?_
                refine sy_ialdN hx hb hE hP 33 rfl (show vp_in x0 40 from (im_ticket hI c_2)) x0.toNatClampNeg rfl (v := g 33 x0.toNatClampNeg) rfl dX7_ticketOf_100 ?_
                exact (sy_ireti hx hb hr hlocks hE hP hS dX7_ticketOf_101 ⟨Nat.le_of_ble_eq_true rfl, Nat.le_of_ble_eq_true rfl⟩ (by unfold fX7_ticketOf; rw [if_pos c_2, if_pos c_4, if_neg c_6, if_neg c_12, if_neg c_13, if_neg c_14, if_neg c_15] <;> rfl))
              · skip
                refine lv_aload_n hx hb dX7_ticketOf_87 rfl (lv_at hl 0 rfl) ?_
                refine lv_iload_n hx hb dX7_ticketOf_88 rfl (lv_at hl 1 rfl) ?_
                refine sy_ki (sy_rV (o := 0) (As := [.int x0]) (rest := []) ⟨hx, hb, hml, hown, hts⟩ hE hP hS (mX7_interest l hfl Z nT nK cT cK ad (sy_up g 0 0 0) q x0 (im_0 (by decide) hI) (show vp_in x0 40 from (im_ticket hI c_2))) (cwV 1 hts (gu_V uk_5_184 uk_5_186 uk_0_27 uk_1_9 uk_5_187) rfl rfl rfl (by decide +kernel) ⟨Nat.le_of_ble_eq_true rfl, Nat.le_of_ble_eq_true rfl⟩) (sy_recv (kc := 8) hE hP rfl (by decide) rfl rfl rfl) rfl hl.1 rfl (Nat.le_of_ble_eq_true rfl) dX7_ticketOf_89 ⟨Nat.le_of_ble_eq_true rfl, Nat.le_of_ble_eq_true rfl⟩) hS (fun r_e_16 g_e_16 q_e_16 H locs e_16 hP hS => ?_)
                cases e_16
                refine lv_goto (tgt := 101) hx hb dX7_ticketOf_92 (by decide) ?_
                exact (sy_ireti hx hb hr hlocks hE hP hS dX7_ticketOf_101 ⟨Nat.le_of_ble_eq_true rfl, Nat.le_of_ble_eq_true rfl⟩ (by unfold fX7_ticketOf; rw [if_pos c_2, if_pos c_4, if_neg c_6, if_neg c_12, if_neg c_13, if_neg c_14, if_pos c_15] <;> rfl))
            · skip
              refine lv_aload_n hx hb dX7_ticketOf_73 rfl (lv_at hl 0 rfl) ?_
              refine sy_getRX7 hx hb hts hown hE hP 0 rfl 34 (by decide) (hts _ (u_in uk_4_224)) (v := .ref (ad 35)) rfl dX7_ticketOf_74 ?_
              refine lv_iload_n hx hb dX7_ticketOf_77 rfl (lv_at hl 1 rfl) ?_
              refine sy_ialdN hx hb hE hP 35 rfl (show vp_in x0 40 from (im_ticket hI c_2)) x0.toNatClampNeg rfl (v := g 35 x0.toNatClampNeg) rfl dX7_ticketOf_78 ?_
              refine lv_goto (tgt := 101) hx hb dX7_ticketOf_79 (by decide) ?_
              exact (sy_ireti hx hb hr hlocks hE hP hS dX7_ticketOf_101 ⟨Nat.le_of_ble_eq_true rfl, Nat.le_of_ble_eq_true rfl⟩ (by unfold fX7_ticketOf; rw [if_pos c_2, if_pos c_4, if_neg c_6, if_neg c_12, if_neg c_13, if_pos c_14] <;> rfl))
          · skip
            refine lv_aload_n hx hb dX7_ticketOf_59 rfl (lv_at hl 0 rfl) ?_
            refine sy_getRX7 hx hb hts hown hE hP 0 rfl 29 (by decide) (hts _ (u_in uk_4_219)) (v := .ref (ad 30)) rfl dX7_ticketOf_60 ?_
            refine lv_iload_n hx hb dX7_ticketOf_63 rfl (lv_at hl 1 rfl) ?_
            refine sy_ialdN hx hb hE hP 30 rfl (show vp_in x0 40 from (im_ticket hI c_2)) x0.toNatClampNeg rfl (v := g 30 x0.toNatClampNeg) rfl dX7_ticketOf_64 ?_
            refine lv_goto (tgt := 101) hx hb dX7_ticketOf_65 (by decide) ?_
            exact (sy_ireti hx hb hr hlocks hE hP hS dX7_ticketOf_101 ⟨Nat.le_of_ble_eq_true rfl, Nat.le_of_ble_eq_true rfl⟩ (by unfold fX7_ticketOf; rw [if_pos c_2, if_pos c_4, if_neg c_6, if_neg c_12, if_pos c_13] <;> rfl))
        · skip
          refine lv_aload_n hx hb dX7_ticketOf_45 rfl (lv_at hl 0 rfl) ?_
          refine sy_getRX7 hx hb hts hown hE hP 0 rfl 38 (by decide) (hts _ (u_in uk_4_228)) (v := .ref (ad 39)) rfl dX7_ticketOf_46 ?_
          refine lv_iload_n hx hb dX7_ticketOf_49 rfl (lv_at hl 1 rfl) ?_
          refine sy_ialdN hx hb hE hP 39 rfl (show vp_in x0 40 from (im_ticket hI c_2)) x0.toNatClampNeg rfl (v := g 39 x0.toNatClampNeg) rfl dX7_ticketOf_50 ?_
          refine lv_goto (tgt := 101) hx hb dX7_ticketOf_51 (by decide) ?_
          exact (sy_ireti hx hb hr hlocks hE hP hS dX7_ticketOf_101 ⟨Nat.le_of_ble_eq_true rfl, Nat.le_of_ble_eq_true rfl⟩ (by unfold fX7_ticketOf; rw [if_pos c_2, if_pos c_4, if_neg c_6, if_pos c_12] <;> rfl))
    · have c_4 := iB_0.mp c_4
      refine lv_iconst (v := 2) hx hb dX7_ticketOf_23 (by decide) ?_
      refine lv_goto (tgt := 28) hx hb dX7_ticketOf_24 (by decide) ?_
      refine sy_ki (sy_rV (o := 0) (As := [.int 2]) (rest := []) ⟨hx, hb, hml, hown, hts⟩ hE hP hS (nX7_refused l hfl Z nT nK cT cK ad g q 2) (cwV 1 hts (gu_V uk_5_104 uk_5_106 uk_0_17 uk_1_9 uk_5_107) rfl rfl rfl (by decide +kernel) ⟨Nat.le_of_ble_eq_true rfl, Nat.le_of_ble_eq_true rfl⟩) (sy_recv (kc := 8) hE hP rfl (by decide) rfl rfl rfl) rfl hl.1 rfl (Nat.le_of_ble_eq_true rfl) dX7_ticketOf_28 ⟨Nat.le_of_ble_eq_true rfl, Nat.le_of_ble_eq_true rfl⟩) hS (fun r_e_17 g_e_17 q_e_17 H locs e_17 hP hS => ?_)
      cases e_17
      refine sy_top (y := 1) (by rfl) ?_
      refine lv_if_eq (tgt := 36) hx hb dX7_ticketOf_31 (by decide) (fun c9 => absurd c9 (by decide)) (fun _ => ?_)
      refine lv_iconst (v := 0) hx hb dX7_ticketOf_34 (by decide) ?_
      exact (sy_ireti hx hb hr hlocks hE hP hS dX7_ticketOf_35 ⟨Nat.le_of_ble_eq_true rfl, Nat.le_of_ble_eq_true rfl⟩ (by unfold fX7_ticketOf; rw [if_pos c_2, if_neg c_4] <;> rfl))
  · have c_2 := iB_0.mp c_2
    refine lv_iconst (v := 1) hx hb dX7_ticketOf_9 (by decide) ?_
    refine lv_goto (tgt := 28) hx hb dX7_ticketOf_10 (by decide) ?_
    refine sy_ki (sy_rV (o := 0) (As := [.int 1]) (rest := []) ⟨hx, hb, hml, hown, hts⟩ hE hP hS (nX7_refused l hfl Z nT nK cT cK ad g q 1) (cwV 1 hts (gu_V uk_5_104 uk_5_106 uk_0_17 uk_1_9 uk_5_107) rfl rfl rfl (by decide +kernel) ⟨Nat.le_of_ble_eq_true rfl, Nat.le_of_ble_eq_true rfl⟩) (sy_recv (kc := 8) hE hP rfl (by decide) rfl rfl rfl) rfl hl.1 rfl (Nat.le_of_ble_eq_true rfl) dX7_ticketOf_28 ⟨Nat.le_of_ble_eq_true rfl, Nat.le_of_ble_eq_true rfl⟩) hS (fun r_e_18 g_e_18 q_e_18 H locs e_18 hP hS => ?_)
    cases e_18
    refine sy_top (y := 1) (by rfl) ?_
    refine lv_if_eq (tgt := 36) hx hb dX7_ticketOf_31 (by decide) (fun c9 => absurd c9 (by decide)) (fun _ => ?_)
    refine lv_iconst (v := 0) hx hb dX7_ticketOf_34 (by decide) ?_
    exact (sy_ireti hx hb hr hlocks hE hP hS dX7_ticketOf_35 ⟨Nat.le_of_ble_eq_true rfl, Nat.le_of_ble_eq_true rfl⟩ (by unfold fX7_ticketOf; rw [if_neg c_2] <;> rfl))
def fX7_interestAnew (g : sG) (q : sQ) (x0 : Int32) : Int32 × sG := (if 0 ≤ x0 ∧ x0 ≤ (g 0 28) - 1 then ((fX7_interest (sy_up g 0 0 0) q x0), (sy_up g 0 0 0)) else (0, (sy_up g 0 0 1)))
set_option maxHeartbeats 4000000 in
set_option maxRecDepth 100000 in
theorem mX7_interestAnew (l : Launch) (hfl : l.stackTraces = false) (Z : sZ) (nT nK cT cK : Nat) (ad : Nat → Nat) (g : sG) (q : sQ) (x0 : Int32) {mT mK : Nat} (hI : IM mT mK g) : sMi l Z yX7_interestAnew (uW (.code yX7_interestAnew cX7_interestAnew 2 (some .int))) { frames := 2, cells := 0, slots := 0, locals := 49 } [.ref (ad 0), .int x0] nT nK cT cK ad g q (fun r g1 q1 => (r, g1, q1) = ((fX7_interestAnew g q x0).1, (fX7_interestAnew g q x0).2, q)) := by
  refine Met.ofW (cc := cX7_interestAnew) (maxL := 2) (ret := (some .int)) (by decide) rfl ?_
  intro p e s m args below meth c s₁ B hml hv
  obtain ⟨rfl, hE, hP⟩ := hv
  have hx := B.exec
  have hb := B.bytes
  have hr := B.returns
  have hts := atoms_spec (ws := uW (.code yX7_interestAnew cX7_interestAnew 2 (some .int))) B.pre
  have hown : s.vm.findClass RX7 = some m.cls := findClass_of_methodNamed B.named
  have hlocks := B.notSynchronized
  have hS : va_S (sy_A Z) s.heap s.heap [] := va_S.rf
  have hl := lv_entry ([.ref (ad 0), .int x0]) (n := 2) (Nat.le_of_ble_eq_true rfl)
  rw [lg_entry_eq]
  generalize (lg_sl ([.ref (ad 0), .int x0]) ++ List.replicate (2 - (lg_sl ([.ref (ad 0), .int x0])).length) Slot.unset).toArray = ls at hl ⊢
  have hl : lv_has ls 2 [(0, .ref (ad 0)), (1, .int x0)] := hl
  refine lv_aload_n hx hb dX7_interestAnew_0 rfl (lv_at hl 0 rfl) ?_
  refine lv_aload_n hx hb dX7_interestAnew_1 rfl (lv_at hl 0 rfl) ?_
  refine lv_iload_n hx hb dX7_interestAnew_2 rfl (lv_at hl 1 rfl) ?_
  refine sy_ki (sy_rV (o := 0) (As := [.int x0]) (rest := [.ref (ad 0)]) ⟨hx, hb, hml, hown, hts⟩ hE hP hS (mX7_isTicket l hfl Z nT nK cT cK ad g q x0) (cwV 1 hts (gu_V uk_5_172 uk_5_174 uk_0_24 uk_1_9 uk_5_175) rfl rfl rfl (by decide +kernel) ⟨Nat.le_of_ble_eq_true rfl, Nat.le_of_ble_eq_true rfl⟩) (sy_recv (kc := 8) hE hP rfl (by decide) rfl rfl rfl) rfl hl.1 rfl (Nat.le_of_ble_eq_true rfl) dX7_interestAnew_3 ⟨Nat.le_of_ble_eq_true rfl, Nat.le_of_ble_eq_true rfl⟩) hS (fun r_e_1 g_e_1 q_e_1 H locs e_1 hP hS => ?_)
  cases e_1
  refine sy_top (y := (iB (0 ≤ x0 ∧ x0 ≤ (g 0 28) - 1))) (by rfl) ?_
  refine lv_if_eq (tgt := 13) hx hb dX7_interestAnew_6 (by decide) (fun c_2 => ?_) (fun c_2 => ?_)
  · have c_2 := iB_0.mp c_2
    refine lv_iconst (v := 1) hx hb dX7_interestAnew_13 (by decide) ?_
    refine sy_ki (sy_rV (o := 0) (As := [.int 1]) (rest := []) ⟨hx, hb, hml, hown, hts⟩ hE hP hS (nX7_refused l hfl Z nT nK cT cK ad g q 1) (cwV 1 hts (gu_V uk_5_104 uk_5_106 uk_0_17 uk_1_9 uk_5_107) rfl rfl rfl (by decide +kernel) ⟨Nat.le_of_ble_eq_true rfl, Nat.le_of_ble_eq_true rfl⟩) (sy_recv (kc := 8) hE hP rfl (by decide) rfl rfl rfl) rfl hl.1 rfl (Nat.le_of_ble_eq_true rfl) dX7_interestAnew_14 ⟨Nat.le_of_ble_eq_true rfl, Nat.le_of_ble_eq_true rfl⟩) hS (fun r_e_3 g_e_3 q_e_3 H locs e_3 hP hS => ?_)
    cases e_3
    refine sy_top (y := 1) (by rfl) ?_
    refine lv_if_eq (tgt := 24) hx hb dX7_interestAnew_17 (by decide) (fun c9 => absurd c9 (by decide)) (fun _ => ?_)
    refine lv_iconst (v := 0) hx hb dX7_interestAnew_20 (by decide) ?_
    refine lv_goto (tgt := 29) hx hb dX7_interestAnew_21 (by decide) ?_
    exact (sy_ireti hx hb hr hlocks hE hP hS dX7_interestAnew_29 ⟨Nat.le_of_ble_eq_true rfl, Nat.le_of_ble_eq_true rfl⟩ (by unfold fX7_interestAnew; rw [if_neg c_2] <;> rfl))
  · have c_2 := iB_n.mp c_2
    refine lv_iconst (v := 0) hx hb dX7_interestAnew_9 (by decide) ?_
    refine lv_goto (tgt := 14) hx hb dX7_interestAnew_10 (by decide) ?_
    refine sy_ki (sy_rV (o := 0) (As := [.int 0]) (rest := []) ⟨hx, hb, hml, hown, hts⟩ hE hP hS (nX7_refused l hfl Z nT nK cT cK ad g q 0) (cwV 1 hts (gu_V uk_5_104 uk_5_106 uk_0_17 uk_1_9 uk_5_107) rfl rfl rfl (by decide +kernel) ⟨Nat.le_of_ble_eq_true rfl, Nat.le_of_ble_eq_true rfl⟩) (sy_recv (kc := 8) hE hP rfl (by decide) rfl rfl rfl) rfl hl.1 rfl (Nat.le_of_ble_eq_true rfl) dX7_interestAnew_14 ⟨Nat.le_of_ble_eq_true rfl, Nat.le_of_ble_eq_true rfl⟩) hS (fun r_e_4 g_e_4 q_e_4 H locs e_4 hP hS => ?_)
    cases e_4
    refine sy_top (y := 0) (by rfl) ?_
    refine lv_if_eq (tgt := 24) hx hb dX7_interestAnew_17 (by decide) (fun _ => ?_) (fun c9 => absurd c9 (by decide))
    refine lv_aload_n hx hb dX7_interestAnew_24 rfl (lv_at hl 0 rfl) ?_
    refine lv_iload_n hx hb dX7_interestAnew_25 rfl (lv_at hl 1 rfl) ?_
    refine sy_ki (sy_rV (o := 0) (As := [.int x0]) (rest := []) ⟨hx, hb, hml, hown, hts⟩ hE hP hS (mX7_interest l hfl Z nT nK cT cK ad (sy_up g 0 0 0) q x0 (im_0 (by decide) hI) (show vp_in x0 40 from (im_ticket hI c_2))) (cwV 1 hts (gu_V uk_5_184 uk_5_186 uk_0_27 uk_1_9 uk_5_187) rfl rfl rfl (by decide +kernel) ⟨Nat.le_of_ble_eq_true rfl, Nat.le_of_ble_eq_true rfl⟩) (sy_recv (kc := 8) hE hP rfl (by decide) rfl rfl rfl) rfl hl.1 rfl (Nat.le_of_ble_eq_true rfl) dX7_interestAnew_26 ⟨Nat.le_of_ble_eq_true rfl, Nat.le_of_ble_eq_true rfl⟩) hS (fun r_e_5 g_e_5 q_e_5 H locs e_5 hP hS => ?_)
    cases e_5
    exact (sy_ireti hx hb hr hlocks hE hP hS dX7_interestAnew_29 ⟨Nat.le_of_ble_eq_true rfl, Nat.le_of_ble_eq_true rfl⟩ (by unfold fX7_interestAnew; rw [if_pos c_2] <;> rfl))
def fX7_expertOf (g : sG) (q : sQ) (x0 x1 : Int32) : Int32 × sG := (if 0 ≤ x0 ∧ x0 ≤ 3 then (if 0 ≤ x1 ∧ x1 ≤ 2 then (if x1 = 0 then ((g 15 x0.toNatClampNeg), (sy_up g 0 0 0)) else (if x1 = 1 then ((g 16 x0.toNatClampNeg), (sy_up g 0 0 0)) else ((g 17 x0.toNatClampNeg), (sy_up g 0 0 0)))) else (0, (sy_up g 0 0 2))) else (0, (sy_up g 0 0 1)))
set_option maxHeartbeats 4000000 in
set_option maxRecDepth 100000 in
theorem mX7_expertOf (l : Launch) (hfl : l.stackTraces = false) (Z : sZ) (nT nK cT cK : Nat) (ad : Nat → Nat) (g : sG) (q : sQ) (x0 x1 : Int32) {mT mK : Nat} (hI : IM mT mK g) : sMi l Z yX7_expertOf (uW (.code yX7_expertOf cX7_expertOf 3 (some .int))) { frames := 1, cells := 0, slots := 0, locals := 22 } [.ref (ad 0), .int x0, .int x1] nT nK cT cK ad g q (fun r g1 q1 => (r, g1, q1) = ((fX7_expertOf g q x0 x1).1, (fX7_expertOf g q x0 x1).2, q)) := by
  refine Met.ofW (cc := cX7_expertOf) (maxL := 3) (ret := (some .int)) (by decide) rfl ?_
  intro p e s m args below meth c s₁ B hml hv
  obtain ⟨rfl, hE, hP⟩ := hv
  have hx := B.exec
  have hb := B.bytes
  have hr := B.returns
  have hts := atoms_spec (ws := uW (.code yX7_expertOf cX7_expertOf 3 (some .int))) B.pre
  have hown : s.vm.findClass RX7 = some m.cls := findClass_of_methodNamed B.named
  have hlocks := B.notSynchronized
  have hS : va_S (sy_A Z) s.heap s.heap [] := va_S.rf
  have hl := lv_entry ([.ref (ad 0), .int x0, .int x1]) (n := 3) (Nat.le_of_ble_eq_true rfl)
  rw [lg_entry_eq]
  generalize (lg_sl ([.ref (ad 0), .int x0, .int x1]) ++ List.replicate (3 - (lg_sl ([.ref (ad 0), .int x0, .int x1])).length) Slot.unset).toArray = ls at hl ⊢
  have hl : lv_has ls 3 [(0, .ref (ad 0)), (1, .int x0), (2, .int x1)] := hl
  refine lv_aload_n hx hb dX7_expertOf_0 rfl (lv_at hl 0 rfl) ?_
  refine lv_iload_n hx hb dX7_expertOf_1 rfl (lv_at hl 1 rfl) ?_
  refine lv_iconst (v := 0) hx hb dX7_expertOf_2 (by decide) ?_
  refine lv_iconst (v := 3) hx hb dX7_expertOf_3 (by decide) ?_
  refine sy_ki (sy_rS (As := [.int x0, .int 0, .int 3]) (rest := [.ref (ad 0)]) ⟨hx, hb, hml, hown, hts⟩ hE hP hS (nX7_is l hfl Z nT nK cT cK ad g q x0 0 3) (va_cwS 3 hts (gu_S uk_5_101 uk_5_102 uk_1_9 uk_5_103) rfl rfl rfl (by decide +kernel) ⟨Nat.le_of_ble_eq_true rfl, Nat.le_of_ble_eq_true rfl⟩) rfl hl.1 rfl (Nat.le_of_ble_eq_true rfl) dX7_expertOf_4 ⟨Nat.le_of_ble_eq_true rfl, Nat.le_of_ble_eq_true rfl⟩) hS (fun r_e_1 g_e_1 q_e_1 H locs e_1 hP hS => ?_)
  cases e_1
  refine lv_if_ne (tgt := 14) hx hb dX7_expertOf_7 (by decide) (fun c_2 => ?_) (fun c_2 => ?_)
  · have c_2 := iB_n.mp c_2
    refine lv_iload_n hx hb dX7_expertOf_14 rfl (lv_at hl 2 rfl) ?_
    refine lv_iconst (v := 0) hx hb dX7_expertOf_15 (by decide) ?_
    refine lv_iconst (v := 2) hx hb dX7_expertOf_16 (by decide) ?_
    refine sy_ki (sy_rS (As := [.int x1, .int 0, .int 2]) (rest := [.ref (ad 0)]) ⟨hx, hb, hml, hown, hts⟩ hE hP hS (nX7_is l hfl Z nT nK cT cK ad g q x1 0 2) (va_cwS 3 hts (gu_S uk_5_101 uk_5_102 uk_1_9 uk_5_103) rfl rfl rfl (by decide +kernel) ⟨Nat.le_of_ble_eq_true rfl, Nat.le_of_ble_eq_true rfl⟩) rfl hl.1 rfl (Nat.le_of_ble_eq_true rfl) dX7_expertOf_17 ⟨Nat.le_of_ble_eq_true rfl, Nat.le_of_ble_eq_true rfl⟩) hS (fun r_e_3 g_e_3 q_e_3 H locs e_3 hP hS => ?_)
    cases e_3
    refine lv_if_ne (tgt := 27) hx hb dX7_expertOf_20 (by decide) (fun c_4 => ?_) (fun c_4 => ?_)
    · have c_4 := iB_n.mp c_4
      refine lv_iconst (v := 0) hx hb dX7_expertOf_27 (by decide) ?_
      refine sy_ki (sy_rV (o := 0) (As := [.int 0]) (rest := []) ⟨hx, hb, hml, hown, hts⟩ hE hP hS (nX7_refused l hfl Z nT nK cT cK ad g q 0) (cwV 1 hts (gu_V uk_5_104 uk_5_106 uk_0_17 uk_1_9 uk_5_107) rfl rfl rfl (by decide +kernel) ⟨Nat.le_of_ble_eq_true rfl, Nat.le_of_ble_eq_true rfl⟩) (sy_recv (kc := 8) hE hP rfl (by decide) rfl rfl rfl) rfl hl.1 rfl (Nat.le_of_ble_eq_true rfl) dX7_expertOf_28 ⟨Nat.le_of_ble_eq_true rfl, Nat.le_of_ble_eq_true rfl⟩) hS (fun r_e_5 g_e_5 q_e_5 H locs e_5 hP hS => ?_)
      cases e_5
      refine sy_top (y := 0) (by rfl) ?_
      refine lv_if_eq (tgt := 36) hx hb dX7_expertOf_31 (by decide) (fun _ => ?_) (fun c9 => absurd c9 (by decide))
      refine lv_iload_n hx hb dX7_expertOf_36 rfl (lv_at hl 2 rfl) ?_
      refine lv_if_ne (tgt := 49) hx hb dX7_expertOf_37 (by decide) (fun c_6 => ?_) (fun c_6 => ?_)
      · skip
        refine lv_iload_n hx hb dX7_expertOf_49 rfl (lv_at hl 2 rfl) ?_
        refine lv_iconst (v := 1) hx hb dX7_expertOf_50 (by decide) ?_
        refine lv_icmp_ne (tgt := 63) hx hb dX7_expertOf_51 (by decide) (fun c_7 => ?_) (fun c_7 => ?_)
        · skip
          refine lv_aload_n hx hb dX7_expertOf_63 rfl (lv_at hl 0 rfl) ?_
          refine sy_getRX7 hx hb hts hown hE hP 0 rfl 16 (by decide) (hts _ (u_in uk_4_206)) (v := .ref (ad 17)) rfl dX7_expertOf_64 ?_
          refine lv_iload_n hx hb dX7_expertOf_67 rfl (lv_at hl 1 rfl) ?_
          refine sy_ialdN hx hb hE hP 17 rfl (show vp_in x0 4 from (vp_in_c c_2 (by decide))) x0.toNatClampNeg rfl (v := g 17 x0.toNatClampNeg) rfl dX7_expertOf_68 ?_
          exact (sy_ireti hx hb hr hlocks hE hP hS dX7_expertOf_69 ⟨Nat.le_of_ble_eq_true rfl, Nat.le_of_ble_eq_true rfl⟩ (by unfold fX7_expertOf; rw [if_pos c_2, if_pos c_4, if_neg c_6, if_neg c_7] <;> rfl))
        · skip
          refine lv_aload_n hx hb dX7_expertOf_54 rfl (lv_at hl 0 rfl) ?_
          refine sy_getRX7 hx hb hts hown hE hP 0 rfl 15 (by decide) (hts _ (u_in uk_4_205)) (v := .ref (ad 16)) rfl dX7_expertOf_55 ?_
          refine lv_iload_n hx hb dX7_expertOf_58 rfl (lv_at hl 1 rfl) ?_
          refine sy_ialdN hx hb hE hP 16 rfl (show vp_in x0 4 from (vp_in_c c_2 (by decide))) x0.toNatClampNeg rfl (v := g 16 x0.toNatClampNeg) rfl dX7_expertOf_59 ?_
          refine lv_goto (tgt := 69) hx hb dX7_expertOf_60 (by decide) ?_
          exact (sy_ireti hx hb hr hlocks hE hP hS dX7_expertOf_69 ⟨Nat.le_of_ble_eq_true rfl, Nat.le_of_ble_eq_true rfl⟩ (by unfold fX7_expertOf; rw [if_pos c_2, if_pos c_4, if_neg c_6, if_pos c_7] <;> rfl))
      · skip
        refine lv_aload_n hx hb dX7_expertOf_40 rfl (lv_at hl 0 rfl) ?_
        refine sy_getRX7 hx hb hts hown hE hP 0 rfl 14 (by decide) (hts _ (u_in uk_4_204)) (v := .ref (ad 15)) rfl dX7_expertOf_41 ?_
        refine lv_iload_n hx hb dX7_expertOf_44 rfl (lv_at hl 1 rfl) ?_
        refine sy_ialdN hx hb hE hP 15 rfl (show vp_in x0 4 from (vp_in_c c_2 (by decide))) x0.toNatClampNeg rfl (v := g 15 x0.toNatClampNeg) rfl dX7_expertOf_45 ?_
        refine lv_goto (tgt := 69) hx hb dX7_expertOf_46 (by decide) ?_
        exact (sy_ireti hx hb hr hlocks hE hP hS dX7_expertOf_69 ⟨Nat.le_of_ble_eq_true rfl, Nat.le_of_ble_eq_true rfl⟩ (by unfold fX7_expertOf; rw [if_pos c_2, if_pos c_4, if_pos c_6] <;> rfl))
    · have c_4 := iB_0.mp c_4
      refine lv_iconst (v := 2) hx hb dX7_expertOf_23 (by decide) ?_
      refine lv_goto (tgt := 28) hx hb dX7_expertOf_24 (by decide) ?_
      refine sy_ki (sy_rV (o := 0) (As := [.int 2]) (rest := []) ⟨hx, hb, hml, hown, hts⟩ hE hP hS (nX7_refused l hfl Z nT nK cT cK ad g q 2) (cwV 1 hts (gu_V uk_5_104 uk_5_106 uk_0_17 uk_1_9 uk_5_107) rfl rfl rfl (by decide +kernel) ⟨Nat.le_of_ble_eq_true rfl, Nat.le_of_ble_eq_true rfl⟩) (sy_recv (kc := 8) hE hP rfl (by decide) rfl rfl rfl) rfl hl.1 rfl (Nat.le_of_ble_eq_true rfl) dX7_expertOf_28 ⟨Nat.le_of_ble_eq_true rfl, Nat.le_of_ble_eq_true rfl⟩) hS (fun r_e_8 g_e_8 q_e_8 H locs e_8 hP hS => ?_)
      cases e_8
      refine sy_top (y := 1) (by rfl) ?_
      refine lv_if_eq (tgt := 36) hx hb dX7_expertOf_31 (by decide) (fun c9 => absurd c9 (by decide)) (fun _ => ?_)
      refine lv_iconst (v := 0) hx hb dX7_expertOf_34 (by decide) ?_
      exact (sy_ireti hx hb hr hlocks hE hP hS dX7_expertOf_35 ⟨Nat.le_of_ble_eq_true rfl, Nat.le_of_ble_eq_true rfl⟩ (by unfold fX7_expertOf; rw [if_pos c_2, if_neg c_4] <;> rfl))
  · have c_2 := iB_0.mp c_2
    refine lv_iconst (v := 1) hx hb dX7_expertOf_10 (by decide) ?_
    refine lv_goto (tgt := 28) hx hb dX7_expertOf_11 (by decide) ?_
    refine sy_ki (sy_rV (o := 0) (As := [.int 1]) (rest := []) ⟨hx, hb, hml, hown, hts⟩ hE hP hS (nX7_refused l hfl Z nT nK cT cK ad g q 1) (cwV 1 hts (gu_V uk_5_104 uk_5_106 uk_0_17 uk_1_9 uk_5_107) rfl rfl rfl (by decide +kernel) ⟨Nat.le_of_ble_eq_true rfl, Nat.le_of_ble_eq_true rfl⟩) (sy_recv (kc := 8) hE hP rfl (by decide) rfl rfl rfl) rfl hl.1 rfl (Nat.le_of_ble_eq_true rfl) dX7_expertOf_28 ⟨Nat.le_of_ble_eq_true rfl, Nat.le_of_ble_eq_true rfl⟩) hS (fun r_e_9 g_e_9 q_e_9 H locs e_9 hP hS => ?_)
    cases e_9
    refine sy_top (y := 1) (by rfl) ?_
    refine lv_if_eq (tgt := 36) hx hb dX7_expertOf_31 (by decide) (fun c9 => absurd c9 (by decide)) (fun _ => ?_)
    refine lv_iconst (v := 0) hx hb dX7_expertOf_34 (by decide) ?_
    exact (sy_ireti hx hb hr hlocks hE hP hS dX7_expertOf_35 ⟨Nat.le_of_ble_eq_true rfl, Nat.le_of_ble_eq_true rfl⟩ (by unfold fX7_expertOf; rw [if_neg c_2] <;> rfl))
def fX7_bears (g : sG) (q : sQ) (x0 x1 : Int32) : Int32 × sG := (if 0 ≤ x0 ∧ x0 ≤ 2 then (if 0 ≤ x1 ∧ x1 ≤ 3 then ((fX7_rest (sy_up g 0 0 0) q ((4 * x0) + x1) (-1)), (sy_up g 0 0 0)) else (0, (sy_up g 0 0 1))) else (0, (sy_up g 0 0 1)))
set_option maxHeartbeats 4000000 in
set_option maxRecDepth 100000 in
theorem mX7_bears (l : Launch) (hfl : l.stackTraces = false) (Z : sZ) (nT nK cT cK : Nat) (ad : Nat → Nat) (g : sG) (q : sQ) (x0 x1 : Int32) {mT mK : Nat} (hI : IM mT mK g) : sMi l Z yX7_bears (uW (.code yX7_bears cX7_bears 3 (some .int))) { frames := 1, cells := 0, slots := 0, locals := 24 } [.ref (ad 0), .int x0, .int x1] nT nK cT cK ad g q (fun r g1 q1 => (r, g1, q1) = ((fX7_bears g q x0 x1).1, (fX7_bears g q x0 x1).2, q)) := by
  refine Met.ofW (cc := cX7_bears) (maxL := 3) (ret := (some .int)) (by decide) rfl ?_
  intro p e s m args below meth c s₁ B hml hv
  obtain ⟨rfl, hE, hP⟩ := hv
  have hx := B.exec
  have hb := B.bytes
  have hr := B.returns
  have hts := atoms_spec (ws := uW (.code yX7_bears cX7_bears 3 (some .int))) B.pre
  have hown : s.vm.findClass RX7 = some m.cls := findClass_of_methodNamed B.named
  have hlocks := B.notSynchronized
  have hS : va_S (sy_A Z) s.heap s.heap [] := va_S.rf
  have hl := lv_entry ([.ref (ad 0), .int x0, .int x1]) (n := 3) (Nat.le_of_ble_eq_true rfl)
  rw [lg_entry_eq]
  generalize (lg_sl ([.ref (ad 0), .int x0, .int x1]) ++ List.replicate (3 - (lg_sl ([.ref (ad 0), .int x0, .int x1])).length) Slot.unset).toArray = ls at hl ⊢
  have hl : lv_has ls 3 [(0, .ref (ad 0)), (1, .int x0), (2, .int x1)] := hl
  refine lv_aload_n hx hb dX7_bears_0 rfl (lv_at hl 0 rfl) ?_
  refine lv_iload_n hx hb dX7_bears_1 rfl (lv_at hl 1 rfl) ?_
  refine lv_iconst (v := 0) hx hb dX7_bears_2 (by decide) ?_
  refine lv_iconst (v := 2) hx hb dX7_bears_3 (by decide) ?_
  refine sy_ki (sy_rS (As := [.int x0, .int 0, .int 2]) (rest := [.ref (ad 0)]) ⟨hx, hb, hml, hown, hts⟩ hE hP hS (nX7_is l hfl Z nT nK cT cK ad g q x0 0 2) (va_cwS 3 hts (gu_S uk_5_101 uk_5_102 uk_1_9 uk_5_103) rfl rfl rfl (by decide +kernel) ⟨Nat.le_of_ble_eq_true rfl, Nat.le_of_ble_eq_true rfl⟩) rfl hl.1 rfl (Nat.le_of_ble_eq_true rfl) dX7_bears_4 ⟨Nat.le_of_ble_eq_true rfl, Nat.le_of_ble_eq_true rfl⟩) hS (fun r_e_1 g_e_1 q_e_1 H locs e_1 hP hS => ?_)
  cases e_1
  refine lv_if_eq (tgt := 23) hx hb dX7_bears_7 (by decide) (fun c_2 => ?_) (fun c_2 => ?_)
  · have c_2 := iB_0.mp c_2
    refine lv_iconst (v := 1) hx hb dX7_bears_23 (by decide) ?_
    refine sy_ki (sy_rV (o := 0) (As := [.int 1]) (rest := []) ⟨hx, hb, hml, hown, hts⟩ hE hP hS (nX7_refused l hfl Z nT nK cT cK ad g q 1) (cwV 1 hts (gu_V uk_5_104 uk_5_106 uk_0_17 uk_1_9 uk_5_107) rfl rfl rfl (by decide +kernel) ⟨Nat.le_of_ble_eq_true rfl, Nat.le_of_ble_eq_true rfl⟩) (sy_recv (kc := 8) hE hP rfl (by decide) rfl rfl rfl) rfl hl.1 rfl (Nat.le_of_ble_eq_true rfl) dX7_bears_24 ⟨Nat.le_of_ble_eq_true rfl, Nat.le_of_ble_eq_true rfl⟩) hS (fun r_e_3 g_e_3 q_e_3 H locs e_3 hP hS => ?_)
    cases e_3
    refine sy_top (y := 1) (by rfl) ?_
    refine lv_if_eq (tgt := 34) hx hb dX7_bears_27 (by decide) (fun c9 => absurd c9 (by decide)) (fun _ => ?_)
    refine lv_iconst (v := 0) hx hb dX7_bears_30 (by decide) ?_
    refine lv_goto (tgt := 44) hx hb dX7_bears_31 (by decide) ?_
    exact (sy_ireti hx hb hr hlocks hE hP hS dX7_bears_44 ⟨Nat.le_of_ble_eq_true rfl, Nat.le_of_ble_eq_true rfl⟩ (by unfold fX7_bears; rw [if_neg c_2] <;> rfl))
  · have c_2 := iB_n.mp c_2
    refine lv_iload_n hx hb dX7_bears_10 rfl (lv_at hl 2 rfl) ?_
    refine lv_iconst (v := 0) hx hb dX7_bears_11 (by decide) ?_
    refine lv_iconst (v := 3) hx hb dX7_bears_12 (by decide) ?_
    refine sy_ki (sy_rS (As := [.int x1, .int 0, .int 3]) (rest := [.ref (ad 0)]) ⟨hx, hb, hml, hown, hts⟩ hE hP hS (nX7_is l hfl Z nT nK cT cK ad g q x1 0 3) (va_cwS 3 hts (gu_S uk_5_101 uk_5_102 uk_1_9 uk_5_103) rfl rfl rfl (by decide +kernel) ⟨Nat.le_of_ble_eq_true rfl, Nat.le_of_ble_eq_true rfl⟩) rfl hl.1 rfl (Nat.le_of_ble_eq_true rfl) dX7_bears_13 ⟨Nat.le_of_ble_eq_true rfl, Nat.le_of_ble_eq_true rfl⟩) hS (fun r_e_4 g_e_4 q_e_4 H locs e_4 hP hS => ?_)
    cases e_4
    refine lv_if_eq (tgt := 23) hx hb dX7_bears_16 (by decide) (fun c_5 => ?_) (fun c_5 => ?_)
    · have c_5 := iB_0.mp c_5
      refine lv_iconst (v := 1) hx hb dX7_bears_23 (by decide) ?_
      refine sy_ki (sy_rV (o := 0) (As := [.int 1]) (rest := []) ⟨hx, hb, hml, hown, hts⟩ hE hP hS (nX7_refused l hfl Z nT nK cT cK ad g q 1) (cwV 1 hts (gu_V uk_5_104 uk_5_106 uk_0_17 uk_1_9 uk_5_107) rfl rfl rfl (by decide +kernel) ⟨Nat.le_of_ble_eq_true rfl, Nat.le_of_ble_eq_true rfl⟩) (sy_recv (kc := 8) hE hP rfl (by decide) rfl rfl rfl) rfl hl.1 rfl (Nat.le_of_ble_eq_true rfl) dX7_bears_24 ⟨Nat.le_of_ble_eq_true rfl, Nat.le_of_ble_eq_true rfl⟩) hS (fun r_e_6 g_e_6 q_e_6 H locs e_6 hP hS => ?_)
      cases e_6
      refine sy_top (y := 1) (by rfl) ?_
      refine lv_if_eq (tgt := 34) hx hb dX7_bears_27 (by decide) (fun c9 => absurd c9 (by decide)) (fun _ => ?_)
      refine lv_iconst (v := 0) hx hb dX7_bears_30 (by decide) ?_
      refine lv_goto (tgt := 44) hx hb dX7_bears_31 (by decide) ?_
      exact (sy_ireti hx hb hr hlocks hE hP hS dX7_bears_44 ⟨Nat.le_of_ble_eq_true rfl, Nat.le_of_ble_eq_true rfl⟩ (by unfold fX7_bears; rw [if_pos c_2, if_neg c_5] <;> rfl))
    · have c_5 := iB_n.mp c_5
      refine lv_iconst (v := 0) hx hb dX7_bears_19 (by decide) ?_
      refine lv_goto (tgt := 24) hx hb dX7_bears_20 (by decide) ?_
      refine sy_ki (sy_rV (o := 0) (As := [.int 0]) (rest := []) ⟨hx, hb, hml, hown, hts⟩ hE hP hS (nX7_refused l hfl Z nT nK cT cK ad g q 0) (cwV 1 hts (gu_V uk_5_104 uk_5_106 uk_0_17 uk_1_9 uk_5_107) rfl rfl rfl (by decide +kernel) ⟨Nat.le_of_ble_eq_true rfl, Nat.le_of_ble_eq_true rfl⟩) (sy_recv (kc := 8) hE hP rfl (by decide) rfl rfl rfl) rfl hl.1 rfl (Nat.le_of_ble_eq_true rfl) dX7_bears_24 ⟨Nat.le_of_ble_eq_true rfl, Nat.le_of_ble_eq_true rfl⟩) hS (fun r_e_7 g_e_7 q_e_7 H locs e_7 hP hS => ?_)
      cases e_7
      refine sy_top (y := 0) (by rfl) ?_
      refine lv_if_eq (tgt := 34) hx hb dX7_bears_27 (by decide) (fun _ => ?_) (fun c9 => absurd c9 (by decide))
      refine lv_aload_n hx hb dX7_bears_34 rfl (lv_at hl 0 rfl) ?_
      refine lv_iconst (v := 4) hx hb dX7_bears_35 (by decide) ?_
      refine lv_iload_n hx hb dX7_bears_36 rfl (lv_at hl 1 rfl) ?_
      refine lv_imul hx hb dX7_bears_37 ?_
      refine lv_iload_n hx hb dX7_bears_38 rfl (lv_at hl 2 rfl) ?_
      refine lv_iadd hx hb dX7_bears_39 ?_
      refine lv_iconst (v := (-1)) hx hb dX7_bears_40 (by decide) ?_
      refine sy_ki (sy_rV (o := 0) (As := [.int ((4 * x0) + x1), .int (-1)]) (rest := []) ⟨hx, hb, hml, hown, hts⟩ hE hP hS (mX7_rest l hfl Z nT nK cT cK ad (sy_up g 0 0 0) q ((4 * x0) + x1) (-1) (im_0 (by decide) hI)) (cwV 2 hts (gu_V uk_5_164 uk_5_166 uk_0_23 uk_1_9 uk_5_167) rfl rfl rfl (by decide +kernel) ⟨Nat.le_of_ble_eq_true rfl, Nat.le_of_ble_eq_true rfl⟩) (sy_recv (kc := 8) hE hP rfl (by decide) rfl rfl rfl) rfl hl.1 rfl (Nat.le_of_ble_eq_true rfl) dX7_bears_41 ⟨Nat.le_of_ble_eq_true rfl, Nat.le_of_ble_eq_true rfl⟩) hS (fun r_e_8 g_e_8 q_e_8 H locs e_8 hP hS => ?_)
      cases e_8
      exact (sy_ireti hx hb hr hlocks hE hP hS dX7_bears_44 ⟨Nat.le_of_ble_eq_true rfl, Nat.le_of_ble_eq_true rfl⟩ (by unfold fX7_bears; rw [if_pos c_2, if_pos c_5] <;> rfl))
def fX7_money (g : sG) (q : sQ) (x0 : Int32) : Int32 × sG := (if 0 ≤ x0 ∧ x0 ≤ 3 then (if x0 = 0 then ((g 0 44), (sy_up g 0 0 0)) else (if x0 = 1 then ((g 0 45), (sy_up g 0 0 0)) else (if x0 = 2 then (((g 0 44) - (g 0 45)), (sy_up g 0 0 0)) else ((g 0 46), (sy_up g 0 0 0))))) else (0, (sy_up g 0 0 1)))
set_option maxHeartbeats 4000000 in
set_option maxRecDepth 100000 in
theorem mX7_money (l : Launch) (hfl : l.stackTraces = false) (Z : sZ) (nT nK cT cK : Nat) (ad : Nat → Nat) (g : sG) (q : sQ) (x0 : Int32) {mT mK : Nat} (hI : IM mT mK g) : sMi l Z yX7_money (uW (.code yX7_money cX7_money 2 (some .int))) { frames := 1, cells := 0, slots := 0, locals := 22 } [.ref (ad 0), .int x0] nT nK cT cK ad g q (fun r g1 q1 => (r, g1, q1) = ((fX7_money g q x0).1, (fX7_money g q x0).2, q)) := by
  refine Met.ofW (cc := cX7_money) (maxL := 2) (ret := (some .int)) (by decide) rfl ?_
  intro p e s m args below meth c s₁ B hml hv
  obtain ⟨rfl, hE, hP⟩ := hv
  have hx := B.exec
  have hb := B.bytes
  have hr := B.returns
  have hts := atoms_spec (ws := uW (.code yX7_money cX7_money 2 (some .int))) B.pre
  have hown : s.vm.findClass RX7 = some m.cls := findClass_of_methodNamed B.named
  have hlocks := B.notSynchronized
  have hS : va_S (sy_A Z) s.heap s.heap [] := va_S.rf
  have hl := lv_entry ([.ref (ad 0), .int x0]) (n := 2) (Nat.le_of_ble_eq_true rfl)
  rw [lg_entry_eq]
  generalize (lg_sl ([.ref (ad 0), .int x0]) ++ List.replicate (2 - (lg_sl ([.ref (ad 0), .int x0])).length) Slot.unset).toArray = ls at hl ⊢
  have hl : lv_has ls 2 [(0, .ref (ad 0)), (1, .int x0)] := hl
  refine lv_aload_n hx hb dX7_money_0 rfl (lv_at hl 0 rfl) ?_
  refine lv_iload_n hx hb dX7_money_1 rfl (lv_at hl 1 rfl) ?_
  refine lv_iconst (v := 0) hx hb dX7_money_2 (by decide) ?_
  refine lv_iconst (v := 3) hx hb dX7_money_3 (by decide) ?_
  refine sy_ki (sy_rS (As := [.int x0, .int 0, .int 3]) (rest := [.ref (ad 0)]) ⟨hx, hb, hml, hown, hts⟩ hE hP hS (nX7_is l hfl Z nT nK cT cK ad g q x0 0 3) (va_cwS 3 hts (gu_S uk_5_101 uk_5_102 uk_1_9 uk_5_103) rfl rfl rfl (by decide +kernel) ⟨Nat.le_of_ble_eq_true rfl, Nat.le_of_ble_eq_true rfl⟩) rfl hl.1 rfl (Nat.le_of_ble_eq_true rfl) dX7_money_4 ⟨Nat.le_of_ble_eq_true rfl, Nat.le_of_ble_eq_true rfl⟩) hS (fun r_e_1 g_e_1 q_e_1 H locs e_1 hP hS => ?_)
  cases e_1
  refine lv_if_eq (tgt := 14) hx hb dX7_money_7 (by decide) (fun c_2 => ?_) (fun c_2 => ?_)
  · have c_2 := iB_0.mp c_2
    refine lv_iconst (v := 1) hx hb dX7_money_14 (by decide) ?_
    refine sy_ki (sy_rV (o := 0) (As := [.int 1]) (rest := []) ⟨hx, hb, hml, hown, hts⟩ hE hP hS (nX7_refused l hfl Z nT nK cT cK ad g q 1) (cwV 1 hts (gu_V uk_5_104 uk_5_106 uk_0_17 uk_1_9 uk_5_107) rfl rfl rfl (by decide +kernel) ⟨Nat.le_of_ble_eq_true rfl, Nat.le_of_ble_eq_true rfl⟩) (sy_recv (kc := 8) hE hP rfl (by decide) rfl rfl rfl) rfl hl.1 rfl (Nat.le_of_ble_eq_true rfl) dX7_money_15 ⟨Nat.le_of_ble_eq_true rfl, Nat.le_of_ble_eq_true rfl⟩) hS (fun r_e_3 g_e_3 q_e_3 H locs e_3 hP hS => ?_)
    cases e_3
    refine sy_top (y := 1) (by rfl) ?_
    refine lv_if_eq (tgt := 23) hx hb dX7_money_18 (by decide) (fun c9 => absurd c9 (by decide)) (fun _ => ?_)
    refine lv_iconst (v := 0) hx hb dX7_money_21 (by decide) ?_
    exact (sy_ireti hx hb hr hlocks hE hP hS dX7_money_22 ⟨Nat.le_of_ble_eq_true rfl, Nat.le_of_ble_eq_true rfl⟩ (by unfold fX7_money; rw [if_neg c_2] <;> rfl))
  · have c_2 := iB_n.mp c_2
    refine lv_iconst (v := 0) hx hb dX7_money_10 (by decide) ?_
    refine lv_goto (tgt := 15) hx hb dX7_money_11 (by decide) ?_
    refine sy_ki (sy_rV (o := 0) (As := [.int 0]) (rest := []) ⟨hx, hb, hml, hown, hts⟩ hE hP hS (nX7_refused l hfl Z nT nK cT cK ad g q 0) (cwV 1 hts (gu_V uk_5_104 uk_5_106 uk_0_17 uk_1_9 uk_5_107) rfl rfl rfl (by decide +kernel) ⟨Nat.le_of_ble_eq_true rfl, Nat.le_of_ble_eq_true rfl⟩) (sy_recv (kc := 8) hE hP rfl (by decide) rfl rfl rfl) rfl hl.1 rfl (Nat.le_of_ble_eq_true rfl) dX7_money_15 ⟨Nat.le_of_ble_eq_true rfl, Nat.le_of_ble_eq_true rfl⟩) hS (fun r_e_4 g_e_4 q_e_4 H locs e_4 hP hS => ?_)
    cases e_4
    refine sy_top (y := 0) (by rfl) ?_
    refine lv_if_eq (tgt := 23) hx hb dX7_money_18 (by decide) (fun _ => ?_) (fun c9 => absurd c9 (by decide))
    refine lv_iload_n hx hb dX7_money_23 rfl (lv_at hl 1 rfl) ?_
    refine lv_if_ne (tgt := 34) hx hb dX7_money_24 (by decide) (fun c_5 => ?_) (fun c_5 => ?_)
    · skip
      refine lv_iload_n hx hb dX7_money_34 rfl (lv_at hl 1 rfl) ?_
      refine lv_iconst (v := 1) hx hb dX7_money_35 (by decide) ?_
      refine lv_icmp_ne (tgt := 46) hx hb dX7_money_36 (by decide) (fun c_6 => ?_) (fun c_6 => ?_)
      · skip
        refine lv_iload_n hx hb dX7_money_46 rfl (lv_at hl 1 rfl) ?_
        refine lv_iconst (v := 2) hx hb dX7_money_47 (by decide) ?_
        refine lv_icmp_ne (tgt := 63) hx hb dX7_money_48 (by decide) (fun c_7 => ?_) (fun c_7 => ?_)
        · skip
          refine lv_aload_n hx hb dX7_money_63 rfl (lv_at hl 0 rfl) ?_
          refine sy_getRX7 hx hb hts hown hE hP 0 rfl 46 (by decide) (hts _ (u_in uk_4_236)) (v := .int (g 0 46)) rfl dX7_money_64 ?_
          exact (sy_ireti hx hb hr hlocks hE hP hS dX7_money_67 ⟨Nat.le_of_ble_eq_true rfl, Nat.le_of_ble_eq_true rfl⟩ (by unfold fX7_money; rw [if_pos c_2, if_neg c_5, if_neg c_6, if_neg c_7] <;> rfl))
        · skip
          refine lv_aload_n hx hb dX7_money_51 rfl (lv_at hl 0 rfl) ?_
          refine sy_getRX7 hx hb hts hown hE hP 0 rfl 44 (by decide) (hts _ (u_in uk_4_234)) (v := .int (g 0 44)) rfl dX7_money_52 ?_
          refine lv_aload_n hx hb dX7_money_55 rfl (lv_at hl 0 rfl) ?_
          refine sy_getRX7 hx hb hts hown hE hP 0 rfl 45 (by decide) (hts _ (u_in uk_4_235)) (v := .int (g 0 45)) rfl dX7_money_56 ?_
          refine lv_isub hx hb dX7_money_59 ?_
          refine lv_goto (tgt := 67) hx hb dX7_money_60 (by decide) ?_
          exact (sy_ireti hx hb hr hlocks hE hP hS dX7_money_67 ⟨Nat.le_of_ble_eq_true rfl, Nat.le_of_ble_eq_true rfl⟩ (by unfold fX7_money; rw [if_pos c_2, if_neg c_5, if_neg c_6, if_pos c_7] <;> rfl))
      · skip
        refine lv_aload_n hx hb dX7_money_39 rfl (lv_at hl 0 rfl) ?_
        refine sy_getRX7 hx hb hts hown hE hP 0 rfl 45 (by decide) (hts _ (u_in uk_4_235)) (v := .int (g 0 45)) rfl dX7_money_40 ?_
        refine lv_goto (tgt := 67) hx hb dX7_money_43 (by decide) ?_
        exact (sy_ireti hx hb hr hlocks hE hP hS dX7_money_67 ⟨Nat.le_of_ble_eq_true rfl, Nat.le_of_ble_eq_true rfl⟩ (by unfold fX7_money; rw [if_pos c_2, if_neg c_5, if_pos c_6] <;> rfl))
    · skip
      refine lv_aload_n hx hb dX7_money_27 rfl (lv_at hl 0 rfl) ?_
      refine sy_getRX7 hx hb hts hown hE hP 0 rfl 44 (by decide) (hts _ (u_in uk_4_234)) (v := .int (g 0 44)) rfl dX7_money_28 ?_
      refine lv_goto (tgt := 67) hx hb dX7_money_31 (by decide) ?_
      exact (sy_ireti hx hb hr hlocks hE hP hS dX7_money_67 ⟨Nat.le_of_ble_eq_true rfl, Nat.le_of_ble_eq_true rfl⟩ (by unfold fX7_money; rw [if_pos c_2, if_pos c_5] <;> rfl))
def fX7_pledge (g : sG) (q : sQ) (x0 x1 x2 x3 x4 x5 : Int32) : Int32 × sG := (if 0 ≤ x0 ∧ x0 ≤ 9 then (if 0 ≤ x1 ∧ x1 ≤ (g 0 2) - 1 then (if 0 ≤ x2 ∧ x2 ≤ 3 then (if 0 ≤ x3 ∧ x3 ≤ 2 then (if 1 ≤ x4 ∧ x4 ≤ 100000 then (if (((((fX7_valueNow (sy_up g 0 0 0) q x1) * (100 + (g 15 x2.toNatClampNeg))) / 100) * (g 19 ((g 18 x0.toNatClampNeg).toNatClampNeg))) / 100) < x4 then (0, (sy_up (sy_up g 0 0 0) 0 0 3)) else (if ((g 0 44) - (g 0 45)) < x4 then (0, (sy_up (sy_up g 0 0 0) 0 0 3)) else (if (g 20 ((g 18 x0.toNatClampNeg).toNatClampNeg)) < ((fX7_owes (sy_up g 0 0 0) q x0) + x4) then (0, (sy_up (sy_up g 0 0 0) 0 0 3)) else (if (g 8 x1.toNatClampNeg) = 0 then (if (g 9 x1.toNatClampNeg) = 0 then (if (fX7_shelfFor (sy_up g 0 0 0) q x1 x3) = (-1) then (0, (sy_up (sy_up g 0 0 0) 0 0 3)) else (if (g 0 28) = 40 then (0, (sy_up (sy_up g 0 0 0) 0 0 3)) else ((g 0 28), (sy_up (sy_up (sy_up (sy_up (sy_up (sy_up (sy_up (sy_up (sy_up (sy_up (sy_up (sy_up (sy_up (sy_up (sy_up (sy_up (sy_up (sy_up g 0 0 0) 0 0 0) 0 28 ((g 0 28) + 1)) 30 ((g 0 28).toNatClampNeg) x1) 31 ((g 0 28).toNatClampNeg) x2) 32 ((g 0 28).toNatClampNeg) x0) 33 ((g 0 28).toNatClampNeg) x0) 34 ((g 0 28).toNatClampNeg) x5) 35 ((g 0 28).toNatClampNeg) x4) 36 ((g 0 28).toNatClampNeg) (((fX7_valueNow (sy_up g 0 0 0) q x1) * (100 + (g 15 x2.toNatClampNeg))) / 100)) 37 ((g 0 28).toNatClampNeg) (g 0 1)) 38 ((g 0 28).toNatClampNeg) (g 0 27)) 0 44 ((g 0 44) - x4)) 8 x1.toNatClampNeg 1) 10 x1.toNatClampNeg ((4 * x3) + (fX7_shelfFor (sy_up g 0 0 0) q x1 x3))) 11 x1.toNatClampNeg ((4 * x3) + (fX7_shelfFor (sy_up g 0 0 0) q x1 x3))) 12 x1.toNatClampNeg (g 0 1)) 13 x1.toNatClampNeg (g 0 1))))) else (0, (sy_up (sy_up g 0 0 0) 0 0 3))) else (0, (sy_up (sy_up g 0 0 0) 0 0 3)))))) else (0, (sy_up g 0 0 2))) else (0, (sy_up g 0 0 1))) else (0, (sy_up g 0 0 1))) else (0, (sy_up g 0 0 1))) else (0, (sy_up g 0 0 1)))
set_option maxHeartbeats 4000000 in
set_option maxRecDepth 100000 in
theorem mX7_pledge (l : Launch) (hfl : l.stackTraces = false) (Z : sZ) (nT nK cT cK : Nat) (ad : Nat → Nat) (g : sG) (q : sQ) (x0 x1 x2 x3 x4 x5 : Int32) {mT mK : Nat} (hI : IM mT mK g) (hb5 : x5 &&& 1 = x5) : sMi l Z yX7_pledge (uW (.code yX7_pledge cX7_pledge 13 (some .int))) { frames := 2, cells := 0, slots := 0, locals := 48 } [.ref (ad 0), .int x0, .int x1, .int x2, .int x3, .int x4, .int x5] nT nK cT cK ad g q (fun r g1 q1 => (r, g1, q1) = ((fX7_pledge g q x0 x1 x2 x3 x4 x5).1, (fX7_pledge g q x0 x1 x2 x3 x4 x5).2, q)) := by
  refine Met.ofW (cc := cX7_pledge) (maxL := 13) (ret := (some .int)) (by decide) rfl ?_
  intro p e s m args below meth c s₁ B hml hv
  obtain ⟨rfl, hE, hP⟩ := hv
  have hx := B.exec
  have hb := B.bytes
  have hr := B.returns
  have hts := atoms_spec (ws := uW (.code yX7_pledge cX7_pledge 13 (some .int))) B.pre
  have hown : s.vm.findClass RX7 = some m.cls := findClass_of_methodNamed B.named
  have hlocks := B.notSynchronized
  have hS : va_S (sy_A Z) s.heap s.heap [] := va_S.rf
  have hl := lv_entry ([.ref (ad 0), .int x0, .int x1, .int x2, .int x3, .int x4, .int x5]) (n := 13) (Nat.le_of_ble_eq_true rfl)
  rw [lg_entry_eq]
  generalize (lg_sl ([.ref (ad 0), .int x0, .int x1, .int x2, .int x3, .int x4, .int x5]) ++ List.replicate (13 - (lg_sl ([.ref (ad 0), .int x0, .int x1, .int x2, .int x3, .int x4, .int x5])).length) Slot.unset).toArray = ls at hl ⊢
  have hl : lv_has ls 13 [(0, .ref (ad 0)), (1, .int x0), (2, .int x1), (3, .int x2), (4, .int x3), (5, .int x4), (6, .int x5)] := hl
  have K_1 : (0 ≤ x0 ∧ x0 ≤ 9) → (0 ≤ x1 ∧ x1 ≤ (g 0 2) - 1) → (0 ≤ x2 ∧ x2 ≤ 3) → (0 ≤ x3 ∧ x3 ≤ 2) → (1 ≤ x4 ∧ x4 ≤ 100000) → ((((((fX7_valueNow (sy_up g 0 0 0) q x1) * (100 + (g 15 x2.toNatClampNeg))) / 100) * (g 19 ((g 18 x0.toNatClampNeg).toNatClampNeg))) / 100) < x4) → ∀ (H : Heap) (locs : List Loc) (ls : Array Slot), Sy Z nT nK cT cK ad (sy_up g 0 0 0) q H → va_S (sy_A Z) s.heap H locs → lv_has ls 13 [(9, .int (g 18 x0.toNatClampNeg)), (8, .int (((fX7_valueNow (sy_up g 0 0 0) q x1) * (100 + (g 15 x2.toNatClampNeg))) / 100)), (7, .int 1), (0, .ref (ad 0)), (1, .int x0), (2, .int x1), (3, .int x2), (4, .int x3), (5, .int x4), (6, .int x5)] → W p l e ({ frames := 2, cells := 0, slots := 0, locals := 48 } : Room) s m ([.ref (ad 0), .int x0, .int x1, .int x2, .int x3, .int x4, .int x5] : List Value).toArray below meth c H locs 0 0 (MQ below (sQi Z nT nK cT cK ad (fun r g1 q1 => (r, g1, q1) = ((fX7_pledge g q x0 x1 x2 x3 x4 x5).1, (fX7_pledge g q x0 x1 x2 x3 x4 x5).2, q))) ([.ref (ad 0), .int x0, .int x1, .int x2, .int x3, .int x4, .int x5] : List Value).toArray s 0 0 (sy_A Z)) (F0 m 158 ls [.int 0]) := by
    intro c_2 c_5 c_8 c_11 c_14 c_17 H locs ls hP hS hl
    refine lv_istore (lv' := [(10, .int 0), (9, .int (g 18 x0.toNatClampNeg)), (8, .int (((fX7_valueNow (sy_up g 0 0 0) q x1) * (100 + (g 15 x2.toNatClampNeg))) / 100)), (7, .int 1), (0, .ref (ad 0)), (1, .int x0), (2, .int x1), (3, .int x2), (4, .int x3), (5, .int x4), (6, .int x5)]) hx hb dX7_pledge_158 hl (by decide) rfl (fun ls hl => ?_)
    refine lv_aload_n hx hb dX7_pledge_160 rfl (lv_at hl 4 rfl) ?_
    refine lv_iload_n hx hb dX7_pledge_161 rfl (lv_at hl 6 rfl) ?_
    refine lv_iload hx hb dX7_pledge_162 (lv_at hl 8 rfl) ?_
    refine sy_ki (sy_rV (o := 0) (As := [.int x1, .int x3]) (rest := []) ⟨hx, hb, hml, hown, hts⟩ hE hP hS (mX7_shelfFor l hfl Z nT nK cT cK ad (sy_up g 0 0 0) q x1 x3 (im_0 (by decide) hI) (show vp_in x1 40 from (im_thing hI c_5))) (cwV 2 hts (gu_V uk_5_160 uk_5_162 uk_0_22 uk_1_9 uk_5_163) rfl rfl rfl (by decide +kernel) ⟨Nat.le_of_ble_eq_true rfl, Nat.le_of_ble_eq_true rfl⟩) (sy_recv (kc := 8) hE hP rfl (by decide) rfl rfl rfl) rfl hl.1 rfl (Nat.le_of_ble_eq_true rfl) dX7_pledge_164 ⟨Nat.le_of_ble_eq_true rfl, Nat.le_of_ble_eq_true rfl⟩) hS (fun r_e_18 g_e_18 q_e_18 H locs e_18 hP hS => ?_)
    cases e_18
    refine lv_istore (lv' := [(11, .int (fX7_shelfFor (sy_up g 0 0 0) q x1 x3)), (10, .int 0), (9, .int (g 18 x0.toNatClampNeg)), (8, .int (((fX7_valueNow (sy_up g 0 0 0) q x1) * (100 + (g 15 x2.toNatClampNeg))) / 100)), (7, .int 1), (0, .ref (ad 0)), (1, .int x0), (2, .int x1), (3, .int x2), (4, .int x3), (5, .int x4), (6, .int x5)]) hx hb dX7_pledge_167 hl (by decide) rfl (fun ls hl => ?_)
    refine lv_aload_n hx hb dX7_pledge_169 rfl (lv_at hl 5 rfl) ?_
    refine lv_iload hx hb dX7_pledge_170 (lv_at hl 1 rfl) ?_
    refine lv_if_eq (tgt := 208) hx hb dX7_pledge_172 (by decide) (fun _ => ?_) (fun c9 => absurd c9 (by decide))
    refine lv_iconst (v := 3) hx hb dX7_pledge_208 (by decide) ?_
    refine lv_goto (tgt := 213) hx hb dX7_pledge_209 (by decide) ?_
    refine sy_ki (sy_rV (o := 0) (As := [.int 3]) (rest := []) ⟨hx, hb, hml, hown, hts⟩ hE hP hS (nX7_refused l hfl Z nT nK cT cK ad (sy_up g 0 0 0) q 3) (cwV 1 hts (gu_V uk_5_104 uk_5_106 uk_0_17 uk_1_9 uk_5_107) rfl rfl rfl (by decide +kernel) ⟨Nat.le_of_ble_eq_true rfl, Nat.le_of_ble_eq_true rfl⟩) (sy_recv (kc := 8) hE hP rfl (by decide) rfl rfl rfl) rfl hl.1 rfl (Nat.le_of_ble_eq_true rfl) dX7_pledge_213 ⟨Nat.le_of_ble_eq_true rfl, Nat.le_of_ble_eq_true rfl⟩) hS (fun r_e_19 g_e_19 q_e_19 H locs e_19 hP hS => ?_)
    cases e_19
    refine sy_top (y := 1) (by rfl) ?_
    refine lv_if_eq (tgt := 221) hx hb dX7_pledge_216 (by decide) (fun c9 => absurd c9 (by decide)) (fun _ => ?_)
    refine lv_iconst (v := 0) hx hb dX7_pledge_219 (by decide) ?_
    exact (sy_ireti hx hb hr hlocks hE hP hS dX7_pledge_220 ⟨Nat.le_of_ble_eq_true rfl, Nat.le_of_ble_eq_true rfl⟩ (by unfold fX7_pledge; rw [if_pos c_2, if_pos c_5, if_pos c_8, if_pos c_11, if_pos c_14, if_pos c_17] <;> rfl))
  have K_4 : (0 ≤ x0 ∧ x0 ≤ 9) → (0 ≤ x1 ∧ x1 ≤ (g 0 2) - 1) → (0 ≤ x2 ∧ x2 ≤ 3) → (0 ≤ x3 ∧ x3 ≤ 2) → (1 ≤ x4 ∧ x4 ≤ 100000) → (¬ ((((((fX7_valueNow (sy_up g 0 0 0) q x1) * (100 + (g 15 x2.toNatClampNeg))) / 100) * (g 19 ((g 18 x0.toNatClampNeg).toNatClampNeg))) / 100) < x4)) → (¬ (((g 0 44) - (g 0 45)) < x4)) → (¬ ((g 20 ((g 18 x0.toNatClampNeg).toNatClampNeg)) < ((fX7_owes (sy_up g 0 0 0) q x0) + x4))) → ((g 8 x1.toNatClampNeg) = 0) → ((g 9 x1.toNatClampNeg) = 0) → (¬ ((fX7_shelfFor (sy_up g 0 0 0) q x1 x3) = (-1))) → (¬ ((g 0 28) = 40)) → ∀ (H : Heap) (locs : List Loc) (ls : Array Slot), Sy Z nT nK cT cK ad (sy_up (sy_up (sy_up (sy_up (sy_up (sy_up (sy_up (sy_up (sy_up (sy_up (sy_up (sy_up (sy_up (sy_up g 0 0 0) 0 0 0) 0 28 ((g 0 28) + 1)) 30 ((g 0 28).toNatClampNeg) x1) 31 ((g 0 28).toNatClampNeg) x2) 32 ((g 0 28).toNatClampNeg) x0) 33 ((g 0 28).toNatClampNeg) x0) 34 ((g 0 28).toNatClampNeg) x5) 35 ((g 0 28).toNatClampNeg) x4) 36 ((g 0 28).toNatClampNeg) (((fX7_valueNow (sy_up g 0 0 0) q x1) * (100 + (g 15 x2.toNatClampNeg))) / 100)) 37 ((g 0 28).toNatClampNeg) (g 0 1)) 38 ((g 0 28).toNatClampNeg) (g 0 27)) 0 44 ((g 0 44) - x4)) 8 x1.toNatClampNeg 1) q H → va_S (sy_A Z) s.heap H locs → lv_has ls 13 [(12, .int (g 0 28)), (11, .int (fX7_shelfFor (sy_up g 0 0 0) q x1 x3)), (10, .int 1), (9, .int (g 18 x0.toNatClampNeg)), (8, .int (((fX7_valueNow (sy_up g 0 0 0) q x1) * (100 + (g 15 x2.toNatClampNeg))) / 100)), (7, .int 1), (0, .ref (ad 0)), (1, .int x0), (2, .int x1), (3, .int x2), (4, .int x3), (5, .int x4), (6, .int x5)] → W p l e ({ frames := 2, cells := 0, slots := 0, locals := 48 } : Room) s m ([.ref (ad 0), .int x0, .int x1, .int x2, .int x3, .int x4, .int x5] : List Value).toArray below meth c H locs 0 0 (MQ below (sQi Z nT nK cT cK ad (fun r g1 q1 => (r, g1, q1) = ((fX7_pledge g q x0 x1 x2 x3 x4 x5).1, (fX7_pledge g q x0 x1 x2 x3 x4 x5).2, q))) ([.ref (ad 0), .int x0, .int x1, .int x2, .int x3, .int x4, .int x5] : List Value).toArray s 0 0 (sy_A Z)) (F0 m 345 ls [.int (4 * x3), .int x1, .ref (ad 10)]) := by
    intro c_2 c_5 c_8 c_11 c_14 c_17 c_20 c_24 c_28 c_30 c_32 c_34 H locs ls hP hS hl
    refine lv_iload hx hb dX7_pledge_345 (lv_at hl 1 rfl) ?_
    refine lv_iadd hx hb dX7_pledge_347 ?_
    refine sy_iastN hx hb hE hP hS 10 rfl (show vp_in x1 40 from (im_thing hI c_5)) x1.toNatClampNeg rfl dX7_pledge_348 (fun H locs hP hS => ?_)
    refine lv_aload_n hx hb dX7_pledge_349 rfl (lv_at hl 6 rfl) ?_
    refine sy_getRX7 hx hb hts hown hE hP 0 rfl 10 (by decide) (hts _ (u_in uk_4_200)) (v := .ref (ad 11)) rfl dX7_pledge_350 ?_
    refine lv_iload_n hx hb dX7_pledge_353 rfl (lv_at hl 8 rfl) ?_
    refine lv_iconst (v := 4) hx hb dX7_pledge_354 (by decide) ?_
    refine lv_iload hx hb dX7_pledge_355 (lv_at hl 10 rfl) ?_
    refine lv_imul hx hb dX7_pledge_357 ?_
    refine lv_iload hx hb dX7_pledge_358 (lv_at hl 1 rfl) ?_
    refine lv_iadd hx hb dX7_pledge_360 ?_
    refine sy_iastN hx hb hE hP hS 11 rfl (show vp_in x1 40 from (im_thing hI c_5)) x1.toNatClampNeg rfl dX7_pledge_361 (fun H locs hP hS => ?_)
    refine lv_aload_n hx hb dX7_pledge_362 rfl (lv_at hl 6 rfl) ?_
    refine sy_getRX7 hx hb hts hown hE hP 0 rfl 11 (by decide) (hts _ (u_in uk_4_201)) (v := .ref (ad 12)) rfl dX7_pledge_363 ?_
    refine lv_iload_n hx hb dX7_pledge_366 rfl (lv_at hl 8 rfl) ?_
    refine lv_aload_n hx hb dX7_pledge_367 rfl (lv_at hl 6 rfl) ?_
    refine sy_getRX7 hx hb hts hown hE hP 0 rfl 1 (by decide) (hts _ (u_in uk_4_191)) (v := .int (g 0 1)) rfl dX7_pledge_368 ?_
    refine sy_iastN hx hb hE hP hS 12 rfl (show vp_in x1 40 from (im_thing hI c_5)) x1.toNatClampNeg rfl dX7_pledge_371 (fun H locs hP hS => ?_)
    refine lv_aload_n hx hb dX7_pledge_372 rfl (lv_at hl 6 rfl) ?_
    refine sy_getRX7 hx hb hts hown hE hP 0 rfl 12 (by decide) (hts _ (u_in uk_4_202)) (v := .ref (ad 13)) rfl dX7_pledge_373 ?_
    refine lv_iload_n hx hb dX7_pledge_376 rfl (lv_at hl 8 rfl) ?_
    refine lv_aload_n hx hb dX7_pledge_377 rfl (lv_at hl 6 rfl) ?_
    refine sy_getRX7 hx hb hts hown hE hP 0 rfl 1 (by decide) (hts _ (u_in uk_4_191)) (v := .int (g 0 1)) rfl dX7_pledge_378 ?_
    refine sy_iastN hx hb hE hP hS 13 rfl (show vp_in x1 40 from (im_thing hI c_5)) x1.toNatClampNeg rfl dX7_pledge_381 (fun H locs hP hS => ?_)
    refine lv_iload hx hb dX7_pledge_382 (lv_at hl 0 rfl) ?_
    exact (sy_ireti hx hb hr hlocks hE hP hS dX7_pledge_384 ⟨Nat.le_of_ble_eq_true rfl, Nat.le_of_ble_eq_true rfl⟩ (by unfold fX7_pledge; rw [if_pos c_2, if_pos c_5, if_pos c_8, if_pos c_11, if_pos c_14, if_neg c_17, if_neg c_20, if_neg c_24, if_pos c_28, if_pos c_30, if_neg c_32, if_neg c_34] <;> rfl))
  have K_3 : (0 ≤ x0 ∧ x0 ≤ 9) → (0 ≤ x1 ∧ x1 ≤ (g 0 2) - 1) → (0 ≤ x2 ∧ x2 ≤ 3) → (0 ≤ x3 ∧ x3 ≤ 2) → (1 ≤ x4 ∧ x4 ≤ 100000) → (¬ ((((((fX7_valueNow (sy_up g 0 0 0) q x1) * (100 + (g 15 x2.toNatClampNeg))) / 100) * (g 19 ((g 18 x0.toNatClampNeg).toNatClampNeg))) / 100) < x4)) → (¬ (((g 0 44) - (g 0 45)) < x4)) → (¬ ((g 20 ((g 18 x0.toNatClampNeg).toNatClampNeg)) < ((fX7_owes (sy_up g 0 0 0) q x0) + x4))) → ((g 8 x1.toNatClampNeg) = 0) → ((g 9 x1.toNatClampNeg) = 0) → (¬ ((fX7_shelfFor (sy_up g 0 0 0) q x1 x3) = (-1))) → (¬ ((g 0 28) = 40)) → ∀ (H : Heap) (locs : List Loc) (ls : Array Slot), Sy Z nT nK cT cK ad (sy_up (sy_up (sy_up g 0 0 0) 0 0 0) 0 28 ((g 0 28) + 1)) q H → va_S (sy_A Z) s.heap H locs → lv_has ls 13 [(12, .int (g 0 28)), (11, .int (fX7_shelfFor (sy_up g 0 0 0) q x1 x3)), (10, .int 1), (9, .int (g 18 x0.toNatClampNeg)), (8, .int (((fX7_valueNow (sy_up g 0 0 0) q x1) * (100 + (g 15 x2.toNatClampNeg))) / 100)), (7, .int 1), (0, .ref (ad 0)), (1, .int x0), (2, .int x1), (3, .int x2), (4, .int x3), (5, .int x4), (6, .int x5)] → W p l e ({ frames := 2, cells := 0, slots := 0, locals := 48 } : Room) s m ([.ref (ad 0), .int x0, .int x1, .int x2, .int x3, .int x4, .int x5] : List Value).toArray below meth c H locs 0 0 (MQ below (sQi Z nT nK cT cK ad (fun r g1 q1 => (r, g1, q1) = ((fX7_pledge g q x0 x1 x2 x3 x4 x5).1, (fX7_pledge g q x0 x1 x2 x3 x4 x5).2, q))) ([.ref (ad 0), .int x0, .int x1, .int x2, .int x3, .int x4, .int x5] : List Value).toArray s 0 0 (sy_A Z)) (F0 m 244 ls [.int x1, .int (g 0 28), .ref (ad 30)]) := by
    intro c_2 c_5 c_8 c_11 c_14 c_17 c_20 c_24 c_28 c_30 c_32 c_34 H locs ls hP hS hl
    refine sy_iastN hx hb hE hP hS 30 rfl (show vp_in (g 0 28) 40 from (vp_in_full hI.2.2.1 hI.2.2.2.1 (by decide) c_34)) ((g 0 28).toNatClampNeg) rfl dX7_pledge_244 (fun H locs hP hS => ?_)
    refine lv_aload_n hx hb dX7_pledge_245 rfl (lv_at hl 6 rfl) ?_
    refine sy_getRX7 hx hb hts hown hE hP 0 rfl 30 (by decide) (hts _ (u_in uk_4_220)) (v := .ref (ad 31)) rfl dX7_pledge_246 ?_
    refine lv_iload hx hb dX7_pledge_249 (lv_at hl 0 rfl) ?_
    refine lv_iload_n hx hb dX7_pledge_251 rfl (lv_at hl 9 rfl) ?_
    refine sy_iastN hx hb hE hP hS 31 rfl (show vp_in (g 0 28) 40 from (vp_in_full hI.2.2.1 hI.2.2.2.1 (by decide) c_34)) ((g 0 28).toNatClampNeg) rfl dX7_pledge_252 (fun H locs hP hS => ?_)
    refine lv_aload_n hx hb dX7_pledge_253 rfl (lv_at hl 6 rfl) ?_
    refine sy_getRX7 hx hb hts hown hE hP 0 rfl 31 (by decide) (hts _ (u_in uk_4_221)) (v := .ref (ad 32)) rfl dX7_pledge_254 ?_
    refine lv_iload hx hb dX7_pledge_257 (lv_at hl 0 rfl) ?_
    refine lv_iload_n hx hb dX7_pledge_259 rfl (lv_at hl 7 rfl) ?_
    refine sy_iastN hx hb hE hP hS 32 rfl (show vp_in (g 0 28) 40 from (vp_in_full hI.2.2.1 hI.2.2.2.1 (by decide) c_34)) ((g 0 28).toNatClampNeg) rfl dX7_pledge_260 (fun H locs hP hS => ?_)
    refine lv_aload_n hx hb dX7_pledge_261 rfl (lv_at hl 6 rfl) ?_
    refine sy_getRX7 hx hb hts hown hE hP 0 rfl 32 (by decide) (hts _ (u_in uk_4_222)) (v := .ref (ad 33)) rfl dX7_pledge_262 ?_
    refine lv_iload hx hb dX7_pledge_265 (lv_at hl 0 rfl) ?_
    refine lv_iload_n hx hb dX7_pledge_267 rfl (lv_at hl 7 rfl) ?_
    refine sy_iastN hx hb hE hP hS 33 rfl (show vp_in (g 0 28) 40 from (vp_in_full hI.2.2.1 hI.2.2.2.1 (by decide) c_34)) ((g 0 28).toNatClampNeg) rfl dX7_pledge_268 (fun H locs hP hS => ?_)
    refine lv_aload_n hx hb dX7_pledge_269 rfl (lv_at hl 6 rfl) ?_
    refine sy_getRX7 hx hb hts hown hE hP 0 rfl 33 (by decide) (hts _ (u_in uk_4_223)) (v := .ref (ad 34)) rfl dX7_pledge_270 ?_
    refine lv_iload hx hb dX7_pledge_273 (lv_at hl 0 rfl) ?_
    refine lv_iload hx hb dX7_pledge_275 (lv_at hl 12 rfl) ?_
    refine sy_zastN hx hb hE hP hS 34 rfl (show vp_in (g 0 28) 40 from (vp_in_full hI.2.2.1 hI.2.2.2.1 (by decide) c_34)) hb5 ((g 0 28).toNatClampNeg) rfl dX7_pledge_277 (fun H locs hP hS => ?_)
    refine lv_aload_n hx hb dX7_pledge_278 rfl (lv_at hl 6 rfl) ?_
    refine sy_getRX7 hx hb hts hown hE hP 0 rfl 34 (by decide) (hts _ (u_in uk_4_224)) (v := .ref (ad 35)) rfl dX7_pledge_279 ?_
    refine lv_iload hx hb dX7_pledge_282 (lv_at hl 0 rfl) ?_
    refine lv_iload hx hb dX7_pledge_284 (lv_at hl 11 rfl) ?_
    refine sy_iastN hx hb hE hP hS 35 rfl (show vp_in (g 0 28) 40 from (vp_in_full hI.2.2.1 hI.2.2.2.1 (by decide) c_34)) ((g 0 28).toNatClampNeg) rfl dX7_pledge_286 (fun H locs hP hS => ?_)
    refine lv_aload_n hx hb dX7_pledge_287 rfl (lv_at hl 6 rfl) ?_
    refine sy_getRX7 hx hb hts hown hE hP 0 rfl 35 (by decide) (hts _ (u_in uk_4_225)) (v := .ref (ad 36)) rfl dX7_pledge_288 ?_
    refine lv_iload hx hb dX7_pledge_291 (lv_at hl 0 rfl) ?_
    refine lv_iload hx hb dX7_pledge_293 (lv_at hl 4 rfl) ?_
    refine sy_iastN hx hb hE hP hS 36 rfl (show vp_in (g 0 28) 40 from (vp_in_full hI.2.2.1 hI.2.2.2.1 (by decide) c_34)) ((g 0 28).toNatClampNeg) rfl dX7_pledge_295 (fun H locs hP hS => ?_)
    refine lv_aload_n hx hb dX7_pledge_296 rfl (lv_at hl 6 rfl) ?_
    refine sy_getRX7 hx hb hts hown hE hP 0 rfl 36 (by decide) (hts _ (u_in uk_4_226)) (v := .ref (ad 37)) rfl dX7_pledge_297 ?_
    refine lv_iload hx hb dX7_pledge_300 (lv_at hl 0 rfl) ?_
    refine lv_aload_n hx hb dX7_pledge_302 rfl (lv_at hl 6 rfl) ?_
    refine sy_getRX7 hx hb hts hown hE hP 0 rfl 1 (by decide) (hts _ (u_in uk_4_191)) (v := .int (g 0 1)) rfl dX7_pledge_303 ?_
    refine sy_iastN hx hb hE hP hS 37 rfl (show vp_in (g 0 28) 40 from (vp_in_full hI.2.2.1 hI.2.2.2.1 (by decide) c_34)) ((g 0 28).toNatClampNeg) rfl dX7_pledge_306 (fun H locs hP hS => ?_)
    refine lv_aload_n hx hb dX7_pledge_307 rfl (lv_at hl 6 rfl) ?_
    refine sy_getRX7 hx hb hts hown hE hP 0 rfl 37 (by decide) (hts _ (u_in uk_4_227)) (v := .ref (ad 38)) rfl dX7_pledge_308 ?_
    refine lv_iload hx hb dX7_pledge_311 (lv_at hl 0 rfl) ?_
    refine lv_aload_n hx hb dX7_pledge_313 rfl (lv_at hl 6 rfl) ?_
    refine sy_getRX7 hx hb hts hown hE hP 0 rfl 27 (by decide) (hts _ (u_in uk_4_217)) (v := .int (g 0 27)) rfl dX7_pledge_314 ?_
    refine sy_iastN hx hb hE hP hS 38 rfl (show vp_in (g 0 28) 40 from (vp_in_full hI.2.2.1 hI.2.2.2.1 (by decide) c_34)) ((g 0 28).toNatClampNeg) rfl dX7_pledge_317 (fun H locs hP hS => ?_)
    refine lv_aload_n hx hb dX7_pledge_318 rfl (lv_at hl 6 rfl) ?_
    refine lv_dup hx hb dX7_pledge_319 rfl ?_
    refine sy_getRX7 hx hb hts hown hE hP 0 rfl 44 (by decide) (hts _ (u_in uk_4_234)) (v := .int (g 0 44)) rfl dX7_pledge_320 ?_
    refine lv_iload hx hb dX7_pledge_323 (lv_at hl 11 rfl) ?_
    refine lv_isub hx hb dX7_pledge_325 ?_
    refine sy_putRX7 hx hb hts hown hE hP hS 0 rfl 44 (by decide) (hts _ (u_in uk_4_234)) rfl (ty := .int) (by decide +kernel) rfl rfl (sy_up (sy_up (sy_up (sy_up (sy_up (sy_up (sy_up (sy_up (sy_up (sy_up (sy_up (sy_up (sy_up g 0 0 0) 0 0 0) 0 28 ((g 0 28) + 1)) 30 ((g 0 28).toNatClampNeg) x1) 31 ((g 0 28).toNatClampNeg) x2) 32 ((g 0 28).toNatClampNeg) x0) 33 ((g 0 28).toNatClampNeg) x0) 34 ((g 0 28).toNatClampNeg) x5) 35 ((g 0 28).toNatClampNeg) x4) 36 ((g 0 28).toNatClampNeg) (((fX7_valueNow (sy_up g 0 0 0) q x1) * (100 + (g 15 x2.toNatClampNeg))) / 100)) 37 ((g 0 28).toNatClampNeg) (g 0 1)) 38 ((g 0 28).toNatClampNeg) (g 0 27)) 0 44 ((g 0 44) - x4)) q (by rw [sy_up_s (sy_up (sy_up (sy_up (sy_up (sy_up (sy_up (sy_up (sy_up (sy_up (sy_up (sy_up (sy_up g 0 0 0) 0 0 0) 0 28 ((g 0 28) + 1)) 30 ((g 0 28).toNatClampNeg) x1) 31 ((g 0 28).toNatClampNeg) x2) 32 ((g 0 28).toNatClampNeg) x0) 33 ((g 0 28).toNatClampNeg) x0) 34 ((g 0 28).toNatClampNeg) x5) 35 ((g 0 28).toNatClampNeg) x4) 36 ((g 0 28).toNatClampNeg) (((fX7_valueNow (sy_up g 0 0 0) q x1) * (100 + (g 15 x2.toNatClampNeg))) / 100)) 37 ((g 0 28).toNatClampNeg) (g 0 1)) 38 ((g 0 28).toNatClampNeg) (g 0 27)) 0 44 ((g 0 44) - x4)]; exact se_RX7_44 _ _ _ _ _ _ _) (fun _ h9 => sy_up_o _ _ _ h9) (fun _ _ => rfl) dX7_pledge_326 (fun H locs hP hS => ?_)
    refine lv_aload_n hx hb dX7_pledge_329 rfl (lv_at hl 6 rfl) ?_
    refine sy_getRX7 hx hb hts hown hE hP 0 rfl 7 (by decide) (hts _ (u_in uk_4_197)) (v := .ref (ad 8)) rfl dX7_pledge_330 ?_
    refine lv_iload_n hx hb dX7_pledge_333 rfl (lv_at hl 8 rfl) ?_
    refine lv_iconst (v := 1) hx hb dX7_pledge_334 (by decide) ?_
    refine sy_zastN hx hb hE hP hS 8 rfl (show vp_in x1 40 from (im_thing hI c_5)) (by decide) x1.toNatClampNeg rfl dX7_pledge_335 (fun H locs hP hS => ?_)
    refine lv_aload_n hx hb dX7_pledge_336 rfl (lv_at hl 6 rfl) ?_
    refine sy_getRX7 hx hb hts hown hE hP 0 rfl 9 (by decide) (hts _ (u_in uk_4_199)) (v := .ref (ad 10)) rfl dX7_pledge_337 ?_
    refine lv_iload_n hx hb dX7_pledge_340 rfl (lv_at hl 8 rfl) ?_
    refine lv_iconst (v := 4) hx hb dX7_pledge_341 (by decide) ?_
    refine lv_iload hx hb dX7_pledge_342 (lv_at hl 10 rfl) ?_
    refine lv_imul hx hb dX7_pledge_344 ?_
    exact K_4 c_2 c_5 c_8 c_11 c_14 c_17 c_20 c_24 c_28 c_30 c_32 c_34 _ _ _ hP hS hl
  have K_2 : (0 ≤ x0 ∧ x0 ≤ 9) → (0 ≤ x1 ∧ x1 ≤ (g 0 2) - 1) → (0 ≤ x2 ∧ x2 ≤ 3) → (0 ≤ x3 ∧ x3 ≤ 2) → (1 ≤ x4 ∧ x4 ≤ 100000) → (¬ ((((((fX7_valueNow (sy_up g 0 0 0) q x1) * (100 + (g 15 x2.toNatClampNeg))) / 100) * (g 19 ((g 18 x0.toNatClampNeg).toNatClampNeg))) / 100) < x4)) → ∀ (H : Heap) (locs : List Loc) (ls : Array Slot), Sy Z nT nK cT cK ad (sy_up g 0 0 0) q H → va_S (sy_A Z) s.heap H locs → lv_has ls 13 [(9, .int (g 18 x0.toNatClampNeg)), (8, .int (((fX7_valueNow (sy_up g 0 0 0) q x1) * (100 + (g 15 x2.toNatClampNeg))) / 100)), (7, .int 1), (0, .ref (ad 0)), (1, .int x0), (2, .int x1), (3, .int x2), (4, .int x3), (5, .int x4), (6, .int x5)] → W p l e ({ frames := 2, cells := 0, slots := 0, locals := 48 } : Room) s m ([.ref (ad 0), .int x0, .int x1, .int x2, .int x3, .int x4, .int x5] : List Value).toArray below meth c H locs 0 0 (MQ below (sQi Z nT nK cT cK ad (fun r g1 q1 => (r, g1, q1) = ((fX7_pledge g q x0 x1 x2 x3 x4 x5).1, (fX7_pledge g q x0 x1 x2 x3 x4 x5).2, q))) ([.ref (ad 0), .int x0, .int x1, .int x2, .int x3, .int x4, .int x5] : List Value).toArray s 0 0 (sy_A Z)) (F0 m 123 ls [.int x4]) := by
    intro c_2 c_5 c_8 c_11 c_14 c_17 H locs ls hP hS hl
    refine lv_aload_n hx hb dX7_pledge_123 rfl (lv_at hl 3 rfl) ?_
    refine sy_getRX7 hx hb hts hown hE hP 0 rfl 44 (by decide) (hts _ (u_in uk_4_234)) (v := .int (g 0 44)) rfl dX7_pledge_124 ?_
    refine lv_aload_n hx hb dX7_pledge_127 rfl (lv_at hl 3 rfl) ?_
    refine sy_getRX7 hx hb hts hown hE hP 0 rfl 45 (by decide) (hts _ (u_in uk_4_235)) (v := .int (g 0 45)) rfl dX7_pledge_128 ?_
    refine lv_isub hx hb dX7_pledge_131 ?_
    refine lv_icmp_gt (tgt := 157) hx hb dX7_pledge_132 (by decide) (fun c_20 => ?_) (fun c_20 => ?_)
    · skip
      refine lv_iconst (v := 0) hx hb dX7_pledge_157 (by decide) ?_
      refine lv_istore (lv' := [(10, .int 0), (9, .int (g 18 x0.toNatClampNeg)), (8, .int (((fX7_valueNow (sy_up g 0 0 0) q x1) * (100 + (g 15 x2.toNatClampNeg))) / 100)), (7, .int 1), (0, .ref (ad 0)), (1, .int x0), (2, .int x1), (3, .int x2), (4, .int x3), (5, .int x4), (6, .int x5)]) hx hb dX7_pledge_158 hl (by decide) rfl (fun ls hl => ?_)
      refine lv_aload_n hx hb dX7_pledge_160 rfl (lv_at hl 4 rfl) ?_
      refine lv_iload_n hx hb dX7_pledge_161 rfl (lv_at hl 6 rfl) ?_
      refine lv_iload hx hb dX7_pledge_162 (lv_at hl 8 rfl) ?_
      refine sy_ki (sy_rV (o := 0) (As := [.int x1, .int x3]) (rest := []) ⟨hx, hb, hml, hown, hts⟩ hE hP hS (mX7_shelfFor l hfl Z nT nK cT cK ad (sy_up g 0 0 0) q x1 x3 (im_0 (by decide) hI) (show vp_in x1 40 from (im_thing hI c_5))) (cwV 2 hts (gu_V uk_5_160 uk_5_162 uk_0_22 uk_1_9 uk_5_163) rfl rfl rfl (by decide +kernel) ⟨Nat.le_of_ble_eq_true rfl, Nat.le_of_ble_eq_true rfl⟩) (sy_recv (kc := 8) hE hP rfl (by decide) rfl rfl rfl) rfl hl.1 rfl (Nat.le_of_ble_eq_true rfl) dX7_pledge_164 ⟨Nat.le_of_ble_eq_true rfl, Nat.le_of_ble_eq_true rfl⟩) hS (fun r_e_21 g_e_21 q_e_21 H locs e_21 hP hS => ?_)
      cases e_21
      refine lv_istore (lv' := [(11, .int (fX7_shelfFor (sy_up g 0 0 0) q x1 x3)), (10, .int 0), (9, .int (g 18 x0.toNatClampNeg)), (8, .int (((fX7_valueNow (sy_up g 0 0 0) q x1) * (100 + (g 15 x2.toNatClampNeg))) / 100)), (7, .int 1), (0, .ref (ad 0)), (1, .int x0), (2, .int x1), (3, .int x2), (4, .int x3), (5, .int x4), (6, .int x5)]) hx hb dX7_pledge_167 hl (by decide) rfl (fun ls hl => ?_)
      refine lv_aload_n hx hb dX7_pledge_169 rfl (lv_at hl 5 rfl) ?_
      refine lv_iload hx hb dX7_pledge_170 (lv_at hl 1 rfl) ?_
      refine lv_if_eq (tgt := 208) hx hb dX7_pledge_172 (by decide) (fun _ => ?_) (fun c9 => absurd c9 (by decide))
      refine lv_iconst (v := 3) hx hb dX7_pledge_208 (by decide) ?_
      refine lv_goto (tgt := 213) hx hb dX7_pledge_209 (by decide) ?_
      refine sy_ki (sy_rV (o := 0) (As := [.int 3]) (rest := []) ⟨hx, hb, hml, hown, hts⟩ hE hP hS (nX7_refused l hfl Z nT nK cT cK ad (sy_up g 0 0 0) q 3) (cwV 1 hts (gu_V uk_5_104 uk_5_106 uk_0_17 uk_1_9 uk_5_107) rfl rfl rfl (by decide +kernel) ⟨Nat.le_of_ble_eq_true rfl, Nat.le_of_ble_eq_true rfl⟩) (sy_recv (kc := 8) hE hP rfl (by decide) rfl rfl rfl) rfl hl.1 rfl (Nat.le_of_ble_eq_true rfl) dX7_pledge_213 ⟨Nat.le_of_ble_eq_true rfl, Nat.le_of_ble_eq_true rfl⟩) hS (fun r_e_22 g_e_22 q_e_22 H locs e_22 hP hS => ?_)
      cases e_22
      refine sy_top (y := 1) (by rfl) ?_
      refine lv_if_eq (tgt := 221) hx hb dX7_pledge_216 (by decide) (fun c9 => absurd c9 (by decide)) (fun _ => ?_)
      refine lv_iconst (v := 0) hx hb dX7_pledge_219 (by decide) ?_
      exact (sy_ireti hx hb hr hlocks hE hP hS dX7_pledge_220 ⟨Nat.le_of_ble_eq_true rfl, Nat.le_of_ble_eq_true rfl⟩ (by unfold fX7_pledge; rw [if_pos c_2, if_pos c_5, if_pos c_8, if_pos c_11, if_pos c_14, if_neg c_17, if_pos c_20] <;> rfl))
    · skip
      refine lv_aload_n hx hb dX7_pledge_135 rfl (lv_at hl 3 rfl) ?_
      refine lv_iload_n hx hb dX7_pledge_136 rfl (lv_at hl 4 rfl) ?_
      refine sy_ki (sy_rV (o := 0) (As := [.int x0]) (rest := []) ⟨hx, hb, hml, hown, hts⟩ hE hP hS (mX7_owes l hfl Z nT nK cT cK ad (sy_up g 0 0 0) q x0 (im_0 (by decide) hI)) (cwV 1 hts (gu_V uk_5_156 uk_5_158 uk_0_21 uk_1_9 uk_5_159) rfl rfl rfl (by decide +kernel) ⟨Nat.le_of_ble_eq_true rfl, Nat.le_of_ble_eq_true rfl⟩) (sy_recv (kc := 8) hE hP rfl (by decide) rfl rfl rfl) rfl hl.1 rfl (Nat.le_of_ble_eq_true rfl) dX7_pledge_137 ⟨Nat.le_of_ble_eq_true rfl, Nat.le_of_ble_eq_true rfl⟩) hS (fun r_e_23 g_e_23 q_e_23 H locs e_23 hP hS => ?_)
      cases e_23
      refine lv_iload hx hb dX7_pledge_140 (lv_at hl 8 rfl) ?_
      refine lv_iadd hx hb dX7_pledge_142 ?_
      refine lv_aload_n hx hb dX7_pledge_143 rfl (lv_at hl 3 rfl) ?_
      refine sy_getRX7 hx hb hts hown hE hP 0 rfl 19 (by decide) (hts _ (u_in uk_4_209)) (v := .ref (ad 20)) rfl dX7_pledge_144 ?_
      refine lv_iload hx hb dX7_pledge_147 (lv_at hl 0 rfl) ?_
      refine sy_ialdN hx hb hE hP 20 rfl (show vp_in (g 18 x0.toNatClampNeg) 3 from (im_class hI (vp_in_c c_2 (by decide)))) ((g 18 x0.toNatClampNeg).toNatClampNeg) rfl (v := g 20 ((g 18 x0.toNatClampNeg).toNatClampNeg)) rfl dX7_pledge_149 ?_
      refine lv_icmp_gt (tgt := 157) hx hb dX7_pledge_150 (by decide) (fun c_24 => ?_) (fun c_24 => ?_)
      · skip
        refine lv_iconst (v := 0) hx hb dX7_pledge_157 (by decide) ?_
        refine lv_istore (lv' := [(10, .int 0), (9, .int (g 18 x0.toNatClampNeg)), (8, .int (((fX7_valueNow (sy_up g 0 0 0) q x1) * (100 + (g 15 x2.toNatClampNeg))) / 100)), (7, .int 1), (0, .ref (ad 0)), (1, .int x0), (2, .int x1), (3, .int x2), (4, .int x3), (5, .int x4), (6, .int x5)]) hx hb dX7_pledge_158 hl (by decide) rfl (fun ls hl => ?_)
        refine lv_aload_n hx hb dX7_pledge_160 rfl (lv_at hl 4 rfl) ?_
        refine lv_iload_n hx hb dX7_pledge_161 rfl (lv_at hl 6 rfl) ?_
        refine lv_iload hx hb dX7_pledge_162 (lv_at hl 8 rfl) ?_
        refine sy_ki (sy_rV (o := 0) (As := [.int x1, .int x3]) (rest := []) ⟨hx, hb, hml, hown, hts⟩ hE hP hS (mX7_shelfFor l hfl Z nT nK cT cK ad (sy_up g 0 0 0) q x1 x3 (im_0 (by decide) hI) (show vp_in x1 40 from (im_thing hI c_5))) (cwV 2 hts (gu_V uk_5_160 uk_5_162 uk_0_22 uk_1_9 uk_5_163) rfl rfl rfl (by decide +kernel) ⟨Nat.le_of_ble_eq_true rfl, Nat.le_of_ble_eq_true rfl⟩) (sy_recv (kc := 8) hE hP rfl (by decide) rfl rfl rfl) rfl hl.1 rfl (Nat.le_of_ble_eq_true rfl) dX7_pledge_164 ⟨Nat.le_of_ble_eq_true rfl, Nat.le_of_ble_eq_true rfl⟩) hS (fun r_e_25 g_e_25 q_e_25 H locs e_25 hP hS => ?_)
        cases e_25
        refine lv_istore (lv' := [(11, .int (fX7_shelfFor (sy_up g 0 0 0) q x1 x3)), (10, .int 0), (9, .int (g 18 x0.toNatClampNeg)), (8, .int (((fX7_valueNow (sy_up g 0 0 0) q x1) * (100 + (g 15 x2.toNatClampNeg))) / 100)), (7, .int 1), (0, .ref (ad 0)), (1, .int x0), (2, .int x1), (3, .int x2), (4, .int x3), (5, .int x4), (6, .int x5)]) hx hb dX7_pledge_167 hl (by decide) rfl (fun ls hl => ?_)
        refine lv_aload_n hx hb dX7_pledge_169 rfl (lv_at hl 5 rfl) ?_
        refine lv_iload hx hb dX7_pledge_170 (lv_at hl 1 rfl) ?_
        refine lv_if_eq (tgt := 208) hx hb dX7_pledge_172 (by decide) (fun _ => ?_) (fun c9 => absurd c9 (by decide))
        refine lv_iconst (v := 3) hx hb dX7_pledge_208 (by decide) ?_
        refine lv_goto (tgt := 213) hx hb dX7_pledge_209 (by decide) ?_
        refine sy_ki (sy_rV (o := 0) (As := [.int 3]) (rest := []) ⟨hx, hb, hml, hown, hts⟩ hE hP hS (nX7_refused l hfl Z nT nK cT cK ad (sy_up g 0 0 0) q 3) (cwV 1 hts (gu_V uk_5_104 uk_5_106 uk_0_17 uk_1_9 uk_5_107) rfl rfl rfl (by decide +kernel) ⟨Nat.le_of_ble_eq_true rfl, Nat.le_of_ble_eq_true rfl⟩) (sy_recv (kc := 8) hE hP rfl (by decide) rfl rfl rfl) rfl hl.1 rfl (Nat.le_of_ble_eq_true rfl) dX7_pledge_213 ⟨Nat.le_of_ble_eq_true rfl, Nat.le_of_ble_eq_true rfl⟩) hS (fun r_e_26 g_e_26 q_e_26 H locs e_26 hP hS => ?_)
        cases e_26
        refine sy_top (y := 1) (by rfl) ?_
        refine lv_if_eq (tgt := 221) hx hb dX7_pledge_216 (by decide) (fun c9 => absurd c9 (by decide)) (fun _ => ?_)
        refine lv_iconst (v := 0) hx hb dX7_pledge_219 (by decide) ?_
        exact (sy_ireti hx hb hr hlocks hE hP hS dX7_pledge_220 ⟨Nat.le_of_ble_eq_true rfl, Nat.le_of_ble_eq_true rfl⟩ (by unfold fX7_pledge; rw [if_pos c_2, if_pos c_5, if_pos c_8, if_pos c_11, if_pos c_14, if_neg c_17, if_neg c_20, if_pos c_24] <;> rfl))
      · skip
        refine lv_iconst (v := 1) hx hb dX7_pledge_153 (by decide) ?_
        refine lv_goto (tgt := 158) hx hb dX7_pledge_154 (by decide) ?_
        refine lv_istore (lv' := [(10, .int 1), (9, .int (g 18 x0.toNatClampNeg)), (8, .int (((fX7_valueNow (sy_up g 0 0 0) q x1) * (100 + (g 15 x2.toNatClampNeg))) / 100)), (7, .int 1), (0, .ref (ad 0)), (1, .int x0), (2, .int x1), (3, .int x2), (4, .int x3), (5, .int x4), (6, .int x5)]) hx hb dX7_pledge_158 hl (by decide) rfl (fun ls hl => ?_)
        refine lv_aload_n hx hb dX7_pledge_160 rfl (lv_at hl 4 rfl) ?_
        refine lv_iload_n hx hb dX7_pledge_161 rfl (lv_at hl 6 rfl) ?_
        refine lv_iload hx hb dX7_pledge_162 (lv_at hl 8 rfl) ?_
        refine sy_ki (sy_rV (o := 0) (As := [.int x1, .int x3]) (rest := []) ⟨hx, hb, hml, hown, hts⟩ hE hP hS (mX7_shelfFor l hfl Z nT nK cT cK ad (sy_up g 0 0 0) q x1 x3 (im_0 (by decide) hI) (show vp_in x1 40 from (im_thing hI c_5))) (cwV 2 hts (gu_V uk_5_160 uk_5_162 uk_0_22 uk_1_9 uk_5_163) rfl rfl rfl (by decide +kernel) ⟨Nat.le_of_ble_eq_true rfl, Nat.le_of_ble_eq_true rfl⟩) (sy_recv (kc := 8) hE hP rfl (by decide) rfl rfl rfl) rfl hl.1 rfl (Nat.le_of_ble_eq_true rfl) dX7_pledge_164 ⟨Nat.le_of_ble_eq_true rfl, Nat.le_of_ble_eq_true rfl⟩) hS (fun r_e_27 g_e_27 q_e_27 H locs e_27 hP hS => ?_)
        cases e_27
        refine lv_istore (lv' := [(11, .int (fX7_shelfFor (sy_up g 0 0 0) q x1 x3)), (10, .int 1), (9, .int (g 18 x0.toNatClampNeg)), (8, .int (((fX7_valueNow (sy_up g 0 0 0) q x1) * (100 + (g 15 x2.toNatClampNeg))) / 100)), (7, .int 1), (0, .ref (ad 0)), (1, .int x0), (2, .int x1), (3, .int x2), (4, .int x3), (5, .int x4), (6, .int x5)]) hx hb dX7_pledge_167 hl (by decide) rfl (fun ls hl => ?_)
        refine lv_aload_n hx hb dX7_pledge_169 rfl (lv_at hl 5 rfl) ?_
        refine lv_iload hx hb dX7_pledge_170 (lv_at hl 1 rfl) ?_
        refine lv_if_eq (tgt := 208) hx hb dX7_pledge_172 (by decide) (fun c9 => absurd c9 (by decide)) (fun _ => ?_)
        refine lv_aload_n hx hb dX7_pledge_175 rfl (lv_at hl 5 rfl) ?_
        refine sy_getRX7 hx hb hts hown hE hP 0 rfl 7 (by decide) (hts _ (u_in uk_4_197)) (v := .ref (ad 8)) rfl dX7_pledge_176 ?_
        refine lv_iload_n hx hb dX7_pledge_179 rfl (lv_at hl 7 rfl) ?_
        refine sy_zaldN hx hb hE hP 8 rfl (show vp_in x1 40 from (im_thing hI c_5)) x1.toNatClampNeg rfl (v := g 8 x1.toNatClampNeg) rfl dX7_pledge_180 ?_
        refine lv_if_ne (tgt := 208) hx hb dX7_pledge_181 (by decide) (fun c_28 => ?_) (fun c_28 => ?_)
        · skip
          refine lv_iconst (v := 3) hx hb dX7_pledge_208 (by decide) ?_
          refine lv_goto (tgt := 213) hx hb dX7_pledge_209 (by decide) ?_
          refine sy_ki (sy_rV (o := 0) (As := [.int 3]) (rest := []) ⟨hx, hb, hml, hown, hts⟩ hE hP hS (nX7_refused l hfl Z nT nK cT cK ad (sy_up g 0 0 0) q 3) (cwV 1 hts (gu_V uk_5_104 uk_5_106 uk_0_17 uk_1_9 uk_5_107) rfl rfl rfl (by decide +kernel) ⟨Nat.le_of_ble_eq_true rfl, Nat.le_of_ble_eq_true rfl⟩) (sy_recv (kc := 8) hE hP rfl (by decide) rfl rfl rfl) rfl hl.1 rfl (Nat.le_of_ble_eq_true rfl) dX7_pledge_213 ⟨Nat.le_of_ble_eq_true rfl, Nat.le_of_ble_eq_true rfl⟩) hS (fun r_e_29 g_e_29 q_e_29 H locs e_29 hP hS => ?_)
          cases e_29
          refine sy_top (y := 1) (by rfl) ?_
          refine lv_if_eq (tgt := 221) hx hb dX7_pledge_216 (by decide) (fun c9 => absurd c9 (by decide)) (fun _ => ?_)
          refine lv_iconst (v := 0) hx hb dX7_pledge_219 (by decide) ?_
          exact (sy_ireti hx hb hr hlocks hE hP hS dX7_pledge_220 ⟨Nat.le_of_ble_eq_true rfl, Nat.le_of_ble_eq_true rfl⟩ (by unfold fX7_pledge; rw [if_pos c_2, if_pos c_5, if_pos c_8, if_pos c_11, if_pos c_14, if_neg c_17, if_neg c_20, if_neg c_24, if_neg c_28] <;> rfl))
        · skip
          refine lv_aload_n hx hb dX7_pledge_184 rfl (lv_at hl 5 rfl) ?_
          refine sy_getRX7 hx hb hts hown hE hP 0 rfl 8 (by decide) (hts _ (u_in uk_4_198)) (v := .ref (ad 9)) rfl dX7_pledge_185 ?_
          refine lv_iload_n hx hb dX7_pledge_188 rfl (lv_at hl 7 rfl) ?_
          refine sy_zaldN hx hb hE hP 9 rfl (show vp_in x1 40 from (im_thing hI c_5)) x1.toNatClampNeg rfl (v := g 9 x1.toNatClampNeg) rfl dX7_pledge_189 ?_
          refine lv_if_ne (tgt := 208) hx hb dX7_pledge_190 (by decide) (fun c_30 => ?_) (fun c_30 => ?_)
          · skip
            refine lv_iconst (v := 3) hx hb dX7_pledge_208 (by decide) ?_
            refine lv_goto (tgt := 213) hx hb dX7_pledge_209 (by decide) ?_
            refine sy_ki (sy_rV (o := 0) (As := [.int 3]) (rest := []) ⟨hx, hb, hml, hown, hts⟩ hE hP hS (nX7_refused l hfl Z nT nK cT cK ad (sy_up g 0 0 0) q 3) (cwV 1 hts (gu_V uk_5_104 uk_5_106 uk_0_17 uk_1_9 uk_5_107) rfl rfl rfl (by decide +kernel) ⟨Nat.le_of_ble_eq_true rfl, Nat.le_of_ble_eq_true rfl⟩) (sy_recv (kc := 8) hE hP rfl (by decide) rfl rfl rfl) rfl hl.1 rfl (Nat.le_of_ble_eq_true rfl) dX7_pledge_213 ⟨Nat.le_of_ble_eq_true rfl, Nat.le_of_ble_eq_true rfl⟩) hS (fun r_e_31 g_e_31 q_e_31 H locs e_31 hP hS => ?_)
            cases e_31
            refine sy_top (y := 1) (by rfl) ?_
            refine lv_if_eq (tgt := 221) hx hb dX7_pledge_216 (by decide) (fun c9 => absurd c9 (by decide)) (fun _ => ?_)
            refine lv_iconst (v := 0) hx hb dX7_pledge_219 (by decide) ?_
            exact (sy_ireti hx hb hr hlocks hE hP hS dX7_pledge_220 ⟨Nat.le_of_ble_eq_true rfl, Nat.le_of_ble_eq_true rfl⟩ (by unfold fX7_pledge; rw [if_pos c_2, if_pos c_5, if_pos c_8, if_pos c_11, if_pos c_14, if_neg c_17, if_neg c_20, if_neg c_24, if_pos c_28, if_neg c_30] <;> rfl))
          · skip
            refine lv_iload hx hb dX7_pledge_193 (lv_at hl 0 rfl) ?_
            refine lv_iconst (v := (-1)) hx hb dX7_pledge_195 (by decide) ?_
            refine lv_icmp_eq (tgt := 208) hx hb dX7_pledge_196 (by decide) (fun c_32 => ?_) (fun c_32 => ?_)
            · skip
              refine lv_iconst (v := 3) hx hb dX7_pledge_208 (by decide) ?_
              refine lv_goto (tgt := 213) hx hb dX7_pledge_209 (by decide) ?_
              refine sy_ki (sy_rV (o := 0) (As := [.int 3]) (rest := []) ⟨hx, hb, hml, hown, hts⟩ hE hP hS (nX7_refused l hfl Z nT nK cT cK ad (sy_up g 0 0 0) q 3) (cwV 1 hts (gu_V uk_5_104 uk_5_106 uk_0_17 uk_1_9 uk_5_107) rfl rfl rfl (by decide +kernel) ⟨Nat.le_of_ble_eq_true rfl, Nat.le_of_ble_eq_true rfl⟩) (sy_recv (kc := 8) hE hP rfl (by decide) rfl rfl rfl) rfl hl.1 rfl (Nat.le_of_ble_eq_true rfl) dX7_pledge_213 ⟨Nat.le_of_ble_eq_true rfl, Nat.le_of_ble_eq_true rfl⟩) hS (fun r_e_33 g_e_33 q_e_33 H locs e_33 hP hS => ?_)
              cases e_33
              refine sy_top (y := 1) (by rfl) ?_
              refine lv_if_eq (tgt := 221) hx hb dX7_pledge_216 (by decide) (fun c9 => absurd c9 (by decide)) (fun _ => ?_)
              refine lv_iconst (v := 0) hx hb dX7_pledge_219 (by decide) ?_
              exact (sy_ireti hx hb hr hlocks hE hP hS dX7_pledge_220 ⟨Nat.le_of_ble_eq_true rfl, Nat.le_of_ble_eq_true rfl⟩ (by unfold fX7_pledge; rw [if_pos c_2, if_pos c_5, if_pos c_8, if_pos c_11, if_pos c_14, if_neg c_17, if_neg c_20, if_neg c_24, if_pos c_28, if_pos c_30, if_pos c_32] <;> rfl))
            · skip
              refine lv_aload_n hx hb dX7_pledge_199 rfl (lv_at hl 5 rfl) ?_
              refine sy_getRX7 hx hb hts hown hE hP 0 rfl 28 (by decide) (hts _ (u_in uk_4_218)) (v := .int (g 0 28)) rfl dX7_pledge_200 ?_
              refine lv_bipush (v := 40) hx hb dX7_pledge_203 (by decide) ?_
              refine lv_icmp_ne (tgt := 212) hx hb dX7_pledge_205 (by decide) (fun c_34 => ?_) (fun c_34 => ?_)
              · skip
                refine lv_iconst (v := 0) hx hb dX7_pledge_212 (by decide) ?_
                refine sy_ki (sy_rV (o := 0) (As := [.int 0]) (rest := []) ⟨hx, hb, hml, hown, hts⟩ hE hP hS (nX7_refused l hfl Z nT nK cT cK ad (sy_up g 0 0 0) q 0) (cwV 1 hts (gu_V uk_5_104 uk_5_106 uk_0_17 uk_1_9 uk_5_107) rfl rfl rfl (by decide +kernel) ⟨Nat.le_of_ble_eq_true rfl, Nat.le_of_ble_eq_true rfl⟩) (sy_recv (kc := 8) hE hP rfl (by decide) rfl rfl rfl) rfl hl.1 rfl (Nat.le_of_ble_eq_true rfl) dX7_pledge_213 ⟨Nat.le_of_ble_eq_true rfl, Nat.le_of_ble_eq_true rfl⟩) hS (fun r_e_35 g_e_35 q_e_35 H locs e_35 hP hS => ?_)
                cases e_35
                refine sy_top (y := 0) (by rfl) ?_
                refine lv_if_eq (tgt := 221) hx hb dX7_pledge_216 (by decide) (fun _ => ?_) (fun c9 => absurd c9 (by decide))
                refine lv_aload_n hx hb dX7_pledge_221 rfl (lv_at hl 5 rfl) ?_
                refine sy_getRX7 hx hb hts hown hE hP 0 rfl 28 (by decide) (hts _ (u_in uk_4_218)) (v := .int (g 0 28)) rfl dX7_pledge_222 ?_
                refine lv_istore (lv' := [(12, .int (g 0 28)), (11, .int (fX7_shelfFor (sy_up g 0 0 0) q x1 x3)), (10, .int 1), (9, .int (g 18 x0.toNatClampNeg)), (8, .int (((fX7_valueNow (sy_up g 0 0 0) q x1) * (100 + (g 15 x2.toNatClampNeg))) / 100)), (7, .int 1), (0, .ref (ad 0)), (1, .int x0), (2, .int x1), (3, .int x2), (4, .int x3), (5, .int x4), (6, .int x5)]) hx hb dX7_pledge_225 hl (by decide) rfl (fun ls hl => ?_)
                refine lv_aload_n hx hb dX7_pledge_227 rfl (lv_at hl 6 rfl) ?_
                refine lv_dup hx hb dX7_pledge_228 rfl ?_
                refine sy_getRX7 hx hb hts hown hE hP 0 rfl 28 (by decide) (hts _ (u_in uk_4_218)) (v := .int (g 0 28)) rfl dX7_pledge_229 ?_
                refine lv_iconst (v := 1) hx hb dX7_pledge_232 (by decide) ?_
                refine lv_iadd hx hb dX7_pledge_233 ?_
                refine sy_putRX7 hx hb hts hown hE hP hS 0 rfl 28 (by decide) (hts _ (u_in uk_4_218)) rfl (ty := .int) (by decide +kernel) rfl rfl (sy_up (sy_up (sy_up g 0 0 0) 0 0 0) 0 28 ((g 0 28) + 1)) q (by rw [sy_up_s (sy_up (sy_up g 0 0 0) 0 0 0) 0 28 ((g 0 28) + 1)]; exact se_RX7_28 _ _ _ _ _ _ _) (fun _ h9 => sy_up_o _ _ _ h9) (fun _ _ => rfl) dX7_pledge_234 (fun H locs hP hS => ?_)
                refine lv_aload_n hx hb dX7_pledge_237 rfl (lv_at hl 6 rfl) ?_
                refine sy_getRX7 hx hb hts hown hE hP 0 rfl 29 (by decide) (hts _ (u_in uk_4_219)) (v := .ref (ad 30)) rfl dX7_pledge_238 ?_
                refine lv_iload hx hb dX7_pledge_241 (lv_at hl 0 rfl) ?_
                refine lv_iload_n hx hb dX7_pledge_243 rfl (lv_at hl 8 rfl) ?_
                exact K_3 c_2 c_5 c_8 c_11 c_14 c_17 c_20 c_24 c_28 c_30 c_32 c_34 _ _ _ hP hS hl
              · skip
                refine lv_iconst (v := 3) hx hb dX7_pledge_208 (by decide) ?_
                refine lv_goto (tgt := 213) hx hb dX7_pledge_209 (by decide) ?_
                refine sy_ki (sy_rV (o := 0) (As := [.int 3]) (rest := []) ⟨hx, hb, hml, hown, hts⟩ hE hP hS (nX7_refused l hfl Z nT nK cT cK ad (sy_up g 0 0 0) q 3) (cwV 1 hts (gu_V uk_5_104 uk_5_106 uk_0_17 uk_1_9 uk_5_107) rfl rfl rfl (by decide +kernel) ⟨Nat.le_of_ble_eq_true rfl, Nat.le_of_ble_eq_true rfl⟩) (sy_recv (kc := 8) hE hP rfl (by decide) rfl rfl rfl) rfl hl.1 rfl (Nat.le_of_ble_eq_true rfl) dX7_pledge_213 ⟨Nat.le_of_ble_eq_true rfl, Nat.le_of_ble_eq_true rfl⟩) hS (fun r_e_36 g_e_36 q_e_36 H locs e_36 hP hS => ?_)
                cases e_36
                refine sy_top (y := 1) (by rfl) ?_
                refine lv_if_eq (tgt := 221) hx hb dX7_pledge_216 (by decide) (fun c9 => absurd c9 (by decide)) (fun _ => ?_)
                refine lv_iconst (v := 0) hx hb dX7_pledge_219 (by decide) ?_
                exact (sy_ireti hx hb hr hlocks hE hP hS dX7_pledge_220 ⟨Nat.le_of_ble_eq_true rfl, Nat.le_of_ble_eq_true rfl⟩ (by unfold fX7_pledge; rw [if_pos c_2, if_pos c_5, if_pos c_8, if_pos c_11, if_pos c_14, if_neg c_17, if_neg c_20, if_neg c_24, if_pos c_28, if_pos c_30, if_neg c_32, if_pos c_34] <;> rfl))
  refine lv_iload_n hx hb dX7_pledge_0 rfl (lv_at hl 1 rfl) ?_
  refine sy_ki (sy_rS (As := [.int x0]) (rest := []) ⟨hx, hb, hml, hown, hts⟩ hE hP hS (mX7_isPerson l hfl Z nT nK cT cK ad g q x0) (va_cwS 1 hts (gu_S uk_5_120 uk_5_121 uk_1_9 uk_5_122) rfl rfl rfl (by decide +kernel) ⟨Nat.le_of_ble_eq_true rfl, Nat.le_of_ble_eq_true rfl⟩) rfl hl.1 rfl (Nat.le_of_ble_eq_true rfl) dX7_pledge_1 ⟨Nat.le_of_ble_eq_true rfl, Nat.le_of_ble_eq_true rfl⟩) hS (fun r_e_1 g_e_1 q_e_1 H locs e_1 hP hS => ?_)
  cases e_1
  refine sy_top (y := (iB (0 ≤ x0 ∧ x0 ≤ 9))) (by rfl) ?_
  refine lv_if_eq (tgt := 38) hx hb dX7_pledge_4 (by decide) (fun c_2 => ?_) (fun c_2 => ?_)
  · have c_2 := iB_0.mp c_2
    refine lv_iconst (v := 0) hx hb dX7_pledge_38 (by decide) ?_
    refine lv_istore (lv' := [(7, .int 0), (0, .ref (ad 0)), (1, .int x0), (2, .int x1), (3, .int x2), (4, .int x3), (5, .int x4), (6, .int x5)]) hx hb dX7_pledge_39 hl (by decide) rfl (fun ls hl => ?_)
    refine lv_aload_n hx hb dX7_pledge_41 rfl (lv_at hl 1 rfl) ?_
    refine lv_iload hx hb dX7_pledge_42 (lv_at hl 0 rfl) ?_
    refine lv_if_ne (tgt := 51) hx hb dX7_pledge_44 (by decide) (fun c9 => absurd c9 (by decide)) (fun _ => ?_)
    refine lv_iconst (v := 1) hx hb dX7_pledge_47 (by decide) ?_
    refine lv_goto (tgt := 67) hx hb dX7_pledge_48 (by decide) ?_
    refine sy_ki (sy_rV (o := 0) (As := [.int 1]) (rest := []) ⟨hx, hb, hml, hown, hts⟩ hE hP hS (nX7_refused l hfl Z nT nK cT cK ad g q 1) (cwV 1 hts (gu_V uk_5_104 uk_5_106 uk_0_17 uk_1_9 uk_5_107) rfl rfl rfl (by decide +kernel) ⟨Nat.le_of_ble_eq_true rfl, Nat.le_of_ble_eq_true rfl⟩) (sy_recv (kc := 8) hE hP rfl (by decide) rfl rfl rfl) rfl hl.1 rfl (Nat.le_of_ble_eq_true rfl) dX7_pledge_67 ⟨Nat.le_of_ble_eq_true rfl, Nat.le_of_ble_eq_true rfl⟩) hS (fun r_e_3 g_e_3 q_e_3 H locs e_3 hP hS => ?_)
    cases e_3
    refine sy_top (y := 1) (by rfl) ?_
    refine lv_if_eq (tgt := 75) hx hb dX7_pledge_70 (by decide) (fun c9 => absurd c9 (by decide)) (fun _ => ?_)
    refine lv_iconst (v := 0) hx hb dX7_pledge_73 (by decide) ?_
    exact (sy_ireti hx hb hr hlocks hE hP hS dX7_pledge_74 ⟨Nat.le_of_ble_eq_true rfl, Nat.le_of_ble_eq_true rfl⟩ (by unfold fX7_pledge; rw [if_neg c_2] <;> rfl))
  · have c_2 := iB_n.mp c_2
    refine lv_aload_n hx hb dX7_pledge_7 rfl (lv_at hl 0 rfl) ?_
    refine lv_iload_n hx hb dX7_pledge_8 rfl (lv_at hl 2 rfl) ?_
    refine sy_ki (sy_rV (o := 0) (As := [.int x1]) (rest := []) ⟨hx, hb, hml, hown, hts⟩ hE hP hS (mX7_isThing l hfl Z nT nK cT cK ad g q x1) (cwV 1 hts (gu_V uk_5_148 uk_5_150 uk_0_19 uk_1_9 uk_5_151) rfl rfl rfl (by decide +kernel) ⟨Nat.le_of_ble_eq_true rfl, Nat.le_of_ble_eq_true rfl⟩) (sy_recv (kc := 8) hE hP rfl (by decide) rfl rfl rfl) rfl hl.1 rfl (Nat.le_of_ble_eq_true rfl) dX7_pledge_9 ⟨Nat.le_of_ble_eq_true rfl, Nat.le_of_ble_eq_true rfl⟩) hS (fun r_e_4 g_e_4 q_e_4 H locs e_4 hP hS => ?_)
    cases e_4
    refine sy_top (y := (iB (0 ≤ x1 ∧ x1 ≤ (g 0 2) - 1))) (by rfl) ?_
    refine lv_if_eq (tgt := 38) hx hb dX7_pledge_12 (by decide) (fun c_5 => ?_) (fun c_5 => ?_)
    · have c_5 := iB_0.mp c_5
      refine lv_iconst (v := 0) hx hb dX7_pledge_38 (by decide) ?_
      refine lv_istore (lv' := [(7, .int 0), (0, .ref (ad 0)), (1, .int x0), (2, .int x1), (3, .int x2), (4, .int x3), (5, .int x4), (6, .int x5)]) hx hb dX7_pledge_39 hl (by decide) rfl (fun ls hl => ?_)
      refine lv_aload_n hx hb dX7_pledge_41 rfl (lv_at hl 1 rfl) ?_
      refine lv_iload hx hb dX7_pledge_42 (lv_at hl 0 rfl) ?_
      refine lv_if_ne (tgt := 51) hx hb dX7_pledge_44 (by decide) (fun c9 => absurd c9 (by decide)) (fun _ => ?_)
      refine lv_iconst (v := 1) hx hb dX7_pledge_47 (by decide) ?_
      refine lv_goto (tgt := 67) hx hb dX7_pledge_48 (by decide) ?_
      refine sy_ki (sy_rV (o := 0) (As := [.int 1]) (rest := []) ⟨hx, hb, hml, hown, hts⟩ hE hP hS (nX7_refused l hfl Z nT nK cT cK ad g q 1) (cwV 1 hts (gu_V uk_5_104 uk_5_106 uk_0_17 uk_1_9 uk_5_107) rfl rfl rfl (by decide +kernel) ⟨Nat.le_of_ble_eq_true rfl, Nat.le_of_ble_eq_true rfl⟩) (sy_recv (kc := 8) hE hP rfl (by decide) rfl rfl rfl) rfl hl.1 rfl (Nat.le_of_ble_eq_true rfl) dX7_pledge_67 ⟨Nat.le_of_ble_eq_true rfl, Nat.le_of_ble_eq_true rfl⟩) hS (fun r_e_6 g_e_6 q_e_6 H locs e_6 hP hS => ?_)
      cases e_6
      refine sy_top (y := 1) (by rfl) ?_
      refine lv_if_eq (tgt := 75) hx hb dX7_pledge_70 (by decide) (fun c9 => absurd c9 (by decide)) (fun _ => ?_)
      refine lv_iconst (v := 0) hx hb dX7_pledge_73 (by decide) ?_
      exact (sy_ireti hx hb hr hlocks hE hP hS dX7_pledge_74 ⟨Nat.le_of_ble_eq_true rfl, Nat.le_of_ble_eq_true rfl⟩ (by unfold fX7_pledge; rw [if_pos c_2, if_neg c_5] <;> rfl))
    · have c_5 := iB_n.mp c_5
      refine lv_iload_n hx hb dX7_pledge_15 rfl (lv_at hl 3 rfl) ?_
      refine lv_iconst (v := 0) hx hb dX7_pledge_16 (by decide) ?_
      refine lv_iconst (v := 3) hx hb dX7_pledge_17 (by decide) ?_
      refine sy_ki (sy_rS (As := [.int x2, .int 0, .int 3]) (rest := []) ⟨hx, hb, hml, hown, hts⟩ hE hP hS (nX7_is l hfl Z nT nK cT cK ad g q x2 0 3) (va_cwS 3 hts (gu_S uk_5_101 uk_5_102 uk_1_9 uk_5_103) rfl rfl rfl (by decide +kernel) ⟨Nat.le_of_ble_eq_true rfl, Nat.le_of_ble_eq_true rfl⟩) rfl hl.1 rfl (Nat.le_of_ble_eq_true rfl) dX7_pledge_18 ⟨Nat.le_of_ble_eq_true rfl, Nat.le_of_ble_eq_true rfl⟩) hS (fun r_e_7 g_e_7 q_e_7 H locs e_7 hP hS => ?_)
      cases e_7
      refine lv_if_eq (tgt := 38) hx hb dX7_pledge_21 (by decide) (fun c_8 => ?_) (fun c_8 => ?_)
      · have c_8 := iB_0.mp c_8
        refine lv_iconst (v := 0) hx hb dX7_pledge_38 (by decide) ?_
        refine lv_istore (lv' := [(7, .int 0), (0, .ref (ad 0)), (1, .int x0), (2, .int x1), (3, .int x2), (4, .int x3), (5, .int x4), (6, .int x5)]) hx hb dX7_pledge_39 hl (by decide) rfl (fun ls hl => ?_)
        refine lv_aload_n hx hb dX7_pledge_41 rfl (lv_at hl 1 rfl) ?_
        refine lv_iload hx hb dX7_pledge_42 (lv_at hl 0 rfl) ?_
        refine lv_if_ne (tgt := 51) hx hb dX7_pledge_44 (by decide) (fun c9 => absurd c9 (by decide)) (fun _ => ?_)
        refine lv_iconst (v := 1) hx hb dX7_pledge_47 (by decide) ?_
        refine lv_goto (tgt := 67) hx hb dX7_pledge_48 (by decide) ?_
        refine sy_ki (sy_rV (o := 0) (As := [.int 1]) (rest := []) ⟨hx, hb, hml, hown, hts⟩ hE hP hS (nX7_refused l hfl Z nT nK cT cK ad g q 1) (cwV 1 hts (gu_V uk_5_104 uk_5_106 uk_0_17 uk_1_9 uk_5_107) rfl rfl rfl (by decide +kernel) ⟨Nat.le_of_ble_eq_true rfl, Nat.le_of_ble_eq_true rfl⟩) (sy_recv (kc := 8) hE hP rfl (by decide) rfl rfl rfl) rfl hl.1 rfl (Nat.le_of_ble_eq_true rfl) dX7_pledge_67 ⟨Nat.le_of_ble_eq_true rfl, Nat.le_of_ble_eq_true rfl⟩) hS (fun r_e_9 g_e_9 q_e_9 H locs e_9 hP hS => ?_)
        cases e_9
        refine sy_top (y := 1) (by rfl) ?_
        refine lv_if_eq (tgt := 75) hx hb dX7_pledge_70 (by decide) (fun c9 => absurd c9 (by decide)) (fun _ => ?_)
        refine lv_iconst (v := 0) hx hb dX7_pledge_73 (by decide) ?_
        exact (sy_ireti hx hb hr hlocks hE hP hS dX7_pledge_74 ⟨Nat.le_of_ble_eq_true rfl, Nat.le_of_ble_eq_true rfl⟩ (by unfold fX7_pledge; rw [if_pos c_2, if_pos c_5, if_neg c_8] <;> rfl))
      · have c_8 := iB_n.mp c_8
        refine lv_iload hx hb dX7_pledge_24 (lv_at hl 4 rfl) ?_
        refine lv_iconst (v := 0) hx hb dX7_pledge_26 (by decide) ?_
        refine lv_iconst (v := 2) hx hb dX7_pledge_27 (by decide) ?_
        refine sy_ki (sy_rS (As := [.int x3, .int 0, .int 2]) (rest := []) ⟨hx, hb, hml, hown, hts⟩ hE hP hS (nX7_is l hfl Z nT nK cT cK ad g q x3 0 2) (va_cwS 3 hts (gu_S uk_5_101 uk_5_102 uk_1_9 uk_5_103) rfl rfl rfl (by decide +kernel) ⟨Nat.le_of_ble_eq_true rfl, Nat.le_of_ble_eq_true rfl⟩) rfl hl.1 rfl (Nat.le_of_ble_eq_true rfl) dX7_pledge_28 ⟨Nat.le_of_ble_eq_true rfl, Nat.le_of_ble_eq_true rfl⟩) hS (fun r_e_10 g_e_10 q_e_10 H locs e_10 hP hS => ?_)
        cases e_10
        refine lv_if_eq (tgt := 38) hx hb dX7_pledge_31 (by decide) (fun c_11 => ?_) (fun c_11 => ?_)
        · have c_11 := iB_0.mp c_11
          refine lv_iconst (v := 0) hx hb dX7_pledge_38 (by decide) ?_
          refine lv_istore (lv' := [(7, .int 0), (0, .ref (ad 0)), (1, .int x0), (2, .int x1), (3, .int x2), (4, .int x3), (5, .int x4), (6, .int x5)]) hx hb dX7_pledge_39 hl (by decide) rfl (fun ls hl => ?_)
          refine lv_aload_n hx hb dX7_pledge_41 rfl (lv_at hl 1 rfl) ?_
          refine lv_iload hx hb dX7_pledge_42 (lv_at hl 0 rfl) ?_
          refine lv_if_ne (tgt := 51) hx hb dX7_pledge_44 (by decide) (fun c9 => absurd c9 (by decide)) (fun _ => ?_)
          refine lv_iconst (v := 1) hx hb dX7_pledge_47 (by decide) ?_
          refine lv_goto (tgt := 67) hx hb dX7_pledge_48 (by decide) ?_
          refine sy_ki (sy_rV (o := 0) (As := [.int 1]) (rest := []) ⟨hx, hb, hml, hown, hts⟩ hE hP hS (nX7_refused l hfl Z nT nK cT cK ad g q 1) (cwV 1 hts (gu_V uk_5_104 uk_5_106 uk_0_17 uk_1_9 uk_5_107) rfl rfl rfl (by decide +kernel) ⟨Nat.le_of_ble_eq_true rfl, Nat.le_of_ble_eq_true rfl⟩) (sy_recv (kc := 8) hE hP rfl (by decide) rfl rfl rfl) rfl hl.1 rfl (Nat.le_of_ble_eq_true rfl) dX7_pledge_67 ⟨Nat.le_of_ble_eq_true rfl, Nat.le_of_ble_eq_true rfl⟩) hS (fun r_e_12 g_e_12 q_e_12 H locs e_12 hP hS => ?_)
          cases e_12
          refine sy_top (y := 1) (by rfl) ?_
          refine lv_if_eq (tgt := 75) hx hb dX7_pledge_70 (by decide) (fun c9 => absurd c9 (by decide)) (fun _ => ?_)
          refine lv_iconst (v := 0) hx hb dX7_pledge_73 (by decide) ?_
          exact (sy_ireti hx hb hr hlocks hE hP hS dX7_pledge_74 ⟨Nat.le_of_ble_eq_true rfl, Nat.le_of_ble_eq_true rfl⟩ (by unfold fX7_pledge; rw [if_pos c_2, if_pos c_5, if_pos c_8, if_neg c_11] <;> rfl))
        · have c_11 := iB_n.mp c_11
          refine lv_iconst (v := 1) hx hb dX7_pledge_34 (by decide) ?_
          refine lv_goto (tgt := 39) hx hb dX7_pledge_35 (by decide) ?_
          refine lv_istore (lv' := [(7, .int 1), (0, .ref (ad 0)), (1, .int x0), (2, .int x1), (3, .int x2), (4, .int x3), (5, .int x4), (6, .int x5)]) hx hb dX7_pledge_39 hl (by decide) rfl (fun ls hl => ?_)
          refine lv_aload_n hx hb dX7_pledge_41 rfl (lv_at hl 1 rfl) ?_
          refine lv_iload hx hb dX7_pledge_42 (lv_at hl 0 rfl) ?_
          refine lv_if_ne (tgt := 51) hx hb dX7_pledge_44 (by decide) (fun _ => ?_) (fun c9 => absurd c9 (by decide))
          refine lv_iload hx hb dX7_pledge_51 (lv_at hl 6 rfl) ?_
          refine lv_iconst (v := 1) hx hb dX7_pledge_53 (by decide) ?_
          refine lv_ldc (v := 100000) hx hb hown (hts _ (u_in uk_5_127)) dX7_pledge_54 ?_
          refine sy_ki (sy_rS (As := [.int x4, .int 1, .int 100000]) (rest := [.ref (ad 0)]) ⟨hx, hb, hml, hown, hts⟩ hE hP hS (nX7_is l hfl Z nT nK cT cK ad g q x4 1 100000) (va_cwS 3 hts (gu_S uk_5_101 uk_5_102 uk_1_9 uk_5_103) rfl rfl rfl (by decide +kernel) ⟨Nat.le_of_ble_eq_true rfl, Nat.le_of_ble_eq_true rfl⟩) rfl hl.1 rfl (Nat.le_of_ble_eq_true rfl) dX7_pledge_56 ⟨Nat.le_of_ble_eq_true rfl, Nat.le_of_ble_eq_true rfl⟩) hS (fun r_e_13 g_e_13 q_e_13 H locs e_13 hP hS => ?_)
          cases e_13
          refine lv_if_ne (tgt := 66) hx hb dX7_pledge_59 (by decide) (fun c_14 => ?_) (fun c_14 => ?_)
          · have c_14 := iB_n.mp c_14
            refine lv_iconst (v := 0) hx hb dX7_pledge_66 (by decide) ?_
            refine sy_ki (sy_rV (o := 0) (As := [.int 0]) (rest := []) ⟨hx, hb, hml, hown, hts⟩ hE hP hS (nX7_refused l hfl Z nT nK cT cK ad g q 0) (cwV 1 hts (gu_V uk_5_104 uk_5_106 uk_0_17 uk_1_9 uk_5_107) rfl rfl rfl (by decide +kernel) ⟨Nat.le_of_ble_eq_true rfl, Nat.le_of_ble_eq_true rfl⟩) (sy_recv (kc := 8) hE hP rfl (by decide) rfl rfl rfl) rfl hl.1 rfl (Nat.le_of_ble_eq_true rfl) dX7_pledge_67 ⟨Nat.le_of_ble_eq_true rfl, Nat.le_of_ble_eq_true rfl⟩) hS (fun r_e_15 g_e_15 q_e_15 H locs e_15 hP hS => ?_)
            cases e_15
            refine sy_top (y := 0) (by rfl) ?_
            refine lv_if_eq (tgt := 75) hx hb dX7_pledge_70 (by decide) (fun _ => ?_) (fun c9 => absurd c9 (by decide))
            refine lv_aload_n hx hb dX7_pledge_75 rfl (lv_at hl 1 rfl) ?_
            refine lv_iload_n hx hb dX7_pledge_76 rfl (lv_at hl 3 rfl) ?_
            refine sy_ki (sy_rV (o := 0) (As := [.int x1]) (rest := []) ⟨hx, hb, hml, hown, hts⟩ hE hP hS (mX7_valueNow l hfl Z nT nK cT cK ad (sy_up g 0 0 0) q x1 (im_0 (by decide) hI) (show vp_in x1 40 from (im_thing hI c_5))) (cwV 1 hts (gu_V uk_5_152 uk_5_154 uk_0_20 uk_1_9 uk_5_155) rfl rfl rfl (by decide +kernel) ⟨Nat.le_of_ble_eq_true rfl, Nat.le_of_ble_eq_true rfl⟩) (sy_recv (kc := 8) hE hP rfl (by decide) rfl rfl rfl) rfl hl.1 rfl (Nat.le_of_ble_eq_true rfl) dX7_pledge_77 ⟨Nat.le_of_ble_eq_true rfl, Nat.le_of_ble_eq_true rfl⟩) hS (fun r_e_16 g_e_16 q_e_16 H locs e_16 hP hS => ?_)
            cases e_16
            refine lv_bipush (v := 100) hx hb dX7_pledge_80 (by decide) ?_
            refine lv_aload_n hx hb dX7_pledge_82 rfl (lv_at hl 1 rfl) ?_
            refine sy_getRX7 hx hb hts hown hE hP 0 rfl 14 (by decide) (hts _ (u_in uk_4_204)) (v := .ref (ad 15)) rfl dX7_pledge_83 ?_
            refine lv_iload_n hx hb dX7_pledge_86 rfl (lv_at hl 4 rfl) ?_
            refine sy_ialdN hx hb hE hP 15 rfl (show vp_in x2 4 from (vp_in_c c_8 (by decide))) x2.toNatClampNeg rfl (v := g 15 x2.toNatClampNeg) rfl dX7_pledge_87 ?_
            refine lv_iadd hx hb dX7_pledge_88 ?_
            refine lv_imul hx hb dX7_pledge_89 ?_
            refine lv_bipush (v := 100) hx hb dX7_pledge_90 (by decide) ?_
            refine lv_idiv hx hb dX7_pledge_92 (by decide) ?_
            refine lv_istore (lv' := [(8, .int (((fX7_valueNow (sy_up g 0 0 0) q x1) * (100 + (g 15 x2.toNatClampNeg))) / 100)), (7, .int 1), (0, .ref (ad 0)), (1, .int x0), (2, .int x1), (3, .int x2), (4, .int x3), (5, .int x4), (6, .int x5)]) hx hb dX7_pledge_93 hl (by decide) rfl (fun ls hl => ?_)
            refine lv_aload_n hx hb dX7_pledge_95 rfl (lv_at hl 2 rfl) ?_
            refine sy_getRX7 hx hb hts hown hE hP 0 rfl 17 (by decide) (hts _ (u_in uk_4_207)) (v := .ref (ad 18)) rfl dX7_pledge_96 ?_
            refine lv_iload_n hx hb dX7_pledge_99 rfl (lv_at hl 3 rfl) ?_
            refine sy_ialdN hx hb hE hP 18 rfl (show vp_in x0 10 from (vp_in_c c_2 (by decide))) x0.toNatClampNeg rfl (v := g 18 x0.toNatClampNeg) rfl dX7_pledge_100 ?_
            refine lv_istore (lv' := [(9, .int (g 18 x0.toNatClampNeg)), (8, .int (((fX7_valueNow (sy_up g 0 0 0) q x1) * (100 + (g 15 x2.toNatClampNeg))) / 100)), (7, .int 1), (0, .ref (ad 0)), (1, .int x0), (2, .int x1), (3, .int x2), (4, .int x3), (5, .int x4), (6, .int x5)]) hx hb dX7_pledge_101 hl (by decide) rfl (fun ls hl => ?_)
            refine lv_iload hx hb dX7_pledge_103 (lv_at hl 8 rfl) ?_
            refine lv_iload hx hb dX7_pledge_105 (lv_at hl 1 rfl) ?_
            refine lv_aload_n hx hb dX7_pledge_107 rfl (lv_at hl 3 rfl) ?_
            refine sy_getRX7 hx hb hts hown hE hP 0 rfl 18 (by decide) (hts _ (u_in uk_4_208)) (v := .ref (ad 19)) rfl dX7_pledge_108 ?_
            refine lv_iload hx hb dX7_pledge_111 (lv_at hl 0 rfl) ?_
            refine sy_ialdN hx hb hE hP 19 rfl (show vp_in (g 18 x0.toNatClampNeg) 3 from (im_class hI (vp_in_c c_2 (by decide)))) ((g 18 x0.toNatClampNeg).toNatClampNeg) rfl (v := g 19 ((g 18 x0.toNatClampNeg).toNatClampNeg)) rfl dX7_pledge_113 ?_
            refine lv_imul hx hb dX7_pledge_114 ?_
            refine lv_bipush (v := 100) hx hb dX7_pledge_115 (by decide) ?_
            refine lv_idiv hx hb dX7_pledge_117 (by decide) ?_
            refine lv_icmp_gt (tgt := 157) hx hb dX7_pledge_118 (by decide) (fun c_17 => ?_) (fun c_17 => ?_)
            · skip
              refine lv_iconst (v := 0) hx hb dX7_pledge_157 (by decide) ?_
              exact K_1 c_2 c_5 c_8 c_11 c_14 c_17 _ _ _ hP hS hl
            · skip
              refine lv_iload hx hb dX7_pledge_121 (lv_at hl 8 rfl) ?_
              exact K_2 c_2 c_5 c_8 c_11 c_14 c_17 _ _ _ hP hS hl
          · have c_14 := iB_0.mp c_14
            refine lv_iconst (v := 2) hx hb dX7_pledge_62 (by decide) ?_
            refine lv_goto (tgt := 67) hx hb dX7_pledge_63 (by decide) ?_
            refine sy_ki (sy_rV (o := 0) (As := [.int 2]) (rest := []) ⟨hx, hb, hml, hown, hts⟩ hE hP hS (nX7_refused l hfl Z nT nK cT cK ad g q 2) (cwV 1 hts (gu_V uk_5_104 uk_5_106 uk_0_17 uk_1_9 uk_5_107) rfl rfl rfl (by decide +kernel) ⟨Nat.le_of_ble_eq_true rfl, Nat.le_of_ble_eq_true rfl⟩) (sy_recv (kc := 8) hE hP rfl (by decide) rfl rfl rfl) rfl hl.1 rfl (Nat.le_of_ble_eq_true rfl) dX7_pledge_67 ⟨Nat.le_of_ble_eq_true rfl, Nat.le_of_ble_eq_true rfl⟩) hS (fun r_e_37 g_e_37 q_e_37 H locs e_37 hP hS => ?_)
            cases e_37
            refine sy_top (y := 1) (by rfl) ?_
            refine lv_if_eq (tgt := 75) hx hb dX7_pledge_70 (by decide) (fun c9 => absurd c9 (by decide)) (fun _ => ?_)
            refine lv_iconst (v := 0) hx hb dX7_pledge_73 (by decide) ?_
            exact (sy_ireti hx hb hr hlocks hE hP hS dX7_pledge_74 ⟨Nat.le_of_ble_eq_true rfl, Nat.le_of_ble_eq_true rfl⟩ (by unfold fX7_pledge; rw [if_pos c_2, if_pos c_5, if_pos c_8, if_pos c_11, if_neg c_14] <;> rfl))
