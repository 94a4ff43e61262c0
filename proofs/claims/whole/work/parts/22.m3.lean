def fX7_rate (g : sG) (q : sQ) (x0 x1 : Int32) : Int32 × sG := (if 0 ≤ x0 ∧ x0 ≤ 2 then (if 0 ≤ x1 ∧ x1 ≤ 100 then (if (g 0 20) = 30 then (0, (sy_up g 0 0 3)) else ((fX7_rateOn (sy_up g 0 0 0) q x0 (g 0 1)), (sy_up (sy_up (sy_up (sy_up (sy_up g 0 0 0) 22 ((g 0 20).toNatClampNeg) x0) 23 ((g 0 20).toNatClampNeg) (g 0 1)) 24 ((g 0 20).toNatClampNeg) x1) 0 20 ((g 0 20) + 1)))) else (0, (sy_up g 0 0 2))) else (0, (sy_up g 0 0 1)))
set_option maxHeartbeats 4000000 in
set_option maxRecDepth 100000 in
theorem mX7_rate (l : Launch) (hfl : l.stackTraces = false) (Z : sZ) (nT nK cT cK : Nat) (ad : Nat → Nat) (g : sG) (q : sQ) (x0 x1 : Int32) (hI : IM nT nK g) : sMi l Z yX7_rate (uW (.code yX7_rate cX7_rate 4 (some .int))) { frames := 1, cells := 0, slots := 0, locals := 24 } [.ref (ad 0), .int x0, .int x1] nT nK cT cK ad g q (fun r g1 q1 => (r, g1, q1) = ((fX7_rate g q x0 x1).1, (fX7_rate g q x0 x1).2, q)) := by
  refine Met.ofW (cc := cX7_rate) (maxL := 4) (ret := (some .int)) (by decide) rfl ?_
  intro p e s m args below meth c s₁ B hml hv
  obtain ⟨rfl, hE, hP⟩ := hv
  have hx := B.exec
  have hb := B.bytes
  have hr := B.returns
  have hts := atoms_spec (ws := uW (.code yX7_rate cX7_rate 4 (some .int))) B.pre
  have hown : s.vm.findClass RX7 = some m.cls := findClass_of_methodNamed B.named
  have hlocks := B.notSynchronized
  have hS : va_S (sy_A Z) s.heap s.heap [] := va_S.rf
  have hl := lv_entry ([.ref (ad 0), .int x0, .int x1]) (n := 4) (Nat.le_of_ble_eq_true rfl)
  rw [lg_entry_eq]
  generalize (lg_sl ([.ref (ad 0), .int x0, .int x1]) ++ List.replicate (4 - (lg_sl ([.ref (ad 0), .int x0, .int x1])).length) Slot.unset).toArray = ls at hl ⊢
  have hl : lv_has ls 4 [(0, .ref (ad 0)), (1, .int x0), (2, .int x1)] := hl
  refine lv_aload_n hx hb dX7_rate_0 rfl (lv_at hl 0 rfl) ?_
  refine lv_iload_n hx hb dX7_rate_1 rfl (lv_at hl 1 rfl) ?_
  refine lv_iconst (v := 0) hx hb dX7_rate_2 (by decide) ?_
  refine lv_iconst (v := 2) hx hb dX7_rate_3 (by decide) ?_
  refine sy_ki (sy_rS (As := [.int x0, .int 0, .int 2]) (rest := [.ref (ad 0)]) ⟨hx, hb, hml, hown, hts⟩ hE hP hS (nX7_is l hfl Z nT nK cT cK ad g q x0 0 2) (va_cwS 3 hts (gu_S uk_5_101 uk_5_102 uk_1_9 uk_5_103) rfl rfl rfl (by decide +kernel) ⟨Nat.le_of_ble_eq_true rfl, Nat.le_of_ble_eq_true rfl⟩) rfl hl.1 rfl (Nat.le_of_ble_eq_true rfl) dX7_rate_4 ⟨Nat.le_of_ble_eq_true rfl, Nat.le_of_ble_eq_true rfl⟩) hS (fun r_e_1 g_e_1 q_e_1 H locs e_1 hP hS => ?_)
  cases e_1
  refine lv_if_ne (tgt := 14) hx hb dX7_rate_7 (by decide) (fun c_2 => ?_) (fun c_2 => ?_)
  · have c_2 := iB_n.mp c_2
    refine lv_iload_n hx hb dX7_rate_14 rfl (lv_at hl 2 rfl) ?_
    refine lv_iconst (v := 0) hx hb dX7_rate_15 (by decide) ?_
    refine lv_bipush (v := 100) hx hb dX7_rate_16 (by decide) ?_
    refine sy_ki (sy_rS (As := [.int x1, .int 0, .int 100]) (rest := [.ref (ad 0)]) ⟨hx, hb, hml, hown, hts⟩ hE hP hS (nX7_is l hfl Z nT nK cT cK ad g q x1 0 100) (va_cwS 3 hts (gu_S uk_5_101 uk_5_102 uk_1_9 uk_5_103) rfl rfl rfl (by decide +kernel) ⟨Nat.le_of_ble_eq_true rfl, Nat.le_of_ble_eq_true rfl⟩) rfl hl.1 rfl (Nat.le_of_ble_eq_true rfl) dX7_rate_18 ⟨Nat.le_of_ble_eq_true rfl, Nat.le_of_ble_eq_true rfl⟩) hS (fun r_e_3 g_e_3 q_e_3 H locs e_3 hP hS => ?_)
    cases e_3
    refine lv_if_ne (tgt := 28) hx hb dX7_rate_21 (by decide) (fun c_4 => ?_) (fun c_4 => ?_)
    · have c_4 := iB_n.mp c_4
      refine lv_aload_n hx hb dX7_rate_28 rfl (lv_at hl 0 rfl) ?_
      refine sy_getRX7 hx hb hts hown hE hP 0 rfl 20 (by decide) (hts _ (u_in uk_4_210)) (v := .int (g 0 20)) rfl dX7_rate_29 ?_
      refine lv_bipush (v := 30) hx hb dX7_rate_32 (by decide) ?_
      refine lv_icmp_ne (tgt := 41) hx hb dX7_rate_34 (by decide) (fun c_5 => ?_) (fun c_5 => ?_)
      · skip
        refine lv_iconst (v := 0) hx hb dX7_rate_41 (by decide) ?_
        refine sy_ki (sy_rV (o := 0) (As := [.int 0]) (rest := []) ⟨hx, hb, hml, hown, hts⟩ hE hP hS (nX7_refused l hfl Z nT nK cT cK ad g q 0) (cwV 1 hts (gu_V uk_5_104 uk_5_106 uk_0_17 uk_1_9 uk_5_107) rfl rfl rfl (by decide +kernel) ⟨Nat.le_of_ble_eq_true rfl, Nat.le_of_ble_eq_true rfl⟩) (sy_recv (kc := 8) hE hP rfl (by decide) rfl rfl rfl) rfl hl.1 rfl (Nat.le_of_ble_eq_true rfl) dX7_rate_42 ⟨Nat.le_of_ble_eq_true rfl, Nat.le_of_ble_eq_true rfl⟩) hS (fun r_e_6 g_e_6 q_e_6 H locs e_6 hP hS => ?_)
        cases e_6
        refine sy_top (y := 0) (by rfl) ?_
        refine lv_if_eq (tgt := 50) hx hb dX7_rate_45 (by decide) (fun _ => ?_) (fun c9 => absurd c9 (by decide))
        refine lv_aload_n hx hb dX7_rate_50 rfl (lv_at hl 0 rfl) ?_
        refine lv_iload_n hx hb dX7_rate_51 rfl (lv_at hl 1 rfl) ?_
        refine lv_aload_n hx hb dX7_rate_52 rfl (lv_at hl 0 rfl) ?_
        refine sy_getRX7 hx hb hts hown hE hP 0 rfl 1 (by decide) (hts _ (u_in uk_4_191)) (v := .int (g 0 1)) rfl dX7_rate_53 ?_
        refine sy_ki (sy_rV (o := 0) (As := [.int x0, .int (g 0 1)]) (rest := []) ⟨hx, hb, hml, hown, hts⟩ hE hP hS (mX7_rateOn l hfl Z nT nK cT cK ad (sy_up g 0 0 0) q x0 (g 0 1) (im_0 (by decide) hI)) (cwV 2 hts (gu_V uk_5_132 uk_5_134 uk_0_18 uk_1_9 uk_5_135) rfl rfl rfl (by decide +kernel) ⟨Nat.le_of_ble_eq_true rfl, Nat.le_of_ble_eq_true rfl⟩) (sy_recv (kc := 8) hE hP rfl (by decide) rfl rfl rfl) rfl hl.1 rfl (Nat.le_of_ble_eq_true rfl) dX7_rate_56 ⟨Nat.le_of_ble_eq_true rfl, Nat.le_of_ble_eq_true rfl⟩) hS (fun r_e_7 g_e_7 q_e_7 H locs e_7 hP hS => ?_)
        cases e_7
        refine lv_istore_n (lv' := [(3, .int (fX7_rateOn (sy_up g 0 0 0) q x0 (g 0 1))), (0, .ref (ad 0)), (1, .int x0), (2, .int x1)]) hx hb dX7_rate_59 rfl hl (by decide) rfl (fun ls hl => ?_)
        refine lv_aload_n hx hb dX7_rate_60 rfl (lv_at hl 1 rfl) ?_
        refine sy_getRX7 hx hb hts hown hE hP 0 rfl 21 (by decide) (hts _ (u_in uk_4_211)) (v := .ref (ad 22)) rfl dX7_rate_61 ?_
        refine lv_aload_n hx hb dX7_rate_64 rfl (lv_at hl 1 rfl) ?_
        refine sy_getRX7 hx hb hts hown hE hP 0 rfl 20 (by decide) (hts _ (u_in uk_4_210)) (v := .int (g 0 20)) rfl dX7_rate_65 ?_
        refine lv_iload_n hx hb dX7_rate_68 rfl (lv_at hl 2 rfl) ?_
        refine sy_iastN hx hb hE hP hS 22 rfl (show vp_in (g 0 20) 30 from (by obtain ⟨a9, h9, h8⟩ := hI.2.2.2.2.1; exact vp_in_full h8 h9 (by decide) c_5)) ((g 0 20).toNatClampNeg) rfl dX7_rate_69 (fun H locs hP hS => ?_)
        refine lv_aload_n hx hb dX7_rate_70 rfl (lv_at hl 1 rfl) ?_
        refine sy_getRX7 hx hb hts hown hE hP 0 rfl 22 (by decide) (hts _ (u_in uk_4_212)) (v := .ref (ad 23)) rfl dX7_rate_71 ?_
        refine lv_aload_n hx hb dX7_rate_74 rfl (lv_at hl 1 rfl) ?_
        refine sy_getRX7 hx hb hts hown hE hP 0 rfl 20 (by decide) (hts _ (u_in uk_4_210)) (v := .int (g 0 20)) rfl dX7_rate_75 ?_
        refine lv_aload_n hx hb dX7_rate_78 rfl (lv_at hl 1 rfl) ?_
        refine sy_getRX7 hx hb hts hown hE hP 0 rfl 1 (by decide) (hts _ (u_in uk_4_191)) (v := .int (g 0 1)) rfl dX7_rate_79 ?_
        refine sy_iastN hx hb hE hP hS 23 rfl (show vp_in (g 0 20) 30 from (by obtain ⟨a9, h9, h8⟩ := hI.2.2.2.2.1; exact vp_in_full h8 h9 (by decide) c_5)) ((g 0 20).toNatClampNeg) rfl dX7_rate_82 (fun H locs hP hS => ?_)
        refine lv_aload_n hx hb dX7_rate_83 rfl (lv_at hl 1 rfl) ?_
        refine sy_getRX7 hx hb hts hown hE hP 0 rfl 23 (by decide) (hts _ (u_in uk_4_213)) (v := .ref (ad 24)) rfl dX7_rate_84 ?_
        refine lv_aload_n hx hb dX7_rate_87 rfl (lv_at hl 1 rfl) ?_
        refine sy_getRX7 hx hb hts hown hE hP 0 rfl 20 (by decide) (hts _ (u_in uk_4_210)) (v := .int (g 0 20)) rfl dX7_rate_88 ?_
        refine lv_iload_n hx hb dX7_rate_91 rfl (lv_at hl 3 rfl) ?_
        refine sy_iastN hx hb hE hP hS 24 rfl (show vp_in (g 0 20) 30 from (by obtain ⟨a9, h9, h8⟩ := hI.2.2.2.2.1; exact vp_in_full h8 h9 (by decide) c_5)) ((g 0 20).toNatClampNeg) rfl dX7_rate_92 (fun H locs hP hS => ?_)
        refine lv_aload_n hx hb dX7_rate_93 rfl (lv_at hl 1 rfl) ?_
        refine lv_dup hx hb dX7_rate_94 rfl ?_
        refine sy_getRX7 hx hb hts hown hE hP 0 rfl 20 (by decide) (hts _ (u_in uk_4_210)) (v := .int (g 0 20)) rfl dX7_rate_95 ?_
        refine lv_iconst (v := 1) hx hb dX7_rate_98 (by decide) ?_
        refine lv_iadd hx hb dX7_rate_99 ?_
        refine sy_putRX7 hx hb hts hown hE hP hS 0 rfl 20 (by decide) (hts _ (u_in uk_4_210)) rfl (ty := .int) (by decide +kernel) rfl rfl (sy_up (sy_up (sy_up (sy_up (sy_up g 0 0 0) 22 ((g 0 20).toNatClampNeg) x0) 23 ((g 0 20).toNatClampNeg) (g 0 1)) 24 ((g 0 20).toNatClampNeg) x1) 0 20 ((g 0 20) + 1)) q (by rw [sy_up_s]; rfl) (fun _ h9 => sy_up_o _ _ _ h9) (fun _ _ => rfl) dX7_rate_100 (fun H locs hP hS => ?_)
        refine lv_iload_n hx hb dX7_rate_103 rfl (lv_at hl 0 rfl) ?_
        exact (sy_ireti hx hb hr hlocks hE hP hS dX7_rate_104 ⟨Nat.le_of_ble_eq_true rfl, Nat.le_of_ble_eq_true rfl⟩ (by unfold fX7_rate; rw [if_pos c_2, if_pos c_4, if_neg c_5] <;> rfl))
      · skip
        refine lv_iconst (v := 3) hx hb dX7_rate_37 (by decide) ?_
        refine lv_goto (tgt := 42) hx hb dX7_rate_38 (by decide) ?_
        refine sy_ki (sy_rV (o := 0) (As := [.int 3]) (rest := []) ⟨hx, hb, hml, hown, hts⟩ hE hP hS (nX7_refused l hfl Z nT nK cT cK ad g q 3) (cwV 1 hts (gu_V uk_5_104 uk_5_106 uk_0_17 uk_1_9 uk_5_107) rfl rfl rfl (by decide +kernel) ⟨Nat.le_of_ble_eq_true rfl, Nat.le_of_ble_eq_true rfl⟩) (sy_recv (kc := 8) hE hP rfl (by decide) rfl rfl rfl) rfl hl.1 rfl (Nat.le_of_ble_eq_true rfl) dX7_rate_42 ⟨Nat.le_of_ble_eq_true rfl, Nat.le_of_ble_eq_true rfl⟩) hS (fun r_e_8 g_e_8 q_e_8 H locs e_8 hP hS => ?_)
        cases e_8
        refine sy_top (y := 1) (by rfl) ?_
        refine lv_if_eq (tgt := 50) hx hb dX7_rate_45 (by decide) (fun c9 => absurd c9 (by decide)) (fun _ => ?_)
        refine lv_iconst (v := 0) hx hb dX7_rate_48 (by decide) ?_
        exact (sy_ireti hx hb hr hlocks hE hP hS dX7_rate_49 ⟨Nat.le_of_ble_eq_true rfl, Nat.le_of_ble_eq_true rfl⟩ (by unfold fX7_rate; rw [if_pos c_2, if_pos c_4, if_pos c_5] <;> rfl))
    · have c_4 := iB_0.mp c_4
      refine lv_iconst (v := 2) hx hb dX7_rate_24 (by decide) ?_
      refine lv_goto (tgt := 42) hx hb dX7_rate_25 (by decide) ?_
      refine sy_ki (sy_rV (o := 0) (As := [.int 2]) (rest := []) ⟨hx, hb, hml, hown, hts⟩ hE hP hS (nX7_refused l hfl Z nT nK cT cK ad g q 2) (cwV 1 hts (gu_V uk_5_104 uk_5_106 uk_0_17 uk_1_9 uk_5_107) rfl rfl rfl (by decide +kernel) ⟨Nat.le_of_ble_eq_true rfl, Nat.le_of_ble_eq_true rfl⟩) (sy_recv (kc := 8) hE hP rfl (by decide) rfl rfl rfl) rfl hl.1 rfl (Nat.le_of_ble_eq_true rfl) dX7_rate_42 ⟨Nat.le_of_ble_eq_true rfl, Nat.le_of_ble_eq_true rfl⟩) hS (fun r_e_9 g_e_9 q_e_9 H locs e_9 hP hS => ?_)
      cases e_9
      refine sy_top (y := 1) (by rfl) ?_
      refine lv_if_eq (tgt := 50) hx hb dX7_rate_45 (by decide) (fun c9 => absurd c9 (by decide)) (fun _ => ?_)
      refine lv_iconst (v := 0) hx hb dX7_rate_48 (by decide) ?_
      exact (sy_ireti hx hb hr hlocks hE hP hS dX7_rate_49 ⟨Nat.le_of_ble_eq_true rfl, Nat.le_of_ble_eq_true rfl⟩ (by unfold fX7_rate; rw [if_pos c_2, if_neg c_4] <;> rfl))
  · have c_2 := iB_0.mp c_2
    refine lv_iconst (v := 1) hx hb dX7_rate_10 (by decide) ?_
    refine lv_goto (tgt := 42) hx hb dX7_rate_11 (by decide) ?_
    refine sy_ki (sy_rV (o := 0) (As := [.int 1]) (rest := []) ⟨hx, hb, hml, hown, hts⟩ hE hP hS (nX7_refused l hfl Z nT nK cT cK ad g q 1) (cwV 1 hts (gu_V uk_5_104 uk_5_106 uk_0_17 uk_1_9 uk_5_107) rfl rfl rfl (by decide +kernel) ⟨Nat.le_of_ble_eq_true rfl, Nat.le_of_ble_eq_true rfl⟩) (sy_recv (kc := 8) hE hP rfl (by decide) rfl rfl rfl) rfl hl.1 rfl (Nat.le_of_ble_eq_true rfl) dX7_rate_42 ⟨Nat.le_of_ble_eq_true rfl, Nat.le_of_ble_eq_true rfl⟩) hS (fun r_e_10 g_e_10 q_e_10 H locs e_10 hP hS => ?_)
    cases e_10
    refine sy_top (y := 1) (by rfl) ?_
    refine lv_if_eq (tgt := 50) hx hb dX7_rate_45 (by decide) (fun c9 => absurd c9 (by decide)) (fun _ => ?_)
    refine lv_iconst (v := 0) hx hb dX7_rate_48 (by decide) ?_
    exact (sy_ireti hx hb hr hlocks hE hP hS dX7_rate_49 ⟨Nat.le_of_ble_eq_true rfl, Nat.le_of_ble_eq_true rfl⟩ (by unfold fX7_rate; rw [if_neg c_2] <;> rfl))
def fX7_redeem (g : sG) (q : sQ) (x0 x1 : Int32) : Int32 × sG := (if 0 ≤ x0 ∧ x0 ≤ (g 0 28) - 1 then (if 0 ≤ x1 ∧ x1 ≤ 9 then (if (g 39 x0.toNatClampNeg) = 0 then (if (fX7_bars g q x0) = 0 then (if (g 33 x0.toNatClampNeg) = x1 then (if (fX7_isFound g q (g 30 x0.toNatClampNeg)) = 0 then (0, (sy_up g 0 0 2)) else (((g 35 x0.toNatClampNeg) + (fX7_interest (sy_up g 0 0 0) q x0)), (sy_up (sy_up (sy_up (sy_up g 0 0 0) 0 44 ((g 0 44) + ((g 35 x0.toNatClampNeg) + (fX7_interest (sy_up g 0 0 0) q x0)))) 39 x0.toNatClampNeg 1) 8 ((g 30 x0.toNatClampNeg).toNatClampNeg) 0))) else (0, (sy_up g 0 0 2))) else (0, (sy_up g 0 0 2))) else (0, (sy_up g 0 0 2))) else (0, (sy_up g 0 0 1))) else (0, (sy_up g 0 0 1)))
set_option maxHeartbeats 4000000 in
set_option maxRecDepth 100000 in
theorem mX7_redeem (l : Launch) (hfl : l.stackTraces = false) (Z : sZ) (nT nK cT cK : Nat) (ad : Nat → Nat) (g : sG) (q : sQ) (x0 x1 : Int32) (hI : IM nT nK g) : sMi l Z yX7_redeem (uW (.code yX7_redeem cX7_redeem 6 (some .int))) { frames := 2, cells := 0, slots := 0, locals := 49 } [.ref (ad 0), .int x0, .int x1] nT nK cT cK ad g q (fun r g1 q1 => (r, g1, q1) = ((fX7_redeem g q x0 x1).1, (fX7_redeem g q x0 x1).2, q)) := by
  refine Met.ofW (cc := cX7_redeem) (maxL := 6) (ret := (some .int)) (by decide) rfl ?_
  intro p e s m args below meth c s₁ B hml hv
  obtain ⟨rfl, hE, hP⟩ := hv
  have hx := B.exec
  have hb := B.bytes
  have hr := B.returns
  have hts := atoms_spec (ws := uW (.code yX7_redeem cX7_redeem 6 (some .int))) B.pre
  have hown : s.vm.findClass RX7 = some m.cls := findClass_of_methodNamed B.named
  have hlocks := B.notSynchronized
  have hS : va_S (sy_A Z) s.heap s.heap [] := va_S.rf
  have hl := lv_entry ([.ref (ad 0), .int x0, .int x1]) (n := 6) (Nat.le_of_ble_eq_true rfl)
  rw [lg_entry_eq]
  generalize (lg_sl ([.ref (ad 0), .int x0, .int x1]) ++ List.replicate (6 - (lg_sl ([.ref (ad 0), .int x0, .int x1])).length) Slot.unset).toArray = ls at hl ⊢
  have hl : lv_has ls 6 [(0, .ref (ad 0)), (1, .int x0), (2, .int x1)] := hl
  refine lv_aload_n hx hb dX7_redeem_0 rfl (lv_at hl 0 rfl) ?_
  refine lv_iload_n hx hb dX7_redeem_1 rfl (lv_at hl 1 rfl) ?_
  refine sy_ki (sy_rV (o := 0) (As := [.int x0]) (rest := []) ⟨hx, hb, hml, hown, hts⟩ hE hP hS (mX7_isTicket l hfl Z nT nK cT cK ad g q x0) (cwV 1 hts (gu_V uk_5_172 uk_5_174 uk_0_24 uk_1_9 uk_5_175) rfl rfl rfl (by decide +kernel) ⟨Nat.le_of_ble_eq_true rfl, Nat.le_of_ble_eq_true rfl⟩) (sy_recv (kc := 8) hE hP rfl (by decide) rfl rfl rfl) rfl hl.1 rfl (Nat.le_of_ble_eq_true rfl) dX7_redeem_2 ⟨Nat.le_of_ble_eq_true rfl, Nat.le_of_ble_eq_true rfl⟩) hS (fun r_e_1 g_e_1 q_e_1 H locs e_1 hP hS => ?_)
  cases e_1
  refine sy_top (y := (iB (0 ≤ x0 ∧ x0 ≤ (g 0 28) - 1))) (by rfl) ?_
  refine lv_if_eq (tgt := 19) hx hb dX7_redeem_5 (by decide) (fun c_2 => ?_) (fun c_2 => ?_)
  · have c_2 := iB_0.mp c_2
    refine lv_iconst (v := 0) hx hb dX7_redeem_19 (by decide) ?_
    refine lv_istore_n (lv' := [(3, .int 0), (0, .ref (ad 0)), (1, .int x0), (2, .int x1)]) hx hb dX7_redeem_20 rfl hl (by decide) rfl (fun ls hl => ?_)
    refine lv_iload_n hx hb dX7_redeem_21 rfl (lv_at hl 0 rfl) ?_
    refine lv_if_eq (tgt := 69) hx hb dX7_redeem_22 (by decide) (fun _ => ?_) (fun c9 => absurd c9 (by decide))
    refine lv_iconst (v := 0) hx hb dX7_redeem_69 (by decide) ?_
    refine lv_istore (lv' := [(4, .int 0), (3, .int 0), (0, .ref (ad 0)), (1, .int x0), (2, .int x1)]) hx hb dX7_redeem_70 hl (by decide) rfl (fun ls hl => ?_)
    refine lv_aload_n hx hb dX7_redeem_72 rfl (lv_at hl 2 rfl) ?_
    refine lv_iload_n hx hb dX7_redeem_73 rfl (lv_at hl 1 rfl) ?_
    refine lv_if_ne (tgt := 81) hx hb dX7_redeem_74 (by decide) (fun c9 => absurd c9 (by decide)) (fun _ => ?_)
    refine lv_iconst (v := 1) hx hb dX7_redeem_77 (by decide) ?_
    refine lv_goto (tgt := 91) hx hb dX7_redeem_78 (by decide) ?_
    refine sy_ki (sy_rV (o := 0) (As := [.int 1]) (rest := []) ⟨hx, hb, hml, hown, hts⟩ hE hP hS (nX7_refused l hfl Z nT nK cT cK ad g q 1) (cwV 1 hts (gu_V uk_5_104 uk_5_106 uk_0_17 uk_1_9 uk_5_107) rfl rfl rfl (by decide +kernel) ⟨Nat.le_of_ble_eq_true rfl, Nat.le_of_ble_eq_true rfl⟩) (sy_recv (kc := 8) hE hP rfl (by decide) rfl rfl rfl) rfl hl.1 rfl (Nat.le_of_ble_eq_true rfl) dX7_redeem_91 ⟨Nat.le_of_ble_eq_true rfl, Nat.le_of_ble_eq_true rfl⟩) hS (fun r_e_3 g_e_3 q_e_3 H locs e_3 hP hS => ?_)
    cases e_3
    refine sy_top (y := 1) (by rfl) ?_
    refine lv_if_eq (tgt := 99) hx hb dX7_redeem_94 (by decide) (fun c9 => absurd c9 (by decide)) (fun _ => ?_)
    refine lv_iconst (v := 0) hx hb dX7_redeem_97 (by decide) ?_
    exact (sy_ireti hx hb hr hlocks hE hP hS dX7_redeem_98 ⟨Nat.le_of_ble_eq_true rfl, Nat.le_of_ble_eq_true rfl⟩ (by unfold fX7_redeem; rw [if_neg c_2] <;> rfl))
  · have c_2 := iB_n.mp c_2
    refine lv_iload_n hx hb dX7_redeem_8 rfl (lv_at hl 2 rfl) ?_
    refine sy_ki (sy_rS (As := [.int x1]) (rest := []) ⟨hx, hb, hml, hown, hts⟩ hE hP hS (mX7_isPerson l hfl Z nT nK cT cK ad g q x1) (va_cwS 1 hts (gu_S uk_5_120 uk_5_121 uk_1_9 uk_5_122) rfl rfl rfl (by decide +kernel) ⟨Nat.le_of_ble_eq_true rfl, Nat.le_of_ble_eq_true rfl⟩) rfl hl.1 rfl (Nat.le_of_ble_eq_true rfl) dX7_redeem_9 ⟨Nat.le_of_ble_eq_true rfl, Nat.le_of_ble_eq_true rfl⟩) hS (fun r_e_4 g_e_4 q_e_4 H locs e_4 hP hS => ?_)
    cases e_4
    refine sy_top (y := (iB (0 ≤ x1 ∧ x1 ≤ 9))) (by rfl) ?_
    refine lv_if_eq (tgt := 19) hx hb dX7_redeem_12 (by decide) (fun c_5 => ?_) (fun c_5 => ?_)
    · have c_5 := iB_0.mp c_5
      refine lv_iconst (v := 0) hx hb dX7_redeem_19 (by decide) ?_
      refine lv_istore_n (lv' := [(3, .int 0), (0, .ref (ad 0)), (1, .int x0), (2, .int x1)]) hx hb dX7_redeem_20 rfl hl (by decide) rfl (fun ls hl => ?_)
      refine lv_iload_n hx hb dX7_redeem_21 rfl (lv_at hl 0 rfl) ?_
      refine lv_if_eq (tgt := 69) hx hb dX7_redeem_22 (by decide) (fun _ => ?_) (fun c9 => absurd c9 (by decide))
      refine lv_iconst (v := 0) hx hb dX7_redeem_69 (by decide) ?_
      refine lv_istore (lv' := [(4, .int 0), (3, .int 0), (0, .ref (ad 0)), (1, .int x0), (2, .int x1)]) hx hb dX7_redeem_70 hl (by decide) rfl (fun ls hl => ?_)
      refine lv_aload_n hx hb dX7_redeem_72 rfl (lv_at hl 2 rfl) ?_
      refine lv_iload_n hx hb dX7_redeem_73 rfl (lv_at hl 1 rfl) ?_
      refine lv_if_ne (tgt := 81) hx hb dX7_redeem_74 (by decide) (fun c9 => absurd c9 (by decide)) (fun _ => ?_)
      refine lv_iconst (v := 1) hx hb dX7_redeem_77 (by decide) ?_
      refine lv_goto (tgt := 91) hx hb dX7_redeem_78 (by decide) ?_
      refine sy_ki (sy_rV (o := 0) (As := [.int 1]) (rest := []) ⟨hx, hb, hml, hown, hts⟩ hE hP hS (nX7_refused l hfl Z nT nK cT cK ad g q 1) (cwV 1 hts (gu_V uk_5_104 uk_5_106 uk_0_17 uk_1_9 uk_5_107) rfl rfl rfl (by decide +kernel) ⟨Nat.le_of_ble_eq_true rfl, Nat.le_of_ble_eq_true rfl⟩) (sy_recv (kc := 8) hE hP rfl (by decide) rfl rfl rfl) rfl hl.1 rfl (Nat.le_of_ble_eq_true rfl) dX7_redeem_91 ⟨Nat.le_of_ble_eq_true rfl, Nat.le_of_ble_eq_true rfl⟩) hS (fun r_e_6 g_e_6 q_e_6 H locs e_6 hP hS => ?_)
      cases e_6
      refine sy_top (y := 1) (by rfl) ?_
      refine lv_if_eq (tgt := 99) hx hb dX7_redeem_94 (by decide) (fun c9 => absurd c9 (by decide)) (fun _ => ?_)
      refine lv_iconst (v := 0) hx hb dX7_redeem_97 (by decide) ?_
      exact (sy_ireti hx hb hr hlocks hE hP hS dX7_redeem_98 ⟨Nat.le_of_ble_eq_true rfl, Nat.le_of_ble_eq_true rfl⟩ (by unfold fX7_redeem; rw [if_pos c_2, if_neg c_5] <;> rfl))
    · have c_5 := iB_n.mp c_5
      refine lv_iconst (v := 1) hx hb dX7_redeem_15 (by decide) ?_
      refine lv_goto (tgt := 20) hx hb dX7_redeem_16 (by decide) ?_
      refine lv_istore_n (lv' := [(3, .int 1), (0, .ref (ad 0)), (1, .int x0), (2, .int x1)]) hx hb dX7_redeem_20 rfl hl (by decide) rfl (fun ls hl => ?_)
      refine lv_iload_n hx hb dX7_redeem_21 rfl (lv_at hl 0 rfl) ?_
      refine lv_if_eq (tgt := 69) hx hb dX7_redeem_22 (by decide) (fun c9 => absurd c9 (by decide)) (fun _ => ?_)
      refine lv_aload_n hx hb dX7_redeem_25 rfl (lv_at hl 1 rfl) ?_
      refine sy_getRX7 hx hb hts hown hE hP 0 rfl 38 (by decide) (hts _ (u_in uk_4_228)) (v := .ref (ad 39)) rfl dX7_redeem_26 ?_
      refine lv_iload_n hx hb dX7_redeem_29 rfl (lv_at hl 2 rfl) ?_
      refine sy_ialdN hx hb hE hP 39 rfl (show vp_in x0 40 from (im_ticket hI c_2)) x0.toNatClampNeg rfl (v := g 39 x0.toNatClampNeg) rfl dX7_redeem_30 ?_
      refine lv_if_ne (tgt := 69) hx hb dX7_redeem_31 (by decide) (fun c_7 => ?_) (fun c_7 => ?_)
      · skip
        refine lv_iconst (v := 0) hx hb dX7_redeem_69 (by decide) ?_
        refine lv_istore (lv' := [(4, .int 0), (3, .int 1), (0, .ref (ad 0)), (1, .int x0), (2, .int x1)]) hx hb dX7_redeem_70 hl (by decide) rfl (fun ls hl => ?_)
        refine lv_aload_n hx hb dX7_redeem_72 rfl (lv_at hl 2 rfl) ?_
        refine lv_iload_n hx hb dX7_redeem_73 rfl (lv_at hl 1 rfl) ?_
        refine lv_if_ne (tgt := 81) hx hb dX7_redeem_74 (by decide) (fun _ => ?_) (fun c9 => absurd c9 (by decide))
        refine lv_iload hx hb dX7_redeem_81 (lv_at hl 0 rfl) ?_
        refine lv_if_ne (tgt := 90) hx hb dX7_redeem_83 (by decide) (fun c9 => absurd c9 (by decide)) (fun _ => ?_)
        refine lv_iconst (v := 2) hx hb dX7_redeem_86 (by decide) ?_
        refine lv_goto (tgt := 91) hx hb dX7_redeem_87 (by decide) ?_
        refine sy_ki (sy_rV (o := 0) (As := [.int 2]) (rest := []) ⟨hx, hb, hml, hown, hts⟩ hE hP hS (nX7_refused l hfl Z nT nK cT cK ad g q 2) (cwV 1 hts (gu_V uk_5_104 uk_5_106 uk_0_17 uk_1_9 uk_5_107) rfl rfl rfl (by decide +kernel) ⟨Nat.le_of_ble_eq_true rfl, Nat.le_of_ble_eq_true rfl⟩) (sy_recv (kc := 8) hE hP rfl (by decide) rfl rfl rfl) rfl hl.1 rfl (Nat.le_of_ble_eq_true rfl) dX7_redeem_91 ⟨Nat.le_of_ble_eq_true rfl, Nat.le_of_ble_eq_true rfl⟩) hS (fun r_e_8 g_e_8 q_e_8 H locs e_8 hP hS => ?_)
        cases e_8
        refine sy_top (y := 1) (by rfl) ?_
        refine lv_if_eq (tgt := 99) hx hb dX7_redeem_94 (by decide) (fun c9 => absurd c9 (by decide)) (fun _ => ?_)
        refine lv_iconst (v := 0) hx hb dX7_redeem_97 (by decide) ?_
        exact (sy_ireti hx hb hr hlocks hE hP hS dX7_redeem_98 ⟨Nat.le_of_ble_eq_true rfl, Nat.le_of_ble_eq_true rfl⟩ (by unfold fX7_redeem; rw [if_pos c_2, if_pos c_5, if_neg c_7] <;> rfl))
      · skip
        refine lv_aload_n hx hb dX7_redeem_34 rfl (lv_at hl 1 rfl) ?_
        refine lv_iload_n hx hb dX7_redeem_35 rfl (lv_at hl 2 rfl) ?_
        refine sy_ki (sy_rV (o := 0) (As := [.int x0]) (rest := []) ⟨hx, hb, hml, hown, hts⟩ hE hP hS (mX7_bars l hfl Z nT nK cT cK ad g q x0 hI (show vp_in x0 40 from (im_ticket hI c_2))) (cwV 1 hts (gu_V uk_5_176 uk_5_178 uk_0_25 uk_1_9 uk_5_179) rfl rfl rfl (by decide +kernel) ⟨Nat.le_of_ble_eq_true rfl, Nat.le_of_ble_eq_true rfl⟩) (sy_recv (kc := 8) hE hP rfl (by decide) rfl rfl rfl) rfl hl.1 rfl (Nat.le_of_ble_eq_true rfl) dX7_redeem_36 ⟨Nat.le_of_ble_eq_true rfl, Nat.le_of_ble_eq_true rfl⟩) hS (fun r_e_9 g_e_9 q_e_9 H locs e_9 hP hS => ?_)
        cases e_9
        refine lv_if_ne (tgt := 69) hx hb dX7_redeem_39 (by decide) (fun c_10 => ?_) (fun c_10 => ?_)
        · skip
          refine lv_iconst (v := 0) hx hb dX7_redeem_69 (by decide) ?_
          refine lv_istore (lv' := [(4, .int 0), (3, .int 1), (0, .ref (ad 0)), (1, .int x0), (2, .int x1)]) hx hb dX7_redeem_70 hl (by decide) rfl (fun ls hl => ?_)
          refine lv_aload_n hx hb dX7_redeem_72 rfl (lv_at hl 2 rfl) ?_
          refine lv_iload_n hx hb dX7_redeem_73 rfl (lv_at hl 1 rfl) ?_
          refine lv_if_ne (tgt := 81) hx hb dX7_redeem_74 (by decide) (fun _ => ?_) (fun c9 => absurd c9 (by decide))
          refine lv_iload hx hb dX7_redeem_81 (lv_at hl 0 rfl) ?_
          refine lv_if_ne (tgt := 90) hx hb dX7_redeem_83 (by decide) (fun c9 => absurd c9 (by decide)) (fun _ => ?_)
          refine lv_iconst (v := 2) hx hb dX7_redeem_86 (by decide) ?_
          refine lv_goto (tgt := 91) hx hb dX7_redeem_87 (by decide) ?_
          refine sy_ki (sy_rV (o := 0) (As := [.int 2]) (rest := []) ⟨hx, hb, hml, hown, hts⟩ hE hP hS (nX7_refused l hfl Z nT nK cT cK ad g q 2) (cwV 1 hts (gu_V uk_5_104 uk_5_106 uk_0_17 uk_1_9 uk_5_107) rfl rfl rfl (by decide +kernel) ⟨Nat.le_of_ble_eq_true rfl, Nat.le_of_ble_eq_true rfl⟩) (sy_recv (kc := 8) hE hP rfl (by decide) rfl rfl rfl) rfl hl.1 rfl (Nat.le_of_ble_eq_true rfl) dX7_redeem_91 ⟨Nat.le_of_ble_eq_true rfl, Nat.le_of_ble_eq_true rfl⟩) hS (fun r_e_11 g_e_11 q_e_11 H locs e_11 hP hS => ?_)
          cases e_11
          refine sy_top (y := 1) (by rfl) ?_
          refine lv_if_eq (tgt := 99) hx hb dX7_redeem_94 (by decide) (fun c9 => absurd c9 (by decide)) (fun _ => ?_)
          refine lv_iconst (v := 0) hx hb dX7_redeem_97 (by decide) ?_
          exact (sy_ireti hx hb hr hlocks hE hP hS dX7_redeem_98 ⟨Nat.le_of_ble_eq_true rfl, Nat.le_of_ble_eq_true rfl⟩ (by unfold fX7_redeem; rw [if_pos c_2, if_pos c_5, if_pos c_7, if_neg c_10] <;> rfl))
        · skip
          refine lv_aload_n hx hb dX7_redeem_42 rfl (lv_at hl 1 rfl) ?_
          refine sy_getRX7 hx hb hts hown hE hP 0 rfl 32 (by decide) (hts _ (u_in uk_4_222)) (v := .ref (ad 33)) rfl dX7_redeem_43 ?_
          refine lv_iload_n hx hb dX7_redeem_46 rfl (lv_at hl 2 rfl) ?_
          refine sy_ialdN hx hb hE hP 33 rfl (show vp_in x0 40 from (im_ticket hI c_2)) x0.toNatClampNeg rfl (v := g 33 x0.toNatClampNeg) rfl dX7_redeem_47 ?_
          refine lv_iload_n hx hb dX7_redeem_48 rfl (lv_at hl 3 rfl) ?_
          refine lv_icmp_ne (tgt := 69) hx hb dX7_redeem_49 (by decide) (fun c_12 => ?_) (fun c_12 => ?_)
          · skip
            refine lv_iconst (v := 0) hx hb dX7_redeem_69 (by decide) ?_
            refine lv_istore (lv' := [(4, .int 0), (3, .int 1), (0, .ref (ad 0)), (1, .int x0), (2, .int x1)]) hx hb dX7_redeem_70 hl (by decide) rfl (fun ls hl => ?_)
            refine lv_aload_n hx hb dX7_redeem_72 rfl (lv_at hl 2 rfl) ?_
            refine lv_iload_n hx hb dX7_redeem_73 rfl (lv_at hl 1 rfl) ?_
            refine lv_if_ne (tgt := 81) hx hb dX7_redeem_74 (by decide) (fun _ => ?_) (fun c9 => absurd c9 (by decide))
            refine lv_iload hx hb dX7_redeem_81 (lv_at hl 0 rfl) ?_
            refine lv_if_ne (tgt := 90) hx hb dX7_redeem_83 (by decide) (fun c9 => absurd c9 (by decide)) (fun _ => ?_)
            refine lv_iconst (v := 2) hx hb dX7_redeem_86 (by decide) ?_
            refine lv_goto (tgt := 91) hx hb dX7_redeem_87 (by decide) ?_
            refine sy_ki (sy_rV (o := 0) (As := [.int 2]) (rest := []) ⟨hx, hb, hml, hown, hts⟩ hE hP hS (nX7_refused l hfl Z nT nK cT cK ad g q 2) (cwV 1 hts (gu_V uk_5_104 uk_5_106 uk_0_17 uk_1_9 uk_5_107) rfl rfl rfl (by decide +kernel) ⟨Nat.le_of_ble_eq_true rfl, Nat.le_of_ble_eq_true rfl⟩) (sy_recv (kc := 8) hE hP rfl (by decide) rfl rfl rfl) rfl hl.1 rfl (Nat.le_of_ble_eq_true rfl) dX7_redeem_91 ⟨Nat.le_of_ble_eq_true rfl, Nat.le_of_ble_eq_true rfl⟩) hS (fun r_e_13 g_e_13 q_e_13 H locs e_13 hP hS => ?_)
            cases e_13
            refine sy_top (y := 1) (by rfl) ?_
            refine lv_if_eq (tgt := 99) hx hb dX7_redeem_94 (by decide) (fun c9 => absurd c9 (by decide)) (fun _ => ?_)
            refine lv_iconst (v := 0) hx hb dX7_redeem_97 (by decide) ?_
            exact (sy_ireti hx hb hr hlocks hE hP hS dX7_redeem_98 ⟨Nat.le_of_ble_eq_true rfl, Nat.le_of_ble_eq_true rfl⟩ (by unfold fX7_redeem; rw [if_pos c_2, if_pos c_5, if_pos c_7, if_pos c_10, if_neg c_12] <;> rfl))
          · skip
            refine lv_aload_n hx hb dX7_redeem_52 rfl (lv_at hl 1 rfl) ?_
            refine lv_aload_n hx hb dX7_redeem_53 rfl (lv_at hl 1 rfl) ?_
            refine sy_getRX7 hx hb hts hown hE hP 0 rfl 29 (by decide) (hts _ (u_in uk_4_219)) (v := .ref (ad 30)) rfl dX7_redeem_54 ?_
            refine lv_iload_n hx hb dX7_redeem_57 rfl (lv_at hl 2 rfl) ?_
            refine sy_ialdN hx hb hE hP 30 rfl (show vp_in x0 40 from (im_ticket hI c_2)) x0.toNatClampNeg rfl (v := g 30 x0.toNatClampNeg) rfl dX7_redeem_58 ?_
            refine sy_ki (sy_rV (o := 0) (As := [.int (g 30 x0.toNatClampNeg)]) (rest := []) ⟨hx, hb, hml, hown, hts⟩ hE hP hS (mX7_isFound l hfl Z nT nK cT cK ad g q (g 30 x0.toNatClampNeg) hI (show vp_in (g 30 x0.toNatClampNeg) 40 from (im_thingOf hI (im_ticket hI c_2)))) (cwV 1 hts (gu_V uk_5_180 uk_5_182 uk_0_26 uk_1_9 uk_5_183) rfl rfl rfl (by decide +kernel) ⟨Nat.le_of_ble_eq_true rfl, Nat.le_of_ble_eq_true rfl⟩) (sy_recv (kc := 8) hE hP rfl (by decide) rfl rfl rfl) rfl hl.1 rfl (Nat.le_of_ble_eq_true rfl) dX7_redeem_59 ⟨Nat.le_of_ble_eq_true rfl, Nat.le_of_ble_eq_true rfl⟩) hS (fun r_e_14 g_e_14 q_e_14 H locs e_14 hP hS => ?_)
            cases e_14
            refine lv_if_eq (tgt := 69) hx hb dX7_redeem_62 (by decide) (fun c_15 => ?_) (fun c_15 => ?_)
            · skip
              refine lv_iconst (v := 0) hx hb dX7_redeem_69 (by decide) ?_
              refine lv_istore (lv' := [(4, .int 0), (3, .int 1), (0, .ref (ad 0)), (1, .int x0), (2, .int x1)]) hx hb dX7_redeem_70 hl (by decide) rfl (fun ls hl => ?_)
              refine lv_aload_n hx hb dX7_redeem_72 rfl (lv_at hl 2 rfl) ?_
              refine lv_iload_n hx hb dX7_redeem_73 rfl (lv_at hl 1 rfl) ?_
              refine lv_if_ne (tgt := 81) hx hb dX7_redeem_74 (by decide) (fun _ => ?_) (fun c9 => absurd c9 (by decide))
              refine lv_iload hx hb dX7_redeem_81 (lv_at hl 0 rfl) ?_
              refine lv_if_ne (tgt := 90) hx hb dX7_redeem_83 (by decide) (fun c9 => absurd c9 (by decide)) (fun _ => ?_)
              refine lv_iconst (v := 2) hx hb dX7_redeem_86 (by decide) ?_
              refine lv_goto (tgt := 91) hx hb dX7_redeem_87 (by decide) ?_
              refine sy_ki (sy_rV (o := 0) (As := [.int 2]) (rest := []) ⟨hx, hb, hml, hown, hts⟩ hE hP hS (nX7_refused l hfl Z nT nK cT cK ad g q 2) (cwV 1 hts (gu_V uk_5_104 uk_5_106 uk_0_17 uk_1_9 uk_5_107) rfl rfl rfl (by decide +kernel) ⟨Nat.le_of_ble_eq_true rfl, Nat.le_of_ble_eq_true rfl⟩) (sy_recv (kc := 8) hE hP rfl (by decide) rfl rfl rfl) rfl hl.1 rfl (Nat.le_of_ble_eq_true rfl) dX7_redeem_91 ⟨Nat.le_of_ble_eq_true rfl, Nat.le_of_ble_eq_true rfl⟩) hS (fun r_e_16 g_e_16 q_e_16 H locs e_16 hP hS => ?_)
              cases e_16
              refine sy_top (y := 1) (by rfl) ?_
              refine lv_if_eq (tgt := 99) hx hb dX7_redeem_94 (by decide) (fun c9 => absurd c9 (by decide)) (fun _ => ?_)
              refine lv_iconst (v := 0) hx hb dX7_redeem_97 (by decide) ?_
              exact (sy_ireti hx hb hr hlocks hE hP hS dX7_redeem_98 ⟨Nat.le_of_ble_eq_true rfl, Nat.le_of_ble_eq_true rfl⟩ (by unfold fX7_redeem; rw [if_pos c_2, if_pos c_5, if_pos c_7, if_pos c_10, if_pos c_12, if_pos c_15] <;> rfl))
            · skip
              refine lv_iconst (v := 1) hx hb dX7_redeem_65 (by decide) ?_
              refine lv_goto (tgt := 70) hx hb dX7_redeem_66 (by decide) ?_
              refine lv_istore (lv' := [(4, .int 1), (3, .int 1), (0, .ref (ad 0)), (1, .int x0), (2, .int x1)]) hx hb dX7_redeem_70 hl (by decide) rfl (fun ls hl => ?_)
              refine lv_aload_n hx hb dX7_redeem_72 rfl (lv_at hl 2 rfl) ?_
              refine lv_iload_n hx hb dX7_redeem_73 rfl (lv_at hl 1 rfl) ?_
              refine lv_if_ne (tgt := 81) hx hb dX7_redeem_74 (by decide) (fun _ => ?_) (fun c9 => absurd c9 (by decide))
              refine lv_iload hx hb dX7_redeem_81 (lv_at hl 0 rfl) ?_
              refine lv_if_ne (tgt := 90) hx hb dX7_redeem_83 (by decide) (fun _ => ?_) (fun c9 => absurd c9 (by decide))
              refine lv_iconst (v := 0) hx hb dX7_redeem_90 (by decide) ?_
              refine sy_ki (sy_rV (o := 0) (As := [.int 0]) (rest := []) ⟨hx, hb, hml, hown, hts⟩ hE hP hS (nX7_refused l hfl Z nT nK cT cK ad g q 0) (cwV 1 hts (gu_V uk_5_104 uk_5_106 uk_0_17 uk_1_9 uk_5_107) rfl rfl rfl (by decide +kernel) ⟨Nat.le_of_ble_eq_true rfl, Nat.le_of_ble_eq_true rfl⟩) (sy_recv (kc := 8) hE hP rfl (by decide) rfl rfl rfl) rfl hl.1 rfl (Nat.le_of_ble_eq_true rfl) dX7_redeem_91 ⟨Nat.le_of_ble_eq_true rfl, Nat.le_of_ble_eq_true rfl⟩) hS (fun r_e_17 g_e_17 q_e_17 H locs e_17 hP hS => ?_)
              cases e_17
              refine sy_top (y := 0) (by rfl) ?_
              refine lv_if_eq (tgt := 99) hx hb dX7_redeem_94 (by decide) (fun _ => ?_) (fun c9 => absurd c9 (by decide))
              refine lv_aload_n hx hb dX7_redeem_99 rfl (lv_at hl 2 rfl) ?_
              refine sy_getRX7 hx hb hts hown hE hP 0 rfl 34 (by decide) (hts _ (u_in uk_4_224)) (v := .ref (ad 35)) rfl dX7_redeem_100 ?_
              refine lv_iload_n hx hb dX7_redeem_103 rfl (lv_at hl 3 rfl) ?_
              refine sy_ialdN hx hb hE hP 35 rfl (show vp_in x0 40 from (im_ticket hI c_2)) x0.toNatClampNeg rfl (v := g 35 x0.toNatClampNeg) rfl dX7_redeem_104 ?_
              refine lv_aload_n hx hb dX7_redeem_105 rfl (lv_at hl 2 rfl) ?_
              refine lv_iload_n hx hb dX7_redeem_106 rfl (lv_at hl 3 rfl) ?_
              refine sy_ki (sy_rV (o := 0) (As := [.int x0]) (rest := [.int (g 35 x0.toNatClampNeg)]) ⟨hx, hb, hml, hown, hts⟩ hE hP hS (mX7_interest l hfl Z nT nK cT cK ad (sy_up g 0 0 0) q x0 (im_0 (by decide) hI) (show vp_in x0 40 from (im_ticket hI c_2))) (cwV 1 hts (gu_V uk_5_184 uk_5_186 uk_0_27 uk_1_9 uk_5_187) rfl rfl rfl (by decide +kernel) ⟨Nat.le_of_ble_eq_true rfl, Nat.le_of_ble_eq_true rfl⟩) (sy_recv (kc := 8) hE hP rfl (by decide) rfl rfl rfl) rfl hl.1 rfl (Nat.le_of_ble_eq_true rfl) dX7_redeem_107 ⟨Nat.le_of_ble_eq_true rfl, Nat.le_of_ble_eq_true rfl⟩) hS (fun r_e_18 g_e_18 q_e_18 H locs e_18 hP hS => ?_)
              cases e_18
              refine lv_iadd hx hb dX7_redeem_110 ?_
              refine lv_istore (lv' := [(5, .int ((g 35 x0.toNatClampNeg) + (fX7_interest (sy_up g 0 0 0) q x0))), (4, .int 1), (3, .int 1), (0, .ref (ad 0)), (1, .int x0), (2, .int x1)]) hx hb dX7_redeem_111 hl (by decide) rfl (fun ls hl => ?_)
              refine lv_aload_n hx hb dX7_redeem_113 rfl (lv_at hl 3 rfl) ?_
              refine lv_dup hx hb dX7_redeem_114 rfl ?_
              refine sy_getRX7 hx hb hts hown hE hP 0 rfl 44 (by decide) (hts _ (u_in uk_4_234)) (v := .int (g 0 44)) rfl dX7_redeem_115 ?_
              refine lv_iload hx hb dX7_redeem_118 (lv_at hl 0 rfl) ?_
              refine lv_iadd hx hb dX7_redeem_120 ?_
              refine sy_putRX7 hx hb hts hown hE hP hS 0 rfl 44 (by decide) (hts _ (u_in uk_4_234)) rfl (ty := .int) (by decide +kernel) rfl rfl (sy_up (sy_up g 0 0 0) 0 44 ((g 0 44) + ((g 35 x0.toNatClampNeg) + (fX7_interest (sy_up g 0 0 0) q x0)))) q (by rw [sy_up_s]; rfl) (fun _ h9 => sy_up_o _ _ _ h9) (fun _ _ => rfl) dX7_redeem_121 (fun H locs hP hS => ?_)
              refine lv_aload_n hx hb dX7_redeem_124 rfl (lv_at hl 3 rfl) ?_
              refine sy_getRX7 hx hb hts hown hE hP 0 rfl 38 (by decide) (hts _ (u_in uk_4_228)) (v := .ref (ad 39)) rfl dX7_redeem_125 ?_
              refine lv_iload_n hx hb dX7_redeem_128 rfl (lv_at hl 4 rfl) ?_
              refine lv_iconst (v := 1) hx hb dX7_redeem_129 (by decide) ?_
              refine sy_iastN hx hb hE hP hS 39 rfl (show vp_in x0 40 from (im_ticket hI c_2)) x0.toNatClampNeg rfl dX7_redeem_130 (fun H locs hP hS => ?_)
              refine lv_aload_n hx hb dX7_redeem_131 rfl (lv_at hl 3 rfl) ?_
              refine sy_getRX7 hx hb hts hown hE hP 0 rfl 7 (by decide) (hts _ (u_in uk_4_197)) (v := .ref (ad 8)) rfl dX7_redeem_132 ?_
              refine lv_aload_n hx hb dX7_redeem_135 rfl (lv_at hl 3 rfl) ?_
              refine sy_getRX7 hx hb hts hown hE hP 0 rfl 29 (by decide) (hts _ (u_in uk_4_219)) (v := .ref (ad 30)) rfl dX7_redeem_136 ?_
              refine lv_iload_n hx hb dX7_redeem_139 rfl (lv_at hl 4 rfl) ?_
              refine sy_ialdN hx hb hE hP 30 rfl (show vp_in x0 40 from (im_ticket hI c_2)) x0.toNatClampNeg rfl (v := g 30 x0.toNatClampNeg) rfl dX7_redeem_140 ?_
              refine lv_iconst (v := 0) hx hb dX7_redeem_141 (by decide) ?_
              refine sy_zastN hx hb hE hP hS 8 rfl (show vp_in (g 30 x0.toNatClampNeg) 40 from (im_thingOf hI (im_ticket hI c_2))) (by decide) ((g 30 x0.toNatClampNeg).toNatClampNeg) rfl dX7_redeem_142 (fun H locs hP hS => ?_)
              refine lv_iload hx hb dX7_redeem_143 (lv_at hl 0 rfl) ?_
              exact (sy_ireti hx hb hr hlocks hE hP hS dX7_redeem_145 ⟨Nat.le_of_ble_eq_true rfl, Nat.le_of_ble_eq_true rfl⟩ (by unfold fX7_redeem; rw [if_pos c_2, if_pos c_5, if_pos c_7, if_pos c_10, if_pos c_12, if_neg c_15] <;> rfl))
def fX7_renew (g : sG) (q : sQ) (x0 x1 x2 : Int32) : Int32 × sG := (if 0 ≤ x0 ∧ x0 ≤ (g 0 28) - 1 then (if 0 ≤ x1 ∧ x1 ≤ 9 then (if 0 ≤ x2 ∧ x2 ≤ ((g 35 x0.toNatClampNeg) - 1) then (if (g 39 x0.toNatClampNeg) = 0 then (if (fX7_bars g q x0) = 0 then (if (g 33 x0.toNatClampNeg) = x1 then (((fX7_interest (sy_up g 0 0 0) q x0) + x2), (sy_up (sy_up (sy_up (sy_up (sy_up g 0 0 0) 0 44 ((g 0 44) + ((fX7_interest (sy_up g 0 0 0) q x0) + x2))) 35 x0.toNatClampNeg ((g 35 x0.toNatClampNeg) - x2)) 37 x0.toNatClampNeg (g 0 1)) 38 x0.toNatClampNeg (g 0 27))) else (0, (sy_up g 0 0 3))) else (0, (sy_up g 0 0 3))) else (0, (sy_up g 0 0 3))) else (if (g 39 x0.toNatClampNeg) = 0 then (if (fX7_bars g q x0) = 0 then (if (g 33 x0.toNatClampNeg) = x1 then (0, (sy_up g 0 0 2)) else (0, (sy_up g 0 0 2))) else (0, (sy_up g 0 0 2))) else (0, (sy_up g 0 0 2)))) else (0, (sy_up g 0 0 1))) else (0, (sy_up g 0 0 1)))
set_option maxHeartbeats 4000000 in
set_option maxRecDepth 100000 in
theorem mX7_renew (l : Launch) (hfl : l.stackTraces = false) (Z : sZ) (nT nK cT cK : Nat) (ad : Nat → Nat) (g : sG) (q : sQ) (x0 x1 x2 : Int32) (hI : IM nT nK g) : sMi l Z yX7_renew (uW (.code yX7_renew cX7_renew 8 (some .int))) { frames := 2, cells := 0, slots := 0, locals := 49 } [.ref (ad 0), .int x0, .int x1, .int x2] nT nK cT cK ad g q (fun r g1 q1 => (r, g1, q1) = ((fX7_renew g q x0 x1 x2).1, (fX7_renew g q x0 x1 x2).2, q)) := by
  refine Met.ofW (cc := cX7_renew) (maxL := 8) (ret := (some .int)) (by decide) rfl ?_
  intro p e s m args below meth c s₁ B hml hv
  obtain ⟨rfl, hE, hP⟩ := hv
  have hx := B.exec
  have hb := B.bytes
  have hr := B.returns
  have hts := atoms_spec (ws := uW (.code yX7_renew cX7_renew 8 (some .int))) B.pre
  have hown : s.vm.findClass RX7 = some m.cls := findClass_of_methodNamed B.named
  have hlocks := B.notSynchronized
  have hS : va_S (sy_A Z) s.heap s.heap [] := va_S.rf
  have hl := lv_entry ([.ref (ad 0), .int x0, .int x1, .int x2]) (n := 8) (Nat.le_of_ble_eq_true rfl)
  rw [lg_entry_eq]
  generalize (lg_sl ([.ref (ad 0), .int x0, .int x1, .int x2]) ++ List.replicate (8 - (lg_sl ([.ref (ad 0), .int x0, .int x1, .int x2])).length) Slot.unset).toArray = ls at hl ⊢
  have hl : lv_has ls 8 [(0, .ref (ad 0)), (1, .int x0), (2, .int x1), (3, .int x2)] := hl
  refine lv_aload_n hx hb dX7_renew_0 rfl (lv_at hl 0 rfl) ?_
  refine lv_iload_n hx hb dX7_renew_1 rfl (lv_at hl 1 rfl) ?_
  refine sy_ki (sy_rV (o := 0) (As := [.int x0]) (rest := []) ⟨hx, hb, hml, hown, hts⟩ hE hP hS (mX7_isTicket l hfl Z nT nK cT cK ad g q x0) (cwV 1 hts (gu_V uk_5_172 uk_5_174 uk_0_24 uk_1_9 uk_5_175) rfl rfl rfl (by decide +kernel) ⟨Nat.le_of_ble_eq_true rfl, Nat.le_of_ble_eq_true rfl⟩) (sy_recv (kc := 8) hE hP rfl (by decide) rfl rfl rfl) rfl hl.1 rfl (Nat.le_of_ble_eq_true rfl) dX7_renew_2 ⟨Nat.le_of_ble_eq_true rfl, Nat.le_of_ble_eq_true rfl⟩) hS (fun r_e_1 g_e_1 q_e_1 H locs e_1 hP hS => ?_)
  cases e_1
  refine sy_top (y := (iB (0 ≤ x0 ∧ x0 ≤ (g 0 28) - 1))) (by rfl) ?_
  refine lv_if_eq (tgt := 19) hx hb dX7_renew_5 (by decide) (fun c_2 => ?_) (fun c_2 => ?_)
  · have c_2 := iB_0.mp c_2
    refine lv_iconst (v := 0) hx hb dX7_renew_19 (by decide) ?_
    refine lv_istore (lv' := [(4, .int 0), (0, .ref (ad 0)), (1, .int x0), (2, .int x1), (3, .int x2)]) hx hb dX7_renew_20 hl (by decide) rfl (fun ls hl => ?_)
    refine lv_iload hx hb dX7_renew_22 (lv_at hl 0 rfl) ?_
    refine lv_if_eq (tgt := 47) hx hb dX7_renew_24 (by decide) (fun _ => ?_) (fun c9 => absurd c9 (by decide))
    refine lv_iconst (v := 0) hx hb dX7_renew_47 (by decide) ?_
    refine lv_istore (lv' := [(5, .int 0), (4, .int 0), (0, .ref (ad 0)), (1, .int x0), (2, .int x1), (3, .int x2)]) hx hb dX7_renew_48 hl (by decide) rfl (fun ls hl => ?_)
    refine lv_iload hx hb dX7_renew_50 (lv_at hl 1 rfl) ?_
    refine lv_if_eq (tgt := 86) hx hb dX7_renew_52 (by decide) (fun _ => ?_) (fun c9 => absurd c9 (by decide))
    refine lv_iconst (v := 0) hx hb dX7_renew_86 (by decide) ?_
    refine lv_istore (lv' := [(6, .int 0), (5, .int 0), (4, .int 0), (0, .ref (ad 0)), (1, .int x0), (2, .int x1), (3, .int x2)]) hx hb dX7_renew_87 hl (by decide) rfl (fun ls hl => ?_)
    refine lv_aload_n hx hb dX7_renew_89 rfl (lv_at hl 3 rfl) ?_
    refine lv_iload hx hb dX7_renew_90 (lv_at hl 2 rfl) ?_
    refine lv_if_ne (tgt := 99) hx hb dX7_renew_92 (by decide) (fun c9 => absurd c9 (by decide)) (fun _ => ?_)
    refine lv_iconst (v := 1) hx hb dX7_renew_95 (by decide) ?_
    refine lv_goto (tgt := 118) hx hb dX7_renew_96 (by decide) ?_
    refine sy_ki (sy_rV (o := 0) (As := [.int 1]) (rest := []) ⟨hx, hb, hml, hown, hts⟩ hE hP hS (nX7_refused l hfl Z nT nK cT cK ad g q 1) (cwV 1 hts (gu_V uk_5_104 uk_5_106 uk_0_17 uk_1_9 uk_5_107) rfl rfl rfl (by decide +kernel) ⟨Nat.le_of_ble_eq_true rfl, Nat.le_of_ble_eq_true rfl⟩) (sy_recv (kc := 8) hE hP rfl (by decide) rfl rfl rfl) rfl hl.1 rfl (Nat.le_of_ble_eq_true rfl) dX7_renew_118 ⟨Nat.le_of_ble_eq_true rfl, Nat.le_of_ble_eq_true rfl⟩) hS (fun r_e_3 g_e_3 q_e_3 H locs e_3 hP hS => ?_)
    cases e_3
    refine sy_top (y := 1) (by rfl) ?_
    refine lv_if_eq (tgt := 126) hx hb dX7_renew_121 (by decide) (fun c9 => absurd c9 (by decide)) (fun _ => ?_)
    refine lv_iconst (v := 0) hx hb dX7_renew_124 (by decide) ?_
    exact (sy_ireti hx hb hr hlocks hE hP hS dX7_renew_125 ⟨Nat.le_of_ble_eq_true rfl, Nat.le_of_ble_eq_true rfl⟩ (by unfold fX7_renew; rw [if_neg c_2] <;> rfl))
  · have c_2 := iB_n.mp c_2
    refine lv_iload_n hx hb dX7_renew_8 rfl (lv_at hl 2 rfl) ?_
    refine sy_ki (sy_rS (As := [.int x1]) (rest := []) ⟨hx, hb, hml, hown, hts⟩ hE hP hS (mX7_isPerson l hfl Z nT nK cT cK ad g q x1) (va_cwS 1 hts (gu_S uk_5_120 uk_5_121 uk_1_9 uk_5_122) rfl rfl rfl (by decide +kernel) ⟨Nat.le_of_ble_eq_true rfl, Nat.le_of_ble_eq_true rfl⟩) rfl hl.1 rfl (Nat.le_of_ble_eq_true rfl) dX7_renew_9 ⟨Nat.le_of_ble_eq_true rfl, Nat.le_of_ble_eq_true rfl⟩) hS (fun r_e_4 g_e_4 q_e_4 H locs e_4 hP hS => ?_)
    cases e_4
    refine sy_top (y := (iB (0 ≤ x1 ∧ x1 ≤ 9))) (by rfl) ?_
    refine lv_if_eq (tgt := 19) hx hb dX7_renew_12 (by decide) (fun c_5 => ?_) (fun c_5 => ?_)
    · have c_5 := iB_0.mp c_5
      refine lv_iconst (v := 0) hx hb dX7_renew_19 (by decide) ?_
      refine lv_istore (lv' := [(4, .int 0), (0, .ref (ad 0)), (1, .int x0), (2, .int x1), (3, .int x2)]) hx hb dX7_renew_20 hl (by decide) rfl (fun ls hl => ?_)
      refine lv_iload hx hb dX7_renew_22 (lv_at hl 0 rfl) ?_
      refine lv_if_eq (tgt := 47) hx hb dX7_renew_24 (by decide) (fun _ => ?_) (fun c9 => absurd c9 (by decide))
      refine lv_iconst (v := 0) hx hb dX7_renew_47 (by decide) ?_
      refine lv_istore (lv' := [(5, .int 0), (4, .int 0), (0, .ref (ad 0)), (1, .int x0), (2, .int x1), (3, .int x2)]) hx hb dX7_renew_48 hl (by decide) rfl (fun ls hl => ?_)
      refine lv_iload hx hb dX7_renew_50 (lv_at hl 1 rfl) ?_
      refine lv_if_eq (tgt := 86) hx hb dX7_renew_52 (by decide) (fun _ => ?_) (fun c9 => absurd c9 (by decide))
      refine lv_iconst (v := 0) hx hb dX7_renew_86 (by decide) ?_
      refine lv_istore (lv' := [(6, .int 0), (5, .int 0), (4, .int 0), (0, .ref (ad 0)), (1, .int x0), (2, .int x1), (3, .int x2)]) hx hb dX7_renew_87 hl (by decide) rfl (fun ls hl => ?_)
      refine lv_aload_n hx hb dX7_renew_89 rfl (lv_at hl 3 rfl) ?_
      refine lv_iload hx hb dX7_renew_90 (lv_at hl 2 rfl) ?_
      refine lv_if_ne (tgt := 99) hx hb dX7_renew_92 (by decide) (fun c9 => absurd c9 (by decide)) (fun _ => ?_)
      refine lv_iconst (v := 1) hx hb dX7_renew_95 (by decide) ?_
      refine lv_goto (tgt := 118) hx hb dX7_renew_96 (by decide) ?_
      refine sy_ki (sy_rV (o := 0) (As := [.int 1]) (rest := []) ⟨hx, hb, hml, hown, hts⟩ hE hP hS (nX7_refused l hfl Z nT nK cT cK ad g q 1) (cwV 1 hts (gu_V uk_5_104 uk_5_106 uk_0_17 uk_1_9 uk_5_107) rfl rfl rfl (by decide +kernel) ⟨Nat.le_of_ble_eq_true rfl, Nat.le_of_ble_eq_true rfl⟩) (sy_recv (kc := 8) hE hP rfl (by decide) rfl rfl rfl) rfl hl.1 rfl (Nat.le_of_ble_eq_true rfl) dX7_renew_118 ⟨Nat.le_of_ble_eq_true rfl, Nat.le_of_ble_eq_true rfl⟩) hS (fun r_e_6 g_e_6 q_e_6 H locs e_6 hP hS => ?_)
      cases e_6
      refine sy_top (y := 1) (by rfl) ?_
      refine lv_if_eq (tgt := 126) hx hb dX7_renew_121 (by decide) (fun c9 => absurd c9 (by decide)) (fun _ => ?_)
      refine lv_iconst (v := 0) hx hb dX7_renew_124 (by decide) ?_
      exact (sy_ireti hx hb hr hlocks hE hP hS dX7_renew_125 ⟨Nat.le_of_ble_eq_true rfl, Nat.le_of_ble_eq_true rfl⟩ (by unfold fX7_renew; rw [if_pos c_2, if_neg c_5] <;> rfl))
    · have c_5 := iB_n.mp c_5
      refine lv_iconst (v := 1) hx hb dX7_renew_15 (by decide) ?_
      refine lv_goto (tgt := 20) hx hb dX7_renew_16 (by decide) ?_
      refine lv_istore (lv' := [(4, .int 1), (0, .ref (ad 0)), (1, .int x0), (2, .int x1), (3, .int x2)]) hx hb dX7_renew_20 hl (by decide) rfl (fun ls hl => ?_)
      refine lv_iload hx hb dX7_renew_22 (lv_at hl 0 rfl) ?_
      refine lv_if_eq (tgt := 47) hx hb dX7_renew_24 (by decide) (fun c9 => absurd c9 (by decide)) (fun _ => ?_)
      refine lv_iload_n hx hb dX7_renew_27 rfl (lv_at hl 4 rfl) ?_
      refine lv_iconst (v := 0) hx hb dX7_renew_28 (by decide) ?_
      refine lv_aload_n hx hb dX7_renew_29 rfl (lv_at hl 1 rfl) ?_
      refine sy_getRX7 hx hb hts hown hE hP 0 rfl 34 (by decide) (hts _ (u_in uk_4_224)) (v := .ref (ad 35)) rfl dX7_renew_30 ?_
      refine lv_iload_n hx hb dX7_renew_33 rfl (lv_at hl 2 rfl) ?_
      refine sy_ialdN hx hb hE hP 35 rfl (show vp_in x0 40 from (im_ticket hI c_2)) x0.toNatClampNeg rfl (v := g 35 x0.toNatClampNeg) rfl dX7_renew_34 ?_
      refine lv_iconst (v := 1) hx hb dX7_renew_35 (by decide) ?_
      refine lv_isub hx hb dX7_renew_36 ?_
      refine sy_ki (sy_rS (As := [.int x2, .int 0, .int ((g 35 x0.toNatClampNeg) - 1)]) (rest := []) ⟨hx, hb, hml, hown, hts⟩ hE hP hS (nX7_is l hfl Z nT nK cT cK ad g q x2 0 ((g 35 x0.toNatClampNeg) - 1)) (va_cwS 3 hts (gu_S uk_5_101 uk_5_102 uk_1_9 uk_5_103) rfl rfl rfl (by decide +kernel) ⟨Nat.le_of_ble_eq_true rfl, Nat.le_of_ble_eq_true rfl⟩) rfl hl.1 rfl (Nat.le_of_ble_eq_true rfl) dX7_renew_37 ⟨Nat.le_of_ble_eq_true rfl, Nat.le_of_ble_eq_true rfl⟩) hS (fun r_e_7 g_e_7 q_e_7 H locs e_7 hP hS => ?_)
      cases e_7
      refine lv_if_eq (tgt := 47) hx hb dX7_renew_40 (by decide) (fun c_8 => ?_) (fun c_8 => ?_)
      · have c_8 := iB_0.mp c_8
        refine lv_iconst (v := 0) hx hb dX7_renew_47 (by decide) ?_
        refine lv_istore (lv' := [(5, .int 0), (4, .int 1), (0, .ref (ad 0)), (1, .int x0), (2, .int x1), (3, .int x2)]) hx hb dX7_renew_48 hl (by decide) rfl (fun ls hl => ?_)
        refine lv_iload hx hb dX7_renew_50 (lv_at hl 1 rfl) ?_
        refine lv_if_eq (tgt := 86) hx hb dX7_renew_52 (by decide) (fun c9 => absurd c9 (by decide)) (fun _ => ?_)
        refine lv_aload_n hx hb dX7_renew_55 rfl (lv_at hl 2 rfl) ?_
        refine sy_getRX7 hx hb hts hown hE hP 0 rfl 38 (by decide) (hts _ (u_in uk_4_228)) (v := .ref (ad 39)) rfl dX7_renew_56 ?_
        refine lv_iload_n hx hb dX7_renew_59 rfl (lv_at hl 3 rfl) ?_
        refine sy_ialdN hx hb hE hP 39 rfl (show vp_in x0 40 from (im_ticket hI c_2)) x0.toNatClampNeg rfl (v := g 39 x0.toNatClampNeg) rfl dX7_renew_60 ?_
        refine lv_if_ne (tgt := 86) hx hb dX7_renew_61 (by decide) (fun c_9 => ?_) (fun c_9 => ?_)
        · skip
          refine lv_iconst (v := 0) hx hb dX7_renew_86 (by decide) ?_
          refine lv_istore (lv' := [(6, .int 0), (5, .int 0), (4, .int 1), (0, .ref (ad 0)), (1, .int x0), (2, .int x1), (3, .int x2)]) hx hb dX7_renew_87 hl (by decide) rfl (fun ls hl => ?_)
          refine lv_aload_n hx hb dX7_renew_89 rfl (lv_at hl 3 rfl) ?_
          refine lv_iload hx hb dX7_renew_90 (lv_at hl 2 rfl) ?_
          refine lv_if_ne (tgt := 99) hx hb dX7_renew_92 (by decide) (fun _ => ?_) (fun c9 => absurd c9 (by decide))
          refine lv_iload hx hb dX7_renew_99 (lv_at hl 1 rfl) ?_
          refine lv_if_ne (tgt := 108) hx hb dX7_renew_101 (by decide) (fun c9 => absurd c9 (by decide)) (fun _ => ?_)
          refine lv_iconst (v := 2) hx hb dX7_renew_104 (by decide) ?_
          refine lv_goto (tgt := 118) hx hb dX7_renew_105 (by decide) ?_
          refine sy_ki (sy_rV (o := 0) (As := [.int 2]) (rest := []) ⟨hx, hb, hml, hown, hts⟩ hE hP hS (nX7_refused l hfl Z nT nK cT cK ad g q 2) (cwV 1 hts (gu_V uk_5_104 uk_5_106 uk_0_17 uk_1_9 uk_5_107) rfl rfl rfl (by decide +kernel) ⟨Nat.le_of_ble_eq_true rfl, Nat.le_of_ble_eq_true rfl⟩) (sy_recv (kc := 8) hE hP rfl (by decide) rfl rfl rfl) rfl hl.1 rfl (Nat.le_of_ble_eq_true rfl) dX7_renew_118 ⟨Nat.le_of_ble_eq_true rfl, Nat.le_of_ble_eq_true rfl⟩) hS (fun r_e_10 g_e_10 q_e_10 H locs e_10 hP hS => ?_)
          cases e_10
          refine sy_top (y := 1) (by rfl) ?_
          refine lv_if_eq (tgt := 126) hx hb dX7_renew_121 (by decide) (fun c9 => absurd c9 (by decide)) (fun _ => ?_)
          refine lv_iconst (v := 0) hx hb dX7_renew_124 (by decide) ?_
          exact (sy_ireti hx hb hr hlocks hE hP hS dX7_renew_125 ⟨Nat.le_of_ble_eq_true rfl, Nat.le_of_ble_eq_true rfl⟩ (by unfold fX7_renew; rw [if_pos c_2, if_pos c_5, if_neg c_8, if_neg c_9] <;> rfl))
        · skip
          refine lv_aload_n hx hb dX7_renew_64 rfl (lv_at hl 2 rfl) ?_
          refine lv_iload_n hx hb dX7_renew_65 rfl (lv_at hl 3 rfl) ?_
          refine sy_ki (sy_rV (o := 0) (As := [.int x0]) (rest := []) ⟨hx, hb, hml, hown, hts⟩ hE hP hS (mX7_bars l hfl Z nT nK cT cK ad g q x0 hI (show vp_in x0 40 from (im_ticket hI c_2))) (cwV 1 hts (gu_V uk_5_176 uk_5_178 uk_0_25 uk_1_9 uk_5_179) rfl rfl rfl (by decide +kernel) ⟨Nat.le_of_ble_eq_true rfl, Nat.le_of_ble_eq_true rfl⟩) (sy_recv (kc := 8) hE hP rfl (by decide) rfl rfl rfl) rfl hl.1 rfl (Nat.le_of_ble_eq_true rfl) dX7_renew_66 ⟨Nat.le_of_ble_eq_true rfl, Nat.le_of_ble_eq_true rfl⟩) hS (fun r_e_11 g_e_11 q_e_11 H locs e_11 hP hS => ?_)
          cases e_11
          refine lv_if_ne (tgt := 86) hx hb dX7_renew_69 (by decide) (fun c_12 => ?_) (fun c_12 => ?_)
          · skip
            refine lv_iconst (v := 0) hx hb dX7_renew_86 (by decide) ?_
            refine lv_istore (lv' := [(6, .int 0), (5, .int 0), (4, .int 1), (0, .ref (ad 0)), (1, .int x0), (2, .int x1), (3, .int x2)]) hx hb dX7_renew_87 hl (by decide) rfl (fun ls hl => ?_)
            refine lv_aload_n hx hb dX7_renew_89 rfl (lv_at hl 3 rfl) ?_
            refine lv_iload hx hb dX7_renew_90 (lv_at hl 2 rfl) ?_
            refine lv_if_ne (tgt := 99) hx hb dX7_renew_92 (by decide) (fun _ => ?_) (fun c9 => absurd c9 (by decide))
            refine lv_iload hx hb dX7_renew_99 (lv_at hl 1 rfl) ?_
            refine lv_if_ne (tgt := 108) hx hb dX7_renew_101 (by decide) (fun c9 => absurd c9 (by decide)) (fun _ => ?_)
            refine lv_iconst (v := 2) hx hb dX7_renew_104 (by decide) ?_
            refine lv_goto (tgt := 118) hx hb dX7_renew_105 (by decide) ?_
            refine sy_ki (sy_rV (o := 0) (As := [.int 2]) (rest := []) ⟨hx, hb, hml, hown, hts⟩ hE hP hS (nX7_refused l hfl Z nT nK cT cK ad g q 2) (cwV 1 hts (gu_V uk_5_104 uk_5_106 uk_0_17 uk_1_9 uk_5_107) rfl rfl rfl (by decide +kernel) ⟨Nat.le_of_ble_eq_true rfl, Nat.le_of_ble_eq_true rfl⟩) (sy_recv (kc := 8) hE hP rfl (by decide) rfl rfl rfl) rfl hl.1 rfl (Nat.le_of_ble_eq_true rfl) dX7_renew_118 ⟨Nat.le_of_ble_eq_true rfl, Nat.le_of_ble_eq_true rfl⟩) hS (fun r_e_13 g_e_13 q_e_13 H locs e_13 hP hS => ?_)
            cases e_13
            refine sy_top (y := 1) (by rfl) ?_
            refine lv_if_eq (tgt := 126) hx hb dX7_renew_121 (by decide) (fun c9 => absurd c9 (by decide)) (fun _ => ?_)
            refine lv_iconst (v := 0) hx hb dX7_renew_124 (by decide) ?_
            exact (sy_ireti hx hb hr hlocks hE hP hS dX7_renew_125 ⟨Nat.le_of_ble_eq_true rfl, Nat.le_of_ble_eq_true rfl⟩ (by unfold fX7_renew; rw [if_pos c_2, if_pos c_5, if_neg c_8, if_pos c_9, if_neg c_12] <;> rfl))
          · skip
            refine lv_aload_n hx hb dX7_renew_72 rfl (lv_at hl 2 rfl) ?_
            refine sy_getRX7 hx hb hts hown hE hP 0 rfl 32 (by decide) (hts _ (u_in uk_4_222)) (v := .ref (ad 33)) rfl dX7_renew_73 ?_
            refine lv_iload_n hx hb dX7_renew_76 rfl (lv_at hl 3 rfl) ?_
            refine sy_ialdN hx hb hE hP 33 rfl (show vp_in x0 40 from (im_ticket hI c_2)) x0.toNatClampNeg rfl (v := g 33 x0.toNatClampNeg) rfl dX7_renew_77 ?_
            refine lv_iload_n hx hb dX7_renew_78 rfl (lv_at hl 4 rfl) ?_
            refine lv_icmp_ne (tgt := 86) hx hb dX7_renew_79 (by decide) (fun c_14 => ?_) (fun c_14 => ?_)
            · skip
              refine lv_iconst (v := 0) hx hb dX7_renew_86 (by decide) ?_
              refine lv_istore (lv' := [(6, .int 0), (5, .int 0), (4, .int 1), (0, .ref (ad 0)), (1, .int x0), (2, .int x1), (3, .int x2)]) hx hb dX7_renew_87 hl (by decide) rfl (fun ls hl => ?_)
              refine lv_aload_n hx hb dX7_renew_89 rfl (lv_at hl 3 rfl) ?_
              refine lv_iload hx hb dX7_renew_90 (lv_at hl 2 rfl) ?_
              refine lv_if_ne (tgt := 99) hx hb dX7_renew_92 (by decide) (fun _ => ?_) (fun c9 => absurd c9 (by decide))
              refine lv_iload hx hb dX7_renew_99 (lv_at hl 1 rfl) ?_
              refine lv_if_ne (tgt := 108) hx hb dX7_renew_101 (by decide) (fun c9 => absurd c9 (by decide)) (fun _ => ?_)
              refine lv_iconst (v := 2) hx hb dX7_renew_104 (by decide) ?_
              refine lv_goto (tgt := 118) hx hb dX7_renew_105 (by decide) ?_
              refine sy_ki (sy_rV (o := 0) (As := [.int 2]) (rest := []) ⟨hx, hb, hml, hown, hts⟩ hE hP hS (nX7_refused l hfl Z nT nK cT cK ad g q 2) (cwV 1 hts (gu_V uk_5_104 uk_5_106 uk_0_17 uk_1_9 uk_5_107) rfl rfl rfl (by decide +kernel) ⟨Nat.le_of_ble_eq_true rfl, Nat.le_of_ble_eq_true rfl⟩) (sy_recv (kc := 8) hE hP rfl (by decide) rfl rfl rfl) rfl hl.1 rfl (Nat.le_of_ble_eq_true rfl) dX7_renew_118 ⟨Nat.le_of_ble_eq_true rfl, Nat.le_of_ble_eq_true rfl⟩) hS (fun r_e_15 g_e_15 q_e_15 H locs e_15 hP hS => ?_)
              cases e_15
              refine sy_top (y := 1) (by rfl) ?_
              refine lv_if_eq (tgt := 126) hx hb dX7_renew_121 (by decide) (fun c9 => absurd c9 (by decide)) (fun _ => ?_)
              refine lv_iconst (v := 0) hx hb dX7_renew_124 (by decide) ?_
              exact (sy_ireti hx hb hr hlocks hE hP hS dX7_renew_125 ⟨Nat.le_of_ble_eq_true rfl, Nat.le_of_ble_eq_true rfl⟩ (by unfold fX7_renew; rw [if_pos c_2, if_pos c_5, if_neg c_8, if_pos c_9, if_pos c_12, if_neg c_14] <;> rfl))
            · skip
              refine lv_iconst (v := 1) hx hb dX7_renew_82 (by decide) ?_
              refine lv_goto (tgt := 87) hx hb dX7_renew_83 (by decide) ?_
              refine lv_istore (lv' := [(6, .int 1), (5, .int 0), (4, .int 1), (0, .ref (ad 0)), (1, .int x0), (2, .int x1), (3, .int x2)]) hx hb dX7_renew_87 hl (by decide) rfl (fun ls hl => ?_)
              refine lv_aload_n hx hb dX7_renew_89 rfl (lv_at hl 3 rfl) ?_
              refine lv_iload hx hb dX7_renew_90 (lv_at hl 2 rfl) ?_
              refine lv_if_ne (tgt := 99) hx hb dX7_renew_92 (by decide) (fun _ => ?_) (fun c9 => absurd c9 (by decide))
              refine lv_iload hx hb dX7_renew_99 (lv_at hl 1 rfl) ?_
              refine lv_if_ne (tgt := 108) hx hb dX7_renew_101 (by decide) (fun c9 => absurd c9 (by decide)) (fun _ => ?_)
              refine lv_iconst (v := 2) hx hb dX7_renew_104 (by decide) ?_
              refine lv_goto (tgt := 118) hx hb dX7_renew_105 (by decide) ?_
              refine sy_ki (sy_rV (o := 0) (As := [.int 2]) (rest := []) ⟨hx, hb, hml, hown, hts⟩ hE hP hS (nX7_refused l hfl Z nT nK cT cK ad g q 2) (cwV 1 hts (gu_V uk_5_104 uk_5_106 uk_0_17 uk_1_9 uk_5_107) rfl rfl rfl (by decide +kernel) ⟨Nat.le_of_ble_eq_true rfl, Nat.le_of_ble_eq_true rfl⟩) (sy_recv (kc := 8) hE hP rfl (by decide) rfl rfl rfl) rfl hl.1 rfl (Nat.le_of_ble_eq_true rfl) dX7_renew_118 ⟨Nat.le_of_ble_eq_true rfl, Nat.le_of_ble_eq_true rfl⟩) hS (fun r_e_16 g_e_16 q_e_16 H locs e_16 hP hS => ?_)
              cases e_16
              refine sy_top (y := 1) (by rfl) ?_
              refine lv_if_eq (tgt := 126) hx hb dX7_renew_121 (by decide) (fun c9 => absurd c9 (by decide)) (fun _ => ?_)
              refine lv_iconst (v := 0) hx hb dX7_renew_124 (by decide) ?_
              exact (sy_ireti hx hb hr hlocks hE hP hS dX7_renew_125 ⟨Nat.le_of_ble_eq_true rfl, Nat.le_of_ble_eq_true rfl⟩ (by unfold fX7_renew; rw [if_pos c_2, if_pos c_5, if_neg c_8, if_pos c_9, if_pos c_12, if_pos c_14] <;> rfl))
      · have c_8 := iB_n.mp c_8
        refine lv_iconst (v := 1) hx hb dX7_renew_43 (by decide) ?_
        refine lv_goto (tgt := 48) hx hb dX7_renew_44 (by decide) ?_
        refine lv_istore (lv' := [(5, .int 1), (4, .int 1), (0, .ref (ad 0)), (1, .int x0), (2, .int x1), (3, .int x2)]) hx hb dX7_renew_48 hl (by decide) rfl (fun ls hl => ?_)
        refine lv_iload hx hb dX7_renew_50 (lv_at hl 1 rfl) ?_
        refine lv_if_eq (tgt := 86) hx hb dX7_renew_52 (by decide) (fun c9 => absurd c9 (by decide)) (fun _ => ?_)
        refine lv_aload_n hx hb dX7_renew_55 rfl (lv_at hl 2 rfl) ?_
        refine sy_getRX7 hx hb hts hown hE hP 0 rfl 38 (by decide) (hts _ (u_in uk_4_228)) (v := .ref (ad 39)) rfl dX7_renew_56 ?_
        refine lv_iload_n hx hb dX7_renew_59 rfl (lv_at hl 3 rfl) ?_
        refine sy_ialdN hx hb hE hP 39 rfl (show vp_in x0 40 from (im_ticket hI c_2)) x0.toNatClampNeg rfl (v := g 39 x0.toNatClampNeg) rfl dX7_renew_60 ?_
        refine lv_if_ne (tgt := 86) hx hb dX7_renew_61 (by decide) (fun c_17 => ?_) (fun c_17 => ?_)
        · skip
          refine lv_iconst (v := 0) hx hb dX7_renew_86 (by decide) ?_
          refine lv_istore (lv' := [(6, .int 0), (5, .int 1), (4, .int 1), (0, .ref (ad 0)), (1, .int x0), (2, .int x1), (3, .int x2)]) hx hb dX7_renew_87 hl (by decide) rfl (fun ls hl => ?_)
          refine lv_aload_n hx hb dX7_renew_89 rfl (lv_at hl 3 rfl) ?_
          refine lv_iload hx hb dX7_renew_90 (lv_at hl 2 rfl) ?_
          refine lv_if_ne (tgt := 99) hx hb dX7_renew_92 (by decide) (fun _ => ?_) (fun c9 => absurd c9 (by decide))
          refine lv_iload hx hb dX7_renew_99 (lv_at hl 1 rfl) ?_
          refine lv_if_ne (tgt := 108) hx hb dX7_renew_101 (by decide) (fun _ => ?_) (fun c9 => absurd c9 (by decide))
          refine lv_iload hx hb dX7_renew_108 (lv_at hl 0 rfl) ?_
          refine lv_if_ne (tgt := 117) hx hb dX7_renew_110 (by decide) (fun c9 => absurd c9 (by decide)) (fun _ => ?_)
          refine lv_iconst (v := 3) hx hb dX7_renew_113 (by decide) ?_
          refine lv_goto (tgt := 118) hx hb dX7_renew_114 (by decide) ?_
          refine sy_ki (sy_rV (o := 0) (As := [.int 3]) (rest := []) ⟨hx, hb, hml, hown, hts⟩ hE hP hS (nX7_refused l hfl Z nT nK cT cK ad g q 3) (cwV 1 hts (gu_V uk_5_104 uk_5_106 uk_0_17 uk_1_9 uk_5_107) rfl rfl rfl (by decide +kernel) ⟨Nat.le_of_ble_eq_true rfl, Nat.le_of_ble_eq_true rfl⟩) (sy_recv (kc := 8) hE hP rfl (by decide) rfl rfl rfl) rfl hl.1 rfl (Nat.le_of_ble_eq_true rfl) dX7_renew_118 ⟨Nat.le_of_ble_eq_true rfl, Nat.le_of_ble_eq_true rfl⟩) hS (fun r_e_18 g_e_18 q_e_18 H locs e_18 hP hS => ?_)
          cases e_18
          refine sy_top (y := 1) (by rfl) ?_
          refine lv_if_eq (tgt := 126) hx hb dX7_renew_121 (by decide) (fun c9 => absurd c9 (by decide)) (fun _ => ?_)
          refine lv_iconst (v := 0) hx hb dX7_renew_124 (by decide) ?_
          exact (sy_ireti hx hb hr hlocks hE hP hS dX7_renew_125 ⟨Nat.le_of_ble_eq_true rfl, Nat.le_of_ble_eq_true rfl⟩ (by unfold fX7_renew; rw [if_pos c_2, if_pos c_5, if_pos c_8, if_neg c_17] <;> rfl))
        · skip
          refine lv_aload_n hx hb dX7_renew_64 rfl (lv_at hl 2 rfl) ?_
          refine lv_iload_n hx hb dX7_renew_65 rfl (lv_at hl 3 rfl) ?_
          refine sy_ki (sy_rV (o := 0) (As := [.int x0]) (rest := []) ⟨hx, hb, hml, hown, hts⟩ hE hP hS (mX7_bars l hfl Z nT nK cT cK ad g q x0 hI (show vp_in x0 40 from (im_ticket hI c_2))) (cwV 1 hts (gu_V uk_5_176 uk_5_178 uk_0_25 uk_1_9 uk_5_179) rfl rfl rfl (by decide +kernel) ⟨Nat.le_of_ble_eq_true rfl, Nat.le_of_ble_eq_true rfl⟩) (sy_recv (kc := 8) hE hP rfl (by decide) rfl rfl rfl) rfl hl.1 rfl (Nat.le_of_ble_eq_true rfl) dX7_renew_66 ⟨Nat.le_of_ble_eq_true rfl, Nat.le_of_ble_eq_true rfl⟩) hS (fun r_e_19 g_e_19 q_e_19 H locs e_19 hP hS => ?_)
          cases e_19
          refine lv_if_ne (tgt := 86) hx hb dX7_renew_69 (by decide) (fun c_20 => ?_) (fun c_20 => ?_)
          · skip
            refine lv_iconst (v := 0) hx hb dX7_renew_86 (by decide) ?_
            refine lv_istore (lv' := [(6, .int 0), (5, .int 1), (4, .int 1), (0, .ref (ad 0)), (1, .int x0), (2, .int x1), (3, .int x2)]) hx hb dX7_renew_87 hl (by decide) rfl (fun ls hl => ?_)
            refine lv_aload_n hx hb dX7_renew_89 rfl (lv_at hl 3 rfl) ?_
            refine lv_iload hx hb dX7_renew_90 (lv_at hl 2 rfl) ?_
            refine lv_if_ne (tgt := 99) hx hb dX7_renew_92 (by decide) (fun _ => ?_) (fun c9 => absurd c9 (by decide))
            refine lv_iload hx hb dX7_renew_99 (lv_at hl 1 rfl) ?_
            refine lv_if_ne (tgt := 108) hx hb dX7_renew_101 (by decide) (fun _ => ?_) (fun c9 => absurd c9 (by decide))
            refine lv_iload hx hb dX7_renew_108 (lv_at hl 0 rfl) ?_
            refine lv_if_ne (tgt := 117) hx hb dX7_renew_110 (by decide) (fun c9 => absurd c9 (by decide)) (fun _ => ?_)
            refine lv_iconst (v := 3) hx hb dX7_renew_113 (by decide) ?_
            refine lv_goto (tgt := 118) hx hb dX7_renew_114 (by decide) ?_
            refine sy_ki (sy_rV (o := 0) (As := [.int 3]) (rest := []) ⟨hx, hb, hml, hown, hts⟩ hE hP hS (nX7_refused l hfl Z nT nK cT cK ad g q 3) (cwV 1 hts (gu_V uk_5_104 uk_5_106 uk_0_17 uk_1_9 uk_5_107) rfl rfl rfl (by decide +kernel) ⟨Nat.le_of_ble_eq_true rfl, Nat.le_of_ble_eq_true rfl⟩) (sy_recv (kc := 8) hE hP rfl (by decide) rfl rfl rfl) rfl hl.1 rfl (Nat.le_of_ble_eq_true rfl) dX7_renew_118 ⟨Nat.le_of_ble_eq_true rfl, Nat.le_of_ble_eq_true rfl⟩) hS (fun r_e_21 g_e_21 q_e_21 H locs e_21 hP hS => ?_)
            cases e_21
            refine sy_top (y := 1) (by rfl) ?_
            refine lv_if_eq (tgt := 126) hx hb dX7_renew_121 (by decide) (fun c9 => absurd c9 (by decide)) (fun _ => ?_)
            refine lv_iconst (v := 0) hx hb dX7_renew_124 (by decide) ?_
            exact (sy_ireti hx hb hr hlocks hE hP hS dX7_renew_125 ⟨Nat.le_of_ble_eq_true rfl, Nat.le_of_ble_eq_true rfl⟩ (by unfold fX7_renew; rw [if_pos c_2, if_pos c_5, if_pos c_8, if_pos c_17, if_neg c_20] <;> rfl))
          · skip
            refine lv_aload_n hx hb dX7_renew_72 rfl (lv_at hl 2 rfl) ?_
            refine sy_getRX7 hx hb hts hown hE hP 0 rfl 32 (by decide) (hts _ (u_in uk_4_222)) (v := .ref (ad 33)) rfl dX7_renew_73 ?_
            refine lv_iload_n hx hb dX7_renew_76 rfl (lv_at hl 3 rfl) ?_
            refine sy_ialdN hx hb hE hP 33 rfl (show vp_in x0 40 from (im_ticket hI c_2)) x0.toNatClampNeg rfl (v := g 33 x0.toNatClampNeg) rfl dX7_renew_77 ?_
            refine lv_iload_n hx hb dX7_renew_78 rfl (lv_at hl 4 rfl) ?_
            refine lv_icmp_ne (tgt := 86) hx hb dX7_renew_79 (by decide) (fun c_22 => ?_) (fun c_22 => ?_)
            · skip
              refine lv_iconst (v := 0) hx hb dX7_renew_86 (by decide) ?_
              refine lv_istore (lv' := [(6, .int 0), (5, .int 1), (4, .int 1), (0, .ref (ad 0)), (1, .int x0), (2, .int x1), (3, .int x2)]) hx hb dX7_renew_87 hl (by decide) rfl (fun ls hl => ?_)
              refine lv_aload_n hx hb dX7_renew_89 rfl (lv_at hl 3 rfl) ?_
              refine lv_iload hx hb dX7_renew_90 (lv_at hl 2 rfl) ?_
              refine lv_if_ne (tgt := 99) hx hb dX7_renew_92 (by decide) (fun _ => ?_) (fun c9 => absurd c9 (by decide))
              refine lv_iload hx hb dX7_renew_99 (lv_at hl 1 rfl) ?_
              refine lv_if_ne (tgt := 108) hx hb dX7_renew_101 (by decide) (fun _ => ?_) (fun c9 => absurd c9 (by decide))
              refine lv_iload hx hb dX7_renew_108 (lv_at hl 0 rfl) ?_
              refine lv_if_ne (tgt := 117) hx hb dX7_renew_110 (by decide) (fun c9 => absurd c9 (by decide)) (fun _ => ?_)
              refine lv_iconst (v := 3) hx hb dX7_renew_113 (by decide) ?_
              refine lv_goto (tgt := 118) hx hb dX7_renew_114 (by decide) ?_
              refine sy_ki (sy_rV (o := 0) (As := [.int 3]) (rest := []) ⟨hx, hb, hml, hown, hts⟩ hE hP hS (nX7_refused l hfl Z nT nK cT cK ad g q 3) (cwV 1 hts (gu_V uk_5_104 uk_5_106 uk_0_17 uk_1_9 uk_5_107) rfl rfl rfl (by decide +kernel) ⟨Nat.le_of_ble_eq_true rfl, Nat.le_of_ble_eq_true rfl⟩) (sy_recv (kc := 8) hE hP rfl (by decide) rfl rfl rfl) rfl hl.1 rfl (Nat.le_of_ble_eq_true rfl) dX7_renew_118 ⟨Nat.le_of_ble_eq_true rfl, Nat.le_of_ble_eq_true rfl⟩) hS (fun r_e_23 g_e_23 q_e_23 H locs e_23 hP hS => ?_)
              cases e_23
              refine sy_top (y := 1) (by rfl) ?_
              refine lv_if_eq (tgt := 126) hx hb dX7_renew_121 (by decide) (fun c9 => absurd c9 (by decide)) (fun _ => ?_)
              refine lv_iconst (v := 0) hx hb dX7_renew_124 (by decide) ?_
              exact (sy_ireti hx hb hr hlocks hE hP hS dX7_renew_125 ⟨Nat.le_of_ble_eq_true rfl, Nat.le_of_ble_eq_true rfl⟩ (by unfold fX7_renew; rw [if_pos c_2, if_pos c_5, if_pos c_8, if_pos c_17, if_pos c_20, if_neg c_22] <;> rfl))
            · skip
              refine lv_iconst (v := 1) hx hb dX7_renew_82 (by decide) ?_
              refine lv_goto (tgt := 87) hx hb dX7_renew_83 (by decide) ?_
              refine lv_istore (lv' := [(6, .int 1), (5, .int 1), (4, .int 1), (0, .ref (ad 0)), (1, .int x0), (2, .int x1), (3, .int x2)]) hx hb dX7_renew_87 hl (by decide) rfl (fun ls hl => ?_)
              refine lv_aload_n hx hb dX7_renew_89 rfl (lv_at hl 3 rfl) ?_
              refine lv_iload hx hb dX7_renew_90 (lv_at hl 2 rfl) ?_
              refine lv_if_ne (tgt := 99) hx hb dX7_renew_92 (by decide) (fun _ => ?_) (fun c9 => absurd c9 (by decide))
              refine lv_iload hx hb dX7_renew_99 (lv_at hl 1 rfl) ?_
              refine lv_if_ne (tgt := 108) hx hb dX7_renew_101 (by decide) (fun _ => ?_) (fun c9 => absurd c9 (by decide))
              refine lv_iload hx hb dX7_renew_108 (lv_at hl 0 rfl) ?_
              refine lv_if_ne (tgt := 117) hx hb dX7_renew_110 (by decide) (fun _ => ?_) (fun c9 => absurd c9 (by decide))
              refine lv_iconst (v := 0) hx hb dX7_renew_117 (by decide) ?_
              refine sy_ki (sy_rV (o := 0) (As := [.int 0]) (rest := []) ⟨hx, hb, hml, hown, hts⟩ hE hP hS (nX7_refused l hfl Z nT nK cT cK ad g q 0) (cwV 1 hts (gu_V uk_5_104 uk_5_106 uk_0_17 uk_1_9 uk_5_107) rfl rfl rfl (by decide +kernel) ⟨Nat.le_of_ble_eq_true rfl, Nat.le_of_ble_eq_true rfl⟩) (sy_recv (kc := 8) hE hP rfl (by decide) rfl rfl rfl) rfl hl.1 rfl (Nat.le_of_ble_eq_true rfl) dX7_renew_118 ⟨Nat.le_of_ble_eq_true rfl, Nat.le_of_ble_eq_true rfl⟩) hS (fun r_e_24 g_e_24 q_e_24 H locs e_24 hP hS => ?_)
              cases e_24
              refine sy_top (y := 0) (by rfl) ?_
              refine lv_if_eq (tgt := 126) hx hb dX7_renew_121 (by decide) (fun _ => ?_) (fun c9 => absurd c9 (by decide))
              refine lv_aload_n hx hb dX7_renew_126 rfl (lv_at hl 3 rfl) ?_
              refine lv_iload_n hx hb dX7_renew_127 rfl (lv_at hl 4 rfl) ?_
              refine sy_ki (sy_rV (o := 0) (As := [.int x0]) (rest := []) ⟨hx, hb, hml, hown, hts⟩ hE hP hS (mX7_interest l hfl Z nT nK cT cK ad (sy_up g 0 0 0) q x0 (im_0 (by decide) hI) (show vp_in x0 40 from (im_ticket hI c_2))) (cwV 1 hts (gu_V uk_5_184 uk_5_186 uk_0_27 uk_1_9 uk_5_187) rfl rfl rfl (by decide +kernel) ⟨Nat.le_of_ble_eq_true rfl, Nat.le_of_ble_eq_true rfl⟩) (sy_recv (kc := 8) hE hP rfl (by decide) rfl rfl rfl) rfl hl.1 rfl (Nat.le_of_ble_eq_true rfl) dX7_renew_128 ⟨Nat.le_of_ble_eq_true rfl, Nat.le_of_ble_eq_true rfl⟩) hS (fun r_e_25 g_e_25 q_e_25 H locs e_25 hP hS => ?_)
              cases e_25
              refine lv_iload_n hx hb dX7_renew_131 rfl (lv_at hl 6 rfl) ?_
              refine lv_iadd hx hb dX7_renew_132 ?_
              refine lv_istore (lv' := [(7, .int ((fX7_interest (sy_up g 0 0 0) q x0) + x2)), (6, .int 1), (5, .int 1), (4, .int 1), (0, .ref (ad 0)), (1, .int x0), (2, .int x1), (3, .int x2)]) hx hb dX7_renew_133 hl (by decide) rfl (fun ls hl => ?_)
              refine lv_aload_n hx hb dX7_renew_135 rfl (lv_at hl 4 rfl) ?_
              refine lv_dup hx hb dX7_renew_136 rfl ?_
              refine sy_getRX7 hx hb hts hown hE hP 0 rfl 44 (by decide) (hts _ (u_in uk_4_234)) (v := .int (g 0 44)) rfl dX7_renew_137 ?_
              refine lv_iload hx hb dX7_renew_140 (lv_at hl 0 rfl) ?_
              refine lv_iadd hx hb dX7_renew_142 ?_
              refine sy_putRX7 hx hb hts hown hE hP hS 0 rfl 44 (by decide) (hts _ (u_in uk_4_234)) rfl (ty := .int) (by decide +kernel) rfl rfl (sy_up (sy_up g 0 0 0) 0 44 ((g 0 44) + ((fX7_interest (sy_up g 0 0 0) q x0) + x2))) q (by rw [sy_up_s]; rfl) (fun _ h9 => sy_up_o _ _ _ h9) (fun _ _ => rfl) dX7_renew_143 (fun H locs hP hS => ?_)
              refine lv_aload_n hx hb dX7_renew_146 rfl (lv_at hl 4 rfl) ?_
              refine sy_getRX7 hx hb hts hown hE hP 0 rfl 34 (by decide) (hts _ (u_in uk_4_224)) (v := .ref (ad 35)) rfl dX7_renew_147 ?_
              refine lv_iload_n hx hb dX7_renew_150 rfl (lv_at hl 5 rfl) ?_
              refine lv_dup2_11 hx hb dX7_renew_151 rfl rfl ?_
              refine sy_ialdN hx hb hE hP 35 rfl (show vp_in x0 40 from (im_ticket hI c_2)) x0.toNatClampNeg rfl (v := g 35 x0.toNatClampNeg) rfl dX7_renew_152 ?_
              refine lv_iload_n hx hb dX7_renew_153 rfl (lv_at hl 7 rfl) ?_
              refine lv_isub hx hb dX7_renew_154 ?_
              refine sy_iastN hx hb hE hP hS 35 rfl (show vp_in x0 40 from (im_ticket hI c_2)) x0.toNatClampNeg rfl dX7_renew_155 (fun H locs hP hS => ?_)
              refine lv_aload_n hx hb dX7_renew_156 rfl (lv_at hl 4 rfl) ?_
              refine sy_getRX7 hx hb hts hown hE hP 0 rfl 36 (by decide) (hts _ (u_in uk_4_226)) (v := .ref (ad 37)) rfl dX7_renew_157 ?_
              refine lv_iload_n hx hb dX7_renew_160 rfl (lv_at hl 5 rfl) ?_
              refine lv_aload_n hx hb dX7_renew_161 rfl (lv_at hl 4 rfl) ?_
              refine sy_getRX7 hx hb hts hown hE hP 0 rfl 1 (by decide) (hts _ (u_in uk_4_191)) (v := .int (g 0 1)) rfl dX7_renew_162 ?_
              refine sy_iastN hx hb hE hP hS 37 rfl (show vp_in x0 40 from (im_ticket hI c_2)) x0.toNatClampNeg rfl dX7_renew_165 (fun H locs hP hS => ?_)
              refine lv_aload_n hx hb dX7_renew_166 rfl (lv_at hl 4 rfl) ?_
              refine sy_getRX7 hx hb hts hown hE hP 0 rfl 37 (by decide) (hts _ (u_in uk_4_227)) (v := .ref (ad 38)) rfl dX7_renew_167 ?_
              refine lv_iload_n hx hb dX7_renew_170 rfl (lv_at hl 5 rfl) ?_
              refine lv_aload_n hx hb dX7_renew_171 rfl (lv_at hl 4 rfl) ?_
              refine sy_getRX7 hx hb hts hown hE hP 0 rfl 27 (by decide) (hts _ (u_in uk_4_217)) (v := .int (g 0 27)) rfl dX7_renew_172 ?_
              refine sy_iastN hx hb hE hP hS 38 rfl (show vp_in x0 40 from (im_ticket hI c_2)) x0.toNatClampNeg rfl dX7_renew_175 (fun H locs hP hS => ?_)
              refine lv_iload hx hb dX7_renew_176 (lv_at hl 0 rfl) ?_
              exact (sy_ireti hx hb hr hlocks hE hP hS dX7_renew_178 ⟨Nat.le_of_ble_eq_true rfl, Nat.le_of_ble_eq_true rfl⟩ (by unfold fX7_renew; rw [if_pos c_2, if_pos c_5, if_pos c_8, if_pos c_17, if_pos c_20, if_pos c_22] <;> rfl))
def fX7_give (g : sG) (q : sQ) (x0 x1 : Int32) : Int32 × sG := (if 0 ≤ x0 ∧ x0 ≤ (g 0 28) - 1 then (if 0 ≤ x1 ∧ x1 ≤ 9 then (if (g 34 x0.toNatClampNeg) = 0 then (if (g 39 x0.toNatClampNeg) = 0 then ((g 33 x0.toNatClampNeg), (sy_up (sy_up g 0 0 0) 33 x0.toNatClampNeg x1)) else (if (g 39 x0.toNatClampNeg) = 2 then ((g 33 x0.toNatClampNeg), (sy_up (sy_up g 0 0 0) 33 x0.toNatClampNeg x1)) else (0, (sy_up g 0 0 2)))) else (0, (sy_up g 0 0 2))) else (0, (sy_up g 0 0 1))) else (0, (sy_up g 0 0 1)))
set_option maxHeartbeats 4000000 in
set_option maxRecDepth 100000 in
theorem mX7_give (l : Launch) (hfl : l.stackTraces = false) (Z : sZ) (nT nK cT cK : Nat) (ad : Nat → Nat) (g : sG) (q : sQ) (x0 x1 : Int32) (hI : IM nT nK g) : sMi l Z yX7_give (uW (.code yX7_give cX7_give 6 (some .int))) { frames := 2, cells := 0, slots := 0, locals := 43 } [.ref (ad 0), .int x0, .int x1] nT nK cT cK ad g q (fun r g1 q1 => (r, g1, q1) = ((fX7_give g q x0 x1).1, (fX7_give g q x0 x1).2, q)) := by
  refine Met.ofW (cc := cX7_give) (maxL := 6) (ret := (some .int)) (by decide) rfl ?_
  intro p e s m args below meth c s₁ B hml hv
  obtain ⟨rfl, hE, hP⟩ := hv
  have hx := B.exec
  have hb := B.bytes
  have hr := B.returns
  have hts := atoms_spec (ws := uW (.code yX7_give cX7_give 6 (some .int))) B.pre
  have hown : s.vm.findClass RX7 = some m.cls := findClass_of_methodNamed B.named
  have hlocks := B.notSynchronized
  have hS : va_S (sy_A Z) s.heap s.heap [] := va_S.rf
  have hl := lv_entry ([.ref (ad 0), .int x0, .int x1]) (n := 6) (Nat.le_of_ble_eq_true rfl)
  rw [lg_entry_eq]
  generalize (lg_sl ([.ref (ad 0), .int x0, .int x1]) ++ List.replicate (6 - (lg_sl ([.ref (ad 0), .int x0, .int x1])).length) Slot.unset).toArray = ls at hl ⊢
  have hl : lv_has ls 6 [(0, .ref (ad 0)), (1, .int x0), (2, .int x1)] := hl
  refine lv_aload_n hx hb dX7_give_0 rfl (lv_at hl 0 rfl) ?_
  refine lv_iload_n hx hb dX7_give_1 rfl (lv_at hl 1 rfl) ?_
  refine sy_ki (sy_rV (o := 0) (As := [.int x0]) (rest := []) ⟨hx, hb, hml, hown, hts⟩ hE hP hS (mX7_isTicket l hfl Z nT nK cT cK ad g q x0) (cwV 1 hts (gu_V uk_5_172 uk_5_174 uk_0_24 uk_1_9 uk_5_175) rfl rfl rfl (by decide +kernel) ⟨Nat.le_of_ble_eq_true rfl, Nat.le_of_ble_eq_true rfl⟩) (sy_recv (kc := 8) hE hP rfl (by decide) rfl rfl rfl) rfl hl.1 rfl (Nat.le_of_ble_eq_true rfl) dX7_give_2 ⟨Nat.le_of_ble_eq_true rfl, Nat.le_of_ble_eq_true rfl⟩) hS (fun r_e_1 g_e_1 q_e_1 H locs e_1 hP hS => ?_)
  cases e_1
  refine sy_top (y := (iB (0 ≤ x0 ∧ x0 ≤ (g 0 28) - 1))) (by rfl) ?_
  refine lv_if_eq (tgt := 19) hx hb dX7_give_5 (by decide) (fun c_2 => ?_) (fun c_2 => ?_)
  · have c_2 := iB_0.mp c_2
    refine lv_iconst (v := 0) hx hb dX7_give_19 (by decide) ?_
    refine lv_istore_n (lv' := [(3, .int 0), (0, .ref (ad 0)), (1, .int x0), (2, .int x1)]) hx hb dX7_give_20 rfl hl (by decide) rfl (fun ls hl => ?_)
    refine lv_iload_n hx hb dX7_give_21 rfl (lv_at hl 0 rfl) ?_
    refine lv_if_eq (tgt := 57) hx hb dX7_give_22 (by decide) (fun _ => ?_) (fun c9 => absurd c9 (by decide))
    refine lv_iconst (v := 0) hx hb dX7_give_57 (by decide) ?_
    refine lv_istore (lv' := [(4, .int 0), (3, .int 0), (0, .ref (ad 0)), (1, .int x0), (2, .int x1)]) hx hb dX7_give_58 hl (by decide) rfl (fun ls hl => ?_)
    refine lv_aload_n hx hb dX7_give_60 rfl (lv_at hl 2 rfl) ?_
    refine lv_iload_n hx hb dX7_give_61 rfl (lv_at hl 1 rfl) ?_
    refine lv_if_ne (tgt := 69) hx hb dX7_give_62 (by decide) (fun c9 => absurd c9 (by decide)) (fun _ => ?_)
    refine lv_iconst (v := 1) hx hb dX7_give_65 (by decide) ?_
    refine lv_goto (tgt := 79) hx hb dX7_give_66 (by decide) ?_
    refine sy_ki (sy_rV (o := 0) (As := [.int 1]) (rest := []) ⟨hx, hb, hml, hown, hts⟩ hE hP hS (nX7_refused l hfl Z nT nK cT cK ad g q 1) (cwV 1 hts (gu_V uk_5_104 uk_5_106 uk_0_17 uk_1_9 uk_5_107) rfl rfl rfl (by decide +kernel) ⟨Nat.le_of_ble_eq_true rfl, Nat.le_of_ble_eq_true rfl⟩) (sy_recv (kc := 8) hE hP rfl (by decide) rfl rfl rfl) rfl hl.1 rfl (Nat.le_of_ble_eq_true rfl) dX7_give_79 ⟨Nat.le_of_ble_eq_true rfl, Nat.le_of_ble_eq_true rfl⟩) hS (fun r_e_3 g_e_3 q_e_3 H locs e_3 hP hS => ?_)
    cases e_3
    refine sy_top (y := 1) (by rfl) ?_
    refine lv_if_eq (tgt := 87) hx hb dX7_give_82 (by decide) (fun c9 => absurd c9 (by decide)) (fun _ => ?_)
    refine lv_iconst (v := 0) hx hb dX7_give_85 (by decide) ?_
    exact (sy_ireti hx hb hr hlocks hE hP hS dX7_give_86 ⟨Nat.le_of_ble_eq_true rfl, Nat.le_of_ble_eq_true rfl⟩ (by unfold fX7_give; rw [if_neg c_2] <;> rfl))
  · have c_2 := iB_n.mp c_2
    refine lv_iload_n hx hb dX7_give_8 rfl (lv_at hl 2 rfl) ?_
    refine sy_ki (sy_rS (As := [.int x1]) (rest := []) ⟨hx, hb, hml, hown, hts⟩ hE hP hS (mX7_isPerson l hfl Z nT nK cT cK ad g q x1) (va_cwS 1 hts (gu_S uk_5_120 uk_5_121 uk_1_9 uk_5_122) rfl rfl rfl (by decide +kernel) ⟨Nat.le_of_ble_eq_true rfl, Nat.le_of_ble_eq_true rfl⟩) rfl hl.1 rfl (Nat.le_of_ble_eq_true rfl) dX7_give_9 ⟨Nat.le_of_ble_eq_true rfl, Nat.le_of_ble_eq_true rfl⟩) hS (fun r_e_4 g_e_4 q_e_4 H locs e_4 hP hS => ?_)
    cases e_4
    refine sy_top (y := (iB (0 ≤ x1 ∧ x1 ≤ 9))) (by rfl) ?_
    refine lv_if_eq (tgt := 19) hx hb dX7_give_12 (by decide) (fun c_5 => ?_) (fun c_5 => ?_)
    · have c_5 := iB_0.mp c_5
      refine lv_iconst (v := 0) hx hb dX7_give_19 (by decide) ?_
      refine lv_istore_n (lv' := [(3, .int 0), (0, .ref (ad 0)), (1, .int x0), (2, .int x1)]) hx hb dX7_give_20 rfl hl (by decide) rfl (fun ls hl => ?_)
      refine lv_iload_n hx hb dX7_give_21 rfl (lv_at hl 0 rfl) ?_
      refine lv_if_eq (tgt := 57) hx hb dX7_give_22 (by decide) (fun _ => ?_) (fun c9 => absurd c9 (by decide))
      refine lv_iconst (v := 0) hx hb dX7_give_57 (by decide) ?_
      refine lv_istore (lv' := [(4, .int 0), (3, .int 0), (0, .ref (ad 0)), (1, .int x0), (2, .int x1)]) hx hb dX7_give_58 hl (by decide) rfl (fun ls hl => ?_)
      refine lv_aload_n hx hb dX7_give_60 rfl (lv_at hl 2 rfl) ?_
      refine lv_iload_n hx hb dX7_give_61 rfl (lv_at hl 1 rfl) ?_
      refine lv_if_ne (tgt := 69) hx hb dX7_give_62 (by decide) (fun c9 => absurd c9 (by decide)) (fun _ => ?_)
      refine lv_iconst (v := 1) hx hb dX7_give_65 (by decide) ?_
      refine lv_goto (tgt := 79) hx hb dX7_give_66 (by decide) ?_
      refine sy_ki (sy_rV (o := 0) (As := [.int 1]) (rest := []) ⟨hx, hb, hml, hown, hts⟩ hE hP hS (nX7_refused l hfl Z nT nK cT cK ad g q 1) (cwV 1 hts (gu_V uk_5_104 uk_5_106 uk_0_17 uk_1_9 uk_5_107) rfl rfl rfl (by decide +kernel) ⟨Nat.le_of_ble_eq_true rfl, Nat.le_of_ble_eq_true rfl⟩) (sy_recv (kc := 8) hE hP rfl (by decide) rfl rfl rfl) rfl hl.1 rfl (Nat.le_of_ble_eq_true rfl) dX7_give_79 ⟨Nat.le_of_ble_eq_true rfl, Nat.le_of_ble_eq_true rfl⟩) hS (fun r_e_6 g_e_6 q_e_6 H locs e_6 hP hS => ?_)
      cases e_6
      refine sy_top (y := 1) (by rfl) ?_
      refine lv_if_eq (tgt := 87) hx hb dX7_give_82 (by decide) (fun c9 => absurd c9 (by decide)) (fun _ => ?_)
      refine lv_iconst (v := 0) hx hb dX7_give_85 (by decide) ?_
      exact (sy_ireti hx hb hr hlocks hE hP hS dX7_give_86 ⟨Nat.le_of_ble_eq_true rfl, Nat.le_of_ble_eq_true rfl⟩ (by unfold fX7_give; rw [if_pos c_2, if_neg c_5] <;> rfl))
    · have c_5 := iB_n.mp c_5
      refine lv_iconst (v := 1) hx hb dX7_give_15 (by decide) ?_
      refine lv_goto (tgt := 20) hx hb dX7_give_16 (by decide) ?_
      refine lv_istore_n (lv' := [(3, .int 1), (0, .ref (ad 0)), (1, .int x0), (2, .int x1)]) hx hb dX7_give_20 rfl hl (by decide) rfl (fun ls hl => ?_)
      refine lv_iload_n hx hb dX7_give_21 rfl (lv_at hl 0 rfl) ?_
      refine lv_if_eq (tgt := 57) hx hb dX7_give_22 (by decide) (fun c9 => absurd c9 (by decide)) (fun _ => ?_)
      refine lv_aload_n hx hb dX7_give_25 rfl (lv_at hl 1 rfl) ?_
      refine sy_getRX7 hx hb hts hown hE hP 0 rfl 33 (by decide) (hts _ (u_in uk_4_223)) (v := .ref (ad 34)) rfl dX7_give_26 ?_
      refine lv_iload_n hx hb dX7_give_29 rfl (lv_at hl 2 rfl) ?_
      refine sy_zaldN hx hb hE hP 34 rfl (show vp_in x0 40 from (im_ticket hI c_2)) x0.toNatClampNeg rfl (v := g 34 x0.toNatClampNeg) rfl dX7_give_30 ?_
      refine lv_if_ne (tgt := 57) hx hb dX7_give_31 (by decide) (fun c_7 => ?_) (fun c_7 => ?_)
      · skip
        refine lv_iconst (v := 0) hx hb dX7_give_57 (by decide) ?_
        refine lv_istore (lv' := [(4, .int 0), (3, .int 1), (0, .ref (ad 0)), (1, .int x0), (2, .int x1)]) hx hb dX7_give_58 hl (by decide) rfl (fun ls hl => ?_)
        refine lv_aload_n hx hb dX7_give_60 rfl (lv_at hl 2 rfl) ?_
        refine lv_iload_n hx hb dX7_give_61 rfl (lv_at hl 1 rfl) ?_
        refine lv_if_ne (tgt := 69) hx hb dX7_give_62 (by decide) (fun _ => ?_) (fun c9 => absurd c9 (by decide))
        refine lv_iload hx hb dX7_give_69 (lv_at hl 0 rfl) ?_
        refine lv_if_ne (tgt := 78) hx hb dX7_give_71 (by decide) (fun c9 => absurd c9 (by decide)) (fun _ => ?_)
        refine lv_iconst (v := 2) hx hb dX7_give_74 (by decide) ?_
        refine lv_goto (tgt := 79) hx hb dX7_give_75 (by decide) ?_
        refine sy_ki (sy_rV (o := 0) (As := [.int 2]) (rest := []) ⟨hx, hb, hml, hown, hts⟩ hE hP hS (nX7_refused l hfl Z nT nK cT cK ad g q 2) (cwV 1 hts (gu_V uk_5_104 uk_5_106 uk_0_17 uk_1_9 uk_5_107) rfl rfl rfl (by decide +kernel) ⟨Nat.le_of_ble_eq_true rfl, Nat.le_of_ble_eq_true rfl⟩) (sy_recv (kc := 8) hE hP rfl (by decide) rfl rfl rfl) rfl hl.1 rfl (Nat.le_of_ble_eq_true rfl) dX7_give_79 ⟨Nat.le_of_ble_eq_true rfl, Nat.le_of_ble_eq_true rfl⟩) hS (fun r_e_8 g_e_8 q_e_8 H locs e_8 hP hS => ?_)
        cases e_8
        refine sy_top (y := 1) (by rfl) ?_
        refine lv_if_eq (tgt := 87) hx hb dX7_give_82 (by decide) (fun c9 => absurd c9 (by decide)) (fun _ => ?_)
        refine lv_iconst (v := 0) hx hb dX7_give_85 (by decide) ?_
        exact (sy_ireti hx hb hr hlocks hE hP hS dX7_give_86 ⟨Nat.le_of_ble_eq_true rfl, Nat.le_of_ble_eq_true rfl⟩ (by unfold fX7_give; rw [if_pos c_2, if_pos c_5, if_neg c_7] <;> rfl))
      · skip
        refine lv_aload_n hx hb dX7_give_34 rfl (lv_at hl 1 rfl) ?_
        refine sy_getRX7 hx hb hts hown hE hP 0 rfl 38 (by decide) (hts _ (u_in uk_4_228)) (v := .ref (ad 39)) rfl dX7_give_35 ?_
        refine lv_iload_n hx hb dX7_give_38 rfl (lv_at hl 2 rfl) ?_
        refine sy_ialdN hx hb hE hP 39 rfl (show vp_in x0 40 from (im_ticket hI c_2)) x0.toNatClampNeg rfl (v := g 39 x0.toNatClampNeg) rfl dX7_give_39 ?_
        refine lv_if_eq (tgt := 53) hx hb dX7_give_40 (by decide) (fun c_9 => ?_) (fun c_9 => ?_)
        · skip
          refine lv_iconst (v := 1) hx hb dX7_give_53 (by decide) ?_
          refine lv_goto (tgt := 58) hx hb dX7_give_54 (by decide) ?_
          refine lv_istore (lv' := [(4, .int 1), (3, .int 1), (0, .ref (ad 0)), (1, .int x0), (2, .int x1)]) hx hb dX7_give_58 hl (by decide) rfl (fun ls hl => ?_)
          refine lv_aload_n hx hb dX7_give_60 rfl (lv_at hl 2 rfl) ?_
          refine lv_iload_n hx hb dX7_give_61 rfl (lv_at hl 1 rfl) ?_
          refine lv_if_ne (tgt := 69) hx hb dX7_give_62 (by decide) (fun _ => ?_) (fun c9 => absurd c9 (by decide))
          refine lv_iload hx hb dX7_give_69 (lv_at hl 0 rfl) ?_
          refine lv_if_ne (tgt := 78) hx hb dX7_give_71 (by decide) (fun _ => ?_) (fun c9 => absurd c9 (by decide))
          refine lv_iconst (v := 0) hx hb dX7_give_78 (by decide) ?_
          refine sy_ki (sy_rV (o := 0) (As := [.int 0]) (rest := []) ⟨hx, hb, hml, hown, hts⟩ hE hP hS (nX7_refused l hfl Z nT nK cT cK ad g q 0) (cwV 1 hts (gu_V uk_5_104 uk_5_106 uk_0_17 uk_1_9 uk_5_107) rfl rfl rfl (by decide +kernel) ⟨Nat.le_of_ble_eq_true rfl, Nat.le_of_ble_eq_true rfl⟩) (sy_recv (kc := 8) hE hP rfl (by decide) rfl rfl rfl) rfl hl.1 rfl (Nat.le_of_ble_eq_true rfl) dX7_give_79 ⟨Nat.le_of_ble_eq_true rfl, Nat.le_of_ble_eq_true rfl⟩) hS (fun r_e_10 g_e_10 q_e_10 H locs e_10 hP hS => ?_)
          cases e_10
          refine sy_top (y := 0) (by rfl) ?_
          refine lv_if_eq (tgt := 87) hx hb dX7_give_82 (by decide) (fun _ => ?_) (fun c9 => absurd c9 (by decide))
          refine lv_aload_n hx hb dX7_give_87 rfl (lv_at hl 2 rfl) ?_
          refine sy_getRX7 hx hb hts hown hE hP 0 rfl 32 (by decide) (hts _ (u_in uk_4_222)) (v := .ref (ad 33)) rfl dX7_give_88 ?_
          refine lv_iload_n hx hb dX7_give_91 rfl (lv_at hl 3 rfl) ?_
          refine sy_ialdN hx hb hE hP 33 rfl (show vp_in x0 40 from (im_ticket hI c_2)) x0.toNatClampNeg rfl (v := g 33 x0.toNatClampNeg) rfl dX7_give_92 ?_
          refine lv_istore (lv' := [(5, .int (g 33 x0.toNatClampNeg)), (4, .int 1), (3, .int 1), (0, .ref (ad 0)), (1, .int x0), (2, .int x1)]) hx hb dX7_give_93 hl (by decide) rfl (fun ls hl => ?_)
          refine lv_aload_n hx hb dX7_give_95 rfl (lv_at hl 3 rfl) ?_
          refine sy_getRX7 hx hb hts hown hE hP 0 rfl 32 (by decide) (hts _ (u_in uk_4_222)) (v := .ref (ad 33)) rfl dX7_give_96 ?_
          refine lv_iload_n hx hb dX7_give_99 rfl (lv_at hl 4 rfl) ?_
          refine lv_iload_n hx hb dX7_give_100 rfl (lv_at hl 5 rfl) ?_
          refine sy_iastN hx hb hE hP hS 33 rfl (show vp_in x0 40 from (im_ticket hI c_2)) x0.toNatClampNeg rfl dX7_give_101 (fun H locs hP hS => ?_)
          refine lv_iload hx hb dX7_give_102 (lv_at hl 0 rfl) ?_
          exact (sy_ireti hx hb hr hlocks hE hP hS dX7_give_104 ⟨Nat.le_of_ble_eq_true rfl, Nat.le_of_ble_eq_true rfl⟩ (by unfold fX7_give; rw [if_pos c_2, if_pos c_5, if_pos c_7, if_pos c_9] <;> rfl))
        · skip
          refine lv_aload_n hx hb dX7_give_43 rfl (lv_at hl 1 rfl) ?_
          refine sy_getRX7 hx hb hts hown hE hP 0 rfl 38 (by decide) (hts _ (u_in uk_4_228)) (v := .ref (ad 39)) rfl dX7_give_44 ?_
          refine lv_iload_n hx hb dX7_give_47 rfl (lv_at hl 2 rfl) ?_
          refine sy_ialdN hx hb hE hP 39 rfl (show vp_in x0 40 from (im_ticket hI c_2)) x0.toNatClampNeg rfl (v := g 39 x0.toNatClampNeg) rfl dX7_give_48 ?_
          refine lv_iconst (v := 2) hx hb dX7_give_49 (by decide) ?_
          refine lv_icmp_ne (tgt := 57) hx hb dX7_give_50 (by decide) (fun c_11 => ?_) (fun c_11 => ?_)
          · skip
            refine lv_iconst (v := 0) hx hb dX7_give_57 (by decide) ?_
            refine lv_istore (lv' := [(4, .int 0), (3, .int 1), (0, .ref (ad 0)), (1, .int x0), (2, .int x1)]) hx hb dX7_give_58 hl (by decide) rfl (fun ls hl => ?_)
            refine lv_aload_n hx hb dX7_give_60 rfl (lv_at hl 2 rfl) ?_
            refine lv_iload_n hx hb dX7_give_61 rfl (lv_at hl 1 rfl) ?_
            refine lv_if_ne (tgt := 69) hx hb dX7_give_62 (by decide) (fun _ => ?_) (fun c9 => absurd c9 (by decide))
            refine lv_iload hx hb dX7_give_69 (lv_at hl 0 rfl) ?_
            refine lv_if_ne (tgt := 78) hx hb dX7_give_71 (by decide) (fun c9 => absurd c9 (by decide)) (fun _ => ?_)
            refine lv_iconst (v := 2) hx hb dX7_give_74 (by decide) ?_
            refine lv_goto (tgt := 79) hx hb dX7_give_75 (by decide) ?_
            refine sy_ki (sy_rV (o := 0) (As := [.int 2]) (rest := []) ⟨hx, hb, hml, hown, hts⟩ hE hP hS (nX7_refused l hfl Z nT nK cT cK ad g q 2) (cwV 1 hts (gu_V uk_5_104 uk_5_106 uk_0_17 uk_1_9 uk_5_107) rfl rfl rfl (by decide +kernel) ⟨Nat.le_of_ble_eq_true rfl, Nat.le_of_ble_eq_true rfl⟩) (sy_recv (kc := 8) hE hP rfl (by decide) rfl rfl rfl) rfl hl.1 rfl (Nat.le_of_ble_eq_true rfl) dX7_give_79 ⟨Nat.le_of_ble_eq_true rfl, Nat.le_of_ble_eq_true rfl⟩) hS (fun r_e_12 g_e_12 q_e_12 H locs e_12 hP hS => ?_)
            cases e_12
            refine sy_top (y := 1) (by rfl) ?_
            refine lv_if_eq (tgt := 87) hx hb dX7_give_82 (by decide) (fun c9 => absurd c9 (by decide)) (fun _ => ?_)
            refine lv_iconst (v := 0) hx hb dX7_give_85 (by decide) ?_
            exact (sy_ireti hx hb hr hlocks hE hP hS dX7_give_86 ⟨Nat.le_of_ble_eq_true rfl, Nat.le_of_ble_eq_true rfl⟩ (by unfold fX7_give; rw [if_pos c_2, if_pos c_5, if_pos c_7, if_neg c_9, if_neg c_11] <;> rfl))
          · skip
            refine lv_iconst (v := 1) hx hb dX7_give_53 (by decide) ?_
            refine lv_goto (tgt := 58) hx hb dX7_give_54 (by decide) ?_
            refine lv_istore (lv' := [(4, .int 1), (3, .int 1), (0, .ref (ad 0)), (1, .int x0), (2, .int x1)]) hx hb dX7_give_58 hl (by decide) rfl (fun ls hl => ?_)
            refine lv_aload_n hx hb dX7_give_60 rfl (lv_at hl 2 rfl) ?_
            refine lv_iload_n hx hb dX7_give_61 rfl (lv_at hl 1 rfl) ?_
            refine lv_if_ne (tgt := 69) hx hb dX7_give_62 (by decide) (fun _ => ?_) (fun c9 => absurd c9 (by decide))
            refine lv_iload hx hb dX7_give_69 (lv_at hl 0 rfl) ?_
            refine lv_if_ne (tgt := 78) hx hb dX7_give_71 (by decide) (fun _ => ?_) (fun c9 => absurd c9 (by decide))
            refine lv_iconst (v := 0) hx hb dX7_give_78 (by decide) ?_
            refine sy_ki (sy_rV (o := 0) (As := [.int 0]) (rest := []) ⟨hx, hb, hml, hown, hts⟩ hE hP hS (nX7_refused l hfl Z nT nK cT cK ad g q 0) (cwV 1 hts (gu_V uk_5_104 uk_5_106 uk_0_17 uk_1_9 uk_5_107) rfl rfl rfl (by decide +kernel) ⟨Nat.le_of_ble_eq_true rfl, Nat.le_of_ble_eq_true rfl⟩) (sy_recv (kc := 8) hE hP rfl (by decide) rfl rfl rfl) rfl hl.1 rfl (Nat.le_of_ble_eq_true rfl) dX7_give_79 ⟨Nat.le_of_ble_eq_true rfl, Nat.le_of_ble_eq_true rfl⟩) hS (fun r_e_13 g_e_13 q_e_13 H locs e_13 hP hS => ?_)
            cases e_13
            refine sy_top (y := 0) (by rfl) ?_
            refine lv_if_eq (tgt := 87) hx hb dX7_give_82 (by decide) (fun _ => ?_) (fun c9 => absurd c9 (by decide))
            refine lv_aload_n hx hb dX7_give_87 rfl (lv_at hl 2 rfl) ?_
            refine sy_getRX7 hx hb hts hown hE hP 0 rfl 32 (by decide) (hts _ (u_in uk_4_222)) (v := .ref (ad 33)) rfl dX7_give_88 ?_
            refine lv_iload_n hx hb dX7_give_91 rfl (lv_at hl 3 rfl) ?_
            refine sy_ialdN hx hb hE hP 33 rfl (show vp_in x0 40 from (im_ticket hI c_2)) x0.toNatClampNeg rfl (v := g 33 x0.toNatClampNeg) rfl dX7_give_92 ?_
            refine lv_istore (lv' := [(5, .int (g 33 x0.toNatClampNeg)), (4, .int 1), (3, .int 1), (0, .ref (ad 0)), (1, .int x0), (2, .int x1)]) hx hb dX7_give_93 hl (by decide) rfl (fun ls hl => ?_)
            refine lv_aload_n hx hb dX7_give_95 rfl (lv_at hl 3 rfl) ?_
            refine sy_getRX7 hx hb hts hown hE hP 0 rfl 32 (by decide) (hts _ (u_in uk_4_222)) (v := .ref (ad 33)) rfl dX7_give_96 ?_
            refine lv_iload_n hx hb dX7_give_99 rfl (lv_at hl 4 rfl) ?_
            refine lv_iload_n hx hb dX7_give_100 rfl (lv_at hl 5 rfl) ?_
            refine sy_iastN hx hb hE hP hS 33 rfl (show vp_in x0 40 from (im_ticket hI c_2)) x0.toNatClampNeg rfl dX7_give_101 (fun H locs hP hS => ?_)
            refine lv_iload hx hb dX7_give_102 (lv_at hl 0 rfl) ?_
            exact (sy_ireti hx hb hr hlocks hE hP hS dX7_give_104 ⟨Nat.le_of_ble_eq_true rfl, Nat.le_of_ble_eq_true rfl⟩ (by unfold fX7_give; rw [if_pos c_2, if_pos c_5, if_pos c_7, if_neg c_9, if_pos c_11] <;> rfl))
def fX7_notice (g : sG) (q : sQ) (x0 x1 : Int32) : sG := (if 0 ≤ x0 ∧ x0 ≤ (g 0 28) - 1 then (if 0 ≤ x1 ∧ x1 ≤ 9 then (if (g 39 x0.toNatClampNeg) = 0 then (if (g 41 x0.toNatClampNeg) = (-1) then (sy_up (sy_up (sy_up g 0 0 0) 41 x0.toNatClampNeg (g 0 1)) 42 x0.toNatClampNeg x1) else (sy_up g 0 0 2)) else (if (g 39 x0.toNatClampNeg) = 2 then (if (g 41 x0.toNatClampNeg) = (-1) then (sy_up (sy_up (sy_up g 0 0 0) 41 x0.toNatClampNeg (g 0 1)) 42 x0.toNatClampNeg x1) else (sy_up g 0 0 2)) else (sy_up g 0 0 2))) else (sy_up g 0 0 1)) else (sy_up g 0 0 1))
set_option maxHeartbeats 4000000 in
set_option maxRecDepth 100000 in
theorem mX7_notice (l : Launch) (hfl : l.stackTraces = false) (Z : sZ) (nT nK cT cK : Nat) (ad : Nat → Nat) (g : sG) (q : sQ) (x0 x1 : Int32) (hI : IM nT nK g) : sMv l Z yX7_notice (uW (.code yX7_notice cX7_notice 5 none)) { frames := 2, cells := 0, slots := 0, locals := 43 } [.ref (ad 0), .int x0, .int x1] nT nK cT cK ad g q (fun g1 q1 => (g1, q1) = (fX7_notice g q x0 x1, q)) := by
  refine Met.ofW (cc := cX7_notice) (maxL := 5) (ret := none) (by decide) rfl ?_
  intro p e s m args below meth c s₁ B hml hv
  obtain ⟨rfl, hE, hP⟩ := hv
  have hx := B.exec
  have hb := B.bytes
  have hr := B.returns
  have hts := atoms_spec (ws := uW (.code yX7_notice cX7_notice 5 none)) B.pre
  have hown : s.vm.findClass RX7 = some m.cls := findClass_of_methodNamed B.named
  have hlocks := B.notSynchronized
  have hS : va_S (sy_A Z) s.heap s.heap [] := va_S.rf
  have hl := lv_entry ([.ref (ad 0), .int x0, .int x1]) (n := 5) (Nat.le_of_ble_eq_true rfl)
  rw [lg_entry_eq]
  generalize (lg_sl ([.ref (ad 0), .int x0, .int x1]) ++ List.replicate (5 - (lg_sl ([.ref (ad 0), .int x0, .int x1])).length) Slot.unset).toArray = ls at hl ⊢
  have hl : lv_has ls 5 [(0, .ref (ad 0)), (1, .int x0), (2, .int x1)] := hl
  refine lv_aload_n hx hb dX7_notice_0 rfl (lv_at hl 0 rfl) ?_
  refine lv_iload_n hx hb dX7_notice_1 rfl (lv_at hl 1 rfl) ?_
  refine sy_ki (sy_rV (o := 0) (As := [.int x0]) (rest := []) ⟨hx, hb, hml, hown, hts⟩ hE hP hS (mX7_isTicket l hfl Z nT nK cT cK ad g q x0) (cwV 1 hts (gu_V uk_5_172 uk_5_174 uk_0_24 uk_1_9 uk_5_175) rfl rfl rfl (by decide +kernel) ⟨Nat.le_of_ble_eq_true rfl, Nat.le_of_ble_eq_true rfl⟩) (sy_recv (kc := 8) hE hP rfl (by decide) rfl rfl rfl) rfl hl.1 rfl (Nat.le_of_ble_eq_true rfl) dX7_notice_2 ⟨Nat.le_of_ble_eq_true rfl, Nat.le_of_ble_eq_true rfl⟩) hS (fun r_e_1 g_e_1 q_e_1 H locs e_1 hP hS => ?_)
  cases e_1
  refine sy_top (y := (iB (0 ≤ x0 ∧ x0 ≤ (g 0 28) - 1))) (by rfl) ?_
  refine lv_if_eq (tgt := 19) hx hb dX7_notice_5 (by decide) (fun c_2 => ?_) (fun c_2 => ?_)
  · have c_2 := iB_0.mp c_2
    refine lv_iconst (v := 0) hx hb dX7_notice_19 (by decide) ?_
    refine lv_istore_n (lv' := [(3, .int 0), (0, .ref (ad 0)), (1, .int x0), (2, .int x1)]) hx hb dX7_notice_20 rfl hl (by decide) rfl (fun ls hl => ?_)
    refine lv_iload_n hx hb dX7_notice_21 rfl (lv_at hl 0 rfl) ?_
    refine lv_if_eq (tgt := 58) hx hb dX7_notice_22 (by decide) (fun _ => ?_) (fun c9 => absurd c9 (by decide))
    refine lv_iconst (v := 0) hx hb dX7_notice_58 (by decide) ?_
    refine lv_istore (lv' := [(4, .int 0), (3, .int 0), (0, .ref (ad 0)), (1, .int x0), (2, .int x1)]) hx hb dX7_notice_59 hl (by decide) rfl (fun ls hl => ?_)
    refine lv_aload_n hx hb dX7_notice_61 rfl (lv_at hl 2 rfl) ?_
    refine lv_iload_n hx hb dX7_notice_62 rfl (lv_at hl 1 rfl) ?_
    refine lv_if_ne (tgt := 70) hx hb dX7_notice_63 (by decide) (fun c9 => absurd c9 (by decide)) (fun _ => ?_)
    refine lv_iconst (v := 1) hx hb dX7_notice_66 (by decide) ?_
    refine lv_goto (tgt := 80) hx hb dX7_notice_67 (by decide) ?_
    refine sy_ki (sy_rV (o := 0) (As := [.int 1]) (rest := []) ⟨hx, hb, hml, hown, hts⟩ hE hP hS (nX7_refused l hfl Z nT nK cT cK ad g q 1) (cwV 1 hts (gu_V uk_5_104 uk_5_106 uk_0_17 uk_1_9 uk_5_107) rfl rfl rfl (by decide +kernel) ⟨Nat.le_of_ble_eq_true rfl, Nat.le_of_ble_eq_true rfl⟩) (sy_recv (kc := 8) hE hP rfl (by decide) rfl rfl rfl) rfl hl.1 rfl (Nat.le_of_ble_eq_true rfl) dX7_notice_80 ⟨Nat.le_of_ble_eq_true rfl, Nat.le_of_ble_eq_true rfl⟩) hS (fun r_e_3 g_e_3 q_e_3 H locs e_3 hP hS => ?_)
    cases e_3
    refine sy_top (y := 1) (by rfl) ?_
    refine lv_if_ne (tgt := 103) hx hb dX7_notice_83 (by decide) (fun _ => ?_) (fun c9 => absurd c9 (by decide))
    exact (sy_vret hx hb hr hlocks hE hP hS dX7_notice_103 ⟨Nat.le_of_ble_eq_true rfl, Nat.le_of_ble_eq_true rfl⟩ (by unfold fX7_notice; rw [if_neg c_2] <;> rfl))
  · have c_2 := iB_n.mp c_2
    refine lv_iload_n hx hb dX7_notice_8 rfl (lv_at hl 2 rfl) ?_
    refine sy_ki (sy_rS (As := [.int x1]) (rest := []) ⟨hx, hb, hml, hown, hts⟩ hE hP hS (mX7_isPerson l hfl Z nT nK cT cK ad g q x1) (va_cwS 1 hts (gu_S uk_5_120 uk_5_121 uk_1_9 uk_5_122) rfl rfl rfl (by decide +kernel) ⟨Nat.le_of_ble_eq_true rfl, Nat.le_of_ble_eq_true rfl⟩) rfl hl.1 rfl (Nat.le_of_ble_eq_true rfl) dX7_notice_9 ⟨Nat.le_of_ble_eq_true rfl, Nat.le_of_ble_eq_true rfl⟩) hS (fun r_e_4 g_e_4 q_e_4 H locs e_4 hP hS => ?_)
    cases e_4
    refine sy_top (y := (iB (0 ≤ x1 ∧ x1 ≤ 9))) (by rfl) ?_
    refine lv_if_eq (tgt := 19) hx hb dX7_notice_12 (by decide) (fun c_5 => ?_) (fun c_5 => ?_)
    · have c_5 := iB_0.mp c_5
      refine lv_iconst (v := 0) hx hb dX7_notice_19 (by decide) ?_
      refine lv_istore_n (lv' := [(3, .int 0), (0, .ref (ad 0)), (1, .int x0), (2, .int x1)]) hx hb dX7_notice_20 rfl hl (by decide) rfl (fun ls hl => ?_)
      refine lv_iload_n hx hb dX7_notice_21 rfl (lv_at hl 0 rfl) ?_
      refine lv_if_eq (tgt := 58) hx hb dX7_notice_22 (by decide) (fun _ => ?_) (fun c9 => absurd c9 (by decide))
      refine lv_iconst (v := 0) hx hb dX7_notice_58 (by decide) ?_
      refine lv_istore (lv' := [(4, .int 0), (3, .int 0), (0, .ref (ad 0)), (1, .int x0), (2, .int x1)]) hx hb dX7_notice_59 hl (by decide) rfl (fun ls hl => ?_)
      refine lv_aload_n hx hb dX7_notice_61 rfl (lv_at hl 2 rfl) ?_
      refine lv_iload_n hx hb dX7_notice_62 rfl (lv_at hl 1 rfl) ?_
      refine lv_if_ne (tgt := 70) hx hb dX7_notice_63 (by decide) (fun c9 => absurd c9 (by decide)) (fun _ => ?_)
      refine lv_iconst (v := 1) hx hb dX7_notice_66 (by decide) ?_
      refine lv_goto (tgt := 80) hx hb dX7_notice_67 (by decide) ?_
      refine sy_ki (sy_rV (o := 0) (As := [.int 1]) (rest := []) ⟨hx, hb, hml, hown, hts⟩ hE hP hS (nX7_refused l hfl Z nT nK cT cK ad g q 1) (cwV 1 hts (gu_V uk_5_104 uk_5_106 uk_0_17 uk_1_9 uk_5_107) rfl rfl rfl (by decide +kernel) ⟨Nat.le_of_ble_eq_true rfl, Nat.le_of_ble_eq_true rfl⟩) (sy_recv (kc := 8) hE hP rfl (by decide) rfl rfl rfl) rfl hl.1 rfl (Nat.le_of_ble_eq_true rfl) dX7_notice_80 ⟨Nat.le_of_ble_eq_true rfl, Nat.le_of_ble_eq_true rfl⟩) hS (fun r_e_6 g_e_6 q_e_6 H locs e_6 hP hS => ?_)
      cases e_6
      refine sy_top (y := 1) (by rfl) ?_
      refine lv_if_ne (tgt := 103) hx hb dX7_notice_83 (by decide) (fun _ => ?_) (fun c9 => absurd c9 (by decide))
      exact (sy_vret hx hb hr hlocks hE hP hS dX7_notice_103 ⟨Nat.le_of_ble_eq_true rfl, Nat.le_of_ble_eq_true rfl⟩ (by unfold fX7_notice; rw [if_pos c_2, if_neg c_5] <;> rfl))
    · have c_5 := iB_n.mp c_5
      refine lv_iconst (v := 1) hx hb dX7_notice_15 (by decide) ?_
      refine lv_goto (tgt := 20) hx hb dX7_notice_16 (by decide) ?_
      refine lv_istore_n (lv' := [(3, .int 1), (0, .ref (ad 0)), (1, .int x0), (2, .int x1)]) hx hb dX7_notice_20 rfl hl (by decide) rfl (fun ls hl => ?_)
      refine lv_iload_n hx hb dX7_notice_21 rfl (lv_at hl 0 rfl) ?_
      refine lv_if_eq (tgt := 58) hx hb dX7_notice_22 (by decide) (fun c9 => absurd c9 (by decide)) (fun _ => ?_)
      refine lv_aload_n hx hb dX7_notice_25 rfl (lv_at hl 1 rfl) ?_
      refine sy_getRX7 hx hb hts hown hE hP 0 rfl 38 (by decide) (hts _ (u_in uk_4_228)) (v := .ref (ad 39)) rfl dX7_notice_26 ?_
      refine lv_iload_n hx hb dX7_notice_29 rfl (lv_at hl 2 rfl) ?_
      refine sy_ialdN hx hb hE hP 39 rfl (show vp_in x0 40 from (im_ticket hI c_2)) x0.toNatClampNeg rfl (v := g 39 x0.toNatClampNeg) rfl dX7_notice_30 ?_
      refine lv_if_eq (tgt := 44) hx hb dX7_notice_31 (by decide) (fun c_7 => ?_) (fun c_7 => ?_)
      · skip
        refine lv_aload_n hx hb dX7_notice_44 rfl (lv_at hl 1 rfl) ?_
        refine sy_getRX7 hx hb hts hown hE hP 0 rfl 40 (by decide) (hts _ (u_in uk_4_230)) (v := .ref (ad 41)) rfl dX7_notice_45 ?_
        refine lv_iload_n hx hb dX7_notice_48 rfl (lv_at hl 2 rfl) ?_
        refine sy_ialdN hx hb hE hP 41 rfl (show vp_in x0 40 from (im_ticket hI c_2)) x0.toNatClampNeg rfl (v := g 41 x0.toNatClampNeg) rfl dX7_notice_49 ?_
        refine lv_iconst (v := (-1)) hx hb dX7_notice_50 (by decide) ?_
        refine lv_icmp_ne (tgt := 58) hx hb dX7_notice_51 (by decide) (fun c_8 => ?_) (fun c_8 => ?_)
        · skip
          refine lv_iconst (v := 0) hx hb dX7_notice_58 (by decide) ?_
          refine lv_istore (lv' := [(4, .int 0), (3, .int 1), (0, .ref (ad 0)), (1, .int x0), (2, .int x1)]) hx hb dX7_notice_59 hl (by decide) rfl (fun ls hl => ?_)
          refine lv_aload_n hx hb dX7_notice_61 rfl (lv_at hl 2 rfl) ?_
          refine lv_iload_n hx hb dX7_notice_62 rfl (lv_at hl 1 rfl) ?_
          refine lv_if_ne (tgt := 70) hx hb dX7_notice_63 (by decide) (fun _ => ?_) (fun c9 => absurd c9 (by decide))
          refine lv_iload hx hb dX7_notice_70 (lv_at hl 0 rfl) ?_
          refine lv_if_ne (tgt := 79) hx hb dX7_notice_72 (by decide) (fun c9 => absurd c9 (by decide)) (fun _ => ?_)
          refine lv_iconst (v := 2) hx hb dX7_notice_75 (by decide) ?_
          refine lv_goto (tgt := 80) hx hb dX7_notice_76 (by decide) ?_
          refine sy_ki (sy_rV (o := 0) (As := [.int 2]) (rest := []) ⟨hx, hb, hml, hown, hts⟩ hE hP hS (nX7_refused l hfl Z nT nK cT cK ad g q 2) (cwV 1 hts (gu_V uk_5_104 uk_5_106 uk_0_17 uk_1_9 uk_5_107) rfl rfl rfl (by decide +kernel) ⟨Nat.le_of_ble_eq_true rfl, Nat.le_of_ble_eq_true rfl⟩) (sy_recv (kc := 8) hE hP rfl (by decide) rfl rfl rfl) rfl hl.1 rfl (Nat.le_of_ble_eq_true rfl) dX7_notice_80 ⟨Nat.le_of_ble_eq_true rfl, Nat.le_of_ble_eq_true rfl⟩) hS (fun r_e_9 g_e_9 q_e_9 H locs e_9 hP hS => ?_)
          cases e_9
          refine sy_top (y := 1) (by rfl) ?_
          refine lv_if_ne (tgt := 103) hx hb dX7_notice_83 (by decide) (fun _ => ?_) (fun c9 => absurd c9 (by decide))
          exact (sy_vret hx hb hr hlocks hE hP hS dX7_notice_103 ⟨Nat.le_of_ble_eq_true rfl, Nat.le_of_ble_eq_true rfl⟩ (by unfold fX7_notice; rw [if_pos c_2, if_pos c_5, if_pos c_7, if_neg c_8] <;> rfl))
        · skip
          refine lv_iconst (v := 1) hx hb dX7_notice_54 (by decide) ?_
          refine lv_goto (tgt := 59) hx hb dX7_notice_55 (by decide) ?_
          refine lv_istore (lv' := [(4, .int 1), (3, .int 1), (0, .ref (ad 0)), (1, .int x0), (2, .int x1)]) hx hb dX7_notice_59 hl (by decide) rfl (fun ls hl => ?_)
          refine lv_aload_n hx hb dX7_notice_61 rfl (lv_at hl 2 rfl) ?_
          refine lv_iload_n hx hb dX7_notice_62 rfl (lv_at hl 1 rfl) ?_
          refine lv_if_ne (tgt := 70) hx hb dX7_notice_63 (by decide) (fun _ => ?_) (fun c9 => absurd c9 (by decide))
          refine lv_iload hx hb dX7_notice_70 (lv_at hl 0 rfl) ?_
          refine lv_if_ne (tgt := 79) hx hb dX7_notice_72 (by decide) (fun _ => ?_) (fun c9 => absurd c9 (by decide))
          refine lv_iconst (v := 0) hx hb dX7_notice_79 (by decide) ?_
          refine sy_ki (sy_rV (o := 0) (As := [.int 0]) (rest := []) ⟨hx, hb, hml, hown, hts⟩ hE hP hS (nX7_refused l hfl Z nT nK cT cK ad g q 0) (cwV 1 hts (gu_V uk_5_104 uk_5_106 uk_0_17 uk_1_9 uk_5_107) rfl rfl rfl (by decide +kernel) ⟨Nat.le_of_ble_eq_true rfl, Nat.le_of_ble_eq_true rfl⟩) (sy_recv (kc := 8) hE hP rfl (by decide) rfl rfl rfl) rfl hl.1 rfl (Nat.le_of_ble_eq_true rfl) dX7_notice_80 ⟨Nat.le_of_ble_eq_true rfl, Nat.le_of_ble_eq_true rfl⟩) hS (fun r_e_10 g_e_10 q_e_10 H locs e_10 hP hS => ?_)
          cases e_10
          refine sy_top (y := 0) (by rfl) ?_
          refine lv_if_ne (tgt := 103) hx hb dX7_notice_83 (by decide) (fun c9 => absurd c9 (by decide)) (fun _ => ?_)
          refine lv_aload_n hx hb dX7_notice_86 rfl (lv_at hl 2 rfl) ?_
          refine sy_getRX7 hx hb hts hown hE hP 0 rfl 40 (by decide) (hts _ (u_in uk_4_230)) (v := .ref (ad 41)) rfl dX7_notice_87 ?_
          refine lv_iload_n hx hb dX7_notice_90 rfl (lv_at hl 3 rfl) ?_
          refine lv_aload_n hx hb dX7_notice_91 rfl (lv_at hl 2 rfl) ?_
          refine sy_getRX7 hx hb hts hown hE hP 0 rfl 1 (by decide) (hts _ (u_in uk_4_191)) (v := .int (g 0 1)) rfl dX7_notice_92 ?_
          refine sy_iastN hx hb hE hP hS 41 rfl (show vp_in x0 40 from (im_ticket hI c_2)) x0.toNatClampNeg rfl dX7_notice_95 (fun H locs hP hS => ?_)
          refine lv_aload_n hx hb dX7_notice_96 rfl (lv_at hl 2 rfl) ?_
          refine sy_getRX7 hx hb hts hown hE hP 0 rfl 41 (by decide) (hts _ (u_in uk_4_231)) (v := .ref (ad 42)) rfl dX7_notice_97 ?_
          refine lv_iload_n hx hb dX7_notice_100 rfl (lv_at hl 3 rfl) ?_
          refine lv_iload_n hx hb dX7_notice_101 rfl (lv_at hl 4 rfl) ?_
          refine sy_iastN hx hb hE hP hS 42 rfl (show vp_in x0 40 from (im_ticket hI c_2)) x0.toNatClampNeg rfl dX7_notice_102 (fun H locs hP hS => ?_)
          exact (sy_vret hx hb hr hlocks hE hP hS dX7_notice_103 ⟨Nat.le_of_ble_eq_true rfl, Nat.le_of_ble_eq_true rfl⟩ (by unfold fX7_notice; rw [if_pos c_2, if_pos c_5, if_pos c_7, if_pos c_8] <;> rfl))
      · skip
        refine lv_aload_n hx hb dX7_notice_34 rfl (lv_at hl 1 rfl) ?_
        refine sy_getRX7 hx hb hts hown hE hP 0 rfl 38 (by decide) (hts _ (u_in uk_4_228)) (v := .ref (ad 39)) rfl dX7_notice_35 ?_
        refine lv_iload_n hx hb dX7_notice_38 rfl (lv_at hl 2 rfl) ?_
        refine sy_ialdN hx hb hE hP 39 rfl (show vp_in x0 40 from (im_ticket hI c_2)) x0.toNatClampNeg rfl (v := g 39 x0.toNatClampNeg) rfl dX7_notice_39 ?_
        refine lv_iconst (v := 2) hx hb dX7_notice_40 (by decide) ?_
        refine lv_icmp_ne (tgt := 58) hx hb dX7_notice_41 (by decide) (fun c_11 => ?_) (fun c_11 => ?_)
        · skip
          refine lv_iconst (v := 0) hx hb dX7_notice_58 (by decide) ?_
          refine lv_istore (lv' := [(4, .int 0), (3, .int 1), (0, .ref (ad 0)), (1, .int x0), (2, .int x1)]) hx hb dX7_notice_59 hl (by decide) rfl (fun ls hl => ?_)
          refine lv_aload_n hx hb dX7_notice_61 rfl (lv_at hl 2 rfl) ?_
          refine lv_iload_n hx hb dX7_notice_62 rfl (lv_at hl 1 rfl) ?_
          refine lv_if_ne (tgt := 70) hx hb dX7_notice_63 (by decide) (fun _ => ?_) (fun c9 => absurd c9 (by decide))
          refine lv_iload hx hb dX7_notice_70 (lv_at hl 0 rfl) ?_
          refine lv_if_ne (tgt := 79) hx hb dX7_notice_72 (by decide) (fun c9 => absurd c9 (by decide)) (fun _ => ?_)
          refine lv_iconst (v := 2) hx hb dX7_notice_75 (by decide) ?_
          refine lv_goto (tgt := 80) hx hb dX7_notice_76 (by decide) ?_
          refine sy_ki (sy_rV (o := 0) (As := [.int 2]) (rest := []) ⟨hx, hb, hml, hown, hts⟩ hE hP hS (nX7_refused l hfl Z nT nK cT cK ad g q 2) (cwV 1 hts (gu_V uk_5_104 uk_5_106 uk_0_17 uk_1_9 uk_5_107) rfl rfl rfl (by decide +kernel) ⟨Nat.le_of_ble_eq_true rfl, Nat.le_of_ble_eq_true rfl⟩) (sy_recv (kc := 8) hE hP rfl (by decide) rfl rfl rfl) rfl hl.1 rfl (Nat.le_of_ble_eq_true rfl) dX7_notice_80 ⟨Nat.le_of_ble_eq_true rfl, Nat.le_of_ble_eq_true rfl⟩) hS (fun r_e_12 g_e_12 q_e_12 H locs e_12 hP hS => ?_)
          cases e_12
          refine sy_top (y := 1) (by rfl) ?_
          refine lv_if_ne (tgt := 103) hx hb dX7_notice_83 (by decide) (fun _ => ?_) (fun c9 => absurd c9 (by decide))
          exact (sy_vret hx hb hr hlocks hE hP hS dX7_notice_103 ⟨Nat.le_of_ble_eq_true rfl, Nat.le_of_ble_eq_true rfl⟩ (by unfold fX7_notice; rw [if_pos c_2, if_pos c_5, if_neg c_7, if_neg c_11] <;> rfl))
        · skip
          refine lv_aload_n hx hb dX7_notice_44 rfl (lv_at hl 1 rfl) ?_
          refine sy_getRX7 hx hb hts hown hE hP 0 rfl 40 (by decide) (hts _ (u_in uk_4_230)) (v := .ref (ad 41)) rfl dX7_notice_45 ?_
          refine lv_iload_n hx hb dX7_notice_48 rfl (lv_at hl 2 rfl) ?_
          refine sy_ialdN hx hb hE hP 41 rfl (show vp_in x0 40 from (im_ticket hI c_2)) x0.toNatClampNeg rfl (v := g 41 x0.toNatClampNeg) rfl dX7_notice_49 ?_
          refine lv_iconst (v := (-1)) hx hb dX7_notice_50 (by decide) ?_
          refine lv_icmp_ne (tgt := 58) hx hb dX7_notice_51 (by decide) (fun c_13 => ?_) (fun c_13 => ?_)
          · skip
            refine lv_iconst (v := 0) hx hb dX7_notice_58 (by decide) ?_
            refine lv_istore (lv' := [(4, .int 0), (3, .int 1), (0, .ref (ad 0)), (1, .int x0), (2, .int x1)]) hx hb dX7_notice_59 hl (by decide) rfl (fun ls hl => ?_)
            refine lv_aload_n hx hb dX7_notice_61 rfl (lv_at hl 2 rfl) ?_
            refine lv_iload_n hx hb dX7_notice_62 rfl (lv_at hl 1 rfl) ?_
            refine lv_if_ne (tgt := 70) hx hb dX7_notice_63 (by decide) (fun _ => ?_) (fun c9 => absurd c9 (by decide))
            refine lv_iload hx hb dX7_notice_70 (lv_at hl 0 rfl) ?_
            refine lv_if_ne (tgt := 79) hx hb dX7_notice_72 (by decide) (fun c9 => absurd c9 (by decide)) (fun _ => ?_)
            refine lv_iconst (v := 2) hx hb dX7_notice_75 (by decide) ?_
            refine lv_goto (tgt := 80) hx hb dX7_notice_76 (by decide) ?_
            refine sy_ki (sy_rV (o := 0) (As := [.int 2]) (rest := []) ⟨hx, hb, hml, hown, hts⟩ hE hP hS (nX7_refused l hfl Z nT nK cT cK ad g q 2) (cwV 1 hts (gu_V uk_5_104 uk_5_106 uk_0_17 uk_1_9 uk_5_107) rfl rfl rfl (by decide +kernel) ⟨Nat.le_of_ble_eq_true rfl, Nat.le_of_ble_eq_true rfl⟩) (sy_recv (kc := 8) hE hP rfl (by decide) rfl rfl rfl) rfl hl.1 rfl (Nat.le_of_ble_eq_true rfl) dX7_notice_80 ⟨Nat.le_of_ble_eq_true rfl, Nat.le_of_ble_eq_true rfl⟩) hS (fun r_e_14 g_e_14 q_e_14 H locs e_14 hP hS => ?_)
            cases e_14
            refine sy_top (y := 1) (by rfl) ?_
            refine lv_if_ne (tgt := 103) hx hb dX7_notice_83 (by decide) (fun _ => ?_) (fun c9 => absurd c9 (by decide))
            exact (sy_vret hx hb hr hlocks hE hP hS dX7_notice_103 ⟨Nat.le_of_ble_eq_true rfl, Nat.le_of_ble_eq_true rfl⟩ (by unfold fX7_notice; rw [if_pos c_2, if_pos c_5, if_neg c_7, if_pos c_11, if_neg c_13] <;> rfl))
          · skip
            refine lv_iconst (v := 1) hx hb dX7_notice_54 (by decide) ?_
            refine lv_goto (tgt := 59) hx hb dX7_notice_55 (by decide) ?_
            refine lv_istore (lv' := [(4, .int 1), (3, .int 1), (0, .ref (ad 0)), (1, .int x0), (2, .int x1)]) hx hb dX7_notice_59 hl (by decide) rfl (fun ls hl => ?_)
            refine lv_aload_n hx hb dX7_notice_61 rfl (lv_at hl 2 rfl) ?_
            refine lv_iload_n hx hb dX7_notice_62 rfl (lv_at hl 1 rfl) ?_
            refine lv_if_ne (tgt := 70) hx hb dX7_notice_63 (by decide) (fun _ => ?_) (fun c9 => absurd c9 (by decide))
            refine lv_iload hx hb dX7_notice_70 (lv_at hl 0 rfl) ?_
            refine lv_if_ne (tgt := 79) hx hb dX7_notice_72 (by decide) (fun _ => ?_) (fun c9 => absurd c9 (by decide))
            refine lv_iconst (v := 0) hx hb dX7_notice_79 (by decide) ?_
            refine sy_ki (sy_rV (o := 0) (As := [.int 0]) (rest := []) ⟨hx, hb, hml, hown, hts⟩ hE hP hS (nX7_refused l hfl Z nT nK cT cK ad g q 0) (cwV 1 hts (gu_V uk_5_104 uk_5_106 uk_0_17 uk_1_9 uk_5_107) rfl rfl rfl (by decide +kernel) ⟨Nat.le_of_ble_eq_true rfl, Nat.le_of_ble_eq_true rfl⟩) (sy_recv (kc := 8) hE hP rfl (by decide) rfl rfl rfl) rfl hl.1 rfl (Nat.le_of_ble_eq_true rfl) dX7_notice_80 ⟨Nat.le_of_ble_eq_true rfl, Nat.le_of_ble_eq_true rfl⟩) hS (fun r_e_15 g_e_15 q_e_15 H locs e_15 hP hS => ?_)
            cases e_15
            refine sy_top (y := 0) (by rfl) ?_
            refine lv_if_ne (tgt := 103) hx hb dX7_notice_83 (by decide) (fun c9 => absurd c9 (by decide)) (fun _ => ?_)
            refine lv_aload_n hx hb dX7_notice_86 rfl (lv_at hl 2 rfl) ?_
            refine sy_getRX7 hx hb hts hown hE hP 0 rfl 40 (by decide) (hts _ (u_in uk_4_230)) (v := .ref (ad 41)) rfl dX7_notice_87 ?_
            refine lv_iload_n hx hb dX7_notice_90 rfl (lv_at hl 3 rfl) ?_
            refine lv_aload_n hx hb dX7_notice_91 rfl (lv_at hl 2 rfl) ?_
            refine sy_getRX7 hx hb hts hown hE hP 0 rfl 1 (by decide) (hts _ (u_in uk_4_191)) (v := .int (g 0 1)) rfl dX7_notice_92 ?_
            refine sy_iastN hx hb hE hP hS 41 rfl (show vp_in x0 40 from (im_ticket hI c_2)) x0.toNatClampNeg rfl dX7_notice_95 (fun H locs hP hS => ?_)
            refine lv_aload_n hx hb dX7_notice_96 rfl (lv_at hl 2 rfl) ?_
            refine sy_getRX7 hx hb hts hown hE hP 0 rfl 41 (by decide) (hts _ (u_in uk_4_231)) (v := .ref (ad 42)) rfl dX7_notice_97 ?_
            refine lv_iload_n hx hb dX7_notice_100 rfl (lv_at hl 3 rfl) ?_
            refine lv_iload_n hx hb dX7_notice_101 rfl (lv_at hl 4 rfl) ?_
            refine sy_iastN hx hb hE hP hS 42 rfl (show vp_in x0 40 from (im_ticket hI c_2)) x0.toNatClampNeg rfl dX7_notice_102 (fun H locs hP hS => ?_)
            exact (sy_vret hx hb hr hlocks hE hP hS dX7_notice_103 ⟨Nat.le_of_ble_eq_true rfl, Nat.le_of_ble_eq_true rfl⟩ (by unfold fX7_notice; rw [if_pos c_2, if_pos c_5, if_neg c_7, if_pos c_11, if_pos c_13] <;> rfl))
def fX7_show (g : sG) (q : sQ) (x0 : Int32) : Int32 × sG := (if 0 ≤ x0 ∧ x0 ≤ (g 0 28) - 1 then (if (g 41 x0.toNatClampNeg) = (-1) then (0, (sy_up g 0 0 2)) else ((g 42 x0.toNatClampNeg), (sy_up (sy_up g 0 0 0) 41 x0.toNatClampNeg (-1)))) else (0, (sy_up g 0 0 1)))
set_option maxHeartbeats 4000000 in
set_option maxRecDepth 100000 in
theorem mX7_show (l : Launch) (hfl : l.stackTraces = false) (Z : sZ) (nT nK cT cK : Nat) (ad : Nat → Nat) (g : sG) (q : sQ) (x0 : Int32) (hI : IM nT nK g) : sMi l Z yX7_show (uW (.code yX7_show cX7_show 3 (some .int))) { frames := 2, cells := 0, slots := 0, locals := 43 } [.ref (ad 0), .int x0] nT nK cT cK ad g q (fun r g1 q1 => (r, g1, q1) = ((fX7_show g q x0).1, (fX7_show g q x0).2, q)) := by
  refine Met.ofW (cc := cX7_show) (maxL := 3) (ret := (some .int)) (by decide) rfl ?_
  intro p e s m args below meth c s₁ B hml hv
  obtain ⟨rfl, hE, hP⟩ := hv
  have hx := B.exec
  have hb := B.bytes
  have hr := B.returns
  have hts := atoms_spec (ws := uW (.code yX7_show cX7_show 3 (some .int))) B.pre
  have hown : s.vm.findClass RX7 = some m.cls := findClass_of_methodNamed B.named
  have hlocks := B.notSynchronized
  have hS : va_S (sy_A Z) s.heap s.heap [] := va_S.rf
  have hl := lv_entry ([.ref (ad 0), .int x0]) (n := 3) (Nat.le_of_ble_eq_true rfl)
  rw [lg_entry_eq]
  generalize (lg_sl ([.ref (ad 0), .int x0]) ++ List.replicate (3 - (lg_sl ([.ref (ad 0), .int x0])).length) Slot.unset).toArray = ls at hl ⊢
  have hl : lv_has ls 3 [(0, .ref (ad 0)), (1, .int x0)] := hl
  refine lv_aload_n hx hb dX7_show_0 rfl (lv_at hl 0 rfl) ?_
  refine lv_iload_n hx hb dX7_show_1 rfl (lv_at hl 1 rfl) ?_
  refine sy_ki (sy_rV (o := 0) (As := [.int x0]) (rest := []) ⟨hx, hb, hml, hown, hts⟩ hE hP hS (mX7_isTicket l hfl Z nT nK cT cK ad g q x0) (cwV 1 hts (gu_V uk_5_172 uk_5_174 uk_0_24 uk_1_9 uk_5_175) rfl rfl rfl (by decide +kernel) ⟨Nat.le_of_ble_eq_true rfl, Nat.le_of_ble_eq_true rfl⟩) (sy_recv (kc := 8) hE hP rfl (by decide) rfl rfl rfl) rfl hl.1 rfl (Nat.le_of_ble_eq_true rfl) dX7_show_2 ⟨Nat.le_of_ble_eq_true rfl, Nat.le_of_ble_eq_true rfl⟩) hS (fun r_e_1 g_e_1 q_e_1 H locs e_1 hP hS => ?_)
  cases e_1
  refine sy_top (y := (iB (0 ≤ x0 ∧ x0 ≤ (g 0 28) - 1))) (by rfl) ?_
  refine lv_istore_n (lv' := [(2, .int (iB (0 ≤ x0 ∧ x0 ≤ (g 0 28) - 1))), (0, .ref (ad 0)), (1, .int x0)]) hx hb dX7_show_5 rfl hl (by decide) rfl (fun ls hl => ?_)
  refine lv_aload_n hx hb dX7_show_6 rfl (lv_at hl 1 rfl) ?_
  refine lv_iload_n hx hb dX7_show_7 rfl (lv_at hl 0 rfl) ?_
  refine lv_if_ne (tgt := 15) hx hb dX7_show_8 (by decide) (fun c_2 => ?_) (fun c_2 => ?_)
  · have c_2 := iB_n.mp c_2
    refine lv_aload_n hx hb dX7_show_15 rfl (lv_at hl 1 rfl) ?_
    refine sy_getRX7 hx hb hts hown hE hP 0 rfl 40 (by decide) (hts _ (u_in uk_4_230)) (v := .ref (ad 41)) rfl dX7_show_16 ?_
    refine lv_iload_n hx hb dX7_show_19 rfl (lv_at hl 2 rfl) ?_
    refine sy_ialdN hx hb hE hP 41 rfl (show vp_in x0 40 from (im_ticket hI c_2)) x0.toNatClampNeg rfl (v := g 41 x0.toNatClampNeg) rfl dX7_show_20 ?_
    refine lv_iconst (v := (-1)) hx hb dX7_show_21 (by decide) ?_
    refine lv_icmp_ne (tgt := 29) hx hb dX7_show_22 (by decide) (fun c_3 => ?_) (fun c_3 => ?_)
    · skip
      refine lv_iconst (v := 0) hx hb dX7_show_29 (by decide) ?_
      refine sy_ki (sy_rV (o := 0) (As := [.int 0]) (rest := []) ⟨hx, hb, hml, hown, hts⟩ hE hP hS (nX7_refused l hfl Z nT nK cT cK ad g q 0) (cwV 1 hts (gu_V uk_5_104 uk_5_106 uk_0_17 uk_1_9 uk_5_107) rfl rfl rfl (by decide +kernel) ⟨Nat.le_of_ble_eq_true rfl, Nat.le_of_ble_eq_true rfl⟩) (sy_recv (kc := 8) hE hP rfl (by decide) rfl rfl rfl) rfl hl.1 rfl (Nat.le_of_ble_eq_true rfl) dX7_show_30 ⟨Nat.le_of_ble_eq_true rfl, Nat.le_of_ble_eq_true rfl⟩) hS (fun r_e_4 g_e_4 q_e_4 H locs e_4 hP hS => ?_)
      cases e_4
      refine sy_top (y := 0) (by rfl) ?_
      refine lv_if_eq (tgt := 38) hx hb dX7_show_33 (by decide) (fun _ => ?_) (fun c9 => absurd c9 (by decide))
      refine lv_aload_n hx hb dX7_show_38 rfl (lv_at hl 1 rfl) ?_
      refine sy_getRX7 hx hb hts hown hE hP 0 rfl 40 (by decide) (hts _ (u_in uk_4_230)) (v := .ref (ad 41)) rfl dX7_show_39 ?_
      refine lv_iload_n hx hb dX7_show_42 rfl (lv_at hl 2 rfl) ?_
      refine lv_iconst (v := (-1)) hx hb dX7_show_43 (by decide) ?_
      refine sy_iastN hx hb hE hP hS 41 rfl (show vp_in x0 40 from (im_ticket hI c_2)) x0.toNatClampNeg rfl dX7_show_44 (fun H locs hP hS => ?_)
      refine lv_aload_n hx hb dX7_show_45 rfl (lv_at hl 1 rfl) ?_
      refine sy_getRX7 hx hb hts hown hE hP 0 rfl 41 (by decide) (hts _ (u_in uk_4_231)) (v := .ref (ad 42)) rfl dX7_show_46 ?_
      refine lv_iload_n hx hb dX7_show_49 rfl (lv_at hl 2 rfl) ?_
      refine sy_ialdN hx hb hE hP 42 rfl (show vp_in x0 40 from (im_ticket hI c_2)) x0.toNatClampNeg rfl (v := g 42 x0.toNatClampNeg) rfl dX7_show_50 ?_
      exact (sy_ireti hx hb hr hlocks hE hP hS dX7_show_51 ⟨Nat.le_of_ble_eq_true rfl, Nat.le_of_ble_eq_true rfl⟩ (by unfold fX7_show; rw [if_pos c_2, if_neg c_3] <;> rfl))
    · skip
      refine lv_iconst (v := 2) hx hb dX7_show_25 (by decide) ?_
      refine lv_goto (tgt := 30) hx hb dX7_show_26 (by decide) ?_
      refine sy_ki (sy_rV (o := 0) (As := [.int 2]) (rest := []) ⟨hx, hb, hml, hown, hts⟩ hE hP hS (nX7_refused l hfl Z nT nK cT cK ad g q 2) (cwV 1 hts (gu_V uk_5_104 uk_5_106 uk_0_17 uk_1_9 uk_5_107) rfl rfl rfl (by decide +kernel) ⟨Nat.le_of_ble_eq_true rfl, Nat.le_of_ble_eq_true rfl⟩) (sy_recv (kc := 8) hE hP rfl (by decide) rfl rfl rfl) rfl hl.1 rfl (Nat.le_of_ble_eq_true rfl) dX7_show_30 ⟨Nat.le_of_ble_eq_true rfl, Nat.le_of_ble_eq_true rfl⟩) hS (fun r_e_5 g_e_5 q_e_5 H locs e_5 hP hS => ?_)
      cases e_5
      refine sy_top (y := 1) (by rfl) ?_
      refine lv_if_eq (tgt := 38) hx hb dX7_show_33 (by decide) (fun c9 => absurd c9 (by decide)) (fun _ => ?_)
      refine lv_iconst (v := 0) hx hb dX7_show_36 (by decide) ?_
      exact (sy_ireti hx hb hr hlocks hE hP hS dX7_show_37 ⟨Nat.le_of_ble_eq_true rfl, Nat.le_of_ble_eq_true rfl⟩ (by unfold fX7_show; rw [if_pos c_2, if_pos c_3] <;> rfl))
  · have c_2 := iB_0.mp c_2
    refine lv_iconst (v := 1) hx hb dX7_show_11 (by decide) ?_
    refine lv_goto (tgt := 30) hx hb dX7_show_12 (by decide) ?_
    refine sy_ki (sy_rV (o := 0) (As := [.int 1]) (rest := []) ⟨hx, hb, hml, hown, hts⟩ hE hP hS (nX7_refused l hfl Z nT nK cT cK ad g q 1) (cwV 1 hts (gu_V uk_5_104 uk_5_106 uk_0_17 uk_1_9 uk_5_107) rfl rfl rfl (by decide +kernel) ⟨Nat.le_of_ble_eq_true rfl, Nat.le_of_ble_eq_true rfl⟩) (sy_recv (kc := 8) hE hP rfl (by decide) rfl rfl rfl) rfl hl.1 rfl (Nat.le_of_ble_eq_true rfl) dX7_show_30 ⟨Nat.le_of_ble_eq_true rfl, Nat.le_of_ble_eq_true rfl⟩) hS (fun r_e_6 g_e_6 q_e_6 H locs e_6 hP hS => ?_)
    cases e_6
    refine sy_top (y := 1) (by rfl) ?_
    refine lv_if_eq (tgt := 38) hx hb dX7_show_33 (by decide) (fun c9 => absurd c9 (by decide)) (fun _ => ?_)
    refine lv_iconst (v := 0) hx hb dX7_show_36 (by decide) ?_
    exact (sy_ireti hx hb hr hlocks hE hP hS dX7_show_37 ⟨Nat.le_of_ble_eq_true rfl, Nat.le_of_ble_eq_true rfl⟩ (by unfold fX7_show; rw [if_neg c_2] <;> rfl))
def fX7_police (g : sG) (q : sQ) (x0 : Int32) : Int32 × sG := (if 0 ≤ x0 ∧ x0 ≤ (g 0 2) - 1 then (if (g 9 x0.toNatClampNeg) = 0 then ((fX7_openOf (sy_up (sy_up g 0 0 0) 9 x0.toNatClampNeg 1) q x0), (sy_up (sy_up g 0 0 0) 9 x0.toNatClampNeg 1)) else (0, (sy_up g 0 0 2))) else (0, (sy_up g 0 0 1)))
set_option maxHeartbeats 4000000 in
set_option maxRecDepth 100000 in
theorem mX7_police (l : Launch) (hfl : l.stackTraces = false) (Z : sZ) (nT nK cT cK : Nat) (ad : Nat → Nat) (g : sG) (q : sQ) (x0 : Int32) (hI : IM nT nK g) : sMi l Z yX7_police (uW (.code yX7_police cX7_police 3 (some .int))) { frames := 2, cells := 0, slots := 0, locals := 43 } [.ref (ad 0), .int x0] nT nK cT cK ad g q (fun r g1 q1 => (r, g1, q1) = ((fX7_police g q x0).1, (fX7_police g q x0).2, q)) := by
  refine Met.ofW (cc := cX7_police) (maxL := 3) (ret := (some .int)) (by decide) rfl ?_
  intro p e s m args below meth c s₁ B hml hv
  obtain ⟨rfl, hE, hP⟩ := hv
  have hx := B.exec
  have hb := B.bytes
  have hr := B.returns
  have hts := atoms_spec (ws := uW (.code yX7_police cX7_police 3 (some .int))) B.pre
  have hown : s.vm.findClass RX7 = some m.cls := findClass_of_methodNamed B.named
  have hlocks := B.notSynchronized
  have hS : va_S (sy_A Z) s.heap s.heap [] := va_S.rf
  have hl := lv_entry ([.ref (ad 0), .int x0]) (n := 3) (Nat.le_of_ble_eq_true rfl)
  rw [lg_entry_eq]
  generalize (lg_sl ([.ref (ad 0), .int x0]) ++ List.replicate (3 - (lg_sl ([.ref (ad 0), .int x0])).length) Slot.unset).toArray = ls at hl ⊢
  have hl : lv_has ls 3 [(0, .ref (ad 0)), (1, .int x0)] := hl
  refine lv_aload_n hx hb dX7_police_0 rfl (lv_at hl 0 rfl) ?_
  refine lv_iload_n hx hb dX7_police_1 rfl (lv_at hl 1 rfl) ?_
  refine sy_ki (sy_rV (o := 0) (As := [.int x0]) (rest := []) ⟨hx, hb, hml, hown, hts⟩ hE hP hS (mX7_isThing l hfl Z nT nK cT cK ad g q x0) (cwV 1 hts (gu_V uk_5_148 uk_5_150 uk_0_19 uk_1_9 uk_5_151) rfl rfl rfl (by decide +kernel) ⟨Nat.le_of_ble_eq_true rfl, Nat.le_of_ble_eq_true rfl⟩) (sy_recv (kc := 8) hE hP rfl (by decide) rfl rfl rfl) rfl hl.1 rfl (Nat.le_of_ble_eq_true rfl) dX7_police_2 ⟨Nat.le_of_ble_eq_true rfl, Nat.le_of_ble_eq_true rfl⟩) hS (fun r_e_1 g_e_1 q_e_1 H locs e_1 hP hS => ?_)
  cases e_1
  refine sy_top (y := (iB (0 ≤ x0 ∧ x0 ≤ (g 0 2) - 1))) (by rfl) ?_
  refine lv_istore_n (lv' := [(2, .int (iB (0 ≤ x0 ∧ x0 ≤ (g 0 2) - 1))), (0, .ref (ad 0)), (1, .int x0)]) hx hb dX7_police_5 rfl hl (by decide) rfl (fun ls hl => ?_)
  refine lv_aload_n hx hb dX7_police_6 rfl (lv_at hl 1 rfl) ?_
  refine lv_iload_n hx hb dX7_police_7 rfl (lv_at hl 0 rfl) ?_
  refine lv_if_ne (tgt := 15) hx hb dX7_police_8 (by decide) (fun c_2 => ?_) (fun c_2 => ?_)
  · have c_2 := iB_n.mp c_2
    refine lv_aload_n hx hb dX7_police_15 rfl (lv_at hl 1 rfl) ?_
    refine sy_getRX7 hx hb hts hown hE hP 0 rfl 8 (by decide) (hts _ (u_in uk_4_198)) (v := .ref (ad 9)) rfl dX7_police_16 ?_
    refine lv_iload_n hx hb dX7_police_19 rfl (lv_at hl 2 rfl) ?_
    refine sy_zaldN hx hb hE hP 9 rfl (show vp_in x0 40 from (im_thing hI c_2)) x0.toNatClampNeg rfl (v := g 9 x0.toNatClampNeg) rfl dX7_police_20 ?_
    refine lv_if_eq (tgt := 28) hx hb dX7_police_21 (by decide) (fun c_3 => ?_) (fun c_3 => ?_)
    · skip
      refine lv_iconst (v := 0) hx hb dX7_police_28 (by decide) ?_
      refine sy_ki (sy_rV (o := 0) (As := [.int 0]) (rest := []) ⟨hx, hb, hml, hown, hts⟩ hE hP hS (nX7_refused l hfl Z nT nK cT cK ad g q 0) (cwV 1 hts (gu_V uk_5_104 uk_5_106 uk_0_17 uk_1_9 uk_5_107) rfl rfl rfl (by decide +kernel) ⟨Nat.le_of_ble_eq_true rfl, Nat.le_of_ble_eq_true rfl⟩) (sy_recv (kc := 8) hE hP rfl (by decide) rfl rfl rfl) rfl hl.1 rfl (Nat.le_of_ble_eq_true rfl) dX7_police_29 ⟨Nat.le_of_ble_eq_true rfl, Nat.le_of_ble_eq_true rfl⟩) hS (fun r_e_4 g_e_4 q_e_4 H locs e_4 hP hS => ?_)
      cases e_4
      refine sy_top (y := 0) (by rfl) ?_
      refine lv_if_eq (tgt := 37) hx hb dX7_police_32 (by decide) (fun _ => ?_) (fun c9 => absurd c9 (by decide))
      refine lv_aload_n hx hb dX7_police_37 rfl (lv_at hl 1 rfl) ?_
      refine sy_getRX7 hx hb hts hown hE hP 0 rfl 8 (by decide) (hts _ (u_in uk_4_198)) (v := .ref (ad 9)) rfl dX7_police_38 ?_
      refine lv_iload_n hx hb dX7_police_41 rfl (lv_at hl 2 rfl) ?_
      refine lv_iconst (v := 1) hx hb dX7_police_42 (by decide) ?_
      refine sy_zastN hx hb hE hP hS 9 rfl (show vp_in x0 40 from (im_thing hI c_2)) (by decide) x0.toNatClampNeg rfl dX7_police_43 (fun H locs hP hS => ?_)
      refine lv_aload_n hx hb dX7_police_44 rfl (lv_at hl 1 rfl) ?_
      refine lv_iload_n hx hb dX7_police_45 rfl (lv_at hl 2 rfl) ?_
      refine sy_ki (sy_rV (o := 0) (As := [.int x0]) (rest := []) ⟨hx, hb, hml, hown, hts⟩ hE hP hS (mX7_openOf l hfl Z nT nK cT cK ad (sy_up (sy_up g 0 0 0) 9 x0.toNatClampNeg 1) q x0 (im_o (by decide) (im_0 (by decide) hI))) (cwV 1 hts (gu_V uk_5_212 uk_5_214 uk_0_29 uk_1_9 uk_5_215) rfl rfl rfl (by decide +kernel) ⟨Nat.le_of_ble_eq_true rfl, Nat.le_of_ble_eq_true rfl⟩) (sy_recv (kc := 8) hE hP rfl (by decide) rfl rfl rfl) rfl hl.1 rfl (Nat.le_of_ble_eq_true rfl) dX7_police_46 ⟨Nat.le_of_ble_eq_true rfl, Nat.le_of_ble_eq_true rfl⟩) hS (fun r_e_5 g_e_5 q_e_5 H locs e_5 hP hS => ?_)
      cases e_5
      exact (sy_ireti hx hb hr hlocks hE hP hS dX7_police_49 ⟨Nat.le_of_ble_eq_true rfl, Nat.le_of_ble_eq_true rfl⟩ (by unfold fX7_police; rw [if_pos c_2, if_pos c_3] <;> rfl))
    · skip
      refine lv_iconst (v := 2) hx hb dX7_police_24 (by decide) ?_
      refine lv_goto (tgt := 29) hx hb dX7_police_25 (by decide) ?_
      refine sy_ki (sy_rV (o := 0) (As := [.int 2]) (rest := []) ⟨hx, hb, hml, hown, hts⟩ hE hP hS (nX7_refused l hfl Z nT nK cT cK ad g q 2) (cwV 1 hts (gu_V uk_5_104 uk_5_106 uk_0_17 uk_1_9 uk_5_107) rfl rfl rfl (by decide +kernel) ⟨Nat.le_of_ble_eq_true rfl, Nat.le_of_ble_eq_true rfl⟩) (sy_recv (kc := 8) hE hP rfl (by decide) rfl rfl rfl) rfl hl.1 rfl (Nat.le_of_ble_eq_true rfl) dX7_police_29 ⟨Nat.le_of_ble_eq_true rfl, Nat.le_of_ble_eq_true rfl⟩) hS (fun r_e_6 g_e_6 q_e_6 H locs e_6 hP hS => ?_)
      cases e_6
      refine sy_top (y := 1) (by rfl) ?_
      refine lv_if_eq (tgt := 37) hx hb dX7_police_32 (by decide) (fun c9 => absurd c9 (by decide)) (fun _ => ?_)
      refine lv_iconst (v := 0) hx hb dX7_police_35 (by decide) ?_
      exact (sy_ireti hx hb hr hlocks hE hP hS dX7_police_36 ⟨Nat.le_of_ble_eq_true rfl, Nat.le_of_ble_eq_true rfl⟩ (by unfold fX7_police; rw [if_pos c_2, if_neg c_3] <;> rfl))
  · have c_2 := iB_0.mp c_2
    refine lv_iconst (v := 1) hx hb dX7_police_11 (by decide) ?_
    refine lv_goto (tgt := 29) hx hb dX7_police_12 (by decide) ?_
    refine sy_ki (sy_rV (o := 0) (As := [.int 1]) (rest := []) ⟨hx, hb, hml, hown, hts⟩ hE hP hS (nX7_refused l hfl Z nT nK cT cK ad g q 1) (cwV 1 hts (gu_V uk_5_104 uk_5_106 uk_0_17 uk_1_9 uk_5_107) rfl rfl rfl (by decide +kernel) ⟨Nat.le_of_ble_eq_true rfl, Nat.le_of_ble_eq_true rfl⟩) (sy_recv (kc := 8) hE hP rfl (by decide) rfl rfl rfl) rfl hl.1 rfl (Nat.le_of_ble_eq_true rfl) dX7_police_29 ⟨Nat.le_of_ble_eq_true rfl, Nat.le_of_ble_eq_true rfl⟩) hS (fun r_e_7 g_e_7 q_e_7 H locs e_7 hP hS => ?_)
    cases e_7
    refine sy_top (y := 1) (by rfl) ?_
    refine lv_if_eq (tgt := 37) hx hb dX7_police_32 (by decide) (fun c9 => absurd c9 (by decide)) (fun _ => ?_)
    refine lv_iconst (v := 0) hx hb dX7_police_35 (by decide) ?_
    exact (sy_ireti hx hb hr hlocks hE hP hS dX7_police_36 ⟨Nat.le_of_ble_eq_true rfl, Nat.le_of_ble_eq_true rfl⟩ (by unfold fX7_police; rw [if_neg c_2] <;> rfl))
theorem lX7_openOf_in {nT nK : Nat} {g : sG} (hI : IM nT nK g) (q : sQ) (x0 : Int32) : ∀ k, k ≤ 40 → lX7_openOf g q x0 k = -1 ∨ vp_in (lX7_openOf g q x0 k) 40 := by
  intro k
  induction k with
  | zero => intro _; exact Or.inl rfl
  | succ k ih =>
    intro hk
    rw [lX7_openOf]
    repeat' split
    all_goals first | exact ih (by omega) | exact Or.inr (vp_in_nI (by omega) (by decide))
theorem openOf_in {nT nK : Nat} {g : sG} (hI : IM nT nK g) {q : sQ} {x0 : Int32} (h : ¬ fX7_openOf g q x0 = -1) : vp_in (fX7_openOf g q x0) 40 := (lX7_openOf_in hI q x0 _ (im_nK hI).2).resolve_left h
