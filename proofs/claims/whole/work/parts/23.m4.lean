def lX7_count (g : sG) (q : sQ) (x0 : Int32) : Nat → Int32 × Int32 × sG
  | 0 => (0, 0, (sy_up g 0 0 0))
  | k0 + 1 => (if (((lX7_count g q x0 k0).2.2) 8 k0) = 0 then ((((lX7_count g q x0 k0).1) + 0), (((lX7_count g q x0 k0).2.1) + 0), (sy_up ((lX7_count g q x0 k0).2.2) 10 k0 (((lX7_count g q x0 k0).2.2) 10 k0))) else (if ((((lX7_count g q x0 k0).2.2) 11 k0) / 4) = x0 then (if (((lX7_count g q x0 k0).2.2) 10 k0) = (((lX7_count g q x0 k0).2.2) 11 k0) then ((((lX7_count g q x0 k0).1) + 0), (((lX7_count g q x0 k0).2.1) + 0), (sy_up ((lX7_count g q x0 k0).2.2) 10 k0 (((lX7_count g q x0 k0).2.2) 11 k0))) else ((((lX7_count g q x0 k0).1) + 0), (((lX7_count g q x0 k0).2.1) + 1), (sy_up ((lX7_count g q x0 k0).2.2) 10 k0 (((lX7_count g q x0 k0).2.2) 11 k0)))) else (if ((((lX7_count g q x0 k0).2.2) 10 k0) / 4) = x0 then ((((lX7_count g q x0 k0).1) + 1), (((lX7_count g q x0 k0).2.1) + 0), (sy_up ((lX7_count g q x0 k0).2.2) 10 k0 (((lX7_count g q x0 k0).2.2) 10 k0))) else ((((lX7_count g q x0 k0).1) + 0), (((lX7_count g q x0 k0).2.1) + 0), (sy_up ((lX7_count g q x0 k0).2.2) 10 k0 (((lX7_count g q x0 k0).2.2) 10 k0))))))
theorem lX7_count_2 (g : sG) (q : sQ) (x0 : Int32) (k0 : Nat) : (lX7_count g q x0 k0).2.2 0 2 = g 0 2 := by
  induction k0 with
  | zero => rfl
  | succ k0 ih =>
    rw [lX7_count]
    repeat' split
    all_goals first | exact ih | (simp only [sy_up_a]; rw [if_neg (by decide)]; exact ih) | (simp only [sy_up_a]; simp; exact ih) | (simp [sy_up_a, ih])
def fX7_count (g : sG) (q : sQ) (x0 : Int32) : Int32 × sG := (if 0 ≤ x0 ∧ x0 ≤ 2 then (((100 * ((lX7_count g q x0 (g 0 2).toNatClampNeg).1)) + ((lX7_count g q x0 (g 0 2).toNatClampNeg).2.1)), ((lX7_count g q x0 (g 0 2).toNatClampNeg).2.2)) else (0, (sy_up g 0 0 1)))
set_option maxHeartbeats 4000000 in
set_option maxRecDepth 100000 in
theorem mX7_count (l : Launch) (hfl : l.stackTraces = false) (Z : sZ) (nT nK cT cK : Nat) (ad : Nat → Nat) (g : sG) (q : sQ) (x0 : Int32) {mT mK : Nat} (hI : IM mT mK g) : sMi l Z yX7_count (uW (.code yX7_count cX7_count 6 (some .int))) { frames := 1, cells := 0, slots := 0, locals := 22 } [.ref (ad 0), .int x0] nT nK cT cK ad g q (fun r g1 q1 => (r, g1, q1) = ((fX7_count g q x0).1, (fX7_count g q x0).2, q)) := by
  refine Met.ofW (cc := cX7_count) (maxL := 6) (ret := (some .int)) (by decide) rfl ?_
  intro p e s m args below meth c s₁ B hml hv
  obtain ⟨rfl, hE, hP⟩ := hv
  have hx := B.exec
  have hb := B.bytes
  have hr := B.returns
  have hts := atoms_spec (ws := uW (.code yX7_count cX7_count 6 (some .int))) B.pre
  have hown : s.vm.findClass RX7 = some m.cls := findClass_of_methodNamed B.named
  have hlocks := B.notSynchronized
  have hS : va_S (sy_A Z) s.heap s.heap [] := va_S.rf
  have hl := lv_entry ([.ref (ad 0), .int x0]) (n := 6) (Nat.le_of_ble_eq_true rfl)
  rw [lg_entry_eq]
  generalize (lg_sl ([.ref (ad 0), .int x0]) ++ List.replicate (6 - (lg_sl ([.ref (ad 0), .int x0])).length) Slot.unset).toArray = ls at hl ⊢
  have hl : lv_has ls 6 [(0, .ref (ad 0)), (1, .int x0)] := hl
  refine lv_aload_n hx hb dX7_count_0 rfl (lv_at hl 0 rfl) ?_
  refine lv_iload_n hx hb dX7_count_1 rfl (lv_at hl 1 rfl) ?_
  refine lv_iconst (v := 0) hx hb dX7_count_2 (by decide) ?_
  refine lv_iconst (v := 2) hx hb dX7_count_3 (by decide) ?_
  refine sy_ki (sy_rS (As := [.int x0, .int 0, .int 2]) (rest := [.ref (ad 0)]) ⟨hx, hb, hml, hown, hts⟩ hE hP hS (nX7_is l hfl Z nT nK cT cK ad g q x0 0 2) (va_cwS 3 hts (gu_S uk_5_101 uk_5_102 uk_1_9 uk_5_103) rfl rfl rfl (by decide +kernel) ⟨Nat.le_of_ble_eq_true rfl, Nat.le_of_ble_eq_true rfl⟩) rfl hl.1 rfl (Nat.le_of_ble_eq_true rfl) dX7_count_4 ⟨Nat.le_of_ble_eq_true rfl, Nat.le_of_ble_eq_true rfl⟩) hS (fun r_e_1 g_e_1 q_e_1 H locs e_1 hP hS => ?_)
  cases e_1
  refine lv_if_eq (tgt := 14) hx hb dX7_count_7 (by decide) (fun c_2 => ?_) (fun c_2 => ?_)
  · have c_2 := iB_0.mp c_2
    refine lv_iconst (v := 1) hx hb dX7_count_14 (by decide) ?_
    refine sy_ki (sy_rV (o := 0) (As := [.int 1]) (rest := []) ⟨hx, hb, hml, hown, hts⟩ hE hP hS (nX7_refused l hfl Z nT nK cT cK ad g q 1) (cwV 1 hts (gu_V uk_5_104 uk_5_106 uk_0_17 uk_1_9 uk_5_107) rfl rfl rfl (by decide +kernel) ⟨Nat.le_of_ble_eq_true rfl, Nat.le_of_ble_eq_true rfl⟩) (sy_recv (kc := 8) hE hP rfl (by decide) rfl rfl rfl) rfl hl.1 rfl (Nat.le_of_ble_eq_true rfl) dX7_count_15 ⟨Nat.le_of_ble_eq_true rfl, Nat.le_of_ble_eq_true rfl⟩) hS (fun r_e_3 g_e_3 q_e_3 H locs e_3 hP hS => ?_)
    cases e_3
    refine sy_top (y := 1) (by rfl) ?_
    refine lv_if_eq (tgt := 23) hx hb dX7_count_18 (by decide) (fun c9 => absurd c9 (by decide)) (fun _ => ?_)
    refine lv_iconst (v := 0) hx hb dX7_count_21 (by decide) ?_
    exact (sy_ireti hx hb hr hlocks hE hP hS dX7_count_22 ⟨Nat.le_of_ble_eq_true rfl, Nat.le_of_ble_eq_true rfl⟩ (by unfold fX7_count; rw [if_neg c_2] <;> rfl))
  · have c_2 := iB_n.mp c_2
    refine lv_iconst (v := 0) hx hb dX7_count_10 (by decide) ?_
    refine lv_goto (tgt := 15) hx hb dX7_count_11 (by decide) ?_
    refine sy_ki (sy_rV (o := 0) (As := [.int 0]) (rest := []) ⟨hx, hb, hml, hown, hts⟩ hE hP hS (nX7_refused l hfl Z nT nK cT cK ad g q 0) (cwV 1 hts (gu_V uk_5_104 uk_5_106 uk_0_17 uk_1_9 uk_5_107) rfl rfl rfl (by decide +kernel) ⟨Nat.le_of_ble_eq_true rfl, Nat.le_of_ble_eq_true rfl⟩) (sy_recv (kc := 8) hE hP rfl (by decide) rfl rfl rfl) rfl hl.1 rfl (Nat.le_of_ble_eq_true rfl) dX7_count_15 ⟨Nat.le_of_ble_eq_true rfl, Nat.le_of_ble_eq_true rfl⟩) hS (fun r_e_4 g_e_4 q_e_4 H locs e_4 hP hS => ?_)
    cases e_4
    refine sy_top (y := 0) (by rfl) ?_
    refine lv_if_eq (tgt := 23) hx hb dX7_count_18 (by decide) (fun _ => ?_) (fun c9 => absurd c9 (by decide))
    refine lv_iconst (v := 0) hx hb dX7_count_23 (by decide) ?_
    refine lv_istore_n (lv' := [(2, .int 0), (0, .ref (ad 0)), (1, .int x0)]) hx hb dX7_count_24 rfl hl (by decide) rfl (fun ls hl => ?_)
    refine lv_iconst (v := 0) hx hb dX7_count_25 (by decide) ?_
    refine lv_istore_n (lv' := [(3, .int 0), (2, .int 0), (0, .ref (ad 0)), (1, .int x0)]) hx hb dX7_count_26 rfl hl (by decide) rfl (fun ls hl => ?_)
    refine lv_iconst (v := 0) hx hb dX7_count_27 (by decide) ?_
    refine lv_istore (lv' := [(4, .int 0), (3, .int 0), (2, .int 0), (0, .ref (ad 0)), (1, .int x0)]) hx hb dX7_count_28 hl (by decide) rfl (fun ls hl => ?_)
    have hL_30 : ∀ (n k0 : Nat), k0 ≤ (g 0 2).toNatClampNeg → (g 0 2).toNatClampNeg + 1 ≤ k0 + n → ∀ (H : Heap) (locs : List Loc) (ls : Array Slot), Sy Z nT nK cT cK ad ((lX7_count g q x0 k0).2.2) q H → va_S (sy_A Z) s.heap H locs → lv_has ls 6 [(4, .int (nI k0)), (3, .int ((lX7_count g q x0 k0).1)), (2, .int ((lX7_count g q x0 k0).2.1)), (0, .ref (ad 0)), (1, .int x0)] → W p l e ({ frames := 1, cells := 0, slots := 0, locals := 22 } : Room) s m ([.ref (ad 0), .int x0] : List Value).toArray below meth c H locs 0 0 (MQ below (sQi Z nT nK cT cK ad (fun r g1 q1 => (r, g1, q1) = ((fX7_count g q x0).1, (fX7_count g q x0).2, q))) ([.ref (ad 0), .int x0] : List Value).toArray s 0 0 (sy_A Z)) (F0 m 30 ls []) := by
      intro n
      induction n with
      | zero => intro k0 hi hn ; exact absurd hn (by omega)
      | succ n ih =>
        intro k0 hi hn H locs ls hP hS hl
        have hN9 := (im_nT hI).2
        refine lv_iload hx hb dX7_count_30 (lv_at hl 0 rfl) ?_
        refine lv_aload_n hx hb dX7_count_32 rfl (lv_at hl 3 rfl) ?_
        refine sy_getRX7 hx hb hts hown hE hP 0 rfl 2 (by decide) (hts _ (u_in uk_4_192)) (v := .int (((lX7_count g q x0 k0).2.2) 0 2)) rfl dX7_count_33 ?_
        refine lv_icmp_ge (tgt := 170) hx hb dX7_count_36 (by decide) (fun c_5 => ?_) (fun c_5 => ?_)
        · skip
          obtain rfl := loop_exit (N := (g 0 2).toNatClampNeg) ((lX7_count_2 g q x0 k0).trans (im_nT hI).1) (by omega) hi c_5
          refine lv_bipush (v := 100) hx hb dX7_count_170 (by decide) ?_
          refine lv_iload_n hx hb dX7_count_172 rfl (lv_at hl 1 rfl) ?_
          refine lv_imul hx hb dX7_count_173 ?_
          refine lv_iload_n hx hb dX7_count_174 rfl (lv_at hl 2 rfl) ?_
          refine lv_iadd hx hb dX7_count_175 ?_
          exact (sy_ireti hx hb hr hlocks hE hP hS dX7_count_176 ⟨Nat.le_of_ble_eq_true rfl, Nat.le_of_ble_eq_true rfl⟩ (by unfold fX7_count; rw [if_pos c_2] <;> rfl))
        · skip
          have hk0 : k0 < (g 0 2).toNatClampNeg := loop_in (N := (g 0 2).toNatClampNeg) ((lX7_count_2 g q x0 k0).trans (im_nT hI).1) (by omega) hi c_5
          refine lv_aload_n hx hb dX7_count_39 rfl (lv_at hl 3 rfl) ?_
          refine sy_getRX7 hx hb hts hown hE hP 0 rfl 7 (by decide) (hts _ (u_in uk_4_197)) (v := .ref (ad 8)) rfl dX7_count_40 ?_
          refine lv_iload hx hb dX7_count_43 (lv_at hl 0 rfl) ?_
          refine sy_zaldN hx hb hE hP 8 rfl (show vp_in (nI k0) 40 from vp_in_nI (by omega) (by decide)) k0 (nI_clamp (by omega)) (v := ((lX7_count g q x0 k0).2.2) 8 k0) rfl dX7_count_45 ?_
          refine lv_if_eq (tgt := 66) hx hb dX7_count_46 (by decide) (fun c_6 => ?_) (fun c_6 => ?_)
          · skip
            refine lv_iconst (v := 0) hx hb dX7_count_66 (by decide) ?_
            refine lv_istore (lv' := [(5, .int 0), (4, .int (nI k0)), (3, .int ((lX7_count g q x0 k0).1)), (2, .int ((lX7_count g q x0 k0).2.1)), (0, .ref (ad 0)), (1, .int x0)]) hx hb dX7_count_67 hl (by decide) rfl (fun ls hl => ?_)
            refine lv_iload_n hx hb dX7_count_69 rfl (lv_at hl 2 rfl) ?_
            refine lv_aload_n hx hb dX7_count_70 rfl (lv_at hl 4 rfl) ?_
            refine sy_getRX7 hx hb hts hown hE hP 0 rfl 7 (by decide) (hts _ (u_in uk_4_197)) (v := .ref (ad 8)) rfl dX7_count_71 ?_
            refine lv_iload hx hb dX7_count_74 (lv_at hl 1 rfl) ?_
            refine sy_zaldN hx hb hE hP 8 rfl (show vp_in (nI k0) 40 from vp_in_nI (by omega) (by decide)) k0 (nI_clamp (by omega)) (v := ((lX7_count g q x0 k0).2.2) 8 k0) rfl dX7_count_76 ?_
            refine lv_if_eq (tgt := 102) hx hb dX7_count_77 (by decide) (fun _ => ?_) (fun c9 => absurd c_6 c9)
            refine lv_iconst (v := 0) hx hb dX7_count_102 (by decide) ?_
            refine lv_iadd hx hb dX7_count_103 ?_
            refine lv_istore_n (lv' := [(3, .int (((lX7_count g q x0 k0).1) + 0)), (5, .int 0), (4, .int (nI k0)), (2, .int ((lX7_count g q x0 k0).2.1)), (0, .ref (ad 0)), (1, .int x0)]) hx hb dX7_count_104 rfl hl (by decide) rfl (fun ls hl => ?_)
            refine lv_iload_n hx hb dX7_count_105 rfl (lv_at hl 3 rfl) ?_
            refine lv_iload hx hb dX7_count_106 (lv_at hl 1 rfl) ?_
            refine lv_if_eq (tgt := 132) hx hb dX7_count_108 (by decide) (fun _ => ?_) (fun c9 => absurd c9 (by decide))
            refine lv_iconst (v := 0) hx hb dX7_count_132 (by decide) ?_
            refine lv_iadd hx hb dX7_count_133 ?_
            refine lv_istore_n (lv' := [(2, .int (((lX7_count g q x0 k0).2.1) + 0)), (3, .int (((lX7_count g q x0 k0).1) + 0)), (5, .int 0), (4, .int (nI k0)), (0, .ref (ad 0)), (1, .int x0)]) hx hb dX7_count_134 rfl hl (by decide) rfl (fun ls hl => ?_)
            refine lv_aload_n hx hb dX7_count_135 rfl (lv_at hl 4 rfl) ?_
            refine sy_getRX7 hx hb hts hown hE hP 0 rfl 9 (by decide) (hts _ (u_in uk_4_199)) (v := .ref (ad 10)) rfl dX7_count_136 ?_
            refine lv_iload hx hb dX7_count_139 (lv_at hl 3 rfl) ?_
            refine lv_iload hx hb dX7_count_141 (lv_at hl 2 rfl) ?_
            refine lv_if_eq (tgt := 156) hx hb dX7_count_143 (by decide) (fun _ => ?_) (fun c9 => absurd c9 (by decide))
            refine lv_aload_n hx hb dX7_count_156 rfl (lv_at hl 4 rfl) ?_
            refine sy_getRX7 hx hb hts hown hE hP 0 rfl 9 (by decide) (hts _ (u_in uk_4_199)) (v := .ref (ad 10)) rfl dX7_count_157 ?_
            refine lv_iload hx hb dX7_count_160 (lv_at hl 3 rfl) ?_
            refine sy_ialdN hx hb hE hP 10 rfl (show vp_in (nI k0) 40 from vp_in_nI (by omega) (by decide)) k0 (nI_clamp (by omega)) (v := ((lX7_count g q x0 k0).2.2) 10 k0) rfl dX7_count_162 ?_
            refine sy_iastN hx hb hE hP hS 10 rfl (show vp_in (nI k0) 40 from vp_in_nI (by omega) (by decide)) k0 (nI_clamp (by omega)) dX7_count_163 (fun H locs hP hS => ?_)
            refine lv_iinc (v := ((nI k0) + 1)) (lv' := [(4, .int ((nI k0) + 1)), (2, .int (((lX7_count g q x0 k0).2.1) + 0)), (3, .int (((lX7_count g q x0 k0).1) + 0)), (5, .int 0), (0, .ref (ad 0)), (1, .int x0)]) hx hb dX7_count_164 hl (k := 3) rfl rfl (by decide) rfl (fun ls hl => ?_)
            refine lv_goto (tgt := 30) hx hb dX7_count_167 (by decide) ?_
            have hF : lX7_count g q x0 (k0 + 1) = ((((lX7_count g q x0 k0).1) + 0), (((lX7_count g q x0 k0).2.1) + 0), (sy_up ((lX7_count g q x0 k0).2.2) 10 k0 (((lX7_count g q x0 k0).2.2) 10 k0))) := by rw [lX7_count, if_pos c_6] <;> rfl
            exact ih (k0 + 1) (by omega) (by omega) H locs ls (by rw [t3_3 hF]; exact hP) hS (by rw [nI_succ, t3_1 hF, t3_2 hF]; exact lv_sub hl [0, 2, 1, 4, 5] rfl)
          · skip
            refine lv_aload_n hx hb dX7_count_49 rfl (lv_at hl 3 rfl) ?_
            refine sy_getRX7 hx hb hts hown hE hP 0 rfl 10 (by decide) (hts _ (u_in uk_4_200)) (v := .ref (ad 11)) rfl dX7_count_50 ?_
            refine lv_iload hx hb dX7_count_53 (lv_at hl 0 rfl) ?_
            refine sy_ialdN hx hb hE hP 11 rfl (show vp_in (nI k0) 40 from vp_in_nI (by omega) (by decide)) k0 (nI_clamp (by omega)) (v := ((lX7_count g q x0 k0).2.2) 11 k0) rfl dX7_count_55 ?_
            refine lv_iconst (v := 4) hx hb dX7_count_56 (by decide) ?_
            refine lv_idiv hx hb dX7_count_57 (by decide) ?_
            refine lv_iload_n hx hb dX7_count_58 rfl (lv_at hl 4 rfl) ?_
            refine lv_icmp_ne (tgt := 66) hx hb dX7_count_59 (by decide) (fun c_7 => ?_) (fun c_7 => ?_)
            · skip
              refine lv_iconst (v := 0) hx hb dX7_count_66 (by decide) ?_
              refine lv_istore (lv' := [(5, .int 0), (4, .int (nI k0)), (3, .int ((lX7_count g q x0 k0).1)), (2, .int ((lX7_count g q x0 k0).2.1)), (0, .ref (ad 0)), (1, .int x0)]) hx hb dX7_count_67 hl (by decide) rfl (fun ls hl => ?_)
              refine lv_iload_n hx hb dX7_count_69 rfl (lv_at hl 2 rfl) ?_
              refine lv_aload_n hx hb dX7_count_70 rfl (lv_at hl 4 rfl) ?_
              refine sy_getRX7 hx hb hts hown hE hP 0 rfl 7 (by decide) (hts _ (u_in uk_4_197)) (v := .ref (ad 8)) rfl dX7_count_71 ?_
              refine lv_iload hx hb dX7_count_74 (lv_at hl 1 rfl) ?_
              refine sy_zaldN hx hb hE hP 8 rfl (show vp_in (nI k0) 40 from vp_in_nI (by omega) (by decide)) k0 (nI_clamp (by omega)) (v := ((lX7_count g q x0 k0).2.2) 8 k0) rfl dX7_count_76 ?_
              refine lv_if_eq (tgt := 102) hx hb dX7_count_77 (by decide) (fun c9 => absurd c9 c_6) (fun _ => ?_)
              refine lv_iload hx hb dX7_count_80 (lv_at hl 0 rfl) ?_
              refine lv_if_ne (tgt := 102) hx hb dX7_count_82 (by decide) (fun c9 => absurd c9 (by decide)) (fun _ => ?_)
              refine lv_aload_n hx hb dX7_count_85 rfl (lv_at hl 4 rfl) ?_
              refine sy_getRX7 hx hb hts hown hE hP 0 rfl 9 (by decide) (hts _ (u_in uk_4_199)) (v := .ref (ad 10)) rfl dX7_count_86 ?_
              refine lv_iload hx hb dX7_count_89 (lv_at hl 1 rfl) ?_
              refine sy_ialdN hx hb hE hP 10 rfl (show vp_in (nI k0) 40 from vp_in_nI (by omega) (by decide)) k0 (nI_clamp (by omega)) (v := ((lX7_count g q x0 k0).2.2) 10 k0) rfl dX7_count_91 ?_
              refine lv_iconst (v := 4) hx hb dX7_count_92 (by decide) ?_
              refine lv_idiv hx hb dX7_count_93 (by decide) ?_
              refine lv_iload_n hx hb dX7_count_94 rfl (lv_at hl 5 rfl) ?_
              refine lv_icmp_ne (tgt := 102) hx hb dX7_count_95 (by decide) (fun c_8 => ?_) (fun c_8 => ?_)
              · skip
                refine lv_iconst (v := 0) hx hb dX7_count_102 (by decide) ?_
                refine lv_iadd hx hb dX7_count_103 ?_
                refine lv_istore_n (lv' := [(3, .int (((lX7_count g q x0 k0).1) + 0)), (5, .int 0), (4, .int (nI k0)), (2, .int ((lX7_count g q x0 k0).2.1)), (0, .ref (ad 0)), (1, .int x0)]) hx hb dX7_count_104 rfl hl (by decide) rfl (fun ls hl => ?_)
                refine lv_iload_n hx hb dX7_count_105 rfl (lv_at hl 3 rfl) ?_
                refine lv_iload hx hb dX7_count_106 (lv_at hl 1 rfl) ?_
                refine lv_if_eq (tgt := 132) hx hb dX7_count_108 (by decide) (fun _ => ?_) (fun c9 => absurd c9 (by decide))
                refine lv_iconst (v := 0) hx hb dX7_count_132 (by decide) ?_
                refine lv_iadd hx hb dX7_count_133 ?_
                refine lv_istore_n (lv' := [(2, .int (((lX7_count g q x0 k0).2.1) + 0)), (3, .int (((lX7_count g q x0 k0).1) + 0)), (5, .int 0), (4, .int (nI k0)), (0, .ref (ad 0)), (1, .int x0)]) hx hb dX7_count_134 rfl hl (by decide) rfl (fun ls hl => ?_)
                refine lv_aload_n hx hb dX7_count_135 rfl (lv_at hl 4 rfl) ?_
                refine sy_getRX7 hx hb hts hown hE hP 0 rfl 9 (by decide) (hts _ (u_in uk_4_199)) (v := .ref (ad 10)) rfl dX7_count_136 ?_
                refine lv_iload hx hb dX7_count_139 (lv_at hl 3 rfl) ?_
                refine lv_iload hx hb dX7_count_141 (lv_at hl 2 rfl) ?_
                refine lv_if_eq (tgt := 156) hx hb dX7_count_143 (by decide) (fun _ => ?_) (fun c9 => absurd c9 (by decide))
                refine lv_aload_n hx hb dX7_count_156 rfl (lv_at hl 4 rfl) ?_
                refine sy_getRX7 hx hb hts hown hE hP 0 rfl 9 (by decide) (hts _ (u_in uk_4_199)) (v := .ref (ad 10)) rfl dX7_count_157 ?_
                refine lv_iload hx hb dX7_count_160 (lv_at hl 3 rfl) ?_
                refine sy_ialdN hx hb hE hP 10 rfl (show vp_in (nI k0) 40 from vp_in_nI (by omega) (by decide)) k0 (nI_clamp (by omega)) (v := ((lX7_count g q x0 k0).2.2) 10 k0) rfl dX7_count_162 ?_
                refine sy_iastN hx hb hE hP hS 10 rfl (show vp_in (nI k0) 40 from vp_in_nI (by omega) (by decide)) k0 (nI_clamp (by omega)) dX7_count_163 (fun H locs hP hS => ?_)
                refine lv_iinc (v := ((nI k0) + 1)) (lv' := [(4, .int ((nI k0) + 1)), (2, .int (((lX7_count g q x0 k0).2.1) + 0)), (3, .int (((lX7_count g q x0 k0).1) + 0)), (5, .int 0), (0, .ref (ad 0)), (1, .int x0)]) hx hb dX7_count_164 hl (k := 3) rfl rfl (by decide) rfl (fun ls hl => ?_)
                refine lv_goto (tgt := 30) hx hb dX7_count_167 (by decide) ?_
                have hF : lX7_count g q x0 (k0 + 1) = ((((lX7_count g q x0 k0).1) + 0), (((lX7_count g q x0 k0).2.1) + 0), (sy_up ((lX7_count g q x0 k0).2.2) 10 k0 (((lX7_count g q x0 k0).2.2) 10 k0))) := by rw [lX7_count, if_neg c_6, if_neg c_7, if_neg c_8] <;> rfl
                exact ih (k0 + 1) (by omega) (by omega) H locs ls (by rw [t3_3 hF]; exact hP) hS (by rw [nI_succ, t3_1 hF, t3_2 hF]; exact lv_sub hl [0, 2, 1, 4, 5] rfl)
              · skip
                refine lv_iconst (v := 1) hx hb dX7_count_98 (by decide) ?_
                refine lv_goto (tgt := 103) hx hb dX7_count_99 (by decide) ?_
                refine lv_iadd hx hb dX7_count_103 ?_
                refine lv_istore_n (lv' := [(3, .int (((lX7_count g q x0 k0).1) + 1)), (5, .int 0), (4, .int (nI k0)), (2, .int ((lX7_count g q x0 k0).2.1)), (0, .ref (ad 0)), (1, .int x0)]) hx hb dX7_count_104 rfl hl (by decide) rfl (fun ls hl => ?_)
                refine lv_iload_n hx hb dX7_count_105 rfl (lv_at hl 3 rfl) ?_
                refine lv_iload hx hb dX7_count_106 (lv_at hl 1 rfl) ?_
                refine lv_if_eq (tgt := 132) hx hb dX7_count_108 (by decide) (fun _ => ?_) (fun c9 => absurd c9 (by decide))
                refine lv_iconst (v := 0) hx hb dX7_count_132 (by decide) ?_
                refine lv_iadd hx hb dX7_count_133 ?_
                refine lv_istore_n (lv' := [(2, .int (((lX7_count g q x0 k0).2.1) + 0)), (3, .int (((lX7_count g q x0 k0).1) + 1)), (5, .int 0), (4, .int (nI k0)), (0, .ref (ad 0)), (1, .int x0)]) hx hb dX7_count_134 rfl hl (by decide) rfl (fun ls hl => ?_)
                refine lv_aload_n hx hb dX7_count_135 rfl (lv_at hl 4 rfl) ?_
                refine sy_getRX7 hx hb hts hown hE hP 0 rfl 9 (by decide) (hts _ (u_in uk_4_199)) (v := .ref (ad 10)) rfl dX7_count_136 ?_
                refine lv_iload hx hb dX7_count_139 (lv_at hl 3 rfl) ?_
                refine lv_iload hx hb dX7_count_141 (lv_at hl 2 rfl) ?_
                refine lv_if_eq (tgt := 156) hx hb dX7_count_143 (by decide) (fun _ => ?_) (fun c9 => absurd c9 (by decide))
                refine lv_aload_n hx hb dX7_count_156 rfl (lv_at hl 4 rfl) ?_
                refine sy_getRX7 hx hb hts hown hE hP 0 rfl 9 (by decide) (hts _ (u_in uk_4_199)) (v := .ref (ad 10)) rfl dX7_count_157 ?_
                refine lv_iload hx hb dX7_count_160 (lv_at hl 3 rfl) ?_
                refine sy_ialdN hx hb hE hP 10 rfl (show vp_in (nI k0) 40 from vp_in_nI (by omega) (by decide)) k0 (nI_clamp (by omega)) (v := ((lX7_count g q x0 k0).2.2) 10 k0) rfl dX7_count_162 ?_
                refine sy_iastN hx hb hE hP hS 10 rfl (show vp_in (nI k0) 40 from vp_in_nI (by omega) (by decide)) k0 (nI_clamp (by omega)) dX7_count_163 (fun H locs hP hS => ?_)
                refine lv_iinc (v := ((nI k0) + 1)) (lv' := [(4, .int ((nI k0) + 1)), (2, .int (((lX7_count g q x0 k0).2.1) + 0)), (3, .int (((lX7_count g q x0 k0).1) + 1)), (5, .int 0), (0, .ref (ad 0)), (1, .int x0)]) hx hb dX7_count_164 hl (k := 3) rfl rfl (by decide) rfl (fun ls hl => ?_)
                refine lv_goto (tgt := 30) hx hb dX7_count_167 (by decide) ?_
                have hF : lX7_count g q x0 (k0 + 1) = ((((lX7_count g q x0 k0).1) + 1), (((lX7_count g q x0 k0).2.1) + 0), (sy_up ((lX7_count g q x0 k0).2.2) 10 k0 (((lX7_count g q x0 k0).2.2) 10 k0))) := by rw [lX7_count, if_neg c_6, if_neg c_7, if_pos c_8] <;> rfl
                exact ih (k0 + 1) (by omega) (by omega) H locs ls (by rw [t3_3 hF]; exact hP) hS (by rw [nI_succ, t3_1 hF, t3_2 hF]; exact lv_sub hl [0, 2, 1, 4, 5] rfl)
            · skip
              refine lv_iconst (v := 1) hx hb dX7_count_62 (by decide) ?_
              refine lv_goto (tgt := 67) hx hb dX7_count_63 (by decide) ?_
              refine lv_istore (lv' := [(5, .int 1), (4, .int (nI k0)), (3, .int ((lX7_count g q x0 k0).1)), (2, .int ((lX7_count g q x0 k0).2.1)), (0, .ref (ad 0)), (1, .int x0)]) hx hb dX7_count_67 hl (by decide) rfl (fun ls hl => ?_)
              refine lv_iload_n hx hb dX7_count_69 rfl (lv_at hl 2 rfl) ?_
              refine lv_aload_n hx hb dX7_count_70 rfl (lv_at hl 4 rfl) ?_
              refine sy_getRX7 hx hb hts hown hE hP 0 rfl 7 (by decide) (hts _ (u_in uk_4_197)) (v := .ref (ad 8)) rfl dX7_count_71 ?_
              refine lv_iload hx hb dX7_count_74 (lv_at hl 1 rfl) ?_
              refine sy_zaldN hx hb hE hP 8 rfl (show vp_in (nI k0) 40 from vp_in_nI (by omega) (by decide)) k0 (nI_clamp (by omega)) (v := ((lX7_count g q x0 k0).2.2) 8 k0) rfl dX7_count_76 ?_
              refine lv_if_eq (tgt := 102) hx hb dX7_count_77 (by decide) (fun c9 => absurd c9 c_6) (fun _ => ?_)
              refine lv_iload hx hb dX7_count_80 (lv_at hl 0 rfl) ?_
              refine lv_if_ne (tgt := 102) hx hb dX7_count_82 (by decide) (fun _ => ?_) (fun c9 => absurd c9 (by decide))
              refine lv_iconst (v := 0) hx hb dX7_count_102 (by decide) ?_
              refine lv_iadd hx hb dX7_count_103 ?_
              refine lv_istore_n (lv' := [(3, .int (((lX7_count g q x0 k0).1) + 0)), (5, .int 1), (4, .int (nI k0)), (2, .int ((lX7_count g q x0 k0).2.1)), (0, .ref (ad 0)), (1, .int x0)]) hx hb dX7_count_104 rfl hl (by decide) rfl (fun ls hl => ?_)
              refine lv_iload_n hx hb dX7_count_105 rfl (lv_at hl 3 rfl) ?_
              refine lv_iload hx hb dX7_count_106 (lv_at hl 1 rfl) ?_
              refine lv_if_eq (tgt := 132) hx hb dX7_count_108 (by decide) (fun c9 => absurd c9 (by decide)) (fun _ => ?_)
              refine lv_aload_n hx hb dX7_count_111 rfl (lv_at hl 4 rfl) ?_
              refine sy_getRX7 hx hb hts hown hE hP 0 rfl 9 (by decide) (hts _ (u_in uk_4_199)) (v := .ref (ad 10)) rfl dX7_count_112 ?_
              refine lv_iload hx hb dX7_count_115 (lv_at hl 2 rfl) ?_
              refine sy_ialdN hx hb hE hP 10 rfl (show vp_in (nI k0) 40 from vp_in_nI (by omega) (by decide)) k0 (nI_clamp (by omega)) (v := ((lX7_count g q x0 k0).2.2) 10 k0) rfl dX7_count_117 ?_
              refine lv_aload_n hx hb dX7_count_118 rfl (lv_at hl 4 rfl) ?_
              refine sy_getRX7 hx hb hts hown hE hP 0 rfl 10 (by decide) (hts _ (u_in uk_4_200)) (v := .ref (ad 11)) rfl dX7_count_119 ?_
              refine lv_iload hx hb dX7_count_122 (lv_at hl 2 rfl) ?_
              refine sy_ialdN hx hb hE hP 11 rfl (show vp_in (nI k0) 40 from vp_in_nI (by omega) (by decide)) k0 (nI_clamp (by omega)) (v := ((lX7_count g q x0 k0).2.2) 11 k0) rfl dX7_count_124 ?_
              refine lv_icmp_eq (tgt := 132) hx hb dX7_count_125 (by decide) (fun c_9 => ?_) (fun c_9 => ?_)
              · skip
                refine lv_iconst (v := 0) hx hb dX7_count_132 (by decide) ?_
                refine lv_iadd hx hb dX7_count_133 ?_
                refine lv_istore_n (lv' := [(2, .int (((lX7_count g q x0 k0).2.1) + 0)), (3, .int (((lX7_count g q x0 k0).1) + 0)), (5, .int 1), (4, .int (nI k0)), (0, .ref (ad 0)), (1, .int x0)]) hx hb dX7_count_134 rfl hl (by decide) rfl (fun ls hl => ?_)
                refine lv_aload_n hx hb dX7_count_135 rfl (lv_at hl 4 rfl) ?_
                refine sy_getRX7 hx hb hts hown hE hP 0 rfl 9 (by decide) (hts _ (u_in uk_4_199)) (v := .ref (ad 10)) rfl dX7_count_136 ?_
                refine lv_iload hx hb dX7_count_139 (lv_at hl 3 rfl) ?_
                refine lv_iload hx hb dX7_count_141 (lv_at hl 2 rfl) ?_
                refine lv_if_eq (tgt := 156) hx hb dX7_count_143 (by decide) (fun c9 => absurd c9 (by decide)) (fun _ => ?_)
                refine lv_aload_n hx hb dX7_count_146 rfl (lv_at hl 4 rfl) ?_
                refine sy_getRX7 hx hb hts hown hE hP 0 rfl 10 (by decide) (hts _ (u_in uk_4_200)) (v := .ref (ad 11)) rfl dX7_count_147 ?_
                refine lv_iload hx hb dX7_count_150 (lv_at hl 3 rfl) ?_
                refine sy_ialdN hx hb hE hP 11 rfl (show vp_in (nI k0) 40 from vp_in_nI (by omega) (by decide)) k0 (nI_clamp (by omega)) (v := ((lX7_count g q x0 k0).2.2) 11 k0) rfl dX7_count_152 ?_
                refine lv_goto (tgt := 163) hx hb dX7_count_153 (by decide) ?_
                refine sy_iastN hx hb hE hP hS 10 rfl (show vp_in (nI k0) 40 from vp_in_nI (by omega) (by decide)) k0 (nI_clamp (by omega)) dX7_count_163 (fun H locs hP hS => ?_)
                refine lv_iinc (v := ((nI k0) + 1)) (lv' := [(4, .int ((nI k0) + 1)), (2, .int (((lX7_count g q x0 k0).2.1) + 0)), (3, .int (((lX7_count g q x0 k0).1) + 0)), (5, .int 1), (0, .ref (ad 0)), (1, .int x0)]) hx hb dX7_count_164 hl (k := 3) rfl rfl (by decide) rfl (fun ls hl => ?_)
                refine lv_goto (tgt := 30) hx hb dX7_count_167 (by decide) ?_
                have hF : lX7_count g q x0 (k0 + 1) = ((((lX7_count g q x0 k0).1) + 0), (((lX7_count g q x0 k0).2.1) + 0), (sy_up ((lX7_count g q x0 k0).2.2) 10 k0 (((lX7_count g q x0 k0).2.2) 11 k0))) := by rw [lX7_count, if_neg c_6, if_pos c_7, if_pos c_9] <;> rfl
                exact ih (k0 + 1) (by omega) (by omega) H locs ls (by rw [t3_3 hF]; exact hP) hS (by rw [nI_succ, t3_1 hF, t3_2 hF]; exact lv_sub hl [0, 2, 1, 4, 5] rfl)
              · skip
                refine lv_iconst (v := 1) hx hb dX7_count_128 (by decide) ?_
                refine lv_goto (tgt := 133) hx hb dX7_count_129 (by decide) ?_
                refine lv_iadd hx hb dX7_count_133 ?_
                refine lv_istore_n (lv' := [(2, .int (((lX7_count g q x0 k0).2.1) + 1)), (3, .int (((lX7_count g q x0 k0).1) + 0)), (5, .int 1), (4, .int (nI k0)), (0, .ref (ad 0)), (1, .int x0)]) hx hb dX7_count_134 rfl hl (by decide) rfl (fun ls hl => ?_)
                refine lv_aload_n hx hb dX7_count_135 rfl (lv_at hl 4 rfl) ?_
                refine sy_getRX7 hx hb hts hown hE hP 0 rfl 9 (by decide) (hts _ (u_in uk_4_199)) (v := .ref (ad 10)) rfl dX7_count_136 ?_
                refine lv_iload hx hb dX7_count_139 (lv_at hl 3 rfl) ?_
                refine lv_iload hx hb dX7_count_141 (lv_at hl 2 rfl) ?_
                refine lv_if_eq (tgt := 156) hx hb dX7_count_143 (by decide) (fun c9 => absurd c9 (by decide)) (fun _ => ?_)
                refine lv_aload_n hx hb dX7_count_146 rfl (lv_at hl 4 rfl) ?_
                refine sy_getRX7 hx hb hts hown hE hP 0 rfl 10 (by decide) (hts _ (u_in uk_4_200)) (v := .ref (ad 11)) rfl dX7_count_147 ?_
                refine lv_iload hx hb dX7_count_150 (lv_at hl 3 rfl) ?_
                refine sy_ialdN hx hb hE hP 11 rfl (show vp_in (nI k0) 40 from vp_in_nI (by omega) (by decide)) k0 (nI_clamp (by omega)) (v := ((lX7_count g q x0 k0).2.2) 11 k0) rfl dX7_count_152 ?_
                refine lv_goto (tgt := 163) hx hb dX7_count_153 (by decide) ?_
                refine sy_iastN hx hb hE hP hS 10 rfl (show vp_in (nI k0) 40 from vp_in_nI (by omega) (by decide)) k0 (nI_clamp (by omega)) dX7_count_163 (fun H locs hP hS => ?_)
                refine lv_iinc (v := ((nI k0) + 1)) (lv' := [(4, .int ((nI k0) + 1)), (2, .int (((lX7_count g q x0 k0).2.1) + 1)), (3, .int (((lX7_count g q x0 k0).1) + 0)), (5, .int 1), (0, .ref (ad 0)), (1, .int x0)]) hx hb dX7_count_164 hl (k := 3) rfl rfl (by decide) rfl (fun ls hl => ?_)
                refine lv_goto (tgt := 30) hx hb dX7_count_167 (by decide) ?_
                have hF : lX7_count g q x0 (k0 + 1) = ((((lX7_count g q x0 k0).1) + 0), (((lX7_count g q x0 k0).2.1) + 1), (sy_up ((lX7_count g q x0 k0).2.2) 10 k0 (((lX7_count g q x0 k0).2.2) 11 k0))) := by rw [lX7_count, if_neg c_6, if_pos c_7, if_neg c_9] <;> rfl
                exact ih (k0 + 1) (by omega) (by omega) H locs ls (by rw [t3_3 hF]; exact hP) hS (by rw [nI_succ, t3_1 hF, t3_2 hF]; exact lv_sub hl [0, 2, 1, 4, 5] rfl)
    exact hL_30 ((g 0 2).toNatClampNeg + 1) 0 (Nat.zero_le _) (by omega) _ _ _ hP hS (lv_sub hl [0, 1, 2, 3, 4] rfl)
def lX7_wind (g : sG) (q : sQ) (x0 : Int32) : Nat → Int32 × sG
  | 0 => (0, (sy_up g 0 0 0))
  | k0 + 1 => (if (((lX7_wind g q x0 k0).2) 8 k0) = 0 then ((((lX7_wind g q x0 k0).1) + 0), (sy_up ((lX7_wind g q x0 k0).2) 13 k0 (((lX7_wind g q x0 k0).2) 13 k0))) else (if (((lX7_wind g q x0 k0).2) 4 k0) = 2 then (if ((((lX7_wind g q x0 k0).2) 11 k0) / 4) = x0 then ((((lX7_wind g q x0 k0).1) + 1), (sy_up ((lX7_wind g q x0 k0).2) 13 k0 (((lX7_wind g q x0 k0).2) 0 1))) else ((((lX7_wind g q x0 k0).1) + 0), (sy_up ((lX7_wind g q x0 k0).2) 13 k0 (((lX7_wind g q x0 k0).2) 13 k0)))) else ((((lX7_wind g q x0 k0).1) + 0), (sy_up ((lX7_wind g q x0 k0).2) 13 k0 (((lX7_wind g q x0 k0).2) 13 k0)))))
theorem lX7_wind_2 (g : sG) (q : sQ) (x0 : Int32) (k0 : Nat) : (lX7_wind g q x0 k0).2 0 2 = g 0 2 := by
  induction k0 with
  | zero => rfl
  | succ k0 ih =>
    rw [lX7_wind]
    repeat' split
    all_goals first | exact ih | (simp only [sy_up_a]; rw [if_neg (by decide)]; exact ih) | (simp only [sy_up_a]; simp; exact ih) | (simp [sy_up_a, ih])
def fX7_wind (g : sG) (q : sQ) (x0 : Int32) : Int32 × sG := (if 0 ≤ x0 ∧ x0 ≤ 2 then (((lX7_wind g q x0 (g 0 2).toNatClampNeg).1), ((lX7_wind g q x0 (g 0 2).toNatClampNeg).2)) else (0, (sy_up g 0 0 1)))
set_option maxHeartbeats 4000000 in
set_option maxRecDepth 100000 in
theorem mX7_wind (l : Launch) (hfl : l.stackTraces = false) (Z : sZ) (nT nK cT cK : Nat) (ad : Nat → Nat) (g : sG) (q : sQ) (x0 : Int32) {mT mK : Nat} (hI : IM mT mK g) : sMi l Z yX7_wind (uW (.code yX7_wind cX7_wind 5 (some .int))) { frames := 1, cells := 0, slots := 0, locals := 22 } [.ref (ad 0), .int x0] nT nK cT cK ad g q (fun r g1 q1 => (r, g1, q1) = ((fX7_wind g q x0).1, (fX7_wind g q x0).2, q)) := by
  refine Met.ofW (cc := cX7_wind) (maxL := 5) (ret := (some .int)) (by decide) rfl ?_
  intro p e s m args below meth c s₁ B hml hv
  obtain ⟨rfl, hE, hP⟩ := hv
  have hx := B.exec
  have hb := B.bytes
  have hr := B.returns
  have hts := atoms_spec (ws := uW (.code yX7_wind cX7_wind 5 (some .int))) B.pre
  have hown : s.vm.findClass RX7 = some m.cls := findClass_of_methodNamed B.named
  have hlocks := B.notSynchronized
  have hS : va_S (sy_A Z) s.heap s.heap [] := va_S.rf
  have hl := lv_entry ([.ref (ad 0), .int x0]) (n := 5) (Nat.le_of_ble_eq_true rfl)
  rw [lg_entry_eq]
  generalize (lg_sl ([.ref (ad 0), .int x0]) ++ List.replicate (5 - (lg_sl ([.ref (ad 0), .int x0])).length) Slot.unset).toArray = ls at hl ⊢
  have hl : lv_has ls 5 [(0, .ref (ad 0)), (1, .int x0)] := hl
  refine lv_aload_n hx hb dX7_wind_0 rfl (lv_at hl 0 rfl) ?_
  refine lv_iload_n hx hb dX7_wind_1 rfl (lv_at hl 1 rfl) ?_
  refine lv_iconst (v := 0) hx hb dX7_wind_2 (by decide) ?_
  refine lv_iconst (v := 2) hx hb dX7_wind_3 (by decide) ?_
  refine sy_ki (sy_rS (As := [.int x0, .int 0, .int 2]) (rest := [.ref (ad 0)]) ⟨hx, hb, hml, hown, hts⟩ hE hP hS (nX7_is l hfl Z nT nK cT cK ad g q x0 0 2) (va_cwS 3 hts (gu_S uk_5_101 uk_5_102 uk_1_9 uk_5_103) rfl rfl rfl (by decide +kernel) ⟨Nat.le_of_ble_eq_true rfl, Nat.le_of_ble_eq_true rfl⟩) rfl hl.1 rfl (Nat.le_of_ble_eq_true rfl) dX7_wind_4 ⟨Nat.le_of_ble_eq_true rfl, Nat.le_of_ble_eq_true rfl⟩) hS (fun r_e_1 g_e_1 q_e_1 H locs e_1 hP hS => ?_)
  cases e_1
  refine lv_if_eq (tgt := 14) hx hb dX7_wind_7 (by decide) (fun c_2 => ?_) (fun c_2 => ?_)
  · have c_2 := iB_0.mp c_2
    refine lv_iconst (v := 1) hx hb dX7_wind_14 (by decide) ?_
    refine sy_ki (sy_rV (o := 0) (As := [.int 1]) (rest := []) ⟨hx, hb, hml, hown, hts⟩ hE hP hS (nX7_refused l hfl Z nT nK cT cK ad g q 1) (cwV 1 hts (gu_V uk_5_104 uk_5_106 uk_0_17 uk_1_9 uk_5_107) rfl rfl rfl (by decide +kernel) ⟨Nat.le_of_ble_eq_true rfl, Nat.le_of_ble_eq_true rfl⟩) (sy_recv (kc := 8) hE hP rfl (by decide) rfl rfl rfl) rfl hl.1 rfl (Nat.le_of_ble_eq_true rfl) dX7_wind_15 ⟨Nat.le_of_ble_eq_true rfl, Nat.le_of_ble_eq_true rfl⟩) hS (fun r_e_3 g_e_3 q_e_3 H locs e_3 hP hS => ?_)
    cases e_3
    refine sy_top (y := 1) (by rfl) ?_
    refine lv_if_eq (tgt := 23) hx hb dX7_wind_18 (by decide) (fun c9 => absurd c9 (by decide)) (fun _ => ?_)
    refine lv_iconst (v := 0) hx hb dX7_wind_21 (by decide) ?_
    exact (sy_ireti hx hb hr hlocks hE hP hS dX7_wind_22 ⟨Nat.le_of_ble_eq_true rfl, Nat.le_of_ble_eq_true rfl⟩ (by unfold fX7_wind; rw [if_neg c_2] <;> rfl))
  · have c_2 := iB_n.mp c_2
    refine lv_iconst (v := 0) hx hb dX7_wind_10 (by decide) ?_
    refine lv_goto (tgt := 15) hx hb dX7_wind_11 (by decide) ?_
    refine sy_ki (sy_rV (o := 0) (As := [.int 0]) (rest := []) ⟨hx, hb, hml, hown, hts⟩ hE hP hS (nX7_refused l hfl Z nT nK cT cK ad g q 0) (cwV 1 hts (gu_V uk_5_104 uk_5_106 uk_0_17 uk_1_9 uk_5_107) rfl rfl rfl (by decide +kernel) ⟨Nat.le_of_ble_eq_true rfl, Nat.le_of_ble_eq_true rfl⟩) (sy_recv (kc := 8) hE hP rfl (by decide) rfl rfl rfl) rfl hl.1 rfl (Nat.le_of_ble_eq_true rfl) dX7_wind_15 ⟨Nat.le_of_ble_eq_true rfl, Nat.le_of_ble_eq_true rfl⟩) hS (fun r_e_4 g_e_4 q_e_4 H locs e_4 hP hS => ?_)
    cases e_4
    refine sy_top (y := 0) (by rfl) ?_
    refine lv_if_eq (tgt := 23) hx hb dX7_wind_18 (by decide) (fun _ => ?_) (fun c9 => absurd c9 (by decide))
    refine lv_iconst (v := 0) hx hb dX7_wind_23 (by decide) ?_
    refine lv_istore_n (lv' := [(2, .int 0), (0, .ref (ad 0)), (1, .int x0)]) hx hb dX7_wind_24 rfl hl (by decide) rfl (fun ls hl => ?_)
    refine lv_iconst (v := 0) hx hb dX7_wind_25 (by decide) ?_
    refine lv_istore_n (lv' := [(3, .int 0), (2, .int 0), (0, .ref (ad 0)), (1, .int x0)]) hx hb dX7_wind_26 rfl hl (by decide) rfl (fun ls hl => ?_)
    have hL_27 : ∀ (n k0 : Nat), k0 ≤ (g 0 2).toNatClampNeg → (g 0 2).toNatClampNeg + 1 ≤ k0 + n → ∀ (H : Heap) (locs : List Loc) (ls : Array Slot), Sy Z nT nK cT cK ad ((lX7_wind g q x0 k0).2) q H → va_S (sy_A Z) s.heap H locs → lv_has ls 5 [(3, .int (nI k0)), (2, .int ((lX7_wind g q x0 k0).1)), (0, .ref (ad 0)), (1, .int x0)] → W p l e ({ frames := 1, cells := 0, slots := 0, locals := 22 } : Room) s m ([.ref (ad 0), .int x0] : List Value).toArray below meth c H locs 0 0 (MQ below (sQi Z nT nK cT cK ad (fun r g1 q1 => (r, g1, q1) = ((fX7_wind g q x0).1, (fX7_wind g q x0).2, q))) ([.ref (ad 0), .int x0] : List Value).toArray s 0 0 (sy_A Z)) (F0 m 27 ls []) := by
      intro n
      induction n with
      | zero => intro k0 hi hn ; exact absurd hn (by omega)
      | succ n ih =>
        intro k0 hi hn H locs ls hP hS hl
        have hN9 := (im_nT hI).2
        refine lv_iload_n hx hb dX7_wind_27 rfl (lv_at hl 0 rfl) ?_
        refine lv_aload_n hx hb dX7_wind_28 rfl (lv_at hl 2 rfl) ?_
        refine sy_getRX7 hx hb hts hown hE hP 0 rfl 2 (by decide) (hts _ (u_in uk_4_192)) (v := .int (((lX7_wind g q x0 k0).2) 0 2)) rfl dX7_wind_29 ?_
        refine lv_icmp_ge (tgt := 116) hx hb dX7_wind_32 (by decide) (fun c_5 => ?_) (fun c_5 => ?_)
        · skip
          obtain rfl := loop_exit (N := (g 0 2).toNatClampNeg) ((lX7_wind_2 g q x0 k0).trans (im_nT hI).1) (by omega) hi c_5
          refine lv_iload_n hx hb dX7_wind_116 rfl (lv_at hl 1 rfl) ?_
          exact (sy_ireti hx hb hr hlocks hE hP hS dX7_wind_117 ⟨Nat.le_of_ble_eq_true rfl, Nat.le_of_ble_eq_true rfl⟩ (by unfold fX7_wind; rw [if_pos c_2] <;> rfl))
        · skip
          have hk0 : k0 < (g 0 2).toNatClampNeg := loop_in (N := (g 0 2).toNatClampNeg) ((lX7_wind_2 g q x0 k0).trans (im_nT hI).1) (by omega) hi c_5
          refine lv_aload_n hx hb dX7_wind_35 rfl (lv_at hl 2 rfl) ?_
          refine sy_getRX7 hx hb hts hown hE hP 0 rfl 7 (by decide) (hts _ (u_in uk_4_197)) (v := .ref (ad 8)) rfl dX7_wind_36 ?_
          refine lv_iload_n hx hb dX7_wind_39 rfl (lv_at hl 0 rfl) ?_
          refine sy_zaldN hx hb hE hP 8 rfl (show vp_in (nI k0) 40 from vp_in_nI (by omega) (by decide)) k0 (nI_clamp (by omega)) (v := ((lX7_wind g q x0 k0).2) 8 k0) rfl dX7_wind_40 ?_
          refine lv_if_eq (tgt := 70) hx hb dX7_wind_41 (by decide) (fun c_6 => ?_) (fun c_6 => ?_)
          · skip
            refine lv_iconst (v := 0) hx hb dX7_wind_70 (by decide) ?_
            refine lv_istore (lv' := [(4, .int 0), (3, .int (nI k0)), (2, .int ((lX7_wind g q x0 k0).1)), (0, .ref (ad 0)), (1, .int x0)]) hx hb dX7_wind_71 hl (by decide) rfl (fun ls hl => ?_)
            refine lv_aload_n hx hb dX7_wind_73 rfl (lv_at hl 3 rfl) ?_
            refine sy_getRX7 hx hb hts hown hE hP 0 rfl 12 (by decide) (hts _ (u_in uk_4_202)) (v := .ref (ad 13)) rfl dX7_wind_74 ?_
            refine lv_iload_n hx hb dX7_wind_77 rfl (lv_at hl 1 rfl) ?_
            refine lv_iload hx hb dX7_wind_78 (lv_at hl 0 rfl) ?_
            refine lv_if_eq (tgt := 90) hx hb dX7_wind_80 (by decide) (fun _ => ?_) (fun c9 => absurd c9 (by decide))
            refine lv_aload_n hx hb dX7_wind_90 rfl (lv_at hl 3 rfl) ?_
            refine sy_getRX7 hx hb hts hown hE hP 0 rfl 12 (by decide) (hts _ (u_in uk_4_202)) (v := .ref (ad 13)) rfl dX7_wind_91 ?_
            refine lv_iload_n hx hb dX7_wind_94 rfl (lv_at hl 1 rfl) ?_
            refine sy_ialdN hx hb hE hP 13 rfl (show vp_in (nI k0) 40 from vp_in_nI (by omega) (by decide)) k0 (nI_clamp (by omega)) (v := ((lX7_wind g q x0 k0).2) 13 k0) rfl dX7_wind_95 ?_
            refine sy_iastN hx hb hE hP hS 13 rfl (show vp_in (nI k0) 40 from vp_in_nI (by omega) (by decide)) k0 (nI_clamp (by omega)) dX7_wind_96 (fun H locs hP hS => ?_)
            refine lv_iload_n hx hb dX7_wind_97 rfl (lv_at hl 2 rfl) ?_
            refine lv_iload hx hb dX7_wind_98 (lv_at hl 0 rfl) ?_
            refine lv_if_eq (tgt := 107) hx hb dX7_wind_100 (by decide) (fun _ => ?_) (fun c9 => absurd c9 (by decide))
            refine lv_iconst (v := 0) hx hb dX7_wind_107 (by decide) ?_
            refine lv_iadd hx hb dX7_wind_108 ?_
            refine lv_istore_n (lv' := [(2, .int (((lX7_wind g q x0 k0).1) + 0)), (4, .int 0), (3, .int (nI k0)), (0, .ref (ad 0)), (1, .int x0)]) hx hb dX7_wind_109 rfl hl (by decide) rfl (fun ls hl => ?_)
            refine lv_iinc (v := ((nI k0) + 1)) (lv' := [(3, .int ((nI k0) + 1)), (2, .int (((lX7_wind g q x0 k0).1) + 0)), (4, .int 0), (0, .ref (ad 0)), (1, .int x0)]) hx hb dX7_wind_110 hl (k := 2) rfl rfl (by decide) rfl (fun ls hl => ?_)
            refine lv_goto (tgt := 27) hx hb dX7_wind_113 (by decide) ?_
            have hF : lX7_wind g q x0 (k0 + 1) = ((((lX7_wind g q x0 k0).1) + 0), (sy_up ((lX7_wind g q x0 k0).2) 13 k0 (((lX7_wind g q x0 k0).2) 13 k0))) := by rw [lX7_wind, if_pos c_6] <;> rfl
            exact ih (k0 + 1) (by omega) (by omega) H locs ls (by rw [t2_2 hF]; exact hP) hS (by rw [nI_succ, t2_1 hF]; exact lv_sub hl [0, 1, 3, 4] rfl)
          · skip
            refine lv_aload_n hx hb dX7_wind_44 rfl (lv_at hl 2 rfl) ?_
            refine sy_getRX7 hx hb hts hown hE hP 0 rfl 3 (by decide) (hts _ (u_in uk_4_193)) (v := .ref (ad 4)) rfl dX7_wind_45 ?_
            refine lv_iload_n hx hb dX7_wind_48 rfl (lv_at hl 0 rfl) ?_
            refine sy_ialdN hx hb hE hP 4 rfl (show vp_in (nI k0) 40 from vp_in_nI (by omega) (by decide)) k0 (nI_clamp (by omega)) (v := ((lX7_wind g q x0 k0).2) 4 k0) rfl dX7_wind_49 ?_
            refine lv_iconst (v := 2) hx hb dX7_wind_50 (by decide) ?_
            refine lv_icmp_ne (tgt := 70) hx hb dX7_wind_51 (by decide) (fun c_7 => ?_) (fun c_7 => ?_)
            · skip
              refine lv_iconst (v := 0) hx hb dX7_wind_70 (by decide) ?_
              refine lv_istore (lv' := [(4, .int 0), (3, .int (nI k0)), (2, .int ((lX7_wind g q x0 k0).1)), (0, .ref (ad 0)), (1, .int x0)]) hx hb dX7_wind_71 hl (by decide) rfl (fun ls hl => ?_)
              refine lv_aload_n hx hb dX7_wind_73 rfl (lv_at hl 3 rfl) ?_
              refine sy_getRX7 hx hb hts hown hE hP 0 rfl 12 (by decide) (hts _ (u_in uk_4_202)) (v := .ref (ad 13)) rfl dX7_wind_74 ?_
              refine lv_iload_n hx hb dX7_wind_77 rfl (lv_at hl 1 rfl) ?_
              refine lv_iload hx hb dX7_wind_78 (lv_at hl 0 rfl) ?_
              refine lv_if_eq (tgt := 90) hx hb dX7_wind_80 (by decide) (fun _ => ?_) (fun c9 => absurd c9 (by decide))
              refine lv_aload_n hx hb dX7_wind_90 rfl (lv_at hl 3 rfl) ?_
              refine sy_getRX7 hx hb hts hown hE hP 0 rfl 12 (by decide) (hts _ (u_in uk_4_202)) (v := .ref (ad 13)) rfl dX7_wind_91 ?_
              refine lv_iload_n hx hb dX7_wind_94 rfl (lv_at hl 1 rfl) ?_
              refine sy_ialdN hx hb hE hP 13 rfl (show vp_in (nI k0) 40 from vp_in_nI (by omega) (by decide)) k0 (nI_clamp (by omega)) (v := ((lX7_wind g q x0 k0).2) 13 k0) rfl dX7_wind_95 ?_
              refine sy_iastN hx hb hE hP hS 13 rfl (show vp_in (nI k0) 40 from vp_in_nI (by omega) (by decide)) k0 (nI_clamp (by omega)) dX7_wind_96 (fun H locs hP hS => ?_)
              refine lv_iload_n hx hb dX7_wind_97 rfl (lv_at hl 2 rfl) ?_
              refine lv_iload hx hb dX7_wind_98 (lv_at hl 0 rfl) ?_
              refine lv_if_eq (tgt := 107) hx hb dX7_wind_100 (by decide) (fun _ => ?_) (fun c9 => absurd c9 (by decide))
              refine lv_iconst (v := 0) hx hb dX7_wind_107 (by decide) ?_
              refine lv_iadd hx hb dX7_wind_108 ?_
              refine lv_istore_n (lv' := [(2, .int (((lX7_wind g q x0 k0).1) + 0)), (4, .int 0), (3, .int (nI k0)), (0, .ref (ad 0)), (1, .int x0)]) hx hb dX7_wind_109 rfl hl (by decide) rfl (fun ls hl => ?_)
              refine lv_iinc (v := ((nI k0) + 1)) (lv' := [(3, .int ((nI k0) + 1)), (2, .int (((lX7_wind g q x0 k0).1) + 0)), (4, .int 0), (0, .ref (ad 0)), (1, .int x0)]) hx hb dX7_wind_110 hl (k := 2) rfl rfl (by decide) rfl (fun ls hl => ?_)
              refine lv_goto (tgt := 27) hx hb dX7_wind_113 (by decide) ?_
              have hF : lX7_wind g q x0 (k0 + 1) = ((((lX7_wind g q x0 k0).1) + 0), (sy_up ((lX7_wind g q x0 k0).2) 13 k0 (((lX7_wind g q x0 k0).2) 13 k0))) := by rw [lX7_wind, if_neg c_6, if_neg c_7] <;> rfl
              exact ih (k0 + 1) (by omega) (by omega) H locs ls (by rw [t2_2 hF]; exact hP) hS (by rw [nI_succ, t2_1 hF]; exact lv_sub hl [0, 1, 3, 4] rfl)
            · skip
              refine lv_aload_n hx hb dX7_wind_54 rfl (lv_at hl 2 rfl) ?_
              refine sy_getRX7 hx hb hts hown hE hP 0 rfl 10 (by decide) (hts _ (u_in uk_4_200)) (v := .ref (ad 11)) rfl dX7_wind_55 ?_
              refine lv_iload_n hx hb dX7_wind_58 rfl (lv_at hl 0 rfl) ?_
              refine sy_ialdN hx hb hE hP 11 rfl (show vp_in (nI k0) 40 from vp_in_nI (by omega) (by decide)) k0 (nI_clamp (by omega)) (v := ((lX7_wind g q x0 k0).2) 11 k0) rfl dX7_wind_59 ?_
              refine lv_iconst (v := 4) hx hb dX7_wind_60 (by decide) ?_
              refine lv_idiv hx hb dX7_wind_61 (by decide) ?_
              refine lv_iload_n hx hb dX7_wind_62 rfl (lv_at hl 3 rfl) ?_
              refine lv_icmp_ne (tgt := 70) hx hb dX7_wind_63 (by decide) (fun c_8 => ?_) (fun c_8 => ?_)
              · skip
                refine lv_iconst (v := 0) hx hb dX7_wind_70 (by decide) ?_
                refine lv_istore (lv' := [(4, .int 0), (3, .int (nI k0)), (2, .int ((lX7_wind g q x0 k0).1)), (0, .ref (ad 0)), (1, .int x0)]) hx hb dX7_wind_71 hl (by decide) rfl (fun ls hl => ?_)
                refine lv_aload_n hx hb dX7_wind_73 rfl (lv_at hl 3 rfl) ?_
                refine sy_getRX7 hx hb hts hown hE hP 0 rfl 12 (by decide) (hts _ (u_in uk_4_202)) (v := .ref (ad 13)) rfl dX7_wind_74 ?_
                refine lv_iload_n hx hb dX7_wind_77 rfl (lv_at hl 1 rfl) ?_
                refine lv_iload hx hb dX7_wind_78 (lv_at hl 0 rfl) ?_
                refine lv_if_eq (tgt := 90) hx hb dX7_wind_80 (by decide) (fun _ => ?_) (fun c9 => absurd c9 (by decide))
                refine lv_aload_n hx hb dX7_wind_90 rfl (lv_at hl 3 rfl) ?_
                refine sy_getRX7 hx hb hts hown hE hP 0 rfl 12 (by decide) (hts _ (u_in uk_4_202)) (v := .ref (ad 13)) rfl dX7_wind_91 ?_
                refine lv_iload_n hx hb dX7_wind_94 rfl (lv_at hl 1 rfl) ?_
                refine sy_ialdN hx hb hE hP 13 rfl (show vp_in (nI k0) 40 from vp_in_nI (by omega) (by decide)) k0 (nI_clamp (by omega)) (v := ((lX7_wind g q x0 k0).2) 13 k0) rfl dX7_wind_95 ?_
                refine sy_iastN hx hb hE hP hS 13 rfl (show vp_in (nI k0) 40 from vp_in_nI (by omega) (by decide)) k0 (nI_clamp (by omega)) dX7_wind_96 (fun H locs hP hS => ?_)
                refine lv_iload_n hx hb dX7_wind_97 rfl (lv_at hl 2 rfl) ?_
                refine lv_iload hx hb dX7_wind_98 (lv_at hl 0 rfl) ?_
                refine lv_if_eq (tgt := 107) hx hb dX7_wind_100 (by decide) (fun _ => ?_) (fun c9 => absurd c9 (by decide))
                refine lv_iconst (v := 0) hx hb dX7_wind_107 (by decide) ?_
                refine lv_iadd hx hb dX7_wind_108 ?_
                refine lv_istore_n (lv' := [(2, .int (((lX7_wind g q x0 k0).1) + 0)), (4, .int 0), (3, .int (nI k0)), (0, .ref (ad 0)), (1, .int x0)]) hx hb dX7_wind_109 rfl hl (by decide) rfl (fun ls hl => ?_)
                refine lv_iinc (v := ((nI k0) + 1)) (lv' := [(3, .int ((nI k0) + 1)), (2, .int (((lX7_wind g q x0 k0).1) + 0)), (4, .int 0), (0, .ref (ad 0)), (1, .int x0)]) hx hb dX7_wind_110 hl (k := 2) rfl rfl (by decide) rfl (fun ls hl => ?_)
                refine lv_goto (tgt := 27) hx hb dX7_wind_113 (by decide) ?_
                have hF : lX7_wind g q x0 (k0 + 1) = ((((lX7_wind g q x0 k0).1) + 0), (sy_up ((lX7_wind g q x0 k0).2) 13 k0 (((lX7_wind g q x0 k0).2) 13 k0))) := by rw [lX7_wind, if_neg c_6, if_pos c_7, if_neg c_8] <;> rfl
                exact ih (k0 + 1) (by omega) (by omega) H locs ls (by rw [t2_2 hF]; exact hP) hS (by rw [nI_succ, t2_1 hF]; exact lv_sub hl [0, 1, 3, 4] rfl)
              · skip
                refine lv_iconst (v := 1) hx hb dX7_wind_66 (by decide) ?_
                refine lv_goto (tgt := 71) hx hb dX7_wind_67 (by decide) ?_
                refine lv_istore (lv' := [(4, .int 1), (3, .int (nI k0)), (2, .int ((lX7_wind g q x0 k0).1)), (0, .ref (ad 0)), (1, .int x0)]) hx hb dX7_wind_71 hl (by decide) rfl (fun ls hl => ?_)
                refine lv_aload_n hx hb dX7_wind_73 rfl (lv_at hl 3 rfl) ?_
                refine sy_getRX7 hx hb hts hown hE hP 0 rfl 12 (by decide) (hts _ (u_in uk_4_202)) (v := .ref (ad 13)) rfl dX7_wind_74 ?_
                refine lv_iload_n hx hb dX7_wind_77 rfl (lv_at hl 1 rfl) ?_
                refine lv_iload hx hb dX7_wind_78 (lv_at hl 0 rfl) ?_
                refine lv_if_eq (tgt := 90) hx hb dX7_wind_80 (by decide) (fun c9 => absurd c9 (by decide)) (fun _ => ?_)
                refine lv_aload_n hx hb dX7_wind_83 rfl (lv_at hl 3 rfl) ?_
                refine sy_getRX7 hx hb hts hown hE hP 0 rfl 1 (by decide) (hts _ (u_in uk_4_191)) (v := .int (((lX7_wind g q x0 k0).2) 0 1)) rfl dX7_wind_84 ?_
                refine lv_goto (tgt := 96) hx hb dX7_wind_87 (by decide) ?_
                refine sy_iastN hx hb hE hP hS 13 rfl (show vp_in (nI k0) 40 from vp_in_nI (by omega) (by decide)) k0 (nI_clamp (by omega)) dX7_wind_96 (fun H locs hP hS => ?_)
                refine lv_iload_n hx hb dX7_wind_97 rfl (lv_at hl 2 rfl) ?_
                refine lv_iload hx hb dX7_wind_98 (lv_at hl 0 rfl) ?_
                refine lv_if_eq (tgt := 107) hx hb dX7_wind_100 (by decide) (fun c9 => absurd c9 (by decide)) (fun _ => ?_)
                refine lv_iconst (v := 1) hx hb dX7_wind_103 (by decide) ?_
                refine lv_goto (tgt := 108) hx hb dX7_wind_104 (by decide) ?_
                refine lv_iadd hx hb dX7_wind_108 ?_
                refine lv_istore_n (lv' := [(2, .int (((lX7_wind g q x0 k0).1) + 1)), (4, .int 1), (3, .int (nI k0)), (0, .ref (ad 0)), (1, .int x0)]) hx hb dX7_wind_109 rfl hl (by decide) rfl (fun ls hl => ?_)
                refine lv_iinc (v := ((nI k0) + 1)) (lv' := [(3, .int ((nI k0) + 1)), (2, .int (((lX7_wind g q x0 k0).1) + 1)), (4, .int 1), (0, .ref (ad 0)), (1, .int x0)]) hx hb dX7_wind_110 hl (k := 2) rfl rfl (by decide) rfl (fun ls hl => ?_)
                refine lv_goto (tgt := 27) hx hb dX7_wind_113 (by decide) ?_
                have hF : lX7_wind g q x0 (k0 + 1) = ((((lX7_wind g q x0 k0).1) + 1), (sy_up ((lX7_wind g q x0 k0).2) 13 k0 (((lX7_wind g q x0 k0).2) 0 1))) := by rw [lX7_wind, if_neg c_6, if_pos c_7, if_pos c_8] <;> rfl
                exact ih (k0 + 1) (by omega) (by omega) H locs ls (by rw [t2_2 hF]; exact hP) hS (by rw [nI_succ, t2_1 hF]; exact lv_sub hl [0, 1, 3, 4] rfl)
    exact hL_27 ((g 0 2).toNatClampNeg + 1) 0 (Nat.zero_le _) (by omega) _ _ _ hP hS (lv_sub hl [0, 1, 2, 3] rfl)
def lX7_passA (g : sG) (q : sQ) : Nat → sG
  | 0 => (sy_up g 0 1 ((g 0 1) + 1))
  | k0 + 1 => (if (((lX7_passA g q k0) 11 k0) - ((lX7_passA g q k0) 11 k0) / 4 * 4) = 0 then (if ((lX7_passA g q k0) 4 k0) = 1 then (if ((lX7_passA g q k0) 4 k0) = 2 then (if ((((lX7_passA g q k0) 0 1) - ((lX7_passA g q k0) 13 k0)) - (((lX7_passA g q k0) 0 1) - ((lX7_passA g q k0) 13 k0)) / 90 * 90) = 0 then (if ((lX7_passA g q k0) 8 k0) = 0 then (sy_up (lX7_passA g q k0) 7 k0 (((lX7_passA g q k0) 7 k0) + 0)) else (if 10 ≤ ((lX7_passA g q k0) 7 k0) then (sy_up (lX7_passA g q k0) 7 k0 (((lX7_passA g q k0) 7 k0) + 0)) else (sy_up (lX7_passA g q k0) 7 k0 (((lX7_passA g q k0) 7 k0) + 1)))) else (if ((lX7_passA g q k0) 8 k0) = 0 then (sy_up (lX7_passA g q k0) 7 k0 (((lX7_passA g q k0) 7 k0) + 0)) else (sy_up (lX7_passA g q k0) 7 k0 (((lX7_passA g q k0) 7 k0) + 0)))) else (if ((lX7_passA g q k0) 8 k0) = 0 then (sy_up (lX7_passA g q k0) 7 k0 (((lX7_passA g q k0) 7 k0) + 0)) else (sy_up (lX7_passA g q k0) 7 k0 (((lX7_passA g q k0) 7 k0) + 0)))) else (if ((lX7_passA g q k0) 4 k0) = 2 then (if ((((lX7_passA g q k0) 0 1) - ((lX7_passA g q k0) 13 k0)) - (((lX7_passA g q k0) 0 1) - ((lX7_passA g q k0) 13 k0)) / 90 * 90) = 0 then (if ((lX7_passA g q k0) 8 k0) = 0 then (sy_up (lX7_passA g q k0) 7 k0 (((lX7_passA g q k0) 7 k0) + 0)) else (if 10 ≤ ((lX7_passA g q k0) 7 k0) then (sy_up (lX7_passA g q k0) 7 k0 (((lX7_passA g q k0) 7 k0) + 0)) else (sy_up (lX7_passA g q k0) 7 k0 (((lX7_passA g q k0) 7 k0) + 1)))) else (if ((lX7_passA g q k0) 8 k0) = 0 then (sy_up (lX7_passA g q k0) 7 k0 (((lX7_passA g q k0) 7 k0) + 0)) else (sy_up (lX7_passA g q k0) 7 k0 (((lX7_passA g q k0) 7 k0) + 0)))) else (if ((lX7_passA g q k0) 8 k0) = 0 then (sy_up (lX7_passA g q k0) 7 k0 (((lX7_passA g q k0) 7 k0) + 0)) else (sy_up (lX7_passA g q k0) 7 k0 (((lX7_passA g q k0) 7 k0) + 0))))) else (if ((lX7_passA g q k0) 4 k0) = 1 then (if ((((lX7_passA g q k0) 0 1) - ((lX7_passA g q k0) 12 k0)) - (((lX7_passA g q k0) 0 1) - ((lX7_passA g q k0) 12 k0)) / 60 * 60) = 0 then (if ((lX7_passA g q k0) 8 k0) = 0 then (sy_up (lX7_passA g q k0) 7 k0 (((lX7_passA g q k0) 7 k0) + 0)) else (if 10 ≤ ((lX7_passA g q k0) 7 k0) then (sy_up (lX7_passA g q k0) 7 k0 (((lX7_passA g q k0) 7 k0) + 0)) else (sy_up (lX7_passA g q k0) 7 k0 (((lX7_passA g q k0) 7 k0) + 1)))) else (if ((lX7_passA g q k0) 4 k0) = 2 then (if ((((lX7_passA g q k0) 0 1) - ((lX7_passA g q k0) 13 k0)) - (((lX7_passA g q k0) 0 1) - ((lX7_passA g q k0) 13 k0)) / 90 * 90) = 0 then (if ((lX7_passA g q k0) 8 k0) = 0 then (sy_up (lX7_passA g q k0) 7 k0 (((lX7_passA g q k0) 7 k0) + 0)) else (if 10 ≤ ((lX7_passA g q k0) 7 k0) then (sy_up (lX7_passA g q k0) 7 k0 (((lX7_passA g q k0) 7 k0) + 0)) else (sy_up (lX7_passA g q k0) 7 k0 (((lX7_passA g q k0) 7 k0) + 1)))) else (if ((lX7_passA g q k0) 8 k0) = 0 then (sy_up (lX7_passA g q k0) 7 k0 (((lX7_passA g q k0) 7 k0) + 0)) else (sy_up (lX7_passA g q k0) 7 k0 (((lX7_passA g q k0) 7 k0) + 0)))) else (if ((lX7_passA g q k0) 8 k0) = 0 then (sy_up (lX7_passA g q k0) 7 k0 (((lX7_passA g q k0) 7 k0) + 0)) else (sy_up (lX7_passA g q k0) 7 k0 (((lX7_passA g q k0) 7 k0) + 0))))) else (if ((lX7_passA g q k0) 4 k0) = 2 then (if ((((lX7_passA g q k0) 0 1) - ((lX7_passA g q k0) 13 k0)) - (((lX7_passA g q k0) 0 1) - ((lX7_passA g q k0) 13 k0)) / 90 * 90) = 0 then (if ((lX7_passA g q k0) 8 k0) = 0 then (sy_up (lX7_passA g q k0) 7 k0 (((lX7_passA g q k0) 7 k0) + 0)) else (if 10 ≤ ((lX7_passA g q k0) 7 k0) then (sy_up (lX7_passA g q k0) 7 k0 (((lX7_passA g q k0) 7 k0) + 0)) else (sy_up (lX7_passA g q k0) 7 k0 (((lX7_passA g q k0) 7 k0) + 1)))) else (if ((lX7_passA g q k0) 8 k0) = 0 then (sy_up (lX7_passA g q k0) 7 k0 (((lX7_passA g q k0) 7 k0) + 0)) else (sy_up (lX7_passA g q k0) 7 k0 (((lX7_passA g q k0) 7 k0) + 0)))) else (if ((lX7_passA g q k0) 8 k0) = 0 then (sy_up (lX7_passA g q k0) 7 k0 (((lX7_passA g q k0) 7 k0) + 0)) else (sy_up (lX7_passA g q k0) 7 k0 (((lX7_passA g q k0) 7 k0) + 0))))))
def lX7_passB (g : sG) (q : sQ) : Nat → sG
  | 0 => (lX7_passA g q (g 0 2).toNatClampNeg)
  | k0 + 1 => (if ((lX7_passB g q k0) 41 k0) = (-1) then (if ((lX7_passB g q k0) 43 k0) ≤ 0 then (lX7_passB g q k0) else (if (((lX7_passB g q k0) 44 k0) + 1001) = ((lX7_passB g q k0) 0 1) then (sy_up (sy_up (sy_up (sy_up (lX7_passB g q k0) 0 44 (((lX7_passB g q k0) 0 44) - ((lX7_passB g q k0) 43 k0))) 0 45 (((lX7_passB g q k0) 0 45) - ((lX7_passB g q k0) 43 k0))) 0 46 (((lX7_passB g q k0) 0 46) + ((lX7_passB g q k0) 43 k0))) 43 k0 0) else (lX7_passB g q k0))) else (if (((lX7_passB g q k0) 41 k0) + 28) = ((lX7_passB g q k0) 0 1) then (if ((lX7_passB g q k0) 43 k0) ≤ 0 then (sy_up (sy_up (lX7_passB g q k0) 33 k0 ((lX7_passB g q k0) 42 k0)) 41 k0 (-1)) else (if (((lX7_passB g q k0) 44 k0) + 1001) = ((lX7_passB g q k0) 0 1) then (sy_up (sy_up (sy_up (sy_up (sy_up (sy_up (lX7_passB g q k0) 33 k0 ((lX7_passB g q k0) 42 k0)) 41 k0 (-1)) 0 44 (((lX7_passB g q k0) 0 44) - ((lX7_passB g q k0) 43 k0))) 0 45 (((lX7_passB g q k0) 0 45) - ((lX7_passB g q k0) 43 k0))) 0 46 (((lX7_passB g q k0) 0 46) + ((lX7_passB g q k0) 43 k0))) 43 k0 0) else (sy_up (sy_up (lX7_passB g q k0) 33 k0 ((lX7_passB g q k0) 42 k0)) 41 k0 (-1)))) else (if ((lX7_passB g q k0) 43 k0) ≤ 0 then (lX7_passB g q k0) else (if (((lX7_passB g q k0) 44 k0) + 1001) = ((lX7_passB g q k0) 0 1) then (sy_up (sy_up (sy_up (sy_up (lX7_passB g q k0) 0 44 (((lX7_passB g q k0) 0 44) - ((lX7_passB g q k0) 43 k0))) 0 45 (((lX7_passB g q k0) 0 45) - ((lX7_passB g q k0) 43 k0))) 0 46 (((lX7_passB g q k0) 0 46) + ((lX7_passB g q k0) 43 k0))) 43 k0 0) else (lX7_passB g q k0)))))
theorem lX7_passA_2 (g : sG) (q : sQ) (k0 : Nat) : (lX7_passA g q k0) 0 2 = g 0 2 := by
  induction k0 with
  | zero => rfl
  | succ k0 ih =>
    rw [lX7_passA]
    repeat' split
    all_goals first | exact ih | (simp only [sy_up_a]; rw [if_neg (by decide)]; exact ih) | (simp only [sy_up_a]; simp; exact ih) | (simp [sy_up_a, ih])
theorem lX7_passA_28 (g : sG) (q : sQ) (k0 : Nat) : (lX7_passA g q k0) 0 28 = g 0 28 := by
  induction k0 with
  | zero => rfl
  | succ k0 ih =>
    rw [lX7_passA]
    repeat' split
    all_goals first | exact ih | (simp only [sy_up_a]; rw [if_neg (by decide)]; exact ih) | (simp only [sy_up_a]; simp; exact ih) | (simp [sy_up_a, ih])
theorem lX7_passB_28 (g : sG) (q : sQ) (k0 : Nat) : (lX7_passB g q k0) 0 28 = g 0 28 := by
  induction k0 with
  | zero => exact lX7_passA_28 g q _
  | succ k0 ih =>
    rw [lX7_passB]
    repeat' split
    all_goals first | exact ih | (simp [sy_up_a, ih])
def fX7_passOne (g : sG) (q : sQ)  : sG := (lX7_passB g q (g 0 28).toNatClampNeg)
set_option maxHeartbeats 4000000 in
set_option maxRecDepth 100000 in
theorem mX7_passOne (l : Launch) (hfl : l.stackTraces = false) (Z : sZ) (nT nK cT cK : Nat) (ad : Nat → Nat) (g : sG) (q : sQ)  {mT mK : Nat} (hI : IM mT mK g) : sMv l Z yX7_passOne (uW (.code yX7_passOne cX7_passOne 4 none)) { frames := 0, cells := 0, slots := 0, locals := 0 } [.ref (ad 0)] nT nK cT cK ad g q (fun g1 q1 => (g1, q1) = (fX7_passOne g q, q)) := by
  refine Met.ofW (cc := cX7_passOne) (maxL := 4) (ret := none) (by decide) rfl ?_
  intro p e s m args below meth c s₁ B hml hv
  obtain ⟨rfl, hE, hP⟩ := hv
  have hx := B.exec
  have hb := B.bytes
  have hr := B.returns
  have hts := atoms_spec (ws := uW (.code yX7_passOne cX7_passOne 4 none)) B.pre
  have hown : s.vm.findClass RX7 = some m.cls := findClass_of_methodNamed B.named
  have hlocks := B.notSynchronized
  have hS : va_S (sy_A Z) s.heap s.heap [] := va_S.rf
  have hl := lv_entry ([.ref (ad 0)]) (n := 4) (Nat.le_of_ble_eq_true rfl)
  rw [lg_entry_eq]
  generalize (lg_sl ([.ref (ad 0)]) ++ List.replicate (4 - (lg_sl ([.ref (ad 0)])).length) Slot.unset).toArray = ls at hl ⊢
  have hl : lv_has ls 4 [(0, .ref (ad 0))] := hl
  refine lv_aload_n hx hb dX7_passOne_0 rfl (lv_at hl 0 rfl) ?_
  refine lv_dup hx hb dX7_passOne_1 rfl ?_
  refine sy_getRX7 hx hb hts hown hE hP 0 rfl 1 (by decide) (hts _ (u_in uk_4_191)) (v := .int (g 0 1)) rfl dX7_passOne_2 ?_
  refine lv_iconst (v := 1) hx hb dX7_passOne_5 (by decide) ?_
  refine lv_iadd hx hb dX7_passOne_6 ?_
  refine sy_putRX7 hx hb hts hown hE hP hS 0 rfl 1 (by decide) (hts _ (u_in uk_4_191)) rfl (ty := .int) (by decide +kernel) rfl rfl (sy_up g 0 1 ((g 0 1) + 1)) q (by rw [sy_up_s g 0 1 ((g 0 1) + 1)]; exact se_RX7_1 _ _ _ _ _ _ _) (fun _ h9 => sy_up_o _ _ _ h9) (fun _ _ => rfl) dX7_passOne_7 (fun H locs hP hS => ?_)
  refine lv_iconst (v := 0) hx hb dX7_passOne_10 (by decide) ?_
  refine lv_istore_n (lv' := [(1, .int 0), (0, .ref (ad 0))]) hx hb dX7_passOne_11 rfl hl (by decide) rfl (fun ls hl => ?_)
  have hL_12 : ∀ (n k0 : Nat), k0 ≤ (g 0 2).toNatClampNeg → (g 0 2).toNatClampNeg + 1 ≤ k0 + n → ∀ (H : Heap) (locs : List Loc) (ls : Array Slot), Sy Z nT nK cT cK ad (lX7_passA g q k0) q H → va_S (sy_A Z) s.heap H locs → lv_has ls 4 [(1, .int (nI k0)), (0, .ref (ad 0))] → W p l e ({ frames := 0, cells := 0, slots := 0, locals := 0 } : Room) s m ([.ref (ad 0)] : List Value).toArray below meth c H locs 0 0 (MQ below (sQv Z nT nK cT cK ad (fun g1 q1 => (g1, q1) = (fX7_passOne g q, q))) ([.ref (ad 0)] : List Value).toArray s 0 0 (sy_A Z)) (F0 m 12 ls []) := by
    intro n
    induction n with
    | zero => intro k0 hi hn ; exact absurd hn (by omega)
    | succ n ih =>
      intro k0 hi hn H locs ls hP hS hl
      have hN9 := (im_nT hI).2
      have K_3 : (k0 < (g 0 2).toNatClampNeg) → (¬ (((lX7_passA g q k0) 0 2) ≤ (nI k0))) → (¬ ((((lX7_passA g q k0) 11 k0) - ((lX7_passA g q k0) 11 k0) / 4 * 4) = 0)) → (¬ (((lX7_passA g q k0) 4 k0) = 1)) → (((lX7_passA g q k0) 4 k0) = 2) → (((((lX7_passA g q k0) 0 1) - ((lX7_passA g q k0) 13 k0)) - (((lX7_passA g q k0) 0 1) - ((lX7_passA g q k0) 13 k0)) / 90 * 90) = 0) → (¬ (((lX7_passA g q k0) 8 k0) = 0)) → (10 ≤ ((lX7_passA g q k0) 7 k0)) → ∀ (H : Heap) (locs : List Loc) (ls : Array Slot), Sy Z nT nK cT cK ad (sy_up (lX7_passA g q k0) 7 k0 (((lX7_passA g q k0) 7 k0) + 0)) q H → va_S (sy_A Z) s.heap H locs → lv_has ls 4 [(1, .int ((nI k0) + 1)), (3, .int 1), (2, .int 0), (0, .ref (ad 0))] → W p l e ({ frames := 0, cells := 0, slots := 0, locals := 0 } : Room) s m ([.ref (ad 0)] : List Value).toArray below meth c H locs 0 0 (MQ below (sQv Z nT nK cT cK ad (fun g1 q1 => (g1, q1) = (fX7_passOne g q, q))) ([.ref (ad 0)] : List Value).toArray s 0 0 (sy_A Z)) (F0 m 142 ls []) := by
        intro hk0 c_1 c_11 c_12 c_13 c_15 c_17 c_18 H locs ls hP hS hl
        refine lv_goto (tgt := 12) hx hb dX7_passOne_142 (by decide) ?_
        have hF : lX7_passA g q (k0 + 1) = (sy_up (lX7_passA g q k0) 7 k0 (((lX7_passA g q k0) 7 k0) + 0)) := by rw [lX7_passA, if_neg c_11, if_neg c_12, if_pos c_13, if_pos c_15, if_neg c_17, if_pos c_18] <;> rfl
        exact ih (k0 + 1) (by omega) (by omega) H locs ls (by rw [hF]; exact hP) hS (by rw [nI_succ]; exact lv_sub hl [0, 3] rfl)
      have K_4 : (k0 < (g 0 2).toNatClampNeg) → (¬ (((lX7_passA g q k0) 0 2) ≤ (nI k0))) → (¬ ((((lX7_passA g q k0) 11 k0) - ((lX7_passA g q k0) 11 k0) / 4 * 4) = 0)) → (¬ (((lX7_passA g q k0) 4 k0) = 1)) → (((lX7_passA g q k0) 4 k0) = 2) → (((((lX7_passA g q k0) 0 1) - ((lX7_passA g q k0) 13 k0)) - (((lX7_passA g q k0) 0 1) - ((lX7_passA g q k0) 13 k0)) / 90 * 90) = 0) → (¬ (((lX7_passA g q k0) 8 k0) = 0)) → (¬ (10 ≤ ((lX7_passA g q k0) 7 k0))) → ∀ (H : Heap) (locs : List Loc) (ls : Array Slot), Sy Z nT nK cT cK ad (sy_up (lX7_passA g q k0) 7 k0 (((lX7_passA g q k0) 7 k0) + 1)) q H → va_S (sy_A Z) s.heap H locs → lv_has ls 4 [(3, .int 1), (2, .int 0), (1, .int (nI k0)), (0, .ref (ad 0))] → W p l e ({ frames := 0, cells := 0, slots := 0, locals := 0 } : Room) s m ([.ref (ad 0)] : List Value).toArray below meth c H locs 0 0 (MQ below (sQv Z nT nK cT cK ad (fun g1 q1 => (g1, q1) = (fX7_passOne g q, q))) ([.ref (ad 0)] : List Value).toArray s 0 0 (sy_A Z)) (F0 m 139 ls []) := by
        intro hk0 c_1 c_11 c_12 c_13 c_15 c_17 c_18 H locs ls hP hS hl
        refine lv_iinc (v := ((nI k0) + 1)) (lv' := [(1, .int ((nI k0) + 1)), (3, .int 1), (2, .int 0), (0, .ref (ad 0))]) hx hb dX7_passOne_139 hl (k := 2) rfl rfl (by decide) rfl (fun ls hl => ?_)
        refine lv_goto (tgt := 12) hx hb dX7_passOne_142 (by decide) ?_
        have hF : lX7_passA g q (k0 + 1) = (sy_up (lX7_passA g q k0) 7 k0 (((lX7_passA g q k0) 7 k0) + 1)) := by rw [lX7_passA, if_neg c_11, if_neg c_12, if_pos c_13, if_pos c_15, if_neg c_17, if_neg c_18] <;> rfl
        exact ih (k0 + 1) (by omega) (by omega) H locs ls (by rw [hF]; exact hP) hS (by rw [nI_succ]; exact lv_sub hl [0, 3] rfl)
      have K_5 : (k0 < (g 0 2).toNatClampNeg) → (¬ (((lX7_passA g q k0) 0 2) ≤ (nI k0))) → (¬ ((((lX7_passA g q k0) 11 k0) - ((lX7_passA g q k0) 11 k0) / 4 * 4) = 0)) → (((lX7_passA g q k0) 4 k0) = 1) → (¬ (((((lX7_passA g q k0) 0 1) - ((lX7_passA g q k0) 12 k0)) - (((lX7_passA g q k0) 0 1) - ((lX7_passA g q k0) 12 k0)) / 60 * 60) = 0)) → (((lX7_passA g q k0) 4 k0) = 2) → (¬ (((((lX7_passA g q k0) 0 1) - ((lX7_passA g q k0) 13 k0)) - (((lX7_passA g q k0) 0 1) - ((lX7_passA g q k0) 13 k0)) / 90 * 90) = 0)) → (((lX7_passA g q k0) 8 k0) = 0) → ∀ (H : Heap) (locs : List Loc) (ls : Array Slot), Sy Z nT nK cT cK ad (lX7_passA g q k0) q H → va_S (sy_A Z) s.heap H locs → lv_has ls 4 [(3, .int 0), (2, .int 0), (1, .int (nI k0)), (0, .ref (ad 0))] → W p l e ({ frames := 0, cells := 0, slots := 0, locals := 0 } : Room) s m ([.ref (ad 0)] : List Value).toArray below meth c H locs 0 0 (MQ below (sQv Z nT nK cT cK ad (fun g1 q1 => (g1, q1) = (fX7_passOne g q, q))) ([.ref (ad 0)] : List Value).toArray s 0 0 (sy_A Z)) (F0 m 137 ls [.int 0, .int ((lX7_passA g q k0) 7 k0), .int (nI k0), .ref (ad 7)]) := by
        intro hk0 c_1 c_11 c_12 c_19 c_22 c_24 c_25 H locs ls hP hS hl
        refine lv_iadd hx hb dX7_passOne_137 ?_
        refine sy_iastN hx hb hE hP hS 7 rfl (show vp_in (nI k0) 40 from vp_in_nI (by omega) (by decide)) k0 (nI_clamp (by omega)) dX7_passOne_138 (fun H locs hP hS => ?_)
        refine lv_iinc (v := ((nI k0) + 1)) (lv' := [(1, .int ((nI k0) + 1)), (3, .int 0), (2, .int 0), (0, .ref (ad 0))]) hx hb dX7_passOne_139 hl (k := 2) rfl rfl (by decide) rfl (fun ls hl => ?_)
        refine lv_goto (tgt := 12) hx hb dX7_passOne_142 (by decide) ?_
        have hF : lX7_passA g q (k0 + 1) = (sy_up (lX7_passA g q k0) 7 k0 (((lX7_passA g q k0) 7 k0) + 0)) := by rw [lX7_passA, if_neg c_11, if_pos c_12, if_neg c_19, if_pos c_22, if_neg c_24, if_pos c_25] <;> rfl
        exact ih (k0 + 1) (by omega) (by omega) H locs ls (by rw [hF]; exact hP) hS (by rw [nI_succ]; exact lv_sub hl [0, 3] rfl)
      have K_6 : (k0 < (g 0 2).toNatClampNeg) → (¬ (((lX7_passA g q k0) 0 2) ≤ (nI k0))) → (¬ ((((lX7_passA g q k0) 11 k0) - ((lX7_passA g q k0) 11 k0) / 4 * 4) = 0)) → (((lX7_passA g q k0) 4 k0) = 1) → (¬ (((((lX7_passA g q k0) 0 1) - ((lX7_passA g q k0) 12 k0)) - (((lX7_passA g q k0) 0 1) - ((lX7_passA g q k0) 12 k0)) / 60 * 60) = 0)) → (((lX7_passA g q k0) 4 k0) = 2) → (¬ (((((lX7_passA g q k0) 0 1) - ((lX7_passA g q k0) 13 k0)) - (((lX7_passA g q k0) 0 1) - ((lX7_passA g q k0) 13 k0)) / 90 * 90) = 0)) → (¬ (((lX7_passA g q k0) 8 k0) = 0)) → ∀ (H : Heap) (locs : List Loc) (ls : Array Slot), Sy Z nT nK cT cK ad (lX7_passA g q k0) q H → va_S (sy_A Z) s.heap H locs → lv_has ls 4 [(3, .int 0), (2, .int 0), (1, .int (nI k0)), (0, .ref (ad 0))] → W p l e ({ frames := 0, cells := 0, slots := 0, locals := 0 } : Room) s m ([.ref (ad 0)] : List Value).toArray below meth c H locs 0 0 (MQ below (sQv Z nT nK cT cK ad (fun g1 q1 => (g1, q1) = (fX7_passOne g q, q))) ([.ref (ad 0)] : List Value).toArray s 0 0 (sy_A Z)) (F0 m 118 ls [.int 0, .int ((lX7_passA g q k0) 7 k0), .int (nI k0), .ref (ad 7)]) := by
        intro hk0 c_1 c_11 c_12 c_19 c_22 c_24 c_25 H locs ls hP hS hl
        refine lv_if_eq (tgt := 136) hx hb dX7_passOne_118 (by decide) (fun _ => ?_) (fun c9 => absurd c9 (by decide))
        refine lv_iconst (v := 0) hx hb dX7_passOne_136 (by decide) ?_
        refine lv_iadd hx hb dX7_passOne_137 ?_
        refine sy_iastN hx hb hE hP hS 7 rfl (show vp_in (nI k0) 40 from vp_in_nI (by omega) (by decide)) k0 (nI_clamp (by omega)) dX7_passOne_138 (fun H locs hP hS => ?_)
        refine lv_iinc (v := ((nI k0) + 1)) (lv' := [(1, .int ((nI k0) + 1)), (3, .int 0), (2, .int 0), (0, .ref (ad 0))]) hx hb dX7_passOne_139 hl (k := 2) rfl rfl (by decide) rfl (fun ls hl => ?_)
        refine lv_goto (tgt := 12) hx hb dX7_passOne_142 (by decide) ?_
        have hF : lX7_passA g q (k0 + 1) = (sy_up (lX7_passA g q k0) 7 k0 (((lX7_passA g q k0) 7 k0) + 0)) := by rw [lX7_passA, if_neg c_11, if_pos c_12, if_neg c_19, if_pos c_22, if_neg c_24, if_neg c_25] <;> rfl
        exact ih (k0 + 1) (by omega) (by omega) H locs ls (by rw [hF]; exact hP) hS (by rw [nI_succ]; exact lv_sub hl [0, 3] rfl)
      have K_7 : (k0 < (g 0 2).toNatClampNeg) → (¬ (((lX7_passA g q k0) 0 2) ≤ (nI k0))) → (¬ ((((lX7_passA g q k0) 11 k0) - ((lX7_passA g q k0) 11 k0) / 4 * 4) = 0)) → (((lX7_passA g q k0) 4 k0) = 1) → (¬ (((((lX7_passA g q k0) 0 1) - ((lX7_passA g q k0) 12 k0)) - (((lX7_passA g q k0) 0 1) - ((lX7_passA g q k0) 12 k0)) / 60 * 60) = 0)) → (((lX7_passA g q k0) 4 k0) = 2) → (((((lX7_passA g q k0) 0 1) - ((lX7_passA g q k0) 13 k0)) - (((lX7_passA g q k0) 0 1) - ((lX7_passA g q k0) 13 k0)) / 90 * 90) = 0) → (((lX7_passA g q k0) 8 k0) = 0) → ∀ (H : Heap) (locs : List Loc) (ls : Array Slot), Sy Z nT nK cT cK ad (lX7_passA g q k0) q H → va_S (sy_A Z) s.heap H locs → lv_has ls 4 [(3, .int 1), (2, .int 0), (1, .int (nI k0)), (0, .ref (ad 0))] → W p l e ({ frames := 0, cells := 0, slots := 0, locals := 0 } : Room) s m ([.ref (ad 0)] : List Value).toArray below meth c H locs 0 0 (MQ below (sQv Z nT nK cT cK ad (fun g1 q1 => (g1, q1) = (fX7_passOne g q, q))) ([.ref (ad 0)] : List Value).toArray s 0 0 (sy_A Z)) (F0 m 136 ls [.int ((lX7_passA g q k0) 7 k0), .int (nI k0), .ref (ad 7)]) := by
        intro hk0 c_1 c_11 c_12 c_19 c_22 c_24 c_26 H locs ls hP hS hl
        refine lv_iconst (v := 0) hx hb dX7_passOne_136 (by decide) ?_
        refine lv_iadd hx hb dX7_passOne_137 ?_
        refine sy_iastN hx hb hE hP hS 7 rfl (show vp_in (nI k0) 40 from vp_in_nI (by omega) (by decide)) k0 (nI_clamp (by omega)) dX7_passOne_138 (fun H locs hP hS => ?_)
        refine lv_iinc (v := ((nI k0) + 1)) (lv' := [(1, .int ((nI k0) + 1)), (3, .int 1), (2, .int 0), (0, .ref (ad 0))]) hx hb dX7_passOne_139 hl (k := 2) rfl rfl (by decide) rfl (fun ls hl => ?_)
        refine lv_goto (tgt := 12) hx hb dX7_passOne_142 (by decide) ?_
        have hF : lX7_passA g q (k0 + 1) = (sy_up (lX7_passA g q k0) 7 k0 (((lX7_passA g q k0) 7 k0) + 0)) := by rw [lX7_passA, if_neg c_11, if_pos c_12, if_neg c_19, if_pos c_22, if_pos c_24, if_pos c_26] <;> rfl
        exact ih (k0 + 1) (by omega) (by omega) H locs ls (by rw [hF]; exact hP) hS (by rw [nI_succ]; exact lv_sub hl [0, 3] rfl)
      have K_8 : (k0 < (g 0 2).toNatClampNeg) → (¬ (((lX7_passA g q k0) 0 2) ≤ (nI k0))) → (¬ ((((lX7_passA g q k0) 11 k0) - ((lX7_passA g q k0) 11 k0) / 4 * 4) = 0)) → (((lX7_passA g q k0) 4 k0) = 1) → (¬ (((((lX7_passA g q k0) 0 1) - ((lX7_passA g q k0) 12 k0)) - (((lX7_passA g q k0) 0 1) - ((lX7_passA g q k0) 12 k0)) / 60 * 60) = 0)) → (((lX7_passA g q k0) 4 k0) = 2) → (((((lX7_passA g q k0) 0 1) - ((lX7_passA g q k0) 13 k0)) - (((lX7_passA g q k0) 0 1) - ((lX7_passA g q k0) 13 k0)) / 90 * 90) = 0) → (¬ (((lX7_passA g q k0) 8 k0) = 0)) → ∀ (H : Heap) (locs : List Loc) (ls : Array Slot), Sy Z nT nK cT cK ad (lX7_passA g q k0) q H → va_S (sy_A Z) s.heap H locs → lv_has ls 4 [(3, .int 1), (2, .int 0), (1, .int (nI k0)), (0, .ref (ad 0))] → W p l e ({ frames := 0, cells := 0, slots := 0, locals := 0 } : Room) s m ([.ref (ad 0)] : List Value).toArray below meth c H locs 0 0 (MQ below (sQv Z nT nK cT cK ad (fun g1 q1 => (g1, q1) = (fX7_passOne g q, q))) ([.ref (ad 0)] : List Value).toArray s 0 0 (sy_A Z)) (F0 m 117 ls [.int ((lX7_passA g q k0) 7 k0), .int (nI k0), .ref (ad 7)]) := by
        intro hk0 c_1 c_11 c_12 c_19 c_22 c_24 c_26 H locs ls hP hS hl
        refine lv_iload_n hx hb dX7_passOne_117 rfl (lv_at hl 0 rfl) ?_
        refine lv_if_eq (tgt := 136) hx hb dX7_passOne_118 (by decide) (fun c9 => absurd c9 (by decide)) (fun _ => ?_)
        refine lv_aload_n hx hb dX7_passOne_121 rfl (lv_at hl 3 rfl) ?_
        refine sy_getRX7 hx hb hts hown hE hP 0 rfl 6 (by decide) (hts _ (u_in uk_4_196)) (v := .ref (ad 7)) rfl dX7_passOne_122 ?_
        refine lv_iload_n hx hb dX7_passOne_125 rfl (lv_at hl 2 rfl) ?_
        refine sy_ialdN hx hb hE hP 7 rfl (show vp_in (nI k0) 40 from vp_in_nI (by omega) (by decide)) k0 (nI_clamp (by omega)) (v := (lX7_passA g q k0) 7 k0) rfl dX7_passOne_126 ?_
        refine lv_bipush (v := 10) hx hb dX7_passOne_127 (by decide) ?_
        refine lv_icmp_ge (tgt := 136) hx hb dX7_passOne_129 (by decide) (fun c_27 => ?_) (fun c_27 => ?_)
        · skip
          refine lv_iconst (v := 0) hx hb dX7_passOne_136 (by decide) ?_
          refine lv_iadd hx hb dX7_passOne_137 ?_
          refine sy_iastN hx hb hE hP hS 7 rfl (show vp_in (nI k0) 40 from vp_in_nI (by omega) (by decide)) k0 (nI_clamp (by omega)) dX7_passOne_138 (fun H locs hP hS => ?_)
          refine lv_iinc (v := ((nI k0) + 1)) (lv' := [(1, .int ((nI k0) + 1)), (3, .int 1), (2, .int 0), (0, .ref (ad 0))]) hx hb dX7_passOne_139 hl (k := 2) rfl rfl (by decide) rfl (fun ls hl => ?_)
          refine lv_goto (tgt := 12) hx hb dX7_passOne_142 (by decide) ?_
          have hF : lX7_passA g q (k0 + 1) = (sy_up (lX7_passA g q k0) 7 k0 (((lX7_passA g q k0) 7 k0) + 0)) := by rw [lX7_passA, if_neg c_11, if_pos c_12, if_neg c_19, if_pos c_22, if_pos c_24, if_neg c_26, if_pos c_27] <;> rfl
          exact ih (k0 + 1) (by omega) (by omega) H locs ls (by rw [hF]; exact hP) hS (by rw [nI_succ]; exact lv_sub hl [0, 3] rfl)
        · skip
          refine lv_iconst (v := 1) hx hb dX7_passOne_132 (by decide) ?_
          refine lv_goto (tgt := 137) hx hb dX7_passOne_133 (by decide) ?_
          refine lv_iadd hx hb dX7_passOne_137 ?_
          refine sy_iastN hx hb hE hP hS 7 rfl (show vp_in (nI k0) 40 from vp_in_nI (by omega) (by decide)) k0 (nI_clamp (by omega)) dX7_passOne_138 (fun H locs hP hS => ?_)
          refine lv_iinc (v := ((nI k0) + 1)) (lv' := [(1, .int ((nI k0) + 1)), (3, .int 1), (2, .int 0), (0, .ref (ad 0))]) hx hb dX7_passOne_139 hl (k := 2) rfl rfl (by decide) rfl (fun ls hl => ?_)
          refine lv_goto (tgt := 12) hx hb dX7_passOne_142 (by decide) ?_
          have hF : lX7_passA g q (k0 + 1) = (sy_up (lX7_passA g q k0) 7 k0 (((lX7_passA g q k0) 7 k0) + 1)) := by rw [lX7_passA, if_neg c_11, if_pos c_12, if_neg c_19, if_pos c_22, if_pos c_24, if_neg c_26, if_neg c_27] <;> rfl
          exact ih (k0 + 1) (by omega) (by omega) H locs ls (by rw [hF]; exact hP) hS (by rw [nI_succ]; exact lv_sub hl [0, 3] rfl)
      have K_9 : (k0 < (g 0 2).toNatClampNeg) → (¬ (((lX7_passA g q k0) 0 2) ≤ (nI k0))) → ((((lX7_passA g q k0) 11 k0) - ((lX7_passA g q k0) 11 k0) / 4 * 4) = 0) → (¬ (((lX7_passA g q k0) 4 k0) = 1)) → (((lX7_passA g q k0) 4 k0) = 2) → (((((lX7_passA g q k0) 0 1) - ((lX7_passA g q k0) 13 k0)) - (((lX7_passA g q k0) 0 1) - ((lX7_passA g q k0) 13 k0)) / 90 * 90) = 0) → (¬ (((lX7_passA g q k0) 8 k0) = 0)) → (10 ≤ ((lX7_passA g q k0) 7 k0)) → ∀ (H : Heap) (locs : List Loc) (ls : Array Slot), Sy Z nT nK cT cK ad (sy_up (lX7_passA g q k0) 7 k0 (((lX7_passA g q k0) 7 k0) + 0)) q H → va_S (sy_A Z) s.heap H locs → lv_has ls 4 [(3, .int 1), (2, .int 1), (1, .int (nI k0)), (0, .ref (ad 0))] → W p l e ({ frames := 0, cells := 0, slots := 0, locals := 0 } : Room) s m ([.ref (ad 0)] : List Value).toArray below meth c H locs 0 0 (MQ below (sQv Z nT nK cT cK ad (fun g1 q1 => (g1, q1) = (fX7_passOne g q, q))) ([.ref (ad 0)] : List Value).toArray s 0 0 (sy_A Z)) (F0 m 139 ls []) := by
        intro hk0 c_1 c_11 c_28 c_29 c_31 c_33 c_34 H locs ls hP hS hl
        refine lv_iinc (v := ((nI k0) + 1)) (lv' := [(1, .int ((nI k0) + 1)), (3, .int 1), (2, .int 1), (0, .ref (ad 0))]) hx hb dX7_passOne_139 hl (k := 2) rfl rfl (by decide) rfl (fun ls hl => ?_)
        refine lv_goto (tgt := 12) hx hb dX7_passOne_142 (by decide) ?_
        have hF : lX7_passA g q (k0 + 1) = (sy_up (lX7_passA g q k0) 7 k0 (((lX7_passA g q k0) 7 k0) + 0)) := by rw [lX7_passA, if_pos c_11, if_neg c_28, if_pos c_29, if_pos c_31, if_neg c_33, if_pos c_34] <;> rfl
        exact ih (k0 + 1) (by omega) (by omega) H locs ls (by rw [hF]; exact hP) hS (by rw [nI_succ]; exact lv_sub hl [0, 3] rfl)
      have K_10 : (k0 < (g 0 2).toNatClampNeg) → (¬ (((lX7_passA g q k0) 0 2) ≤ (nI k0))) → ((((lX7_passA g q k0) 11 k0) - ((lX7_passA g q k0) 11 k0) / 4 * 4) = 0) → (¬ (((lX7_passA g q k0) 4 k0) = 1)) → (((lX7_passA g q k0) 4 k0) = 2) → (((((lX7_passA g q k0) 0 1) - ((lX7_passA g q k0) 13 k0)) - (((lX7_passA g q k0) 0 1) - ((lX7_passA g q k0) 13 k0)) / 90 * 90) = 0) → (¬ (((lX7_passA g q k0) 8 k0) = 0)) → (¬ (10 ≤ ((lX7_passA g q k0) 7 k0))) → ∀ (H : Heap) (locs : List Loc) (ls : Array Slot), Sy Z nT nK cT cK ad (lX7_passA g q k0) q H → va_S (sy_A Z) s.heap H locs → lv_has ls 4 [(3, .int 1), (2, .int 1), (1, .int (nI k0)), (0, .ref (ad 0))] → W p l e ({ frames := 0, cells := 0, slots := 0, locals := 0 } : Room) s m ([.ref (ad 0)] : List Value).toArray below meth c H locs 0 0 (MQ below (sQv Z nT nK cT cK ad (fun g1 q1 => (g1, q1) = (fX7_passOne g q, q))) ([.ref (ad 0)] : List Value).toArray s 0 0 (sy_A Z)) (F0 m 138 ls [.int (((lX7_passA g q k0) 7 k0) + 1), .int (nI k0), .ref (ad 7)]) := by
        intro hk0 c_1 c_11 c_28 c_29 c_31 c_33 c_34 H locs ls hP hS hl
        refine sy_iastN hx hb hE hP hS 7 rfl (show vp_in (nI k0) 40 from vp_in_nI (by omega) (by decide)) k0 (nI_clamp (by omega)) dX7_passOne_138 (fun H locs hP hS => ?_)
        refine lv_iinc (v := ((nI k0) + 1)) (lv' := [(1, .int ((nI k0) + 1)), (3, .int 1), (2, .int 1), (0, .ref (ad 0))]) hx hb dX7_passOne_139 hl (k := 2) rfl rfl (by decide) rfl (fun ls hl => ?_)
        refine lv_goto (tgt := 12) hx hb dX7_passOne_142 (by decide) ?_
        have hF : lX7_passA g q (k0 + 1) = (sy_up (lX7_passA g q k0) 7 k0 (((lX7_passA g q k0) 7 k0) + 1)) := by rw [lX7_passA, if_pos c_11, if_neg c_28, if_pos c_29, if_pos c_31, if_neg c_33, if_neg c_34] <;> rfl
        exact ih (k0 + 1) (by omega) (by omega) H locs ls (by rw [hF]; exact hP) hS (by rw [nI_succ]; exact lv_sub hl [0, 3] rfl)
      have K_11 : (k0 < (g 0 2).toNatClampNeg) → (¬ (((lX7_passA g q k0) 0 2) ≤ (nI k0))) → ((((lX7_passA g q k0) 11 k0) - ((lX7_passA g q k0) 11 k0) / 4 * 4) = 0) → (((lX7_passA g q k0) 4 k0) = 1) → (((lX7_passA g q k0) 4 k0) = 2) → (((((lX7_passA g q k0) 0 1) - ((lX7_passA g q k0) 13 k0)) - (((lX7_passA g q k0) 0 1) - ((lX7_passA g q k0) 13 k0)) / 90 * 90) = 0) → (¬ (((lX7_passA g q k0) 8 k0) = 0)) → (10 ≤ ((lX7_passA g q k0) 7 k0)) → ∀ (H : Heap) (locs : List Loc) (ls : Array Slot), Sy Z nT nK cT cK ad (lX7_passA g q k0) q H → va_S (sy_A Z) s.heap H locs → lv_has ls 4 [(3, .int 1), (2, .int 1), (1, .int (nI k0)), (0, .ref (ad 0))] → W p l e ({ frames := 0, cells := 0, slots := 0, locals := 0 } : Room) s m ([.ref (ad 0)] : List Value).toArray below meth c H locs 0 0 (MQ below (sQv Z nT nK cT cK ad (fun g1 q1 => (g1, q1) = (fX7_passOne g q, q))) ([.ref (ad 0)] : List Value).toArray s 0 0 (sy_A Z)) (F0 m 137 ls [.int 0, .int ((lX7_passA g q k0) 7 k0), .int (nI k0), .ref (ad 7)]) := by
        intro hk0 c_1 c_11 c_28 c_35 c_37 c_39 c_40 H locs ls hP hS hl
        refine lv_iadd hx hb dX7_passOne_137 ?_
        refine sy_iastN hx hb hE hP hS 7 rfl (show vp_in (nI k0) 40 from vp_in_nI (by omega) (by decide)) k0 (nI_clamp (by omega)) dX7_passOne_138 (fun H locs hP hS => ?_)
        refine lv_iinc (v := ((nI k0) + 1)) (lv' := [(1, .int ((nI k0) + 1)), (3, .int 1), (2, .int 1), (0, .ref (ad 0))]) hx hb dX7_passOne_139 hl (k := 2) rfl rfl (by decide) rfl (fun ls hl => ?_)
        refine lv_goto (tgt := 12) hx hb dX7_passOne_142 (by decide) ?_
        have hF : lX7_passA g q (k0 + 1) = (sy_up (lX7_passA g q k0) 7 k0 (((lX7_passA g q k0) 7 k0) + 0)) := by rw [lX7_passA, if_pos c_11, if_pos c_28, if_pos c_35, if_pos c_37, if_neg c_39, if_pos c_40] <;> rfl
        exact ih (k0 + 1) (by omega) (by omega) H locs ls (by rw [hF]; exact hP) hS (by rw [nI_succ]; exact lv_sub hl [0, 3] rfl)
      have K_12 : (k0 < (g 0 2).toNatClampNeg) → (¬ (((lX7_passA g q k0) 0 2) ≤ (nI k0))) → ((((lX7_passA g q k0) 11 k0) - ((lX7_passA g q k0) 11 k0) / 4 * 4) = 0) → (((lX7_passA g q k0) 4 k0) = 1) → (((lX7_passA g q k0) 4 k0) = 2) → (((((lX7_passA g q k0) 0 1) - ((lX7_passA g q k0) 13 k0)) - (((lX7_passA g q k0) 0 1) - ((lX7_passA g q k0) 13 k0)) / 90 * 90) = 0) → (¬ (((lX7_passA g q k0) 8 k0) = 0)) → (¬ (10 ≤ ((lX7_passA g q k0) 7 k0))) → ∀ (H : Heap) (locs : List Loc) (ls : Array Slot), Sy Z nT nK cT cK ad (lX7_passA g q k0) q H → va_S (sy_A Z) s.heap H locs → lv_has ls 4 [(3, .int 1), (2, .int 1), (1, .int (nI k0)), (0, .ref (ad 0))] → W p l e ({ frames := 0, cells := 0, slots := 0, locals := 0 } : Room) s m ([.ref (ad 0)] : List Value).toArray below meth c H locs 0 0 (MQ below (sQv Z nT nK cT cK ad (fun g1 q1 => (g1, q1) = (fX7_passOne g q, q))) ([.ref (ad 0)] : List Value).toArray s 0 0 (sy_A Z)) (F0 m 133 ls [.int 1, .int ((lX7_passA g q k0) 7 k0), .int (nI k0), .ref (ad 7)]) := by
        intro hk0 c_1 c_11 c_28 c_35 c_37 c_39 c_40 H locs ls hP hS hl
        refine lv_goto (tgt := 137) hx hb dX7_passOne_133 (by decide) ?_
        refine lv_iadd hx hb dX7_passOne_137 ?_
        refine sy_iastN hx hb hE hP hS 7 rfl (show vp_in (nI k0) 40 from vp_in_nI (by omega) (by decide)) k0 (nI_clamp (by omega)) dX7_passOne_138 (fun H locs hP hS => ?_)
        refine lv_iinc (v := ((nI k0) + 1)) (lv' := [(1, .int ((nI k0) + 1)), (3, .int 1), (2, .int 1), (0, .ref (ad 0))]) hx hb dX7_passOne_139 hl (k := 2) rfl rfl (by decide) rfl (fun ls hl => ?_)
        refine lv_goto (tgt := 12) hx hb dX7_passOne_142 (by decide) ?_
        have hF : lX7_passA g q (k0 + 1) = (sy_up (lX7_passA g q k0) 7 k0 (((lX7_passA g q k0) 7 k0) + 1)) := by rw [lX7_passA, if_pos c_11, if_pos c_28, if_pos c_35, if_pos c_37, if_neg c_39, if_neg c_40] <;> rfl
        exact ih (k0 + 1) (by omega) (by omega) H locs ls (by rw [hF]; exact hP) hS (by rw [nI_succ]; exact lv_sub hl [0, 3] rfl)
      refine lv_iload_n hx hb dX7_passOne_12 rfl (lv_at hl 0 rfl) ?_
      refine lv_aload_n hx hb dX7_passOne_13 rfl (lv_at hl 1 rfl) ?_
      refine sy_getRX7 hx hb hts hown hE hP 0 rfl 2 (by decide) (hts _ (u_in uk_4_192)) (v := .int ((lX7_passA g q k0) 0 2)) rfl dX7_passOne_14 ?_
      refine lv_icmp_ge (tgt := 145) hx hb dX7_passOne_17 (by decide) (fun c_1 => ?_) (fun c_1 => ?_)
      · skip
        obtain rfl := loop_exit (N := (g 0 2).toNatClampNeg) ((lX7_passA_2 g q k0).trans (im_nT hI).1) (by omega) hi c_1
        refine lv_iconst (v := 0) hx hb dX7_passOne_145 (by decide) ?_
        refine lv_istore_n (lv' := [(1, .int 0), (0, .ref (ad 0))]) hx hb dX7_passOne_146 rfl hl (by decide) rfl (fun ls hl => ?_)
        have hL_147 : ∀ (n k0 : Nat), k0 ≤ (g 0 28).toNatClampNeg → (g 0 28).toNatClampNeg + 1 ≤ k0 + n → ∀ (H : Heap) (locs : List Loc) (ls : Array Slot), Sy Z nT nK cT cK ad (lX7_passB g q k0) q H → va_S (sy_A Z) s.heap H locs → lv_has ls 4 [(1, .int (nI k0)), (0, .ref (ad 0))] → W p l e ({ frames := 0, cells := 0, slots := 0, locals := 0 } : Room) s m ([.ref (ad 0)] : List Value).toArray below meth c H locs 0 0 (MQ below (sQv Z nT nK cT cK ad (fun g1 q1 => (g1, q1) = (fX7_passOne g q, q))) ([.ref (ad 0)] : List Value).toArray s 0 0 (sy_A Z)) (F0 m 147 ls []) := by
          intro n
          induction n with
          | zero => intro k0 hi hn ; exact absurd hn (by omega)
          | succ n ih =>
            intro k0 hi hn H locs ls hP hS hl
            have hN9 := (im_nK hI).2
            have K_1 : (k0 < (g 0 28).toNatClampNeg) → (¬ (((lX7_passB g q k0) 0 28) ≤ (nI k0))) → (¬ (((lX7_passB g q k0) 41 k0) = (-1))) → (¬ ((((lX7_passB g q k0) 41 k0) + 28) = ((lX7_passB g q k0) 0 1))) → (¬ (((lX7_passB g q k0) 43 k0) ≤ 0)) → ((((lX7_passB g q k0) 44 k0) + 1001) = ((lX7_passB g q k0) 0 1)) → ∀ (H : Heap) (locs : List Loc) (ls : Array Slot), Sy Z nT nK cT cK ad (sy_up (sy_up (sy_up (lX7_passB g q k0) 0 44 (((lX7_passB g q k0) 0 44) - ((lX7_passB g q k0) 43 k0))) 0 45 (((lX7_passB g q k0) 0 45) - ((lX7_passB g q k0) 43 k0))) 0 46 (((lX7_passB g q k0) 0 46) + ((lX7_passB g q k0) 43 k0))) q H → va_S (sy_A Z) s.heap H locs → lv_has ls 4 [(1, .int (nI k0)), (0, .ref (ad 0))] → W p l e ({ frames := 0, cells := 0, slots := 0, locals := 0 } : Room) s m ([.ref (ad 0)] : List Value).toArray below meth c H locs 0 0 (MQ below (sQv Z nT nK cT cK ad (fun g1 q1 => (g1, q1) = (fX7_passOne g q, q))) ([.ref (ad 0)] : List Value).toArray s 0 0 (sy_A Z)) (F0 m 271 ls []) := by
              intro hk0 c_2 c_3 c_6 c_7 c_8 H locs ls hP hS hl
              refine lv_aload_n hx hb dX7_passOne_271 rfl (lv_at hl 1 rfl) ?_
              refine sy_getRX7 hx hb hts hown hE hP 0 rfl 42 (by decide) (hts _ (u_in uk_4_232)) (v := .ref (ad 43)) rfl dX7_passOne_272 ?_
              refine lv_iload_n hx hb dX7_passOne_275 rfl (lv_at hl 0 rfl) ?_
              refine lv_iconst (v := 0) hx hb dX7_passOne_276 (by decide) ?_
              refine sy_iastN hx hb hE hP hS 43 rfl (show vp_in (nI k0) 40 from vp_in_nI (by omega) (by decide)) k0 (nI_clamp (by omega)) dX7_passOne_277 (fun H locs hP hS => ?_)
              refine lv_iinc (v := ((nI k0) + 1)) (lv' := [(1, .int ((nI k0) + 1)), (0, .ref (ad 0))]) hx hb dX7_passOne_278 hl (k := 0) rfl rfl (by decide) rfl (fun ls hl => ?_)
              refine lv_goto (tgt := 147) hx hb dX7_passOne_281 (by decide) ?_
              have hF : lX7_passB g q (k0 + 1) = (sy_up (sy_up (sy_up (sy_up (lX7_passB g q k0) 0 44 (((lX7_passB g q k0) 0 44) - ((lX7_passB g q k0) 43 k0))) 0 45 (((lX7_passB g q k0) 0 45) - ((lX7_passB g q k0) 43 k0))) 0 46 (((lX7_passB g q k0) 0 46) + ((lX7_passB g q k0) 43 k0))) 43 k0 0) := by rw [lX7_passB, if_neg c_3, if_neg c_6, if_neg c_7, if_pos c_8] <;> rfl
              exact ih (k0 + 1) (by omega) (by omega) H locs ls (by rw [hF]; exact hP) hS (by rw [nI_succ]; exact lv_sub hl [0, 1] rfl)
            have K_2 : (k0 < (g 0 28).toNatClampNeg) → (¬ (((lX7_passB g q k0) 0 28) ≤ (nI k0))) → (¬ (((lX7_passB g q k0) 41 k0) = (-1))) → ((((lX7_passB g q k0) 41 k0) + 28) = ((lX7_passB g q k0) 0 1)) → (¬ (((lX7_passB g q k0) 43 k0) ≤ 0)) → ((((lX7_passB g q k0) 44 k0) + 1001) = ((lX7_passB g q k0) 0 1)) → ∀ (H : Heap) (locs : List Loc) (ls : Array Slot), Sy Z nT nK cT cK ad (sy_up (sy_up (sy_up (lX7_passB g q k0) 33 k0 ((lX7_passB g q k0) 42 k0)) 41 k0 (-1)) 0 44 (((lX7_passB g q k0) 0 44) - ((lX7_passB g q k0) 43 k0))) q H → va_S (sy_A Z) s.heap H locs → lv_has ls 4 [(1, .int (nI k0)), (0, .ref (ad 0))] → W p l e ({ frames := 0, cells := 0, slots := 0, locals := 0 } : Room) s m ([.ref (ad 0)] : List Value).toArray below meth c H locs 0 0 (MQ below (sQv Z nT nK cT cK ad (fun g1 q1 => (g1, q1) = (fX7_passOne g q, q))) ([.ref (ad 0)] : List Value).toArray s 0 0 (sy_A Z)) (F0 m 250 ls [.ref (ad 43), .int ((lX7_passB g q k0) 0 45), .ref (ad 0)]) := by
              intro hk0 c_2 c_3 c_6 c_9 c_10 H locs ls hP hS hl
              refine lv_iload_n hx hb dX7_passOne_250 rfl (lv_at hl 0 rfl) ?_
              refine sy_ialdN hx hb hE hP 43 rfl (show vp_in (nI k0) 40 from vp_in_nI (by omega) (by decide)) k0 (nI_clamp (by omega)) (v := (lX7_passB g q k0) 43 k0) rfl dX7_passOne_251 ?_
              refine lv_isub hx hb dX7_passOne_252 ?_
              refine sy_putRX7 hx hb hts hown hE hP hS 0 rfl 45 (by decide) (hts _ (u_in uk_4_235)) rfl (ty := .int) (by decide +kernel) rfl rfl (sy_up (sy_up (sy_up (sy_up (lX7_passB g q k0) 33 k0 ((lX7_passB g q k0) 42 k0)) 41 k0 (-1)) 0 44 (((lX7_passB g q k0) 0 44) - ((lX7_passB g q k0) 43 k0))) 0 45 (((lX7_passB g q k0) 0 45) - ((lX7_passB g q k0) 43 k0))) q (by rw [sy_up_s (sy_up (sy_up (sy_up (lX7_passB g q k0) 33 k0 ((lX7_passB g q k0) 42 k0)) 41 k0 (-1)) 0 44 (((lX7_passB g q k0) 0 44) - ((lX7_passB g q k0) 43 k0))) 0 45 (((lX7_passB g q k0) 0 45) - ((lX7_passB g q k0) 43 k0))]; exact se_RX7_45 _ _ _ _ _ _ _) (fun _ h9 => sy_up_o _ _ _ h9) (fun _ _ => rfl) dX7_passOne_253 (fun H locs hP hS => ?_)
              refine lv_aload_n hx hb dX7_passOne_256 rfl (lv_at hl 1 rfl) ?_
              refine lv_dup hx hb dX7_passOne_257 rfl ?_
              refine sy_getRX7 hx hb hts hown hE hP 0 rfl 46 (by decide) (hts _ (u_in uk_4_236)) (v := .int ((lX7_passB g q k0) 0 46)) rfl dX7_passOne_258 ?_
              refine lv_aload_n hx hb dX7_passOne_261 rfl (lv_at hl 1 rfl) ?_
              refine sy_getRX7 hx hb hts hown hE hP 0 rfl 42 (by decide) (hts _ (u_in uk_4_232)) (v := .ref (ad 43)) rfl dX7_passOne_262 ?_
              refine lv_iload_n hx hb dX7_passOne_265 rfl (lv_at hl 0 rfl) ?_
              refine sy_ialdN hx hb hE hP 43 rfl (show vp_in (nI k0) 40 from vp_in_nI (by omega) (by decide)) k0 (nI_clamp (by omega)) (v := (lX7_passB g q k0) 43 k0) rfl dX7_passOne_266 ?_
              refine lv_iadd hx hb dX7_passOne_267 ?_
              refine sy_putRX7 hx hb hts hown hE hP hS 0 rfl 46 (by decide) (hts _ (u_in uk_4_236)) rfl (ty := .int) (by decide +kernel) rfl rfl (sy_up (sy_up (sy_up (sy_up (sy_up (lX7_passB g q k0) 33 k0 ((lX7_passB g q k0) 42 k0)) 41 k0 (-1)) 0 44 (((lX7_passB g q k0) 0 44) - ((lX7_passB g q k0) 43 k0))) 0 45 (((lX7_passB g q k0) 0 45) - ((lX7_passB g q k0) 43 k0))) 0 46 (((lX7_passB g q k0) 0 46) + ((lX7_passB g q k0) 43 k0))) q (by rw [sy_up_s (sy_up (sy_up (sy_up (sy_up (lX7_passB g q k0) 33 k0 ((lX7_passB g q k0) 42 k0)) 41 k0 (-1)) 0 44 (((lX7_passB g q k0) 0 44) - ((lX7_passB g q k0) 43 k0))) 0 45 (((lX7_passB g q k0) 0 45) - ((lX7_passB g q k0) 43 k0))) 0 46 (((lX7_passB g q k0) 0 46) + ((lX7_passB g q k0) 43 k0))]; exact se_RX7_46 _ _ _ _ _ _ _) (fun _ h9 => sy_up_o _ _ _ h9) (fun _ _ => rfl) dX7_passOne_268 (fun H locs hP hS => ?_)
              refine lv_aload_n hx hb dX7_passOne_271 rfl (lv_at hl 1 rfl) ?_
              refine sy_getRX7 hx hb hts hown hE hP 0 rfl 42 (by decide) (hts _ (u_in uk_4_232)) (v := .ref (ad 43)) rfl dX7_passOne_272 ?_
              refine lv_iload_n hx hb dX7_passOne_275 rfl (lv_at hl 0 rfl) ?_
              refine lv_iconst (v := 0) hx hb dX7_passOne_276 (by decide) ?_
              refine sy_iastN hx hb hE hP hS 43 rfl (show vp_in (nI k0) 40 from vp_in_nI (by omega) (by decide)) k0 (nI_clamp (by omega)) dX7_passOne_277 (fun H locs hP hS => ?_)
              refine lv_iinc (v := ((nI k0) + 1)) (lv' := [(1, .int ((nI k0) + 1)), (0, .ref (ad 0))]) hx hb dX7_passOne_278 hl (k := 0) rfl rfl (by decide) rfl (fun ls hl => ?_)
              refine lv_goto (tgt := 147) hx hb dX7_passOne_281 (by decide) ?_
              have hF : lX7_passB g q (k0 + 1) = (sy_up (sy_up (sy_up (sy_up (sy_up (sy_up (lX7_passB g q k0) 33 k0 ((lX7_passB g q k0) 42 k0)) 41 k0 (-1)) 0 44 (((lX7_passB g q k0) 0 44) - ((lX7_passB g q k0) 43 k0))) 0 45 (((lX7_passB g q k0) 0 45) - ((lX7_passB g q k0) 43 k0))) 0 46 (((lX7_passB g q k0) 0 46) + ((lX7_passB g q k0) 43 k0))) 43 k0 0) := by rw [lX7_passB, if_neg c_3, if_pos c_6, if_neg c_9, if_pos c_10] <;> rfl
              exact ih (k0 + 1) (by omega) (by omega) H locs ls (by rw [hF]; exact hP) hS (by rw [nI_succ]; exact lv_sub hl [0, 1] rfl)
            refine lv_iload_n hx hb dX7_passOne_147 rfl (lv_at hl 0 rfl) ?_
            refine lv_aload_n hx hb dX7_passOne_148 rfl (lv_at hl 1 rfl) ?_
            refine sy_getRX7 hx hb hts hown hE hP 0 rfl 28 (by decide) (hts _ (u_in uk_4_218)) (v := .int ((lX7_passB g q k0) 0 28)) rfl dX7_passOne_149 ?_
            refine lv_icmp_ge (tgt := 284) hx hb dX7_passOne_152 (by decide) (fun c_2 => ?_) (fun c_2 => ?_)
            · skip
              obtain rfl := loop_exit (N := (g 0 28).toNatClampNeg) ((lX7_passB_28 g q k0).trans (im_nK hI).1) (by omega) hi c_2
              exact (sy_vret hx hb hr hlocks hE hP hS dX7_passOne_284 ⟨Nat.le_of_ble_eq_true rfl, Nat.le_of_ble_eq_true rfl⟩ (by unfold fX7_passOne; rfl))
            · skip
              have hk0 : k0 < (g 0 28).toNatClampNeg := loop_in (N := (g 0 28).toNatClampNeg) ((lX7_passB_28 g q k0).trans (im_nK hI).1) (by omega) hi c_2
              refine lv_aload_n hx hb dX7_passOne_155 rfl (lv_at hl 1 rfl) ?_
              refine sy_getRX7 hx hb hts hown hE hP 0 rfl 40 (by decide) (hts _ (u_in uk_4_230)) (v := .ref (ad 41)) rfl dX7_passOne_156 ?_
              refine lv_iload_n hx hb dX7_passOne_159 rfl (lv_at hl 0 rfl) ?_
              refine sy_ialdN hx hb hE hP 41 rfl (show vp_in (nI k0) 40 from vp_in_nI (by omega) (by decide)) k0 (nI_clamp (by omega)) (v := (lX7_passB g q k0) 41 k0) rfl dX7_passOne_160 ?_
              refine lv_iconst (v := (-1)) hx hb dX7_passOne_161 (by decide) ?_
              refine lv_icmp_eq (tgt := 200) hx hb dX7_passOne_162 (by decide) (fun c_3 => ?_) (fun c_3 => ?_)
              · skip
                refine lv_aload_n hx hb dX7_passOne_200 rfl (lv_at hl 1 rfl) ?_
                refine sy_getRX7 hx hb hts hown hE hP 0 rfl 42 (by decide) (hts _ (u_in uk_4_232)) (v := .ref (ad 43)) rfl dX7_passOne_201 ?_
                refine lv_iload_n hx hb dX7_passOne_204 rfl (lv_at hl 0 rfl) ?_
                refine sy_ialdN hx hb hE hP 43 rfl (show vp_in (nI k0) 40 from vp_in_nI (by omega) (by decide)) k0 (nI_clamp (by omega)) (v := (lX7_passB g q k0) 43 k0) rfl dX7_passOne_205 ?_
                refine lv_if_le (tgt := 278) hx hb dX7_passOne_206 (by decide) (fun c_4 => ?_) (fun c_4 => ?_)
                · skip
                  refine lv_iinc (v := ((nI k0) + 1)) (lv' := [(1, .int ((nI k0) + 1)), (0, .ref (ad 0))]) hx hb dX7_passOne_278 hl (k := 0) rfl rfl (by decide) rfl (fun ls hl => ?_)
                  refine lv_goto (tgt := 147) hx hb dX7_passOne_281 (by decide) ?_
                  have hF : lX7_passB g q (k0 + 1) = (lX7_passB g q k0) := by rw [lX7_passB, if_pos c_3, if_pos c_4] <;> rfl
                  exact ih (k0 + 1) (by omega) (by omega) H locs ls (by rw [hF]; exact hP) hS (by rw [nI_succ]; exact lv_sub hl [0, 1] rfl)
                · skip
                  refine lv_aload_n hx hb dX7_passOne_209 rfl (lv_at hl 1 rfl) ?_
                  refine sy_getRX7 hx hb hts hown hE hP 0 rfl 43 (by decide) (hts _ (u_in uk_4_233)) (v := .ref (ad 44)) rfl dX7_passOne_210 ?_
                  refine lv_iload_n hx hb dX7_passOne_213 rfl (lv_at hl 0 rfl) ?_
                  refine sy_ialdN hx hb hE hP 44 rfl (show vp_in (nI k0) 40 from vp_in_nI (by omega) (by decide)) k0 (nI_clamp (by omega)) (v := (lX7_passB g q k0) 44 k0) rfl dX7_passOne_214 ?_
                  refine lv_sipush (v := 1001) hx hb dX7_passOne_215 (by decide) ?_
                  refine lv_iadd hx hb dX7_passOne_218 ?_
                  refine lv_aload_n hx hb dX7_passOne_219 rfl (lv_at hl 1 rfl) ?_
                  refine sy_getRX7 hx hb hts hown hE hP 0 rfl 1 (by decide) (hts _ (u_in uk_4_191)) (v := .int ((lX7_passB g q k0) 0 1)) rfl dX7_passOne_220 ?_
                  refine lv_icmp_ne (tgt := 278) hx hb dX7_passOne_223 (by decide) (fun c_5 => ?_) (fun c_5 => ?_)
                  · skip
                    refine lv_iinc (v := ((nI k0) + 1)) (lv' := [(1, .int ((nI k0) + 1)), (0, .ref (ad 0))]) hx hb dX7_passOne_278 hl (k := 0) rfl rfl (by decide) rfl (fun ls hl => ?_)
                    refine lv_goto (tgt := 147) hx hb dX7_passOne_281 (by decide) ?_
                    have hF : lX7_passB g q (k0 + 1) = (lX7_passB g q k0) := by rw [lX7_passB, if_pos c_3, if_neg c_4, if_neg c_5] <;> rfl
                    exact ih (k0 + 1) (by omega) (by omega) H locs ls (by rw [hF]; exact hP) hS (by rw [nI_succ]; exact lv_sub hl [0, 1] rfl)
                  · skip
                    refine lv_aload_n hx hb dX7_passOne_226 rfl (lv_at hl 1 rfl) ?_
                    refine lv_dup hx hb dX7_passOne_227 rfl ?_
                    refine sy_getRX7 hx hb hts hown hE hP 0 rfl 44 (by decide) (hts _ (u_in uk_4_234)) (v := .int ((lX7_passB g q k0) 0 44)) rfl dX7_passOne_228 ?_
                    refine lv_aload_n hx hb dX7_passOne_231 rfl (lv_at hl 1 rfl) ?_
                    refine sy_getRX7 hx hb hts hown hE hP 0 rfl 42 (by decide) (hts _ (u_in uk_4_232)) (v := .ref (ad 43)) rfl dX7_passOne_232 ?_
                    refine lv_iload_n hx hb dX7_passOne_235 rfl (lv_at hl 0 rfl) ?_
                    refine sy_ialdN hx hb hE hP 43 rfl (show vp_in (nI k0) 40 from vp_in_nI (by omega) (by decide)) k0 (nI_clamp (by omega)) (v := (lX7_passB g q k0) 43 k0) rfl dX7_passOne_236 ?_
                    refine lv_isub hx hb dX7_passOne_237 ?_
                    refine sy_putRX7 hx hb hts hown hE hP hS 0 rfl 44 (by decide) (hts _ (u_in uk_4_234)) rfl (ty := .int) (by decide +kernel) rfl rfl (sy_up (lX7_passB g q k0) 0 44 (((lX7_passB g q k0) 0 44) - ((lX7_passB g q k0) 43 k0))) q (by rw [sy_up_s (lX7_passB g q k0) 0 44 (((lX7_passB g q k0) 0 44) - ((lX7_passB g q k0) 43 k0))]; exact se_RX7_44 _ _ _ _ _ _ _) (fun _ h9 => sy_up_o _ _ _ h9) (fun _ _ => rfl) dX7_passOne_238 (fun H locs hP hS => ?_)
                    refine lv_aload_n hx hb dX7_passOne_241 rfl (lv_at hl 1 rfl) ?_
                    refine lv_dup hx hb dX7_passOne_242 rfl ?_
                    refine sy_getRX7 hx hb hts hown hE hP 0 rfl 45 (by decide) (hts _ (u_in uk_4_235)) (v := .int ((lX7_passB g q k0) 0 45)) rfl dX7_passOne_243 ?_
                    refine lv_aload_n hx hb dX7_passOne_246 rfl (lv_at hl 1 rfl) ?_
                    refine sy_getRX7 hx hb hts hown hE hP 0 rfl 42 (by decide) (hts _ (u_in uk_4_232)) (v := .ref (ad 43)) rfl dX7_passOne_247 ?_
                    refine lv_iload_n hx hb dX7_passOne_250 rfl (lv_at hl 0 rfl) ?_
                    refine sy_ialdN hx hb hE hP 43 rfl (show vp_in (nI k0) 40 from vp_in_nI (by omega) (by decide)) k0 (nI_clamp (by omega)) (v := (lX7_passB g q k0) 43 k0) rfl dX7_passOne_251 ?_
                    refine lv_isub hx hb dX7_passOne_252 ?_
                    refine sy_putRX7 hx hb hts hown hE hP hS 0 rfl 45 (by decide) (hts _ (u_in uk_4_235)) rfl (ty := .int) (by decide +kernel) rfl rfl (sy_up (sy_up (lX7_passB g q k0) 0 44 (((lX7_passB g q k0) 0 44) - ((lX7_passB g q k0) 43 k0))) 0 45 (((lX7_passB g q k0) 0 45) - ((lX7_passB g q k0) 43 k0))) q (by rw [sy_up_s (sy_up (lX7_passB g q k0) 0 44 (((lX7_passB g q k0) 0 44) - ((lX7_passB g q k0) 43 k0))) 0 45 (((lX7_passB g q k0) 0 45) - ((lX7_passB g q k0) 43 k0))]; exact se_RX7_45 _ _ _ _ _ _ _) (fun _ h9 => sy_up_o _ _ _ h9) (fun _ _ => rfl) dX7_passOne_253 (fun H locs hP hS => ?_)
                    refine lv_aload_n hx hb dX7_passOne_256 rfl (lv_at hl 1 rfl) ?_
                    refine lv_dup hx hb dX7_passOne_257 rfl ?_
                    refine sy_getRX7 hx hb hts hown hE hP 0 rfl 46 (by decide) (hts _ (u_in uk_4_236)) (v := .int ((lX7_passB g q k0) 0 46)) rfl dX7_passOne_258 ?_
                    refine lv_aload_n hx hb dX7_passOne_261 rfl (lv_at hl 1 rfl) ?_
                    refine sy_getRX7 hx hb hts hown hE hP 0 rfl 42 (by decide) (hts _ (u_in uk_4_232)) (v := .ref (ad 43)) rfl dX7_passOne_262 ?_
                    refine lv_iload_n hx hb dX7_passOne_265 rfl (lv_at hl 0 rfl) ?_
                    refine sy_ialdN hx hb hE hP 43 rfl (show vp_in (nI k0) 40 from vp_in_nI (by omega) (by decide)) k0 (nI_clamp (by omega)) (v := (lX7_passB g q k0) 43 k0) rfl dX7_passOne_266 ?_
                    refine lv_iadd hx hb dX7_passOne_267 ?_
                    refine sy_putRX7 hx hb hts hown hE hP hS 0 rfl 46 (by decide) (hts _ (u_in uk_4_236)) rfl (ty := .int) (by decide +kernel) rfl rfl (sy_up (sy_up (sy_up (lX7_passB g q k0) 0 44 (((lX7_passB g q k0) 0 44) - ((lX7_passB g q k0) 43 k0))) 0 45 (((lX7_passB g q k0) 0 45) - ((lX7_passB g q k0) 43 k0))) 0 46 (((lX7_passB g q k0) 0 46) + ((lX7_passB g q k0) 43 k0))) q (by rw [sy_up_s (sy_up (sy_up (lX7_passB g q k0) 0 44 (((lX7_passB g q k0) 0 44) - ((lX7_passB g q k0) 43 k0))) 0 45 (((lX7_passB g q k0) 0 45) - ((lX7_passB g q k0) 43 k0))) 0 46 (((lX7_passB g q k0) 0 46) + ((lX7_passB g q k0) 43 k0))]; exact se_RX7_46 _ _ _ _ _ _ _) (fun _ h9 => sy_up_o _ _ _ h9) (fun _ _ => rfl) dX7_passOne_268 (fun H locs hP hS => ?_)
                    refine lv_aload_n hx hb dX7_passOne_271 rfl (lv_at hl 1 rfl) ?_
                    refine sy_getRX7 hx hb hts hown hE hP 0 rfl 42 (by decide) (hts _ (u_in uk_4_232)) (v := .ref (ad 43)) rfl dX7_passOne_272 ?_
                    refine lv_iload_n hx hb dX7_passOne_275 rfl (lv_at hl 0 rfl) ?_
                    refine lv_iconst (v := 0) hx hb dX7_passOne_276 (by decide) ?_
                    refine sy_iastN hx hb hE hP hS 43 rfl (show vp_in (nI k0) 40 from vp_in_nI (by omega) (by decide)) k0 (nI_clamp (by omega)) dX7_passOne_277 (fun H locs hP hS => ?_)
                    refine lv_iinc (v := ((nI k0) + 1)) (lv' := [(1, .int ((nI k0) + 1)), (0, .ref (ad 0))]) hx hb dX7_passOne_278 hl (k := 0) rfl rfl (by decide) rfl (fun ls hl => ?_)
                    refine lv_goto (tgt := 147) hx hb dX7_passOne_281 (by decide) ?_
                    have hF : lX7_passB g q (k0 + 1) = (sy_up (sy_up (sy_up (sy_up (lX7_passB g q k0) 0 44 (((lX7_passB g q k0) 0 44) - ((lX7_passB g q k0) 43 k0))) 0 45 (((lX7_passB g q k0) 0 45) - ((lX7_passB g q k0) 43 k0))) 0 46 (((lX7_passB g q k0) 0 46) + ((lX7_passB g q k0) 43 k0))) 43 k0 0) := by rw [lX7_passB, if_pos c_3, if_neg c_4, if_pos c_5] <;> rfl
                    exact ih (k0 + 1) (by omega) (by omega) H locs ls (by rw [hF]; exact hP) hS (by rw [nI_succ]; exact lv_sub hl [0, 1] rfl)
              · skip
                refine lv_aload_n hx hb dX7_passOne_165 rfl (lv_at hl 1 rfl) ?_
                refine sy_getRX7 hx hb hts hown hE hP 0 rfl 40 (by decide) (hts _ (u_in uk_4_230)) (v := .ref (ad 41)) rfl dX7_passOne_166 ?_
                refine lv_iload_n hx hb dX7_passOne_169 rfl (lv_at hl 0 rfl) ?_
                refine sy_ialdN hx hb hE hP 41 rfl (show vp_in (nI k0) 40 from vp_in_nI (by omega) (by decide)) k0 (nI_clamp (by omega)) (v := (lX7_passB g q k0) 41 k0) rfl dX7_passOne_170 ?_
                refine lv_bipush (v := 28) hx hb dX7_passOne_171 (by decide) ?_
                refine lv_iadd hx hb dX7_passOne_173 ?_
                refine lv_aload_n hx hb dX7_passOne_174 rfl (lv_at hl 1 rfl) ?_
                refine sy_getRX7 hx hb hts hown hE hP 0 rfl 1 (by decide) (hts _ (u_in uk_4_191)) (v := .int ((lX7_passB g q k0) 0 1)) rfl dX7_passOne_175 ?_
                refine lv_icmp_ne (tgt := 200) hx hb dX7_passOne_178 (by decide) (fun c_6 => ?_) (fun c_6 => ?_)
                · skip
                  refine lv_aload_n hx hb dX7_passOne_200 rfl (lv_at hl 1 rfl) ?_
                  refine sy_getRX7 hx hb hts hown hE hP 0 rfl 42 (by decide) (hts _ (u_in uk_4_232)) (v := .ref (ad 43)) rfl dX7_passOne_201 ?_
                  refine lv_iload_n hx hb dX7_passOne_204 rfl (lv_at hl 0 rfl) ?_
                  refine sy_ialdN hx hb hE hP 43 rfl (show vp_in (nI k0) 40 from vp_in_nI (by omega) (by decide)) k0 (nI_clamp (by omega)) (v := (lX7_passB g q k0) 43 k0) rfl dX7_passOne_205 ?_
                  refine lv_if_le (tgt := 278) hx hb dX7_passOne_206 (by decide) (fun c_7 => ?_) (fun c_7 => ?_)
                  · skip
                    refine lv_iinc (v := ((nI k0) + 1)) (lv' := [(1, .int ((nI k0) + 1)), (0, .ref (ad 0))]) hx hb dX7_passOne_278 hl (k := 0) rfl rfl (by decide) rfl (fun ls hl => ?_)
                    refine lv_goto (tgt := 147) hx hb dX7_passOne_281 (by decide) ?_
                    have hF : lX7_passB g q (k0 + 1) = (lX7_passB g q k0) := by rw [lX7_passB, if_neg c_3, if_neg c_6, if_pos c_7] <;> rfl
                    exact ih (k0 + 1) (by omega) (by omega) H locs ls (by rw [hF]; exact hP) hS (by rw [nI_succ]; exact lv_sub hl [0, 1] rfl)
                  · skip
                    refine lv_aload_n hx hb dX7_passOne_209 rfl (lv_at hl 1 rfl) ?_
                    refine sy_getRX7 hx hb hts hown hE hP 0 rfl 43 (by decide) (hts _ (u_in uk_4_233)) (v := .ref (ad 44)) rfl dX7_passOne_210 ?_
                    refine lv_iload_n hx hb dX7_passOne_213 rfl (lv_at hl 0 rfl) ?_
                    refine sy_ialdN hx hb hE hP 44 rfl (show vp_in (nI k0) 40 from vp_in_nI (by omega) (by decide)) k0 (nI_clamp (by omega)) (v := (lX7_passB g q k0) 44 k0) rfl dX7_passOne_214 ?_
                    refine lv_sipush (v := 1001) hx hb dX7_passOne_215 (by decide) ?_
                    refine lv_iadd hx hb dX7_passOne_218 ?_
                    refine lv_aload_n hx hb dX7_passOne_219 rfl (lv_at hl 1 rfl) ?_
                    refine sy_getRX7 hx hb hts hown hE hP 0 rfl 1 (by decide) (hts _ (u_in uk_4_191)) (v := .int ((lX7_passB g q k0) 0 1)) rfl dX7_passOne_220 ?_
                    refine lv_icmp_ne (tgt := 278) hx hb dX7_passOne_223 (by decide) (fun c_8 => ?_) (fun c_8 => ?_)
                    · skip
                      refine lv_iinc (v := ((nI k0) + 1)) (lv' := [(1, .int ((nI k0) + 1)), (0, .ref (ad 0))]) hx hb dX7_passOne_278 hl (k := 0) rfl rfl (by decide) rfl (fun ls hl => ?_)
                      refine lv_goto (tgt := 147) hx hb dX7_passOne_281 (by decide) ?_
                      have hF : lX7_passB g q (k0 + 1) = (lX7_passB g q k0) := by rw [lX7_passB, if_neg c_3, if_neg c_6, if_neg c_7, if_neg c_8] <;> rfl
                      exact ih (k0 + 1) (by omega) (by omega) H locs ls (by rw [hF]; exact hP) hS (by rw [nI_succ]; exact lv_sub hl [0, 1] rfl)
                    · skip
                      refine lv_aload_n hx hb dX7_passOne_226 rfl (lv_at hl 1 rfl) ?_
                      refine lv_dup hx hb dX7_passOne_227 rfl ?_
                      refine sy_getRX7 hx hb hts hown hE hP 0 rfl 44 (by decide) (hts _ (u_in uk_4_234)) (v := .int ((lX7_passB g q k0) 0 44)) rfl dX7_passOne_228 ?_
                      refine lv_aload_n hx hb dX7_passOne_231 rfl (lv_at hl 1 rfl) ?_
                      refine sy_getRX7 hx hb hts hown hE hP 0 rfl 42 (by decide) (hts _ (u_in uk_4_232)) (v := .ref (ad 43)) rfl dX7_passOne_232 ?_
                      refine lv_iload_n hx hb dX7_passOne_235 rfl (lv_at hl 0 rfl) ?_
                      refine sy_ialdN hx hb hE hP 43 rfl (show vp_in (nI k0) 40 from vp_in_nI (by omega) (by decide)) k0 (nI_clamp (by omega)) (v := (lX7_passB g q k0) 43 k0) rfl dX7_passOne_236 ?_
                      refine lv_isub hx hb dX7_passOne_237 ?_
                      refine sy_putRX7 hx hb hts hown hE hP hS 0 rfl 44 (by decide) (hts _ (u_in uk_4_234)) rfl (ty := .int) (by decide +kernel) rfl rfl (sy_up (lX7_passB g q k0) 0 44 (((lX7_passB g q k0) 0 44) - ((lX7_passB g q k0) 43 k0))) q (by rw [sy_up_s (lX7_passB g q k0) 0 44 (((lX7_passB g q k0) 0 44) - ((lX7_passB g q k0) 43 k0))]; exact se_RX7_44 _ _ _ _ _ _ _) (fun _ h9 => sy_up_o _ _ _ h9) (fun _ _ => rfl) dX7_passOne_238 (fun H locs hP hS => ?_)
                      refine lv_aload_n hx hb dX7_passOne_241 rfl (lv_at hl 1 rfl) ?_
                      refine lv_dup hx hb dX7_passOne_242 rfl ?_
                      refine sy_getRX7 hx hb hts hown hE hP 0 rfl 45 (by decide) (hts _ (u_in uk_4_235)) (v := .int ((lX7_passB g q k0) 0 45)) rfl dX7_passOne_243 ?_
                      refine lv_aload_n hx hb dX7_passOne_246 rfl (lv_at hl 1 rfl) ?_
                      refine sy_getRX7 hx hb hts hown hE hP 0 rfl 42 (by decide) (hts _ (u_in uk_4_232)) (v := .ref (ad 43)) rfl dX7_passOne_247 ?_
                      refine lv_iload_n hx hb dX7_passOne_250 rfl (lv_at hl 0 rfl) ?_
                      refine sy_ialdN hx hb hE hP 43 rfl (show vp_in (nI k0) 40 from vp_in_nI (by omega) (by decide)) k0 (nI_clamp (by omega)) (v := (lX7_passB g q k0) 43 k0) rfl dX7_passOne_251 ?_
                      refine lv_isub hx hb dX7_passOne_252 ?_
                      refine sy_putRX7 hx hb hts hown hE hP hS 0 rfl 45 (by decide) (hts _ (u_in uk_4_235)) rfl (ty := .int) (by decide +kernel) rfl rfl (sy_up (sy_up (lX7_passB g q k0) 0 44 (((lX7_passB g q k0) 0 44) - ((lX7_passB g q k0) 43 k0))) 0 45 (((lX7_passB g q k0) 0 45) - ((lX7_passB g q k0) 43 k0))) q (by rw [sy_up_s (sy_up (lX7_passB g q k0) 0 44 (((lX7_passB g q k0) 0 44) - ((lX7_passB g q k0) 43 k0))) 0 45 (((lX7_passB g q k0) 0 45) - ((lX7_passB g q k0) 43 k0))]; exact se_RX7_45 _ _ _ _ _ _ _) (fun _ h9 => sy_up_o _ _ _ h9) (fun _ _ => rfl) dX7_passOne_253 (fun H locs hP hS => ?_)
                      refine lv_aload_n hx hb dX7_passOne_256 rfl (lv_at hl 1 rfl) ?_
                      refine lv_dup hx hb dX7_passOne_257 rfl ?_
                      refine sy_getRX7 hx hb hts hown hE hP 0 rfl 46 (by decide) (hts _ (u_in uk_4_236)) (v := .int ((lX7_passB g q k0) 0 46)) rfl dX7_passOne_258 ?_
                      refine lv_aload_n hx hb dX7_passOne_261 rfl (lv_at hl 1 rfl) ?_
                      refine sy_getRX7 hx hb hts hown hE hP 0 rfl 42 (by decide) (hts _ (u_in uk_4_232)) (v := .ref (ad 43)) rfl dX7_passOne_262 ?_
                      refine lv_iload_n hx hb dX7_passOne_265 rfl (lv_at hl 0 rfl) ?_
                      refine sy_ialdN hx hb hE hP 43 rfl (show vp_in (nI k0) 40 from vp_in_nI (by omega) (by decide)) k0 (nI_clamp (by omega)) (v := (lX7_passB g q k0) 43 k0) rfl dX7_passOne_266 ?_
                      refine lv_iadd hx hb dX7_passOne_267 ?_
                      refine sy_putRX7 hx hb hts hown hE hP hS 0 rfl 46 (by decide) (hts _ (u_in uk_4_236)) rfl (ty := .int) (by decide +kernel) rfl rfl (sy_up (sy_up (sy_up (lX7_passB g q k0) 0 44 (((lX7_passB g q k0) 0 44) - ((lX7_passB g q k0) 43 k0))) 0 45 (((lX7_passB g q k0) 0 45) - ((lX7_passB g q k0) 43 k0))) 0 46 (((lX7_passB g q k0) 0 46) + ((lX7_passB g q k0) 43 k0))) q (by rw [sy_up_s (sy_up (sy_up (lX7_passB g q k0) 0 44 (((lX7_passB g q k0) 0 44) - ((lX7_passB g q k0) 43 k0))) 0 45 (((lX7_passB g q k0) 0 45) - ((lX7_passB g q k0) 43 k0))) 0 46 (((lX7_passB g q k0) 0 46) + ((lX7_passB g q k0) 43 k0))]; exact se_RX7_46 _ _ _ _ _ _ _) (fun _ h9 => sy_up_o _ _ _ h9) (fun _ _ => rfl) dX7_passOne_268 (fun H locs hP hS => ?_)
                      exact K_1 hk0 c_2 c_3 c_6 c_7 c_8 _ _ _ hP hS hl
                · skip
                  refine lv_aload_n hx hb dX7_passOne_181 rfl (lv_at hl 1 rfl) ?_
                  refine sy_getRX7 hx hb hts hown hE hP 0 rfl 32 (by decide) (hts _ (u_in uk_4_222)) (v := .ref (ad 33)) rfl dX7_passOne_182 ?_
                  refine lv_iload_n hx hb dX7_passOne_185 rfl (lv_at hl 0 rfl) ?_
                  refine lv_aload_n hx hb dX7_passOne_186 rfl (lv_at hl 1 rfl) ?_
                  refine sy_getRX7 hx hb hts hown hE hP 0 rfl 41 (by decide) (hts _ (u_in uk_4_231)) (v := .ref (ad 42)) rfl dX7_passOne_187 ?_
                  refine lv_iload_n hx hb dX7_passOne_190 rfl (lv_at hl 0 rfl) ?_
                  refine sy_ialdN hx hb hE hP 42 rfl (show vp_in (nI k0) 40 from vp_in_nI (by omega) (by decide)) k0 (nI_clamp (by omega)) (v := (lX7_passB g q k0) 42 k0) rfl dX7_passOne_191 ?_
                  refine sy_iastN hx hb hE hP hS 33 rfl (show vp_in (nI k0) 40 from vp_in_nI (by omega) (by decide)) k0 (nI_clamp (by omega)) dX7_passOne_192 (fun H locs hP hS => ?_)
                  refine lv_aload_n hx hb dX7_passOne_193 rfl (lv_at hl 1 rfl) ?_
                  refine sy_getRX7 hx hb hts hown hE hP 0 rfl 40 (by decide) (hts _ (u_in uk_4_230)) (v := .ref (ad 41)) rfl dX7_passOne_194 ?_
                  refine lv_iload_n hx hb dX7_passOne_197 rfl (lv_at hl 0 rfl) ?_
                  refine lv_iconst (v := (-1)) hx hb dX7_passOne_198 (by decide) ?_
                  refine sy_iastN hx hb hE hP hS 41 rfl (show vp_in (nI k0) 40 from vp_in_nI (by omega) (by decide)) k0 (nI_clamp (by omega)) dX7_passOne_199 (fun H locs hP hS => ?_)
                  refine lv_aload_n hx hb dX7_passOne_200 rfl (lv_at hl 1 rfl) ?_
                  refine sy_getRX7 hx hb hts hown hE hP 0 rfl 42 (by decide) (hts _ (u_in uk_4_232)) (v := .ref (ad 43)) rfl dX7_passOne_201 ?_
                  refine lv_iload_n hx hb dX7_passOne_204 rfl (lv_at hl 0 rfl) ?_
                  refine sy_ialdN hx hb hE hP 43 rfl (show vp_in (nI k0) 40 from vp_in_nI (by omega) (by decide)) k0 (nI_clamp (by omega)) (v := (lX7_passB g q k0) 43 k0) rfl dX7_passOne_205 ?_
                  refine lv_if_le (tgt := 278) hx hb dX7_passOne_206 (by decide) (fun c_9 => ?_) (fun c_9 => ?_)
                  · skip
                    refine lv_iinc (v := ((nI k0) + 1)) (lv' := [(1, .int ((nI k0) + 1)), (0, .ref (ad 0))]) hx hb dX7_passOne_278 hl (k := 0) rfl rfl (by decide) rfl (fun ls hl => ?_)
                    refine lv_goto (tgt := 147) hx hb dX7_passOne_281 (by decide) ?_
                    have hF : lX7_passB g q (k0 + 1) = (sy_up (sy_up (lX7_passB g q k0) 33 k0 ((lX7_passB g q k0) 42 k0)) 41 k0 (-1)) := by rw [lX7_passB, if_neg c_3, if_pos c_6, if_pos c_9] <;> rfl
                    exact ih (k0 + 1) (by omega) (by omega) H locs ls (by rw [hF]; exact hP) hS (by rw [nI_succ]; exact lv_sub hl [0, 1] rfl)
                  · skip
                    refine lv_aload_n hx hb dX7_passOne_209 rfl (lv_at hl 1 rfl) ?_
                    refine sy_getRX7 hx hb hts hown hE hP 0 rfl 43 (by decide) (hts _ (u_in uk_4_233)) (v := .ref (ad 44)) rfl dX7_passOne_210 ?_
                    refine lv_iload_n hx hb dX7_passOne_213 rfl (lv_at hl 0 rfl) ?_
                    refine sy_ialdN hx hb hE hP 44 rfl (show vp_in (nI k0) 40 from vp_in_nI (by omega) (by decide)) k0 (nI_clamp (by omega)) (v := (lX7_passB g q k0) 44 k0) rfl dX7_passOne_214 ?_
                    refine lv_sipush (v := 1001) hx hb dX7_passOne_215 (by decide) ?_
                    refine lv_iadd hx hb dX7_passOne_218 ?_
                    refine lv_aload_n hx hb dX7_passOne_219 rfl (lv_at hl 1 rfl) ?_
                    refine sy_getRX7 hx hb hts hown hE hP 0 rfl 1 (by decide) (hts _ (u_in uk_4_191)) (v := .int ((lX7_passB g q k0) 0 1)) rfl dX7_passOne_220 ?_
                    refine lv_icmp_ne (tgt := 278) hx hb dX7_passOne_223 (by decide) (fun c_10 => ?_) (fun c_10 => ?_)
                    · skip
                      refine lv_iinc (v := ((nI k0) + 1)) (lv' := [(1, .int ((nI k0) + 1)), (0, .ref (ad 0))]) hx hb dX7_passOne_278 hl (k := 0) rfl rfl (by decide) rfl (fun ls hl => ?_)
                      refine lv_goto (tgt := 147) hx hb dX7_passOne_281 (by decide) ?_
                      have hF : lX7_passB g q (k0 + 1) = (sy_up (sy_up (lX7_passB g q k0) 33 k0 ((lX7_passB g q k0) 42 k0)) 41 k0 (-1)) := by rw [lX7_passB, if_neg c_3, if_pos c_6, if_neg c_9, if_neg c_10] <;> rfl
                      exact ih (k0 + 1) (by omega) (by omega) H locs ls (by rw [hF]; exact hP) hS (by rw [nI_succ]; exact lv_sub hl [0, 1] rfl)
                    · skip
                      refine lv_aload_n hx hb dX7_passOne_226 rfl (lv_at hl 1 rfl) ?_
                      refine lv_dup hx hb dX7_passOne_227 rfl ?_
                      refine sy_getRX7 hx hb hts hown hE hP 0 rfl 44 (by decide) (hts _ (u_in uk_4_234)) (v := .int ((lX7_passB g q k0) 0 44)) rfl dX7_passOne_228 ?_
                      refine lv_aload_n hx hb dX7_passOne_231 rfl (lv_at hl 1 rfl) ?_
                      refine sy_getRX7 hx hb hts hown hE hP 0 rfl 42 (by decide) (hts _ (u_in uk_4_232)) (v := .ref (ad 43)) rfl dX7_passOne_232 ?_
                      refine lv_iload_n hx hb dX7_passOne_235 rfl (lv_at hl 0 rfl) ?_
                      refine sy_ialdN hx hb hE hP 43 rfl (show vp_in (nI k0) 40 from vp_in_nI (by omega) (by decide)) k0 (nI_clamp (by omega)) (v := (lX7_passB g q k0) 43 k0) rfl dX7_passOne_236 ?_
                      refine lv_isub hx hb dX7_passOne_237 ?_
                      refine sy_putRX7 hx hb hts hown hE hP hS 0 rfl 44 (by decide) (hts _ (u_in uk_4_234)) rfl (ty := .int) (by decide +kernel) rfl rfl (sy_up (sy_up (sy_up (lX7_passB g q k0) 33 k0 ((lX7_passB g q k0) 42 k0)) 41 k0 (-1)) 0 44 (((lX7_passB g q k0) 0 44) - ((lX7_passB g q k0) 43 k0))) q (by rw [sy_up_s (sy_up (sy_up (lX7_passB g q k0) 33 k0 ((lX7_passB g q k0) 42 k0)) 41 k0 (-1)) 0 44 (((lX7_passB g q k0) 0 44) - ((lX7_passB g q k0) 43 k0))]; exact se_RX7_44 _ _ _ _ _ _ _) (fun _ h9 => sy_up_o _ _ _ h9) (fun _ _ => rfl) dX7_passOne_238 (fun H locs hP hS => ?_)
                      refine lv_aload_n hx hb dX7_passOne_241 rfl (lv_at hl 1 rfl) ?_
                      refine lv_dup hx hb dX7_passOne_242 rfl ?_
                      refine sy_getRX7 hx hb hts hown hE hP 0 rfl 45 (by decide) (hts _ (u_in uk_4_235)) (v := .int ((lX7_passB g q k0) 0 45)) rfl dX7_passOne_243 ?_
                      refine lv_aload_n hx hb dX7_passOne_246 rfl (lv_at hl 1 rfl) ?_
                      refine sy_getRX7 hx hb hts hown hE hP 0 rfl 42 (by decide) (hts _ (u_in uk_4_232)) (v := .ref (ad 43)) rfl dX7_passOne_247 ?_
                      exact K_2 hk0 c_2 c_3 c_6 c_9 c_10 _ _ _ hP hS hl
        exact hL_147 ((g 0 28).toNatClampNeg + 1) 0 (Nat.zero_le _) (by omega) _ _ _ hP hS (lv_sub hl [0, 1] rfl)
      · skip
        have hk0 : k0 < (g 0 2).toNatClampNeg := loop_in (N := (g 0 2).toNatClampNeg) ((lX7_passA_2 g q k0).trans (im_nT hI).1) (by omega) hi c_1
        refine lv_aload_n hx hb dX7_passOne_20 rfl (lv_at hl 1 rfl) ?_
        refine sy_getRX7 hx hb hts hown hE hP 0 rfl 10 (by decide) (hts _ (u_in uk_4_200)) (v := .ref (ad 11)) rfl dX7_passOne_21 ?_
        refine lv_iload_n hx hb dX7_passOne_24 rfl (lv_at hl 0 rfl) ?_
        refine sy_ialdN hx hb hE hP 11 rfl (show vp_in (nI k0) 40 from vp_in_nI (by omega) (by decide)) k0 (nI_clamp (by omega)) (v := (lX7_passA g q k0) 11 k0) rfl dX7_passOne_25 ?_
        refine lv_iconst (v := 4) hx hb dX7_passOne_26 (by decide) ?_
        refine lv_irem hx hb dX7_passOne_27 (by decide) ?_
        refine lv_if_ne (tgt := 35) hx hb dX7_passOne_28 (by decide) (fun c_11 => ?_) (fun c_11 => ?_)
        · skip
          refine lv_iconst (v := 0) hx hb dX7_passOne_35 (by decide) ?_
          refine lv_istore_n (lv' := [(2, .int 0), (1, .int (nI k0)), (0, .ref (ad 0))]) hx hb dX7_passOne_36 rfl hl (by decide) rfl (fun ls hl => ?_)
          refine lv_aload_n hx hb dX7_passOne_37 rfl (lv_at hl 2 rfl) ?_
          refine sy_getRX7 hx hb hts hown hE hP 0 rfl 3 (by decide) (hts _ (u_in uk_4_193)) (v := .ref (ad 4)) rfl dX7_passOne_38 ?_
          refine lv_iload_n hx hb dX7_passOne_41 rfl (lv_at hl 1 rfl) ?_
          refine sy_ialdN hx hb hE hP 4 rfl (show vp_in (nI k0) 40 from vp_in_nI (by omega) (by decide)) k0 (nI_clamp (by omega)) (v := (lX7_passA g q k0) 4 k0) rfl dX7_passOne_42 ?_
          refine lv_iconst (v := 1) hx hb dX7_passOne_43 (by decide) ?_
          refine lv_icmp_ne (tgt := 68) hx hb dX7_passOne_44 (by decide) (fun c_12 => ?_) (fun c_12 => ?_)
          · skip
            refine lv_aload_n hx hb dX7_passOne_68 rfl (lv_at hl 2 rfl) ?_
            refine sy_getRX7 hx hb hts hown hE hP 0 rfl 3 (by decide) (hts _ (u_in uk_4_193)) (v := .ref (ad 4)) rfl dX7_passOne_69 ?_
            refine lv_iload_n hx hb dX7_passOne_72 rfl (lv_at hl 1 rfl) ?_
            refine sy_ialdN hx hb hE hP 4 rfl (show vp_in (nI k0) 40 from vp_in_nI (by omega) (by decide)) k0 (nI_clamp (by omega)) (v := (lX7_passA g q k0) 4 k0) rfl dX7_passOne_73 ?_
            refine lv_iconst (v := 2) hx hb dX7_passOne_74 (by decide) ?_
            refine lv_icmp_ne (tgt := 99) hx hb dX7_passOne_75 (by decide) (fun c_13 => ?_) (fun c_13 => ?_)
            · skip
              refine lv_iconst (v := 0) hx hb dX7_passOne_99 (by decide) ?_
              refine lv_istore_n (lv' := [(3, .int 0), (2, .int 0), (1, .int (nI k0)), (0, .ref (ad 0))]) hx hb dX7_passOne_100 rfl hl (by decide) rfl (fun ls hl => ?_)
              refine lv_aload_n hx hb dX7_passOne_101 rfl (lv_at hl 3 rfl) ?_
              refine sy_getRX7 hx hb hts hown hE hP 0 rfl 6 (by decide) (hts _ (u_in uk_4_196)) (v := .ref (ad 7)) rfl dX7_passOne_102 ?_
              refine lv_iload_n hx hb dX7_passOne_105 rfl (lv_at hl 2 rfl) ?_
              refine lv_dup2_11 hx hb dX7_passOne_106 rfl rfl ?_
              refine sy_ialdN hx hb hE hP 7 rfl (show vp_in (nI k0) 40 from vp_in_nI (by omega) (by decide)) k0 (nI_clamp (by omega)) (v := (lX7_passA g q k0) 7 k0) rfl dX7_passOne_107 ?_
              refine lv_aload_n hx hb dX7_passOne_108 rfl (lv_at hl 3 rfl) ?_
              refine sy_getRX7 hx hb hts hown hE hP 0 rfl 7 (by decide) (hts _ (u_in uk_4_197)) (v := .ref (ad 8)) rfl dX7_passOne_109 ?_
              refine lv_iload_n hx hb dX7_passOne_112 rfl (lv_at hl 2 rfl) ?_
              refine sy_zaldN hx hb hE hP 8 rfl (show vp_in (nI k0) 40 from vp_in_nI (by omega) (by decide)) k0 (nI_clamp (by omega)) (v := (lX7_passA g q k0) 8 k0) rfl dX7_passOne_113 ?_
              refine lv_if_eq (tgt := 136) hx hb dX7_passOne_114 (by decide) (fun c_14 => ?_) (fun c_14 => ?_)
              · skip
                refine lv_iconst (v := 0) hx hb dX7_passOne_136 (by decide) ?_
                refine lv_iadd hx hb dX7_passOne_137 ?_
                refine sy_iastN hx hb hE hP hS 7 rfl (show vp_in (nI k0) 40 from vp_in_nI (by omega) (by decide)) k0 (nI_clamp (by omega)) dX7_passOne_138 (fun H locs hP hS => ?_)
                refine lv_iinc (v := ((nI k0) + 1)) (lv' := [(1, .int ((nI k0) + 1)), (3, .int 0), (2, .int 0), (0, .ref (ad 0))]) hx hb dX7_passOne_139 hl (k := 2) rfl rfl (by decide) rfl (fun ls hl => ?_)
                refine lv_goto (tgt := 12) hx hb dX7_passOne_142 (by decide) ?_
                have hF : lX7_passA g q (k0 + 1) = (sy_up (lX7_passA g q k0) 7 k0 (((lX7_passA g q k0) 7 k0) + 0)) := by rw [lX7_passA, if_neg c_11, if_neg c_12, if_neg c_13, if_pos c_14] <;> rfl
                exact ih (k0 + 1) (by omega) (by omega) H locs ls (by rw [hF]; exact hP) hS (by rw [nI_succ]; exact lv_sub hl [0, 3] rfl)
              · skip
                refine lv_iload_n hx hb dX7_passOne_117 rfl (lv_at hl 0 rfl) ?_
                refine lv_if_eq (tgt := 136) hx hb dX7_passOne_118 (by decide) (fun _ => ?_) (fun c9 => absurd c9 (by decide))
                refine lv_iconst (v := 0) hx hb dX7_passOne_136 (by decide) ?_
                refine lv_iadd hx hb dX7_passOne_137 ?_
                refine sy_iastN hx hb hE hP hS 7 rfl (show vp_in (nI k0) 40 from vp_in_nI (by omega) (by decide)) k0 (nI_clamp (by omega)) dX7_passOne_138 (fun H locs hP hS => ?_)
                refine lv_iinc (v := ((nI k0) + 1)) (lv' := [(1, .int ((nI k0) + 1)), (3, .int 0), (2, .int 0), (0, .ref (ad 0))]) hx hb dX7_passOne_139 hl (k := 2) rfl rfl (by decide) rfl (fun ls hl => ?_)
                refine lv_goto (tgt := 12) hx hb dX7_passOne_142 (by decide) ?_
                have hF : lX7_passA g q (k0 + 1) = (sy_up (lX7_passA g q k0) 7 k0 (((lX7_passA g q k0) 7 k0) + 0)) := by rw [lX7_passA, if_neg c_11, if_neg c_12, if_neg c_13, if_neg c_14] <;> rfl
                exact ih (k0 + 1) (by omega) (by omega) H locs ls (by rw [hF]; exact hP) hS (by rw [nI_succ]; exact lv_sub hl [0, 3] rfl)
            · skip
              refine lv_aload_n hx hb dX7_passOne_78 rfl (lv_at hl 2 rfl) ?_
              refine sy_getRX7 hx hb hts hown hE hP 0 rfl 1 (by decide) (hts _ (u_in uk_4_191)) (v := .int ((lX7_passA g q k0) 0 1)) rfl dX7_passOne_79 ?_
              refine lv_aload_n hx hb dX7_passOne_82 rfl (lv_at hl 2 rfl) ?_
              refine sy_getRX7 hx hb hts hown hE hP 0 rfl 12 (by decide) (hts _ (u_in uk_4_202)) (v := .ref (ad 13)) rfl dX7_passOne_83 ?_
              refine lv_iload_n hx hb dX7_passOne_86 rfl (lv_at hl 1 rfl) ?_
              refine sy_ialdN hx hb hE hP 13 rfl (show vp_in (nI k0) 40 from vp_in_nI (by omega) (by decide)) k0 (nI_clamp (by omega)) (v := (lX7_passA g q k0) 13 k0) rfl dX7_passOne_87 ?_
              refine lv_isub hx hb dX7_passOne_88 ?_
              refine lv_bipush (v := 90) hx hb dX7_passOne_89 (by decide) ?_
              refine lv_irem hx hb dX7_passOne_91 (by decide) ?_
              refine lv_if_ne (tgt := 99) hx hb dX7_passOne_92 (by decide) (fun c_15 => ?_) (fun c_15 => ?_)
              · skip
                refine lv_iconst (v := 0) hx hb dX7_passOne_99 (by decide) ?_
                refine lv_istore_n (lv' := [(3, .int 0), (2, .int 0), (1, .int (nI k0)), (0, .ref (ad 0))]) hx hb dX7_passOne_100 rfl hl (by decide) rfl (fun ls hl => ?_)
                refine lv_aload_n hx hb dX7_passOne_101 rfl (lv_at hl 3 rfl) ?_
                refine sy_getRX7 hx hb hts hown hE hP 0 rfl 6 (by decide) (hts _ (u_in uk_4_196)) (v := .ref (ad 7)) rfl dX7_passOne_102 ?_
                refine lv_iload_n hx hb dX7_passOne_105 rfl (lv_at hl 2 rfl) ?_
                refine lv_dup2_11 hx hb dX7_passOne_106 rfl rfl ?_
                refine sy_ialdN hx hb hE hP 7 rfl (show vp_in (nI k0) 40 from vp_in_nI (by omega) (by decide)) k0 (nI_clamp (by omega)) (v := (lX7_passA g q k0) 7 k0) rfl dX7_passOne_107 ?_
                refine lv_aload_n hx hb dX7_passOne_108 rfl (lv_at hl 3 rfl) ?_
                refine sy_getRX7 hx hb hts hown hE hP 0 rfl 7 (by decide) (hts _ (u_in uk_4_197)) (v := .ref (ad 8)) rfl dX7_passOne_109 ?_
                refine lv_iload_n hx hb dX7_passOne_112 rfl (lv_at hl 2 rfl) ?_
                refine sy_zaldN hx hb hE hP 8 rfl (show vp_in (nI k0) 40 from vp_in_nI (by omega) (by decide)) k0 (nI_clamp (by omega)) (v := (lX7_passA g q k0) 8 k0) rfl dX7_passOne_113 ?_
                refine lv_if_eq (tgt := 136) hx hb dX7_passOne_114 (by decide) (fun c_16 => ?_) (fun c_16 => ?_)
                · skip
                  refine lv_iconst (v := 0) hx hb dX7_passOne_136 (by decide) ?_
                  refine lv_iadd hx hb dX7_passOne_137 ?_
                  refine sy_iastN hx hb hE hP hS 7 rfl (show vp_in (nI k0) 40 from vp_in_nI (by omega) (by decide)) k0 (nI_clamp (by omega)) dX7_passOne_138 (fun H locs hP hS => ?_)
                  refine lv_iinc (v := ((nI k0) + 1)) (lv' := [(1, .int ((nI k0) + 1)), (3, .int 0), (2, .int 0), (0, .ref (ad 0))]) hx hb dX7_passOne_139 hl (k := 2) rfl rfl (by decide) rfl (fun ls hl => ?_)
                  refine lv_goto (tgt := 12) hx hb dX7_passOne_142 (by decide) ?_
                  have hF : lX7_passA g q (k0 + 1) = (sy_up (lX7_passA g q k0) 7 k0 (((lX7_passA g q k0) 7 k0) + 0)) := by rw [lX7_passA, if_neg c_11, if_neg c_12, if_pos c_13, if_neg c_15, if_pos c_16] <;> rfl
                  exact ih (k0 + 1) (by omega) (by omega) H locs ls (by rw [hF]; exact hP) hS (by rw [nI_succ]; exact lv_sub hl [0, 3] rfl)
                · skip
                  refine lv_iload_n hx hb dX7_passOne_117 rfl (lv_at hl 0 rfl) ?_
                  refine lv_if_eq (tgt := 136) hx hb dX7_passOne_118 (by decide) (fun _ => ?_) (fun c9 => absurd c9 (by decide))
                  refine lv_iconst (v := 0) hx hb dX7_passOne_136 (by decide) ?_
                  refine lv_iadd hx hb dX7_passOne_137 ?_
                  refine sy_iastN hx hb hE hP hS 7 rfl (show vp_in (nI k0) 40 from vp_in_nI (by omega) (by decide)) k0 (nI_clamp (by omega)) dX7_passOne_138 (fun H locs hP hS => ?_)
                  refine lv_iinc (v := ((nI k0) + 1)) (lv' := [(1, .int ((nI k0) + 1)), (3, .int 0), (2, .int 0), (0, .ref (ad 0))]) hx hb dX7_passOne_139 hl (k := 2) rfl rfl (by decide) rfl (fun ls hl => ?_)
                  refine lv_goto (tgt := 12) hx hb dX7_passOne_142 (by decide) ?_
                  have hF : lX7_passA g q (k0 + 1) = (sy_up (lX7_passA g q k0) 7 k0 (((lX7_passA g q k0) 7 k0) + 0)) := by rw [lX7_passA, if_neg c_11, if_neg c_12, if_pos c_13, if_neg c_15, if_neg c_16] <;> rfl
                  exact ih (k0 + 1) (by omega) (by omega) H locs ls (by rw [hF]; exact hP) hS (by rw [nI_succ]; exact lv_sub hl [0, 3] rfl)
              · skip
                refine lv_iconst (v := 1) hx hb dX7_passOne_95 (by decide) ?_
                refine lv_goto (tgt := 100) hx hb dX7_passOne_96 (by decide) ?_
                refine lv_istore_n (lv' := [(3, .int 1), (2, .int 0), (1, .int (nI k0)), (0, .ref (ad 0))]) hx hb dX7_passOne_100 rfl hl (by decide) rfl (fun ls hl => ?_)
                refine lv_aload_n hx hb dX7_passOne_101 rfl (lv_at hl 3 rfl) ?_
                refine sy_getRX7 hx hb hts hown hE hP 0 rfl 6 (by decide) (hts _ (u_in uk_4_196)) (v := .ref (ad 7)) rfl dX7_passOne_102 ?_
                refine lv_iload_n hx hb dX7_passOne_105 rfl (lv_at hl 2 rfl) ?_
                refine lv_dup2_11 hx hb dX7_passOne_106 rfl rfl ?_
                refine sy_ialdN hx hb hE hP 7 rfl (show vp_in (nI k0) 40 from vp_in_nI (by omega) (by decide)) k0 (nI_clamp (by omega)) (v := (lX7_passA g q k0) 7 k0) rfl dX7_passOne_107 ?_
                refine lv_aload_n hx hb dX7_passOne_108 rfl (lv_at hl 3 rfl) ?_
                refine sy_getRX7 hx hb hts hown hE hP 0 rfl 7 (by decide) (hts _ (u_in uk_4_197)) (v := .ref (ad 8)) rfl dX7_passOne_109 ?_
                refine lv_iload_n hx hb dX7_passOne_112 rfl (lv_at hl 2 rfl) ?_
                refine sy_zaldN hx hb hE hP 8 rfl (show vp_in (nI k0) 40 from vp_in_nI (by omega) (by decide)) k0 (nI_clamp (by omega)) (v := (lX7_passA g q k0) 8 k0) rfl dX7_passOne_113 ?_
                refine lv_if_eq (tgt := 136) hx hb dX7_passOne_114 (by decide) (fun c_17 => ?_) (fun c_17 => ?_)
                · skip
                  refine lv_iconst (v := 0) hx hb dX7_passOne_136 (by decide) ?_
                  refine lv_iadd hx hb dX7_passOne_137 ?_
                  refine sy_iastN hx hb hE hP hS 7 rfl (show vp_in (nI k0) 40 from vp_in_nI (by omega) (by decide)) k0 (nI_clamp (by omega)) dX7_passOne_138 (fun H locs hP hS => ?_)
                  refine lv_iinc (v := ((nI k0) + 1)) (lv' := [(1, .int ((nI k0) + 1)), (3, .int 1), (2, .int 0), (0, .ref (ad 0))]) hx hb dX7_passOne_139 hl (k := 2) rfl rfl (by decide) rfl (fun ls hl => ?_)
                  refine lv_goto (tgt := 12) hx hb dX7_passOne_142 (by decide) ?_
                  have hF : lX7_passA g q (k0 + 1) = (sy_up (lX7_passA g q k0) 7 k0 (((lX7_passA g q k0) 7 k0) + 0)) := by rw [lX7_passA, if_neg c_11, if_neg c_12, if_pos c_13, if_pos c_15, if_pos c_17] <;> rfl
                  exact ih (k0 + 1) (by omega) (by omega) H locs ls (by rw [hF]; exact hP) hS (by rw [nI_succ]; exact lv_sub hl [0, 3] rfl)
                · skip
                  refine lv_iload_n hx hb dX7_passOne_117 rfl (lv_at hl 0 rfl) ?_
                  refine lv_if_eq (tgt := 136) hx hb dX7_passOne_118 (by decide) (fun c9 => absurd c9 (by decide)) (fun _ => ?_)
                  refine lv_aload_n hx hb dX7_passOne_121 rfl (lv_at hl 3 rfl) ?_
                  refine sy_getRX7 hx hb hts hown hE hP 0 rfl 6 (by decide) (hts _ (u_in uk_4_196)) (v := .ref (ad 7)) rfl dX7_passOne_122 ?_
                  refine lv_iload_n hx hb dX7_passOne_125 rfl (lv_at hl 2 rfl) ?_
                  refine sy_ialdN hx hb hE hP 7 rfl (show vp_in (nI k0) 40 from vp_in_nI (by omega) (by decide)) k0 (nI_clamp (by omega)) (v := (lX7_passA g q k0) 7 k0) rfl dX7_passOne_126 ?_
                  refine lv_bipush (v := 10) hx hb dX7_passOne_127 (by decide) ?_
                  refine lv_icmp_ge (tgt := 136) hx hb dX7_passOne_129 (by decide) (fun c_18 => ?_) (fun c_18 => ?_)
                  · skip
                    refine lv_iconst (v := 0) hx hb dX7_passOne_136 (by decide) ?_
                    refine lv_iadd hx hb dX7_passOne_137 ?_
                    refine sy_iastN hx hb hE hP hS 7 rfl (show vp_in (nI k0) 40 from vp_in_nI (by omega) (by decide)) k0 (nI_clamp (by omega)) dX7_passOne_138 (fun H locs hP hS => ?_)
                    refine lv_iinc (v := ((nI k0) + 1)) (lv' := [(1, .int ((nI k0) + 1)), (3, .int 1), (2, .int 0), (0, .ref (ad 0))]) hx hb dX7_passOne_139 hl (k := 2) rfl rfl (by decide) rfl (fun ls hl => ?_)
                    exact K_3 hk0 c_1 c_11 c_12 c_13 c_15 c_17 c_18 _ _ _ hP hS hl
                  · skip
                    refine lv_iconst (v := 1) hx hb dX7_passOne_132 (by decide) ?_
                    refine lv_goto (tgt := 137) hx hb dX7_passOne_133 (by decide) ?_
                    refine lv_iadd hx hb dX7_passOne_137 ?_
                    refine sy_iastN hx hb hE hP hS 7 rfl (show vp_in (nI k0) 40 from vp_in_nI (by omega) (by decide)) k0 (nI_clamp (by omega)) dX7_passOne_138 (fun H locs hP hS => ?_)
                    exact K_4 hk0 c_1 c_11 c_12 c_13 c_15 c_17 c_18 _ _ _ hP hS hl
          · skip
            refine lv_iload_n hx hb dX7_passOne_47 rfl (lv_at hl 0 rfl) ?_
            refine lv_if_ne (tgt := 68) hx hb dX7_passOne_48 (by decide) (fun c9 => absurd c9 (by decide)) (fun _ => ?_)
            refine lv_aload_n hx hb dX7_passOne_51 rfl (lv_at hl 2 rfl) ?_
            refine sy_getRX7 hx hb hts hown hE hP 0 rfl 1 (by decide) (hts _ (u_in uk_4_191)) (v := .int ((lX7_passA g q k0) 0 1)) rfl dX7_passOne_52 ?_
            refine lv_aload_n hx hb dX7_passOne_55 rfl (lv_at hl 2 rfl) ?_
            refine sy_getRX7 hx hb hts hown hE hP 0 rfl 11 (by decide) (hts _ (u_in uk_4_201)) (v := .ref (ad 12)) rfl dX7_passOne_56 ?_
            refine lv_iload_n hx hb dX7_passOne_59 rfl (lv_at hl 1 rfl) ?_
            refine sy_ialdN hx hb hE hP 12 rfl (show vp_in (nI k0) 40 from vp_in_nI (by omega) (by decide)) k0 (nI_clamp (by omega)) (v := (lX7_passA g q k0) 12 k0) rfl dX7_passOne_60 ?_
            refine lv_isub hx hb dX7_passOne_61 ?_
            refine lv_bipush (v := 60) hx hb dX7_passOne_62 (by decide) ?_
            refine lv_irem hx hb dX7_passOne_64 (by decide) ?_
            refine lv_if_eq (tgt := 95) hx hb dX7_passOne_65 (by decide) (fun c_19 => ?_) (fun c_19 => ?_)
            · skip
              refine lv_iconst (v := 1) hx hb dX7_passOne_95 (by decide) ?_
              refine lv_goto (tgt := 100) hx hb dX7_passOne_96 (by decide) ?_
              refine lv_istore_n (lv' := [(3, .int 1), (2, .int 0), (1, .int (nI k0)), (0, .ref (ad 0))]) hx hb dX7_passOne_100 rfl hl (by decide) rfl (fun ls hl => ?_)
              refine lv_aload_n hx hb dX7_passOne_101 rfl (lv_at hl 3 rfl) ?_
              refine sy_getRX7 hx hb hts hown hE hP 0 rfl 6 (by decide) (hts _ (u_in uk_4_196)) (v := .ref (ad 7)) rfl dX7_passOne_102 ?_
              refine lv_iload_n hx hb dX7_passOne_105 rfl (lv_at hl 2 rfl) ?_
              refine lv_dup2_11 hx hb dX7_passOne_106 rfl rfl ?_
              refine sy_ialdN hx hb hE hP 7 rfl (show vp_in (nI k0) 40 from vp_in_nI (by omega) (by decide)) k0 (nI_clamp (by omega)) (v := (lX7_passA g q k0) 7 k0) rfl dX7_passOne_107 ?_
              refine lv_aload_n hx hb dX7_passOne_108 rfl (lv_at hl 3 rfl) ?_
              refine sy_getRX7 hx hb hts hown hE hP 0 rfl 7 (by decide) (hts _ (u_in uk_4_197)) (v := .ref (ad 8)) rfl dX7_passOne_109 ?_
              refine lv_iload_n hx hb dX7_passOne_112 rfl (lv_at hl 2 rfl) ?_
              refine sy_zaldN hx hb hE hP 8 rfl (show vp_in (nI k0) 40 from vp_in_nI (by omega) (by decide)) k0 (nI_clamp (by omega)) (v := (lX7_passA g q k0) 8 k0) rfl dX7_passOne_113 ?_
              refine lv_if_eq (tgt := 136) hx hb dX7_passOne_114 (by decide) (fun c_20 => ?_) (fun c_20 => ?_)
              · skip
                refine lv_iconst (v := 0) hx hb dX7_passOne_136 (by decide) ?_
                refine lv_iadd hx hb dX7_passOne_137 ?_
                refine sy_iastN hx hb hE hP hS 7 rfl (show vp_in (nI k0) 40 from vp_in_nI (by omega) (by decide)) k0 (nI_clamp (by omega)) dX7_passOne_138 (fun H locs hP hS => ?_)
                refine lv_iinc (v := ((nI k0) + 1)) (lv' := [(1, .int ((nI k0) + 1)), (3, .int 1), (2, .int 0), (0, .ref (ad 0))]) hx hb dX7_passOne_139 hl (k := 2) rfl rfl (by decide) rfl (fun ls hl => ?_)
                refine lv_goto (tgt := 12) hx hb dX7_passOne_142 (by decide) ?_
                have hF : lX7_passA g q (k0 + 1) = (sy_up (lX7_passA g q k0) 7 k0 (((lX7_passA g q k0) 7 k0) + 0)) := by rw [lX7_passA, if_neg c_11, if_pos c_12, if_pos c_19, if_pos c_20] <;> rfl
                exact ih (k0 + 1) (by omega) (by omega) H locs ls (by rw [hF]; exact hP) hS (by rw [nI_succ]; exact lv_sub hl [0, 3] rfl)
              · skip
                refine lv_iload_n hx hb dX7_passOne_117 rfl (lv_at hl 0 rfl) ?_
                refine lv_if_eq (tgt := 136) hx hb dX7_passOne_118 (by decide) (fun c9 => absurd c9 (by decide)) (fun _ => ?_)
                refine lv_aload_n hx hb dX7_passOne_121 rfl (lv_at hl 3 rfl) ?_
                refine sy_getRX7 hx hb hts hown hE hP 0 rfl 6 (by decide) (hts _ (u_in uk_4_196)) (v := .ref (ad 7)) rfl dX7_passOne_122 ?_
                refine lv_iload_n hx hb dX7_passOne_125 rfl (lv_at hl 2 rfl) ?_
                refine sy_ialdN hx hb hE hP 7 rfl (show vp_in (nI k0) 40 from vp_in_nI (by omega) (by decide)) k0 (nI_clamp (by omega)) (v := (lX7_passA g q k0) 7 k0) rfl dX7_passOne_126 ?_
                refine lv_bipush (v := 10) hx hb dX7_passOne_127 (by decide) ?_
                refine lv_icmp_ge (tgt := 136) hx hb dX7_passOne_129 (by decide) (fun c_21 => ?_) (fun c_21 => ?_)
                · skip
                  refine lv_iconst (v := 0) hx hb dX7_passOne_136 (by decide) ?_
                  refine lv_iadd hx hb dX7_passOne_137 ?_
                  refine sy_iastN hx hb hE hP hS 7 rfl (show vp_in (nI k0) 40 from vp_in_nI (by omega) (by decide)) k0 (nI_clamp (by omega)) dX7_passOne_138 (fun H locs hP hS => ?_)
                  refine lv_iinc (v := ((nI k0) + 1)) (lv' := [(1, .int ((nI k0) + 1)), (3, .int 1), (2, .int 0), (0, .ref (ad 0))]) hx hb dX7_passOne_139 hl (k := 2) rfl rfl (by decide) rfl (fun ls hl => ?_)
                  refine lv_goto (tgt := 12) hx hb dX7_passOne_142 (by decide) ?_
                  have hF : lX7_passA g q (k0 + 1) = (sy_up (lX7_passA g q k0) 7 k0 (((lX7_passA g q k0) 7 k0) + 0)) := by rw [lX7_passA, if_neg c_11, if_pos c_12, if_pos c_19, if_neg c_20, if_pos c_21] <;> rfl
                  exact ih (k0 + 1) (by omega) (by omega) H locs ls (by rw [hF]; exact hP) hS (by rw [nI_succ]; exact lv_sub hl [0, 3] rfl)
                · skip
                  refine lv_iconst (v := 1) hx hb dX7_passOne_132 (by decide) ?_
                  refine lv_goto (tgt := 137) hx hb dX7_passOne_133 (by decide) ?_
                  refine lv_iadd hx hb dX7_passOne_137 ?_
                  refine sy_iastN hx hb hE hP hS 7 rfl (show vp_in (nI k0) 40 from vp_in_nI (by omega) (by decide)) k0 (nI_clamp (by omega)) dX7_passOne_138 (fun H locs hP hS => ?_)
                  refine lv_iinc (v := ((nI k0) + 1)) (lv' := [(1, .int ((nI k0) + 1)), (3, .int 1), (2, .int 0), (0, .ref (ad 0))]) hx hb dX7_passOne_139 hl (k := 2) rfl rfl (by decide) rfl (fun ls hl => ?_)
                  refine lv_goto (tgt := 12) hx hb dX7_passOne_142 (by decide) ?_
                  have hF : lX7_passA g q (k0 + 1) = (sy_up (lX7_passA g q k0) 7 k0 (((lX7_passA g q k0) 7 k0) + 1)) := by rw [lX7_passA, if_neg c_11, if_pos c_12, if_pos c_19, if_neg c_20, if_neg c_21] <;> rfl
                  exact ih (k0 + 1) (by omega) (by omega) H locs ls (by rw [hF]; exact hP) hS (by rw [nI_succ]; exact lv_sub hl [0, 3] rfl)
            · skip
              refine lv_aload_n hx hb dX7_passOne_68 rfl (lv_at hl 2 rfl) ?_
              refine sy_getRX7 hx hb hts hown hE hP 0 rfl 3 (by decide) (hts _ (u_in uk_4_193)) (v := .ref (ad 4)) rfl dX7_passOne_69 ?_
              refine lv_iload_n hx hb dX7_passOne_72 rfl (lv_at hl 1 rfl) ?_
              refine sy_ialdN hx hb hE hP 4 rfl (show vp_in (nI k0) 40 from vp_in_nI (by omega) (by decide)) k0 (nI_clamp (by omega)) (v := (lX7_passA g q k0) 4 k0) rfl dX7_passOne_73 ?_
              refine lv_iconst (v := 2) hx hb dX7_passOne_74 (by decide) ?_
              refine lv_icmp_ne (tgt := 99) hx hb dX7_passOne_75 (by decide) (fun c_22 => ?_) (fun c_22 => ?_)
              · skip
                refine lv_iconst (v := 0) hx hb dX7_passOne_99 (by decide) ?_
                refine lv_istore_n (lv' := [(3, .int 0), (2, .int 0), (1, .int (nI k0)), (0, .ref (ad 0))]) hx hb dX7_passOne_100 rfl hl (by decide) rfl (fun ls hl => ?_)
                refine lv_aload_n hx hb dX7_passOne_101 rfl (lv_at hl 3 rfl) ?_
                refine sy_getRX7 hx hb hts hown hE hP 0 rfl 6 (by decide) (hts _ (u_in uk_4_196)) (v := .ref (ad 7)) rfl dX7_passOne_102 ?_
                refine lv_iload_n hx hb dX7_passOne_105 rfl (lv_at hl 2 rfl) ?_
                refine lv_dup2_11 hx hb dX7_passOne_106 rfl rfl ?_
                refine sy_ialdN hx hb hE hP 7 rfl (show vp_in (nI k0) 40 from vp_in_nI (by omega) (by decide)) k0 (nI_clamp (by omega)) (v := (lX7_passA g q k0) 7 k0) rfl dX7_passOne_107 ?_
                refine lv_aload_n hx hb dX7_passOne_108 rfl (lv_at hl 3 rfl) ?_
                refine sy_getRX7 hx hb hts hown hE hP 0 rfl 7 (by decide) (hts _ (u_in uk_4_197)) (v := .ref (ad 8)) rfl dX7_passOne_109 ?_
                refine lv_iload_n hx hb dX7_passOne_112 rfl (lv_at hl 2 rfl) ?_
                refine sy_zaldN hx hb hE hP 8 rfl (show vp_in (nI k0) 40 from vp_in_nI (by omega) (by decide)) k0 (nI_clamp (by omega)) (v := (lX7_passA g q k0) 8 k0) rfl dX7_passOne_113 ?_
                refine lv_if_eq (tgt := 136) hx hb dX7_passOne_114 (by decide) (fun c_23 => ?_) (fun c_23 => ?_)
                · skip
                  refine lv_iconst (v := 0) hx hb dX7_passOne_136 (by decide) ?_
                  refine lv_iadd hx hb dX7_passOne_137 ?_
                  refine sy_iastN hx hb hE hP hS 7 rfl (show vp_in (nI k0) 40 from vp_in_nI (by omega) (by decide)) k0 (nI_clamp (by omega)) dX7_passOne_138 (fun H locs hP hS => ?_)
                  refine lv_iinc (v := ((nI k0) + 1)) (lv' := [(1, .int ((nI k0) + 1)), (3, .int 0), (2, .int 0), (0, .ref (ad 0))]) hx hb dX7_passOne_139 hl (k := 2) rfl rfl (by decide) rfl (fun ls hl => ?_)
                  refine lv_goto (tgt := 12) hx hb dX7_passOne_142 (by decide) ?_
                  have hF : lX7_passA g q (k0 + 1) = (sy_up (lX7_passA g q k0) 7 k0 (((lX7_passA g q k0) 7 k0) + 0)) := by rw [lX7_passA, if_neg c_11, if_pos c_12, if_neg c_19, if_neg c_22, if_pos c_23] <;> rfl
                  exact ih (k0 + 1) (by omega) (by omega) H locs ls (by rw [hF]; exact hP) hS (by rw [nI_succ]; exact lv_sub hl [0, 3] rfl)
                · skip
                  refine lv_iload_n hx hb dX7_passOne_117 rfl (lv_at hl 0 rfl) ?_
                  refine lv_if_eq (tgt := 136) hx hb dX7_passOne_118 (by decide) (fun _ => ?_) (fun c9 => absurd c9 (by decide))
                  refine lv_iconst (v := 0) hx hb dX7_passOne_136 (by decide) ?_
                  refine lv_iadd hx hb dX7_passOne_137 ?_
                  refine sy_iastN hx hb hE hP hS 7 rfl (show vp_in (nI k0) 40 from vp_in_nI (by omega) (by decide)) k0 (nI_clamp (by omega)) dX7_passOne_138 (fun H locs hP hS => ?_)
                  refine lv_iinc (v := ((nI k0) + 1)) (lv' := [(1, .int ((nI k0) + 1)), (3, .int 0), (2, .int 0), (0, .ref (ad 0))]) hx hb dX7_passOne_139 hl (k := 2) rfl rfl (by decide) rfl (fun ls hl => ?_)
                  refine lv_goto (tgt := 12) hx hb dX7_passOne_142 (by decide) ?_
                  have hF : lX7_passA g q (k0 + 1) = (sy_up (lX7_passA g q k0) 7 k0 (((lX7_passA g q k0) 7 k0) + 0)) := by rw [lX7_passA, if_neg c_11, if_pos c_12, if_neg c_19, if_neg c_22, if_neg c_23] <;> rfl
                  exact ih (k0 + 1) (by omega) (by omega) H locs ls (by rw [hF]; exact hP) hS (by rw [nI_succ]; exact lv_sub hl [0, 3] rfl)
              · skip
                refine lv_aload_n hx hb dX7_passOne_78 rfl (lv_at hl 2 rfl) ?_
                refine sy_getRX7 hx hb hts hown hE hP 0 rfl 1 (by decide) (hts _ (u_in uk_4_191)) (v := .int ((lX7_passA g q k0) 0 1)) rfl dX7_passOne_79 ?_
                refine lv_aload_n hx hb dX7_passOne_82 rfl (lv_at hl 2 rfl) ?_
                refine sy_getRX7 hx hb hts hown hE hP 0 rfl 12 (by decide) (hts _ (u_in uk_4_202)) (v := .ref (ad 13)) rfl dX7_passOne_83 ?_
                refine lv_iload_n hx hb dX7_passOne_86 rfl (lv_at hl 1 rfl) ?_
                refine sy_ialdN hx hb hE hP 13 rfl (show vp_in (nI k0) 40 from vp_in_nI (by omega) (by decide)) k0 (nI_clamp (by omega)) (v := (lX7_passA g q k0) 13 k0) rfl dX7_passOne_87 ?_
                refine lv_isub hx hb dX7_passOne_88 ?_
                refine lv_bipush (v := 90) hx hb dX7_passOne_89 (by decide) ?_
                refine lv_irem hx hb dX7_passOne_91 (by decide) ?_
                refine lv_if_ne (tgt := 99) hx hb dX7_passOne_92 (by decide) (fun c_24 => ?_) (fun c_24 => ?_)
                · skip
                  refine lv_iconst (v := 0) hx hb dX7_passOne_99 (by decide) ?_
                  refine lv_istore_n (lv' := [(3, .int 0), (2, .int 0), (1, .int (nI k0)), (0, .ref (ad 0))]) hx hb dX7_passOne_100 rfl hl (by decide) rfl (fun ls hl => ?_)
                  refine lv_aload_n hx hb dX7_passOne_101 rfl (lv_at hl 3 rfl) ?_
                  refine sy_getRX7 hx hb hts hown hE hP 0 rfl 6 (by decide) (hts _ (u_in uk_4_196)) (v := .ref (ad 7)) rfl dX7_passOne_102 ?_
                  refine lv_iload_n hx hb dX7_passOne_105 rfl (lv_at hl 2 rfl) ?_
                  refine lv_dup2_11 hx hb dX7_passOne_106 rfl rfl ?_
                  refine sy_ialdN hx hb hE hP 7 rfl (show vp_in (nI k0) 40 from vp_in_nI (by omega) (by decide)) k0 (nI_clamp (by omega)) (v := (lX7_passA g q k0) 7 k0) rfl dX7_passOne_107 ?_
                  refine lv_aload_n hx hb dX7_passOne_108 rfl (lv_at hl 3 rfl) ?_
                  refine sy_getRX7 hx hb hts hown hE hP 0 rfl 7 (by decide) (hts _ (u_in uk_4_197)) (v := .ref (ad 8)) rfl dX7_passOne_109 ?_
                  refine lv_iload_n hx hb dX7_passOne_112 rfl (lv_at hl 2 rfl) ?_
                  refine sy_zaldN hx hb hE hP 8 rfl (show vp_in (nI k0) 40 from vp_in_nI (by omega) (by decide)) k0 (nI_clamp (by omega)) (v := (lX7_passA g q k0) 8 k0) rfl dX7_passOne_113 ?_
                  refine lv_if_eq (tgt := 136) hx hb dX7_passOne_114 (by decide) (fun c_25 => ?_) (fun c_25 => ?_)
                  · skip
                    refine lv_iconst (v := 0) hx hb dX7_passOne_136 (by decide) ?_
                    exact K_5 hk0 c_1 c_11 c_12 c_19 c_22 c_24 c_25 _ _ _ hP hS hl
                  · skip
                    refine lv_iload_n hx hb dX7_passOne_117 rfl (lv_at hl 0 rfl) ?_
                    exact K_6 hk0 c_1 c_11 c_12 c_19 c_22 c_24 c_25 _ _ _ hP hS hl
                · skip
                  refine lv_iconst (v := 1) hx hb dX7_passOne_95 (by decide) ?_
                  refine lv_goto (tgt := 100) hx hb dX7_passOne_96 (by decide) ?_
                  refine lv_istore_n (lv' := [(3, .int 1), (2, .int 0), (1, .int (nI k0)), (0, .ref (ad 0))]) hx hb dX7_passOne_100 rfl hl (by decide) rfl (fun ls hl => ?_)
                  refine lv_aload_n hx hb dX7_passOne_101 rfl (lv_at hl 3 rfl) ?_
                  refine sy_getRX7 hx hb hts hown hE hP 0 rfl 6 (by decide) (hts _ (u_in uk_4_196)) (v := .ref (ad 7)) rfl dX7_passOne_102 ?_
                  refine lv_iload_n hx hb dX7_passOne_105 rfl (lv_at hl 2 rfl) ?_
                  refine lv_dup2_11 hx hb dX7_passOne_106 rfl rfl ?_
                  refine sy_ialdN hx hb hE hP 7 rfl (show vp_in (nI k0) 40 from vp_in_nI (by omega) (by decide)) k0 (nI_clamp (by omega)) (v := (lX7_passA g q k0) 7 k0) rfl dX7_passOne_107 ?_
                  refine lv_aload_n hx hb dX7_passOne_108 rfl (lv_at hl 3 rfl) ?_
                  refine sy_getRX7 hx hb hts hown hE hP 0 rfl 7 (by decide) (hts _ (u_in uk_4_197)) (v := .ref (ad 8)) rfl dX7_passOne_109 ?_
                  refine lv_iload_n hx hb dX7_passOne_112 rfl (lv_at hl 2 rfl) ?_
                  refine sy_zaldN hx hb hE hP 8 rfl (show vp_in (nI k0) 40 from vp_in_nI (by omega) (by decide)) k0 (nI_clamp (by omega)) (v := (lX7_passA g q k0) 8 k0) rfl dX7_passOne_113 ?_
                  refine lv_if_eq (tgt := 136) hx hb dX7_passOne_114 (by decide) (fun c_26 => ?_) (fun c_26 => ?_)
                  · skip
                    exact K_7 hk0 c_1 c_11 c_12 c_19 c_22 c_24 c_26 _ _ _ hP hS hl
                  · skip
                    exact K_8 hk0 c_1 c_11 c_12 c_19 c_22 c_24 c_26 _ _ _ hP hS hl
        · skip
          refine lv_iconst (v := 1) hx hb dX7_passOne_31 (by decide) ?_
          refine lv_goto (tgt := 36) hx hb dX7_passOne_32 (by decide) ?_
          refine lv_istore_n (lv' := [(2, .int 1), (1, .int (nI k0)), (0, .ref (ad 0))]) hx hb dX7_passOne_36 rfl hl (by decide) rfl (fun ls hl => ?_)
          refine lv_aload_n hx hb dX7_passOne_37 rfl (lv_at hl 2 rfl) ?_
          refine sy_getRX7 hx hb hts hown hE hP 0 rfl 3 (by decide) (hts _ (u_in uk_4_193)) (v := .ref (ad 4)) rfl dX7_passOne_38 ?_
          refine lv_iload_n hx hb dX7_passOne_41 rfl (lv_at hl 1 rfl) ?_
          refine sy_ialdN hx hb hE hP 4 rfl (show vp_in (nI k0) 40 from vp_in_nI (by omega) (by decide)) k0 (nI_clamp (by omega)) (v := (lX7_passA g q k0) 4 k0) rfl dX7_passOne_42 ?_
          refine lv_iconst (v := 1) hx hb dX7_passOne_43 (by decide) ?_
          refine lv_icmp_ne (tgt := 68) hx hb dX7_passOne_44 (by decide) (fun c_28 => ?_) (fun c_28 => ?_)
          · skip
            refine lv_aload_n hx hb dX7_passOne_68 rfl (lv_at hl 2 rfl) ?_
            refine sy_getRX7 hx hb hts hown hE hP 0 rfl 3 (by decide) (hts _ (u_in uk_4_193)) (v := .ref (ad 4)) rfl dX7_passOne_69 ?_
            refine lv_iload_n hx hb dX7_passOne_72 rfl (lv_at hl 1 rfl) ?_
            refine sy_ialdN hx hb hE hP 4 rfl (show vp_in (nI k0) 40 from vp_in_nI (by omega) (by decide)) k0 (nI_clamp (by omega)) (v := (lX7_passA g q k0) 4 k0) rfl dX7_passOne_73 ?_
            refine lv_iconst (v := 2) hx hb dX7_passOne_74 (by decide) ?_
            refine lv_icmp_ne (tgt := 99) hx hb dX7_passOne_75 (by decide) (fun c_29 => ?_) (fun c_29 => ?_)
            · skip
              refine lv_iconst (v := 0) hx hb dX7_passOne_99 (by decide) ?_
              refine lv_istore_n (lv' := [(3, .int 0), (2, .int 1), (1, .int (nI k0)), (0, .ref (ad 0))]) hx hb dX7_passOne_100 rfl hl (by decide) rfl (fun ls hl => ?_)
              refine lv_aload_n hx hb dX7_passOne_101 rfl (lv_at hl 3 rfl) ?_
              refine sy_getRX7 hx hb hts hown hE hP 0 rfl 6 (by decide) (hts _ (u_in uk_4_196)) (v := .ref (ad 7)) rfl dX7_passOne_102 ?_
              refine lv_iload_n hx hb dX7_passOne_105 rfl (lv_at hl 2 rfl) ?_
              refine lv_dup2_11 hx hb dX7_passOne_106 rfl rfl ?_
              refine sy_ialdN hx hb hE hP 7 rfl (show vp_in (nI k0) 40 from vp_in_nI (by omega) (by decide)) k0 (nI_clamp (by omega)) (v := (lX7_passA g q k0) 7 k0) rfl dX7_passOne_107 ?_
              refine lv_aload_n hx hb dX7_passOne_108 rfl (lv_at hl 3 rfl) ?_
              refine sy_getRX7 hx hb hts hown hE hP 0 rfl 7 (by decide) (hts _ (u_in uk_4_197)) (v := .ref (ad 8)) rfl dX7_passOne_109 ?_
              refine lv_iload_n hx hb dX7_passOne_112 rfl (lv_at hl 2 rfl) ?_
              refine sy_zaldN hx hb hE hP 8 rfl (show vp_in (nI k0) 40 from vp_in_nI (by omega) (by decide)) k0 (nI_clamp (by omega)) (v := (lX7_passA g q k0) 8 k0) rfl dX7_passOne_113 ?_
              refine lv_if_eq (tgt := 136) hx hb dX7_passOne_114 (by decide) (fun c_30 => ?_) (fun c_30 => ?_)
              · skip
                refine lv_iconst (v := 0) hx hb dX7_passOne_136 (by decide) ?_
                refine lv_iadd hx hb dX7_passOne_137 ?_
                refine sy_iastN hx hb hE hP hS 7 rfl (show vp_in (nI k0) 40 from vp_in_nI (by omega) (by decide)) k0 (nI_clamp (by omega)) dX7_passOne_138 (fun H locs hP hS => ?_)
                refine lv_iinc (v := ((nI k0) + 1)) (lv' := [(1, .int ((nI k0) + 1)), (3, .int 0), (2, .int 1), (0, .ref (ad 0))]) hx hb dX7_passOne_139 hl (k := 2) rfl rfl (by decide) rfl (fun ls hl => ?_)
                refine lv_goto (tgt := 12) hx hb dX7_passOne_142 (by decide) ?_
                have hF : lX7_passA g q (k0 + 1) = (sy_up (lX7_passA g q k0) 7 k0 (((lX7_passA g q k0) 7 k0) + 0)) := by rw [lX7_passA, if_pos c_11, if_neg c_28, if_neg c_29, if_pos c_30] <;> rfl
                exact ih (k0 + 1) (by omega) (by omega) H locs ls (by rw [hF]; exact hP) hS (by rw [nI_succ]; exact lv_sub hl [0, 3] rfl)
              · skip
                refine lv_iload_n hx hb dX7_passOne_117 rfl (lv_at hl 0 rfl) ?_
                refine lv_if_eq (tgt := 136) hx hb dX7_passOne_118 (by decide) (fun _ => ?_) (fun c9 => absurd c9 (by decide))
                refine lv_iconst (v := 0) hx hb dX7_passOne_136 (by decide) ?_
                refine lv_iadd hx hb dX7_passOne_137 ?_
                refine sy_iastN hx hb hE hP hS 7 rfl (show vp_in (nI k0) 40 from vp_in_nI (by omega) (by decide)) k0 (nI_clamp (by omega)) dX7_passOne_138 (fun H locs hP hS => ?_)
                refine lv_iinc (v := ((nI k0) + 1)) (lv' := [(1, .int ((nI k0) + 1)), (3, .int 0), (2, .int 1), (0, .ref (ad 0))]) hx hb dX7_passOne_139 hl (k := 2) rfl rfl (by decide) rfl (fun ls hl => ?_)
                refine lv_goto (tgt := 12) hx hb dX7_passOne_142 (by decide) ?_
                have hF : lX7_passA g q (k0 + 1) = (sy_up (lX7_passA g q k0) 7 k0 (((lX7_passA g q k0) 7 k0) + 0)) := by rw [lX7_passA, if_pos c_11, if_neg c_28, if_neg c_29, if_neg c_30] <;> rfl
                exact ih (k0 + 1) (by omega) (by omega) H locs ls (by rw [hF]; exact hP) hS (by rw [nI_succ]; exact lv_sub hl [0, 3] rfl)
            · skip
              refine lv_aload_n hx hb dX7_passOne_78 rfl (lv_at hl 2 rfl) ?_
              refine sy_getRX7 hx hb hts hown hE hP 0 rfl 1 (by decide) (hts _ (u_in uk_4_191)) (v := .int ((lX7_passA g q k0) 0 1)) rfl dX7_passOne_79 ?_
              refine lv_aload_n hx hb dX7_passOne_82 rfl (lv_at hl 2 rfl) ?_
              refine sy_getRX7 hx hb hts hown hE hP 0 rfl 12 (by decide) (hts _ (u_in uk_4_202)) (v := .ref (ad 13)) rfl dX7_passOne_83 ?_
              refine lv_iload_n hx hb dX7_passOne_86 rfl (lv_at hl 1 rfl) ?_
              refine sy_ialdN hx hb hE hP 13 rfl (show vp_in (nI k0) 40 from vp_in_nI (by omega) (by decide)) k0 (nI_clamp (by omega)) (v := (lX7_passA g q k0) 13 k0) rfl dX7_passOne_87 ?_
              refine lv_isub hx hb dX7_passOne_88 ?_
              refine lv_bipush (v := 90) hx hb dX7_passOne_89 (by decide) ?_
              refine lv_irem hx hb dX7_passOne_91 (by decide) ?_
              refine lv_if_ne (tgt := 99) hx hb dX7_passOne_92 (by decide) (fun c_31 => ?_) (fun c_31 => ?_)
              · skip
                refine lv_iconst (v := 0) hx hb dX7_passOne_99 (by decide) ?_
                refine lv_istore_n (lv' := [(3, .int 0), (2, .int 1), (1, .int (nI k0)), (0, .ref (ad 0))]) hx hb dX7_passOne_100 rfl hl (by decide) rfl (fun ls hl => ?_)
                refine lv_aload_n hx hb dX7_passOne_101 rfl (lv_at hl 3 rfl) ?_
                refine sy_getRX7 hx hb hts hown hE hP 0 rfl 6 (by decide) (hts _ (u_in uk_4_196)) (v := .ref (ad 7)) rfl dX7_passOne_102 ?_
                refine lv_iload_n hx hb dX7_passOne_105 rfl (lv_at hl 2 rfl) ?_
                refine lv_dup2_11 hx hb dX7_passOne_106 rfl rfl ?_
                refine sy_ialdN hx hb hE hP 7 rfl (show vp_in (nI k0) 40 from vp_in_nI (by omega) (by decide)) k0 (nI_clamp (by omega)) (v := (lX7_passA g q k0) 7 k0) rfl dX7_passOne_107 ?_
                refine lv_aload_n hx hb dX7_passOne_108 rfl (lv_at hl 3 rfl) ?_
                refine sy_getRX7 hx hb hts hown hE hP 0 rfl 7 (by decide) (hts _ (u_in uk_4_197)) (v := .ref (ad 8)) rfl dX7_passOne_109 ?_
                refine lv_iload_n hx hb dX7_passOne_112 rfl (lv_at hl 2 rfl) ?_
                refine sy_zaldN hx hb hE hP 8 rfl (show vp_in (nI k0) 40 from vp_in_nI (by omega) (by decide)) k0 (nI_clamp (by omega)) (v := (lX7_passA g q k0) 8 k0) rfl dX7_passOne_113 ?_
                refine lv_if_eq (tgt := 136) hx hb dX7_passOne_114 (by decide) (fun c_32 => ?_) (fun c_32 => ?_)
                · skip
                  refine lv_iconst (v := 0) hx hb dX7_passOne_136 (by decide) ?_
                  refine lv_iadd hx hb dX7_passOne_137 ?_
                  refine sy_iastN hx hb hE hP hS 7 rfl (show vp_in (nI k0) 40 from vp_in_nI (by omega) (by decide)) k0 (nI_clamp (by omega)) dX7_passOne_138 (fun H locs hP hS => ?_)
                  refine lv_iinc (v := ((nI k0) + 1)) (lv' := [(1, .int ((nI k0) + 1)), (3, .int 0), (2, .int 1), (0, .ref (ad 0))]) hx hb dX7_passOne_139 hl (k := 2) rfl rfl (by decide) rfl (fun ls hl => ?_)
                  refine lv_goto (tgt := 12) hx hb dX7_passOne_142 (by decide) ?_
                  have hF : lX7_passA g q (k0 + 1) = (sy_up (lX7_passA g q k0) 7 k0 (((lX7_passA g q k0) 7 k0) + 0)) := by rw [lX7_passA, if_pos c_11, if_neg c_28, if_pos c_29, if_neg c_31, if_pos c_32] <;> rfl
                  exact ih (k0 + 1) (by omega) (by omega) H locs ls (by rw [hF]; exact hP) hS (by rw [nI_succ]; exact lv_sub hl [0, 3] rfl)
                · skip
                  refine lv_iload_n hx hb dX7_passOne_117 rfl (lv_at hl 0 rfl) ?_
                  refine lv_if_eq (tgt := 136) hx hb dX7_passOne_118 (by decide) (fun _ => ?_) (fun c9 => absurd c9 (by decide))
                  refine lv_iconst (v := 0) hx hb dX7_passOne_136 (by decide) ?_
                  refine lv_iadd hx hb dX7_passOne_137 ?_
                  refine sy_iastN hx hb hE hP hS 7 rfl (show vp_in (nI k0) 40 from vp_in_nI (by omega) (by decide)) k0 (nI_clamp (by omega)) dX7_passOne_138 (fun H locs hP hS => ?_)
                  refine lv_iinc (v := ((nI k0) + 1)) (lv' := [(1, .int ((nI k0) + 1)), (3, .int 0), (2, .int 1), (0, .ref (ad 0))]) hx hb dX7_passOne_139 hl (k := 2) rfl rfl (by decide) rfl (fun ls hl => ?_)
                  refine lv_goto (tgt := 12) hx hb dX7_passOne_142 (by decide) ?_
                  have hF : lX7_passA g q (k0 + 1) = (sy_up (lX7_passA g q k0) 7 k0 (((lX7_passA g q k0) 7 k0) + 0)) := by rw [lX7_passA, if_pos c_11, if_neg c_28, if_pos c_29, if_neg c_31, if_neg c_32] <;> rfl
                  exact ih (k0 + 1) (by omega) (by omega) H locs ls (by rw [hF]; exact hP) hS (by rw [nI_succ]; exact lv_sub hl [0, 3] rfl)
              · skip
                refine lv_iconst (v := 1) hx hb dX7_passOne_95 (by decide) ?_
                refine lv_goto (tgt := 100) hx hb dX7_passOne_96 (by decide) ?_
                refine lv_istore_n (lv' := [(3, .int 1), (2, .int 1), (1, .int (nI k0)), (0, .ref (ad 0))]) hx hb dX7_passOne_100 rfl hl (by decide) rfl (fun ls hl => ?_)
                refine lv_aload_n hx hb dX7_passOne_101 rfl (lv_at hl 3 rfl) ?_
                refine sy_getRX7 hx hb hts hown hE hP 0 rfl 6 (by decide) (hts _ (u_in uk_4_196)) (v := .ref (ad 7)) rfl dX7_passOne_102 ?_
                refine lv_iload_n hx hb dX7_passOne_105 rfl (lv_at hl 2 rfl) ?_
                refine lv_dup2_11 hx hb dX7_passOne_106 rfl rfl ?_
                refine sy_ialdN hx hb hE hP 7 rfl (show vp_in (nI k0) 40 from vp_in_nI (by omega) (by decide)) k0 (nI_clamp (by omega)) (v := (lX7_passA g q k0) 7 k0) rfl dX7_passOne_107 ?_
                refine lv_aload_n hx hb dX7_passOne_108 rfl (lv_at hl 3 rfl) ?_
                refine sy_getRX7 hx hb hts hown hE hP 0 rfl 7 (by decide) (hts _ (u_in uk_4_197)) (v := .ref (ad 8)) rfl dX7_passOne_109 ?_
                refine lv_iload_n hx hb dX7_passOne_112 rfl (lv_at hl 2 rfl) ?_
                refine sy_zaldN hx hb hE hP 8 rfl (show vp_in (nI k0) 40 from vp_in_nI (by omega) (by decide)) k0 (nI_clamp (by omega)) (v := (lX7_passA g q k0) 8 k0) rfl dX7_passOne_113 ?_
                refine lv_if_eq (tgt := 136) hx hb dX7_passOne_114 (by decide) (fun c_33 => ?_) (fun c_33 => ?_)
                · skip
                  refine lv_iconst (v := 0) hx hb dX7_passOne_136 (by decide) ?_
                  refine lv_iadd hx hb dX7_passOne_137 ?_
                  refine sy_iastN hx hb hE hP hS 7 rfl (show vp_in (nI k0) 40 from vp_in_nI (by omega) (by decide)) k0 (nI_clamp (by omega)) dX7_passOne_138 (fun H locs hP hS => ?_)
                  refine lv_iinc (v := ((nI k0) + 1)) (lv' := [(1, .int ((nI k0) + 1)), (3, .int 1), (2, .int 1), (0, .ref (ad 0))]) hx hb dX7_passOne_139 hl (k := 2) rfl rfl (by decide) rfl (fun ls hl => ?_)
                  refine lv_goto (tgt := 12) hx hb dX7_passOne_142 (by decide) ?_
                  have hF : lX7_passA g q (k0 + 1) = (sy_up (lX7_passA g q k0) 7 k0 (((lX7_passA g q k0) 7 k0) + 0)) := by rw [lX7_passA, if_pos c_11, if_neg c_28, if_pos c_29, if_pos c_31, if_pos c_33] <;> rfl
                  exact ih (k0 + 1) (by omega) (by omega) H locs ls (by rw [hF]; exact hP) hS (by rw [nI_succ]; exact lv_sub hl [0, 3] rfl)
                · skip
                  refine lv_iload_n hx hb dX7_passOne_117 rfl (lv_at hl 0 rfl) ?_
                  refine lv_if_eq (tgt := 136) hx hb dX7_passOne_118 (by decide) (fun c9 => absurd c9 (by decide)) (fun _ => ?_)
                  refine lv_aload_n hx hb dX7_passOne_121 rfl (lv_at hl 3 rfl) ?_
                  refine sy_getRX7 hx hb hts hown hE hP 0 rfl 6 (by decide) (hts _ (u_in uk_4_196)) (v := .ref (ad 7)) rfl dX7_passOne_122 ?_
                  refine lv_iload_n hx hb dX7_passOne_125 rfl (lv_at hl 2 rfl) ?_
                  refine sy_ialdN hx hb hE hP 7 rfl (show vp_in (nI k0) 40 from vp_in_nI (by omega) (by decide)) k0 (nI_clamp (by omega)) (v := (lX7_passA g q k0) 7 k0) rfl dX7_passOne_126 ?_
                  refine lv_bipush (v := 10) hx hb dX7_passOne_127 (by decide) ?_
                  refine lv_icmp_ge (tgt := 136) hx hb dX7_passOne_129 (by decide) (fun c_34 => ?_) (fun c_34 => ?_)
                  · skip
                    refine lv_iconst (v := 0) hx hb dX7_passOne_136 (by decide) ?_
                    refine lv_iadd hx hb dX7_passOne_137 ?_
                    refine sy_iastN hx hb hE hP hS 7 rfl (show vp_in (nI k0) 40 from vp_in_nI (by omega) (by decide)) k0 (nI_clamp (by omega)) dX7_passOne_138 (fun H locs hP hS => ?_)
                    exact K_9 hk0 c_1 c_11 c_28 c_29 c_31 c_33 c_34 _ _ _ hP hS hl
                  · skip
                    refine lv_iconst (v := 1) hx hb dX7_passOne_132 (by decide) ?_
                    refine lv_goto (tgt := 137) hx hb dX7_passOne_133 (by decide) ?_
                    refine lv_iadd hx hb dX7_passOne_137 ?_
                    exact K_10 hk0 c_1 c_11 c_28 c_29 c_31 c_33 c_34 _ _ _ hP hS hl
          · skip
            refine lv_iload_n hx hb dX7_passOne_47 rfl (lv_at hl 0 rfl) ?_
            refine lv_if_ne (tgt := 68) hx hb dX7_passOne_48 (by decide) (fun _ => ?_) (fun c9 => absurd c9 (by decide))
            refine lv_aload_n hx hb dX7_passOne_68 rfl (lv_at hl 2 rfl) ?_
            refine sy_getRX7 hx hb hts hown hE hP 0 rfl 3 (by decide) (hts _ (u_in uk_4_193)) (v := .ref (ad 4)) rfl dX7_passOne_69 ?_
            refine lv_iload_n hx hb dX7_passOne_72 rfl (lv_at hl 1 rfl) ?_
            refine sy_ialdN hx hb hE hP 4 rfl (show vp_in (nI k0) 40 from vp_in_nI (by omega) (by decide)) k0 (nI_clamp (by omega)) (v := (lX7_passA g q k0) 4 k0) rfl dX7_passOne_73 ?_
            refine lv_iconst (v := 2) hx hb dX7_passOne_74 (by decide) ?_
            refine lv_icmp_ne (tgt := 99) hx hb dX7_passOne_75 (by decide) (fun c_35 => ?_) (fun c_35 => ?_)
            · skip
              refine lv_iconst (v := 0) hx hb dX7_passOne_99 (by decide) ?_
              refine lv_istore_n (lv' := [(3, .int 0), (2, .int 1), (1, .int (nI k0)), (0, .ref (ad 0))]) hx hb dX7_passOne_100 rfl hl (by decide) rfl (fun ls hl => ?_)
              refine lv_aload_n hx hb dX7_passOne_101 rfl (lv_at hl 3 rfl) ?_
              refine sy_getRX7 hx hb hts hown hE hP 0 rfl 6 (by decide) (hts _ (u_in uk_4_196)) (v := .ref (ad 7)) rfl dX7_passOne_102 ?_
              refine lv_iload_n hx hb dX7_passOne_105 rfl (lv_at hl 2 rfl) ?_
              refine lv_dup2_11 hx hb dX7_passOne_106 rfl rfl ?_
              refine sy_ialdN hx hb hE hP 7 rfl (show vp_in (nI k0) 40 from vp_in_nI (by omega) (by decide)) k0 (nI_clamp (by omega)) (v := (lX7_passA g q k0) 7 k0) rfl dX7_passOne_107 ?_
              refine lv_aload_n hx hb dX7_passOne_108 rfl (lv_at hl 3 rfl) ?_
              refine sy_getRX7 hx hb hts hown hE hP 0 rfl 7 (by decide) (hts _ (u_in uk_4_197)) (v := .ref (ad 8)) rfl dX7_passOne_109 ?_
              refine lv_iload_n hx hb dX7_passOne_112 rfl (lv_at hl 2 rfl) ?_
              refine sy_zaldN hx hb hE hP 8 rfl (show vp_in (nI k0) 40 from vp_in_nI (by omega) (by decide)) k0 (nI_clamp (by omega)) (v := (lX7_passA g q k0) 8 k0) rfl dX7_passOne_113 ?_
              refine lv_if_eq (tgt := 136) hx hb dX7_passOne_114 (by decide) (fun c_36 => ?_) (fun c_36 => ?_)
              · skip
                refine lv_iconst (v := 0) hx hb dX7_passOne_136 (by decide) ?_
                refine lv_iadd hx hb dX7_passOne_137 ?_
                refine sy_iastN hx hb hE hP hS 7 rfl (show vp_in (nI k0) 40 from vp_in_nI (by omega) (by decide)) k0 (nI_clamp (by omega)) dX7_passOne_138 (fun H locs hP hS => ?_)
                refine lv_iinc (v := ((nI k0) + 1)) (lv' := [(1, .int ((nI k0) + 1)), (3, .int 0), (2, .int 1), (0, .ref (ad 0))]) hx hb dX7_passOne_139 hl (k := 2) rfl rfl (by decide) rfl (fun ls hl => ?_)
                refine lv_goto (tgt := 12) hx hb dX7_passOne_142 (by decide) ?_
                have hF : lX7_passA g q (k0 + 1) = (sy_up (lX7_passA g q k0) 7 k0 (((lX7_passA g q k0) 7 k0) + 0)) := by rw [lX7_passA, if_pos c_11, if_pos c_28, if_neg c_35, if_pos c_36] <;> rfl
                exact ih (k0 + 1) (by omega) (by omega) H locs ls (by rw [hF]; exact hP) hS (by rw [nI_succ]; exact lv_sub hl [0, 3] rfl)
              · skip
                refine lv_iload_n hx hb dX7_passOne_117 rfl (lv_at hl 0 rfl) ?_
                refine lv_if_eq (tgt := 136) hx hb dX7_passOne_118 (by decide) (fun _ => ?_) (fun c9 => absurd c9 (by decide))
                refine lv_iconst (v := 0) hx hb dX7_passOne_136 (by decide) ?_
                refine lv_iadd hx hb dX7_passOne_137 ?_
                refine sy_iastN hx hb hE hP hS 7 rfl (show vp_in (nI k0) 40 from vp_in_nI (by omega) (by decide)) k0 (nI_clamp (by omega)) dX7_passOne_138 (fun H locs hP hS => ?_)
                refine lv_iinc (v := ((nI k0) + 1)) (lv' := [(1, .int ((nI k0) + 1)), (3, .int 0), (2, .int 1), (0, .ref (ad 0))]) hx hb dX7_passOne_139 hl (k := 2) rfl rfl (by decide) rfl (fun ls hl => ?_)
                refine lv_goto (tgt := 12) hx hb dX7_passOne_142 (by decide) ?_
                have hF : lX7_passA g q (k0 + 1) = (sy_up (lX7_passA g q k0) 7 k0 (((lX7_passA g q k0) 7 k0) + 0)) := by rw [lX7_passA, if_pos c_11, if_pos c_28, if_neg c_35, if_neg c_36] <;> rfl
                exact ih (k0 + 1) (by omega) (by omega) H locs ls (by rw [hF]; exact hP) hS (by rw [nI_succ]; exact lv_sub hl [0, 3] rfl)
            · skip
              refine lv_aload_n hx hb dX7_passOne_78 rfl (lv_at hl 2 rfl) ?_
              refine sy_getRX7 hx hb hts hown hE hP 0 rfl 1 (by decide) (hts _ (u_in uk_4_191)) (v := .int ((lX7_passA g q k0) 0 1)) rfl dX7_passOne_79 ?_
              refine lv_aload_n hx hb dX7_passOne_82 rfl (lv_at hl 2 rfl) ?_
              refine sy_getRX7 hx hb hts hown hE hP 0 rfl 12 (by decide) (hts _ (u_in uk_4_202)) (v := .ref (ad 13)) rfl dX7_passOne_83 ?_
              refine lv_iload_n hx hb dX7_passOne_86 rfl (lv_at hl 1 rfl) ?_
              refine sy_ialdN hx hb hE hP 13 rfl (show vp_in (nI k0) 40 from vp_in_nI (by omega) (by decide)) k0 (nI_clamp (by omega)) (v := (lX7_passA g q k0) 13 k0) rfl dX7_passOne_87 ?_
              refine lv_isub hx hb dX7_passOne_88 ?_
              refine lv_bipush (v := 90) hx hb dX7_passOne_89 (by decide) ?_
              refine lv_irem hx hb dX7_passOne_91 (by decide) ?_
              refine lv_if_ne (tgt := 99) hx hb dX7_passOne_92 (by decide) (fun c_37 => ?_) (fun c_37 => ?_)
              · skip
                refine lv_iconst (v := 0) hx hb dX7_passOne_99 (by decide) ?_
                refine lv_istore_n (lv' := [(3, .int 0), (2, .int 1), (1, .int (nI k0)), (0, .ref (ad 0))]) hx hb dX7_passOne_100 rfl hl (by decide) rfl (fun ls hl => ?_)
                refine lv_aload_n hx hb dX7_passOne_101 rfl (lv_at hl 3 rfl) ?_
                refine sy_getRX7 hx hb hts hown hE hP 0 rfl 6 (by decide) (hts _ (u_in uk_4_196)) (v := .ref (ad 7)) rfl dX7_passOne_102 ?_
                refine lv_iload_n hx hb dX7_passOne_105 rfl (lv_at hl 2 rfl) ?_
                refine lv_dup2_11 hx hb dX7_passOne_106 rfl rfl ?_
                refine sy_ialdN hx hb hE hP 7 rfl (show vp_in (nI k0) 40 from vp_in_nI (by omega) (by decide)) k0 (nI_clamp (by omega)) (v := (lX7_passA g q k0) 7 k0) rfl dX7_passOne_107 ?_
                refine lv_aload_n hx hb dX7_passOne_108 rfl (lv_at hl 3 rfl) ?_
                refine sy_getRX7 hx hb hts hown hE hP 0 rfl 7 (by decide) (hts _ (u_in uk_4_197)) (v := .ref (ad 8)) rfl dX7_passOne_109 ?_
                refine lv_iload_n hx hb dX7_passOne_112 rfl (lv_at hl 2 rfl) ?_
                refine sy_zaldN hx hb hE hP 8 rfl (show vp_in (nI k0) 40 from vp_in_nI (by omega) (by decide)) k0 (nI_clamp (by omega)) (v := (lX7_passA g q k0) 8 k0) rfl dX7_passOne_113 ?_
                refine lv_if_eq (tgt := 136) hx hb dX7_passOne_114 (by decide) (fun c_38 => ?_) (fun c_38 => ?_)
                · skip
                  refine lv_iconst (v := 0) hx hb dX7_passOne_136 (by decide) ?_
                  refine lv_iadd hx hb dX7_passOne_137 ?_
                  refine sy_iastN hx hb hE hP hS 7 rfl (show vp_in (nI k0) 40 from vp_in_nI (by omega) (by decide)) k0 (nI_clamp (by omega)) dX7_passOne_138 (fun H locs hP hS => ?_)
                  refine lv_iinc (v := ((nI k0) + 1)) (lv' := [(1, .int ((nI k0) + 1)), (3, .int 0), (2, .int 1), (0, .ref (ad 0))]) hx hb dX7_passOne_139 hl (k := 2) rfl rfl (by decide) rfl (fun ls hl => ?_)
                  refine lv_goto (tgt := 12) hx hb dX7_passOne_142 (by decide) ?_
                  have hF : lX7_passA g q (k0 + 1) = (sy_up (lX7_passA g q k0) 7 k0 (((lX7_passA g q k0) 7 k0) + 0)) := by rw [lX7_passA, if_pos c_11, if_pos c_28, if_pos c_35, if_neg c_37, if_pos c_38] <;> rfl
                  exact ih (k0 + 1) (by omega) (by omega) H locs ls (by rw [hF]; exact hP) hS (by rw [nI_succ]; exact lv_sub hl [0, 3] rfl)
                · skip
                  refine lv_iload_n hx hb dX7_passOne_117 rfl (lv_at hl 0 rfl) ?_
                  refine lv_if_eq (tgt := 136) hx hb dX7_passOne_118 (by decide) (fun _ => ?_) (fun c9 => absurd c9 (by decide))
                  refine lv_iconst (v := 0) hx hb dX7_passOne_136 (by decide) ?_
                  refine lv_iadd hx hb dX7_passOne_137 ?_
                  refine sy_iastN hx hb hE hP hS 7 rfl (show vp_in (nI k0) 40 from vp_in_nI (by omega) (by decide)) k0 (nI_clamp (by omega)) dX7_passOne_138 (fun H locs hP hS => ?_)
                  refine lv_iinc (v := ((nI k0) + 1)) (lv' := [(1, .int ((nI k0) + 1)), (3, .int 0), (2, .int 1), (0, .ref (ad 0))]) hx hb dX7_passOne_139 hl (k := 2) rfl rfl (by decide) rfl (fun ls hl => ?_)
                  refine lv_goto (tgt := 12) hx hb dX7_passOne_142 (by decide) ?_
                  have hF : lX7_passA g q (k0 + 1) = (sy_up (lX7_passA g q k0) 7 k0 (((lX7_passA g q k0) 7 k0) + 0)) := by rw [lX7_passA, if_pos c_11, if_pos c_28, if_pos c_35, if_neg c_37, if_neg c_38] <;> rfl
                  exact ih (k0 + 1) (by omega) (by omega) H locs ls (by rw [hF]; exact hP) hS (by rw [nI_succ]; exact lv_sub hl [0, 3] rfl)
              · skip
                refine lv_iconst (v := 1) hx hb dX7_passOne_95 (by decide) ?_
                refine lv_goto (tgt := 100) hx hb dX7_passOne_96 (by decide) ?_
                refine lv_istore_n (lv' := [(3, .int 1), (2, .int 1), (1, .int (nI k0)), (0, .ref (ad 0))]) hx hb dX7_passOne_100 rfl hl (by decide) rfl (fun ls hl => ?_)
                refine lv_aload_n hx hb dX7_passOne_101 rfl (lv_at hl 3 rfl) ?_
                refine sy_getRX7 hx hb hts hown hE hP 0 rfl 6 (by decide) (hts _ (u_in uk_4_196)) (v := .ref (ad 7)) rfl dX7_passOne_102 ?_
                refine lv_iload_n hx hb dX7_passOne_105 rfl (lv_at hl 2 rfl) ?_
                refine lv_dup2_11 hx hb dX7_passOne_106 rfl rfl ?_
                refine sy_ialdN hx hb hE hP 7 rfl (show vp_in (nI k0) 40 from vp_in_nI (by omega) (by decide)) k0 (nI_clamp (by omega)) (v := (lX7_passA g q k0) 7 k0) rfl dX7_passOne_107 ?_
                refine lv_aload_n hx hb dX7_passOne_108 rfl (lv_at hl 3 rfl) ?_
                refine sy_getRX7 hx hb hts hown hE hP 0 rfl 7 (by decide) (hts _ (u_in uk_4_197)) (v := .ref (ad 8)) rfl dX7_passOne_109 ?_
                refine lv_iload_n hx hb dX7_passOne_112 rfl (lv_at hl 2 rfl) ?_
                refine sy_zaldN hx hb hE hP 8 rfl (show vp_in (nI k0) 40 from vp_in_nI (by omega) (by decide)) k0 (nI_clamp (by omega)) (v := (lX7_passA g q k0) 8 k0) rfl dX7_passOne_113 ?_
                refine lv_if_eq (tgt := 136) hx hb dX7_passOne_114 (by decide) (fun c_39 => ?_) (fun c_39 => ?_)
                · skip
                  refine lv_iconst (v := 0) hx hb dX7_passOne_136 (by decide) ?_
                  refine lv_iadd hx hb dX7_passOne_137 ?_
                  refine sy_iastN hx hb hE hP hS 7 rfl (show vp_in (nI k0) 40 from vp_in_nI (by omega) (by decide)) k0 (nI_clamp (by omega)) dX7_passOne_138 (fun H locs hP hS => ?_)
                  refine lv_iinc (v := ((nI k0) + 1)) (lv' := [(1, .int ((nI k0) + 1)), (3, .int 1), (2, .int 1), (0, .ref (ad 0))]) hx hb dX7_passOne_139 hl (k := 2) rfl rfl (by decide) rfl (fun ls hl => ?_)
                  refine lv_goto (tgt := 12) hx hb dX7_passOne_142 (by decide) ?_
                  have hF : lX7_passA g q (k0 + 1) = (sy_up (lX7_passA g q k0) 7 k0 (((lX7_passA g q k0) 7 k0) + 0)) := by rw [lX7_passA, if_pos c_11, if_pos c_28, if_pos c_35, if_pos c_37, if_pos c_39] <;> rfl
                  exact ih (k0 + 1) (by omega) (by omega) H locs ls (by rw [hF]; exact hP) hS (by rw [nI_succ]; exact lv_sub hl [0, 3] rfl)
                · skip
                  refine lv_iload_n hx hb dX7_passOne_117 rfl (lv_at hl 0 rfl) ?_
                  refine lv_if_eq (tgt := 136) hx hb dX7_passOne_118 (by decide) (fun c9 => absurd c9 (by decide)) (fun _ => ?_)
                  refine lv_aload_n hx hb dX7_passOne_121 rfl (lv_at hl 3 rfl) ?_
                  refine sy_getRX7 hx hb hts hown hE hP 0 rfl 6 (by decide) (hts _ (u_in uk_4_196)) (v := .ref (ad 7)) rfl dX7_passOne_122 ?_
                  refine lv_iload_n hx hb dX7_passOne_125 rfl (lv_at hl 2 rfl) ?_
                  refine sy_ialdN hx hb hE hP 7 rfl (show vp_in (nI k0) 40 from vp_in_nI (by omega) (by decide)) k0 (nI_clamp (by omega)) (v := (lX7_passA g q k0) 7 k0) rfl dX7_passOne_126 ?_
                  refine lv_bipush (v := 10) hx hb dX7_passOne_127 (by decide) ?_
                  refine lv_icmp_ge (tgt := 136) hx hb dX7_passOne_129 (by decide) (fun c_40 => ?_) (fun c_40 => ?_)
                  · skip
                    refine lv_iconst (v := 0) hx hb dX7_passOne_136 (by decide) ?_
                    exact K_11 hk0 c_1 c_11 c_28 c_35 c_37 c_39 c_40 _ _ _ hP hS hl
                  · skip
                    refine lv_iconst (v := 1) hx hb dX7_passOne_132 (by decide) ?_
                    exact K_12 hk0 c_1 c_11 c_28 c_35 c_37 c_39 c_40 _ _ _ hP hS hl
  exact hL_12 ((g 0 2).toNatClampNeg + 1) 0 (Nat.zero_le _) (by omega) _ _ _ hP hS (lv_sub hl [0, 1] rfl)
