theorem lX7_passA_o (g : sG) (q : sQ) {o : Nat} (ho : o ≠ 7) (k0 : Nat) : (lX7_passA g q k0) o = (sy_up g 0 1 ((g 0 1) + 1)) o := by
  induction k0 with
  | zero => rfl
  | succ k0 ih =>
    rw [lX7_passA]
    repeat' split
    all_goals (rw [sy_up_o _ _ _ ho]; exact ih)
theorem lX7_passB_o (g : sG) (q : sQ) {o : Nat} (ho : o ≠ 0 ∧ o ≠ 33 ∧ o ≠ 41 ∧ o ≠ 43) (k0 : Nat) : (lX7_passB g q k0) o = (lX7_passA g q (g 0 2).toNatClampNeg) o := by
  obtain ⟨h0, h1, h2, h3⟩ := ho
  induction k0 with
  | zero => rfl
  | succ k0 ih =>
    rw [lX7_passB]
    repeat' split
    all_goals first | exact ih | (simp only [sy_up_o _ _ _ h0, sy_up_o _ _ _ h1, sy_up_o _ _ _ h2, sy_up_o _ _ _ h3]; exact ih)
theorem lX7_passB_0 (g : sG) (q : sQ) {j : Nat} (hj : j ≠ 44 ∧ j ≠ 45 ∧ j ≠ 46) (k0 : Nat) : (lX7_passB g q k0) 0 j = (lX7_passA g q (g 0 2).toNatClampNeg) 0 j := by
  obtain ⟨h0, h1, h2⟩ := hj
  induction k0 with
  | zero => rfl
  | succ k0 ih =>
    rw [lX7_passB]
    repeat' split
    all_goals first | exact ih | (simp only [sy_up_a]; simp [h0, h1, h2, ih])
/-- what a day leaves as it was -/
theorem passOne_o (g : sG) (q : sQ) {o : Nat} (ho : o ≠ 0 ∧ o ≠ 7 ∧ o ≠ 33 ∧ o ≠ 41 ∧ o ≠ 43) : (fX7_passOne g q) o = g o := by
  unfold fX7_passOne
  rw [lX7_passB_o g q ⟨ho.1, ho.2.2⟩, lX7_passA_o g q ho.2.1, sy_up_o _ _ _ ho.1]
theorem passOne_0 (g : sG) (q : sQ) {j : Nat} (hj : j ≠ 1 ∧ j ≠ 44 ∧ j ≠ 45 ∧ j ≠ 46) : (fX7_passOne g q) 0 j = g 0 j := by
  unfold fX7_passOne
  rw [lX7_passB_0 g q hj.2, lX7_passA_o g q (by decide), sy_up_k _ _ _ hj.1]
theorem passOne_d (g : sG) (q : sQ) : (fX7_passOne g q) 0 1 = g 0 1 + 1 := by
  unfold fX7_passOne
  rw [lX7_passB_0 g q (by decide), lX7_passA_o g q (by decide), sy_up_e]
theorem passOne_im {nT nK : Nat} {g : sG} (q : sQ) (hI : IM nT nK g) {d : Nat} (hd : g 0 1 = nI d) (h : d + 1 ≤ 5000) : IM nT nK (fX7_passOne g q) := by
  obtain ⟨h1, h2, h3, h4, h5, h6, h7, h8, h9, h10, d', h11, h12, h13⟩ := hI
  have e0 : ∀ j : Nat, j ≠ 1 ∧ j ≠ 44 ∧ j ≠ 45 ∧ j ≠ 46 → (fX7_passOne g q) 0 j = g 0 j := fun j hj => passOne_0 g q hj
  have hdd : d' = d := (nI_eq (by omega) (by omega)).mp (h12.symm.trans hd)
  subst hdd
  unfold IM
  rw [e0 2 (by decide), e0 28 (by decide), e0 20 (by decide), e0 24 (by decide), passOne_o g q (o := 4) (by decide), passOne_o g q (o := 18) (by decide), passOne_o g q (o := 30) (by decide), passOne_o g q (o := 31) (by decide), passOne_o g q (o := 37) (by decide), passOne_d]
  refine ⟨h1, h2, h3, h4, h5, h6, h7, h8, h9, h10, d' + 1, h, ?_, fun j hj => ?_⟩
  · rw [h12]; exact nI_1 d'
  · obtain ⟨b, hb, hb2⟩ := h13 j hj
    exact ⟨b, by omega, hb2⟩
theorem nI_self {x : Int32} (h : 0 ≤ x) : x = nI x.toNatClampNeg := by
  obtain ⟨j, h1, h2⟩ := nI_of (Int32.not_lt.mpr h)
  rw [h2, nI_clamp h1]
def lX7_pass (g : sG) (q : sQ) (x0 : Int32) : Nat → sG
  | 0 => (sy_up g 0 0 0)
  | k0 + 1 => (fX7_passOne (lX7_pass g q x0 k0) q)
theorem lX7_pass_im {nT nK : Nat} {g : sG} (q : sQ) {x0 : Int32} (hI : IM nT nK g) (h1 : 1 ≤ x0 ∧ x0 ≤ 400) (h2 : (g 0 1) + x0 ≤ 5000) (k0 : Nat) (hk : k0 ≤ x0.toNatClampNeg) : IM nT nK (lX7_pass g q x0 k0) ∧ (lX7_pass g q x0 k0) 0 1 = g 0 1 + nI k0 := by
  induction k0 with
  | zero => exact ⟨im_0 (by decide) hI, (by show g 0 1 = g 0 1 + nI 0; rw [nI_0]; exact (Int32.add_zero _).symm)⟩
  | succ k0 ih =>
    obtain ⟨i1, i2⟩ := ih (by omega)
    obtain ⟨d, hd, hd2, -⟩ := hI.2.2.2.2.2.2.2.2.2.2
    have hx : x0 = nI x0.toNatClampNeg := nI_self (Int32.le_trans (by decide) h1.1)
    have hx4 : x0.toNatClampNeg ≤ 400 := by
      have := h1.2
      rw [hx] at this
      exact (nI_leI (by have := x0.toNatClampNeg_lt; omega) (by decide)).mp this
    rw [hd2, hx, nI_add] at h2
    have h3 := (nI_leI (b := 5000) (by omega) (by decide)).mp h2
    rw [lX7_pass]
    refine ⟨passOne_im q i1 (d := d + k0) (by rw [i2, hd2, nI_add]) (by omega), ?_⟩
    rw [passOne_d, i2, Int32.add_assoc, nI_1]
def fX7_pass (g : sG) (q : sQ) (x0 : Int32) : Int32 × sG := (if 1 ≤ x0 ∧ x0 ≤ 400 then (if ((g 0 1) + x0) ≤ 5000 then (((lX7_pass g q x0 x0.toNatClampNeg) 0 1), (lX7_pass g q x0 x0.toNatClampNeg)) else (0, (sy_up g 0 0 2))) else (0, (sy_up g 0 0 1)))
set_option maxHeartbeats 4000000 in
set_option maxRecDepth 100000 in
theorem mX7_pass (l : Launch) (hfl : l.stackTraces = false) (Z : sZ) (nT nK cT cK : Nat) (ad : Nat → Nat) (g : sG) (q : sQ) (x0 : Int32) {mT mK : Nat} (hI : IM mT mK g) : sMi l Z yX7_pass (uW (.code yX7_pass cX7_pass 3 (some .int))) { frames := 1, cells := 0, slots := 0, locals := 23 } [.ref (ad 0), .int x0] nT nK cT cK ad g q (fun r g1 q1 => (r, g1, q1) = ((fX7_pass g q x0).1, (fX7_pass g q x0).2, q)) := by
  refine Met.ofW (cc := cX7_pass) (maxL := 3) (ret := (some .int)) (by decide) rfl ?_
  intro p e s m args below meth c s₁ B hml hv
  obtain ⟨rfl, hE, hP⟩ := hv
  have hx := B.exec
  have hb := B.bytes
  have hr := B.returns
  have hts := atoms_spec (ws := uW (.code yX7_pass cX7_pass 3 (some .int))) B.pre
  have hown : s.vm.findClass RX7 = some m.cls := findClass_of_methodNamed B.named
  have hlocks := B.notSynchronized
  have hS : va_S (sy_A Z) s.heap s.heap [] := va_S.rf
  have hl := lv_entry ([.ref (ad 0), .int x0]) (n := 3) (Nat.le_of_ble_eq_true rfl)
  rw [lg_entry_eq]
  generalize (lg_sl ([.ref (ad 0), .int x0]) ++ List.replicate (3 - (lg_sl ([.ref (ad 0), .int x0])).length) Slot.unset).toArray = ls at hl ⊢
  have hl : lv_has ls 3 [(0, .ref (ad 0)), (1, .int x0)] := hl
  refine lv_aload_n hx hb dX7_pass_0 rfl (lv_at hl 0 rfl) ?_
  refine lv_iload_n hx hb dX7_pass_1 rfl (lv_at hl 1 rfl) ?_
  refine lv_iconst (v := 1) hx hb dX7_pass_2 (by decide) ?_
  refine lv_sipush (v := 400) hx hb dX7_pass_3 (by decide) ?_
  refine sy_ki (sy_rS (As := [.int x0, .int 1, .int 400]) (rest := [.ref (ad 0)]) ⟨hx, hb, hml, hown, hts⟩ hE hP hS (nX7_is l hfl Z nT nK cT cK ad g q x0 1 400) (va_cwS 3 hts (gu_S uk_5_101 uk_5_102 uk_1_9 uk_5_103) rfl rfl rfl (by decide +kernel) ⟨Nat.le_of_ble_eq_true rfl, Nat.le_of_ble_eq_true rfl⟩) rfl hl.1 rfl (Nat.le_of_ble_eq_true rfl) dX7_pass_6 ⟨Nat.le_of_ble_eq_true rfl, Nat.le_of_ble_eq_true rfl⟩) hS (fun r_e_1 g_e_1 q_e_1 H locs e_1 hP hS => ?_)
  cases e_1
  refine lv_if_ne (tgt := 16) hx hb dX7_pass_9 (by decide) (fun c_2 => ?_) (fun c_2 => ?_)
  · have c_2 := iB_n.mp c_2
    refine lv_aload_n hx hb dX7_pass_16 rfl (lv_at hl 0 rfl) ?_
    refine sy_getRX7 hx hb hts hown hE hP 0 rfl 1 (by decide) (hts _ (u_in uk_4_191)) (v := .int (g 0 1)) rfl dX7_pass_17 ?_
    refine lv_iload_n hx hb dX7_pass_20 rfl (lv_at hl 1 rfl) ?_
    refine lv_iadd hx hb dX7_pass_21 ?_
    refine lv_sipush (v := 5000) hx hb dX7_pass_22 (by decide) ?_
    refine lv_icmp_le (tgt := 32) hx hb dX7_pass_25 (by decide) (fun c_3 => ?_) (fun c_3 => ?_)
    · skip
      refine lv_iconst (v := 0) hx hb dX7_pass_32 (by decide) ?_
      refine sy_ki (sy_rV (o := 0) (As := [.int 0]) (rest := []) ⟨hx, hb, hml, hown, hts⟩ hE hP hS (nX7_refused l hfl Z nT nK cT cK ad g q 0) (cwV 1 hts (gu_V uk_5_104 uk_5_106 uk_0_17 uk_1_9 uk_5_107) rfl rfl rfl (by decide +kernel) ⟨Nat.le_of_ble_eq_true rfl, Nat.le_of_ble_eq_true rfl⟩) (sy_recv (kc := 8) hE hP rfl (by decide) rfl rfl rfl) rfl hl.1 rfl (Nat.le_of_ble_eq_true rfl) dX7_pass_33 ⟨Nat.le_of_ble_eq_true rfl, Nat.le_of_ble_eq_true rfl⟩) hS (fun r_e_4 g_e_4 q_e_4 H locs e_4 hP hS => ?_)
      cases e_4
      refine sy_top (y := 0) (by rfl) ?_
      refine lv_if_eq (tgt := 41) hx hb dX7_pass_36 (by decide) (fun _ => ?_) (fun c9 => absurd c9 (by decide))
      refine lv_iconst (v := 0) hx hb dX7_pass_41 (by decide) ?_
      have hx9 : 1 ≤ x0 ∧ x0 ≤ 400 := c_2
      refine lv_istore_n (lv' := [(2, .int 0), (0, .ref (ad 0)), (1, .int x0)]) hx hb dX7_pass_42 rfl hl (by decide) rfl (fun ls hl => ?_)
      have hL_43 : ∀ (n k0 : Nat), k0 ≤ x0.toNatClampNeg → x0.toNatClampNeg + 1 ≤ k0 + n → ∀ (H : Heap) (locs : List Loc) (ls : Array Slot), Sy Z nT nK cT cK ad (lX7_pass g q x0 k0) q H → va_S (sy_A Z) s.heap H locs → lv_has ls 3 [(2, .int (nI k0)), (0, .ref (ad 0)), (1, .int x0)] → W p l e ({ frames := 1, cells := 0, slots := 0, locals := 23 } : Room) s m ([.ref (ad 0), .int x0] : List Value).toArray below meth c H locs 0 0 (MQ below (sQi Z nT nK cT cK ad (fun r g1 q1 => (r, g1, q1) = ((fX7_pass g q x0).1, (fX7_pass g q x0).2, q))) ([.ref (ad 0), .int x0] : List Value).toArray s 0 0 (sy_A Z)) (F0 m 43 ls []) := by
        intro n
        induction n with
        | zero => intro k0 hi hn ; exact absurd hn (by omega)
        | succ n ih =>
          intro k0 hi hn H locs ls hP hS hl
          have hN9 := x0.toNatClampNeg_lt
          refine lv_iload_n hx hb dX7_pass_43 rfl (lv_at hl 0 rfl) ?_
          refine lv_iload_n hx hb dX7_pass_44 rfl (lv_at hl 2 rfl) ?_
          refine lv_icmp_ge (tgt := 58) hx hb dX7_pass_45 (by decide) (fun c_5 => ?_) (fun c_5 => ?_)
          · skip
            obtain rfl : x0.toNatClampNeg = k0 := loop_exit (N := x0.toNatClampNeg) (nI_self (Int32.le_trans (by decide) hx9.1)) x0.toNatClampNeg_lt hi c_5
            refine lv_aload_n hx hb dX7_pass_58 rfl (lv_at hl 1 rfl) ?_
            refine sy_getRX7 hx hb hts hown hE hP 0 rfl 1 (by decide) (hts _ (u_in uk_4_191)) (v := .int ((lX7_pass g q x0 x0.toNatClampNeg) 0 1)) rfl dX7_pass_59 ?_
            exact (sy_ireti hx hb hr hlocks hE hP hS dX7_pass_62 ⟨Nat.le_of_ble_eq_true rfl, Nat.le_of_ble_eq_true rfl⟩ (by unfold fX7_pass; rw [if_pos c_2, if_pos c_3] <;> rfl))
          · skip
            have hk0 : k0 < x0.toNatClampNeg := loop_in (N := x0.toNatClampNeg) (nI_self (Int32.le_trans (by decide) hx9.1)) x0.toNatClampNeg_lt hi c_5
            refine lv_aload_n hx hb dX7_pass_48 rfl (lv_at hl 1 rfl) ?_
            refine sy_kv (sy_rV (o := 0) (As := []) (rest := []) ⟨hx, hb, hml, hown, hts⟩ hE hP hS (mX7_passOne l hfl Z nT nK cT cK ad (lX7_pass g q x0 k0) q (lX7_pass_im q hI c_2 c_3 k0 (by omega)).1) (cwV 0 hts (gu_V uk_6_4 uk_6_6 uk_0_31 uk_1_9 uk_6_7) rfl rfl rfl (by decide +kernel) ⟨Nat.le_of_ble_eq_true rfl, Nat.le_of_ble_eq_true rfl⟩) (sy_recv (kc := 8) hE hP rfl (by decide) rfl rfl rfl) rfl hl.1 rfl (Nat.le_of_ble_eq_true rfl) dX7_pass_49 ⟨Nat.le_of_ble_eq_true rfl, Nat.le_of_ble_eq_true rfl⟩) hS (fun g_e_6 q_e_6 H locs e_6 hP hS => ?_)
            cases e_6
            refine lv_iinc (v := ((nI k0) + 1)) (lv' := [(2, .int ((nI k0) + 1)), (0, .ref (ad 0)), (1, .int x0)]) hx hb dX7_pass_52 hl (k := 0) rfl rfl (by decide) rfl (fun ls hl => ?_)
            refine lv_goto (tgt := 43) hx hb dX7_pass_55 (by decide) ?_
            have hF : lX7_pass g q x0 (k0 + 1) = (fX7_passOne (lX7_pass g q x0 k0) q) := by rw [lX7_pass] <;> rfl
            exact ih (k0 + 1) (by omega) (by omega) H locs ls (by rw [hF]; exact hP) hS (by rw [nI_succ]; exact lv_sub hl [0, 1, 2] rfl)
      exact hL_43 (x0.toNatClampNeg + 1) 0 (Nat.zero_le _) (by omega) _ _ _ hP hS (lv_sub hl [0, 1, 2] rfl)
    · skip
      refine lv_iconst (v := 2) hx hb dX7_pass_28 (by decide) ?_
      refine lv_goto (tgt := 33) hx hb dX7_pass_29 (by decide) ?_
      refine sy_ki (sy_rV (o := 0) (As := [.int 2]) (rest := []) ⟨hx, hb, hml, hown, hts⟩ hE hP hS (nX7_refused l hfl Z nT nK cT cK ad g q 2) (cwV 1 hts (gu_V uk_5_104 uk_5_106 uk_0_17 uk_1_9 uk_5_107) rfl rfl rfl (by decide +kernel) ⟨Nat.le_of_ble_eq_true rfl, Nat.le_of_ble_eq_true rfl⟩) (sy_recv (kc := 8) hE hP rfl (by decide) rfl rfl rfl) rfl hl.1 rfl (Nat.le_of_ble_eq_true rfl) dX7_pass_33 ⟨Nat.le_of_ble_eq_true rfl, Nat.le_of_ble_eq_true rfl⟩) hS (fun r_e_7 g_e_7 q_e_7 H locs e_7 hP hS => ?_)
      cases e_7
      refine sy_top (y := 1) (by rfl) ?_
      refine lv_if_eq (tgt := 41) hx hb dX7_pass_36 (by decide) (fun c9 => absurd c9 (by decide)) (fun _ => ?_)
      refine lv_iconst (v := 0) hx hb dX7_pass_39 (by decide) ?_
      exact (sy_ireti hx hb hr hlocks hE hP hS dX7_pass_40 ⟨Nat.le_of_ble_eq_true rfl, Nat.le_of_ble_eq_true rfl⟩ (by unfold fX7_pass; rw [if_pos c_2, if_neg c_3] <;> rfl))
  · have c_2 := iB_0.mp c_2
    refine lv_iconst (v := 1) hx hb dX7_pass_12 (by decide) ?_
    refine lv_goto (tgt := 33) hx hb dX7_pass_13 (by decide) ?_
    refine sy_ki (sy_rV (o := 0) (As := [.int 1]) (rest := []) ⟨hx, hb, hml, hown, hts⟩ hE hP hS (nX7_refused l hfl Z nT nK cT cK ad g q 1) (cwV 1 hts (gu_V uk_5_104 uk_5_106 uk_0_17 uk_1_9 uk_5_107) rfl rfl rfl (by decide +kernel) ⟨Nat.le_of_ble_eq_true rfl, Nat.le_of_ble_eq_true rfl⟩) (sy_recv (kc := 8) hE hP rfl (by decide) rfl rfl rfl) rfl hl.1 rfl (Nat.le_of_ble_eq_true rfl) dX7_pass_33 ⟨Nat.le_of_ble_eq_true rfl, Nat.le_of_ble_eq_true rfl⟩) hS (fun r_e_8 g_e_8 q_e_8 H locs e_8 hP hS => ?_)
    cases e_8
    refine sy_top (y := 1) (by rfl) ?_
    refine lv_if_eq (tgt := 41) hx hb dX7_pass_36 (by decide) (fun c9 => absurd c9 (by decide)) (fun _ => ?_)
    refine lv_iconst (v := 0) hx hb dX7_pass_39 (by decide) ?_
    exact (sy_ireti hx hb hr hlocks hE hP hS dX7_pass_40 ⟨Nat.le_of_ble_eq_true rfl, Nat.le_of_ble_eq_true rfl⟩ (by unfold fX7_pass; rw [if_neg c_2] <;> rfl))
