theorem wear_60 (g : sG) (q : sQ) (i : Nat) (x : Int32) : (fX3_wearOn g q i x) 60 = g 60 := by
  unfold fX3_wearOn
  repeat' split
  all_goals first | rfl | exact sy_up_o _ _ _ (by omega)
theorem endNotice_60 (g : sG) (q : sQ) (j : Nat) (x : Int32) : (fX4_endNoticeOn g q j x) 60 = g 60 := by
  unfold fX4_endNoticeOn
  repeat' split
  all_goals first | rfl | rw [sy_up_o _ _ _ (by omega), sy_up_o _ _ _ (by omega)]
theorem move_60 (g : sG) (q : sQ) (x : Int32) : (fX5_move g q x) 60 = g 60 := by
  unfold fX5_move
  split
  · rw [sy_up_o _ _ _ (by omega), sy_up_o _ _ _ (by omega)]
  · rw [sy_up_o _ _ _ (by omega), sy_up_o _ _ _ (by omega), sy_up_o _ _ _ (by omega)]
theorem release_60 (g : sG) (q : sQ) (j : Nat) : (fX6_releaseSurplus g q j).2 60 = g 60 := by
  unfold fX6_releaseSurplus
  show (fX5_move _ q _) 60 = g 60
  rw [move_60, sy_up_o _ _ _ (by omega), sy_up_o _ _ _ (by omega)]
theorem dayA_60 (g : sG) (q : sQ) (k0 : Nat) : (lX6_dayA g q k0) 60 9 = g 60 9 + 1 := by
  induction k0 with
  | zero => exact sy_up_e _ _ _ _
  | succ k0 ih => rw [lX6_dayA, wear_60]; exact ih
theorem dayB_60 (g : sG) (q : sQ) (k0 : Nat) : (lX6_dayB g q k0) 60 9 = g 60 9 + 1 := by
  induction k0 with
  | zero => exact dayA_60 g q _
  | succ k0 ih => rw [lX6_dayB, endNotice_60]; exact ih
theorem dayC_60 (g : sG) (q : sQ) (k0 : Nat) : (lX6_dayC g q k0) 60 9 = g 60 9 + 1 := by
  induction k0 with
  | zero => exact dayB_60 g q _
  | succ k0 ih =>
    rw [lX6_dayC]
    split
    · exact ih
    · rw [sy_up_o _ _ _ (by omega), release_60]; exact ih
theorem day_60 (g : sG) (q : sQ) : (fX6_passOneDay g q) 60 9 = g 60 9 + 1 := by
  unfold fX6_passOneDay
  exact dayC_60 g q _
theorem day_ig {nT nK cT cK : Nat} {g : sG} (hG : IG nT nK cT cK g) (hd1 : ∃ d, g 60 9 = nI d ∧ d + 1 ≤ 5000) (q : sQ) : IG nT nK cT cK (fX6_passOneDay g q) := by
  unfold fX6_passOneDay
  exact lX6_dayC_ig hG hd1 q _
def lX6_pass (g : sG) (q : sQ) (x0 : Int32) : Nat → sG
  | 0 => g
  | k0 + 1 => (fX6_passOneDay (lX6_pass g q x0 k0) q)
theorem lX6_pass_ig {nT nK cT cK : Nat} {g : sG} (q : sQ) {x0 : Int32} (hG : IG nT nK cT cK g) (h1 : 1 ≤ x0 ∧ x0 ≤ 400) (h2 : (g 60 9) + x0 ≤ 5000) (k0 : Nat) (hk : k0 ≤ x0.toNatClampNeg) : IG nT nK cT cK (lX6_pass g q x0 k0) ∧ (lX6_pass g q x0 k0) 60 9 = g 60 9 + nI k0 ∧ (k0 < x0.toNatClampNeg → ∃ d, (lX6_pass g q x0 k0) 60 9 = nI d ∧ d + 1 ≤ 5000) := by
  obtain ⟨d, hd, hd2, -⟩ := hG.2.2.2.2.2.2.2.2.2.2
  have hx : x0 = nI x0.toNatClampNeg := nI_self (Int32.le_trans (by decide) h1.1)
  have hx4 : x0.toNatClampNeg ≤ 400 := by
    have := h1.2
    rw [hx] at this
    exact (nI_leI (by have := x0.toNatClampNeg_lt; omega) (by decide)).mp this
  rw [hd2, hx, nI_add] at h2
  have h3 := (nI_leI (b := 5000) (by omega) (by decide)).mp h2
  induction k0 with
  | zero => exact ⟨hG, (by show g 60 9 = g 60 9 + nI 0; rw [nI_0]; exact (Int32.add_zero _).symm), fun h => ⟨d, hd2, by omega⟩⟩
  | succ k0 ih =>
    obtain ⟨i1, i2, i3⟩ := ih (by omega)
    have e2 : (lX6_pass g q x0 (k0 + 1)) 60 9 = g 60 9 + nI (k0 + 1) := by
      rw [lX6_pass, day_60, i2, Int32.add_assoc, nI_1]
    refine ⟨?_, e2, fun h => ⟨d + (k0 + 1), by rw [e2, hd2, nI_add], by omega⟩⟩
    rw [lX6_pass]
    exact day_ig i1 (i3 (by omega)) q
def fX6_pass (g : sG) (q : sQ) (x0 : Int32) : Int32 × Int32 × sG × sQ := (if 1 ≤ x0 ∧ x0 ≤ 400 then (if 5000 < ((g 60 9) + x0) then (3, 0, g, q) else (0, ((lX6_pass g q x0 x0.toNatClampNeg) 60 9), (lX6_pass g q x0 x0.toNatClampNeg), q)) else (2, 0, g, q))
set_option maxHeartbeats 4000000 in
set_option maxRecDepth 100000 in
theorem mX6_pass (l : Launch) (hfl : l.stackTraces = false) (Z : sZ) (nT nK cT cK : Nat) (ad : Nat → Nat) (g : sG) (q : sQ) (x0 : Int32) (hT : nT ≤ 100) (hG : IG nT nK cT cK g) (hQ : IQ nT nK q) : sXi l Z yX6_pass (uW (.code yX6_pass cX6_pass 3 (some .int))) { frames := 7, cells := 2, slots := 12, locals := 103 } [.ref (ad 60), .int x0] nT nK cT cK ad g q (fun r g1 q1 => (0, r, g1, q1) = fX6_pass g q x0) (fun E => exc E = (fX6_pass g q x0).1) := by
  refine vx_ofW (cc := cX6_pass) (maxL := 3) (ret := (some .int)) (by decide) rfl ?_
  intro p e s m args below meth c s₁ B hml hno hv
  obtain ⟨rfl, hE, hP⟩ := hv
  have hx := B.exec
  have hb := B.bytes
  have hr := B.returns
  have hts := atoms_spec (ws := uW (.code yX6_pass cX6_pass 3 (some .int))) B.pre
  have hown : s.vm.findClass RX6 = some m.cls := findClass_of_methodNamed B.named
  have hlocks := B.notSynchronized
  have hS : va_S (sy_A Z) s.heap s.heap [] := va_S.rf
  have hl := lv_entry ([.ref (ad 60), .int x0]) (n := 3) (Nat.le_of_ble_eq_true rfl)
  rw [lg_entry_eq]
  generalize (lg_sl ([.ref (ad 60), .int x0]) ++ List.replicate (3 - (lg_sl ([.ref (ad 60), .int x0])).length) Slot.unset).toArray = ls at hl ⊢
  have hl : lv_has ls 3 [(0, .ref (ad 60)), (1, .int x0)] := hl
  refine lv_iload_n hx hb dX6_pass_0 rfl (lv_at hl 1 rfl) ?_
  refine lv_iconst (v := 1) hx hb dX6_pass_1 (by decide) ?_
  refine lv_sipush (v := 400) hx hb dX6_pass_2 (by decide) ?_
  refine sy_xkv (sy_xS (As := [.int x0, .int 1, .int 400]) (rest := []) ⟨hx, hb, hml, hown, hts⟩ hE hP hS (mX6_needRange l hfl Z nT nK cT cK ad g q x0 1 400) (va_cwS 3 hts (gu_S uk_2_28 uk_2_29 uk_1_1 uk_2_30) rfl rfl rfl (by decide +kernel) ⟨Nat.le_of_ble_eq_true rfl, Nat.le_of_ble_eq_true rfl⟩) rfl hl.1 rfl (Nat.le_of_ble_eq_true rfl) dX6_pass_5 ⟨Nat.le_of_ble_eq_true rfl, Nat.le_of_ble_eq_true rfl⟩) hno hlocks hE hS ⟨Nat.le_of_ble_eq_true rfl, Nat.le_of_ble_eq_true rfl⟩ (fun E9 h9 => (by rw [h9.1, exc_IA]; unfold fX6_pass; rw [if_neg h9.2] <;> rfl)) (fun g_e_1 q_e_1 H locs e_1 hP hS => ?_)
  have c_3 := e_1.1
  obtain ⟨-, h7, h8⟩ := e_1; rw [h7, h8] at hP
  refine lv_aload_n hx hb dX6_pass_8 rfl (lv_at hl 0 rfl) ?_
  refine sy_getRX6 hx hb hts hown hE hP 60 rfl 9 (by decide) (hts _ (u_in uk_1_161)) (v := .int (g 60 9)) rfl dX6_pass_9 ?_
  refine lv_iload_n hx hb dX6_pass_12 rfl (lv_at hl 1 rfl) ?_
  refine lv_iadd hx hb dX6_pass_13 ?_
  refine lv_sipush (v := 5000) hx hb dX6_pass_14 (by decide) ?_
  refine lv_icmp_gt (tgt := 24) hx hb dX6_pass_17 (by decide) (fun c_4 => ?_) (fun c_4 => ?_)
  · skip
    refine lv_iconst (v := 0) hx hb dX6_pass_24 (by decide) ?_
    refine sy_xkv (sy_xS (As := [.int 0]) (rest := []) ⟨hx, hb, hml, hown, hts⟩ hE hP hS (mX6_needState l hfl Z nT nK cT cK ad g q 0) (va_cwS 1 hts (gu_S uk_2_50 uk_2_51 uk_1_1 uk_2_52) rfl rfl rfl (by decide +kernel) ⟨Nat.le_of_ble_eq_true rfl, Nat.le_of_ble_eq_true rfl⟩) rfl hl.1 rfl (Nat.le_of_ble_eq_true rfl) dX6_pass_25 ⟨Nat.le_of_ble_eq_true rfl, Nat.le_of_ble_eq_true rfl⟩) hno hlocks hE hS ⟨Nat.le_of_ble_eq_true rfl, Nat.le_of_ble_eq_true rfl⟩ (fun E9 h9 => (by rw [h9.1, exc_IS]; unfold fX6_pass; rw [if_pos c_3, if_pos c_4] <;> rfl)) (fun g_e_5 q_e_5 H locs e_5 hP hS => ?_)
    exact absurd rfl e_5.1
  · skip
    refine lv_iconst (v := 1) hx hb dX6_pass_20 (by decide) ?_
    refine lv_goto (tgt := 25) hx hb dX6_pass_21 (by decide) ?_
    refine sy_xkv (sy_xS (As := [.int 1]) (rest := []) ⟨hx, hb, hml, hown, hts⟩ hE hP hS (mX6_needState l hfl Z nT nK cT cK ad g q 1) (va_cwS 1 hts (gu_S uk_2_50 uk_2_51 uk_1_1 uk_2_52) rfl rfl rfl (by decide +kernel) ⟨Nat.le_of_ble_eq_true rfl, Nat.le_of_ble_eq_true rfl⟩) rfl hl.1 rfl (Nat.le_of_ble_eq_true rfl) dX6_pass_25 ⟨Nat.le_of_ble_eq_true rfl, Nat.le_of_ble_eq_true rfl⟩) hno hlocks hE hS ⟨Nat.le_of_ble_eq_true rfl, Nat.le_of_ble_eq_true rfl⟩ (fun E9 h9 => (absurd (by decide) h9.2)) (fun g_e_8 q_e_8 H locs e_8 hP hS => ?_)
    obtain ⟨-, h7, h8⟩ := e_8; rw [h7, h8] at hP
    have hx9 : 1 ≤ x0 ∧ x0 ≤ 400 := c_3
    refine lv_iconst (v := 0) hx hb dX6_pass_28 (by decide) ?_
    refine lv_istore_n (lv' := [(2, .int 0), (0, .ref (ad 60)), (1, .int x0)]) hx hb dX6_pass_29 rfl hl (by decide) rfl (fun ls hl => ?_)
    have hL_30 : ∀ (n k0 : Nat), k0 ≤ x0.toNatClampNeg → x0.toNatClampNeg + 1 ≤ k0 + n → ∀ (H : Heap) (locs : List Loc) (ls : Array Slot), Sy Z nT nK cT cK ad (lX6_pass g q x0 k0) q H → va_S (sy_A Z) s.heap H locs → lv_has ls 3 [(2, .int (nI k0)), (0, .ref (ad 60)), (1, .int x0)] → W p l e ({ frames := 7, cells := 2, slots := 12, locals := 103 } : Room) s m ([.ref (ad 60), .int x0] : List Value).toArray below meth c H locs 2 12 (vx_MQ below (sQi Z nT nK cT cK ad (fun r g1 q1 => (0, r, g1, q1) = fX6_pass g q x0)) (sQx Z nT nK cT cK ad g q (fun E => exc E = (fX6_pass g q x0).1)) ([.ref (ad 60), .int x0] : List Value).toArray s 2 12 (sy_A Z)) (F0 m 30 ls []) := by
      intro n
      induction n with
      | zero => intro k0 hi hn ; exact absurd hn (by omega)
      | succ n ih =>
        intro k0 hi hn H locs ls hP hS hl
        have hN9 := x0.toNatClampNeg_lt
        refine lv_iload_n hx hb dX6_pass_30 rfl (lv_at hl 0 rfl) ?_
        refine lv_iload_n hx hb dX6_pass_31 rfl (lv_at hl 2 rfl) ?_
        refine lv_icmp_ge (tgt := 45) hx hb dX6_pass_32 (by decide) (fun c_11 => ?_) (fun c_11 => ?_)
        · skip
          obtain rfl : x0.toNatClampNeg = k0 := loop_exit (N := x0.toNatClampNeg) (nI_self (Int32.le_trans (by decide) hx9.1)) x0.toNatClampNeg_lt hi c_11
          refine lv_aload_n hx hb dX6_pass_45 rfl (lv_at hl 1 rfl) ?_
          refine sy_getRX6 hx hb hts hown hE hP 60 rfl 9 (by decide) (hts _ (u_in uk_1_161)) (v := .int ((lX6_pass g q x0 x0.toNatClampNeg) 60 9)) rfl dX6_pass_46 ?_
          exact vx_ret (sy_ireti hx hb hr hlocks hE hP hS dX6_pass_49 ⟨Nat.le_of_ble_eq_true rfl, Nat.le_of_ble_eq_true rfl⟩ (by unfold fX6_pass; rw [if_pos c_3, if_neg c_4] <;> rfl))
        · skip
          have hk0 : k0 < x0.toNatClampNeg := loop_in (N := x0.toNatClampNeg) (nI_self (Int32.le_trans (by decide) hx9.1)) x0.toNatClampNeg_lt hi c_11
          refine lv_aload_n hx hb dX6_pass_35 rfl (lv_at hl 1 rfl) ?_
          refine sy_kv (sy_rV (o := 60) (As := []) (rest := []) ⟨hx, hb, hml, hown, hts⟩ hE hP hS (mX6_passOneDay l hfl Z nT nK cT cK ad (lX6_pass g q x0 k0) q hT (lX6_pass_ig q hG c_3 (Int32.not_lt.mp c_4) k0 (by omega)).1 hQ ((lX6_pass_ig q hG c_3 (Int32.not_lt.mp c_4) k0 (by omega)).2.2 hk0)) (cwV 0 hts (gu_V uk_4_9 uk_4_11 uk_0_11 uk_1_1 uk_4_12) rfl rfl rfl (by decide +kernel) ⟨Nat.le_of_ble_eq_true rfl, Nat.le_of_ble_eq_true rfl⟩) (sy_recv (kc := 7) hE hP rfl (by decide) rfl rfl rfl) rfl hl.1 rfl (Nat.le_of_ble_eq_true rfl) dX6_pass_36 ⟨Nat.le_of_ble_eq_true rfl, Nat.le_of_ble_eq_true rfl⟩) hS (fun g_e_12 q_e_12 H locs e_12 hP hS => ?_)
          cases e_12
          refine lv_iinc (v := ((nI k0) + 1)) (lv' := [(2, .int ((nI k0) + 1)), (0, .ref (ad 60)), (1, .int x0)]) hx hb dX6_pass_39 hl (k := 0) rfl rfl (by decide) rfl (fun ls hl => ?_)
          refine lv_goto (tgt := 30) hx hb dX6_pass_42 (by decide) ?_
          have hF : lX6_pass g q x0 (k0 + 1) = (fX6_passOneDay (lX6_pass g q x0 k0) q) := by rw [lX6_pass] <;> rfl
          exact ih (k0 + 1) (by omega) (by omega) H locs ls (by rw [hF]; exact hP) hS (by rw [nI_succ]; exact lv_sub hl [0, 1, 2] rfl)
    exact hL_30 (x0.toNatClampNeg + 1) 0 (Nat.zero_le _) (by omega) _ _ _ hP hS (lv_sub hl [0, 1, 2] rfl)
