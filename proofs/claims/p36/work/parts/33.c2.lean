def fX2_takesRate (g : sG) (q : sQ)  : Int32 := (if 30 ≤ (g 67 3) then 0 else 1)
set_option maxHeartbeats 4000000 in
set_option maxRecDepth 100000 in
theorem mX2_takesRate (l : Launch) (hfl : l.stackTraces = false) (Z : sZ) (nT nK cT cK : Nat) (ad : Nat → Nat) (g : sG) (q : sQ)  (hT : nT ≤ 100) : sMi l Z yX2_takesRate (uW (.code yX2_takesRate cX2_takesRate 1 (some .boolean))) { frames := 0, cells := 0, slots := 0, locals := 0 } [.ref (ad 67)] nT nK cT cK ad g q (fun r g1 q1 => (r, g1, q1) = (fX2_takesRate g q, g, q)) := by
  refine Met.ofW (cc := cX2_takesRate) (maxL := 1) (ret := (some .boolean)) (by decide) rfl ?_
  intro p e s m args below meth c s₁ B hml hv
  obtain ⟨rfl, hE, hP⟩ := hv
  have hx := B.exec
  have hb := B.bytes
  have hr := B.returns
  have hts := atoms_spec (ws := uW (.code yX2_takesRate cX2_takesRate 1 (some .boolean))) B.pre
  have hown : s.vm.findClass RX2 = some m.cls := findClass_of_methodNamed B.named
  have hlocks := B.notSynchronized
  have hS : va_S (sy_A Z) s.heap s.heap [] := va_S.rf
  have hl := lv_entry ([.ref (ad 67)]) (n := 1) (Nat.le_of_ble_eq_true rfl)
  rw [lg_entry_eq]
  generalize (lg_sl ([.ref (ad 67)]) ++ List.replicate (1 - (lg_sl ([.ref (ad 67)])).length) Slot.unset).toArray = ls at hl ⊢
  have hl : lv_has ls 1 [(0, .ref (ad 67))] := hl
  refine lv_aload_n hx hb dX2_takesRate_0 rfl (lv_at hl 0 rfl) ?_
  refine sy_getRX2 hx hb hts hown hE hP 67 rfl 3 (by decide) (hts _ (u_in uk_1_107)) (v := .int (g 67 3)) rfl dX2_takesRate_1 ?_
  refine lv_bipush (v := 30) hx hb dX2_takesRate_4 (by decide) ?_
  refine lv_icmp_ge (tgt := 13) hx hb dX2_takesRate_6 (by decide) (fun c_1 => ?_) (fun c_1 => ?_)
  · skip
    refine lv_iconst (v := 0) hx hb dX2_takesRate_13 (by decide) ?_
    exact (sy_iretz hx hb hr hlocks hE hP hS dX2_takesRate_14 ⟨Nat.le_of_ble_eq_true rfl, Nat.le_of_ble_eq_true rfl⟩ (by decide) (by unfold fX2_takesRate; rw [if_pos c_1] <;> rfl))
  · skip
    refine lv_iconst (v := 1) hx hb dX2_takesRate_9 (by decide) ?_
    refine lv_goto (tgt := 14) hx hb dX2_takesRate_10 (by decide) ?_
    exact (sy_iretz hx hb hr hlocks hE hP hS dX2_takesRate_14 ⟨Nat.le_of_ble_eq_true rfl, Nat.le_of_ble_eq_true rfl⟩ (by decide) (by unfold fX2_takesRate; rw [if_neg c_1] <;> rfl))
def fX2_takesAmnesty (g : sG) (q : sQ)  : Int32 := (if 10 ≤ (g 67 6) then 0 else 1)
set_option maxHeartbeats 4000000 in
set_option maxRecDepth 100000 in
theorem mX2_takesAmnesty (l : Launch) (hfl : l.stackTraces = false) (Z : sZ) (nT nK cT cK : Nat) (ad : Nat → Nat) (g : sG) (q : sQ)  (hT : nT ≤ 100) : sMi l Z yX2_takesAmnesty (uW (.code yX2_takesAmnesty cX2_takesAmnesty 1 (some .boolean))) { frames := 0, cells := 0, slots := 0, locals := 0 } [.ref (ad 67)] nT nK cT cK ad g q (fun r g1 q1 => (r, g1, q1) = (fX2_takesAmnesty g q, g, q)) := by
  refine Met.ofW (cc := cX2_takesAmnesty) (maxL := 1) (ret := (some .boolean)) (by decide) rfl ?_
  intro p e s m args below meth c s₁ B hml hv
  obtain ⟨rfl, hE, hP⟩ := hv
  have hx := B.exec
  have hb := B.bytes
  have hr := B.returns
  have hts := atoms_spec (ws := uW (.code yX2_takesAmnesty cX2_takesAmnesty 1 (some .boolean))) B.pre
  have hown : s.vm.findClass RX2 = some m.cls := findClass_of_methodNamed B.named
  have hlocks := B.notSynchronized
  have hS : va_S (sy_A Z) s.heap s.heap [] := va_S.rf
  have hl := lv_entry ([.ref (ad 67)]) (n := 1) (Nat.le_of_ble_eq_true rfl)
  rw [lg_entry_eq]
  generalize (lg_sl ([.ref (ad 67)]) ++ List.replicate (1 - (lg_sl ([.ref (ad 67)])).length) Slot.unset).toArray = ls at hl ⊢
  have hl : lv_has ls 1 [(0, .ref (ad 67))] := hl
  refine lv_aload_n hx hb dX2_takesAmnesty_0 rfl (lv_at hl 0 rfl) ?_
  refine sy_getRX2 hx hb hts hown hE hP 67 rfl 6 (by decide) (hts _ (u_in uk_1_110)) (v := .int (g 67 6)) rfl dX2_takesAmnesty_1 ?_
  refine lv_bipush (v := 10) hx hb dX2_takesAmnesty_4 (by decide) ?_
  refine lv_icmp_ge (tgt := 13) hx hb dX2_takesAmnesty_6 (by decide) (fun c_1 => ?_) (fun c_1 => ?_)
  · skip
    refine lv_iconst (v := 0) hx hb dX2_takesAmnesty_13 (by decide) ?_
    exact (sy_iretz hx hb hr hlocks hE hP hS dX2_takesAmnesty_14 ⟨Nat.le_of_ble_eq_true rfl, Nat.le_of_ble_eq_true rfl⟩ (by decide) (by unfold fX2_takesAmnesty; rw [if_pos c_1] <;> rfl))
  · skip
    refine lv_iconst (v := 1) hx hb dX2_takesAmnesty_9 (by decide) ?_
    refine lv_goto (tgt := 14) hx hb dX2_takesAmnesty_10 (by decide) ?_
    exact (sy_iretz hx hb hr hlocks hE hP hS dX2_takesAmnesty_14 ⟨Nat.le_of_ble_eq_true rfl, Nat.le_of_ble_eq_true rfl⟩ (by decide) (by unfold fX2_takesAmnesty; rw [if_neg c_1] <;> rfl))
theorem takesRate_in {nT nK cT cK : Nat} {g : sG} {q : sQ} (hG : IG nT nK cT cK g) (h : ¬ (fX2_takesRate g q) = 0) : vp_in (g 67 3) 30 := by
  have h1 : ¬ (30 : Int32) ≤ g 67 3 := by
    intro h2
    unfold fX2_takesRate at h
    rw [if_pos h2] at h
    exact h rfl
  exact vp_in_less (ig_told hG).1 (by have := (ig_told hG).2; omega) (by decide) h1
theorem takesAmnesty_in {nT nK cT cK : Nat} {g : sG} {q : sQ} (hG : IG nT nK cT cK g) (h : ¬ (fX2_takesAmnesty g q) = 0) : vp_in (g 67 6) 10 := by
  have h1 : ¬ (10 : Int32) ≤ g 67 6 := by
    intro h2
    unfold fX2_takesAmnesty at h
    rw [if_pos h2] at h
    exact h rfl
  exact vp_in_less (ig_free hG).1 (by have := (ig_free hG).2; omega) (by decide) h1
def fX2_addRate (g : sG) (q : sQ) (x0 x1 x2 : Int32) : sG := (if (fX2_takesRate g q) = 0 then g else (sy_up (sy_up (sy_up (sy_up g 72 ((g 67 3).toNatClampNeg) x0) 73 ((g 67 3).toNatClampNeg) x1) 74 ((g 67 3).toNatClampNeg) x2) 67 3 ((g 67 3) + 1)))
set_option maxHeartbeats 4000000 in
set_option maxRecDepth 100000 in
theorem mX2_addRate (l : Launch) (hfl : l.stackTraces = false) (Z : sZ) (nT nK cT cK : Nat) (ad : Nat → Nat) (g : sG) (q : sQ) (x0 x1 x2 : Int32) (hT : nT ≤ 100) (hG : IG nT nK cT cK g) : sMv l Z yX2_addRate (uW (.code yX2_addRate cX2_addRate 4 none)) { frames := 1, cells := 0, slots := 0, locals := 20 } [.ref (ad 67), .int x0, .int x1, .int x2] nT nK cT cK ad g q (fun g1 q1 => (g1, q1) = (fX2_addRate g q x0 x1 x2, q)) := by
  refine Met.ofW (cc := cX2_addRate) (maxL := 4) (ret := none) (by decide) rfl ?_
  intro p e s m args below meth c s₁ B hml hv
  obtain ⟨rfl, hE, hP⟩ := hv
  have hx := B.exec
  have hb := B.bytes
  have hr := B.returns
  have hts := atoms_spec (ws := uW (.code yX2_addRate cX2_addRate 4 none)) B.pre
  have hown : s.vm.findClass RX2 = some m.cls := findClass_of_methodNamed B.named
  have hlocks := B.notSynchronized
  have hS : va_S (sy_A Z) s.heap s.heap [] := va_S.rf
  have hl := lv_entry ([.ref (ad 67), .int x0, .int x1, .int x2]) (n := 4) (Nat.le_of_ble_eq_true rfl)
  rw [lg_entry_eq]
  generalize (lg_sl ([.ref (ad 67), .int x0, .int x1, .int x2]) ++ List.replicate (4 - (lg_sl ([.ref (ad 67), .int x0, .int x1, .int x2])).length) Slot.unset).toArray = ls at hl ⊢
  have hl : lv_has ls 4 [(0, .ref (ad 67)), (1, .int x0), (2, .int x1), (3, .int x2)] := hl
  refine lv_aload_n hx hb dX2_addRate_0 rfl (lv_at hl 0 rfl) ?_
  refine sy_ki (sy_rV (o := 67) (As := []) (rest := []) ⟨hx, hb, hml, hown, hts⟩ hE hP hS (mX2_takesRate l hfl Z nT nK cT cK ad g q hT) (cwV 0 hts (gu_V uk_2_221 uk_2_207 uk_2_208 uk_1_7 uk_2_209) rfl rfl rfl (by decide +kernel) ⟨Nat.le_of_ble_eq_true rfl, Nat.le_of_ble_eq_true rfl⟩) (sy_recv (kc := 3) hE hP rfl (by decide) rfl rfl rfl) rfl hl.1 rfl (Nat.le_of_ble_eq_true rfl) dX2_addRate_1 ⟨Nat.le_of_ble_eq_true rfl, Nat.le_of_ble_eq_true rfl⟩) hS (fun r_e_1 g_e_1 q_e_1 H locs e_1 hP hS => ?_)
  cases e_1
  refine lv_if_eq (tgt := 47) hx hb dX2_addRate_4 (by decide) (fun c_2 => ?_) (fun c_2 => ?_)
  · skip
    exact (sy_vret hx hb hr hlocks hE hP hS dX2_addRate_47 ⟨Nat.le_of_ble_eq_true rfl, Nat.le_of_ble_eq_true rfl⟩ (by unfold fX2_addRate; rw [if_pos c_2] <;> rfl))
  · skip
    refine lv_aload_n hx hb dX2_addRate_7 rfl (lv_at hl 0 rfl) ?_
    refine sy_getRX2 hx hb hts hown hE hP 67 rfl 0 (by decide) (hts _ (u_in uk_1_104)) (v := .ref (ad 72)) rfl dX2_addRate_8 ?_
    refine lv_aload_n hx hb dX2_addRate_11 rfl (lv_at hl 0 rfl) ?_
    refine sy_getRX2 hx hb hts hown hE hP 67 rfl 3 (by decide) (hts _ (u_in uk_1_107)) (v := .int (g 67 3)) rfl dX2_addRate_12 ?_
    refine lv_iload_n hx hb dX2_addRate_15 rfl (lv_at hl 1 rfl) ?_
    refine sy_iastN hx hb hE hP hS 72 rfl (show vp_in (g 67 3) 30 from (takesRate_in hG c_2)) ((g 67 3).toNatClampNeg) rfl dX2_addRate_16 (fun H locs hP hS => ?_)
    refine lv_aload_n hx hb dX2_addRate_17 rfl (lv_at hl 0 rfl) ?_
    refine sy_getRX2 hx hb hts hown hE hP 67 rfl 1 (by decide) (hts _ (u_in uk_1_105)) (v := .ref (ad 73)) rfl dX2_addRate_18 ?_
    refine lv_aload_n hx hb dX2_addRate_21 rfl (lv_at hl 0 rfl) ?_
    refine sy_getRX2 hx hb hts hown hE hP 67 rfl 3 (by decide) (hts _ (u_in uk_1_107)) (v := .int (g 67 3)) rfl dX2_addRate_22 ?_
    refine lv_iload_n hx hb dX2_addRate_25 rfl (lv_at hl 2 rfl) ?_
    refine sy_iastN hx hb hE hP hS 73 rfl (show vp_in (g 67 3) 30 from (takesRate_in hG c_2)) ((g 67 3).toNatClampNeg) rfl dX2_addRate_26 (fun H locs hP hS => ?_)
    refine lv_aload_n hx hb dX2_addRate_27 rfl (lv_at hl 0 rfl) ?_
    refine sy_getRX2 hx hb hts hown hE hP 67 rfl 2 (by decide) (hts _ (u_in uk_1_106)) (v := .ref (ad 74)) rfl dX2_addRate_28 ?_
    refine lv_aload_n hx hb dX2_addRate_31 rfl (lv_at hl 0 rfl) ?_
    refine sy_getRX2 hx hb hts hown hE hP 67 rfl 3 (by decide) (hts _ (u_in uk_1_107)) (v := .int (g 67 3)) rfl dX2_addRate_32 ?_
    refine lv_iload_n hx hb dX2_addRate_35 rfl (lv_at hl 3 rfl) ?_
    refine sy_iastN hx hb hE hP hS 74 rfl (show vp_in (g 67 3) 30 from (takesRate_in hG c_2)) ((g 67 3).toNatClampNeg) rfl dX2_addRate_36 (fun H locs hP hS => ?_)
    refine lv_aload_n hx hb dX2_addRate_37 rfl (lv_at hl 0 rfl) ?_
    refine lv_dup hx hb dX2_addRate_38 rfl ?_
    refine sy_getRX2 hx hb hts hown hE hP 67 rfl 3 (by decide) (hts _ (u_in uk_1_107)) (v := .int (g 67 3)) rfl dX2_addRate_39 ?_
    refine lv_iconst (v := 1) hx hb dX2_addRate_42 (by decide) ?_
    refine lv_iadd hx hb dX2_addRate_43 ?_
    refine sy_putRX2 hx hb hts hown hE hP hS 67 rfl 3 (by decide) (hts _ (u_in uk_1_107)) rfl (ty := .int) (by decide +kernel) rfl rfl (sy_up (sy_up (sy_up (sy_up g 72 ((g 67 3).toNatClampNeg) x0) 73 ((g 67 3).toNatClampNeg) x1) 74 ((g 67 3).toNatClampNeg) x2) 67 3 ((g 67 3) + 1)) q (by rw [sy_up_s (sy_up (sy_up (sy_up g 72 ((g 67 3).toNatClampNeg) x0) 73 ((g 67 3).toNatClampNeg) x1) 74 ((g 67 3).toNatClampNeg) x2) 67 3 ((g 67 3) + 1)]; exact se_RX2_3 _ _ _ _ _ _ _) (fun _ h9 => sy_up_o _ _ _ h9) (fun _ _ => rfl) dX2_addRate_44 (fun H locs hP hS => ?_)
    exact (sy_vret hx hb hr hlocks hE hP hS dX2_addRate_47 ⟨Nat.le_of_ble_eq_true rfl, Nat.le_of_ble_eq_true rfl⟩ (by unfold fX2_addRate; rw [if_neg c_2] <;> rfl))
def fX2_addAmnesty (g : sG) (q : sQ) (x0 x1 : Int32) : sG := (if (fX2_takesAmnesty g q) = 0 then g else (sy_up (sy_up (sy_up g 76 ((g 67 6).toNatClampNeg) x0) 77 ((g 67 6).toNatClampNeg) x1) 67 6 ((g 67 6) + 1)))
set_option maxHeartbeats 4000000 in
set_option maxRecDepth 100000 in
theorem mX2_addAmnesty (l : Launch) (hfl : l.stackTraces = false) (Z : sZ) (nT nK cT cK : Nat) (ad : Nat → Nat) (g : sG) (q : sQ) (x0 x1 : Int32) (hT : nT ≤ 100) (hG : IG nT nK cT cK g) : sMv l Z yX2_addAmnesty (uW (.code yX2_addAmnesty cX2_addAmnesty 3 none)) { frames := 1, cells := 0, slots := 0, locals := 20 } [.ref (ad 67), .int x0, .int x1] nT nK cT cK ad g q (fun g1 q1 => (g1, q1) = (fX2_addAmnesty g q x0 x1, q)) := by
  refine Met.ofW (cc := cX2_addAmnesty) (maxL := 3) (ret := none) (by decide) rfl ?_
  intro p e s m args below meth c s₁ B hml hv
  obtain ⟨rfl, hE, hP⟩ := hv
  have hx := B.exec
  have hb := B.bytes
  have hr := B.returns
  have hts := atoms_spec (ws := uW (.code yX2_addAmnesty cX2_addAmnesty 3 none)) B.pre
  have hown : s.vm.findClass RX2 = some m.cls := findClass_of_methodNamed B.named
  have hlocks := B.notSynchronized
  have hS : va_S (sy_A Z) s.heap s.heap [] := va_S.rf
  have hl := lv_entry ([.ref (ad 67), .int x0, .int x1]) (n := 3) (Nat.le_of_ble_eq_true rfl)
  rw [lg_entry_eq]
  generalize (lg_sl ([.ref (ad 67), .int x0, .int x1]) ++ List.replicate (3 - (lg_sl ([.ref (ad 67), .int x0, .int x1])).length) Slot.unset).toArray = ls at hl ⊢
  have hl : lv_has ls 3 [(0, .ref (ad 67)), (1, .int x0), (2, .int x1)] := hl
  refine lv_aload_n hx hb dX2_addAmnesty_0 rfl (lv_at hl 0 rfl) ?_
  refine sy_ki (sy_rV (o := 67) (As := []) (rest := []) ⟨hx, hb, hml, hown, hts⟩ hE hP hS (mX2_takesAmnesty l hfl Z nT nK cT cK ad g q hT) (cwV 0 hts (gu_V uk_3_4 uk_2_237 uk_2_238 uk_1_7 uk_2_239) rfl rfl rfl (by decide +kernel) ⟨Nat.le_of_ble_eq_true rfl, Nat.le_of_ble_eq_true rfl⟩) (sy_recv (kc := 3) hE hP rfl (by decide) rfl rfl rfl) rfl hl.1 rfl (Nat.le_of_ble_eq_true rfl) dX2_addAmnesty_1 ⟨Nat.le_of_ble_eq_true rfl, Nat.le_of_ble_eq_true rfl⟩) hS (fun r_e_1 g_e_1 q_e_1 H locs e_1 hP hS => ?_)
  cases e_1
  refine lv_if_eq (tgt := 37) hx hb dX2_addAmnesty_4 (by decide) (fun c_2 => ?_) (fun c_2 => ?_)
  · skip
    exact (sy_vret hx hb hr hlocks hE hP hS dX2_addAmnesty_37 ⟨Nat.le_of_ble_eq_true rfl, Nat.le_of_ble_eq_true rfl⟩ (by unfold fX2_addAmnesty; rw [if_pos c_2] <;> rfl))
  · skip
    refine lv_aload_n hx hb dX2_addAmnesty_7 rfl (lv_at hl 0 rfl) ?_
    refine sy_getRX2 hx hb hts hown hE hP 67 rfl 4 (by decide) (hts _ (u_in uk_1_108)) (v := .ref (ad 76)) rfl dX2_addAmnesty_8 ?_
    refine lv_aload_n hx hb dX2_addAmnesty_11 rfl (lv_at hl 0 rfl) ?_
    refine sy_getRX2 hx hb hts hown hE hP 67 rfl 6 (by decide) (hts _ (u_in uk_1_110)) (v := .int (g 67 6)) rfl dX2_addAmnesty_12 ?_
    refine lv_iload_n hx hb dX2_addAmnesty_15 rfl (lv_at hl 1 rfl) ?_
    refine sy_iastN hx hb hE hP hS 76 rfl (show vp_in (g 67 6) 10 from (takesAmnesty_in hG c_2)) ((g 67 6).toNatClampNeg) rfl dX2_addAmnesty_16 (fun H locs hP hS => ?_)
    refine lv_aload_n hx hb dX2_addAmnesty_17 rfl (lv_at hl 0 rfl) ?_
    refine sy_getRX2 hx hb hts hown hE hP 67 rfl 5 (by decide) (hts _ (u_in uk_1_109)) (v := .ref (ad 77)) rfl dX2_addAmnesty_18 ?_
    refine lv_aload_n hx hb dX2_addAmnesty_21 rfl (lv_at hl 0 rfl) ?_
    refine sy_getRX2 hx hb hts hown hE hP 67 rfl 6 (by decide) (hts _ (u_in uk_1_110)) (v := .int (g 67 6)) rfl dX2_addAmnesty_22 ?_
    refine lv_iload_n hx hb dX2_addAmnesty_25 rfl (lv_at hl 2 rfl) ?_
    refine sy_iastN hx hb hE hP hS 77 rfl (show vp_in (g 67 6) 10 from (takesAmnesty_in hG c_2)) ((g 67 6).toNatClampNeg) rfl dX2_addAmnesty_26 (fun H locs hP hS => ?_)
    refine lv_aload_n hx hb dX2_addAmnesty_27 rfl (lv_at hl 0 rfl) ?_
    refine lv_dup hx hb dX2_addAmnesty_28 rfl ?_
    refine sy_getRX2 hx hb hts hown hE hP 67 rfl 6 (by decide) (hts _ (u_in uk_1_110)) (v := .int (g 67 6)) rfl dX2_addAmnesty_29 ?_
    refine lv_iconst (v := 1) hx hb dX2_addAmnesty_32 (by decide) ?_
    refine lv_iadd hx hb dX2_addAmnesty_33 ?_
    refine sy_putRX2 hx hb hts hown hE hP hS 67 rfl 6 (by decide) (hts _ (u_in uk_1_110)) rfl (ty := .int) (by decide +kernel) rfl rfl (sy_up (sy_up (sy_up g 76 ((g 67 6).toNatClampNeg) x0) 77 ((g 67 6).toNatClampNeg) x1) 67 6 ((g 67 6) + 1)) q (by rw [sy_up_s (sy_up (sy_up g 76 ((g 67 6).toNatClampNeg) x0) 77 ((g 67 6).toNatClampNeg) x1) 67 6 ((g 67 6) + 1)]; exact se_RX2_6 _ _ _ _ _ _ _) (fun _ h9 => sy_up_o _ _ _ h9) (fun _ _ => rfl) dX2_addAmnesty_34 (fun H locs hP hS => ?_)
    exact (sy_vret hx hb hr hlocks hE hP hS dX2_addAmnesty_37 ⟨Nat.le_of_ble_eq_true rfl, Nat.le_of_ble_eq_true rfl⟩ (by unfold fX2_addAmnesty; rw [if_neg c_2] <;> rfl))
def fX2_firstRate (g : sG) (q : sQ) (x0 : Int32) : Int32 := (if x0 = 0 then 10 else (if x0 = 1 then 15 else 20))
set_option maxHeartbeats 4000000 in
set_option maxRecDepth 100000 in
theorem mX2_firstRate (l : Launch) (hfl : l.stackTraces = false) (Z : sZ) (nT nK cT cK : Nat) (ad : Nat → Nat) (g : sG) (q : sQ) (x0 : Int32) (hT : nT ≤ 100) : sMi l Z yX2_firstRate (uW (.code yX2_firstRate cX2_firstRate 1 (some .int))) { frames := 0, cells := 0, slots := 0, locals := 0 } [.int x0] nT nK cT cK ad g q (fun r g1 q1 => (r, g1, q1) = (fX2_firstRate g q x0, g, q)) := by
  refine Met.ofW (cc := cX2_firstRate) (maxL := 1) (ret := (some .int)) (by decide) rfl ?_
  intro p e s m args below meth c s₁ B hml hv
  obtain ⟨rfl, hE, hP⟩ := hv
  have hx := B.exec
  have hb := B.bytes
  have hr := B.returns
  have hts := atoms_spec (ws := uW (.code yX2_firstRate cX2_firstRate 1 (some .int))) B.pre
  have hown : s.vm.findClass RX2 = some m.cls := findClass_of_methodNamed B.named
  have hlocks := B.notSynchronized
  have hS : va_S (sy_A Z) s.heap s.heap [] := va_S.rf
  have hl := lv_entry ([.int x0]) (n := 1) (Nat.le_of_ble_eq_true rfl)
  rw [lg_entry_eq]
  generalize (lg_sl ([.int x0]) ++ List.replicate (1 - (lg_sl ([.int x0])).length) Slot.unset).toArray = ls at hl ⊢
  have hl : lv_has ls 1 [(0, .int x0)] := hl
  refine lv_iload_n hx hb dX2_firstRate_0 rfl (lv_at hl 0 rfl) ?_
  refine lv_if_ne (tgt := 7) hx hb dX2_firstRate_1 (by decide) (fun c_1 => ?_) (fun c_1 => ?_)
  · skip
    refine lv_iload_n hx hb dX2_firstRate_7 rfl (lv_at hl 0 rfl) ?_
    refine lv_iconst (v := 1) hx hb dX2_firstRate_8 (by decide) ?_
    refine lv_icmp_ne (tgt := 17) hx hb dX2_firstRate_9 (by decide) (fun c_2 => ?_) (fun c_2 => ?_)
    · skip
      refine lv_bipush (v := 20) hx hb dX2_firstRate_17 (by decide) ?_
      exact (sy_ireti hx hb hr hlocks hE hP hS dX2_firstRate_19 ⟨Nat.le_of_ble_eq_true rfl, Nat.le_of_ble_eq_true rfl⟩ (by unfold fX2_firstRate; rw [if_neg c_1, if_neg c_2] <;> rfl))
    · skip
      refine lv_bipush (v := 15) hx hb dX2_firstRate_12 (by decide) ?_
      refine lv_goto (tgt := 19) hx hb dX2_firstRate_14 (by decide) ?_
      exact (sy_ireti hx hb hr hlocks hE hP hS dX2_firstRate_19 ⟨Nat.le_of_ble_eq_true rfl, Nat.le_of_ble_eq_true rfl⟩ (by unfold fX2_firstRate; rw [if_neg c_1, if_pos c_2] <;> rfl))
  · skip
    refine lv_bipush (v := 10) hx hb dX2_firstRate_4 (by decide) ?_
    exact (sy_ireti hx hb hr hlocks hE hP hS dX2_firstRate_6 ⟨Nat.le_of_ble_eq_true rfl, Nat.le_of_ble_eq_true rfl⟩ (by unfold fX2_firstRate; rw [if_pos c_1] <;> rfl))
def fX2_stepOf (g : sG) (q : sQ) (x0 : Int32) : Int32 := (if 6 ≤ x0 then (if 18 ≤ x0 then 2 else 1) else 0)
set_option maxHeartbeats 4000000 in
set_option maxRecDepth 100000 in
theorem mX2_stepOf (l : Launch) (hfl : l.stackTraces = false) (Z : sZ) (nT nK cT cK : Nat) (ad : Nat → Nat) (g : sG) (q : sQ) (x0 : Int32) (hT : nT ≤ 100) : sMi l Z yX2_stepOf (uW (.code yX2_stepOf cX2_stepOf 1 (some .int))) { frames := 0, cells := 0, slots := 0, locals := 0 } [.int x0] nT nK cT cK ad g q (fun r g1 q1 => (r, g1, q1) = (fX2_stepOf g q x0, g, q)) := by
  refine Met.ofW (cc := cX2_stepOf) (maxL := 1) (ret := (some .int)) (by decide) rfl ?_
  intro p e s m args below meth c s₁ B hml hv
  obtain ⟨rfl, hE, hP⟩ := hv
  have hx := B.exec
  have hb := B.bytes
  have hr := B.returns
  have hts := atoms_spec (ws := uW (.code yX2_stepOf cX2_stepOf 1 (some .int))) B.pre
  have hown : s.vm.findClass RX2 = some m.cls := findClass_of_methodNamed B.named
  have hlocks := B.notSynchronized
  have hS : va_S (sy_A Z) s.heap s.heap [] := va_S.rf
  have hl := lv_entry ([.int x0]) (n := 1) (Nat.le_of_ble_eq_true rfl)
  rw [lg_entry_eq]
  generalize (lg_sl ([.int x0]) ++ List.replicate (1 - (lg_sl ([.int x0])).length) Slot.unset).toArray = ls at hl ⊢
  have hl : lv_has ls 1 [(0, .int x0)] := hl
  refine lv_iload_n hx hb dX2_stepOf_0 rfl (lv_at hl 0 rfl) ?_
  refine lv_bipush (v := 6) hx hb dX2_stepOf_1 (by decide) ?_
  refine lv_icmp_ge (tgt := 8) hx hb dX2_stepOf_3 (by decide) (fun c_1 => ?_) (fun c_1 => ?_)
  · skip
    refine lv_iload_n hx hb dX2_stepOf_8 rfl (lv_at hl 0 rfl) ?_
    refine lv_bipush (v := 18) hx hb dX2_stepOf_9 (by decide) ?_
    refine lv_icmp_ge (tgt := 18) hx hb dX2_stepOf_11 (by decide) (fun c_2 => ?_) (fun c_2 => ?_)
    · skip
      refine lv_iconst (v := 2) hx hb dX2_stepOf_18 (by decide) ?_
      exact (sy_ireti hx hb hr hlocks hE hP hS dX2_stepOf_19 ⟨Nat.le_of_ble_eq_true rfl, Nat.le_of_ble_eq_true rfl⟩ (by unfold fX2_stepOf; rw [if_pos c_1, if_pos c_2] <;> rfl))
    · skip
      refine lv_iconst (v := 1) hx hb dX2_stepOf_14 (by decide) ?_
      refine lv_goto (tgt := 19) hx hb dX2_stepOf_15 (by decide) ?_
      exact (sy_ireti hx hb hr hlocks hE hP hS dX2_stepOf_19 ⟨Nat.le_of_ble_eq_true rfl, Nat.le_of_ble_eq_true rfl⟩ (by unfold fX2_stepOf; rw [if_pos c_1, if_neg c_2] <;> rfl))
  · skip
    refine lv_iconst (v := 0) hx hb dX2_stepOf_6 (by decide) ?_
    exact (sy_ireti hx hb hr hlocks hE hP hS dX2_stepOf_7 ⟨Nat.le_of_ble_eq_true rfl, Nat.le_of_ble_eq_true rfl⟩ (by unfold fX2_stepOf; rw [if_neg c_1] <;> rfl))
def lX2_rateOn (g : sG) (q : sQ) (x0 x1 : Int32) : Nat → Int32
  | 0 => (fX2_firstRate g q x0)
  | k0 + 1 => (if (g 73 k0) = x0 then (if x1 < (g 72 k0) then (lX2_rateOn g q x0 x1 k0) else (g 74 k0)) else (lX2_rateOn g q x0 x1 k0))
def fX2_rateOn (g : sG) (q : sQ) (x0 x1 : Int32) : Int32 := (lX2_rateOn g q x0 x1 (g 67 3).toNatClampNeg)
set_option maxHeartbeats 4000000 in
set_option maxRecDepth 100000 in
theorem mX2_rateOn (l : Launch) (hfl : l.stackTraces = false) (Z : sZ) (nT nK cT cK : Nat) (ad : Nat → Nat) (g : sG) (q : sQ) (x0 x1 : Int32) (hT : nT ≤ 100) (hG : IG nT nK cT cK g) : sMi l Z yX2_rateOn (uW (.code yX2_rateOn cX2_rateOn 4 (some .int))) { frames := 1, cells := 0, slots := 0, locals := 20 } [.ref (ad 67), .int x0, .int x1] nT nK cT cK ad g q (fun r g1 q1 => (r, g1, q1) = (fX2_rateOn g q x0 x1, g, q)) := by
  refine Met.ofW (cc := cX2_rateOn) (maxL := 4) (ret := (some .int)) (by decide) rfl ?_
  intro p e s m args below meth c s₁ B hml hv
  obtain ⟨rfl, hE, hP⟩ := hv
  have hx := B.exec
  have hb := B.bytes
  have hr := B.returns
  have hts := atoms_spec (ws := uW (.code yX2_rateOn cX2_rateOn 4 (some .int))) B.pre
  have hown : s.vm.findClass RX2 = some m.cls := findClass_of_methodNamed B.named
  have hlocks := B.notSynchronized
  have hS : va_S (sy_A Z) s.heap s.heap [] := va_S.rf
  have hl := lv_entry ([.ref (ad 67), .int x0, .int x1]) (n := 4) (Nat.le_of_ble_eq_true rfl)
  rw [lg_entry_eq]
  generalize (lg_sl ([.ref (ad 67), .int x0, .int x1]) ++ List.replicate (4 - (lg_sl ([.ref (ad 67), .int x0, .int x1])).length) Slot.unset).toArray = ls at hl ⊢
  have hl : lv_has ls 4 [(0, .ref (ad 67)), (1, .int x0), (2, .int x1)] := hl
  refine lv_aload_n hx hb dX2_rateOn_0 rfl (lv_at hl 0 rfl) ?_
  refine sy_getRX2 hx hb hts hown hE hP 67 rfl 3 (by decide) (hts _ (u_in uk_1_107)) (v := .int (g 67 3)) rfl dX2_rateOn_1 ?_
  refine lv_iconst (v := 1) hx hb dX2_rateOn_4 (by decide) ?_
  refine lv_isub hx hb dX2_rateOn_5 ?_
  refine lv_istore_n (lv' := [(3, .int ((g 67 3) - 1)), (0, .ref (ad 67)), (1, .int x0), (2, .int x1)]) hx hb dX2_rateOn_6 rfl hl (by decide) rfl (fun ls hl => ?_)
  have hL_7 : ∀ k0 : Nat, k0 ≤ (g 67 3).toNatClampNeg → (fX2_rateOn g q x0 x1) = (lX2_rateOn g q x0 x1 k0) → ∀ (H : Heap) (locs : List Loc) (ls : Array Slot), Sy Z nT nK cT cK ad g q H → va_S (sy_A Z) s.heap H locs → lv_has ls 4 [(3, .int ((nI k0) - 1)), (0, .ref (ad 67)), (1, .int x0), (2, .int x1)] → W p l e ({ frames := 1, cells := 0, slots := 0, locals := 20 } : Room) s m ([.ref (ad 67), .int x0, .int x1] : List Value).toArray below meth c H locs 0 0 (MQ below (sQi Z nT nK cT cK ad (fun r g1 q1 => (r, g1, q1) = (fX2_rateOn g q x0 x1, g, q))) ([.ref (ad 67), .int x0, .int x1] : List Value).toArray s 0 0 (sy_A Z)) (F0 m 7 ls []) := by
    intro k0
    induction k0 with
    | zero =>
      intro hi hF H locs ls hP hS hl
      rw [show nI 0 - 1 = (-1 : Int32) from rfl] at hl
      refine lv_iload_n hx hb dX2_rateOn_7 rfl (lv_at hl 0 rfl) ?_
      refine lv_if_lt (tgt := 44) hx hb dX2_rateOn_8 (by decide) (fun _ => ?_) (fun c9 => absurd c9 (by decide))
      refine lv_iload_n hx hb dX2_rateOn_44 rfl (lv_at hl 2 rfl) ?_
      refine sy_ki (sy_rS (As := [.int x0]) (rest := []) ⟨hx, hb, hml, hown, hts⟩ hE hP hS (mX2_firstRate l hfl Z nT nK cT cK ad g q x0 hT) (va_cwS 1 hts (gu_S uk_2_214 uk_2_215 uk_1_7 uk_2_216) rfl rfl rfl (by decide +kernel) ⟨Nat.le_of_ble_eq_true rfl, Nat.le_of_ble_eq_true rfl⟩) rfl hl.1 rfl (Nat.le_of_ble_eq_true rfl) dX2_rateOn_45 ⟨Nat.le_of_ble_eq_true rfl, Nat.le_of_ble_eq_true rfl⟩) hS (fun r_e_1 g_e_1 q_e_1 H locs e_1 hP hS => ?_)
      cases e_1
      exact (sy_ireti hx hb hr hlocks hE hP hS dX2_rateOn_48 ⟨Nat.le_of_ble_eq_true rfl, Nat.le_of_ble_eq_true rfl⟩ (by rw [hF, lX2_rateOn] <;> rfl))
    | succ k0 ih =>
      intro hi hF H locs ls hP hS hl
      rw [nI_pred] at hl
      have hN9 := (ig_told hG).2
      have hz : ¬ ((nI k0) < 0) := nI_pos (by omega)
      refine lv_iload_n hx hb dX2_rateOn_7 rfl (lv_at hl 0 rfl) ?_
      refine lv_if_lt (tgt := 44) hx hb dX2_rateOn_8 (by decide) (fun c9 => absurd c9 hz) (fun _ => ?_)
      refine lv_aload_n hx hb dX2_rateOn_11 rfl (lv_at hl 1 rfl) ?_
      refine sy_getRX2 hx hb hts hown hE hP 67 rfl 1 (by decide) (hts _ (u_in uk_1_105)) (v := .ref (ad 73)) rfl dX2_rateOn_12 ?_
      refine lv_iload_n hx hb dX2_rateOn_15 rfl (lv_at hl 0 rfl) ?_
      refine sy_ialdN hx hb hE hP 73 rfl (show vp_in (nI k0) 30 from vp_in_nI (by omega) (by decide)) k0 (nI_clamp (by omega)) (v := g 73 k0) rfl dX2_rateOn_16 ?_
      refine lv_iload_n hx hb dX2_rateOn_17 rfl (lv_at hl 2 rfl) ?_
      refine lv_icmp_ne (tgt := 38) hx hb dX2_rateOn_18 (by decide) (fun c_2 => ?_) (fun c_2 => ?_)
      · skip
        refine lv_iinc (v := ((nI k0) + (-1))) (lv' := [(3, .int ((nI k0) + (-1))), (0, .ref (ad 67)), (1, .int x0), (2, .int x1)]) hx hb dX2_rateOn_38 hl (k := 0) rfl rfl (by decide) rfl (fun ls hl => ?_)
        refine lv_goto (tgt := 7) hx hb dX2_rateOn_41 (by decide) ?_
        have hF : (fX2_rateOn g q x0 x1) = (lX2_rateOn g q x0 x1 k0) := by rw [hF, lX2_rateOn, if_neg c_2]
        exact ih (by omega) hF H locs ls hP hS (by have h9 := lv_sub hl [0, 1, 2, 3] rfl; rw [show nI k0 + (-1) = nI k0 - 1 from (Int32.sub_eq_add_neg ..).symm] at h9; exact h9)
      · skip
        refine lv_aload_n hx hb dX2_rateOn_21 rfl (lv_at hl 1 rfl) ?_
        refine sy_getRX2 hx hb hts hown hE hP 67 rfl 0 (by decide) (hts _ (u_in uk_1_104)) (v := .ref (ad 72)) rfl dX2_rateOn_22 ?_
        refine lv_iload_n hx hb dX2_rateOn_25 rfl (lv_at hl 0 rfl) ?_
        refine sy_ialdN hx hb hE hP 72 rfl (show vp_in (nI k0) 30 from vp_in_nI (by omega) (by decide)) k0 (nI_clamp (by omega)) (v := g 72 k0) rfl dX2_rateOn_26 ?_
        refine lv_iload_n hx hb dX2_rateOn_27 rfl (lv_at hl 3 rfl) ?_
        refine lv_icmp_gt (tgt := 38) hx hb dX2_rateOn_28 (by decide) (fun c_3 => ?_) (fun c_3 => ?_)
        · skip
          refine lv_iinc (v := ((nI k0) + (-1))) (lv' := [(3, .int ((nI k0) + (-1))), (0, .ref (ad 67)), (1, .int x0), (2, .int x1)]) hx hb dX2_rateOn_38 hl (k := 0) rfl rfl (by decide) rfl (fun ls hl => ?_)
          refine lv_goto (tgt := 7) hx hb dX2_rateOn_41 (by decide) ?_
          have hF : (fX2_rateOn g q x0 x1) = (lX2_rateOn g q x0 x1 k0) := by rw [hF, lX2_rateOn, if_pos c_2, if_pos c_3]
          exact ih (by omega) hF H locs ls hP hS (by have h9 := lv_sub hl [0, 1, 2, 3] rfl; rw [show nI k0 + (-1) = nI k0 - 1 from (Int32.sub_eq_add_neg ..).symm] at h9; exact h9)
        · skip
          refine lv_aload_n hx hb dX2_rateOn_31 rfl (lv_at hl 1 rfl) ?_
          refine sy_getRX2 hx hb hts hown hE hP 67 rfl 2 (by decide) (hts _ (u_in uk_1_106)) (v := .ref (ad 74)) rfl dX2_rateOn_32 ?_
          refine lv_iload_n hx hb dX2_rateOn_35 rfl (lv_at hl 0 rfl) ?_
          refine sy_ialdN hx hb hE hP 74 rfl (show vp_in (nI k0) 30 from vp_in_nI (by omega) (by decide)) k0 (nI_clamp (by omega)) (v := g 74 k0) rfl dX2_rateOn_36 ?_
          exact (sy_ireti hx hb hr hlocks hE hP hS dX2_rateOn_37 ⟨Nat.le_of_ble_eq_true rfl, Nat.le_of_ble_eq_true rfl⟩ (by rw [hF, lX2_rateOn, if_pos c_2, if_neg c_3] <;> rfl))
  exact hL_7 (g 67 3).toNatClampNeg (Nat.le_refl _) rfl _ _ _ hP hS (by have h9 := lv_sub hl [0, 1, 2, 3] rfl; rw [show g 67 3 - 1 = nI (g 67 3).toNatClampNeg - 1 from by rw [← (ig_told hG).1]] at h9; exact h9)
def lX2_isFree (g : sG) (q : sQ) (x0 : Int32) : Nat → Int32
  | 0 => 0
  | k0 + 1 => (if x0 < (g 76 ((g 67 6).toNatClampNeg - (k0 + 1))) then (lX2_isFree g q x0 k0) else (if (g 77 ((g 67 6).toNatClampNeg - (k0 + 1))) < x0 then (lX2_isFree g q x0 k0) else 1))
def fX2_isFree (g : sG) (q : sQ) (x0 : Int32) : Int32 := (lX2_isFree g q x0 (g 67 6).toNatClampNeg)
set_option maxHeartbeats 4000000 in
set_option maxRecDepth 100000 in
theorem mX2_isFree (l : Launch) (hfl : l.stackTraces = false) (Z : sZ) (nT nK cT cK : Nat) (ad : Nat → Nat) (g : sG) (q : sQ) (x0 : Int32) (hT : nT ≤ 100) (hG : IG nT nK cT cK g) : sMi l Z yX2_isFree (uW (.code yX2_isFree cX2_isFree 3 (some .boolean))) { frames := 0, cells := 0, slots := 0, locals := 0 } [.ref (ad 67), .int x0] nT nK cT cK ad g q (fun r g1 q1 => (r, g1, q1) = (fX2_isFree g q x0, g, q)) := by
  refine Met.ofW (cc := cX2_isFree) (maxL := 3) (ret := (some .boolean)) (by decide) rfl ?_
  intro p e s m args below meth c s₁ B hml hv
  obtain ⟨rfl, hE, hP⟩ := hv
  have hx := B.exec
  have hb := B.bytes
  have hr := B.returns
  have hts := atoms_spec (ws := uW (.code yX2_isFree cX2_isFree 3 (some .boolean))) B.pre
  have hown : s.vm.findClass RX2 = some m.cls := findClass_of_methodNamed B.named
  have hlocks := B.notSynchronized
  have hS : va_S (sy_A Z) s.heap s.heap [] := va_S.rf
  have hl := lv_entry ([.ref (ad 67), .int x0]) (n := 3) (Nat.le_of_ble_eq_true rfl)
  rw [lg_entry_eq]
  generalize (lg_sl ([.ref (ad 67), .int x0]) ++ List.replicate (3 - (lg_sl ([.ref (ad 67), .int x0])).length) Slot.unset).toArray = ls at hl ⊢
  have hl : lv_has ls 3 [(0, .ref (ad 67)), (1, .int x0)] := hl
  refine lv_iconst (v := 0) hx hb dX2_isFree_0 (by decide) ?_
  refine lv_istore_n (lv' := [(2, .int 0), (0, .ref (ad 67)), (1, .int x0)]) hx hb dX2_isFree_1 rfl hl (by decide) rfl (fun ls hl => ?_)
  have hL_2 : ∀ k0 : Nat, k0 ≤ (g 67 6).toNatClampNeg → (fX2_isFree g q x0) = (lX2_isFree g q x0 k0) → ∀ (H : Heap) (locs : List Loc) (ls : Array Slot), Sy Z nT nK cT cK ad g q H → va_S (sy_A Z) s.heap H locs → lv_has ls 3 [(2, .int (nI ((g 67 6).toNatClampNeg - k0))), (0, .ref (ad 67)), (1, .int x0)] → W p l e ({ frames := 0, cells := 0, slots := 0, locals := 0 } : Room) s m ([.ref (ad 67), .int x0] : List Value).toArray below meth c H locs 0 0 (MQ below (sQi Z nT nK cT cK ad (fun r g1 q1 => (r, g1, q1) = (fX2_isFree g q x0, g, q))) ([.ref (ad 67), .int x0] : List Value).toArray s 0 0 (sy_A Z)) (F0 m 2 ls []) := by
    intro k0
    induction k0 with
    | zero =>
      intro hi hF H locs ls hP hS hl
      have hz : (g 67 6) ≤ (nI ((g 67 6).toNatClampNeg - 0)) := by rw [Nat.sub_zero, ← (ig_free hG).1]; exact Int32.le_refl _
      refine lv_iload_n hx hb dX2_isFree_2 rfl (lv_at hl 0 rfl) ?_
      refine lv_aload_n hx hb dX2_isFree_3 rfl (lv_at hl 1 rfl) ?_
      refine sy_getRX2 hx hb hts hown hE hP 67 rfl 6 (by decide) (hts _ (u_in uk_1_110)) (v := .int (g 67 6)) rfl dX2_isFree_4 ?_
      refine lv_icmp_ge (tgt := 38) hx hb dX2_isFree_7 (by decide) (fun _ => ?_) (fun c9 => absurd hz c9)
      refine lv_iconst (v := 0) hx hb dX2_isFree_38 (by decide) ?_
      exact (sy_iretz hx hb hr hlocks hE hP hS dX2_isFree_39 ⟨Nat.le_of_ble_eq_true rfl, Nat.le_of_ble_eq_true rfl⟩ (by decide) (by rw [hF, lX2_isFree] <;> rfl))
    | succ k0 ih =>
      intro hi hF H locs ls hP hS hl
      have hN9 := (ig_free hG).2
      have hz : ¬ ((g 67 6) ≤ (nI ((g 67 6).toNatClampNeg - (k0 + 1)))) := fun h9 => absurd (loop_exit (ig_free hG).1 (by omega) (by omega) h9) (by omega)
      refine lv_iload_n hx hb dX2_isFree_2 rfl (lv_at hl 0 rfl) ?_
      refine lv_aload_n hx hb dX2_isFree_3 rfl (lv_at hl 1 rfl) ?_
      refine sy_getRX2 hx hb hts hown hE hP 67 rfl 6 (by decide) (hts _ (u_in uk_1_110)) (v := .int (g 67 6)) rfl dX2_isFree_4 ?_
      refine lv_icmp_ge (tgt := 38) hx hb dX2_isFree_7 (by decide) (fun c9 => absurd c9 hz) (fun _ => ?_)
      refine lv_aload_n hx hb dX2_isFree_10 rfl (lv_at hl 1 rfl) ?_
      refine sy_getRX2 hx hb hts hown hE hP 67 rfl 4 (by decide) (hts _ (u_in uk_1_108)) (v := .ref (ad 76)) rfl dX2_isFree_11 ?_
      refine lv_iload_n hx hb dX2_isFree_14 rfl (lv_at hl 0 rfl) ?_
      refine sy_ialdN hx hb hE hP 76 rfl (show vp_in (nI ((g 67 6).toNatClampNeg - (k0 + 1))) 10 from vp_in_nI (by omega) (by decide)) ((g 67 6).toNatClampNeg - (k0 + 1)) (nI_clamp (by omega)) (v := g 76 ((g 67 6).toNatClampNeg - (k0 + 1))) rfl dX2_isFree_15 ?_
      refine lv_iload_n hx hb dX2_isFree_16 rfl (lv_at hl 2 rfl) ?_
      refine lv_icmp_gt (tgt := 32) hx hb dX2_isFree_17 (by decide) (fun c_1 => ?_) (fun c_1 => ?_)
      · skip
        refine lv_iinc (v := ((nI ((g 67 6).toNatClampNeg - (k0 + 1))) + 1)) (lv' := [(2, .int ((nI ((g 67 6).toNatClampNeg - (k0 + 1))) + 1)), (0, .ref (ad 67)), (1, .int x0)]) hx hb dX2_isFree_32 hl (k := 0) rfl rfl (by decide) rfl (fun ls hl => ?_)
        refine lv_goto (tgt := 2) hx hb dX2_isFree_35 (by decide) ?_
        have hF : (fX2_isFree g q x0) = (lX2_isFree g q x0 k0) := by rw [hF, lX2_isFree, if_pos c_1]
        exact ih (by omega) hF H locs ls hP hS (by have h9 := lv_sub hl [0, 1, 2] rfl; rw [nI_1, show (g 67 6).toNatClampNeg - (k0 + 1) + 1 = (g 67 6).toNatClampNeg - k0 from by omega] at h9; exact h9)
      · skip
        refine lv_iload_n hx hb dX2_isFree_20 rfl (lv_at hl 2 rfl) ?_
        refine lv_aload_n hx hb dX2_isFree_21 rfl (lv_at hl 1 rfl) ?_
        refine sy_getRX2 hx hb hts hown hE hP 67 rfl 5 (by decide) (hts _ (u_in uk_1_109)) (v := .ref (ad 77)) rfl dX2_isFree_22 ?_
        refine lv_iload_n hx hb dX2_isFree_25 rfl (lv_at hl 0 rfl) ?_
        refine sy_ialdN hx hb hE hP 77 rfl (show vp_in (nI ((g 67 6).toNatClampNeg - (k0 + 1))) 10 from vp_in_nI (by omega) (by decide)) ((g 67 6).toNatClampNeg - (k0 + 1)) (nI_clamp (by omega)) (v := g 77 ((g 67 6).toNatClampNeg - (k0 + 1))) rfl dX2_isFree_26 ?_
        refine lv_icmp_gt (tgt := 32) hx hb dX2_isFree_27 (by decide) (fun c_2 => ?_) (fun c_2 => ?_)
        · skip
          refine lv_iinc (v := ((nI ((g 67 6).toNatClampNeg - (k0 + 1))) + 1)) (lv' := [(2, .int ((nI ((g 67 6).toNatClampNeg - (k0 + 1))) + 1)), (0, .ref (ad 67)), (1, .int x0)]) hx hb dX2_isFree_32 hl (k := 0) rfl rfl (by decide) rfl (fun ls hl => ?_)
          refine lv_goto (tgt := 2) hx hb dX2_isFree_35 (by decide) ?_
          have hF : (fX2_isFree g q x0) = (lX2_isFree g q x0 k0) := by rw [hF, lX2_isFree, if_neg c_1, if_pos c_2]
          exact ih (by omega) hF H locs ls hP hS (by have h9 := lv_sub hl [0, 1, 2] rfl; rw [nI_1, show (g 67 6).toNatClampNeg - (k0 + 1) + 1 = (g 67 6).toNatClampNeg - k0 from by omega] at h9; exact h9)
        · skip
          refine lv_iconst (v := 1) hx hb dX2_isFree_30 (by decide) ?_
          exact (sy_iretz hx hb hr hlocks hE hP hS dX2_isFree_31 ⟨Nat.le_of_ble_eq_true rfl, Nat.le_of_ble_eq_true rfl⟩ (by decide) (by rw [hF, lX2_isFree, if_neg c_1, if_neg c_2] <;> rfl))
  exact hL_2 (g 67 6).toNatClampNeg (Nat.le_refl _) rfl _ _ _ hP hS (by have h9 := lv_sub hl [0, 1, 2] rfl; rw [show (0 : Int32) = nI ((g 67 6).toNatClampNeg - (g 67 6).toNatClampNeg) from by rw [Nat.sub_self]; rfl] at h9; exact h9)
def fX2_costOf (g : sG) (q : sQ) (x0 x1 x2 : Int32) : Int32 := (if (fX2_isFree g q x2) = 0 then (((x0 * (fX2_rateOn g q (fX2_stepOf g q x1) x2)) + 999) / 1000) else 0)
set_option maxHeartbeats 4000000 in
set_option maxRecDepth 100000 in
theorem mX2_costOf (l : Launch) (hfl : l.stackTraces = false) (Z : sZ) (nT nK cT cK : Nat) (ad : Nat → Nat) (g : sG) (q : sQ) (x0 x1 x2 : Int32) (hT : nT ≤ 100) (hG : IG nT nK cT cK g) : sMi l Z yX2_costOf (uW (.code yX2_costOf cX2_costOf 4 (some .int))) { frames := 2, cells := 0, slots := 0, locals := 43 } [.ref (ad 67), .int x0, .int x1, .int x2] nT nK cT cK ad g q (fun r g1 q1 => (r, g1, q1) = (fX2_costOf g q x0 x1 x2, g, q)) := by
  refine Met.ofW (cc := cX2_costOf) (maxL := 4) (ret := (some .int)) (by decide) rfl ?_
  intro p e s m args below meth c s₁ B hml hv
  obtain ⟨rfl, hE, hP⟩ := hv
  have hx := B.exec
  have hb := B.bytes
  have hr := B.returns
  have hts := atoms_spec (ws := uW (.code yX2_costOf cX2_costOf 4 (some .int))) B.pre
  have hown : s.vm.findClass RX2 = some m.cls := findClass_of_methodNamed B.named
  have hlocks := B.notSynchronized
  have hS : va_S (sy_A Z) s.heap s.heap [] := va_S.rf
  have hl := lv_entry ([.ref (ad 67), .int x0, .int x1, .int x2]) (n := 4) (Nat.le_of_ble_eq_true rfl)
  rw [lg_entry_eq]
  generalize (lg_sl ([.ref (ad 67), .int x0, .int x1, .int x2]) ++ List.replicate (4 - (lg_sl ([.ref (ad 67), .int x0, .int x1, .int x2])).length) Slot.unset).toArray = ls at hl ⊢
  have hl : lv_has ls 4 [(0, .ref (ad 67)), (1, .int x0), (2, .int x1), (3, .int x2)] := hl
  refine lv_aload_n hx hb dX2_costOf_0 rfl (lv_at hl 0 rfl) ?_
  refine lv_iload_n hx hb dX2_costOf_1 rfl (lv_at hl 3 rfl) ?_
  refine sy_ki (sy_rV (o := 67) (As := [.int x2]) (rest := []) ⟨hx, hb, hml, hown, hts⟩ hE hP hS (mX2_isFree l hfl Z nT nK cT cK ad g q x2 hT hG) (cwV 1 hts (gu_V uk_4_72 uk_4_73 uk_4_74 uk_1_7 uk_4_75) rfl rfl rfl (by decide +kernel) ⟨Nat.le_of_ble_eq_true rfl, Nat.le_of_ble_eq_true rfl⟩) (sy_recv (kc := 3) hE hP rfl (by decide) rfl rfl rfl) rfl hl.1 rfl (Nat.le_of_ble_eq_true rfl) dX2_costOf_2 ⟨Nat.le_of_ble_eq_true rfl, Nat.le_of_ble_eq_true rfl⟩) hS (fun r_e_1 g_e_1 q_e_1 H locs e_1 hP hS => ?_)
  cases e_1
  refine lv_if_eq (tgt := 10) hx hb dX2_costOf_5 (by decide) (fun c_2 => ?_) (fun c_2 => ?_)
  · skip
    refine lv_iload_n hx hb dX2_costOf_10 rfl (lv_at hl 1 rfl) ?_
    refine lv_aload_n hx hb dX2_costOf_11 rfl (lv_at hl 0 rfl) ?_
    refine lv_iload_n hx hb dX2_costOf_12 rfl (lv_at hl 2 rfl) ?_
    refine sy_ki (sy_rS (As := [.int x1]) (rest := [.ref (ad 67), .int x0]) ⟨hx, hb, hml, hown, hts⟩ hE hP hS (mX2_stepOf l hfl Z nT nK cT cK ad g q x1 hT) (va_cwS 1 hts (gu_S uk_4_76 uk_4_77 uk_1_7 uk_4_78) rfl rfl rfl (by decide +kernel) ⟨Nat.le_of_ble_eq_true rfl, Nat.le_of_ble_eq_true rfl⟩) rfl hl.1 rfl (Nat.le_of_ble_eq_true rfl) dX2_costOf_13 ⟨Nat.le_of_ble_eq_true rfl, Nat.le_of_ble_eq_true rfl⟩) hS (fun r_e_3 g_e_3 q_e_3 H locs e_3 hP hS => ?_)
    cases e_3
    refine lv_iload_n hx hb dX2_costOf_16 rfl (lv_at hl 3 rfl) ?_
    refine sy_ki (sy_rV (o := 67) (As := [.int (fX2_stepOf g q x1), .int x2]) (rest := [.int x0]) ⟨hx, hb, hml, hown, hts⟩ hE hP hS (mX2_rateOn l hfl Z nT nK cT cK ad g q (fX2_stepOf g q x1) x2 hT hG) (cwV 2 hts (gu_V uk_4_79 uk_2_211 uk_2_212 uk_1_7 uk_2_213) rfl rfl rfl (by decide +kernel) ⟨Nat.le_of_ble_eq_true rfl, Nat.le_of_ble_eq_true rfl⟩) (sy_recv (kc := 3) hE hP rfl (by decide) rfl rfl rfl) rfl hl.1 rfl (Nat.le_of_ble_eq_true rfl) dX2_costOf_17 ⟨Nat.le_of_ble_eq_true rfl, Nat.le_of_ble_eq_true rfl⟩) hS (fun r_e_4 g_e_4 q_e_4 H locs e_4 hP hS => ?_)
    cases e_4
    refine lv_imul hx hb dX2_costOf_20 ?_
    refine lv_sipush (v := 999) hx hb dX2_costOf_21 (by decide) ?_
    refine lv_iadd hx hb dX2_costOf_24 ?_
    refine lv_sipush (v := 1000) hx hb dX2_costOf_25 (by decide) ?_
    refine lv_idiv hx hb dX2_costOf_28 (by decide) ?_
    exact (sy_ireti hx hb hr hlocks hE hP hS dX2_costOf_29 ⟨Nat.le_of_ble_eq_true rfl, Nat.le_of_ble_eq_true rfl⟩ (by unfold fX2_costOf; rw [if_pos c_2] <;> rfl))
  · skip
    refine lv_iconst (v := 0) hx hb dX2_costOf_8 (by decide) ?_
    exact (sy_ireti hx hb hr hlocks hE hP hS dX2_costOf_9 ⟨Nat.le_of_ble_eq_true rfl, Nat.le_of_ble_eq_true rfl⟩ (by unfold fX2_costOf; rw [if_neg c_2] <;> rfl))
/-- a ticket's days: both are small numbers -/
def DD (x1 x2 : Int32) : Prop := x1 = nI x1.toNatClampNeg ∧ x2 = nI x2.toNatClampNeg ∧ x1.toNatClampNeg ≤ x2.toNatClampNeg ∧ x2.toNatClampNeg ≤ 5000
theorem dd_begun {x1 x2 : Int32} (h : DD x1 x2) : (((x2 - x1) / 14) + 1) = nI ((x2.toNatClampNeg - x1.toNatClampNeg) / 14 + 1) := by
  obtain ⟨h1, h2, h3, h4⟩ := h
  have e : x2 - x1 = nI (x2.toNatClampNeg - x1.toNatClampNeg) := by
    conv => lhs; rw [h1, h2]
    exact pk_sub h3
  rw [e, show (14 : Int32) = nI 14 from rfl, pk_div (by omega) (by decide) (by decide), nI_1]
theorem dd_days {x1 x2 : Int32} (h : DD x1 x2) {k : Nat} (hk : k ≤ 5001) : x2 < x1 + nI k ↔ x2.toNatClampNeg < x1.toNatClampNeg + k := by
  obtain ⟨h1, h2, h3, h4⟩ := h
  have e : x1 + nI k = nI (x1.toNatClampNeg + k) := by
    conv => lhs; rw [h1]
    exact nI_add _ _
  rw [e]
  conv => lhs; rw [h2]
  exact nI_ltI (by omega) (by omega)
def lX2_interest (g : sG) (q : sQ) (x0 x1 x2 : Int32) : Nat → Int32
  | 0 => 0
  | k0 + 1 => ((lX2_interest g q x0 x1 x2 k0) + (fX2_costOf g q x0 (nI k0) (x1 + ((nI k0) * 14))))
def fX2_interest (g : sG) (q : sQ) (x0 x1 x2 : Int32) : Int32 := (if 3 < (x2 - x1) then (lX2_interest g q x0 x1 x2 ((x2.toNatClampNeg - x1.toNatClampNeg) / 14 + 1)) else 0)
set_option maxHeartbeats 4000000 in
set_option maxRecDepth 100000 in
theorem mX2_interest (l : Launch) (hfl : l.stackTraces = false) (Z : sZ) (nT nK cT cK : Nat) (ad : Nat → Nat) (g : sG) (q : sQ) (x0 x1 x2 : Int32) (hT : nT ≤ 100) (hG : IG nT nK cT cK g) (hd : DD x1 x2) : sMi l Z yX2_interest (uW (.code yX2_interest cX2_interest 7 (some .int))) { frames := 3, cells := 0, slots := 0, locals := 66 } [.ref (ad 67), .int x0, .int x1, .int x2] nT nK cT cK ad g q (fun r g1 q1 => (r, g1, q1) = (fX2_interest g q x0 x1 x2, g, q)) := by
  refine Met.ofW (cc := cX2_interest) (maxL := 7) (ret := (some .int)) (by decide) rfl ?_
  intro p e s m args below meth c s₁ B hml hv
  obtain ⟨rfl, hE, hP⟩ := hv
  have hx := B.exec
  have hb := B.bytes
  have hr := B.returns
  have hts := atoms_spec (ws := uW (.code yX2_interest cX2_interest 7 (some .int))) B.pre
  have hown : s.vm.findClass RX2 = some m.cls := findClass_of_methodNamed B.named
  have hlocks := B.notSynchronized
  have hS : va_S (sy_A Z) s.heap s.heap [] := va_S.rf
  have hl := lv_entry ([.ref (ad 67), .int x0, .int x1, .int x2]) (n := 7) (Nat.le_of_ble_eq_true rfl)
  rw [lg_entry_eq]
  generalize (lg_sl ([.ref (ad 67), .int x0, .int x1, .int x2]) ++ List.replicate (7 - (lg_sl ([.ref (ad 67), .int x0, .int x1, .int x2])).length) Slot.unset).toArray = ls at hl ⊢
  have hl : lv_has ls 7 [(0, .ref (ad 67)), (1, .int x0), (2, .int x1), (3, .int x2)] := hl
  refine lv_iload_n hx hb dX2_interest_0 rfl (lv_at hl 3 rfl) ?_
  refine lv_iload_n hx hb dX2_interest_1 rfl (lv_at hl 2 rfl) ?_
  refine lv_isub hx hb dX2_interest_2 ?_
  refine lv_iconst (v := 3) hx hb dX2_interest_3 (by decide) ?_
  refine lv_icmp_gt (tgt := 9) hx hb dX2_interest_4 (by decide) (fun c_1 => ?_) (fun c_1 => ?_)
  · skip
    refine lv_iload_n hx hb dX2_interest_9 rfl (lv_at hl 3 rfl) ?_
    refine lv_iload_n hx hb dX2_interest_10 rfl (lv_at hl 2 rfl) ?_
    refine lv_isub hx hb dX2_interest_11 ?_
    refine lv_bipush (v := 14) hx hb dX2_interest_12 (by decide) ?_
    refine lv_idiv hx hb dX2_interest_14 (by decide) ?_
    refine lv_iconst (v := 1) hx hb dX2_interest_15 (by decide) ?_
    refine lv_iadd hx hb dX2_interest_16 ?_
    refine lv_istore (lv' := [(4, .int (((x2 - x1) / 14) + 1)), (0, .ref (ad 67)), (1, .int x0), (2, .int x1), (3, .int x2)]) hx hb dX2_interest_17 hl (by decide) rfl (fun ls hl => ?_)
    refine lv_iconst (v := 0) hx hb dX2_interest_19 (by decide) ?_
    refine lv_istore (lv' := [(5, .int 0), (4, .int (((x2 - x1) / 14) + 1)), (0, .ref (ad 67)), (1, .int x0), (2, .int x1), (3, .int x2)]) hx hb dX2_interest_20 hl (by decide) rfl (fun ls hl => ?_)
    refine lv_iconst (v := 0) hx hb dX2_interest_22 (by decide) ?_
    refine lv_istore (lv' := [(6, .int 0), (5, .int 0), (4, .int (((x2 - x1) / 14) + 1)), (0, .ref (ad 67)), (1, .int x0), (2, .int x1), (3, .int x2)]) hx hb dX2_interest_23 hl (by decide) rfl (fun ls hl => ?_)
    have hL_25 : ∀ (n k0 : Nat), k0 ≤ ((x2.toNatClampNeg - x1.toNatClampNeg) / 14 + 1) → ((x2.toNatClampNeg - x1.toNatClampNeg) / 14 + 1) + 1 ≤ k0 + n → ∀ (H : Heap) (locs : List Loc) (ls : Array Slot), Sy Z nT nK cT cK ad g q H → va_S (sy_A Z) s.heap H locs → lv_has ls 7 [(6, .int (nI k0)), (5, .int (lX2_interest g q x0 x1 x2 k0)), (4, .int (((x2 - x1) / 14) + 1)), (0, .ref (ad 67)), (1, .int x0), (2, .int x1), (3, .int x2)] → W p l e ({ frames := 3, cells := 0, slots := 0, locals := 66 } : Room) s m ([.ref (ad 67), .int x0, .int x1, .int x2] : List Value).toArray below meth c H locs 0 0 (MQ below (sQi Z nT nK cT cK ad (fun r g1 q1 => (r, g1, q1) = (fX2_interest g q x0 x1 x2, g, q))) ([.ref (ad 67), .int x0, .int x1, .int x2] : List Value).toArray s 0 0 (sy_A Z)) (F0 m 25 ls []) := by
      intro n
      induction n with
      | zero => intro k0 hi hn ; exact absurd hn (by omega)
      | succ n ih =>
        intro k0 hi hn H locs ls hP hS hl
        have hN9 := hd.2.2.2
        refine lv_iload hx hb dX2_interest_25 (lv_at hl 0 rfl) ?_
        refine lv_iload hx hb dX2_interest_27 (lv_at hl 2 rfl) ?_
        refine lv_icmp_ge (tgt := 57) hx hb dX2_interest_29 (by decide) (fun c_2 => ?_) (fun c_2 => ?_)
        · skip
          obtain rfl := loop_exit (N := ((x2.toNatClampNeg - x1.toNatClampNeg) / 14 + 1)) (dd_begun hd) (by omega) hi c_2
          refine lv_iload hx hb dX2_interest_57 (lv_at hl 1 rfl) ?_
          exact (sy_ireti hx hb hr hlocks hE hP hS dX2_interest_59 ⟨Nat.le_of_ble_eq_true rfl, Nat.le_of_ble_eq_true rfl⟩ (by unfold fX2_interest; rw [if_pos c_1] <;> rfl))
        · skip
          have hk0 : k0 < ((x2.toNatClampNeg - x1.toNatClampNeg) / 14 + 1) := loop_in (N := ((x2.toNatClampNeg - x1.toNatClampNeg) / 14 + 1)) (dd_begun hd) (by omega) hi c_2
          refine lv_iload hx hb dX2_interest_32 (lv_at hl 1 rfl) ?_
          refine lv_aload_n hx hb dX2_interest_34 rfl (lv_at hl 3 rfl) ?_
          refine lv_iload_n hx hb dX2_interest_35 rfl (lv_at hl 4 rfl) ?_
          refine lv_iload hx hb dX2_interest_36 (lv_at hl 0 rfl) ?_
          refine lv_iload_n hx hb dX2_interest_38 rfl (lv_at hl 5 rfl) ?_
          refine lv_iload hx hb dX2_interest_39 (lv_at hl 0 rfl) ?_
          refine lv_bipush (v := 14) hx hb dX2_interest_41 (by decide) ?_
          refine lv_imul hx hb dX2_interest_43 ?_
          refine lv_iadd hx hb dX2_interest_44 ?_
          refine sy_ki (sy_rV (o := 67) (As := [.int x0, .int (nI k0), .int (x1 + ((nI k0) * 14))]) (rest := [.int (lX2_interest g q x0 x1 x2 k0)]) ⟨hx, hb, hml, hown, hts⟩ hE hP hS (mX2_costOf l hfl Z nT nK cT cK ad g q x0 (nI k0) (x1 + ((nI k0) * 14)) hT hG) (cwV 3 hts (gu_V uk_4_68 uk_4_69 uk_4_70 uk_1_7 uk_4_71) rfl rfl rfl (by decide +kernel) ⟨Nat.le_of_ble_eq_true rfl, Nat.le_of_ble_eq_true rfl⟩) (sy_recv (kc := 3) hE hP rfl (by decide) rfl rfl rfl) rfl hl.1 rfl (Nat.le_of_ble_eq_true rfl) dX2_interest_45 ⟨Nat.le_of_ble_eq_true rfl, Nat.le_of_ble_eq_true rfl⟩) hS (fun r_e_3 g_e_3 q_e_3 H locs e_3 hP hS => ?_)
          cases e_3
          refine lv_iadd hx hb dX2_interest_48 ?_
          refine lv_istore (lv' := [(5, .int ((lX2_interest g q x0 x1 x2 k0) + (fX2_costOf g q x0 (nI k0) (x1 + ((nI k0) * 14))))), (6, .int (nI k0)), (4, .int (((x2 - x1) / 14) + 1)), (0, .ref (ad 67)), (1, .int x0), (2, .int x1), (3, .int x2)]) hx hb dX2_interest_49 hl (by decide) rfl (fun ls hl => ?_)
          refine lv_iinc (v := ((nI k0) + 1)) (lv' := [(6, .int ((nI k0) + 1)), (5, .int ((lX2_interest g q x0 x1 x2 k0) + (fX2_costOf g q x0 (nI k0) (x1 + ((nI k0) * 14))))), (4, .int (((x2 - x1) / 14) + 1)), (0, .ref (ad 67)), (1, .int x0), (2, .int x1), (3, .int x2)]) hx hb dX2_interest_51 hl (k := 1) rfl rfl (by decide) rfl (fun ls hl => ?_)
          refine lv_goto (tgt := 25) hx hb dX2_interest_54 (by decide) ?_
          have hF : lX2_interest g q x0 x1 x2 (k0 + 1) = ((lX2_interest g q x0 x1 x2 k0) + (fX2_costOf g q x0 (nI k0) (x1 + ((nI k0) * 14)))) := by rw [lX2_interest] <;> rfl
          exact ih (k0 + 1) (by omega) (by omega) H locs ls hP hS (by rw [nI_succ, hF]; exact lv_sub hl [0, 1, 2, 3, 4, 5, 6] rfl)
    exact hL_25 (((x2.toNatClampNeg - x1.toNatClampNeg) / 14 + 1) + 1) 0 (Nat.zero_le _) (by omega) _ _ _ hP hS (lv_sub hl [0, 1, 2, 3, 4, 5, 6] rfl)
  · skip
    refine lv_iconst (v := 0) hx hb dX2_interest_7 (by decide) ?_
    exact (sy_ireti hx hb hr hlocks hE hP hS dX2_interest_8 ⟨Nat.le_of_ble_eq_true rfl, Nat.le_of_ble_eq_true rfl⟩ (by unfold fX2_interest; rw [if_neg c_1] <;> rfl))
def lX2_byDays (g : sG) (q : sQ) (x0 x1 x2 : Int32) : Nat → Int32 × Int32 × Int32
  | 0 => (0, 0, 0)
  | k0 + 1 => (if ((lX2_byDays g q x0 x1 x2 k0).2.2) = 0 then ((((lX2_byDays g q x0 x1 x2 k0).1) + (fX2_costOf g q x0 ((lX2_byDays g q x0 x1 x2 k0).2.1) (x1 + (nI k0)))), (((lX2_byDays g q x0 x1 x2 k0).2.1) + 1), 13) else (((lX2_byDays g q x0 x1 x2 k0).1), ((lX2_byDays g q x0 x1 x2 k0).2.1), (((lX2_byDays g q x0 x1 x2 k0).2.2) + (-1))))
def fX2_interestByDays (g : sG) (q : sQ) (x0 x1 x2 : Int32) : Int32 := (if (x2 - x1) ≤ 3 then 0 else ((lX2_byDays g q x0 x1 x2 (x2.toNatClampNeg - x1.toNatClampNeg + 1)).1))
set_option maxHeartbeats 4000000 in
set_option maxRecDepth 100000 in
theorem mX2_interestByDays (l : Launch) (hfl : l.stackTraces = false) (Z : sZ) (nT nK cT cK : Nat) (ad : Nat → Nat) (g : sG) (q : sQ) (x0 x1 x2 : Int32) (hT : nT ≤ 100) (hG : IG nT nK cT cK g) (hd : DD x1 x2) : sMi l Z yX2_interestByDays (uW (.code yX2_interestByDays cX2_interestByDays 8 (some .int))) { frames := 3, cells := 0, slots := 0, locals := 66 } [.ref (ad 67), .int x0, .int x1, .int x2] nT nK cT cK ad g q (fun r g1 q1 => (r, g1, q1) = (fX2_interestByDays g q x0 x1 x2, g, q)) := by
  refine Met.ofW (cc := cX2_interestByDays) (maxL := 8) (ret := (some .int)) (by decide) rfl ?_
  intro p e s m args below meth c s₁ B hml hv
  obtain ⟨rfl, hE, hP⟩ := hv
  have hx := B.exec
  have hb := B.bytes
  have hr := B.returns
  have hts := atoms_spec (ws := uW (.code yX2_interestByDays cX2_interestByDays 8 (some .int))) B.pre
  have hown : s.vm.findClass RX2 = some m.cls := findClass_of_methodNamed B.named
  have hlocks := B.notSynchronized
  have hS : va_S (sy_A Z) s.heap s.heap [] := va_S.rf
  have hl := lv_entry ([.ref (ad 67), .int x0, .int x1, .int x2]) (n := 8) (Nat.le_of_ble_eq_true rfl)
  rw [lg_entry_eq]
  generalize (lg_sl ([.ref (ad 67), .int x0, .int x1, .int x2]) ++ List.replicate (8 - (lg_sl ([.ref (ad 67), .int x0, .int x1, .int x2])).length) Slot.unset).toArray = ls at hl ⊢
  have hl : lv_has ls 8 [(0, .ref (ad 67)), (1, .int x0), (2, .int x1), (3, .int x2)] := hl
  refine lv_iconst (v := 0) hx hb dX2_interestByDays_0 (by decide) ?_
  refine lv_istore (lv' := [(4, .int 0), (0, .ref (ad 67)), (1, .int x0), (2, .int x1), (3, .int x2)]) hx hb dX2_interestByDays_1 hl (by decide) rfl (fun ls hl => ?_)
  refine lv_iconst (v := 0) hx hb dX2_interestByDays_3 (by decide) ?_
  refine lv_istore (lv' := [(5, .int 0), (4, .int 0), (0, .ref (ad 67)), (1, .int x0), (2, .int x1), (3, .int x2)]) hx hb dX2_interestByDays_4 hl (by decide) rfl (fun ls hl => ?_)
  refine lv_iconst (v := 0) hx hb dX2_interestByDays_6 (by decide) ?_
  refine lv_istore (lv' := [(6, .int 0), (5, .int 0), (4, .int 0), (0, .ref (ad 67)), (1, .int x0), (2, .int x1), (3, .int x2)]) hx hb dX2_interestByDays_7 hl (by decide) rfl (fun ls hl => ?_)
  refine lv_iload_n hx hb dX2_interestByDays_9 rfl (lv_at hl 5 rfl) ?_
  refine lv_istore (lv' := [(7, .int x1), (6, .int 0), (5, .int 0), (4, .int 0), (0, .ref (ad 67)), (1, .int x0), (2, .int x1), (3, .int x2)]) hx hb dX2_interestByDays_10 hl (by decide) rfl (fun ls hl => ?_)
  have hL_12 : ∀ (n k0 : Nat), k0 ≤ (x2.toNatClampNeg - x1.toNatClampNeg + 1) → (x2.toNatClampNeg - x1.toNatClampNeg + 1) + 1 ≤ k0 + n → ∀ (H : Heap) (locs : List Loc) (ls : Array Slot), Sy Z nT nK cT cK ad g q H → va_S (sy_A Z) s.heap H locs → lv_has ls 8 [(7, .int (x1 + (nI k0))), (6, .int ((lX2_byDays g q x0 x1 x2 k0).2.2)), (5, .int ((lX2_byDays g q x0 x1 x2 k0).2.1)), (4, .int ((lX2_byDays g q x0 x1 x2 k0).1)), (0, .ref (ad 67)), (1, .int x0), (2, .int x1), (3, .int x2)] → W p l e ({ frames := 3, cells := 0, slots := 0, locals := 66 } : Room) s m ([.ref (ad 67), .int x0, .int x1, .int x2] : List Value).toArray below meth c H locs 0 0 (MQ below (sQi Z nT nK cT cK ad (fun r g1 q1 => (r, g1, q1) = (fX2_interestByDays g q x0 x1 x2, g, q))) ([.ref (ad 67), .int x0, .int x1, .int x2] : List Value).toArray s 0 0 (sy_A Z)) (F0 m 12 ls []) := by
    intro n
    induction n with
    | zero => intro k0 hi hn ; exact absurd hn (by omega)
    | succ n ih =>
      intro k0 hi hn H locs ls hP hS hl
      have hN9 := hd.2.2
      refine lv_iload hx hb dX2_interestByDays_12 (lv_at hl 0 rfl) ?_
      refine lv_iload_n hx hb dX2_interestByDays_14 rfl (lv_at hl 7 rfl) ?_
      refine lv_icmp_gt (tgt := 53) hx hb dX2_interestByDays_15 (by decide) (fun c_1 => ?_) (fun c_1 => ?_)
      · skip
        obtain rfl : (x2.toNatClampNeg - x1.toNatClampNeg + 1) = k0 := by have h9 := (dd_days hd (by omega)).mp c_1; omega
        refine lv_iload_n hx hb dX2_interestByDays_53 rfl (lv_at hl 7 rfl) ?_
        refine lv_iload_n hx hb dX2_interestByDays_54 rfl (lv_at hl 6 rfl) ?_
        refine lv_isub hx hb dX2_interestByDays_55 ?_
        refine lv_iconst (v := 3) hx hb dX2_interestByDays_56 (by decide) ?_
        refine lv_icmp_le (tgt := 65) hx hb dX2_interestByDays_57 (by decide) (fun c_2 => ?_) (fun c_2 => ?_)
        · skip
          refine lv_iconst (v := 0) hx hb dX2_interestByDays_65 (by decide) ?_
          exact (sy_ireti hx hb hr hlocks hE hP hS dX2_interestByDays_66 ⟨Nat.le_of_ble_eq_true rfl, Nat.le_of_ble_eq_true rfl⟩ (by unfold fX2_interestByDays; rw [if_pos c_2] <;> rfl))
        · skip
          refine lv_iload hx hb dX2_interestByDays_60 (lv_at hl 3 rfl) ?_
          refine lv_goto (tgt := 66) hx hb dX2_interestByDays_62 (by decide) ?_
          exact (sy_ireti hx hb hr hlocks hE hP hS dX2_interestByDays_66 ⟨Nat.le_of_ble_eq_true rfl, Nat.le_of_ble_eq_true rfl⟩ (by unfold fX2_interestByDays; rw [if_neg c_2] <;> rfl))
      · skip
        have hk0 : k0 < (x2.toNatClampNeg - x1.toNatClampNeg + 1) := by have h9 := mt (dd_days hd (by omega)).mpr c_1; omega
        refine lv_iload hx hb dX2_interestByDays_18 (lv_at hl 1 rfl) ?_
        refine lv_if_ne (tgt := 44) hx hb dX2_interestByDays_20 (by decide) (fun c_3 => ?_) (fun c_3 => ?_)
        · skip
          refine lv_iinc (v := (((lX2_byDays g q x0 x1 x2 k0).2.2) + (-1))) (lv' := [(6, .int (((lX2_byDays g q x0 x1 x2 k0).2.2) + (-1))), (7, .int (x1 + (nI k0))), (5, .int ((lX2_byDays g q x0 x1 x2 k0).2.1)), (4, .int ((lX2_byDays g q x0 x1 x2 k0).1)), (0, .ref (ad 67)), (1, .int x0), (2, .int x1), (3, .int x2)]) hx hb dX2_interestByDays_44 hl (k := 1) rfl rfl (by decide) rfl (fun ls hl => ?_)
          refine lv_iinc (v := ((x1 + (nI k0)) + 1)) (lv' := [(7, .int ((x1 + (nI k0)) + 1)), (6, .int (((lX2_byDays g q x0 x1 x2 k0).2.2) + (-1))), (5, .int ((lX2_byDays g q x0 x1 x2 k0).2.1)), (4, .int ((lX2_byDays g q x0 x1 x2 k0).1)), (0, .ref (ad 67)), (1, .int x0), (2, .int x1), (3, .int x2)]) hx hb dX2_interestByDays_47 hl (k := 1) rfl rfl (by decide) rfl (fun ls hl => ?_)
          refine lv_goto (tgt := 12) hx hb dX2_interestByDays_50 (by decide) ?_
          have hF : lX2_byDays g q x0 x1 x2 (k0 + 1) = (((lX2_byDays g q x0 x1 x2 k0).1), ((lX2_byDays g q x0 x1 x2 k0).2.1), (((lX2_byDays g q x0 x1 x2 k0).2.2) + (-1))) := by rw [lX2_byDays, if_neg c_3] <;> rfl
          exact ih (k0 + 1) (by omega) (by omega) H locs ls hP hS (by rw [nI_succ, ← Int32.add_assoc, t3_1 hF, t3_2 hF, t3_3 hF]; exact lv_sub hl [0, 1, 2, 3, 4, 5, 6, 7] rfl)
        · skip
          refine lv_iload hx hb dX2_interestByDays_23 (lv_at hl 3 rfl) ?_
          refine lv_aload_n hx hb dX2_interestByDays_25 rfl (lv_at hl 4 rfl) ?_
          refine lv_iload_n hx hb dX2_interestByDays_26 rfl (lv_at hl 5 rfl) ?_
          refine lv_iload hx hb dX2_interestByDays_27 (lv_at hl 2 rfl) ?_
          refine lv_iload hx hb dX2_interestByDays_29 (lv_at hl 0 rfl) ?_
          refine sy_ki (sy_rV (o := 67) (As := [.int x0, .int ((lX2_byDays g q x0 x1 x2 k0).2.1), .int (x1 + (nI k0))]) (rest := [.int ((lX2_byDays g q x0 x1 x2 k0).1)]) ⟨hx, hb, hml, hown, hts⟩ hE hP hS (mX2_costOf l hfl Z nT nK cT cK ad g q x0 ((lX2_byDays g q x0 x1 x2 k0).2.1) (x1 + (nI k0)) hT hG) (cwV 3 hts (gu_V uk_4_68 uk_4_69 uk_4_70 uk_1_7 uk_4_71) rfl rfl rfl (by decide +kernel) ⟨Nat.le_of_ble_eq_true rfl, Nat.le_of_ble_eq_true rfl⟩) (sy_recv (kc := 3) hE hP rfl (by decide) rfl rfl rfl) rfl hl.1 rfl (Nat.le_of_ble_eq_true rfl) dX2_interestByDays_31 ⟨Nat.le_of_ble_eq_true rfl, Nat.le_of_ble_eq_true rfl⟩) hS (fun r_e_4 g_e_4 q_e_4 H locs e_4 hP hS => ?_)
          cases e_4
          refine lv_iadd hx hb dX2_interestByDays_34 ?_
          refine lv_istore (lv' := [(4, .int (((lX2_byDays g q x0 x1 x2 k0).1) + (fX2_costOf g q x0 ((lX2_byDays g q x0 x1 x2 k0).2.1) (x1 + (nI k0))))), (7, .int (x1 + (nI k0))), (6, .int ((lX2_byDays g q x0 x1 x2 k0).2.2)), (5, .int ((lX2_byDays g q x0 x1 x2 k0).2.1)), (0, .ref (ad 67)), (1, .int x0), (2, .int x1), (3, .int x2)]) hx hb dX2_interestByDays_35 hl (by decide) rfl (fun ls hl => ?_)
          refine lv_iinc (v := (((lX2_byDays g q x0 x1 x2 k0).2.1) + 1)) (lv' := [(5, .int (((lX2_byDays g q x0 x1 x2 k0).2.1) + 1)), (4, .int (((lX2_byDays g q x0 x1 x2 k0).1) + (fX2_costOf g q x0 ((lX2_byDays g q x0 x1 x2 k0).2.1) (x1 + (nI k0))))), (7, .int (x1 + (nI k0))), (6, .int ((lX2_byDays g q x0 x1 x2 k0).2.2)), (0, .ref (ad 67)), (1, .int x0), (2, .int x1), (3, .int x2)]) hx hb dX2_interestByDays_37 hl (k := 3) rfl rfl (by decide) rfl (fun ls hl => ?_)
          refine lv_bipush (v := 14) hx hb dX2_interestByDays_40 (by decide) ?_
          refine lv_istore (lv' := [(6, .int 14), (5, .int (((lX2_byDays g q x0 x1 x2 k0).2.1) + 1)), (4, .int (((lX2_byDays g q x0 x1 x2 k0).1) + (fX2_costOf g q x0 ((lX2_byDays g q x0 x1 x2 k0).2.1) (x1 + (nI k0))))), (7, .int (x1 + (nI k0))), (0, .ref (ad 67)), (1, .int x0), (2, .int x1), (3, .int x2)]) hx hb dX2_interestByDays_42 hl (by decide) rfl (fun ls hl => ?_)
          refine lv_iinc (v := 13) (lv' := [(6, .int 13), (5, .int (((lX2_byDays g q x0 x1 x2 k0).2.1) + 1)), (4, .int (((lX2_byDays g q x0 x1 x2 k0).1) + (fX2_costOf g q x0 ((lX2_byDays g q x0 x1 x2 k0).2.1) (x1 + (nI k0))))), (7, .int (x1 + (nI k0))), (0, .ref (ad 67)), (1, .int x0), (2, .int x1), (3, .int x2)]) hx hb dX2_interestByDays_44 hl (k := 0) rfl rfl (by decide) rfl (fun ls hl => ?_)
          refine lv_iinc (v := ((x1 + (nI k0)) + 1)) (lv' := [(7, .int ((x1 + (nI k0)) + 1)), (6, .int 13), (5, .int (((lX2_byDays g q x0 x1 x2 k0).2.1) + 1)), (4, .int (((lX2_byDays g q x0 x1 x2 k0).1) + (fX2_costOf g q x0 ((lX2_byDays g q x0 x1 x2 k0).2.1) (x1 + (nI k0))))), (0, .ref (ad 67)), (1, .int x0), (2, .int x1), (3, .int x2)]) hx hb dX2_interestByDays_47 hl (k := 3) rfl rfl (by decide) rfl (fun ls hl => ?_)
          refine lv_goto (tgt := 12) hx hb dX2_interestByDays_50 (by decide) ?_
          have hF : lX2_byDays g q x0 x1 x2 (k0 + 1) = ((((lX2_byDays g q x0 x1 x2 k0).1) + (fX2_costOf g q x0 ((lX2_byDays g q x0 x1 x2 k0).2.1) (x1 + (nI k0)))), (((lX2_byDays g q x0 x1 x2 k0).2.1) + 1), 13) := by rw [lX2_byDays, if_pos c_3] <;> rfl
          exact ih (k0 + 1) (by omega) (by omega) H locs ls hP hS (by rw [nI_succ, ← Int32.add_assoc, t3_1 hF, t3_2 hF, t3_3 hF]; exact lv_sub hl [0, 1, 2, 3, 4, 5, 6, 7] rfl)
  exact hL_12 ((x2.toNatClampNeg - x1.toNatClampNeg + 1) + 1) 0 (Nat.zero_le _) (by omega) _ _ _ hP hS (by rw [nI_0, Int32.add_zero]; exact lv_sub hl [0, 1, 2, 3, 4, 5, 6, 7] rfl)
def fX5_free (g : sG) (q : sQ)  : Int32 := ((g 68 0) - (g 68 1))
set_option maxHeartbeats 4000000 in
set_option maxRecDepth 100000 in
theorem mX5_free (l : Launch) (hfl : l.stackTraces = false) (Z : sZ) (nT nK cT cK : Nat) (ad : Nat → Nat) (g : sG) (q : sQ)  (hT : nT ≤ 100) : sMi l Z yX5_free (uW (.code yX5_free cX5_free 1 (some .int))) { frames := 0, cells := 0, slots := 0, locals := 0 } [.ref (ad 68)] nT nK cT cK ad g q (fun r g1 q1 => (r, g1, q1) = (fX5_free g q, g, q)) := by
  refine Met.ofW (cc := cX5_free) (maxL := 1) (ret := (some .int)) (by decide) rfl ?_
  intro p e s m args below meth c s₁ B hml hv
  obtain ⟨rfl, hE, hP⟩ := hv
  have hx := B.exec
  have hb := B.bytes
  have hr := B.returns
  have hts := atoms_spec (ws := uW (.code yX5_free cX5_free 1 (some .int))) B.pre
  have hown : s.vm.findClass RX5 = some m.cls := findClass_of_methodNamed B.named
  have hlocks := B.notSynchronized
  have hS : va_S (sy_A Z) s.heap s.heap [] := va_S.rf
  have hl := lv_entry ([.ref (ad 68)]) (n := 1) (Nat.le_of_ble_eq_true rfl)
  rw [lg_entry_eq]
  generalize (lg_sl ([.ref (ad 68)]) ++ List.replicate (1 - (lg_sl ([.ref (ad 68)])).length) Slot.unset).toArray = ls at hl ⊢
  have hl : lv_has ls 1 [(0, .ref (ad 68))] := hl
  refine lv_aload_n hx hb dX5_free_0 rfl (lv_at hl 0 rfl) ?_
  refine sy_getRX5 hx hb hts hown hE hP 68 rfl 0 (by decide) (hts _ (u_in uk_1_133)) (v := .int (g 68 0)) rfl dX5_free_1 ?_
  refine lv_aload_n hx hb dX5_free_4 rfl (lv_at hl 0 rfl) ?_
  refine sy_getRX5 hx hb hts hown hE hP 68 rfl 1 (by decide) (hts _ (u_in uk_1_135)) (v := .int (g 68 1)) rfl dX5_free_5 ?_
  refine lv_isub hx hb dX5_free_8 ?_
  exact (sy_ireti hx hb hr hlocks hE hP hS dX5_free_9 ⟨Nat.le_of_ble_eq_true rfl, Nat.le_of_ble_eq_true rfl⟩ (by unfold fX5_free; rfl))
theorem ig_moves {nT nK cT cK : Nat} {g : sG} (h : IG nT nK cT cK g) : g 68 4 = nI (g 68 4).toNatClampNeg ∧ (g 68 4).toNatClampNeg ≤ 600 := cnt_of h.2.2.2.2.2.2.2.2.1 (by decide)
theorem mv_in {a : Int32} (hm : ∃ m, m ≤ 600 ∧ a = nI m) (h : ¬ 600 ≤ a) : vp_in a 600 := by
  obtain ⟨m, h1, h2⟩ := hm
  exact vp_in_less h2 (by omega) (by decide) h
def fX5_move (g : sG) (q : sQ) (x0 : Int32) : sG := (if 600 ≤ (g 68 4) then (sy_up (sy_up g 68 0 ((g 68 0) + x0)) 78 599 ((g 78 599) + x0)) else (sy_up (sy_up (sy_up g 68 0 ((g 68 0) + x0)) 78 ((g 68 4).toNatClampNeg) x0) 68 4 ((g 68 4) + 1)))
set_option maxHeartbeats 4000000 in
set_option maxRecDepth 100000 in
theorem mX5_move (l : Launch) (hfl : l.stackTraces = false) (Z : sZ) (nT nK cT cK : Nat) (ad : Nat → Nat) (g : sG) (q : sQ) (x0 : Int32) (hT : nT ≤ 100) (hm : ∃ m, m ≤ 600 ∧ g 68 4 = nI m) : sMv l Z yX5_move (uW (.code yX5_move cX5_move 2 none)) { frames := 0, cells := 0, slots := 0, locals := 0 } [.ref (ad 68), .int x0] nT nK cT cK ad g q (fun g1 q1 => (g1, q1) = (fX5_move g q x0, q)) := by
  refine Met.ofW (cc := cX5_move) (maxL := 2) (ret := none) (by decide) rfl ?_
  intro p e s m args below meth c s₁ B hml hv
  obtain ⟨rfl, hE, hP⟩ := hv
  have hx := B.exec
  have hb := B.bytes
  have hr := B.returns
  have hts := atoms_spec (ws := uW (.code yX5_move cX5_move 2 none)) B.pre
  have hown : s.vm.findClass RX5 = some m.cls := findClass_of_methodNamed B.named
  have hlocks := B.notSynchronized
  have hS : va_S (sy_A Z) s.heap s.heap [] := va_S.rf
  have hl := lv_entry ([.ref (ad 68), .int x0]) (n := 2) (Nat.le_of_ble_eq_true rfl)
  rw [lg_entry_eq]
  generalize (lg_sl ([.ref (ad 68), .int x0]) ++ List.replicate (2 - (lg_sl ([.ref (ad 68), .int x0])).length) Slot.unset).toArray = ls at hl ⊢
  have hl : lv_has ls 2 [(0, .ref (ad 68)), (1, .int x0)] := hl
  refine lv_aload_n hx hb dX5_move_0 rfl (lv_at hl 0 rfl) ?_
  refine lv_dup hx hb dX5_move_1 rfl ?_
  refine sy_getRX5 hx hb hts hown hE hP 68 rfl 0 (by decide) (hts _ (u_in uk_1_133)) (v := .int (g 68 0)) rfl dX5_move_2 ?_
  refine lv_iload_n hx hb dX5_move_5 rfl (lv_at hl 1 rfl) ?_
  refine lv_iadd hx hb dX5_move_6 ?_
  refine sy_putRX5 hx hb hts hown hE hP hS 68 rfl 0 (by decide) (hts _ (u_in uk_1_133)) rfl (ty := .int) (by decide +kernel) rfl rfl (sy_up g 68 0 ((g 68 0) + x0)) q (by rw [sy_up_s g 68 0 ((g 68 0) + x0)]; exact se_RX5_0 _ _ _ _ _ _ _) (fun _ h9 => sy_up_o _ _ _ h9) (fun _ _ => rfl) dX5_move_7 (fun H locs hP hS => ?_)
  refine lv_aload_n hx hb dX5_move_10 rfl (lv_at hl 0 rfl) ?_
  refine sy_getRX5 hx hb hts hown hE hP 68 rfl 4 (by decide) (hts _ (u_in uk_1_140)) (v := .int (g 68 4)) rfl dX5_move_11 ?_
  refine lv_aload_n hx hb dX5_move_14 rfl (lv_at hl 0 rfl) ?_
  refine sy_getRX5 hx hb hts hown hE hP 68 rfl 3 (by decide) (hts _ (u_in uk_1_139)) (v := .ref (ad 78)) rfl dX5_move_15 ?_
  refine sy_alen (kc := 10) (t0 := 0) hx hb hE hP 78 rfl (by decide) rfl rfl (v := 600) rfl dX5_move_18 ?_
  refine lv_icmp_ge (tgt := 45) hx hb dX5_move_19 (by decide) (fun c_1 => ?_) (fun c_1 => ?_)
  · skip
    refine lv_aload_n hx hb dX5_move_45 rfl (lv_at hl 0 rfl) ?_
    refine sy_getRX5 hx hb hts hown hE hP 68 rfl 3 (by decide) (hts _ (u_in uk_1_139)) (v := .ref (ad 78)) rfl dX5_move_46 ?_
    refine lv_aload_n hx hb dX5_move_49 rfl (lv_at hl 0 rfl) ?_
    refine sy_getRX5 hx hb hts hown hE hP 68 rfl 3 (by decide) (hts _ (u_in uk_1_139)) (v := .ref (ad 78)) rfl dX5_move_50 ?_
    refine sy_alen (kc := 10) (t0 := 0) hx hb hE hP 78 rfl (by decide) rfl rfl (v := 600) rfl dX5_move_53 ?_
    refine lv_iconst (v := 1) hx hb dX5_move_54 (by decide) ?_
    refine lv_isub hx hb dX5_move_55 ?_
    refine sy_top (y := 599) (by decide) ?_
    refine lv_dup2_11 hx hb dX5_move_56 rfl rfl ?_
    refine sy_ialdN hx hb hE hP 78 rfl (show vp_in 599 600 from by unfold vp_in; decide) 599 (by decide) (v := g 78 599) rfl dX5_move_57 ?_
    refine lv_iload_n hx hb dX5_move_58 rfl (lv_at hl 1 rfl) ?_
    refine lv_iadd hx hb dX5_move_59 ?_
    refine sy_iastN hx hb hE hP hS 78 rfl (show vp_in 599 600 from by unfold vp_in; decide) 599 (by decide) dX5_move_60 (fun H locs hP hS => ?_)
    exact (sy_vret hx hb hr hlocks hE hP hS dX5_move_61 ⟨Nat.le_of_ble_eq_true rfl, Nat.le_of_ble_eq_true rfl⟩ (by unfold fX5_move; rw [if_pos c_1] <;> rfl))
  · skip
    refine lv_aload_n hx hb dX5_move_22 rfl (lv_at hl 0 rfl) ?_
    refine sy_getRX5 hx hb hts hown hE hP 68 rfl 3 (by decide) (hts _ (u_in uk_1_139)) (v := .ref (ad 78)) rfl dX5_move_23 ?_
    refine lv_aload_n hx hb dX5_move_26 rfl (lv_at hl 0 rfl) ?_
    refine sy_getRX5 hx hb hts hown hE hP 68 rfl 4 (by decide) (hts _ (u_in uk_1_140)) (v := .int (g 68 4)) rfl dX5_move_27 ?_
    refine lv_iload_n hx hb dX5_move_30 rfl (lv_at hl 1 rfl) ?_
    refine sy_iastN hx hb hE hP hS 78 rfl (show vp_in (g 68 4) 600 from (mv_in hm c_1)) ((g 68 4).toNatClampNeg) rfl dX5_move_31 (fun H locs hP hS => ?_)
    refine lv_aload_n hx hb dX5_move_32 rfl (lv_at hl 0 rfl) ?_
    refine lv_dup hx hb dX5_move_33 rfl ?_
    refine sy_getRX5 hx hb hts hown hE hP 68 rfl 4 (by decide) (hts _ (u_in uk_1_140)) (v := .int (g 68 4)) rfl dX5_move_34 ?_
    refine lv_iconst (v := 1) hx hb dX5_move_37 (by decide) ?_
    refine lv_iadd hx hb dX5_move_38 ?_
    refine sy_putRX5 hx hb hts hown hE hP hS 68 rfl 4 (by decide) (hts _ (u_in uk_1_140)) rfl (ty := .int) (by decide +kernel) rfl rfl (sy_up (sy_up (sy_up g 68 0 ((g 68 0) + x0)) 78 ((g 68 4).toNatClampNeg) x0) 68 4 ((g 68 4) + 1)) q (by rw [sy_up_s (sy_up (sy_up g 68 0 ((g 68 0) + x0)) 78 ((g 68 4).toNatClampNeg) x0) 68 4 ((g 68 4) + 1)]; exact se_RX5_4 _ _ _ _ _ _ _) (fun _ h9 => sy_up_o _ _ _ h9) (fun _ _ => rfl) dX5_move_39 (fun H locs hP hS => ?_)
    refine lv_goto (tgt := 61) hx hb dX5_move_42 (by decide) ?_
    exact (sy_vret hx hb hr hlocks hE hP hS dX5_move_61 ⟨Nat.le_of_ble_eq_true rfl, Nat.le_of_ble_eq_true rfl⟩ (by unfold fX5_move; rw [if_neg c_1] <;> rfl))
def lX5_sum (g : sG) (q : sQ) : Nat → Int32
  | 0 => 0
  | k0 + 1 => ((lX5_sum g q k0) + (g 78 k0))
def fX5_sumOfMoves (g : sG) (q : sQ)  : Int32 := (lX5_sum g q (g 68 4).toNatClampNeg)
set_option maxHeartbeats 4000000 in
set_option maxRecDepth 100000 in
theorem mX5_sumOfMoves (l : Launch) (hfl : l.stackTraces = false) (Z : sZ) (nT nK cT cK : Nat) (ad : Nat → Nat) (g : sG) (q : sQ)  (hT : nT ≤ 100) (hG : IG nT nK cT cK g) : sMi l Z yX5_sumOfMoves (uW (.code yX5_sumOfMoves cX5_sumOfMoves 3 (some .int))) { frames := 0, cells := 0, slots := 0, locals := 0 } [.ref (ad 68)] nT nK cT cK ad g q (fun r g1 q1 => (r, g1, q1) = (fX5_sumOfMoves g q, g, q)) := by
  refine Met.ofW (cc := cX5_sumOfMoves) (maxL := 3) (ret := (some .int)) (by decide) rfl ?_
  intro p e s m args below meth c s₁ B hml hv
  obtain ⟨rfl, hE, hP⟩ := hv
  have hx := B.exec
  have hb := B.bytes
  have hr := B.returns
  have hts := atoms_spec (ws := uW (.code yX5_sumOfMoves cX5_sumOfMoves 3 (some .int))) B.pre
  have hown : s.vm.findClass RX5 = some m.cls := findClass_of_methodNamed B.named
  have hlocks := B.notSynchronized
  have hS : va_S (sy_A Z) s.heap s.heap [] := va_S.rf
  have hl := lv_entry ([.ref (ad 68)]) (n := 3) (Nat.le_of_ble_eq_true rfl)
  rw [lg_entry_eq]
  generalize (lg_sl ([.ref (ad 68)]) ++ List.replicate (3 - (lg_sl ([.ref (ad 68)])).length) Slot.unset).toArray = ls at hl ⊢
  have hl : lv_has ls 3 [(0, .ref (ad 68))] := hl
  refine lv_iconst (v := 0) hx hb dX5_sumOfMoves_0 (by decide) ?_
  refine lv_istore_n (lv' := [(1, .int 0), (0, .ref (ad 68))]) hx hb dX5_sumOfMoves_1 rfl hl (by decide) rfl (fun ls hl => ?_)
  refine lv_iconst (v := 0) hx hb dX5_sumOfMoves_2 (by decide) ?_
  refine lv_istore_n (lv' := [(2, .int 0), (1, .int 0), (0, .ref (ad 68))]) hx hb dX5_sumOfMoves_3 rfl hl (by decide) rfl (fun ls hl => ?_)
  have hL_4 : ∀ (n k0 : Nat), k0 ≤ (g 68 4).toNatClampNeg → (g 68 4).toNatClampNeg + 1 ≤ k0 + n → ∀ (H : Heap) (locs : List Loc) (ls : Array Slot), Sy Z nT nK cT cK ad g q H → va_S (sy_A Z) s.heap H locs → lv_has ls 3 [(2, .int (nI k0)), (1, .int (lX5_sum g q k0)), (0, .ref (ad 68))] → W p l e ({ frames := 0, cells := 0, slots := 0, locals := 0 } : Room) s m ([.ref (ad 68)] : List Value).toArray below meth c H locs 0 0 (MQ below (sQi Z nT nK cT cK ad (fun r g1 q1 => (r, g1, q1) = (fX5_sumOfMoves g q, g, q))) ([.ref (ad 68)] : List Value).toArray s 0 0 (sy_A Z)) (F0 m 4 ls []) := by
    intro n
    induction n with
    | zero => intro k0 hi hn ; exact absurd hn (by omega)
    | succ n ih =>
      intro k0 hi hn H locs ls hP hS hl
      have hN9 := (ig_moves hG).2
      refine lv_iload_n hx hb dX5_sumOfMoves_4 rfl (lv_at hl 0 rfl) ?_
      refine lv_aload_n hx hb dX5_sumOfMoves_5 rfl (lv_at hl 2 rfl) ?_
      refine sy_getRX5 hx hb hts hown hE hP 68 rfl 4 (by decide) (hts _ (u_in uk_1_140)) (v := .int (g 68 4)) rfl dX5_sumOfMoves_6 ?_
      refine lv_icmp_ge (tgt := 27) hx hb dX5_sumOfMoves_9 (by decide) (fun c_1 => ?_) (fun c_1 => ?_)
      · skip
        obtain rfl := loop_exit (N := (g 68 4).toNatClampNeg) (ig_moves hG).1 (by omega) hi c_1
        refine lv_iload_n hx hb dX5_sumOfMoves_27 rfl (lv_at hl 1 rfl) ?_
        exact (sy_ireti hx hb hr hlocks hE hP hS dX5_sumOfMoves_28 ⟨Nat.le_of_ble_eq_true rfl, Nat.le_of_ble_eq_true rfl⟩ (by unfold fX5_sumOfMoves; rfl))
      · skip
        have hk0 : k0 < (g 68 4).toNatClampNeg := loop_in (N := (g 68 4).toNatClampNeg) (ig_moves hG).1 (by omega) hi c_1
        refine lv_iload_n hx hb dX5_sumOfMoves_12 rfl (lv_at hl 1 rfl) ?_
        refine lv_aload_n hx hb dX5_sumOfMoves_13 rfl (lv_at hl 2 rfl) ?_
        refine sy_getRX5 hx hb hts hown hE hP 68 rfl 3 (by decide) (hts _ (u_in uk_1_139)) (v := .ref (ad 78)) rfl dX5_sumOfMoves_14 ?_
        refine lv_iload_n hx hb dX5_sumOfMoves_17 rfl (lv_at hl 0 rfl) ?_
        refine sy_ialdN hx hb hE hP 78 rfl (show vp_in (nI k0) 600 from vp_in_nI (by omega) (by decide)) k0 (nI_clamp (by omega)) (v := g 78 k0) rfl dX5_sumOfMoves_18 ?_
        refine lv_iadd hx hb dX5_sumOfMoves_19 ?_
        refine lv_istore_n (lv' := [(1, .int ((lX5_sum g q k0) + (g 78 k0))), (2, .int (nI k0)), (0, .ref (ad 68))]) hx hb dX5_sumOfMoves_20 rfl hl (by decide) rfl (fun ls hl => ?_)
        refine lv_iinc (v := ((nI k0) + 1)) (lv' := [(2, .int ((nI k0) + 1)), (1, .int ((lX5_sum g q k0) + (g 78 k0))), (0, .ref (ad 68))]) hx hb dX5_sumOfMoves_21 hl (k := 1) rfl rfl (by decide) rfl (fun ls hl => ?_)
        refine lv_goto (tgt := 4) hx hb dX5_sumOfMoves_24 (by decide) ?_
        have hF : lX5_sum g q (k0 + 1) = ((lX5_sum g q k0) + (g 78 k0)) := by rw [lX5_sum] <;> rfl
        exact ih (k0 + 1) (by omega) (by omega) H locs ls hP hS (by rw [nI_succ, hF]; exact lv_sub hl [0, 1, 2] rfl)
  exact hL_4 ((g 68 4).toNatClampNeg + 1) 0 (Nat.zero_le _) (by omega) _ _ _ hP hS (lv_sub hl [0, 1, 2] rfl)
def fX6_placeOf (g : sG) (q : sQ) (x0 x1 : Int32) : Int32 := ((4 * x0) + x1)
set_option maxHeartbeats 4000000 in
set_option maxRecDepth 100000 in
theorem mX6_placeOf (l : Launch) (hfl : l.stackTraces = false) (Z : sZ) (nT nK cT cK : Nat) (ad : Nat → Nat) (g : sG) (q : sQ) (x0 x1 : Int32) (hT : nT ≤ 100) : sMi l Z yX6_placeOf (uW (.code yX6_placeOf cX6_placeOf 2 (some .int))) { frames := 0, cells := 0, slots := 0, locals := 0 } [.int x0, .int x1] nT nK cT cK ad g q (fun r g1 q1 => (r, g1, q1) = (fX6_placeOf g q x0 x1, g, q)) := by
  refine Met.ofW (cc := cX6_placeOf) (maxL := 2) (ret := (some .int)) (by decide) rfl ?_
  intro p e s m args below meth c s₁ B hml hv
  obtain ⟨rfl, hE, hP⟩ := hv
  have hx := B.exec
  have hb := B.bytes
  have hr := B.returns
  have hts := atoms_spec (ws := uW (.code yX6_placeOf cX6_placeOf 2 (some .int))) B.pre
  have hown : s.vm.findClass RX6 = some m.cls := findClass_of_methodNamed B.named
  have hlocks := B.notSynchronized
  have hS : va_S (sy_A Z) s.heap s.heap [] := va_S.rf
  have hl := lv_entry ([.int x0, .int x1]) (n := 2) (Nat.le_of_ble_eq_true rfl)
  rw [lg_entry_eq]
  generalize (lg_sl ([.int x0, .int x1]) ++ List.replicate (2 - (lg_sl ([.int x0, .int x1])).length) Slot.unset).toArray = ls at hl ⊢
  have hl : lv_has ls 2 [(0, .int x0), (1, .int x1)] := hl
  refine lv_iconst (v := 4) hx hb dX6_placeOf_0 (by decide) ?_
  refine lv_iload_n hx hb dX6_placeOf_1 rfl (lv_at hl 0 rfl) ?_
  refine lv_imul hx hb dX6_placeOf_2 ?_
  refine lv_iload_n hx hb dX6_placeOf_3 rfl (lv_at hl 1 rfl) ?_
  refine lv_iadd hx hb dX6_placeOf_4 ?_
  exact (sy_ireti hx hb hr hlocks hE hP hS dX6_placeOf_5 ⟨Nat.le_of_ble_eq_true rfl, Nat.le_of_ble_eq_true rfl⟩ (by unfold fX6_placeOf; rfl))
def fX6_branchOf (g : sG) (q : sQ) (x0 : Int32) : Int32 := (x0 / 4)
set_option maxHeartbeats 4000000 in
set_option maxRecDepth 100000 in
theorem mX6_branchOf (l : Launch) (hfl : l.stackTraces = false) (Z : sZ) (nT nK cT cK : Nat) (ad : Nat → Nat) (g : sG) (q : sQ) (x0 : Int32) (hT : nT ≤ 100) : sMi l Z yX6_branchOf (uW (.code yX6_branchOf cX6_branchOf 1 (some .int))) { frames := 0, cells := 0, slots := 0, locals := 0 } [.int x0] nT nK cT cK ad g q (fun r g1 q1 => (r, g1, q1) = (fX6_branchOf g q x0, g, q)) := by
  refine Met.ofW (cc := cX6_branchOf) (maxL := 1) (ret := (some .int)) (by decide) rfl ?_
  intro p e s m args below meth c s₁ B hml hv
  obtain ⟨rfl, hE, hP⟩ := hv
  have hx := B.exec
  have hb := B.bytes
  have hr := B.returns
  have hts := atoms_spec (ws := uW (.code yX6_branchOf cX6_branchOf 1 (some .int))) B.pre
  have hown : s.vm.findClass RX6 = some m.cls := findClass_of_methodNamed B.named
  have hlocks := B.notSynchronized
  have hS : va_S (sy_A Z) s.heap s.heap [] := va_S.rf
  have hl := lv_entry ([.int x0]) (n := 1) (Nat.le_of_ble_eq_true rfl)
  rw [lg_entry_eq]
  generalize (lg_sl ([.int x0]) ++ List.replicate (1 - (lg_sl ([.int x0])).length) Slot.unset).toArray = ls at hl ⊢
  have hl : lv_has ls 1 [(0, .int x0)] := hl
  refine lv_iload_n hx hb dX6_branchOf_0 rfl (lv_at hl 0 rfl) ?_
  refine lv_iconst (v := 4) hx hb dX6_branchOf_1 (by decide) ?_
  refine lv_idiv hx hb dX6_branchOf_2 (by decide) ?_
  exact (sy_ireti hx hb hr hlocks hE hP hS dX6_branchOf_3 ⟨Nat.le_of_ble_eq_true rfl, Nat.le_of_ble_eq_true rfl⟩ (by unfold fX6_branchOf; rfl))
