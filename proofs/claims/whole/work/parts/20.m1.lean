/-! THE REFERENCE. IM: what its rows always are -/
def IM (nT nK : Nat) (g : sG) : Prop := g 0 2 = nI nT ∧ nT ≤ 40 ∧ g 0 28 = nI nK ∧ nK ≤ 40 ∧ (∃ t, t ≤ 30 ∧ g 0 20 = nI t) ∧ (∃ a, a ≤ 10 ∧ g 0 24 = nI a) ∧ (∀ j, j < 40 → vp_in (g 4 j) 4) ∧ (∀ j, j < 10 → vp_in (g 18 j) 3) ∧ (∀ j, j < 40 → vp_in (g 30 j) 40) ∧ (∀ j, j < 40 → vp_in (g 31 j) 4) ∧ (∃ d, d ≤ 5000 ∧ g 0 1 = nI d ∧ ∀ j, j < 40 → ∃ b, b ≤ d ∧ g 37 j = nI b)
theorem im_0 {nT nK k : Nat} {g : sG} {v : Int32} (hk : k ≠ 2 ∧ k ≠ 28 ∧ k ≠ 20 ∧ k ≠ 24 ∧ k ≠ 1) (h : IM nT nK g) : IM nT nK (sy_up g 0 k v) := by
  obtain ⟨h1, h2, h3, h4, h5⟩ := hk
  unfold IM
  rw [sy_up_k g 0 v (Ne.symm h1), sy_up_k g 0 v (Ne.symm h2), sy_up_k g 0 v (Ne.symm h3), sy_up_k g 0 v (Ne.symm h4), sy_up_k g 0 v (Ne.symm h5), sy_up_o g k v (o := 0) (o' := 37) (by decide), sy_up_o g k v (o := 0) (o' := 4) (by decide), sy_up_o g k v (o := 0) (o' := 18) (by decide), sy_up_o g k v (o := 0) (o' := 30) (by decide), sy_up_o g k v (o := 0) (o' := 31) (by decide)]
  exact h
theorem im_o {nT nK o k : Nat} {g : sG} {v : Int32} (ho : o ≠ 0 ∧ o ≠ 4 ∧ o ≠ 18 ∧ o ≠ 30 ∧ o ≠ 31 ∧ o ≠ 37) (h : IM nT nK g) : IM nT nK (sy_up g o k v) := by
  obtain ⟨h0, h1, h2, h3, h4, h5⟩ := ho
  unfold IM
  rw [sy_up_o g k v (o' := 0) (Ne.symm h0), sy_up_o g k v (o' := 4) (Ne.symm h1), sy_up_o g k v (o' := 18) (Ne.symm h2), sy_up_o g k v (o' := 30) (Ne.symm h3), sy_up_o g k v (o' := 31) (Ne.symm h4), sy_up_o g k v (o' := 37) (Ne.symm h5)]
  exact h
theorem vp_in_below {x a : Int32} {n N : Nat} (ha : a = nI n) (hn : n ≤ N) (hN : N < 2 ^ 30) (h : 0 ≤ x ∧ x ≤ a - 1) : vp_in x N := by
  have h1 := Int32.le_iff_toInt_le.mp h.1
  have h2 := Int32.le_iff_toInt_le.mp h.2
  have h3 : (a - 1).toInt = (n : Int) - 1 := by
    rw [ha, show (1 : Int32) = nI 1 from rfl, pk_sub_toInt (by omega) (by decide)]
    omega
  rw [h3] at h2
  refine vp_in_iff.mpr ⟨h1, ?_⟩
  omega
theorem im_thing {nT nK : Nat} {g : sG} {x : Int32} (hI : IM nT nK g) (h : 0 ≤ x ∧ x ≤ g 0 2 - 1) : vp_in x 40 := vp_in_below hI.1 hI.2.1 (by decide) h
theorem im_ticket {nT nK : Nat} {g : sG} {x : Int32} (hI : IM nT nK g) (h : 0 ≤ x ∧ x ≤ g 0 28 - 1) : vp_in x 40 := vp_in_below hI.2.2.1 hI.2.2.2.1 (by decide) h
theorem vp_in_full {a : Int32} {n N : Nat} (ha : a = nI n) (hn : n ≤ N) (hN : N < 2 ^ 31) (h : ¬ a = nI N) : vp_in a N := by
  rw [ha] at h ⊢
  have : n ≠ N := fun e => h (by rw [e])
  exact vp_in_nI (by omega) hN
theorem im_kind {nT nK : Nat} {g : sG} {x : Int32} (hI : IM nT nK g) (h : vp_in x 40) : vp_in (g 4 x.toNatClampNeg) 4 := hI.2.2.2.2.2.2.1 _ (vp_in_lt h)
theorem im_class {nT nK : Nat} {g : sG} {x : Int32} (hI : IM nT nK g) (h : vp_in x 10) : vp_in (g 18 x.toNatClampNeg) 3 := hI.2.2.2.2.2.2.2.1 _ (vp_in_lt h)
theorem im_thingOf {nT nK : Nat} {g : sG} {x : Int32} (hI : IM nT nK g) (h : vp_in x 40) : vp_in (g 30 x.toNatClampNeg) 40 := hI.2.2.2.2.2.2.2.2.1 _ (vp_in_lt h)
theorem im_expertOf {nT nK : Nat} {g : sG} {x : Int32} (hI : IM nT nK g) (h : vp_in x 40) : vp_in (g 31 x.toNatClampNeg) 4 := hI.2.2.2.2.2.2.2.2.2.1 _ (vp_in_lt h)

def fX7_is (g : sG) (q : sQ) (x0 x1 x2 : Int32) : Int32 := (if x0 < x1 then 0 else (if x2 < x0 then 0 else 1))
set_option maxHeartbeats 4000000 in
set_option maxRecDepth 100000 in
theorem mX7_is (l : Launch) (hfl : l.stackTraces = false) (Z : sZ) (nT nK cT cK : Nat) (ad : Nat → Nat) (g : sG) (q : sQ) (x0 x1 x2 : Int32)  : sMi l Z yX7_is (uW (.code yX7_is cX7_is 3 (some .boolean))) { frames := 0, cells := 0, slots := 0, locals := 0 } [.int x0, .int x1, .int x2] nT nK cT cK ad g q (fun r g1 q1 => (r, g1, q1) = (fX7_is g q x0 x1 x2, g, q)) := by
  refine Met.ofW (cc := cX7_is) (maxL := 3) (ret := (some .boolean)) (by decide) rfl ?_
  intro p e s m args below meth c s₁ B hml hv
  obtain ⟨rfl, hE, hP⟩ := hv
  have hx := B.exec
  have hb := B.bytes
  have hr := B.returns
  have hts := atoms_spec (ws := uW (.code yX7_is cX7_is 3 (some .boolean))) B.pre
  have hown : s.vm.findClass RX7 = some m.cls := findClass_of_methodNamed B.named
  have hlocks := B.notSynchronized
  have hS : va_S (sy_A Z) s.heap s.heap [] := va_S.rf
  have hl := lv_entry ([.int x0, .int x1, .int x2]) (n := 3) (Nat.le_of_ble_eq_true rfl)
  rw [lg_entry_eq]
  generalize (lg_sl ([.int x0, .int x1, .int x2]) ++ List.replicate (3 - (lg_sl ([.int x0, .int x1, .int x2])).length) Slot.unset).toArray = ls at hl ⊢
  have hl : lv_has ls 3 [(0, .int x0), (1, .int x1), (2, .int x2)] := hl
  refine lv_iload_n hx hb dX7_is_0 rfl (lv_at hl 0 rfl) ?_
  refine lv_iload_n hx hb dX7_is_1 rfl (lv_at hl 1 rfl) ?_
  refine lv_icmp_lt (tgt := 14) hx hb dX7_is_2 (by decide) (fun c_1 => ?_) (fun c_1 => ?_)
  · skip
    refine lv_iconst (v := 0) hx hb dX7_is_14 (by decide) ?_
    exact (sy_iretz hx hb hr hlocks hE hP hS dX7_is_15 ⟨Nat.le_of_ble_eq_true rfl, Nat.le_of_ble_eq_true rfl⟩ (by decide) (by unfold fX7_is; rw [if_pos c_1] <;> rfl))
  · skip
    refine lv_iload_n hx hb dX7_is_5 rfl (lv_at hl 0 rfl) ?_
    refine lv_iload_n hx hb dX7_is_6 rfl (lv_at hl 2 rfl) ?_
    refine lv_icmp_gt (tgt := 14) hx hb dX7_is_7 (by decide) (fun c_2 => ?_) (fun c_2 => ?_)
    · skip
      refine lv_iconst (v := 0) hx hb dX7_is_14 (by decide) ?_
      exact (sy_iretz hx hb hr hlocks hE hP hS dX7_is_15 ⟨Nat.le_of_ble_eq_true rfl, Nat.le_of_ble_eq_true rfl⟩ (by decide) (by unfold fX7_is; rw [if_neg c_1, if_pos c_2] <;> rfl))
    · skip
      refine lv_iconst (v := 1) hx hb dX7_is_10 (by decide) ?_
      refine lv_goto (tgt := 15) hx hb dX7_is_11 (by decide) ?_
      exact (sy_iretz hx hb hr hlocks hE hP hS dX7_is_15 ⟨Nat.le_of_ble_eq_true rfl, Nat.le_of_ble_eq_true rfl⟩ (by decide) (by unfold fX7_is; rw [if_neg c_1, if_neg c_2] <;> rfl))
theorem fX7_is_e (g : sG) (q : sQ) (x0 x1 x2 : Int32) : fX7_is g q x0 x1 x2 = iB (x1 ≤ x0 ∧ x0 ≤ x2) := by
  unfold fX7_is iB
  by_cases h1 : x0 < x1
  · rw [if_pos h1, if_neg (fun h => absurd h1 (Int32.not_lt.mpr h.1))]
  · rw [if_neg h1]
    by_cases h2 : x2 < x0
    · rw [if_pos h2, if_neg (fun h => absurd h2 (Int32.not_lt.mpr h.2))]
    · rw [if_neg h2, if_pos ⟨Int32.not_lt.mp h1, Int32.not_lt.mp h2⟩]
theorem nX7_is (l : Launch) (hfl : l.stackTraces = false) (Z : sZ) (nT nK cT cK : Nat) (ad : Nat → Nat) (g : sG) (q : sQ) (x0 x1 x2 : Int32)  : sMi l Z yX7_is (uW (.code yX7_is cX7_is 3 (some .boolean))) { frames := 0, cells := 0, slots := 0, locals := 0 } [.int x0, .int x1, .int x2] nT nK cT cK ad g q (fun r g1 q1 => (r, g1, q1) = (iB (x1 ≤ x0 ∧ x0 ≤ x2), g, q)) := by
  have h := mX7_is l hfl Z nT nK cT cK ad g q x0 x1 x2
  rw [fX7_is_e] at h
  exact h
def fX7_isThing (g : sG) (q : sQ) (x0 : Int32) : Int32 := (iB (0 ≤ x0 ∧ x0 ≤ ((g 0 2) - 1)))
set_option maxHeartbeats 4000000 in
set_option maxRecDepth 100000 in
theorem mX7_isThing (l : Launch) (hfl : l.stackTraces = false) (Z : sZ) (nT nK cT cK : Nat) (ad : Nat → Nat) (g : sG) (q : sQ) (x0 : Int32)  : sMi l Z yX7_isThing (uW (.code yX7_isThing cX7_isThing 2 (some .boolean))) { frames := 1, cells := 0, slots := 0, locals := 22 } [.ref (ad 0), .int x0] nT nK cT cK ad g q (fun r g1 q1 => (r, g1, q1) = (fX7_isThing g q x0, g, q)) := by
  refine Met.ofW (cc := cX7_isThing) (maxL := 2) (ret := (some .boolean)) (by decide) rfl ?_
  intro p e s m args below meth c s₁ B hml hv
  obtain ⟨rfl, hE, hP⟩ := hv
  have hx := B.exec
  have hb := B.bytes
  have hr := B.returns
  have hts := atoms_spec (ws := uW (.code yX7_isThing cX7_isThing 2 (some .boolean))) B.pre
  have hown : s.vm.findClass RX7 = some m.cls := findClass_of_methodNamed B.named
  have hlocks := B.notSynchronized
  have hS : va_S (sy_A Z) s.heap s.heap [] := va_S.rf
  have hl := lv_entry ([.ref (ad 0), .int x0]) (n := 2) (Nat.le_of_ble_eq_true rfl)
  rw [lg_entry_eq]
  generalize (lg_sl ([.ref (ad 0), .int x0]) ++ List.replicate (2 - (lg_sl ([.ref (ad 0), .int x0])).length) Slot.unset).toArray = ls at hl ⊢
  have hl : lv_has ls 2 [(0, .ref (ad 0)), (1, .int x0)] := hl
  refine lv_iload_n hx hb dX7_isThing_0 rfl (lv_at hl 1 rfl) ?_
  refine lv_iconst (v := 0) hx hb dX7_isThing_1 (by decide) ?_
  refine lv_aload_n hx hb dX7_isThing_2 rfl (lv_at hl 0 rfl) ?_
  refine sy_getRX7 hx hb hts hown hE hP 0 rfl 2 (by decide) (hts _ (u_in uk_4_192)) (v := .int (g 0 2)) rfl dX7_isThing_3 ?_
  refine lv_iconst (v := 1) hx hb dX7_isThing_6 (by decide) ?_
  refine lv_isub hx hb dX7_isThing_7 ?_
  refine sy_ki (sy_rS (As := [.int x0, .int 0, .int ((g 0 2) - 1)]) (rest := []) ⟨hx, hb, hml, hown, hts⟩ hE hP hS (nX7_is l hfl Z nT nK cT cK ad g q x0 0 ((g 0 2) - 1)) (va_cwS 3 hts (gu_S uk_5_101 uk_5_102 uk_1_9 uk_5_103) rfl rfl rfl (by decide +kernel) ⟨Nat.le_of_ble_eq_true rfl, Nat.le_of_ble_eq_true rfl⟩) rfl hl.1 rfl (Nat.le_of_ble_eq_true rfl) dX7_isThing_8 ⟨Nat.le_of_ble_eq_true rfl, Nat.le_of_ble_eq_true rfl⟩) hS (fun r_e_1 g_e_1 q_e_1 H locs e_1 hP hS => ?_)
  cases e_1
  exact (sy_iretz hx hb hr hlocks hE hP hS dX7_isThing_11 ⟨Nat.le_of_ble_eq_true rfl, Nat.le_of_ble_eq_true rfl⟩ iB_a (by unfold fX7_isThing; rfl))
def fX7_isTicket (g : sG) (q : sQ) (x0 : Int32) : Int32 := (iB (0 ≤ x0 ∧ x0 ≤ ((g 0 28) - 1)))
set_option maxHeartbeats 4000000 in
set_option maxRecDepth 100000 in
theorem mX7_isTicket (l : Launch) (hfl : l.stackTraces = false) (Z : sZ) (nT nK cT cK : Nat) (ad : Nat → Nat) (g : sG) (q : sQ) (x0 : Int32)  : sMi l Z yX7_isTicket (uW (.code yX7_isTicket cX7_isTicket 2 (some .boolean))) { frames := 1, cells := 0, slots := 0, locals := 22 } [.ref (ad 0), .int x0] nT nK cT cK ad g q (fun r g1 q1 => (r, g1, q1) = (fX7_isTicket g q x0, g, q)) := by
  refine Met.ofW (cc := cX7_isTicket) (maxL := 2) (ret := (some .boolean)) (by decide) rfl ?_
  intro p e s m args below meth c s₁ B hml hv
  obtain ⟨rfl, hE, hP⟩ := hv
  have hx := B.exec
  have hb := B.bytes
  have hr := B.returns
  have hts := atoms_spec (ws := uW (.code yX7_isTicket cX7_isTicket 2 (some .boolean))) B.pre
  have hown : s.vm.findClass RX7 = some m.cls := findClass_of_methodNamed B.named
  have hlocks := B.notSynchronized
  have hS : va_S (sy_A Z) s.heap s.heap [] := va_S.rf
  have hl := lv_entry ([.ref (ad 0), .int x0]) (n := 2) (Nat.le_of_ble_eq_true rfl)
  rw [lg_entry_eq]
  generalize (lg_sl ([.ref (ad 0), .int x0]) ++ List.replicate (2 - (lg_sl ([.ref (ad 0), .int x0])).length) Slot.unset).toArray = ls at hl ⊢
  have hl : lv_has ls 2 [(0, .ref (ad 0)), (1, .int x0)] := hl
  refine lv_iload_n hx hb dX7_isTicket_0 rfl (lv_at hl 1 rfl) ?_
  refine lv_iconst (v := 0) hx hb dX7_isTicket_1 (by decide) ?_
  refine lv_aload_n hx hb dX7_isTicket_2 rfl (lv_at hl 0 rfl) ?_
  refine sy_getRX7 hx hb hts hown hE hP 0 rfl 28 (by decide) (hts _ (u_in uk_4_218)) (v := .int (g 0 28)) rfl dX7_isTicket_3 ?_
  refine lv_iconst (v := 1) hx hb dX7_isTicket_6 (by decide) ?_
  refine lv_isub hx hb dX7_isTicket_7 ?_
  refine sy_ki (sy_rS (As := [.int x0, .int 0, .int ((g 0 28) - 1)]) (rest := []) ⟨hx, hb, hml, hown, hts⟩ hE hP hS (nX7_is l hfl Z nT nK cT cK ad g q x0 0 ((g 0 28) - 1)) (va_cwS 3 hts (gu_S uk_5_101 uk_5_102 uk_1_9 uk_5_103) rfl rfl rfl (by decide +kernel) ⟨Nat.le_of_ble_eq_true rfl, Nat.le_of_ble_eq_true rfl⟩) rfl hl.1 rfl (Nat.le_of_ble_eq_true rfl) dX7_isTicket_8 ⟨Nat.le_of_ble_eq_true rfl, Nat.le_of_ble_eq_true rfl⟩) hS (fun r_e_1 g_e_1 q_e_1 H locs e_1 hP hS => ?_)
  cases e_1
  exact (sy_iretz hx hb hr hlocks hE hP hS dX7_isTicket_11 ⟨Nat.le_of_ble_eq_true rfl, Nat.le_of_ble_eq_true rfl⟩ iB_a (by unfold fX7_isTicket; rfl))
def fX7_isPerson (g : sG) (q : sQ) (x0 : Int32) : Int32 := (iB (0 ≤ x0 ∧ x0 ≤ 9))
set_option maxHeartbeats 4000000 in
set_option maxRecDepth 100000 in
theorem mX7_isPerson (l : Launch) (hfl : l.stackTraces = false) (Z : sZ) (nT nK cT cK : Nat) (ad : Nat → Nat) (g : sG) (q : sQ) (x0 : Int32)  : sMi l Z yX7_isPerson (uW (.code yX7_isPerson cX7_isPerson 1 (some .boolean))) { frames := 1, cells := 0, slots := 0, locals := 22 } [.int x0] nT nK cT cK ad g q (fun r g1 q1 => (r, g1, q1) = (fX7_isPerson g q x0, g, q)) := by
  refine Met.ofW (cc := cX7_isPerson) (maxL := 1) (ret := (some .boolean)) (by decide) rfl ?_
  intro p e s m args below meth c s₁ B hml hv
  obtain ⟨rfl, hE, hP⟩ := hv
  have hx := B.exec
  have hb := B.bytes
  have hr := B.returns
  have hts := atoms_spec (ws := uW (.code yX7_isPerson cX7_isPerson 1 (some .boolean))) B.pre
  have hown : s.vm.findClass RX7 = some m.cls := findClass_of_methodNamed B.named
  have hlocks := B.notSynchronized
  have hS : va_S (sy_A Z) s.heap s.heap [] := va_S.rf
  have hl := lv_entry ([.int x0]) (n := 1) (Nat.le_of_ble_eq_true rfl)
  rw [lg_entry_eq]
  generalize (lg_sl ([.int x0]) ++ List.replicate (1 - (lg_sl ([.int x0])).length) Slot.unset).toArray = ls at hl ⊢
  have hl : lv_has ls 1 [(0, .int x0)] := hl
  refine lv_iload_n hx hb dX7_isPerson_0 rfl (lv_at hl 0 rfl) ?_
  refine lv_iconst (v := 0) hx hb dX7_isPerson_1 (by decide) ?_
  refine lv_bipush (v := 9) hx hb dX7_isPerson_2 (by decide) ?_
  refine sy_ki (sy_rS (As := [.int x0, .int 0, .int 9]) (rest := []) ⟨hx, hb, hml, hown, hts⟩ hE hP hS (nX7_is l hfl Z nT nK cT cK ad g q x0 0 9) (va_cwS 3 hts (gu_S uk_5_101 uk_5_102 uk_1_9 uk_5_103) rfl rfl rfl (by decide +kernel) ⟨Nat.le_of_ble_eq_true rfl, Nat.le_of_ble_eq_true rfl⟩) rfl hl.1 rfl (Nat.le_of_ble_eq_true rfl) dX7_isPerson_4 ⟨Nat.le_of_ble_eq_true rfl, Nat.le_of_ble_eq_true rfl⟩) hS (fun r_e_1 g_e_1 q_e_1 H locs e_1 hP hS => ?_)
  cases e_1
  exact (sy_iretz hx hb hr hlocks hE hP hS dX7_isPerson_7 ⟨Nat.le_of_ble_eq_true rfl, Nat.le_of_ble_eq_true rfl⟩ iB_a (by unfold fX7_isPerson; rfl))
def fX7_refused (g : sG) (q : sQ) (x0 : Int32) : Int32 × sG := (if x0 = 0 then (0, (sy_up g 0 0 x0)) else (1, (sy_up g 0 0 x0)))
set_option maxHeartbeats 4000000 in
set_option maxRecDepth 100000 in
theorem mX7_refused (l : Launch) (hfl : l.stackTraces = false) (Z : sZ) (nT nK cT cK : Nat) (ad : Nat → Nat) (g : sG) (q : sQ) (x0 : Int32)  : sMi l Z yX7_refused (uW (.code yX7_refused cX7_refused 2 (some .boolean))) { frames := 0, cells := 0, slots := 0, locals := 0 } [.ref (ad 0), .int x0] nT nK cT cK ad g q (fun r g1 q1 => (r, g1, q1) = ((fX7_refused g q x0).1, (fX7_refused g q x0).2, q)) := by
  refine Met.ofW (cc := cX7_refused) (maxL := 2) (ret := (some .boolean)) (by decide) rfl ?_
  intro p e s m args below meth c s₁ B hml hv
  obtain ⟨rfl, hE, hP⟩ := hv
  have hx := B.exec
  have hb := B.bytes
  have hr := B.returns
  have hts := atoms_spec (ws := uW (.code yX7_refused cX7_refused 2 (some .boolean))) B.pre
  have hown : s.vm.findClass RX7 = some m.cls := findClass_of_methodNamed B.named
  have hlocks := B.notSynchronized
  have hS : va_S (sy_A Z) s.heap s.heap [] := va_S.rf
  have hl := lv_entry ([.ref (ad 0), .int x0]) (n := 2) (Nat.le_of_ble_eq_true rfl)
  rw [lg_entry_eq]
  generalize (lg_sl ([.ref (ad 0), .int x0]) ++ List.replicate (2 - (lg_sl ([.ref (ad 0), .int x0])).length) Slot.unset).toArray = ls at hl ⊢
  have hl : lv_has ls 2 [(0, .ref (ad 0)), (1, .int x0)] := hl
  refine lv_aload_n hx hb dX7_refused_0 rfl (lv_at hl 0 rfl) ?_
  refine lv_iload_n hx hb dX7_refused_1 rfl (lv_at hl 1 rfl) ?_
  refine sy_putRX7 hx hb hts hown hE hP hS 0 rfl 0 (by decide) (hts _ (u_in uk_4_190)) rfl (ty := .int) (by decide +kernel) rfl rfl (sy_up g 0 0 x0) q (by rw [sy_up_s]; exact se_RX7_0 _ _ _ _ _ _ _) (fun _ h9 => sy_up_o _ _ _ h9) (fun _ _ => rfl) dX7_refused_2 (fun H locs hP hS => ?_)
  refine lv_iload_n hx hb dX7_refused_5 rfl (lv_at hl 1 rfl) ?_
  refine lv_if_eq (tgt := 13) hx hb dX7_refused_6 (by decide) (fun c_1 => ?_) (fun c_1 => ?_)
  · skip
    refine lv_iconst (v := 0) hx hb dX7_refused_13 (by decide) ?_
    exact (sy_iretz hx hb hr hlocks hE hP hS dX7_refused_14 ⟨Nat.le_of_ble_eq_true rfl, Nat.le_of_ble_eq_true rfl⟩ (by decide) (by unfold fX7_refused; rw [if_pos c_1] <;> rfl))
  · skip
    refine lv_iconst (v := 1) hx hb dX7_refused_9 (by decide) ?_
    refine lv_goto (tgt := 14) hx hb dX7_refused_10 (by decide) ?_
    exact (sy_iretz hx hb hr hlocks hE hP hS dX7_refused_14 ⟨Nat.le_of_ble_eq_true rfl, Nat.le_of_ble_eq_true rfl⟩ (by decide) (by unfold fX7_refused; rw [if_neg c_1] <;> rfl))
theorem fX7_refused_e (g : sG) (q : sQ) (x0 : Int32) : fX7_refused g q x0 = (iB (¬ x0 = 0), sy_up g 0 0 x0) := by
  unfold fX7_refused iB
  by_cases h : x0 = 0 <;> simp [h]
theorem nX7_refused (l : Launch) (hfl : l.stackTraces = false) (Z : sZ) (nT nK cT cK : Nat) (ad : Nat → Nat) (g : sG) (q : sQ) (x0 : Int32)  : sMi l Z yX7_refused (uW (.code yX7_refused cX7_refused 2 (some .boolean))) { frames := 0, cells := 0, slots := 0, locals := 0 } [.ref (ad 0), .int x0] nT nK cT cK ad g q (fun r g1 q1 => (r, g1, q1) = (iB (¬ x0 = 0), sy_up g 0 0 x0, q)) := by
  have h := mX7_refused l hfl Z nT nK cT cK ad g q x0
  rw [fX7_refused_e] at h
  exact h
def fX7_thrown (g : sG) (q : sQ)  : Int32 := (g 0 0)
set_option maxHeartbeats 4000000 in
set_option maxRecDepth 100000 in
theorem mX7_thrown (l : Launch) (hfl : l.stackTraces = false) (Z : sZ) (nT nK cT cK : Nat) (ad : Nat → Nat) (g : sG) (q : sQ)   : sMi l Z yX7_thrown (uW (.code yX7_thrown cX7_thrown 1 (some .int))) { frames := 0, cells := 0, slots := 0, locals := 0 } [.ref (ad 0)] nT nK cT cK ad g q (fun r g1 q1 => (r, g1, q1) = (fX7_thrown g q, g, q)) := by
  refine Met.ofW (cc := cX7_thrown) (maxL := 1) (ret := (some .int)) (by decide) rfl ?_
  intro p e s m args below meth c s₁ B hml hv
  obtain ⟨rfl, hE, hP⟩ := hv
  have hx := B.exec
  have hb := B.bytes
  have hr := B.returns
  have hts := atoms_spec (ws := uW (.code yX7_thrown cX7_thrown 1 (some .int))) B.pre
  have hown : s.vm.findClass RX7 = some m.cls := findClass_of_methodNamed B.named
  have hlocks := B.notSynchronized
  have hS : va_S (sy_A Z) s.heap s.heap [] := va_S.rf
  have hl := lv_entry ([.ref (ad 0)]) (n := 1) (Nat.le_of_ble_eq_true rfl)
  rw [lg_entry_eq]
  generalize (lg_sl ([.ref (ad 0)]) ++ List.replicate (1 - (lg_sl ([.ref (ad 0)])).length) Slot.unset).toArray = ls at hl ⊢
  have hl : lv_has ls 1 [(0, .ref (ad 0))] := hl
  refine lv_aload_n hx hb dX7_thrown_0 rfl (lv_at hl 0 rfl) ?_
  refine sy_getRX7 hx hb hts hown hE hP 0 rfl 0 (by decide) (hts _ (u_in uk_4_190)) (v := .int (g 0 0)) rfl dX7_thrown_1 ?_
  exact (sy_ireti hx hb hr hlocks hE hP hS dX7_thrown_4 ⟨Nat.le_of_ble_eq_true rfl, Nat.le_of_ble_eq_true rfl⟩ (by unfold fX7_thrown; rfl))
def fX7_day (g : sG) (q : sQ)  : Int32 × sG := ((g 0 1), (sy_up g 0 0 0))
set_option maxHeartbeats 4000000 in
set_option maxRecDepth 100000 in
theorem mX7_day (l : Launch) (hfl : l.stackTraces = false) (Z : sZ) (nT nK cT cK : Nat) (ad : Nat → Nat) (g : sG) (q : sQ)   : sMi l Z yX7_day (uW (.code yX7_day cX7_day 1 (some .int))) { frames := 0, cells := 0, slots := 0, locals := 0 } [.ref (ad 0)] nT nK cT cK ad g q (fun r g1 q1 => (r, g1, q1) = ((fX7_day g q).1, (fX7_day g q).2, q)) := by
  refine Met.ofW (cc := cX7_day) (maxL := 1) (ret := (some .int)) (by decide) rfl ?_
  intro p e s m args below meth c s₁ B hml hv
  obtain ⟨rfl, hE, hP⟩ := hv
  have hx := B.exec
  have hb := B.bytes
  have hr := B.returns
  have hts := atoms_spec (ws := uW (.code yX7_day cX7_day 1 (some .int))) B.pre
  have hown : s.vm.findClass RX7 = some m.cls := findClass_of_methodNamed B.named
  have hlocks := B.notSynchronized
  have hS : va_S (sy_A Z) s.heap s.heap [] := va_S.rf
  have hl := lv_entry ([.ref (ad 0)]) (n := 1) (Nat.le_of_ble_eq_true rfl)
  rw [lg_entry_eq]
  generalize (lg_sl ([.ref (ad 0)]) ++ List.replicate (1 - (lg_sl ([.ref (ad 0)])).length) Slot.unset).toArray = ls at hl ⊢
  have hl : lv_has ls 1 [(0, .ref (ad 0))] := hl
  refine lv_aload_n hx hb dX7_day_0 rfl (lv_at hl 0 rfl) ?_
  refine lv_iconst (v := 0) hx hb dX7_day_1 (by decide) ?_
  refine sy_putRX7 hx hb hts hown hE hP hS 0 rfl 0 (by decide) (hts _ (u_in uk_4_190)) rfl (ty := .int) (by decide +kernel) rfl rfl (sy_up g 0 0 0) q (by rw [sy_up_s]; exact se_RX7_0 _ _ _ _ _ _ _) (fun _ h9 => sy_up_o _ _ _ h9) (fun _ _ => rfl) dX7_day_2 (fun H locs hP hS => ?_)
  refine lv_aload_n hx hb dX7_day_5 rfl (lv_at hl 0 rfl) ?_
  refine sy_getRX7 hx hb hts hown hE hP 0 rfl 1 (by decide) (hts _ (u_in uk_4_191)) (v := .int (g 0 1)) rfl dX7_day_6 ?_
  exact (sy_ireti hx hb hr hlocks hE hP hS dX7_day_9 ⟨Nat.le_of_ble_eq_true rfl, Nat.le_of_ble_eq_true rfl⟩ (by unfold fX7_day; rfl))
def fX7_moneyAnew (g : sG) (q : sQ)  : Int32 × sG := ((g 0 44), (sy_up g 0 0 0))
set_option maxHeartbeats 4000000 in
set_option maxRecDepth 100000 in
theorem mX7_moneyAnew (l : Launch) (hfl : l.stackTraces = false) (Z : sZ) (nT nK cT cK : Nat) (ad : Nat → Nat) (g : sG) (q : sQ)   : sMi l Z yX7_moneyAnew (uW (.code yX7_moneyAnew cX7_moneyAnew 1 (some .int))) { frames := 0, cells := 0, slots := 0, locals := 0 } [.ref (ad 0)] nT nK cT cK ad g q (fun r g1 q1 => (r, g1, q1) = ((fX7_moneyAnew g q).1, (fX7_moneyAnew g q).2, q)) := by
  refine Met.ofW (cc := cX7_moneyAnew) (maxL := 1) (ret := (some .int)) (by decide) rfl ?_
  intro p e s m args below meth c s₁ B hml hv
  obtain ⟨rfl, hE, hP⟩ := hv
  have hx := B.exec
  have hb := B.bytes
  have hr := B.returns
  have hts := atoms_spec (ws := uW (.code yX7_moneyAnew cX7_moneyAnew 1 (some .int))) B.pre
  have hown : s.vm.findClass RX7 = some m.cls := findClass_of_methodNamed B.named
  have hlocks := B.notSynchronized
  have hS : va_S (sy_A Z) s.heap s.heap [] := va_S.rf
  have hl := lv_entry ([.ref (ad 0)]) (n := 1) (Nat.le_of_ble_eq_true rfl)
  rw [lg_entry_eq]
  generalize (lg_sl ([.ref (ad 0)]) ++ List.replicate (1 - (lg_sl ([.ref (ad 0)])).length) Slot.unset).toArray = ls at hl ⊢
  have hl : lv_has ls 1 [(0, .ref (ad 0))] := hl
  refine lv_aload_n hx hb dX7_moneyAnew_0 rfl (lv_at hl 0 rfl) ?_
  refine lv_iconst (v := 0) hx hb dX7_moneyAnew_1 (by decide) ?_
  refine sy_putRX7 hx hb hts hown hE hP hS 0 rfl 0 (by decide) (hts _ (u_in uk_4_190)) rfl (ty := .int) (by decide +kernel) rfl rfl (sy_up g 0 0 0) q (by rw [sy_up_s]; exact se_RX7_0 _ _ _ _ _ _ _) (fun _ h9 => sy_up_o _ _ _ h9) (fun _ _ => rfl) dX7_moneyAnew_2 (fun H locs hP hS => ?_)
  refine lv_aload_n hx hb dX7_moneyAnew_5 rfl (lv_at hl 0 rfl) ?_
  refine sy_getRX7 hx hb hts hown hE hP 0 rfl 44 (by decide) (hts _ (u_in uk_4_234)) (v := .int (g 0 44)) rfl dX7_moneyAnew_6 ?_
  exact (sy_ireti hx hb hr hlocks hE hP hS dX7_moneyAnew_9 ⟨Nat.le_of_ble_eq_true rfl, Nat.le_of_ble_eq_true rfl⟩ (by unfold fX7_moneyAnew; rfl))
def fX7_fashion (g : sG) (q : sQ) (x0 x1 : Int32) : Int32 × sG := (if 0 ≤ x0 ∧ x0 ≤ 3 then (if 0 ≤ x1 ∧ x1 ≤ 200 then ((g 14 x0.toNatClampNeg), (sy_up (sy_up g 0 0 0) 14 x0.toNatClampNeg x1)) else (0, (sy_up g 0 0 2))) else (0, (sy_up g 0 0 1)))
set_option maxHeartbeats 4000000 in
set_option maxRecDepth 100000 in
theorem mX7_fashion (l : Launch) (hfl : l.stackTraces = false) (Z : sZ) (nT nK cT cK : Nat) (ad : Nat → Nat) (g : sG) (q : sQ) (x0 x1 : Int32) {mT mK : Nat} (hI : IM mT mK g) : sMi l Z yX7_fashion (uW (.code yX7_fashion cX7_fashion 4 (some .int))) { frames := 1, cells := 0, slots := 0, locals := 22 } [.ref (ad 0), .int x0, .int x1] nT nK cT cK ad g q (fun r g1 q1 => (r, g1, q1) = ((fX7_fashion g q x0 x1).1, (fX7_fashion g q x0 x1).2, q)) := by
  refine Met.ofW (cc := cX7_fashion) (maxL := 4) (ret := (some .int)) (by decide) rfl ?_
  intro p e s m args below meth c s₁ B hml hv
  obtain ⟨rfl, hE, hP⟩ := hv
  have hx := B.exec
  have hb := B.bytes
  have hr := B.returns
  have hts := atoms_spec (ws := uW (.code yX7_fashion cX7_fashion 4 (some .int))) B.pre
  have hown : s.vm.findClass RX7 = some m.cls := findClass_of_methodNamed B.named
  have hlocks := B.notSynchronized
  have hS : va_S (sy_A Z) s.heap s.heap [] := va_S.rf
  have hl := lv_entry ([.ref (ad 0), .int x0, .int x1]) (n := 4) (Nat.le_of_ble_eq_true rfl)
  rw [lg_entry_eq]
  generalize (lg_sl ([.ref (ad 0), .int x0, .int x1]) ++ List.replicate (4 - (lg_sl ([.ref (ad 0), .int x0, .int x1])).length) Slot.unset).toArray = ls at hl ⊢
  have hl : lv_has ls 4 [(0, .ref (ad 0)), (1, .int x0), (2, .int x1)] := hl
  refine lv_aload_n hx hb dX7_fashion_0 rfl (lv_at hl 0 rfl) ?_
  refine lv_iload_n hx hb dX7_fashion_1 rfl (lv_at hl 1 rfl) ?_
  refine lv_iconst (v := 0) hx hb dX7_fashion_2 (by decide) ?_
  refine lv_iconst (v := 3) hx hb dX7_fashion_3 (by decide) ?_
  refine sy_ki (sy_rS (As := [.int x0, .int 0, .int 3]) (rest := [.ref (ad 0)]) ⟨hx, hb, hml, hown, hts⟩ hE hP hS (nX7_is l hfl Z nT nK cT cK ad g q x0 0 3) (va_cwS 3 hts (gu_S uk_5_101 uk_5_102 uk_1_9 uk_5_103) rfl rfl rfl (by decide +kernel) ⟨Nat.le_of_ble_eq_true rfl, Nat.le_of_ble_eq_true rfl⟩) rfl hl.1 rfl (Nat.le_of_ble_eq_true rfl) dX7_fashion_4 ⟨Nat.le_of_ble_eq_true rfl, Nat.le_of_ble_eq_true rfl⟩) hS (fun r_e_1 g_e_1 q_e_1 H locs e_1 hP hS => ?_)
  cases e_1
  refine lv_if_ne (tgt := 14) hx hb dX7_fashion_7 (by decide) (fun c_2 => ?_) (fun c_2 => ?_)
  · have c_2 := iB_n.mp c_2
    refine lv_iload_n hx hb dX7_fashion_14 rfl (lv_at hl 2 rfl) ?_
    refine lv_iconst (v := 0) hx hb dX7_fashion_15 (by decide) ?_
    refine lv_sipush (v := 200) hx hb dX7_fashion_16 (by decide) ?_
    refine sy_ki (sy_rS (As := [.int x1, .int 0, .int 200]) (rest := [.ref (ad 0)]) ⟨hx, hb, hml, hown, hts⟩ hE hP hS (nX7_is l hfl Z nT nK cT cK ad g q x1 0 200) (va_cwS 3 hts (gu_S uk_5_101 uk_5_102 uk_1_9 uk_5_103) rfl rfl rfl (by decide +kernel) ⟨Nat.le_of_ble_eq_true rfl, Nat.le_of_ble_eq_true rfl⟩) rfl hl.1 rfl (Nat.le_of_ble_eq_true rfl) dX7_fashion_19 ⟨Nat.le_of_ble_eq_true rfl, Nat.le_of_ble_eq_true rfl⟩) hS (fun r_e_3 g_e_3 q_e_3 H locs e_3 hP hS => ?_)
    cases e_3
    refine lv_if_ne (tgt := 29) hx hb dX7_fashion_22 (by decide) (fun c_4 => ?_) (fun c_4 => ?_)
    · have c_4 := iB_n.mp c_4
      refine lv_iconst (v := 0) hx hb dX7_fashion_29 (by decide) ?_
      refine sy_ki (sy_rV (o := 0) (As := [.int 0]) (rest := []) ⟨hx, hb, hml, hown, hts⟩ hE hP hS (nX7_refused l hfl Z nT nK cT cK ad g q 0) (cwV 1 hts (gu_V uk_5_104 uk_5_106 uk_0_17 uk_1_9 uk_5_107) rfl rfl rfl (by decide +kernel) ⟨Nat.le_of_ble_eq_true rfl, Nat.le_of_ble_eq_true rfl⟩) (sy_recv (kc := 8) hE hP rfl (by decide) rfl rfl rfl) rfl hl.1 rfl (Nat.le_of_ble_eq_true rfl) dX7_fashion_30 ⟨Nat.le_of_ble_eq_true rfl, Nat.le_of_ble_eq_true rfl⟩) hS (fun r_e_5 g_e_5 q_e_5 H locs e_5 hP hS => ?_)
      cases e_5
      refine sy_top (y := 0) (by rfl) ?_
      refine lv_if_eq (tgt := 38) hx hb dX7_fashion_33 (by decide) (fun _ => ?_) (fun c9 => absurd c9 (by decide))
      refine lv_aload_n hx hb dX7_fashion_38 rfl (lv_at hl 0 rfl) ?_
      refine sy_getRX7 hx hb hts hown hE hP 0 rfl 13 (by decide) (hts _ (u_in uk_4_203)) (v := .ref (ad 14)) rfl dX7_fashion_39 ?_
      refine lv_iload_n hx hb dX7_fashion_42 rfl (lv_at hl 1 rfl) ?_
      refine sy_ialdN hx hb hE hP 14 rfl (show vp_in x0 4 from (vp_in_c c_2 (by decide))) x0.toNatClampNeg rfl (v := g 14 x0.toNatClampNeg) rfl dX7_fashion_43 ?_
      refine lv_istore_n (lv' := [(3, .int (g 14 x0.toNatClampNeg)), (0, .ref (ad 0)), (1, .int x0), (2, .int x1)]) hx hb dX7_fashion_44 rfl hl (by decide) rfl (fun ls hl => ?_)
      refine lv_aload_n hx hb dX7_fashion_45 rfl (lv_at hl 1 rfl) ?_
      refine sy_getRX7 hx hb hts hown hE hP 0 rfl 13 (by decide) (hts _ (u_in uk_4_203)) (v := .ref (ad 14)) rfl dX7_fashion_46 ?_
      refine lv_iload_n hx hb dX7_fashion_49 rfl (lv_at hl 2 rfl) ?_
      refine lv_iload_n hx hb dX7_fashion_50 rfl (lv_at hl 3 rfl) ?_
      refine sy_iastN hx hb hE hP hS 14 rfl (show vp_in x0 4 from (vp_in_c c_2 (by decide))) x0.toNatClampNeg rfl dX7_fashion_51 (fun H locs hP hS => ?_)
      refine lv_iload_n hx hb dX7_fashion_52 rfl (lv_at hl 0 rfl) ?_
      exact (sy_ireti hx hb hr hlocks hE hP hS dX7_fashion_53 ⟨Nat.le_of_ble_eq_true rfl, Nat.le_of_ble_eq_true rfl⟩ (by unfold fX7_fashion; rw [if_pos c_2, if_pos c_4] <;> rfl))
    · have c_4 := iB_0.mp c_4
      refine lv_iconst (v := 2) hx hb dX7_fashion_25 (by decide) ?_
      refine lv_goto (tgt := 30) hx hb dX7_fashion_26 (by decide) ?_
      refine sy_ki (sy_rV (o := 0) (As := [.int 2]) (rest := []) ⟨hx, hb, hml, hown, hts⟩ hE hP hS (nX7_refused l hfl Z nT nK cT cK ad g q 2) (cwV 1 hts (gu_V uk_5_104 uk_5_106 uk_0_17 uk_1_9 uk_5_107) rfl rfl rfl (by decide +kernel) ⟨Nat.le_of_ble_eq_true rfl, Nat.le_of_ble_eq_true rfl⟩) (sy_recv (kc := 8) hE hP rfl (by decide) rfl rfl rfl) rfl hl.1 rfl (Nat.le_of_ble_eq_true rfl) dX7_fashion_30 ⟨Nat.le_of_ble_eq_true rfl, Nat.le_of_ble_eq_true rfl⟩) hS (fun r_e_6 g_e_6 q_e_6 H locs e_6 hP hS => ?_)
      cases e_6
      refine sy_top (y := 1) (by rfl) ?_
      refine lv_if_eq (tgt := 38) hx hb dX7_fashion_33 (by decide) (fun c9 => absurd c9 (by decide)) (fun _ => ?_)
      refine lv_iconst (v := 0) hx hb dX7_fashion_36 (by decide) ?_
      exact (sy_ireti hx hb hr hlocks hE hP hS dX7_fashion_37 ⟨Nat.le_of_ble_eq_true rfl, Nat.le_of_ble_eq_true rfl⟩ (by unfold fX7_fashion; rw [if_pos c_2, if_neg c_4] <;> rfl))
  · have c_2 := iB_0.mp c_2
    refine lv_iconst (v := 1) hx hb dX7_fashion_10 (by decide) ?_
    refine lv_goto (tgt := 30) hx hb dX7_fashion_11 (by decide) ?_
    refine sy_ki (sy_rV (o := 0) (As := [.int 1]) (rest := []) ⟨hx, hb, hml, hown, hts⟩ hE hP hS (nX7_refused l hfl Z nT nK cT cK ad g q 1) (cwV 1 hts (gu_V uk_5_104 uk_5_106 uk_0_17 uk_1_9 uk_5_107) rfl rfl rfl (by decide +kernel) ⟨Nat.le_of_ble_eq_true rfl, Nat.le_of_ble_eq_true rfl⟩) (sy_recv (kc := 8) hE hP rfl (by decide) rfl rfl rfl) rfl hl.1 rfl (Nat.le_of_ble_eq_true rfl) dX7_fashion_30 ⟨Nat.le_of_ble_eq_true rfl, Nat.le_of_ble_eq_true rfl⟩) hS (fun r_e_7 g_e_7 q_e_7 H locs e_7 hP hS => ?_)
    cases e_7
    refine sy_top (y := 1) (by rfl) ?_
    refine lv_if_eq (tgt := 38) hx hb dX7_fashion_33 (by decide) (fun c9 => absurd c9 (by decide)) (fun _ => ?_)
    refine lv_iconst (v := 0) hx hb dX7_fashion_36 (by decide) ?_
    exact (sy_ireti hx hb hr hlocks hE hP hS dX7_fashion_37 ⟨Nat.le_of_ble_eq_true rfl, Nat.le_of_ble_eq_true rfl⟩ (by unfold fX7_fashion; rw [if_neg c_2] <;> rfl))
def fX7_bias (g : sG) (q : sQ) (x0 x1 : Int32) : Int32 × sG := (if 0 ≤ x0 ∧ x0 ≤ 3 then (if (-20) ≤ x1 ∧ x1 ≤ 20 then ((g 15 x0.toNatClampNeg), (sy_up (sy_up g 0 0 0) 15 x0.toNatClampNeg x1)) else (0, (sy_up g 0 0 2))) else (0, (sy_up g 0 0 1)))
set_option maxHeartbeats 4000000 in
set_option maxRecDepth 100000 in
theorem mX7_bias (l : Launch) (hfl : l.stackTraces = false) (Z : sZ) (nT nK cT cK : Nat) (ad : Nat → Nat) (g : sG) (q : sQ) (x0 x1 : Int32) {mT mK : Nat} (hI : IM mT mK g) : sMi l Z yX7_bias (uW (.code yX7_bias cX7_bias 4 (some .int))) { frames := 1, cells := 0, slots := 0, locals := 22 } [.ref (ad 0), .int x0, .int x1] nT nK cT cK ad g q (fun r g1 q1 => (r, g1, q1) = ((fX7_bias g q x0 x1).1, (fX7_bias g q x0 x1).2, q)) := by
  refine Met.ofW (cc := cX7_bias) (maxL := 4) (ret := (some .int)) (by decide) rfl ?_
  intro p e s m args below meth c s₁ B hml hv
  obtain ⟨rfl, hE, hP⟩ := hv
  have hx := B.exec
  have hb := B.bytes
  have hr := B.returns
  have hts := atoms_spec (ws := uW (.code yX7_bias cX7_bias 4 (some .int))) B.pre
  have hown : s.vm.findClass RX7 = some m.cls := findClass_of_methodNamed B.named
  have hlocks := B.notSynchronized
  have hS : va_S (sy_A Z) s.heap s.heap [] := va_S.rf
  have hl := lv_entry ([.ref (ad 0), .int x0, .int x1]) (n := 4) (Nat.le_of_ble_eq_true rfl)
  rw [lg_entry_eq]
  generalize (lg_sl ([.ref (ad 0), .int x0, .int x1]) ++ List.replicate (4 - (lg_sl ([.ref (ad 0), .int x0, .int x1])).length) Slot.unset).toArray = ls at hl ⊢
  have hl : lv_has ls 4 [(0, .ref (ad 0)), (1, .int x0), (2, .int x1)] := hl
  refine lv_aload_n hx hb dX7_bias_0 rfl (lv_at hl 0 rfl) ?_
  refine lv_iload_n hx hb dX7_bias_1 rfl (lv_at hl 1 rfl) ?_
  refine lv_iconst (v := 0) hx hb dX7_bias_2 (by decide) ?_
  refine lv_iconst (v := 3) hx hb dX7_bias_3 (by decide) ?_
  refine sy_ki (sy_rS (As := [.int x0, .int 0, .int 3]) (rest := [.ref (ad 0)]) ⟨hx, hb, hml, hown, hts⟩ hE hP hS (nX7_is l hfl Z nT nK cT cK ad g q x0 0 3) (va_cwS 3 hts (gu_S uk_5_101 uk_5_102 uk_1_9 uk_5_103) rfl rfl rfl (by decide +kernel) ⟨Nat.le_of_ble_eq_true rfl, Nat.le_of_ble_eq_true rfl⟩) rfl hl.1 rfl (Nat.le_of_ble_eq_true rfl) dX7_bias_4 ⟨Nat.le_of_ble_eq_true rfl, Nat.le_of_ble_eq_true rfl⟩) hS (fun r_e_1 g_e_1 q_e_1 H locs e_1 hP hS => ?_)
  cases e_1
  refine lv_if_ne (tgt := 14) hx hb dX7_bias_7 (by decide) (fun c_2 => ?_) (fun c_2 => ?_)
  · have c_2 := iB_n.mp c_2
    refine lv_iload_n hx hb dX7_bias_14 rfl (lv_at hl 2 rfl) ?_
    refine lv_bipush (v := (-20)) hx hb dX7_bias_15 (by decide) ?_
    refine lv_bipush (v := 20) hx hb dX7_bias_17 (by decide) ?_
    refine sy_ki (sy_rS (As := [.int x1, .int (-20), .int 20]) (rest := [.ref (ad 0)]) ⟨hx, hb, hml, hown, hts⟩ hE hP hS (nX7_is l hfl Z nT nK cT cK ad g q x1 (-20) 20) (va_cwS 3 hts (gu_S uk_5_101 uk_5_102 uk_1_9 uk_5_103) rfl rfl rfl (by decide +kernel) ⟨Nat.le_of_ble_eq_true rfl, Nat.le_of_ble_eq_true rfl⟩) rfl hl.1 rfl (Nat.le_of_ble_eq_true rfl) dX7_bias_19 ⟨Nat.le_of_ble_eq_true rfl, Nat.le_of_ble_eq_true rfl⟩) hS (fun r_e_3 g_e_3 q_e_3 H locs e_3 hP hS => ?_)
    cases e_3
    refine lv_if_ne (tgt := 29) hx hb dX7_bias_22 (by decide) (fun c_4 => ?_) (fun c_4 => ?_)
    · have c_4 := iB_n.mp c_4
      refine lv_iconst (v := 0) hx hb dX7_bias_29 (by decide) ?_
      refine sy_ki (sy_rV (o := 0) (As := [.int 0]) (rest := []) ⟨hx, hb, hml, hown, hts⟩ hE hP hS (nX7_refused l hfl Z nT nK cT cK ad g q 0) (cwV 1 hts (gu_V uk_5_104 uk_5_106 uk_0_17 uk_1_9 uk_5_107) rfl rfl rfl (by decide +kernel) ⟨Nat.le_of_ble_eq_true rfl, Nat.le_of_ble_eq_true rfl⟩) (sy_recv (kc := 8) hE hP rfl (by decide) rfl rfl rfl) rfl hl.1 rfl (Nat.le_of_ble_eq_true rfl) dX7_bias_30 ⟨Nat.le_of_ble_eq_true rfl, Nat.le_of_ble_eq_true rfl⟩) hS (fun r_e_5 g_e_5 q_e_5 H locs e_5 hP hS => ?_)
      cases e_5
      refine sy_top (y := 0) (by rfl) ?_
      refine lv_if_eq (tgt := 38) hx hb dX7_bias_33 (by decide) (fun _ => ?_) (fun c9 => absurd c9 (by decide))
      refine lv_aload_n hx hb dX7_bias_38 rfl (lv_at hl 0 rfl) ?_
      refine sy_getRX7 hx hb hts hown hE hP 0 rfl 14 (by decide) (hts _ (u_in uk_4_204)) (v := .ref (ad 15)) rfl dX7_bias_39 ?_
      refine lv_iload_n hx hb dX7_bias_42 rfl (lv_at hl 1 rfl) ?_
      refine sy_ialdN hx hb hE hP 15 rfl (show vp_in x0 4 from (vp_in_c c_2 (by decide))) x0.toNatClampNeg rfl (v := g 15 x0.toNatClampNeg) rfl dX7_bias_43 ?_
      refine lv_istore_n (lv' := [(3, .int (g 15 x0.toNatClampNeg)), (0, .ref (ad 0)), (1, .int x0), (2, .int x1)]) hx hb dX7_bias_44 rfl hl (by decide) rfl (fun ls hl => ?_)
      refine lv_aload_n hx hb dX7_bias_45 rfl (lv_at hl 1 rfl) ?_
      refine sy_getRX7 hx hb hts hown hE hP 0 rfl 14 (by decide) (hts _ (u_in uk_4_204)) (v := .ref (ad 15)) rfl dX7_bias_46 ?_
      refine lv_iload_n hx hb dX7_bias_49 rfl (lv_at hl 2 rfl) ?_
      refine lv_iload_n hx hb dX7_bias_50 rfl (lv_at hl 3 rfl) ?_
      refine sy_iastN hx hb hE hP hS 15 rfl (show vp_in x0 4 from (vp_in_c c_2 (by decide))) x0.toNatClampNeg rfl dX7_bias_51 (fun H locs hP hS => ?_)
      refine lv_iload_n hx hb dX7_bias_52 rfl (lv_at hl 0 rfl) ?_
      exact (sy_ireti hx hb hr hlocks hE hP hS dX7_bias_53 ⟨Nat.le_of_ble_eq_true rfl, Nat.le_of_ble_eq_true rfl⟩ (by unfold fX7_bias; rw [if_pos c_2, if_pos c_4] <;> rfl))
    · have c_4 := iB_0.mp c_4
      refine lv_iconst (v := 2) hx hb dX7_bias_25 (by decide) ?_
      refine lv_goto (tgt := 30) hx hb dX7_bias_26 (by decide) ?_
      refine sy_ki (sy_rV (o := 0) (As := [.int 2]) (rest := []) ⟨hx, hb, hml, hown, hts⟩ hE hP hS (nX7_refused l hfl Z nT nK cT cK ad g q 2) (cwV 1 hts (gu_V uk_5_104 uk_5_106 uk_0_17 uk_1_9 uk_5_107) rfl rfl rfl (by decide +kernel) ⟨Nat.le_of_ble_eq_true rfl, Nat.le_of_ble_eq_true rfl⟩) (sy_recv (kc := 8) hE hP rfl (by decide) rfl rfl rfl) rfl hl.1 rfl (Nat.le_of_ble_eq_true rfl) dX7_bias_30 ⟨Nat.le_of_ble_eq_true rfl, Nat.le_of_ble_eq_true rfl⟩) hS (fun r_e_6 g_e_6 q_e_6 H locs e_6 hP hS => ?_)
      cases e_6
      refine sy_top (y := 1) (by rfl) ?_
      refine lv_if_eq (tgt := 38) hx hb dX7_bias_33 (by decide) (fun c9 => absurd c9 (by decide)) (fun _ => ?_)
      refine lv_iconst (v := 0) hx hb dX7_bias_36 (by decide) ?_
      exact (sy_ireti hx hb hr hlocks hE hP hS dX7_bias_37 ⟨Nat.le_of_ble_eq_true rfl, Nat.le_of_ble_eq_true rfl⟩ (by unfold fX7_bias; rw [if_pos c_2, if_neg c_4] <;> rfl))
  · have c_2 := iB_0.mp c_2
    refine lv_iconst (v := 1) hx hb dX7_bias_10 (by decide) ?_
    refine lv_goto (tgt := 30) hx hb dX7_bias_11 (by decide) ?_
    refine sy_ki (sy_rV (o := 0) (As := [.int 1]) (rest := []) ⟨hx, hb, hml, hown, hts⟩ hE hP hS (nX7_refused l hfl Z nT nK cT cK ad g q 1) (cwV 1 hts (gu_V uk_5_104 uk_5_106 uk_0_17 uk_1_9 uk_5_107) rfl rfl rfl (by decide +kernel) ⟨Nat.le_of_ble_eq_true rfl, Nat.le_of_ble_eq_true rfl⟩) (sy_recv (kc := 8) hE hP rfl (by decide) rfl rfl rfl) rfl hl.1 rfl (Nat.le_of_ble_eq_true rfl) dX7_bias_30 ⟨Nat.le_of_ble_eq_true rfl, Nat.le_of_ble_eq_true rfl⟩) hS (fun r_e_7 g_e_7 q_e_7 H locs e_7 hP hS => ?_)
    cases e_7
    refine sy_top (y := 1) (by rfl) ?_
    refine lv_if_eq (tgt := 38) hx hb dX7_bias_33 (by decide) (fun c9 => absurd c9 (by decide)) (fun _ => ?_)
    refine lv_iconst (v := 0) hx hb dX7_bias_36 (by decide) ?_
    exact (sy_ireti hx hb hr hlocks hE hP hS dX7_bias_37 ⟨Nat.le_of_ble_eq_true rfl, Nat.le_of_ble_eq_true rfl⟩ (by unfold fX7_bias; rw [if_neg c_2] <;> rfl))
def fX7_classOf (g : sG) (q : sQ) (x0 x1 : Int32) : Int32 × sG := (if 0 ≤ x0 ∧ x0 ≤ 9 then (if 0 ≤ x1 ∧ x1 ≤ 2 then ((g 18 x0.toNatClampNeg), (sy_up (sy_up g 0 0 0) 18 x0.toNatClampNeg x1)) else (0, (sy_up g 0 0 1))) else (0, (sy_up g 0 0 1)))
set_option maxHeartbeats 4000000 in
set_option maxRecDepth 100000 in
theorem mX7_classOf (l : Launch) (hfl : l.stackTraces = false) (Z : sZ) (nT nK cT cK : Nat) (ad : Nat → Nat) (g : sG) (q : sQ) (x0 x1 : Int32) {mT mK : Nat} (hI : IM mT mK g) : sMi l Z yX7_classOf (uW (.code yX7_classOf cX7_classOf 4 (some .int))) { frames := 2, cells := 0, slots := 0, locals := 42 } [.ref (ad 0), .int x0, .int x1] nT nK cT cK ad g q (fun r g1 q1 => (r, g1, q1) = ((fX7_classOf g q x0 x1).1, (fX7_classOf g q x0 x1).2, q)) := by
  refine Met.ofW (cc := cX7_classOf) (maxL := 4) (ret := (some .int)) (by decide) rfl ?_
  intro p e s m args below meth c s₁ B hml hv
  obtain ⟨rfl, hE, hP⟩ := hv
  have hx := B.exec
  have hb := B.bytes
  have hr := B.returns
  have hts := atoms_spec (ws := uW (.code yX7_classOf cX7_classOf 4 (some .int))) B.pre
  have hown : s.vm.findClass RX7 = some m.cls := findClass_of_methodNamed B.named
  have hlocks := B.notSynchronized
  have hS : va_S (sy_A Z) s.heap s.heap [] := va_S.rf
  have hl := lv_entry ([.ref (ad 0), .int x0, .int x1]) (n := 4) (Nat.le_of_ble_eq_true rfl)
  rw [lg_entry_eq]
  generalize (lg_sl ([.ref (ad 0), .int x0, .int x1]) ++ List.replicate (4 - (lg_sl ([.ref (ad 0), .int x0, .int x1])).length) Slot.unset).toArray = ls at hl ⊢
  have hl : lv_has ls 4 [(0, .ref (ad 0)), (1, .int x0), (2, .int x1)] := hl
  refine lv_aload_n hx hb dX7_classOf_0 rfl (lv_at hl 0 rfl) ?_
  refine lv_iload_n hx hb dX7_classOf_1 rfl (lv_at hl 1 rfl) ?_
  refine sy_ki (sy_rS (As := [.int x0]) (rest := [.ref (ad 0)]) ⟨hx, hb, hml, hown, hts⟩ hE hP hS (mX7_isPerson l hfl Z nT nK cT cK ad g q x0) (va_cwS 1 hts (gu_S uk_5_120 uk_5_121 uk_1_9 uk_5_122) rfl rfl rfl (by decide +kernel) ⟨Nat.le_of_ble_eq_true rfl, Nat.le_of_ble_eq_true rfl⟩) rfl hl.1 rfl (Nat.le_of_ble_eq_true rfl) dX7_classOf_2 ⟨Nat.le_of_ble_eq_true rfl, Nat.le_of_ble_eq_true rfl⟩) hS (fun r_e_1 g_e_1 q_e_1 H locs e_1 hP hS => ?_)
  cases e_1
  refine sy_top (y := (iB (0 ≤ x0 ∧ x0 ≤ 9))) (by rfl) ?_
  refine lv_if_eq (tgt := 21) hx hb dX7_classOf_5 (by decide) (fun c_2 => ?_) (fun c_2 => ?_)
  · have c_2 := iB_0.mp c_2
    refine lv_iconst (v := 1) hx hb dX7_classOf_21 (by decide) ?_
    refine sy_ki (sy_rV (o := 0) (As := [.int 1]) (rest := []) ⟨hx, hb, hml, hown, hts⟩ hE hP hS (nX7_refused l hfl Z nT nK cT cK ad g q 1) (cwV 1 hts (gu_V uk_5_104 uk_5_106 uk_0_17 uk_1_9 uk_5_107) rfl rfl rfl (by decide +kernel) ⟨Nat.le_of_ble_eq_true rfl, Nat.le_of_ble_eq_true rfl⟩) (sy_recv (kc := 8) hE hP rfl (by decide) rfl rfl rfl) rfl hl.1 rfl (Nat.le_of_ble_eq_true rfl) dX7_classOf_22 ⟨Nat.le_of_ble_eq_true rfl, Nat.le_of_ble_eq_true rfl⟩) hS (fun r_e_3 g_e_3 q_e_3 H locs e_3 hP hS => ?_)
    cases e_3
    refine sy_top (y := 1) (by rfl) ?_
    refine lv_if_eq (tgt := 30) hx hb dX7_classOf_25 (by decide) (fun c9 => absurd c9 (by decide)) (fun _ => ?_)
    refine lv_iconst (v := 0) hx hb dX7_classOf_28 (by decide) ?_
    exact (sy_ireti hx hb hr hlocks hE hP hS dX7_classOf_29 ⟨Nat.le_of_ble_eq_true rfl, Nat.le_of_ble_eq_true rfl⟩ (by unfold fX7_classOf; rw [if_neg c_2] <;> rfl))
  · have c_2 := iB_n.mp c_2
    refine lv_iload_n hx hb dX7_classOf_8 rfl (lv_at hl 2 rfl) ?_
    refine lv_iconst (v := 0) hx hb dX7_classOf_9 (by decide) ?_
    refine lv_iconst (v := 2) hx hb dX7_classOf_10 (by decide) ?_
    refine sy_ki (sy_rS (As := [.int x1, .int 0, .int 2]) (rest := [.ref (ad 0)]) ⟨hx, hb, hml, hown, hts⟩ hE hP hS (nX7_is l hfl Z nT nK cT cK ad g q x1 0 2) (va_cwS 3 hts (gu_S uk_5_101 uk_5_102 uk_1_9 uk_5_103) rfl rfl rfl (by decide +kernel) ⟨Nat.le_of_ble_eq_true rfl, Nat.le_of_ble_eq_true rfl⟩) rfl hl.1 rfl (Nat.le_of_ble_eq_true rfl) dX7_classOf_11 ⟨Nat.le_of_ble_eq_true rfl, Nat.le_of_ble_eq_true rfl⟩) hS (fun r_e_4 g_e_4 q_e_4 H locs e_4 hP hS => ?_)
    cases e_4
    refine lv_if_eq (tgt := 21) hx hb dX7_classOf_14 (by decide) (fun c_5 => ?_) (fun c_5 => ?_)
    · have c_5 := iB_0.mp c_5
      refine lv_iconst (v := 1) hx hb dX7_classOf_21 (by decide) ?_
      refine sy_ki (sy_rV (o := 0) (As := [.int 1]) (rest := []) ⟨hx, hb, hml, hown, hts⟩ hE hP hS (nX7_refused l hfl Z nT nK cT cK ad g q 1) (cwV 1 hts (gu_V uk_5_104 uk_5_106 uk_0_17 uk_1_9 uk_5_107) rfl rfl rfl (by decide +kernel) ⟨Nat.le_of_ble_eq_true rfl, Nat.le_of_ble_eq_true rfl⟩) (sy_recv (kc := 8) hE hP rfl (by decide) rfl rfl rfl) rfl hl.1 rfl (Nat.le_of_ble_eq_true rfl) dX7_classOf_22 ⟨Nat.le_of_ble_eq_true rfl, Nat.le_of_ble_eq_true rfl⟩) hS (fun r_e_6 g_e_6 q_e_6 H locs e_6 hP hS => ?_)
      cases e_6
      refine sy_top (y := 1) (by rfl) ?_
      refine lv_if_eq (tgt := 30) hx hb dX7_classOf_25 (by decide) (fun c9 => absurd c9 (by decide)) (fun _ => ?_)
      refine lv_iconst (v := 0) hx hb dX7_classOf_28 (by decide) ?_
      exact (sy_ireti hx hb hr hlocks hE hP hS dX7_classOf_29 ⟨Nat.le_of_ble_eq_true rfl, Nat.le_of_ble_eq_true rfl⟩ (by unfold fX7_classOf; rw [if_pos c_2, if_neg c_5] <;> rfl))
    · have c_5 := iB_n.mp c_5
      refine lv_iconst (v := 0) hx hb dX7_classOf_17 (by decide) ?_
      refine lv_goto (tgt := 22) hx hb dX7_classOf_18 (by decide) ?_
      refine sy_ki (sy_rV (o := 0) (As := [.int 0]) (rest := []) ⟨hx, hb, hml, hown, hts⟩ hE hP hS (nX7_refused l hfl Z nT nK cT cK ad g q 0) (cwV 1 hts (gu_V uk_5_104 uk_5_106 uk_0_17 uk_1_9 uk_5_107) rfl rfl rfl (by decide +kernel) ⟨Nat.le_of_ble_eq_true rfl, Nat.le_of_ble_eq_true rfl⟩) (sy_recv (kc := 8) hE hP rfl (by decide) rfl rfl rfl) rfl hl.1 rfl (Nat.le_of_ble_eq_true rfl) dX7_classOf_22 ⟨Nat.le_of_ble_eq_true rfl, Nat.le_of_ble_eq_true rfl⟩) hS (fun r_e_7 g_e_7 q_e_7 H locs e_7 hP hS => ?_)
      cases e_7
      refine sy_top (y := 0) (by rfl) ?_
      refine lv_if_eq (tgt := 30) hx hb dX7_classOf_25 (by decide) (fun _ => ?_) (fun c9 => absurd c9 (by decide))
      refine lv_aload_n hx hb dX7_classOf_30 rfl (lv_at hl 0 rfl) ?_
      refine sy_getRX7 hx hb hts hown hE hP 0 rfl 17 (by decide) (hts _ (u_in uk_4_207)) (v := .ref (ad 18)) rfl dX7_classOf_31 ?_
      refine lv_iload_n hx hb dX7_classOf_34 rfl (lv_at hl 1 rfl) ?_
      refine sy_ialdN hx hb hE hP 18 rfl (show vp_in x0 10 from (vp_in_c c_2 (by decide))) x0.toNatClampNeg rfl (v := g 18 x0.toNatClampNeg) rfl dX7_classOf_35 ?_
      refine lv_istore_n (lv' := [(3, .int (g 18 x0.toNatClampNeg)), (0, .ref (ad 0)), (1, .int x0), (2, .int x1)]) hx hb dX7_classOf_36 rfl hl (by decide) rfl (fun ls hl => ?_)
      refine lv_aload_n hx hb dX7_classOf_37 rfl (lv_at hl 1 rfl) ?_
      refine sy_getRX7 hx hb hts hown hE hP 0 rfl 17 (by decide) (hts _ (u_in uk_4_207)) (v := .ref (ad 18)) rfl dX7_classOf_38 ?_
      refine lv_iload_n hx hb dX7_classOf_41 rfl (lv_at hl 2 rfl) ?_
      refine lv_iload_n hx hb dX7_classOf_42 rfl (lv_at hl 3 rfl) ?_
      refine sy_iastN hx hb hE hP hS 18 rfl (show vp_in x0 10 from (vp_in_c c_2 (by decide))) x0.toNatClampNeg rfl dX7_classOf_43 (fun H locs hP hS => ?_)
      refine lv_iload_n hx hb dX7_classOf_44 rfl (lv_at hl 0 rfl) ?_
      exact (sy_ireti hx hb hr hlocks hE hP hS dX7_classOf_45 ⟨Nat.le_of_ble_eq_true rfl, Nat.le_of_ble_eq_true rfl⟩ (by unfold fX7_classOf; rw [if_pos c_2, if_pos c_5] <;> rfl))
def fX7_charter (g : sG) (q : sQ) (x0 x1 x2 : Int32) : sG := (if 10 ≤ x1 ∧ x1 ≤ 90 then (if 0 ≤ x2 ∧ x2 ≤ 100000 then (if 0 ≤ x0 ∧ x0 ≤ 2 then (sy_up (sy_up (sy_up g 0 0 0) 19 x0.toNatClampNeg x1) 20 x0.toNatClampNeg x2) else (sy_up g 0 0 1)) else (if 0 ≤ x0 ∧ x0 ≤ 2 then (sy_up g 0 0 2) else (sy_up g 0 0 1))) else (if 0 ≤ x0 ∧ x0 ≤ 2 then (sy_up g 0 0 2) else (sy_up g 0 0 1)))
set_option maxHeartbeats 4000000 in
set_option maxRecDepth 100000 in
theorem mX7_charter (l : Launch) (hfl : l.stackTraces = false) (Z : sZ) (nT nK cT cK : Nat) (ad : Nat → Nat) (g : sG) (q : sQ) (x0 x1 x2 : Int32) {mT mK : Nat} (hI : IM mT mK g) : sMv l Z yX7_charter (uW (.code yX7_charter cX7_charter 5 none)) { frames := 1, cells := 0, slots := 0, locals := 22 } [.ref (ad 0), .int x0, .int x1, .int x2] nT nK cT cK ad g q (fun g1 q1 => (g1, q1) = (fX7_charter g q x0 x1 x2, q)) := by
  refine Met.ofW (cc := cX7_charter) (maxL := 5) (ret := none) (by decide) rfl ?_
  intro p e s m args below meth c s₁ B hml hv
  obtain ⟨rfl, hE, hP⟩ := hv
  have hx := B.exec
  have hb := B.bytes
  have hr := B.returns
  have hts := atoms_spec (ws := uW (.code yX7_charter cX7_charter 5 none)) B.pre
  have hown : s.vm.findClass RX7 = some m.cls := findClass_of_methodNamed B.named
  have hlocks := B.notSynchronized
  have hS : va_S (sy_A Z) s.heap s.heap [] := va_S.rf
  have hl := lv_entry ([.ref (ad 0), .int x0, .int x1, .int x2]) (n := 5) (Nat.le_of_ble_eq_true rfl)
  rw [lg_entry_eq]
  generalize (lg_sl ([.ref (ad 0), .int x0, .int x1, .int x2]) ++ List.replicate (5 - (lg_sl ([.ref (ad 0), .int x0, .int x1, .int x2])).length) Slot.unset).toArray = ls at hl ⊢
  have hl : lv_has ls 5 [(0, .ref (ad 0)), (1, .int x0), (2, .int x1), (3, .int x2)] := hl
  refine lv_iload_n hx hb dX7_charter_0 rfl (lv_at hl 2 rfl) ?_
  refine lv_bipush (v := 10) hx hb dX7_charter_1 (by decide) ?_
  refine lv_bipush (v := 90) hx hb dX7_charter_3 (by decide) ?_
  refine sy_ki (sy_rS (As := [.int x1, .int 10, .int 90]) (rest := []) ⟨hx, hb, hml, hown, hts⟩ hE hP hS (nX7_is l hfl Z nT nK cT cK ad g q x1 10 90) (va_cwS 3 hts (gu_S uk_5_101 uk_5_102 uk_1_9 uk_5_103) rfl rfl rfl (by decide +kernel) ⟨Nat.le_of_ble_eq_true rfl, Nat.le_of_ble_eq_true rfl⟩) rfl hl.1 rfl (Nat.le_of_ble_eq_true rfl) dX7_charter_5 ⟨Nat.le_of_ble_eq_true rfl, Nat.le_of_ble_eq_true rfl⟩) hS (fun r_e_1 g_e_1 q_e_1 H locs e_1 hP hS => ?_)
  cases e_1
  refine lv_if_eq (tgt := 25) hx hb dX7_charter_8 (by decide) (fun c_2 => ?_) (fun c_2 => ?_)
  · have c_2 := iB_0.mp c_2
    refine lv_iconst (v := 0) hx hb dX7_charter_25 (by decide) ?_
    refine lv_istore (lv' := [(4, .int 0), (0, .ref (ad 0)), (1, .int x0), (2, .int x1), (3, .int x2)]) hx hb dX7_charter_26 hl (by decide) rfl (fun ls hl => ?_)
    refine lv_aload_n hx hb dX7_charter_28 rfl (lv_at hl 1 rfl) ?_
    refine lv_iload_n hx hb dX7_charter_29 rfl (lv_at hl 2 rfl) ?_
    refine lv_iconst (v := 0) hx hb dX7_charter_30 (by decide) ?_
    refine lv_iconst (v := 2) hx hb dX7_charter_31 (by decide) ?_
    refine sy_ki (sy_rS (As := [.int x0, .int 0, .int 2]) (rest := [.ref (ad 0)]) ⟨hx, hb, hml, hown, hts⟩ hE hP hS (nX7_is l hfl Z nT nK cT cK ad g q x0 0 2) (va_cwS 3 hts (gu_S uk_5_101 uk_5_102 uk_1_9 uk_5_103) rfl rfl rfl (by decide +kernel) ⟨Nat.le_of_ble_eq_true rfl, Nat.le_of_ble_eq_true rfl⟩) rfl hl.1 rfl (Nat.le_of_ble_eq_true rfl) dX7_charter_32 ⟨Nat.le_of_ble_eq_true rfl, Nat.le_of_ble_eq_true rfl⟩) hS (fun r_e_3 g_e_3 q_e_3 H locs e_3 hP hS => ?_)
    cases e_3
    refine lv_if_ne (tgt := 42) hx hb dX7_charter_35 (by decide) (fun c_4 => ?_) (fun c_4 => ?_)
    · have c_4 := iB_n.mp c_4
      refine lv_iload hx hb dX7_charter_42 (lv_at hl 0 rfl) ?_
      refine lv_if_ne (tgt := 51) hx hb dX7_charter_44 (by decide) (fun c9 => absurd c9 (by decide)) (fun _ => ?_)
      refine lv_iconst (v := 2) hx hb dX7_charter_47 (by decide) ?_
      refine lv_goto (tgt := 52) hx hb dX7_charter_48 (by decide) ?_
      refine sy_ki (sy_rV (o := 0) (As := [.int 2]) (rest := []) ⟨hx, hb, hml, hown, hts⟩ hE hP hS (nX7_refused l hfl Z nT nK cT cK ad g q 2) (cwV 1 hts (gu_V uk_5_104 uk_5_106 uk_0_17 uk_1_9 uk_5_107) rfl rfl rfl (by decide +kernel) ⟨Nat.le_of_ble_eq_true rfl, Nat.le_of_ble_eq_true rfl⟩) (sy_recv (kc := 8) hE hP rfl (by decide) rfl rfl rfl) rfl hl.1 rfl (Nat.le_of_ble_eq_true rfl) dX7_charter_52 ⟨Nat.le_of_ble_eq_true rfl, Nat.le_of_ble_eq_true rfl⟩) hS (fun r_e_5 g_e_5 q_e_5 H locs e_5 hP hS => ?_)
      cases e_5
      refine sy_top (y := 1) (by rfl) ?_
      refine lv_if_ne (tgt := 72) hx hb dX7_charter_55 (by decide) (fun _ => ?_) (fun c9 => absurd c9 (by decide))
      exact (sy_vret hx hb hr hlocks hE hP hS dX7_charter_72 ⟨Nat.le_of_ble_eq_true rfl, Nat.le_of_ble_eq_true rfl⟩ (by unfold fX7_charter; rw [if_neg c_2, if_pos c_4] <;> rfl))
    · have c_4 := iB_0.mp c_4
      refine lv_iconst (v := 1) hx hb dX7_charter_38 (by decide) ?_
      refine lv_goto (tgt := 52) hx hb dX7_charter_39 (by decide) ?_
      refine sy_ki (sy_rV (o := 0) (As := [.int 1]) (rest := []) ⟨hx, hb, hml, hown, hts⟩ hE hP hS (nX7_refused l hfl Z nT nK cT cK ad g q 1) (cwV 1 hts (gu_V uk_5_104 uk_5_106 uk_0_17 uk_1_9 uk_5_107) rfl rfl rfl (by decide +kernel) ⟨Nat.le_of_ble_eq_true rfl, Nat.le_of_ble_eq_true rfl⟩) (sy_recv (kc := 8) hE hP rfl (by decide) rfl rfl rfl) rfl hl.1 rfl (Nat.le_of_ble_eq_true rfl) dX7_charter_52 ⟨Nat.le_of_ble_eq_true rfl, Nat.le_of_ble_eq_true rfl⟩) hS (fun r_e_6 g_e_6 q_e_6 H locs e_6 hP hS => ?_)
      cases e_6
      refine sy_top (y := 1) (by rfl) ?_
      refine lv_if_ne (tgt := 72) hx hb dX7_charter_55 (by decide) (fun _ => ?_) (fun c9 => absurd c9 (by decide))
      exact (sy_vret hx hb hr hlocks hE hP hS dX7_charter_72 ⟨Nat.le_of_ble_eq_true rfl, Nat.le_of_ble_eq_true rfl⟩ (by unfold fX7_charter; rw [if_neg c_2, if_neg c_4] <;> rfl))
  · have c_2 := iB_n.mp c_2
    refine lv_iload_n hx hb dX7_charter_11 rfl (lv_at hl 3 rfl) ?_
    refine lv_iconst (v := 0) hx hb dX7_charter_12 (by decide) ?_
    refine lv_ldc (v := 100000) hx hb hown (hts _ (u_in uk_5_127)) dX7_charter_13 ?_
    refine sy_ki (sy_rS (As := [.int x2, .int 0, .int 100000]) (rest := []) ⟨hx, hb, hml, hown, hts⟩ hE hP hS (nX7_is l hfl Z nT nK cT cK ad g q x2 0 100000) (va_cwS 3 hts (gu_S uk_5_101 uk_5_102 uk_1_9 uk_5_103) rfl rfl rfl (by decide +kernel) ⟨Nat.le_of_ble_eq_true rfl, Nat.le_of_ble_eq_true rfl⟩) rfl hl.1 rfl (Nat.le_of_ble_eq_true rfl) dX7_charter_15 ⟨Nat.le_of_ble_eq_true rfl, Nat.le_of_ble_eq_true rfl⟩) hS (fun r_e_7 g_e_7 q_e_7 H locs e_7 hP hS => ?_)
    cases e_7
    refine lv_if_eq (tgt := 25) hx hb dX7_charter_18 (by decide) (fun c_8 => ?_) (fun c_8 => ?_)
    · have c_8 := iB_0.mp c_8
      refine lv_iconst (v := 0) hx hb dX7_charter_25 (by decide) ?_
      refine lv_istore (lv' := [(4, .int 0), (0, .ref (ad 0)), (1, .int x0), (2, .int x1), (3, .int x2)]) hx hb dX7_charter_26 hl (by decide) rfl (fun ls hl => ?_)
      refine lv_aload_n hx hb dX7_charter_28 rfl (lv_at hl 1 rfl) ?_
      refine lv_iload_n hx hb dX7_charter_29 rfl (lv_at hl 2 rfl) ?_
      refine lv_iconst (v := 0) hx hb dX7_charter_30 (by decide) ?_
      refine lv_iconst (v := 2) hx hb dX7_charter_31 (by decide) ?_
      refine sy_ki (sy_rS (As := [.int x0, .int 0, .int 2]) (rest := [.ref (ad 0)]) ⟨hx, hb, hml, hown, hts⟩ hE hP hS (nX7_is l hfl Z nT nK cT cK ad g q x0 0 2) (va_cwS 3 hts (gu_S uk_5_101 uk_5_102 uk_1_9 uk_5_103) rfl rfl rfl (by decide +kernel) ⟨Nat.le_of_ble_eq_true rfl, Nat.le_of_ble_eq_true rfl⟩) rfl hl.1 rfl (Nat.le_of_ble_eq_true rfl) dX7_charter_32 ⟨Nat.le_of_ble_eq_true rfl, Nat.le_of_ble_eq_true rfl⟩) hS (fun r_e_9 g_e_9 q_e_9 H locs e_9 hP hS => ?_)
      cases e_9
      refine lv_if_ne (tgt := 42) hx hb dX7_charter_35 (by decide) (fun c_10 => ?_) (fun c_10 => ?_)
      · have c_10 := iB_n.mp c_10
        refine lv_iload hx hb dX7_charter_42 (lv_at hl 0 rfl) ?_
        refine lv_if_ne (tgt := 51) hx hb dX7_charter_44 (by decide) (fun c9 => absurd c9 (by decide)) (fun _ => ?_)
        refine lv_iconst (v := 2) hx hb dX7_charter_47 (by decide) ?_
        refine lv_goto (tgt := 52) hx hb dX7_charter_48 (by decide) ?_
        refine sy_ki (sy_rV (o := 0) (As := [.int 2]) (rest := []) ⟨hx, hb, hml, hown, hts⟩ hE hP hS (nX7_refused l hfl Z nT nK cT cK ad g q 2) (cwV 1 hts (gu_V uk_5_104 uk_5_106 uk_0_17 uk_1_9 uk_5_107) rfl rfl rfl (by decide +kernel) ⟨Nat.le_of_ble_eq_true rfl, Nat.le_of_ble_eq_true rfl⟩) (sy_recv (kc := 8) hE hP rfl (by decide) rfl rfl rfl) rfl hl.1 rfl (Nat.le_of_ble_eq_true rfl) dX7_charter_52 ⟨Nat.le_of_ble_eq_true rfl, Nat.le_of_ble_eq_true rfl⟩) hS (fun r_e_11 g_e_11 q_e_11 H locs e_11 hP hS => ?_)
        cases e_11
        refine sy_top (y := 1) (by rfl) ?_
        refine lv_if_ne (tgt := 72) hx hb dX7_charter_55 (by decide) (fun _ => ?_) (fun c9 => absurd c9 (by decide))
        exact (sy_vret hx hb hr hlocks hE hP hS dX7_charter_72 ⟨Nat.le_of_ble_eq_true rfl, Nat.le_of_ble_eq_true rfl⟩ (by unfold fX7_charter; rw [if_pos c_2, if_neg c_8, if_pos c_10] <;> rfl))
      · have c_10 := iB_0.mp c_10
        refine lv_iconst (v := 1) hx hb dX7_charter_38 (by decide) ?_
        refine lv_goto (tgt := 52) hx hb dX7_charter_39 (by decide) ?_
        refine sy_ki (sy_rV (o := 0) (As := [.int 1]) (rest := []) ⟨hx, hb, hml, hown, hts⟩ hE hP hS (nX7_refused l hfl Z nT nK cT cK ad g q 1) (cwV 1 hts (gu_V uk_5_104 uk_5_106 uk_0_17 uk_1_9 uk_5_107) rfl rfl rfl (by decide +kernel) ⟨Nat.le_of_ble_eq_true rfl, Nat.le_of_ble_eq_true rfl⟩) (sy_recv (kc := 8) hE hP rfl (by decide) rfl rfl rfl) rfl hl.1 rfl (Nat.le_of_ble_eq_true rfl) dX7_charter_52 ⟨Nat.le_of_ble_eq_true rfl, Nat.le_of_ble_eq_true rfl⟩) hS (fun r_e_12 g_e_12 q_e_12 H locs e_12 hP hS => ?_)
        cases e_12
        refine sy_top (y := 1) (by rfl) ?_
        refine lv_if_ne (tgt := 72) hx hb dX7_charter_55 (by decide) (fun _ => ?_) (fun c9 => absurd c9 (by decide))
        exact (sy_vret hx hb hr hlocks hE hP hS dX7_charter_72 ⟨Nat.le_of_ble_eq_true rfl, Nat.le_of_ble_eq_true rfl⟩ (by unfold fX7_charter; rw [if_pos c_2, if_neg c_8, if_neg c_10] <;> rfl))
    · have c_8 := iB_n.mp c_8
      refine lv_iconst (v := 1) hx hb dX7_charter_21 (by decide) ?_
      refine lv_goto (tgt := 26) hx hb dX7_charter_22 (by decide) ?_
      refine lv_istore (lv' := [(4, .int 1), (0, .ref (ad 0)), (1, .int x0), (2, .int x1), (3, .int x2)]) hx hb dX7_charter_26 hl (by decide) rfl (fun ls hl => ?_)
      refine lv_aload_n hx hb dX7_charter_28 rfl (lv_at hl 1 rfl) ?_
      refine lv_iload_n hx hb dX7_charter_29 rfl (lv_at hl 2 rfl) ?_
      refine lv_iconst (v := 0) hx hb dX7_charter_30 (by decide) ?_
      refine lv_iconst (v := 2) hx hb dX7_charter_31 (by decide) ?_
      refine sy_ki (sy_rS (As := [.int x0, .int 0, .int 2]) (rest := [.ref (ad 0)]) ⟨hx, hb, hml, hown, hts⟩ hE hP hS (nX7_is l hfl Z nT nK cT cK ad g q x0 0 2) (va_cwS 3 hts (gu_S uk_5_101 uk_5_102 uk_1_9 uk_5_103) rfl rfl rfl (by decide +kernel) ⟨Nat.le_of_ble_eq_true rfl, Nat.le_of_ble_eq_true rfl⟩) rfl hl.1 rfl (Nat.le_of_ble_eq_true rfl) dX7_charter_32 ⟨Nat.le_of_ble_eq_true rfl, Nat.le_of_ble_eq_true rfl⟩) hS (fun r_e_13 g_e_13 q_e_13 H locs e_13 hP hS => ?_)
      cases e_13
      refine lv_if_ne (tgt := 42) hx hb dX7_charter_35 (by decide) (fun c_14 => ?_) (fun c_14 => ?_)
      · have c_14 := iB_n.mp c_14
        refine lv_iload hx hb dX7_charter_42 (lv_at hl 0 rfl) ?_
        refine lv_if_ne (tgt := 51) hx hb dX7_charter_44 (by decide) (fun _ => ?_) (fun c9 => absurd c9 (by decide))
        refine lv_iconst (v := 0) hx hb dX7_charter_51 (by decide) ?_
        refine sy_ki (sy_rV (o := 0) (As := [.int 0]) (rest := []) ⟨hx, hb, hml, hown, hts⟩ hE hP hS (nX7_refused l hfl Z nT nK cT cK ad g q 0) (cwV 1 hts (gu_V uk_5_104 uk_5_106 uk_0_17 uk_1_9 uk_5_107) rfl rfl rfl (by decide +kernel) ⟨Nat.le_of_ble_eq_true rfl, Nat.le_of_ble_eq_true rfl⟩) (sy_recv (kc := 8) hE hP rfl (by decide) rfl rfl rfl) rfl hl.1 rfl (Nat.le_of_ble_eq_true rfl) dX7_charter_52 ⟨Nat.le_of_ble_eq_true rfl, Nat.le_of_ble_eq_true rfl⟩) hS (fun r_e_15 g_e_15 q_e_15 H locs e_15 hP hS => ?_)
        cases e_15
        refine sy_top (y := 0) (by rfl) ?_
        refine lv_if_ne (tgt := 72) hx hb dX7_charter_55 (by decide) (fun c9 => absurd c9 (by decide)) (fun _ => ?_)
        refine lv_aload_n hx hb dX7_charter_58 rfl (lv_at hl 1 rfl) ?_
        refine sy_getRX7 hx hb hts hown hE hP 0 rfl 18 (by decide) (hts _ (u_in uk_4_208)) (v := .ref (ad 19)) rfl dX7_charter_59 ?_
        refine lv_iload_n hx hb dX7_charter_62 rfl (lv_at hl 2 rfl) ?_
        refine lv_iload_n hx hb dX7_charter_63 rfl (lv_at hl 3 rfl) ?_
        refine sy_iastN hx hb hE hP hS 19 rfl (show vp_in x0 3 from (vp_in_c c_14 (by decide))) x0.toNatClampNeg rfl dX7_charter_64 (fun H locs hP hS => ?_)
        refine lv_aload_n hx hb dX7_charter_65 rfl (lv_at hl 1 rfl) ?_
        refine sy_getRX7 hx hb hts hown hE hP 0 rfl 19 (by decide) (hts _ (u_in uk_4_209)) (v := .ref (ad 20)) rfl dX7_charter_66 ?_
        refine lv_iload_n hx hb dX7_charter_69 rfl (lv_at hl 2 rfl) ?_
        refine lv_iload_n hx hb dX7_charter_70 rfl (lv_at hl 4 rfl) ?_
        refine sy_iastN hx hb hE hP hS 20 rfl (show vp_in x0 3 from (vp_in_c c_14 (by decide))) x0.toNatClampNeg rfl dX7_charter_71 (fun H locs hP hS => ?_)
        exact (sy_vret hx hb hr hlocks hE hP hS dX7_charter_72 ⟨Nat.le_of_ble_eq_true rfl, Nat.le_of_ble_eq_true rfl⟩ (by unfold fX7_charter; rw [if_pos c_2, if_pos c_8, if_pos c_14] <;> rfl))
      · have c_14 := iB_0.mp c_14
        refine lv_iconst (v := 1) hx hb dX7_charter_38 (by decide) ?_
        refine lv_goto (tgt := 52) hx hb dX7_charter_39 (by decide) ?_
        refine sy_ki (sy_rV (o := 0) (As := [.int 1]) (rest := []) ⟨hx, hb, hml, hown, hts⟩ hE hP hS (nX7_refused l hfl Z nT nK cT cK ad g q 1) (cwV 1 hts (gu_V uk_5_104 uk_5_106 uk_0_17 uk_1_9 uk_5_107) rfl rfl rfl (by decide +kernel) ⟨Nat.le_of_ble_eq_true rfl, Nat.le_of_ble_eq_true rfl⟩) (sy_recv (kc := 8) hE hP rfl (by decide) rfl rfl rfl) rfl hl.1 rfl (Nat.le_of_ble_eq_true rfl) dX7_charter_52 ⟨Nat.le_of_ble_eq_true rfl, Nat.le_of_ble_eq_true rfl⟩) hS (fun r_e_16 g_e_16 q_e_16 H locs e_16 hP hS => ?_)
        cases e_16
        refine sy_top (y := 1) (by rfl) ?_
        refine lv_if_ne (tgt := 72) hx hb dX7_charter_55 (by decide) (fun _ => ?_) (fun c9 => absurd c9 (by decide))
        exact (sy_vret hx hb hr hlocks hE hP hS dX7_charter_72 ⟨Nat.le_of_ble_eq_true rfl, Nat.le_of_ble_eq_true rfl⟩ (by unfold fX7_charter; rw [if_pos c_2, if_pos c_8, if_neg c_14] <;> rfl))
def fX7_term (g : sG) (q : sQ) (x0 : Int32) : Int32 × sG := (if 14 ≤ x0 ∧ x0 ≤ 1000 then ((g 0 27), (sy_up (sy_up g 0 0 0) 0 27 x0)) else (0, (sy_up g 0 0 1)))
set_option maxHeartbeats 4000000 in
set_option maxRecDepth 100000 in
theorem mX7_term (l : Launch) (hfl : l.stackTraces = false) (Z : sZ) (nT nK cT cK : Nat) (ad : Nat → Nat) (g : sG) (q : sQ) (x0 : Int32) {mT mK : Nat} (hI : IM mT mK g) : sMi l Z yX7_term (uW (.code yX7_term cX7_term 3 (some .int))) { frames := 1, cells := 0, slots := 0, locals := 22 } [.ref (ad 0), .int x0] nT nK cT cK ad g q (fun r g1 q1 => (r, g1, q1) = ((fX7_term g q x0).1, (fX7_term g q x0).2, q)) := by
  refine Met.ofW (cc := cX7_term) (maxL := 3) (ret := (some .int)) (by decide) rfl ?_
  intro p e s m args below meth c s₁ B hml hv
  obtain ⟨rfl, hE, hP⟩ := hv
  have hx := B.exec
  have hb := B.bytes
  have hr := B.returns
  have hts := atoms_spec (ws := uW (.code yX7_term cX7_term 3 (some .int))) B.pre
  have hown : s.vm.findClass RX7 = some m.cls := findClass_of_methodNamed B.named
  have hlocks := B.notSynchronized
  have hS : va_S (sy_A Z) s.heap s.heap [] := va_S.rf
  have hl := lv_entry ([.ref (ad 0), .int x0]) (n := 3) (Nat.le_of_ble_eq_true rfl)
  rw [lg_entry_eq]
  generalize (lg_sl ([.ref (ad 0), .int x0]) ++ List.replicate (3 - (lg_sl ([.ref (ad 0), .int x0])).length) Slot.unset).toArray = ls at hl ⊢
  have hl : lv_has ls 3 [(0, .ref (ad 0)), (1, .int x0)] := hl
  refine lv_aload_n hx hb dX7_term_0 rfl (lv_at hl 0 rfl) ?_
  refine lv_iload_n hx hb dX7_term_1 rfl (lv_at hl 1 rfl) ?_
  refine lv_bipush (v := 14) hx hb dX7_term_2 (by decide) ?_
  refine lv_sipush (v := 1000) hx hb dX7_term_4 (by decide) ?_
  refine sy_ki (sy_rS (As := [.int x0, .int 14, .int 1000]) (rest := [.ref (ad 0)]) ⟨hx, hb, hml, hown, hts⟩ hE hP hS (nX7_is l hfl Z nT nK cT cK ad g q x0 14 1000) (va_cwS 3 hts (gu_S uk_5_101 uk_5_102 uk_1_9 uk_5_103) rfl rfl rfl (by decide +kernel) ⟨Nat.le_of_ble_eq_true rfl, Nat.le_of_ble_eq_true rfl⟩) rfl hl.1 rfl (Nat.le_of_ble_eq_true rfl) dX7_term_7 ⟨Nat.le_of_ble_eq_true rfl, Nat.le_of_ble_eq_true rfl⟩) hS (fun r_e_1 g_e_1 q_e_1 H locs e_1 hP hS => ?_)
  cases e_1
  refine lv_if_eq (tgt := 17) hx hb dX7_term_10 (by decide) (fun c_2 => ?_) (fun c_2 => ?_)
  · have c_2 := iB_0.mp c_2
    refine lv_iconst (v := 1) hx hb dX7_term_17 (by decide) ?_
    refine sy_ki (sy_rV (o := 0) (As := [.int 1]) (rest := []) ⟨hx, hb, hml, hown, hts⟩ hE hP hS (nX7_refused l hfl Z nT nK cT cK ad g q 1) (cwV 1 hts (gu_V uk_5_104 uk_5_106 uk_0_17 uk_1_9 uk_5_107) rfl rfl rfl (by decide +kernel) ⟨Nat.le_of_ble_eq_true rfl, Nat.le_of_ble_eq_true rfl⟩) (sy_recv (kc := 8) hE hP rfl (by decide) rfl rfl rfl) rfl hl.1 rfl (Nat.le_of_ble_eq_true rfl) dX7_term_18 ⟨Nat.le_of_ble_eq_true rfl, Nat.le_of_ble_eq_true rfl⟩) hS (fun r_e_3 g_e_3 q_e_3 H locs e_3 hP hS => ?_)
    cases e_3
    refine sy_top (y := 1) (by rfl) ?_
    refine lv_if_eq (tgt := 26) hx hb dX7_term_21 (by decide) (fun c9 => absurd c9 (by decide)) (fun _ => ?_)
    refine lv_iconst (v := 0) hx hb dX7_term_24 (by decide) ?_
    exact (sy_ireti hx hb hr hlocks hE hP hS dX7_term_25 ⟨Nat.le_of_ble_eq_true rfl, Nat.le_of_ble_eq_true rfl⟩ (by unfold fX7_term; rw [if_neg c_2] <;> rfl))
  · have c_2 := iB_n.mp c_2
    refine lv_iconst (v := 0) hx hb dX7_term_13 (by decide) ?_
    refine lv_goto (tgt := 18) hx hb dX7_term_14 (by decide) ?_
    refine sy_ki (sy_rV (o := 0) (As := [.int 0]) (rest := []) ⟨hx, hb, hml, hown, hts⟩ hE hP hS (nX7_refused l hfl Z nT nK cT cK ad g q 0) (cwV 1 hts (gu_V uk_5_104 uk_5_106 uk_0_17 uk_1_9 uk_5_107) rfl rfl rfl (by decide +kernel) ⟨Nat.le_of_ble_eq_true rfl, Nat.le_of_ble_eq_true rfl⟩) (sy_recv (kc := 8) hE hP rfl (by decide) rfl rfl rfl) rfl hl.1 rfl (Nat.le_of_ble_eq_true rfl) dX7_term_18 ⟨Nat.le_of_ble_eq_true rfl, Nat.le_of_ble_eq_true rfl⟩) hS (fun r_e_4 g_e_4 q_e_4 H locs e_4 hP hS => ?_)
    cases e_4
    refine sy_top (y := 0) (by rfl) ?_
    refine lv_if_eq (tgt := 26) hx hb dX7_term_21 (by decide) (fun _ => ?_) (fun c9 => absurd c9 (by decide))
    refine lv_aload_n hx hb dX7_term_26 rfl (lv_at hl 0 rfl) ?_
    refine sy_getRX7 hx hb hts hown hE hP 0 rfl 27 (by decide) (hts _ (u_in uk_4_217)) (v := .int (g 0 27)) rfl dX7_term_27 ?_
    refine lv_istore_n (lv' := [(2, .int (g 0 27)), (0, .ref (ad 0)), (1, .int x0)]) hx hb dX7_term_30 rfl hl (by decide) rfl (fun ls hl => ?_)
    refine lv_aload_n hx hb dX7_term_31 rfl (lv_at hl 1 rfl) ?_
    refine lv_iload_n hx hb dX7_term_32 rfl (lv_at hl 2 rfl) ?_
    refine sy_putRX7 hx hb hts hown hE hP hS 0 rfl 27 (by decide) (hts _ (u_in uk_4_217)) rfl (ty := .int) (by decide +kernel) rfl rfl (sy_up (sy_up g 0 0 0) 0 27 x0) q (by rw [sy_up_s]; exact se_RX7_27 _ _ _ _ _ _ _) (fun _ h9 => sy_up_o _ _ _ h9) (fun _ _ => rfl) dX7_term_33 (fun H locs hP hS => ?_)
    refine lv_iload_n hx hb dX7_term_36 rfl (lv_at hl 0 rfl) ?_
    exact (sy_ireti hx hb hr hlocks hE hP hS dX7_term_37 ⟨Nat.le_of_ble_eq_true rfl, Nat.le_of_ble_eq_true rfl⟩ (by unfold fX7_term; rw [if_pos c_2] <;> rfl))
def fX7_thing (g : sG) (q : sQ) (x0 x1 x2 : Int32) : Int32 × sG := (if 1 ≤ x1 ∧ x1 ≤ 50 then (if 10 ≤ x2 ∧ x2 ≤ 10000 then (if 0 ≤ x0 ∧ x0 ≤ 3 then (if (g 0 2) = 40 then (0, (sy_up g 0 0 3)) else ((((g 0 2) + 1) - 1), (sy_up (sy_up (sy_up (sy_up (sy_up g 0 0 0) 4 ((g 0 2).toNatClampNeg) x0) 5 ((g 0 2).toNatClampNeg) x1) 6 ((g 0 2).toNatClampNeg) x2) 0 2 ((g 0 2) + 1)))) else (0, (sy_up g 0 0 1))) else (if 0 ≤ x0 ∧ x0 ≤ 3 then (0, (sy_up g 0 0 2)) else (0, (sy_up g 0 0 1)))) else (if 0 ≤ x0 ∧ x0 ≤ 3 then (0, (sy_up g 0 0 2)) else (0, (sy_up g 0 0 1))))
set_option maxHeartbeats 4000000 in
set_option maxRecDepth 100000 in
theorem mX7_thing (l : Launch) (hfl : l.stackTraces = false) (Z : sZ) (nT nK cT cK : Nat) (ad : Nat → Nat) (g : sG) (q : sQ) (x0 x1 x2 : Int32) {mT mK : Nat} (hI : IM mT mK g) : sMi l Z yX7_thing (uW (.code yX7_thing cX7_thing 5 (some .int))) { frames := 1, cells := 0, slots := 0, locals := 22 } [.ref (ad 0), .int x0, .int x1, .int x2] nT nK cT cK ad g q (fun r g1 q1 => (r, g1, q1) = ((fX7_thing g q x0 x1 x2).1, (fX7_thing g q x0 x1 x2).2, q)) := by
  refine Met.ofW (cc := cX7_thing) (maxL := 5) (ret := (some .int)) (by decide) rfl ?_
  intro p e s m args below meth c s₁ B hml hv
  obtain ⟨rfl, hE, hP⟩ := hv
  have hx := B.exec
  have hb := B.bytes
  have hr := B.returns
  have hts := atoms_spec (ws := uW (.code yX7_thing cX7_thing 5 (some .int))) B.pre
  have hown : s.vm.findClass RX7 = some m.cls := findClass_of_methodNamed B.named
  have hlocks := B.notSynchronized
  have hS : va_S (sy_A Z) s.heap s.heap [] := va_S.rf
  have hl := lv_entry ([.ref (ad 0), .int x0, .int x1, .int x2]) (n := 5) (Nat.le_of_ble_eq_true rfl)
  rw [lg_entry_eq]
  generalize (lg_sl ([.ref (ad 0), .int x0, .int x1, .int x2]) ++ List.replicate (5 - (lg_sl ([.ref (ad 0), .int x0, .int x1, .int x2])).length) Slot.unset).toArray = ls at hl ⊢
  have hl : lv_has ls 5 [(0, .ref (ad 0)), (1, .int x0), (2, .int x1), (3, .int x2)] := hl
  refine lv_iload_n hx hb dX7_thing_0 rfl (lv_at hl 2 rfl) ?_
  refine lv_iconst (v := 1) hx hb dX7_thing_1 (by decide) ?_
  refine lv_bipush (v := 50) hx hb dX7_thing_2 (by decide) ?_
  refine sy_ki (sy_rS (As := [.int x1, .int 1, .int 50]) (rest := []) ⟨hx, hb, hml, hown, hts⟩ hE hP hS (nX7_is l hfl Z nT nK cT cK ad g q x1 1 50) (va_cwS 3 hts (gu_S uk_5_101 uk_5_102 uk_1_9 uk_5_103) rfl rfl rfl (by decide +kernel) ⟨Nat.le_of_ble_eq_true rfl, Nat.le_of_ble_eq_true rfl⟩) rfl hl.1 rfl (Nat.le_of_ble_eq_true rfl) dX7_thing_4 ⟨Nat.le_of_ble_eq_true rfl, Nat.le_of_ble_eq_true rfl⟩) hS (fun r_e_1 g_e_1 q_e_1 H locs e_1 hP hS => ?_)
  cases e_1
  refine lv_if_eq (tgt := 26) hx hb dX7_thing_7 (by decide) (fun c_2 => ?_) (fun c_2 => ?_)
  · have c_2 := iB_0.mp c_2
    refine lv_iconst (v := 0) hx hb dX7_thing_26 (by decide) ?_
    refine lv_istore (lv' := [(4, .int 0), (0, .ref (ad 0)), (1, .int x0), (2, .int x1), (3, .int x2)]) hx hb dX7_thing_27 hl (by decide) rfl (fun ls hl => ?_)
    refine lv_aload_n hx hb dX7_thing_29 rfl (lv_at hl 1 rfl) ?_
    refine lv_iload_n hx hb dX7_thing_30 rfl (lv_at hl 2 rfl) ?_
    refine lv_iconst (v := 0) hx hb dX7_thing_31 (by decide) ?_
    refine lv_iconst (v := 3) hx hb dX7_thing_32 (by decide) ?_
    refine sy_ki (sy_rS (As := [.int x0, .int 0, .int 3]) (rest := [.ref (ad 0)]) ⟨hx, hb, hml, hown, hts⟩ hE hP hS (nX7_is l hfl Z nT nK cT cK ad g q x0 0 3) (va_cwS 3 hts (gu_S uk_5_101 uk_5_102 uk_1_9 uk_5_103) rfl rfl rfl (by decide +kernel) ⟨Nat.le_of_ble_eq_true rfl, Nat.le_of_ble_eq_true rfl⟩) rfl hl.1 rfl (Nat.le_of_ble_eq_true rfl) dX7_thing_33 ⟨Nat.le_of_ble_eq_true rfl, Nat.le_of_ble_eq_true rfl⟩) hS (fun r_e_3 g_e_3 q_e_3 H locs e_3 hP hS => ?_)
    cases e_3
    refine lv_if_ne (tgt := 43) hx hb dX7_thing_36 (by decide) (fun c_4 => ?_) (fun c_4 => ?_)
    · have c_4 := iB_n.mp c_4
      refine lv_iload hx hb dX7_thing_43 (lv_at hl 0 rfl) ?_
      refine lv_if_ne (tgt := 52) hx hb dX7_thing_45 (by decide) (fun c9 => absurd c9 (by decide)) (fun _ => ?_)
      refine lv_iconst (v := 2) hx hb dX7_thing_48 (by decide) ?_
      refine lv_goto (tgt := 66) hx hb dX7_thing_49 (by decide) ?_
      refine sy_ki (sy_rV (o := 0) (As := [.int 2]) (rest := []) ⟨hx, hb, hml, hown, hts⟩ hE hP hS (nX7_refused l hfl Z nT nK cT cK ad g q 2) (cwV 1 hts (gu_V uk_5_104 uk_5_106 uk_0_17 uk_1_9 uk_5_107) rfl rfl rfl (by decide +kernel) ⟨Nat.le_of_ble_eq_true rfl, Nat.le_of_ble_eq_true rfl⟩) (sy_recv (kc := 8) hE hP rfl (by decide) rfl rfl rfl) rfl hl.1 rfl (Nat.le_of_ble_eq_true rfl) dX7_thing_66 ⟨Nat.le_of_ble_eq_true rfl, Nat.le_of_ble_eq_true rfl⟩) hS (fun r_e_5 g_e_5 q_e_5 H locs e_5 hP hS => ?_)
      cases e_5
      refine sy_top (y := 1) (by rfl) ?_
      refine lv_if_eq (tgt := 74) hx hb dX7_thing_69 (by decide) (fun c9 => absurd c9 (by decide)) (fun _ => ?_)
      refine lv_iconst (v := 0) hx hb dX7_thing_72 (by decide) ?_
      exact (sy_ireti hx hb hr hlocks hE hP hS dX7_thing_73 ⟨Nat.le_of_ble_eq_true rfl, Nat.le_of_ble_eq_true rfl⟩ (by unfold fX7_thing; rw [if_neg c_2, if_pos c_4] <;> rfl))
    · have c_4 := iB_0.mp c_4
      refine lv_iconst (v := 1) hx hb dX7_thing_39 (by decide) ?_
      refine lv_goto (tgt := 66) hx hb dX7_thing_40 (by decide) ?_
      refine sy_ki (sy_rV (o := 0) (As := [.int 1]) (rest := []) ⟨hx, hb, hml, hown, hts⟩ hE hP hS (nX7_refused l hfl Z nT nK cT cK ad g q 1) (cwV 1 hts (gu_V uk_5_104 uk_5_106 uk_0_17 uk_1_9 uk_5_107) rfl rfl rfl (by decide +kernel) ⟨Nat.le_of_ble_eq_true rfl, Nat.le_of_ble_eq_true rfl⟩) (sy_recv (kc := 8) hE hP rfl (by decide) rfl rfl rfl) rfl hl.1 rfl (Nat.le_of_ble_eq_true rfl) dX7_thing_66 ⟨Nat.le_of_ble_eq_true rfl, Nat.le_of_ble_eq_true rfl⟩) hS (fun r_e_6 g_e_6 q_e_6 H locs e_6 hP hS => ?_)
      cases e_6
      refine sy_top (y := 1) (by rfl) ?_
      refine lv_if_eq (tgt := 74) hx hb dX7_thing_69 (by decide) (fun c9 => absurd c9 (by decide)) (fun _ => ?_)
      refine lv_iconst (v := 0) hx hb dX7_thing_72 (by decide) ?_
      exact (sy_ireti hx hb hr hlocks hE hP hS dX7_thing_73 ⟨Nat.le_of_ble_eq_true rfl, Nat.le_of_ble_eq_true rfl⟩ (by unfold fX7_thing; rw [if_neg c_2, if_neg c_4] <;> rfl))
  · have c_2 := iB_n.mp c_2
    refine lv_iload_n hx hb dX7_thing_10 rfl (lv_at hl 3 rfl) ?_
    refine lv_bipush (v := 10) hx hb dX7_thing_11 (by decide) ?_
    refine lv_sipush (v := 10000) hx hb dX7_thing_13 (by decide) ?_
    refine sy_ki (sy_rS (As := [.int x2, .int 10, .int 10000]) (rest := []) ⟨hx, hb, hml, hown, hts⟩ hE hP hS (nX7_is l hfl Z nT nK cT cK ad g q x2 10 10000) (va_cwS 3 hts (gu_S uk_5_101 uk_5_102 uk_1_9 uk_5_103) rfl rfl rfl (by decide +kernel) ⟨Nat.le_of_ble_eq_true rfl, Nat.le_of_ble_eq_true rfl⟩) rfl hl.1 rfl (Nat.le_of_ble_eq_true rfl) dX7_thing_16 ⟨Nat.le_of_ble_eq_true rfl, Nat.le_of_ble_eq_true rfl⟩) hS (fun r_e_7 g_e_7 q_e_7 H locs e_7 hP hS => ?_)
    cases e_7
    refine lv_if_eq (tgt := 26) hx hb dX7_thing_19 (by decide) (fun c_8 => ?_) (fun c_8 => ?_)
    · have c_8 := iB_0.mp c_8
      refine lv_iconst (v := 0) hx hb dX7_thing_26 (by decide) ?_
      refine lv_istore (lv' := [(4, .int 0), (0, .ref (ad 0)), (1, .int x0), (2, .int x1), (3, .int x2)]) hx hb dX7_thing_27 hl (by decide) rfl (fun ls hl => ?_)
      refine lv_aload_n hx hb dX7_thing_29 rfl (lv_at hl 1 rfl) ?_
      refine lv_iload_n hx hb dX7_thing_30 rfl (lv_at hl 2 rfl) ?_
      refine lv_iconst (v := 0) hx hb dX7_thing_31 (by decide) ?_
      refine lv_iconst (v := 3) hx hb dX7_thing_32 (by decide) ?_
      refine sy_ki (sy_rS (As := [.int x0, .int 0, .int 3]) (rest := [.ref (ad 0)]) ⟨hx, hb, hml, hown, hts⟩ hE hP hS (nX7_is l hfl Z nT nK cT cK ad g q x0 0 3) (va_cwS 3 hts (gu_S uk_5_101 uk_5_102 uk_1_9 uk_5_103) rfl rfl rfl (by decide +kernel) ⟨Nat.le_of_ble_eq_true rfl, Nat.le_of_ble_eq_true rfl⟩) rfl hl.1 rfl (Nat.le_of_ble_eq_true rfl) dX7_thing_33 ⟨Nat.le_of_ble_eq_true rfl, Nat.le_of_ble_eq_true rfl⟩) hS (fun r_e_9 g_e_9 q_e_9 H locs e_9 hP hS => ?_)
      cases e_9
      refine lv_if_ne (tgt := 43) hx hb dX7_thing_36 (by decide) (fun c_10 => ?_) (fun c_10 => ?_)
      · have c_10 := iB_n.mp c_10
        refine lv_iload hx hb dX7_thing_43 (lv_at hl 0 rfl) ?_
        refine lv_if_ne (tgt := 52) hx hb dX7_thing_45 (by decide) (fun c9 => absurd c9 (by decide)) (fun _ => ?_)
        refine lv_iconst (v := 2) hx hb dX7_thing_48 (by decide) ?_
        refine lv_goto (tgt := 66) hx hb dX7_thing_49 (by decide) ?_
        refine sy_ki (sy_rV (o := 0) (As := [.int 2]) (rest := []) ⟨hx, hb, hml, hown, hts⟩ hE hP hS (nX7_refused l hfl Z nT nK cT cK ad g q 2) (cwV 1 hts (gu_V uk_5_104 uk_5_106 uk_0_17 uk_1_9 uk_5_107) rfl rfl rfl (by decide +kernel) ⟨Nat.le_of_ble_eq_true rfl, Nat.le_of_ble_eq_true rfl⟩) (sy_recv (kc := 8) hE hP rfl (by decide) rfl rfl rfl) rfl hl.1 rfl (Nat.le_of_ble_eq_true rfl) dX7_thing_66 ⟨Nat.le_of_ble_eq_true rfl, Nat.le_of_ble_eq_true rfl⟩) hS (fun r_e_11 g_e_11 q_e_11 H locs e_11 hP hS => ?_)
        cases e_11
        refine sy_top (y := 1) (by rfl) ?_
        refine lv_if_eq (tgt := 74) hx hb dX7_thing_69 (by decide) (fun c9 => absurd c9 (by decide)) (fun _ => ?_)
        refine lv_iconst (v := 0) hx hb dX7_thing_72 (by decide) ?_
        exact (sy_ireti hx hb hr hlocks hE hP hS dX7_thing_73 ⟨Nat.le_of_ble_eq_true rfl, Nat.le_of_ble_eq_true rfl⟩ (by unfold fX7_thing; rw [if_pos c_2, if_neg c_8, if_pos c_10] <;> rfl))
      · have c_10 := iB_0.mp c_10
        refine lv_iconst (v := 1) hx hb dX7_thing_39 (by decide) ?_
        refine lv_goto (tgt := 66) hx hb dX7_thing_40 (by decide) ?_
        refine sy_ki (sy_rV (o := 0) (As := [.int 1]) (rest := []) ⟨hx, hb, hml, hown, hts⟩ hE hP hS (nX7_refused l hfl Z nT nK cT cK ad g q 1) (cwV 1 hts (gu_V uk_5_104 uk_5_106 uk_0_17 uk_1_9 uk_5_107) rfl rfl rfl (by decide +kernel) ⟨Nat.le_of_ble_eq_true rfl, Nat.le_of_ble_eq_true rfl⟩) (sy_recv (kc := 8) hE hP rfl (by decide) rfl rfl rfl) rfl hl.1 rfl (Nat.le_of_ble_eq_true rfl) dX7_thing_66 ⟨Nat.le_of_ble_eq_true rfl, Nat.le_of_ble_eq_true rfl⟩) hS (fun r_e_12 g_e_12 q_e_12 H locs e_12 hP hS => ?_)
        cases e_12
        refine sy_top (y := 1) (by rfl) ?_
        refine lv_if_eq (tgt := 74) hx hb dX7_thing_69 (by decide) (fun c9 => absurd c9 (by decide)) (fun _ => ?_)
        refine lv_iconst (v := 0) hx hb dX7_thing_72 (by decide) ?_
        exact (sy_ireti hx hb hr hlocks hE hP hS dX7_thing_73 ⟨Nat.le_of_ble_eq_true rfl, Nat.le_of_ble_eq_true rfl⟩ (by unfold fX7_thing; rw [if_pos c_2, if_neg c_8, if_neg c_10] <;> rfl))
    · have c_8 := iB_n.mp c_8
      refine lv_iconst (v := 1) hx hb dX7_thing_22 (by decide) ?_
      refine lv_goto (tgt := 27) hx hb dX7_thing_23 (by decide) ?_
      refine lv_istore (lv' := [(4, .int 1), (0, .ref (ad 0)), (1, .int x0), (2, .int x1), (3, .int x2)]) hx hb dX7_thing_27 hl (by decide) rfl (fun ls hl => ?_)
      refine lv_aload_n hx hb dX7_thing_29 rfl (lv_at hl 1 rfl) ?_
      refine lv_iload_n hx hb dX7_thing_30 rfl (lv_at hl 2 rfl) ?_
      refine lv_iconst (v := 0) hx hb dX7_thing_31 (by decide) ?_
      refine lv_iconst (v := 3) hx hb dX7_thing_32 (by decide) ?_
      refine sy_ki (sy_rS (As := [.int x0, .int 0, .int 3]) (rest := [.ref (ad 0)]) ⟨hx, hb, hml, hown, hts⟩ hE hP hS (nX7_is l hfl Z nT nK cT cK ad g q x0 0 3) (va_cwS 3 hts (gu_S uk_5_101 uk_5_102 uk_1_9 uk_5_103) rfl rfl rfl (by decide +kernel) ⟨Nat.le_of_ble_eq_true rfl, Nat.le_of_ble_eq_true rfl⟩) rfl hl.1 rfl (Nat.le_of_ble_eq_true rfl) dX7_thing_33 ⟨Nat.le_of_ble_eq_true rfl, Nat.le_of_ble_eq_true rfl⟩) hS (fun r_e_13 g_e_13 q_e_13 H locs e_13 hP hS => ?_)
      cases e_13
      refine lv_if_ne (tgt := 43) hx hb dX7_thing_36 (by decide) (fun c_14 => ?_) (fun c_14 => ?_)
      · have c_14 := iB_n.mp c_14
        refine lv_iload hx hb dX7_thing_43 (lv_at hl 0 rfl) ?_
        refine lv_if_ne (tgt := 52) hx hb dX7_thing_45 (by decide) (fun _ => ?_) (fun c9 => absurd c9 (by decide))
        refine lv_aload_n hx hb dX7_thing_52 rfl (lv_at hl 1 rfl) ?_
        refine sy_getRX7 hx hb hts hown hE hP 0 rfl 2 (by decide) (hts _ (u_in uk_4_192)) (v := .int (g 0 2)) rfl dX7_thing_53 ?_
        refine lv_bipush (v := 40) hx hb dX7_thing_56 (by decide) ?_
        refine lv_icmp_ne (tgt := 65) hx hb dX7_thing_58 (by decide) (fun c_15 => ?_) (fun c_15 => ?_)
        · skip
          refine lv_iconst (v := 0) hx hb dX7_thing_65 (by decide) ?_
          refine sy_ki (sy_rV (o := 0) (As := [.int 0]) (rest := []) ⟨hx, hb, hml, hown, hts⟩ hE hP hS (nX7_refused l hfl Z nT nK cT cK ad g q 0) (cwV 1 hts (gu_V uk_5_104 uk_5_106 uk_0_17 uk_1_9 uk_5_107) rfl rfl rfl (by decide +kernel) ⟨Nat.le_of_ble_eq_true rfl, Nat.le_of_ble_eq_true rfl⟩) (sy_recv (kc := 8) hE hP rfl (by decide) rfl rfl rfl) rfl hl.1 rfl (Nat.le_of_ble_eq_true rfl) dX7_thing_66 ⟨Nat.le_of_ble_eq_true rfl, Nat.le_of_ble_eq_true rfl⟩) hS (fun r_e_16 g_e_16 q_e_16 H locs e_16 hP hS => ?_)
          cases e_16
          refine sy_top (y := 0) (by rfl) ?_
          refine lv_if_eq (tgt := 74) hx hb dX7_thing_69 (by decide) (fun _ => ?_) (fun c9 => absurd c9 (by decide))
          refine lv_aload_n hx hb dX7_thing_74 rfl (lv_at hl 1 rfl) ?_
          refine sy_getRX7 hx hb hts hown hE hP 0 rfl 3 (by decide) (hts _ (u_in uk_4_193)) (v := .ref (ad 4)) rfl dX7_thing_75 ?_
          refine lv_aload_n hx hb dX7_thing_78 rfl (lv_at hl 1 rfl) ?_
          refine sy_getRX7 hx hb hts hown hE hP 0 rfl 2 (by decide) (hts _ (u_in uk_4_192)) (v := .int (g 0 2)) rfl dX7_thing_79 ?_
          refine lv_iload_n hx hb dX7_thing_82 rfl (lv_at hl 2 rfl) ?_
          refine sy_iastN hx hb hE hP hS 4 rfl (show vp_in (g 0 2) 40 from (vp_in_full hI.1 hI.2.1 (by decide) c_15)) ((g 0 2).toNatClampNeg) rfl dX7_thing_83 (fun H locs hP hS => ?_)
          refine lv_aload_n hx hb dX7_thing_84 rfl (lv_at hl 1 rfl) ?_
          refine sy_getRX7 hx hb hts hown hE hP 0 rfl 4 (by decide) (hts _ (u_in uk_4_194)) (v := .ref (ad 5)) rfl dX7_thing_85 ?_
          refine lv_aload_n hx hb dX7_thing_88 rfl (lv_at hl 1 rfl) ?_
          refine sy_getRX7 hx hb hts hown hE hP 0 rfl 2 (by decide) (hts _ (u_in uk_4_192)) (v := .int (g 0 2)) rfl dX7_thing_89 ?_
          refine lv_iload_n hx hb dX7_thing_92 rfl (lv_at hl 3 rfl) ?_
          refine sy_iastN hx hb hE hP hS 5 rfl (show vp_in (g 0 2) 40 from (vp_in_full hI.1 hI.2.1 (by decide) c_15)) ((g 0 2).toNatClampNeg) rfl dX7_thing_93 (fun H locs hP hS => ?_)
          refine lv_aload_n hx hb dX7_thing_94 rfl (lv_at hl 1 rfl) ?_
          refine sy_getRX7 hx hb hts hown hE hP 0 rfl 5 (by decide) (hts _ (u_in uk_4_195)) (v := .ref (ad 6)) rfl dX7_thing_95 ?_
          refine lv_aload_n hx hb dX7_thing_98 rfl (lv_at hl 1 rfl) ?_
          refine sy_getRX7 hx hb hts hown hE hP 0 rfl 2 (by decide) (hts _ (u_in uk_4_192)) (v := .int (g 0 2)) rfl dX7_thing_99 ?_
          refine lv_iload_n hx hb dX7_thing_102 rfl (lv_at hl 4 rfl) ?_
          refine sy_iastN hx hb hE hP hS 6 rfl (show vp_in (g 0 2) 40 from (vp_in_full hI.1 hI.2.1 (by decide) c_15)) ((g 0 2).toNatClampNeg) rfl dX7_thing_103 (fun H locs hP hS => ?_)
          refine lv_aload_n hx hb dX7_thing_104 rfl (lv_at hl 1 rfl) ?_
          refine lv_dup hx hb dX7_thing_105 rfl ?_
          refine sy_getRX7 hx hb hts hown hE hP 0 rfl 2 (by decide) (hts _ (u_in uk_4_192)) (v := .int (g 0 2)) rfl dX7_thing_106 ?_
          refine lv_iconst (v := 1) hx hb dX7_thing_109 (by decide) ?_
          refine lv_iadd hx hb dX7_thing_110 ?_
          refine sy_putRX7 hx hb hts hown hE hP hS 0 rfl 2 (by decide) (hts _ (u_in uk_4_192)) rfl (ty := .int) (by decide +kernel) rfl rfl (sy_up (sy_up (sy_up (sy_up (sy_up g 0 0 0) 4 ((g 0 2).toNatClampNeg) x0) 5 ((g 0 2).toNatClampNeg) x1) 6 ((g 0 2).toNatClampNeg) x2) 0 2 ((g 0 2) + 1)) q (by rw [sy_up_s]; exact se_RX7_2 _ _ _ _ _ _ _) (fun _ h9 => sy_up_o _ _ _ h9) (fun _ _ => rfl) dX7_thing_111 (fun H locs hP hS => ?_)
          refine lv_aload_n hx hb dX7_thing_114 rfl (lv_at hl 1 rfl) ?_
          refine sy_getRX7 hx hb hts hown hE hP 0 rfl 2 (by decide) (hts _ (u_in uk_4_192)) (v := .int ((g 0 2) + 1)) rfl dX7_thing_115 ?_
          refine lv_iconst (v := 1) hx hb dX7_thing_118 (by decide) ?_
          refine lv_isub hx hb dX7_thing_119 ?_
          exact (sy_ireti hx hb hr hlocks hE hP hS dX7_thing_120 ⟨Nat.le_of_ble_eq_true rfl, Nat.le_of_ble_eq_true rfl⟩ (by unfold fX7_thing; rw [if_pos c_2, if_pos c_8, if_pos c_14, if_neg c_15] <;> rfl))
        · skip
          refine lv_iconst (v := 3) hx hb dX7_thing_61 (by decide) ?_
          refine lv_goto (tgt := 66) hx hb dX7_thing_62 (by decide) ?_
          refine sy_ki (sy_rV (o := 0) (As := [.int 3]) (rest := []) ⟨hx, hb, hml, hown, hts⟩ hE hP hS (nX7_refused l hfl Z nT nK cT cK ad g q 3) (cwV 1 hts (gu_V uk_5_104 uk_5_106 uk_0_17 uk_1_9 uk_5_107) rfl rfl rfl (by decide +kernel) ⟨Nat.le_of_ble_eq_true rfl, Nat.le_of_ble_eq_true rfl⟩) (sy_recv (kc := 8) hE hP rfl (by decide) rfl rfl rfl) rfl hl.1 rfl (Nat.le_of_ble_eq_true rfl) dX7_thing_66 ⟨Nat.le_of_ble_eq_true rfl, Nat.le_of_ble_eq_true rfl⟩) hS (fun r_e_17 g_e_17 q_e_17 H locs e_17 hP hS => ?_)
          cases e_17
          refine sy_top (y := 1) (by rfl) ?_
          refine lv_if_eq (tgt := 74) hx hb dX7_thing_69 (by decide) (fun c9 => absurd c9 (by decide)) (fun _ => ?_)
          refine lv_iconst (v := 0) hx hb dX7_thing_72 (by decide) ?_
          exact (sy_ireti hx hb hr hlocks hE hP hS dX7_thing_73 ⟨Nat.le_of_ble_eq_true rfl, Nat.le_of_ble_eq_true rfl⟩ (by unfold fX7_thing; rw [if_pos c_2, if_pos c_8, if_pos c_14, if_pos c_15] <;> rfl))
      · have c_14 := iB_0.mp c_14
        refine lv_iconst (v := 1) hx hb dX7_thing_39 (by decide) ?_
        refine lv_goto (tgt := 66) hx hb dX7_thing_40 (by decide) ?_
        refine sy_ki (sy_rV (o := 0) (As := [.int 1]) (rest := []) ⟨hx, hb, hml, hown, hts⟩ hE hP hS (nX7_refused l hfl Z nT nK cT cK ad g q 1) (cwV 1 hts (gu_V uk_5_104 uk_5_106 uk_0_17 uk_1_9 uk_5_107) rfl rfl rfl (by decide +kernel) ⟨Nat.le_of_ble_eq_true rfl, Nat.le_of_ble_eq_true rfl⟩) (sy_recv (kc := 8) hE hP rfl (by decide) rfl rfl rfl) rfl hl.1 rfl (Nat.le_of_ble_eq_true rfl) dX7_thing_66 ⟨Nat.le_of_ble_eq_true rfl, Nat.le_of_ble_eq_true rfl⟩) hS (fun r_e_18 g_e_18 q_e_18 H locs e_18 hP hS => ?_)
        cases e_18
        refine sy_top (y := 1) (by rfl) ?_
        refine lv_if_eq (tgt := 74) hx hb dX7_thing_69 (by decide) (fun c9 => absurd c9 (by decide)) (fun _ => ?_)
        refine lv_iconst (v := 0) hx hb dX7_thing_72 (by decide) ?_
        exact (sy_ireti hx hb hr hlocks hE hP hS dX7_thing_73 ⟨Nat.le_of_ble_eq_true rfl, Nat.le_of_ble_eq_true rfl⟩ (by unfold fX7_thing; rw [if_pos c_2, if_pos c_8, if_neg c_14] <;> rfl))
def fX7_amnesty (g : sG) (q : sQ) (x0 x1 : Int32) : Int32 × sG := (if 0 ≤ x0 ∧ x0 ≤ 5000 then (if x0 ≤ x1 ∧ x1 ≤ 5000 then (if (g 0 24) = 10 then (0, (sy_up g 0 0 2)) else (((g 0 24) + 1), (sy_up (sy_up (sy_up (sy_up g 0 0 0) 26 ((g 0 24).toNatClampNeg) x0) 27 ((g 0 24).toNatClampNeg) x1) 0 24 ((g 0 24) + 1)))) else (0, (sy_up g 0 0 1))) else (0, (sy_up g 0 0 1)))
set_option maxHeartbeats 4000000 in
set_option maxRecDepth 100000 in
theorem mX7_amnesty (l : Launch) (hfl : l.stackTraces = false) (Z : sZ) (nT nK cT cK : Nat) (ad : Nat → Nat) (g : sG) (q : sQ) (x0 x1 : Int32) {mT mK : Nat} (hI : IM mT mK g) : sMi l Z yX7_amnesty (uW (.code yX7_amnesty cX7_amnesty 4 (some .int))) { frames := 1, cells := 0, slots := 0, locals := 22 } [.ref (ad 0), .int x0, .int x1] nT nK cT cK ad g q (fun r g1 q1 => (r, g1, q1) = ((fX7_amnesty g q x0 x1).1, (fX7_amnesty g q x0 x1).2, q)) := by
  refine Met.ofW (cc := cX7_amnesty) (maxL := 4) (ret := (some .int)) (by decide) rfl ?_
  intro p e s m args below meth c s₁ B hml hv
  obtain ⟨rfl, hE, hP⟩ := hv
  have hx := B.exec
  have hb := B.bytes
  have hr := B.returns
  have hts := atoms_spec (ws := uW (.code yX7_amnesty cX7_amnesty 4 (some .int))) B.pre
  have hown : s.vm.findClass RX7 = some m.cls := findClass_of_methodNamed B.named
  have hlocks := B.notSynchronized
  have hS : va_S (sy_A Z) s.heap s.heap [] := va_S.rf
  have hl := lv_entry ([.ref (ad 0), .int x0, .int x1]) (n := 4) (Nat.le_of_ble_eq_true rfl)
  rw [lg_entry_eq]
  generalize (lg_sl ([.ref (ad 0), .int x0, .int x1]) ++ List.replicate (4 - (lg_sl ([.ref (ad 0), .int x0, .int x1])).length) Slot.unset).toArray = ls at hl ⊢
  have hl : lv_has ls 4 [(0, .ref (ad 0)), (1, .int x0), (2, .int x1)] := hl
  refine lv_iload_n hx hb dX7_amnesty_0 rfl (lv_at hl 1 rfl) ?_
  refine lv_iconst (v := 0) hx hb dX7_amnesty_1 (by decide) ?_
  refine lv_sipush (v := 5000) hx hb dX7_amnesty_2 (by decide) ?_
  refine sy_ki (sy_rS (As := [.int x0, .int 0, .int 5000]) (rest := []) ⟨hx, hb, hml, hown, hts⟩ hE hP hS (nX7_is l hfl Z nT nK cT cK ad g q x0 0 5000) (va_cwS 3 hts (gu_S uk_5_101 uk_5_102 uk_1_9 uk_5_103) rfl rfl rfl (by decide +kernel) ⟨Nat.le_of_ble_eq_true rfl, Nat.le_of_ble_eq_true rfl⟩) rfl hl.1 rfl (Nat.le_of_ble_eq_true rfl) dX7_amnesty_5 ⟨Nat.le_of_ble_eq_true rfl, Nat.le_of_ble_eq_true rfl⟩) hS (fun r_e_1 g_e_1 q_e_1 H locs e_1 hP hS => ?_)
  cases e_1
  refine lv_if_eq (tgt := 26) hx hb dX7_amnesty_8 (by decide) (fun c_2 => ?_) (fun c_2 => ?_)
  · have c_2 := iB_0.mp c_2
    refine lv_iconst (v := 0) hx hb dX7_amnesty_26 (by decide) ?_
    refine lv_istore_n (lv' := [(3, .int 0), (0, .ref (ad 0)), (1, .int x0), (2, .int x1)]) hx hb dX7_amnesty_27 rfl hl (by decide) rfl (fun ls hl => ?_)
    refine lv_aload_n hx hb dX7_amnesty_28 rfl (lv_at hl 1 rfl) ?_
    refine lv_iload_n hx hb dX7_amnesty_29 rfl (lv_at hl 0 rfl) ?_
    refine lv_if_ne (tgt := 37) hx hb dX7_amnesty_30 (by decide) (fun c9 => absurd c9 (by decide)) (fun _ => ?_)
    refine lv_iconst (v := 1) hx hb dX7_amnesty_33 (by decide) ?_
    refine lv_goto (tgt := 51) hx hb dX7_amnesty_34 (by decide) ?_
    refine sy_ki (sy_rV (o := 0) (As := [.int 1]) (rest := []) ⟨hx, hb, hml, hown, hts⟩ hE hP hS (nX7_refused l hfl Z nT nK cT cK ad g q 1) (cwV 1 hts (gu_V uk_5_104 uk_5_106 uk_0_17 uk_1_9 uk_5_107) rfl rfl rfl (by decide +kernel) ⟨Nat.le_of_ble_eq_true rfl, Nat.le_of_ble_eq_true rfl⟩) (sy_recv (kc := 8) hE hP rfl (by decide) rfl rfl rfl) rfl hl.1 rfl (Nat.le_of_ble_eq_true rfl) dX7_amnesty_51 ⟨Nat.le_of_ble_eq_true rfl, Nat.le_of_ble_eq_true rfl⟩) hS (fun r_e_3 g_e_3 q_e_3 H locs e_3 hP hS => ?_)
    cases e_3
    refine sy_top (y := 1) (by rfl) ?_
    refine lv_if_eq (tgt := 59) hx hb dX7_amnesty_54 (by decide) (fun c9 => absurd c9 (by decide)) (fun _ => ?_)
    refine lv_iconst (v := 0) hx hb dX7_amnesty_57 (by decide) ?_
    exact (sy_ireti hx hb hr hlocks hE hP hS dX7_amnesty_58 ⟨Nat.le_of_ble_eq_true rfl, Nat.le_of_ble_eq_true rfl⟩ (by unfold fX7_amnesty; rw [if_neg c_2] <;> rfl))
  · have c_2 := iB_n.mp c_2
    refine lv_iload_n hx hb dX7_amnesty_11 rfl (lv_at hl 2 rfl) ?_
    refine lv_iload_n hx hb dX7_amnesty_12 rfl (lv_at hl 1 rfl) ?_
    refine lv_sipush (v := 5000) hx hb dX7_amnesty_13 (by decide) ?_
    refine sy_ki (sy_rS (As := [.int x1, .int x0, .int 5000]) (rest := []) ⟨hx, hb, hml, hown, hts⟩ hE hP hS (nX7_is l hfl Z nT nK cT cK ad g q x1 x0 5000) (va_cwS 3 hts (gu_S uk_5_101 uk_5_102 uk_1_9 uk_5_103) rfl rfl rfl (by decide +kernel) ⟨Nat.le_of_ble_eq_true rfl, Nat.le_of_ble_eq_true rfl⟩) rfl hl.1 rfl (Nat.le_of_ble_eq_true rfl) dX7_amnesty_16 ⟨Nat.le_of_ble_eq_true rfl, Nat.le_of_ble_eq_true rfl⟩) hS (fun r_e_4 g_e_4 q_e_4 H locs e_4 hP hS => ?_)
    cases e_4
    refine lv_if_eq (tgt := 26) hx hb dX7_amnesty_19 (by decide) (fun c_5 => ?_) (fun c_5 => ?_)
    · have c_5 := iB_0.mp c_5
      refine lv_iconst (v := 0) hx hb dX7_amnesty_26 (by decide) ?_
      refine lv_istore_n (lv' := [(3, .int 0), (0, .ref (ad 0)), (1, .int x0), (2, .int x1)]) hx hb dX7_amnesty_27 rfl hl (by decide) rfl (fun ls hl => ?_)
      refine lv_aload_n hx hb dX7_amnesty_28 rfl (lv_at hl 1 rfl) ?_
      refine lv_iload_n hx hb dX7_amnesty_29 rfl (lv_at hl 0 rfl) ?_
      refine lv_if_ne (tgt := 37) hx hb dX7_amnesty_30 (by decide) (fun c9 => absurd c9 (by decide)) (fun _ => ?_)
      refine lv_iconst (v := 1) hx hb dX7_amnesty_33 (by decide) ?_
      refine lv_goto (tgt := 51) hx hb dX7_amnesty_34 (by decide) ?_
      refine sy_ki (sy_rV (o := 0) (As := [.int 1]) (rest := []) ⟨hx, hb, hml, hown, hts⟩ hE hP hS (nX7_refused l hfl Z nT nK cT cK ad g q 1) (cwV 1 hts (gu_V uk_5_104 uk_5_106 uk_0_17 uk_1_9 uk_5_107) rfl rfl rfl (by decide +kernel) ⟨Nat.le_of_ble_eq_true rfl, Nat.le_of_ble_eq_true rfl⟩) (sy_recv (kc := 8) hE hP rfl (by decide) rfl rfl rfl) rfl hl.1 rfl (Nat.le_of_ble_eq_true rfl) dX7_amnesty_51 ⟨Nat.le_of_ble_eq_true rfl, Nat.le_of_ble_eq_true rfl⟩) hS (fun r_e_6 g_e_6 q_e_6 H locs e_6 hP hS => ?_)
      cases e_6
      refine sy_top (y := 1) (by rfl) ?_
      refine lv_if_eq (tgt := 59) hx hb dX7_amnesty_54 (by decide) (fun c9 => absurd c9 (by decide)) (fun _ => ?_)
      refine lv_iconst (v := 0) hx hb dX7_amnesty_57 (by decide) ?_
      exact (sy_ireti hx hb hr hlocks hE hP hS dX7_amnesty_58 ⟨Nat.le_of_ble_eq_true rfl, Nat.le_of_ble_eq_true rfl⟩ (by unfold fX7_amnesty; rw [if_pos c_2, if_neg c_5] <;> rfl))
    · have c_5 := iB_n.mp c_5
      refine lv_iconst (v := 1) hx hb dX7_amnesty_22 (by decide) ?_
      refine lv_goto (tgt := 27) hx hb dX7_amnesty_23 (by decide) ?_
      refine lv_istore_n (lv' := [(3, .int 1), (0, .ref (ad 0)), (1, .int x0), (2, .int x1)]) hx hb dX7_amnesty_27 rfl hl (by decide) rfl (fun ls hl => ?_)
      refine lv_aload_n hx hb dX7_amnesty_28 rfl (lv_at hl 1 rfl) ?_
      refine lv_iload_n hx hb dX7_amnesty_29 rfl (lv_at hl 0 rfl) ?_
      refine lv_if_ne (tgt := 37) hx hb dX7_amnesty_30 (by decide) (fun _ => ?_) (fun c9 => absurd c9 (by decide))
      refine lv_aload_n hx hb dX7_amnesty_37 rfl (lv_at hl 1 rfl) ?_
      refine sy_getRX7 hx hb hts hown hE hP 0 rfl 24 (by decide) (hts _ (u_in uk_4_214)) (v := .int (g 0 24)) rfl dX7_amnesty_38 ?_
      refine lv_bipush (v := 10) hx hb dX7_amnesty_41 (by decide) ?_
      refine lv_icmp_ne (tgt := 50) hx hb dX7_amnesty_43 (by decide) (fun c_7 => ?_) (fun c_7 => ?_)
      · skip
        refine lv_iconst (v := 0) hx hb dX7_amnesty_50 (by decide) ?_
        refine sy_ki (sy_rV (o := 0) (As := [.int 0]) (rest := []) ⟨hx, hb, hml, hown, hts⟩ hE hP hS (nX7_refused l hfl Z nT nK cT cK ad g q 0) (cwV 1 hts (gu_V uk_5_104 uk_5_106 uk_0_17 uk_1_9 uk_5_107) rfl rfl rfl (by decide +kernel) ⟨Nat.le_of_ble_eq_true rfl, Nat.le_of_ble_eq_true rfl⟩) (sy_recv (kc := 8) hE hP rfl (by decide) rfl rfl rfl) rfl hl.1 rfl (Nat.le_of_ble_eq_true rfl) dX7_amnesty_51 ⟨Nat.le_of_ble_eq_true rfl, Nat.le_of_ble_eq_true rfl⟩) hS (fun r_e_8 g_e_8 q_e_8 H locs e_8 hP hS => ?_)
        cases e_8
        refine sy_top (y := 0) (by rfl) ?_
        refine lv_if_eq (tgt := 59) hx hb dX7_amnesty_54 (by decide) (fun _ => ?_) (fun c9 => absurd c9 (by decide))
        refine lv_aload_n hx hb dX7_amnesty_59 rfl (lv_at hl 1 rfl) ?_
        refine sy_getRX7 hx hb hts hown hE hP 0 rfl 25 (by decide) (hts _ (u_in uk_4_215)) (v := .ref (ad 26)) rfl dX7_amnesty_60 ?_
        refine lv_aload_n hx hb dX7_amnesty_63 rfl (lv_at hl 1 rfl) ?_
        refine sy_getRX7 hx hb hts hown hE hP 0 rfl 24 (by decide) (hts _ (u_in uk_4_214)) (v := .int (g 0 24)) rfl dX7_amnesty_64 ?_
        refine lv_iload_n hx hb dX7_amnesty_67 rfl (lv_at hl 2 rfl) ?_
        refine sy_iastN hx hb hE hP hS 26 rfl (show vp_in (g 0 24) 10 from (by obtain ⟨a9, h9, h8⟩ := hI.2.2.2.2.2.1; exact vp_in_full h8 h9 (by decide) c_7)) ((g 0 24).toNatClampNeg) rfl dX7_amnesty_68 (fun H locs hP hS => ?_)
        refine lv_aload_n hx hb dX7_amnesty_69 rfl (lv_at hl 1 rfl) ?_
        refine sy_getRX7 hx hb hts hown hE hP 0 rfl 26 (by decide) (hts _ (u_in uk_4_216)) (v := .ref (ad 27)) rfl dX7_amnesty_70 ?_
        refine lv_aload_n hx hb dX7_amnesty_73 rfl (lv_at hl 1 rfl) ?_
        refine sy_getRX7 hx hb hts hown hE hP 0 rfl 24 (by decide) (hts _ (u_in uk_4_214)) (v := .int (g 0 24)) rfl dX7_amnesty_74 ?_
        refine lv_iload_n hx hb dX7_amnesty_77 rfl (lv_at hl 3 rfl) ?_
        refine sy_iastN hx hb hE hP hS 27 rfl (show vp_in (g 0 24) 10 from (by obtain ⟨a9, h9, h8⟩ := hI.2.2.2.2.2.1; exact vp_in_full h8 h9 (by decide) c_7)) ((g 0 24).toNatClampNeg) rfl dX7_amnesty_78 (fun H locs hP hS => ?_)
        refine lv_aload_n hx hb dX7_amnesty_79 rfl (lv_at hl 1 rfl) ?_
        refine lv_dup hx hb dX7_amnesty_80 rfl ?_
        refine sy_getRX7 hx hb hts hown hE hP 0 rfl 24 (by decide) (hts _ (u_in uk_4_214)) (v := .int (g 0 24)) rfl dX7_amnesty_81 ?_
        refine lv_iconst (v := 1) hx hb dX7_amnesty_84 (by decide) ?_
        refine lv_iadd hx hb dX7_amnesty_85 ?_
        refine sy_putRX7 hx hb hts hown hE hP hS 0 rfl 24 (by decide) (hts _ (u_in uk_4_214)) rfl (ty := .int) (by decide +kernel) rfl rfl (sy_up (sy_up (sy_up (sy_up g 0 0 0) 26 ((g 0 24).toNatClampNeg) x0) 27 ((g 0 24).toNatClampNeg) x1) 0 24 ((g 0 24) + 1)) q (by rw [sy_up_s]; exact se_RX7_24 _ _ _ _ _ _ _) (fun _ h9 => sy_up_o _ _ _ h9) (fun _ _ => rfl) dX7_amnesty_86 (fun H locs hP hS => ?_)
        refine lv_aload_n hx hb dX7_amnesty_89 rfl (lv_at hl 1 rfl) ?_
        refine sy_getRX7 hx hb hts hown hE hP 0 rfl 24 (by decide) (hts _ (u_in uk_4_214)) (v := .int ((g 0 24) + 1)) rfl dX7_amnesty_90 ?_
        exact (sy_ireti hx hb hr hlocks hE hP hS dX7_amnesty_93 ⟨Nat.le_of_ble_eq_true rfl, Nat.le_of_ble_eq_true rfl⟩ (by unfold fX7_amnesty; rw [if_pos c_2, if_pos c_5, if_neg c_7] <;> rfl))
      · skip
        refine lv_iconst (v := 2) hx hb dX7_amnesty_46 (by decide) ?_
        refine lv_goto (tgt := 51) hx hb dX7_amnesty_47 (by decide) ?_
        refine sy_ki (sy_rV (o := 0) (As := [.int 2]) (rest := []) ⟨hx, hb, hml, hown, hts⟩ hE hP hS (nX7_refused l hfl Z nT nK cT cK ad g q 2) (cwV 1 hts (gu_V uk_5_104 uk_5_106 uk_0_17 uk_1_9 uk_5_107) rfl rfl rfl (by decide +kernel) ⟨Nat.le_of_ble_eq_true rfl, Nat.le_of_ble_eq_true rfl⟩) (sy_recv (kc := 8) hE hP rfl (by decide) rfl rfl rfl) rfl hl.1 rfl (Nat.le_of_ble_eq_true rfl) dX7_amnesty_51 ⟨Nat.le_of_ble_eq_true rfl, Nat.le_of_ble_eq_true rfl⟩) hS (fun r_e_9 g_e_9 q_e_9 H locs e_9 hP hS => ?_)
        cases e_9
        refine sy_top (y := 1) (by rfl) ?_
        refine lv_if_eq (tgt := 59) hx hb dX7_amnesty_54 (by decide) (fun c9 => absurd c9 (by decide)) (fun _ => ?_)
        refine lv_iconst (v := 0) hx hb dX7_amnesty_57 (by decide) ?_
        exact (sy_ireti hx hb hr hlocks hE hP hS dX7_amnesty_58 ⟨Nat.le_of_ble_eq_true rfl, Nat.le_of_ble_eq_true rfl⟩ (by unfold fX7_amnesty; rw [if_pos c_2, if_pos c_5, if_pos c_7] <;> rfl))
def fX7_valueNow (g : sG) (q : sQ) (x0 : Int32) : Int32 := (((((g 6 x0.toNatClampNeg) * (10 - (g 7 x0.toNatClampNeg))) / 10) * (g 14 ((g 4 x0.toNatClampNeg).toNatClampNeg))) / 100)
set_option maxHeartbeats 4000000 in
set_option maxRecDepth 100000 in
theorem mX7_valueNow (l : Launch) (hfl : l.stackTraces = false) (Z : sZ) (nT nK cT cK : Nat) (ad : Nat → Nat) (g : sG) (q : sQ) (x0 : Int32) {mT mK : Nat} (hI : IM mT mK g) (hx0 : vp_in x0 40) : sMi l Z yX7_valueNow (uW (.code yX7_valueNow cX7_valueNow 2 (some .int))) { frames := 0, cells := 0, slots := 0, locals := 0 } [.ref (ad 0), .int x0] nT nK cT cK ad g q (fun r g1 q1 => (r, g1, q1) = (fX7_valueNow g q x0, g, q)) := by
  refine Met.ofW (cc := cX7_valueNow) (maxL := 2) (ret := (some .int)) (by decide) rfl ?_
  intro p e s m args below meth c s₁ B hml hv
  obtain ⟨rfl, hE, hP⟩ := hv
  have hx := B.exec
  have hb := B.bytes
  have hr := B.returns
  have hts := atoms_spec (ws := uW (.code yX7_valueNow cX7_valueNow 2 (some .int))) B.pre
  have hown : s.vm.findClass RX7 = some m.cls := findClass_of_methodNamed B.named
  have hlocks := B.notSynchronized
  have hS : va_S (sy_A Z) s.heap s.heap [] := va_S.rf
  have hl := lv_entry ([.ref (ad 0), .int x0]) (n := 2) (Nat.le_of_ble_eq_true rfl)
  rw [lg_entry_eq]
  generalize (lg_sl ([.ref (ad 0), .int x0]) ++ List.replicate (2 - (lg_sl ([.ref (ad 0), .int x0])).length) Slot.unset).toArray = ls at hl ⊢
  have hl : lv_has ls 2 [(0, .ref (ad 0)), (1, .int x0)] := hl
  refine lv_aload_n hx hb dX7_valueNow_0 rfl (lv_at hl 0 rfl) ?_
  refine sy_getRX7 hx hb hts hown hE hP 0 rfl 5 (by decide) (hts _ (u_in uk_4_195)) (v := .ref (ad 6)) rfl dX7_valueNow_1 ?_
  refine lv_iload_n hx hb dX7_valueNow_4 rfl (lv_at hl 1 rfl) ?_
  refine sy_ialdN hx hb hE hP 6 rfl (show vp_in x0 40 from hx0) x0.toNatClampNeg rfl (v := g 6 x0.toNatClampNeg) rfl dX7_valueNow_5 ?_
  refine lv_bipush (v := 10) hx hb dX7_valueNow_6 (by decide) ?_
  refine lv_aload_n hx hb dX7_valueNow_8 rfl (lv_at hl 0 rfl) ?_
  refine sy_getRX7 hx hb hts hown hE hP 0 rfl 6 (by decide) (hts _ (u_in uk_4_196)) (v := .ref (ad 7)) rfl dX7_valueNow_9 ?_
  refine lv_iload_n hx hb dX7_valueNow_12 rfl (lv_at hl 1 rfl) ?_
  refine sy_ialdN hx hb hE hP 7 rfl (show vp_in x0 40 from hx0) x0.toNatClampNeg rfl (v := g 7 x0.toNatClampNeg) rfl dX7_valueNow_13 ?_
  refine lv_isub hx hb dX7_valueNow_14 ?_
  refine lv_imul hx hb dX7_valueNow_15 ?_
  refine lv_bipush (v := 10) hx hb dX7_valueNow_16 (by decide) ?_
  refine lv_idiv hx hb dX7_valueNow_18 (by decide) ?_
  refine lv_aload_n hx hb dX7_valueNow_19 rfl (lv_at hl 0 rfl) ?_
  refine sy_getRX7 hx hb hts hown hE hP 0 rfl 13 (by decide) (hts _ (u_in uk_4_203)) (v := .ref (ad 14)) rfl dX7_valueNow_20 ?_
  refine lv_aload_n hx hb dX7_valueNow_23 rfl (lv_at hl 0 rfl) ?_
  refine sy_getRX7 hx hb hts hown hE hP 0 rfl 3 (by decide) (hts _ (u_in uk_4_193)) (v := .ref (ad 4)) rfl dX7_valueNow_24 ?_
  refine lv_iload_n hx hb dX7_valueNow_27 rfl (lv_at hl 1 rfl) ?_
  refine sy_ialdN hx hb hE hP 4 rfl (show vp_in x0 40 from hx0) x0.toNatClampNeg rfl (v := g 4 x0.toNatClampNeg) rfl dX7_valueNow_28 ?_
  refine sy_ialdN hx hb hE hP 14 rfl (show vp_in (g 4 x0.toNatClampNeg) 4 from (im_kind hI hx0)) ((g 4 x0.toNatClampNeg).toNatClampNeg) rfl (v := g 14 ((g 4 x0.toNatClampNeg).toNatClampNeg)) rfl dX7_valueNow_29 ?_
  refine lv_imul hx hb dX7_valueNow_30 ?_
  refine lv_bipush (v := 100) hx hb dX7_valueNow_31 (by decide) ?_
  refine lv_idiv hx hb dX7_valueNow_33 (by decide) ?_
  exact (sy_ireti hx hb hr hlocks hE hP hS dX7_valueNow_34 ⟨Nat.le_of_ble_eq_true rfl, Nat.le_of_ble_eq_true rfl⟩ (by unfold fX7_valueNow; rfl))
