/-! THE CLASS. tg, xg: a ticket's thing, its expert; og: a thing's open ticket; IQ: what the references always are; IG: the counts -/
def tg (q : sQ) (j : Nat) : Nat := (q (200 + j) 1).getD 0 - 100
def xg (q : sQ) (j : Nat) : Nat := (q (200 + j) 4).getD 0 - 80
def og (q : sQ) (i : Nat) : Nat := (q (100 + i) 11).getD 0 - 200
def cg (q : sQ) (p : Nat) : Nat := (q 66 p).getD 0 - 84
def IQ (nT nK : Nat) (q : sQ) : Prop := (∀ k, k < nT → q 70 k = some (100 + k)) ∧ (∀ k, k < nK → q 71 k = some (200 + k)) ∧ (∀ e, e < 4 → q 64 e = some (80 + e)) ∧ (∀ c, c < 3 → q 65 c = some (84 + c)) ∧ (∀ p, p < 10 → ∃ c, c < 3 ∧ q 66 p = some (84 + c)) ∧ (∀ j, j < nK → (∃ i, i < nT ∧ q (200 + j) 1 = some (100 + i)) ∧ ∃ e, e < 4 ∧ q (200 + j) 4 = some (80 + e)) ∧ (∀ i, i < nT → q (100 + i) 11 = none ∨ ∃ j, j < nK ∧ q (100 + i) 11 = some (200 + j))
def IG (nT nK cT cK : Nat) (g : sG) : Prop := g 61 2 = nI nT ∧ nT ≤ 40 ∧ nT ≤ cT ∧ g 62 2 = nI nK ∧ nK ≤ 40 ∧ nK ≤ cK ∧ (∃ r, r ≤ 30 ∧ g 67 3 = nI r) ∧ (∃ a, a ≤ 10 ∧ g 67 6 = nI a) ∧ (∃ m, m ≤ 600 ∧ g 68 4 = nI m) ∧ (∀ i, i < nT → vp_in (g (100 + i) 1) 4) ∧ (∃ d, d ≤ 5000 ∧ g 60 9 = nI d ∧ ∀ j, j < nK → ∃ b, b ≤ d ∧ g (200 + j) 9 = nI b)
theorem iq_tg {nT nK : Nat} {q : sQ} (hQ : IQ nT nK q) {j : Nat} (hj : j < nK) : q (200 + j) 1 = some (100 + tg q j) ∧ tg q j < nT := by
  obtain ⟨⟨i, h1, h2⟩, -⟩ := hQ.2.2.2.2.2.1 j hj
  have : tg q j = i := by unfold tg; rw [h2]; simp
  rw [this]
  exact ⟨h2, h1⟩
theorem iq_xg {nT nK : Nat} {q : sQ} (hQ : IQ nT nK q) {j : Nat} (hj : j < nK) : q (200 + j) 4 = some (80 + xg q j) ∧ xg q j < 4 := by
  obtain ⟨-, e, h1, h2⟩ := hQ.2.2.2.2.2.1 j hj
  have : xg q j = e := by unfold xg; rw [h2]; simp
  rw [this]
  exact ⟨h2, h1⟩
theorem iq_og {nT nK : Nat} {q : sQ} (hQ : IQ nT nK q) {i : Nat} (hi : i < nT) (h : ¬ q (100 + i) 11 = none) : q (100 + i) 11 = some (200 + og q i) ∧ og q i < nK := by
  rcases hQ.2.2.2.2.2.2 i hi with h2 | ⟨j, h1, h2⟩
  · exact absurd h2 h
  · have : og q i = j := by unfold og; rw [h2]; simp
    rw [this]
    exact ⟨h2, h1⟩
theorem iq_cg {nT nK : Nat} {q : sQ} (hQ : IQ nT nK q) {p : Nat} (hp : p < 10) : q 66 p = some (84 + cg q p) ∧ cg q p < 3 := by
  obtain ⟨c, h1, h2⟩ := hQ.2.2.2.2.1 p hp
  have : cg q p = c := by unfold cg; rw [h2]; simp
  rw [this]
  exact ⟨h2, h1⟩
theorem ig_told {nT nK cT cK : Nat} {g : sG} (h : IG nT nK cT cK g) : g 67 3 = nI (g 67 3).toNatClampNeg ∧ (g 67 3).toNatClampNeg ≤ 30 := cnt_of h.2.2.2.2.2.2.1 (by decide)
theorem ig_free {nT nK cT cK : Nat} {g : sG} (h : IG nT nK cT cK g) : g 67 6 = nI (g 67 6).toNatClampNeg ∧ (g 67 6).toNatClampNeg ≤ 10 := cnt_of h.2.2.2.2.2.2.2.1 (by decide)
theorem vp_in_less {a : Int32} {n N : Nat} (ha : a = nI n) (hn : n < 2 ^ 31) (hN : N < 2 ^ 31) (h : ¬ nI N ≤ a) : vp_in a N := by
  rw [ha] at h ⊢
  have := mt (nI_leI hN hn).mpr h
  exact vp_in_nI (by omega) hN
def fX1_valueBy (g : sG) (q : sQ) (ue : Nat) (x0 : Int32) : Int32 := ((x0 * (100 + (g (80 + ue) 0))) / 100)
set_option maxHeartbeats 4000000 in
set_option maxRecDepth 100000 in
theorem mX1_valueBy (l : Launch) (hfl : l.stackTraces = false) (Z : sZ) (nT nK cT cK : Nat) (ad : Nat → Nat) (g : sG) (q : sQ) (ue : Nat) (x0 : Int32) (hT : nT ≤ 100) (he : ue < 4) : sMi l Z yX1_valueBy (uW (.code yX1_valueBy cX1_valueBy 2 (some .int))) { frames := 0, cells := 0, slots := 0, locals := 0 } [.ref (ad (80 + ue)), .int x0] nT nK cT cK ad g q (fun r g1 q1 => (r, g1, q1) = (fX1_valueBy g q ue x0, g, q)) := by
  refine Met.ofW (cc := cX1_valueBy) (maxL := 2) (ret := (some .int)) (by decide) rfl ?_
  intro p e s m args below meth c s₁ B hml hv
  obtain ⟨rfl, hE, hP⟩ := hv
  have hx := B.exec
  have hb := B.bytes
  have hr := B.returns
  have hts := atoms_spec (ws := uW (.code yX1_valueBy cX1_valueBy 2 (some .int))) B.pre
  have hown : s.vm.findClass RX1 = some m.cls := findClass_of_methodNamed B.named
  have hlocks := B.notSynchronized
  have hS : va_S (sy_A Z) s.heap s.heap [] := va_S.rf
  have hl := lv_entry ([.ref (ad (80 + ue)), .int x0]) (n := 2) (Nat.le_of_ble_eq_true rfl)
  rw [lg_entry_eq]
  generalize (lg_sl ([.ref (ad (80 + ue)), .int x0]) ++ List.replicate (2 - (lg_sl ([.ref (ad (80 + ue)), .int x0])).length) Slot.unset).toArray = ls at hl ⊢
  have hl : lv_has ls 2 [(0, .ref (ad (80 + ue))), (1, .int x0)] := hl
  refine lv_iload_n hx hb dX1_valueBy_0 rfl (lv_at hl 1 rfl) ?_
  refine lv_bipush (v := 100) hx hb dX1_valueBy_1 (by decide) ?_
  refine lv_aload_n hx hb dX1_valueBy_3 rfl (lv_at hl 0 rfl) ?_
  refine sy_getRX1 hx hb hts hown hE hP (80 + ue) (sy_kdX he) 0 (by decide) (hts _ (u_in uk_1_64)) (v := .int (g (80 + ue) 0)) rfl dX1_valueBy_4 ?_
  refine lv_iadd hx hb dX1_valueBy_7 ?_
  refine lv_imul hx hb dX1_valueBy_8 ?_
  refine lv_bipush (v := 100) hx hb dX1_valueBy_9 (by decide) ?_
  refine lv_idiv hx hb dX1_valueBy_11 (by decide) ?_
  exact (sy_ireti hx hb hr hlocks hE hP hS dX1_valueBy_12 ⟨Nat.le_of_ble_eq_true rfl, Nat.le_of_ble_eq_true rfl⟩ (by unfold fX1_valueBy; rfl))
def fX3_canBeFound (g : sG) (q : sQ) (i : Nat) : Int32 := (if (g (100 + i) 5) = 0 then 0 else (if (g (100 + i) 8) = (g (100 + i) 7) then 1 else 0))
set_option maxHeartbeats 4000000 in
set_option maxRecDepth 100000 in
theorem mX3_canBeFound (l : Launch) (hfl : l.stackTraces = false) (Z : sZ) (nT nK cT cK : Nat) (ad : Nat → Nat) (g : sG) (q : sQ) (i : Nat) (hT : nT ≤ 100) (hi : i < nT) : sMi l Z yX3_canBeFound (uW (.code yX3_canBeFound cX3_canBeFound 1 (some .boolean))) { frames := 0, cells := 0, slots := 0, locals := 0 } [.ref (ad (100 + i))] nT nK cT cK ad g q (fun r g1 q1 => (r, g1, q1) = (fX3_canBeFound g q i, g, q)) := by
  refine Met.ofW (cc := cX3_canBeFound) (maxL := 1) (ret := (some .boolean)) (by decide) rfl ?_
  intro p e s m args below meth c s₁ B hml hv
  obtain ⟨rfl, hE, hP⟩ := hv
  have hx := B.exec
  have hb := B.bytes
  have hr := B.returns
  have hts := atoms_spec (ws := uW (.code yX3_canBeFound cX3_canBeFound 1 (some .boolean))) B.pre
  have hown : s.vm.findClass RX3 = some m.cls := findClass_of_methodNamed B.named
  have hlocks := B.notSynchronized
  have hS : va_S (sy_A Z) s.heap s.heap [] := va_S.rf
  have hl := lv_entry ([.ref (ad (100 + i))]) (n := 1) (Nat.le_of_ble_eq_true rfl)
  rw [lg_entry_eq]
  generalize (lg_sl ([.ref (ad (100 + i))]) ++ List.replicate (1 - (lg_sl ([.ref (ad (100 + i))])).length) Slot.unset).toArray = ls at hl ⊢
  have hl : lv_has ls 1 [(0, .ref (ad (100 + i)))] := hl
  refine lv_aload_n hx hb dX3_canBeFound_0 rfl (lv_at hl 0 rfl) ?_
  refine sy_getRX3 hx hb hts hown hE hP (100 + i) (sy_kdT hi hT) 5 (by decide) (hts _ (u_in uk_2_84)) (v := .int (g (100 + i) 5)) rfl dX3_canBeFound_1 ?_
  refine lv_if_eq (tgt := 22) hx hb dX3_canBeFound_4 (by decide) (fun c_1 => ?_) (fun c_1 => ?_)
  · skip
    refine lv_iconst (v := 0) hx hb dX3_canBeFound_22 (by decide) ?_
    exact (sy_iretz hx hb hr hlocks hE hP hS dX3_canBeFound_23 ⟨Nat.le_of_ble_eq_true rfl, Nat.le_of_ble_eq_true rfl⟩ (by decide) (by unfold fX3_canBeFound; rw [if_pos c_1] <;> rfl))
  · skip
    refine lv_aload_n hx hb dX3_canBeFound_7 rfl (lv_at hl 0 rfl) ?_
    refine sy_getRX3 hx hb hts hown hE hP (100 + i) (sy_kdT hi hT) 8 (by decide) (hts _ (u_in uk_2_91)) (v := .int (g (100 + i) 8)) rfl dX3_canBeFound_8 ?_
    refine lv_aload_n hx hb dX3_canBeFound_11 rfl (lv_at hl 0 rfl) ?_
    refine sy_getRX3 hx hb hts hown hE hP (100 + i) (sy_kdT hi hT) 7 (by decide) (hts _ (u_in uk_2_89)) (v := .int (g (100 + i) 7)) rfl dX3_canBeFound_12 ?_
    refine lv_icmp_ne (tgt := 22) hx hb dX3_canBeFound_15 (by decide) (fun c_2 => ?_) (fun c_2 => ?_)
    · skip
      refine lv_iconst (v := 0) hx hb dX3_canBeFound_22 (by decide) ?_
      exact (sy_iretz hx hb hr hlocks hE hP hS dX3_canBeFound_23 ⟨Nat.le_of_ble_eq_true rfl, Nat.le_of_ble_eq_true rfl⟩ (by decide) (by unfold fX3_canBeFound; rw [if_neg c_1, if_neg c_2] <;> rfl))
    · skip
      refine lv_iconst (v := 1) hx hb dX3_canBeFound_18 (by decide) ?_
      refine lv_goto (tgt := 23) hx hb dX3_canBeFound_19 (by decide) ?_
      exact (sy_iretz hx hb hr hlocks hE hP hS dX3_canBeFound_23 ⟨Nat.le_of_ble_eq_true rfl, Nat.le_of_ble_eq_true rfl⟩ (by decide) (by unfold fX3_canBeFound; rw [if_neg c_1, if_pos c_2] <;> rfl))
def fX3_openTicketNumber (g : sG) (q : sQ) (i : Nat) : Int32 := (if q (100 + i) 11 = none then (-1) else (g (200 + (og q i)) 0))
set_option maxHeartbeats 4000000 in
set_option maxRecDepth 100000 in
theorem mX3_openTicketNumber (l : Launch) (hfl : l.stackTraces = false) (Z : sZ) (nT nK cT cK : Nat) (ad : Nat → Nat) (g : sG) (q : sQ) (i : Nat) (hT : nT ≤ 100) (hi : i < nT) (hQ : IQ nT nK q) : sMi l Z yX3_openTicketNumber (uW (.code yX3_openTicketNumber cX3_openTicketNumber 1 (some .int))) { frames := 0, cells := 0, slots := 0, locals := 0 } [.ref (ad (100 + i))] nT nK cT cK ad g q (fun r g1 q1 => (r, g1, q1) = (fX3_openTicketNumber g q i, g, q)) := by
  refine Met.ofW (cc := cX3_openTicketNumber) (maxL := 1) (ret := (some .int)) (by decide) rfl ?_
  intro p e s m args below meth c s₁ B hml hv
  obtain ⟨rfl, hE, hP⟩ := hv
  have hx := B.exec
  have hb := B.bytes
  have hr := B.returns
  have hts := atoms_spec (ws := uW (.code yX3_openTicketNumber cX3_openTicketNumber 1 (some .int))) B.pre
  have hown : s.vm.findClass RX3 = some m.cls := findClass_of_methodNamed B.named
  have hlocks := B.notSynchronized
  have hS : va_S (sy_A Z) s.heap s.heap [] := va_S.rf
  have hl := lv_entry ([.ref (ad (100 + i))]) (n := 1) (Nat.le_of_ble_eq_true rfl)
  rw [lg_entry_eq]
  generalize (lg_sl ([.ref (ad (100 + i))]) ++ List.replicate (1 - (lg_sl ([.ref (ad (100 + i))])).length) Slot.unset).toArray = ls at hl ⊢
  have hl : lv_has ls 1 [(0, .ref (ad (100 + i)))] := hl
  refine lv_aload_n hx hb dX3_openTicketNumber_0 rfl (lv_at hl 0 rfl) ?_
  by_cases c_1 : q (100 + i) 11 = none
  · refine sy_getRX3 hx hb hts hown hE hP (100 + i) (sy_kdT hi hT) 11 (by decide) (hts _ (u_in uk_2_96)) (v := .null) (by show some (sy_rv ad (q (100 + i) 11)) = _; rw [c_1]; rfl) dX3_openTicketNumber_1 ?_
    refine lv_ifnonnullN hx hb dX3_openTicketNumber_4 ?_
    refine lv_iconst (v := (-1)) hx hb dX3_openTicketNumber_7 (by decide) ?_
    refine lv_goto (tgt := 18) hx hb dX3_openTicketNumber_8 (by decide) ?_
    exact (sy_ireti hx hb hr hlocks hE hP hS dX3_openTicketNumber_18 ⟨Nat.le_of_ble_eq_true rfl, Nat.le_of_ble_eq_true rfl⟩ (by unfold fX3_openTicketNumber; rw [if_pos c_1] <;> rfl))
  · refine sy_getRX3 hx hb hts hown hE hP (100 + i) (sy_kdT hi hT) 11 (by decide) (hts _ (u_in uk_2_96)) (v := .ref (ad (200 + (og q i)))) (by show some (sy_rv ad (q (100 + i) 11)) = _; rw [(iq_og hQ hi c_1).1]; rfl) dX3_openTicketNumber_1 ?_
    refine lv_ifnonnull (tgt := 11) hx hb dX3_openTicketNumber_4 (by decide) ?_
    refine lv_aload_n hx hb dX3_openTicketNumber_11 rfl (lv_at hl 0 rfl) ?_
    refine sy_getRX3 hx hb hts hown hE hP (100 + i) (sy_kdT hi hT) 11 (by decide) (hts _ (u_in uk_2_96)) (v := .ref (ad (200 + (og q i)))) (by show some (sy_rv ad (q (100 + i) 11)) = _; rw [(iq_og hQ hi c_1).1]; rfl) dX3_openTicketNumber_12 ?_
    refine sy_getRX4 hx hb hts hown hE hP (200 + (og q i)) (sy_kdK (iq_og hQ hi c_1).2) 0 (by decide) (hts _ (u_in uk_3_68)) (v := .int (g (200 + (og q i)) 0)) rfl dX3_openTicketNumber_15 ?_
    exact (sy_ireti hx hb hr hlocks hE hP hS dX3_openTicketNumber_18 ⟨Nat.le_of_ble_eq_true rfl, Nat.le_of_ble_eq_true rfl⟩ (by unfold fX3_openTicketNumber; rw [if_neg c_1] <;> rfl))
def fX3_leave (g : sG) (q : sQ) (i : Nat) : sG × sQ := ((sy_up (sy_up (sy_up g (100 + i) 5 0) (100 + i) 7 (-1)) (100 + i) 8 (-1)), (sy_up q (100 + i) 11 none))
set_option maxHeartbeats 4000000 in
set_option maxRecDepth 100000 in
theorem mX3_leave (l : Launch) (hfl : l.stackTraces = false) (Z : sZ) (nT nK cT cK : Nat) (ad : Nat → Nat) (g : sG) (q : sQ) (i : Nat) (hT : nT ≤ 100) (hi : i < nT) : sMv l Z yX3_leave (uW (.code yX3_leave cX3_leave 1 none)) { frames := 0, cells := 0, slots := 0, locals := 0 } [.ref (ad (100 + i))] nT nK cT cK ad g q (fun g1 q1 => (g1, q1) = fX3_leave g q i) := by
  refine Met.ofW (cc := cX3_leave) (maxL := 1) (ret := none) (by decide) rfl ?_
  intro p e s m args below meth c s₁ B hml hv
  obtain ⟨rfl, hE, hP⟩ := hv
  have hx := B.exec
  have hb := B.bytes
  have hr := B.returns
  have hts := atoms_spec (ws := uW (.code yX3_leave cX3_leave 1 none)) B.pre
  have hown : s.vm.findClass RX3 = some m.cls := findClass_of_methodNamed B.named
  have hlocks := B.notSynchronized
  have hS : va_S (sy_A Z) s.heap s.heap [] := va_S.rf
  have hl := lv_entry ([.ref (ad (100 + i))]) (n := 1) (Nat.le_of_ble_eq_true rfl)
  rw [lg_entry_eq]
  generalize (lg_sl ([.ref (ad (100 + i))]) ++ List.replicate (1 - (lg_sl ([.ref (ad (100 + i))])).length) Slot.unset).toArray = ls at hl ⊢
  have hl : lv_has ls 1 [(0, .ref (ad (100 + i)))] := hl
  refine lv_aload_n hx hb dX3_leave_0 rfl (lv_at hl 0 rfl) ?_
  refine lv_iconst (v := 0) hx hb dX3_leave_1 (by decide) ?_
  refine sy_putRX3 hx hb hts hown hE hP hS (100 + i) (sy_kdT hi hT) 5 (by decide) (hts _ (u_in uk_2_84)) rfl (ty := .boolean) (by decide +kernel) (by show Value.int (0 &&& 1) = .int 0; exact congrArg Value.int (by decide)) rfl (sy_up g (100 + i) 5 0) q (by rw [sy_up_s g (100 + i) 5 0]; exact se_RX3_5 _ _ _ _ _ _ _) (fun _ h9 => sy_up_o _ _ _ h9) (fun _ _ => rfl) dX3_leave_2 (fun H locs hP hS => ?_)
  refine lv_aload_n hx hb dX3_leave_5 rfl (lv_at hl 0 rfl) ?_
  refine lv_null hx hb dX3_leave_6 ?_
  refine sy_putRX3 hx hb hts hown hE hP hS (100 + i) (sy_kdT hi hT) 11 (by decide) (hts _ (u_in uk_2_96)) rfl (ty := .object "Pledgehouse$Ticket") (by decide +kernel) rfl rfl (sy_up g (100 + i) 5 0) (sy_up q (100 + i) 11 none) (by rw [sy_up_s q (100 + i) 11 none]; exact se_RX3_11 _ _ _ _ _ _ _) (fun _ _ => rfl) (fun _ h9 => sy_up_o _ _ _ h9) dX3_leave_7 (fun H locs hP hS => ?_)
  refine lv_aload_n hx hb dX3_leave_10 rfl (lv_at hl 0 rfl) ?_
  refine lv_iconst (v := (-1)) hx hb dX3_leave_11 (by decide) ?_
  refine sy_putRX3 hx hb hts hown hE hP hS (100 + i) (sy_kdT hi hT) 7 (by decide) (hts _ (u_in uk_2_89)) rfl (ty := .int) (by decide +kernel) rfl rfl (sy_up (sy_up g (100 + i) 5 0) (100 + i) 7 (-1)) (sy_up q (100 + i) 11 none) (by rw [sy_up_s (sy_up g (100 + i) 5 0) (100 + i) 7 (-1)]; exact se_RX3_7 _ _ _ _ _ _ _) (fun _ h9 => sy_up_o _ _ _ h9) (fun _ _ => rfl) dX3_leave_12 (fun H locs hP hS => ?_)
  refine lv_aload_n hx hb dX3_leave_15 rfl (lv_at hl 0 rfl) ?_
  refine lv_iconst (v := (-1)) hx hb dX3_leave_16 (by decide) ?_
  refine sy_putRX3 hx hb hts hown hE hP hS (100 + i) (sy_kdT hi hT) 8 (by decide) (hts _ (u_in uk_2_91)) rfl (ty := .int) (by decide +kernel) rfl rfl (sy_up (sy_up (sy_up g (100 + i) 5 0) (100 + i) 7 (-1)) (100 + i) 8 (-1)) (sy_up q (100 + i) 11 none) (by rw [sy_up_s (sy_up (sy_up g (100 + i) 5 0) (100 + i) 7 (-1)) (100 + i) 8 (-1)]; exact se_RX3_8 _ _ _ _ _ _ _) (fun _ h9 => sy_up_o _ _ _ h9) (fun _ _ => rfl) dX3_leave_17 (fun H locs hP hS => ?_)
  exact (sy_vret hx hb hr hlocks hE hP hS dX3_leave_20 ⟨Nat.le_of_ble_eq_true rfl, Nat.le_of_ble_eq_true rfl⟩ (by unfold fX3_leave; rfl))
def fX3_comeTo (g : sG) (q : sQ) (i : Nat) (x0 x1 : Int32) : sG := (if (g (100 + i) 8) = x0 then g else (sy_up (sy_up g (100 + i) 8 x0) (100 + i) 9 x1))
set_option maxHeartbeats 4000000 in
set_option maxRecDepth 100000 in
theorem mX3_comeTo (l : Launch) (hfl : l.stackTraces = false) (Z : sZ) (nT nK cT cK : Nat) (ad : Nat → Nat) (g : sG) (q : sQ) (i : Nat) (x0 x1 : Int32) (hT : nT ≤ 100) (hi : i < nT) : sMv l Z yX3_comeTo (uW (.code yX3_comeTo cX3_comeTo 3 none)) { frames := 0, cells := 0, slots := 0, locals := 0 } [.ref (ad (100 + i)), .int x0, .int x1] nT nK cT cK ad g q (fun g1 q1 => (g1, q1) = (fX3_comeTo g q i x0 x1, q)) := by
  refine Met.ofW (cc := cX3_comeTo) (maxL := 3) (ret := none) (by decide) rfl ?_
  intro p e s m args below meth c s₁ B hml hv
  obtain ⟨rfl, hE, hP⟩ := hv
  have hx := B.exec
  have hb := B.bytes
  have hr := B.returns
  have hts := atoms_spec (ws := uW (.code yX3_comeTo cX3_comeTo 3 none)) B.pre
  have hown : s.vm.findClass RX3 = some m.cls := findClass_of_methodNamed B.named
  have hlocks := B.notSynchronized
  have hS : va_S (sy_A Z) s.heap s.heap [] := va_S.rf
  have hl := lv_entry ([.ref (ad (100 + i)), .int x0, .int x1]) (n := 3) (Nat.le_of_ble_eq_true rfl)
  rw [lg_entry_eq]
  generalize (lg_sl ([.ref (ad (100 + i)), .int x0, .int x1]) ++ List.replicate (3 - (lg_sl ([.ref (ad (100 + i)), .int x0, .int x1])).length) Slot.unset).toArray = ls at hl ⊢
  have hl : lv_has ls 3 [(0, .ref (ad (100 + i))), (1, .int x0), (2, .int x1)] := hl
  refine lv_aload_n hx hb dX3_comeTo_0 rfl (lv_at hl 0 rfl) ?_
  refine sy_getRX3 hx hb hts hown hE hP (100 + i) (sy_kdT hi hT) 8 (by decide) (hts _ (u_in uk_2_91)) (v := .int (g (100 + i) 8)) rfl dX3_comeTo_1 ?_
  refine lv_iload_n hx hb dX3_comeTo_4 rfl (lv_at hl 1 rfl) ?_
  refine lv_icmp_eq (tgt := 18) hx hb dX3_comeTo_5 (by decide) (fun c_1 => ?_) (fun c_1 => ?_)
  · skip
    exact (sy_vret hx hb hr hlocks hE hP hS dX3_comeTo_18 ⟨Nat.le_of_ble_eq_true rfl, Nat.le_of_ble_eq_true rfl⟩ (by unfold fX3_comeTo; rw [if_pos c_1] <;> rfl))
  · skip
    refine lv_aload_n hx hb dX3_comeTo_8 rfl (lv_at hl 0 rfl) ?_
    refine lv_iload_n hx hb dX3_comeTo_9 rfl (lv_at hl 1 rfl) ?_
    refine sy_putRX3 hx hb hts hown hE hP hS (100 + i) (sy_kdT hi hT) 8 (by decide) (hts _ (u_in uk_2_91)) rfl (ty := .int) (by decide +kernel) rfl rfl (sy_up g (100 + i) 8 x0) q (by rw [sy_up_s g (100 + i) 8 x0]; exact se_RX3_8 _ _ _ _ _ _ _) (fun _ h9 => sy_up_o _ _ _ h9) (fun _ _ => rfl) dX3_comeTo_10 (fun H locs hP hS => ?_)
    refine lv_aload_n hx hb dX3_comeTo_13 rfl (lv_at hl 0 rfl) ?_
    refine lv_iload_n hx hb dX3_comeTo_14 rfl (lv_at hl 2 rfl) ?_
    refine sy_putRX3 hx hb hts hown hE hP hS (100 + i) (sy_kdT hi hT) 9 (by decide) (hts _ (u_in uk_2_93)) rfl (ty := .int) (by decide +kernel) rfl rfl (sy_up (sy_up g (100 + i) 8 x0) (100 + i) 9 x1) q (by rw [sy_up_s (sy_up g (100 + i) 8 x0) (100 + i) 9 x1]; exact se_RX3_9 _ _ _ _ _ _ _) (fun _ h9 => sy_up_o _ _ _ h9) (fun _ _ => rfl) dX3_comeTo_15 (fun H locs hP hS => ?_)
    exact (sy_vret hx hb hr hlocks hE hP hS dX3_comeTo_18 ⟨Nat.le_of_ble_eq_true rfl, Nat.le_of_ble_eq_true rfl⟩ (by unfold fX3_comeTo; rw [if_neg c_1] <;> rfl))
def fX3_furWearsOn (g : sG) (q : sQ) (i : Nat) (x0 : Int32) : Int32 := (if (g (100 + i) 1) = 1 then (if ((g (100 + i) 8) - (g (100 + i) 8) / 4 * 4) = 0 then 0 else (if ((x0 - (g (100 + i) 9)) - (x0 - (g (100 + i) 9)) / 60 * 60) = 0 then 1 else 0)) else 0)
set_option maxHeartbeats 4000000 in
set_option maxRecDepth 100000 in
theorem mX3_furWearsOn (l : Launch) (hfl : l.stackTraces = false) (Z : sZ) (nT nK cT cK : Nat) (ad : Nat → Nat) (g : sG) (q : sQ) (i : Nat) (x0 : Int32) (hT : nT ≤ 100) (hi : i < nT) : sMi l Z yX3_furWearsOn (uW (.code yX3_furWearsOn cX3_furWearsOn 2 (some .boolean))) { frames := 0, cells := 0, slots := 0, locals := 0 } [.ref (ad (100 + i)), .int x0] nT nK cT cK ad g q (fun r g1 q1 => (r, g1, q1) = (fX3_furWearsOn g q i x0, g, q)) := by
  refine Met.ofW (cc := cX3_furWearsOn) (maxL := 2) (ret := (some .boolean)) (by decide) rfl ?_
  intro p e s m args below meth c s₁ B hml hv
  obtain ⟨rfl, hE, hP⟩ := hv
  have hx := B.exec
  have hb := B.bytes
  have hr := B.returns
  have hts := atoms_spec (ws := uW (.code yX3_furWearsOn cX3_furWearsOn 2 (some .boolean))) B.pre
  have hown : s.vm.findClass RX3 = some m.cls := findClass_of_methodNamed B.named
  have hlocks := B.notSynchronized
  have hS : va_S (sy_A Z) s.heap s.heap [] := va_S.rf
  have hl := lv_entry ([.ref (ad (100 + i)), .int x0]) (n := 2) (Nat.le_of_ble_eq_true rfl)
  rw [lg_entry_eq]
  generalize (lg_sl ([.ref (ad (100 + i)), .int x0]) ++ List.replicate (2 - (lg_sl ([.ref (ad (100 + i)), .int x0])).length) Slot.unset).toArray = ls at hl ⊢
  have hl : lv_has ls 2 [(0, .ref (ad (100 + i))), (1, .int x0)] := hl
  refine lv_aload_n hx hb dX3_furWearsOn_0 rfl (lv_at hl 0 rfl) ?_
  refine sy_getRX3 hx hb hts hown hE hP (100 + i) (sy_kdT hi hT) 1 (by decide) (hts _ (u_in uk_2_76)) (v := .int (g (100 + i) 1)) rfl dX3_furWearsOn_1 ?_
  refine lv_iconst (v := 1) hx hb dX3_furWearsOn_4 (by decide) ?_
  refine lv_icmp_ne (tgt := 33) hx hb dX3_furWearsOn_5 (by decide) (fun c_1 => ?_) (fun c_1 => ?_)
  · skip
    refine lv_iconst (v := 0) hx hb dX3_furWearsOn_33 (by decide) ?_
    exact (sy_iretz hx hb hr hlocks hE hP hS dX3_furWearsOn_34 ⟨Nat.le_of_ble_eq_true rfl, Nat.le_of_ble_eq_true rfl⟩ (by decide) (by unfold fX3_furWearsOn; rw [if_neg c_1] <;> rfl))
  · skip
    refine lv_aload_n hx hb dX3_furWearsOn_8 rfl (lv_at hl 0 rfl) ?_
    refine sy_getRX3 hx hb hts hown hE hP (100 + i) (sy_kdT hi hT) 8 (by decide) (hts _ (u_in uk_2_91)) (v := .int (g (100 + i) 8)) rfl dX3_furWearsOn_9 ?_
    refine lv_iconst (v := 4) hx hb dX3_furWearsOn_12 (by decide) ?_
    refine lv_irem hx hb dX3_furWearsOn_13 (by decide) ?_
    refine lv_if_eq (tgt := 33) hx hb dX3_furWearsOn_14 (by decide) (fun c_2 => ?_) (fun c_2 => ?_)
    · skip
      refine lv_iconst (v := 0) hx hb dX3_furWearsOn_33 (by decide) ?_
      exact (sy_iretz hx hb hr hlocks hE hP hS dX3_furWearsOn_34 ⟨Nat.le_of_ble_eq_true rfl, Nat.le_of_ble_eq_true rfl⟩ (by decide) (by unfold fX3_furWearsOn; rw [if_pos c_1, if_pos c_2] <;> rfl))
    · skip
      refine lv_iload_n hx hb dX3_furWearsOn_17 rfl (lv_at hl 1 rfl) ?_
      refine lv_aload_n hx hb dX3_furWearsOn_18 rfl (lv_at hl 0 rfl) ?_
      refine sy_getRX3 hx hb hts hown hE hP (100 + i) (sy_kdT hi hT) 9 (by decide) (hts _ (u_in uk_2_93)) (v := .int (g (100 + i) 9)) rfl dX3_furWearsOn_19 ?_
      refine lv_isub hx hb dX3_furWearsOn_22 ?_
      refine lv_bipush (v := 60) hx hb dX3_furWearsOn_23 (by decide) ?_
      refine lv_irem hx hb dX3_furWearsOn_25 (by decide) ?_
      refine lv_if_ne (tgt := 33) hx hb dX3_furWearsOn_26 (by decide) (fun c_3 => ?_) (fun c_3 => ?_)
      · skip
        refine lv_iconst (v := 0) hx hb dX3_furWearsOn_33 (by decide) ?_
        exact (sy_iretz hx hb hr hlocks hE hP hS dX3_furWearsOn_34 ⟨Nat.le_of_ble_eq_true rfl, Nat.le_of_ble_eq_true rfl⟩ (by decide) (by unfold fX3_furWearsOn; rw [if_pos c_1, if_neg c_2, if_neg c_3] <;> rfl))
      · skip
        refine lv_iconst (v := 1) hx hb dX3_furWearsOn_29 (by decide) ?_
        refine lv_goto (tgt := 34) hx hb dX3_furWearsOn_30 (by decide) ?_
        exact (sy_iretz hx hb hr hlocks hE hP hS dX3_furWearsOn_34 ⟨Nat.le_of_ble_eq_true rfl, Nat.le_of_ble_eq_true rfl⟩ (by decide) (by unfold fX3_furWearsOn; rw [if_pos c_1, if_neg c_2, if_pos c_3] <;> rfl))
def fX3_clockWearsOn (g : sG) (q : sQ) (i : Nat) (x0 : Int32) : Int32 := (if (g (100 + i) 1) = 2 then (if ((x0 - (g (100 + i) 10)) - (x0 - (g (100 + i) 10)) / 90 * 90) = 0 then 1 else 0) else 0)
set_option maxHeartbeats 4000000 in
set_option maxRecDepth 100000 in
theorem mX3_clockWearsOn (l : Launch) (hfl : l.stackTraces = false) (Z : sZ) (nT nK cT cK : Nat) (ad : Nat → Nat) (g : sG) (q : sQ) (i : Nat) (x0 : Int32) (hT : nT ≤ 100) (hi : i < nT) : sMi l Z yX3_clockWearsOn (uW (.code yX3_clockWearsOn cX3_clockWearsOn 2 (some .boolean))) { frames := 0, cells := 0, slots := 0, locals := 0 } [.ref (ad (100 + i)), .int x0] nT nK cT cK ad g q (fun r g1 q1 => (r, g1, q1) = (fX3_clockWearsOn g q i x0, g, q)) := by
  refine Met.ofW (cc := cX3_clockWearsOn) (maxL := 2) (ret := (some .boolean)) (by decide) rfl ?_
  intro p e s m args below meth c s₁ B hml hv
  obtain ⟨rfl, hE, hP⟩ := hv
  have hx := B.exec
  have hb := B.bytes
  have hr := B.returns
  have hts := atoms_spec (ws := uW (.code yX3_clockWearsOn cX3_clockWearsOn 2 (some .boolean))) B.pre
  have hown : s.vm.findClass RX3 = some m.cls := findClass_of_methodNamed B.named
  have hlocks := B.notSynchronized
  have hS : va_S (sy_A Z) s.heap s.heap [] := va_S.rf
  have hl := lv_entry ([.ref (ad (100 + i)), .int x0]) (n := 2) (Nat.le_of_ble_eq_true rfl)
  rw [lg_entry_eq]
  generalize (lg_sl ([.ref (ad (100 + i)), .int x0]) ++ List.replicate (2 - (lg_sl ([.ref (ad (100 + i)), .int x0])).length) Slot.unset).toArray = ls at hl ⊢
  have hl : lv_has ls 2 [(0, .ref (ad (100 + i))), (1, .int x0)] := hl
  refine lv_aload_n hx hb dX3_clockWearsOn_0 rfl (lv_at hl 0 rfl) ?_
  refine sy_getRX3 hx hb hts hown hE hP (100 + i) (sy_kdT hi hT) 1 (by decide) (hts _ (u_in uk_2_76)) (v := .int (g (100 + i) 1)) rfl dX3_clockWearsOn_1 ?_
  refine lv_iconst (v := 2) hx hb dX3_clockWearsOn_4 (by decide) ?_
  refine lv_icmp_ne (tgt := 24) hx hb dX3_clockWearsOn_5 (by decide) (fun c_1 => ?_) (fun c_1 => ?_)
  · skip
    refine lv_iconst (v := 0) hx hb dX3_clockWearsOn_24 (by decide) ?_
    exact (sy_iretz hx hb hr hlocks hE hP hS dX3_clockWearsOn_25 ⟨Nat.le_of_ble_eq_true rfl, Nat.le_of_ble_eq_true rfl⟩ (by decide) (by unfold fX3_clockWearsOn; rw [if_neg c_1] <;> rfl))
  · skip
    refine lv_iload_n hx hb dX3_clockWearsOn_8 rfl (lv_at hl 1 rfl) ?_
    refine lv_aload_n hx hb dX3_clockWearsOn_9 rfl (lv_at hl 0 rfl) ?_
    refine sy_getRX3 hx hb hts hown hE hP (100 + i) (sy_kdT hi hT) 10 (by decide) (hts _ (u_in uk_2_94)) (v := .int (g (100 + i) 10)) rfl dX3_clockWearsOn_10 ?_
    refine lv_isub hx hb dX3_clockWearsOn_13 ?_
    refine lv_bipush (v := 90) hx hb dX3_clockWearsOn_14 (by decide) ?_
    refine lv_irem hx hb dX3_clockWearsOn_16 (by decide) ?_
    refine lv_if_ne (tgt := 24) hx hb dX3_clockWearsOn_17 (by decide) (fun c_2 => ?_) (fun c_2 => ?_)
    · skip
      refine lv_iconst (v := 0) hx hb dX3_clockWearsOn_24 (by decide) ?_
      exact (sy_iretz hx hb hr hlocks hE hP hS dX3_clockWearsOn_25 ⟨Nat.le_of_ble_eq_true rfl, Nat.le_of_ble_eq_true rfl⟩ (by decide) (by unfold fX3_clockWearsOn; rw [if_pos c_1, if_neg c_2] <;> rfl))
    · skip
      refine lv_iconst (v := 1) hx hb dX3_clockWearsOn_20 (by decide) ?_
      refine lv_goto (tgt := 25) hx hb dX3_clockWearsOn_21 (by decide) ?_
      exact (sy_iretz hx hb hr hlocks hE hP hS dX3_clockWearsOn_25 ⟨Nat.le_of_ble_eq_true rfl, Nat.le_of_ble_eq_true rfl⟩ (by decide) (by unfold fX3_clockWearsOn; rw [if_pos c_1, if_pos c_2] <;> rfl))
def fX3_wearOn (g : sG) (q : sQ) (i : Nat) (x0 : Int32) : sG := (if (g (100 + i) 5) = 0 then g else (if 10 ≤ (g (100 + i) 4) then g else (if (fX3_furWearsOn g q i x0) = 0 then (if (fX3_clockWearsOn g q i x0) = 0 then g else (sy_up g (100 + i) 4 ((g (100 + i) 4) + 1))) else (sy_up g (100 + i) 4 ((g (100 + i) 4) + 1)))))
set_option maxHeartbeats 4000000 in
set_option maxRecDepth 100000 in
theorem mX3_wearOn (l : Launch) (hfl : l.stackTraces = false) (Z : sZ) (nT nK cT cK : Nat) (ad : Nat → Nat) (g : sG) (q : sQ) (i : Nat) (x0 : Int32) (hT : nT ≤ 100) (hi : i < nT) : sMv l Z yX3_wearOn (uW (.code yX3_wearOn cX3_wearOn 2 none)) { frames := 1, cells := 0, slots := 0, locals := 21 } [.ref (ad (100 + i)), .int x0] nT nK cT cK ad g q (fun g1 q1 => (g1, q1) = (fX3_wearOn g q i x0, q)) := by
  refine Met.ofW (cc := cX3_wearOn) (maxL := 2) (ret := none) (by decide) rfl ?_
  intro p e s m args below meth c s₁ B hml hv
  obtain ⟨rfl, hE, hP⟩ := hv
  have hx := B.exec
  have hb := B.bytes
  have hr := B.returns
  have hts := atoms_spec (ws := uW (.code yX3_wearOn cX3_wearOn 2 none)) B.pre
  have hown : s.vm.findClass RX3 = some m.cls := findClass_of_methodNamed B.named
  have hlocks := B.notSynchronized
  have hS : va_S (sy_A Z) s.heap s.heap [] := va_S.rf
  have hl := lv_entry ([.ref (ad (100 + i)), .int x0]) (n := 2) (Nat.le_of_ble_eq_true rfl)
  rw [lg_entry_eq]
  generalize (lg_sl ([.ref (ad (100 + i)), .int x0]) ++ List.replicate (2 - (lg_sl ([.ref (ad (100 + i)), .int x0])).length) Slot.unset).toArray = ls at hl ⊢
  have hl : lv_has ls 2 [(0, .ref (ad (100 + i))), (1, .int x0)] := hl
  refine lv_aload_n hx hb dX3_wearOn_0 rfl (lv_at hl 0 rfl) ?_
  refine sy_getRX3 hx hb hts hown hE hP (100 + i) (sy_kdT hi hT) 5 (by decide) (hts _ (u_in uk_2_84)) (v := .int (g (100 + i) 5)) rfl dX3_wearOn_1 ?_
  refine lv_if_eq (tgt := 42) hx hb dX3_wearOn_4 (by decide) (fun c_1 => ?_) (fun c_1 => ?_)
  · skip
    exact (sy_vret hx hb hr hlocks hE hP hS dX3_wearOn_42 ⟨Nat.le_of_ble_eq_true rfl, Nat.le_of_ble_eq_true rfl⟩ (by unfold fX3_wearOn; rw [if_pos c_1] <;> rfl))
  · skip
    refine lv_aload_n hx hb dX3_wearOn_7 rfl (lv_at hl 0 rfl) ?_
    refine sy_getRX3 hx hb hts hown hE hP (100 + i) (sy_kdT hi hT) 4 (by decide) (hts _ (u_in uk_2_82)) (v := .int (g (100 + i) 4)) rfl dX3_wearOn_8 ?_
    refine lv_bipush (v := 10) hx hb dX3_wearOn_11 (by decide) ?_
    refine lv_icmp_ge (tgt := 42) hx hb dX3_wearOn_13 (by decide) (fun c_2 => ?_) (fun c_2 => ?_)
    · skip
      exact (sy_vret hx hb hr hlocks hE hP hS dX3_wearOn_42 ⟨Nat.le_of_ble_eq_true rfl, Nat.le_of_ble_eq_true rfl⟩ (by unfold fX3_wearOn; rw [if_neg c_1, if_pos c_2] <;> rfl))
    · skip
      refine lv_aload_n hx hb dX3_wearOn_16 rfl (lv_at hl 0 rfl) ?_
      refine lv_iload_n hx hb dX3_wearOn_17 rfl (lv_at hl 1 rfl) ?_
      refine sy_ki (sy_rV (o := (100 + i)) (As := [.int x0]) (rest := []) ⟨hx, hb, hml, hown, hts⟩ hE hP hS (mX3_furWearsOn l hfl Z nT nK cT cK ad g q i x0 hT hi) (cwV 1 hts (gu_V uk_4_17 uk_4_19 uk_0_12 uk_1_15 uk_4_20) rfl rfl rfl (by decide +kernel) ⟨Nat.le_of_ble_eq_true rfl, Nat.le_of_ble_eq_true rfl⟩) (sy_recv (kc := 4) hE hP (sy_kdT hi hT) (by decide) rfl rfl rfl) rfl hl.1 rfl (Nat.le_of_ble_eq_true rfl) dX3_wearOn_18 ⟨Nat.le_of_ble_eq_true rfl, Nat.le_of_ble_eq_true rfl⟩) hS (fun r_e_3 g_e_3 q_e_3 H locs e_3 hP hS => ?_)
      cases e_3
      refine lv_if_ne (tgt := 32) hx hb dX3_wearOn_21 (by decide) (fun c_4 => ?_) (fun c_4 => ?_)
      · skip
        refine lv_aload_n hx hb dX3_wearOn_32 rfl (lv_at hl 0 rfl) ?_
        refine lv_dup hx hb dX3_wearOn_33 rfl ?_
        refine sy_getRX3 hx hb hts hown hE hP (100 + i) (sy_kdT hi hT) 4 (by decide) (hts _ (u_in uk_2_82)) (v := .int (g (100 + i) 4)) rfl dX3_wearOn_34 ?_
        refine lv_iconst (v := 1) hx hb dX3_wearOn_37 (by decide) ?_
        refine lv_iadd hx hb dX3_wearOn_38 ?_
        refine sy_putRX3 hx hb hts hown hE hP hS (100 + i) (sy_kdT hi hT) 4 (by decide) (hts _ (u_in uk_2_82)) rfl (ty := .int) (by decide +kernel) rfl rfl (sy_up g (100 + i) 4 ((g (100 + i) 4) + 1)) q (by rw [sy_up_s g (100 + i) 4 ((g (100 + i) 4) + 1)]; exact se_RX3_4 _ _ _ _ _ _ _) (fun _ h9 => sy_up_o _ _ _ h9) (fun _ _ => rfl) dX3_wearOn_39 (fun H locs hP hS => ?_)
        exact (sy_vret hx hb hr hlocks hE hP hS dX3_wearOn_42 ⟨Nat.le_of_ble_eq_true rfl, Nat.le_of_ble_eq_true rfl⟩ (by unfold fX3_wearOn; rw [if_neg c_1, if_neg c_2, if_neg c_4] <;> rfl))
      · skip
        refine lv_aload_n hx hb dX3_wearOn_24 rfl (lv_at hl 0 rfl) ?_
        refine lv_iload_n hx hb dX3_wearOn_25 rfl (lv_at hl 1 rfl) ?_
        refine sy_ki (sy_rV (o := (100 + i)) (As := [.int x0]) (rest := []) ⟨hx, hb, hml, hown, hts⟩ hE hP hS (mX3_clockWearsOn l hfl Z nT nK cT cK ad g q i x0 hT hi) (cwV 1 hts (gu_V uk_4_21 uk_4_23 uk_0_13 uk_1_15 uk_4_24) rfl rfl rfl (by decide +kernel) ⟨Nat.le_of_ble_eq_true rfl, Nat.le_of_ble_eq_true rfl⟩) (sy_recv (kc := 4) hE hP (sy_kdT hi hT) (by decide) rfl rfl rfl) rfl hl.1 rfl (Nat.le_of_ble_eq_true rfl) dX3_wearOn_26 ⟨Nat.le_of_ble_eq_true rfl, Nat.le_of_ble_eq_true rfl⟩) hS (fun r_e_5 g_e_5 q_e_5 H locs e_5 hP hS => ?_)
        cases e_5
        refine lv_if_eq (tgt := 42) hx hb dX3_wearOn_29 (by decide) (fun c_6 => ?_) (fun c_6 => ?_)
        · skip
          exact (sy_vret hx hb hr hlocks hE hP hS dX3_wearOn_42 ⟨Nat.le_of_ble_eq_true rfl, Nat.le_of_ble_eq_true rfl⟩ (by unfold fX3_wearOn; rw [if_neg c_1, if_neg c_2, if_pos c_4, if_pos c_6] <;> rfl))
        · skip
          refine lv_aload_n hx hb dX3_wearOn_32 rfl (lv_at hl 0 rfl) ?_
          refine lv_dup hx hb dX3_wearOn_33 rfl ?_
          refine sy_getRX3 hx hb hts hown hE hP (100 + i) (sy_kdT hi hT) 4 (by decide) (hts _ (u_in uk_2_82)) (v := .int (g (100 + i) 4)) rfl dX3_wearOn_34 ?_
          refine lv_iconst (v := 1) hx hb dX3_wearOn_37 (by decide) ?_
          refine lv_iadd hx hb dX3_wearOn_38 ?_
          refine sy_putRX3 hx hb hts hown hE hP hS (100 + i) (sy_kdT hi hT) 4 (by decide) (hts _ (u_in uk_2_82)) rfl (ty := .int) (by decide +kernel) rfl rfl (sy_up g (100 + i) 4 ((g (100 + i) 4) + 1)) q (by rw [sy_up_s g (100 + i) 4 ((g (100 + i) 4) + 1)]; exact se_RX3_4 _ _ _ _ _ _ _) (fun _ h9 => sy_up_o _ _ _ h9) (fun _ _ => rfl) dX3_wearOn_39 (fun H locs hP hS => ?_)
          exact (sy_vret hx hb hr hlocks hE hP hS dX3_wearOn_42 ⟨Nat.le_of_ble_eq_true rfl, Nat.le_of_ble_eq_true rfl⟩ (by unfold fX3_wearOn; rw [if_neg c_1, if_neg c_2, if_pos c_4, if_neg c_6] <;> rfl))
def fX3_store (g : sG) (q : sQ) (i j : Nat) (x0 x1 : Int32) : sG × sQ := ((sy_up (sy_up (sy_up (sy_up (sy_up g (100 + i) 5 1) (100 + i) 7 x0) (100 + i) 8 x0) (100 + i) 9 x1) (100 + i) 10 x1), (sy_up q (100 + i) 11 (some (200 + j))))
set_option maxHeartbeats 4000000 in
set_option maxRecDepth 100000 in
theorem mX3_store (l : Launch) (hfl : l.stackTraces = false) (Z : sZ) (nT nK cT cK : Nat) (ad : Nat → Nat) (g : sG) (q : sQ) (i j : Nat) (x0 x1 : Int32) (hT : nT ≤ 100) (hi : i < nT) : sMv l Z yX3_store (uW (.code yX3_store cX3_store 4 none)) { frames := 0, cells := 0, slots := 0, locals := 0 } [.ref (ad (100 + i)), .ref (ad (200 + j)), .int x0, .int x1] nT nK cT cK ad g q (fun g1 q1 => (g1, q1) = fX3_store g q i j x0 x1) := by
  refine Met.ofW (cc := cX3_store) (maxL := 4) (ret := none) (by decide) rfl ?_
  intro p e s m args below meth c s₁ B hml hv
  obtain ⟨rfl, hE, hP⟩ := hv
  have hx := B.exec
  have hb := B.bytes
  have hr := B.returns
  have hts := atoms_spec (ws := uW (.code yX3_store cX3_store 4 none)) B.pre
  have hown : s.vm.findClass RX3 = some m.cls := findClass_of_methodNamed B.named
  have hlocks := B.notSynchronized
  have hS : va_S (sy_A Z) s.heap s.heap [] := va_S.rf
  have hl := lv_entry ([.ref (ad (100 + i)), .ref (ad (200 + j)), .int x0, .int x1]) (n := 4) (Nat.le_of_ble_eq_true rfl)
  rw [lg_entry_eq]
  generalize (lg_sl ([.ref (ad (100 + i)), .ref (ad (200 + j)), .int x0, .int x1]) ++ List.replicate (4 - (lg_sl ([.ref (ad (100 + i)), .ref (ad (200 + j)), .int x0, .int x1])).length) Slot.unset).toArray = ls at hl ⊢
  have hl : lv_has ls 4 [(0, .ref (ad (100 + i))), (1, .ref (ad (200 + j))), (2, .int x0), (3, .int x1)] := hl
  refine lv_aload_n hx hb dX3_store_0 rfl (lv_at hl 0 rfl) ?_
  refine lv_iconst (v := 1) hx hb dX3_store_1 (by decide) ?_
  refine sy_putRX3 hx hb hts hown hE hP hS (100 + i) (sy_kdT hi hT) 5 (by decide) (hts _ (u_in uk_2_84)) rfl (ty := .boolean) (by decide +kernel) (by show Value.int (1 &&& 1) = .int 1; exact congrArg Value.int (by decide)) rfl (sy_up g (100 + i) 5 1) q (by rw [sy_up_s g (100 + i) 5 1]; exact se_RX3_5 _ _ _ _ _ _ _) (fun _ h9 => sy_up_o _ _ _ h9) (fun _ _ => rfl) dX3_store_2 (fun H locs hP hS => ?_)
  refine lv_aload_n hx hb dX3_store_5 rfl (lv_at hl 0 rfl) ?_
  refine lv_aload_n hx hb dX3_store_6 rfl (lv_at hl 1 rfl) ?_
  refine sy_putRX3 hx hb hts hown hE hP hS (100 + i) (sy_kdT hi hT) 11 (by decide) (hts _ (u_in uk_2_96)) rfl (ty := .object "Pledgehouse$Ticket") (by decide +kernel) rfl rfl (sy_up g (100 + i) 5 1) (sy_up q (100 + i) 11 (some (200 + j))) (by rw [sy_up_s q (100 + i) 11 (some (200 + j))]; exact se_RX3_11 _ _ _ _ _ _ _) (fun _ _ => rfl) (fun _ h9 => sy_up_o _ _ _ h9) dX3_store_7 (fun H locs hP hS => ?_)
  refine lv_aload_n hx hb dX3_store_10 rfl (lv_at hl 0 rfl) ?_
  refine lv_iload_n hx hb dX3_store_11 rfl (lv_at hl 2 rfl) ?_
  refine sy_putRX3 hx hb hts hown hE hP hS (100 + i) (sy_kdT hi hT) 7 (by decide) (hts _ (u_in uk_2_89)) rfl (ty := .int) (by decide +kernel) rfl rfl (sy_up (sy_up g (100 + i) 5 1) (100 + i) 7 x0) (sy_up q (100 + i) 11 (some (200 + j))) (by rw [sy_up_s (sy_up g (100 + i) 5 1) (100 + i) 7 x0]; exact se_RX3_7 _ _ _ _ _ _ _) (fun _ h9 => sy_up_o _ _ _ h9) (fun _ _ => rfl) dX3_store_12 (fun H locs hP hS => ?_)
  refine lv_aload_n hx hb dX3_store_15 rfl (lv_at hl 0 rfl) ?_
  refine lv_iload_n hx hb dX3_store_16 rfl (lv_at hl 2 rfl) ?_
  refine sy_putRX3 hx hb hts hown hE hP hS (100 + i) (sy_kdT hi hT) 8 (by decide) (hts _ (u_in uk_2_91)) rfl (ty := .int) (by decide +kernel) rfl rfl (sy_up (sy_up (sy_up g (100 + i) 5 1) (100 + i) 7 x0) (100 + i) 8 x0) (sy_up q (100 + i) 11 (some (200 + j))) (by rw [sy_up_s (sy_up (sy_up g (100 + i) 5 1) (100 + i) 7 x0) (100 + i) 8 x0]; exact se_RX3_8 _ _ _ _ _ _ _) (fun _ h9 => sy_up_o _ _ _ h9) (fun _ _ => rfl) dX3_store_17 (fun H locs hP hS => ?_)
  refine lv_aload_n hx hb dX3_store_20 rfl (lv_at hl 0 rfl) ?_
  refine lv_iload_n hx hb dX3_store_21 rfl (lv_at hl 3 rfl) ?_
  refine sy_putRX3 hx hb hts hown hE hP hS (100 + i) (sy_kdT hi hT) 9 (by decide) (hts _ (u_in uk_2_93)) rfl (ty := .int) (by decide +kernel) rfl rfl (sy_up (sy_up (sy_up (sy_up g (100 + i) 5 1) (100 + i) 7 x0) (100 + i) 8 x0) (100 + i) 9 x1) (sy_up q (100 + i) 11 (some (200 + j))) (by rw [sy_up_s (sy_up (sy_up (sy_up g (100 + i) 5 1) (100 + i) 7 x0) (100 + i) 8 x0) (100 + i) 9 x1]; exact se_RX3_9 _ _ _ _ _ _ _) (fun _ h9 => sy_up_o _ _ _ h9) (fun _ _ => rfl) dX3_store_22 (fun H locs hP hS => ?_)
  refine lv_aload_n hx hb dX3_store_25 rfl (lv_at hl 0 rfl) ?_
  refine lv_iload_n hx hb dX3_store_26 rfl (lv_at hl 3 rfl) ?_
  refine sy_putRX3 hx hb hts hown hE hP hS (100 + i) (sy_kdT hi hT) 10 (by decide) (hts _ (u_in uk_2_94)) rfl (ty := .int) (by decide +kernel) rfl rfl (sy_up (sy_up (sy_up (sy_up (sy_up g (100 + i) 5 1) (100 + i) 7 x0) (100 + i) 8 x0) (100 + i) 9 x1) (100 + i) 10 x1) (sy_up q (100 + i) 11 (some (200 + j))) (by rw [sy_up_s (sy_up (sy_up (sy_up (sy_up g (100 + i) 5 1) (100 + i) 7 x0) (100 + i) 8 x0) (100 + i) 9 x1) (100 + i) 10 x1]; exact se_RX3_10 _ _ _ _ _ _ _) (fun _ h9 => sy_up_o _ _ _ h9) (fun _ _ => rfl) dX3_store_27 (fun H locs hP hS => ?_)
  exact (sy_vret hx hb hr hlocks hE hP hS dX3_store_30 ⟨Nat.le_of_ble_eq_true rfl, Nat.le_of_ble_eq_true rfl⟩ (by unfold fX3_store; rfl))
def fX4_begin (g : sG) (q : sQ) (j : Nat) (x0 x1 : Int32) : sG := (sy_up (sy_up g (200 + j) 9 x0) (200 + j) 10 x1)
set_option maxHeartbeats 4000000 in
set_option maxRecDepth 100000 in
theorem mX4_begin (l : Launch) (hfl : l.stackTraces = false) (Z : sZ) (nT nK cT cK : Nat) (ad : Nat → Nat) (g : sG) (q : sQ) (j : Nat) (x0 x1 : Int32) (hT : nT ≤ 100) (hj : j < nK) : sMv l Z yX4_begin (uW (.code yX4_begin cX4_begin 3 none)) { frames := 0, cells := 0, slots := 0, locals := 0 } [.ref (ad (200 + j)), .int x0, .int x1] nT nK cT cK ad g q (fun g1 q1 => (g1, q1) = (fX4_begin g q j x0 x1, q)) := by
  refine Met.ofW (cc := cX4_begin) (maxL := 3) (ret := none) (by decide) rfl ?_
  intro p e s m args below meth c s₁ B hml hv
  obtain ⟨rfl, hE, hP⟩ := hv
  have hx := B.exec
  have hb := B.bytes
  have hr := B.returns
  have hts := atoms_spec (ws := uW (.code yX4_begin cX4_begin 3 none)) B.pre
  have hown : s.vm.findClass RX4 = some m.cls := findClass_of_methodNamed B.named
  have hlocks := B.notSynchronized
  have hS : va_S (sy_A Z) s.heap s.heap [] := va_S.rf
  have hl := lv_entry ([.ref (ad (200 + j)), .int x0, .int x1]) (n := 3) (Nat.le_of_ble_eq_true rfl)
  rw [lg_entry_eq]
  generalize (lg_sl ([.ref (ad (200 + j)), .int x0, .int x1]) ++ List.replicate (3 - (lg_sl ([.ref (ad (200 + j)), .int x0, .int x1])).length) Slot.unset).toArray = ls at hl ⊢
  have hl : lv_has ls 3 [(0, .ref (ad (200 + j))), (1, .int x0), (2, .int x1)] := hl
  refine lv_aload_n hx hb dX4_begin_0 rfl (lv_at hl 0 rfl) ?_
  refine lv_iload_n hx hb dX4_begin_1 rfl (lv_at hl 1 rfl) ?_
  refine sy_putRX4 hx hb hts hown hE hP hS (200 + j) (sy_kdK hj) 9 (by decide) (hts _ (u_in uk_3_86)) rfl (ty := .int) (by decide +kernel) rfl rfl (sy_up g (200 + j) 9 x0) q (by rw [sy_up_s g (200 + j) 9 x0]; exact se_RX4_9 _ _ _ _ _ _ _) (fun _ h9 => sy_up_o _ _ _ h9) (fun _ _ => rfl) dX4_begin_2 (fun H locs hP hS => ?_)
  refine lv_aload_n hx hb dX4_begin_5 rfl (lv_at hl 0 rfl) ?_
  refine lv_iload_n hx hb dX4_begin_6 rfl (lv_at hl 2 rfl) ?_
  refine sy_putRX4 hx hb hts hown hE hP hS (200 + j) (sy_kdK hj) 10 (by decide) (hts _ (u_in uk_3_88)) rfl (ty := .int) (by decide +kernel) rfl rfl (sy_up (sy_up g (200 + j) 9 x0) (200 + j) 10 x1) q (by rw [sy_up_s (sy_up g (200 + j) 9 x0) (200 + j) 10 x1]; exact se_RX4_10 _ _ _ _ _ _ _) (fun _ h9 => sy_up_o _ _ _ h9) (fun _ _ => rfl) dX4_begin_7 (fun H locs hP hS => ?_)
  exact (sy_vret hx hb hr hlocks hE hP hS dX4_begin_10 ⟨Nat.le_of_ble_eq_true rfl, Nat.le_of_ble_eq_true rfl⟩ (by unfold fX4_begin; rfl))
def fX4_lastDay (g : sG) (q : sQ) (j : Nat) : Int32 := ((g (200 + j) 9) + (g (200 + j) 10))
set_option maxHeartbeats 4000000 in
set_option maxRecDepth 100000 in
theorem mX4_lastDay (l : Launch) (hfl : l.stackTraces = false) (Z : sZ) (nT nK cT cK : Nat) (ad : Nat → Nat) (g : sG) (q : sQ) (j : Nat) (hT : nT ≤ 100) (hj : j < nK) : sMi l Z yX4_lastDay (uW (.code yX4_lastDay cX4_lastDay 1 (some .int))) { frames := 0, cells := 0, slots := 0, locals := 0 } [.ref (ad (200 + j))] nT nK cT cK ad g q (fun r g1 q1 => (r, g1, q1) = (fX4_lastDay g q j, g, q)) := by
  refine Met.ofW (cc := cX4_lastDay) (maxL := 1) (ret := (some .int)) (by decide) rfl ?_
  intro p e s m args below meth c s₁ B hml hv
  obtain ⟨rfl, hE, hP⟩ := hv
  have hx := B.exec
  have hb := B.bytes
  have hr := B.returns
  have hts := atoms_spec (ws := uW (.code yX4_lastDay cX4_lastDay 1 (some .int))) B.pre
  have hown : s.vm.findClass RX4 = some m.cls := findClass_of_methodNamed B.named
  have hlocks := B.notSynchronized
  have hS : va_S (sy_A Z) s.heap s.heap [] := va_S.rf
  have hl := lv_entry ([.ref (ad (200 + j))]) (n := 1) (Nat.le_of_ble_eq_true rfl)
  rw [lg_entry_eq]
  generalize (lg_sl ([.ref (ad (200 + j))]) ++ List.replicate (1 - (lg_sl ([.ref (ad (200 + j))])).length) Slot.unset).toArray = ls at hl ⊢
  have hl : lv_has ls 1 [(0, .ref (ad (200 + j)))] := hl
  refine lv_aload_n hx hb dX4_lastDay_0 rfl (lv_at hl 0 rfl) ?_
  refine sy_getRX4 hx hb hts hown hE hP (200 + j) (sy_kdK hj) 9 (by decide) (hts _ (u_in uk_3_86)) (v := .int (g (200 + j) 9)) rfl dX4_lastDay_1 ?_
  refine lv_aload_n hx hb dX4_lastDay_4 rfl (lv_at hl 0 rfl) ?_
  refine sy_getRX4 hx hb hts hown hE hP (200 + j) (sy_kdK hj) 10 (by decide) (hts _ (u_in uk_3_88)) (v := .int (g (200 + j) 10)) rfl dX4_lastDay_5 ?_
  refine lv_iadd hx hb dX4_lastDay_8 ?_
  exact (sy_ireti hx hb hr hlocks hE hP hS dX4_lastDay_9 ⟨Nat.le_of_ble_eq_true rfl, Nat.le_of_ble_eq_true rfl⟩ (by unfold fX4_lastDay; rfl))
def fX4_close (g : sG) (q : sQ) (j : Nat) (x0 : Int32) : sG × sQ := ((fX3_leave (sy_up g (200 + j) 7 x0) q (tg q j)).1, (fX3_leave (sy_up g (200 + j) 7 x0) q (tg q j)).2)
set_option maxHeartbeats 4000000 in
set_option maxRecDepth 100000 in
theorem mX4_close (l : Launch) (hfl : l.stackTraces = false) (Z : sZ) (nT nK cT cK : Nat) (ad : Nat → Nat) (g : sG) (q : sQ) (j : Nat) (x0 : Int32) (hT : nT ≤ 100) (hj : j < nK) (hQ : IQ nT nK q) : sMv l Z yX4_close (uW (.code yX4_close cX4_close 2 none)) { frames := 1, cells := 0, slots := 0, locals := 20 } [.ref (ad (200 + j)), .int x0] nT nK cT cK ad g q (fun g1 q1 => (g1, q1) = fX4_close g q j x0) := by
  refine Met.ofW (cc := cX4_close) (maxL := 2) (ret := none) (by decide) rfl ?_
  intro p e s m args below meth c s₁ B hml hv
  obtain ⟨rfl, hE, hP⟩ := hv
  have hx := B.exec
  have hb := B.bytes
  have hr := B.returns
  have hts := atoms_spec (ws := uW (.code yX4_close cX4_close 2 none)) B.pre
  have hown : s.vm.findClass RX4 = some m.cls := findClass_of_methodNamed B.named
  have hlocks := B.notSynchronized
  have hS : va_S (sy_A Z) s.heap s.heap [] := va_S.rf
  have hl := lv_entry ([.ref (ad (200 + j)), .int x0]) (n := 2) (Nat.le_of_ble_eq_true rfl)
  rw [lg_entry_eq]
  generalize (lg_sl ([.ref (ad (200 + j)), .int x0]) ++ List.replicate (2 - (lg_sl ([.ref (ad (200 + j)), .int x0])).length) Slot.unset).toArray = ls at hl ⊢
  have hl : lv_has ls 2 [(0, .ref (ad (200 + j))), (1, .int x0)] := hl
  refine lv_aload_n hx hb dX4_close_0 rfl (lv_at hl 0 rfl) ?_
  refine lv_iload_n hx hb dX4_close_1 rfl (lv_at hl 1 rfl) ?_
  refine sy_putRX4 hx hb hts hown hE hP hS (200 + j) (sy_kdK hj) 7 (by decide) (hts _ (u_in uk_3_82)) rfl (ty := .int) (by decide +kernel) rfl rfl (sy_up g (200 + j) 7 x0) q (by rw [sy_up_s g (200 + j) 7 x0]; exact se_RX4_7 _ _ _ _ _ _ _) (fun _ h9 => sy_up_o _ _ _ h9) (fun _ _ => rfl) dX4_close_2 (fun H locs hP hS => ?_)
  refine lv_aload_n hx hb dX4_close_5 rfl (lv_at hl 0 rfl) ?_
  refine sy_getRX4 hx hb hts hown hE hP (200 + j) (sy_kdK hj) 1 (by decide) (hts _ (u_in uk_3_70)) (v := .ref (ad (100 + (tg q j)))) (by show some (sy_rv ad (q (200 + j) 1)) = _; rw [(iq_tg hQ hj).1]; rfl) dX4_close_6 ?_
  refine sy_kv (sy_rV (o := (100 + (tg q j))) (As := []) (rest := []) ⟨hx, hb, hml, hown, hts⟩ hE hP hS (mX3_leave l hfl Z nT nK cT cK ad (sy_up g (200 + j) 7 x0) q (tg q j) hT (iq_tg hQ hj).2) (cwV 0 hts (gu_V uk_3_199 uk_3_200 uk_3_201 uk_1_15 uk_3_202) rfl rfl rfl (by decide +kernel) ⟨Nat.le_of_ble_eq_true rfl, Nat.le_of_ble_eq_true rfl⟩) (sy_recv (kc := 4) hE hP (sy_kdT (iq_tg hQ hj).2 hT) (by decide) rfl rfl rfl) rfl hl.1 rfl (Nat.le_of_ble_eq_true rfl) dX4_close_9 ⟨Nat.le_of_ble_eq_true rfl, Nat.le_of_ble_eq_true rfl⟩) hS (fun g_e_1 q_e_1 H locs e_1 hP hS => ?_)
  obtain ⟨rfl, rfl⟩ : g_e_1 = (fX3_leave (sy_up g (200 + j) 7 x0) q (tg q j)).1 ∧ q_e_1 = (fX3_leave (sy_up g (200 + j) 7 x0) q (tg q j)).2 := by rw [← e_1]; exact ⟨rfl, rfl⟩
  exact (sy_vret hx hb hr hlocks hE hP hS dX4_close_12 ⟨Nat.le_of_ble_eq_true rfl, Nat.le_of_ble_eq_true rfl⟩ (by unfold fX4_close; rfl))
def fX4_isOpenOrSold (g : sG) (q : sQ) (j : Nat) : Int32 := (if (g (200 + j) 7) = 0 then 1 else (if (g (200 + j) 7) = 2 then 1 else 0))
set_option maxHeartbeats 4000000 in
set_option maxRecDepth 100000 in
theorem mX4_isOpenOrSold (l : Launch) (hfl : l.stackTraces = false) (Z : sZ) (nT nK cT cK : Nat) (ad : Nat → Nat) (g : sG) (q : sQ) (j : Nat) (hT : nT ≤ 100) (hj : j < nK) : sMi l Z yX4_isOpenOrSold (uW (.code yX4_isOpenOrSold cX4_isOpenOrSold 1 (some .boolean))) { frames := 0, cells := 0, slots := 0, locals := 0 } [.ref (ad (200 + j))] nT nK cT cK ad g q (fun r g1 q1 => (r, g1, q1) = (fX4_isOpenOrSold g q j, g, q)) := by
  refine Met.ofW (cc := cX4_isOpenOrSold) (maxL := 1) (ret := (some .boolean)) (by decide) rfl ?_
  intro p e s m args below meth c s₁ B hml hv
  obtain ⟨rfl, hE, hP⟩ := hv
  have hx := B.exec
  have hb := B.bytes
  have hr := B.returns
  have hts := atoms_spec (ws := uW (.code yX4_isOpenOrSold cX4_isOpenOrSold 1 (some .boolean))) B.pre
  have hown : s.vm.findClass RX4 = some m.cls := findClass_of_methodNamed B.named
  have hlocks := B.notSynchronized
  have hS : va_S (sy_A Z) s.heap s.heap [] := va_S.rf
  have hl := lv_entry ([.ref (ad (200 + j))]) (n := 1) (Nat.le_of_ble_eq_true rfl)
  rw [lg_entry_eq]
  generalize (lg_sl ([.ref (ad (200 + j))]) ++ List.replicate (1 - (lg_sl ([.ref (ad (200 + j))])).length) Slot.unset).toArray = ls at hl ⊢
  have hl : lv_has ls 1 [(0, .ref (ad (200 + j)))] := hl
  refine lv_aload_n hx hb dX4_isOpenOrSold_0 rfl (lv_at hl 0 rfl) ?_
  refine sy_getRX4 hx hb hts hown hE hP (200 + j) (sy_kdK hj) 7 (by decide) (hts _ (u_in uk_3_82)) (v := .int (g (200 + j) 7)) rfl dX4_isOpenOrSold_1 ?_
  refine lv_if_eq (tgt := 15) hx hb dX4_isOpenOrSold_4 (by decide) (fun c_1 => ?_) (fun c_1 => ?_)
  · skip
    refine lv_iconst (v := 1) hx hb dX4_isOpenOrSold_15 (by decide) ?_
    refine lv_goto (tgt := 20) hx hb dX4_isOpenOrSold_16 (by decide) ?_
    exact (sy_iretz hx hb hr hlocks hE hP hS dX4_isOpenOrSold_20 ⟨Nat.le_of_ble_eq_true rfl, Nat.le_of_ble_eq_true rfl⟩ (by decide) (by unfold fX4_isOpenOrSold; rw [if_pos c_1] <;> rfl))
  · skip
    refine lv_aload_n hx hb dX4_isOpenOrSold_7 rfl (lv_at hl 0 rfl) ?_
    refine sy_getRX4 hx hb hts hown hE hP (200 + j) (sy_kdK hj) 7 (by decide) (hts _ (u_in uk_3_82)) (v := .int (g (200 + j) 7)) rfl dX4_isOpenOrSold_8 ?_
    refine lv_iconst (v := 2) hx hb dX4_isOpenOrSold_11 (by decide) ?_
    refine lv_icmp_ne (tgt := 19) hx hb dX4_isOpenOrSold_12 (by decide) (fun c_2 => ?_) (fun c_2 => ?_)
    · skip
      refine lv_iconst (v := 0) hx hb dX4_isOpenOrSold_19 (by decide) ?_
      exact (sy_iretz hx hb hr hlocks hE hP hS dX4_isOpenOrSold_20 ⟨Nat.le_of_ble_eq_true rfl, Nat.le_of_ble_eq_true rfl⟩ (by decide) (by unfold fX4_isOpenOrSold; rw [if_neg c_1, if_neg c_2] <;> rfl))
    · skip
      refine lv_iconst (v := 1) hx hb dX4_isOpenOrSold_15 (by decide) ?_
      refine lv_goto (tgt := 20) hx hb dX4_isOpenOrSold_16 (by decide) ?_
      exact (sy_iretz hx hb hr hlocks hE hP hS dX4_isOpenOrSold_20 ⟨Nat.le_of_ble_eq_true rfl, Nat.le_of_ble_eq_true rfl⟩ (by decide) (by unfold fX4_isOpenOrSold; rw [if_neg c_1, if_pos c_2] <;> rfl))
def fX4_hasNotice (g : sG) (q : sQ) (j : Nat) : Int32 := (if (g (200 + j) 11) = (-1) then 0 else 1)
set_option maxHeartbeats 4000000 in
set_option maxRecDepth 100000 in
theorem mX4_hasNotice (l : Launch) (hfl : l.stackTraces = false) (Z : sZ) (nT nK cT cK : Nat) (ad : Nat → Nat) (g : sG) (q : sQ) (j : Nat) (hT : nT ≤ 100) (hj : j < nK) : sMi l Z yX4_hasNotice (uW (.code yX4_hasNotice cX4_hasNotice 1 (some .boolean))) { frames := 0, cells := 0, slots := 0, locals := 0 } [.ref (ad (200 + j))] nT nK cT cK ad g q (fun r g1 q1 => (r, g1, q1) = (fX4_hasNotice g q j, g, q)) := by
  refine Met.ofW (cc := cX4_hasNotice) (maxL := 1) (ret := (some .boolean)) (by decide) rfl ?_
  intro p e s m args below meth c s₁ B hml hv
  obtain ⟨rfl, hE, hP⟩ := hv
  have hx := B.exec
  have hb := B.bytes
  have hr := B.returns
  have hts := atoms_spec (ws := uW (.code yX4_hasNotice cX4_hasNotice 1 (some .boolean))) B.pre
  have hown : s.vm.findClass RX4 = some m.cls := findClass_of_methodNamed B.named
  have hlocks := B.notSynchronized
  have hS : va_S (sy_A Z) s.heap s.heap [] := va_S.rf
  have hl := lv_entry ([.ref (ad (200 + j))]) (n := 1) (Nat.le_of_ble_eq_true rfl)
  rw [lg_entry_eq]
  generalize (lg_sl ([.ref (ad (200 + j))]) ++ List.replicate (1 - (lg_sl ([.ref (ad (200 + j))])).length) Slot.unset).toArray = ls at hl ⊢
  have hl : lv_has ls 1 [(0, .ref (ad (200 + j)))] := hl
  refine lv_aload_n hx hb dX4_hasNotice_0 rfl (lv_at hl 0 rfl) ?_
  refine sy_getRX4 hx hb hts hown hE hP (200 + j) (sy_kdK hj) 11 (by decide) (hts _ (u_in uk_3_89)) (v := .int (g (200 + j) 11)) rfl dX4_hasNotice_1 ?_
  refine lv_iconst (v := (-1)) hx hb dX4_hasNotice_4 (by decide) ?_
  refine lv_icmp_eq (tgt := 12) hx hb dX4_hasNotice_5 (by decide) (fun c_1 => ?_) (fun c_1 => ?_)
  · skip
    refine lv_iconst (v := 0) hx hb dX4_hasNotice_12 (by decide) ?_
    exact (sy_iretz hx hb hr hlocks hE hP hS dX4_hasNotice_13 ⟨Nat.le_of_ble_eq_true rfl, Nat.le_of_ble_eq_true rfl⟩ (by decide) (by unfold fX4_hasNotice; rw [if_pos c_1] <;> rfl))
  · skip
    refine lv_iconst (v := 1) hx hb dX4_hasNotice_8 (by decide) ?_
    refine lv_goto (tgt := 13) hx hb dX4_hasNotice_9 (by decide) ?_
    exact (sy_iretz hx hb hr hlocks hE hP hS dX4_hasNotice_13 ⟨Nat.le_of_ble_eq_true rfl, Nat.le_of_ble_eq_true rfl⟩ (by decide) (by unfold fX4_hasNotice; rw [if_neg c_1] <;> rfl))
def fX4_isBarredByList (g : sG) (q : sQ) (j : Nat) : Int32 := (if (g (200 + j) 7) = 0 then (if (g (100 + (tg q j)) 6) = 0 then 0 else 1) else 0)
set_option maxHeartbeats 4000000 in
set_option maxRecDepth 100000 in
theorem mX4_isBarredByList (l : Launch) (hfl : l.stackTraces = false) (Z : sZ) (nT nK cT cK : Nat) (ad : Nat → Nat) (g : sG) (q : sQ) (j : Nat) (hT : nT ≤ 100) (hj : j < nK) (hQ : IQ nT nK q) : sMi l Z yX4_isBarredByList (uW (.code yX4_isBarredByList cX4_isBarredByList 1 (some .boolean))) { frames := 0, cells := 0, slots := 0, locals := 0 } [.ref (ad (200 + j))] nT nK cT cK ad g q (fun r g1 q1 => (r, g1, q1) = (fX4_isBarredByList g q j, g, q)) := by
  refine Met.ofW (cc := cX4_isBarredByList) (maxL := 1) (ret := (some .boolean)) (by decide) rfl ?_
  intro p e s m args below meth c s₁ B hml hv
  obtain ⟨rfl, hE, hP⟩ := hv
  have hx := B.exec
  have hb := B.bytes
  have hr := B.returns
  have hts := atoms_spec (ws := uW (.code yX4_isBarredByList cX4_isBarredByList 1 (some .boolean))) B.pre
  have hown : s.vm.findClass RX4 = some m.cls := findClass_of_methodNamed B.named
  have hlocks := B.notSynchronized
  have hS : va_S (sy_A Z) s.heap s.heap [] := va_S.rf
  have hl := lv_entry ([.ref (ad (200 + j))]) (n := 1) (Nat.le_of_ble_eq_true rfl)
  rw [lg_entry_eq]
  generalize (lg_sl ([.ref (ad (200 + j))]) ++ List.replicate (1 - (lg_sl ([.ref (ad (200 + j))])).length) Slot.unset).toArray = ls at hl ⊢
  have hl : lv_has ls 1 [(0, .ref (ad (200 + j)))] := hl
  refine lv_aload_n hx hb dX4_isBarredByList_0 rfl (lv_at hl 0 rfl) ?_
  refine sy_getRX4 hx hb hts hown hE hP (200 + j) (sy_kdK hj) 7 (by decide) (hts _ (u_in uk_3_82)) (v := .int (g (200 + j) 7)) rfl dX4_isBarredByList_1 ?_
  refine lv_if_ne (tgt := 21) hx hb dX4_isBarredByList_4 (by decide) (fun c_1 => ?_) (fun c_1 => ?_)
  · skip
    refine lv_iconst (v := 0) hx hb dX4_isBarredByList_21 (by decide) ?_
    exact (sy_iretz hx hb hr hlocks hE hP hS dX4_isBarredByList_22 ⟨Nat.le_of_ble_eq_true rfl, Nat.le_of_ble_eq_true rfl⟩ (by decide) (by unfold fX4_isBarredByList; rw [if_neg c_1] <;> rfl))
  · skip
    refine lv_aload_n hx hb dX4_isBarredByList_7 rfl (lv_at hl 0 rfl) ?_
    refine sy_getRX4 hx hb hts hown hE hP (200 + j) (sy_kdK hj) 1 (by decide) (hts _ (u_in uk_3_70)) (v := .ref (ad (100 + (tg q j)))) (by show some (sy_rv ad (q (200 + j) 1)) = _; rw [(iq_tg hQ hj).1]; rfl) dX4_isBarredByList_8 ?_
    refine sy_getRX3 hx hb hts hown hE hP (100 + (tg q j)) (sy_kdT (iq_tg hQ hj).2 hT) 6 (by decide) (hts _ (u_in uk_2_87)) (v := .int (g (100 + (tg q j)) 6)) rfl dX4_isBarredByList_11 ?_
    refine lv_if_eq (tgt := 21) hx hb dX4_isBarredByList_14 (by decide) (fun c_2 => ?_) (fun c_2 => ?_)
    · skip
      refine lv_iconst (v := 0) hx hb dX4_isBarredByList_21 (by decide) ?_
      exact (sy_iretz hx hb hr hlocks hE hP hS dX4_isBarredByList_22 ⟨Nat.le_of_ble_eq_true rfl, Nat.le_of_ble_eq_true rfl⟩ (by decide) (by unfold fX4_isBarredByList; rw [if_pos c_1, if_pos c_2] <;> rfl))
    · skip
      refine lv_iconst (v := 1) hx hb dX4_isBarredByList_17 (by decide) ?_
      refine lv_goto (tgt := 22) hx hb dX4_isBarredByList_18 (by decide) ?_
      exact (sy_iretz hx hb hr hlocks hE hP hS dX4_isBarredByList_22 ⟨Nat.le_of_ble_eq_true rfl, Nat.le_of_ble_eq_true rfl⟩ (by decide) (by unfold fX4_isBarredByList; rw [if_pos c_1, if_neg c_2] <;> rfl))
def fX4_isBarred (g : sG) (q : sQ) (j : Nat) : Int32 := (if (fX4_hasNotice g q j) = 0 then (if (fX4_isBarredByList g q j) = 0 then 0 else 1) else 1)
set_option maxHeartbeats 4000000 in
set_option maxRecDepth 100000 in
theorem mX4_isBarred (l : Launch) (hfl : l.stackTraces = false) (Z : sZ) (nT nK cT cK : Nat) (ad : Nat → Nat) (g : sG) (q : sQ) (j : Nat) (hT : nT ≤ 100) (hj : j < nK) (hQ : IQ nT nK q) : sMi l Z yX4_isBarred (uW (.code yX4_isBarred cX4_isBarred 1 (some .boolean))) { frames := 1, cells := 0, slots := 0, locals := 20 } [.ref (ad (200 + j))] nT nK cT cK ad g q (fun r g1 q1 => (r, g1, q1) = (fX4_isBarred g q j, g, q)) := by
  refine Met.ofW (cc := cX4_isBarred) (maxL := 1) (ret := (some .boolean)) (by decide) rfl ?_
  intro p e s m args below meth c s₁ B hml hv
  obtain ⟨rfl, hE, hP⟩ := hv
  have hx := B.exec
  have hb := B.bytes
  have hr := B.returns
  have hts := atoms_spec (ws := uW (.code yX4_isBarred cX4_isBarred 1 (some .boolean))) B.pre
  have hown : s.vm.findClass RX4 = some m.cls := findClass_of_methodNamed B.named
  have hlocks := B.notSynchronized
  have hS : va_S (sy_A Z) s.heap s.heap [] := va_S.rf
  have hl := lv_entry ([.ref (ad (200 + j))]) (n := 1) (Nat.le_of_ble_eq_true rfl)
  rw [lg_entry_eq]
  generalize (lg_sl ([.ref (ad (200 + j))]) ++ List.replicate (1 - (lg_sl ([.ref (ad (200 + j))])).length) Slot.unset).toArray = ls at hl ⊢
  have hl : lv_has ls 1 [(0, .ref (ad (200 + j)))] := hl
  refine lv_aload_n hx hb dX4_isBarred_0 rfl (lv_at hl 0 rfl) ?_
  refine sy_ki (sy_rV (o := (200 + j)) (As := []) (rest := []) ⟨hx, hb, hml, hown, hts⟩ hE hP hS (mX4_hasNotice l hfl Z nT nK cT cK ad g q j hT hj) (cwV 0 hts (gu_V uk_4_29 uk_3_167 uk_3_168 uk_1_22 uk_3_169) rfl rfl rfl (by decide +kernel) ⟨Nat.le_of_ble_eq_true rfl, Nat.le_of_ble_eq_true rfl⟩) (sy_recv (kc := 5) hE hP (sy_kdK hj) (by decide) rfl rfl rfl) rfl hl.1 rfl (Nat.le_of_ble_eq_true rfl) dX4_isBarred_1 ⟨Nat.le_of_ble_eq_true rfl, Nat.le_of_ble_eq_true rfl⟩) hS (fun r_e_1 g_e_1 q_e_1 H locs e_1 hP hS => ?_)
  cases e_1
  refine lv_if_ne (tgt := 14) hx hb dX4_isBarred_4 (by decide) (fun c_2 => ?_) (fun c_2 => ?_)
  · skip
    refine lv_iconst (v := 1) hx hb dX4_isBarred_14 (by decide) ?_
    refine lv_goto (tgt := 19) hx hb dX4_isBarred_15 (by decide) ?_
    exact (sy_iretz hx hb hr hlocks hE hP hS dX4_isBarred_19 ⟨Nat.le_of_ble_eq_true rfl, Nat.le_of_ble_eq_true rfl⟩ (by decide) (by unfold fX4_isBarred; rw [if_neg c_2] <;> rfl))
  · skip
    refine lv_aload_n hx hb dX4_isBarred_7 rfl (lv_at hl 0 rfl) ?_
    refine sy_ki (sy_rV (o := (200 + j)) (As := []) (rest := []) ⟨hx, hb, hml, hown, hts⟩ hE hP hS (mX4_isBarredByList l hfl Z nT nK cT cK ad g q j hT hj hQ) (cwV 0 hts (gu_V uk_4_159 uk_4_85 uk_4_86 uk_1_22 uk_4_87) rfl rfl rfl (by decide +kernel) ⟨Nat.le_of_ble_eq_true rfl, Nat.le_of_ble_eq_true rfl⟩) (sy_recv (kc := 5) hE hP (sy_kdK hj) (by decide) rfl rfl rfl) rfl hl.1 rfl (Nat.le_of_ble_eq_true rfl) dX4_isBarred_8 ⟨Nat.le_of_ble_eq_true rfl, Nat.le_of_ble_eq_true rfl⟩) hS (fun r_e_3 g_e_3 q_e_3 H locs e_3 hP hS => ?_)
    cases e_3
    refine lv_if_eq (tgt := 18) hx hb dX4_isBarred_11 (by decide) (fun c_4 => ?_) (fun c_4 => ?_)
    · skip
      refine lv_iconst (v := 0) hx hb dX4_isBarred_18 (by decide) ?_
      exact (sy_iretz hx hb hr hlocks hE hP hS dX4_isBarred_19 ⟨Nat.le_of_ble_eq_true rfl, Nat.le_of_ble_eq_true rfl⟩ (by decide) (by unfold fX4_isBarred; rw [if_pos c_2, if_pos c_4] <;> rfl))
    · skip
      refine lv_iconst (v := 1) hx hb dX4_isBarred_14 (by decide) ?_
      refine lv_goto (tgt := 19) hx hb dX4_isBarred_15 (by decide) ?_
      exact (sy_iretz hx hb hr hlocks hE hP hS dX4_isBarred_19 ⟨Nat.le_of_ble_eq_true rfl, Nat.le_of_ble_eq_true rfl⟩ (by decide) (by unfold fX4_isBarred; rw [if_pos c_2, if_neg c_4] <;> rfl))
def fX4_endNoticeOn (g : sG) (q : sQ) (j : Nat) (x0 : Int32) : sG := (if (fX4_hasNotice g q j) = 0 then g else (if (x0 - (g (200 + j) 12)) < 28 then g else (sy_up (sy_up g (200 + j) 6 (g (200 + j) 11)) (200 + j) 11 (-1))))
set_option maxHeartbeats 4000000 in
set_option maxRecDepth 100000 in
theorem mX4_endNoticeOn (l : Launch) (hfl : l.stackTraces = false) (Z : sZ) (nT nK cT cK : Nat) (ad : Nat → Nat) (g : sG) (q : sQ) (j : Nat) (x0 : Int32) (hT : nT ≤ 100) (hj : j < nK) : sMv l Z yX4_endNoticeOn (uW (.code yX4_endNoticeOn cX4_endNoticeOn 2 none)) { frames := 1, cells := 0, slots := 0, locals := 20 } [.ref (ad (200 + j)), .int x0] nT nK cT cK ad g q (fun g1 q1 => (g1, q1) = (fX4_endNoticeOn g q j x0, q)) := by
  refine Met.ofW (cc := cX4_endNoticeOn) (maxL := 2) (ret := none) (by decide) rfl ?_
  intro p e s m args below meth c s₁ B hml hv
  obtain ⟨rfl, hE, hP⟩ := hv
  have hx := B.exec
  have hb := B.bytes
  have hr := B.returns
  have hts := atoms_spec (ws := uW (.code yX4_endNoticeOn cX4_endNoticeOn 2 none)) B.pre
  have hown : s.vm.findClass RX4 = some m.cls := findClass_of_methodNamed B.named
  have hlocks := B.notSynchronized
  have hS : va_S (sy_A Z) s.heap s.heap [] := va_S.rf
  have hl := lv_entry ([.ref (ad (200 + j)), .int x0]) (n := 2) (Nat.le_of_ble_eq_true rfl)
  rw [lg_entry_eq]
  generalize (lg_sl ([.ref (ad (200 + j)), .int x0]) ++ List.replicate (2 - (lg_sl ([.ref (ad (200 + j)), .int x0])).length) Slot.unset).toArray = ls at hl ⊢
  have hl : lv_has ls 2 [(0, .ref (ad (200 + j))), (1, .int x0)] := hl
  refine lv_aload_n hx hb dX4_endNoticeOn_0 rfl (lv_at hl 0 rfl) ?_
  refine sy_ki (sy_rV (o := (200 + j)) (As := []) (rest := []) ⟨hx, hb, hml, hown, hts⟩ hE hP hS (mX4_hasNotice l hfl Z nT nK cT cK ad g q j hT hj) (cwV 0 hts (gu_V uk_4_29 uk_3_167 uk_3_168 uk_1_22 uk_3_169) rfl rfl rfl (by decide +kernel) ⟨Nat.le_of_ble_eq_true rfl, Nat.le_of_ble_eq_true rfl⟩) (sy_recv (kc := 5) hE hP (sy_kdK hj) (by decide) rfl rfl rfl) rfl hl.1 rfl (Nat.le_of_ble_eq_true rfl) dX4_endNoticeOn_1 ⟨Nat.le_of_ble_eq_true rfl, Nat.le_of_ble_eq_true rfl⟩) hS (fun r_e_1 g_e_1 q_e_1 H locs e_1 hP hS => ?_)
  cases e_1
  refine lv_if_eq (tgt := 31) hx hb dX4_endNoticeOn_4 (by decide) (fun c_2 => ?_) (fun c_2 => ?_)
  · skip
    exact (sy_vret hx hb hr hlocks hE hP hS dX4_endNoticeOn_31 ⟨Nat.le_of_ble_eq_true rfl, Nat.le_of_ble_eq_true rfl⟩ (by unfold fX4_endNoticeOn; rw [if_pos c_2] <;> rfl))
  · skip
    refine lv_iload_n hx hb dX4_endNoticeOn_7 rfl (lv_at hl 1 rfl) ?_
    refine lv_aload_n hx hb dX4_endNoticeOn_8 rfl (lv_at hl 0 rfl) ?_
    refine sy_getRX4 hx hb hts hown hE hP (200 + j) (sy_kdK hj) 12 (by decide) (hts _ (u_in uk_3_91)) (v := .int (g (200 + j) 12)) rfl dX4_endNoticeOn_9 ?_
    refine lv_isub hx hb dX4_endNoticeOn_12 ?_
    refine lv_bipush (v := 28) hx hb dX4_endNoticeOn_13 (by decide) ?_
    refine lv_icmp_lt (tgt := 31) hx hb dX4_endNoticeOn_15 (by decide) (fun c_3 => ?_) (fun c_3 => ?_)
    · skip
      exact (sy_vret hx hb hr hlocks hE hP hS dX4_endNoticeOn_31 ⟨Nat.le_of_ble_eq_true rfl, Nat.le_of_ble_eq_true rfl⟩ (by unfold fX4_endNoticeOn; rw [if_neg c_2, if_pos c_3] <;> rfl))
    · skip
      refine lv_aload_n hx hb dX4_endNoticeOn_18 rfl (lv_at hl 0 rfl) ?_
      refine lv_aload_n hx hb dX4_endNoticeOn_19 rfl (lv_at hl 0 rfl) ?_
      refine sy_getRX4 hx hb hts hown hE hP (200 + j) (sy_kdK hj) 11 (by decide) (hts _ (u_in uk_3_89)) (v := .int (g (200 + j) 11)) rfl dX4_endNoticeOn_20 ?_
      refine sy_putRX4 hx hb hts hown hE hP hS (200 + j) (sy_kdK hj) 6 (by decide) (hts _ (u_in uk_3_80)) rfl (ty := .int) (by decide +kernel) rfl rfl (sy_up g (200 + j) 6 (g (200 + j) 11)) q (by rw [sy_up_s g (200 + j) 6 (g (200 + j) 11)]; exact se_RX4_6 _ _ _ _ _ _ _) (fun _ h9 => sy_up_o _ _ _ h9) (fun _ _ => rfl) dX4_endNoticeOn_23 (fun H locs hP hS => ?_)
      refine lv_aload_n hx hb dX4_endNoticeOn_26 rfl (lv_at hl 0 rfl) ?_
      refine lv_iconst (v := (-1)) hx hb dX4_endNoticeOn_27 (by decide) ?_
      refine sy_putRX4 hx hb hts hown hE hP hS (200 + j) (sy_kdK hj) 11 (by decide) (hts _ (u_in uk_3_89)) rfl (ty := .int) (by decide +kernel) rfl rfl (sy_up (sy_up g (200 + j) 6 (g (200 + j) 11)) (200 + j) 11 (-1)) q (by rw [sy_up_s (sy_up g (200 + j) 6 (g (200 + j) 11)) (200 + j) 11 (-1)]; exact se_RX4_11 _ _ _ _ _ _ _) (fun _ h9 => sy_up_o _ _ _ h9) (fun _ _ => rfl) dX4_endNoticeOn_28 (fun H locs hP hS => ?_)
      exact (sy_vret hx hb hr hlocks hE hP hS dX4_endNoticeOn_31 ⟨Nat.le_of_ble_eq_true rfl, Nat.le_of_ble_eq_true rfl⟩ (by unfold fX4_endNoticeOn; rw [if_neg c_2, if_neg c_3] <;> rfl))
def fX4_surplusEndsOn (g : sG) (q : sQ) (j : Nat) (x0 : Int32) : Int32 := (if (g (200 + j) 14) ≤ 0 then 0 else (if (x0 - (g (200 + j) 15)) ≤ 1000 then 0 else 1))
set_option maxHeartbeats 4000000 in
set_option maxRecDepth 100000 in
theorem mX4_surplusEndsOn (l : Launch) (hfl : l.stackTraces = false) (Z : sZ) (nT nK cT cK : Nat) (ad : Nat → Nat) (g : sG) (q : sQ) (j : Nat) (x0 : Int32) (hT : nT ≤ 100) (hj : j < nK) : sMi l Z yX4_surplusEndsOn (uW (.code yX4_surplusEndsOn cX4_surplusEndsOn 2 (some .boolean))) { frames := 0, cells := 0, slots := 0, locals := 0 } [.ref (ad (200 + j)), .int x0] nT nK cT cK ad g q (fun r g1 q1 => (r, g1, q1) = (fX4_surplusEndsOn g q j x0, g, q)) := by
  refine Met.ofW (cc := cX4_surplusEndsOn) (maxL := 2) (ret := (some .boolean)) (by decide) rfl ?_
  intro p e s m args below meth c s₁ B hml hv
  obtain ⟨rfl, hE, hP⟩ := hv
  have hx := B.exec
  have hb := B.bytes
  have hr := B.returns
  have hts := atoms_spec (ws := uW (.code yX4_surplusEndsOn cX4_surplusEndsOn 2 (some .boolean))) B.pre
  have hown : s.vm.findClass RX4 = some m.cls := findClass_of_methodNamed B.named
  have hlocks := B.notSynchronized
  have hS : va_S (sy_A Z) s.heap s.heap [] := va_S.rf
  have hl := lv_entry ([.ref (ad (200 + j)), .int x0]) (n := 2) (Nat.le_of_ble_eq_true rfl)
  rw [lg_entry_eq]
  generalize (lg_sl ([.ref (ad (200 + j)), .int x0]) ++ List.replicate (2 - (lg_sl ([.ref (ad (200 + j)), .int x0])).length) Slot.unset).toArray = ls at hl ⊢
  have hl : lv_has ls 2 [(0, .ref (ad (200 + j))), (1, .int x0)] := hl
  refine lv_aload_n hx hb dX4_surplusEndsOn_0 rfl (lv_at hl 0 rfl) ?_
  refine sy_getRX4 hx hb hts hown hE hP (200 + j) (sy_kdK hj) 14 (by decide) (hts _ (u_in uk_3_95)) (v := .int (g (200 + j) 14)) rfl dX4_surplusEndsOn_1 ?_
  refine lv_if_le (tgt := 23) hx hb dX4_surplusEndsOn_4 (by decide) (fun c_1 => ?_) (fun c_1 => ?_)
  · skip
    refine lv_iconst (v := 0) hx hb dX4_surplusEndsOn_23 (by decide) ?_
    exact (sy_iretz hx hb hr hlocks hE hP hS dX4_surplusEndsOn_24 ⟨Nat.le_of_ble_eq_true rfl, Nat.le_of_ble_eq_true rfl⟩ (by decide) (by unfold fX4_surplusEndsOn; rw [if_pos c_1] <;> rfl))
  · skip
    refine lv_iload_n hx hb dX4_surplusEndsOn_7 rfl (lv_at hl 1 rfl) ?_
    refine lv_aload_n hx hb dX4_surplusEndsOn_8 rfl (lv_at hl 0 rfl) ?_
    refine sy_getRX4 hx hb hts hown hE hP (200 + j) (sy_kdK hj) 15 (by decide) (hts _ (u_in uk_3_97)) (v := .int (g (200 + j) 15)) rfl dX4_surplusEndsOn_9 ?_
    refine lv_isub hx hb dX4_surplusEndsOn_12 ?_
    refine lv_sipush (v := 1000) hx hb dX4_surplusEndsOn_13 (by decide) ?_
    refine lv_icmp_le (tgt := 23) hx hb dX4_surplusEndsOn_16 (by decide) (fun c_2 => ?_) (fun c_2 => ?_)
    · skip
      refine lv_iconst (v := 0) hx hb dX4_surplusEndsOn_23 (by decide) ?_
      exact (sy_iretz hx hb hr hlocks hE hP hS dX4_surplusEndsOn_24 ⟨Nat.le_of_ble_eq_true rfl, Nat.le_of_ble_eq_true rfl⟩ (by decide) (by unfold fX4_surplusEndsOn; rw [if_neg c_1, if_pos c_2] <;> rfl))
    · skip
      refine lv_iconst (v := 1) hx hb dX4_surplusEndsOn_19 (by decide) ?_
      refine lv_goto (tgt := 24) hx hb dX4_surplusEndsOn_20 (by decide) ?_
      exact (sy_iretz hx hb hr hlocks hE hP hS dX4_surplusEndsOn_24 ⟨Nat.le_of_ble_eq_true rfl, Nat.le_of_ble_eq_true rfl⟩ (by decide) (by unfold fX4_surplusEndsOn; rw [if_neg c_1, if_neg c_2] <;> rfl))
