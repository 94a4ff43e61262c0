theorem t2_1 {α β : Type} {x : α × β} {a : α} {b : β} (h : x = (a, b)) : x.1 = a := by rw [h]
theorem t2_2 {α β : Type} {x : α × β} {a : α} {b : β} (h : x = (a, b)) : x.2 = b := by rw [h]
theorem t3_1 {α β γ : Type} {x : α × β × γ} {a : α} {b : β} {c : γ} (h : x = (a, b, c)) : x.1 = a := by rw [h]
theorem t3_2 {α β γ : Type} {x : α × β × γ} {a : α} {b : β} {c : γ} (h : x = (a, b, c)) : x.2.1 = b := by rw [h]
theorem t3_3 {α β γ : Type} {x : α × β × γ} {a : α} {b : β} {c : γ} (h : x = (a, b, c)) : x.2.2 = c := by rw [h]
theorem cnt_of {a : Int32} {M : Nat} (h : ∃ t, t ≤ M ∧ a = nI t) (hM : M < 2 ^ 31) : a = nI a.toNatClampNeg ∧ a.toNatClampNeg ≤ M := by
  obtain ⟨t, h1, h2⟩ := h
  have h3 : a.toNatClampNeg = t := by rw [h2]; exact nI_clamp (by omega)
  rw [h3]
  exact ⟨h2, h1⟩
theorem loop_exit {a : Int32} {N k : Nat} (ha : a = nI N) (hN : N < 2 ^ 31) (hi : k ≤ N) (c : a ≤ nI k) : N = k := by
  rw [ha] at c
  have := (nI_leI hN (by omega)).mp c
  omega
theorem loop_in {a : Int32} {N k : Nat} (ha : a = nI N) (hN : N < 2 ^ 31) (hi : k ≤ N) (c : ¬ a ≤ nI k) : k < N := by
  rw [ha] at c
  have := mt (nI_leI hN (by omega)).mpr c
  omega
theorem im_told {nT nK : Nat} {g : sG} (hI : IM nT nK g) : g 0 20 = nI (g 0 20).toNatClampNeg ∧ (g 0 20).toNatClampNeg ≤ 30 := cnt_of hI.2.2.2.2.1 (by decide)
theorem im_nT {nT nK : Nat} {g : sG} (hI : IM nT nK g) : g 0 2 = nI (g 0 2).toNatClampNeg ∧ (g 0 2).toNatClampNeg ≤ 40 := cnt_of ⟨nT, hI.2.1, hI.1⟩ (by decide)
theorem im_nK {nT nK : Nat} {g : sG} (hI : IM nT nK g) : g 0 28 = nI (g 0 28).toNatClampNeg ∧ (g 0 28).toNatClampNeg ≤ 40 := cnt_of ⟨nK, hI.2.2.2.1, hI.2.2.1⟩ (by decide)
theorem im_day {nT nK : Nat} {g : sG} {x : Int32} (hI : IM nT nK g) (h : vp_in x 40) : g 0 1 = nI (g 0 1).toNatClampNeg ∧ g 37 x.toNatClampNeg = nI (g 37 x.toNatClampNeg).toNatClampNeg ∧ (g 37 x.toNatClampNeg).toNatClampNeg ≤ (g 0 1).toNatClampNeg ∧ (g 0 1).toNatClampNeg ≤ 5000 := by
  obtain ⟨d, h1, h2, h3⟩ := hI.2.2.2.2.2.2.2.2.2.2
  obtain ⟨b, h4, h5⟩ := h3 _ (vp_in_lt h)
  have e1 : (g 0 1).toNatClampNeg = d := by rw [h2]; exact nI_clamp (by omega)
  have e2 : (g 37 x.toNatClampNeg).toNatClampNeg = b := by rw [h5]; exact nI_clamp (by omega)
  rw [e1, e2]
  exact ⟨h2, h5, h4, h1⟩
theorem int_lt {a b : Int32} {A B k : Nat} (ha : a = nI A) (hb : b = nI B) (hA : A ≤ 5000) (hB : B ≤ A) (hk : k ≤ (A - B) / 14 + 1) : a < b + 14 * nI k ↔ A < B + 14 * k := by
  rw [ha, hb, show (14 : Int32) = nI 14 from rfl, pk_mul, nI_add]
  exact nI_ltI (by omega) (by omega)
theorem im_free {nT nK : Nat} {g : sG} (hI : IM nT nK g) : g 0 24 = nI (g 0 24).toNatClampNeg ∧ (g 0 24).toNatClampNeg ≤ 10 := cnt_of hI.2.2.2.2.2.1 (by decide)

def lX7_rateOn (g : sG) (q : sQ) (x0 x1 : Int32) : Nat → Int32
  | 0 => (10 + (5 * x0))
  | k0 + 1 => (if (g 22 k0) = x0 then (if x1 < (g 23 k0) then (lX7_rateOn g q x0 x1 k0) else (g 24 k0)) else (lX7_rateOn g q x0 x1 k0))
def fX7_rateOn (g : sG) (q : sQ) (x0 x1 : Int32) : Int32 := (lX7_rateOn g q x0 x1 (g 0 20).toNatClampNeg)
set_option maxHeartbeats 4000000 in
set_option maxRecDepth 100000 in
theorem mX7_rateOn (l : Launch) (hfl : l.stackTraces = false) (Z : sZ) (nT nK cT cK : Nat) (ad : Nat → Nat) (g : sG) (q : sQ) (x0 x1 : Int32) {mT mK : Nat} (hI : IM mT mK g) : sMi l Z yX7_rateOn (uW (.code yX7_rateOn cX7_rateOn 5 (some .int))) { frames := 0, cells := 0, slots := 0, locals := 0 } [.ref (ad 0), .int x0, .int x1] nT nK cT cK ad g q (fun r g1 q1 => (r, g1, q1) = (fX7_rateOn g q x0 x1, g, q)) := by
  refine Met.ofW (cc := cX7_rateOn) (maxL := 5) (ret := (some .int)) (by decide) rfl ?_
  intro p e s m args below meth c s₁ B hml hv
  obtain ⟨rfl, hE, hP⟩ := hv
  have hx := B.exec
  have hb := B.bytes
  have hr := B.returns
  have hts := atoms_spec (ws := uW (.code yX7_rateOn cX7_rateOn 5 (some .int))) B.pre
  have hown : s.vm.findClass RX7 = some m.cls := findClass_of_methodNamed B.named
  have hlocks := B.notSynchronized
  have hS : va_S (sy_A Z) s.heap s.heap [] := va_S.rf
  have hl := lv_entry ([.ref (ad 0), .int x0, .int x1]) (n := 5) (Nat.le_of_ble_eq_true rfl)
  rw [lg_entry_eq]
  generalize (lg_sl ([.ref (ad 0), .int x0, .int x1]) ++ List.replicate (5 - (lg_sl ([.ref (ad 0), .int x0, .int x1])).length) Slot.unset).toArray = ls at hl ⊢
  have hl : lv_has ls 5 [(0, .ref (ad 0)), (1, .int x0), (2, .int x1)] := hl
  refine lv_bipush (v := 10) hx hb dX7_rateOn_0 (by decide) ?_
  refine lv_iconst (v := 5) hx hb dX7_rateOn_2 (by decide) ?_
  refine lv_iload_n hx hb dX7_rateOn_3 rfl (lv_at hl 1 rfl) ?_
  refine lv_imul hx hb dX7_rateOn_4 ?_
  refine lv_iadd hx hb dX7_rateOn_5 ?_
  refine lv_istore_n (lv' := [(3, .int (10 + (5 * x0))), (0, .ref (ad 0)), (1, .int x0), (2, .int x1)]) hx hb dX7_rateOn_6 rfl hl (by decide) rfl (fun ls hl => ?_)
  refine lv_iconst (v := 0) hx hb dX7_rateOn_7 (by decide) ?_
  refine lv_istore (lv' := [(4, .int 0), (3, .int (10 + (5 * x0))), (0, .ref (ad 0)), (1, .int x0), (2, .int x1)]) hx hb dX7_rateOn_8 hl (by decide) rfl (fun ls hl => ?_)
  have hL_10 : ∀ (n k0 : Nat), k0 ≤ (g 0 20).toNatClampNeg → (g 0 20).toNatClampNeg + 1 ≤ k0 + n → ∀ (H : Heap) (locs : List Loc) (ls : Array Slot), Sy Z nT nK cT cK ad g q H → va_S (sy_A Z) s.heap H locs → lv_has ls 5 [(4, .int (nI k0)), (3, .int (lX7_rateOn g q x0 x1 k0)), (0, .ref (ad 0)), (1, .int x0), (2, .int x1)] → W p l e ({ frames := 0, cells := 0, slots := 0, locals := 0 } : Room) s m ([.ref (ad 0), .int x0, .int x1] : List Value).toArray below meth c H locs 0 0 (MQ below (sQi Z nT nK cT cK ad (fun r g1 q1 => (r, g1, q1) = (fX7_rateOn g q x0 x1, g, q))) ([.ref (ad 0), .int x0, .int x1] : List Value).toArray s 0 0 (sy_A Z)) (F0 m 10 ls []) := by
    intro n
    induction n with
    | zero => intro k0 hi hn ; exact absurd hn (by omega)
    | succ n ih =>
      intro k0 hi hn H locs ls hP hS hl
      have hN9 := (im_told hI).2
      refine lv_iload hx hb dX7_rateOn_10 (lv_at hl 0 rfl) ?_
      refine lv_aload_n hx hb dX7_rateOn_12 rfl (lv_at hl 2 rfl) ?_
      refine sy_getRX7 hx hb hts hown hE hP 0 rfl 20 (by decide) (hts _ (u_in uk_4_210)) (v := .int (g 0 20)) rfl dX7_rateOn_13 ?_
      refine lv_icmp_ge (tgt := 59) hx hb dX7_rateOn_16 (by decide) (fun c_1 => ?_) (fun c_1 => ?_)
      · skip
        obtain rfl := loop_exit (N := (g 0 20).toNatClampNeg) (im_told hI).1 (by omega) hi c_1
        refine lv_iload_n hx hb dX7_rateOn_59 rfl (lv_at hl 1 rfl) ?_
        exact (sy_ireti hx hb hr hlocks hE hP hS dX7_rateOn_60 ⟨Nat.le_of_ble_eq_true rfl, Nat.le_of_ble_eq_true rfl⟩ (by unfold fX7_rateOn; rfl))
      · skip
        have hk0 : k0 < (g 0 20).toNatClampNeg := loop_in (N := (g 0 20).toNatClampNeg) (im_told hI).1 (by omega) hi c_1
        refine lv_aload_n hx hb dX7_rateOn_19 rfl (lv_at hl 2 rfl) ?_
        refine sy_getRX7 hx hb hts hown hE hP 0 rfl 21 (by decide) (hts _ (u_in uk_4_211)) (v := .ref (ad 22)) rfl dX7_rateOn_20 ?_
        refine lv_iload hx hb dX7_rateOn_23 (lv_at hl 0 rfl) ?_
        refine sy_ialdN hx hb hE hP 22 rfl (show vp_in (nI k0) 30 from vp_in_nI (by omega) (by decide)) k0 (nI_clamp (by omega)) (v := g 22 k0) rfl dX7_rateOn_25 ?_
        refine lv_iload_n hx hb dX7_rateOn_26 rfl (lv_at hl 3 rfl) ?_
        refine lv_icmp_ne (tgt := 51) hx hb dX7_rateOn_27 (by decide) (fun c_2 => ?_) (fun c_2 => ?_)
        · skip
          refine lv_iload_n hx hb dX7_rateOn_51 rfl (lv_at hl 1 rfl) ?_
          refine lv_istore_n (lv' := [(3, .int (lX7_rateOn g q x0 x1 k0)), (4, .int (nI k0)), (0, .ref (ad 0)), (1, .int x0), (2, .int x1)]) hx hb dX7_rateOn_52 rfl hl (by decide) rfl (fun ls hl => ?_)
          refine lv_iinc (v := ((nI k0) + 1)) (lv' := [(4, .int ((nI k0) + 1)), (3, .int (lX7_rateOn g q x0 x1 k0)), (0, .ref (ad 0)), (1, .int x0), (2, .int x1)]) hx hb dX7_rateOn_53 hl (k := 1) rfl rfl (by decide) rfl (fun ls hl => ?_)
          refine lv_goto (tgt := 10) hx hb dX7_rateOn_56 (by decide) ?_
          have hF : lX7_rateOn g q x0 x1 (k0 + 1) = (lX7_rateOn g q x0 x1 k0) := by rw [lX7_rateOn, if_neg c_2] <;> rfl
          exact ih (k0 + 1) (by omega) (by omega) H locs ls hP hS (by rw [nI_succ, hF]; exact lv_sub hl [0, 1, 2, 3, 4] rfl)
        · skip
          refine lv_aload_n hx hb dX7_rateOn_30 rfl (lv_at hl 2 rfl) ?_
          refine sy_getRX7 hx hb hts hown hE hP 0 rfl 22 (by decide) (hts _ (u_in uk_4_212)) (v := .ref (ad 23)) rfl dX7_rateOn_31 ?_
          refine lv_iload hx hb dX7_rateOn_34 (lv_at hl 0 rfl) ?_
          refine sy_ialdN hx hb hE hP 23 rfl (show vp_in (nI k0) 30 from vp_in_nI (by omega) (by decide)) k0 (nI_clamp (by omega)) (v := g 23 k0) rfl dX7_rateOn_36 ?_
          refine lv_iload_n hx hb dX7_rateOn_37 rfl (lv_at hl 4 rfl) ?_
          refine lv_icmp_gt (tgt := 51) hx hb dX7_rateOn_38 (by decide) (fun c_3 => ?_) (fun c_3 => ?_)
          · skip
            refine lv_iload_n hx hb dX7_rateOn_51 rfl (lv_at hl 1 rfl) ?_
            refine lv_istore_n (lv' := [(3, .int (lX7_rateOn g q x0 x1 k0)), (4, .int (nI k0)), (0, .ref (ad 0)), (1, .int x0), (2, .int x1)]) hx hb dX7_rateOn_52 rfl hl (by decide) rfl (fun ls hl => ?_)
            refine lv_iinc (v := ((nI k0) + 1)) (lv' := [(4, .int ((nI k0) + 1)), (3, .int (lX7_rateOn g q x0 x1 k0)), (0, .ref (ad 0)), (1, .int x0), (2, .int x1)]) hx hb dX7_rateOn_53 hl (k := 1) rfl rfl (by decide) rfl (fun ls hl => ?_)
            refine lv_goto (tgt := 10) hx hb dX7_rateOn_56 (by decide) ?_
            have hF : lX7_rateOn g q x0 x1 (k0 + 1) = (lX7_rateOn g q x0 x1 k0) := by rw [lX7_rateOn, if_pos c_2, if_pos c_3] <;> rfl
            exact ih (k0 + 1) (by omega) (by omega) H locs ls hP hS (by rw [nI_succ, hF]; exact lv_sub hl [0, 1, 2, 3, 4] rfl)
          · skip
            refine lv_aload_n hx hb dX7_rateOn_41 rfl (lv_at hl 2 rfl) ?_
            refine sy_getRX7 hx hb hts hown hE hP 0 rfl 23 (by decide) (hts _ (u_in uk_4_213)) (v := .ref (ad 24)) rfl dX7_rateOn_42 ?_
            refine lv_iload hx hb dX7_rateOn_45 (lv_at hl 0 rfl) ?_
            refine sy_ialdN hx hb hE hP 24 rfl (show vp_in (nI k0) 30 from vp_in_nI (by omega) (by decide)) k0 (nI_clamp (by omega)) (v := g 24 k0) rfl dX7_rateOn_47 ?_
            refine lv_goto (tgt := 52) hx hb dX7_rateOn_48 (by decide) ?_
            refine lv_istore_n (lv' := [(3, .int (g 24 k0)), (4, .int (nI k0)), (0, .ref (ad 0)), (1, .int x0), (2, .int x1)]) hx hb dX7_rateOn_52 rfl hl (by decide) rfl (fun ls hl => ?_)
            refine lv_iinc (v := ((nI k0) + 1)) (lv' := [(4, .int ((nI k0) + 1)), (3, .int (g 24 k0)), (0, .ref (ad 0)), (1, .int x0), (2, .int x1)]) hx hb dX7_rateOn_53 hl (k := 1) rfl rfl (by decide) rfl (fun ls hl => ?_)
            refine lv_goto (tgt := 10) hx hb dX7_rateOn_56 (by decide) ?_
            have hF : lX7_rateOn g q x0 x1 (k0 + 1) = (g 24 k0) := by rw [lX7_rateOn, if_pos c_2, if_neg c_3] <;> rfl
            exact ih (k0 + 1) (by omega) (by omega) H locs ls hP hS (by rw [nI_succ, hF]; exact lv_sub hl [0, 1, 2, 3, 4] rfl)
  exact hL_10 ((g 0 20).toNatClampNeg + 1) 0 (Nat.zero_le _) (by omega) _ _ _ hP hS (lv_sub hl [0, 1, 2, 3, 4] rfl)
theorem b_01 {x : Int32} (h : x = 0 ∨ x = 1) : x &&& 1 = x := by
  rcases h with h | h <;> rw [h] <;> rfl
def lX7_isFree (g : sG) (q : sQ) (x0 : Int32) : Nat → Int32
  | 0 => 0
  | k0 + 1 => (if (lX7_isFree g q x0 k0) = 0 then (if x0 < (g 26 k0) then 0 else (if (g 27 k0) < x0 then 0 else 1)) else 1)
theorem lX7_isFree_01 (g : sG) (q : sQ) (x0 : Int32) (k : Nat) : lX7_isFree g q x0 k = 0 ∨ lX7_isFree g q x0 k = 1 := by
  cases k with
  | zero => exact Or.inl rfl
  | succ k =>
    rw [lX7_isFree]
    repeat' split
    all_goals first | exact Or.inl rfl | exact Or.inr rfl
def fX7_isFree (g : sG) (q : sQ) (x0 : Int32) : Int32 := (lX7_isFree g q x0 (g 0 24).toNatClampNeg)
set_option maxHeartbeats 4000000 in
set_option maxRecDepth 100000 in
theorem mX7_isFree (l : Launch) (hfl : l.stackTraces = false) (Z : sZ) (nT nK cT cK : Nat) (ad : Nat → Nat) (g : sG) (q : sQ) (x0 : Int32) {mT mK : Nat} (hI : IM mT mK g) : sMi l Z yX7_isFree (uW (.code yX7_isFree cX7_isFree 4 (some .boolean))) { frames := 0, cells := 0, slots := 0, locals := 0 } [.ref (ad 0), .int x0] nT nK cT cK ad g q (fun r g1 q1 => (r, g1, q1) = (fX7_isFree g q x0, g, q)) := by
  refine Met.ofW (cc := cX7_isFree) (maxL := 4) (ret := (some .boolean)) (by decide) rfl ?_
  intro p e s m args below meth c s₁ B hml hv
  obtain ⟨rfl, hE, hP⟩ := hv
  have hx := B.exec
  have hb := B.bytes
  have hr := B.returns
  have hts := atoms_spec (ws := uW (.code yX7_isFree cX7_isFree 4 (some .boolean))) B.pre
  have hown : s.vm.findClass RX7 = some m.cls := findClass_of_methodNamed B.named
  have hlocks := B.notSynchronized
  have hS : va_S (sy_A Z) s.heap s.heap [] := va_S.rf
  have hl := lv_entry ([.ref (ad 0), .int x0]) (n := 4) (Nat.le_of_ble_eq_true rfl)
  rw [lg_entry_eq]
  generalize (lg_sl ([.ref (ad 0), .int x0]) ++ List.replicate (4 - (lg_sl ([.ref (ad 0), .int x0])).length) Slot.unset).toArray = ls at hl ⊢
  have hl : lv_has ls 4 [(0, .ref (ad 0)), (1, .int x0)] := hl
  refine lv_iconst (v := 0) hx hb dX7_isFree_0 (by decide) ?_
  refine lv_istore_n (lv' := [(2, .int 0), (0, .ref (ad 0)), (1, .int x0)]) hx hb dX7_isFree_1 rfl hl (by decide) rfl (fun ls hl => ?_)
  refine lv_iconst (v := 0) hx hb dX7_isFree_2 (by decide) ?_
  refine lv_istore_n (lv' := [(3, .int 0), (2, .int 0), (0, .ref (ad 0)), (1, .int x0)]) hx hb dX7_isFree_3 rfl hl (by decide) rfl (fun ls hl => ?_)
  have hL_4 : ∀ (n k0 : Nat), k0 ≤ (g 0 24).toNatClampNeg → (g 0 24).toNatClampNeg + 1 ≤ k0 + n → ∀ (H : Heap) (locs : List Loc) (ls : Array Slot), Sy Z nT nK cT cK ad g q H → va_S (sy_A Z) s.heap H locs → lv_has ls 4 [(3, .int (nI k0)), (2, .int (lX7_isFree g q x0 k0)), (0, .ref (ad 0)), (1, .int x0)] → W p l e ({ frames := 0, cells := 0, slots := 0, locals := 0 } : Room) s m ([.ref (ad 0), .int x0] : List Value).toArray below meth c H locs 0 0 (MQ below (sQi Z nT nK cT cK ad (fun r g1 q1 => (r, g1, q1) = (fX7_isFree g q x0, g, q))) ([.ref (ad 0), .int x0] : List Value).toArray s 0 0 (sy_A Z)) (F0 m 4 ls []) := by
    intro n
    induction n with
    | zero => intro k0 hi hn ; exact absurd hn (by omega)
    | succ n ih =>
      intro k0 hi hn H locs ls hP hS hl
      have hN9 := (im_free hI).2
      refine lv_iload_n hx hb dX7_isFree_4 rfl (lv_at hl 0 rfl) ?_
      refine lv_aload_n hx hb dX7_isFree_5 rfl (lv_at hl 2 rfl) ?_
      refine sy_getRX7 hx hb hts hown hE hP 0 rfl 24 (by decide) (hts _ (u_in uk_4_214)) (v := .int (g 0 24)) rfl dX7_isFree_6 ?_
      refine lv_icmp_ge (tgt := 48) hx hb dX7_isFree_9 (by decide) (fun c_1 => ?_) (fun c_1 => ?_)
      · skip
        obtain rfl := loop_exit (N := (g 0 24).toNatClampNeg) (im_free hI).1 (by omega) hi c_1
        refine lv_iload_n hx hb dX7_isFree_48 rfl (lv_at hl 1 rfl) ?_
        exact (sy_iretz hx hb hr hlocks hE hP hS dX7_isFree_49 ⟨Nat.le_of_ble_eq_true rfl, Nat.le_of_ble_eq_true rfl⟩ (b_01 (lX7_isFree_01 g q x0 _)) (by unfold fX7_isFree; rfl))
      · skip
        have hk0 : k0 < (g 0 24).toNatClampNeg := loop_in (N := (g 0 24).toNatClampNeg) (im_free hI).1 (by omega) hi c_1
        refine lv_iload_n hx hb dX7_isFree_12 rfl (lv_at hl 1 rfl) ?_
        refine lv_if_ne (tgt := 36) hx hb dX7_isFree_13 (by decide) (fun c_2 => ?_) (fun c_2 => ?_)
        · skip
          refine lv_iconst (v := 1) hx hb dX7_isFree_36 (by decide) ?_
          refine lv_goto (tgt := 41) hx hb dX7_isFree_37 (by decide) ?_
          refine lv_istore_n (lv' := [(2, .int 1), (3, .int (nI k0)), (0, .ref (ad 0)), (1, .int x0)]) hx hb dX7_isFree_41 rfl hl (by decide) rfl (fun ls hl => ?_)
          refine lv_iinc (v := ((nI k0) + 1)) (lv' := [(3, .int ((nI k0) + 1)), (2, .int 1), (0, .ref (ad 0)), (1, .int x0)]) hx hb dX7_isFree_42 hl (k := 1) rfl rfl (by decide) rfl (fun ls hl => ?_)
          refine lv_goto (tgt := 4) hx hb dX7_isFree_45 (by decide) ?_
          have hF : lX7_isFree g q x0 (k0 + 1) = 1 := by rw [lX7_isFree, if_neg c_2] <;> rfl
          exact ih (k0 + 1) (by omega) (by omega) H locs ls hP hS (by rw [nI_succ, hF]; exact lv_sub hl [0, 1, 2, 3] rfl)
        · skip
          refine lv_iload_n hx hb dX7_isFree_16 rfl (lv_at hl 3 rfl) ?_
          refine lv_aload_n hx hb dX7_isFree_17 rfl (lv_at hl 2 rfl) ?_
          refine sy_getRX7 hx hb hts hown hE hP 0 rfl 25 (by decide) (hts _ (u_in uk_4_215)) (v := .ref (ad 26)) rfl dX7_isFree_18 ?_
          refine lv_iload_n hx hb dX7_isFree_21 rfl (lv_at hl 0 rfl) ?_
          refine sy_ialdN hx hb hE hP 26 rfl (show vp_in (nI k0) 10 from vp_in_nI (by omega) (by decide)) k0 (nI_clamp (by omega)) (v := g 26 k0) rfl dX7_isFree_22 ?_
          refine lv_icmp_lt (tgt := 40) hx hb dX7_isFree_23 (by decide) (fun c_3 => ?_) (fun c_3 => ?_)
          · skip
            refine lv_iconst (v := 0) hx hb dX7_isFree_40 (by decide) ?_
            refine lv_istore_n (lv' := [(2, .int 0), (3, .int (nI k0)), (0, .ref (ad 0)), (1, .int x0)]) hx hb dX7_isFree_41 rfl hl (by decide) rfl (fun ls hl => ?_)
            refine lv_iinc (v := ((nI k0) + 1)) (lv' := [(3, .int ((nI k0) + 1)), (2, .int 0), (0, .ref (ad 0)), (1, .int x0)]) hx hb dX7_isFree_42 hl (k := 1) rfl rfl (by decide) rfl (fun ls hl => ?_)
            refine lv_goto (tgt := 4) hx hb dX7_isFree_45 (by decide) ?_
            have hF : lX7_isFree g q x0 (k0 + 1) = 0 := by rw [lX7_isFree, if_pos c_2, if_pos c_3] <;> rfl
            exact ih (k0 + 1) (by omega) (by omega) H locs ls hP hS (by rw [nI_succ, hF]; exact lv_sub hl [0, 1, 2, 3] rfl)
          · skip
            refine lv_iload_n hx hb dX7_isFree_26 rfl (lv_at hl 3 rfl) ?_
            refine lv_aload_n hx hb dX7_isFree_27 rfl (lv_at hl 2 rfl) ?_
            refine sy_getRX7 hx hb hts hown hE hP 0 rfl 26 (by decide) (hts _ (u_in uk_4_216)) (v := .ref (ad 27)) rfl dX7_isFree_28 ?_
            refine lv_iload_n hx hb dX7_isFree_31 rfl (lv_at hl 0 rfl) ?_
            refine sy_ialdN hx hb hE hP 27 rfl (show vp_in (nI k0) 10 from vp_in_nI (by omega) (by decide)) k0 (nI_clamp (by omega)) (v := g 27 k0) rfl dX7_isFree_32 ?_
            refine lv_icmp_gt (tgt := 40) hx hb dX7_isFree_33 (by decide) (fun c_4 => ?_) (fun c_4 => ?_)
            · skip
              refine lv_iconst (v := 0) hx hb dX7_isFree_40 (by decide) ?_
              refine lv_istore_n (lv' := [(2, .int 0), (3, .int (nI k0)), (0, .ref (ad 0)), (1, .int x0)]) hx hb dX7_isFree_41 rfl hl (by decide) rfl (fun ls hl => ?_)
              refine lv_iinc (v := ((nI k0) + 1)) (lv' := [(3, .int ((nI k0) + 1)), (2, .int 0), (0, .ref (ad 0)), (1, .int x0)]) hx hb dX7_isFree_42 hl (k := 1) rfl rfl (by decide) rfl (fun ls hl => ?_)
              refine lv_goto (tgt := 4) hx hb dX7_isFree_45 (by decide) ?_
              have hF : lX7_isFree g q x0 (k0 + 1) = 0 := by rw [lX7_isFree, if_pos c_2, if_neg c_3, if_pos c_4] <;> rfl
              exact ih (k0 + 1) (by omega) (by omega) H locs ls hP hS (by rw [nI_succ, hF]; exact lv_sub hl [0, 1, 2, 3] rfl)
            · skip
              refine lv_iconst (v := 1) hx hb dX7_isFree_36 (by decide) ?_
              refine lv_goto (tgt := 41) hx hb dX7_isFree_37 (by decide) ?_
              refine lv_istore_n (lv' := [(2, .int 1), (3, .int (nI k0)), (0, .ref (ad 0)), (1, .int x0)]) hx hb dX7_isFree_41 rfl hl (by decide) rfl (fun ls hl => ?_)
              refine lv_iinc (v := ((nI k0) + 1)) (lv' := [(3, .int ((nI k0) + 1)), (2, .int 1), (0, .ref (ad 0)), (1, .int x0)]) hx hb dX7_isFree_42 hl (k := 1) rfl rfl (by decide) rfl (fun ls hl => ?_)
              refine lv_goto (tgt := 4) hx hb dX7_isFree_45 (by decide) ?_
              have hF : lX7_isFree g q x0 (k0 + 1) = 1 := by rw [lX7_isFree, if_pos c_2, if_neg c_3, if_neg c_4] <;> rfl
              exact ih (k0 + 1) (by omega) (by omega) H locs ls hP hS (by rw [nI_succ, hF]; exact lv_sub hl [0, 1, 2, 3] rfl)
  exact hL_4 ((g 0 24).toNatClampNeg + 1) 0 (Nat.zero_le _) (by omega) _ _ _ hP hS (lv_sub hl [0, 1, 2, 3] rfl)
def lX7_rest (g : sG) (q : sQ) (x0 x1 : Int32) : Nat → Int32
  | 0 => 60
  | k0 + 1 => (if (g 8 k0) = 0 then ((lX7_rest g q x0 x1 k0) - 0) else (if (g 11 k0) = x0 then (if (nI k0) = x1 then ((lX7_rest g q x0 x1 k0) - 0) else ((lX7_rest g q x0 x1 k0) - (g 5 k0))) else ((lX7_rest g q x0 x1 k0) - 0)))
def fX7_rest (g : sG) (q : sQ) (x0 x1 : Int32) : Int32 := (lX7_rest g q x0 x1 (g 0 2).toNatClampNeg)
set_option maxHeartbeats 4000000 in
set_option maxRecDepth 100000 in
theorem mX7_rest (l : Launch) (hfl : l.stackTraces = false) (Z : sZ) (nT nK cT cK : Nat) (ad : Nat → Nat) (g : sG) (q : sQ) (x0 x1 : Int32) {mT mK : Nat} (hI : IM mT mK g) : sMi l Z yX7_rest (uW (.code yX7_rest cX7_rest 5 (some .int))) { frames := 0, cells := 0, slots := 0, locals := 0 } [.ref (ad 0), .int x0, .int x1] nT nK cT cK ad g q (fun r g1 q1 => (r, g1, q1) = (fX7_rest g q x0 x1, g, q)) := by
  refine Met.ofW (cc := cX7_rest) (maxL := 5) (ret := (some .int)) (by decide) rfl ?_
  intro p e s m args below meth c s₁ B hml hv
  obtain ⟨rfl, hE, hP⟩ := hv
  have hx := B.exec
  have hb := B.bytes
  have hr := B.returns
  have hts := atoms_spec (ws := uW (.code yX7_rest cX7_rest 5 (some .int))) B.pre
  have hown : s.vm.findClass RX7 = some m.cls := findClass_of_methodNamed B.named
  have hlocks := B.notSynchronized
  have hS : va_S (sy_A Z) s.heap s.heap [] := va_S.rf
  have hl := lv_entry ([.ref (ad 0), .int x0, .int x1]) (n := 5) (Nat.le_of_ble_eq_true rfl)
  rw [lg_entry_eq]
  generalize (lg_sl ([.ref (ad 0), .int x0, .int x1]) ++ List.replicate (5 - (lg_sl ([.ref (ad 0), .int x0, .int x1])).length) Slot.unset).toArray = ls at hl ⊢
  have hl : lv_has ls 5 [(0, .ref (ad 0)), (1, .int x0), (2, .int x1)] := hl
  refine lv_bipush (v := 60) hx hb dX7_rest_0 (by decide) ?_
  refine lv_istore_n (lv' := [(3, .int 60), (0, .ref (ad 0)), (1, .int x0), (2, .int x1)]) hx hb dX7_rest_2 rfl hl (by decide) rfl (fun ls hl => ?_)
  refine lv_iconst (v := 0) hx hb dX7_rest_3 (by decide) ?_
  refine lv_istore (lv' := [(4, .int 0), (3, .int 60), (0, .ref (ad 0)), (1, .int x0), (2, .int x1)]) hx hb dX7_rest_4 hl (by decide) rfl (fun ls hl => ?_)
  have hL_6 : ∀ (n k0 : Nat), k0 ≤ (g 0 2).toNatClampNeg → (g 0 2).toNatClampNeg + 1 ≤ k0 + n → ∀ (H : Heap) (locs : List Loc) (ls : Array Slot), Sy Z nT nK cT cK ad g q H → va_S (sy_A Z) s.heap H locs → lv_has ls 5 [(4, .int (nI k0)), (3, .int (lX7_rest g q x0 x1 k0)), (0, .ref (ad 0)), (1, .int x0), (2, .int x1)] → W p l e ({ frames := 0, cells := 0, slots := 0, locals := 0 } : Room) s m ([.ref (ad 0), .int x0, .int x1] : List Value).toArray below meth c H locs 0 0 (MQ below (sQi Z nT nK cT cK ad (fun r g1 q1 => (r, g1, q1) = (fX7_rest g q x0 x1, g, q))) ([.ref (ad 0), .int x0, .int x1] : List Value).toArray s 0 0 (sy_A Z)) (F0 m 6 ls []) := by
    intro n
    induction n with
    | zero => intro k0 hi hn ; exact absurd hn (by omega)
    | succ n ih =>
      intro k0 hi hn H locs ls hP hS hl
      have hN9 := (im_nT hI).2
      refine lv_iload hx hb dX7_rest_6 (lv_at hl 0 rfl) ?_
      refine lv_aload_n hx hb dX7_rest_8 rfl (lv_at hl 2 rfl) ?_
      refine sy_getRX7 hx hb hts hown hE hP 0 rfl 2 (by decide) (hts _ (u_in uk_4_192)) (v := .int (g 0 2)) rfl dX7_rest_9 ?_
      refine lv_icmp_ge (tgt := 62) hx hb dX7_rest_12 (by decide) (fun c_1 => ?_) (fun c_1 => ?_)
      · skip
        obtain rfl := loop_exit (N := (g 0 2).toNatClampNeg) (im_nT hI).1 (by omega) hi c_1
        refine lv_iload_n hx hb dX7_rest_62 rfl (lv_at hl 1 rfl) ?_
        exact (sy_ireti hx hb hr hlocks hE hP hS dX7_rest_63 ⟨Nat.le_of_ble_eq_true rfl, Nat.le_of_ble_eq_true rfl⟩ (by unfold fX7_rest; rfl))
      · skip
        have hk0 : k0 < (g 0 2).toNatClampNeg := loop_in (N := (g 0 2).toNatClampNeg) (im_nT hI).1 (by omega) hi c_1
        refine lv_iload_n hx hb dX7_rest_15 rfl (lv_at hl 1 rfl) ?_
        refine lv_aload_n hx hb dX7_rest_16 rfl (lv_at hl 2 rfl) ?_
        refine sy_getRX7 hx hb hts hown hE hP 0 rfl 7 (by decide) (hts _ (u_in uk_4_197)) (v := .ref (ad 8)) rfl dX7_rest_17 ?_
        refine lv_iload hx hb dX7_rest_20 (lv_at hl 0 rfl) ?_
        refine sy_zaldN hx hb hE hP 8 rfl (show vp_in (nI k0) 40 from vp_in_nI (by omega) (by decide)) k0 (nI_clamp (by omega)) (v := g 8 k0) rfl dX7_rest_22 ?_
        refine lv_if_eq (tgt := 53) hx hb dX7_rest_23 (by decide) (fun c_2 => ?_) (fun c_2 => ?_)
        · skip
          refine lv_iconst (v := 0) hx hb dX7_rest_53 (by decide) ?_
          refine lv_isub hx hb dX7_rest_54 ?_
          refine lv_istore_n (lv' := [(3, .int ((lX7_rest g q x0 x1 k0) - 0)), (4, .int (nI k0)), (0, .ref (ad 0)), (1, .int x0), (2, .int x1)]) hx hb dX7_rest_55 rfl hl (by decide) rfl (fun ls hl => ?_)
          refine lv_iinc (v := ((nI k0) + 1)) (lv' := [(4, .int ((nI k0) + 1)), (3, .int ((lX7_rest g q x0 x1 k0) - 0)), (0, .ref (ad 0)), (1, .int x0), (2, .int x1)]) hx hb dX7_rest_56 hl (k := 1) rfl rfl (by decide) rfl (fun ls hl => ?_)
          refine lv_goto (tgt := 6) hx hb dX7_rest_59 (by decide) ?_
          have hF : lX7_rest g q x0 x1 (k0 + 1) = ((lX7_rest g q x0 x1 k0) - 0) := by rw [lX7_rest, if_pos c_2] <;> rfl
          exact ih (k0 + 1) (by omega) (by omega) H locs ls hP hS (by rw [nI_succ, hF]; exact lv_sub hl [0, 1, 2, 3, 4] rfl)
        · skip
          refine lv_aload_n hx hb dX7_rest_26 rfl (lv_at hl 2 rfl) ?_
          refine sy_getRX7 hx hb hts hown hE hP 0 rfl 10 (by decide) (hts _ (u_in uk_4_200)) (v := .ref (ad 11)) rfl dX7_rest_27 ?_
          refine lv_iload hx hb dX7_rest_30 (lv_at hl 0 rfl) ?_
          refine sy_ialdN hx hb hE hP 11 rfl (show vp_in (nI k0) 40 from vp_in_nI (by omega) (by decide)) k0 (nI_clamp (by omega)) (v := g 11 k0) rfl dX7_rest_32 ?_
          refine lv_iload_n hx hb dX7_rest_33 rfl (lv_at hl 3 rfl) ?_
          refine lv_icmp_ne (tgt := 53) hx hb dX7_rest_34 (by decide) (fun c_3 => ?_) (fun c_3 => ?_)
          · skip
            refine lv_iconst (v := 0) hx hb dX7_rest_53 (by decide) ?_
            refine lv_isub hx hb dX7_rest_54 ?_
            refine lv_istore_n (lv' := [(3, .int ((lX7_rest g q x0 x1 k0) - 0)), (4, .int (nI k0)), (0, .ref (ad 0)), (1, .int x0), (2, .int x1)]) hx hb dX7_rest_55 rfl hl (by decide) rfl (fun ls hl => ?_)
            refine lv_iinc (v := ((nI k0) + 1)) (lv' := [(4, .int ((nI k0) + 1)), (3, .int ((lX7_rest g q x0 x1 k0) - 0)), (0, .ref (ad 0)), (1, .int x0), (2, .int x1)]) hx hb dX7_rest_56 hl (k := 1) rfl rfl (by decide) rfl (fun ls hl => ?_)
            refine lv_goto (tgt := 6) hx hb dX7_rest_59 (by decide) ?_
            have hF : lX7_rest g q x0 x1 (k0 + 1) = ((lX7_rest g q x0 x1 k0) - 0) := by rw [lX7_rest, if_neg c_2, if_neg c_3] <;> rfl
            exact ih (k0 + 1) (by omega) (by omega) H locs ls hP hS (by rw [nI_succ, hF]; exact lv_sub hl [0, 1, 2, 3, 4] rfl)
          · skip
            refine lv_iload hx hb dX7_rest_37 (lv_at hl 0 rfl) ?_
            refine lv_iload_n hx hb dX7_rest_39 rfl (lv_at hl 4 rfl) ?_
            refine lv_icmp_eq (tgt := 53) hx hb dX7_rest_40 (by decide) (fun c_4 => ?_) (fun c_4 => ?_)
            · skip
              refine lv_iconst (v := 0) hx hb dX7_rest_53 (by decide) ?_
              refine lv_isub hx hb dX7_rest_54 ?_
              refine lv_istore_n (lv' := [(3, .int ((lX7_rest g q x0 x1 k0) - 0)), (4, .int (nI k0)), (0, .ref (ad 0)), (1, .int x0), (2, .int x1)]) hx hb dX7_rest_55 rfl hl (by decide) rfl (fun ls hl => ?_)
              refine lv_iinc (v := ((nI k0) + 1)) (lv' := [(4, .int ((nI k0) + 1)), (3, .int ((lX7_rest g q x0 x1 k0) - 0)), (0, .ref (ad 0)), (1, .int x0), (2, .int x1)]) hx hb dX7_rest_56 hl (k := 1) rfl rfl (by decide) rfl (fun ls hl => ?_)
              refine lv_goto (tgt := 6) hx hb dX7_rest_59 (by decide) ?_
              have hF : lX7_rest g q x0 x1 (k0 + 1) = ((lX7_rest g q x0 x1 k0) - 0) := by rw [lX7_rest, if_neg c_2, if_pos c_3, if_pos c_4] <;> rfl
              exact ih (k0 + 1) (by omega) (by omega) H locs ls hP hS (by rw [nI_succ, hF]; exact lv_sub hl [0, 1, 2, 3, 4] rfl)
            · skip
              refine lv_aload_n hx hb dX7_rest_43 rfl (lv_at hl 2 rfl) ?_
              refine sy_getRX7 hx hb hts hown hE hP 0 rfl 4 (by decide) (hts _ (u_in uk_4_194)) (v := .ref (ad 5)) rfl dX7_rest_44 ?_
              refine lv_iload hx hb dX7_rest_47 (lv_at hl 0 rfl) ?_
              refine sy_ialdN hx hb hE hP 5 rfl (show vp_in (nI k0) 40 from vp_in_nI (by omega) (by decide)) k0 (nI_clamp (by omega)) (v := g 5 k0) rfl dX7_rest_49 ?_
              refine lv_goto (tgt := 54) hx hb dX7_rest_50 (by decide) ?_
              refine lv_isub hx hb dX7_rest_54 ?_
              refine lv_istore_n (lv' := [(3, .int ((lX7_rest g q x0 x1 k0) - (g 5 k0))), (4, .int (nI k0)), (0, .ref (ad 0)), (1, .int x0), (2, .int x1)]) hx hb dX7_rest_55 rfl hl (by decide) rfl (fun ls hl => ?_)
              refine lv_iinc (v := ((nI k0) + 1)) (lv' := [(4, .int ((nI k0) + 1)), (3, .int ((lX7_rest g q x0 x1 k0) - (g 5 k0))), (0, .ref (ad 0)), (1, .int x0), (2, .int x1)]) hx hb dX7_rest_56 hl (k := 1) rfl rfl (by decide) rfl (fun ls hl => ?_)
              refine lv_goto (tgt := 6) hx hb dX7_rest_59 (by decide) ?_
              have hF : lX7_rest g q x0 x1 (k0 + 1) = ((lX7_rest g q x0 x1 k0) - (g 5 k0)) := by rw [lX7_rest, if_neg c_2, if_pos c_3, if_neg c_4] <;> rfl
              exact ih (k0 + 1) (by omega) (by omega) H locs ls hP hS (by rw [nI_succ, hF]; exact lv_sub hl [0, 1, 2, 3, 4] rfl)
  exact hL_6 ((g 0 2).toNatClampNeg + 1) 0 (Nat.zero_le _) (by omega) _ _ _ hP hS (lv_sub hl [0, 1, 2, 3, 4] rfl)
def lX7_openOf (g : sG) (q : sQ) (x0 : Int32) : Nat → Int32
  | 0 => (-1)
  | k0 + 1 => (if (g 30 k0) = x0 then (if (g 39 k0) = 0 then (nI k0) else (lX7_openOf g q x0 k0)) else (lX7_openOf g q x0 k0))
def fX7_openOf (g : sG) (q : sQ) (x0 : Int32) : Int32 := (lX7_openOf g q x0 (g 0 28).toNatClampNeg)
set_option maxHeartbeats 4000000 in
set_option maxRecDepth 100000 in
theorem mX7_openOf (l : Launch) (hfl : l.stackTraces = false) (Z : sZ) (nT nK cT cK : Nat) (ad : Nat → Nat) (g : sG) (q : sQ) (x0 : Int32) {mT mK : Nat} (hI : IM mT mK g) : sMi l Z yX7_openOf (uW (.code yX7_openOf cX7_openOf 4 (some .int))) { frames := 0, cells := 0, slots := 0, locals := 0 } [.ref (ad 0), .int x0] nT nK cT cK ad g q (fun r g1 q1 => (r, g1, q1) = (fX7_openOf g q x0, g, q)) := by
  refine Met.ofW (cc := cX7_openOf) (maxL := 4) (ret := (some .int)) (by decide) rfl ?_
  intro p e s m args below meth c s₁ B hml hv
  obtain ⟨rfl, hE, hP⟩ := hv
  have hx := B.exec
  have hb := B.bytes
  have hr := B.returns
  have hts := atoms_spec (ws := uW (.code yX7_openOf cX7_openOf 4 (some .int))) B.pre
  have hown : s.vm.findClass RX7 = some m.cls := findClass_of_methodNamed B.named
  have hlocks := B.notSynchronized
  have hS : va_S (sy_A Z) s.heap s.heap [] := va_S.rf
  have hl := lv_entry ([.ref (ad 0), .int x0]) (n := 4) (Nat.le_of_ble_eq_true rfl)
  rw [lg_entry_eq]
  generalize (lg_sl ([.ref (ad 0), .int x0]) ++ List.replicate (4 - (lg_sl ([.ref (ad 0), .int x0])).length) Slot.unset).toArray = ls at hl ⊢
  have hl : lv_has ls 4 [(0, .ref (ad 0)), (1, .int x0)] := hl
  refine lv_iconst (v := (-1)) hx hb dX7_openOf_0 (by decide) ?_
  refine lv_istore_n (lv' := [(2, .int (-1)), (0, .ref (ad 0)), (1, .int x0)]) hx hb dX7_openOf_1 rfl hl (by decide) rfl (fun ls hl => ?_)
  refine lv_iconst (v := 0) hx hb dX7_openOf_2 (by decide) ?_
  refine lv_istore_n (lv' := [(3, .int 0), (2, .int (-1)), (0, .ref (ad 0)), (1, .int x0)]) hx hb dX7_openOf_3 rfl hl (by decide) rfl (fun ls hl => ?_)
  have hL_4 : ∀ (n k0 : Nat), k0 ≤ (g 0 28).toNatClampNeg → (g 0 28).toNatClampNeg + 1 ≤ k0 + n → ∀ (H : Heap) (locs : List Loc) (ls : Array Slot), Sy Z nT nK cT cK ad g q H → va_S (sy_A Z) s.heap H locs → lv_has ls 4 [(3, .int (nI k0)), (2, .int (lX7_openOf g q x0 k0)), (0, .ref (ad 0)), (1, .int x0)] → W p l e ({ frames := 0, cells := 0, slots := 0, locals := 0 } : Room) s m ([.ref (ad 0), .int x0] : List Value).toArray below meth c H locs 0 0 (MQ below (sQi Z nT nK cT cK ad (fun r g1 q1 => (r, g1, q1) = (fX7_openOf g q x0, g, q))) ([.ref (ad 0), .int x0] : List Value).toArray s 0 0 (sy_A Z)) (F0 m 4 ls []) := by
    intro n
    induction n with
    | zero => intro k0 hi hn ; exact absurd hn (by omega)
    | succ n ih =>
      intro k0 hi hn H locs ls hP hS hl
      have hN9 := (im_nK hI).2
      refine lv_iload_n hx hb dX7_openOf_4 rfl (lv_at hl 0 rfl) ?_
      refine lv_aload_n hx hb dX7_openOf_5 rfl (lv_at hl 2 rfl) ?_
      refine sy_getRX7 hx hb hts hown hE hP 0 rfl 28 (by decide) (hts _ (u_in uk_4_218)) (v := .int (g 0 28)) rfl dX7_openOf_6 ?_
      refine lv_icmp_ge (tgt := 43) hx hb dX7_openOf_9 (by decide) (fun c_1 => ?_) (fun c_1 => ?_)
      · skip
        obtain rfl := loop_exit (N := (g 0 28).toNatClampNeg) (im_nK hI).1 (by omega) hi c_1
        refine lv_iload_n hx hb dX7_openOf_43 rfl (lv_at hl 1 rfl) ?_
        exact (sy_ireti hx hb hr hlocks hE hP hS dX7_openOf_44 ⟨Nat.le_of_ble_eq_true rfl, Nat.le_of_ble_eq_true rfl⟩ (by unfold fX7_openOf; rfl))
      · skip
        have hk0 : k0 < (g 0 28).toNatClampNeg := loop_in (N := (g 0 28).toNatClampNeg) (im_nK hI).1 (by omega) hi c_1
        refine lv_aload_n hx hb dX7_openOf_12 rfl (lv_at hl 2 rfl) ?_
        refine sy_getRX7 hx hb hts hown hE hP 0 rfl 29 (by decide) (hts _ (u_in uk_4_219)) (v := .ref (ad 30)) rfl dX7_openOf_13 ?_
        refine lv_iload_n hx hb dX7_openOf_16 rfl (lv_at hl 0 rfl) ?_
        refine sy_ialdN hx hb hE hP 30 rfl (show vp_in (nI k0) 40 from vp_in_nI (by omega) (by decide)) k0 (nI_clamp (by omega)) (v := g 30 k0) rfl dX7_openOf_17 ?_
        refine lv_iload_n hx hb dX7_openOf_18 rfl (lv_at hl 3 rfl) ?_
        refine lv_icmp_ne (tgt := 35) hx hb dX7_openOf_19 (by decide) (fun c_2 => ?_) (fun c_2 => ?_)
        · skip
          refine lv_iload_n hx hb dX7_openOf_35 rfl (lv_at hl 1 rfl) ?_
          refine lv_istore_n (lv' := [(2, .int (lX7_openOf g q x0 k0)), (3, .int (nI k0)), (0, .ref (ad 0)), (1, .int x0)]) hx hb dX7_openOf_36 rfl hl (by decide) rfl (fun ls hl => ?_)
          refine lv_iinc (v := ((nI k0) + 1)) (lv' := [(3, .int ((nI k0) + 1)), (2, .int (lX7_openOf g q x0 k0)), (0, .ref (ad 0)), (1, .int x0)]) hx hb dX7_openOf_37 hl (k := 1) rfl rfl (by decide) rfl (fun ls hl => ?_)
          refine lv_goto (tgt := 4) hx hb dX7_openOf_40 (by decide) ?_
          have hF : lX7_openOf g q x0 (k0 + 1) = (lX7_openOf g q x0 k0) := by rw [lX7_openOf, if_neg c_2] <;> rfl
          exact ih (k0 + 1) (by omega) (by omega) H locs ls hP hS (by rw [nI_succ, hF]; exact lv_sub hl [0, 1, 2, 3] rfl)
        · skip
          refine lv_aload_n hx hb dX7_openOf_22 rfl (lv_at hl 2 rfl) ?_
          refine sy_getRX7 hx hb hts hown hE hP 0 rfl 38 (by decide) (hts _ (u_in uk_4_228)) (v := .ref (ad 39)) rfl dX7_openOf_23 ?_
          refine lv_iload_n hx hb dX7_openOf_26 rfl (lv_at hl 0 rfl) ?_
          refine sy_ialdN hx hb hE hP 39 rfl (show vp_in (nI k0) 40 from vp_in_nI (by omega) (by decide)) k0 (nI_clamp (by omega)) (v := g 39 k0) rfl dX7_openOf_27 ?_
          refine lv_if_ne (tgt := 35) hx hb dX7_openOf_28 (by decide) (fun c_3 => ?_) (fun c_3 => ?_)
          · skip
            refine lv_iload_n hx hb dX7_openOf_35 rfl (lv_at hl 1 rfl) ?_
            refine lv_istore_n (lv' := [(2, .int (lX7_openOf g q x0 k0)), (3, .int (nI k0)), (0, .ref (ad 0)), (1, .int x0)]) hx hb dX7_openOf_36 rfl hl (by decide) rfl (fun ls hl => ?_)
            refine lv_iinc (v := ((nI k0) + 1)) (lv' := [(3, .int ((nI k0) + 1)), (2, .int (lX7_openOf g q x0 k0)), (0, .ref (ad 0)), (1, .int x0)]) hx hb dX7_openOf_37 hl (k := 1) rfl rfl (by decide) rfl (fun ls hl => ?_)
            refine lv_goto (tgt := 4) hx hb dX7_openOf_40 (by decide) ?_
            have hF : lX7_openOf g q x0 (k0 + 1) = (lX7_openOf g q x0 k0) := by rw [lX7_openOf, if_pos c_2, if_neg c_3] <;> rfl
            exact ih (k0 + 1) (by omega) (by omega) H locs ls hP hS (by rw [nI_succ, hF]; exact lv_sub hl [0, 1, 2, 3] rfl)
          · skip
            refine lv_iload_n hx hb dX7_openOf_31 rfl (lv_at hl 0 rfl) ?_
            refine lv_goto (tgt := 36) hx hb dX7_openOf_32 (by decide) ?_
            refine lv_istore_n (lv' := [(2, .int (nI k0)), (3, .int (nI k0)), (0, .ref (ad 0)), (1, .int x0)]) hx hb dX7_openOf_36 rfl hl (by decide) rfl (fun ls hl => ?_)
            refine lv_iinc (v := ((nI k0) + 1)) (lv' := [(3, .int ((nI k0) + 1)), (2, .int (nI k0)), (0, .ref (ad 0)), (1, .int x0)]) hx hb dX7_openOf_37 hl (k := 1) rfl rfl (by decide) rfl (fun ls hl => ?_)
            refine lv_goto (tgt := 4) hx hb dX7_openOf_40 (by decide) ?_
            have hF : lX7_openOf g q x0 (k0 + 1) = (nI k0) := by rw [lX7_openOf, if_pos c_2, if_pos c_3] <;> rfl
            exact ih (k0 + 1) (by omega) (by omega) H locs ls hP hS (by rw [nI_succ, hF]; exact lv_sub hl [0, 1, 2, 3] rfl)
  exact hL_4 ((g 0 28).toNatClampNeg + 1) 0 (Nat.zero_le _) (by omega) _ _ _ hP hS (lv_sub hl [0, 1, 2, 3] rfl)
def lX7_owes (g : sG) (q : sQ) (x0 : Int32) : Nat → Int32
  | 0 => 0
  | k0 + 1 => (if (g 39 k0) = 0 then (if (g 32 k0) = x0 then ((lX7_owes g q x0 k0) + (g 35 k0)) else ((lX7_owes g q x0 k0) + 0)) else ((lX7_owes g q x0 k0) + 0))
def fX7_owes (g : sG) (q : sQ) (x0 : Int32) : Int32 := (lX7_owes g q x0 (g 0 28).toNatClampNeg)
set_option maxHeartbeats 4000000 in
set_option maxRecDepth 100000 in
theorem mX7_owes (l : Launch) (hfl : l.stackTraces = false) (Z : sZ) (nT nK cT cK : Nat) (ad : Nat → Nat) (g : sG) (q : sQ) (x0 : Int32) {mT mK : Nat} (hI : IM mT mK g) : sMi l Z yX7_owes (uW (.code yX7_owes cX7_owes 4 (some .int))) { frames := 0, cells := 0, slots := 0, locals := 0 } [.ref (ad 0), .int x0] nT nK cT cK ad g q (fun r g1 q1 => (r, g1, q1) = (fX7_owes g q x0, g, q)) := by
  refine Met.ofW (cc := cX7_owes) (maxL := 4) (ret := (some .int)) (by decide) rfl ?_
  intro p e s m args below meth c s₁ B hml hv
  obtain ⟨rfl, hE, hP⟩ := hv
  have hx := B.exec
  have hb := B.bytes
  have hr := B.returns
  have hts := atoms_spec (ws := uW (.code yX7_owes cX7_owes 4 (some .int))) B.pre
  have hown : s.vm.findClass RX7 = some m.cls := findClass_of_methodNamed B.named
  have hlocks := B.notSynchronized
  have hS : va_S (sy_A Z) s.heap s.heap [] := va_S.rf
  have hl := lv_entry ([.ref (ad 0), .int x0]) (n := 4) (Nat.le_of_ble_eq_true rfl)
  rw [lg_entry_eq]
  generalize (lg_sl ([.ref (ad 0), .int x0]) ++ List.replicate (4 - (lg_sl ([.ref (ad 0), .int x0])).length) Slot.unset).toArray = ls at hl ⊢
  have hl : lv_has ls 4 [(0, .ref (ad 0)), (1, .int x0)] := hl
  refine lv_iconst (v := 0) hx hb dX7_owes_0 (by decide) ?_
  refine lv_istore_n (lv' := [(2, .int 0), (0, .ref (ad 0)), (1, .int x0)]) hx hb dX7_owes_1 rfl hl (by decide) rfl (fun ls hl => ?_)
  refine lv_iconst (v := 0) hx hb dX7_owes_2 (by decide) ?_
  refine lv_istore_n (lv' := [(3, .int 0), (2, .int 0), (0, .ref (ad 0)), (1, .int x0)]) hx hb dX7_owes_3 rfl hl (by decide) rfl (fun ls hl => ?_)
  have hL_4 : ∀ (n k0 : Nat), k0 ≤ (g 0 28).toNatClampNeg → (g 0 28).toNatClampNeg + 1 ≤ k0 + n → ∀ (H : Heap) (locs : List Loc) (ls : Array Slot), Sy Z nT nK cT cK ad g q H → va_S (sy_A Z) s.heap H locs → lv_has ls 4 [(3, .int (nI k0)), (2, .int (lX7_owes g q x0 k0)), (0, .ref (ad 0)), (1, .int x0)] → W p l e ({ frames := 0, cells := 0, slots := 0, locals := 0 } : Room) s m ([.ref (ad 0), .int x0] : List Value).toArray below meth c H locs 0 0 (MQ below (sQi Z nT nK cT cK ad (fun r g1 q1 => (r, g1, q1) = (fX7_owes g q x0, g, q))) ([.ref (ad 0), .int x0] : List Value).toArray s 0 0 (sy_A Z)) (F0 m 4 ls []) := by
    intro n
    induction n with
    | zero => intro k0 hi hn ; exact absurd hn (by omega)
    | succ n ih =>
      intro k0 hi hn H locs ls hP hS hl
      have hN9 := (im_nK hI).2
      refine lv_iload_n hx hb dX7_owes_4 rfl (lv_at hl 0 rfl) ?_
      refine lv_aload_n hx hb dX7_owes_5 rfl (lv_at hl 2 rfl) ?_
      refine sy_getRX7 hx hb hts hown hE hP 0 rfl 28 (by decide) (hts _ (u_in uk_4_218)) (v := .int (g 0 28)) rfl dX7_owes_6 ?_
      refine lv_icmp_ge (tgt := 50) hx hb dX7_owes_9 (by decide) (fun c_1 => ?_) (fun c_1 => ?_)
      · skip
        obtain rfl := loop_exit (N := (g 0 28).toNatClampNeg) (im_nK hI).1 (by omega) hi c_1
        refine lv_iload_n hx hb dX7_owes_50 rfl (lv_at hl 1 rfl) ?_
        exact (sy_ireti hx hb hr hlocks hE hP hS dX7_owes_51 ⟨Nat.le_of_ble_eq_true rfl, Nat.le_of_ble_eq_true rfl⟩ (by unfold fX7_owes; rfl))
      · skip
        have hk0 : k0 < (g 0 28).toNatClampNeg := loop_in (N := (g 0 28).toNatClampNeg) (im_nK hI).1 (by omega) hi c_1
        refine lv_iload_n hx hb dX7_owes_12 rfl (lv_at hl 1 rfl) ?_
        refine lv_aload_n hx hb dX7_owes_13 rfl (lv_at hl 2 rfl) ?_
        refine sy_getRX7 hx hb hts hown hE hP 0 rfl 38 (by decide) (hts _ (u_in uk_4_228)) (v := .ref (ad 39)) rfl dX7_owes_14 ?_
        refine lv_iload_n hx hb dX7_owes_17 rfl (lv_at hl 0 rfl) ?_
        refine sy_ialdN hx hb hE hP 39 rfl (show vp_in (nI k0) 40 from vp_in_nI (by omega) (by decide)) k0 (nI_clamp (by omega)) (v := g 39 k0) rfl dX7_owes_18 ?_
        refine lv_if_ne (tgt := 41) hx hb dX7_owes_19 (by decide) (fun c_2 => ?_) (fun c_2 => ?_)
        · skip
          refine lv_iconst (v := 0) hx hb dX7_owes_41 (by decide) ?_
          refine lv_iadd hx hb dX7_owes_42 ?_
          refine lv_istore_n (lv' := [(2, .int ((lX7_owes g q x0 k0) + 0)), (3, .int (nI k0)), (0, .ref (ad 0)), (1, .int x0)]) hx hb dX7_owes_43 rfl hl (by decide) rfl (fun ls hl => ?_)
          refine lv_iinc (v := ((nI k0) + 1)) (lv' := [(3, .int ((nI k0) + 1)), (2, .int ((lX7_owes g q x0 k0) + 0)), (0, .ref (ad 0)), (1, .int x0)]) hx hb dX7_owes_44 hl (k := 1) rfl rfl (by decide) rfl (fun ls hl => ?_)
          refine lv_goto (tgt := 4) hx hb dX7_owes_47 (by decide) ?_
          have hF : lX7_owes g q x0 (k0 + 1) = ((lX7_owes g q x0 k0) + 0) := by rw [lX7_owes, if_neg c_2] <;> rfl
          exact ih (k0 + 1) (by omega) (by omega) H locs ls hP hS (by rw [nI_succ, hF]; exact lv_sub hl [0, 1, 2, 3] rfl)
        · skip
          refine lv_aload_n hx hb dX7_owes_22 rfl (lv_at hl 2 rfl) ?_
          refine sy_getRX7 hx hb hts hown hE hP 0 rfl 31 (by decide) (hts _ (u_in uk_4_221)) (v := .ref (ad 32)) rfl dX7_owes_23 ?_
          refine lv_iload_n hx hb dX7_owes_26 rfl (lv_at hl 0 rfl) ?_
          refine sy_ialdN hx hb hE hP 32 rfl (show vp_in (nI k0) 40 from vp_in_nI (by omega) (by decide)) k0 (nI_clamp (by omega)) (v := g 32 k0) rfl dX7_owes_27 ?_
          refine lv_iload_n hx hb dX7_owes_28 rfl (lv_at hl 3 rfl) ?_
          refine lv_icmp_ne (tgt := 41) hx hb dX7_owes_29 (by decide) (fun c_3 => ?_) (fun c_3 => ?_)
          · skip
            refine lv_iconst (v := 0) hx hb dX7_owes_41 (by decide) ?_
            refine lv_iadd hx hb dX7_owes_42 ?_
            refine lv_istore_n (lv' := [(2, .int ((lX7_owes g q x0 k0) + 0)), (3, .int (nI k0)), (0, .ref (ad 0)), (1, .int x0)]) hx hb dX7_owes_43 rfl hl (by decide) rfl (fun ls hl => ?_)
            refine lv_iinc (v := ((nI k0) + 1)) (lv' := [(3, .int ((nI k0) + 1)), (2, .int ((lX7_owes g q x0 k0) + 0)), (0, .ref (ad 0)), (1, .int x0)]) hx hb dX7_owes_44 hl (k := 1) rfl rfl (by decide) rfl (fun ls hl => ?_)
            refine lv_goto (tgt := 4) hx hb dX7_owes_47 (by decide) ?_
            have hF : lX7_owes g q x0 (k0 + 1) = ((lX7_owes g q x0 k0) + 0) := by rw [lX7_owes, if_pos c_2, if_neg c_3] <;> rfl
            exact ih (k0 + 1) (by omega) (by omega) H locs ls hP hS (by rw [nI_succ, hF]; exact lv_sub hl [0, 1, 2, 3] rfl)
          · skip
            refine lv_aload_n hx hb dX7_owes_32 rfl (lv_at hl 2 rfl) ?_
            refine sy_getRX7 hx hb hts hown hE hP 0 rfl 34 (by decide) (hts _ (u_in uk_4_224)) (v := .ref (ad 35)) rfl dX7_owes_33 ?_
            refine lv_iload_n hx hb dX7_owes_36 rfl (lv_at hl 0 rfl) ?_
            refine sy_ialdN hx hb hE hP 35 rfl (show vp_in (nI k0) 40 from vp_in_nI (by omega) (by decide)) k0 (nI_clamp (by omega)) (v := g 35 k0) rfl dX7_owes_37 ?_
            refine lv_goto (tgt := 42) hx hb dX7_owes_38 (by decide) ?_
            refine lv_iadd hx hb dX7_owes_42 ?_
            refine lv_istore_n (lv' := [(2, .int ((lX7_owes g q x0 k0) + (g 35 k0))), (3, .int (nI k0)), (0, .ref (ad 0)), (1, .int x0)]) hx hb dX7_owes_43 rfl hl (by decide) rfl (fun ls hl => ?_)
            refine lv_iinc (v := ((nI k0) + 1)) (lv' := [(3, .int ((nI k0) + 1)), (2, .int ((lX7_owes g q x0 k0) + (g 35 k0))), (0, .ref (ad 0)), (1, .int x0)]) hx hb dX7_owes_44 hl (k := 1) rfl rfl (by decide) rfl (fun ls hl => ?_)
            refine lv_goto (tgt := 4) hx hb dX7_owes_47 (by decide) ?_
            have hF : lX7_owes g q x0 (k0 + 1) = ((lX7_owes g q x0 k0) + (g 35 k0)) := by rw [lX7_owes, if_pos c_2, if_pos c_3] <;> rfl
            exact ih (k0 + 1) (by omega) (by omega) H locs ls hP hS (by rw [nI_succ, hF]; exact lv_sub hl [0, 1, 2, 3] rfl)
  exact hL_4 ((g 0 28).toNatClampNeg + 1) 0 (Nat.zero_le _) (by omega) _ _ _ hP hS (lv_sub hl [0, 1, 2, 3] rfl)
def lX7_interest (g : sG) (q : sQ) (x0 : Int32) : Nat → Int32
  | 0 => 0
  | k0 + 1 => (if 6 ≤ (nI k0) then (if 18 ≤ (nI k0) then (if (fX7_isFree g q ((g 37 x0.toNatClampNeg) + (14 * (nI k0)))) = 0 then ((lX7_interest g q x0 k0) + ((((g 35 x0.toNatClampNeg) * (fX7_rateOn g q 2 ((g 37 x0.toNatClampNeg) + (14 * (nI k0))))) + 999) / 1000)) else ((lX7_interest g q x0 k0) + 0)) else (if (fX7_isFree g q ((g 37 x0.toNatClampNeg) + (14 * (nI k0)))) = 0 then ((lX7_interest g q x0 k0) + ((((g 35 x0.toNatClampNeg) * (fX7_rateOn g q 1 ((g 37 x0.toNatClampNeg) + (14 * (nI k0))))) + 999) / 1000)) else ((lX7_interest g q x0 k0) + 0))) else (if (fX7_isFree g q ((g 37 x0.toNatClampNeg) + (14 * (nI k0)))) = 0 then ((lX7_interest g q x0 k0) + ((((g 35 x0.toNatClampNeg) * (fX7_rateOn g q 0 ((g 37 x0.toNatClampNeg) + (14 * (nI k0))))) + 999) / 1000)) else ((lX7_interest g q x0 k0) + 0)))
def fX7_interest (g : sG) (q : sQ) (x0 : Int32) : Int32 := (if (g 39 x0.toNatClampNeg) = 0 then (if ((g 37 x0.toNatClampNeg) + 3) < (g 0 1) then (lX7_interest g q x0 (((g 0 1).toNatClampNeg - (g 37 x0.toNatClampNeg).toNatClampNeg) / 14 + 1)) else 0) else 0)
set_option maxHeartbeats 4000000 in
set_option maxRecDepth 100000 in
theorem mX7_interest (l : Launch) (hfl : l.stackTraces = false) (Z : sZ) (nT nK cT cK : Nat) (ad : Nat → Nat) (g : sG) (q : sQ) (x0 : Int32) {mT mK : Nat} (hI : IM mT mK g) (hx0 : vp_in x0 40) : sMi l Z yX7_interest (uW (.code yX7_interest cX7_interest 6 (some .int))) { frames := 1, cells := 0, slots := 0, locals := 24 } [.ref (ad 0), .int x0] nT nK cT cK ad g q (fun r g1 q1 => (r, g1, q1) = (fX7_interest g q x0, g, q)) := by
  refine Met.ofW (cc := cX7_interest) (maxL := 6) (ret := (some .int)) (by decide) rfl ?_
  intro p e s m args below meth c s₁ B hml hv
  obtain ⟨rfl, hE, hP⟩ := hv
  have hx := B.exec
  have hb := B.bytes
  have hr := B.returns
  have hts := atoms_spec (ws := uW (.code yX7_interest cX7_interest 6 (some .int))) B.pre
  have hown : s.vm.findClass RX7 = some m.cls := findClass_of_methodNamed B.named
  have hlocks := B.notSynchronized
  have hS : va_S (sy_A Z) s.heap s.heap [] := va_S.rf
  have hl := lv_entry ([.ref (ad 0), .int x0]) (n := 6) (Nat.le_of_ble_eq_true rfl)
  rw [lg_entry_eq]
  generalize (lg_sl ([.ref (ad 0), .int x0]) ++ List.replicate (6 - (lg_sl ([.ref (ad 0), .int x0])).length) Slot.unset).toArray = ls at hl ⊢
  have hl : lv_has ls 6 [(0, .ref (ad 0)), (1, .int x0)] := hl
  refine lv_iconst (v := 0) hx hb dX7_interest_0 (by decide) ?_
  refine lv_istore_n (lv' := [(2, .int 0), (0, .ref (ad 0)), (1, .int x0)]) hx hb dX7_interest_1 rfl hl (by decide) rfl (fun ls hl => ?_)
  refine lv_aload_n hx hb dX7_interest_2 rfl (lv_at hl 1 rfl) ?_
  refine sy_getRX7 hx hb hts hown hE hP 0 rfl 38 (by decide) (hts _ (u_in uk_4_228)) (v := .ref (ad 39)) rfl dX7_interest_3 ?_
  refine lv_iload_n hx hb dX7_interest_6 rfl (lv_at hl 2 rfl) ?_
  refine sy_ialdN hx hb hE hP 39 rfl (show vp_in x0 40 from hx0) x0.toNatClampNeg rfl (v := g 39 x0.toNatClampNeg) rfl dX7_interest_7 ?_
  refine lv_if_ne (tgt := 26) hx hb dX7_interest_8 (by decide) (fun c_1 => ?_) (fun c_1 => ?_)
  · skip
    refine lv_iconst (v := 0) hx hb dX7_interest_26 (by decide) ?_
    exact (sy_ireti hx hb hr hlocks hE hP hS dX7_interest_27 ⟨Nat.le_of_ble_eq_true rfl, Nat.le_of_ble_eq_true rfl⟩ (by unfold fX7_interest; rw [if_neg c_1] <;> rfl))
  · skip
    refine lv_aload_n hx hb dX7_interest_11 rfl (lv_at hl 1 rfl) ?_
    refine sy_getRX7 hx hb hts hown hE hP 0 rfl 1 (by decide) (hts _ (u_in uk_4_191)) (v := .int (g 0 1)) rfl dX7_interest_12 ?_
    refine lv_aload_n hx hb dX7_interest_15 rfl (lv_at hl 1 rfl) ?_
    refine sy_getRX7 hx hb hts hown hE hP 0 rfl 36 (by decide) (hts _ (u_in uk_4_226)) (v := .ref (ad 37)) rfl dX7_interest_16 ?_
    refine lv_iload_n hx hb dX7_interest_19 rfl (lv_at hl 2 rfl) ?_
    refine sy_ialdN hx hb hE hP 37 rfl (show vp_in x0 40 from hx0) x0.toNatClampNeg rfl (v := g 37 x0.toNatClampNeg) rfl dX7_interest_20 ?_
    refine lv_iconst (v := 3) hx hb dX7_interest_21 (by decide) ?_
    refine lv_iadd hx hb dX7_interest_22 ?_
    refine lv_icmp_gt (tgt := 28) hx hb dX7_interest_23 (by decide) (fun c_2 => ?_) (fun c_2 => ?_)
    · skip
      refine lv_iconst (v := 0) hx hb dX7_interest_28 (by decide) ?_
      refine lv_istore_n (lv' := [(3, .int 0), (2, .int 0), (0, .ref (ad 0)), (1, .int x0)]) hx hb dX7_interest_29 rfl hl (by decide) rfl (fun ls hl => ?_)
      have hL_30 : ∀ (n k0 : Nat), k0 ≤ (((g 0 1).toNatClampNeg - (g 37 x0.toNatClampNeg).toNatClampNeg) / 14 + 1) → (((g 0 1).toNatClampNeg - (g 37 x0.toNatClampNeg).toNatClampNeg) / 14 + 1) + 1 ≤ k0 + n → ∀ (H : Heap) (locs : List Loc) (ls : Array Slot), Sy Z nT nK cT cK ad g q H → va_S (sy_A Z) s.heap H locs → lv_has ls 6 [(3, .int (nI k0)), (2, .int (lX7_interest g q x0 k0)), (0, .ref (ad 0)), (1, .int x0)] → W p l e ({ frames := 1, cells := 0, slots := 0, locals := 24 } : Room) s m ([.ref (ad 0), .int x0] : List Value).toArray below meth c H locs 0 0 (MQ below (sQi Z nT nK cT cK ad (fun r g1 q1 => (r, g1, q1) = (fX7_interest g q x0, g, q))) ([.ref (ad 0), .int x0] : List Value).toArray s 0 0 (sy_A Z)) (F0 m 30 ls []) := by
        intro n
        induction n with
        | zero => intro k0 hi hn ; exact absurd hn (by omega)
        | succ n ih =>
          intro k0 hi hn H locs ls hP hS hl
          have hD9 := im_day hI hx0
          refine lv_aload_n hx hb dX7_interest_30 rfl (lv_at hl 2 rfl) ?_
          refine sy_getRX7 hx hb hts hown hE hP 0 rfl 36 (by decide) (hts _ (u_in uk_4_226)) (v := .ref (ad 37)) rfl dX7_interest_31 ?_
          refine lv_iload_n hx hb dX7_interest_34 rfl (lv_at hl 3 rfl) ?_
          refine sy_ialdN hx hb hE hP 37 rfl (show vp_in x0 40 from hx0) x0.toNatClampNeg rfl (v := g 37 x0.toNatClampNeg) rfl dX7_interest_35 ?_
          refine lv_bipush (v := 14) hx hb dX7_interest_36 (by decide) ?_
          refine lv_iload_n hx hb dX7_interest_38 rfl (lv_at hl 0 rfl) ?_
          refine lv_imul hx hb dX7_interest_39 ?_
          refine lv_iadd hx hb dX7_interest_40 ?_
          refine lv_aload_n hx hb dX7_interest_41 rfl (lv_at hl 2 rfl) ?_
          refine sy_getRX7 hx hb hts hown hE hP 0 rfl 1 (by decide) (hts _ (u_in uk_4_191)) (v := .int (g 0 1)) rfl dX7_interest_42 ?_
          refine lv_icmp_gt (tgt := 129) hx hb dX7_interest_45 (by decide) (fun c_3 => ?_) (fun c_3 => ?_)
          · skip
            obtain rfl : ((g 0 1).toNatClampNeg - (g 37 x0.toNatClampNeg).toNatClampNeg) / 14 + 1 = k0 := by have h9 := (int_lt hD9.1 hD9.2.1 hD9.2.2.2 hD9.2.2.1 hi).mp c_3; omega
            refine lv_iload_n hx hb dX7_interest_129 rfl (lv_at hl 1 rfl) ?_
            exact (sy_ireti hx hb hr hlocks hE hP hS dX7_interest_130 ⟨Nat.le_of_ble_eq_true rfl, Nat.le_of_ble_eq_true rfl⟩ (by unfold fX7_interest; rw [if_pos c_1, if_pos c_2] <;> rfl))
          · skip
            have hk0 : k0 < ((g 0 1).toNatClampNeg - (g 37 x0.toNatClampNeg).toNatClampNeg) / 14 + 1 := by have h9 := mt (int_lt hD9.1 hD9.2.1 hD9.2.2.2 hD9.2.2.1 hi).mpr c_3; omega
            refine lv_aload_n hx hb dX7_interest_48 rfl (lv_at hl 2 rfl) ?_
            refine sy_getRX7 hx hb hts hown hE hP 0 rfl 36 (by decide) (hts _ (u_in uk_4_226)) (v := .ref (ad 37)) rfl dX7_interest_49 ?_
            refine lv_iload_n hx hb dX7_interest_52 rfl (lv_at hl 3 rfl) ?_
            refine sy_ialdN hx hb hE hP 37 rfl (show vp_in x0 40 from hx0) x0.toNatClampNeg rfl (v := g 37 x0.toNatClampNeg) rfl dX7_interest_53 ?_
            refine lv_bipush (v := 14) hx hb dX7_interest_54 (by decide) ?_
            refine lv_iload_n hx hb dX7_interest_56 rfl (lv_at hl 0 rfl) ?_
            refine lv_imul hx hb dX7_interest_57 ?_
            refine lv_iadd hx hb dX7_interest_58 ?_
            refine lv_istore (lv' := [(4, .int ((g 37 x0.toNatClampNeg) + (14 * (nI k0)))), (3, .int (nI k0)), (2, .int (lX7_interest g q x0 k0)), (0, .ref (ad 0)), (1, .int x0)]) hx hb dX7_interest_59 hl (by decide) rfl (fun ls hl => ?_)
            refine lv_aload_n hx hb dX7_interest_61 rfl (lv_at hl 3 rfl) ?_
            refine lv_iload_n hx hb dX7_interest_62 rfl (lv_at hl 1 rfl) ?_
            refine lv_bipush (v := 6) hx hb dX7_interest_63 (by decide) ?_
            refine lv_icmp_ge (tgt := 72) hx hb dX7_interest_65 (by decide) (fun c_4 => ?_) (fun c_4 => ?_)
            · skip
              refine lv_iload_n hx hb dX7_interest_72 rfl (lv_at hl 1 rfl) ?_
              refine lv_bipush (v := 18) hx hb dX7_interest_73 (by decide) ?_
              refine lv_icmp_ge (tgt := 82) hx hb dX7_interest_75 (by decide) (fun c_5 => ?_) (fun c_5 => ?_)
              · skip
                refine lv_iconst (v := 2) hx hb dX7_interest_82 (by decide) ?_
                refine lv_iload hx hb dX7_interest_83 (lv_at hl 0 rfl) ?_
                refine sy_ki (sy_rV (o := 0) (As := [.int 2, .int ((g 37 x0.toNatClampNeg) + (14 * (nI k0)))]) (rest := []) ⟨hx, hb, hml, hown, hts⟩ hE hP hS (mX7_rateOn l hfl Z nT nK cT cK ad g q 2 ((g 37 x0.toNatClampNeg) + (14 * (nI k0))) hI) (cwV 2 hts (gu_V uk_5_132 uk_5_134 uk_0_18 uk_1_9 uk_5_135) rfl rfl rfl (by decide +kernel) ⟨Nat.le_of_ble_eq_true rfl, Nat.le_of_ble_eq_true rfl⟩) (sy_recv (kc := 8) hE hP rfl (by decide) rfl rfl rfl) rfl hl.1 rfl (Nat.le_of_ble_eq_true rfl) dX7_interest_85 ⟨Nat.le_of_ble_eq_true rfl, Nat.le_of_ble_eq_true rfl⟩) hS (fun r_e_6 g_e_6 q_e_6 H locs e_6 hP hS => ?_)
                cases e_6
                refine lv_istore (lv' := [(5, .int (fX7_rateOn g q 2 ((g 37 x0.toNatClampNeg) + (14 * (nI k0))))), (4, .int ((g 37 x0.toNatClampNeg) + (14 * (nI k0)))), (3, .int (nI k0)), (2, .int (lX7_interest g q x0 k0)), (0, .ref (ad 0)), (1, .int x0)]) hx hb dX7_interest_88 hl (by decide) rfl (fun ls hl => ?_)
                refine lv_iload_n hx hb dX7_interest_90 rfl (lv_at hl 3 rfl) ?_
                refine lv_aload_n hx hb dX7_interest_91 rfl (lv_at hl 4 rfl) ?_
                refine lv_iload hx hb dX7_interest_92 (lv_at hl 1 rfl) ?_
                refine sy_ki (sy_rV (o := 0) (As := [.int ((g 37 x0.toNatClampNeg) + (14 * (nI k0)))]) (rest := [.int (lX7_interest g q x0 k0)]) ⟨hx, hb, hml, hown, hts⟩ hE hP hS (mX7_isFree l hfl Z nT nK cT cK ad g q ((g 37 x0.toNatClampNeg) + (14 * (nI k0))) hI) (cwV 1 hts (gu_V uk_5_188 uk_5_190 uk_0_28 uk_1_9 uk_5_191) rfl rfl rfl (by decide +kernel) ⟨Nat.le_of_ble_eq_true rfl, Nat.le_of_ble_eq_true rfl⟩) (sy_recv (kc := 8) hE hP rfl (by decide) rfl rfl rfl) rfl hl.1 rfl (Nat.le_of_ble_eq_true rfl) dX7_interest_94 ⟨Nat.le_of_ble_eq_true rfl, Nat.le_of_ble_eq_true rfl⟩) hS (fun r_e_7 g_e_7 q_e_7 H locs e_7 hP hS => ?_)
                cases e_7
                refine lv_if_eq (tgt := 104) hx hb dX7_interest_97 (by decide) (fun c_8 => ?_) (fun c_8 => ?_)
                · skip
                  refine lv_aload_n hx hb dX7_interest_104 rfl (lv_at hl 4 rfl) ?_
                  refine sy_getRX7 hx hb hts hown hE hP 0 rfl 34 (by decide) (hts _ (u_in uk_4_224)) (v := .ref (ad 35)) rfl dX7_interest_105 ?_
                  refine lv_iload_n hx hb dX7_interest_108 rfl (lv_at hl 5 rfl) ?_
                  refine sy_ialdN hx hb hE hP 35 rfl (show vp_in x0 40 from hx0) x0.toNatClampNeg rfl (v := g 35 x0.toNatClampNeg) rfl dX7_interest_109 ?_
                  refine lv_iload hx hb dX7_interest_110 (lv_at hl 0 rfl) ?_
                  refine lv_imul hx hb dX7_interest_112 ?_
                  refine lv_sipush (v := 999) hx hb dX7_interest_113 (by decide) ?_
                  refine lv_iadd hx hb dX7_interest_116 ?_
                  refine lv_sipush (v := 1000) hx hb dX7_interest_117 (by decide) ?_
                  refine lv_idiv hx hb dX7_interest_120 (by decide) ?_
                  refine lv_iadd hx hb dX7_interest_121 ?_
                  refine lv_istore_n (lv' := [(2, .int ((lX7_interest g q x0 k0) + ((((g 35 x0.toNatClampNeg) * (fX7_rateOn g q 2 ((g 37 x0.toNatClampNeg) + (14 * (nI k0))))) + 999) / 1000))), (5, .int (fX7_rateOn g q 2 ((g 37 x0.toNatClampNeg) + (14 * (nI k0))))), (4, .int ((g 37 x0.toNatClampNeg) + (14 * (nI k0)))), (3, .int (nI k0)), (0, .ref (ad 0)), (1, .int x0)]) hx hb dX7_interest_122 rfl hl (by decide) rfl (fun ls hl => ?_)
                  refine lv_iinc (v := ((nI k0) + 1)) (lv' := [(3, .int ((nI k0) + 1)), (2, .int ((lX7_interest g q x0 k0) + ((((g 35 x0.toNatClampNeg) * (fX7_rateOn g q 2 ((g 37 x0.toNatClampNeg) + (14 * (nI k0))))) + 999) / 1000))), (5, .int (fX7_rateOn g q 2 ((g 37 x0.toNatClampNeg) + (14 * (nI k0))))), (4, .int ((g 37 x0.toNatClampNeg) + (14 * (nI k0)))), (0, .ref (ad 0)), (1, .int x0)]) hx hb dX7_interest_123 hl (k := 3) rfl rfl (by decide) rfl (fun ls hl => ?_)
                  refine lv_goto (tgt := 30) hx hb dX7_interest_126 (by decide) ?_
                  have hF : lX7_interest g q x0 (k0 + 1) = ((lX7_interest g q x0 k0) + ((((g 35 x0.toNatClampNeg) * (fX7_rateOn g q 2 ((g 37 x0.toNatClampNeg) + (14 * (nI k0))))) + 999) / 1000)) := by rw [lX7_interest, if_pos c_4, if_pos c_5, if_pos c_8] <;> rfl
                  exact ih (k0 + 1) (by omega) (by omega) H locs ls hP hS (by rw [nI_succ, hF]; exact lv_sub hl [0, 1, 4, 5] rfl)
                · skip
                  refine lv_iconst (v := 0) hx hb dX7_interest_100 (by decide) ?_
                  refine lv_goto (tgt := 121) hx hb dX7_interest_101 (by decide) ?_
                  refine lv_iadd hx hb dX7_interest_121 ?_
                  refine lv_istore_n (lv' := [(2, .int ((lX7_interest g q x0 k0) + 0)), (5, .int (fX7_rateOn g q 2 ((g 37 x0.toNatClampNeg) + (14 * (nI k0))))), (4, .int ((g 37 x0.toNatClampNeg) + (14 * (nI k0)))), (3, .int (nI k0)), (0, .ref (ad 0)), (1, .int x0)]) hx hb dX7_interest_122 rfl hl (by decide) rfl (fun ls hl => ?_)
                  refine lv_iinc (v := ((nI k0) + 1)) (lv' := [(3, .int ((nI k0) + 1)), (2, .int ((lX7_interest g q x0 k0) + 0)), (5, .int (fX7_rateOn g q 2 ((g 37 x0.toNatClampNeg) + (14 * (nI k0))))), (4, .int ((g 37 x0.toNatClampNeg) + (14 * (nI k0)))), (0, .ref (ad 0)), (1, .int x0)]) hx hb dX7_interest_123 hl (k := 3) rfl rfl (by decide) rfl (fun ls hl => ?_)
                  refine lv_goto (tgt := 30) hx hb dX7_interest_126 (by decide) ?_
                  have hF : lX7_interest g q x0 (k0 + 1) = ((lX7_interest g q x0 k0) + 0) := by rw [lX7_interest, if_pos c_4, if_pos c_5, if_neg c_8] <;> rfl
                  exact ih (k0 + 1) (by omega) (by omega) H locs ls hP hS (by rw [nI_succ, hF]; exact lv_sub hl [0, 1, 4, 5] rfl)
              · skip
                refine lv_iconst (v := 1) hx hb dX7_interest_78 (by decide) ?_
                refine lv_goto (tgt := 83) hx hb dX7_interest_79 (by decide) ?_
                refine lv_iload hx hb dX7_interest_83 (lv_at hl 0 rfl) ?_
                refine sy_ki (sy_rV (o := 0) (As := [.int 1, .int ((g 37 x0.toNatClampNeg) + (14 * (nI k0)))]) (rest := []) ⟨hx, hb, hml, hown, hts⟩ hE hP hS (mX7_rateOn l hfl Z nT nK cT cK ad g q 1 ((g 37 x0.toNatClampNeg) + (14 * (nI k0))) hI) (cwV 2 hts (gu_V uk_5_132 uk_5_134 uk_0_18 uk_1_9 uk_5_135) rfl rfl rfl (by decide +kernel) ⟨Nat.le_of_ble_eq_true rfl, Nat.le_of_ble_eq_true rfl⟩) (sy_recv (kc := 8) hE hP rfl (by decide) rfl rfl rfl) rfl hl.1 rfl (Nat.le_of_ble_eq_true rfl) dX7_interest_85 ⟨Nat.le_of_ble_eq_true rfl, Nat.le_of_ble_eq_true rfl⟩) hS (fun r_e_9 g_e_9 q_e_9 H locs e_9 hP hS => ?_)
                cases e_9
                refine lv_istore (lv' := [(5, .int (fX7_rateOn g q 1 ((g 37 x0.toNatClampNeg) + (14 * (nI k0))))), (4, .int ((g 37 x0.toNatClampNeg) + (14 * (nI k0)))), (3, .int (nI k0)), (2, .int (lX7_interest g q x0 k0)), (0, .ref (ad 0)), (1, .int x0)]) hx hb dX7_interest_88 hl (by decide) rfl (fun ls hl => ?_)
                refine lv_iload_n hx hb dX7_interest_90 rfl (lv_at hl 3 rfl) ?_
                refine lv_aload_n hx hb dX7_interest_91 rfl (lv_at hl 4 rfl) ?_
                refine lv_iload hx hb dX7_interest_92 (lv_at hl 1 rfl) ?_
                refine sy_ki (sy_rV (o := 0) (As := [.int ((g 37 x0.toNatClampNeg) + (14 * (nI k0)))]) (rest := [.int (lX7_interest g q x0 k0)]) ⟨hx, hb, hml, hown, hts⟩ hE hP hS (mX7_isFree l hfl Z nT nK cT cK ad g q ((g 37 x0.toNatClampNeg) + (14 * (nI k0))) hI) (cwV 1 hts (gu_V uk_5_188 uk_5_190 uk_0_28 uk_1_9 uk_5_191) rfl rfl rfl (by decide +kernel) ⟨Nat.le_of_ble_eq_true rfl, Nat.le_of_ble_eq_true rfl⟩) (sy_recv (kc := 8) hE hP rfl (by decide) rfl rfl rfl) rfl hl.1 rfl (Nat.le_of_ble_eq_true rfl) dX7_interest_94 ⟨Nat.le_of_ble_eq_true rfl, Nat.le_of_ble_eq_true rfl⟩) hS (fun r_e_10 g_e_10 q_e_10 H locs e_10 hP hS => ?_)
                cases e_10
                refine lv_if_eq (tgt := 104) hx hb dX7_interest_97 (by decide) (fun c_11 => ?_) (fun c_11 => ?_)
                · skip
                  refine lv_aload_n hx hb dX7_interest_104 rfl (lv_at hl 4 rfl) ?_
                  refine sy_getRX7 hx hb hts hown hE hP 0 rfl 34 (by decide) (hts _ (u_in uk_4_224)) (v := .ref (ad 35)) rfl dX7_interest_105 ?_
                  refine lv_iload_n hx hb dX7_interest_108 rfl (lv_at hl 5 rfl) ?_
                  refine sy_ialdN hx hb hE hP 35 rfl (show vp_in x0 40 from hx0) x0.toNatClampNeg rfl (v := g 35 x0.toNatClampNeg) rfl dX7_interest_109 ?_
                  refine lv_iload hx hb dX7_interest_110 (lv_at hl 0 rfl) ?_
                  refine lv_imul hx hb dX7_interest_112 ?_
                  refine lv_sipush (v := 999) hx hb dX7_interest_113 (by decide) ?_
                  refine lv_iadd hx hb dX7_interest_116 ?_
                  refine lv_sipush (v := 1000) hx hb dX7_interest_117 (by decide) ?_
                  refine lv_idiv hx hb dX7_interest_120 (by decide) ?_
                  refine lv_iadd hx hb dX7_interest_121 ?_
                  refine lv_istore_n (lv' := [(2, .int ((lX7_interest g q x0 k0) + ((((g 35 x0.toNatClampNeg) * (fX7_rateOn g q 1 ((g 37 x0.toNatClampNeg) + (14 * (nI k0))))) + 999) / 1000))), (5, .int (fX7_rateOn g q 1 ((g 37 x0.toNatClampNeg) + (14 * (nI k0))))), (4, .int ((g 37 x0.toNatClampNeg) + (14 * (nI k0)))), (3, .int (nI k0)), (0, .ref (ad 0)), (1, .int x0)]) hx hb dX7_interest_122 rfl hl (by decide) rfl (fun ls hl => ?_)
                  refine lv_iinc (v := ((nI k0) + 1)) (lv' := [(3, .int ((nI k0) + 1)), (2, .int ((lX7_interest g q x0 k0) + ((((g 35 x0.toNatClampNeg) * (fX7_rateOn g q 1 ((g 37 x0.toNatClampNeg) + (14 * (nI k0))))) + 999) / 1000))), (5, .int (fX7_rateOn g q 1 ((g 37 x0.toNatClampNeg) + (14 * (nI k0))))), (4, .int ((g 37 x0.toNatClampNeg) + (14 * (nI k0)))), (0, .ref (ad 0)), (1, .int x0)]) hx hb dX7_interest_123 hl (k := 3) rfl rfl (by decide) rfl (fun ls hl => ?_)
                  refine lv_goto (tgt := 30) hx hb dX7_interest_126 (by decide) ?_
                  have hF : lX7_interest g q x0 (k0 + 1) = ((lX7_interest g q x0 k0) + ((((g 35 x0.toNatClampNeg) * (fX7_rateOn g q 1 ((g 37 x0.toNatClampNeg) + (14 * (nI k0))))) + 999) / 1000)) := by rw [lX7_interest, if_pos c_4, if_neg c_5, if_pos c_11] <;> rfl
                  exact ih (k0 + 1) (by omega) (by omega) H locs ls hP hS (by rw [nI_succ, hF]; exact lv_sub hl [0, 1, 4, 5] rfl)
                · skip
                  refine lv_iconst (v := 0) hx hb dX7_interest_100 (by decide) ?_
                  refine lv_goto (tgt := 121) hx hb dX7_interest_101 (by decide) ?_
                  refine lv_iadd hx hb dX7_interest_121 ?_
                  refine lv_istore_n (lv' := [(2, .int ((lX7_interest g q x0 k0) + 0)), (5, .int (fX7_rateOn g q 1 ((g 37 x0.toNatClampNeg) + (14 * (nI k0))))), (4, .int ((g 37 x0.toNatClampNeg) + (14 * (nI k0)))), (3, .int (nI k0)), (0, .ref (ad 0)), (1, .int x0)]) hx hb dX7_interest_122 rfl hl (by decide) rfl (fun ls hl => ?_)
                  refine lv_iinc (v := ((nI k0) + 1)) (lv' := [(3, .int ((nI k0) + 1)), (2, .int ((lX7_interest g q x0 k0) + 0)), (5, .int (fX7_rateOn g q 1 ((g 37 x0.toNatClampNeg) + (14 * (nI k0))))), (4, .int ((g 37 x0.toNatClampNeg) + (14 * (nI k0)))), (0, .ref (ad 0)), (1, .int x0)]) hx hb dX7_interest_123 hl (k := 3) rfl rfl (by decide) rfl (fun ls hl => ?_)
                  refine lv_goto (tgt := 30) hx hb dX7_interest_126 (by decide) ?_
                  have hF : lX7_interest g q x0 (k0 + 1) = ((lX7_interest g q x0 k0) + 0) := by rw [lX7_interest, if_pos c_4, if_neg c_5, if_neg c_11] <;> rfl
                  exact ih (k0 + 1) (by omega) (by omega) H locs ls hP hS (by rw [nI_succ, hF]; exact lv_sub hl [0, 1, 4, 5] rfl)
            · skip
              refine lv_iconst (v := 0) hx hb dX7_interest_68 (by decide) ?_
              refine lv_goto (tgt := 83) hx hb dX7_interest_69 (by decide) ?_
              refine lv_iload hx hb dX7_interest_83 (lv_at hl 0 rfl) ?_
              refine sy_ki (sy_rV (o := 0) (As := [.int 0, .int ((g 37 x0.toNatClampNeg) + (14 * (nI k0)))]) (rest := []) ⟨hx, hb, hml, hown, hts⟩ hE hP hS (mX7_rateOn l hfl Z nT nK cT cK ad g q 0 ((g 37 x0.toNatClampNeg) + (14 * (nI k0))) hI) (cwV 2 hts (gu_V uk_5_132 uk_5_134 uk_0_18 uk_1_9 uk_5_135) rfl rfl rfl (by decide +kernel) ⟨Nat.le_of_ble_eq_true rfl, Nat.le_of_ble_eq_true rfl⟩) (sy_recv (kc := 8) hE hP rfl (by decide) rfl rfl rfl) rfl hl.1 rfl (Nat.le_of_ble_eq_true rfl) dX7_interest_85 ⟨Nat.le_of_ble_eq_true rfl, Nat.le_of_ble_eq_true rfl⟩) hS (fun r_e_12 g_e_12 q_e_12 H locs e_12 hP hS => ?_)
              cases e_12
              refine lv_istore (lv' := [(5, .int (fX7_rateOn g q 0 ((g 37 x0.toNatClampNeg) + (14 * (nI k0))))), (4, .int ((g 37 x0.toNatClampNeg) + (14 * (nI k0)))), (3, .int (nI k0)), (2, .int (lX7_interest g q x0 k0)), (0, .ref (ad 0)), (1, .int x0)]) hx hb dX7_interest_88 hl (by decide) rfl (fun ls hl => ?_)
              refine lv_iload_n hx hb dX7_interest_90 rfl (lv_at hl 3 rfl) ?_
              refine lv_aload_n hx hb dX7_interest_91 rfl (lv_at hl 4 rfl) ?_
              refine lv_iload hx hb dX7_interest_92 (lv_at hl 1 rfl) ?_
              refine sy_ki (sy_rV (o := 0) (As := [.int ((g 37 x0.toNatClampNeg) + (14 * (nI k0)))]) (rest := [.int (lX7_interest g q x0 k0)]) ⟨hx, hb, hml, hown, hts⟩ hE hP hS (mX7_isFree l hfl Z nT nK cT cK ad g q ((g 37 x0.toNatClampNeg) + (14 * (nI k0))) hI) (cwV 1 hts (gu_V uk_5_188 uk_5_190 uk_0_28 uk_1_9 uk_5_191) rfl rfl rfl (by decide +kernel) ⟨Nat.le_of_ble_eq_true rfl, Nat.le_of_ble_eq_true rfl⟩) (sy_recv (kc := 8) hE hP rfl (by decide) rfl rfl rfl) rfl hl.1 rfl (Nat.le_of_ble_eq_true rfl) dX7_interest_94 ⟨Nat.le_of_ble_eq_true rfl, Nat.le_of_ble_eq_true rfl⟩) hS (fun r_e_13 g_e_13 q_e_13 H locs e_13 hP hS => ?_)
              cases e_13
              refine lv_if_eq (tgt := 104) hx hb dX7_interest_97 (by decide) (fun c_14 => ?_) (fun c_14 => ?_)
              · skip
                refine lv_aload_n hx hb dX7_interest_104 rfl (lv_at hl 4 rfl) ?_
                refine sy_getRX7 hx hb hts hown hE hP 0 rfl 34 (by decide) (hts _ (u_in uk_4_224)) (v := .ref (ad 35)) rfl dX7_interest_105 ?_
                refine lv_iload_n hx hb dX7_interest_108 rfl (lv_at hl 5 rfl) ?_
                refine sy_ialdN hx hb hE hP 35 rfl (show vp_in x0 40 from hx0) x0.toNatClampNeg rfl (v := g 35 x0.toNatClampNeg) rfl dX7_interest_109 ?_
                refine lv_iload hx hb dX7_interest_110 (lv_at hl 0 rfl) ?_
                refine lv_imul hx hb dX7_interest_112 ?_
                refine lv_sipush (v := 999) hx hb dX7_interest_113 (by decide) ?_
                refine lv_iadd hx hb dX7_interest_116 ?_
                refine lv_sipush (v := 1000) hx hb dX7_interest_117 (by decide) ?_
                refine lv_idiv hx hb dX7_interest_120 (by decide) ?_
                refine lv_iadd hx hb dX7_interest_121 ?_
                refine lv_istore_n (lv' := [(2, .int ((lX7_interest g q x0 k0) + ((((g 35 x0.toNatClampNeg) * (fX7_rateOn g q 0 ((g 37 x0.toNatClampNeg) + (14 * (nI k0))))) + 999) / 1000))), (5, .int (fX7_rateOn g q 0 ((g 37 x0.toNatClampNeg) + (14 * (nI k0))))), (4, .int ((g 37 x0.toNatClampNeg) + (14 * (nI k0)))), (3, .int (nI k0)), (0, .ref (ad 0)), (1, .int x0)]) hx hb dX7_interest_122 rfl hl (by decide) rfl (fun ls hl => ?_)
                refine lv_iinc (v := ((nI k0) + 1)) (lv' := [(3, .int ((nI k0) + 1)), (2, .int ((lX7_interest g q x0 k0) + ((((g 35 x0.toNatClampNeg) * (fX7_rateOn g q 0 ((g 37 x0.toNatClampNeg) + (14 * (nI k0))))) + 999) / 1000))), (5, .int (fX7_rateOn g q 0 ((g 37 x0.toNatClampNeg) + (14 * (nI k0))))), (4, .int ((g 37 x0.toNatClampNeg) + (14 * (nI k0)))), (0, .ref (ad 0)), (1, .int x0)]) hx hb dX7_interest_123 hl (k := 3) rfl rfl (by decide) rfl (fun ls hl => ?_)
                refine lv_goto (tgt := 30) hx hb dX7_interest_126 (by decide) ?_
                have hF : lX7_interest g q x0 (k0 + 1) = ((lX7_interest g q x0 k0) + ((((g 35 x0.toNatClampNeg) * (fX7_rateOn g q 0 ((g 37 x0.toNatClampNeg) + (14 * (nI k0))))) + 999) / 1000)) := by rw [lX7_interest, if_neg c_4, if_pos c_14] <;> rfl
                exact ih (k0 + 1) (by omega) (by omega) H locs ls hP hS (by rw [nI_succ, hF]; exact lv_sub hl [0, 1, 4, 5] rfl)
              · skip
                refine lv_iconst (v := 0) hx hb dX7_interest_100 (by decide) ?_
                refine lv_goto (tgt := 121) hx hb dX7_interest_101 (by decide) ?_
                refine lv_iadd hx hb dX7_interest_121 ?_
                refine lv_istore_n (lv' := [(2, .int ((lX7_interest g q x0 k0) + 0)), (5, .int (fX7_rateOn g q 0 ((g 37 x0.toNatClampNeg) + (14 * (nI k0))))), (4, .int ((g 37 x0.toNatClampNeg) + (14 * (nI k0)))), (3, .int (nI k0)), (0, .ref (ad 0)), (1, .int x0)]) hx hb dX7_interest_122 rfl hl (by decide) rfl (fun ls hl => ?_)
                refine lv_iinc (v := ((nI k0) + 1)) (lv' := [(3, .int ((nI k0) + 1)), (2, .int ((lX7_interest g q x0 k0) + 0)), (5, .int (fX7_rateOn g q 0 ((g 37 x0.toNatClampNeg) + (14 * (nI k0))))), (4, .int ((g 37 x0.toNatClampNeg) + (14 * (nI k0)))), (0, .ref (ad 0)), (1, .int x0)]) hx hb dX7_interest_123 hl (k := 3) rfl rfl (by decide) rfl (fun ls hl => ?_)
                refine lv_goto (tgt := 30) hx hb dX7_interest_126 (by decide) ?_
                have hF : lX7_interest g q x0 (k0 + 1) = ((lX7_interest g q x0 k0) + 0) := by rw [lX7_interest, if_neg c_4, if_neg c_14] <;> rfl
                exact ih (k0 + 1) (by omega) (by omega) H locs ls hP hS (by rw [nI_succ, hF]; exact lv_sub hl [0, 1, 4, 5] rfl)
      exact hL_30 ((((g 0 1).toNatClampNeg - (g 37 x0.toNatClampNeg).toNatClampNeg) / 14 + 1) + 1) 0 (Nat.zero_le _) (by omega) _ _ _ hP hS (lv_sub hl [0, 1, 2, 3] rfl)
    · skip
      refine lv_iconst (v := 0) hx hb dX7_interest_26 (by decide) ?_
      exact (sy_ireti hx hb hr hlocks hE hP hS dX7_interest_27 ⟨Nat.le_of_ble_eq_true rfl, Nat.le_of_ble_eq_true rfl⟩ (by unfold fX7_interest; rw [if_pos c_1, if_neg c_2] <;> rfl))
def fX7_shelfFor (g : sG) (q : sQ) (x0 x1 : Int32) : Int32 := (if (fX7_rest g q ((4 * x1) + 3) x0) < (g 5 x0.toNatClampNeg) then (if (fX7_rest g q ((4 * x1) + 2) x0) < (g 5 x0.toNatClampNeg) then (if (fX7_rest g q ((4 * x1) + 1) x0) < (g 5 x0.toNatClampNeg) then (if (fX7_rest g q (4 * x1) x0) < (g 5 x0.toNatClampNeg) then (-1) else (if (g 4 x0.toNatClampNeg) = 1 then 0 else 0)) else (if (fX7_rest g q (4 * x1) x0) < (g 5 x0.toNatClampNeg) then 1 else (if (g 4 x0.toNatClampNeg) = 1 then 0 else 1))) else (if (fX7_rest g q ((4 * x1) + 1) x0) < (g 5 x0.toNatClampNeg) then (if (fX7_rest g q (4 * x1) x0) < (g 5 x0.toNatClampNeg) then 2 else (if (g 4 x0.toNatClampNeg) = 1 then 0 else 2)) else (if (fX7_rest g q (4 * x1) x0) < (g 5 x0.toNatClampNeg) then 1 else (if (g 4 x0.toNatClampNeg) = 1 then 0 else 1)))) else (if (fX7_rest g q ((4 * x1) + 2) x0) < (g 5 x0.toNatClampNeg) then (if (fX7_rest g q ((4 * x1) + 1) x0) < (g 5 x0.toNatClampNeg) then (if (fX7_rest g q (4 * x1) x0) < (g 5 x0.toNatClampNeg) then 3 else (if (g 4 x0.toNatClampNeg) = 1 then 0 else 3)) else (if (fX7_rest g q (4 * x1) x0) < (g 5 x0.toNatClampNeg) then 1 else (if (g 4 x0.toNatClampNeg) = 1 then 0 else 1))) else (if (fX7_rest g q ((4 * x1) + 1) x0) < (g 5 x0.toNatClampNeg) then (if (fX7_rest g q (4 * x1) x0) < (g 5 x0.toNatClampNeg) then 2 else (if (g 4 x0.toNatClampNeg) = 1 then 0 else 2)) else (if (fX7_rest g q (4 * x1) x0) < (g 5 x0.toNatClampNeg) then 1 else (if (g 4 x0.toNatClampNeg) = 1 then 0 else 1)))))
set_option maxHeartbeats 4000000 in
set_option maxRecDepth 100000 in
theorem mX7_shelfFor (l : Launch) (hfl : l.stackTraces = false) (Z : sZ) (nT nK cT cK : Nat) (ad : Nat → Nat) (g : sG) (q : sQ) (x0 x1 : Int32) {mT mK : Nat} (hI : IM mT mK g) (hx0 : vp_in x0 40) : sMi l Z yX7_shelfFor (uW (.code yX7_shelfFor cX7_shelfFor 5 (some .int))) { frames := 1, cells := 0, slots := 0, locals := 24 } [.ref (ad 0), .int x0, .int x1] nT nK cT cK ad g q (fun r g1 q1 => (r, g1, q1) = (fX7_shelfFor g q x0 x1, g, q)) := by
  refine Met.ofW (cc := cX7_shelfFor) (maxL := 5) (ret := (some .int)) (by decide) rfl ?_
  intro p e s m args below meth c s₁ B hml hv
  obtain ⟨rfl, hE, hP⟩ := hv
  have hx := B.exec
  have hb := B.bytes
  have hr := B.returns
  have hts := atoms_spec (ws := uW (.code yX7_shelfFor cX7_shelfFor 5 (some .int))) B.pre
  have hown : s.vm.findClass RX7 = some m.cls := findClass_of_methodNamed B.named
  have hlocks := B.notSynchronized
  have hS : va_S (sy_A Z) s.heap s.heap [] := va_S.rf
  have hl := lv_entry ([.ref (ad 0), .int x0, .int x1]) (n := 5) (Nat.le_of_ble_eq_true rfl)
  rw [lg_entry_eq]
  generalize (lg_sl ([.ref (ad 0), .int x0, .int x1]) ++ List.replicate (5 - (lg_sl ([.ref (ad 0), .int x0, .int x1])).length) Slot.unset).toArray = ls at hl ⊢
  have hl : lv_has ls 5 [(0, .ref (ad 0)), (1, .int x0), (2, .int x1)] := hl
  have K_1 : ((fX7_rest g q ((4 * x1) + 3) x0) < (g 5 x0.toNatClampNeg)) → ((fX7_rest g q ((4 * x1) + 2) x0) < (g 5 x0.toNatClampNeg)) → ((fX7_rest g q ((4 * x1) + 1) x0) < (g 5 x0.toNatClampNeg)) → ∀ (H : Heap) (locs : List Loc) (ls : Array Slot), Sy Z nT nK cT cK ad g q H → va_S (sy_A Z) s.heap H locs → lv_has ls 5 [(4, .int 0), (3, .int (-1)), (0, .ref (ad 0)), (1, .int x0), (2, .int x1)] → W p l e ({ frames := 1, cells := 0, slots := 0, locals := 24 } : Room) s m ([.ref (ad 0), .int x0, .int x1] : List Value).toArray below meth c H locs 0 0 (MQ below (sQi Z nT nK cT cK ad (fun r g1 q1 => (r, g1, q1) = (fX7_shelfFor g q x0 x1, g, q))) ([.ref (ad 0), .int x0, .int x1] : List Value).toArray s 0 0 (sy_A Z)) (F0 m 40 ls []) := by
    intro c_2 c_4 c_6 H locs ls hP hS hl
    refine lv_goto (tgt := 5) hx hb dX7_shelfFor_40 (by decide) ?_
    refine lv_iload hx hb dX7_shelfFor_5 (lv_at hl 0 rfl) ?_
    refine lv_if_le (tgt := 43) hx hb dX7_shelfFor_7 (by decide) (fun _ => ?_) (fun c9 => absurd c9 (by decide))
    refine lv_aload_n hx hb dX7_shelfFor_43 rfl (lv_at hl 2 rfl) ?_
    refine lv_iconst (v := 4) hx hb dX7_shelfFor_44 (by decide) ?_
    refine lv_iload_n hx hb dX7_shelfFor_45 rfl (lv_at hl 4 rfl) ?_
    refine lv_imul hx hb dX7_shelfFor_46 ?_
    refine lv_iload_n hx hb dX7_shelfFor_47 rfl (lv_at hl 3 rfl) ?_
    refine sy_ki (sy_rV (o := 0) (As := [.int (4 * x1), .int x0]) (rest := []) ⟨hx, hb, hml, hown, hts⟩ hE hP hS (mX7_rest l hfl Z nT nK cT cK ad g q (4 * x1) x0 hI) (cwV 2 hts (gu_V uk_5_164 uk_5_166 uk_0_23 uk_1_9 uk_5_167) rfl rfl rfl (by decide +kernel) ⟨Nat.le_of_ble_eq_true rfl, Nat.le_of_ble_eq_true rfl⟩) (sy_recv (kc := 8) hE hP rfl (by decide) rfl rfl rfl) rfl hl.1 rfl (Nat.le_of_ble_eq_true rfl) dX7_shelfFor_48 ⟨Nat.le_of_ble_eq_true rfl, Nat.le_of_ble_eq_true rfl⟩) hS (fun r_e_7 g_e_7 q_e_7 H locs e_7 hP hS => ?_)
    cases e_7
    refine lv_aload_n hx hb dX7_shelfFor_51 rfl (lv_at hl 2 rfl) ?_
    refine sy_getRX7 hx hb hts hown hE hP 0 rfl 4 (by decide) (hts _ (u_in uk_4_194)) (v := .ref (ad 5)) rfl dX7_shelfFor_52 ?_
    refine lv_iload_n hx hb dX7_shelfFor_55 rfl (lv_at hl 3 rfl) ?_
    refine sy_ialdN hx hb hE hP 5 rfl (show vp_in x0 40 from hx0) x0.toNatClampNeg rfl (v := g 5 x0.toNatClampNeg) rfl dX7_shelfFor_56 ?_
    refine lv_icmp_lt (tgt := 64) hx hb dX7_shelfFor_57 (by decide) (fun c_8 => ?_) (fun c_8 => ?_)
    · skip
      refine lv_iconst (v := 0) hx hb dX7_shelfFor_64 (by decide) ?_
      refine lv_istore (lv' := [(4, .int 0), (3, .int (-1)), (0, .ref (ad 0)), (1, .int x0), (2, .int x1)]) hx hb dX7_shelfFor_65 hl (by decide) rfl (fun ls hl => ?_)
      refine lv_iload hx hb dX7_shelfFor_67 (lv_at hl 0 rfl) ?_
      refine lv_if_eq (tgt := 91) hx hb dX7_shelfFor_69 (by decide) (fun _ => ?_) (fun c9 => absurd c9 (by decide))
      refine lv_iload_n hx hb dX7_shelfFor_91 rfl (lv_at hl 1 rfl) ?_
      exact (sy_ireti hx hb hr hlocks hE hP hS dX7_shelfFor_92 ⟨Nat.le_of_ble_eq_true rfl, Nat.le_of_ble_eq_true rfl⟩ (by unfold fX7_shelfFor; rw [if_pos c_2, if_pos c_4, if_pos c_6, if_pos c_8] <;> rfl))
    · skip
      refine lv_iconst (v := 1) hx hb dX7_shelfFor_60 (by decide) ?_
      refine lv_goto (tgt := 65) hx hb dX7_shelfFor_61 (by decide) ?_
      refine lv_istore (lv' := [(4, .int 1), (3, .int (-1)), (0, .ref (ad 0)), (1, .int x0), (2, .int x1)]) hx hb dX7_shelfFor_65 hl (by decide) rfl (fun ls hl => ?_)
      refine lv_iload hx hb dX7_shelfFor_67 (lv_at hl 0 rfl) ?_
      refine lv_if_eq (tgt := 91) hx hb dX7_shelfFor_69 (by decide) (fun c9 => absurd c9 (by decide)) (fun _ => ?_)
      refine lv_aload_n hx hb dX7_shelfFor_72 rfl (lv_at hl 2 rfl) ?_
      refine sy_getRX7 hx hb hts hown hE hP 0 rfl 3 (by decide) (hts _ (u_in uk_4_193)) (v := .ref (ad 4)) rfl dX7_shelfFor_73 ?_
      refine lv_iload_n hx hb dX7_shelfFor_76 rfl (lv_at hl 3 rfl) ?_
      refine sy_ialdN hx hb hE hP 4 rfl (show vp_in x0 40 from hx0) x0.toNatClampNeg rfl (v := g 4 x0.toNatClampNeg) rfl dX7_shelfFor_77 ?_
      refine lv_iconst (v := 1) hx hb dX7_shelfFor_78 (by decide) ?_
      refine lv_icmp_eq (tgt := 87) hx hb dX7_shelfFor_79 (by decide) (fun c_9 => ?_) (fun c_9 => ?_)
      · skip
        refine lv_iconst (v := 0) hx hb dX7_shelfFor_87 (by decide) ?_
        refine lv_goto (tgt := 92) hx hb dX7_shelfFor_88 (by decide) ?_
        exact (sy_ireti hx hb hr hlocks hE hP hS dX7_shelfFor_92 ⟨Nat.le_of_ble_eq_true rfl, Nat.le_of_ble_eq_true rfl⟩ (by unfold fX7_shelfFor; rw [if_pos c_2, if_pos c_4, if_pos c_6, if_neg c_8, if_pos c_9] <;> rfl))
      · skip
        refine lv_iload_n hx hb dX7_shelfFor_82 rfl (lv_at hl 1 rfl) ?_
        refine lv_iconst (v := (-1)) hx hb dX7_shelfFor_83 (by decide) ?_
        refine lv_icmp_ne (tgt := 91) hx hb dX7_shelfFor_84 (by decide) (fun c9 => absurd c9 (by decide)) (fun _ => ?_)
        refine lv_iconst (v := 0) hx hb dX7_shelfFor_87 (by decide) ?_
        refine lv_goto (tgt := 92) hx hb dX7_shelfFor_88 (by decide) ?_
        exact (sy_ireti hx hb hr hlocks hE hP hS dX7_shelfFor_92 ⟨Nat.le_of_ble_eq_true rfl, Nat.le_of_ble_eq_true rfl⟩ (by unfold fX7_shelfFor; rw [if_pos c_2, if_pos c_4, if_pos c_6, if_neg c_8, if_neg c_9] <;> rfl))
  have K_2 : ((fX7_rest g q ((4 * x1) + 3) x0) < (g 5 x0.toNatClampNeg)) → ((fX7_rest g q ((4 * x1) + 2) x0) < (g 5 x0.toNatClampNeg)) → (¬ ((fX7_rest g q ((4 * x1) + 1) x0) < (g 5 x0.toNatClampNeg))) → ∀ (H : Heap) (locs : List Loc) (ls : Array Slot), Sy Z nT nK cT cK ad g q H → va_S (sy_A Z) s.heap H locs → lv_has ls 5 [(3, .int 1), (4, .int 1), (0, .ref (ad 0)), (1, .int x0), (2, .int x1)] → W p l e ({ frames := 1, cells := 0, slots := 0, locals := 24 } : Room) s m ([.ref (ad 0), .int x0, .int x1] : List Value).toArray below meth c H locs 0 0 (MQ below (sQi Z nT nK cT cK ad (fun r g1 q1 => (r, g1, q1) = (fX7_shelfFor g q x0 x1, g, q))) ([.ref (ad 0), .int x0, .int x1] : List Value).toArray s 0 0 (sy_A Z)) (F0 m 37 ls []) := by
    intro c_2 c_4 c_6 H locs ls hP hS hl
    refine lv_iinc (v := 0) (lv' := [(4, .int 0), (3, .int 1), (0, .ref (ad 0)), (1, .int x0), (2, .int x1)]) hx hb dX7_shelfFor_37 hl (k := 1) rfl rfl (by decide) rfl (fun ls hl => ?_)
    refine lv_goto (tgt := 5) hx hb dX7_shelfFor_40 (by decide) ?_
    refine lv_iload hx hb dX7_shelfFor_5 (lv_at hl 0 rfl) ?_
    refine lv_if_le (tgt := 43) hx hb dX7_shelfFor_7 (by decide) (fun _ => ?_) (fun c9 => absurd c9 (by decide))
    refine lv_aload_n hx hb dX7_shelfFor_43 rfl (lv_at hl 2 rfl) ?_
    refine lv_iconst (v := 4) hx hb dX7_shelfFor_44 (by decide) ?_
    refine lv_iload_n hx hb dX7_shelfFor_45 rfl (lv_at hl 4 rfl) ?_
    refine lv_imul hx hb dX7_shelfFor_46 ?_
    refine lv_iload_n hx hb dX7_shelfFor_47 rfl (lv_at hl 3 rfl) ?_
    refine sy_ki (sy_rV (o := 0) (As := [.int (4 * x1), .int x0]) (rest := []) ⟨hx, hb, hml, hown, hts⟩ hE hP hS (mX7_rest l hfl Z nT nK cT cK ad g q (4 * x1) x0 hI) (cwV 2 hts (gu_V uk_5_164 uk_5_166 uk_0_23 uk_1_9 uk_5_167) rfl rfl rfl (by decide +kernel) ⟨Nat.le_of_ble_eq_true rfl, Nat.le_of_ble_eq_true rfl⟩) (sy_recv (kc := 8) hE hP rfl (by decide) rfl rfl rfl) rfl hl.1 rfl (Nat.le_of_ble_eq_true rfl) dX7_shelfFor_48 ⟨Nat.le_of_ble_eq_true rfl, Nat.le_of_ble_eq_true rfl⟩) hS (fun r_e_10 g_e_10 q_e_10 H locs e_10 hP hS => ?_)
    cases e_10
    refine lv_aload_n hx hb dX7_shelfFor_51 rfl (lv_at hl 2 rfl) ?_
    refine sy_getRX7 hx hb hts hown hE hP 0 rfl 4 (by decide) (hts _ (u_in uk_4_194)) (v := .ref (ad 5)) rfl dX7_shelfFor_52 ?_
    refine lv_iload_n hx hb dX7_shelfFor_55 rfl (lv_at hl 3 rfl) ?_
    refine sy_ialdN hx hb hE hP 5 rfl (show vp_in x0 40 from hx0) x0.toNatClampNeg rfl (v := g 5 x0.toNatClampNeg) rfl dX7_shelfFor_56 ?_
    refine lv_icmp_lt (tgt := 64) hx hb dX7_shelfFor_57 (by decide) (fun c_11 => ?_) (fun c_11 => ?_)
    · skip
      refine lv_iconst (v := 0) hx hb dX7_shelfFor_64 (by decide) ?_
      refine lv_istore (lv' := [(4, .int 0), (3, .int 1), (0, .ref (ad 0)), (1, .int x0), (2, .int x1)]) hx hb dX7_shelfFor_65 hl (by decide) rfl (fun ls hl => ?_)
      refine lv_iload hx hb dX7_shelfFor_67 (lv_at hl 0 rfl) ?_
      refine lv_if_eq (tgt := 91) hx hb dX7_shelfFor_69 (by decide) (fun _ => ?_) (fun c9 => absurd c9 (by decide))
      refine lv_iload_n hx hb dX7_shelfFor_91 rfl (lv_at hl 1 rfl) ?_
      exact (sy_ireti hx hb hr hlocks hE hP hS dX7_shelfFor_92 ⟨Nat.le_of_ble_eq_true rfl, Nat.le_of_ble_eq_true rfl⟩ (by unfold fX7_shelfFor; rw [if_pos c_2, if_pos c_4, if_neg c_6, if_pos c_11] <;> rfl))
    · skip
      refine lv_iconst (v := 1) hx hb dX7_shelfFor_60 (by decide) ?_
      refine lv_goto (tgt := 65) hx hb dX7_shelfFor_61 (by decide) ?_
      refine lv_istore (lv' := [(4, .int 1), (3, .int 1), (0, .ref (ad 0)), (1, .int x0), (2, .int x1)]) hx hb dX7_shelfFor_65 hl (by decide) rfl (fun ls hl => ?_)
      refine lv_iload hx hb dX7_shelfFor_67 (lv_at hl 0 rfl) ?_
      refine lv_if_eq (tgt := 91) hx hb dX7_shelfFor_69 (by decide) (fun c9 => absurd c9 (by decide)) (fun _ => ?_)
      refine lv_aload_n hx hb dX7_shelfFor_72 rfl (lv_at hl 2 rfl) ?_
      refine sy_getRX7 hx hb hts hown hE hP 0 rfl 3 (by decide) (hts _ (u_in uk_4_193)) (v := .ref (ad 4)) rfl dX7_shelfFor_73 ?_
      refine lv_iload_n hx hb dX7_shelfFor_76 rfl (lv_at hl 3 rfl) ?_
      refine sy_ialdN hx hb hE hP 4 rfl (show vp_in x0 40 from hx0) x0.toNatClampNeg rfl (v := g 4 x0.toNatClampNeg) rfl dX7_shelfFor_77 ?_
      refine lv_iconst (v := 1) hx hb dX7_shelfFor_78 (by decide) ?_
      refine lv_icmp_eq (tgt := 87) hx hb dX7_shelfFor_79 (by decide) (fun c_12 => ?_) (fun c_12 => ?_)
      · skip
        refine lv_iconst (v := 0) hx hb dX7_shelfFor_87 (by decide) ?_
        refine lv_goto (tgt := 92) hx hb dX7_shelfFor_88 (by decide) ?_
        exact (sy_ireti hx hb hr hlocks hE hP hS dX7_shelfFor_92 ⟨Nat.le_of_ble_eq_true rfl, Nat.le_of_ble_eq_true rfl⟩ (by unfold fX7_shelfFor; rw [if_pos c_2, if_pos c_4, if_neg c_6, if_neg c_11, if_pos c_12] <;> rfl))
      · skip
        refine lv_iload_n hx hb dX7_shelfFor_82 rfl (lv_at hl 1 rfl) ?_
        refine lv_iconst (v := (-1)) hx hb dX7_shelfFor_83 (by decide) ?_
        refine lv_icmp_ne (tgt := 91) hx hb dX7_shelfFor_84 (by decide) (fun _ => ?_) (fun c9 => absurd c9 (by decide))
        refine lv_iload_n hx hb dX7_shelfFor_91 rfl (lv_at hl 1 rfl) ?_
        exact (sy_ireti hx hb hr hlocks hE hP hS dX7_shelfFor_92 ⟨Nat.le_of_ble_eq_true rfl, Nat.le_of_ble_eq_true rfl⟩ (by unfold fX7_shelfFor; rw [if_pos c_2, if_pos c_4, if_neg c_6, if_neg c_11, if_neg c_12] <;> rfl))
  have K_3 : ((fX7_rest g q ((4 * x1) + 3) x0) < (g 5 x0.toNatClampNeg)) → (¬ ((fX7_rest g q ((4 * x1) + 2) x0) < (g 5 x0.toNatClampNeg))) → ((fX7_rest g q ((4 * x1) + 1) x0) < (g 5 x0.toNatClampNeg)) → ∀ (H : Heap) (locs : List Loc) (ls : Array Slot), Sy Z nT nK cT cK ad g q H → va_S (sy_A Z) s.heap H locs → lv_has ls 5 [(3, .int 2), (4, .int 1), (0, .ref (ad 0)), (1, .int x0), (2, .int x1)] → W p l e ({ frames := 1, cells := 0, slots := 0, locals := 24 } : Room) s m ([.ref (ad 0), .int x0, .int x1] : List Value).toArray below meth c H locs 0 0 (MQ below (sQi Z nT nK cT cK ad (fun r g1 q1 => (r, g1, q1) = (fX7_shelfFor g q x0 x1, g, q))) ([.ref (ad 0), .int x0, .int x1] : List Value).toArray s 0 0 (sy_A Z)) (F0 m 37 ls []) := by
    intro c_2 c_4 c_14 H locs ls hP hS hl
    refine lv_iinc (v := 0) (lv' := [(4, .int 0), (3, .int 2), (0, .ref (ad 0)), (1, .int x0), (2, .int x1)]) hx hb dX7_shelfFor_37 hl (k := 1) rfl rfl (by decide) rfl (fun ls hl => ?_)
    refine lv_goto (tgt := 5) hx hb dX7_shelfFor_40 (by decide) ?_
    refine lv_iload hx hb dX7_shelfFor_5 (lv_at hl 0 rfl) ?_
    refine lv_if_le (tgt := 43) hx hb dX7_shelfFor_7 (by decide) (fun _ => ?_) (fun c9 => absurd c9 (by decide))
    refine lv_aload_n hx hb dX7_shelfFor_43 rfl (lv_at hl 2 rfl) ?_
    refine lv_iconst (v := 4) hx hb dX7_shelfFor_44 (by decide) ?_
    refine lv_iload_n hx hb dX7_shelfFor_45 rfl (lv_at hl 4 rfl) ?_
    refine lv_imul hx hb dX7_shelfFor_46 ?_
    refine lv_iload_n hx hb dX7_shelfFor_47 rfl (lv_at hl 3 rfl) ?_
    refine sy_ki (sy_rV (o := 0) (As := [.int (4 * x1), .int x0]) (rest := []) ⟨hx, hb, hml, hown, hts⟩ hE hP hS (mX7_rest l hfl Z nT nK cT cK ad g q (4 * x1) x0 hI) (cwV 2 hts (gu_V uk_5_164 uk_5_166 uk_0_23 uk_1_9 uk_5_167) rfl rfl rfl (by decide +kernel) ⟨Nat.le_of_ble_eq_true rfl, Nat.le_of_ble_eq_true rfl⟩) (sy_recv (kc := 8) hE hP rfl (by decide) rfl rfl rfl) rfl hl.1 rfl (Nat.le_of_ble_eq_true rfl) dX7_shelfFor_48 ⟨Nat.le_of_ble_eq_true rfl, Nat.le_of_ble_eq_true rfl⟩) hS (fun r_e_15 g_e_15 q_e_15 H locs e_15 hP hS => ?_)
    cases e_15
    refine lv_aload_n hx hb dX7_shelfFor_51 rfl (lv_at hl 2 rfl) ?_
    refine sy_getRX7 hx hb hts hown hE hP 0 rfl 4 (by decide) (hts _ (u_in uk_4_194)) (v := .ref (ad 5)) rfl dX7_shelfFor_52 ?_
    refine lv_iload_n hx hb dX7_shelfFor_55 rfl (lv_at hl 3 rfl) ?_
    refine sy_ialdN hx hb hE hP 5 rfl (show vp_in x0 40 from hx0) x0.toNatClampNeg rfl (v := g 5 x0.toNatClampNeg) rfl dX7_shelfFor_56 ?_
    refine lv_icmp_lt (tgt := 64) hx hb dX7_shelfFor_57 (by decide) (fun c_16 => ?_) (fun c_16 => ?_)
    · skip
      refine lv_iconst (v := 0) hx hb dX7_shelfFor_64 (by decide) ?_
      refine lv_istore (lv' := [(4, .int 0), (3, .int 2), (0, .ref (ad 0)), (1, .int x0), (2, .int x1)]) hx hb dX7_shelfFor_65 hl (by decide) rfl (fun ls hl => ?_)
      refine lv_iload hx hb dX7_shelfFor_67 (lv_at hl 0 rfl) ?_
      refine lv_if_eq (tgt := 91) hx hb dX7_shelfFor_69 (by decide) (fun _ => ?_) (fun c9 => absurd c9 (by decide))
      refine lv_iload_n hx hb dX7_shelfFor_91 rfl (lv_at hl 1 rfl) ?_
      exact (sy_ireti hx hb hr hlocks hE hP hS dX7_shelfFor_92 ⟨Nat.le_of_ble_eq_true rfl, Nat.le_of_ble_eq_true rfl⟩ (by unfold fX7_shelfFor; rw [if_pos c_2, if_neg c_4, if_pos c_14, if_pos c_16] <;> rfl))
    · skip
      refine lv_iconst (v := 1) hx hb dX7_shelfFor_60 (by decide) ?_
      refine lv_goto (tgt := 65) hx hb dX7_shelfFor_61 (by decide) ?_
      refine lv_istore (lv' := [(4, .int 1), (3, .int 2), (0, .ref (ad 0)), (1, .int x0), (2, .int x1)]) hx hb dX7_shelfFor_65 hl (by decide) rfl (fun ls hl => ?_)
      refine lv_iload hx hb dX7_shelfFor_67 (lv_at hl 0 rfl) ?_
      refine lv_if_eq (tgt := 91) hx hb dX7_shelfFor_69 (by decide) (fun c9 => absurd c9 (by decide)) (fun _ => ?_)
      refine lv_aload_n hx hb dX7_shelfFor_72 rfl (lv_at hl 2 rfl) ?_
      refine sy_getRX7 hx hb hts hown hE hP 0 rfl 3 (by decide) (hts _ (u_in uk_4_193)) (v := .ref (ad 4)) rfl dX7_shelfFor_73 ?_
      refine lv_iload_n hx hb dX7_shelfFor_76 rfl (lv_at hl 3 rfl) ?_
      refine sy_ialdN hx hb hE hP 4 rfl (show vp_in x0 40 from hx0) x0.toNatClampNeg rfl (v := g 4 x0.toNatClampNeg) rfl dX7_shelfFor_77 ?_
      refine lv_iconst (v := 1) hx hb dX7_shelfFor_78 (by decide) ?_
      refine lv_icmp_eq (tgt := 87) hx hb dX7_shelfFor_79 (by decide) (fun c_17 => ?_) (fun c_17 => ?_)
      · skip
        refine lv_iconst (v := 0) hx hb dX7_shelfFor_87 (by decide) ?_
        refine lv_goto (tgt := 92) hx hb dX7_shelfFor_88 (by decide) ?_
        exact (sy_ireti hx hb hr hlocks hE hP hS dX7_shelfFor_92 ⟨Nat.le_of_ble_eq_true rfl, Nat.le_of_ble_eq_true rfl⟩ (by unfold fX7_shelfFor; rw [if_pos c_2, if_neg c_4, if_pos c_14, if_neg c_16, if_pos c_17] <;> rfl))
      · skip
        refine lv_iload_n hx hb dX7_shelfFor_82 rfl (lv_at hl 1 rfl) ?_
        refine lv_iconst (v := (-1)) hx hb dX7_shelfFor_83 (by decide) ?_
        refine lv_icmp_ne (tgt := 91) hx hb dX7_shelfFor_84 (by decide) (fun _ => ?_) (fun c9 => absurd c9 (by decide))
        refine lv_iload_n hx hb dX7_shelfFor_91 rfl (lv_at hl 1 rfl) ?_
        exact (sy_ireti hx hb hr hlocks hE hP hS dX7_shelfFor_92 ⟨Nat.le_of_ble_eq_true rfl, Nat.le_of_ble_eq_true rfl⟩ (by unfold fX7_shelfFor; rw [if_pos c_2, if_neg c_4, if_pos c_14, if_neg c_16, if_neg c_17] <;> rfl))
  have K_4 : ((fX7_rest g q ((4 * x1) + 3) x0) < (g 5 x0.toNatClampNeg)) → (¬ ((fX7_rest g q ((4 * x1) + 2) x0) < (g 5 x0.toNatClampNeg))) → (¬ ((fX7_rest g q ((4 * x1) + 1) x0) < (g 5 x0.toNatClampNeg))) → ∀ (H : Heap) (locs : List Loc) (ls : Array Slot), Sy Z nT nK cT cK ad g q H → va_S (sy_A Z) s.heap H locs → lv_has ls 5 [(4, .int 1), (3, .int 2), (0, .ref (ad 0)), (1, .int x0), (2, .int x1)] → W p l e ({ frames := 1, cells := 0, slots := 0, locals := 24 } : Room) s m ([.ref (ad 0), .int x0, .int x1] : List Value).toArray below meth c H locs 0 0 (MQ below (sQi Z nT nK cT cK ad (fun r g1 q1 => (r, g1, q1) = (fX7_shelfFor g q x0 x1, g, q))) ([.ref (ad 0), .int x0, .int x1] : List Value).toArray s 0 0 (sy_A Z)) (F0 m 36 ls [.int 1]) := by
    intro c_2 c_4 c_14 H locs ls hP hS hl
    refine lv_istore_n (lv' := [(3, .int 1), (4, .int 1), (0, .ref (ad 0)), (1, .int x0), (2, .int x1)]) hx hb dX7_shelfFor_36 rfl hl (by decide) rfl (fun ls hl => ?_)
    refine lv_iinc (v := 0) (lv' := [(4, .int 0), (3, .int 1), (0, .ref (ad 0)), (1, .int x0), (2, .int x1)]) hx hb dX7_shelfFor_37 hl (k := 1) rfl rfl (by decide) rfl (fun ls hl => ?_)
    refine lv_goto (tgt := 5) hx hb dX7_shelfFor_40 (by decide) ?_
    refine lv_iload hx hb dX7_shelfFor_5 (lv_at hl 0 rfl) ?_
    refine lv_if_le (tgt := 43) hx hb dX7_shelfFor_7 (by decide) (fun _ => ?_) (fun c9 => absurd c9 (by decide))
    refine lv_aload_n hx hb dX7_shelfFor_43 rfl (lv_at hl 2 rfl) ?_
    refine lv_iconst (v := 4) hx hb dX7_shelfFor_44 (by decide) ?_
    refine lv_iload_n hx hb dX7_shelfFor_45 rfl (lv_at hl 4 rfl) ?_
    refine lv_imul hx hb dX7_shelfFor_46 ?_
    refine lv_iload_n hx hb dX7_shelfFor_47 rfl (lv_at hl 3 rfl) ?_
    refine sy_ki (sy_rV (o := 0) (As := [.int (4 * x1), .int x0]) (rest := []) ⟨hx, hb, hml, hown, hts⟩ hE hP hS (mX7_rest l hfl Z nT nK cT cK ad g q (4 * x1) x0 hI) (cwV 2 hts (gu_V uk_5_164 uk_5_166 uk_0_23 uk_1_9 uk_5_167) rfl rfl rfl (by decide +kernel) ⟨Nat.le_of_ble_eq_true rfl, Nat.le_of_ble_eq_true rfl⟩) (sy_recv (kc := 8) hE hP rfl (by decide) rfl rfl rfl) rfl hl.1 rfl (Nat.le_of_ble_eq_true rfl) dX7_shelfFor_48 ⟨Nat.le_of_ble_eq_true rfl, Nat.le_of_ble_eq_true rfl⟩) hS (fun r_e_18 g_e_18 q_e_18 H locs e_18 hP hS => ?_)
    cases e_18
    refine lv_aload_n hx hb dX7_shelfFor_51 rfl (lv_at hl 2 rfl) ?_
    refine sy_getRX7 hx hb hts hown hE hP 0 rfl 4 (by decide) (hts _ (u_in uk_4_194)) (v := .ref (ad 5)) rfl dX7_shelfFor_52 ?_
    refine lv_iload_n hx hb dX7_shelfFor_55 rfl (lv_at hl 3 rfl) ?_
    refine sy_ialdN hx hb hE hP 5 rfl (show vp_in x0 40 from hx0) x0.toNatClampNeg rfl (v := g 5 x0.toNatClampNeg) rfl dX7_shelfFor_56 ?_
    refine lv_icmp_lt (tgt := 64) hx hb dX7_shelfFor_57 (by decide) (fun c_19 => ?_) (fun c_19 => ?_)
    · skip
      refine lv_iconst (v := 0) hx hb dX7_shelfFor_64 (by decide) ?_
      refine lv_istore (lv' := [(4, .int 0), (3, .int 1), (0, .ref (ad 0)), (1, .int x0), (2, .int x1)]) hx hb dX7_shelfFor_65 hl (by decide) rfl (fun ls hl => ?_)
      refine lv_iload hx hb dX7_shelfFor_67 (lv_at hl 0 rfl) ?_
      refine lv_if_eq (tgt := 91) hx hb dX7_shelfFor_69 (by decide) (fun _ => ?_) (fun c9 => absurd c9 (by decide))
      refine lv_iload_n hx hb dX7_shelfFor_91 rfl (lv_at hl 1 rfl) ?_
      exact (sy_ireti hx hb hr hlocks hE hP hS dX7_shelfFor_92 ⟨Nat.le_of_ble_eq_true rfl, Nat.le_of_ble_eq_true rfl⟩ (by unfold fX7_shelfFor; rw [if_pos c_2, if_neg c_4, if_neg c_14, if_pos c_19] <;> rfl))
    · skip
      refine lv_iconst (v := 1) hx hb dX7_shelfFor_60 (by decide) ?_
      refine lv_goto (tgt := 65) hx hb dX7_shelfFor_61 (by decide) ?_
      refine lv_istore (lv' := [(4, .int 1), (3, .int 1), (0, .ref (ad 0)), (1, .int x0), (2, .int x1)]) hx hb dX7_shelfFor_65 hl (by decide) rfl (fun ls hl => ?_)
      refine lv_iload hx hb dX7_shelfFor_67 (lv_at hl 0 rfl) ?_
      refine lv_if_eq (tgt := 91) hx hb dX7_shelfFor_69 (by decide) (fun c9 => absurd c9 (by decide)) (fun _ => ?_)
      refine lv_aload_n hx hb dX7_shelfFor_72 rfl (lv_at hl 2 rfl) ?_
      refine sy_getRX7 hx hb hts hown hE hP 0 rfl 3 (by decide) (hts _ (u_in uk_4_193)) (v := .ref (ad 4)) rfl dX7_shelfFor_73 ?_
      refine lv_iload_n hx hb dX7_shelfFor_76 rfl (lv_at hl 3 rfl) ?_
      refine sy_ialdN hx hb hE hP 4 rfl (show vp_in x0 40 from hx0) x0.toNatClampNeg rfl (v := g 4 x0.toNatClampNeg) rfl dX7_shelfFor_77 ?_
      refine lv_iconst (v := 1) hx hb dX7_shelfFor_78 (by decide) ?_
      refine lv_icmp_eq (tgt := 87) hx hb dX7_shelfFor_79 (by decide) (fun c_20 => ?_) (fun c_20 => ?_)
      · skip
        refine lv_iconst (v := 0) hx hb dX7_shelfFor_87 (by decide) ?_
        refine lv_goto (tgt := 92) hx hb dX7_shelfFor_88 (by decide) ?_
        exact (sy_ireti hx hb hr hlocks hE hP hS dX7_shelfFor_92 ⟨Nat.le_of_ble_eq_true rfl, Nat.le_of_ble_eq_true rfl⟩ (by unfold fX7_shelfFor; rw [if_pos c_2, if_neg c_4, if_neg c_14, if_neg c_19, if_pos c_20] <;> rfl))
      · skip
        refine lv_iload_n hx hb dX7_shelfFor_82 rfl (lv_at hl 1 rfl) ?_
        refine lv_iconst (v := (-1)) hx hb dX7_shelfFor_83 (by decide) ?_
        refine lv_icmp_ne (tgt := 91) hx hb dX7_shelfFor_84 (by decide) (fun _ => ?_) (fun c9 => absurd c9 (by decide))
        refine lv_iload_n hx hb dX7_shelfFor_91 rfl (lv_at hl 1 rfl) ?_
        exact (sy_ireti hx hb hr hlocks hE hP hS dX7_shelfFor_92 ⟨Nat.le_of_ble_eq_true rfl, Nat.le_of_ble_eq_true rfl⟩ (by unfold fX7_shelfFor; rw [if_pos c_2, if_neg c_4, if_neg c_14, if_neg c_19, if_neg c_20] <;> rfl))
  have K_5 : (¬ ((fX7_rest g q ((4 * x1) + 3) x0) < (g 5 x0.toNatClampNeg))) → ((fX7_rest g q ((4 * x1) + 2) x0) < (g 5 x0.toNatClampNeg)) → ((fX7_rest g q ((4 * x1) + 1) x0) < (g 5 x0.toNatClampNeg)) → ∀ (H : Heap) (locs : List Loc) (ls : Array Slot), Sy Z nT nK cT cK ad g q H → va_S (sy_A Z) s.heap H locs → lv_has ls 5 [(3, .int 3), (4, .int 1), (0, .ref (ad 0)), (1, .int x0), (2, .int x1)] → W p l e ({ frames := 1, cells := 0, slots := 0, locals := 24 } : Room) s m ([.ref (ad 0), .int x0, .int x1] : List Value).toArray below meth c H locs 0 0 (MQ below (sQi Z nT nK cT cK ad (fun r g1 q1 => (r, g1, q1) = (fX7_shelfFor g q x0 x1, g, q))) ([.ref (ad 0), .int x0, .int x1] : List Value).toArray s 0 0 (sy_A Z)) (F0 m 37 ls []) := by
    intro c_2 c_22 c_24 H locs ls hP hS hl
    refine lv_iinc (v := 0) (lv' := [(4, .int 0), (3, .int 3), (0, .ref (ad 0)), (1, .int x0), (2, .int x1)]) hx hb dX7_shelfFor_37 hl (k := 1) rfl rfl (by decide) rfl (fun ls hl => ?_)
    refine lv_goto (tgt := 5) hx hb dX7_shelfFor_40 (by decide) ?_
    refine lv_iload hx hb dX7_shelfFor_5 (lv_at hl 0 rfl) ?_
    refine lv_if_le (tgt := 43) hx hb dX7_shelfFor_7 (by decide) (fun _ => ?_) (fun c9 => absurd c9 (by decide))
    refine lv_aload_n hx hb dX7_shelfFor_43 rfl (lv_at hl 2 rfl) ?_
    refine lv_iconst (v := 4) hx hb dX7_shelfFor_44 (by decide) ?_
    refine lv_iload_n hx hb dX7_shelfFor_45 rfl (lv_at hl 4 rfl) ?_
    refine lv_imul hx hb dX7_shelfFor_46 ?_
    refine lv_iload_n hx hb dX7_shelfFor_47 rfl (lv_at hl 3 rfl) ?_
    refine sy_ki (sy_rV (o := 0) (As := [.int (4 * x1), .int x0]) (rest := []) ⟨hx, hb, hml, hown, hts⟩ hE hP hS (mX7_rest l hfl Z nT nK cT cK ad g q (4 * x1) x0 hI) (cwV 2 hts (gu_V uk_5_164 uk_5_166 uk_0_23 uk_1_9 uk_5_167) rfl rfl rfl (by decide +kernel) ⟨Nat.le_of_ble_eq_true rfl, Nat.le_of_ble_eq_true rfl⟩) (sy_recv (kc := 8) hE hP rfl (by decide) rfl rfl rfl) rfl hl.1 rfl (Nat.le_of_ble_eq_true rfl) dX7_shelfFor_48 ⟨Nat.le_of_ble_eq_true rfl, Nat.le_of_ble_eq_true rfl⟩) hS (fun r_e_25 g_e_25 q_e_25 H locs e_25 hP hS => ?_)
    cases e_25
    refine lv_aload_n hx hb dX7_shelfFor_51 rfl (lv_at hl 2 rfl) ?_
    refine sy_getRX7 hx hb hts hown hE hP 0 rfl 4 (by decide) (hts _ (u_in uk_4_194)) (v := .ref (ad 5)) rfl dX7_shelfFor_52 ?_
    refine lv_iload_n hx hb dX7_shelfFor_55 rfl (lv_at hl 3 rfl) ?_
    refine sy_ialdN hx hb hE hP 5 rfl (show vp_in x0 40 from hx0) x0.toNatClampNeg rfl (v := g 5 x0.toNatClampNeg) rfl dX7_shelfFor_56 ?_
    refine lv_icmp_lt (tgt := 64) hx hb dX7_shelfFor_57 (by decide) (fun c_26 => ?_) (fun c_26 => ?_)
    · skip
      refine lv_iconst (v := 0) hx hb dX7_shelfFor_64 (by decide) ?_
      refine lv_istore (lv' := [(4, .int 0), (3, .int 3), (0, .ref (ad 0)), (1, .int x0), (2, .int x1)]) hx hb dX7_shelfFor_65 hl (by decide) rfl (fun ls hl => ?_)
      refine lv_iload hx hb dX7_shelfFor_67 (lv_at hl 0 rfl) ?_
      refine lv_if_eq (tgt := 91) hx hb dX7_shelfFor_69 (by decide) (fun _ => ?_) (fun c9 => absurd c9 (by decide))
      refine lv_iload_n hx hb dX7_shelfFor_91 rfl (lv_at hl 1 rfl) ?_
      exact (sy_ireti hx hb hr hlocks hE hP hS dX7_shelfFor_92 ⟨Nat.le_of_ble_eq_true rfl, Nat.le_of_ble_eq_true rfl⟩ (by unfold fX7_shelfFor; rw [if_neg c_2, if_pos c_22, if_pos c_24, if_pos c_26] <;> rfl))
    · skip
      refine lv_iconst (v := 1) hx hb dX7_shelfFor_60 (by decide) ?_
      refine lv_goto (tgt := 65) hx hb dX7_shelfFor_61 (by decide) ?_
      refine lv_istore (lv' := [(4, .int 1), (3, .int 3), (0, .ref (ad 0)), (1, .int x0), (2, .int x1)]) hx hb dX7_shelfFor_65 hl (by decide) rfl (fun ls hl => ?_)
      refine lv_iload hx hb dX7_shelfFor_67 (lv_at hl 0 rfl) ?_
      refine lv_if_eq (tgt := 91) hx hb dX7_shelfFor_69 (by decide) (fun c9 => absurd c9 (by decide)) (fun _ => ?_)
      refine lv_aload_n hx hb dX7_shelfFor_72 rfl (lv_at hl 2 rfl) ?_
      refine sy_getRX7 hx hb hts hown hE hP 0 rfl 3 (by decide) (hts _ (u_in uk_4_193)) (v := .ref (ad 4)) rfl dX7_shelfFor_73 ?_
      refine lv_iload_n hx hb dX7_shelfFor_76 rfl (lv_at hl 3 rfl) ?_
      refine sy_ialdN hx hb hE hP 4 rfl (show vp_in x0 40 from hx0) x0.toNatClampNeg rfl (v := g 4 x0.toNatClampNeg) rfl dX7_shelfFor_77 ?_
      refine lv_iconst (v := 1) hx hb dX7_shelfFor_78 (by decide) ?_
      refine lv_icmp_eq (tgt := 87) hx hb dX7_shelfFor_79 (by decide) (fun c_27 => ?_) (fun c_27 => ?_)
      · skip
        refine lv_iconst (v := 0) hx hb dX7_shelfFor_87 (by decide) ?_
        refine lv_goto (tgt := 92) hx hb dX7_shelfFor_88 (by decide) ?_
        exact (sy_ireti hx hb hr hlocks hE hP hS dX7_shelfFor_92 ⟨Nat.le_of_ble_eq_true rfl, Nat.le_of_ble_eq_true rfl⟩ (by unfold fX7_shelfFor; rw [if_neg c_2, if_pos c_22, if_pos c_24, if_neg c_26, if_pos c_27] <;> rfl))
      · skip
        refine lv_iload_n hx hb dX7_shelfFor_82 rfl (lv_at hl 1 rfl) ?_
        refine lv_iconst (v := (-1)) hx hb dX7_shelfFor_83 (by decide) ?_
        refine lv_icmp_ne (tgt := 91) hx hb dX7_shelfFor_84 (by decide) (fun _ => ?_) (fun c9 => absurd c9 (by decide))
        refine lv_iload_n hx hb dX7_shelfFor_91 rfl (lv_at hl 1 rfl) ?_
        exact (sy_ireti hx hb hr hlocks hE hP hS dX7_shelfFor_92 ⟨Nat.le_of_ble_eq_true rfl, Nat.le_of_ble_eq_true rfl⟩ (by unfold fX7_shelfFor; rw [if_neg c_2, if_pos c_22, if_pos c_24, if_neg c_26, if_neg c_27] <;> rfl))
  have K_6 : (¬ ((fX7_rest g q ((4 * x1) + 3) x0) < (g 5 x0.toNatClampNeg))) → ((fX7_rest g q ((4 * x1) + 2) x0) < (g 5 x0.toNatClampNeg)) → (¬ ((fX7_rest g q ((4 * x1) + 1) x0) < (g 5 x0.toNatClampNeg))) → ∀ (H : Heap) (locs : List Loc) (ls : Array Slot), Sy Z nT nK cT cK ad g q H → va_S (sy_A Z) s.heap H locs → lv_has ls 5 [(4, .int 1), (3, .int 3), (0, .ref (ad 0)), (1, .int x0), (2, .int x1)] → W p l e ({ frames := 1, cells := 0, slots := 0, locals := 24 } : Room) s m ([.ref (ad 0), .int x0, .int x1] : List Value).toArray below meth c H locs 0 0 (MQ below (sQi Z nT nK cT cK ad (fun r g1 q1 => (r, g1, q1) = (fX7_shelfFor g q x0 x1, g, q))) ([.ref (ad 0), .int x0, .int x1] : List Value).toArray s 0 0 (sy_A Z)) (F0 m 36 ls [.int 1]) := by
    intro c_2 c_22 c_24 H locs ls hP hS hl
    refine lv_istore_n (lv' := [(3, .int 1), (4, .int 1), (0, .ref (ad 0)), (1, .int x0), (2, .int x1)]) hx hb dX7_shelfFor_36 rfl hl (by decide) rfl (fun ls hl => ?_)
    refine lv_iinc (v := 0) (lv' := [(4, .int 0), (3, .int 1), (0, .ref (ad 0)), (1, .int x0), (2, .int x1)]) hx hb dX7_shelfFor_37 hl (k := 1) rfl rfl (by decide) rfl (fun ls hl => ?_)
    refine lv_goto (tgt := 5) hx hb dX7_shelfFor_40 (by decide) ?_
    refine lv_iload hx hb dX7_shelfFor_5 (lv_at hl 0 rfl) ?_
    refine lv_if_le (tgt := 43) hx hb dX7_shelfFor_7 (by decide) (fun _ => ?_) (fun c9 => absurd c9 (by decide))
    refine lv_aload_n hx hb dX7_shelfFor_43 rfl (lv_at hl 2 rfl) ?_
    refine lv_iconst (v := 4) hx hb dX7_shelfFor_44 (by decide) ?_
    refine lv_iload_n hx hb dX7_shelfFor_45 rfl (lv_at hl 4 rfl) ?_
    refine lv_imul hx hb dX7_shelfFor_46 ?_
    refine lv_iload_n hx hb dX7_shelfFor_47 rfl (lv_at hl 3 rfl) ?_
    refine sy_ki (sy_rV (o := 0) (As := [.int (4 * x1), .int x0]) (rest := []) ⟨hx, hb, hml, hown, hts⟩ hE hP hS (mX7_rest l hfl Z nT nK cT cK ad g q (4 * x1) x0 hI) (cwV 2 hts (gu_V uk_5_164 uk_5_166 uk_0_23 uk_1_9 uk_5_167) rfl rfl rfl (by decide +kernel) ⟨Nat.le_of_ble_eq_true rfl, Nat.le_of_ble_eq_true rfl⟩) (sy_recv (kc := 8) hE hP rfl (by decide) rfl rfl rfl) rfl hl.1 rfl (Nat.le_of_ble_eq_true rfl) dX7_shelfFor_48 ⟨Nat.le_of_ble_eq_true rfl, Nat.le_of_ble_eq_true rfl⟩) hS (fun r_e_28 g_e_28 q_e_28 H locs e_28 hP hS => ?_)
    cases e_28
    refine lv_aload_n hx hb dX7_shelfFor_51 rfl (lv_at hl 2 rfl) ?_
    refine sy_getRX7 hx hb hts hown hE hP 0 rfl 4 (by decide) (hts _ (u_in uk_4_194)) (v := .ref (ad 5)) rfl dX7_shelfFor_52 ?_
    refine lv_iload_n hx hb dX7_shelfFor_55 rfl (lv_at hl 3 rfl) ?_
    refine sy_ialdN hx hb hE hP 5 rfl (show vp_in x0 40 from hx0) x0.toNatClampNeg rfl (v := g 5 x0.toNatClampNeg) rfl dX7_shelfFor_56 ?_
    refine lv_icmp_lt (tgt := 64) hx hb dX7_shelfFor_57 (by decide) (fun c_29 => ?_) (fun c_29 => ?_)
    · skip
      refine lv_iconst (v := 0) hx hb dX7_shelfFor_64 (by decide) ?_
      refine lv_istore (lv' := [(4, .int 0), (3, .int 1), (0, .ref (ad 0)), (1, .int x0), (2, .int x1)]) hx hb dX7_shelfFor_65 hl (by decide) rfl (fun ls hl => ?_)
      refine lv_iload hx hb dX7_shelfFor_67 (lv_at hl 0 rfl) ?_
      refine lv_if_eq (tgt := 91) hx hb dX7_shelfFor_69 (by decide) (fun _ => ?_) (fun c9 => absurd c9 (by decide))
      refine lv_iload_n hx hb dX7_shelfFor_91 rfl (lv_at hl 1 rfl) ?_
      exact (sy_ireti hx hb hr hlocks hE hP hS dX7_shelfFor_92 ⟨Nat.le_of_ble_eq_true rfl, Nat.le_of_ble_eq_true rfl⟩ (by unfold fX7_shelfFor; rw [if_neg c_2, if_pos c_22, if_neg c_24, if_pos c_29] <;> rfl))
    · skip
      refine lv_iconst (v := 1) hx hb dX7_shelfFor_60 (by decide) ?_
      refine lv_goto (tgt := 65) hx hb dX7_shelfFor_61 (by decide) ?_
      refine lv_istore (lv' := [(4, .int 1), (3, .int 1), (0, .ref (ad 0)), (1, .int x0), (2, .int x1)]) hx hb dX7_shelfFor_65 hl (by decide) rfl (fun ls hl => ?_)
      refine lv_iload hx hb dX7_shelfFor_67 (lv_at hl 0 rfl) ?_
      refine lv_if_eq (tgt := 91) hx hb dX7_shelfFor_69 (by decide) (fun c9 => absurd c9 (by decide)) (fun _ => ?_)
      refine lv_aload_n hx hb dX7_shelfFor_72 rfl (lv_at hl 2 rfl) ?_
      refine sy_getRX7 hx hb hts hown hE hP 0 rfl 3 (by decide) (hts _ (u_in uk_4_193)) (v := .ref (ad 4)) rfl dX7_shelfFor_73 ?_
      refine lv_iload_n hx hb dX7_shelfFor_76 rfl (lv_at hl 3 rfl) ?_
      refine sy_ialdN hx hb hE hP 4 rfl (show vp_in x0 40 from hx0) x0.toNatClampNeg rfl (v := g 4 x0.toNatClampNeg) rfl dX7_shelfFor_77 ?_
      refine lv_iconst (v := 1) hx hb dX7_shelfFor_78 (by decide) ?_
      refine lv_icmp_eq (tgt := 87) hx hb dX7_shelfFor_79 (by decide) (fun c_30 => ?_) (fun c_30 => ?_)
      · skip
        refine lv_iconst (v := 0) hx hb dX7_shelfFor_87 (by decide) ?_
        refine lv_goto (tgt := 92) hx hb dX7_shelfFor_88 (by decide) ?_
        exact (sy_ireti hx hb hr hlocks hE hP hS dX7_shelfFor_92 ⟨Nat.le_of_ble_eq_true rfl, Nat.le_of_ble_eq_true rfl⟩ (by unfold fX7_shelfFor; rw [if_neg c_2, if_pos c_22, if_neg c_24, if_neg c_29, if_pos c_30] <;> rfl))
      · skip
        refine lv_iload_n hx hb dX7_shelfFor_82 rfl (lv_at hl 1 rfl) ?_
        refine lv_iconst (v := (-1)) hx hb dX7_shelfFor_83 (by decide) ?_
        refine lv_icmp_ne (tgt := 91) hx hb dX7_shelfFor_84 (by decide) (fun _ => ?_) (fun c9 => absurd c9 (by decide))
        refine lv_iload_n hx hb dX7_shelfFor_91 rfl (lv_at hl 1 rfl) ?_
        exact (sy_ireti hx hb hr hlocks hE hP hS dX7_shelfFor_92 ⟨Nat.le_of_ble_eq_true rfl, Nat.le_of_ble_eq_true rfl⟩ (by unfold fX7_shelfFor; rw [if_neg c_2, if_pos c_22, if_neg c_24, if_neg c_29, if_neg c_30] <;> rfl))
  have K_7 : (¬ ((fX7_rest g q ((4 * x1) + 3) x0) < (g 5 x0.toNatClampNeg))) → (¬ ((fX7_rest g q ((4 * x1) + 2) x0) < (g 5 x0.toNatClampNeg))) → ((fX7_rest g q ((4 * x1) + 1) x0) < (g 5 x0.toNatClampNeg)) → ∀ (H : Heap) (locs : List Loc) (ls : Array Slot), Sy Z nT nK cT cK ad g q H → va_S (sy_A Z) s.heap H locs → lv_has ls 5 [(4, .int 1), (3, .int 2), (0, .ref (ad 0)), (1, .int x0), (2, .int x1)] → W p l e ({ frames := 1, cells := 0, slots := 0, locals := 24 } : Room) s m ([.ref (ad 0), .int x0, .int x1] : List Value).toArray below meth c H locs 0 0 (MQ below (sQi Z nT nK cT cK ad (fun r g1 q1 => (r, g1, q1) = (fX7_shelfFor g q x0 x1, g, q))) ([.ref (ad 0), .int x0, .int x1] : List Value).toArray s 0 0 (sy_A Z)) (F0 m 36 ls [.int 2]) := by
    intro c_2 c_22 c_32 H locs ls hP hS hl
    refine lv_istore_n (lv' := [(3, .int 2), (4, .int 1), (0, .ref (ad 0)), (1, .int x0), (2, .int x1)]) hx hb dX7_shelfFor_36 rfl hl (by decide) rfl (fun ls hl => ?_)
    refine lv_iinc (v := 0) (lv' := [(4, .int 0), (3, .int 2), (0, .ref (ad 0)), (1, .int x0), (2, .int x1)]) hx hb dX7_shelfFor_37 hl (k := 1) rfl rfl (by decide) rfl (fun ls hl => ?_)
    refine lv_goto (tgt := 5) hx hb dX7_shelfFor_40 (by decide) ?_
    refine lv_iload hx hb dX7_shelfFor_5 (lv_at hl 0 rfl) ?_
    refine lv_if_le (tgt := 43) hx hb dX7_shelfFor_7 (by decide) (fun _ => ?_) (fun c9 => absurd c9 (by decide))
    refine lv_aload_n hx hb dX7_shelfFor_43 rfl (lv_at hl 2 rfl) ?_
    refine lv_iconst (v := 4) hx hb dX7_shelfFor_44 (by decide) ?_
    refine lv_iload_n hx hb dX7_shelfFor_45 rfl (lv_at hl 4 rfl) ?_
    refine lv_imul hx hb dX7_shelfFor_46 ?_
    refine lv_iload_n hx hb dX7_shelfFor_47 rfl (lv_at hl 3 rfl) ?_
    refine sy_ki (sy_rV (o := 0) (As := [.int (4 * x1), .int x0]) (rest := []) ⟨hx, hb, hml, hown, hts⟩ hE hP hS (mX7_rest l hfl Z nT nK cT cK ad g q (4 * x1) x0 hI) (cwV 2 hts (gu_V uk_5_164 uk_5_166 uk_0_23 uk_1_9 uk_5_167) rfl rfl rfl (by decide +kernel) ⟨Nat.le_of_ble_eq_true rfl, Nat.le_of_ble_eq_true rfl⟩) (sy_recv (kc := 8) hE hP rfl (by decide) rfl rfl rfl) rfl hl.1 rfl (Nat.le_of_ble_eq_true rfl) dX7_shelfFor_48 ⟨Nat.le_of_ble_eq_true rfl, Nat.le_of_ble_eq_true rfl⟩) hS (fun r_e_33 g_e_33 q_e_33 H locs e_33 hP hS => ?_)
    cases e_33
    refine lv_aload_n hx hb dX7_shelfFor_51 rfl (lv_at hl 2 rfl) ?_
    refine sy_getRX7 hx hb hts hown hE hP 0 rfl 4 (by decide) (hts _ (u_in uk_4_194)) (v := .ref (ad 5)) rfl dX7_shelfFor_52 ?_
    refine lv_iload_n hx hb dX7_shelfFor_55 rfl (lv_at hl 3 rfl) ?_
    refine sy_ialdN hx hb hE hP 5 rfl (show vp_in x0 40 from hx0) x0.toNatClampNeg rfl (v := g 5 x0.toNatClampNeg) rfl dX7_shelfFor_56 ?_
    refine lv_icmp_lt (tgt := 64) hx hb dX7_shelfFor_57 (by decide) (fun c_34 => ?_) (fun c_34 => ?_)
    · skip
      refine lv_iconst (v := 0) hx hb dX7_shelfFor_64 (by decide) ?_
      refine lv_istore (lv' := [(4, .int 0), (3, .int 2), (0, .ref (ad 0)), (1, .int x0), (2, .int x1)]) hx hb dX7_shelfFor_65 hl (by decide) rfl (fun ls hl => ?_)
      refine lv_iload hx hb dX7_shelfFor_67 (lv_at hl 0 rfl) ?_
      refine lv_if_eq (tgt := 91) hx hb dX7_shelfFor_69 (by decide) (fun _ => ?_) (fun c9 => absurd c9 (by decide))
      refine lv_iload_n hx hb dX7_shelfFor_91 rfl (lv_at hl 1 rfl) ?_
      exact (sy_ireti hx hb hr hlocks hE hP hS dX7_shelfFor_92 ⟨Nat.le_of_ble_eq_true rfl, Nat.le_of_ble_eq_true rfl⟩ (by unfold fX7_shelfFor; rw [if_neg c_2, if_neg c_22, if_pos c_32, if_pos c_34] <;> rfl))
    · skip
      refine lv_iconst (v := 1) hx hb dX7_shelfFor_60 (by decide) ?_
      refine lv_goto (tgt := 65) hx hb dX7_shelfFor_61 (by decide) ?_
      refine lv_istore (lv' := [(4, .int 1), (3, .int 2), (0, .ref (ad 0)), (1, .int x0), (2, .int x1)]) hx hb dX7_shelfFor_65 hl (by decide) rfl (fun ls hl => ?_)
      refine lv_iload hx hb dX7_shelfFor_67 (lv_at hl 0 rfl) ?_
      refine lv_if_eq (tgt := 91) hx hb dX7_shelfFor_69 (by decide) (fun c9 => absurd c9 (by decide)) (fun _ => ?_)
      refine lv_aload_n hx hb dX7_shelfFor_72 rfl (lv_at hl 2 rfl) ?_
      refine sy_getRX7 hx hb hts hown hE hP 0 rfl 3 (by decide) (hts _ (u_in uk_4_193)) (v := .ref (ad 4)) rfl dX7_shelfFor_73 ?_
      refine lv_iload_n hx hb dX7_shelfFor_76 rfl (lv_at hl 3 rfl) ?_
      refine sy_ialdN hx hb hE hP 4 rfl (show vp_in x0 40 from hx0) x0.toNatClampNeg rfl (v := g 4 x0.toNatClampNeg) rfl dX7_shelfFor_77 ?_
      refine lv_iconst (v := 1) hx hb dX7_shelfFor_78 (by decide) ?_
      refine lv_icmp_eq (tgt := 87) hx hb dX7_shelfFor_79 (by decide) (fun c_35 => ?_) (fun c_35 => ?_)
      · skip
        refine lv_iconst (v := 0) hx hb dX7_shelfFor_87 (by decide) ?_
        refine lv_goto (tgt := 92) hx hb dX7_shelfFor_88 (by decide) ?_
        exact (sy_ireti hx hb hr hlocks hE hP hS dX7_shelfFor_92 ⟨Nat.le_of_ble_eq_true rfl, Nat.le_of_ble_eq_true rfl⟩ (by unfold fX7_shelfFor; rw [if_neg c_2, if_neg c_22, if_pos c_32, if_neg c_34, if_pos c_35] <;> rfl))
      · skip
        refine lv_iload_n hx hb dX7_shelfFor_82 rfl (lv_at hl 1 rfl) ?_
        refine lv_iconst (v := (-1)) hx hb dX7_shelfFor_83 (by decide) ?_
        refine lv_icmp_ne (tgt := 91) hx hb dX7_shelfFor_84 (by decide) (fun _ => ?_) (fun c9 => absurd c9 (by decide))
        refine lv_iload_n hx hb dX7_shelfFor_91 rfl (lv_at hl 1 rfl) ?_
        exact (sy_ireti hx hb hr hlocks hE hP hS dX7_shelfFor_92 ⟨Nat.le_of_ble_eq_true rfl, Nat.le_of_ble_eq_true rfl⟩ (by unfold fX7_shelfFor; rw [if_neg c_2, if_neg c_22, if_pos c_32, if_neg c_34, if_neg c_35] <;> rfl))
  have K_8 : (¬ ((fX7_rest g q ((4 * x1) + 3) x0) < (g 5 x0.toNatClampNeg))) → (¬ ((fX7_rest g q ((4 * x1) + 2) x0) < (g 5 x0.toNatClampNeg))) → (¬ ((fX7_rest g q ((4 * x1) + 1) x0) < (g 5 x0.toNatClampNeg))) → ∀ (H : Heap) (locs : List Loc) (ls : Array Slot), Sy Z nT nK cT cK ad g q H → va_S (sy_A Z) s.heap H locs → lv_has ls 5 [(4, .int 1), (3, .int 2), (0, .ref (ad 0)), (1, .int x0), (2, .int x1)] → W p l e ({ frames := 1, cells := 0, slots := 0, locals := 24 } : Room) s m ([.ref (ad 0), .int x0, .int x1] : List Value).toArray below meth c H locs 0 0 (MQ below (sQi Z nT nK cT cK ad (fun r g1 q1 => (r, g1, q1) = (fX7_shelfFor g q x0 x1, g, q))) ([.ref (ad 0), .int x0, .int x1] : List Value).toArray s 0 0 (sy_A Z)) (F0 m 32 ls [.int 1]) := by
    intro c_2 c_22 c_32 H locs ls hP hS hl
    refine lv_goto (tgt := 36) hx hb dX7_shelfFor_32 (by decide) ?_
    refine lv_istore_n (lv' := [(3, .int 1), (4, .int 1), (0, .ref (ad 0)), (1, .int x0), (2, .int x1)]) hx hb dX7_shelfFor_36 rfl hl (by decide) rfl (fun ls hl => ?_)
    refine lv_iinc (v := 0) (lv' := [(4, .int 0), (3, .int 1), (0, .ref (ad 0)), (1, .int x0), (2, .int x1)]) hx hb dX7_shelfFor_37 hl (k := 1) rfl rfl (by decide) rfl (fun ls hl => ?_)
    refine lv_goto (tgt := 5) hx hb dX7_shelfFor_40 (by decide) ?_
    refine lv_iload hx hb dX7_shelfFor_5 (lv_at hl 0 rfl) ?_
    refine lv_if_le (tgt := 43) hx hb dX7_shelfFor_7 (by decide) (fun _ => ?_) (fun c9 => absurd c9 (by decide))
    refine lv_aload_n hx hb dX7_shelfFor_43 rfl (lv_at hl 2 rfl) ?_
    refine lv_iconst (v := 4) hx hb dX7_shelfFor_44 (by decide) ?_
    refine lv_iload_n hx hb dX7_shelfFor_45 rfl (lv_at hl 4 rfl) ?_
    refine lv_imul hx hb dX7_shelfFor_46 ?_
    refine lv_iload_n hx hb dX7_shelfFor_47 rfl (lv_at hl 3 rfl) ?_
    refine sy_ki (sy_rV (o := 0) (As := [.int (4 * x1), .int x0]) (rest := []) ⟨hx, hb, hml, hown, hts⟩ hE hP hS (mX7_rest l hfl Z nT nK cT cK ad g q (4 * x1) x0 hI) (cwV 2 hts (gu_V uk_5_164 uk_5_166 uk_0_23 uk_1_9 uk_5_167) rfl rfl rfl (by decide +kernel) ⟨Nat.le_of_ble_eq_true rfl, Nat.le_of_ble_eq_true rfl⟩) (sy_recv (kc := 8) hE hP rfl (by decide) rfl rfl rfl) rfl hl.1 rfl (Nat.le_of_ble_eq_true rfl) dX7_shelfFor_48 ⟨Nat.le_of_ble_eq_true rfl, Nat.le_of_ble_eq_true rfl⟩) hS (fun r_e_36 g_e_36 q_e_36 H locs e_36 hP hS => ?_)
    cases e_36
    refine lv_aload_n hx hb dX7_shelfFor_51 rfl (lv_at hl 2 rfl) ?_
    refine sy_getRX7 hx hb hts hown hE hP 0 rfl 4 (by decide) (hts _ (u_in uk_4_194)) (v := .ref (ad 5)) rfl dX7_shelfFor_52 ?_
    refine lv_iload_n hx hb dX7_shelfFor_55 rfl (lv_at hl 3 rfl) ?_
    refine sy_ialdN hx hb hE hP 5 rfl (show vp_in x0 40 from hx0) x0.toNatClampNeg rfl (v := g 5 x0.toNatClampNeg) rfl dX7_shelfFor_56 ?_
    refine lv_icmp_lt (tgt := 64) hx hb dX7_shelfFor_57 (by decide) (fun c_37 => ?_) (fun c_37 => ?_)
    · skip
      refine lv_iconst (v := 0) hx hb dX7_shelfFor_64 (by decide) ?_
      refine lv_istore (lv' := [(4, .int 0), (3, .int 1), (0, .ref (ad 0)), (1, .int x0), (2, .int x1)]) hx hb dX7_shelfFor_65 hl (by decide) rfl (fun ls hl => ?_)
      refine lv_iload hx hb dX7_shelfFor_67 (lv_at hl 0 rfl) ?_
      refine lv_if_eq (tgt := 91) hx hb dX7_shelfFor_69 (by decide) (fun _ => ?_) (fun c9 => absurd c9 (by decide))
      refine lv_iload_n hx hb dX7_shelfFor_91 rfl (lv_at hl 1 rfl) ?_
      exact (sy_ireti hx hb hr hlocks hE hP hS dX7_shelfFor_92 ⟨Nat.le_of_ble_eq_true rfl, Nat.le_of_ble_eq_true rfl⟩ (by unfold fX7_shelfFor; rw [if_neg c_2, if_neg c_22, if_neg c_32, if_pos c_37] <;> rfl))
    · skip
      refine lv_iconst (v := 1) hx hb dX7_shelfFor_60 (by decide) ?_
      refine lv_goto (tgt := 65) hx hb dX7_shelfFor_61 (by decide) ?_
      refine lv_istore (lv' := [(4, .int 1), (3, .int 1), (0, .ref (ad 0)), (1, .int x0), (2, .int x1)]) hx hb dX7_shelfFor_65 hl (by decide) rfl (fun ls hl => ?_)
      refine lv_iload hx hb dX7_shelfFor_67 (lv_at hl 0 rfl) ?_
      refine lv_if_eq (tgt := 91) hx hb dX7_shelfFor_69 (by decide) (fun c9 => absurd c9 (by decide)) (fun _ => ?_)
      refine lv_aload_n hx hb dX7_shelfFor_72 rfl (lv_at hl 2 rfl) ?_
      refine sy_getRX7 hx hb hts hown hE hP 0 rfl 3 (by decide) (hts _ (u_in uk_4_193)) (v := .ref (ad 4)) rfl dX7_shelfFor_73 ?_
      refine lv_iload_n hx hb dX7_shelfFor_76 rfl (lv_at hl 3 rfl) ?_
      refine sy_ialdN hx hb hE hP 4 rfl (show vp_in x0 40 from hx0) x0.toNatClampNeg rfl (v := g 4 x0.toNatClampNeg) rfl dX7_shelfFor_77 ?_
      refine lv_iconst (v := 1) hx hb dX7_shelfFor_78 (by decide) ?_
      refine lv_icmp_eq (tgt := 87) hx hb dX7_shelfFor_79 (by decide) (fun c_38 => ?_) (fun c_38 => ?_)
      · skip
        refine lv_iconst (v := 0) hx hb dX7_shelfFor_87 (by decide) ?_
        refine lv_goto (tgt := 92) hx hb dX7_shelfFor_88 (by decide) ?_
        exact (sy_ireti hx hb hr hlocks hE hP hS dX7_shelfFor_92 ⟨Nat.le_of_ble_eq_true rfl, Nat.le_of_ble_eq_true rfl⟩ (by unfold fX7_shelfFor; rw [if_neg c_2, if_neg c_22, if_neg c_32, if_neg c_37, if_pos c_38] <;> rfl))
      · skip
        refine lv_iload_n hx hb dX7_shelfFor_82 rfl (lv_at hl 1 rfl) ?_
        refine lv_iconst (v := (-1)) hx hb dX7_shelfFor_83 (by decide) ?_
        refine lv_icmp_ne (tgt := 91) hx hb dX7_shelfFor_84 (by decide) (fun _ => ?_) (fun c9 => absurd c9 (by decide))
        refine lv_iload_n hx hb dX7_shelfFor_91 rfl (lv_at hl 1 rfl) ?_
        exact (sy_ireti hx hb hr hlocks hE hP hS dX7_shelfFor_92 ⟨Nat.le_of_ble_eq_true rfl, Nat.le_of_ble_eq_true rfl⟩ (by unfold fX7_shelfFor; rw [if_neg c_2, if_neg c_22, if_neg c_32, if_neg c_37, if_neg c_38] <;> rfl))
  refine lv_iconst (v := (-1)) hx hb dX7_shelfFor_0 (by decide) ?_
  refine lv_istore_n (lv' := [(3, .int (-1)), (0, .ref (ad 0)), (1, .int x0), (2, .int x1)]) hx hb dX7_shelfFor_1 rfl hl (by decide) rfl (fun ls hl => ?_)
  refine lv_iconst (v := 3) hx hb dX7_shelfFor_2 (by decide) ?_
  refine lv_istore (lv' := [(4, .int 3), (3, .int (-1)), (0, .ref (ad 0)), (1, .int x0), (2, .int x1)]) hx hb dX7_shelfFor_3 hl (by decide) rfl (fun ls hl => ?_)
  refine lv_iload hx hb dX7_shelfFor_5 (lv_at hl 0 rfl) ?_
  refine lv_if_le (tgt := 43) hx hb dX7_shelfFor_7 (by decide) (fun c9 => absurd c9 (by decide)) (fun _ => ?_)
  refine lv_aload_n hx hb dX7_shelfFor_10 rfl (lv_at hl 2 rfl) ?_
  refine lv_iconst (v := 4) hx hb dX7_shelfFor_11 (by decide) ?_
  refine lv_iload_n hx hb dX7_shelfFor_12 rfl (lv_at hl 4 rfl) ?_
  refine lv_imul hx hb dX7_shelfFor_13 ?_
  refine lv_iload hx hb dX7_shelfFor_14 (lv_at hl 0 rfl) ?_
  refine lv_iadd hx hb dX7_shelfFor_16 ?_
  refine lv_iload_n hx hb dX7_shelfFor_17 rfl (lv_at hl 3 rfl) ?_
  refine sy_ki (sy_rV (o := 0) (As := [.int ((4 * x1) + 3), .int x0]) (rest := []) ⟨hx, hb, hml, hown, hts⟩ hE hP hS (mX7_rest l hfl Z nT nK cT cK ad g q ((4 * x1) + 3) x0 hI) (cwV 2 hts (gu_V uk_5_164 uk_5_166 uk_0_23 uk_1_9 uk_5_167) rfl rfl rfl (by decide +kernel) ⟨Nat.le_of_ble_eq_true rfl, Nat.le_of_ble_eq_true rfl⟩) (sy_recv (kc := 8) hE hP rfl (by decide) rfl rfl rfl) rfl hl.1 rfl (Nat.le_of_ble_eq_true rfl) dX7_shelfFor_18 ⟨Nat.le_of_ble_eq_true rfl, Nat.le_of_ble_eq_true rfl⟩) hS (fun r_e_1 g_e_1 q_e_1 H locs e_1 hP hS => ?_)
  cases e_1
  refine lv_aload_n hx hb dX7_shelfFor_21 rfl (lv_at hl 2 rfl) ?_
  refine sy_getRX7 hx hb hts hown hE hP 0 rfl 4 (by decide) (hts _ (u_in uk_4_194)) (v := .ref (ad 5)) rfl dX7_shelfFor_22 ?_
  refine lv_iload_n hx hb dX7_shelfFor_25 rfl (lv_at hl 3 rfl) ?_
  refine sy_ialdN hx hb hE hP 5 rfl (show vp_in x0 40 from hx0) x0.toNatClampNeg rfl (v := g 5 x0.toNatClampNeg) rfl dX7_shelfFor_26 ?_
  refine lv_icmp_lt (tgt := 35) hx hb dX7_shelfFor_27 (by decide) (fun c_2 => ?_) (fun c_2 => ?_)
  · skip
    refine lv_iload_n hx hb dX7_shelfFor_35 rfl (lv_at hl 1 rfl) ?_
    refine lv_istore_n (lv' := [(3, .int (-1)), (4, .int 3), (0, .ref (ad 0)), (1, .int x0), (2, .int x1)]) hx hb dX7_shelfFor_36 rfl hl (by decide) rfl (fun ls hl => ?_)
    refine lv_iinc (v := 2) (lv' := [(4, .int 2), (3, .int (-1)), (0, .ref (ad 0)), (1, .int x0), (2, .int x1)]) hx hb dX7_shelfFor_37 hl (k := 1) rfl rfl (by decide) rfl (fun ls hl => ?_)
    refine lv_goto (tgt := 5) hx hb dX7_shelfFor_40 (by decide) ?_
    refine lv_iload hx hb dX7_shelfFor_5 (lv_at hl 0 rfl) ?_
    refine lv_if_le (tgt := 43) hx hb dX7_shelfFor_7 (by decide) (fun c9 => absurd c9 (by decide)) (fun _ => ?_)
    refine lv_aload_n hx hb dX7_shelfFor_10 rfl (lv_at hl 2 rfl) ?_
    refine lv_iconst (v := 4) hx hb dX7_shelfFor_11 (by decide) ?_
    refine lv_iload_n hx hb dX7_shelfFor_12 rfl (lv_at hl 4 rfl) ?_
    refine lv_imul hx hb dX7_shelfFor_13 ?_
    refine lv_iload hx hb dX7_shelfFor_14 (lv_at hl 0 rfl) ?_
    refine lv_iadd hx hb dX7_shelfFor_16 ?_
    refine lv_iload_n hx hb dX7_shelfFor_17 rfl (lv_at hl 3 rfl) ?_
    refine sy_ki (sy_rV (o := 0) (As := [.int ((4 * x1) + 2), .int x0]) (rest := []) ⟨hx, hb, hml, hown, hts⟩ hE hP hS (mX7_rest l hfl Z nT nK cT cK ad g q ((4 * x1) + 2) x0 hI) (cwV 2 hts (gu_V uk_5_164 uk_5_166 uk_0_23 uk_1_9 uk_5_167) rfl rfl rfl (by decide +kernel) ⟨Nat.le_of_ble_eq_true rfl, Nat.le_of_ble_eq_true rfl⟩) (sy_recv (kc := 8) hE hP rfl (by decide) rfl rfl rfl) rfl hl.1 rfl (Nat.le_of_ble_eq_true rfl) dX7_shelfFor_18 ⟨Nat.le_of_ble_eq_true rfl, Nat.le_of_ble_eq_true rfl⟩) hS (fun r_e_3 g_e_3 q_e_3 H locs e_3 hP hS => ?_)
    cases e_3
    refine lv_aload_n hx hb dX7_shelfFor_21 rfl (lv_at hl 2 rfl) ?_
    refine sy_getRX7 hx hb hts hown hE hP 0 rfl 4 (by decide) (hts _ (u_in uk_4_194)) (v := .ref (ad 5)) rfl dX7_shelfFor_22 ?_
    refine lv_iload_n hx hb dX7_shelfFor_25 rfl (lv_at hl 3 rfl) ?_
    refine sy_ialdN hx hb hE hP 5 rfl (show vp_in x0 40 from hx0) x0.toNatClampNeg rfl (v := g 5 x0.toNatClampNeg) rfl dX7_shelfFor_26 ?_
    refine lv_icmp_lt (tgt := 35) hx hb dX7_shelfFor_27 (by decide) (fun c_4 => ?_) (fun c_4 => ?_)
    · skip
      refine lv_iload_n hx hb dX7_shelfFor_35 rfl (lv_at hl 1 rfl) ?_
      refine lv_istore_n (lv' := [(3, .int (-1)), (4, .int 2), (0, .ref (ad 0)), (1, .int x0), (2, .int x1)]) hx hb dX7_shelfFor_36 rfl hl (by decide) rfl (fun ls hl => ?_)
      refine lv_iinc (v := 1) (lv' := [(4, .int 1), (3, .int (-1)), (0, .ref (ad 0)), (1, .int x0), (2, .int x1)]) hx hb dX7_shelfFor_37 hl (k := 1) rfl rfl (by decide) rfl (fun ls hl => ?_)
      refine lv_goto (tgt := 5) hx hb dX7_shelfFor_40 (by decide) ?_
      refine lv_iload hx hb dX7_shelfFor_5 (lv_at hl 0 rfl) ?_
      refine lv_if_le (tgt := 43) hx hb dX7_shelfFor_7 (by decide) (fun c9 => absurd c9 (by decide)) (fun _ => ?_)
      refine lv_aload_n hx hb dX7_shelfFor_10 rfl (lv_at hl 2 rfl) ?_
      refine lv_iconst (v := 4) hx hb dX7_shelfFor_11 (by decide) ?_
      refine lv_iload_n hx hb dX7_shelfFor_12 rfl (lv_at hl 4 rfl) ?_
      refine lv_imul hx hb dX7_shelfFor_13 ?_
      refine lv_iload hx hb dX7_shelfFor_14 (lv_at hl 0 rfl) ?_
      refine lv_iadd hx hb dX7_shelfFor_16 ?_
      refine lv_iload_n hx hb dX7_shelfFor_17 rfl (lv_at hl 3 rfl) ?_
      refine sy_ki (sy_rV (o := 0) (As := [.int ((4 * x1) + 1), .int x0]) (rest := []) ⟨hx, hb, hml, hown, hts⟩ hE hP hS (mX7_rest l hfl Z nT nK cT cK ad g q ((4 * x1) + 1) x0 hI) (cwV 2 hts (gu_V uk_5_164 uk_5_166 uk_0_23 uk_1_9 uk_5_167) rfl rfl rfl (by decide +kernel) ⟨Nat.le_of_ble_eq_true rfl, Nat.le_of_ble_eq_true rfl⟩) (sy_recv (kc := 8) hE hP rfl (by decide) rfl rfl rfl) rfl hl.1 rfl (Nat.le_of_ble_eq_true rfl) dX7_shelfFor_18 ⟨Nat.le_of_ble_eq_true rfl, Nat.le_of_ble_eq_true rfl⟩) hS (fun r_e_5 g_e_5 q_e_5 H locs e_5 hP hS => ?_)
      cases e_5
      refine lv_aload_n hx hb dX7_shelfFor_21 rfl (lv_at hl 2 rfl) ?_
      refine sy_getRX7 hx hb hts hown hE hP 0 rfl 4 (by decide) (hts _ (u_in uk_4_194)) (v := .ref (ad 5)) rfl dX7_shelfFor_22 ?_
      refine lv_iload_n hx hb dX7_shelfFor_25 rfl (lv_at hl 3 rfl) ?_
      refine sy_ialdN hx hb hE hP 5 rfl (show vp_in x0 40 from hx0) x0.toNatClampNeg rfl (v := g 5 x0.toNatClampNeg) rfl dX7_shelfFor_26 ?_
      refine lv_icmp_lt (tgt := 35) hx hb dX7_shelfFor_27 (by decide) (fun c_6 => ?_) (fun c_6 => ?_)
      · skip
        refine lv_iload_n hx hb dX7_shelfFor_35 rfl (lv_at hl 1 rfl) ?_
        refine lv_istore_n (lv' := [(3, .int (-1)), (4, .int 1), (0, .ref (ad 0)), (1, .int x0), (2, .int x1)]) hx hb dX7_shelfFor_36 rfl hl (by decide) rfl (fun ls hl => ?_)
        refine lv_iinc (v := 0) (lv' := [(4, .int 0), (3, .int (-1)), (0, .ref (ad 0)), (1, .int x0), (2, .int x1)]) hx hb dX7_shelfFor_37 hl (k := 1) rfl rfl (by decide) rfl (fun ls hl => ?_)
        exact K_1 c_2 c_4 c_6 _ _ _ hP hS hl
      · skip
        refine lv_iload hx hb dX7_shelfFor_30 (lv_at hl 0 rfl) ?_
        refine lv_goto (tgt := 36) hx hb dX7_shelfFor_32 (by decide) ?_
        refine lv_istore_n (lv' := [(3, .int 1), (4, .int 1), (0, .ref (ad 0)), (1, .int x0), (2, .int x1)]) hx hb dX7_shelfFor_36 rfl hl (by decide) rfl (fun ls hl => ?_)
        exact K_2 c_2 c_4 c_6 _ _ _ hP hS hl
    · skip
      refine lv_iload hx hb dX7_shelfFor_30 (lv_at hl 0 rfl) ?_
      refine lv_goto (tgt := 36) hx hb dX7_shelfFor_32 (by decide) ?_
      refine lv_istore_n (lv' := [(3, .int 2), (4, .int 2), (0, .ref (ad 0)), (1, .int x0), (2, .int x1)]) hx hb dX7_shelfFor_36 rfl hl (by decide) rfl (fun ls hl => ?_)
      refine lv_iinc (v := 1) (lv' := [(4, .int 1), (3, .int 2), (0, .ref (ad 0)), (1, .int x0), (2, .int x1)]) hx hb dX7_shelfFor_37 hl (k := 1) rfl rfl (by decide) rfl (fun ls hl => ?_)
      refine lv_goto (tgt := 5) hx hb dX7_shelfFor_40 (by decide) ?_
      refine lv_iload hx hb dX7_shelfFor_5 (lv_at hl 0 rfl) ?_
      refine lv_if_le (tgt := 43) hx hb dX7_shelfFor_7 (by decide) (fun c9 => absurd c9 (by decide)) (fun _ => ?_)
      refine lv_aload_n hx hb dX7_shelfFor_10 rfl (lv_at hl 2 rfl) ?_
      refine lv_iconst (v := 4) hx hb dX7_shelfFor_11 (by decide) ?_
      refine lv_iload_n hx hb dX7_shelfFor_12 rfl (lv_at hl 4 rfl) ?_
      refine lv_imul hx hb dX7_shelfFor_13 ?_
      refine lv_iload hx hb dX7_shelfFor_14 (lv_at hl 0 rfl) ?_
      refine lv_iadd hx hb dX7_shelfFor_16 ?_
      refine lv_iload_n hx hb dX7_shelfFor_17 rfl (lv_at hl 3 rfl) ?_
      refine sy_ki (sy_rV (o := 0) (As := [.int ((4 * x1) + 1), .int x0]) (rest := []) ⟨hx, hb, hml, hown, hts⟩ hE hP hS (mX7_rest l hfl Z nT nK cT cK ad g q ((4 * x1) + 1) x0 hI) (cwV 2 hts (gu_V uk_5_164 uk_5_166 uk_0_23 uk_1_9 uk_5_167) rfl rfl rfl (by decide +kernel) ⟨Nat.le_of_ble_eq_true rfl, Nat.le_of_ble_eq_true rfl⟩) (sy_recv (kc := 8) hE hP rfl (by decide) rfl rfl rfl) rfl hl.1 rfl (Nat.le_of_ble_eq_true rfl) dX7_shelfFor_18 ⟨Nat.le_of_ble_eq_true rfl, Nat.le_of_ble_eq_true rfl⟩) hS (fun r_e_13 g_e_13 q_e_13 H locs e_13 hP hS => ?_)
      cases e_13
      refine lv_aload_n hx hb dX7_shelfFor_21 rfl (lv_at hl 2 rfl) ?_
      refine sy_getRX7 hx hb hts hown hE hP 0 rfl 4 (by decide) (hts _ (u_in uk_4_194)) (v := .ref (ad 5)) rfl dX7_shelfFor_22 ?_
      refine lv_iload_n hx hb dX7_shelfFor_25 rfl (lv_at hl 3 rfl) ?_
      refine sy_ialdN hx hb hE hP 5 rfl (show vp_in x0 40 from hx0) x0.toNatClampNeg rfl (v := g 5 x0.toNatClampNeg) rfl dX7_shelfFor_26 ?_
      refine lv_icmp_lt (tgt := 35) hx hb dX7_shelfFor_27 (by decide) (fun c_14 => ?_) (fun c_14 => ?_)
      · skip
        refine lv_iload_n hx hb dX7_shelfFor_35 rfl (lv_at hl 1 rfl) ?_
        refine lv_istore_n (lv' := [(3, .int 2), (4, .int 1), (0, .ref (ad 0)), (1, .int x0), (2, .int x1)]) hx hb dX7_shelfFor_36 rfl hl (by decide) rfl (fun ls hl => ?_)
        exact K_3 c_2 c_4 c_14 _ _ _ hP hS hl
      · skip
        refine lv_iload hx hb dX7_shelfFor_30 (lv_at hl 0 rfl) ?_
        refine lv_goto (tgt := 36) hx hb dX7_shelfFor_32 (by decide) ?_
        exact K_4 c_2 c_4 c_14 _ _ _ hP hS hl
  · skip
    refine lv_iload hx hb dX7_shelfFor_30 (lv_at hl 0 rfl) ?_
    refine lv_goto (tgt := 36) hx hb dX7_shelfFor_32 (by decide) ?_
    refine lv_istore_n (lv' := [(3, .int 3), (4, .int 3), (0, .ref (ad 0)), (1, .int x0), (2, .int x1)]) hx hb dX7_shelfFor_36 rfl hl (by decide) rfl (fun ls hl => ?_)
    refine lv_iinc (v := 2) (lv' := [(4, .int 2), (3, .int 3), (0, .ref (ad 0)), (1, .int x0), (2, .int x1)]) hx hb dX7_shelfFor_37 hl (k := 1) rfl rfl (by decide) rfl (fun ls hl => ?_)
    refine lv_goto (tgt := 5) hx hb dX7_shelfFor_40 (by decide) ?_
    refine lv_iload hx hb dX7_shelfFor_5 (lv_at hl 0 rfl) ?_
    refine lv_if_le (tgt := 43) hx hb dX7_shelfFor_7 (by decide) (fun c9 => absurd c9 (by decide)) (fun _ => ?_)
    refine lv_aload_n hx hb dX7_shelfFor_10 rfl (lv_at hl 2 rfl) ?_
    refine lv_iconst (v := 4) hx hb dX7_shelfFor_11 (by decide) ?_
    refine lv_iload_n hx hb dX7_shelfFor_12 rfl (lv_at hl 4 rfl) ?_
    refine lv_imul hx hb dX7_shelfFor_13 ?_
    refine lv_iload hx hb dX7_shelfFor_14 (lv_at hl 0 rfl) ?_
    refine lv_iadd hx hb dX7_shelfFor_16 ?_
    refine lv_iload_n hx hb dX7_shelfFor_17 rfl (lv_at hl 3 rfl) ?_
    refine sy_ki (sy_rV (o := 0) (As := [.int ((4 * x1) + 2), .int x0]) (rest := []) ⟨hx, hb, hml, hown, hts⟩ hE hP hS (mX7_rest l hfl Z nT nK cT cK ad g q ((4 * x1) + 2) x0 hI) (cwV 2 hts (gu_V uk_5_164 uk_5_166 uk_0_23 uk_1_9 uk_5_167) rfl rfl rfl (by decide +kernel) ⟨Nat.le_of_ble_eq_true rfl, Nat.le_of_ble_eq_true rfl⟩) (sy_recv (kc := 8) hE hP rfl (by decide) rfl rfl rfl) rfl hl.1 rfl (Nat.le_of_ble_eq_true rfl) dX7_shelfFor_18 ⟨Nat.le_of_ble_eq_true rfl, Nat.le_of_ble_eq_true rfl⟩) hS (fun r_e_21 g_e_21 q_e_21 H locs e_21 hP hS => ?_)
    cases e_21
    refine lv_aload_n hx hb dX7_shelfFor_21 rfl (lv_at hl 2 rfl) ?_
    refine sy_getRX7 hx hb hts hown hE hP 0 rfl 4 (by decide) (hts _ (u_in uk_4_194)) (v := .ref (ad 5)) rfl dX7_shelfFor_22 ?_
    refine lv_iload_n hx hb dX7_shelfFor_25 rfl (lv_at hl 3 rfl) ?_
    refine sy_ialdN hx hb hE hP 5 rfl (show vp_in x0 40 from hx0) x0.toNatClampNeg rfl (v := g 5 x0.toNatClampNeg) rfl dX7_shelfFor_26 ?_
    refine lv_icmp_lt (tgt := 35) hx hb dX7_shelfFor_27 (by decide) (fun c_22 => ?_) (fun c_22 => ?_)
    · skip
      refine lv_iload_n hx hb dX7_shelfFor_35 rfl (lv_at hl 1 rfl) ?_
      refine lv_istore_n (lv' := [(3, .int 3), (4, .int 2), (0, .ref (ad 0)), (1, .int x0), (2, .int x1)]) hx hb dX7_shelfFor_36 rfl hl (by decide) rfl (fun ls hl => ?_)
      refine lv_iinc (v := 1) (lv' := [(4, .int 1), (3, .int 3), (0, .ref (ad 0)), (1, .int x0), (2, .int x1)]) hx hb dX7_shelfFor_37 hl (k := 1) rfl rfl (by decide) rfl (fun ls hl => ?_)
      refine lv_goto (tgt := 5) hx hb dX7_shelfFor_40 (by decide) ?_
      refine lv_iload hx hb dX7_shelfFor_5 (lv_at hl 0 rfl) ?_
      refine lv_if_le (tgt := 43) hx hb dX7_shelfFor_7 (by decide) (fun c9 => absurd c9 (by decide)) (fun _ => ?_)
      refine lv_aload_n hx hb dX7_shelfFor_10 rfl (lv_at hl 2 rfl) ?_
      refine lv_iconst (v := 4) hx hb dX7_shelfFor_11 (by decide) ?_
      refine lv_iload_n hx hb dX7_shelfFor_12 rfl (lv_at hl 4 rfl) ?_
      refine lv_imul hx hb dX7_shelfFor_13 ?_
      refine lv_iload hx hb dX7_shelfFor_14 (lv_at hl 0 rfl) ?_
      refine lv_iadd hx hb dX7_shelfFor_16 ?_
      refine lv_iload_n hx hb dX7_shelfFor_17 rfl (lv_at hl 3 rfl) ?_
      refine sy_ki (sy_rV (o := 0) (As := [.int ((4 * x1) + 1), .int x0]) (rest := []) ⟨hx, hb, hml, hown, hts⟩ hE hP hS (mX7_rest l hfl Z nT nK cT cK ad g q ((4 * x1) + 1) x0 hI) (cwV 2 hts (gu_V uk_5_164 uk_5_166 uk_0_23 uk_1_9 uk_5_167) rfl rfl rfl (by decide +kernel) ⟨Nat.le_of_ble_eq_true rfl, Nat.le_of_ble_eq_true rfl⟩) (sy_recv (kc := 8) hE hP rfl (by decide) rfl rfl rfl) rfl hl.1 rfl (Nat.le_of_ble_eq_true rfl) dX7_shelfFor_18 ⟨Nat.le_of_ble_eq_true rfl, Nat.le_of_ble_eq_true rfl⟩) hS (fun r_e_23 g_e_23 q_e_23 H locs e_23 hP hS => ?_)
      cases e_23
      refine lv_aload_n hx hb dX7_shelfFor_21 rfl (lv_at hl 2 rfl) ?_
      refine sy_getRX7 hx hb hts hown hE hP 0 rfl 4 (by decide) (hts _ (u_in uk_4_194)) (v := .ref (ad 5)) rfl dX7_shelfFor_22 ?_
      refine lv_iload_n hx hb dX7_shelfFor_25 rfl (lv_at hl 3 rfl) ?_
      refine sy_ialdN hx hb hE hP 5 rfl (show vp_in x0 40 from hx0) x0.toNatClampNeg rfl (v := g 5 x0.toNatClampNeg) rfl dX7_shelfFor_26 ?_
      refine lv_icmp_lt (tgt := 35) hx hb dX7_shelfFor_27 (by decide) (fun c_24 => ?_) (fun c_24 => ?_)
      · skip
        refine lv_iload_n hx hb dX7_shelfFor_35 rfl (lv_at hl 1 rfl) ?_
        refine lv_istore_n (lv' := [(3, .int 3), (4, .int 1), (0, .ref (ad 0)), (1, .int x0), (2, .int x1)]) hx hb dX7_shelfFor_36 rfl hl (by decide) rfl (fun ls hl => ?_)
        exact K_5 c_2 c_22 c_24 _ _ _ hP hS hl
      · skip
        refine lv_iload hx hb dX7_shelfFor_30 (lv_at hl 0 rfl) ?_
        refine lv_goto (tgt := 36) hx hb dX7_shelfFor_32 (by decide) ?_
        exact K_6 c_2 c_22 c_24 _ _ _ hP hS hl
    · skip
      refine lv_iload hx hb dX7_shelfFor_30 (lv_at hl 0 rfl) ?_
      refine lv_goto (tgt := 36) hx hb dX7_shelfFor_32 (by decide) ?_
      refine lv_istore_n (lv' := [(3, .int 2), (4, .int 2), (0, .ref (ad 0)), (1, .int x0), (2, .int x1)]) hx hb dX7_shelfFor_36 rfl hl (by decide) rfl (fun ls hl => ?_)
      refine lv_iinc (v := 1) (lv' := [(4, .int 1), (3, .int 2), (0, .ref (ad 0)), (1, .int x0), (2, .int x1)]) hx hb dX7_shelfFor_37 hl (k := 1) rfl rfl (by decide) rfl (fun ls hl => ?_)
      refine lv_goto (tgt := 5) hx hb dX7_shelfFor_40 (by decide) ?_
      refine lv_iload hx hb dX7_shelfFor_5 (lv_at hl 0 rfl) ?_
      refine lv_if_le (tgt := 43) hx hb dX7_shelfFor_7 (by decide) (fun c9 => absurd c9 (by decide)) (fun _ => ?_)
      refine lv_aload_n hx hb dX7_shelfFor_10 rfl (lv_at hl 2 rfl) ?_
      refine lv_iconst (v := 4) hx hb dX7_shelfFor_11 (by decide) ?_
      refine lv_iload_n hx hb dX7_shelfFor_12 rfl (lv_at hl 4 rfl) ?_
      refine lv_imul hx hb dX7_shelfFor_13 ?_
      refine lv_iload hx hb dX7_shelfFor_14 (lv_at hl 0 rfl) ?_
      refine lv_iadd hx hb dX7_shelfFor_16 ?_
      refine lv_iload_n hx hb dX7_shelfFor_17 rfl (lv_at hl 3 rfl) ?_
      refine sy_ki (sy_rV (o := 0) (As := [.int ((4 * x1) + 1), .int x0]) (rest := []) ⟨hx, hb, hml, hown, hts⟩ hE hP hS (mX7_rest l hfl Z nT nK cT cK ad g q ((4 * x1) + 1) x0 hI) (cwV 2 hts (gu_V uk_5_164 uk_5_166 uk_0_23 uk_1_9 uk_5_167) rfl rfl rfl (by decide +kernel) ⟨Nat.le_of_ble_eq_true rfl, Nat.le_of_ble_eq_true rfl⟩) (sy_recv (kc := 8) hE hP rfl (by decide) rfl rfl rfl) rfl hl.1 rfl (Nat.le_of_ble_eq_true rfl) dX7_shelfFor_18 ⟨Nat.le_of_ble_eq_true rfl, Nat.le_of_ble_eq_true rfl⟩) hS (fun r_e_31 g_e_31 q_e_31 H locs e_31 hP hS => ?_)
      cases e_31
      refine lv_aload_n hx hb dX7_shelfFor_21 rfl (lv_at hl 2 rfl) ?_
      refine sy_getRX7 hx hb hts hown hE hP 0 rfl 4 (by decide) (hts _ (u_in uk_4_194)) (v := .ref (ad 5)) rfl dX7_shelfFor_22 ?_
      refine lv_iload_n hx hb dX7_shelfFor_25 rfl (lv_at hl 3 rfl) ?_
      refine sy_ialdN hx hb hE hP 5 rfl (show vp_in x0 40 from hx0) x0.toNatClampNeg rfl (v := g 5 x0.toNatClampNeg) rfl dX7_shelfFor_26 ?_
      refine lv_icmp_lt (tgt := 35) hx hb dX7_shelfFor_27 (by decide) (fun c_32 => ?_) (fun c_32 => ?_)
      · skip
        refine lv_iload_n hx hb dX7_shelfFor_35 rfl (lv_at hl 1 rfl) ?_
        exact K_7 c_2 c_22 c_32 _ _ _ hP hS hl
      · skip
        refine lv_iload hx hb dX7_shelfFor_30 (lv_at hl 0 rfl) ?_
        exact K_8 c_2 c_22 c_32 _ _ _ hP hS hl
def fX7_bars (g : sG) (q : sQ) (x0 : Int32) : Int32 := (if (g 41 x0.toNatClampNeg) = (-1) then (if (g 39 x0.toNatClampNeg) = 0 then (if (g 9 ((g 30 x0.toNatClampNeg).toNatClampNeg)) = 0 then 0 else 2) else 0) else (if (g 39 x0.toNatClampNeg) = 0 then (if (g 9 ((g 30 x0.toNatClampNeg).toNatClampNeg)) = 0 then 1 else 3) else 1))
set_option maxHeartbeats 4000000 in
set_option maxRecDepth 100000 in
theorem mX7_bars (l : Launch) (hfl : l.stackTraces = false) (Z : sZ) (nT nK cT cK : Nat) (ad : Nat → Nat) (g : sG) (q : sQ) (x0 : Int32) {mT mK : Nat} (hI : IM mT mK g) (hx0 : vp_in x0 40) : sMi l Z yX7_bars (uW (.code yX7_bars cX7_bars 2 (some .int))) { frames := 0, cells := 0, slots := 0, locals := 0 } [.ref (ad 0), .int x0] nT nK cT cK ad g q (fun r g1 q1 => (r, g1, q1) = (fX7_bars g q x0, g, q)) := by
  refine Met.ofW (cc := cX7_bars) (maxL := 2) (ret := (some .int)) (by decide) rfl ?_
  intro p e s m args below meth c s₁ B hml hv
  obtain ⟨rfl, hE, hP⟩ := hv
  have hx := B.exec
  have hb := B.bytes
  have hr := B.returns
  have hts := atoms_spec (ws := uW (.code yX7_bars cX7_bars 2 (some .int))) B.pre
  have hown : s.vm.findClass RX7 = some m.cls := findClass_of_methodNamed B.named
  have hlocks := B.notSynchronized
  have hS : va_S (sy_A Z) s.heap s.heap [] := va_S.rf
  have hl := lv_entry ([.ref (ad 0), .int x0]) (n := 2) (Nat.le_of_ble_eq_true rfl)
  rw [lg_entry_eq]
  generalize (lg_sl ([.ref (ad 0), .int x0]) ++ List.replicate (2 - (lg_sl ([.ref (ad 0), .int x0])).length) Slot.unset).toArray = ls at hl ⊢
  have hl : lv_has ls 2 [(0, .ref (ad 0)), (1, .int x0)] := hl
  refine lv_aload_n hx hb dX7_bars_0 rfl (lv_at hl 0 rfl) ?_
  refine sy_getRX7 hx hb hts hown hE hP 0 rfl 40 (by decide) (hts _ (u_in uk_4_230)) (v := .ref (ad 41)) rfl dX7_bars_1 ?_
  refine lv_iload_n hx hb dX7_bars_4 rfl (lv_at hl 1 rfl) ?_
  refine sy_ialdN hx hb hE hP 41 rfl (show vp_in x0 40 from hx0) x0.toNatClampNeg rfl (v := g 41 x0.toNatClampNeg) rfl dX7_bars_5 ?_
  refine lv_iconst (v := (-1)) hx hb dX7_bars_6 (by decide) ?_
  refine lv_icmp_eq (tgt := 14) hx hb dX7_bars_7 (by decide) (fun c_1 => ?_) (fun c_1 => ?_)
  · skip
    refine lv_iconst (v := 0) hx hb dX7_bars_14 (by decide) ?_
    refine lv_aload_n hx hb dX7_bars_15 rfl (lv_at hl 0 rfl) ?_
    refine sy_getRX7 hx hb hts hown hE hP 0 rfl 38 (by decide) (hts _ (u_in uk_4_228)) (v := .ref (ad 39)) rfl dX7_bars_16 ?_
    refine lv_iload_n hx hb dX7_bars_19 rfl (lv_at hl 1 rfl) ?_
    refine sy_ialdN hx hb hE hP 39 rfl (show vp_in x0 40 from hx0) x0.toNatClampNeg rfl (v := g 39 x0.toNatClampNeg) rfl dX7_bars_20 ?_
    refine lv_if_ne (tgt := 42) hx hb dX7_bars_21 (by decide) (fun c_2 => ?_) (fun c_2 => ?_)
    · skip
      refine lv_iconst (v := 0) hx hb dX7_bars_42 (by decide) ?_
      refine lv_iadd hx hb dX7_bars_43 ?_
      refine sy_top (y := 0) (by decide) ?_
      exact (sy_ireti hx hb hr hlocks hE hP hS dX7_bars_44 ⟨Nat.le_of_ble_eq_true rfl, Nat.le_of_ble_eq_true rfl⟩ (by unfold fX7_bars; rw [if_pos c_1, if_neg c_2] <;> rfl))
    · skip
      refine lv_aload_n hx hb dX7_bars_24 rfl (lv_at hl 0 rfl) ?_
      refine sy_getRX7 hx hb hts hown hE hP 0 rfl 8 (by decide) (hts _ (u_in uk_4_198)) (v := .ref (ad 9)) rfl dX7_bars_25 ?_
      refine lv_aload_n hx hb dX7_bars_28 rfl (lv_at hl 0 rfl) ?_
      refine sy_getRX7 hx hb hts hown hE hP 0 rfl 29 (by decide) (hts _ (u_in uk_4_219)) (v := .ref (ad 30)) rfl dX7_bars_29 ?_
      refine lv_iload_n hx hb dX7_bars_32 rfl (lv_at hl 1 rfl) ?_
      refine sy_ialdN hx hb hE hP 30 rfl (show vp_in x0 40 from hx0) x0.toNatClampNeg rfl (v := g 30 x0.toNatClampNeg) rfl dX7_bars_33 ?_
      refine sy_zaldN hx hb hE hP 9 rfl (show vp_in (g 30 x0.toNatClampNeg) 40 from (im_thingOf hI hx0)) ((g 30 x0.toNatClampNeg).toNatClampNeg) rfl (v := g 9 ((g 30 x0.toNatClampNeg).toNatClampNeg)) rfl dX7_bars_34 ?_
      refine lv_if_eq (tgt := 42) hx hb dX7_bars_35 (by decide) (fun c_3 => ?_) (fun c_3 => ?_)
      · skip
        refine lv_iconst (v := 0) hx hb dX7_bars_42 (by decide) ?_
        refine lv_iadd hx hb dX7_bars_43 ?_
        refine sy_top (y := 0) (by decide) ?_
        exact (sy_ireti hx hb hr hlocks hE hP hS dX7_bars_44 ⟨Nat.le_of_ble_eq_true rfl, Nat.le_of_ble_eq_true rfl⟩ (by unfold fX7_bars; rw [if_pos c_1, if_pos c_2, if_pos c_3] <;> rfl))
      · skip
        refine lv_iconst (v := 2) hx hb dX7_bars_38 (by decide) ?_
        refine lv_goto (tgt := 43) hx hb dX7_bars_39 (by decide) ?_
        refine lv_iadd hx hb dX7_bars_43 ?_
        refine sy_top (y := 2) (by decide) ?_
        exact (sy_ireti hx hb hr hlocks hE hP hS dX7_bars_44 ⟨Nat.le_of_ble_eq_true rfl, Nat.le_of_ble_eq_true rfl⟩ (by unfold fX7_bars; rw [if_pos c_1, if_pos c_2, if_neg c_3] <;> rfl))
  · skip
    refine lv_iconst (v := 1) hx hb dX7_bars_10 (by decide) ?_
    refine lv_goto (tgt := 15) hx hb dX7_bars_11 (by decide) ?_
    refine lv_aload_n hx hb dX7_bars_15 rfl (lv_at hl 0 rfl) ?_
    refine sy_getRX7 hx hb hts hown hE hP 0 rfl 38 (by decide) (hts _ (u_in uk_4_228)) (v := .ref (ad 39)) rfl dX7_bars_16 ?_
    refine lv_iload_n hx hb dX7_bars_19 rfl (lv_at hl 1 rfl) ?_
    refine sy_ialdN hx hb hE hP 39 rfl (show vp_in x0 40 from hx0) x0.toNatClampNeg rfl (v := g 39 x0.toNatClampNeg) rfl dX7_bars_20 ?_
    refine lv_if_ne (tgt := 42) hx hb dX7_bars_21 (by decide) (fun c_4 => ?_) (fun c_4 => ?_)
    · skip
      refine lv_iconst (v := 0) hx hb dX7_bars_42 (by decide) ?_
      refine lv_iadd hx hb dX7_bars_43 ?_
      refine sy_top (y := 1) (by decide) ?_
      exact (sy_ireti hx hb hr hlocks hE hP hS dX7_bars_44 ⟨Nat.le_of_ble_eq_true rfl, Nat.le_of_ble_eq_true rfl⟩ (by unfold fX7_bars; rw [if_neg c_1, if_neg c_4] <;> rfl))
    · skip
      refine lv_aload_n hx hb dX7_bars_24 rfl (lv_at hl 0 rfl) ?_
      refine sy_getRX7 hx hb hts hown hE hP 0 rfl 8 (by decide) (hts _ (u_in uk_4_198)) (v := .ref (ad 9)) rfl dX7_bars_25 ?_
      refine lv_aload_n hx hb dX7_bars_28 rfl (lv_at hl 0 rfl) ?_
      refine sy_getRX7 hx hb hts hown hE hP 0 rfl 29 (by decide) (hts _ (u_in uk_4_219)) (v := .ref (ad 30)) rfl dX7_bars_29 ?_
      refine lv_iload_n hx hb dX7_bars_32 rfl (lv_at hl 1 rfl) ?_
      refine sy_ialdN hx hb hE hP 30 rfl (show vp_in x0 40 from hx0) x0.toNatClampNeg rfl (v := g 30 x0.toNatClampNeg) rfl dX7_bars_33 ?_
      refine sy_zaldN hx hb hE hP 9 rfl (show vp_in (g 30 x0.toNatClampNeg) 40 from (im_thingOf hI hx0)) ((g 30 x0.toNatClampNeg).toNatClampNeg) rfl (v := g 9 ((g 30 x0.toNatClampNeg).toNatClampNeg)) rfl dX7_bars_34 ?_
      refine lv_if_eq (tgt := 42) hx hb dX7_bars_35 (by decide) (fun c_5 => ?_) (fun c_5 => ?_)
      · skip
        refine lv_iconst (v := 0) hx hb dX7_bars_42 (by decide) ?_
        refine lv_iadd hx hb dX7_bars_43 ?_
        refine sy_top (y := 1) (by decide) ?_
        exact (sy_ireti hx hb hr hlocks hE hP hS dX7_bars_44 ⟨Nat.le_of_ble_eq_true rfl, Nat.le_of_ble_eq_true rfl⟩ (by unfold fX7_bars; rw [if_neg c_1, if_pos c_4, if_pos c_5] <;> rfl))
      · skip
        refine lv_iconst (v := 2) hx hb dX7_bars_38 (by decide) ?_
        refine lv_goto (tgt := 43) hx hb dX7_bars_39 (by decide) ?_
        refine lv_iadd hx hb dX7_bars_43 ?_
        refine sy_top (y := 3) (by decide) ?_
        exact (sy_ireti hx hb hr hlocks hE hP hS dX7_bars_44 ⟨Nat.le_of_ble_eq_true rfl, Nat.le_of_ble_eq_true rfl⟩ (by unfold fX7_bars; rw [if_neg c_1, if_pos c_4, if_neg c_5] <;> rfl))
def fX7_isFound (g : sG) (q : sQ) (x0 : Int32) : Int32 := (if (g 8 x0.toNatClampNeg) = 0 then 0 else (if (g 10 x0.toNatClampNeg) = (g 11 x0.toNatClampNeg) then 1 else 0))
set_option maxHeartbeats 4000000 in
set_option maxRecDepth 100000 in
theorem mX7_isFound (l : Launch) (hfl : l.stackTraces = false) (Z : sZ) (nT nK cT cK : Nat) (ad : Nat → Nat) (g : sG) (q : sQ) (x0 : Int32) {mT mK : Nat} (hI : IM mT mK g) (hx0 : vp_in x0 40) : sMi l Z yX7_isFound (uW (.code yX7_isFound cX7_isFound 2 (some .boolean))) { frames := 0, cells := 0, slots := 0, locals := 0 } [.ref (ad 0), .int x0] nT nK cT cK ad g q (fun r g1 q1 => (r, g1, q1) = (fX7_isFound g q x0, g, q)) := by
  refine Met.ofW (cc := cX7_isFound) (maxL := 2) (ret := (some .boolean)) (by decide) rfl ?_
  intro p e s m args below meth c s₁ B hml hv
  obtain ⟨rfl, hE, hP⟩ := hv
  have hx := B.exec
  have hb := B.bytes
  have hr := B.returns
  have hts := atoms_spec (ws := uW (.code yX7_isFound cX7_isFound 2 (some .boolean))) B.pre
  have hown : s.vm.findClass RX7 = some m.cls := findClass_of_methodNamed B.named
  have hlocks := B.notSynchronized
  have hS : va_S (sy_A Z) s.heap s.heap [] := va_S.rf
  have hl := lv_entry ([.ref (ad 0), .int x0]) (n := 2) (Nat.le_of_ble_eq_true rfl)
  rw [lg_entry_eq]
  generalize (lg_sl ([.ref (ad 0), .int x0]) ++ List.replicate (2 - (lg_sl ([.ref (ad 0), .int x0])).length) Slot.unset).toArray = ls at hl ⊢
  have hl : lv_has ls 2 [(0, .ref (ad 0)), (1, .int x0)] := hl
  refine lv_aload_n hx hb dX7_isFound_0 rfl (lv_at hl 0 rfl) ?_
  refine sy_getRX7 hx hb hts hown hE hP 0 rfl 7 (by decide) (hts _ (u_in uk_4_197)) (v := .ref (ad 8)) rfl dX7_isFound_1 ?_
  refine lv_iload_n hx hb dX7_isFound_4 rfl (lv_at hl 1 rfl) ?_
  refine sy_zaldN hx hb hE hP 8 rfl (show vp_in x0 40 from hx0) x0.toNatClampNeg rfl (v := g 8 x0.toNatClampNeg) rfl dX7_isFound_5 ?_
  refine lv_if_eq (tgt := 28) hx hb dX7_isFound_6 (by decide) (fun c_1 => ?_) (fun c_1 => ?_)
  · skip
    refine lv_iconst (v := 0) hx hb dX7_isFound_28 (by decide) ?_
    exact (sy_iretz hx hb hr hlocks hE hP hS dX7_isFound_29 ⟨Nat.le_of_ble_eq_true rfl, Nat.le_of_ble_eq_true rfl⟩ (by decide) (by unfold fX7_isFound; rw [if_pos c_1] <;> rfl))
  · skip
    refine lv_aload_n hx hb dX7_isFound_9 rfl (lv_at hl 0 rfl) ?_
    refine sy_getRX7 hx hb hts hown hE hP 0 rfl 9 (by decide) (hts _ (u_in uk_4_199)) (v := .ref (ad 10)) rfl dX7_isFound_10 ?_
    refine lv_iload_n hx hb dX7_isFound_13 rfl (lv_at hl 1 rfl) ?_
    refine sy_ialdN hx hb hE hP 10 rfl (show vp_in x0 40 from hx0) x0.toNatClampNeg rfl (v := g 10 x0.toNatClampNeg) rfl dX7_isFound_14 ?_
    refine lv_aload_n hx hb dX7_isFound_15 rfl (lv_at hl 0 rfl) ?_
    refine sy_getRX7 hx hb hts hown hE hP 0 rfl 10 (by decide) (hts _ (u_in uk_4_200)) (v := .ref (ad 11)) rfl dX7_isFound_16 ?_
    refine lv_iload_n hx hb dX7_isFound_19 rfl (lv_at hl 1 rfl) ?_
    refine sy_ialdN hx hb hE hP 11 rfl (show vp_in x0 40 from hx0) x0.toNatClampNeg rfl (v := g 11 x0.toNatClampNeg) rfl dX7_isFound_20 ?_
    refine lv_icmp_ne (tgt := 28) hx hb dX7_isFound_21 (by decide) (fun c_2 => ?_) (fun c_2 => ?_)
    · skip
      refine lv_iconst (v := 0) hx hb dX7_isFound_28 (by decide) ?_
      exact (sy_iretz hx hb hr hlocks hE hP hS dX7_isFound_29 ⟨Nat.le_of_ble_eq_true rfl, Nat.le_of_ble_eq_true rfl⟩ (by decide) (by unfold fX7_isFound; rw [if_neg c_1, if_neg c_2] <;> rfl))
    · skip
      refine lv_iconst (v := 1) hx hb dX7_isFound_24 (by decide) ?_
      refine lv_goto (tgt := 29) hx hb dX7_isFound_25 (by decide) ?_
      exact (sy_iretz hx hb hr hlocks hE hP hS dX7_isFound_29 ⟨Nat.le_of_ble_eq_true rfl, Nat.le_of_ble_eq_true rfl⟩ (by decide) (by unfold fX7_isFound; rw [if_neg c_1, if_pos c_2] <;> rfl))
