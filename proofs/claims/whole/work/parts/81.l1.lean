def sNc (U : State) : Prop := va_Nc "java/lang/IllegalArgumentException" "java/lang/IndexOutOfBoundsException" U ∧ va_Nc "java/lang/IllegalStateException" "java/lang/IndexOutOfBoundsException" U ∧ va_Nc "java/lang/IllegalStateException" "java/lang/IllegalArgumentException" U
theorem sNc.next {s U : State} (hv : s.vm.Alike U.vm) (h : sNc s) : sNc U := ⟨h.1.moved hv, h.2.1.moved hv, h.2.2.moved hv⟩
def sPreL (Z : sZ) (nT nK cT cK : Nat) (ad : Nat → Nat) (g : sG) (q : sQ) : State → Prop := fun U => sPre Z nT nK cT cK ad g q U ∧ sNc U
theorem sPreL_blind {Z : sZ} {nT nK cT cK : Nat} {ad : Nat → Nat} {g : sG} {q : sQ} (av : List Value) : FrameBlind (va_Pc av (sPreL Z nT nK cT cK ad g q)) := fun a U g' mk h => ⟨h.1, (sPre_blind av a U g' mk ⟨h.1, h.2.1⟩).2, h.2.2.next (Vm.Alike.refl _)⟩
theorem exc_c {E : String} {a b c : Int32} (h : wf a b c (exc E) ≠ 9) : (E = "java/lang/IndexOutOfBoundsException" ∧ exc E = 1 ∧ a ≠ 9) ∨ (E = "java/lang/IllegalArgumentException" ∧ exc E = 2 ∧ b ≠ 9) ∨ (E = "java/lang/IllegalStateException" ∧ exc E = 3 ∧ c ≠ 9) := by
  by_cases h1 : E = "java/lang/IndexOutOfBoundsException"
  · subst h1
    exact Or.inl ⟨rfl, exc_IO, fun z => h (by rw [exc_IO]; exact z)⟩
  · by_cases h2 : E = "java/lang/IllegalArgumentException"
    · subst h2
      exact Or.inr (Or.inl ⟨rfl, exc_IA, fun z => h (by rw [exc_IA]; exact z)⟩)
    · by_cases h3 : E = "java/lang/IllegalStateException"
      · subst h3
        exact Or.inr (Or.inr ⟨rfl, exc_IS, fun z => h (by rw [exc_IS]; exact z)⟩)
      · exfalso
        have : exc E = 9 := by unfold exc; rw [if_neg h1, if_neg h2, if_neg h3]
        rw [this] at h
        exact h rfl
set_option maxHeartbeats 4000000 in
set_option maxRecDepth 100000 in
theorem mL_thing (l : Launch) (hfl : l.stackTraces = false) (Z : sZ) (nT nK cT cK : Nat) (ad : Nat → Nat) (g : sG) (q : sQ) (x0 x1 x2 : Int32) (hG : IG nT nK cT cK g) (hQ : IQ nT nK q) (hc : cT ≤ 60) (h0 : cT = 0 → ad 70 = Z.2.2.2) (hrest : ∀ j, nT ≤ j → q 70 j = none) (hq70 : ∀ o k, q o k ≠ some 70) (hqn : ∀ o k, q o k ≠ some (100 + nT)) (hC : wf 1 2 3 (fX6_thing g q nT x0 x1 x2).1 ≠ 9) : Met l yL_thing (uW (.codeWith yL_thing cL_thing 6 (some .int) [(0, 12, 15, 13), (0, 12, 19, 15), (0, 12, 23, 17)])) { frames := 8, cells := 6, slots := 96, locals := 195 } (va_Pc [.ref (ad 60), .int x0, .int x1, .int x2, .ref (ad 90)] (sPreL Z nT nK cT cK ad g q)) (va_Qi (fun (r : Int32) (u : (Nat → Nat) × sG × sQ) => ((fX6_thing g q nT x0 x1 x2).1 = 0 ∧ r = 0 ∧ (∀ x, x ≠ 70 → x ≠ 100 + nT → u.1 x = ad x) ∧ u.2.1 = sy_up (fX6_thing g q nT x0 x1 x2).2.2.1 90 0 (fX6_thing g q nT x0 x1 x2).2.1 ∧ u.2.2 = (fX6_thing g q nT x0 x1 x2).2.2.2) ∨ ((fX6_thing g q nT x0 x1 x2).1 ≠ 0 ∧ r = wf 1 2 3 (fX6_thing g q nT x0 x1 x2).1)) (fun u t => sEnv Z t ∧ ((fX6_thing g q nT x0 x1 x2).1 = 0 → Sy Z (nT + 1) nK (sCap nT cT) cK u.1 u.2.1 u.2.2 t.heap) ∧ ((fX6_thing g q nT x0 x1 x2).1 ≠ 0 → Sy Z nT nK cT cK ad g q t.heap)) (sy_A Z)) 6 96 (sy_A Z) := by
  refine va_MetW (cc := cL_thing) (maxL := 6) (ret := some .int) (by decide) rfl ?_
  intro p e s m args below meth c s₁ B hml hv
  obtain ⟨rfl, ⟨hE, hP⟩, hNc⟩ := hv
  have hx := B.exec
  have hb := B.bytes
  have hr := B.returns
  have hts := atoms_spec (ws := uW (.codeWith yL_thing cL_thing 6 (some .int) [(0, 12, 15, 13), (0, 12, 19, 15), (0, 12, 23, 17)])) B.pre
  have hown : s.vm.findClass RL = some m.cls := findClass_of_methodNamed B.named
  have hlocks := B.notSynchronized
  have htab := vx_table (x := yL_thing) B (hts _ List.mem_cons_self)
  have hS : va_S (sy_A Z) s.heap s.heap [] := va_S.rf
  have hl := lv_entry ([.ref (ad 60), .int x0, .int x1, .int x2, .ref (ad 90)]) (n := 6) (Nat.le_of_ble_eq_true rfl)
  rw [lg_entry_eq]
  generalize (lg_sl ([.ref (ad 60), .int x0, .int x1, .int x2, .ref (ad 90)]) ++ List.replicate (6 - (lg_sl ([.ref (ad 60), .int x0, .int x1, .int x2, .ref (ad 90)])).length) Slot.unset).toArray = ls at hl ⊢
  have hl : lv_has ls 6 [(0, .ref (ad 60)), (1, .int x0), (2, .int x1), (3, .int x2), (4, .ref (ad 90))] := hl
  refine lv_aload hx hb dL_thing_0 (lv_at hl 4 rfl) ?_
  refine lv_iconst (v := 0) hx hb dL_thing_2 (by decide) ?_
  refine lv_aload_n hx hb dL_thing_3 rfl (lv_at hl 0 rfl) ?_
  refine lv_iload_n hx hb dL_thing_4 rfl (lv_at hl 1 rfl) ?_
  refine lv_iload_n hx hb dL_thing_5 rfl (lv_at hl 2 rfl) ?_
  refine lv_iload_n hx hb dL_thing_6 rfl (lv_at hl 3 rfl) ?_
  refine vx_calli (sy_xV (o := 60) (As := [.int x0, .int x1, .int x2]) (rest := [.int 0, .ref (ad 90)]) ⟨hx, hb, hml, hown, hts⟩ hE hP hS (mX6_thing l hfl Z nT nK cT cK ad g q x0 x1 x2 hG hQ hc h0 hrest hq70 hqn) (cwV 3 hts (gu_V uk_1_202 uk_1_203 uk_1_204 uk_1_1 uk_1_205) rfl rfl rfl (by decide +kernel) ⟨Nat.le_of_ble_eq_true rfl, Nat.le_of_ble_eq_true rfl⟩) (sy_recv (kc := 7) hE hP rfl (by decide) rfl rfl rfl) rfl hl.1 rfl (Nat.le_of_ble_eq_true rfl) dL_thing_7 ⟨Nat.le_of_ble_eq_true rfl, Nat.le_of_ble_eq_true rfl⟩) hS (fun _ _ h => h) (fun _ h => h) (fun _ _ h => h) (fun E ce q9 u t H locs ht _ hpu hB _ _ hS hcell hv hcl => ?_) (fun r u t H locs ht _ hp hB _ _ hS => ?_)
  · obtain ⟨rfl, -, hB⟩ := hB
    rw [ht] at hB
    have hC9 := hC
    rw [← hpu] at hC9
    rcases exc_c hC9 with ⟨rfl, hc, h9⟩ | ⟨rfl, hc, h9⟩ | ⟨rfl, hc, h9⟩
    · refine vx_catch (own := RL) (name := "java/lang/IndexOutOfBoundsException") hown ([] : List ExceptionTableEntry) (⟨0, 12, 15, 13⟩ : ExceptionTableEntry) [⟨0, 12, 19, 15⟩, ⟨0, 12, 23, 17⟩] (htab.trans rfl) (fun z hz => nomatch hz) rfl (by decide) (hts _ (u_in uk_1_199)) (va_Nw.use rfl (hE.2.2.2.2.2 _ un_1_211)) hcell hv hcl ?_
      refine lv_astore (lv' := [(5, .ref q9), (0, .ref (ad 60)), (1, .int x0), (2, .int x1), (3, .int x2), (4, .ref (ad 90))]) hx hb dL_thing_15 hl (by decide) rfl (fun ls hl => ?_)
      refine lv_iconst (v := 1) hx hb dL_thing_17 (by decide) ?_
      exact W.widen (Nat.le_of_ble_eq_true rfl) (Nat.le_of_ble_eq_true rfl) (W.iret hx hb hr (fun t ht hW => ⟨⟨1, (ad, g, q), rfl, Or.inr ⟨by rw [← hpu]; decide, by rw [← hpu]; rfl⟩, hE.next hS ht hW.alike, fun z => absurd z (by rw [← hpu]; decide), fun _ => by rw [ht]; exact hB⟩, hS.F ht⟩) hS.2.2 dL_thing_18 hlocks)
    · refine vx_catch (own := RL) (name := "java/lang/IllegalArgumentException") hown ([⟨0, 12, 15, 13⟩] : List ExceptionTableEntry) (⟨0, 12, 19, 15⟩ : ExceptionTableEntry) [⟨0, 12, 23, 17⟩] (htab.trans rfl) (fun z hz => by
            rcases List.mem_cons.mp hz with rfl | hz
            · exact Or.inr ⟨by decide, "java/lang/IndexOutOfBoundsException", hts _ (u_in uk_1_199), hNc.1⟩
            · cases hz) rfl (by decide) (hts _ (u_in uk_1_200)) (va_Nw.use rfl (hE.2.2.2.2.2 _ un_2_37)) hcell hv hcl ?_
      refine lv_astore (lv' := [(5, .ref q9), (0, .ref (ad 60)), (1, .int x0), (2, .int x1), (3, .int x2), (4, .ref (ad 90))]) hx hb dL_thing_19 hl (by decide) rfl (fun ls hl => ?_)
      refine lv_iconst (v := 2) hx hb dL_thing_21 (by decide) ?_
      exact W.widen (Nat.le_of_ble_eq_true rfl) (Nat.le_of_ble_eq_true rfl) (W.iret hx hb hr (fun t ht hW => ⟨⟨2, (ad, g, q), rfl, Or.inr ⟨by rw [← hpu]; decide, by rw [← hpu]; rfl⟩, hE.next hS ht hW.alike, fun z => absurd z (by rw [← hpu]; decide), fun _ => by rw [ht]; exact hB⟩, hS.F ht⟩) hS.2.2 dL_thing_22 hlocks)
    · refine vx_catch (own := RL) (name := "java/lang/IllegalStateException") hown ([⟨0, 12, 15, 13⟩, ⟨0, 12, 19, 15⟩] : List ExceptionTableEntry) (⟨0, 12, 23, 17⟩ : ExceptionTableEntry) [] (htab.trans rfl) (fun z hz => by
            rcases List.mem_cons.mp hz with rfl | hz
            · exact Or.inr ⟨by decide, "java/lang/IndexOutOfBoundsException", hts _ (u_in uk_1_199), hNc.2.1⟩
            · rcases List.mem_cons.mp hz with rfl | hz
              · exact Or.inr ⟨by decide, "java/lang/IllegalArgumentException", hts _ (u_in uk_1_200), hNc.2.2⟩
              · cases hz) rfl (by decide) (hts _ (u_in uk_1_201)) (va_Nw.use rfl (hE.2.2.2.2.2 _ un_2_59)) hcell hv hcl ?_
      refine lv_astore (lv' := [(5, .ref q9), (0, .ref (ad 60)), (1, .int x0), (2, .int x1), (3, .int x2), (4, .ref (ad 90))]) hx hb dL_thing_23 hl (by decide) rfl (fun ls hl => ?_)
      refine lv_iconst (v := 3) hx hb dL_thing_25 (by decide) ?_
      exact W.widen (Nat.le_of_ble_eq_true rfl) (Nat.le_of_ble_eq_true rfl) (W.iret hx hb hr (fun t ht hW => ⟨⟨3, (ad, g, q), rfl, Or.inr ⟨by rw [← hpu]; decide, by rw [← hpu]; rfl⟩, hE.next hS ht hW.alike, fun z => absurd z (by rw [← hpu]; decide), fun _ => by rw [ht]; exact hB⟩, hS.F ht⟩) hS.2.2 dL_thing_26 hlocks)
  · skip
    obtain ⟨ad1, g1, q1⟩ := u
    obtain ⟨had, hp⟩ := hp
    have hP := hB.2
    rw [ht] at hP
    dsimp only at had hp hP
    have h60 : ad 60 = ad1 60 := (had 60 (by omega) (by omega)).symm
    have h90 : ad 90 = ad1 90 := (had 90 (by omega) (by omega)).symm
    rw [h90]
    refine lv_i2l hx hb dL_thing_10 rfl ?_
    refine sy_last hx hb hE hP hS 90 rfl (i := 0) (k_in rfl) dL_thing_11 (fun H locs hP hS => ?_)
    refine lv_goto (tgt := 27) hx hb dL_thing_12 (by decide) ?_
    refine lv_iconst (v := 0) hx hb dL_thing_27 (by decide) ?_
    exact W.widen (Nat.le_of_ble_eq_true rfl) (Nat.le_of_ble_eq_true rfl) (W.iret hx hb hr (fun t ht hW => ⟨⟨0, (ad1, sy_up g1 90 0 r, q1), rfl, Or.inl ⟨by rw [← hp], rfl, had, by rw [← hp], by rw [← hp]⟩, hE.next hS ht hW.alike, fun _ => by rw [ht]; exact hP, fun z => absurd (by rw [← hp]) z⟩, hS.F ht⟩) hS.2.2 dL_thing_28 hlocks)
set_option maxHeartbeats 4000000 in
set_option maxRecDepth 100000 in
theorem mL_fashion (l : Launch) (hfl : l.stackTraces = false) (Z : sZ) (nT nK cT cK : Nat) (ad : Nat → Nat) (g : sG) (q : sQ) (x0 x1 : Int32) (hT : nT ≤ 100) (hG : IG nT nK cT cK g) (hQ : IQ nT nK q) (hC : wf 1 2 9 (fX6_fashion g q x0 x1).1 ≠ 9) : Met l yL_fashion (uW (.codeWith yL_fashion cL_fashion 5 (some .int) [(0, 10, 13, 13), (0, 10, 17, 15)])) { frames := 8, cells := 2, slots := 12, locals := 126 } (va_Pc [.ref (ad 60), .int x0, .int x1, .ref (ad 90)] (sPreL Z nT nK cT cK ad g q)) (sQi Z nT nK cT cK ad (fun r g1 q1 => ((fX6_fashion g q x0 x1).1 = 0 ∧ r = 0 ∧ g1 = sy_up (fX6_fashion g q x0 x1).2.2.1 90 0 (fX6_fashion g q x0 x1).2.1 ∧ q1 = (fX6_fashion g q x0 x1).2.2.2) ∨ ((fX6_fashion g q x0 x1).1 ≠ 0 ∧ r = wf 1 2 9 (fX6_fashion g q x0 x1).1 ∧ g1 = g ∧ q1 = q))) 2 12 (sy_A Z) := by
  refine va_MetW (cc := cL_fashion) (maxL := 5) (ret := some .int) (by decide) rfl ?_
  intro p e s m args below meth c s₁ B hml hv
  obtain ⟨rfl, ⟨hE, hP⟩, hNc⟩ := hv
  have hx := B.exec
  have hb := B.bytes
  have hr := B.returns
  have hts := atoms_spec (ws := uW (.codeWith yL_fashion cL_fashion 5 (some .int) [(0, 10, 13, 13), (0, 10, 17, 15)])) B.pre
  have hown : s.vm.findClass RL = some m.cls := findClass_of_methodNamed B.named
  have hlocks := B.notSynchronized
  have htab := vx_table (x := yL_fashion) B (hts _ List.mem_cons_self)
  have hS : va_S (sy_A Z) s.heap s.heap [] := va_S.rf
  have hl := lv_entry ([.ref (ad 60), .int x0, .int x1, .ref (ad 90)]) (n := 5) (Nat.le_of_ble_eq_true rfl)
  rw [lg_entry_eq]
  generalize (lg_sl ([.ref (ad 60), .int x0, .int x1, .ref (ad 90)]) ++ List.replicate (5 - (lg_sl ([.ref (ad 60), .int x0, .int x1, .ref (ad 90)])).length) Slot.unset).toArray = ls at hl ⊢
  have hl : lv_has ls 5 [(0, .ref (ad 60)), (1, .int x0), (2, .int x1), (3, .ref (ad 90))] := hl
  refine lv_aload_n hx hb dL_fashion_0 rfl (lv_at hl 3 rfl) ?_
  refine lv_iconst (v := 0) hx hb dL_fashion_1 (by decide) ?_
  refine lv_aload_n hx hb dL_fashion_2 rfl (lv_at hl 0 rfl) ?_
  refine lv_iload_n hx hb dL_fashion_3 rfl (lv_at hl 1 rfl) ?_
  refine lv_iload_n hx hb dL_fashion_4 rfl (lv_at hl 2 rfl) ?_
  refine vx_calli (sy_xV (o := 60) (As := [.int x0, .int x1]) (rest := [.int 0, .ref (ad 90)]) ⟨hx, hb, hml, hown, hts⟩ hE hP hS (mX6_fashion l hfl Z nT nK cT cK ad g q x0 x1 hT hG hQ) (cwV 2 hts (gu_V uk_2_189 uk_2_190 uk_2_191 uk_1_1 uk_2_192) rfl rfl rfl (by decide +kernel) ⟨Nat.le_of_ble_eq_true rfl, Nat.le_of_ble_eq_true rfl⟩) (sy_recv (kc := 7) hE hP rfl (by decide) rfl rfl rfl) rfl hl.1 rfl (Nat.le_of_ble_eq_true rfl) dL_fashion_5 ⟨Nat.le_of_ble_eq_true rfl, Nat.le_of_ble_eq_true rfl⟩) hS (fun _ _ h => h) (fun _ h => h) (fun _ _ h => h) (fun E ce q9 u t H locs ht _ hpu hB _ _ hS hcell hv hcl => ?_) (fun r u t H locs ht _ hp hB _ _ hS => ?_)
  · obtain ⟨rfl, -, hB⟩ := hB
    rw [ht] at hB
    have hC9 := hC
    rw [← hpu] at hC9
    rcases exc_c hC9 with ⟨rfl, hc, h9⟩ | ⟨rfl, hc, h9⟩ | ⟨rfl, hc, h9⟩
    · refine vx_catch (own := RL) (name := "java/lang/IndexOutOfBoundsException") hown ([] : List ExceptionTableEntry) (⟨0, 10, 13, 13⟩ : ExceptionTableEntry) [⟨0, 10, 17, 15⟩] (htab.trans rfl) (fun z hz => nomatch hz) rfl (by decide) (hts _ (u_in uk_1_199)) (va_Nw.use rfl (hE.2.2.2.2.2 _ un_1_211)) hcell hv hcl ?_
      refine lv_astore (lv' := [(4, .ref q9), (0, .ref (ad 60)), (1, .int x0), (2, .int x1), (3, .ref (ad 90))]) hx hb dL_fashion_13 hl (by decide) rfl (fun ls hl => ?_)
      refine lv_iconst (v := 1) hx hb dL_fashion_15 (by decide) ?_
      exact sy_ireti hx hb hr hlocks hE hB hS dL_fashion_16 ⟨Nat.le_of_ble_eq_true rfl, Nat.le_of_ble_eq_true rfl⟩ (Or.inr ⟨by rw [← hpu]; decide, by rw [← hpu]; rfl, rfl, rfl⟩)
    · refine vx_catch (own := RL) (name := "java/lang/IllegalArgumentException") hown ([⟨0, 10, 13, 13⟩] : List ExceptionTableEntry) (⟨0, 10, 17, 15⟩ : ExceptionTableEntry) [] (htab.trans rfl) (fun z hz => by
            rcases List.mem_cons.mp hz with rfl | hz
            · exact Or.inr ⟨by decide, "java/lang/IndexOutOfBoundsException", hts _ (u_in uk_1_199), hNc.1⟩
            · cases hz) rfl (by decide) (hts _ (u_in uk_1_200)) (va_Nw.use rfl (hE.2.2.2.2.2 _ un_2_37)) hcell hv hcl ?_
      refine lv_astore (lv' := [(4, .ref q9), (0, .ref (ad 60)), (1, .int x0), (2, .int x1), (3, .ref (ad 90))]) hx hb dL_fashion_17 hl (by decide) rfl (fun ls hl => ?_)
      refine lv_iconst (v := 2) hx hb dL_fashion_19 (by decide) ?_
      exact sy_ireti hx hb hr hlocks hE hB hS dL_fashion_20 ⟨Nat.le_of_ble_eq_true rfl, Nat.le_of_ble_eq_true rfl⟩ (Or.inr ⟨by rw [← hpu]; decide, by rw [← hpu]; rfl, rfl, rfl⟩)
    · exact absurd rfl h9
  · skip
    obtain ⟨g1, q1⟩ := u
    have hP := hB.2
    rw [ht] at hP
    dsimp only at hp hP
    refine lv_i2l hx hb dL_fashion_8 rfl ?_
    refine sy_last hx hb hE hP hS 90 rfl (i := 0) (k_in rfl) dL_fashion_9 (fun H locs hP hS => ?_)
    refine lv_goto (tgt := 21) hx hb dL_fashion_10 (by decide) ?_
    refine lv_iconst (v := 0) hx hb dL_fashion_21 (by decide) ?_
    exact sy_ireti hx hb hr hlocks hE hP hS dL_fashion_22 ⟨Nat.le_of_ble_eq_true rfl, Nat.le_of_ble_eq_true rfl⟩ (Or.inl ⟨by rw [← hp], rfl, by rw [← hp]; rfl, by rw [← hp]⟩)
set_option maxHeartbeats 4000000 in
set_option maxRecDepth 100000 in
theorem mL_bias (l : Launch) (hfl : l.stackTraces = false) (Z : sZ) (nT nK cT cK : Nat) (ad : Nat → Nat) (g : sG) (q : sQ) (x0 x1 : Int32) (hT : nT ≤ 100) (hG : IG nT nK cT cK g) (hQ : IQ nT nK q) (hC : wf 1 2 9 (fX6_bias g q x0 x1).1 ≠ 9) : Met l yL_bias (uW (.codeWith yL_bias cL_bias 5 (some .int) [(0, 10, 13, 13), (0, 10, 17, 15)])) { frames := 8, cells := 2, slots := 12, locals := 126 } (va_Pc [.ref (ad 60), .int x0, .int x1, .ref (ad 90)] (sPreL Z nT nK cT cK ad g q)) (sQi Z nT nK cT cK ad (fun r g1 q1 => ((fX6_bias g q x0 x1).1 = 0 ∧ r = 0 ∧ g1 = sy_up (fX6_bias g q x0 x1).2.2.1 90 0 (fX6_bias g q x0 x1).2.1 ∧ q1 = (fX6_bias g q x0 x1).2.2.2) ∨ ((fX6_bias g q x0 x1).1 ≠ 0 ∧ r = wf 1 2 9 (fX6_bias g q x0 x1).1 ∧ g1 = g ∧ q1 = q))) 2 12 (sy_A Z) := by
  refine va_MetW (cc := cL_bias) (maxL := 5) (ret := some .int) (by decide) rfl ?_
  intro p e s m args below meth c s₁ B hml hv
  obtain ⟨rfl, ⟨hE, hP⟩, hNc⟩ := hv
  have hx := B.exec
  have hb := B.bytes
  have hr := B.returns
  have hts := atoms_spec (ws := uW (.codeWith yL_bias cL_bias 5 (some .int) [(0, 10, 13, 13), (0, 10, 17, 15)])) B.pre
  have hown : s.vm.findClass RL = some m.cls := findClass_of_methodNamed B.named
  have hlocks := B.notSynchronized
  have htab := vx_table (x := yL_bias) B (hts _ List.mem_cons_self)
  have hS : va_S (sy_A Z) s.heap s.heap [] := va_S.rf
  have hl := lv_entry ([.ref (ad 60), .int x0, .int x1, .ref (ad 90)]) (n := 5) (Nat.le_of_ble_eq_true rfl)
  rw [lg_entry_eq]
  generalize (lg_sl ([.ref (ad 60), .int x0, .int x1, .ref (ad 90)]) ++ List.replicate (5 - (lg_sl ([.ref (ad 60), .int x0, .int x1, .ref (ad 90)])).length) Slot.unset).toArray = ls at hl ⊢
  have hl : lv_has ls 5 [(0, .ref (ad 60)), (1, .int x0), (2, .int x1), (3, .ref (ad 90))] := hl
  refine lv_aload_n hx hb dL_bias_0 rfl (lv_at hl 3 rfl) ?_
  refine lv_iconst (v := 0) hx hb dL_bias_1 (by decide) ?_
  refine lv_aload_n hx hb dL_bias_2 rfl (lv_at hl 0 rfl) ?_
  refine lv_iload_n hx hb dL_bias_3 rfl (lv_at hl 1 rfl) ?_
  refine lv_iload_n hx hb dL_bias_4 rfl (lv_at hl 2 rfl) ?_
  refine vx_calli (sy_xV (o := 60) (As := [.int x0, .int x1]) (rest := [.int 0, .ref (ad 90)]) ⟨hx, hb, hml, hown, hts⟩ hE hP hS (mX6_bias l hfl Z nT nK cT cK ad g q x0 x1 hT hG hQ) (cwV 2 hts (gu_V uk_2_196 uk_2_197 uk_2_198 uk_1_1 uk_2_199) rfl rfl rfl (by decide +kernel) ⟨Nat.le_of_ble_eq_true rfl, Nat.le_of_ble_eq_true rfl⟩) (sy_recv (kc := 7) hE hP rfl (by decide) rfl rfl rfl) rfl hl.1 rfl (Nat.le_of_ble_eq_true rfl) dL_bias_5 ⟨Nat.le_of_ble_eq_true rfl, Nat.le_of_ble_eq_true rfl⟩) hS (fun _ _ h => h) (fun _ h => h) (fun _ _ h => h) (fun E ce q9 u t H locs ht _ hpu hB _ _ hS hcell hv hcl => ?_) (fun r u t H locs ht _ hp hB _ _ hS => ?_)
  · obtain ⟨rfl, -, hB⟩ := hB
    rw [ht] at hB
    have hC9 := hC
    rw [← hpu] at hC9
    rcases exc_c hC9 with ⟨rfl, hc, h9⟩ | ⟨rfl, hc, h9⟩ | ⟨rfl, hc, h9⟩
    · refine vx_catch (own := RL) (name := "java/lang/IndexOutOfBoundsException") hown ([] : List ExceptionTableEntry) (⟨0, 10, 13, 13⟩ : ExceptionTableEntry) [⟨0, 10, 17, 15⟩] (htab.trans rfl) (fun z hz => nomatch hz) rfl (by decide) (hts _ (u_in uk_1_199)) (va_Nw.use rfl (hE.2.2.2.2.2 _ un_1_211)) hcell hv hcl ?_
      refine lv_astore (lv' := [(4, .ref q9), (0, .ref (ad 60)), (1, .int x0), (2, .int x1), (3, .ref (ad 90))]) hx hb dL_bias_13 hl (by decide) rfl (fun ls hl => ?_)
      refine lv_iconst (v := 1) hx hb dL_bias_15 (by decide) ?_
      exact sy_ireti hx hb hr hlocks hE hB hS dL_bias_16 ⟨Nat.le_of_ble_eq_true rfl, Nat.le_of_ble_eq_true rfl⟩ (Or.inr ⟨by rw [← hpu]; decide, by rw [← hpu]; rfl, rfl, rfl⟩)
    · refine vx_catch (own := RL) (name := "java/lang/IllegalArgumentException") hown ([⟨0, 10, 13, 13⟩] : List ExceptionTableEntry) (⟨0, 10, 17, 15⟩ : ExceptionTableEntry) [] (htab.trans rfl) (fun z hz => by
            rcases List.mem_cons.mp hz with rfl | hz
            · exact Or.inr ⟨by decide, "java/lang/IndexOutOfBoundsException", hts _ (u_in uk_1_199), hNc.1⟩
            · cases hz) rfl (by decide) (hts _ (u_in uk_1_200)) (va_Nw.use rfl (hE.2.2.2.2.2 _ un_2_37)) hcell hv hcl ?_
      refine lv_astore (lv' := [(4, .ref q9), (0, .ref (ad 60)), (1, .int x0), (2, .int x1), (3, .ref (ad 90))]) hx hb dL_bias_17 hl (by decide) rfl (fun ls hl => ?_)
      refine lv_iconst (v := 2) hx hb dL_bias_19 (by decide) ?_
      exact sy_ireti hx hb hr hlocks hE hB hS dL_bias_20 ⟨Nat.le_of_ble_eq_true rfl, Nat.le_of_ble_eq_true rfl⟩ (Or.inr ⟨by rw [← hpu]; decide, by rw [← hpu]; rfl, rfl, rfl⟩)
    · exact absurd rfl h9
  · skip
    obtain ⟨g1, q1⟩ := u
    have hP := hB.2
    rw [ht] at hP
    dsimp only at hp hP
    refine lv_i2l hx hb dL_bias_8 rfl ?_
    refine sy_last hx hb hE hP hS 90 rfl (i := 0) (k_in rfl) dL_bias_9 (fun H locs hP hS => ?_)
    refine lv_goto (tgt := 21) hx hb dL_bias_10 (by decide) ?_
    refine lv_iconst (v := 0) hx hb dL_bias_21 (by decide) ?_
    exact sy_ireti hx hb hr hlocks hE hP hS dL_bias_22 ⟨Nat.le_of_ble_eq_true rfl, Nat.le_of_ble_eq_true rfl⟩ (Or.inl ⟨by rw [← hp], rfl, by rw [← hp]; rfl, by rw [← hp]⟩)
set_option maxHeartbeats 4000000 in
set_option maxRecDepth 100000 in
theorem mL_classOf (l : Launch) (hfl : l.stackTraces = false) (Z : sZ) (nT nK cT cK : Nat) (ad : Nat → Nat) (g : sG) (q : sQ) (x0 x1 : Int32) (hT : nT ≤ 100) (hG : IG nT nK cT cK g) (hQ : IQ nT nK q) (hC : wf 1 9 9 (fX6_classOf g q x0 x1).1 ≠ 9) : Met l yL_classOf (uW (.codeWith yL_classOf cL_classOf 5 (some .int) [(0, 10, 13, 13)])) { frames := 8, cells := 2, slots := 12, locals := 125 } (va_Pc [.ref (ad 60), .int x0, .int x1, .ref (ad 90)] (sPreL Z nT nK cT cK ad g q)) (sQi Z nT nK cT cK ad (fun r g1 q1 => ((fX6_classOf g q x0 x1).1 = 0 ∧ r = 0 ∧ g1 = sy_up (fX6_classOf g q x0 x1).2.2.1 90 0 (fX6_classOf g q x0 x1).2.1 ∧ q1 = (fX6_classOf g q x0 x1).2.2.2) ∨ ((fX6_classOf g q x0 x1).1 ≠ 0 ∧ r = wf 1 9 9 (fX6_classOf g q x0 x1).1 ∧ g1 = g ∧ q1 = q))) 2 12 (sy_A Z) := by
  refine va_MetW (cc := cL_classOf) (maxL := 5) (ret := some .int) (by decide) rfl ?_
  intro p e s m args below meth c s₁ B hml hv
  obtain ⟨rfl, ⟨hE, hP⟩, hNc⟩ := hv
  have hx := B.exec
  have hb := B.bytes
  have hr := B.returns
  have hts := atoms_spec (ws := uW (.codeWith yL_classOf cL_classOf 5 (some .int) [(0, 10, 13, 13)])) B.pre
  have hown : s.vm.findClass RL = some m.cls := findClass_of_methodNamed B.named
  have hlocks := B.notSynchronized
  have htab := vx_table (x := yL_classOf) B (hts _ List.mem_cons_self)
  have hS : va_S (sy_A Z) s.heap s.heap [] := va_S.rf
  have hl := lv_entry ([.ref (ad 60), .int x0, .int x1, .ref (ad 90)]) (n := 5) (Nat.le_of_ble_eq_true rfl)
  rw [lg_entry_eq]
  generalize (lg_sl ([.ref (ad 60), .int x0, .int x1, .ref (ad 90)]) ++ List.replicate (5 - (lg_sl ([.ref (ad 60), .int x0, .int x1, .ref (ad 90)])).length) Slot.unset).toArray = ls at hl ⊢
  have hl : lv_has ls 5 [(0, .ref (ad 60)), (1, .int x0), (2, .int x1), (3, .ref (ad 90))] := hl
  refine lv_aload_n hx hb dL_classOf_0 rfl (lv_at hl 3 rfl) ?_
  refine lv_iconst (v := 0) hx hb dL_classOf_1 (by decide) ?_
  refine lv_aload_n hx hb dL_classOf_2 rfl (lv_at hl 0 rfl) ?_
  refine lv_iload_n hx hb dL_classOf_3 rfl (lv_at hl 1 rfl) ?_
  refine lv_iload_n hx hb dL_classOf_4 rfl (lv_at hl 2 rfl) ?_
  refine vx_calli (sy_xV (o := 60) (As := [.int x0, .int x1]) (rest := [.int 0, .ref (ad 90)]) ⟨hx, hb, hml, hown, hts⟩ hE hP hS (mX6_classOf l hfl Z nT nK cT cK ad g q x0 x1 hT hG hQ) (cwV 2 hts (gu_V uk_2_203 uk_2_204 uk_2_205 uk_1_1 uk_2_206) rfl rfl rfl (by decide +kernel) ⟨Nat.le_of_ble_eq_true rfl, Nat.le_of_ble_eq_true rfl⟩) (sy_recv (kc := 7) hE hP rfl (by decide) rfl rfl rfl) rfl hl.1 rfl (Nat.le_of_ble_eq_true rfl) dL_classOf_5 ⟨Nat.le_of_ble_eq_true rfl, Nat.le_of_ble_eq_true rfl⟩) hS (fun _ _ h => h) (fun _ h => h) (fun _ _ h => h) (fun E ce q9 u t H locs ht _ hpu hB _ _ hS hcell hv hcl => ?_) (fun r u t H locs ht _ hp hB _ _ hS => ?_)
  · obtain ⟨rfl, -, hB⟩ := hB
    rw [ht] at hB
    have hC9 := hC
    rw [← hpu] at hC9
    rcases exc_c hC9 with ⟨rfl, hc, h9⟩ | ⟨rfl, hc, h9⟩ | ⟨rfl, hc, h9⟩
    · refine vx_catch (own := RL) (name := "java/lang/IndexOutOfBoundsException") hown ([] : List ExceptionTableEntry) (⟨0, 10, 13, 13⟩ : ExceptionTableEntry) [] (htab.trans rfl) (fun z hz => nomatch hz) rfl (by decide) (hts _ (u_in uk_1_199)) (va_Nw.use rfl (hE.2.2.2.2.2 _ un_1_211)) hcell hv hcl ?_
      refine lv_astore (lv' := [(4, .ref q9), (0, .ref (ad 60)), (1, .int x0), (2, .int x1), (3, .ref (ad 90))]) hx hb dL_classOf_13 hl (by decide) rfl (fun ls hl => ?_)
      refine lv_iconst (v := 1) hx hb dL_classOf_15 (by decide) ?_
      exact sy_ireti hx hb hr hlocks hE hB hS dL_classOf_16 ⟨Nat.le_of_ble_eq_true rfl, Nat.le_of_ble_eq_true rfl⟩ (Or.inr ⟨by rw [← hpu]; decide, by rw [← hpu]; rfl, rfl, rfl⟩)
    · exact absurd rfl h9
    · exact absurd rfl h9
  · skip
    obtain ⟨g1, q1⟩ := u
    have hP := hB.2
    rw [ht] at hP
    dsimp only at hp hP
    refine lv_i2l hx hb dL_classOf_8 rfl ?_
    refine sy_last hx hb hE hP hS 90 rfl (i := 0) (k_in rfl) dL_classOf_9 (fun H locs hP hS => ?_)
    refine lv_goto (tgt := 17) hx hb dL_classOf_10 (by decide) ?_
    refine lv_iconst (v := 0) hx hb dL_classOf_17 (by decide) ?_
    exact sy_ireti hx hb hr hlocks hE hP hS dL_classOf_18 ⟨Nat.le_of_ble_eq_true rfl, Nat.le_of_ble_eq_true rfl⟩ (Or.inl ⟨by rw [← hp], rfl, by rw [← hp]; rfl, by rw [← hp]⟩)
set_option maxHeartbeats 4000000 in
set_option maxRecDepth 100000 in
theorem mL_charter (l : Launch) (hfl : l.stackTraces = false) (Z : sZ) (nT nK cT cK : Nat) (ad : Nat → Nat) (g : sG) (q : sQ) (x0 x1 x2 : Int32) (hT : nT ≤ 100) (hG : IG nT nK cT cK g) (hQ : IQ nT nK q) (hC : wf 1 2 9 (fX6_charter g q x0 x1 x2).1 ≠ 9) : Met l yL_charter (uW (.codeWith yL_charter cL_charter 5 (some .int) [(0, 7, 10, 13), (0, 7, 14, 15)])) { frames := 8, cells := 3, slots := 18, locals := 126 } (va_Pc [.ref (ad 60), .int x0, .int x1, .int x2] (sPreL Z nT nK cT cK ad g q)) (sQi Z nT nK cT cK ad (fun r g1 q1 => ((fX6_charter g q x0 x1 x2).1 = 0 ∧ r = 0 ∧ g1 = (fX6_charter g q x0 x1 x2).2.1 ∧ q1 = (fX6_charter g q x0 x1 x2).2.2) ∨ ((fX6_charter g q x0 x1 x2).1 ≠ 0 ∧ r = wf 1 2 9 (fX6_charter g q x0 x1 x2).1 ∧ g1 = g ∧ q1 = q))) 3 18 (sy_A Z) := by
  refine va_MetW (cc := cL_charter) (maxL := 5) (ret := some .int) (by decide) rfl ?_
  intro p e s m args below meth c s₁ B hml hv
  obtain ⟨rfl, ⟨hE, hP⟩, hNc⟩ := hv
  have hx := B.exec
  have hb := B.bytes
  have hr := B.returns
  have hts := atoms_spec (ws := uW (.codeWith yL_charter cL_charter 5 (some .int) [(0, 7, 10, 13), (0, 7, 14, 15)])) B.pre
  have hown : s.vm.findClass RL = some m.cls := findClass_of_methodNamed B.named
  have hlocks := B.notSynchronized
  have htab := vx_table (x := yL_charter) B (hts _ List.mem_cons_self)
  have hS : va_S (sy_A Z) s.heap s.heap [] := va_S.rf
  have hl := lv_entry ([.ref (ad 60), .int x0, .int x1, .int x2]) (n := 5) (Nat.le_of_ble_eq_true rfl)
  rw [lg_entry_eq]
  generalize (lg_sl ([.ref (ad 60), .int x0, .int x1, .int x2]) ++ List.replicate (5 - (lg_sl ([.ref (ad 60), .int x0, .int x1, .int x2])).length) Slot.unset).toArray = ls at hl ⊢
  have hl : lv_has ls 5 [(0, .ref (ad 60)), (1, .int x0), (2, .int x1), (3, .int x2)] := hl
  refine lv_aload_n hx hb dL_charter_0 rfl (lv_at hl 0 rfl) ?_
  refine lv_iload_n hx hb dL_charter_1 rfl (lv_at hl 1 rfl) ?_
  refine lv_iload_n hx hb dL_charter_2 rfl (lv_at hl 2 rfl) ?_
  refine lv_iload_n hx hb dL_charter_3 rfl (lv_at hl 3 rfl) ?_
  refine vx_callv (sy_xV (o := 60) (As := [.int x0, .int x1, .int x2]) (rest := []) ⟨hx, hb, hml, hown, hts⟩ hE hP hS (mX6_charter l hfl Z nT nK cT cK ad g q x0 x1 x2 hT hG hQ) (cwV 3 hts (gu_V uk_2_210 uk_2_211 uk_2_212 uk_1_1 uk_2_213) rfl rfl rfl (by decide +kernel) ⟨Nat.le_of_ble_eq_true rfl, Nat.le_of_ble_eq_true rfl⟩) (sy_recv (kc := 7) hE hP rfl (by decide) rfl rfl rfl) rfl hl.1 rfl (Nat.le_of_ble_eq_true rfl) dL_charter_4 ⟨Nat.le_of_ble_eq_true rfl, Nat.le_of_ble_eq_true rfl⟩) hS (fun _ _ h => h) (fun _ h => h) (fun _ _ h => h) (fun E ce q9 u t H locs ht _ hpu hB _ _ hS hcell hv hcl => ?_) (fun u t H locs ht _ hp hB _ _ hS => ?_)
  · obtain ⟨rfl, -, hB⟩ := hB
    rw [ht] at hB
    have hC9 := hC
    rw [← hpu] at hC9
    rcases exc_c hC9 with ⟨rfl, hc, h9⟩ | ⟨rfl, hc, h9⟩ | ⟨rfl, hc, h9⟩
    · refine vx_catch (own := RL) (name := "java/lang/IndexOutOfBoundsException") hown ([] : List ExceptionTableEntry) (⟨0, 7, 10, 13⟩ : ExceptionTableEntry) [⟨0, 7, 14, 15⟩] (htab.trans rfl) (fun z hz => nomatch hz) rfl (by decide) (hts _ (u_in uk_1_199)) (va_Nw.use rfl (hE.2.2.2.2.2 _ un_1_211)) hcell hv hcl ?_
      refine lv_astore (lv' := [(4, .ref q9), (0, .ref (ad 60)), (1, .int x0), (2, .int x1), (3, .int x2)]) hx hb dL_charter_10 hl (by decide) rfl (fun ls hl => ?_)
      refine lv_iconst (v := 1) hx hb dL_charter_12 (by decide) ?_
      exact sy_ireti hx hb hr hlocks hE hB hS dL_charter_13 ⟨Nat.le_of_ble_eq_true rfl, Nat.le_of_ble_eq_true rfl⟩ (Or.inr ⟨by rw [← hpu]; decide, by rw [← hpu]; rfl, rfl, rfl⟩)
    · refine vx_catch (own := RL) (name := "java/lang/IllegalArgumentException") hown ([⟨0, 7, 10, 13⟩] : List ExceptionTableEntry) (⟨0, 7, 14, 15⟩ : ExceptionTableEntry) [] (htab.trans rfl) (fun z hz => by
            rcases List.mem_cons.mp hz with rfl | hz
            · exact Or.inr ⟨by decide, "java/lang/IndexOutOfBoundsException", hts _ (u_in uk_1_199), hNc.1⟩
            · cases hz) rfl (by decide) (hts _ (u_in uk_1_200)) (va_Nw.use rfl (hE.2.2.2.2.2 _ un_2_37)) hcell hv hcl ?_
      refine lv_astore (lv' := [(4, .ref q9), (0, .ref (ad 60)), (1, .int x0), (2, .int x1), (3, .int x2)]) hx hb dL_charter_14 hl (by decide) rfl (fun ls hl => ?_)
      refine lv_iconst (v := 2) hx hb dL_charter_16 (by decide) ?_
      exact sy_ireti hx hb hr hlocks hE hB hS dL_charter_17 ⟨Nat.le_of_ble_eq_true rfl, Nat.le_of_ble_eq_true rfl⟩ (Or.inr ⟨by rw [← hpu]; decide, by rw [← hpu]; rfl, rfl, rfl⟩)
    · exact absurd rfl h9
  · skip
    obtain ⟨g1, q1⟩ := u
    have hP := hB.2
    rw [ht] at hP
    dsimp only at hp hP
    refine lv_goto (tgt := 18) hx hb dL_charter_7 (by decide) ?_
    refine lv_iconst (v := 0) hx hb dL_charter_18 (by decide) ?_
    exact sy_ireti hx hb hr hlocks hE hP hS dL_charter_19 ⟨Nat.le_of_ble_eq_true rfl, Nat.le_of_ble_eq_true rfl⟩ (Or.inl ⟨by rw [← hp], rfl, by rw [← hp], by rw [← hp]⟩)
set_option maxHeartbeats 4000000 in
set_option maxRecDepth 100000 in
theorem mL_rate (l : Launch) (hfl : l.stackTraces = false) (Z : sZ) (nT nK cT cK : Nat) (ad : Nat → Nat) (g : sG) (q : sQ) (x0 x1 : Int32) (hT : nT ≤ 100) (hG : IG nT nK cT cK g) (hQ : IQ nT nK q) (hC : wf 1 2 3 (fX6_rate g q x0 x1).1 ≠ 9) : Met l yL_rate (uW (.codeWith yL_rate cL_rate 5 (some .int) [(0, 10, 13, 13), (0, 10, 17, 15), (0, 10, 21, 17)])) { frames := 8, cells := 3, slots := 18, locals := 126 } (va_Pc [.ref (ad 60), .int x0, .int x1, .ref (ad 90)] (sPreL Z nT nK cT cK ad g q)) (sQi Z nT nK cT cK ad (fun r g1 q1 => ((fX6_rate g q x0 x1).1 = 0 ∧ r = 0 ∧ g1 = sy_up (fX6_rate g q x0 x1).2.2.1 90 0 (fX6_rate g q x0 x1).2.1 ∧ q1 = (fX6_rate g q x0 x1).2.2.2) ∨ ((fX6_rate g q x0 x1).1 ≠ 0 ∧ r = wf 1 2 3 (fX6_rate g q x0 x1).1 ∧ g1 = g ∧ q1 = q))) 3 18 (sy_A Z) := by
  refine va_MetW (cc := cL_rate) (maxL := 5) (ret := some .int) (by decide) rfl ?_
  intro p e s m args below meth c s₁ B hml hv
  obtain ⟨rfl, ⟨hE, hP⟩, hNc⟩ := hv
  have hx := B.exec
  have hb := B.bytes
  have hr := B.returns
  have hts := atoms_spec (ws := uW (.codeWith yL_rate cL_rate 5 (some .int) [(0, 10, 13, 13), (0, 10, 17, 15), (0, 10, 21, 17)])) B.pre
  have hown : s.vm.findClass RL = some m.cls := findClass_of_methodNamed B.named
  have hlocks := B.notSynchronized
  have htab := vx_table (x := yL_rate) B (hts _ List.mem_cons_self)
  have hS : va_S (sy_A Z) s.heap s.heap [] := va_S.rf
  have hl := lv_entry ([.ref (ad 60), .int x0, .int x1, .ref (ad 90)]) (n := 5) (Nat.le_of_ble_eq_true rfl)
  rw [lg_entry_eq]
  generalize (lg_sl ([.ref (ad 60), .int x0, .int x1, .ref (ad 90)]) ++ List.replicate (5 - (lg_sl ([.ref (ad 60), .int x0, .int x1, .ref (ad 90)])).length) Slot.unset).toArray = ls at hl ⊢
  have hl : lv_has ls 5 [(0, .ref (ad 60)), (1, .int x0), (2, .int x1), (3, .ref (ad 90))] := hl
  refine lv_aload_n hx hb dL_rate_0 rfl (lv_at hl 3 rfl) ?_
  refine lv_iconst (v := 0) hx hb dL_rate_1 (by decide) ?_
  refine lv_aload_n hx hb dL_rate_2 rfl (lv_at hl 0 rfl) ?_
  refine lv_iload_n hx hb dL_rate_3 rfl (lv_at hl 1 rfl) ?_
  refine lv_iload_n hx hb dL_rate_4 rfl (lv_at hl 2 rfl) ?_
  refine vx_calli (sy_xV (o := 60) (As := [.int x0, .int x1]) (rest := [.int 0, .ref (ad 90)]) ⟨hx, hb, hml, hown, hts⟩ hE hP hS (mX6_rate l hfl Z nT nK cT cK ad g q x0 x1 hT hG hQ) (cwV 2 hts (gu_V uk_2_218 uk_2_219 uk_2_220 uk_1_1 uk_2_221) rfl rfl rfl (by decide +kernel) ⟨Nat.le_of_ble_eq_true rfl, Nat.le_of_ble_eq_true rfl⟩) (sy_recv (kc := 7) hE hP rfl (by decide) rfl rfl rfl) rfl hl.1 rfl (Nat.le_of_ble_eq_true rfl) dL_rate_5 ⟨Nat.le_of_ble_eq_true rfl, Nat.le_of_ble_eq_true rfl⟩) hS (fun _ _ h => h) (fun _ h => h) (fun _ _ h => h) (fun E ce q9 u t H locs ht _ hpu hB _ _ hS hcell hv hcl => ?_) (fun r u t H locs ht _ hp hB _ _ hS => ?_)
  · obtain ⟨rfl, -, hB⟩ := hB
    rw [ht] at hB
    have hC9 := hC
    rw [← hpu] at hC9
    rcases exc_c hC9 with ⟨rfl, hc, h9⟩ | ⟨rfl, hc, h9⟩ | ⟨rfl, hc, h9⟩
    · refine vx_catch (own := RL) (name := "java/lang/IndexOutOfBoundsException") hown ([] : List ExceptionTableEntry) (⟨0, 10, 13, 13⟩ : ExceptionTableEntry) [⟨0, 10, 17, 15⟩, ⟨0, 10, 21, 17⟩] (htab.trans rfl) (fun z hz => nomatch hz) rfl (by decide) (hts _ (u_in uk_1_199)) (va_Nw.use rfl (hE.2.2.2.2.2 _ un_1_211)) hcell hv hcl ?_
      refine lv_astore (lv' := [(4, .ref q9), (0, .ref (ad 60)), (1, .int x0), (2, .int x1), (3, .ref (ad 90))]) hx hb dL_rate_13 hl (by decide) rfl (fun ls hl => ?_)
      refine lv_iconst (v := 1) hx hb dL_rate_15 (by decide) ?_
      exact sy_ireti hx hb hr hlocks hE hB hS dL_rate_16 ⟨Nat.le_of_ble_eq_true rfl, Nat.le_of_ble_eq_true rfl⟩ (Or.inr ⟨by rw [← hpu]; decide, by rw [← hpu]; rfl, rfl, rfl⟩)
    · refine vx_catch (own := RL) (name := "java/lang/IllegalArgumentException") hown ([⟨0, 10, 13, 13⟩] : List ExceptionTableEntry) (⟨0, 10, 17, 15⟩ : ExceptionTableEntry) [⟨0, 10, 21, 17⟩] (htab.trans rfl) (fun z hz => by
            rcases List.mem_cons.mp hz with rfl | hz
            · exact Or.inr ⟨by decide, "java/lang/IndexOutOfBoundsException", hts _ (u_in uk_1_199), hNc.1⟩
            · cases hz) rfl (by decide) (hts _ (u_in uk_1_200)) (va_Nw.use rfl (hE.2.2.2.2.2 _ un_2_37)) hcell hv hcl ?_
      refine lv_astore (lv' := [(4, .ref q9), (0, .ref (ad 60)), (1, .int x0), (2, .int x1), (3, .ref (ad 90))]) hx hb dL_rate_17 hl (by decide) rfl (fun ls hl => ?_)
      refine lv_iconst (v := 2) hx hb dL_rate_19 (by decide) ?_
      exact sy_ireti hx hb hr hlocks hE hB hS dL_rate_20 ⟨Nat.le_of_ble_eq_true rfl, Nat.le_of_ble_eq_true rfl⟩ (Or.inr ⟨by rw [← hpu]; decide, by rw [← hpu]; rfl, rfl, rfl⟩)
    · refine vx_catch (own := RL) (name := "java/lang/IllegalStateException") hown ([⟨0, 10, 13, 13⟩, ⟨0, 10, 17, 15⟩] : List ExceptionTableEntry) (⟨0, 10, 21, 17⟩ : ExceptionTableEntry) [] (htab.trans rfl) (fun z hz => by
            rcases List.mem_cons.mp hz with rfl | hz
            · exact Or.inr ⟨by decide, "java/lang/IndexOutOfBoundsException", hts _ (u_in uk_1_199), hNc.2.1⟩
            · rcases List.mem_cons.mp hz with rfl | hz
              · exact Or.inr ⟨by decide, "java/lang/IllegalArgumentException", hts _ (u_in uk_1_200), hNc.2.2⟩
              · cases hz) rfl (by decide) (hts _ (u_in uk_1_201)) (va_Nw.use rfl (hE.2.2.2.2.2 _ un_2_59)) hcell hv hcl ?_
      refine lv_astore (lv' := [(4, .ref q9), (0, .ref (ad 60)), (1, .int x0), (2, .int x1), (3, .ref (ad 90))]) hx hb dL_rate_21 hl (by decide) rfl (fun ls hl => ?_)
      refine lv_iconst (v := 3) hx hb dL_rate_23 (by decide) ?_
      exact sy_ireti hx hb hr hlocks hE hB hS dL_rate_24 ⟨Nat.le_of_ble_eq_true rfl, Nat.le_of_ble_eq_true rfl⟩ (Or.inr ⟨by rw [← hpu]; decide, by rw [← hpu]; rfl, rfl, rfl⟩)
  · skip
    obtain ⟨g1, q1⟩ := u
    have hP := hB.2
    rw [ht] at hP
    dsimp only at hp hP
    refine lv_i2l hx hb dL_rate_8 rfl ?_
    refine sy_last hx hb hE hP hS 90 rfl (i := 0) (k_in rfl) dL_rate_9 (fun H locs hP hS => ?_)
    refine lv_goto (tgt := 25) hx hb dL_rate_10 (by decide) ?_
    refine lv_iconst (v := 0) hx hb dL_rate_25 (by decide) ?_
    exact sy_ireti hx hb hr hlocks hE hP hS dL_rate_26 ⟨Nat.le_of_ble_eq_true rfl, Nat.le_of_ble_eq_true rfl⟩ (Or.inl ⟨by rw [← hp], rfl, by rw [← hp]; rfl, by rw [← hp]⟩)
set_option maxHeartbeats 4000000 in
set_option maxRecDepth 100000 in
theorem mL_term (l : Launch) (hfl : l.stackTraces = false) (Z : sZ) (nT nK cT cK : Nat) (ad : Nat → Nat) (g : sG) (q : sQ) (x0 : Int32) (hT : nT ≤ 100) (hG : IG nT nK cT cK g) (hQ : IQ nT nK q) (hC : wf 9 1 9 (fX6_term g q x0).1 ≠ 9) : Met l yL_term (uW (.codeWith yL_term cL_term 4 (some .int) [(0, 9, 12, 15)])) { frames := 8, cells := 1, slots := 6, locals := 125 } (va_Pc [.ref (ad 60), .int x0, .ref (ad 90)] (sPreL Z nT nK cT cK ad g q)) (sQi Z nT nK cT cK ad (fun r g1 q1 => ((fX6_term g q x0).1 = 0 ∧ r = 0 ∧ g1 = sy_up (fX6_term g q x0).2.2.1 90 0 (fX6_term g q x0).2.1 ∧ q1 = (fX6_term g q x0).2.2.2) ∨ ((fX6_term g q x0).1 ≠ 0 ∧ r = wf 9 1 9 (fX6_term g q x0).1 ∧ g1 = g ∧ q1 = q))) 1 6 (sy_A Z) := by
  refine va_MetW (cc := cL_term) (maxL := 4) (ret := some .int) (by decide) rfl ?_
  intro p e s m args below meth c s₁ B hml hv
  obtain ⟨rfl, ⟨hE, hP⟩, hNc⟩ := hv
  have hx := B.exec
  have hb := B.bytes
  have hr := B.returns
  have hts := atoms_spec (ws := uW (.codeWith yL_term cL_term 4 (some .int) [(0, 9, 12, 15)])) B.pre
  have hown : s.vm.findClass RL = some m.cls := findClass_of_methodNamed B.named
  have hlocks := B.notSynchronized
  have htab := vx_table (x := yL_term) B (hts _ List.mem_cons_self)
  have hS : va_S (sy_A Z) s.heap s.heap [] := va_S.rf
  have hl := lv_entry ([.ref (ad 60), .int x0, .ref (ad 90)]) (n := 4) (Nat.le_of_ble_eq_true rfl)
  rw [lg_entry_eq]
  generalize (lg_sl ([.ref (ad 60), .int x0, .ref (ad 90)]) ++ List.replicate (4 - (lg_sl ([.ref (ad 60), .int x0, .ref (ad 90)])).length) Slot.unset).toArray = ls at hl ⊢
  have hl : lv_has ls 4 [(0, .ref (ad 60)), (1, .int x0), (2, .ref (ad 90))] := hl
  refine lv_aload_n hx hb dL_term_0 rfl (lv_at hl 2 rfl) ?_
  refine lv_iconst (v := 0) hx hb dL_term_1 (by decide) ?_
  refine lv_aload_n hx hb dL_term_2 rfl (lv_at hl 0 rfl) ?_
  refine lv_iload_n hx hb dL_term_3 rfl (lv_at hl 1 rfl) ?_
  refine vx_calli (sy_xV (o := 60) (As := [.int x0]) (rest := [.int 0, .ref (ad 90)]) ⟨hx, hb, hml, hown, hts⟩ hE hP hS (mX6_term l hfl Z nT nK cT cK ad g q x0 hT hG hQ) (cwV 1 hts (gu_V uk_3_1 uk_3_2 uk_3_3 uk_1_1 uk_3_4) rfl rfl rfl (by decide +kernel) ⟨Nat.le_of_ble_eq_true rfl, Nat.le_of_ble_eq_true rfl⟩) (sy_recv (kc := 7) hE hP rfl (by decide) rfl rfl rfl) rfl hl.1 rfl (Nat.le_of_ble_eq_true rfl) dL_term_4 ⟨Nat.le_of_ble_eq_true rfl, Nat.le_of_ble_eq_true rfl⟩) hS (fun _ _ h => h) (fun _ h => h) (fun _ _ h => h) (fun E ce q9 u t H locs ht _ hpu hB _ _ hS hcell hv hcl => ?_) (fun r u t H locs ht _ hp hB _ _ hS => ?_)
  · obtain ⟨rfl, -, hB⟩ := hB
    rw [ht] at hB
    have hC9 := hC
    rw [← hpu] at hC9
    rcases exc_c hC9 with ⟨rfl, hc, h9⟩ | ⟨rfl, hc, h9⟩ | ⟨rfl, hc, h9⟩
    · exact absurd rfl h9
    · refine vx_catch (own := RL) (name := "java/lang/IllegalArgumentException") hown ([] : List ExceptionTableEntry) (⟨0, 9, 12, 15⟩ : ExceptionTableEntry) [] (htab.trans rfl) (fun z hz => nomatch hz) rfl (by decide) (hts _ (u_in uk_1_200)) (va_Nw.use rfl (hE.2.2.2.2.2 _ un_2_37)) hcell hv hcl ?_
      refine lv_astore_n (lv' := [(3, .ref q9), (0, .ref (ad 60)), (1, .int x0), (2, .ref (ad 90))]) hx hb dL_term_12 rfl hl (by decide) rfl (fun ls hl => ?_)
      refine lv_iconst (v := 1) hx hb dL_term_13 (by decide) ?_
      exact sy_ireti hx hb hr hlocks hE hB hS dL_term_14 ⟨Nat.le_of_ble_eq_true rfl, Nat.le_of_ble_eq_true rfl⟩ (Or.inr ⟨by rw [← hpu]; decide, by rw [← hpu]; rfl, rfl, rfl⟩)
    · exact absurd rfl h9
  · skip
    obtain ⟨g1, q1⟩ := u
    have hP := hB.2
    rw [ht] at hP
    dsimp only at hp hP
    refine lv_i2l hx hb dL_term_7 rfl ?_
    refine sy_last hx hb hE hP hS 90 rfl (i := 0) (k_in rfl) dL_term_8 (fun H locs hP hS => ?_)
    refine lv_goto (tgt := 15) hx hb dL_term_9 (by decide) ?_
    refine lv_iconst (v := 0) hx hb dL_term_15 (by decide) ?_
    exact sy_ireti hx hb hr hlocks hE hP hS dL_term_16 ⟨Nat.le_of_ble_eq_true rfl, Nat.le_of_ble_eq_true rfl⟩ (Or.inl ⟨by rw [← hp], rfl, by rw [← hp]; rfl, by rw [← hp]⟩)
set_option maxHeartbeats 4000000 in
set_option maxRecDepth 100000 in
theorem mL_amnesty (l : Launch) (hfl : l.stackTraces = false) (Z : sZ) (nT nK cT cK : Nat) (ad : Nat → Nat) (g : sG) (q : sQ) (x0 x1 : Int32) (hT : nT ≤ 100) (hG : IG nT nK cT cK g) (hQ : IQ nT nK q) (hC : wf 9 1 2 (fX6_amnesty g q x0 x1).1 ≠ 9) : Met l yL_amnesty (uW (.codeWith yL_amnesty cL_amnesty 5 (some .int) [(0, 10, 13, 15), (0, 10, 17, 17)])) { frames := 8, cells := 3, slots := 18, locals := 125 } (va_Pc [.ref (ad 60), .int x0, .int x1, .ref (ad 90)] (sPreL Z nT nK cT cK ad g q)) (sQi Z nT nK cT cK ad (fun r g1 q1 => ((fX6_amnesty g q x0 x1).1 = 0 ∧ r = 0 ∧ g1 = sy_up (fX6_amnesty g q x0 x1).2.2.1 90 0 (fX6_amnesty g q x0 x1).2.1 ∧ q1 = (fX6_amnesty g q x0 x1).2.2.2) ∨ ((fX6_amnesty g q x0 x1).1 ≠ 0 ∧ r = wf 9 1 2 (fX6_amnesty g q x0 x1).1 ∧ g1 = g ∧ q1 = q))) 3 18 (sy_A Z) := by
  refine va_MetW (cc := cL_amnesty) (maxL := 5) (ret := some .int) (by decide) rfl ?_
  intro p e s m args below meth c s₁ B hml hv
  obtain ⟨rfl, ⟨hE, hP⟩, hNc⟩ := hv
  have hx := B.exec
  have hb := B.bytes
  have hr := B.returns
  have hts := atoms_spec (ws := uW (.codeWith yL_amnesty cL_amnesty 5 (some .int) [(0, 10, 13, 15), (0, 10, 17, 17)])) B.pre
  have hown : s.vm.findClass RL = some m.cls := findClass_of_methodNamed B.named
  have hlocks := B.notSynchronized
  have htab := vx_table (x := yL_amnesty) B (hts _ List.mem_cons_self)
  have hS : va_S (sy_A Z) s.heap s.heap [] := va_S.rf
  have hl := lv_entry ([.ref (ad 60), .int x0, .int x1, .ref (ad 90)]) (n := 5) (Nat.le_of_ble_eq_true rfl)
  rw [lg_entry_eq]
  generalize (lg_sl ([.ref (ad 60), .int x0, .int x1, .ref (ad 90)]) ++ List.replicate (5 - (lg_sl ([.ref (ad 60), .int x0, .int x1, .ref (ad 90)])).length) Slot.unset).toArray = ls at hl ⊢
  have hl : lv_has ls 5 [(0, .ref (ad 60)), (1, .int x0), (2, .int x1), (3, .ref (ad 90))] := hl
  refine lv_aload_n hx hb dL_amnesty_0 rfl (lv_at hl 3 rfl) ?_
  refine lv_iconst (v := 0) hx hb dL_amnesty_1 (by decide) ?_
  refine lv_aload_n hx hb dL_amnesty_2 rfl (lv_at hl 0 rfl) ?_
  refine lv_iload_n hx hb dL_amnesty_3 rfl (lv_at hl 1 rfl) ?_
  refine lv_iload_n hx hb dL_amnesty_4 rfl (lv_at hl 2 rfl) ?_
  refine vx_calli (sy_xV (o := 60) (As := [.int x0, .int x1]) (rest := [.int 0, .ref (ad 90)]) ⟨hx, hb, hml, hown, hts⟩ hE hP hS (mX6_amnesty l hfl Z nT nK cT cK ad g q x0 x1 hT hG hQ) (cwV 2 hts (gu_V uk_3_8 uk_3_9 uk_3_10 uk_1_1 uk_3_11) rfl rfl rfl (by decide +kernel) ⟨Nat.le_of_ble_eq_true rfl, Nat.le_of_ble_eq_true rfl⟩) (sy_recv (kc := 7) hE hP rfl (by decide) rfl rfl rfl) rfl hl.1 rfl (Nat.le_of_ble_eq_true rfl) dL_amnesty_5 ⟨Nat.le_of_ble_eq_true rfl, Nat.le_of_ble_eq_true rfl⟩) hS (fun _ _ h => h) (fun _ h => h) (fun _ _ h => h) (fun E ce q9 u t H locs ht _ hpu hB _ _ hS hcell hv hcl => ?_) (fun r u t H locs ht _ hp hB _ _ hS => ?_)
  · obtain ⟨rfl, -, hB⟩ := hB
    rw [ht] at hB
    have hC9 := hC
    rw [← hpu] at hC9
    rcases exc_c hC9 with ⟨rfl, hc, h9⟩ | ⟨rfl, hc, h9⟩ | ⟨rfl, hc, h9⟩
    · exact absurd rfl h9
    · refine vx_catch (own := RL) (name := "java/lang/IllegalArgumentException") hown ([] : List ExceptionTableEntry) (⟨0, 10, 13, 15⟩ : ExceptionTableEntry) [⟨0, 10, 17, 17⟩] (htab.trans rfl) (fun z hz => nomatch hz) rfl (by decide) (hts _ (u_in uk_1_200)) (va_Nw.use rfl (hE.2.2.2.2.2 _ un_2_37)) hcell hv hcl ?_
      refine lv_astore (lv' := [(4, .ref q9), (0, .ref (ad 60)), (1, .int x0), (2, .int x1), (3, .ref (ad 90))]) hx hb dL_amnesty_13 hl (by decide) rfl (fun ls hl => ?_)
      refine lv_iconst (v := 1) hx hb dL_amnesty_15 (by decide) ?_
      exact sy_ireti hx hb hr hlocks hE hB hS dL_amnesty_16 ⟨Nat.le_of_ble_eq_true rfl, Nat.le_of_ble_eq_true rfl⟩ (Or.inr ⟨by rw [← hpu]; decide, by rw [← hpu]; rfl, rfl, rfl⟩)
    · refine vx_catch (own := RL) (name := "java/lang/IllegalStateException") hown ([⟨0, 10, 13, 15⟩] : List ExceptionTableEntry) (⟨0, 10, 17, 17⟩ : ExceptionTableEntry) [] (htab.trans rfl) (fun z hz => by
            rcases List.mem_cons.mp hz with rfl | hz
            · exact Or.inr ⟨by decide, "java/lang/IllegalArgumentException", hts _ (u_in uk_1_200), hNc.2.2⟩
            · cases hz) rfl (by decide) (hts _ (u_in uk_1_201)) (va_Nw.use rfl (hE.2.2.2.2.2 _ un_2_59)) hcell hv hcl ?_
      refine lv_astore (lv' := [(4, .ref q9), (0, .ref (ad 60)), (1, .int x0), (2, .int x1), (3, .ref (ad 90))]) hx hb dL_amnesty_17 hl (by decide) rfl (fun ls hl => ?_)
      refine lv_iconst (v := 2) hx hb dL_amnesty_19 (by decide) ?_
      exact sy_ireti hx hb hr hlocks hE hB hS dL_amnesty_20 ⟨Nat.le_of_ble_eq_true rfl, Nat.le_of_ble_eq_true rfl⟩ (Or.inr ⟨by rw [← hpu]; decide, by rw [← hpu]; rfl, rfl, rfl⟩)
  · skip
    obtain ⟨g1, q1⟩ := u
    have hP := hB.2
    rw [ht] at hP
    dsimp only at hp hP
    refine lv_i2l hx hb dL_amnesty_8 rfl ?_
    refine sy_last hx hb hE hP hS 90 rfl (i := 0) (k_in rfl) dL_amnesty_9 (fun H locs hP hS => ?_)
    refine lv_goto (tgt := 21) hx hb dL_amnesty_10 (by decide) ?_
    refine lv_iconst (v := 0) hx hb dL_amnesty_21 (by decide) ?_
    exact sy_ireti hx hb hr hlocks hE hP hS dL_amnesty_22 ⟨Nat.le_of_ble_eq_true rfl, Nat.le_of_ble_eq_true rfl⟩ (Or.inl ⟨by rw [← hp], rfl, by rw [← hp]; rfl, by rw [← hp]⟩)
set_option maxHeartbeats 4000000 in
set_option maxRecDepth 100000 in
theorem mL_pledge (l : Launch) (hfl : l.stackTraces = false) (Z : sZ) (nT nK cT cK : Nat) (ad : Nat → Nat) (g : sG) (q : sQ) (x0 x1 x2 x3 x4 x5 : Int32) (hT : nT ≤ 100) (hG : IG nT nK cT cK g) (hQ : IQ nT nK q) (hz5 : x5 = 0 ∨ x5 = 1) (hc : cK ≤ 60) (h0 : cK = 0 → ad 71 = Z.2.2.2) (hrest : ∀ j, nK ≤ j → q 71 j = none) (hq71 : ∀ o k, q o k ≠ some 71) (hqn : ∀ o k, q o k ≠ some (200 + nK)) (hC : wf 1 2 3 (fX6_pledge g q nK x0 x1 x2 x3 x4 x5).1 ≠ 9) : Met l yL_pledge (uW (.codeWith yL_pledge cL_pledge 9 (some .int) [(0, 18, 21, 13), (0, 18, 25, 15), (0, 18, 29, 17)])) { frames := 9, cells := 10, slots := 124, locals := 201 } (va_Pc [.ref (ad 60), .int x0, .int x1, .int x2, .int x3, .int x4, .int x5, .ref (ad 90)] (sPreL Z nT nK cT cK ad g q)) (va_Qi (fun (r : Int32) (u : (Nat → Nat) × sG × sQ) => ((fX6_pledge g q nK x0 x1 x2 x3 x4 x5).1 = 0 ∧ r = 0 ∧ (∀ x, x ≠ 71 → x ≠ 200 + nK → u.1 x = ad x) ∧ u.2.1 = sy_up (fX6_pledge g q nK x0 x1 x2 x3 x4 x5).2.2.1 90 0 (fX6_pledge g q nK x0 x1 x2 x3 x4 x5).2.1 ∧ u.2.2 = (fX6_pledge g q nK x0 x1 x2 x3 x4 x5).2.2.2) ∨ ((fX6_pledge g q nK x0 x1 x2 x3 x4 x5).1 ≠ 0 ∧ r = wf 1 2 3 (fX6_pledge g q nK x0 x1 x2 x3 x4 x5).1)) (fun u t => sEnv Z t ∧ ((fX6_pledge g q nK x0 x1 x2 x3 x4 x5).1 = 0 → Sy Z nT (nK + 1) cT (sCap nK cK) u.1 u.2.1 u.2.2 t.heap) ∧ ((fX6_pledge g q nK x0 x1 x2 x3 x4 x5).1 ≠ 0 → Sy Z nT nK cT cK ad g q t.heap)) (sy_A Z)) 10 124 (sy_A Z) := by
  refine va_MetW (cc := cL_pledge) (maxL := 9) (ret := some .int) (by decide) rfl ?_
  intro p e s m args below meth c s₁ B hml hv
  obtain ⟨rfl, ⟨hE, hP⟩, hNc⟩ := hv
  have hx := B.exec
  have hb := B.bytes
  have hr := B.returns
  have hts := atoms_spec (ws := uW (.codeWith yL_pledge cL_pledge 9 (some .int) [(0, 18, 21, 13), (0, 18, 25, 15), (0, 18, 29, 17)])) B.pre
  have hown : s.vm.findClass RL = some m.cls := findClass_of_methodNamed B.named
  have hlocks := B.notSynchronized
  have htab := vx_table (x := yL_pledge) B (hts _ List.mem_cons_self)
  have hS : va_S (sy_A Z) s.heap s.heap [] := va_S.rf
  have hl := lv_entry ([.ref (ad 60), .int x0, .int x1, .int x2, .int x3, .int x4, .int x5, .ref (ad 90)]) (n := 9) (Nat.le_of_ble_eq_true rfl)
  rw [lg_entry_eq]
  generalize (lg_sl ([.ref (ad 60), .int x0, .int x1, .int x2, .int x3, .int x4, .int x5, .ref (ad 90)]) ++ List.replicate (9 - (lg_sl ([.ref (ad 60), .int x0, .int x1, .int x2, .int x3, .int x4, .int x5, .ref (ad 90)])).length) Slot.unset).toArray = ls at hl ⊢
  have hl : lv_has ls 9 [(0, .ref (ad 60)), (1, .int x0), (2, .int x1), (3, .int x2), (4, .int x3), (5, .int x4), (6, .int x5), (7, .ref (ad 90))] := hl
  refine lv_aload hx hb dL_pledge_0 (lv_at hl 7 rfl) ?_
  refine lv_iconst (v := 0) hx hb dL_pledge_2 (by decide) ?_
  refine lv_aload_n hx hb dL_pledge_3 rfl (lv_at hl 0 rfl) ?_
  refine lv_iload_n hx hb dL_pledge_4 rfl (lv_at hl 1 rfl) ?_
  refine lv_iload_n hx hb dL_pledge_5 rfl (lv_at hl 2 rfl) ?_
  refine lv_iload_n hx hb dL_pledge_6 rfl (lv_at hl 3 rfl) ?_
  refine lv_iload hx hb dL_pledge_7 (lv_at hl 4 rfl) ?_
  refine lv_iload hx hb dL_pledge_9 (lv_at hl 5 rfl) ?_
  refine lv_iload hx hb dL_pledge_11 (lv_at hl 6 rfl) ?_
  refine vx_calli (sy_xV (o := 60) (As := [.int x0, .int x1, .int x2, .int x3, .int x4, .int x5]) (rest := [.int 0, .ref (ad 90)]) ⟨hx, hb, hml, hown, hts⟩ hE hP hS (mX6_pledge l hfl Z nT nK cT cK ad g q x0 x1 x2 x3 x4 x5 hT hG hQ hz5 hc h0 hrest hq71 hqn) (cwV 6 hts (gu_V uk_3_24 uk_3_25 uk_3_26 uk_1_1 uk_3_27) rfl rfl rfl (by decide +kernel) ⟨Nat.le_of_ble_eq_true rfl, Nat.le_of_ble_eq_true rfl⟩) (sy_recv (kc := 7) hE hP rfl (by decide) rfl rfl rfl) rfl hl.1 rfl (Nat.le_of_ble_eq_true rfl) dL_pledge_13 ⟨Nat.le_of_ble_eq_true rfl, Nat.le_of_ble_eq_true rfl⟩) hS (fun _ _ h => h) (fun _ h => h) (fun _ _ h => h) (fun E ce q9 u t H locs ht _ hpu hB _ _ hS hcell hv hcl => ?_) (fun r u t H locs ht _ hp hB _ _ hS => ?_)
  · obtain ⟨rfl, -, hB⟩ := hB
    rw [ht] at hB
    have hC9 := hC
    rw [← hpu] at hC9
    rcases exc_c hC9 with ⟨rfl, hc, h9⟩ | ⟨rfl, hc, h9⟩ | ⟨rfl, hc, h9⟩
    · refine vx_catch (own := RL) (name := "java/lang/IndexOutOfBoundsException") hown ([] : List ExceptionTableEntry) (⟨0, 18, 21, 13⟩ : ExceptionTableEntry) [⟨0, 18, 25, 15⟩, ⟨0, 18, 29, 17⟩] (htab.trans rfl) (fun z hz => nomatch hz) rfl (by decide) (hts _ (u_in uk_1_199)) (va_Nw.use rfl (hE.2.2.2.2.2 _ un_1_211)) hcell hv hcl ?_
      refine lv_astore (lv' := [(8, .ref q9), (0, .ref (ad 60)), (1, .int x0), (2, .int x1), (3, .int x2), (4, .int x3), (5, .int x4), (6, .int x5), (7, .ref (ad 90))]) hx hb dL_pledge_21 hl (by decide) rfl (fun ls hl => ?_)
      refine lv_iconst (v := 1) hx hb dL_pledge_23 (by decide) ?_
      exact W.widen (Nat.le_of_ble_eq_true rfl) (Nat.le_of_ble_eq_true rfl) (W.iret hx hb hr (fun t ht hW => ⟨⟨1, (ad, g, q), rfl, Or.inr ⟨by rw [← hpu]; decide, by rw [← hpu]; rfl⟩, hE.next hS ht hW.alike, fun z => absurd z (by rw [← hpu]; decide), fun _ => by rw [ht]; exact hB⟩, hS.F ht⟩) hS.2.2 dL_pledge_24 hlocks)
    · refine vx_catch (own := RL) (name := "java/lang/IllegalArgumentException") hown ([⟨0, 18, 21, 13⟩] : List ExceptionTableEntry) (⟨0, 18, 25, 15⟩ : ExceptionTableEntry) [⟨0, 18, 29, 17⟩] (htab.trans rfl) (fun z hz => by
            rcases List.mem_cons.mp hz with rfl | hz
            · exact Or.inr ⟨by decide, "java/lang/IndexOutOfBoundsException", hts _ (u_in uk_1_199), hNc.1⟩
            · cases hz) rfl (by decide) (hts _ (u_in uk_1_200)) (va_Nw.use rfl (hE.2.2.2.2.2 _ un_2_37)) hcell hv hcl ?_
      refine lv_astore (lv' := [(8, .ref q9), (0, .ref (ad 60)), (1, .int x0), (2, .int x1), (3, .int x2), (4, .int x3), (5, .int x4), (6, .int x5), (7, .ref (ad 90))]) hx hb dL_pledge_25 hl (by decide) rfl (fun ls hl => ?_)
      refine lv_iconst (v := 2) hx hb dL_pledge_27 (by decide) ?_
      exact W.widen (Nat.le_of_ble_eq_true rfl) (Nat.le_of_ble_eq_true rfl) (W.iret hx hb hr (fun t ht hW => ⟨⟨2, (ad, g, q), rfl, Or.inr ⟨by rw [← hpu]; decide, by rw [← hpu]; rfl⟩, hE.next hS ht hW.alike, fun z => absurd z (by rw [← hpu]; decide), fun _ => by rw [ht]; exact hB⟩, hS.F ht⟩) hS.2.2 dL_pledge_28 hlocks)
    · refine vx_catch (own := RL) (name := "java/lang/IllegalStateException") hown ([⟨0, 18, 21, 13⟩, ⟨0, 18, 25, 15⟩] : List ExceptionTableEntry) (⟨0, 18, 29, 17⟩ : ExceptionTableEntry) [] (htab.trans rfl) (fun z hz => by
            rcases List.mem_cons.mp hz with rfl | hz
            · exact Or.inr ⟨by decide, "java/lang/IndexOutOfBoundsException", hts _ (u_in uk_1_199), hNc.2.1⟩
            · rcases List.mem_cons.mp hz with rfl | hz
              · exact Or.inr ⟨by decide, "java/lang/IllegalArgumentException", hts _ (u_in uk_1_200), hNc.2.2⟩
              · cases hz) rfl (by decide) (hts _ (u_in uk_1_201)) (va_Nw.use rfl (hE.2.2.2.2.2 _ un_2_59)) hcell hv hcl ?_
      refine lv_astore (lv' := [(8, .ref q9), (0, .ref (ad 60)), (1, .int x0), (2, .int x1), (3, .int x2), (4, .int x3), (5, .int x4), (6, .int x5), (7, .ref (ad 90))]) hx hb dL_pledge_29 hl (by decide) rfl (fun ls hl => ?_)
      refine lv_iconst (v := 3) hx hb dL_pledge_31 (by decide) ?_
      exact W.widen (Nat.le_of_ble_eq_true rfl) (Nat.le_of_ble_eq_true rfl) (W.iret hx hb hr (fun t ht hW => ⟨⟨3, (ad, g, q), rfl, Or.inr ⟨by rw [← hpu]; decide, by rw [← hpu]; rfl⟩, hE.next hS ht hW.alike, fun z => absurd z (by rw [← hpu]; decide), fun _ => by rw [ht]; exact hB⟩, hS.F ht⟩) hS.2.2 dL_pledge_32 hlocks)
  · skip
    obtain ⟨ad1, g1, q1⟩ := u
    obtain ⟨had, hp⟩ := hp
    have hP := hB.2
    rw [ht] at hP
    dsimp only at had hp hP
    have h60 : ad 60 = ad1 60 := (had 60 (by omega) (by omega)).symm
    have h90 : ad 90 = ad1 90 := (had 90 (by omega) (by omega)).symm
    rw [h90]
    refine lv_i2l hx hb dL_pledge_16 rfl ?_
    refine sy_last hx hb hE hP hS 90 rfl (i := 0) (k_in rfl) dL_pledge_17 (fun H locs hP hS => ?_)
    refine lv_goto (tgt := 33) hx hb dL_pledge_18 (by decide) ?_
    refine lv_iconst (v := 0) hx hb dL_pledge_33 (by decide) ?_
    exact W.widen (Nat.le_of_ble_eq_true rfl) (Nat.le_of_ble_eq_true rfl) (W.iret hx hb hr (fun t ht hW => ⟨⟨0, (ad1, sy_up g1 90 0 r, q1), rfl, Or.inl ⟨by rw [← hp], rfl, had, by rw [← hp], by rw [← hp]⟩, hE.next hS ht hW.alike, fun _ => by rw [ht]; exact hP, fun z => absurd (by rw [← hp]) z⟩, hS.F ht⟩) hS.2.2 dL_pledge_34 hlocks)
set_option maxHeartbeats 4000000 in
set_option maxRecDepth 100000 in
theorem mL_redeem (l : Launch) (hfl : l.stackTraces = false) (Z : sZ) (nT nK cT cK : Nat) (ad : Nat → Nat) (g : sG) (q : sQ) (x0 x1 : Int32) (hT : nT ≤ 100) (hG : IG nT nK cT cK g) (hQ : IQ nT nK q) (hC : wf 1 9 2 (fX6_redeem g q x0 x1).1 ≠ 9) : Met l yL_redeem (uW (.codeWith yL_redeem cL_redeem 5 (some .int) [(0, 10, 13, 13), (0, 10, 17, 17)])) { frames := 9, cells := 4, slots := 24, locals := 147 } (va_Pc [.ref (ad 60), .int x0, .int x1, .ref (ad 90)] (sPreL Z nT nK cT cK ad g q)) (sQi Z nT nK cT cK ad (fun r g1 q1 => ((fX6_redeem g q x0 x1).1 = 0 ∧ r = 0 ∧ g1 = sy_up (fX6_redeem g q x0 x1).2.2.1 90 0 (fX6_redeem g q x0 x1).2.1 ∧ q1 = (fX6_redeem g q x0 x1).2.2.2) ∨ ((fX6_redeem g q x0 x1).1 ≠ 0 ∧ r = wf 1 9 2 (fX6_redeem g q x0 x1).1 ∧ g1 = g ∧ q1 = q))) 4 24 (sy_A Z) := by
  refine va_MetW (cc := cL_redeem) (maxL := 5) (ret := some .int) (by decide) rfl ?_
  intro p e s m args below meth c s₁ B hml hv
  obtain ⟨rfl, ⟨hE, hP⟩, hNc⟩ := hv
  have hx := B.exec
  have hb := B.bytes
  have hr := B.returns
  have hts := atoms_spec (ws := uW (.codeWith yL_redeem cL_redeem 5 (some .int) [(0, 10, 13, 13), (0, 10, 17, 17)])) B.pre
  have hown : s.vm.findClass RL = some m.cls := findClass_of_methodNamed B.named
  have hlocks := B.notSynchronized
  have htab := vx_table (x := yL_redeem) B (hts _ List.mem_cons_self)
  have hS : va_S (sy_A Z) s.heap s.heap [] := va_S.rf
  have hl := lv_entry ([.ref (ad 60), .int x0, .int x1, .ref (ad 90)]) (n := 5) (Nat.le_of_ble_eq_true rfl)
  rw [lg_entry_eq]
  generalize (lg_sl ([.ref (ad 60), .int x0, .int x1, .ref (ad 90)]) ++ List.replicate (5 - (lg_sl ([.ref (ad 60), .int x0, .int x1, .ref (ad 90)])).length) Slot.unset).toArray = ls at hl ⊢
  have hl : lv_has ls 5 [(0, .ref (ad 60)), (1, .int x0), (2, .int x1), (3, .ref (ad 90))] := hl
  refine lv_aload_n hx hb dL_redeem_0 rfl (lv_at hl 3 rfl) ?_
  refine lv_iconst (v := 0) hx hb dL_redeem_1 (by decide) ?_
  refine lv_aload_n hx hb dL_redeem_2 rfl (lv_at hl 0 rfl) ?_
  refine lv_iload_n hx hb dL_redeem_3 rfl (lv_at hl 1 rfl) ?_
  refine lv_iload_n hx hb dL_redeem_4 rfl (lv_at hl 2 rfl) ?_
  refine vx_calli (sy_xV (o := 60) (As := [.int x0, .int x1]) (rest := [.int 0, .ref (ad 90)]) ⟨hx, hb, hml, hown, hts⟩ hE hP hS (mX6_redeem l hfl Z nT nK cT cK ad g q x0 x1 hT hG hQ) (cwV 2 hts (gu_V uk_3_163 uk_3_164 uk_3_165 uk_1_1 uk_3_166) rfl rfl rfl (by decide +kernel) ⟨Nat.le_of_ble_eq_true rfl, Nat.le_of_ble_eq_true rfl⟩) (sy_recv (kc := 7) hE hP rfl (by decide) rfl rfl rfl) rfl hl.1 rfl (Nat.le_of_ble_eq_true rfl) dL_redeem_5 ⟨Nat.le_of_ble_eq_true rfl, Nat.le_of_ble_eq_true rfl⟩) hS (fun _ _ h => h) (fun _ h => h) (fun _ _ h => h) (fun E ce q9 u t H locs ht _ hpu hB _ _ hS hcell hv hcl => ?_) (fun r u t H locs ht _ hp hB _ _ hS => ?_)
  · obtain ⟨rfl, -, hB⟩ := hB
    rw [ht] at hB
    have hC9 := hC
    rw [← hpu] at hC9
    rcases exc_c hC9 with ⟨rfl, hc, h9⟩ | ⟨rfl, hc, h9⟩ | ⟨rfl, hc, h9⟩
    · refine vx_catch (own := RL) (name := "java/lang/IndexOutOfBoundsException") hown ([] : List ExceptionTableEntry) (⟨0, 10, 13, 13⟩ : ExceptionTableEntry) [⟨0, 10, 17, 17⟩] (htab.trans rfl) (fun z hz => nomatch hz) rfl (by decide) (hts _ (u_in uk_1_199)) (va_Nw.use rfl (hE.2.2.2.2.2 _ un_1_211)) hcell hv hcl ?_
      refine lv_astore (lv' := [(4, .ref q9), (0, .ref (ad 60)), (1, .int x0), (2, .int x1), (3, .ref (ad 90))]) hx hb dL_redeem_13 hl (by decide) rfl (fun ls hl => ?_)
      refine lv_iconst (v := 1) hx hb dL_redeem_15 (by decide) ?_
      exact sy_ireti hx hb hr hlocks hE hB hS dL_redeem_16 ⟨Nat.le_of_ble_eq_true rfl, Nat.le_of_ble_eq_true rfl⟩ (Or.inr ⟨by rw [← hpu]; decide, by rw [← hpu]; rfl, rfl, rfl⟩)
    · exact absurd rfl h9
    · refine vx_catch (own := RL) (name := "java/lang/IllegalStateException") hown ([⟨0, 10, 13, 13⟩] : List ExceptionTableEntry) (⟨0, 10, 17, 17⟩ : ExceptionTableEntry) [] (htab.trans rfl) (fun z hz => by
            rcases List.mem_cons.mp hz with rfl | hz
            · exact Or.inr ⟨by decide, "java/lang/IndexOutOfBoundsException", hts _ (u_in uk_1_199), hNc.2.1⟩
            · cases hz) rfl (by decide) (hts _ (u_in uk_1_201)) (va_Nw.use rfl (hE.2.2.2.2.2 _ un_2_59)) hcell hv hcl ?_
      refine lv_astore (lv' := [(4, .ref q9), (0, .ref (ad 60)), (1, .int x0), (2, .int x1), (3, .ref (ad 90))]) hx hb dL_redeem_17 hl (by decide) rfl (fun ls hl => ?_)
      refine lv_iconst (v := 2) hx hb dL_redeem_19 (by decide) ?_
      exact sy_ireti hx hb hr hlocks hE hB hS dL_redeem_20 ⟨Nat.le_of_ble_eq_true rfl, Nat.le_of_ble_eq_true rfl⟩ (Or.inr ⟨by rw [← hpu]; decide, by rw [← hpu]; rfl, rfl, rfl⟩)
  · skip
    obtain ⟨g1, q1⟩ := u
    have hP := hB.2
    rw [ht] at hP
    dsimp only at hp hP
    refine lv_i2l hx hb dL_redeem_8 rfl ?_
    refine sy_last hx hb hE hP hS 90 rfl (i := 0) (k_in rfl) dL_redeem_9 (fun H locs hP hS => ?_)
    refine lv_goto (tgt := 21) hx hb dL_redeem_10 (by decide) ?_
    refine lv_iconst (v := 0) hx hb dL_redeem_21 (by decide) ?_
    exact sy_ireti hx hb hr hlocks hE hP hS dL_redeem_22 ⟨Nat.le_of_ble_eq_true rfl, Nat.le_of_ble_eq_true rfl⟩ (Or.inl ⟨by rw [← hp], rfl, by rw [← hp]; rfl, by rw [← hp]⟩)
set_option maxHeartbeats 4000000 in
set_option maxRecDepth 100000 in
theorem mL_renew (l : Launch) (hfl : l.stackTraces = false) (Z : sZ) (nT nK cT cK : Nat) (ad : Nat → Nat) (g : sG) (q : sQ) (x0 x1 x2 : Int32) (hT : nT ≤ 100) (hG : IG nT nK cT cK g) (hQ : IQ nT nK q) (hC : wf 1 2 3 (fX6_renew g q x0 x1 x2).1 ≠ 9) : Met l yL_renew (uW (.codeWith yL_renew cL_renew 6 (some .int) [(0, 12, 15, 13), (0, 12, 19, 15), (0, 12, 23, 17)])) { frames := 9, cells := 4, slots := 24, locals := 148 } (va_Pc [.ref (ad 60), .int x0, .int x1, .int x2, .ref (ad 90)] (sPreL Z nT nK cT cK ad g q)) (sQi Z nT nK cT cK ad (fun r g1 q1 => ((fX6_renew g q x0 x1 x2).1 = 0 ∧ r = 0 ∧ g1 = sy_up (fX6_renew g q x0 x1 x2).2.2.1 90 0 (fX6_renew g q x0 x1 x2).2.1 ∧ q1 = (fX6_renew g q x0 x1 x2).2.2.2) ∨ ((fX6_renew g q x0 x1 x2).1 ≠ 0 ∧ r = wf 1 2 3 (fX6_renew g q x0 x1 x2).1 ∧ g1 = g ∧ q1 = q))) 4 24 (sy_A Z) := by
  refine va_MetW (cc := cL_renew) (maxL := 6) (ret := some .int) (by decide) rfl ?_
  intro p e s m args below meth c s₁ B hml hv
  obtain ⟨rfl, ⟨hE, hP⟩, hNc⟩ := hv
  have hx := B.exec
  have hb := B.bytes
  have hr := B.returns
  have hts := atoms_spec (ws := uW (.codeWith yL_renew cL_renew 6 (some .int) [(0, 12, 15, 13), (0, 12, 19, 15), (0, 12, 23, 17)])) B.pre
  have hown : s.vm.findClass RL = some m.cls := findClass_of_methodNamed B.named
  have hlocks := B.notSynchronized
  have htab := vx_table (x := yL_renew) B (hts _ List.mem_cons_self)
  have hS : va_S (sy_A Z) s.heap s.heap [] := va_S.rf
  have hl := lv_entry ([.ref (ad 60), .int x0, .int x1, .int x2, .ref (ad 90)]) (n := 6) (Nat.le_of_ble_eq_true rfl)
  rw [lg_entry_eq]
  generalize (lg_sl ([.ref (ad 60), .int x0, .int x1, .int x2, .ref (ad 90)]) ++ List.replicate (6 - (lg_sl ([.ref (ad 60), .int x0, .int x1, .int x2, .ref (ad 90)])).length) Slot.unset).toArray = ls at hl ⊢
  have hl : lv_has ls 6 [(0, .ref (ad 60)), (1, .int x0), (2, .int x1), (3, .int x2), (4, .ref (ad 90))] := hl
  refine lv_aload hx hb dL_renew_0 (lv_at hl 4 rfl) ?_
  refine lv_iconst (v := 0) hx hb dL_renew_2 (by decide) ?_
  refine lv_aload_n hx hb dL_renew_3 rfl (lv_at hl 0 rfl) ?_
  refine lv_iload_n hx hb dL_renew_4 rfl (lv_at hl 1 rfl) ?_
  refine lv_iload_n hx hb dL_renew_5 rfl (lv_at hl 2 rfl) ?_
  refine lv_iload_n hx hb dL_renew_6 rfl (lv_at hl 3 rfl) ?_
  refine vx_calli (sy_xV (o := 60) (As := [.int x0, .int x1, .int x2]) (rest := [.int 0, .ref (ad 90)]) ⟨hx, hb, hml, hown, hts⟩ hE hP hS (mX6_renew l hfl Z nT nK cT cK ad g q x0 x1 x2 hT hG hQ) (cwV 3 hts (gu_V uk_3_218 uk_3_219 uk_3_220 uk_1_1 uk_3_221) rfl rfl rfl (by decide +kernel) ⟨Nat.le_of_ble_eq_true rfl, Nat.le_of_ble_eq_true rfl⟩) (sy_recv (kc := 7) hE hP rfl (by decide) rfl rfl rfl) rfl hl.1 rfl (Nat.le_of_ble_eq_true rfl) dL_renew_7 ⟨Nat.le_of_ble_eq_true rfl, Nat.le_of_ble_eq_true rfl⟩) hS (fun _ _ h => h) (fun _ h => h) (fun _ _ h => h) (fun E ce q9 u t H locs ht _ hpu hB _ _ hS hcell hv hcl => ?_) (fun r u t H locs ht _ hp hB _ _ hS => ?_)
  · obtain ⟨rfl, -, hB⟩ := hB
    rw [ht] at hB
    have hC9 := hC
    rw [← hpu] at hC9
    rcases exc_c hC9 with ⟨rfl, hc, h9⟩ | ⟨rfl, hc, h9⟩ | ⟨rfl, hc, h9⟩
    · refine vx_catch (own := RL) (name := "java/lang/IndexOutOfBoundsException") hown ([] : List ExceptionTableEntry) (⟨0, 12, 15, 13⟩ : ExceptionTableEntry) [⟨0, 12, 19, 15⟩, ⟨0, 12, 23, 17⟩] (htab.trans rfl) (fun z hz => nomatch hz) rfl (by decide) (hts _ (u_in uk_1_199)) (va_Nw.use rfl (hE.2.2.2.2.2 _ un_1_211)) hcell hv hcl ?_
      refine lv_astore (lv' := [(5, .ref q9), (0, .ref (ad 60)), (1, .int x0), (2, .int x1), (3, .int x2), (4, .ref (ad 90))]) hx hb dL_renew_15 hl (by decide) rfl (fun ls hl => ?_)
      refine lv_iconst (v := 1) hx hb dL_renew_17 (by decide) ?_
      exact sy_ireti hx hb hr hlocks hE hB hS dL_renew_18 ⟨Nat.le_of_ble_eq_true rfl, Nat.le_of_ble_eq_true rfl⟩ (Or.inr ⟨by rw [← hpu]; decide, by rw [← hpu]; rfl, rfl, rfl⟩)
    · refine vx_catch (own := RL) (name := "java/lang/IllegalArgumentException") hown ([⟨0, 12, 15, 13⟩] : List ExceptionTableEntry) (⟨0, 12, 19, 15⟩ : ExceptionTableEntry) [⟨0, 12, 23, 17⟩] (htab.trans rfl) (fun z hz => by
            rcases List.mem_cons.mp hz with rfl | hz
            · exact Or.inr ⟨by decide, "java/lang/IndexOutOfBoundsException", hts _ (u_in uk_1_199), hNc.1⟩
            · cases hz) rfl (by decide) (hts _ (u_in uk_1_200)) (va_Nw.use rfl (hE.2.2.2.2.2 _ un_2_37)) hcell hv hcl ?_
      refine lv_astore (lv' := [(5, .ref q9), (0, .ref (ad 60)), (1, .int x0), (2, .int x1), (3, .int x2), (4, .ref (ad 90))]) hx hb dL_renew_19 hl (by decide) rfl (fun ls hl => ?_)
      refine lv_iconst (v := 2) hx hb dL_renew_21 (by decide) ?_
      exact sy_ireti hx hb hr hlocks hE hB hS dL_renew_22 ⟨Nat.le_of_ble_eq_true rfl, Nat.le_of_ble_eq_true rfl⟩ (Or.inr ⟨by rw [← hpu]; decide, by rw [← hpu]; rfl, rfl, rfl⟩)
    · refine vx_catch (own := RL) (name := "java/lang/IllegalStateException") hown ([⟨0, 12, 15, 13⟩, ⟨0, 12, 19, 15⟩] : List ExceptionTableEntry) (⟨0, 12, 23, 17⟩ : ExceptionTableEntry) [] (htab.trans rfl) (fun z hz => by
            rcases List.mem_cons.mp hz with rfl | hz
            · exact Or.inr ⟨by decide, "java/lang/IndexOutOfBoundsException", hts _ (u_in uk_1_199), hNc.2.1⟩
            · rcases List.mem_cons.mp hz with rfl | hz
              · exact Or.inr ⟨by decide, "java/lang/IllegalArgumentException", hts _ (u_in uk_1_200), hNc.2.2⟩
              · cases hz) rfl (by decide) (hts _ (u_in uk_1_201)) (va_Nw.use rfl (hE.2.2.2.2.2 _ un_2_59)) hcell hv hcl ?_
      refine lv_astore (lv' := [(5, .ref q9), (0, .ref (ad 60)), (1, .int x0), (2, .int x1), (3, .int x2), (4, .ref (ad 90))]) hx hb dL_renew_23 hl (by decide) rfl (fun ls hl => ?_)
      refine lv_iconst (v := 3) hx hb dL_renew_25 (by decide) ?_
      exact sy_ireti hx hb hr hlocks hE hB hS dL_renew_26 ⟨Nat.le_of_ble_eq_true rfl, Nat.le_of_ble_eq_true rfl⟩ (Or.inr ⟨by rw [← hpu]; decide, by rw [← hpu]; rfl, rfl, rfl⟩)
  · skip
    obtain ⟨g1, q1⟩ := u
    have hP := hB.2
    rw [ht] at hP
    dsimp only at hp hP
    refine lv_i2l hx hb dL_renew_10 rfl ?_
    refine sy_last hx hb hE hP hS 90 rfl (i := 0) (k_in rfl) dL_renew_11 (fun H locs hP hS => ?_)
    refine lv_goto (tgt := 27) hx hb dL_renew_12 (by decide) ?_
    refine lv_iconst (v := 0) hx hb dL_renew_27 (by decide) ?_
    exact sy_ireti hx hb hr hlocks hE hP hS dL_renew_28 ⟨Nat.le_of_ble_eq_true rfl, Nat.le_of_ble_eq_true rfl⟩ (Or.inl ⟨by rw [← hp], rfl, by rw [← hp]; rfl, by rw [← hp]⟩)
set_option maxHeartbeats 4000000 in
set_option maxRecDepth 100000 in
theorem mL_give (l : Launch) (hfl : l.stackTraces = false) (Z : sZ) (nT nK cT cK : Nat) (ad : Nat → Nat) (g : sG) (q : sQ) (x0 x1 : Int32) (hT : nT ≤ 100) (hG : IG nT nK cT cK g) (hQ : IQ nT nK q) (hC : wf 1 9 2 (fX6_give g q x0 x1).1 ≠ 9) : Met l yL_give (uW (.codeWith yL_give cL_give 5 (some .int) [(0, 10, 13, 13), (0, 10, 17, 17)])) { frames := 9, cells := 3, slots := 18, locals := 147 } (va_Pc [.ref (ad 60), .int x0, .int x1, .ref (ad 90)] (sPreL Z nT nK cT cK ad g q)) (sQi Z nT nK cT cK ad (fun r g1 q1 => ((fX6_give g q x0 x1).1 = 0 ∧ r = 0 ∧ g1 = sy_up (fX6_give g q x0 x1).2.2.1 90 0 (fX6_give g q x0 x1).2.1 ∧ q1 = (fX6_give g q x0 x1).2.2.2) ∨ ((fX6_give g q x0 x1).1 ≠ 0 ∧ r = wf 1 9 2 (fX6_give g q x0 x1).1 ∧ g1 = g ∧ q1 = q))) 3 18 (sy_A Z) := by
  refine va_MetW (cc := cL_give) (maxL := 5) (ret := some .int) (by decide) rfl ?_
  intro p e s m args below meth c s₁ B hml hv
  obtain ⟨rfl, ⟨hE, hP⟩, hNc⟩ := hv
  have hx := B.exec
  have hb := B.bytes
  have hr := B.returns
  have hts := atoms_spec (ws := uW (.codeWith yL_give cL_give 5 (some .int) [(0, 10, 13, 13), (0, 10, 17, 17)])) B.pre
  have hown : s.vm.findClass RL = some m.cls := findClass_of_methodNamed B.named
  have hlocks := B.notSynchronized
  have htab := vx_table (x := yL_give) B (hts _ List.mem_cons_self)
  have hS : va_S (sy_A Z) s.heap s.heap [] := va_S.rf
  have hl := lv_entry ([.ref (ad 60), .int x0, .int x1, .ref (ad 90)]) (n := 5) (Nat.le_of_ble_eq_true rfl)
  rw [lg_entry_eq]
  generalize (lg_sl ([.ref (ad 60), .int x0, .int x1, .ref (ad 90)]) ++ List.replicate (5 - (lg_sl ([.ref (ad 60), .int x0, .int x1, .ref (ad 90)])).length) Slot.unset).toArray = ls at hl ⊢
  have hl : lv_has ls 5 [(0, .ref (ad 60)), (1, .int x0), (2, .int x1), (3, .ref (ad 90))] := hl
  refine lv_aload_n hx hb dL_give_0 rfl (lv_at hl 3 rfl) ?_
  refine lv_iconst (v := 0) hx hb dL_give_1 (by decide) ?_
  refine lv_aload_n hx hb dL_give_2 rfl (lv_at hl 0 rfl) ?_
  refine lv_iload_n hx hb dL_give_3 rfl (lv_at hl 1 rfl) ?_
  refine lv_iload_n hx hb dL_give_4 rfl (lv_at hl 2 rfl) ?_
  refine vx_calli (sy_xV (o := 60) (As := [.int x0, .int x1]) (rest := [.int 0, .ref (ad 90)]) ⟨hx, hb, hml, hown, hts⟩ hE hP hS (mX6_give l hfl Z nT nK cT cK ad g q x0 x1 hT hG hQ) (cwV 2 hts (gu_V uk_3_225 uk_3_226 uk_3_227 uk_1_1 uk_3_228) rfl rfl rfl (by decide +kernel) ⟨Nat.le_of_ble_eq_true rfl, Nat.le_of_ble_eq_true rfl⟩) (sy_recv (kc := 7) hE hP rfl (by decide) rfl rfl rfl) rfl hl.1 rfl (Nat.le_of_ble_eq_true rfl) dL_give_5 ⟨Nat.le_of_ble_eq_true rfl, Nat.le_of_ble_eq_true rfl⟩) hS (fun _ _ h => h) (fun _ h => h) (fun _ _ h => h) (fun E ce q9 u t H locs ht _ hpu hB _ _ hS hcell hv hcl => ?_) (fun r u t H locs ht _ hp hB _ _ hS => ?_)
  · obtain ⟨rfl, -, hB⟩ := hB
    rw [ht] at hB
    have hC9 := hC
    rw [← hpu] at hC9
    rcases exc_c hC9 with ⟨rfl, hc, h9⟩ | ⟨rfl, hc, h9⟩ | ⟨rfl, hc, h9⟩
    · refine vx_catch (own := RL) (name := "java/lang/IndexOutOfBoundsException") hown ([] : List ExceptionTableEntry) (⟨0, 10, 13, 13⟩ : ExceptionTableEntry) [⟨0, 10, 17, 17⟩] (htab.trans rfl) (fun z hz => nomatch hz) rfl (by decide) (hts _ (u_in uk_1_199)) (va_Nw.use rfl (hE.2.2.2.2.2 _ un_1_211)) hcell hv hcl ?_
      refine lv_astore (lv' := [(4, .ref q9), (0, .ref (ad 60)), (1, .int x0), (2, .int x1), (3, .ref (ad 90))]) hx hb dL_give_13 hl (by decide) rfl (fun ls hl => ?_)
      refine lv_iconst (v := 1) hx hb dL_give_15 (by decide) ?_
      exact sy_ireti hx hb hr hlocks hE hB hS dL_give_16 ⟨Nat.le_of_ble_eq_true rfl, Nat.le_of_ble_eq_true rfl⟩ (Or.inr ⟨by rw [← hpu]; decide, by rw [← hpu]; rfl, rfl, rfl⟩)
    · exact absurd rfl h9
    · refine vx_catch (own := RL) (name := "java/lang/IllegalStateException") hown ([⟨0, 10, 13, 13⟩] : List ExceptionTableEntry) (⟨0, 10, 17, 17⟩ : ExceptionTableEntry) [] (htab.trans rfl) (fun z hz => by
            rcases List.mem_cons.mp hz with rfl | hz
            · exact Or.inr ⟨by decide, "java/lang/IndexOutOfBoundsException", hts _ (u_in uk_1_199), hNc.2.1⟩
            · cases hz) rfl (by decide) (hts _ (u_in uk_1_201)) (va_Nw.use rfl (hE.2.2.2.2.2 _ un_2_59)) hcell hv hcl ?_
      refine lv_astore (lv' := [(4, .ref q9), (0, .ref (ad 60)), (1, .int x0), (2, .int x1), (3, .ref (ad 90))]) hx hb dL_give_17 hl (by decide) rfl (fun ls hl => ?_)
      refine lv_iconst (v := 2) hx hb dL_give_19 (by decide) ?_
      exact sy_ireti hx hb hr hlocks hE hB hS dL_give_20 ⟨Nat.le_of_ble_eq_true rfl, Nat.le_of_ble_eq_true rfl⟩ (Or.inr ⟨by rw [← hpu]; decide, by rw [← hpu]; rfl, rfl, rfl⟩)
  · skip
    obtain ⟨g1, q1⟩ := u
    have hP := hB.2
    rw [ht] at hP
    dsimp only at hp hP
    refine lv_i2l hx hb dL_give_8 rfl ?_
    refine sy_last hx hb hE hP hS 90 rfl (i := 0) (k_in rfl) dL_give_9 (fun H locs hP hS => ?_)
    refine lv_goto (tgt := 21) hx hb dL_give_10 (by decide) ?_
    refine lv_iconst (v := 0) hx hb dL_give_21 (by decide) ?_
    exact sy_ireti hx hb hr hlocks hE hP hS dL_give_22 ⟨Nat.le_of_ble_eq_true rfl, Nat.le_of_ble_eq_true rfl⟩ (Or.inl ⟨by rw [← hp], rfl, by rw [← hp]; rfl, by rw [← hp]⟩)
set_option maxHeartbeats 4000000 in
set_option maxRecDepth 100000 in
theorem mL_notice (l : Launch) (hfl : l.stackTraces = false) (Z : sZ) (nT nK cT cK : Nat) (ad : Nat → Nat) (g : sG) (q : sQ) (x0 x1 : Int32) (hT : nT ≤ 100) (hG : IG nT nK cT cK g) (hQ : IQ nT nK q) (hC : wf 1 9 2 (fX6_notice g q x0 x1).1 ≠ 9) : Met l yL_notice (uW (.codeWith yL_notice cL_notice 4 (some .int) [(0, 6, 9, 13), (0, 6, 12, 17)])) { frames := 9, cells := 3, slots := 18, locals := 146 } (va_Pc [.ref (ad 60), .int x0, .int x1] (sPreL Z nT nK cT cK ad g q)) (sQi Z nT nK cT cK ad (fun r g1 q1 => ((fX6_notice g q x0 x1).1 = 0 ∧ r = 0 ∧ g1 = (fX6_notice g q x0 x1).2.1 ∧ q1 = (fX6_notice g q x0 x1).2.2) ∨ ((fX6_notice g q x0 x1).1 ≠ 0 ∧ r = wf 1 9 2 (fX6_notice g q x0 x1).1 ∧ g1 = g ∧ q1 = q))) 3 18 (sy_A Z) := by
  refine va_MetW (cc := cL_notice) (maxL := 4) (ret := some .int) (by decide) rfl ?_
  intro p e s m args below meth c s₁ B hml hv
  obtain ⟨rfl, ⟨hE, hP⟩, hNc⟩ := hv
  have hx := B.exec
  have hb := B.bytes
  have hr := B.returns
  have hts := atoms_spec (ws := uW (.codeWith yL_notice cL_notice 4 (some .int) [(0, 6, 9, 13), (0, 6, 12, 17)])) B.pre
  have hown : s.vm.findClass RL = some m.cls := findClass_of_methodNamed B.named
  have hlocks := B.notSynchronized
  have htab := vx_table (x := yL_notice) B (hts _ List.mem_cons_self)
  have hS : va_S (sy_A Z) s.heap s.heap [] := va_S.rf
  have hl := lv_entry ([.ref (ad 60), .int x0, .int x1]) (n := 4) (Nat.le_of_ble_eq_true rfl)
  rw [lg_entry_eq]
  generalize (lg_sl ([.ref (ad 60), .int x0, .int x1]) ++ List.replicate (4 - (lg_sl ([.ref (ad 60), .int x0, .int x1])).length) Slot.unset).toArray = ls at hl ⊢
  have hl : lv_has ls 4 [(0, .ref (ad 60)), (1, .int x0), (2, .int x1)] := hl
  refine lv_aload_n hx hb dL_notice_0 rfl (lv_at hl 0 rfl) ?_
  refine lv_iload_n hx hb dL_notice_1 rfl (lv_at hl 1 rfl) ?_
  refine lv_iload_n hx hb dL_notice_2 rfl (lv_at hl 2 rfl) ?_
  refine vx_callv (sy_xV (o := 60) (As := [.int x0, .int x1]) (rest := []) ⟨hx, hb, hml, hown, hts⟩ hE hP hS (mX6_notice l hfl Z nT nK cT cK ad g q x0 x1 hT hG hQ) (cwV 2 hts (gu_V uk_3_236 uk_3_237 uk_3_238 uk_1_1 uk_3_239) rfl rfl rfl (by decide +kernel) ⟨Nat.le_of_ble_eq_true rfl, Nat.le_of_ble_eq_true rfl⟩) (sy_recv (kc := 7) hE hP rfl (by decide) rfl rfl rfl) rfl hl.1 rfl (Nat.le_of_ble_eq_true rfl) dL_notice_3 ⟨Nat.le_of_ble_eq_true rfl, Nat.le_of_ble_eq_true rfl⟩) hS (fun _ _ h => h) (fun _ h => h) (fun _ _ h => h) (fun E ce q9 u t H locs ht _ hpu hB _ _ hS hcell hv hcl => ?_) (fun u t H locs ht _ hp hB _ _ hS => ?_)
  · obtain ⟨rfl, -, hB⟩ := hB
    rw [ht] at hB
    have hC9 := hC
    rw [← hpu] at hC9
    rcases exc_c hC9 with ⟨rfl, hc, h9⟩ | ⟨rfl, hc, h9⟩ | ⟨rfl, hc, h9⟩
    · refine vx_catch (own := RL) (name := "java/lang/IndexOutOfBoundsException") hown ([] : List ExceptionTableEntry) (⟨0, 6, 9, 13⟩ : ExceptionTableEntry) [⟨0, 6, 12, 17⟩] (htab.trans rfl) (fun z hz => nomatch hz) rfl (by decide) (hts _ (u_in uk_1_199)) (va_Nw.use rfl (hE.2.2.2.2.2 _ un_1_211)) hcell hv hcl ?_
      refine lv_astore_n (lv' := [(3, .ref q9), (0, .ref (ad 60)), (1, .int x0), (2, .int x1)]) hx hb dL_notice_9 rfl hl (by decide) rfl (fun ls hl => ?_)
      refine lv_iconst (v := 1) hx hb dL_notice_10 (by decide) ?_
      exact sy_ireti hx hb hr hlocks hE hB hS dL_notice_11 ⟨Nat.le_of_ble_eq_true rfl, Nat.le_of_ble_eq_true rfl⟩ (Or.inr ⟨by rw [← hpu]; decide, by rw [← hpu]; rfl, rfl, rfl⟩)
    · exact absurd rfl h9
    · refine vx_catch (own := RL) (name := "java/lang/IllegalStateException") hown ([⟨0, 6, 9, 13⟩] : List ExceptionTableEntry) (⟨0, 6, 12, 17⟩ : ExceptionTableEntry) [] (htab.trans rfl) (fun z hz => by
            rcases List.mem_cons.mp hz with rfl | hz
            · exact Or.inr ⟨by decide, "java/lang/IndexOutOfBoundsException", hts _ (u_in uk_1_199), hNc.2.1⟩
            · cases hz) rfl (by decide) (hts _ (u_in uk_1_201)) (va_Nw.use rfl (hE.2.2.2.2.2 _ un_2_59)) hcell hv hcl ?_
      refine lv_astore_n (lv' := [(3, .ref q9), (0, .ref (ad 60)), (1, .int x0), (2, .int x1)]) hx hb dL_notice_12 rfl hl (by decide) rfl (fun ls hl => ?_)
      refine lv_iconst (v := 2) hx hb dL_notice_13 (by decide) ?_
      exact sy_ireti hx hb hr hlocks hE hB hS dL_notice_14 ⟨Nat.le_of_ble_eq_true rfl, Nat.le_of_ble_eq_true rfl⟩ (Or.inr ⟨by rw [← hpu]; decide, by rw [← hpu]; rfl, rfl, rfl⟩)
  · skip
    obtain ⟨g1, q1⟩ := u
    have hP := hB.2
    rw [ht] at hP
    dsimp only at hp hP
    refine lv_goto (tgt := 15) hx hb dL_notice_6 (by decide) ?_
    refine lv_iconst (v := 0) hx hb dL_notice_15 (by decide) ?_
    exact sy_ireti hx hb hr hlocks hE hP hS dL_notice_16 ⟨Nat.le_of_ble_eq_true rfl, Nat.le_of_ble_eq_true rfl⟩ (Or.inl ⟨by rw [← hp], rfl, by rw [← hp], by rw [← hp]⟩)
set_option maxHeartbeats 4000000 in
set_option maxRecDepth 100000 in
theorem mL_show (l : Launch) (hfl : l.stackTraces = false) (Z : sZ) (nT nK cT cK : Nat) (ad : Nat → Nat) (g : sG) (q : sQ) (x0 : Int32) (hT : nT ≤ 100) (hG : IG nT nK cT cK g) (hQ : IQ nT nK q) (hC : wf 1 9 2 (fX6_show g q x0).1 ≠ 9) : Met l yL_show (uW (.codeWith yL_show cL_show 4 (some .int) [(0, 9, 12, 13), (0, 9, 15, 17)])) { frames := 9, cells := 2, slots := 12, locals := 146 } (va_Pc [.ref (ad 60), .int x0, .ref (ad 90)] (sPreL Z nT nK cT cK ad g q)) (sQi Z nT nK cT cK ad (fun r g1 q1 => ((fX6_show g q x0).1 = 0 ∧ r = 0 ∧ g1 = sy_up (fX6_show g q x0).2.2.1 90 0 (fX6_show g q x0).2.1 ∧ q1 = (fX6_show g q x0).2.2.2) ∨ ((fX6_show g q x0).1 ≠ 0 ∧ r = wf 1 9 2 (fX6_show g q x0).1 ∧ g1 = g ∧ q1 = q))) 2 12 (sy_A Z) := by
  refine va_MetW (cc := cL_show) (maxL := 4) (ret := some .int) (by decide) rfl ?_
  intro p e s m args below meth c s₁ B hml hv
  obtain ⟨rfl, ⟨hE, hP⟩, hNc⟩ := hv
  have hx := B.exec
  have hb := B.bytes
  have hr := B.returns
  have hts := atoms_spec (ws := uW (.codeWith yL_show cL_show 4 (some .int) [(0, 9, 12, 13), (0, 9, 15, 17)])) B.pre
  have hown : s.vm.findClass RL = some m.cls := findClass_of_methodNamed B.named
  have hlocks := B.notSynchronized
  have htab := vx_table (x := yL_show) B (hts _ List.mem_cons_self)
  have hS : va_S (sy_A Z) s.heap s.heap [] := va_S.rf
  have hl := lv_entry ([.ref (ad 60), .int x0, .ref (ad 90)]) (n := 4) (Nat.le_of_ble_eq_true rfl)
  rw [lg_entry_eq]
  generalize (lg_sl ([.ref (ad 60), .int x0, .ref (ad 90)]) ++ List.replicate (4 - (lg_sl ([.ref (ad 60), .int x0, .ref (ad 90)])).length) Slot.unset).toArray = ls at hl ⊢
  have hl : lv_has ls 4 [(0, .ref (ad 60)), (1, .int x0), (2, .ref (ad 90))] := hl
  refine lv_aload_n hx hb dL_show_0 rfl (lv_at hl 2 rfl) ?_
  refine lv_iconst (v := 0) hx hb dL_show_1 (by decide) ?_
  refine lv_aload_n hx hb dL_show_2 rfl (lv_at hl 0 rfl) ?_
  refine lv_iload_n hx hb dL_show_3 rfl (lv_at hl 1 rfl) ?_
  refine vx_calli (sy_xV (o := 60) (As := [.int x0]) (rest := [.int 0, .ref (ad 90)]) ⟨hx, hb, hml, hown, hts⟩ hE hP hS (mX6_show l hfl Z nT nK cT cK ad g q x0 hT hG hQ) (cwV 1 hts (gu_V uk_4_4 uk_4_5 uk_4_6 uk_1_1 uk_4_7) rfl rfl rfl (by decide +kernel) ⟨Nat.le_of_ble_eq_true rfl, Nat.le_of_ble_eq_true rfl⟩) (sy_recv (kc := 7) hE hP rfl (by decide) rfl rfl rfl) rfl hl.1 rfl (Nat.le_of_ble_eq_true rfl) dL_show_4 ⟨Nat.le_of_ble_eq_true rfl, Nat.le_of_ble_eq_true rfl⟩) hS (fun _ _ h => h) (fun _ h => h) (fun _ _ h => h) (fun E ce q9 u t H locs ht _ hpu hB _ _ hS hcell hv hcl => ?_) (fun r u t H locs ht _ hp hB _ _ hS => ?_)
  · obtain ⟨rfl, -, hB⟩ := hB
    rw [ht] at hB
    have hC9 := hC
    rw [← hpu] at hC9
    rcases exc_c hC9 with ⟨rfl, hc, h9⟩ | ⟨rfl, hc, h9⟩ | ⟨rfl, hc, h9⟩
    · refine vx_catch (own := RL) (name := "java/lang/IndexOutOfBoundsException") hown ([] : List ExceptionTableEntry) (⟨0, 9, 12, 13⟩ : ExceptionTableEntry) [⟨0, 9, 15, 17⟩] (htab.trans rfl) (fun z hz => nomatch hz) rfl (by decide) (hts _ (u_in uk_1_199)) (va_Nw.use rfl (hE.2.2.2.2.2 _ un_1_211)) hcell hv hcl ?_
      refine lv_astore_n (lv' := [(3, .ref q9), (0, .ref (ad 60)), (1, .int x0), (2, .ref (ad 90))]) hx hb dL_show_12 rfl hl (by decide) rfl (fun ls hl => ?_)
      refine lv_iconst (v := 1) hx hb dL_show_13 (by decide) ?_
      exact sy_ireti hx hb hr hlocks hE hB hS dL_show_14 ⟨Nat.le_of_ble_eq_true rfl, Nat.le_of_ble_eq_true rfl⟩ (Or.inr ⟨by rw [← hpu]; decide, by rw [← hpu]; rfl, rfl, rfl⟩)
    · exact absurd rfl h9
    · refine vx_catch (own := RL) (name := "java/lang/IllegalStateException") hown ([⟨0, 9, 12, 13⟩] : List ExceptionTableEntry) (⟨0, 9, 15, 17⟩ : ExceptionTableEntry) [] (htab.trans rfl) (fun z hz => by
            rcases List.mem_cons.mp hz with rfl | hz
            · exact Or.inr ⟨by decide, "java/lang/IndexOutOfBoundsException", hts _ (u_in uk_1_199), hNc.2.1⟩
            · cases hz) rfl (by decide) (hts _ (u_in uk_1_201)) (va_Nw.use rfl (hE.2.2.2.2.2 _ un_2_59)) hcell hv hcl ?_
      refine lv_astore_n (lv' := [(3, .ref q9), (0, .ref (ad 60)), (1, .int x0), (2, .ref (ad 90))]) hx hb dL_show_15 rfl hl (by decide) rfl (fun ls hl => ?_)
      refine lv_iconst (v := 2) hx hb dL_show_16 (by decide) ?_
      exact sy_ireti hx hb hr hlocks hE hB hS dL_show_17 ⟨Nat.le_of_ble_eq_true rfl, Nat.le_of_ble_eq_true rfl⟩ (Or.inr ⟨by rw [← hpu]; decide, by rw [← hpu]; rfl, rfl, rfl⟩)
  · skip
    obtain ⟨g1, q1⟩ := u
    have hP := hB.2
    rw [ht] at hP
    dsimp only at hp hP
    refine lv_i2l hx hb dL_show_7 rfl ?_
    refine sy_last hx hb hE hP hS 90 rfl (i := 0) (k_in rfl) dL_show_8 (fun H locs hP hS => ?_)
    refine lv_goto (tgt := 18) hx hb dL_show_9 (by decide) ?_
    refine lv_iconst (v := 0) hx hb dL_show_18 (by decide) ?_
    exact sy_ireti hx hb hr hlocks hE hP hS dL_show_19 ⟨Nat.le_of_ble_eq_true rfl, Nat.le_of_ble_eq_true rfl⟩ (Or.inl ⟨by rw [← hp], rfl, by rw [← hp]; rfl, by rw [← hp]⟩)
set_option maxHeartbeats 4000000 in
set_option maxRecDepth 100000 in
theorem mL_police (l : Launch) (hfl : l.stackTraces = false) (Z : sZ) (nT nK cT cK : Nat) (ad : Nat → Nat) (g : sG) (q : sQ) (x0 : Int32) (hT : nT ≤ 100) (hG : IG nT nK cT cK g) (hQ : IQ nT nK q) (hC : wf 1 9 2 (fX6_police g q x0).1 ≠ 9) : Met l yL_police (uW (.codeWith yL_police cL_police 4 (some .int) [(0, 9, 12, 13), (0, 9, 15, 17)])) { frames := 9, cells := 2, slots := 12, locals := 145 } (va_Pc [.ref (ad 60), .int x0, .ref (ad 90)] (sPreL Z nT nK cT cK ad g q)) (sQi Z nT nK cT cK ad (fun r g1 q1 => ((fX6_police g q x0).1 = 0 ∧ r = 0 ∧ g1 = sy_up (fX6_police g q x0).2.2.1 90 0 (fX6_police g q x0).2.1 ∧ q1 = (fX6_police g q x0).2.2.2) ∨ ((fX6_police g q x0).1 ≠ 0 ∧ r = wf 1 9 2 (fX6_police g q x0).1 ∧ g1 = g ∧ q1 = q))) 2 12 (sy_A Z) := by
  refine va_MetW (cc := cL_police) (maxL := 4) (ret := some .int) (by decide) rfl ?_
  intro p e s m args below meth c s₁ B hml hv
  obtain ⟨rfl, ⟨hE, hP⟩, hNc⟩ := hv
  have hx := B.exec
  have hb := B.bytes
  have hr := B.returns
  have hts := atoms_spec (ws := uW (.codeWith yL_police cL_police 4 (some .int) [(0, 9, 12, 13), (0, 9, 15, 17)])) B.pre
  have hown : s.vm.findClass RL = some m.cls := findClass_of_methodNamed B.named
  have hlocks := B.notSynchronized
  have htab := vx_table (x := yL_police) B (hts _ List.mem_cons_self)
  have hS : va_S (sy_A Z) s.heap s.heap [] := va_S.rf
  have hl := lv_entry ([.ref (ad 60), .int x0, .ref (ad 90)]) (n := 4) (Nat.le_of_ble_eq_true rfl)
  rw [lg_entry_eq]
  generalize (lg_sl ([.ref (ad 60), .int x0, .ref (ad 90)]) ++ List.replicate (4 - (lg_sl ([.ref (ad 60), .int x0, .ref (ad 90)])).length) Slot.unset).toArray = ls at hl ⊢
  have hl : lv_has ls 4 [(0, .ref (ad 60)), (1, .int x0), (2, .ref (ad 90))] := hl
  refine lv_aload_n hx hb dL_police_0 rfl (lv_at hl 2 rfl) ?_
  refine lv_iconst (v := 0) hx hb dL_police_1 (by decide) ?_
  refine lv_aload_n hx hb dL_police_2 rfl (lv_at hl 0 rfl) ?_
  refine lv_iload_n hx hb dL_police_3 rfl (lv_at hl 1 rfl) ?_
  refine vx_calli (sy_xV (o := 60) (As := [.int x0]) (rest := [.int 0, .ref (ad 90)]) ⟨hx, hb, hml, hown, hts⟩ hE hP hS (mX6_police l hfl Z nT nK cT cK ad g q x0 hT hG hQ) (cwV 1 hts (gu_V uk_4_11 uk_4_12 uk_4_13 uk_1_1 uk_4_14) rfl rfl rfl (by decide +kernel) ⟨Nat.le_of_ble_eq_true rfl, Nat.le_of_ble_eq_true rfl⟩) (sy_recv (kc := 7) hE hP rfl (by decide) rfl rfl rfl) rfl hl.1 rfl (Nat.le_of_ble_eq_true rfl) dL_police_4 ⟨Nat.le_of_ble_eq_true rfl, Nat.le_of_ble_eq_true rfl⟩) hS (fun _ _ h => h) (fun _ h => h) (fun _ _ h => h) (fun E ce q9 u t H locs ht _ hpu hB _ _ hS hcell hv hcl => ?_) (fun r u t H locs ht _ hp hB _ _ hS => ?_)
  · obtain ⟨rfl, -, hB⟩ := hB
    rw [ht] at hB
    have hC9 := hC
    rw [← hpu] at hC9
    rcases exc_c hC9 with ⟨rfl, hc, h9⟩ | ⟨rfl, hc, h9⟩ | ⟨rfl, hc, h9⟩
    · refine vx_catch (own := RL) (name := "java/lang/IndexOutOfBoundsException") hown ([] : List ExceptionTableEntry) (⟨0, 9, 12, 13⟩ : ExceptionTableEntry) [⟨0, 9, 15, 17⟩] (htab.trans rfl) (fun z hz => nomatch hz) rfl (by decide) (hts _ (u_in uk_1_199)) (va_Nw.use rfl (hE.2.2.2.2.2 _ un_1_211)) hcell hv hcl ?_
      refine lv_astore_n (lv' := [(3, .ref q9), (0, .ref (ad 60)), (1, .int x0), (2, .ref (ad 90))]) hx hb dL_police_12 rfl hl (by decide) rfl (fun ls hl => ?_)
      refine lv_iconst (v := 1) hx hb dL_police_13 (by decide) ?_
      exact sy_ireti hx hb hr hlocks hE hB hS dL_police_14 ⟨Nat.le_of_ble_eq_true rfl, Nat.le_of_ble_eq_true rfl⟩ (Or.inr ⟨by rw [← hpu]; decide, by rw [← hpu]; rfl, rfl, rfl⟩)
    · exact absurd rfl h9
    · refine vx_catch (own := RL) (name := "java/lang/IllegalStateException") hown ([⟨0, 9, 12, 13⟩] : List ExceptionTableEntry) (⟨0, 9, 15, 17⟩ : ExceptionTableEntry) [] (htab.trans rfl) (fun z hz => by
            rcases List.mem_cons.mp hz with rfl | hz
            · exact Or.inr ⟨by decide, "java/lang/IndexOutOfBoundsException", hts _ (u_in uk_1_199), hNc.2.1⟩
            · cases hz) rfl (by decide) (hts _ (u_in uk_1_201)) (va_Nw.use rfl (hE.2.2.2.2.2 _ un_2_59)) hcell hv hcl ?_
      refine lv_astore_n (lv' := [(3, .ref q9), (0, .ref (ad 60)), (1, .int x0), (2, .ref (ad 90))]) hx hb dL_police_15 rfl hl (by decide) rfl (fun ls hl => ?_)
      refine lv_iconst (v := 2) hx hb dL_police_16 (by decide) ?_
      exact sy_ireti hx hb hr hlocks hE hB hS dL_police_17 ⟨Nat.le_of_ble_eq_true rfl, Nat.le_of_ble_eq_true rfl⟩ (Or.inr ⟨by rw [← hpu]; decide, by rw [← hpu]; rfl, rfl, rfl⟩)
  · skip
    obtain ⟨g1, q1⟩ := u
    have hP := hB.2
    rw [ht] at hP
    dsimp only at hp hP
    refine lv_i2l hx hb dL_police_7 rfl ?_
    refine sy_last hx hb hE hP hS 90 rfl (i := 0) (k_in rfl) dL_police_8 (fun H locs hP hS => ?_)
    refine lv_goto (tgt := 18) hx hb dL_police_9 (by decide) ?_
    refine lv_iconst (v := 0) hx hb dL_police_18 (by decide) ?_
    exact sy_ireti hx hb hr hlocks hE hP hS dL_police_19 ⟨Nat.le_of_ble_eq_true rfl, Nat.le_of_ble_eq_true rfl⟩ (Or.inl ⟨by rw [← hp], rfl, by rw [← hp]; rfl, by rw [← hp]⟩)
set_option maxHeartbeats 4000000 in
set_option maxRecDepth 100000 in
theorem mL_court (l : Launch) (hfl : l.stackTraces = false) (Z : sZ) (nT nK cT cK : Nat) (ad : Nat → Nat) (g : sG) (q : sQ) (x0 x1 : Int32) (hT : nT ≤ 100) (hG : IG nT nK cT cK g) (hQ : IQ nT nK q) (hC : wf 1 9 2 (fX6_court g q x0 x1).1 ≠ 9) : Met l yL_court (uW (.codeWith yL_court cL_court 5 (some .int) [(0, 10, 13, 13), (0, 10, 17, 17)])) { frames := 9, cells := 2, slots := 12, locals := 147 } (va_Pc [.ref (ad 60), .int x0, .int x1, .ref (ad 90)] (sPreL Z nT nK cT cK ad g q)) (sQi Z nT nK cT cK ad (fun r g1 q1 => ((fX6_court g q x0 x1).1 = 0 ∧ r = 0 ∧ g1 = sy_up (fX6_court g q x0 x1).2.2.1 90 0 (fX6_court g q x0 x1).2.1 ∧ q1 = (fX6_court g q x0 x1).2.2.2) ∨ ((fX6_court g q x0 x1).1 ≠ 0 ∧ r = wf 1 9 2 (fX6_court g q x0 x1).1 ∧ g1 = g ∧ q1 = q))) 2 12 (sy_A Z) := by
  refine va_MetW (cc := cL_court) (maxL := 5) (ret := some .int) (by decide) rfl ?_
  intro p e s m args below meth c s₁ B hml hv
  obtain ⟨rfl, ⟨hE, hP⟩, hNc⟩ := hv
  have hx := B.exec
  have hb := B.bytes
  have hr := B.returns
  have hts := atoms_spec (ws := uW (.codeWith yL_court cL_court 5 (some .int) [(0, 10, 13, 13), (0, 10, 17, 17)])) B.pre
  have hown : s.vm.findClass RL = some m.cls := findClass_of_methodNamed B.named
  have hlocks := B.notSynchronized
  have htab := vx_table (x := yL_court) B (hts _ List.mem_cons_self)
  have hS : va_S (sy_A Z) s.heap s.heap [] := va_S.rf
  have hl := lv_entry ([.ref (ad 60), .int x0, .int x1, .ref (ad 90)]) (n := 5) (Nat.le_of_ble_eq_true rfl)
  rw [lg_entry_eq]
  generalize (lg_sl ([.ref (ad 60), .int x0, .int x1, .ref (ad 90)]) ++ List.replicate (5 - (lg_sl ([.ref (ad 60), .int x0, .int x1, .ref (ad 90)])).length) Slot.unset).toArray = ls at hl ⊢
  have hl : lv_has ls 5 [(0, .ref (ad 60)), (1, .int x0), (2, .int x1), (3, .ref (ad 90))] := hl
  refine lv_aload_n hx hb dL_court_0 rfl (lv_at hl 3 rfl) ?_
  refine lv_iconst (v := 0) hx hb dL_court_1 (by decide) ?_
  refine lv_aload_n hx hb dL_court_2 rfl (lv_at hl 0 rfl) ?_
  refine lv_iload_n hx hb dL_court_3 rfl (lv_at hl 1 rfl) ?_
  refine lv_iload_n hx hb dL_court_4 rfl (lv_at hl 2 rfl) ?_
  refine vx_calli (sy_xV (o := 60) (As := [.int x0, .int x1]) (rest := [.int 0, .ref (ad 90)]) ⟨hx, hb, hml, hown, hts⟩ hE hP hS (mX6_court l hfl Z nT nK cT cK ad g q x0 x1 hT hG hQ) (cwV 2 hts (gu_V uk_4_22 uk_4_23 uk_4_24 uk_1_1 uk_4_25) rfl rfl rfl (by decide +kernel) ⟨Nat.le_of_ble_eq_true rfl, Nat.le_of_ble_eq_true rfl⟩) (sy_recv (kc := 7) hE hP rfl (by decide) rfl rfl rfl) rfl hl.1 rfl (Nat.le_of_ble_eq_true rfl) dL_court_5 ⟨Nat.le_of_ble_eq_true rfl, Nat.le_of_ble_eq_true rfl⟩) hS (fun _ _ h => h) (fun _ h => h) (fun _ _ h => h) (fun E ce q9 u t H locs ht _ hpu hB _ _ hS hcell hv hcl => ?_) (fun r u t H locs ht _ hp hB _ _ hS => ?_)
  · obtain ⟨rfl, -, hB⟩ := hB
    rw [ht] at hB
    have hC9 := hC
    rw [← hpu] at hC9
    rcases exc_c hC9 with ⟨rfl, hc, h9⟩ | ⟨rfl, hc, h9⟩ | ⟨rfl, hc, h9⟩
    · refine vx_catch (own := RL) (name := "java/lang/IndexOutOfBoundsException") hown ([] : List ExceptionTableEntry) (⟨0, 10, 13, 13⟩ : ExceptionTableEntry) [⟨0, 10, 17, 17⟩] (htab.trans rfl) (fun z hz => nomatch hz) rfl (by decide) (hts _ (u_in uk_1_199)) (va_Nw.use rfl (hE.2.2.2.2.2 _ un_1_211)) hcell hv hcl ?_
      refine lv_astore (lv' := [(4, .ref q9), (0, .ref (ad 60)), (1, .int x0), (2, .int x1), (3, .ref (ad 90))]) hx hb dL_court_13 hl (by decide) rfl (fun ls hl => ?_)
      refine lv_iconst (v := 1) hx hb dL_court_15 (by decide) ?_
      exact sy_ireti hx hb hr hlocks hE hB hS dL_court_16 ⟨Nat.le_of_ble_eq_true rfl, Nat.le_of_ble_eq_true rfl⟩ (Or.inr ⟨by rw [← hpu]; decide, by rw [← hpu]; rfl, rfl, rfl⟩)
    · exact absurd rfl h9
    · refine vx_catch (own := RL) (name := "java/lang/IllegalStateException") hown ([⟨0, 10, 13, 13⟩] : List ExceptionTableEntry) (⟨0, 10, 17, 17⟩ : ExceptionTableEntry) [] (htab.trans rfl) (fun z hz => by
            rcases List.mem_cons.mp hz with rfl | hz
            · exact Or.inr ⟨by decide, "java/lang/IndexOutOfBoundsException", hts _ (u_in uk_1_199), hNc.2.1⟩
            · cases hz) rfl (by decide) (hts _ (u_in uk_1_201)) (va_Nw.use rfl (hE.2.2.2.2.2 _ un_2_59)) hcell hv hcl ?_
      refine lv_astore (lv' := [(4, .ref q9), (0, .ref (ad 60)), (1, .int x0), (2, .int x1), (3, .ref (ad 90))]) hx hb dL_court_17 hl (by decide) rfl (fun ls hl => ?_)
      refine lv_iconst (v := 2) hx hb dL_court_19 (by decide) ?_
      exact sy_ireti hx hb hr hlocks hE hB hS dL_court_20 ⟨Nat.le_of_ble_eq_true rfl, Nat.le_of_ble_eq_true rfl⟩ (Or.inr ⟨by rw [← hpu]; decide, by rw [← hpu]; rfl, rfl, rfl⟩)
  · skip
    obtain ⟨g1, q1⟩ := u
    have hP := hB.2
    rw [ht] at hP
    dsimp only at hp hP
    refine lv_i2l hx hb dL_court_8 rfl ?_
    refine sy_last hx hb hE hP hS 90 rfl (i := 0) (k_in rfl) dL_court_9 (fun H locs hP hS => ?_)
    refine lv_goto (tgt := 21) hx hb dL_court_10 (by decide) ?_
    refine lv_iconst (v := 0) hx hb dL_court_21 (by decide) ?_
    exact sy_ireti hx hb hr hlocks hE hP hS dL_court_22 ⟨Nat.le_of_ble_eq_true rfl, Nat.le_of_ble_eq_true rfl⟩ (Or.inl ⟨by rw [← hp], rfl, by rw [← hp]; rfl, by rw [← hp]⟩)
set_option maxHeartbeats 4000000 in
set_option maxRecDepth 100000 in
theorem mL_stray (l : Launch) (hfl : l.stackTraces = false) (Z : sZ) (nT nK cT cK : Nat) (ad : Nat → Nat) (g : sG) (q : sQ) (x0 x1 x2 : Int32) (hT : nT ≤ 100) (hG : IG nT nK cT cK g) (hQ : IQ nT nK q) (hC : wf 1 9 2 (fX6_stray g q x0 x1 x2).1 ≠ 9) : Met l yL_stray (uW (.codeWith yL_stray cL_stray 5 (some .int) [(0, 7, 10, 13), (0, 7, 14, 17)])) { frames := 9, cells := 4, slots := 24, locals := 147 } (va_Pc [.ref (ad 60), .int x0, .int x1, .int x2] (sPreL Z nT nK cT cK ad g q)) (sQi Z nT nK cT cK ad (fun r g1 q1 => ((fX6_stray g q x0 x1 x2).1 = 0 ∧ r = 0 ∧ g1 = (fX6_stray g q x0 x1 x2).2.1 ∧ q1 = (fX6_stray g q x0 x1 x2).2.2) ∨ ((fX6_stray g q x0 x1 x2).1 ≠ 0 ∧ r = wf 1 9 2 (fX6_stray g q x0 x1 x2).1 ∧ g1 = g ∧ q1 = q))) 4 24 (sy_A Z) := by
  refine va_MetW (cc := cL_stray) (maxL := 5) (ret := some .int) (by decide) rfl ?_
  intro p e s m args below meth c s₁ B hml hv
  obtain ⟨rfl, ⟨hE, hP⟩, hNc⟩ := hv
  have hx := B.exec
  have hb := B.bytes
  have hr := B.returns
  have hts := atoms_spec (ws := uW (.codeWith yL_stray cL_stray 5 (some .int) [(0, 7, 10, 13), (0, 7, 14, 17)])) B.pre
  have hown : s.vm.findClass RL = some m.cls := findClass_of_methodNamed B.named
  have hlocks := B.notSynchronized
  have htab := vx_table (x := yL_stray) B (hts _ List.mem_cons_self)
  have hS : va_S (sy_A Z) s.heap s.heap [] := va_S.rf
  have hl := lv_entry ([.ref (ad 60), .int x0, .int x1, .int x2]) (n := 5) (Nat.le_of_ble_eq_true rfl)
  rw [lg_entry_eq]
  generalize (lg_sl ([.ref (ad 60), .int x0, .int x1, .int x2]) ++ List.replicate (5 - (lg_sl ([.ref (ad 60), .int x0, .int x1, .int x2])).length) Slot.unset).toArray = ls at hl ⊢
  have hl : lv_has ls 5 [(0, .ref (ad 60)), (1, .int x0), (2, .int x1), (3, .int x2)] := hl
  refine lv_aload_n hx hb dL_stray_0 rfl (lv_at hl 0 rfl) ?_
  refine lv_iload_n hx hb dL_stray_1 rfl (lv_at hl 1 rfl) ?_
  refine lv_iload_n hx hb dL_stray_2 rfl (lv_at hl 2 rfl) ?_
  refine lv_iload_n hx hb dL_stray_3 rfl (lv_at hl 3 rfl) ?_
  refine vx_callv (sy_xV (o := 60) (As := [.int x0, .int x1, .int x2]) (rest := []) ⟨hx, hb, hml, hown, hts⟩ hE hP hS (mX6_stray l hfl Z nT nK cT cK ad g q x0 x1 x2 hT hG hQ) (cwV 3 hts (gu_V uk_4_29 uk_4_30 uk_4_31 uk_1_1 uk_4_32) rfl rfl rfl (by decide +kernel) ⟨Nat.le_of_ble_eq_true rfl, Nat.le_of_ble_eq_true rfl⟩) (sy_recv (kc := 7) hE hP rfl (by decide) rfl rfl rfl) rfl hl.1 rfl (Nat.le_of_ble_eq_true rfl) dL_stray_4 ⟨Nat.le_of_ble_eq_true rfl, Nat.le_of_ble_eq_true rfl⟩) hS (fun _ _ h => h) (fun _ h => h) (fun _ _ h => h) (fun E ce q9 u t H locs ht _ hpu hB _ _ hS hcell hv hcl => ?_) (fun u t H locs ht _ hp hB _ _ hS => ?_)
  · obtain ⟨rfl, -, hB⟩ := hB
    rw [ht] at hB
    have hC9 := hC
    rw [← hpu] at hC9
    rcases exc_c hC9 with ⟨rfl, hc, h9⟩ | ⟨rfl, hc, h9⟩ | ⟨rfl, hc, h9⟩
    · refine vx_catch (own := RL) (name := "java/lang/IndexOutOfBoundsException") hown ([] : List ExceptionTableEntry) (⟨0, 7, 10, 13⟩ : ExceptionTableEntry) [⟨0, 7, 14, 17⟩] (htab.trans rfl) (fun z hz => nomatch hz) rfl (by decide) (hts _ (u_in uk_1_199)) (va_Nw.use rfl (hE.2.2.2.2.2 _ un_1_211)) hcell hv hcl ?_
      refine lv_astore (lv' := [(4, .ref q9), (0, .ref (ad 60)), (1, .int x0), (2, .int x1), (3, .int x2)]) hx hb dL_stray_10 hl (by decide) rfl (fun ls hl => ?_)
      refine lv_iconst (v := 1) hx hb dL_stray_12 (by decide) ?_
      exact sy_ireti hx hb hr hlocks hE hB hS dL_stray_13 ⟨Nat.le_of_ble_eq_true rfl, Nat.le_of_ble_eq_true rfl⟩ (Or.inr ⟨by rw [← hpu]; decide, by rw [← hpu]; rfl, rfl, rfl⟩)
    · exact absurd rfl h9
    · refine vx_catch (own := RL) (name := "java/lang/IllegalStateException") hown ([⟨0, 7, 10, 13⟩] : List ExceptionTableEntry) (⟨0, 7, 14, 17⟩ : ExceptionTableEntry) [] (htab.trans rfl) (fun z hz => by
            rcases List.mem_cons.mp hz with rfl | hz
            · exact Or.inr ⟨by decide, "java/lang/IndexOutOfBoundsException", hts _ (u_in uk_1_199), hNc.2.1⟩
            · cases hz) rfl (by decide) (hts _ (u_in uk_1_201)) (va_Nw.use rfl (hE.2.2.2.2.2 _ un_2_59)) hcell hv hcl ?_
      refine lv_astore (lv' := [(4, .ref q9), (0, .ref (ad 60)), (1, .int x0), (2, .int x1), (3, .int x2)]) hx hb dL_stray_14 hl (by decide) rfl (fun ls hl => ?_)
      refine lv_iconst (v := 2) hx hb dL_stray_16 (by decide) ?_
      exact sy_ireti hx hb hr hlocks hE hB hS dL_stray_17 ⟨Nat.le_of_ble_eq_true rfl, Nat.le_of_ble_eq_true rfl⟩ (Or.inr ⟨by rw [← hpu]; decide, by rw [← hpu]; rfl, rfl, rfl⟩)
  · skip
    obtain ⟨g1, q1⟩ := u
    have hP := hB.2
    rw [ht] at hP
    dsimp only at hp hP
    refine lv_goto (tgt := 18) hx hb dL_stray_7 (by decide) ?_
    refine lv_iconst (v := 0) hx hb dL_stray_18 (by decide) ?_
    exact sy_ireti hx hb hr hlocks hE hP hS dL_stray_19 ⟨Nat.le_of_ble_eq_true rfl, Nat.le_of_ble_eq_true rfl⟩ (Or.inl ⟨by rw [← hp], rfl, by rw [← hp], by rw [← hp]⟩)
set_option maxHeartbeats 4000000 in
set_option maxRecDepth 100000 in
theorem mL_count (l : Launch) (hfl : l.stackTraces = false) (Z : sZ) (nT nK cT cK : Nat) (ad : Nat → Nat) (g : sG) (q : sQ) (x0 : Int32) (hT : nT ≤ 100) (hG : IG nT nK cT cK g) (hQ : IQ nT nK q) (hC : wf 1 9 9 (fX6_count g q x0).1 ≠ 9) : Met l yL_count (uW (.codeWith yL_count cL_count 4 (some .int) [(0, 9, 12, 13)])) { frames := 8, cells := 1, slots := 6, locals := 127 } (va_Pc [.ref (ad 60), .int x0, .ref (ad 90)] (sPreL Z nT nK cT cK ad g q)) (sQi Z nT nK cT cK ad (fun r g1 q1 => ((fX6_count g q x0).1 = 0 ∧ r = 0 ∧ g1 = sy_up (fX6_count g q x0).2.2.1 90 0 (fX6_count g q x0).2.1 ∧ q1 = (fX6_count g q x0).2.2.2) ∨ ((fX6_count g q x0).1 ≠ 0 ∧ r = wf 1 9 9 (fX6_count g q x0).1 ∧ g1 = g ∧ q1 = q))) 1 6 (sy_A Z) := by
  refine va_MetW (cc := cL_count) (maxL := 4) (ret := some .int) (by decide) rfl ?_
  intro p e s m args below meth c s₁ B hml hv
  obtain ⟨rfl, ⟨hE, hP⟩, hNc⟩ := hv
  have hx := B.exec
  have hb := B.bytes
  have hr := B.returns
  have hts := atoms_spec (ws := uW (.codeWith yL_count cL_count 4 (some .int) [(0, 9, 12, 13)])) B.pre
  have hown : s.vm.findClass RL = some m.cls := findClass_of_methodNamed B.named
  have hlocks := B.notSynchronized
  have htab := vx_table (x := yL_count) B (hts _ List.mem_cons_self)
  have hS : va_S (sy_A Z) s.heap s.heap [] := va_S.rf
  have hl := lv_entry ([.ref (ad 60), .int x0, .ref (ad 90)]) (n := 4) (Nat.le_of_ble_eq_true rfl)
  rw [lg_entry_eq]
  generalize (lg_sl ([.ref (ad 60), .int x0, .ref (ad 90)]) ++ List.replicate (4 - (lg_sl ([.ref (ad 60), .int x0, .ref (ad 90)])).length) Slot.unset).toArray = ls at hl ⊢
  have hl : lv_has ls 4 [(0, .ref (ad 60)), (1, .int x0), (2, .ref (ad 90))] := hl
  refine lv_aload_n hx hb dL_count_0 rfl (lv_at hl 2 rfl) ?_
  refine lv_iconst (v := 0) hx hb dL_count_1 (by decide) ?_
  refine lv_aload_n hx hb dL_count_2 rfl (lv_at hl 0 rfl) ?_
  refine lv_iload_n hx hb dL_count_3 rfl (lv_at hl 1 rfl) ?_
  refine vx_calli (sy_xV (o := 60) (As := [.int x0]) (rest := [.int 0, .ref (ad 90)]) ⟨hx, hb, hml, hown, hts⟩ hE hP hS (mX6_count l hfl Z nT nK cT cK ad g q x0 hT hG hQ) (cwV 1 hts (gu_V uk_4_40 uk_4_41 uk_4_42 uk_1_1 uk_4_43) rfl rfl rfl (by decide +kernel) ⟨Nat.le_of_ble_eq_true rfl, Nat.le_of_ble_eq_true rfl⟩) (sy_recv (kc := 7) hE hP rfl (by decide) rfl rfl rfl) rfl hl.1 rfl (Nat.le_of_ble_eq_true rfl) dL_count_4 ⟨Nat.le_of_ble_eq_true rfl, Nat.le_of_ble_eq_true rfl⟩) hS (fun _ _ h => h) (fun _ h => h) (fun _ _ h => h) (fun E ce q9 u t H locs ht _ hpu hB _ _ hS hcell hv hcl => ?_) (fun r u t H locs ht _ hp hB _ _ hS => ?_)
  · obtain ⟨rfl, -, hB⟩ := hB
    rw [ht] at hB
    have hC9 := hC
    rw [← hpu] at hC9
    rcases exc_c hC9 with ⟨rfl, hc, h9⟩ | ⟨rfl, hc, h9⟩ | ⟨rfl, hc, h9⟩
    · refine vx_catch (own := RL) (name := "java/lang/IndexOutOfBoundsException") hown ([] : List ExceptionTableEntry) (⟨0, 9, 12, 13⟩ : ExceptionTableEntry) [] (htab.trans rfl) (fun z hz => nomatch hz) rfl (by decide) (hts _ (u_in uk_1_199)) (va_Nw.use rfl (hE.2.2.2.2.2 _ un_1_211)) hcell hv hcl ?_
      refine lv_astore_n (lv' := [(3, .ref q9), (0, .ref (ad 60)), (1, .int x0), (2, .ref (ad 90))]) hx hb dL_count_12 rfl hl (by decide) rfl (fun ls hl => ?_)
      refine lv_iconst (v := 1) hx hb dL_count_13 (by decide) ?_
      exact sy_ireti hx hb hr hlocks hE hB hS dL_count_14 ⟨Nat.le_of_ble_eq_true rfl, Nat.le_of_ble_eq_true rfl⟩ (Or.inr ⟨by rw [← hpu]; decide, by rw [← hpu]; rfl, rfl, rfl⟩)
    · exact absurd rfl h9
    · exact absurd rfl h9
  · skip
    obtain ⟨g1, q1⟩ := u
    have hP := hB.2
    rw [ht] at hP
    dsimp only at hp hP
    refine lv_i2l hx hb dL_count_7 rfl ?_
    refine sy_last hx hb hE hP hS 90 rfl (i := 0) (k_in rfl) dL_count_8 (fun H locs hP hS => ?_)
    refine lv_goto (tgt := 15) hx hb dL_count_9 (by decide) ?_
    refine lv_iconst (v := 0) hx hb dL_count_15 (by decide) ?_
    exact sy_ireti hx hb hr hlocks hE hP hS dL_count_16 ⟨Nat.le_of_ble_eq_true rfl, Nat.le_of_ble_eq_true rfl⟩ (Or.inl ⟨by rw [← hp], rfl, by rw [← hp]; rfl, by rw [← hp]⟩)
set_option maxHeartbeats 4000000 in
set_option maxRecDepth 100000 in
theorem mL_transfer (l : Launch) (hfl : l.stackTraces = false) (Z : sZ) (nT nK cT cK : Nat) (ad : Nat → Nat) (g : sG) (q : sQ) (x0 x1 : Int32) (hT : nT ≤ 100) (hG : IG nT nK cT cK g) (hQ : IQ nT nK q) (hC : wf 1 9 2 (fX6_transfer g q x0 x1).1 ≠ 9) : Met l yL_transfer (uW (.codeWith yL_transfer cL_transfer 5 (some .int) [(0, 10, 13, 13), (0, 10, 17, 17)])) { frames := 9, cells := 4, slots := 24, locals := 147 } (va_Pc [.ref (ad 60), .int x0, .int x1, .ref (ad 90)] (sPreL Z nT nK cT cK ad g q)) (sQi Z nT nK cT cK ad (fun r g1 q1 => ((fX6_transfer g q x0 x1).1 = 0 ∧ r = 0 ∧ g1 = sy_up (fX6_transfer g q x0 x1).2.2.1 90 0 (fX6_transfer g q x0 x1).2.1 ∧ q1 = (fX6_transfer g q x0 x1).2.2.2) ∨ ((fX6_transfer g q x0 x1).1 ≠ 0 ∧ r = wf 1 9 2 (fX6_transfer g q x0 x1).1 ∧ g1 = g ∧ q1 = q))) 4 24 (sy_A Z) := by
  refine va_MetW (cc := cL_transfer) (maxL := 5) (ret := some .int) (by decide) rfl ?_
  intro p e s m args below meth c s₁ B hml hv
  obtain ⟨rfl, ⟨hE, hP⟩, hNc⟩ := hv
  have hx := B.exec
  have hb := B.bytes
  have hr := B.returns
  have hts := atoms_spec (ws := uW (.codeWith yL_transfer cL_transfer 5 (some .int) [(0, 10, 13, 13), (0, 10, 17, 17)])) B.pre
  have hown : s.vm.findClass RL = some m.cls := findClass_of_methodNamed B.named
  have hlocks := B.notSynchronized
  have htab := vx_table (x := yL_transfer) B (hts _ List.mem_cons_self)
  have hS : va_S (sy_A Z) s.heap s.heap [] := va_S.rf
  have hl := lv_entry ([.ref (ad 60), .int x0, .int x1, .ref (ad 90)]) (n := 5) (Nat.le_of_ble_eq_true rfl)
  rw [lg_entry_eq]
  generalize (lg_sl ([.ref (ad 60), .int x0, .int x1, .ref (ad 90)]) ++ List.replicate (5 - (lg_sl ([.ref (ad 60), .int x0, .int x1, .ref (ad 90)])).length) Slot.unset).toArray = ls at hl ⊢
  have hl : lv_has ls 5 [(0, .ref (ad 60)), (1, .int x0), (2, .int x1), (3, .ref (ad 90))] := hl
  refine lv_aload_n hx hb dL_transfer_0 rfl (lv_at hl 3 rfl) ?_
  refine lv_iconst (v := 0) hx hb dL_transfer_1 (by decide) ?_
  refine lv_aload_n hx hb dL_transfer_2 rfl (lv_at hl 0 rfl) ?_
  refine lv_iload_n hx hb dL_transfer_3 rfl (lv_at hl 1 rfl) ?_
  refine lv_iload_n hx hb dL_transfer_4 rfl (lv_at hl 2 rfl) ?_
  refine vx_calli (sy_xV (o := 60) (As := [.int x0, .int x1]) (rest := [.int 0, .ref (ad 90)]) ⟨hx, hb, hml, hown, hts⟩ hE hP hS (mX6_transfer l hfl Z nT nK cT cK ad g q x0 x1 hT hG hQ) (cwV 2 hts (gu_V uk_4_50 uk_4_51 uk_4_52 uk_1_1 uk_4_53) rfl rfl rfl (by decide +kernel) ⟨Nat.le_of_ble_eq_true rfl, Nat.le_of_ble_eq_true rfl⟩) (sy_recv (kc := 7) hE hP rfl (by decide) rfl rfl rfl) rfl hl.1 rfl (Nat.le_of_ble_eq_true rfl) dL_transfer_5 ⟨Nat.le_of_ble_eq_true rfl, Nat.le_of_ble_eq_true rfl⟩) hS (fun _ _ h => h) (fun _ h => h) (fun _ _ h => h) (fun E ce q9 u t H locs ht _ hpu hB _ _ hS hcell hv hcl => ?_) (fun r u t H locs ht _ hp hB _ _ hS => ?_)
  · obtain ⟨rfl, -, hB⟩ := hB
    rw [ht] at hB
    have hC9 := hC
    rw [← hpu] at hC9
    rcases exc_c hC9 with ⟨rfl, hc, h9⟩ | ⟨rfl, hc, h9⟩ | ⟨rfl, hc, h9⟩
    · refine vx_catch (own := RL) (name := "java/lang/IndexOutOfBoundsException") hown ([] : List ExceptionTableEntry) (⟨0, 10, 13, 13⟩ : ExceptionTableEntry) [⟨0, 10, 17, 17⟩] (htab.trans rfl) (fun z hz => nomatch hz) rfl (by decide) (hts _ (u_in uk_1_199)) (va_Nw.use rfl (hE.2.2.2.2.2 _ un_1_211)) hcell hv hcl ?_
      refine lv_astore (lv' := [(4, .ref q9), (0, .ref (ad 60)), (1, .int x0), (2, .int x1), (3, .ref (ad 90))]) hx hb dL_transfer_13 hl (by decide) rfl (fun ls hl => ?_)
      refine lv_iconst (v := 1) hx hb dL_transfer_15 (by decide) ?_
      exact sy_ireti hx hb hr hlocks hE hB hS dL_transfer_16 ⟨Nat.le_of_ble_eq_true rfl, Nat.le_of_ble_eq_true rfl⟩ (Or.inr ⟨by rw [← hpu]; decide, by rw [← hpu]; rfl, rfl, rfl⟩)
    · exact absurd rfl h9
    · refine vx_catch (own := RL) (name := "java/lang/IllegalStateException") hown ([⟨0, 10, 13, 13⟩] : List ExceptionTableEntry) (⟨0, 10, 17, 17⟩ : ExceptionTableEntry) [] (htab.trans rfl) (fun z hz => by
            rcases List.mem_cons.mp hz with rfl | hz
            · exact Or.inr ⟨by decide, "java/lang/IndexOutOfBoundsException", hts _ (u_in uk_1_199), hNc.2.1⟩
            · cases hz) rfl (by decide) (hts _ (u_in uk_1_201)) (va_Nw.use rfl (hE.2.2.2.2.2 _ un_2_59)) hcell hv hcl ?_
      refine lv_astore (lv' := [(4, .ref q9), (0, .ref (ad 60)), (1, .int x0), (2, .int x1), (3, .ref (ad 90))]) hx hb dL_transfer_17 hl (by decide) rfl (fun ls hl => ?_)
      refine lv_iconst (v := 2) hx hb dL_transfer_19 (by decide) ?_
      exact sy_ireti hx hb hr hlocks hE hB hS dL_transfer_20 ⟨Nat.le_of_ble_eq_true rfl, Nat.le_of_ble_eq_true rfl⟩ (Or.inr ⟨by rw [← hpu]; decide, by rw [← hpu]; rfl, rfl, rfl⟩)
  · skip
    obtain ⟨g1, q1⟩ := u
    have hP := hB.2
    rw [ht] at hP
    dsimp only at hp hP
    refine lv_i2l hx hb dL_transfer_8 rfl ?_
    refine sy_last hx hb hE hP hS 90 rfl (i := 0) (k_in rfl) dL_transfer_9 (fun H locs hP hS => ?_)
    refine lv_goto (tgt := 21) hx hb dL_transfer_10 (by decide) ?_
    refine lv_iconst (v := 0) hx hb dL_transfer_21 (by decide) ?_
    exact sy_ireti hx hb hr hlocks hE hP hS dL_transfer_22 ⟨Nat.le_of_ble_eq_true rfl, Nat.le_of_ble_eq_true rfl⟩ (Or.inl ⟨by rw [← hp], rfl, by rw [← hp]; rfl, by rw [← hp]⟩)
set_option maxHeartbeats 4000000 in
set_option maxRecDepth 100000 in
theorem mL_wind (l : Launch) (hfl : l.stackTraces = false) (Z : sZ) (nT nK cT cK : Nat) (ad : Nat → Nat) (g : sG) (q : sQ) (x0 : Int32) (hT : nT ≤ 100) (hG : IG nT nK cT cK g) (hQ : IQ nT nK q) (hC : wf 1 9 9 (fX6_wind g q x0).1 ≠ 9) : Met l yL_wind (uW (.codeWith yL_wind cL_wind 4 (some .int) [(0, 9, 12, 13)])) { frames := 8, cells := 1, slots := 6, locals := 126 } (va_Pc [.ref (ad 60), .int x0, .ref (ad 90)] (sPreL Z nT nK cT cK ad g q)) (sQi Z nT nK cT cK ad (fun r g1 q1 => ((fX6_wind g q x0).1 = 0 ∧ r = 0 ∧ g1 = sy_up (fX6_wind g q x0).2.2.1 90 0 (fX6_wind g q x0).2.1 ∧ q1 = (fX6_wind g q x0).2.2.2) ∨ ((fX6_wind g q x0).1 ≠ 0 ∧ r = wf 1 9 9 (fX6_wind g q x0).1 ∧ g1 = g ∧ q1 = q))) 1 6 (sy_A Z) := by
  refine va_MetW (cc := cL_wind) (maxL := 4) (ret := some .int) (by decide) rfl ?_
  intro p e s m args below meth c s₁ B hml hv
  obtain ⟨rfl, ⟨hE, hP⟩, hNc⟩ := hv
  have hx := B.exec
  have hb := B.bytes
  have hr := B.returns
  have hts := atoms_spec (ws := uW (.codeWith yL_wind cL_wind 4 (some .int) [(0, 9, 12, 13)])) B.pre
  have hown : s.vm.findClass RL = some m.cls := findClass_of_methodNamed B.named
  have hlocks := B.notSynchronized
  have htab := vx_table (x := yL_wind) B (hts _ List.mem_cons_self)
  have hS : va_S (sy_A Z) s.heap s.heap [] := va_S.rf
  have hl := lv_entry ([.ref (ad 60), .int x0, .ref (ad 90)]) (n := 4) (Nat.le_of_ble_eq_true rfl)
  rw [lg_entry_eq]
  generalize (lg_sl ([.ref (ad 60), .int x0, .ref (ad 90)]) ++ List.replicate (4 - (lg_sl ([.ref (ad 60), .int x0, .ref (ad 90)])).length) Slot.unset).toArray = ls at hl ⊢
  have hl : lv_has ls 4 [(0, .ref (ad 60)), (1, .int x0), (2, .ref (ad 90))] := hl
  refine lv_aload_n hx hb dL_wind_0 rfl (lv_at hl 2 rfl) ?_
  refine lv_iconst (v := 0) hx hb dL_wind_1 (by decide) ?_
  refine lv_aload_n hx hb dL_wind_2 rfl (lv_at hl 0 rfl) ?_
  refine lv_iload_n hx hb dL_wind_3 rfl (lv_at hl 1 rfl) ?_
  refine vx_calli (sy_xV (o := 60) (As := [.int x0]) (rest := [.int 0, .ref (ad 90)]) ⟨hx, hb, hml, hown, hts⟩ hE hP hS (mX6_wind l hfl Z nT nK cT cK ad g q x0 hT hG hQ) (cwV 1 hts (gu_V uk_4_57 uk_4_58 uk_4_59 uk_1_1 uk_4_60) rfl rfl rfl (by decide +kernel) ⟨Nat.le_of_ble_eq_true rfl, Nat.le_of_ble_eq_true rfl⟩) (sy_recv (kc := 7) hE hP rfl (by decide) rfl rfl rfl) rfl hl.1 rfl (Nat.le_of_ble_eq_true rfl) dL_wind_4 ⟨Nat.le_of_ble_eq_true rfl, Nat.le_of_ble_eq_true rfl⟩) hS (fun _ _ h => h) (fun _ h => h) (fun _ _ h => h) (fun E ce q9 u t H locs ht _ hpu hB _ _ hS hcell hv hcl => ?_) (fun r u t H locs ht _ hp hB _ _ hS => ?_)
  · obtain ⟨rfl, -, hB⟩ := hB
    rw [ht] at hB
    have hC9 := hC
    rw [← hpu] at hC9
    rcases exc_c hC9 with ⟨rfl, hc, h9⟩ | ⟨rfl, hc, h9⟩ | ⟨rfl, hc, h9⟩
    · refine vx_catch (own := RL) (name := "java/lang/IndexOutOfBoundsException") hown ([] : List ExceptionTableEntry) (⟨0, 9, 12, 13⟩ : ExceptionTableEntry) [] (htab.trans rfl) (fun z hz => nomatch hz) rfl (by decide) (hts _ (u_in uk_1_199)) (va_Nw.use rfl (hE.2.2.2.2.2 _ un_1_211)) hcell hv hcl ?_
      refine lv_astore_n (lv' := [(3, .ref q9), (0, .ref (ad 60)), (1, .int x0), (2, .ref (ad 90))]) hx hb dL_wind_12 rfl hl (by decide) rfl (fun ls hl => ?_)
      refine lv_iconst (v := 1) hx hb dL_wind_13 (by decide) ?_
      exact sy_ireti hx hb hr hlocks hE hB hS dL_wind_14 ⟨Nat.le_of_ble_eq_true rfl, Nat.le_of_ble_eq_true rfl⟩ (Or.inr ⟨by rw [← hpu]; decide, by rw [← hpu]; rfl, rfl, rfl⟩)
    · exact absurd rfl h9
    · exact absurd rfl h9
  · skip
    obtain ⟨g1, q1⟩ := u
    have hP := hB.2
    rw [ht] at hP
    dsimp only at hp hP
    refine lv_i2l hx hb dL_wind_7 rfl ?_
    refine sy_last hx hb hE hP hS 90 rfl (i := 0) (k_in rfl) dL_wind_8 (fun H locs hP hS => ?_)
    refine lv_goto (tgt := 15) hx hb dL_wind_9 (by decide) ?_
    refine lv_iconst (v := 0) hx hb dL_wind_15 (by decide) ?_
    exact sy_ireti hx hb hr hlocks hE hP hS dL_wind_16 ⟨Nat.le_of_ble_eq_true rfl, Nat.le_of_ble_eq_true rfl⟩ (Or.inl ⟨by rw [← hp], rfl, by rw [← hp]; rfl, by rw [← hp]⟩)
set_option maxHeartbeats 4000000 in
set_option maxRecDepth 100000 in
theorem mL_pass (l : Launch) (hfl : l.stackTraces = false) (Z : sZ) (nT nK cT cK : Nat) (ad : Nat → Nat) (g : sG) (q : sQ) (x0 : Int32) (hT : nT ≤ 100) (hG : IG nT nK cT cK g) (hQ : IQ nT nK q) (hC : wf 9 1 2 (fX6_pass g q x0).1 ≠ 9) : Met l yL_pass (uW (.codeWith yL_pass cL_pass 4 (some .int) [(0, 9, 12, 15), (0, 9, 15, 17)])) { frames := 8, cells := 2, slots := 12, locals := 125 } (va_Pc [.ref (ad 60), .int x0, .ref (ad 90)] (sPreL Z nT nK cT cK ad g q)) (sQi Z nT nK cT cK ad (fun r g1 q1 => ((fX6_pass g q x0).1 = 0 ∧ r = 0 ∧ g1 = sy_up (fX6_pass g q x0).2.2.1 90 0 (fX6_pass g q x0).2.1 ∧ q1 = (fX6_pass g q x0).2.2.2) ∨ ((fX6_pass g q x0).1 ≠ 0 ∧ r = wf 9 1 2 (fX6_pass g q x0).1 ∧ g1 = g ∧ q1 = q))) 2 12 (sy_A Z) := by
  refine va_MetW (cc := cL_pass) (maxL := 4) (ret := some .int) (by decide) rfl ?_
  intro p e s m args below meth c s₁ B hml hv
  obtain ⟨rfl, ⟨hE, hP⟩, hNc⟩ := hv
  have hx := B.exec
  have hb := B.bytes
  have hr := B.returns
  have hts := atoms_spec (ws := uW (.codeWith yL_pass cL_pass 4 (some .int) [(0, 9, 12, 15), (0, 9, 15, 17)])) B.pre
  have hown : s.vm.findClass RL = some m.cls := findClass_of_methodNamed B.named
  have hlocks := B.notSynchronized
  have htab := vx_table (x := yL_pass) B (hts _ List.mem_cons_self)
  have hS : va_S (sy_A Z) s.heap s.heap [] := va_S.rf
  have hl := lv_entry ([.ref (ad 60), .int x0, .ref (ad 90)]) (n := 4) (Nat.le_of_ble_eq_true rfl)
  rw [lg_entry_eq]
  generalize (lg_sl ([.ref (ad 60), .int x0, .ref (ad 90)]) ++ List.replicate (4 - (lg_sl ([.ref (ad 60), .int x0, .ref (ad 90)])).length) Slot.unset).toArray = ls at hl ⊢
  have hl : lv_has ls 4 [(0, .ref (ad 60)), (1, .int x0), (2, .ref (ad 90))] := hl
  refine lv_aload_n hx hb dL_pass_0 rfl (lv_at hl 2 rfl) ?_
  refine lv_iconst (v := 0) hx hb dL_pass_1 (by decide) ?_
  refine lv_aload_n hx hb dL_pass_2 rfl (lv_at hl 0 rfl) ?_
  refine lv_iload_n hx hb dL_pass_3 rfl (lv_at hl 1 rfl) ?_
  refine vx_calli (sy_xV (o := 60) (As := [.int x0]) (rest := [.int 0, .ref (ad 90)]) ⟨hx, hb, hml, hown, hts⟩ hE hP hS (mX6_pass l hfl Z nT nK cT cK ad g q x0 hT hG hQ) (cwV 1 hts (gu_V uk_4_64 uk_4_65 uk_4_66 uk_1_1 uk_4_67) rfl rfl rfl (by decide +kernel) ⟨Nat.le_of_ble_eq_true rfl, Nat.le_of_ble_eq_true rfl⟩) (sy_recv (kc := 7) hE hP rfl (by decide) rfl rfl rfl) rfl hl.1 rfl (Nat.le_of_ble_eq_true rfl) dL_pass_4 ⟨Nat.le_of_ble_eq_true rfl, Nat.le_of_ble_eq_true rfl⟩) hS (fun _ _ h => h) (fun _ h => h) (fun _ _ h => h) (fun E ce q9 u t H locs ht _ hpu hB _ _ hS hcell hv hcl => ?_) (fun r u t H locs ht _ hp hB _ _ hS => ?_)
  · obtain ⟨rfl, -, hB⟩ := hB
    rw [ht] at hB
    have hC9 := hC
    rw [← hpu] at hC9
    rcases exc_c hC9 with ⟨rfl, hc, h9⟩ | ⟨rfl, hc, h9⟩ | ⟨rfl, hc, h9⟩
    · exact absurd rfl h9
    · refine vx_catch (own := RL) (name := "java/lang/IllegalArgumentException") hown ([] : List ExceptionTableEntry) (⟨0, 9, 12, 15⟩ : ExceptionTableEntry) [⟨0, 9, 15, 17⟩] (htab.trans rfl) (fun z hz => nomatch hz) rfl (by decide) (hts _ (u_in uk_1_200)) (va_Nw.use rfl (hE.2.2.2.2.2 _ un_2_37)) hcell hv hcl ?_
      refine lv_astore_n (lv' := [(3, .ref q9), (0, .ref (ad 60)), (1, .int x0), (2, .ref (ad 90))]) hx hb dL_pass_12 rfl hl (by decide) rfl (fun ls hl => ?_)
      refine lv_iconst (v := 1) hx hb dL_pass_13 (by decide) ?_
      exact sy_ireti hx hb hr hlocks hE hB hS dL_pass_14 ⟨Nat.le_of_ble_eq_true rfl, Nat.le_of_ble_eq_true rfl⟩ (Or.inr ⟨by rw [← hpu]; decide, by rw [← hpu]; rfl, rfl, rfl⟩)
    · refine vx_catch (own := RL) (name := "java/lang/IllegalStateException") hown ([⟨0, 9, 12, 15⟩] : List ExceptionTableEntry) (⟨0, 9, 15, 17⟩ : ExceptionTableEntry) [] (htab.trans rfl) (fun z hz => by
            rcases List.mem_cons.mp hz with rfl | hz
            · exact Or.inr ⟨by decide, "java/lang/IllegalArgumentException", hts _ (u_in uk_1_200), hNc.2.2⟩
            · cases hz) rfl (by decide) (hts _ (u_in uk_1_201)) (va_Nw.use rfl (hE.2.2.2.2.2 _ un_2_59)) hcell hv hcl ?_
      refine lv_astore_n (lv' := [(3, .ref q9), (0, .ref (ad 60)), (1, .int x0), (2, .ref (ad 90))]) hx hb dL_pass_15 rfl hl (by decide) rfl (fun ls hl => ?_)
      refine lv_iconst (v := 2) hx hb dL_pass_16 (by decide) ?_
      exact sy_ireti hx hb hr hlocks hE hB hS dL_pass_17 ⟨Nat.le_of_ble_eq_true rfl, Nat.le_of_ble_eq_true rfl⟩ (Or.inr ⟨by rw [← hpu]; decide, by rw [← hpu]; rfl, rfl, rfl⟩)
  · skip
    obtain ⟨g1, q1⟩ := u
    have hP := hB.2
    rw [ht] at hP
    dsimp only at hp hP
    refine lv_i2l hx hb dL_pass_7 rfl ?_
    refine sy_last hx hb hE hP hS 90 rfl (i := 0) (k_in rfl) dL_pass_8 (fun H locs hP hS => ?_)
    refine lv_goto (tgt := 18) hx hb dL_pass_9 (by decide) ?_
    refine lv_iconst (v := 0) hx hb dL_pass_18 (by decide) ?_
    exact sy_ireti hx hb hr hlocks hE hP hS dL_pass_19 ⟨Nat.le_of_ble_eq_true rfl, Nat.le_of_ble_eq_true rfl⟩ (Or.inl ⟨by rw [← hp], rfl, by rw [← hp]; rfl, by rw [← hp]⟩)
set_option maxHeartbeats 4000000 in
set_option maxRecDepth 100000 in
theorem mL_offer (l : Launch) (hfl : l.stackTraces = false) (Z : sZ) (nT nK cT cK : Nat) (ad : Nat → Nat) (g : sG) (q : sQ) (x0 x1 : Int32) (hT : nT ≤ 100) (hG : IG nT nK cT cK g) (hQ : IQ nT nK q) (hC : wf 1 2 3 (fX6_offer g q x0 x1).1 ≠ 9) : Met l yL_offer (uW (.codeWith yL_offer cL_offer 5 (some .int) [(0, 10, 13, 13), (0, 10, 17, 15), (0, 10, 21, 17)])) { frames := 9, cells := 3, slots := 18, locals := 149 } (va_Pc [.ref (ad 60), .int x0, .int x1, .ref (ad 90)] (sPreL Z nT nK cT cK ad g q)) (sQi Z nT nK cT cK ad (fun r g1 q1 => ((fX6_offer g q x0 x1).1 = 0 ∧ r = 0 ∧ g1 = sy_up (fX6_offer g q x0 x1).2.2.1 90 0 (fX6_offer g q x0 x1).2.1 ∧ q1 = (fX6_offer g q x0 x1).2.2.2) ∨ ((fX6_offer g q x0 x1).1 ≠ 0 ∧ r = wf 1 2 3 (fX6_offer g q x0 x1).1 ∧ g1 = g ∧ q1 = q))) 3 18 (sy_A Z) := by
  refine va_MetW (cc := cL_offer) (maxL := 5) (ret := some .int) (by decide) rfl ?_
  intro p e s m args below meth c s₁ B hml hv
  obtain ⟨rfl, ⟨hE, hP⟩, hNc⟩ := hv
  have hx := B.exec
  have hb := B.bytes
  have hr := B.returns
  have hts := atoms_spec (ws := uW (.codeWith yL_offer cL_offer 5 (some .int) [(0, 10, 13, 13), (0, 10, 17, 15), (0, 10, 21, 17)])) B.pre
  have hown : s.vm.findClass RL = some m.cls := findClass_of_methodNamed B.named
  have hlocks := B.notSynchronized
  have htab := vx_table (x := yL_offer) B (hts _ List.mem_cons_self)
  have hS : va_S (sy_A Z) s.heap s.heap [] := va_S.rf
  have hl := lv_entry ([.ref (ad 60), .int x0, .int x1, .ref (ad 90)]) (n := 5) (Nat.le_of_ble_eq_true rfl)
  rw [lg_entry_eq]
  generalize (lg_sl ([.ref (ad 60), .int x0, .int x1, .ref (ad 90)]) ++ List.replicate (5 - (lg_sl ([.ref (ad 60), .int x0, .int x1, .ref (ad 90)])).length) Slot.unset).toArray = ls at hl ⊢
  have hl : lv_has ls 5 [(0, .ref (ad 60)), (1, .int x0), (2, .int x1), (3, .ref (ad 90))] := hl
  refine lv_aload_n hx hb dL_offer_0 rfl (lv_at hl 3 rfl) ?_
  refine lv_iconst (v := 0) hx hb dL_offer_1 (by decide) ?_
  refine lv_aload_n hx hb dL_offer_2 rfl (lv_at hl 0 rfl) ?_
  refine lv_iload_n hx hb dL_offer_3 rfl (lv_at hl 1 rfl) ?_
  refine lv_iload_n hx hb dL_offer_4 rfl (lv_at hl 2 rfl) ?_
  refine vx_calli (sy_xV (o := 60) (As := [.int x0, .int x1]) (rest := [.int 0, .ref (ad 90)]) ⟨hx, hb, hml, hown, hts⟩ hE hP hS (mX6_offer l hfl Z nT nK cT cK ad g q x0 x1 hT hG hQ) (cwV 2 hts (gu_V uk_4_99 uk_4_100 uk_4_101 uk_1_1 uk_4_102) rfl rfl rfl (by decide +kernel) ⟨Nat.le_of_ble_eq_true rfl, Nat.le_of_ble_eq_true rfl⟩) (sy_recv (kc := 7) hE hP rfl (by decide) rfl rfl rfl) rfl hl.1 rfl (Nat.le_of_ble_eq_true rfl) dL_offer_5 ⟨Nat.le_of_ble_eq_true rfl, Nat.le_of_ble_eq_true rfl⟩) hS (fun _ _ h => h) (fun _ h => h) (fun _ _ h => h) (fun E ce q9 u t H locs ht _ hpu hB _ _ hS hcell hv hcl => ?_) (fun r u t H locs ht _ hp hB _ _ hS => ?_)
  · obtain ⟨rfl, -, hB⟩ := hB
    rw [ht] at hB
    have hC9 := hC
    rw [← hpu] at hC9
    rcases exc_c hC9 with ⟨rfl, hc, h9⟩ | ⟨rfl, hc, h9⟩ | ⟨rfl, hc, h9⟩
    · refine vx_catch (own := RL) (name := "java/lang/IndexOutOfBoundsException") hown ([] : List ExceptionTableEntry) (⟨0, 10, 13, 13⟩ : ExceptionTableEntry) [⟨0, 10, 17, 15⟩, ⟨0, 10, 21, 17⟩] (htab.trans rfl) (fun z hz => nomatch hz) rfl (by decide) (hts _ (u_in uk_1_199)) (va_Nw.use rfl (hE.2.2.2.2.2 _ un_1_211)) hcell hv hcl ?_
      refine lv_astore (lv' := [(4, .ref q9), (0, .ref (ad 60)), (1, .int x0), (2, .int x1), (3, .ref (ad 90))]) hx hb dL_offer_13 hl (by decide) rfl (fun ls hl => ?_)
      refine lv_iconst (v := 1) hx hb dL_offer_15 (by decide) ?_
      exact sy_ireti hx hb hr hlocks hE hB hS dL_offer_16 ⟨Nat.le_of_ble_eq_true rfl, Nat.le_of_ble_eq_true rfl⟩ (Or.inr ⟨by rw [← hpu]; decide, by rw [← hpu]; rfl, rfl, rfl⟩)
    · refine vx_catch (own := RL) (name := "java/lang/IllegalArgumentException") hown ([⟨0, 10, 13, 13⟩] : List ExceptionTableEntry) (⟨0, 10, 17, 15⟩ : ExceptionTableEntry) [⟨0, 10, 21, 17⟩] (htab.trans rfl) (fun z hz => by
            rcases List.mem_cons.mp hz with rfl | hz
            · exact Or.inr ⟨by decide, "java/lang/IndexOutOfBoundsException", hts _ (u_in uk_1_199), hNc.1⟩
            · cases hz) rfl (by decide) (hts _ (u_in uk_1_200)) (va_Nw.use rfl (hE.2.2.2.2.2 _ un_2_37)) hcell hv hcl ?_
      refine lv_astore (lv' := [(4, .ref q9), (0, .ref (ad 60)), (1, .int x0), (2, .int x1), (3, .ref (ad 90))]) hx hb dL_offer_17 hl (by decide) rfl (fun ls hl => ?_)
      refine lv_iconst (v := 2) hx hb dL_offer_19 (by decide) ?_
      exact sy_ireti hx hb hr hlocks hE hB hS dL_offer_20 ⟨Nat.le_of_ble_eq_true rfl, Nat.le_of_ble_eq_true rfl⟩ (Or.inr ⟨by rw [← hpu]; decide, by rw [← hpu]; rfl, rfl, rfl⟩)
    · refine vx_catch (own := RL) (name := "java/lang/IllegalStateException") hown ([⟨0, 10, 13, 13⟩, ⟨0, 10, 17, 15⟩] : List ExceptionTableEntry) (⟨0, 10, 21, 17⟩ : ExceptionTableEntry) [] (htab.trans rfl) (fun z hz => by
            rcases List.mem_cons.mp hz with rfl | hz
            · exact Or.inr ⟨by decide, "java/lang/IndexOutOfBoundsException", hts _ (u_in uk_1_199), hNc.2.1⟩
            · rcases List.mem_cons.mp hz with rfl | hz
              · exact Or.inr ⟨by decide, "java/lang/IllegalArgumentException", hts _ (u_in uk_1_200), hNc.2.2⟩
              · cases hz) rfl (by decide) (hts _ (u_in uk_1_201)) (va_Nw.use rfl (hE.2.2.2.2.2 _ un_2_59)) hcell hv hcl ?_
      refine lv_astore (lv' := [(4, .ref q9), (0, .ref (ad 60)), (1, .int x0), (2, .int x1), (3, .ref (ad 90))]) hx hb dL_offer_21 hl (by decide) rfl (fun ls hl => ?_)
      refine lv_iconst (v := 3) hx hb dL_offer_23 (by decide) ?_
      exact sy_ireti hx hb hr hlocks hE hB hS dL_offer_24 ⟨Nat.le_of_ble_eq_true rfl, Nat.le_of_ble_eq_true rfl⟩ (Or.inr ⟨by rw [← hpu]; decide, by rw [← hpu]; rfl, rfl, rfl⟩)
  · skip
    obtain ⟨g1, q1⟩ := u
    have hP := hB.2
    rw [ht] at hP
    dsimp only at hp hP
    refine lv_i2l hx hb dL_offer_8 rfl ?_
    refine sy_last hx hb hE hP hS 90 rfl (i := 0) (k_in rfl) dL_offer_9 (fun H locs hP hS => ?_)
    refine lv_goto (tgt := 25) hx hb dL_offer_10 (by decide) ?_
    refine lv_iconst (v := 0) hx hb dL_offer_25 (by decide) ?_
    exact sy_ireti hx hb hr hlocks hE hP hS dL_offer_26 ⟨Nat.le_of_ble_eq_true rfl, Nat.le_of_ble_eq_true rfl⟩ (Or.inl ⟨by rw [← hp], rfl, by rw [← hp]; rfl, by rw [← hp]⟩)
set_option maxHeartbeats 4000000 in
set_option maxRecDepth 100000 in
theorem mL_claim (l : Launch) (hfl : l.stackTraces = false) (Z : sZ) (nT nK cT cK : Nat) (ad : Nat → Nat) (g : sG) (q : sQ) (x0 x1 : Int32) (hT : nT ≤ 100) (hG : IG nT nK cT cK g) (hQ : IQ nT nK q) (hC : wf 1 9 2 (fX6_claim g q x0 x1).1 ≠ 9) : Met l yL_claim (uW (.codeWith yL_claim cL_claim 5 (some .int) [(0, 10, 13, 13), (0, 10, 17, 17)])) { frames := 9, cells := 3, slots := 18, locals := 146 } (va_Pc [.ref (ad 60), .int x0, .int x1, .ref (ad 90)] (sPreL Z nT nK cT cK ad g q)) (sQi Z nT nK cT cK ad (fun r g1 q1 => ((fX6_claim g q x0 x1).1 = 0 ∧ r = 0 ∧ g1 = sy_up (fX6_claim g q x0 x1).2.2.1 90 0 (fX6_claim g q x0 x1).2.1 ∧ q1 = (fX6_claim g q x0 x1).2.2.2) ∨ ((fX6_claim g q x0 x1).1 ≠ 0 ∧ r = wf 1 9 2 (fX6_claim g q x0 x1).1 ∧ g1 = g ∧ q1 = q))) 3 18 (sy_A Z) := by
  refine va_MetW (cc := cL_claim) (maxL := 5) (ret := some .int) (by decide) rfl ?_
  intro p e s m args below meth c s₁ B hml hv
  obtain ⟨rfl, ⟨hE, hP⟩, hNc⟩ := hv
  have hx := B.exec
  have hb := B.bytes
  have hr := B.returns
  have hts := atoms_spec (ws := uW (.codeWith yL_claim cL_claim 5 (some .int) [(0, 10, 13, 13), (0, 10, 17, 17)])) B.pre
  have hown : s.vm.findClass RL = some m.cls := findClass_of_methodNamed B.named
  have hlocks := B.notSynchronized
  have htab := vx_table (x := yL_claim) B (hts _ List.mem_cons_self)
  have hS : va_S (sy_A Z) s.heap s.heap [] := va_S.rf
  have hl := lv_entry ([.ref (ad 60), .int x0, .int x1, .ref (ad 90)]) (n := 5) (Nat.le_of_ble_eq_true rfl)
  rw [lg_entry_eq]
  generalize (lg_sl ([.ref (ad 60), .int x0, .int x1, .ref (ad 90)]) ++ List.replicate (5 - (lg_sl ([.ref (ad 60), .int x0, .int x1, .ref (ad 90)])).length) Slot.unset).toArray = ls at hl ⊢
  have hl : lv_has ls 5 [(0, .ref (ad 60)), (1, .int x0), (2, .int x1), (3, .ref (ad 90))] := hl
  refine lv_aload_n hx hb dL_claim_0 rfl (lv_at hl 3 rfl) ?_
  refine lv_iconst (v := 0) hx hb dL_claim_1 (by decide) ?_
  refine lv_aload_n hx hb dL_claim_2 rfl (lv_at hl 0 rfl) ?_
  refine lv_iload_n hx hb dL_claim_3 rfl (lv_at hl 1 rfl) ?_
  refine lv_iload_n hx hb dL_claim_4 rfl (lv_at hl 2 rfl) ?_
  refine vx_calli (sy_xV (o := 60) (As := [.int x0, .int x1]) (rest := [.int 0, .ref (ad 90)]) ⟨hx, hb, hml, hown, hts⟩ hE hP hS (mX6_claim l hfl Z nT nK cT cK ad g q x0 x1 hT hG hQ) (cwV 2 hts (gu_V uk_4_118 uk_4_119 uk_4_120 uk_1_1 uk_4_121) rfl rfl rfl (by decide +kernel) ⟨Nat.le_of_ble_eq_true rfl, Nat.le_of_ble_eq_true rfl⟩) (sy_recv (kc := 7) hE hP rfl (by decide) rfl rfl rfl) rfl hl.1 rfl (Nat.le_of_ble_eq_true rfl) dL_claim_5 ⟨Nat.le_of_ble_eq_true rfl, Nat.le_of_ble_eq_true rfl⟩) hS (fun _ _ h => h) (fun _ h => h) (fun _ _ h => h) (fun E ce q9 u t H locs ht _ hpu hB _ _ hS hcell hv hcl => ?_) (fun r u t H locs ht _ hp hB _ _ hS => ?_)
  · obtain ⟨rfl, -, hB⟩ := hB
    rw [ht] at hB
    have hC9 := hC
    rw [← hpu] at hC9
    rcases exc_c hC9 with ⟨rfl, hc, h9⟩ | ⟨rfl, hc, h9⟩ | ⟨rfl, hc, h9⟩
    · refine vx_catch (own := RL) (name := "java/lang/IndexOutOfBoundsException") hown ([] : List ExceptionTableEntry) (⟨0, 10, 13, 13⟩ : ExceptionTableEntry) [⟨0, 10, 17, 17⟩] (htab.trans rfl) (fun z hz => nomatch hz) rfl (by decide) (hts _ (u_in uk_1_199)) (va_Nw.use rfl (hE.2.2.2.2.2 _ un_1_211)) hcell hv hcl ?_
      refine lv_astore (lv' := [(4, .ref q9), (0, .ref (ad 60)), (1, .int x0), (2, .int x1), (3, .ref (ad 90))]) hx hb dL_claim_13 hl (by decide) rfl (fun ls hl => ?_)
      refine lv_iconst (v := 1) hx hb dL_claim_15 (by decide) ?_
      exact sy_ireti hx hb hr hlocks hE hB hS dL_claim_16 ⟨Nat.le_of_ble_eq_true rfl, Nat.le_of_ble_eq_true rfl⟩ (Or.inr ⟨by rw [← hpu]; decide, by rw [← hpu]; rfl, rfl, rfl⟩)
    · exact absurd rfl h9
    · refine vx_catch (own := RL) (name := "java/lang/IllegalStateException") hown ([⟨0, 10, 13, 13⟩] : List ExceptionTableEntry) (⟨0, 10, 17, 17⟩ : ExceptionTableEntry) [] (htab.trans rfl) (fun z hz => by
            rcases List.mem_cons.mp hz with rfl | hz
            · exact Or.inr ⟨by decide, "java/lang/IndexOutOfBoundsException", hts _ (u_in uk_1_199), hNc.2.1⟩
            · cases hz) rfl (by decide) (hts _ (u_in uk_1_201)) (va_Nw.use rfl (hE.2.2.2.2.2 _ un_2_59)) hcell hv hcl ?_
      refine lv_astore (lv' := [(4, .ref q9), (0, .ref (ad 60)), (1, .int x0), (2, .int x1), (3, .ref (ad 90))]) hx hb dL_claim_17 hl (by decide) rfl (fun ls hl => ?_)
      refine lv_iconst (v := 2) hx hb dL_claim_19 (by decide) ?_
      exact sy_ireti hx hb hr hlocks hE hB hS dL_claim_20 ⟨Nat.le_of_ble_eq_true rfl, Nat.le_of_ble_eq_true rfl⟩ (Or.inr ⟨by rw [← hpu]; decide, by rw [← hpu]; rfl, rfl, rfl⟩)
  · skip
    obtain ⟨g1, q1⟩ := u
    have hP := hB.2
    rw [ht] at hP
    dsimp only at hp hP
    refine lv_i2l hx hb dL_claim_8 rfl ?_
    refine sy_last hx hb hE hP hS 90 rfl (i := 0) (k_in rfl) dL_claim_9 (fun H locs hP hS => ?_)
    refine lv_goto (tgt := 21) hx hb dL_claim_10 (by decide) ?_
    refine lv_iconst (v := 0) hx hb dL_claim_21 (by decide) ?_
    exact sy_ireti hx hb hr hlocks hE hP hS dL_claim_22 ⟨Nat.le_of_ble_eq_true rfl, Nat.le_of_ble_eq_true rfl⟩ (Or.inl ⟨by rw [← hp], rfl, by rw [← hp]; rfl, by rw [← hp]⟩)
set_option maxHeartbeats 4000000 in
set_option maxRecDepth 100000 in
theorem mL_deposit (l : Launch) (hfl : l.stackTraces = false) (Z : sZ) (nT nK cT cK : Nat) (ad : Nat → Nat) (g : sG) (q : sQ) (x0 : Int32) (hT : nT ≤ 100) (hG : IG nT nK cT cK g) (hQ : IQ nT nK q) (hC : wf 9 1 2 (fX6_deposit g q x0).1 ≠ 9) : Met l yL_deposit (uW (.codeWith yL_deposit cL_deposit 4 (some .int) [(0, 9, 12, 15), (0, 9, 15, 17)])) { frames := 8, cells := 2, slots := 12, locals := 124 } (va_Pc [.ref (ad 60), .int x0, .ref (ad 90)] (sPreL Z nT nK cT cK ad g q)) (sQi Z nT nK cT cK ad (fun r g1 q1 => ((fX6_deposit g q x0).1 = 0 ∧ r = 0 ∧ g1 = sy_up (fX6_deposit g q x0).2.2.1 90 0 (fX6_deposit g q x0).2.1 ∧ q1 = (fX6_deposit g q x0).2.2.2) ∨ ((fX6_deposit g q x0).1 ≠ 0 ∧ r = wf 9 1 2 (fX6_deposit g q x0).1 ∧ g1 = g ∧ q1 = q))) 2 12 (sy_A Z) := by
  refine va_MetW (cc := cL_deposit) (maxL := 4) (ret := some .int) (by decide) rfl ?_
  intro p e s m args below meth c s₁ B hml hv
  obtain ⟨rfl, ⟨hE, hP⟩, hNc⟩ := hv
  have hx := B.exec
  have hb := B.bytes
  have hr := B.returns
  have hts := atoms_spec (ws := uW (.codeWith yL_deposit cL_deposit 4 (some .int) [(0, 9, 12, 15), (0, 9, 15, 17)])) B.pre
  have hown : s.vm.findClass RL = some m.cls := findClass_of_methodNamed B.named
  have hlocks := B.notSynchronized
  have htab := vx_table (x := yL_deposit) B (hts _ List.mem_cons_self)
  have hS : va_S (sy_A Z) s.heap s.heap [] := va_S.rf
  have hl := lv_entry ([.ref (ad 60), .int x0, .ref (ad 90)]) (n := 4) (Nat.le_of_ble_eq_true rfl)
  rw [lg_entry_eq]
  generalize (lg_sl ([.ref (ad 60), .int x0, .ref (ad 90)]) ++ List.replicate (4 - (lg_sl ([.ref (ad 60), .int x0, .ref (ad 90)])).length) Slot.unset).toArray = ls at hl ⊢
  have hl : lv_has ls 4 [(0, .ref (ad 60)), (1, .int x0), (2, .ref (ad 90))] := hl
  refine lv_aload_n hx hb dL_deposit_0 rfl (lv_at hl 2 rfl) ?_
  refine lv_iconst (v := 0) hx hb dL_deposit_1 (by decide) ?_
  refine lv_aload_n hx hb dL_deposit_2 rfl (lv_at hl 0 rfl) ?_
  refine lv_iload_n hx hb dL_deposit_3 rfl (lv_at hl 1 rfl) ?_
  refine vx_calli (sy_xV (o := 60) (As := [.int x0]) (rest := [.int 0, .ref (ad 90)]) ⟨hx, hb, hml, hown, hts⟩ hE hP hS (mX6_deposit l hfl Z nT nK cT cK ad g q x0 hT hG hQ) (cwV 1 hts (gu_V uk_4_125 uk_4_126 uk_4_127 uk_1_1 uk_4_128) rfl rfl rfl (by decide +kernel) ⟨Nat.le_of_ble_eq_true rfl, Nat.le_of_ble_eq_true rfl⟩) (sy_recv (kc := 7) hE hP rfl (by decide) rfl rfl rfl) rfl hl.1 rfl (Nat.le_of_ble_eq_true rfl) dL_deposit_4 ⟨Nat.le_of_ble_eq_true rfl, Nat.le_of_ble_eq_true rfl⟩) hS (fun _ _ h => h) (fun _ h => h) (fun _ _ h => h) (fun E ce q9 u t H locs ht _ hpu hB _ _ hS hcell hv hcl => ?_) (fun r u t H locs ht _ hp hB _ _ hS => ?_)
  · obtain ⟨rfl, -, hB⟩ := hB
    rw [ht] at hB
    have hC9 := hC
    rw [← hpu] at hC9
    rcases exc_c hC9 with ⟨rfl, hc, h9⟩ | ⟨rfl, hc, h9⟩ | ⟨rfl, hc, h9⟩
    · exact absurd rfl h9
    · refine vx_catch (own := RL) (name := "java/lang/IllegalArgumentException") hown ([] : List ExceptionTableEntry) (⟨0, 9, 12, 15⟩ : ExceptionTableEntry) [⟨0, 9, 15, 17⟩] (htab.trans rfl) (fun z hz => nomatch hz) rfl (by decide) (hts _ (u_in uk_1_200)) (va_Nw.use rfl (hE.2.2.2.2.2 _ un_2_37)) hcell hv hcl ?_
      refine lv_astore_n (lv' := [(3, .ref q9), (0, .ref (ad 60)), (1, .int x0), (2, .ref (ad 90))]) hx hb dL_deposit_12 rfl hl (by decide) rfl (fun ls hl => ?_)
      refine lv_iconst (v := 1) hx hb dL_deposit_13 (by decide) ?_
      exact sy_ireti hx hb hr hlocks hE hB hS dL_deposit_14 ⟨Nat.le_of_ble_eq_true rfl, Nat.le_of_ble_eq_true rfl⟩ (Or.inr ⟨by rw [← hpu]; decide, by rw [← hpu]; rfl, rfl, rfl⟩)
    · refine vx_catch (own := RL) (name := "java/lang/IllegalStateException") hown ([⟨0, 9, 12, 15⟩] : List ExceptionTableEntry) (⟨0, 9, 15, 17⟩ : ExceptionTableEntry) [] (htab.trans rfl) (fun z hz => by
            rcases List.mem_cons.mp hz with rfl | hz
            · exact Or.inr ⟨by decide, "java/lang/IllegalArgumentException", hts _ (u_in uk_1_200), hNc.2.2⟩
            · cases hz) rfl (by decide) (hts _ (u_in uk_1_201)) (va_Nw.use rfl (hE.2.2.2.2.2 _ un_2_59)) hcell hv hcl ?_
      refine lv_astore_n (lv' := [(3, .ref q9), (0, .ref (ad 60)), (1, .int x0), (2, .ref (ad 90))]) hx hb dL_deposit_15 rfl hl (by decide) rfl (fun ls hl => ?_)
      refine lv_iconst (v := 2) hx hb dL_deposit_16 (by decide) ?_
      exact sy_ireti hx hb hr hlocks hE hB hS dL_deposit_17 ⟨Nat.le_of_ble_eq_true rfl, Nat.le_of_ble_eq_true rfl⟩ (Or.inr ⟨by rw [← hpu]; decide, by rw [← hpu]; rfl, rfl, rfl⟩)
  · skip
    obtain ⟨g1, q1⟩ := u
    have hP := hB.2
    rw [ht] at hP
    dsimp only at hp hP
    refine lv_i2l hx hb dL_deposit_7 rfl ?_
    refine sy_last hx hb hE hP hS 90 rfl (i := 0) (k_in rfl) dL_deposit_8 (fun H locs hP hS => ?_)
    refine lv_goto (tgt := 18) hx hb dL_deposit_9 (by decide) ?_
    refine lv_iconst (v := 0) hx hb dL_deposit_18 (by decide) ?_
    exact sy_ireti hx hb hr hlocks hE hP hS dL_deposit_19 ⟨Nat.le_of_ble_eq_true rfl, Nat.le_of_ble_eq_true rfl⟩ (Or.inl ⟨by rw [← hp], rfl, by rw [← hp]; rfl, by rw [← hp]⟩)
set_option maxHeartbeats 4000000 in
set_option maxRecDepth 100000 in
theorem mL_withdraw (l : Launch) (hfl : l.stackTraces = false) (Z : sZ) (nT nK cT cK : Nat) (ad : Nat → Nat) (g : sG) (q : sQ) (x0 : Int32) (hT : nT ≤ 100) (hG : IG nT nK cT cK g) (hQ : IQ nT nK q) (hC : wf 9 1 2 (fX6_withdraw g q x0).1 ≠ 9) : Met l yL_withdraw (uW (.codeWith yL_withdraw cL_withdraw 4 (some .int) [(0, 9, 12, 15), (0, 9, 15, 17)])) { frames := 8, cells := 2, slots := 12, locals := 124 } (va_Pc [.ref (ad 60), .int x0, .ref (ad 90)] (sPreL Z nT nK cT cK ad g q)) (sQi Z nT nK cT cK ad (fun r g1 q1 => ((fX6_withdraw g q x0).1 = 0 ∧ r = 0 ∧ g1 = sy_up (fX6_withdraw g q x0).2.2.1 90 0 (fX6_withdraw g q x0).2.1 ∧ q1 = (fX6_withdraw g q x0).2.2.2) ∨ ((fX6_withdraw g q x0).1 ≠ 0 ∧ r = wf 9 1 2 (fX6_withdraw g q x0).1 ∧ g1 = g ∧ q1 = q))) 2 12 (sy_A Z) := by
  refine va_MetW (cc := cL_withdraw) (maxL := 4) (ret := some .int) (by decide) rfl ?_
  intro p e s m args below meth c s₁ B hml hv
  obtain ⟨rfl, ⟨hE, hP⟩, hNc⟩ := hv
  have hx := B.exec
  have hb := B.bytes
  have hr := B.returns
  have hts := atoms_spec (ws := uW (.codeWith yL_withdraw cL_withdraw 4 (some .int) [(0, 9, 12, 15), (0, 9, 15, 17)])) B.pre
  have hown : s.vm.findClass RL = some m.cls := findClass_of_methodNamed B.named
  have hlocks := B.notSynchronized
  have htab := vx_table (x := yL_withdraw) B (hts _ List.mem_cons_self)
  have hS : va_S (sy_A Z) s.heap s.heap [] := va_S.rf
  have hl := lv_entry ([.ref (ad 60), .int x0, .ref (ad 90)]) (n := 4) (Nat.le_of_ble_eq_true rfl)
  rw [lg_entry_eq]
  generalize (lg_sl ([.ref (ad 60), .int x0, .ref (ad 90)]) ++ List.replicate (4 - (lg_sl ([.ref (ad 60), .int x0, .ref (ad 90)])).length) Slot.unset).toArray = ls at hl ⊢
  have hl : lv_has ls 4 [(0, .ref (ad 60)), (1, .int x0), (2, .ref (ad 90))] := hl
  refine lv_aload_n hx hb dL_withdraw_0 rfl (lv_at hl 2 rfl) ?_
  refine lv_iconst (v := 0) hx hb dL_withdraw_1 (by decide) ?_
  refine lv_aload_n hx hb dL_withdraw_2 rfl (lv_at hl 0 rfl) ?_
  refine lv_iload_n hx hb dL_withdraw_3 rfl (lv_at hl 1 rfl) ?_
  refine vx_calli (sy_xV (o := 60) (As := [.int x0]) (rest := [.int 0, .ref (ad 90)]) ⟨hx, hb, hml, hown, hts⟩ hE hP hS (mX6_withdraw l hfl Z nT nK cT cK ad g q x0 hT hG hQ) (cwV 1 hts (gu_V uk_4_133 uk_4_134 uk_4_135 uk_1_1 uk_4_136) rfl rfl rfl (by decide +kernel) ⟨Nat.le_of_ble_eq_true rfl, Nat.le_of_ble_eq_true rfl⟩) (sy_recv (kc := 7) hE hP rfl (by decide) rfl rfl rfl) rfl hl.1 rfl (Nat.le_of_ble_eq_true rfl) dL_withdraw_4 ⟨Nat.le_of_ble_eq_true rfl, Nat.le_of_ble_eq_true rfl⟩) hS (fun _ _ h => h) (fun _ h => h) (fun _ _ h => h) (fun E ce q9 u t H locs ht _ hpu hB _ _ hS hcell hv hcl => ?_) (fun r u t H locs ht _ hp hB _ _ hS => ?_)
  · obtain ⟨rfl, -, hB⟩ := hB
    rw [ht] at hB
    have hC9 := hC
    rw [← hpu] at hC9
    rcases exc_c hC9 with ⟨rfl, hc, h9⟩ | ⟨rfl, hc, h9⟩ | ⟨rfl, hc, h9⟩
    · exact absurd rfl h9
    · refine vx_catch (own := RL) (name := "java/lang/IllegalArgumentException") hown ([] : List ExceptionTableEntry) (⟨0, 9, 12, 15⟩ : ExceptionTableEntry) [⟨0, 9, 15, 17⟩] (htab.trans rfl) (fun z hz => nomatch hz) rfl (by decide) (hts _ (u_in uk_1_200)) (va_Nw.use rfl (hE.2.2.2.2.2 _ un_2_37)) hcell hv hcl ?_
      refine lv_astore_n (lv' := [(3, .ref q9), (0, .ref (ad 60)), (1, .int x0), (2, .ref (ad 90))]) hx hb dL_withdraw_12 rfl hl (by decide) rfl (fun ls hl => ?_)
      refine lv_iconst (v := 1) hx hb dL_withdraw_13 (by decide) ?_
      exact sy_ireti hx hb hr hlocks hE hB hS dL_withdraw_14 ⟨Nat.le_of_ble_eq_true rfl, Nat.le_of_ble_eq_true rfl⟩ (Or.inr ⟨by rw [← hpu]; decide, by rw [← hpu]; rfl, rfl, rfl⟩)
    · refine vx_catch (own := RL) (name := "java/lang/IllegalStateException") hown ([⟨0, 9, 12, 15⟩] : List ExceptionTableEntry) (⟨0, 9, 15, 17⟩ : ExceptionTableEntry) [] (htab.trans rfl) (fun z hz => by
            rcases List.mem_cons.mp hz with rfl | hz
            · exact Or.inr ⟨by decide, "java/lang/IllegalArgumentException", hts _ (u_in uk_1_200), hNc.2.2⟩
            · cases hz) rfl (by decide) (hts _ (u_in uk_1_201)) (va_Nw.use rfl (hE.2.2.2.2.2 _ un_2_59)) hcell hv hcl ?_
      refine lv_astore_n (lv' := [(3, .ref q9), (0, .ref (ad 60)), (1, .int x0), (2, .ref (ad 90))]) hx hb dL_withdraw_15 rfl hl (by decide) rfl (fun ls hl => ?_)
      refine lv_iconst (v := 2) hx hb dL_withdraw_16 (by decide) ?_
      exact sy_ireti hx hb hr hlocks hE hB hS dL_withdraw_17 ⟨Nat.le_of_ble_eq_true rfl, Nat.le_of_ble_eq_true rfl⟩ (Or.inr ⟨by rw [← hpu]; decide, by rw [← hpu]; rfl, rfl, rfl⟩)
  · skip
    obtain ⟨g1, q1⟩ := u
    have hP := hB.2
    rw [ht] at hP
    dsimp only at hp hP
    refine lv_i2l hx hb dL_withdraw_7 rfl ?_
    refine sy_last hx hb hE hP hS 90 rfl (i := 0) (k_in rfl) dL_withdraw_8 (fun H locs hP hS => ?_)
    refine lv_goto (tgt := 18) hx hb dL_withdraw_9 (by decide) ?_
    refine lv_iconst (v := 0) hx hb dL_withdraw_18 (by decide) ?_
    exact sy_ireti hx hb hr hlocks hE hP hS dL_withdraw_19 ⟨Nat.le_of_ble_eq_true rfl, Nat.le_of_ble_eq_true rfl⟩ (Or.inl ⟨by rw [← hp], rfl, by rw [← hp]; rfl, by rw [← hp]⟩)
set_option maxHeartbeats 4000000 in
set_option maxRecDepth 100000 in
theorem mL_thingOf (l : Launch) (hfl : l.stackTraces = false) (Z : sZ) (nT nK cT cK : Nat) (ad : Nat → Nat) (g : sG) (q : sQ) (x0 x1 : Int32) (hT : nT ≤ 100) (hG : IG nT nK cT cK g) (hQ : IQ nT nK q) (hC : wf 1 2 9 (fX6_thingOf g q x0 x1).1 ≠ 9) : Met l yL_thingOf (uW (.codeWith yL_thingOf cL_thingOf 5 (some .int) [(0, 10, 13, 13), (0, 10, 17, 15)])) { frames := 9, cells := 2, slots := 12, locals := 146 } (va_Pc [.ref (ad 60), .int x0, .int x1, .ref (ad 90)] (sPreL Z nT nK cT cK ad g q)) (sQi Z nT nK cT cK ad (fun r g1 q1 => ((fX6_thingOf g q x0 x1).1 = 0 ∧ r = 0 ∧ g1 = sy_up (fX6_thingOf g q x0 x1).2.2.1 90 0 (fX6_thingOf g q x0 x1).2.1 ∧ q1 = (fX6_thingOf g q x0 x1).2.2.2) ∨ ((fX6_thingOf g q x0 x1).1 ≠ 0 ∧ r = wf 1 2 9 (fX6_thingOf g q x0 x1).1 ∧ g1 = g ∧ q1 = q))) 2 12 (sy_A Z) := by
  refine va_MetW (cc := cL_thingOf) (maxL := 5) (ret := some .int) (by decide) rfl ?_
  intro p e s m args below meth c s₁ B hml hv
  obtain ⟨rfl, ⟨hE, hP⟩, hNc⟩ := hv
  have hx := B.exec
  have hb := B.bytes
  have hr := B.returns
  have hts := atoms_spec (ws := uW (.codeWith yL_thingOf cL_thingOf 5 (some .int) [(0, 10, 13, 13), (0, 10, 17, 15)])) B.pre
  have hown : s.vm.findClass RL = some m.cls := findClass_of_methodNamed B.named
  have hlocks := B.notSynchronized
  have htab := vx_table (x := yL_thingOf) B (hts _ List.mem_cons_self)
  have hS : va_S (sy_A Z) s.heap s.heap [] := va_S.rf
  have hl := lv_entry ([.ref (ad 60), .int x0, .int x1, .ref (ad 90)]) (n := 5) (Nat.le_of_ble_eq_true rfl)
  rw [lg_entry_eq]
  generalize (lg_sl ([.ref (ad 60), .int x0, .int x1, .ref (ad 90)]) ++ List.replicate (5 - (lg_sl ([.ref (ad 60), .int x0, .int x1, .ref (ad 90)])).length) Slot.unset).toArray = ls at hl ⊢
  have hl : lv_has ls 5 [(0, .ref (ad 60)), (1, .int x0), (2, .int x1), (3, .ref (ad 90))] := hl
  refine lv_aload_n hx hb dL_thingOf_0 rfl (lv_at hl 3 rfl) ?_
  refine lv_iconst (v := 0) hx hb dL_thingOf_1 (by decide) ?_
  refine lv_aload_n hx hb dL_thingOf_2 rfl (lv_at hl 0 rfl) ?_
  refine lv_iload_n hx hb dL_thingOf_3 rfl (lv_at hl 1 rfl) ?_
  refine lv_iload_n hx hb dL_thingOf_4 rfl (lv_at hl 2 rfl) ?_
  refine vx_calli (sy_xV (o := 60) (As := [.int x0, .int x1]) (rest := [.int 0, .ref (ad 90)]) ⟨hx, hb, hml, hown, hts⟩ hE hP hS (mX6_thingOf l hfl Z nT nK cT cK ad g q x0 x1 hT hG hQ) (cwV 2 hts (gu_V uk_4_140 uk_4_141 uk_4_142 uk_1_1 uk_4_143) rfl rfl rfl (by decide +kernel) ⟨Nat.le_of_ble_eq_true rfl, Nat.le_of_ble_eq_true rfl⟩) (sy_recv (kc := 7) hE hP rfl (by decide) rfl rfl rfl) rfl hl.1 rfl (Nat.le_of_ble_eq_true rfl) dL_thingOf_5 ⟨Nat.le_of_ble_eq_true rfl, Nat.le_of_ble_eq_true rfl⟩) hS (fun _ _ h => h) (fun _ h => h) (fun _ _ h => h) (fun E ce q9 u t H locs ht _ hpu hB _ _ hS hcell hv hcl => ?_) (fun r u t H locs ht _ hp hB _ _ hS => ?_)
  · obtain ⟨rfl, -, hB⟩ := hB
    rw [ht] at hB
    have hC9 := hC
    rw [← hpu] at hC9
    rcases exc_c hC9 with ⟨rfl, hc, h9⟩ | ⟨rfl, hc, h9⟩ | ⟨rfl, hc, h9⟩
    · refine vx_catch (own := RL) (name := "java/lang/IndexOutOfBoundsException") hown ([] : List ExceptionTableEntry) (⟨0, 10, 13, 13⟩ : ExceptionTableEntry) [⟨0, 10, 17, 15⟩] (htab.trans rfl) (fun z hz => nomatch hz) rfl (by decide) (hts _ (u_in uk_1_199)) (va_Nw.use rfl (hE.2.2.2.2.2 _ un_1_211)) hcell hv hcl ?_
      refine lv_astore (lv' := [(4, .ref q9), (0, .ref (ad 60)), (1, .int x0), (2, .int x1), (3, .ref (ad 90))]) hx hb dL_thingOf_13 hl (by decide) rfl (fun ls hl => ?_)
      refine lv_iconst (v := 1) hx hb dL_thingOf_15 (by decide) ?_
      exact sy_ireti hx hb hr hlocks hE hB hS dL_thingOf_16 ⟨Nat.le_of_ble_eq_true rfl, Nat.le_of_ble_eq_true rfl⟩ (Or.inr ⟨by rw [← hpu]; decide, by rw [← hpu]; rfl, rfl, rfl⟩)
    · refine vx_catch (own := RL) (name := "java/lang/IllegalArgumentException") hown ([⟨0, 10, 13, 13⟩] : List ExceptionTableEntry) (⟨0, 10, 17, 15⟩ : ExceptionTableEntry) [] (htab.trans rfl) (fun z hz => by
            rcases List.mem_cons.mp hz with rfl | hz
            · exact Or.inr ⟨by decide, "java/lang/IndexOutOfBoundsException", hts _ (u_in uk_1_199), hNc.1⟩
            · cases hz) rfl (by decide) (hts _ (u_in uk_1_200)) (va_Nw.use rfl (hE.2.2.2.2.2 _ un_2_37)) hcell hv hcl ?_
      refine lv_astore (lv' := [(4, .ref q9), (0, .ref (ad 60)), (1, .int x0), (2, .int x1), (3, .ref (ad 90))]) hx hb dL_thingOf_17 hl (by decide) rfl (fun ls hl => ?_)
      refine lv_iconst (v := 2) hx hb dL_thingOf_19 (by decide) ?_
      exact sy_ireti hx hb hr hlocks hE hB hS dL_thingOf_20 ⟨Nat.le_of_ble_eq_true rfl, Nat.le_of_ble_eq_true rfl⟩ (Or.inr ⟨by rw [← hpu]; decide, by rw [← hpu]; rfl, rfl, rfl⟩)
    · exact absurd rfl h9
  · skip
    obtain ⟨g1, q1⟩ := u
    have hP := hB.2
    rw [ht] at hP
    dsimp only at hp hP
    refine lv_i2l hx hb dL_thingOf_8 rfl ?_
    refine sy_last hx hb hE hP hS 90 rfl (i := 0) (k_in rfl) dL_thingOf_9 (fun H locs hP hS => ?_)
    refine lv_goto (tgt := 21) hx hb dL_thingOf_10 (by decide) ?_
    refine lv_iconst (v := 0) hx hb dL_thingOf_21 (by decide) ?_
    exact sy_ireti hx hb hr hlocks hE hP hS dL_thingOf_22 ⟨Nat.le_of_ble_eq_true rfl, Nat.le_of_ble_eq_true rfl⟩ (Or.inl ⟨by rw [← hp], rfl, by rw [← hp]; rfl, by rw [← hp]⟩)
set_option maxHeartbeats 4000000 in
set_option maxRecDepth 100000 in
theorem mL_ticketOf (l : Launch) (hfl : l.stackTraces = false) (Z : sZ) (nT nK cT cK : Nat) (ad : Nat → Nat) (g : sG) (q : sQ) (x0 x1 : Int32) (hT : nT ≤ 100) (hG : IG nT nK cT cK g) (hQ : IQ nT nK q) (hC : wf 1 2 9 (fX6_ticketOf g q x0 x1).1 ≠ 9) : Met l yL_ticketOf (uW (.codeWith yL_ticketOf cL_ticketOf 5 (some .int) [(0, 10, 13, 13), (0, 10, 17, 15)])) { frames := 9, cells := 2, slots := 12, locals := 146 } (va_Pc [.ref (ad 60), .int x0, .int x1, .ref (ad 90)] (sPreL Z nT nK cT cK ad g q)) (sQi Z nT nK cT cK ad (fun r g1 q1 => ((fX6_ticketOf g q x0 x1).1 = 0 ∧ r = 0 ∧ g1 = sy_up (fX6_ticketOf g q x0 x1).2.2.1 90 0 (fX6_ticketOf g q x0 x1).2.1 ∧ q1 = (fX6_ticketOf g q x0 x1).2.2.2) ∨ ((fX6_ticketOf g q x0 x1).1 ≠ 0 ∧ r = wf 1 2 9 (fX6_ticketOf g q x0 x1).1 ∧ g1 = g ∧ q1 = q))) 2 12 (sy_A Z) := by
  refine va_MetW (cc := cL_ticketOf) (maxL := 5) (ret := some .int) (by decide) rfl ?_
  intro p e s m args below meth c s₁ B hml hv
  obtain ⟨rfl, ⟨hE, hP⟩, hNc⟩ := hv
  have hx := B.exec
  have hb := B.bytes
  have hr := B.returns
  have hts := atoms_spec (ws := uW (.codeWith yL_ticketOf cL_ticketOf 5 (some .int) [(0, 10, 13, 13), (0, 10, 17, 15)])) B.pre
  have hown : s.vm.findClass RL = some m.cls := findClass_of_methodNamed B.named
  have hlocks := B.notSynchronized
  have htab := vx_table (x := yL_ticketOf) B (hts _ List.mem_cons_self)
  have hS : va_S (sy_A Z) s.heap s.heap [] := va_S.rf
  have hl := lv_entry ([.ref (ad 60), .int x0, .int x1, .ref (ad 90)]) (n := 5) (Nat.le_of_ble_eq_true rfl)
  rw [lg_entry_eq]
  generalize (lg_sl ([.ref (ad 60), .int x0, .int x1, .ref (ad 90)]) ++ List.replicate (5 - (lg_sl ([.ref (ad 60), .int x0, .int x1, .ref (ad 90)])).length) Slot.unset).toArray = ls at hl ⊢
  have hl : lv_has ls 5 [(0, .ref (ad 60)), (1, .int x0), (2, .int x1), (3, .ref (ad 90))] := hl
  refine lv_aload_n hx hb dL_ticketOf_0 rfl (lv_at hl 3 rfl) ?_
  refine lv_iconst (v := 0) hx hb dL_ticketOf_1 (by decide) ?_
  refine lv_aload_n hx hb dL_ticketOf_2 rfl (lv_at hl 0 rfl) ?_
  refine lv_iload_n hx hb dL_ticketOf_3 rfl (lv_at hl 1 rfl) ?_
  refine lv_iload_n hx hb dL_ticketOf_4 rfl (lv_at hl 2 rfl) ?_
  refine vx_calli (sy_xV (o := 60) (As := [.int x0, .int x1]) (rest := [.int 0, .ref (ad 90)]) ⟨hx, hb, hml, hown, hts⟩ hE hP hS (mX6_ticketOf l hfl Z nT nK cT cK ad g q x0 x1 hT hG hQ) (cwV 2 hts (gu_V uk_4_147 uk_4_148 uk_4_149 uk_1_1 uk_4_150) rfl rfl rfl (by decide +kernel) ⟨Nat.le_of_ble_eq_true rfl, Nat.le_of_ble_eq_true rfl⟩) (sy_recv (kc := 7) hE hP rfl (by decide) rfl rfl rfl) rfl hl.1 rfl (Nat.le_of_ble_eq_true rfl) dL_ticketOf_5 ⟨Nat.le_of_ble_eq_true rfl, Nat.le_of_ble_eq_true rfl⟩) hS (fun _ _ h => h) (fun _ h => h) (fun _ _ h => h) (fun E ce q9 u t H locs ht _ hpu hB _ _ hS hcell hv hcl => ?_) (fun r u t H locs ht _ hp hB _ _ hS => ?_)
  · obtain ⟨rfl, -, hB⟩ := hB
    rw [ht] at hB
    have hC9 := hC
    rw [← hpu] at hC9
    rcases exc_c hC9 with ⟨rfl, hc, h9⟩ | ⟨rfl, hc, h9⟩ | ⟨rfl, hc, h9⟩
    · refine vx_catch (own := RL) (name := "java/lang/IndexOutOfBoundsException") hown ([] : List ExceptionTableEntry) (⟨0, 10, 13, 13⟩ : ExceptionTableEntry) [⟨0, 10, 17, 15⟩] (htab.trans rfl) (fun z hz => nomatch hz) rfl (by decide) (hts _ (u_in uk_1_199)) (va_Nw.use rfl (hE.2.2.2.2.2 _ un_1_211)) hcell hv hcl ?_
      refine lv_astore (lv' := [(4, .ref q9), (0, .ref (ad 60)), (1, .int x0), (2, .int x1), (3, .ref (ad 90))]) hx hb dL_ticketOf_13 hl (by decide) rfl (fun ls hl => ?_)
      refine lv_iconst (v := 1) hx hb dL_ticketOf_15 (by decide) ?_
      exact sy_ireti hx hb hr hlocks hE hB hS dL_ticketOf_16 ⟨Nat.le_of_ble_eq_true rfl, Nat.le_of_ble_eq_true rfl⟩ (Or.inr ⟨by rw [← hpu]; decide, by rw [← hpu]; rfl, rfl, rfl⟩)
    · refine vx_catch (own := RL) (name := "java/lang/IllegalArgumentException") hown ([⟨0, 10, 13, 13⟩] : List ExceptionTableEntry) (⟨0, 10, 17, 15⟩ : ExceptionTableEntry) [] (htab.trans rfl) (fun z hz => by
            rcases List.mem_cons.mp hz with rfl | hz
            · exact Or.inr ⟨by decide, "java/lang/IndexOutOfBoundsException", hts _ (u_in uk_1_199), hNc.1⟩
            · cases hz) rfl (by decide) (hts _ (u_in uk_1_200)) (va_Nw.use rfl (hE.2.2.2.2.2 _ un_2_37)) hcell hv hcl ?_
      refine lv_astore (lv' := [(4, .ref q9), (0, .ref (ad 60)), (1, .int x0), (2, .int x1), (3, .ref (ad 90))]) hx hb dL_ticketOf_17 hl (by decide) rfl (fun ls hl => ?_)
      refine lv_iconst (v := 2) hx hb dL_ticketOf_19 (by decide) ?_
      exact sy_ireti hx hb hr hlocks hE hB hS dL_ticketOf_20 ⟨Nat.le_of_ble_eq_true rfl, Nat.le_of_ble_eq_true rfl⟩ (Or.inr ⟨by rw [← hpu]; decide, by rw [← hpu]; rfl, rfl, rfl⟩)
    · exact absurd rfl h9
  · skip
    obtain ⟨g1, q1⟩ := u
    have hP := hB.2
    rw [ht] at hP
    dsimp only at hp hP
    refine lv_i2l hx hb dL_ticketOf_8 rfl ?_
    refine sy_last hx hb hE hP hS 90 rfl (i := 0) (k_in rfl) dL_ticketOf_9 (fun H locs hP hS => ?_)
    refine lv_goto (tgt := 21) hx hb dL_ticketOf_10 (by decide) ?_
    refine lv_iconst (v := 0) hx hb dL_ticketOf_21 (by decide) ?_
    exact sy_ireti hx hb hr hlocks hE hP hS dL_ticketOf_22 ⟨Nat.le_of_ble_eq_true rfl, Nat.le_of_ble_eq_true rfl⟩ (Or.inl ⟨by rw [← hp], rfl, by rw [← hp]; rfl, by rw [← hp]⟩)
set_option maxHeartbeats 4000000 in
set_option maxRecDepth 100000 in
theorem mL_interestAnew (l : Launch) (hfl : l.stackTraces = false) (Z : sZ) (nT nK cT cK : Nat) (ad : Nat → Nat) (g : sG) (q : sQ) (x0 : Int32) (hT : nT ≤ 100) (hG : IG nT nK cT cK g) (hQ : IQ nT nK q) (hC : wf 1 9 9 (fX6_interestAnew g q x0).1 ≠ 9) : Met l yL_interestAnew (uW (.codeWith yL_interestAnew cL_interestAnew 4 (some .int) [(0, 9, 12, 13)])) { frames := 9, cells := 1, slots := 6, locals := 145 } (va_Pc [.ref (ad 60), .int x0, .ref (ad 90)] (sPreL Z nT nK cT cK ad g q)) (sQi Z nT nK cT cK ad (fun r g1 q1 => ((fX6_interestAnew g q x0).1 = 0 ∧ r = 0 ∧ g1 = sy_up (fX6_interestAnew g q x0).2.2.1 90 0 (fX6_interestAnew g q x0).2.1 ∧ q1 = (fX6_interestAnew g q x0).2.2.2) ∨ ((fX6_interestAnew g q x0).1 ≠ 0 ∧ r = wf 1 9 9 (fX6_interestAnew g q x0).1 ∧ g1 = g ∧ q1 = q))) 1 6 (sy_A Z) := by
  refine va_MetW (cc := cL_interestAnew) (maxL := 4) (ret := some .int) (by decide) rfl ?_
  intro p e s m args below meth c s₁ B hml hv
  obtain ⟨rfl, ⟨hE, hP⟩, hNc⟩ := hv
  have hx := B.exec
  have hb := B.bytes
  have hr := B.returns
  have hts := atoms_spec (ws := uW (.codeWith yL_interestAnew cL_interestAnew 4 (some .int) [(0, 9, 12, 13)])) B.pre
  have hown : s.vm.findClass RL = some m.cls := findClass_of_methodNamed B.named
  have hlocks := B.notSynchronized
  have htab := vx_table (x := yL_interestAnew) B (hts _ List.mem_cons_self)
  have hS : va_S (sy_A Z) s.heap s.heap [] := va_S.rf
  have hl := lv_entry ([.ref (ad 60), .int x0, .ref (ad 90)]) (n := 4) (Nat.le_of_ble_eq_true rfl)
  rw [lg_entry_eq]
  generalize (lg_sl ([.ref (ad 60), .int x0, .ref (ad 90)]) ++ List.replicate (4 - (lg_sl ([.ref (ad 60), .int x0, .ref (ad 90)])).length) Slot.unset).toArray = ls at hl ⊢
  have hl : lv_has ls 4 [(0, .ref (ad 60)), (1, .int x0), (2, .ref (ad 90))] := hl
  refine lv_aload_n hx hb dL_interestAnew_0 rfl (lv_at hl 2 rfl) ?_
  refine lv_iconst (v := 0) hx hb dL_interestAnew_1 (by decide) ?_
  refine lv_aload_n hx hb dL_interestAnew_2 rfl (lv_at hl 0 rfl) ?_
  refine lv_iload_n hx hb dL_interestAnew_3 rfl (lv_at hl 1 rfl) ?_
  refine vx_calli (sy_xV (o := 60) (As := [.int x0]) (rest := [.int 0, .ref (ad 90)]) ⟨hx, hb, hml, hown, hts⟩ hE hP hS (mX6_interestAnew l hfl Z nT nK cT cK ad g q x0 hT hG hQ) (cwV 1 hts (gu_V uk_4_155 uk_4_156 uk_4_157 uk_1_1 uk_4_158) rfl rfl rfl (by decide +kernel) ⟨Nat.le_of_ble_eq_true rfl, Nat.le_of_ble_eq_true rfl⟩) (sy_recv (kc := 7) hE hP rfl (by decide) rfl rfl rfl) rfl hl.1 rfl (Nat.le_of_ble_eq_true rfl) dL_interestAnew_4 ⟨Nat.le_of_ble_eq_true rfl, Nat.le_of_ble_eq_true rfl⟩) hS (fun _ _ h => h) (fun _ h => h) (fun _ _ h => h) (fun E ce q9 u t H locs ht _ hpu hB _ _ hS hcell hv hcl => ?_) (fun r u t H locs ht _ hp hB _ _ hS => ?_)
  · obtain ⟨rfl, -, hB⟩ := hB
    rw [ht] at hB
    have hC9 := hC
    rw [← hpu] at hC9
    rcases exc_c hC9 with ⟨rfl, hc, h9⟩ | ⟨rfl, hc, h9⟩ | ⟨rfl, hc, h9⟩
    · refine vx_catch (own := RL) (name := "java/lang/IndexOutOfBoundsException") hown ([] : List ExceptionTableEntry) (⟨0, 9, 12, 13⟩ : ExceptionTableEntry) [] (htab.trans rfl) (fun z hz => nomatch hz) rfl (by decide) (hts _ (u_in uk_1_199)) (va_Nw.use rfl (hE.2.2.2.2.2 _ un_1_211)) hcell hv hcl ?_
      refine lv_astore_n (lv' := [(3, .ref q9), (0, .ref (ad 60)), (1, .int x0), (2, .ref (ad 90))]) hx hb dL_interestAnew_12 rfl hl (by decide) rfl (fun ls hl => ?_)
      refine lv_iconst (v := 1) hx hb dL_interestAnew_13 (by decide) ?_
      exact sy_ireti hx hb hr hlocks hE hB hS dL_interestAnew_14 ⟨Nat.le_of_ble_eq_true rfl, Nat.le_of_ble_eq_true rfl⟩ (Or.inr ⟨by rw [← hpu]; decide, by rw [← hpu]; rfl, rfl, rfl⟩)
    · exact absurd rfl h9
    · exact absurd rfl h9
  · skip
    obtain ⟨g1, q1⟩ := u
    have hP := hB.2
    rw [ht] at hP
    dsimp only at hp hP
    refine lv_i2l hx hb dL_interestAnew_7 rfl ?_
    refine sy_last hx hb hE hP hS 90 rfl (i := 0) (k_in rfl) dL_interestAnew_8 (fun H locs hP hS => ?_)
    refine lv_goto (tgt := 15) hx hb dL_interestAnew_9 (by decide) ?_
    refine lv_iconst (v := 0) hx hb dL_interestAnew_15 (by decide) ?_
    exact sy_ireti hx hb hr hlocks hE hP hS dL_interestAnew_16 ⟨Nat.le_of_ble_eq_true rfl, Nat.le_of_ble_eq_true rfl⟩ (Or.inl ⟨by rw [← hp], rfl, by rw [← hp]; rfl, by rw [← hp]⟩)
set_option maxHeartbeats 4000000 in
set_option maxRecDepth 100000 in
theorem mL_expertOf (l : Launch) (hfl : l.stackTraces = false) (Z : sZ) (nT nK cT cK : Nat) (ad : Nat → Nat) (g : sG) (q : sQ) (x0 x1 : Int32) (hT : nT ≤ 100) (hG : IG nT nK cT cK g) (hQ : IQ nT nK q) (hC : wf 1 2 9 (fX6_expertOf g q x0 x1).1 ≠ 9) : Met l yL_expertOf (uW (.codeWith yL_expertOf cL_expertOf 5 (some .int) [(0, 10, 13, 13), (0, 10, 17, 15)])) { frames := 8, cells := 2, slots := 12, locals := 125 } (va_Pc [.ref (ad 60), .int x0, .int x1, .ref (ad 90)] (sPreL Z nT nK cT cK ad g q)) (sQi Z nT nK cT cK ad (fun r g1 q1 => ((fX6_expertOf g q x0 x1).1 = 0 ∧ r = 0 ∧ g1 = sy_up (fX6_expertOf g q x0 x1).2.2.1 90 0 (fX6_expertOf g q x0 x1).2.1 ∧ q1 = (fX6_expertOf g q x0 x1).2.2.2) ∨ ((fX6_expertOf g q x0 x1).1 ≠ 0 ∧ r = wf 1 2 9 (fX6_expertOf g q x0 x1).1 ∧ g1 = g ∧ q1 = q))) 2 12 (sy_A Z) := by
  refine va_MetW (cc := cL_expertOf) (maxL := 5) (ret := some .int) (by decide) rfl ?_
  intro p e s m args below meth c s₁ B hml hv
  obtain ⟨rfl, ⟨hE, hP⟩, hNc⟩ := hv
  have hx := B.exec
  have hb := B.bytes
  have hr := B.returns
  have hts := atoms_spec (ws := uW (.codeWith yL_expertOf cL_expertOf 5 (some .int) [(0, 10, 13, 13), (0, 10, 17, 15)])) B.pre
  have hown : s.vm.findClass RL = some m.cls := findClass_of_methodNamed B.named
  have hlocks := B.notSynchronized
  have htab := vx_table (x := yL_expertOf) B (hts _ List.mem_cons_self)
  have hS : va_S (sy_A Z) s.heap s.heap [] := va_S.rf
  have hl := lv_entry ([.ref (ad 60), .int x0, .int x1, .ref (ad 90)]) (n := 5) (Nat.le_of_ble_eq_true rfl)
  rw [lg_entry_eq]
  generalize (lg_sl ([.ref (ad 60), .int x0, .int x1, .ref (ad 90)]) ++ List.replicate (5 - (lg_sl ([.ref (ad 60), .int x0, .int x1, .ref (ad 90)])).length) Slot.unset).toArray = ls at hl ⊢
  have hl : lv_has ls 5 [(0, .ref (ad 60)), (1, .int x0), (2, .int x1), (3, .ref (ad 90))] := hl
  refine lv_aload_n hx hb dL_expertOf_0 rfl (lv_at hl 3 rfl) ?_
  refine lv_iconst (v := 0) hx hb dL_expertOf_1 (by decide) ?_
  refine lv_aload_n hx hb dL_expertOf_2 rfl (lv_at hl 0 rfl) ?_
  refine lv_iload_n hx hb dL_expertOf_3 rfl (lv_at hl 1 rfl) ?_
  refine lv_iload_n hx hb dL_expertOf_4 rfl (lv_at hl 2 rfl) ?_
  refine vx_calli (sy_xV (o := 60) (As := [.int x0, .int x1]) (rest := [.int 0, .ref (ad 90)]) ⟨hx, hb, hml, hown, hts⟩ hE hP hS (mX6_expertOf l hfl Z nT nK cT cK ad g q x0 x1 hT hG hQ) (cwV 2 hts (gu_V uk_4_166 uk_4_167 uk_4_168 uk_1_1 uk_4_169) rfl rfl rfl (by decide +kernel) ⟨Nat.le_of_ble_eq_true rfl, Nat.le_of_ble_eq_true rfl⟩) (sy_recv (kc := 7) hE hP rfl (by decide) rfl rfl rfl) rfl hl.1 rfl (Nat.le_of_ble_eq_true rfl) dL_expertOf_5 ⟨Nat.le_of_ble_eq_true rfl, Nat.le_of_ble_eq_true rfl⟩) hS (fun _ _ h => h) (fun _ h => h) (fun _ _ h => h) (fun E ce q9 u t H locs ht _ hpu hB _ _ hS hcell hv hcl => ?_) (fun r u t H locs ht _ hp hB _ _ hS => ?_)
  · obtain ⟨rfl, -, hB⟩ := hB
    rw [ht] at hB
    have hC9 := hC
    rw [← hpu] at hC9
    rcases exc_c hC9 with ⟨rfl, hc, h9⟩ | ⟨rfl, hc, h9⟩ | ⟨rfl, hc, h9⟩
    · refine vx_catch (own := RL) (name := "java/lang/IndexOutOfBoundsException") hown ([] : List ExceptionTableEntry) (⟨0, 10, 13, 13⟩ : ExceptionTableEntry) [⟨0, 10, 17, 15⟩] (htab.trans rfl) (fun z hz => nomatch hz) rfl (by decide) (hts _ (u_in uk_1_199)) (va_Nw.use rfl (hE.2.2.2.2.2 _ un_1_211)) hcell hv hcl ?_
      refine lv_astore (lv' := [(4, .ref q9), (0, .ref (ad 60)), (1, .int x0), (2, .int x1), (3, .ref (ad 90))]) hx hb dL_expertOf_13 hl (by decide) rfl (fun ls hl => ?_)
      refine lv_iconst (v := 1) hx hb dL_expertOf_15 (by decide) ?_
      exact sy_ireti hx hb hr hlocks hE hB hS dL_expertOf_16 ⟨Nat.le_of_ble_eq_true rfl, Nat.le_of_ble_eq_true rfl⟩ (Or.inr ⟨by rw [← hpu]; decide, by rw [← hpu]; rfl, rfl, rfl⟩)
    · refine vx_catch (own := RL) (name := "java/lang/IllegalArgumentException") hown ([⟨0, 10, 13, 13⟩] : List ExceptionTableEntry) (⟨0, 10, 17, 15⟩ : ExceptionTableEntry) [] (htab.trans rfl) (fun z hz => by
            rcases List.mem_cons.mp hz with rfl | hz
            · exact Or.inr ⟨by decide, "java/lang/IndexOutOfBoundsException", hts _ (u_in uk_1_199), hNc.1⟩
            · cases hz) rfl (by decide) (hts _ (u_in uk_1_200)) (va_Nw.use rfl (hE.2.2.2.2.2 _ un_2_37)) hcell hv hcl ?_
      refine lv_astore (lv' := [(4, .ref q9), (0, .ref (ad 60)), (1, .int x0), (2, .int x1), (3, .ref (ad 90))]) hx hb dL_expertOf_17 hl (by decide) rfl (fun ls hl => ?_)
      refine lv_iconst (v := 2) hx hb dL_expertOf_19 (by decide) ?_
      exact sy_ireti hx hb hr hlocks hE hB hS dL_expertOf_20 ⟨Nat.le_of_ble_eq_true rfl, Nat.le_of_ble_eq_true rfl⟩ (Or.inr ⟨by rw [← hpu]; decide, by rw [← hpu]; rfl, rfl, rfl⟩)
    · exact absurd rfl h9
  · skip
    obtain ⟨g1, q1⟩ := u
    have hP := hB.2
    rw [ht] at hP
    dsimp only at hp hP
    refine lv_i2l hx hb dL_expertOf_8 rfl ?_
    refine sy_last hx hb hE hP hS 90 rfl (i := 0) (k_in rfl) dL_expertOf_9 (fun H locs hP hS => ?_)
    refine lv_goto (tgt := 21) hx hb dL_expertOf_10 (by decide) ?_
    refine lv_iconst (v := 0) hx hb dL_expertOf_21 (by decide) ?_
    exact sy_ireti hx hb hr hlocks hE hP hS dL_expertOf_22 ⟨Nat.le_of_ble_eq_true rfl, Nat.le_of_ble_eq_true rfl⟩ (Or.inl ⟨by rw [← hp], rfl, by rw [← hp]; rfl, by rw [← hp]⟩)
set_option maxHeartbeats 4000000 in
set_option maxRecDepth 100000 in
theorem mL_bears (l : Launch) (hfl : l.stackTraces = false) (Z : sZ) (nT nK cT cK : Nat) (ad : Nat → Nat) (g : sG) (q : sQ) (x0 x1 : Int32) (hT : nT ≤ 100) (hG : IG nT nK cT cK g) (hQ : IQ nT nK q) (hC : wf 1 9 9 (fX6_bears g q x0 x1).1 ≠ 9) : Met l yL_bears (uW (.codeWith yL_bears cL_bears 5 (some .int) [(0, 10, 13, 13)])) { frames := 8, cells := 2, slots := 12, locals := 124 } (va_Pc [.ref (ad 60), .int x0, .int x1, .ref (ad 90)] (sPreL Z nT nK cT cK ad g q)) (sQi Z nT nK cT cK ad (fun r g1 q1 => ((fX6_bears g q x0 x1).1 = 0 ∧ r = 0 ∧ g1 = sy_up (fX6_bears g q x0 x1).2.2.1 90 0 (fX6_bears g q x0 x1).2.1 ∧ q1 = (fX6_bears g q x0 x1).2.2.2) ∨ ((fX6_bears g q x0 x1).1 ≠ 0 ∧ r = wf 1 9 9 (fX6_bears g q x0 x1).1 ∧ g1 = g ∧ q1 = q))) 2 12 (sy_A Z) := by
  refine va_MetW (cc := cL_bears) (maxL := 5) (ret := some .int) (by decide) rfl ?_
  intro p e s m args below meth c s₁ B hml hv
  obtain ⟨rfl, ⟨hE, hP⟩, hNc⟩ := hv
  have hx := B.exec
  have hb := B.bytes
  have hr := B.returns
  have hts := atoms_spec (ws := uW (.codeWith yL_bears cL_bears 5 (some .int) [(0, 10, 13, 13)])) B.pre
  have hown : s.vm.findClass RL = some m.cls := findClass_of_methodNamed B.named
  have hlocks := B.notSynchronized
  have htab := vx_table (x := yL_bears) B (hts _ List.mem_cons_self)
  have hS : va_S (sy_A Z) s.heap s.heap [] := va_S.rf
  have hl := lv_entry ([.ref (ad 60), .int x0, .int x1, .ref (ad 90)]) (n := 5) (Nat.le_of_ble_eq_true rfl)
  rw [lg_entry_eq]
  generalize (lg_sl ([.ref (ad 60), .int x0, .int x1, .ref (ad 90)]) ++ List.replicate (5 - (lg_sl ([.ref (ad 60), .int x0, .int x1, .ref (ad 90)])).length) Slot.unset).toArray = ls at hl ⊢
  have hl : lv_has ls 5 [(0, .ref (ad 60)), (1, .int x0), (2, .int x1), (3, .ref (ad 90))] := hl
  refine lv_aload_n hx hb dL_bears_0 rfl (lv_at hl 3 rfl) ?_
  refine lv_iconst (v := 0) hx hb dL_bears_1 (by decide) ?_
  refine lv_aload_n hx hb dL_bears_2 rfl (lv_at hl 0 rfl) ?_
  refine lv_iload_n hx hb dL_bears_3 rfl (lv_at hl 1 rfl) ?_
  refine lv_iload_n hx hb dL_bears_4 rfl (lv_at hl 2 rfl) ?_
  refine vx_calli (sy_xV (o := 60) (As := [.int x0, .int x1]) (rest := [.int 0, .ref (ad 90)]) ⟨hx, hb, hml, hown, hts⟩ hE hP hS (mX6_bears l hfl Z nT nK cT cK ad g q x0 x1 hT hG hQ) (cwV 2 hts (gu_V uk_4_173 uk_4_174 uk_4_175 uk_1_1 uk_4_176) rfl rfl rfl (by decide +kernel) ⟨Nat.le_of_ble_eq_true rfl, Nat.le_of_ble_eq_true rfl⟩) (sy_recv (kc := 7) hE hP rfl (by decide) rfl rfl rfl) rfl hl.1 rfl (Nat.le_of_ble_eq_true rfl) dL_bears_5 ⟨Nat.le_of_ble_eq_true rfl, Nat.le_of_ble_eq_true rfl⟩) hS (fun _ _ h => h) (fun _ h => h) (fun _ _ h => h) (fun E ce q9 u t H locs ht _ hpu hB _ _ hS hcell hv hcl => ?_) (fun r u t H locs ht _ hp hB _ _ hS => ?_)
  · obtain ⟨rfl, -, hB⟩ := hB
    rw [ht] at hB
    have hC9 := hC
    rw [← hpu] at hC9
    rcases exc_c hC9 with ⟨rfl, hc, h9⟩ | ⟨rfl, hc, h9⟩ | ⟨rfl, hc, h9⟩
    · refine vx_catch (own := RL) (name := "java/lang/IndexOutOfBoundsException") hown ([] : List ExceptionTableEntry) (⟨0, 10, 13, 13⟩ : ExceptionTableEntry) [] (htab.trans rfl) (fun z hz => nomatch hz) rfl (by decide) (hts _ (u_in uk_1_199)) (va_Nw.use rfl (hE.2.2.2.2.2 _ un_1_211)) hcell hv hcl ?_
      refine lv_astore (lv' := [(4, .ref q9), (0, .ref (ad 60)), (1, .int x0), (2, .int x1), (3, .ref (ad 90))]) hx hb dL_bears_13 hl (by decide) rfl (fun ls hl => ?_)
      refine lv_iconst (v := 1) hx hb dL_bears_15 (by decide) ?_
      exact sy_ireti hx hb hr hlocks hE hB hS dL_bears_16 ⟨Nat.le_of_ble_eq_true rfl, Nat.le_of_ble_eq_true rfl⟩ (Or.inr ⟨by rw [← hpu]; decide, by rw [← hpu]; rfl, rfl, rfl⟩)
    · exact absurd rfl h9
    · exact absurd rfl h9
  · skip
    obtain ⟨g1, q1⟩ := u
    have hP := hB.2
    rw [ht] at hP
    dsimp only at hp hP
    refine lv_i2l hx hb dL_bears_8 rfl ?_
    refine sy_last hx hb hE hP hS 90 rfl (i := 0) (k_in rfl) dL_bears_9 (fun H locs hP hS => ?_)
    refine lv_goto (tgt := 17) hx hb dL_bears_10 (by decide) ?_
    refine lv_iconst (v := 0) hx hb dL_bears_17 (by decide) ?_
    exact sy_ireti hx hb hr hlocks hE hP hS dL_bears_18 ⟨Nat.le_of_ble_eq_true rfl, Nat.le_of_ble_eq_true rfl⟩ (Or.inl ⟨by rw [← hp], rfl, by rw [← hp]; rfl, by rw [← hp]⟩)
set_option maxHeartbeats 4000000 in
set_option maxRecDepth 100000 in
theorem mL_money (l : Launch) (hfl : l.stackTraces = false) (Z : sZ) (nT nK cT cK : Nat) (ad : Nat → Nat) (g : sG) (q : sQ) (x0 : Int32) (hT : nT ≤ 100) (hG : IG nT nK cT cK g) (hQ : IQ nT nK q) (hC : wf 9 1 9 (fX6_money g q x0).1 ≠ 9) : Met l yL_money (uW (.codeWith yL_money cL_money 4 (some .int) [(0, 9, 12, 15)])) { frames := 8, cells := 1, slots := 6, locals := 124 } (va_Pc [.ref (ad 60), .int x0, .ref (ad 90)] (sPreL Z nT nK cT cK ad g q)) (sQi Z nT nK cT cK ad (fun r g1 q1 => ((fX6_money g q x0).1 = 0 ∧ r = 0 ∧ g1 = sy_up (fX6_money g q x0).2.2.1 90 0 (fX6_money g q x0).2.1 ∧ q1 = (fX6_money g q x0).2.2.2) ∨ ((fX6_money g q x0).1 ≠ 0 ∧ r = wf 9 1 9 (fX6_money g q x0).1 ∧ g1 = g ∧ q1 = q))) 1 6 (sy_A Z) := by
  refine va_MetW (cc := cL_money) (maxL := 4) (ret := some .int) (by decide) rfl ?_
  intro p e s m args below meth c s₁ B hml hv
  obtain ⟨rfl, ⟨hE, hP⟩, hNc⟩ := hv
  have hx := B.exec
  have hb := B.bytes
  have hr := B.returns
  have hts := atoms_spec (ws := uW (.codeWith yL_money cL_money 4 (some .int) [(0, 9, 12, 15)])) B.pre
  have hown : s.vm.findClass RL = some m.cls := findClass_of_methodNamed B.named
  have hlocks := B.notSynchronized
  have htab := vx_table (x := yL_money) B (hts _ List.mem_cons_self)
  have hS : va_S (sy_A Z) s.heap s.heap [] := va_S.rf
  have hl := lv_entry ([.ref (ad 60), .int x0, .ref (ad 90)]) (n := 4) (Nat.le_of_ble_eq_true rfl)
  rw [lg_entry_eq]
  generalize (lg_sl ([.ref (ad 60), .int x0, .ref (ad 90)]) ++ List.replicate (4 - (lg_sl ([.ref (ad 60), .int x0, .ref (ad 90)])).length) Slot.unset).toArray = ls at hl ⊢
  have hl : lv_has ls 4 [(0, .ref (ad 60)), (1, .int x0), (2, .ref (ad 90))] := hl
  refine lv_aload_n hx hb dL_money_0 rfl (lv_at hl 2 rfl) ?_
  refine lv_iconst (v := 0) hx hb dL_money_1 (by decide) ?_
  refine lv_aload_n hx hb dL_money_2 rfl (lv_at hl 0 rfl) ?_
  refine lv_iload_n hx hb dL_money_3 rfl (lv_at hl 1 rfl) ?_
  refine vx_calli (sy_xV (o := 60) (As := [.int x0]) (rest := [.int 0, .ref (ad 90)]) ⟨hx, hb, hml, hown, hts⟩ hE hP hS (mX6_money l hfl Z nT nK cT cK ad g q x0 hT hG hQ) (cwV 1 hts (gu_V uk_4_180 uk_4_181 uk_4_182 uk_1_1 uk_4_183) rfl rfl rfl (by decide +kernel) ⟨Nat.le_of_ble_eq_true rfl, Nat.le_of_ble_eq_true rfl⟩) (sy_recv (kc := 7) hE hP rfl (by decide) rfl rfl rfl) rfl hl.1 rfl (Nat.le_of_ble_eq_true rfl) dL_money_4 ⟨Nat.le_of_ble_eq_true rfl, Nat.le_of_ble_eq_true rfl⟩) hS (fun _ _ h => h) (fun _ h => h) (fun _ _ h => h) (fun E ce q9 u t H locs ht _ hpu hB _ _ hS hcell hv hcl => ?_) (fun r u t H locs ht _ hp hB _ _ hS => ?_)
  · obtain ⟨rfl, -, hB⟩ := hB
    rw [ht] at hB
    have hC9 := hC
    rw [← hpu] at hC9
    rcases exc_c hC9 with ⟨rfl, hc, h9⟩ | ⟨rfl, hc, h9⟩ | ⟨rfl, hc, h9⟩
    · exact absurd rfl h9
    · refine vx_catch (own := RL) (name := "java/lang/IllegalArgumentException") hown ([] : List ExceptionTableEntry) (⟨0, 9, 12, 15⟩ : ExceptionTableEntry) [] (htab.trans rfl) (fun z hz => nomatch hz) rfl (by decide) (hts _ (u_in uk_1_200)) (va_Nw.use rfl (hE.2.2.2.2.2 _ un_2_37)) hcell hv hcl ?_
      refine lv_astore_n (lv' := [(3, .ref q9), (0, .ref (ad 60)), (1, .int x0), (2, .ref (ad 90))]) hx hb dL_money_12 rfl hl (by decide) rfl (fun ls hl => ?_)
      refine lv_iconst (v := 1) hx hb dL_money_13 (by decide) ?_
      exact sy_ireti hx hb hr hlocks hE hB hS dL_money_14 ⟨Nat.le_of_ble_eq_true rfl, Nat.le_of_ble_eq_true rfl⟩ (Or.inr ⟨by rw [← hpu]; decide, by rw [← hpu]; rfl, rfl, rfl⟩)
    · exact absurd rfl h9
  · skip
    obtain ⟨g1, q1⟩ := u
    have hP := hB.2
    rw [ht] at hP
    dsimp only at hp hP
    refine lv_i2l hx hb dL_money_7 rfl ?_
    refine sy_last hx hb hE hP hS 90 rfl (i := 0) (k_in rfl) dL_money_8 (fun H locs hP hS => ?_)
    refine lv_goto (tgt := 15) hx hb dL_money_9 (by decide) ?_
    refine lv_iconst (v := 0) hx hb dL_money_15 (by decide) ?_
    exact sy_ireti hx hb hr hlocks hE hP hS dL_money_16 ⟨Nat.le_of_ble_eq_true rfl, Nat.le_of_ble_eq_true rfl⟩ (Or.inl ⟨by rw [← hp], rfl, by rw [← hp]; rfl, by rw [← hp]⟩)
