def sNc (U : State) : Prop := va_Nc "java/lang/IllegalArgumentException" "java/lang/IndexOutOfBoundsException" U ∧ va_Nc "java/lang/IllegalStateException" "java/lang/IndexOutOfBoundsException" U ∧ va_Nc "java/lang/IllegalStateException" "java/lang/IllegalArgumentException" U
theorem sNc.next {s U : State} (hv : s.vm.Alike U.vm) (h : sNc s) : sNc U := ⟨h.1.moved hv, h.2.1.moved hv, h.2.2.moved hv⟩
def sPreL (Z : sZ) (nT nK cT cK : Nat) (ad : Nat → Nat) (g : sG) (q : sQ) : State → Prop := fun U => sPre Z nT nK cT cK ad g q U ∧ sNc U
theorem sPreL_blind {Z : sZ} {nT nK cT cK : Nat} {ad : Nat → Nat} {g : sG} {q : sQ} (av : List Value) : FrameBlind (va_Pc av (sPreL Z nT nK cT cK ad g q)) := fun a U g' mk h => ⟨h.1, (sPre_blind av a U g' mk ⟨h.1, h.2.1⟩).2, h.2.2.next (Vm.Alike.refl _)⟩
theorem exc_c {E : String} {a b c : Int32} (h : wf a b c (exc E) ≠ 9) : (E = "java/lang/IndexOutOfBoundsException" ∧ exc E = 1 ∧ a ≠ 9) ∨ (E = "java/lang/IllegalArgumentException" ∧ exc E = 2 ∧ b ≠ 9) ∨ (E = "java/lang/IllegalStateException" ∧ exc E = 3 ∧ c ≠ 9) := by
  by_cases h1 : E = "java/lang/IndexOutOfBoundsException"
  · subst h1
    exact Or.inl ⟨rfl, exc_IO, fun z => h (by rw [exc_IO]; exact z)⟩
  · by_cases h2 : E = "java/lang/IllegalArgumentException"
    · subst h2
      exact Or.inr (Or.inl ⟨rfl, exc_IA, fun z => h (by rw [exc_IA]; exact z)⟩)
    · by_cases h3 : E = "java/lang/IllegalStateException"
      · subst h3
        exact Or.inr (Or.inr ⟨rfl, exc_IS, fun z => h (by rw [exc_IS]; exact z)⟩)
      · exfalso
        have : exc E = 9 := by unfold exc; rw [if_neg h1, if_neg h2, if_neg h3]
        rw [this] at h
        exact h rfl
set_option maxHeartbeats 4000000 in
set_option maxRecDepth 100000 in
theorem mL_thing (l : Launch) (hfl : l.stackTraces = false) (Z : sZ) (nT nK cT cK : Nat) (ad : Nat → Nat) (g : sG) (q : sQ) (x0 x1 x2 : Int32) {n : Nat} (hI : CI n nT nK cT cK g q) (h7x : cT = 0 → ad 70 = Z.2.2.2) : Met l yL_thing (uW (.codeWith yL_thing cL_thing 5 (some .long) [(0, 8, 9, 15), (0, 8, 15, 19), (0, 8, 21, 23)])) { frames := 8, cells := 6, slots := 96, locals := 195 } (va_Pc [.ref (ad 60), .int x0, .int x1, .int x2] (sPreL Z nT nK cT cK ad g q)) (va_Ql (fun (r : Int64) (u : (Nat → Nat) × sG × sQ) => r = wl (fX6_thing g q nT x0 x1 x2).1 (fX6_thing g q nT x0 x1 x2).2.1 ∧ ((fX6_thing g q nT x0 x1 x2).1 = 0 → (∀ x, x ≠ 70 → x ≠ 100 + nT → u.1 x = ad x) ∧ u.2.1 = (fX6_thing g q nT x0 x1 x2).2.2.1 ∧ u.2.2 = (fX6_thing g q nT x0 x1 x2).2.2.2)) (fun u t => sEnv Z t ∧ ((fX6_thing g q nT x0 x1 x2).1 = 0 → Sy Z (nT + 1) nK (sCap nT cT) cK u.1 u.2.1 u.2.2 t.heap) ∧ ((fX6_thing g q nT x0 x1 x2).1 ≠ 0 → Sy Z nT nK cT cK ad g q t.heap)) (sy_A Z)) 6 96 (sy_A Z) := by
  refine va_MetW (cc := cL_thing) (maxL := 5) (ret := some .long) (by decide) rfl ?_
  intro p e s m args below meth c s₁ B hml hv
  obtain ⟨rfl, ⟨hE, hP⟩, hNc⟩ := hv
  have hx := B.exec
  have hb := B.bytes
  have hr := B.returns
  have hts := atoms_spec (ws := uW (.codeWith yL_thing cL_thing 5 (some .long) [(0, 8, 9, 15), (0, 8, 15, 19), (0, 8, 21, 23)])) B.pre
  have hown : s.vm.findClass RL = some m.cls := findClass_of_methodNamed B.named
  have hlocks := B.notSynchronized
  have htab := vx_table (x := yL_thing) B (hts _ List.mem_cons_self)
  have hS : va_S (sy_A Z) s.heap s.heap [] := va_S.rf
  have hl := lv_entry ([.ref (ad 60), .int x0, .int x1, .int x2]) (n := 5) (Nat.le_of_ble_eq_true rfl)
  rw [lg_entry_eq]
  generalize (lg_sl ([.ref (ad 60), .int x0, .int x1, .int x2]) ++ List.replicate (5 - (lg_sl ([.ref (ad 60), .int x0, .int x1, .int x2])).length) Slot.unset).toArray = ls at hl ⊢
  have hl : lv_has ls 5 [(0, .ref (ad 60)), (1, .int x0), (2, .int x1), (3, .int x2)] := hl
  refine lv_aload_n hx hb dL_thing_0 rfl (lv_at hl 0 rfl) ?_
  refine lv_iload_n hx hb dL_thing_1 rfl (lv_at hl 1 rfl) ?_
  refine lv_iload_n hx hb dL_thing_2 rfl (lv_at hl 2 rfl) ?_
  refine lv_iload_n hx hb dL_thing_3 rfl (lv_at hl 3 rfl) ?_
  refine vx_calli (sy_xV (o := 60) (As := [.int x0, .int x1, .int x2]) (rest := []) ⟨hx, hb, hml, hown, hts⟩ hE hP hS (mX6_thing l hfl Z nT nK cT cK ad g q x0 x1 x2 (ci_IG hI) (ci_IQ hI) hI.1.2.2.2.1 h7x hI.2.2.2.2.2.2.2.2.2.2.2.1 (fun o k e => by have := hI.2.2.2.2.2.2.2.2.2.2.2.2.2.1 o k _ e; omega) (fun o k e => by have := hI.2.2.2.2.2.2.2.2.2.2.2.2.2.1 o k _ e; have := ci_T hI; omega)) (cwV 3 hts (gu_V uk_1_198 uk_1_199 uk_1_200 uk_1_1 uk_1_201) rfl rfl rfl (by decide +kernel) ⟨Nat.le_of_ble_eq_true rfl, Nat.le_of_ble_eq_true rfl⟩) (sy_recv (kc := 7) hE hP rfl (by decide) rfl rfl rfl) rfl hl.1 rfl (Nat.le_of_ble_eq_true rfl) dL_thing_4 ⟨Nat.le_of_ble_eq_true rfl, Nat.le_of_ble_eq_true rfl⟩) hS (fun _ _ h => h) (fun _ h => h) (fun _ _ h => h) (fun E ce q9 u t H locs ht _ hpu hB _ _ hS hcell hv hcl => ?_) (fun r u t H locs ht _ hp hB _ _ hS => ?_)
  · obtain ⟨rfl, -, hB⟩ := hB
    rw [ht] at hB
    have hC9 : wf 1 2 3 (fX6_thing g q nT x0 x1 x2).1 ≠ 9 := h6_thing
    rw [← hpu] at hC9
    rcases exc_c hC9 with ⟨rfl, hc, h9⟩ | ⟨rfl, hc, h9⟩ | ⟨rfl, hc, h9⟩
    · refine vx_catch (own := RL) (name := "java/lang/IndexOutOfBoundsException") hown ([] : List ExceptionTableEntry) (⟨0, 8, 9, 15⟩ : ExceptionTableEntry) [⟨0, 8, 15, 19⟩, ⟨0, 8, 21, 23⟩] (htab.trans rfl) (fun z hz => nomatch hz) rfl (by decide) (hts _ (u_in uk_1_195)) (va_Nw.use rfl (hE.2.2.2.2.2 _ un_1_207)) hcell hv hcl ?_
      refine lv_astore (lv' := [(4, .ref q9), (0, .ref (ad 60)), (1, .int x0), (2, .int x1), (3, .int x2)]) hx hb dL_thing_9 hl (by decide) rfl (fun ls hl => ?_)
      refine lv_ldc2 (v := (-9000000000000000001)) hx hb hown (hts _ (u_in uk_2_181)) dL_thing_11 ?_
      have hcode : (fX6_thing g q nT x0 x1 x2).1 = 1 := hpu.symm.trans hc
      exact W.widen (Nat.le_of_ble_eq_true rfl) (Nat.le_of_ble_eq_true rfl) (W.lret hx hb hr (fun t ht hW => ⟨⟨(-9000000000000000001), (ad, g, q), rfl, ⟨by rw [hcode]; rfl, fun z => absurd (hcode.symm.trans z) (by decide)⟩, hE.next hS ht hW.alike, fun z => absurd (hcode.symm.trans z) (by decide), fun _ => by rw [ht]; exact hB⟩, hS.F ht⟩) hS.2.2 dL_thing_14 hlocks)
    · refine vx_catch (own := RL) (name := "java/lang/IllegalArgumentException") hown ([⟨0, 8, 9, 15⟩] : List ExceptionTableEntry) (⟨0, 8, 15, 19⟩ : ExceptionTableEntry) [⟨0, 8, 21, 23⟩] (htab.trans rfl) (fun z hz => by
            rcases List.mem_cons.mp hz with rfl | hz
            · exact Or.inr ⟨by decide, "java/lang/IndexOutOfBoundsException", hts _ (u_in uk_1_195), hNc.1⟩
            · cases hz) rfl (by decide) (hts _ (u_in uk_1_196)) (va_Nw.use rfl (hE.2.2.2.2.2 _ un_2_33)) hcell hv hcl ?_
      refine lv_astore (lv' := [(4, .ref q9), (0, .ref (ad 60)), (1, .int x0), (2, .int x1), (3, .int x2)]) hx hb dL_thing_15 hl (by decide) rfl (fun ls hl => ?_)
      refine lv_ldc2 (v := (-9000000000000000002)) hx hb hown (hts _ (u_in uk_2_182)) dL_thing_17 ?_
      have hcode : (fX6_thing g q nT x0 x1 x2).1 = 2 := hpu.symm.trans hc
      exact W.widen (Nat.le_of_ble_eq_true rfl) (Nat.le_of_ble_eq_true rfl) (W.lret hx hb hr (fun t ht hW => ⟨⟨(-9000000000000000002), (ad, g, q), rfl, ⟨by rw [hcode]; rfl, fun z => absurd (hcode.symm.trans z) (by decide)⟩, hE.next hS ht hW.alike, fun z => absurd (hcode.symm.trans z) (by decide), fun _ => by rw [ht]; exact hB⟩, hS.F ht⟩) hS.2.2 dL_thing_20 hlocks)
    · refine vx_catch (own := RL) (name := "java/lang/IllegalStateException") hown ([⟨0, 8, 9, 15⟩, ⟨0, 8, 15, 19⟩] : List ExceptionTableEntry) (⟨0, 8, 21, 23⟩ : ExceptionTableEntry) [] (htab.trans rfl) (fun z hz => by
            rcases List.mem_cons.mp hz with rfl | hz
            · exact Or.inr ⟨by decide, "java/lang/IndexOutOfBoundsException", hts _ (u_in uk_1_195), hNc.2.1⟩
            · rcases List.mem_cons.mp hz with rfl | hz
              · exact Or.inr ⟨by decide, "java/lang/IllegalArgumentException", hts _ (u_in uk_1_196), hNc.2.2⟩
              · cases hz) rfl (by decide) (hts _ (u_in uk_1_197)) (va_Nw.use rfl (hE.2.2.2.2.2 _ un_2_55)) hcell hv hcl ?_
      refine lv_astore (lv' := [(4, .ref q9), (0, .ref (ad 60)), (1, .int x0), (2, .int x1), (3, .int x2)]) hx hb dL_thing_21 hl (by decide) rfl (fun ls hl => ?_)
      refine lv_ldc2 (v := (-9000000000000000003)) hx hb hown (hts _ (u_in uk_2_183)) dL_thing_23 ?_
      have hcode : (fX6_thing g q nT x0 x1 x2).1 = 3 := hpu.symm.trans hc
      exact W.widen (Nat.le_of_ble_eq_true rfl) (Nat.le_of_ble_eq_true rfl) (W.lret hx hb hr (fun t ht hW => ⟨⟨(-9000000000000000003), (ad, g, q), rfl, ⟨by rw [hcode]; rfl, fun z => absurd (hcode.symm.trans z) (by decide)⟩, hE.next hS ht hW.alike, fun z => absurd (hcode.symm.trans z) (by decide), fun _ => by rw [ht]; exact hB⟩, hS.F ht⟩) hS.2.2 dL_thing_26 hlocks)
  · skip
    obtain ⟨ad1, g1, q1⟩ := u
    obtain ⟨had, hp⟩ := hp
    have hP := hB.2
    rw [ht] at hP
    dsimp only at had hp hP
    refine lv_i2l hx hb dL_thing_7 rfl ?_
    exact W.widen (Nat.le_of_ble_eq_true rfl) (Nat.le_of_ble_eq_true rfl) (W.lret hx hb hr (fun t ht hW => ⟨⟨r.toInt64, (ad1, g1, q1), rfl, ⟨by rw [← hp]; rfl, fun _ => ⟨had, by rw [← hp], by rw [← hp]⟩⟩, hE.next hS ht hW.alike, fun _ => by rw [ht]; exact hP, fun z => absurd (by rw [← hp]) z⟩, hS.F ht⟩) hS.2.2 dL_thing_8 hlocks)
set_option maxHeartbeats 4000000 in
set_option maxRecDepth 100000 in
theorem mL_fashion (l : Launch) (hfl : l.stackTraces = false) (Z : sZ) (nT nK cT cK : Nat) (ad : Nat → Nat) (g : sG) (q : sQ) (x0 x1 : Int32) {n : Nat} (hI : CI n nT nK cT cK g q) : Met l yL_fashion (uW (.codeWith yL_fashion cL_fashion 4 (some .long) [(0, 7, 8, 15), (0, 7, 13, 19)])) { frames := 8, cells := 2, slots := 12, locals := 126 } (va_Pc [.ref (ad 60), .int x0, .int x1] (sPreL Z nT nK cT cK ad g q)) (sQl Z nT nK cT cK ad (fun r g1 q1 => (r, g1, q1) = (wl (fX6_fashion g q x0 x1).1 (fX6_fashion g q x0 x1).2.1, (fX6_fashion g q x0 x1).2.2.1, (fX6_fashion g q x0 x1).2.2.2))) 2 12 (sy_A Z) := by
  refine va_MetW (cc := cL_fashion) (maxL := 4) (ret := some .long) (by decide) rfl ?_
  intro p e s m args below meth c s₁ B hml hv
  obtain ⟨rfl, ⟨hE, hP⟩, hNc⟩ := hv
  have hx := B.exec
  have hb := B.bytes
  have hr := B.returns
  have hts := atoms_spec (ws := uW (.codeWith yL_fashion cL_fashion 4 (some .long) [(0, 7, 8, 15), (0, 7, 13, 19)])) B.pre
  have hown : s.vm.findClass RL = some m.cls := findClass_of_methodNamed B.named
  have hlocks := B.notSynchronized
  have htab := vx_table (x := yL_fashion) B (hts _ List.mem_cons_self)
  have hS : va_S (sy_A Z) s.heap s.heap [] := va_S.rf
  have hl := lv_entry ([.ref (ad 60), .int x0, .int x1]) (n := 4) (Nat.le_of_ble_eq_true rfl)
  rw [lg_entry_eq]
  generalize (lg_sl ([.ref (ad 60), .int x0, .int x1]) ++ List.replicate (4 - (lg_sl ([.ref (ad 60), .int x0, .int x1])).length) Slot.unset).toArray = ls at hl ⊢
  have hl : lv_has ls 4 [(0, .ref (ad 60)), (1, .int x0), (2, .int x1)] := hl
  refine lv_aload_n hx hb dL_fashion_0 rfl (lv_at hl 0 rfl) ?_
  refine lv_iload_n hx hb dL_fashion_1 rfl (lv_at hl 1 rfl) ?_
  refine lv_iload_n hx hb dL_fashion_2 rfl (lv_at hl 2 rfl) ?_
  refine vx_calli (sy_xV (o := 60) (As := [.int x0, .int x1]) (rest := []) ⟨hx, hb, hml, hown, hts⟩ hE hP hS (mX6_fashion l hfl Z nT nK cT cK ad g q x0 x1 (by have := ci_T hI; omega) (ci_IG hI) (ci_IQ hI)) (cwV 2 hts (gu_V uk_2_187 uk_2_188 uk_2_189 uk_1_1 uk_2_190) rfl rfl rfl (by decide +kernel) ⟨Nat.le_of_ble_eq_true rfl, Nat.le_of_ble_eq_true rfl⟩) (sy_recv (kc := 7) hE hP rfl (by decide) rfl rfl rfl) rfl hl.1 rfl (Nat.le_of_ble_eq_true rfl) dL_fashion_3 ⟨Nat.le_of_ble_eq_true rfl, Nat.le_of_ble_eq_true rfl⟩) hS (fun _ _ h => h) (fun _ h => h) (fun _ _ h => h) (fun E ce q9 u t H locs ht _ hpu hB _ _ hS hcell hv hcl => ?_) (fun r u t H locs ht _ hp hB _ _ hS => ?_)
  · obtain ⟨rfl, -, hB⟩ := hB
    rw [ht] at hB
    have hC9 : wf 1 2 9 (fX6_fashion g q x0 x1).1 ≠ 9 := h6_fashion
    rw [← hpu] at hC9
    rcases exc_c hC9 with ⟨rfl, hc, h9⟩ | ⟨rfl, hc, h9⟩ | ⟨rfl, hc, h9⟩
    · refine vx_catch (own := RL) (name := "java/lang/IndexOutOfBoundsException") hown ([] : List ExceptionTableEntry) (⟨0, 7, 8, 15⟩ : ExceptionTableEntry) [⟨0, 7, 13, 19⟩] (htab.trans rfl) (fun z hz => nomatch hz) rfl (by decide) (hts _ (u_in uk_1_195)) (va_Nw.use rfl (hE.2.2.2.2.2 _ un_1_207)) hcell hv hcl ?_
      refine lv_astore_n (lv' := [(3, .ref q9), (0, .ref (ad 60)), (1, .int x0), (2, .int x1)]) hx hb dL_fashion_8 rfl hl (by decide) rfl (fun ls hl => ?_)
      refine lv_ldc2 (v := (-9000000000000000001)) hx hb hown (hts _ (u_in uk_2_181)) dL_fashion_9 ?_
      have hcode : (fX6_fashion g q x0 x1).1 = 1 := hpu.symm.trans hc
      exact sy_lret hx hb hr hlocks hE hB hS dL_fashion_12 ⟨Nat.le_of_ble_eq_true rfl, Nat.le_of_ble_eq_true rfl⟩ (post_no n6_fashion hcode (by decide) rfl)
    · refine vx_catch (own := RL) (name := "java/lang/IllegalArgumentException") hown ([⟨0, 7, 8, 15⟩] : List ExceptionTableEntry) (⟨0, 7, 13, 19⟩ : ExceptionTableEntry) [] (htab.trans rfl) (fun z hz => by
            rcases List.mem_cons.mp hz with rfl | hz
            · exact Or.inr ⟨by decide, "java/lang/IndexOutOfBoundsException", hts _ (u_in uk_1_195), hNc.1⟩
            · cases hz) rfl (by decide) (hts _ (u_in uk_1_196)) (va_Nw.use rfl (hE.2.2.2.2.2 _ un_2_33)) hcell hv hcl ?_
      refine lv_astore_n (lv' := [(3, .ref q9), (0, .ref (ad 60)), (1, .int x0), (2, .int x1)]) hx hb dL_fashion_13 rfl hl (by decide) rfl (fun ls hl => ?_)
      refine lv_ldc2 (v := (-9000000000000000002)) hx hb hown (hts _ (u_in uk_2_182)) dL_fashion_14 ?_
      have hcode : (fX6_fashion g q x0 x1).1 = 2 := hpu.symm.trans hc
      exact sy_lret hx hb hr hlocks hE hB hS dL_fashion_17 ⟨Nat.le_of_ble_eq_true rfl, Nat.le_of_ble_eq_true rfl⟩ (post_no n6_fashion hcode (by decide) rfl)
    · exact absurd rfl h9
  · skip
    obtain ⟨g1, q1⟩ := u
    have hP := hB.2
    rw [ht] at hP
    dsimp only at hp hP
    refine lv_i2l hx hb dL_fashion_6 rfl ?_
    exact sy_lret hx hb hr hlocks hE hP hS dL_fashion_7 ⟨Nat.le_of_ble_eq_true rfl, Nat.le_of_ble_eq_true rfl⟩ (post_yes hp)
set_option maxHeartbeats 4000000 in
set_option maxRecDepth 100000 in
theorem mL_bias (l : Launch) (hfl : l.stackTraces = false) (Z : sZ) (nT nK cT cK : Nat) (ad : Nat → Nat) (g : sG) (q : sQ) (x0 x1 : Int32) {n : Nat} (hI : CI n nT nK cT cK g q) : Met l yL_bias (uW (.codeWith yL_bias cL_bias 4 (some .long) [(0, 7, 8, 15), (0, 7, 13, 19)])) { frames := 8, cells := 2, slots := 12, locals := 126 } (va_Pc [.ref (ad 60), .int x0, .int x1] (sPreL Z nT nK cT cK ad g q)) (sQl Z nT nK cT cK ad (fun r g1 q1 => (r, g1, q1) = (wl (fX6_bias g q x0 x1).1 (fX6_bias g q x0 x1).2.1, (fX6_bias g q x0 x1).2.2.1, (fX6_bias g q x0 x1).2.2.2))) 2 12 (sy_A Z) := by
  refine va_MetW (cc := cL_bias) (maxL := 4) (ret := some .long) (by decide) rfl ?_
  intro p e s m args below meth c s₁ B hml hv
  obtain ⟨rfl, ⟨hE, hP⟩, hNc⟩ := hv
  have hx := B.exec
  have hb := B.bytes
  have hr := B.returns
  have hts := atoms_spec (ws := uW (.codeWith yL_bias cL_bias 4 (some .long) [(0, 7, 8, 15), (0, 7, 13, 19)])) B.pre
  have hown : s.vm.findClass RL = some m.cls := findClass_of_methodNamed B.named
  have hlocks := B.notSynchronized
  have htab := vx_table (x := yL_bias) B (hts _ List.mem_cons_self)
  have hS : va_S (sy_A Z) s.heap s.heap [] := va_S.rf
  have hl := lv_entry ([.ref (ad 60), .int x0, .int x1]) (n := 4) (Nat.le_of_ble_eq_true rfl)
  rw [lg_entry_eq]
  generalize (lg_sl ([.ref (ad 60), .int x0, .int x1]) ++ List.replicate (4 - (lg_sl ([.ref (ad 60), .int x0, .int x1])).length) Slot.unset).toArray = ls at hl ⊢
  have hl : lv_has ls 4 [(0, .ref (ad 60)), (1, .int x0), (2, .int x1)] := hl
  refine lv_aload_n hx hb dL_bias_0 rfl (lv_at hl 0 rfl) ?_
  refine lv_iload_n hx hb dL_bias_1 rfl (lv_at hl 1 rfl) ?_
  refine lv_iload_n hx hb dL_bias_2 rfl (lv_at hl 2 rfl) ?_
  refine vx_calli (sy_xV (o := 60) (As := [.int x0, .int x1]) (rest := []) ⟨hx, hb, hml, hown, hts⟩ hE hP hS (mX6_bias l hfl Z nT nK cT cK ad g q x0 x1 (by have := ci_T hI; omega) (ci_IG hI) (ci_IQ hI)) (cwV 2 hts (gu_V uk_4_137 uk_4_138 uk_4_139 uk_1_1 uk_4_140) rfl rfl rfl (by decide +kernel) ⟨Nat.le_of_ble_eq_true rfl, Nat.le_of_ble_eq_true rfl⟩) (sy_recv (kc := 7) hE hP rfl (by decide) rfl rfl rfl) rfl hl.1 rfl (Nat.le_of_ble_eq_true rfl) dL_bias_3 ⟨Nat.le_of_ble_eq_true rfl, Nat.le_of_ble_eq_true rfl⟩) hS (fun _ _ h => h) (fun _ h => h) (fun _ _ h => h) (fun E ce q9 u t H locs ht _ hpu hB _ _ hS hcell hv hcl => ?_) (fun r u t H locs ht _ hp hB _ _ hS => ?_)
  · obtain ⟨rfl, -, hB⟩ := hB
    rw [ht] at hB
    have hC9 : wf 1 2 9 (fX6_bias g q x0 x1).1 ≠ 9 := h6_bias
    rw [← hpu] at hC9
    rcases exc_c hC9 with ⟨rfl, hc, h9⟩ | ⟨rfl, hc, h9⟩ | ⟨rfl, hc, h9⟩
    · refine vx_catch (own := RL) (name := "java/lang/IndexOutOfBoundsException") hown ([] : List ExceptionTableEntry) (⟨0, 7, 8, 15⟩ : ExceptionTableEntry) [⟨0, 7, 13, 19⟩] (htab.trans rfl) (fun z hz => nomatch hz) rfl (by decide) (hts _ (u_in uk_1_195)) (va_Nw.use rfl (hE.2.2.2.2.2 _ un_1_207)) hcell hv hcl ?_
      refine lv_astore_n (lv' := [(3, .ref q9), (0, .ref (ad 60)), (1, .int x0), (2, .int x1)]) hx hb dL_bias_8 rfl hl (by decide) rfl (fun ls hl => ?_)
      refine lv_ldc2 (v := (-9000000000000000001)) hx hb hown (hts _ (u_in uk_2_181)) dL_bias_9 ?_
      have hcode : (fX6_bias g q x0 x1).1 = 1 := hpu.symm.trans hc
      exact sy_lret hx hb hr hlocks hE hB hS dL_bias_12 ⟨Nat.le_of_ble_eq_true rfl, Nat.le_of_ble_eq_true rfl⟩ (post_no n6_bias hcode (by decide) rfl)
    · refine vx_catch (own := RL) (name := "java/lang/IllegalArgumentException") hown ([⟨0, 7, 8, 15⟩] : List ExceptionTableEntry) (⟨0, 7, 13, 19⟩ : ExceptionTableEntry) [] (htab.trans rfl) (fun z hz => by
            rcases List.mem_cons.mp hz with rfl | hz
            · exact Or.inr ⟨by decide, "java/lang/IndexOutOfBoundsException", hts _ (u_in uk_1_195), hNc.1⟩
            · cases hz) rfl (by decide) (hts _ (u_in uk_1_196)) (va_Nw.use rfl (hE.2.2.2.2.2 _ un_2_33)) hcell hv hcl ?_
      refine lv_astore_n (lv' := [(3, .ref q9), (0, .ref (ad 60)), (1, .int x0), (2, .int x1)]) hx hb dL_bias_13 rfl hl (by decide) rfl (fun ls hl => ?_)
      refine lv_ldc2 (v := (-9000000000000000002)) hx hb hown (hts _ (u_in uk_2_182)) dL_bias_14 ?_
      have hcode : (fX6_bias g q x0 x1).1 = 2 := hpu.symm.trans hc
      exact sy_lret hx hb hr hlocks hE hB hS dL_bias_17 ⟨Nat.le_of_ble_eq_true rfl, Nat.le_of_ble_eq_true rfl⟩ (post_no n6_bias hcode (by decide) rfl)
    · exact absurd rfl h9
  · skip
    obtain ⟨g1, q1⟩ := u
    have hP := hB.2
    rw [ht] at hP
    dsimp only at hp hP
    refine lv_i2l hx hb dL_bias_6 rfl ?_
    exact sy_lret hx hb hr hlocks hE hP hS dL_bias_7 ⟨Nat.le_of_ble_eq_true rfl, Nat.le_of_ble_eq_true rfl⟩ (post_yes hp)
set_option maxHeartbeats 4000000 in
set_option maxRecDepth 100000 in
theorem mL_classOf (l : Launch) (hfl : l.stackTraces = false) (Z : sZ) (nT nK cT cK : Nat) (ad : Nat → Nat) (g : sG) (q : sQ) (x0 x1 : Int32) {n : Nat} (hI : CI n nT nK cT cK g q) : Met l yL_classOf (uW (.codeWith yL_classOf cL_classOf 4 (some .long) [(0, 7, 8, 15)])) { frames := 8, cells := 2, slots := 12, locals := 125 } (va_Pc [.ref (ad 60), .int x0, .int x1] (sPreL Z nT nK cT cK ad g q)) (sQl Z nT nK cT cK ad (fun r g1 q1 => (r, g1, q1) = (wl (fX6_classOf g q x0 x1).1 (fX6_classOf g q x0 x1).2.1, (fX6_classOf g q x0 x1).2.2.1, (fX6_classOf g q x0 x1).2.2.2))) 2 12 (sy_A Z) := by
  refine va_MetW (cc := cL_classOf) (maxL := 4) (ret := some .long) (by decide) rfl ?_
  intro p e s m args below meth c s₁ B hml hv
  obtain ⟨rfl, ⟨hE, hP⟩, hNc⟩ := hv
  have hx := B.exec
  have hb := B.bytes
  have hr := B.returns
  have hts := atoms_spec (ws := uW (.codeWith yL_classOf cL_classOf 4 (some .long) [(0, 7, 8, 15)])) B.pre
  have hown : s.vm.findClass RL = some m.cls := findClass_of_methodNamed B.named
  have hlocks := B.notSynchronized
  have htab := vx_table (x := yL_classOf) B (hts _ List.mem_cons_self)
  have hS : va_S (sy_A Z) s.heap s.heap [] := va_S.rf
  have hl := lv_entry ([.ref (ad 60), .int x0, .int x1]) (n := 4) (Nat.le_of_ble_eq_true rfl)
  rw [lg_entry_eq]
  generalize (lg_sl ([.ref (ad 60), .int x0, .int x1]) ++ List.replicate (4 - (lg_sl ([.ref (ad 60), .int x0, .int x1])).length) Slot.unset).toArray = ls at hl ⊢
  have hl : lv_has ls 4 [(0, .ref (ad 60)), (1, .int x0), (2, .int x1)] := hl
  refine lv_aload_n hx hb dL_classOf_0 rfl (lv_at hl 0 rfl) ?_
  refine lv_iload_n hx hb dL_classOf_1 rfl (lv_at hl 1 rfl) ?_
  refine lv_iload_n hx hb dL_classOf_2 rfl (lv_at hl 2 rfl) ?_
  refine vx_calli (sy_xV (o := 60) (As := [.int x0, .int x1]) (rest := []) ⟨hx, hb, hml, hown, hts⟩ hE hP hS (mX6_classOf l hfl Z nT nK cT cK ad g q x0 x1 (by have := ci_T hI; omega) (ci_IG hI) (ci_IQ hI)) (cwV 2 hts (gu_V uk_4_144 uk_4_145 uk_4_146 uk_1_1 uk_4_147) rfl rfl rfl (by decide +kernel) ⟨Nat.le_of_ble_eq_true rfl, Nat.le_of_ble_eq_true rfl⟩) (sy_recv (kc := 7) hE hP rfl (by decide) rfl rfl rfl) rfl hl.1 rfl (Nat.le_of_ble_eq_true rfl) dL_classOf_3 ⟨Nat.le_of_ble_eq_true rfl, Nat.le_of_ble_eq_true rfl⟩) hS (fun _ _ h => h) (fun _ h => h) (fun _ _ h => h) (fun E ce q9 u t H locs ht _ hpu hB _ _ hS hcell hv hcl => ?_) (fun r u t H locs ht _ hp hB _ _ hS => ?_)
  · obtain ⟨rfl, -, hB⟩ := hB
    rw [ht] at hB
    have hC9 : wf 1 9 9 (fX6_classOf g q x0 x1).1 ≠ 9 := h6_classOf
    rw [← hpu] at hC9
    rcases exc_c hC9 with ⟨rfl, hc, h9⟩ | ⟨rfl, hc, h9⟩ | ⟨rfl, hc, h9⟩
    · refine vx_catch (own := RL) (name := "java/lang/IndexOutOfBoundsException") hown ([] : List ExceptionTableEntry) (⟨0, 7, 8, 15⟩ : ExceptionTableEntry) [] (htab.trans rfl) (fun z hz => nomatch hz) rfl (by decide) (hts _ (u_in uk_1_195)) (va_Nw.use rfl (hE.2.2.2.2.2 _ un_1_207)) hcell hv hcl ?_
      refine lv_astore_n (lv' := [(3, .ref q9), (0, .ref (ad 60)), (1, .int x0), (2, .int x1)]) hx hb dL_classOf_8 rfl hl (by decide) rfl (fun ls hl => ?_)
      refine lv_ldc2 (v := (-9000000000000000001)) hx hb hown (hts _ (u_in uk_2_181)) dL_classOf_9 ?_
      have hcode : (fX6_classOf g q x0 x1).1 = 1 := hpu.symm.trans hc
      exact sy_lret hx hb hr hlocks hE hB hS dL_classOf_12 ⟨Nat.le_of_ble_eq_true rfl, Nat.le_of_ble_eq_true rfl⟩ (post_no n6_classOf hcode (by decide) rfl)
    · exact absurd rfl h9
    · exact absurd rfl h9
  · skip
    obtain ⟨g1, q1⟩ := u
    have hP := hB.2
    rw [ht] at hP
    dsimp only at hp hP
    refine lv_i2l hx hb dL_classOf_6 rfl ?_
    exact sy_lret hx hb hr hlocks hE hP hS dL_classOf_7 ⟨Nat.le_of_ble_eq_true rfl, Nat.le_of_ble_eq_true rfl⟩ (post_yes hp)
set_option maxHeartbeats 4000000 in
set_option maxRecDepth 100000 in
theorem mL_charter (l : Launch) (hfl : l.stackTraces = false) (Z : sZ) (nT nK cT cK : Nat) (ad : Nat → Nat) (g : sG) (q : sQ) (x0 x1 x2 : Int32) {n : Nat} (hI : CI n nT nK cT cK g q) : Met l yL_charter (uW (.codeWith yL_charter cL_charter 5 (some .long) [(0, 8, 9, 15), (0, 8, 15, 19)])) { frames := 8, cells := 3, slots := 18, locals := 126 } (va_Pc [.ref (ad 60), .int x0, .int x1, .int x2] (sPreL Z nT nK cT cK ad g q)) (sQl Z nT nK cT cK ad (fun r g1 q1 => (r, g1, q1) = (wl (fX6_charter g q x0 x1 x2).1 0, (fX6_charter g q x0 x1 x2).2.1, (fX6_charter g q x0 x1 x2).2.2))) 3 18 (sy_A Z) := by
  refine va_MetW (cc := cL_charter) (maxL := 5) (ret := some .long) (by decide) rfl ?_
  intro p e s m args below meth c s₁ B hml hv
  obtain ⟨rfl, ⟨hE, hP⟩, hNc⟩ := hv
  have hx := B.exec
  have hb := B.bytes
  have hr := B.returns
  have hts := atoms_spec (ws := uW (.codeWith yL_charter cL_charter 5 (some .long) [(0, 8, 9, 15), (0, 8, 15, 19)])) B.pre
  have hown : s.vm.findClass RL = some m.cls := findClass_of_methodNamed B.named
  have hlocks := B.notSynchronized
  have htab := vx_table (x := yL_charter) B (hts _ List.mem_cons_self)
  have hS : va_S (sy_A Z) s.heap s.heap [] := va_S.rf
  have hl := lv_entry ([.ref (ad 60), .int x0, .int x1, .int x2]) (n := 5) (Nat.le_of_ble_eq_true rfl)
  rw [lg_entry_eq]
  generalize (lg_sl ([.ref (ad 60), .int x0, .int x1, .int x2]) ++ List.replicate (5 - (lg_sl ([.ref (ad 60), .int x0, .int x1, .int x2])).length) Slot.unset).toArray = ls at hl ⊢
  have hl : lv_has ls 5 [(0, .ref (ad 60)), (1, .int x0), (2, .int x1), (3, .int x2)] := hl
  refine lv_aload_n hx hb dL_charter_0 rfl (lv_at hl 0 rfl) ?_
  refine lv_iload_n hx hb dL_charter_1 rfl (lv_at hl 1 rfl) ?_
  refine lv_iload_n hx hb dL_charter_2 rfl (lv_at hl 2 rfl) ?_
  refine lv_iload_n hx hb dL_charter_3 rfl (lv_at hl 3 rfl) ?_
  refine vx_callv (sy_xV (o := 60) (As := [.int x0, .int x1, .int x2]) (rest := []) ⟨hx, hb, hml, hown, hts⟩ hE hP hS (mX6_charter l hfl Z nT nK cT cK ad g q x0 x1 x2 (by have := ci_T hI; omega) (ci_IG hI) (ci_IQ hI)) (cwV 3 hts (gu_V uk_2_194 uk_2_195 uk_2_196 uk_1_1 uk_2_197) rfl rfl rfl (by decide +kernel) ⟨Nat.le_of_ble_eq_true rfl, Nat.le_of_ble_eq_true rfl⟩) (sy_recv (kc := 7) hE hP rfl (by decide) rfl rfl rfl) rfl hl.1 rfl (Nat.le_of_ble_eq_true rfl) dL_charter_4 ⟨Nat.le_of_ble_eq_true rfl, Nat.le_of_ble_eq_true rfl⟩) hS (fun _ _ h => h) (fun _ h => h) (fun _ _ h => h) (fun E ce q9 u t H locs ht _ hpu hB _ _ hS hcell hv hcl => ?_) (fun u t H locs ht _ hp hB _ _ hS => ?_)
  · obtain ⟨rfl, -, hB⟩ := hB
    rw [ht] at hB
    have hC9 : wf 1 2 9 (fX6_charter g q x0 x1 x2).1 ≠ 9 := h6_charter
    rw [← hpu] at hC9
    rcases exc_c hC9 with ⟨rfl, hc, h9⟩ | ⟨rfl, hc, h9⟩ | ⟨rfl, hc, h9⟩
    · refine vx_catch (own := RL) (name := "java/lang/IndexOutOfBoundsException") hown ([] : List ExceptionTableEntry) (⟨0, 8, 9, 15⟩ : ExceptionTableEntry) [⟨0, 8, 15, 19⟩] (htab.trans rfl) (fun z hz => nomatch hz) rfl (by decide) (hts _ (u_in uk_1_195)) (va_Nw.use rfl (hE.2.2.2.2.2 _ un_1_207)) hcell hv hcl ?_
      refine lv_astore (lv' := [(4, .ref q9), (0, .ref (ad 60)), (1, .int x0), (2, .int x1), (3, .int x2)]) hx hb dL_charter_9 hl (by decide) rfl (fun ls hl => ?_)
      refine lv_ldc2 (v := (-9000000000000000001)) hx hb hown (hts _ (u_in uk_2_181)) dL_charter_11 ?_
      have hcode : (fX6_charter g q x0 x1 x2).1 = 1 := hpu.symm.trans hc
      exact sy_lret hx hb hr hlocks hE hB hS dL_charter_14 ⟨Nat.le_of_ble_eq_true rfl, Nat.le_of_ble_eq_true rfl⟩ (post_nov n6_charter hcode (by decide) rfl)
    · refine vx_catch (own := RL) (name := "java/lang/IllegalArgumentException") hown ([⟨0, 8, 9, 15⟩] : List ExceptionTableEntry) (⟨0, 8, 15, 19⟩ : ExceptionTableEntry) [] (htab.trans rfl) (fun z hz => by
            rcases List.mem_cons.mp hz with rfl | hz
            · exact Or.inr ⟨by decide, "java/lang/IndexOutOfBoundsException", hts _ (u_in uk_1_195), hNc.1⟩
            · cases hz) rfl (by decide) (hts _ (u_in uk_1_196)) (va_Nw.use rfl (hE.2.2.2.2.2 _ un_2_33)) hcell hv hcl ?_
      refine lv_astore (lv' := [(4, .ref q9), (0, .ref (ad 60)), (1, .int x0), (2, .int x1), (3, .int x2)]) hx hb dL_charter_15 hl (by decide) rfl (fun ls hl => ?_)
      refine lv_ldc2 (v := (-9000000000000000002)) hx hb hown (hts _ (u_in uk_2_182)) dL_charter_17 ?_
      have hcode : (fX6_charter g q x0 x1 x2).1 = 2 := hpu.symm.trans hc
      exact sy_lret hx hb hr hlocks hE hB hS dL_charter_20 ⟨Nat.le_of_ble_eq_true rfl, Nat.le_of_ble_eq_true rfl⟩ (post_nov n6_charter hcode (by decide) rfl)
    · exact absurd rfl h9
  · skip
    obtain ⟨g1, q1⟩ := u
    have hP := hB.2
    rw [ht] at hP
    dsimp only at hp hP
    refine lv_lconst (v := 0) hx hb dL_charter_7 rfl ?_
    exact sy_lret hx hb hr hlocks hE hP hS dL_charter_8 ⟨Nat.le_of_ble_eq_true rfl, Nat.le_of_ble_eq_true rfl⟩ (post_yesv hp)
set_option maxHeartbeats 4000000 in
set_option maxRecDepth 100000 in
theorem mL_rate (l : Launch) (hfl : l.stackTraces = false) (Z : sZ) (nT nK cT cK : Nat) (ad : Nat → Nat) (g : sG) (q : sQ) (x0 x1 : Int32) {n : Nat} (hI : CI n nT nK cT cK g q) : Met l yL_rate (uW (.codeWith yL_rate cL_rate 4 (some .long) [(0, 7, 8, 15), (0, 7, 13, 19), (0, 7, 18, 23)])) { frames := 8, cells := 3, slots := 18, locals := 126 } (va_Pc [.ref (ad 60), .int x0, .int x1] (sPreL Z nT nK cT cK ad g q)) (sQl Z nT nK cT cK ad (fun r g1 q1 => (r, g1, q1) = (wl (fX6_rate g q x0 x1).1 (fX6_rate g q x0 x1).2.1, (fX6_rate g q x0 x1).2.2.1, (fX6_rate g q x0 x1).2.2.2))) 3 18 (sy_A Z) := by
  refine va_MetW (cc := cL_rate) (maxL := 4) (ret := some .long) (by decide) rfl ?_
  intro p e s m args below meth c s₁ B hml hv
  obtain ⟨rfl, ⟨hE, hP⟩, hNc⟩ := hv
  have hx := B.exec
  have hb := B.bytes
  have hr := B.returns
  have hts := atoms_spec (ws := uW (.codeWith yL_rate cL_rate 4 (some .long) [(0, 7, 8, 15), (0, 7, 13, 19), (0, 7, 18, 23)])) B.pre
  have hown : s.vm.findClass RL = some m.cls := findClass_of_methodNamed B.named
  have hlocks := B.notSynchronized
  have htab := vx_table (x := yL_rate) B (hts _ List.mem_cons_self)
  have hS : va_S (sy_A Z) s.heap s.heap [] := va_S.rf
  have hl := lv_entry ([.ref (ad 60), .int x0, .int x1]) (n := 4) (Nat.le_of_ble_eq_true rfl)
  rw [lg_entry_eq]
  generalize (lg_sl ([.ref (ad 60), .int x0, .int x1]) ++ List.replicate (4 - (lg_sl ([.ref (ad 60), .int x0, .int x1])).length) Slot.unset).toArray = ls at hl ⊢
  have hl : lv_has ls 4 [(0, .ref (ad 60)), (1, .int x0), (2, .int x1)] := hl
  refine lv_aload_n hx hb dL_rate_0 rfl (lv_at hl 0 rfl) ?_
  refine lv_iload_n hx hb dL_rate_1 rfl (lv_at hl 1 rfl) ?_
  refine lv_iload_n hx hb dL_rate_2 rfl (lv_at hl 2 rfl) ?_
  refine vx_calli (sy_xV (o := 60) (As := [.int x0, .int x1]) (rest := []) ⟨hx, hb, hml, hown, hts⟩ hE hP hS (mX6_rate l hfl Z nT nK cT cK ad g q x0 x1 (by have := ci_T hI; omega) (ci_IG hI) (ci_IQ hI)) (cwV 2 hts (gu_V uk_2_202 uk_2_203 uk_2_204 uk_1_1 uk_2_205) rfl rfl rfl (by decide +kernel) ⟨Nat.le_of_ble_eq_true rfl, Nat.le_of_ble_eq_true rfl⟩) (sy_recv (kc := 7) hE hP rfl (by decide) rfl rfl rfl) rfl hl.1 rfl (Nat.le_of_ble_eq_true rfl) dL_rate_3 ⟨Nat.le_of_ble_eq_true rfl, Nat.le_of_ble_eq_true rfl⟩) hS (fun _ _ h => h) (fun _ h => h) (fun _ _ h => h) (fun E ce q9 u t H locs ht _ hpu hB _ _ hS hcell hv hcl => ?_) (fun r u t H locs ht _ hp hB _ _ hS => ?_)
  · obtain ⟨rfl, -, hB⟩ := hB
    rw [ht] at hB
    have hC9 : wf 1 2 3 (fX6_rate g q x0 x1).1 ≠ 9 := h6_rate
    rw [← hpu] at hC9
    rcases exc_c hC9 with ⟨rfl, hc, h9⟩ | ⟨rfl, hc, h9⟩ | ⟨rfl, hc, h9⟩
    · refine vx_catch (own := RL) (name := "java/lang/IndexOutOfBoundsException") hown ([] : List ExceptionTableEntry) (⟨0, 7, 8, 15⟩ : ExceptionTableEntry) [⟨0, 7, 13, 19⟩, ⟨0, 7, 18, 23⟩] (htab.trans rfl) (fun z hz => nomatch hz) rfl (by decide) (hts _ (u_in uk_1_195)) (va_Nw.use rfl (hE.2.2.2.2.2 _ un_1_207)) hcell hv hcl ?_
      refine lv_astore_n (lv' := [(3, .ref q9), (0, .ref (ad 60)), (1, .int x0), (2, .int x1)]) hx hb dL_rate_8 rfl hl (by decide) rfl (fun ls hl => ?_)
      refine lv_ldc2 (v := (-9000000000000000001)) hx hb hown (hts _ (u_in uk_2_181)) dL_rate_9 ?_
      have hcode : (fX6_rate g q x0 x1).1 = 1 := hpu.symm.trans hc
      exact sy_lret hx hb hr hlocks hE hB hS dL_rate_12 ⟨Nat.le_of_ble_eq_true rfl, Nat.le_of_ble_eq_true rfl⟩ (post_no n6_rate hcode (by decide) rfl)
    · refine vx_catch (own := RL) (name := "java/lang/IllegalArgumentException") hown ([⟨0, 7, 8, 15⟩] : List ExceptionTableEntry) (⟨0, 7, 13, 19⟩ : ExceptionTableEntry) [⟨0, 7, 18, 23⟩] (htab.trans rfl) (fun z hz => by
            rcases List.mem_cons.mp hz with rfl | hz
            · exact Or.inr ⟨by decide, "java/lang/IndexOutOfBoundsException", hts _ (u_in uk_1_195), hNc.1⟩
            · cases hz) rfl (by decide) (hts _ (u_in uk_1_196)) (va_Nw.use rfl (hE.2.2.2.2.2 _ un_2_33)) hcell hv hcl ?_
      refine lv_astore_n (lv' := [(3, .ref q9), (0, .ref (ad 60)), (1, .int x0), (2, .int x1)]) hx hb dL_rate_13 rfl hl (by decide) rfl (fun ls hl => ?_)
      refine lv_ldc2 (v := (-9000000000000000002)) hx hb hown (hts _ (u_in uk_2_182)) dL_rate_14 ?_
      have hcode : (fX6_rate g q x0 x1).1 = 2 := hpu.symm.trans hc
      exact sy_lret hx hb hr hlocks hE hB hS dL_rate_17 ⟨Nat.le_of_ble_eq_true rfl, Nat.le_of_ble_eq_true rfl⟩ (post_no n6_rate hcode (by decide) rfl)
    · refine vx_catch (own := RL) (name := "java/lang/IllegalStateException") hown ([⟨0, 7, 8, 15⟩, ⟨0, 7, 13, 19⟩] : List ExceptionTableEntry) (⟨0, 7, 18, 23⟩ : ExceptionTableEntry) [] (htab.trans rfl) (fun z hz => by
            rcases List.mem_cons.mp hz with rfl | hz
            · exact Or.inr ⟨by decide, "java/lang/IndexOutOfBoundsException", hts _ (u_in uk_1_195), hNc.2.1⟩
            · rcases List.mem_cons.mp hz with rfl | hz
              · exact Or.inr ⟨by decide, "java/lang/IllegalArgumentException", hts _ (u_in uk_1_196), hNc.2.2⟩
              · cases hz) rfl (by decide) (hts _ (u_in uk_1_197)) (va_Nw.use rfl (hE.2.2.2.2.2 _ un_2_55)) hcell hv hcl ?_
      refine lv_astore_n (lv' := [(3, .ref q9), (0, .ref (ad 60)), (1, .int x0), (2, .int x1)]) hx hb dL_rate_18 rfl hl (by decide) rfl (fun ls hl => ?_)
      refine lv_ldc2 (v := (-9000000000000000003)) hx hb hown (hts _ (u_in uk_2_183)) dL_rate_19 ?_
      have hcode : (fX6_rate g q x0 x1).1 = 3 := hpu.symm.trans hc
      exact sy_lret hx hb hr hlocks hE hB hS dL_rate_22 ⟨Nat.le_of_ble_eq_true rfl, Nat.le_of_ble_eq_true rfl⟩ (post_no n6_rate hcode (by decide) rfl)
  · skip
    obtain ⟨g1, q1⟩ := u
    have hP := hB.2
    rw [ht] at hP
    dsimp only at hp hP
    refine lv_i2l hx hb dL_rate_6 rfl ?_
    exact sy_lret hx hb hr hlocks hE hP hS dL_rate_7 ⟨Nat.le_of_ble_eq_true rfl, Nat.le_of_ble_eq_true rfl⟩ (post_yes hp)
set_option maxHeartbeats 4000000 in
set_option maxRecDepth 100000 in
theorem mL_term (l : Launch) (hfl : l.stackTraces = false) (Z : sZ) (nT nK cT cK : Nat) (ad : Nat → Nat) (g : sG) (q : sQ) (x0 : Int32) {n : Nat} (hI : CI n nT nK cT cK g q) : Met l yL_term (uW (.codeWith yL_term cL_term 3 (some .long) [(0, 6, 7, 19)])) { frames := 8, cells := 1, slots := 6, locals := 125 } (va_Pc [.ref (ad 60), .int x0] (sPreL Z nT nK cT cK ad g q)) (sQl Z nT nK cT cK ad (fun r g1 q1 => (r, g1, q1) = (wl (fX6_term g q x0).1 (fX6_term g q x0).2.1, (fX6_term g q x0).2.2.1, (fX6_term g q x0).2.2.2))) 1 6 (sy_A Z) := by
  refine va_MetW (cc := cL_term) (maxL := 3) (ret := some .long) (by decide) rfl ?_
  intro p e s m args below meth c s₁ B hml hv
  obtain ⟨rfl, ⟨hE, hP⟩, hNc⟩ := hv
  have hx := B.exec
  have hb := B.bytes
  have hr := B.returns
  have hts := atoms_spec (ws := uW (.codeWith yL_term cL_term 3 (some .long) [(0, 6, 7, 19)])) B.pre
  have hown : s.vm.findClass RL = some m.cls := findClass_of_methodNamed B.named
  have hlocks := B.notSynchronized
  have htab := vx_table (x := yL_term) B (hts _ List.mem_cons_self)
  have hS : va_S (sy_A Z) s.heap s.heap [] := va_S.rf
  have hl := lv_entry ([.ref (ad 60), .int x0]) (n := 3) (Nat.le_of_ble_eq_true rfl)
  rw [lg_entry_eq]
  generalize (lg_sl ([.ref (ad 60), .int x0]) ++ List.replicate (3 - (lg_sl ([.ref (ad 60), .int x0])).length) Slot.unset).toArray = ls at hl ⊢
  have hl : lv_has ls 3 [(0, .ref (ad 60)), (1, .int x0)] := hl
  refine lv_aload_n hx hb dL_term_0 rfl (lv_at hl 0 rfl) ?_
  refine lv_iload_n hx hb dL_term_1 rfl (lv_at hl 1 rfl) ?_
  refine vx_calli (sy_xV (o := 60) (As := [.int x0]) (rest := []) ⟨hx, hb, hml, hown, hts⟩ hE hP hS (mX6_term l hfl Z nT nK cT cK ad g q x0 (by have := ci_T hI; omega) (ci_IG hI) (ci_IQ hI)) (cwV 1 hts (gu_V uk_2_225 uk_2_226 uk_2_227 uk_1_1 uk_2_228) rfl rfl rfl (by decide +kernel) ⟨Nat.le_of_ble_eq_true rfl, Nat.le_of_ble_eq_true rfl⟩) (sy_recv (kc := 7) hE hP rfl (by decide) rfl rfl rfl) rfl hl.1 rfl (Nat.le_of_ble_eq_true rfl) dL_term_2 ⟨Nat.le_of_ble_eq_true rfl, Nat.le_of_ble_eq_true rfl⟩) hS (fun _ _ h => h) (fun _ h => h) (fun _ _ h => h) (fun E ce q9 u t H locs ht _ hpu hB _ _ hS hcell hv hcl => ?_) (fun r u t H locs ht _ hp hB _ _ hS => ?_)
  · obtain ⟨rfl, -, hB⟩ := hB
    rw [ht] at hB
    have hC9 : wf 9 2 9 (fX6_term g q x0).1 ≠ 9 := h6_term
    rw [← hpu] at hC9
    rcases exc_c hC9 with ⟨rfl, hc, h9⟩ | ⟨rfl, hc, h9⟩ | ⟨rfl, hc, h9⟩
    · exact absurd rfl h9
    · refine vx_catch (own := RL) (name := "java/lang/IllegalArgumentException") hown ([] : List ExceptionTableEntry) (⟨0, 6, 7, 19⟩ : ExceptionTableEntry) [] (htab.trans rfl) (fun z hz => nomatch hz) rfl (by decide) (hts _ (u_in uk_1_196)) (va_Nw.use rfl (hE.2.2.2.2.2 _ un_2_33)) hcell hv hcl ?_
      refine lv_astore_n (lv' := [(2, .ref q9), (0, .ref (ad 60)), (1, .int x0)]) hx hb dL_term_7 rfl hl (by decide) rfl (fun ls hl => ?_)
      refine lv_ldc2 (v := (-9000000000000000002)) hx hb hown (hts _ (u_in uk_2_182)) dL_term_8 ?_
      have hcode : (fX6_term g q x0).1 = 2 := hpu.symm.trans hc
      exact sy_lret hx hb hr hlocks hE hB hS dL_term_11 ⟨Nat.le_of_ble_eq_true rfl, Nat.le_of_ble_eq_true rfl⟩ (post_no n6_term hcode (by decide) rfl)
    · exact absurd rfl h9
  · skip
    obtain ⟨g1, q1⟩ := u
    have hP := hB.2
    rw [ht] at hP
    dsimp only at hp hP
    refine lv_i2l hx hb dL_term_5 rfl ?_
    exact sy_lret hx hb hr hlocks hE hP hS dL_term_6 ⟨Nat.le_of_ble_eq_true rfl, Nat.le_of_ble_eq_true rfl⟩ (post_yes hp)
set_option maxHeartbeats 4000000 in
set_option maxRecDepth 100000 in
theorem mL_amnesty (l : Launch) (hfl : l.stackTraces = false) (Z : sZ) (nT nK cT cK : Nat) (ad : Nat → Nat) (g : sG) (q : sQ) (x0 x1 : Int32) {n : Nat} (hI : CI n nT nK cT cK g q) : Met l yL_amnesty (uW (.codeWith yL_amnesty cL_amnesty 4 (some .long) [(0, 7, 8, 19), (0, 7, 13, 23)])) { frames := 8, cells := 3, slots := 18, locals := 125 } (va_Pc [.ref (ad 60), .int x0, .int x1] (sPreL Z nT nK cT cK ad g q)) (sQl Z nT nK cT cK ad (fun r g1 q1 => (r, g1, q1) = (wl (fX6_amnesty g q x0 x1).1 (fX6_amnesty g q x0 x1).2.1, (fX6_amnesty g q x0 x1).2.2.1, (fX6_amnesty g q x0 x1).2.2.2))) 3 18 (sy_A Z) := by
  refine va_MetW (cc := cL_amnesty) (maxL := 4) (ret := some .long) (by decide) rfl ?_
  intro p e s m args below meth c s₁ B hml hv
  obtain ⟨rfl, ⟨hE, hP⟩, hNc⟩ := hv
  have hx := B.exec
  have hb := B.bytes
  have hr := B.returns
  have hts := atoms_spec (ws := uW (.codeWith yL_amnesty cL_amnesty 4 (some .long) [(0, 7, 8, 19), (0, 7, 13, 23)])) B.pre
  have hown : s.vm.findClass RL = some m.cls := findClass_of_methodNamed B.named
  have hlocks := B.notSynchronized
  have htab := vx_table (x := yL_amnesty) B (hts _ List.mem_cons_self)
  have hS : va_S (sy_A Z) s.heap s.heap [] := va_S.rf
  have hl := lv_entry ([.ref (ad 60), .int x0, .int x1]) (n := 4) (Nat.le_of_ble_eq_true rfl)
  rw [lg_entry_eq]
  generalize (lg_sl ([.ref (ad 60), .int x0, .int x1]) ++ List.replicate (4 - (lg_sl ([.ref (ad 60), .int x0, .int x1])).length) Slot.unset).toArray = ls at hl ⊢
  have hl : lv_has ls 4 [(0, .ref (ad 60)), (1, .int x0), (2, .int x1)] := hl
  refine lv_aload_n hx hb dL_amnesty_0 rfl (lv_at hl 0 rfl) ?_
  refine lv_iload_n hx hb dL_amnesty_1 rfl (lv_at hl 1 rfl) ?_
  refine lv_iload_n hx hb dL_amnesty_2 rfl (lv_at hl 2 rfl) ?_
  refine vx_calli (sy_xV (o := 60) (As := [.int x0, .int x1]) (rest := []) ⟨hx, hb, hml, hown, hts⟩ hE hP hS (mX6_amnesty l hfl Z nT nK cT cK ad g q x0 x1 (by have := ci_T hI; omega) (ci_IG hI) (ci_IQ hI)) (cwV 2 hts (gu_V uk_2_232 uk_2_233 uk_2_234 uk_1_1 uk_2_235) rfl rfl rfl (by decide +kernel) ⟨Nat.le_of_ble_eq_true rfl, Nat.le_of_ble_eq_true rfl⟩) (sy_recv (kc := 7) hE hP rfl (by decide) rfl rfl rfl) rfl hl.1 rfl (Nat.le_of_ble_eq_true rfl) dL_amnesty_3 ⟨Nat.le_of_ble_eq_true rfl, Nat.le_of_ble_eq_true rfl⟩) hS (fun _ _ h => h) (fun _ h => h) (fun _ _ h => h) (fun E ce q9 u t H locs ht _ hpu hB _ _ hS hcell hv hcl => ?_) (fun r u t H locs ht _ hp hB _ _ hS => ?_)
  · obtain ⟨rfl, -, hB⟩ := hB
    rw [ht] at hB
    have hC9 : wf 9 2 3 (fX6_amnesty g q x0 x1).1 ≠ 9 := h6_amnesty
    rw [← hpu] at hC9
    rcases exc_c hC9 with ⟨rfl, hc, h9⟩ | ⟨rfl, hc, h9⟩ | ⟨rfl, hc, h9⟩
    · exact absurd rfl h9
    · refine vx_catch (own := RL) (name := "java/lang/IllegalArgumentException") hown ([] : List ExceptionTableEntry) (⟨0, 7, 8, 19⟩ : ExceptionTableEntry) [⟨0, 7, 13, 23⟩] (htab.trans rfl) (fun z hz => nomatch hz) rfl (by decide) (hts _ (u_in uk_1_196)) (va_Nw.use rfl (hE.2.2.2.2.2 _ un_2_33)) hcell hv hcl ?_
      refine lv_astore_n (lv' := [(3, .ref q9), (0, .ref (ad 60)), (1, .int x0), (2, .int x1)]) hx hb dL_amnesty_8 rfl hl (by decide) rfl (fun ls hl => ?_)
      refine lv_ldc2 (v := (-9000000000000000002)) hx hb hown (hts _ (u_in uk_2_182)) dL_amnesty_9 ?_
      have hcode : (fX6_amnesty g q x0 x1).1 = 2 := hpu.symm.trans hc
      exact sy_lret hx hb hr hlocks hE hB hS dL_amnesty_12 ⟨Nat.le_of_ble_eq_true rfl, Nat.le_of_ble_eq_true rfl⟩ (post_no n6_amnesty hcode (by decide) rfl)
    · refine vx_catch (own := RL) (name := "java/lang/IllegalStateException") hown ([⟨0, 7, 8, 19⟩] : List ExceptionTableEntry) (⟨0, 7, 13, 23⟩ : ExceptionTableEntry) [] (htab.trans rfl) (fun z hz => by
            rcases List.mem_cons.mp hz with rfl | hz
            · exact Or.inr ⟨by decide, "java/lang/IllegalArgumentException", hts _ (u_in uk_1_196), hNc.2.2⟩
            · cases hz) rfl (by decide) (hts _ (u_in uk_1_197)) (va_Nw.use rfl (hE.2.2.2.2.2 _ un_2_55)) hcell hv hcl ?_
      refine lv_astore_n (lv' := [(3, .ref q9), (0, .ref (ad 60)), (1, .int x0), (2, .int x1)]) hx hb dL_amnesty_13 rfl hl (by decide) rfl (fun ls hl => ?_)
      refine lv_ldc2 (v := (-9000000000000000003)) hx hb hown (hts _ (u_in uk_2_183)) dL_amnesty_14 ?_
      have hcode : (fX6_amnesty g q x0 x1).1 = 3 := hpu.symm.trans hc
      exact sy_lret hx hb hr hlocks hE hB hS dL_amnesty_17 ⟨Nat.le_of_ble_eq_true rfl, Nat.le_of_ble_eq_true rfl⟩ (post_no n6_amnesty hcode (by decide) rfl)
  · skip
    obtain ⟨g1, q1⟩ := u
    have hP := hB.2
    rw [ht] at hP
    dsimp only at hp hP
    refine lv_i2l hx hb dL_amnesty_6 rfl ?_
    exact sy_lret hx hb hr hlocks hE hP hS dL_amnesty_7 ⟨Nat.le_of_ble_eq_true rfl, Nat.le_of_ble_eq_true rfl⟩ (post_yes hp)
set_option maxHeartbeats 4000000 in
set_option maxRecDepth 100000 in
theorem mL_pledge (l : Launch) (hfl : l.stackTraces = false) (Z : sZ) (nT nK cT cK : Nat) (ad : Nat → Nat) (g : sG) (q : sQ) (x0 x1 x2 x3 x4 x5 : Int32) {n : Nat} (hI : CI n nT nK cT cK g q) (hz5 : x5 = 0 ∨ x5 = 1) (h7x : cK = 0 → ad 71 = Z.2.2.2) : Met l yL_pledge (uW (.codeWith yL_pledge cL_pledge 8 (some .long) [(0, 14, 15, 15), (0, 14, 21, 19), (0, 14, 27, 23)])) { frames := 9, cells := 10, slots := 124, locals := 201 } (va_Pc [.ref (ad 60), .int x0, .int x1, .int x2, .int x3, .int x4, .int x5] (sPreL Z nT nK cT cK ad g q)) (va_Ql (fun (r : Int64) (u : (Nat → Nat) × sG × sQ) => r = wl (fX6_pledge g q nK x0 x1 x2 x3 x4 x5).1 (fX6_pledge g q nK x0 x1 x2 x3 x4 x5).2.1 ∧ ((fX6_pledge g q nK x0 x1 x2 x3 x4 x5).1 = 0 → (∀ x, x ≠ 71 → x ≠ 200 + nK → u.1 x = ad x) ∧ u.2.1 = (fX6_pledge g q nK x0 x1 x2 x3 x4 x5).2.2.1 ∧ u.2.2 = (fX6_pledge g q nK x0 x1 x2 x3 x4 x5).2.2.2)) (fun u t => sEnv Z t ∧ ((fX6_pledge g q nK x0 x1 x2 x3 x4 x5).1 = 0 → Sy Z nT (nK + 1) cT (sCap nK cK) u.1 u.2.1 u.2.2 t.heap) ∧ ((fX6_pledge g q nK x0 x1 x2 x3 x4 x5).1 ≠ 0 → Sy Z nT nK cT cK ad g q t.heap)) (sy_A Z)) 10 124 (sy_A Z) := by
  refine va_MetW (cc := cL_pledge) (maxL := 8) (ret := some .long) (by decide) rfl ?_
  intro p e s m args below meth c s₁ B hml hv
  obtain ⟨rfl, ⟨hE, hP⟩, hNc⟩ := hv
  have hx := B.exec
  have hb := B.bytes
  have hr := B.returns
  have hts := atoms_spec (ws := uW (.codeWith yL_pledge cL_pledge 8 (some .long) [(0, 14, 15, 15), (0, 14, 21, 19), (0, 14, 27, 23)])) B.pre
  have hown : s.vm.findClass RL = some m.cls := findClass_of_methodNamed B.named
  have hlocks := B.notSynchronized
  have htab := vx_table (x := yL_pledge) B (hts _ List.mem_cons_self)
  have hS : va_S (sy_A Z) s.heap s.heap [] := va_S.rf
  have hl := lv_entry ([.ref (ad 60), .int x0, .int x1, .int x2, .int x3, .int x4, .int x5]) (n := 8) (Nat.le_of_ble_eq_true rfl)
  rw [lg_entry_eq]
  generalize (lg_sl ([.ref (ad 60), .int x0, .int x1, .int x2, .int x3, .int x4, .int x5]) ++ List.replicate (8 - (lg_sl ([.ref (ad 60), .int x0, .int x1, .int x2, .int x3, .int x4, .int x5])).length) Slot.unset).toArray = ls at hl ⊢
  have hl : lv_has ls 8 [(0, .ref (ad 60)), (1, .int x0), (2, .int x1), (3, .int x2), (4, .int x3), (5, .int x4), (6, .int x5)] := hl
  refine lv_aload_n hx hb dL_pledge_0 rfl (lv_at hl 0 rfl) ?_
  refine lv_iload_n hx hb dL_pledge_1 rfl (lv_at hl 1 rfl) ?_
  refine lv_iload_n hx hb dL_pledge_2 rfl (lv_at hl 2 rfl) ?_
  refine lv_iload_n hx hb dL_pledge_3 rfl (lv_at hl 3 rfl) ?_
  refine lv_iload hx hb dL_pledge_4 (lv_at hl 4 rfl) ?_
  refine lv_iload hx hb dL_pledge_6 (lv_at hl 5 rfl) ?_
  refine lv_iload hx hb dL_pledge_8 (lv_at hl 6 rfl) ?_
  refine vx_calli (sy_xV (o := 60) (As := [.int x0, .int x1, .int x2, .int x3, .int x4, .int x5]) (rest := []) ⟨hx, hb, hml, hown, hts⟩ hE hP hS (mX6_pledge l hfl Z nT nK cT cK ad g q x0 x1 x2 x3 x4 x5 (by have := ci_T hI; omega) (ci_IG hI) (ci_IQ hI) hz5 hI.1.2.2.2.2.2.2.2 h7x hI.2.2.2.2.2.2.2.2.2.2.2.2.1 (fun o k e => by have := hI.2.2.2.2.2.2.2.2.2.2.2.2.2.1 o k _ e; omega) (fun o k e => by have := hI.2.2.2.2.2.2.2.2.2.2.2.2.2.1 o k _ e; have := ci_T hI; omega)) (cwV 6 hts (gu_V uk_3_8 uk_3_9 uk_3_10 uk_1_1 uk_3_11) rfl rfl rfl (by decide +kernel) ⟨Nat.le_of_ble_eq_true rfl, Nat.le_of_ble_eq_true rfl⟩) (sy_recv (kc := 7) hE hP rfl (by decide) rfl rfl rfl) rfl hl.1 rfl (Nat.le_of_ble_eq_true rfl) dL_pledge_10 ⟨Nat.le_of_ble_eq_true rfl, Nat.le_of_ble_eq_true rfl⟩) hS (fun _ _ h => h) (fun _ h => h) (fun _ _ h => h) (fun E ce q9 u t H locs ht _ hpu hB _ _ hS hcell hv hcl => ?_) (fun r u t H locs ht _ hp hB _ _ hS => ?_)
  · obtain ⟨rfl, -, hB⟩ := hB
    rw [ht] at hB
    have hC9 : wf 1 2 3 (fX6_pledge g q nK x0 x1 x2 x3 x4 x5).1 ≠ 9 := h6_pledge
    rw [← hpu] at hC9
    rcases exc_c hC9 with ⟨rfl, hc, h9⟩ | ⟨rfl, hc, h9⟩ | ⟨rfl, hc, h9⟩
    · refine vx_catch (own := RL) (name := "java/lang/IndexOutOfBoundsException") hown ([] : List ExceptionTableEntry) (⟨0, 14, 15, 15⟩ : ExceptionTableEntry) [⟨0, 14, 21, 19⟩, ⟨0, 14, 27, 23⟩] (htab.trans rfl) (fun z hz => nomatch hz) rfl (by decide) (hts _ (u_in uk_1_195)) (va_Nw.use rfl (hE.2.2.2.2.2 _ un_1_207)) hcell hv hcl ?_
      refine lv_astore (lv' := [(7, .ref q9), (0, .ref (ad 60)), (1, .int x0), (2, .int x1), (3, .int x2), (4, .int x3), (5, .int x4), (6, .int x5)]) hx hb dL_pledge_15 hl (by decide) rfl (fun ls hl => ?_)
      refine lv_ldc2 (v := (-9000000000000000001)) hx hb hown (hts _ (u_in uk_2_181)) dL_pledge_17 ?_
      have hcode : (fX6_pledge g q nK x0 x1 x2 x3 x4 x5).1 = 1 := hpu.symm.trans hc
      exact W.widen (Nat.le_of_ble_eq_true rfl) (Nat.le_of_ble_eq_true rfl) (W.lret hx hb hr (fun t ht hW => ⟨⟨(-9000000000000000001), (ad, g, q), rfl, ⟨by rw [hcode]; rfl, fun z => absurd (hcode.symm.trans z) (by decide)⟩, hE.next hS ht hW.alike, fun z => absurd (hcode.symm.trans z) (by decide), fun _ => by rw [ht]; exact hB⟩, hS.F ht⟩) hS.2.2 dL_pledge_20 hlocks)
    · refine vx_catch (own := RL) (name := "java/lang/IllegalArgumentException") hown ([⟨0, 14, 15, 15⟩] : List ExceptionTableEntry) (⟨0, 14, 21, 19⟩ : ExceptionTableEntry) [⟨0, 14, 27, 23⟩] (htab.trans rfl) (fun z hz => by
            rcases List.mem_cons.mp hz with rfl | hz
            · exact Or.inr ⟨by decide, "java/lang/IndexOutOfBoundsException", hts _ (u_in uk_1_195), hNc.1⟩
            · cases hz) rfl (by decide) (hts _ (u_in uk_1_196)) (va_Nw.use rfl (hE.2.2.2.2.2 _ un_2_33)) hcell hv hcl ?_
      refine lv_astore (lv' := [(7, .ref q9), (0, .ref (ad 60)), (1, .int x0), (2, .int x1), (3, .int x2), (4, .int x3), (5, .int x4), (6, .int x5)]) hx hb dL_pledge_21 hl (by decide) rfl (fun ls hl => ?_)
      refine lv_ldc2 (v := (-9000000000000000002)) hx hb hown (hts _ (u_in uk_2_182)) dL_pledge_23 ?_
      have hcode : (fX6_pledge g q nK x0 x1 x2 x3 x4 x5).1 = 2 := hpu.symm.trans hc
      exact W.widen (Nat.le_of_ble_eq_true rfl) (Nat.le_of_ble_eq_true rfl) (W.lret hx hb hr (fun t ht hW => ⟨⟨(-9000000000000000002), (ad, g, q), rfl, ⟨by rw [hcode]; rfl, fun z => absurd (hcode.symm.trans z) (by decide)⟩, hE.next hS ht hW.alike, fun z => absurd (hcode.symm.trans z) (by decide), fun _ => by rw [ht]; exact hB⟩, hS.F ht⟩) hS.2.2 dL_pledge_26 hlocks)
    · refine vx_catch (own := RL) (name := "java/lang/IllegalStateException") hown ([⟨0, 14, 15, 15⟩, ⟨0, 14, 21, 19⟩] : List ExceptionTableEntry) (⟨0, 14, 27, 23⟩ : ExceptionTableEntry) [] (htab.trans rfl) (fun z hz => by
            rcases List.mem_cons.mp hz with rfl | hz
            · exact Or.inr ⟨by decide, "java/lang/IndexOutOfBoundsException", hts _ (u_in uk_1_195), hNc.2.1⟩
            · rcases List.mem_cons.mp hz with rfl | hz
              · exact Or.inr ⟨by decide, "java/lang/IllegalArgumentException", hts _ (u_in uk_1_196), hNc.2.2⟩
              · cases hz) rfl (by decide) (hts _ (u_in uk_1_197)) (va_Nw.use rfl (hE.2.2.2.2.2 _ un_2_55)) hcell hv hcl ?_
      refine lv_astore (lv' := [(7, .ref q9), (0, .ref (ad 60)), (1, .int x0), (2, .int x1), (3, .int x2), (4, .int x3), (5, .int x4), (6, .int x5)]) hx hb dL_pledge_27 hl (by decide) rfl (fun ls hl => ?_)
      refine lv_ldc2 (v := (-9000000000000000003)) hx hb hown (hts _ (u_in uk_2_183)) dL_pledge_29 ?_
      have hcode : (fX6_pledge g q nK x0 x1 x2 x3 x4 x5).1 = 3 := hpu.symm.trans hc
      exact W.widen (Nat.le_of_ble_eq_true rfl) (Nat.le_of_ble_eq_true rfl) (W.lret hx hb hr (fun t ht hW => ⟨⟨(-9000000000000000003), (ad, g, q), rfl, ⟨by rw [hcode]; rfl, fun z => absurd (hcode.symm.trans z) (by decide)⟩, hE.next hS ht hW.alike, fun z => absurd (hcode.symm.trans z) (by decide), fun _ => by rw [ht]; exact hB⟩, hS.F ht⟩) hS.2.2 dL_pledge_32 hlocks)
  · skip
    obtain ⟨ad1, g1, q1⟩ := u
    obtain ⟨had, hp⟩ := hp
    have hP := hB.2
    rw [ht] at hP
    dsimp only at had hp hP
    refine lv_i2l hx hb dL_pledge_13 rfl ?_
    exact W.widen (Nat.le_of_ble_eq_true rfl) (Nat.le_of_ble_eq_true rfl) (W.lret hx hb hr (fun t ht hW => ⟨⟨r.toInt64, (ad1, g1, q1), rfl, ⟨by rw [← hp]; rfl, fun _ => ⟨had, by rw [← hp], by rw [← hp]⟩⟩, hE.next hS ht hW.alike, fun _ => by rw [ht]; exact hP, fun z => absurd (by rw [← hp]) z⟩, hS.F ht⟩) hS.2.2 dL_pledge_14 hlocks)
set_option maxHeartbeats 4000000 in
set_option maxRecDepth 100000 in
theorem mL_redeem (l : Launch) (hfl : l.stackTraces = false) (Z : sZ) (nT nK cT cK : Nat) (ad : Nat → Nat) (g : sG) (q : sQ) (x0 x1 : Int32) {n : Nat} (hI : CI n nT nK cT cK g q) : Met l yL_redeem (uW (.codeWith yL_redeem cL_redeem 4 (some .long) [(0, 7, 8, 15), (0, 7, 13, 23)])) { frames := 9, cells := 4, slots := 24, locals := 147 } (va_Pc [.ref (ad 60), .int x0, .int x1] (sPreL Z nT nK cT cK ad g q)) (sQl Z nT nK cT cK ad (fun r g1 q1 => (r, g1, q1) = (wl (fX6_redeem g q x0 x1).1 (fX6_redeem g q x0 x1).2.1, (fX6_redeem g q x0 x1).2.2.1, (fX6_redeem g q x0 x1).2.2.2))) 4 24 (sy_A Z) := by
  refine va_MetW (cc := cL_redeem) (maxL := 4) (ret := some .long) (by decide) rfl ?_
  intro p e s m args below meth c s₁ B hml hv
  obtain ⟨rfl, ⟨hE, hP⟩, hNc⟩ := hv
  have hx := B.exec
  have hb := B.bytes
  have hr := B.returns
  have hts := atoms_spec (ws := uW (.codeWith yL_redeem cL_redeem 4 (some .long) [(0, 7, 8, 15), (0, 7, 13, 23)])) B.pre
  have hown : s.vm.findClass RL = some m.cls := findClass_of_methodNamed B.named
  have hlocks := B.notSynchronized
  have htab := vx_table (x := yL_redeem) B (hts _ List.mem_cons_self)
  have hS : va_S (sy_A Z) s.heap s.heap [] := va_S.rf
  have hl := lv_entry ([.ref (ad 60), .int x0, .int x1]) (n := 4) (Nat.le_of_ble_eq_true rfl)
  rw [lg_entry_eq]
  generalize (lg_sl ([.ref (ad 60), .int x0, .int x1]) ++ List.replicate (4 - (lg_sl ([.ref (ad 60), .int x0, .int x1])).length) Slot.unset).toArray = ls at hl ⊢
  have hl : lv_has ls 4 [(0, .ref (ad 60)), (1, .int x0), (2, .int x1)] := hl
  refine lv_aload_n hx hb dL_redeem_0 rfl (lv_at hl 0 rfl) ?_
  refine lv_iload_n hx hb dL_redeem_1 rfl (lv_at hl 1 rfl) ?_
  refine lv_iload_n hx hb dL_redeem_2 rfl (lv_at hl 2 rfl) ?_
  refine vx_calli (sy_xV (o := 60) (As := [.int x0, .int x1]) (rest := []) ⟨hx, hb, hml, hown, hts⟩ hE hP hS (mX6_redeem l hfl Z nT nK cT cK ad g q x0 x1 (by have := ci_T hI; omega) (ci_IG hI) (ci_IQ hI)) (cwV 2 hts (gu_V uk_4_151 uk_4_152 uk_4_153 uk_1_1 uk_4_154) rfl rfl rfl (by decide +kernel) ⟨Nat.le_of_ble_eq_true rfl, Nat.le_of_ble_eq_true rfl⟩) (sy_recv (kc := 7) hE hP rfl (by decide) rfl rfl rfl) rfl hl.1 rfl (Nat.le_of_ble_eq_true rfl) dL_redeem_3 ⟨Nat.le_of_ble_eq_true rfl, Nat.le_of_ble_eq_true rfl⟩) hS (fun _ _ h => h) (fun _ h => h) (fun _ _ h => h) (fun E ce q9 u t H locs ht _ hpu hB _ _ hS hcell hv hcl => ?_) (fun r u t H locs ht _ hp hB _ _ hS => ?_)
  · obtain ⟨rfl, -, hB⟩ := hB
    rw [ht] at hB
    have hC9 : wf 1 9 3 (fX6_redeem g q x0 x1).1 ≠ 9 := h6_redeem
    rw [← hpu] at hC9
    rcases exc_c hC9 with ⟨rfl, hc, h9⟩ | ⟨rfl, hc, h9⟩ | ⟨rfl, hc, h9⟩
    · refine vx_catch (own := RL) (name := "java/lang/IndexOutOfBoundsException") hown ([] : List ExceptionTableEntry) (⟨0, 7, 8, 15⟩ : ExceptionTableEntry) [⟨0, 7, 13, 23⟩] (htab.trans rfl) (fun z hz => nomatch hz) rfl (by decide) (hts _ (u_in uk_1_195)) (va_Nw.use rfl (hE.2.2.2.2.2 _ un_1_207)) hcell hv hcl ?_
      refine lv_astore_n (lv' := [(3, .ref q9), (0, .ref (ad 60)), (1, .int x0), (2, .int x1)]) hx hb dL_redeem_8 rfl hl (by decide) rfl (fun ls hl => ?_)
      refine lv_ldc2 (v := (-9000000000000000001)) hx hb hown (hts _ (u_in uk_2_181)) dL_redeem_9 ?_
      have hcode : (fX6_redeem g q x0 x1).1 = 1 := hpu.symm.trans hc
      exact sy_lret hx hb hr hlocks hE hB hS dL_redeem_12 ⟨Nat.le_of_ble_eq_true rfl, Nat.le_of_ble_eq_true rfl⟩ (post_no n6_redeem hcode (by decide) rfl)
    · exact absurd rfl h9
    · refine vx_catch (own := RL) (name := "java/lang/IllegalStateException") hown ([⟨0, 7, 8, 15⟩] : List ExceptionTableEntry) (⟨0, 7, 13, 23⟩ : ExceptionTableEntry) [] (htab.trans rfl) (fun z hz => by
            rcases List.mem_cons.mp hz with rfl | hz
            · exact Or.inr ⟨by decide, "java/lang/IndexOutOfBoundsException", hts _ (u_in uk_1_195), hNc.2.1⟩
            · cases hz) rfl (by decide) (hts _ (u_in uk_1_197)) (va_Nw.use rfl (hE.2.2.2.2.2 _ un_2_55)) hcell hv hcl ?_
      refine lv_astore_n (lv' := [(3, .ref q9), (0, .ref (ad 60)), (1, .int x0), (2, .int x1)]) hx hb dL_redeem_13 rfl hl (by decide) rfl (fun ls hl => ?_)
      refine lv_ldc2 (v := (-9000000000000000003)) hx hb hown (hts _ (u_in uk_2_183)) dL_redeem_14 ?_
      have hcode : (fX6_redeem g q x0 x1).1 = 3 := hpu.symm.trans hc
      exact sy_lret hx hb hr hlocks hE hB hS dL_redeem_17 ⟨Nat.le_of_ble_eq_true rfl, Nat.le_of_ble_eq_true rfl⟩ (post_no n6_redeem hcode (by decide) rfl)
  · skip
    obtain ⟨g1, q1⟩ := u
    have hP := hB.2
    rw [ht] at hP
    dsimp only at hp hP
    refine lv_i2l hx hb dL_redeem_6 rfl ?_
    exact sy_lret hx hb hr hlocks hE hP hS dL_redeem_7 ⟨Nat.le_of_ble_eq_true rfl, Nat.le_of_ble_eq_true rfl⟩ (post_yes hp)
set_option maxHeartbeats 4000000 in
set_option maxRecDepth 100000 in
theorem mL_renew (l : Launch) (hfl : l.stackTraces = false) (Z : sZ) (nT nK cT cK : Nat) (ad : Nat → Nat) (g : sG) (q : sQ) (x0 x1 x2 : Int32) {n : Nat} (hI : CI n nT nK cT cK g q) : Met l yL_renew (uW (.codeWith yL_renew cL_renew 5 (some .long) [(0, 8, 9, 15), (0, 8, 15, 19), (0, 8, 21, 23)])) { frames := 9, cells := 4, slots := 24, locals := 148 } (va_Pc [.ref (ad 60), .int x0, .int x1, .int x2] (sPreL Z nT nK cT cK ad g q)) (sQl Z nT nK cT cK ad (fun r g1 q1 => (r, g1, q1) = (wl (fX6_renew g q x0 x1 x2).1 (fX6_renew g q x0 x1 x2).2.1, (fX6_renew g q x0 x1 x2).2.2.1, (fX6_renew g q x0 x1 x2).2.2.2))) 4 24 (sy_A Z) := by
  refine va_MetW (cc := cL_renew) (maxL := 5) (ret := some .long) (by decide) rfl ?_
  intro p e s m args below meth c s₁ B hml hv
  obtain ⟨rfl, ⟨hE, hP⟩, hNc⟩ := hv
  have hx := B.exec
  have hb := B.bytes
  have hr := B.returns
  have hts := atoms_spec (ws := uW (.codeWith yL_renew cL_renew 5 (some .long) [(0, 8, 9, 15), (0, 8, 15, 19), (0, 8, 21, 23)])) B.pre
  have hown : s.vm.findClass RL = some m.cls := findClass_of_methodNamed B.named
  have hlocks := B.notSynchronized
  have htab := vx_table (x := yL_renew) B (hts _ List.mem_cons_self)
  have hS : va_S (sy_A Z) s.heap s.heap [] := va_S.rf
  have hl := lv_entry ([.ref (ad 60), .int x0, .int x1, .int x2]) (n := 5) (Nat.le_of_ble_eq_true rfl)
  rw [lg_entry_eq]
  generalize (lg_sl ([.ref (ad 60), .int x0, .int x1, .int x2]) ++ List.replicate (5 - (lg_sl ([.ref (ad 60), .int x0, .int x1, .int x2])).length) Slot.unset).toArray = ls at hl ⊢
  have hl : lv_has ls 5 [(0, .ref (ad 60)), (1, .int x0), (2, .int x1), (3, .int x2)] := hl
  refine lv_aload_n hx hb dL_renew_0 rfl (lv_at hl 0 rfl) ?_
  refine lv_iload_n hx hb dL_renew_1 rfl (lv_at hl 1 rfl) ?_
  refine lv_iload_n hx hb dL_renew_2 rfl (lv_at hl 2 rfl) ?_
  refine lv_iload_n hx hb dL_renew_3 rfl (lv_at hl 3 rfl) ?_
  refine vx_calli (sy_xV (o := 60) (As := [.int x0, .int x1, .int x2]) (rest := []) ⟨hx, hb, hml, hown, hts⟩ hE hP hS (mX6_renew l hfl Z nT nK cT cK ad g q x0 x1 x2 (by have := ci_T hI; omega) (ci_IG hI) (ci_IQ hI)) (cwV 3 hts (gu_V uk_4_163 uk_4_164 uk_4_165 uk_1_1 uk_4_166) rfl rfl rfl (by decide +kernel) ⟨Nat.le_of_ble_eq_true rfl, Nat.le_of_ble_eq_true rfl⟩) (sy_recv (kc := 7) hE hP rfl (by decide) rfl rfl rfl) rfl hl.1 rfl (Nat.le_of_ble_eq_true rfl) dL_renew_4 ⟨Nat.le_of_ble_eq_true rfl, Nat.le_of_ble_eq_true rfl⟩) hS (fun _ _ h => h) (fun _ h => h) (fun _ _ h => h) (fun E ce q9 u t H locs ht _ hpu hB _ _ hS hcell hv hcl => ?_) (fun r u t H locs ht _ hp hB _ _ hS => ?_)
  · obtain ⟨rfl, -, hB⟩ := hB
    rw [ht] at hB
    have hC9 : wf 1 2 3 (fX6_renew g q x0 x1 x2).1 ≠ 9 := h6_renew
    rw [← hpu] at hC9
    rcases exc_c hC9 with ⟨rfl, hc, h9⟩ | ⟨rfl, hc, h9⟩ | ⟨rfl, hc, h9⟩
    · refine vx_catch (own := RL) (name := "java/lang/IndexOutOfBoundsException") hown ([] : List ExceptionTableEntry) (⟨0, 8, 9, 15⟩ : ExceptionTableEntry) [⟨0, 8, 15, 19⟩, ⟨0, 8, 21, 23⟩] (htab.trans rfl) (fun z hz => nomatch hz) rfl (by decide) (hts _ (u_in uk_1_195)) (va_Nw.use rfl (hE.2.2.2.2.2 _ un_1_207)) hcell hv hcl ?_
      refine lv_astore (lv' := [(4, .ref q9), (0, .ref (ad 60)), (1, .int x0), (2, .int x1), (3, .int x2)]) hx hb dL_renew_9 hl (by decide) rfl (fun ls hl => ?_)
      refine lv_ldc2 (v := (-9000000000000000001)) hx hb hown (hts _ (u_in uk_2_181)) dL_renew_11 ?_
      have hcode : (fX6_renew g q x0 x1 x2).1 = 1 := hpu.symm.trans hc
      exact sy_lret hx hb hr hlocks hE hB hS dL_renew_14 ⟨Nat.le_of_ble_eq_true rfl, Nat.le_of_ble_eq_true rfl⟩ (post_no n6_renew hcode (by decide) rfl)
    · refine vx_catch (own := RL) (name := "java/lang/IllegalArgumentException") hown ([⟨0, 8, 9, 15⟩] : List ExceptionTableEntry) (⟨0, 8, 15, 19⟩ : ExceptionTableEntry) [⟨0, 8, 21, 23⟩] (htab.trans rfl) (fun z hz => by
            rcases List.mem_cons.mp hz with rfl | hz
            · exact Or.inr ⟨by decide, "java/lang/IndexOutOfBoundsException", hts _ (u_in uk_1_195), hNc.1⟩
            · cases hz) rfl (by decide) (hts _ (u_in uk_1_196)) (va_Nw.use rfl (hE.2.2.2.2.2 _ un_2_33)) hcell hv hcl ?_
      refine lv_astore (lv' := [(4, .ref q9), (0, .ref (ad 60)), (1, .int x0), (2, .int x1), (3, .int x2)]) hx hb dL_renew_15 hl (by decide) rfl (fun ls hl => ?_)
      refine lv_ldc2 (v := (-9000000000000000002)) hx hb hown (hts _ (u_in uk_2_182)) dL_renew_17 ?_
      have hcode : (fX6_renew g q x0 x1 x2).1 = 2 := hpu.symm.trans hc
      exact sy_lret hx hb hr hlocks hE hB hS dL_renew_20 ⟨Nat.le_of_ble_eq_true rfl, Nat.le_of_ble_eq_true rfl⟩ (post_no n6_renew hcode (by decide) rfl)
    · refine vx_catch (own := RL) (name := "java/lang/IllegalStateException") hown ([⟨0, 8, 9, 15⟩, ⟨0, 8, 15, 19⟩] : List ExceptionTableEntry) (⟨0, 8, 21, 23⟩ : ExceptionTableEntry) [] (htab.trans rfl) (fun z hz => by
            rcases List.mem_cons.mp hz with rfl | hz
            · exact Or.inr ⟨by decide, "java/lang/IndexOutOfBoundsException", hts _ (u_in uk_1_195), hNc.2.1⟩
            · rcases List.mem_cons.mp hz with rfl | hz
              · exact Or.inr ⟨by decide, "java/lang/IllegalArgumentException", hts _ (u_in uk_1_196), hNc.2.2⟩
              · cases hz) rfl (by decide) (hts _ (u_in uk_1_197)) (va_Nw.use rfl (hE.2.2.2.2.2 _ un_2_55)) hcell hv hcl ?_
      refine lv_astore (lv' := [(4, .ref q9), (0, .ref (ad 60)), (1, .int x0), (2, .int x1), (3, .int x2)]) hx hb dL_renew_21 hl (by decide) rfl (fun ls hl => ?_)
      refine lv_ldc2 (v := (-9000000000000000003)) hx hb hown (hts _ (u_in uk_2_183)) dL_renew_23 ?_
      have hcode : (fX6_renew g q x0 x1 x2).1 = 3 := hpu.symm.trans hc
      exact sy_lret hx hb hr hlocks hE hB hS dL_renew_26 ⟨Nat.le_of_ble_eq_true rfl, Nat.le_of_ble_eq_true rfl⟩ (post_no n6_renew hcode (by decide) rfl)
  · skip
    obtain ⟨g1, q1⟩ := u
    have hP := hB.2
    rw [ht] at hP
    dsimp only at hp hP
    refine lv_i2l hx hb dL_renew_7 rfl ?_
    exact sy_lret hx hb hr hlocks hE hP hS dL_renew_8 ⟨Nat.le_of_ble_eq_true rfl, Nat.le_of_ble_eq_true rfl⟩ (post_yes hp)
set_option maxHeartbeats 4000000 in
set_option maxRecDepth 100000 in
theorem mL_give (l : Launch) (hfl : l.stackTraces = false) (Z : sZ) (nT nK cT cK : Nat) (ad : Nat → Nat) (g : sG) (q : sQ) (x0 x1 : Int32) {n : Nat} (hI : CI n nT nK cT cK g q) : Met l yL_give (uW (.codeWith yL_give cL_give 4 (some .long) [(0, 7, 8, 15), (0, 7, 13, 23)])) { frames := 9, cells := 3, slots := 18, locals := 147 } (va_Pc [.ref (ad 60), .int x0, .int x1] (sPreL Z nT nK cT cK ad g q)) (sQl Z nT nK cT cK ad (fun r g1 q1 => (r, g1, q1) = (wl (fX6_give g q x0 x1).1 (fX6_give g q x0 x1).2.1, (fX6_give g q x0 x1).2.2.1, (fX6_give g q x0 x1).2.2.2))) 3 18 (sy_A Z) := by
  refine va_MetW (cc := cL_give) (maxL := 4) (ret := some .long) (by decide) rfl ?_
  intro p e s m args below meth c s₁ B hml hv
  obtain ⟨rfl, ⟨hE, hP⟩, hNc⟩ := hv
  have hx := B.exec
  have hb := B.bytes
  have hr := B.returns
  have hts := atoms_spec (ws := uW (.codeWith yL_give cL_give 4 (some .long) [(0, 7, 8, 15), (0, 7, 13, 23)])) B.pre
  have hown : s.vm.findClass RL = some m.cls := findClass_of_methodNamed B.named
  have hlocks := B.notSynchronized
  have htab := vx_table (x := yL_give) B (hts _ List.mem_cons_self)
  have hS : va_S (sy_A Z) s.heap s.heap [] := va_S.rf
  have hl := lv_entry ([.ref (ad 60), .int x0, .int x1]) (n := 4) (Nat.le_of_ble_eq_true rfl)
  rw [lg_entry_eq]
  generalize (lg_sl ([.ref (ad 60), .int x0, .int x1]) ++ List.replicate (4 - (lg_sl ([.ref (ad 60), .int x0, .int x1])).length) Slot.unset).toArray = ls at hl ⊢
  have hl : lv_has ls 4 [(0, .ref (ad 60)), (1, .int x0), (2, .int x1)] := hl
  refine lv_aload_n hx hb dL_give_0 rfl (lv_at hl 0 rfl) ?_
  refine lv_iload_n hx hb dL_give_1 rfl (lv_at hl 1 rfl) ?_
  refine lv_iload_n hx hb dL_give_2 rfl (lv_at hl 2 rfl) ?_
  refine vx_calli (sy_xV (o := 60) (As := [.int x0, .int x1]) (rest := []) ⟨hx, hb, hml, hown, hts⟩ hE hP hS (mX6_give l hfl Z nT nK cT cK ad g q x0 x1 (by have := ci_T hI; omega) (ci_IG hI) (ci_IQ hI)) (cwV 2 hts (gu_V uk_3_147 uk_3_148 uk_3_149 uk_1_1 uk_3_150) rfl rfl rfl (by decide +kernel) ⟨Nat.le_of_ble_eq_true rfl, Nat.le_of_ble_eq_true rfl⟩) (sy_recv (kc := 7) hE hP rfl (by decide) rfl rfl rfl) rfl hl.1 rfl (Nat.le_of_ble_eq_true rfl) dL_give_3 ⟨Nat.le_of_ble_eq_true rfl, Nat.le_of_ble_eq_true rfl⟩) hS (fun _ _ h => h) (fun _ h => h) (fun _ _ h => h) (fun E ce q9 u t H locs ht _ hpu hB _ _ hS hcell hv hcl => ?_) (fun r u t H locs ht _ hp hB _ _ hS => ?_)
  · obtain ⟨rfl, -, hB⟩ := hB
    rw [ht] at hB
    have hC9 : wf 1 9 3 (fX6_give g q x0 x1).1 ≠ 9 := h6_give
    rw [← hpu] at hC9
    rcases exc_c hC9 with ⟨rfl, hc, h9⟩ | ⟨rfl, hc, h9⟩ | ⟨rfl, hc, h9⟩
    · refine vx_catch (own := RL) (name := "java/lang/IndexOutOfBoundsException") hown ([] : List ExceptionTableEntry) (⟨0, 7, 8, 15⟩ : ExceptionTableEntry) [⟨0, 7, 13, 23⟩] (htab.trans rfl) (fun z hz => nomatch hz) rfl (by decide) (hts _ (u_in uk_1_195)) (va_Nw.use rfl (hE.2.2.2.2.2 _ un_1_207)) hcell hv hcl ?_
      refine lv_astore_n (lv' := [(3, .ref q9), (0, .ref (ad 60)), (1, .int x0), (2, .int x1)]) hx hb dL_give_8 rfl hl (by decide) rfl (fun ls hl => ?_)
      refine lv_ldc2 (v := (-9000000000000000001)) hx hb hown (hts _ (u_in uk_2_181)) dL_give_9 ?_
      have hcode : (fX6_give g q x0 x1).1 = 1 := hpu.symm.trans hc
      exact sy_lret hx hb hr hlocks hE hB hS dL_give_12 ⟨Nat.le_of_ble_eq_true rfl, Nat.le_of_ble_eq_true rfl⟩ (post_no n6_give hcode (by decide) rfl)
    · exact absurd rfl h9
    · refine vx_catch (own := RL) (name := "java/lang/IllegalStateException") hown ([⟨0, 7, 8, 15⟩] : List ExceptionTableEntry) (⟨0, 7, 13, 23⟩ : ExceptionTableEntry) [] (htab.trans rfl) (fun z hz => by
            rcases List.mem_cons.mp hz with rfl | hz
            · exact Or.inr ⟨by decide, "java/lang/IndexOutOfBoundsException", hts _ (u_in uk_1_195), hNc.2.1⟩
            · cases hz) rfl (by decide) (hts _ (u_in uk_1_197)) (va_Nw.use rfl (hE.2.2.2.2.2 _ un_2_55)) hcell hv hcl ?_
      refine lv_astore_n (lv' := [(3, .ref q9), (0, .ref (ad 60)), (1, .int x0), (2, .int x1)]) hx hb dL_give_13 rfl hl (by decide) rfl (fun ls hl => ?_)
      refine lv_ldc2 (v := (-9000000000000000003)) hx hb hown (hts _ (u_in uk_2_183)) dL_give_14 ?_
      have hcode : (fX6_give g q x0 x1).1 = 3 := hpu.symm.trans hc
      exact sy_lret hx hb hr hlocks hE hB hS dL_give_17 ⟨Nat.le_of_ble_eq_true rfl, Nat.le_of_ble_eq_true rfl⟩ (post_no n6_give hcode (by decide) rfl)
  · skip
    obtain ⟨g1, q1⟩ := u
    have hP := hB.2
    rw [ht] at hP
    dsimp only at hp hP
    refine lv_i2l hx hb dL_give_6 rfl ?_
    exact sy_lret hx hb hr hlocks hE hP hS dL_give_7 ⟨Nat.le_of_ble_eq_true rfl, Nat.le_of_ble_eq_true rfl⟩ (post_yes hp)
set_option maxHeartbeats 4000000 in
set_option maxRecDepth 100000 in
theorem mL_notice (l : Launch) (hfl : l.stackTraces = false) (Z : sZ) (nT nK cT cK : Nat) (ad : Nat → Nat) (g : sG) (q : sQ) (x0 x1 : Int32) {n : Nat} (hI : CI n nT nK cT cK g q) : Met l yL_notice (uW (.codeWith yL_notice cL_notice 4 (some .long) [(0, 7, 8, 15), (0, 7, 13, 23)])) { frames := 9, cells := 3, slots := 18, locals := 146 } (va_Pc [.ref (ad 60), .int x0, .int x1] (sPreL Z nT nK cT cK ad g q)) (sQl Z nT nK cT cK ad (fun r g1 q1 => (r, g1, q1) = (wl (fX6_notice g q x0 x1).1 0, (fX6_notice g q x0 x1).2.1, (fX6_notice g q x0 x1).2.2))) 3 18 (sy_A Z) := by
  refine va_MetW (cc := cL_notice) (maxL := 4) (ret := some .long) (by decide) rfl ?_
  intro p e s m args below meth c s₁ B hml hv
  obtain ⟨rfl, ⟨hE, hP⟩, hNc⟩ := hv
  have hx := B.exec
  have hb := B.bytes
  have hr := B.returns
  have hts := atoms_spec (ws := uW (.codeWith yL_notice cL_notice 4 (some .long) [(0, 7, 8, 15), (0, 7, 13, 23)])) B.pre
  have hown : s.vm.findClass RL = some m.cls := findClass_of_methodNamed B.named
  have hlocks := B.notSynchronized
  have htab := vx_table (x := yL_notice) B (hts _ List.mem_cons_self)
  have hS : va_S (sy_A Z) s.heap s.heap [] := va_S.rf
  have hl := lv_entry ([.ref (ad 60), .int x0, .int x1]) (n := 4) (Nat.le_of_ble_eq_true rfl)
  rw [lg_entry_eq]
  generalize (lg_sl ([.ref (ad 60), .int x0, .int x1]) ++ List.replicate (4 - (lg_sl ([.ref (ad 60), .int x0, .int x1])).length) Slot.unset).toArray = ls at hl ⊢
  have hl : lv_has ls 4 [(0, .ref (ad 60)), (1, .int x0), (2, .int x1)] := hl
  refine lv_aload_n hx hb dL_notice_0 rfl (lv_at hl 0 rfl) ?_
  refine lv_iload_n hx hb dL_notice_1 rfl (lv_at hl 1 rfl) ?_
  refine lv_iload_n hx hb dL_notice_2 rfl (lv_at hl 2 rfl) ?_
  refine vx_callv (sy_xV (o := 60) (As := [.int x0, .int x1]) (rest := []) ⟨hx, hb, hml, hown, hts⟩ hE hP hS (mX6_notice l hfl Z nT nK cT cK ad g q x0 x1 (by have := ci_T hI; omega) (ci_IG hI) (ci_IQ hI)) (cwV 2 hts (gu_V uk_3_162 uk_3_163 uk_3_164 uk_1_1 uk_3_165) rfl rfl rfl (by decide +kernel) ⟨Nat.le_of_ble_eq_true rfl, Nat.le_of_ble_eq_true rfl⟩) (sy_recv (kc := 7) hE hP rfl (by decide) rfl rfl rfl) rfl hl.1 rfl (Nat.le_of_ble_eq_true rfl) dL_notice_3 ⟨Nat.le_of_ble_eq_true rfl, Nat.le_of_ble_eq_true rfl⟩) hS (fun _ _ h => h) (fun _ h => h) (fun _ _ h => h) (fun E ce q9 u t H locs ht _ hpu hB _ _ hS hcell hv hcl => ?_) (fun u t H locs ht _ hp hB _ _ hS => ?_)
  · obtain ⟨rfl, -, hB⟩ := hB
    rw [ht] at hB
    have hC9 : wf 1 9 3 (fX6_notice g q x0 x1).1 ≠ 9 := h6_notice
    rw [← hpu] at hC9
    rcases exc_c hC9 with ⟨rfl, hc, h9⟩ | ⟨rfl, hc, h9⟩ | ⟨rfl, hc, h9⟩
    · refine vx_catch (own := RL) (name := "java/lang/IndexOutOfBoundsException") hown ([] : List ExceptionTableEntry) (⟨0, 7, 8, 15⟩ : ExceptionTableEntry) [⟨0, 7, 13, 23⟩] (htab.trans rfl) (fun z hz => nomatch hz) rfl (by decide) (hts _ (u_in uk_1_195)) (va_Nw.use rfl (hE.2.2.2.2.2 _ un_1_207)) hcell hv hcl ?_
      refine lv_astore_n (lv' := [(3, .ref q9), (0, .ref (ad 60)), (1, .int x0), (2, .int x1)]) hx hb dL_notice_8 rfl hl (by decide) rfl (fun ls hl => ?_)
      refine lv_ldc2 (v := (-9000000000000000001)) hx hb hown (hts _ (u_in uk_2_181)) dL_notice_9 ?_
      have hcode : (fX6_notice g q x0 x1).1 = 1 := hpu.symm.trans hc
      exact sy_lret hx hb hr hlocks hE hB hS dL_notice_12 ⟨Nat.le_of_ble_eq_true rfl, Nat.le_of_ble_eq_true rfl⟩ (post_nov n6_notice hcode (by decide) rfl)
    · exact absurd rfl h9
    · refine vx_catch (own := RL) (name := "java/lang/IllegalStateException") hown ([⟨0, 7, 8, 15⟩] : List ExceptionTableEntry) (⟨0, 7, 13, 23⟩ : ExceptionTableEntry) [] (htab.trans rfl) (fun z hz => by
            rcases List.mem_cons.mp hz with rfl | hz
            · exact Or.inr ⟨by decide, "java/lang/IndexOutOfBoundsException", hts _ (u_in uk_1_195), hNc.2.1⟩
            · cases hz) rfl (by decide) (hts _ (u_in uk_1_197)) (va_Nw.use rfl (hE.2.2.2.2.2 _ un_2_55)) hcell hv hcl ?_
      refine lv_astore_n (lv' := [(3, .ref q9), (0, .ref (ad 60)), (1, .int x0), (2, .int x1)]) hx hb dL_notice_13 rfl hl (by decide) rfl (fun ls hl => ?_)
      refine lv_ldc2 (v := (-9000000000000000003)) hx hb hown (hts _ (u_in uk_2_183)) dL_notice_14 ?_
      have hcode : (fX6_notice g q x0 x1).1 = 3 := hpu.symm.trans hc
      exact sy_lret hx hb hr hlocks hE hB hS dL_notice_17 ⟨Nat.le_of_ble_eq_true rfl, Nat.le_of_ble_eq_true rfl⟩ (post_nov n6_notice hcode (by decide) rfl)
  · skip
    obtain ⟨g1, q1⟩ := u
    have hP := hB.2
    rw [ht] at hP
    dsimp only at hp hP
    refine lv_lconst (v := 0) hx hb dL_notice_6 rfl ?_
    exact sy_lret hx hb hr hlocks hE hP hS dL_notice_7 ⟨Nat.le_of_ble_eq_true rfl, Nat.le_of_ble_eq_true rfl⟩ (post_yesv hp)
set_option maxHeartbeats 4000000 in
set_option maxRecDepth 100000 in
theorem mL_show (l : Launch) (hfl : l.stackTraces = false) (Z : sZ) (nT nK cT cK : Nat) (ad : Nat → Nat) (g : sG) (q : sQ) (x0 : Int32) {n : Nat} (hI : CI n nT nK cT cK g q) : Met l yL_show (uW (.codeWith yL_show cL_show 3 (some .long) [(0, 6, 7, 15), (0, 6, 12, 23)])) { frames := 9, cells := 2, slots := 12, locals := 146 } (va_Pc [.ref (ad 60), .int x0] (sPreL Z nT nK cT cK ad g q)) (sQl Z nT nK cT cK ad (fun r g1 q1 => (r, g1, q1) = (wl (fX6_show g q x0).1 (fX6_show g q x0).2.1, (fX6_show g q x0).2.2.1, (fX6_show g q x0).2.2.2))) 2 12 (sy_A Z) := by
  refine va_MetW (cc := cL_show) (maxL := 3) (ret := some .long) (by decide) rfl ?_
  intro p e s m args below meth c s₁ B hml hv
  obtain ⟨rfl, ⟨hE, hP⟩, hNc⟩ := hv
  have hx := B.exec
  have hb := B.bytes
  have hr := B.returns
  have hts := atoms_spec (ws := uW (.codeWith yL_show cL_show 3 (some .long) [(0, 6, 7, 15), (0, 6, 12, 23)])) B.pre
  have hown : s.vm.findClass RL = some m.cls := findClass_of_methodNamed B.named
  have hlocks := B.notSynchronized
  have htab := vx_table (x := yL_show) B (hts _ List.mem_cons_self)
  have hS : va_S (sy_A Z) s.heap s.heap [] := va_S.rf
  have hl := lv_entry ([.ref (ad 60), .int x0]) (n := 3) (Nat.le_of_ble_eq_true rfl)
  rw [lg_entry_eq]
  generalize (lg_sl ([.ref (ad 60), .int x0]) ++ List.replicate (3 - (lg_sl ([.ref (ad 60), .int x0])).length) Slot.unset).toArray = ls at hl ⊢
  have hl : lv_has ls 3 [(0, .ref (ad 60)), (1, .int x0)] := hl
  refine lv_aload_n hx hb dL_show_0 rfl (lv_at hl 0 rfl) ?_
  refine lv_iload_n hx hb dL_show_1 rfl (lv_at hl 1 rfl) ?_
  refine vx_calli (sy_xV (o := 60) (As := [.int x0]) (rest := []) ⟨hx, hb, hml, hown, hts⟩ hE hP hS (mX6_show l hfl Z nT nK cT cK ad g q x0 (by have := ci_T hI; omega) (ci_IG hI) (ci_IQ hI)) (cwV 1 hts (gu_V uk_3_173 uk_3_174 uk_3_175 uk_1_1 uk_3_176) rfl rfl rfl (by decide +kernel) ⟨Nat.le_of_ble_eq_true rfl, Nat.le_of_ble_eq_true rfl⟩) (sy_recv (kc := 7) hE hP rfl (by decide) rfl rfl rfl) rfl hl.1 rfl (Nat.le_of_ble_eq_true rfl) dL_show_2 ⟨Nat.le_of_ble_eq_true rfl, Nat.le_of_ble_eq_true rfl⟩) hS (fun _ _ h => h) (fun _ h => h) (fun _ _ h => h) (fun E ce q9 u t H locs ht _ hpu hB _ _ hS hcell hv hcl => ?_) (fun r u t H locs ht _ hp hB _ _ hS => ?_)
  · obtain ⟨rfl, -, hB⟩ := hB
    rw [ht] at hB
    have hC9 : wf 1 9 3 (fX6_show g q x0).1 ≠ 9 := h6_show
    rw [← hpu] at hC9
    rcases exc_c hC9 with ⟨rfl, hc, h9⟩ | ⟨rfl, hc, h9⟩ | ⟨rfl, hc, h9⟩
    · refine vx_catch (own := RL) (name := "java/lang/IndexOutOfBoundsException") hown ([] : List ExceptionTableEntry) (⟨0, 6, 7, 15⟩ : ExceptionTableEntry) [⟨0, 6, 12, 23⟩] (htab.trans rfl) (fun z hz => nomatch hz) rfl (by decide) (hts _ (u_in uk_1_195)) (va_Nw.use rfl (hE.2.2.2.2.2 _ un_1_207)) hcell hv hcl ?_
      refine lv_astore_n (lv' := [(2, .ref q9), (0, .ref (ad 60)), (1, .int x0)]) hx hb dL_show_7 rfl hl (by decide) rfl (fun ls hl => ?_)
      refine lv_ldc2 (v := (-9000000000000000001)) hx hb hown (hts _ (u_in uk_2_181)) dL_show_8 ?_
      have hcode : (fX6_show g q x0).1 = 1 := hpu.symm.trans hc
      exact sy_lret hx hb hr hlocks hE hB hS dL_show_11 ⟨Nat.le_of_ble_eq_true rfl, Nat.le_of_ble_eq_true rfl⟩ (post_no n6_show hcode (by decide) rfl)
    · exact absurd rfl h9
    · refine vx_catch (own := RL) (name := "java/lang/IllegalStateException") hown ([⟨0, 6, 7, 15⟩] : List ExceptionTableEntry) (⟨0, 6, 12, 23⟩ : ExceptionTableEntry) [] (htab.trans rfl) (fun z hz => by
            rcases List.mem_cons.mp hz with rfl | hz
            · exact Or.inr ⟨by decide, "java/lang/IndexOutOfBoundsException", hts _ (u_in uk_1_195), hNc.2.1⟩
            · cases hz) rfl (by decide) (hts _ (u_in uk_1_197)) (va_Nw.use rfl (hE.2.2.2.2.2 _ un_2_55)) hcell hv hcl ?_
      refine lv_astore_n (lv' := [(2, .ref q9), (0, .ref (ad 60)), (1, .int x0)]) hx hb dL_show_12 rfl hl (by decide) rfl (fun ls hl => ?_)
      refine lv_ldc2 (v := (-9000000000000000003)) hx hb hown (hts _ (u_in uk_2_183)) dL_show_13 ?_
      have hcode : (fX6_show g q x0).1 = 3 := hpu.symm.trans hc
      exact sy_lret hx hb hr hlocks hE hB hS dL_show_16 ⟨Nat.le_of_ble_eq_true rfl, Nat.le_of_ble_eq_true rfl⟩ (post_no n6_show hcode (by decide) rfl)
  · skip
    obtain ⟨g1, q1⟩ := u
    have hP := hB.2
    rw [ht] at hP
    dsimp only at hp hP
    refine lv_i2l hx hb dL_show_5 rfl ?_
    exact sy_lret hx hb hr hlocks hE hP hS dL_show_6 ⟨Nat.le_of_ble_eq_true rfl, Nat.le_of_ble_eq_true rfl⟩ (post_yes hp)
set_option maxHeartbeats 4000000 in
set_option maxRecDepth 100000 in
theorem mL_police (l : Launch) (hfl : l.stackTraces = false) (Z : sZ) (nT nK cT cK : Nat) (ad : Nat → Nat) (g : sG) (q : sQ) (x0 : Int32) {n : Nat} (hI : CI n nT nK cT cK g q) : Met l yL_police (uW (.codeWith yL_police cL_police 3 (some .long) [(0, 6, 7, 15), (0, 6, 12, 23)])) { frames := 9, cells := 2, slots := 12, locals := 145 } (va_Pc [.ref (ad 60), .int x0] (sPreL Z nT nK cT cK ad g q)) (sQl Z nT nK cT cK ad (fun r g1 q1 => (r, g1, q1) = (wl (fX6_police g q x0).1 (fX6_police g q x0).2.1, (fX6_police g q x0).2.2.1, (fX6_police g q x0).2.2.2))) 2 12 (sy_A Z) := by
  refine va_MetW (cc := cL_police) (maxL := 3) (ret := some .long) (by decide) rfl ?_
  intro p e s m args below meth c s₁ B hml hv
  obtain ⟨rfl, ⟨hE, hP⟩, hNc⟩ := hv
  have hx := B.exec
  have hb := B.bytes
  have hr := B.returns
  have hts := atoms_spec (ws := uW (.codeWith yL_police cL_police 3 (some .long) [(0, 6, 7, 15), (0, 6, 12, 23)])) B.pre
  have hown : s.vm.findClass RL = some m.cls := findClass_of_methodNamed B.named
  have hlocks := B.notSynchronized
  have htab := vx_table (x := yL_police) B (hts _ List.mem_cons_self)
  have hS : va_S (sy_A Z) s.heap s.heap [] := va_S.rf
  have hl := lv_entry ([.ref (ad 60), .int x0]) (n := 3) (Nat.le_of_ble_eq_true rfl)
  rw [lg_entry_eq]
  generalize (lg_sl ([.ref (ad 60), .int x0]) ++ List.replicate (3 - (lg_sl ([.ref (ad 60), .int x0])).length) Slot.unset).toArray = ls at hl ⊢
  have hl : lv_has ls 3 [(0, .ref (ad 60)), (1, .int x0)] := hl
  refine lv_aload_n hx hb dL_police_0 rfl (lv_at hl 0 rfl) ?_
  refine lv_iload_n hx hb dL_police_1 rfl (lv_at hl 1 rfl) ?_
  refine vx_calli (sy_xV (o := 60) (As := [.int x0]) (rest := []) ⟨hx, hb, hml, hown, hts⟩ hE hP hS (mX6_police l hfl Z nT nK cT cK ad g q x0 (by have := ci_T hI; omega) (ci_IG hI) (ci_IQ hI)) (cwV 1 hts (gu_V uk_3_180 uk_3_181 uk_3_182 uk_1_1 uk_3_183) rfl rfl rfl (by decide +kernel) ⟨Nat.le_of_ble_eq_true rfl, Nat.le_of_ble_eq_true rfl⟩) (sy_recv (kc := 7) hE hP rfl (by decide) rfl rfl rfl) rfl hl.1 rfl (Nat.le_of_ble_eq_true rfl) dL_police_2 ⟨Nat.le_of_ble_eq_true rfl, Nat.le_of_ble_eq_true rfl⟩) hS (fun _ _ h => h) (fun _ h => h) (fun _ _ h => h) (fun E ce q9 u t H locs ht _ hpu hB _ _ hS hcell hv hcl => ?_) (fun r u t H locs ht _ hp hB _ _ hS => ?_)
  · obtain ⟨rfl, -, hB⟩ := hB
    rw [ht] at hB
    have hC9 : wf 1 9 3 (fX6_police g q x0).1 ≠ 9 := h6_police
    rw [← hpu] at hC9
    rcases exc_c hC9 with ⟨rfl, hc, h9⟩ | ⟨rfl, hc, h9⟩ | ⟨rfl, hc, h9⟩
    · refine vx_catch (own := RL) (name := "java/lang/IndexOutOfBoundsException") hown ([] : List ExceptionTableEntry) (⟨0, 6, 7, 15⟩ : ExceptionTableEntry) [⟨0, 6, 12, 23⟩] (htab.trans rfl) (fun z hz => nomatch hz) rfl (by decide) (hts _ (u_in uk_1_195)) (va_Nw.use rfl (hE.2.2.2.2.2 _ un_1_207)) hcell hv hcl ?_
      refine lv_astore_n (lv' := [(2, .ref q9), (0, .ref (ad 60)), (1, .int x0)]) hx hb dL_police_7 rfl hl (by decide) rfl (fun ls hl => ?_)
      refine lv_ldc2 (v := (-9000000000000000001)) hx hb hown (hts _ (u_in uk_2_181)) dL_police_8 ?_
      have hcode : (fX6_police g q x0).1 = 1 := hpu.symm.trans hc
      exact sy_lret hx hb hr hlocks hE hB hS dL_police_11 ⟨Nat.le_of_ble_eq_true rfl, Nat.le_of_ble_eq_true rfl⟩ (post_no n6_police hcode (by decide) rfl)
    · exact absurd rfl h9
    · refine vx_catch (own := RL) (name := "java/lang/IllegalStateException") hown ([⟨0, 6, 7, 15⟩] : List ExceptionTableEntry) (⟨0, 6, 12, 23⟩ : ExceptionTableEntry) [] (htab.trans rfl) (fun z hz => by
            rcases List.mem_cons.mp hz with rfl | hz
            · exact Or.inr ⟨by decide, "java/lang/IndexOutOfBoundsException", hts _ (u_in uk_1_195), hNc.2.1⟩
            · cases hz) rfl (by decide) (hts _ (u_in uk_1_197)) (va_Nw.use rfl (hE.2.2.2.2.2 _ un_2_55)) hcell hv hcl ?_
      refine lv_astore_n (lv' := [(2, .ref q9), (0, .ref (ad 60)), (1, .int x0)]) hx hb dL_police_12 rfl hl (by decide) rfl (fun ls hl => ?_)
      refine lv_ldc2 (v := (-9000000000000000003)) hx hb hown (hts _ (u_in uk_2_183)) dL_police_13 ?_
      have hcode : (fX6_police g q x0).1 = 3 := hpu.symm.trans hc
      exact sy_lret hx hb hr hlocks hE hB hS dL_police_16 ⟨Nat.le_of_ble_eq_true rfl, Nat.le_of_ble_eq_true rfl⟩ (post_no n6_police hcode (by decide) rfl)
  · skip
    obtain ⟨g1, q1⟩ := u
    have hP := hB.2
    rw [ht] at hP
    dsimp only at hp hP
    refine lv_i2l hx hb dL_police_5 rfl ?_
    exact sy_lret hx hb hr hlocks hE hP hS dL_police_6 ⟨Nat.le_of_ble_eq_true rfl, Nat.le_of_ble_eq_true rfl⟩ (post_yes hp)
set_option maxHeartbeats 4000000 in
set_option maxRecDepth 100000 in
theorem mL_court (l : Launch) (hfl : l.stackTraces = false) (Z : sZ) (nT nK cT cK : Nat) (ad : Nat → Nat) (g : sG) (q : sQ) (x0 x1 : Int32) {n : Nat} (hI : CI n nT nK cT cK g q) : Met l yL_court (uW (.codeWith yL_court cL_court 4 (some .long) [(0, 7, 8, 15), (0, 7, 13, 23)])) { frames := 9, cells := 2, slots := 12, locals := 147 } (va_Pc [.ref (ad 60), .int x0, .int x1] (sPreL Z nT nK cT cK ad g q)) (sQl Z nT nK cT cK ad (fun r g1 q1 => (r, g1, q1) = (wl (fX6_court g q x0 x1).1 (fX6_court g q x0 x1).2.1, (fX6_court g q x0 x1).2.2.1, (fX6_court g q x0 x1).2.2.2))) 2 12 (sy_A Z) := by
  refine va_MetW (cc := cL_court) (maxL := 4) (ret := some .long) (by decide) rfl ?_
  intro p e s m args below meth c s₁ B hml hv
  obtain ⟨rfl, ⟨hE, hP⟩, hNc⟩ := hv
  have hx := B.exec
  have hb := B.bytes
  have hr := B.returns
  have hts := atoms_spec (ws := uW (.codeWith yL_court cL_court 4 (some .long) [(0, 7, 8, 15), (0, 7, 13, 23)])) B.pre
  have hown : s.vm.findClass RL = some m.cls := findClass_of_methodNamed B.named
  have hlocks := B.notSynchronized
  have htab := vx_table (x := yL_court) B (hts _ List.mem_cons_self)
  have hS : va_S (sy_A Z) s.heap s.heap [] := va_S.rf
  have hl := lv_entry ([.ref (ad 60), .int x0, .int x1]) (n := 4) (Nat.le_of_ble_eq_true rfl)
  rw [lg_entry_eq]
  generalize (lg_sl ([.ref (ad 60), .int x0, .int x1]) ++ List.replicate (4 - (lg_sl ([.ref (ad 60), .int x0, .int x1])).length) Slot.unset).toArray = ls at hl ⊢
  have hl : lv_has ls 4 [(0, .ref (ad 60)), (1, .int x0), (2, .int x1)] := hl
  refine lv_aload_n hx hb dL_court_0 rfl (lv_at hl 0 rfl) ?_
  refine lv_iload_n hx hb dL_court_1 rfl (lv_at hl 1 rfl) ?_
  refine lv_iload_n hx hb dL_court_2 rfl (lv_at hl 2 rfl) ?_
  refine vx_calli (sy_xV (o := 60) (As := [.int x0, .int x1]) (rest := []) ⟨hx, hb, hml, hown, hts⟩ hE hP hS (mX6_court l hfl Z nT nK cT cK ad g q x0 x1 (by have := ci_T hI; omega) (ci_IG hI) (ci_IQ hI)) (cwV 2 hts (gu_V uk_3_191 uk_3_192 uk_3_193 uk_1_1 uk_3_194) rfl rfl rfl (by decide +kernel) ⟨Nat.le_of_ble_eq_true rfl, Nat.le_of_ble_eq_true rfl⟩) (sy_recv (kc := 7) hE hP rfl (by decide) rfl rfl rfl) rfl hl.1 rfl (Nat.le_of_ble_eq_true rfl) dL_court_3 ⟨Nat.le_of_ble_eq_true rfl, Nat.le_of_ble_eq_true rfl⟩) hS (fun _ _ h => h) (fun _ h => h) (fun _ _ h => h) (fun E ce q9 u t H locs ht _ hpu hB _ _ hS hcell hv hcl => ?_) (fun r u t H locs ht _ hp hB _ _ hS => ?_)
  · obtain ⟨rfl, -, hB⟩ := hB
    rw [ht] at hB
    have hC9 : wf 1 9 3 (fX6_court g q x0 x1).1 ≠ 9 := h6_court
    rw [← hpu] at hC9
    rcases exc_c hC9 with ⟨rfl, hc, h9⟩ | ⟨rfl, hc, h9⟩ | ⟨rfl, hc, h9⟩
    · refine vx_catch (own := RL) (name := "java/lang/IndexOutOfBoundsException") hown ([] : List ExceptionTableEntry) (⟨0, 7, 8, 15⟩ : ExceptionTableEntry) [⟨0, 7, 13, 23⟩] (htab.trans rfl) (fun z hz => nomatch hz) rfl (by decide) (hts _ (u_in uk_1_195)) (va_Nw.use rfl (hE.2.2.2.2.2 _ un_1_207)) hcell hv hcl ?_
      refine lv_astore_n (lv' := [(3, .ref q9), (0, .ref (ad 60)), (1, .int x0), (2, .int x1)]) hx hb dL_court_8 rfl hl (by decide) rfl (fun ls hl => ?_)
      refine lv_ldc2 (v := (-9000000000000000001)) hx hb hown (hts _ (u_in uk_2_181)) dL_court_9 ?_
      have hcode : (fX6_court g q x0 x1).1 = 1 := hpu.symm.trans hc
      exact sy_lret hx hb hr hlocks hE hB hS dL_court_12 ⟨Nat.le_of_ble_eq_true rfl, Nat.le_of_ble_eq_true rfl⟩ (post_no n6_court hcode (by decide) rfl)
    · exact absurd rfl h9
    · refine vx_catch (own := RL) (name := "java/lang/IllegalStateException") hown ([⟨0, 7, 8, 15⟩] : List ExceptionTableEntry) (⟨0, 7, 13, 23⟩ : ExceptionTableEntry) [] (htab.trans rfl) (fun z hz => by
            rcases List.mem_cons.mp hz with rfl | hz
            · exact Or.inr ⟨by decide, "java/lang/IndexOutOfBoundsException", hts _ (u_in uk_1_195), hNc.2.1⟩
            · cases hz) rfl (by decide) (hts _ (u_in uk_1_197)) (va_Nw.use rfl (hE.2.2.2.2.2 _ un_2_55)) hcell hv hcl ?_
      refine lv_astore_n (lv' := [(3, .ref q9), (0, .ref (ad 60)), (1, .int x0), (2, .int x1)]) hx hb dL_court_13 rfl hl (by decide) rfl (fun ls hl => ?_)
      refine lv_ldc2 (v := (-9000000000000000003)) hx hb hown (hts _ (u_in uk_2_183)) dL_court_14 ?_
      have hcode : (fX6_court g q x0 x1).1 = 3 := hpu.symm.trans hc
      exact sy_lret hx hb hr hlocks hE hB hS dL_court_17 ⟨Nat.le_of_ble_eq_true rfl, Nat.le_of_ble_eq_true rfl⟩ (post_no n6_court hcode (by decide) rfl)
  · skip
    obtain ⟨g1, q1⟩ := u
    have hP := hB.2
    rw [ht] at hP
    dsimp only at hp hP
    refine lv_i2l hx hb dL_court_6 rfl ?_
    exact sy_lret hx hb hr hlocks hE hP hS dL_court_7 ⟨Nat.le_of_ble_eq_true rfl, Nat.le_of_ble_eq_true rfl⟩ (post_yes hp)
set_option maxHeartbeats 4000000 in
set_option maxRecDepth 100000 in
theorem mL_stray (l : Launch) (hfl : l.stackTraces = false) (Z : sZ) (nT nK cT cK : Nat) (ad : Nat → Nat) (g : sG) (q : sQ) (x0 x1 x2 : Int32) {n : Nat} (hI : CI n nT nK cT cK g q) : Met l yL_stray (uW (.codeWith yL_stray cL_stray 5 (some .long) [(0, 8, 9, 15), (0, 8, 15, 23)])) { frames := 9, cells := 4, slots := 24, locals := 147 } (va_Pc [.ref (ad 60), .int x0, .int x1, .int x2] (sPreL Z nT nK cT cK ad g q)) (sQl Z nT nK cT cK ad (fun r g1 q1 => (r, g1, q1) = (wl (fX6_stray g q x0 x1 x2).1 0, (fX6_stray g q x0 x1 x2).2.1, (fX6_stray g q x0 x1 x2).2.2))) 4 24 (sy_A Z) := by
  refine va_MetW (cc := cL_stray) (maxL := 5) (ret := some .long) (by decide) rfl ?_
  intro p e s m args below meth c s₁ B hml hv
  obtain ⟨rfl, ⟨hE, hP⟩, hNc⟩ := hv
  have hx := B.exec
  have hb := B.bytes
  have hr := B.returns
  have hts := atoms_spec (ws := uW (.codeWith yL_stray cL_stray 5 (some .long) [(0, 8, 9, 15), (0, 8, 15, 23)])) B.pre
  have hown : s.vm.findClass RL = some m.cls := findClass_of_methodNamed B.named
  have hlocks := B.notSynchronized
  have htab := vx_table (x := yL_stray) B (hts _ List.mem_cons_self)
  have hS : va_S (sy_A Z) s.heap s.heap [] := va_S.rf
  have hl := lv_entry ([.ref (ad 60), .int x0, .int x1, .int x2]) (n := 5) (Nat.le_of_ble_eq_true rfl)
  rw [lg_entry_eq]
  generalize (lg_sl ([.ref (ad 60), .int x0, .int x1, .int x2]) ++ List.replicate (5 - (lg_sl ([.ref (ad 60), .int x0, .int x1, .int x2])).length) Slot.unset).toArray = ls at hl ⊢
  have hl : lv_has ls 5 [(0, .ref (ad 60)), (1, .int x0), (2, .int x1), (3, .int x2)] := hl
  refine lv_aload_n hx hb dL_stray_0 rfl (lv_at hl 0 rfl) ?_
  refine lv_iload_n hx hb dL_stray_1 rfl (lv_at hl 1 rfl) ?_
  refine lv_iload_n hx hb dL_stray_2 rfl (lv_at hl 2 rfl) ?_
  refine lv_iload_n hx hb dL_stray_3 rfl (lv_at hl 3 rfl) ?_
  refine vx_callv (sy_xV (o := 60) (As := [.int x0, .int x1, .int x2]) (rest := []) ⟨hx, hb, hml, hown, hts⟩ hE hP hS (mX6_stray l hfl Z nT nK cT cK ad g q x0 x1 x2 (by have := ci_T hI; omega) (ci_IG hI) (ci_IQ hI)) (cwV 3 hts (gu_V uk_3_206 uk_3_207 uk_3_208 uk_1_1 uk_3_209) rfl rfl rfl (by decide +kernel) ⟨Nat.le_of_ble_eq_true rfl, Nat.le_of_ble_eq_true rfl⟩) (sy_recv (kc := 7) hE hP rfl (by decide) rfl rfl rfl) rfl hl.1 rfl (Nat.le_of_ble_eq_true rfl) dL_stray_4 ⟨Nat.le_of_ble_eq_true rfl, Nat.le_of_ble_eq_true rfl⟩) hS (fun _ _ h => h) (fun _ h => h) (fun _ _ h => h) (fun E ce q9 u t H locs ht _ hpu hB _ _ hS hcell hv hcl => ?_) (fun u t H locs ht _ hp hB _ _ hS => ?_)
  · obtain ⟨rfl, -, hB⟩ := hB
    rw [ht] at hB
    have hC9 : wf 1 9 3 (fX6_stray g q x0 x1 x2).1 ≠ 9 := h6_stray
    rw [← hpu] at hC9
    rcases exc_c hC9 with ⟨rfl, hc, h9⟩ | ⟨rfl, hc, h9⟩ | ⟨rfl, hc, h9⟩
    · refine vx_catch (own := RL) (name := "java/lang/IndexOutOfBoundsException") hown ([] : List ExceptionTableEntry) (⟨0, 8, 9, 15⟩ : ExceptionTableEntry) [⟨0, 8, 15, 23⟩] (htab.trans rfl) (fun z hz => nomatch hz) rfl (by decide) (hts _ (u_in uk_1_195)) (va_Nw.use rfl (hE.2.2.2.2.2 _ un_1_207)) hcell hv hcl ?_
      refine lv_astore (lv' := [(4, .ref q9), (0, .ref (ad 60)), (1, .int x0), (2, .int x1), (3, .int x2)]) hx hb dL_stray_9 hl (by decide) rfl (fun ls hl => ?_)
      refine lv_ldc2 (v := (-9000000000000000001)) hx hb hown (hts _ (u_in uk_2_181)) dL_stray_11 ?_
      have hcode : (fX6_stray g q x0 x1 x2).1 = 1 := hpu.symm.trans hc
      exact sy_lret hx hb hr hlocks hE hB hS dL_stray_14 ⟨Nat.le_of_ble_eq_true rfl, Nat.le_of_ble_eq_true rfl⟩ (post_nov n6_stray hcode (by decide) rfl)
    · exact absurd rfl h9
    · refine vx_catch (own := RL) (name := "java/lang/IllegalStateException") hown ([⟨0, 8, 9, 15⟩] : List ExceptionTableEntry) (⟨0, 8, 15, 23⟩ : ExceptionTableEntry) [] (htab.trans rfl) (fun z hz => by
            rcases List.mem_cons.mp hz with rfl | hz
            · exact Or.inr ⟨by decide, "java/lang/IndexOutOfBoundsException", hts _ (u_in uk_1_195), hNc.2.1⟩
            · cases hz) rfl (by decide) (hts _ (u_in uk_1_197)) (va_Nw.use rfl (hE.2.2.2.2.2 _ un_2_55)) hcell hv hcl ?_
      refine lv_astore (lv' := [(4, .ref q9), (0, .ref (ad 60)), (1, .int x0), (2, .int x1), (3, .int x2)]) hx hb dL_stray_15 hl (by decide) rfl (fun ls hl => ?_)
      refine lv_ldc2 (v := (-9000000000000000003)) hx hb hown (hts _ (u_in uk_2_183)) dL_stray_17 ?_
      have hcode : (fX6_stray g q x0 x1 x2).1 = 3 := hpu.symm.trans hc
      exact sy_lret hx hb hr hlocks hE hB hS dL_stray_20 ⟨Nat.le_of_ble_eq_true rfl, Nat.le_of_ble_eq_true rfl⟩ (post_nov n6_stray hcode (by decide) rfl)
  · skip
    obtain ⟨g1, q1⟩ := u
    have hP := hB.2
    rw [ht] at hP
    dsimp only at hp hP
    refine lv_lconst (v := 0) hx hb dL_stray_7 rfl ?_
    exact sy_lret hx hb hr hlocks hE hP hS dL_stray_8 ⟨Nat.le_of_ble_eq_true rfl, Nat.le_of_ble_eq_true rfl⟩ (post_yesv hp)
set_option maxHeartbeats 4000000 in
set_option maxRecDepth 100000 in
theorem mL_count (l : Launch) (hfl : l.stackTraces = false) (Z : sZ) (nT nK cT cK : Nat) (ad : Nat → Nat) (g : sG) (q : sQ) (x0 : Int32) {n : Nat} (hI : CI n nT nK cT cK g q) : Met l yL_count (uW (.codeWith yL_count cL_count 3 (some .long) [(0, 6, 7, 15)])) { frames := 8, cells := 1, slots := 6, locals := 127 } (va_Pc [.ref (ad 60), .int x0] (sPreL Z nT nK cT cK ad g q)) (sQl Z nT nK cT cK ad (fun r g1 q1 => (r, g1, q1) = (wl (fX6_count g q x0).1 (fX6_count g q x0).2.1, (fX6_count g q x0).2.2.1, (fX6_count g q x0).2.2.2))) 1 6 (sy_A Z) := by
  refine va_MetW (cc := cL_count) (maxL := 3) (ret := some .long) (by decide) rfl ?_
  intro p e s m args below meth c s₁ B hml hv
  obtain ⟨rfl, ⟨hE, hP⟩, hNc⟩ := hv
  have hx := B.exec
  have hb := B.bytes
  have hr := B.returns
  have hts := atoms_spec (ws := uW (.codeWith yL_count cL_count 3 (some .long) [(0, 6, 7, 15)])) B.pre
  have hown : s.vm.findClass RL = some m.cls := findClass_of_methodNamed B.named
  have hlocks := B.notSynchronized
  have htab := vx_table (x := yL_count) B (hts _ List.mem_cons_self)
  have hS : va_S (sy_A Z) s.heap s.heap [] := va_S.rf
  have hl := lv_entry ([.ref (ad 60), .int x0]) (n := 3) (Nat.le_of_ble_eq_true rfl)
  rw [lg_entry_eq]
  generalize (lg_sl ([.ref (ad 60), .int x0]) ++ List.replicate (3 - (lg_sl ([.ref (ad 60), .int x0])).length) Slot.unset).toArray = ls at hl ⊢
  have hl : lv_has ls 3 [(0, .ref (ad 60)), (1, .int x0)] := hl
  refine lv_aload_n hx hb dL_count_0 rfl (lv_at hl 0 rfl) ?_
  refine lv_iload_n hx hb dL_count_1 rfl (lv_at hl 1 rfl) ?_
  refine vx_calli (sy_xV (o := 60) (As := [.int x0]) (rest := []) ⟨hx, hb, hml, hown, hts⟩ hE hP hS (mX6_count l hfl Z nT nK cT cK ad g q x0 (by have := ci_T hI; omega) (ci_IG hI) (ci_IQ hI)) (cwV 1 hts (gu_V uk_3_217 uk_3_218 uk_3_219 uk_1_1 uk_3_220) rfl rfl rfl (by decide +kernel) ⟨Nat.le_of_ble_eq_true rfl, Nat.le_of_ble_eq_true rfl⟩) (sy_recv (kc := 7) hE hP rfl (by decide) rfl rfl rfl) rfl hl.1 rfl (Nat.le_of_ble_eq_true rfl) dL_count_2 ⟨Nat.le_of_ble_eq_true rfl, Nat.le_of_ble_eq_true rfl⟩) hS (fun _ _ h => h) (fun _ h => h) (fun _ _ h => h) (fun E ce q9 u t H locs ht _ hpu hB _ _ hS hcell hv hcl => ?_) (fun r u t H locs ht _ hp hB _ _ hS => ?_)
  · obtain ⟨rfl, -, hB⟩ := hB
    rw [ht] at hB
    have hC9 : wf 1 9 9 (fX6_count g q x0).1 ≠ 9 := h6_count
    rw [← hpu] at hC9
    rcases exc_c hC9 with ⟨rfl, hc, h9⟩ | ⟨rfl, hc, h9⟩ | ⟨rfl, hc, h9⟩
    · refine vx_catch (own := RL) (name := "java/lang/IndexOutOfBoundsException") hown ([] : List ExceptionTableEntry) (⟨0, 6, 7, 15⟩ : ExceptionTableEntry) [] (htab.trans rfl) (fun z hz => nomatch hz) rfl (by decide) (hts _ (u_in uk_1_195)) (va_Nw.use rfl (hE.2.2.2.2.2 _ un_1_207)) hcell hv hcl ?_
      refine lv_astore_n (lv' := [(2, .ref q9), (0, .ref (ad 60)), (1, .int x0)]) hx hb dL_count_7 rfl hl (by decide) rfl (fun ls hl => ?_)
      refine lv_ldc2 (v := (-9000000000000000001)) hx hb hown (hts _ (u_in uk_2_181)) dL_count_8 ?_
      have hcode : (fX6_count g q x0).1 = 1 := hpu.symm.trans hc
      exact sy_lret hx hb hr hlocks hE hB hS dL_count_11 ⟨Nat.le_of_ble_eq_true rfl, Nat.le_of_ble_eq_true rfl⟩ (post_no n6_count hcode (by decide) rfl)
    · exact absurd rfl h9
    · exact absurd rfl h9
  · skip
    obtain ⟨g1, q1⟩ := u
    have hP := hB.2
    rw [ht] at hP
    dsimp only at hp hP
    refine lv_i2l hx hb dL_count_5 rfl ?_
    exact sy_lret hx hb hr hlocks hE hP hS dL_count_6 ⟨Nat.le_of_ble_eq_true rfl, Nat.le_of_ble_eq_true rfl⟩ (post_yes hp)
set_option maxHeartbeats 4000000 in
set_option maxRecDepth 100000 in
theorem mL_transfer (l : Launch) (hfl : l.stackTraces = false) (Z : sZ) (nT nK cT cK : Nat) (ad : Nat → Nat) (g : sG) (q : sQ) (x0 x1 : Int32) {n : Nat} (hI : CI n nT nK cT cK g q) : Met l yL_transfer (uW (.codeWith yL_transfer cL_transfer 4 (some .long) [(0, 7, 8, 15), (0, 7, 13, 23)])) { frames := 9, cells := 4, slots := 24, locals := 147 } (va_Pc [.ref (ad 60), .int x0, .int x1] (sPreL Z nT nK cT cK ad g q)) (sQl Z nT nK cT cK ad (fun r g1 q1 => (r, g1, q1) = (wl (fX6_transfer g q x0 x1).1 (fX6_transfer g q x0 x1).2.1, (fX6_transfer g q x0 x1).2.2.1, (fX6_transfer g q x0 x1).2.2.2))) 4 24 (sy_A Z) := by
  refine va_MetW (cc := cL_transfer) (maxL := 4) (ret := some .long) (by decide) rfl ?_
  intro p e s m args below meth c s₁ B hml hv
  obtain ⟨rfl, ⟨hE, hP⟩, hNc⟩ := hv
  have hx := B.exec
  have hb := B.bytes
  have hr := B.returns
  have hts := atoms_spec (ws := uW (.codeWith yL_transfer cL_transfer 4 (some .long) [(0, 7, 8, 15), (0, 7, 13, 23)])) B.pre
  have hown : s.vm.findClass RL = some m.cls := findClass_of_methodNamed B.named
  have hlocks := B.notSynchronized
  have htab := vx_table (x := yL_transfer) B (hts _ List.mem_cons_self)
  have hS : va_S (sy_A Z) s.heap s.heap [] := va_S.rf
  have hl := lv_entry ([.ref (ad 60), .int x0, .int x1]) (n := 4) (Nat.le_of_ble_eq_true rfl)
  rw [lg_entry_eq]
  generalize (lg_sl ([.ref (ad 60), .int x0, .int x1]) ++ List.replicate (4 - (lg_sl ([.ref (ad 60), .int x0, .int x1])).length) Slot.unset).toArray = ls at hl ⊢
  have hl : lv_has ls 4 [(0, .ref (ad 60)), (1, .int x0), (2, .int x1)] := hl
  refine lv_aload_n hx hb dL_transfer_0 rfl (lv_at hl 0 rfl) ?_
  refine lv_iload_n hx hb dL_transfer_1 rfl (lv_at hl 1 rfl) ?_
  refine lv_iload_n hx hb dL_transfer_2 rfl (lv_at hl 2 rfl) ?_
  refine vx_calli (sy_xV (o := 60) (As := [.int x0, .int x1]) (rest := []) ⟨hx, hb, hml, hown, hts⟩ hE hP hS (mX6_transfer l hfl Z nT nK cT cK ad g q x0 x1 (by have := ci_T hI; omega) (ci_IG hI) (ci_IQ hI)) (cwV 2 hts (gu_V uk_3_231 uk_3_232 uk_3_233 uk_1_1 uk_3_234) rfl rfl rfl (by decide +kernel) ⟨Nat.le_of_ble_eq_true rfl, Nat.le_of_ble_eq_true rfl⟩) (sy_recv (kc := 7) hE hP rfl (by decide) rfl rfl rfl) rfl hl.1 rfl (Nat.le_of_ble_eq_true rfl) dL_transfer_3 ⟨Nat.le_of_ble_eq_true rfl, Nat.le_of_ble_eq_true rfl⟩) hS (fun _ _ h => h) (fun _ h => h) (fun _ _ h => h) (fun E ce q9 u t H locs ht _ hpu hB _ _ hS hcell hv hcl => ?_) (fun r u t H locs ht _ hp hB _ _ hS => ?_)
  · obtain ⟨rfl, -, hB⟩ := hB
    rw [ht] at hB
    have hC9 : wf 1 9 3 (fX6_transfer g q x0 x1).1 ≠ 9 := h6_transfer
    rw [← hpu] at hC9
    rcases exc_c hC9 with ⟨rfl, hc, h9⟩ | ⟨rfl, hc, h9⟩ | ⟨rfl, hc, h9⟩
    · refine vx_catch (own := RL) (name := "java/lang/IndexOutOfBoundsException") hown ([] : List ExceptionTableEntry) (⟨0, 7, 8, 15⟩ : ExceptionTableEntry) [⟨0, 7, 13, 23⟩] (htab.trans rfl) (fun z hz => nomatch hz) rfl (by decide) (hts _ (u_in uk_1_195)) (va_Nw.use rfl (hE.2.2.2.2.2 _ un_1_207)) hcell hv hcl ?_
      refine lv_astore_n (lv' := [(3, .ref q9), (0, .ref (ad 60)), (1, .int x0), (2, .int x1)]) hx hb dL_transfer_8 rfl hl (by decide) rfl (fun ls hl => ?_)
      refine lv_ldc2 (v := (-9000000000000000001)) hx hb hown (hts _ (u_in uk_2_181)) dL_transfer_9 ?_
      have hcode : (fX6_transfer g q x0 x1).1 = 1 := hpu.symm.trans hc
      exact sy_lret hx hb hr hlocks hE hB hS dL_transfer_12 ⟨Nat.le_of_ble_eq_true rfl, Nat.le_of_ble_eq_true rfl⟩ (post_no n6_transfer hcode (by decide) rfl)
    · exact absurd rfl h9
    · refine vx_catch (own := RL) (name := "java/lang/IllegalStateException") hown ([⟨0, 7, 8, 15⟩] : List ExceptionTableEntry) (⟨0, 7, 13, 23⟩ : ExceptionTableEntry) [] (htab.trans rfl) (fun z hz => by
            rcases List.mem_cons.mp hz with rfl | hz
            · exact Or.inr ⟨by decide, "java/lang/IndexOutOfBoundsException", hts _ (u_in uk_1_195), hNc.2.1⟩
            · cases hz) rfl (by decide) (hts _ (u_in uk_1_197)) (va_Nw.use rfl (hE.2.2.2.2.2 _ un_2_55)) hcell hv hcl ?_
      refine lv_astore_n (lv' := [(3, .ref q9), (0, .ref (ad 60)), (1, .int x0), (2, .int x1)]) hx hb dL_transfer_13 rfl hl (by decide) rfl (fun ls hl => ?_)
      refine lv_ldc2 (v := (-9000000000000000003)) hx hb hown (hts _ (u_in uk_2_183)) dL_transfer_14 ?_
      have hcode : (fX6_transfer g q x0 x1).1 = 3 := hpu.symm.trans hc
      exact sy_lret hx hb hr hlocks hE hB hS dL_transfer_17 ⟨Nat.le_of_ble_eq_true rfl, Nat.le_of_ble_eq_true rfl⟩ (post_no n6_transfer hcode (by decide) rfl)
  · skip
    obtain ⟨g1, q1⟩ := u
    have hP := hB.2
    rw [ht] at hP
    dsimp only at hp hP
    refine lv_i2l hx hb dL_transfer_6 rfl ?_
    exact sy_lret hx hb hr hlocks hE hP hS dL_transfer_7 ⟨Nat.le_of_ble_eq_true rfl, Nat.le_of_ble_eq_true rfl⟩ (post_yes hp)
set_option maxHeartbeats 4000000 in
set_option maxRecDepth 100000 in
theorem mL_wind (l : Launch) (hfl : l.stackTraces = false) (Z : sZ) (nT nK cT cK : Nat) (ad : Nat → Nat) (g : sG) (q : sQ) (x0 : Int32) {n : Nat} (hI : CI n nT nK cT cK g q) : Met l yL_wind (uW (.codeWith yL_wind cL_wind 3 (some .long) [(0, 6, 7, 15)])) { frames := 8, cells := 1, slots := 6, locals := 126 } (va_Pc [.ref (ad 60), .int x0] (sPreL Z nT nK cT cK ad g q)) (sQl Z nT nK cT cK ad (fun r g1 q1 => (r, g1, q1) = (wl (fX6_wind g q x0).1 (fX6_wind g q x0).2.1, (fX6_wind g q x0).2.2.1, (fX6_wind g q x0).2.2.2))) 1 6 (sy_A Z) := by
  refine va_MetW (cc := cL_wind) (maxL := 3) (ret := some .long) (by decide) rfl ?_
  intro p e s m args below meth c s₁ B hml hv
  obtain ⟨rfl, ⟨hE, hP⟩, hNc⟩ := hv
  have hx := B.exec
  have hb := B.bytes
  have hr := B.returns
  have hts := atoms_spec (ws := uW (.codeWith yL_wind cL_wind 3 (some .long) [(0, 6, 7, 15)])) B.pre
  have hown : s.vm.findClass RL = some m.cls := findClass_of_methodNamed B.named
  have hlocks := B.notSynchronized
  have htab := vx_table (x := yL_wind) B (hts _ List.mem_cons_self)
  have hS : va_S (sy_A Z) s.heap s.heap [] := va_S.rf
  have hl := lv_entry ([.ref (ad 60), .int x0]) (n := 3) (Nat.le_of_ble_eq_true rfl)
  rw [lg_entry_eq]
  generalize (lg_sl ([.ref (ad 60), .int x0]) ++ List.replicate (3 - (lg_sl ([.ref (ad 60), .int x0])).length) Slot.unset).toArray = ls at hl ⊢
  have hl : lv_has ls 3 [(0, .ref (ad 60)), (1, .int x0)] := hl
  refine lv_aload_n hx hb dL_wind_0 rfl (lv_at hl 0 rfl) ?_
  refine lv_iload_n hx hb dL_wind_1 rfl (lv_at hl 1 rfl) ?_
  refine vx_calli (sy_xV (o := 60) (As := [.int x0]) (rest := []) ⟨hx, hb, hml, hown, hts⟩ hE hP hS (mX6_wind l hfl Z nT nK cT cK ad g q x0 (by have := ci_T hI; omega) (ci_IG hI) (ci_IQ hI)) (cwV 1 hts (gu_V uk_3_238 uk_3_239 uk_4_0 uk_1_1 uk_4_1) rfl rfl rfl (by decide +kernel) ⟨Nat.le_of_ble_eq_true rfl, Nat.le_of_ble_eq_true rfl⟩) (sy_recv (kc := 7) hE hP rfl (by decide) rfl rfl rfl) rfl hl.1 rfl (Nat.le_of_ble_eq_true rfl) dL_wind_2 ⟨Nat.le_of_ble_eq_true rfl, Nat.le_of_ble_eq_true rfl⟩) hS (fun _ _ h => h) (fun _ h => h) (fun _ _ h => h) (fun E ce q9 u t H locs ht _ hpu hB _ _ hS hcell hv hcl => ?_) (fun r u t H locs ht _ hp hB _ _ hS => ?_)
  · obtain ⟨rfl, -, hB⟩ := hB
    rw [ht] at hB
    have hC9 : wf 1 9 9 (fX6_wind g q x0).1 ≠ 9 := h6_wind
    rw [← hpu] at hC9
    rcases exc_c hC9 with ⟨rfl, hc, h9⟩ | ⟨rfl, hc, h9⟩ | ⟨rfl, hc, h9⟩
    · refine vx_catch (own := RL) (name := "java/lang/IndexOutOfBoundsException") hown ([] : List ExceptionTableEntry) (⟨0, 6, 7, 15⟩ : ExceptionTableEntry) [] (htab.trans rfl) (fun z hz => nomatch hz) rfl (by decide) (hts _ (u_in uk_1_195)) (va_Nw.use rfl (hE.2.2.2.2.2 _ un_1_207)) hcell hv hcl ?_
      refine lv_astore_n (lv' := [(2, .ref q9), (0, .ref (ad 60)), (1, .int x0)]) hx hb dL_wind_7 rfl hl (by decide) rfl (fun ls hl => ?_)
      refine lv_ldc2 (v := (-9000000000000000001)) hx hb hown (hts _ (u_in uk_2_181)) dL_wind_8 ?_
      have hcode : (fX6_wind g q x0).1 = 1 := hpu.symm.trans hc
      exact sy_lret hx hb hr hlocks hE hB hS dL_wind_11 ⟨Nat.le_of_ble_eq_true rfl, Nat.le_of_ble_eq_true rfl⟩ (post_no n6_wind hcode (by decide) rfl)
    · exact absurd rfl h9
    · exact absurd rfl h9
  · skip
    obtain ⟨g1, q1⟩ := u
    have hP := hB.2
    rw [ht] at hP
    dsimp only at hp hP
    refine lv_i2l hx hb dL_wind_5 rfl ?_
    exact sy_lret hx hb hr hlocks hE hP hS dL_wind_6 ⟨Nat.le_of_ble_eq_true rfl, Nat.le_of_ble_eq_true rfl⟩ (post_yes hp)
set_option maxHeartbeats 4000000 in
set_option maxRecDepth 100000 in
theorem mL_pass (l : Launch) (hfl : l.stackTraces = false) (Z : sZ) (nT nK cT cK : Nat) (ad : Nat → Nat) (g : sG) (q : sQ) (x0 : Int32) {n : Nat} (hI : CI n nT nK cT cK g q) : Met l yL_pass (uW (.codeWith yL_pass cL_pass 3 (some .long) [(0, 6, 7, 19), (0, 6, 12, 23)])) { frames := 8, cells := 2, slots := 12, locals := 125 } (va_Pc [.ref (ad 60), .int x0] (sPreL Z nT nK cT cK ad g q)) (sQl Z nT nK cT cK ad (fun r g1 q1 => (r, g1, q1) = (wl (fX6_pass g q x0).1 (fX6_pass g q x0).2.1, (fX6_pass g q x0).2.2.1, (fX6_pass g q x0).2.2.2))) 2 12 (sy_A Z) := by
  refine va_MetW (cc := cL_pass) (maxL := 3) (ret := some .long) (by decide) rfl ?_
  intro p e s m args below meth c s₁ B hml hv
  obtain ⟨rfl, ⟨hE, hP⟩, hNc⟩ := hv
  have hx := B.exec
  have hb := B.bytes
  have hr := B.returns
  have hts := atoms_spec (ws := uW (.codeWith yL_pass cL_pass 3 (some .long) [(0, 6, 7, 19), (0, 6, 12, 23)])) B.pre
  have hown : s.vm.findClass RL = some m.cls := findClass_of_methodNamed B.named
  have hlocks := B.notSynchronized
  have htab := vx_table (x := yL_pass) B (hts _ List.mem_cons_self)
  have hS : va_S (sy_A Z) s.heap s.heap [] := va_S.rf
  have hl := lv_entry ([.ref (ad 60), .int x0]) (n := 3) (Nat.le_of_ble_eq_true rfl)
  rw [lg_entry_eq]
  generalize (lg_sl ([.ref (ad 60), .int x0]) ++ List.replicate (3 - (lg_sl ([.ref (ad 60), .int x0])).length) Slot.unset).toArray = ls at hl ⊢
  have hl : lv_has ls 3 [(0, .ref (ad 60)), (1, .int x0)] := hl
  refine lv_aload_n hx hb dL_pass_0 rfl (lv_at hl 0 rfl) ?_
  refine lv_iload_n hx hb dL_pass_1 rfl (lv_at hl 1 rfl) ?_
  refine vx_calli (sy_xV (o := 60) (As := [.int x0]) (rest := []) ⟨hx, hb, hml, hown, hts⟩ hE hP hS (mX6_pass l hfl Z nT nK cT cK ad g q x0 (by have := ci_T hI; omega) (ci_IG hI) (ci_IQ hI)) (cwV 1 hts (gu_V uk_4_5 uk_4_6 uk_4_7 uk_1_1 uk_4_8) rfl rfl rfl (by decide +kernel) ⟨Nat.le_of_ble_eq_true rfl, Nat.le_of_ble_eq_true rfl⟩) (sy_recv (kc := 7) hE hP rfl (by decide) rfl rfl rfl) rfl hl.1 rfl (Nat.le_of_ble_eq_true rfl) dL_pass_2 ⟨Nat.le_of_ble_eq_true rfl, Nat.le_of_ble_eq_true rfl⟩) hS (fun _ _ h => h) (fun _ h => h) (fun _ _ h => h) (fun E ce q9 u t H locs ht _ hpu hB _ _ hS hcell hv hcl => ?_) (fun r u t H locs ht _ hp hB _ _ hS => ?_)
  · obtain ⟨rfl, -, hB⟩ := hB
    rw [ht] at hB
    have hC9 : wf 9 2 3 (fX6_pass g q x0).1 ≠ 9 := h6_pass
    rw [← hpu] at hC9
    rcases exc_c hC9 with ⟨rfl, hc, h9⟩ | ⟨rfl, hc, h9⟩ | ⟨rfl, hc, h9⟩
    · exact absurd rfl h9
    · refine vx_catch (own := RL) (name := "java/lang/IllegalArgumentException") hown ([] : List ExceptionTableEntry) (⟨0, 6, 7, 19⟩ : ExceptionTableEntry) [⟨0, 6, 12, 23⟩] (htab.trans rfl) (fun z hz => nomatch hz) rfl (by decide) (hts _ (u_in uk_1_196)) (va_Nw.use rfl (hE.2.2.2.2.2 _ un_2_33)) hcell hv hcl ?_
      refine lv_astore_n (lv' := [(2, .ref q9), (0, .ref (ad 60)), (1, .int x0)]) hx hb dL_pass_7 rfl hl (by decide) rfl (fun ls hl => ?_)
      refine lv_ldc2 (v := (-9000000000000000002)) hx hb hown (hts _ (u_in uk_2_182)) dL_pass_8 ?_
      have hcode : (fX6_pass g q x0).1 = 2 := hpu.symm.trans hc
      exact sy_lret hx hb hr hlocks hE hB hS dL_pass_11 ⟨Nat.le_of_ble_eq_true rfl, Nat.le_of_ble_eq_true rfl⟩ (post_no n6_pass hcode (by decide) rfl)
    · refine vx_catch (own := RL) (name := "java/lang/IllegalStateException") hown ([⟨0, 6, 7, 19⟩] : List ExceptionTableEntry) (⟨0, 6, 12, 23⟩ : ExceptionTableEntry) [] (htab.trans rfl) (fun z hz => by
            rcases List.mem_cons.mp hz with rfl | hz
            · exact Or.inr ⟨by decide, "java/lang/IllegalArgumentException", hts _ (u_in uk_1_196), hNc.2.2⟩
            · cases hz) rfl (by decide) (hts _ (u_in uk_1_197)) (va_Nw.use rfl (hE.2.2.2.2.2 _ un_2_55)) hcell hv hcl ?_
      refine lv_astore_n (lv' := [(2, .ref q9), (0, .ref (ad 60)), (1, .int x0)]) hx hb dL_pass_12 rfl hl (by decide) rfl (fun ls hl => ?_)
      refine lv_ldc2 (v := (-9000000000000000003)) hx hb hown (hts _ (u_in uk_2_183)) dL_pass_13 ?_
      have hcode : (fX6_pass g q x0).1 = 3 := hpu.symm.trans hc
      exact sy_lret hx hb hr hlocks hE hB hS dL_pass_16 ⟨Nat.le_of_ble_eq_true rfl, Nat.le_of_ble_eq_true rfl⟩ (post_no n6_pass hcode (by decide) rfl)
  · skip
    obtain ⟨g1, q1⟩ := u
    have hP := hB.2
    rw [ht] at hP
    dsimp only at hp hP
    refine lv_i2l hx hb dL_pass_5 rfl ?_
    exact sy_lret hx hb hr hlocks hE hP hS dL_pass_6 ⟨Nat.le_of_ble_eq_true rfl, Nat.le_of_ble_eq_true rfl⟩ (post_yes hp)
set_option maxHeartbeats 4000000 in
set_option maxRecDepth 100000 in
theorem mL_offer (l : Launch) (hfl : l.stackTraces = false) (Z : sZ) (nT nK cT cK : Nat) (ad : Nat → Nat) (g : sG) (q : sQ) (x0 x1 : Int32) {n : Nat} (hI : CI n nT nK cT cK g q) : Met l yL_offer (uW (.codeWith yL_offer cL_offer 4 (some .long) [(0, 7, 8, 15), (0, 7, 13, 19), (0, 7, 18, 23)])) { frames := 9, cells := 3, slots := 18, locals := 149 } (va_Pc [.ref (ad 60), .int x0, .int x1] (sPreL Z nT nK cT cK ad g q)) (sQl Z nT nK cT cK ad (fun r g1 q1 => (r, g1, q1) = (wl (fX6_offer g q x0 x1).1 (fX6_offer g q x0 x1).2.1, (fX6_offer g q x0 x1).2.2.1, (fX6_offer g q x0 x1).2.2.2))) 3 18 (sy_A Z) := by
  refine va_MetW (cc := cL_offer) (maxL := 4) (ret := some .long) (by decide) rfl ?_
  intro p e s m args below meth c s₁ B hml hv
  obtain ⟨rfl, ⟨hE, hP⟩, hNc⟩ := hv
  have hx := B.exec
  have hb := B.bytes
  have hr := B.returns
  have hts := atoms_spec (ws := uW (.codeWith yL_offer cL_offer 4 (some .long) [(0, 7, 8, 15), (0, 7, 13, 19), (0, 7, 18, 23)])) B.pre
  have hown : s.vm.findClass RL = some m.cls := findClass_of_methodNamed B.named
  have hlocks := B.notSynchronized
  have htab := vx_table (x := yL_offer) B (hts _ List.mem_cons_self)
  have hS : va_S (sy_A Z) s.heap s.heap [] := va_S.rf
  have hl := lv_entry ([.ref (ad 60), .int x0, .int x1]) (n := 4) (Nat.le_of_ble_eq_true rfl)
  rw [lg_entry_eq]
  generalize (lg_sl ([.ref (ad 60), .int x0, .int x1]) ++ List.replicate (4 - (lg_sl ([.ref (ad 60), .int x0, .int x1])).length) Slot.unset).toArray = ls at hl ⊢
  have hl : lv_has ls 4 [(0, .ref (ad 60)), (1, .int x0), (2, .int x1)] := hl
  refine lv_aload_n hx hb dL_offer_0 rfl (lv_at hl 0 rfl) ?_
  refine lv_iload_n hx hb dL_offer_1 rfl (lv_at hl 1 rfl) ?_
  refine lv_iload_n hx hb dL_offer_2 rfl (lv_at hl 2 rfl) ?_
  refine vx_calli (sy_xV (o := 60) (As := [.int x0, .int x1]) (rest := []) ⟨hx, hb, hml, hown, hts⟩ hE hP hS (mX6_offer l hfl Z nT nK cT cK ad g q x0 x1 (by have := ci_T hI; omega) (ci_IG hI) (ci_IQ hI)) (cwV 2 hts (gu_V uk_4_170 uk_4_171 uk_4_172 uk_1_1 uk_4_173) rfl rfl rfl (by decide +kernel) ⟨Nat.le_of_ble_eq_true rfl, Nat.le_of_ble_eq_true rfl⟩) (sy_recv (kc := 7) hE hP rfl (by decide) rfl rfl rfl) rfl hl.1 rfl (Nat.le_of_ble_eq_true rfl) dL_offer_3 ⟨Nat.le_of_ble_eq_true rfl, Nat.le_of_ble_eq_true rfl⟩) hS (fun _ _ h => h) (fun _ h => h) (fun _ _ h => h) (fun E ce q9 u t H locs ht _ hpu hB _ _ hS hcell hv hcl => ?_) (fun r u t H locs ht _ hp hB _ _ hS => ?_)
  · obtain ⟨rfl, -, hB⟩ := hB
    rw [ht] at hB
    have hC9 : wf 1 2 3 (fX6_offer g q x0 x1).1 ≠ 9 := h6_offer
    rw [← hpu] at hC9
    rcases exc_c hC9 with ⟨rfl, hc, h9⟩ | ⟨rfl, hc, h9⟩ | ⟨rfl, hc, h9⟩
    · refine vx_catch (own := RL) (name := "java/lang/IndexOutOfBoundsException") hown ([] : List ExceptionTableEntry) (⟨0, 7, 8, 15⟩ : ExceptionTableEntry) [⟨0, 7, 13, 19⟩, ⟨0, 7, 18, 23⟩] (htab.trans rfl) (fun z hz => nomatch hz) rfl (by decide) (hts _ (u_in uk_1_195)) (va_Nw.use rfl (hE.2.2.2.2.2 _ un_1_207)) hcell hv hcl ?_
      refine lv_astore_n (lv' := [(3, .ref q9), (0, .ref (ad 60)), (1, .int x0), (2, .int x1)]) hx hb dL_offer_8 rfl hl (by decide) rfl (fun ls hl => ?_)
      refine lv_ldc2 (v := (-9000000000000000001)) hx hb hown (hts _ (u_in uk_2_181)) dL_offer_9 ?_
      have hcode : (fX6_offer g q x0 x1).1 = 1 := hpu.symm.trans hc
      exact sy_lret hx hb hr hlocks hE hB hS dL_offer_12 ⟨Nat.le_of_ble_eq_true rfl, Nat.le_of_ble_eq_true rfl⟩ (post_no n6_offer hcode (by decide) rfl)
    · refine vx_catch (own := RL) (name := "java/lang/IllegalArgumentException") hown ([⟨0, 7, 8, 15⟩] : List ExceptionTableEntry) (⟨0, 7, 13, 19⟩ : ExceptionTableEntry) [⟨0, 7, 18, 23⟩] (htab.trans rfl) (fun z hz => by
            rcases List.mem_cons.mp hz with rfl | hz
            · exact Or.inr ⟨by decide, "java/lang/IndexOutOfBoundsException", hts _ (u_in uk_1_195), hNc.1⟩
            · cases hz) rfl (by decide) (hts _ (u_in uk_1_196)) (va_Nw.use rfl (hE.2.2.2.2.2 _ un_2_33)) hcell hv hcl ?_
      refine lv_astore_n (lv' := [(3, .ref q9), (0, .ref (ad 60)), (1, .int x0), (2, .int x1)]) hx hb dL_offer_13 rfl hl (by decide) rfl (fun ls hl => ?_)
      refine lv_ldc2 (v := (-9000000000000000002)) hx hb hown (hts _ (u_in uk_2_182)) dL_offer_14 ?_
      have hcode : (fX6_offer g q x0 x1).1 = 2 := hpu.symm.trans hc
      exact sy_lret hx hb hr hlocks hE hB hS dL_offer_17 ⟨Nat.le_of_ble_eq_true rfl, Nat.le_of_ble_eq_true rfl⟩ (post_no n6_offer hcode (by decide) rfl)
    · refine vx_catch (own := RL) (name := "java/lang/IllegalStateException") hown ([⟨0, 7, 8, 15⟩, ⟨0, 7, 13, 19⟩] : List ExceptionTableEntry) (⟨0, 7, 18, 23⟩ : ExceptionTableEntry) [] (htab.trans rfl) (fun z hz => by
            rcases List.mem_cons.mp hz with rfl | hz
            · exact Or.inr ⟨by decide, "java/lang/IndexOutOfBoundsException", hts _ (u_in uk_1_195), hNc.2.1⟩
            · rcases List.mem_cons.mp hz with rfl | hz
              · exact Or.inr ⟨by decide, "java/lang/IllegalArgumentException", hts _ (u_in uk_1_196), hNc.2.2⟩
              · cases hz) rfl (by decide) (hts _ (u_in uk_1_197)) (va_Nw.use rfl (hE.2.2.2.2.2 _ un_2_55)) hcell hv hcl ?_
      refine lv_astore_n (lv' := [(3, .ref q9), (0, .ref (ad 60)), (1, .int x0), (2, .int x1)]) hx hb dL_offer_18 rfl hl (by decide) rfl (fun ls hl => ?_)
      refine lv_ldc2 (v := (-9000000000000000003)) hx hb hown (hts _ (u_in uk_2_183)) dL_offer_19 ?_
      have hcode : (fX6_offer g q x0 x1).1 = 3 := hpu.symm.trans hc
      exact sy_lret hx hb hr hlocks hE hB hS dL_offer_22 ⟨Nat.le_of_ble_eq_true rfl, Nat.le_of_ble_eq_true rfl⟩ (post_no n6_offer hcode (by decide) rfl)
  · skip
    obtain ⟨g1, q1⟩ := u
    have hP := hB.2
    rw [ht] at hP
    dsimp only at hp hP
    refine lv_i2l hx hb dL_offer_6 rfl ?_
    exact sy_lret hx hb hr hlocks hE hP hS dL_offer_7 ⟨Nat.le_of_ble_eq_true rfl, Nat.le_of_ble_eq_true rfl⟩ (post_yes hp)
set_option maxHeartbeats 4000000 in
set_option maxRecDepth 100000 in
theorem mL_claim (l : Launch) (hfl : l.stackTraces = false) (Z : sZ) (nT nK cT cK : Nat) (ad : Nat → Nat) (g : sG) (q : sQ) (x0 x1 : Int32) {n : Nat} (hI : CI n nT nK cT cK g q) : Met l yL_claim (uW (.codeWith yL_claim cL_claim 4 (some .long) [(0, 7, 8, 15), (0, 7, 13, 23)])) { frames := 9, cells := 3, slots := 18, locals := 146 } (va_Pc [.ref (ad 60), .int x0, .int x1] (sPreL Z nT nK cT cK ad g q)) (sQl Z nT nK cT cK ad (fun r g1 q1 => (r, g1, q1) = (wl (fX6_claim g q x0 x1).1 (fX6_claim g q x0 x1).2.1, (fX6_claim g q x0 x1).2.2.1, (fX6_claim g q x0 x1).2.2.2))) 3 18 (sy_A Z) := by
  refine va_MetW (cc := cL_claim) (maxL := 4) (ret := some .long) (by decide) rfl ?_
  intro p e s m args below meth c s₁ B hml hv
  obtain ⟨rfl, ⟨hE, hP⟩, hNc⟩ := hv
  have hx := B.exec
  have hb := B.bytes
  have hr := B.returns
  have hts := atoms_spec (ws := uW (.codeWith yL_claim cL_claim 4 (some .long) [(0, 7, 8, 15), (0, 7, 13, 23)])) B.pre
  have hown : s.vm.findClass RL = some m.cls := findClass_of_methodNamed B.named
  have hlocks := B.notSynchronized
  have htab := vx_table (x := yL_claim) B (hts _ List.mem_cons_self)
  have hS : va_S (sy_A Z) s.heap s.heap [] := va_S.rf
  have hl := lv_entry ([.ref (ad 60), .int x0, .int x1]) (n := 4) (Nat.le_of_ble_eq_true rfl)
  rw [lg_entry_eq]
  generalize (lg_sl ([.ref (ad 60), .int x0, .int x1]) ++ List.replicate (4 - (lg_sl ([.ref (ad 60), .int x0, .int x1])).length) Slot.unset).toArray = ls at hl ⊢
  have hl : lv_has ls 4 [(0, .ref (ad 60)), (1, .int x0), (2, .int x1)] := hl
  refine lv_aload_n hx hb dL_claim_0 rfl (lv_at hl 0 rfl) ?_
  refine lv_iload_n hx hb dL_claim_1 rfl (lv_at hl 1 rfl) ?_
  refine lv_iload_n hx hb dL_claim_2 rfl (lv_at hl 2 rfl) ?_
  refine vx_calli (sy_xV (o := 60) (As := [.int x0, .int x1]) (rest := []) ⟨hx, hb, hml, hown, hts⟩ hE hP hS (mX6_claim l hfl Z nT nK cT cK ad g q x0 x1 (by have := ci_T hI; omega) (ci_IG hI) (ci_IQ hI)) (cwV 2 hts (gu_V uk_4_185 uk_4_186 uk_4_187 uk_1_1 uk_4_188) rfl rfl rfl (by decide +kernel) ⟨Nat.le_of_ble_eq_true rfl, Nat.le_of_ble_eq_true rfl⟩) (sy_recv (kc := 7) hE hP rfl (by decide) rfl rfl rfl) rfl hl.1 rfl (Nat.le_of_ble_eq_true rfl) dL_claim_3 ⟨Nat.le_of_ble_eq_true rfl, Nat.le_of_ble_eq_true rfl⟩) hS (fun _ _ h => h) (fun _ h => h) (fun _ _ h => h) (fun E ce q9 u t H locs ht _ hpu hB _ _ hS hcell hv hcl => ?_) (fun r u t H locs ht _ hp hB _ _ hS => ?_)
  · obtain ⟨rfl, -, hB⟩ := hB
    rw [ht] at hB
    have hC9 : wf 1 9 3 (fX6_claim g q x0 x1).1 ≠ 9 := h6_claim
    rw [← hpu] at hC9
    rcases exc_c hC9 with ⟨rfl, hc, h9⟩ | ⟨rfl, hc, h9⟩ | ⟨rfl, hc, h9⟩
    · refine vx_catch (own := RL) (name := "java/lang/IndexOutOfBoundsException") hown ([] : List ExceptionTableEntry) (⟨0, 7, 8, 15⟩ : ExceptionTableEntry) [⟨0, 7, 13, 23⟩] (htab.trans rfl) (fun z hz => nomatch hz) rfl (by decide) (hts _ (u_in uk_1_195)) (va_Nw.use rfl (hE.2.2.2.2.2 _ un_1_207)) hcell hv hcl ?_
      refine lv_astore_n (lv' := [(3, .ref q9), (0, .ref (ad 60)), (1, .int x0), (2, .int x1)]) hx hb dL_claim_8 rfl hl (by decide) rfl (fun ls hl => ?_)
      refine lv_ldc2 (v := (-9000000000000000001)) hx hb hown (hts _ (u_in uk_2_181)) dL_claim_9 ?_
      have hcode : (fX6_claim g q x0 x1).1 = 1 := hpu.symm.trans hc
      exact sy_lret hx hb hr hlocks hE hB hS dL_claim_12 ⟨Nat.le_of_ble_eq_true rfl, Nat.le_of_ble_eq_true rfl⟩ (post_no n6_claim hcode (by decide) rfl)
    · exact absurd rfl h9
    · refine vx_catch (own := RL) (name := "java/lang/IllegalStateException") hown ([⟨0, 7, 8, 15⟩] : List ExceptionTableEntry) (⟨0, 7, 13, 23⟩ : ExceptionTableEntry) [] (htab.trans rfl) (fun z hz => by
            rcases List.mem_cons.mp hz with rfl | hz
            · exact Or.inr ⟨by decide, "java/lang/IndexOutOfBoundsException", hts _ (u_in uk_1_195), hNc.2.1⟩
            · cases hz) rfl (by decide) (hts _ (u_in uk_1_197)) (va_Nw.use rfl (hE.2.2.2.2.2 _ un_2_55)) hcell hv hcl ?_
      refine lv_astore_n (lv' := [(3, .ref q9), (0, .ref (ad 60)), (1, .int x0), (2, .int x1)]) hx hb dL_claim_13 rfl hl (by decide) rfl (fun ls hl => ?_)
      refine lv_ldc2 (v := (-9000000000000000003)) hx hb hown (hts _ (u_in uk_2_183)) dL_claim_14 ?_
      have hcode : (fX6_claim g q x0 x1).1 = 3 := hpu.symm.trans hc
      exact sy_lret hx hb hr hlocks hE hB hS dL_claim_17 ⟨Nat.le_of_ble_eq_true rfl, Nat.le_of_ble_eq_true rfl⟩ (post_no n6_claim hcode (by decide) rfl)
  · skip
    obtain ⟨g1, q1⟩ := u
    have hP := hB.2
    rw [ht] at hP
    dsimp only at hp hP
    refine lv_i2l hx hb dL_claim_6 rfl ?_
    exact sy_lret hx hb hr hlocks hE hP hS dL_claim_7 ⟨Nat.le_of_ble_eq_true rfl, Nat.le_of_ble_eq_true rfl⟩ (post_yes hp)
set_option maxHeartbeats 4000000 in
set_option maxRecDepth 100000 in
theorem mL_deposit (l : Launch) (hfl : l.stackTraces = false) (Z : sZ) (nT nK cT cK : Nat) (ad : Nat → Nat) (g : sG) (q : sQ) (x0 : Int32) {n : Nat} (hI : CI n nT nK cT cK g q) : Met l yL_deposit (uW (.codeWith yL_deposit cL_deposit 3 (some .long) [(0, 6, 7, 19), (0, 6, 12, 23)])) { frames := 8, cells := 2, slots := 12, locals := 124 } (va_Pc [.ref (ad 60), .int x0] (sPreL Z nT nK cT cK ad g q)) (sQl Z nT nK cT cK ad (fun r g1 q1 => (r, g1, q1) = (wl (fX6_deposit g q x0).1 (fX6_deposit g q x0).2.1, (fX6_deposit g q x0).2.2.1, (fX6_deposit g q x0).2.2.2))) 2 12 (sy_A Z) := by
  refine va_MetW (cc := cL_deposit) (maxL := 3) (ret := some .long) (by decide) rfl ?_
  intro p e s m args below meth c s₁ B hml hv
  obtain ⟨rfl, ⟨hE, hP⟩, hNc⟩ := hv
  have hx := B.exec
  have hb := B.bytes
  have hr := B.returns
  have hts := atoms_spec (ws := uW (.codeWith yL_deposit cL_deposit 3 (some .long) [(0, 6, 7, 19), (0, 6, 12, 23)])) B.pre
  have hown : s.vm.findClass RL = some m.cls := findClass_of_methodNamed B.named
  have hlocks := B.notSynchronized
  have htab := vx_table (x := yL_deposit) B (hts _ List.mem_cons_self)
  have hS : va_S (sy_A Z) s.heap s.heap [] := va_S.rf
  have hl := lv_entry ([.ref (ad 60), .int x0]) (n := 3) (Nat.le_of_ble_eq_true rfl)
  rw [lg_entry_eq]
  generalize (lg_sl ([.ref (ad 60), .int x0]) ++ List.replicate (3 - (lg_sl ([.ref (ad 60), .int x0])).length) Slot.unset).toArray = ls at hl ⊢
  have hl : lv_has ls 3 [(0, .ref (ad 60)), (1, .int x0)] := hl
  refine lv_aload_n hx hb dL_deposit_0 rfl (lv_at hl 0 rfl) ?_
  refine lv_iload_n hx hb dL_deposit_1 rfl (lv_at hl 1 rfl) ?_
  refine vx_calli (sy_xV (o := 60) (As := [.int x0]) (rest := []) ⟨hx, hb, hml, hown, hts⟩ hE hP hS (mX6_deposit l hfl Z nT nK cT cK ad g q x0 (by have := ci_T hI; omega) (ci_IG hI) (ci_IQ hI)) (cwV 1 hts (gu_V uk_4_41 uk_4_42 uk_4_43 uk_1_1 uk_4_44) rfl rfl rfl (by decide +kernel) ⟨Nat.le_of_ble_eq_true rfl, Nat.le_of_ble_eq_true rfl⟩) (sy_recv (kc := 7) hE hP rfl (by decide) rfl rfl rfl) rfl hl.1 rfl (Nat.le_of_ble_eq_true rfl) dL_deposit_2 ⟨Nat.le_of_ble_eq_true rfl, Nat.le_of_ble_eq_true rfl⟩) hS (fun _ _ h => h) (fun _ h => h) (fun _ _ h => h) (fun E ce q9 u t H locs ht _ hpu hB _ _ hS hcell hv hcl => ?_) (fun r u t H locs ht _ hp hB _ _ hS => ?_)
  · obtain ⟨rfl, -, hB⟩ := hB
    rw [ht] at hB
    have hC9 : wf 9 2 3 (fX6_deposit g q x0).1 ≠ 9 := h6_deposit
    rw [← hpu] at hC9
    rcases exc_c hC9 with ⟨rfl, hc, h9⟩ | ⟨rfl, hc, h9⟩ | ⟨rfl, hc, h9⟩
    · exact absurd rfl h9
    · refine vx_catch (own := RL) (name := "java/lang/IllegalArgumentException") hown ([] : List ExceptionTableEntry) (⟨0, 6, 7, 19⟩ : ExceptionTableEntry) [⟨0, 6, 12, 23⟩] (htab.trans rfl) (fun z hz => nomatch hz) rfl (by decide) (hts _ (u_in uk_1_196)) (va_Nw.use rfl (hE.2.2.2.2.2 _ un_2_33)) hcell hv hcl ?_
      refine lv_astore_n (lv' := [(2, .ref q9), (0, .ref (ad 60)), (1, .int x0)]) hx hb dL_deposit_7 rfl hl (by decide) rfl (fun ls hl => ?_)
      refine lv_ldc2 (v := (-9000000000000000002)) hx hb hown (hts _ (u_in uk_2_182)) dL_deposit_8 ?_
      have hcode : (fX6_deposit g q x0).1 = 2 := hpu.symm.trans hc
      exact sy_lret hx hb hr hlocks hE hB hS dL_deposit_11 ⟨Nat.le_of_ble_eq_true rfl, Nat.le_of_ble_eq_true rfl⟩ (post_no n6_deposit hcode (by decide) rfl)
    · refine vx_catch (own := RL) (name := "java/lang/IllegalStateException") hown ([⟨0, 6, 7, 19⟩] : List ExceptionTableEntry) (⟨0, 6, 12, 23⟩ : ExceptionTableEntry) [] (htab.trans rfl) (fun z hz => by
            rcases List.mem_cons.mp hz with rfl | hz
            · exact Or.inr ⟨by decide, "java/lang/IllegalArgumentException", hts _ (u_in uk_1_196), hNc.2.2⟩
            · cases hz) rfl (by decide) (hts _ (u_in uk_1_197)) (va_Nw.use rfl (hE.2.2.2.2.2 _ un_2_55)) hcell hv hcl ?_
      refine lv_astore_n (lv' := [(2, .ref q9), (0, .ref (ad 60)), (1, .int x0)]) hx hb dL_deposit_12 rfl hl (by decide) rfl (fun ls hl => ?_)
      refine lv_ldc2 (v := (-9000000000000000003)) hx hb hown (hts _ (u_in uk_2_183)) dL_deposit_13 ?_
      have hcode : (fX6_deposit g q x0).1 = 3 := hpu.symm.trans hc
      exact sy_lret hx hb hr hlocks hE hB hS dL_deposit_16 ⟨Nat.le_of_ble_eq_true rfl, Nat.le_of_ble_eq_true rfl⟩ (post_no n6_deposit hcode (by decide) rfl)
  · skip
    obtain ⟨g1, q1⟩ := u
    have hP := hB.2
    rw [ht] at hP
    dsimp only at hp hP
    refine lv_i2l hx hb dL_deposit_5 rfl ?_
    exact sy_lret hx hb hr hlocks hE hP hS dL_deposit_6 ⟨Nat.le_of_ble_eq_true rfl, Nat.le_of_ble_eq_true rfl⟩ (post_yes hp)
set_option maxHeartbeats 4000000 in
set_option maxRecDepth 100000 in
theorem mL_withdraw (l : Launch) (hfl : l.stackTraces = false) (Z : sZ) (nT nK cT cK : Nat) (ad : Nat → Nat) (g : sG) (q : sQ) (x0 : Int32) {n : Nat} (hI : CI n nT nK cT cK g q) : Met l yL_withdraw (uW (.codeWith yL_withdraw cL_withdraw 3 (some .long) [(0, 6, 7, 19), (0, 6, 12, 23)])) { frames := 8, cells := 2, slots := 12, locals := 124 } (va_Pc [.ref (ad 60), .int x0] (sPreL Z nT nK cT cK ad g q)) (sQl Z nT nK cT cK ad (fun r g1 q1 => (r, g1, q1) = (wl (fX6_withdraw g q x0).1 (fX6_withdraw g q x0).2.1, (fX6_withdraw g q x0).2.2.1, (fX6_withdraw g q x0).2.2.2))) 2 12 (sy_A Z) := by
  refine va_MetW (cc := cL_withdraw) (maxL := 3) (ret := some .long) (by decide) rfl ?_
  intro p e s m args below meth c s₁ B hml hv
  obtain ⟨rfl, ⟨hE, hP⟩, hNc⟩ := hv
  have hx := B.exec
  have hb := B.bytes
  have hr := B.returns
  have hts := atoms_spec (ws := uW (.codeWith yL_withdraw cL_withdraw 3 (some .long) [(0, 6, 7, 19), (0, 6, 12, 23)])) B.pre
  have hown : s.vm.findClass RL = some m.cls := findClass_of_methodNamed B.named
  have hlocks := B.notSynchronized
  have htab := vx_table (x := yL_withdraw) B (hts _ List.mem_cons_self)
  have hS : va_S (sy_A Z) s.heap s.heap [] := va_S.rf
  have hl := lv_entry ([.ref (ad 60), .int x0]) (n := 3) (Nat.le_of_ble_eq_true rfl)
  rw [lg_entry_eq]
  generalize (lg_sl ([.ref (ad 60), .int x0]) ++ List.replicate (3 - (lg_sl ([.ref (ad 60), .int x0])).length) Slot.unset).toArray = ls at hl ⊢
  have hl : lv_has ls 3 [(0, .ref (ad 60)), (1, .int x0)] := hl
  refine lv_aload_n hx hb dL_withdraw_0 rfl (lv_at hl 0 rfl) ?_
  refine lv_iload_n hx hb dL_withdraw_1 rfl (lv_at hl 1 rfl) ?_
  refine vx_calli (sy_xV (o := 60) (As := [.int x0]) (rest := []) ⟨hx, hb, hml, hown, hts⟩ hE hP hS (mX6_withdraw l hfl Z nT nK cT cK ad g q x0 (by have := ci_T hI; omega) (ci_IG hI) (ci_IQ hI)) (cwV 1 hts (gu_V uk_4_193 uk_4_194 uk_4_195 uk_1_1 uk_4_196) rfl rfl rfl (by decide +kernel) ⟨Nat.le_of_ble_eq_true rfl, Nat.le_of_ble_eq_true rfl⟩) (sy_recv (kc := 7) hE hP rfl (by decide) rfl rfl rfl) rfl hl.1 rfl (Nat.le_of_ble_eq_true rfl) dL_withdraw_2 ⟨Nat.le_of_ble_eq_true rfl, Nat.le_of_ble_eq_true rfl⟩) hS (fun _ _ h => h) (fun _ h => h) (fun _ _ h => h) (fun E ce q9 u t H locs ht _ hpu hB _ _ hS hcell hv hcl => ?_) (fun r u t H locs ht _ hp hB _ _ hS => ?_)
  · obtain ⟨rfl, -, hB⟩ := hB
    rw [ht] at hB
    have hC9 : wf 9 2 3 (fX6_withdraw g q x0).1 ≠ 9 := h6_withdraw
    rw [← hpu] at hC9
    rcases exc_c hC9 with ⟨rfl, hc, h9⟩ | ⟨rfl, hc, h9⟩ | ⟨rfl, hc, h9⟩
    · exact absurd rfl h9
    · refine vx_catch (own := RL) (name := "java/lang/IllegalArgumentException") hown ([] : List ExceptionTableEntry) (⟨0, 6, 7, 19⟩ : ExceptionTableEntry) [⟨0, 6, 12, 23⟩] (htab.trans rfl) (fun z hz => nomatch hz) rfl (by decide) (hts _ (u_in uk_1_196)) (va_Nw.use rfl (hE.2.2.2.2.2 _ un_2_33)) hcell hv hcl ?_
      refine lv_astore_n (lv' := [(2, .ref q9), (0, .ref (ad 60)), (1, .int x0)]) hx hb dL_withdraw_7 rfl hl (by decide) rfl (fun ls hl => ?_)
      refine lv_ldc2 (v := (-9000000000000000002)) hx hb hown (hts _ (u_in uk_2_182)) dL_withdraw_8 ?_
      have hcode : (fX6_withdraw g q x0).1 = 2 := hpu.symm.trans hc
      exact sy_lret hx hb hr hlocks hE hB hS dL_withdraw_11 ⟨Nat.le_of_ble_eq_true rfl, Nat.le_of_ble_eq_true rfl⟩ (post_no n6_withdraw hcode (by decide) rfl)
    · refine vx_catch (own := RL) (name := "java/lang/IllegalStateException") hown ([⟨0, 6, 7, 19⟩] : List ExceptionTableEntry) (⟨0, 6, 12, 23⟩ : ExceptionTableEntry) [] (htab.trans rfl) (fun z hz => by
            rcases List.mem_cons.mp hz with rfl | hz
            · exact Or.inr ⟨by decide, "java/lang/IllegalArgumentException", hts _ (u_in uk_1_196), hNc.2.2⟩
            · cases hz) rfl (by decide) (hts _ (u_in uk_1_197)) (va_Nw.use rfl (hE.2.2.2.2.2 _ un_2_55)) hcell hv hcl ?_
      refine lv_astore_n (lv' := [(2, .ref q9), (0, .ref (ad 60)), (1, .int x0)]) hx hb dL_withdraw_12 rfl hl (by decide) rfl (fun ls hl => ?_)
      refine lv_ldc2 (v := (-9000000000000000003)) hx hb hown (hts _ (u_in uk_2_183)) dL_withdraw_13 ?_
      have hcode : (fX6_withdraw g q x0).1 = 3 := hpu.symm.trans hc
      exact sy_lret hx hb hr hlocks hE hB hS dL_withdraw_16 ⟨Nat.le_of_ble_eq_true rfl, Nat.le_of_ble_eq_true rfl⟩ (post_no n6_withdraw hcode (by decide) rfl)
  · skip
    obtain ⟨g1, q1⟩ := u
    have hP := hB.2
    rw [ht] at hP
    dsimp only at hp hP
    refine lv_i2l hx hb dL_withdraw_5 rfl ?_
    exact sy_lret hx hb hr hlocks hE hP hS dL_withdraw_6 ⟨Nat.le_of_ble_eq_true rfl, Nat.le_of_ble_eq_true rfl⟩ (post_yes hp)
set_option maxHeartbeats 4000000 in
set_option maxRecDepth 100000 in
theorem mL_thingOf (l : Launch) (hfl : l.stackTraces = false) (Z : sZ) (nT nK cT cK : Nat) (ad : Nat → Nat) (g : sG) (q : sQ) (x0 x1 : Int32) {n : Nat} (hI : CI n nT nK cT cK g q) : Met l yL_thingOf (uW (.codeWith yL_thingOf cL_thingOf 4 (some .long) [(0, 7, 8, 15), (0, 7, 13, 19)])) { frames := 9, cells := 2, slots := 12, locals := 146 } (va_Pc [.ref (ad 60), .int x0, .int x1] (sPreL Z nT nK cT cK ad g q)) (sQl Z nT nK cT cK ad (fun r g1 q1 => (r, g1, q1) = (wl (fX6_thingOf g q x0 x1).1 (fX6_thingOf g q x0 x1).2.1, (fX6_thingOf g q x0 x1).2.2.1, (fX6_thingOf g q x0 x1).2.2.2))) 2 12 (sy_A Z) := by
  refine va_MetW (cc := cL_thingOf) (maxL := 4) (ret := some .long) (by decide) rfl ?_
  intro p e s m args below meth c s₁ B hml hv
  obtain ⟨rfl, ⟨hE, hP⟩, hNc⟩ := hv
  have hx := B.exec
  have hb := B.bytes
  have hr := B.returns
  have hts := atoms_spec (ws := uW (.codeWith yL_thingOf cL_thingOf 4 (some .long) [(0, 7, 8, 15), (0, 7, 13, 19)])) B.pre
  have hown : s.vm.findClass RL = some m.cls := findClass_of_methodNamed B.named
  have hlocks := B.notSynchronized
  have htab := vx_table (x := yL_thingOf) B (hts _ List.mem_cons_self)
  have hS : va_S (sy_A Z) s.heap s.heap [] := va_S.rf
  have hl := lv_entry ([.ref (ad 60), .int x0, .int x1]) (n := 4) (Nat.le_of_ble_eq_true rfl)
  rw [lg_entry_eq]
  generalize (lg_sl ([.ref (ad 60), .int x0, .int x1]) ++ List.replicate (4 - (lg_sl ([.ref (ad 60), .int x0, .int x1])).length) Slot.unset).toArray = ls at hl ⊢
  have hl : lv_has ls 4 [(0, .ref (ad 60)), (1, .int x0), (2, .int x1)] := hl
  refine lv_aload_n hx hb dL_thingOf_0 rfl (lv_at hl 0 rfl) ?_
  refine lv_iload_n hx hb dL_thingOf_1 rfl (lv_at hl 1 rfl) ?_
  refine lv_iload_n hx hb dL_thingOf_2 rfl (lv_at hl 2 rfl) ?_
  refine vx_calli (sy_xV (o := 60) (As := [.int x0, .int x1]) (rest := []) ⟨hx, hb, hml, hown, hts⟩ hE hP hS (mX6_thingOf l hfl Z nT nK cT cK ad g q x0 x1 (by have := ci_T hI; omega) (ci_IG hI) (ci_IQ hI)) (cwV 2 hts (gu_V uk_4_49 uk_4_50 uk_4_51 uk_1_1 uk_4_52) rfl rfl rfl (by decide +kernel) ⟨Nat.le_of_ble_eq_true rfl, Nat.le_of_ble_eq_true rfl⟩) (sy_recv (kc := 7) hE hP rfl (by decide) rfl rfl rfl) rfl hl.1 rfl (Nat.le_of_ble_eq_true rfl) dL_thingOf_3 ⟨Nat.le_of_ble_eq_true rfl, Nat.le_of_ble_eq_true rfl⟩) hS (fun _ _ h => h) (fun _ h => h) (fun _ _ h => h) (fun E ce q9 u t H locs ht _ hpu hB _ _ hS hcell hv hcl => ?_) (fun r u t H locs ht _ hp hB _ _ hS => ?_)
  · obtain ⟨rfl, -, hB⟩ := hB
    rw [ht] at hB
    have hC9 : wf 1 2 9 (fX6_thingOf g q x0 x1).1 ≠ 9 := h6_thingOf
    rw [← hpu] at hC9
    rcases exc_c hC9 with ⟨rfl, hc, h9⟩ | ⟨rfl, hc, h9⟩ | ⟨rfl, hc, h9⟩
    · refine vx_catch (own := RL) (name := "java/lang/IndexOutOfBoundsException") hown ([] : List ExceptionTableEntry) (⟨0, 7, 8, 15⟩ : ExceptionTableEntry) [⟨0, 7, 13, 19⟩] (htab.trans rfl) (fun z hz => nomatch hz) rfl (by decide) (hts _ (u_in uk_1_195)) (va_Nw.use rfl (hE.2.2.2.2.2 _ un_1_207)) hcell hv hcl ?_
      refine lv_astore_n (lv' := [(3, .ref q9), (0, .ref (ad 60)), (1, .int x0), (2, .int x1)]) hx hb dL_thingOf_8 rfl hl (by decide) rfl (fun ls hl => ?_)
      refine lv_ldc2 (v := (-9000000000000000001)) hx hb hown (hts _ (u_in uk_2_181)) dL_thingOf_9 ?_
      have hcode : (fX6_thingOf g q x0 x1).1 = 1 := hpu.symm.trans hc
      exact sy_lret hx hb hr hlocks hE hB hS dL_thingOf_12 ⟨Nat.le_of_ble_eq_true rfl, Nat.le_of_ble_eq_true rfl⟩ (post_no n6_thingOf hcode (by decide) rfl)
    · refine vx_catch (own := RL) (name := "java/lang/IllegalArgumentException") hown ([⟨0, 7, 8, 15⟩] : List ExceptionTableEntry) (⟨0, 7, 13, 19⟩ : ExceptionTableEntry) [] (htab.trans rfl) (fun z hz => by
            rcases List.mem_cons.mp hz with rfl | hz
            · exact Or.inr ⟨by decide, "java/lang/IndexOutOfBoundsException", hts _ (u_in uk_1_195), hNc.1⟩
            · cases hz) rfl (by decide) (hts _ (u_in uk_1_196)) (va_Nw.use rfl (hE.2.2.2.2.2 _ un_2_33)) hcell hv hcl ?_
      refine lv_astore_n (lv' := [(3, .ref q9), (0, .ref (ad 60)), (1, .int x0), (2, .int x1)]) hx hb dL_thingOf_13 rfl hl (by decide) rfl (fun ls hl => ?_)
      refine lv_ldc2 (v := (-9000000000000000002)) hx hb hown (hts _ (u_in uk_2_182)) dL_thingOf_14 ?_
      have hcode : (fX6_thingOf g q x0 x1).1 = 2 := hpu.symm.trans hc
      exact sy_lret hx hb hr hlocks hE hB hS dL_thingOf_17 ⟨Nat.le_of_ble_eq_true rfl, Nat.le_of_ble_eq_true rfl⟩ (post_no n6_thingOf hcode (by decide) rfl)
    · exact absurd rfl h9
  · skip
    obtain ⟨g1, q1⟩ := u
    have hP := hB.2
    rw [ht] at hP
    dsimp only at hp hP
    refine lv_i2l hx hb dL_thingOf_6 rfl ?_
    exact sy_lret hx hb hr hlocks hE hP hS dL_thingOf_7 ⟨Nat.le_of_ble_eq_true rfl, Nat.le_of_ble_eq_true rfl⟩ (post_yes hp)
set_option maxHeartbeats 4000000 in
set_option maxRecDepth 100000 in
theorem mL_ticketOf (l : Launch) (hfl : l.stackTraces = false) (Z : sZ) (nT nK cT cK : Nat) (ad : Nat → Nat) (g : sG) (q : sQ) (x0 x1 : Int32) {n : Nat} (hI : CI n nT nK cT cK g q) : Met l yL_ticketOf (uW (.codeWith yL_ticketOf cL_ticketOf 4 (some .long) [(0, 7, 8, 15), (0, 7, 13, 19)])) { frames := 9, cells := 2, slots := 12, locals := 146 } (va_Pc [.ref (ad 60), .int x0, .int x1] (sPreL Z nT nK cT cK ad g q)) (sQl Z nT nK cT cK ad (fun r g1 q1 => (r, g1, q1) = (wl (fX6_ticketOf g q x0 x1).1 (fX6_ticketOf g q x0 x1).2.1, (fX6_ticketOf g q x0 x1).2.2.1, (fX6_ticketOf g q x0 x1).2.2.2))) 2 12 (sy_A Z) := by
  refine va_MetW (cc := cL_ticketOf) (maxL := 4) (ret := some .long) (by decide) rfl ?_
  intro p e s m args below meth c s₁ B hml hv
  obtain ⟨rfl, ⟨hE, hP⟩, hNc⟩ := hv
  have hx := B.exec
  have hb := B.bytes
  have hr := B.returns
  have hts := atoms_spec (ws := uW (.codeWith yL_ticketOf cL_ticketOf 4 (some .long) [(0, 7, 8, 15), (0, 7, 13, 19)])) B.pre
  have hown : s.vm.findClass RL = some m.cls := findClass_of_methodNamed B.named
  have hlocks := B.notSynchronized
  have htab := vx_table (x := yL_ticketOf) B (hts _ List.mem_cons_self)
  have hS : va_S (sy_A Z) s.heap s.heap [] := va_S.rf
  have hl := lv_entry ([.ref (ad 60), .int x0, .int x1]) (n := 4) (Nat.le_of_ble_eq_true rfl)
  rw [lg_entry_eq]
  generalize (lg_sl ([.ref (ad 60), .int x0, .int x1]) ++ List.replicate (4 - (lg_sl ([.ref (ad 60), .int x0, .int x1])).length) Slot.unset).toArray = ls at hl ⊢
  have hl : lv_has ls 4 [(0, .ref (ad 60)), (1, .int x0), (2, .int x1)] := hl
  refine lv_aload_n hx hb dL_ticketOf_0 rfl (lv_at hl 0 rfl) ?_
  refine lv_iload_n hx hb dL_ticketOf_1 rfl (lv_at hl 1 rfl) ?_
  refine lv_iload_n hx hb dL_ticketOf_2 rfl (lv_at hl 2 rfl) ?_
  refine vx_calli (sy_xV (o := 60) (As := [.int x0, .int x1]) (rest := []) ⟨hx, hb, hml, hown, hts⟩ hE hP hS (mX6_ticketOf l hfl Z nT nK cT cK ad g q x0 x1 (by have := ci_T hI; omega) (ci_IG hI) (ci_IQ hI)) (cwV 2 hts (gu_V uk_4_56 uk_4_57 uk_4_58 uk_1_1 uk_4_59) rfl rfl rfl (by decide +kernel) ⟨Nat.le_of_ble_eq_true rfl, Nat.le_of_ble_eq_true rfl⟩) (sy_recv (kc := 7) hE hP rfl (by decide) rfl rfl rfl) rfl hl.1 rfl (Nat.le_of_ble_eq_true rfl) dL_ticketOf_3 ⟨Nat.le_of_ble_eq_true rfl, Nat.le_of_ble_eq_true rfl⟩) hS (fun _ _ h => h) (fun _ h => h) (fun _ _ h => h) (fun E ce q9 u t H locs ht _ hpu hB _ _ hS hcell hv hcl => ?_) (fun r u t H locs ht _ hp hB _ _ hS => ?_)
  · obtain ⟨rfl, -, hB⟩ := hB
    rw [ht] at hB
    have hC9 : wf 1 2 9 (fX6_ticketOf g q x0 x1).1 ≠ 9 := h6_ticketOf
    rw [← hpu] at hC9
    rcases exc_c hC9 with ⟨rfl, hc, h9⟩ | ⟨rfl, hc, h9⟩ | ⟨rfl, hc, h9⟩
    · refine vx_catch (own := RL) (name := "java/lang/IndexOutOfBoundsException") hown ([] : List ExceptionTableEntry) (⟨0, 7, 8, 15⟩ : ExceptionTableEntry) [⟨0, 7, 13, 19⟩] (htab.trans rfl) (fun z hz => nomatch hz) rfl (by decide) (hts _ (u_in uk_1_195)) (va_Nw.use rfl (hE.2.2.2.2.2 _ un_1_207)) hcell hv hcl ?_
      refine lv_astore_n (lv' := [(3, .ref q9), (0, .ref (ad 60)), (1, .int x0), (2, .int x1)]) hx hb dL_ticketOf_8 rfl hl (by decide) rfl (fun ls hl => ?_)
      refine lv_ldc2 (v := (-9000000000000000001)) hx hb hown (hts _ (u_in uk_2_181)) dL_ticketOf_9 ?_
      have hcode : (fX6_ticketOf g q x0 x1).1 = 1 := hpu.symm.trans hc
      exact sy_lret hx hb hr hlocks hE hB hS dL_ticketOf_12 ⟨Nat.le_of_ble_eq_true rfl, Nat.le_of_ble_eq_true rfl⟩ (post_no n6_ticketOf hcode (by decide) rfl)
    · refine vx_catch (own := RL) (name := "java/lang/IllegalArgumentException") hown ([⟨0, 7, 8, 15⟩] : List ExceptionTableEntry) (⟨0, 7, 13, 19⟩ : ExceptionTableEntry) [] (htab.trans rfl) (fun z hz => by
            rcases List.mem_cons.mp hz with rfl | hz
            · exact Or.inr ⟨by decide, "java/lang/IndexOutOfBoundsException", hts _ (u_in uk_1_195), hNc.1⟩
            · cases hz) rfl (by decide) (hts _ (u_in uk_1_196)) (va_Nw.use rfl (hE.2.2.2.2.2 _ un_2_33)) hcell hv hcl ?_
      refine lv_astore_n (lv' := [(3, .ref q9), (0, .ref (ad 60)), (1, .int x0), (2, .int x1)]) hx hb dL_ticketOf_13 rfl hl (by decide) rfl (fun ls hl => ?_)
      refine lv_ldc2 (v := (-9000000000000000002)) hx hb hown (hts _ (u_in uk_2_182)) dL_ticketOf_14 ?_
      have hcode : (fX6_ticketOf g q x0 x1).1 = 2 := hpu.symm.trans hc
      exact sy_lret hx hb hr hlocks hE hB hS dL_ticketOf_17 ⟨Nat.le_of_ble_eq_true rfl, Nat.le_of_ble_eq_true rfl⟩ (post_no n6_ticketOf hcode (by decide) rfl)
    · exact absurd rfl h9
  · skip
    obtain ⟨g1, q1⟩ := u
    have hP := hB.2
    rw [ht] at hP
    dsimp only at hp hP
    refine lv_i2l hx hb dL_ticketOf_6 rfl ?_
    exact sy_lret hx hb hr hlocks hE hP hS dL_ticketOf_7 ⟨Nat.le_of_ble_eq_true rfl, Nat.le_of_ble_eq_true rfl⟩ (post_yes hp)
set_option maxHeartbeats 4000000 in
set_option maxRecDepth 100000 in
theorem mL_interestAnew (l : Launch) (hfl : l.stackTraces = false) (Z : sZ) (nT nK cT cK : Nat) (ad : Nat → Nat) (g : sG) (q : sQ) (x0 : Int32) {n : Nat} (hI : CI n nT nK cT cK g q) : Met l yL_interestAnew (uW (.codeWith yL_interestAnew cL_interestAnew 3 (some .long) [(0, 6, 7, 15)])) { frames := 9, cells := 1, slots := 6, locals := 145 } (va_Pc [.ref (ad 60), .int x0] (sPreL Z nT nK cT cK ad g q)) (sQl Z nT nK cT cK ad (fun r g1 q1 => (r, g1, q1) = (wl (fX6_interestAnew g q x0).1 (fX6_interestAnew g q x0).2.1, (fX6_interestAnew g q x0).2.2.1, (fX6_interestAnew g q x0).2.2.2))) 1 6 (sy_A Z) := by
  refine va_MetW (cc := cL_interestAnew) (maxL := 3) (ret := some .long) (by decide) rfl ?_
  intro p e s m args below meth c s₁ B hml hv
  obtain ⟨rfl, ⟨hE, hP⟩, hNc⟩ := hv
  have hx := B.exec
  have hb := B.bytes
  have hr := B.returns
  have hts := atoms_spec (ws := uW (.codeWith yL_interestAnew cL_interestAnew 3 (some .long) [(0, 6, 7, 15)])) B.pre
  have hown : s.vm.findClass RL = some m.cls := findClass_of_methodNamed B.named
  have hlocks := B.notSynchronized
  have htab := vx_table (x := yL_interestAnew) B (hts _ List.mem_cons_self)
  have hS : va_S (sy_A Z) s.heap s.heap [] := va_S.rf
  have hl := lv_entry ([.ref (ad 60), .int x0]) (n := 3) (Nat.le_of_ble_eq_true rfl)
  rw [lg_entry_eq]
  generalize (lg_sl ([.ref (ad 60), .int x0]) ++ List.replicate (3 - (lg_sl ([.ref (ad 60), .int x0])).length) Slot.unset).toArray = ls at hl ⊢
  have hl : lv_has ls 3 [(0, .ref (ad 60)), (1, .int x0)] := hl
  refine lv_aload_n hx hb dL_interestAnew_0 rfl (lv_at hl 0 rfl) ?_
  refine lv_iload_n hx hb dL_interestAnew_1 rfl (lv_at hl 1 rfl) ?_
  refine vx_calli (sy_xV (o := 60) (As := [.int x0]) (rest := []) ⟨hx, hb, hml, hown, hts⟩ hE hP hS (mX6_interestAnew l hfl Z nT nK cT cK ad g q x0 (by have := ci_T hI; omega) (ci_IG hI) (ci_IQ hI)) (cwV 1 hts (gu_V uk_4_113 uk_4_114 uk_4_115 uk_1_1 uk_4_116) rfl rfl rfl (by decide +kernel) ⟨Nat.le_of_ble_eq_true rfl, Nat.le_of_ble_eq_true rfl⟩) (sy_recv (kc := 7) hE hP rfl (by decide) rfl rfl rfl) rfl hl.1 rfl (Nat.le_of_ble_eq_true rfl) dL_interestAnew_2 ⟨Nat.le_of_ble_eq_true rfl, Nat.le_of_ble_eq_true rfl⟩) hS (fun _ _ h => h) (fun _ h => h) (fun _ _ h => h) (fun E ce q9 u t H locs ht _ hpu hB _ _ hS hcell hv hcl => ?_) (fun r u t H locs ht _ hp hB _ _ hS => ?_)
  · obtain ⟨rfl, -, hB⟩ := hB
    rw [ht] at hB
    have hC9 : wf 1 9 9 (fX6_interestAnew g q x0).1 ≠ 9 := h6_interestAnew
    rw [← hpu] at hC9
    rcases exc_c hC9 with ⟨rfl, hc, h9⟩ | ⟨rfl, hc, h9⟩ | ⟨rfl, hc, h9⟩
    · refine vx_catch (own := RL) (name := "java/lang/IndexOutOfBoundsException") hown ([] : List ExceptionTableEntry) (⟨0, 6, 7, 15⟩ : ExceptionTableEntry) [] (htab.trans rfl) (fun z hz => nomatch hz) rfl (by decide) (hts _ (u_in uk_1_195)) (va_Nw.use rfl (hE.2.2.2.2.2 _ un_1_207)) hcell hv hcl ?_
      refine lv_astore_n (lv' := [(2, .ref q9), (0, .ref (ad 60)), (1, .int x0)]) hx hb dL_interestAnew_7 rfl hl (by decide) rfl (fun ls hl => ?_)
      refine lv_ldc2 (v := (-9000000000000000001)) hx hb hown (hts _ (u_in uk_2_181)) dL_interestAnew_8 ?_
      have hcode : (fX6_interestAnew g q x0).1 = 1 := hpu.symm.trans hc
      exact sy_lret hx hb hr hlocks hE hB hS dL_interestAnew_11 ⟨Nat.le_of_ble_eq_true rfl, Nat.le_of_ble_eq_true rfl⟩ (post_no n6_interestAnew hcode (by decide) rfl)
    · exact absurd rfl h9
    · exact absurd rfl h9
  · skip
    obtain ⟨g1, q1⟩ := u
    have hP := hB.2
    rw [ht] at hP
    dsimp only at hp hP
    refine lv_i2l hx hb dL_interestAnew_5 rfl ?_
    exact sy_lret hx hb hr hlocks hE hP hS dL_interestAnew_6 ⟨Nat.le_of_ble_eq_true rfl, Nat.le_of_ble_eq_true rfl⟩ (post_yes hp)
set_option maxHeartbeats 4000000 in
set_option maxRecDepth 100000 in
theorem mL_expertOf (l : Launch) (hfl : l.stackTraces = false) (Z : sZ) (nT nK cT cK : Nat) (ad : Nat → Nat) (g : sG) (q : sQ) (x0 x1 : Int32) {n : Nat} (hI : CI n nT nK cT cK g q) : Met l yL_expertOf (uW (.codeWith yL_expertOf cL_expertOf 4 (some .long) [(0, 7, 8, 15), (0, 7, 13, 19)])) { frames := 8, cells := 2, slots := 12, locals := 125 } (va_Pc [.ref (ad 60), .int x0, .int x1] (sPreL Z nT nK cT cK ad g q)) (sQl Z nT nK cT cK ad (fun r g1 q1 => (r, g1, q1) = (wl (fX6_expertOf g q x0 x1).1 (fX6_expertOf g q x0 x1).2.1, (fX6_expertOf g q x0 x1).2.2.1, (fX6_expertOf g q x0 x1).2.2.2))) 2 12 (sy_A Z) := by
  refine va_MetW (cc := cL_expertOf) (maxL := 4) (ret := some .long) (by decide) rfl ?_
  intro p e s m args below meth c s₁ B hml hv
  obtain ⟨rfl, ⟨hE, hP⟩, hNc⟩ := hv
  have hx := B.exec
  have hb := B.bytes
  have hr := B.returns
  have hts := atoms_spec (ws := uW (.codeWith yL_expertOf cL_expertOf 4 (some .long) [(0, 7, 8, 15), (0, 7, 13, 19)])) B.pre
  have hown : s.vm.findClass RL = some m.cls := findClass_of_methodNamed B.named
  have hlocks := B.notSynchronized
  have htab := vx_table (x := yL_expertOf) B (hts _ List.mem_cons_self)
  have hS : va_S (sy_A Z) s.heap s.heap [] := va_S.rf
  have hl := lv_entry ([.ref (ad 60), .int x0, .int x1]) (n := 4) (Nat.le_of_ble_eq_true rfl)
  rw [lg_entry_eq]
  generalize (lg_sl ([.ref (ad 60), .int x0, .int x1]) ++ List.replicate (4 - (lg_sl ([.ref (ad 60), .int x0, .int x1])).length) Slot.unset).toArray = ls at hl ⊢
  have hl : lv_has ls 4 [(0, .ref (ad 60)), (1, .int x0), (2, .int x1)] := hl
  refine lv_aload_n hx hb dL_expertOf_0 rfl (lv_at hl 0 rfl) ?_
  refine lv_iload_n hx hb dL_expertOf_1 rfl (lv_at hl 1 rfl) ?_
  refine lv_iload_n hx hb dL_expertOf_2 rfl (lv_at hl 2 rfl) ?_
  refine vx_calli (sy_xV (o := 60) (As := [.int x0, .int x1]) (rest := []) ⟨hx, hb, hml, hown, hts⟩ hE hP hS (mX6_expertOf l hfl Z nT nK cT cK ad g q x0 x1 (by have := ci_T hI; omega) (ci_IG hI) (ci_IQ hI)) (cwV 2 hts (gu_V uk_4_201 uk_4_202 uk_4_203 uk_1_1 uk_4_204) rfl rfl rfl (by decide +kernel) ⟨Nat.le_of_ble_eq_true rfl, Nat.le_of_ble_eq_true rfl⟩) (sy_recv (kc := 7) hE hP rfl (by decide) rfl rfl rfl) rfl hl.1 rfl (Nat.le_of_ble_eq_true rfl) dL_expertOf_3 ⟨Nat.le_of_ble_eq_true rfl, Nat.le_of_ble_eq_true rfl⟩) hS (fun _ _ h => h) (fun _ h => h) (fun _ _ h => h) (fun E ce q9 u t H locs ht _ hpu hB _ _ hS hcell hv hcl => ?_) (fun r u t H locs ht _ hp hB _ _ hS => ?_)
  · obtain ⟨rfl, -, hB⟩ := hB
    rw [ht] at hB
    have hC9 : wf 1 2 9 (fX6_expertOf g q x0 x1).1 ≠ 9 := h6_expertOf
    rw [← hpu] at hC9
    rcases exc_c hC9 with ⟨rfl, hc, h9⟩ | ⟨rfl, hc, h9⟩ | ⟨rfl, hc, h9⟩
    · refine vx_catch (own := RL) (name := "java/lang/IndexOutOfBoundsException") hown ([] : List ExceptionTableEntry) (⟨0, 7, 8, 15⟩ : ExceptionTableEntry) [⟨0, 7, 13, 19⟩] (htab.trans rfl) (fun z hz => nomatch hz) rfl (by decide) (hts _ (u_in uk_1_195)) (va_Nw.use rfl (hE.2.2.2.2.2 _ un_1_207)) hcell hv hcl ?_
      refine lv_astore_n (lv' := [(3, .ref q9), (0, .ref (ad 60)), (1, .int x0), (2, .int x1)]) hx hb dL_expertOf_8 rfl hl (by decide) rfl (fun ls hl => ?_)
      refine lv_ldc2 (v := (-9000000000000000001)) hx hb hown (hts _ (u_in uk_2_181)) dL_expertOf_9 ?_
      have hcode : (fX6_expertOf g q x0 x1).1 = 1 := hpu.symm.trans hc
      exact sy_lret hx hb hr hlocks hE hB hS dL_expertOf_12 ⟨Nat.le_of_ble_eq_true rfl, Nat.le_of_ble_eq_true rfl⟩ (post_no n6_expertOf hcode (by decide) rfl)
    · refine vx_catch (own := RL) (name := "java/lang/IllegalArgumentException") hown ([⟨0, 7, 8, 15⟩] : List ExceptionTableEntry) (⟨0, 7, 13, 19⟩ : ExceptionTableEntry) [] (htab.trans rfl) (fun z hz => by
            rcases List.mem_cons.mp hz with rfl | hz
            · exact Or.inr ⟨by decide, "java/lang/IndexOutOfBoundsException", hts _ (u_in uk_1_195), hNc.1⟩
            · cases hz) rfl (by decide) (hts _ (u_in uk_1_196)) (va_Nw.use rfl (hE.2.2.2.2.2 _ un_2_33)) hcell hv hcl ?_
      refine lv_astore_n (lv' := [(3, .ref q9), (0, .ref (ad 60)), (1, .int x0), (2, .int x1)]) hx hb dL_expertOf_13 rfl hl (by decide) rfl (fun ls hl => ?_)
      refine lv_ldc2 (v := (-9000000000000000002)) hx hb hown (hts _ (u_in uk_2_182)) dL_expertOf_14 ?_
      have hcode : (fX6_expertOf g q x0 x1).1 = 2 := hpu.symm.trans hc
      exact sy_lret hx hb hr hlocks hE hB hS dL_expertOf_17 ⟨Nat.le_of_ble_eq_true rfl, Nat.le_of_ble_eq_true rfl⟩ (post_no n6_expertOf hcode (by decide) rfl)
    · exact absurd rfl h9
  · skip
    obtain ⟨g1, q1⟩ := u
    have hP := hB.2
    rw [ht] at hP
    dsimp only at hp hP
    refine lv_i2l hx hb dL_expertOf_6 rfl ?_
    exact sy_lret hx hb hr hlocks hE hP hS dL_expertOf_7 ⟨Nat.le_of_ble_eq_true rfl, Nat.le_of_ble_eq_true rfl⟩ (post_yes hp)
set_option maxHeartbeats 4000000 in
set_option maxRecDepth 100000 in
theorem mL_bears (l : Launch) (hfl : l.stackTraces = false) (Z : sZ) (nT nK cT cK : Nat) (ad : Nat → Nat) (g : sG) (q : sQ) (x0 x1 : Int32) {n : Nat} (hI : CI n nT nK cT cK g q) : Met l yL_bears (uW (.codeWith yL_bears cL_bears 4 (some .long) [(0, 7, 8, 15)])) { frames := 8, cells := 2, slots := 12, locals := 124 } (va_Pc [.ref (ad 60), .int x0, .int x1] (sPreL Z nT nK cT cK ad g q)) (sQl Z nT nK cT cK ad (fun r g1 q1 => (r, g1, q1) = (wl (fX6_bears g q x0 x1).1 (fX6_bears g q x0 x1).2.1, (fX6_bears g q x0 x1).2.2.1, (fX6_bears g q x0 x1).2.2.2))) 2 12 (sy_A Z) := by
  refine va_MetW (cc := cL_bears) (maxL := 4) (ret := some .long) (by decide) rfl ?_
  intro p e s m args below meth c s₁ B hml hv
  obtain ⟨rfl, ⟨hE, hP⟩, hNc⟩ := hv
  have hx := B.exec
  have hb := B.bytes
  have hr := B.returns
  have hts := atoms_spec (ws := uW (.codeWith yL_bears cL_bears 4 (some .long) [(0, 7, 8, 15)])) B.pre
  have hown : s.vm.findClass RL = some m.cls := findClass_of_methodNamed B.named
  have hlocks := B.notSynchronized
  have htab := vx_table (x := yL_bears) B (hts _ List.mem_cons_self)
  have hS : va_S (sy_A Z) s.heap s.heap [] := va_S.rf
  have hl := lv_entry ([.ref (ad 60), .int x0, .int x1]) (n := 4) (Nat.le_of_ble_eq_true rfl)
  rw [lg_entry_eq]
  generalize (lg_sl ([.ref (ad 60), .int x0, .int x1]) ++ List.replicate (4 - (lg_sl ([.ref (ad 60), .int x0, .int x1])).length) Slot.unset).toArray = ls at hl ⊢
  have hl : lv_has ls 4 [(0, .ref (ad 60)), (1, .int x0), (2, .int x1)] := hl
  refine lv_aload_n hx hb dL_bears_0 rfl (lv_at hl 0 rfl) ?_
  refine lv_iload_n hx hb dL_bears_1 rfl (lv_at hl 1 rfl) ?_
  refine lv_iload_n hx hb dL_bears_2 rfl (lv_at hl 2 rfl) ?_
  refine vx_calli (sy_xV (o := 60) (As := [.int x0, .int x1]) (rest := []) ⟨hx, hb, hml, hown, hts⟩ hE hP hS (mX6_bears l hfl Z nT nK cT cK ad g q x0 x1 (by have := ci_T hI; omega) (ci_IG hI) (ci_IQ hI)) (cwV 2 hts (gu_V uk_4_103 uk_4_104 uk_4_105 uk_1_1 uk_4_106) rfl rfl rfl (by decide +kernel) ⟨Nat.le_of_ble_eq_true rfl, Nat.le_of_ble_eq_true rfl⟩) (sy_recv (kc := 7) hE hP rfl (by decide) rfl rfl rfl) rfl hl.1 rfl (Nat.le_of_ble_eq_true rfl) dL_bears_3 ⟨Nat.le_of_ble_eq_true rfl, Nat.le_of_ble_eq_true rfl⟩) hS (fun _ _ h => h) (fun _ h => h) (fun _ _ h => h) (fun E ce q9 u t H locs ht _ hpu hB _ _ hS hcell hv hcl => ?_) (fun r u t H locs ht _ hp hB _ _ hS => ?_)
  · obtain ⟨rfl, -, hB⟩ := hB
    rw [ht] at hB
    have hC9 : wf 1 9 9 (fX6_bears g q x0 x1).1 ≠ 9 := h6_bears
    rw [← hpu] at hC9
    rcases exc_c hC9 with ⟨rfl, hc, h9⟩ | ⟨rfl, hc, h9⟩ | ⟨rfl, hc, h9⟩
    · refine vx_catch (own := RL) (name := "java/lang/IndexOutOfBoundsException") hown ([] : List ExceptionTableEntry) (⟨0, 7, 8, 15⟩ : ExceptionTableEntry) [] (htab.trans rfl) (fun z hz => nomatch hz) rfl (by decide) (hts _ (u_in uk_1_195)) (va_Nw.use rfl (hE.2.2.2.2.2 _ un_1_207)) hcell hv hcl ?_
      refine lv_astore_n (lv' := [(3, .ref q9), (0, .ref (ad 60)), (1, .int x0), (2, .int x1)]) hx hb dL_bears_8 rfl hl (by decide) rfl (fun ls hl => ?_)
      refine lv_ldc2 (v := (-9000000000000000001)) hx hb hown (hts _ (u_in uk_2_181)) dL_bears_9 ?_
      have hcode : (fX6_bears g q x0 x1).1 = 1 := hpu.symm.trans hc
      exact sy_lret hx hb hr hlocks hE hB hS dL_bears_12 ⟨Nat.le_of_ble_eq_true rfl, Nat.le_of_ble_eq_true rfl⟩ (post_no n6_bears hcode (by decide) rfl)
    · exact absurd rfl h9
    · exact absurd rfl h9
  · skip
    obtain ⟨g1, q1⟩ := u
    have hP := hB.2
    rw [ht] at hP
    dsimp only at hp hP
    refine lv_i2l hx hb dL_bears_6 rfl ?_
    exact sy_lret hx hb hr hlocks hE hP hS dL_bears_7 ⟨Nat.le_of_ble_eq_true rfl, Nat.le_of_ble_eq_true rfl⟩ (post_yes hp)
set_option maxHeartbeats 4000000 in
set_option maxRecDepth 100000 in
theorem mL_money (l : Launch) (hfl : l.stackTraces = false) (Z : sZ) (nT nK cT cK : Nat) (ad : Nat → Nat) (g : sG) (q : sQ) (x0 : Int32) {n : Nat} (hI : CI n nT nK cT cK g q) : Met l yL_money (uW (.codeWith yL_money cL_money 3 (some .long) [(0, 6, 7, 19)])) { frames := 8, cells := 1, slots := 6, locals := 124 } (va_Pc [.ref (ad 60), .int x0] (sPreL Z nT nK cT cK ad g q)) (sQl Z nT nK cT cK ad (fun r g1 q1 => (r, g1, q1) = (wl (fX6_money g q x0).1 (fX6_money g q x0).2.1, (fX6_money g q x0).2.2.1, (fX6_money g q x0).2.2.2))) 1 6 (sy_A Z) := by
  refine va_MetW (cc := cL_money) (maxL := 3) (ret := some .long) (by decide) rfl ?_
  intro p e s m args below meth c s₁ B hml hv
  obtain ⟨rfl, ⟨hE, hP⟩, hNc⟩ := hv
  have hx := B.exec
  have hb := B.bytes
  have hr := B.returns
  have hts := atoms_spec (ws := uW (.codeWith yL_money cL_money 3 (some .long) [(0, 6, 7, 19)])) B.pre
  have hown : s.vm.findClass RL = some m.cls := findClass_of_methodNamed B.named
  have hlocks := B.notSynchronized
  have htab := vx_table (x := yL_money) B (hts _ List.mem_cons_self)
  have hS : va_S (sy_A Z) s.heap s.heap [] := va_S.rf
  have hl := lv_entry ([.ref (ad 60), .int x0]) (n := 3) (Nat.le_of_ble_eq_true rfl)
  rw [lg_entry_eq]
  generalize (lg_sl ([.ref (ad 60), .int x0]) ++ List.replicate (3 - (lg_sl ([.ref (ad 60), .int x0])).length) Slot.unset).toArray = ls at hl ⊢
  have hl : lv_has ls 3 [(0, .ref (ad 60)), (1, .int x0)] := hl
  refine lv_aload_n hx hb dL_money_0 rfl (lv_at hl 0 rfl) ?_
  refine lv_iload_n hx hb dL_money_1 rfl (lv_at hl 1 rfl) ?_
  refine vx_calli (sy_xV (o := 60) (As := [.int x0]) (rest := []) ⟨hx, hb, hml, hown, hts⟩ hE hP hS (mX6_money l hfl Z nT nK cT cK ad g q x0 (by have := ci_T hI; omega) (ci_IG hI) (ci_IQ hI)) (cwV 1 hts (gu_V uk_4_91 uk_4_92 uk_4_93 uk_1_1 uk_4_94) rfl rfl rfl (by decide +kernel) ⟨Nat.le_of_ble_eq_true rfl, Nat.le_of_ble_eq_true rfl⟩) (sy_recv (kc := 7) hE hP rfl (by decide) rfl rfl rfl) rfl hl.1 rfl (Nat.le_of_ble_eq_true rfl) dL_money_2 ⟨Nat.le_of_ble_eq_true rfl, Nat.le_of_ble_eq_true rfl⟩) hS (fun _ _ h => h) (fun _ h => h) (fun _ _ h => h) (fun E ce q9 u t H locs ht _ hpu hB _ _ hS hcell hv hcl => ?_) (fun r u t H locs ht _ hp hB _ _ hS => ?_)
  · obtain ⟨rfl, -, hB⟩ := hB
    rw [ht] at hB
    have hC9 : wf 9 2 9 (fX6_money g q x0).1 ≠ 9 := h6_money
    rw [← hpu] at hC9
    rcases exc_c hC9 with ⟨rfl, hc, h9⟩ | ⟨rfl, hc, h9⟩ | ⟨rfl, hc, h9⟩
    · exact absurd rfl h9
    · refine vx_catch (own := RL) (name := "java/lang/IllegalArgumentException") hown ([] : List ExceptionTableEntry) (⟨0, 6, 7, 19⟩ : ExceptionTableEntry) [] (htab.trans rfl) (fun z hz => nomatch hz) rfl (by decide) (hts _ (u_in uk_1_196)) (va_Nw.use rfl (hE.2.2.2.2.2 _ un_2_33)) hcell hv hcl ?_
      refine lv_astore_n (lv' := [(2, .ref q9), (0, .ref (ad 60)), (1, .int x0)]) hx hb dL_money_7 rfl hl (by decide) rfl (fun ls hl => ?_)
      refine lv_ldc2 (v := (-9000000000000000002)) hx hb hown (hts _ (u_in uk_2_182)) dL_money_8 ?_
      have hcode : (fX6_money g q x0).1 = 2 := hpu.symm.trans hc
      exact sy_lret hx hb hr hlocks hE hB hS dL_money_11 ⟨Nat.le_of_ble_eq_true rfl, Nat.le_of_ble_eq_true rfl⟩ (post_no n6_money hcode (by decide) rfl)
    · exact absurd rfl h9
  · skip
    obtain ⟨g1, q1⟩ := u
    have hP := hB.2
    rw [ht] at hP
    dsimp only at hp hP
    refine lv_i2l hx hb dL_money_5 rfl ?_
    exact sy_lret hx hb hr hlocks hE hP hS dL_money_6 ⟨Nat.le_of_ble_eq_true rfl, Nat.le_of_ble_eq_true rfl⟩ (post_yes hp)
