theorem kAi {D : va_G} {cl : List vw_C} {cy : Nat → ClassId} {s : State} {cA : ClassId} (h : va_K D cl (sy_tys cy ++ [(cA, .int)]) s) : cA = cy 0 := Option.some.inj ((h.2 6 _ rfl).2.symm.trans (h.2 0 _ rfl).2)
set_option maxHeartbeats 4000000 in
set_option maxRecDepth 100000 in
theorem kX5_init (l : Launch) (Z : sZ) (a sz : Nat) : Met l yX5_init (uW (.code yX5_init cX5_init 1 none)) { frames := 1, cells := 1, slots := 600, locals := 30 } (va_Pc [.ref a] (fun U => U.heap.size = sz ∧ va_K Z.1 vwCl (sy_tys Z.2.1) U ∧ va_P Z.1 vwCl [(a, .inr (6, [.int 0, .int 0, .int 0, .null, .int 0]))] U.heap ∧ va_D (fun _ => True) [(a, .inr (6, [.int 0, .int 0, .int 0, .null, .int 0]))])) (va_Qv (fun _ : Nat => True) (fun b t => va_P Z.1 vwCl [(a, .inr (6, [.int 0, .int 0, .int 0, .ref b, .int 0])), (b, .inl (Z.2.1 0, 600, .inl (fun _ => 0)))] t.heap ∧ va_D (va_A [(a, .inr (6, [.int 0, .int 0, .int 0, .null, .int 0]))] sz) [(a, .inr (6, [.int 0, .int 0, .int 0, .ref b, .int 0])), (b, .inl (Z.2.1 0, 600, .inl (fun _ => 0)))]) (va_A [(a, .inr (6, [.int 0, .int 0, .int 0, .null, .int 0]))] sz)) 1 600 (va_A [(a, .inr (6, [.int 0, .int 0, .int 0, .null, .int 0]))] sz) := by
  refine Met.ofW (cc := cX5_init) (maxL := 1) (ret := none) (by decide) rfl ?_
  intro p e s m args below meth c s₁ B hml hv
  obtain ⟨rfl, hsz, hK, hP, hD0⟩ := hv
  have hx := B.exec
  have hb := B.bytes
  have hr := B.returns
  have hts := atoms_spec (ws := uW (.code yX5_init cX5_init 1 none)) B.pre
  have hown : s.vm.findClass RX5 = some m.cls := findClass_of_methodNamed B.named
  have hlocks := B.notSynchronized
  have hin : meth.name = "<init>" := (name_of_methodNamed B.named B.method).1
  subst hsz
  have hD := hD0.self (sz := s.heap.size)
  generalize hAe : va_A [(a, .inr (6, [.int 0, .int 0, .int 0, .null, .int 0]))] s.heap.size = A at hD ⊢
  have hA : ∀ q : Nat, s.heap.size ≤ q → A q := fun q h => by rw [← hAe]; exact Or.inr h
  have hS : va_S A s.heap s.heap [] := va_S.rf
  have hl := lv_entry ([.ref a]) (n := 1) (Nat.le_of_ble_eq_true rfl)
  rw [lg_entry_eq]
  generalize (lg_sl ([.ref a]) ++ List.replicate (1 - (lg_sl ([.ref a])).length) Slot.unset).toArray = ls at hl ⊢
  have hl : lv_has ls 1 [(0, .ref a)] := hl
  refine lv_aload_n hx hb dX5_init_0 rfl (lv_at hl 0 rfl) ?_
  refine W.objInit hx hb hown (hts _ (u_in uk_1_132)) (hts _ (u_in uk_1_29)) (hts _ (u_in uk_1_30)) rfl (by rw [hml]; exact hl.1) rfl dX5_init_1 (Nat.le_of_ble_eq_true rfl) (Nat.le_of_ble_eq_true rfl) ?_
  refine lv_aload_n hx hb dX5_init_4 rfl (lv_at hl 0 rfl) ?_
  refine lv_iconst (v := 0) hx hb dX5_init_5 (by decide) ?_
  refine va_put (ci := 6) (v := .int 0) (ty := .int) hx hb hts (uin_all uin_RX5) tyX5 tyX5_ok nmX5 hown hK hP hD hS 0 rfl rfl 0 (by decide) (hts _ (u_in uk_1_133)) (fun _ h9 => h9) rfl (by decide +kernel) rfl rfl (Nat.le_of_ble_eq_true rfl) dX5_init_6 (fun H locs hP hD hS => ?_)
  refine lv_aload_n hx hb dX5_init_9 rfl (lv_at hl 0 rfl) ?_
  refine lv_iconst (v := 0) hx hb dX5_init_10 (by decide) ?_
  refine va_put (ci := 6) (v := .int 0) (ty := .int) hx hb hts (uin_all uin_RX5) tyX5 tyX5_ok nmX5 hown hK hP hD hS 0 rfl rfl 1 (by decide) (hts _ (u_in uk_1_135)) (fun _ h9 => h9) rfl (by decide +kernel) rfl rfl (Nat.le_of_ble_eq_true rfl) dX5_init_11 (fun H locs hP hD hS => ?_)
  refine lv_aload_n hx hb dX5_init_14 rfl (lv_at hl 0 rfl) ?_
  refine lv_iconst (v := 0) hx hb dX5_init_15 (by decide) ?_
  refine va_put (ci := 6) (v := .int 0) (ty := .int) hx hb hts (uin_all uin_RX5) tyX5 tyX5_ok nmX5 hown hK hP hD hS 0 rfl rfl 2 (by decide) (hts _ (u_in uk_1_137)) (fun _ h9 => h9) rfl (by decide +kernel) rfl rfl (Nat.le_of_ble_eq_true rfl) dX5_init_16 (fun H locs hP hD hS => ?_)
  refine lv_aload_n hx hb dX5_init_19 rfl (lv_at hl 0 rfl) ?_
  refine lv_sipush (v := 600) hx hb dX5_init_20 (by decide) ?_
  refine va_newa (atype := .int) (a0 := (600, .inl (fun _ => 0))) (ty := .int) hx hb (hts _ (u_in uk_1_77)) rfl hK hP hD hS hA (fun _ => rfl) (by decide) (by decide) (by decide) (Nat.le_of_ble_eq_true rfl) (Nat.le_of_ble_eq_true rfl) dX5_init_23 (fun b1 cA H hK9 hP hD hS => ?_)
  obtain rfl : cA = Z.2.1 0 := kAi hK9
  refine va_putF (ci := 6) (v := .ref b1) (ty := .array .int) hx hb hts (uin_all uin_RX5) tyX5 tyX5_ok nmX5 hown hK hP hD hS 0 rfl rfl 3 (by decide) (hts _ (u_in uk_1_139)) (fun _ h9 => h9) rfl hin rfl (by decide +kernel) rfl rfl (Nat.le_of_ble_eq_true rfl) dX5_init_25 (fun H locs hP hD hS => ?_)
  refine lv_aload_n hx hb dX5_init_28 rfl (lv_at hl 0 rfl) ?_
  refine lv_iconst (v := 0) hx hb dX5_init_29 (by decide) ?_
  refine va_put (ci := 6) (v := .int 0) (ty := .int) hx hb hts (uin_all uin_RX5) tyX5 tyX5_ok nmX5 hown hK hP hD hS 0 rfl rfl 4 (by decide) (hts _ (u_in uk_1_140)) (fun _ h9 => h9) rfl (by decide +kernel) rfl rfl (Nat.le_of_ble_eq_true rfl) dX5_init_30 (fun H locs hP hD hS => ?_)
  exact W.widen (Nat.le_of_ble_eq_true rfl) (Nat.le_of_ble_eq_true rfl) (W.vret hx hb hr (fun t ht hW => ⟨⟨(b1), rfl, trivial, by rw [ht]; exact hP, hD⟩, hS.F ht⟩) hS.2.2 dX5_init_33 hlocks)
set_option maxHeartbeats 4000000 in
set_option maxRecDepth 100000 in
theorem kX2_init (l : Launch) (Z : sZ) (a sz : Nat) : Met l yX2_init (uW (.code yX2_init cX2_init 1 none)) { frames := 1, cells := 5, slots := 110, locals := 30 } (va_Pc [.ref a] (fun U => U.heap.size = sz ∧ va_K Z.1 vwCl (sy_tys Z.2.1) U ∧ va_P Z.1 vwCl [(a, .inr (3, [.null, .null, .null, .int 0, .null, .null, .int 0]))] U.heap ∧ va_D (fun _ => True) [(a, .inr (3, [.null, .null, .null, .int 0, .null, .null, .int 0]))])) (va_Qv (fun _ : Nat × Nat × Nat × Nat × Nat => True) (fun b t => va_P Z.1 vwCl [(a, .inr (3, [.ref b.1, .ref b.2.1, .ref b.2.2.1, .int 0, .ref b.2.2.2.1, .ref b.2.2.2.2, .int 0])), (b.1, .inl (Z.2.1 0, 30, .inl (fun _ => 0))), (b.2.1, .inl (Z.2.1 0, 30, .inl (fun _ => 0))), (b.2.2.1, .inl (Z.2.1 0, 30, .inl (fun _ => 0))), (b.2.2.2.1, .inl (Z.2.1 0, 10, .inl (fun _ => 0))), (b.2.2.2.2, .inl (Z.2.1 0, 10, .inl (fun _ => 0)))] t.heap ∧ va_D (va_A [(a, .inr (3, [.null, .null, .null, .int 0, .null, .null, .int 0]))] sz) [(a, .inr (3, [.ref b.1, .ref b.2.1, .ref b.2.2.1, .int 0, .ref b.2.2.2.1, .ref b.2.2.2.2, .int 0])), (b.1, .inl (Z.2.1 0, 30, .inl (fun _ => 0))), (b.2.1, .inl (Z.2.1 0, 30, .inl (fun _ => 0))), (b.2.2.1, .inl (Z.2.1 0, 30, .inl (fun _ => 0))), (b.2.2.2.1, .inl (Z.2.1 0, 10, .inl (fun _ => 0))), (b.2.2.2.2, .inl (Z.2.1 0, 10, .inl (fun _ => 0)))]) (va_A [(a, .inr (3, [.null, .null, .null, .int 0, .null, .null, .int 0]))] sz)) 5 110 (va_A [(a, .inr (3, [.null, .null, .null, .int 0, .null, .null, .int 0]))] sz) := by
  refine Met.ofW (cc := cX2_init) (maxL := 1) (ret := none) (by decide) rfl ?_
  intro p e s m args below meth c s₁ B hml hv
  obtain ⟨rfl, hsz, hK, hP, hD0⟩ := hv
  have hx := B.exec
  have hb := B.bytes
  have hr := B.returns
  have hts := atoms_spec (ws := uW (.code yX2_init cX2_init 1 none)) B.pre
  have hown : s.vm.findClass RX2 = some m.cls := findClass_of_methodNamed B.named
  have hlocks := B.notSynchronized
  have hin : meth.name = "<init>" := (name_of_methodNamed B.named B.method).1
  subst hsz
  have hD := hD0.self (sz := s.heap.size)
  generalize hAe : va_A [(a, .inr (3, [.null, .null, .null, .int 0, .null, .null, .int 0]))] s.heap.size = A at hD ⊢
  have hA : ∀ q : Nat, s.heap.size ≤ q → A q := fun q h => by rw [← hAe]; exact Or.inr h
  have hS : va_S A s.heap s.heap [] := va_S.rf
  have hl := lv_entry ([.ref a]) (n := 1) (Nat.le_of_ble_eq_true rfl)
  rw [lg_entry_eq]
  generalize (lg_sl ([.ref a]) ++ List.replicate (1 - (lg_sl ([.ref a])).length) Slot.unset).toArray = ls at hl ⊢
  have hl : lv_has ls 1 [(0, .ref a)] := hl
  refine lv_aload_n hx hb dX2_init_0 rfl (lv_at hl 0 rfl) ?_
  refine W.objInit hx hb hown (hts _ (u_in uk_1_103)) (hts _ (u_in uk_1_29)) (hts _ (u_in uk_1_30)) rfl (by rw [hml]; exact hl.1) rfl dX2_init_1 (Nat.le_of_ble_eq_true rfl) (Nat.le_of_ble_eq_true rfl) ?_
  refine lv_aload_n hx hb dX2_init_4 rfl (lv_at hl 0 rfl) ?_
  refine lv_bipush (v := 30) hx hb dX2_init_5 (by decide) ?_
  refine va_newa (atype := .int) (a0 := (30, .inl (fun _ => 0))) (ty := .int) hx hb (hts _ (u_in uk_1_77)) rfl hK hP hD hS hA (fun _ => rfl) (by decide) (by decide) (by decide) (Nat.le_of_ble_eq_true rfl) (Nat.le_of_ble_eq_true rfl) dX2_init_7 (fun b1 cA H hK9 hP hD hS => ?_)
  obtain rfl : cA = Z.2.1 0 := kAi hK9
  refine va_putF (ci := 3) (v := .ref b1) (ty := .array .int) hx hb hts (uin_all uin_RX2) tyX2 tyX2_ok nmX2 hown hK hP hD hS 0 rfl rfl 0 (by decide) (hts _ (u_in uk_1_104)) (fun _ h9 => h9) rfl hin rfl (by decide +kernel) rfl rfl (Nat.le_of_ble_eq_true rfl) dX2_init_9 (fun H locs hP hD hS => ?_)
  refine lv_aload_n hx hb dX2_init_12 rfl (lv_at hl 0 rfl) ?_
  refine lv_bipush (v := 30) hx hb dX2_init_13 (by decide) ?_
  refine va_newa (atype := .int) (a0 := (30, .inl (fun _ => 0))) (ty := .int) hx hb (hts _ (u_in uk_1_77)) rfl hK hP hD hS hA (fun _ => rfl) (by decide) (by decide) (by decide) (Nat.le_of_ble_eq_true rfl) (Nat.le_of_ble_eq_true rfl) dX2_init_15 (fun b2 cA H hK9 hP hD hS => ?_)
  obtain rfl : cA = Z.2.1 0 := kAi hK9
  refine va_putF (ci := 3) (v := .ref b2) (ty := .array .int) hx hb hts (uin_all uin_RX2) tyX2 tyX2_ok nmX2 hown hK hP hD hS 0 rfl rfl 1 (by decide) (hts _ (u_in uk_1_105)) (fun _ h9 => h9) rfl hin rfl (by decide +kernel) rfl rfl (Nat.le_of_ble_eq_true rfl) dX2_init_17 (fun H locs hP hD hS => ?_)
  refine lv_aload_n hx hb dX2_init_20 rfl (lv_at hl 0 rfl) ?_
  refine lv_bipush (v := 30) hx hb dX2_init_21 (by decide) ?_
  refine va_newa (atype := .int) (a0 := (30, .inl (fun _ => 0))) (ty := .int) hx hb (hts _ (u_in uk_1_77)) rfl hK hP hD hS hA (fun _ => rfl) (by decide) (by decide) (by decide) (Nat.le_of_ble_eq_true rfl) (Nat.le_of_ble_eq_true rfl) dX2_init_23 (fun b3 cA H hK9 hP hD hS => ?_)
  obtain rfl : cA = Z.2.1 0 := kAi hK9
  refine va_putF (ci := 3) (v := .ref b3) (ty := .array .int) hx hb hts (uin_all uin_RX2) tyX2 tyX2_ok nmX2 hown hK hP hD hS 0 rfl rfl 2 (by decide) (hts _ (u_in uk_1_106)) (fun _ h9 => h9) rfl hin rfl (by decide +kernel) rfl rfl (Nat.le_of_ble_eq_true rfl) dX2_init_25 (fun H locs hP hD hS => ?_)
  refine lv_aload_n hx hb dX2_init_28 rfl (lv_at hl 0 rfl) ?_
  refine lv_iconst (v := 0) hx hb dX2_init_29 (by decide) ?_
  refine va_put (ci := 3) (v := .int 0) (ty := .int) hx hb hts (uin_all uin_RX2) tyX2 tyX2_ok nmX2 hown hK hP hD hS 0 rfl rfl 3 (by decide) (hts _ (u_in uk_1_107)) (fun _ h9 => h9) rfl (by decide +kernel) rfl rfl (Nat.le_of_ble_eq_true rfl) dX2_init_30 (fun H locs hP hD hS => ?_)
  refine lv_aload_n hx hb dX2_init_33 rfl (lv_at hl 0 rfl) ?_
  refine lv_bipush (v := 10) hx hb dX2_init_34 (by decide) ?_
  refine va_newa (atype := .int) (a0 := (10, .inl (fun _ => 0))) (ty := .int) hx hb (hts _ (u_in uk_1_77)) rfl hK hP hD hS hA (fun _ => rfl) (by decide) (by decide) (by decide) (Nat.le_of_ble_eq_true rfl) (Nat.le_of_ble_eq_true rfl) dX2_init_36 (fun b4 cA H hK9 hP hD hS => ?_)
  obtain rfl : cA = Z.2.1 0 := kAi hK9
  refine va_putF (ci := 3) (v := .ref b4) (ty := .array .int) hx hb hts (uin_all uin_RX2) tyX2 tyX2_ok nmX2 hown hK hP hD hS 0 rfl rfl 4 (by decide) (hts _ (u_in uk_1_108)) (fun _ h9 => h9) rfl hin rfl (by decide +kernel) rfl rfl (Nat.le_of_ble_eq_true rfl) dX2_init_38 (fun H locs hP hD hS => ?_)
  refine lv_aload_n hx hb dX2_init_41 rfl (lv_at hl 0 rfl) ?_
  refine lv_bipush (v := 10) hx hb dX2_init_42 (by decide) ?_
  refine va_newa (atype := .int) (a0 := (10, .inl (fun _ => 0))) (ty := .int) hx hb (hts _ (u_in uk_1_77)) rfl hK hP hD hS hA (fun _ => rfl) (by decide) (by decide) (by decide) (Nat.le_of_ble_eq_true rfl) (Nat.le_of_ble_eq_true rfl) dX2_init_44 (fun b5 cA H hK9 hP hD hS => ?_)
  obtain rfl : cA = Z.2.1 0 := kAi hK9
  refine va_putF (ci := 3) (v := .ref b5) (ty := .array .int) hx hb hts (uin_all uin_RX2) tyX2 tyX2_ok nmX2 hown hK hP hD hS 0 rfl rfl 5 (by decide) (hts _ (u_in uk_1_109)) (fun _ h9 => h9) rfl hin rfl (by decide +kernel) rfl rfl (Nat.le_of_ble_eq_true rfl) dX2_init_46 (fun H locs hP hD hS => ?_)
  refine lv_aload_n hx hb dX2_init_49 rfl (lv_at hl 0 rfl) ?_
  refine lv_iconst (v := 0) hx hb dX2_init_50 (by decide) ?_
  refine va_put (ci := 3) (v := .int 0) (ty := .int) hx hb hts (uin_all uin_RX2) tyX2 tyX2_ok nmX2 hown hK hP hD hS 0 rfl rfl 6 (by decide) (hts _ (u_in uk_1_110)) (fun _ h9 => h9) rfl (by decide +kernel) rfl rfl (Nat.le_of_ble_eq_true rfl) dX2_init_51 (fun H locs hP hD hS => ?_)
  exact W.widen (Nat.le_of_ble_eq_true rfl) (Nat.le_of_ble_eq_true rfl) (W.vret hx hb hr (fun t ht hW => ⟨⟨(b1, b2, b3, b4, b5), rfl, trivial, by rw [ht]; exact hP, hD⟩, hS.F ht⟩) hS.2.2 dX2_init_54 hlocks)
