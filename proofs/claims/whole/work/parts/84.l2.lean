theorem gl_S {c1 : Cond} {own : String} {idx : Nat} {y : MethodName} (h1 : Cond.methodLink own idx y ∈ wsU) (h2 : Cond.static y ∈ wsU) (h4 : Cond.initialized y.cls ∈ wsU) (h5 : c1 ∈ wsU) : GoodIn lw_tbl (va_wsS own idx y (uW c1)) :=
  gl_app (List.forall_mem_cons.mpr ⟨h1, List.forall_mem_cons.mpr ⟨h2, List.forall_mem_cons.mpr ⟨h4, fun _ h => absurd h List.not_mem_nil⟩⟩⟩) h5
theorem gl_V {c1 : Cond} {own C : String} {idx : Nat} {y : MethodName} (h1 : Cond.methodLink own idx y ∈ wsU) (h2 : Cond.instanceMethod y ∈ wsU) (h3 : Cond.selects C y y ∈ wsU) (h4 : Cond.initialized C ∈ wsU) (h5 : c1 ∈ wsU) : GoodIn lw_tbl (wsV own idx C y (uW c1)) :=
  gl_app (List.forall_mem_cons.mpr ⟨h1, List.forall_mem_cons.mpr ⟨h2, List.forall_mem_cons.mpr ⟨h3, List.forall_mem_cons.mpr ⟨h4, fun _ h => absurd h List.not_mem_nil⟩⟩⟩⟩) h5
theorem wf_ne {a b c x : Int32} (h0 : x ≠ 0) (h9 : wf a b c x ≠ 9) : wf a b c x ≠ 0 ∨ (a = 0 ∨ b = 0 ∨ c = 0) := by
  by_cases z : wf a b c x = 0
  · right
    unfold wf at z h9
    rw [if_neg h0] at z h9
    by_cases h1 : x = 1
    · rw [if_pos h1] at z; exact Or.inl z
    · rw [if_neg h1] at z h9
      by_cases h2 : x = 2
      · rw [if_pos h2] at z; exact Or.inr (Or.inl z)
      · rw [if_neg h2] at z h9
        by_cases h3 : x = 3
        · rw [if_pos h3] at z; exact Or.inr (Or.inr z)
        · rw [if_neg h3] at z; exact absurd z (by decide)
  · exact Or.inl z
/-- what stands for the law's whole run -/
def lCtx (p : Program) (l : Launch) (s : State) (m : MethodId) (meth : Method) (c : Code) (b L : Nat) (xs : Nat → Int32) (Z : sZ) : Prop := p.tables.exec = Jvm.exec ∧ c.code = cL_law ∧ meth.sig.returnType = ret ∧ c.maxLocals = 7 ∧ s.vm.findClass RL = some m.cls ∧ (∀ w ∈ lw_tbl, w.before #[Value.ref b] s = true) ∧ va_X b L xs s s.heap ∧ b < s.heap.size ∧ meth.locks = false ∧ Z.2.2.1 = s.heap.size ∧ sEnv Z s ∧ sNc s ∧ l.stackTraces = false
/-- the state ahead of the k-th call; n: the calls that have been made -/
def lSt (Z : sZ) (s : State) (b k n nT nK cT cK : Nat) (ad : Nat → Nat) (g : sG) (q : sQ) (H : Heap) (locs : List Loc) (ls : Array Slot) : Prop := Sy Z nT nK cT cK ad g q H ∧ INV (n * oB) 40 40 nT nK cT cK g q g ∧ (cT = 0 → ad 70 = Z.2.2.2) ∧ (cK = 0 → ad 71 = Z.2.2.2) ∧ va_S (sy_A Z) s.heap H locs ∧ lv_has ls 7 [(4, .int (nI (7 * k))), (0, .ref b), (1, .ref (ad 60)), (2, .ref (ad 0)), (3, .ref (ad 90))]
section LWC
variable {p : Program} {l : Launch} {e : Env} {s : State} {m : MethodId} {below : List Frame} {meth : Method} {c : Code} {b L : Nat} {xs : Nat → Int32} {Z : sZ}
set_option maxHeartbeats 8000000 in
set_option maxRecDepth 100000 in
theorem lc_fashion (hC : lCtx p l s m meth c b L xs Z) {k : Nat} (hk : 7 * k + 7 ≤ L) (hL : L ≤ 3584) (hJ : ∀ (nT nK cT cK : Nat) (ad : Nat → Nat) (g : sG) (q : sQ) (H : Heap) (locs : List Loc) (ls : Array Slot), lSt Z s b k (k + 1) nT nK cT cK ad g q H locs ls → W p l e room_1 s m #[Value.ref b] below meth c H locs (100 + 16 * (k + 1)) (4000 + 200 * (k + 1)) (lw_Z below #[Value.ref b] s) (F0 m 2272 ls []))
    {nT nK cT cK : Nat} {ad : Nat → Nat} {g : sG} {q : sQ} {H : Heap} {locs : List Loc} {ls : Array Slot} (h : lSt Z s b k k nT nK cT cK ad g q H locs ls) : W p l e room_1 s m #[Value.ref b] below meth c H locs (100 + 16 * k) (4000 + 200 * k) (lw_Z below #[Value.ref b] s) (F0 m 268 ls []) := by
  obtain ⟨hx, hb, hr, hml, hown, hts, hX, hbl, hlocks, hZ, hE, hNc, hfl⟩ := hC
  obtain ⟨hP, hI, h70, h71, hS, hl⟩ := h
  have hbA : ¬ sy_A Z b := fun z => absurd (show Z.2.2.1 ≤ b from z) (by omega)
  have hkB : k * oB ≤ 2048000000 := by
    have : k ≤ 511 := by omega
    calc k * oB ≤ 511 * 4000000 := Nat.mul_le_mul this (Nat.le_refl _)
      _ ≤ 2048000000 := by decide
  refine lv_aload_n hx hb dL_law_268 rfl (lv_at hl 2 rfl) ?_
  refine lv_aload_n hx hb dL_law_269 rfl (lv_at hl 1 rfl) ?_
  refine lv_iload hx hb dL_law_270 (lv_at hl 0 rfl) ?_
  refine lv_iconst (v := 1) hx hb dL_law_272 (by decide) ?_
  refine lv_iadd hx hb dL_law_273 ?_
  refine sy_top (y := nI (7 * k + 1)) (nI_add _ _) ?_
  refine va_sld hx hb hX hbl hbA hS (vp_in_nI (show 7 * k + 1 < L by omega) (by omega)) dL_law_274 ?_
  refine sy_top (y := xs (7 * k + 1)) (by rw [nI_clamp (by omega)]) ?_
  refine lv_aload_n hx hb dL_law_275 rfl (lv_at hl 1 rfl) ?_
  refine lv_iload hx hb dL_law_276 (lv_at hl 0 rfl) ?_
  refine lv_iconst (v := 2) hx hb dL_law_278 (by decide) ?_
  refine lv_iadd hx hb dL_law_279 ?_
  refine sy_top (y := nI (7 * k + 2)) (nI_add _ _) ?_
  refine va_sld hx hb hX hbl hbA hS (vp_in_nI (show 7 * k + 2 < L by omega) (by omega)) dL_law_280 ?_
  refine sy_top (y := xs (7 * k + 2)) (by rw [nI_clamp (by omega)]) ?_
  refine lv_aload_n hx hb dL_law_281 rfl (lv_at hl 4 rfl) ?_
  have hCode : wf 1 2 9 (fX6_fashion g q (xs (7 * k + 1)) (xs (7 * k + 2))).1 ≠ 9 := (by
        by_cases z : (fX6_fashion g q (xs (7 * k + 1)) (xs (7 * k + 2))).1 = 0
        · rw [z]; exact (by decide : (0 : Int32) ≠ 9)
        · exact (st_no hI (fun gm hg => o_fashion (q' := (fX6_fashion g q (xs (7 * k + 1)) (xs (7 * k + 2))).2.2.2) hg (xs (7 * k + 1)) (xs (7 * k + 2))) n6_fashion (fun gm => f7_fashion) z).2.1)
  refine va_calli (vx_runSW (As := [.ref (ad 60), .int (xs (7 * k + 1)), .int (xs (7 * k + 2)), .ref (ad 90)]) (rest := []) ⟨hx, hb, hml, hown, hts⟩ (mL_fashion l hfl Z nT nK cT cK ad g q (xs (7 * k + 1)) (xs (7 * k + 2)) (by have := inv_T hI; omega) (inv_IG hI) (inv_IQ hI) hCode) (vx_cwSW 4 hts (gl_S uk_2_186 uk_2_187 uk_1_0 uk_2_188) rfl rfl rfl (by decide +kernel) ⟨Nat.le_of_ble_eq_true rfl, Nat.le_of_ble_eq_true rfl⟩) ⟨sPreL_blind _, fun U hU hW => ⟨rfl, ⟨hE.next hS hU hW.alike, by rw [hU]; exact hP⟩, hNc.next hW.alike⟩⟩ rfl rfl hl.1 rfl (lv_room (Nat.le_of_ble_eq_true rfl)) dL_law_282 ⟨by show _ ≤ 601024; omega, by show _ ≤ 7293034; omega⟩) hS (fun _ _ h => h) (fun _ h => h) (fun r u t H locs ht _ hp hB _ _ hS => ?_)
  obtain ⟨g1, q1⟩ := u
  have hP := hB.2
  rw [ht] at hP
  dsimp only at hp hP
  rcases hp with ⟨h0, rfl, rfl, rfl⟩ | ⟨h0, rfl, rfl, rfl⟩
  · refine lv_istore (lv' := [(5, .int 0), (4, .int (nI (7 * k))), (0, .ref b), (1, .ref (ad 60)), (2, .ref (ad 0)), (3, .ref (ad 90))]) hx hb dL_law_285 hl (by decide) rfl (fun ls hl => ?_)
    have st := st_yes hI (F := fun gm => fX7_fashion gm (fX6_fashion g q (xs (7 * k + 1)) (xs (7 * k + 2))).2.2.2 (xs (7 * k + 1)) (xs (7 * k + 2))) (fun gm hg => o_fashion (q' := (fX6_fashion g q (xs (7 * k + 1)) (xs (7 * k + 2))).2.2.2) hg (xs (7 * k + 1)) (xs (7 * k + 2))) f6_fashion (fun gm => f7_fashion) h0
    dsimp only at st
    refine lv_aload_n hx hb dL_law_287 rfl (lv_at hl 4 rfl) ?_
    refine lv_aload_n hx hb dL_law_288 rfl (lv_at hl 2 rfl) ?_
    refine lv_iload hx hb dL_law_289 (lv_at hl 1 rfl) ?_
    refine lv_iconst (v := 1) hx hb dL_law_291 (by decide) ?_
    refine lv_iadd hx hb dL_law_292 ?_
    refine sy_top (y := nI (7 * k + 1)) (nI_add _ _) ?_
    refine va_sld hx hb hX hbl hbA hS (vp_in_nI (show 7 * k + 1 < L by omega) (by omega)) dL_law_293 ?_
    refine sy_top (y := xs (7 * k + 1)) (by rw [nI_clamp (by omega)]) ?_
    refine lv_aload_n hx hb dL_law_294 rfl (lv_at hl 2 rfl) ?_
    refine lv_iload hx hb dL_law_295 (lv_at hl 1 rfl) ?_
    refine lv_iconst (v := 2) hx hb dL_law_297 (by decide) ?_
    refine lv_iadd hx hb dL_law_298 ?_
    refine sy_top (y := nI (7 * k + 2)) (nI_add _ _) ?_
    refine va_sld hx hb hX hbl hbA hS (vp_in_nI (show 7 * k + 2 < L by omega) (by omega)) dL_law_299 ?_
    refine sy_top (y := xs (7 * k + 2)) (by rw [nI_clamp (by omega)]) ?_
    refine sy_ki (sy_rV (o := 0) (As := [.int (xs (7 * k + 1)), .int (xs (7 * k + 2))]) (rest := []) ⟨hx, hb, hml, hown, hts⟩ hE hP hS (mX7_fashion l hfl Z nT nK cT cK ad (sy_up (fX6_fashion g q (xs (7 * k + 1)) (xs (7 * k + 2))).2.2.1 90 0 (fX6_fashion g q (xs (7 * k + 1)) (xs (7 * k + 2))).2.1) (fX6_fashion g q (xs (7 * k + 1)) (xs (7 * k + 2))).2.2.2 (xs (7 * k + 1)) (xs (7 * k + 2)) st.1.2.1) (cwV 2 hts (gl_V uk_5_108 uk_5_109 uk_5_110 uk_1_9 uk_5_111) rfl rfl rfl (by decide +kernel) ⟨Nat.le_of_ble_eq_true rfl, Nat.le_of_ble_eq_true rfl⟩) (sy_recv (kc := 8) hE hP rfl (by decide) rfl rfl rfl) rfl hl.1 rfl (Nat.le_of_ble_eq_true rfl) dL_law_300 ⟨by show _ ≤ 601024; omega, by show _ ≤ 7293034; omega⟩) hS (fun b2 g2 q2 H locs e2 hP hS => ?_)
    obtain ⟨rfl, rfl, rfl⟩ : b2 = (fX7_fashion (sy_up (fX6_fashion g q (xs (7 * k + 1)) (xs (7 * k + 2))).2.2.1 90 0 (fX6_fashion g q (xs (7 * k + 1)) (xs (7 * k + 2))).2.1) (fX6_fashion g q (xs (7 * k + 1)) (xs (7 * k + 2))).2.2.2 (xs (7 * k + 1)) (xs (7 * k + 2))).1 ∧ g2 = (fX7_fashion (sy_up (fX6_fashion g q (xs (7 * k + 1)) (xs (7 * k + 2))).2.2.1 90 0 (fX6_fashion g q (xs (7 * k + 1)) (xs (7 * k + 2))).2.1) (fX6_fashion g q (xs (7 * k + 1)) (xs (7 * k + 2))).2.2.2 (xs (7 * k + 1)) (xs (7 * k + 2))).2 ∧ q2 = (fX6_fashion g q (xs (7 * k + 1)) (xs (7 * k + 2))).2.2.2 := by cases e2; exact ⟨rfl, rfl, rfl⟩
    refine lv_istore (lv' := [(6, .int (fX7_fashion (sy_up (fX6_fashion g q (xs (7 * k + 1)) (xs (7 * k + 2))).2.2.1 90 0 (fX6_fashion g q (xs (7 * k + 1)) (xs (7 * k + 2))).2.1) (fX6_fashion g q (xs (7 * k + 1)) (xs (7 * k + 2))).2.2.2 (xs (7 * k + 1)) (xs (7 * k + 2))).1), (5, .int 0), (4, .int (nI (7 * k))), (0, .ref b), (1, .ref (ad 60)), (2, .ref (ad 0)), (3, .ref (ad 90))]) hx hb dL_law_303 hl (by decide) rfl (fun ls hl => ?_)
    refine lv_aload_n hx hb dL_law_305 rfl (lv_at hl 5 rfl) ?_
    refine sy_ki (sy_rV (o := 0) (As := []) (rest := []) ⟨hx, hb, hml, hown, hts⟩ hE hP hS (mX7_thrown l hfl Z nT nK cT cK ad (fX7_fashion (sy_up (fX6_fashion g q (xs (7 * k + 1)) (xs (7 * k + 2))).2.2.1 90 0 (fX6_fashion g q (xs (7 * k + 1)) (xs (7 * k + 2))).2.1) (fX6_fashion g q (xs (7 * k + 1)) (xs (7 * k + 2))).2.2.2 (xs (7 * k + 1)) (xs (7 * k + 2))).2 (fX6_fashion g q (xs (7 * k + 1)) (xs (7 * k + 2))).2.2.2) (cwV 0 hts (gl_V uk_5_93 uk_5_94 uk_5_95 uk_1_9 uk_5_96) rfl rfl rfl (by decide +kernel) ⟨Nat.le_of_ble_eq_true rfl, Nat.le_of_ble_eq_true rfl⟩) (sy_recv (kc := 8) hE hP rfl (by decide) rfl rfl rfl) rfl hl.1 rfl (Nat.le_of_ble_eq_true rfl) dL_law_306 ⟨by show _ ≤ 601024; omega, by show _ ≤ 7293034; omega⟩) hS (fun b3 g3 q3 H locs e3 hP hS => ?_)
    obtain ⟨rfl, rfl, rfl⟩ : b3 = (fX7_fashion (sy_up (fX6_fashion g q (xs (7 * k + 1)) (xs (7 * k + 2))).2.2.1 90 0 (fX6_fashion g q (xs (7 * k + 1)) (xs (7 * k + 2))).2.1) (fX6_fashion g q (xs (7 * k + 1)) (xs (7 * k + 2))).2.2.2 (xs (7 * k + 1)) (xs (7 * k + 2))).2 0 0 ∧ g3 = (fX7_fashion (sy_up (fX6_fashion g q (xs (7 * k + 1)) (xs (7 * k + 2))).2.2.1 90 0 (fX6_fashion g q (xs (7 * k + 1)) (xs (7 * k + 2))).2.1) (fX6_fashion g q (xs (7 * k + 1)) (xs (7 * k + 2))).2.2.2 (xs (7 * k + 1)) (xs (7 * k + 2))).2 ∧ q3 = (fX6_fashion g q (xs (7 * k + 1)) (xs (7 * k + 2))).2.2.2 := by cases e3; exact ⟨rfl, rfl, rfl⟩
    refine sy_top (y := 0) st.2.1 ?_
    refine lv_iload hx hb dL_law_309 (lv_at hl 1 rfl) ?_
    refine lv_icmp_eq (tgt := 316) hx hb dL_law_311 (by decide) (fun _ => ?_) (fun c9 => absurd rfl c9)
    refine lv_iload hx hb dL_law_316 (lv_at hl 1 rfl) ?_
    refine lv_if_ne (tgt := 333) hx hb dL_law_318 (by decide) (fun c9 => absurd rfl c9) (fun _ => ?_)
    refine lv_aload_n hx hb dL_law_321 rfl (lv_at hl 6 rfl) ?_
    refine lv_iconst (v := 0) hx hb dL_law_322 (by decide) ?_
    refine sy_lald hx hb hE hP 90 rfl (i := 0) (k_in rfl) dL_law_323 ?_
    refine lv_iload hx hb dL_law_324 (lv_at hl 0 rfl) ?_
    refine lv_i2l (v := ((fX7_fashion (sy_up (fX6_fashion g q (xs (7 * k + 1)) (xs (7 * k + 2))).2.2.1 90 0 (fX6_fashion g q (xs (7 * k + 1)) (xs (7 * k + 2))).2.1) (fX6_fashion g q (xs (7 * k + 1)) (xs (7 * k + 2))).2.2.2 (xs (7 * k + 1)) (xs (7 * k + 2))).2 90 0).toInt64) hx hb dL_law_326 (by rw [st.2.2.2.1, st.2.2.1]) ?_
    refine lv_lcmp0 hx hb dL_law_327 ?_
    refine lv_if_eq (tgt := 333) hx hb dL_law_328 (by decide) (fun _ => ?_) (fun c9 => absurd rfl c9)
    refine lv_goto (tgt := 2272) hx hb dL_law_333 (by decide) ?_
    refine W.widen (k := 100 + 16 * (k + 1)) (n := 4000 + 200 * (k + 1)) (by show _ ≤ _; omega) (by show _ ≤ _; omega) ?_
    exact hJ _ _ _ _ _ _ _ _ _ _ ⟨hP, by rw [Nat.succ_mul]; exact st.2.2.2.2, h70, h71, hS, lv_sub hl [2, 3, 4, 5, 6] rfl⟩
  · refine lv_istore (lv' := [(5, .int (wf 1 2 9 (fX6_fashion g q (xs (7 * k + 1)) (xs (7 * k + 2))).1)), (4, .int (nI (7 * k))), (0, .ref b), (1, .ref (ad 60)), (2, .ref (ad 0)), (3, .ref (ad 90))]) hx hb dL_law_285 hl (by decide) rfl (fun ls hl => ?_)
    have st := st_no hI (F := fun gm => fX7_fashion gm q (xs (7 * k + 1)) (xs (7 * k + 2))) (fun gm hg => o_fashion (q' := q) hg (xs (7 * k + 1)) (xs (7 * k + 2))) n6_fashion (fun gm => f7_fashion) h0
    dsimp only at st
    refine lv_aload_n hx hb dL_law_287 rfl (lv_at hl 4 rfl) ?_
    refine lv_aload_n hx hb dL_law_288 rfl (lv_at hl 2 rfl) ?_
    refine lv_iload hx hb dL_law_289 (lv_at hl 1 rfl) ?_
    refine lv_iconst (v := 1) hx hb dL_law_291 (by decide) ?_
    refine lv_iadd hx hb dL_law_292 ?_
    refine sy_top (y := nI (7 * k + 1)) (nI_add _ _) ?_
    refine va_sld hx hb hX hbl hbA hS (vp_in_nI (show 7 * k + 1 < L by omega) (by omega)) dL_law_293 ?_
    refine sy_top (y := xs (7 * k + 1)) (by rw [nI_clamp (by omega)]) ?_
    refine lv_aload_n hx hb dL_law_294 rfl (lv_at hl 2 rfl) ?_
    refine lv_iload hx hb dL_law_295 (lv_at hl 1 rfl) ?_
    refine lv_iconst (v := 2) hx hb dL_law_297 (by decide) ?_
    refine lv_iadd hx hb dL_law_298 ?_
    refine sy_top (y := nI (7 * k + 2)) (nI_add _ _) ?_
    refine va_sld hx hb hX hbl hbA hS (vp_in_nI (show 7 * k + 2 < L by omega) (by omega)) dL_law_299 ?_
    refine sy_top (y := xs (7 * k + 2)) (by rw [nI_clamp (by omega)]) ?_
    refine sy_ki (sy_rV (o := 0) (As := [.int (xs (7 * k + 1)), .int (xs (7 * k + 2))]) (rest := []) ⟨hx, hb, hml, hown, hts⟩ hE hP hS (mX7_fashion l hfl Z nT nK cT cK ad g q (xs (7 * k + 1)) (xs (7 * k + 2)) hI.2.1) (cwV 2 hts (gl_V uk_5_108 uk_5_109 uk_5_110 uk_1_9 uk_5_111) rfl rfl rfl (by decide +kernel) ⟨Nat.le_of_ble_eq_true rfl, Nat.le_of_ble_eq_true rfl⟩) (sy_recv (kc := 8) hE hP rfl (by decide) rfl rfl rfl) rfl hl.1 rfl (Nat.le_of_ble_eq_true rfl) dL_law_300 ⟨by show _ ≤ 601024; omega, by show _ ≤ 7293034; omega⟩) hS (fun b2 g2 q2 H locs e2 hP hS => ?_)
    obtain ⟨rfl, rfl, rfl⟩ : b2 = (fX7_fashion g q (xs (7 * k + 1)) (xs (7 * k + 2))).1 ∧ g2 = (fX7_fashion g q (xs (7 * k + 1)) (xs (7 * k + 2))).2 ∧ q2 = q := by cases e2; exact ⟨rfl, rfl, rfl⟩
    refine lv_istore (lv' := [(6, .int (fX7_fashion g q (xs (7 * k + 1)) (xs (7 * k + 2))).1), (5, .int (wf 1 2 9 (fX6_fashion g q (xs (7 * k + 1)) (xs (7 * k + 2))).1)), (4, .int (nI (7 * k))), (0, .ref b), (1, .ref (ad 60)), (2, .ref (ad 0)), (3, .ref (ad 90))]) hx hb dL_law_303 hl (by decide) rfl (fun ls hl => ?_)
    refine lv_aload_n hx hb dL_law_305 rfl (lv_at hl 5 rfl) ?_
    refine sy_ki (sy_rV (o := 0) (As := []) (rest := []) ⟨hx, hb, hml, hown, hts⟩ hE hP hS (mX7_thrown l hfl Z nT nK cT cK ad (fX7_fashion g q (xs (7 * k + 1)) (xs (7 * k + 2))).2 q) (cwV 0 hts (gl_V uk_5_93 uk_5_94 uk_5_95 uk_1_9 uk_5_96) rfl rfl rfl (by decide +kernel) ⟨Nat.le_of_ble_eq_true rfl, Nat.le_of_ble_eq_true rfl⟩) (sy_recv (kc := 8) hE hP rfl (by decide) rfl rfl rfl) rfl hl.1 rfl (Nat.le_of_ble_eq_true rfl) dL_law_306 ⟨by show _ ≤ 601024; omega, by show _ ≤ 7293034; omega⟩) hS (fun b3 g3 q3 H locs e3 hP hS => ?_)
    obtain ⟨rfl, rfl, rfl⟩ : b3 = (fX7_fashion g q (xs (7 * k + 1)) (xs (7 * k + 2))).2 0 0 ∧ g3 = (fX7_fashion g q (xs (7 * k + 1)) (xs (7 * k + 2))).2 ∧ q3 = q := by cases e3; exact ⟨rfl, rfl, rfl⟩
    refine sy_top (y := (wf 1 2 9 (fX6_fashion g q (xs (7 * k + 1)) (xs (7 * k + 2))).1)) st.1 ?_
    refine lv_iload hx hb dL_law_309 (lv_at hl 1 rfl) ?_
    refine lv_icmp_eq (tgt := 316) hx hb dL_law_311 (by decide) (fun _ => ?_) (fun c9 => absurd rfl c9)
    refine lv_iload hx hb dL_law_316 (lv_at hl 1 rfl) ?_
    refine lv_if_ne (tgt := 333) hx hb dL_law_318 (by decide) (fun _ => ?_) (fun c9 => absurd c9 ((wf_ne h0 hCode).resolve_right (by decide)))
    refine lv_goto (tgt := 2272) hx hb dL_law_333 (by decide) ?_
    refine W.widen (k := 100 + 16 * (k + 1)) (n := 4000 + 200 * (k + 1)) (by show _ ≤ _; omega) (by show _ ≤ _; omega) ?_
    exact hJ _ _ _ _ _ _ _ _ _ _ ⟨hP, by rw [Nat.succ_mul]; exact st.2.2, h70, h71, hS, lv_sub hl [2, 3, 4, 5, 6] rfl⟩
set_option maxHeartbeats 8000000 in
set_option maxRecDepth 100000 in
theorem lc_charter (hC : lCtx p l s m meth c b L xs Z) {k : Nat} (hk : 7 * k + 7 ≤ L) (hL : L ≤ 3584) (hJ : ∀ (nT nK cT cK : Nat) (ad : Nat → Nat) (g : sG) (q : sQ) (H : Heap) (locs : List Loc) (ls : Array Slot), lSt Z s b k (k + 1) nT nK cT cK ad g q H locs ls → W p l e room_1 s m #[Value.ref b] below meth c H locs (100 + 16 * (k + 1)) (4000 + 200 * (k + 1)) (lw_Z below #[Value.ref b] s) (F0 m 2272 ls []))
    {nT nK cT cK : Nat} {ad : Nat → Nat} {g : sG} {q : sQ} {H : Heap} {locs : List Loc} {ls : Array Slot} (h : lSt Z s b k k nT nK cT cK ad g q H locs ls) : W p l e room_1 s m #[Value.ref b] below meth c H locs (100 + 16 * k) (4000 + 200 * k) (lw_Z below #[Value.ref b] s) (F0 m 472 ls []) := by
  obtain ⟨hx, hb, hr, hml, hown, hts, hX, hbl, hlocks, hZ, hE, hNc, hfl⟩ := hC
  obtain ⟨hP, hI, h70, h71, hS, hl⟩ := h
  have hbA : ¬ sy_A Z b := fun z => absurd (show Z.2.2.1 ≤ b from z) (by omega)
  have hkB : k * oB ≤ 2048000000 := by
    have : k ≤ 511 := by omega
    calc k * oB ≤ 511 * 4000000 := Nat.mul_le_mul this (Nat.le_refl _)
      _ ≤ 2048000000 := by decide
  refine lv_aload_n hx hb dL_law_472 rfl (lv_at hl 2 rfl) ?_
  refine lv_aload_n hx hb dL_law_473 rfl (lv_at hl 1 rfl) ?_
  refine lv_iload hx hb dL_law_474 (lv_at hl 0 rfl) ?_
  refine lv_iconst (v := 1) hx hb dL_law_476 (by decide) ?_
  refine lv_iadd hx hb dL_law_477 ?_
  refine sy_top (y := nI (7 * k + 1)) (nI_add _ _) ?_
  refine va_sld hx hb hX hbl hbA hS (vp_in_nI (show 7 * k + 1 < L by omega) (by omega)) dL_law_478 ?_
  refine sy_top (y := xs (7 * k + 1)) (by rw [nI_clamp (by omega)]) ?_
  refine lv_aload_n hx hb dL_law_479 rfl (lv_at hl 1 rfl) ?_
  refine lv_iload hx hb dL_law_480 (lv_at hl 0 rfl) ?_
  refine lv_iconst (v := 2) hx hb dL_law_482 (by decide) ?_
  refine lv_iadd hx hb dL_law_483 ?_
  refine sy_top (y := nI (7 * k + 2)) (nI_add _ _) ?_
  refine va_sld hx hb hX hbl hbA hS (vp_in_nI (show 7 * k + 2 < L by omega) (by omega)) dL_law_484 ?_
  refine sy_top (y := xs (7 * k + 2)) (by rw [nI_clamp (by omega)]) ?_
  refine lv_aload_n hx hb dL_law_485 rfl (lv_at hl 1 rfl) ?_
  refine lv_iload hx hb dL_law_486 (lv_at hl 0 rfl) ?_
  refine lv_iconst (v := 3) hx hb dL_law_488 (by decide) ?_
  refine lv_iadd hx hb dL_law_489 ?_
  refine sy_top (y := nI (7 * k + 3)) (nI_add _ _) ?_
  refine va_sld hx hb hX hbl hbA hS (vp_in_nI (show 7 * k + 3 < L by omega) (by omega)) dL_law_490 ?_
  refine sy_top (y := xs (7 * k + 3)) (by rw [nI_clamp (by omega)]) ?_
  have hCode : wf 1 2 9 (fX6_charter g q (xs (7 * k + 1)) (xs (7 * k + 2)) (xs (7 * k + 3))).1 ≠ 9 := (by
        by_cases z : (fX6_charter g q (xs (7 * k + 1)) (xs (7 * k + 2)) (xs (7 * k + 3))).1 = 0
        · rw [z]; exact (by decide : (0 : Int32) ≠ 9)
        · exact (st_nov hI (fun gm hg => o_charter (q' := (fX6_charter g q (xs (7 * k + 1)) (xs (7 * k + 2)) (xs (7 * k + 3))).2.2) hg (xs (7 * k + 1)) (xs (7 * k + 2)) (xs (7 * k + 3))) n6_charter (fun gm => f7_charter) z).2.1)
  refine va_calli (vx_runSW (As := [.ref (ad 60), .int (xs (7 * k + 1)), .int (xs (7 * k + 2)), .int (xs (7 * k + 3))]) (rest := []) ⟨hx, hb, hml, hown, hts⟩ (mL_charter l hfl Z nT nK cT cK ad g q (xs (7 * k + 1)) (xs (7 * k + 2)) (xs (7 * k + 3)) (by have := inv_T hI; omega) (inv_IG hI) (inv_IQ hI) hCode) (vx_cwSW 4 hts (gl_S uk_2_207 uk_2_208 uk_1_0 uk_2_209) rfl rfl rfl (by decide +kernel) ⟨Nat.le_of_ble_eq_true rfl, Nat.le_of_ble_eq_true rfl⟩) ⟨sPreL_blind _, fun U hU hW => ⟨rfl, ⟨hE.next hS hU hW.alike, by rw [hU]; exact hP⟩, hNc.next hW.alike⟩⟩ rfl rfl hl.1 rfl (lv_room (Nat.le_of_ble_eq_true rfl)) dL_law_491 ⟨by show _ ≤ 601024; omega, by show _ ≤ 7293034; omega⟩) hS (fun _ _ h => h) (fun _ h => h) (fun r u t H locs ht _ hp hB _ _ hS => ?_)
  obtain ⟨g1, q1⟩ := u
  have hP := hB.2
  rw [ht] at hP
  dsimp only at hp hP
  rcases hp with ⟨h0, rfl, rfl, rfl⟩ | ⟨h0, rfl, rfl, rfl⟩
  · refine lv_istore (lv' := [(5, .int 0), (4, .int (nI (7 * k))), (0, .ref b), (1, .ref (ad 60)), (2, .ref (ad 0)), (3, .ref (ad 90))]) hx hb dL_law_494 hl (by decide) rfl (fun ls hl => ?_)
    have st := st_yesv hI (F := fun gm => fX7_charter gm (fX6_charter g q (xs (7 * k + 1)) (xs (7 * k + 2)) (xs (7 * k + 3))).2.2 (xs (7 * k + 1)) (xs (7 * k + 2)) (xs (7 * k + 3))) (fun gm hg => o_charter (q' := (fX6_charter g q (xs (7 * k + 1)) (xs (7 * k + 2)) (xs (7 * k + 3))).2.2) hg (xs (7 * k + 1)) (xs (7 * k + 2)) (xs (7 * k + 3))) f6_charter (fun gm => f7_charter) h0
    dsimp only at st
    refine lv_aload_n hx hb dL_law_496 rfl (lv_at hl 4 rfl) ?_
    refine lv_aload_n hx hb dL_law_497 rfl (lv_at hl 2 rfl) ?_
    refine lv_iload hx hb dL_law_498 (lv_at hl 1 rfl) ?_
    refine lv_iconst (v := 1) hx hb dL_law_500 (by decide) ?_
    refine lv_iadd hx hb dL_law_501 ?_
    refine sy_top (y := nI (7 * k + 1)) (nI_add _ _) ?_
    refine va_sld hx hb hX hbl hbA hS (vp_in_nI (show 7 * k + 1 < L by omega) (by omega)) dL_law_502 ?_
    refine sy_top (y := xs (7 * k + 1)) (by rw [nI_clamp (by omega)]) ?_
    refine lv_aload_n hx hb dL_law_503 rfl (lv_at hl 2 rfl) ?_
    refine lv_iload hx hb dL_law_504 (lv_at hl 1 rfl) ?_
    refine lv_iconst (v := 2) hx hb dL_law_506 (by decide) ?_
    refine lv_iadd hx hb dL_law_507 ?_
    refine sy_top (y := nI (7 * k + 2)) (nI_add _ _) ?_
    refine va_sld hx hb hX hbl hbA hS (vp_in_nI (show 7 * k + 2 < L by omega) (by omega)) dL_law_508 ?_
    refine sy_top (y := xs (7 * k + 2)) (by rw [nI_clamp (by omega)]) ?_
    refine lv_aload_n hx hb dL_law_509 rfl (lv_at hl 2 rfl) ?_
    refine lv_iload hx hb dL_law_510 (lv_at hl 1 rfl) ?_
    refine lv_iconst (v := 3) hx hb dL_law_512 (by decide) ?_
    refine lv_iadd hx hb dL_law_513 ?_
    refine sy_top (y := nI (7 * k + 3)) (nI_add _ _) ?_
    refine va_sld hx hb hX hbl hbA hS (vp_in_nI (show 7 * k + 3 < L by omega) (by omega)) dL_law_514 ?_
    refine sy_top (y := xs (7 * k + 3)) (by rw [nI_clamp (by omega)]) ?_
    refine sy_kv (sy_rV (o := 0) (As := [.int (xs (7 * k + 1)), .int (xs (7 * k + 2)), .int (xs (7 * k + 3))]) (rest := []) ⟨hx, hb, hml, hown, hts⟩ hE hP hS (mX7_charter l hfl Z nT nK cT cK ad (fX6_charter g q (xs (7 * k + 1)) (xs (7 * k + 2)) (xs (7 * k + 3))).2.1 (fX6_charter g q (xs (7 * k + 1)) (xs (7 * k + 2)) (xs (7 * k + 3))).2.2 (xs (7 * k + 1)) (xs (7 * k + 2)) (xs (7 * k + 3)) st.1.2.1) (cwV 3 hts (gl_V uk_5_123 uk_5_124 uk_5_125 uk_1_9 uk_5_126) rfl rfl rfl (by decide +kernel) ⟨Nat.le_of_ble_eq_true rfl, Nat.le_of_ble_eq_true rfl⟩) (sy_recv (kc := 8) hE hP rfl (by decide) rfl rfl rfl) rfl hl.1 rfl (Nat.le_of_ble_eq_true rfl) dL_law_515 ⟨by show _ ≤ 601024; omega, by show _ ≤ 7293034; omega⟩) hS (fun g2 q2 H locs e2 hP hS => ?_)
    obtain ⟨rfl, rfl⟩ : g2 = (fX7_charter (fX6_charter g q (xs (7 * k + 1)) (xs (7 * k + 2)) (xs (7 * k + 3))).2.1 (fX6_charter g q (xs (7 * k + 1)) (xs (7 * k + 2)) (xs (7 * k + 3))).2.2 (xs (7 * k + 1)) (xs (7 * k + 2)) (xs (7 * k + 3))) ∧ q2 = (fX6_charter g q (xs (7 * k + 1)) (xs (7 * k + 2)) (xs (7 * k + 3))).2.2 := by cases e2; exact ⟨rfl, rfl⟩
    refine lv_aload_n hx hb dL_law_518 rfl (lv_at hl 4 rfl) ?_
    refine sy_ki (sy_rV (o := 0) (As := []) (rest := []) ⟨hx, hb, hml, hown, hts⟩ hE hP hS (mX7_thrown l hfl Z nT nK cT cK ad (fX7_charter (fX6_charter g q (xs (7 * k + 1)) (xs (7 * k + 2)) (xs (7 * k + 3))).2.1 (fX6_charter g q (xs (7 * k + 1)) (xs (7 * k + 2)) (xs (7 * k + 3))).2.2 (xs (7 * k + 1)) (xs (7 * k + 2)) (xs (7 * k + 3))) (fX6_charter g q (xs (7 * k + 1)) (xs (7 * k + 2)) (xs (7 * k + 3))).2.2) (cwV 0 hts (gl_V uk_5_93 uk_5_94 uk_5_95 uk_1_9 uk_5_96) rfl rfl rfl (by decide +kernel) ⟨Nat.le_of_ble_eq_true rfl, Nat.le_of_ble_eq_true rfl⟩) (sy_recv (kc := 8) hE hP rfl (by decide) rfl rfl rfl) rfl hl.1 rfl (Nat.le_of_ble_eq_true rfl) dL_law_519 ⟨by show _ ≤ 601024; omega, by show _ ≤ 7293034; omega⟩) hS (fun b3 g3 q3 H locs e3 hP hS => ?_)
    obtain ⟨rfl, rfl, rfl⟩ : b3 = (fX7_charter (fX6_charter g q (xs (7 * k + 1)) (xs (7 * k + 2)) (xs (7 * k + 3))).2.1 (fX6_charter g q (xs (7 * k + 1)) (xs (7 * k + 2)) (xs (7 * k + 3))).2.2 (xs (7 * k + 1)) (xs (7 * k + 2)) (xs (7 * k + 3))) 0 0 ∧ g3 = (fX7_charter (fX6_charter g q (xs (7 * k + 1)) (xs (7 * k + 2)) (xs (7 * k + 3))).2.1 (fX6_charter g q (xs (7 * k + 1)) (xs (7 * k + 2)) (xs (7 * k + 3))).2.2 (xs (7 * k + 1)) (xs (7 * k + 2)) (xs (7 * k + 3))) ∧ q3 = (fX6_charter g q (xs (7 * k + 1)) (xs (7 * k + 2)) (xs (7 * k + 3))).2.2 := by cases e3; exact ⟨rfl, rfl, rfl⟩
    refine sy_top (y := 0) st.2.1 ?_
    refine lv_iload hx hb dL_law_522 (lv_at hl 0 rfl) ?_
    refine lv_icmp_eq (tgt := 529) hx hb dL_law_524 (by decide) (fun _ => ?_) (fun c9 => absurd rfl c9)
    refine lv_goto (tgt := 2272) hx hb dL_law_529 (by decide) ?_
    refine W.widen (k := 100 + 16 * (k + 1)) (n := 4000 + 200 * (k + 1)) (by show _ ≤ _; omega) (by show _ ≤ _; omega) ?_
    exact hJ _ _ _ _ _ _ _ _ _ _ ⟨hP, by rw [Nat.succ_mul]; exact st.2.2, h70, h71, hS, lv_sub hl [1, 2, 3, 4, 5] rfl⟩
  · refine lv_istore (lv' := [(5, .int (wf 1 2 9 (fX6_charter g q (xs (7 * k + 1)) (xs (7 * k + 2)) (xs (7 * k + 3))).1)), (4, .int (nI (7 * k))), (0, .ref b), (1, .ref (ad 60)), (2, .ref (ad 0)), (3, .ref (ad 90))]) hx hb dL_law_494 hl (by decide) rfl (fun ls hl => ?_)
    have st := st_nov hI (F := fun gm => fX7_charter gm q (xs (7 * k + 1)) (xs (7 * k + 2)) (xs (7 * k + 3))) (fun gm hg => o_charter (q' := q) hg (xs (7 * k + 1)) (xs (7 * k + 2)) (xs (7 * k + 3))) n6_charter (fun gm => f7_charter) h0
    dsimp only at st
    refine lv_aload_n hx hb dL_law_496 rfl (lv_at hl 4 rfl) ?_
    refine lv_aload_n hx hb dL_law_497 rfl (lv_at hl 2 rfl) ?_
    refine lv_iload hx hb dL_law_498 (lv_at hl 1 rfl) ?_
    refine lv_iconst (v := 1) hx hb dL_law_500 (by decide) ?_
    refine lv_iadd hx hb dL_law_501 ?_
    refine sy_top (y := nI (7 * k + 1)) (nI_add _ _) ?_
    refine va_sld hx hb hX hbl hbA hS (vp_in_nI (show 7 * k + 1 < L by omega) (by omega)) dL_law_502 ?_
    refine sy_top (y := xs (7 * k + 1)) (by rw [nI_clamp (by omega)]) ?_
    refine lv_aload_n hx hb dL_law_503 rfl (lv_at hl 2 rfl) ?_
    refine lv_iload hx hb dL_law_504 (lv_at hl 1 rfl) ?_
    refine lv_iconst (v := 2) hx hb dL_law_506 (by decide) ?_
    refine lv_iadd hx hb dL_law_507 ?_
    refine sy_top (y := nI (7 * k + 2)) (nI_add _ _) ?_
    refine va_sld hx hb hX hbl hbA hS (vp_in_nI (show 7 * k + 2 < L by omega) (by omega)) dL_law_508 ?_
    refine sy_top (y := xs (7 * k + 2)) (by rw [nI_clamp (by omega)]) ?_
    refine lv_aload_n hx hb dL_law_509 rfl (lv_at hl 2 rfl) ?_
    refine lv_iload hx hb dL_law_510 (lv_at hl 1 rfl) ?_
    refine lv_iconst (v := 3) hx hb dL_law_512 (by decide) ?_
    refine lv_iadd hx hb dL_law_513 ?_
    refine sy_top (y := nI (7 * k + 3)) (nI_add _ _) ?_
    refine va_sld hx hb hX hbl hbA hS (vp_in_nI (show 7 * k + 3 < L by omega) (by omega)) dL_law_514 ?_
    refine sy_top (y := xs (7 * k + 3)) (by rw [nI_clamp (by omega)]) ?_
    refine sy_kv (sy_rV (o := 0) (As := [.int (xs (7 * k + 1)), .int (xs (7 * k + 2)), .int (xs (7 * k + 3))]) (rest := []) ⟨hx, hb, hml, hown, hts⟩ hE hP hS (mX7_charter l hfl Z nT nK cT cK ad g q (xs (7 * k + 1)) (xs (7 * k + 2)) (xs (7 * k + 3)) hI.2.1) (cwV 3 hts (gl_V uk_5_123 uk_5_124 uk_5_125 uk_1_9 uk_5_126) rfl rfl rfl (by decide +kernel) ⟨Nat.le_of_ble_eq_true rfl, Nat.le_of_ble_eq_true rfl⟩) (sy_recv (kc := 8) hE hP rfl (by decide) rfl rfl rfl) rfl hl.1 rfl (Nat.le_of_ble_eq_true rfl) dL_law_515 ⟨by show _ ≤ 601024; omega, by show _ ≤ 7293034; omega⟩) hS (fun g2 q2 H locs e2 hP hS => ?_)
    obtain ⟨rfl, rfl⟩ : g2 = (fX7_charter g q (xs (7 * k + 1)) (xs (7 * k + 2)) (xs (7 * k + 3))) ∧ q2 = q := by cases e2; exact ⟨rfl, rfl⟩
    refine lv_aload_n hx hb dL_law_518 rfl (lv_at hl 4 rfl) ?_
    refine sy_ki (sy_rV (o := 0) (As := []) (rest := []) ⟨hx, hb, hml, hown, hts⟩ hE hP hS (mX7_thrown l hfl Z nT nK cT cK ad (fX7_charter g q (xs (7 * k + 1)) (xs (7 * k + 2)) (xs (7 * k + 3))) q) (cwV 0 hts (gl_V uk_5_93 uk_5_94 uk_5_95 uk_1_9 uk_5_96) rfl rfl rfl (by decide +kernel) ⟨Nat.le_of_ble_eq_true rfl, Nat.le_of_ble_eq_true rfl⟩) (sy_recv (kc := 8) hE hP rfl (by decide) rfl rfl rfl) rfl hl.1 rfl (Nat.le_of_ble_eq_true rfl) dL_law_519 ⟨by show _ ≤ 601024; omega, by show _ ≤ 7293034; omega⟩) hS (fun b3 g3 q3 H locs e3 hP hS => ?_)
    obtain ⟨rfl, rfl, rfl⟩ : b3 = (fX7_charter g q (xs (7 * k + 1)) (xs (7 * k + 2)) (xs (7 * k + 3))) 0 0 ∧ g3 = (fX7_charter g q (xs (7 * k + 1)) (xs (7 * k + 2)) (xs (7 * k + 3))) ∧ q3 = q := by cases e3; exact ⟨rfl, rfl, rfl⟩
    refine sy_top (y := (wf 1 2 9 (fX6_charter g q (xs (7 * k + 1)) (xs (7 * k + 2)) (xs (7 * k + 3))).1)) st.1 ?_
    refine lv_iload hx hb dL_law_522 (lv_at hl 0 rfl) ?_
    refine lv_icmp_eq (tgt := 529) hx hb dL_law_524 (by decide) (fun _ => ?_) (fun c9 => absurd rfl c9)
    refine lv_goto (tgt := 2272) hx hb dL_law_529 (by decide) ?_
    refine W.widen (k := 100 + 16 * (k + 1)) (n := 4000 + 200 * (k + 1)) (by show _ ≤ _; omega) (by show _ ≤ _; omega) ?_
    exact hJ _ _ _ _ _ _ _ _ _ _ ⟨hP, by rw [Nat.succ_mul]; exact st.2.2, h70, h71, hS, lv_sub hl [1, 2, 3, 4, 5] rfl⟩
set_option maxHeartbeats 8000000 in
set_option maxRecDepth 100000 in
theorem lc_day (hC : lCtx p l s m meth c b L xs Z) {k : Nat} (hk : 7 * k + 7 ≤ L) (hL : L ≤ 3584) (hJ : ∀ (nT nK cT cK : Nat) (ad : Nat → Nat) (g : sG) (q : sQ) (H : Heap) (locs : List Loc) (ls : Array Slot), lSt Z s b k (k + 1) nT nK cT cK ad g q H locs ls → W p l e room_1 s m #[Value.ref b] below meth c H locs (100 + 16 * (k + 1)) (4000 + 200 * (k + 1)) (lw_Z below #[Value.ref b] s) (F0 m 2272 ls []))
    {nT nK cT cK : Nat} {ad : Nat → Nat} {g : sG} {q : sQ} {H : Heap} {locs : List Loc} {ls : Array Slot} (h : lSt Z s b k k nT nK cT cK ad g q H locs ls) : W p l e room_1 s m #[Value.ref b] below meth c H locs (100 + 16 * k) (4000 + 200 * k) (lw_Z below #[Value.ref b] s) (F0 m 1862 ls []) := by
  obtain ⟨hx, hb, hr, hml, hown, hts, hX, hbl, hlocks, hZ, hE, hNc, hfl⟩ := hC
  obtain ⟨hP, hI, h70, h71, hS, hl⟩ := h
  have hbA : ¬ sy_A Z b := fun z => absurd (show Z.2.2.1 ≤ b from z) (by omega)
  have hkB : k * oB ≤ 2048000000 := by
    have : k ≤ 511 := by omega
    calc k * oB ≤ 511 * 4000000 := Nat.mul_le_mul this (Nat.le_refl _)
      _ ≤ 2048000000 := by decide
  refine lv_aload_n hx hb dL_law_1862 rfl (lv_at hl 2 rfl) ?_
  refine sy_ki (sy_rV (o := 60) (As := []) (rest := []) ⟨hx, hb, hml, hown, hts⟩ hE hP hS (mX6_day l hfl Z nT nK cT cK ad g q (by have := inv_T hI; omega) (inv_IG hI) (inv_IQ hI)) (cwV 0 hts (gl_V uk_1_184 uk_1_185 uk_1_186 uk_1_1 uk_1_187) rfl rfl rfl (by decide +kernel) ⟨Nat.le_of_ble_eq_true rfl, Nat.le_of_ble_eq_true rfl⟩) (sy_recv (kc := 7) hE hP rfl (by decide) rfl rfl rfl) rfl hl.1 rfl (Nat.le_of_ble_eq_true rfl) dL_law_1863 ⟨by show _ ≤ 601024; omega, by show _ ≤ 7293034; omega⟩) hS (fun b1 g1 q1 H locs e1 hP hS => ?_)
  obtain ⟨rfl, rfl, rfl⟩ : b1 = fX6_day g q ∧ g1 = g ∧ q1 = q := by cases e1; exact ⟨rfl, rfl, rfl⟩
  refine lv_aload_n hx hb dL_law_1866 rfl (lv_at hl 3 rfl) ?_
  refine sy_ki (sy_rV (o := 0) (As := []) (rest := [.int (fX6_day g q)]) ⟨hx, hb, hml, hown, hts⟩ hE hP hS (mX7_day l hfl Z nT nK cT cK ad g q) (cwV 0 hts (gl_V uk_6_26 uk_6_27 uk_6_28 uk_1_9 uk_6_29) rfl rfl rfl (by decide +kernel) ⟨Nat.le_of_ble_eq_true rfl, Nat.le_of_ble_eq_true rfl⟩) (sy_recv (kc := 8) hE hP rfl (by decide) rfl rfl rfl) rfl hl.1 rfl (Nat.le_of_ble_eq_true rfl) dL_law_1867 ⟨by show _ ≤ 601024; omega, by show _ ≤ 7293034; omega⟩) hS (fun b2 g2 q2 H locs e2 hP hS => ?_)
  obtain ⟨rfl, rfl, rfl⟩ : b2 = (fX7_day g q).1 ∧ g2 = (fX7_day g q).2 ∧ q2 = q := by cases e2; exact ⟨rfl, rfl, rfl⟩
  have st := o_day (q' := q) hI
  refine sy_top (y := fX6_day g q) st.1.symm ?_
  refine lv_icmp_eq (tgt := 2272) hx hb dL_law_1870 (by decide) (fun _ => ?_) (fun c9 => absurd rfl c9)
  refine W.widen (k := 100 + 16 * (k + 1)) (n := 4000 + 200 * (k + 1)) (by show _ ≤ _; omega) (by show _ ≤ _; omega) ?_
  exact hJ _ _ _ _ _ _ _ _ _ _ ⟨hP, by rw [Nat.succ_mul]; exact one_mem f7_day st.2, h70, h71, hS, hl⟩
end LWC
