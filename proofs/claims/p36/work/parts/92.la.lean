theorem gl_S {c1 : Cond} {own : String} {idx : Nat} {y : MethodName} (h1 : Cond.methodLink own idx y ∈ wsU) (h2 : Cond.static y ∈ wsU) (h4 : Cond.initialized y.cls ∈ wsU) (h5 : c1 ∈ wsU) : GoodIn lw_tbl (va_wsS own idx y (uW c1)) :=
  gl_app (List.forall_mem_cons.mpr ⟨h1, List.forall_mem_cons.mpr ⟨h2, List.forall_mem_cons.mpr ⟨h4, fun _ h => absurd h List.not_mem_nil⟩⟩⟩) h5
theorem gl_V {c1 : Cond} {own C : String} {idx : Nat} {y : MethodName} (h1 : Cond.methodLink own idx y ∈ wsU) (h2 : Cond.instanceMethod y ∈ wsU) (h3 : Cond.selects C y y ∈ wsU) (h4 : Cond.initialized C ∈ wsU) (h5 : c1 ∈ wsU) : GoodIn lw_tbl (wsV own idx C y (uW c1)) :=
  gl_app (List.forall_mem_cons.mpr ⟨h1, List.forall_mem_cons.mpr ⟨h2, List.forall_mem_cons.mpr ⟨h3, List.forall_mem_cons.mpr ⟨h4, fun _ h => absurd h List.not_mem_nil⟩⟩⟩⟩) h5
/-- what stands for the law's whole run -/
def lCtx (p : Program) (l : Launch) (s : State) (m : MethodId) (meth : Method) (c : Code) (b L : Nat) (xs : Nat → Int32) (Z : sZ) : Prop := p.tables.exec = Jvm.exec ∧ c.code = cL_law ∧ meth.sig.returnType = ret ∧ c.maxLocals = 18 ∧ s.vm.findClass RL = some m.cls ∧ (∀ w ∈ lw_tbl, w.before #[Value.ref b] s = true) ∧ va_X b L xs s s.heap ∧ b < s.heap.size ∧ meth.locks = false ∧ Z.2.2.1 = s.heap.size ∧ sEnv Z s ∧ sNc s ∧ l.stackTraces = false
/-- the law's world, and its own numbers -/
def lSt (Z : sZ) (s : State) (b k n nT nK cT cK : Nat) (ad : Nat → Nat) (g : sG) (q : sQ) (H : Heap) (locs : List Loc) (ls : Array Slot) (more : List (Nat × Value)) : Prop := Sy Z nT nK cT cK ad g q H ∧ CI n nT nK cT cK g q ∧ (cT = 0 → ad 70 = Z.2.2.2) ∧ (cK = 0 → ad 71 = Z.2.2.2) ∧ va_S (sy_A Z) s.heap H locs ∧ lv_has ls 18 (more ++ [(6, .int (nI k)), (5, .int 1), (4, .int (nI nK)), (3, .int (nI nT)), (2, .ref (ad 90)), (1, .ref (ad 60)), (0, .ref b)])
theorem p_thing {n nT nK cT cK : Nat} {g : sG} {q : sQ} (c : CI n nT nK cT cK g q) {k w v : Nat} (hk : k < 4) (hw : 1 ≤ w ∧ w ≤ 50) (hv : 10 ≤ v ∧ v ≤ 10000) : (nT = 40 ∧ fX6_thing g q nT (nI k) (nI w) (nI v) = (3, 0, g, q)) ∨ (nT < 40 ∧ fX6_thing g q nT (nI k) (nI w) (nI v) = (0, nI nT, (fX6_thingM g q nT (nI k) (nI w) (nI v)).1, (fX6_thingM g q nT (nI k) (nI w) (nI v)).2)) := by
  have hT := ci_T c
  unfold fX6_thing
  rw [if_pos (r_in (N := 4) (m := 4) hk (by decide) rfl), if_pos (r_rg (A := 1) (B := 50) (lo := 1) (hi := 50) hw.1 hw.2 (by decide) rfl rfl), if_pos (r_rg (A := 10) (B := 10000) (lo := 10) (hi := 10000) hv.1 hv.2 (by decide) rfl rfl), c.1.1]
  by_cases h : 40 ≤ nT
  · rw [if_pos (show (40 : Int32) ≤ nI nT from (nI_leI (a := 40) (b := nT) (by decide) (by omega)).mpr h)]
    exact Or.inl ⟨by omega, rfl⟩
  · rw [if_neg (fun (z : (40 : Int32) ≤ nI nT) => h ((nI_leI (a := 40) (b := nT) (by decide) (by omega)).mp z))]
    exact Or.inr ⟨by omega, rfl⟩
section LWC
variable {p : Program} {l : Launch} {e : Env} {s : State} {m : MethodId} {below : List Frame} {meth : Method} {c : Code} {b L : Nat} {xs : Nat → Int32} {Z : sZ}
set_option maxHeartbeats 8000000 in
set_option maxRecDepth 100000 in
theorem lc_A2 (hC : lCtx p l s m meth c b L xs Z) {k : Nat} (hk : k < 48) {nT nK cT cK : Nat} {ad : Nat → Nat} {g : sG} {q : sQ} {H : Heap} {locs : List Loc} {ls : Array Slot} {y : Nat} (hy : y < 2147483648) (hT0 : 0 < nT) (h : lSt Z s b k (k + 1) nT nK cT cK ad g q H locs ls [(8, .int (nI y))]) (hJ : ∀ (nT nK cT cK : Nat) (ad : Nat → Nat) (g : sG) (q : sQ) (H : Heap) (locs : List Loc) (ls : Array Slot), 0 < nT → lSt Z s b k (k + 2) nT nK cT cK ad g q H locs ls [] → W p l e room_1 s m #[Value.ref b] below meth c H locs (100 + 2000 * k + 100) (4000 + 14000 * k + 1000) (lw_Z below #[Value.ref b] s) (F0 m 1280 ls [])) : W p l e room_1 s m #[Value.ref b] below meth c H locs (100 + 2000 * k + 10) (4000 + 14000 * k + 120) (lw_Z below #[Value.ref b] s) (F0 m 217 ls []) := by
  obtain ⟨hx, hb, hr, hml, hown, hts, hX, hbl, hlocks, hZ, hE, hNc, hfl⟩ := hC
  obtain ⟨hP, hI, h70, h71, hS, hl⟩ := h
  have hl : lv_has ls 18 [(8, .int (nI y)), (6, .int (nI k)), (5, .int 1), (4, .int (nI nK)), (3, .int (nI nT)), (2, .ref (ad 90)), (1, .ref (ad 60)), (0, .ref b)] := hl
  have hT40 := ci_T hI
  have hK40 := ci_K hI
  have b0 := i32b (g 68 0)
  refine lv_iconst (v := 1) hx hb dL_law_217 (by decide) ?_
  refine lv_iload hx hb dL_law_218 (lv_at hl 0 rfl) ?_
  refine lv_bipush (v := 16) hx hb dL_law_220 (by decide) ?_
  refine lv_idiv hx hb dL_law_222 (by decide) ?_
  refine sy_top (y := nI (y / 16)) (nI_div (a := y) (b := 16) (by omega) (by omega)) ?_
  refine lv_sipush (v := 400) hx hb dL_law_223 (by decide) ?_
  refine lv_irem hx hb dL_law_226 (by decide) ?_
  refine sy_top (y := nI ((y / 16) % 400)) (nI_rem (a := (y / 16)) (b := 400) (by omega) (by omega)) ?_
  refine lv_iadd hx hb dL_law_227 ?_
  refine sy_top (y := nI (1 + ((y / 16) % 400))) (nI_add 1 ((y / 16) % 400)) ?_
  refine lv_istore (lv' := [(13, .int (nI (1 + ((y / 16) % 400)))), (8, .int (nI y)), (6, .int (nI k)), (5, .int 1), (4, .int (nI nK)), (3, .int (nI nT)), (2, .ref (ad 90)), (1, .ref (ad 60)), (0, .ref b)]) hx hb dL_law_228 hl (by decide) rfl (fun ls hl => ?_)
  refine lv_aload_n hx hb dL_law_230 rfl (lv_at hl 7 rfl) ?_
  refine lv_iconst (v := 0) hx hb dL_law_231 (by decide) ?_
  refine sy_kl (vx_runSW (As := [.ref (ad 60), .int 0]) (rest := []) ⟨hx, hb, hml, hown, hts⟩ (mL_money l hfl Z nT nK cT cK ad g q 0 hI) (vx_cwSW 2 hts (gl_S uk_4_88 uk_4_89 uk_1_0 uk_4_90) rfl rfl rfl (by decide +kernel) ⟨Nat.le_of_ble_eq_true rfl, Nat.le_of_ble_eq_true rfl⟩) ⟨sPreL_blind _, fun U hU hW => ⟨rfl, ⟨hE.next hS hU hW.alike, by rw [hU]; exact hP⟩, hNc.next hW.alike⟩⟩ rfl rfl hl.1 rfl (lv_room (Nat.le_of_ble_eq_true rfl)) dL_law_232 ⟨by show _ ≤ 600074; (try dsimp only); omega, by show _ ≤ 7301550; (try dsimp only); omega⟩) hS (fun r gz qz H locs e9 hP hS => ?_)
  obtain ⟨er, eg, eq⟩ := eq_q (z := (g 68 0).toInt) a_M.1 rfl e9
  subst er; subst eg; subst eq
  refine lv_lstore (lv' := [(14, .long (lI ((g 68 0).toInt))), (13, .int (nI (1 + ((y / 16) % 400)))), (8, .int (nI y)), (6, .int (nI k)), (5, .int 1), (4, .int (nI nK)), (3, .int (nI nT)), (2, .ref (ad 90)), (1, .ref (ad 60)), (0, .ref b)]) hx hb dL_law_235 hl (by decide) rfl (fun ls hl => ?_)
  refine lv_aload_n hx hb dL_law_237 rfl (lv_at hl 8 rfl) ?_
  refine lv_iload hx hb dL_law_238 (lv_at hl 2 rfl) ?_
  refine lv_iconst (v := 3) hx hb dL_law_240 (by decide) ?_
  refine lv_irem hx hb dL_law_241 (by decide) ?_
  refine sy_top (y := nI (y % 3)) (nI_rem (a := y) (b := 3) (by omega) (by omega)) ?_
  refine lv_iload_n hx hb dL_law_242 rfl (lv_at hl 6 rfl) ?_
  refine lv_iconst (v := 1) hx hb dL_law_243 (by decide) ?_
  refine lv_isub hx hb dL_law_244 ?_
  refine sy_top (y := nI (nT - 1)) (nI_sub (a := nT) (b := 1) (by omega)) ?_
  refine lv_iload hx hb dL_law_245 (lv_at hl 2 rfl) ?_
  refine lv_bipush (v := 8) hx hb dL_law_247 (by decide) ?_
  refine lv_idiv hx hb dL_law_249 (by decide) ?_
  refine sy_top (y := nI (y / 8)) (nI_div (a := y) (b := 8) (by omega) (by omega)) ?_
  refine lv_iconst (v := 4) hx hb dL_law_250 (by decide) ?_
  refine lv_irem hx hb dL_law_251 (by decide) ?_
  refine sy_top (y := nI ((y / 8) % 4)) (nI_rem (a := (y / 8)) (b := 4) (by omega) (by omega)) ?_
  refine lv_iload hx hb dL_law_252 (lv_at hl 2 rfl) ?_
  refine lv_bipush (v := 32) hx hb dL_law_254 (by decide) ?_
  refine lv_idiv hx hb dL_law_256 (by decide) ?_
  refine sy_top (y := nI (y / 32)) (nI_div (a := y) (b := 32) (by omega) (by omega)) ?_
  refine lv_iconst (v := 3) hx hb dL_law_257 (by decide) ?_
  refine lv_irem hx hb dL_law_258 (by decide) ?_
  refine sy_top (y := nI ((y / 32) % 3)) (nI_rem (a := (y / 32)) (b := 3) (by omega) (by omega)) ?_
  refine lv_iload hx hb dL_law_259 (lv_at hl 1 rfl) ?_
  refine lv_iload hx hb dL_law_261 (lv_at hl 2 rfl) ?_
  refine lv_sipush (v := 256) hx hb dL_law_263 (by decide) ?_
  refine lv_idiv hx hb dL_law_266 (by decide) ?_
  refine sy_top (y := nI (y / 256)) (nI_div (a := y) (b := 256) (by omega) (by omega)) ?_
  refine lv_iconst (v := 2) hx hb dL_law_267 (by decide) ?_
  refine lv_irem hx hb dL_law_268 (by decide) ?_
  refine sy_top (y := nI ((y / 256) % 2)) (nI_rem (a := (y / 256)) (b := 2) (by omega) (by omega)) ?_
  have hM : ∀ x5 : Int32, x5 = 0 ∨ x5 = 1 → W p l e room_1 s m #[Value.ref b] below meth c H locs (100 + 2000 * k + 10 + 1) (4000 + 14000 * k + 120 + 6) (lw_Z below #[Value.ref b] s) (F0 m 277 ls [.int x5, .int (nI (1 + ((y / 16) % 400))), .int (nI ((y / 32) % 3)), .int (nI ((y / 8) % 4)), .int (nI (nT - 1)), .int (nI (y % 3)), .ref (ad 60)]) := by
    intro x5 hz5
    refine va_calll (vx_runSW (As := [.ref (ad 60), .int (nI (y % 3)), .int (nI (nT - 1)), .int (nI ((y / 8) % 4)), .int (nI ((y / 32) % 3)), .int (nI (1 + ((y / 16) % 400))), .int x5]) (rest := []) ⟨hx, hb, hml, hown, hts⟩ (mL_pledge l hfl Z nT nK cT cK ad g q (nI (y % 3)) (nI (nT - 1)) (nI ((y / 8) % 4)) (nI ((y / 32) % 3)) (nI (1 + ((y / 16) % 400))) x5 hI hz5 h71) (vx_cwSW 7 hts (gl_S uk_3_5 uk_3_6 uk_1_0 uk_3_7) rfl rfl rfl (by decide +kernel) ⟨Nat.le_of_ble_eq_true rfl, Nat.le_of_ble_eq_true rfl⟩) ⟨sPreL_blind _, fun U hU hW => ⟨rfl, ⟨hE.next hS hU hW.alike, by rw [hU]; exact hP⟩, hNc.next hW.alike⟩⟩ rfl rfl hl.1 rfl (lv_room (Nat.le_of_ble_eq_true rfl)) dL_law_277 ⟨by show _ ≤ 600074; (try dsimp only); omega, by show _ ≤ 7301550; (try dsimp only); omega⟩) hS (fun _ _ h => h) (fun _ h => h) (fun r u t H locs ht _ hp hB _ _ hS => ?_)
    obtain ⟨ad1, g1, q1⟩ := u
    obtain ⟨-, hB1, hB2⟩ := hB
    rw [ht] at hB1 hB2
    obtain ⟨er, hp⟩ := hp
    dsimp only at hp hB1
    rcases p_pledge (x5 := x5) hI (by omega) (pp := y % 3) (i := nT - 1) (X := y / 8 % 4) (b := y / 32 % 3) (l := (1 + ((y / 16) % 400))) (by omega) (by omega) (by omega) (by omega) (by omega) with hw | ⟨-, -, h1, h2, hI2, h3, h4⟩
    · skip
      rw [hw] at er hB2
      have hP := hB2 (show (3 : Int32) ≠ 0 by decide)
      subst er
      refine sy_topL (y := lI (-9000000000000000003)) rfl ?_
      refine lv_lstore (lv' := [(16, .long (lI (-9000000000000000003))), (14, .long (lI ((g 68 0).toInt))), (13, .int (nI (1 + ((y / 16) % 400)))), (8, .int (nI y)), (6, .int (nI k)), (5, .int 1), (4, .int (nI nK)), (3, .int (nI nT)), (2, .ref (ad 90)), (1, .ref (ad 60)), (0, .ref b)]) hx hb dL_law_280 hl (by decide) rfl (fun ls hl => ?_)
      refine lv_iload hx hb dL_law_282 (lv_at hl 5 rfl) ?_
      refine lv_if_eq (tgt := 354) hx hb dL_law_284 (by decide) (fun cz9 => absurd cz9 (by decide)) (fun _ => ?_)
      refine lv_lload hx hb dL_law_287 (lv_at hl 0 rfl) ?_
      refine lv_ldc2 (v := lI (-9000000000000000003)) hx hb hown (hts _ (wsU_tbl uk_2_183)) dL_law_289 ?_
      refine W.lcmp hx hb dL_law_292 ?_
      refine lv_if_ne (tgt := 310) hx hb dL_law_293 (by decide) (fun cz9 => absurd (c_eq (a := (-9000000000000000003)) (b := (-9000000000000000003)) (by omega)) cz9) (fun _ => ?_)
      refine lv_aload_n hx hb dL_law_296 rfl (lv_at hl 9 rfl) ?_
      refine lv_iconst (v := 0) hx hb dL_law_297 (by decide) ?_
      refine sy_kl (vx_runSW (As := [.ref (ad 60), .int 0]) (rest := []) ⟨hx, hb, hml, hown, hts⟩ (mL_money l hfl Z nT nK cT cK ad g q 0 hI) (vx_cwSW 2 hts (gl_S uk_4_88 uk_4_89 uk_1_0 uk_4_90) rfl rfl rfl (by decide +kernel) ⟨Nat.le_of_ble_eq_true rfl, Nat.le_of_ble_eq_true rfl⟩) ⟨sPreL_blind _, fun U hU hW => ⟨rfl, ⟨hE.next hS hU hW.alike, by rw [hU]; exact hP⟩, hNc.next hW.alike⟩⟩ rfl rfl hl.1 rfl (lv_room (Nat.le_of_ble_eq_true rfl)) dL_law_298 ⟨by show _ ≤ 600074; (try dsimp only); omega, by show _ ≤ 7301550; (try dsimp only); omega⟩) hS (fun r gz qz H locs e9 hP hS => ?_)
      obtain ⟨er, eg, eq⟩ := eq_q (z := (g 68 0).toInt) a_M.1 rfl e9
      subst er; subst eg; subst eq
      refine lv_lload hx hb dL_law_301 (lv_at hl 1 rfl) ?_
      refine W.lcmp hx hb dL_law_303 ?_
      refine lv_if_ne (tgt := 354) hx hb dL_law_304 (by decide) (fun cz9 => absurd (c_eq (a := (g 68 0).toInt) (b := (g 68 0).toInt) (by omega)) cz9) (fun _ => ?_)
      refine lv_goto (tgt := 350) hx hb dL_law_307 (by decide) ?_
      refine lv_iconst (v := 1) hx hb dL_law_350 (by decide) ?_
      refine lv_goto (tgt := 355) hx hb dL_law_351 (by decide) ?_
      refine lv_istore (lv' := [(5, .int 1), (16, .long (lI (-9000000000000000003))), (14, .long (lI ((g 68 0).toInt))), (13, .int (nI (1 + ((y / 16) % 400)))), (8, .int (nI y)), (6, .int (nI k)), (4, .int (nI nK)), (3, .int (nI nT)), (2, .ref (ad 90)), (1, .ref (ad 60)), (0, .ref b)]) hx hb dL_law_355 hl (by decide) rfl (fun ls hl => ?_)
      refine lv_iload hx hb dL_law_357 (lv_at hl 6 rfl) ?_
      refine lv_lload hx hb dL_law_359 (lv_at hl 1 rfl) ?_
      refine lv_lconst (v := lI 0) hx hb dL_law_361 rfl ?_
      refine W.lcmp hx hb dL_law_362 ?_
      refine lv_if_lt (tgt := 370) hx hb dL_law_363 (by decide) (fun _ => ?_) (fun cz9 => absurd (by rw [(c_lt (a := (-9000000000000000003)) (b := 0) (by omega) (by omega) (by omega))]; decide) cz9)
      refine lv_iconst (v := 0) hx hb dL_law_370 (by decide) ?_
      refine lv_iadd hx hb dL_law_371 ?_
      refine sy_top (y := nI (nK + 0)) (nI_add nK 0) ?_
      refine lv_istore (lv' := [(4, .int (nI (nK + 0))), (5, .int 1), (16, .long (lI (-9000000000000000003))), (14, .long (lI ((g 68 0).toInt))), (13, .int (nI (1 + ((y / 16) % 400)))), (8, .int (nI y)), (6, .int (nI k)), (3, .int (nI nT)), (2, .ref (ad 90)), (1, .ref (ad 60)), (0, .ref b)]) hx hb dL_law_372 hl (by decide) rfl (fun ls hl => ?_)
      refine lv_goto (tgt := 1280) hx hb dL_law_374 (by decide) ?_
      refine W.widen (k := 100 + 2000 * k + 100) (n := 4000 + 14000 * k + 1000) (by (try dsimp only); omega) (by (try dsimp only); omega) ?_
      exact hJ _ _ _ _ _ _ _ _ _ _ (by omega) ⟨hP, (ci_n (by omega) hI), h70, h71, hS, lv_sub hl [6, 1, 0, 7, 8, 9, 10] rfl⟩
    · skip
      have hP := hB1 h1
      obtain ⟨had, eg, eq⟩ := hp h1
      rw [h1, h2] at er
      subst er
      rw [← eg, ← eq] at hI2
      rw [← eg] at h3 h4
      have hI := hI2
      clear eg eq h1 h2
      have h60 := had 60 (by omega) (by omega)
      have h90 := had 90 (by omega) (by omega)
      rw [← h60, ← h90] at hl
      refine sy_topL (y := lI ((nK : Nat) : Int)) (nI_L (by omega)) ?_
      have b1 := i32b (g1 68 0)
      refine lv_lstore (lv' := [(16, .long (lI ((nK : Nat) : Int))), (14, .long (lI ((g 68 0).toInt))), (13, .int (nI (1 + ((y / 16) % 400)))), (8, .int (nI y)), (6, .int (nI k)), (5, .int 1), (4, .int (nI nK)), (3, .int (nI nT)), (2, .ref (ad1 90)), (1, .ref (ad1 60)), (0, .ref b)]) hx hb dL_law_280 hl (by decide) rfl (fun ls hl => ?_)
      refine lv_iload hx hb dL_law_282 (lv_at hl 5 rfl) ?_
      refine lv_if_eq (tgt := 354) hx hb dL_law_284 (by decide) (fun cz9 => absurd cz9 (by decide)) (fun _ => ?_)
      refine lv_lload hx hb dL_law_287 (lv_at hl 0 rfl) ?_
      refine lv_ldc2 (v := lI (-9000000000000000003)) hx hb hown (hts _ (wsU_tbl uk_2_183)) dL_law_289 ?_
      refine W.lcmp hx hb dL_law_292 ?_
      refine lv_if_ne (tgt := 310) hx hb dL_law_293 (by decide) (fun _ => ?_) (fun cz9 => absurd cz9 (c_ne (a := ((nK : Nat) : Int)) (b := (-9000000000000000003)) (by omega) (by omega) (by omega)))
      refine lv_lload hx hb dL_law_310 (lv_at hl 0 rfl) ?_
      refine lv_iload hx hb dL_law_312 (lv_at hl 6 rfl) ?_
      refine lv_i2l (v := lI ((nK : Nat) : Int)) hx hb dL_law_314 (nI_L (by omega)) ?_
      refine W.lcmp hx hb dL_law_315 ?_
      refine lv_if_ne (tgt := 354) hx hb dL_law_316 (by decide) (fun cz9 => absurd (c_eq (a := ((nK : Nat) : Int)) (b := ((nK : Nat) : Int)) (by omega)) cz9) (fun _ => ?_)
      refine lv_aload_n hx hb dL_law_319 rfl (lv_at hl 9 rfl) ?_
      refine lv_iconst (v := 0) hx hb dL_law_320 (by decide) ?_
      refine sy_kl (vx_runSW (As := [.ref (ad1 60), .int 0]) (rest := []) ⟨hx, hb, hml, hown, hts⟩ (mL_money l hfl Z nT (nK + 1) cT (sCap nK cK) ad1 g1 q1 0 hI) (vx_cwSW 2 hts (gl_S uk_4_88 uk_4_89 uk_1_0 uk_4_90) rfl rfl rfl (by decide +kernel) ⟨Nat.le_of_ble_eq_true rfl, Nat.le_of_ble_eq_true rfl⟩) ⟨sPreL_blind _, fun U hU hW => ⟨rfl, ⟨hE.next hS hU hW.alike, by rw [hU]; exact hP⟩, hNc.next hW.alike⟩⟩ rfl rfl hl.1 rfl (lv_room (Nat.le_of_ble_eq_true rfl)) dL_law_321 ⟨by show _ ≤ 600074; (try dsimp only); omega, by show _ ≤ 7301550; (try dsimp only); omega⟩) hS (fun r gz qz H locs e9 hP hS => ?_)
      obtain ⟨er, eg, eq⟩ := eq_q (z := (g1 68 0).toInt) a_M.1 rfl e9
      subst er; subst eg; subst eq
      refine lv_lload hx hb dL_law_324 (lv_at hl 1 rfl) ?_
      refine lv_iload hx hb dL_law_326 (lv_at hl 2 rfl) ?_
      refine lv_i2l (v := lI (((1 + ((y / 16) % 400)) : Nat) : Int)) hx hb dL_law_328 (nI_L (by omega)) ?_
      refine lv_lsub hx hb dL_law_329 ?_
      refine sy_topL (y := lI ((g 68 0).toInt - (((1 + ((y / 16) % 400)) : Nat) : Int))) (lI_sub _ _) ?_
      refine W.lcmp hx hb dL_law_330 ?_
      refine lv_if_ne (tgt := 354) hx hb dL_law_331 (by decide) (fun cz9 => absurd (c_eq (a := (g1 68 0).toInt) (b := ((g 68 0).toInt - (((1 + ((y / 16) % 400)) : Nat) : Int))) (by omega)) cz9) (fun _ => ?_)
      refine lv_aload_n hx hb dL_law_334 rfl (lv_at hl 9 rfl) ?_
      refine lv_iload hx hb dL_law_335 (lv_at hl 6 rfl) ?_
      refine lv_iconst (v := 4) hx hb dL_law_337 (by decide) ?_
      refine sy_kl (vx_runSW (As := [.ref (ad1 60), .int (nI nK), .int 4]) (rest := []) ⟨hx, hb, hml, hown, hts⟩ (mL_ticketOf l hfl Z nT (nK + 1) cT (sCap nK cK) ad1 g1 q1 (nI nK) 4 hI) (vx_cwSW 3 hts (gl_S uk_4_53 uk_4_54 uk_1_0 uk_4_55) rfl rfl rfl (by decide +kernel) ⟨Nat.le_of_ble_eq_true rfl, Nat.le_of_ble_eq_true rfl⟩) ⟨sPreL_blind _, fun U hU hW => ⟨rfl, ⟨hE.next hS hU hW.alike, by rw [hU]; exact hP⟩, hNc.next hW.alike⟩⟩ rfl rfl hl.1 rfl (lv_room (Nat.le_of_ble_eq_true rfl)) dL_law_338 ⟨by show _ ≤ 600074; (try dsimp only); omega, by show _ ≤ 7301550; (try dsimp only); omega⟩) hS (fun r gz qz H locs e9 hP hS => ?_)
      obtain ⟨er, eg, eq⟩ := eq_q (z := ((y % 3 : Nat) : Int)) (a_K hI (j := nK) (by omega)).2.2.2.2.1 (by rw [h4]; exact nI_toInt (by omega)) e9
      subst er; subst eg; subst eq
      refine lv_iload hx hb dL_law_341 (lv_at hl 3 rfl) ?_
      refine lv_iconst (v := 3) hx hb dL_law_343 (by decide) ?_
      refine lv_irem hx hb dL_law_344 (by decide) ?_
      refine sy_top (y := nI (y % 3)) (nI_rem (a := y) (b := 3) (by omega) (by omega)) ?_
      refine lv_i2l (v := lI (((y % 3) : Nat) : Int)) hx hb dL_law_345 (nI_L (by omega)) ?_
      refine W.lcmp hx hb dL_law_346 ?_
      refine lv_if_ne (tgt := 354) hx hb dL_law_347 (by decide) (fun cz9 => absurd (c_eq (a := ((y % 3 : Nat) : Int)) (b := (((y % 3) : Nat) : Int)) (by omega)) cz9) (fun _ => ?_)
      refine lv_iconst (v := 1) hx hb dL_law_350 (by decide) ?_
      refine lv_goto (tgt := 355) hx hb dL_law_351 (by decide) ?_
      refine lv_istore (lv' := [(5, .int 1), (16, .long (lI ((nK : Nat) : Int))), (14, .long (lI ((g 68 0).toInt))), (13, .int (nI (1 + ((y / 16) % 400)))), (8, .int (nI y)), (6, .int (nI k)), (4, .int (nI nK)), (3, .int (nI nT)), (2, .ref (ad1 90)), (1, .ref (ad1 60)), (0, .ref b)]) hx hb dL_law_355 hl (by decide) rfl (fun ls hl => ?_)
      refine lv_iload hx hb dL_law_357 (lv_at hl 6 rfl) ?_
      refine lv_lload hx hb dL_law_359 (lv_at hl 1 rfl) ?_
      refine lv_lconst (v := lI 0) hx hb dL_law_361 rfl ?_
      refine W.lcmp hx hb dL_law_362 ?_
      refine lv_if_lt (tgt := 370) hx hb dL_law_363 (by decide) (fun cz9 => absurd cz9 (c_ge (a := ((nK : Nat) : Int)) (b := 0) (by omega) (by omega) (by omega))) (fun _ => ?_)
      refine lv_iconst (v := 1) hx hb dL_law_366 (by decide) ?_
      refine lv_goto (tgt := 371) hx hb dL_law_367 (by decide) ?_
      refine lv_iadd hx hb dL_law_371 ?_
      refine sy_top (y := nI (nK + 1)) (nI_add nK 1) ?_
      refine lv_istore (lv' := [(4, .int (nI (nK + 1))), (5, .int 1), (16, .long (lI ((nK : Nat) : Int))), (14, .long (lI ((g 68 0).toInt))), (13, .int (nI (1 + ((y / 16) % 400)))), (8, .int (nI y)), (6, .int (nI k)), (3, .int (nI nT)), (2, .ref (ad1 90)), (1, .ref (ad1 60)), (0, .ref b)]) hx hb dL_law_372 hl (by decide) rfl (fun ls hl => ?_)
      refine lv_goto (tgt := 1280) hx hb dL_law_374 (by decide) ?_
      refine W.widen (k := 100 + 2000 * k + 100) (n := 4000 + 14000 * k + 1000) (by (try dsimp only); omega) (by (try dsimp only); omega) ?_
      exact hJ _ _ _ _ _ _ _ _ _ _ (by omega) ⟨hP, (ci_n (by omega) hI), (fun z => (had 70 (by omega) (by omega)).trans (h70 z)), (fun z => absurd z (by have := hI.1.2.2.2.2.2.2.1; omega)), hS, lv_sub hl [6, 1, 0, 7, 8, 9, 10] rfl⟩
  by_cases h5y : y / 256 % 2 = 0
  · skip
    refine lv_if_ne (tgt := 276) hx hb dL_law_269 (by decide) (fun cz9 => absurd ((nI_eq (a := ((y / 256) % 2)) (b := 0) (by omega) (by omega)).mpr (by omega)) cz9) (fun _ => ?_)
    refine lv_iconst (v := 1) hx hb dL_law_272 (by decide) ?_
    refine lv_goto (tgt := 277) hx hb dL_law_273 (by decide) ?_
    exact hM _ (Or.inr rfl)
  · skip
    refine lv_if_ne (tgt := 276) hx hb dL_law_269 (by decide) (fun _ => ?_) (fun cz9 => absurd cz9 (mt (nI_eq (a := ((y / 256) % 2)) (b := 0) (by omega) (by omega)).mp (by omega)))
    refine lv_iconst (v := 0) hx hb dL_law_276 (by decide) ?_
    exact hM _ (Or.inl rfl)
set_option maxHeartbeats 8000000 in
set_option maxRecDepth 100000 in
theorem lc_A (hC : lCtx p l s m meth c b L xs Z) {k : Nat} (hk : k < 48) {nT nK cT cK : Nat} {ad : Nat → Nat} {g : sG} {q : sQ} {H : Heap} {locs : List Loc} {ls : Array Slot} {wh q9 c9 y : Nat} (hy : y < 2147483648) (hwh : wh < 16) (hcs : wh < 4 ∨ nT = 0) (h : lSt Z s b k (k + 1) nT nK cT cK ad g q H locs ls [(11, .int (nI c9)), (10, .int (nI q9)), (9, .int (nI wh)), (8, .int (nI y))]) (hJ : ∀ (nT nK cT cK : Nat) (ad : Nat → Nat) (g : sG) (q : sQ) (H : Heap) (locs : List Loc) (ls : Array Slot), 0 < nT → lSt Z s b k (k + 2) nT nK cT cK ad g q H locs ls [] → W p l e room_1 s m #[Value.ref b] below meth c H locs (100 + 2000 * k + 100) (4000 + 14000 * k + 1000) (lw_Z below #[Value.ref b] s) (F0 m 1280 ls [])) : W p l e room_1 s m #[Value.ref b] below meth c H locs (100 + 2000 * k) (4000 + 14000 * k) (lw_Z below #[Value.ref b] s) (F0 m 133 ls []) := by
  obtain ⟨hx, hb, hr, hml, hown, hts, hX, hbl, hlocks, hZ, hE, hNc, hfl⟩ := hC
  obtain ⟨hP, hI, h70, h71, hS, hl⟩ := h
  have hl : lv_has ls 18 [(11, .int (nI c9)), (10, .int (nI q9)), (9, .int (nI wh)), (8, .int (nI y)), (6, .int (nI k)), (5, .int 1), (4, .int (nI nK)), (3, .int (nI nT)), (2, .ref (ad 90)), (1, .ref (ad 60)), (0, .ref b)] := hl
  have hT40 := ci_T hI
  have hK40 := ci_K hI
  have hC0 : lCtx p l s m meth c b L xs Z := ⟨hx, hb, hr, hml, hown, hts, hX, hbl, hlocks, hZ, hE, hNc, hfl⟩
  have hM : W p l e room_1 s m #[Value.ref b] below meth c H locs (100 + 2000 * k) (4000 + 14000 * k) (lw_Z below #[Value.ref b] s) (F0 m 143 ls []) := by
    refine lv_iconst (v := 1) hx hb dL_law_143 (by decide) ?_
    refine lv_iload hx hb dL_law_144 (lv_at hl 3 rfl) ?_
    refine lv_iconst (v := 4) hx hb dL_law_146 (by decide) ?_
    refine lv_idiv hx hb dL_law_147 (by decide) ?_
    refine sy_top (y := nI (y / 4)) (nI_div (a := y) (b := 4) (by omega) (by omega)) ?_
    refine lv_bipush (v := 30) hx hb dL_law_148 (by decide) ?_
    refine lv_irem hx hb dL_law_150 (by decide) ?_
    refine sy_top (y := nI ((y / 4) % 30)) (nI_rem (a := (y / 4)) (b := 30) (by omega) (by omega)) ?_
    refine lv_iadd hx hb dL_law_151 ?_
    refine sy_top (y := nI (1 + ((y / 4) % 30))) (nI_add 1 ((y / 4) % 30)) ?_
    refine lv_istore (lv' := [(12, .int (nI (1 + ((y / 4) % 30)))), (11, .int (nI c9)), (10, .int (nI q9)), (9, .int (nI wh)), (8, .int (nI y)), (6, .int (nI k)), (5, .int 1), (4, .int (nI nK)), (3, .int (nI nT)), (2, .ref (ad 90)), (1, .ref (ad 60)), (0, .ref b)]) hx hb dL_law_152 hl (by decide) rfl (fun ls hl => ?_)
    refine lv_aload_n hx hb dL_law_154 rfl (lv_at hl 10 rfl) ?_
    refine lv_iload hx hb dL_law_155 (lv_at hl 4 rfl) ?_
    refine lv_iconst (v := 4) hx hb dL_law_157 (by decide) ?_
    refine lv_irem hx hb dL_law_158 (by decide) ?_
    refine sy_top (y := nI (y % 4)) (nI_rem (a := y) (b := 4) (by omega) (by omega)) ?_
    refine lv_iload hx hb dL_law_159 (lv_at hl 0 rfl) ?_
    refine lv_sipush (v := 500) hx hb dL_law_161 (by decide) ?_
    refine lv_iload hx hb dL_law_164 (lv_at hl 4 rfl) ?_
    refine lv_sipush (v := 128) hx hb dL_law_166 (by decide) ?_
    refine lv_idiv hx hb dL_law_169 (by decide) ?_
    refine sy_top (y := nI (y / 128)) (nI_div (a := y) (b := 128) (by omega) (by omega)) ?_
    refine lv_sipush (v := 5000) hx hb dL_law_170 (by decide) ?_
    refine lv_irem hx hb dL_law_173 (by decide) ?_
    refine sy_top (y := nI ((y / 128) % 5000)) (nI_rem (a := (y / 128)) (b := 5000) (by omega) (by omega)) ?_
    refine lv_iadd hx hb dL_law_174 ?_
    refine sy_top (y := nI (500 + ((y / 128) % 5000))) (nI_add 500 ((y / 128) % 5000)) ?_
    refine va_calll (vx_runSW (As := [.ref (ad 60), .int (nI (y % 4)), .int (nI (1 + ((y / 4) % 30))), .int (nI (500 + ((y / 128) % 5000)))]) (rest := []) ⟨hx, hb, hml, hown, hts⟩ (mL_thing l hfl Z nT nK cT cK ad g q (nI (y % 4)) (nI (1 + ((y / 4) % 30))) (nI (500 + ((y / 128) % 5000))) hI h70) (vx_cwSW 4 hts (gl_S uk_1_192 uk_1_193 uk_1_0 uk_1_194) rfl rfl rfl (by decide +kernel) ⟨Nat.le_of_ble_eq_true rfl, Nat.le_of_ble_eq_true rfl⟩) ⟨sPreL_blind _, fun U hU hW => ⟨rfl, ⟨hE.next hS hU hW.alike, by rw [hU]; exact hP⟩, hNc.next hW.alike⟩⟩ rfl rfl hl.1 rfl (lv_room (Nat.le_of_ble_eq_true rfl)) dL_law_175 ⟨by show _ ≤ 600074; (try dsimp only); omega, by show _ ≤ 7301550; (try dsimp only); omega⟩) hS (fun _ _ h => h) (fun _ h => h) (fun r u t H locs ht _ hp hB _ _ hS => ?_)
    obtain ⟨ad1, g1, q1⟩ := u
    obtain ⟨-, hB1, hB2⟩ := hB
    rw [ht] at hB1 hB2
    obtain ⟨er, hp⟩ := hp
    dsimp only at hp hB1
    rcases p_thing hI (k := y % 4) (w := (1 + ((y / 4) % 30))) (v := (500 + ((y / 128) % 5000))) (by omega) (by omega) (by omega) with ⟨hn4, hw⟩ | ⟨hn4, hw⟩
    · skip
      rw [hw] at er hB2
      have hP := hB2 (show (3 : Int32) ≠ 0 by decide)
      subst er
      refine sy_topL (y := lI (-9000000000000000003)) rfl ?_
      refine lv_iload_n hx hb dL_law_178 rfl (lv_at hl 8 rfl) ?_
      refine lv_bipush (v := 40) hx hb dL_law_179 (by decide) ?_
      refine lv_icmp_ne (tgt := 190) hx hb dL_law_181 (by decide) (fun cz9 => absurd ((nI_eq (a := nT) (b := 40) (by omega) (by omega)).mpr (by omega)) cz9) (fun _ => ?_)
      refine lv_ldc2 (v := lI (-9000000000000000003)) hx hb hown (hts _ (wsU_tbl uk_2_183)) dL_law_184 ?_
      refine lv_goto (tgt := 192) hx hb dL_law_187 (by decide) ?_
      refine W.lcmp hx hb dL_law_192 ?_
      refine lv_if_ne (tgt := 200) hx hb dL_law_193 (by decide) (fun cz9 => absurd (c_eq (a := (-9000000000000000003)) (b := (-9000000000000000003)) (by omega)) cz9) (fun _ => ?_)
      refine lv_iconst (v := 1) hx hb dL_law_196 (by decide) ?_
      refine lv_goto (tgt := 201) hx hb dL_law_197 (by decide) ?_
      refine lv_istore (lv' := [(5, .int 1), (12, .int (nI (1 + ((y / 4) % 30)))), (11, .int (nI c9)), (10, .int (nI q9)), (9, .int (nI wh)), (8, .int (nI y)), (6, .int (nI k)), (4, .int (nI nK)), (3, .int (nI nT)), (2, .ref (ad 90)), (1, .ref (ad 60)), (0, .ref b)]) hx hb dL_law_201 hl (by decide) rfl (fun ls hl => ?_)
      refine lv_iload_n hx hb dL_law_203 rfl (lv_at hl 8 rfl) ?_
      refine lv_bipush (v := 40) hx hb dL_law_204 (by decide) ?_
      refine lv_icmp_ge (tgt := 217) hx hb dL_law_206 (by decide) (fun _ => ?_) (fun cz9 => absurd ((nI_leI (a := 40) (b := nT) (by omega) (by omega)).mpr (by omega)) cz9)
      refine W.widen (k := 100 + 2000 * k + 10) (n := 4000 + 14000 * k + 120) (by (try dsimp only); omega) (by (try dsimp only); omega) ?_
      exact lc_A2 hC0 hk hy (by omega) ⟨hP, hI, h70, h71, hS, lv_sub hl [5, 6, 0, 7, 8, 9, 10, 11] rfl⟩ hJ
    · skip
      have h1 : (fX6_thing g q nT (nI (y % 4)) (nI (1 + ((y / 4) % 30))) (nI (500 + ((y / 128) % 5000)))).1 = 0 := by rw [hw]
      have hP := hB1 h1
      obtain ⟨had, eg, eq⟩ := hp h1
      rw [hw] at er eg eq
      subst er
      dsimp only at eg eq
      have hI2 := ci_thing (k := y % 4) (w := (1 + ((y / 4) % 30))) (x2 := nI (500 + ((y / 128) % 5000))) hI hn4 (by omega) (by omega)
      rw [← eg, ← eq] at hI2
      clear eg eq h1 hw
      have h60 := had 60 (by omega) (by omega)
      have h90 := had 90 (by omega) (by omega)
      rw [← h60, ← h90] at hl
      refine sy_topL (y := lI ((nT : Nat) : Int)) (nI_L (by omega)) ?_
      refine lv_iload_n hx hb dL_law_178 rfl (lv_at hl 8 rfl) ?_
      refine lv_bipush (v := 40) hx hb dL_law_179 (by decide) ?_
      refine lv_icmp_ne (tgt := 190) hx hb dL_law_181 (by decide) (fun _ => ?_) (fun cz9 => absurd cz9 (mt (nI_eq (a := nT) (b := 40) (by omega) (by omega)).mp (by omega)))
      refine lv_iload_n hx hb dL_law_190 rfl (lv_at hl 8 rfl) ?_
      refine lv_i2l (v := lI ((nT : Nat) : Int)) hx hb dL_law_191 (nI_L (by omega)) ?_
      refine W.lcmp hx hb dL_law_192 ?_
      refine lv_if_ne (tgt := 200) hx hb dL_law_193 (by decide) (fun cz9 => absurd (c_eq (a := ((nT : Nat) : Int)) (b := ((nT : Nat) : Int)) (by omega)) cz9) (fun _ => ?_)
      refine lv_iconst (v := 1) hx hb dL_law_196 (by decide) ?_
      refine lv_goto (tgt := 201) hx hb dL_law_197 (by decide) ?_
      refine lv_istore (lv' := [(5, .int 1), (12, .int (nI (1 + ((y / 4) % 30)))), (11, .int (nI c9)), (10, .int (nI q9)), (9, .int (nI wh)), (8, .int (nI y)), (6, .int (nI k)), (4, .int (nI nK)), (3, .int (nI nT)), (2, .ref (ad1 90)), (1, .ref (ad1 60)), (0, .ref b)]) hx hb dL_law_201 hl (by decide) rfl (fun ls hl => ?_)
      refine lv_iload_n hx hb dL_law_203 rfl (lv_at hl 8 rfl) ?_
      refine lv_bipush (v := 40) hx hb dL_law_204 (by decide) ?_
      refine lv_icmp_ge (tgt := 217) hx hb dL_law_206 (by decide) (fun cz9 => absurd cz9 (mt (nI_leI (a := 40) (b := nT) (by omega) (by omega)).mp (by omega))) (fun _ => ?_)
      refine lv_aload_n hx hb dL_law_209 rfl (lv_at hl 9 rfl) ?_
      refine lv_iload_n hx hb dL_law_210 rfl (lv_at hl 8 rfl) ?_
      refine lv_iload hx hb dL_law_211 (lv_at hl 1 rfl) ?_
      refine sy_iastN hx hb hE hP hS 90 rfl (i := nI nT) (show vp_in (nI nT) 40 from vp_in_nI (by omega) (by decide)) nT (nI_clamp (by omega)) dL_law_213 (fun H locs hP hS => ?_)
      have hI := hI2
      refine lv_iinc (v := nI (nT + 1)) (lv' := [(3, .int (nI (nT + 1))), (5, .int 1), (12, .int (nI (1 + ((y / 4) % 30)))), (11, .int (nI c9)), (10, .int (nI q9)), (9, .int (nI wh)), (8, .int (nI y)), (6, .int (nI k)), (4, .int (nI nK)), (2, .ref (ad1 90)), (1, .ref (ad1 60)), (0, .ref b)]) hx hb dL_law_214 hl (k := 8) rfl (nI_add nT 1) (by decide) rfl (fun ls hl => ?_)
      refine W.widen (k := 100 + 2000 * k + 10) (n := 4000 + 14000 * k + 120) (by (try dsimp only); omega) (by (try dsimp only); omega) ?_
      exact lc_A2 hC0 hk hy (by omega) ⟨hP, hI, (fun z => absurd z (by have := hI.1.2.2.1; omega)), (fun z => (had 71 (by omega) (by omega)).trans (h71 z)), hS, lv_sub hl [6, 7, 1, 8, 0, 9, 10, 11] rfl⟩ hJ
  by_cases h4 : wh < 4
  · skip
    refine lv_iload hx hb dL_law_133 (lv_at hl 2 rfl) ?_
    refine lv_iconst (v := 4) hx hb dL_law_135 (by decide) ?_
    refine lv_icmp_lt (tgt := 143) hx hb dL_law_136 (by decide) (fun _ => ?_) (fun cz9 => absurd ((nI_ltI (a := wh) (b := 4) (by omega) (by omega)).mpr (by omega)) cz9)
    exact hM
  · skip
    refine lv_iload hx hb dL_law_133 (lv_at hl 2 rfl) ?_
    refine lv_iconst (v := 4) hx hb dL_law_135 (by decide) ?_
    refine lv_icmp_lt (tgt := 143) hx hb dL_law_136 (by decide) (fun cz9 => absurd cz9 (mt (nI_ltI (a := wh) (b := 4) (by omega) (by omega)).mp (by omega))) (fun _ => ?_)
    refine lv_iload_n hx hb dL_law_139 rfl (lv_at hl 7 rfl) ?_
    refine lv_if_ne (tgt := 377) hx hb dL_law_140 (by decide) (fun cz9 => absurd ((nI_eq (a := nT) (b := 0) (by omega) (by omega)).mpr (by omega)) cz9) (fun _ => ?_)
    exact hM
end LWC
