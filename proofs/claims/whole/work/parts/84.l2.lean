theorem gl_S {c1 : Cond} {own : String} {idx : Nat} {y : MethodName} (h1 : Cond.methodLink own idx y ∈ wsU) (h2 : Cond.static y ∈ wsU) (h4 : Cond.initialized y.cls ∈ wsU) (h5 : c1 ∈ wsU) : GoodIn lw_tbl (va_wsS own idx y (uW c1)) :=
  gl_app (List.forall_mem_cons.mpr ⟨h1, List.forall_mem_cons.mpr ⟨h2, List.forall_mem_cons.mpr ⟨h4, fun _ h => absurd h List.not_mem_nil⟩⟩⟩) h5
theorem gl_V {c1 : Cond} {own C : String} {idx : Nat} {y : MethodName} (h1 : Cond.methodLink own idx y ∈ wsU) (h2 : Cond.instanceMethod y ∈ wsU) (h3 : Cond.selects C y y ∈ wsU) (h4 : Cond.initialized C ∈ wsU) (h5 : c1 ∈ wsU) : GoodIn lw_tbl (wsV own idx C y (uW c1)) :=
  gl_app (List.forall_mem_cons.mpr ⟨h1, List.forall_mem_cons.mpr ⟨h2, List.forall_mem_cons.mpr ⟨h3, List.forall_mem_cons.mpr ⟨h4, fun _ h => absurd h List.not_mem_nil⟩⟩⟩⟩) h5
theorem wf_ne {a b c x : Int32} (h0 : x ≠ 0) (h9 : wf a b c x ≠ 9) : wf a b c x ≠ 0 ∨ (a = 0 ∨ b = 0 ∨ c = 0) := by
  by_cases z : wf a b c x = 0
  · right
    unfold wf at z h9
    rw [if_neg h0] at z h9
    by_cases h1 : x = 1
    · rw [if_pos h1] at z; exact Or.inl z
    · rw [if_neg h1] at z h9
      by_cases h2 : x = 2
      · rw [if_pos h2] at z; exact Or.inr (Or.inl z)
      · rw [if_neg h2] at z h9
        by_cases h3 : x = 3
        · rw [if_pos h3] at z; exact Or.inr (Or.inr z)
        · rw [if_neg h3] at z; exact absurd z (by decide)
  · exact Or.inl z
/-- what stands for the law's whole run -/
def lCtx (p : Program) (l : Launch) (s : State) (m : MethodId) (meth : Method) (c : Code) (b L : Nat) (xs : Nat → Int32) (Z : sZ) : Prop := p.tables.exec = Jvm.exec ∧ c.code = cL_law ∧ meth.sig.returnType = ret ∧ c.maxLocals = 7 ∧ s.vm.findClass RL = some m.cls ∧ (∀ w ∈ lw_tbl, w.before #[Value.ref b] s = true) ∧ va_X b L xs s s.heap ∧ b < s.heap.size ∧ meth.locks = false ∧ Z.2.2.1 = s.heap.size ∧ sEnv Z s ∧ sNc s ∧ l.stackTraces = false
/-- the state ahead of the k-th call; n: the calls that have been made -/
def lSt (Z : sZ) (s : State) (b k n nT nK cT cK : Nat) (ad : Nat → Nat) (g : sG) (q : sQ) (H : Heap) (locs : List Loc) (ls : Array Slot) : Prop := Sy Z nT nK cT cK ad g q H ∧ INV (n * oB) 40 40 nT nK cT cK g q g ∧ (cT = 0 → ad 70 = Z.2.2.2) ∧ (cK = 0 → ad 71 = Z.2.2.2) ∧ va_S (sy_A Z) s.heap H locs ∧ lv_has ls 7 [(4, .int (nI (7 * k))), (0, .ref b), (1, .ref (ad 60)), (2, .ref (ad 0)), (3, .ref (ad 90))]
section LWC
variable {p : Program} {l : Launch} {e : Env} {s : State} {m : MethodId} {below : List Frame} {meth : Method} {c : Code} {b L : Nat} {xs : Nat → Int32} {Z : sZ}
set_option maxHeartbeats 8000000 in
set_option maxRecDepth 100000 in
theorem lc_thing (hC : lCtx p l s m meth c b L xs Z) {k : Nat} (hk : 7 * k + 7 ≤ L) (hL : L ≤ 3584) (hJ : ∀ (nT nK cT cK : Nat) (ad : Nat → Nat) (g : sG) (q : sQ) (H : Heap) (locs : List Loc) (ls : Array Slot), lSt Z s b k (k + 1) nT nK cT cK ad g q H locs ls → W p l e room_1 s m #[Value.ref b] below meth c H locs (100 + 16 * (k + 1)) (4000 + 200 * (k + 1)) (lw_Z below #[Value.ref b] s) (F0 m 2272 ls []))
    {nT nK cT cK : Nat} {ad : Nat → Nat} {g : sG} {q : sQ} {H : Heap} {locs : List Loc} {ls : Array Slot} (h : lSt Z s b k k nT nK cT cK ad g q H locs ls) : W p l e room_1 s m #[Value.ref b] below meth c H locs (100 + 16 * k) (4000 + 200 * k) (lw_Z below #[Value.ref b] s) (F0 m 188 ls []) := by
  obtain ⟨hx, hb, hr, hml, hown, hts, hX, hbl, hlocks, hZ, hE, hNc, hfl⟩ := hC
  obtain ⟨hP, hI, h70, h71, hS, hl⟩ := h
  have hbA : ¬ sy_A Z b := fun z => absurd (show Z.2.2.1 ≤ b from z) (by omega)
  have hkB : k * oB ≤ 2048000000 := by
    have : k ≤ 511 := by omega
    calc k * oB ≤ 511 * 4000000 := Nat.mul_le_mul this (Nat.le_refl _)
      _ ≤ 2048000000 := by decide
  refine lv_aload_n hx hb dL_law_188 rfl (lv_at hl 2 rfl) ?_
  refine lv_aload_n hx hb dL_law_189 rfl (lv_at hl 1 rfl) ?_
  refine lv_iload hx hb dL_law_190 (lv_at hl 0 rfl) ?_
  refine lv_iconst (v := 1) hx hb dL_law_192 (by decide) ?_
  refine lv_iadd hx hb dL_law_193 ?_
  refine sy_top (y := nI (7 * k + 1)) (nI_add _ _) ?_
  refine va_sld hx hb hX hbl hbA hS (vp_in_nI (show 7 * k + 1 < L by omega) (by omega)) dL_law_194 ?_
  refine sy_top (y := xs (7 * k + 1)) (by rw [nI_clamp (by omega)]) ?_
  refine lv_aload_n hx hb dL_law_195 rfl (lv_at hl 1 rfl) ?_
  refine lv_iload hx hb dL_law_196 (lv_at hl 0 rfl) ?_
  refine lv_iconst (v := 2) hx hb dL_law_198 (by decide) ?_
  refine lv_iadd hx hb dL_law_199 ?_
  refine sy_top (y := nI (7 * k + 2)) (nI_add _ _) ?_
  refine va_sld hx hb hX hbl hbA hS (vp_in_nI (show 7 * k + 2 < L by omega) (by omega)) dL_law_200 ?_
  refine sy_top (y := xs (7 * k + 2)) (by rw [nI_clamp (by omega)]) ?_
  refine lv_aload_n hx hb dL_law_201 rfl (lv_at hl 1 rfl) ?_
  refine lv_iload hx hb dL_law_202 (lv_at hl 0 rfl) ?_
  refine lv_iconst (v := 3) hx hb dL_law_204 (by decide) ?_
  refine lv_iadd hx hb dL_law_205 ?_
  refine sy_top (y := nI (7 * k + 3)) (nI_add _ _) ?_
  refine va_sld hx hb hX hbl hbA hS (vp_in_nI (show 7 * k + 3 < L by omega) (by omega)) dL_law_206 ?_
  refine sy_top (y := xs (7 * k + 3)) (by rw [nI_clamp (by omega)]) ?_
  refine lv_aload_n hx hb dL_law_207 rfl (lv_at hl 4 rfl) ?_
  have hCode : wf 1 2 3 (fX6_thing g q nT (xs (7 * k + 1)) (xs (7 * k + 2)) (xs (7 * k + 3))).1 ≠ 9 := (by
        by_cases z : (fX6_thing g q nT (xs (7 * k + 1)) (xs (7 * k + 2)) (xs (7 * k + 3))).1 = 0
        · rw [z]; exact (by decide : (0 : Int32) ≠ 9)
        · exact (st_non hI (fun gm hg => o_thing (q' := (fX6_thing g q nT (xs (7 * k + 1)) (xs (7 * k + 2)) (xs (7 * k + 3))).2.2.2) hg (xs (7 * k + 1)) (xs (7 * k + 2)) (xs (7 * k + 3))) (fun gm => f7_thing) z).2.1)
  refine va_calli (vx_runSW (As := [.ref (ad 60), .int (xs (7 * k + 1)), .int (xs (7 * k + 2)), .int (xs (7 * k + 3)), .ref (ad 90)]) (rest := []) ⟨hx, hb, hml, hown, hts⟩ (mL_thing l hfl Z nT nK cT cK ad g q (xs (7 * k + 1)) (xs (7 * k + 2)) (xs (7 * k + 3)) (inv_IG hI) (inv_IQ hI) hI.2.2.1.2.2.1 h70 hI.2.2.2.2.2.2.2.1.2.2.2.2.1 (fun o k e => by have := hI.2.2.2.2.2.2.2.1.2.2.2.2.2.2 o k _ e; omega) (fun o k e => by have := hI.2.2.2.2.2.2.2.1.2.2.2.2.2.2 o k _ e; have := inv_T hI; omega) hCode) (vx_cwSW 5 hts (gl_S uk_1_196 uk_1_197 uk_1_0 uk_1_198) rfl rfl rfl (by decide +kernel) ⟨Nat.le_of_ble_eq_true rfl, Nat.le_of_ble_eq_true rfl⟩) ⟨sPreL_blind _, fun U hU hW => ⟨rfl, ⟨hE.next hS hU hW.alike, by rw [hU]; exact hP⟩, hNc.next hW.alike⟩⟩ rfl rfl hl.1 rfl (lv_room (Nat.le_of_ble_eq_true rfl)) dL_law_208 ⟨by show _ ≤ 601024; (try dsimp only); omega, by show _ ≤ 7293034; (try dsimp only); omega⟩) hS (fun _ _ h => h) (fun _ h => h) (fun r u t H locs ht _ hp hB _ _ hS => ?_)
  obtain ⟨ad1, g1, q1⟩ := u
  obtain ⟨-, hB1, hB2⟩ := hB
  rw [ht] at hB1 hB2
  dsimp only at hp hB1
  rcases hp with ⟨h0, rfl, had, rfl, rfl⟩ | ⟨h0, rfl⟩
  · have hP := hB1 h0
    have h1060 := had 60 (by omega) (by omega)
    have h1000 := had 0 (by omega) (by omega)
    have h1090 := had 90 (by omega) (by omega)
    rw [← h1060, ← h1000, ← h1090] at hl
    refine lv_istore (lv' := [(5, .int 0), (4, .int (nI (7 * k))), (0, .ref b), (1, .ref (ad1 60)), (2, .ref (ad1 0)), (3, .ref (ad1 90))]) hx hb dL_law_211 hl (by decide) rfl (fun ls hl => ?_)
    have st := st_yesn hI (F := fun gm => fX7_thing gm (fX6_thing g q nT (xs (7 * k + 1)) (xs (7 * k + 2)) (xs (7 * k + 3))).2.2.2 (xs (7 * k + 1)) (xs (7 * k + 2)) (xs (7 * k + 3))) (fun gm hg => o_thing (q' := (fX6_thing g q nT (xs (7 * k + 1)) (xs (7 * k + 2)) (xs (7 * k + 3))).2.2.2) hg (xs (7 * k + 1)) (xs (7 * k + 2)) (xs (7 * k + 3))) f6_thing (fun gm => f7_thing) h0
    try dsimp only at st
    refine lv_aload_n hx hb dL_law_213 rfl (lv_at hl 4 rfl) ?_
    refine lv_aload_n hx hb dL_law_214 rfl (lv_at hl 2 rfl) ?_
    refine lv_iload hx hb dL_law_215 (lv_at hl 1 rfl) ?_
    refine lv_iconst (v := 1) hx hb dL_law_217 (by decide) ?_
    refine lv_iadd hx hb dL_law_218 ?_
    refine sy_top (y := nI (7 * k + 1)) (nI_add _ _) ?_
    refine va_sld hx hb hX hbl hbA hS (vp_in_nI (show 7 * k + 1 < L by omega) (by omega)) dL_law_219 ?_
    refine sy_top (y := xs (7 * k + 1)) (by rw [nI_clamp (by omega)]) ?_
    refine lv_aload_n hx hb dL_law_220 rfl (lv_at hl 2 rfl) ?_
    refine lv_iload hx hb dL_law_221 (lv_at hl 1 rfl) ?_
    refine lv_iconst (v := 2) hx hb dL_law_223 (by decide) ?_
    refine lv_iadd hx hb dL_law_224 ?_
    refine sy_top (y := nI (7 * k + 2)) (nI_add _ _) ?_
    refine va_sld hx hb hX hbl hbA hS (vp_in_nI (show 7 * k + 2 < L by omega) (by omega)) dL_law_225 ?_
    refine sy_top (y := xs (7 * k + 2)) (by rw [nI_clamp (by omega)]) ?_
    refine lv_aload_n hx hb dL_law_226 rfl (lv_at hl 2 rfl) ?_
    refine lv_iload hx hb dL_law_227 (lv_at hl 1 rfl) ?_
    refine lv_iconst (v := 3) hx hb dL_law_229 (by decide) ?_
    refine lv_iadd hx hb dL_law_230 ?_
    refine sy_top (y := nI (7 * k + 3)) (nI_add _ _) ?_
    refine va_sld hx hb hX hbl hbA hS (vp_in_nI (show 7 * k + 3 < L by omega) (by omega)) dL_law_231 ?_
    refine sy_top (y := xs (7 * k + 3)) (by rw [nI_clamp (by omega)]) ?_
    refine sy_ki (sy_rV (o := 0) (As := [.int (xs (7 * k + 1)), .int (xs (7 * k + 2)), .int (xs (7 * k + 3))]) (rest := []) ⟨hx, hb, hml, hown, hts⟩ hE hP hS (mX7_thing l hfl Z (nT + 1) nK (sCap nT cT) cK ad1 (sy_up (fX6_thing g q nT (xs (7 * k + 1)) (xs (7 * k + 2)) (xs (7 * k + 3))).2.2.1 90 0 (fX6_thing g q nT (xs (7 * k + 1)) (xs (7 * k + 2)) (xs (7 * k + 3))).2.1) (fX6_thing g q nT (xs (7 * k + 1)) (xs (7 * k + 2)) (xs (7 * k + 3))).2.2.2 (xs (7 * k + 1)) (xs (7 * k + 2)) (xs (7 * k + 3)) st.1.2.1) (cwV 3 hts (gl_V uk_5_97 uk_5_98 uk_5_99 uk_1_9 uk_5_100) rfl rfl rfl (by decide +kernel) ⟨Nat.le_of_ble_eq_true rfl, Nat.le_of_ble_eq_true rfl⟩) (sy_recv (kc := 8) hE hP rfl (by decide) rfl rfl rfl) rfl hl.1 rfl (Nat.le_of_ble_eq_true rfl) dL_law_232 ⟨by show _ ≤ 601024; (try dsimp only); omega, by show _ ≤ 7293034; (try dsimp only); omega⟩) hS (fun b2 g2 q2 H locs e2 hP hS => ?_)
    obtain ⟨rfl, rfl, rfl⟩ : (fX7_thing (sy_up (fX6_thing g q nT (xs (7 * k + 1)) (xs (7 * k + 2)) (xs (7 * k + 3))).2.2.1 90 0 (fX6_thing g q nT (xs (7 * k + 1)) (xs (7 * k + 2)) (xs (7 * k + 3))).2.1) (fX6_thing g q nT (xs (7 * k + 1)) (xs (7 * k + 2)) (xs (7 * k + 3))).2.2.2 (xs (7 * k + 1)) (xs (7 * k + 2)) (xs (7 * k + 3))).1 = b2 ∧ (fX7_thing (sy_up (fX6_thing g q nT (xs (7 * k + 1)) (xs (7 * k + 2)) (xs (7 * k + 3))).2.2.1 90 0 (fX6_thing g q nT (xs (7 * k + 1)) (xs (7 * k + 2)) (xs (7 * k + 3))).2.1) (fX6_thing g q nT (xs (7 * k + 1)) (xs (7 * k + 2)) (xs (7 * k + 3))).2.2.2 (xs (7 * k + 1)) (xs (7 * k + 2)) (xs (7 * k + 3))).2 = g2 ∧ (fX6_thing g q nT (xs (7 * k + 1)) (xs (7 * k + 2)) (xs (7 * k + 3))).2.2.2 = q2 := by cases e2; exact ⟨rfl, rfl, rfl⟩
    refine lv_istore (lv' := [(6, .int (fX7_thing (sy_up (fX6_thing g q nT (xs (7 * k + 1)) (xs (7 * k + 2)) (xs (7 * k + 3))).2.2.1 90 0 (fX6_thing g q nT (xs (7 * k + 1)) (xs (7 * k + 2)) (xs (7 * k + 3))).2.1) (fX6_thing g q nT (xs (7 * k + 1)) (xs (7 * k + 2)) (xs (7 * k + 3))).2.2.2 (xs (7 * k + 1)) (xs (7 * k + 2)) (xs (7 * k + 3))).1), (5, .int 0), (4, .int (nI (7 * k))), (0, .ref b), (1, .ref (ad1 60)), (2, .ref (ad1 0)), (3, .ref (ad1 90))]) hx hb dL_law_235 hl (by decide) rfl (fun ls hl => ?_)
    refine lv_aload_n hx hb dL_law_237 rfl (lv_at hl 5 rfl) ?_
    refine sy_ki (sy_rV (o := 0) (As := []) (rest := []) ⟨hx, hb, hml, hown, hts⟩ hE hP hS (mX7_thrown l hfl Z (nT + 1) nK (sCap nT cT) cK ad1 (fX7_thing (sy_up (fX6_thing g q nT (xs (7 * k + 1)) (xs (7 * k + 2)) (xs (7 * k + 3))).2.2.1 90 0 (fX6_thing g q nT (xs (7 * k + 1)) (xs (7 * k + 2)) (xs (7 * k + 3))).2.1) (fX6_thing g q nT (xs (7 * k + 1)) (xs (7 * k + 2)) (xs (7 * k + 3))).2.2.2 (xs (7 * k + 1)) (xs (7 * k + 2)) (xs (7 * k + 3))).2 (fX6_thing g q nT (xs (7 * k + 1)) (xs (7 * k + 2)) (xs (7 * k + 3))).2.2.2) (cwV 0 hts (gl_V uk_5_93 uk_5_94 uk_5_95 uk_1_9 uk_5_96) rfl rfl rfl (by decide +kernel) ⟨Nat.le_of_ble_eq_true rfl, Nat.le_of_ble_eq_true rfl⟩) (sy_recv (kc := 8) hE hP rfl (by decide) rfl rfl rfl) rfl hl.1 rfl (Nat.le_of_ble_eq_true rfl) dL_law_238 ⟨by show _ ≤ 601024; (try dsimp only); omega, by show _ ≤ 7293034; (try dsimp only); omega⟩) hS (fun b3 g3 q3 H locs e3 hP hS => ?_)
    obtain ⟨rfl, rfl, rfl⟩ : (fX7_thing (sy_up (fX6_thing g q nT (xs (7 * k + 1)) (xs (7 * k + 2)) (xs (7 * k + 3))).2.2.1 90 0 (fX6_thing g q nT (xs (7 * k + 1)) (xs (7 * k + 2)) (xs (7 * k + 3))).2.1) (fX6_thing g q nT (xs (7 * k + 1)) (xs (7 * k + 2)) (xs (7 * k + 3))).2.2.2 (xs (7 * k + 1)) (xs (7 * k + 2)) (xs (7 * k + 3))).2 0 0 = b3 ∧ (fX7_thing (sy_up (fX6_thing g q nT (xs (7 * k + 1)) (xs (7 * k + 2)) (xs (7 * k + 3))).2.2.1 90 0 (fX6_thing g q nT (xs (7 * k + 1)) (xs (7 * k + 2)) (xs (7 * k + 3))).2.1) (fX6_thing g q nT (xs (7 * k + 1)) (xs (7 * k + 2)) (xs (7 * k + 3))).2.2.2 (xs (7 * k + 1)) (xs (7 * k + 2)) (xs (7 * k + 3))).2 = g3 ∧ (fX6_thing g q nT (xs (7 * k + 1)) (xs (7 * k + 2)) (xs (7 * k + 3))).2.2.2 = q3 := by cases e3; exact ⟨rfl, rfl, rfl⟩
    refine sy_top (y := 0) st.2.1 ?_
    refine lv_iload hx hb dL_law_241 (lv_at hl 1 rfl) ?_
    refine lv_icmp_eq (tgt := 248) hx hb dL_law_243 (by decide) (fun _ => ?_) (fun c9 => absurd rfl c9)
    refine lv_iload hx hb dL_law_248 (lv_at hl 1 rfl) ?_
    refine lv_if_ne (tgt := 265) hx hb dL_law_250 (by decide) (fun c9 => absurd rfl c9) (fun _ => ?_)
    refine lv_aload_n hx hb dL_law_253 rfl (lv_at hl 6 rfl) ?_
    refine lv_iconst (v := 0) hx hb dL_law_254 (by decide) ?_
    refine sy_lald hx hb hE hP 90 rfl (i := 0) (k_in rfl) dL_law_255 ?_
    refine lv_iload hx hb dL_law_256 (lv_at hl 0 rfl) ?_
    refine lv_i2l (v := ((fX7_thing (sy_up (fX6_thing g q nT (xs (7 * k + 1)) (xs (7 * k + 2)) (xs (7 * k + 3))).2.2.1 90 0 (fX6_thing g q nT (xs (7 * k + 1)) (xs (7 * k + 2)) (xs (7 * k + 3))).2.1) (fX6_thing g q nT (xs (7 * k + 1)) (xs (7 * k + 2)) (xs (7 * k + 3))).2.2.2 (xs (7 * k + 1)) (xs (7 * k + 2)) (xs (7 * k + 3))).2 90 0).toInt64) hx hb dL_law_258 (by rw [st.2.2.2.1, st.2.2.1]) ?_
    refine lv_lcmp0 hx hb dL_law_259 ?_
    refine lv_if_eq (tgt := 265) hx hb dL_law_260 (by decide) (fun _ => ?_) (fun c9 => absurd rfl c9)
    refine lv_goto (tgt := 2272) hx hb dL_law_265 (by decide) ?_
    refine W.widen (k := 100 + 16 * (k + 1)) (n := 4000 + 200 * (k + 1)) (by (try dsimp only); omega) (by (try dsimp only); omega) ?_
    exact hJ _ _ _ _ _ _ _ _ _ _ ⟨hP, by rw [Nat.succ_mul]; exact st.2.2.2.2, (fun z => absurd z (by have := st.2.2.2.2.2.2.1.2.1; omega)), (fun z => (had 71 (by omega) (by have := inv_T hI; omega)).trans (h71 z)), hS, lv_sub hl [2, 3, 4, 5, 6] rfl⟩
  · have hP := hB2 h0
    refine lv_istore (lv' := [(5, .int (wf 1 2 3 (fX6_thing g q nT (xs (7 * k + 1)) (xs (7 * k + 2)) (xs (7 * k + 3))).1)), (4, .int (nI (7 * k))), (0, .ref b), (1, .ref (ad 60)), (2, .ref (ad 0)), (3, .ref (ad 90))]) hx hb dL_law_211 hl (by decide) rfl (fun ls hl => ?_)
    have st := st_non hI (F := fun gm => fX7_thing gm q (xs (7 * k + 1)) (xs (7 * k + 2)) (xs (7 * k + 3))) (fun gm hg => o_thing (q' := q) hg (xs (7 * k + 1)) (xs (7 * k + 2)) (xs (7 * k + 3))) (fun gm => f7_thing) h0
    try dsimp only at st
    refine lv_aload_n hx hb dL_law_213 rfl (lv_at hl 4 rfl) ?_
    refine lv_aload_n hx hb dL_law_214 rfl (lv_at hl 2 rfl) ?_
    refine lv_iload hx hb dL_law_215 (lv_at hl 1 rfl) ?_
    refine lv_iconst (v := 1) hx hb dL_law_217 (by decide) ?_
    refine lv_iadd hx hb dL_law_218 ?_
    refine sy_top (y := nI (7 * k + 1)) (nI_add _ _) ?_
    refine va_sld hx hb hX hbl hbA hS (vp_in_nI (show 7 * k + 1 < L by omega) (by omega)) dL_law_219 ?_
    refine sy_top (y := xs (7 * k + 1)) (by rw [nI_clamp (by omega)]) ?_
    refine lv_aload_n hx hb dL_law_220 rfl (lv_at hl 2 rfl) ?_
    refine lv_iload hx hb dL_law_221 (lv_at hl 1 rfl) ?_
    refine lv_iconst (v := 2) hx hb dL_law_223 (by decide) ?_
    refine lv_iadd hx hb dL_law_224 ?_
    refine sy_top (y := nI (7 * k + 2)) (nI_add _ _) ?_
    refine va_sld hx hb hX hbl hbA hS (vp_in_nI (show 7 * k + 2 < L by omega) (by omega)) dL_law_225 ?_
    refine sy_top (y := xs (7 * k + 2)) (by rw [nI_clamp (by omega)]) ?_
    refine lv_aload_n hx hb dL_law_226 rfl (lv_at hl 2 rfl) ?_
    refine lv_iload hx hb dL_law_227 (lv_at hl 1 rfl) ?_
    refine lv_iconst (v := 3) hx hb dL_law_229 (by decide) ?_
    refine lv_iadd hx hb dL_law_230 ?_
    refine sy_top (y := nI (7 * k + 3)) (nI_add _ _) ?_
    refine va_sld hx hb hX hbl hbA hS (vp_in_nI (show 7 * k + 3 < L by omega) (by omega)) dL_law_231 ?_
    refine sy_top (y := xs (7 * k + 3)) (by rw [nI_clamp (by omega)]) ?_
    refine sy_ki (sy_rV (o := 0) (As := [.int (xs (7 * k + 1)), .int (xs (7 * k + 2)), .int (xs (7 * k + 3))]) (rest := []) ⟨hx, hb, hml, hown, hts⟩ hE hP hS (mX7_thing l hfl Z nT nK cT cK ad g q (xs (7 * k + 1)) (xs (7 * k + 2)) (xs (7 * k + 3)) hI.2.1) (cwV 3 hts (gl_V uk_5_97 uk_5_98 uk_5_99 uk_1_9 uk_5_100) rfl rfl rfl (by decide +kernel) ⟨Nat.le_of_ble_eq_true rfl, Nat.le_of_ble_eq_true rfl⟩) (sy_recv (kc := 8) hE hP rfl (by decide) rfl rfl rfl) rfl hl.1 rfl (Nat.le_of_ble_eq_true rfl) dL_law_232 ⟨by show _ ≤ 601024; (try dsimp only); omega, by show _ ≤ 7293034; (try dsimp only); omega⟩) hS (fun b2 g2 q2 H locs e2 hP hS => ?_)
    obtain ⟨rfl, rfl, rfl⟩ : (fX7_thing g q (xs (7 * k + 1)) (xs (7 * k + 2)) (xs (7 * k + 3))).1 = b2 ∧ (fX7_thing g q (xs (7 * k + 1)) (xs (7 * k + 2)) (xs (7 * k + 3))).2 = g2 ∧ q = q2 := by cases e2; exact ⟨rfl, rfl, rfl⟩
    refine lv_istore (lv' := [(6, .int (fX7_thing g q (xs (7 * k + 1)) (xs (7 * k + 2)) (xs (7 * k + 3))).1), (5, .int (wf 1 2 3 (fX6_thing g q nT (xs (7 * k + 1)) (xs (7 * k + 2)) (xs (7 * k + 3))).1)), (4, .int (nI (7 * k))), (0, .ref b), (1, .ref (ad 60)), (2, .ref (ad 0)), (3, .ref (ad 90))]) hx hb dL_law_235 hl (by decide) rfl (fun ls hl => ?_)
    refine lv_aload_n hx hb dL_law_237 rfl (lv_at hl 5 rfl) ?_
    refine sy_ki (sy_rV (o := 0) (As := []) (rest := []) ⟨hx, hb, hml, hown, hts⟩ hE hP hS (mX7_thrown l hfl Z nT nK cT cK ad (fX7_thing g q (xs (7 * k + 1)) (xs (7 * k + 2)) (xs (7 * k + 3))).2 q) (cwV 0 hts (gl_V uk_5_93 uk_5_94 uk_5_95 uk_1_9 uk_5_96) rfl rfl rfl (by decide +kernel) ⟨Nat.le_of_ble_eq_true rfl, Nat.le_of_ble_eq_true rfl⟩) (sy_recv (kc := 8) hE hP rfl (by decide) rfl rfl rfl) rfl hl.1 rfl (Nat.le_of_ble_eq_true rfl) dL_law_238 ⟨by show _ ≤ 601024; (try dsimp only); omega, by show _ ≤ 7293034; (try dsimp only); omega⟩) hS (fun b3 g3 q3 H locs e3 hP hS => ?_)
    obtain ⟨rfl, rfl, rfl⟩ : (fX7_thing g q (xs (7 * k + 1)) (xs (7 * k + 2)) (xs (7 * k + 3))).2 0 0 = b3 ∧ (fX7_thing g q (xs (7 * k + 1)) (xs (7 * k + 2)) (xs (7 * k + 3))).2 = g3 ∧ q = q3 := by cases e3; exact ⟨rfl, rfl, rfl⟩
    refine sy_top (y := (wf 1 2 3 (fX6_thing g q nT (xs (7 * k + 1)) (xs (7 * k + 2)) (xs (7 * k + 3))).1)) st.1 ?_
    refine lv_iload hx hb dL_law_241 (lv_at hl 1 rfl) ?_
    refine lv_icmp_eq (tgt := 248) hx hb dL_law_243 (by decide) (fun _ => ?_) (fun c9 => absurd rfl c9)
    refine lv_iload hx hb dL_law_248 (lv_at hl 1 rfl) ?_
    refine lv_if_ne (tgt := 265) hx hb dL_law_250 (by decide) (fun _ => ?_) (fun c9 => absurd c9 ((wf_ne h0 hCode).resolve_right (by decide)))
    refine lv_goto (tgt := 2272) hx hb dL_law_265 (by decide) ?_
    refine W.widen (k := 100 + 16 * (k + 1)) (n := 4000 + 200 * (k + 1)) (by (try dsimp only); omega) (by (try dsimp only); omega) ?_
    exact hJ _ _ _ _ _ _ _ _ _ _ ⟨hP, by rw [Nat.succ_mul]; exact st.2.2, h70, h71, hS, lv_sub hl [2, 3, 4, 5, 6] rfl⟩
set_option maxHeartbeats 8000000 in
set_option maxRecDepth 100000 in
theorem lc_fashion (hC : lCtx p l s m meth c b L xs Z) {k : Nat} (hk : 7 * k + 7 ≤ L) (hL : L ≤ 3584) (hJ : ∀ (nT nK cT cK : Nat) (ad : Nat → Nat) (g : sG) (q : sQ) (H : Heap) (locs : List Loc) (ls : Array Slot), lSt Z s b k (k + 1) nT nK cT cK ad g q H locs ls → W p l e room_1 s m #[Value.ref b] below meth c H locs (100 + 16 * (k + 1)) (4000 + 200 * (k + 1)) (lw_Z below #[Value.ref b] s) (F0 m 2272 ls []))
    {nT nK cT cK : Nat} {ad : Nat → Nat} {g : sG} {q : sQ} {H : Heap} {locs : List Loc} {ls : Array Slot} (h : lSt Z s b k k nT nK cT cK ad g q H locs ls) : W p l e room_1 s m #[Value.ref b] below meth c H locs (100 + 16 * k) (4000 + 200 * k) (lw_Z below #[Value.ref b] s) (F0 m 268 ls []) := by
  obtain ⟨hx, hb, hr, hml, hown, hts, hX, hbl, hlocks, hZ, hE, hNc, hfl⟩ := hC
  obtain ⟨hP, hI, h70, h71, hS, hl⟩ := h
  have hbA : ¬ sy_A Z b := fun z => absurd (show Z.2.2.1 ≤ b from z) (by omega)
  have hkB : k * oB ≤ 2048000000 := by
    have : k ≤ 511 := by omega
    calc k * oB ≤ 511 * 4000000 := Nat.mul_le_mul this (Nat.le_refl _)
      _ ≤ 2048000000 := by decide
  refine lv_aload_n hx hb dL_law_268 rfl (lv_at hl 2 rfl) ?_
  refine lv_aload_n hx hb dL_law_269 rfl (lv_at hl 1 rfl) ?_
  refine lv_iload hx hb dL_law_270 (lv_at hl 0 rfl) ?_
  refine lv_iconst (v := 1) hx hb dL_law_272 (by decide) ?_
  refine lv_iadd hx hb dL_law_273 ?_
  refine sy_top (y := nI (7 * k + 1)) (nI_add _ _) ?_
  refine va_sld hx hb hX hbl hbA hS (vp_in_nI (show 7 * k + 1 < L by omega) (by omega)) dL_law_274 ?_
  refine sy_top (y := xs (7 * k + 1)) (by rw [nI_clamp (by omega)]) ?_
  refine lv_aload_n hx hb dL_law_275 rfl (lv_at hl 1 rfl) ?_
  refine lv_iload hx hb dL_law_276 (lv_at hl 0 rfl) ?_
  refine lv_iconst (v := 2) hx hb dL_law_278 (by decide) ?_
  refine lv_iadd hx hb dL_law_279 ?_
  refine sy_top (y := nI (7 * k + 2)) (nI_add _ _) ?_
  refine va_sld hx hb hX hbl hbA hS (vp_in_nI (show 7 * k + 2 < L by omega) (by omega)) dL_law_280 ?_
  refine sy_top (y := xs (7 * k + 2)) (by rw [nI_clamp (by omega)]) ?_
  refine lv_aload_n hx hb dL_law_281 rfl (lv_at hl 4 rfl) ?_
  have hCode : wf 1 2 9 (fX6_fashion g q (xs (7 * k + 1)) (xs (7 * k + 2))).1 ≠ 9 := (by
        by_cases z : (fX6_fashion g q (xs (7 * k + 1)) (xs (7 * k + 2))).1 = 0
        · rw [z]; exact (by decide : (0 : Int32) ≠ 9)
        · exact (st_no hI (fun gm hg => o_fashion (q' := (fX6_fashion g q (xs (7 * k + 1)) (xs (7 * k + 2))).2.2.2) hg (xs (7 * k + 1)) (xs (7 * k + 2))) n6_fashion (fun gm => f7_fashion) z).2.1)
  refine va_calli (vx_runSW (As := [.ref (ad 60), .int (xs (7 * k + 1)), .int (xs (7 * k + 2)), .ref (ad 90)]) (rest := []) ⟨hx, hb, hml, hown, hts⟩ (mL_fashion l hfl Z nT nK cT cK ad g q (xs (7 * k + 1)) (xs (7 * k + 2)) (by have := inv_T hI; omega) (inv_IG hI) (inv_IQ hI) hCode) (vx_cwSW 4 hts (gl_S uk_2_186 uk_2_187 uk_1_0 uk_2_188) rfl rfl rfl (by decide +kernel) ⟨Nat.le_of_ble_eq_true rfl, Nat.le_of_ble_eq_true rfl⟩) ⟨sPreL_blind _, fun U hU hW => ⟨rfl, ⟨hE.next hS hU hW.alike, by rw [hU]; exact hP⟩, hNc.next hW.alike⟩⟩ rfl rfl hl.1 rfl (lv_room (Nat.le_of_ble_eq_true rfl)) dL_law_282 ⟨by show _ ≤ 601024; (try dsimp only); omega, by show _ ≤ 7293034; (try dsimp only); omega⟩) hS (fun _ _ h => h) (fun _ h => h) (fun r u t H locs ht _ hp hB _ _ hS => ?_)
  obtain ⟨g1, q1⟩ := u
  have hP := hB.2
  rw [ht] at hP
  dsimp only at hp hP
  rcases hp with ⟨h0, rfl, rfl, rfl⟩ | ⟨h0, rfl, hg9, hq9⟩
  · refine lv_istore (lv' := [(5, .int 0), (4, .int (nI (7 * k))), (0, .ref b), (1, .ref (ad 60)), (2, .ref (ad 0)), (3, .ref (ad 90))]) hx hb dL_law_285 hl (by decide) rfl (fun ls hl => ?_)
    have st := st_yes hI (F := fun gm => fX7_fashion gm (fX6_fashion g q (xs (7 * k + 1)) (xs (7 * k + 2))).2.2.2 (xs (7 * k + 1)) (xs (7 * k + 2))) (fun gm hg => o_fashion (q' := (fX6_fashion g q (xs (7 * k + 1)) (xs (7 * k + 2))).2.2.2) hg (xs (7 * k + 1)) (xs (7 * k + 2))) f6_fashion (fun gm => f7_fashion) h0
    try dsimp only at st
    refine lv_aload_n hx hb dL_law_287 rfl (lv_at hl 4 rfl) ?_
    refine lv_aload_n hx hb dL_law_288 rfl (lv_at hl 2 rfl) ?_
    refine lv_iload hx hb dL_law_289 (lv_at hl 1 rfl) ?_
    refine lv_iconst (v := 1) hx hb dL_law_291 (by decide) ?_
    refine lv_iadd hx hb dL_law_292 ?_
    refine sy_top (y := nI (7 * k + 1)) (nI_add _ _) ?_
    refine va_sld hx hb hX hbl hbA hS (vp_in_nI (show 7 * k + 1 < L by omega) (by omega)) dL_law_293 ?_
    refine sy_top (y := xs (7 * k + 1)) (by rw [nI_clamp (by omega)]) ?_
    refine lv_aload_n hx hb dL_law_294 rfl (lv_at hl 2 rfl) ?_
    refine lv_iload hx hb dL_law_295 (lv_at hl 1 rfl) ?_
    refine lv_iconst (v := 2) hx hb dL_law_297 (by decide) ?_
    refine lv_iadd hx hb dL_law_298 ?_
    refine sy_top (y := nI (7 * k + 2)) (nI_add _ _) ?_
    refine va_sld hx hb hX hbl hbA hS (vp_in_nI (show 7 * k + 2 < L by omega) (by omega)) dL_law_299 ?_
    refine sy_top (y := xs (7 * k + 2)) (by rw [nI_clamp (by omega)]) ?_
    refine sy_ki (sy_rV (o := 0) (As := [.int (xs (7 * k + 1)), .int (xs (7 * k + 2))]) (rest := []) ⟨hx, hb, hml, hown, hts⟩ hE hP hS (mX7_fashion l hfl Z nT nK cT cK ad (sy_up (fX6_fashion g q (xs (7 * k + 1)) (xs (7 * k + 2))).2.2.1 90 0 (fX6_fashion g q (xs (7 * k + 1)) (xs (7 * k + 2))).2.1) (fX6_fashion g q (xs (7 * k + 1)) (xs (7 * k + 2))).2.2.2 (xs (7 * k + 1)) (xs (7 * k + 2)) st.1.2.1) (cwV 2 hts (gl_V uk_5_108 uk_5_109 uk_5_110 uk_1_9 uk_5_111) rfl rfl rfl (by decide +kernel) ⟨Nat.le_of_ble_eq_true rfl, Nat.le_of_ble_eq_true rfl⟩) (sy_recv (kc := 8) hE hP rfl (by decide) rfl rfl rfl) rfl hl.1 rfl (Nat.le_of_ble_eq_true rfl) dL_law_300 ⟨by show _ ≤ 601024; (try dsimp only); omega, by show _ ≤ 7293034; (try dsimp only); omega⟩) hS (fun b2 g2 q2 H locs e2 hP hS => ?_)
    obtain ⟨rfl, rfl, rfl⟩ : (fX7_fashion (sy_up (fX6_fashion g q (xs (7 * k + 1)) (xs (7 * k + 2))).2.2.1 90 0 (fX6_fashion g q (xs (7 * k + 1)) (xs (7 * k + 2))).2.1) (fX6_fashion g q (xs (7 * k + 1)) (xs (7 * k + 2))).2.2.2 (xs (7 * k + 1)) (xs (7 * k + 2))).1 = b2 ∧ (fX7_fashion (sy_up (fX6_fashion g q (xs (7 * k + 1)) (xs (7 * k + 2))).2.2.1 90 0 (fX6_fashion g q (xs (7 * k + 1)) (xs (7 * k + 2))).2.1) (fX6_fashion g q (xs (7 * k + 1)) (xs (7 * k + 2))).2.2.2 (xs (7 * k + 1)) (xs (7 * k + 2))).2 = g2 ∧ (fX6_fashion g q (xs (7 * k + 1)) (xs (7 * k + 2))).2.2.2 = q2 := by cases e2; exact ⟨rfl, rfl, rfl⟩
    refine lv_istore (lv' := [(6, .int (fX7_fashion (sy_up (fX6_fashion g q (xs (7 * k + 1)) (xs (7 * k + 2))).2.2.1 90 0 (fX6_fashion g q (xs (7 * k + 1)) (xs (7 * k + 2))).2.1) (fX6_fashion g q (xs (7 * k + 1)) (xs (7 * k + 2))).2.2.2 (xs (7 * k + 1)) (xs (7 * k + 2))).1), (5, .int 0), (4, .int (nI (7 * k))), (0, .ref b), (1, .ref (ad 60)), (2, .ref (ad 0)), (3, .ref (ad 90))]) hx hb dL_law_303 hl (by decide) rfl (fun ls hl => ?_)
    refine lv_aload_n hx hb dL_law_305 rfl (lv_at hl 5 rfl) ?_
    refine sy_ki (sy_rV (o := 0) (As := []) (rest := []) ⟨hx, hb, hml, hown, hts⟩ hE hP hS (mX7_thrown l hfl Z nT nK cT cK ad (fX7_fashion (sy_up (fX6_fashion g q (xs (7 * k + 1)) (xs (7 * k + 2))).2.2.1 90 0 (fX6_fashion g q (xs (7 * k + 1)) (xs (7 * k + 2))).2.1) (fX6_fashion g q (xs (7 * k + 1)) (xs (7 * k + 2))).2.2.2 (xs (7 * k + 1)) (xs (7 * k + 2))).2 (fX6_fashion g q (xs (7 * k + 1)) (xs (7 * k + 2))).2.2.2) (cwV 0 hts (gl_V uk_5_93 uk_5_94 uk_5_95 uk_1_9 uk_5_96) rfl rfl rfl (by decide +kernel) ⟨Nat.le_of_ble_eq_true rfl, Nat.le_of_ble_eq_true rfl⟩) (sy_recv (kc := 8) hE hP rfl (by decide) rfl rfl rfl) rfl hl.1 rfl (Nat.le_of_ble_eq_true rfl) dL_law_306 ⟨by show _ ≤ 601024; (try dsimp only); omega, by show _ ≤ 7293034; (try dsimp only); omega⟩) hS (fun b3 g3 q3 H locs e3 hP hS => ?_)
    obtain ⟨rfl, rfl, rfl⟩ : (fX7_fashion (sy_up (fX6_fashion g q (xs (7 * k + 1)) (xs (7 * k + 2))).2.2.1 90 0 (fX6_fashion g q (xs (7 * k + 1)) (xs (7 * k + 2))).2.1) (fX6_fashion g q (xs (7 * k + 1)) (xs (7 * k + 2))).2.2.2 (xs (7 * k + 1)) (xs (7 * k + 2))).2 0 0 = b3 ∧ (fX7_fashion (sy_up (fX6_fashion g q (xs (7 * k + 1)) (xs (7 * k + 2))).2.2.1 90 0 (fX6_fashion g q (xs (7 * k + 1)) (xs (7 * k + 2))).2.1) (fX6_fashion g q (xs (7 * k + 1)) (xs (7 * k + 2))).2.2.2 (xs (7 * k + 1)) (xs (7 * k + 2))).2 = g3 ∧ (fX6_fashion g q (xs (7 * k + 1)) (xs (7 * k + 2))).2.2.2 = q3 := by cases e3; exact ⟨rfl, rfl, rfl⟩
    refine sy_top (y := 0) st.2.1 ?_
    refine lv_iload hx hb dL_law_309 (lv_at hl 1 rfl) ?_
    refine lv_icmp_eq (tgt := 316) hx hb dL_law_311 (by decide) (fun _ => ?_) (fun c9 => absurd rfl c9)
    refine lv_iload hx hb dL_law_316 (lv_at hl 1 rfl) ?_
    refine lv_if_ne (tgt := 333) hx hb dL_law_318 (by decide) (fun c9 => absurd rfl c9) (fun _ => ?_)
    refine lv_aload_n hx hb dL_law_321 rfl (lv_at hl 6 rfl) ?_
    refine lv_iconst (v := 0) hx hb dL_law_322 (by decide) ?_
    refine sy_lald hx hb hE hP 90 rfl (i := 0) (k_in rfl) dL_law_323 ?_
    refine lv_iload hx hb dL_law_324 (lv_at hl 0 rfl) ?_
    refine lv_i2l (v := ((fX7_fashion (sy_up (fX6_fashion g q (xs (7 * k + 1)) (xs (7 * k + 2))).2.2.1 90 0 (fX6_fashion g q (xs (7 * k + 1)) (xs (7 * k + 2))).2.1) (fX6_fashion g q (xs (7 * k + 1)) (xs (7 * k + 2))).2.2.2 (xs (7 * k + 1)) (xs (7 * k + 2))).2 90 0).toInt64) hx hb dL_law_326 (by rw [st.2.2.2.1, st.2.2.1]) ?_
    refine lv_lcmp0 hx hb dL_law_327 ?_
    refine lv_if_eq (tgt := 333) hx hb dL_law_328 (by decide) (fun _ => ?_) (fun c9 => absurd rfl c9)
    refine lv_goto (tgt := 2272) hx hb dL_law_333 (by decide) ?_
    refine W.widen (k := 100 + 16 * (k + 1)) (n := 4000 + 200 * (k + 1)) (by (try dsimp only); omega) (by (try dsimp only); omega) ?_
    exact hJ _ _ _ _ _ _ _ _ _ _ ⟨hP, by rw [Nat.succ_mul]; exact st.2.2.2.2, h70, h71, hS, lv_sub hl [2, 3, 4, 5, 6] rfl⟩
  · replace hg9 := hg9.symm
    replace hq9 := hq9.symm
    subst hg9
    subst hq9
    refine lv_istore (lv' := [(5, .int (wf 1 2 9 (fX6_fashion g q (xs (7 * k + 1)) (xs (7 * k + 2))).1)), (4, .int (nI (7 * k))), (0, .ref b), (1, .ref (ad 60)), (2, .ref (ad 0)), (3, .ref (ad 90))]) hx hb dL_law_285 hl (by decide) rfl (fun ls hl => ?_)
    have st := st_no hI (F := fun gm => fX7_fashion gm q (xs (7 * k + 1)) (xs (7 * k + 2))) (fun gm hg => o_fashion (q' := q) hg (xs (7 * k + 1)) (xs (7 * k + 2))) n6_fashion (fun gm => f7_fashion) h0
    try dsimp only at st
    refine lv_aload_n hx hb dL_law_287 rfl (lv_at hl 4 rfl) ?_
    refine lv_aload_n hx hb dL_law_288 rfl (lv_at hl 2 rfl) ?_
    refine lv_iload hx hb dL_law_289 (lv_at hl 1 rfl) ?_
    refine lv_iconst (v := 1) hx hb dL_law_291 (by decide) ?_
    refine lv_iadd hx hb dL_law_292 ?_
    refine sy_top (y := nI (7 * k + 1)) (nI_add _ _) ?_
    refine va_sld hx hb hX hbl hbA hS (vp_in_nI (show 7 * k + 1 < L by omega) (by omega)) dL_law_293 ?_
    refine sy_top (y := xs (7 * k + 1)) (by rw [nI_clamp (by omega)]) ?_
    refine lv_aload_n hx hb dL_law_294 rfl (lv_at hl 2 rfl) ?_
    refine lv_iload hx hb dL_law_295 (lv_at hl 1 rfl) ?_
    refine lv_iconst (v := 2) hx hb dL_law_297 (by decide) ?_
    refine lv_iadd hx hb dL_law_298 ?_
    refine sy_top (y := nI (7 * k + 2)) (nI_add _ _) ?_
    refine va_sld hx hb hX hbl hbA hS (vp_in_nI (show 7 * k + 2 < L by omega) (by omega)) dL_law_299 ?_
    refine sy_top (y := xs (7 * k + 2)) (by rw [nI_clamp (by omega)]) ?_
    refine sy_ki (sy_rV (o := 0) (As := [.int (xs (7 * k + 1)), .int (xs (7 * k + 2))]) (rest := []) ⟨hx, hb, hml, hown, hts⟩ hE hP hS (mX7_fashion l hfl Z nT nK cT cK ad g q (xs (7 * k + 1)) (xs (7 * k + 2)) hI.2.1) (cwV 2 hts (gl_V uk_5_108 uk_5_109 uk_5_110 uk_1_9 uk_5_111) rfl rfl rfl (by decide +kernel) ⟨Nat.le_of_ble_eq_true rfl, Nat.le_of_ble_eq_true rfl⟩) (sy_recv (kc := 8) hE hP rfl (by decide) rfl rfl rfl) rfl hl.1 rfl (Nat.le_of_ble_eq_true rfl) dL_law_300 ⟨by show _ ≤ 601024; (try dsimp only); omega, by show _ ≤ 7293034; (try dsimp only); omega⟩) hS (fun b2 g2 q2 H locs e2 hP hS => ?_)
    obtain ⟨rfl, rfl, rfl⟩ : (fX7_fashion g q (xs (7 * k + 1)) (xs (7 * k + 2))).1 = b2 ∧ (fX7_fashion g q (xs (7 * k + 1)) (xs (7 * k + 2))).2 = g2 ∧ q = q2 := by cases e2; exact ⟨rfl, rfl, rfl⟩
    refine lv_istore (lv' := [(6, .int (fX7_fashion g q (xs (7 * k + 1)) (xs (7 * k + 2))).1), (5, .int (wf 1 2 9 (fX6_fashion g q (xs (7 * k + 1)) (xs (7 * k + 2))).1)), (4, .int (nI (7 * k))), (0, .ref b), (1, .ref (ad 60)), (2, .ref (ad 0)), (3, .ref (ad 90))]) hx hb dL_law_303 hl (by decide) rfl (fun ls hl => ?_)
    refine lv_aload_n hx hb dL_law_305 rfl (lv_at hl 5 rfl) ?_
    refine sy_ki (sy_rV (o := 0) (As := []) (rest := []) ⟨hx, hb, hml, hown, hts⟩ hE hP hS (mX7_thrown l hfl Z nT nK cT cK ad (fX7_fashion g q (xs (7 * k + 1)) (xs (7 * k + 2))).2 q) (cwV 0 hts (gl_V uk_5_93 uk_5_94 uk_5_95 uk_1_9 uk_5_96) rfl rfl rfl (by decide +kernel) ⟨Nat.le_of_ble_eq_true rfl, Nat.le_of_ble_eq_true rfl⟩) (sy_recv (kc := 8) hE hP rfl (by decide) rfl rfl rfl) rfl hl.1 rfl (Nat.le_of_ble_eq_true rfl) dL_law_306 ⟨by show _ ≤ 601024; (try dsimp only); omega, by show _ ≤ 7293034; (try dsimp only); omega⟩) hS (fun b3 g3 q3 H locs e3 hP hS => ?_)
    obtain ⟨rfl, rfl, rfl⟩ : (fX7_fashion g q (xs (7 * k + 1)) (xs (7 * k + 2))).2 0 0 = b3 ∧ (fX7_fashion g q (xs (7 * k + 1)) (xs (7 * k + 2))).2 = g3 ∧ q = q3 := by cases e3; exact ⟨rfl, rfl, rfl⟩
    refine sy_top (y := (wf 1 2 9 (fX6_fashion g q (xs (7 * k + 1)) (xs (7 * k + 2))).1)) st.1 ?_
    refine lv_iload hx hb dL_law_309 (lv_at hl 1 rfl) ?_
    refine lv_icmp_eq (tgt := 316) hx hb dL_law_311 (by decide) (fun _ => ?_) (fun c9 => absurd rfl c9)
    refine lv_iload hx hb dL_law_316 (lv_at hl 1 rfl) ?_
    refine lv_if_ne (tgt := 333) hx hb dL_law_318 (by decide) (fun _ => ?_) (fun c9 => absurd c9 ((wf_ne h0 hCode).resolve_right (by decide)))
    refine lv_goto (tgt := 2272) hx hb dL_law_333 (by decide) ?_
    refine W.widen (k := 100 + 16 * (k + 1)) (n := 4000 + 200 * (k + 1)) (by (try dsimp only); omega) (by (try dsimp only); omega) ?_
    exact hJ _ _ _ _ _ _ _ _ _ _ ⟨hP, by rw [Nat.succ_mul]; exact st.2.2, h70, h71, hS, lv_sub hl [2, 3, 4, 5, 6] rfl⟩
set_option maxHeartbeats 8000000 in
set_option maxRecDepth 100000 in
theorem lc_bias (hC : lCtx p l s m meth c b L xs Z) {k : Nat} (hk : 7 * k + 7 ≤ L) (hL : L ≤ 3584) (hJ : ∀ (nT nK cT cK : Nat) (ad : Nat → Nat) (g : sG) (q : sQ) (H : Heap) (locs : List Loc) (ls : Array Slot), lSt Z s b k (k + 1) nT nK cT cK ad g q H locs ls → W p l e room_1 s m #[Value.ref b] below meth c H locs (100 + 16 * (k + 1)) (4000 + 200 * (k + 1)) (lw_Z below #[Value.ref b] s) (F0 m 2272 ls []))
    {nT nK cT cK : Nat} {ad : Nat → Nat} {g : sG} {q : sQ} {H : Heap} {locs : List Loc} {ls : Array Slot} (h : lSt Z s b k k nT nK cT cK ad g q H locs ls) : W p l e room_1 s m #[Value.ref b] below meth c H locs (100 + 16 * k) (4000 + 200 * k) (lw_Z below #[Value.ref b] s) (F0 m 336 ls []) := by
  obtain ⟨hx, hb, hr, hml, hown, hts, hX, hbl, hlocks, hZ, hE, hNc, hfl⟩ := hC
  obtain ⟨hP, hI, h70, h71, hS, hl⟩ := h
  have hbA : ¬ sy_A Z b := fun z => absurd (show Z.2.2.1 ≤ b from z) (by omega)
  have hkB : k * oB ≤ 2048000000 := by
    have : k ≤ 511 := by omega
    calc k * oB ≤ 511 * 4000000 := Nat.mul_le_mul this (Nat.le_refl _)
      _ ≤ 2048000000 := by decide
  refine lv_aload_n hx hb dL_law_336 rfl (lv_at hl 2 rfl) ?_
  refine lv_aload_n hx hb dL_law_337 rfl (lv_at hl 1 rfl) ?_
  refine lv_iload hx hb dL_law_338 (lv_at hl 0 rfl) ?_
  refine lv_iconst (v := 1) hx hb dL_law_340 (by decide) ?_
  refine lv_iadd hx hb dL_law_341 ?_
  refine sy_top (y := nI (7 * k + 1)) (nI_add _ _) ?_
  refine va_sld hx hb hX hbl hbA hS (vp_in_nI (show 7 * k + 1 < L by omega) (by omega)) dL_law_342 ?_
  refine sy_top (y := xs (7 * k + 1)) (by rw [nI_clamp (by omega)]) ?_
  refine lv_aload_n hx hb dL_law_343 rfl (lv_at hl 1 rfl) ?_
  refine lv_iload hx hb dL_law_344 (lv_at hl 0 rfl) ?_
  refine lv_iconst (v := 2) hx hb dL_law_346 (by decide) ?_
  refine lv_iadd hx hb dL_law_347 ?_
  refine sy_top (y := nI (7 * k + 2)) (nI_add _ _) ?_
  refine va_sld hx hb hX hbl hbA hS (vp_in_nI (show 7 * k + 2 < L by omega) (by omega)) dL_law_348 ?_
  refine sy_top (y := xs (7 * k + 2)) (by rw [nI_clamp (by omega)]) ?_
  refine lv_aload_n hx hb dL_law_349 rfl (lv_at hl 4 rfl) ?_
  have hCode : wf 1 2 9 (fX6_bias g q (xs (7 * k + 1)) (xs (7 * k + 2))).1 ≠ 9 := (by
        by_cases z : (fX6_bias g q (xs (7 * k + 1)) (xs (7 * k + 2))).1 = 0
        · rw [z]; exact (by decide : (0 : Int32) ≠ 9)
        · exact (st_no hI (fun gm hg => o_bias (q' := (fX6_bias g q (xs (7 * k + 1)) (xs (7 * k + 2))).2.2.2) hg (xs (7 * k + 1)) (xs (7 * k + 2))) n6_bias (fun gm => f7_bias) z).2.1)
  refine va_calli (vx_runSW (As := [.ref (ad 60), .int (xs (7 * k + 1)), .int (xs (7 * k + 2)), .ref (ad 90)]) (rest := []) ⟨hx, hb, hml, hown, hts⟩ (mL_bias l hfl Z nT nK cT cK ad g q (xs (7 * k + 1)) (xs (7 * k + 2)) (by have := inv_T hI; omega) (inv_IG hI) (inv_IQ hI) hCode) (vx_cwSW 4 hts (gl_S uk_2_193 uk_2_194 uk_1_0 uk_2_195) rfl rfl rfl (by decide +kernel) ⟨Nat.le_of_ble_eq_true rfl, Nat.le_of_ble_eq_true rfl⟩) ⟨sPreL_blind _, fun U hU hW => ⟨rfl, ⟨hE.next hS hU hW.alike, by rw [hU]; exact hP⟩, hNc.next hW.alike⟩⟩ rfl rfl hl.1 rfl (lv_room (Nat.le_of_ble_eq_true rfl)) dL_law_350 ⟨by show _ ≤ 601024; (try dsimp only); omega, by show _ ≤ 7293034; (try dsimp only); omega⟩) hS (fun _ _ h => h) (fun _ h => h) (fun r u t H locs ht _ hp hB _ _ hS => ?_)
  obtain ⟨g1, q1⟩ := u
  have hP := hB.2
  rw [ht] at hP
  dsimp only at hp hP
  rcases hp with ⟨h0, rfl, rfl, rfl⟩ | ⟨h0, rfl, hg9, hq9⟩
  · refine lv_istore (lv' := [(5, .int 0), (4, .int (nI (7 * k))), (0, .ref b), (1, .ref (ad 60)), (2, .ref (ad 0)), (3, .ref (ad 90))]) hx hb dL_law_353 hl (by decide) rfl (fun ls hl => ?_)
    have st := st_yes hI (F := fun gm => fX7_bias gm (fX6_bias g q (xs (7 * k + 1)) (xs (7 * k + 2))).2.2.2 (xs (7 * k + 1)) (xs (7 * k + 2))) (fun gm hg => o_bias (q' := (fX6_bias g q (xs (7 * k + 1)) (xs (7 * k + 2))).2.2.2) hg (xs (7 * k + 1)) (xs (7 * k + 2))) f6_bias (fun gm => f7_bias) h0
    try dsimp only at st
    refine lv_aload_n hx hb dL_law_355 rfl (lv_at hl 4 rfl) ?_
    refine lv_aload_n hx hb dL_law_356 rfl (lv_at hl 2 rfl) ?_
    refine lv_iload hx hb dL_law_357 (lv_at hl 1 rfl) ?_
    refine lv_iconst (v := 1) hx hb dL_law_359 (by decide) ?_
    refine lv_iadd hx hb dL_law_360 ?_
    refine sy_top (y := nI (7 * k + 1)) (nI_add _ _) ?_
    refine va_sld hx hb hX hbl hbA hS (vp_in_nI (show 7 * k + 1 < L by omega) (by omega)) dL_law_361 ?_
    refine sy_top (y := xs (7 * k + 1)) (by rw [nI_clamp (by omega)]) ?_
    refine lv_aload_n hx hb dL_law_362 rfl (lv_at hl 2 rfl) ?_
    refine lv_iload hx hb dL_law_363 (lv_at hl 1 rfl) ?_
    refine lv_iconst (v := 2) hx hb dL_law_365 (by decide) ?_
    refine lv_iadd hx hb dL_law_366 ?_
    refine sy_top (y := nI (7 * k + 2)) (nI_add _ _) ?_
    refine va_sld hx hb hX hbl hbA hS (vp_in_nI (show 7 * k + 2 < L by omega) (by omega)) dL_law_367 ?_
    refine sy_top (y := xs (7 * k + 2)) (by rw [nI_clamp (by omega)]) ?_
    refine sy_ki (sy_rV (o := 0) (As := [.int (xs (7 * k + 1)), .int (xs (7 * k + 2))]) (rest := []) ⟨hx, hb, hml, hown, hts⟩ hE hP hS (mX7_bias l hfl Z nT nK cT cK ad (sy_up (fX6_bias g q (xs (7 * k + 1)) (xs (7 * k + 2))).2.2.1 90 0 (fX6_bias g q (xs (7 * k + 1)) (xs (7 * k + 2))).2.1) (fX6_bias g q (xs (7 * k + 1)) (xs (7 * k + 2))).2.2.2 (xs (7 * k + 1)) (xs (7 * k + 2)) st.1.2.1) (cwV 2 hts (gl_V uk_5_112 uk_5_113 uk_5_114 uk_1_9 uk_5_115) rfl rfl rfl (by decide +kernel) ⟨Nat.le_of_ble_eq_true rfl, Nat.le_of_ble_eq_true rfl⟩) (sy_recv (kc := 8) hE hP rfl (by decide) rfl rfl rfl) rfl hl.1 rfl (Nat.le_of_ble_eq_true rfl) dL_law_368 ⟨by show _ ≤ 601024; (try dsimp only); omega, by show _ ≤ 7293034; (try dsimp only); omega⟩) hS (fun b2 g2 q2 H locs e2 hP hS => ?_)
    obtain ⟨rfl, rfl, rfl⟩ : (fX7_bias (sy_up (fX6_bias g q (xs (7 * k + 1)) (xs (7 * k + 2))).2.2.1 90 0 (fX6_bias g q (xs (7 * k + 1)) (xs (7 * k + 2))).2.1) (fX6_bias g q (xs (7 * k + 1)) (xs (7 * k + 2))).2.2.2 (xs (7 * k + 1)) (xs (7 * k + 2))).1 = b2 ∧ (fX7_bias (sy_up (fX6_bias g q (xs (7 * k + 1)) (xs (7 * k + 2))).2.2.1 90 0 (fX6_bias g q (xs (7 * k + 1)) (xs (7 * k + 2))).2.1) (fX6_bias g q (xs (7 * k + 1)) (xs (7 * k + 2))).2.2.2 (xs (7 * k + 1)) (xs (7 * k + 2))).2 = g2 ∧ (fX6_bias g q (xs (7 * k + 1)) (xs (7 * k + 2))).2.2.2 = q2 := by cases e2; exact ⟨rfl, rfl, rfl⟩
    refine lv_istore (lv' := [(6, .int (fX7_bias (sy_up (fX6_bias g q (xs (7 * k + 1)) (xs (7 * k + 2))).2.2.1 90 0 (fX6_bias g q (xs (7 * k + 1)) (xs (7 * k + 2))).2.1) (fX6_bias g q (xs (7 * k + 1)) (xs (7 * k + 2))).2.2.2 (xs (7 * k + 1)) (xs (7 * k + 2))).1), (5, .int 0), (4, .int (nI (7 * k))), (0, .ref b), (1, .ref (ad 60)), (2, .ref (ad 0)), (3, .ref (ad 90))]) hx hb dL_law_371 hl (by decide) rfl (fun ls hl => ?_)
    refine lv_aload_n hx hb dL_law_373 rfl (lv_at hl 5 rfl) ?_
    refine sy_ki (sy_rV (o := 0) (As := []) (rest := []) ⟨hx, hb, hml, hown, hts⟩ hE hP hS (mX7_thrown l hfl Z nT nK cT cK ad (fX7_bias (sy_up (fX6_bias g q (xs (7 * k + 1)) (xs (7 * k + 2))).2.2.1 90 0 (fX6_bias g q (xs (7 * k + 1)) (xs (7 * k + 2))).2.1) (fX6_bias g q (xs (7 * k + 1)) (xs (7 * k + 2))).2.2.2 (xs (7 * k + 1)) (xs (7 * k + 2))).2 (fX6_bias g q (xs (7 * k + 1)) (xs (7 * k + 2))).2.2.2) (cwV 0 hts (gl_V uk_5_93 uk_5_94 uk_5_95 uk_1_9 uk_5_96) rfl rfl rfl (by decide +kernel) ⟨Nat.le_of_ble_eq_true rfl, Nat.le_of_ble_eq_true rfl⟩) (sy_recv (kc := 8) hE hP rfl (by decide) rfl rfl rfl) rfl hl.1 rfl (Nat.le_of_ble_eq_true rfl) dL_law_374 ⟨by show _ ≤ 601024; (try dsimp only); omega, by show _ ≤ 7293034; (try dsimp only); omega⟩) hS (fun b3 g3 q3 H locs e3 hP hS => ?_)
    obtain ⟨rfl, rfl, rfl⟩ : (fX7_bias (sy_up (fX6_bias g q (xs (7 * k + 1)) (xs (7 * k + 2))).2.2.1 90 0 (fX6_bias g q (xs (7 * k + 1)) (xs (7 * k + 2))).2.1) (fX6_bias g q (xs (7 * k + 1)) (xs (7 * k + 2))).2.2.2 (xs (7 * k + 1)) (xs (7 * k + 2))).2 0 0 = b3 ∧ (fX7_bias (sy_up (fX6_bias g q (xs (7 * k + 1)) (xs (7 * k + 2))).2.2.1 90 0 (fX6_bias g q (xs (7 * k + 1)) (xs (7 * k + 2))).2.1) (fX6_bias g q (xs (7 * k + 1)) (xs (7 * k + 2))).2.2.2 (xs (7 * k + 1)) (xs (7 * k + 2))).2 = g3 ∧ (fX6_bias g q (xs (7 * k + 1)) (xs (7 * k + 2))).2.2.2 = q3 := by cases e3; exact ⟨rfl, rfl, rfl⟩
    refine sy_top (y := 0) st.2.1 ?_
    refine lv_iload hx hb dL_law_377 (lv_at hl 1 rfl) ?_
    refine lv_icmp_eq (tgt := 384) hx hb dL_law_379 (by decide) (fun _ => ?_) (fun c9 => absurd rfl c9)
    refine lv_iload hx hb dL_law_384 (lv_at hl 1 rfl) ?_
    refine lv_if_ne (tgt := 401) hx hb dL_law_386 (by decide) (fun c9 => absurd rfl c9) (fun _ => ?_)
    refine lv_aload_n hx hb dL_law_389 rfl (lv_at hl 6 rfl) ?_
    refine lv_iconst (v := 0) hx hb dL_law_390 (by decide) ?_
    refine sy_lald hx hb hE hP 90 rfl (i := 0) (k_in rfl) dL_law_391 ?_
    refine lv_iload hx hb dL_law_392 (lv_at hl 0 rfl) ?_
    refine lv_i2l (v := ((fX7_bias (sy_up (fX6_bias g q (xs (7 * k + 1)) (xs (7 * k + 2))).2.2.1 90 0 (fX6_bias g q (xs (7 * k + 1)) (xs (7 * k + 2))).2.1) (fX6_bias g q (xs (7 * k + 1)) (xs (7 * k + 2))).2.2.2 (xs (7 * k + 1)) (xs (7 * k + 2))).2 90 0).toInt64) hx hb dL_law_394 (by rw [st.2.2.2.1, st.2.2.1]) ?_
    refine lv_lcmp0 hx hb dL_law_395 ?_
    refine lv_if_eq (tgt := 401) hx hb dL_law_396 (by decide) (fun _ => ?_) (fun c9 => absurd rfl c9)
    refine lv_goto (tgt := 2272) hx hb dL_law_401 (by decide) ?_
    refine W.widen (k := 100 + 16 * (k + 1)) (n := 4000 + 200 * (k + 1)) (by (try dsimp only); omega) (by (try dsimp only); omega) ?_
    exact hJ _ _ _ _ _ _ _ _ _ _ ⟨hP, by rw [Nat.succ_mul]; exact st.2.2.2.2, h70, h71, hS, lv_sub hl [2, 3, 4, 5, 6] rfl⟩
  · replace hg9 := hg9.symm
    replace hq9 := hq9.symm
    subst hg9
    subst hq9
    refine lv_istore (lv' := [(5, .int (wf 1 2 9 (fX6_bias g q (xs (7 * k + 1)) (xs (7 * k + 2))).1)), (4, .int (nI (7 * k))), (0, .ref b), (1, .ref (ad 60)), (2, .ref (ad 0)), (3, .ref (ad 90))]) hx hb dL_law_353 hl (by decide) rfl (fun ls hl => ?_)
    have st := st_no hI (F := fun gm => fX7_bias gm q (xs (7 * k + 1)) (xs (7 * k + 2))) (fun gm hg => o_bias (q' := q) hg (xs (7 * k + 1)) (xs (7 * k + 2))) n6_bias (fun gm => f7_bias) h0
    try dsimp only at st
    refine lv_aload_n hx hb dL_law_355 rfl (lv_at hl 4 rfl) ?_
    refine lv_aload_n hx hb dL_law_356 rfl (lv_at hl 2 rfl) ?_
    refine lv_iload hx hb dL_law_357 (lv_at hl 1 rfl) ?_
    refine lv_iconst (v := 1) hx hb dL_law_359 (by decide) ?_
    refine lv_iadd hx hb dL_law_360 ?_
    refine sy_top (y := nI (7 * k + 1)) (nI_add _ _) ?_
    refine va_sld hx hb hX hbl hbA hS (vp_in_nI (show 7 * k + 1 < L by omega) (by omega)) dL_law_361 ?_
    refine sy_top (y := xs (7 * k + 1)) (by rw [nI_clamp (by omega)]) ?_
    refine lv_aload_n hx hb dL_law_362 rfl (lv_at hl 2 rfl) ?_
    refine lv_iload hx hb dL_law_363 (lv_at hl 1 rfl) ?_
    refine lv_iconst (v := 2) hx hb dL_law_365 (by decide) ?_
    refine lv_iadd hx hb dL_law_366 ?_
    refine sy_top (y := nI (7 * k + 2)) (nI_add _ _) ?_
    refine va_sld hx hb hX hbl hbA hS (vp_in_nI (show 7 * k + 2 < L by omega) (by omega)) dL_law_367 ?_
    refine sy_top (y := xs (7 * k + 2)) (by rw [nI_clamp (by omega)]) ?_
    refine sy_ki (sy_rV (o := 0) (As := [.int (xs (7 * k + 1)), .int (xs (7 * k + 2))]) (rest := []) ⟨hx, hb, hml, hown, hts⟩ hE hP hS (mX7_bias l hfl Z nT nK cT cK ad g q (xs (7 * k + 1)) (xs (7 * k + 2)) hI.2.1) (cwV 2 hts (gl_V uk_5_112 uk_5_113 uk_5_114 uk_1_9 uk_5_115) rfl rfl rfl (by decide +kernel) ⟨Nat.le_of_ble_eq_true rfl, Nat.le_of_ble_eq_true rfl⟩) (sy_recv (kc := 8) hE hP rfl (by decide) rfl rfl rfl) rfl hl.1 rfl (Nat.le_of_ble_eq_true rfl) dL_law_368 ⟨by show _ ≤ 601024; (try dsimp only); omega, by show _ ≤ 7293034; (try dsimp only); omega⟩) hS (fun b2 g2 q2 H locs e2 hP hS => ?_)
    obtain ⟨rfl, rfl, rfl⟩ : (fX7_bias g q (xs (7 * k + 1)) (xs (7 * k + 2))).1 = b2 ∧ (fX7_bias g q (xs (7 * k + 1)) (xs (7 * k + 2))).2 = g2 ∧ q = q2 := by cases e2; exact ⟨rfl, rfl, rfl⟩
    refine lv_istore (lv' := [(6, .int (fX7_bias g q (xs (7 * k + 1)) (xs (7 * k + 2))).1), (5, .int (wf 1 2 9 (fX6_bias g q (xs (7 * k + 1)) (xs (7 * k + 2))).1)), (4, .int (nI (7 * k))), (0, .ref b), (1, .ref (ad 60)), (2, .ref (ad 0)), (3, .ref (ad 90))]) hx hb dL_law_371 hl (by decide) rfl (fun ls hl => ?_)
    refine lv_aload_n hx hb dL_law_373 rfl (lv_at hl 5 rfl) ?_
    refine sy_ki (sy_rV (o := 0) (As := []) (rest := []) ⟨hx, hb, hml, hown, hts⟩ hE hP hS (mX7_thrown l hfl Z nT nK cT cK ad (fX7_bias g q (xs (7 * k + 1)) (xs (7 * k + 2))).2 q) (cwV 0 hts (gl_V uk_5_93 uk_5_94 uk_5_95 uk_1_9 uk_5_96) rfl rfl rfl (by decide +kernel) ⟨Nat.le_of_ble_eq_true rfl, Nat.le_of_ble_eq_true rfl⟩) (sy_recv (kc := 8) hE hP rfl (by decide) rfl rfl rfl) rfl hl.1 rfl (Nat.le_of_ble_eq_true rfl) dL_law_374 ⟨by show _ ≤ 601024; (try dsimp only); omega, by show _ ≤ 7293034; (try dsimp only); omega⟩) hS (fun b3 g3 q3 H locs e3 hP hS => ?_)
    obtain ⟨rfl, rfl, rfl⟩ : (fX7_bias g q (xs (7 * k + 1)) (xs (7 * k + 2))).2 0 0 = b3 ∧ (fX7_bias g q (xs (7 * k + 1)) (xs (7 * k + 2))).2 = g3 ∧ q = q3 := by cases e3; exact ⟨rfl, rfl, rfl⟩
    refine sy_top (y := (wf 1 2 9 (fX6_bias g q (xs (7 * k + 1)) (xs (7 * k + 2))).1)) st.1 ?_
    refine lv_iload hx hb dL_law_377 (lv_at hl 1 rfl) ?_
    refine lv_icmp_eq (tgt := 384) hx hb dL_law_379 (by decide) (fun _ => ?_) (fun c9 => absurd rfl c9)
    refine lv_iload hx hb dL_law_384 (lv_at hl 1 rfl) ?_
    refine lv_if_ne (tgt := 401) hx hb dL_law_386 (by decide) (fun _ => ?_) (fun c9 => absurd c9 ((wf_ne h0 hCode).resolve_right (by decide)))
    refine lv_goto (tgt := 2272) hx hb dL_law_401 (by decide) ?_
    refine W.widen (k := 100 + 16 * (k + 1)) (n := 4000 + 200 * (k + 1)) (by (try dsimp only); omega) (by (try dsimp only); omega) ?_
    exact hJ _ _ _ _ _ _ _ _ _ _ ⟨hP, by rw [Nat.succ_mul]; exact st.2.2, h70, h71, hS, lv_sub hl [2, 3, 4, 5, 6] rfl⟩
set_option maxHeartbeats 8000000 in
set_option maxRecDepth 100000 in
theorem lc_classOf (hC : lCtx p l s m meth c b L xs Z) {k : Nat} (hk : 7 * k + 7 ≤ L) (hL : L ≤ 3584) (hJ : ∀ (nT nK cT cK : Nat) (ad : Nat → Nat) (g : sG) (q : sQ) (H : Heap) (locs : List Loc) (ls : Array Slot), lSt Z s b k (k + 1) nT nK cT cK ad g q H locs ls → W p l e room_1 s m #[Value.ref b] below meth c H locs (100 + 16 * (k + 1)) (4000 + 200 * (k + 1)) (lw_Z below #[Value.ref b] s) (F0 m 2272 ls []))
    {nT nK cT cK : Nat} {ad : Nat → Nat} {g : sG} {q : sQ} {H : Heap} {locs : List Loc} {ls : Array Slot} (h : lSt Z s b k k nT nK cT cK ad g q H locs ls) : W p l e room_1 s m #[Value.ref b] below meth c H locs (100 + 16 * k) (4000 + 200 * k) (lw_Z below #[Value.ref b] s) (F0 m 404 ls []) := by
  obtain ⟨hx, hb, hr, hml, hown, hts, hX, hbl, hlocks, hZ, hE, hNc, hfl⟩ := hC
  obtain ⟨hP, hI, h70, h71, hS, hl⟩ := h
  have hbA : ¬ sy_A Z b := fun z => absurd (show Z.2.2.1 ≤ b from z) (by omega)
  have hkB : k * oB ≤ 2048000000 := by
    have : k ≤ 511 := by omega
    calc k * oB ≤ 511 * 4000000 := Nat.mul_le_mul this (Nat.le_refl _)
      _ ≤ 2048000000 := by decide
  refine lv_aload_n hx hb dL_law_404 rfl (lv_at hl 2 rfl) ?_
  refine lv_aload_n hx hb dL_law_405 rfl (lv_at hl 1 rfl) ?_
  refine lv_iload hx hb dL_law_406 (lv_at hl 0 rfl) ?_
  refine lv_iconst (v := 1) hx hb dL_law_408 (by decide) ?_
  refine lv_iadd hx hb dL_law_409 ?_
  refine sy_top (y := nI (7 * k + 1)) (nI_add _ _) ?_
  refine va_sld hx hb hX hbl hbA hS (vp_in_nI (show 7 * k + 1 < L by omega) (by omega)) dL_law_410 ?_
  refine sy_top (y := xs (7 * k + 1)) (by rw [nI_clamp (by omega)]) ?_
  refine lv_aload_n hx hb dL_law_411 rfl (lv_at hl 1 rfl) ?_
  refine lv_iload hx hb dL_law_412 (lv_at hl 0 rfl) ?_
  refine lv_iconst (v := 2) hx hb dL_law_414 (by decide) ?_
  refine lv_iadd hx hb dL_law_415 ?_
  refine sy_top (y := nI (7 * k + 2)) (nI_add _ _) ?_
  refine va_sld hx hb hX hbl hbA hS (vp_in_nI (show 7 * k + 2 < L by omega) (by omega)) dL_law_416 ?_
  refine sy_top (y := xs (7 * k + 2)) (by rw [nI_clamp (by omega)]) ?_
  refine lv_aload_n hx hb dL_law_417 rfl (lv_at hl 4 rfl) ?_
  have hCode : wf 1 9 9 (fX6_classOf g q (xs (7 * k + 1)) (xs (7 * k + 2))).1 ≠ 9 := (by
        by_cases z : (fX6_classOf g q (xs (7 * k + 1)) (xs (7 * k + 2))).1 = 0
        · rw [z]; exact (by decide : (0 : Int32) ≠ 9)
        · exact (st_no hI (fun gm hg => o_classOf (q' := (fX6_classOf g q (xs (7 * k + 1)) (xs (7 * k + 2))).2.2.2) hg (xs (7 * k + 1)) (xs (7 * k + 2))) n6_classOf (fun gm => f7_classOf) z).2.1)
  refine va_calli (vx_runSW (As := [.ref (ad 60), .int (xs (7 * k + 1)), .int (xs (7 * k + 2)), .ref (ad 90)]) (rest := []) ⟨hx, hb, hml, hown, hts⟩ (mL_classOf l hfl Z nT nK cT cK ad g q (xs (7 * k + 1)) (xs (7 * k + 2)) (by have := inv_T hI; omega) (inv_IG hI) (inv_IQ hI) hCode) (vx_cwSW 4 hts (gl_S uk_2_200 uk_2_201 uk_1_0 uk_2_202) rfl rfl rfl (by decide +kernel) ⟨Nat.le_of_ble_eq_true rfl, Nat.le_of_ble_eq_true rfl⟩) ⟨sPreL_blind _, fun U hU hW => ⟨rfl, ⟨hE.next hS hU hW.alike, by rw [hU]; exact hP⟩, hNc.next hW.alike⟩⟩ rfl rfl hl.1 rfl (lv_room (Nat.le_of_ble_eq_true rfl)) dL_law_418 ⟨by show _ ≤ 601024; (try dsimp only); omega, by show _ ≤ 7293034; (try dsimp only); omega⟩) hS (fun _ _ h => h) (fun _ h => h) (fun r u t H locs ht _ hp hB _ _ hS => ?_)
  obtain ⟨g1, q1⟩ := u
  have hP := hB.2
  rw [ht] at hP
  dsimp only at hp hP
  rcases hp with ⟨h0, rfl, rfl, rfl⟩ | ⟨h0, rfl, hg9, hq9⟩
  · refine lv_istore (lv' := [(5, .int 0), (4, .int (nI (7 * k))), (0, .ref b), (1, .ref (ad 60)), (2, .ref (ad 0)), (3, .ref (ad 90))]) hx hb dL_law_421 hl (by decide) rfl (fun ls hl => ?_)
    have st := st_yes hI (F := fun gm => fX7_classOf gm (fX6_classOf g q (xs (7 * k + 1)) (xs (7 * k + 2))).2.2.2 (xs (7 * k + 1)) (xs (7 * k + 2))) (fun gm hg => o_classOf (q' := (fX6_classOf g q (xs (7 * k + 1)) (xs (7 * k + 2))).2.2.2) hg (xs (7 * k + 1)) (xs (7 * k + 2))) f6_classOf (fun gm => f7_classOf) h0
    try dsimp only at st
    refine lv_aload_n hx hb dL_law_423 rfl (lv_at hl 4 rfl) ?_
    refine lv_aload_n hx hb dL_law_424 rfl (lv_at hl 2 rfl) ?_
    refine lv_iload hx hb dL_law_425 (lv_at hl 1 rfl) ?_
    refine lv_iconst (v := 1) hx hb dL_law_427 (by decide) ?_
    refine lv_iadd hx hb dL_law_428 ?_
    refine sy_top (y := nI (7 * k + 1)) (nI_add _ _) ?_
    refine va_sld hx hb hX hbl hbA hS (vp_in_nI (show 7 * k + 1 < L by omega) (by omega)) dL_law_429 ?_
    refine sy_top (y := xs (7 * k + 1)) (by rw [nI_clamp (by omega)]) ?_
    refine lv_aload_n hx hb dL_law_430 rfl (lv_at hl 2 rfl) ?_
    refine lv_iload hx hb dL_law_431 (lv_at hl 1 rfl) ?_
    refine lv_iconst (v := 2) hx hb dL_law_433 (by decide) ?_
    refine lv_iadd hx hb dL_law_434 ?_
    refine sy_top (y := nI (7 * k + 2)) (nI_add _ _) ?_
    refine va_sld hx hb hX hbl hbA hS (vp_in_nI (show 7 * k + 2 < L by omega) (by omega)) dL_law_435 ?_
    refine sy_top (y := xs (7 * k + 2)) (by rw [nI_clamp (by omega)]) ?_
    refine sy_ki (sy_rV (o := 0) (As := [.int (xs (7 * k + 1)), .int (xs (7 * k + 2))]) (rest := []) ⟨hx, hb, hml, hown, hts⟩ hE hP hS (mX7_classOf l hfl Z nT nK cT cK ad (sy_up (fX6_classOf g q (xs (7 * k + 1)) (xs (7 * k + 2))).2.2.1 90 0 (fX6_classOf g q (xs (7 * k + 1)) (xs (7 * k + 2))).2.1) (fX6_classOf g q (xs (7 * k + 1)) (xs (7 * k + 2))).2.2.2 (xs (7 * k + 1)) (xs (7 * k + 2)) st.1.2.1) (cwV 2 hts (gl_V uk_5_116 uk_5_117 uk_5_118 uk_1_9 uk_5_119) rfl rfl rfl (by decide +kernel) ⟨Nat.le_of_ble_eq_true rfl, Nat.le_of_ble_eq_true rfl⟩) (sy_recv (kc := 8) hE hP rfl (by decide) rfl rfl rfl) rfl hl.1 rfl (Nat.le_of_ble_eq_true rfl) dL_law_436 ⟨by show _ ≤ 601024; (try dsimp only); omega, by show _ ≤ 7293034; (try dsimp only); omega⟩) hS (fun b2 g2 q2 H locs e2 hP hS => ?_)
    obtain ⟨rfl, rfl, rfl⟩ : (fX7_classOf (sy_up (fX6_classOf g q (xs (7 * k + 1)) (xs (7 * k + 2))).2.2.1 90 0 (fX6_classOf g q (xs (7 * k + 1)) (xs (7 * k + 2))).2.1) (fX6_classOf g q (xs (7 * k + 1)) (xs (7 * k + 2))).2.2.2 (xs (7 * k + 1)) (xs (7 * k + 2))).1 = b2 ∧ (fX7_classOf (sy_up (fX6_classOf g q (xs (7 * k + 1)) (xs (7 * k + 2))).2.2.1 90 0 (fX6_classOf g q (xs (7 * k + 1)) (xs (7 * k + 2))).2.1) (fX6_classOf g q (xs (7 * k + 1)) (xs (7 * k + 2))).2.2.2 (xs (7 * k + 1)) (xs (7 * k + 2))).2 = g2 ∧ (fX6_classOf g q (xs (7 * k + 1)) (xs (7 * k + 2))).2.2.2 = q2 := by cases e2; exact ⟨rfl, rfl, rfl⟩
    refine lv_istore (lv' := [(6, .int (fX7_classOf (sy_up (fX6_classOf g q (xs (7 * k + 1)) (xs (7 * k + 2))).2.2.1 90 0 (fX6_classOf g q (xs (7 * k + 1)) (xs (7 * k + 2))).2.1) (fX6_classOf g q (xs (7 * k + 1)) (xs (7 * k + 2))).2.2.2 (xs (7 * k + 1)) (xs (7 * k + 2))).1), (5, .int 0), (4, .int (nI (7 * k))), (0, .ref b), (1, .ref (ad 60)), (2, .ref (ad 0)), (3, .ref (ad 90))]) hx hb dL_law_439 hl (by decide) rfl (fun ls hl => ?_)
    refine lv_aload_n hx hb dL_law_441 rfl (lv_at hl 5 rfl) ?_
    refine sy_ki (sy_rV (o := 0) (As := []) (rest := []) ⟨hx, hb, hml, hown, hts⟩ hE hP hS (mX7_thrown l hfl Z nT nK cT cK ad (fX7_classOf (sy_up (fX6_classOf g q (xs (7 * k + 1)) (xs (7 * k + 2))).2.2.1 90 0 (fX6_classOf g q (xs (7 * k + 1)) (xs (7 * k + 2))).2.1) (fX6_classOf g q (xs (7 * k + 1)) (xs (7 * k + 2))).2.2.2 (xs (7 * k + 1)) (xs (7 * k + 2))).2 (fX6_classOf g q (xs (7 * k + 1)) (xs (7 * k + 2))).2.2.2) (cwV 0 hts (gl_V uk_5_93 uk_5_94 uk_5_95 uk_1_9 uk_5_96) rfl rfl rfl (by decide +kernel) ⟨Nat.le_of_ble_eq_true rfl, Nat.le_of_ble_eq_true rfl⟩) (sy_recv (kc := 8) hE hP rfl (by decide) rfl rfl rfl) rfl hl.1 rfl (Nat.le_of_ble_eq_true rfl) dL_law_442 ⟨by show _ ≤ 601024; (try dsimp only); omega, by show _ ≤ 7293034; (try dsimp only); omega⟩) hS (fun b3 g3 q3 H locs e3 hP hS => ?_)
    obtain ⟨rfl, rfl, rfl⟩ : (fX7_classOf (sy_up (fX6_classOf g q (xs (7 * k + 1)) (xs (7 * k + 2))).2.2.1 90 0 (fX6_classOf g q (xs (7 * k + 1)) (xs (7 * k + 2))).2.1) (fX6_classOf g q (xs (7 * k + 1)) (xs (7 * k + 2))).2.2.2 (xs (7 * k + 1)) (xs (7 * k + 2))).2 0 0 = b3 ∧ (fX7_classOf (sy_up (fX6_classOf g q (xs (7 * k + 1)) (xs (7 * k + 2))).2.2.1 90 0 (fX6_classOf g q (xs (7 * k + 1)) (xs (7 * k + 2))).2.1) (fX6_classOf g q (xs (7 * k + 1)) (xs (7 * k + 2))).2.2.2 (xs (7 * k + 1)) (xs (7 * k + 2))).2 = g3 ∧ (fX6_classOf g q (xs (7 * k + 1)) (xs (7 * k + 2))).2.2.2 = q3 := by cases e3; exact ⟨rfl, rfl, rfl⟩
    refine sy_top (y := 0) st.2.1 ?_
    refine lv_iload hx hb dL_law_445 (lv_at hl 1 rfl) ?_
    refine lv_icmp_eq (tgt := 452) hx hb dL_law_447 (by decide) (fun _ => ?_) (fun c9 => absurd rfl c9)
    refine lv_iload hx hb dL_law_452 (lv_at hl 1 rfl) ?_
    refine lv_if_ne (tgt := 469) hx hb dL_law_454 (by decide) (fun c9 => absurd rfl c9) (fun _ => ?_)
    refine lv_aload_n hx hb dL_law_457 rfl (lv_at hl 6 rfl) ?_
    refine lv_iconst (v := 0) hx hb dL_law_458 (by decide) ?_
    refine sy_lald hx hb hE hP 90 rfl (i := 0) (k_in rfl) dL_law_459 ?_
    refine lv_iload hx hb dL_law_460 (lv_at hl 0 rfl) ?_
    refine lv_i2l (v := ((fX7_classOf (sy_up (fX6_classOf g q (xs (7 * k + 1)) (xs (7 * k + 2))).2.2.1 90 0 (fX6_classOf g q (xs (7 * k + 1)) (xs (7 * k + 2))).2.1) (fX6_classOf g q (xs (7 * k + 1)) (xs (7 * k + 2))).2.2.2 (xs (7 * k + 1)) (xs (7 * k + 2))).2 90 0).toInt64) hx hb dL_law_462 (by rw [st.2.2.2.1, st.2.2.1]) ?_
    refine lv_lcmp0 hx hb dL_law_463 ?_
    refine lv_if_eq (tgt := 469) hx hb dL_law_464 (by decide) (fun _ => ?_) (fun c9 => absurd rfl c9)
    refine lv_goto (tgt := 2272) hx hb dL_law_469 (by decide) ?_
    refine W.widen (k := 100 + 16 * (k + 1)) (n := 4000 + 200 * (k + 1)) (by (try dsimp only); omega) (by (try dsimp only); omega) ?_
    exact hJ _ _ _ _ _ _ _ _ _ _ ⟨hP, by rw [Nat.succ_mul]; exact st.2.2.2.2, h70, h71, hS, lv_sub hl [2, 3, 4, 5, 6] rfl⟩
  · replace hg9 := hg9.symm
    replace hq9 := hq9.symm
    subst hg9
    subst hq9
    refine lv_istore (lv' := [(5, .int (wf 1 9 9 (fX6_classOf g q (xs (7 * k + 1)) (xs (7 * k + 2))).1)), (4, .int (nI (7 * k))), (0, .ref b), (1, .ref (ad 60)), (2, .ref (ad 0)), (3, .ref (ad 90))]) hx hb dL_law_421 hl (by decide) rfl (fun ls hl => ?_)
    have st := st_no hI (F := fun gm => fX7_classOf gm q (xs (7 * k + 1)) (xs (7 * k + 2))) (fun gm hg => o_classOf (q' := q) hg (xs (7 * k + 1)) (xs (7 * k + 2))) n6_classOf (fun gm => f7_classOf) h0
    try dsimp only at st
    refine lv_aload_n hx hb dL_law_423 rfl (lv_at hl 4 rfl) ?_
    refine lv_aload_n hx hb dL_law_424 rfl (lv_at hl 2 rfl) ?_
    refine lv_iload hx hb dL_law_425 (lv_at hl 1 rfl) ?_
    refine lv_iconst (v := 1) hx hb dL_law_427 (by decide) ?_
    refine lv_iadd hx hb dL_law_428 ?_
    refine sy_top (y := nI (7 * k + 1)) (nI_add _ _) ?_
    refine va_sld hx hb hX hbl hbA hS (vp_in_nI (show 7 * k + 1 < L by omega) (by omega)) dL_law_429 ?_
    refine sy_top (y := xs (7 * k + 1)) (by rw [nI_clamp (by omega)]) ?_
    refine lv_aload_n hx hb dL_law_430 rfl (lv_at hl 2 rfl) ?_
    refine lv_iload hx hb dL_law_431 (lv_at hl 1 rfl) ?_
    refine lv_iconst (v := 2) hx hb dL_law_433 (by decide) ?_
    refine lv_iadd hx hb dL_law_434 ?_
    refine sy_top (y := nI (7 * k + 2)) (nI_add _ _) ?_
    refine va_sld hx hb hX hbl hbA hS (vp_in_nI (show 7 * k + 2 < L by omega) (by omega)) dL_law_435 ?_
    refine sy_top (y := xs (7 * k + 2)) (by rw [nI_clamp (by omega)]) ?_
    refine sy_ki (sy_rV (o := 0) (As := [.int (xs (7 * k + 1)), .int (xs (7 * k + 2))]) (rest := []) ⟨hx, hb, hml, hown, hts⟩ hE hP hS (mX7_classOf l hfl Z nT nK cT cK ad g q (xs (7 * k + 1)) (xs (7 * k + 2)) hI.2.1) (cwV 2 hts (gl_V uk_5_116 uk_5_117 uk_5_118 uk_1_9 uk_5_119) rfl rfl rfl (by decide +kernel) ⟨Nat.le_of_ble_eq_true rfl, Nat.le_of_ble_eq_true rfl⟩) (sy_recv (kc := 8) hE hP rfl (by decide) rfl rfl rfl) rfl hl.1 rfl (Nat.le_of_ble_eq_true rfl) dL_law_436 ⟨by show _ ≤ 601024; (try dsimp only); omega, by show _ ≤ 7293034; (try dsimp only); omega⟩) hS (fun b2 g2 q2 H locs e2 hP hS => ?_)
    obtain ⟨rfl, rfl, rfl⟩ : (fX7_classOf g q (xs (7 * k + 1)) (xs (7 * k + 2))).1 = b2 ∧ (fX7_classOf g q (xs (7 * k + 1)) (xs (7 * k + 2))).2 = g2 ∧ q = q2 := by cases e2; exact ⟨rfl, rfl, rfl⟩
    refine lv_istore (lv' := [(6, .int (fX7_classOf g q (xs (7 * k + 1)) (xs (7 * k + 2))).1), (5, .int (wf 1 9 9 (fX6_classOf g q (xs (7 * k + 1)) (xs (7 * k + 2))).1)), (4, .int (nI (7 * k))), (0, .ref b), (1, .ref (ad 60)), (2, .ref (ad 0)), (3, .ref (ad 90))]) hx hb dL_law_439 hl (by decide) rfl (fun ls hl => ?_)
    refine lv_aload_n hx hb dL_law_441 rfl (lv_at hl 5 rfl) ?_
    refine sy_ki (sy_rV (o := 0) (As := []) (rest := []) ⟨hx, hb, hml, hown, hts⟩ hE hP hS (mX7_thrown l hfl Z nT nK cT cK ad (fX7_classOf g q (xs (7 * k + 1)) (xs (7 * k + 2))).2 q) (cwV 0 hts (gl_V uk_5_93 uk_5_94 uk_5_95 uk_1_9 uk_5_96) rfl rfl rfl (by decide +kernel) ⟨Nat.le_of_ble_eq_true rfl, Nat.le_of_ble_eq_true rfl⟩) (sy_recv (kc := 8) hE hP rfl (by decide) rfl rfl rfl) rfl hl.1 rfl (Nat.le_of_ble_eq_true rfl) dL_law_442 ⟨by show _ ≤ 601024; (try dsimp only); omega, by show _ ≤ 7293034; (try dsimp only); omega⟩) hS (fun b3 g3 q3 H locs e3 hP hS => ?_)
    obtain ⟨rfl, rfl, rfl⟩ : (fX7_classOf g q (xs (7 * k + 1)) (xs (7 * k + 2))).2 0 0 = b3 ∧ (fX7_classOf g q (xs (7 * k + 1)) (xs (7 * k + 2))).2 = g3 ∧ q = q3 := by cases e3; exact ⟨rfl, rfl, rfl⟩
    refine sy_top (y := (wf 1 9 9 (fX6_classOf g q (xs (7 * k + 1)) (xs (7 * k + 2))).1)) st.1 ?_
    refine lv_iload hx hb dL_law_445 (lv_at hl 1 rfl) ?_
    refine lv_icmp_eq (tgt := 452) hx hb dL_law_447 (by decide) (fun _ => ?_) (fun c9 => absurd rfl c9)
    refine lv_iload hx hb dL_law_452 (lv_at hl 1 rfl) ?_
    refine lv_if_ne (tgt := 469) hx hb dL_law_454 (by decide) (fun _ => ?_) (fun c9 => absurd c9 ((wf_ne h0 hCode).resolve_right (by decide)))
    refine lv_goto (tgt := 2272) hx hb dL_law_469 (by decide) ?_
    refine W.widen (k := 100 + 16 * (k + 1)) (n := 4000 + 200 * (k + 1)) (by (try dsimp only); omega) (by (try dsimp only); omega) ?_
    exact hJ _ _ _ _ _ _ _ _ _ _ ⟨hP, by rw [Nat.succ_mul]; exact st.2.2, h70, h71, hS, lv_sub hl [2, 3, 4, 5, 6] rfl⟩
set_option maxHeartbeats 8000000 in
set_option maxRecDepth 100000 in
theorem lc_charter (hC : lCtx p l s m meth c b L xs Z) {k : Nat} (hk : 7 * k + 7 ≤ L) (hL : L ≤ 3584) (hJ : ∀ (nT nK cT cK : Nat) (ad : Nat → Nat) (g : sG) (q : sQ) (H : Heap) (locs : List Loc) (ls : Array Slot), lSt Z s b k (k + 1) nT nK cT cK ad g q H locs ls → W p l e room_1 s m #[Value.ref b] below meth c H locs (100 + 16 * (k + 1)) (4000 + 200 * (k + 1)) (lw_Z below #[Value.ref b] s) (F0 m 2272 ls []))
    {nT nK cT cK : Nat} {ad : Nat → Nat} {g : sG} {q : sQ} {H : Heap} {locs : List Loc} {ls : Array Slot} (h : lSt Z s b k k nT nK cT cK ad g q H locs ls) : W p l e room_1 s m #[Value.ref b] below meth c H locs (100 + 16 * k) (4000 + 200 * k) (lw_Z below #[Value.ref b] s) (F0 m 472 ls []) := by
  obtain ⟨hx, hb, hr, hml, hown, hts, hX, hbl, hlocks, hZ, hE, hNc, hfl⟩ := hC
  obtain ⟨hP, hI, h70, h71, hS, hl⟩ := h
  have hbA : ¬ sy_A Z b := fun z => absurd (show Z.2.2.1 ≤ b from z) (by omega)
  have hkB : k * oB ≤ 2048000000 := by
    have : k ≤ 511 := by omega
    calc k * oB ≤ 511 * 4000000 := Nat.mul_le_mul this (Nat.le_refl _)
      _ ≤ 2048000000 := by decide
  refine lv_aload_n hx hb dL_law_472 rfl (lv_at hl 2 rfl) ?_
  refine lv_aload_n hx hb dL_law_473 rfl (lv_at hl 1 rfl) ?_
  refine lv_iload hx hb dL_law_474 (lv_at hl 0 rfl) ?_
  refine lv_iconst (v := 1) hx hb dL_law_476 (by decide) ?_
  refine lv_iadd hx hb dL_law_477 ?_
  refine sy_top (y := nI (7 * k + 1)) (nI_add _ _) ?_
  refine va_sld hx hb hX hbl hbA hS (vp_in_nI (show 7 * k + 1 < L by omega) (by omega)) dL_law_478 ?_
  refine sy_top (y := xs (7 * k + 1)) (by rw [nI_clamp (by omega)]) ?_
  refine lv_aload_n hx hb dL_law_479 rfl (lv_at hl 1 rfl) ?_
  refine lv_iload hx hb dL_law_480 (lv_at hl 0 rfl) ?_
  refine lv_iconst (v := 2) hx hb dL_law_482 (by decide) ?_
  refine lv_iadd hx hb dL_law_483 ?_
  refine sy_top (y := nI (7 * k + 2)) (nI_add _ _) ?_
  refine va_sld hx hb hX hbl hbA hS (vp_in_nI (show 7 * k + 2 < L by omega) (by omega)) dL_law_484 ?_
  refine sy_top (y := xs (7 * k + 2)) (by rw [nI_clamp (by omega)]) ?_
  refine lv_aload_n hx hb dL_law_485 rfl (lv_at hl 1 rfl) ?_
  refine lv_iload hx hb dL_law_486 (lv_at hl 0 rfl) ?_
  refine lv_iconst (v := 3) hx hb dL_law_488 (by decide) ?_
  refine lv_iadd hx hb dL_law_489 ?_
  refine sy_top (y := nI (7 * k + 3)) (nI_add _ _) ?_
  refine va_sld hx hb hX hbl hbA hS (vp_in_nI (show 7 * k + 3 < L by omega) (by omega)) dL_law_490 ?_
  refine sy_top (y := xs (7 * k + 3)) (by rw [nI_clamp (by omega)]) ?_
  have hCode : wf 1 2 9 (fX6_charter g q (xs (7 * k + 1)) (xs (7 * k + 2)) (xs (7 * k + 3))).1 ≠ 9 := (by
        by_cases z : (fX6_charter g q (xs (7 * k + 1)) (xs (7 * k + 2)) (xs (7 * k + 3))).1 = 0
        · rw [z]; exact (by decide : (0 : Int32) ≠ 9)
        · exact (st_nov hI (fun gm hg => o_charter (q' := (fX6_charter g q (xs (7 * k + 1)) (xs (7 * k + 2)) (xs (7 * k + 3))).2.2) hg (xs (7 * k + 1)) (xs (7 * k + 2)) (xs (7 * k + 3))) n6_charter (fun gm => f7_charter) z).2.1)
  refine va_calli (vx_runSW (As := [.ref (ad 60), .int (xs (7 * k + 1)), .int (xs (7 * k + 2)), .int (xs (7 * k + 3))]) (rest := []) ⟨hx, hb, hml, hown, hts⟩ (mL_charter l hfl Z nT nK cT cK ad g q (xs (7 * k + 1)) (xs (7 * k + 2)) (xs (7 * k + 3)) (by have := inv_T hI; omega) (inv_IG hI) (inv_IQ hI) hCode) (vx_cwSW 4 hts (gl_S uk_2_207 uk_2_208 uk_1_0 uk_2_209) rfl rfl rfl (by decide +kernel) ⟨Nat.le_of_ble_eq_true rfl, Nat.le_of_ble_eq_true rfl⟩) ⟨sPreL_blind _, fun U hU hW => ⟨rfl, ⟨hE.next hS hU hW.alike, by rw [hU]; exact hP⟩, hNc.next hW.alike⟩⟩ rfl rfl hl.1 rfl (lv_room (Nat.le_of_ble_eq_true rfl)) dL_law_491 ⟨by show _ ≤ 601024; (try dsimp only); omega, by show _ ≤ 7293034; (try dsimp only); omega⟩) hS (fun _ _ h => h) (fun _ h => h) (fun r u t H locs ht _ hp hB _ _ hS => ?_)
  obtain ⟨g1, q1⟩ := u
  have hP := hB.2
  rw [ht] at hP
  dsimp only at hp hP
  rcases hp with ⟨h0, rfl, rfl, rfl⟩ | ⟨h0, rfl, hg9, hq9⟩
  · refine lv_istore (lv' := [(5, .int 0), (4, .int (nI (7 * k))), (0, .ref b), (1, .ref (ad 60)), (2, .ref (ad 0)), (3, .ref (ad 90))]) hx hb dL_law_494 hl (by decide) rfl (fun ls hl => ?_)
    have st := st_yesv hI (F := fun gm => fX7_charter gm (fX6_charter g q (xs (7 * k + 1)) (xs (7 * k + 2)) (xs (7 * k + 3))).2.2 (xs (7 * k + 1)) (xs (7 * k + 2)) (xs (7 * k + 3))) (fun gm hg => o_charter (q' := (fX6_charter g q (xs (7 * k + 1)) (xs (7 * k + 2)) (xs (7 * k + 3))).2.2) hg (xs (7 * k + 1)) (xs (7 * k + 2)) (xs (7 * k + 3))) f6_charter (fun gm => f7_charter) h0
    try dsimp only at st
    refine lv_aload_n hx hb dL_law_496 rfl (lv_at hl 4 rfl) ?_
    refine lv_aload_n hx hb dL_law_497 rfl (lv_at hl 2 rfl) ?_
    refine lv_iload hx hb dL_law_498 (lv_at hl 1 rfl) ?_
    refine lv_iconst (v := 1) hx hb dL_law_500 (by decide) ?_
    refine lv_iadd hx hb dL_law_501 ?_
    refine sy_top (y := nI (7 * k + 1)) (nI_add _ _) ?_
    refine va_sld hx hb hX hbl hbA hS (vp_in_nI (show 7 * k + 1 < L by omega) (by omega)) dL_law_502 ?_
    refine sy_top (y := xs (7 * k + 1)) (by rw [nI_clamp (by omega)]) ?_
    refine lv_aload_n hx hb dL_law_503 rfl (lv_at hl 2 rfl) ?_
    refine lv_iload hx hb dL_law_504 (lv_at hl 1 rfl) ?_
    refine lv_iconst (v := 2) hx hb dL_law_506 (by decide) ?_
    refine lv_iadd hx hb dL_law_507 ?_
    refine sy_top (y := nI (7 * k + 2)) (nI_add _ _) ?_
    refine va_sld hx hb hX hbl hbA hS (vp_in_nI (show 7 * k + 2 < L by omega) (by omega)) dL_law_508 ?_
    refine sy_top (y := xs (7 * k + 2)) (by rw [nI_clamp (by omega)]) ?_
    refine lv_aload_n hx hb dL_law_509 rfl (lv_at hl 2 rfl) ?_
    refine lv_iload hx hb dL_law_510 (lv_at hl 1 rfl) ?_
    refine lv_iconst (v := 3) hx hb dL_law_512 (by decide) ?_
    refine lv_iadd hx hb dL_law_513 ?_
    refine sy_top (y := nI (7 * k + 3)) (nI_add _ _) ?_
    refine va_sld hx hb hX hbl hbA hS (vp_in_nI (show 7 * k + 3 < L by omega) (by omega)) dL_law_514 ?_
    refine sy_top (y := xs (7 * k + 3)) (by rw [nI_clamp (by omega)]) ?_
    refine sy_kv (sy_rV (o := 0) (As := [.int (xs (7 * k + 1)), .int (xs (7 * k + 2)), .int (xs (7 * k + 3))]) (rest := []) ⟨hx, hb, hml, hown, hts⟩ hE hP hS (mX7_charter l hfl Z nT nK cT cK ad (fX6_charter g q (xs (7 * k + 1)) (xs (7 * k + 2)) (xs (7 * k + 3))).2.1 (fX6_charter g q (xs (7 * k + 1)) (xs (7 * k + 2)) (xs (7 * k + 3))).2.2 (xs (7 * k + 1)) (xs (7 * k + 2)) (xs (7 * k + 3)) st.1.2.1) (cwV 3 hts (gl_V uk_5_123 uk_5_124 uk_5_125 uk_1_9 uk_5_126) rfl rfl rfl (by decide +kernel) ⟨Nat.le_of_ble_eq_true rfl, Nat.le_of_ble_eq_true rfl⟩) (sy_recv (kc := 8) hE hP rfl (by decide) rfl rfl rfl) rfl hl.1 rfl (Nat.le_of_ble_eq_true rfl) dL_law_515 ⟨by show _ ≤ 601024; (try dsimp only); omega, by show _ ≤ 7293034; (try dsimp only); omega⟩) hS (fun g2 q2 H locs e2 hP hS => ?_)
    obtain ⟨rfl, rfl⟩ : (fX7_charter (fX6_charter g q (xs (7 * k + 1)) (xs (7 * k + 2)) (xs (7 * k + 3))).2.1 (fX6_charter g q (xs (7 * k + 1)) (xs (7 * k + 2)) (xs (7 * k + 3))).2.2 (xs (7 * k + 1)) (xs (7 * k + 2)) (xs (7 * k + 3))) = g2 ∧ (fX6_charter g q (xs (7 * k + 1)) (xs (7 * k + 2)) (xs (7 * k + 3))).2.2 = q2 := by cases e2; exact ⟨rfl, rfl⟩
    refine lv_aload_n hx hb dL_law_518 rfl (lv_at hl 4 rfl) ?_
    refine sy_ki (sy_rV (o := 0) (As := []) (rest := []) ⟨hx, hb, hml, hown, hts⟩ hE hP hS (mX7_thrown l hfl Z nT nK cT cK ad (fX7_charter (fX6_charter g q (xs (7 * k + 1)) (xs (7 * k + 2)) (xs (7 * k + 3))).2.1 (fX6_charter g q (xs (7 * k + 1)) (xs (7 * k + 2)) (xs (7 * k + 3))).2.2 (xs (7 * k + 1)) (xs (7 * k + 2)) (xs (7 * k + 3))) (fX6_charter g q (xs (7 * k + 1)) (xs (7 * k + 2)) (xs (7 * k + 3))).2.2) (cwV 0 hts (gl_V uk_5_93 uk_5_94 uk_5_95 uk_1_9 uk_5_96) rfl rfl rfl (by decide +kernel) ⟨Nat.le_of_ble_eq_true rfl, Nat.le_of_ble_eq_true rfl⟩) (sy_recv (kc := 8) hE hP rfl (by decide) rfl rfl rfl) rfl hl.1 rfl (Nat.le_of_ble_eq_true rfl) dL_law_519 ⟨by show _ ≤ 601024; (try dsimp only); omega, by show _ ≤ 7293034; (try dsimp only); omega⟩) hS (fun b3 g3 q3 H locs e3 hP hS => ?_)
    obtain ⟨rfl, rfl, rfl⟩ : (fX7_charter (fX6_charter g q (xs (7 * k + 1)) (xs (7 * k + 2)) (xs (7 * k + 3))).2.1 (fX6_charter g q (xs (7 * k + 1)) (xs (7 * k + 2)) (xs (7 * k + 3))).2.2 (xs (7 * k + 1)) (xs (7 * k + 2)) (xs (7 * k + 3))) 0 0 = b3 ∧ (fX7_charter (fX6_charter g q (xs (7 * k + 1)) (xs (7 * k + 2)) (xs (7 * k + 3))).2.1 (fX6_charter g q (xs (7 * k + 1)) (xs (7 * k + 2)) (xs (7 * k + 3))).2.2 (xs (7 * k + 1)) (xs (7 * k + 2)) (xs (7 * k + 3))) = g3 ∧ (fX6_charter g q (xs (7 * k + 1)) (xs (7 * k + 2)) (xs (7 * k + 3))).2.2 = q3 := by cases e3; exact ⟨rfl, rfl, rfl⟩
    refine sy_top (y := 0) st.2.1 ?_
    refine lv_iload hx hb dL_law_522 (lv_at hl 0 rfl) ?_
    refine lv_icmp_eq (tgt := 529) hx hb dL_law_524 (by decide) (fun _ => ?_) (fun c9 => absurd rfl c9)
    refine lv_goto (tgt := 2272) hx hb dL_law_529 (by decide) ?_
    refine W.widen (k := 100 + 16 * (k + 1)) (n := 4000 + 200 * (k + 1)) (by (try dsimp only); omega) (by (try dsimp only); omega) ?_
    exact hJ _ _ _ _ _ _ _ _ _ _ ⟨hP, by rw [Nat.succ_mul]; exact st.2.2, h70, h71, hS, lv_sub hl [1, 2, 3, 4, 5] rfl⟩
  · replace hg9 := hg9.symm
    replace hq9 := hq9.symm
    subst hg9
    subst hq9
    refine lv_istore (lv' := [(5, .int (wf 1 2 9 (fX6_charter g q (xs (7 * k + 1)) (xs (7 * k + 2)) (xs (7 * k + 3))).1)), (4, .int (nI (7 * k))), (0, .ref b), (1, .ref (ad 60)), (2, .ref (ad 0)), (3, .ref (ad 90))]) hx hb dL_law_494 hl (by decide) rfl (fun ls hl => ?_)
    have st := st_nov hI (F := fun gm => fX7_charter gm q (xs (7 * k + 1)) (xs (7 * k + 2)) (xs (7 * k + 3))) (fun gm hg => o_charter (q' := q) hg (xs (7 * k + 1)) (xs (7 * k + 2)) (xs (7 * k + 3))) n6_charter (fun gm => f7_charter) h0
    try dsimp only at st
    refine lv_aload_n hx hb dL_law_496 rfl (lv_at hl 4 rfl) ?_
    refine lv_aload_n hx hb dL_law_497 rfl (lv_at hl 2 rfl) ?_
    refine lv_iload hx hb dL_law_498 (lv_at hl 1 rfl) ?_
    refine lv_iconst (v := 1) hx hb dL_law_500 (by decide) ?_
    refine lv_iadd hx hb dL_law_501 ?_
    refine sy_top (y := nI (7 * k + 1)) (nI_add _ _) ?_
    refine va_sld hx hb hX hbl hbA hS (vp_in_nI (show 7 * k + 1 < L by omega) (by omega)) dL_law_502 ?_
    refine sy_top (y := xs (7 * k + 1)) (by rw [nI_clamp (by omega)]) ?_
    refine lv_aload_n hx hb dL_law_503 rfl (lv_at hl 2 rfl) ?_
    refine lv_iload hx hb dL_law_504 (lv_at hl 1 rfl) ?_
    refine lv_iconst (v := 2) hx hb dL_law_506 (by decide) ?_
    refine lv_iadd hx hb dL_law_507 ?_
    refine sy_top (y := nI (7 * k + 2)) (nI_add _ _) ?_
    refine va_sld hx hb hX hbl hbA hS (vp_in_nI (show 7 * k + 2 < L by omega) (by omega)) dL_law_508 ?_
    refine sy_top (y := xs (7 * k + 2)) (by rw [nI_clamp (by omega)]) ?_
    refine lv_aload_n hx hb dL_law_509 rfl (lv_at hl 2 rfl) ?_
    refine lv_iload hx hb dL_law_510 (lv_at hl 1 rfl) ?_
    refine lv_iconst (v := 3) hx hb dL_law_512 (by decide) ?_
    refine lv_iadd hx hb dL_law_513 ?_
    refine sy_top (y := nI (7 * k + 3)) (nI_add _ _) ?_
    refine va_sld hx hb hX hbl hbA hS (vp_in_nI (show 7 * k + 3 < L by omega) (by omega)) dL_law_514 ?_
    refine sy_top (y := xs (7 * k + 3)) (by rw [nI_clamp (by omega)]) ?_
    refine sy_kv (sy_rV (o := 0) (As := [.int (xs (7 * k + 1)), .int (xs (7 * k + 2)), .int (xs (7 * k + 3))]) (rest := []) ⟨hx, hb, hml, hown, hts⟩ hE hP hS (mX7_charter l hfl Z nT nK cT cK ad g q (xs (7 * k + 1)) (xs (7 * k + 2)) (xs (7 * k + 3)) hI.2.1) (cwV 3 hts (gl_V uk_5_123 uk_5_124 uk_5_125 uk_1_9 uk_5_126) rfl rfl rfl (by decide +kernel) ⟨Nat.le_of_ble_eq_true rfl, Nat.le_of_ble_eq_true rfl⟩) (sy_recv (kc := 8) hE hP rfl (by decide) rfl rfl rfl) rfl hl.1 rfl (Nat.le_of_ble_eq_true rfl) dL_law_515 ⟨by show _ ≤ 601024; (try dsimp only); omega, by show _ ≤ 7293034; (try dsimp only); omega⟩) hS (fun g2 q2 H locs e2 hP hS => ?_)
    obtain ⟨rfl, rfl⟩ : (fX7_charter g q (xs (7 * k + 1)) (xs (7 * k + 2)) (xs (7 * k + 3))) = g2 ∧ q = q2 := by cases e2; exact ⟨rfl, rfl⟩
    refine lv_aload_n hx hb dL_law_518 rfl (lv_at hl 4 rfl) ?_
    refine sy_ki (sy_rV (o := 0) (As := []) (rest := []) ⟨hx, hb, hml, hown, hts⟩ hE hP hS (mX7_thrown l hfl Z nT nK cT cK ad (fX7_charter g q (xs (7 * k + 1)) (xs (7 * k + 2)) (xs (7 * k + 3))) q) (cwV 0 hts (gl_V uk_5_93 uk_5_94 uk_5_95 uk_1_9 uk_5_96) rfl rfl rfl (by decide +kernel) ⟨Nat.le_of_ble_eq_true rfl, Nat.le_of_ble_eq_true rfl⟩) (sy_recv (kc := 8) hE hP rfl (by decide) rfl rfl rfl) rfl hl.1 rfl (Nat.le_of_ble_eq_true rfl) dL_law_519 ⟨by show _ ≤ 601024; (try dsimp only); omega, by show _ ≤ 7293034; (try dsimp only); omega⟩) hS (fun b3 g3 q3 H locs e3 hP hS => ?_)
    obtain ⟨rfl, rfl, rfl⟩ : (fX7_charter g q (xs (7 * k + 1)) (xs (7 * k + 2)) (xs (7 * k + 3))) 0 0 = b3 ∧ (fX7_charter g q (xs (7 * k + 1)) (xs (7 * k + 2)) (xs (7 * k + 3))) = g3 ∧ q = q3 := by cases e3; exact ⟨rfl, rfl, rfl⟩
    refine sy_top (y := (wf 1 2 9 (fX6_charter g q (xs (7 * k + 1)) (xs (7 * k + 2)) (xs (7 * k + 3))).1)) st.1 ?_
    refine lv_iload hx hb dL_law_522 (lv_at hl 0 rfl) ?_
    refine lv_icmp_eq (tgt := 529) hx hb dL_law_524 (by decide) (fun _ => ?_) (fun c9 => absurd rfl c9)
    refine lv_goto (tgt := 2272) hx hb dL_law_529 (by decide) ?_
    refine W.widen (k := 100 + 16 * (k + 1)) (n := 4000 + 200 * (k + 1)) (by (try dsimp only); omega) (by (try dsimp only); omega) ?_
    exact hJ _ _ _ _ _ _ _ _ _ _ ⟨hP, by rw [Nat.succ_mul]; exact st.2.2, h70, h71, hS, lv_sub hl [1, 2, 3, 4, 5] rfl⟩
set_option maxHeartbeats 8000000 in
set_option maxRecDepth 100000 in
theorem lc_rate (hC : lCtx p l s m meth c b L xs Z) {k : Nat} (hk : 7 * k + 7 ≤ L) (hL : L ≤ 3584) (hJ : ∀ (nT nK cT cK : Nat) (ad : Nat → Nat) (g : sG) (q : sQ) (H : Heap) (locs : List Loc) (ls : Array Slot), lSt Z s b k (k + 1) nT nK cT cK ad g q H locs ls → W p l e room_1 s m #[Value.ref b] below meth c H locs (100 + 16 * (k + 1)) (4000 + 200 * (k + 1)) (lw_Z below #[Value.ref b] s) (F0 m 2272 ls []))
    {nT nK cT cK : Nat} {ad : Nat → Nat} {g : sG} {q : sQ} {H : Heap} {locs : List Loc} {ls : Array Slot} (h : lSt Z s b k k nT nK cT cK ad g q H locs ls) : W p l e room_1 s m #[Value.ref b] below meth c H locs (100 + 16 * k) (4000 + 200 * k) (lw_Z below #[Value.ref b] s) (F0 m 532 ls []) := by
  obtain ⟨hx, hb, hr, hml, hown, hts, hX, hbl, hlocks, hZ, hE, hNc, hfl⟩ := hC
  obtain ⟨hP, hI, h70, h71, hS, hl⟩ := h
  have hbA : ¬ sy_A Z b := fun z => absurd (show Z.2.2.1 ≤ b from z) (by omega)
  have hkB : k * oB ≤ 2048000000 := by
    have : k ≤ 511 := by omega
    calc k * oB ≤ 511 * 4000000 := Nat.mul_le_mul this (Nat.le_refl _)
      _ ≤ 2048000000 := by decide
  refine lv_aload_n hx hb dL_law_532 rfl (lv_at hl 2 rfl) ?_
  refine lv_aload_n hx hb dL_law_533 rfl (lv_at hl 1 rfl) ?_
  refine lv_iload hx hb dL_law_534 (lv_at hl 0 rfl) ?_
  refine lv_iconst (v := 1) hx hb dL_law_536 (by decide) ?_
  refine lv_iadd hx hb dL_law_537 ?_
  refine sy_top (y := nI (7 * k + 1)) (nI_add _ _) ?_
  refine va_sld hx hb hX hbl hbA hS (vp_in_nI (show 7 * k + 1 < L by omega) (by omega)) dL_law_538 ?_
  refine sy_top (y := xs (7 * k + 1)) (by rw [nI_clamp (by omega)]) ?_
  refine lv_aload_n hx hb dL_law_539 rfl (lv_at hl 1 rfl) ?_
  refine lv_iload hx hb dL_law_540 (lv_at hl 0 rfl) ?_
  refine lv_iconst (v := 2) hx hb dL_law_542 (by decide) ?_
  refine lv_iadd hx hb dL_law_543 ?_
  refine sy_top (y := nI (7 * k + 2)) (nI_add _ _) ?_
  refine va_sld hx hb hX hbl hbA hS (vp_in_nI (show 7 * k + 2 < L by omega) (by omega)) dL_law_544 ?_
  refine sy_top (y := xs (7 * k + 2)) (by rw [nI_clamp (by omega)]) ?_
  refine lv_aload_n hx hb dL_law_545 rfl (lv_at hl 4 rfl) ?_
  have hCode : wf 1 2 3 (fX6_rate g q (xs (7 * k + 1)) (xs (7 * k + 2))).1 ≠ 9 := (by
        by_cases z : (fX6_rate g q (xs (7 * k + 1)) (xs (7 * k + 2))).1 = 0
        · rw [z]; exact (by decide : (0 : Int32) ≠ 9)
        · exact (st_no hI (fun gm hg => o_rate (q' := (fX6_rate g q (xs (7 * k + 1)) (xs (7 * k + 2))).2.2.2) hg (xs (7 * k + 1)) (xs (7 * k + 2))) n6_rate (fun gm => f7_rate) z).2.1)
  refine va_calli (vx_runSW (As := [.ref (ad 60), .int (xs (7 * k + 1)), .int (xs (7 * k + 2)), .ref (ad 90)]) (rest := []) ⟨hx, hb, hml, hown, hts⟩ (mL_rate l hfl Z nT nK cT cK ad g q (xs (7 * k + 1)) (xs (7 * k + 2)) (by have := inv_T hI; omega) (inv_IG hI) (inv_IQ hI) hCode) (vx_cwSW 4 hts (gl_S uk_2_215 uk_2_216 uk_1_0 uk_2_217) rfl rfl rfl (by decide +kernel) ⟨Nat.le_of_ble_eq_true rfl, Nat.le_of_ble_eq_true rfl⟩) ⟨sPreL_blind _, fun U hU hW => ⟨rfl, ⟨hE.next hS hU hW.alike, by rw [hU]; exact hP⟩, hNc.next hW.alike⟩⟩ rfl rfl hl.1 rfl (lv_room (Nat.le_of_ble_eq_true rfl)) dL_law_546 ⟨by show _ ≤ 601024; (try dsimp only); omega, by show _ ≤ 7293034; (try dsimp only); omega⟩) hS (fun _ _ h => h) (fun _ h => h) (fun r u t H locs ht _ hp hB _ _ hS => ?_)
  obtain ⟨g1, q1⟩ := u
  have hP := hB.2
  rw [ht] at hP
  dsimp only at hp hP
  rcases hp with ⟨h0, rfl, rfl, rfl⟩ | ⟨h0, rfl, hg9, hq9⟩
  · refine lv_istore (lv' := [(5, .int 0), (4, .int (nI (7 * k))), (0, .ref b), (1, .ref (ad 60)), (2, .ref (ad 0)), (3, .ref (ad 90))]) hx hb dL_law_549 hl (by decide) rfl (fun ls hl => ?_)
    have st := st_yes hI (F := fun gm => fX7_rate gm (fX6_rate g q (xs (7 * k + 1)) (xs (7 * k + 2))).2.2.2 (xs (7 * k + 1)) (xs (7 * k + 2))) (fun gm hg => o_rate (q' := (fX6_rate g q (xs (7 * k + 1)) (xs (7 * k + 2))).2.2.2) hg (xs (7 * k + 1)) (xs (7 * k + 2))) f6_rate (fun gm => f7_rate) h0
    try dsimp only at st
    refine lv_aload_n hx hb dL_law_551 rfl (lv_at hl 4 rfl) ?_
    refine lv_aload_n hx hb dL_law_552 rfl (lv_at hl 2 rfl) ?_
    refine lv_iload hx hb dL_law_553 (lv_at hl 1 rfl) ?_
    refine lv_iconst (v := 1) hx hb dL_law_555 (by decide) ?_
    refine lv_iadd hx hb dL_law_556 ?_
    refine sy_top (y := nI (7 * k + 1)) (nI_add _ _) ?_
    refine va_sld hx hb hX hbl hbA hS (vp_in_nI (show 7 * k + 1 < L by omega) (by omega)) dL_law_557 ?_
    refine sy_top (y := xs (7 * k + 1)) (by rw [nI_clamp (by omega)]) ?_
    refine lv_aload_n hx hb dL_law_558 rfl (lv_at hl 2 rfl) ?_
    refine lv_iload hx hb dL_law_559 (lv_at hl 1 rfl) ?_
    refine lv_iconst (v := 2) hx hb dL_law_561 (by decide) ?_
    refine lv_iadd hx hb dL_law_562 ?_
    refine sy_top (y := nI (7 * k + 2)) (nI_add _ _) ?_
    refine va_sld hx hb hX hbl hbA hS (vp_in_nI (show 7 * k + 2 < L by omega) (by omega)) dL_law_563 ?_
    refine sy_top (y := xs (7 * k + 2)) (by rw [nI_clamp (by omega)]) ?_
    refine sy_ki (sy_rV (o := 0) (As := [.int (xs (7 * k + 1)), .int (xs (7 * k + 2))]) (rest := []) ⟨hx, hb, hml, hown, hts⟩ hE hP hS (mX7_rate l hfl Z nT nK cT cK ad (sy_up (fX6_rate g q (xs (7 * k + 1)) (xs (7 * k + 2))).2.2.1 90 0 (fX6_rate g q (xs (7 * k + 1)) (xs (7 * k + 2))).2.1) (fX6_rate g q (xs (7 * k + 1)) (xs (7 * k + 2))).2.2.2 (xs (7 * k + 1)) (xs (7 * k + 2)) st.1.2.1) (cwV 2 hts (gl_V uk_5_128 uk_5_129 uk_5_130 uk_1_9 uk_5_131) rfl rfl rfl (by decide +kernel) ⟨Nat.le_of_ble_eq_true rfl, Nat.le_of_ble_eq_true rfl⟩) (sy_recv (kc := 8) hE hP rfl (by decide) rfl rfl rfl) rfl hl.1 rfl (Nat.le_of_ble_eq_true rfl) dL_law_564 ⟨by show _ ≤ 601024; (try dsimp only); omega, by show _ ≤ 7293034; (try dsimp only); omega⟩) hS (fun b2 g2 q2 H locs e2 hP hS => ?_)
    obtain ⟨rfl, rfl, rfl⟩ : (fX7_rate (sy_up (fX6_rate g q (xs (7 * k + 1)) (xs (7 * k + 2))).2.2.1 90 0 (fX6_rate g q (xs (7 * k + 1)) (xs (7 * k + 2))).2.1) (fX6_rate g q (xs (7 * k + 1)) (xs (7 * k + 2))).2.2.2 (xs (7 * k + 1)) (xs (7 * k + 2))).1 = b2 ∧ (fX7_rate (sy_up (fX6_rate g q (xs (7 * k + 1)) (xs (7 * k + 2))).2.2.1 90 0 (fX6_rate g q (xs (7 * k + 1)) (xs (7 * k + 2))).2.1) (fX6_rate g q (xs (7 * k + 1)) (xs (7 * k + 2))).2.2.2 (xs (7 * k + 1)) (xs (7 * k + 2))).2 = g2 ∧ (fX6_rate g q (xs (7 * k + 1)) (xs (7 * k + 2))).2.2.2 = q2 := by cases e2; exact ⟨rfl, rfl, rfl⟩
    refine lv_istore (lv' := [(6, .int (fX7_rate (sy_up (fX6_rate g q (xs (7 * k + 1)) (xs (7 * k + 2))).2.2.1 90 0 (fX6_rate g q (xs (7 * k + 1)) (xs (7 * k + 2))).2.1) (fX6_rate g q (xs (7 * k + 1)) (xs (7 * k + 2))).2.2.2 (xs (7 * k + 1)) (xs (7 * k + 2))).1), (5, .int 0), (4, .int (nI (7 * k))), (0, .ref b), (1, .ref (ad 60)), (2, .ref (ad 0)), (3, .ref (ad 90))]) hx hb dL_law_567 hl (by decide) rfl (fun ls hl => ?_)
    refine lv_aload_n hx hb dL_law_569 rfl (lv_at hl 5 rfl) ?_
    refine sy_ki (sy_rV (o := 0) (As := []) (rest := []) ⟨hx, hb, hml, hown, hts⟩ hE hP hS (mX7_thrown l hfl Z nT nK cT cK ad (fX7_rate (sy_up (fX6_rate g q (xs (7 * k + 1)) (xs (7 * k + 2))).2.2.1 90 0 (fX6_rate g q (xs (7 * k + 1)) (xs (7 * k + 2))).2.1) (fX6_rate g q (xs (7 * k + 1)) (xs (7 * k + 2))).2.2.2 (xs (7 * k + 1)) (xs (7 * k + 2))).2 (fX6_rate g q (xs (7 * k + 1)) (xs (7 * k + 2))).2.2.2) (cwV 0 hts (gl_V uk_5_93 uk_5_94 uk_5_95 uk_1_9 uk_5_96) rfl rfl rfl (by decide +kernel) ⟨Nat.le_of_ble_eq_true rfl, Nat.le_of_ble_eq_true rfl⟩) (sy_recv (kc := 8) hE hP rfl (by decide) rfl rfl rfl) rfl hl.1 rfl (Nat.le_of_ble_eq_true rfl) dL_law_570 ⟨by show _ ≤ 601024; (try dsimp only); omega, by show _ ≤ 7293034; (try dsimp only); omega⟩) hS (fun b3 g3 q3 H locs e3 hP hS => ?_)
    obtain ⟨rfl, rfl, rfl⟩ : (fX7_rate (sy_up (fX6_rate g q (xs (7 * k + 1)) (xs (7 * k + 2))).2.2.1 90 0 (fX6_rate g q (xs (7 * k + 1)) (xs (7 * k + 2))).2.1) (fX6_rate g q (xs (7 * k + 1)) (xs (7 * k + 2))).2.2.2 (xs (7 * k + 1)) (xs (7 * k + 2))).2 0 0 = b3 ∧ (fX7_rate (sy_up (fX6_rate g q (xs (7 * k + 1)) (xs (7 * k + 2))).2.2.1 90 0 (fX6_rate g q (xs (7 * k + 1)) (xs (7 * k + 2))).2.1) (fX6_rate g q (xs (7 * k + 1)) (xs (7 * k + 2))).2.2.2 (xs (7 * k + 1)) (xs (7 * k + 2))).2 = g3 ∧ (fX6_rate g q (xs (7 * k + 1)) (xs (7 * k + 2))).2.2.2 = q3 := by cases e3; exact ⟨rfl, rfl, rfl⟩
    refine sy_top (y := 0) st.2.1 ?_
    refine lv_iload hx hb dL_law_573 (lv_at hl 1 rfl) ?_
    refine lv_icmp_eq (tgt := 580) hx hb dL_law_575 (by decide) (fun _ => ?_) (fun c9 => absurd rfl c9)
    refine lv_iload hx hb dL_law_580 (lv_at hl 1 rfl) ?_
    refine lv_if_ne (tgt := 597) hx hb dL_law_582 (by decide) (fun c9 => absurd rfl c9) (fun _ => ?_)
    refine lv_aload_n hx hb dL_law_585 rfl (lv_at hl 6 rfl) ?_
    refine lv_iconst (v := 0) hx hb dL_law_586 (by decide) ?_
    refine sy_lald hx hb hE hP 90 rfl (i := 0) (k_in rfl) dL_law_587 ?_
    refine lv_iload hx hb dL_law_588 (lv_at hl 0 rfl) ?_
    refine lv_i2l (v := ((fX7_rate (sy_up (fX6_rate g q (xs (7 * k + 1)) (xs (7 * k + 2))).2.2.1 90 0 (fX6_rate g q (xs (7 * k + 1)) (xs (7 * k + 2))).2.1) (fX6_rate g q (xs (7 * k + 1)) (xs (7 * k + 2))).2.2.2 (xs (7 * k + 1)) (xs (7 * k + 2))).2 90 0).toInt64) hx hb dL_law_590 (by rw [st.2.2.2.1, st.2.2.1]) ?_
    refine lv_lcmp0 hx hb dL_law_591 ?_
    refine lv_if_eq (tgt := 597) hx hb dL_law_592 (by decide) (fun _ => ?_) (fun c9 => absurd rfl c9)
    refine lv_goto (tgt := 2272) hx hb dL_law_597 (by decide) ?_
    refine W.widen (k := 100 + 16 * (k + 1)) (n := 4000 + 200 * (k + 1)) (by (try dsimp only); omega) (by (try dsimp only); omega) ?_
    exact hJ _ _ _ _ _ _ _ _ _ _ ⟨hP, by rw [Nat.succ_mul]; exact st.2.2.2.2, h70, h71, hS, lv_sub hl [2, 3, 4, 5, 6] rfl⟩
  · replace hg9 := hg9.symm
    replace hq9 := hq9.symm
    subst hg9
    subst hq9
    refine lv_istore (lv' := [(5, .int (wf 1 2 3 (fX6_rate g q (xs (7 * k + 1)) (xs (7 * k + 2))).1)), (4, .int (nI (7 * k))), (0, .ref b), (1, .ref (ad 60)), (2, .ref (ad 0)), (3, .ref (ad 90))]) hx hb dL_law_549 hl (by decide) rfl (fun ls hl => ?_)
    have st := st_no hI (F := fun gm => fX7_rate gm q (xs (7 * k + 1)) (xs (7 * k + 2))) (fun gm hg => o_rate (q' := q) hg (xs (7 * k + 1)) (xs (7 * k + 2))) n6_rate (fun gm => f7_rate) h0
    try dsimp only at st
    refine lv_aload_n hx hb dL_law_551 rfl (lv_at hl 4 rfl) ?_
    refine lv_aload_n hx hb dL_law_552 rfl (lv_at hl 2 rfl) ?_
    refine lv_iload hx hb dL_law_553 (lv_at hl 1 rfl) ?_
    refine lv_iconst (v := 1) hx hb dL_law_555 (by decide) ?_
    refine lv_iadd hx hb dL_law_556 ?_
    refine sy_top (y := nI (7 * k + 1)) (nI_add _ _) ?_
    refine va_sld hx hb hX hbl hbA hS (vp_in_nI (show 7 * k + 1 < L by omega) (by omega)) dL_law_557 ?_
    refine sy_top (y := xs (7 * k + 1)) (by rw [nI_clamp (by omega)]) ?_
    refine lv_aload_n hx hb dL_law_558 rfl (lv_at hl 2 rfl) ?_
    refine lv_iload hx hb dL_law_559 (lv_at hl 1 rfl) ?_
    refine lv_iconst (v := 2) hx hb dL_law_561 (by decide) ?_
    refine lv_iadd hx hb dL_law_562 ?_
    refine sy_top (y := nI (7 * k + 2)) (nI_add _ _) ?_
    refine va_sld hx hb hX hbl hbA hS (vp_in_nI (show 7 * k + 2 < L by omega) (by omega)) dL_law_563 ?_
    refine sy_top (y := xs (7 * k + 2)) (by rw [nI_clamp (by omega)]) ?_
    refine sy_ki (sy_rV (o := 0) (As := [.int (xs (7 * k + 1)), .int (xs (7 * k + 2))]) (rest := []) ⟨hx, hb, hml, hown, hts⟩ hE hP hS (mX7_rate l hfl Z nT nK cT cK ad g q (xs (7 * k + 1)) (xs (7 * k + 2)) hI.2.1) (cwV 2 hts (gl_V uk_5_128 uk_5_129 uk_5_130 uk_1_9 uk_5_131) rfl rfl rfl (by decide +kernel) ⟨Nat.le_of_ble_eq_true rfl, Nat.le_of_ble_eq_true rfl⟩) (sy_recv (kc := 8) hE hP rfl (by decide) rfl rfl rfl) rfl hl.1 rfl (Nat.le_of_ble_eq_true rfl) dL_law_564 ⟨by show _ ≤ 601024; (try dsimp only); omega, by show _ ≤ 7293034; (try dsimp only); omega⟩) hS (fun b2 g2 q2 H locs e2 hP hS => ?_)
    obtain ⟨rfl, rfl, rfl⟩ : (fX7_rate g q (xs (7 * k + 1)) (xs (7 * k + 2))).1 = b2 ∧ (fX7_rate g q (xs (7 * k + 1)) (xs (7 * k + 2))).2 = g2 ∧ q = q2 := by cases e2; exact ⟨rfl, rfl, rfl⟩
    refine lv_istore (lv' := [(6, .int (fX7_rate g q (xs (7 * k + 1)) (xs (7 * k + 2))).1), (5, .int (wf 1 2 3 (fX6_rate g q (xs (7 * k + 1)) (xs (7 * k + 2))).1)), (4, .int (nI (7 * k))), (0, .ref b), (1, .ref (ad 60)), (2, .ref (ad 0)), (3, .ref (ad 90))]) hx hb dL_law_567 hl (by decide) rfl (fun ls hl => ?_)
    refine lv_aload_n hx hb dL_law_569 rfl (lv_at hl 5 rfl) ?_
    refine sy_ki (sy_rV (o := 0) (As := []) (rest := []) ⟨hx, hb, hml, hown, hts⟩ hE hP hS (mX7_thrown l hfl Z nT nK cT cK ad (fX7_rate g q (xs (7 * k + 1)) (xs (7 * k + 2))).2 q) (cwV 0 hts (gl_V uk_5_93 uk_5_94 uk_5_95 uk_1_9 uk_5_96) rfl rfl rfl (by decide +kernel) ⟨Nat.le_of_ble_eq_true rfl, Nat.le_of_ble_eq_true rfl⟩) (sy_recv (kc := 8) hE hP rfl (by decide) rfl rfl rfl) rfl hl.1 rfl (Nat.le_of_ble_eq_true rfl) dL_law_570 ⟨by show _ ≤ 601024; (try dsimp only); omega, by show _ ≤ 7293034; (try dsimp only); omega⟩) hS (fun b3 g3 q3 H locs e3 hP hS => ?_)
    obtain ⟨rfl, rfl, rfl⟩ : (fX7_rate g q (xs (7 * k + 1)) (xs (7 * k + 2))).2 0 0 = b3 ∧ (fX7_rate g q (xs (7 * k + 1)) (xs (7 * k + 2))).2 = g3 ∧ q = q3 := by cases e3; exact ⟨rfl, rfl, rfl⟩
    refine sy_top (y := (wf 1 2 3 (fX6_rate g q (xs (7 * k + 1)) (xs (7 * k + 2))).1)) st.1 ?_
    refine lv_iload hx hb dL_law_573 (lv_at hl 1 rfl) ?_
    refine lv_icmp_eq (tgt := 580) hx hb dL_law_575 (by decide) (fun _ => ?_) (fun c9 => absurd rfl c9)
    refine lv_iload hx hb dL_law_580 (lv_at hl 1 rfl) ?_
    refine lv_if_ne (tgt := 597) hx hb dL_law_582 (by decide) (fun _ => ?_) (fun c9 => absurd c9 ((wf_ne h0 hCode).resolve_right (by decide)))
    refine lv_goto (tgt := 2272) hx hb dL_law_597 (by decide) ?_
    refine W.widen (k := 100 + 16 * (k + 1)) (n := 4000 + 200 * (k + 1)) (by (try dsimp only); omega) (by (try dsimp only); omega) ?_
    exact hJ _ _ _ _ _ _ _ _ _ _ ⟨hP, by rw [Nat.succ_mul]; exact st.2.2, h70, h71, hS, lv_sub hl [2, 3, 4, 5, 6] rfl⟩
set_option maxHeartbeats 8000000 in
set_option maxRecDepth 100000 in
theorem lc_term (hC : lCtx p l s m meth c b L xs Z) {k : Nat} (hk : 7 * k + 7 ≤ L) (hL : L ≤ 3584) (hJ : ∀ (nT nK cT cK : Nat) (ad : Nat → Nat) (g : sG) (q : sQ) (H : Heap) (locs : List Loc) (ls : Array Slot), lSt Z s b k (k + 1) nT nK cT cK ad g q H locs ls → W p l e room_1 s m #[Value.ref b] below meth c H locs (100 + 16 * (k + 1)) (4000 + 200 * (k + 1)) (lw_Z below #[Value.ref b] s) (F0 m 2272 ls []))
    {nT nK cT cK : Nat} {ad : Nat → Nat} {g : sG} {q : sQ} {H : Heap} {locs : List Loc} {ls : Array Slot} (h : lSt Z s b k k nT nK cT cK ad g q H locs ls) : W p l e room_1 s m #[Value.ref b] below meth c H locs (100 + 16 * k) (4000 + 200 * k) (lw_Z below #[Value.ref b] s) (F0 m 600 ls []) := by
  obtain ⟨hx, hb, hr, hml, hown, hts, hX, hbl, hlocks, hZ, hE, hNc, hfl⟩ := hC
  obtain ⟨hP, hI, h70, h71, hS, hl⟩ := h
  have hbA : ¬ sy_A Z b := fun z => absurd (show Z.2.2.1 ≤ b from z) (by omega)
  have hkB : k * oB ≤ 2048000000 := by
    have : k ≤ 511 := by omega
    calc k * oB ≤ 511 * 4000000 := Nat.mul_le_mul this (Nat.le_refl _)
      _ ≤ 2048000000 := by decide
  refine lv_aload_n hx hb dL_law_600 rfl (lv_at hl 2 rfl) ?_
  refine lv_aload_n hx hb dL_law_601 rfl (lv_at hl 1 rfl) ?_
  refine lv_iload hx hb dL_law_602 (lv_at hl 0 rfl) ?_
  refine lv_iconst (v := 1) hx hb dL_law_604 (by decide) ?_
  refine lv_iadd hx hb dL_law_605 ?_
  refine sy_top (y := nI (7 * k + 1)) (nI_add _ _) ?_
  refine va_sld hx hb hX hbl hbA hS (vp_in_nI (show 7 * k + 1 < L by omega) (by omega)) dL_law_606 ?_
  refine sy_top (y := xs (7 * k + 1)) (by rw [nI_clamp (by omega)]) ?_
  refine lv_aload_n hx hb dL_law_607 rfl (lv_at hl 4 rfl) ?_
  have hCode : wf 9 1 9 (fX6_term g q (xs (7 * k + 1))).1 ≠ 9 := (by
        by_cases z : (fX6_term g q (xs (7 * k + 1))).1 = 0
        · rw [z]; exact (by decide : (0 : Int32) ≠ 9)
        · exact (st_no hI (fun gm hg => o_term (q' := (fX6_term g q (xs (7 * k + 1))).2.2.2) hg (xs (7 * k + 1))) n6_term (fun gm => f7_term) z).2.1)
  refine va_calli (vx_runSW (As := [.ref (ad 60), .int (xs (7 * k + 1)), .ref (ad 90)]) (rest := []) ⟨hx, hb, hml, hown, hts⟩ (mL_term l hfl Z nT nK cT cK ad g q (xs (7 * k + 1)) (by have := inv_T hI; omega) (inv_IG hI) (inv_IQ hI) hCode) (vx_cwSW 3 hts (gl_S uk_2_238 uk_2_239 uk_1_0 uk_3_0) rfl rfl rfl (by decide +kernel) ⟨Nat.le_of_ble_eq_true rfl, Nat.le_of_ble_eq_true rfl⟩) ⟨sPreL_blind _, fun U hU hW => ⟨rfl, ⟨hE.next hS hU hW.alike, by rw [hU]; exact hP⟩, hNc.next hW.alike⟩⟩ rfl rfl hl.1 rfl (lv_room (Nat.le_of_ble_eq_true rfl)) dL_law_608 ⟨by show _ ≤ 601024; (try dsimp only); omega, by show _ ≤ 7293034; (try dsimp only); omega⟩) hS (fun _ _ h => h) (fun _ h => h) (fun r u t H locs ht _ hp hB _ _ hS => ?_)
  obtain ⟨g1, q1⟩ := u
  have hP := hB.2
  rw [ht] at hP
  dsimp only at hp hP
  rcases hp with ⟨h0, rfl, rfl, rfl⟩ | ⟨h0, rfl, hg9, hq9⟩
  · refine lv_istore (lv' := [(5, .int 0), (4, .int (nI (7 * k))), (0, .ref b), (1, .ref (ad 60)), (2, .ref (ad 0)), (3, .ref (ad 90))]) hx hb dL_law_611 hl (by decide) rfl (fun ls hl => ?_)
    have st := st_yes hI (F := fun gm => fX7_term gm (fX6_term g q (xs (7 * k + 1))).2.2.2 (xs (7 * k + 1))) (fun gm hg => o_term (q' := (fX6_term g q (xs (7 * k + 1))).2.2.2) hg (xs (7 * k + 1))) f6_term (fun gm => f7_term) h0
    try dsimp only at st
    refine lv_aload_n hx hb dL_law_613 rfl (lv_at hl 4 rfl) ?_
    refine lv_aload_n hx hb dL_law_614 rfl (lv_at hl 2 rfl) ?_
    refine lv_iload hx hb dL_law_615 (lv_at hl 1 rfl) ?_
    refine lv_iconst (v := 1) hx hb dL_law_617 (by decide) ?_
    refine lv_iadd hx hb dL_law_618 ?_
    refine sy_top (y := nI (7 * k + 1)) (nI_add _ _) ?_
    refine va_sld hx hb hX hbl hbA hS (vp_in_nI (show 7 * k + 1 < L by omega) (by omega)) dL_law_619 ?_
    refine sy_top (y := xs (7 * k + 1)) (by rw [nI_clamp (by omega)]) ?_
    refine sy_ki (sy_rV (o := 0) (As := [.int (xs (7 * k + 1))]) (rest := []) ⟨hx, hb, hml, hown, hts⟩ hE hP hS (mX7_term l hfl Z nT nK cT cK ad (sy_up (fX6_term g q (xs (7 * k + 1))).2.2.1 90 0 (fX6_term g q (xs (7 * k + 1))).2.1) (fX6_term g q (xs (7 * k + 1))).2.2.2 (xs (7 * k + 1)) st.1.2.1) (cwV 1 hts (gl_V uk_5_136 uk_5_137 uk_5_138 uk_1_9 uk_5_139) rfl rfl rfl (by decide +kernel) ⟨Nat.le_of_ble_eq_true rfl, Nat.le_of_ble_eq_true rfl⟩) (sy_recv (kc := 8) hE hP rfl (by decide) rfl rfl rfl) rfl hl.1 rfl (Nat.le_of_ble_eq_true rfl) dL_law_620 ⟨by show _ ≤ 601024; (try dsimp only); omega, by show _ ≤ 7293034; (try dsimp only); omega⟩) hS (fun b2 g2 q2 H locs e2 hP hS => ?_)
    obtain ⟨rfl, rfl, rfl⟩ : (fX7_term (sy_up (fX6_term g q (xs (7 * k + 1))).2.2.1 90 0 (fX6_term g q (xs (7 * k + 1))).2.1) (fX6_term g q (xs (7 * k + 1))).2.2.2 (xs (7 * k + 1))).1 = b2 ∧ (fX7_term (sy_up (fX6_term g q (xs (7 * k + 1))).2.2.1 90 0 (fX6_term g q (xs (7 * k + 1))).2.1) (fX6_term g q (xs (7 * k + 1))).2.2.2 (xs (7 * k + 1))).2 = g2 ∧ (fX6_term g q (xs (7 * k + 1))).2.2.2 = q2 := by cases e2; exact ⟨rfl, rfl, rfl⟩
    refine lv_istore (lv' := [(6, .int (fX7_term (sy_up (fX6_term g q (xs (7 * k + 1))).2.2.1 90 0 (fX6_term g q (xs (7 * k + 1))).2.1) (fX6_term g q (xs (7 * k + 1))).2.2.2 (xs (7 * k + 1))).1), (5, .int 0), (4, .int (nI (7 * k))), (0, .ref b), (1, .ref (ad 60)), (2, .ref (ad 0)), (3, .ref (ad 90))]) hx hb dL_law_623 hl (by decide) rfl (fun ls hl => ?_)
    refine lv_aload_n hx hb dL_law_625 rfl (lv_at hl 5 rfl) ?_
    refine sy_ki (sy_rV (o := 0) (As := []) (rest := []) ⟨hx, hb, hml, hown, hts⟩ hE hP hS (mX7_thrown l hfl Z nT nK cT cK ad (fX7_term (sy_up (fX6_term g q (xs (7 * k + 1))).2.2.1 90 0 (fX6_term g q (xs (7 * k + 1))).2.1) (fX6_term g q (xs (7 * k + 1))).2.2.2 (xs (7 * k + 1))).2 (fX6_term g q (xs (7 * k + 1))).2.2.2) (cwV 0 hts (gl_V uk_5_93 uk_5_94 uk_5_95 uk_1_9 uk_5_96) rfl rfl rfl (by decide +kernel) ⟨Nat.le_of_ble_eq_true rfl, Nat.le_of_ble_eq_true rfl⟩) (sy_recv (kc := 8) hE hP rfl (by decide) rfl rfl rfl) rfl hl.1 rfl (Nat.le_of_ble_eq_true rfl) dL_law_626 ⟨by show _ ≤ 601024; (try dsimp only); omega, by show _ ≤ 7293034; (try dsimp only); omega⟩) hS (fun b3 g3 q3 H locs e3 hP hS => ?_)
    obtain ⟨rfl, rfl, rfl⟩ : (fX7_term (sy_up (fX6_term g q (xs (7 * k + 1))).2.2.1 90 0 (fX6_term g q (xs (7 * k + 1))).2.1) (fX6_term g q (xs (7 * k + 1))).2.2.2 (xs (7 * k + 1))).2 0 0 = b3 ∧ (fX7_term (sy_up (fX6_term g q (xs (7 * k + 1))).2.2.1 90 0 (fX6_term g q (xs (7 * k + 1))).2.1) (fX6_term g q (xs (7 * k + 1))).2.2.2 (xs (7 * k + 1))).2 = g3 ∧ (fX6_term g q (xs (7 * k + 1))).2.2.2 = q3 := by cases e3; exact ⟨rfl, rfl, rfl⟩
    refine sy_top (y := 0) st.2.1 ?_
    refine lv_iload hx hb dL_law_629 (lv_at hl 1 rfl) ?_
    refine lv_icmp_eq (tgt := 636) hx hb dL_law_631 (by decide) (fun _ => ?_) (fun c9 => absurd rfl c9)
    refine lv_iload hx hb dL_law_636 (lv_at hl 1 rfl) ?_
    refine lv_if_ne (tgt := 653) hx hb dL_law_638 (by decide) (fun c9 => absurd rfl c9) (fun _ => ?_)
    refine lv_aload_n hx hb dL_law_641 rfl (lv_at hl 6 rfl) ?_
    refine lv_iconst (v := 0) hx hb dL_law_642 (by decide) ?_
    refine sy_lald hx hb hE hP 90 rfl (i := 0) (k_in rfl) dL_law_643 ?_
    refine lv_iload hx hb dL_law_644 (lv_at hl 0 rfl) ?_
    refine lv_i2l (v := ((fX7_term (sy_up (fX6_term g q (xs (7 * k + 1))).2.2.1 90 0 (fX6_term g q (xs (7 * k + 1))).2.1) (fX6_term g q (xs (7 * k + 1))).2.2.2 (xs (7 * k + 1))).2 90 0).toInt64) hx hb dL_law_646 (by rw [st.2.2.2.1, st.2.2.1]) ?_
    refine lv_lcmp0 hx hb dL_law_647 ?_
    refine lv_if_eq (tgt := 653) hx hb dL_law_648 (by decide) (fun _ => ?_) (fun c9 => absurd rfl c9)
    refine lv_goto (tgt := 2272) hx hb dL_law_653 (by decide) ?_
    refine W.widen (k := 100 + 16 * (k + 1)) (n := 4000 + 200 * (k + 1)) (by (try dsimp only); omega) (by (try dsimp only); omega) ?_
    exact hJ _ _ _ _ _ _ _ _ _ _ ⟨hP, by rw [Nat.succ_mul]; exact st.2.2.2.2, h70, h71, hS, lv_sub hl [2, 3, 4, 5, 6] rfl⟩
  · replace hg9 := hg9.symm
    replace hq9 := hq9.symm
    subst hg9
    subst hq9
    refine lv_istore (lv' := [(5, .int (wf 9 1 9 (fX6_term g q (xs (7 * k + 1))).1)), (4, .int (nI (7 * k))), (0, .ref b), (1, .ref (ad 60)), (2, .ref (ad 0)), (3, .ref (ad 90))]) hx hb dL_law_611 hl (by decide) rfl (fun ls hl => ?_)
    have st := st_no hI (F := fun gm => fX7_term gm q (xs (7 * k + 1))) (fun gm hg => o_term (q' := q) hg (xs (7 * k + 1))) n6_term (fun gm => f7_term) h0
    try dsimp only at st
    refine lv_aload_n hx hb dL_law_613 rfl (lv_at hl 4 rfl) ?_
    refine lv_aload_n hx hb dL_law_614 rfl (lv_at hl 2 rfl) ?_
    refine lv_iload hx hb dL_law_615 (lv_at hl 1 rfl) ?_
    refine lv_iconst (v := 1) hx hb dL_law_617 (by decide) ?_
    refine lv_iadd hx hb dL_law_618 ?_
    refine sy_top (y := nI (7 * k + 1)) (nI_add _ _) ?_
    refine va_sld hx hb hX hbl hbA hS (vp_in_nI (show 7 * k + 1 < L by omega) (by omega)) dL_law_619 ?_
    refine sy_top (y := xs (7 * k + 1)) (by rw [nI_clamp (by omega)]) ?_
    refine sy_ki (sy_rV (o := 0) (As := [.int (xs (7 * k + 1))]) (rest := []) ⟨hx, hb, hml, hown, hts⟩ hE hP hS (mX7_term l hfl Z nT nK cT cK ad g q (xs (7 * k + 1)) hI.2.1) (cwV 1 hts (gl_V uk_5_136 uk_5_137 uk_5_138 uk_1_9 uk_5_139) rfl rfl rfl (by decide +kernel) ⟨Nat.le_of_ble_eq_true rfl, Nat.le_of_ble_eq_true rfl⟩) (sy_recv (kc := 8) hE hP rfl (by decide) rfl rfl rfl) rfl hl.1 rfl (Nat.le_of_ble_eq_true rfl) dL_law_620 ⟨by show _ ≤ 601024; (try dsimp only); omega, by show _ ≤ 7293034; (try dsimp only); omega⟩) hS (fun b2 g2 q2 H locs e2 hP hS => ?_)
    obtain ⟨rfl, rfl, rfl⟩ : (fX7_term g q (xs (7 * k + 1))).1 = b2 ∧ (fX7_term g q (xs (7 * k + 1))).2 = g2 ∧ q = q2 := by cases e2; exact ⟨rfl, rfl, rfl⟩
    refine lv_istore (lv' := [(6, .int (fX7_term g q (xs (7 * k + 1))).1), (5, .int (wf 9 1 9 (fX6_term g q (xs (7 * k + 1))).1)), (4, .int (nI (7 * k))), (0, .ref b), (1, .ref (ad 60)), (2, .ref (ad 0)), (3, .ref (ad 90))]) hx hb dL_law_623 hl (by decide) rfl (fun ls hl => ?_)
    refine lv_aload_n hx hb dL_law_625 rfl (lv_at hl 5 rfl) ?_
    refine sy_ki (sy_rV (o := 0) (As := []) (rest := []) ⟨hx, hb, hml, hown, hts⟩ hE hP hS (mX7_thrown l hfl Z nT nK cT cK ad (fX7_term g q (xs (7 * k + 1))).2 q) (cwV 0 hts (gl_V uk_5_93 uk_5_94 uk_5_95 uk_1_9 uk_5_96) rfl rfl rfl (by decide +kernel) ⟨Nat.le_of_ble_eq_true rfl, Nat.le_of_ble_eq_true rfl⟩) (sy_recv (kc := 8) hE hP rfl (by decide) rfl rfl rfl) rfl hl.1 rfl (Nat.le_of_ble_eq_true rfl) dL_law_626 ⟨by show _ ≤ 601024; (try dsimp only); omega, by show _ ≤ 7293034; (try dsimp only); omega⟩) hS (fun b3 g3 q3 H locs e3 hP hS => ?_)
    obtain ⟨rfl, rfl, rfl⟩ : (fX7_term g q (xs (7 * k + 1))).2 0 0 = b3 ∧ (fX7_term g q (xs (7 * k + 1))).2 = g3 ∧ q = q3 := by cases e3; exact ⟨rfl, rfl, rfl⟩
    refine sy_top (y := (wf 9 1 9 (fX6_term g q (xs (7 * k + 1))).1)) st.1 ?_
    refine lv_iload hx hb dL_law_629 (lv_at hl 1 rfl) ?_
    refine lv_icmp_eq (tgt := 636) hx hb dL_law_631 (by decide) (fun _ => ?_) (fun c9 => absurd rfl c9)
    refine lv_iload hx hb dL_law_636 (lv_at hl 1 rfl) ?_
    refine lv_if_ne (tgt := 653) hx hb dL_law_638 (by decide) (fun _ => ?_) (fun c9 => absurd c9 ((wf_ne h0 hCode).resolve_right (by decide)))
    refine lv_goto (tgt := 2272) hx hb dL_law_653 (by decide) ?_
    refine W.widen (k := 100 + 16 * (k + 1)) (n := 4000 + 200 * (k + 1)) (by (try dsimp only); omega) (by (try dsimp only); omega) ?_
    exact hJ _ _ _ _ _ _ _ _ _ _ ⟨hP, by rw [Nat.succ_mul]; exact st.2.2, h70, h71, hS, lv_sub hl [2, 3, 4, 5, 6] rfl⟩
set_option maxHeartbeats 8000000 in
set_option maxRecDepth 100000 in
theorem lc_amnesty (hC : lCtx p l s m meth c b L xs Z) {k : Nat} (hk : 7 * k + 7 ≤ L) (hL : L ≤ 3584) (hJ : ∀ (nT nK cT cK : Nat) (ad : Nat → Nat) (g : sG) (q : sQ) (H : Heap) (locs : List Loc) (ls : Array Slot), lSt Z s b k (k + 1) nT nK cT cK ad g q H locs ls → W p l e room_1 s m #[Value.ref b] below meth c H locs (100 + 16 * (k + 1)) (4000 + 200 * (k + 1)) (lw_Z below #[Value.ref b] s) (F0 m 2272 ls []))
    {nT nK cT cK : Nat} {ad : Nat → Nat} {g : sG} {q : sQ} {H : Heap} {locs : List Loc} {ls : Array Slot} (h : lSt Z s b k k nT nK cT cK ad g q H locs ls) : W p l e room_1 s m #[Value.ref b] below meth c H locs (100 + 16 * k) (4000 + 200 * k) (lw_Z below #[Value.ref b] s) (F0 m 656 ls []) := by
  obtain ⟨hx, hb, hr, hml, hown, hts, hX, hbl, hlocks, hZ, hE, hNc, hfl⟩ := hC
  obtain ⟨hP, hI, h70, h71, hS, hl⟩ := h
  have hbA : ¬ sy_A Z b := fun z => absurd (show Z.2.2.1 ≤ b from z) (by omega)
  have hkB : k * oB ≤ 2048000000 := by
    have : k ≤ 511 := by omega
    calc k * oB ≤ 511 * 4000000 := Nat.mul_le_mul this (Nat.le_refl _)
      _ ≤ 2048000000 := by decide
  refine lv_aload_n hx hb dL_law_656 rfl (lv_at hl 2 rfl) ?_
  refine lv_aload_n hx hb dL_law_657 rfl (lv_at hl 1 rfl) ?_
  refine lv_iload hx hb dL_law_658 (lv_at hl 0 rfl) ?_
  refine lv_iconst (v := 1) hx hb dL_law_660 (by decide) ?_
  refine lv_iadd hx hb dL_law_661 ?_
  refine sy_top (y := nI (7 * k + 1)) (nI_add _ _) ?_
  refine va_sld hx hb hX hbl hbA hS (vp_in_nI (show 7 * k + 1 < L by omega) (by omega)) dL_law_662 ?_
  refine sy_top (y := xs (7 * k + 1)) (by rw [nI_clamp (by omega)]) ?_
  refine lv_aload_n hx hb dL_law_663 rfl (lv_at hl 1 rfl) ?_
  refine lv_iload hx hb dL_law_664 (lv_at hl 0 rfl) ?_
  refine lv_iconst (v := 2) hx hb dL_law_666 (by decide) ?_
  refine lv_iadd hx hb dL_law_667 ?_
  refine sy_top (y := nI (7 * k + 2)) (nI_add _ _) ?_
  refine va_sld hx hb hX hbl hbA hS (vp_in_nI (show 7 * k + 2 < L by omega) (by omega)) dL_law_668 ?_
  refine sy_top (y := xs (7 * k + 2)) (by rw [nI_clamp (by omega)]) ?_
  refine lv_aload_n hx hb dL_law_669 rfl (lv_at hl 4 rfl) ?_
  have hCode : wf 9 1 2 (fX6_amnesty g q (xs (7 * k + 1)) (xs (7 * k + 2))).1 ≠ 9 := (by
        by_cases z : (fX6_amnesty g q (xs (7 * k + 1)) (xs (7 * k + 2))).1 = 0
        · rw [z]; exact (by decide : (0 : Int32) ≠ 9)
        · exact (st_no hI (fun gm hg => o_amnesty (q' := (fX6_amnesty g q (xs (7 * k + 1)) (xs (7 * k + 2))).2.2.2) hg (xs (7 * k + 1)) (xs (7 * k + 2))) n6_amnesty (fun gm => f7_amnesty) z).2.1)
  refine va_calli (vx_runSW (As := [.ref (ad 60), .int (xs (7 * k + 1)), .int (xs (7 * k + 2)), .ref (ad 90)]) (rest := []) ⟨hx, hb, hml, hown, hts⟩ (mL_amnesty l hfl Z nT nK cT cK ad g q (xs (7 * k + 1)) (xs (7 * k + 2)) (by have := inv_T hI; omega) (inv_IG hI) (inv_IQ hI) hCode) (vx_cwSW 4 hts (gl_S uk_3_5 uk_3_6 uk_1_0 uk_3_7) rfl rfl rfl (by decide +kernel) ⟨Nat.le_of_ble_eq_true rfl, Nat.le_of_ble_eq_true rfl⟩) ⟨sPreL_blind _, fun U hU hW => ⟨rfl, ⟨hE.next hS hU hW.alike, by rw [hU]; exact hP⟩, hNc.next hW.alike⟩⟩ rfl rfl hl.1 rfl (lv_room (Nat.le_of_ble_eq_true rfl)) dL_law_670 ⟨by show _ ≤ 601024; (try dsimp only); omega, by show _ ≤ 7293034; (try dsimp only); omega⟩) hS (fun _ _ h => h) (fun _ h => h) (fun r u t H locs ht _ hp hB _ _ hS => ?_)
  obtain ⟨g1, q1⟩ := u
  have hP := hB.2
  rw [ht] at hP
  dsimp only at hp hP
  rcases hp with ⟨h0, rfl, rfl, rfl⟩ | ⟨h0, rfl, hg9, hq9⟩
  · refine lv_istore (lv' := [(5, .int 0), (4, .int (nI (7 * k))), (0, .ref b), (1, .ref (ad 60)), (2, .ref (ad 0)), (3, .ref (ad 90))]) hx hb dL_law_673 hl (by decide) rfl (fun ls hl => ?_)
    have st := st_yes hI (F := fun gm => fX7_amnesty gm (fX6_amnesty g q (xs (7 * k + 1)) (xs (7 * k + 2))).2.2.2 (xs (7 * k + 1)) (xs (7 * k + 2))) (fun gm hg => o_amnesty (q' := (fX6_amnesty g q (xs (7 * k + 1)) (xs (7 * k + 2))).2.2.2) hg (xs (7 * k + 1)) (xs (7 * k + 2))) f6_amnesty (fun gm => f7_amnesty) h0
    try dsimp only at st
    refine lv_aload_n hx hb dL_law_675 rfl (lv_at hl 4 rfl) ?_
    refine lv_aload_n hx hb dL_law_676 rfl (lv_at hl 2 rfl) ?_
    refine lv_iload hx hb dL_law_677 (lv_at hl 1 rfl) ?_
    refine lv_iconst (v := 1) hx hb dL_law_679 (by decide) ?_
    refine lv_iadd hx hb dL_law_680 ?_
    refine sy_top (y := nI (7 * k + 1)) (nI_add _ _) ?_
    refine va_sld hx hb hX hbl hbA hS (vp_in_nI (show 7 * k + 1 < L by omega) (by omega)) dL_law_681 ?_
    refine sy_top (y := xs (7 * k + 1)) (by rw [nI_clamp (by omega)]) ?_
    refine lv_aload_n hx hb dL_law_682 rfl (lv_at hl 2 rfl) ?_
    refine lv_iload hx hb dL_law_683 (lv_at hl 1 rfl) ?_
    refine lv_iconst (v := 2) hx hb dL_law_685 (by decide) ?_
    refine lv_iadd hx hb dL_law_686 ?_
    refine sy_top (y := nI (7 * k + 2)) (nI_add _ _) ?_
    refine va_sld hx hb hX hbl hbA hS (vp_in_nI (show 7 * k + 2 < L by omega) (by omega)) dL_law_687 ?_
    refine sy_top (y := xs (7 * k + 2)) (by rw [nI_clamp (by omega)]) ?_
    refine sy_ki (sy_rV (o := 0) (As := [.int (xs (7 * k + 1)), .int (xs (7 * k + 2))]) (rest := []) ⟨hx, hb, hml, hown, hts⟩ hE hP hS (mX7_amnesty l hfl Z nT nK cT cK ad (sy_up (fX6_amnesty g q (xs (7 * k + 1)) (xs (7 * k + 2))).2.2.1 90 0 (fX6_amnesty g q (xs (7 * k + 1)) (xs (7 * k + 2))).2.1) (fX6_amnesty g q (xs (7 * k + 1)) (xs (7 * k + 2))).2.2.2 (xs (7 * k + 1)) (xs (7 * k + 2)) st.1.2.1) (cwV 2 hts (gl_V uk_5_140 uk_5_141 uk_5_142 uk_1_9 uk_5_143) rfl rfl rfl (by decide +kernel) ⟨Nat.le_of_ble_eq_true rfl, Nat.le_of_ble_eq_true rfl⟩) (sy_recv (kc := 8) hE hP rfl (by decide) rfl rfl rfl) rfl hl.1 rfl (Nat.le_of_ble_eq_true rfl) dL_law_688 ⟨by show _ ≤ 601024; (try dsimp only); omega, by show _ ≤ 7293034; (try dsimp only); omega⟩) hS (fun b2 g2 q2 H locs e2 hP hS => ?_)
    obtain ⟨rfl, rfl, rfl⟩ : (fX7_amnesty (sy_up (fX6_amnesty g q (xs (7 * k + 1)) (xs (7 * k + 2))).2.2.1 90 0 (fX6_amnesty g q (xs (7 * k + 1)) (xs (7 * k + 2))).2.1) (fX6_amnesty g q (xs (7 * k + 1)) (xs (7 * k + 2))).2.2.2 (xs (7 * k + 1)) (xs (7 * k + 2))).1 = b2 ∧ (fX7_amnesty (sy_up (fX6_amnesty g q (xs (7 * k + 1)) (xs (7 * k + 2))).2.2.1 90 0 (fX6_amnesty g q (xs (7 * k + 1)) (xs (7 * k + 2))).2.1) (fX6_amnesty g q (xs (7 * k + 1)) (xs (7 * k + 2))).2.2.2 (xs (7 * k + 1)) (xs (7 * k + 2))).2 = g2 ∧ (fX6_amnesty g q (xs (7 * k + 1)) (xs (7 * k + 2))).2.2.2 = q2 := by cases e2; exact ⟨rfl, rfl, rfl⟩
    refine lv_istore (lv' := [(6, .int (fX7_amnesty (sy_up (fX6_amnesty g q (xs (7 * k + 1)) (xs (7 * k + 2))).2.2.1 90 0 (fX6_amnesty g q (xs (7 * k + 1)) (xs (7 * k + 2))).2.1) (fX6_amnesty g q (xs (7 * k + 1)) (xs (7 * k + 2))).2.2.2 (xs (7 * k + 1)) (xs (7 * k + 2))).1), (5, .int 0), (4, .int (nI (7 * k))), (0, .ref b), (1, .ref (ad 60)), (2, .ref (ad 0)), (3, .ref (ad 90))]) hx hb dL_law_691 hl (by decide) rfl (fun ls hl => ?_)
    refine lv_aload_n hx hb dL_law_693 rfl (lv_at hl 5 rfl) ?_
    refine sy_ki (sy_rV (o := 0) (As := []) (rest := []) ⟨hx, hb, hml, hown, hts⟩ hE hP hS (mX7_thrown l hfl Z nT nK cT cK ad (fX7_amnesty (sy_up (fX6_amnesty g q (xs (7 * k + 1)) (xs (7 * k + 2))).2.2.1 90 0 (fX6_amnesty g q (xs (7 * k + 1)) (xs (7 * k + 2))).2.1) (fX6_amnesty g q (xs (7 * k + 1)) (xs (7 * k + 2))).2.2.2 (xs (7 * k + 1)) (xs (7 * k + 2))).2 (fX6_amnesty g q (xs (7 * k + 1)) (xs (7 * k + 2))).2.2.2) (cwV 0 hts (gl_V uk_5_93 uk_5_94 uk_5_95 uk_1_9 uk_5_96) rfl rfl rfl (by decide +kernel) ⟨Nat.le_of_ble_eq_true rfl, Nat.le_of_ble_eq_true rfl⟩) (sy_recv (kc := 8) hE hP rfl (by decide) rfl rfl rfl) rfl hl.1 rfl (Nat.le_of_ble_eq_true rfl) dL_law_694 ⟨by show _ ≤ 601024; (try dsimp only); omega, by show _ ≤ 7293034; (try dsimp only); omega⟩) hS (fun b3 g3 q3 H locs e3 hP hS => ?_)
    obtain ⟨rfl, rfl, rfl⟩ : (fX7_amnesty (sy_up (fX6_amnesty g q (xs (7 * k + 1)) (xs (7 * k + 2))).2.2.1 90 0 (fX6_amnesty g q (xs (7 * k + 1)) (xs (7 * k + 2))).2.1) (fX6_amnesty g q (xs (7 * k + 1)) (xs (7 * k + 2))).2.2.2 (xs (7 * k + 1)) (xs (7 * k + 2))).2 0 0 = b3 ∧ (fX7_amnesty (sy_up (fX6_amnesty g q (xs (7 * k + 1)) (xs (7 * k + 2))).2.2.1 90 0 (fX6_amnesty g q (xs (7 * k + 1)) (xs (7 * k + 2))).2.1) (fX6_amnesty g q (xs (7 * k + 1)) (xs (7 * k + 2))).2.2.2 (xs (7 * k + 1)) (xs (7 * k + 2))).2 = g3 ∧ (fX6_amnesty g q (xs (7 * k + 1)) (xs (7 * k + 2))).2.2.2 = q3 := by cases e3; exact ⟨rfl, rfl, rfl⟩
    refine sy_top (y := 0) st.2.1 ?_
    refine lv_iload hx hb dL_law_697 (lv_at hl 1 rfl) ?_
    refine lv_icmp_eq (tgt := 704) hx hb dL_law_699 (by decide) (fun _ => ?_) (fun c9 => absurd rfl c9)
    refine lv_iload hx hb dL_law_704 (lv_at hl 1 rfl) ?_
    refine lv_if_ne (tgt := 721) hx hb dL_law_706 (by decide) (fun c9 => absurd rfl c9) (fun _ => ?_)
    refine lv_aload_n hx hb dL_law_709 rfl (lv_at hl 6 rfl) ?_
    refine lv_iconst (v := 0) hx hb dL_law_710 (by decide) ?_
    refine sy_lald hx hb hE hP 90 rfl (i := 0) (k_in rfl) dL_law_711 ?_
    refine lv_iload hx hb dL_law_712 (lv_at hl 0 rfl) ?_
    refine lv_i2l (v := ((fX7_amnesty (sy_up (fX6_amnesty g q (xs (7 * k + 1)) (xs (7 * k + 2))).2.2.1 90 0 (fX6_amnesty g q (xs (7 * k + 1)) (xs (7 * k + 2))).2.1) (fX6_amnesty g q (xs (7 * k + 1)) (xs (7 * k + 2))).2.2.2 (xs (7 * k + 1)) (xs (7 * k + 2))).2 90 0).toInt64) hx hb dL_law_714 (by rw [st.2.2.2.1, st.2.2.1]) ?_
    refine lv_lcmp0 hx hb dL_law_715 ?_
    refine lv_if_eq (tgt := 721) hx hb dL_law_716 (by decide) (fun _ => ?_) (fun c9 => absurd rfl c9)
    refine lv_goto (tgt := 2272) hx hb dL_law_721 (by decide) ?_
    refine W.widen (k := 100 + 16 * (k + 1)) (n := 4000 + 200 * (k + 1)) (by (try dsimp only); omega) (by (try dsimp only); omega) ?_
    exact hJ _ _ _ _ _ _ _ _ _ _ ⟨hP, by rw [Nat.succ_mul]; exact st.2.2.2.2, h70, h71, hS, lv_sub hl [2, 3, 4, 5, 6] rfl⟩
  · replace hg9 := hg9.symm
    replace hq9 := hq9.symm
    subst hg9
    subst hq9
    refine lv_istore (lv' := [(5, .int (wf 9 1 2 (fX6_amnesty g q (xs (7 * k + 1)) (xs (7 * k + 2))).1)), (4, .int (nI (7 * k))), (0, .ref b), (1, .ref (ad 60)), (2, .ref (ad 0)), (3, .ref (ad 90))]) hx hb dL_law_673 hl (by decide) rfl (fun ls hl => ?_)
    have st := st_no hI (F := fun gm => fX7_amnesty gm q (xs (7 * k + 1)) (xs (7 * k + 2))) (fun gm hg => o_amnesty (q' := q) hg (xs (7 * k + 1)) (xs (7 * k + 2))) n6_amnesty (fun gm => f7_amnesty) h0
    try dsimp only at st
    refine lv_aload_n hx hb dL_law_675 rfl (lv_at hl 4 rfl) ?_
    refine lv_aload_n hx hb dL_law_676 rfl (lv_at hl 2 rfl) ?_
    refine lv_iload hx hb dL_law_677 (lv_at hl 1 rfl) ?_
    refine lv_iconst (v := 1) hx hb dL_law_679 (by decide) ?_
    refine lv_iadd hx hb dL_law_680 ?_
    refine sy_top (y := nI (7 * k + 1)) (nI_add _ _) ?_
    refine va_sld hx hb hX hbl hbA hS (vp_in_nI (show 7 * k + 1 < L by omega) (by omega)) dL_law_681 ?_
    refine sy_top (y := xs (7 * k + 1)) (by rw [nI_clamp (by omega)]) ?_
    refine lv_aload_n hx hb dL_law_682 rfl (lv_at hl 2 rfl) ?_
    refine lv_iload hx hb dL_law_683 (lv_at hl 1 rfl) ?_
    refine lv_iconst (v := 2) hx hb dL_law_685 (by decide) ?_
    refine lv_iadd hx hb dL_law_686 ?_
    refine sy_top (y := nI (7 * k + 2)) (nI_add _ _) ?_
    refine va_sld hx hb hX hbl hbA hS (vp_in_nI (show 7 * k + 2 < L by omega) (by omega)) dL_law_687 ?_
    refine sy_top (y := xs (7 * k + 2)) (by rw [nI_clamp (by omega)]) ?_
    refine sy_ki (sy_rV (o := 0) (As := [.int (xs (7 * k + 1)), .int (xs (7 * k + 2))]) (rest := []) ⟨hx, hb, hml, hown, hts⟩ hE hP hS (mX7_amnesty l hfl Z nT nK cT cK ad g q (xs (7 * k + 1)) (xs (7 * k + 2)) hI.2.1) (cwV 2 hts (gl_V uk_5_140 uk_5_141 uk_5_142 uk_1_9 uk_5_143) rfl rfl rfl (by decide +kernel) ⟨Nat.le_of_ble_eq_true rfl, Nat.le_of_ble_eq_true rfl⟩) (sy_recv (kc := 8) hE hP rfl (by decide) rfl rfl rfl) rfl hl.1 rfl (Nat.le_of_ble_eq_true rfl) dL_law_688 ⟨by show _ ≤ 601024; (try dsimp only); omega, by show _ ≤ 7293034; (try dsimp only); omega⟩) hS (fun b2 g2 q2 H locs e2 hP hS => ?_)
    obtain ⟨rfl, rfl, rfl⟩ : (fX7_amnesty g q (xs (7 * k + 1)) (xs (7 * k + 2))).1 = b2 ∧ (fX7_amnesty g q (xs (7 * k + 1)) (xs (7 * k + 2))).2 = g2 ∧ q = q2 := by cases e2; exact ⟨rfl, rfl, rfl⟩
    refine lv_istore (lv' := [(6, .int (fX7_amnesty g q (xs (7 * k + 1)) (xs (7 * k + 2))).1), (5, .int (wf 9 1 2 (fX6_amnesty g q (xs (7 * k + 1)) (xs (7 * k + 2))).1)), (4, .int (nI (7 * k))), (0, .ref b), (1, .ref (ad 60)), (2, .ref (ad 0)), (3, .ref (ad 90))]) hx hb dL_law_691 hl (by decide) rfl (fun ls hl => ?_)
    refine lv_aload_n hx hb dL_law_693 rfl (lv_at hl 5 rfl) ?_
    refine sy_ki (sy_rV (o := 0) (As := []) (rest := []) ⟨hx, hb, hml, hown, hts⟩ hE hP hS (mX7_thrown l hfl Z nT nK cT cK ad (fX7_amnesty g q (xs (7 * k + 1)) (xs (7 * k + 2))).2 q) (cwV 0 hts (gl_V uk_5_93 uk_5_94 uk_5_95 uk_1_9 uk_5_96) rfl rfl rfl (by decide +kernel) ⟨Nat.le_of_ble_eq_true rfl, Nat.le_of_ble_eq_true rfl⟩) (sy_recv (kc := 8) hE hP rfl (by decide) rfl rfl rfl) rfl hl.1 rfl (Nat.le_of_ble_eq_true rfl) dL_law_694 ⟨by show _ ≤ 601024; (try dsimp only); omega, by show _ ≤ 7293034; (try dsimp only); omega⟩) hS (fun b3 g3 q3 H locs e3 hP hS => ?_)
    obtain ⟨rfl, rfl, rfl⟩ : (fX7_amnesty g q (xs (7 * k + 1)) (xs (7 * k + 2))).2 0 0 = b3 ∧ (fX7_amnesty g q (xs (7 * k + 1)) (xs (7 * k + 2))).2 = g3 ∧ q = q3 := by cases e3; exact ⟨rfl, rfl, rfl⟩
    refine sy_top (y := (wf 9 1 2 (fX6_amnesty g q (xs (7 * k + 1)) (xs (7 * k + 2))).1)) st.1 ?_
    refine lv_iload hx hb dL_law_697 (lv_at hl 1 rfl) ?_
    refine lv_icmp_eq (tgt := 704) hx hb dL_law_699 (by decide) (fun _ => ?_) (fun c9 => absurd rfl c9)
    refine lv_iload hx hb dL_law_704 (lv_at hl 1 rfl) ?_
    refine lv_if_ne (tgt := 721) hx hb dL_law_706 (by decide) (fun _ => ?_) (fun c9 => absurd c9 ((wf_ne h0 hCode).resolve_right (by decide)))
    refine lv_goto (tgt := 2272) hx hb dL_law_721 (by decide) ?_
    refine W.widen (k := 100 + 16 * (k + 1)) (n := 4000 + 200 * (k + 1)) (by (try dsimp only); omega) (by (try dsimp only); omega) ?_
    exact hJ _ _ _ _ _ _ _ _ _ _ ⟨hP, by rw [Nat.succ_mul]; exact st.2.2, h70, h71, hS, lv_sub hl [2, 3, 4, 5, 6] rfl⟩
set_option maxHeartbeats 8000000 in
set_option maxRecDepth 100000 in
theorem lc_pledge (hC : lCtx p l s m meth c b L xs Z) {k : Nat} (hk : 7 * k + 7 ≤ L) (hL : L ≤ 3584) (hJ : ∀ (nT nK cT cK : Nat) (ad : Nat → Nat) (g : sG) (q : sQ) (H : Heap) (locs : List Loc) (ls : Array Slot), lSt Z s b k (k + 1) nT nK cT cK ad g q H locs ls → W p l e room_1 s m #[Value.ref b] below meth c H locs (100 + 16 * (k + 1)) (4000 + 200 * (k + 1)) (lw_Z below #[Value.ref b] s) (F0 m 2272 ls []))
    {nT nK cT cK : Nat} {ad : Nat → Nat} {g : sG} {q : sQ} {H : Heap} {locs : List Loc} {ls : Array Slot} (h : lSt Z s b k k nT nK cT cK ad g q H locs ls) : W p l e room_1 s m #[Value.ref b] below meth c H locs (100 + 16 * k) (4000 + 200 * k) (lw_Z below #[Value.ref b] s) (F0 m 724 ls []) := by
  obtain ⟨hx, hb, hr, hml, hown, hts, hX, hbl, hlocks, hZ, hE, hNc, hfl⟩ := hC
  obtain ⟨hP, hI, h70, h71, hS, hl⟩ := h
  have hbA : ¬ sy_A Z b := fun z => absurd (show Z.2.2.1 ≤ b from z) (by omega)
  have hkB : k * oB ≤ 2048000000 := by
    have : k ≤ 511 := by omega
    calc k * oB ≤ 511 * 4000000 := Nat.mul_le_mul this (Nat.le_refl _)
      _ ≤ 2048000000 := by decide
  by_cases hz : xs (7 * k + 6) = 0
  · refine lv_aload_n hx hb dL_law_724 rfl (lv_at hl 2 rfl) ?_
    refine lv_aload_n hx hb dL_law_725 rfl (lv_at hl 1 rfl) ?_
    refine lv_iload hx hb dL_law_726 (lv_at hl 0 rfl) ?_
    refine lv_iconst (v := 1) hx hb dL_law_728 (by decide) ?_
    refine lv_iadd hx hb dL_law_729 ?_
    refine sy_top (y := nI (7 * k + 1)) (nI_add _ _) ?_
    refine va_sld hx hb hX hbl hbA hS (vp_in_nI (show 7 * k + 1 < L by omega) (by omega)) dL_law_730 ?_
    refine sy_top (y := xs (7 * k + 1)) (by rw [nI_clamp (by omega)]) ?_
    refine lv_aload_n hx hb dL_law_731 rfl (lv_at hl 1 rfl) ?_
    refine lv_iload hx hb dL_law_732 (lv_at hl 0 rfl) ?_
    refine lv_iconst (v := 2) hx hb dL_law_734 (by decide) ?_
    refine lv_iadd hx hb dL_law_735 ?_
    refine sy_top (y := nI (7 * k + 2)) (nI_add _ _) ?_
    refine va_sld hx hb hX hbl hbA hS (vp_in_nI (show 7 * k + 2 < L by omega) (by omega)) dL_law_736 ?_
    refine sy_top (y := xs (7 * k + 2)) (by rw [nI_clamp (by omega)]) ?_
    refine lv_aload_n hx hb dL_law_737 rfl (lv_at hl 1 rfl) ?_
    refine lv_iload hx hb dL_law_738 (lv_at hl 0 rfl) ?_
    refine lv_iconst (v := 3) hx hb dL_law_740 (by decide) ?_
    refine lv_iadd hx hb dL_law_741 ?_
    refine sy_top (y := nI (7 * k + 3)) (nI_add _ _) ?_
    refine va_sld hx hb hX hbl hbA hS (vp_in_nI (show 7 * k + 3 < L by omega) (by omega)) dL_law_742 ?_
    refine sy_top (y := xs (7 * k + 3)) (by rw [nI_clamp (by omega)]) ?_
    refine lv_aload_n hx hb dL_law_743 rfl (lv_at hl 1 rfl) ?_
    refine lv_iload hx hb dL_law_744 (lv_at hl 0 rfl) ?_
    refine lv_iconst (v := 4) hx hb dL_law_746 (by decide) ?_
    refine lv_iadd hx hb dL_law_747 ?_
    refine sy_top (y := nI (7 * k + 4)) (nI_add _ _) ?_
    refine va_sld hx hb hX hbl hbA hS (vp_in_nI (show 7 * k + 4 < L by omega) (by omega)) dL_law_748 ?_
    refine sy_top (y := xs (7 * k + 4)) (by rw [nI_clamp (by omega)]) ?_
    refine lv_aload_n hx hb dL_law_749 rfl (lv_at hl 1 rfl) ?_
    refine lv_iload hx hb dL_law_750 (lv_at hl 0 rfl) ?_
    refine lv_iconst (v := 5) hx hb dL_law_752 (by decide) ?_
    refine lv_iadd hx hb dL_law_753 ?_
    refine sy_top (y := nI (7 * k + 5)) (nI_add _ _) ?_
    refine va_sld hx hb hX hbl hbA hS (vp_in_nI (show 7 * k + 5 < L by omega) (by omega)) dL_law_754 ?_
    refine sy_top (y := xs (7 * k + 5)) (by rw [nI_clamp (by omega)]) ?_
    refine lv_aload_n hx hb dL_law_755 rfl (lv_at hl 1 rfl) ?_
    refine lv_iload hx hb dL_law_756 (lv_at hl 0 rfl) ?_
    refine lv_bipush (v := 6) hx hb dL_law_758 (by decide) ?_
    refine lv_iadd hx hb dL_law_760 ?_
    refine sy_top (y := nI (7 * k + 6)) (nI_add _ _) ?_
    refine va_sld hx hb hX hbl hbA hS (vp_in_nI (show 7 * k + 6 < L by omega) (by omega)) dL_law_761 ?_
    refine sy_top (y := xs (7 * k + 6)) (by rw [nI_clamp (by omega)]) ?_
    refine lv_if_eq (tgt := 769) hx hb dL_law_762 (by decide) (fun _ => ?_) (fun c9 => absurd hz c9)
    refine lv_iconst (v := 0) hx hb dL_law_769 (by decide) ?_
    refine lv_aload_n hx hb dL_law_770 rfl (lv_at hl 4 rfl) ?_
    have hCode : wf 1 2 3 (fX6_pledge g q nK (xs (7 * k + 1)) (xs (7 * k + 2)) (xs (7 * k + 3)) (xs (7 * k + 4)) (xs (7 * k + 5)) 0).1 ≠ 9 := (by
          by_cases z : (fX6_pledge g q nK (xs (7 * k + 1)) (xs (7 * k + 2)) (xs (7 * k + 3)) (xs (7 * k + 4)) (xs (7 * k + 5)) 0).1 = 0
          · rw [z]; exact (by decide : (0 : Int32) ≠ 9)
          · exact (st_non hI (fun gm hg => o_pledge (q' := (fX6_pledge g q nK (xs (7 * k + 1)) (xs (7 * k + 2)) (xs (7 * k + 3)) (xs (7 * k + 4)) (xs (7 * k + 5)) 0).2.2.2) hg (xs (7 * k + 1)) (xs (7 * k + 2)) (xs (7 * k + 3)) (xs (7 * k + 4)) (xs (7 * k + 5)) 0) (fun gm => f7_pledge) z).2.1)
    refine va_calli (vx_runSW (As := [.ref (ad 60), .int (xs (7 * k + 1)), .int (xs (7 * k + 2)), .int (xs (7 * k + 3)), .int (xs (7 * k + 4)), .int (xs (7 * k + 5)), .int 0, .ref (ad 90)]) (rest := []) ⟨hx, hb, hml, hown, hts⟩ (mL_pledge l hfl Z nT nK cT cK ad g q (xs (7 * k + 1)) (xs (7 * k + 2)) (xs (7 * k + 3)) (xs (7 * k + 4)) (xs (7 * k + 5)) 0 (by have := inv_T hI; omega) (inv_IG hI) (inv_IQ hI) (Or.inl rfl) hI.2.2.1.2.2.2.2.2.1 h71 hI.2.2.2.2.2.2.2.1.2.2.2.2.2.1 (fun o k e => by have := hI.2.2.2.2.2.2.2.1.2.2.2.2.2.2 o k _ e; omega) (fun o k e => by have := hI.2.2.2.2.2.2.2.1.2.2.2.2.2.2 o k _ e; have := inv_T hI; omega) hCode) (vx_cwSW 8 hts (gl_S uk_3_21 uk_3_22 uk_1_0 uk_3_23) rfl rfl rfl (by decide +kernel) ⟨Nat.le_of_ble_eq_true rfl, Nat.le_of_ble_eq_true rfl⟩) ⟨sPreL_blind _, fun U hU hW => ⟨rfl, ⟨hE.next hS hU hW.alike, by rw [hU]; exact hP⟩, hNc.next hW.alike⟩⟩ rfl rfl hl.1 rfl (lv_room (Nat.le_of_ble_eq_true rfl)) dL_law_771 ⟨by show _ ≤ 601024; (try dsimp only); omega, by show _ ≤ 7293034; (try dsimp only); omega⟩) hS (fun _ _ h => h) (fun _ h => h) (fun r u t H locs ht _ hp hB _ _ hS => ?_)
    obtain ⟨ad1, g1, q1⟩ := u
    obtain ⟨-, hB1, hB2⟩ := hB
    rw [ht] at hB1 hB2
    dsimp only at hp hB1
    rcases hp with ⟨h0, rfl, had, rfl, rfl⟩ | ⟨h0, rfl⟩
    · have hP := hB1 h0
      have h1060 := had 60 (by omega) (by omega)
      have h1000 := had 0 (by omega) (by omega)
      have h1090 := had 90 (by omega) (by omega)
      rw [← h1060, ← h1000, ← h1090] at hl
      refine lv_istore (lv' := [(5, .int 0), (4, .int (nI (7 * k))), (0, .ref b), (1, .ref (ad1 60)), (2, .ref (ad1 0)), (3, .ref (ad1 90))]) hx hb dL_law_774 hl (by decide) rfl (fun ls hl => ?_)
      have st := st_yesn hI (F := fun gm => fX7_pledge gm (fX6_pledge g q nK (xs (7 * k + 1)) (xs (7 * k + 2)) (xs (7 * k + 3)) (xs (7 * k + 4)) (xs (7 * k + 5)) 0).2.2.2 (xs (7 * k + 1)) (xs (7 * k + 2)) (xs (7 * k + 3)) (xs (7 * k + 4)) (xs (7 * k + 5)) 0) (fun gm hg => o_pledge (q' := (fX6_pledge g q nK (xs (7 * k + 1)) (xs (7 * k + 2)) (xs (7 * k + 3)) (xs (7 * k + 4)) (xs (7 * k + 5)) 0).2.2.2) hg (xs (7 * k + 1)) (xs (7 * k + 2)) (xs (7 * k + 3)) (xs (7 * k + 4)) (xs (7 * k + 5)) 0) f6_pledge (fun gm => f7_pledge) h0
      try dsimp only at st
      refine lv_aload_n hx hb dL_law_776 rfl (lv_at hl 4 rfl) ?_
      refine lv_aload_n hx hb dL_law_777 rfl (lv_at hl 2 rfl) ?_
      refine lv_iload hx hb dL_law_778 (lv_at hl 1 rfl) ?_
      refine lv_iconst (v := 1) hx hb dL_law_780 (by decide) ?_
      refine lv_iadd hx hb dL_law_781 ?_
      refine sy_top (y := nI (7 * k + 1)) (nI_add _ _) ?_
      refine va_sld hx hb hX hbl hbA hS (vp_in_nI (show 7 * k + 1 < L by omega) (by omega)) dL_law_782 ?_
      refine sy_top (y := xs (7 * k + 1)) (by rw [nI_clamp (by omega)]) ?_
      refine lv_aload_n hx hb dL_law_783 rfl (lv_at hl 2 rfl) ?_
      refine lv_iload hx hb dL_law_784 (lv_at hl 1 rfl) ?_
      refine lv_iconst (v := 2) hx hb dL_law_786 (by decide) ?_
      refine lv_iadd hx hb dL_law_787 ?_
      refine sy_top (y := nI (7 * k + 2)) (nI_add _ _) ?_
      refine va_sld hx hb hX hbl hbA hS (vp_in_nI (show 7 * k + 2 < L by omega) (by omega)) dL_law_788 ?_
      refine sy_top (y := xs (7 * k + 2)) (by rw [nI_clamp (by omega)]) ?_
      refine lv_aload_n hx hb dL_law_789 rfl (lv_at hl 2 rfl) ?_
      refine lv_iload hx hb dL_law_790 (lv_at hl 1 rfl) ?_
      refine lv_iconst (v := 3) hx hb dL_law_792 (by decide) ?_
      refine lv_iadd hx hb dL_law_793 ?_
      refine sy_top (y := nI (7 * k + 3)) (nI_add _ _) ?_
      refine va_sld hx hb hX hbl hbA hS (vp_in_nI (show 7 * k + 3 < L by omega) (by omega)) dL_law_794 ?_
      refine sy_top (y := xs (7 * k + 3)) (by rw [nI_clamp (by omega)]) ?_
      refine lv_aload_n hx hb dL_law_795 rfl (lv_at hl 2 rfl) ?_
      refine lv_iload hx hb dL_law_796 (lv_at hl 1 rfl) ?_
      refine lv_iconst (v := 4) hx hb dL_law_798 (by decide) ?_
      refine lv_iadd hx hb dL_law_799 ?_
      refine sy_top (y := nI (7 * k + 4)) (nI_add _ _) ?_
      refine va_sld hx hb hX hbl hbA hS (vp_in_nI (show 7 * k + 4 < L by omega) (by omega)) dL_law_800 ?_
      refine sy_top (y := xs (7 * k + 4)) (by rw [nI_clamp (by omega)]) ?_
      refine lv_aload_n hx hb dL_law_801 rfl (lv_at hl 2 rfl) ?_
      refine lv_iload hx hb dL_law_802 (lv_at hl 1 rfl) ?_
      refine lv_iconst (v := 5) hx hb dL_law_804 (by decide) ?_
      refine lv_iadd hx hb dL_law_805 ?_
      refine sy_top (y := nI (7 * k + 5)) (nI_add _ _) ?_
      refine va_sld hx hb hX hbl hbA hS (vp_in_nI (show 7 * k + 5 < L by omega) (by omega)) dL_law_806 ?_
      refine sy_top (y := xs (7 * k + 5)) (by rw [nI_clamp (by omega)]) ?_
      refine lv_aload_n hx hb dL_law_807 rfl (lv_at hl 2 rfl) ?_
      refine lv_iload hx hb dL_law_808 (lv_at hl 1 rfl) ?_
      refine lv_bipush (v := 6) hx hb dL_law_810 (by decide) ?_
      refine lv_iadd hx hb dL_law_812 ?_
      refine sy_top (y := nI (7 * k + 6)) (nI_add _ _) ?_
      refine va_sld hx hb hX hbl hbA hS (vp_in_nI (show 7 * k + 6 < L by omega) (by omega)) dL_law_813 ?_
      refine sy_top (y := xs (7 * k + 6)) (by rw [nI_clamp (by omega)]) ?_
      refine lv_if_eq (tgt := 821) hx hb dL_law_814 (by decide) (fun _ => ?_) (fun c9 => absurd hz c9)
      refine lv_iconst (v := 0) hx hb dL_law_821 (by decide) ?_
      refine sy_ki (sy_rV (o := 0) (As := [.int (xs (7 * k + 1)), .int (xs (7 * k + 2)), .int (xs (7 * k + 3)), .int (xs (7 * k + 4)), .int (xs (7 * k + 5)), .int 0]) (rest := []) ⟨hx, hb, hml, hown, hts⟩ hE hP hS (mX7_pledge l hfl Z nT (nK + 1) cT (sCap nK cK) ad1 (sy_up (fX6_pledge g q nK (xs (7 * k + 1)) (xs (7 * k + 2)) (xs (7 * k + 3)) (xs (7 * k + 4)) (xs (7 * k + 5)) 0).2.2.1 90 0 (fX6_pledge g q nK (xs (7 * k + 1)) (xs (7 * k + 2)) (xs (7 * k + 3)) (xs (7 * k + 4)) (xs (7 * k + 5)) 0).2.1) (fX6_pledge g q nK (xs (7 * k + 1)) (xs (7 * k + 2)) (xs (7 * k + 3)) (xs (7 * k + 4)) (xs (7 * k + 5)) 0).2.2.2 (xs (7 * k + 1)) (xs (7 * k + 2)) (xs (7 * k + 3)) (xs (7 * k + 4)) (xs (7 * k + 5)) 0 st.1.2.1 (by decide)) (cwV 6 hts (gl_V uk_5_144 uk_5_145 uk_5_146 uk_1_9 uk_5_147) rfl rfl rfl (by decide +kernel) ⟨Nat.le_of_ble_eq_true rfl, Nat.le_of_ble_eq_true rfl⟩) (sy_recv (kc := 8) hE hP rfl (by decide) rfl rfl rfl) rfl hl.1 rfl (Nat.le_of_ble_eq_true rfl) dL_law_822 ⟨by show _ ≤ 601024; (try dsimp only); omega, by show _ ≤ 7293034; (try dsimp only); omega⟩) hS (fun b2 g2 q2 H locs e2 hP hS => ?_)
      obtain ⟨rfl, rfl, rfl⟩ : (fX7_pledge (sy_up (fX6_pledge g q nK (xs (7 * k + 1)) (xs (7 * k + 2)) (xs (7 * k + 3)) (xs (7 * k + 4)) (xs (7 * k + 5)) 0).2.2.1 90 0 (fX6_pledge g q nK (xs (7 * k + 1)) (xs (7 * k + 2)) (xs (7 * k + 3)) (xs (7 * k + 4)) (xs (7 * k + 5)) 0).2.1) (fX6_pledge g q nK (xs (7 * k + 1)) (xs (7 * k + 2)) (xs (7 * k + 3)) (xs (7 * k + 4)) (xs (7 * k + 5)) 0).2.2.2 (xs (7 * k + 1)) (xs (7 * k + 2)) (xs (7 * k + 3)) (xs (7 * k + 4)) (xs (7 * k + 5)) 0).1 = b2 ∧ (fX7_pledge (sy_up (fX6_pledge g q nK (xs (7 * k + 1)) (xs (7 * k + 2)) (xs (7 * k + 3)) (xs (7 * k + 4)) (xs (7 * k + 5)) 0).2.2.1 90 0 (fX6_pledge g q nK (xs (7 * k + 1)) (xs (7 * k + 2)) (xs (7 * k + 3)) (xs (7 * k + 4)) (xs (7 * k + 5)) 0).2.1) (fX6_pledge g q nK (xs (7 * k + 1)) (xs (7 * k + 2)) (xs (7 * k + 3)) (xs (7 * k + 4)) (xs (7 * k + 5)) 0).2.2.2 (xs (7 * k + 1)) (xs (7 * k + 2)) (xs (7 * k + 3)) (xs (7 * k + 4)) (xs (7 * k + 5)) 0).2 = g2 ∧ (fX6_pledge g q nK (xs (7 * k + 1)) (xs (7 * k + 2)) (xs (7 * k + 3)) (xs (7 * k + 4)) (xs (7 * k + 5)) 0).2.2.2 = q2 := by cases e2; exact ⟨rfl, rfl, rfl⟩
      refine lv_istore (lv' := [(6, .int (fX7_pledge (sy_up (fX6_pledge g q nK (xs (7 * k + 1)) (xs (7 * k + 2)) (xs (7 * k + 3)) (xs (7 * k + 4)) (xs (7 * k + 5)) 0).2.2.1 90 0 (fX6_pledge g q nK (xs (7 * k + 1)) (xs (7 * k + 2)) (xs (7 * k + 3)) (xs (7 * k + 4)) (xs (7 * k + 5)) 0).2.1) (fX6_pledge g q nK (xs (7 * k + 1)) (xs (7 * k + 2)) (xs (7 * k + 3)) (xs (7 * k + 4)) (xs (7 * k + 5)) 0).2.2.2 (xs (7 * k + 1)) (xs (7 * k + 2)) (xs (7 * k + 3)) (xs (7 * k + 4)) (xs (7 * k + 5)) 0).1), (5, .int 0), (4, .int (nI (7 * k))), (0, .ref b), (1, .ref (ad1 60)), (2, .ref (ad1 0)), (3, .ref (ad1 90))]) hx hb dL_law_825 hl (by decide) rfl (fun ls hl => ?_)
      refine lv_aload_n hx hb dL_law_827 rfl (lv_at hl 5 rfl) ?_
      refine sy_ki (sy_rV (o := 0) (As := []) (rest := []) ⟨hx, hb, hml, hown, hts⟩ hE hP hS (mX7_thrown l hfl Z nT (nK + 1) cT (sCap nK cK) ad1 (fX7_pledge (sy_up (fX6_pledge g q nK (xs (7 * k + 1)) (xs (7 * k + 2)) (xs (7 * k + 3)) (xs (7 * k + 4)) (xs (7 * k + 5)) 0).2.2.1 90 0 (fX6_pledge g q nK (xs (7 * k + 1)) (xs (7 * k + 2)) (xs (7 * k + 3)) (xs (7 * k + 4)) (xs (7 * k + 5)) 0).2.1) (fX6_pledge g q nK (xs (7 * k + 1)) (xs (7 * k + 2)) (xs (7 * k + 3)) (xs (7 * k + 4)) (xs (7 * k + 5)) 0).2.2.2 (xs (7 * k + 1)) (xs (7 * k + 2)) (xs (7 * k + 3)) (xs (7 * k + 4)) (xs (7 * k + 5)) 0).2 (fX6_pledge g q nK (xs (7 * k + 1)) (xs (7 * k + 2)) (xs (7 * k + 3)) (xs (7 * k + 4)) (xs (7 * k + 5)) 0).2.2.2) (cwV 0 hts (gl_V uk_5_93 uk_5_94 uk_5_95 uk_1_9 uk_5_96) rfl rfl rfl (by decide +kernel) ⟨Nat.le_of_ble_eq_true rfl, Nat.le_of_ble_eq_true rfl⟩) (sy_recv (kc := 8) hE hP rfl (by decide) rfl rfl rfl) rfl hl.1 rfl (Nat.le_of_ble_eq_true rfl) dL_law_828 ⟨by show _ ≤ 601024; (try dsimp only); omega, by show _ ≤ 7293034; (try dsimp only); omega⟩) hS (fun b3 g3 q3 H locs e3 hP hS => ?_)
      obtain ⟨rfl, rfl, rfl⟩ : (fX7_pledge (sy_up (fX6_pledge g q nK (xs (7 * k + 1)) (xs (7 * k + 2)) (xs (7 * k + 3)) (xs (7 * k + 4)) (xs (7 * k + 5)) 0).2.2.1 90 0 (fX6_pledge g q nK (xs (7 * k + 1)) (xs (7 * k + 2)) (xs (7 * k + 3)) (xs (7 * k + 4)) (xs (7 * k + 5)) 0).2.1) (fX6_pledge g q nK (xs (7 * k + 1)) (xs (7 * k + 2)) (xs (7 * k + 3)) (xs (7 * k + 4)) (xs (7 * k + 5)) 0).2.2.2 (xs (7 * k + 1)) (xs (7 * k + 2)) (xs (7 * k + 3)) (xs (7 * k + 4)) (xs (7 * k + 5)) 0).2 0 0 = b3 ∧ (fX7_pledge (sy_up (fX6_pledge g q nK (xs (7 * k + 1)) (xs (7 * k + 2)) (xs (7 * k + 3)) (xs (7 * k + 4)) (xs (7 * k + 5)) 0).2.2.1 90 0 (fX6_pledge g q nK (xs (7 * k + 1)) (xs (7 * k + 2)) (xs (7 * k + 3)) (xs (7 * k + 4)) (xs (7 * k + 5)) 0).2.1) (fX6_pledge g q nK (xs (7 * k + 1)) (xs (7 * k + 2)) (xs (7 * k + 3)) (xs (7 * k + 4)) (xs (7 * k + 5)) 0).2.2.2 (xs (7 * k + 1)) (xs (7 * k + 2)) (xs (7 * k + 3)) (xs (7 * k + 4)) (xs (7 * k + 5)) 0).2 = g3 ∧ (fX6_pledge g q nK (xs (7 * k + 1)) (xs (7 * k + 2)) (xs (7 * k + 3)) (xs (7 * k + 4)) (xs (7 * k + 5)) 0).2.2.2 = q3 := by cases e3; exact ⟨rfl, rfl, rfl⟩
      refine sy_top (y := 0) st.2.1 ?_
      refine lv_iload hx hb dL_law_831 (lv_at hl 1 rfl) ?_
      refine lv_icmp_eq (tgt := 838) hx hb dL_law_833 (by decide) (fun _ => ?_) (fun c9 => absurd rfl c9)
      refine lv_iload hx hb dL_law_838 (lv_at hl 1 rfl) ?_
      refine lv_if_ne (tgt := 855) hx hb dL_law_840 (by decide) (fun c9 => absurd rfl c9) (fun _ => ?_)
      refine lv_aload_n hx hb dL_law_843 rfl (lv_at hl 6 rfl) ?_
      refine lv_iconst (v := 0) hx hb dL_law_844 (by decide) ?_
      refine sy_lald hx hb hE hP 90 rfl (i := 0) (k_in rfl) dL_law_845 ?_
      refine lv_iload hx hb dL_law_846 (lv_at hl 0 rfl) ?_
      refine lv_i2l (v := ((fX7_pledge (sy_up (fX6_pledge g q nK (xs (7 * k + 1)) (xs (7 * k + 2)) (xs (7 * k + 3)) (xs (7 * k + 4)) (xs (7 * k + 5)) 0).2.2.1 90 0 (fX6_pledge g q nK (xs (7 * k + 1)) (xs (7 * k + 2)) (xs (7 * k + 3)) (xs (7 * k + 4)) (xs (7 * k + 5)) 0).2.1) (fX6_pledge g q nK (xs (7 * k + 1)) (xs (7 * k + 2)) (xs (7 * k + 3)) (xs (7 * k + 4)) (xs (7 * k + 5)) 0).2.2.2 (xs (7 * k + 1)) (xs (7 * k + 2)) (xs (7 * k + 3)) (xs (7 * k + 4)) (xs (7 * k + 5)) 0).2 90 0).toInt64) hx hb dL_law_848 (by rw [st.2.2.2.1, st.2.2.1]) ?_
      refine lv_lcmp0 hx hb dL_law_849 ?_
      refine lv_if_eq (tgt := 855) hx hb dL_law_850 (by decide) (fun _ => ?_) (fun c9 => absurd rfl c9)
      refine lv_goto (tgt := 2272) hx hb dL_law_855 (by decide) ?_
      refine W.widen (k := 100 + 16 * (k + 1)) (n := 4000 + 200 * (k + 1)) (by (try dsimp only); omega) (by (try dsimp only); omega) ?_
      exact hJ _ _ _ _ _ _ _ _ _ _ ⟨hP, by rw [Nat.succ_mul]; exact st.2.2.2.2, (fun z => (had 70 (by omega) (by omega)).trans (h70 z)), (fun z => absurd z (by have := st.2.2.2.2.2.2.1.2.2.2.2.1; omega)), hS, lv_sub hl [2, 3, 4, 5, 6] rfl⟩
    · have hP := hB2 h0
      refine lv_istore (lv' := [(5, .int (wf 1 2 3 (fX6_pledge g q nK (xs (7 * k + 1)) (xs (7 * k + 2)) (xs (7 * k + 3)) (xs (7 * k + 4)) (xs (7 * k + 5)) 0).1)), (4, .int (nI (7 * k))), (0, .ref b), (1, .ref (ad 60)), (2, .ref (ad 0)), (3, .ref (ad 90))]) hx hb dL_law_774 hl (by decide) rfl (fun ls hl => ?_)
      have st := st_non hI (F := fun gm => fX7_pledge gm q (xs (7 * k + 1)) (xs (7 * k + 2)) (xs (7 * k + 3)) (xs (7 * k + 4)) (xs (7 * k + 5)) 0) (fun gm hg => o_pledge (q' := q) hg (xs (7 * k + 1)) (xs (7 * k + 2)) (xs (7 * k + 3)) (xs (7 * k + 4)) (xs (7 * k + 5)) 0) (fun gm => f7_pledge) h0
      try dsimp only at st
      refine lv_aload_n hx hb dL_law_776 rfl (lv_at hl 4 rfl) ?_
      refine lv_aload_n hx hb dL_law_777 rfl (lv_at hl 2 rfl) ?_
      refine lv_iload hx hb dL_law_778 (lv_at hl 1 rfl) ?_
      refine lv_iconst (v := 1) hx hb dL_law_780 (by decide) ?_
      refine lv_iadd hx hb dL_law_781 ?_
      refine sy_top (y := nI (7 * k + 1)) (nI_add _ _) ?_
      refine va_sld hx hb hX hbl hbA hS (vp_in_nI (show 7 * k + 1 < L by omega) (by omega)) dL_law_782 ?_
      refine sy_top (y := xs (7 * k + 1)) (by rw [nI_clamp (by omega)]) ?_
      refine lv_aload_n hx hb dL_law_783 rfl (lv_at hl 2 rfl) ?_
      refine lv_iload hx hb dL_law_784 (lv_at hl 1 rfl) ?_
      refine lv_iconst (v := 2) hx hb dL_law_786 (by decide) ?_
      refine lv_iadd hx hb dL_law_787 ?_
      refine sy_top (y := nI (7 * k + 2)) (nI_add _ _) ?_
      refine va_sld hx hb hX hbl hbA hS (vp_in_nI (show 7 * k + 2 < L by omega) (by omega)) dL_law_788 ?_
      refine sy_top (y := xs (7 * k + 2)) (by rw [nI_clamp (by omega)]) ?_
      refine lv_aload_n hx hb dL_law_789 rfl (lv_at hl 2 rfl) ?_
      refine lv_iload hx hb dL_law_790 (lv_at hl 1 rfl) ?_
      refine lv_iconst (v := 3) hx hb dL_law_792 (by decide) ?_
      refine lv_iadd hx hb dL_law_793 ?_
      refine sy_top (y := nI (7 * k + 3)) (nI_add _ _) ?_
      refine va_sld hx hb hX hbl hbA hS (vp_in_nI (show 7 * k + 3 < L by omega) (by omega)) dL_law_794 ?_
      refine sy_top (y := xs (7 * k + 3)) (by rw [nI_clamp (by omega)]) ?_
      refine lv_aload_n hx hb dL_law_795 rfl (lv_at hl 2 rfl) ?_
      refine lv_iload hx hb dL_law_796 (lv_at hl 1 rfl) ?_
      refine lv_iconst (v := 4) hx hb dL_law_798 (by decide) ?_
      refine lv_iadd hx hb dL_law_799 ?_
      refine sy_top (y := nI (7 * k + 4)) (nI_add _ _) ?_
      refine va_sld hx hb hX hbl hbA hS (vp_in_nI (show 7 * k + 4 < L by omega) (by omega)) dL_law_800 ?_
      refine sy_top (y := xs (7 * k + 4)) (by rw [nI_clamp (by omega)]) ?_
      refine lv_aload_n hx hb dL_law_801 rfl (lv_at hl 2 rfl) ?_
      refine lv_iload hx hb dL_law_802 (lv_at hl 1 rfl) ?_
      refine lv_iconst (v := 5) hx hb dL_law_804 (by decide) ?_
      refine lv_iadd hx hb dL_law_805 ?_
      refine sy_top (y := nI (7 * k + 5)) (nI_add _ _) ?_
      refine va_sld hx hb hX hbl hbA hS (vp_in_nI (show 7 * k + 5 < L by omega) (by omega)) dL_law_806 ?_
      refine sy_top (y := xs (7 * k + 5)) (by rw [nI_clamp (by omega)]) ?_
      refine lv_aload_n hx hb dL_law_807 rfl (lv_at hl 2 rfl) ?_
      refine lv_iload hx hb dL_law_808 (lv_at hl 1 rfl) ?_
      refine lv_bipush (v := 6) hx hb dL_law_810 (by decide) ?_
      refine lv_iadd hx hb dL_law_812 ?_
      refine sy_top (y := nI (7 * k + 6)) (nI_add _ _) ?_
      refine va_sld hx hb hX hbl hbA hS (vp_in_nI (show 7 * k + 6 < L by omega) (by omega)) dL_law_813 ?_
      refine sy_top (y := xs (7 * k + 6)) (by rw [nI_clamp (by omega)]) ?_
      refine lv_if_eq (tgt := 821) hx hb dL_law_814 (by decide) (fun _ => ?_) (fun c9 => absurd hz c9)
      refine lv_iconst (v := 0) hx hb dL_law_821 (by decide) ?_
      refine sy_ki (sy_rV (o := 0) (As := [.int (xs (7 * k + 1)), .int (xs (7 * k + 2)), .int (xs (7 * k + 3)), .int (xs (7 * k + 4)), .int (xs (7 * k + 5)), .int 0]) (rest := []) ⟨hx, hb, hml, hown, hts⟩ hE hP hS (mX7_pledge l hfl Z nT nK cT cK ad g q (xs (7 * k + 1)) (xs (7 * k + 2)) (xs (7 * k + 3)) (xs (7 * k + 4)) (xs (7 * k + 5)) 0 hI.2.1 (by decide)) (cwV 6 hts (gl_V uk_5_144 uk_5_145 uk_5_146 uk_1_9 uk_5_147) rfl rfl rfl (by decide +kernel) ⟨Nat.le_of_ble_eq_true rfl, Nat.le_of_ble_eq_true rfl⟩) (sy_recv (kc := 8) hE hP rfl (by decide) rfl rfl rfl) rfl hl.1 rfl (Nat.le_of_ble_eq_true rfl) dL_law_822 ⟨by show _ ≤ 601024; (try dsimp only); omega, by show _ ≤ 7293034; (try dsimp only); omega⟩) hS (fun b2 g2 q2 H locs e2 hP hS => ?_)
      obtain ⟨rfl, rfl, rfl⟩ : (fX7_pledge g q (xs (7 * k + 1)) (xs (7 * k + 2)) (xs (7 * k + 3)) (xs (7 * k + 4)) (xs (7 * k + 5)) 0).1 = b2 ∧ (fX7_pledge g q (xs (7 * k + 1)) (xs (7 * k + 2)) (xs (7 * k + 3)) (xs (7 * k + 4)) (xs (7 * k + 5)) 0).2 = g2 ∧ q = q2 := by cases e2; exact ⟨rfl, rfl, rfl⟩
      refine lv_istore (lv' := [(6, .int (fX7_pledge g q (xs (7 * k + 1)) (xs (7 * k + 2)) (xs (7 * k + 3)) (xs (7 * k + 4)) (xs (7 * k + 5)) 0).1), (5, .int (wf 1 2 3 (fX6_pledge g q nK (xs (7 * k + 1)) (xs (7 * k + 2)) (xs (7 * k + 3)) (xs (7 * k + 4)) (xs (7 * k + 5)) 0).1)), (4, .int (nI (7 * k))), (0, .ref b), (1, .ref (ad 60)), (2, .ref (ad 0)), (3, .ref (ad 90))]) hx hb dL_law_825 hl (by decide) rfl (fun ls hl => ?_)
      refine lv_aload_n hx hb dL_law_827 rfl (lv_at hl 5 rfl) ?_
      refine sy_ki (sy_rV (o := 0) (As := []) (rest := []) ⟨hx, hb, hml, hown, hts⟩ hE hP hS (mX7_thrown l hfl Z nT nK cT cK ad (fX7_pledge g q (xs (7 * k + 1)) (xs (7 * k + 2)) (xs (7 * k + 3)) (xs (7 * k + 4)) (xs (7 * k + 5)) 0).2 q) (cwV 0 hts (gl_V uk_5_93 uk_5_94 uk_5_95 uk_1_9 uk_5_96) rfl rfl rfl (by decide +kernel) ⟨Nat.le_of_ble_eq_true rfl, Nat.le_of_ble_eq_true rfl⟩) (sy_recv (kc := 8) hE hP rfl (by decide) rfl rfl rfl) rfl hl.1 rfl (Nat.le_of_ble_eq_true rfl) dL_law_828 ⟨by show _ ≤ 601024; (try dsimp only); omega, by show _ ≤ 7293034; (try dsimp only); omega⟩) hS (fun b3 g3 q3 H locs e3 hP hS => ?_)
      obtain ⟨rfl, rfl, rfl⟩ : (fX7_pledge g q (xs (7 * k + 1)) (xs (7 * k + 2)) (xs (7 * k + 3)) (xs (7 * k + 4)) (xs (7 * k + 5)) 0).2 0 0 = b3 ∧ (fX7_pledge g q (xs (7 * k + 1)) (xs (7 * k + 2)) (xs (7 * k + 3)) (xs (7 * k + 4)) (xs (7 * k + 5)) 0).2 = g3 ∧ q = q3 := by cases e3; exact ⟨rfl, rfl, rfl⟩
      refine sy_top (y := (wf 1 2 3 (fX6_pledge g q nK (xs (7 * k + 1)) (xs (7 * k + 2)) (xs (7 * k + 3)) (xs (7 * k + 4)) (xs (7 * k + 5)) 0).1)) st.1 ?_
      refine lv_iload hx hb dL_law_831 (lv_at hl 1 rfl) ?_
      refine lv_icmp_eq (tgt := 838) hx hb dL_law_833 (by decide) (fun _ => ?_) (fun c9 => absurd rfl c9)
      refine lv_iload hx hb dL_law_838 (lv_at hl 1 rfl) ?_
      refine lv_if_ne (tgt := 855) hx hb dL_law_840 (by decide) (fun _ => ?_) (fun c9 => absurd c9 ((wf_ne h0 hCode).resolve_right (by decide)))
      refine lv_goto (tgt := 2272) hx hb dL_law_855 (by decide) ?_
      refine W.widen (k := 100 + 16 * (k + 1)) (n := 4000 + 200 * (k + 1)) (by (try dsimp only); omega) (by (try dsimp only); omega) ?_
      exact hJ _ _ _ _ _ _ _ _ _ _ ⟨hP, by rw [Nat.succ_mul]; exact st.2.2, h70, h71, hS, lv_sub hl [2, 3, 4, 5, 6] rfl⟩
  · refine lv_aload_n hx hb dL_law_724 rfl (lv_at hl 2 rfl) ?_
    refine lv_aload_n hx hb dL_law_725 rfl (lv_at hl 1 rfl) ?_
    refine lv_iload hx hb dL_law_726 (lv_at hl 0 rfl) ?_
    refine lv_iconst (v := 1) hx hb dL_law_728 (by decide) ?_
    refine lv_iadd hx hb dL_law_729 ?_
    refine sy_top (y := nI (7 * k + 1)) (nI_add _ _) ?_
    refine va_sld hx hb hX hbl hbA hS (vp_in_nI (show 7 * k + 1 < L by omega) (by omega)) dL_law_730 ?_
    refine sy_top (y := xs (7 * k + 1)) (by rw [nI_clamp (by omega)]) ?_
    refine lv_aload_n hx hb dL_law_731 rfl (lv_at hl 1 rfl) ?_
    refine lv_iload hx hb dL_law_732 (lv_at hl 0 rfl) ?_
    refine lv_iconst (v := 2) hx hb dL_law_734 (by decide) ?_
    refine lv_iadd hx hb dL_law_735 ?_
    refine sy_top (y := nI (7 * k + 2)) (nI_add _ _) ?_
    refine va_sld hx hb hX hbl hbA hS (vp_in_nI (show 7 * k + 2 < L by omega) (by omega)) dL_law_736 ?_
    refine sy_top (y := xs (7 * k + 2)) (by rw [nI_clamp (by omega)]) ?_
    refine lv_aload_n hx hb dL_law_737 rfl (lv_at hl 1 rfl) ?_
    refine lv_iload hx hb dL_law_738 (lv_at hl 0 rfl) ?_
    refine lv_iconst (v := 3) hx hb dL_law_740 (by decide) ?_
    refine lv_iadd hx hb dL_law_741 ?_
    refine sy_top (y := nI (7 * k + 3)) (nI_add _ _) ?_
    refine va_sld hx hb hX hbl hbA hS (vp_in_nI (show 7 * k + 3 < L by omega) (by omega)) dL_law_742 ?_
    refine sy_top (y := xs (7 * k + 3)) (by rw [nI_clamp (by omega)]) ?_
    refine lv_aload_n hx hb dL_law_743 rfl (lv_at hl 1 rfl) ?_
    refine lv_iload hx hb dL_law_744 (lv_at hl 0 rfl) ?_
    refine lv_iconst (v := 4) hx hb dL_law_746 (by decide) ?_
    refine lv_iadd hx hb dL_law_747 ?_
    refine sy_top (y := nI (7 * k + 4)) (nI_add _ _) ?_
    refine va_sld hx hb hX hbl hbA hS (vp_in_nI (show 7 * k + 4 < L by omega) (by omega)) dL_law_748 ?_
    refine sy_top (y := xs (7 * k + 4)) (by rw [nI_clamp (by omega)]) ?_
    refine lv_aload_n hx hb dL_law_749 rfl (lv_at hl 1 rfl) ?_
    refine lv_iload hx hb dL_law_750 (lv_at hl 0 rfl) ?_
    refine lv_iconst (v := 5) hx hb dL_law_752 (by decide) ?_
    refine lv_iadd hx hb dL_law_753 ?_
    refine sy_top (y := nI (7 * k + 5)) (nI_add _ _) ?_
    refine va_sld hx hb hX hbl hbA hS (vp_in_nI (show 7 * k + 5 < L by omega) (by omega)) dL_law_754 ?_
    refine sy_top (y := xs (7 * k + 5)) (by rw [nI_clamp (by omega)]) ?_
    refine lv_aload_n hx hb dL_law_755 rfl (lv_at hl 1 rfl) ?_
    refine lv_iload hx hb dL_law_756 (lv_at hl 0 rfl) ?_
    refine lv_bipush (v := 6) hx hb dL_law_758 (by decide) ?_
    refine lv_iadd hx hb dL_law_760 ?_
    refine sy_top (y := nI (7 * k + 6)) (nI_add _ _) ?_
    refine va_sld hx hb hX hbl hbA hS (vp_in_nI (show 7 * k + 6 < L by omega) (by omega)) dL_law_761 ?_
    refine sy_top (y := xs (7 * k + 6)) (by rw [nI_clamp (by omega)]) ?_
    refine lv_if_eq (tgt := 769) hx hb dL_law_762 (by decide) (fun c9 => absurd c9 hz) (fun _ => ?_)
    refine lv_iconst (v := 1) hx hb dL_law_765 (by decide) ?_
    refine lv_goto (tgt := 770) hx hb dL_law_766 (by decide) ?_
    refine lv_aload_n hx hb dL_law_770 rfl (lv_at hl 4 rfl) ?_
    have hCode : wf 1 2 3 (fX6_pledge g q nK (xs (7 * k + 1)) (xs (7 * k + 2)) (xs (7 * k + 3)) (xs (7 * k + 4)) (xs (7 * k + 5)) 1).1 ≠ 9 := (by
          by_cases z : (fX6_pledge g q nK (xs (7 * k + 1)) (xs (7 * k + 2)) (xs (7 * k + 3)) (xs (7 * k + 4)) (xs (7 * k + 5)) 1).1 = 0
          · rw [z]; exact (by decide : (0 : Int32) ≠ 9)
          · exact (st_non hI (fun gm hg => o_pledge (q' := (fX6_pledge g q nK (xs (7 * k + 1)) (xs (7 * k + 2)) (xs (7 * k + 3)) (xs (7 * k + 4)) (xs (7 * k + 5)) 1).2.2.2) hg (xs (7 * k + 1)) (xs (7 * k + 2)) (xs (7 * k + 3)) (xs (7 * k + 4)) (xs (7 * k + 5)) 1) (fun gm => f7_pledge) z).2.1)
    refine va_calli (vx_runSW (As := [.ref (ad 60), .int (xs (7 * k + 1)), .int (xs (7 * k + 2)), .int (xs (7 * k + 3)), .int (xs (7 * k + 4)), .int (xs (7 * k + 5)), .int 1, .ref (ad 90)]) (rest := []) ⟨hx, hb, hml, hown, hts⟩ (mL_pledge l hfl Z nT nK cT cK ad g q (xs (7 * k + 1)) (xs (7 * k + 2)) (xs (7 * k + 3)) (xs (7 * k + 4)) (xs (7 * k + 5)) 1 (by have := inv_T hI; omega) (inv_IG hI) (inv_IQ hI) (Or.inr rfl) hI.2.2.1.2.2.2.2.2.1 h71 hI.2.2.2.2.2.2.2.1.2.2.2.2.2.1 (fun o k e => by have := hI.2.2.2.2.2.2.2.1.2.2.2.2.2.2 o k _ e; omega) (fun o k e => by have := hI.2.2.2.2.2.2.2.1.2.2.2.2.2.2 o k _ e; have := inv_T hI; omega) hCode) (vx_cwSW 8 hts (gl_S uk_3_21 uk_3_22 uk_1_0 uk_3_23) rfl rfl rfl (by decide +kernel) ⟨Nat.le_of_ble_eq_true rfl, Nat.le_of_ble_eq_true rfl⟩) ⟨sPreL_blind _, fun U hU hW => ⟨rfl, ⟨hE.next hS hU hW.alike, by rw [hU]; exact hP⟩, hNc.next hW.alike⟩⟩ rfl rfl hl.1 rfl (lv_room (Nat.le_of_ble_eq_true rfl)) dL_law_771 ⟨by show _ ≤ 601024; (try dsimp only); omega, by show _ ≤ 7293034; (try dsimp only); omega⟩) hS (fun _ _ h => h) (fun _ h => h) (fun r u t H locs ht _ hp hB _ _ hS => ?_)
    obtain ⟨ad1, g1, q1⟩ := u
    obtain ⟨-, hB1, hB2⟩ := hB
    rw [ht] at hB1 hB2
    dsimp only at hp hB1
    rcases hp with ⟨h0, rfl, had, rfl, rfl⟩ | ⟨h0, rfl⟩
    · have hP := hB1 h0
      have h1060 := had 60 (by omega) (by omega)
      have h1000 := had 0 (by omega) (by omega)
      have h1090 := had 90 (by omega) (by omega)
      rw [← h1060, ← h1000, ← h1090] at hl
      refine lv_istore (lv' := [(5, .int 0), (4, .int (nI (7 * k))), (0, .ref b), (1, .ref (ad1 60)), (2, .ref (ad1 0)), (3, .ref (ad1 90))]) hx hb dL_law_774 hl (by decide) rfl (fun ls hl => ?_)
      have st := st_yesn hI (F := fun gm => fX7_pledge gm (fX6_pledge g q nK (xs (7 * k + 1)) (xs (7 * k + 2)) (xs (7 * k + 3)) (xs (7 * k + 4)) (xs (7 * k + 5)) 1).2.2.2 (xs (7 * k + 1)) (xs (7 * k + 2)) (xs (7 * k + 3)) (xs (7 * k + 4)) (xs (7 * k + 5)) 1) (fun gm hg => o_pledge (q' := (fX6_pledge g q nK (xs (7 * k + 1)) (xs (7 * k + 2)) (xs (7 * k + 3)) (xs (7 * k + 4)) (xs (7 * k + 5)) 1).2.2.2) hg (xs (7 * k + 1)) (xs (7 * k + 2)) (xs (7 * k + 3)) (xs (7 * k + 4)) (xs (7 * k + 5)) 1) f6_pledge (fun gm => f7_pledge) h0
      try dsimp only at st
      refine lv_aload_n hx hb dL_law_776 rfl (lv_at hl 4 rfl) ?_
      refine lv_aload_n hx hb dL_law_777 rfl (lv_at hl 2 rfl) ?_
      refine lv_iload hx hb dL_law_778 (lv_at hl 1 rfl) ?_
      refine lv_iconst (v := 1) hx hb dL_law_780 (by decide) ?_
      refine lv_iadd hx hb dL_law_781 ?_
      refine sy_top (y := nI (7 * k + 1)) (nI_add _ _) ?_
      refine va_sld hx hb hX hbl hbA hS (vp_in_nI (show 7 * k + 1 < L by omega) (by omega)) dL_law_782 ?_
      refine sy_top (y := xs (7 * k + 1)) (by rw [nI_clamp (by omega)]) ?_
      refine lv_aload_n hx hb dL_law_783 rfl (lv_at hl 2 rfl) ?_
      refine lv_iload hx hb dL_law_784 (lv_at hl 1 rfl) ?_
      refine lv_iconst (v := 2) hx hb dL_law_786 (by decide) ?_
      refine lv_iadd hx hb dL_law_787 ?_
      refine sy_top (y := nI (7 * k + 2)) (nI_add _ _) ?_
      refine va_sld hx hb hX hbl hbA hS (vp_in_nI (show 7 * k + 2 < L by omega) (by omega)) dL_law_788 ?_
      refine sy_top (y := xs (7 * k + 2)) (by rw [nI_clamp (by omega)]) ?_
      refine lv_aload_n hx hb dL_law_789 rfl (lv_at hl 2 rfl) ?_
      refine lv_iload hx hb dL_law_790 (lv_at hl 1 rfl) ?_
      refine lv_iconst (v := 3) hx hb dL_law_792 (by decide) ?_
      refine lv_iadd hx hb dL_law_793 ?_
      refine sy_top (y := nI (7 * k + 3)) (nI_add _ _) ?_
      refine va_sld hx hb hX hbl hbA hS (vp_in_nI (show 7 * k + 3 < L by omega) (by omega)) dL_law_794 ?_
      refine sy_top (y := xs (7 * k + 3)) (by rw [nI_clamp (by omega)]) ?_
      refine lv_aload_n hx hb dL_law_795 rfl (lv_at hl 2 rfl) ?_
      refine lv_iload hx hb dL_law_796 (lv_at hl 1 rfl) ?_
      refine lv_iconst (v := 4) hx hb dL_law_798 (by decide) ?_
      refine lv_iadd hx hb dL_law_799 ?_
      refine sy_top (y := nI (7 * k + 4)) (nI_add _ _) ?_
      refine va_sld hx hb hX hbl hbA hS (vp_in_nI (show 7 * k + 4 < L by omega) (by omega)) dL_law_800 ?_
      refine sy_top (y := xs (7 * k + 4)) (by rw [nI_clamp (by omega)]) ?_
      refine lv_aload_n hx hb dL_law_801 rfl (lv_at hl 2 rfl) ?_
      refine lv_iload hx hb dL_law_802 (lv_at hl 1 rfl) ?_
      refine lv_iconst (v := 5) hx hb dL_law_804 (by decide) ?_
      refine lv_iadd hx hb dL_law_805 ?_
      refine sy_top (y := nI (7 * k + 5)) (nI_add _ _) ?_
      refine va_sld hx hb hX hbl hbA hS (vp_in_nI (show 7 * k + 5 < L by omega) (by omega)) dL_law_806 ?_
      refine sy_top (y := xs (7 * k + 5)) (by rw [nI_clamp (by omega)]) ?_
      refine lv_aload_n hx hb dL_law_807 rfl (lv_at hl 2 rfl) ?_
      refine lv_iload hx hb dL_law_808 (lv_at hl 1 rfl) ?_
      refine lv_bipush (v := 6) hx hb dL_law_810 (by decide) ?_
      refine lv_iadd hx hb dL_law_812 ?_
      refine sy_top (y := nI (7 * k + 6)) (nI_add _ _) ?_
      refine va_sld hx hb hX hbl hbA hS (vp_in_nI (show 7 * k + 6 < L by omega) (by omega)) dL_law_813 ?_
      refine sy_top (y := xs (7 * k + 6)) (by rw [nI_clamp (by omega)]) ?_
      refine lv_if_eq (tgt := 821) hx hb dL_law_814 (by decide) (fun c9 => absurd c9 hz) (fun _ => ?_)
      refine lv_iconst (v := 1) hx hb dL_law_817 (by decide) ?_
      refine lv_goto (tgt := 822) hx hb dL_law_818 (by decide) ?_
      refine sy_ki (sy_rV (o := 0) (As := [.int (xs (7 * k + 1)), .int (xs (7 * k + 2)), .int (xs (7 * k + 3)), .int (xs (7 * k + 4)), .int (xs (7 * k + 5)), .int 1]) (rest := []) ⟨hx, hb, hml, hown, hts⟩ hE hP hS (mX7_pledge l hfl Z nT (nK + 1) cT (sCap nK cK) ad1 (sy_up (fX6_pledge g q nK (xs (7 * k + 1)) (xs (7 * k + 2)) (xs (7 * k + 3)) (xs (7 * k + 4)) (xs (7 * k + 5)) 1).2.2.1 90 0 (fX6_pledge g q nK (xs (7 * k + 1)) (xs (7 * k + 2)) (xs (7 * k + 3)) (xs (7 * k + 4)) (xs (7 * k + 5)) 1).2.1) (fX6_pledge g q nK (xs (7 * k + 1)) (xs (7 * k + 2)) (xs (7 * k + 3)) (xs (7 * k + 4)) (xs (7 * k + 5)) 1).2.2.2 (xs (7 * k + 1)) (xs (7 * k + 2)) (xs (7 * k + 3)) (xs (7 * k + 4)) (xs (7 * k + 5)) 1 st.1.2.1 (by decide)) (cwV 6 hts (gl_V uk_5_144 uk_5_145 uk_5_146 uk_1_9 uk_5_147) rfl rfl rfl (by decide +kernel) ⟨Nat.le_of_ble_eq_true rfl, Nat.le_of_ble_eq_true rfl⟩) (sy_recv (kc := 8) hE hP rfl (by decide) rfl rfl rfl) rfl hl.1 rfl (Nat.le_of_ble_eq_true rfl) dL_law_822 ⟨by show _ ≤ 601024; (try dsimp only); omega, by show _ ≤ 7293034; (try dsimp only); omega⟩) hS (fun b2 g2 q2 H locs e2 hP hS => ?_)
      obtain ⟨rfl, rfl, rfl⟩ : (fX7_pledge (sy_up (fX6_pledge g q nK (xs (7 * k + 1)) (xs (7 * k + 2)) (xs (7 * k + 3)) (xs (7 * k + 4)) (xs (7 * k + 5)) 1).2.2.1 90 0 (fX6_pledge g q nK (xs (7 * k + 1)) (xs (7 * k + 2)) (xs (7 * k + 3)) (xs (7 * k + 4)) (xs (7 * k + 5)) 1).2.1) (fX6_pledge g q nK (xs (7 * k + 1)) (xs (7 * k + 2)) (xs (7 * k + 3)) (xs (7 * k + 4)) (xs (7 * k + 5)) 1).2.2.2 (xs (7 * k + 1)) (xs (7 * k + 2)) (xs (7 * k + 3)) (xs (7 * k + 4)) (xs (7 * k + 5)) 1).1 = b2 ∧ (fX7_pledge (sy_up (fX6_pledge g q nK (xs (7 * k + 1)) (xs (7 * k + 2)) (xs (7 * k + 3)) (xs (7 * k + 4)) (xs (7 * k + 5)) 1).2.2.1 90 0 (fX6_pledge g q nK (xs (7 * k + 1)) (xs (7 * k + 2)) (xs (7 * k + 3)) (xs (7 * k + 4)) (xs (7 * k + 5)) 1).2.1) (fX6_pledge g q nK (xs (7 * k + 1)) (xs (7 * k + 2)) (xs (7 * k + 3)) (xs (7 * k + 4)) (xs (7 * k + 5)) 1).2.2.2 (xs (7 * k + 1)) (xs (7 * k + 2)) (xs (7 * k + 3)) (xs (7 * k + 4)) (xs (7 * k + 5)) 1).2 = g2 ∧ (fX6_pledge g q nK (xs (7 * k + 1)) (xs (7 * k + 2)) (xs (7 * k + 3)) (xs (7 * k + 4)) (xs (7 * k + 5)) 1).2.2.2 = q2 := by cases e2; exact ⟨rfl, rfl, rfl⟩
      refine lv_istore (lv' := [(6, .int (fX7_pledge (sy_up (fX6_pledge g q nK (xs (7 * k + 1)) (xs (7 * k + 2)) (xs (7 * k + 3)) (xs (7 * k + 4)) (xs (7 * k + 5)) 1).2.2.1 90 0 (fX6_pledge g q nK (xs (7 * k + 1)) (xs (7 * k + 2)) (xs (7 * k + 3)) (xs (7 * k + 4)) (xs (7 * k + 5)) 1).2.1) (fX6_pledge g q nK (xs (7 * k + 1)) (xs (7 * k + 2)) (xs (7 * k + 3)) (xs (7 * k + 4)) (xs (7 * k + 5)) 1).2.2.2 (xs (7 * k + 1)) (xs (7 * k + 2)) (xs (7 * k + 3)) (xs (7 * k + 4)) (xs (7 * k + 5)) 1).1), (5, .int 0), (4, .int (nI (7 * k))), (0, .ref b), (1, .ref (ad1 60)), (2, .ref (ad1 0)), (3, .ref (ad1 90))]) hx hb dL_law_825 hl (by decide) rfl (fun ls hl => ?_)
      refine lv_aload_n hx hb dL_law_827 rfl (lv_at hl 5 rfl) ?_
      refine sy_ki (sy_rV (o := 0) (As := []) (rest := []) ⟨hx, hb, hml, hown, hts⟩ hE hP hS (mX7_thrown l hfl Z nT (nK + 1) cT (sCap nK cK) ad1 (fX7_pledge (sy_up (fX6_pledge g q nK (xs (7 * k + 1)) (xs (7 * k + 2)) (xs (7 * k + 3)) (xs (7 * k + 4)) (xs (7 * k + 5)) 1).2.2.1 90 0 (fX6_pledge g q nK (xs (7 * k + 1)) (xs (7 * k + 2)) (xs (7 * k + 3)) (xs (7 * k + 4)) (xs (7 * k + 5)) 1).2.1) (fX6_pledge g q nK (xs (7 * k + 1)) (xs (7 * k + 2)) (xs (7 * k + 3)) (xs (7 * k + 4)) (xs (7 * k + 5)) 1).2.2.2 (xs (7 * k + 1)) (xs (7 * k + 2)) (xs (7 * k + 3)) (xs (7 * k + 4)) (xs (7 * k + 5)) 1).2 (fX6_pledge g q nK (xs (7 * k + 1)) (xs (7 * k + 2)) (xs (7 * k + 3)) (xs (7 * k + 4)) (xs (7 * k + 5)) 1).2.2.2) (cwV 0 hts (gl_V uk_5_93 uk_5_94 uk_5_95 uk_1_9 uk_5_96) rfl rfl rfl (by decide +kernel) ⟨Nat.le_of_ble_eq_true rfl, Nat.le_of_ble_eq_true rfl⟩) (sy_recv (kc := 8) hE hP rfl (by decide) rfl rfl rfl) rfl hl.1 rfl (Nat.le_of_ble_eq_true rfl) dL_law_828 ⟨by show _ ≤ 601024; (try dsimp only); omega, by show _ ≤ 7293034; (try dsimp only); omega⟩) hS (fun b3 g3 q3 H locs e3 hP hS => ?_)
      obtain ⟨rfl, rfl, rfl⟩ : (fX7_pledge (sy_up (fX6_pledge g q nK (xs (7 * k + 1)) (xs (7 * k + 2)) (xs (7 * k + 3)) (xs (7 * k + 4)) (xs (7 * k + 5)) 1).2.2.1 90 0 (fX6_pledge g q nK (xs (7 * k + 1)) (xs (7 * k + 2)) (xs (7 * k + 3)) (xs (7 * k + 4)) (xs (7 * k + 5)) 1).2.1) (fX6_pledge g q nK (xs (7 * k + 1)) (xs (7 * k + 2)) (xs (7 * k + 3)) (xs (7 * k + 4)) (xs (7 * k + 5)) 1).2.2.2 (xs (7 * k + 1)) (xs (7 * k + 2)) (xs (7 * k + 3)) (xs (7 * k + 4)) (xs (7 * k + 5)) 1).2 0 0 = b3 ∧ (fX7_pledge (sy_up (fX6_pledge g q nK (xs (7 * k + 1)) (xs (7 * k + 2)) (xs (7 * k + 3)) (xs (7 * k + 4)) (xs (7 * k + 5)) 1).2.2.1 90 0 (fX6_pledge g q nK (xs (7 * k + 1)) (xs (7 * k + 2)) (xs (7 * k + 3)) (xs (7 * k + 4)) (xs (7 * k + 5)) 1).2.1) (fX6_pledge g q nK (xs (7 * k + 1)) (xs (7 * k + 2)) (xs (7 * k + 3)) (xs (7 * k + 4)) (xs (7 * k + 5)) 1).2.2.2 (xs (7 * k + 1)) (xs (7 * k + 2)) (xs (7 * k + 3)) (xs (7 * k + 4)) (xs (7 * k + 5)) 1).2 = g3 ∧ (fX6_pledge g q nK (xs (7 * k + 1)) (xs (7 * k + 2)) (xs (7 * k + 3)) (xs (7 * k + 4)) (xs (7 * k + 5)) 1).2.2.2 = q3 := by cases e3; exact ⟨rfl, rfl, rfl⟩
      refine sy_top (y := 0) st.2.1 ?_
      refine lv_iload hx hb dL_law_831 (lv_at hl 1 rfl) ?_
      refine lv_icmp_eq (tgt := 838) hx hb dL_law_833 (by decide) (fun _ => ?_) (fun c9 => absurd rfl c9)
      refine lv_iload hx hb dL_law_838 (lv_at hl 1 rfl) ?_
      refine lv_if_ne (tgt := 855) hx hb dL_law_840 (by decide) (fun c9 => absurd rfl c9) (fun _ => ?_)
      refine lv_aload_n hx hb dL_law_843 rfl (lv_at hl 6 rfl) ?_
      refine lv_iconst (v := 0) hx hb dL_law_844 (by decide) ?_
      refine sy_lald hx hb hE hP 90 rfl (i := 0) (k_in rfl) dL_law_845 ?_
      refine lv_iload hx hb dL_law_846 (lv_at hl 0 rfl) ?_
      refine lv_i2l (v := ((fX7_pledge (sy_up (fX6_pledge g q nK (xs (7 * k + 1)) (xs (7 * k + 2)) (xs (7 * k + 3)) (xs (7 * k + 4)) (xs (7 * k + 5)) 1).2.2.1 90 0 (fX6_pledge g q nK (xs (7 * k + 1)) (xs (7 * k + 2)) (xs (7 * k + 3)) (xs (7 * k + 4)) (xs (7 * k + 5)) 1).2.1) (fX6_pledge g q nK (xs (7 * k + 1)) (xs (7 * k + 2)) (xs (7 * k + 3)) (xs (7 * k + 4)) (xs (7 * k + 5)) 1).2.2.2 (xs (7 * k + 1)) (xs (7 * k + 2)) (xs (7 * k + 3)) (xs (7 * k + 4)) (xs (7 * k + 5)) 1).2 90 0).toInt64) hx hb dL_law_848 (by rw [st.2.2.2.1, st.2.2.1]) ?_
      refine lv_lcmp0 hx hb dL_law_849 ?_
      refine lv_if_eq (tgt := 855) hx hb dL_law_850 (by decide) (fun _ => ?_) (fun c9 => absurd rfl c9)
      refine lv_goto (tgt := 2272) hx hb dL_law_855 (by decide) ?_
      refine W.widen (k := 100 + 16 * (k + 1)) (n := 4000 + 200 * (k + 1)) (by (try dsimp only); omega) (by (try dsimp only); omega) ?_
      exact hJ _ _ _ _ _ _ _ _ _ _ ⟨hP, by rw [Nat.succ_mul]; exact st.2.2.2.2, (fun z => (had 70 (by omega) (by omega)).trans (h70 z)), (fun z => absurd z (by have := st.2.2.2.2.2.2.1.2.2.2.2.1; omega)), hS, lv_sub hl [2, 3, 4, 5, 6] rfl⟩
    · have hP := hB2 h0
      refine lv_istore (lv' := [(5, .int (wf 1 2 3 (fX6_pledge g q nK (xs (7 * k + 1)) (xs (7 * k + 2)) (xs (7 * k + 3)) (xs (7 * k + 4)) (xs (7 * k + 5)) 1).1)), (4, .int (nI (7 * k))), (0, .ref b), (1, .ref (ad 60)), (2, .ref (ad 0)), (3, .ref (ad 90))]) hx hb dL_law_774 hl (by decide) rfl (fun ls hl => ?_)
      have st := st_non hI (F := fun gm => fX7_pledge gm q (xs (7 * k + 1)) (xs (7 * k + 2)) (xs (7 * k + 3)) (xs (7 * k + 4)) (xs (7 * k + 5)) 1) (fun gm hg => o_pledge (q' := q) hg (xs (7 * k + 1)) (xs (7 * k + 2)) (xs (7 * k + 3)) (xs (7 * k + 4)) (xs (7 * k + 5)) 1) (fun gm => f7_pledge) h0
      try dsimp only at st
      refine lv_aload_n hx hb dL_law_776 rfl (lv_at hl 4 rfl) ?_
      refine lv_aload_n hx hb dL_law_777 rfl (lv_at hl 2 rfl) ?_
      refine lv_iload hx hb dL_law_778 (lv_at hl 1 rfl) ?_
      refine lv_iconst (v := 1) hx hb dL_law_780 (by decide) ?_
      refine lv_iadd hx hb dL_law_781 ?_
      refine sy_top (y := nI (7 * k + 1)) (nI_add _ _) ?_
      refine va_sld hx hb hX hbl hbA hS (vp_in_nI (show 7 * k + 1 < L by omega) (by omega)) dL_law_782 ?_
      refine sy_top (y := xs (7 * k + 1)) (by rw [nI_clamp (by omega)]) ?_
      refine lv_aload_n hx hb dL_law_783 rfl (lv_at hl 2 rfl) ?_
      refine lv_iload hx hb dL_law_784 (lv_at hl 1 rfl) ?_
      refine lv_iconst (v := 2) hx hb dL_law_786 (by decide) ?_
      refine lv_iadd hx hb dL_law_787 ?_
      refine sy_top (y := nI (7 * k + 2)) (nI_add _ _) ?_
      refine va_sld hx hb hX hbl hbA hS (vp_in_nI (show 7 * k + 2 < L by omega) (by omega)) dL_law_788 ?_
      refine sy_top (y := xs (7 * k + 2)) (by rw [nI_clamp (by omega)]) ?_
      refine lv_aload_n hx hb dL_law_789 rfl (lv_at hl 2 rfl) ?_
      refine lv_iload hx hb dL_law_790 (lv_at hl 1 rfl) ?_
      refine lv_iconst (v := 3) hx hb dL_law_792 (by decide) ?_
      refine lv_iadd hx hb dL_law_793 ?_
      refine sy_top (y := nI (7 * k + 3)) (nI_add _ _) ?_
      refine va_sld hx hb hX hbl hbA hS (vp_in_nI (show 7 * k + 3 < L by omega) (by omega)) dL_law_794 ?_
      refine sy_top (y := xs (7 * k + 3)) (by rw [nI_clamp (by omega)]) ?_
      refine lv_aload_n hx hb dL_law_795 rfl (lv_at hl 2 rfl) ?_
      refine lv_iload hx hb dL_law_796 (lv_at hl 1 rfl) ?_
      refine lv_iconst (v := 4) hx hb dL_law_798 (by decide) ?_
      refine lv_iadd hx hb dL_law_799 ?_
      refine sy_top (y := nI (7 * k + 4)) (nI_add _ _) ?_
      refine va_sld hx hb hX hbl hbA hS (vp_in_nI (show 7 * k + 4 < L by omega) (by omega)) dL_law_800 ?_
      refine sy_top (y := xs (7 * k + 4)) (by rw [nI_clamp (by omega)]) ?_
      refine lv_aload_n hx hb dL_law_801 rfl (lv_at hl 2 rfl) ?_
      refine lv_iload hx hb dL_law_802 (lv_at hl 1 rfl) ?_
      refine lv_iconst (v := 5) hx hb dL_law_804 (by decide) ?_
      refine lv_iadd hx hb dL_law_805 ?_
      refine sy_top (y := nI (7 * k + 5)) (nI_add _ _) ?_
      refine va_sld hx hb hX hbl hbA hS (vp_in_nI (show 7 * k + 5 < L by omega) (by omega)) dL_law_806 ?_
      refine sy_top (y := xs (7 * k + 5)) (by rw [nI_clamp (by omega)]) ?_
      refine lv_aload_n hx hb dL_law_807 rfl (lv_at hl 2 rfl) ?_
      refine lv_iload hx hb dL_law_808 (lv_at hl 1 rfl) ?_
      refine lv_bipush (v := 6) hx hb dL_law_810 (by decide) ?_
      refine lv_iadd hx hb dL_law_812 ?_
      refine sy_top (y := nI (7 * k + 6)) (nI_add _ _) ?_
      refine va_sld hx hb hX hbl hbA hS (vp_in_nI (show 7 * k + 6 < L by omega) (by omega)) dL_law_813 ?_
      refine sy_top (y := xs (7 * k + 6)) (by rw [nI_clamp (by omega)]) ?_
      refine lv_if_eq (tgt := 821) hx hb dL_law_814 (by decide) (fun c9 => absurd c9 hz) (fun _ => ?_)
      refine lv_iconst (v := 1) hx hb dL_law_817 (by decide) ?_
      refine lv_goto (tgt := 822) hx hb dL_law_818 (by decide) ?_
      refine sy_ki (sy_rV (o := 0) (As := [.int (xs (7 * k + 1)), .int (xs (7 * k + 2)), .int (xs (7 * k + 3)), .int (xs (7 * k + 4)), .int (xs (7 * k + 5)), .int 1]) (rest := []) ⟨hx, hb, hml, hown, hts⟩ hE hP hS (mX7_pledge l hfl Z nT nK cT cK ad g q (xs (7 * k + 1)) (xs (7 * k + 2)) (xs (7 * k + 3)) (xs (7 * k + 4)) (xs (7 * k + 5)) 1 hI.2.1 (by decide)) (cwV 6 hts (gl_V uk_5_144 uk_5_145 uk_5_146 uk_1_9 uk_5_147) rfl rfl rfl (by decide +kernel) ⟨Nat.le_of_ble_eq_true rfl, Nat.le_of_ble_eq_true rfl⟩) (sy_recv (kc := 8) hE hP rfl (by decide) rfl rfl rfl) rfl hl.1 rfl (Nat.le_of_ble_eq_true rfl) dL_law_822 ⟨by show _ ≤ 601024; (try dsimp only); omega, by show _ ≤ 7293034; (try dsimp only); omega⟩) hS (fun b2 g2 q2 H locs e2 hP hS => ?_)
      obtain ⟨rfl, rfl, rfl⟩ : (fX7_pledge g q (xs (7 * k + 1)) (xs (7 * k + 2)) (xs (7 * k + 3)) (xs (7 * k + 4)) (xs (7 * k + 5)) 1).1 = b2 ∧ (fX7_pledge g q (xs (7 * k + 1)) (xs (7 * k + 2)) (xs (7 * k + 3)) (xs (7 * k + 4)) (xs (7 * k + 5)) 1).2 = g2 ∧ q = q2 := by cases e2; exact ⟨rfl, rfl, rfl⟩
      refine lv_istore (lv' := [(6, .int (fX7_pledge g q (xs (7 * k + 1)) (xs (7 * k + 2)) (xs (7 * k + 3)) (xs (7 * k + 4)) (xs (7 * k + 5)) 1).1), (5, .int (wf 1 2 3 (fX6_pledge g q nK (xs (7 * k + 1)) (xs (7 * k + 2)) (xs (7 * k + 3)) (xs (7 * k + 4)) (xs (7 * k + 5)) 1).1)), (4, .int (nI (7 * k))), (0, .ref b), (1, .ref (ad 60)), (2, .ref (ad 0)), (3, .ref (ad 90))]) hx hb dL_law_825 hl (by decide) rfl (fun ls hl => ?_)
      refine lv_aload_n hx hb dL_law_827 rfl (lv_at hl 5 rfl) ?_
      refine sy_ki (sy_rV (o := 0) (As := []) (rest := []) ⟨hx, hb, hml, hown, hts⟩ hE hP hS (mX7_thrown l hfl Z nT nK cT cK ad (fX7_pledge g q (xs (7 * k + 1)) (xs (7 * k + 2)) (xs (7 * k + 3)) (xs (7 * k + 4)) (xs (7 * k + 5)) 1).2 q) (cwV 0 hts (gl_V uk_5_93 uk_5_94 uk_5_95 uk_1_9 uk_5_96) rfl rfl rfl (by decide +kernel) ⟨Nat.le_of_ble_eq_true rfl, Nat.le_of_ble_eq_true rfl⟩) (sy_recv (kc := 8) hE hP rfl (by decide) rfl rfl rfl) rfl hl.1 rfl (Nat.le_of_ble_eq_true rfl) dL_law_828 ⟨by show _ ≤ 601024; (try dsimp only); omega, by show _ ≤ 7293034; (try dsimp only); omega⟩) hS (fun b3 g3 q3 H locs e3 hP hS => ?_)
      obtain ⟨rfl, rfl, rfl⟩ : (fX7_pledge g q (xs (7 * k + 1)) (xs (7 * k + 2)) (xs (7 * k + 3)) (xs (7 * k + 4)) (xs (7 * k + 5)) 1).2 0 0 = b3 ∧ (fX7_pledge g q (xs (7 * k + 1)) (xs (7 * k + 2)) (xs (7 * k + 3)) (xs (7 * k + 4)) (xs (7 * k + 5)) 1).2 = g3 ∧ q = q3 := by cases e3; exact ⟨rfl, rfl, rfl⟩
      refine sy_top (y := (wf 1 2 3 (fX6_pledge g q nK (xs (7 * k + 1)) (xs (7 * k + 2)) (xs (7 * k + 3)) (xs (7 * k + 4)) (xs (7 * k + 5)) 1).1)) st.1 ?_
      refine lv_iload hx hb dL_law_831 (lv_at hl 1 rfl) ?_
      refine lv_icmp_eq (tgt := 838) hx hb dL_law_833 (by decide) (fun _ => ?_) (fun c9 => absurd rfl c9)
      refine lv_iload hx hb dL_law_838 (lv_at hl 1 rfl) ?_
      refine lv_if_ne (tgt := 855) hx hb dL_law_840 (by decide) (fun _ => ?_) (fun c9 => absurd c9 ((wf_ne h0 hCode).resolve_right (by decide)))
      refine lv_goto (tgt := 2272) hx hb dL_law_855 (by decide) ?_
      refine W.widen (k := 100 + 16 * (k + 1)) (n := 4000 + 200 * (k + 1)) (by (try dsimp only); omega) (by (try dsimp only); omega) ?_
      exact hJ _ _ _ _ _ _ _ _ _ _ ⟨hP, by rw [Nat.succ_mul]; exact st.2.2, h70, h71, hS, lv_sub hl [2, 3, 4, 5, 6] rfl⟩
set_option maxHeartbeats 8000000 in
set_option maxRecDepth 100000 in
theorem lc_redeem (hC : lCtx p l s m meth c b L xs Z) {k : Nat} (hk : 7 * k + 7 ≤ L) (hL : L ≤ 3584) (hJ : ∀ (nT nK cT cK : Nat) (ad : Nat → Nat) (g : sG) (q : sQ) (H : Heap) (locs : List Loc) (ls : Array Slot), lSt Z s b k (k + 1) nT nK cT cK ad g q H locs ls → W p l e room_1 s m #[Value.ref b] below meth c H locs (100 + 16 * (k + 1)) (4000 + 200 * (k + 1)) (lw_Z below #[Value.ref b] s) (F0 m 2272 ls []))
    {nT nK cT cK : Nat} {ad : Nat → Nat} {g : sG} {q : sQ} {H : Heap} {locs : List Loc} {ls : Array Slot} (h : lSt Z s b k k nT nK cT cK ad g q H locs ls) : W p l e room_1 s m #[Value.ref b] below meth c H locs (100 + 16 * k) (4000 + 200 * k) (lw_Z below #[Value.ref b] s) (F0 m 858 ls []) := by
  obtain ⟨hx, hb, hr, hml, hown, hts, hX, hbl, hlocks, hZ, hE, hNc, hfl⟩ := hC
  obtain ⟨hP, hI, h70, h71, hS, hl⟩ := h
  have hbA : ¬ sy_A Z b := fun z => absurd (show Z.2.2.1 ≤ b from z) (by omega)
  have hkB : k * oB ≤ 2048000000 := by
    have : k ≤ 511 := by omega
    calc k * oB ≤ 511 * 4000000 := Nat.mul_le_mul this (Nat.le_refl _)
      _ ≤ 2048000000 := by decide
  refine lv_aload_n hx hb dL_law_858 rfl (lv_at hl 2 rfl) ?_
  refine lv_aload_n hx hb dL_law_859 rfl (lv_at hl 1 rfl) ?_
  refine lv_iload hx hb dL_law_860 (lv_at hl 0 rfl) ?_
  refine lv_iconst (v := 1) hx hb dL_law_862 (by decide) ?_
  refine lv_iadd hx hb dL_law_863 ?_
  refine sy_top (y := nI (7 * k + 1)) (nI_add _ _) ?_
  refine va_sld hx hb hX hbl hbA hS (vp_in_nI (show 7 * k + 1 < L by omega) (by omega)) dL_law_864 ?_
  refine sy_top (y := xs (7 * k + 1)) (by rw [nI_clamp (by omega)]) ?_
  refine lv_aload_n hx hb dL_law_865 rfl (lv_at hl 1 rfl) ?_
  refine lv_iload hx hb dL_law_866 (lv_at hl 0 rfl) ?_
  refine lv_iconst (v := 2) hx hb dL_law_868 (by decide) ?_
  refine lv_iadd hx hb dL_law_869 ?_
  refine sy_top (y := nI (7 * k + 2)) (nI_add _ _) ?_
  refine va_sld hx hb hX hbl hbA hS (vp_in_nI (show 7 * k + 2 < L by omega) (by omega)) dL_law_870 ?_
  refine sy_top (y := xs (7 * k + 2)) (by rw [nI_clamp (by omega)]) ?_
  refine lv_aload_n hx hb dL_law_871 rfl (lv_at hl 4 rfl) ?_
  have hCode : wf 1 9 2 (fX6_redeem g q (xs (7 * k + 1)) (xs (7 * k + 2))).1 ≠ 9 := (by
        by_cases z : (fX6_redeem g q (xs (7 * k + 1)) (xs (7 * k + 2))).1 = 0
        · rw [z]; exact (by decide : (0 : Int32) ≠ 9)
        · exact (st_no hI (fun gm hg => o_redeem (q' := (fX6_redeem g q (xs (7 * k + 1)) (xs (7 * k + 2))).2.2.2) hg (xs (7 * k + 1)) (xs (7 * k + 2))) n6_redeem (fun gm => f7_redeem) z).2.1)
  refine va_calli (vx_runSW (As := [.ref (ad 60), .int (xs (7 * k + 1)), .int (xs (7 * k + 2)), .ref (ad 90)]) (rest := []) ⟨hx, hb, hml, hown, hts⟩ (mL_redeem l hfl Z nT nK cT cK ad g q (xs (7 * k + 1)) (xs (7 * k + 2)) (by have := inv_T hI; omega) (inv_IG hI) (inv_IQ hI) hCode) (vx_cwSW 4 hts (gl_S uk_3_160 uk_3_161 uk_1_0 uk_3_162) rfl rfl rfl (by decide +kernel) ⟨Nat.le_of_ble_eq_true rfl, Nat.le_of_ble_eq_true rfl⟩) ⟨sPreL_blind _, fun U hU hW => ⟨rfl, ⟨hE.next hS hU hW.alike, by rw [hU]; exact hP⟩, hNc.next hW.alike⟩⟩ rfl rfl hl.1 rfl (lv_room (Nat.le_of_ble_eq_true rfl)) dL_law_872 ⟨by show _ ≤ 601024; (try dsimp only); omega, by show _ ≤ 7293034; (try dsimp only); omega⟩) hS (fun _ _ h => h) (fun _ h => h) (fun r u t H locs ht _ hp hB _ _ hS => ?_)
  obtain ⟨g1, q1⟩ := u
  have hP := hB.2
  rw [ht] at hP
  dsimp only at hp hP
  rcases hp with ⟨h0, rfl, rfl, rfl⟩ | ⟨h0, rfl, hg9, hq9⟩
  · refine lv_istore (lv' := [(5, .int 0), (4, .int (nI (7 * k))), (0, .ref b), (1, .ref (ad 60)), (2, .ref (ad 0)), (3, .ref (ad 90))]) hx hb dL_law_875 hl (by decide) rfl (fun ls hl => ?_)
    have st := st_yes hI (F := fun gm => fX7_redeem gm (fX6_redeem g q (xs (7 * k + 1)) (xs (7 * k + 2))).2.2.2 (xs (7 * k + 1)) (xs (7 * k + 2))) (fun gm hg => o_redeem (q' := (fX6_redeem g q (xs (7 * k + 1)) (xs (7 * k + 2))).2.2.2) hg (xs (7 * k + 1)) (xs (7 * k + 2))) f6_redeem (fun gm => f7_redeem) h0
    try dsimp only at st
    refine lv_aload_n hx hb dL_law_877 rfl (lv_at hl 4 rfl) ?_
    refine lv_aload_n hx hb dL_law_878 rfl (lv_at hl 2 rfl) ?_
    refine lv_iload hx hb dL_law_879 (lv_at hl 1 rfl) ?_
    refine lv_iconst (v := 1) hx hb dL_law_881 (by decide) ?_
    refine lv_iadd hx hb dL_law_882 ?_
    refine sy_top (y := nI (7 * k + 1)) (nI_add _ _) ?_
    refine va_sld hx hb hX hbl hbA hS (vp_in_nI (show 7 * k + 1 < L by omega) (by omega)) dL_law_883 ?_
    refine sy_top (y := xs (7 * k + 1)) (by rw [nI_clamp (by omega)]) ?_
    refine lv_aload_n hx hb dL_law_884 rfl (lv_at hl 2 rfl) ?_
    refine lv_iload hx hb dL_law_885 (lv_at hl 1 rfl) ?_
    refine lv_iconst (v := 2) hx hb dL_law_887 (by decide) ?_
    refine lv_iadd hx hb dL_law_888 ?_
    refine sy_top (y := nI (7 * k + 2)) (nI_add _ _) ?_
    refine va_sld hx hb hX hbl hbA hS (vp_in_nI (show 7 * k + 2 < L by omega) (by omega)) dL_law_889 ?_
    refine sy_top (y := xs (7 * k + 2)) (by rw [nI_clamp (by omega)]) ?_
    refine sy_ki (sy_rV (o := 0) (As := [.int (xs (7 * k + 1)), .int (xs (7 * k + 2))]) (rest := []) ⟨hx, hb, hml, hown, hts⟩ hE hP hS (mX7_redeem l hfl Z nT nK cT cK ad (sy_up (fX6_redeem g q (xs (7 * k + 1)) (xs (7 * k + 2))).2.2.1 90 0 (fX6_redeem g q (xs (7 * k + 1)) (xs (7 * k + 2))).2.1) (fX6_redeem g q (xs (7 * k + 1)) (xs (7 * k + 2))).2.2.2 (xs (7 * k + 1)) (xs (7 * k + 2)) st.1.2.1) (cwV 2 hts (gl_V uk_5_168 uk_5_169 uk_5_170 uk_1_9 uk_5_171) rfl rfl rfl (by decide +kernel) ⟨Nat.le_of_ble_eq_true rfl, Nat.le_of_ble_eq_true rfl⟩) (sy_recv (kc := 8) hE hP rfl (by decide) rfl rfl rfl) rfl hl.1 rfl (Nat.le_of_ble_eq_true rfl) dL_law_890 ⟨by show _ ≤ 601024; (try dsimp only); omega, by show _ ≤ 7293034; (try dsimp only); omega⟩) hS (fun b2 g2 q2 H locs e2 hP hS => ?_)
    obtain ⟨rfl, rfl, rfl⟩ : (fX7_redeem (sy_up (fX6_redeem g q (xs (7 * k + 1)) (xs (7 * k + 2))).2.2.1 90 0 (fX6_redeem g q (xs (7 * k + 1)) (xs (7 * k + 2))).2.1) (fX6_redeem g q (xs (7 * k + 1)) (xs (7 * k + 2))).2.2.2 (xs (7 * k + 1)) (xs (7 * k + 2))).1 = b2 ∧ (fX7_redeem (sy_up (fX6_redeem g q (xs (7 * k + 1)) (xs (7 * k + 2))).2.2.1 90 0 (fX6_redeem g q (xs (7 * k + 1)) (xs (7 * k + 2))).2.1) (fX6_redeem g q (xs (7 * k + 1)) (xs (7 * k + 2))).2.2.2 (xs (7 * k + 1)) (xs (7 * k + 2))).2 = g2 ∧ (fX6_redeem g q (xs (7 * k + 1)) (xs (7 * k + 2))).2.2.2 = q2 := by cases e2; exact ⟨rfl, rfl, rfl⟩
    refine lv_istore (lv' := [(6, .int (fX7_redeem (sy_up (fX6_redeem g q (xs (7 * k + 1)) (xs (7 * k + 2))).2.2.1 90 0 (fX6_redeem g q (xs (7 * k + 1)) (xs (7 * k + 2))).2.1) (fX6_redeem g q (xs (7 * k + 1)) (xs (7 * k + 2))).2.2.2 (xs (7 * k + 1)) (xs (7 * k + 2))).1), (5, .int 0), (4, .int (nI (7 * k))), (0, .ref b), (1, .ref (ad 60)), (2, .ref (ad 0)), (3, .ref (ad 90))]) hx hb dL_law_893 hl (by decide) rfl (fun ls hl => ?_)
    refine lv_aload_n hx hb dL_law_895 rfl (lv_at hl 5 rfl) ?_
    refine sy_ki (sy_rV (o := 0) (As := []) (rest := []) ⟨hx, hb, hml, hown, hts⟩ hE hP hS (mX7_thrown l hfl Z nT nK cT cK ad (fX7_redeem (sy_up (fX6_redeem g q (xs (7 * k + 1)) (xs (7 * k + 2))).2.2.1 90 0 (fX6_redeem g q (xs (7 * k + 1)) (xs (7 * k + 2))).2.1) (fX6_redeem g q (xs (7 * k + 1)) (xs (7 * k + 2))).2.2.2 (xs (7 * k + 1)) (xs (7 * k + 2))).2 (fX6_redeem g q (xs (7 * k + 1)) (xs (7 * k + 2))).2.2.2) (cwV 0 hts (gl_V uk_5_93 uk_5_94 uk_5_95 uk_1_9 uk_5_96) rfl rfl rfl (by decide +kernel) ⟨Nat.le_of_ble_eq_true rfl, Nat.le_of_ble_eq_true rfl⟩) (sy_recv (kc := 8) hE hP rfl (by decide) rfl rfl rfl) rfl hl.1 rfl (Nat.le_of_ble_eq_true rfl) dL_law_896 ⟨by show _ ≤ 601024; (try dsimp only); omega, by show _ ≤ 7293034; (try dsimp only); omega⟩) hS (fun b3 g3 q3 H locs e3 hP hS => ?_)
    obtain ⟨rfl, rfl, rfl⟩ : (fX7_redeem (sy_up (fX6_redeem g q (xs (7 * k + 1)) (xs (7 * k + 2))).2.2.1 90 0 (fX6_redeem g q (xs (7 * k + 1)) (xs (7 * k + 2))).2.1) (fX6_redeem g q (xs (7 * k + 1)) (xs (7 * k + 2))).2.2.2 (xs (7 * k + 1)) (xs (7 * k + 2))).2 0 0 = b3 ∧ (fX7_redeem (sy_up (fX6_redeem g q (xs (7 * k + 1)) (xs (7 * k + 2))).2.2.1 90 0 (fX6_redeem g q (xs (7 * k + 1)) (xs (7 * k + 2))).2.1) (fX6_redeem g q (xs (7 * k + 1)) (xs (7 * k + 2))).2.2.2 (xs (7 * k + 1)) (xs (7 * k + 2))).2 = g3 ∧ (fX6_redeem g q (xs (7 * k + 1)) (xs (7 * k + 2))).2.2.2 = q3 := by cases e3; exact ⟨rfl, rfl, rfl⟩
    refine sy_top (y := 0) st.2.1 ?_
    refine lv_iload hx hb dL_law_899 (lv_at hl 1 rfl) ?_
    refine lv_icmp_eq (tgt := 906) hx hb dL_law_901 (by decide) (fun _ => ?_) (fun c9 => absurd rfl c9)
    refine lv_iload hx hb dL_law_906 (lv_at hl 1 rfl) ?_
    refine lv_if_ne (tgt := 923) hx hb dL_law_908 (by decide) (fun c9 => absurd rfl c9) (fun _ => ?_)
    refine lv_aload_n hx hb dL_law_911 rfl (lv_at hl 6 rfl) ?_
    refine lv_iconst (v := 0) hx hb dL_law_912 (by decide) ?_
    refine sy_lald hx hb hE hP 90 rfl (i := 0) (k_in rfl) dL_law_913 ?_
    refine lv_iload hx hb dL_law_914 (lv_at hl 0 rfl) ?_
    refine lv_i2l (v := ((fX7_redeem (sy_up (fX6_redeem g q (xs (7 * k + 1)) (xs (7 * k + 2))).2.2.1 90 0 (fX6_redeem g q (xs (7 * k + 1)) (xs (7 * k + 2))).2.1) (fX6_redeem g q (xs (7 * k + 1)) (xs (7 * k + 2))).2.2.2 (xs (7 * k + 1)) (xs (7 * k + 2))).2 90 0).toInt64) hx hb dL_law_916 (by rw [st.2.2.2.1, st.2.2.1]) ?_
    refine lv_lcmp0 hx hb dL_law_917 ?_
    refine lv_if_eq (tgt := 923) hx hb dL_law_918 (by decide) (fun _ => ?_) (fun c9 => absurd rfl c9)
    refine lv_goto (tgt := 2272) hx hb dL_law_923 (by decide) ?_
    refine W.widen (k := 100 + 16 * (k + 1)) (n := 4000 + 200 * (k + 1)) (by (try dsimp only); omega) (by (try dsimp only); omega) ?_
    exact hJ _ _ _ _ _ _ _ _ _ _ ⟨hP, by rw [Nat.succ_mul]; exact st.2.2.2.2, h70, h71, hS, lv_sub hl [2, 3, 4, 5, 6] rfl⟩
  · replace hg9 := hg9.symm
    replace hq9 := hq9.symm
    subst hg9
    subst hq9
    refine lv_istore (lv' := [(5, .int (wf 1 9 2 (fX6_redeem g q (xs (7 * k + 1)) (xs (7 * k + 2))).1)), (4, .int (nI (7 * k))), (0, .ref b), (1, .ref (ad 60)), (2, .ref (ad 0)), (3, .ref (ad 90))]) hx hb dL_law_875 hl (by decide) rfl (fun ls hl => ?_)
    have st := st_no hI (F := fun gm => fX7_redeem gm q (xs (7 * k + 1)) (xs (7 * k + 2))) (fun gm hg => o_redeem (q' := q) hg (xs (7 * k + 1)) (xs (7 * k + 2))) n6_redeem (fun gm => f7_redeem) h0
    try dsimp only at st
    refine lv_aload_n hx hb dL_law_877 rfl (lv_at hl 4 rfl) ?_
    refine lv_aload_n hx hb dL_law_878 rfl (lv_at hl 2 rfl) ?_
    refine lv_iload hx hb dL_law_879 (lv_at hl 1 rfl) ?_
    refine lv_iconst (v := 1) hx hb dL_law_881 (by decide) ?_
    refine lv_iadd hx hb dL_law_882 ?_
    refine sy_top (y := nI (7 * k + 1)) (nI_add _ _) ?_
    refine va_sld hx hb hX hbl hbA hS (vp_in_nI (show 7 * k + 1 < L by omega) (by omega)) dL_law_883 ?_
    refine sy_top (y := xs (7 * k + 1)) (by rw [nI_clamp (by omega)]) ?_
    refine lv_aload_n hx hb dL_law_884 rfl (lv_at hl 2 rfl) ?_
    refine lv_iload hx hb dL_law_885 (lv_at hl 1 rfl) ?_
    refine lv_iconst (v := 2) hx hb dL_law_887 (by decide) ?_
    refine lv_iadd hx hb dL_law_888 ?_
    refine sy_top (y := nI (7 * k + 2)) (nI_add _ _) ?_
    refine va_sld hx hb hX hbl hbA hS (vp_in_nI (show 7 * k + 2 < L by omega) (by omega)) dL_law_889 ?_
    refine sy_top (y := xs (7 * k + 2)) (by rw [nI_clamp (by omega)]) ?_
    refine sy_ki (sy_rV (o := 0) (As := [.int (xs (7 * k + 1)), .int (xs (7 * k + 2))]) (rest := []) ⟨hx, hb, hml, hown, hts⟩ hE hP hS (mX7_redeem l hfl Z nT nK cT cK ad g q (xs (7 * k + 1)) (xs (7 * k + 2)) hI.2.1) (cwV 2 hts (gl_V uk_5_168 uk_5_169 uk_5_170 uk_1_9 uk_5_171) rfl rfl rfl (by decide +kernel) ⟨Nat.le_of_ble_eq_true rfl, Nat.le_of_ble_eq_true rfl⟩) (sy_recv (kc := 8) hE hP rfl (by decide) rfl rfl rfl) rfl hl.1 rfl (Nat.le_of_ble_eq_true rfl) dL_law_890 ⟨by show _ ≤ 601024; (try dsimp only); omega, by show _ ≤ 7293034; (try dsimp only); omega⟩) hS (fun b2 g2 q2 H locs e2 hP hS => ?_)
    obtain ⟨rfl, rfl, rfl⟩ : (fX7_redeem g q (xs (7 * k + 1)) (xs (7 * k + 2))).1 = b2 ∧ (fX7_redeem g q (xs (7 * k + 1)) (xs (7 * k + 2))).2 = g2 ∧ q = q2 := by cases e2; exact ⟨rfl, rfl, rfl⟩
    refine lv_istore (lv' := [(6, .int (fX7_redeem g q (xs (7 * k + 1)) (xs (7 * k + 2))).1), (5, .int (wf 1 9 2 (fX6_redeem g q (xs (7 * k + 1)) (xs (7 * k + 2))).1)), (4, .int (nI (7 * k))), (0, .ref b), (1, .ref (ad 60)), (2, .ref (ad 0)), (3, .ref (ad 90))]) hx hb dL_law_893 hl (by decide) rfl (fun ls hl => ?_)
    refine lv_aload_n hx hb dL_law_895 rfl (lv_at hl 5 rfl) ?_
    refine sy_ki (sy_rV (o := 0) (As := []) (rest := []) ⟨hx, hb, hml, hown, hts⟩ hE hP hS (mX7_thrown l hfl Z nT nK cT cK ad (fX7_redeem g q (xs (7 * k + 1)) (xs (7 * k + 2))).2 q) (cwV 0 hts (gl_V uk_5_93 uk_5_94 uk_5_95 uk_1_9 uk_5_96) rfl rfl rfl (by decide +kernel) ⟨Nat.le_of_ble_eq_true rfl, Nat.le_of_ble_eq_true rfl⟩) (sy_recv (kc := 8) hE hP rfl (by decide) rfl rfl rfl) rfl hl.1 rfl (Nat.le_of_ble_eq_true rfl) dL_law_896 ⟨by show _ ≤ 601024; (try dsimp only); omega, by show _ ≤ 7293034; (try dsimp only); omega⟩) hS (fun b3 g3 q3 H locs e3 hP hS => ?_)
    obtain ⟨rfl, rfl, rfl⟩ : (fX7_redeem g q (xs (7 * k + 1)) (xs (7 * k + 2))).2 0 0 = b3 ∧ (fX7_redeem g q (xs (7 * k + 1)) (xs (7 * k + 2))).2 = g3 ∧ q = q3 := by cases e3; exact ⟨rfl, rfl, rfl⟩
    refine sy_top (y := (wf 1 9 2 (fX6_redeem g q (xs (7 * k + 1)) (xs (7 * k + 2))).1)) st.1 ?_
    refine lv_iload hx hb dL_law_899 (lv_at hl 1 rfl) ?_
    refine lv_icmp_eq (tgt := 906) hx hb dL_law_901 (by decide) (fun _ => ?_) (fun c9 => absurd rfl c9)
    refine lv_iload hx hb dL_law_906 (lv_at hl 1 rfl) ?_
    refine lv_if_ne (tgt := 923) hx hb dL_law_908 (by decide) (fun _ => ?_) (fun c9 => absurd c9 ((wf_ne h0 hCode).resolve_right (by decide)))
    refine lv_goto (tgt := 2272) hx hb dL_law_923 (by decide) ?_
    refine W.widen (k := 100 + 16 * (k + 1)) (n := 4000 + 200 * (k + 1)) (by (try dsimp only); omega) (by (try dsimp only); omega) ?_
    exact hJ _ _ _ _ _ _ _ _ _ _ ⟨hP, by rw [Nat.succ_mul]; exact st.2.2, h70, h71, hS, lv_sub hl [2, 3, 4, 5, 6] rfl⟩
set_option maxHeartbeats 8000000 in
set_option maxRecDepth 100000 in
theorem lc_renew (hC : lCtx p l s m meth c b L xs Z) {k : Nat} (hk : 7 * k + 7 ≤ L) (hL : L ≤ 3584) (hJ : ∀ (nT nK cT cK : Nat) (ad : Nat → Nat) (g : sG) (q : sQ) (H : Heap) (locs : List Loc) (ls : Array Slot), lSt Z s b k (k + 1) nT nK cT cK ad g q H locs ls → W p l e room_1 s m #[Value.ref b] below meth c H locs (100 + 16 * (k + 1)) (4000 + 200 * (k + 1)) (lw_Z below #[Value.ref b] s) (F0 m 2272 ls []))
    {nT nK cT cK : Nat} {ad : Nat → Nat} {g : sG} {q : sQ} {H : Heap} {locs : List Loc} {ls : Array Slot} (h : lSt Z s b k k nT nK cT cK ad g q H locs ls) : W p l e room_1 s m #[Value.ref b] below meth c H locs (100 + 16 * k) (4000 + 200 * k) (lw_Z below #[Value.ref b] s) (F0 m 926 ls []) := by
  obtain ⟨hx, hb, hr, hml, hown, hts, hX, hbl, hlocks, hZ, hE, hNc, hfl⟩ := hC
  obtain ⟨hP, hI, h70, h71, hS, hl⟩ := h
  have hbA : ¬ sy_A Z b := fun z => absurd (show Z.2.2.1 ≤ b from z) (by omega)
  have hkB : k * oB ≤ 2048000000 := by
    have : k ≤ 511 := by omega
    calc k * oB ≤ 511 * 4000000 := Nat.mul_le_mul this (Nat.le_refl _)
      _ ≤ 2048000000 := by decide
  refine lv_aload_n hx hb dL_law_926 rfl (lv_at hl 2 rfl) ?_
  refine lv_aload_n hx hb dL_law_927 rfl (lv_at hl 1 rfl) ?_
  refine lv_iload hx hb dL_law_928 (lv_at hl 0 rfl) ?_
  refine lv_iconst (v := 1) hx hb dL_law_930 (by decide) ?_
  refine lv_iadd hx hb dL_law_931 ?_
  refine sy_top (y := nI (7 * k + 1)) (nI_add _ _) ?_
  refine va_sld hx hb hX hbl hbA hS (vp_in_nI (show 7 * k + 1 < L by omega) (by omega)) dL_law_932 ?_
  refine sy_top (y := xs (7 * k + 1)) (by rw [nI_clamp (by omega)]) ?_
  refine lv_aload_n hx hb dL_law_933 rfl (lv_at hl 1 rfl) ?_
  refine lv_iload hx hb dL_law_934 (lv_at hl 0 rfl) ?_
  refine lv_iconst (v := 2) hx hb dL_law_936 (by decide) ?_
  refine lv_iadd hx hb dL_law_937 ?_
  refine sy_top (y := nI (7 * k + 2)) (nI_add _ _) ?_
  refine va_sld hx hb hX hbl hbA hS (vp_in_nI (show 7 * k + 2 < L by omega) (by omega)) dL_law_938 ?_
  refine sy_top (y := xs (7 * k + 2)) (by rw [nI_clamp (by omega)]) ?_
  refine lv_aload_n hx hb dL_law_939 rfl (lv_at hl 1 rfl) ?_
  refine lv_iload hx hb dL_law_940 (lv_at hl 0 rfl) ?_
  refine lv_iconst (v := 3) hx hb dL_law_942 (by decide) ?_
  refine lv_iadd hx hb dL_law_943 ?_
  refine sy_top (y := nI (7 * k + 3)) (nI_add _ _) ?_
  refine va_sld hx hb hX hbl hbA hS (vp_in_nI (show 7 * k + 3 < L by omega) (by omega)) dL_law_944 ?_
  refine sy_top (y := xs (7 * k + 3)) (by rw [nI_clamp (by omega)]) ?_
  refine lv_aload_n hx hb dL_law_945 rfl (lv_at hl 4 rfl) ?_
  have hCode : wf 1 2 3 (fX6_renew g q (xs (7 * k + 1)) (xs (7 * k + 2)) (xs (7 * k + 3))).1 ≠ 9 := (by
        by_cases z : (fX6_renew g q (xs (7 * k + 1)) (xs (7 * k + 2)) (xs (7 * k + 3))).1 = 0
        · rw [z]; exact (by decide : (0 : Int32) ≠ 9)
        · exact (st_no hI (fun gm hg => o_renew (q' := (fX6_renew g q (xs (7 * k + 1)) (xs (7 * k + 2)) (xs (7 * k + 3))).2.2.2) hg (xs (7 * k + 1)) (xs (7 * k + 2)) (xs (7 * k + 3))) n6_renew (fun gm => f7_renew) z).2.1)
  refine va_calli (vx_runSW (As := [.ref (ad 60), .int (xs (7 * k + 1)), .int (xs (7 * k + 2)), .int (xs (7 * k + 3)), .ref (ad 90)]) (rest := []) ⟨hx, hb, hml, hown, hts⟩ (mL_renew l hfl Z nT nK cT cK ad g q (xs (7 * k + 1)) (xs (7 * k + 2)) (xs (7 * k + 3)) (by have := inv_T hI; omega) (inv_IG hI) (inv_IQ hI) hCode) (vx_cwSW 5 hts (gl_S uk_3_215 uk_3_216 uk_1_0 uk_3_217) rfl rfl rfl (by decide +kernel) ⟨Nat.le_of_ble_eq_true rfl, Nat.le_of_ble_eq_true rfl⟩) ⟨sPreL_blind _, fun U hU hW => ⟨rfl, ⟨hE.next hS hU hW.alike, by rw [hU]; exact hP⟩, hNc.next hW.alike⟩⟩ rfl rfl hl.1 rfl (lv_room (Nat.le_of_ble_eq_true rfl)) dL_law_946 ⟨by show _ ≤ 601024; (try dsimp only); omega, by show _ ≤ 7293034; (try dsimp only); omega⟩) hS (fun _ _ h => h) (fun _ h => h) (fun r u t H locs ht _ hp hB _ _ hS => ?_)
  obtain ⟨g1, q1⟩ := u
  have hP := hB.2
  rw [ht] at hP
  dsimp only at hp hP
  rcases hp with ⟨h0, rfl, rfl, rfl⟩ | ⟨h0, rfl, hg9, hq9⟩
  · refine lv_istore (lv' := [(5, .int 0), (4, .int (nI (7 * k))), (0, .ref b), (1, .ref (ad 60)), (2, .ref (ad 0)), (3, .ref (ad 90))]) hx hb dL_law_949 hl (by decide) rfl (fun ls hl => ?_)
    have st := st_yes hI (F := fun gm => fX7_renew gm (fX6_renew g q (xs (7 * k + 1)) (xs (7 * k + 2)) (xs (7 * k + 3))).2.2.2 (xs (7 * k + 1)) (xs (7 * k + 2)) (xs (7 * k + 3))) (fun gm hg => o_renew (q' := (fX6_renew g q (xs (7 * k + 1)) (xs (7 * k + 2)) (xs (7 * k + 3))).2.2.2) hg (xs (7 * k + 1)) (xs (7 * k + 2)) (xs (7 * k + 3))) f6_renew (fun gm => f7_renew) h0
    try dsimp only at st
    refine lv_aload_n hx hb dL_law_951 rfl (lv_at hl 4 rfl) ?_
    refine lv_aload_n hx hb dL_law_952 rfl (lv_at hl 2 rfl) ?_
    refine lv_iload hx hb dL_law_953 (lv_at hl 1 rfl) ?_
    refine lv_iconst (v := 1) hx hb dL_law_955 (by decide) ?_
    refine lv_iadd hx hb dL_law_956 ?_
    refine sy_top (y := nI (7 * k + 1)) (nI_add _ _) ?_
    refine va_sld hx hb hX hbl hbA hS (vp_in_nI (show 7 * k + 1 < L by omega) (by omega)) dL_law_957 ?_
    refine sy_top (y := xs (7 * k + 1)) (by rw [nI_clamp (by omega)]) ?_
    refine lv_aload_n hx hb dL_law_958 rfl (lv_at hl 2 rfl) ?_
    refine lv_iload hx hb dL_law_959 (lv_at hl 1 rfl) ?_
    refine lv_iconst (v := 2) hx hb dL_law_961 (by decide) ?_
    refine lv_iadd hx hb dL_law_962 ?_
    refine sy_top (y := nI (7 * k + 2)) (nI_add _ _) ?_
    refine va_sld hx hb hX hbl hbA hS (vp_in_nI (show 7 * k + 2 < L by omega) (by omega)) dL_law_963 ?_
    refine sy_top (y := xs (7 * k + 2)) (by rw [nI_clamp (by omega)]) ?_
    refine lv_aload_n hx hb dL_law_964 rfl (lv_at hl 2 rfl) ?_
    refine lv_iload hx hb dL_law_965 (lv_at hl 1 rfl) ?_
    refine lv_iconst (v := 3) hx hb dL_law_967 (by decide) ?_
    refine lv_iadd hx hb dL_law_968 ?_
    refine sy_top (y := nI (7 * k + 3)) (nI_add _ _) ?_
    refine va_sld hx hb hX hbl hbA hS (vp_in_nI (show 7 * k + 3 < L by omega) (by omega)) dL_law_969 ?_
    refine sy_top (y := xs (7 * k + 3)) (by rw [nI_clamp (by omega)]) ?_
    refine sy_ki (sy_rV (o := 0) (As := [.int (xs (7 * k + 1)), .int (xs (7 * k + 2)), .int (xs (7 * k + 3))]) (rest := []) ⟨hx, hb, hml, hown, hts⟩ hE hP hS (mX7_renew l hfl Z nT nK cT cK ad (sy_up (fX6_renew g q (xs (7 * k + 1)) (xs (7 * k + 2)) (xs (7 * k + 3))).2.2.1 90 0 (fX6_renew g q (xs (7 * k + 1)) (xs (7 * k + 2)) (xs (7 * k + 3))).2.1) (fX6_renew g q (xs (7 * k + 1)) (xs (7 * k + 2)) (xs (7 * k + 3))).2.2.2 (xs (7 * k + 1)) (xs (7 * k + 2)) (xs (7 * k + 3)) st.1.2.1) (cwV 3 hts (gl_V uk_5_192 uk_5_193 uk_5_194 uk_1_9 uk_5_195) rfl rfl rfl (by decide +kernel) ⟨Nat.le_of_ble_eq_true rfl, Nat.le_of_ble_eq_true rfl⟩) (sy_recv (kc := 8) hE hP rfl (by decide) rfl rfl rfl) rfl hl.1 rfl (Nat.le_of_ble_eq_true rfl) dL_law_970 ⟨by show _ ≤ 601024; (try dsimp only); omega, by show _ ≤ 7293034; (try dsimp only); omega⟩) hS (fun b2 g2 q2 H locs e2 hP hS => ?_)
    obtain ⟨rfl, rfl, rfl⟩ : (fX7_renew (sy_up (fX6_renew g q (xs (7 * k + 1)) (xs (7 * k + 2)) (xs (7 * k + 3))).2.2.1 90 0 (fX6_renew g q (xs (7 * k + 1)) (xs (7 * k + 2)) (xs (7 * k + 3))).2.1) (fX6_renew g q (xs (7 * k + 1)) (xs (7 * k + 2)) (xs (7 * k + 3))).2.2.2 (xs (7 * k + 1)) (xs (7 * k + 2)) (xs (7 * k + 3))).1 = b2 ∧ (fX7_renew (sy_up (fX6_renew g q (xs (7 * k + 1)) (xs (7 * k + 2)) (xs (7 * k + 3))).2.2.1 90 0 (fX6_renew g q (xs (7 * k + 1)) (xs (7 * k + 2)) (xs (7 * k + 3))).2.1) (fX6_renew g q (xs (7 * k + 1)) (xs (7 * k + 2)) (xs (7 * k + 3))).2.2.2 (xs (7 * k + 1)) (xs (7 * k + 2)) (xs (7 * k + 3))).2 = g2 ∧ (fX6_renew g q (xs (7 * k + 1)) (xs (7 * k + 2)) (xs (7 * k + 3))).2.2.2 = q2 := by cases e2; exact ⟨rfl, rfl, rfl⟩
    refine lv_istore (lv' := [(6, .int (fX7_renew (sy_up (fX6_renew g q (xs (7 * k + 1)) (xs (7 * k + 2)) (xs (7 * k + 3))).2.2.1 90 0 (fX6_renew g q (xs (7 * k + 1)) (xs (7 * k + 2)) (xs (7 * k + 3))).2.1) (fX6_renew g q (xs (7 * k + 1)) (xs (7 * k + 2)) (xs (7 * k + 3))).2.2.2 (xs (7 * k + 1)) (xs (7 * k + 2)) (xs (7 * k + 3))).1), (5, .int 0), (4, .int (nI (7 * k))), (0, .ref b), (1, .ref (ad 60)), (2, .ref (ad 0)), (3, .ref (ad 90))]) hx hb dL_law_973 hl (by decide) rfl (fun ls hl => ?_)
    refine lv_aload_n hx hb dL_law_975 rfl (lv_at hl 5 rfl) ?_
    refine sy_ki (sy_rV (o := 0) (As := []) (rest := []) ⟨hx, hb, hml, hown, hts⟩ hE hP hS (mX7_thrown l hfl Z nT nK cT cK ad (fX7_renew (sy_up (fX6_renew g q (xs (7 * k + 1)) (xs (7 * k + 2)) (xs (7 * k + 3))).2.2.1 90 0 (fX6_renew g q (xs (7 * k + 1)) (xs (7 * k + 2)) (xs (7 * k + 3))).2.1) (fX6_renew g q (xs (7 * k + 1)) (xs (7 * k + 2)) (xs (7 * k + 3))).2.2.2 (xs (7 * k + 1)) (xs (7 * k + 2)) (xs (7 * k + 3))).2 (fX6_renew g q (xs (7 * k + 1)) (xs (7 * k + 2)) (xs (7 * k + 3))).2.2.2) (cwV 0 hts (gl_V uk_5_93 uk_5_94 uk_5_95 uk_1_9 uk_5_96) rfl rfl rfl (by decide +kernel) ⟨Nat.le_of_ble_eq_true rfl, Nat.le_of_ble_eq_true rfl⟩) (sy_recv (kc := 8) hE hP rfl (by decide) rfl rfl rfl) rfl hl.1 rfl (Nat.le_of_ble_eq_true rfl) dL_law_976 ⟨by show _ ≤ 601024; (try dsimp only); omega, by show _ ≤ 7293034; (try dsimp only); omega⟩) hS (fun b3 g3 q3 H locs e3 hP hS => ?_)
    obtain ⟨rfl, rfl, rfl⟩ : (fX7_renew (sy_up (fX6_renew g q (xs (7 * k + 1)) (xs (7 * k + 2)) (xs (7 * k + 3))).2.2.1 90 0 (fX6_renew g q (xs (7 * k + 1)) (xs (7 * k + 2)) (xs (7 * k + 3))).2.1) (fX6_renew g q (xs (7 * k + 1)) (xs (7 * k + 2)) (xs (7 * k + 3))).2.2.2 (xs (7 * k + 1)) (xs (7 * k + 2)) (xs (7 * k + 3))).2 0 0 = b3 ∧ (fX7_renew (sy_up (fX6_renew g q (xs (7 * k + 1)) (xs (7 * k + 2)) (xs (7 * k + 3))).2.2.1 90 0 (fX6_renew g q (xs (7 * k + 1)) (xs (7 * k + 2)) (xs (7 * k + 3))).2.1) (fX6_renew g q (xs (7 * k + 1)) (xs (7 * k + 2)) (xs (7 * k + 3))).2.2.2 (xs (7 * k + 1)) (xs (7 * k + 2)) (xs (7 * k + 3))).2 = g3 ∧ (fX6_renew g q (xs (7 * k + 1)) (xs (7 * k + 2)) (xs (7 * k + 3))).2.2.2 = q3 := by cases e3; exact ⟨rfl, rfl, rfl⟩
    refine sy_top (y := 0) st.2.1 ?_
    refine lv_iload hx hb dL_law_979 (lv_at hl 1 rfl) ?_
    refine lv_icmp_eq (tgt := 986) hx hb dL_law_981 (by decide) (fun _ => ?_) (fun c9 => absurd rfl c9)
    refine lv_iload hx hb dL_law_986 (lv_at hl 1 rfl) ?_
    refine lv_if_ne (tgt := 1003) hx hb dL_law_988 (by decide) (fun c9 => absurd rfl c9) (fun _ => ?_)
    refine lv_aload_n hx hb dL_law_991 rfl (lv_at hl 6 rfl) ?_
    refine lv_iconst (v := 0) hx hb dL_law_992 (by decide) ?_
    refine sy_lald hx hb hE hP 90 rfl (i := 0) (k_in rfl) dL_law_993 ?_
    refine lv_iload hx hb dL_law_994 (lv_at hl 0 rfl) ?_
    refine lv_i2l (v := ((fX7_renew (sy_up (fX6_renew g q (xs (7 * k + 1)) (xs (7 * k + 2)) (xs (7 * k + 3))).2.2.1 90 0 (fX6_renew g q (xs (7 * k + 1)) (xs (7 * k + 2)) (xs (7 * k + 3))).2.1) (fX6_renew g q (xs (7 * k + 1)) (xs (7 * k + 2)) (xs (7 * k + 3))).2.2.2 (xs (7 * k + 1)) (xs (7 * k + 2)) (xs (7 * k + 3))).2 90 0).toInt64) hx hb dL_law_996 (by rw [st.2.2.2.1, st.2.2.1]) ?_
    refine lv_lcmp0 hx hb dL_law_997 ?_
    refine lv_if_eq (tgt := 1003) hx hb dL_law_998 (by decide) (fun _ => ?_) (fun c9 => absurd rfl c9)
    refine lv_goto (tgt := 2272) hx hb dL_law_1003 (by decide) ?_
    refine W.widen (k := 100 + 16 * (k + 1)) (n := 4000 + 200 * (k + 1)) (by (try dsimp only); omega) (by (try dsimp only); omega) ?_
    exact hJ _ _ _ _ _ _ _ _ _ _ ⟨hP, by rw [Nat.succ_mul]; exact st.2.2.2.2, h70, h71, hS, lv_sub hl [2, 3, 4, 5, 6] rfl⟩
  · replace hg9 := hg9.symm
    replace hq9 := hq9.symm
    subst hg9
    subst hq9
    refine lv_istore (lv' := [(5, .int (wf 1 2 3 (fX6_renew g q (xs (7 * k + 1)) (xs (7 * k + 2)) (xs (7 * k + 3))).1)), (4, .int (nI (7 * k))), (0, .ref b), (1, .ref (ad 60)), (2, .ref (ad 0)), (3, .ref (ad 90))]) hx hb dL_law_949 hl (by decide) rfl (fun ls hl => ?_)
    have st := st_no hI (F := fun gm => fX7_renew gm q (xs (7 * k + 1)) (xs (7 * k + 2)) (xs (7 * k + 3))) (fun gm hg => o_renew (q' := q) hg (xs (7 * k + 1)) (xs (7 * k + 2)) (xs (7 * k + 3))) n6_renew (fun gm => f7_renew) h0
    try dsimp only at st
    refine lv_aload_n hx hb dL_law_951 rfl (lv_at hl 4 rfl) ?_
    refine lv_aload_n hx hb dL_law_952 rfl (lv_at hl 2 rfl) ?_
    refine lv_iload hx hb dL_law_953 (lv_at hl 1 rfl) ?_
    refine lv_iconst (v := 1) hx hb dL_law_955 (by decide) ?_
    refine lv_iadd hx hb dL_law_956 ?_
    refine sy_top (y := nI (7 * k + 1)) (nI_add _ _) ?_
    refine va_sld hx hb hX hbl hbA hS (vp_in_nI (show 7 * k + 1 < L by omega) (by omega)) dL_law_957 ?_
    refine sy_top (y := xs (7 * k + 1)) (by rw [nI_clamp (by omega)]) ?_
    refine lv_aload_n hx hb dL_law_958 rfl (lv_at hl 2 rfl) ?_
    refine lv_iload hx hb dL_law_959 (lv_at hl 1 rfl) ?_
    refine lv_iconst (v := 2) hx hb dL_law_961 (by decide) ?_
    refine lv_iadd hx hb dL_law_962 ?_
    refine sy_top (y := nI (7 * k + 2)) (nI_add _ _) ?_
    refine va_sld hx hb hX hbl hbA hS (vp_in_nI (show 7 * k + 2 < L by omega) (by omega)) dL_law_963 ?_
    refine sy_top (y := xs (7 * k + 2)) (by rw [nI_clamp (by omega)]) ?_
    refine lv_aload_n hx hb dL_law_964 rfl (lv_at hl 2 rfl) ?_
    refine lv_iload hx hb dL_law_965 (lv_at hl 1 rfl) ?_
    refine lv_iconst (v := 3) hx hb dL_law_967 (by decide) ?_
    refine lv_iadd hx hb dL_law_968 ?_
    refine sy_top (y := nI (7 * k + 3)) (nI_add _ _) ?_
    refine va_sld hx hb hX hbl hbA hS (vp_in_nI (show 7 * k + 3 < L by omega) (by omega)) dL_law_969 ?_
    refine sy_top (y := xs (7 * k + 3)) (by rw [nI_clamp (by omega)]) ?_
    refine sy_ki (sy_rV (o := 0) (As := [.int (xs (7 * k + 1)), .int (xs (7 * k + 2)), .int (xs (7 * k + 3))]) (rest := []) ⟨hx, hb, hml, hown, hts⟩ hE hP hS (mX7_renew l hfl Z nT nK cT cK ad g q (xs (7 * k + 1)) (xs (7 * k + 2)) (xs (7 * k + 3)) hI.2.1) (cwV 3 hts (gl_V uk_5_192 uk_5_193 uk_5_194 uk_1_9 uk_5_195) rfl rfl rfl (by decide +kernel) ⟨Nat.le_of_ble_eq_true rfl, Nat.le_of_ble_eq_true rfl⟩) (sy_recv (kc := 8) hE hP rfl (by decide) rfl rfl rfl) rfl hl.1 rfl (Nat.le_of_ble_eq_true rfl) dL_law_970 ⟨by show _ ≤ 601024; (try dsimp only); omega, by show _ ≤ 7293034; (try dsimp only); omega⟩) hS (fun b2 g2 q2 H locs e2 hP hS => ?_)
    obtain ⟨rfl, rfl, rfl⟩ : (fX7_renew g q (xs (7 * k + 1)) (xs (7 * k + 2)) (xs (7 * k + 3))).1 = b2 ∧ (fX7_renew g q (xs (7 * k + 1)) (xs (7 * k + 2)) (xs (7 * k + 3))).2 = g2 ∧ q = q2 := by cases e2; exact ⟨rfl, rfl, rfl⟩
    refine lv_istore (lv' := [(6, .int (fX7_renew g q (xs (7 * k + 1)) (xs (7 * k + 2)) (xs (7 * k + 3))).1), (5, .int (wf 1 2 3 (fX6_renew g q (xs (7 * k + 1)) (xs (7 * k + 2)) (xs (7 * k + 3))).1)), (4, .int (nI (7 * k))), (0, .ref b), (1, .ref (ad 60)), (2, .ref (ad 0)), (3, .ref (ad 90))]) hx hb dL_law_973 hl (by decide) rfl (fun ls hl => ?_)
    refine lv_aload_n hx hb dL_law_975 rfl (lv_at hl 5 rfl) ?_
    refine sy_ki (sy_rV (o := 0) (As := []) (rest := []) ⟨hx, hb, hml, hown, hts⟩ hE hP hS (mX7_thrown l hfl Z nT nK cT cK ad (fX7_renew g q (xs (7 * k + 1)) (xs (7 * k + 2)) (xs (7 * k + 3))).2 q) (cwV 0 hts (gl_V uk_5_93 uk_5_94 uk_5_95 uk_1_9 uk_5_96) rfl rfl rfl (by decide +kernel) ⟨Nat.le_of_ble_eq_true rfl, Nat.le_of_ble_eq_true rfl⟩) (sy_recv (kc := 8) hE hP rfl (by decide) rfl rfl rfl) rfl hl.1 rfl (Nat.le_of_ble_eq_true rfl) dL_law_976 ⟨by show _ ≤ 601024; (try dsimp only); omega, by show _ ≤ 7293034; (try dsimp only); omega⟩) hS (fun b3 g3 q3 H locs e3 hP hS => ?_)
    obtain ⟨rfl, rfl, rfl⟩ : (fX7_renew g q (xs (7 * k + 1)) (xs (7 * k + 2)) (xs (7 * k + 3))).2 0 0 = b3 ∧ (fX7_renew g q (xs (7 * k + 1)) (xs (7 * k + 2)) (xs (7 * k + 3))).2 = g3 ∧ q = q3 := by cases e3; exact ⟨rfl, rfl, rfl⟩
    refine sy_top (y := (wf 1 2 3 (fX6_renew g q (xs (7 * k + 1)) (xs (7 * k + 2)) (xs (7 * k + 3))).1)) st.1 ?_
    refine lv_iload hx hb dL_law_979 (lv_at hl 1 rfl) ?_
    refine lv_icmp_eq (tgt := 986) hx hb dL_law_981 (by decide) (fun _ => ?_) (fun c9 => absurd rfl c9)
    refine lv_iload hx hb dL_law_986 (lv_at hl 1 rfl) ?_
    refine lv_if_ne (tgt := 1003) hx hb dL_law_988 (by decide) (fun _ => ?_) (fun c9 => absurd c9 ((wf_ne h0 hCode).resolve_right (by decide)))
    refine lv_goto (tgt := 2272) hx hb dL_law_1003 (by decide) ?_
    refine W.widen (k := 100 + 16 * (k + 1)) (n := 4000 + 200 * (k + 1)) (by (try dsimp only); omega) (by (try dsimp only); omega) ?_
    exact hJ _ _ _ _ _ _ _ _ _ _ ⟨hP, by rw [Nat.succ_mul]; exact st.2.2, h70, h71, hS, lv_sub hl [2, 3, 4, 5, 6] rfl⟩
set_option maxHeartbeats 8000000 in
set_option maxRecDepth 100000 in
theorem lc_give (hC : lCtx p l s m meth c b L xs Z) {k : Nat} (hk : 7 * k + 7 ≤ L) (hL : L ≤ 3584) (hJ : ∀ (nT nK cT cK : Nat) (ad : Nat → Nat) (g : sG) (q : sQ) (H : Heap) (locs : List Loc) (ls : Array Slot), lSt Z s b k (k + 1) nT nK cT cK ad g q H locs ls → W p l e room_1 s m #[Value.ref b] below meth c H locs (100 + 16 * (k + 1)) (4000 + 200 * (k + 1)) (lw_Z below #[Value.ref b] s) (F0 m 2272 ls []))
    {nT nK cT cK : Nat} {ad : Nat → Nat} {g : sG} {q : sQ} {H : Heap} {locs : List Loc} {ls : Array Slot} (h : lSt Z s b k k nT nK cT cK ad g q H locs ls) : W p l e room_1 s m #[Value.ref b] below meth c H locs (100 + 16 * k) (4000 + 200 * k) (lw_Z below #[Value.ref b] s) (F0 m 1006 ls []) := by
  obtain ⟨hx, hb, hr, hml, hown, hts, hX, hbl, hlocks, hZ, hE, hNc, hfl⟩ := hC
  obtain ⟨hP, hI, h70, h71, hS, hl⟩ := h
  have hbA : ¬ sy_A Z b := fun z => absurd (show Z.2.2.1 ≤ b from z) (by omega)
  have hkB : k * oB ≤ 2048000000 := by
    have : k ≤ 511 := by omega
    calc k * oB ≤ 511 * 4000000 := Nat.mul_le_mul this (Nat.le_refl _)
      _ ≤ 2048000000 := by decide
  refine lv_aload_n hx hb dL_law_1006 rfl (lv_at hl 2 rfl) ?_
  refine lv_aload_n hx hb dL_law_1007 rfl (lv_at hl 1 rfl) ?_
  refine lv_iload hx hb dL_law_1008 (lv_at hl 0 rfl) ?_
  refine lv_iconst (v := 1) hx hb dL_law_1010 (by decide) ?_
  refine lv_iadd hx hb dL_law_1011 ?_
  refine sy_top (y := nI (7 * k + 1)) (nI_add _ _) ?_
  refine va_sld hx hb hX hbl hbA hS (vp_in_nI (show 7 * k + 1 < L by omega) (by omega)) dL_law_1012 ?_
  refine sy_top (y := xs (7 * k + 1)) (by rw [nI_clamp (by omega)]) ?_
  refine lv_aload_n hx hb dL_law_1013 rfl (lv_at hl 1 rfl) ?_
  refine lv_iload hx hb dL_law_1014 (lv_at hl 0 rfl) ?_
  refine lv_iconst (v := 2) hx hb dL_law_1016 (by decide) ?_
  refine lv_iadd hx hb dL_law_1017 ?_
  refine sy_top (y := nI (7 * k + 2)) (nI_add _ _) ?_
  refine va_sld hx hb hX hbl hbA hS (vp_in_nI (show 7 * k + 2 < L by omega) (by omega)) dL_law_1018 ?_
  refine sy_top (y := xs (7 * k + 2)) (by rw [nI_clamp (by omega)]) ?_
  refine lv_aload_n hx hb dL_law_1019 rfl (lv_at hl 4 rfl) ?_
  have hCode : wf 1 9 2 (fX6_give g q (xs (7 * k + 1)) (xs (7 * k + 2))).1 ≠ 9 := (by
        by_cases z : (fX6_give g q (xs (7 * k + 1)) (xs (7 * k + 2))).1 = 0
        · rw [z]; exact (by decide : (0 : Int32) ≠ 9)
        · exact (st_no hI (fun gm hg => o_give (q' := (fX6_give g q (xs (7 * k + 1)) (xs (7 * k + 2))).2.2.2) hg (xs (7 * k + 1)) (xs (7 * k + 2))) n6_give (fun gm => f7_give) z).2.1)
  refine va_calli (vx_runSW (As := [.ref (ad 60), .int (xs (7 * k + 1)), .int (xs (7 * k + 2)), .ref (ad 90)]) (rest := []) ⟨hx, hb, hml, hown, hts⟩ (mL_give l hfl Z nT nK cT cK ad g q (xs (7 * k + 1)) (xs (7 * k + 2)) (by have := inv_T hI; omega) (inv_IG hI) (inv_IQ hI) hCode) (vx_cwSW 4 hts (gl_S uk_3_222 uk_3_223 uk_1_0 uk_3_224) rfl rfl rfl (by decide +kernel) ⟨Nat.le_of_ble_eq_true rfl, Nat.le_of_ble_eq_true rfl⟩) ⟨sPreL_blind _, fun U hU hW => ⟨rfl, ⟨hE.next hS hU hW.alike, by rw [hU]; exact hP⟩, hNc.next hW.alike⟩⟩ rfl rfl hl.1 rfl (lv_room (Nat.le_of_ble_eq_true rfl)) dL_law_1020 ⟨by show _ ≤ 601024; (try dsimp only); omega, by show _ ≤ 7293034; (try dsimp only); omega⟩) hS (fun _ _ h => h) (fun _ h => h) (fun r u t H locs ht _ hp hB _ _ hS => ?_)
  obtain ⟨g1, q1⟩ := u
  have hP := hB.2
  rw [ht] at hP
  dsimp only at hp hP
  rcases hp with ⟨h0, rfl, rfl, rfl⟩ | ⟨h0, rfl, hg9, hq9⟩
  · refine lv_istore (lv' := [(5, .int 0), (4, .int (nI (7 * k))), (0, .ref b), (1, .ref (ad 60)), (2, .ref (ad 0)), (3, .ref (ad 90))]) hx hb dL_law_1023 hl (by decide) rfl (fun ls hl => ?_)
    have st := st_yes hI (F := fun gm => fX7_give gm (fX6_give g q (xs (7 * k + 1)) (xs (7 * k + 2))).2.2.2 (xs (7 * k + 1)) (xs (7 * k + 2))) (fun gm hg => o_give (q' := (fX6_give g q (xs (7 * k + 1)) (xs (7 * k + 2))).2.2.2) hg (xs (7 * k + 1)) (xs (7 * k + 2))) f6_give (fun gm => f7_give) h0
    try dsimp only at st
    refine lv_aload_n hx hb dL_law_1025 rfl (lv_at hl 4 rfl) ?_
    refine lv_aload_n hx hb dL_law_1026 rfl (lv_at hl 2 rfl) ?_
    refine lv_iload hx hb dL_law_1027 (lv_at hl 1 rfl) ?_
    refine lv_iconst (v := 1) hx hb dL_law_1029 (by decide) ?_
    refine lv_iadd hx hb dL_law_1030 ?_
    refine sy_top (y := nI (7 * k + 1)) (nI_add _ _) ?_
    refine va_sld hx hb hX hbl hbA hS (vp_in_nI (show 7 * k + 1 < L by omega) (by omega)) dL_law_1031 ?_
    refine sy_top (y := xs (7 * k + 1)) (by rw [nI_clamp (by omega)]) ?_
    refine lv_aload_n hx hb dL_law_1032 rfl (lv_at hl 2 rfl) ?_
    refine lv_iload hx hb dL_law_1033 (lv_at hl 1 rfl) ?_
    refine lv_iconst (v := 2) hx hb dL_law_1035 (by decide) ?_
    refine lv_iadd hx hb dL_law_1036 ?_
    refine sy_top (y := nI (7 * k + 2)) (nI_add _ _) ?_
    refine va_sld hx hb hX hbl hbA hS (vp_in_nI (show 7 * k + 2 < L by omega) (by omega)) dL_law_1037 ?_
    refine sy_top (y := xs (7 * k + 2)) (by rw [nI_clamp (by omega)]) ?_
    refine sy_ki (sy_rV (o := 0) (As := [.int (xs (7 * k + 1)), .int (xs (7 * k + 2))]) (rest := []) ⟨hx, hb, hml, hown, hts⟩ hE hP hS (mX7_give l hfl Z nT nK cT cK ad (sy_up (fX6_give g q (xs (7 * k + 1)) (xs (7 * k + 2))).2.2.1 90 0 (fX6_give g q (xs (7 * k + 1)) (xs (7 * k + 2))).2.1) (fX6_give g q (xs (7 * k + 1)) (xs (7 * k + 2))).2.2.2 (xs (7 * k + 1)) (xs (7 * k + 2)) st.1.2.1) (cwV 2 hts (gl_V uk_5_196 uk_5_197 uk_5_198 uk_1_9 uk_5_199) rfl rfl rfl (by decide +kernel) ⟨Nat.le_of_ble_eq_true rfl, Nat.le_of_ble_eq_true rfl⟩) (sy_recv (kc := 8) hE hP rfl (by decide) rfl rfl rfl) rfl hl.1 rfl (Nat.le_of_ble_eq_true rfl) dL_law_1038 ⟨by show _ ≤ 601024; (try dsimp only); omega, by show _ ≤ 7293034; (try dsimp only); omega⟩) hS (fun b2 g2 q2 H locs e2 hP hS => ?_)
    obtain ⟨rfl, rfl, rfl⟩ : (fX7_give (sy_up (fX6_give g q (xs (7 * k + 1)) (xs (7 * k + 2))).2.2.1 90 0 (fX6_give g q (xs (7 * k + 1)) (xs (7 * k + 2))).2.1) (fX6_give g q (xs (7 * k + 1)) (xs (7 * k + 2))).2.2.2 (xs (7 * k + 1)) (xs (7 * k + 2))).1 = b2 ∧ (fX7_give (sy_up (fX6_give g q (xs (7 * k + 1)) (xs (7 * k + 2))).2.2.1 90 0 (fX6_give g q (xs (7 * k + 1)) (xs (7 * k + 2))).2.1) (fX6_give g q (xs (7 * k + 1)) (xs (7 * k + 2))).2.2.2 (xs (7 * k + 1)) (xs (7 * k + 2))).2 = g2 ∧ (fX6_give g q (xs (7 * k + 1)) (xs (7 * k + 2))).2.2.2 = q2 := by cases e2; exact ⟨rfl, rfl, rfl⟩
    refine lv_istore (lv' := [(6, .int (fX7_give (sy_up (fX6_give g q (xs (7 * k + 1)) (xs (7 * k + 2))).2.2.1 90 0 (fX6_give g q (xs (7 * k + 1)) (xs (7 * k + 2))).2.1) (fX6_give g q (xs (7 * k + 1)) (xs (7 * k + 2))).2.2.2 (xs (7 * k + 1)) (xs (7 * k + 2))).1), (5, .int 0), (4, .int (nI (7 * k))), (0, .ref b), (1, .ref (ad 60)), (2, .ref (ad 0)), (3, .ref (ad 90))]) hx hb dL_law_1041 hl (by decide) rfl (fun ls hl => ?_)
    refine lv_aload_n hx hb dL_law_1043 rfl (lv_at hl 5 rfl) ?_
    refine sy_ki (sy_rV (o := 0) (As := []) (rest := []) ⟨hx, hb, hml, hown, hts⟩ hE hP hS (mX7_thrown l hfl Z nT nK cT cK ad (fX7_give (sy_up (fX6_give g q (xs (7 * k + 1)) (xs (7 * k + 2))).2.2.1 90 0 (fX6_give g q (xs (7 * k + 1)) (xs (7 * k + 2))).2.1) (fX6_give g q (xs (7 * k + 1)) (xs (7 * k + 2))).2.2.2 (xs (7 * k + 1)) (xs (7 * k + 2))).2 (fX6_give g q (xs (7 * k + 1)) (xs (7 * k + 2))).2.2.2) (cwV 0 hts (gl_V uk_5_93 uk_5_94 uk_5_95 uk_1_9 uk_5_96) rfl rfl rfl (by decide +kernel) ⟨Nat.le_of_ble_eq_true rfl, Nat.le_of_ble_eq_true rfl⟩) (sy_recv (kc := 8) hE hP rfl (by decide) rfl rfl rfl) rfl hl.1 rfl (Nat.le_of_ble_eq_true rfl) dL_law_1044 ⟨by show _ ≤ 601024; (try dsimp only); omega, by show _ ≤ 7293034; (try dsimp only); omega⟩) hS (fun b3 g3 q3 H locs e3 hP hS => ?_)
    obtain ⟨rfl, rfl, rfl⟩ : (fX7_give (sy_up (fX6_give g q (xs (7 * k + 1)) (xs (7 * k + 2))).2.2.1 90 0 (fX6_give g q (xs (7 * k + 1)) (xs (7 * k + 2))).2.1) (fX6_give g q (xs (7 * k + 1)) (xs (7 * k + 2))).2.2.2 (xs (7 * k + 1)) (xs (7 * k + 2))).2 0 0 = b3 ∧ (fX7_give (sy_up (fX6_give g q (xs (7 * k + 1)) (xs (7 * k + 2))).2.2.1 90 0 (fX6_give g q (xs (7 * k + 1)) (xs (7 * k + 2))).2.1) (fX6_give g q (xs (7 * k + 1)) (xs (7 * k + 2))).2.2.2 (xs (7 * k + 1)) (xs (7 * k + 2))).2 = g3 ∧ (fX6_give g q (xs (7 * k + 1)) (xs (7 * k + 2))).2.2.2 = q3 := by cases e3; exact ⟨rfl, rfl, rfl⟩
    refine sy_top (y := 0) st.2.1 ?_
    refine lv_iload hx hb dL_law_1047 (lv_at hl 1 rfl) ?_
    refine lv_icmp_eq (tgt := 1054) hx hb dL_law_1049 (by decide) (fun _ => ?_) (fun c9 => absurd rfl c9)
    refine lv_iload hx hb dL_law_1054 (lv_at hl 1 rfl) ?_
    refine lv_if_ne (tgt := 1071) hx hb dL_law_1056 (by decide) (fun c9 => absurd rfl c9) (fun _ => ?_)
    refine lv_aload_n hx hb dL_law_1059 rfl (lv_at hl 6 rfl) ?_
    refine lv_iconst (v := 0) hx hb dL_law_1060 (by decide) ?_
    refine sy_lald hx hb hE hP 90 rfl (i := 0) (k_in rfl) dL_law_1061 ?_
    refine lv_iload hx hb dL_law_1062 (lv_at hl 0 rfl) ?_
    refine lv_i2l (v := ((fX7_give (sy_up (fX6_give g q (xs (7 * k + 1)) (xs (7 * k + 2))).2.2.1 90 0 (fX6_give g q (xs (7 * k + 1)) (xs (7 * k + 2))).2.1) (fX6_give g q (xs (7 * k + 1)) (xs (7 * k + 2))).2.2.2 (xs (7 * k + 1)) (xs (7 * k + 2))).2 90 0).toInt64) hx hb dL_law_1064 (by rw [st.2.2.2.1, st.2.2.1]) ?_
    refine lv_lcmp0 hx hb dL_law_1065 ?_
    refine lv_if_eq (tgt := 1071) hx hb dL_law_1066 (by decide) (fun _ => ?_) (fun c9 => absurd rfl c9)
    refine lv_goto (tgt := 2272) hx hb dL_law_1071 (by decide) ?_
    refine W.widen (k := 100 + 16 * (k + 1)) (n := 4000 + 200 * (k + 1)) (by (try dsimp only); omega) (by (try dsimp only); omega) ?_
    exact hJ _ _ _ _ _ _ _ _ _ _ ⟨hP, by rw [Nat.succ_mul]; exact st.2.2.2.2, h70, h71, hS, lv_sub hl [2, 3, 4, 5, 6] rfl⟩
  · replace hg9 := hg9.symm
    replace hq9 := hq9.symm
    subst hg9
    subst hq9
    refine lv_istore (lv' := [(5, .int (wf 1 9 2 (fX6_give g q (xs (7 * k + 1)) (xs (7 * k + 2))).1)), (4, .int (nI (7 * k))), (0, .ref b), (1, .ref (ad 60)), (2, .ref (ad 0)), (3, .ref (ad 90))]) hx hb dL_law_1023 hl (by decide) rfl (fun ls hl => ?_)
    have st := st_no hI (F := fun gm => fX7_give gm q (xs (7 * k + 1)) (xs (7 * k + 2))) (fun gm hg => o_give (q' := q) hg (xs (7 * k + 1)) (xs (7 * k + 2))) n6_give (fun gm => f7_give) h0
    try dsimp only at st
    refine lv_aload_n hx hb dL_law_1025 rfl (lv_at hl 4 rfl) ?_
    refine lv_aload_n hx hb dL_law_1026 rfl (lv_at hl 2 rfl) ?_
    refine lv_iload hx hb dL_law_1027 (lv_at hl 1 rfl) ?_
    refine lv_iconst (v := 1) hx hb dL_law_1029 (by decide) ?_
    refine lv_iadd hx hb dL_law_1030 ?_
    refine sy_top (y := nI (7 * k + 1)) (nI_add _ _) ?_
    refine va_sld hx hb hX hbl hbA hS (vp_in_nI (show 7 * k + 1 < L by omega) (by omega)) dL_law_1031 ?_
    refine sy_top (y := xs (7 * k + 1)) (by rw [nI_clamp (by omega)]) ?_
    refine lv_aload_n hx hb dL_law_1032 rfl (lv_at hl 2 rfl) ?_
    refine lv_iload hx hb dL_law_1033 (lv_at hl 1 rfl) ?_
    refine lv_iconst (v := 2) hx hb dL_law_1035 (by decide) ?_
    refine lv_iadd hx hb dL_law_1036 ?_
    refine sy_top (y := nI (7 * k + 2)) (nI_add _ _) ?_
    refine va_sld hx hb hX hbl hbA hS (vp_in_nI (show 7 * k + 2 < L by omega) (by omega)) dL_law_1037 ?_
    refine sy_top (y := xs (7 * k + 2)) (by rw [nI_clamp (by omega)]) ?_
    refine sy_ki (sy_rV (o := 0) (As := [.int (xs (7 * k + 1)), .int (xs (7 * k + 2))]) (rest := []) ⟨hx, hb, hml, hown, hts⟩ hE hP hS (mX7_give l hfl Z nT nK cT cK ad g q (xs (7 * k + 1)) (xs (7 * k + 2)) hI.2.1) (cwV 2 hts (gl_V uk_5_196 uk_5_197 uk_5_198 uk_1_9 uk_5_199) rfl rfl rfl (by decide +kernel) ⟨Nat.le_of_ble_eq_true rfl, Nat.le_of_ble_eq_true rfl⟩) (sy_recv (kc := 8) hE hP rfl (by decide) rfl rfl rfl) rfl hl.1 rfl (Nat.le_of_ble_eq_true rfl) dL_law_1038 ⟨by show _ ≤ 601024; (try dsimp only); omega, by show _ ≤ 7293034; (try dsimp only); omega⟩) hS (fun b2 g2 q2 H locs e2 hP hS => ?_)
    obtain ⟨rfl, rfl, rfl⟩ : (fX7_give g q (xs (7 * k + 1)) (xs (7 * k + 2))).1 = b2 ∧ (fX7_give g q (xs (7 * k + 1)) (xs (7 * k + 2))).2 = g2 ∧ q = q2 := by cases e2; exact ⟨rfl, rfl, rfl⟩
    refine lv_istore (lv' := [(6, .int (fX7_give g q (xs (7 * k + 1)) (xs (7 * k + 2))).1), (5, .int (wf 1 9 2 (fX6_give g q (xs (7 * k + 1)) (xs (7 * k + 2))).1)), (4, .int (nI (7 * k))), (0, .ref b), (1, .ref (ad 60)), (2, .ref (ad 0)), (3, .ref (ad 90))]) hx hb dL_law_1041 hl (by decide) rfl (fun ls hl => ?_)
    refine lv_aload_n hx hb dL_law_1043 rfl (lv_at hl 5 rfl) ?_
    refine sy_ki (sy_rV (o := 0) (As := []) (rest := []) ⟨hx, hb, hml, hown, hts⟩ hE hP hS (mX7_thrown l hfl Z nT nK cT cK ad (fX7_give g q (xs (7 * k + 1)) (xs (7 * k + 2))).2 q) (cwV 0 hts (gl_V uk_5_93 uk_5_94 uk_5_95 uk_1_9 uk_5_96) rfl rfl rfl (by decide +kernel) ⟨Nat.le_of_ble_eq_true rfl, Nat.le_of_ble_eq_true rfl⟩) (sy_recv (kc := 8) hE hP rfl (by decide) rfl rfl rfl) rfl hl.1 rfl (Nat.le_of_ble_eq_true rfl) dL_law_1044 ⟨by show _ ≤ 601024; (try dsimp only); omega, by show _ ≤ 7293034; (try dsimp only); omega⟩) hS (fun b3 g3 q3 H locs e3 hP hS => ?_)
    obtain ⟨rfl, rfl, rfl⟩ : (fX7_give g q (xs (7 * k + 1)) (xs (7 * k + 2))).2 0 0 = b3 ∧ (fX7_give g q (xs (7 * k + 1)) (xs (7 * k + 2))).2 = g3 ∧ q = q3 := by cases e3; exact ⟨rfl, rfl, rfl⟩
    refine sy_top (y := (wf 1 9 2 (fX6_give g q (xs (7 * k + 1)) (xs (7 * k + 2))).1)) st.1 ?_
    refine lv_iload hx hb dL_law_1047 (lv_at hl 1 rfl) ?_
    refine lv_icmp_eq (tgt := 1054) hx hb dL_law_1049 (by decide) (fun _ => ?_) (fun c9 => absurd rfl c9)
    refine lv_iload hx hb dL_law_1054 (lv_at hl 1 rfl) ?_
    refine lv_if_ne (tgt := 1071) hx hb dL_law_1056 (by decide) (fun _ => ?_) (fun c9 => absurd c9 ((wf_ne h0 hCode).resolve_right (by decide)))
    refine lv_goto (tgt := 2272) hx hb dL_law_1071 (by decide) ?_
    refine W.widen (k := 100 + 16 * (k + 1)) (n := 4000 + 200 * (k + 1)) (by (try dsimp only); omega) (by (try dsimp only); omega) ?_
    exact hJ _ _ _ _ _ _ _ _ _ _ ⟨hP, by rw [Nat.succ_mul]; exact st.2.2, h70, h71, hS, lv_sub hl [2, 3, 4, 5, 6] rfl⟩
set_option maxHeartbeats 8000000 in
set_option maxRecDepth 100000 in
theorem lc_notice (hC : lCtx p l s m meth c b L xs Z) {k : Nat} (hk : 7 * k + 7 ≤ L) (hL : L ≤ 3584) (hJ : ∀ (nT nK cT cK : Nat) (ad : Nat → Nat) (g : sG) (q : sQ) (H : Heap) (locs : List Loc) (ls : Array Slot), lSt Z s b k (k + 1) nT nK cT cK ad g q H locs ls → W p l e room_1 s m #[Value.ref b] below meth c H locs (100 + 16 * (k + 1)) (4000 + 200 * (k + 1)) (lw_Z below #[Value.ref b] s) (F0 m 2272 ls []))
    {nT nK cT cK : Nat} {ad : Nat → Nat} {g : sG} {q : sQ} {H : Heap} {locs : List Loc} {ls : Array Slot} (h : lSt Z s b k k nT nK cT cK ad g q H locs ls) : W p l e room_1 s m #[Value.ref b] below meth c H locs (100 + 16 * k) (4000 + 200 * k) (lw_Z below #[Value.ref b] s) (F0 m 1074 ls []) := by
  obtain ⟨hx, hb, hr, hml, hown, hts, hX, hbl, hlocks, hZ, hE, hNc, hfl⟩ := hC
  obtain ⟨hP, hI, h70, h71, hS, hl⟩ := h
  have hbA : ¬ sy_A Z b := fun z => absurd (show Z.2.2.1 ≤ b from z) (by omega)
  have hkB : k * oB ≤ 2048000000 := by
    have : k ≤ 511 := by omega
    calc k * oB ≤ 511 * 4000000 := Nat.mul_le_mul this (Nat.le_refl _)
      _ ≤ 2048000000 := by decide
  refine lv_aload_n hx hb dL_law_1074 rfl (lv_at hl 2 rfl) ?_
  refine lv_aload_n hx hb dL_law_1075 rfl (lv_at hl 1 rfl) ?_
  refine lv_iload hx hb dL_law_1076 (lv_at hl 0 rfl) ?_
  refine lv_iconst (v := 1) hx hb dL_law_1078 (by decide) ?_
  refine lv_iadd hx hb dL_law_1079 ?_
  refine sy_top (y := nI (7 * k + 1)) (nI_add _ _) ?_
  refine va_sld hx hb hX hbl hbA hS (vp_in_nI (show 7 * k + 1 < L by omega) (by omega)) dL_law_1080 ?_
  refine sy_top (y := xs (7 * k + 1)) (by rw [nI_clamp (by omega)]) ?_
  refine lv_aload_n hx hb dL_law_1081 rfl (lv_at hl 1 rfl) ?_
  refine lv_iload hx hb dL_law_1082 (lv_at hl 0 rfl) ?_
  refine lv_iconst (v := 2) hx hb dL_law_1084 (by decide) ?_
  refine lv_iadd hx hb dL_law_1085 ?_
  refine sy_top (y := nI (7 * k + 2)) (nI_add _ _) ?_
  refine va_sld hx hb hX hbl hbA hS (vp_in_nI (show 7 * k + 2 < L by omega) (by omega)) dL_law_1086 ?_
  refine sy_top (y := xs (7 * k + 2)) (by rw [nI_clamp (by omega)]) ?_
  have hCode : wf 1 9 2 (fX6_notice g q (xs (7 * k + 1)) (xs (7 * k + 2))).1 ≠ 9 := (by
        by_cases z : (fX6_notice g q (xs (7 * k + 1)) (xs (7 * k + 2))).1 = 0
        · rw [z]; exact (by decide : (0 : Int32) ≠ 9)
        · exact (st_nov hI (fun gm hg => o_notice (q' := (fX6_notice g q (xs (7 * k + 1)) (xs (7 * k + 2))).2.2) hg (xs (7 * k + 1)) (xs (7 * k + 2))) n6_notice (fun gm => f7_notice) z).2.1)
  refine va_calli (vx_runSW (As := [.ref (ad 60), .int (xs (7 * k + 1)), .int (xs (7 * k + 2))]) (rest := []) ⟨hx, hb, hml, hown, hts⟩ (mL_notice l hfl Z nT nK cT cK ad g q (xs (7 * k + 1)) (xs (7 * k + 2)) (by have := inv_T hI; omega) (inv_IG hI) (inv_IQ hI) hCode) (vx_cwSW 3 hts (gl_S uk_3_233 uk_3_234 uk_1_0 uk_3_235) rfl rfl rfl (by decide +kernel) ⟨Nat.le_of_ble_eq_true rfl, Nat.le_of_ble_eq_true rfl⟩) ⟨sPreL_blind _, fun U hU hW => ⟨rfl, ⟨hE.next hS hU hW.alike, by rw [hU]; exact hP⟩, hNc.next hW.alike⟩⟩ rfl rfl hl.1 rfl (lv_room (Nat.le_of_ble_eq_true rfl)) dL_law_1087 ⟨by show _ ≤ 601024; (try dsimp only); omega, by show _ ≤ 7293034; (try dsimp only); omega⟩) hS (fun _ _ h => h) (fun _ h => h) (fun r u t H locs ht _ hp hB _ _ hS => ?_)
  obtain ⟨g1, q1⟩ := u
  have hP := hB.2
  rw [ht] at hP
  dsimp only at hp hP
  rcases hp with ⟨h0, rfl, rfl, rfl⟩ | ⟨h0, rfl, hg9, hq9⟩
  · refine lv_istore (lv' := [(5, .int 0), (4, .int (nI (7 * k))), (0, .ref b), (1, .ref (ad 60)), (2, .ref (ad 0)), (3, .ref (ad 90))]) hx hb dL_law_1090 hl (by decide) rfl (fun ls hl => ?_)
    have st := st_yesv hI (F := fun gm => fX7_notice gm (fX6_notice g q (xs (7 * k + 1)) (xs (7 * k + 2))).2.2 (xs (7 * k + 1)) (xs (7 * k + 2))) (fun gm hg => o_notice (q' := (fX6_notice g q (xs (7 * k + 1)) (xs (7 * k + 2))).2.2) hg (xs (7 * k + 1)) (xs (7 * k + 2))) f6_notice (fun gm => f7_notice) h0
    try dsimp only at st
    refine lv_aload_n hx hb dL_law_1092 rfl (lv_at hl 4 rfl) ?_
    refine lv_aload_n hx hb dL_law_1093 rfl (lv_at hl 2 rfl) ?_
    refine lv_iload hx hb dL_law_1094 (lv_at hl 1 rfl) ?_
    refine lv_iconst (v := 1) hx hb dL_law_1096 (by decide) ?_
    refine lv_iadd hx hb dL_law_1097 ?_
    refine sy_top (y := nI (7 * k + 1)) (nI_add _ _) ?_
    refine va_sld hx hb hX hbl hbA hS (vp_in_nI (show 7 * k + 1 < L by omega) (by omega)) dL_law_1098 ?_
    refine sy_top (y := xs (7 * k + 1)) (by rw [nI_clamp (by omega)]) ?_
    refine lv_aload_n hx hb dL_law_1099 rfl (lv_at hl 2 rfl) ?_
    refine lv_iload hx hb dL_law_1100 (lv_at hl 1 rfl) ?_
    refine lv_iconst (v := 2) hx hb dL_law_1102 (by decide) ?_
    refine lv_iadd hx hb dL_law_1103 ?_
    refine sy_top (y := nI (7 * k + 2)) (nI_add _ _) ?_
    refine va_sld hx hb hX hbl hbA hS (vp_in_nI (show 7 * k + 2 < L by omega) (by omega)) dL_law_1104 ?_
    refine sy_top (y := xs (7 * k + 2)) (by rw [nI_clamp (by omega)]) ?_
    refine sy_kv (sy_rV (o := 0) (As := [.int (xs (7 * k + 1)), .int (xs (7 * k + 2))]) (rest := []) ⟨hx, hb, hml, hown, hts⟩ hE hP hS (mX7_notice l hfl Z nT nK cT cK ad (fX6_notice g q (xs (7 * k + 1)) (xs (7 * k + 2))).2.1 (fX6_notice g q (xs (7 * k + 1)) (xs (7 * k + 2))).2.2 (xs (7 * k + 1)) (xs (7 * k + 2)) st.1.2.1) (cwV 2 hts (gl_V uk_5_200 uk_5_201 uk_5_202 uk_1_9 uk_5_203) rfl rfl rfl (by decide +kernel) ⟨Nat.le_of_ble_eq_true rfl, Nat.le_of_ble_eq_true rfl⟩) (sy_recv (kc := 8) hE hP rfl (by decide) rfl rfl rfl) rfl hl.1 rfl (Nat.le_of_ble_eq_true rfl) dL_law_1105 ⟨by show _ ≤ 601024; (try dsimp only); omega, by show _ ≤ 7293034; (try dsimp only); omega⟩) hS (fun g2 q2 H locs e2 hP hS => ?_)
    obtain ⟨rfl, rfl⟩ : (fX7_notice (fX6_notice g q (xs (7 * k + 1)) (xs (7 * k + 2))).2.1 (fX6_notice g q (xs (7 * k + 1)) (xs (7 * k + 2))).2.2 (xs (7 * k + 1)) (xs (7 * k + 2))) = g2 ∧ (fX6_notice g q (xs (7 * k + 1)) (xs (7 * k + 2))).2.2 = q2 := by cases e2; exact ⟨rfl, rfl⟩
    refine lv_aload_n hx hb dL_law_1108 rfl (lv_at hl 4 rfl) ?_
    refine sy_ki (sy_rV (o := 0) (As := []) (rest := []) ⟨hx, hb, hml, hown, hts⟩ hE hP hS (mX7_thrown l hfl Z nT nK cT cK ad (fX7_notice (fX6_notice g q (xs (7 * k + 1)) (xs (7 * k + 2))).2.1 (fX6_notice g q (xs (7 * k + 1)) (xs (7 * k + 2))).2.2 (xs (7 * k + 1)) (xs (7 * k + 2))) (fX6_notice g q (xs (7 * k + 1)) (xs (7 * k + 2))).2.2) (cwV 0 hts (gl_V uk_5_93 uk_5_94 uk_5_95 uk_1_9 uk_5_96) rfl rfl rfl (by decide +kernel) ⟨Nat.le_of_ble_eq_true rfl, Nat.le_of_ble_eq_true rfl⟩) (sy_recv (kc := 8) hE hP rfl (by decide) rfl rfl rfl) rfl hl.1 rfl (Nat.le_of_ble_eq_true rfl) dL_law_1109 ⟨by show _ ≤ 601024; (try dsimp only); omega, by show _ ≤ 7293034; (try dsimp only); omega⟩) hS (fun b3 g3 q3 H locs e3 hP hS => ?_)
    obtain ⟨rfl, rfl, rfl⟩ : (fX7_notice (fX6_notice g q (xs (7 * k + 1)) (xs (7 * k + 2))).2.1 (fX6_notice g q (xs (7 * k + 1)) (xs (7 * k + 2))).2.2 (xs (7 * k + 1)) (xs (7 * k + 2))) 0 0 = b3 ∧ (fX7_notice (fX6_notice g q (xs (7 * k + 1)) (xs (7 * k + 2))).2.1 (fX6_notice g q (xs (7 * k + 1)) (xs (7 * k + 2))).2.2 (xs (7 * k + 1)) (xs (7 * k + 2))) = g3 ∧ (fX6_notice g q (xs (7 * k + 1)) (xs (7 * k + 2))).2.2 = q3 := by cases e3; exact ⟨rfl, rfl, rfl⟩
    refine sy_top (y := 0) st.2.1 ?_
    refine lv_iload hx hb dL_law_1112 (lv_at hl 0 rfl) ?_
    refine lv_icmp_eq (tgt := 1119) hx hb dL_law_1114 (by decide) (fun _ => ?_) (fun c9 => absurd rfl c9)
    refine lv_goto (tgt := 2272) hx hb dL_law_1119 (by decide) ?_
    refine W.widen (k := 100 + 16 * (k + 1)) (n := 4000 + 200 * (k + 1)) (by (try dsimp only); omega) (by (try dsimp only); omega) ?_
    exact hJ _ _ _ _ _ _ _ _ _ _ ⟨hP, by rw [Nat.succ_mul]; exact st.2.2, h70, h71, hS, lv_sub hl [1, 2, 3, 4, 5] rfl⟩
  · replace hg9 := hg9.symm
    replace hq9 := hq9.symm
    subst hg9
    subst hq9
    refine lv_istore (lv' := [(5, .int (wf 1 9 2 (fX6_notice g q (xs (7 * k + 1)) (xs (7 * k + 2))).1)), (4, .int (nI (7 * k))), (0, .ref b), (1, .ref (ad 60)), (2, .ref (ad 0)), (3, .ref (ad 90))]) hx hb dL_law_1090 hl (by decide) rfl (fun ls hl => ?_)
    have st := st_nov hI (F := fun gm => fX7_notice gm q (xs (7 * k + 1)) (xs (7 * k + 2))) (fun gm hg => o_notice (q' := q) hg (xs (7 * k + 1)) (xs (7 * k + 2))) n6_notice (fun gm => f7_notice) h0
    try dsimp only at st
    refine lv_aload_n hx hb dL_law_1092 rfl (lv_at hl 4 rfl) ?_
    refine lv_aload_n hx hb dL_law_1093 rfl (lv_at hl 2 rfl) ?_
    refine lv_iload hx hb dL_law_1094 (lv_at hl 1 rfl) ?_
    refine lv_iconst (v := 1) hx hb dL_law_1096 (by decide) ?_
    refine lv_iadd hx hb dL_law_1097 ?_
    refine sy_top (y := nI (7 * k + 1)) (nI_add _ _) ?_
    refine va_sld hx hb hX hbl hbA hS (vp_in_nI (show 7 * k + 1 < L by omega) (by omega)) dL_law_1098 ?_
    refine sy_top (y := xs (7 * k + 1)) (by rw [nI_clamp (by omega)]) ?_
    refine lv_aload_n hx hb dL_law_1099 rfl (lv_at hl 2 rfl) ?_
    refine lv_iload hx hb dL_law_1100 (lv_at hl 1 rfl) ?_
    refine lv_iconst (v := 2) hx hb dL_law_1102 (by decide) ?_
    refine lv_iadd hx hb dL_law_1103 ?_
    refine sy_top (y := nI (7 * k + 2)) (nI_add _ _) ?_
    refine va_sld hx hb hX hbl hbA hS (vp_in_nI (show 7 * k + 2 < L by omega) (by omega)) dL_law_1104 ?_
    refine sy_top (y := xs (7 * k + 2)) (by rw [nI_clamp (by omega)]) ?_
    refine sy_kv (sy_rV (o := 0) (As := [.int (xs (7 * k + 1)), .int (xs (7 * k + 2))]) (rest := []) ⟨hx, hb, hml, hown, hts⟩ hE hP hS (mX7_notice l hfl Z nT nK cT cK ad g q (xs (7 * k + 1)) (xs (7 * k + 2)) hI.2.1) (cwV 2 hts (gl_V uk_5_200 uk_5_201 uk_5_202 uk_1_9 uk_5_203) rfl rfl rfl (by decide +kernel) ⟨Nat.le_of_ble_eq_true rfl, Nat.le_of_ble_eq_true rfl⟩) (sy_recv (kc := 8) hE hP rfl (by decide) rfl rfl rfl) rfl hl.1 rfl (Nat.le_of_ble_eq_true rfl) dL_law_1105 ⟨by show _ ≤ 601024; (try dsimp only); omega, by show _ ≤ 7293034; (try dsimp only); omega⟩) hS (fun g2 q2 H locs e2 hP hS => ?_)
    obtain ⟨rfl, rfl⟩ : (fX7_notice g q (xs (7 * k + 1)) (xs (7 * k + 2))) = g2 ∧ q = q2 := by cases e2; exact ⟨rfl, rfl⟩
    refine lv_aload_n hx hb dL_law_1108 rfl (lv_at hl 4 rfl) ?_
    refine sy_ki (sy_rV (o := 0) (As := []) (rest := []) ⟨hx, hb, hml, hown, hts⟩ hE hP hS (mX7_thrown l hfl Z nT nK cT cK ad (fX7_notice g q (xs (7 * k + 1)) (xs (7 * k + 2))) q) (cwV 0 hts (gl_V uk_5_93 uk_5_94 uk_5_95 uk_1_9 uk_5_96) rfl rfl rfl (by decide +kernel) ⟨Nat.le_of_ble_eq_true rfl, Nat.le_of_ble_eq_true rfl⟩) (sy_recv (kc := 8) hE hP rfl (by decide) rfl rfl rfl) rfl hl.1 rfl (Nat.le_of_ble_eq_true rfl) dL_law_1109 ⟨by show _ ≤ 601024; (try dsimp only); omega, by show _ ≤ 7293034; (try dsimp only); omega⟩) hS (fun b3 g3 q3 H locs e3 hP hS => ?_)
    obtain ⟨rfl, rfl, rfl⟩ : (fX7_notice g q (xs (7 * k + 1)) (xs (7 * k + 2))) 0 0 = b3 ∧ (fX7_notice g q (xs (7 * k + 1)) (xs (7 * k + 2))) = g3 ∧ q = q3 := by cases e3; exact ⟨rfl, rfl, rfl⟩
    refine sy_top (y := (wf 1 9 2 (fX6_notice g q (xs (7 * k + 1)) (xs (7 * k + 2))).1)) st.1 ?_
    refine lv_iload hx hb dL_law_1112 (lv_at hl 0 rfl) ?_
    refine lv_icmp_eq (tgt := 1119) hx hb dL_law_1114 (by decide) (fun _ => ?_) (fun c9 => absurd rfl c9)
    refine lv_goto (tgt := 2272) hx hb dL_law_1119 (by decide) ?_
    refine W.widen (k := 100 + 16 * (k + 1)) (n := 4000 + 200 * (k + 1)) (by (try dsimp only); omega) (by (try dsimp only); omega) ?_
    exact hJ _ _ _ _ _ _ _ _ _ _ ⟨hP, by rw [Nat.succ_mul]; exact st.2.2, h70, h71, hS, lv_sub hl [1, 2, 3, 4, 5] rfl⟩
set_option maxHeartbeats 8000000 in
set_option maxRecDepth 100000 in
theorem lc_show (hC : lCtx p l s m meth c b L xs Z) {k : Nat} (hk : 7 * k + 7 ≤ L) (hL : L ≤ 3584) (hJ : ∀ (nT nK cT cK : Nat) (ad : Nat → Nat) (g : sG) (q : sQ) (H : Heap) (locs : List Loc) (ls : Array Slot), lSt Z s b k (k + 1) nT nK cT cK ad g q H locs ls → W p l e room_1 s m #[Value.ref b] below meth c H locs (100 + 16 * (k + 1)) (4000 + 200 * (k + 1)) (lw_Z below #[Value.ref b] s) (F0 m 2272 ls []))
    {nT nK cT cK : Nat} {ad : Nat → Nat} {g : sG} {q : sQ} {H : Heap} {locs : List Loc} {ls : Array Slot} (h : lSt Z s b k k nT nK cT cK ad g q H locs ls) : W p l e room_1 s m #[Value.ref b] below meth c H locs (100 + 16 * k) (4000 + 200 * k) (lw_Z below #[Value.ref b] s) (F0 m 1122 ls []) := by
  obtain ⟨hx, hb, hr, hml, hown, hts, hX, hbl, hlocks, hZ, hE, hNc, hfl⟩ := hC
  obtain ⟨hP, hI, h70, h71, hS, hl⟩ := h
  have hbA : ¬ sy_A Z b := fun z => absurd (show Z.2.2.1 ≤ b from z) (by omega)
  have hkB : k * oB ≤ 2048000000 := by
    have : k ≤ 511 := by omega
    calc k * oB ≤ 511 * 4000000 := Nat.mul_le_mul this (Nat.le_refl _)
      _ ≤ 2048000000 := by decide
  refine lv_aload_n hx hb dL_law_1122 rfl (lv_at hl 2 rfl) ?_
  refine lv_aload_n hx hb dL_law_1123 rfl (lv_at hl 1 rfl) ?_
  refine lv_iload hx hb dL_law_1124 (lv_at hl 0 rfl) ?_
  refine lv_iconst (v := 1) hx hb dL_law_1126 (by decide) ?_
  refine lv_iadd hx hb dL_law_1127 ?_
  refine sy_top (y := nI (7 * k + 1)) (nI_add _ _) ?_
  refine va_sld hx hb hX hbl hbA hS (vp_in_nI (show 7 * k + 1 < L by omega) (by omega)) dL_law_1128 ?_
  refine sy_top (y := xs (7 * k + 1)) (by rw [nI_clamp (by omega)]) ?_
  refine lv_aload_n hx hb dL_law_1129 rfl (lv_at hl 4 rfl) ?_
  have hCode : wf 1 9 2 (fX6_show g q (xs (7 * k + 1))).1 ≠ 9 := (by
        by_cases z : (fX6_show g q (xs (7 * k + 1))).1 = 0
        · rw [z]; exact (by decide : (0 : Int32) ≠ 9)
        · exact (st_no hI (fun gm hg => o_show (q' := (fX6_show g q (xs (7 * k + 1))).2.2.2) hg (xs (7 * k + 1))) n6_show (fun gm => f7_show) z).2.1)
  refine va_calli (vx_runSW (As := [.ref (ad 60), .int (xs (7 * k + 1)), .ref (ad 90)]) (rest := []) ⟨hx, hb, hml, hown, hts⟩ (mL_show l hfl Z nT nK cT cK ad g q (xs (7 * k + 1)) (by have := inv_T hI; omega) (inv_IG hI) (inv_IQ hI) hCode) (vx_cwSW 3 hts (gl_S uk_4_1 uk_4_2 uk_1_0 uk_4_3) rfl rfl rfl (by decide +kernel) ⟨Nat.le_of_ble_eq_true rfl, Nat.le_of_ble_eq_true rfl⟩) ⟨sPreL_blind _, fun U hU hW => ⟨rfl, ⟨hE.next hS hU hW.alike, by rw [hU]; exact hP⟩, hNc.next hW.alike⟩⟩ rfl rfl hl.1 rfl (lv_room (Nat.le_of_ble_eq_true rfl)) dL_law_1130 ⟨by show _ ≤ 601024; (try dsimp only); omega, by show _ ≤ 7293034; (try dsimp only); omega⟩) hS (fun _ _ h => h) (fun _ h => h) (fun r u t H locs ht _ hp hB _ _ hS => ?_)
  obtain ⟨g1, q1⟩ := u
  have hP := hB.2
  rw [ht] at hP
  dsimp only at hp hP
  rcases hp with ⟨h0, rfl, rfl, rfl⟩ | ⟨h0, rfl, hg9, hq9⟩
  · refine lv_istore (lv' := [(5, .int 0), (4, .int (nI (7 * k))), (0, .ref b), (1, .ref (ad 60)), (2, .ref (ad 0)), (3, .ref (ad 90))]) hx hb dL_law_1133 hl (by decide) rfl (fun ls hl => ?_)
    have st := st_yes hI (F := fun gm => fX7_show gm (fX6_show g q (xs (7 * k + 1))).2.2.2 (xs (7 * k + 1))) (fun gm hg => o_show (q' := (fX6_show g q (xs (7 * k + 1))).2.2.2) hg (xs (7 * k + 1))) f6_show (fun gm => f7_show) h0
    try dsimp only at st
    refine lv_aload_n hx hb dL_law_1135 rfl (lv_at hl 4 rfl) ?_
    refine lv_aload_n hx hb dL_law_1136 rfl (lv_at hl 2 rfl) ?_
    refine lv_iload hx hb dL_law_1137 (lv_at hl 1 rfl) ?_
    refine lv_iconst (v := 1) hx hb dL_law_1139 (by decide) ?_
    refine lv_iadd hx hb dL_law_1140 ?_
    refine sy_top (y := nI (7 * k + 1)) (nI_add _ _) ?_
    refine va_sld hx hb hX hbl hbA hS (vp_in_nI (show 7 * k + 1 < L by omega) (by omega)) dL_law_1141 ?_
    refine sy_top (y := xs (7 * k + 1)) (by rw [nI_clamp (by omega)]) ?_
    refine sy_ki (sy_rV (o := 0) (As := [.int (xs (7 * k + 1))]) (rest := []) ⟨hx, hb, hml, hown, hts⟩ hE hP hS (mX7_show l hfl Z nT nK cT cK ad (sy_up (fX6_show g q (xs (7 * k + 1))).2.2.1 90 0 (fX6_show g q (xs (7 * k + 1))).2.1) (fX6_show g q (xs (7 * k + 1))).2.2.2 (xs (7 * k + 1)) st.1.2.1) (cwV 1 hts (gl_V uk_5_204 uk_5_205 uk_5_206 uk_1_9 uk_5_207) rfl rfl rfl (by decide +kernel) ⟨Nat.le_of_ble_eq_true rfl, Nat.le_of_ble_eq_true rfl⟩) (sy_recv (kc := 8) hE hP rfl (by decide) rfl rfl rfl) rfl hl.1 rfl (Nat.le_of_ble_eq_true rfl) dL_law_1142 ⟨by show _ ≤ 601024; (try dsimp only); omega, by show _ ≤ 7293034; (try dsimp only); omega⟩) hS (fun b2 g2 q2 H locs e2 hP hS => ?_)
    obtain ⟨rfl, rfl, rfl⟩ : (fX7_show (sy_up (fX6_show g q (xs (7 * k + 1))).2.2.1 90 0 (fX6_show g q (xs (7 * k + 1))).2.1) (fX6_show g q (xs (7 * k + 1))).2.2.2 (xs (7 * k + 1))).1 = b2 ∧ (fX7_show (sy_up (fX6_show g q (xs (7 * k + 1))).2.2.1 90 0 (fX6_show g q (xs (7 * k + 1))).2.1) (fX6_show g q (xs (7 * k + 1))).2.2.2 (xs (7 * k + 1))).2 = g2 ∧ (fX6_show g q (xs (7 * k + 1))).2.2.2 = q2 := by cases e2; exact ⟨rfl, rfl, rfl⟩
    refine lv_istore (lv' := [(6, .int (fX7_show (sy_up (fX6_show g q (xs (7 * k + 1))).2.2.1 90 0 (fX6_show g q (xs (7 * k + 1))).2.1) (fX6_show g q (xs (7 * k + 1))).2.2.2 (xs (7 * k + 1))).1), (5, .int 0), (4, .int (nI (7 * k))), (0, .ref b), (1, .ref (ad 60)), (2, .ref (ad 0)), (3, .ref (ad 90))]) hx hb dL_law_1145 hl (by decide) rfl (fun ls hl => ?_)
    refine lv_aload_n hx hb dL_law_1147 rfl (lv_at hl 5 rfl) ?_
    refine sy_ki (sy_rV (o := 0) (As := []) (rest := []) ⟨hx, hb, hml, hown, hts⟩ hE hP hS (mX7_thrown l hfl Z nT nK cT cK ad (fX7_show (sy_up (fX6_show g q (xs (7 * k + 1))).2.2.1 90 0 (fX6_show g q (xs (7 * k + 1))).2.1) (fX6_show g q (xs (7 * k + 1))).2.2.2 (xs (7 * k + 1))).2 (fX6_show g q (xs (7 * k + 1))).2.2.2) (cwV 0 hts (gl_V uk_5_93 uk_5_94 uk_5_95 uk_1_9 uk_5_96) rfl rfl rfl (by decide +kernel) ⟨Nat.le_of_ble_eq_true rfl, Nat.le_of_ble_eq_true rfl⟩) (sy_recv (kc := 8) hE hP rfl (by decide) rfl rfl rfl) rfl hl.1 rfl (Nat.le_of_ble_eq_true rfl) dL_law_1148 ⟨by show _ ≤ 601024; (try dsimp only); omega, by show _ ≤ 7293034; (try dsimp only); omega⟩) hS (fun b3 g3 q3 H locs e3 hP hS => ?_)
    obtain ⟨rfl, rfl, rfl⟩ : (fX7_show (sy_up (fX6_show g q (xs (7 * k + 1))).2.2.1 90 0 (fX6_show g q (xs (7 * k + 1))).2.1) (fX6_show g q (xs (7 * k + 1))).2.2.2 (xs (7 * k + 1))).2 0 0 = b3 ∧ (fX7_show (sy_up (fX6_show g q (xs (7 * k + 1))).2.2.1 90 0 (fX6_show g q (xs (7 * k + 1))).2.1) (fX6_show g q (xs (7 * k + 1))).2.2.2 (xs (7 * k + 1))).2 = g3 ∧ (fX6_show g q (xs (7 * k + 1))).2.2.2 = q3 := by cases e3; exact ⟨rfl, rfl, rfl⟩
    refine sy_top (y := 0) st.2.1 ?_
    refine lv_iload hx hb dL_law_1151 (lv_at hl 1 rfl) ?_
    refine lv_icmp_eq (tgt := 1158) hx hb dL_law_1153 (by decide) (fun _ => ?_) (fun c9 => absurd rfl c9)
    refine lv_iload hx hb dL_law_1158 (lv_at hl 1 rfl) ?_
    refine lv_if_ne (tgt := 1175) hx hb dL_law_1160 (by decide) (fun c9 => absurd rfl c9) (fun _ => ?_)
    refine lv_aload_n hx hb dL_law_1163 rfl (lv_at hl 6 rfl) ?_
    refine lv_iconst (v := 0) hx hb dL_law_1164 (by decide) ?_
    refine sy_lald hx hb hE hP 90 rfl (i := 0) (k_in rfl) dL_law_1165 ?_
    refine lv_iload hx hb dL_law_1166 (lv_at hl 0 rfl) ?_
    refine lv_i2l (v := ((fX7_show (sy_up (fX6_show g q (xs (7 * k + 1))).2.2.1 90 0 (fX6_show g q (xs (7 * k + 1))).2.1) (fX6_show g q (xs (7 * k + 1))).2.2.2 (xs (7 * k + 1))).2 90 0).toInt64) hx hb dL_law_1168 (by rw [st.2.2.2.1, st.2.2.1]) ?_
    refine lv_lcmp0 hx hb dL_law_1169 ?_
    refine lv_if_eq (tgt := 1175) hx hb dL_law_1170 (by decide) (fun _ => ?_) (fun c9 => absurd rfl c9)
    refine lv_goto (tgt := 2272) hx hb dL_law_1175 (by decide) ?_
    refine W.widen (k := 100 + 16 * (k + 1)) (n := 4000 + 200 * (k + 1)) (by (try dsimp only); omega) (by (try dsimp only); omega) ?_
    exact hJ _ _ _ _ _ _ _ _ _ _ ⟨hP, by rw [Nat.succ_mul]; exact st.2.2.2.2, h70, h71, hS, lv_sub hl [2, 3, 4, 5, 6] rfl⟩
  · replace hg9 := hg9.symm
    replace hq9 := hq9.symm
    subst hg9
    subst hq9
    refine lv_istore (lv' := [(5, .int (wf 1 9 2 (fX6_show g q (xs (7 * k + 1))).1)), (4, .int (nI (7 * k))), (0, .ref b), (1, .ref (ad 60)), (2, .ref (ad 0)), (3, .ref (ad 90))]) hx hb dL_law_1133 hl (by decide) rfl (fun ls hl => ?_)
    have st := st_no hI (F := fun gm => fX7_show gm q (xs (7 * k + 1))) (fun gm hg => o_show (q' := q) hg (xs (7 * k + 1))) n6_show (fun gm => f7_show) h0
    try dsimp only at st
    refine lv_aload_n hx hb dL_law_1135 rfl (lv_at hl 4 rfl) ?_
    refine lv_aload_n hx hb dL_law_1136 rfl (lv_at hl 2 rfl) ?_
    refine lv_iload hx hb dL_law_1137 (lv_at hl 1 rfl) ?_
    refine lv_iconst (v := 1) hx hb dL_law_1139 (by decide) ?_
    refine lv_iadd hx hb dL_law_1140 ?_
    refine sy_top (y := nI (7 * k + 1)) (nI_add _ _) ?_
    refine va_sld hx hb hX hbl hbA hS (vp_in_nI (show 7 * k + 1 < L by omega) (by omega)) dL_law_1141 ?_
    refine sy_top (y := xs (7 * k + 1)) (by rw [nI_clamp (by omega)]) ?_
    refine sy_ki (sy_rV (o := 0) (As := [.int (xs (7 * k + 1))]) (rest := []) ⟨hx, hb, hml, hown, hts⟩ hE hP hS (mX7_show l hfl Z nT nK cT cK ad g q (xs (7 * k + 1)) hI.2.1) (cwV 1 hts (gl_V uk_5_204 uk_5_205 uk_5_206 uk_1_9 uk_5_207) rfl rfl rfl (by decide +kernel) ⟨Nat.le_of_ble_eq_true rfl, Nat.le_of_ble_eq_true rfl⟩) (sy_recv (kc := 8) hE hP rfl (by decide) rfl rfl rfl) rfl hl.1 rfl (Nat.le_of_ble_eq_true rfl) dL_law_1142 ⟨by show _ ≤ 601024; (try dsimp only); omega, by show _ ≤ 7293034; (try dsimp only); omega⟩) hS (fun b2 g2 q2 H locs e2 hP hS => ?_)
    obtain ⟨rfl, rfl, rfl⟩ : (fX7_show g q (xs (7 * k + 1))).1 = b2 ∧ (fX7_show g q (xs (7 * k + 1))).2 = g2 ∧ q = q2 := by cases e2; exact ⟨rfl, rfl, rfl⟩
    refine lv_istore (lv' := [(6, .int (fX7_show g q (xs (7 * k + 1))).1), (5, .int (wf 1 9 2 (fX6_show g q (xs (7 * k + 1))).1)), (4, .int (nI (7 * k))), (0, .ref b), (1, .ref (ad 60)), (2, .ref (ad 0)), (3, .ref (ad 90))]) hx hb dL_law_1145 hl (by decide) rfl (fun ls hl => ?_)
    refine lv_aload_n hx hb dL_law_1147 rfl (lv_at hl 5 rfl) ?_
    refine sy_ki (sy_rV (o := 0) (As := []) (rest := []) ⟨hx, hb, hml, hown, hts⟩ hE hP hS (mX7_thrown l hfl Z nT nK cT cK ad (fX7_show g q (xs (7 * k + 1))).2 q) (cwV 0 hts (gl_V uk_5_93 uk_5_94 uk_5_95 uk_1_9 uk_5_96) rfl rfl rfl (by decide +kernel) ⟨Nat.le_of_ble_eq_true rfl, Nat.le_of_ble_eq_true rfl⟩) (sy_recv (kc := 8) hE hP rfl (by decide) rfl rfl rfl) rfl hl.1 rfl (Nat.le_of_ble_eq_true rfl) dL_law_1148 ⟨by show _ ≤ 601024; (try dsimp only); omega, by show _ ≤ 7293034; (try dsimp only); omega⟩) hS (fun b3 g3 q3 H locs e3 hP hS => ?_)
    obtain ⟨rfl, rfl, rfl⟩ : (fX7_show g q (xs (7 * k + 1))).2 0 0 = b3 ∧ (fX7_show g q (xs (7 * k + 1))).2 = g3 ∧ q = q3 := by cases e3; exact ⟨rfl, rfl, rfl⟩
    refine sy_top (y := (wf 1 9 2 (fX6_show g q (xs (7 * k + 1))).1)) st.1 ?_
    refine lv_iload hx hb dL_law_1151 (lv_at hl 1 rfl) ?_
    refine lv_icmp_eq (tgt := 1158) hx hb dL_law_1153 (by decide) (fun _ => ?_) (fun c9 => absurd rfl c9)
    refine lv_iload hx hb dL_law_1158 (lv_at hl 1 rfl) ?_
    refine lv_if_ne (tgt := 1175) hx hb dL_law_1160 (by decide) (fun _ => ?_) (fun c9 => absurd c9 ((wf_ne h0 hCode).resolve_right (by decide)))
    refine lv_goto (tgt := 2272) hx hb dL_law_1175 (by decide) ?_
    refine W.widen (k := 100 + 16 * (k + 1)) (n := 4000 + 200 * (k + 1)) (by (try dsimp only); omega) (by (try dsimp only); omega) ?_
    exact hJ _ _ _ _ _ _ _ _ _ _ ⟨hP, by rw [Nat.succ_mul]; exact st.2.2, h70, h71, hS, lv_sub hl [2, 3, 4, 5, 6] rfl⟩
set_option maxHeartbeats 8000000 in
set_option maxRecDepth 100000 in
theorem lc_police (hC : lCtx p l s m meth c b L xs Z) {k : Nat} (hk : 7 * k + 7 ≤ L) (hL : L ≤ 3584) (hJ : ∀ (nT nK cT cK : Nat) (ad : Nat → Nat) (g : sG) (q : sQ) (H : Heap) (locs : List Loc) (ls : Array Slot), lSt Z s b k (k + 1) nT nK cT cK ad g q H locs ls → W p l e room_1 s m #[Value.ref b] below meth c H locs (100 + 16 * (k + 1)) (4000 + 200 * (k + 1)) (lw_Z below #[Value.ref b] s) (F0 m 2272 ls []))
    {nT nK cT cK : Nat} {ad : Nat → Nat} {g : sG} {q : sQ} {H : Heap} {locs : List Loc} {ls : Array Slot} (h : lSt Z s b k k nT nK cT cK ad g q H locs ls) : W p l e room_1 s m #[Value.ref b] below meth c H locs (100 + 16 * k) (4000 + 200 * k) (lw_Z below #[Value.ref b] s) (F0 m 1178 ls []) := by
  obtain ⟨hx, hb, hr, hml, hown, hts, hX, hbl, hlocks, hZ, hE, hNc, hfl⟩ := hC
  obtain ⟨hP, hI, h70, h71, hS, hl⟩ := h
  have hbA : ¬ sy_A Z b := fun z => absurd (show Z.2.2.1 ≤ b from z) (by omega)
  have hkB : k * oB ≤ 2048000000 := by
    have : k ≤ 511 := by omega
    calc k * oB ≤ 511 * 4000000 := Nat.mul_le_mul this (Nat.le_refl _)
      _ ≤ 2048000000 := by decide
  refine lv_aload_n hx hb dL_law_1178 rfl (lv_at hl 2 rfl) ?_
  refine lv_aload_n hx hb dL_law_1179 rfl (lv_at hl 1 rfl) ?_
  refine lv_iload hx hb dL_law_1180 (lv_at hl 0 rfl) ?_
  refine lv_iconst (v := 1) hx hb dL_law_1182 (by decide) ?_
  refine lv_iadd hx hb dL_law_1183 ?_
  refine sy_top (y := nI (7 * k + 1)) (nI_add _ _) ?_
  refine va_sld hx hb hX hbl hbA hS (vp_in_nI (show 7 * k + 1 < L by omega) (by omega)) dL_law_1184 ?_
  refine sy_top (y := xs (7 * k + 1)) (by rw [nI_clamp (by omega)]) ?_
  refine lv_aload_n hx hb dL_law_1185 rfl (lv_at hl 4 rfl) ?_
  have hCode : wf 1 9 2 (fX6_police g q (xs (7 * k + 1))).1 ≠ 9 := (by
        by_cases z : (fX6_police g q (xs (7 * k + 1))).1 = 0
        · rw [z]; exact (by decide : (0 : Int32) ≠ 9)
        · exact (st_no hI (fun gm hg => o_police (q' := (fX6_police g q (xs (7 * k + 1))).2.2.2) hg (xs (7 * k + 1))) n6_police (fun gm => f7_police) z).2.1)
  refine va_calli (vx_runSW (As := [.ref (ad 60), .int (xs (7 * k + 1)), .ref (ad 90)]) (rest := []) ⟨hx, hb, hml, hown, hts⟩ (mL_police l hfl Z nT nK cT cK ad g q (xs (7 * k + 1)) (by have := inv_T hI; omega) (inv_IG hI) (inv_IQ hI) hCode) (vx_cwSW 3 hts (gl_S uk_4_8 uk_4_9 uk_1_0 uk_4_10) rfl rfl rfl (by decide +kernel) ⟨Nat.le_of_ble_eq_true rfl, Nat.le_of_ble_eq_true rfl⟩) ⟨sPreL_blind _, fun U hU hW => ⟨rfl, ⟨hE.next hS hU hW.alike, by rw [hU]; exact hP⟩, hNc.next hW.alike⟩⟩ rfl rfl hl.1 rfl (lv_room (Nat.le_of_ble_eq_true rfl)) dL_law_1186 ⟨by show _ ≤ 601024; (try dsimp only); omega, by show _ ≤ 7293034; (try dsimp only); omega⟩) hS (fun _ _ h => h) (fun _ h => h) (fun r u t H locs ht _ hp hB _ _ hS => ?_)
  obtain ⟨g1, q1⟩ := u
  have hP := hB.2
  rw [ht] at hP
  dsimp only at hp hP
  rcases hp with ⟨h0, rfl, rfl, rfl⟩ | ⟨h0, rfl, hg9, hq9⟩
  · refine lv_istore (lv' := [(5, .int 0), (4, .int (nI (7 * k))), (0, .ref b), (1, .ref (ad 60)), (2, .ref (ad 0)), (3, .ref (ad 90))]) hx hb dL_law_1189 hl (by decide) rfl (fun ls hl => ?_)
    have st := st_yes hI (F := fun gm => fX7_police gm (fX6_police g q (xs (7 * k + 1))).2.2.2 (xs (7 * k + 1))) (fun gm hg => o_police (q' := (fX6_police g q (xs (7 * k + 1))).2.2.2) hg (xs (7 * k + 1))) f6_police (fun gm => f7_police) h0
    try dsimp only at st
    refine lv_aload_n hx hb dL_law_1191 rfl (lv_at hl 4 rfl) ?_
    refine lv_aload_n hx hb dL_law_1192 rfl (lv_at hl 2 rfl) ?_
    refine lv_iload hx hb dL_law_1193 (lv_at hl 1 rfl) ?_
    refine lv_iconst (v := 1) hx hb dL_law_1195 (by decide) ?_
    refine lv_iadd hx hb dL_law_1196 ?_
    refine sy_top (y := nI (7 * k + 1)) (nI_add _ _) ?_
    refine va_sld hx hb hX hbl hbA hS (vp_in_nI (show 7 * k + 1 < L by omega) (by omega)) dL_law_1197 ?_
    refine sy_top (y := xs (7 * k + 1)) (by rw [nI_clamp (by omega)]) ?_
    refine sy_ki (sy_rV (o := 0) (As := [.int (xs (7 * k + 1))]) (rest := []) ⟨hx, hb, hml, hown, hts⟩ hE hP hS (mX7_police l hfl Z nT nK cT cK ad (sy_up (fX6_police g q (xs (7 * k + 1))).2.2.1 90 0 (fX6_police g q (xs (7 * k + 1))).2.1) (fX6_police g q (xs (7 * k + 1))).2.2.2 (xs (7 * k + 1)) st.1.2.1) (cwV 1 hts (gl_V uk_5_208 uk_5_209 uk_5_210 uk_1_9 uk_5_211) rfl rfl rfl (by decide +kernel) ⟨Nat.le_of_ble_eq_true rfl, Nat.le_of_ble_eq_true rfl⟩) (sy_recv (kc := 8) hE hP rfl (by decide) rfl rfl rfl) rfl hl.1 rfl (Nat.le_of_ble_eq_true rfl) dL_law_1198 ⟨by show _ ≤ 601024; (try dsimp only); omega, by show _ ≤ 7293034; (try dsimp only); omega⟩) hS (fun b2 g2 q2 H locs e2 hP hS => ?_)
    obtain ⟨rfl, rfl, rfl⟩ : (fX7_police (sy_up (fX6_police g q (xs (7 * k + 1))).2.2.1 90 0 (fX6_police g q (xs (7 * k + 1))).2.1) (fX6_police g q (xs (7 * k + 1))).2.2.2 (xs (7 * k + 1))).1 = b2 ∧ (fX7_police (sy_up (fX6_police g q (xs (7 * k + 1))).2.2.1 90 0 (fX6_police g q (xs (7 * k + 1))).2.1) (fX6_police g q (xs (7 * k + 1))).2.2.2 (xs (7 * k + 1))).2 = g2 ∧ (fX6_police g q (xs (7 * k + 1))).2.2.2 = q2 := by cases e2; exact ⟨rfl, rfl, rfl⟩
    refine lv_istore (lv' := [(6, .int (fX7_police (sy_up (fX6_police g q (xs (7 * k + 1))).2.2.1 90 0 (fX6_police g q (xs (7 * k + 1))).2.1) (fX6_police g q (xs (7 * k + 1))).2.2.2 (xs (7 * k + 1))).1), (5, .int 0), (4, .int (nI (7 * k))), (0, .ref b), (1, .ref (ad 60)), (2, .ref (ad 0)), (3, .ref (ad 90))]) hx hb dL_law_1201 hl (by decide) rfl (fun ls hl => ?_)
    refine lv_aload_n hx hb dL_law_1203 rfl (lv_at hl 5 rfl) ?_
    refine sy_ki (sy_rV (o := 0) (As := []) (rest := []) ⟨hx, hb, hml, hown, hts⟩ hE hP hS (mX7_thrown l hfl Z nT nK cT cK ad (fX7_police (sy_up (fX6_police g q (xs (7 * k + 1))).2.2.1 90 0 (fX6_police g q (xs (7 * k + 1))).2.1) (fX6_police g q (xs (7 * k + 1))).2.2.2 (xs (7 * k + 1))).2 (fX6_police g q (xs (7 * k + 1))).2.2.2) (cwV 0 hts (gl_V uk_5_93 uk_5_94 uk_5_95 uk_1_9 uk_5_96) rfl rfl rfl (by decide +kernel) ⟨Nat.le_of_ble_eq_true rfl, Nat.le_of_ble_eq_true rfl⟩) (sy_recv (kc := 8) hE hP rfl (by decide) rfl rfl rfl) rfl hl.1 rfl (Nat.le_of_ble_eq_true rfl) dL_law_1204 ⟨by show _ ≤ 601024; (try dsimp only); omega, by show _ ≤ 7293034; (try dsimp only); omega⟩) hS (fun b3 g3 q3 H locs e3 hP hS => ?_)
    obtain ⟨rfl, rfl, rfl⟩ : (fX7_police (sy_up (fX6_police g q (xs (7 * k + 1))).2.2.1 90 0 (fX6_police g q (xs (7 * k + 1))).2.1) (fX6_police g q (xs (7 * k + 1))).2.2.2 (xs (7 * k + 1))).2 0 0 = b3 ∧ (fX7_police (sy_up (fX6_police g q (xs (7 * k + 1))).2.2.1 90 0 (fX6_police g q (xs (7 * k + 1))).2.1) (fX6_police g q (xs (7 * k + 1))).2.2.2 (xs (7 * k + 1))).2 = g3 ∧ (fX6_police g q (xs (7 * k + 1))).2.2.2 = q3 := by cases e3; exact ⟨rfl, rfl, rfl⟩
    refine sy_top (y := 0) st.2.1 ?_
    refine lv_iload hx hb dL_law_1207 (lv_at hl 1 rfl) ?_
    refine lv_icmp_eq (tgt := 1214) hx hb dL_law_1209 (by decide) (fun _ => ?_) (fun c9 => absurd rfl c9)
    refine lv_iload hx hb dL_law_1214 (lv_at hl 1 rfl) ?_
    refine lv_if_ne (tgt := 1231) hx hb dL_law_1216 (by decide) (fun c9 => absurd rfl c9) (fun _ => ?_)
    refine lv_aload_n hx hb dL_law_1219 rfl (lv_at hl 6 rfl) ?_
    refine lv_iconst (v := 0) hx hb dL_law_1220 (by decide) ?_
    refine sy_lald hx hb hE hP 90 rfl (i := 0) (k_in rfl) dL_law_1221 ?_
    refine lv_iload hx hb dL_law_1222 (lv_at hl 0 rfl) ?_
    refine lv_i2l (v := ((fX7_police (sy_up (fX6_police g q (xs (7 * k + 1))).2.2.1 90 0 (fX6_police g q (xs (7 * k + 1))).2.1) (fX6_police g q (xs (7 * k + 1))).2.2.2 (xs (7 * k + 1))).2 90 0).toInt64) hx hb dL_law_1224 (by rw [st.2.2.2.1, st.2.2.1]) ?_
    refine lv_lcmp0 hx hb dL_law_1225 ?_
    refine lv_if_eq (tgt := 1231) hx hb dL_law_1226 (by decide) (fun _ => ?_) (fun c9 => absurd rfl c9)
    refine lv_goto (tgt := 2272) hx hb dL_law_1231 (by decide) ?_
    refine W.widen (k := 100 + 16 * (k + 1)) (n := 4000 + 200 * (k + 1)) (by (try dsimp only); omega) (by (try dsimp only); omega) ?_
    exact hJ _ _ _ _ _ _ _ _ _ _ ⟨hP, by rw [Nat.succ_mul]; exact st.2.2.2.2, h70, h71, hS, lv_sub hl [2, 3, 4, 5, 6] rfl⟩
  · replace hg9 := hg9.symm
    replace hq9 := hq9.symm
    subst hg9
    subst hq9
    refine lv_istore (lv' := [(5, .int (wf 1 9 2 (fX6_police g q (xs (7 * k + 1))).1)), (4, .int (nI (7 * k))), (0, .ref b), (1, .ref (ad 60)), (2, .ref (ad 0)), (3, .ref (ad 90))]) hx hb dL_law_1189 hl (by decide) rfl (fun ls hl => ?_)
    have st := st_no hI (F := fun gm => fX7_police gm q (xs (7 * k + 1))) (fun gm hg => o_police (q' := q) hg (xs (7 * k + 1))) n6_police (fun gm => f7_police) h0
    try dsimp only at st
    refine lv_aload_n hx hb dL_law_1191 rfl (lv_at hl 4 rfl) ?_
    refine lv_aload_n hx hb dL_law_1192 rfl (lv_at hl 2 rfl) ?_
    refine lv_iload hx hb dL_law_1193 (lv_at hl 1 rfl) ?_
    refine lv_iconst (v := 1) hx hb dL_law_1195 (by decide) ?_
    refine lv_iadd hx hb dL_law_1196 ?_
    refine sy_top (y := nI (7 * k + 1)) (nI_add _ _) ?_
    refine va_sld hx hb hX hbl hbA hS (vp_in_nI (show 7 * k + 1 < L by omega) (by omega)) dL_law_1197 ?_
    refine sy_top (y := xs (7 * k + 1)) (by rw [nI_clamp (by omega)]) ?_
    refine sy_ki (sy_rV (o := 0) (As := [.int (xs (7 * k + 1))]) (rest := []) ⟨hx, hb, hml, hown, hts⟩ hE hP hS (mX7_police l hfl Z nT nK cT cK ad g q (xs (7 * k + 1)) hI.2.1) (cwV 1 hts (gl_V uk_5_208 uk_5_209 uk_5_210 uk_1_9 uk_5_211) rfl rfl rfl (by decide +kernel) ⟨Nat.le_of_ble_eq_true rfl, Nat.le_of_ble_eq_true rfl⟩) (sy_recv (kc := 8) hE hP rfl (by decide) rfl rfl rfl) rfl hl.1 rfl (Nat.le_of_ble_eq_true rfl) dL_law_1198 ⟨by show _ ≤ 601024; (try dsimp only); omega, by show _ ≤ 7293034; (try dsimp only); omega⟩) hS (fun b2 g2 q2 H locs e2 hP hS => ?_)
    obtain ⟨rfl, rfl, rfl⟩ : (fX7_police g q (xs (7 * k + 1))).1 = b2 ∧ (fX7_police g q (xs (7 * k + 1))).2 = g2 ∧ q = q2 := by cases e2; exact ⟨rfl, rfl, rfl⟩
    refine lv_istore (lv' := [(6, .int (fX7_police g q (xs (7 * k + 1))).1), (5, .int (wf 1 9 2 (fX6_police g q (xs (7 * k + 1))).1)), (4, .int (nI (7 * k))), (0, .ref b), (1, .ref (ad 60)), (2, .ref (ad 0)), (3, .ref (ad 90))]) hx hb dL_law_1201 hl (by decide) rfl (fun ls hl => ?_)
    refine lv_aload_n hx hb dL_law_1203 rfl (lv_at hl 5 rfl) ?_
    refine sy_ki (sy_rV (o := 0) (As := []) (rest := []) ⟨hx, hb, hml, hown, hts⟩ hE hP hS (mX7_thrown l hfl Z nT nK cT cK ad (fX7_police g q (xs (7 * k + 1))).2 q) (cwV 0 hts (gl_V uk_5_93 uk_5_94 uk_5_95 uk_1_9 uk_5_96) rfl rfl rfl (by decide +kernel) ⟨Nat.le_of_ble_eq_true rfl, Nat.le_of_ble_eq_true rfl⟩) (sy_recv (kc := 8) hE hP rfl (by decide) rfl rfl rfl) rfl hl.1 rfl (Nat.le_of_ble_eq_true rfl) dL_law_1204 ⟨by show _ ≤ 601024; (try dsimp only); omega, by show _ ≤ 7293034; (try dsimp only); omega⟩) hS (fun b3 g3 q3 H locs e3 hP hS => ?_)
    obtain ⟨rfl, rfl, rfl⟩ : (fX7_police g q (xs (7 * k + 1))).2 0 0 = b3 ∧ (fX7_police g q (xs (7 * k + 1))).2 = g3 ∧ q = q3 := by cases e3; exact ⟨rfl, rfl, rfl⟩
    refine sy_top (y := (wf 1 9 2 (fX6_police g q (xs (7 * k + 1))).1)) st.1 ?_
    refine lv_iload hx hb dL_law_1207 (lv_at hl 1 rfl) ?_
    refine lv_icmp_eq (tgt := 1214) hx hb dL_law_1209 (by decide) (fun _ => ?_) (fun c9 => absurd rfl c9)
    refine lv_iload hx hb dL_law_1214 (lv_at hl 1 rfl) ?_
    refine lv_if_ne (tgt := 1231) hx hb dL_law_1216 (by decide) (fun _ => ?_) (fun c9 => absurd c9 ((wf_ne h0 hCode).resolve_right (by decide)))
    refine lv_goto (tgt := 2272) hx hb dL_law_1231 (by decide) ?_
    refine W.widen (k := 100 + 16 * (k + 1)) (n := 4000 + 200 * (k + 1)) (by (try dsimp only); omega) (by (try dsimp only); omega) ?_
    exact hJ _ _ _ _ _ _ _ _ _ _ ⟨hP, by rw [Nat.succ_mul]; exact st.2.2, h70, h71, hS, lv_sub hl [2, 3, 4, 5, 6] rfl⟩
set_option maxHeartbeats 8000000 in
set_option maxRecDepth 100000 in
theorem lc_court (hC : lCtx p l s m meth c b L xs Z) {k : Nat} (hk : 7 * k + 7 ≤ L) (hL : L ≤ 3584) (hJ : ∀ (nT nK cT cK : Nat) (ad : Nat → Nat) (g : sG) (q : sQ) (H : Heap) (locs : List Loc) (ls : Array Slot), lSt Z s b k (k + 1) nT nK cT cK ad g q H locs ls → W p l e room_1 s m #[Value.ref b] below meth c H locs (100 + 16 * (k + 1)) (4000 + 200 * (k + 1)) (lw_Z below #[Value.ref b] s) (F0 m 2272 ls []))
    {nT nK cT cK : Nat} {ad : Nat → Nat} {g : sG} {q : sQ} {H : Heap} {locs : List Loc} {ls : Array Slot} (h : lSt Z s b k k nT nK cT cK ad g q H locs ls) : W p l e room_1 s m #[Value.ref b] below meth c H locs (100 + 16 * k) (4000 + 200 * k) (lw_Z below #[Value.ref b] s) (F0 m 1234 ls []) := by
  obtain ⟨hx, hb, hr, hml, hown, hts, hX, hbl, hlocks, hZ, hE, hNc, hfl⟩ := hC
  obtain ⟨hP, hI, h70, h71, hS, hl⟩ := h
  have hbA : ¬ sy_A Z b := fun z => absurd (show Z.2.2.1 ≤ b from z) (by omega)
  have hkB : k * oB ≤ 2048000000 := by
    have : k ≤ 511 := by omega
    calc k * oB ≤ 511 * 4000000 := Nat.mul_le_mul this (Nat.le_refl _)
      _ ≤ 2048000000 := by decide
  by_cases hz : xs (7 * k + 2) = 0
  · refine lv_aload_n hx hb dL_law_1234 rfl (lv_at hl 2 rfl) ?_
    refine lv_aload_n hx hb dL_law_1235 rfl (lv_at hl 1 rfl) ?_
    refine lv_iload hx hb dL_law_1236 (lv_at hl 0 rfl) ?_
    refine lv_iconst (v := 1) hx hb dL_law_1238 (by decide) ?_
    refine lv_iadd hx hb dL_law_1239 ?_
    refine sy_top (y := nI (7 * k + 1)) (nI_add _ _) ?_
    refine va_sld hx hb hX hbl hbA hS (vp_in_nI (show 7 * k + 1 < L by omega) (by omega)) dL_law_1240 ?_
    refine sy_top (y := xs (7 * k + 1)) (by rw [nI_clamp (by omega)]) ?_
    refine lv_aload_n hx hb dL_law_1241 rfl (lv_at hl 1 rfl) ?_
    refine lv_iload hx hb dL_law_1242 (lv_at hl 0 rfl) ?_
    refine lv_iconst (v := 2) hx hb dL_law_1244 (by decide) ?_
    refine lv_iadd hx hb dL_law_1245 ?_
    refine sy_top (y := nI (7 * k + 2)) (nI_add _ _) ?_
    refine va_sld hx hb hX hbl hbA hS (vp_in_nI (show 7 * k + 2 < L by omega) (by omega)) dL_law_1246 ?_
    refine sy_top (y := xs (7 * k + 2)) (by rw [nI_clamp (by omega)]) ?_
    refine lv_if_eq (tgt := 1254) hx hb dL_law_1247 (by decide) (fun _ => ?_) (fun c9 => absurd hz c9)
    refine lv_iconst (v := 0) hx hb dL_law_1254 (by decide) ?_
    refine lv_aload_n hx hb dL_law_1255 rfl (lv_at hl 4 rfl) ?_
    have hCode : wf 1 9 2 (fX6_court g q (xs (7 * k + 1)) 0).1 ≠ 9 := (by
          by_cases z : (fX6_court g q (xs (7 * k + 1)) 0).1 = 0
          · rw [z]; exact (by decide : (0 : Int32) ≠ 9)
          · exact (st_no hI (fun gm hg => o_court (q' := (fX6_court g q (xs (7 * k + 1)) 0).2.2.2) hg (xs (7 * k + 1)) 0) n6_court (fun gm => f7_court) z).2.1)
    refine va_calli (vx_runSW (As := [.ref (ad 60), .int (xs (7 * k + 1)), .int 0, .ref (ad 90)]) (rest := []) ⟨hx, hb, hml, hown, hts⟩ (mL_court l hfl Z nT nK cT cK ad g q (xs (7 * k + 1)) 0 (by have := inv_T hI; omega) (inv_IG hI) (inv_IQ hI) hCode) (vx_cwSW 4 hts (gl_S uk_4_19 uk_4_20 uk_1_0 uk_4_21) rfl rfl rfl (by decide +kernel) ⟨Nat.le_of_ble_eq_true rfl, Nat.le_of_ble_eq_true rfl⟩) ⟨sPreL_blind _, fun U hU hW => ⟨rfl, ⟨hE.next hS hU hW.alike, by rw [hU]; exact hP⟩, hNc.next hW.alike⟩⟩ rfl rfl hl.1 rfl (lv_room (Nat.le_of_ble_eq_true rfl)) dL_law_1256 ⟨by show _ ≤ 601024; (try dsimp only); omega, by show _ ≤ 7293034; (try dsimp only); omega⟩) hS (fun _ _ h => h) (fun _ h => h) (fun r u t H locs ht _ hp hB _ _ hS => ?_)
    obtain ⟨g1, q1⟩ := u
    have hP := hB.2
    rw [ht] at hP
    dsimp only at hp hP
    rcases hp with ⟨h0, rfl, rfl, rfl⟩ | ⟨h0, rfl, hg9, hq9⟩
    · refine lv_istore (lv' := [(5, .int 0), (4, .int (nI (7 * k))), (0, .ref b), (1, .ref (ad 60)), (2, .ref (ad 0)), (3, .ref (ad 90))]) hx hb dL_law_1259 hl (by decide) rfl (fun ls hl => ?_)
      have st := st_yes hI (F := fun gm => fX7_court gm (fX6_court g q (xs (7 * k + 1)) 0).2.2.2 (xs (7 * k + 1)) 0) (fun gm hg => o_court (q' := (fX6_court g q (xs (7 * k + 1)) 0).2.2.2) hg (xs (7 * k + 1)) 0) f6_court (fun gm => f7_court) h0
      try dsimp only at st
      refine lv_aload_n hx hb dL_law_1261 rfl (lv_at hl 4 rfl) ?_
      refine lv_aload_n hx hb dL_law_1262 rfl (lv_at hl 2 rfl) ?_
      refine lv_iload hx hb dL_law_1263 (lv_at hl 1 rfl) ?_
      refine lv_iconst (v := 1) hx hb dL_law_1265 (by decide) ?_
      refine lv_iadd hx hb dL_law_1266 ?_
      refine sy_top (y := nI (7 * k + 1)) (nI_add _ _) ?_
      refine va_sld hx hb hX hbl hbA hS (vp_in_nI (show 7 * k + 1 < L by omega) (by omega)) dL_law_1267 ?_
      refine sy_top (y := xs (7 * k + 1)) (by rw [nI_clamp (by omega)]) ?_
      refine lv_aload_n hx hb dL_law_1268 rfl (lv_at hl 2 rfl) ?_
      refine lv_iload hx hb dL_law_1269 (lv_at hl 1 rfl) ?_
      refine lv_iconst (v := 2) hx hb dL_law_1271 (by decide) ?_
      refine lv_iadd hx hb dL_law_1272 ?_
      refine sy_top (y := nI (7 * k + 2)) (nI_add _ _) ?_
      refine va_sld hx hb hX hbl hbA hS (vp_in_nI (show 7 * k + 2 < L by omega) (by omega)) dL_law_1273 ?_
      refine sy_top (y := xs (7 * k + 2)) (by rw [nI_clamp (by omega)]) ?_
      refine lv_if_eq (tgt := 1281) hx hb dL_law_1274 (by decide) (fun _ => ?_) (fun c9 => absurd hz c9)
      refine lv_iconst (v := 0) hx hb dL_law_1281 (by decide) ?_
      refine sy_ki (sy_rV (o := 0) (As := [.int (xs (7 * k + 1)), .int 0]) (rest := []) ⟨hx, hb, hml, hown, hts⟩ hE hP hS (mX7_court l hfl Z nT nK cT cK ad (sy_up (fX6_court g q (xs (7 * k + 1)) 0).2.2.1 90 0 (fX6_court g q (xs (7 * k + 1)) 0).2.1) (fX6_court g q (xs (7 * k + 1)) 0).2.2.2 (xs (7 * k + 1)) 0 st.1.2.1) (cwV 2 hts (gl_V uk_5_216 uk_5_217 uk_5_218 uk_1_9 uk_5_219) rfl rfl rfl (by decide +kernel) ⟨Nat.le_of_ble_eq_true rfl, Nat.le_of_ble_eq_true rfl⟩) (sy_recv (kc := 8) hE hP rfl (by decide) rfl rfl rfl) rfl hl.1 rfl (Nat.le_of_ble_eq_true rfl) dL_law_1282 ⟨by show _ ≤ 601024; (try dsimp only); omega, by show _ ≤ 7293034; (try dsimp only); omega⟩) hS (fun b2 g2 q2 H locs e2 hP hS => ?_)
      obtain ⟨rfl, rfl, rfl⟩ : (fX7_court (sy_up (fX6_court g q (xs (7 * k + 1)) 0).2.2.1 90 0 (fX6_court g q (xs (7 * k + 1)) 0).2.1) (fX6_court g q (xs (7 * k + 1)) 0).2.2.2 (xs (7 * k + 1)) 0).1 = b2 ∧ (fX7_court (sy_up (fX6_court g q (xs (7 * k + 1)) 0).2.2.1 90 0 (fX6_court g q (xs (7 * k + 1)) 0).2.1) (fX6_court g q (xs (7 * k + 1)) 0).2.2.2 (xs (7 * k + 1)) 0).2 = g2 ∧ (fX6_court g q (xs (7 * k + 1)) 0).2.2.2 = q2 := by cases e2; exact ⟨rfl, rfl, rfl⟩
      refine lv_istore (lv' := [(6, .int (fX7_court (sy_up (fX6_court g q (xs (7 * k + 1)) 0).2.2.1 90 0 (fX6_court g q (xs (7 * k + 1)) 0).2.1) (fX6_court g q (xs (7 * k + 1)) 0).2.2.2 (xs (7 * k + 1)) 0).1), (5, .int 0), (4, .int (nI (7 * k))), (0, .ref b), (1, .ref (ad 60)), (2, .ref (ad 0)), (3, .ref (ad 90))]) hx hb dL_law_1285 hl (by decide) rfl (fun ls hl => ?_)
      refine lv_aload_n hx hb dL_law_1287 rfl (lv_at hl 5 rfl) ?_
      refine sy_ki (sy_rV (o := 0) (As := []) (rest := []) ⟨hx, hb, hml, hown, hts⟩ hE hP hS (mX7_thrown l hfl Z nT nK cT cK ad (fX7_court (sy_up (fX6_court g q (xs (7 * k + 1)) 0).2.2.1 90 0 (fX6_court g q (xs (7 * k + 1)) 0).2.1) (fX6_court g q (xs (7 * k + 1)) 0).2.2.2 (xs (7 * k + 1)) 0).2 (fX6_court g q (xs (7 * k + 1)) 0).2.2.2) (cwV 0 hts (gl_V uk_5_93 uk_5_94 uk_5_95 uk_1_9 uk_5_96) rfl rfl rfl (by decide +kernel) ⟨Nat.le_of_ble_eq_true rfl, Nat.le_of_ble_eq_true rfl⟩) (sy_recv (kc := 8) hE hP rfl (by decide) rfl rfl rfl) rfl hl.1 rfl (Nat.le_of_ble_eq_true rfl) dL_law_1288 ⟨by show _ ≤ 601024; (try dsimp only); omega, by show _ ≤ 7293034; (try dsimp only); omega⟩) hS (fun b3 g3 q3 H locs e3 hP hS => ?_)
      obtain ⟨rfl, rfl, rfl⟩ : (fX7_court (sy_up (fX6_court g q (xs (7 * k + 1)) 0).2.2.1 90 0 (fX6_court g q (xs (7 * k + 1)) 0).2.1) (fX6_court g q (xs (7 * k + 1)) 0).2.2.2 (xs (7 * k + 1)) 0).2 0 0 = b3 ∧ (fX7_court (sy_up (fX6_court g q (xs (7 * k + 1)) 0).2.2.1 90 0 (fX6_court g q (xs (7 * k + 1)) 0).2.1) (fX6_court g q (xs (7 * k + 1)) 0).2.2.2 (xs (7 * k + 1)) 0).2 = g3 ∧ (fX6_court g q (xs (7 * k + 1)) 0).2.2.2 = q3 := by cases e3; exact ⟨rfl, rfl, rfl⟩
      refine sy_top (y := 0) st.2.1 ?_
      refine lv_iload hx hb dL_law_1291 (lv_at hl 1 rfl) ?_
      refine lv_icmp_eq (tgt := 1298) hx hb dL_law_1293 (by decide) (fun _ => ?_) (fun c9 => absurd rfl c9)
      refine lv_iload hx hb dL_law_1298 (lv_at hl 1 rfl) ?_
      refine lv_if_ne (tgt := 1315) hx hb dL_law_1300 (by decide) (fun c9 => absurd rfl c9) (fun _ => ?_)
      refine lv_aload_n hx hb dL_law_1303 rfl (lv_at hl 6 rfl) ?_
      refine lv_iconst (v := 0) hx hb dL_law_1304 (by decide) ?_
      refine sy_lald hx hb hE hP 90 rfl (i := 0) (k_in rfl) dL_law_1305 ?_
      refine lv_iload hx hb dL_law_1306 (lv_at hl 0 rfl) ?_
      refine lv_i2l (v := ((fX7_court (sy_up (fX6_court g q (xs (7 * k + 1)) 0).2.2.1 90 0 (fX6_court g q (xs (7 * k + 1)) 0).2.1) (fX6_court g q (xs (7 * k + 1)) 0).2.2.2 (xs (7 * k + 1)) 0).2 90 0).toInt64) hx hb dL_law_1308 (by rw [st.2.2.2.1, st.2.2.1]) ?_
      refine lv_lcmp0 hx hb dL_law_1309 ?_
      refine lv_if_eq (tgt := 1315) hx hb dL_law_1310 (by decide) (fun _ => ?_) (fun c9 => absurd rfl c9)
      refine lv_goto (tgt := 2272) hx hb dL_law_1315 (by decide) ?_
      refine W.widen (k := 100 + 16 * (k + 1)) (n := 4000 + 200 * (k + 1)) (by (try dsimp only); omega) (by (try dsimp only); omega) ?_
      exact hJ _ _ _ _ _ _ _ _ _ _ ⟨hP, by rw [Nat.succ_mul]; exact st.2.2.2.2, h70, h71, hS, lv_sub hl [2, 3, 4, 5, 6] rfl⟩
    · replace hg9 := hg9.symm
      replace hq9 := hq9.symm
      subst hg9
      subst hq9
      refine lv_istore (lv' := [(5, .int (wf 1 9 2 (fX6_court g q (xs (7 * k + 1)) 0).1)), (4, .int (nI (7 * k))), (0, .ref b), (1, .ref (ad 60)), (2, .ref (ad 0)), (3, .ref (ad 90))]) hx hb dL_law_1259 hl (by decide) rfl (fun ls hl => ?_)
      have st := st_no hI (F := fun gm => fX7_court gm q (xs (7 * k + 1)) 0) (fun gm hg => o_court (q' := q) hg (xs (7 * k + 1)) 0) n6_court (fun gm => f7_court) h0
      try dsimp only at st
      refine lv_aload_n hx hb dL_law_1261 rfl (lv_at hl 4 rfl) ?_
      refine lv_aload_n hx hb dL_law_1262 rfl (lv_at hl 2 rfl) ?_
      refine lv_iload hx hb dL_law_1263 (lv_at hl 1 rfl) ?_
      refine lv_iconst (v := 1) hx hb dL_law_1265 (by decide) ?_
      refine lv_iadd hx hb dL_law_1266 ?_
      refine sy_top (y := nI (7 * k + 1)) (nI_add _ _) ?_
      refine va_sld hx hb hX hbl hbA hS (vp_in_nI (show 7 * k + 1 < L by omega) (by omega)) dL_law_1267 ?_
      refine sy_top (y := xs (7 * k + 1)) (by rw [nI_clamp (by omega)]) ?_
      refine lv_aload_n hx hb dL_law_1268 rfl (lv_at hl 2 rfl) ?_
      refine lv_iload hx hb dL_law_1269 (lv_at hl 1 rfl) ?_
      refine lv_iconst (v := 2) hx hb dL_law_1271 (by decide) ?_
      refine lv_iadd hx hb dL_law_1272 ?_
      refine sy_top (y := nI (7 * k + 2)) (nI_add _ _) ?_
      refine va_sld hx hb hX hbl hbA hS (vp_in_nI (show 7 * k + 2 < L by omega) (by omega)) dL_law_1273 ?_
      refine sy_top (y := xs (7 * k + 2)) (by rw [nI_clamp (by omega)]) ?_
      refine lv_if_eq (tgt := 1281) hx hb dL_law_1274 (by decide) (fun _ => ?_) (fun c9 => absurd hz c9)
      refine lv_iconst (v := 0) hx hb dL_law_1281 (by decide) ?_
      refine sy_ki (sy_rV (o := 0) (As := [.int (xs (7 * k + 1)), .int 0]) (rest := []) ⟨hx, hb, hml, hown, hts⟩ hE hP hS (mX7_court l hfl Z nT nK cT cK ad g q (xs (7 * k + 1)) 0 hI.2.1) (cwV 2 hts (gl_V uk_5_216 uk_5_217 uk_5_218 uk_1_9 uk_5_219) rfl rfl rfl (by decide +kernel) ⟨Nat.le_of_ble_eq_true rfl, Nat.le_of_ble_eq_true rfl⟩) (sy_recv (kc := 8) hE hP rfl (by decide) rfl rfl rfl) rfl hl.1 rfl (Nat.le_of_ble_eq_true rfl) dL_law_1282 ⟨by show _ ≤ 601024; (try dsimp only); omega, by show _ ≤ 7293034; (try dsimp only); omega⟩) hS (fun b2 g2 q2 H locs e2 hP hS => ?_)
      obtain ⟨rfl, rfl, rfl⟩ : (fX7_court g q (xs (7 * k + 1)) 0).1 = b2 ∧ (fX7_court g q (xs (7 * k + 1)) 0).2 = g2 ∧ q = q2 := by cases e2; exact ⟨rfl, rfl, rfl⟩
      refine lv_istore (lv' := [(6, .int (fX7_court g q (xs (7 * k + 1)) 0).1), (5, .int (wf 1 9 2 (fX6_court g q (xs (7 * k + 1)) 0).1)), (4, .int (nI (7 * k))), (0, .ref b), (1, .ref (ad 60)), (2, .ref (ad 0)), (3, .ref (ad 90))]) hx hb dL_law_1285 hl (by decide) rfl (fun ls hl => ?_)
      refine lv_aload_n hx hb dL_law_1287 rfl (lv_at hl 5 rfl) ?_
      refine sy_ki (sy_rV (o := 0) (As := []) (rest := []) ⟨hx, hb, hml, hown, hts⟩ hE hP hS (mX7_thrown l hfl Z nT nK cT cK ad (fX7_court g q (xs (7 * k + 1)) 0).2 q) (cwV 0 hts (gl_V uk_5_93 uk_5_94 uk_5_95 uk_1_9 uk_5_96) rfl rfl rfl (by decide +kernel) ⟨Nat.le_of_ble_eq_true rfl, Nat.le_of_ble_eq_true rfl⟩) (sy_recv (kc := 8) hE hP rfl (by decide) rfl rfl rfl) rfl hl.1 rfl (Nat.le_of_ble_eq_true rfl) dL_law_1288 ⟨by show _ ≤ 601024; (try dsimp only); omega, by show _ ≤ 7293034; (try dsimp only); omega⟩) hS (fun b3 g3 q3 H locs e3 hP hS => ?_)
      obtain ⟨rfl, rfl, rfl⟩ : (fX7_court g q (xs (7 * k + 1)) 0).2 0 0 = b3 ∧ (fX7_court g q (xs (7 * k + 1)) 0).2 = g3 ∧ q = q3 := by cases e3; exact ⟨rfl, rfl, rfl⟩
      refine sy_top (y := (wf 1 9 2 (fX6_court g q (xs (7 * k + 1)) 0).1)) st.1 ?_
      refine lv_iload hx hb dL_law_1291 (lv_at hl 1 rfl) ?_
      refine lv_icmp_eq (tgt := 1298) hx hb dL_law_1293 (by decide) (fun _ => ?_) (fun c9 => absurd rfl c9)
      refine lv_iload hx hb dL_law_1298 (lv_at hl 1 rfl) ?_
      refine lv_if_ne (tgt := 1315) hx hb dL_law_1300 (by decide) (fun _ => ?_) (fun c9 => absurd c9 ((wf_ne h0 hCode).resolve_right (by decide)))
      refine lv_goto (tgt := 2272) hx hb dL_law_1315 (by decide) ?_
      refine W.widen (k := 100 + 16 * (k + 1)) (n := 4000 + 200 * (k + 1)) (by (try dsimp only); omega) (by (try dsimp only); omega) ?_
      exact hJ _ _ _ _ _ _ _ _ _ _ ⟨hP, by rw [Nat.succ_mul]; exact st.2.2, h70, h71, hS, lv_sub hl [2, 3, 4, 5, 6] rfl⟩
  · refine lv_aload_n hx hb dL_law_1234 rfl (lv_at hl 2 rfl) ?_
    refine lv_aload_n hx hb dL_law_1235 rfl (lv_at hl 1 rfl) ?_
    refine lv_iload hx hb dL_law_1236 (lv_at hl 0 rfl) ?_
    refine lv_iconst (v := 1) hx hb dL_law_1238 (by decide) ?_
    refine lv_iadd hx hb dL_law_1239 ?_
    refine sy_top (y := nI (7 * k + 1)) (nI_add _ _) ?_
    refine va_sld hx hb hX hbl hbA hS (vp_in_nI (show 7 * k + 1 < L by omega) (by omega)) dL_law_1240 ?_
    refine sy_top (y := xs (7 * k + 1)) (by rw [nI_clamp (by omega)]) ?_
    refine lv_aload_n hx hb dL_law_1241 rfl (lv_at hl 1 rfl) ?_
    refine lv_iload hx hb dL_law_1242 (lv_at hl 0 rfl) ?_
    refine lv_iconst (v := 2) hx hb dL_law_1244 (by decide) ?_
    refine lv_iadd hx hb dL_law_1245 ?_
    refine sy_top (y := nI (7 * k + 2)) (nI_add _ _) ?_
    refine va_sld hx hb hX hbl hbA hS (vp_in_nI (show 7 * k + 2 < L by omega) (by omega)) dL_law_1246 ?_
    refine sy_top (y := xs (7 * k + 2)) (by rw [nI_clamp (by omega)]) ?_
    refine lv_if_eq (tgt := 1254) hx hb dL_law_1247 (by decide) (fun c9 => absurd c9 hz) (fun _ => ?_)
    refine lv_iconst (v := 1) hx hb dL_law_1250 (by decide) ?_
    refine lv_goto (tgt := 1255) hx hb dL_law_1251 (by decide) ?_
    refine lv_aload_n hx hb dL_law_1255 rfl (lv_at hl 4 rfl) ?_
    have hCode : wf 1 9 2 (fX6_court g q (xs (7 * k + 1)) 1).1 ≠ 9 := (by
          by_cases z : (fX6_court g q (xs (7 * k + 1)) 1).1 = 0
          · rw [z]; exact (by decide : (0 : Int32) ≠ 9)
          · exact (st_no hI (fun gm hg => o_court (q' := (fX6_court g q (xs (7 * k + 1)) 1).2.2.2) hg (xs (7 * k + 1)) 1) n6_court (fun gm => f7_court) z).2.1)
    refine va_calli (vx_runSW (As := [.ref (ad 60), .int (xs (7 * k + 1)), .int 1, .ref (ad 90)]) (rest := []) ⟨hx, hb, hml, hown, hts⟩ (mL_court l hfl Z nT nK cT cK ad g q (xs (7 * k + 1)) 1 (by have := inv_T hI; omega) (inv_IG hI) (inv_IQ hI) hCode) (vx_cwSW 4 hts (gl_S uk_4_19 uk_4_20 uk_1_0 uk_4_21) rfl rfl rfl (by decide +kernel) ⟨Nat.le_of_ble_eq_true rfl, Nat.le_of_ble_eq_true rfl⟩) ⟨sPreL_blind _, fun U hU hW => ⟨rfl, ⟨hE.next hS hU hW.alike, by rw [hU]; exact hP⟩, hNc.next hW.alike⟩⟩ rfl rfl hl.1 rfl (lv_room (Nat.le_of_ble_eq_true rfl)) dL_law_1256 ⟨by show _ ≤ 601024; (try dsimp only); omega, by show _ ≤ 7293034; (try dsimp only); omega⟩) hS (fun _ _ h => h) (fun _ h => h) (fun r u t H locs ht _ hp hB _ _ hS => ?_)
    obtain ⟨g1, q1⟩ := u
    have hP := hB.2
    rw [ht] at hP
    dsimp only at hp hP
    rcases hp with ⟨h0, rfl, rfl, rfl⟩ | ⟨h0, rfl, hg9, hq9⟩
    · refine lv_istore (lv' := [(5, .int 0), (4, .int (nI (7 * k))), (0, .ref b), (1, .ref (ad 60)), (2, .ref (ad 0)), (3, .ref (ad 90))]) hx hb dL_law_1259 hl (by decide) rfl (fun ls hl => ?_)
      have st := st_yes hI (F := fun gm => fX7_court gm (fX6_court g q (xs (7 * k + 1)) 1).2.2.2 (xs (7 * k + 1)) 1) (fun gm hg => o_court (q' := (fX6_court g q (xs (7 * k + 1)) 1).2.2.2) hg (xs (7 * k + 1)) 1) f6_court (fun gm => f7_court) h0
      try dsimp only at st
      refine lv_aload_n hx hb dL_law_1261 rfl (lv_at hl 4 rfl) ?_
      refine lv_aload_n hx hb dL_law_1262 rfl (lv_at hl 2 rfl) ?_
      refine lv_iload hx hb dL_law_1263 (lv_at hl 1 rfl) ?_
      refine lv_iconst (v := 1) hx hb dL_law_1265 (by decide) ?_
      refine lv_iadd hx hb dL_law_1266 ?_
      refine sy_top (y := nI (7 * k + 1)) (nI_add _ _) ?_
      refine va_sld hx hb hX hbl hbA hS (vp_in_nI (show 7 * k + 1 < L by omega) (by omega)) dL_law_1267 ?_
      refine sy_top (y := xs (7 * k + 1)) (by rw [nI_clamp (by omega)]) ?_
      refine lv_aload_n hx hb dL_law_1268 rfl (lv_at hl 2 rfl) ?_
      refine lv_iload hx hb dL_law_1269 (lv_at hl 1 rfl) ?_
      refine lv_iconst (v := 2) hx hb dL_law_1271 (by decide) ?_
      refine lv_iadd hx hb dL_law_1272 ?_
      refine sy_top (y := nI (7 * k + 2)) (nI_add _ _) ?_
      refine va_sld hx hb hX hbl hbA hS (vp_in_nI (show 7 * k + 2 < L by omega) (by omega)) dL_law_1273 ?_
      refine sy_top (y := xs (7 * k + 2)) (by rw [nI_clamp (by omega)]) ?_
      refine lv_if_eq (tgt := 1281) hx hb dL_law_1274 (by decide) (fun c9 => absurd c9 hz) (fun _ => ?_)
      refine lv_iconst (v := 1) hx hb dL_law_1277 (by decide) ?_
      refine lv_goto (tgt := 1282) hx hb dL_law_1278 (by decide) ?_
      refine sy_ki (sy_rV (o := 0) (As := [.int (xs (7 * k + 1)), .int 1]) (rest := []) ⟨hx, hb, hml, hown, hts⟩ hE hP hS (mX7_court l hfl Z nT nK cT cK ad (sy_up (fX6_court g q (xs (7 * k + 1)) 1).2.2.1 90 0 (fX6_court g q (xs (7 * k + 1)) 1).2.1) (fX6_court g q (xs (7 * k + 1)) 1).2.2.2 (xs (7 * k + 1)) 1 st.1.2.1) (cwV 2 hts (gl_V uk_5_216 uk_5_217 uk_5_218 uk_1_9 uk_5_219) rfl rfl rfl (by decide +kernel) ⟨Nat.le_of_ble_eq_true rfl, Nat.le_of_ble_eq_true rfl⟩) (sy_recv (kc := 8) hE hP rfl (by decide) rfl rfl rfl) rfl hl.1 rfl (Nat.le_of_ble_eq_true rfl) dL_law_1282 ⟨by show _ ≤ 601024; (try dsimp only); omega, by show _ ≤ 7293034; (try dsimp only); omega⟩) hS (fun b2 g2 q2 H locs e2 hP hS => ?_)
      obtain ⟨rfl, rfl, rfl⟩ : (fX7_court (sy_up (fX6_court g q (xs (7 * k + 1)) 1).2.2.1 90 0 (fX6_court g q (xs (7 * k + 1)) 1).2.1) (fX6_court g q (xs (7 * k + 1)) 1).2.2.2 (xs (7 * k + 1)) 1).1 = b2 ∧ (fX7_court (sy_up (fX6_court g q (xs (7 * k + 1)) 1).2.2.1 90 0 (fX6_court g q (xs (7 * k + 1)) 1).2.1) (fX6_court g q (xs (7 * k + 1)) 1).2.2.2 (xs (7 * k + 1)) 1).2 = g2 ∧ (fX6_court g q (xs (7 * k + 1)) 1).2.2.2 = q2 := by cases e2; exact ⟨rfl, rfl, rfl⟩
      refine lv_istore (lv' := [(6, .int (fX7_court (sy_up (fX6_court g q (xs (7 * k + 1)) 1).2.2.1 90 0 (fX6_court g q (xs (7 * k + 1)) 1).2.1) (fX6_court g q (xs (7 * k + 1)) 1).2.2.2 (xs (7 * k + 1)) 1).1), (5, .int 0), (4, .int (nI (7 * k))), (0, .ref b), (1, .ref (ad 60)), (2, .ref (ad 0)), (3, .ref (ad 90))]) hx hb dL_law_1285 hl (by decide) rfl (fun ls hl => ?_)
      refine lv_aload_n hx hb dL_law_1287 rfl (lv_at hl 5 rfl) ?_
      refine sy_ki (sy_rV (o := 0) (As := []) (rest := []) ⟨hx, hb, hml, hown, hts⟩ hE hP hS (mX7_thrown l hfl Z nT nK cT cK ad (fX7_court (sy_up (fX6_court g q (xs (7 * k + 1)) 1).2.2.1 90 0 (fX6_court g q (xs (7 * k + 1)) 1).2.1) (fX6_court g q (xs (7 * k + 1)) 1).2.2.2 (xs (7 * k + 1)) 1).2 (fX6_court g q (xs (7 * k + 1)) 1).2.2.2) (cwV 0 hts (gl_V uk_5_93 uk_5_94 uk_5_95 uk_1_9 uk_5_96) rfl rfl rfl (by decide +kernel) ⟨Nat.le_of_ble_eq_true rfl, Nat.le_of_ble_eq_true rfl⟩) (sy_recv (kc := 8) hE hP rfl (by decide) rfl rfl rfl) rfl hl.1 rfl (Nat.le_of_ble_eq_true rfl) dL_law_1288 ⟨by show _ ≤ 601024; (try dsimp only); omega, by show _ ≤ 7293034; (try dsimp only); omega⟩) hS (fun b3 g3 q3 H locs e3 hP hS => ?_)
      obtain ⟨rfl, rfl, rfl⟩ : (fX7_court (sy_up (fX6_court g q (xs (7 * k + 1)) 1).2.2.1 90 0 (fX6_court g q (xs (7 * k + 1)) 1).2.1) (fX6_court g q (xs (7 * k + 1)) 1).2.2.2 (xs (7 * k + 1)) 1).2 0 0 = b3 ∧ (fX7_court (sy_up (fX6_court g q (xs (7 * k + 1)) 1).2.2.1 90 0 (fX6_court g q (xs (7 * k + 1)) 1).2.1) (fX6_court g q (xs (7 * k + 1)) 1).2.2.2 (xs (7 * k + 1)) 1).2 = g3 ∧ (fX6_court g q (xs (7 * k + 1)) 1).2.2.2 = q3 := by cases e3; exact ⟨rfl, rfl, rfl⟩
      refine sy_top (y := 0) st.2.1 ?_
      refine lv_iload hx hb dL_law_1291 (lv_at hl 1 rfl) ?_
      refine lv_icmp_eq (tgt := 1298) hx hb dL_law_1293 (by decide) (fun _ => ?_) (fun c9 => absurd rfl c9)
      refine lv_iload hx hb dL_law_1298 (lv_at hl 1 rfl) ?_
      refine lv_if_ne (tgt := 1315) hx hb dL_law_1300 (by decide) (fun c9 => absurd rfl c9) (fun _ => ?_)
      refine lv_aload_n hx hb dL_law_1303 rfl (lv_at hl 6 rfl) ?_
      refine lv_iconst (v := 0) hx hb dL_law_1304 (by decide) ?_
      refine sy_lald hx hb hE hP 90 rfl (i := 0) (k_in rfl) dL_law_1305 ?_
      refine lv_iload hx hb dL_law_1306 (lv_at hl 0 rfl) ?_
      refine lv_i2l (v := ((fX7_court (sy_up (fX6_court g q (xs (7 * k + 1)) 1).2.2.1 90 0 (fX6_court g q (xs (7 * k + 1)) 1).2.1) (fX6_court g q (xs (7 * k + 1)) 1).2.2.2 (xs (7 * k + 1)) 1).2 90 0).toInt64) hx hb dL_law_1308 (by rw [st.2.2.2.1, st.2.2.1]) ?_
      refine lv_lcmp0 hx hb dL_law_1309 ?_
      refine lv_if_eq (tgt := 1315) hx hb dL_law_1310 (by decide) (fun _ => ?_) (fun c9 => absurd rfl c9)
      refine lv_goto (tgt := 2272) hx hb dL_law_1315 (by decide) ?_
      refine W.widen (k := 100 + 16 * (k + 1)) (n := 4000 + 200 * (k + 1)) (by (try dsimp only); omega) (by (try dsimp only); omega) ?_
      exact hJ _ _ _ _ _ _ _ _ _ _ ⟨hP, by rw [Nat.succ_mul]; exact st.2.2.2.2, h70, h71, hS, lv_sub hl [2, 3, 4, 5, 6] rfl⟩
    · replace hg9 := hg9.symm
      replace hq9 := hq9.symm
      subst hg9
      subst hq9
      refine lv_istore (lv' := [(5, .int (wf 1 9 2 (fX6_court g q (xs (7 * k + 1)) 1).1)), (4, .int (nI (7 * k))), (0, .ref b), (1, .ref (ad 60)), (2, .ref (ad 0)), (3, .ref (ad 90))]) hx hb dL_law_1259 hl (by decide) rfl (fun ls hl => ?_)
      have st := st_no hI (F := fun gm => fX7_court gm q (xs (7 * k + 1)) 1) (fun gm hg => o_court (q' := q) hg (xs (7 * k + 1)) 1) n6_court (fun gm => f7_court) h0
      try dsimp only at st
      refine lv_aload_n hx hb dL_law_1261 rfl (lv_at hl 4 rfl) ?_
      refine lv_aload_n hx hb dL_law_1262 rfl (lv_at hl 2 rfl) ?_
      refine lv_iload hx hb dL_law_1263 (lv_at hl 1 rfl) ?_
      refine lv_iconst (v := 1) hx hb dL_law_1265 (by decide) ?_
      refine lv_iadd hx hb dL_law_1266 ?_
      refine sy_top (y := nI (7 * k + 1)) (nI_add _ _) ?_
      refine va_sld hx hb hX hbl hbA hS (vp_in_nI (show 7 * k + 1 < L by omega) (by omega)) dL_law_1267 ?_
      refine sy_top (y := xs (7 * k + 1)) (by rw [nI_clamp (by omega)]) ?_
      refine lv_aload_n hx hb dL_law_1268 rfl (lv_at hl 2 rfl) ?_
      refine lv_iload hx hb dL_law_1269 (lv_at hl 1 rfl) ?_
      refine lv_iconst (v := 2) hx hb dL_law_1271 (by decide) ?_
      refine lv_iadd hx hb dL_law_1272 ?_
      refine sy_top (y := nI (7 * k + 2)) (nI_add _ _) ?_
      refine va_sld hx hb hX hbl hbA hS (vp_in_nI (show 7 * k + 2 < L by omega) (by omega)) dL_law_1273 ?_
      refine sy_top (y := xs (7 * k + 2)) (by rw [nI_clamp (by omega)]) ?_
      refine lv_if_eq (tgt := 1281) hx hb dL_law_1274 (by decide) (fun c9 => absurd c9 hz) (fun _ => ?_)
      refine lv_iconst (v := 1) hx hb dL_law_1277 (by decide) ?_
      refine lv_goto (tgt := 1282) hx hb dL_law_1278 (by decide) ?_
      refine sy_ki (sy_rV (o := 0) (As := [.int (xs (7 * k + 1)), .int 1]) (rest := []) ⟨hx, hb, hml, hown, hts⟩ hE hP hS (mX7_court l hfl Z nT nK cT cK ad g q (xs (7 * k + 1)) 1 hI.2.1) (cwV 2 hts (gl_V uk_5_216 uk_5_217 uk_5_218 uk_1_9 uk_5_219) rfl rfl rfl (by decide +kernel) ⟨Nat.le_of_ble_eq_true rfl, Nat.le_of_ble_eq_true rfl⟩) (sy_recv (kc := 8) hE hP rfl (by decide) rfl rfl rfl) rfl hl.1 rfl (Nat.le_of_ble_eq_true rfl) dL_law_1282 ⟨by show _ ≤ 601024; (try dsimp only); omega, by show _ ≤ 7293034; (try dsimp only); omega⟩) hS (fun b2 g2 q2 H locs e2 hP hS => ?_)
      obtain ⟨rfl, rfl, rfl⟩ : (fX7_court g q (xs (7 * k + 1)) 1).1 = b2 ∧ (fX7_court g q (xs (7 * k + 1)) 1).2 = g2 ∧ q = q2 := by cases e2; exact ⟨rfl, rfl, rfl⟩
      refine lv_istore (lv' := [(6, .int (fX7_court g q (xs (7 * k + 1)) 1).1), (5, .int (wf 1 9 2 (fX6_court g q (xs (7 * k + 1)) 1).1)), (4, .int (nI (7 * k))), (0, .ref b), (1, .ref (ad 60)), (2, .ref (ad 0)), (3, .ref (ad 90))]) hx hb dL_law_1285 hl (by decide) rfl (fun ls hl => ?_)
      refine lv_aload_n hx hb dL_law_1287 rfl (lv_at hl 5 rfl) ?_
      refine sy_ki (sy_rV (o := 0) (As := []) (rest := []) ⟨hx, hb, hml, hown, hts⟩ hE hP hS (mX7_thrown l hfl Z nT nK cT cK ad (fX7_court g q (xs (7 * k + 1)) 1).2 q) (cwV 0 hts (gl_V uk_5_93 uk_5_94 uk_5_95 uk_1_9 uk_5_96) rfl rfl rfl (by decide +kernel) ⟨Nat.le_of_ble_eq_true rfl, Nat.le_of_ble_eq_true rfl⟩) (sy_recv (kc := 8) hE hP rfl (by decide) rfl rfl rfl) rfl hl.1 rfl (Nat.le_of_ble_eq_true rfl) dL_law_1288 ⟨by show _ ≤ 601024; (try dsimp only); omega, by show _ ≤ 7293034; (try dsimp only); omega⟩) hS (fun b3 g3 q3 H locs e3 hP hS => ?_)
      obtain ⟨rfl, rfl, rfl⟩ : (fX7_court g q (xs (7 * k + 1)) 1).2 0 0 = b3 ∧ (fX7_court g q (xs (7 * k + 1)) 1).2 = g3 ∧ q = q3 := by cases e3; exact ⟨rfl, rfl, rfl⟩
      refine sy_top (y := (wf 1 9 2 (fX6_court g q (xs (7 * k + 1)) 1).1)) st.1 ?_
      refine lv_iload hx hb dL_law_1291 (lv_at hl 1 rfl) ?_
      refine lv_icmp_eq (tgt := 1298) hx hb dL_law_1293 (by decide) (fun _ => ?_) (fun c9 => absurd rfl c9)
      refine lv_iload hx hb dL_law_1298 (lv_at hl 1 rfl) ?_
      refine lv_if_ne (tgt := 1315) hx hb dL_law_1300 (by decide) (fun _ => ?_) (fun c9 => absurd c9 ((wf_ne h0 hCode).resolve_right (by decide)))
      refine lv_goto (tgt := 2272) hx hb dL_law_1315 (by decide) ?_
      refine W.widen (k := 100 + 16 * (k + 1)) (n := 4000 + 200 * (k + 1)) (by (try dsimp only); omega) (by (try dsimp only); omega) ?_
      exact hJ _ _ _ _ _ _ _ _ _ _ ⟨hP, by rw [Nat.succ_mul]; exact st.2.2, h70, h71, hS, lv_sub hl [2, 3, 4, 5, 6] rfl⟩
set_option maxHeartbeats 8000000 in
set_option maxRecDepth 100000 in
theorem lc_stray (hC : lCtx p l s m meth c b L xs Z) {k : Nat} (hk : 7 * k + 7 ≤ L) (hL : L ≤ 3584) (hJ : ∀ (nT nK cT cK : Nat) (ad : Nat → Nat) (g : sG) (q : sQ) (H : Heap) (locs : List Loc) (ls : Array Slot), lSt Z s b k (k + 1) nT nK cT cK ad g q H locs ls → W p l e room_1 s m #[Value.ref b] below meth c H locs (100 + 16 * (k + 1)) (4000 + 200 * (k + 1)) (lw_Z below #[Value.ref b] s) (F0 m 2272 ls []))
    {nT nK cT cK : Nat} {ad : Nat → Nat} {g : sG} {q : sQ} {H : Heap} {locs : List Loc} {ls : Array Slot} (h : lSt Z s b k k nT nK cT cK ad g q H locs ls) : W p l e room_1 s m #[Value.ref b] below meth c H locs (100 + 16 * k) (4000 + 200 * k) (lw_Z below #[Value.ref b] s) (F0 m 1318 ls []) := by
  obtain ⟨hx, hb, hr, hml, hown, hts, hX, hbl, hlocks, hZ, hE, hNc, hfl⟩ := hC
  obtain ⟨hP, hI, h70, h71, hS, hl⟩ := h
  have hbA : ¬ sy_A Z b := fun z => absurd (show Z.2.2.1 ≤ b from z) (by omega)
  have hkB : k * oB ≤ 2048000000 := by
    have : k ≤ 511 := by omega
    calc k * oB ≤ 511 * 4000000 := Nat.mul_le_mul this (Nat.le_refl _)
      _ ≤ 2048000000 := by decide
  refine lv_aload_n hx hb dL_law_1318 rfl (lv_at hl 2 rfl) ?_
  refine lv_aload_n hx hb dL_law_1319 rfl (lv_at hl 1 rfl) ?_
  refine lv_iload hx hb dL_law_1320 (lv_at hl 0 rfl) ?_
  refine lv_iconst (v := 1) hx hb dL_law_1322 (by decide) ?_
  refine lv_iadd hx hb dL_law_1323 ?_
  refine sy_top (y := nI (7 * k + 1)) (nI_add _ _) ?_
  refine va_sld hx hb hX hbl hbA hS (vp_in_nI (show 7 * k + 1 < L by omega) (by omega)) dL_law_1324 ?_
  refine sy_top (y := xs (7 * k + 1)) (by rw [nI_clamp (by omega)]) ?_
  refine lv_aload_n hx hb dL_law_1325 rfl (lv_at hl 1 rfl) ?_
  refine lv_iload hx hb dL_law_1326 (lv_at hl 0 rfl) ?_
  refine lv_iconst (v := 2) hx hb dL_law_1328 (by decide) ?_
  refine lv_iadd hx hb dL_law_1329 ?_
  refine sy_top (y := nI (7 * k + 2)) (nI_add _ _) ?_
  refine va_sld hx hb hX hbl hbA hS (vp_in_nI (show 7 * k + 2 < L by omega) (by omega)) dL_law_1330 ?_
  refine sy_top (y := xs (7 * k + 2)) (by rw [nI_clamp (by omega)]) ?_
  refine lv_aload_n hx hb dL_law_1331 rfl (lv_at hl 1 rfl) ?_
  refine lv_iload hx hb dL_law_1332 (lv_at hl 0 rfl) ?_
  refine lv_iconst (v := 3) hx hb dL_law_1334 (by decide) ?_
  refine lv_iadd hx hb dL_law_1335 ?_
  refine sy_top (y := nI (7 * k + 3)) (nI_add _ _) ?_
  refine va_sld hx hb hX hbl hbA hS (vp_in_nI (show 7 * k + 3 < L by omega) (by omega)) dL_law_1336 ?_
  refine sy_top (y := xs (7 * k + 3)) (by rw [nI_clamp (by omega)]) ?_
  have hCode : wf 1 9 2 (fX6_stray g q (xs (7 * k + 1)) (xs (7 * k + 2)) (xs (7 * k + 3))).1 ≠ 9 := (by
        by_cases z : (fX6_stray g q (xs (7 * k + 1)) (xs (7 * k + 2)) (xs (7 * k + 3))).1 = 0
        · rw [z]; exact (by decide : (0 : Int32) ≠ 9)
        · exact (st_nov hI (fun gm hg => o_stray (q' := (fX6_stray g q (xs (7 * k + 1)) (xs (7 * k + 2)) (xs (7 * k + 3))).2.2) hg (xs (7 * k + 1)) (xs (7 * k + 2)) (xs (7 * k + 3))) n6_stray (fun gm => f7_stray) z).2.1)
  refine va_calli (vx_runSW (As := [.ref (ad 60), .int (xs (7 * k + 1)), .int (xs (7 * k + 2)), .int (xs (7 * k + 3))]) (rest := []) ⟨hx, hb, hml, hown, hts⟩ (mL_stray l hfl Z nT nK cT cK ad g q (xs (7 * k + 1)) (xs (7 * k + 2)) (xs (7 * k + 3)) (by have := inv_T hI; omega) (inv_IG hI) (inv_IQ hI) hCode) (vx_cwSW 4 hts (gl_S uk_4_26 uk_4_27 uk_1_0 uk_4_28) rfl rfl rfl (by decide +kernel) ⟨Nat.le_of_ble_eq_true rfl, Nat.le_of_ble_eq_true rfl⟩) ⟨sPreL_blind _, fun U hU hW => ⟨rfl, ⟨hE.next hS hU hW.alike, by rw [hU]; exact hP⟩, hNc.next hW.alike⟩⟩ rfl rfl hl.1 rfl (lv_room (Nat.le_of_ble_eq_true rfl)) dL_law_1337 ⟨by show _ ≤ 601024; (try dsimp only); omega, by show _ ≤ 7293034; (try dsimp only); omega⟩) hS (fun _ _ h => h) (fun _ h => h) (fun r u t H locs ht _ hp hB _ _ hS => ?_)
  obtain ⟨g1, q1⟩ := u
  have hP := hB.2
  rw [ht] at hP
  dsimp only at hp hP
  rcases hp with ⟨h0, rfl, rfl, rfl⟩ | ⟨h0, rfl, hg9, hq9⟩
  · refine lv_istore (lv' := [(5, .int 0), (4, .int (nI (7 * k))), (0, .ref b), (1, .ref (ad 60)), (2, .ref (ad 0)), (3, .ref (ad 90))]) hx hb dL_law_1340 hl (by decide) rfl (fun ls hl => ?_)
    have st := st_yesv hI (F := fun gm => fX7_stray gm (fX6_stray g q (xs (7 * k + 1)) (xs (7 * k + 2)) (xs (7 * k + 3))).2.2 (xs (7 * k + 1)) (xs (7 * k + 2)) (xs (7 * k + 3))) (fun gm hg => o_stray (q' := (fX6_stray g q (xs (7 * k + 1)) (xs (7 * k + 2)) (xs (7 * k + 3))).2.2) hg (xs (7 * k + 1)) (xs (7 * k + 2)) (xs (7 * k + 3))) f6_stray (fun gm => f7_stray) h0
    try dsimp only at st
    refine lv_aload_n hx hb dL_law_1342 rfl (lv_at hl 4 rfl) ?_
    refine lv_aload_n hx hb dL_law_1343 rfl (lv_at hl 2 rfl) ?_
    refine lv_iload hx hb dL_law_1344 (lv_at hl 1 rfl) ?_
    refine lv_iconst (v := 1) hx hb dL_law_1346 (by decide) ?_
    refine lv_iadd hx hb dL_law_1347 ?_
    refine sy_top (y := nI (7 * k + 1)) (nI_add _ _) ?_
    refine va_sld hx hb hX hbl hbA hS (vp_in_nI (show 7 * k + 1 < L by omega) (by omega)) dL_law_1348 ?_
    refine sy_top (y := xs (7 * k + 1)) (by rw [nI_clamp (by omega)]) ?_
    refine lv_aload_n hx hb dL_law_1349 rfl (lv_at hl 2 rfl) ?_
    refine lv_iload hx hb dL_law_1350 (lv_at hl 1 rfl) ?_
    refine lv_iconst (v := 2) hx hb dL_law_1352 (by decide) ?_
    refine lv_iadd hx hb dL_law_1353 ?_
    refine sy_top (y := nI (7 * k + 2)) (nI_add _ _) ?_
    refine va_sld hx hb hX hbl hbA hS (vp_in_nI (show 7 * k + 2 < L by omega) (by omega)) dL_law_1354 ?_
    refine sy_top (y := xs (7 * k + 2)) (by rw [nI_clamp (by omega)]) ?_
    refine lv_aload_n hx hb dL_law_1355 rfl (lv_at hl 2 rfl) ?_
    refine lv_iload hx hb dL_law_1356 (lv_at hl 1 rfl) ?_
    refine lv_iconst (v := 3) hx hb dL_law_1358 (by decide) ?_
    refine lv_iadd hx hb dL_law_1359 ?_
    refine sy_top (y := nI (7 * k + 3)) (nI_add _ _) ?_
    refine va_sld hx hb hX hbl hbA hS (vp_in_nI (show 7 * k + 3 < L by omega) (by omega)) dL_law_1360 ?_
    refine sy_top (y := xs (7 * k + 3)) (by rw [nI_clamp (by omega)]) ?_
    refine sy_kv (sy_rV (o := 0) (As := [.int (xs (7 * k + 1)), .int (xs (7 * k + 2)), .int (xs (7 * k + 3))]) (rest := []) ⟨hx, hb, hml, hown, hts⟩ hE hP hS (mX7_stray l hfl Z nT nK cT cK ad (fX6_stray g q (xs (7 * k + 1)) (xs (7 * k + 2)) (xs (7 * k + 3))).2.1 (fX6_stray g q (xs (7 * k + 1)) (xs (7 * k + 2)) (xs (7 * k + 3))).2.2 (xs (7 * k + 1)) (xs (7 * k + 2)) (xs (7 * k + 3)) st.1.2.1) (cwV 3 hts (gl_V uk_5_220 uk_5_221 uk_5_222 uk_1_9 uk_5_223) rfl rfl rfl (by decide +kernel) ⟨Nat.le_of_ble_eq_true rfl, Nat.le_of_ble_eq_true rfl⟩) (sy_recv (kc := 8) hE hP rfl (by decide) rfl rfl rfl) rfl hl.1 rfl (Nat.le_of_ble_eq_true rfl) dL_law_1361 ⟨by show _ ≤ 601024; (try dsimp only); omega, by show _ ≤ 7293034; (try dsimp only); omega⟩) hS (fun g2 q2 H locs e2 hP hS => ?_)
    obtain ⟨rfl, rfl⟩ : (fX7_stray (fX6_stray g q (xs (7 * k + 1)) (xs (7 * k + 2)) (xs (7 * k + 3))).2.1 (fX6_stray g q (xs (7 * k + 1)) (xs (7 * k + 2)) (xs (7 * k + 3))).2.2 (xs (7 * k + 1)) (xs (7 * k + 2)) (xs (7 * k + 3))) = g2 ∧ (fX6_stray g q (xs (7 * k + 1)) (xs (7 * k + 2)) (xs (7 * k + 3))).2.2 = q2 := by cases e2; exact ⟨rfl, rfl⟩
    refine lv_aload_n hx hb dL_law_1364 rfl (lv_at hl 4 rfl) ?_
    refine sy_ki (sy_rV (o := 0) (As := []) (rest := []) ⟨hx, hb, hml, hown, hts⟩ hE hP hS (mX7_thrown l hfl Z nT nK cT cK ad (fX7_stray (fX6_stray g q (xs (7 * k + 1)) (xs (7 * k + 2)) (xs (7 * k + 3))).2.1 (fX6_stray g q (xs (7 * k + 1)) (xs (7 * k + 2)) (xs (7 * k + 3))).2.2 (xs (7 * k + 1)) (xs (7 * k + 2)) (xs (7 * k + 3))) (fX6_stray g q (xs (7 * k + 1)) (xs (7 * k + 2)) (xs (7 * k + 3))).2.2) (cwV 0 hts (gl_V uk_5_93 uk_5_94 uk_5_95 uk_1_9 uk_5_96) rfl rfl rfl (by decide +kernel) ⟨Nat.le_of_ble_eq_true rfl, Nat.le_of_ble_eq_true rfl⟩) (sy_recv (kc := 8) hE hP rfl (by decide) rfl rfl rfl) rfl hl.1 rfl (Nat.le_of_ble_eq_true rfl) dL_law_1365 ⟨by show _ ≤ 601024; (try dsimp only); omega, by show _ ≤ 7293034; (try dsimp only); omega⟩) hS (fun b3 g3 q3 H locs e3 hP hS => ?_)
    obtain ⟨rfl, rfl, rfl⟩ : (fX7_stray (fX6_stray g q (xs (7 * k + 1)) (xs (7 * k + 2)) (xs (7 * k + 3))).2.1 (fX6_stray g q (xs (7 * k + 1)) (xs (7 * k + 2)) (xs (7 * k + 3))).2.2 (xs (7 * k + 1)) (xs (7 * k + 2)) (xs (7 * k + 3))) 0 0 = b3 ∧ (fX7_stray (fX6_stray g q (xs (7 * k + 1)) (xs (7 * k + 2)) (xs (7 * k + 3))).2.1 (fX6_stray g q (xs (7 * k + 1)) (xs (7 * k + 2)) (xs (7 * k + 3))).2.2 (xs (7 * k + 1)) (xs (7 * k + 2)) (xs (7 * k + 3))) = g3 ∧ (fX6_stray g q (xs (7 * k + 1)) (xs (7 * k + 2)) (xs (7 * k + 3))).2.2 = q3 := by cases e3; exact ⟨rfl, rfl, rfl⟩
    refine sy_top (y := 0) st.2.1 ?_
    refine lv_iload hx hb dL_law_1368 (lv_at hl 0 rfl) ?_
    refine lv_icmp_eq (tgt := 1375) hx hb dL_law_1370 (by decide) (fun _ => ?_) (fun c9 => absurd rfl c9)
    refine lv_goto (tgt := 2272) hx hb dL_law_1375 (by decide) ?_
    refine W.widen (k := 100 + 16 * (k + 1)) (n := 4000 + 200 * (k + 1)) (by (try dsimp only); omega) (by (try dsimp only); omega) ?_
    exact hJ _ _ _ _ _ _ _ _ _ _ ⟨hP, by rw [Nat.succ_mul]; exact st.2.2, h70, h71, hS, lv_sub hl [1, 2, 3, 4, 5] rfl⟩
  · replace hg9 := hg9.symm
    replace hq9 := hq9.symm
    subst hg9
    subst hq9
    refine lv_istore (lv' := [(5, .int (wf 1 9 2 (fX6_stray g q (xs (7 * k + 1)) (xs (7 * k + 2)) (xs (7 * k + 3))).1)), (4, .int (nI (7 * k))), (0, .ref b), (1, .ref (ad 60)), (2, .ref (ad 0)), (3, .ref (ad 90))]) hx hb dL_law_1340 hl (by decide) rfl (fun ls hl => ?_)
    have st := st_nov hI (F := fun gm => fX7_stray gm q (xs (7 * k + 1)) (xs (7 * k + 2)) (xs (7 * k + 3))) (fun gm hg => o_stray (q' := q) hg (xs (7 * k + 1)) (xs (7 * k + 2)) (xs (7 * k + 3))) n6_stray (fun gm => f7_stray) h0
    try dsimp only at st
    refine lv_aload_n hx hb dL_law_1342 rfl (lv_at hl 4 rfl) ?_
    refine lv_aload_n hx hb dL_law_1343 rfl (lv_at hl 2 rfl) ?_
    refine lv_iload hx hb dL_law_1344 (lv_at hl 1 rfl) ?_
    refine lv_iconst (v := 1) hx hb dL_law_1346 (by decide) ?_
    refine lv_iadd hx hb dL_law_1347 ?_
    refine sy_top (y := nI (7 * k + 1)) (nI_add _ _) ?_
    refine va_sld hx hb hX hbl hbA hS (vp_in_nI (show 7 * k + 1 < L by omega) (by omega)) dL_law_1348 ?_
    refine sy_top (y := xs (7 * k + 1)) (by rw [nI_clamp (by omega)]) ?_
    refine lv_aload_n hx hb dL_law_1349 rfl (lv_at hl 2 rfl) ?_
    refine lv_iload hx hb dL_law_1350 (lv_at hl 1 rfl) ?_
    refine lv_iconst (v := 2) hx hb dL_law_1352 (by decide) ?_
    refine lv_iadd hx hb dL_law_1353 ?_
    refine sy_top (y := nI (7 * k + 2)) (nI_add _ _) ?_
    refine va_sld hx hb hX hbl hbA hS (vp_in_nI (show 7 * k + 2 < L by omega) (by omega)) dL_law_1354 ?_
    refine sy_top (y := xs (7 * k + 2)) (by rw [nI_clamp (by omega)]) ?_
    refine lv_aload_n hx hb dL_law_1355 rfl (lv_at hl 2 rfl) ?_
    refine lv_iload hx hb dL_law_1356 (lv_at hl 1 rfl) ?_
    refine lv_iconst (v := 3) hx hb dL_law_1358 (by decide) ?_
    refine lv_iadd hx hb dL_law_1359 ?_
    refine sy_top (y := nI (7 * k + 3)) (nI_add _ _) ?_
    refine va_sld hx hb hX hbl hbA hS (vp_in_nI (show 7 * k + 3 < L by omega) (by omega)) dL_law_1360 ?_
    refine sy_top (y := xs (7 * k + 3)) (by rw [nI_clamp (by omega)]) ?_
    refine sy_kv (sy_rV (o := 0) (As := [.int (xs (7 * k + 1)), .int (xs (7 * k + 2)), .int (xs (7 * k + 3))]) (rest := []) ⟨hx, hb, hml, hown, hts⟩ hE hP hS (mX7_stray l hfl Z nT nK cT cK ad g q (xs (7 * k + 1)) (xs (7 * k + 2)) (xs (7 * k + 3)) hI.2.1) (cwV 3 hts (gl_V uk_5_220 uk_5_221 uk_5_222 uk_1_9 uk_5_223) rfl rfl rfl (by decide +kernel) ⟨Nat.le_of_ble_eq_true rfl, Nat.le_of_ble_eq_true rfl⟩) (sy_recv (kc := 8) hE hP rfl (by decide) rfl rfl rfl) rfl hl.1 rfl (Nat.le_of_ble_eq_true rfl) dL_law_1361 ⟨by show _ ≤ 601024; (try dsimp only); omega, by show _ ≤ 7293034; (try dsimp only); omega⟩) hS (fun g2 q2 H locs e2 hP hS => ?_)
    obtain ⟨rfl, rfl⟩ : (fX7_stray g q (xs (7 * k + 1)) (xs (7 * k + 2)) (xs (7 * k + 3))) = g2 ∧ q = q2 := by cases e2; exact ⟨rfl, rfl⟩
    refine lv_aload_n hx hb dL_law_1364 rfl (lv_at hl 4 rfl) ?_
    refine sy_ki (sy_rV (o := 0) (As := []) (rest := []) ⟨hx, hb, hml, hown, hts⟩ hE hP hS (mX7_thrown l hfl Z nT nK cT cK ad (fX7_stray g q (xs (7 * k + 1)) (xs (7 * k + 2)) (xs (7 * k + 3))) q) (cwV 0 hts (gl_V uk_5_93 uk_5_94 uk_5_95 uk_1_9 uk_5_96) rfl rfl rfl (by decide +kernel) ⟨Nat.le_of_ble_eq_true rfl, Nat.le_of_ble_eq_true rfl⟩) (sy_recv (kc := 8) hE hP rfl (by decide) rfl rfl rfl) rfl hl.1 rfl (Nat.le_of_ble_eq_true rfl) dL_law_1365 ⟨by show _ ≤ 601024; (try dsimp only); omega, by show _ ≤ 7293034; (try dsimp only); omega⟩) hS (fun b3 g3 q3 H locs e3 hP hS => ?_)
    obtain ⟨rfl, rfl, rfl⟩ : (fX7_stray g q (xs (7 * k + 1)) (xs (7 * k + 2)) (xs (7 * k + 3))) 0 0 = b3 ∧ (fX7_stray g q (xs (7 * k + 1)) (xs (7 * k + 2)) (xs (7 * k + 3))) = g3 ∧ q = q3 := by cases e3; exact ⟨rfl, rfl, rfl⟩
    refine sy_top (y := (wf 1 9 2 (fX6_stray g q (xs (7 * k + 1)) (xs (7 * k + 2)) (xs (7 * k + 3))).1)) st.1 ?_
    refine lv_iload hx hb dL_law_1368 (lv_at hl 0 rfl) ?_
    refine lv_icmp_eq (tgt := 1375) hx hb dL_law_1370 (by decide) (fun _ => ?_) (fun c9 => absurd rfl c9)
    refine lv_goto (tgt := 2272) hx hb dL_law_1375 (by decide) ?_
    refine W.widen (k := 100 + 16 * (k + 1)) (n := 4000 + 200 * (k + 1)) (by (try dsimp only); omega) (by (try dsimp only); omega) ?_
    exact hJ _ _ _ _ _ _ _ _ _ _ ⟨hP, by rw [Nat.succ_mul]; exact st.2.2, h70, h71, hS, lv_sub hl [1, 2, 3, 4, 5] rfl⟩
set_option maxHeartbeats 8000000 in
set_option maxRecDepth 100000 in
theorem lc_count (hC : lCtx p l s m meth c b L xs Z) {k : Nat} (hk : 7 * k + 7 ≤ L) (hL : L ≤ 3584) (hJ : ∀ (nT nK cT cK : Nat) (ad : Nat → Nat) (g : sG) (q : sQ) (H : Heap) (locs : List Loc) (ls : Array Slot), lSt Z s b k (k + 1) nT nK cT cK ad g q H locs ls → W p l e room_1 s m #[Value.ref b] below meth c H locs (100 + 16 * (k + 1)) (4000 + 200 * (k + 1)) (lw_Z below #[Value.ref b] s) (F0 m 2272 ls []))
    {nT nK cT cK : Nat} {ad : Nat → Nat} {g : sG} {q : sQ} {H : Heap} {locs : List Loc} {ls : Array Slot} (h : lSt Z s b k k nT nK cT cK ad g q H locs ls) : W p l e room_1 s m #[Value.ref b] below meth c H locs (100 + 16 * k) (4000 + 200 * k) (lw_Z below #[Value.ref b] s) (F0 m 1378 ls []) := by
  obtain ⟨hx, hb, hr, hml, hown, hts, hX, hbl, hlocks, hZ, hE, hNc, hfl⟩ := hC
  obtain ⟨hP, hI, h70, h71, hS, hl⟩ := h
  have hbA : ¬ sy_A Z b := fun z => absurd (show Z.2.2.1 ≤ b from z) (by omega)
  have hkB : k * oB ≤ 2048000000 := by
    have : k ≤ 511 := by omega
    calc k * oB ≤ 511 * 4000000 := Nat.mul_le_mul this (Nat.le_refl _)
      _ ≤ 2048000000 := by decide
  refine lv_aload_n hx hb dL_law_1378 rfl (lv_at hl 2 rfl) ?_
  refine lv_aload_n hx hb dL_law_1379 rfl (lv_at hl 1 rfl) ?_
  refine lv_iload hx hb dL_law_1380 (lv_at hl 0 rfl) ?_
  refine lv_iconst (v := 1) hx hb dL_law_1382 (by decide) ?_
  refine lv_iadd hx hb dL_law_1383 ?_
  refine sy_top (y := nI (7 * k + 1)) (nI_add _ _) ?_
  refine va_sld hx hb hX hbl hbA hS (vp_in_nI (show 7 * k + 1 < L by omega) (by omega)) dL_law_1384 ?_
  refine sy_top (y := xs (7 * k + 1)) (by rw [nI_clamp (by omega)]) ?_
  refine lv_aload_n hx hb dL_law_1385 rfl (lv_at hl 4 rfl) ?_
  have hCode : wf 1 9 9 (fX6_count g q (xs (7 * k + 1))).1 ≠ 9 := (by
        by_cases z : (fX6_count g q (xs (7 * k + 1))).1 = 0
        · rw [z]; exact (by decide : (0 : Int32) ≠ 9)
        · exact (st_no hI (fun gm hg => o_count (q' := (fX6_count g q (xs (7 * k + 1))).2.2.2) hg (xs (7 * k + 1))) n6_count (fun gm => f7_count) z).2.1)
  refine va_calli (vx_runSW (As := [.ref (ad 60), .int (xs (7 * k + 1)), .ref (ad 90)]) (rest := []) ⟨hx, hb, hml, hown, hts⟩ (mL_count l hfl Z nT nK cT cK ad g q (xs (7 * k + 1)) (by have := inv_T hI; omega) (inv_IG hI) (inv_IQ hI) hCode) (vx_cwSW 3 hts (gl_S uk_4_37 uk_4_38 uk_1_0 uk_4_39) rfl rfl rfl (by decide +kernel) ⟨Nat.le_of_ble_eq_true rfl, Nat.le_of_ble_eq_true rfl⟩) ⟨sPreL_blind _, fun U hU hW => ⟨rfl, ⟨hE.next hS hU hW.alike, by rw [hU]; exact hP⟩, hNc.next hW.alike⟩⟩ rfl rfl hl.1 rfl (lv_room (Nat.le_of_ble_eq_true rfl)) dL_law_1386 ⟨by show _ ≤ 601024; (try dsimp only); omega, by show _ ≤ 7293034; (try dsimp only); omega⟩) hS (fun _ _ h => h) (fun _ h => h) (fun r u t H locs ht _ hp hB _ _ hS => ?_)
  obtain ⟨g1, q1⟩ := u
  have hP := hB.2
  rw [ht] at hP
  dsimp only at hp hP
  rcases hp with ⟨h0, rfl, rfl, rfl⟩ | ⟨h0, rfl, hg9, hq9⟩
  · refine lv_istore (lv' := [(5, .int 0), (4, .int (nI (7 * k))), (0, .ref b), (1, .ref (ad 60)), (2, .ref (ad 0)), (3, .ref (ad 90))]) hx hb dL_law_1389 hl (by decide) rfl (fun ls hl => ?_)
    have st := st_yes hI (F := fun gm => fX7_count gm (fX6_count g q (xs (7 * k + 1))).2.2.2 (xs (7 * k + 1))) (fun gm hg => o_count (q' := (fX6_count g q (xs (7 * k + 1))).2.2.2) hg (xs (7 * k + 1))) f6_count (fun gm => f7_count) h0
    try dsimp only at st
    refine lv_aload_n hx hb dL_law_1391 rfl (lv_at hl 4 rfl) ?_
    refine lv_aload_n hx hb dL_law_1392 rfl (lv_at hl 2 rfl) ?_
    refine lv_iload hx hb dL_law_1393 (lv_at hl 1 rfl) ?_
    refine lv_iconst (v := 1) hx hb dL_law_1395 (by decide) ?_
    refine lv_iadd hx hb dL_law_1396 ?_
    refine sy_top (y := nI (7 * k + 1)) (nI_add _ _) ?_
    refine va_sld hx hb hX hbl hbA hS (vp_in_nI (show 7 * k + 1 < L by omega) (by omega)) dL_law_1397 ?_
    refine sy_top (y := xs (7 * k + 1)) (by rw [nI_clamp (by omega)]) ?_
    refine sy_ki (sy_rV (o := 0) (As := [.int (xs (7 * k + 1))]) (rest := []) ⟨hx, hb, hml, hown, hts⟩ hE hP hS (mX7_count l hfl Z nT nK cT cK ad (sy_up (fX6_count g q (xs (7 * k + 1))).2.2.1 90 0 (fX6_count g q (xs (7 * k + 1))).2.1) (fX6_count g q (xs (7 * k + 1))).2.2.2 (xs (7 * k + 1)) st.1.2.1) (cwV 1 hts (gl_V uk_5_228 uk_5_229 uk_5_230 uk_1_9 uk_5_231) rfl rfl rfl (by decide +kernel) ⟨Nat.le_of_ble_eq_true rfl, Nat.le_of_ble_eq_true rfl⟩) (sy_recv (kc := 8) hE hP rfl (by decide) rfl rfl rfl) rfl hl.1 rfl (Nat.le_of_ble_eq_true rfl) dL_law_1398 ⟨by show _ ≤ 601024; (try dsimp only); omega, by show _ ≤ 7293034; (try dsimp only); omega⟩) hS (fun b2 g2 q2 H locs e2 hP hS => ?_)
    obtain ⟨rfl, rfl, rfl⟩ : (fX7_count (sy_up (fX6_count g q (xs (7 * k + 1))).2.2.1 90 0 (fX6_count g q (xs (7 * k + 1))).2.1) (fX6_count g q (xs (7 * k + 1))).2.2.2 (xs (7 * k + 1))).1 = b2 ∧ (fX7_count (sy_up (fX6_count g q (xs (7 * k + 1))).2.2.1 90 0 (fX6_count g q (xs (7 * k + 1))).2.1) (fX6_count g q (xs (7 * k + 1))).2.2.2 (xs (7 * k + 1))).2 = g2 ∧ (fX6_count g q (xs (7 * k + 1))).2.2.2 = q2 := by cases e2; exact ⟨rfl, rfl, rfl⟩
    refine lv_istore (lv' := [(6, .int (fX7_count (sy_up (fX6_count g q (xs (7 * k + 1))).2.2.1 90 0 (fX6_count g q (xs (7 * k + 1))).2.1) (fX6_count g q (xs (7 * k + 1))).2.2.2 (xs (7 * k + 1))).1), (5, .int 0), (4, .int (nI (7 * k))), (0, .ref b), (1, .ref (ad 60)), (2, .ref (ad 0)), (3, .ref (ad 90))]) hx hb dL_law_1401 hl (by decide) rfl (fun ls hl => ?_)
    refine lv_aload_n hx hb dL_law_1403 rfl (lv_at hl 5 rfl) ?_
    refine sy_ki (sy_rV (o := 0) (As := []) (rest := []) ⟨hx, hb, hml, hown, hts⟩ hE hP hS (mX7_thrown l hfl Z nT nK cT cK ad (fX7_count (sy_up (fX6_count g q (xs (7 * k + 1))).2.2.1 90 0 (fX6_count g q (xs (7 * k + 1))).2.1) (fX6_count g q (xs (7 * k + 1))).2.2.2 (xs (7 * k + 1))).2 (fX6_count g q (xs (7 * k + 1))).2.2.2) (cwV 0 hts (gl_V uk_5_93 uk_5_94 uk_5_95 uk_1_9 uk_5_96) rfl rfl rfl (by decide +kernel) ⟨Nat.le_of_ble_eq_true rfl, Nat.le_of_ble_eq_true rfl⟩) (sy_recv (kc := 8) hE hP rfl (by decide) rfl rfl rfl) rfl hl.1 rfl (Nat.le_of_ble_eq_true rfl) dL_law_1404 ⟨by show _ ≤ 601024; (try dsimp only); omega, by show _ ≤ 7293034; (try dsimp only); omega⟩) hS (fun b3 g3 q3 H locs e3 hP hS => ?_)
    obtain ⟨rfl, rfl, rfl⟩ : (fX7_count (sy_up (fX6_count g q (xs (7 * k + 1))).2.2.1 90 0 (fX6_count g q (xs (7 * k + 1))).2.1) (fX6_count g q (xs (7 * k + 1))).2.2.2 (xs (7 * k + 1))).2 0 0 = b3 ∧ (fX7_count (sy_up (fX6_count g q (xs (7 * k + 1))).2.2.1 90 0 (fX6_count g q (xs (7 * k + 1))).2.1) (fX6_count g q (xs (7 * k + 1))).2.2.2 (xs (7 * k + 1))).2 = g3 ∧ (fX6_count g q (xs (7 * k + 1))).2.2.2 = q3 := by cases e3; exact ⟨rfl, rfl, rfl⟩
    refine sy_top (y := 0) st.2.1 ?_
    refine lv_iload hx hb dL_law_1407 (lv_at hl 1 rfl) ?_
    refine lv_icmp_eq (tgt := 1414) hx hb dL_law_1409 (by decide) (fun _ => ?_) (fun c9 => absurd rfl c9)
    refine lv_iload hx hb dL_law_1414 (lv_at hl 1 rfl) ?_
    refine lv_if_ne (tgt := 1431) hx hb dL_law_1416 (by decide) (fun c9 => absurd rfl c9) (fun _ => ?_)
    refine lv_aload_n hx hb dL_law_1419 rfl (lv_at hl 6 rfl) ?_
    refine lv_iconst (v := 0) hx hb dL_law_1420 (by decide) ?_
    refine sy_lald hx hb hE hP 90 rfl (i := 0) (k_in rfl) dL_law_1421 ?_
    refine lv_iload hx hb dL_law_1422 (lv_at hl 0 rfl) ?_
    refine lv_i2l (v := ((fX7_count (sy_up (fX6_count g q (xs (7 * k + 1))).2.2.1 90 0 (fX6_count g q (xs (7 * k + 1))).2.1) (fX6_count g q (xs (7 * k + 1))).2.2.2 (xs (7 * k + 1))).2 90 0).toInt64) hx hb dL_law_1424 (by rw [st.2.2.2.1, st.2.2.1]) ?_
    refine lv_lcmp0 hx hb dL_law_1425 ?_
    refine lv_if_eq (tgt := 1431) hx hb dL_law_1426 (by decide) (fun _ => ?_) (fun c9 => absurd rfl c9)
    refine lv_goto (tgt := 2272) hx hb dL_law_1431 (by decide) ?_
    refine W.widen (k := 100 + 16 * (k + 1)) (n := 4000 + 200 * (k + 1)) (by (try dsimp only); omega) (by (try dsimp only); omega) ?_
    exact hJ _ _ _ _ _ _ _ _ _ _ ⟨hP, by rw [Nat.succ_mul]; exact st.2.2.2.2, h70, h71, hS, lv_sub hl [2, 3, 4, 5, 6] rfl⟩
  · replace hg9 := hg9.symm
    replace hq9 := hq9.symm
    subst hg9
    subst hq9
    refine lv_istore (lv' := [(5, .int (wf 1 9 9 (fX6_count g q (xs (7 * k + 1))).1)), (4, .int (nI (7 * k))), (0, .ref b), (1, .ref (ad 60)), (2, .ref (ad 0)), (3, .ref (ad 90))]) hx hb dL_law_1389 hl (by decide) rfl (fun ls hl => ?_)
    have st := st_no hI (F := fun gm => fX7_count gm q (xs (7 * k + 1))) (fun gm hg => o_count (q' := q) hg (xs (7 * k + 1))) n6_count (fun gm => f7_count) h0
    try dsimp only at st
    refine lv_aload_n hx hb dL_law_1391 rfl (lv_at hl 4 rfl) ?_
    refine lv_aload_n hx hb dL_law_1392 rfl (lv_at hl 2 rfl) ?_
    refine lv_iload hx hb dL_law_1393 (lv_at hl 1 rfl) ?_
    refine lv_iconst (v := 1) hx hb dL_law_1395 (by decide) ?_
    refine lv_iadd hx hb dL_law_1396 ?_
    refine sy_top (y := nI (7 * k + 1)) (nI_add _ _) ?_
    refine va_sld hx hb hX hbl hbA hS (vp_in_nI (show 7 * k + 1 < L by omega) (by omega)) dL_law_1397 ?_
    refine sy_top (y := xs (7 * k + 1)) (by rw [nI_clamp (by omega)]) ?_
    refine sy_ki (sy_rV (o := 0) (As := [.int (xs (7 * k + 1))]) (rest := []) ⟨hx, hb, hml, hown, hts⟩ hE hP hS (mX7_count l hfl Z nT nK cT cK ad g q (xs (7 * k + 1)) hI.2.1) (cwV 1 hts (gl_V uk_5_228 uk_5_229 uk_5_230 uk_1_9 uk_5_231) rfl rfl rfl (by decide +kernel) ⟨Nat.le_of_ble_eq_true rfl, Nat.le_of_ble_eq_true rfl⟩) (sy_recv (kc := 8) hE hP rfl (by decide) rfl rfl rfl) rfl hl.1 rfl (Nat.le_of_ble_eq_true rfl) dL_law_1398 ⟨by show _ ≤ 601024; (try dsimp only); omega, by show _ ≤ 7293034; (try dsimp only); omega⟩) hS (fun b2 g2 q2 H locs e2 hP hS => ?_)
    obtain ⟨rfl, rfl, rfl⟩ : (fX7_count g q (xs (7 * k + 1))).1 = b2 ∧ (fX7_count g q (xs (7 * k + 1))).2 = g2 ∧ q = q2 := by cases e2; exact ⟨rfl, rfl, rfl⟩
    refine lv_istore (lv' := [(6, .int (fX7_count g q (xs (7 * k + 1))).1), (5, .int (wf 1 9 9 (fX6_count g q (xs (7 * k + 1))).1)), (4, .int (nI (7 * k))), (0, .ref b), (1, .ref (ad 60)), (2, .ref (ad 0)), (3, .ref (ad 90))]) hx hb dL_law_1401 hl (by decide) rfl (fun ls hl => ?_)
    refine lv_aload_n hx hb dL_law_1403 rfl (lv_at hl 5 rfl) ?_
    refine sy_ki (sy_rV (o := 0) (As := []) (rest := []) ⟨hx, hb, hml, hown, hts⟩ hE hP hS (mX7_thrown l hfl Z nT nK cT cK ad (fX7_count g q (xs (7 * k + 1))).2 q) (cwV 0 hts (gl_V uk_5_93 uk_5_94 uk_5_95 uk_1_9 uk_5_96) rfl rfl rfl (by decide +kernel) ⟨Nat.le_of_ble_eq_true rfl, Nat.le_of_ble_eq_true rfl⟩) (sy_recv (kc := 8) hE hP rfl (by decide) rfl rfl rfl) rfl hl.1 rfl (Nat.le_of_ble_eq_true rfl) dL_law_1404 ⟨by show _ ≤ 601024; (try dsimp only); omega, by show _ ≤ 7293034; (try dsimp only); omega⟩) hS (fun b3 g3 q3 H locs e3 hP hS => ?_)
    obtain ⟨rfl, rfl, rfl⟩ : (fX7_count g q (xs (7 * k + 1))).2 0 0 = b3 ∧ (fX7_count g q (xs (7 * k + 1))).2 = g3 ∧ q = q3 := by cases e3; exact ⟨rfl, rfl, rfl⟩
    refine sy_top (y := (wf 1 9 9 (fX6_count g q (xs (7 * k + 1))).1)) st.1 ?_
    refine lv_iload hx hb dL_law_1407 (lv_at hl 1 rfl) ?_
    refine lv_icmp_eq (tgt := 1414) hx hb dL_law_1409 (by decide) (fun _ => ?_) (fun c9 => absurd rfl c9)
    refine lv_iload hx hb dL_law_1414 (lv_at hl 1 rfl) ?_
    refine lv_if_ne (tgt := 1431) hx hb dL_law_1416 (by decide) (fun _ => ?_) (fun c9 => absurd c9 ((wf_ne h0 hCode).resolve_right (by decide)))
    refine lv_goto (tgt := 2272) hx hb dL_law_1431 (by decide) ?_
    refine W.widen (k := 100 + 16 * (k + 1)) (n := 4000 + 200 * (k + 1)) (by (try dsimp only); omega) (by (try dsimp only); omega) ?_
    exact hJ _ _ _ _ _ _ _ _ _ _ ⟨hP, by rw [Nat.succ_mul]; exact st.2.2, h70, h71, hS, lv_sub hl [2, 3, 4, 5, 6] rfl⟩
set_option maxHeartbeats 8000000 in
set_option maxRecDepth 100000 in
theorem lc_transfer (hC : lCtx p l s m meth c b L xs Z) {k : Nat} (hk : 7 * k + 7 ≤ L) (hL : L ≤ 3584) (hJ : ∀ (nT nK cT cK : Nat) (ad : Nat → Nat) (g : sG) (q : sQ) (H : Heap) (locs : List Loc) (ls : Array Slot), lSt Z s b k (k + 1) nT nK cT cK ad g q H locs ls → W p l e room_1 s m #[Value.ref b] below meth c H locs (100 + 16 * (k + 1)) (4000 + 200 * (k + 1)) (lw_Z below #[Value.ref b] s) (F0 m 2272 ls []))
    {nT nK cT cK : Nat} {ad : Nat → Nat} {g : sG} {q : sQ} {H : Heap} {locs : List Loc} {ls : Array Slot} (h : lSt Z s b k k nT nK cT cK ad g q H locs ls) : W p l e room_1 s m #[Value.ref b] below meth c H locs (100 + 16 * k) (4000 + 200 * k) (lw_Z below #[Value.ref b] s) (F0 m 1434 ls []) := by
  obtain ⟨hx, hb, hr, hml, hown, hts, hX, hbl, hlocks, hZ, hE, hNc, hfl⟩ := hC
  obtain ⟨hP, hI, h70, h71, hS, hl⟩ := h
  have hbA : ¬ sy_A Z b := fun z => absurd (show Z.2.2.1 ≤ b from z) (by omega)
  have hkB : k * oB ≤ 2048000000 := by
    have : k ≤ 511 := by omega
    calc k * oB ≤ 511 * 4000000 := Nat.mul_le_mul this (Nat.le_refl _)
      _ ≤ 2048000000 := by decide
  refine lv_aload_n hx hb dL_law_1434 rfl (lv_at hl 2 rfl) ?_
  refine lv_aload_n hx hb dL_law_1435 rfl (lv_at hl 1 rfl) ?_
  refine lv_iload hx hb dL_law_1436 (lv_at hl 0 rfl) ?_
  refine lv_iconst (v := 1) hx hb dL_law_1438 (by decide) ?_
  refine lv_iadd hx hb dL_law_1439 ?_
  refine sy_top (y := nI (7 * k + 1)) (nI_add _ _) ?_
  refine va_sld hx hb hX hbl hbA hS (vp_in_nI (show 7 * k + 1 < L by omega) (by omega)) dL_law_1440 ?_
  refine sy_top (y := xs (7 * k + 1)) (by rw [nI_clamp (by omega)]) ?_
  refine lv_aload_n hx hb dL_law_1441 rfl (lv_at hl 1 rfl) ?_
  refine lv_iload hx hb dL_law_1442 (lv_at hl 0 rfl) ?_
  refine lv_iconst (v := 2) hx hb dL_law_1444 (by decide) ?_
  refine lv_iadd hx hb dL_law_1445 ?_
  refine sy_top (y := nI (7 * k + 2)) (nI_add _ _) ?_
  refine va_sld hx hb hX hbl hbA hS (vp_in_nI (show 7 * k + 2 < L by omega) (by omega)) dL_law_1446 ?_
  refine sy_top (y := xs (7 * k + 2)) (by rw [nI_clamp (by omega)]) ?_
  refine lv_aload_n hx hb dL_law_1447 rfl (lv_at hl 4 rfl) ?_
  have hCode : wf 1 9 2 (fX6_transfer g q (xs (7 * k + 1)) (xs (7 * k + 2))).1 ≠ 9 := (by
        by_cases z : (fX6_transfer g q (xs (7 * k + 1)) (xs (7 * k + 2))).1 = 0
        · rw [z]; exact (by decide : (0 : Int32) ≠ 9)
        · exact (st_no hI (fun gm hg => o_transfer (q' := (fX6_transfer g q (xs (7 * k + 1)) (xs (7 * k + 2))).2.2.2) hg (xs (7 * k + 1)) (xs (7 * k + 2))) n6_transfer (fun gm => f7_transfer) z).2.1)
  refine va_calli (vx_runSW (As := [.ref (ad 60), .int (xs (7 * k + 1)), .int (xs (7 * k + 2)), .ref (ad 90)]) (rest := []) ⟨hx, hb, hml, hown, hts⟩ (mL_transfer l hfl Z nT nK cT cK ad g q (xs (7 * k + 1)) (xs (7 * k + 2)) (by have := inv_T hI; omega) (inv_IG hI) (inv_IQ hI) hCode) (vx_cwSW 4 hts (gl_S uk_4_47 uk_4_48 uk_1_0 uk_4_49) rfl rfl rfl (by decide +kernel) ⟨Nat.le_of_ble_eq_true rfl, Nat.le_of_ble_eq_true rfl⟩) ⟨sPreL_blind _, fun U hU hW => ⟨rfl, ⟨hE.next hS hU hW.alike, by rw [hU]; exact hP⟩, hNc.next hW.alike⟩⟩ rfl rfl hl.1 rfl (lv_room (Nat.le_of_ble_eq_true rfl)) dL_law_1448 ⟨by show _ ≤ 601024; (try dsimp only); omega, by show _ ≤ 7293034; (try dsimp only); omega⟩) hS (fun _ _ h => h) (fun _ h => h) (fun r u t H locs ht _ hp hB _ _ hS => ?_)
  obtain ⟨g1, q1⟩ := u
  have hP := hB.2
  rw [ht] at hP
  dsimp only at hp hP
  rcases hp with ⟨h0, rfl, rfl, rfl⟩ | ⟨h0, rfl, hg9, hq9⟩
  · refine lv_istore (lv' := [(5, .int 0), (4, .int (nI (7 * k))), (0, .ref b), (1, .ref (ad 60)), (2, .ref (ad 0)), (3, .ref (ad 90))]) hx hb dL_law_1451 hl (by decide) rfl (fun ls hl => ?_)
    have st := st_yes hI (F := fun gm => fX7_transfer gm (fX6_transfer g q (xs (7 * k + 1)) (xs (7 * k + 2))).2.2.2 (xs (7 * k + 1)) (xs (7 * k + 2))) (fun gm hg => o_transfer (q' := (fX6_transfer g q (xs (7 * k + 1)) (xs (7 * k + 2))).2.2.2) hg (xs (7 * k + 1)) (xs (7 * k + 2))) f6_transfer (fun gm => f7_transfer) h0
    try dsimp only at st
    refine lv_aload_n hx hb dL_law_1453 rfl (lv_at hl 4 rfl) ?_
    refine lv_aload_n hx hb dL_law_1454 rfl (lv_at hl 2 rfl) ?_
    refine lv_iload hx hb dL_law_1455 (lv_at hl 1 rfl) ?_
    refine lv_iconst (v := 1) hx hb dL_law_1457 (by decide) ?_
    refine lv_iadd hx hb dL_law_1458 ?_
    refine sy_top (y := nI (7 * k + 1)) (nI_add _ _) ?_
    refine va_sld hx hb hX hbl hbA hS (vp_in_nI (show 7 * k + 1 < L by omega) (by omega)) dL_law_1459 ?_
    refine sy_top (y := xs (7 * k + 1)) (by rw [nI_clamp (by omega)]) ?_
    refine lv_aload_n hx hb dL_law_1460 rfl (lv_at hl 2 rfl) ?_
    refine lv_iload hx hb dL_law_1461 (lv_at hl 1 rfl) ?_
    refine lv_iconst (v := 2) hx hb dL_law_1463 (by decide) ?_
    refine lv_iadd hx hb dL_law_1464 ?_
    refine sy_top (y := nI (7 * k + 2)) (nI_add _ _) ?_
    refine va_sld hx hb hX hbl hbA hS (vp_in_nI (show 7 * k + 2 < L by omega) (by omega)) dL_law_1465 ?_
    refine sy_top (y := xs (7 * k + 2)) (by rw [nI_clamp (by omega)]) ?_
    refine sy_ki (sy_rV (o := 0) (As := [.int (xs (7 * k + 1)), .int (xs (7 * k + 2))]) (rest := []) ⟨hx, hb, hml, hown, hts⟩ hE hP hS (mX7_transfer l hfl Z nT nK cT cK ad (sy_up (fX6_transfer g q (xs (7 * k + 1)) (xs (7 * k + 2))).2.2.1 90 0 (fX6_transfer g q (xs (7 * k + 1)) (xs (7 * k + 2))).2.1) (fX6_transfer g q (xs (7 * k + 1)) (xs (7 * k + 2))).2.2.2 (xs (7 * k + 1)) (xs (7 * k + 2)) st.1.2.1) (cwV 2 hts (gl_V uk_5_232 uk_5_233 uk_5_234 uk_1_9 uk_5_235) rfl rfl rfl (by decide +kernel) ⟨Nat.le_of_ble_eq_true rfl, Nat.le_of_ble_eq_true rfl⟩) (sy_recv (kc := 8) hE hP rfl (by decide) rfl rfl rfl) rfl hl.1 rfl (Nat.le_of_ble_eq_true rfl) dL_law_1466 ⟨by show _ ≤ 601024; (try dsimp only); omega, by show _ ≤ 7293034; (try dsimp only); omega⟩) hS (fun b2 g2 q2 H locs e2 hP hS => ?_)
    obtain ⟨rfl, rfl, rfl⟩ : (fX7_transfer (sy_up (fX6_transfer g q (xs (7 * k + 1)) (xs (7 * k + 2))).2.2.1 90 0 (fX6_transfer g q (xs (7 * k + 1)) (xs (7 * k + 2))).2.1) (fX6_transfer g q (xs (7 * k + 1)) (xs (7 * k + 2))).2.2.2 (xs (7 * k + 1)) (xs (7 * k + 2))).1 = b2 ∧ (fX7_transfer (sy_up (fX6_transfer g q (xs (7 * k + 1)) (xs (7 * k + 2))).2.2.1 90 0 (fX6_transfer g q (xs (7 * k + 1)) (xs (7 * k + 2))).2.1) (fX6_transfer g q (xs (7 * k + 1)) (xs (7 * k + 2))).2.2.2 (xs (7 * k + 1)) (xs (7 * k + 2))).2 = g2 ∧ (fX6_transfer g q (xs (7 * k + 1)) (xs (7 * k + 2))).2.2.2 = q2 := by cases e2; exact ⟨rfl, rfl, rfl⟩
    refine lv_istore (lv' := [(6, .int (fX7_transfer (sy_up (fX6_transfer g q (xs (7 * k + 1)) (xs (7 * k + 2))).2.2.1 90 0 (fX6_transfer g q (xs (7 * k + 1)) (xs (7 * k + 2))).2.1) (fX6_transfer g q (xs (7 * k + 1)) (xs (7 * k + 2))).2.2.2 (xs (7 * k + 1)) (xs (7 * k + 2))).1), (5, .int 0), (4, .int (nI (7 * k))), (0, .ref b), (1, .ref (ad 60)), (2, .ref (ad 0)), (3, .ref (ad 90))]) hx hb dL_law_1469 hl (by decide) rfl (fun ls hl => ?_)
    refine lv_aload_n hx hb dL_law_1471 rfl (lv_at hl 5 rfl) ?_
    refine sy_ki (sy_rV (o := 0) (As := []) (rest := []) ⟨hx, hb, hml, hown, hts⟩ hE hP hS (mX7_thrown l hfl Z nT nK cT cK ad (fX7_transfer (sy_up (fX6_transfer g q (xs (7 * k + 1)) (xs (7 * k + 2))).2.2.1 90 0 (fX6_transfer g q (xs (7 * k + 1)) (xs (7 * k + 2))).2.1) (fX6_transfer g q (xs (7 * k + 1)) (xs (7 * k + 2))).2.2.2 (xs (7 * k + 1)) (xs (7 * k + 2))).2 (fX6_transfer g q (xs (7 * k + 1)) (xs (7 * k + 2))).2.2.2) (cwV 0 hts (gl_V uk_5_93 uk_5_94 uk_5_95 uk_1_9 uk_5_96) rfl rfl rfl (by decide +kernel) ⟨Nat.le_of_ble_eq_true rfl, Nat.le_of_ble_eq_true rfl⟩) (sy_recv (kc := 8) hE hP rfl (by decide) rfl rfl rfl) rfl hl.1 rfl (Nat.le_of_ble_eq_true rfl) dL_law_1472 ⟨by show _ ≤ 601024; (try dsimp only); omega, by show _ ≤ 7293034; (try dsimp only); omega⟩) hS (fun b3 g3 q3 H locs e3 hP hS => ?_)
    obtain ⟨rfl, rfl, rfl⟩ : (fX7_transfer (sy_up (fX6_transfer g q (xs (7 * k + 1)) (xs (7 * k + 2))).2.2.1 90 0 (fX6_transfer g q (xs (7 * k + 1)) (xs (7 * k + 2))).2.1) (fX6_transfer g q (xs (7 * k + 1)) (xs (7 * k + 2))).2.2.2 (xs (7 * k + 1)) (xs (7 * k + 2))).2 0 0 = b3 ∧ (fX7_transfer (sy_up (fX6_transfer g q (xs (7 * k + 1)) (xs (7 * k + 2))).2.2.1 90 0 (fX6_transfer g q (xs (7 * k + 1)) (xs (7 * k + 2))).2.1) (fX6_transfer g q (xs (7 * k + 1)) (xs (7 * k + 2))).2.2.2 (xs (7 * k + 1)) (xs (7 * k + 2))).2 = g3 ∧ (fX6_transfer g q (xs (7 * k + 1)) (xs (7 * k + 2))).2.2.2 = q3 := by cases e3; exact ⟨rfl, rfl, rfl⟩
    refine sy_top (y := 0) st.2.1 ?_
    refine lv_iload hx hb dL_law_1475 (lv_at hl 1 rfl) ?_
    refine lv_icmp_eq (tgt := 1482) hx hb dL_law_1477 (by decide) (fun _ => ?_) (fun c9 => absurd rfl c9)
    refine lv_iload hx hb dL_law_1482 (lv_at hl 1 rfl) ?_
    refine lv_if_ne (tgt := 1499) hx hb dL_law_1484 (by decide) (fun c9 => absurd rfl c9) (fun _ => ?_)
    refine lv_aload_n hx hb dL_law_1487 rfl (lv_at hl 6 rfl) ?_
    refine lv_iconst (v := 0) hx hb dL_law_1488 (by decide) ?_
    refine sy_lald hx hb hE hP 90 rfl (i := 0) (k_in rfl) dL_law_1489 ?_
    refine lv_iload hx hb dL_law_1490 (lv_at hl 0 rfl) ?_
    refine lv_i2l (v := ((fX7_transfer (sy_up (fX6_transfer g q (xs (7 * k + 1)) (xs (7 * k + 2))).2.2.1 90 0 (fX6_transfer g q (xs (7 * k + 1)) (xs (7 * k + 2))).2.1) (fX6_transfer g q (xs (7 * k + 1)) (xs (7 * k + 2))).2.2.2 (xs (7 * k + 1)) (xs (7 * k + 2))).2 90 0).toInt64) hx hb dL_law_1492 (by rw [st.2.2.2.1, st.2.2.1]) ?_
    refine lv_lcmp0 hx hb dL_law_1493 ?_
    refine lv_if_eq (tgt := 1499) hx hb dL_law_1494 (by decide) (fun _ => ?_) (fun c9 => absurd rfl c9)
    refine lv_goto (tgt := 2272) hx hb dL_law_1499 (by decide) ?_
    refine W.widen (k := 100 + 16 * (k + 1)) (n := 4000 + 200 * (k + 1)) (by (try dsimp only); omega) (by (try dsimp only); omega) ?_
    exact hJ _ _ _ _ _ _ _ _ _ _ ⟨hP, by rw [Nat.succ_mul]; exact st.2.2.2.2, h70, h71, hS, lv_sub hl [2, 3, 4, 5, 6] rfl⟩
  · replace hg9 := hg9.symm
    replace hq9 := hq9.symm
    subst hg9
    subst hq9
    refine lv_istore (lv' := [(5, .int (wf 1 9 2 (fX6_transfer g q (xs (7 * k + 1)) (xs (7 * k + 2))).1)), (4, .int (nI (7 * k))), (0, .ref b), (1, .ref (ad 60)), (2, .ref (ad 0)), (3, .ref (ad 90))]) hx hb dL_law_1451 hl (by decide) rfl (fun ls hl => ?_)
    have st := st_no hI (F := fun gm => fX7_transfer gm q (xs (7 * k + 1)) (xs (7 * k + 2))) (fun gm hg => o_transfer (q' := q) hg (xs (7 * k + 1)) (xs (7 * k + 2))) n6_transfer (fun gm => f7_transfer) h0
    try dsimp only at st
    refine lv_aload_n hx hb dL_law_1453 rfl (lv_at hl 4 rfl) ?_
    refine lv_aload_n hx hb dL_law_1454 rfl (lv_at hl 2 rfl) ?_
    refine lv_iload hx hb dL_law_1455 (lv_at hl 1 rfl) ?_
    refine lv_iconst (v := 1) hx hb dL_law_1457 (by decide) ?_
    refine lv_iadd hx hb dL_law_1458 ?_
    refine sy_top (y := nI (7 * k + 1)) (nI_add _ _) ?_
    refine va_sld hx hb hX hbl hbA hS (vp_in_nI (show 7 * k + 1 < L by omega) (by omega)) dL_law_1459 ?_
    refine sy_top (y := xs (7 * k + 1)) (by rw [nI_clamp (by omega)]) ?_
    refine lv_aload_n hx hb dL_law_1460 rfl (lv_at hl 2 rfl) ?_
    refine lv_iload hx hb dL_law_1461 (lv_at hl 1 rfl) ?_
    refine lv_iconst (v := 2) hx hb dL_law_1463 (by decide) ?_
    refine lv_iadd hx hb dL_law_1464 ?_
    refine sy_top (y := nI (7 * k + 2)) (nI_add _ _) ?_
    refine va_sld hx hb hX hbl hbA hS (vp_in_nI (show 7 * k + 2 < L by omega) (by omega)) dL_law_1465 ?_
    refine sy_top (y := xs (7 * k + 2)) (by rw [nI_clamp (by omega)]) ?_
    refine sy_ki (sy_rV (o := 0) (As := [.int (xs (7 * k + 1)), .int (xs (7 * k + 2))]) (rest := []) ⟨hx, hb, hml, hown, hts⟩ hE hP hS (mX7_transfer l hfl Z nT nK cT cK ad g q (xs (7 * k + 1)) (xs (7 * k + 2)) hI.2.1) (cwV 2 hts (gl_V uk_5_232 uk_5_233 uk_5_234 uk_1_9 uk_5_235) rfl rfl rfl (by decide +kernel) ⟨Nat.le_of_ble_eq_true rfl, Nat.le_of_ble_eq_true rfl⟩) (sy_recv (kc := 8) hE hP rfl (by decide) rfl rfl rfl) rfl hl.1 rfl (Nat.le_of_ble_eq_true rfl) dL_law_1466 ⟨by show _ ≤ 601024; (try dsimp only); omega, by show _ ≤ 7293034; (try dsimp only); omega⟩) hS (fun b2 g2 q2 H locs e2 hP hS => ?_)
    obtain ⟨rfl, rfl, rfl⟩ : (fX7_transfer g q (xs (7 * k + 1)) (xs (7 * k + 2))).1 = b2 ∧ (fX7_transfer g q (xs (7 * k + 1)) (xs (7 * k + 2))).2 = g2 ∧ q = q2 := by cases e2; exact ⟨rfl, rfl, rfl⟩
    refine lv_istore (lv' := [(6, .int (fX7_transfer g q (xs (7 * k + 1)) (xs (7 * k + 2))).1), (5, .int (wf 1 9 2 (fX6_transfer g q (xs (7 * k + 1)) (xs (7 * k + 2))).1)), (4, .int (nI (7 * k))), (0, .ref b), (1, .ref (ad 60)), (2, .ref (ad 0)), (3, .ref (ad 90))]) hx hb dL_law_1469 hl (by decide) rfl (fun ls hl => ?_)
    refine lv_aload_n hx hb dL_law_1471 rfl (lv_at hl 5 rfl) ?_
    refine sy_ki (sy_rV (o := 0) (As := []) (rest := []) ⟨hx, hb, hml, hown, hts⟩ hE hP hS (mX7_thrown l hfl Z nT nK cT cK ad (fX7_transfer g q (xs (7 * k + 1)) (xs (7 * k + 2))).2 q) (cwV 0 hts (gl_V uk_5_93 uk_5_94 uk_5_95 uk_1_9 uk_5_96) rfl rfl rfl (by decide +kernel) ⟨Nat.le_of_ble_eq_true rfl, Nat.le_of_ble_eq_true rfl⟩) (sy_recv (kc := 8) hE hP rfl (by decide) rfl rfl rfl) rfl hl.1 rfl (Nat.le_of_ble_eq_true rfl) dL_law_1472 ⟨by show _ ≤ 601024; (try dsimp only); omega, by show _ ≤ 7293034; (try dsimp only); omega⟩) hS (fun b3 g3 q3 H locs e3 hP hS => ?_)
    obtain ⟨rfl, rfl, rfl⟩ : (fX7_transfer g q (xs (7 * k + 1)) (xs (7 * k + 2))).2 0 0 = b3 ∧ (fX7_transfer g q (xs (7 * k + 1)) (xs (7 * k + 2))).2 = g3 ∧ q = q3 := by cases e3; exact ⟨rfl, rfl, rfl⟩
    refine sy_top (y := (wf 1 9 2 (fX6_transfer g q (xs (7 * k + 1)) (xs (7 * k + 2))).1)) st.1 ?_
    refine lv_iload hx hb dL_law_1475 (lv_at hl 1 rfl) ?_
    refine lv_icmp_eq (tgt := 1482) hx hb dL_law_1477 (by decide) (fun _ => ?_) (fun c9 => absurd rfl c9)
    refine lv_iload hx hb dL_law_1482 (lv_at hl 1 rfl) ?_
    refine lv_if_ne (tgt := 1499) hx hb dL_law_1484 (by decide) (fun _ => ?_) (fun c9 => absurd c9 ((wf_ne h0 hCode).resolve_right (by decide)))
    refine lv_goto (tgt := 2272) hx hb dL_law_1499 (by decide) ?_
    refine W.widen (k := 100 + 16 * (k + 1)) (n := 4000 + 200 * (k + 1)) (by (try dsimp only); omega) (by (try dsimp only); omega) ?_
    exact hJ _ _ _ _ _ _ _ _ _ _ ⟨hP, by rw [Nat.succ_mul]; exact st.2.2, h70, h71, hS, lv_sub hl [2, 3, 4, 5, 6] rfl⟩
set_option maxHeartbeats 8000000 in
set_option maxRecDepth 100000 in
theorem lc_wind (hC : lCtx p l s m meth c b L xs Z) {k : Nat} (hk : 7 * k + 7 ≤ L) (hL : L ≤ 3584) (hJ : ∀ (nT nK cT cK : Nat) (ad : Nat → Nat) (g : sG) (q : sQ) (H : Heap) (locs : List Loc) (ls : Array Slot), lSt Z s b k (k + 1) nT nK cT cK ad g q H locs ls → W p l e room_1 s m #[Value.ref b] below meth c H locs (100 + 16 * (k + 1)) (4000 + 200 * (k + 1)) (lw_Z below #[Value.ref b] s) (F0 m 2272 ls []))
    {nT nK cT cK : Nat} {ad : Nat → Nat} {g : sG} {q : sQ} {H : Heap} {locs : List Loc} {ls : Array Slot} (h : lSt Z s b k k nT nK cT cK ad g q H locs ls) : W p l e room_1 s m #[Value.ref b] below meth c H locs (100 + 16 * k) (4000 + 200 * k) (lw_Z below #[Value.ref b] s) (F0 m 1502 ls []) := by
  obtain ⟨hx, hb, hr, hml, hown, hts, hX, hbl, hlocks, hZ, hE, hNc, hfl⟩ := hC
  obtain ⟨hP, hI, h70, h71, hS, hl⟩ := h
  have hbA : ¬ sy_A Z b := fun z => absurd (show Z.2.2.1 ≤ b from z) (by omega)
  have hkB : k * oB ≤ 2048000000 := by
    have : k ≤ 511 := by omega
    calc k * oB ≤ 511 * 4000000 := Nat.mul_le_mul this (Nat.le_refl _)
      _ ≤ 2048000000 := by decide
  refine lv_aload_n hx hb dL_law_1502 rfl (lv_at hl 2 rfl) ?_
  refine lv_aload_n hx hb dL_law_1503 rfl (lv_at hl 1 rfl) ?_
  refine lv_iload hx hb dL_law_1504 (lv_at hl 0 rfl) ?_
  refine lv_iconst (v := 1) hx hb dL_law_1506 (by decide) ?_
  refine lv_iadd hx hb dL_law_1507 ?_
  refine sy_top (y := nI (7 * k + 1)) (nI_add _ _) ?_
  refine va_sld hx hb hX hbl hbA hS (vp_in_nI (show 7 * k + 1 < L by omega) (by omega)) dL_law_1508 ?_
  refine sy_top (y := xs (7 * k + 1)) (by rw [nI_clamp (by omega)]) ?_
  refine lv_aload_n hx hb dL_law_1509 rfl (lv_at hl 4 rfl) ?_
  have hCode : wf 1 9 9 (fX6_wind g q (xs (7 * k + 1))).1 ≠ 9 := (by
        by_cases z : (fX6_wind g q (xs (7 * k + 1))).1 = 0
        · rw [z]; exact (by decide : (0 : Int32) ≠ 9)
        · exact (st_no hI (fun gm hg => o_wind (q' := (fX6_wind g q (xs (7 * k + 1))).2.2.2) hg (xs (7 * k + 1))) n6_wind (fun gm => f7_wind) z).2.1)
  refine va_calli (vx_runSW (As := [.ref (ad 60), .int (xs (7 * k + 1)), .ref (ad 90)]) (rest := []) ⟨hx, hb, hml, hown, hts⟩ (mL_wind l hfl Z nT nK cT cK ad g q (xs (7 * k + 1)) (by have := inv_T hI; omega) (inv_IG hI) (inv_IQ hI) hCode) (vx_cwSW 3 hts (gl_S uk_4_54 uk_4_55 uk_1_0 uk_4_56) rfl rfl rfl (by decide +kernel) ⟨Nat.le_of_ble_eq_true rfl, Nat.le_of_ble_eq_true rfl⟩) ⟨sPreL_blind _, fun U hU hW => ⟨rfl, ⟨hE.next hS hU hW.alike, by rw [hU]; exact hP⟩, hNc.next hW.alike⟩⟩ rfl rfl hl.1 rfl (lv_room (Nat.le_of_ble_eq_true rfl)) dL_law_1510 ⟨by show _ ≤ 601024; (try dsimp only); omega, by show _ ≤ 7293034; (try dsimp only); omega⟩) hS (fun _ _ h => h) (fun _ h => h) (fun r u t H locs ht _ hp hB _ _ hS => ?_)
  obtain ⟨g1, q1⟩ := u
  have hP := hB.2
  rw [ht] at hP
  dsimp only at hp hP
  rcases hp with ⟨h0, rfl, rfl, rfl⟩ | ⟨h0, rfl, hg9, hq9⟩
  · refine lv_istore (lv' := [(5, .int 0), (4, .int (nI (7 * k))), (0, .ref b), (1, .ref (ad 60)), (2, .ref (ad 0)), (3, .ref (ad 90))]) hx hb dL_law_1513 hl (by decide) rfl (fun ls hl => ?_)
    have st := st_yes hI (F := fun gm => fX7_wind gm (fX6_wind g q (xs (7 * k + 1))).2.2.2 (xs (7 * k + 1))) (fun gm hg => o_wind (q' := (fX6_wind g q (xs (7 * k + 1))).2.2.2) hg (xs (7 * k + 1))) f6_wind (fun gm => f7_wind) h0
    try dsimp only at st
    refine lv_aload_n hx hb dL_law_1515 rfl (lv_at hl 4 rfl) ?_
    refine lv_aload_n hx hb dL_law_1516 rfl (lv_at hl 2 rfl) ?_
    refine lv_iload hx hb dL_law_1517 (lv_at hl 1 rfl) ?_
    refine lv_iconst (v := 1) hx hb dL_law_1519 (by decide) ?_
    refine lv_iadd hx hb dL_law_1520 ?_
    refine sy_top (y := nI (7 * k + 1)) (nI_add _ _) ?_
    refine va_sld hx hb hX hbl hbA hS (vp_in_nI (show 7 * k + 1 < L by omega) (by omega)) dL_law_1521 ?_
    refine sy_top (y := xs (7 * k + 1)) (by rw [nI_clamp (by omega)]) ?_
    refine sy_ki (sy_rV (o := 0) (As := [.int (xs (7 * k + 1))]) (rest := []) ⟨hx, hb, hml, hown, hts⟩ hE hP hS (mX7_wind l hfl Z nT nK cT cK ad (sy_up (fX6_wind g q (xs (7 * k + 1))).2.2.1 90 0 (fX6_wind g q (xs (7 * k + 1))).2.1) (fX6_wind g q (xs (7 * k + 1))).2.2.2 (xs (7 * k + 1)) st.1.2.1) (cwV 1 hts (gl_V uk_5_236 uk_5_237 uk_5_238 uk_1_9 uk_5_239) rfl rfl rfl (by decide +kernel) ⟨Nat.le_of_ble_eq_true rfl, Nat.le_of_ble_eq_true rfl⟩) (sy_recv (kc := 8) hE hP rfl (by decide) rfl rfl rfl) rfl hl.1 rfl (Nat.le_of_ble_eq_true rfl) dL_law_1522 ⟨by show _ ≤ 601024; (try dsimp only); omega, by show _ ≤ 7293034; (try dsimp only); omega⟩) hS (fun b2 g2 q2 H locs e2 hP hS => ?_)
    obtain ⟨rfl, rfl, rfl⟩ : (fX7_wind (sy_up (fX6_wind g q (xs (7 * k + 1))).2.2.1 90 0 (fX6_wind g q (xs (7 * k + 1))).2.1) (fX6_wind g q (xs (7 * k + 1))).2.2.2 (xs (7 * k + 1))).1 = b2 ∧ (fX7_wind (sy_up (fX6_wind g q (xs (7 * k + 1))).2.2.1 90 0 (fX6_wind g q (xs (7 * k + 1))).2.1) (fX6_wind g q (xs (7 * k + 1))).2.2.2 (xs (7 * k + 1))).2 = g2 ∧ (fX6_wind g q (xs (7 * k + 1))).2.2.2 = q2 := by cases e2; exact ⟨rfl, rfl, rfl⟩
    refine lv_istore (lv' := [(6, .int (fX7_wind (sy_up (fX6_wind g q (xs (7 * k + 1))).2.2.1 90 0 (fX6_wind g q (xs (7 * k + 1))).2.1) (fX6_wind g q (xs (7 * k + 1))).2.2.2 (xs (7 * k + 1))).1), (5, .int 0), (4, .int (nI (7 * k))), (0, .ref b), (1, .ref (ad 60)), (2, .ref (ad 0)), (3, .ref (ad 90))]) hx hb dL_law_1525 hl (by decide) rfl (fun ls hl => ?_)
    refine lv_aload_n hx hb dL_law_1527 rfl (lv_at hl 5 rfl) ?_
    refine sy_ki (sy_rV (o := 0) (As := []) (rest := []) ⟨hx, hb, hml, hown, hts⟩ hE hP hS (mX7_thrown l hfl Z nT nK cT cK ad (fX7_wind (sy_up (fX6_wind g q (xs (7 * k + 1))).2.2.1 90 0 (fX6_wind g q (xs (7 * k + 1))).2.1) (fX6_wind g q (xs (7 * k + 1))).2.2.2 (xs (7 * k + 1))).2 (fX6_wind g q (xs (7 * k + 1))).2.2.2) (cwV 0 hts (gl_V uk_5_93 uk_5_94 uk_5_95 uk_1_9 uk_5_96) rfl rfl rfl (by decide +kernel) ⟨Nat.le_of_ble_eq_true rfl, Nat.le_of_ble_eq_true rfl⟩) (sy_recv (kc := 8) hE hP rfl (by decide) rfl rfl rfl) rfl hl.1 rfl (Nat.le_of_ble_eq_true rfl) dL_law_1528 ⟨by show _ ≤ 601024; (try dsimp only); omega, by show _ ≤ 7293034; (try dsimp only); omega⟩) hS (fun b3 g3 q3 H locs e3 hP hS => ?_)
    obtain ⟨rfl, rfl, rfl⟩ : (fX7_wind (sy_up (fX6_wind g q (xs (7 * k + 1))).2.2.1 90 0 (fX6_wind g q (xs (7 * k + 1))).2.1) (fX6_wind g q (xs (7 * k + 1))).2.2.2 (xs (7 * k + 1))).2 0 0 = b3 ∧ (fX7_wind (sy_up (fX6_wind g q (xs (7 * k + 1))).2.2.1 90 0 (fX6_wind g q (xs (7 * k + 1))).2.1) (fX6_wind g q (xs (7 * k + 1))).2.2.2 (xs (7 * k + 1))).2 = g3 ∧ (fX6_wind g q (xs (7 * k + 1))).2.2.2 = q3 := by cases e3; exact ⟨rfl, rfl, rfl⟩
    refine sy_top (y := 0) st.2.1 ?_
    refine lv_iload hx hb dL_law_1531 (lv_at hl 1 rfl) ?_
    refine lv_icmp_eq (tgt := 1538) hx hb dL_law_1533 (by decide) (fun _ => ?_) (fun c9 => absurd rfl c9)
    refine lv_iload hx hb dL_law_1538 (lv_at hl 1 rfl) ?_
    refine lv_if_ne (tgt := 1555) hx hb dL_law_1540 (by decide) (fun c9 => absurd rfl c9) (fun _ => ?_)
    refine lv_aload_n hx hb dL_law_1543 rfl (lv_at hl 6 rfl) ?_
    refine lv_iconst (v := 0) hx hb dL_law_1544 (by decide) ?_
    refine sy_lald hx hb hE hP 90 rfl (i := 0) (k_in rfl) dL_law_1545 ?_
    refine lv_iload hx hb dL_law_1546 (lv_at hl 0 rfl) ?_
    refine lv_i2l (v := ((fX7_wind (sy_up (fX6_wind g q (xs (7 * k + 1))).2.2.1 90 0 (fX6_wind g q (xs (7 * k + 1))).2.1) (fX6_wind g q (xs (7 * k + 1))).2.2.2 (xs (7 * k + 1))).2 90 0).toInt64) hx hb dL_law_1548 (by rw [st.2.2.2.1, st.2.2.1]) ?_
    refine lv_lcmp0 hx hb dL_law_1549 ?_
    refine lv_if_eq (tgt := 1555) hx hb dL_law_1550 (by decide) (fun _ => ?_) (fun c9 => absurd rfl c9)
    refine lv_goto (tgt := 2272) hx hb dL_law_1555 (by decide) ?_
    refine W.widen (k := 100 + 16 * (k + 1)) (n := 4000 + 200 * (k + 1)) (by (try dsimp only); omega) (by (try dsimp only); omega) ?_
    exact hJ _ _ _ _ _ _ _ _ _ _ ⟨hP, by rw [Nat.succ_mul]; exact st.2.2.2.2, h70, h71, hS, lv_sub hl [2, 3, 4, 5, 6] rfl⟩
  · replace hg9 := hg9.symm
    replace hq9 := hq9.symm
    subst hg9
    subst hq9
    refine lv_istore (lv' := [(5, .int (wf 1 9 9 (fX6_wind g q (xs (7 * k + 1))).1)), (4, .int (nI (7 * k))), (0, .ref b), (1, .ref (ad 60)), (2, .ref (ad 0)), (3, .ref (ad 90))]) hx hb dL_law_1513 hl (by decide) rfl (fun ls hl => ?_)
    have st := st_no hI (F := fun gm => fX7_wind gm q (xs (7 * k + 1))) (fun gm hg => o_wind (q' := q) hg (xs (7 * k + 1))) n6_wind (fun gm => f7_wind) h0
    try dsimp only at st
    refine lv_aload_n hx hb dL_law_1515 rfl (lv_at hl 4 rfl) ?_
    refine lv_aload_n hx hb dL_law_1516 rfl (lv_at hl 2 rfl) ?_
    refine lv_iload hx hb dL_law_1517 (lv_at hl 1 rfl) ?_
    refine lv_iconst (v := 1) hx hb dL_law_1519 (by decide) ?_
    refine lv_iadd hx hb dL_law_1520 ?_
    refine sy_top (y := nI (7 * k + 1)) (nI_add _ _) ?_
    refine va_sld hx hb hX hbl hbA hS (vp_in_nI (show 7 * k + 1 < L by omega) (by omega)) dL_law_1521 ?_
    refine sy_top (y := xs (7 * k + 1)) (by rw [nI_clamp (by omega)]) ?_
    refine sy_ki (sy_rV (o := 0) (As := [.int (xs (7 * k + 1))]) (rest := []) ⟨hx, hb, hml, hown, hts⟩ hE hP hS (mX7_wind l hfl Z nT nK cT cK ad g q (xs (7 * k + 1)) hI.2.1) (cwV 1 hts (gl_V uk_5_236 uk_5_237 uk_5_238 uk_1_9 uk_5_239) rfl rfl rfl (by decide +kernel) ⟨Nat.le_of_ble_eq_true rfl, Nat.le_of_ble_eq_true rfl⟩) (sy_recv (kc := 8) hE hP rfl (by decide) rfl rfl rfl) rfl hl.1 rfl (Nat.le_of_ble_eq_true rfl) dL_law_1522 ⟨by show _ ≤ 601024; (try dsimp only); omega, by show _ ≤ 7293034; (try dsimp only); omega⟩) hS (fun b2 g2 q2 H locs e2 hP hS => ?_)
    obtain ⟨rfl, rfl, rfl⟩ : (fX7_wind g q (xs (7 * k + 1))).1 = b2 ∧ (fX7_wind g q (xs (7 * k + 1))).2 = g2 ∧ q = q2 := by cases e2; exact ⟨rfl, rfl, rfl⟩
    refine lv_istore (lv' := [(6, .int (fX7_wind g q (xs (7 * k + 1))).1), (5, .int (wf 1 9 9 (fX6_wind g q (xs (7 * k + 1))).1)), (4, .int (nI (7 * k))), (0, .ref b), (1, .ref (ad 60)), (2, .ref (ad 0)), (3, .ref (ad 90))]) hx hb dL_law_1525 hl (by decide) rfl (fun ls hl => ?_)
    refine lv_aload_n hx hb dL_law_1527 rfl (lv_at hl 5 rfl) ?_
    refine sy_ki (sy_rV (o := 0) (As := []) (rest := []) ⟨hx, hb, hml, hown, hts⟩ hE hP hS (mX7_thrown l hfl Z nT nK cT cK ad (fX7_wind g q (xs (7 * k + 1))).2 q) (cwV 0 hts (gl_V uk_5_93 uk_5_94 uk_5_95 uk_1_9 uk_5_96) rfl rfl rfl (by decide +kernel) ⟨Nat.le_of_ble_eq_true rfl, Nat.le_of_ble_eq_true rfl⟩) (sy_recv (kc := 8) hE hP rfl (by decide) rfl rfl rfl) rfl hl.1 rfl (Nat.le_of_ble_eq_true rfl) dL_law_1528 ⟨by show _ ≤ 601024; (try dsimp only); omega, by show _ ≤ 7293034; (try dsimp only); omega⟩) hS (fun b3 g3 q3 H locs e3 hP hS => ?_)
    obtain ⟨rfl, rfl, rfl⟩ : (fX7_wind g q (xs (7 * k + 1))).2 0 0 = b3 ∧ (fX7_wind g q (xs (7 * k + 1))).2 = g3 ∧ q = q3 := by cases e3; exact ⟨rfl, rfl, rfl⟩
    refine sy_top (y := (wf 1 9 9 (fX6_wind g q (xs (7 * k + 1))).1)) st.1 ?_
    refine lv_iload hx hb dL_law_1531 (lv_at hl 1 rfl) ?_
    refine lv_icmp_eq (tgt := 1538) hx hb dL_law_1533 (by decide) (fun _ => ?_) (fun c9 => absurd rfl c9)
    refine lv_iload hx hb dL_law_1538 (lv_at hl 1 rfl) ?_
    refine lv_if_ne (tgt := 1555) hx hb dL_law_1540 (by decide) (fun _ => ?_) (fun c9 => absurd c9 ((wf_ne h0 hCode).resolve_right (by decide)))
    refine lv_goto (tgt := 2272) hx hb dL_law_1555 (by decide) ?_
    refine W.widen (k := 100 + 16 * (k + 1)) (n := 4000 + 200 * (k + 1)) (by (try dsimp only); omega) (by (try dsimp only); omega) ?_
    exact hJ _ _ _ _ _ _ _ _ _ _ ⟨hP, by rw [Nat.succ_mul]; exact st.2.2, h70, h71, hS, lv_sub hl [2, 3, 4, 5, 6] rfl⟩
set_option maxHeartbeats 8000000 in
set_option maxRecDepth 100000 in
theorem lc_pass (hC : lCtx p l s m meth c b L xs Z) {k : Nat} (hk : 7 * k + 7 ≤ L) (hL : L ≤ 3584) (hJ : ∀ (nT nK cT cK : Nat) (ad : Nat → Nat) (g : sG) (q : sQ) (H : Heap) (locs : List Loc) (ls : Array Slot), lSt Z s b k (k + 1) nT nK cT cK ad g q H locs ls → W p l e room_1 s m #[Value.ref b] below meth c H locs (100 + 16 * (k + 1)) (4000 + 200 * (k + 1)) (lw_Z below #[Value.ref b] s) (F0 m 2272 ls []))
    {nT nK cT cK : Nat} {ad : Nat → Nat} {g : sG} {q : sQ} {H : Heap} {locs : List Loc} {ls : Array Slot} (h : lSt Z s b k k nT nK cT cK ad g q H locs ls) : W p l e room_1 s m #[Value.ref b] below meth c H locs (100 + 16 * k) (4000 + 200 * k) (lw_Z below #[Value.ref b] s) (F0 m 1558 ls []) := by
  obtain ⟨hx, hb, hr, hml, hown, hts, hX, hbl, hlocks, hZ, hE, hNc, hfl⟩ := hC
  obtain ⟨hP, hI, h70, h71, hS, hl⟩ := h
  have hbA : ¬ sy_A Z b := fun z => absurd (show Z.2.2.1 ≤ b from z) (by omega)
  have hkB : k * oB ≤ 2048000000 := by
    have : k ≤ 511 := by omega
    calc k * oB ≤ 511 * 4000000 := Nat.mul_le_mul this (Nat.le_refl _)
      _ ≤ 2048000000 := by decide
  refine lv_aload_n hx hb dL_law_1558 rfl (lv_at hl 2 rfl) ?_
  refine lv_aload_n hx hb dL_law_1559 rfl (lv_at hl 1 rfl) ?_
  refine lv_iload hx hb dL_law_1560 (lv_at hl 0 rfl) ?_
  refine lv_iconst (v := 1) hx hb dL_law_1562 (by decide) ?_
  refine lv_iadd hx hb dL_law_1563 ?_
  refine sy_top (y := nI (7 * k + 1)) (nI_add _ _) ?_
  refine va_sld hx hb hX hbl hbA hS (vp_in_nI (show 7 * k + 1 < L by omega) (by omega)) dL_law_1564 ?_
  refine sy_top (y := xs (7 * k + 1)) (by rw [nI_clamp (by omega)]) ?_
  refine lv_aload_n hx hb dL_law_1565 rfl (lv_at hl 4 rfl) ?_
  have hCode : wf 9 1 2 (fX6_pass g q (xs (7 * k + 1))).1 ≠ 9 := (by
        by_cases z : (fX6_pass g q (xs (7 * k + 1))).1 = 0
        · rw [z]; exact (by decide : (0 : Int32) ≠ 9)
        · exact (st_no hI (fun gm hg => o_pass (q' := (fX6_pass g q (xs (7 * k + 1))).2.2.2) hg (xs (7 * k + 1))) n6_pass (fun gm => f7_pass) z).2.1)
  refine va_calli (vx_runSW (As := [.ref (ad 60), .int (xs (7 * k + 1)), .ref (ad 90)]) (rest := []) ⟨hx, hb, hml, hown, hts⟩ (mL_pass l hfl Z nT nK cT cK ad g q (xs (7 * k + 1)) (by have := inv_T hI; omega) (inv_IG hI) (inv_IQ hI) hCode) (vx_cwSW 3 hts (gl_S uk_4_61 uk_4_62 uk_1_0 uk_4_63) rfl rfl rfl (by decide +kernel) ⟨Nat.le_of_ble_eq_true rfl, Nat.le_of_ble_eq_true rfl⟩) ⟨sPreL_blind _, fun U hU hW => ⟨rfl, ⟨hE.next hS hU hW.alike, by rw [hU]; exact hP⟩, hNc.next hW.alike⟩⟩ rfl rfl hl.1 rfl (lv_room (Nat.le_of_ble_eq_true rfl)) dL_law_1566 ⟨by show _ ≤ 601024; (try dsimp only); omega, by show _ ≤ 7293034; (try dsimp only); omega⟩) hS (fun _ _ h => h) (fun _ h => h) (fun r u t H locs ht _ hp hB _ _ hS => ?_)
  obtain ⟨g1, q1⟩ := u
  have hP := hB.2
  rw [ht] at hP
  dsimp only at hp hP
  rcases hp with ⟨h0, rfl, rfl, rfl⟩ | ⟨h0, rfl, hg9, hq9⟩
  · refine lv_istore (lv' := [(5, .int 0), (4, .int (nI (7 * k))), (0, .ref b), (1, .ref (ad 60)), (2, .ref (ad 0)), (3, .ref (ad 90))]) hx hb dL_law_1569 hl (by decide) rfl (fun ls hl => ?_)
    have st := st_yes hI (F := fun gm => fX7_pass gm (fX6_pass g q (xs (7 * k + 1))).2.2.2 (xs (7 * k + 1))) (fun gm hg => o_pass (q' := (fX6_pass g q (xs (7 * k + 1))).2.2.2) hg (xs (7 * k + 1))) f6_pass (fun gm => f7_pass) h0
    try dsimp only at st
    refine lv_aload_n hx hb dL_law_1571 rfl (lv_at hl 4 rfl) ?_
    refine lv_aload_n hx hb dL_law_1572 rfl (lv_at hl 2 rfl) ?_
    refine lv_iload hx hb dL_law_1573 (lv_at hl 1 rfl) ?_
    refine lv_iconst (v := 1) hx hb dL_law_1575 (by decide) ?_
    refine lv_iadd hx hb dL_law_1576 ?_
    refine sy_top (y := nI (7 * k + 1)) (nI_add _ _) ?_
    refine va_sld hx hb hX hbl hbA hS (vp_in_nI (show 7 * k + 1 < L by omega) (by omega)) dL_law_1577 ?_
    refine sy_top (y := xs (7 * k + 1)) (by rw [nI_clamp (by omega)]) ?_
    refine sy_ki (sy_rV (o := 0) (As := [.int (xs (7 * k + 1))]) (rest := []) ⟨hx, hb, hml, hown, hts⟩ hE hP hS (mX7_pass l hfl Z nT nK cT cK ad (sy_up (fX6_pass g q (xs (7 * k + 1))).2.2.1 90 0 (fX6_pass g q (xs (7 * k + 1))).2.1) (fX6_pass g q (xs (7 * k + 1))).2.2.2 (xs (7 * k + 1)) st.1.2.1) (cwV 1 hts (gl_V uk_6_0 uk_6_1 uk_6_2 uk_1_9 uk_6_3) rfl rfl rfl (by decide +kernel) ⟨Nat.le_of_ble_eq_true rfl, Nat.le_of_ble_eq_true rfl⟩) (sy_recv (kc := 8) hE hP rfl (by decide) rfl rfl rfl) rfl hl.1 rfl (Nat.le_of_ble_eq_true rfl) dL_law_1578 ⟨by show _ ≤ 601024; (try dsimp only); omega, by show _ ≤ 7293034; (try dsimp only); omega⟩) hS (fun b2 g2 q2 H locs e2 hP hS => ?_)
    obtain ⟨rfl, rfl, rfl⟩ : (fX7_pass (sy_up (fX6_pass g q (xs (7 * k + 1))).2.2.1 90 0 (fX6_pass g q (xs (7 * k + 1))).2.1) (fX6_pass g q (xs (7 * k + 1))).2.2.2 (xs (7 * k + 1))).1 = b2 ∧ (fX7_pass (sy_up (fX6_pass g q (xs (7 * k + 1))).2.2.1 90 0 (fX6_pass g q (xs (7 * k + 1))).2.1) (fX6_pass g q (xs (7 * k + 1))).2.2.2 (xs (7 * k + 1))).2 = g2 ∧ (fX6_pass g q (xs (7 * k + 1))).2.2.2 = q2 := by cases e2; exact ⟨rfl, rfl, rfl⟩
    refine lv_istore (lv' := [(6, .int (fX7_pass (sy_up (fX6_pass g q (xs (7 * k + 1))).2.2.1 90 0 (fX6_pass g q (xs (7 * k + 1))).2.1) (fX6_pass g q (xs (7 * k + 1))).2.2.2 (xs (7 * k + 1))).1), (5, .int 0), (4, .int (nI (7 * k))), (0, .ref b), (1, .ref (ad 60)), (2, .ref (ad 0)), (3, .ref (ad 90))]) hx hb dL_law_1581 hl (by decide) rfl (fun ls hl => ?_)
    refine lv_aload_n hx hb dL_law_1583 rfl (lv_at hl 5 rfl) ?_
    refine sy_ki (sy_rV (o := 0) (As := []) (rest := []) ⟨hx, hb, hml, hown, hts⟩ hE hP hS (mX7_thrown l hfl Z nT nK cT cK ad (fX7_pass (sy_up (fX6_pass g q (xs (7 * k + 1))).2.2.1 90 0 (fX6_pass g q (xs (7 * k + 1))).2.1) (fX6_pass g q (xs (7 * k + 1))).2.2.2 (xs (7 * k + 1))).2 (fX6_pass g q (xs (7 * k + 1))).2.2.2) (cwV 0 hts (gl_V uk_5_93 uk_5_94 uk_5_95 uk_1_9 uk_5_96) rfl rfl rfl (by decide +kernel) ⟨Nat.le_of_ble_eq_true rfl, Nat.le_of_ble_eq_true rfl⟩) (sy_recv (kc := 8) hE hP rfl (by decide) rfl rfl rfl) rfl hl.1 rfl (Nat.le_of_ble_eq_true rfl) dL_law_1584 ⟨by show _ ≤ 601024; (try dsimp only); omega, by show _ ≤ 7293034; (try dsimp only); omega⟩) hS (fun b3 g3 q3 H locs e3 hP hS => ?_)
    obtain ⟨rfl, rfl, rfl⟩ : (fX7_pass (sy_up (fX6_pass g q (xs (7 * k + 1))).2.2.1 90 0 (fX6_pass g q (xs (7 * k + 1))).2.1) (fX6_pass g q (xs (7 * k + 1))).2.2.2 (xs (7 * k + 1))).2 0 0 = b3 ∧ (fX7_pass (sy_up (fX6_pass g q (xs (7 * k + 1))).2.2.1 90 0 (fX6_pass g q (xs (7 * k + 1))).2.1) (fX6_pass g q (xs (7 * k + 1))).2.2.2 (xs (7 * k + 1))).2 = g3 ∧ (fX6_pass g q (xs (7 * k + 1))).2.2.2 = q3 := by cases e3; exact ⟨rfl, rfl, rfl⟩
    refine sy_top (y := 0) st.2.1 ?_
    refine lv_iload hx hb dL_law_1587 (lv_at hl 1 rfl) ?_
    refine lv_icmp_eq (tgt := 1594) hx hb dL_law_1589 (by decide) (fun _ => ?_) (fun c9 => absurd rfl c9)
    refine lv_iload hx hb dL_law_1594 (lv_at hl 1 rfl) ?_
    refine lv_if_ne (tgt := 1611) hx hb dL_law_1596 (by decide) (fun c9 => absurd rfl c9) (fun _ => ?_)
    refine lv_aload_n hx hb dL_law_1599 rfl (lv_at hl 6 rfl) ?_
    refine lv_iconst (v := 0) hx hb dL_law_1600 (by decide) ?_
    refine sy_lald hx hb hE hP 90 rfl (i := 0) (k_in rfl) dL_law_1601 ?_
    refine lv_iload hx hb dL_law_1602 (lv_at hl 0 rfl) ?_
    refine lv_i2l (v := ((fX7_pass (sy_up (fX6_pass g q (xs (7 * k + 1))).2.2.1 90 0 (fX6_pass g q (xs (7 * k + 1))).2.1) (fX6_pass g q (xs (7 * k + 1))).2.2.2 (xs (7 * k + 1))).2 90 0).toInt64) hx hb dL_law_1604 (by rw [st.2.2.2.1, st.2.2.1]) ?_
    refine lv_lcmp0 hx hb dL_law_1605 ?_
    refine lv_if_eq (tgt := 1611) hx hb dL_law_1606 (by decide) (fun _ => ?_) (fun c9 => absurd rfl c9)
    refine lv_goto (tgt := 2272) hx hb dL_law_1611 (by decide) ?_
    refine W.widen (k := 100 + 16 * (k + 1)) (n := 4000 + 200 * (k + 1)) (by (try dsimp only); omega) (by (try dsimp only); omega) ?_
    exact hJ _ _ _ _ _ _ _ _ _ _ ⟨hP, by rw [Nat.succ_mul]; exact st.2.2.2.2, h70, h71, hS, lv_sub hl [2, 3, 4, 5, 6] rfl⟩
  · replace hg9 := hg9.symm
    replace hq9 := hq9.symm
    subst hg9
    subst hq9
    refine lv_istore (lv' := [(5, .int (wf 9 1 2 (fX6_pass g q (xs (7 * k + 1))).1)), (4, .int (nI (7 * k))), (0, .ref b), (1, .ref (ad 60)), (2, .ref (ad 0)), (3, .ref (ad 90))]) hx hb dL_law_1569 hl (by decide) rfl (fun ls hl => ?_)
    have st := st_no hI (F := fun gm => fX7_pass gm q (xs (7 * k + 1))) (fun gm hg => o_pass (q' := q) hg (xs (7 * k + 1))) n6_pass (fun gm => f7_pass) h0
    try dsimp only at st
    refine lv_aload_n hx hb dL_law_1571 rfl (lv_at hl 4 rfl) ?_
    refine lv_aload_n hx hb dL_law_1572 rfl (lv_at hl 2 rfl) ?_
    refine lv_iload hx hb dL_law_1573 (lv_at hl 1 rfl) ?_
    refine lv_iconst (v := 1) hx hb dL_law_1575 (by decide) ?_
    refine lv_iadd hx hb dL_law_1576 ?_
    refine sy_top (y := nI (7 * k + 1)) (nI_add _ _) ?_
    refine va_sld hx hb hX hbl hbA hS (vp_in_nI (show 7 * k + 1 < L by omega) (by omega)) dL_law_1577 ?_
    refine sy_top (y := xs (7 * k + 1)) (by rw [nI_clamp (by omega)]) ?_
    refine sy_ki (sy_rV (o := 0) (As := [.int (xs (7 * k + 1))]) (rest := []) ⟨hx, hb, hml, hown, hts⟩ hE hP hS (mX7_pass l hfl Z nT nK cT cK ad g q (xs (7 * k + 1)) hI.2.1) (cwV 1 hts (gl_V uk_6_0 uk_6_1 uk_6_2 uk_1_9 uk_6_3) rfl rfl rfl (by decide +kernel) ⟨Nat.le_of_ble_eq_true rfl, Nat.le_of_ble_eq_true rfl⟩) (sy_recv (kc := 8) hE hP rfl (by decide) rfl rfl rfl) rfl hl.1 rfl (Nat.le_of_ble_eq_true rfl) dL_law_1578 ⟨by show _ ≤ 601024; (try dsimp only); omega, by show _ ≤ 7293034; (try dsimp only); omega⟩) hS (fun b2 g2 q2 H locs e2 hP hS => ?_)
    obtain ⟨rfl, rfl, rfl⟩ : (fX7_pass g q (xs (7 * k + 1))).1 = b2 ∧ (fX7_pass g q (xs (7 * k + 1))).2 = g2 ∧ q = q2 := by cases e2; exact ⟨rfl, rfl, rfl⟩
    refine lv_istore (lv' := [(6, .int (fX7_pass g q (xs (7 * k + 1))).1), (5, .int (wf 9 1 2 (fX6_pass g q (xs (7 * k + 1))).1)), (4, .int (nI (7 * k))), (0, .ref b), (1, .ref (ad 60)), (2, .ref (ad 0)), (3, .ref (ad 90))]) hx hb dL_law_1581 hl (by decide) rfl (fun ls hl => ?_)
    refine lv_aload_n hx hb dL_law_1583 rfl (lv_at hl 5 rfl) ?_
    refine sy_ki (sy_rV (o := 0) (As := []) (rest := []) ⟨hx, hb, hml, hown, hts⟩ hE hP hS (mX7_thrown l hfl Z nT nK cT cK ad (fX7_pass g q (xs (7 * k + 1))).2 q) (cwV 0 hts (gl_V uk_5_93 uk_5_94 uk_5_95 uk_1_9 uk_5_96) rfl rfl rfl (by decide +kernel) ⟨Nat.le_of_ble_eq_true rfl, Nat.le_of_ble_eq_true rfl⟩) (sy_recv (kc := 8) hE hP rfl (by decide) rfl rfl rfl) rfl hl.1 rfl (Nat.le_of_ble_eq_true rfl) dL_law_1584 ⟨by show _ ≤ 601024; (try dsimp only); omega, by show _ ≤ 7293034; (try dsimp only); omega⟩) hS (fun b3 g3 q3 H locs e3 hP hS => ?_)
    obtain ⟨rfl, rfl, rfl⟩ : (fX7_pass g q (xs (7 * k + 1))).2 0 0 = b3 ∧ (fX7_pass g q (xs (7 * k + 1))).2 = g3 ∧ q = q3 := by cases e3; exact ⟨rfl, rfl, rfl⟩
    refine sy_top (y := (wf 9 1 2 (fX6_pass g q (xs (7 * k + 1))).1)) st.1 ?_
    refine lv_iload hx hb dL_law_1587 (lv_at hl 1 rfl) ?_
    refine lv_icmp_eq (tgt := 1594) hx hb dL_law_1589 (by decide) (fun _ => ?_) (fun c9 => absurd rfl c9)
    refine lv_iload hx hb dL_law_1594 (lv_at hl 1 rfl) ?_
    refine lv_if_ne (tgt := 1611) hx hb dL_law_1596 (by decide) (fun _ => ?_) (fun c9 => absurd c9 ((wf_ne h0 hCode).resolve_right (by decide)))
    refine lv_goto (tgt := 2272) hx hb dL_law_1611 (by decide) ?_
    refine W.widen (k := 100 + 16 * (k + 1)) (n := 4000 + 200 * (k + 1)) (by (try dsimp only); omega) (by (try dsimp only); omega) ?_
    exact hJ _ _ _ _ _ _ _ _ _ _ ⟨hP, by rw [Nat.succ_mul]; exact st.2.2, h70, h71, hS, lv_sub hl [2, 3, 4, 5, 6] rfl⟩
set_option maxHeartbeats 8000000 in
set_option maxRecDepth 100000 in
theorem lc_offer (hC : lCtx p l s m meth c b L xs Z) {k : Nat} (hk : 7 * k + 7 ≤ L) (hL : L ≤ 3584) (hJ : ∀ (nT nK cT cK : Nat) (ad : Nat → Nat) (g : sG) (q : sQ) (H : Heap) (locs : List Loc) (ls : Array Slot), lSt Z s b k (k + 1) nT nK cT cK ad g q H locs ls → W p l e room_1 s m #[Value.ref b] below meth c H locs (100 + 16 * (k + 1)) (4000 + 200 * (k + 1)) (lw_Z below #[Value.ref b] s) (F0 m 2272 ls []))
    {nT nK cT cK : Nat} {ad : Nat → Nat} {g : sG} {q : sQ} {H : Heap} {locs : List Loc} {ls : Array Slot} (h : lSt Z s b k k nT nK cT cK ad g q H locs ls) : W p l e room_1 s m #[Value.ref b] below meth c H locs (100 + 16 * k) (4000 + 200 * k) (lw_Z below #[Value.ref b] s) (F0 m 1614 ls []) := by
  obtain ⟨hx, hb, hr, hml, hown, hts, hX, hbl, hlocks, hZ, hE, hNc, hfl⟩ := hC
  obtain ⟨hP, hI, h70, h71, hS, hl⟩ := h
  have hbA : ¬ sy_A Z b := fun z => absurd (show Z.2.2.1 ≤ b from z) (by omega)
  have hkB : k * oB ≤ 2048000000 := by
    have : k ≤ 511 := by omega
    calc k * oB ≤ 511 * 4000000 := Nat.mul_le_mul this (Nat.le_refl _)
      _ ≤ 2048000000 := by decide
  refine lv_aload_n hx hb dL_law_1614 rfl (lv_at hl 2 rfl) ?_
  refine lv_aload_n hx hb dL_law_1615 rfl (lv_at hl 1 rfl) ?_
  refine lv_iload hx hb dL_law_1616 (lv_at hl 0 rfl) ?_
  refine lv_iconst (v := 1) hx hb dL_law_1618 (by decide) ?_
  refine lv_iadd hx hb dL_law_1619 ?_
  refine sy_top (y := nI (7 * k + 1)) (nI_add _ _) ?_
  refine va_sld hx hb hX hbl hbA hS (vp_in_nI (show 7 * k + 1 < L by omega) (by omega)) dL_law_1620 ?_
  refine sy_top (y := xs (7 * k + 1)) (by rw [nI_clamp (by omega)]) ?_
  refine lv_aload_n hx hb dL_law_1621 rfl (lv_at hl 1 rfl) ?_
  refine lv_iload hx hb dL_law_1622 (lv_at hl 0 rfl) ?_
  refine lv_iconst (v := 2) hx hb dL_law_1624 (by decide) ?_
  refine lv_iadd hx hb dL_law_1625 ?_
  refine sy_top (y := nI (7 * k + 2)) (nI_add _ _) ?_
  refine va_sld hx hb hX hbl hbA hS (vp_in_nI (show 7 * k + 2 < L by omega) (by omega)) dL_law_1626 ?_
  refine sy_top (y := xs (7 * k + 2)) (by rw [nI_clamp (by omega)]) ?_
  refine lv_aload_n hx hb dL_law_1627 rfl (lv_at hl 4 rfl) ?_
  have hCode : wf 1 2 3 (fX6_offer g q (xs (7 * k + 1)) (xs (7 * k + 2))).1 ≠ 9 := (by
        by_cases z : (fX6_offer g q (xs (7 * k + 1)) (xs (7 * k + 2))).1 = 0
        · rw [z]; exact (by decide : (0 : Int32) ≠ 9)
        · exact (st_no hI (fun gm hg => o_offer (q' := (fX6_offer g q (xs (7 * k + 1)) (xs (7 * k + 2))).2.2.2) hg (xs (7 * k + 1)) (xs (7 * k + 2))) n6_offer (fun gm => f7_offer) z).2.1)
  refine va_calli (vx_runSW (As := [.ref (ad 60), .int (xs (7 * k + 1)), .int (xs (7 * k + 2)), .ref (ad 90)]) (rest := []) ⟨hx, hb, hml, hown, hts⟩ (mL_offer l hfl Z nT nK cT cK ad g q (xs (7 * k + 1)) (xs (7 * k + 2)) (by have := inv_T hI; omega) (inv_IG hI) (inv_IQ hI) hCode) (vx_cwSW 4 hts (gl_S uk_4_96 uk_4_97 uk_1_0 uk_4_98) rfl rfl rfl (by decide +kernel) ⟨Nat.le_of_ble_eq_true rfl, Nat.le_of_ble_eq_true rfl⟩) ⟨sPreL_blind _, fun U hU hW => ⟨rfl, ⟨hE.next hS hU hW.alike, by rw [hU]; exact hP⟩, hNc.next hW.alike⟩⟩ rfl rfl hl.1 rfl (lv_room (Nat.le_of_ble_eq_true rfl)) dL_law_1628 ⟨by show _ ≤ 601024; (try dsimp only); omega, by show _ ≤ 7293034; (try dsimp only); omega⟩) hS (fun _ _ h => h) (fun _ h => h) (fun r u t H locs ht _ hp hB _ _ hS => ?_)
  obtain ⟨g1, q1⟩ := u
  have hP := hB.2
  rw [ht] at hP
  dsimp only at hp hP
  rcases hp with ⟨h0, rfl, rfl, rfl⟩ | ⟨h0, rfl, hg9, hq9⟩
  · refine lv_istore (lv' := [(5, .int 0), (4, .int (nI (7 * k))), (0, .ref b), (1, .ref (ad 60)), (2, .ref (ad 0)), (3, .ref (ad 90))]) hx hb dL_law_1631 hl (by decide) rfl (fun ls hl => ?_)
    have st := st_yes hI (F := fun gm => fX7_offer gm (fX6_offer g q (xs (7 * k + 1)) (xs (7 * k + 2))).2.2.2 (xs (7 * k + 1)) (xs (7 * k + 2))) (fun gm hg => o_offer (q' := (fX6_offer g q (xs (7 * k + 1)) (xs (7 * k + 2))).2.2.2) hg (xs (7 * k + 1)) (xs (7 * k + 2))) f6_offer (fun gm => f7_offer) h0
    try dsimp only at st
    refine lv_aload_n hx hb dL_law_1633 rfl (lv_at hl 4 rfl) ?_
    refine lv_aload_n hx hb dL_law_1634 rfl (lv_at hl 2 rfl) ?_
    refine lv_iload hx hb dL_law_1635 (lv_at hl 1 rfl) ?_
    refine lv_iconst (v := 1) hx hb dL_law_1637 (by decide) ?_
    refine lv_iadd hx hb dL_law_1638 ?_
    refine sy_top (y := nI (7 * k + 1)) (nI_add _ _) ?_
    refine va_sld hx hb hX hbl hbA hS (vp_in_nI (show 7 * k + 1 < L by omega) (by omega)) dL_law_1639 ?_
    refine sy_top (y := xs (7 * k + 1)) (by rw [nI_clamp (by omega)]) ?_
    refine lv_aload_n hx hb dL_law_1640 rfl (lv_at hl 2 rfl) ?_
    refine lv_iload hx hb dL_law_1641 (lv_at hl 1 rfl) ?_
    refine lv_iconst (v := 2) hx hb dL_law_1643 (by decide) ?_
    refine lv_iadd hx hb dL_law_1644 ?_
    refine sy_top (y := nI (7 * k + 2)) (nI_add _ _) ?_
    refine va_sld hx hb hX hbl hbA hS (vp_in_nI (show 7 * k + 2 < L by omega) (by omega)) dL_law_1645 ?_
    refine sy_top (y := xs (7 * k + 2)) (by rw [nI_clamp (by omega)]) ?_
    refine sy_ki (sy_rV (o := 0) (As := [.int (xs (7 * k + 1)), .int (xs (7 * k + 2))]) (rest := []) ⟨hx, hb, hml, hown, hts⟩ hE hP hS (mX7_offer l hfl Z nT nK cT cK ad (sy_up (fX6_offer g q (xs (7 * k + 1)) (xs (7 * k + 2))).2.2.1 90 0 (fX6_offer g q (xs (7 * k + 1)) (xs (7 * k + 2))).2.1) (fX6_offer g q (xs (7 * k + 1)) (xs (7 * k + 2))).2.2.2 (xs (7 * k + 1)) (xs (7 * k + 2)) st.1.2.1) (cwV 2 hts (gl_V uk_6_8 uk_6_9 uk_6_10 uk_1_9 uk_6_11) rfl rfl rfl (by decide +kernel) ⟨Nat.le_of_ble_eq_true rfl, Nat.le_of_ble_eq_true rfl⟩) (sy_recv (kc := 8) hE hP rfl (by decide) rfl rfl rfl) rfl hl.1 rfl (Nat.le_of_ble_eq_true rfl) dL_law_1646 ⟨by show _ ≤ 601024; (try dsimp only); omega, by show _ ≤ 7293034; (try dsimp only); omega⟩) hS (fun b2 g2 q2 H locs e2 hP hS => ?_)
    obtain ⟨rfl, rfl, rfl⟩ : (fX7_offer (sy_up (fX6_offer g q (xs (7 * k + 1)) (xs (7 * k + 2))).2.2.1 90 0 (fX6_offer g q (xs (7 * k + 1)) (xs (7 * k + 2))).2.1) (fX6_offer g q (xs (7 * k + 1)) (xs (7 * k + 2))).2.2.2 (xs (7 * k + 1)) (xs (7 * k + 2))).1 = b2 ∧ (fX7_offer (sy_up (fX6_offer g q (xs (7 * k + 1)) (xs (7 * k + 2))).2.2.1 90 0 (fX6_offer g q (xs (7 * k + 1)) (xs (7 * k + 2))).2.1) (fX6_offer g q (xs (7 * k + 1)) (xs (7 * k + 2))).2.2.2 (xs (7 * k + 1)) (xs (7 * k + 2))).2 = g2 ∧ (fX6_offer g q (xs (7 * k + 1)) (xs (7 * k + 2))).2.2.2 = q2 := by cases e2; exact ⟨rfl, rfl, rfl⟩
    refine lv_istore (lv' := [(6, .int (fX7_offer (sy_up (fX6_offer g q (xs (7 * k + 1)) (xs (7 * k + 2))).2.2.1 90 0 (fX6_offer g q (xs (7 * k + 1)) (xs (7 * k + 2))).2.1) (fX6_offer g q (xs (7 * k + 1)) (xs (7 * k + 2))).2.2.2 (xs (7 * k + 1)) (xs (7 * k + 2))).1), (5, .int 0), (4, .int (nI (7 * k))), (0, .ref b), (1, .ref (ad 60)), (2, .ref (ad 0)), (3, .ref (ad 90))]) hx hb dL_law_1649 hl (by decide) rfl (fun ls hl => ?_)
    refine lv_aload_n hx hb dL_law_1651 rfl (lv_at hl 5 rfl) ?_
    refine sy_ki (sy_rV (o := 0) (As := []) (rest := []) ⟨hx, hb, hml, hown, hts⟩ hE hP hS (mX7_thrown l hfl Z nT nK cT cK ad (fX7_offer (sy_up (fX6_offer g q (xs (7 * k + 1)) (xs (7 * k + 2))).2.2.1 90 0 (fX6_offer g q (xs (7 * k + 1)) (xs (7 * k + 2))).2.1) (fX6_offer g q (xs (7 * k + 1)) (xs (7 * k + 2))).2.2.2 (xs (7 * k + 1)) (xs (7 * k + 2))).2 (fX6_offer g q (xs (7 * k + 1)) (xs (7 * k + 2))).2.2.2) (cwV 0 hts (gl_V uk_5_93 uk_5_94 uk_5_95 uk_1_9 uk_5_96) rfl rfl rfl (by decide +kernel) ⟨Nat.le_of_ble_eq_true rfl, Nat.le_of_ble_eq_true rfl⟩) (sy_recv (kc := 8) hE hP rfl (by decide) rfl rfl rfl) rfl hl.1 rfl (Nat.le_of_ble_eq_true rfl) dL_law_1652 ⟨by show _ ≤ 601024; (try dsimp only); omega, by show _ ≤ 7293034; (try dsimp only); omega⟩) hS (fun b3 g3 q3 H locs e3 hP hS => ?_)
    obtain ⟨rfl, rfl, rfl⟩ : (fX7_offer (sy_up (fX6_offer g q (xs (7 * k + 1)) (xs (7 * k + 2))).2.2.1 90 0 (fX6_offer g q (xs (7 * k + 1)) (xs (7 * k + 2))).2.1) (fX6_offer g q (xs (7 * k + 1)) (xs (7 * k + 2))).2.2.2 (xs (7 * k + 1)) (xs (7 * k + 2))).2 0 0 = b3 ∧ (fX7_offer (sy_up (fX6_offer g q (xs (7 * k + 1)) (xs (7 * k + 2))).2.2.1 90 0 (fX6_offer g q (xs (7 * k + 1)) (xs (7 * k + 2))).2.1) (fX6_offer g q (xs (7 * k + 1)) (xs (7 * k + 2))).2.2.2 (xs (7 * k + 1)) (xs (7 * k + 2))).2 = g3 ∧ (fX6_offer g q (xs (7 * k + 1)) (xs (7 * k + 2))).2.2.2 = q3 := by cases e3; exact ⟨rfl, rfl, rfl⟩
    refine sy_top (y := 0) st.2.1 ?_
    refine lv_iload hx hb dL_law_1655 (lv_at hl 1 rfl) ?_
    refine lv_icmp_eq (tgt := 1662) hx hb dL_law_1657 (by decide) (fun _ => ?_) (fun c9 => absurd rfl c9)
    refine lv_iload hx hb dL_law_1662 (lv_at hl 1 rfl) ?_
    refine lv_if_ne (tgt := 1679) hx hb dL_law_1664 (by decide) (fun c9 => absurd rfl c9) (fun _ => ?_)
    refine lv_aload_n hx hb dL_law_1667 rfl (lv_at hl 6 rfl) ?_
    refine lv_iconst (v := 0) hx hb dL_law_1668 (by decide) ?_
    refine sy_lald hx hb hE hP 90 rfl (i := 0) (k_in rfl) dL_law_1669 ?_
    refine lv_iload hx hb dL_law_1670 (lv_at hl 0 rfl) ?_
    refine lv_i2l (v := ((fX7_offer (sy_up (fX6_offer g q (xs (7 * k + 1)) (xs (7 * k + 2))).2.2.1 90 0 (fX6_offer g q (xs (7 * k + 1)) (xs (7 * k + 2))).2.1) (fX6_offer g q (xs (7 * k + 1)) (xs (7 * k + 2))).2.2.2 (xs (7 * k + 1)) (xs (7 * k + 2))).2 90 0).toInt64) hx hb dL_law_1672 (by rw [st.2.2.2.1, st.2.2.1]) ?_
    refine lv_lcmp0 hx hb dL_law_1673 ?_
    refine lv_if_eq (tgt := 1679) hx hb dL_law_1674 (by decide) (fun _ => ?_) (fun c9 => absurd rfl c9)
    refine lv_goto (tgt := 2272) hx hb dL_law_1679 (by decide) ?_
    refine W.widen (k := 100 + 16 * (k + 1)) (n := 4000 + 200 * (k + 1)) (by (try dsimp only); omega) (by (try dsimp only); omega) ?_
    exact hJ _ _ _ _ _ _ _ _ _ _ ⟨hP, by rw [Nat.succ_mul]; exact st.2.2.2.2, h70, h71, hS, lv_sub hl [2, 3, 4, 5, 6] rfl⟩
  · replace hg9 := hg9.symm
    replace hq9 := hq9.symm
    subst hg9
    subst hq9
    refine lv_istore (lv' := [(5, .int (wf 1 2 3 (fX6_offer g q (xs (7 * k + 1)) (xs (7 * k + 2))).1)), (4, .int (nI (7 * k))), (0, .ref b), (1, .ref (ad 60)), (2, .ref (ad 0)), (3, .ref (ad 90))]) hx hb dL_law_1631 hl (by decide) rfl (fun ls hl => ?_)
    have st := st_no hI (F := fun gm => fX7_offer gm q (xs (7 * k + 1)) (xs (7 * k + 2))) (fun gm hg => o_offer (q' := q) hg (xs (7 * k + 1)) (xs (7 * k + 2))) n6_offer (fun gm => f7_offer) h0
    try dsimp only at st
    refine lv_aload_n hx hb dL_law_1633 rfl (lv_at hl 4 rfl) ?_
    refine lv_aload_n hx hb dL_law_1634 rfl (lv_at hl 2 rfl) ?_
    refine lv_iload hx hb dL_law_1635 (lv_at hl 1 rfl) ?_
    refine lv_iconst (v := 1) hx hb dL_law_1637 (by decide) ?_
    refine lv_iadd hx hb dL_law_1638 ?_
    refine sy_top (y := nI (7 * k + 1)) (nI_add _ _) ?_
    refine va_sld hx hb hX hbl hbA hS (vp_in_nI (show 7 * k + 1 < L by omega) (by omega)) dL_law_1639 ?_
    refine sy_top (y := xs (7 * k + 1)) (by rw [nI_clamp (by omega)]) ?_
    refine lv_aload_n hx hb dL_law_1640 rfl (lv_at hl 2 rfl) ?_
    refine lv_iload hx hb dL_law_1641 (lv_at hl 1 rfl) ?_
    refine lv_iconst (v := 2) hx hb dL_law_1643 (by decide) ?_
    refine lv_iadd hx hb dL_law_1644 ?_
    refine sy_top (y := nI (7 * k + 2)) (nI_add _ _) ?_
    refine va_sld hx hb hX hbl hbA hS (vp_in_nI (show 7 * k + 2 < L by omega) (by omega)) dL_law_1645 ?_
    refine sy_top (y := xs (7 * k + 2)) (by rw [nI_clamp (by omega)]) ?_
    refine sy_ki (sy_rV (o := 0) (As := [.int (xs (7 * k + 1)), .int (xs (7 * k + 2))]) (rest := []) ⟨hx, hb, hml, hown, hts⟩ hE hP hS (mX7_offer l hfl Z nT nK cT cK ad g q (xs (7 * k + 1)) (xs (7 * k + 2)) hI.2.1) (cwV 2 hts (gl_V uk_6_8 uk_6_9 uk_6_10 uk_1_9 uk_6_11) rfl rfl rfl (by decide +kernel) ⟨Nat.le_of_ble_eq_true rfl, Nat.le_of_ble_eq_true rfl⟩) (sy_recv (kc := 8) hE hP rfl (by decide) rfl rfl rfl) rfl hl.1 rfl (Nat.le_of_ble_eq_true rfl) dL_law_1646 ⟨by show _ ≤ 601024; (try dsimp only); omega, by show _ ≤ 7293034; (try dsimp only); omega⟩) hS (fun b2 g2 q2 H locs e2 hP hS => ?_)
    obtain ⟨rfl, rfl, rfl⟩ : (fX7_offer g q (xs (7 * k + 1)) (xs (7 * k + 2))).1 = b2 ∧ (fX7_offer g q (xs (7 * k + 1)) (xs (7 * k + 2))).2 = g2 ∧ q = q2 := by cases e2; exact ⟨rfl, rfl, rfl⟩
    refine lv_istore (lv' := [(6, .int (fX7_offer g q (xs (7 * k + 1)) (xs (7 * k + 2))).1), (5, .int (wf 1 2 3 (fX6_offer g q (xs (7 * k + 1)) (xs (7 * k + 2))).1)), (4, .int (nI (7 * k))), (0, .ref b), (1, .ref (ad 60)), (2, .ref (ad 0)), (3, .ref (ad 90))]) hx hb dL_law_1649 hl (by decide) rfl (fun ls hl => ?_)
    refine lv_aload_n hx hb dL_law_1651 rfl (lv_at hl 5 rfl) ?_
    refine sy_ki (sy_rV (o := 0) (As := []) (rest := []) ⟨hx, hb, hml, hown, hts⟩ hE hP hS (mX7_thrown l hfl Z nT nK cT cK ad (fX7_offer g q (xs (7 * k + 1)) (xs (7 * k + 2))).2 q) (cwV 0 hts (gl_V uk_5_93 uk_5_94 uk_5_95 uk_1_9 uk_5_96) rfl rfl rfl (by decide +kernel) ⟨Nat.le_of_ble_eq_true rfl, Nat.le_of_ble_eq_true rfl⟩) (sy_recv (kc := 8) hE hP rfl (by decide) rfl rfl rfl) rfl hl.1 rfl (Nat.le_of_ble_eq_true rfl) dL_law_1652 ⟨by show _ ≤ 601024; (try dsimp only); omega, by show _ ≤ 7293034; (try dsimp only); omega⟩) hS (fun b3 g3 q3 H locs e3 hP hS => ?_)
    obtain ⟨rfl, rfl, rfl⟩ : (fX7_offer g q (xs (7 * k + 1)) (xs (7 * k + 2))).2 0 0 = b3 ∧ (fX7_offer g q (xs (7 * k + 1)) (xs (7 * k + 2))).2 = g3 ∧ q = q3 := by cases e3; exact ⟨rfl, rfl, rfl⟩
    refine sy_top (y := (wf 1 2 3 (fX6_offer g q (xs (7 * k + 1)) (xs (7 * k + 2))).1)) st.1 ?_
    refine lv_iload hx hb dL_law_1655 (lv_at hl 1 rfl) ?_
    refine lv_icmp_eq (tgt := 1662) hx hb dL_law_1657 (by decide) (fun _ => ?_) (fun c9 => absurd rfl c9)
    refine lv_iload hx hb dL_law_1662 (lv_at hl 1 rfl) ?_
    refine lv_if_ne (tgt := 1679) hx hb dL_law_1664 (by decide) (fun _ => ?_) (fun c9 => absurd c9 ((wf_ne h0 hCode).resolve_right (by decide)))
    refine lv_goto (tgt := 2272) hx hb dL_law_1679 (by decide) ?_
    refine W.widen (k := 100 + 16 * (k + 1)) (n := 4000 + 200 * (k + 1)) (by (try dsimp only); omega) (by (try dsimp only); omega) ?_
    exact hJ _ _ _ _ _ _ _ _ _ _ ⟨hP, by rw [Nat.succ_mul]; exact st.2.2, h70, h71, hS, lv_sub hl [2, 3, 4, 5, 6] rfl⟩
set_option maxHeartbeats 8000000 in
set_option maxRecDepth 100000 in
theorem lc_claim (hC : lCtx p l s m meth c b L xs Z) {k : Nat} (hk : 7 * k + 7 ≤ L) (hL : L ≤ 3584) (hJ : ∀ (nT nK cT cK : Nat) (ad : Nat → Nat) (g : sG) (q : sQ) (H : Heap) (locs : List Loc) (ls : Array Slot), lSt Z s b k (k + 1) nT nK cT cK ad g q H locs ls → W p l e room_1 s m #[Value.ref b] below meth c H locs (100 + 16 * (k + 1)) (4000 + 200 * (k + 1)) (lw_Z below #[Value.ref b] s) (F0 m 2272 ls []))
    {nT nK cT cK : Nat} {ad : Nat → Nat} {g : sG} {q : sQ} {H : Heap} {locs : List Loc} {ls : Array Slot} (h : lSt Z s b k k nT nK cT cK ad g q H locs ls) : W p l e room_1 s m #[Value.ref b] below meth c H locs (100 + 16 * k) (4000 + 200 * k) (lw_Z below #[Value.ref b] s) (F0 m 1682 ls []) := by
  obtain ⟨hx, hb, hr, hml, hown, hts, hX, hbl, hlocks, hZ, hE, hNc, hfl⟩ := hC
  obtain ⟨hP, hI, h70, h71, hS, hl⟩ := h
  have hbA : ¬ sy_A Z b := fun z => absurd (show Z.2.2.1 ≤ b from z) (by omega)
  have hkB : k * oB ≤ 2048000000 := by
    have : k ≤ 511 := by omega
    calc k * oB ≤ 511 * 4000000 := Nat.mul_le_mul this (Nat.le_refl _)
      _ ≤ 2048000000 := by decide
  refine lv_aload_n hx hb dL_law_1682 rfl (lv_at hl 2 rfl) ?_
  refine lv_aload_n hx hb dL_law_1683 rfl (lv_at hl 1 rfl) ?_
  refine lv_iload hx hb dL_law_1684 (lv_at hl 0 rfl) ?_
  refine lv_iconst (v := 1) hx hb dL_law_1686 (by decide) ?_
  refine lv_iadd hx hb dL_law_1687 ?_
  refine sy_top (y := nI (7 * k + 1)) (nI_add _ _) ?_
  refine va_sld hx hb hX hbl hbA hS (vp_in_nI (show 7 * k + 1 < L by omega) (by omega)) dL_law_1688 ?_
  refine sy_top (y := xs (7 * k + 1)) (by rw [nI_clamp (by omega)]) ?_
  refine lv_aload_n hx hb dL_law_1689 rfl (lv_at hl 1 rfl) ?_
  refine lv_iload hx hb dL_law_1690 (lv_at hl 0 rfl) ?_
  refine lv_iconst (v := 2) hx hb dL_law_1692 (by decide) ?_
  refine lv_iadd hx hb dL_law_1693 ?_
  refine sy_top (y := nI (7 * k + 2)) (nI_add _ _) ?_
  refine va_sld hx hb hX hbl hbA hS (vp_in_nI (show 7 * k + 2 < L by omega) (by omega)) dL_law_1694 ?_
  refine sy_top (y := xs (7 * k + 2)) (by rw [nI_clamp (by omega)]) ?_
  refine lv_aload_n hx hb dL_law_1695 rfl (lv_at hl 4 rfl) ?_
  have hCode : wf 1 9 2 (fX6_claim g q (xs (7 * k + 1)) (xs (7 * k + 2))).1 ≠ 9 := (by
        by_cases z : (fX6_claim g q (xs (7 * k + 1)) (xs (7 * k + 2))).1 = 0
        · rw [z]; exact (by decide : (0 : Int32) ≠ 9)
        · exact (st_no hI (fun gm hg => o_claim (q' := (fX6_claim g q (xs (7 * k + 1)) (xs (7 * k + 2))).2.2.2) hg (xs (7 * k + 1)) (xs (7 * k + 2))) n6_claim (fun gm => f7_claim) z).2.1)
  refine va_calli (vx_runSW (As := [.ref (ad 60), .int (xs (7 * k + 1)), .int (xs (7 * k + 2)), .ref (ad 90)]) (rest := []) ⟨hx, hb, hml, hown, hts⟩ (mL_claim l hfl Z nT nK cT cK ad g q (xs (7 * k + 1)) (xs (7 * k + 2)) (by have := inv_T hI; omega) (inv_IG hI) (inv_IQ hI) hCode) (vx_cwSW 4 hts (gl_S uk_4_115 uk_4_116 uk_1_0 uk_4_117) rfl rfl rfl (by decide +kernel) ⟨Nat.le_of_ble_eq_true rfl, Nat.le_of_ble_eq_true rfl⟩) ⟨sPreL_blind _, fun U hU hW => ⟨rfl, ⟨hE.next hS hU hW.alike, by rw [hU]; exact hP⟩, hNc.next hW.alike⟩⟩ rfl rfl hl.1 rfl (lv_room (Nat.le_of_ble_eq_true rfl)) dL_law_1696 ⟨by show _ ≤ 601024; (try dsimp only); omega, by show _ ≤ 7293034; (try dsimp only); omega⟩) hS (fun _ _ h => h) (fun _ h => h) (fun r u t H locs ht _ hp hB _ _ hS => ?_)
  obtain ⟨g1, q1⟩ := u
  have hP := hB.2
  rw [ht] at hP
  dsimp only at hp hP
  rcases hp with ⟨h0, rfl, rfl, rfl⟩ | ⟨h0, rfl, hg9, hq9⟩
  · refine lv_istore (lv' := [(5, .int 0), (4, .int (nI (7 * k))), (0, .ref b), (1, .ref (ad 60)), (2, .ref (ad 0)), (3, .ref (ad 90))]) hx hb dL_law_1699 hl (by decide) rfl (fun ls hl => ?_)
    have st := st_yes hI (F := fun gm => fX7_claim gm (fX6_claim g q (xs (7 * k + 1)) (xs (7 * k + 2))).2.2.2 (xs (7 * k + 1)) (xs (7 * k + 2))) (fun gm hg => o_claim (q' := (fX6_claim g q (xs (7 * k + 1)) (xs (7 * k + 2))).2.2.2) hg (xs (7 * k + 1)) (xs (7 * k + 2))) f6_claim (fun gm => f7_claim) h0
    try dsimp only at st
    refine lv_aload_n hx hb dL_law_1701 rfl (lv_at hl 4 rfl) ?_
    refine lv_aload_n hx hb dL_law_1702 rfl (lv_at hl 2 rfl) ?_
    refine lv_iload hx hb dL_law_1703 (lv_at hl 1 rfl) ?_
    refine lv_iconst (v := 1) hx hb dL_law_1705 (by decide) ?_
    refine lv_iadd hx hb dL_law_1706 ?_
    refine sy_top (y := nI (7 * k + 1)) (nI_add _ _) ?_
    refine va_sld hx hb hX hbl hbA hS (vp_in_nI (show 7 * k + 1 < L by omega) (by omega)) dL_law_1707 ?_
    refine sy_top (y := xs (7 * k + 1)) (by rw [nI_clamp (by omega)]) ?_
    refine lv_aload_n hx hb dL_law_1708 rfl (lv_at hl 2 rfl) ?_
    refine lv_iload hx hb dL_law_1709 (lv_at hl 1 rfl) ?_
    refine lv_iconst (v := 2) hx hb dL_law_1711 (by decide) ?_
    refine lv_iadd hx hb dL_law_1712 ?_
    refine sy_top (y := nI (7 * k + 2)) (nI_add _ _) ?_
    refine va_sld hx hb hX hbl hbA hS (vp_in_nI (show 7 * k + 2 < L by omega) (by omega)) dL_law_1713 ?_
    refine sy_top (y := xs (7 * k + 2)) (by rw [nI_clamp (by omega)]) ?_
    refine sy_ki (sy_rV (o := 0) (As := [.int (xs (7 * k + 1)), .int (xs (7 * k + 2))]) (rest := []) ⟨hx, hb, hml, hown, hts⟩ hE hP hS (mX7_claim l hfl Z nT nK cT cK ad (sy_up (fX6_claim g q (xs (7 * k + 1)) (xs (7 * k + 2))).2.2.1 90 0 (fX6_claim g q (xs (7 * k + 1)) (xs (7 * k + 2))).2.1) (fX6_claim g q (xs (7 * k + 1)) (xs (7 * k + 2))).2.2.2 (xs (7 * k + 1)) (xs (7 * k + 2)) st.1.2.1) (cwV 2 hts (gl_V uk_6_13 uk_6_14 uk_6_15 uk_1_9 uk_6_16) rfl rfl rfl (by decide +kernel) ⟨Nat.le_of_ble_eq_true rfl, Nat.le_of_ble_eq_true rfl⟩) (sy_recv (kc := 8) hE hP rfl (by decide) rfl rfl rfl) rfl hl.1 rfl (Nat.le_of_ble_eq_true rfl) dL_law_1714 ⟨by show _ ≤ 601024; (try dsimp only); omega, by show _ ≤ 7293034; (try dsimp only); omega⟩) hS (fun b2 g2 q2 H locs e2 hP hS => ?_)
    obtain ⟨rfl, rfl, rfl⟩ : (fX7_claim (sy_up (fX6_claim g q (xs (7 * k + 1)) (xs (7 * k + 2))).2.2.1 90 0 (fX6_claim g q (xs (7 * k + 1)) (xs (7 * k + 2))).2.1) (fX6_claim g q (xs (7 * k + 1)) (xs (7 * k + 2))).2.2.2 (xs (7 * k + 1)) (xs (7 * k + 2))).1 = b2 ∧ (fX7_claim (sy_up (fX6_claim g q (xs (7 * k + 1)) (xs (7 * k + 2))).2.2.1 90 0 (fX6_claim g q (xs (7 * k + 1)) (xs (7 * k + 2))).2.1) (fX6_claim g q (xs (7 * k + 1)) (xs (7 * k + 2))).2.2.2 (xs (7 * k + 1)) (xs (7 * k + 2))).2 = g2 ∧ (fX6_claim g q (xs (7 * k + 1)) (xs (7 * k + 2))).2.2.2 = q2 := by cases e2; exact ⟨rfl, rfl, rfl⟩
    refine lv_istore (lv' := [(6, .int (fX7_claim (sy_up (fX6_claim g q (xs (7 * k + 1)) (xs (7 * k + 2))).2.2.1 90 0 (fX6_claim g q (xs (7 * k + 1)) (xs (7 * k + 2))).2.1) (fX6_claim g q (xs (7 * k + 1)) (xs (7 * k + 2))).2.2.2 (xs (7 * k + 1)) (xs (7 * k + 2))).1), (5, .int 0), (4, .int (nI (7 * k))), (0, .ref b), (1, .ref (ad 60)), (2, .ref (ad 0)), (3, .ref (ad 90))]) hx hb dL_law_1717 hl (by decide) rfl (fun ls hl => ?_)
    refine lv_aload_n hx hb dL_law_1719 rfl (lv_at hl 5 rfl) ?_
    refine sy_ki (sy_rV (o := 0) (As := []) (rest := []) ⟨hx, hb, hml, hown, hts⟩ hE hP hS (mX7_thrown l hfl Z nT nK cT cK ad (fX7_claim (sy_up (fX6_claim g q (xs (7 * k + 1)) (xs (7 * k + 2))).2.2.1 90 0 (fX6_claim g q (xs (7 * k + 1)) (xs (7 * k + 2))).2.1) (fX6_claim g q (xs (7 * k + 1)) (xs (7 * k + 2))).2.2.2 (xs (7 * k + 1)) (xs (7 * k + 2))).2 (fX6_claim g q (xs (7 * k + 1)) (xs (7 * k + 2))).2.2.2) (cwV 0 hts (gl_V uk_5_93 uk_5_94 uk_5_95 uk_1_9 uk_5_96) rfl rfl rfl (by decide +kernel) ⟨Nat.le_of_ble_eq_true rfl, Nat.le_of_ble_eq_true rfl⟩) (sy_recv (kc := 8) hE hP rfl (by decide) rfl rfl rfl) rfl hl.1 rfl (Nat.le_of_ble_eq_true rfl) dL_law_1720 ⟨by show _ ≤ 601024; (try dsimp only); omega, by show _ ≤ 7293034; (try dsimp only); omega⟩) hS (fun b3 g3 q3 H locs e3 hP hS => ?_)
    obtain ⟨rfl, rfl, rfl⟩ : (fX7_claim (sy_up (fX6_claim g q (xs (7 * k + 1)) (xs (7 * k + 2))).2.2.1 90 0 (fX6_claim g q (xs (7 * k + 1)) (xs (7 * k + 2))).2.1) (fX6_claim g q (xs (7 * k + 1)) (xs (7 * k + 2))).2.2.2 (xs (7 * k + 1)) (xs (7 * k + 2))).2 0 0 = b3 ∧ (fX7_claim (sy_up (fX6_claim g q (xs (7 * k + 1)) (xs (7 * k + 2))).2.2.1 90 0 (fX6_claim g q (xs (7 * k + 1)) (xs (7 * k + 2))).2.1) (fX6_claim g q (xs (7 * k + 1)) (xs (7 * k + 2))).2.2.2 (xs (7 * k + 1)) (xs (7 * k + 2))).2 = g3 ∧ (fX6_claim g q (xs (7 * k + 1)) (xs (7 * k + 2))).2.2.2 = q3 := by cases e3; exact ⟨rfl, rfl, rfl⟩
    refine sy_top (y := 0) st.2.1 ?_
    refine lv_iload hx hb dL_law_1723 (lv_at hl 1 rfl) ?_
    refine lv_icmp_eq (tgt := 1730) hx hb dL_law_1725 (by decide) (fun _ => ?_) (fun c9 => absurd rfl c9)
    refine lv_iload hx hb dL_law_1730 (lv_at hl 1 rfl) ?_
    refine lv_if_ne (tgt := 1747) hx hb dL_law_1732 (by decide) (fun c9 => absurd rfl c9) (fun _ => ?_)
    refine lv_aload_n hx hb dL_law_1735 rfl (lv_at hl 6 rfl) ?_
    refine lv_iconst (v := 0) hx hb dL_law_1736 (by decide) ?_
    refine sy_lald hx hb hE hP 90 rfl (i := 0) (k_in rfl) dL_law_1737 ?_
    refine lv_iload hx hb dL_law_1738 (lv_at hl 0 rfl) ?_
    refine lv_i2l (v := ((fX7_claim (sy_up (fX6_claim g q (xs (7 * k + 1)) (xs (7 * k + 2))).2.2.1 90 0 (fX6_claim g q (xs (7 * k + 1)) (xs (7 * k + 2))).2.1) (fX6_claim g q (xs (7 * k + 1)) (xs (7 * k + 2))).2.2.2 (xs (7 * k + 1)) (xs (7 * k + 2))).2 90 0).toInt64) hx hb dL_law_1740 (by rw [st.2.2.2.1, st.2.2.1]) ?_
    refine lv_lcmp0 hx hb dL_law_1741 ?_
    refine lv_if_eq (tgt := 1747) hx hb dL_law_1742 (by decide) (fun _ => ?_) (fun c9 => absurd rfl c9)
    refine lv_goto (tgt := 2272) hx hb dL_law_1747 (by decide) ?_
    refine W.widen (k := 100 + 16 * (k + 1)) (n := 4000 + 200 * (k + 1)) (by (try dsimp only); omega) (by (try dsimp only); omega) ?_
    exact hJ _ _ _ _ _ _ _ _ _ _ ⟨hP, by rw [Nat.succ_mul]; exact st.2.2.2.2, h70, h71, hS, lv_sub hl [2, 3, 4, 5, 6] rfl⟩
  · replace hg9 := hg9.symm
    replace hq9 := hq9.symm
    subst hg9
    subst hq9
    refine lv_istore (lv' := [(5, .int (wf 1 9 2 (fX6_claim g q (xs (7 * k + 1)) (xs (7 * k + 2))).1)), (4, .int (nI (7 * k))), (0, .ref b), (1, .ref (ad 60)), (2, .ref (ad 0)), (3, .ref (ad 90))]) hx hb dL_law_1699 hl (by decide) rfl (fun ls hl => ?_)
    have st := st_no hI (F := fun gm => fX7_claim gm q (xs (7 * k + 1)) (xs (7 * k + 2))) (fun gm hg => o_claim (q' := q) hg (xs (7 * k + 1)) (xs (7 * k + 2))) n6_claim (fun gm => f7_claim) h0
    try dsimp only at st
    refine lv_aload_n hx hb dL_law_1701 rfl (lv_at hl 4 rfl) ?_
    refine lv_aload_n hx hb dL_law_1702 rfl (lv_at hl 2 rfl) ?_
    refine lv_iload hx hb dL_law_1703 (lv_at hl 1 rfl) ?_
    refine lv_iconst (v := 1) hx hb dL_law_1705 (by decide) ?_
    refine lv_iadd hx hb dL_law_1706 ?_
    refine sy_top (y := nI (7 * k + 1)) (nI_add _ _) ?_
    refine va_sld hx hb hX hbl hbA hS (vp_in_nI (show 7 * k + 1 < L by omega) (by omega)) dL_law_1707 ?_
    refine sy_top (y := xs (7 * k + 1)) (by rw [nI_clamp (by omega)]) ?_
    refine lv_aload_n hx hb dL_law_1708 rfl (lv_at hl 2 rfl) ?_
    refine lv_iload hx hb dL_law_1709 (lv_at hl 1 rfl) ?_
    refine lv_iconst (v := 2) hx hb dL_law_1711 (by decide) ?_
    refine lv_iadd hx hb dL_law_1712 ?_
    refine sy_top (y := nI (7 * k + 2)) (nI_add _ _) ?_
    refine va_sld hx hb hX hbl hbA hS (vp_in_nI (show 7 * k + 2 < L by omega) (by omega)) dL_law_1713 ?_
    refine sy_top (y := xs (7 * k + 2)) (by rw [nI_clamp (by omega)]) ?_
    refine sy_ki (sy_rV (o := 0) (As := [.int (xs (7 * k + 1)), .int (xs (7 * k + 2))]) (rest := []) ⟨hx, hb, hml, hown, hts⟩ hE hP hS (mX7_claim l hfl Z nT nK cT cK ad g q (xs (7 * k + 1)) (xs (7 * k + 2)) hI.2.1) (cwV 2 hts (gl_V uk_6_13 uk_6_14 uk_6_15 uk_1_9 uk_6_16) rfl rfl rfl (by decide +kernel) ⟨Nat.le_of_ble_eq_true rfl, Nat.le_of_ble_eq_true rfl⟩) (sy_recv (kc := 8) hE hP rfl (by decide) rfl rfl rfl) rfl hl.1 rfl (Nat.le_of_ble_eq_true rfl) dL_law_1714 ⟨by show _ ≤ 601024; (try dsimp only); omega, by show _ ≤ 7293034; (try dsimp only); omega⟩) hS (fun b2 g2 q2 H locs e2 hP hS => ?_)
    obtain ⟨rfl, rfl, rfl⟩ : (fX7_claim g q (xs (7 * k + 1)) (xs (7 * k + 2))).1 = b2 ∧ (fX7_claim g q (xs (7 * k + 1)) (xs (7 * k + 2))).2 = g2 ∧ q = q2 := by cases e2; exact ⟨rfl, rfl, rfl⟩
    refine lv_istore (lv' := [(6, .int (fX7_claim g q (xs (7 * k + 1)) (xs (7 * k + 2))).1), (5, .int (wf 1 9 2 (fX6_claim g q (xs (7 * k + 1)) (xs (7 * k + 2))).1)), (4, .int (nI (7 * k))), (0, .ref b), (1, .ref (ad 60)), (2, .ref (ad 0)), (3, .ref (ad 90))]) hx hb dL_law_1717 hl (by decide) rfl (fun ls hl => ?_)
    refine lv_aload_n hx hb dL_law_1719 rfl (lv_at hl 5 rfl) ?_
    refine sy_ki (sy_rV (o := 0) (As := []) (rest := []) ⟨hx, hb, hml, hown, hts⟩ hE hP hS (mX7_thrown l hfl Z nT nK cT cK ad (fX7_claim g q (xs (7 * k + 1)) (xs (7 * k + 2))).2 q) (cwV 0 hts (gl_V uk_5_93 uk_5_94 uk_5_95 uk_1_9 uk_5_96) rfl rfl rfl (by decide +kernel) ⟨Nat.le_of_ble_eq_true rfl, Nat.le_of_ble_eq_true rfl⟩) (sy_recv (kc := 8) hE hP rfl (by decide) rfl rfl rfl) rfl hl.1 rfl (Nat.le_of_ble_eq_true rfl) dL_law_1720 ⟨by show _ ≤ 601024; (try dsimp only); omega, by show _ ≤ 7293034; (try dsimp only); omega⟩) hS (fun b3 g3 q3 H locs e3 hP hS => ?_)
    obtain ⟨rfl, rfl, rfl⟩ : (fX7_claim g q (xs (7 * k + 1)) (xs (7 * k + 2))).2 0 0 = b3 ∧ (fX7_claim g q (xs (7 * k + 1)) (xs (7 * k + 2))).2 = g3 ∧ q = q3 := by cases e3; exact ⟨rfl, rfl, rfl⟩
    refine sy_top (y := (wf 1 9 2 (fX6_claim g q (xs (7 * k + 1)) (xs (7 * k + 2))).1)) st.1 ?_
    refine lv_iload hx hb dL_law_1723 (lv_at hl 1 rfl) ?_
    refine lv_icmp_eq (tgt := 1730) hx hb dL_law_1725 (by decide) (fun _ => ?_) (fun c9 => absurd rfl c9)
    refine lv_iload hx hb dL_law_1730 (lv_at hl 1 rfl) ?_
    refine lv_if_ne (tgt := 1747) hx hb dL_law_1732 (by decide) (fun _ => ?_) (fun c9 => absurd c9 ((wf_ne h0 hCode).resolve_right (by decide)))
    refine lv_goto (tgt := 2272) hx hb dL_law_1747 (by decide) ?_
    refine W.widen (k := 100 + 16 * (k + 1)) (n := 4000 + 200 * (k + 1)) (by (try dsimp only); omega) (by (try dsimp only); omega) ?_
    exact hJ _ _ _ _ _ _ _ _ _ _ ⟨hP, by rw [Nat.succ_mul]; exact st.2.2, h70, h71, hS, lv_sub hl [2, 3, 4, 5, 6] rfl⟩
set_option maxHeartbeats 8000000 in
set_option maxRecDepth 100000 in
theorem lc_deposit (hC : lCtx p l s m meth c b L xs Z) {k : Nat} (hk : 7 * k + 7 ≤ L) (hL : L ≤ 3584) (hJ : ∀ (nT nK cT cK : Nat) (ad : Nat → Nat) (g : sG) (q : sQ) (H : Heap) (locs : List Loc) (ls : Array Slot), lSt Z s b k (k + 1) nT nK cT cK ad g q H locs ls → W p l e room_1 s m #[Value.ref b] below meth c H locs (100 + 16 * (k + 1)) (4000 + 200 * (k + 1)) (lw_Z below #[Value.ref b] s) (F0 m 2272 ls []))
    {nT nK cT cK : Nat} {ad : Nat → Nat} {g : sG} {q : sQ} {H : Heap} {locs : List Loc} {ls : Array Slot} (h : lSt Z s b k k nT nK cT cK ad g q H locs ls) : W p l e room_1 s m #[Value.ref b] below meth c H locs (100 + 16 * k) (4000 + 200 * k) (lw_Z below #[Value.ref b] s) (F0 m 1750 ls []) := by
  obtain ⟨hx, hb, hr, hml, hown, hts, hX, hbl, hlocks, hZ, hE, hNc, hfl⟩ := hC
  obtain ⟨hP, hI, h70, h71, hS, hl⟩ := h
  have hbA : ¬ sy_A Z b := fun z => absurd (show Z.2.2.1 ≤ b from z) (by omega)
  have hkB : k * oB ≤ 2048000000 := by
    have : k ≤ 511 := by omega
    calc k * oB ≤ 511 * 4000000 := Nat.mul_le_mul this (Nat.le_refl _)
      _ ≤ 2048000000 := by decide
  refine lv_aload_n hx hb dL_law_1750 rfl (lv_at hl 2 rfl) ?_
  refine lv_aload_n hx hb dL_law_1751 rfl (lv_at hl 1 rfl) ?_
  refine lv_iload hx hb dL_law_1752 (lv_at hl 0 rfl) ?_
  refine lv_iconst (v := 1) hx hb dL_law_1754 (by decide) ?_
  refine lv_iadd hx hb dL_law_1755 ?_
  refine sy_top (y := nI (7 * k + 1)) (nI_add _ _) ?_
  refine va_sld hx hb hX hbl hbA hS (vp_in_nI (show 7 * k + 1 < L by omega) (by omega)) dL_law_1756 ?_
  refine sy_top (y := xs (7 * k + 1)) (by rw [nI_clamp (by omega)]) ?_
  refine lv_aload_n hx hb dL_law_1757 rfl (lv_at hl 4 rfl) ?_
  have hCode : wf 9 1 2 (fX6_deposit g q (xs (7 * k + 1))).1 ≠ 9 := (by
        by_cases z : (fX6_deposit g q (xs (7 * k + 1))).1 = 0
        · rw [z]; exact (by decide : (0 : Int32) ≠ 9)
        · exact (st_no hI (fun gm hg => o_deposit hkB (q' := (fX6_deposit g q (xs (7 * k + 1))).2.2.2) hg (xs (7 * k + 1))) n6_deposit (fun gm => f7_deposit) z).2.1)
  refine va_calli (vx_runSW (As := [.ref (ad 60), .int (xs (7 * k + 1)), .ref (ad 90)]) (rest := []) ⟨hx, hb, hml, hown, hts⟩ (mL_deposit l hfl Z nT nK cT cK ad g q (xs (7 * k + 1)) (by have := inv_T hI; omega) (inv_IG hI) (inv_IQ hI) hCode) (vx_cwSW 3 hts (gl_S uk_4_122 uk_4_123 uk_1_0 uk_4_124) rfl rfl rfl (by decide +kernel) ⟨Nat.le_of_ble_eq_true rfl, Nat.le_of_ble_eq_true rfl⟩) ⟨sPreL_blind _, fun U hU hW => ⟨rfl, ⟨hE.next hS hU hW.alike, by rw [hU]; exact hP⟩, hNc.next hW.alike⟩⟩ rfl rfl hl.1 rfl (lv_room (Nat.le_of_ble_eq_true rfl)) dL_law_1758 ⟨by show _ ≤ 601024; (try dsimp only); omega, by show _ ≤ 7293034; (try dsimp only); omega⟩) hS (fun _ _ h => h) (fun _ h => h) (fun r u t H locs ht _ hp hB _ _ hS => ?_)
  obtain ⟨g1, q1⟩ := u
  have hP := hB.2
  rw [ht] at hP
  dsimp only at hp hP
  rcases hp with ⟨h0, rfl, rfl, rfl⟩ | ⟨h0, rfl, hg9, hq9⟩
  · refine lv_istore (lv' := [(5, .int 0), (4, .int (nI (7 * k))), (0, .ref b), (1, .ref (ad 60)), (2, .ref (ad 0)), (3, .ref (ad 90))]) hx hb dL_law_1761 hl (by decide) rfl (fun ls hl => ?_)
    have st := st_yes hI (F := fun gm => fX7_deposit gm (fX6_deposit g q (xs (7 * k + 1))).2.2.2 (xs (7 * k + 1))) (fun gm hg => o_deposit hkB (q' := (fX6_deposit g q (xs (7 * k + 1))).2.2.2) hg (xs (7 * k + 1))) f6_deposit (fun gm => f7_deposit) h0
    try dsimp only at st
    refine lv_aload_n hx hb dL_law_1763 rfl (lv_at hl 4 rfl) ?_
    refine lv_aload_n hx hb dL_law_1764 rfl (lv_at hl 2 rfl) ?_
    refine lv_iload hx hb dL_law_1765 (lv_at hl 1 rfl) ?_
    refine lv_iconst (v := 1) hx hb dL_law_1767 (by decide) ?_
    refine lv_iadd hx hb dL_law_1768 ?_
    refine sy_top (y := nI (7 * k + 1)) (nI_add _ _) ?_
    refine va_sld hx hb hX hbl hbA hS (vp_in_nI (show 7 * k + 1 < L by omega) (by omega)) dL_law_1769 ?_
    refine sy_top (y := xs (7 * k + 1)) (by rw [nI_clamp (by omega)]) ?_
    refine sy_ki (sy_rV (o := 0) (As := [.int (xs (7 * k + 1))]) (rest := []) ⟨hx, hb, hml, hown, hts⟩ hE hP hS (mX7_deposit l hfl Z nT nK cT cK ad (sy_up (fX6_deposit g q (xs (7 * k + 1))).2.2.1 90 0 (fX6_deposit g q (xs (7 * k + 1))).2.1) (fX6_deposit g q (xs (7 * k + 1))).2.2.2 (xs (7 * k + 1)) st.1.2.1) (cwV 1 hts (gl_V uk_6_17 uk_6_18 uk_6_19 uk_1_9 uk_6_20) rfl rfl rfl (by decide +kernel) ⟨Nat.le_of_ble_eq_true rfl, Nat.le_of_ble_eq_true rfl⟩) (sy_recv (kc := 8) hE hP rfl (by decide) rfl rfl rfl) rfl hl.1 rfl (Nat.le_of_ble_eq_true rfl) dL_law_1770 ⟨by show _ ≤ 601024; (try dsimp only); omega, by show _ ≤ 7293034; (try dsimp only); omega⟩) hS (fun b2 g2 q2 H locs e2 hP hS => ?_)
    obtain ⟨rfl, rfl, rfl⟩ : (fX7_deposit (sy_up (fX6_deposit g q (xs (7 * k + 1))).2.2.1 90 0 (fX6_deposit g q (xs (7 * k + 1))).2.1) (fX6_deposit g q (xs (7 * k + 1))).2.2.2 (xs (7 * k + 1))).1 = b2 ∧ (fX7_deposit (sy_up (fX6_deposit g q (xs (7 * k + 1))).2.2.1 90 0 (fX6_deposit g q (xs (7 * k + 1))).2.1) (fX6_deposit g q (xs (7 * k + 1))).2.2.2 (xs (7 * k + 1))).2 = g2 ∧ (fX6_deposit g q (xs (7 * k + 1))).2.2.2 = q2 := by cases e2; exact ⟨rfl, rfl, rfl⟩
    refine lv_istore (lv' := [(6, .int (fX7_deposit (sy_up (fX6_deposit g q (xs (7 * k + 1))).2.2.1 90 0 (fX6_deposit g q (xs (7 * k + 1))).2.1) (fX6_deposit g q (xs (7 * k + 1))).2.2.2 (xs (7 * k + 1))).1), (5, .int 0), (4, .int (nI (7 * k))), (0, .ref b), (1, .ref (ad 60)), (2, .ref (ad 0)), (3, .ref (ad 90))]) hx hb dL_law_1773 hl (by decide) rfl (fun ls hl => ?_)
    refine lv_aload_n hx hb dL_law_1775 rfl (lv_at hl 5 rfl) ?_
    refine sy_ki (sy_rV (o := 0) (As := []) (rest := []) ⟨hx, hb, hml, hown, hts⟩ hE hP hS (mX7_thrown l hfl Z nT nK cT cK ad (fX7_deposit (sy_up (fX6_deposit g q (xs (7 * k + 1))).2.2.1 90 0 (fX6_deposit g q (xs (7 * k + 1))).2.1) (fX6_deposit g q (xs (7 * k + 1))).2.2.2 (xs (7 * k + 1))).2 (fX6_deposit g q (xs (7 * k + 1))).2.2.2) (cwV 0 hts (gl_V uk_5_93 uk_5_94 uk_5_95 uk_1_9 uk_5_96) rfl rfl rfl (by decide +kernel) ⟨Nat.le_of_ble_eq_true rfl, Nat.le_of_ble_eq_true rfl⟩) (sy_recv (kc := 8) hE hP rfl (by decide) rfl rfl rfl) rfl hl.1 rfl (Nat.le_of_ble_eq_true rfl) dL_law_1776 ⟨by show _ ≤ 601024; (try dsimp only); omega, by show _ ≤ 7293034; (try dsimp only); omega⟩) hS (fun b3 g3 q3 H locs e3 hP hS => ?_)
    obtain ⟨rfl, rfl, rfl⟩ : (fX7_deposit (sy_up (fX6_deposit g q (xs (7 * k + 1))).2.2.1 90 0 (fX6_deposit g q (xs (7 * k + 1))).2.1) (fX6_deposit g q (xs (7 * k + 1))).2.2.2 (xs (7 * k + 1))).2 0 0 = b3 ∧ (fX7_deposit (sy_up (fX6_deposit g q (xs (7 * k + 1))).2.2.1 90 0 (fX6_deposit g q (xs (7 * k + 1))).2.1) (fX6_deposit g q (xs (7 * k + 1))).2.2.2 (xs (7 * k + 1))).2 = g3 ∧ (fX6_deposit g q (xs (7 * k + 1))).2.2.2 = q3 := by cases e3; exact ⟨rfl, rfl, rfl⟩
    refine sy_top (y := 0) st.2.1 ?_
    refine lv_iload hx hb dL_law_1779 (lv_at hl 1 rfl) ?_
    refine lv_icmp_eq (tgt := 1786) hx hb dL_law_1781 (by decide) (fun _ => ?_) (fun c9 => absurd rfl c9)
    refine lv_iload hx hb dL_law_1786 (lv_at hl 1 rfl) ?_
    refine lv_if_ne (tgt := 1803) hx hb dL_law_1788 (by decide) (fun c9 => absurd rfl c9) (fun _ => ?_)
    refine lv_aload_n hx hb dL_law_1791 rfl (lv_at hl 6 rfl) ?_
    refine lv_iconst (v := 0) hx hb dL_law_1792 (by decide) ?_
    refine sy_lald hx hb hE hP 90 rfl (i := 0) (k_in rfl) dL_law_1793 ?_
    refine lv_iload hx hb dL_law_1794 (lv_at hl 0 rfl) ?_
    refine lv_i2l (v := ((fX7_deposit (sy_up (fX6_deposit g q (xs (7 * k + 1))).2.2.1 90 0 (fX6_deposit g q (xs (7 * k + 1))).2.1) (fX6_deposit g q (xs (7 * k + 1))).2.2.2 (xs (7 * k + 1))).2 90 0).toInt64) hx hb dL_law_1796 (by rw [st.2.2.2.1, st.2.2.1]) ?_
    refine lv_lcmp0 hx hb dL_law_1797 ?_
    refine lv_if_eq (tgt := 1803) hx hb dL_law_1798 (by decide) (fun _ => ?_) (fun c9 => absurd rfl c9)
    refine lv_goto (tgt := 2272) hx hb dL_law_1803 (by decide) ?_
    refine W.widen (k := 100 + 16 * (k + 1)) (n := 4000 + 200 * (k + 1)) (by (try dsimp only); omega) (by (try dsimp only); omega) ?_
    exact hJ _ _ _ _ _ _ _ _ _ _ ⟨hP, by rw [Nat.succ_mul]; exact st.2.2.2.2, h70, h71, hS, lv_sub hl [2, 3, 4, 5, 6] rfl⟩
  · replace hg9 := hg9.symm
    replace hq9 := hq9.symm
    subst hg9
    subst hq9
    refine lv_istore (lv' := [(5, .int (wf 9 1 2 (fX6_deposit g q (xs (7 * k + 1))).1)), (4, .int (nI (7 * k))), (0, .ref b), (1, .ref (ad 60)), (2, .ref (ad 0)), (3, .ref (ad 90))]) hx hb dL_law_1761 hl (by decide) rfl (fun ls hl => ?_)
    have st := st_no hI (F := fun gm => fX7_deposit gm q (xs (7 * k + 1))) (fun gm hg => o_deposit hkB (q' := q) hg (xs (7 * k + 1))) n6_deposit (fun gm => f7_deposit) h0
    try dsimp only at st
    refine lv_aload_n hx hb dL_law_1763 rfl (lv_at hl 4 rfl) ?_
    refine lv_aload_n hx hb dL_law_1764 rfl (lv_at hl 2 rfl) ?_
    refine lv_iload hx hb dL_law_1765 (lv_at hl 1 rfl) ?_
    refine lv_iconst (v := 1) hx hb dL_law_1767 (by decide) ?_
    refine lv_iadd hx hb dL_law_1768 ?_
    refine sy_top (y := nI (7 * k + 1)) (nI_add _ _) ?_
    refine va_sld hx hb hX hbl hbA hS (vp_in_nI (show 7 * k + 1 < L by omega) (by omega)) dL_law_1769 ?_
    refine sy_top (y := xs (7 * k + 1)) (by rw [nI_clamp (by omega)]) ?_
    refine sy_ki (sy_rV (o := 0) (As := [.int (xs (7 * k + 1))]) (rest := []) ⟨hx, hb, hml, hown, hts⟩ hE hP hS (mX7_deposit l hfl Z nT nK cT cK ad g q (xs (7 * k + 1)) hI.2.1) (cwV 1 hts (gl_V uk_6_17 uk_6_18 uk_6_19 uk_1_9 uk_6_20) rfl rfl rfl (by decide +kernel) ⟨Nat.le_of_ble_eq_true rfl, Nat.le_of_ble_eq_true rfl⟩) (sy_recv (kc := 8) hE hP rfl (by decide) rfl rfl rfl) rfl hl.1 rfl (Nat.le_of_ble_eq_true rfl) dL_law_1770 ⟨by show _ ≤ 601024; (try dsimp only); omega, by show _ ≤ 7293034; (try dsimp only); omega⟩) hS (fun b2 g2 q2 H locs e2 hP hS => ?_)
    obtain ⟨rfl, rfl, rfl⟩ : (fX7_deposit g q (xs (7 * k + 1))).1 = b2 ∧ (fX7_deposit g q (xs (7 * k + 1))).2 = g2 ∧ q = q2 := by cases e2; exact ⟨rfl, rfl, rfl⟩
    refine lv_istore (lv' := [(6, .int (fX7_deposit g q (xs (7 * k + 1))).1), (5, .int (wf 9 1 2 (fX6_deposit g q (xs (7 * k + 1))).1)), (4, .int (nI (7 * k))), (0, .ref b), (1, .ref (ad 60)), (2, .ref (ad 0)), (3, .ref (ad 90))]) hx hb dL_law_1773 hl (by decide) rfl (fun ls hl => ?_)
    refine lv_aload_n hx hb dL_law_1775 rfl (lv_at hl 5 rfl) ?_
    refine sy_ki (sy_rV (o := 0) (As := []) (rest := []) ⟨hx, hb, hml, hown, hts⟩ hE hP hS (mX7_thrown l hfl Z nT nK cT cK ad (fX7_deposit g q (xs (7 * k + 1))).2 q) (cwV 0 hts (gl_V uk_5_93 uk_5_94 uk_5_95 uk_1_9 uk_5_96) rfl rfl rfl (by decide +kernel) ⟨Nat.le_of_ble_eq_true rfl, Nat.le_of_ble_eq_true rfl⟩) (sy_recv (kc := 8) hE hP rfl (by decide) rfl rfl rfl) rfl hl.1 rfl (Nat.le_of_ble_eq_true rfl) dL_law_1776 ⟨by show _ ≤ 601024; (try dsimp only); omega, by show _ ≤ 7293034; (try dsimp only); omega⟩) hS (fun b3 g3 q3 H locs e3 hP hS => ?_)
    obtain ⟨rfl, rfl, rfl⟩ : (fX7_deposit g q (xs (7 * k + 1))).2 0 0 = b3 ∧ (fX7_deposit g q (xs (7 * k + 1))).2 = g3 ∧ q = q3 := by cases e3; exact ⟨rfl, rfl, rfl⟩
    refine sy_top (y := (wf 9 1 2 (fX6_deposit g q (xs (7 * k + 1))).1)) st.1 ?_
    refine lv_iload hx hb dL_law_1779 (lv_at hl 1 rfl) ?_
    refine lv_icmp_eq (tgt := 1786) hx hb dL_law_1781 (by decide) (fun _ => ?_) (fun c9 => absurd rfl c9)
    refine lv_iload hx hb dL_law_1786 (lv_at hl 1 rfl) ?_
    refine lv_if_ne (tgt := 1803) hx hb dL_law_1788 (by decide) (fun _ => ?_) (fun c9 => absurd c9 ((wf_ne h0 hCode).resolve_right (by decide)))
    refine lv_goto (tgt := 2272) hx hb dL_law_1803 (by decide) ?_
    refine W.widen (k := 100 + 16 * (k + 1)) (n := 4000 + 200 * (k + 1)) (by (try dsimp only); omega) (by (try dsimp only); omega) ?_
    exact hJ _ _ _ _ _ _ _ _ _ _ ⟨hP, by rw [Nat.succ_mul]; exact st.2.2, h70, h71, hS, lv_sub hl [2, 3, 4, 5, 6] rfl⟩
set_option maxHeartbeats 8000000 in
set_option maxRecDepth 100000 in
theorem lc_withdraw (hC : lCtx p l s m meth c b L xs Z) {k : Nat} (hk : 7 * k + 7 ≤ L) (hL : L ≤ 3584) (hJ : ∀ (nT nK cT cK : Nat) (ad : Nat → Nat) (g : sG) (q : sQ) (H : Heap) (locs : List Loc) (ls : Array Slot), lSt Z s b k (k + 1) nT nK cT cK ad g q H locs ls → W p l e room_1 s m #[Value.ref b] below meth c H locs (100 + 16 * (k + 1)) (4000 + 200 * (k + 1)) (lw_Z below #[Value.ref b] s) (F0 m 2272 ls []))
    {nT nK cT cK : Nat} {ad : Nat → Nat} {g : sG} {q : sQ} {H : Heap} {locs : List Loc} {ls : Array Slot} (h : lSt Z s b k k nT nK cT cK ad g q H locs ls) : W p l e room_1 s m #[Value.ref b] below meth c H locs (100 + 16 * k) (4000 + 200 * k) (lw_Z below #[Value.ref b] s) (F0 m 1806 ls []) := by
  obtain ⟨hx, hb, hr, hml, hown, hts, hX, hbl, hlocks, hZ, hE, hNc, hfl⟩ := hC
  obtain ⟨hP, hI, h70, h71, hS, hl⟩ := h
  have hbA : ¬ sy_A Z b := fun z => absurd (show Z.2.2.1 ≤ b from z) (by omega)
  have hkB : k * oB ≤ 2048000000 := by
    have : k ≤ 511 := by omega
    calc k * oB ≤ 511 * 4000000 := Nat.mul_le_mul this (Nat.le_refl _)
      _ ≤ 2048000000 := by decide
  refine lv_aload_n hx hb dL_law_1806 rfl (lv_at hl 2 rfl) ?_
  refine lv_aload_n hx hb dL_law_1807 rfl (lv_at hl 1 rfl) ?_
  refine lv_iload hx hb dL_law_1808 (lv_at hl 0 rfl) ?_
  refine lv_iconst (v := 1) hx hb dL_law_1810 (by decide) ?_
  refine lv_iadd hx hb dL_law_1811 ?_
  refine sy_top (y := nI (7 * k + 1)) (nI_add _ _) ?_
  refine va_sld hx hb hX hbl hbA hS (vp_in_nI (show 7 * k + 1 < L by omega) (by omega)) dL_law_1812 ?_
  refine sy_top (y := xs (7 * k + 1)) (by rw [nI_clamp (by omega)]) ?_
  refine lv_aload_n hx hb dL_law_1813 rfl (lv_at hl 4 rfl) ?_
  have hCode : wf 9 1 2 (fX6_withdraw g q (xs (7 * k + 1))).1 ≠ 9 := (by
        by_cases z : (fX6_withdraw g q (xs (7 * k + 1))).1 = 0
        · rw [z]; exact (by decide : (0 : Int32) ≠ 9)
        · exact (st_no hI (fun gm hg => o_withdraw (q' := (fX6_withdraw g q (xs (7 * k + 1))).2.2.2) hg (xs (7 * k + 1))) n6_withdraw (fun gm => f7_withdraw) z).2.1)
  refine va_calli (vx_runSW (As := [.ref (ad 60), .int (xs (7 * k + 1)), .ref (ad 90)]) (rest := []) ⟨hx, hb, hml, hown, hts⟩ (mL_withdraw l hfl Z nT nK cT cK ad g q (xs (7 * k + 1)) (by have := inv_T hI; omega) (inv_IG hI) (inv_IQ hI) hCode) (vx_cwSW 3 hts (gl_S uk_4_130 uk_4_131 uk_1_0 uk_4_132) rfl rfl rfl (by decide +kernel) ⟨Nat.le_of_ble_eq_true rfl, Nat.le_of_ble_eq_true rfl⟩) ⟨sPreL_blind _, fun U hU hW => ⟨rfl, ⟨hE.next hS hU hW.alike, by rw [hU]; exact hP⟩, hNc.next hW.alike⟩⟩ rfl rfl hl.1 rfl (lv_room (Nat.le_of_ble_eq_true rfl)) dL_law_1814 ⟨by show _ ≤ 601024; (try dsimp only); omega, by show _ ≤ 7293034; (try dsimp only); omega⟩) hS (fun _ _ h => h) (fun _ h => h) (fun r u t H locs ht _ hp hB _ _ hS => ?_)
  obtain ⟨g1, q1⟩ := u
  have hP := hB.2
  rw [ht] at hP
  dsimp only at hp hP
  rcases hp with ⟨h0, rfl, rfl, rfl⟩ | ⟨h0, rfl, hg9, hq9⟩
  · refine lv_istore (lv' := [(5, .int 0), (4, .int (nI (7 * k))), (0, .ref b), (1, .ref (ad 60)), (2, .ref (ad 0)), (3, .ref (ad 90))]) hx hb dL_law_1817 hl (by decide) rfl (fun ls hl => ?_)
    have st := st_yes hI (F := fun gm => fX7_withdraw gm (fX6_withdraw g q (xs (7 * k + 1))).2.2.2 (xs (7 * k + 1))) (fun gm hg => o_withdraw (q' := (fX6_withdraw g q (xs (7 * k + 1))).2.2.2) hg (xs (7 * k + 1))) f6_withdraw (fun gm => f7_withdraw) h0
    try dsimp only at st
    refine lv_aload_n hx hb dL_law_1819 rfl (lv_at hl 4 rfl) ?_
    refine lv_aload_n hx hb dL_law_1820 rfl (lv_at hl 2 rfl) ?_
    refine lv_iload hx hb dL_law_1821 (lv_at hl 1 rfl) ?_
    refine lv_iconst (v := 1) hx hb dL_law_1823 (by decide) ?_
    refine lv_iadd hx hb dL_law_1824 ?_
    refine sy_top (y := nI (7 * k + 1)) (nI_add _ _) ?_
    refine va_sld hx hb hX hbl hbA hS (vp_in_nI (show 7 * k + 1 < L by omega) (by omega)) dL_law_1825 ?_
    refine sy_top (y := xs (7 * k + 1)) (by rw [nI_clamp (by omega)]) ?_
    refine sy_ki (sy_rV (o := 0) (As := [.int (xs (7 * k + 1))]) (rest := []) ⟨hx, hb, hml, hown, hts⟩ hE hP hS (mX7_withdraw l hfl Z nT nK cT cK ad (sy_up (fX6_withdraw g q (xs (7 * k + 1))).2.2.1 90 0 (fX6_withdraw g q (xs (7 * k + 1))).2.1) (fX6_withdraw g q (xs (7 * k + 1))).2.2.2 (xs (7 * k + 1)) st.1.2.1) (cwV 1 hts (gl_V uk_6_22 uk_6_23 uk_6_24 uk_1_9 uk_6_25) rfl rfl rfl (by decide +kernel) ⟨Nat.le_of_ble_eq_true rfl, Nat.le_of_ble_eq_true rfl⟩) (sy_recv (kc := 8) hE hP rfl (by decide) rfl rfl rfl) rfl hl.1 rfl (Nat.le_of_ble_eq_true rfl) dL_law_1826 ⟨by show _ ≤ 601024; (try dsimp only); omega, by show _ ≤ 7293034; (try dsimp only); omega⟩) hS (fun b2 g2 q2 H locs e2 hP hS => ?_)
    obtain ⟨rfl, rfl, rfl⟩ : (fX7_withdraw (sy_up (fX6_withdraw g q (xs (7 * k + 1))).2.2.1 90 0 (fX6_withdraw g q (xs (7 * k + 1))).2.1) (fX6_withdraw g q (xs (7 * k + 1))).2.2.2 (xs (7 * k + 1))).1 = b2 ∧ (fX7_withdraw (sy_up (fX6_withdraw g q (xs (7 * k + 1))).2.2.1 90 0 (fX6_withdraw g q (xs (7 * k + 1))).2.1) (fX6_withdraw g q (xs (7 * k + 1))).2.2.2 (xs (7 * k + 1))).2 = g2 ∧ (fX6_withdraw g q (xs (7 * k + 1))).2.2.2 = q2 := by cases e2; exact ⟨rfl, rfl, rfl⟩
    refine lv_istore (lv' := [(6, .int (fX7_withdraw (sy_up (fX6_withdraw g q (xs (7 * k + 1))).2.2.1 90 0 (fX6_withdraw g q (xs (7 * k + 1))).2.1) (fX6_withdraw g q (xs (7 * k + 1))).2.2.2 (xs (7 * k + 1))).1), (5, .int 0), (4, .int (nI (7 * k))), (0, .ref b), (1, .ref (ad 60)), (2, .ref (ad 0)), (3, .ref (ad 90))]) hx hb dL_law_1829 hl (by decide) rfl (fun ls hl => ?_)
    refine lv_aload_n hx hb dL_law_1831 rfl (lv_at hl 5 rfl) ?_
    refine sy_ki (sy_rV (o := 0) (As := []) (rest := []) ⟨hx, hb, hml, hown, hts⟩ hE hP hS (mX7_thrown l hfl Z nT nK cT cK ad (fX7_withdraw (sy_up (fX6_withdraw g q (xs (7 * k + 1))).2.2.1 90 0 (fX6_withdraw g q (xs (7 * k + 1))).2.1) (fX6_withdraw g q (xs (7 * k + 1))).2.2.2 (xs (7 * k + 1))).2 (fX6_withdraw g q (xs (7 * k + 1))).2.2.2) (cwV 0 hts (gl_V uk_5_93 uk_5_94 uk_5_95 uk_1_9 uk_5_96) rfl rfl rfl (by decide +kernel) ⟨Nat.le_of_ble_eq_true rfl, Nat.le_of_ble_eq_true rfl⟩) (sy_recv (kc := 8) hE hP rfl (by decide) rfl rfl rfl) rfl hl.1 rfl (Nat.le_of_ble_eq_true rfl) dL_law_1832 ⟨by show _ ≤ 601024; (try dsimp only); omega, by show _ ≤ 7293034; (try dsimp only); omega⟩) hS (fun b3 g3 q3 H locs e3 hP hS => ?_)
    obtain ⟨rfl, rfl, rfl⟩ : (fX7_withdraw (sy_up (fX6_withdraw g q (xs (7 * k + 1))).2.2.1 90 0 (fX6_withdraw g q (xs (7 * k + 1))).2.1) (fX6_withdraw g q (xs (7 * k + 1))).2.2.2 (xs (7 * k + 1))).2 0 0 = b3 ∧ (fX7_withdraw (sy_up (fX6_withdraw g q (xs (7 * k + 1))).2.2.1 90 0 (fX6_withdraw g q (xs (7 * k + 1))).2.1) (fX6_withdraw g q (xs (7 * k + 1))).2.2.2 (xs (7 * k + 1))).2 = g3 ∧ (fX6_withdraw g q (xs (7 * k + 1))).2.2.2 = q3 := by cases e3; exact ⟨rfl, rfl, rfl⟩
    refine sy_top (y := 0) st.2.1 ?_
    refine lv_iload hx hb dL_law_1835 (lv_at hl 1 rfl) ?_
    refine lv_icmp_eq (tgt := 1842) hx hb dL_law_1837 (by decide) (fun _ => ?_) (fun c9 => absurd rfl c9)
    refine lv_iload hx hb dL_law_1842 (lv_at hl 1 rfl) ?_
    refine lv_if_ne (tgt := 1859) hx hb dL_law_1844 (by decide) (fun c9 => absurd rfl c9) (fun _ => ?_)
    refine lv_aload_n hx hb dL_law_1847 rfl (lv_at hl 6 rfl) ?_
    refine lv_iconst (v := 0) hx hb dL_law_1848 (by decide) ?_
    refine sy_lald hx hb hE hP 90 rfl (i := 0) (k_in rfl) dL_law_1849 ?_
    refine lv_iload hx hb dL_law_1850 (lv_at hl 0 rfl) ?_
    refine lv_i2l (v := ((fX7_withdraw (sy_up (fX6_withdraw g q (xs (7 * k + 1))).2.2.1 90 0 (fX6_withdraw g q (xs (7 * k + 1))).2.1) (fX6_withdraw g q (xs (7 * k + 1))).2.2.2 (xs (7 * k + 1))).2 90 0).toInt64) hx hb dL_law_1852 (by rw [st.2.2.2.1, st.2.2.1]) ?_
    refine lv_lcmp0 hx hb dL_law_1853 ?_
    refine lv_if_eq (tgt := 1859) hx hb dL_law_1854 (by decide) (fun _ => ?_) (fun c9 => absurd rfl c9)
    refine lv_goto (tgt := 2272) hx hb dL_law_1859 (by decide) ?_
    refine W.widen (k := 100 + 16 * (k + 1)) (n := 4000 + 200 * (k + 1)) (by (try dsimp only); omega) (by (try dsimp only); omega) ?_
    exact hJ _ _ _ _ _ _ _ _ _ _ ⟨hP, by rw [Nat.succ_mul]; exact st.2.2.2.2, h70, h71, hS, lv_sub hl [2, 3, 4, 5, 6] rfl⟩
  · replace hg9 := hg9.symm
    replace hq9 := hq9.symm
    subst hg9
    subst hq9
    refine lv_istore (lv' := [(5, .int (wf 9 1 2 (fX6_withdraw g q (xs (7 * k + 1))).1)), (4, .int (nI (7 * k))), (0, .ref b), (1, .ref (ad 60)), (2, .ref (ad 0)), (3, .ref (ad 90))]) hx hb dL_law_1817 hl (by decide) rfl (fun ls hl => ?_)
    have st := st_no hI (F := fun gm => fX7_withdraw gm q (xs (7 * k + 1))) (fun gm hg => o_withdraw (q' := q) hg (xs (7 * k + 1))) n6_withdraw (fun gm => f7_withdraw) h0
    try dsimp only at st
    refine lv_aload_n hx hb dL_law_1819 rfl (lv_at hl 4 rfl) ?_
    refine lv_aload_n hx hb dL_law_1820 rfl (lv_at hl 2 rfl) ?_
    refine lv_iload hx hb dL_law_1821 (lv_at hl 1 rfl) ?_
    refine lv_iconst (v := 1) hx hb dL_law_1823 (by decide) ?_
    refine lv_iadd hx hb dL_law_1824 ?_
    refine sy_top (y := nI (7 * k + 1)) (nI_add _ _) ?_
    refine va_sld hx hb hX hbl hbA hS (vp_in_nI (show 7 * k + 1 < L by omega) (by omega)) dL_law_1825 ?_
    refine sy_top (y := xs (7 * k + 1)) (by rw [nI_clamp (by omega)]) ?_
    refine sy_ki (sy_rV (o := 0) (As := [.int (xs (7 * k + 1))]) (rest := []) ⟨hx, hb, hml, hown, hts⟩ hE hP hS (mX7_withdraw l hfl Z nT nK cT cK ad g q (xs (7 * k + 1)) hI.2.1) (cwV 1 hts (gl_V uk_6_22 uk_6_23 uk_6_24 uk_1_9 uk_6_25) rfl rfl rfl (by decide +kernel) ⟨Nat.le_of_ble_eq_true rfl, Nat.le_of_ble_eq_true rfl⟩) (sy_recv (kc := 8) hE hP rfl (by decide) rfl rfl rfl) rfl hl.1 rfl (Nat.le_of_ble_eq_true rfl) dL_law_1826 ⟨by show _ ≤ 601024; (try dsimp only); omega, by show _ ≤ 7293034; (try dsimp only); omega⟩) hS (fun b2 g2 q2 H locs e2 hP hS => ?_)
    obtain ⟨rfl, rfl, rfl⟩ : (fX7_withdraw g q (xs (7 * k + 1))).1 = b2 ∧ (fX7_withdraw g q (xs (7 * k + 1))).2 = g2 ∧ q = q2 := by cases e2; exact ⟨rfl, rfl, rfl⟩
    refine lv_istore (lv' := [(6, .int (fX7_withdraw g q (xs (7 * k + 1))).1), (5, .int (wf 9 1 2 (fX6_withdraw g q (xs (7 * k + 1))).1)), (4, .int (nI (7 * k))), (0, .ref b), (1, .ref (ad 60)), (2, .ref (ad 0)), (3, .ref (ad 90))]) hx hb dL_law_1829 hl (by decide) rfl (fun ls hl => ?_)
    refine lv_aload_n hx hb dL_law_1831 rfl (lv_at hl 5 rfl) ?_
    refine sy_ki (sy_rV (o := 0) (As := []) (rest := []) ⟨hx, hb, hml, hown, hts⟩ hE hP hS (mX7_thrown l hfl Z nT nK cT cK ad (fX7_withdraw g q (xs (7 * k + 1))).2 q) (cwV 0 hts (gl_V uk_5_93 uk_5_94 uk_5_95 uk_1_9 uk_5_96) rfl rfl rfl (by decide +kernel) ⟨Nat.le_of_ble_eq_true rfl, Nat.le_of_ble_eq_true rfl⟩) (sy_recv (kc := 8) hE hP rfl (by decide) rfl rfl rfl) rfl hl.1 rfl (Nat.le_of_ble_eq_true rfl) dL_law_1832 ⟨by show _ ≤ 601024; (try dsimp only); omega, by show _ ≤ 7293034; (try dsimp only); omega⟩) hS (fun b3 g3 q3 H locs e3 hP hS => ?_)
    obtain ⟨rfl, rfl, rfl⟩ : (fX7_withdraw g q (xs (7 * k + 1))).2 0 0 = b3 ∧ (fX7_withdraw g q (xs (7 * k + 1))).2 = g3 ∧ q = q3 := by cases e3; exact ⟨rfl, rfl, rfl⟩
    refine sy_top (y := (wf 9 1 2 (fX6_withdraw g q (xs (7 * k + 1))).1)) st.1 ?_
    refine lv_iload hx hb dL_law_1835 (lv_at hl 1 rfl) ?_
    refine lv_icmp_eq (tgt := 1842) hx hb dL_law_1837 (by decide) (fun _ => ?_) (fun c9 => absurd rfl c9)
    refine lv_iload hx hb dL_law_1842 (lv_at hl 1 rfl) ?_
    refine lv_if_ne (tgt := 1859) hx hb dL_law_1844 (by decide) (fun _ => ?_) (fun c9 => absurd c9 ((wf_ne h0 hCode).resolve_right (by decide)))
    refine lv_goto (tgt := 2272) hx hb dL_law_1859 (by decide) ?_
    refine W.widen (k := 100 + 16 * (k + 1)) (n := 4000 + 200 * (k + 1)) (by (try dsimp only); omega) (by (try dsimp only); omega) ?_
    exact hJ _ _ _ _ _ _ _ _ _ _ ⟨hP, by rw [Nat.succ_mul]; exact st.2.2, h70, h71, hS, lv_sub hl [2, 3, 4, 5, 6] rfl⟩
set_option maxHeartbeats 8000000 in
set_option maxRecDepth 100000 in
theorem lc_day (hC : lCtx p l s m meth c b L xs Z) {k : Nat} (hk : 7 * k + 7 ≤ L) (hL : L ≤ 3584) (hJ : ∀ (nT nK cT cK : Nat) (ad : Nat → Nat) (g : sG) (q : sQ) (H : Heap) (locs : List Loc) (ls : Array Slot), lSt Z s b k (k + 1) nT nK cT cK ad g q H locs ls → W p l e room_1 s m #[Value.ref b] below meth c H locs (100 + 16 * (k + 1)) (4000 + 200 * (k + 1)) (lw_Z below #[Value.ref b] s) (F0 m 2272 ls []))
    {nT nK cT cK : Nat} {ad : Nat → Nat} {g : sG} {q : sQ} {H : Heap} {locs : List Loc} {ls : Array Slot} (h : lSt Z s b k k nT nK cT cK ad g q H locs ls) : W p l e room_1 s m #[Value.ref b] below meth c H locs (100 + 16 * k) (4000 + 200 * k) (lw_Z below #[Value.ref b] s) (F0 m 1862 ls []) := by
  obtain ⟨hx, hb, hr, hml, hown, hts, hX, hbl, hlocks, hZ, hE, hNc, hfl⟩ := hC
  obtain ⟨hP, hI, h70, h71, hS, hl⟩ := h
  have hbA : ¬ sy_A Z b := fun z => absurd (show Z.2.2.1 ≤ b from z) (by omega)
  have hkB : k * oB ≤ 2048000000 := by
    have : k ≤ 511 := by omega
    calc k * oB ≤ 511 * 4000000 := Nat.mul_le_mul this (Nat.le_refl _)
      _ ≤ 2048000000 := by decide
  refine lv_aload_n hx hb dL_law_1862 rfl (lv_at hl 2 rfl) ?_
  refine sy_ki (sy_rV (o := 60) (As := []) (rest := []) ⟨hx, hb, hml, hown, hts⟩ hE hP hS (mX6_day l hfl Z nT nK cT cK ad g q (by have := inv_T hI; omega) (inv_IG hI) (inv_IQ hI)) (cwV 0 hts (gl_V uk_1_184 uk_1_185 uk_1_186 uk_1_1 uk_1_187) rfl rfl rfl (by decide +kernel) ⟨Nat.le_of_ble_eq_true rfl, Nat.le_of_ble_eq_true rfl⟩) (sy_recv (kc := 7) hE hP rfl (by decide) rfl rfl rfl) rfl hl.1 rfl (Nat.le_of_ble_eq_true rfl) dL_law_1863 ⟨by show _ ≤ 601024; (try dsimp only); omega, by show _ ≤ 7293034; (try dsimp only); omega⟩) hS (fun b1 g1 q1 H locs e1 hP hS => ?_)
  obtain ⟨rfl, rfl, rfl⟩ : fX6_day g q = b1 ∧ g = g1 ∧ q = q1 := by cases e1; exact ⟨rfl, rfl, rfl⟩
  refine lv_aload_n hx hb dL_law_1866 rfl (lv_at hl 3 rfl) ?_
  refine sy_ki (sy_rV (o := 0) (As := []) (rest := [.int (fX6_day g q)]) ⟨hx, hb, hml, hown, hts⟩ hE hP hS (mX7_day l hfl Z nT nK cT cK ad g q) (cwV 0 hts (gl_V uk_6_26 uk_6_27 uk_6_28 uk_1_9 uk_6_29) rfl rfl rfl (by decide +kernel) ⟨Nat.le_of_ble_eq_true rfl, Nat.le_of_ble_eq_true rfl⟩) (sy_recv (kc := 8) hE hP rfl (by decide) rfl rfl rfl) rfl hl.1 rfl (Nat.le_of_ble_eq_true rfl) dL_law_1867 ⟨by show _ ≤ 601024; (try dsimp only); omega, by show _ ≤ 7293034; (try dsimp only); omega⟩) hS (fun b2 g2 q2 H locs e2 hP hS => ?_)
  obtain ⟨rfl, rfl, rfl⟩ : (fX7_day g q).1 = b2 ∧ (fX7_day g q).2 = g2 ∧ q = q2 := by cases e2; exact ⟨rfl, rfl, rfl⟩
  have st := o_day (q' := q) hI
  refine sy_top (y := fX6_day g q) st.1.symm ?_
  refine lv_icmp_eq (tgt := 2272) hx hb dL_law_1870 (by decide) (fun _ => ?_) (fun c9 => absurd rfl c9)
  refine W.widen (k := 100 + 16 * (k + 1)) (n := 4000 + 200 * (k + 1)) (by (try dsimp only); omega) (by (try dsimp only); omega) ?_
  exact hJ _ _ _ _ _ _ _ _ _ _ ⟨hP, by rw [Nat.succ_mul]; exact one_mem f7_day st.2, h70, h71, hS, hl⟩
set_option maxHeartbeats 8000000 in
set_option maxRecDepth 100000 in
theorem lc_thingOf (hC : lCtx p l s m meth c b L xs Z) {k : Nat} (hk : 7 * k + 7 ≤ L) (hL : L ≤ 3584) (hJ : ∀ (nT nK cT cK : Nat) (ad : Nat → Nat) (g : sG) (q : sQ) (H : Heap) (locs : List Loc) (ls : Array Slot), lSt Z s b k (k + 1) nT nK cT cK ad g q H locs ls → W p l e room_1 s m #[Value.ref b] below meth c H locs (100 + 16 * (k + 1)) (4000 + 200 * (k + 1)) (lw_Z below #[Value.ref b] s) (F0 m 2272 ls []))
    {nT nK cT cK : Nat} {ad : Nat → Nat} {g : sG} {q : sQ} {H : Heap} {locs : List Loc} {ls : Array Slot} (h : lSt Z s b k k nT nK cT cK ad g q H locs ls) : W p l e room_1 s m #[Value.ref b] below meth c H locs (100 + 16 * k) (4000 + 200 * k) (lw_Z below #[Value.ref b] s) (F0 m 1875 ls []) := by
  obtain ⟨hx, hb, hr, hml, hown, hts, hX, hbl, hlocks, hZ, hE, hNc, hfl⟩ := hC
  obtain ⟨hP, hI, h70, h71, hS, hl⟩ := h
  have hbA : ¬ sy_A Z b := fun z => absurd (show Z.2.2.1 ≤ b from z) (by omega)
  have hkB : k * oB ≤ 2048000000 := by
    have : k ≤ 511 := by omega
    calc k * oB ≤ 511 * 4000000 := Nat.mul_le_mul this (Nat.le_refl _)
      _ ≤ 2048000000 := by decide
  refine lv_aload_n hx hb dL_law_1875 rfl (lv_at hl 2 rfl) ?_
  refine lv_aload_n hx hb dL_law_1876 rfl (lv_at hl 1 rfl) ?_
  refine lv_iload hx hb dL_law_1877 (lv_at hl 0 rfl) ?_
  refine lv_iconst (v := 1) hx hb dL_law_1879 (by decide) ?_
  refine lv_iadd hx hb dL_law_1880 ?_
  refine sy_top (y := nI (7 * k + 1)) (nI_add _ _) ?_
  refine va_sld hx hb hX hbl hbA hS (vp_in_nI (show 7 * k + 1 < L by omega) (by omega)) dL_law_1881 ?_
  refine sy_top (y := xs (7 * k + 1)) (by rw [nI_clamp (by omega)]) ?_
  refine lv_aload_n hx hb dL_law_1882 rfl (lv_at hl 1 rfl) ?_
  refine lv_iload hx hb dL_law_1883 (lv_at hl 0 rfl) ?_
  refine lv_iconst (v := 2) hx hb dL_law_1885 (by decide) ?_
  refine lv_iadd hx hb dL_law_1886 ?_
  refine sy_top (y := nI (7 * k + 2)) (nI_add _ _) ?_
  refine va_sld hx hb hX hbl hbA hS (vp_in_nI (show 7 * k + 2 < L by omega) (by omega)) dL_law_1887 ?_
  refine sy_top (y := xs (7 * k + 2)) (by rw [nI_clamp (by omega)]) ?_
  refine lv_aload_n hx hb dL_law_1888 rfl (lv_at hl 4 rfl) ?_
  have hCode : wf 1 2 9 (fX6_thingOf g q (xs (7 * k + 1)) (xs (7 * k + 2))).1 ≠ 9 := (by
        by_cases z : (fX6_thingOf g q (xs (7 * k + 1)) (xs (7 * k + 2))).1 = 0
        · rw [z]; exact (by decide : (0 : Int32) ≠ 9)
        · exact (st_no hI (fun gm hg => o_thingOf (q' := (fX6_thingOf g q (xs (7 * k + 1)) (xs (7 * k + 2))).2.2.2) hg (xs (7 * k + 1)) (xs (7 * k + 2))) n6_thingOf (fun gm => f7_thingOf) z).2.1)
  refine va_calli (vx_runSW (As := [.ref (ad 60), .int (xs (7 * k + 1)), .int (xs (7 * k + 2)), .ref (ad 90)]) (rest := []) ⟨hx, hb, hml, hown, hts⟩ (mL_thingOf l hfl Z nT nK cT cK ad g q (xs (7 * k + 1)) (xs (7 * k + 2)) (by have := inv_T hI; omega) (inv_IG hI) (inv_IQ hI) hCode) (vx_cwSW 4 hts (gl_S uk_4_137 uk_4_138 uk_1_0 uk_4_139) rfl rfl rfl (by decide +kernel) ⟨Nat.le_of_ble_eq_true rfl, Nat.le_of_ble_eq_true rfl⟩) ⟨sPreL_blind _, fun U hU hW => ⟨rfl, ⟨hE.next hS hU hW.alike, by rw [hU]; exact hP⟩, hNc.next hW.alike⟩⟩ rfl rfl hl.1 rfl (lv_room (Nat.le_of_ble_eq_true rfl)) dL_law_1889 ⟨by show _ ≤ 601024; (try dsimp only); omega, by show _ ≤ 7293034; (try dsimp only); omega⟩) hS (fun _ _ h => h) (fun _ h => h) (fun r u t H locs ht _ hp hB _ _ hS => ?_)
  obtain ⟨g1, q1⟩ := u
  have hP := hB.2
  rw [ht] at hP
  dsimp only at hp hP
  rcases hp with ⟨h0, rfl, rfl, rfl⟩ | ⟨h0, rfl, hg9, hq9⟩
  · refine lv_istore (lv' := [(5, .int 0), (4, .int (nI (7 * k))), (0, .ref b), (1, .ref (ad 60)), (2, .ref (ad 0)), (3, .ref (ad 90))]) hx hb dL_law_1892 hl (by decide) rfl (fun ls hl => ?_)
    have st := st_yes hI (F := fun gm => fX7_thingOf gm (fX6_thingOf g q (xs (7 * k + 1)) (xs (7 * k + 2))).2.2.2 (xs (7 * k + 1)) (xs (7 * k + 2))) (fun gm hg => o_thingOf (q' := (fX6_thingOf g q (xs (7 * k + 1)) (xs (7 * k + 2))).2.2.2) hg (xs (7 * k + 1)) (xs (7 * k + 2))) f6_thingOf (fun gm => f7_thingOf) h0
    try dsimp only at st
    refine lv_aload_n hx hb dL_law_1894 rfl (lv_at hl 4 rfl) ?_
    refine lv_aload_n hx hb dL_law_1895 rfl (lv_at hl 2 rfl) ?_
    refine lv_iload hx hb dL_law_1896 (lv_at hl 1 rfl) ?_
    refine lv_iconst (v := 1) hx hb dL_law_1898 (by decide) ?_
    refine lv_iadd hx hb dL_law_1899 ?_
    refine sy_top (y := nI (7 * k + 1)) (nI_add _ _) ?_
    refine va_sld hx hb hX hbl hbA hS (vp_in_nI (show 7 * k + 1 < L by omega) (by omega)) dL_law_1900 ?_
    refine sy_top (y := xs (7 * k + 1)) (by rw [nI_clamp (by omega)]) ?_
    refine lv_aload_n hx hb dL_law_1901 rfl (lv_at hl 2 rfl) ?_
    refine lv_iload hx hb dL_law_1902 (lv_at hl 1 rfl) ?_
    refine lv_iconst (v := 2) hx hb dL_law_1904 (by decide) ?_
    refine lv_iadd hx hb dL_law_1905 ?_
    refine sy_top (y := nI (7 * k + 2)) (nI_add _ _) ?_
    refine va_sld hx hb hX hbl hbA hS (vp_in_nI (show 7 * k + 2 < L by omega) (by omega)) dL_law_1906 ?_
    refine sy_top (y := xs (7 * k + 2)) (by rw [nI_clamp (by omega)]) ?_
    refine sy_ki (sy_rV (o := 0) (As := [.int (xs (7 * k + 1)), .int (xs (7 * k + 2))]) (rest := []) ⟨hx, hb, hml, hown, hts⟩ hE hP hS (mX7_thingOf l hfl Z nT nK cT cK ad (sy_up (fX6_thingOf g q (xs (7 * k + 1)) (xs (7 * k + 2))).2.2.1 90 0 (fX6_thingOf g q (xs (7 * k + 1)) (xs (7 * k + 2))).2.1) (fX6_thingOf g q (xs (7 * k + 1)) (xs (7 * k + 2))).2.2.2 (xs (7 * k + 1)) (xs (7 * k + 2)) st.1.2.1) (cwV 2 hts (gl_V uk_6_30 uk_6_31 uk_6_32 uk_1_9 uk_6_33) rfl rfl rfl (by decide +kernel) ⟨Nat.le_of_ble_eq_true rfl, Nat.le_of_ble_eq_true rfl⟩) (sy_recv (kc := 8) hE hP rfl (by decide) rfl rfl rfl) rfl hl.1 rfl (Nat.le_of_ble_eq_true rfl) dL_law_1907 ⟨by show _ ≤ 601024; (try dsimp only); omega, by show _ ≤ 7293034; (try dsimp only); omega⟩) hS (fun b2 g2 q2 H locs e2 hP hS => ?_)
    obtain ⟨rfl, rfl, rfl⟩ : (fX7_thingOf (sy_up (fX6_thingOf g q (xs (7 * k + 1)) (xs (7 * k + 2))).2.2.1 90 0 (fX6_thingOf g q (xs (7 * k + 1)) (xs (7 * k + 2))).2.1) (fX6_thingOf g q (xs (7 * k + 1)) (xs (7 * k + 2))).2.2.2 (xs (7 * k + 1)) (xs (7 * k + 2))).1 = b2 ∧ (fX7_thingOf (sy_up (fX6_thingOf g q (xs (7 * k + 1)) (xs (7 * k + 2))).2.2.1 90 0 (fX6_thingOf g q (xs (7 * k + 1)) (xs (7 * k + 2))).2.1) (fX6_thingOf g q (xs (7 * k + 1)) (xs (7 * k + 2))).2.2.2 (xs (7 * k + 1)) (xs (7 * k + 2))).2 = g2 ∧ (fX6_thingOf g q (xs (7 * k + 1)) (xs (7 * k + 2))).2.2.2 = q2 := by cases e2; exact ⟨rfl, rfl, rfl⟩
    refine lv_istore (lv' := [(6, .int (fX7_thingOf (sy_up (fX6_thingOf g q (xs (7 * k + 1)) (xs (7 * k + 2))).2.2.1 90 0 (fX6_thingOf g q (xs (7 * k + 1)) (xs (7 * k + 2))).2.1) (fX6_thingOf g q (xs (7 * k + 1)) (xs (7 * k + 2))).2.2.2 (xs (7 * k + 1)) (xs (7 * k + 2))).1), (5, .int 0), (4, .int (nI (7 * k))), (0, .ref b), (1, .ref (ad 60)), (2, .ref (ad 0)), (3, .ref (ad 90))]) hx hb dL_law_1910 hl (by decide) rfl (fun ls hl => ?_)
    refine lv_aload_n hx hb dL_law_1912 rfl (lv_at hl 5 rfl) ?_
    refine sy_ki (sy_rV (o := 0) (As := []) (rest := []) ⟨hx, hb, hml, hown, hts⟩ hE hP hS (mX7_thrown l hfl Z nT nK cT cK ad (fX7_thingOf (sy_up (fX6_thingOf g q (xs (7 * k + 1)) (xs (7 * k + 2))).2.2.1 90 0 (fX6_thingOf g q (xs (7 * k + 1)) (xs (7 * k + 2))).2.1) (fX6_thingOf g q (xs (7 * k + 1)) (xs (7 * k + 2))).2.2.2 (xs (7 * k + 1)) (xs (7 * k + 2))).2 (fX6_thingOf g q (xs (7 * k + 1)) (xs (7 * k + 2))).2.2.2) (cwV 0 hts (gl_V uk_5_93 uk_5_94 uk_5_95 uk_1_9 uk_5_96) rfl rfl rfl (by decide +kernel) ⟨Nat.le_of_ble_eq_true rfl, Nat.le_of_ble_eq_true rfl⟩) (sy_recv (kc := 8) hE hP rfl (by decide) rfl rfl rfl) rfl hl.1 rfl (Nat.le_of_ble_eq_true rfl) dL_law_1913 ⟨by show _ ≤ 601024; (try dsimp only); omega, by show _ ≤ 7293034; (try dsimp only); omega⟩) hS (fun b3 g3 q3 H locs e3 hP hS => ?_)
    obtain ⟨rfl, rfl, rfl⟩ : (fX7_thingOf (sy_up (fX6_thingOf g q (xs (7 * k + 1)) (xs (7 * k + 2))).2.2.1 90 0 (fX6_thingOf g q (xs (7 * k + 1)) (xs (7 * k + 2))).2.1) (fX6_thingOf g q (xs (7 * k + 1)) (xs (7 * k + 2))).2.2.2 (xs (7 * k + 1)) (xs (7 * k + 2))).2 0 0 = b3 ∧ (fX7_thingOf (sy_up (fX6_thingOf g q (xs (7 * k + 1)) (xs (7 * k + 2))).2.2.1 90 0 (fX6_thingOf g q (xs (7 * k + 1)) (xs (7 * k + 2))).2.1) (fX6_thingOf g q (xs (7 * k + 1)) (xs (7 * k + 2))).2.2.2 (xs (7 * k + 1)) (xs (7 * k + 2))).2 = g3 ∧ (fX6_thingOf g q (xs (7 * k + 1)) (xs (7 * k + 2))).2.2.2 = q3 := by cases e3; exact ⟨rfl, rfl, rfl⟩
    refine sy_top (y := 0) st.2.1 ?_
    refine lv_iload hx hb dL_law_1916 (lv_at hl 1 rfl) ?_
    refine lv_icmp_eq (tgt := 1923) hx hb dL_law_1918 (by decide) (fun _ => ?_) (fun c9 => absurd rfl c9)
    refine lv_iload hx hb dL_law_1923 (lv_at hl 1 rfl) ?_
    refine lv_if_ne (tgt := 1940) hx hb dL_law_1925 (by decide) (fun c9 => absurd rfl c9) (fun _ => ?_)
    refine lv_aload_n hx hb dL_law_1928 rfl (lv_at hl 6 rfl) ?_
    refine lv_iconst (v := 0) hx hb dL_law_1929 (by decide) ?_
    refine sy_lald hx hb hE hP 90 rfl (i := 0) (k_in rfl) dL_law_1930 ?_
    refine lv_iload hx hb dL_law_1931 (lv_at hl 0 rfl) ?_
    refine lv_i2l (v := ((fX7_thingOf (sy_up (fX6_thingOf g q (xs (7 * k + 1)) (xs (7 * k + 2))).2.2.1 90 0 (fX6_thingOf g q (xs (7 * k + 1)) (xs (7 * k + 2))).2.1) (fX6_thingOf g q (xs (7 * k + 1)) (xs (7 * k + 2))).2.2.2 (xs (7 * k + 1)) (xs (7 * k + 2))).2 90 0).toInt64) hx hb dL_law_1933 (by rw [st.2.2.2.1, st.2.2.1]) ?_
    refine lv_lcmp0 hx hb dL_law_1934 ?_
    refine lv_if_eq (tgt := 1940) hx hb dL_law_1935 (by decide) (fun _ => ?_) (fun c9 => absurd rfl c9)
    refine lv_goto (tgt := 2272) hx hb dL_law_1940 (by decide) ?_
    refine W.widen (k := 100 + 16 * (k + 1)) (n := 4000 + 200 * (k + 1)) (by (try dsimp only); omega) (by (try dsimp only); omega) ?_
    exact hJ _ _ _ _ _ _ _ _ _ _ ⟨hP, by rw [Nat.succ_mul]; exact st.2.2.2.2, h70, h71, hS, lv_sub hl [2, 3, 4, 5, 6] rfl⟩
  · replace hg9 := hg9.symm
    replace hq9 := hq9.symm
    subst hg9
    subst hq9
    refine lv_istore (lv' := [(5, .int (wf 1 2 9 (fX6_thingOf g q (xs (7 * k + 1)) (xs (7 * k + 2))).1)), (4, .int (nI (7 * k))), (0, .ref b), (1, .ref (ad 60)), (2, .ref (ad 0)), (3, .ref (ad 90))]) hx hb dL_law_1892 hl (by decide) rfl (fun ls hl => ?_)
    have st := st_no hI (F := fun gm => fX7_thingOf gm q (xs (7 * k + 1)) (xs (7 * k + 2))) (fun gm hg => o_thingOf (q' := q) hg (xs (7 * k + 1)) (xs (7 * k + 2))) n6_thingOf (fun gm => f7_thingOf) h0
    try dsimp only at st
    refine lv_aload_n hx hb dL_law_1894 rfl (lv_at hl 4 rfl) ?_
    refine lv_aload_n hx hb dL_law_1895 rfl (lv_at hl 2 rfl) ?_
    refine lv_iload hx hb dL_law_1896 (lv_at hl 1 rfl) ?_
    refine lv_iconst (v := 1) hx hb dL_law_1898 (by decide) ?_
    refine lv_iadd hx hb dL_law_1899 ?_
    refine sy_top (y := nI (7 * k + 1)) (nI_add _ _) ?_
    refine va_sld hx hb hX hbl hbA hS (vp_in_nI (show 7 * k + 1 < L by omega) (by omega)) dL_law_1900 ?_
    refine sy_top (y := xs (7 * k + 1)) (by rw [nI_clamp (by omega)]) ?_
    refine lv_aload_n hx hb dL_law_1901 rfl (lv_at hl 2 rfl) ?_
    refine lv_iload hx hb dL_law_1902 (lv_at hl 1 rfl) ?_
    refine lv_iconst (v := 2) hx hb dL_law_1904 (by decide) ?_
    refine lv_iadd hx hb dL_law_1905 ?_
    refine sy_top (y := nI (7 * k + 2)) (nI_add _ _) ?_
    refine va_sld hx hb hX hbl hbA hS (vp_in_nI (show 7 * k + 2 < L by omega) (by omega)) dL_law_1906 ?_
    refine sy_top (y := xs (7 * k + 2)) (by rw [nI_clamp (by omega)]) ?_
    refine sy_ki (sy_rV (o := 0) (As := [.int (xs (7 * k + 1)), .int (xs (7 * k + 2))]) (rest := []) ⟨hx, hb, hml, hown, hts⟩ hE hP hS (mX7_thingOf l hfl Z nT nK cT cK ad g q (xs (7 * k + 1)) (xs (7 * k + 2)) hI.2.1) (cwV 2 hts (gl_V uk_6_30 uk_6_31 uk_6_32 uk_1_9 uk_6_33) rfl rfl rfl (by decide +kernel) ⟨Nat.le_of_ble_eq_true rfl, Nat.le_of_ble_eq_true rfl⟩) (sy_recv (kc := 8) hE hP rfl (by decide) rfl rfl rfl) rfl hl.1 rfl (Nat.le_of_ble_eq_true rfl) dL_law_1907 ⟨by show _ ≤ 601024; (try dsimp only); omega, by show _ ≤ 7293034; (try dsimp only); omega⟩) hS (fun b2 g2 q2 H locs e2 hP hS => ?_)
    obtain ⟨rfl, rfl, rfl⟩ : (fX7_thingOf g q (xs (7 * k + 1)) (xs (7 * k + 2))).1 = b2 ∧ (fX7_thingOf g q (xs (7 * k + 1)) (xs (7 * k + 2))).2 = g2 ∧ q = q2 := by cases e2; exact ⟨rfl, rfl, rfl⟩
    refine lv_istore (lv' := [(6, .int (fX7_thingOf g q (xs (7 * k + 1)) (xs (7 * k + 2))).1), (5, .int (wf 1 2 9 (fX6_thingOf g q (xs (7 * k + 1)) (xs (7 * k + 2))).1)), (4, .int (nI (7 * k))), (0, .ref b), (1, .ref (ad 60)), (2, .ref (ad 0)), (3, .ref (ad 90))]) hx hb dL_law_1910 hl (by decide) rfl (fun ls hl => ?_)
    refine lv_aload_n hx hb dL_law_1912 rfl (lv_at hl 5 rfl) ?_
    refine sy_ki (sy_rV (o := 0) (As := []) (rest := []) ⟨hx, hb, hml, hown, hts⟩ hE hP hS (mX7_thrown l hfl Z nT nK cT cK ad (fX7_thingOf g q (xs (7 * k + 1)) (xs (7 * k + 2))).2 q) (cwV 0 hts (gl_V uk_5_93 uk_5_94 uk_5_95 uk_1_9 uk_5_96) rfl rfl rfl (by decide +kernel) ⟨Nat.le_of_ble_eq_true rfl, Nat.le_of_ble_eq_true rfl⟩) (sy_recv (kc := 8) hE hP rfl (by decide) rfl rfl rfl) rfl hl.1 rfl (Nat.le_of_ble_eq_true rfl) dL_law_1913 ⟨by show _ ≤ 601024; (try dsimp only); omega, by show _ ≤ 7293034; (try dsimp only); omega⟩) hS (fun b3 g3 q3 H locs e3 hP hS => ?_)
    obtain ⟨rfl, rfl, rfl⟩ : (fX7_thingOf g q (xs (7 * k + 1)) (xs (7 * k + 2))).2 0 0 = b3 ∧ (fX7_thingOf g q (xs (7 * k + 1)) (xs (7 * k + 2))).2 = g3 ∧ q = q3 := by cases e3; exact ⟨rfl, rfl, rfl⟩
    refine sy_top (y := (wf 1 2 9 (fX6_thingOf g q (xs (7 * k + 1)) (xs (7 * k + 2))).1)) st.1 ?_
    refine lv_iload hx hb dL_law_1916 (lv_at hl 1 rfl) ?_
    refine lv_icmp_eq (tgt := 1923) hx hb dL_law_1918 (by decide) (fun _ => ?_) (fun c9 => absurd rfl c9)
    refine lv_iload hx hb dL_law_1923 (lv_at hl 1 rfl) ?_
    refine lv_if_ne (tgt := 1940) hx hb dL_law_1925 (by decide) (fun _ => ?_) (fun c9 => absurd c9 ((wf_ne h0 hCode).resolve_right (by decide)))
    refine lv_goto (tgt := 2272) hx hb dL_law_1940 (by decide) ?_
    refine W.widen (k := 100 + 16 * (k + 1)) (n := 4000 + 200 * (k + 1)) (by (try dsimp only); omega) (by (try dsimp only); omega) ?_
    exact hJ _ _ _ _ _ _ _ _ _ _ ⟨hP, by rw [Nat.succ_mul]; exact st.2.2, h70, h71, hS, lv_sub hl [2, 3, 4, 5, 6] rfl⟩
set_option maxHeartbeats 8000000 in
set_option maxRecDepth 100000 in
theorem lc_ticketOf (hC : lCtx p l s m meth c b L xs Z) {k : Nat} (hk : 7 * k + 7 ≤ L) (hL : L ≤ 3584) (hJ : ∀ (nT nK cT cK : Nat) (ad : Nat → Nat) (g : sG) (q : sQ) (H : Heap) (locs : List Loc) (ls : Array Slot), lSt Z s b k (k + 1) nT nK cT cK ad g q H locs ls → W p l e room_1 s m #[Value.ref b] below meth c H locs (100 + 16 * (k + 1)) (4000 + 200 * (k + 1)) (lw_Z below #[Value.ref b] s) (F0 m 2272 ls []))
    {nT nK cT cK : Nat} {ad : Nat → Nat} {g : sG} {q : sQ} {H : Heap} {locs : List Loc} {ls : Array Slot} (h : lSt Z s b k k nT nK cT cK ad g q H locs ls) : W p l e room_1 s m #[Value.ref b] below meth c H locs (100 + 16 * k) (4000 + 200 * k) (lw_Z below #[Value.ref b] s) (F0 m 1943 ls []) := by
  obtain ⟨hx, hb, hr, hml, hown, hts, hX, hbl, hlocks, hZ, hE, hNc, hfl⟩ := hC
  obtain ⟨hP, hI, h70, h71, hS, hl⟩ := h
  have hbA : ¬ sy_A Z b := fun z => absurd (show Z.2.2.1 ≤ b from z) (by omega)
  have hkB : k * oB ≤ 2048000000 := by
    have : k ≤ 511 := by omega
    calc k * oB ≤ 511 * 4000000 := Nat.mul_le_mul this (Nat.le_refl _)
      _ ≤ 2048000000 := by decide
  refine lv_aload_n hx hb dL_law_1943 rfl (lv_at hl 2 rfl) ?_
  refine lv_aload_n hx hb dL_law_1944 rfl (lv_at hl 1 rfl) ?_
  refine lv_iload hx hb dL_law_1945 (lv_at hl 0 rfl) ?_
  refine lv_iconst (v := 1) hx hb dL_law_1947 (by decide) ?_
  refine lv_iadd hx hb dL_law_1948 ?_
  refine sy_top (y := nI (7 * k + 1)) (nI_add _ _) ?_
  refine va_sld hx hb hX hbl hbA hS (vp_in_nI (show 7 * k + 1 < L by omega) (by omega)) dL_law_1949 ?_
  refine sy_top (y := xs (7 * k + 1)) (by rw [nI_clamp (by omega)]) ?_
  refine lv_aload_n hx hb dL_law_1950 rfl (lv_at hl 1 rfl) ?_
  refine lv_iload hx hb dL_law_1951 (lv_at hl 0 rfl) ?_
  refine lv_iconst (v := 2) hx hb dL_law_1953 (by decide) ?_
  refine lv_iadd hx hb dL_law_1954 ?_
  refine sy_top (y := nI (7 * k + 2)) (nI_add _ _) ?_
  refine va_sld hx hb hX hbl hbA hS (vp_in_nI (show 7 * k + 2 < L by omega) (by omega)) dL_law_1955 ?_
  refine sy_top (y := xs (7 * k + 2)) (by rw [nI_clamp (by omega)]) ?_
  refine lv_aload_n hx hb dL_law_1956 rfl (lv_at hl 4 rfl) ?_
  have hCode : wf 1 2 9 (fX6_ticketOf g q (xs (7 * k + 1)) (xs (7 * k + 2))).1 ≠ 9 := (by
        by_cases z : (fX6_ticketOf g q (xs (7 * k + 1)) (xs (7 * k + 2))).1 = 0
        · rw [z]; exact (by decide : (0 : Int32) ≠ 9)
        · exact (st_no hI (fun gm hg => o_ticketOf (q' := (fX6_ticketOf g q (xs (7 * k + 1)) (xs (7 * k + 2))).2.2.2) hg (xs (7 * k + 1)) (xs (7 * k + 2))) n6_ticketOf (fun gm => f7_ticketOf) z).2.1)
  refine va_calli (vx_runSW (As := [.ref (ad 60), .int (xs (7 * k + 1)), .int (xs (7 * k + 2)), .ref (ad 90)]) (rest := []) ⟨hx, hb, hml, hown, hts⟩ (mL_ticketOf l hfl Z nT nK cT cK ad g q (xs (7 * k + 1)) (xs (7 * k + 2)) (by have := inv_T hI; omega) (inv_IG hI) (inv_IQ hI) hCode) (vx_cwSW 4 hts (gl_S uk_4_144 uk_4_145 uk_1_0 uk_4_146) rfl rfl rfl (by decide +kernel) ⟨Nat.le_of_ble_eq_true rfl, Nat.le_of_ble_eq_true rfl⟩) ⟨sPreL_blind _, fun U hU hW => ⟨rfl, ⟨hE.next hS hU hW.alike, by rw [hU]; exact hP⟩, hNc.next hW.alike⟩⟩ rfl rfl hl.1 rfl (lv_room (Nat.le_of_ble_eq_true rfl)) dL_law_1957 ⟨by show _ ≤ 601024; (try dsimp only); omega, by show _ ≤ 7293034; (try dsimp only); omega⟩) hS (fun _ _ h => h) (fun _ h => h) (fun r u t H locs ht _ hp hB _ _ hS => ?_)
  obtain ⟨g1, q1⟩ := u
  have hP := hB.2
  rw [ht] at hP
  dsimp only at hp hP
  rcases hp with ⟨h0, rfl, rfl, rfl⟩ | ⟨h0, rfl, hg9, hq9⟩
  · refine lv_istore (lv' := [(5, .int 0), (4, .int (nI (7 * k))), (0, .ref b), (1, .ref (ad 60)), (2, .ref (ad 0)), (3, .ref (ad 90))]) hx hb dL_law_1960 hl (by decide) rfl (fun ls hl => ?_)
    have st := st_yes hI (F := fun gm => fX7_ticketOf gm (fX6_ticketOf g q (xs (7 * k + 1)) (xs (7 * k + 2))).2.2.2 (xs (7 * k + 1)) (xs (7 * k + 2))) (fun gm hg => o_ticketOf (q' := (fX6_ticketOf g q (xs (7 * k + 1)) (xs (7 * k + 2))).2.2.2) hg (xs (7 * k + 1)) (xs (7 * k + 2))) f6_ticketOf (fun gm => f7_ticketOf) h0
    try dsimp only at st
    refine lv_aload_n hx hb dL_law_1962 rfl (lv_at hl 4 rfl) ?_
    refine lv_aload_n hx hb dL_law_1963 rfl (lv_at hl 2 rfl) ?_
    refine lv_iload hx hb dL_law_1964 (lv_at hl 1 rfl) ?_
    refine lv_iconst (v := 1) hx hb dL_law_1966 (by decide) ?_
    refine lv_iadd hx hb dL_law_1967 ?_
    refine sy_top (y := nI (7 * k + 1)) (nI_add _ _) ?_
    refine va_sld hx hb hX hbl hbA hS (vp_in_nI (show 7 * k + 1 < L by omega) (by omega)) dL_law_1968 ?_
    refine sy_top (y := xs (7 * k + 1)) (by rw [nI_clamp (by omega)]) ?_
    refine lv_aload_n hx hb dL_law_1969 rfl (lv_at hl 2 rfl) ?_
    refine lv_iload hx hb dL_law_1970 (lv_at hl 1 rfl) ?_
    refine lv_iconst (v := 2) hx hb dL_law_1972 (by decide) ?_
    refine lv_iadd hx hb dL_law_1973 ?_
    refine sy_top (y := nI (7 * k + 2)) (nI_add _ _) ?_
    refine va_sld hx hb hX hbl hbA hS (vp_in_nI (show 7 * k + 2 < L by omega) (by omega)) dL_law_1974 ?_
    refine sy_top (y := xs (7 * k + 2)) (by rw [nI_clamp (by omega)]) ?_
    refine sy_ki (sy_rV (o := 0) (As := [.int (xs (7 * k + 1)), .int (xs (7 * k + 2))]) (rest := []) ⟨hx, hb, hml, hown, hts⟩ hE hP hS (mX7_ticketOf l hfl Z nT nK cT cK ad (sy_up (fX6_ticketOf g q (xs (7 * k + 1)) (xs (7 * k + 2))).2.2.1 90 0 (fX6_ticketOf g q (xs (7 * k + 1)) (xs (7 * k + 2))).2.1) (fX6_ticketOf g q (xs (7 * k + 1)) (xs (7 * k + 2))).2.2.2 (xs (7 * k + 1)) (xs (7 * k + 2)) st.1.2.1) (cwV 2 hts (gl_V uk_6_34 uk_6_35 uk_6_36 uk_1_9 uk_6_37) rfl rfl rfl (by decide +kernel) ⟨Nat.le_of_ble_eq_true rfl, Nat.le_of_ble_eq_true rfl⟩) (sy_recv (kc := 8) hE hP rfl (by decide) rfl rfl rfl) rfl hl.1 rfl (Nat.le_of_ble_eq_true rfl) dL_law_1975 ⟨by show _ ≤ 601024; (try dsimp only); omega, by show _ ≤ 7293034; (try dsimp only); omega⟩) hS (fun b2 g2 q2 H locs e2 hP hS => ?_)
    obtain ⟨rfl, rfl, rfl⟩ : (fX7_ticketOf (sy_up (fX6_ticketOf g q (xs (7 * k + 1)) (xs (7 * k + 2))).2.2.1 90 0 (fX6_ticketOf g q (xs (7 * k + 1)) (xs (7 * k + 2))).2.1) (fX6_ticketOf g q (xs (7 * k + 1)) (xs (7 * k + 2))).2.2.2 (xs (7 * k + 1)) (xs (7 * k + 2))).1 = b2 ∧ (fX7_ticketOf (sy_up (fX6_ticketOf g q (xs (7 * k + 1)) (xs (7 * k + 2))).2.2.1 90 0 (fX6_ticketOf g q (xs (7 * k + 1)) (xs (7 * k + 2))).2.1) (fX6_ticketOf g q (xs (7 * k + 1)) (xs (7 * k + 2))).2.2.2 (xs (7 * k + 1)) (xs (7 * k + 2))).2 = g2 ∧ (fX6_ticketOf g q (xs (7 * k + 1)) (xs (7 * k + 2))).2.2.2 = q2 := by cases e2; exact ⟨rfl, rfl, rfl⟩
    refine lv_istore (lv' := [(6, .int (fX7_ticketOf (sy_up (fX6_ticketOf g q (xs (7 * k + 1)) (xs (7 * k + 2))).2.2.1 90 0 (fX6_ticketOf g q (xs (7 * k + 1)) (xs (7 * k + 2))).2.1) (fX6_ticketOf g q (xs (7 * k + 1)) (xs (7 * k + 2))).2.2.2 (xs (7 * k + 1)) (xs (7 * k + 2))).1), (5, .int 0), (4, .int (nI (7 * k))), (0, .ref b), (1, .ref (ad 60)), (2, .ref (ad 0)), (3, .ref (ad 90))]) hx hb dL_law_1978 hl (by decide) rfl (fun ls hl => ?_)
    refine lv_aload_n hx hb dL_law_1980 rfl (lv_at hl 5 rfl) ?_
    refine sy_ki (sy_rV (o := 0) (As := []) (rest := []) ⟨hx, hb, hml, hown, hts⟩ hE hP hS (mX7_thrown l hfl Z nT nK cT cK ad (fX7_ticketOf (sy_up (fX6_ticketOf g q (xs (7 * k + 1)) (xs (7 * k + 2))).2.2.1 90 0 (fX6_ticketOf g q (xs (7 * k + 1)) (xs (7 * k + 2))).2.1) (fX6_ticketOf g q (xs (7 * k + 1)) (xs (7 * k + 2))).2.2.2 (xs (7 * k + 1)) (xs (7 * k + 2))).2 (fX6_ticketOf g q (xs (7 * k + 1)) (xs (7 * k + 2))).2.2.2) (cwV 0 hts (gl_V uk_5_93 uk_5_94 uk_5_95 uk_1_9 uk_5_96) rfl rfl rfl (by decide +kernel) ⟨Nat.le_of_ble_eq_true rfl, Nat.le_of_ble_eq_true rfl⟩) (sy_recv (kc := 8) hE hP rfl (by decide) rfl rfl rfl) rfl hl.1 rfl (Nat.le_of_ble_eq_true rfl) dL_law_1981 ⟨by show _ ≤ 601024; (try dsimp only); omega, by show _ ≤ 7293034; (try dsimp only); omega⟩) hS (fun b3 g3 q3 H locs e3 hP hS => ?_)
    obtain ⟨rfl, rfl, rfl⟩ : (fX7_ticketOf (sy_up (fX6_ticketOf g q (xs (7 * k + 1)) (xs (7 * k + 2))).2.2.1 90 0 (fX6_ticketOf g q (xs (7 * k + 1)) (xs (7 * k + 2))).2.1) (fX6_ticketOf g q (xs (7 * k + 1)) (xs (7 * k + 2))).2.2.2 (xs (7 * k + 1)) (xs (7 * k + 2))).2 0 0 = b3 ∧ (fX7_ticketOf (sy_up (fX6_ticketOf g q (xs (7 * k + 1)) (xs (7 * k + 2))).2.2.1 90 0 (fX6_ticketOf g q (xs (7 * k + 1)) (xs (7 * k + 2))).2.1) (fX6_ticketOf g q (xs (7 * k + 1)) (xs (7 * k + 2))).2.2.2 (xs (7 * k + 1)) (xs (7 * k + 2))).2 = g3 ∧ (fX6_ticketOf g q (xs (7 * k + 1)) (xs (7 * k + 2))).2.2.2 = q3 := by cases e3; exact ⟨rfl, rfl, rfl⟩
    refine sy_top (y := 0) st.2.1 ?_
    refine lv_iload hx hb dL_law_1984 (lv_at hl 1 rfl) ?_
    refine lv_icmp_eq (tgt := 1991) hx hb dL_law_1986 (by decide) (fun _ => ?_) (fun c9 => absurd rfl c9)
    refine lv_iload hx hb dL_law_1991 (lv_at hl 1 rfl) ?_
    refine lv_if_ne (tgt := 2008) hx hb dL_law_1993 (by decide) (fun c9 => absurd rfl c9) (fun _ => ?_)
    refine lv_aload_n hx hb dL_law_1996 rfl (lv_at hl 6 rfl) ?_
    refine lv_iconst (v := 0) hx hb dL_law_1997 (by decide) ?_
    refine sy_lald hx hb hE hP 90 rfl (i := 0) (k_in rfl) dL_law_1998 ?_
    refine lv_iload hx hb dL_law_1999 (lv_at hl 0 rfl) ?_
    refine lv_i2l (v := ((fX7_ticketOf (sy_up (fX6_ticketOf g q (xs (7 * k + 1)) (xs (7 * k + 2))).2.2.1 90 0 (fX6_ticketOf g q (xs (7 * k + 1)) (xs (7 * k + 2))).2.1) (fX6_ticketOf g q (xs (7 * k + 1)) (xs (7 * k + 2))).2.2.2 (xs (7 * k + 1)) (xs (7 * k + 2))).2 90 0).toInt64) hx hb dL_law_2001 (by rw [st.2.2.2.1, st.2.2.1]) ?_
    refine lv_lcmp0 hx hb dL_law_2002 ?_
    refine lv_if_eq (tgt := 2008) hx hb dL_law_2003 (by decide) (fun _ => ?_) (fun c9 => absurd rfl c9)
    refine lv_goto (tgt := 2272) hx hb dL_law_2008 (by decide) ?_
    refine W.widen (k := 100 + 16 * (k + 1)) (n := 4000 + 200 * (k + 1)) (by (try dsimp only); omega) (by (try dsimp only); omega) ?_
    exact hJ _ _ _ _ _ _ _ _ _ _ ⟨hP, by rw [Nat.succ_mul]; exact st.2.2.2.2, h70, h71, hS, lv_sub hl [2, 3, 4, 5, 6] rfl⟩
  · replace hg9 := hg9.symm
    replace hq9 := hq9.symm
    subst hg9
    subst hq9
    refine lv_istore (lv' := [(5, .int (wf 1 2 9 (fX6_ticketOf g q (xs (7 * k + 1)) (xs (7 * k + 2))).1)), (4, .int (nI (7 * k))), (0, .ref b), (1, .ref (ad 60)), (2, .ref (ad 0)), (3, .ref (ad 90))]) hx hb dL_law_1960 hl (by decide) rfl (fun ls hl => ?_)
    have st := st_no hI (F := fun gm => fX7_ticketOf gm q (xs (7 * k + 1)) (xs (7 * k + 2))) (fun gm hg => o_ticketOf (q' := q) hg (xs (7 * k + 1)) (xs (7 * k + 2))) n6_ticketOf (fun gm => f7_ticketOf) h0
    try dsimp only at st
    refine lv_aload_n hx hb dL_law_1962 rfl (lv_at hl 4 rfl) ?_
    refine lv_aload_n hx hb dL_law_1963 rfl (lv_at hl 2 rfl) ?_
    refine lv_iload hx hb dL_law_1964 (lv_at hl 1 rfl) ?_
    refine lv_iconst (v := 1) hx hb dL_law_1966 (by decide) ?_
    refine lv_iadd hx hb dL_law_1967 ?_
    refine sy_top (y := nI (7 * k + 1)) (nI_add _ _) ?_
    refine va_sld hx hb hX hbl hbA hS (vp_in_nI (show 7 * k + 1 < L by omega) (by omega)) dL_law_1968 ?_
    refine sy_top (y := xs (7 * k + 1)) (by rw [nI_clamp (by omega)]) ?_
    refine lv_aload_n hx hb dL_law_1969 rfl (lv_at hl 2 rfl) ?_
    refine lv_iload hx hb dL_law_1970 (lv_at hl 1 rfl) ?_
    refine lv_iconst (v := 2) hx hb dL_law_1972 (by decide) ?_
    refine lv_iadd hx hb dL_law_1973 ?_
    refine sy_top (y := nI (7 * k + 2)) (nI_add _ _) ?_
    refine va_sld hx hb hX hbl hbA hS (vp_in_nI (show 7 * k + 2 < L by omega) (by omega)) dL_law_1974 ?_
    refine sy_top (y := xs (7 * k + 2)) (by rw [nI_clamp (by omega)]) ?_
    refine sy_ki (sy_rV (o := 0) (As := [.int (xs (7 * k + 1)), .int (xs (7 * k + 2))]) (rest := []) ⟨hx, hb, hml, hown, hts⟩ hE hP hS (mX7_ticketOf l hfl Z nT nK cT cK ad g q (xs (7 * k + 1)) (xs (7 * k + 2)) hI.2.1) (cwV 2 hts (gl_V uk_6_34 uk_6_35 uk_6_36 uk_1_9 uk_6_37) rfl rfl rfl (by decide +kernel) ⟨Nat.le_of_ble_eq_true rfl, Nat.le_of_ble_eq_true rfl⟩) (sy_recv (kc := 8) hE hP rfl (by decide) rfl rfl rfl) rfl hl.1 rfl (Nat.le_of_ble_eq_true rfl) dL_law_1975 ⟨by show _ ≤ 601024; (try dsimp only); omega, by show _ ≤ 7293034; (try dsimp only); omega⟩) hS (fun b2 g2 q2 H locs e2 hP hS => ?_)
    obtain ⟨rfl, rfl, rfl⟩ : (fX7_ticketOf g q (xs (7 * k + 1)) (xs (7 * k + 2))).1 = b2 ∧ (fX7_ticketOf g q (xs (7 * k + 1)) (xs (7 * k + 2))).2 = g2 ∧ q = q2 := by cases e2; exact ⟨rfl, rfl, rfl⟩
    refine lv_istore (lv' := [(6, .int (fX7_ticketOf g q (xs (7 * k + 1)) (xs (7 * k + 2))).1), (5, .int (wf 1 2 9 (fX6_ticketOf g q (xs (7 * k + 1)) (xs (7 * k + 2))).1)), (4, .int (nI (7 * k))), (0, .ref b), (1, .ref (ad 60)), (2, .ref (ad 0)), (3, .ref (ad 90))]) hx hb dL_law_1978 hl (by decide) rfl (fun ls hl => ?_)
    refine lv_aload_n hx hb dL_law_1980 rfl (lv_at hl 5 rfl) ?_
    refine sy_ki (sy_rV (o := 0) (As := []) (rest := []) ⟨hx, hb, hml, hown, hts⟩ hE hP hS (mX7_thrown l hfl Z nT nK cT cK ad (fX7_ticketOf g q (xs (7 * k + 1)) (xs (7 * k + 2))).2 q) (cwV 0 hts (gl_V uk_5_93 uk_5_94 uk_5_95 uk_1_9 uk_5_96) rfl rfl rfl (by decide +kernel) ⟨Nat.le_of_ble_eq_true rfl, Nat.le_of_ble_eq_true rfl⟩) (sy_recv (kc := 8) hE hP rfl (by decide) rfl rfl rfl) rfl hl.1 rfl (Nat.le_of_ble_eq_true rfl) dL_law_1981 ⟨by show _ ≤ 601024; (try dsimp only); omega, by show _ ≤ 7293034; (try dsimp only); omega⟩) hS (fun b3 g3 q3 H locs e3 hP hS => ?_)
    obtain ⟨rfl, rfl, rfl⟩ : (fX7_ticketOf g q (xs (7 * k + 1)) (xs (7 * k + 2))).2 0 0 = b3 ∧ (fX7_ticketOf g q (xs (7 * k + 1)) (xs (7 * k + 2))).2 = g3 ∧ q = q3 := by cases e3; exact ⟨rfl, rfl, rfl⟩
    refine sy_top (y := (wf 1 2 9 (fX6_ticketOf g q (xs (7 * k + 1)) (xs (7 * k + 2))).1)) st.1 ?_
    refine lv_iload hx hb dL_law_1984 (lv_at hl 1 rfl) ?_
    refine lv_icmp_eq (tgt := 1991) hx hb dL_law_1986 (by decide) (fun _ => ?_) (fun c9 => absurd rfl c9)
    refine lv_iload hx hb dL_law_1991 (lv_at hl 1 rfl) ?_
    refine lv_if_ne (tgt := 2008) hx hb dL_law_1993 (by decide) (fun _ => ?_) (fun c9 => absurd c9 ((wf_ne h0 hCode).resolve_right (by decide)))
    refine lv_goto (tgt := 2272) hx hb dL_law_2008 (by decide) ?_
    refine W.widen (k := 100 + 16 * (k + 1)) (n := 4000 + 200 * (k + 1)) (by (try dsimp only); omega) (by (try dsimp only); omega) ?_
    exact hJ _ _ _ _ _ _ _ _ _ _ ⟨hP, by rw [Nat.succ_mul]; exact st.2.2, h70, h71, hS, lv_sub hl [2, 3, 4, 5, 6] rfl⟩
set_option maxHeartbeats 8000000 in
set_option maxRecDepth 100000 in
theorem lc_interestAnew (hC : lCtx p l s m meth c b L xs Z) {k : Nat} (hk : 7 * k + 7 ≤ L) (hL : L ≤ 3584) (hJ : ∀ (nT nK cT cK : Nat) (ad : Nat → Nat) (g : sG) (q : sQ) (H : Heap) (locs : List Loc) (ls : Array Slot), lSt Z s b k (k + 1) nT nK cT cK ad g q H locs ls → W p l e room_1 s m #[Value.ref b] below meth c H locs (100 + 16 * (k + 1)) (4000 + 200 * (k + 1)) (lw_Z below #[Value.ref b] s) (F0 m 2272 ls []))
    {nT nK cT cK : Nat} {ad : Nat → Nat} {g : sG} {q : sQ} {H : Heap} {locs : List Loc} {ls : Array Slot} (h : lSt Z s b k k nT nK cT cK ad g q H locs ls) : W p l e room_1 s m #[Value.ref b] below meth c H locs (100 + 16 * k) (4000 + 200 * k) (lw_Z below #[Value.ref b] s) (F0 m 2011 ls []) := by
  obtain ⟨hx, hb, hr, hml, hown, hts, hX, hbl, hlocks, hZ, hE, hNc, hfl⟩ := hC
  obtain ⟨hP, hI, h70, h71, hS, hl⟩ := h
  have hbA : ¬ sy_A Z b := fun z => absurd (show Z.2.2.1 ≤ b from z) (by omega)
  have hkB : k * oB ≤ 2048000000 := by
    have : k ≤ 511 := by omega
    calc k * oB ≤ 511 * 4000000 := Nat.mul_le_mul this (Nat.le_refl _)
      _ ≤ 2048000000 := by decide
  refine lv_aload_n hx hb dL_law_2011 rfl (lv_at hl 2 rfl) ?_
  refine lv_aload_n hx hb dL_law_2012 rfl (lv_at hl 1 rfl) ?_
  refine lv_iload hx hb dL_law_2013 (lv_at hl 0 rfl) ?_
  refine lv_iconst (v := 1) hx hb dL_law_2015 (by decide) ?_
  refine lv_iadd hx hb dL_law_2016 ?_
  refine sy_top (y := nI (7 * k + 1)) (nI_add _ _) ?_
  refine va_sld hx hb hX hbl hbA hS (vp_in_nI (show 7 * k + 1 < L by omega) (by omega)) dL_law_2017 ?_
  refine sy_top (y := xs (7 * k + 1)) (by rw [nI_clamp (by omega)]) ?_
  refine lv_aload_n hx hb dL_law_2018 rfl (lv_at hl 4 rfl) ?_
  have hCode : wf 1 9 9 (fX6_interestAnew g q (xs (7 * k + 1))).1 ≠ 9 := (by
        by_cases z : (fX6_interestAnew g q (xs (7 * k + 1))).1 = 0
        · rw [z]; exact (by decide : (0 : Int32) ≠ 9)
        · exact (st_no hI (fun gm hg => o_interestAnew (q' := (fX6_interestAnew g q (xs (7 * k + 1))).2.2.2) hg (xs (7 * k + 1))) n6_interestAnew (fun gm => f7_interestAnew) z).2.1)
  refine va_calli (vx_runSW (As := [.ref (ad 60), .int (xs (7 * k + 1)), .ref (ad 90)]) (rest := []) ⟨hx, hb, hml, hown, hts⟩ (mL_interestAnew l hfl Z nT nK cT cK ad g q (xs (7 * k + 1)) (by have := inv_T hI; omega) (inv_IG hI) (inv_IQ hI) hCode) (vx_cwSW 3 hts (gl_S uk_4_152 uk_4_153 uk_1_0 uk_4_154) rfl rfl rfl (by decide +kernel) ⟨Nat.le_of_ble_eq_true rfl, Nat.le_of_ble_eq_true rfl⟩) ⟨sPreL_blind _, fun U hU hW => ⟨rfl, ⟨hE.next hS hU hW.alike, by rw [hU]; exact hP⟩, hNc.next hW.alike⟩⟩ rfl rfl hl.1 rfl (lv_room (Nat.le_of_ble_eq_true rfl)) dL_law_2019 ⟨by show _ ≤ 601024; (try dsimp only); omega, by show _ ≤ 7293034; (try dsimp only); omega⟩) hS (fun _ _ h => h) (fun _ h => h) (fun r u t H locs ht _ hp hB _ _ hS => ?_)
  obtain ⟨g1, q1⟩ := u
  have hP := hB.2
  rw [ht] at hP
  dsimp only at hp hP
  rcases hp with ⟨h0, rfl, rfl, rfl⟩ | ⟨h0, rfl, hg9, hq9⟩
  · refine lv_istore (lv' := [(5, .int 0), (4, .int (nI (7 * k))), (0, .ref b), (1, .ref (ad 60)), (2, .ref (ad 0)), (3, .ref (ad 90))]) hx hb dL_law_2022 hl (by decide) rfl (fun ls hl => ?_)
    have st := st_yes hI (F := fun gm => fX7_interestAnew gm (fX6_interestAnew g q (xs (7 * k + 1))).2.2.2 (xs (7 * k + 1))) (fun gm hg => o_interestAnew (q' := (fX6_interestAnew g q (xs (7 * k + 1))).2.2.2) hg (xs (7 * k + 1))) f6_interestAnew (fun gm => f7_interestAnew) h0
    try dsimp only at st
    refine lv_aload_n hx hb dL_law_2024 rfl (lv_at hl 4 rfl) ?_
    refine lv_aload_n hx hb dL_law_2025 rfl (lv_at hl 2 rfl) ?_
    refine lv_iload hx hb dL_law_2026 (lv_at hl 1 rfl) ?_
    refine lv_iconst (v := 1) hx hb dL_law_2028 (by decide) ?_
    refine lv_iadd hx hb dL_law_2029 ?_
    refine sy_top (y := nI (7 * k + 1)) (nI_add _ _) ?_
    refine va_sld hx hb hX hbl hbA hS (vp_in_nI (show 7 * k + 1 < L by omega) (by omega)) dL_law_2030 ?_
    refine sy_top (y := xs (7 * k + 1)) (by rw [nI_clamp (by omega)]) ?_
    refine sy_ki (sy_rV (o := 0) (As := [.int (xs (7 * k + 1))]) (rest := []) ⟨hx, hb, hml, hown, hts⟩ hE hP hS (mX7_interestAnew l hfl Z nT nK cT cK ad (sy_up (fX6_interestAnew g q (xs (7 * k + 1))).2.2.1 90 0 (fX6_interestAnew g q (xs (7 * k + 1))).2.1) (fX6_interestAnew g q (xs (7 * k + 1))).2.2.2 (xs (7 * k + 1)) st.1.2.1) (cwV 1 hts (gl_V uk_6_38 uk_6_39 uk_6_40 uk_1_9 uk_6_41) rfl rfl rfl (by decide +kernel) ⟨Nat.le_of_ble_eq_true rfl, Nat.le_of_ble_eq_true rfl⟩) (sy_recv (kc := 8) hE hP rfl (by decide) rfl rfl rfl) rfl hl.1 rfl (Nat.le_of_ble_eq_true rfl) dL_law_2031 ⟨by show _ ≤ 601024; (try dsimp only); omega, by show _ ≤ 7293034; (try dsimp only); omega⟩) hS (fun b2 g2 q2 H locs e2 hP hS => ?_)
    obtain ⟨rfl, rfl, rfl⟩ : (fX7_interestAnew (sy_up (fX6_interestAnew g q (xs (7 * k + 1))).2.2.1 90 0 (fX6_interestAnew g q (xs (7 * k + 1))).2.1) (fX6_interestAnew g q (xs (7 * k + 1))).2.2.2 (xs (7 * k + 1))).1 = b2 ∧ (fX7_interestAnew (sy_up (fX6_interestAnew g q (xs (7 * k + 1))).2.2.1 90 0 (fX6_interestAnew g q (xs (7 * k + 1))).2.1) (fX6_interestAnew g q (xs (7 * k + 1))).2.2.2 (xs (7 * k + 1))).2 = g2 ∧ (fX6_interestAnew g q (xs (7 * k + 1))).2.2.2 = q2 := by cases e2; exact ⟨rfl, rfl, rfl⟩
    refine lv_istore (lv' := [(6, .int (fX7_interestAnew (sy_up (fX6_interestAnew g q (xs (7 * k + 1))).2.2.1 90 0 (fX6_interestAnew g q (xs (7 * k + 1))).2.1) (fX6_interestAnew g q (xs (7 * k + 1))).2.2.2 (xs (7 * k + 1))).1), (5, .int 0), (4, .int (nI (7 * k))), (0, .ref b), (1, .ref (ad 60)), (2, .ref (ad 0)), (3, .ref (ad 90))]) hx hb dL_law_2034 hl (by decide) rfl (fun ls hl => ?_)
    refine lv_aload_n hx hb dL_law_2036 rfl (lv_at hl 5 rfl) ?_
    refine sy_ki (sy_rV (o := 0) (As := []) (rest := []) ⟨hx, hb, hml, hown, hts⟩ hE hP hS (mX7_thrown l hfl Z nT nK cT cK ad (fX7_interestAnew (sy_up (fX6_interestAnew g q (xs (7 * k + 1))).2.2.1 90 0 (fX6_interestAnew g q (xs (7 * k + 1))).2.1) (fX6_interestAnew g q (xs (7 * k + 1))).2.2.2 (xs (7 * k + 1))).2 (fX6_interestAnew g q (xs (7 * k + 1))).2.2.2) (cwV 0 hts (gl_V uk_5_93 uk_5_94 uk_5_95 uk_1_9 uk_5_96) rfl rfl rfl (by decide +kernel) ⟨Nat.le_of_ble_eq_true rfl, Nat.le_of_ble_eq_true rfl⟩) (sy_recv (kc := 8) hE hP rfl (by decide) rfl rfl rfl) rfl hl.1 rfl (Nat.le_of_ble_eq_true rfl) dL_law_2037 ⟨by show _ ≤ 601024; (try dsimp only); omega, by show _ ≤ 7293034; (try dsimp only); omega⟩) hS (fun b3 g3 q3 H locs e3 hP hS => ?_)
    obtain ⟨rfl, rfl, rfl⟩ : (fX7_interestAnew (sy_up (fX6_interestAnew g q (xs (7 * k + 1))).2.2.1 90 0 (fX6_interestAnew g q (xs (7 * k + 1))).2.1) (fX6_interestAnew g q (xs (7 * k + 1))).2.2.2 (xs (7 * k + 1))).2 0 0 = b3 ∧ (fX7_interestAnew (sy_up (fX6_interestAnew g q (xs (7 * k + 1))).2.2.1 90 0 (fX6_interestAnew g q (xs (7 * k + 1))).2.1) (fX6_interestAnew g q (xs (7 * k + 1))).2.2.2 (xs (7 * k + 1))).2 = g3 ∧ (fX6_interestAnew g q (xs (7 * k + 1))).2.2.2 = q3 := by cases e3; exact ⟨rfl, rfl, rfl⟩
    refine sy_top (y := 0) st.2.1 ?_
    refine lv_iload hx hb dL_law_2040 (lv_at hl 1 rfl) ?_
    refine lv_icmp_eq (tgt := 2047) hx hb dL_law_2042 (by decide) (fun _ => ?_) (fun c9 => absurd rfl c9)
    refine lv_iload hx hb dL_law_2047 (lv_at hl 1 rfl) ?_
    refine lv_if_ne (tgt := 2064) hx hb dL_law_2049 (by decide) (fun c9 => absurd rfl c9) (fun _ => ?_)
    refine lv_aload_n hx hb dL_law_2052 rfl (lv_at hl 6 rfl) ?_
    refine lv_iconst (v := 0) hx hb dL_law_2053 (by decide) ?_
    refine sy_lald hx hb hE hP 90 rfl (i := 0) (k_in rfl) dL_law_2054 ?_
    refine lv_iload hx hb dL_law_2055 (lv_at hl 0 rfl) ?_
    refine lv_i2l (v := ((fX7_interestAnew (sy_up (fX6_interestAnew g q (xs (7 * k + 1))).2.2.1 90 0 (fX6_interestAnew g q (xs (7 * k + 1))).2.1) (fX6_interestAnew g q (xs (7 * k + 1))).2.2.2 (xs (7 * k + 1))).2 90 0).toInt64) hx hb dL_law_2057 (by rw [st.2.2.2.1, st.2.2.1]) ?_
    refine lv_lcmp0 hx hb dL_law_2058 ?_
    refine lv_if_eq (tgt := 2064) hx hb dL_law_2059 (by decide) (fun _ => ?_) (fun c9 => absurd rfl c9)
    refine lv_goto (tgt := 2272) hx hb dL_law_2064 (by decide) ?_
    refine W.widen (k := 100 + 16 * (k + 1)) (n := 4000 + 200 * (k + 1)) (by (try dsimp only); omega) (by (try dsimp only); omega) ?_
    exact hJ _ _ _ _ _ _ _ _ _ _ ⟨hP, by rw [Nat.succ_mul]; exact st.2.2.2.2, h70, h71, hS, lv_sub hl [2, 3, 4, 5, 6] rfl⟩
  · replace hg9 := hg9.symm
    replace hq9 := hq9.symm
    subst hg9
    subst hq9
    refine lv_istore (lv' := [(5, .int (wf 1 9 9 (fX6_interestAnew g q (xs (7 * k + 1))).1)), (4, .int (nI (7 * k))), (0, .ref b), (1, .ref (ad 60)), (2, .ref (ad 0)), (3, .ref (ad 90))]) hx hb dL_law_2022 hl (by decide) rfl (fun ls hl => ?_)
    have st := st_no hI (F := fun gm => fX7_interestAnew gm q (xs (7 * k + 1))) (fun gm hg => o_interestAnew (q' := q) hg (xs (7 * k + 1))) n6_interestAnew (fun gm => f7_interestAnew) h0
    try dsimp only at st
    refine lv_aload_n hx hb dL_law_2024 rfl (lv_at hl 4 rfl) ?_
    refine lv_aload_n hx hb dL_law_2025 rfl (lv_at hl 2 rfl) ?_
    refine lv_iload hx hb dL_law_2026 (lv_at hl 1 rfl) ?_
    refine lv_iconst (v := 1) hx hb dL_law_2028 (by decide) ?_
    refine lv_iadd hx hb dL_law_2029 ?_
    refine sy_top (y := nI (7 * k + 1)) (nI_add _ _) ?_
    refine va_sld hx hb hX hbl hbA hS (vp_in_nI (show 7 * k + 1 < L by omega) (by omega)) dL_law_2030 ?_
    refine sy_top (y := xs (7 * k + 1)) (by rw [nI_clamp (by omega)]) ?_
    refine sy_ki (sy_rV (o := 0) (As := [.int (xs (7 * k + 1))]) (rest := []) ⟨hx, hb, hml, hown, hts⟩ hE hP hS (mX7_interestAnew l hfl Z nT nK cT cK ad g q (xs (7 * k + 1)) hI.2.1) (cwV 1 hts (gl_V uk_6_38 uk_6_39 uk_6_40 uk_1_9 uk_6_41) rfl rfl rfl (by decide +kernel) ⟨Nat.le_of_ble_eq_true rfl, Nat.le_of_ble_eq_true rfl⟩) (sy_recv (kc := 8) hE hP rfl (by decide) rfl rfl rfl) rfl hl.1 rfl (Nat.le_of_ble_eq_true rfl) dL_law_2031 ⟨by show _ ≤ 601024; (try dsimp only); omega, by show _ ≤ 7293034; (try dsimp only); omega⟩) hS (fun b2 g2 q2 H locs e2 hP hS => ?_)
    obtain ⟨rfl, rfl, rfl⟩ : (fX7_interestAnew g q (xs (7 * k + 1))).1 = b2 ∧ (fX7_interestAnew g q (xs (7 * k + 1))).2 = g2 ∧ q = q2 := by cases e2; exact ⟨rfl, rfl, rfl⟩
    refine lv_istore (lv' := [(6, .int (fX7_interestAnew g q (xs (7 * k + 1))).1), (5, .int (wf 1 9 9 (fX6_interestAnew g q (xs (7 * k + 1))).1)), (4, .int (nI (7 * k))), (0, .ref b), (1, .ref (ad 60)), (2, .ref (ad 0)), (3, .ref (ad 90))]) hx hb dL_law_2034 hl (by decide) rfl (fun ls hl => ?_)
    refine lv_aload_n hx hb dL_law_2036 rfl (lv_at hl 5 rfl) ?_
    refine sy_ki (sy_rV (o := 0) (As := []) (rest := []) ⟨hx, hb, hml, hown, hts⟩ hE hP hS (mX7_thrown l hfl Z nT nK cT cK ad (fX7_interestAnew g q (xs (7 * k + 1))).2 q) (cwV 0 hts (gl_V uk_5_93 uk_5_94 uk_5_95 uk_1_9 uk_5_96) rfl rfl rfl (by decide +kernel) ⟨Nat.le_of_ble_eq_true rfl, Nat.le_of_ble_eq_true rfl⟩) (sy_recv (kc := 8) hE hP rfl (by decide) rfl rfl rfl) rfl hl.1 rfl (Nat.le_of_ble_eq_true rfl) dL_law_2037 ⟨by show _ ≤ 601024; (try dsimp only); omega, by show _ ≤ 7293034; (try dsimp only); omega⟩) hS (fun b3 g3 q3 H locs e3 hP hS => ?_)
    obtain ⟨rfl, rfl, rfl⟩ : (fX7_interestAnew g q (xs (7 * k + 1))).2 0 0 = b3 ∧ (fX7_interestAnew g q (xs (7 * k + 1))).2 = g3 ∧ q = q3 := by cases e3; exact ⟨rfl, rfl, rfl⟩
    refine sy_top (y := (wf 1 9 9 (fX6_interestAnew g q (xs (7 * k + 1))).1)) st.1 ?_
    refine lv_iload hx hb dL_law_2040 (lv_at hl 1 rfl) ?_
    refine lv_icmp_eq (tgt := 2047) hx hb dL_law_2042 (by decide) (fun _ => ?_) (fun c9 => absurd rfl c9)
    refine lv_iload hx hb dL_law_2047 (lv_at hl 1 rfl) ?_
    refine lv_if_ne (tgt := 2064) hx hb dL_law_2049 (by decide) (fun _ => ?_) (fun c9 => absurd c9 ((wf_ne h0 hCode).resolve_right (by decide)))
    refine lv_goto (tgt := 2272) hx hb dL_law_2064 (by decide) ?_
    refine W.widen (k := 100 + 16 * (k + 1)) (n := 4000 + 200 * (k + 1)) (by (try dsimp only); omega) (by (try dsimp only); omega) ?_
    exact hJ _ _ _ _ _ _ _ _ _ _ ⟨hP, by rw [Nat.succ_mul]; exact st.2.2, h70, h71, hS, lv_sub hl [2, 3, 4, 5, 6] rfl⟩
set_option maxHeartbeats 8000000 in
set_option maxRecDepth 100000 in
theorem lc_expertOf (hC : lCtx p l s m meth c b L xs Z) {k : Nat} (hk : 7 * k + 7 ≤ L) (hL : L ≤ 3584) (hJ : ∀ (nT nK cT cK : Nat) (ad : Nat → Nat) (g : sG) (q : sQ) (H : Heap) (locs : List Loc) (ls : Array Slot), lSt Z s b k (k + 1) nT nK cT cK ad g q H locs ls → W p l e room_1 s m #[Value.ref b] below meth c H locs (100 + 16 * (k + 1)) (4000 + 200 * (k + 1)) (lw_Z below #[Value.ref b] s) (F0 m 2272 ls []))
    {nT nK cT cK : Nat} {ad : Nat → Nat} {g : sG} {q : sQ} {H : Heap} {locs : List Loc} {ls : Array Slot} (h : lSt Z s b k k nT nK cT cK ad g q H locs ls) : W p l e room_1 s m #[Value.ref b] below meth c H locs (100 + 16 * k) (4000 + 200 * k) (lw_Z below #[Value.ref b] s) (F0 m 2067 ls []) := by
  obtain ⟨hx, hb, hr, hml, hown, hts, hX, hbl, hlocks, hZ, hE, hNc, hfl⟩ := hC
  obtain ⟨hP, hI, h70, h71, hS, hl⟩ := h
  have hbA : ¬ sy_A Z b := fun z => absurd (show Z.2.2.1 ≤ b from z) (by omega)
  have hkB : k * oB ≤ 2048000000 := by
    have : k ≤ 511 := by omega
    calc k * oB ≤ 511 * 4000000 := Nat.mul_le_mul this (Nat.le_refl _)
      _ ≤ 2048000000 := by decide
  refine lv_aload_n hx hb dL_law_2067 rfl (lv_at hl 2 rfl) ?_
  refine lv_aload_n hx hb dL_law_2068 rfl (lv_at hl 1 rfl) ?_
  refine lv_iload hx hb dL_law_2069 (lv_at hl 0 rfl) ?_
  refine lv_iconst (v := 1) hx hb dL_law_2071 (by decide) ?_
  refine lv_iadd hx hb dL_law_2072 ?_
  refine sy_top (y := nI (7 * k + 1)) (nI_add _ _) ?_
  refine va_sld hx hb hX hbl hbA hS (vp_in_nI (show 7 * k + 1 < L by omega) (by omega)) dL_law_2073 ?_
  refine sy_top (y := xs (7 * k + 1)) (by rw [nI_clamp (by omega)]) ?_
  refine lv_aload_n hx hb dL_law_2074 rfl (lv_at hl 1 rfl) ?_
  refine lv_iload hx hb dL_law_2075 (lv_at hl 0 rfl) ?_
  refine lv_iconst (v := 2) hx hb dL_law_2077 (by decide) ?_
  refine lv_iadd hx hb dL_law_2078 ?_
  refine sy_top (y := nI (7 * k + 2)) (nI_add _ _) ?_
  refine va_sld hx hb hX hbl hbA hS (vp_in_nI (show 7 * k + 2 < L by omega) (by omega)) dL_law_2079 ?_
  refine sy_top (y := xs (7 * k + 2)) (by rw [nI_clamp (by omega)]) ?_
  refine lv_aload_n hx hb dL_law_2080 rfl (lv_at hl 4 rfl) ?_
  have hCode : wf 1 2 9 (fX6_expertOf g q (xs (7 * k + 1)) (xs (7 * k + 2))).1 ≠ 9 := (by
        by_cases z : (fX6_expertOf g q (xs (7 * k + 1)) (xs (7 * k + 2))).1 = 0
        · rw [z]; exact (by decide : (0 : Int32) ≠ 9)
        · exact (st_no hI (fun gm hg => o_expertOf (q' := (fX6_expertOf g q (xs (7 * k + 1)) (xs (7 * k + 2))).2.2.2) hg (xs (7 * k + 1)) (xs (7 * k + 2))) n6_expertOf (fun gm => f7_expertOf) z).2.1)
  refine va_calli (vx_runSW (As := [.ref (ad 60), .int (xs (7 * k + 1)), .int (xs (7 * k + 2)), .ref (ad 90)]) (rest := []) ⟨hx, hb, hml, hown, hts⟩ (mL_expertOf l hfl Z nT nK cT cK ad g q (xs (7 * k + 1)) (xs (7 * k + 2)) (by have := inv_T hI; omega) (inv_IG hI) (inv_IQ hI) hCode) (vx_cwSW 4 hts (gl_S uk_4_163 uk_4_164 uk_1_0 uk_4_165) rfl rfl rfl (by decide +kernel) ⟨Nat.le_of_ble_eq_true rfl, Nat.le_of_ble_eq_true rfl⟩) ⟨sPreL_blind _, fun U hU hW => ⟨rfl, ⟨hE.next hS hU hW.alike, by rw [hU]; exact hP⟩, hNc.next hW.alike⟩⟩ rfl rfl hl.1 rfl (lv_room (Nat.le_of_ble_eq_true rfl)) dL_law_2081 ⟨by show _ ≤ 601024; (try dsimp only); omega, by show _ ≤ 7293034; (try dsimp only); omega⟩) hS (fun _ _ h => h) (fun _ h => h) (fun r u t H locs ht _ hp hB _ _ hS => ?_)
  obtain ⟨g1, q1⟩ := u
  have hP := hB.2
  rw [ht] at hP
  dsimp only at hp hP
  rcases hp with ⟨h0, rfl, rfl, rfl⟩ | ⟨h0, rfl, hg9, hq9⟩
  · refine lv_istore (lv' := [(5, .int 0), (4, .int (nI (7 * k))), (0, .ref b), (1, .ref (ad 60)), (2, .ref (ad 0)), (3, .ref (ad 90))]) hx hb dL_law_2084 hl (by decide) rfl (fun ls hl => ?_)
    have st := st_yes hI (F := fun gm => fX7_expertOf gm (fX6_expertOf g q (xs (7 * k + 1)) (xs (7 * k + 2))).2.2.2 (xs (7 * k + 1)) (xs (7 * k + 2))) (fun gm hg => o_expertOf (q' := (fX6_expertOf g q (xs (7 * k + 1)) (xs (7 * k + 2))).2.2.2) hg (xs (7 * k + 1)) (xs (7 * k + 2))) f6_expertOf (fun gm => f7_expertOf) h0
    try dsimp only at st
    refine lv_aload_n hx hb dL_law_2086 rfl (lv_at hl 4 rfl) ?_
    refine lv_aload_n hx hb dL_law_2087 rfl (lv_at hl 2 rfl) ?_
    refine lv_iload hx hb dL_law_2088 (lv_at hl 1 rfl) ?_
    refine lv_iconst (v := 1) hx hb dL_law_2090 (by decide) ?_
    refine lv_iadd hx hb dL_law_2091 ?_
    refine sy_top (y := nI (7 * k + 1)) (nI_add _ _) ?_
    refine va_sld hx hb hX hbl hbA hS (vp_in_nI (show 7 * k + 1 < L by omega) (by omega)) dL_law_2092 ?_
    refine sy_top (y := xs (7 * k + 1)) (by rw [nI_clamp (by omega)]) ?_
    refine lv_aload_n hx hb dL_law_2093 rfl (lv_at hl 2 rfl) ?_
    refine lv_iload hx hb dL_law_2094 (lv_at hl 1 rfl) ?_
    refine lv_iconst (v := 2) hx hb dL_law_2096 (by decide) ?_
    refine lv_iadd hx hb dL_law_2097 ?_
    refine sy_top (y := nI (7 * k + 2)) (nI_add _ _) ?_
    refine va_sld hx hb hX hbl hbA hS (vp_in_nI (show 7 * k + 2 < L by omega) (by omega)) dL_law_2098 ?_
    refine sy_top (y := xs (7 * k + 2)) (by rw [nI_clamp (by omega)]) ?_
    refine sy_ki (sy_rV (o := 0) (As := [.int (xs (7 * k + 1)), .int (xs (7 * k + 2))]) (rest := []) ⟨hx, hb, hml, hown, hts⟩ hE hP hS (mX7_expertOf l hfl Z nT nK cT cK ad (sy_up (fX6_expertOf g q (xs (7 * k + 1)) (xs (7 * k + 2))).2.2.1 90 0 (fX6_expertOf g q (xs (7 * k + 1)) (xs (7 * k + 2))).2.1) (fX6_expertOf g q (xs (7 * k + 1)) (xs (7 * k + 2))).2.2.2 (xs (7 * k + 1)) (xs (7 * k + 2)) st.1.2.1) (cwV 2 hts (gl_V uk_6_42 uk_6_43 uk_6_44 uk_1_9 uk_6_45) rfl rfl rfl (by decide +kernel) ⟨Nat.le_of_ble_eq_true rfl, Nat.le_of_ble_eq_true rfl⟩) (sy_recv (kc := 8) hE hP rfl (by decide) rfl rfl rfl) rfl hl.1 rfl (Nat.le_of_ble_eq_true rfl) dL_law_2099 ⟨by show _ ≤ 601024; (try dsimp only); omega, by show _ ≤ 7293034; (try dsimp only); omega⟩) hS (fun b2 g2 q2 H locs e2 hP hS => ?_)
    obtain ⟨rfl, rfl, rfl⟩ : (fX7_expertOf (sy_up (fX6_expertOf g q (xs (7 * k + 1)) (xs (7 * k + 2))).2.2.1 90 0 (fX6_expertOf g q (xs (7 * k + 1)) (xs (7 * k + 2))).2.1) (fX6_expertOf g q (xs (7 * k + 1)) (xs (7 * k + 2))).2.2.2 (xs (7 * k + 1)) (xs (7 * k + 2))).1 = b2 ∧ (fX7_expertOf (sy_up (fX6_expertOf g q (xs (7 * k + 1)) (xs (7 * k + 2))).2.2.1 90 0 (fX6_expertOf g q (xs (7 * k + 1)) (xs (7 * k + 2))).2.1) (fX6_expertOf g q (xs (7 * k + 1)) (xs (7 * k + 2))).2.2.2 (xs (7 * k + 1)) (xs (7 * k + 2))).2 = g2 ∧ (fX6_expertOf g q (xs (7 * k + 1)) (xs (7 * k + 2))).2.2.2 = q2 := by cases e2; exact ⟨rfl, rfl, rfl⟩
    refine lv_istore (lv' := [(6, .int (fX7_expertOf (sy_up (fX6_expertOf g q (xs (7 * k + 1)) (xs (7 * k + 2))).2.2.1 90 0 (fX6_expertOf g q (xs (7 * k + 1)) (xs (7 * k + 2))).2.1) (fX6_expertOf g q (xs (7 * k + 1)) (xs (7 * k + 2))).2.2.2 (xs (7 * k + 1)) (xs (7 * k + 2))).1), (5, .int 0), (4, .int (nI (7 * k))), (0, .ref b), (1, .ref (ad 60)), (2, .ref (ad 0)), (3, .ref (ad 90))]) hx hb dL_law_2102 hl (by decide) rfl (fun ls hl => ?_)
    refine lv_aload_n hx hb dL_law_2104 rfl (lv_at hl 5 rfl) ?_
    refine sy_ki (sy_rV (o := 0) (As := []) (rest := []) ⟨hx, hb, hml, hown, hts⟩ hE hP hS (mX7_thrown l hfl Z nT nK cT cK ad (fX7_expertOf (sy_up (fX6_expertOf g q (xs (7 * k + 1)) (xs (7 * k + 2))).2.2.1 90 0 (fX6_expertOf g q (xs (7 * k + 1)) (xs (7 * k + 2))).2.1) (fX6_expertOf g q (xs (7 * k + 1)) (xs (7 * k + 2))).2.2.2 (xs (7 * k + 1)) (xs (7 * k + 2))).2 (fX6_expertOf g q (xs (7 * k + 1)) (xs (7 * k + 2))).2.2.2) (cwV 0 hts (gl_V uk_5_93 uk_5_94 uk_5_95 uk_1_9 uk_5_96) rfl rfl rfl (by decide +kernel) ⟨Nat.le_of_ble_eq_true rfl, Nat.le_of_ble_eq_true rfl⟩) (sy_recv (kc := 8) hE hP rfl (by decide) rfl rfl rfl) rfl hl.1 rfl (Nat.le_of_ble_eq_true rfl) dL_law_2105 ⟨by show _ ≤ 601024; (try dsimp only); omega, by show _ ≤ 7293034; (try dsimp only); omega⟩) hS (fun b3 g3 q3 H locs e3 hP hS => ?_)
    obtain ⟨rfl, rfl, rfl⟩ : (fX7_expertOf (sy_up (fX6_expertOf g q (xs (7 * k + 1)) (xs (7 * k + 2))).2.2.1 90 0 (fX6_expertOf g q (xs (7 * k + 1)) (xs (7 * k + 2))).2.1) (fX6_expertOf g q (xs (7 * k + 1)) (xs (7 * k + 2))).2.2.2 (xs (7 * k + 1)) (xs (7 * k + 2))).2 0 0 = b3 ∧ (fX7_expertOf (sy_up (fX6_expertOf g q (xs (7 * k + 1)) (xs (7 * k + 2))).2.2.1 90 0 (fX6_expertOf g q (xs (7 * k + 1)) (xs (7 * k + 2))).2.1) (fX6_expertOf g q (xs (7 * k + 1)) (xs (7 * k + 2))).2.2.2 (xs (7 * k + 1)) (xs (7 * k + 2))).2 = g3 ∧ (fX6_expertOf g q (xs (7 * k + 1)) (xs (7 * k + 2))).2.2.2 = q3 := by cases e3; exact ⟨rfl, rfl, rfl⟩
    refine sy_top (y := 0) st.2.1 ?_
    refine lv_iload hx hb dL_law_2108 (lv_at hl 1 rfl) ?_
    refine lv_icmp_eq (tgt := 2115) hx hb dL_law_2110 (by decide) (fun _ => ?_) (fun c9 => absurd rfl c9)
    refine lv_iload hx hb dL_law_2115 (lv_at hl 1 rfl) ?_
    refine lv_if_ne (tgt := 2132) hx hb dL_law_2117 (by decide) (fun c9 => absurd rfl c9) (fun _ => ?_)
    refine lv_aload_n hx hb dL_law_2120 rfl (lv_at hl 6 rfl) ?_
    refine lv_iconst (v := 0) hx hb dL_law_2121 (by decide) ?_
    refine sy_lald hx hb hE hP 90 rfl (i := 0) (k_in rfl) dL_law_2122 ?_
    refine lv_iload hx hb dL_law_2123 (lv_at hl 0 rfl) ?_
    refine lv_i2l (v := ((fX7_expertOf (sy_up (fX6_expertOf g q (xs (7 * k + 1)) (xs (7 * k + 2))).2.2.1 90 0 (fX6_expertOf g q (xs (7 * k + 1)) (xs (7 * k + 2))).2.1) (fX6_expertOf g q (xs (7 * k + 1)) (xs (7 * k + 2))).2.2.2 (xs (7 * k + 1)) (xs (7 * k + 2))).2 90 0).toInt64) hx hb dL_law_2125 (by rw [st.2.2.2.1, st.2.2.1]) ?_
    refine lv_lcmp0 hx hb dL_law_2126 ?_
    refine lv_if_eq (tgt := 2132) hx hb dL_law_2127 (by decide) (fun _ => ?_) (fun c9 => absurd rfl c9)
    refine lv_goto (tgt := 2272) hx hb dL_law_2132 (by decide) ?_
    refine W.widen (k := 100 + 16 * (k + 1)) (n := 4000 + 200 * (k + 1)) (by (try dsimp only); omega) (by (try dsimp only); omega) ?_
    exact hJ _ _ _ _ _ _ _ _ _ _ ⟨hP, by rw [Nat.succ_mul]; exact st.2.2.2.2, h70, h71, hS, lv_sub hl [2, 3, 4, 5, 6] rfl⟩
  · replace hg9 := hg9.symm
    replace hq9 := hq9.symm
    subst hg9
    subst hq9
    refine lv_istore (lv' := [(5, .int (wf 1 2 9 (fX6_expertOf g q (xs (7 * k + 1)) (xs (7 * k + 2))).1)), (4, .int (nI (7 * k))), (0, .ref b), (1, .ref (ad 60)), (2, .ref (ad 0)), (3, .ref (ad 90))]) hx hb dL_law_2084 hl (by decide) rfl (fun ls hl => ?_)
    have st := st_no hI (F := fun gm => fX7_expertOf gm q (xs (7 * k + 1)) (xs (7 * k + 2))) (fun gm hg => o_expertOf (q' := q) hg (xs (7 * k + 1)) (xs (7 * k + 2))) n6_expertOf (fun gm => f7_expertOf) h0
    try dsimp only at st
    refine lv_aload_n hx hb dL_law_2086 rfl (lv_at hl 4 rfl) ?_
    refine lv_aload_n hx hb dL_law_2087 rfl (lv_at hl 2 rfl) ?_
    refine lv_iload hx hb dL_law_2088 (lv_at hl 1 rfl) ?_
    refine lv_iconst (v := 1) hx hb dL_law_2090 (by decide) ?_
    refine lv_iadd hx hb dL_law_2091 ?_
    refine sy_top (y := nI (7 * k + 1)) (nI_add _ _) ?_
    refine va_sld hx hb hX hbl hbA hS (vp_in_nI (show 7 * k + 1 < L by omega) (by omega)) dL_law_2092 ?_
    refine sy_top (y := xs (7 * k + 1)) (by rw [nI_clamp (by omega)]) ?_
    refine lv_aload_n hx hb dL_law_2093 rfl (lv_at hl 2 rfl) ?_
    refine lv_iload hx hb dL_law_2094 (lv_at hl 1 rfl) ?_
    refine lv_iconst (v := 2) hx hb dL_law_2096 (by decide) ?_
    refine lv_iadd hx hb dL_law_2097 ?_
    refine sy_top (y := nI (7 * k + 2)) (nI_add _ _) ?_
    refine va_sld hx hb hX hbl hbA hS (vp_in_nI (show 7 * k + 2 < L by omega) (by omega)) dL_law_2098 ?_
    refine sy_top (y := xs (7 * k + 2)) (by rw [nI_clamp (by omega)]) ?_
    refine sy_ki (sy_rV (o := 0) (As := [.int (xs (7 * k + 1)), .int (xs (7 * k + 2))]) (rest := []) ⟨hx, hb, hml, hown, hts⟩ hE hP hS (mX7_expertOf l hfl Z nT nK cT cK ad g q (xs (7 * k + 1)) (xs (7 * k + 2)) hI.2.1) (cwV 2 hts (gl_V uk_6_42 uk_6_43 uk_6_44 uk_1_9 uk_6_45) rfl rfl rfl (by decide +kernel) ⟨Nat.le_of_ble_eq_true rfl, Nat.le_of_ble_eq_true rfl⟩) (sy_recv (kc := 8) hE hP rfl (by decide) rfl rfl rfl) rfl hl.1 rfl (Nat.le_of_ble_eq_true rfl) dL_law_2099 ⟨by show _ ≤ 601024; (try dsimp only); omega, by show _ ≤ 7293034; (try dsimp only); omega⟩) hS (fun b2 g2 q2 H locs e2 hP hS => ?_)
    obtain ⟨rfl, rfl, rfl⟩ : (fX7_expertOf g q (xs (7 * k + 1)) (xs (7 * k + 2))).1 = b2 ∧ (fX7_expertOf g q (xs (7 * k + 1)) (xs (7 * k + 2))).2 = g2 ∧ q = q2 := by cases e2; exact ⟨rfl, rfl, rfl⟩
    refine lv_istore (lv' := [(6, .int (fX7_expertOf g q (xs (7 * k + 1)) (xs (7 * k + 2))).1), (5, .int (wf 1 2 9 (fX6_expertOf g q (xs (7 * k + 1)) (xs (7 * k + 2))).1)), (4, .int (nI (7 * k))), (0, .ref b), (1, .ref (ad 60)), (2, .ref (ad 0)), (3, .ref (ad 90))]) hx hb dL_law_2102 hl (by decide) rfl (fun ls hl => ?_)
    refine lv_aload_n hx hb dL_law_2104 rfl (lv_at hl 5 rfl) ?_
    refine sy_ki (sy_rV (o := 0) (As := []) (rest := []) ⟨hx, hb, hml, hown, hts⟩ hE hP hS (mX7_thrown l hfl Z nT nK cT cK ad (fX7_expertOf g q (xs (7 * k + 1)) (xs (7 * k + 2))).2 q) (cwV 0 hts (gl_V uk_5_93 uk_5_94 uk_5_95 uk_1_9 uk_5_96) rfl rfl rfl (by decide +kernel) ⟨Nat.le_of_ble_eq_true rfl, Nat.le_of_ble_eq_true rfl⟩) (sy_recv (kc := 8) hE hP rfl (by decide) rfl rfl rfl) rfl hl.1 rfl (Nat.le_of_ble_eq_true rfl) dL_law_2105 ⟨by show _ ≤ 601024; (try dsimp only); omega, by show _ ≤ 7293034; (try dsimp only); omega⟩) hS (fun b3 g3 q3 H locs e3 hP hS => ?_)
    obtain ⟨rfl, rfl, rfl⟩ : (fX7_expertOf g q (xs (7 * k + 1)) (xs (7 * k + 2))).2 0 0 = b3 ∧ (fX7_expertOf g q (xs (7 * k + 1)) (xs (7 * k + 2))).2 = g3 ∧ q = q3 := by cases e3; exact ⟨rfl, rfl, rfl⟩
    refine sy_top (y := (wf 1 2 9 (fX6_expertOf g q (xs (7 * k + 1)) (xs (7 * k + 2))).1)) st.1 ?_
    refine lv_iload hx hb dL_law_2108 (lv_at hl 1 rfl) ?_
    refine lv_icmp_eq (tgt := 2115) hx hb dL_law_2110 (by decide) (fun _ => ?_) (fun c9 => absurd rfl c9)
    refine lv_iload hx hb dL_law_2115 (lv_at hl 1 rfl) ?_
    refine lv_if_ne (tgt := 2132) hx hb dL_law_2117 (by decide) (fun _ => ?_) (fun c9 => absurd c9 ((wf_ne h0 hCode).resolve_right (by decide)))
    refine lv_goto (tgt := 2272) hx hb dL_law_2132 (by decide) ?_
    refine W.widen (k := 100 + 16 * (k + 1)) (n := 4000 + 200 * (k + 1)) (by (try dsimp only); omega) (by (try dsimp only); omega) ?_
    exact hJ _ _ _ _ _ _ _ _ _ _ ⟨hP, by rw [Nat.succ_mul]; exact st.2.2, h70, h71, hS, lv_sub hl [2, 3, 4, 5, 6] rfl⟩
set_option maxHeartbeats 8000000 in
set_option maxRecDepth 100000 in
theorem lc_bears (hC : lCtx p l s m meth c b L xs Z) {k : Nat} (hk : 7 * k + 7 ≤ L) (hL : L ≤ 3584) (hJ : ∀ (nT nK cT cK : Nat) (ad : Nat → Nat) (g : sG) (q : sQ) (H : Heap) (locs : List Loc) (ls : Array Slot), lSt Z s b k (k + 1) nT nK cT cK ad g q H locs ls → W p l e room_1 s m #[Value.ref b] below meth c H locs (100 + 16 * (k + 1)) (4000 + 200 * (k + 1)) (lw_Z below #[Value.ref b] s) (F0 m 2272 ls []))
    {nT nK cT cK : Nat} {ad : Nat → Nat} {g : sG} {q : sQ} {H : Heap} {locs : List Loc} {ls : Array Slot} (h : lSt Z s b k k nT nK cT cK ad g q H locs ls) : W p l e room_1 s m #[Value.ref b] below meth c H locs (100 + 16 * k) (4000 + 200 * k) (lw_Z below #[Value.ref b] s) (F0 m 2135 ls []) := by
  obtain ⟨hx, hb, hr, hml, hown, hts, hX, hbl, hlocks, hZ, hE, hNc, hfl⟩ := hC
  obtain ⟨hP, hI, h70, h71, hS, hl⟩ := h
  have hbA : ¬ sy_A Z b := fun z => absurd (show Z.2.2.1 ≤ b from z) (by omega)
  have hkB : k * oB ≤ 2048000000 := by
    have : k ≤ 511 := by omega
    calc k * oB ≤ 511 * 4000000 := Nat.mul_le_mul this (Nat.le_refl _)
      _ ≤ 2048000000 := by decide
  refine lv_aload_n hx hb dL_law_2135 rfl (lv_at hl 2 rfl) ?_
  refine lv_aload_n hx hb dL_law_2136 rfl (lv_at hl 1 rfl) ?_
  refine lv_iload hx hb dL_law_2137 (lv_at hl 0 rfl) ?_
  refine lv_iconst (v := 1) hx hb dL_law_2139 (by decide) ?_
  refine lv_iadd hx hb dL_law_2140 ?_
  refine sy_top (y := nI (7 * k + 1)) (nI_add _ _) ?_
  refine va_sld hx hb hX hbl hbA hS (vp_in_nI (show 7 * k + 1 < L by omega) (by omega)) dL_law_2141 ?_
  refine sy_top (y := xs (7 * k + 1)) (by rw [nI_clamp (by omega)]) ?_
  refine lv_aload_n hx hb dL_law_2142 rfl (lv_at hl 1 rfl) ?_
  refine lv_iload hx hb dL_law_2143 (lv_at hl 0 rfl) ?_
  refine lv_iconst (v := 2) hx hb dL_law_2145 (by decide) ?_
  refine lv_iadd hx hb dL_law_2146 ?_
  refine sy_top (y := nI (7 * k + 2)) (nI_add _ _) ?_
  refine va_sld hx hb hX hbl hbA hS (vp_in_nI (show 7 * k + 2 < L by omega) (by omega)) dL_law_2147 ?_
  refine sy_top (y := xs (7 * k + 2)) (by rw [nI_clamp (by omega)]) ?_
  refine lv_aload_n hx hb dL_law_2148 rfl (lv_at hl 4 rfl) ?_
  have hCode : wf 1 9 9 (fX6_bears g q (xs (7 * k + 1)) (xs (7 * k + 2))).1 ≠ 9 := (by
        by_cases z : (fX6_bears g q (xs (7 * k + 1)) (xs (7 * k + 2))).1 = 0
        · rw [z]; exact (by decide : (0 : Int32) ≠ 9)
        · exact (st_no hI (fun gm hg => o_bears (q' := (fX6_bears g q (xs (7 * k + 1)) (xs (7 * k + 2))).2.2.2) hg (xs (7 * k + 1)) (xs (7 * k + 2))) n6_bears (fun gm => f7_bears) z).2.1)
  refine va_calli (vx_runSW (As := [.ref (ad 60), .int (xs (7 * k + 1)), .int (xs (7 * k + 2)), .ref (ad 90)]) (rest := []) ⟨hx, hb, hml, hown, hts⟩ (mL_bears l hfl Z nT nK cT cK ad g q (xs (7 * k + 1)) (xs (7 * k + 2)) (by have := inv_T hI; omega) (inv_IG hI) (inv_IQ hI) hCode) (vx_cwSW 4 hts (gl_S uk_4_170 uk_4_171 uk_1_0 uk_4_172) rfl rfl rfl (by decide +kernel) ⟨Nat.le_of_ble_eq_true rfl, Nat.le_of_ble_eq_true rfl⟩) ⟨sPreL_blind _, fun U hU hW => ⟨rfl, ⟨hE.next hS hU hW.alike, by rw [hU]; exact hP⟩, hNc.next hW.alike⟩⟩ rfl rfl hl.1 rfl (lv_room (Nat.le_of_ble_eq_true rfl)) dL_law_2149 ⟨by show _ ≤ 601024; (try dsimp only); omega, by show _ ≤ 7293034; (try dsimp only); omega⟩) hS (fun _ _ h => h) (fun _ h => h) (fun r u t H locs ht _ hp hB _ _ hS => ?_)
  obtain ⟨g1, q1⟩ := u
  have hP := hB.2
  rw [ht] at hP
  dsimp only at hp hP
  rcases hp with ⟨h0, rfl, rfl, rfl⟩ | ⟨h0, rfl, hg9, hq9⟩
  · refine lv_istore (lv' := [(5, .int 0), (4, .int (nI (7 * k))), (0, .ref b), (1, .ref (ad 60)), (2, .ref (ad 0)), (3, .ref (ad 90))]) hx hb dL_law_2152 hl (by decide) rfl (fun ls hl => ?_)
    have st := st_yes hI (F := fun gm => fX7_bears gm (fX6_bears g q (xs (7 * k + 1)) (xs (7 * k + 2))).2.2.2 (xs (7 * k + 1)) (xs (7 * k + 2))) (fun gm hg => o_bears (q' := (fX6_bears g q (xs (7 * k + 1)) (xs (7 * k + 2))).2.2.2) hg (xs (7 * k + 1)) (xs (7 * k + 2))) f6_bears (fun gm => f7_bears) h0
    try dsimp only at st
    refine lv_aload_n hx hb dL_law_2154 rfl (lv_at hl 4 rfl) ?_
    refine lv_aload_n hx hb dL_law_2155 rfl (lv_at hl 2 rfl) ?_
    refine lv_iload hx hb dL_law_2156 (lv_at hl 1 rfl) ?_
    refine lv_iconst (v := 1) hx hb dL_law_2158 (by decide) ?_
    refine lv_iadd hx hb dL_law_2159 ?_
    refine sy_top (y := nI (7 * k + 1)) (nI_add _ _) ?_
    refine va_sld hx hb hX hbl hbA hS (vp_in_nI (show 7 * k + 1 < L by omega) (by omega)) dL_law_2160 ?_
    refine sy_top (y := xs (7 * k + 1)) (by rw [nI_clamp (by omega)]) ?_
    refine lv_aload_n hx hb dL_law_2161 rfl (lv_at hl 2 rfl) ?_
    refine lv_iload hx hb dL_law_2162 (lv_at hl 1 rfl) ?_
    refine lv_iconst (v := 2) hx hb dL_law_2164 (by decide) ?_
    refine lv_iadd hx hb dL_law_2165 ?_
    refine sy_top (y := nI (7 * k + 2)) (nI_add _ _) ?_
    refine va_sld hx hb hX hbl hbA hS (vp_in_nI (show 7 * k + 2 < L by omega) (by omega)) dL_law_2166 ?_
    refine sy_top (y := xs (7 * k + 2)) (by rw [nI_clamp (by omega)]) ?_
    refine sy_ki (sy_rV (o := 0) (As := [.int (xs (7 * k + 1)), .int (xs (7 * k + 2))]) (rest := []) ⟨hx, hb, hml, hown, hts⟩ hE hP hS (mX7_bears l hfl Z nT nK cT cK ad (sy_up (fX6_bears g q (xs (7 * k + 1)) (xs (7 * k + 2))).2.2.1 90 0 (fX6_bears g q (xs (7 * k + 1)) (xs (7 * k + 2))).2.1) (fX6_bears g q (xs (7 * k + 1)) (xs (7 * k + 2))).2.2.2 (xs (7 * k + 1)) (xs (7 * k + 2)) st.1.2.1) (cwV 2 hts (gl_V uk_6_46 uk_6_47 uk_6_48 uk_1_9 uk_6_49) rfl rfl rfl (by decide +kernel) ⟨Nat.le_of_ble_eq_true rfl, Nat.le_of_ble_eq_true rfl⟩) (sy_recv (kc := 8) hE hP rfl (by decide) rfl rfl rfl) rfl hl.1 rfl (Nat.le_of_ble_eq_true rfl) dL_law_2167 ⟨by show _ ≤ 601024; (try dsimp only); omega, by show _ ≤ 7293034; (try dsimp only); omega⟩) hS (fun b2 g2 q2 H locs e2 hP hS => ?_)
    obtain ⟨rfl, rfl, rfl⟩ : (fX7_bears (sy_up (fX6_bears g q (xs (7 * k + 1)) (xs (7 * k + 2))).2.2.1 90 0 (fX6_bears g q (xs (7 * k + 1)) (xs (7 * k + 2))).2.1) (fX6_bears g q (xs (7 * k + 1)) (xs (7 * k + 2))).2.2.2 (xs (7 * k + 1)) (xs (7 * k + 2))).1 = b2 ∧ (fX7_bears (sy_up (fX6_bears g q (xs (7 * k + 1)) (xs (7 * k + 2))).2.2.1 90 0 (fX6_bears g q (xs (7 * k + 1)) (xs (7 * k + 2))).2.1) (fX6_bears g q (xs (7 * k + 1)) (xs (7 * k + 2))).2.2.2 (xs (7 * k + 1)) (xs (7 * k + 2))).2 = g2 ∧ (fX6_bears g q (xs (7 * k + 1)) (xs (7 * k + 2))).2.2.2 = q2 := by cases e2; exact ⟨rfl, rfl, rfl⟩
    refine lv_istore (lv' := [(6, .int (fX7_bears (sy_up (fX6_bears g q (xs (7 * k + 1)) (xs (7 * k + 2))).2.2.1 90 0 (fX6_bears g q (xs (7 * k + 1)) (xs (7 * k + 2))).2.1) (fX6_bears g q (xs (7 * k + 1)) (xs (7 * k + 2))).2.2.2 (xs (7 * k + 1)) (xs (7 * k + 2))).1), (5, .int 0), (4, .int (nI (7 * k))), (0, .ref b), (1, .ref (ad 60)), (2, .ref (ad 0)), (3, .ref (ad 90))]) hx hb dL_law_2170 hl (by decide) rfl (fun ls hl => ?_)
    refine lv_aload_n hx hb dL_law_2172 rfl (lv_at hl 5 rfl) ?_
    refine sy_ki (sy_rV (o := 0) (As := []) (rest := []) ⟨hx, hb, hml, hown, hts⟩ hE hP hS (mX7_thrown l hfl Z nT nK cT cK ad (fX7_bears (sy_up (fX6_bears g q (xs (7 * k + 1)) (xs (7 * k + 2))).2.2.1 90 0 (fX6_bears g q (xs (7 * k + 1)) (xs (7 * k + 2))).2.1) (fX6_bears g q (xs (7 * k + 1)) (xs (7 * k + 2))).2.2.2 (xs (7 * k + 1)) (xs (7 * k + 2))).2 (fX6_bears g q (xs (7 * k + 1)) (xs (7 * k + 2))).2.2.2) (cwV 0 hts (gl_V uk_5_93 uk_5_94 uk_5_95 uk_1_9 uk_5_96) rfl rfl rfl (by decide +kernel) ⟨Nat.le_of_ble_eq_true rfl, Nat.le_of_ble_eq_true rfl⟩) (sy_recv (kc := 8) hE hP rfl (by decide) rfl rfl rfl) rfl hl.1 rfl (Nat.le_of_ble_eq_true rfl) dL_law_2173 ⟨by show _ ≤ 601024; (try dsimp only); omega, by show _ ≤ 7293034; (try dsimp only); omega⟩) hS (fun b3 g3 q3 H locs e3 hP hS => ?_)
    obtain ⟨rfl, rfl, rfl⟩ : (fX7_bears (sy_up (fX6_bears g q (xs (7 * k + 1)) (xs (7 * k + 2))).2.2.1 90 0 (fX6_bears g q (xs (7 * k + 1)) (xs (7 * k + 2))).2.1) (fX6_bears g q (xs (7 * k + 1)) (xs (7 * k + 2))).2.2.2 (xs (7 * k + 1)) (xs (7 * k + 2))).2 0 0 = b3 ∧ (fX7_bears (sy_up (fX6_bears g q (xs (7 * k + 1)) (xs (7 * k + 2))).2.2.1 90 0 (fX6_bears g q (xs (7 * k + 1)) (xs (7 * k + 2))).2.1) (fX6_bears g q (xs (7 * k + 1)) (xs (7 * k + 2))).2.2.2 (xs (7 * k + 1)) (xs (7 * k + 2))).2 = g3 ∧ (fX6_bears g q (xs (7 * k + 1)) (xs (7 * k + 2))).2.2.2 = q3 := by cases e3; exact ⟨rfl, rfl, rfl⟩
    refine sy_top (y := 0) st.2.1 ?_
    refine lv_iload hx hb dL_law_2176 (lv_at hl 1 rfl) ?_
    refine lv_icmp_eq (tgt := 2183) hx hb dL_law_2178 (by decide) (fun _ => ?_) (fun c9 => absurd rfl c9)
    refine lv_iload hx hb dL_law_2183 (lv_at hl 1 rfl) ?_
    refine lv_if_ne (tgt := 2200) hx hb dL_law_2185 (by decide) (fun c9 => absurd rfl c9) (fun _ => ?_)
    refine lv_aload_n hx hb dL_law_2188 rfl (lv_at hl 6 rfl) ?_
    refine lv_iconst (v := 0) hx hb dL_law_2189 (by decide) ?_
    refine sy_lald hx hb hE hP 90 rfl (i := 0) (k_in rfl) dL_law_2190 ?_
    refine lv_iload hx hb dL_law_2191 (lv_at hl 0 rfl) ?_
    refine lv_i2l (v := ((fX7_bears (sy_up (fX6_bears g q (xs (7 * k + 1)) (xs (7 * k + 2))).2.2.1 90 0 (fX6_bears g q (xs (7 * k + 1)) (xs (7 * k + 2))).2.1) (fX6_bears g q (xs (7 * k + 1)) (xs (7 * k + 2))).2.2.2 (xs (7 * k + 1)) (xs (7 * k + 2))).2 90 0).toInt64) hx hb dL_law_2193 (by rw [st.2.2.2.1, st.2.2.1]) ?_
    refine lv_lcmp0 hx hb dL_law_2194 ?_
    refine lv_if_eq (tgt := 2200) hx hb dL_law_2195 (by decide) (fun _ => ?_) (fun c9 => absurd rfl c9)
    refine lv_goto (tgt := 2272) hx hb dL_law_2200 (by decide) ?_
    refine W.widen (k := 100 + 16 * (k + 1)) (n := 4000 + 200 * (k + 1)) (by (try dsimp only); omega) (by (try dsimp only); omega) ?_
    exact hJ _ _ _ _ _ _ _ _ _ _ ⟨hP, by rw [Nat.succ_mul]; exact st.2.2.2.2, h70, h71, hS, lv_sub hl [2, 3, 4, 5, 6] rfl⟩
  · replace hg9 := hg9.symm
    replace hq9 := hq9.symm
    subst hg9
    subst hq9
    refine lv_istore (lv' := [(5, .int (wf 1 9 9 (fX6_bears g q (xs (7 * k + 1)) (xs (7 * k + 2))).1)), (4, .int (nI (7 * k))), (0, .ref b), (1, .ref (ad 60)), (2, .ref (ad 0)), (3, .ref (ad 90))]) hx hb dL_law_2152 hl (by decide) rfl (fun ls hl => ?_)
    have st := st_no hI (F := fun gm => fX7_bears gm q (xs (7 * k + 1)) (xs (7 * k + 2))) (fun gm hg => o_bears (q' := q) hg (xs (7 * k + 1)) (xs (7 * k + 2))) n6_bears (fun gm => f7_bears) h0
    try dsimp only at st
    refine lv_aload_n hx hb dL_law_2154 rfl (lv_at hl 4 rfl) ?_
    refine lv_aload_n hx hb dL_law_2155 rfl (lv_at hl 2 rfl) ?_
    refine lv_iload hx hb dL_law_2156 (lv_at hl 1 rfl) ?_
    refine lv_iconst (v := 1) hx hb dL_law_2158 (by decide) ?_
    refine lv_iadd hx hb dL_law_2159 ?_
    refine sy_top (y := nI (7 * k + 1)) (nI_add _ _) ?_
    refine va_sld hx hb hX hbl hbA hS (vp_in_nI (show 7 * k + 1 < L by omega) (by omega)) dL_law_2160 ?_
    refine sy_top (y := xs (7 * k + 1)) (by rw [nI_clamp (by omega)]) ?_
    refine lv_aload_n hx hb dL_law_2161 rfl (lv_at hl 2 rfl) ?_
    refine lv_iload hx hb dL_law_2162 (lv_at hl 1 rfl) ?_
    refine lv_iconst (v := 2) hx hb dL_law_2164 (by decide) ?_
    refine lv_iadd hx hb dL_law_2165 ?_
    refine sy_top (y := nI (7 * k + 2)) (nI_add _ _) ?_
    refine va_sld hx hb hX hbl hbA hS (vp_in_nI (show 7 * k + 2 < L by omega) (by omega)) dL_law_2166 ?_
    refine sy_top (y := xs (7 * k + 2)) (by rw [nI_clamp (by omega)]) ?_
    refine sy_ki (sy_rV (o := 0) (As := [.int (xs (7 * k + 1)), .int (xs (7 * k + 2))]) (rest := []) ⟨hx, hb, hml, hown, hts⟩ hE hP hS (mX7_bears l hfl Z nT nK cT cK ad g q (xs (7 * k + 1)) (xs (7 * k + 2)) hI.2.1) (cwV 2 hts (gl_V uk_6_46 uk_6_47 uk_6_48 uk_1_9 uk_6_49) rfl rfl rfl (by decide +kernel) ⟨Nat.le_of_ble_eq_true rfl, Nat.le_of_ble_eq_true rfl⟩) (sy_recv (kc := 8) hE hP rfl (by decide) rfl rfl rfl) rfl hl.1 rfl (Nat.le_of_ble_eq_true rfl) dL_law_2167 ⟨by show _ ≤ 601024; (try dsimp only); omega, by show _ ≤ 7293034; (try dsimp only); omega⟩) hS (fun b2 g2 q2 H locs e2 hP hS => ?_)
    obtain ⟨rfl, rfl, rfl⟩ : (fX7_bears g q (xs (7 * k + 1)) (xs (7 * k + 2))).1 = b2 ∧ (fX7_bears g q (xs (7 * k + 1)) (xs (7 * k + 2))).2 = g2 ∧ q = q2 := by cases e2; exact ⟨rfl, rfl, rfl⟩
    refine lv_istore (lv' := [(6, .int (fX7_bears g q (xs (7 * k + 1)) (xs (7 * k + 2))).1), (5, .int (wf 1 9 9 (fX6_bears g q (xs (7 * k + 1)) (xs (7 * k + 2))).1)), (4, .int (nI (7 * k))), (0, .ref b), (1, .ref (ad 60)), (2, .ref (ad 0)), (3, .ref (ad 90))]) hx hb dL_law_2170 hl (by decide) rfl (fun ls hl => ?_)
    refine lv_aload_n hx hb dL_law_2172 rfl (lv_at hl 5 rfl) ?_
    refine sy_ki (sy_rV (o := 0) (As := []) (rest := []) ⟨hx, hb, hml, hown, hts⟩ hE hP hS (mX7_thrown l hfl Z nT nK cT cK ad (fX7_bears g q (xs (7 * k + 1)) (xs (7 * k + 2))).2 q) (cwV 0 hts (gl_V uk_5_93 uk_5_94 uk_5_95 uk_1_9 uk_5_96) rfl rfl rfl (by decide +kernel) ⟨Nat.le_of_ble_eq_true rfl, Nat.le_of_ble_eq_true rfl⟩) (sy_recv (kc := 8) hE hP rfl (by decide) rfl rfl rfl) rfl hl.1 rfl (Nat.le_of_ble_eq_true rfl) dL_law_2173 ⟨by show _ ≤ 601024; (try dsimp only); omega, by show _ ≤ 7293034; (try dsimp only); omega⟩) hS (fun b3 g3 q3 H locs e3 hP hS => ?_)
    obtain ⟨rfl, rfl, rfl⟩ : (fX7_bears g q (xs (7 * k + 1)) (xs (7 * k + 2))).2 0 0 = b3 ∧ (fX7_bears g q (xs (7 * k + 1)) (xs (7 * k + 2))).2 = g3 ∧ q = q3 := by cases e3; exact ⟨rfl, rfl, rfl⟩
    refine sy_top (y := (wf 1 9 9 (fX6_bears g q (xs (7 * k + 1)) (xs (7 * k + 2))).1)) st.1 ?_
    refine lv_iload hx hb dL_law_2176 (lv_at hl 1 rfl) ?_
    refine lv_icmp_eq (tgt := 2183) hx hb dL_law_2178 (by decide) (fun _ => ?_) (fun c9 => absurd rfl c9)
    refine lv_iload hx hb dL_law_2183 (lv_at hl 1 rfl) ?_
    refine lv_if_ne (tgt := 2200) hx hb dL_law_2185 (by decide) (fun _ => ?_) (fun c9 => absurd c9 ((wf_ne h0 hCode).resolve_right (by decide)))
    refine lv_goto (tgt := 2272) hx hb dL_law_2200 (by decide) ?_
    refine W.widen (k := 100 + 16 * (k + 1)) (n := 4000 + 200 * (k + 1)) (by (try dsimp only); omega) (by (try dsimp only); omega) ?_
    exact hJ _ _ _ _ _ _ _ _ _ _ ⟨hP, by rw [Nat.succ_mul]; exact st.2.2, h70, h71, hS, lv_sub hl [2, 3, 4, 5, 6] rfl⟩
set_option maxHeartbeats 8000000 in
set_option maxRecDepth 100000 in
theorem lc_money (hC : lCtx p l s m meth c b L xs Z) {k : Nat} (hk : 7 * k + 7 ≤ L) (hL : L ≤ 3584) (hJ : ∀ (nT nK cT cK : Nat) (ad : Nat → Nat) (g : sG) (q : sQ) (H : Heap) (locs : List Loc) (ls : Array Slot), lSt Z s b k (k + 1) nT nK cT cK ad g q H locs ls → W p l e room_1 s m #[Value.ref b] below meth c H locs (100 + 16 * (k + 1)) (4000 + 200 * (k + 1)) (lw_Z below #[Value.ref b] s) (F0 m 2272 ls []))
    {nT nK cT cK : Nat} {ad : Nat → Nat} {g : sG} {q : sQ} {H : Heap} {locs : List Loc} {ls : Array Slot} (h : lSt Z s b k k nT nK cT cK ad g q H locs ls) : W p l e room_1 s m #[Value.ref b] below meth c H locs (100 + 16 * k) (4000 + 200 * k) (lw_Z below #[Value.ref b] s) (F0 m 2203 ls []) := by
  obtain ⟨hx, hb, hr, hml, hown, hts, hX, hbl, hlocks, hZ, hE, hNc, hfl⟩ := hC
  obtain ⟨hP, hI, h70, h71, hS, hl⟩ := h
  have hbA : ¬ sy_A Z b := fun z => absurd (show Z.2.2.1 ≤ b from z) (by omega)
  have hkB : k * oB ≤ 2048000000 := by
    have : k ≤ 511 := by omega
    calc k * oB ≤ 511 * 4000000 := Nat.mul_le_mul this (Nat.le_refl _)
      _ ≤ 2048000000 := by decide
  refine lv_aload_n hx hb dL_law_2203 rfl (lv_at hl 2 rfl) ?_
  refine lv_aload_n hx hb dL_law_2204 rfl (lv_at hl 1 rfl) ?_
  refine lv_iload hx hb dL_law_2205 (lv_at hl 0 rfl) ?_
  refine lv_iconst (v := 1) hx hb dL_law_2207 (by decide) ?_
  refine lv_iadd hx hb dL_law_2208 ?_
  refine sy_top (y := nI (7 * k + 1)) (nI_add _ _) ?_
  refine va_sld hx hb hX hbl hbA hS (vp_in_nI (show 7 * k + 1 < L by omega) (by omega)) dL_law_2209 ?_
  refine sy_top (y := xs (7 * k + 1)) (by rw [nI_clamp (by omega)]) ?_
  refine lv_aload_n hx hb dL_law_2210 rfl (lv_at hl 4 rfl) ?_
  have hCode : wf 9 1 9 (fX6_money g q (xs (7 * k + 1))).1 ≠ 9 := (by
        by_cases z : (fX6_money g q (xs (7 * k + 1))).1 = 0
        · rw [z]; exact (by decide : (0 : Int32) ≠ 9)
        · exact (st_no hI (fun gm hg => o_money (q' := (fX6_money g q (xs (7 * k + 1))).2.2.2) hg (xs (7 * k + 1))) n6_money (fun gm => f7_money) z).2.1)
  refine va_calli (vx_runSW (As := [.ref (ad 60), .int (xs (7 * k + 1)), .ref (ad 90)]) (rest := []) ⟨hx, hb, hml, hown, hts⟩ (mL_money l hfl Z nT nK cT cK ad g q (xs (7 * k + 1)) (by have := inv_T hI; omega) (inv_IG hI) (inv_IQ hI) hCode) (vx_cwSW 3 hts (gl_S uk_4_177 uk_4_178 uk_1_0 uk_4_179) rfl rfl rfl (by decide +kernel) ⟨Nat.le_of_ble_eq_true rfl, Nat.le_of_ble_eq_true rfl⟩) ⟨sPreL_blind _, fun U hU hW => ⟨rfl, ⟨hE.next hS hU hW.alike, by rw [hU]; exact hP⟩, hNc.next hW.alike⟩⟩ rfl rfl hl.1 rfl (lv_room (Nat.le_of_ble_eq_true rfl)) dL_law_2211 ⟨by show _ ≤ 601024; (try dsimp only); omega, by show _ ≤ 7293034; (try dsimp only); omega⟩) hS (fun _ _ h => h) (fun _ h => h) (fun r u t H locs ht _ hp hB _ _ hS => ?_)
  obtain ⟨g1, q1⟩ := u
  have hP := hB.2
  rw [ht] at hP
  dsimp only at hp hP
  rcases hp with ⟨h0, rfl, rfl, rfl⟩ | ⟨h0, rfl, hg9, hq9⟩
  · refine lv_istore (lv' := [(5, .int 0), (4, .int (nI (7 * k))), (0, .ref b), (1, .ref (ad 60)), (2, .ref (ad 0)), (3, .ref (ad 90))]) hx hb dL_law_2214 hl (by decide) rfl (fun ls hl => ?_)
    have st := st_yes hI (F := fun gm => fX7_money gm (fX6_money g q (xs (7 * k + 1))).2.2.2 (xs (7 * k + 1))) (fun gm hg => o_money (q' := (fX6_money g q (xs (7 * k + 1))).2.2.2) hg (xs (7 * k + 1))) f6_money (fun gm => f7_money) h0
    try dsimp only at st
    refine lv_aload_n hx hb dL_law_2216 rfl (lv_at hl 4 rfl) ?_
    refine lv_aload_n hx hb dL_law_2217 rfl (lv_at hl 2 rfl) ?_
    refine lv_iload hx hb dL_law_2218 (lv_at hl 1 rfl) ?_
    refine lv_iconst (v := 1) hx hb dL_law_2220 (by decide) ?_
    refine lv_iadd hx hb dL_law_2221 ?_
    refine sy_top (y := nI (7 * k + 1)) (nI_add _ _) ?_
    refine va_sld hx hb hX hbl hbA hS (vp_in_nI (show 7 * k + 1 < L by omega) (by omega)) dL_law_2222 ?_
    refine sy_top (y := xs (7 * k + 1)) (by rw [nI_clamp (by omega)]) ?_
    refine sy_ki (sy_rV (o := 0) (As := [.int (xs (7 * k + 1))]) (rest := []) ⟨hx, hb, hml, hown, hts⟩ hE hP hS (mX7_money l hfl Z nT nK cT cK ad (sy_up (fX6_money g q (xs (7 * k + 1))).2.2.1 90 0 (fX6_money g q (xs (7 * k + 1))).2.1) (fX6_money g q (xs (7 * k + 1))).2.2.2 (xs (7 * k + 1)) st.1.2.1) (cwV 1 hts (gl_V uk_6_50 uk_6_51 uk_6_52 uk_1_9 uk_6_53) rfl rfl rfl (by decide +kernel) ⟨Nat.le_of_ble_eq_true rfl, Nat.le_of_ble_eq_true rfl⟩) (sy_recv (kc := 8) hE hP rfl (by decide) rfl rfl rfl) rfl hl.1 rfl (Nat.le_of_ble_eq_true rfl) dL_law_2223 ⟨by show _ ≤ 601024; (try dsimp only); omega, by show _ ≤ 7293034; (try dsimp only); omega⟩) hS (fun b2 g2 q2 H locs e2 hP hS => ?_)
    obtain ⟨rfl, rfl, rfl⟩ : (fX7_money (sy_up (fX6_money g q (xs (7 * k + 1))).2.2.1 90 0 (fX6_money g q (xs (7 * k + 1))).2.1) (fX6_money g q (xs (7 * k + 1))).2.2.2 (xs (7 * k + 1))).1 = b2 ∧ (fX7_money (sy_up (fX6_money g q (xs (7 * k + 1))).2.2.1 90 0 (fX6_money g q (xs (7 * k + 1))).2.1) (fX6_money g q (xs (7 * k + 1))).2.2.2 (xs (7 * k + 1))).2 = g2 ∧ (fX6_money g q (xs (7 * k + 1))).2.2.2 = q2 := by cases e2; exact ⟨rfl, rfl, rfl⟩
    refine lv_istore (lv' := [(6, .int (fX7_money (sy_up (fX6_money g q (xs (7 * k + 1))).2.2.1 90 0 (fX6_money g q (xs (7 * k + 1))).2.1) (fX6_money g q (xs (7 * k + 1))).2.2.2 (xs (7 * k + 1))).1), (5, .int 0), (4, .int (nI (7 * k))), (0, .ref b), (1, .ref (ad 60)), (2, .ref (ad 0)), (3, .ref (ad 90))]) hx hb dL_law_2226 hl (by decide) rfl (fun ls hl => ?_)
    refine lv_aload_n hx hb dL_law_2228 rfl (lv_at hl 5 rfl) ?_
    refine sy_ki (sy_rV (o := 0) (As := []) (rest := []) ⟨hx, hb, hml, hown, hts⟩ hE hP hS (mX7_thrown l hfl Z nT nK cT cK ad (fX7_money (sy_up (fX6_money g q (xs (7 * k + 1))).2.2.1 90 0 (fX6_money g q (xs (7 * k + 1))).2.1) (fX6_money g q (xs (7 * k + 1))).2.2.2 (xs (7 * k + 1))).2 (fX6_money g q (xs (7 * k + 1))).2.2.2) (cwV 0 hts (gl_V uk_5_93 uk_5_94 uk_5_95 uk_1_9 uk_5_96) rfl rfl rfl (by decide +kernel) ⟨Nat.le_of_ble_eq_true rfl, Nat.le_of_ble_eq_true rfl⟩) (sy_recv (kc := 8) hE hP rfl (by decide) rfl rfl rfl) rfl hl.1 rfl (Nat.le_of_ble_eq_true rfl) dL_law_2229 ⟨by show _ ≤ 601024; (try dsimp only); omega, by show _ ≤ 7293034; (try dsimp only); omega⟩) hS (fun b3 g3 q3 H locs e3 hP hS => ?_)
    obtain ⟨rfl, rfl, rfl⟩ : (fX7_money (sy_up (fX6_money g q (xs (7 * k + 1))).2.2.1 90 0 (fX6_money g q (xs (7 * k + 1))).2.1) (fX6_money g q (xs (7 * k + 1))).2.2.2 (xs (7 * k + 1))).2 0 0 = b3 ∧ (fX7_money (sy_up (fX6_money g q (xs (7 * k + 1))).2.2.1 90 0 (fX6_money g q (xs (7 * k + 1))).2.1) (fX6_money g q (xs (7 * k + 1))).2.2.2 (xs (7 * k + 1))).2 = g3 ∧ (fX6_money g q (xs (7 * k + 1))).2.2.2 = q3 := by cases e3; exact ⟨rfl, rfl, rfl⟩
    refine sy_top (y := 0) st.2.1 ?_
    refine lv_iload hx hb dL_law_2232 (lv_at hl 1 rfl) ?_
    refine lv_icmp_eq (tgt := 2239) hx hb dL_law_2234 (by decide) (fun _ => ?_) (fun c9 => absurd rfl c9)
    refine lv_iload hx hb dL_law_2239 (lv_at hl 1 rfl) ?_
    refine lv_if_ne (tgt := 2256) hx hb dL_law_2241 (by decide) (fun c9 => absurd rfl c9) (fun _ => ?_)
    refine lv_aload_n hx hb dL_law_2244 rfl (lv_at hl 6 rfl) ?_
    refine lv_iconst (v := 0) hx hb dL_law_2245 (by decide) ?_
    refine sy_lald hx hb hE hP 90 rfl (i := 0) (k_in rfl) dL_law_2246 ?_
    refine lv_iload hx hb dL_law_2247 (lv_at hl 0 rfl) ?_
    refine lv_i2l (v := ((fX7_money (sy_up (fX6_money g q (xs (7 * k + 1))).2.2.1 90 0 (fX6_money g q (xs (7 * k + 1))).2.1) (fX6_money g q (xs (7 * k + 1))).2.2.2 (xs (7 * k + 1))).2 90 0).toInt64) hx hb dL_law_2249 (by rw [st.2.2.2.1, st.2.2.1]) ?_
    refine lv_lcmp0 hx hb dL_law_2250 ?_
    refine lv_if_eq (tgt := 2256) hx hb dL_law_2251 (by decide) (fun _ => ?_) (fun c9 => absurd rfl c9)
    refine lv_goto (tgt := 2272) hx hb dL_law_2256 (by decide) ?_
    refine W.widen (k := 100 + 16 * (k + 1)) (n := 4000 + 200 * (k + 1)) (by (try dsimp only); omega) (by (try dsimp only); omega) ?_
    exact hJ _ _ _ _ _ _ _ _ _ _ ⟨hP, by rw [Nat.succ_mul]; exact st.2.2.2.2, h70, h71, hS, lv_sub hl [2, 3, 4, 5, 6] rfl⟩
  · replace hg9 := hg9.symm
    replace hq9 := hq9.symm
    subst hg9
    subst hq9
    refine lv_istore (lv' := [(5, .int (wf 9 1 9 (fX6_money g q (xs (7 * k + 1))).1)), (4, .int (nI (7 * k))), (0, .ref b), (1, .ref (ad 60)), (2, .ref (ad 0)), (3, .ref (ad 90))]) hx hb dL_law_2214 hl (by decide) rfl (fun ls hl => ?_)
    have st := st_no hI (F := fun gm => fX7_money gm q (xs (7 * k + 1))) (fun gm hg => o_money (q' := q) hg (xs (7 * k + 1))) n6_money (fun gm => f7_money) h0
    try dsimp only at st
    refine lv_aload_n hx hb dL_law_2216 rfl (lv_at hl 4 rfl) ?_
    refine lv_aload_n hx hb dL_law_2217 rfl (lv_at hl 2 rfl) ?_
    refine lv_iload hx hb dL_law_2218 (lv_at hl 1 rfl) ?_
    refine lv_iconst (v := 1) hx hb dL_law_2220 (by decide) ?_
    refine lv_iadd hx hb dL_law_2221 ?_
    refine sy_top (y := nI (7 * k + 1)) (nI_add _ _) ?_
    refine va_sld hx hb hX hbl hbA hS (vp_in_nI (show 7 * k + 1 < L by omega) (by omega)) dL_law_2222 ?_
    refine sy_top (y := xs (7 * k + 1)) (by rw [nI_clamp (by omega)]) ?_
    refine sy_ki (sy_rV (o := 0) (As := [.int (xs (7 * k + 1))]) (rest := []) ⟨hx, hb, hml, hown, hts⟩ hE hP hS (mX7_money l hfl Z nT nK cT cK ad g q (xs (7 * k + 1)) hI.2.1) (cwV 1 hts (gl_V uk_6_50 uk_6_51 uk_6_52 uk_1_9 uk_6_53) rfl rfl rfl (by decide +kernel) ⟨Nat.le_of_ble_eq_true rfl, Nat.le_of_ble_eq_true rfl⟩) (sy_recv (kc := 8) hE hP rfl (by decide) rfl rfl rfl) rfl hl.1 rfl (Nat.le_of_ble_eq_true rfl) dL_law_2223 ⟨by show _ ≤ 601024; (try dsimp only); omega, by show _ ≤ 7293034; (try dsimp only); omega⟩) hS (fun b2 g2 q2 H locs e2 hP hS => ?_)
    obtain ⟨rfl, rfl, rfl⟩ : (fX7_money g q (xs (7 * k + 1))).1 = b2 ∧ (fX7_money g q (xs (7 * k + 1))).2 = g2 ∧ q = q2 := by cases e2; exact ⟨rfl, rfl, rfl⟩
    refine lv_istore (lv' := [(6, .int (fX7_money g q (xs (7 * k + 1))).1), (5, .int (wf 9 1 9 (fX6_money g q (xs (7 * k + 1))).1)), (4, .int (nI (7 * k))), (0, .ref b), (1, .ref (ad 60)), (2, .ref (ad 0)), (3, .ref (ad 90))]) hx hb dL_law_2226 hl (by decide) rfl (fun ls hl => ?_)
    refine lv_aload_n hx hb dL_law_2228 rfl (lv_at hl 5 rfl) ?_
    refine sy_ki (sy_rV (o := 0) (As := []) (rest := []) ⟨hx, hb, hml, hown, hts⟩ hE hP hS (mX7_thrown l hfl Z nT nK cT cK ad (fX7_money g q (xs (7 * k + 1))).2 q) (cwV 0 hts (gl_V uk_5_93 uk_5_94 uk_5_95 uk_1_9 uk_5_96) rfl rfl rfl (by decide +kernel) ⟨Nat.le_of_ble_eq_true rfl, Nat.le_of_ble_eq_true rfl⟩) (sy_recv (kc := 8) hE hP rfl (by decide) rfl rfl rfl) rfl hl.1 rfl (Nat.le_of_ble_eq_true rfl) dL_law_2229 ⟨by show _ ≤ 601024; (try dsimp only); omega, by show _ ≤ 7293034; (try dsimp only); omega⟩) hS (fun b3 g3 q3 H locs e3 hP hS => ?_)
    obtain ⟨rfl, rfl, rfl⟩ : (fX7_money g q (xs (7 * k + 1))).2 0 0 = b3 ∧ (fX7_money g q (xs (7 * k + 1))).2 = g3 ∧ q = q3 := by cases e3; exact ⟨rfl, rfl, rfl⟩
    refine sy_top (y := (wf 9 1 9 (fX6_money g q (xs (7 * k + 1))).1)) st.1 ?_
    refine lv_iload hx hb dL_law_2232 (lv_at hl 1 rfl) ?_
    refine lv_icmp_eq (tgt := 2239) hx hb dL_law_2234 (by decide) (fun _ => ?_) (fun c9 => absurd rfl c9)
    refine lv_iload hx hb dL_law_2239 (lv_at hl 1 rfl) ?_
    refine lv_if_ne (tgt := 2256) hx hb dL_law_2241 (by decide) (fun _ => ?_) (fun c9 => absurd c9 ((wf_ne h0 hCode).resolve_right (by decide)))
    refine lv_goto (tgt := 2272) hx hb dL_law_2256 (by decide) ?_
    refine W.widen (k := 100 + 16 * (k + 1)) (n := 4000 + 200 * (k + 1)) (by (try dsimp only); omega) (by (try dsimp only); omega) ?_
    exact hJ _ _ _ _ _ _ _ _ _ _ ⟨hP, by rw [Nat.succ_mul]; exact st.2.2, h70, h71, hS, lv_sub hl [2, 3, 4, 5, 6] rfl⟩
set_option maxHeartbeats 8000000 in
set_option maxRecDepth 100000 in
theorem lc_moneyAnew (hC : lCtx p l s m meth c b L xs Z) {k : Nat} (hk : 7 * k + 7 ≤ L) (hL : L ≤ 3584) (hJ : ∀ (nT nK cT cK : Nat) (ad : Nat → Nat) (g : sG) (q : sQ) (H : Heap) (locs : List Loc) (ls : Array Slot), lSt Z s b k (k + 1) nT nK cT cK ad g q H locs ls → W p l e room_1 s m #[Value.ref b] below meth c H locs (100 + 16 * (k + 1)) (4000 + 200 * (k + 1)) (lw_Z below #[Value.ref b] s) (F0 m 2272 ls []))
    {nT nK cT cK : Nat} {ad : Nat → Nat} {g : sG} {q : sQ} {H : Heap} {locs : List Loc} {ls : Array Slot} (h : lSt Z s b k k nT nK cT cK ad g q H locs ls) : W p l e room_1 s m #[Value.ref b] below meth c H locs (100 + 16 * k) (4000 + 200 * k) (lw_Z below #[Value.ref b] s) (F0 m 2259 ls []) := by
  obtain ⟨hx, hb, hr, hml, hown, hts, hX, hbl, hlocks, hZ, hE, hNc, hfl⟩ := hC
  obtain ⟨hP, hI, h70, h71, hS, hl⟩ := h
  have hbA : ¬ sy_A Z b := fun z => absurd (show Z.2.2.1 ≤ b from z) (by omega)
  have hkB : k * oB ≤ 2048000000 := by
    have : k ≤ 511 := by omega
    calc k * oB ≤ 511 * 4000000 := Nat.mul_le_mul this (Nat.le_refl _)
      _ ≤ 2048000000 := by decide
  refine lv_aload_n hx hb dL_law_2259 rfl (lv_at hl 2 rfl) ?_
  refine sy_ki (sy_rV (o := 60) (As := []) (rest := []) ⟨hx, hb, hml, hown, hts⟩ hE hP hS (mX6_moneyAnew l hfl Z nT nK cT cK ad g q (by have := inv_T hI; omega) (inv_IG hI) (inv_IQ hI)) (cwV 0 hts (gl_V uk_1_188 uk_1_189 uk_1_190 uk_1_1 uk_1_191) rfl rfl rfl (by decide +kernel) ⟨Nat.le_of_ble_eq_true rfl, Nat.le_of_ble_eq_true rfl⟩) (sy_recv (kc := 7) hE hP rfl (by decide) rfl rfl rfl) rfl hl.1 rfl (Nat.le_of_ble_eq_true rfl) dL_law_2260 ⟨by show _ ≤ 601024; (try dsimp only); omega, by show _ ≤ 7293034; (try dsimp only); omega⟩) hS (fun b1 g1 q1 H locs e1 hP hS => ?_)
  obtain ⟨rfl, rfl, rfl⟩ : fX6_moneyAnew g q = b1 ∧ g = g1 ∧ q = q1 := by cases e1; exact ⟨rfl, rfl, rfl⟩
  refine lv_aload_n hx hb dL_law_2263 rfl (lv_at hl 3 rfl) ?_
  refine sy_ki (sy_rV (o := 0) (As := []) (rest := [.int (fX6_moneyAnew g q)]) ⟨hx, hb, hml, hown, hts⟩ hE hP hS (mX7_moneyAnew l hfl Z nT nK cT cK ad g q) (cwV 0 hts (gl_V uk_6_54 uk_6_55 uk_6_56 uk_1_9 uk_6_57) rfl rfl rfl (by decide +kernel) ⟨Nat.le_of_ble_eq_true rfl, Nat.le_of_ble_eq_true rfl⟩) (sy_recv (kc := 8) hE hP rfl (by decide) rfl rfl rfl) rfl hl.1 rfl (Nat.le_of_ble_eq_true rfl) dL_law_2264 ⟨by show _ ≤ 601024; (try dsimp only); omega, by show _ ≤ 7293034; (try dsimp only); omega⟩) hS (fun b2 g2 q2 H locs e2 hP hS => ?_)
  obtain ⟨rfl, rfl, rfl⟩ : (fX7_moneyAnew g q).1 = b2 ∧ (fX7_moneyAnew g q).2 = g2 ∧ q = q2 := by cases e2; exact ⟨rfl, rfl, rfl⟩
  have st := o_moneyAnew (q' := q) hI
  refine sy_top (y := fX6_moneyAnew g q) st.1.symm ?_
  refine lv_icmp_eq (tgt := 2272) hx hb dL_law_2267 (by decide) (fun _ => ?_) (fun c9 => absurd rfl c9)
  refine W.widen (k := 100 + 16 * (k + 1)) (n := 4000 + 200 * (k + 1)) (by (try dsimp only); omega) (by (try dsimp only); omega) ?_
  exact hJ _ _ _ _ _ _ _ _ _ _ ⟨hP, by rw [Nat.succ_mul]; exact one_mem f7_moneyAnew st.2, h70, h71, hS, hl⟩
end LWC
