set_option maxHeartbeats 8000000 in
set_option maxRecDepth 100000 in
theorem nL_moneyHolds (l : Launch) (hfl : l.stackTraces = false) (Z : sZ) (nT nK cT cK : Nat) (ad : Nat → Nat) (g : sG) (q : sQ) {n : Nat} (hI : CI n nT nK cT cK g q) (hn : n ≤ 10000) : Met l yL_moneyHolds (uW (.code yL_moneyHolds cL_moneyHolds 8 (some FieldType.boolean))) { frames := 10, cells := 990, slots := 6000, locals := 169 } (va_Pc [.ref (ad 60), .int (nI nK)] (sPreL Z nT nK cT cK ad g q)) (sQi Z nT nK cT cK ad (fun r g1 q1 => r = 1 ∧ g1 = g ∧ q1 = q)) 990 6000 (sy_A Z) := by
  refine Met.ofW (cc := cL_moneyHolds) (maxL := 8) (ret := (some FieldType.boolean)) (by decide) rfl ?_
  intro p e s m args below meth c s₁ B hml hv
  obtain ⟨rfl, ⟨hE, hP⟩, hNc⟩ := hv
  have hx := B.exec
  have hb := B.bytes
  have hr := B.returns
  have hts := atoms_spec (ws := uW (.code yL_moneyHolds cL_moneyHolds 8 (some FieldType.boolean))) B.pre
  have hown : s.vm.findClass RL = some m.cls := findClass_of_methodNamed B.named
  have hlocks := B.notSynchronized
  have hS : va_S (sy_A Z) s.heap s.heap [] := va_S.rf
  have hl := lv_entry ([.ref (ad 60), .int (nI nK)]) (n := 8) (Nat.le_of_ble_eq_true rfl)
  rw [lg_entry_eq]
  generalize (lg_sl ([.ref (ad 60), .int (nI nK)]) ++ List.replicate (8 - (lg_sl ([.ref (ad 60), .int (nI nK)])).length) Slot.unset).toArray = ls at hl ⊢
  have hl : lv_has ls 8 [(0, .ref (ad 60)), (1, .int (nI nK))] := hl
  have hT40 := ci_T hI
  have hK40 := ci_K hI
  obtain ⟨fr1, fr2, fr3, fr4, fr5⟩ := ci_free hI hn
  have b0 := i32b (g 68 0)
  have b1 := i32b (g 68 1)
  have b2 := i32b (g 68 2)
  refine lv_lconst (v := lI 0) hx hb dL_moneyHolds_0 rfl ?_
  refine lv_lstore_n (lv' := [(2, .long (lI 0)), (0, .ref (ad 60)), (1, .int (nI nK))]) hx hb dL_moneyHolds_1 rfl hl (by decide) rfl (fun ls hl => ?_)
  refine lv_aload_n hx hb dL_moneyHolds_2 rfl (lv_at hl 1 rfl) ?_
  refine lv_iload_n hx hb dL_moneyHolds_3 rfl (lv_at hl 2 rfl) ?_
  refine lv_iconst (v := 0) hx hb dL_moneyHolds_4 (by decide) ?_
  refine sy_kl (vx_runSW (As := [.ref (ad 60), .int (nI nK), .int 0]) (rest := []) ⟨hx, hb, hml, hown, hts⟩ (mL_ticketOf l hfl Z nT nK cT cK ad g q (nI nK) 0 hI) (vx_cwSW 3 hts (gu_S uk_4_53 uk_4_54 uk_1_0 uk_4_55) rfl rfl rfl (by decide +kernel) ⟨Nat.le_of_ble_eq_true rfl, Nat.le_of_ble_eq_true rfl⟩) ⟨sPreL_blind _, fun U hU hW => ⟨rfl, ⟨hE.next hS hU hW.alike, by rw [hU]; exact hP⟩, hNc.next hW.alike⟩⟩ rfl rfl hl.1 rfl (lv_room (Nat.le_of_ble_eq_true rfl)) dL_moneyHolds_5 ⟨by show _ ≤ 990; (try dsimp only); omega, by show _ ≤ 6000; (try dsimp only); omega⟩) hS (fun r g1 q1 H locs e9 hP hS => ?_)
  obtain ⟨er, eg, eq⟩ := eq_n1 (a_Kno hI 0) e9
  subst er; subst eg; subst eq
  refine lv_ldc2 (v := lI (-9000000000000000001)) hx hb hown (hts _ (u_in uk_2_181)) dL_moneyHolds_8 ?_
  refine W.lcmp hx hb dL_moneyHolds_11 ?_
  refine lv_if_ne (tgt := 19) hx hb dL_moneyHolds_12 (by decide) (fun c9 => absurd (c_eq (a := (-9000000000000000001)) (b := (-9000000000000000001)) (by omega)) c9) (fun _ => ?_)
  refine lv_iconst (v := 1) hx hb dL_moneyHolds_15 (by decide) ?_
  refine lv_goto (tgt := 20) hx hb dL_moneyHolds_16 (by decide) ?_
  refine lv_istore (lv' := [(4, .int 1), (2, .long (lI 0)), (0, .ref (ad 60)), (1, .int (nI nK))]) hx hb dL_moneyHolds_20 hl (by decide) rfl (fun ls hl => ?_)
  refine lv_iconst (v := 0) hx hb dL_moneyHolds_22 (by decide) ?_
  refine lv_istore (lv' := [(5, .int 0), (4, .int 1), (2, .long (lI 0)), (0, .ref (ad 60)), (1, .int (nI nK))]) hx hb dL_moneyHolds_23 hl (by decide) rfl (fun ls hl => ?_)
  have hL1 : ∀ (f k : Nat), k + f = nK → ∀ (H : Heap) (locs : List Loc) (ls : Array Slot), Sy Z nT nK cT cK ad g q H → va_S (sy_A Z) s.heap H locs → lv_has ls 8 [(5, .int (nI k)), (4, .int 1), (2, .long (lI (isum (fun j => (g (200 + j) 14).toInt) k))), (0, .ref (ad 60)), (1, .int (nI nK))] → W p l e ({ frames := 10, cells := 990, slots := 6000, locals := 169 } : Room) s m ([.ref (ad 60), .int (nI nK)] : List Value).toArray below meth c H locs (2 + 24 * k) (12 + 144 * k) (MQ below (sQi Z nT nK cT cK ad (fun r g1 q1 => r = 1 ∧ g1 = g ∧ q1 = q)) ([.ref (ad 60), .int (nI nK)] : List Value).toArray s 990 6000 (sy_A Z)) (F0 m 25 ls []) := by
    intro f
    induction f with
    | zero =>
      intro k hkf H locs ls hP hS hl
      have hkn : k = nK := by omega
      have hsum : isum (fun j => (g (200 + j) 14).toInt) k = (g 68 1).toInt := by rw [hkn]; exact hI.2.2.2.2.2.1.2.1.symm
      refine lv_iload hx hb dL_moneyHolds_25 (lv_at hl 0 rfl) ?_
      refine lv_iload_n hx hb dL_moneyHolds_27 rfl (lv_at hl 4 rfl) ?_
      refine lv_icmp_ge (tgt := 199) hx hb dL_moneyHolds_28 (by decide) (fun _ => ?_) (fun c9 => absurd ((nI_leI (a := nK) (b := k) (by omega) (by omega)).mpr (by omega)) c9)
      refine lv_iload hx hb dL_moneyHolds_199 (lv_at hl 1 rfl) ?_
      refine lv_if_eq (tgt := 272) hx hb dL_moneyHolds_201 (by decide) (fun c9 => absurd c9 (by decide)) (fun _ => ?_)
      refine lv_lload_n hx hb dL_moneyHolds_204 rfl (lv_at hl 2 rfl) ?_
      refine lv_aload_n hx hb dL_moneyHolds_205 rfl (lv_at hl 3 rfl) ?_
      refine lv_iconst (v := 1) hx hb dL_moneyHolds_206 (by decide) ?_
      refine sy_kl (vx_runSW (As := [.ref (ad 60), .int 1]) (rest := [.long (lI (isum (fun j => (g (200 + j) 14).toInt) k))]) ⟨hx, hb, hml, hown, hts⟩ (mL_money l hfl Z nT nK cT cK ad g q 1 hI) (vx_cwSW 2 hts (gu_S uk_4_88 uk_4_89 uk_1_0 uk_4_90) rfl rfl rfl (by decide +kernel) ⟨Nat.le_of_ble_eq_true rfl, Nat.le_of_ble_eq_true rfl⟩) ⟨sPreL_blind _, fun U hU hW => ⟨rfl, ⟨hE.next hS hU hW.alike, by rw [hU]; exact hP⟩, hNc.next hW.alike⟩⟩ rfl rfl hl.1 rfl (lv_room (Nat.le_of_ble_eq_true rfl)) dL_moneyHolds_207 ⟨by show _ ≤ 990; (try dsimp only); omega, by show _ ≤ 6000; (try dsimp only); omega⟩) hS (fun r g1 q1 H locs e9 hP hS => ?_)
      obtain ⟨er, eg, eq⟩ := eq_q (z := (g 68 1).toInt) a_M.2.1 rfl e9
      subst er; subst eg; subst eq
      refine W.lcmp hx hb dL_moneyHolds_210 ?_
      refine lv_if_ne (tgt := 272) hx hb dL_moneyHolds_211 (by decide) (fun c9 => absurd (c_eq (a := isum (fun j => (g (200 + j) 14).toInt) k) (b := (g 68 1).toInt) (hsum)) c9) (fun _ => ?_)
      refine lv_aload_n hx hb dL_moneyHolds_214 rfl (lv_at hl 3 rfl) ?_
      refine lv_iconst (v := 0) hx hb dL_moneyHolds_215 (by decide) ?_
      refine sy_kl (vx_runSW (As := [.ref (ad 60), .int 0]) (rest := []) ⟨hx, hb, hml, hown, hts⟩ (mL_money l hfl Z nT nK cT cK ad g q 0 hI) (vx_cwSW 2 hts (gu_S uk_4_88 uk_4_89 uk_1_0 uk_4_90) rfl rfl rfl (by decide +kernel) ⟨Nat.le_of_ble_eq_true rfl, Nat.le_of_ble_eq_true rfl⟩) ⟨sPreL_blind _, fun U hU hW => ⟨rfl, ⟨hE.next hS hU hW.alike, by rw [hU]; exact hP⟩, hNc.next hW.alike⟩⟩ rfl rfl hl.1 rfl (lv_room (Nat.le_of_ble_eq_true rfl)) dL_moneyHolds_216 ⟨by show _ ≤ 990; (try dsimp only); omega, by show _ ≤ 6000; (try dsimp only); omega⟩) hS (fun r g1 q1 H locs e9 hP hS => ?_)
      obtain ⟨er, eg, eq⟩ := eq_q (z := (g 68 0).toInt) a_M.1 rfl e9
      subst er; subst eg; subst eq
      refine lv_aload_n hx hb dL_moneyHolds_219 rfl (lv_at hl 3 rfl) ?_
      refine sy_ki (sy_rV (o := 60) (As := []) (rest := [.long (lI ((g 68 0).toInt))]) ⟨hx, hb, hml, hown, hts⟩ hE hP hS (mX6_moneyAnew l hfl Z nT nK cT cK ad g q (by have := ci_T hI; omega) (ci_IG hI) (ci_IQ hI)) (cwV 0 hts (gu_V uk_4_123 uk_4_124 uk_4_125 uk_1_1 uk_4_126) rfl rfl rfl (by decide +kernel) ⟨Nat.le_of_ble_eq_true rfl, Nat.le_of_ble_eq_true rfl⟩) (sy_recv (kc := 7) hE hP rfl (by decide) rfl rfl rfl) rfl hl.1 rfl (Nat.le_of_ble_eq_true rfl) dL_moneyHolds_220 ⟨by show _ ≤ 990; (try dsimp only); omega, by show _ ≤ 6000; (try dsimp only); omega⟩) hS (fun r g1 q1 H locs e9 hP hS => ?_)
      obtain ⟨er, eg, eq⟩ : g 68 0 = r ∧ g = g1 ∧ q = q1 := by rw [a_MA hI] at e9; cases e9; exact ⟨rfl, rfl, rfl⟩
      subst er; subst eg; subst eq
      refine lv_i2l (v := lI (g 68 0).toInt) hx hb dL_moneyHolds_223 (i_L _) ?_
      refine W.lcmp hx hb dL_moneyHolds_224 ?_
      refine lv_if_ne (tgt := 272) hx hb dL_moneyHolds_225 (by decide) (fun c9 => absurd (c_eq (a := (g 68 0).toInt) (b := (g 68 0).toInt) (by omega)) c9) (fun _ => ?_)
      refine lv_aload_n hx hb dL_moneyHolds_228 rfl (lv_at hl 3 rfl) ?_
      refine lv_iconst (v := 2) hx hb dL_moneyHolds_229 (by decide) ?_
      refine sy_kl (vx_runSW (As := [.ref (ad 60), .int 2]) (rest := []) ⟨hx, hb, hml, hown, hts⟩ (mL_money l hfl Z nT nK cT cK ad g q 2 hI) (vx_cwSW 2 hts (gu_S uk_4_88 uk_4_89 uk_1_0 uk_4_90) rfl rfl rfl (by decide +kernel) ⟨Nat.le_of_ble_eq_true rfl, Nat.le_of_ble_eq_true rfl⟩) ⟨sPreL_blind _, fun U hU hW => ⟨rfl, ⟨hE.next hS hU hW.alike, by rw [hU]; exact hP⟩, hNc.next hW.alike⟩⟩ rfl rfl hl.1 rfl (lv_room (Nat.le_of_ble_eq_true rfl)) dL_moneyHolds_230 ⟨by show _ ≤ 990; (try dsimp only); omega, by show _ ≤ 6000; (try dsimp only); omega⟩) hS (fun r g1 q1 H locs e9 hP hS => ?_)
      obtain ⟨er, eg, eq⟩ := eq_q (z := (g 68 0).toInt - (g 68 1).toInt) a_M.2.2.1 fr1 e9
      subst er; subst eg; subst eq
      refine lv_aload_n hx hb dL_moneyHolds_233 rfl (lv_at hl 3 rfl) ?_
      refine lv_iconst (v := 0) hx hb dL_moneyHolds_234 (by decide) ?_
      refine sy_kl (vx_runSW (As := [.ref (ad 60), .int 0]) (rest := [.long (lI ((g 68 0).toInt - (g 68 1).toInt))]) ⟨hx, hb, hml, hown, hts⟩ (mL_money l hfl Z nT nK cT cK ad g q 0 hI) (vx_cwSW 2 hts (gu_S uk_4_88 uk_4_89 uk_1_0 uk_4_90) rfl rfl rfl (by decide +kernel) ⟨Nat.le_of_ble_eq_true rfl, Nat.le_of_ble_eq_true rfl⟩) ⟨sPreL_blind _, fun U hU hW => ⟨rfl, ⟨hE.next hS hU hW.alike, by rw [hU]; exact hP⟩, hNc.next hW.alike⟩⟩ rfl rfl hl.1 rfl (lv_room (Nat.le_of_ble_eq_true rfl)) dL_moneyHolds_235 ⟨by show _ ≤ 990; (try dsimp only); omega, by show _ ≤ 6000; (try dsimp only); omega⟩) hS (fun r g1 q1 H locs e9 hP hS => ?_)
      obtain ⟨er, eg, eq⟩ := eq_q (z := (g 68 0).toInt) a_M.1 rfl e9
      subst er; subst eg; subst eq
      refine lv_aload_n hx hb dL_moneyHolds_238 rfl (lv_at hl 3 rfl) ?_
      refine lv_iconst (v := 1) hx hb dL_moneyHolds_239 (by decide) ?_
      refine sy_kl (vx_runSW (As := [.ref (ad 60), .int 1]) (rest := [.long (lI ((g 68 0).toInt)), .long (lI ((g 68 0).toInt - (g 68 1).toInt))]) ⟨hx, hb, hml, hown, hts⟩ (mL_money l hfl Z nT nK cT cK ad g q 1 hI) (vx_cwSW 2 hts (gu_S uk_4_88 uk_4_89 uk_1_0 uk_4_90) rfl rfl rfl (by decide +kernel) ⟨Nat.le_of_ble_eq_true rfl, Nat.le_of_ble_eq_true rfl⟩) ⟨sPreL_blind _, fun U hU hW => ⟨rfl, ⟨hE.next hS hU hW.alike, by rw [hU]; exact hP⟩, hNc.next hW.alike⟩⟩ rfl rfl hl.1 rfl (lv_room (Nat.le_of_ble_eq_true rfl)) dL_moneyHolds_240 ⟨by show _ ≤ 990; (try dsimp only); omega, by show _ ≤ 6000; (try dsimp only); omega⟩) hS (fun r g1 q1 H locs e9 hP hS => ?_)
      obtain ⟨er, eg, eq⟩ := eq_q (z := (g 68 1).toInt) a_M.2.1 rfl e9
      subst er; subst eg; subst eq
      refine lv_lsub hx hb dL_moneyHolds_243 ?_
      refine sy_topL (y := lI ((g 68 0).toInt - (g 68 1).toInt)) (lI_sub _ _) ?_
      refine W.lcmp hx hb dL_moneyHolds_244 ?_
      refine lv_if_ne (tgt := 272) hx hb dL_moneyHolds_245 (by decide) (fun c9 => absurd (c_eq (a := (g 68 0).toInt - (g 68 1).toInt) (b := ((g 68 0).toInt - (g 68 1).toInt)) (by omega)) c9) (fun _ => ?_)
      refine lv_aload_n hx hb dL_moneyHolds_248 rfl (lv_at hl 3 rfl) ?_
      refine lv_iconst (v := 2) hx hb dL_moneyHolds_249 (by decide) ?_
      refine sy_kl (vx_runSW (As := [.ref (ad 60), .int 2]) (rest := []) ⟨hx, hb, hml, hown, hts⟩ (mL_money l hfl Z nT nK cT cK ad g q 2 hI) (vx_cwSW 2 hts (gu_S uk_4_88 uk_4_89 uk_1_0 uk_4_90) rfl rfl rfl (by decide +kernel) ⟨Nat.le_of_ble_eq_true rfl, Nat.le_of_ble_eq_true rfl⟩) ⟨sPreL_blind _, fun U hU hW => ⟨rfl, ⟨hE.next hS hU hW.alike, by rw [hU]; exact hP⟩, hNc.next hW.alike⟩⟩ rfl rfl hl.1 rfl (lv_room (Nat.le_of_ble_eq_true rfl)) dL_moneyHolds_250 ⟨by show _ ≤ 990; (try dsimp only); omega, by show _ ≤ 6000; (try dsimp only); omega⟩) hS (fun r g1 q1 H locs e9 hP hS => ?_)
      obtain ⟨er, eg, eq⟩ := eq_q (z := (g 68 0).toInt - (g 68 1).toInt) a_M.2.2.1 fr1 e9
      subst er; subst eg; subst eq
      refine lv_lconst (v := lI 0) hx hb dL_moneyHolds_253 rfl ?_
      refine W.lcmp hx hb dL_moneyHolds_254 ?_
      refine lv_if_lt (tgt := 272) hx hb dL_moneyHolds_255 (by decide) (fun c9 => absurd c9 (c_ge (a := (g 68 0).toInt - (g 68 1).toInt) (b := 0) (by omega) (by omega) (by omega))) (fun _ => ?_)
      refine lv_aload_n hx hb dL_moneyHolds_258 rfl (lv_at hl 3 rfl) ?_
      refine lv_iconst (v := 3) hx hb dL_moneyHolds_259 (by decide) ?_
      refine sy_kl (vx_runSW (As := [.ref (ad 60), .int 3]) (rest := []) ⟨hx, hb, hml, hown, hts⟩ (mL_money l hfl Z nT nK cT cK ad g q 3 hI) (vx_cwSW 2 hts (gu_S uk_4_88 uk_4_89 uk_1_0 uk_4_90) rfl rfl rfl (by decide +kernel) ⟨Nat.le_of_ble_eq_true rfl, Nat.le_of_ble_eq_true rfl⟩) ⟨sPreL_blind _, fun U hU hW => ⟨rfl, ⟨hE.next hS hU hW.alike, by rw [hU]; exact hP⟩, hNc.next hW.alike⟩⟩ rfl rfl hl.1 rfl (lv_room (Nat.le_of_ble_eq_true rfl)) dL_moneyHolds_260 ⟨by show _ ≤ 990; (try dsimp only); omega, by show _ ≤ 6000; (try dsimp only); omega⟩) hS (fun r g1 q1 H locs e9 hP hS => ?_)
      obtain ⟨er, eg, eq⟩ := eq_q (z := (g 68 2).toInt) a_M.2.2.2 rfl e9
      subst er; subst eg; subst eq
      refine lv_lconst (v := lI 0) hx hb dL_moneyHolds_263 rfl ?_
      refine W.lcmp hx hb dL_moneyHolds_264 ?_
      refine lv_if_lt (tgt := 272) hx hb dL_moneyHolds_265 (by decide) (fun c9 => absurd c9 (c_ge (a := (g 68 2).toInt) (b := 0) (by omega) (by omega) (by omega))) (fun _ => ?_)
      refine lv_iconst (v := 1) hx hb dL_moneyHolds_268 (by decide) ?_
      refine lv_goto (tgt := 273) hx hb dL_moneyHolds_269 (by decide) ?_
      exact sy_iretz hx hb hr hlocks hE hP hS dL_moneyHolds_273 ⟨by (try dsimp only); omega, by (try dsimp only); omega⟩ (by decide) ⟨rfl, rfl, rfl⟩
    | succ f ih =>
      intro k hkf H locs ls hP hS hl
      have hk : k < nK := by omega
      obtain ⟨k0, k6, k7, k8, k11, k13, k14, ks⟩ := hI.2.2.2.2.1 k hk
      obtain ⟨in1, in2⟩ := in_bd hI hk
      have b3 := i32b (g (200 + k) 14)
      have b4 := i32b (g (200 + k) 7)
      have kp := kept_k hI k (by omega)
      have hbar : 0 ≤ (barI g q k).toInt ∧ (barI g q k).toInt ≤ 3 := by rcases bar_in (g := g) (q := q) (j := k) with z | z | z | z <;> rw [z] <;> decide
      rcases (show g (200 + k) 7 = 0 ∨ g (200 + k) 7 = 2 ∨ (g (200 + k) 7 ≠ 0 ∧ g (200 + k) 7 ≠ 2) by
          by_cases z : g (200 + k) 7 = 0
          · exact Or.inl z
          · by_cases z2 : g (200 + k) 7 = 2
            · exact Or.inr (Or.inl z2)
            · exact Or.inr (Or.inr ⟨z, z2⟩)) with h7 | h7 | ⟨h7, h72⟩
      · skip
        have hs0 : (g (200 + k) 14).toInt = 0 := by
          rcases ks with z | z
          · rw [z]; rfl
          · exact absurd z (by rw [h7]; decide)
        refine lv_iload hx hb dL_moneyHolds_25 (lv_at hl 0 rfl) ?_
        refine lv_iload_n hx hb dL_moneyHolds_27 rfl (lv_at hl 4 rfl) ?_
        refine lv_icmp_ge (tgt := 199) hx hb dL_moneyHolds_28 (by decide) (fun c9 => absurd c9 (mt (nI_leI (a := nK) (b := k) (by omega) (by omega)).mp (by omega))) (fun _ => ?_)
        refine lv_iload hx hb dL_moneyHolds_31 (lv_at hl 1 rfl) ?_
        refine lv_if_eq (tgt := 199) hx hb dL_moneyHolds_33 (by decide) (fun c9 => absurd c9 (by decide)) (fun _ => ?_)
        refine lv_aload_n hx hb dL_moneyHolds_36 rfl (lv_at hl 3 rfl) ?_
        refine lv_iload hx hb dL_moneyHolds_37 (lv_at hl 0 rfl) ?_
        refine lv_iconst (v := 0) hx hb dL_moneyHolds_39 (by decide) ?_
        refine sy_kl (vx_runSW (As := [.ref (ad 60), .int (nI k), .int 0]) (rest := []) ⟨hx, hb, hml, hown, hts⟩ (mL_ticketOf l hfl Z nT nK cT cK ad g q (nI k) 0 hI) (vx_cwSW 3 hts (gu_S uk_4_53 uk_4_54 uk_1_0 uk_4_55) rfl rfl rfl (by decide +kernel) ⟨Nat.le_of_ble_eq_true rfl, Nat.le_of_ble_eq_true rfl⟩) ⟨sPreL_blind _, fun U hU hW => ⟨rfl, ⟨hE.next hS hU hW.alike, by rw [hU]; exact hP⟩, hNc.next hW.alike⟩⟩ rfl rfl hl.1 rfl (lv_room (Nat.le_of_ble_eq_true rfl)) dL_moneyHolds_40 ⟨by show _ ≤ 990; (try dsimp only); omega, by show _ ≤ 6000; (try dsimp only); omega⟩) hS (fun r g1 q1 H locs e9 hP hS => ?_)
        obtain ⟨er, eg, eq⟩ := eq_q (z := 0) (a_K hI hk).1 (by rw [h7]; rfl) e9
        subst er; subst eg; subst eq
        refine lv_lstore (lv' := [(6, .long (lI 0)), (5, .int (nI k)), (4, .int 1), (2, .long (lI (isum (fun j => (g (200 + j) 14).toInt) k))), (0, .ref (ad 60)), (1, .int (nI nK))]) hx hb dL_moneyHolds_43 hl (by decide) rfl (fun ls hl => ?_)
        refine lv_lload_n hx hb dL_moneyHolds_45 rfl (lv_at hl 3 rfl) ?_
        refine lv_aload_n hx hb dL_moneyHolds_46 rfl (lv_at hl 4 rfl) ?_
        refine lv_iload hx hb dL_moneyHolds_47 (lv_at hl 1 rfl) ?_
        refine lv_bipush (v := 7) hx hb dL_moneyHolds_49 (by decide) ?_
        refine sy_kl (vx_runSW (As := [.ref (ad 60), .int (nI k), .int 7]) (rest := [.long (lI (isum (fun j => (g (200 + j) 14).toInt) k))]) ⟨hx, hb, hml, hown, hts⟩ (mL_ticketOf l hfl Z nT nK cT cK ad g q (nI k) 7 hI) (vx_cwSW 3 hts (gu_S uk_4_53 uk_4_54 uk_1_0 uk_4_55) rfl rfl rfl (by decide +kernel) ⟨Nat.le_of_ble_eq_true rfl, Nat.le_of_ble_eq_true rfl⟩) ⟨sPreL_blind _, fun U hU hW => ⟨rfl, ⟨hE.next hS hU hW.alike, by rw [hU]; exact hP⟩, hNc.next hW.alike⟩⟩ rfl rfl hl.1 rfl (lv_room (Nat.le_of_ble_eq_true rfl)) dL_moneyHolds_51 ⟨by show _ ≤ 990; (try dsimp only); omega, by show _ ≤ 6000; (try dsimp only); omega⟩) hS (fun r g1 q1 H locs e9 hP hS => ?_)
        obtain ⟨er, eg, eq⟩ := eq_q (z := (g (200 + k) 14).toInt) (a_K hI hk).2.2.2.2.2.2.2.1 rfl e9
        subst er; subst eg; subst eq
        refine lv_ladd hx hb dL_moneyHolds_54 ?_
        refine sy_topL (y := lI (isum (fun j => (g (200 + j) 14).toInt) k + (g (200 + k) 14).toInt)) (lI_add _ _) ?_
        refine lv_lstore_n (lv' := [(2, .long (lI (isum (fun j => (g (200 + j) 14).toInt) k + (g (200 + k) 14).toInt))), (6, .long (lI 0)), (5, .int (nI k)), (4, .int 1), (0, .ref (ad 60)), (1, .int (nI nK))]) hx hb dL_moneyHolds_55 rfl hl (by decide) rfl (fun ls hl => ?_)
        refine lv_aload_n hx hb dL_moneyHolds_56 rfl (lv_at hl 4 rfl) ?_
        refine lv_iload hx hb dL_moneyHolds_57 (lv_at hl 2 rfl) ?_
        refine lv_iconst (v := 3) hx hb dL_moneyHolds_59 (by decide) ?_
        refine sy_kl (vx_runSW (As := [.ref (ad 60), .int (nI k), .int 3]) (rest := []) ⟨hx, hb, hml, hown, hts⟩ (mL_ticketOf l hfl Z nT nK cT cK ad g q (nI k) 3 hI) (vx_cwSW 3 hts (gu_S uk_4_53 uk_4_54 uk_1_0 uk_4_55) rfl rfl rfl (by decide +kernel) ⟨Nat.le_of_ble_eq_true rfl, Nat.le_of_ble_eq_true rfl⟩) ⟨sPreL_blind _, fun U hU hW => ⟨rfl, ⟨hE.next hS hU hW.alike, by rw [hU]; exact hP⟩, hNc.next hW.alike⟩⟩ rfl rfl hl.1 rfl (lv_room (Nat.le_of_ble_eq_true rfl)) dL_moneyHolds_60 ⟨by show _ ≤ 990; (try dsimp only); omega, by show _ ≤ 6000; (try dsimp only); omega⟩) hS (fun r g1 q1 H locs e9 hP hS => ?_)
        obtain ⟨er, eg, eq⟩ := eq_q (z := (fX6_interestNow g q k).toInt) (a_K hI hk).2.2.2.1 rfl e9
        subst er; subst eg; subst eq
        refine lv_aload_n hx hb dL_moneyHolds_63 rfl (lv_at hl 4 rfl) ?_
        refine lv_iload hx hb dL_moneyHolds_64 (lv_at hl 2 rfl) ?_
        refine sy_kl (vx_runSW (As := [.ref (ad 60), .int (nI k)]) (rest := [.long (lI ((fX6_interestNow g q k).toInt))]) ⟨hx, hb, hml, hown, hts⟩ (mL_interestAnew l hfl Z nT nK cT cK ad g q (nI k) hI) (vx_cwSW 2 hts (gu_S uk_4_110 uk_4_111 uk_1_0 uk_4_112) rfl rfl rfl (by decide +kernel) ⟨Nat.le_of_ble_eq_true rfl, Nat.le_of_ble_eq_true rfl⟩) ⟨sPreL_blind _, fun U hU hW => ⟨rfl, ⟨hE.next hS hU hW.alike, by rw [hU]; exact hP⟩, hNc.next hW.alike⟩⟩ rfl rfl hl.1 rfl (lv_room (Nat.le_of_ble_eq_true rfl)) dL_moneyHolds_66 ⟨by show _ ≤ 990; (try dsimp only); omega, by show _ ≤ 6000; (try dsimp only); omega⟩) hS (fun r g1 q1 H locs e9 hP hS => ?_)
        obtain ⟨er, eg, eq⟩ := eq_q (z := (fX6_interestNow g q k).toInt) (a_N hI hk) rfl e9
        subst er; subst eg; subst eq
        refine W.lcmp hx hb dL_moneyHolds_69 ?_
        refine lv_if_ne (tgt := 190) hx hb dL_moneyHolds_70 (by decide) (fun c9 => absurd (c_eq (a := (fX6_interestNow g q k).toInt) (b := (fX6_interestNow g q k).toInt) (by omega)) c9) (fun _ => ?_)
        refine lv_aload_n hx hb dL_moneyHolds_73 rfl (lv_at hl 4 rfl) ?_
        refine lv_iload hx hb dL_moneyHolds_74 (lv_at hl 2 rfl) ?_
        refine lv_iconst (v := 3) hx hb dL_moneyHolds_76 (by decide) ?_
        refine sy_kl (vx_runSW (As := [.ref (ad 60), .int (nI k), .int 3]) (rest := []) ⟨hx, hb, hml, hown, hts⟩ (mL_ticketOf l hfl Z nT nK cT cK ad g q (nI k) 3 hI) (vx_cwSW 3 hts (gu_S uk_4_53 uk_4_54 uk_1_0 uk_4_55) rfl rfl rfl (by decide +kernel) ⟨Nat.le_of_ble_eq_true rfl, Nat.le_of_ble_eq_true rfl⟩) ⟨sPreL_blind _, fun U hU hW => ⟨rfl, ⟨hE.next hS hU hW.alike, by rw [hU]; exact hP⟩, hNc.next hW.alike⟩⟩ rfl rfl hl.1 rfl (lv_room (Nat.le_of_ble_eq_true rfl)) dL_moneyHolds_77 ⟨by show _ ≤ 990; (try dsimp only); omega, by show _ ≤ 6000; (try dsimp only); omega⟩) hS (fun r g1 q1 H locs e9 hP hS => ?_)
        obtain ⟨er, eg, eq⟩ := eq_q (z := (fX6_interestNow g q k).toInt) (a_K hI hk).2.2.2.1 rfl e9
        subst er; subst eg; subst eq
        refine lv_lconst (v := lI 0) hx hb dL_moneyHolds_80 rfl ?_
        refine W.lcmp hx hb dL_moneyHolds_81 ?_
        refine lv_if_lt (tgt := 190) hx hb dL_moneyHolds_82 (by decide) (fun c9 => absurd c9 (c_ge (a := (fX6_interestNow g q k).toInt) (b := 0) (by omega) (by omega) (by omega))) (fun _ => ?_)
        refine lv_lload hx hb dL_moneyHolds_85 (lv_at hl 1 rfl) ?_
        refine lv_lconst (v := lI 0) hx hb dL_moneyHolds_87 rfl ?_
        refine W.lcmp hx hb dL_moneyHolds_88 ?_
        refine lv_if_eq (tgt := 104) hx hb dL_moneyHolds_89 (by decide) (fun _ => ?_) (fun c9 => absurd (c_eq (a := 0) (b := 0) (by omega)) c9)
        refine lv_lload hx hb dL_moneyHolds_104 (lv_at hl 1 rfl) ?_
        refine lv_ldc2 (v := lI (2)) hx hb hown (hts _ (u_in uk_4_121)) dL_moneyHolds_106 ?_
        refine W.lcmp hx hb dL_moneyHolds_109 ?_
        refine lv_if_eq (tgt := 126) hx hb dL_moneyHolds_110 (by decide) (fun c9 => absurd c9 (c_ne (a := 0) (b := (2)) (by omega) (by omega) (by omega))) (fun _ => ?_)
        refine lv_aload_n hx hb dL_moneyHolds_113 rfl (lv_at hl 4 rfl) ?_
        refine lv_iload hx hb dL_moneyHolds_114 (lv_at hl 2 rfl) ?_
        refine lv_bipush (v := 7) hx hb dL_moneyHolds_116 (by decide) ?_
        refine sy_kl (vx_runSW (As := [.ref (ad 60), .int (nI k), .int 7]) (rest := []) ⟨hx, hb, hml, hown, hts⟩ (mL_ticketOf l hfl Z nT nK cT cK ad g q (nI k) 7 hI) (vx_cwSW 3 hts (gu_S uk_4_53 uk_4_54 uk_1_0 uk_4_55) rfl rfl rfl (by decide +kernel) ⟨Nat.le_of_ble_eq_true rfl, Nat.le_of_ble_eq_true rfl⟩) ⟨sPreL_blind _, fun U hU hW => ⟨rfl, ⟨hE.next hS hU hW.alike, by rw [hU]; exact hP⟩, hNc.next hW.alike⟩⟩ rfl rfl hl.1 rfl (lv_room (Nat.le_of_ble_eq_true rfl)) dL_moneyHolds_118 ⟨by show _ ≤ 990; (try dsimp only); omega, by show _ ≤ 6000; (try dsimp only); omega⟩) hS (fun r g1 q1 H locs e9 hP hS => ?_)
        obtain ⟨er, eg, eq⟩ := eq_q (z := (g (200 + k) 14).toInt) (a_K hI hk).2.2.2.2.2.2.2.1 rfl e9
        subst er; subst eg; subst eq
        refine lv_lconst (v := lI 0) hx hb dL_moneyHolds_121 rfl ?_
        refine W.lcmp hx hb dL_moneyHolds_122 ?_
        refine lv_if_ne (tgt := 190) hx hb dL_moneyHolds_123 (by decide) (fun c9 => absurd (c_eq (a := (g (200 + k) 14).toInt) (b := 0) (by omega)) c9) (fun _ => ?_)
        refine lv_aload_n hx hb dL_moneyHolds_126 rfl (lv_at hl 4 rfl) ?_
        refine lv_iload hx hb dL_moneyHolds_127 (lv_at hl 2 rfl) ?_
        refine lv_bipush (v := 8) hx hb dL_moneyHolds_129 (by decide) ?_
        refine sy_kl (vx_runSW (As := [.ref (ad 60), .int (nI k), .int 8]) (rest := []) ⟨hx, hb, hml, hown, hts⟩ (mL_ticketOf l hfl Z nT nK cT cK ad g q (nI k) 8 hI) (vx_cwSW 3 hts (gu_S uk_4_53 uk_4_54 uk_1_0 uk_4_55) rfl rfl rfl (by decide +kernel) ⟨Nat.le_of_ble_eq_true rfl, Nat.le_of_ble_eq_true rfl⟩) ⟨sPreL_blind _, fun U hU hW => ⟨rfl, ⟨hE.next hS hU hW.alike, by rw [hU]; exact hP⟩, hNc.next hW.alike⟩⟩ rfl rfl hl.1 rfl (lv_room (Nat.le_of_ble_eq_true rfl)) dL_moneyHolds_131 ⟨by show _ ≤ 990; (try dsimp only); omega, by show _ ≤ 6000; (try dsimp only); omega⟩) hS (fun r g1 q1 H locs e9 hP hS => ?_)
        obtain ⟨er, eg, eq⟩ := eq_q (z := (barI g q k).toInt) (a_K hI hk).2.2.2.2.2.2.2.2.1 rfl e9
        subst er; subst eg; subst eq
        refine lv_lconst (v := lI 0) hx hb dL_moneyHolds_134 rfl ?_
        refine W.lcmp hx hb dL_moneyHolds_135 ?_
        refine lv_if_lt (tgt := 190) hx hb dL_moneyHolds_136 (by decide) (fun c9 => absurd c9 (c_ge (a := (barI g q k).toInt) (b := 0) (by omega) (by omega) (by omega))) (fun _ => ?_)
        refine lv_aload_n hx hb dL_moneyHolds_139 rfl (lv_at hl 4 rfl) ?_
        refine lv_iload hx hb dL_moneyHolds_140 (lv_at hl 2 rfl) ?_
        refine lv_bipush (v := 8) hx hb dL_moneyHolds_142 (by decide) ?_
        refine sy_kl (vx_runSW (As := [.ref (ad 60), .int (nI k), .int 8]) (rest := []) ⟨hx, hb, hml, hown, hts⟩ (mL_ticketOf l hfl Z nT nK cT cK ad g q (nI k) 8 hI) (vx_cwSW 3 hts (gu_S uk_4_53 uk_4_54 uk_1_0 uk_4_55) rfl rfl rfl (by decide +kernel) ⟨Nat.le_of_ble_eq_true rfl, Nat.le_of_ble_eq_true rfl⟩) ⟨sPreL_blind _, fun U hU hW => ⟨rfl, ⟨hE.next hS hU hW.alike, by rw [hU]; exact hP⟩, hNc.next hW.alike⟩⟩ rfl rfl hl.1 rfl (lv_room (Nat.le_of_ble_eq_true rfl)) dL_moneyHolds_144 ⟨by show _ ≤ 990; (try dsimp only); omega, by show _ ≤ 6000; (try dsimp only); omega⟩) hS (fun r g1 q1 H locs e9 hP hS => ?_)
        obtain ⟨er, eg, eq⟩ := eq_q (z := (barI g q k).toInt) (a_K hI hk).2.2.2.2.2.2.2.2.1 rfl e9
        subst er; subst eg; subst eq
        refine lv_ldc2 (v := lI (3)) hx hb hown (hts _ (u_in uk_4_122)) dL_moneyHolds_147 ?_
        refine W.lcmp hx hb dL_moneyHolds_150 ?_
        refine lv_if_gt (tgt := 190) hx hb dL_moneyHolds_151 (by decide) (fun c9 => absurd c9 (c_le (a := (barI g q k).toInt) (b := (3)) (by omega) (by omega) (by omega))) (fun _ => ?_)
        refine lv_aload_n hx hb dL_moneyHolds_154 rfl (lv_at hl 4 rfl) ?_
        refine lv_iload hx hb dL_moneyHolds_155 (lv_at hl 2 rfl) ?_
        refine lv_iconst (v := 2) hx hb dL_moneyHolds_157 (by decide) ?_
        refine sy_kl (vx_runSW (As := [.ref (ad 60), .int (nI k), .int 2]) (rest := []) ⟨hx, hb, hml, hown, hts⟩ (mL_ticketOf l hfl Z nT nK cT cK ad g q (nI k) 2 hI) (vx_cwSW 3 hts (gu_S uk_4_53 uk_4_54 uk_1_0 uk_4_55) rfl rfl rfl (by decide +kernel) ⟨Nat.le_of_ble_eq_true rfl, Nat.le_of_ble_eq_true rfl⟩) ⟨sPreL_blind _, fun U hU hW => ⟨rfl, ⟨hE.next hS hU hW.alike, by rw [hU]; exact hP⟩, hNc.next hW.alike⟩⟩ rfl rfl hl.1 rfl (lv_room (Nat.le_of_ble_eq_true rfl)) dL_moneyHolds_158 ⟨by show _ ≤ 990; (try dsimp only); omega, by show _ ≤ 6000; (try dsimp only); omega⟩) hS (fun r g1 q1 H locs e9 hP hS => ?_)
        obtain ⟨er, eg, eq⟩ := eq_q (z := (g (200 + k) 8).toInt) (a_K hI hk).2.2.1 rfl e9
        subst er; subst eg; subst eq
        refine lv_lconst (v := lI 1) hx hb dL_moneyHolds_161 rfl ?_
        refine W.lcmp hx hb dL_moneyHolds_162 ?_
        refine lv_if_lt (tgt := 190) hx hb dL_moneyHolds_163 (by decide) (fun c9 => absurd c9 (c_ge (a := (g (200 + k) 8).toInt) (b := 1) (by omega) (by omega) (by omega))) (fun _ => ?_)
        refine lv_lload hx hb dL_moneyHolds_166 (lv_at hl 1 rfl) ?_
        refine lv_lconst (v := lI 0) hx hb dL_moneyHolds_168 rfl ?_
        refine W.lcmp hx hb dL_moneyHolds_169 ?_
        refine lv_if_eq (tgt := 186) hx hb dL_moneyHolds_170 (by decide) (fun _ => ?_) (fun c9 => absurd (c_eq (a := 0) (b := 0) (by omega)) c9)
        refine lv_iconst (v := 1) hx hb dL_moneyHolds_186 (by decide) ?_
        refine lv_goto (tgt := 191) hx hb dL_moneyHolds_187 (by decide) ?_
        refine lv_istore (lv' := [(4, .int 1), (2, .long (lI (isum (fun j => (g (200 + j) 14).toInt) k + (g (200 + k) 14).toInt))), (6, .long (lI 0)), (5, .int (nI k)), (0, .ref (ad 60)), (1, .int (nI nK))]) hx hb dL_moneyHolds_191 hl (by decide) rfl (fun ls hl => ?_)
        refine lv_iinc (v := nI (k + 1)) (lv' := [(5, .int (nI (k + 1))), (4, .int 1), (2, .long (lI (isum (fun j => (g (200 + j) 14).toInt) k + (g (200 + k) 14).toInt))), (6, .long (lI 0)), (0, .ref (ad 60)), (1, .int (nI nK))]) hx hb dL_moneyHolds_193 hl (k := 3) rfl (nI_add k 1) (by decide) rfl (fun ls hl => ?_)
        refine lv_goto (tgt := 25) hx hb dL_moneyHolds_196 (by decide) ?_
        have hF : isum (fun j => (g (200 + j) 14).toInt) k + (g (200 + k) 14).toInt = isum (fun j => (g (200 + j) 14).toInt) (k + 1) := rfl
        refine W.widen (k := 2 + 24 * (k + 1)) (n := 12 + 144 * (k + 1)) (by (try dsimp only); omega) (by (try dsimp only); omega) ?_
        exact ih (k + 1) (by omega) H locs ls hP hS (by have h9 := lv_sub hl [0, 1, 2, 4, 5] rfl; rw [hF] at h9; exact h9)
      · skip
        have hi0 : (fX6_interestNow g q k).toInt = 0 := by rw [in_0 (by rw [h7]; decide)]; rfl
        have hb1 : (barI g q k).toInt ≤ 1 := by rcases bar_cl (g := g) (q := q) (j := k) (by rw [h7]; decide) with z | z <;> rw [z] <;> decide
        refine lv_iload hx hb dL_moneyHolds_25 (lv_at hl 0 rfl) ?_
        refine lv_iload_n hx hb dL_moneyHolds_27 rfl (lv_at hl 4 rfl) ?_
        refine lv_icmp_ge (tgt := 199) hx hb dL_moneyHolds_28 (by decide) (fun c9 => absurd c9 (mt (nI_leI (a := nK) (b := k) (by omega) (by omega)).mp (by omega))) (fun _ => ?_)
        refine lv_iload hx hb dL_moneyHolds_31 (lv_at hl 1 rfl) ?_
        refine lv_if_eq (tgt := 199) hx hb dL_moneyHolds_33 (by decide) (fun c9 => absurd c9 (by decide)) (fun _ => ?_)
        refine lv_aload_n hx hb dL_moneyHolds_36 rfl (lv_at hl 3 rfl) ?_
        refine lv_iload hx hb dL_moneyHolds_37 (lv_at hl 0 rfl) ?_
        refine lv_iconst (v := 0) hx hb dL_moneyHolds_39 (by decide) ?_
        refine sy_kl (vx_runSW (As := [.ref (ad 60), .int (nI k), .int 0]) (rest := []) ⟨hx, hb, hml, hown, hts⟩ (mL_ticketOf l hfl Z nT nK cT cK ad g q (nI k) 0 hI) (vx_cwSW 3 hts (gu_S uk_4_53 uk_4_54 uk_1_0 uk_4_55) rfl rfl rfl (by decide +kernel) ⟨Nat.le_of_ble_eq_true rfl, Nat.le_of_ble_eq_true rfl⟩) ⟨sPreL_blind _, fun U hU hW => ⟨rfl, ⟨hE.next hS hU hW.alike, by rw [hU]; exact hP⟩, hNc.next hW.alike⟩⟩ rfl rfl hl.1 rfl (lv_room (Nat.le_of_ble_eq_true rfl)) dL_moneyHolds_40 ⟨by show _ ≤ 990; (try dsimp only); omega, by show _ ≤ 6000; (try dsimp only); omega⟩) hS (fun r g1 q1 H locs e9 hP hS => ?_)
        obtain ⟨er, eg, eq⟩ := eq_q (z := 2) (a_K hI hk).1 (by rw [h7]; rfl) e9
        subst er; subst eg; subst eq
        refine lv_lstore (lv' := [(6, .long (lI 2)), (5, .int (nI k)), (4, .int 1), (2, .long (lI (isum (fun j => (g (200 + j) 14).toInt) k))), (0, .ref (ad 60)), (1, .int (nI nK))]) hx hb dL_moneyHolds_43 hl (by decide) rfl (fun ls hl => ?_)
        refine lv_lload_n hx hb dL_moneyHolds_45 rfl (lv_at hl 3 rfl) ?_
        refine lv_aload_n hx hb dL_moneyHolds_46 rfl (lv_at hl 4 rfl) ?_
        refine lv_iload hx hb dL_moneyHolds_47 (lv_at hl 1 rfl) ?_
        refine lv_bipush (v := 7) hx hb dL_moneyHolds_49 (by decide) ?_
        refine sy_kl (vx_runSW (As := [.ref (ad 60), .int (nI k), .int 7]) (rest := [.long (lI (isum (fun j => (g (200 + j) 14).toInt) k))]) ⟨hx, hb, hml, hown, hts⟩ (mL_ticketOf l hfl Z nT nK cT cK ad g q (nI k) 7 hI) (vx_cwSW 3 hts (gu_S uk_4_53 uk_4_54 uk_1_0 uk_4_55) rfl rfl rfl (by decide +kernel) ⟨Nat.le_of_ble_eq_true rfl, Nat.le_of_ble_eq_true rfl⟩) ⟨sPreL_blind _, fun U hU hW => ⟨rfl, ⟨hE.next hS hU hW.alike, by rw [hU]; exact hP⟩, hNc.next hW.alike⟩⟩ rfl rfl hl.1 rfl (lv_room (Nat.le_of_ble_eq_true rfl)) dL_moneyHolds_51 ⟨by show _ ≤ 990; (try dsimp only); omega, by show _ ≤ 6000; (try dsimp only); omega⟩) hS (fun r g1 q1 H locs e9 hP hS => ?_)
        obtain ⟨er, eg, eq⟩ := eq_q (z := (g (200 + k) 14).toInt) (a_K hI hk).2.2.2.2.2.2.2.1 rfl e9
        subst er; subst eg; subst eq
        refine lv_ladd hx hb dL_moneyHolds_54 ?_
        refine sy_topL (y := lI (isum (fun j => (g (200 + j) 14).toInt) k + (g (200 + k) 14).toInt)) (lI_add _ _) ?_
        refine lv_lstore_n (lv' := [(2, .long (lI (isum (fun j => (g (200 + j) 14).toInt) k + (g (200 + k) 14).toInt))), (6, .long (lI 2)), (5, .int (nI k)), (4, .int 1), (0, .ref (ad 60)), (1, .int (nI nK))]) hx hb dL_moneyHolds_55 rfl hl (by decide) rfl (fun ls hl => ?_)
        refine lv_aload_n hx hb dL_moneyHolds_56 rfl (lv_at hl 4 rfl) ?_
        refine lv_iload hx hb dL_moneyHolds_57 (lv_at hl 2 rfl) ?_
        refine lv_iconst (v := 3) hx hb dL_moneyHolds_59 (by decide) ?_
        refine sy_kl (vx_runSW (As := [.ref (ad 60), .int (nI k), .int 3]) (rest := []) ⟨hx, hb, hml, hown, hts⟩ (mL_ticketOf l hfl Z nT nK cT cK ad g q (nI k) 3 hI) (vx_cwSW 3 hts (gu_S uk_4_53 uk_4_54 uk_1_0 uk_4_55) rfl rfl rfl (by decide +kernel) ⟨Nat.le_of_ble_eq_true rfl, Nat.le_of_ble_eq_true rfl⟩) ⟨sPreL_blind _, fun U hU hW => ⟨rfl, ⟨hE.next hS hU hW.alike, by rw [hU]; exact hP⟩, hNc.next hW.alike⟩⟩ rfl rfl hl.1 rfl (lv_room (Nat.le_of_ble_eq_true rfl)) dL_moneyHolds_60 ⟨by show _ ≤ 990; (try dsimp only); omega, by show _ ≤ 6000; (try dsimp only); omega⟩) hS (fun r g1 q1 H locs e9 hP hS => ?_)
        obtain ⟨er, eg, eq⟩ := eq_q (z := (fX6_interestNow g q k).toInt) (a_K hI hk).2.2.2.1 rfl e9
        subst er; subst eg; subst eq
        refine lv_aload_n hx hb dL_moneyHolds_63 rfl (lv_at hl 4 rfl) ?_
        refine lv_iload hx hb dL_moneyHolds_64 (lv_at hl 2 rfl) ?_
        refine sy_kl (vx_runSW (As := [.ref (ad 60), .int (nI k)]) (rest := [.long (lI ((fX6_interestNow g q k).toInt))]) ⟨hx, hb, hml, hown, hts⟩ (mL_interestAnew l hfl Z nT nK cT cK ad g q (nI k) hI) (vx_cwSW 2 hts (gu_S uk_4_110 uk_4_111 uk_1_0 uk_4_112) rfl rfl rfl (by decide +kernel) ⟨Nat.le_of_ble_eq_true rfl, Nat.le_of_ble_eq_true rfl⟩) ⟨sPreL_blind _, fun U hU hW => ⟨rfl, ⟨hE.next hS hU hW.alike, by rw [hU]; exact hP⟩, hNc.next hW.alike⟩⟩ rfl rfl hl.1 rfl (lv_room (Nat.le_of_ble_eq_true rfl)) dL_moneyHolds_66 ⟨by show _ ≤ 990; (try dsimp only); omega, by show _ ≤ 6000; (try dsimp only); omega⟩) hS (fun r g1 q1 H locs e9 hP hS => ?_)
        obtain ⟨er, eg, eq⟩ := eq_q (z := (fX6_interestNow g q k).toInt) (a_N hI hk) rfl e9
        subst er; subst eg; subst eq
        refine W.lcmp hx hb dL_moneyHolds_69 ?_
        refine lv_if_ne (tgt := 190) hx hb dL_moneyHolds_70 (by decide) (fun c9 => absurd (c_eq (a := (fX6_interestNow g q k).toInt) (b := (fX6_interestNow g q k).toInt) (by omega)) c9) (fun _ => ?_)
        refine lv_aload_n hx hb dL_moneyHolds_73 rfl (lv_at hl 4 rfl) ?_
        refine lv_iload hx hb dL_moneyHolds_74 (lv_at hl 2 rfl) ?_
        refine lv_iconst (v := 3) hx hb dL_moneyHolds_76 (by decide) ?_
        refine sy_kl (vx_runSW (As := [.ref (ad 60), .int (nI k), .int 3]) (rest := []) ⟨hx, hb, hml, hown, hts⟩ (mL_ticketOf l hfl Z nT nK cT cK ad g q (nI k) 3 hI) (vx_cwSW 3 hts (gu_S uk_4_53 uk_4_54 uk_1_0 uk_4_55) rfl rfl rfl (by decide +kernel) ⟨Nat.le_of_ble_eq_true rfl, Nat.le_of_ble_eq_true rfl⟩) ⟨sPreL_blind _, fun U hU hW => ⟨rfl, ⟨hE.next hS hU hW.alike, by rw [hU]; exact hP⟩, hNc.next hW.alike⟩⟩ rfl rfl hl.1 rfl (lv_room (Nat.le_of_ble_eq_true rfl)) dL_moneyHolds_77 ⟨by show _ ≤ 990; (try dsimp only); omega, by show _ ≤ 6000; (try dsimp only); omega⟩) hS (fun r g1 q1 H locs e9 hP hS => ?_)
        obtain ⟨er, eg, eq⟩ := eq_q (z := (fX6_interestNow g q k).toInt) (a_K hI hk).2.2.2.1 rfl e9
        subst er; subst eg; subst eq
        refine lv_lconst (v := lI 0) hx hb dL_moneyHolds_80 rfl ?_
        refine W.lcmp hx hb dL_moneyHolds_81 ?_
        refine lv_if_lt (tgt := 190) hx hb dL_moneyHolds_82 (by decide) (fun c9 => absurd c9 (c_ge (a := (fX6_interestNow g q k).toInt) (b := 0) (by omega) (by omega) (by omega))) (fun _ => ?_)
        refine lv_lload hx hb dL_moneyHolds_85 (lv_at hl 1 rfl) ?_
        refine lv_lconst (v := lI 0) hx hb dL_moneyHolds_87 rfl ?_
        refine W.lcmp hx hb dL_moneyHolds_88 ?_
        refine lv_if_eq (tgt := 104) hx hb dL_moneyHolds_89 (by decide) (fun c9 => absurd c9 (c_ne (a := 2) (b := 0) (by omega) (by omega) (by omega))) (fun _ => ?_)
        refine lv_aload_n hx hb dL_moneyHolds_92 rfl (lv_at hl 4 rfl) ?_
        refine lv_iload hx hb dL_moneyHolds_93 (lv_at hl 2 rfl) ?_
        refine lv_iconst (v := 3) hx hb dL_moneyHolds_95 (by decide) ?_
        refine sy_kl (vx_runSW (As := [.ref (ad 60), .int (nI k), .int 3]) (rest := []) ⟨hx, hb, hml, hown, hts⟩ (mL_ticketOf l hfl Z nT nK cT cK ad g q (nI k) 3 hI) (vx_cwSW 3 hts (gu_S uk_4_53 uk_4_54 uk_1_0 uk_4_55) rfl rfl rfl (by decide +kernel) ⟨Nat.le_of_ble_eq_true rfl, Nat.le_of_ble_eq_true rfl⟩) ⟨sPreL_blind _, fun U hU hW => ⟨rfl, ⟨hE.next hS hU hW.alike, by rw [hU]; exact hP⟩, hNc.next hW.alike⟩⟩ rfl rfl hl.1 rfl (lv_room (Nat.le_of_ble_eq_true rfl)) dL_moneyHolds_96 ⟨by show _ ≤ 990; (try dsimp only); omega, by show _ ≤ 6000; (try dsimp only); omega⟩) hS (fun r g1 q1 H locs e9 hP hS => ?_)
        obtain ⟨er, eg, eq⟩ := eq_q (z := (fX6_interestNow g q k).toInt) (a_K hI hk).2.2.2.1 rfl e9
        subst er; subst eg; subst eq
        refine lv_lconst (v := lI 0) hx hb dL_moneyHolds_99 rfl ?_
        refine W.lcmp hx hb dL_moneyHolds_100 ?_
        refine lv_if_ne (tgt := 190) hx hb dL_moneyHolds_101 (by decide) (fun c9 => absurd (c_eq (a := (fX6_interestNow g q k).toInt) (b := 0) (by omega)) c9) (fun _ => ?_)
        refine lv_lload hx hb dL_moneyHolds_104 (lv_at hl 1 rfl) ?_
        refine lv_ldc2 (v := lI (2)) hx hb hown (hts _ (u_in uk_4_121)) dL_moneyHolds_106 ?_
        refine W.lcmp hx hb dL_moneyHolds_109 ?_
        refine lv_if_eq (tgt := 126) hx hb dL_moneyHolds_110 (by decide) (fun _ => ?_) (fun c9 => absurd (c_eq (a := 2) (b := (2)) (by omega)) c9)
        refine lv_aload_n hx hb dL_moneyHolds_126 rfl (lv_at hl 4 rfl) ?_
        refine lv_iload hx hb dL_moneyHolds_127 (lv_at hl 2 rfl) ?_
        refine lv_bipush (v := 8) hx hb dL_moneyHolds_129 (by decide) ?_
        refine sy_kl (vx_runSW (As := [.ref (ad 60), .int (nI k), .int 8]) (rest := []) ⟨hx, hb, hml, hown, hts⟩ (mL_ticketOf l hfl Z nT nK cT cK ad g q (nI k) 8 hI) (vx_cwSW 3 hts (gu_S uk_4_53 uk_4_54 uk_1_0 uk_4_55) rfl rfl rfl (by decide +kernel) ⟨Nat.le_of_ble_eq_true rfl, Nat.le_of_ble_eq_true rfl⟩) ⟨sPreL_blind _, fun U hU hW => ⟨rfl, ⟨hE.next hS hU hW.alike, by rw [hU]; exact hP⟩, hNc.next hW.alike⟩⟩ rfl rfl hl.1 rfl (lv_room (Nat.le_of_ble_eq_true rfl)) dL_moneyHolds_131 ⟨by show _ ≤ 990; (try dsimp only); omega, by show _ ≤ 6000; (try dsimp only); omega⟩) hS (fun r g1 q1 H locs e9 hP hS => ?_)
        obtain ⟨er, eg, eq⟩ := eq_q (z := (barI g q k).toInt) (a_K hI hk).2.2.2.2.2.2.2.2.1 rfl e9
        subst er; subst eg; subst eq
        refine lv_lconst (v := lI 0) hx hb dL_moneyHolds_134 rfl ?_
        refine W.lcmp hx hb dL_moneyHolds_135 ?_
        refine lv_if_lt (tgt := 190) hx hb dL_moneyHolds_136 (by decide) (fun c9 => absurd c9 (c_ge (a := (barI g q k).toInt) (b := 0) (by omega) (by omega) (by omega))) (fun _ => ?_)
        refine lv_aload_n hx hb dL_moneyHolds_139 rfl (lv_at hl 4 rfl) ?_
        refine lv_iload hx hb dL_moneyHolds_140 (lv_at hl 2 rfl) ?_
        refine lv_bipush (v := 8) hx hb dL_moneyHolds_142 (by decide) ?_
        refine sy_kl (vx_runSW (As := [.ref (ad 60), .int (nI k), .int 8]) (rest := []) ⟨hx, hb, hml, hown, hts⟩ (mL_ticketOf l hfl Z nT nK cT cK ad g q (nI k) 8 hI) (vx_cwSW 3 hts (gu_S uk_4_53 uk_4_54 uk_1_0 uk_4_55) rfl rfl rfl (by decide +kernel) ⟨Nat.le_of_ble_eq_true rfl, Nat.le_of_ble_eq_true rfl⟩) ⟨sPreL_blind _, fun U hU hW => ⟨rfl, ⟨hE.next hS hU hW.alike, by rw [hU]; exact hP⟩, hNc.next hW.alike⟩⟩ rfl rfl hl.1 rfl (lv_room (Nat.le_of_ble_eq_true rfl)) dL_moneyHolds_144 ⟨by show _ ≤ 990; (try dsimp only); omega, by show _ ≤ 6000; (try dsimp only); omega⟩) hS (fun r g1 q1 H locs e9 hP hS => ?_)
        obtain ⟨er, eg, eq⟩ := eq_q (z := (barI g q k).toInt) (a_K hI hk).2.2.2.2.2.2.2.2.1 rfl e9
        subst er; subst eg; subst eq
        refine lv_ldc2 (v := lI (3)) hx hb hown (hts _ (u_in uk_4_122)) dL_moneyHolds_147 ?_
        refine W.lcmp hx hb dL_moneyHolds_150 ?_
        refine lv_if_gt (tgt := 190) hx hb dL_moneyHolds_151 (by decide) (fun c9 => absurd c9 (c_le (a := (barI g q k).toInt) (b := (3)) (by omega) (by omega) (by omega))) (fun _ => ?_)
        refine lv_aload_n hx hb dL_moneyHolds_154 rfl (lv_at hl 4 rfl) ?_
        refine lv_iload hx hb dL_moneyHolds_155 (lv_at hl 2 rfl) ?_
        refine lv_iconst (v := 2) hx hb dL_moneyHolds_157 (by decide) ?_
        refine sy_kl (vx_runSW (As := [.ref (ad 60), .int (nI k), .int 2]) (rest := []) ⟨hx, hb, hml, hown, hts⟩ (mL_ticketOf l hfl Z nT nK cT cK ad g q (nI k) 2 hI) (vx_cwSW 3 hts (gu_S uk_4_53 uk_4_54 uk_1_0 uk_4_55) rfl rfl rfl (by decide +kernel) ⟨Nat.le_of_ble_eq_true rfl, Nat.le_of_ble_eq_true rfl⟩) ⟨sPreL_blind _, fun U hU hW => ⟨rfl, ⟨hE.next hS hU hW.alike, by rw [hU]; exact hP⟩, hNc.next hW.alike⟩⟩ rfl rfl hl.1 rfl (lv_room (Nat.le_of_ble_eq_true rfl)) dL_moneyHolds_158 ⟨by show _ ≤ 990; (try dsimp only); omega, by show _ ≤ 6000; (try dsimp only); omega⟩) hS (fun r g1 q1 H locs e9 hP hS => ?_)
        obtain ⟨er, eg, eq⟩ := eq_q (z := (g (200 + k) 8).toInt) (a_K hI hk).2.2.1 rfl e9
        subst er; subst eg; subst eq
        refine lv_lconst (v := lI 1) hx hb dL_moneyHolds_161 rfl ?_
        refine W.lcmp hx hb dL_moneyHolds_162 ?_
        refine lv_if_lt (tgt := 190) hx hb dL_moneyHolds_163 (by decide) (fun c9 => absurd c9 (c_ge (a := (g (200 + k) 8).toInt) (b := 1) (by omega) (by omega) (by omega))) (fun _ => ?_)
        refine lv_lload hx hb dL_moneyHolds_166 (lv_at hl 1 rfl) ?_
        refine lv_lconst (v := lI 0) hx hb dL_moneyHolds_168 rfl ?_
        refine W.lcmp hx hb dL_moneyHolds_169 ?_
        refine lv_if_eq (tgt := 186) hx hb dL_moneyHolds_170 (by decide) (fun c9 => absurd c9 (c_ne (a := 2) (b := 0) (by omega) (by omega) (by omega))) (fun _ => ?_)
        refine lv_aload_n hx hb dL_moneyHolds_173 rfl (lv_at hl 4 rfl) ?_
        refine lv_iload hx hb dL_moneyHolds_174 (lv_at hl 2 rfl) ?_
        refine lv_bipush (v := 8) hx hb dL_moneyHolds_176 (by decide) ?_
        refine sy_kl (vx_runSW (As := [.ref (ad 60), .int (nI k), .int 8]) (rest := []) ⟨hx, hb, hml, hown, hts⟩ (mL_ticketOf l hfl Z nT nK cT cK ad g q (nI k) 8 hI) (vx_cwSW 3 hts (gu_S uk_4_53 uk_4_54 uk_1_0 uk_4_55) rfl rfl rfl (by decide +kernel) ⟨Nat.le_of_ble_eq_true rfl, Nat.le_of_ble_eq_true rfl⟩) ⟨sPreL_blind _, fun U hU hW => ⟨rfl, ⟨hE.next hS hU hW.alike, by rw [hU]; exact hP⟩, hNc.next hW.alike⟩⟩ rfl rfl hl.1 rfl (lv_room (Nat.le_of_ble_eq_true rfl)) dL_moneyHolds_178 ⟨by show _ ≤ 990; (try dsimp only); omega, by show _ ≤ 6000; (try dsimp only); omega⟩) hS (fun r g1 q1 H locs e9 hP hS => ?_)
        obtain ⟨er, eg, eq⟩ := eq_q (z := (barI g q k).toInt) (a_K hI hk).2.2.2.2.2.2.2.2.1 rfl e9
        subst er; subst eg; subst eq
        refine lv_lconst (v := lI 1) hx hb dL_moneyHolds_181 rfl ?_
        refine W.lcmp hx hb dL_moneyHolds_182 ?_
        refine lv_if_gt (tgt := 190) hx hb dL_moneyHolds_183 (by decide) (fun c9 => absurd c9 (c_le (a := (barI g q k).toInt) (b := 1) (by omega) (by omega) (by omega))) (fun _ => ?_)
        refine lv_iconst (v := 1) hx hb dL_moneyHolds_186 (by decide) ?_
        refine lv_goto (tgt := 191) hx hb dL_moneyHolds_187 (by decide) ?_
        refine lv_istore (lv' := [(4, .int 1), (2, .long (lI (isum (fun j => (g (200 + j) 14).toInt) k + (g (200 + k) 14).toInt))), (6, .long (lI 2)), (5, .int (nI k)), (0, .ref (ad 60)), (1, .int (nI nK))]) hx hb dL_moneyHolds_191 hl (by decide) rfl (fun ls hl => ?_)
        refine lv_iinc (v := nI (k + 1)) (lv' := [(5, .int (nI (k + 1))), (4, .int 1), (2, .long (lI (isum (fun j => (g (200 + j) 14).toInt) k + (g (200 + k) 14).toInt))), (6, .long (lI 2)), (0, .ref (ad 60)), (1, .int (nI nK))]) hx hb dL_moneyHolds_193 hl (k := 3) rfl (nI_add k 1) (by decide) rfl (fun ls hl => ?_)
        refine lv_goto (tgt := 25) hx hb dL_moneyHolds_196 (by decide) ?_
        have hF : isum (fun j => (g (200 + j) 14).toInt) k + (g (200 + k) 14).toInt = isum (fun j => (g (200 + j) 14).toInt) (k + 1) := rfl
        refine W.widen (k := 2 + 24 * (k + 1)) (n := 12 + 144 * (k + 1)) (by (try dsimp only); omega) (by (try dsimp only); omega) ?_
        exact ih (k + 1) (by omega) H locs ls hP hS (by have h9 := lv_sub hl [0, 1, 2, 4, 5] rfl; rw [hF] at h9; exact h9)
      · skip
        have n0 : (g (200 + k) 7).toInt ≠ 0 := fun z => h7 (Int32.toInt_inj.mp z)
        have n2 : (g (200 + k) 7).toInt ≠ 2 := fun z => h72 (Int32.toInt_inj.mp z)
        have hi0 : (fX6_interestNow g q k).toInt = 0 := by rw [in_0 h7]; rfl
        have hb1 : (barI g q k).toInt ≤ 1 := by rcases bar_cl (g := g) (q := q) (j := k) h7 with z | z <;> rw [z] <;> decide
        have hs0 : (g (200 + k) 14).toInt = 0 := by
          rcases ks with z | z
          · rw [z]; rfl
          · exact absurd z h72
        refine lv_iload hx hb dL_moneyHolds_25 (lv_at hl 0 rfl) ?_
        refine lv_iload_n hx hb dL_moneyHolds_27 rfl (lv_at hl 4 rfl) ?_
        refine lv_icmp_ge (tgt := 199) hx hb dL_moneyHolds_28 (by decide) (fun c9 => absurd c9 (mt (nI_leI (a := nK) (b := k) (by omega) (by omega)).mp (by omega))) (fun _ => ?_)
        refine lv_iload hx hb dL_moneyHolds_31 (lv_at hl 1 rfl) ?_
        refine lv_if_eq (tgt := 199) hx hb dL_moneyHolds_33 (by decide) (fun c9 => absurd c9 (by decide)) (fun _ => ?_)
        refine lv_aload_n hx hb dL_moneyHolds_36 rfl (lv_at hl 3 rfl) ?_
        refine lv_iload hx hb dL_moneyHolds_37 (lv_at hl 0 rfl) ?_
        refine lv_iconst (v := 0) hx hb dL_moneyHolds_39 (by decide) ?_
        refine sy_kl (vx_runSW (As := [.ref (ad 60), .int (nI k), .int 0]) (rest := []) ⟨hx, hb, hml, hown, hts⟩ (mL_ticketOf l hfl Z nT nK cT cK ad g q (nI k) 0 hI) (vx_cwSW 3 hts (gu_S uk_4_53 uk_4_54 uk_1_0 uk_4_55) rfl rfl rfl (by decide +kernel) ⟨Nat.le_of_ble_eq_true rfl, Nat.le_of_ble_eq_true rfl⟩) ⟨sPreL_blind _, fun U hU hW => ⟨rfl, ⟨hE.next hS hU hW.alike, by rw [hU]; exact hP⟩, hNc.next hW.alike⟩⟩ rfl rfl hl.1 rfl (lv_room (Nat.le_of_ble_eq_true rfl)) dL_moneyHolds_40 ⟨by show _ ≤ 990; (try dsimp only); omega, by show _ ≤ 6000; (try dsimp only); omega⟩) hS (fun r g1 q1 H locs e9 hP hS => ?_)
        obtain ⟨er, eg, eq⟩ := eq_q (z := (g (200 + k) 7).toInt) (a_K hI hk).1 rfl e9
        subst er; subst eg; subst eq
        refine lv_lstore (lv' := [(6, .long (lI ((g (200 + k) 7).toInt))), (5, .int (nI k)), (4, .int 1), (2, .long (lI (isum (fun j => (g (200 + j) 14).toInt) k))), (0, .ref (ad 60)), (1, .int (nI nK))]) hx hb dL_moneyHolds_43 hl (by decide) rfl (fun ls hl => ?_)
        refine lv_lload_n hx hb dL_moneyHolds_45 rfl (lv_at hl 3 rfl) ?_
        refine lv_aload_n hx hb dL_moneyHolds_46 rfl (lv_at hl 4 rfl) ?_
        refine lv_iload hx hb dL_moneyHolds_47 (lv_at hl 1 rfl) ?_
        refine lv_bipush (v := 7) hx hb dL_moneyHolds_49 (by decide) ?_
        refine sy_kl (vx_runSW (As := [.ref (ad 60), .int (nI k), .int 7]) (rest := [.long (lI (isum (fun j => (g (200 + j) 14).toInt) k))]) ⟨hx, hb, hml, hown, hts⟩ (mL_ticketOf l hfl Z nT nK cT cK ad g q (nI k) 7 hI) (vx_cwSW 3 hts (gu_S uk_4_53 uk_4_54 uk_1_0 uk_4_55) rfl rfl rfl (by decide +kernel) ⟨Nat.le_of_ble_eq_true rfl, Nat.le_of_ble_eq_true rfl⟩) ⟨sPreL_blind _, fun U hU hW => ⟨rfl, ⟨hE.next hS hU hW.alike, by rw [hU]; exact hP⟩, hNc.next hW.alike⟩⟩ rfl rfl hl.1 rfl (lv_room (Nat.le_of_ble_eq_true rfl)) dL_moneyHolds_51 ⟨by show _ ≤ 990; (try dsimp only); omega, by show _ ≤ 6000; (try dsimp only); omega⟩) hS (fun r g1 q1 H locs e9 hP hS => ?_)
        obtain ⟨er, eg, eq⟩ := eq_q (z := (g (200 + k) 14).toInt) (a_K hI hk).2.2.2.2.2.2.2.1 rfl e9
        subst er; subst eg; subst eq
        refine lv_ladd hx hb dL_moneyHolds_54 ?_
        refine sy_topL (y := lI (isum (fun j => (g (200 + j) 14).toInt) k + (g (200 + k) 14).toInt)) (lI_add _ _) ?_
        refine lv_lstore_n (lv' := [(2, .long (lI (isum (fun j => (g (200 + j) 14).toInt) k + (g (200 + k) 14).toInt))), (6, .long (lI ((g (200 + k) 7).toInt))), (5, .int (nI k)), (4, .int 1), (0, .ref (ad 60)), (1, .int (nI nK))]) hx hb dL_moneyHolds_55 rfl hl (by decide) rfl (fun ls hl => ?_)
        refine lv_aload_n hx hb dL_moneyHolds_56 rfl (lv_at hl 4 rfl) ?_
        refine lv_iload hx hb dL_moneyHolds_57 (lv_at hl 2 rfl) ?_
        refine lv_iconst (v := 3) hx hb dL_moneyHolds_59 (by decide) ?_
        refine sy_kl (vx_runSW (As := [.ref (ad 60), .int (nI k), .int 3]) (rest := []) ⟨hx, hb, hml, hown, hts⟩ (mL_ticketOf l hfl Z nT nK cT cK ad g q (nI k) 3 hI) (vx_cwSW 3 hts (gu_S uk_4_53 uk_4_54 uk_1_0 uk_4_55) rfl rfl rfl (by decide +kernel) ⟨Nat.le_of_ble_eq_true rfl, Nat.le_of_ble_eq_true rfl⟩) ⟨sPreL_blind _, fun U hU hW => ⟨rfl, ⟨hE.next hS hU hW.alike, by rw [hU]; exact hP⟩, hNc.next hW.alike⟩⟩ rfl rfl hl.1 rfl (lv_room (Nat.le_of_ble_eq_true rfl)) dL_moneyHolds_60 ⟨by show _ ≤ 990; (try dsimp only); omega, by show _ ≤ 6000; (try dsimp only); omega⟩) hS (fun r g1 q1 H locs e9 hP hS => ?_)
        obtain ⟨er, eg, eq⟩ := eq_q (z := (fX6_interestNow g q k).toInt) (a_K hI hk).2.2.2.1 rfl e9
        subst er; subst eg; subst eq
        refine lv_aload_n hx hb dL_moneyHolds_63 rfl (lv_at hl 4 rfl) ?_
        refine lv_iload hx hb dL_moneyHolds_64 (lv_at hl 2 rfl) ?_
        refine sy_kl (vx_runSW (As := [.ref (ad 60), .int (nI k)]) (rest := [.long (lI ((fX6_interestNow g q k).toInt))]) ⟨hx, hb, hml, hown, hts⟩ (mL_interestAnew l hfl Z nT nK cT cK ad g q (nI k) hI) (vx_cwSW 2 hts (gu_S uk_4_110 uk_4_111 uk_1_0 uk_4_112) rfl rfl rfl (by decide +kernel) ⟨Nat.le_of_ble_eq_true rfl, Nat.le_of_ble_eq_true rfl⟩) ⟨sPreL_blind _, fun U hU hW => ⟨rfl, ⟨hE.next hS hU hW.alike, by rw [hU]; exact hP⟩, hNc.next hW.alike⟩⟩ rfl rfl hl.1 rfl (lv_room (Nat.le_of_ble_eq_true rfl)) dL_moneyHolds_66 ⟨by show _ ≤ 990; (try dsimp only); omega, by show _ ≤ 6000; (try dsimp only); omega⟩) hS (fun r g1 q1 H locs e9 hP hS => ?_)
        obtain ⟨er, eg, eq⟩ := eq_q (z := (fX6_interestNow g q k).toInt) (a_N hI hk) rfl e9
        subst er; subst eg; subst eq
        refine W.lcmp hx hb dL_moneyHolds_69 ?_
        refine lv_if_ne (tgt := 190) hx hb dL_moneyHolds_70 (by decide) (fun c9 => absurd (c_eq (a := (fX6_interestNow g q k).toInt) (b := (fX6_interestNow g q k).toInt) (by omega)) c9) (fun _ => ?_)
        refine lv_aload_n hx hb dL_moneyHolds_73 rfl (lv_at hl 4 rfl) ?_
        refine lv_iload hx hb dL_moneyHolds_74 (lv_at hl 2 rfl) ?_
        refine lv_iconst (v := 3) hx hb dL_moneyHolds_76 (by decide) ?_
        refine sy_kl (vx_runSW (As := [.ref (ad 60), .int (nI k), .int 3]) (rest := []) ⟨hx, hb, hml, hown, hts⟩ (mL_ticketOf l hfl Z nT nK cT cK ad g q (nI k) 3 hI) (vx_cwSW 3 hts (gu_S uk_4_53 uk_4_54 uk_1_0 uk_4_55) rfl rfl rfl (by decide +kernel) ⟨Nat.le_of_ble_eq_true rfl, Nat.le_of_ble_eq_true rfl⟩) ⟨sPreL_blind _, fun U hU hW => ⟨rfl, ⟨hE.next hS hU hW.alike, by rw [hU]; exact hP⟩, hNc.next hW.alike⟩⟩ rfl rfl hl.1 rfl (lv_room (Nat.le_of_ble_eq_true rfl)) dL_moneyHolds_77 ⟨by show _ ≤ 990; (try dsimp only); omega, by show _ ≤ 6000; (try dsimp only); omega⟩) hS (fun r g1 q1 H locs e9 hP hS => ?_)
        obtain ⟨er, eg, eq⟩ := eq_q (z := (fX6_interestNow g q k).toInt) (a_K hI hk).2.2.2.1 rfl e9
        subst er; subst eg; subst eq
        refine lv_lconst (v := lI 0) hx hb dL_moneyHolds_80 rfl ?_
        refine W.lcmp hx hb dL_moneyHolds_81 ?_
        refine lv_if_lt (tgt := 190) hx hb dL_moneyHolds_82 (by decide) (fun c9 => absurd c9 (c_ge (a := (fX6_interestNow g q k).toInt) (b := 0) (by omega) (by omega) (by omega))) (fun _ => ?_)
        refine lv_lload hx hb dL_moneyHolds_85 (lv_at hl 1 rfl) ?_
        refine lv_lconst (v := lI 0) hx hb dL_moneyHolds_87 rfl ?_
        refine W.lcmp hx hb dL_moneyHolds_88 ?_
        refine lv_if_eq (tgt := 104) hx hb dL_moneyHolds_89 (by decide) (fun c9 => absurd c9 (c_ne (a := (g (200 + k) 7).toInt) (b := 0) (by omega) (by omega) (by omega))) (fun _ => ?_)
        refine lv_aload_n hx hb dL_moneyHolds_92 rfl (lv_at hl 4 rfl) ?_
        refine lv_iload hx hb dL_moneyHolds_93 (lv_at hl 2 rfl) ?_
        refine lv_iconst (v := 3) hx hb dL_moneyHolds_95 (by decide) ?_
        refine sy_kl (vx_runSW (As := [.ref (ad 60), .int (nI k), .int 3]) (rest := []) ⟨hx, hb, hml, hown, hts⟩ (mL_ticketOf l hfl Z nT nK cT cK ad g q (nI k) 3 hI) (vx_cwSW 3 hts (gu_S uk_4_53 uk_4_54 uk_1_0 uk_4_55) rfl rfl rfl (by decide +kernel) ⟨Nat.le_of_ble_eq_true rfl, Nat.le_of_ble_eq_true rfl⟩) ⟨sPreL_blind _, fun U hU hW => ⟨rfl, ⟨hE.next hS hU hW.alike, by rw [hU]; exact hP⟩, hNc.next hW.alike⟩⟩ rfl rfl hl.1 rfl (lv_room (Nat.le_of_ble_eq_true rfl)) dL_moneyHolds_96 ⟨by show _ ≤ 990; (try dsimp only); omega, by show _ ≤ 6000; (try dsimp only); omega⟩) hS (fun r g1 q1 H locs e9 hP hS => ?_)
        obtain ⟨er, eg, eq⟩ := eq_q (z := (fX6_interestNow g q k).toInt) (a_K hI hk).2.2.2.1 rfl e9
        subst er; subst eg; subst eq
        refine lv_lconst (v := lI 0) hx hb dL_moneyHolds_99 rfl ?_
        refine W.lcmp hx hb dL_moneyHolds_100 ?_
        refine lv_if_ne (tgt := 190) hx hb dL_moneyHolds_101 (by decide) (fun c9 => absurd (c_eq (a := (fX6_interestNow g q k).toInt) (b := 0) (by omega)) c9) (fun _ => ?_)
        refine lv_lload hx hb dL_moneyHolds_104 (lv_at hl 1 rfl) ?_
        refine lv_ldc2 (v := lI (2)) hx hb hown (hts _ (u_in uk_4_121)) dL_moneyHolds_106 ?_
        refine W.lcmp hx hb dL_moneyHolds_109 ?_
        refine lv_if_eq (tgt := 126) hx hb dL_moneyHolds_110 (by decide) (fun c9 => absurd c9 (c_ne (a := (g (200 + k) 7).toInt) (b := (2)) (by omega) (by omega) (by omega))) (fun _ => ?_)
        refine lv_aload_n hx hb dL_moneyHolds_113 rfl (lv_at hl 4 rfl) ?_
        refine lv_iload hx hb dL_moneyHolds_114 (lv_at hl 2 rfl) ?_
        refine lv_bipush (v := 7) hx hb dL_moneyHolds_116 (by decide) ?_
        refine sy_kl (vx_runSW (As := [.ref (ad 60), .int (nI k), .int 7]) (rest := []) ⟨hx, hb, hml, hown, hts⟩ (mL_ticketOf l hfl Z nT nK cT cK ad g q (nI k) 7 hI) (vx_cwSW 3 hts (gu_S uk_4_53 uk_4_54 uk_1_0 uk_4_55) rfl rfl rfl (by decide +kernel) ⟨Nat.le_of_ble_eq_true rfl, Nat.le_of_ble_eq_true rfl⟩) ⟨sPreL_blind _, fun U hU hW => ⟨rfl, ⟨hE.next hS hU hW.alike, by rw [hU]; exact hP⟩, hNc.next hW.alike⟩⟩ rfl rfl hl.1 rfl (lv_room (Nat.le_of_ble_eq_true rfl)) dL_moneyHolds_118 ⟨by show _ ≤ 990; (try dsimp only); omega, by show _ ≤ 6000; (try dsimp only); omega⟩) hS (fun r g1 q1 H locs e9 hP hS => ?_)
        obtain ⟨er, eg, eq⟩ := eq_q (z := (g (200 + k) 14).toInt) (a_K hI hk).2.2.2.2.2.2.2.1 rfl e9
        subst er; subst eg; subst eq
        refine lv_lconst (v := lI 0) hx hb dL_moneyHolds_121 rfl ?_
        refine W.lcmp hx hb dL_moneyHolds_122 ?_
        refine lv_if_ne (tgt := 190) hx hb dL_moneyHolds_123 (by decide) (fun c9 => absurd (c_eq (a := (g (200 + k) 14).toInt) (b := 0) (by omega)) c9) (fun _ => ?_)
        refine lv_aload_n hx hb dL_moneyHolds_126 rfl (lv_at hl 4 rfl) ?_
        refine lv_iload hx hb dL_moneyHolds_127 (lv_at hl 2 rfl) ?_
        refine lv_bipush (v := 8) hx hb dL_moneyHolds_129 (by decide) ?_
        refine sy_kl (vx_runSW (As := [.ref (ad 60), .int (nI k), .int 8]) (rest := []) ⟨hx, hb, hml, hown, hts⟩ (mL_ticketOf l hfl Z nT nK cT cK ad g q (nI k) 8 hI) (vx_cwSW 3 hts (gu_S uk_4_53 uk_4_54 uk_1_0 uk_4_55) rfl rfl rfl (by decide +kernel) ⟨Nat.le_of_ble_eq_true rfl, Nat.le_of_ble_eq_true rfl⟩) ⟨sPreL_blind _, fun U hU hW => ⟨rfl, ⟨hE.next hS hU hW.alike, by rw [hU]; exact hP⟩, hNc.next hW.alike⟩⟩ rfl rfl hl.1 rfl (lv_room (Nat.le_of_ble_eq_true rfl)) dL_moneyHolds_131 ⟨by show _ ≤ 990; (try dsimp only); omega, by show _ ≤ 6000; (try dsimp only); omega⟩) hS (fun r g1 q1 H locs e9 hP hS => ?_)
        obtain ⟨er, eg, eq⟩ := eq_q (z := (barI g q k).toInt) (a_K hI hk).2.2.2.2.2.2.2.2.1 rfl e9
        subst er; subst eg; subst eq
        refine lv_lconst (v := lI 0) hx hb dL_moneyHolds_134 rfl ?_
        refine W.lcmp hx hb dL_moneyHolds_135 ?_
        refine lv_if_lt (tgt := 190) hx hb dL_moneyHolds_136 (by decide) (fun c9 => absurd c9 (c_ge (a := (barI g q k).toInt) (b := 0) (by omega) (by omega) (by omega))) (fun _ => ?_)
        refine lv_aload_n hx hb dL_moneyHolds_139 rfl (lv_at hl 4 rfl) ?_
        refine lv_iload hx hb dL_moneyHolds_140 (lv_at hl 2 rfl) ?_
        refine lv_bipush (v := 8) hx hb dL_moneyHolds_142 (by decide) ?_
        refine sy_kl (vx_runSW (As := [.ref (ad 60), .int (nI k), .int 8]) (rest := []) ⟨hx, hb, hml, hown, hts⟩ (mL_ticketOf l hfl Z nT nK cT cK ad g q (nI k) 8 hI) (vx_cwSW 3 hts (gu_S uk_4_53 uk_4_54 uk_1_0 uk_4_55) rfl rfl rfl (by decide +kernel) ⟨Nat.le_of_ble_eq_true rfl, Nat.le_of_ble_eq_true rfl⟩) ⟨sPreL_blind _, fun U hU hW => ⟨rfl, ⟨hE.next hS hU hW.alike, by rw [hU]; exact hP⟩, hNc.next hW.alike⟩⟩ rfl rfl hl.1 rfl (lv_room (Nat.le_of_ble_eq_true rfl)) dL_moneyHolds_144 ⟨by show _ ≤ 990; (try dsimp only); omega, by show _ ≤ 6000; (try dsimp only); omega⟩) hS (fun r g1 q1 H locs e9 hP hS => ?_)
        obtain ⟨er, eg, eq⟩ := eq_q (z := (barI g q k).toInt) (a_K hI hk).2.2.2.2.2.2.2.2.1 rfl e9
        subst er; subst eg; subst eq
        refine lv_ldc2 (v := lI (3)) hx hb hown (hts _ (u_in uk_4_122)) dL_moneyHolds_147 ?_
        refine W.lcmp hx hb dL_moneyHolds_150 ?_
        refine lv_if_gt (tgt := 190) hx hb dL_moneyHolds_151 (by decide) (fun c9 => absurd c9 (c_le (a := (barI g q k).toInt) (b := (3)) (by omega) (by omega) (by omega))) (fun _ => ?_)
        refine lv_aload_n hx hb dL_moneyHolds_154 rfl (lv_at hl 4 rfl) ?_
        refine lv_iload hx hb dL_moneyHolds_155 (lv_at hl 2 rfl) ?_
        refine lv_iconst (v := 2) hx hb dL_moneyHolds_157 (by decide) ?_
        refine sy_kl (vx_runSW (As := [.ref (ad 60), .int (nI k), .int 2]) (rest := []) ⟨hx, hb, hml, hown, hts⟩ (mL_ticketOf l hfl Z nT nK cT cK ad g q (nI k) 2 hI) (vx_cwSW 3 hts (gu_S uk_4_53 uk_4_54 uk_1_0 uk_4_55) rfl rfl rfl (by decide +kernel) ⟨Nat.le_of_ble_eq_true rfl, Nat.le_of_ble_eq_true rfl⟩) ⟨sPreL_blind _, fun U hU hW => ⟨rfl, ⟨hE.next hS hU hW.alike, by rw [hU]; exact hP⟩, hNc.next hW.alike⟩⟩ rfl rfl hl.1 rfl (lv_room (Nat.le_of_ble_eq_true rfl)) dL_moneyHolds_158 ⟨by show _ ≤ 990; (try dsimp only); omega, by show _ ≤ 6000; (try dsimp only); omega⟩) hS (fun r g1 q1 H locs e9 hP hS => ?_)
        obtain ⟨er, eg, eq⟩ := eq_q (z := (g (200 + k) 8).toInt) (a_K hI hk).2.2.1 rfl e9
        subst er; subst eg; subst eq
        refine lv_lconst (v := lI 1) hx hb dL_moneyHolds_161 rfl ?_
        refine W.lcmp hx hb dL_moneyHolds_162 ?_
        refine lv_if_lt (tgt := 190) hx hb dL_moneyHolds_163 (by decide) (fun c9 => absurd c9 (c_ge (a := (g (200 + k) 8).toInt) (b := 1) (by omega) (by omega) (by omega))) (fun _ => ?_)
        refine lv_lload hx hb dL_moneyHolds_166 (lv_at hl 1 rfl) ?_
        refine lv_lconst (v := lI 0) hx hb dL_moneyHolds_168 rfl ?_
        refine W.lcmp hx hb dL_moneyHolds_169 ?_
        refine lv_if_eq (tgt := 186) hx hb dL_moneyHolds_170 (by decide) (fun c9 => absurd c9 (c_ne (a := (g (200 + k) 7).toInt) (b := 0) (by omega) (by omega) (by omega))) (fun _ => ?_)
        refine lv_aload_n hx hb dL_moneyHolds_173 rfl (lv_at hl 4 rfl) ?_
        refine lv_iload hx hb dL_moneyHolds_174 (lv_at hl 2 rfl) ?_
        refine lv_bipush (v := 8) hx hb dL_moneyHolds_176 (by decide) ?_
        refine sy_kl (vx_runSW (As := [.ref (ad 60), .int (nI k), .int 8]) (rest := []) ⟨hx, hb, hml, hown, hts⟩ (mL_ticketOf l hfl Z nT nK cT cK ad g q (nI k) 8 hI) (vx_cwSW 3 hts (gu_S uk_4_53 uk_4_54 uk_1_0 uk_4_55) rfl rfl rfl (by decide +kernel) ⟨Nat.le_of_ble_eq_true rfl, Nat.le_of_ble_eq_true rfl⟩) ⟨sPreL_blind _, fun U hU hW => ⟨rfl, ⟨hE.next hS hU hW.alike, by rw [hU]; exact hP⟩, hNc.next hW.alike⟩⟩ rfl rfl hl.1 rfl (lv_room (Nat.le_of_ble_eq_true rfl)) dL_moneyHolds_178 ⟨by show _ ≤ 990; (try dsimp only); omega, by show _ ≤ 6000; (try dsimp only); omega⟩) hS (fun r g1 q1 H locs e9 hP hS => ?_)
        obtain ⟨er, eg, eq⟩ := eq_q (z := (barI g q k).toInt) (a_K hI hk).2.2.2.2.2.2.2.2.1 rfl e9
        subst er; subst eg; subst eq
        refine lv_lconst (v := lI 1) hx hb dL_moneyHolds_181 rfl ?_
        refine W.lcmp hx hb dL_moneyHolds_182 ?_
        refine lv_if_gt (tgt := 190) hx hb dL_moneyHolds_183 (by decide) (fun c9 => absurd c9 (c_le (a := (barI g q k).toInt) (b := 1) (by omega) (by omega) (by omega))) (fun _ => ?_)
        refine lv_iconst (v := 1) hx hb dL_moneyHolds_186 (by decide) ?_
        refine lv_goto (tgt := 191) hx hb dL_moneyHolds_187 (by decide) ?_
        refine lv_istore (lv' := [(4, .int 1), (2, .long (lI (isum (fun j => (g (200 + j) 14).toInt) k + (g (200 + k) 14).toInt))), (6, .long (lI ((g (200 + k) 7).toInt))), (5, .int (nI k)), (0, .ref (ad 60)), (1, .int (nI nK))]) hx hb dL_moneyHolds_191 hl (by decide) rfl (fun ls hl => ?_)
        refine lv_iinc (v := nI (k + 1)) (lv' := [(5, .int (nI (k + 1))), (4, .int 1), (2, .long (lI (isum (fun j => (g (200 + j) 14).toInt) k + (g (200 + k) 14).toInt))), (6, .long (lI ((g (200 + k) 7).toInt))), (0, .ref (ad 60)), (1, .int (nI nK))]) hx hb dL_moneyHolds_193 hl (k := 3) rfl (nI_add k 1) (by decide) rfl (fun ls hl => ?_)
        refine lv_goto (tgt := 25) hx hb dL_moneyHolds_196 (by decide) ?_
        have hF : isum (fun j => (g (200 + j) 14).toInt) k + (g (200 + k) 14).toInt = isum (fun j => (g (200 + j) 14).toInt) (k + 1) := rfl
        refine W.widen (k := 2 + 24 * (k + 1)) (n := 12 + 144 * (k + 1)) (by (try dsimp only); omega) (by (try dsimp only); omega) ?_
        exact ih (k + 1) (by omega) H locs ls hP hS (by have h9 := lv_sub hl [0, 1, 2, 4, 5] rfl; rw [hF] at h9; exact h9)
  refine W.widen (k := 2 + 24 * 0) (n := 12 + 144 * 0) (by (try dsimp only); omega) (by (try dsimp only); omega) ?_
  exact hL1 nK 0 (by omega) H locs ls hP hS (lv_sub hl [0, 1, 2, 3, 4] rfl)
