section LWC
variable {p : Program} {l : Launch} {e : Env} {s : State} {m : MethodId} {below : List Frame} {meth : Method} {c : Code} {b L : Nat} {xs : Nat → Int32} {Z : sZ}
theorem draw_blind {nT nK cT cK : Nat} {ad : Nat → Nat} {g : sG} {q : sQ} (av : List Value) : FrameBlind (va_Pc av (fun U => sPre Z nT nK cT cK ad g q U ∧ va_X b L xs U U.heap ∧ b < U.heap.size ∧ ¬ sy_A Z b)) := fun a U g' mk h => ⟨h.1, (sPre_blind av a U g' mk ⟨h.1, h.2.1⟩).2, va_X.moved (u := U) (U := U.calling g' mk a) (Vm.Alike.refl U.vm) h.2.2.1, h.2.2.2⟩
set_option maxHeartbeats 8000000 in
set_option maxRecDepth 100000 in
theorem law_loop (hC : lCtx p l s m meth c b L xs Z) (hL : L ≤ 260) : ∀ f k, k + f = 48 → ∀ {nT nK cT cK : Nat} {ad : Nat → Nat} {g : sG} {q : sQ} {H : Heap} {locs : List Loc} {ls : Array Slot}, (k = 0 ∨ 0 < nT) → lSt Z s b k (k + 1) nT nK cT cK ad g q H locs ls [] → W p l e room_1 s m #[Value.ref b] below meth c H locs (100 + 2000 * k) (4000 + 14000 * k) (lw_Z below #[Value.ref b] s) (F0 m 56 ls []) := by
  have hC' := hC
  obtain ⟨hx, hb, hr, hml, hown, hts, hX, hbl, hlocks, hZ, hE, hNc, hfl⟩ := hC'
  have hbA : ¬ sy_A Z b := fun z => absurd (show Z.2.2.1 ≤ b from z) (by omega)
  intro f
  induction f with
  | zero =>
    intro k hkf nT nK cT cK ad g q H locs ls _ h
    obtain ⟨hP, hI, h70, h71, hS, hl⟩ := h
    have hl : lv_has ls 18 [(6, .int (nI k)), (5, .int 1), (4, .int (nI nK)), (3, .int (nI nT)), (2, .ref (ad 90)), (1, .ref (ad 60)), (0, .ref b)] := hl
    refine lv_iload hx hb dL_law_56 (lv_at hl 0 rfl) ?_
    refine lv_bipush (v := 48) hx hb dL_law_58 (by decide) ?_
    refine lv_icmp_ge (tgt := 1357) hx hb dL_law_60 (by decide) (fun _ => ?_) (fun cz9 => absurd ((nI_leI (a := 48) (b := k) (by omega) (by omega)).mpr (by omega)) cz9)
    refine lv_iload hx hb dL_law_1357 (lv_at hl 1 rfl) ?_
    refine va_forget (fun q hq => by have := hS.2.2 q hq; rw [← hZ]; exact this) ?_
    refine W.widen (k := 600074) (n := 7301550) (by (try dsimp only); omega) (by (try dsimp only); omega) ?_
    exact lw_ret hx hb hr hlocks dL_law_1359
  | succ f ih =>
    intro k hkf nT nK cT cK ad g q H locs ls _ h
    have hk : k < 48 := by omega
    have hJ : ∀ (nT nK cT cK : Nat) (ad : Nat → Nat) (g : sG) (q : sQ) (H : Heap) (locs : List Loc) (ls : Array Slot), 0 < nT → lSt Z s b k (k + 2) nT nK cT cK ad g q H locs ls [] → W p l e room_1 s m #[Value.ref b] below meth c H locs (100 + 2000 * k + 100) (4000 + 14000 * k + 1000) (lw_Z below #[Value.ref b] s) (F0 m 1280 ls []) := fun nT nK cT cK ad g q H locs ls h0 h => lc_J hC hk h0 (fun nT nK cT cK ad g q H locs ls h1 h2 => ih (k + 1) (by omega) (Or.inr h1) h2) h
    obtain ⟨hP, hI, h70, h71, hS, hl⟩ := h
    have hT40 := ci_T hI
    have hK40 := ci_K hI
    have hl : lv_has ls 18 [(6, .int (nI k)), (5, .int 1), (4, .int (nI nK)), (3, .int (nI nT)), (2, .ref (ad 90)), (1, .ref (ad 60)), (0, .ref b)] := hl
    refine lv_iload hx hb dL_law_56 (lv_at hl 0 rfl) ?_
    refine lv_bipush (v := 48) hx hb dL_law_58 (by decide) ?_
    refine lv_icmp_ge (tgt := 1357) hx hb dL_law_60 (by decide) (fun cz9 => absurd cz9 (mt (nI_leI (a := 48) (b := k) (by omega) (by omega)).mp (by omega))) (fun _ => ?_)
    refine lv_iload hx hb dL_law_63 (lv_at hl 1 rfl) ?_
    refine lv_if_eq (tgt := 1357) hx hb dL_law_65 (by decide) (fun cz9 => absurd cz9 (by decide)) (fun _ => ?_)
    refine lv_aload_n hx hb dL_law_68 rfl (lv_at hl 6 rfl) ?_
    refine lv_iconst (v := 2) hx hb dL_law_69 (by decide) ?_
    refine lv_iload hx hb dL_law_70 (lv_at hl 0 rfl) ?_
    refine lv_imul hx hb dL_law_72 ?_
    refine sy_top (y := nI (2 * k)) (nI_mul 2 k) ?_
    refine sy_ki (va_runS (As := [.ref b, .int (nI (2 * k))]) (rest := []) ⟨hx, hb, hml, hown, hts⟩ (nL_draw l hfl Z nT nK cT cK ad g q (b := b) (L := L) (k := (2 * k)) (xs := xs) hL (by omega)) (va_cwS 2 hts (gl_S uk_1_187 uk_1_188 uk_1_0 uk_1_189) rfl rfl rfl (by decide +kernel) ⟨Nat.le_of_ble_eq_true rfl, Nat.le_of_ble_eq_true rfl⟩) ⟨draw_blind _, fun U hU hW => ⟨rfl, ⟨hE.next hS hU hW.alike, by rw [hU]; exact hP⟩, by rw [hU]; exact va_X.moved hW.alike (va_X.kept hX (hS.2.1 b hbl hbA)), by rw [hU]; exact Nat.lt_of_lt_of_le hbl hS.1, hbA⟩⟩ rfl rfl hl.1 rfl (lv_room (Nat.le_of_ble_eq_true rfl)) dL_law_73 ⟨by show _ ≤ 600074; (try dsimp only); omega, by show _ ≤ 7301550; (try dsimp only); omega⟩) hS (fun r gz qz H locs e9 hP hS => ?_)
    obtain ⟨⟨xa, hxa, er⟩, eg, eq⟩ := e9
    subst er
    replace eg := eg.symm
    replace eq := eq.symm
    subst eg
    subst eq
    refine lv_istore (lv' := [(7, .int (nI xa)), (6, .int (nI k)), (5, .int 1), (4, .int (nI nK)), (3, .int (nI nT)), (2, .ref (ad 90)), (1, .ref (ad 60)), (0, .ref b)]) hx hb dL_law_76 hl (by decide) rfl (fun ls hl => ?_)
    refine lv_aload_n hx hb dL_law_78 rfl (lv_at hl 7 rfl) ?_
    refine lv_iconst (v := 2) hx hb dL_law_79 (by decide) ?_
    refine lv_iload hx hb dL_law_80 (lv_at hl 1 rfl) ?_
    refine lv_imul hx hb dL_law_82 ?_
    refine sy_top (y := nI (2 * k)) (nI_mul 2 k) ?_
    refine lv_iconst (v := 1) hx hb dL_law_83 (by decide) ?_
    refine lv_iadd hx hb dL_law_84 ?_
    refine sy_top (y := nI ((2 * k) + 1)) (nI_add (2 * k) 1) ?_
    refine sy_ki (va_runS (As := [.ref b, .int (nI ((2 * k) + 1))]) (rest := []) ⟨hx, hb, hml, hown, hts⟩ (nL_draw l hfl Z nT nK cT cK ad g q (b := b) (L := L) (k := ((2 * k) + 1)) (xs := xs) hL (by omega)) (va_cwS 2 hts (gl_S uk_1_187 uk_1_188 uk_1_0 uk_1_189) rfl rfl rfl (by decide +kernel) ⟨Nat.le_of_ble_eq_true rfl, Nat.le_of_ble_eq_true rfl⟩) ⟨draw_blind _, fun U hU hW => ⟨rfl, ⟨hE.next hS hU hW.alike, by rw [hU]; exact hP⟩, by rw [hU]; exact va_X.moved hW.alike (va_X.kept hX (hS.2.1 b hbl hbA)), by rw [hU]; exact Nat.lt_of_lt_of_le hbl hS.1, hbA⟩⟩ rfl rfl hl.1 rfl (lv_room (Nat.le_of_ble_eq_true rfl)) dL_law_85 ⟨by show _ ≤ 600074; (try dsimp only); omega, by show _ ≤ 7301550; (try dsimp only); omega⟩) hS (fun r gz qz H locs e9 hP hS => ?_)
    obtain ⟨⟨ya, hya, er⟩, eg, eq⟩ := e9
    subst er
    replace eg := eg.symm
    replace eq := eq.symm
    subst eg
    subst eq
    refine lv_istore (lv' := [(8, .int (nI ya)), (7, .int (nI xa)), (6, .int (nI k)), (5, .int 1), (4, .int (nI nK)), (3, .int (nI nT)), (2, .ref (ad 90)), (1, .ref (ad 60)), (0, .ref b)]) hx hb dL_law_88 hl (by decide) rfl (fun ls hl => ?_)
    refine lv_iload hx hb dL_law_90 (lv_at hl 1 rfl) ?_
    refine lv_bipush (v := 16) hx hb dL_law_92 (by decide) ?_
    refine lv_irem hx hb dL_law_94 (by decide) ?_
    refine sy_top (y := nI (xa % 16)) (nI_rem (a := xa) (b := 16) (by omega) (by omega)) ?_
    refine lv_istore (lv' := [(9, .int (nI (xa % 16))), (8, .int (nI ya)), (7, .int (nI xa)), (6, .int (nI k)), (5, .int 1), (4, .int (nI nK)), (3, .int (nI nT)), (2, .ref (ad 90)), (1, .ref (ad 60)), (0, .ref b)]) hx hb dL_law_95 hl (by decide) rfl (fun ls hl => ?_)
    refine lv_iload_n hx hb dL_law_97 rfl (lv_at hl 6 rfl) ?_
    have hD : ∀ (q9 c9 : Nat), (0 < nT → q9 < nT) → (0 < nK → c9 < nK) → ∀ (ls : Array Slot), lv_has ls 18 [(11, .int (nI c9)), (10, .int (nI q9)), (9, .int (nI (xa % 16))), (8, .int (nI ya)), (6, .int (nI k)), (5, .int 1), (4, .int (nI nK)), (3, .int (nI nT)), (2, .ref (ad 90)), (1, .ref (ad 60)), (0, .ref b)] → W p l e room_1 s m #[Value.ref b] below meth c H locs (100 + 2000 * k) (4000 + 14000 * k) (lw_Z below #[Value.ref b] s) (F0 m 133 ls []) := by
      intro q9 c9 hq hc ls hl
      by_cases hA : xa % 16 < 4 ∨ nT = 0
      · exact lc_A hC hk (wh := xa % 16) hya (by omega) hA ⟨hP, hI, h70, h71, hS, hl⟩ hJ
      · have hT0 : 0 < nT := by omega
        by_cases h4 : xa % 16 = 4
        · exact lc_B hC hk (wh := xa % 16) hya h4 hT0 (hq hT0) ⟨hP, hI, h70, h71, hS, hl⟩ hJ
        · by_cases hK0 : nK = 0
          · by_cases h9 : xa % 16 < 9
            · exact lc_H hC hk (wh := xa % 16) hya (Or.inr ⟨by omega, h9, hK0⟩) hT0 ⟨hP, hI, h70, h71, hS, hl⟩ hJ
            · skip
              by_cases c1 : xa % 16 = 9
              · exact lc_E hC hk (wh := xa % 16) hya c1 hT0 (hq hT0) ⟨hP, hI, h70, h71, hS, hl⟩ hJ
              · by_cases c2 : xa % 16 = 10
                · exact lc_F hC hk (wh := xa % 16) hya c2 hT0 (hq hT0) ⟨hP, hI, h70, h71, hS, hl⟩ hJ
                · by_cases c3 : xa % 16 = 11
                  · exact lc_G hC hk (wh := xa % 16) hya c3 hT0 (hq hT0) ⟨hP, hI, h70, h71, hS, hl⟩ hJ
                  · by_cases c4 : xa % 16 = 15
                    · exact lc_I hC hk (wh := xa % 16) hya c4 hT0 ⟨hP, hI, h70, h71, hS, hl⟩ hJ
                    · exact lc_H hC hk (wh := xa % 16) hya (Or.inl (by omega)) hT0 ⟨hP, hI, h70, h71, hS, hl⟩ hJ
          · have hK1 : 0 < nK := by omega
            by_cases h8 : xa % 16 < 8
            · exact lc_C hC hk (wh := xa % 16) hya (by omega) hT0 hK1 (hc hK1) ⟨hP, hI, h70, h71, hS, hl⟩ hJ
            · by_cases h88 : xa % 16 = 8
              · exact lc_D hC hk (wh := xa % 16) hya h88 hT0 hK1 (hc hK1) ⟨hP, hI, h70, h71, hS, hl⟩ hJ
              · skip
                by_cases c1 : xa % 16 = 9
                · exact lc_E hC hk (wh := xa % 16) hya c1 hT0 (hq hT0) ⟨hP, hI, h70, h71, hS, hl⟩ hJ
                · by_cases c2 : xa % 16 = 10
                  · exact lc_F hC hk (wh := xa % 16) hya c2 hT0 (hq hT0) ⟨hP, hI, h70, h71, hS, hl⟩ hJ
                  · by_cases c3 : xa % 16 = 11
                    · exact lc_G hC hk (wh := xa % 16) hya c3 hT0 (hq hT0) ⟨hP, hI, h70, h71, hS, hl⟩ hJ
                    · by_cases c4 : xa % 16 = 15
                      · exact lc_I hC hk (wh := xa % 16) hya c4 hT0 ⟨hP, hI, h70, h71, hS, hl⟩ hJ
                      · exact lc_H hC hk (wh := xa % 16) hya (Or.inl (by omega)) hT0 ⟨hP, hI, h70, h71, hS, hl⟩ hJ
    by_cases hz1 : nT = 0
    · skip
      refine lv_if_ne (tgt := 105) hx hb dL_law_98 (by decide) (fun cz9 => absurd ((nI_eq (a := nT) (b := 0) (by omega) (by omega)).mpr (by omega)) cz9) (fun _ => ?_)
      refine lv_iconst (v := 0) hx hb dL_law_101 (by decide) ?_
      refine lv_goto (tgt := 112) hx hb dL_law_102 (by decide) ?_
      refine lv_istore (lv' := [(10, .int 0), (9, .int (nI (xa % 16))), (8, .int (nI ya)), (7, .int (nI xa)), (6, .int (nI k)), (5, .int 1), (4, .int (nI nK)), (3, .int (nI nT)), (2, .ref (ad 90)), (1, .ref (ad 60)), (0, .ref b)]) hx hb dL_law_112 hl (by decide) rfl (fun ls hl => ?_)
      refine lv_iload hx hb dL_law_114 (lv_at hl 6 rfl) ?_
      by_cases hz2 : nK = 0
      · skip
        refine lv_if_ne (tgt := 123) hx hb dL_law_116 (by decide) (fun cz9 => absurd ((nI_eq (a := nK) (b := 0) (by omega) (by omega)).mpr (by omega)) cz9) (fun _ => ?_)
        refine lv_iconst (v := 0) hx hb dL_law_119 (by decide) ?_
        refine lv_goto (tgt := 131) hx hb dL_law_120 (by decide) ?_
        refine lv_istore (lv' := [(11, .int 0), (10, .int 0), (9, .int (nI (xa % 16))), (8, .int (nI ya)), (7, .int (nI xa)), (6, .int (nI k)), (5, .int 1), (4, .int (nI nK)), (3, .int (nI nT)), (2, .ref (ad 90)), (1, .ref (ad 60)), (0, .ref b)]) hx hb dL_law_131 hl (by decide) rfl (fun ls hl => ?_)
        refine W.widen (k := 100 + 2000 * k) (n := 4000 + 14000 * k) (by (try dsimp only); omega) (by (try dsimp only); omega) ?_
        exact hD _ _ (fun z => absurd z (by omega)) (fun z => absurd z (by omega)) ls (lv_sub hl [0, 1, 2, 3, 5, 6, 7, 8, 9, 10, 11] rfl)
      · skip
        refine lv_if_ne (tgt := 123) hx hb dL_law_116 (by decide) (fun _ => ?_) (fun cz9 => absurd cz9 (mt (nI_eq (a := nK) (b := 0) (by omega) (by omega)).mp (by omega)))
        refine lv_iload hx hb dL_law_123 (lv_at hl 3 rfl) ?_
        refine lv_bipush (v := 16) hx hb dL_law_125 (by decide) ?_
        refine lv_idiv hx hb dL_law_127 (by decide) ?_
        refine sy_top (y := nI (xa / 16)) (nI_div (a := xa) (b := 16) (by omega) (by omega)) ?_
        refine lv_iload hx hb dL_law_128 (lv_at hl 6 rfl) ?_
        refine lv_irem hx hb dL_law_130 (fun z => hz2 ((nI_eq (a := nK) (b := 0) (by omega) (by decide)).mp z)) ?_
        refine sy_top (y := nI ((xa / 16) % nK)) (nI_rem (a := (xa / 16)) (b := nK) (by omega) (by omega)) ?_
        refine lv_istore (lv' := [(11, .int (nI ((xa / 16) % nK))), (10, .int 0), (9, .int (nI (xa % 16))), (8, .int (nI ya)), (7, .int (nI xa)), (6, .int (nI k)), (5, .int 1), (4, .int (nI nK)), (3, .int (nI nT)), (2, .ref (ad 90)), (1, .ref (ad 60)), (0, .ref b)]) hx hb dL_law_131 hl (by decide) rfl (fun ls hl => ?_)
        refine W.widen (k := 100 + 2000 * k) (n := 4000 + 14000 * k) (by (try dsimp only); omega) (by (try dsimp only); omega) ?_
        exact hD _ _ (fun z => absurd z (by omega)) (fun z => Nat.mod_lt _ z) ls (lv_sub hl [0, 1, 2, 3, 5, 6, 7, 8, 9, 10, 11] rfl)
    · skip
      refine lv_if_ne (tgt := 105) hx hb dL_law_98 (by decide) (fun _ => ?_) (fun cz9 => absurd cz9 (mt (nI_eq (a := nT) (b := 0) (by omega) (by omega)).mp (by omega)))
      refine lv_iload hx hb dL_law_105 (lv_at hl 2 rfl) ?_
      refine lv_bipush (v := 16) hx hb dL_law_107 (by decide) ?_
      refine lv_idiv hx hb dL_law_109 (by decide) ?_
      refine sy_top (y := nI (xa / 16)) (nI_div (a := xa) (b := 16) (by omega) (by omega)) ?_
      refine lv_iload_n hx hb dL_law_110 rfl (lv_at hl 6 rfl) ?_
      refine lv_irem hx hb dL_law_111 (fun z => hz1 ((nI_eq (a := nT) (b := 0) (by omega) (by decide)).mp z)) ?_
      refine sy_top (y := nI ((xa / 16) % nT)) (nI_rem (a := (xa / 16)) (b := nT) (by omega) (by omega)) ?_
      refine lv_istore (lv' := [(10, .int (nI ((xa / 16) % nT))), (9, .int (nI (xa % 16))), (8, .int (nI ya)), (7, .int (nI xa)), (6, .int (nI k)), (5, .int 1), (4, .int (nI nK)), (3, .int (nI nT)), (2, .ref (ad 90)), (1, .ref (ad 60)), (0, .ref b)]) hx hb dL_law_112 hl (by decide) rfl (fun ls hl => ?_)
      refine lv_iload hx hb dL_law_114 (lv_at hl 6 rfl) ?_
      by_cases hz2 : nK = 0
      · skip
        refine lv_if_ne (tgt := 123) hx hb dL_law_116 (by decide) (fun cz9 => absurd ((nI_eq (a := nK) (b := 0) (by omega) (by omega)).mpr (by omega)) cz9) (fun _ => ?_)
        refine lv_iconst (v := 0) hx hb dL_law_119 (by decide) ?_
        refine lv_goto (tgt := 131) hx hb dL_law_120 (by decide) ?_
        refine lv_istore (lv' := [(11, .int 0), (10, .int (nI ((xa / 16) % nT))), (9, .int (nI (xa % 16))), (8, .int (nI ya)), (7, .int (nI xa)), (6, .int (nI k)), (5, .int 1), (4, .int (nI nK)), (3, .int (nI nT)), (2, .ref (ad 90)), (1, .ref (ad 60)), (0, .ref b)]) hx hb dL_law_131 hl (by decide) rfl (fun ls hl => ?_)
        refine W.widen (k := 100 + 2000 * k) (n := 4000 + 14000 * k) (by (try dsimp only); omega) (by (try dsimp only); omega) ?_
        exact hD _ _ (fun z => Nat.mod_lt _ z) (fun z => absurd z (by omega)) ls (lv_sub hl [0, 1, 2, 3, 5, 6, 7, 8, 9, 10, 11] rfl)
      · skip
        refine lv_if_ne (tgt := 123) hx hb dL_law_116 (by decide) (fun _ => ?_) (fun cz9 => absurd cz9 (mt (nI_eq (a := nK) (b := 0) (by omega) (by omega)).mp (by omega)))
        refine lv_iload hx hb dL_law_123 (lv_at hl 3 rfl) ?_
        refine lv_bipush (v := 16) hx hb dL_law_125 (by decide) ?_
        refine lv_idiv hx hb dL_law_127 (by decide) ?_
        refine sy_top (y := nI (xa / 16)) (nI_div (a := xa) (b := 16) (by omega) (by omega)) ?_
        refine lv_iload hx hb dL_law_128 (lv_at hl 6 rfl) ?_
        refine lv_irem hx hb dL_law_130 (fun z => hz2 ((nI_eq (a := nK) (b := 0) (by omega) (by decide)).mp z)) ?_
        refine sy_top (y := nI ((xa / 16) % nK)) (nI_rem (a := (xa / 16)) (b := nK) (by omega) (by omega)) ?_
        refine lv_istore (lv' := [(11, .int (nI ((xa / 16) % nK))), (10, .int (nI ((xa / 16) % nT))), (9, .int (nI (xa % 16))), (8, .int (nI ya)), (7, .int (nI xa)), (6, .int (nI k)), (5, .int 1), (4, .int (nI nK)), (3, .int (nI nT)), (2, .ref (ad 90)), (1, .ref (ad 60)), (0, .ref b)]) hx hb dL_law_131 hl (by decide) rfl (fun ls hl => ?_)
        refine W.widen (k := 100 + 2000 * k) (n := 4000 + 14000 * k) (by (try dsimp only); omega) (by (try dsimp only); omega) ?_
        exact hD _ _ (fun z => Nat.mod_lt _ z) (fun z => Nat.mod_lt _ z) ls (lv_sub hl [0, 1, 2, 3, 5, 6, 7, 8, 9, 10, 11] rfl)
set_option maxHeartbeats 8000000 in
set_option maxRecDepth 100000 in
theorem law_begin (hC : lCtx p l s m meth c b L xs Z) (hL : L ≤ 260) {ad : Nat → Nat} {H : Heap} {locs : List Loc} {ls : Array Slot} (hP : Sy Z 0 0 0 0 ad gL qL H) (h70 : ad 70 = Z.2.2.2) (h71 : ad 71 = Z.2.2.2) (hS : va_S (sy_A Z) s.heap H locs) (hl : lv_has ls 18 [(4, .int 0), (3, .int 0), (2, .ref (ad 90)), (1, .ref (ad 60)), (0, .ref b)]) : W p l e room_1 s m #[Value.ref b] below meth c H locs 50 2000 (lw_Z below #[Value.ref b] s) (F0 m 18 ls []) := by
  have hC' := hC
  obtain ⟨hx, hb, hr, hml, hown, hts, hX, hbl, hlocks, hZ, hE, hNc, hfl⟩ := hC'
  have hI := ci_start
  refine lv_aload_n hx hb dL_law_18 rfl (lv_at hl 3 rfl) ?_
  refine lv_ldc (v := 50000) hx hb hown (hts _ (wsU_tbl uk_4_210)) dL_law_19 ?_
  refine sy_kl (vx_runSW (As := [.ref (ad 60), .int 50000]) (rest := []) ⟨hx, hb, hml, hown, hts⟩ (mL_deposit l hfl Z 0 0 0 0 ad gL qL 50000 hI) (vx_cwSW 2 hts (gl_S uk_4_38 uk_4_39 uk_1_0 uk_4_40) rfl rfl rfl (by decide +kernel) ⟨Nat.le_of_ble_eq_true rfl, Nat.le_of_ble_eq_true rfl⟩) ⟨sPreL_blind _, fun U hU hW => ⟨rfl, ⟨hE.next hS hU hW.alike, by rw [hU]; exact hP⟩, hNc.next hW.alike⟩⟩ rfl rfl hl.1 rfl (lv_room (Nat.le_of_ble_eq_true rfl)) dL_law_21 ⟨by show _ ≤ 600074; (try dsimp only); omega, by show _ ≤ 7301550; (try dsimp only); omega⟩) hS (fun r g1 q1 H locs e9 hP hS => ?_)
  obtain ⟨h1, h2, hI2⟩ := p_deposit hI (by omega) (a := 50000) (by decide)
  have h3 : (fX6_deposit gL qL (nI 50000)).2.1.toInt = (50000) := h2.trans (show (gL 68 0).toInt + ((50000 : Nat) : Int) = 50000 from rfl)
  obtain ⟨er, eg, eq⟩ := eq_y (z := (50000)) h1 h3 e9
  subst er
  rw [eg, eq] at hI2
  have hI := hI2
  clear e9
  refine lv_ldc2 (v := lI (50000)) hx hb hown (hts _ (wsU_tbl uk_4_211)) dL_law_24 ?_
  refine W.lcmp hx hb dL_law_27 ?_
  refine lv_if_ne (tgt := 50) hx hb dL_law_28 (by decide) (fun cz9 => absurd (c_eq (a := (50000)) (b := (50000)) (by omega)) cz9) (fun _ => ?_)
  refine lv_aload_n hx hb dL_law_31 rfl (lv_at hl 3 rfl) ?_
  refine lv_iconst (v := 0) hx hb dL_law_32 (by decide) ?_
  refine lv_bipush (v := 80) hx hb dL_law_33 (by decide) ?_
  refine lv_sipush (v := 20000) hx hb dL_law_35 (by decide) ?_
  refine sy_kl (vx_runSW (As := [.ref (ad 60), .int 0, .int 80, .int 20000]) (rest := []) ⟨hx, hb, hml, hown, hts⟩ (mL_charter l hfl Z 0 0 0 0 ad g1 q1 0 80 20000 hI) (vx_cwSW 4 hts (gl_S uk_2_191 uk_2_192 uk_1_0 uk_2_193) rfl rfl rfl (by decide +kernel) ⟨Nat.le_of_ble_eq_true rfl, Nat.le_of_ble_eq_true rfl⟩) ⟨sPreL_blind _, fun U hU hW => ⟨rfl, ⟨hE.next hS hU hW.alike, by rw [hU]; exact hP⟩, hNc.next hW.alike⟩⟩ rfl rfl hl.1 rfl (lv_room (Nat.le_of_ble_eq_true rfl)) dL_law_38 ⟨by show _ ≤ 600074; (try dsimp only); omega, by show _ ≤ 7301550; (try dsimp only); omega⟩) hS (fun r g2 q2 H locs e9 hP hS => ?_)
  obtain ⟨n1, hI3⟩ := p_charter hI (k := 0) (s := 80) (m := 20000) (by decide) (by decide) (by decide)
  obtain ⟨er, eg, eq⟩ := eq_yv n1 e9
  subst er
  rw [eg, eq] at hI3
  refine lv_lconst (v := lI 0) hx hb dL_law_41 rfl ?_
  refine W.lcmp hx hb dL_law_42 ?_
  refine lv_if_ne (tgt := 50) hx hb dL_law_43 (by decide) (fun cz9 => absurd (c_eq (a := 0) (b := 0) (by omega)) cz9) (fun _ => ?_)
  refine lv_iconst (v := 1) hx hb dL_law_46 (by decide) ?_
  refine lv_goto (tgt := 51) hx hb dL_law_47 (by decide) ?_
  refine lv_istore (lv' := [(5, .int 1), (4, .int 0), (3, .int 0), (2, .ref (ad 90)), (1, .ref (ad 60)), (0, .ref b)]) hx hb dL_law_51 hl (by decide) rfl (fun ls hl => ?_)
  refine lv_iconst (v := 0) hx hb dL_law_53 (by decide) ?_
  refine lv_istore (lv' := [(6, .int 0), (5, .int 1), (4, .int 0), (3, .int 0), (2, .ref (ad 90)), (1, .ref (ad 60)), (0, .ref b)]) hx hb dL_law_54 hl (by decide) rfl (fun ls hl => ?_)
  refine W.widen (k := 100 + 2000 * 0) (n := 4000 + 14000 * 0) (by (try dsimp only); omega) (by (try dsimp only); omega) ?_
  exact law_loop hC hL 48 0 (by omega) (nT := 0) (nK := 0) (cT := 0) (cK := 0) (Or.inl rfl) ⟨hP, hI3, fun _ => h70, fun _ => h71, hS, lv_sub hl [0, 1, 2, 3, 4, 5, 6] rfl⟩
end LWC
theorem kAl {D : va_G} {cl : List vw_C} {cy : Nat → ClassId} {s : State} {cA : ClassId} (h : va_K D cl (sy_tys cy ++ [(cA, .int)]) s) : cA = cy 0 := Option.some.inj ((h.2 6 _ rfl).2.symm.trans (h.2 0 _ rfl).2)
set_option maxHeartbeats 8000000 in
set_option maxRecDepth 100000 in
theorem whole_start {p : Program} {e : Env} {s : State} {m : MethodId} {below : List Frame} {meth : Method} {c : Code} (l : Launch) (hflags : l.flags = flags0) {b L : Nat} {xs : Nat → Int32} (hL : L ≤ 260) (C0 : lw_At p s m meth c b L xs) : W p l e room_1 s m #[Value.ref b] below meth c s.heap [] 0 0 (lw_Z below #[Value.ref b] s) (entryFrame m ([Value.ref b] : List Value).toArray 18) := by
  obtain ⟨hx, hb, hr, hml, hown, hts, hX, hbl, hlocks, hgv⟩ := C0
  have hfl : l.stackTraces = false := by
    unfold Launch.stackTraces
    rw [hflags]
    decide
  obtain ⟨Z, hZ, hE, hNc, hN1, hN2, hN3⟩ := law_env hts hgv
  have hC : lCtx p l s m meth c b L xs Z := ⟨hx, hb, hr, hml, hown, hts, hX, hbl, hlocks, hZ, hE, hNc, hfl⟩
  have hA : ∀ q : Nat, s.heap.size ≤ q → sy_A Z q := fun q h => by rw [← hZ] at h; exact h
  have hK := hE.1
  have hP : va_P Z.1 vwCl [] s.heap := fun k q h => by cases h
  have hD : va_D (sy_A Z) [] := ⟨fun i j p9 q9 h h2 h3 => (by cases h), fun k q9 h => (by cases h)⟩
  have hS : va_S (sy_A Z) s.heap s.heap [] := va_S.rf
  have hl := lv_entry ([.ref b]) (n := 18) (Nat.le_of_ble_eq_true rfl)
  rw [lg_entry_eq]
  generalize (lg_sl ([.ref b]) ++ List.replicate (18 - (lg_sl ([.ref b])).length) Slot.unset).toArray = ls at hl ⊢
  have hl : lv_has ls 18 [(0, .ref b)] := hl
  refine va_new (ci := 7) (fs := [.null, .null, .null, .null, .null, .null, .null, .null, .int 0, .int 0]) (C := RX6) (T := TX6) (N := 10) hx hb hts (uin_tbl uin_RX6) tyX6 tyX6_ok hown (hts _ (wsU_tbl uk_1_23)) (hts _ (wsU_tbl uk_1_24)) (hts _ (wsU_tbl uk_1_1)) hK hP hD hS hA rfl (fun j hj => by rcases (show j = 0 ∨ j = 1 ∨ j = 2 ∨ j = 3 ∨ j = 4 ∨ j = 5 ∨ j = 6 ∨ j = 7 ∨ j = 8 ∨ j = 9 by omega) with rfl | rfl | rfl | rfl | rfl | rfl | rfl | rfl | rfl | rfl <;> rfl) (by show _ ≤ 600074; (try dsimp only); omega) (by show _ ≤ 7301550; (try dsimp only); omega) dL_law_0 (fun a H hP hD hS => ?_)
  have hP : va_P Z.1 vwCl [(a, .inr (7, [.null, .null, .null, .null, .null, .null, .null, .null, .int 0, .int 0]))] H := hP
  have hD : va_D (sy_A Z) [(a, .inr (7, [.null, .null, .null, .null, .null, .null, .null, .null, .int 0, .int 0]))] := hD
  refine lv_dup hx hb dL_law_3 rfl ?_
  have hFc := va_free (wc := [(a, .inr (7, [.null, .null, .null, .null, .null, .null, .null, .null, .int 0, .int 0]))]) hD hS hA [0] rfl
  have hNa : Z.2.2.1 ≤ a := hD.2 0 _ rfl
  have hNs : Z.2.2.1 ≤ H.size := by rw [hZ]; exact hS.1
  have hZc : ∀ U : State, U.heap = H → s.WarmedH U.vm → va_Z "java/util/ArrayList" "DEFAULTCAPACITY_EMPTY_ELEMENTDATA" "[Ljava/lang/Object;" (.ref Z.2.2.2) (sy_A Z) U U.heap := fun U hU hW => (hE.next hS hU hW.alike).2.2.2.2.1.1
  refine va_callv (va_runI (As := []) (rest := [.ref a]) ⟨hx, hb, hml, hown, hts⟩ (kX6_init l Z a H.size) (cwI 0 hts (gl_all uk_1_27) rfl rfl rfl (hts _ (wsU_tbl uk_1_1)) (hts _ (wsU_tbl uk_1_25)) (hts _ (wsU_tbl uk_1_26)) rfl (by decide +kernel) ⟨Nat.le_of_ble_eq_true rfl, Nat.le_of_ble_eq_true rfl⟩) ⟨fun a U g mk q => by obtain ⟨q0, q1, q2, q3, q4, q5, q6, q7, q8, q9, q10, q11, q12⟩ := q; exact ⟨q0, q1, va_K.moved (u := U) (U := U.calling g mk a) (Vm.Alike.refl U.vm) q2, va_Z.moved (u := U) (U := U.calling g mk a) (Vm.Alike.refl U.vm) q3, va_AO.moved (u := U) (U := U.calling g mk a) (Vm.Alike.refl U.vm) q4, va_AO.moved (u := U) (U := U.calling g mk a) (Vm.Alike.refl U.vm) q5, q6, q7, va_Nw.same rfl rfl q8, va_Nw.same rfl rfl q9, va_Nw.same rfl rfl q10, q11, q12⟩, fun U hU hW => ⟨rfl, by rw [hU], va_K.moved hW.alike hK, hZc U hU hW, va_AO.moved hW.alike hE.2.2.2.2.1.2.2.2.2.1, va_AO.moved hW.alike hE.2.2.2.2.1.2.2.2.2.2.1, hNa, hNs, va_Nw.warmM hW hN1, va_Nw.warmM hW hN2, va_Nw.warmM hW hN3, by rw [hU]; exact hP, hD.weaken (fun _ _ _ _ => trivial)⟩⟩ rfl rfl hl.1 rfl (lv_room (Nat.le_of_ble_eq_true rfl)) dL_law_4 ⟨by show _ ≤ 600074; (try dsimp only); omega, by show _ ≤ 7301550; (try dsimp only); omega⟩) hS (fun q _ h => hFc q h) hFc (fun u t H1 locs ht hvm hu hB hz1 hk1 hS => ?_)
  obtain ⟨hP1, hD1⟩ := hB
  rw [ht] at hP1
  obtain ⟨b9, rfl⟩ : ∃ z, z = u := ⟨_, rfl⟩
  obtain ⟨hP, hD⟩ := va_join (wr := []) (w1 := [(a, .inr (7, [.ref (b9 0), .ref (b9 1), .ref (b9 2), .ref (b9 3), .ref (b9 8), .ref (b9 12), .ref (b9 13), .ref (b9 19), .int 120, .int 0])), ((b9 0), .inr (0, [.int 0, .ref Z.2.2.2, .int 0])), ((b9 1), .inr (0, [.int 0, .ref Z.2.2.2, .int 0])), ((b9 2), .inl (Z.2.1 0, 4, .inl (va_up (va_up (va_up (va_up (fun _ => 0) 0 100) 1 100) 2 100) 3 100))), ((b9 3), .inl (Z.2.1 3, 4, .inr (.inr (.inr (.inr (va_up (va_up (va_up (va_up (fun _ => none) 0 (some (b9 4))) 1 (some (b9 5))) 2 (some (b9 6))) 3 (some (b9 7)))))))), ((b9 4), .inr (2, [.int 0, .int 0, .int 0])), ((b9 5), .inr (2, [.int 0, .int 0, .int 0])), ((b9 6), .inr (2, [.int 0, .int 0, .int 0])), ((b9 7), .inr (2, [.int 0, .int 0, .int 0])), ((b9 8), .inl (Z.2.1 4, 3, .inr (.inr (.inr (.inr (va_up (va_up (va_up (fun _ => none) 0 (some (b9 9))) 1 (some (b9 10))) 2 (some (b9 11)))))))), ((b9 9), .inr (1, [.int 0, .int 50, .int 1000])), ((b9 10), .inr (1, [.int 1, .int 50, .int 1000])), ((b9 11), .inr (1, [.int 2, .int 50, .int 1000])), ((b9 12), .inl (Z.2.1 4, 10, .inr (.inr (.inr (.inr (va_up (va_up (va_up (va_up (va_up (va_up (va_up (va_up (va_up (va_up (fun _ => none) 0 (some (b9 9))) 1 (some (b9 9))) 2 (some (b9 9))) 3 (some (b9 9))) 4 (some (b9 9))) 5 (some (b9 9))) 6 (some (b9 9))) 7 (some (b9 9))) 8 (some (b9 9))) 9 (some (b9 9)))))))), ((b9 13), .inr (3, [.ref (b9 14), .ref (b9 15), .ref (b9 16), .int 0, .ref (b9 17), .ref (b9 18), .int 0])), ((b9 14), .inl (Z.2.1 0, 30, .inl (fun _ => 0))), ((b9 15), .inl (Z.2.1 0, 30, .inl (fun _ => 0))), ((b9 16), .inl (Z.2.1 0, 30, .inl (fun _ => 0))), ((b9 17), .inl (Z.2.1 0, 10, .inl (fun _ => 0))), ((b9 18), .inl (Z.2.1 0, 10, .inl (fun _ => 0))), ((b9 19), .inr (6, [.int 0, .int 0, .int 0, .ref (b9 20), .int 0])), ((b9 20), .inl (Z.2.1 0, 600, .inl (fun _ => 0)))]) hP hD [0] [] rfl rfl (by decide) (by decide) hk1 hFc hP1 hD1
  generalize H1 = H at hP hS ⊢
  have hP : va_P Z.1 vwCl [(a, .inr (7, [.ref (b9 0), .ref (b9 1), .ref (b9 2), .ref (b9 3), .ref (b9 8), .ref (b9 12), .ref (b9 13), .ref (b9 19), .int 120, .int 0])), ((b9 0), .inr (0, [.int 0, .ref Z.2.2.2, .int 0])), ((b9 1), .inr (0, [.int 0, .ref Z.2.2.2, .int 0])), ((b9 2), .inl (Z.2.1 0, 4, .inl (va_up (va_up (va_up (va_up (fun _ => 0) 0 100) 1 100) 2 100) 3 100))), ((b9 3), .inl (Z.2.1 3, 4, .inr (.inr (.inr (.inr (va_up (va_up (va_up (va_up (fun _ => none) 0 (some (b9 4))) 1 (some (b9 5))) 2 (some (b9 6))) 3 (some (b9 7)))))))), ((b9 4), .inr (2, [.int 0, .int 0, .int 0])), ((b9 5), .inr (2, [.int 0, .int 0, .int 0])), ((b9 6), .inr (2, [.int 0, .int 0, .int 0])), ((b9 7), .inr (2, [.int 0, .int 0, .int 0])), ((b9 8), .inl (Z.2.1 4, 3, .inr (.inr (.inr (.inr (va_up (va_up (va_up (fun _ => none) 0 (some (b9 9))) 1 (some (b9 10))) 2 (some (b9 11)))))))), ((b9 9), .inr (1, [.int 0, .int 50, .int 1000])), ((b9 10), .inr (1, [.int 1, .int 50, .int 1000])), ((b9 11), .inr (1, [.int 2, .int 50, .int 1000])), ((b9 12), .inl (Z.2.1 4, 10, .inr (.inr (.inr (.inr (va_up (va_up (va_up (va_up (va_up (va_up (va_up (va_up (va_up (va_up (fun _ => none) 0 (some (b9 9))) 1 (some (b9 9))) 2 (some (b9 9))) 3 (some (b9 9))) 4 (some (b9 9))) 5 (some (b9 9))) 6 (some (b9 9))) 7 (some (b9 9))) 8 (some (b9 9))) 9 (some (b9 9)))))))), ((b9 13), .inr (3, [.ref (b9 14), .ref (b9 15), .ref (b9 16), .int 0, .ref (b9 17), .ref (b9 18), .int 0])), ((b9 14), .inl (Z.2.1 0, 30, .inl (fun _ => 0))), ((b9 15), .inl (Z.2.1 0, 30, .inl (fun _ => 0))), ((b9 16), .inl (Z.2.1 0, 30, .inl (fun _ => 0))), ((b9 17), .inl (Z.2.1 0, 10, .inl (fun _ => 0))), ((b9 18), .inl (Z.2.1 0, 10, .inl (fun _ => 0))), ((b9 19), .inr (6, [.int 0, .int 0, .int 0, .ref (b9 20), .int 0])), ((b9 20), .inl (Z.2.1 0, 600, .inl (fun _ => 0)))] H := hP
  have hD : va_D (sy_A Z) [(a, .inr (7, [.ref (b9 0), .ref (b9 1), .ref (b9 2), .ref (b9 3), .ref (b9 8), .ref (b9 12), .ref (b9 13), .ref (b9 19), .int 120, .int 0])), ((b9 0), .inr (0, [.int 0, .ref Z.2.2.2, .int 0])), ((b9 1), .inr (0, [.int 0, .ref Z.2.2.2, .int 0])), ((b9 2), .inl (Z.2.1 0, 4, .inl (va_up (va_up (va_up (va_up (fun _ => 0) 0 100) 1 100) 2 100) 3 100))), ((b9 3), .inl (Z.2.1 3, 4, .inr (.inr (.inr (.inr (va_up (va_up (va_up (va_up (fun _ => none) 0 (some (b9 4))) 1 (some (b9 5))) 2 (some (b9 6))) 3 (some (b9 7)))))))), ((b9 4), .inr (2, [.int 0, .int 0, .int 0])), ((b9 5), .inr (2, [.int 0, .int 0, .int 0])), ((b9 6), .inr (2, [.int 0, .int 0, .int 0])), ((b9 7), .inr (2, [.int 0, .int 0, .int 0])), ((b9 8), .inl (Z.2.1 4, 3, .inr (.inr (.inr (.inr (va_up (va_up (va_up (fun _ => none) 0 (some (b9 9))) 1 (some (b9 10))) 2 (some (b9 11)))))))), ((b9 9), .inr (1, [.int 0, .int 50, .int 1000])), ((b9 10), .inr (1, [.int 1, .int 50, .int 1000])), ((b9 11), .inr (1, [.int 2, .int 50, .int 1000])), ((b9 12), .inl (Z.2.1 4, 10, .inr (.inr (.inr (.inr (va_up (va_up (va_up (va_up (va_up (va_up (va_up (va_up (va_up (va_up (fun _ => none) 0 (some (b9 9))) 1 (some (b9 9))) 2 (some (b9 9))) 3 (some (b9 9))) 4 (some (b9 9))) 5 (some (b9 9))) 6 (some (b9 9))) 7 (some (b9 9))) 8 (some (b9 9))) 9 (some (b9 9)))))))), ((b9 13), .inr (3, [.ref (b9 14), .ref (b9 15), .ref (b9 16), .int 0, .ref (b9 17), .ref (b9 18), .int 0])), ((b9 14), .inl (Z.2.1 0, 30, .inl (fun _ => 0))), ((b9 15), .inl (Z.2.1 0, 30, .inl (fun _ => 0))), ((b9 16), .inl (Z.2.1 0, 30, .inl (fun _ => 0))), ((b9 17), .inl (Z.2.1 0, 10, .inl (fun _ => 0))), ((b9 18), .inl (Z.2.1 0, 10, .inl (fun _ => 0))), ((b9 19), .inr (6, [.int 0, .int 0, .int 0, .ref (b9 20), .int 0])), ((b9 20), .inl (Z.2.1 0, 600, .inl (fun _ => 0)))] := hD
  refine lv_astore_n (lv' := [(1, .ref a), (0, .ref b)]) hx hb dL_law_7 rfl hl (by decide) rfl (fun ls hl => ?_)
  refine lv_bipush (v := 40) hx hb dL_law_8 (by decide) ?_
  refine va_newa (atype := .int) (a0 := (40, .inl (fun _ => 0))) (ty := .int) hx hb (hts _ (wsU_tbl uk_1_77)) rfl hK hP hD hS hA (fun _ => rfl) (by decide) (by decide) (by decide) (by show _ ≤ 600074; (try dsimp only); omega) (by show _ ≤ 7301550; (try dsimp only); omega) dL_law_10 (fun o9 cA H hK9 hP hD hS => ?_)
  obtain rfl : cA = Z.2.1 0 := kAl hK9
  have hSy := sy_start (a := a) (b := b9) (o := o9) hP hD (fun q h => h)
  refine lv_astore_n (lv' := [(2, .ref o9), (1, .ref a), (0, .ref b)]) hx hb dL_law_12 rfl hl (by decide) rfl (fun ls hl => ?_)
  refine lv_iconst (v := 0) hx hb dL_law_13 (by decide) ?_
  refine lv_istore_n (lv' := [(3, .int 0), (2, .ref o9), (1, .ref a), (0, .ref b)]) hx hb dL_law_14 rfl hl (by decide) rfl (fun ls hl => ?_)
  refine lv_iconst (v := 0) hx hb dL_law_15 (by decide) ?_
  refine lv_istore (lv' := [(4, .int 0), (3, .int 0), (2, .ref o9), (1, .ref a), (0, .ref b)]) hx hb dL_law_16 hl (by decide) rfl (fun ls hl => ?_)
  refine W.widen (k := 50) (n := 2000) (by (try dsimp only); omega) (by (try dsimp only); omega) ?_
  refine W.eq (g2 := F0 m 18 ls []) rfl ?_
  exact law_begin hC hL (ad := adL a b9 o9 Z.2.2.2) hSy rfl rfl hS hl
