def lX6_dayA (g : sG) (q : sQ) : Nat → sG
  | 0 => (sy_up g 60 9 ((g 60 9) + 1))
  | k0 + 1 => (fX3_wearOn (lX6_dayA g q k0) q k0 ((lX6_dayA g q k0) 60 9))
def lX6_dayB (g : sG) (q : sQ) : Nat → sG
  | 0 => (lX6_dayA g q (g 61 2).toNatClampNeg)
  | k0 + 1 => (fX4_endNoticeOn (lX6_dayB g q k0) q k0 ((lX6_dayB g q k0) 60 9))
def lX6_dayC (g : sG) (q : sQ) : Nat → sG
  | 0 => (lX6_dayB g q (g 62 2).toNatClampNeg)
  | k0 + 1 => (if (fX4_surplusEndsOn (lX6_dayC g q k0) q k0 ((lX6_dayC g q k0) 60 9)) = 0 then (lX6_dayC g q k0) else (sy_up (fX6_releaseSurplus (lX6_dayC g q k0) q k0).2 68 2 (((lX6_dayC g q k0) 68 2) + ((fX6_releaseSurplus (lX6_dayC g q k0) q k0).1))))
theorem lX6_dayA_ig {nT nK cT cK : Nat} {g : sG} (hG : IG nT nK cT cK g) (hd1 : ∃ d, g 60 9 = nI d ∧ d + 1 ≤ 5000) (q : sQ) (k0 : Nat) : IG nT nK cT cK (lX6_dayA g q k0) := by
  induction k0 with
  | zero => exact ig_day hG hd1
  | succ k0 ih =>
    rw [lX6_dayA]
    exact ig_wear q _ _ ih
theorem lX6_dayB_ig {nT nK cT cK : Nat} {g : sG} (hG : IG nT nK cT cK g) (hd1 : ∃ d, g 60 9 = nI d ∧ d + 1 ≤ 5000) (q : sQ) (k0 : Nat) : IG nT nK cT cK (lX6_dayB g q k0) := by
  induction k0 with
  | zero => exact lX6_dayA_ig hG hd1 q _
  | succ k0 ih =>
    rw [lX6_dayB]
    exact ig_endNotice q _ _ ih
theorem lX6_dayC_ig {nT nK cT cK : Nat} {g : sG} (hG : IG nT nK cT cK g) (hd1 : ∃ d, g 60 9 = nI d ∧ d + 1 ≤ 5000) (q : sQ) (k0 : Nat) : IG nT nK cT cK (lX6_dayC g q k0) := by
  induction k0 with
  | zero => exact lX6_dayB_ig hG hd1 q _
  | succ k0 ih =>
    rw [lX6_dayC]
    repeat' split
    all_goals first | exact ih | exact ig_a (by omega) (ig_release q _ ih)
def fX6_passOneDay (g : sG) (q : sQ)  : sG := (lX6_dayC g q (g 62 2).toNatClampNeg)
set_option maxHeartbeats 4000000 in
set_option maxRecDepth 100000 in
theorem mX6_passOneDay (l : Launch) (hfl : l.stackTraces = false) (Z : sZ) (nT nK cT cK : Nat) (ad : Nat → Nat) (g : sG) (q : sQ)  (hT : nT ≤ 100) (hG : IG nT nK cT cK g) (hQ : IQ nT nK q) (hd1 : ∃ d, g 60 9 = nI d ∧ d + 1 ≤ 5000) : sMv l Z yX6_passOneDay (uW (.code yX6_passOneDay cX6_passOneDay 3 none)) { frames := 3, cells := 0, slots := 0, locals := 64 } [.ref (ad 60)] nT nK cT cK ad g q (fun g1 q1 => (g1, q1) = (fX6_passOneDay g q, q)) := by
  refine Met.ofW (cc := cX6_passOneDay) (maxL := 3) (ret := none) (by decide) rfl ?_
  intro p e s m args below meth c s₁ B hml hv
  obtain ⟨rfl, hE, hP⟩ := hv
  have hx := B.exec
  have hb := B.bytes
  have hr := B.returns
  have hts := atoms_spec (ws := uW (.code yX6_passOneDay cX6_passOneDay 3 none)) B.pre
  have hown : s.vm.findClass RX6 = some m.cls := findClass_of_methodNamed B.named
  have hlocks := B.notSynchronized
  have hS : va_S (sy_A Z) s.heap s.heap [] := va_S.rf
  have hl := lv_entry ([.ref (ad 60)]) (n := 3) (Nat.le_of_ble_eq_true rfl)
  rw [lg_entry_eq]
  generalize (lg_sl ([.ref (ad 60)]) ++ List.replicate (3 - (lg_sl ([.ref (ad 60)])).length) Slot.unset).toArray = ls at hl ⊢
  have hl : lv_has ls 3 [(0, .ref (ad 60))] := hl
  refine lv_aload_n hx hb dX6_passOneDay_0 rfl (lv_at hl 0 rfl) ?_
  refine lv_dup hx hb dX6_passOneDay_1 rfl ?_
  refine sy_getRX6 hx hb hts hown hE hP 60 rfl 9 (by decide) (hts _ (u_in uk_1_161)) (v := .int (g 60 9)) rfl dX6_passOneDay_2 ?_
  refine lv_iconst (v := 1) hx hb dX6_passOneDay_5 (by decide) ?_
  refine lv_iadd hx hb dX6_passOneDay_6 ?_
  refine sy_putRX6 hx hb hts hown hE hP hS 60 rfl 9 (by decide) (hts _ (u_in uk_1_161)) rfl (ty := .int) (by decide +kernel) rfl rfl (sy_up g 60 9 ((g 60 9) + 1)) q (by rw [sy_up_s g 60 9 ((g 60 9) + 1)]; exact se_RX6_9 _ _ _ _ _ _ _) (fun _ h9 => sy_up_o _ _ _ h9) (fun _ _ => rfl) dX6_passOneDay_7 (fun H locs hP hS => ?_)
  refine lv_iconst (v := 0) hx hb dX6_passOneDay_10 (by decide) ?_
  refine lv_istore_n (lv' := [(1, .int 0), (0, .ref (ad 60))]) hx hb dX6_passOneDay_11 rfl hl (by decide) rfl (fun ls hl => ?_)
  have hL_12 : ∀ (n k0 : Nat), k0 ≤ (g 61 2).toNatClampNeg → (g 61 2).toNatClampNeg + 1 ≤ k0 + n → ∀ (H : Heap) (locs : List Loc) (ls : Array Slot), Sy Z nT nK cT cK ad (lX6_dayA g q k0) q H → va_S (sy_A Z) s.heap H locs → lv_has ls 3 [(1, .int (nI k0)), (0, .ref (ad 60))] → W p l e ({ frames := 3, cells := 0, slots := 0, locals := 64 } : Room) s m ([.ref (ad 60)] : List Value).toArray below meth c H locs 0 0 (MQ below (sQv Z nT nK cT cK ad (fun g1 q1 => (g1, q1) = (fX6_passOneDay g q, q))) ([.ref (ad 60)] : List Value).toArray s 0 0 (sy_A Z)) (F0 m 12 ls []) := by
    intro n
    induction n with
    | zero => intro k0 hi hn ; exact absurd hn (by omega)
    | succ n ih =>
      intro k0 hi hn H locs ls hP hS hl
      have hN9 := (ig_nT hG).2
      refine lv_iload_n hx hb dX6_passOneDay_12 rfl (lv_at hl 0 rfl) ?_
      refine lv_aload_n hx hb dX6_passOneDay_13 rfl (lv_at hl 1 rfl) ?_
      refine sy_getRX6 hx hb hts hown hE hP 60 rfl 0 (by decide) (hts _ (u_in uk_1_152)) (v := .ref (ad 61)) rfl dX6_passOneDay_14 ?_
      refine sy_ki (sy_rV (o := 61) (As := []) (rest := [.int (nI k0)]) ⟨hx, hb, hml, hown, hts⟩ hE hP hS (mJx4a65c_size_8abf5T l hfl Z nT nK cT cK ad (lX6_dayA g q k0) q) (cwV 0 hts (gu_V uk_2_46 uk_2_47 uk_2_48 uk_1_4 uk_2_49) rfl rfl rfl (by decide +kernel) ⟨Nat.le_of_ble_eq_true rfl, Nat.le_of_ble_eq_true rfl⟩) (sy_recv (kc := 0) hE hP rfl (by decide) rfl rfl rfl) rfl hl.1 rfl (Nat.le_of_ble_eq_true rfl) dX6_passOneDay_17 ⟨Nat.le_of_ble_eq_true rfl, Nat.le_of_ble_eq_true rfl⟩) hS (fun r_e_1 g_e_1 q_e_1 H locs e_1 hP hS => ?_)
      cases e_1
      refine sy_top (y := ((lX6_dayA g q k0) 61 2)) (by rfl) ?_
      refine lv_icmp_ge (tgt := 47) hx hb dX6_passOneDay_20 (by decide) (fun c_2 => ?_) (fun c_2 => ?_)
      · skip
        obtain rfl := loop_exit (N := (g 61 2).toNatClampNeg) ((lX6_dayA_ig hG hd1 q k0).1.trans (congrArg nI (ig_nTe hG).symm)) (by omega) hi c_2
        refine lv_iconst (v := 0) hx hb dX6_passOneDay_47 (by decide) ?_
        refine lv_istore_n (lv' := [(1, .int 0), (0, .ref (ad 60))]) hx hb dX6_passOneDay_48 rfl hl (by decide) rfl (fun ls hl => ?_)
        have hL_49 : ∀ (n k0 : Nat), k0 ≤ (g 62 2).toNatClampNeg → (g 62 2).toNatClampNeg + 1 ≤ k0 + n → ∀ (H : Heap) (locs : List Loc) (ls : Array Slot), Sy Z nT nK cT cK ad (lX6_dayB g q k0) q H → va_S (sy_A Z) s.heap H locs → lv_has ls 3 [(1, .int (nI k0)), (0, .ref (ad 60))] → W p l e ({ frames := 3, cells := 0, slots := 0, locals := 64 } : Room) s m ([.ref (ad 60)] : List Value).toArray below meth c H locs 0 0 (MQ below (sQv Z nT nK cT cK ad (fun g1 q1 => (g1, q1) = (fX6_passOneDay g q, q))) ([.ref (ad 60)] : List Value).toArray s 0 0 (sy_A Z)) (F0 m 49 ls []) := by
          intro n
          induction n with
          | zero => intro k0 hi hn ; exact absurd hn (by omega)
          | succ n ih =>
            intro k0 hi hn H locs ls hP hS hl
            have hN9 := (ig_nK hG).2
            refine lv_iload_n hx hb dX6_passOneDay_49 rfl (lv_at hl 0 rfl) ?_
            refine lv_aload_n hx hb dX6_passOneDay_50 rfl (lv_at hl 1 rfl) ?_
            refine sy_getRX6 hx hb hts hown hE hP 60 rfl 1 (by decide) (hts _ (u_in uk_1_153)) (v := .ref (ad 62)) rfl dX6_passOneDay_51 ?_
            refine sy_ki (sy_rV (o := 62) (As := []) (rest := [.int (nI k0)]) ⟨hx, hb, hml, hown, hts⟩ hE hP hS (mJx4a65c_size_8abf5K l hfl Z nT nK cT cK ad (lX6_dayB g q k0) q) (cwV 0 hts (gu_V uk_2_46 uk_2_47 uk_2_48 uk_1_4 uk_2_49) rfl rfl rfl (by decide +kernel) ⟨Nat.le_of_ble_eq_true rfl, Nat.le_of_ble_eq_true rfl⟩) (sy_recv (kc := 0) hE hP rfl (by decide) rfl rfl rfl) rfl hl.1 rfl (Nat.le_of_ble_eq_true rfl) dX6_passOneDay_54 ⟨Nat.le_of_ble_eq_true rfl, Nat.le_of_ble_eq_true rfl⟩) hS (fun r_e_3 g_e_3 q_e_3 H locs e_3 hP hS => ?_)
            cases e_3
            refine sy_top (y := ((lX6_dayB g q k0) 62 2)) (by rfl) ?_
            refine lv_icmp_ge (tgt := 84) hx hb dX6_passOneDay_57 (by decide) (fun c_4 => ?_) (fun c_4 => ?_)
            · skip
              obtain rfl := loop_exit (N := (g 62 2).toNatClampNeg) ((lX6_dayB_ig hG hd1 q k0).2.2.2.1.trans (congrArg nI (ig_nKe hG).symm)) (by omega) hi c_4
              refine lv_iconst (v := 0) hx hb dX6_passOneDay_84 (by decide) ?_
              refine lv_istore_n (lv' := [(1, .int 0), (0, .ref (ad 60))]) hx hb dX6_passOneDay_85 rfl hl (by decide) rfl (fun ls hl => ?_)
              have hL_86 : ∀ (n k0 : Nat), k0 ≤ (g 62 2).toNatClampNeg → (g 62 2).toNatClampNeg + 1 ≤ k0 + n → ∀ (H : Heap) (locs : List Loc) (ls : Array Slot), Sy Z nT nK cT cK ad (lX6_dayC g q k0) q H → va_S (sy_A Z) s.heap H locs → lv_has ls 3 [(1, .int (nI k0)), (0, .ref (ad 60))] → W p l e ({ frames := 3, cells := 0, slots := 0, locals := 64 } : Room) s m ([.ref (ad 60)] : List Value).toArray below meth c H locs 0 0 (MQ below (sQv Z nT nK cT cK ad (fun g1 q1 => (g1, q1) = (fX6_passOneDay g q, q))) ([.ref (ad 60)] : List Value).toArray s 0 0 (sy_A Z)) (F0 m 86 ls []) := by
                intro n
                induction n with
                | zero => intro k0 hi hn ; exact absurd hn (by omega)
                | succ n ih =>
                  intro k0 hi hn H locs ls hP hS hl
                  have hN9 := (ig_nK hG).2
                  refine lv_iload_n hx hb dX6_passOneDay_86 rfl (lv_at hl 0 rfl) ?_
                  refine lv_aload_n hx hb dX6_passOneDay_87 rfl (lv_at hl 1 rfl) ?_
                  refine sy_getRX6 hx hb hts hown hE hP 60 rfl 1 (by decide) (hts _ (u_in uk_1_153)) (v := .ref (ad 62)) rfl dX6_passOneDay_88 ?_
                  refine sy_ki (sy_rV (o := 62) (As := []) (rest := [.int (nI k0)]) ⟨hx, hb, hml, hown, hts⟩ hE hP hS (mJx4a65c_size_8abf5K l hfl Z nT nK cT cK ad (lX6_dayC g q k0) q) (cwV 0 hts (gu_V uk_2_46 uk_2_47 uk_2_48 uk_1_4 uk_2_49) rfl rfl rfl (by decide +kernel) ⟨Nat.le_of_ble_eq_true rfl, Nat.le_of_ble_eq_true rfl⟩) (sy_recv (kc := 0) hE hP rfl (by decide) rfl rfl rfl) rfl hl.1 rfl (Nat.le_of_ble_eq_true rfl) dX6_passOneDay_91 ⟨Nat.le_of_ble_eq_true rfl, Nat.le_of_ble_eq_true rfl⟩) hS (fun r_e_5 g_e_5 q_e_5 H locs e_5 hP hS => ?_)
                  cases e_5
                  refine sy_top (y := ((lX6_dayC g q k0) 62 2)) (by rfl) ?_
                  refine lv_icmp_ge (tgt := 143) hx hb dX6_passOneDay_94 (by decide) (fun c_6 => ?_) (fun c_6 => ?_)
                  · skip
                    obtain rfl := loop_exit (N := (g 62 2).toNatClampNeg) ((lX6_dayC_ig hG hd1 q k0).2.2.2.1.trans (congrArg nI (ig_nKe hG).symm)) (by omega) hi c_6
                    exact (sy_vret hx hb hr hlocks hE hP hS dX6_passOneDay_143 ⟨Nat.le_of_ble_eq_true rfl, Nat.le_of_ble_eq_true rfl⟩ (by unfold fX6_passOneDay; rfl))
                  · skip
                    have hk0 : k0 < (g 62 2).toNatClampNeg := loop_in (N := (g 62 2).toNatClampNeg) ((lX6_dayC_ig hG hd1 q k0).2.2.2.1.trans (congrArg nI (ig_nKe hG).symm)) (by omega) hi c_6
                    refine lv_aload_n hx hb dX6_passOneDay_97 rfl (lv_at hl 1 rfl) ?_
                    refine sy_getRX6 hx hb hts hown hE hP 60 rfl 1 (by decide) (hts _ (u_in uk_1_153)) (v := .ref (ad 62)) rfl dX6_passOneDay_98 ?_
                    refine lv_iload_n hx hb dX6_passOneDay_101 rfl (lv_at hl 0 rfl) ?_
                    refine sy_kr (sy_rV (o := 62) (As := [.int (nI k0)]) (rest := []) ⟨hx, hb, hml, hown, hts⟩ hE hP hS (mJx4a65c_get_915e3K l hfl Z nT nK cT cK ad (lX6_dayC g q k0) q k0 (lX6_dayC_ig hG hd1 q k0) hQ (ig_ltK hG hk0)) (cwV 1 hts (gu_V uk_3_16 uk_3_17 uk_3_18 uk_1_4 uk_3_19) rfl rfl rfl (by decide +kernel) ⟨Nat.le_of_ble_eq_true rfl, Nat.le_of_ble_eq_true rfl⟩) (sy_recv (kc := 0) hE hP rfl (by decide) rfl rfl rfl) rfl hl.1 rfl (Nat.le_of_ble_eq_true rfl) dX6_passOneDay_102 ⟨Nat.le_of_ble_eq_true rfl, Nat.le_of_ble_eq_true rfl⟩) hS (fun o_e_7 H locs e_7 hP hS => ?_)
                    subst e_7
                    refine va_castS hx hb hown (hts _ (u_in uk_3_50)) (hE.1.1 5 _ rfl).2 (sy_recv (kc := 5) hE hP (sy_kdK (ig_ltK hG hk0)) (by decide) rfl rfl rfl) dX6_passOneDay_105 ?_
                    refine lv_astore_n (lv' := [(2, .ref (ad (200 + k0))), (1, .int (nI k0)), (0, .ref (ad 60))]) hx hb dX6_passOneDay_108 rfl hl (by decide) rfl (fun ls hl => ?_)
                    refine lv_aload_n hx hb dX6_passOneDay_109 rfl (lv_at hl 0 rfl) ?_
                    refine lv_aload_n hx hb dX6_passOneDay_110 rfl (lv_at hl 2 rfl) ?_
                    refine sy_getRX6 hx hb hts hown hE hP 60 rfl 9 (by decide) (hts _ (u_in uk_1_161)) (v := .int ((lX6_dayC g q k0) 60 9)) rfl dX6_passOneDay_111 ?_
                    refine sy_ki (sy_rV (o := (200 + k0)) (As := [.int ((lX6_dayC g q k0) 60 9)]) (rest := []) ⟨hx, hb, hml, hown, hts⟩ hE hP hS (mX4_surplusEndsOn l hfl Z nT nK cT cK ad (lX6_dayC g q k0) q k0 ((lX6_dayC g q k0) 60 9) hT (ig_ltK hG hk0)) (cwV 1 hts (gu_V uk_4_30 uk_4_31 uk_4_32 uk_1_22 uk_4_33) rfl rfl rfl (by decide +kernel) ⟨Nat.le_of_ble_eq_true rfl, Nat.le_of_ble_eq_true rfl⟩) (sy_recv (kc := 5) hE hP (sy_kdK (ig_ltK hG hk0)) (by decide) rfl rfl rfl) rfl hl.1 rfl (Nat.le_of_ble_eq_true rfl) dX6_passOneDay_114 ⟨Nat.le_of_ble_eq_true rfl, Nat.le_of_ble_eq_true rfl⟩) hS (fun r_e_8 g_e_8 q_e_8 H locs e_8 hP hS => ?_)
                    cases e_8
                    refine lv_if_eq (tgt := 137) hx hb dX6_passOneDay_117 (by decide) (fun c_9 => ?_) (fun c_9 => ?_)
                    · skip
                      refine lv_iinc (v := ((nI k0) + 1)) (lv' := [(1, .int ((nI k0) + 1)), (2, .ref (ad (200 + k0))), (0, .ref (ad 60))]) hx hb dX6_passOneDay_137 hl (k := 1) rfl rfl (by decide) rfl (fun ls hl => ?_)
                      refine lv_goto (tgt := 86) hx hb dX6_passOneDay_140 (by decide) ?_
                      have hF : lX6_dayC g q (k0 + 1) = (lX6_dayC g q k0) := by rw [lX6_dayC, if_pos c_9] <;> rfl
                      exact ih (k0 + 1) (by omega) (by omega) H locs ls (by rw [hF]; exact hP) hS (by rw [nI_succ]; exact lv_sub hl [0, 2] rfl)
                    · skip
                      refine lv_aload_n hx hb dX6_passOneDay_120 rfl (lv_at hl 2 rfl) ?_
                      refine sy_getRX6 hx hb hts hown hE hP 60 rfl 7 (by decide) (hts _ (u_in uk_1_159)) (v := .ref (ad 68)) rfl dX6_passOneDay_121 ?_
                      refine lv_dup hx hb dX6_passOneDay_124 rfl ?_
                      refine sy_getRX5 hx hb hts hown hE hP 68 rfl 2 (by decide) (hts _ (u_in uk_1_138)) (v := .int ((lX6_dayC g q k0) 68 2)) rfl dX6_passOneDay_125 ?_
                      refine lv_aload_n hx hb dX6_passOneDay_128 rfl (lv_at hl 2 rfl) ?_
                      refine lv_aload_n hx hb dX6_passOneDay_129 rfl (lv_at hl 0 rfl) ?_
                      refine sy_ki (sy_rV (o := 60) (As := [.ref (ad (200 + k0))]) (rest := [.int ((lX6_dayC g q k0) 68 2), .ref (ad 68)]) ⟨hx, hb, hml, hown, hts⟩ hE hP hS (mX6_releaseSurplus l hfl Z nT nK cT cK ad (lX6_dayC g q k0) q k0 hT (lX6_dayC_ig hG hd1 q k0) hQ (ig_ltK hG hk0)) (cwV 1 hts (gu_V uk_4_34 uk_4_36 uk_0_14 uk_1_1 uk_4_37) rfl rfl rfl (by decide +kernel) ⟨Nat.le_of_ble_eq_true rfl, Nat.le_of_ble_eq_true rfl⟩) (sy_recv (kc := 7) hE hP rfl (by decide) rfl rfl rfl) rfl hl.1 rfl (Nat.le_of_ble_eq_true rfl) dX6_passOneDay_130 ⟨Nat.le_of_ble_eq_true rfl, Nat.le_of_ble_eq_true rfl⟩) hS (fun r_e_10 g_e_10 q_e_10 H locs e_10 hP hS => ?_)
                      cases e_10
                      refine lv_iadd hx hb dX6_passOneDay_133 ?_
                      refine sy_putRX5 hx hb hts hown hE hP hS 68 rfl 2 (by decide) (hts _ (u_in uk_1_138)) rfl (ty := .int) (by decide +kernel) rfl rfl (sy_up (fX6_releaseSurplus (lX6_dayC g q k0) q k0).2 68 2 (((lX6_dayC g q k0) 68 2) + ((fX6_releaseSurplus (lX6_dayC g q k0) q k0).1))) q (by rw [sy_up_s (fX6_releaseSurplus (lX6_dayC g q k0) q k0).2 68 2 (((lX6_dayC g q k0) 68 2) + ((fX6_releaseSurplus (lX6_dayC g q k0) q k0).1))]; exact se_RX5_2 _ _ _ _ _ _ _) (fun _ h9 => sy_up_o _ _ _ h9) (fun _ _ => rfl) dX6_passOneDay_134 (fun H locs hP hS => ?_)
                      refine lv_iinc (v := ((nI k0) + 1)) (lv' := [(1, .int ((nI k0) + 1)), (2, .ref (ad (200 + k0))), (0, .ref (ad 60))]) hx hb dX6_passOneDay_137 hl (k := 1) rfl rfl (by decide) rfl (fun ls hl => ?_)
                      refine lv_goto (tgt := 86) hx hb dX6_passOneDay_140 (by decide) ?_
                      have hF : lX6_dayC g q (k0 + 1) = (sy_up (fX6_releaseSurplus (lX6_dayC g q k0) q k0).2 68 2 (((lX6_dayC g q k0) 68 2) + ((fX6_releaseSurplus (lX6_dayC g q k0) q k0).1))) := by rw [lX6_dayC, if_neg c_9] <;> rfl
                      exact ih (k0 + 1) (by omega) (by omega) H locs ls (by rw [hF]; exact hP) hS (by rw [nI_succ]; exact lv_sub hl [0, 2] rfl)
              exact hL_86 ((g 62 2).toNatClampNeg + 1) 0 (Nat.zero_le _) (by omega) _ _ _ hP hS (lv_sub hl [0, 1] rfl)
            · skip
              have hk0 : k0 < (g 62 2).toNatClampNeg := loop_in (N := (g 62 2).toNatClampNeg) ((lX6_dayB_ig hG hd1 q k0).2.2.2.1.trans (congrArg nI (ig_nKe hG).symm)) (by omega) hi c_4
              refine lv_aload_n hx hb dX6_passOneDay_60 rfl (lv_at hl 1 rfl) ?_
              refine sy_getRX6 hx hb hts hown hE hP 60 rfl 1 (by decide) (hts _ (u_in uk_1_153)) (v := .ref (ad 62)) rfl dX6_passOneDay_61 ?_
              refine lv_iload_n hx hb dX6_passOneDay_64 rfl (lv_at hl 0 rfl) ?_
              refine sy_kr (sy_rV (o := 62) (As := [.int (nI k0)]) (rest := []) ⟨hx, hb, hml, hown, hts⟩ hE hP hS (mJx4a65c_get_915e3K l hfl Z nT nK cT cK ad (lX6_dayB g q k0) q k0 (lX6_dayB_ig hG hd1 q k0) hQ (ig_ltK hG hk0)) (cwV 1 hts (gu_V uk_3_16 uk_3_17 uk_3_18 uk_1_4 uk_3_19) rfl rfl rfl (by decide +kernel) ⟨Nat.le_of_ble_eq_true rfl, Nat.le_of_ble_eq_true rfl⟩) (sy_recv (kc := 0) hE hP rfl (by decide) rfl rfl rfl) rfl hl.1 rfl (Nat.le_of_ble_eq_true rfl) dX6_passOneDay_65 ⟨Nat.le_of_ble_eq_true rfl, Nat.le_of_ble_eq_true rfl⟩) hS (fun o_e_11 H locs e_11 hP hS => ?_)
              subst e_11
              refine va_castS hx hb hown (hts _ (u_in uk_3_50)) (hE.1.1 5 _ rfl).2 (sy_recv (kc := 5) hE hP (sy_kdK (ig_ltK hG hk0)) (by decide) rfl rfl rfl) dX6_passOneDay_68 ?_
              refine lv_aload_n hx hb dX6_passOneDay_71 rfl (lv_at hl 1 rfl) ?_
              refine sy_getRX6 hx hb hts hown hE hP 60 rfl 9 (by decide) (hts _ (u_in uk_1_161)) (v := .int ((lX6_dayB g q k0) 60 9)) rfl dX6_passOneDay_72 ?_
              refine sy_kv (sy_rV (o := (200 + k0)) (As := [.int ((lX6_dayB g q k0) 60 9)]) (rest := []) ⟨hx, hb, hml, hown, hts⟩ hE hP hS (mX4_endNoticeOn l hfl Z nT nK cT cK ad (lX6_dayB g q k0) q k0 ((lX6_dayB g q k0) 60 9) hT (ig_ltK hG hk0)) (cwV 1 hts (gu_V uk_4_25 uk_4_26 uk_4_27 uk_1_22 uk_4_28) rfl rfl rfl (by decide +kernel) ⟨Nat.le_of_ble_eq_true rfl, Nat.le_of_ble_eq_true rfl⟩) (sy_recv (kc := 5) hE hP (sy_kdK (ig_ltK hG hk0)) (by decide) rfl rfl rfl) rfl hl.1 rfl (Nat.le_of_ble_eq_true rfl) dX6_passOneDay_75 ⟨Nat.le_of_ble_eq_true rfl, Nat.le_of_ble_eq_true rfl⟩) hS (fun g_e_12 q_e_12 H locs e_12 hP hS => ?_)
              cases e_12
              refine lv_iinc (v := ((nI k0) + 1)) (lv' := [(1, .int ((nI k0) + 1)), (0, .ref (ad 60))]) hx hb dX6_passOneDay_78 hl (k := 0) rfl rfl (by decide) rfl (fun ls hl => ?_)
              refine lv_goto (tgt := 49) hx hb dX6_passOneDay_81 (by decide) ?_
              have hF : lX6_dayB g q (k0 + 1) = (fX4_endNoticeOn (lX6_dayB g q k0) q k0 ((lX6_dayB g q k0) 60 9)) := by rw [lX6_dayB] <;> rfl
              exact ih (k0 + 1) (by omega) (by omega) H locs ls (by rw [hF]; exact hP) hS (by rw [nI_succ]; exact lv_sub hl [0, 1] rfl)
        exact hL_49 ((g 62 2).toNatClampNeg + 1) 0 (Nat.zero_le _) (by omega) _ _ _ hP hS (lv_sub hl [0, 1] rfl)
      · skip
        have hk0 : k0 < (g 61 2).toNatClampNeg := loop_in (N := (g 61 2).toNatClampNeg) ((lX6_dayA_ig hG hd1 q k0).1.trans (congrArg nI (ig_nTe hG).symm)) (by omega) hi c_2
        refine lv_aload_n hx hb dX6_passOneDay_23 rfl (lv_at hl 1 rfl) ?_
        refine sy_getRX6 hx hb hts hown hE hP 60 rfl 0 (by decide) (hts _ (u_in uk_1_152)) (v := .ref (ad 61)) rfl dX6_passOneDay_24 ?_
        refine lv_iload_n hx hb dX6_passOneDay_27 rfl (lv_at hl 0 rfl) ?_
        refine sy_kr (sy_rV (o := 61) (As := [.int (nI k0)]) (rest := []) ⟨hx, hb, hml, hown, hts⟩ hE hP hS (mJx4a65c_get_915e3T l hfl Z nT nK cT cK ad (lX6_dayA g q k0) q k0 (lX6_dayA_ig hG hd1 q k0) hQ (ig_ltT hG hk0)) (cwV 1 hts (gu_V uk_3_16 uk_3_17 uk_3_18 uk_1_4 uk_3_19) rfl rfl rfl (by decide +kernel) ⟨Nat.le_of_ble_eq_true rfl, Nat.le_of_ble_eq_true rfl⟩) (sy_recv (kc := 0) hE hP rfl (by decide) rfl rfl rfl) rfl hl.1 rfl (Nat.le_of_ble_eq_true rfl) dX6_passOneDay_28 ⟨Nat.le_of_ble_eq_true rfl, Nat.le_of_ble_eq_true rfl⟩) hS (fun o_e_13 H locs e_13 hP hS => ?_)
        subst e_13
        refine va_castS hx hb hown (hts _ (u_in uk_2_68)) (hE.1.1 4 _ rfl).2 (sy_recv (kc := 4) hE hP (sy_kdT (ig_ltT hG hk0) hT) (by decide) rfl rfl rfl) dX6_passOneDay_31 ?_
        refine lv_aload_n hx hb dX6_passOneDay_34 rfl (lv_at hl 1 rfl) ?_
        refine sy_getRX6 hx hb hts hown hE hP 60 rfl 9 (by decide) (hts _ (u_in uk_1_161)) (v := .int ((lX6_dayA g q k0) 60 9)) rfl dX6_passOneDay_35 ?_
        refine sy_kv (sy_rV (o := (100 + k0)) (As := [.int ((lX6_dayA g q k0) 60 9)]) (rest := []) ⟨hx, hb, hml, hown, hts⟩ hE hP hS (mX3_wearOn l hfl Z nT nK cT cK ad (lX6_dayA g q k0) q k0 ((lX6_dayA g q k0) 60 9) hT (ig_ltT hG hk0)) (cwV 1 hts (gu_V uk_4_13 uk_4_14 uk_4_15 uk_1_15 uk_4_16) rfl rfl rfl (by decide +kernel) ⟨Nat.le_of_ble_eq_true rfl, Nat.le_of_ble_eq_true rfl⟩) (sy_recv (kc := 4) hE hP (sy_kdT (ig_ltT hG hk0) hT) (by decide) rfl rfl rfl) rfl hl.1 rfl (Nat.le_of_ble_eq_true rfl) dX6_passOneDay_38 ⟨Nat.le_of_ble_eq_true rfl, Nat.le_of_ble_eq_true rfl⟩) hS (fun g_e_14 q_e_14 H locs e_14 hP hS => ?_)
        cases e_14
        refine lv_iinc (v := ((nI k0) + 1)) (lv' := [(1, .int ((nI k0) + 1)), (0, .ref (ad 60))]) hx hb dX6_passOneDay_41 hl (k := 0) rfl rfl (by decide) rfl (fun ls hl => ?_)
        refine lv_goto (tgt := 12) hx hb dX6_passOneDay_44 (by decide) ?_
        have hF : lX6_dayA g q (k0 + 1) = (fX3_wearOn (lX6_dayA g q k0) q k0 ((lX6_dayA g q k0) 60 9)) := by rw [lX6_dayA] <;> rfl
        exact ih (k0 + 1) (by omega) (by omega) H locs ls (by rw [hF]; exact hP) hS (by rw [nI_succ]; exact lv_sub hl [0, 1] rfl)
  exact hL_12 ((g 61 2).toNatClampNeg + 1) 0 (Nat.zero_le _) (by omega) _ _ _ hP hS (lv_sub hl [0, 1] rfl)
