theorem ig_nTe {nT nK cT cK : Nat} {g : sG} (h : IG nT nK cT cK g) : (g 61 2).toNatClampNeg = nT := by rw [h.1]; exact nI_clamp (by have := h.2.1; omega)
theorem ig_nKe {nT nK cT cK : Nat} {g : sG} (h : IG nT nK cT cK g) : (g 62 2).toNatClampNeg = nK := by rw [h.2.2.2.1]; exact nI_clamp (by have := h.2.2.2.2.1; omega)
/-- an int that the counts don't speak of -/
theorem ig_a {nT nK cT cK o k : Nat} {g : sG} {v : Int32} (ho : (o ≠ 61 ∨ k ≠ 2) ∧ (o ≠ 62 ∨ k ≠ 2) ∧ (o ≠ 67 ∨ (k ≠ 3 ∧ k ≠ 6)) ∧ (o ≠ 68 ∨ k ≠ 4) ∧ (o ≠ 60 ∨ k ≠ 9) ∧ (o < 100 ∨ k ≠ 1) ∧ (o < 200 ∨ k ≠ 9)) (h : IG nT nK cT cK g) : IG nT nK cT cK (sy_up g o k v) := by
  obtain ⟨h1, h2, h3, h4, h5, h6, h7, h8, h9, h10, d, h11, h12, h13⟩ := h
  unfold IG
  rw [sy_up_a g o k v 61 2, if_neg (by omega), sy_up_a g o k v 62 2, if_neg (by omega), sy_up_a g o k v 67 3, if_neg (by omega), sy_up_a g o k v 67 6, if_neg (by omega), sy_up_a g o k v 68 4, if_neg (by omega), sy_up_a g o k v 60 9, if_neg (by omega)]
  refine ⟨h1, h2, h3, h4, h5, h6, h7, h8, h9, fun i hi => ?_, d, h11, h12, fun j hj => ?_⟩
  · rw [sy_up_a, if_neg (by omega)]; exact h10 i hi
  · rw [sy_up_a, if_neg (by omega)]; exact h13 j hj
theorem ig_move {nT nK cT cK : Nat} {g : sG} (q : sQ) (x : Int32) (h : IG nT nK cT cK g) : IG nT nK cT cK (fX5_move g q x) := by
  unfold fX5_move
  by_cases c : (600 : Int32) ≤ g 68 4
  · rw [if_pos c]
    exact ig_a (by omega) (ig_a (by omega) h)
  · rw [if_neg c]
    have h0 : IG nT nK cT cK (sy_up (sy_up g 68 0 ((g 68 0) + x)) 78 ((g 68 4).toNatClampNeg) x) := ig_a (by omega) (ig_a (by omega) h)
    obtain ⟨h1, h2, h3, h4, h5, h6, h7, h8, h9, h10, d, h11, h12, h13⟩ := h0
    obtain ⟨m, hm, hm2⟩ := h.2.2.2.2.2.2.2.2.1
    generalize (sy_up (sy_up g 68 0 ((g 68 0) + x)) 78 ((g 68 4).toNatClampNeg) x) = g0 at *
    unfold IG
    rw [sy_up_a g0 68 4 _ 61 2, if_neg (by omega), sy_up_a g0 68 4 _ 62 2, if_neg (by omega), sy_up_a g0 68 4 _ 67 3, if_neg (by omega), sy_up_a g0 68 4 _ 67 6, if_neg (by omega), sy_up_e, sy_up_a g0 68 4 _ 60 9, if_neg (by omega)]
    refine ⟨h1, h2, h3, h4, h5, h6, h7, h8, ⟨m + 1, ?_, by rw [hm2]; exact nI_1 m⟩, fun i hi => ?_, d, h11, h12, fun j hj => ?_⟩
    · rw [hm2] at c
      have := mt (nI_leI (a := 600) (by decide) (by omega)).mpr c
      omega
    · rw [sy_up_a, if_neg (by omega)]; exact h10 i hi
    · rw [sy_up_a, if_neg (by omega)]; exact h13 j hj
theorem ig_day {nT nK cT cK : Nat} {g : sG} (h : IG nT nK cT cK g) (hd : ∃ d, g 60 9 = nI d ∧ d + 1 ≤ 5000) : IG nT nK cT cK (sy_up g 60 9 ((g 60 9) + 1)) := by
  obtain ⟨h1, h2, h3, h4, h5, h6, h7, h8, h9, h10, d, h11, h12, h13⟩ := h
  obtain ⟨d', h14, h15⟩ := hd
  have e : d = d' := (nI_eq (by omega) (by omega)).mp (h12.symm.trans h14)
  subst e
  unfold IG
  rw [sy_up_a g 60 9 _ 61 2, if_neg (by omega), sy_up_a g 60 9 _ 62 2, if_neg (by omega), sy_up_a g 60 9 _ 67 3, if_neg (by omega), sy_up_a g 60 9 _ 67 6, if_neg (by omega), sy_up_a g 60 9 _ 68 4, if_neg (by omega), sy_up_e]
  refine ⟨h1, h2, h3, h4, h5, h6, h7, h8, h9, fun i hi => ?_, d + 1, h15, by rw [h12]; exact nI_1 d, fun j hj => ?_⟩
  · rw [sy_up_a, if_neg (by omega)]; exact h10 i hi
  · obtain ⟨b, hb, hb2⟩ := h13 j hj
    exact ⟨b, by omega, by rw [sy_up_a, if_neg (by omega)]; exact hb2⟩
theorem ig_wear {nT nK cT cK : Nat} {g : sG} (q : sQ) (i : Nat) (x : Int32) (h : IG nT nK cT cK g) : IG nT nK cT cK (fX3_wearOn g q i x) := by
  unfold fX3_wearOn
  repeat' split
  all_goals first | exact h | exact ig_a (by omega) h
theorem ig_endNotice {nT nK cT cK : Nat} {g : sG} (q : sQ) (j : Nat) (x : Int32) (h : IG nT nK cT cK g) : IG nT nK cT cK (fX4_endNoticeOn g q j x) := by
  unfold fX4_endNoticeOn
  repeat' split
  all_goals first | exact h | exact ig_a (by omega) (ig_a (by omega) h)
theorem ig_release {nT nK cT cK : Nat} {g : sG} (q : sQ) (j : Nat) (h : IG nT nK cT cK g) : IG nT nK cT cK (fX6_releaseSurplus g q j).2 := by
  unfold fX6_releaseSurplus
  exact ig_move q _ (ig_a (by omega) (ig_a (by omega) h))
def lX6_count (g : sG) (q : sQ) (x0 : Int32) : Nat → Int32 × Int32 × sG
  | 0 => (0, 0, g)
  | k0 + 1 => (if (((lX6_count g q x0 k0).2.2) (100 + k0) 5) = 0 then (((lX6_count g q x0 k0).1), ((lX6_count g q x0 k0).2.1), ((lX6_count g q x0 k0).2.2)) else (if (fX3_canBeFound ((lX6_count g q x0 k0).2.2) q k0) = 0 then (if ((((lX6_count g q x0 k0).2.2) (100 + k0) 8) / 4) = x0 then (((lX6_count g q x0 k0).1), (((lX6_count g q x0 k0).2.1) + 1), (sy_up ((lX6_count g q x0 k0).2.2) (100 + k0) 7 (((lX6_count g q x0 k0).2.2) (100 + k0) 8))) else (if ((((lX6_count g q x0 k0).2.2) (100 + k0) 7) / 4) = x0 then ((((lX6_count g q x0 k0).1) + 1), ((lX6_count g q x0 k0).2.1), ((lX6_count g q x0 k0).2.2)) else (((lX6_count g q x0 k0).1), ((lX6_count g q x0 k0).2.1), ((lX6_count g q x0 k0).2.2)))) else (((lX6_count g q x0 k0).1), ((lX6_count g q x0 k0).2.1), ((lX6_count g q x0 k0).2.2))))
theorem lX6_count_ig {nT nK cT cK : Nat} {g : sG} (hG : IG nT nK cT cK g) (q : sQ) (x0 : Int32) (k0 : Nat) : IG nT nK cT cK (lX6_count g q x0 k0).2.2 := by
  induction k0 with
  | zero => exact hG
  | succ k0 ih =>
    rw [lX6_count]
    repeat' split
    all_goals first | exact ih | exact ig_a (by omega) ih
def fX6_count (g : sG) (q : sQ) (x0 : Int32) : Int32 × Int32 × sG × sQ := (if 0 ≤ x0 ∧ x0 < 3 then (0, ((100 * ((lX6_count g q x0 (g 61 2).toNatClampNeg).1)) + ((lX6_count g q x0 (g 61 2).toNatClampNeg).2.1)), ((lX6_count g q x0 (g 61 2).toNatClampNeg).2.2), q) else (1, 0, g, q))
set_option maxHeartbeats 4000000 in
set_option maxRecDepth 100000 in
theorem mX6_count (l : Launch) (hfl : l.stackTraces = false) (Z : sZ) (nT nK cT cK : Nat) (ad : Nat → Nat) (g : sG) (q : sQ) (x0 : Int32) (hT : nT ≤ 100) (hG : IG nT nK cT cK g) (hQ : IQ nT nK q) : sXi l Z yX6_count (uW (.code yX6_count cX6_count 6 (some .int))) { frames := 7, cells := 1, slots := 6, locals := 102 } [.ref (ad 60), .int x0] nT nK cT cK ad g q (fun r g1 q1 => (0, r, g1, q1) = fX6_count g q x0) (fun E => exc E = (fX6_count g q x0).1) := by
  refine vx_ofW (cc := cX6_count) (maxL := 6) (ret := (some .int)) (by decide) rfl ?_
  intro p e s m args below meth c s₁ B hml hno hv
  obtain ⟨rfl, hE, hP⟩ := hv
  have hx := B.exec
  have hb := B.bytes
  have hr := B.returns
  have hts := atoms_spec (ws := uW (.code yX6_count cX6_count 6 (some .int))) B.pre
  have hown : s.vm.findClass RX6 = some m.cls := findClass_of_methodNamed B.named
  have hlocks := B.notSynchronized
  have hS : va_S (sy_A Z) s.heap s.heap [] := va_S.rf
  have hl := lv_entry ([.ref (ad 60), .int x0]) (n := 6) (Nat.le_of_ble_eq_true rfl)
  rw [lg_entry_eq]
  generalize (lg_sl ([.ref (ad 60), .int x0]) ++ List.replicate (6 - (lg_sl ([.ref (ad 60), .int x0])).length) Slot.unset).toArray = ls at hl ⊢
  have hl : lv_has ls 6 [(0, .ref (ad 60)), (1, .int x0)] := hl
  refine lv_iload_n hx hb dX6_count_0 rfl (lv_at hl 1 rfl) ?_
  refine lv_iconst (v := 3) hx hb dX6_count_1 (by decide) ?_
  refine sy_xkv (sy_xS (As := [.int x0, .int 3]) (rest := []) ⟨hx, hb, hml, hown, hts⟩ hE hP hS (mX6_needIndex l hfl Z nT nK cT cK ad g q x0 3) (va_cwS 2 hts (gu_S uk_1_202 uk_1_203 uk_1_1 uk_1_204) rfl rfl rfl (by decide +kernel) ⟨Nat.le_of_ble_eq_true rfl, Nat.le_of_ble_eq_true rfl⟩) rfl hl.1 rfl (Nat.le_of_ble_eq_true rfl) dX6_count_2 ⟨Nat.le_of_ble_eq_true rfl, Nat.le_of_ble_eq_true rfl⟩) hno hlocks hE hS ⟨Nat.le_of_ble_eq_true rfl, Nat.le_of_ble_eq_true rfl⟩ (fun E9 h9 => (by rw [h9.1, exc_IO]; unfold fX6_count; rw [if_neg h9.2] <;> rfl)) (fun g_e_1 q_e_1 H locs e_1 hP hS => ?_)
  have c_3 := e_1.1
  obtain ⟨-, h7, h8⟩ := e_1; rw [h7, h8] at hP
  refine lv_iconst (v := 0) hx hb dX6_count_5 (by decide) ?_
  refine lv_istore_n (lv' := [(2, .int 0), (0, .ref (ad 60)), (1, .int x0)]) hx hb dX6_count_6 rfl hl (by decide) rfl (fun ls hl => ?_)
  refine lv_iconst (v := 0) hx hb dX6_count_7 (by decide) ?_
  refine lv_istore_n (lv' := [(3, .int 0), (2, .int 0), (0, .ref (ad 60)), (1, .int x0)]) hx hb dX6_count_8 rfl hl (by decide) rfl (fun ls hl => ?_)
  refine lv_iconst (v := 0) hx hb dX6_count_9 (by decide) ?_
  refine lv_istore (lv' := [(4, .int 0), (3, .int 0), (2, .int 0), (0, .ref (ad 60)), (1, .int x0)]) hx hb dX6_count_10 hl (by decide) rfl (fun ls hl => ?_)
  have hL_12 : ∀ (n k0 : Nat), k0 ≤ (g 61 2).toNatClampNeg → (g 61 2).toNatClampNeg + 1 ≤ k0 + n → ∀ (H : Heap) (locs : List Loc) (ls : Array Slot), Sy Z nT nK cT cK ad ((lX6_count g q x0 k0).2.2) q H → va_S (sy_A Z) s.heap H locs → lv_has ls 6 [(4, .int (nI k0)), (3, .int ((lX6_count g q x0 k0).2.1)), (2, .int ((lX6_count g q x0 k0).1)), (0, .ref (ad 60)), (1, .int x0)] → W p l e ({ frames := 7, cells := 1, slots := 6, locals := 102 } : Room) s m ([.ref (ad 60), .int x0] : List Value).toArray below meth c H locs 1 6 (vx_MQ below (sQi Z nT nK cT cK ad (fun r g1 q1 => (0, r, g1, q1) = fX6_count g q x0)) (sQx Z nT nK cT cK ad g q (fun E => exc E = (fX6_count g q x0).1)) ([.ref (ad 60), .int x0] : List Value).toArray s 1 6 (sy_A Z)) (F0 m 12 ls []) := by
    intro n
    induction n with
    | zero => intro k0 hi hn ; exact absurd hn (by omega)
    | succ n ih =>
      intro k0 hi hn H locs ls hP hS hl
      have hN9 := (ig_nT hG).2
      refine lv_iload hx hb dX6_count_12 (lv_at hl 0 rfl) ?_
      refine lv_aload_n hx hb dX6_count_14 rfl (lv_at hl 3 rfl) ?_
      refine sy_getRX6 hx hb hts hown hE hP 60 rfl 0 (by decide) (hts _ (u_in uk_1_152)) (v := .ref (ad 61)) rfl dX6_count_15 ?_
      refine sy_ki (sy_rV (o := 61) (As := []) (rest := [.int (nI k0)]) ⟨hx, hb, hml, hown, hts⟩ hE hP hS (mJx4a65c_size_8abf5T l hfl Z nT nK cT cK ad ((lX6_count g q x0 k0).2.2) q) (cwV 0 hts (gu_V uk_2_46 uk_2_47 uk_2_48 uk_1_4 uk_2_49) rfl rfl rfl (by decide +kernel) ⟨Nat.le_of_ble_eq_true rfl, Nat.le_of_ble_eq_true rfl⟩) (sy_recv (kc := 0) hE hP rfl (by decide) rfl rfl rfl) rfl hl.1 rfl (Nat.le_of_ble_eq_true rfl) dX6_count_18 ⟨Nat.le_of_ble_eq_true rfl, Nat.le_of_ble_eq_true rfl⟩) hS (fun r_e_4 g_e_4 q_e_4 H locs e_4 hP hS => ?_)
      cases e_4
      refine sy_top (y := (((lX6_count g q x0 k0).2.2) 61 2)) (by rfl) ?_
      refine lv_icmp_ge (tgt := 106) hx hb dX6_count_21 (by decide) (fun c_5 => ?_) (fun c_5 => ?_)
      · skip
        obtain rfl := loop_exit (N := (g 61 2).toNatClampNeg) ((lX6_count_ig hG q x0 k0).1.trans (congrArg nI (ig_nTe hG).symm)) (by omega) hi c_5
        refine lv_bipush (v := 100) hx hb dX6_count_106 (by decide) ?_
        refine lv_iload_n hx hb dX6_count_108 rfl (lv_at hl 2 rfl) ?_
        refine lv_imul hx hb dX6_count_109 ?_
        refine lv_iload_n hx hb dX6_count_110 rfl (lv_at hl 1 rfl) ?_
        refine lv_iadd hx hb dX6_count_111 ?_
        exact vx_ret (sy_ireti hx hb hr hlocks hE hP hS dX6_count_112 ⟨Nat.le_of_ble_eq_true rfl, Nat.le_of_ble_eq_true rfl⟩ (by unfold fX6_count; rw [if_pos c_3] <;> rfl))
      · skip
        have hk0 : k0 < (g 61 2).toNatClampNeg := loop_in (N := (g 61 2).toNatClampNeg) ((lX6_count_ig hG q x0 k0).1.trans (congrArg nI (ig_nTe hG).symm)) (by omega) hi c_5
        refine lv_aload_n hx hb dX6_count_24 rfl (lv_at hl 3 rfl) ?_
        refine sy_getRX6 hx hb hts hown hE hP 60 rfl 0 (by decide) (hts _ (u_in uk_1_152)) (v := .ref (ad 61)) rfl dX6_count_25 ?_
        refine lv_iload hx hb dX6_count_28 (lv_at hl 0 rfl) ?_
        refine sy_kr (sy_rV (o := 61) (As := [.int (nI k0)]) (rest := []) ⟨hx, hb, hml, hown, hts⟩ hE hP hS (mJx4a65c_get_915e3T l hfl Z nT nK cT cK ad ((lX6_count g q x0 k0).2.2) q k0 (lX6_count_ig hG q x0 k0) hQ (ig_ltT hG hk0)) (cwV 1 hts (gu_V uk_3_16 uk_3_17 uk_3_18 uk_1_4 uk_3_19) rfl rfl rfl (by decide +kernel) ⟨Nat.le_of_ble_eq_true rfl, Nat.le_of_ble_eq_true rfl⟩) (sy_recv (kc := 0) hE hP rfl (by decide) rfl rfl rfl) rfl hl.1 rfl (Nat.le_of_ble_eq_true rfl) dX6_count_30 ⟨Nat.le_of_ble_eq_true rfl, Nat.le_of_ble_eq_true rfl⟩) hS (fun o_e_6 H locs e_6 hP hS => ?_)
        subst e_6
        refine va_castS hx hb hown (hts _ (u_in uk_2_68)) (hE.1.1 4 _ rfl).2 (sy_recv (kc := 4) hE hP (sy_kdT (ig_ltT hG hk0) hT) (by decide) rfl rfl rfl) dX6_count_33 ?_
        refine lv_astore (lv' := [(5, .ref (ad (100 + k0))), (4, .int (nI k0)), (3, .int ((lX6_count g q x0 k0).2.1)), (2, .int ((lX6_count g q x0 k0).1)), (0, .ref (ad 60)), (1, .int x0)]) hx hb dX6_count_36 hl (by decide) rfl (fun ls hl => ?_)
        refine lv_aload hx hb dX6_count_38 (lv_at hl 0 rfl) ?_
        refine sy_getRX3 hx hb hts hown hE hP (100 + k0) (sy_kdT (ig_ltT hG hk0) hT) 5 (by decide) (hts _ (u_in uk_2_85)) (v := .int (((lX6_count g q x0 k0).2.2) (100 + k0) 5)) rfl dX6_count_40 ?_
        refine lv_if_eq (tgt := 100) hx hb dX6_count_43 (by decide) (fun c_7 => ?_) (fun c_7 => ?_)
        · skip
          refine lv_iinc (v := ((nI k0) + 1)) (lv' := [(4, .int ((nI k0) + 1)), (5, .ref (ad (100 + k0))), (3, .int ((lX6_count g q x0 k0).2.1)), (2, .int ((lX6_count g q x0 k0).1)), (0, .ref (ad 60)), (1, .int x0)]) hx hb dX6_count_100 hl (k := 1) rfl rfl (by decide) rfl (fun ls hl => ?_)
          refine lv_goto (tgt := 12) hx hb dX6_count_103 (by decide) ?_
          have hF : lX6_count g q x0 (k0 + 1) = (((lX6_count g q x0 k0).1), ((lX6_count g q x0 k0).2.1), ((lX6_count g q x0 k0).2.2)) := by rw [lX6_count, if_pos c_7] <;> rfl
          exact ih (k0 + 1) (by omega) (by omega) H locs ls (by rw [t3_3 hF]; exact hP) hS (by rw [nI_succ, t3_1 hF, t3_2 hF]; exact lv_sub hl [0, 2, 3, 4, 5] rfl)
        · skip
          refine lv_aload hx hb dX6_count_46 (lv_at hl 0 rfl) ?_
          refine sy_ki (sy_rV (o := (100 + k0)) (As := []) (rest := []) ⟨hx, hb, hml, hown, hts⟩ hE hP hS (mX3_canBeFound l hfl Z nT nK cT cK ad ((lX6_count g q x0 k0).2.2) q k0 hT (ig_ltT hG hk0)) (cwV 0 hts (gu_V uk_3_221 uk_3_222 uk_3_223 uk_1_15 uk_3_224) rfl rfl rfl (by decide +kernel) ⟨Nat.le_of_ble_eq_true rfl, Nat.le_of_ble_eq_true rfl⟩) (sy_recv (kc := 4) hE hP (sy_kdT (ig_ltT hG hk0) hT) (by decide) rfl rfl rfl) rfl hl.1 rfl (Nat.le_of_ble_eq_true rfl) dX6_count_48 ⟨Nat.le_of_ble_eq_true rfl, Nat.le_of_ble_eq_true rfl⟩) hS (fun r_e_8 g_e_8 q_e_8 H locs e_8 hP hS => ?_)
          cases e_8
          refine lv_if_eq (tgt := 57) hx hb dX6_count_51 (by decide) (fun c_9 => ?_) (fun c_9 => ?_)
          · skip
            refine lv_aload hx hb dX6_count_57 (lv_at hl 0 rfl) ?_
            refine sy_getRX3 hx hb hts hown hE hP (100 + k0) (sy_kdT (ig_ltT hG hk0) hT) 8 (by decide) (hts _ (u_in uk_2_92)) (v := .int (((lX6_count g q x0 k0).2.2) (100 + k0) 8)) rfl dX6_count_59 ?_
            refine sy_ki (sy_rS (As := [.int (((lX6_count g q x0 k0).2.2) (100 + k0) 8)]) (rest := []) ⟨hx, hb, hml, hown, hts⟩ hE hP hS (mX6_branchOf l hfl Z nT nK cT cK ad ((lX6_count g q x0 k0).2.2) q (((lX6_count g q x0 k0).2.2) (100 + k0) 8) hT) (va_cwS 1 hts (gu_S uk_3_225 uk_3_226 uk_1_1 uk_3_227) rfl rfl rfl (by decide +kernel) ⟨Nat.le_of_ble_eq_true rfl, Nat.le_of_ble_eq_true rfl⟩) rfl hl.1 rfl (Nat.le_of_ble_eq_true rfl) dX6_count_62 ⟨Nat.le_of_ble_eq_true rfl, Nat.le_of_ble_eq_true rfl⟩) hS (fun r_e_10 g_e_10 q_e_10 H locs e_10 hP hS => ?_)
            cases e_10
            refine sy_top (y := ((((lX6_count g q x0 k0).2.2) (100 + k0) 8) / 4)) (by rfl) ?_
            refine lv_iload_n hx hb dX6_count_65 rfl (lv_at hl 5 rfl) ?_
            refine lv_icmp_ne (tgt := 85) hx hb dX6_count_66 (by decide) (fun c_11 => ?_) (fun c_11 => ?_)
            · skip
              refine lv_aload hx hb dX6_count_85 (lv_at hl 0 rfl) ?_
              refine sy_getRX3 hx hb hts hown hE hP (100 + k0) (sy_kdT (ig_ltT hG hk0) hT) 7 (by decide) (hts _ (u_in uk_2_90)) (v := .int (((lX6_count g q x0 k0).2.2) (100 + k0) 7)) rfl dX6_count_87 ?_
              refine sy_ki (sy_rS (As := [.int (((lX6_count g q x0 k0).2.2) (100 + k0) 7)]) (rest := []) ⟨hx, hb, hml, hown, hts⟩ hE hP hS (mX6_branchOf l hfl Z nT nK cT cK ad ((lX6_count g q x0 k0).2.2) q (((lX6_count g q x0 k0).2.2) (100 + k0) 7) hT) (va_cwS 1 hts (gu_S uk_3_225 uk_3_226 uk_1_1 uk_3_227) rfl rfl rfl (by decide +kernel) ⟨Nat.le_of_ble_eq_true rfl, Nat.le_of_ble_eq_true rfl⟩) rfl hl.1 rfl (Nat.le_of_ble_eq_true rfl) dX6_count_90 ⟨Nat.le_of_ble_eq_true rfl, Nat.le_of_ble_eq_true rfl⟩) hS (fun r_e_12 g_e_12 q_e_12 H locs e_12 hP hS => ?_)
              cases e_12
              refine sy_top (y := ((((lX6_count g q x0 k0).2.2) (100 + k0) 7) / 4)) (by rfl) ?_
              refine lv_iload_n hx hb dX6_count_93 rfl (lv_at hl 5 rfl) ?_
              refine lv_icmp_ne (tgt := 100) hx hb dX6_count_94 (by decide) (fun c_13 => ?_) (fun c_13 => ?_)
              · skip
                refine lv_iinc (v := ((nI k0) + 1)) (lv' := [(4, .int ((nI k0) + 1)), (5, .ref (ad (100 + k0))), (3, .int ((lX6_count g q x0 k0).2.1)), (2, .int ((lX6_count g q x0 k0).1)), (0, .ref (ad 60)), (1, .int x0)]) hx hb dX6_count_100 hl (k := 1) rfl rfl (by decide) rfl (fun ls hl => ?_)
                refine lv_goto (tgt := 12) hx hb dX6_count_103 (by decide) ?_
                have hF : lX6_count g q x0 (k0 + 1) = (((lX6_count g q x0 k0).1), ((lX6_count g q x0 k0).2.1), ((lX6_count g q x0 k0).2.2)) := by rw [lX6_count, if_neg c_7, if_pos c_9, if_neg c_11, if_neg c_13] <;> rfl
                exact ih (k0 + 1) (by omega) (by omega) H locs ls (by rw [t3_3 hF]; exact hP) hS (by rw [nI_succ, t3_1 hF, t3_2 hF]; exact lv_sub hl [0, 2, 3, 4, 5] rfl)
              · skip
                refine lv_iinc (v := (((lX6_count g q x0 k0).1) + 1)) (lv' := [(2, .int (((lX6_count g q x0 k0).1) + 1)), (5, .ref (ad (100 + k0))), (4, .int (nI k0)), (3, .int ((lX6_count g q x0 k0).2.1)), (0, .ref (ad 60)), (1, .int x0)]) hx hb dX6_count_97 hl (k := 3) rfl rfl (by decide) rfl (fun ls hl => ?_)
                refine lv_iinc (v := ((nI k0) + 1)) (lv' := [(4, .int ((nI k0) + 1)), (2, .int (((lX6_count g q x0 k0).1) + 1)), (5, .ref (ad (100 + k0))), (3, .int ((lX6_count g q x0 k0).2.1)), (0, .ref (ad 60)), (1, .int x0)]) hx hb dX6_count_100 hl (k := 2) rfl rfl (by decide) rfl (fun ls hl => ?_)
                refine lv_goto (tgt := 12) hx hb dX6_count_103 (by decide) ?_
                have hF : lX6_count g q x0 (k0 + 1) = ((((lX6_count g q x0 k0).1) + 1), ((lX6_count g q x0 k0).2.1), ((lX6_count g q x0 k0).2.2)) := by rw [lX6_count, if_neg c_7, if_pos c_9, if_neg c_11, if_pos c_13] <;> rfl
                exact ih (k0 + 1) (by omega) (by omega) H locs ls (by rw [t3_3 hF]; exact hP) hS (by rw [nI_succ, t3_1 hF, t3_2 hF]; exact lv_sub hl [0, 3, 1, 4, 5] rfl)
            · skip
              refine lv_aload hx hb dX6_count_69 (lv_at hl 0 rfl) ?_
              refine lv_aload hx hb dX6_count_71 (lv_at hl 0 rfl) ?_
              refine sy_getRX3 hx hb hts hown hE hP (100 + k0) (sy_kdT (ig_ltT hG hk0) hT) 8 (by decide) (hts _ (u_in uk_2_92)) (v := .int (((lX6_count g q x0 k0).2.2) (100 + k0) 8)) rfl dX6_count_73 ?_
              refine sy_putRX3 hx hb hts hown hE hP hS (100 + k0) (sy_kdT (ig_ltT hG hk0) hT) 7 (by decide) (hts _ (u_in uk_2_90)) rfl (ty := .int) (by decide +kernel) rfl rfl (sy_up ((lX6_count g q x0 k0).2.2) (100 + k0) 7 (((lX6_count g q x0 k0).2.2) (100 + k0) 8)) q (by rw [sy_up_s ((lX6_count g q x0 k0).2.2) (100 + k0) 7 (((lX6_count g q x0 k0).2.2) (100 + k0) 8)]; exact se_RX3_7 _ _ _ _ _ _ _) (fun _ h9 => sy_up_o _ _ _ h9) (fun _ _ => rfl) dX6_count_76 (fun H locs hP hS => ?_)
              refine lv_iinc (v := (((lX6_count g q x0 k0).2.1) + 1)) (lv' := [(3, .int (((lX6_count g q x0 k0).2.1) + 1)), (5, .ref (ad (100 + k0))), (4, .int (nI k0)), (2, .int ((lX6_count g q x0 k0).1)), (0, .ref (ad 60)), (1, .int x0)]) hx hb dX6_count_79 hl (k := 2) rfl rfl (by decide) rfl (fun ls hl => ?_)
              refine lv_goto (tgt := 100) hx hb dX6_count_82 (by decide) ?_
              refine lv_iinc (v := ((nI k0) + 1)) (lv' := [(4, .int ((nI k0) + 1)), (3, .int (((lX6_count g q x0 k0).2.1) + 1)), (5, .ref (ad (100 + k0))), (2, .int ((lX6_count g q x0 k0).1)), (0, .ref (ad 60)), (1, .int x0)]) hx hb dX6_count_100 hl (k := 2) rfl rfl (by decide) rfl (fun ls hl => ?_)
              refine lv_goto (tgt := 12) hx hb dX6_count_103 (by decide) ?_
              have hF : lX6_count g q x0 (k0 + 1) = (((lX6_count g q x0 k0).1), (((lX6_count g q x0 k0).2.1) + 1), (sy_up ((lX6_count g q x0 k0).2.2) (100 + k0) 7 (((lX6_count g q x0 k0).2.2) (100 + k0) 8))) := by rw [lX6_count, if_neg c_7, if_pos c_9, if_pos c_11] <;> rfl
              exact ih (k0 + 1) (by omega) (by omega) H locs ls (by rw [t3_3 hF]; exact hP) hS (by rw [nI_succ, t3_1 hF, t3_2 hF]; exact lv_sub hl [0, 1, 3, 4, 5] rfl)
          · skip
            refine lv_goto (tgt := 100) hx hb dX6_count_54 (by decide) ?_
            refine lv_iinc (v := ((nI k0) + 1)) (lv' := [(4, .int ((nI k0) + 1)), (5, .ref (ad (100 + k0))), (3, .int ((lX6_count g q x0 k0).2.1)), (2, .int ((lX6_count g q x0 k0).1)), (0, .ref (ad 60)), (1, .int x0)]) hx hb dX6_count_100 hl (k := 1) rfl rfl (by decide) rfl (fun ls hl => ?_)
            refine lv_goto (tgt := 12) hx hb dX6_count_103 (by decide) ?_
            have hF : lX6_count g q x0 (k0 + 1) = (((lX6_count g q x0 k0).1), ((lX6_count g q x0 k0).2.1), ((lX6_count g q x0 k0).2.2)) := by rw [lX6_count, if_neg c_7, if_neg c_9] <;> rfl
            exact ih (k0 + 1) (by omega) (by omega) H locs ls (by rw [t3_3 hF]; exact hP) hS (by rw [nI_succ, t3_1 hF, t3_2 hF]; exact lv_sub hl [0, 2, 3, 4, 5] rfl)
  exact hL_12 ((g 61 2).toNatClampNeg + 1) 0 (Nat.zero_le _) (by omega) _ _ _ hP hS (lv_sub hl [0, 1, 2, 3, 4] rfl)
def lX6_wind (g : sG) (q : sQ) (x0 : Int32) : Nat → Int32 × sG
  | 0 => (0, g)
  | k0 + 1 => (if (((lX6_wind g q x0 k0).2) (100 + k0) 1) = 2 then (if (((lX6_wind g q x0 k0).2) (100 + k0) 5) = 0 then (((lX6_wind g q x0 k0).1), ((lX6_wind g q x0 k0).2)) else (if ((((lX6_wind g q x0 k0).2) (100 + k0) 8) / 4) = x0 then ((((lX6_wind g q x0 k0).1) + 1), (sy_up ((lX6_wind g q x0 k0).2) (100 + k0) 10 (((lX6_wind g q x0 k0).2) 60 9))) else (((lX6_wind g q x0 k0).1), ((lX6_wind g q x0 k0).2)))) else (((lX6_wind g q x0 k0).1), ((lX6_wind g q x0 k0).2)))
theorem lX6_wind_ig {nT nK cT cK : Nat} {g : sG} (hG : IG nT nK cT cK g) (q : sQ) (x0 : Int32) (k0 : Nat) : IG nT nK cT cK (lX6_wind g q x0 k0).2 := by
  induction k0 with
  | zero => exact hG
  | succ k0 ih =>
    rw [lX6_wind]
    repeat' split
    all_goals first | exact ih | exact ig_a (by omega) ih
def fX6_wind (g : sG) (q : sQ) (x0 : Int32) : Int32 × Int32 × sG × sQ := (if 0 ≤ x0 ∧ x0 < 3 then (0, ((lX6_wind g q x0 (g 61 2).toNatClampNeg).1), ((lX6_wind g q x0 (g 61 2).toNatClampNeg).2), q) else (1, 0, g, q))
set_option maxHeartbeats 4000000 in
set_option maxRecDepth 100000 in
theorem mX6_wind (l : Launch) (hfl : l.stackTraces = false) (Z : sZ) (nT nK cT cK : Nat) (ad : Nat → Nat) (g : sG) (q : sQ) (x0 : Int32) (hT : nT ≤ 100) (hG : IG nT nK cT cK g) (hQ : IQ nT nK q) : sXi l Z yX6_wind (uW (.code yX6_wind cX6_wind 5 (some .int))) { frames := 7, cells := 1, slots := 6, locals := 102 } [.ref (ad 60), .int x0] nT nK cT cK ad g q (fun r g1 q1 => (0, r, g1, q1) = fX6_wind g q x0) (fun E => exc E = (fX6_wind g q x0).1) := by
  refine vx_ofW (cc := cX6_wind) (maxL := 5) (ret := (some .int)) (by decide) rfl ?_
  intro p e s m args below meth c s₁ B hml hno hv
  obtain ⟨rfl, hE, hP⟩ := hv
  have hx := B.exec
  have hb := B.bytes
  have hr := B.returns
  have hts := atoms_spec (ws := uW (.code yX6_wind cX6_wind 5 (some .int))) B.pre
  have hown : s.vm.findClass RX6 = some m.cls := findClass_of_methodNamed B.named
  have hlocks := B.notSynchronized
  have hS : va_S (sy_A Z) s.heap s.heap [] := va_S.rf
  have hl := lv_entry ([.ref (ad 60), .int x0]) (n := 5) (Nat.le_of_ble_eq_true rfl)
  rw [lg_entry_eq]
  generalize (lg_sl ([.ref (ad 60), .int x0]) ++ List.replicate (5 - (lg_sl ([.ref (ad 60), .int x0])).length) Slot.unset).toArray = ls at hl ⊢
  have hl : lv_has ls 5 [(0, .ref (ad 60)), (1, .int x0)] := hl
  refine lv_iload_n hx hb dX6_wind_0 rfl (lv_at hl 1 rfl) ?_
  refine lv_iconst (v := 3) hx hb dX6_wind_1 (by decide) ?_
  refine sy_xkv (sy_xS (As := [.int x0, .int 3]) (rest := []) ⟨hx, hb, hml, hown, hts⟩ hE hP hS (mX6_needIndex l hfl Z nT nK cT cK ad g q x0 3) (va_cwS 2 hts (gu_S uk_1_202 uk_1_203 uk_1_1 uk_1_204) rfl rfl rfl (by decide +kernel) ⟨Nat.le_of_ble_eq_true rfl, Nat.le_of_ble_eq_true rfl⟩) rfl hl.1 rfl (Nat.le_of_ble_eq_true rfl) dX6_wind_2 ⟨Nat.le_of_ble_eq_true rfl, Nat.le_of_ble_eq_true rfl⟩) hno hlocks hE hS ⟨Nat.le_of_ble_eq_true rfl, Nat.le_of_ble_eq_true rfl⟩ (fun E9 h9 => (by rw [h9.1, exc_IO]; unfold fX6_wind; rw [if_neg h9.2] <;> rfl)) (fun g_e_1 q_e_1 H locs e_1 hP hS => ?_)
  have c_3 := e_1.1
  obtain ⟨-, h7, h8⟩ := e_1; rw [h7, h8] at hP
  refine lv_iconst (v := 0) hx hb dX6_wind_5 (by decide) ?_
  refine lv_istore_n (lv' := [(2, .int 0), (0, .ref (ad 60)), (1, .int x0)]) hx hb dX6_wind_6 rfl hl (by decide) rfl (fun ls hl => ?_)
  refine lv_iconst (v := 0) hx hb dX6_wind_7 (by decide) ?_
  refine lv_istore_n (lv' := [(3, .int 0), (2, .int 0), (0, .ref (ad 60)), (1, .int x0)]) hx hb dX6_wind_8 rfl hl (by decide) rfl (fun ls hl => ?_)
  have hL_9 : ∀ (n k0 : Nat), k0 ≤ (g 61 2).toNatClampNeg → (g 61 2).toNatClampNeg + 1 ≤ k0 + n → ∀ (H : Heap) (locs : List Loc) (ls : Array Slot), Sy Z nT nK cT cK ad ((lX6_wind g q x0 k0).2) q H → va_S (sy_A Z) s.heap H locs → lv_has ls 5 [(3, .int (nI k0)), (2, .int ((lX6_wind g q x0 k0).1)), (0, .ref (ad 60)), (1, .int x0)] → W p l e ({ frames := 7, cells := 1, slots := 6, locals := 102 } : Room) s m ([.ref (ad 60), .int x0] : List Value).toArray below meth c H locs 1 6 (vx_MQ below (sQi Z nT nK cT cK ad (fun r g1 q1 => (0, r, g1, q1) = fX6_wind g q x0)) (sQx Z nT nK cT cK ad g q (fun E => exc E = (fX6_wind g q x0).1)) ([.ref (ad 60), .int x0] : List Value).toArray s 1 6 (sy_A Z)) (F0 m 9 ls []) := by
    intro n
    induction n with
    | zero => intro k0 hi hn ; exact absurd hn (by omega)
    | succ n ih =>
      intro k0 hi hn H locs ls hP hS hl
      have hN9 := (ig_nT hG).2
      refine lv_iload_n hx hb dX6_wind_9 rfl (lv_at hl 0 rfl) ?_
      refine lv_aload_n hx hb dX6_wind_10 rfl (lv_at hl 2 rfl) ?_
      refine sy_getRX6 hx hb hts hown hE hP 60 rfl 0 (by decide) (hts _ (u_in uk_1_152)) (v := .ref (ad 61)) rfl dX6_wind_11 ?_
      refine sy_ki (sy_rV (o := 61) (As := []) (rest := [.int (nI k0)]) ⟨hx, hb, hml, hown, hts⟩ hE hP hS (mJx4a65c_size_8abf5T l hfl Z nT nK cT cK ad ((lX6_wind g q x0 k0).2) q) (cwV 0 hts (gu_V uk_2_46 uk_2_47 uk_2_48 uk_1_4 uk_2_49) rfl rfl rfl (by decide +kernel) ⟨Nat.le_of_ble_eq_true rfl, Nat.le_of_ble_eq_true rfl⟩) (sy_recv (kc := 0) hE hP rfl (by decide) rfl rfl rfl) rfl hl.1 rfl (Nat.le_of_ble_eq_true rfl) dX6_wind_14 ⟨Nat.le_of_ble_eq_true rfl, Nat.le_of_ble_eq_true rfl⟩) hS (fun r_e_4 g_e_4 q_e_4 H locs e_4 hP hS => ?_)
      cases e_4
      refine sy_top (y := (((lX6_wind g q x0 k0).2) 61 2)) (by rfl) ?_
      refine lv_icmp_ge (tgt := 80) hx hb dX6_wind_17 (by decide) (fun c_5 => ?_) (fun c_5 => ?_)
      · skip
        obtain rfl := loop_exit (N := (g 61 2).toNatClampNeg) ((lX6_wind_ig hG q x0 k0).1.trans (congrArg nI (ig_nTe hG).symm)) (by omega) hi c_5
        refine lv_iload_n hx hb dX6_wind_80 rfl (lv_at hl 1 rfl) ?_
        exact vx_ret (sy_ireti hx hb hr hlocks hE hP hS dX6_wind_81 ⟨Nat.le_of_ble_eq_true rfl, Nat.le_of_ble_eq_true rfl⟩ (by unfold fX6_wind; rw [if_pos c_3] <;> rfl))
      · skip
        have hk0 : k0 < (g 61 2).toNatClampNeg := loop_in (N := (g 61 2).toNatClampNeg) ((lX6_wind_ig hG q x0 k0).1.trans (congrArg nI (ig_nTe hG).symm)) (by omega) hi c_5
        refine lv_aload_n hx hb dX6_wind_20 rfl (lv_at hl 2 rfl) ?_
        refine sy_getRX6 hx hb hts hown hE hP 60 rfl 0 (by decide) (hts _ (u_in uk_1_152)) (v := .ref (ad 61)) rfl dX6_wind_21 ?_
        refine lv_iload_n hx hb dX6_wind_24 rfl (lv_at hl 0 rfl) ?_
        refine sy_kr (sy_rV (o := 61) (As := [.int (nI k0)]) (rest := []) ⟨hx, hb, hml, hown, hts⟩ hE hP hS (mJx4a65c_get_915e3T l hfl Z nT nK cT cK ad ((lX6_wind g q x0 k0).2) q k0 (lX6_wind_ig hG q x0 k0) hQ (ig_ltT hG hk0)) (cwV 1 hts (gu_V uk_3_16 uk_3_17 uk_3_18 uk_1_4 uk_3_19) rfl rfl rfl (by decide +kernel) ⟨Nat.le_of_ble_eq_true rfl, Nat.le_of_ble_eq_true rfl⟩) (sy_recv (kc := 0) hE hP rfl (by decide) rfl rfl rfl) rfl hl.1 rfl (Nat.le_of_ble_eq_true rfl) dX6_wind_25 ⟨Nat.le_of_ble_eq_true rfl, Nat.le_of_ble_eq_true rfl⟩) hS (fun o_e_6 H locs e_6 hP hS => ?_)
        subst e_6
        refine va_castS hx hb hown (hts _ (u_in uk_2_68)) (hE.1.1 4 _ rfl).2 (sy_recv (kc := 4) hE hP (sy_kdT (ig_ltT hG hk0) hT) (by decide) rfl rfl rfl) dX6_wind_28 ?_
        refine lv_astore (lv' := [(4, .ref (ad (100 + k0))), (3, .int (nI k0)), (2, .int ((lX6_wind g q x0 k0).1)), (0, .ref (ad 60)), (1, .int x0)]) hx hb dX6_wind_31 hl (by decide) rfl (fun ls hl => ?_)
        refine lv_aload hx hb dX6_wind_33 (lv_at hl 0 rfl) ?_
        refine sy_getRX3 hx hb hts hown hE hP (100 + k0) (sy_kdT (ig_ltT hG hk0) hT) 1 (by decide) (hts _ (u_in uk_2_77)) (v := .int (((lX6_wind g q x0 k0).2) (100 + k0) 1)) rfl dX6_wind_35 ?_
        refine lv_iconst (v := 2) hx hb dX6_wind_38 (by decide) ?_
        refine lv_icmp_ne (tgt := 74) hx hb dX6_wind_39 (by decide) (fun c_7 => ?_) (fun c_7 => ?_)
        · skip
          refine lv_iinc (v := ((nI k0) + 1)) (lv' := [(3, .int ((nI k0) + 1)), (4, .ref (ad (100 + k0))), (2, .int ((lX6_wind g q x0 k0).1)), (0, .ref (ad 60)), (1, .int x0)]) hx hb dX6_wind_74 hl (k := 1) rfl rfl (by decide) rfl (fun ls hl => ?_)
          refine lv_goto (tgt := 9) hx hb dX6_wind_77 (by decide) ?_
          have hF : lX6_wind g q x0 (k0 + 1) = (((lX6_wind g q x0 k0).1), ((lX6_wind g q x0 k0).2)) := by rw [lX6_wind, if_neg c_7] <;> rfl
          exact ih (k0 + 1) (by omega) (by omega) H locs ls (by rw [t2_2 hF]; exact hP) hS (by rw [nI_succ, t2_1 hF]; exact lv_sub hl [0, 2, 3, 4] rfl)
        · skip
          refine lv_aload hx hb dX6_wind_42 (lv_at hl 0 rfl) ?_
          refine sy_getRX3 hx hb hts hown hE hP (100 + k0) (sy_kdT (ig_ltT hG hk0) hT) 5 (by decide) (hts _ (u_in uk_2_85)) (v := .int (((lX6_wind g q x0 k0).2) (100 + k0) 5)) rfl dX6_wind_44 ?_
          refine lv_if_eq (tgt := 74) hx hb dX6_wind_47 (by decide) (fun c_8 => ?_) (fun c_8 => ?_)
          · skip
            refine lv_iinc (v := ((nI k0) + 1)) (lv' := [(3, .int ((nI k0) + 1)), (4, .ref (ad (100 + k0))), (2, .int ((lX6_wind g q x0 k0).1)), (0, .ref (ad 60)), (1, .int x0)]) hx hb dX6_wind_74 hl (k := 1) rfl rfl (by decide) rfl (fun ls hl => ?_)
            refine lv_goto (tgt := 9) hx hb dX6_wind_77 (by decide) ?_
            have hF : lX6_wind g q x0 (k0 + 1) = (((lX6_wind g q x0 k0).1), ((lX6_wind g q x0 k0).2)) := by rw [lX6_wind, if_pos c_7, if_pos c_8] <;> rfl
            exact ih (k0 + 1) (by omega) (by omega) H locs ls (by rw [t2_2 hF]; exact hP) hS (by rw [nI_succ, t2_1 hF]; exact lv_sub hl [0, 2, 3, 4] rfl)
          · skip
            refine lv_aload hx hb dX6_wind_50 (lv_at hl 0 rfl) ?_
            refine sy_getRX3 hx hb hts hown hE hP (100 + k0) (sy_kdT (ig_ltT hG hk0) hT) 8 (by decide) (hts _ (u_in uk_2_92)) (v := .int (((lX6_wind g q x0 k0).2) (100 + k0) 8)) rfl dX6_wind_52 ?_
            refine sy_ki (sy_rS (As := [.int (((lX6_wind g q x0 k0).2) (100 + k0) 8)]) (rest := []) ⟨hx, hb, hml, hown, hts⟩ hE hP hS (mX6_branchOf l hfl Z nT nK cT cK ad ((lX6_wind g q x0 k0).2) q (((lX6_wind g q x0 k0).2) (100 + k0) 8) hT) (va_cwS 1 hts (gu_S uk_3_225 uk_3_226 uk_1_1 uk_3_227) rfl rfl rfl (by decide +kernel) ⟨Nat.le_of_ble_eq_true rfl, Nat.le_of_ble_eq_true rfl⟩) rfl hl.1 rfl (Nat.le_of_ble_eq_true rfl) dX6_wind_55 ⟨Nat.le_of_ble_eq_true rfl, Nat.le_of_ble_eq_true rfl⟩) hS (fun r_e_9 g_e_9 q_e_9 H locs e_9 hP hS => ?_)
            cases e_9
            refine sy_top (y := ((((lX6_wind g q x0 k0).2) (100 + k0) 8) / 4)) (by rfl) ?_
            refine lv_iload_n hx hb dX6_wind_58 rfl (lv_at hl 4 rfl) ?_
            refine lv_icmp_ne (tgt := 74) hx hb dX6_wind_59 (by decide) (fun c_10 => ?_) (fun c_10 => ?_)
            · skip
              refine lv_iinc (v := ((nI k0) + 1)) (lv' := [(3, .int ((nI k0) + 1)), (4, .ref (ad (100 + k0))), (2, .int ((lX6_wind g q x0 k0).1)), (0, .ref (ad 60)), (1, .int x0)]) hx hb dX6_wind_74 hl (k := 1) rfl rfl (by decide) rfl (fun ls hl => ?_)
              refine lv_goto (tgt := 9) hx hb dX6_wind_77 (by decide) ?_
              have hF : lX6_wind g q x0 (k0 + 1) = (((lX6_wind g q x0 k0).1), ((lX6_wind g q x0 k0).2)) := by rw [lX6_wind, if_pos c_7, if_neg c_8, if_neg c_10] <;> rfl
              exact ih (k0 + 1) (by omega) (by omega) H locs ls (by rw [t2_2 hF]; exact hP) hS (by rw [nI_succ, t2_1 hF]; exact lv_sub hl [0, 2, 3, 4] rfl)
            · skip
              refine lv_aload hx hb dX6_wind_62 (lv_at hl 0 rfl) ?_
              refine lv_aload_n hx hb dX6_wind_64 rfl (lv_at hl 3 rfl) ?_
              refine sy_getRX6 hx hb hts hown hE hP 60 rfl 9 (by decide) (hts _ (u_in uk_1_161)) (v := .int (((lX6_wind g q x0 k0).2) 60 9)) rfl dX6_wind_65 ?_
              refine sy_putRX3 hx hb hts hown hE hP hS (100 + k0) (sy_kdT (ig_ltT hG hk0) hT) 10 (by decide) (hts _ (u_in uk_2_95)) rfl (ty := .int) (by decide +kernel) rfl rfl (sy_up ((lX6_wind g q x0 k0).2) (100 + k0) 10 (((lX6_wind g q x0 k0).2) 60 9)) q (by rw [sy_up_s ((lX6_wind g q x0 k0).2) (100 + k0) 10 (((lX6_wind g q x0 k0).2) 60 9)]; exact se_RX3_10 _ _ _ _ _ _ _) (fun _ h9 => sy_up_o _ _ _ h9) (fun _ _ => rfl) dX6_wind_68 (fun H locs hP hS => ?_)
              refine lv_iinc (v := (((lX6_wind g q x0 k0).1) + 1)) (lv' := [(2, .int (((lX6_wind g q x0 k0).1) + 1)), (4, .ref (ad (100 + k0))), (3, .int (nI k0)), (0, .ref (ad 60)), (1, .int x0)]) hx hb dX6_wind_71 hl (k := 2) rfl rfl (by decide) rfl (fun ls hl => ?_)
              refine lv_iinc (v := ((nI k0) + 1)) (lv' := [(3, .int ((nI k0) + 1)), (2, .int (((lX6_wind g q x0 k0).1) + 1)), (4, .ref (ad (100 + k0))), (0, .ref (ad 60)), (1, .int x0)]) hx hb dX6_wind_74 hl (k := 2) rfl rfl (by decide) rfl (fun ls hl => ?_)
              refine lv_goto (tgt := 9) hx hb dX6_wind_77 (by decide) ?_
              have hF : lX6_wind g q x0 (k0 + 1) = ((((lX6_wind g q x0 k0).1) + 1), (sy_up ((lX6_wind g q x0 k0).2) (100 + k0) 10 (((lX6_wind g q x0 k0).2) 60 9))) := by rw [lX6_wind, if_pos c_7, if_neg c_8, if_pos c_10] <;> rfl
              exact ih (k0 + 1) (by omega) (by omega) H locs ls (by rw [t2_2 hF]; exact hP) hS (by rw [nI_succ, t2_1 hF]; exact lv_sub hl [0, 1, 3, 4] rfl)
  exact hL_9 ((g 61 2).toNatClampNeg + 1) 0 (Nat.zero_le _) (by omega) _ _ _ hP hS (lv_sub hl [0, 1, 2, 3] rfl)
