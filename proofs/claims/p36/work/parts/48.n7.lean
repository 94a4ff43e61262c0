section SRI
variable {p : Program} {l : Launch} {e : Env} {R : Room} {s : State} {m : MethodId} {args : Array Value} {below : List Frame} {meth : Method} {c : Code} {H : Heap} {locs : List Loc} {cells slots : Nat} {Q : State → Prop}
variable {cc : ByteArray} {pc : Nat} {ls : Array Slot} {rest st0 : List Value} {Z : sZ} {nT nK cT cK : Nat} {ad : Nat → Nat} {g g0 : sG} {q q0 : sQ}
variable {y : MethodName} {bytes : ByteArray} {maxL nL n index : Nat} {ret : Option FieldType} {ws : List Cond} {rm : Room} {Ts : List Cond} {own : String} {As : List Value} {o : Nat}
theorem sy_rI {Qc : Array Value → State → Outcome → State → Prop} (S : CallFix p m c cc nL s args Ts own) (hE : sEnv Z s) (hP : Sy Z nT nK cT cK ad g q H) (hS : va_S (sy_A Z) s.heap H locs) (hM : Met l y ws rm (va_Pc (.ref (ad o) :: As) (sPre Z nT nK cT cK ad g q)) Qc rm.cells rm.slots (sy_A Z)) (cw : CallB R s args own index y bytes maxL none ws rm rm.cells rm.slots n ∧ y.name = "<init>" ∧ (Cond.instanceMethod y).before args s = true)
    (hn : As.length = n) (hsize : ls.size = nL) (hstack : st0 = As.reverse ++ .ref (ad o) :: rest) (hW : (rest.map fun v => v.category).sum ≤ 8) (hdg : decode cc pc = .ok (.invokespecial index, 3)) (hf : cells + rm.cells ≤ R.cells ∧ slots + rm.slots ≤ R.slots) :
    va_Run p l e R s m args below meth c H locs cells slots rm.cells rm.slots (F0 m pc ls st0) rest (Qc (Value.ref (ad o) :: As).toArray) (sy_A Z) :=
  va_runI S hM cw ⟨sPre_blind _, fun U hU hW => ⟨rfl, hE.next hS hU hW.alike, by rw [hU]; exact hP⟩⟩ rfl hn hsize hstack (lv_room hW) hdg hf
end SRI
theorem x3i_g {g : sG} {q : sQ} {k o : Nat} {x1 x2 x3 x4 : Int32} (h : o ≠ 100 + k) : (fX3_init g q k x1 x2 x3 x4).1 o = g o := by
  unfold fX3_init
  simp only [sy_up_o _ _ _ h]
theorem x3i_n {g : sG} {q : sQ} {k : Nat} {x1 x2 x3 x4 : Int32} : (fX3_init g q k x1 x2 x3 x4).1 (100 + k) 0 = x1 := by
  unfold fX3_init
  simp [sy_up_a]
theorem x3i_q {g : sG} {q : sQ} {k o : Nat} {x1 x2 x3 x4 : Int32} (h : o ≠ 100 + k) : (fX3_init g q k x1 x2 x3 x4).2 o = q o := by
  unfold fX3_init
  simp only [sy_up_o _ _ _ h]
theorem x3i_q1 {g : sG} {q : sQ} {k j : Nat} {x1 x2 x3 x4 : Int32} : (fX3_init g (va_up q (100 + k) (fun _ => none)) k x1 x2 x3 x4).2 (100 + k) j = none := by
  unfold fX3_init
  show sy_up _ (100 + k) 11 none (100 + k) j = none
  rw [sy_up_a]
  split
  · rfl
  · rw [va_up_self]
def fX6_thingM (g : sG) (q : sQ) (nT : Nat) (x0 x1 x2 : Int32) : sG × sQ :=
  (sy_up (sy_up (fX3_init (va_up g (100 + nT) (fun _ => 0)) (va_up q (100 + nT) (fun _ => none)) nT (nI nT) x0 x1 x2).1 61 0 ((fX3_init (va_up g (100 + nT) (fun _ => 0)) (va_up q (100 + nT) (fun _ => none)) nT (nI nT) x0 x1 x2).1 61 0 + 1)) 61 2 (nI (nT + 1)), sy_up (fX3_init (va_up g (100 + nT) (fun _ => 0)) (va_up q (100 + nT) (fun _ => none)) nT (nI nT) x0 x1 x2).2 70 nT (some (100 + nT)))
abbrev sQnT (Z : sZ) (nT nK cT cK : Nat) (ad : Nat → Nat) (post : Int32 → sG → sQ → Prop) : Array Value → State → Outcome → State → Prop := va_Qi (fun (r : Int32) (u : (Nat → Nat) × sG × sQ) => (∀ x, x ≠ 70 → x ≠ 100 + nT → u.1 x = ad x) ∧ post r u.2.1 u.2.2) (fun u t => sEnv Z t ∧ Sy Z (nT + 1) nK (sCap nT cT) cK u.1 u.2.1 u.2.2 t.heap) (sy_A Z)
def sXnT (l : Launch) (Z : sZ) (y : MethodName) (ws : List Cond) (rm : Room) (av : List Value) (nT nK cT cK : Nat) (ad : Nat → Nat) (g : sG) (q : sQ) (post : Int32 → sG → sQ → Prop) (px : String → Prop) : Prop := vx_Met l y ws rm (va_Pc av (sPre Z nT nK cT cK ad g q)) (sQnT Z nT nK cT cK ad post) (sQx Z nT nK cT cK ad g q px) rm.cells rm.slots (sy_A Z)
def fX6_thing (g : sG) (q : sQ) (nT : Nat) (x0 x1 x2 : Int32) : Int32 × Int32 × sG × sQ := (if 0 ≤ x0 ∧ x0 < 4 then (if 1 ≤ x1 ∧ x1 ≤ 50 then (if 10 ≤ x2 ∧ x2 ≤ 10000 then (if 40 ≤ (g 61 2) then (3, 0, g, q) else (0, (nI nT), (fX6_thingM g q nT x0 x1 x2).1, (fX6_thingM g q nT x0 x1 x2).2)) else (2, 0, g, q)) else (2, 0, g, q)) else (1, 0, g, q))
set_option maxHeartbeats 4000000 in
set_option maxRecDepth 100000 in
theorem mX6_thing (l : Launch) (hfl : l.stackTraces = false) (Z : sZ) (nT nK cT cK : Nat) (ad : Nat → Nat) (g : sG) (q : sQ) (x0 x1 x2 : Int32) (hG : IG nT nK cT cK g) (hQ : IQ nT nK q) (hc : cT ≤ 60) (h0 : cT = 0 → ad 70 = Z.2.2.2) (hrest : ∀ j, nT ≤ j → q 70 j = none) (hq70 : ∀ o k, q o k ≠ some 70) (hqn : ∀ o k, q o k ≠ some (100 + nT)) : sXnT l Z yX6_thing (uW (.code yX6_thing cX6_thing 5 (some .int))) { frames := 7, cells := 6, slots := 96, locals := 171 } [.ref (ad 60), .int x0, .int x1, .int x2] nT nK cT cK ad g q (fun r g1 q1 => (0, r, g1, q1) = fX6_thing g q nT x0 x1 x2) (fun E => exc E = (fX6_thing g q nT x0 x1 x2).1) := by
  refine vx_ofW (cc := cX6_thing) (maxL := 5) (ret := (some .int)) (by decide) rfl ?_
  intro p e s m args below meth c s₁ B hml hno hv
  obtain ⟨rfl, hE, hP⟩ := hv
  have hx := B.exec
  have hb := B.bytes
  have hr := B.returns
  have hts := atoms_spec (ws := uW (.code yX6_thing cX6_thing 5 (some .int))) B.pre
  have hown : s.vm.findClass RX6 = some m.cls := findClass_of_methodNamed B.named
  have hlocks := B.notSynchronized
  have hS : va_S (sy_A Z) s.heap s.heap [] := va_S.rf
  have hl := lv_entry ([.ref (ad 60), .int x0, .int x1, .int x2]) (n := 5) (Nat.le_of_ble_eq_true rfl)
  rw [lg_entry_eq]
  generalize (lg_sl ([.ref (ad 60), .int x0, .int x1, .int x2]) ++ List.replicate (5 - (lg_sl ([.ref (ad 60), .int x0, .int x1, .int x2])).length) Slot.unset).toArray = ls at hl ⊢
  have hl : lv_has ls 5 [(0, .ref (ad 60)), (1, .int x0), (2, .int x1), (3, .int x2)] := hl
  refine lv_iload_n hx hb dX6_thing_0 rfl (lv_at hl 1 rfl) ?_
  refine lv_aload_n hx hb dX6_thing_1 rfl (lv_at hl 0 rfl) ?_
  refine sy_getRX6 hx hb hts hown hE hP 60 rfl 2 (by decide) (hts _ (u_in uk_1_154)) (v := .ref (ad 63)) rfl dX6_thing_2 ?_
  refine sy_alen (kc := 10) (t0 := 0) hx hb hE hP 63 rfl (by decide) rfl rfl (v := 4) rfl dX6_thing_5 ?_
  refine sy_xkv (sy_xS (As := [.int x0, .int 4]) (rest := []) ⟨hx, hb, hml, hown, hts⟩ hE hP hS (mX6_needIndex l hfl Z nT nK cT cK ad g q x0 4) (va_cwS 2 hts (gu_S uk_1_202 uk_1_203 uk_1_1 uk_1_204) rfl rfl rfl (by decide +kernel) ⟨Nat.le_of_ble_eq_true rfl, Nat.le_of_ble_eq_true rfl⟩) rfl hl.1 rfl (Nat.le_of_ble_eq_true rfl) dX6_thing_6 ⟨Nat.le_of_ble_eq_true rfl, Nat.le_of_ble_eq_true rfl⟩) hno hlocks hE hS ⟨Nat.le_of_ble_eq_true rfl, Nat.le_of_ble_eq_true rfl⟩ (fun E9 h9 => (by rw [h9.1, exc_IO]; unfold fX6_thing; rw [if_neg h9.2] <;> rfl)) (fun g_e_1 q_e_1 H locs e_1 hP hS => ?_)
  have c_3 := e_1.1
  obtain ⟨-, h7, h8⟩ := e_1; rw [h7, h8] at hP
  refine lv_iload_n hx hb dX6_thing_9 rfl (lv_at hl 2 rfl) ?_
  refine lv_iconst (v := 1) hx hb dX6_thing_10 (by decide) ?_
  refine lv_bipush (v := 50) hx hb dX6_thing_11 (by decide) ?_
  refine sy_xkv (sy_xS (As := [.int x1, .int 1, .int 50]) (rest := []) ⟨hx, hb, hml, hown, hts⟩ hE hP hS (mX6_needRange l hfl Z nT nK cT cK ad g q x1 1 50) (va_cwS 3 hts (gu_S uk_2_28 uk_2_29 uk_1_1 uk_2_30) rfl rfl rfl (by decide +kernel) ⟨Nat.le_of_ble_eq_true rfl, Nat.le_of_ble_eq_true rfl⟩) rfl hl.1 rfl (Nat.le_of_ble_eq_true rfl) dX6_thing_13 ⟨Nat.le_of_ble_eq_true rfl, Nat.le_of_ble_eq_true rfl⟩) hno hlocks hE hS ⟨Nat.le_of_ble_eq_true rfl, Nat.le_of_ble_eq_true rfl⟩ (fun E9 h9 => (by rw [h9.1, exc_IA]; unfold fX6_thing; rw [if_pos c_3, if_neg h9.2] <;> rfl)) (fun g_e_4 q_e_4 H locs e_4 hP hS => ?_)
  have c_6 := e_4.1
  obtain ⟨-, h7, h8⟩ := e_4; rw [h7, h8] at hP
  refine lv_iload_n hx hb dX6_thing_16 rfl (lv_at hl 3 rfl) ?_
  refine lv_bipush (v := 10) hx hb dX6_thing_17 (by decide) ?_
  refine lv_sipush (v := 10000) hx hb dX6_thing_19 (by decide) ?_
  refine sy_xkv (sy_xS (As := [.int x2, .int 10, .int 10000]) (rest := []) ⟨hx, hb, hml, hown, hts⟩ hE hP hS (mX6_needRange l hfl Z nT nK cT cK ad g q x2 10 10000) (va_cwS 3 hts (gu_S uk_2_28 uk_2_29 uk_1_1 uk_2_30) rfl rfl rfl (by decide +kernel) ⟨Nat.le_of_ble_eq_true rfl, Nat.le_of_ble_eq_true rfl⟩) rfl hl.1 rfl (Nat.le_of_ble_eq_true rfl) dX6_thing_22 ⟨Nat.le_of_ble_eq_true rfl, Nat.le_of_ble_eq_true rfl⟩) hno hlocks hE hS ⟨Nat.le_of_ble_eq_true rfl, Nat.le_of_ble_eq_true rfl⟩ (fun E9 h9 => (by rw [h9.1, exc_IA]; unfold fX6_thing; rw [if_pos c_3, if_pos c_6, if_neg h9.2] <;> rfl)) (fun g_e_7 q_e_7 H locs e_7 hP hS => ?_)
  have c_9 := e_7.1
  obtain ⟨-, h7, h8⟩ := e_7; rw [h7, h8] at hP
  refine lv_aload_n hx hb dX6_thing_25 rfl (lv_at hl 0 rfl) ?_
  refine sy_getRX6 hx hb hts hown hE hP 60 rfl 0 (by decide) (hts _ (u_in uk_1_152)) (v := .ref (ad 61)) rfl dX6_thing_26 ?_
  refine sy_ki (sy_rV (o := 61) (As := []) (rest := []) ⟨hx, hb, hml, hown, hts⟩ hE hP hS (mJx4a65c_size_8abf5T l hfl Z nT nK cT cK ad g q) (cwV 0 hts (gu_V uk_2_46 uk_2_47 uk_2_48 uk_1_4 uk_2_49) rfl rfl rfl (by decide +kernel) ⟨Nat.le_of_ble_eq_true rfl, Nat.le_of_ble_eq_true rfl⟩) (sy_recv (kc := 0) hE hP rfl (by decide) rfl rfl rfl) rfl hl.1 rfl (Nat.le_of_ble_eq_true rfl) dX6_thing_29 ⟨Nat.le_of_ble_eq_true rfl, Nat.le_of_ble_eq_true rfl⟩) hS (fun r_e_10 g_e_10 q_e_10 H locs e_10 hP hS => ?_)
  cases e_10
  refine sy_top (y := (g 61 2)) (by rfl) ?_
  refine lv_bipush (v := 40) hx hb dX6_thing_32 (by decide) ?_
  refine lv_icmp_ge (tgt := 41) hx hb dX6_thing_34 (by decide) (fun c_11 => ?_) (fun c_11 => ?_)
  · skip
    refine lv_iconst (v := 0) hx hb dX6_thing_41 (by decide) ?_
    refine sy_xkv (sy_xS (As := [.int 0]) (rest := []) ⟨hx, hb, hml, hown, hts⟩ hE hP hS (mX6_needState l hfl Z nT nK cT cK ad g q 0) (va_cwS 1 hts (gu_S uk_2_50 uk_2_51 uk_1_1 uk_2_52) rfl rfl rfl (by decide +kernel) ⟨Nat.le_of_ble_eq_true rfl, Nat.le_of_ble_eq_true rfl⟩) rfl hl.1 rfl (Nat.le_of_ble_eq_true rfl) dX6_thing_42 ⟨Nat.le_of_ble_eq_true rfl, Nat.le_of_ble_eq_true rfl⟩) hno hlocks hE hS ⟨Nat.le_of_ble_eq_true rfl, Nat.le_of_ble_eq_true rfl⟩ (fun E9 h9 => (by rw [h9.1, exc_IS]; unfold fX6_thing; rw [if_pos c_3, if_pos c_6, if_pos c_9, if_pos c_11] <;> rfl)) (fun g_e_12 q_e_12 H locs e_12 hP hS => ?_)
    exact absurd rfl e_12.1
  · skip
    refine lv_iconst (v := 1) hx hb dX6_thing_37 (by decide) ?_
    refine lv_goto (tgt := 42) hx hb dX6_thing_38 (by decide) ?_
    refine sy_xkv (sy_xS (As := [.int 1]) (rest := []) ⟨hx, hb, hml, hown, hts⟩ hE hP hS (mX6_needState l hfl Z nT nK cT cK ad g q 1) (va_cwS 1 hts (gu_S uk_2_50 uk_2_51 uk_1_1 uk_2_52) rfl rfl rfl (by decide +kernel) ⟨Nat.le_of_ble_eq_true rfl, Nat.le_of_ble_eq_true rfl⟩) rfl hl.1 rfl (Nat.le_of_ble_eq_true rfl) dX6_thing_42 ⟨Nat.le_of_ble_eq_true rfl, Nat.le_of_ble_eq_true rfl⟩) hno hlocks hE hS ⟨Nat.le_of_ble_eq_true rfl, Nat.le_of_ble_eq_true rfl⟩ (fun E9 h9 => (absurd (by decide) h9.2)) (fun g_e_15 q_e_15 H locs e_15 hP hS => ?_)
    obtain ⟨-, h7, h8⟩ := e_15; rw [h7, h8] at hP
    have h39 : nT < 40 := by
      have h9 := Int32.not_le.mp c_11
      rw [hG.1] at h9
      exact (nI_ltI (b := 40) (by have := hG.2.1; omega) (by decide)).mp h9
    have hcT := hG.2.2.1
    refine sy_newo hx hb hts (uin_all uin_RX3) tyX3 tyX3_ok hown (hts _ (u_in uk_2_68)) (hts _ (u_in uk_2_69)) (hts _ (u_in uk_1_15)) hE hP hS (ci := 4) rfl (fs := [.int 0, .int 0, .int 0, .int 0, .int 0, .int 0, .int 0, .int 0, .int 0, .int 0, .int 0, .null]) (fun j hj => by match j, hj with | 0, _ => rfl | 1, _ => rfl | 2, _ => rfl | 3, _ => rfl | 4, _ => rfl | 5, _ => rfl | 6, _ => rfl | 7, _ => rfl | 8, _ => rfl | 9, _ => rfl | 10, _ => rfl | 11, _ => rfl) (Nat.le_of_ble_eq_true rfl) (Nat.le_of_ble_eq_true rfl) dX6_thing_45 (u := 100 + nT) (kc := 4) (nT' := nT + 1) (nK' := nK) (by omega) (by decide) (sy_kdT1 (by omega)) hqn (fun _ => rfl) (fun ad1 H had1 hP hS => ?_)
    have hl : lv_has ls 5 [(0, .ref (ad1 60)), (1, .int x0), (2, .int x1), (3, .int x2)] := by rw [had1 60 (by omega)]; exact hl
    refine lv_dup hx hb dX6_thing_48 rfl ?_
    refine lv_aload_n hx hb dX6_thing_49 rfl (lv_at hl 0 rfl) ?_
    refine sy_getRX6 hx hb hts hown hE hP 60 rfl 0 (by decide) (hts _ (u_in uk_1_152)) (v := .ref (ad1 61)) rfl dX6_thing_50 ?_
    refine sy_ki (sy_rV (o := 61) (As := []) (rest := [.ref (ad1 (100 + nT)), .ref (ad1 (100 + nT))]) ⟨hx, hb, hml, hown, hts⟩ hE hP hS (mJx4a65c_size_8abf5T l hfl Z (nT + 1) nK cT cK ad1 (va_up g (100 + nT) (fun _ => 0)) (va_up q (100 + nT) (fun _ => none))) (cwV 0 hts (gu_V uk_2_46 uk_2_47 uk_2_48 uk_1_4 uk_2_49) rfl rfl rfl (by decide +kernel) ⟨Nat.le_of_ble_eq_true rfl, Nat.le_of_ble_eq_true rfl⟩) (sy_recv (kc := 0) hE hP rfl (by decide) rfl rfl rfl) rfl hl.1 rfl (Nat.le_of_ble_eq_true rfl) dX6_thing_53 ⟨Nat.le_of_ble_eq_true rfl, Nat.le_of_ble_eq_true rfl⟩) hS (fun r_e g_e q_e H locs e hP hS => ?_)
    cases e
    have hsz1 : va_up g (100 + nT) (fun _ => (0 : Int32)) 61 2 = nI nT := by rw [va_up_ne _ _ (by omega)]; exact hG.1
    refine sy_top (y := nI nT) hsz1 ?_
    refine lv_iload_n hx hb dX6_thing_56 rfl (lv_at hl 1 rfl) ?_
    refine lv_iload_n hx hb dX6_thing_57 rfl (lv_at hl 2 rfl) ?_
    refine lv_iload_n hx hb dX6_thing_58 rfl (lv_at hl 3 rfl) ?_
    refine sy_kv (sy_rI (o := 100 + nT) (As := [.int (nI nT), .int x0, .int x1, .int x2]) (rest := [.ref (ad1 (100 + nT))]) ⟨hx, hb, hml, hown, hts⟩ hE hP hS (mX3_init l hfl Z (nT + 1) nK cT cK ad1 (va_up g (100 + nT) (fun _ => 0)) (va_up q (100 + nT) (fun _ => none)) nT (nI nT) x0 x1 x2 (sy_kdT1 (by omega)).2) (cwI 4 hts (gu_all uk_2_72) rfl rfl rfl (hts _ (u_in uk_1_15)) (hts _ (u_in uk_2_70)) (hts _ (u_in uk_2_71)) rfl (by decide +kernel) ⟨Nat.le_of_ble_eq_true rfl, Nat.le_of_ble_eq_true rfl⟩) rfl hl.1 rfl (Nat.le_of_ble_eq_true rfl) dX6_thing_59 ⟨Nat.le_of_ble_eq_true rfl, Nat.le_of_ble_eq_true rfl⟩) hS (fun g_e q_e H locs e hP hS => ?_)
    obtain ⟨rfl, rfl⟩ : g_e = (fX3_init (va_up g (100 + nT) (fun _ => 0)) (va_up q (100 + nT) (fun _ => none)) nT (nI nT) x0 x1 x2).1 ∧ q_e = (fX3_init (va_up g (100 + nT) (fun _ => 0)) (va_up q (100 + nT) (fun _ => none)) nT (nI nT) x0 x1 x2).2 := by rw [← e]; exact ⟨rfl, rfl⟩
    refine lv_astore (lv' := [(4, .ref (ad1 (100 + nT))), (0, .ref (ad1 60)), (1, .int x0), (2, .int x1), (3, .int x2)]) hx hb dX6_thing_62 hl (by decide) rfl (fun ls hl => ?_)
    refine lv_aload_n hx hb dX6_thing_64 rfl (lv_at hl 1 rfl) ?_
    refine sy_getRX6 hx hb hts hown hE hP 60 rfl 0 (by decide) (hts _ (u_in uk_1_152)) (v := .ref (ad1 61)) rfl dX6_thing_65 ?_
    refine lv_aload hx hb dX6_thing_68 (lv_at hl 0 rfl) ?_
    have hszF : (fX3_init (va_up g (100 + nT) (fun _ => 0)) (va_up q (100 + nT) (fun _ => none)) nT (nI nT) x0 x1 x2).1 61 2 = nI nT := by rw [x3i_g (by omega)]; exact hsz1
    have hq0 : ∀ o, o ≠ 100 + nT → (fX3_init (va_up g (100 + nT) (fun _ => 0)) (va_up q (100 + nT) (fun _ => none)) nT (nI nT) x0 x1 x2).2 o = q o := fun o ho => by rw [x3i_q ho, va_up_ne _ _ ho]
    have hx1 : ∀ o k, (fX3_init (va_up g (100 + nT) (fun _ => 0)) (va_up q (100 + nT) (fun _ => none)) nT (nI nT) x0 x1 x2).2 o k ≠ some 70 := fun o k => by
      by_cases ho : o = 100 + nT
      · rw [ho, x3i_q1]; exact fun h => by cases h
      · rw [hq0 o ho]; exact hq70 o k
    refine va_calli (sy_rV (o := 61) (As := [.ref (ad1 (100 + nT))]) (rest := []) ⟨hx, hb, hml, hown, hts⟩ hE hP hS (mJx4a65c_addT l hfl Z (nT + 1) nK cT cK ad1 (fX3_init (va_up g (100 + nT) (fun _ => 0)) (va_up q (100 + nT) (fun _ => none)) nT (nI nT) x0 x1 x2).1 (fX3_init (va_up g (100 + nT) (fun _ => 0)) (va_up q (100 + nT) (fun _ => none)) nT (nI nT) x0 x1 x2).2 nT (100 + nT) hszF hcT (by omega) hc (fun h => (had1 70 (by omega)).trans (h0 h)) hx1 (fun j hj => by rw [hq0 70 (by omega)]; exact hrest j hj) (fun i y hi hy cT cK => by
      rw [hq0 70 (by omega), hQ.1 i hi] at hy
      cases hy
      exact sy_kdT (by omega) (by omega)) (fun cT cK => (sy_kdT1 (by omega)).2)) (cwV 1 hts (gu_V uk_2_123 uk_2_124 uk_2_125 uk_1_4 uk_2_126) rfl rfl rfl (by decide +kernel) ⟨Nat.le_of_ble_eq_true rfl, Nat.le_of_ble_eq_true rfl⟩) (sy_recv (kc := 0) hE hP rfl (by decide) rfl rfl rfl) rfl hl.1 rfl (Nat.le_of_ble_eq_true rfl) dX6_thing_70 ⟨Nat.le_of_ble_eq_true rfl, Nat.le_of_ble_eq_true rfl⟩) hS (fun _ _ h => h) (fun _ h => h) (fun r9 ad2 t H1 locs1 ht hv had hB _ _ hS => ?_)
    subst ht
    obtain ⟨-, hP⟩ := hB
    refine lv_pop hx hb dX6_thing_73 rfl ?_
    refine lv_aload hx hb dX6_thing_74 (lv_at hl 0 rfl) ?_
    rw [← had (100 + nT) (by omega)]
    refine sy_getRX3 hx hb hts hown hE hP (100 + nT) (sy_kdT1 (by omega)).2 0 (by decide) (hts _ (u_in uk_2_75)) (v := .int ((fX6_thingM g q nT x0 x1 x2).1 (100 + nT) 0)) rfl dX6_thing_76 ?_
    refine sy_top (y := nI nT) (by show sy_up (sy_up _ 61 0 _) 61 2 _ (100 + nT) 0 = nI nT; rw [sy_up_o _ _ _ (by omega), sy_up_o _ _ _ (by omega)]; exact x3i_n) ?_
    exact vx_ret (W.widen (Nat.le_of_ble_eq_true rfl) (Nat.le_of_ble_eq_true rfl) (W.iret hx hb hr (fun t2 ht hW => ⟨⟨nI nT, (ad2, (fX6_thingM g q nT x0 x1 x2).1, (fX6_thingM g q nT x0 x1 x2).2), rfl, ⟨fun x h1 h2 => (had x h1).trans (had1 x h2), (by unfold fX6_thing; rw [if_pos c_3, if_pos c_6, if_pos c_9, if_neg c_11] <;> rfl)⟩, hE.next hS ht hW.alike, by rw [ht]; exact hP⟩, hS.F ht⟩) hS.2.2 dX6_thing_79 hlocks))
