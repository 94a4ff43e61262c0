set_option maxHeartbeats 4000000 in
set_option maxRecDepth 100000 in
theorem mJ7_copyOf2 (l : Launch) (Z : sZ) (nT nK cT cK : Nat) (ad : Nat → Nat) (g : sG) (q : sQ) (b n N : Nat) (C : String) (hkd : sy_kd nT nK cT cK b = 13) (hn : sy_ln cT cK b = n) (hnN : n ≤ N) (hN : N ≤ 60) (hcn : Cond.castable C "java/lang/Object" ∈ wsN) (hrv : ∀ (s : State) (H : Heap), sEnv Z s → Sy Z nT nK cT cK ad g q H → ∀ i : Nat, i < n → ∀ y : Nat, (q b i).map ad = some y → ∃ cellV : Cell, H[y]? = some cellV ∧ cellV.vm.isStatics = false ∧ s.vm.findClass C = some cellV.cls) : Met l yJ7_copyOf_1904c (uW (.code yJ7_copyOf_1904c cJ7_copyOf_1904c 2 (some (.array (.object "java/lang/Object"))))) { frames := 2, cells := 1, slots := 60, locals := 63 } (va_Pc [.ref (ad b), .int (nI N)] (sPre Z nT nK cT cK ad g q)) (sQn Z nT nK cT cK ad g q N (fun j => if j < n then (q b j).map ad else none)) 1 60 (sy_A Z) := by
  refine Met.ofW (cc := cJ7_copyOf_1904c) (maxL := 2) (ret := (some (.array (.object "java/lang/Object")))) (by decide) rfl ?_
  intro p e s m args below meth c s₁ B hml hv
  obtain ⟨rfl, hE, hP⟩ := hv
  have hx := B.exec
  have hb := B.bytes
  have hr := B.returns
  have hts := atoms_spec (ws := uW (.code yJ7_copyOf_1904c cJ7_copyOf_1904c 2 (some (.array (.object "java/lang/Object"))))) B.pre
  have hown : s.vm.findClass RJ7 = some m.cls := findClass_of_methodNamed B.named
  have hlocks := B.notSynchronized
  have hS : va_S (sy_A Z) s.heap s.heap [] := va_S.rf
  have hl := lv_entry ([.ref (ad b), .int (nI N)]) (n := 2) (Nat.le_of_ble_eq_true rfl)
  rw [lg_entry_eq]
  generalize (lg_sl ([.ref (ad b), .int (nI N)]) ++ List.replicate (2 - (lg_sl ([.ref (ad b), .int (nI N)])).length) Slot.unset).toArray = ls at hl ⊢
  have hl : lv_has ls 2 [(0, .ref (ad b)), (1, .int (nI N))] := hl
  obtain ⟨mi, hM⟩ := hE.2.2.2.2.1.2.2.2.2.2.2
  refine lv_aload_n hx hb dJ7_copyOf_1904c_0 rfl (lv_at hl 0 rfl) ?_
  refine lv_iload_n hx hb dJ7_copyOf_1904c_1 rfl (lv_at hl 1 rfl) ?_
  refine lv_aload_n hx hb dJ7_copyOf_1904c_2 rfl (lv_at hl 0 rfl) ?_
  have hcb : s.heap[ad b]? = some (vp_cell (Z.2.1 2) (n, .inr (.inr (.inr (.inr (fun j => (q b j).map ad)))))) := by
    have h := hP.1 b (by rw [hkd]; decide)
    rw [hkd, hn] at h
    exact h
  refine va_getC (C := "[Ljava/lang/Object;") hx hb (hml.trans hl.1.symm) hown (hts _ (u_in uk_2_152)) (va_Nw.use rfl (hE.2.2.2.2.2 _ un_4_229)) (hts _ (u_in uk_4_228)) (hts _ (u_in uk_2_153)) (hts _ (u_in uk_2_166)) hM ⟨_, hcb, rfl, va_nmO (hE.1.2 2 _ rfl).2 rfl⟩ (Nat.le_of_ble_eq_true rfl) (Nat.le_of_ble_eq_true rfl) dJ7_copyOf_1904c_3 ?_
  refine va_callr (va_runS (As := [.ref (ad b), .int (nI N), .ref mi]) (rest := []) ⟨hx, hb, hml, hown, hts⟩ (mJ7_copyOf3 l Z nT nK cT cK ad g q b n N mi C hkd hn hnN hN hcn hrv) (va_cwS 3 hts (gu_S uk_2_167 uk_2_168 uk_1_18 uk_2_169) rfl rfl rfl (by decide +kernel) ⟨Nat.le_of_ble_eq_true rfl, Nat.le_of_ble_eq_true rfl⟩) ⟨sPm_blind _, fun U hU hW => ⟨rfl, ⟨hE.next hS hU hW.alike, by rw [hU]; exact hP⟩, hM.moved hW.alike⟩⟩ rfl rfl hl.1 rfl (lv_room (Nat.le_of_ble_eq_true rfl)) dJ7_copyOf_1904c_6 ⟨Nat.le_of_ble_eq_true rfl, Nat.le_of_ble_eq_true rfl⟩) hS (fun _ _ h => h) (fun _ h => h) (fun u ra t H1 locs1 ht hv _ hB _ _ hS1 => ?_)
  subst ht
  exact W.widen (Nat.le_of_ble_eq_true rfl) (Nat.le_of_ble_eq_true rfl) (W.aret hx hb hr (Or.inr ⟨_, rfl⟩) (Or.inr ⟨_, rfl⟩) (fun t2 ht hW => ⟨⟨(), ra, rfl, trivial, ⟨hE.next hS1 ht hW.alike, by rw [ht]; exact hB.1.2⟩, by rw [ht]; exact hB.2⟩, hS1.F ht⟩) hS1.2.2 dJ7_copyOf_1904c_9 hlocks)
def sGr (n : Nat) : Nat := if n = 0 then 10 else n + (if n / 2 ≤ 1 then 1 else n / 2)
section SGROW
variable {p : Program} {l : Launch} {e : Env} {R : Room} {s : State} {m : MethodId} {args : Array Value} {below : List Frame} {meth : Method} {c : Code} {H : Heap} {locs : List Loc} {cells slots : Nat} {Q : State → Prop}
variable {cc : ByteArray} {pc : Nat} {ls : Array Slot} {rest : List Value} {Z : sZ} {nT nK cT cK : Nat} {ad : Nat → Nat} {g : sG} {q : sQ} {c0 : Cond}
theorem sy_kdgT {nT nK cT cK N : Nat} (hN : N ≠ 0) : (∀ o, o ≠ 70 → sy_kd nT nK N cK o = sy_kd nT nK cT cK o) ∧ sy_kd nT nK N cK 70 = 13 := by
  refine ⟨fun o ho => ?_, ?_⟩
  · unfold sy_kd
    by_cases h1 : o < 100
    · rw [if_pos h1, if_pos h1]
      simp only [if_neg ho]
    · rw [if_neg h1, if_neg h1]
  · exact sy_kd70 hN
theorem sy_lngT {cT cK N o : Nat} (ho : o ≠ 70) : sy_ln N cK o = sy_ln cT cK o := by
  unfold sy_ln
  simp only [if_neg ho]
theorem sy_growT {own : String} {index : Nat} (hexec : p.tables.exec = Jvm.exec) (hb : c.code = cc) (hts : ∀ w ∈ uW c0, w.before args s = true) (hown : s.vm.findClass own = some m.cls) (hE : sEnv Z s) (hP : Sy Z nT nK cT cK ad g q H) (hS : va_S (sy_A Z) s.heap H locs) (hlink : (Cond.fieldLink own index (TJx4a65c 1).1 (TJx4a65c 1).2.1 (TJx4a65c 1).2.2.1).before args s = true) {a N : Nat} {f : Nat → Option Nat} (hN1 : sNew Z nT nK cT cK ad N f a H) (hN : N ≠ 0) (hf : ∀ j, f j = (q 70 j).map ad) (hx : ∀ o k, q o k ≠ some 70)
    (hdg : decode cc pc = .ok (.putfield index, 3)) (kk : ∀ (ad' : Nat → Nat) (H1 : Heap) (locs1 : List Loc), (∀ x, x ≠ 70 → ad' x = ad x) → ad' 70 = a → Sy Z nT nK N cK ad' g q H1 → va_S (sy_A Z) s.heap H1 locs1 → W p l e R s m args below meth c H1 locs1 cells slots Q (F0 m (pc + 3) ls rest)) : W p l e R s m args below meth c H locs cells slots Q (F0 m pc ls (.ref a :: .ref (ad 61) :: rest)) := by
  have hap := va_apart (own := own) hts (uin_all uin_RJx4a65c) tyJx4a65c tyJx4a65c_ok nmJx4a65c hE.1 (ci := 0) rfl
  have k0 : sy_kd nT nK cT cK 61 = 0 := rfl
  have hA : sy_A Z (ad 61) := hP.2.1 61 (by rw [k0]; decide)
  have hP1 := sy_one hP (o := 61) (kc := 0) rfl (by decide) rfl
  obtain ⟨r, h1, cell, q2, q3, q4, q5⟩ := hP1 0 _ rfl
  have hr : r = (RJx4a65c, TJx4a65c, 3) := Option.some.inj (h1.symm.trans rfl)
  subst hr
  obtain ⟨hSl, hfc, kC, hkC, hkind⟩ := hE.1.1 0 _ rfl
  obtain ⟨cf, kf, fi, f9, hi, hsl⟩ := hSl 1 (by decide)
  have hlay := hts _ (uin_all uin_RJx4a65c _ (u_in_lay (C := RJx4a65c) (T := TJx4a65c) (N := 3) (k := 1) (by decide)))
  unfold u_lay at hlay
  rw [if_neg (by decide)] at hlay
  have hst := (u_facts hfc hkC (u_lays hts (uin_all uin_RJx4a65c) (by decide)) hi).1
  have h6 := u_store hfc hkC hkind hlay hi (ty := .array (.object "java/lang/Object")) (v := .ref a) (by decide +kernel) rfl rfl
  refine W.putK hexec hb (f := f9) ⟨hown, hlink, ⟨_, _, _, hi⟩, hst⟩ (by rw [q3]; exact h6) q2 q4 (by rw [hsl]; exact k2_hasslot (q5 1 (by decide))) rfl rfl hdg fun H' e1 e2 e3 => ?_
  rw [hsl] at e1 ⊢
  have h8 : va_at Z.1 vwCl (ad 61, .inr (0, [.int (g 61 0), .ref a, .int (g 61 2)])) H' := ⟨_, rfl, t_OB.to (V := updV (vp_V _) 1 (.ref a)) ⟨_, e1, q3, q4, t_set q5 hap (by decide) (.ref a)⟩ (fun j _ => vp_updV_set (show 1 < 3 by decide) (.ref a) j)⟩
  have hk := sy_kdgT (nT := nT) (nK := nK) (cT := cT) (cK := cK) hN
  have hne : a ≠ ad 61 := fun e => hN1.2.1 61 (by rw [k0]; decide) e.symm
  have hP2 : Sy Z nT nK N cK (va_up ad 70 a) g q H' := by
    refine ⟨fun o ho => ?_, fun o ho => ?_, fun o o' h2 h3 h4 => ?_⟩
    · by_cases e : o = 70
      · subst e
        rw [hk.2, va_up_self]
        show H'[a]? = some (vp_cell _ _)
        rw [e3 _ hne, hN1.2.2]
        congr 2
        refine congrArg (fun f => (N, Sum.inr (Sum.inr (Sum.inr (Sum.inr f))))) (funext fun j => ?_)
        rw [hf j]
        cases hj : q 70 j with
        | none => rfl
        | some y =>
          show some (ad y) = some (va_up ad 70 a y)
          rw [va_up_ne ad a (fun e => hx 70 j (by rw [hj, e]))]
      · by_cases e' : o = 61
        · subst e'
          rw [va_up_ne ad a (by decide)]
          exact h8
        · rw [hk.1 o e] at ho
          rw [hk.1 o e, sy_lngT (cT := cT) (cK := cK) e, va_up_ne ad a e, sy_ent_ad (by decide) (hx o) (fun z => by omega)]
          exact (hP.1 o ho).kept (e3 _ (fun z => e' (hP.2.2 o 61 ho (by rw [k0]; decide) z)))
    · by_cases e : o = 70
      · subst e
        rw [va_up_self]
        exact hN1.1
      · rw [hk.1 o e] at ho
        rw [va_up_ne ad a e]
        exact hP.2.1 o ho
    · by_cases e : o = 70
      · by_cases e' : o' = 70
        · rw [e, e']
        · rw [hk.1 o' e'] at h3
          rw [e, va_up_self, va_up_ne ad a e'] at h4
          exact absurd h4.symm (hN1.2.1 o' (by omega))
      · rw [hk.1 o e] at h2
        by_cases e' : o' = 70
        · rw [e', va_up_self, va_up_ne ad a e] at h4
          exact absurd h4 (hN1.2.1 o h2)
        · rw [hk.1 o' e'] at h3
          rw [va_up_ne ad a e, va_up_ne ad a e'] at h4
          exact hP.2.2 o o' h2 h3 h4
  exact kk _ H' _ (fun x h => va_up_ne ad a h) (va_up_self ad 70 a) hP2 (hS.put e2 e3 hA)
theorem sy_kdgK {nT nK cT cK N : Nat} (hN : N ≠ 0) : (∀ o, o ≠ 71 → sy_kd nT nK cT N o = sy_kd nT nK cT cK o) ∧ sy_kd nT nK cT N 71 = 13 := by
  refine ⟨fun o ho => ?_, ?_⟩
  · unfold sy_kd
    by_cases h1 : o < 100
    · rw [if_pos h1, if_pos h1]
      simp only [if_neg ho]
    · rw [if_neg h1, if_neg h1]
  · exact sy_kd71 hN
theorem sy_lngK {cT cK N o : Nat} (ho : o ≠ 71) : sy_ln cT N o = sy_ln cT cK o := by
  unfold sy_ln
  simp only [if_neg ho]
theorem sy_growK {own : String} {index : Nat} (hexec : p.tables.exec = Jvm.exec) (hb : c.code = cc) (hts : ∀ w ∈ uW c0, w.before args s = true) (hown : s.vm.findClass own = some m.cls) (hE : sEnv Z s) (hP : Sy Z nT nK cT cK ad g q H) (hS : va_S (sy_A Z) s.heap H locs) (hlink : (Cond.fieldLink own index (TJx4a65c 1).1 (TJx4a65c 1).2.1 (TJx4a65c 1).2.2.1).before args s = true) {a N : Nat} {f : Nat → Option Nat} (hN1 : sNew Z nT nK cT cK ad N f a H) (hN : N ≠ 0) (hf : ∀ j, f j = (q 71 j).map ad) (hx : ∀ o k, q o k ≠ some 71)
    (hdg : decode cc pc = .ok (.putfield index, 3)) (kk : ∀ (ad' : Nat → Nat) (H1 : Heap) (locs1 : List Loc), (∀ x, x ≠ 71 → ad' x = ad x) → ad' 71 = a → Sy Z nT nK cT N ad' g q H1 → va_S (sy_A Z) s.heap H1 locs1 → W p l e R s m args below meth c H1 locs1 cells slots Q (F0 m (pc + 3) ls rest)) : W p l e R s m args below meth c H locs cells slots Q (F0 m pc ls (.ref a :: .ref (ad 62) :: rest)) := by
  have hap := va_apart (own := own) hts (uin_all uin_RJx4a65c) tyJx4a65c tyJx4a65c_ok nmJx4a65c hE.1 (ci := 0) rfl
  have k0 : sy_kd nT nK cT cK 62 = 0 := rfl
  have hA : sy_A Z (ad 62) := hP.2.1 62 (by rw [k0]; decide)
  have hP1 := sy_one hP (o := 62) (kc := 0) rfl (by decide) rfl
  obtain ⟨r, h1, cell, q2, q3, q4, q5⟩ := hP1 0 _ rfl
  have hr : r = (RJx4a65c, TJx4a65c, 3) := Option.some.inj (h1.symm.trans rfl)
  subst hr
  obtain ⟨hSl, hfc, kC, hkC, hkind⟩ := hE.1.1 0 _ rfl
  obtain ⟨cf, kf, fi, f9, hi, hsl⟩ := hSl 1 (by decide)
  have hlay := hts _ (uin_all uin_RJx4a65c _ (u_in_lay (C := RJx4a65c) (T := TJx4a65c) (N := 3) (k := 1) (by decide)))
  unfold u_lay at hlay
  rw [if_neg (by decide)] at hlay
  have hst := (u_facts hfc hkC (u_lays hts (uin_all uin_RJx4a65c) (by decide)) hi).1
  have h6 := u_store hfc hkC hkind hlay hi (ty := .array (.object "java/lang/Object")) (v := .ref a) (by decide +kernel) rfl rfl
  refine W.putK hexec hb (f := f9) ⟨hown, hlink, ⟨_, _, _, hi⟩, hst⟩ (by rw [q3]; exact h6) q2 q4 (by rw [hsl]; exact k2_hasslot (q5 1 (by decide))) rfl rfl hdg fun H' e1 e2 e3 => ?_
  rw [hsl] at e1 ⊢
  have h8 : va_at Z.1 vwCl (ad 62, .inr (0, [.int (g 62 0), .ref a, .int (g 62 2)])) H' := ⟨_, rfl, t_OB.to (V := updV (vp_V _) 1 (.ref a)) ⟨_, e1, q3, q4, t_set q5 hap (by decide) (.ref a)⟩ (fun j _ => vp_updV_set (show 1 < 3 by decide) (.ref a) j)⟩
  have hk := sy_kdgK (nT := nT) (nK := nK) (cT := cT) (cK := cK) hN
  have hne : a ≠ ad 62 := fun e => hN1.2.1 62 (by rw [k0]; decide) e.symm
  have hP2 : Sy Z nT nK cT N (va_up ad 71 a) g q H' := by
    refine ⟨fun o ho => ?_, fun o ho => ?_, fun o o' h2 h3 h4 => ?_⟩
    · by_cases e : o = 71
      · subst e
        rw [hk.2, va_up_self]
        show H'[a]? = some (vp_cell _ _)
        rw [e3 _ hne, hN1.2.2]
        congr 2
        refine congrArg (fun f => (N, Sum.inr (Sum.inr (Sum.inr (Sum.inr f))))) (funext fun j => ?_)
        rw [hf j]
        cases hj : q 71 j with
        | none => rfl
        | some y =>
          show some (ad y) = some (va_up ad 71 a y)
          rw [va_up_ne ad a (fun e => hx 71 j (by rw [hj, e]))]
      · by_cases e' : o = 62
        · subst e'
          rw [va_up_ne ad a (by decide)]
          exact h8
        · rw [hk.1 o e] at ho
          rw [hk.1 o e, sy_lngK (cT := cT) (cK := cK) e, va_up_ne ad a e, sy_ent_ad (by decide) (hx o) (fun z => by omega)]
          exact (hP.1 o ho).kept (e3 _ (fun z => e' (hP.2.2 o 62 ho (by rw [k0]; decide) z)))
    · by_cases e : o = 71
      · subst e
        rw [va_up_self]
        exact hN1.1
      · rw [hk.1 o e] at ho
        rw [va_up_ne ad a e]
        exact hP.2.1 o ho
    · by_cases e : o = 71
      · by_cases e' : o' = 71
        · rw [e, e']
        · rw [hk.1 o' e'] at h3
          rw [e, va_up_self, va_up_ne ad a e'] at h4
          exact absurd h4.symm (hN1.2.1 o' (by omega))
      · rw [hk.1 o e] at h2
        by_cases e' : o' = 71
        · rw [e', va_up_self, va_up_ne ad a e] at h4
          exact absurd h4 (hN1.2.1 o h2)
        · rw [hk.1 o' e'] at h3
          rw [va_up_ne ad a e, va_up_ne ad a e'] at h4
          exact hP.2.2 o o' h2 h3 h4
  exact kk _ H' _ (fun x h => va_up_ne ad a h) (va_up_self ad 71 a) hP2 (hS.put e2 e3 hA)
end SGROW
