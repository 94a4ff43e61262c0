theorem sy_keep {Z : sZ} {nT nK cT cK : Nat} {ad : Nat → Nat} {g : sG} {q : sQ} {H H1 : Heap} (hP : Sy Z nT nK cT cK ad g q H) (o1 : ∀ o, sy_kd nT nK cT cK o < 99 → H1[ad o]? = H[ad o]?) : Sy Z nT nK cT cK ad g q H1 := ⟨fun o ho => (hP.1 o ho).kept (o1 o ho), hP.2.1, hP.2.2⟩
/-- a fresh array of objects -/
def sNew (Z : sZ) (nT nK cT cK : Nat) (ad : Nat → Nat) (N : Nat) (f : Nat → Option Nat) (ra : Nat) (H : Heap) : Prop := Z.2.2.1 ≤ ra ∧ (∀ o, sy_kd nT nK cT cK o < 99 → ad o ≠ ra) ∧ H[ra]? = some (vp_cell (Z.2.1 2) (N, .inr (.inr (.inr (.inr f)))))
abbrev sQn (Z : sZ) (nT nK cT cK : Nat) (ad : Nat → Nat) (g : sG) (q : sQ) (N : Nat) (f : Nat → Option Nat) : Array Value → State → Outcome → State → Prop := va_Qr (fun _ : Unit => True) (fun _ ra t => (sEnv Z t ∧ Sy Z nT nK cT cK ad g q t.heap) ∧ sNew Z nT nK cT cK ad N f ra t.heap) (sy_A Z)
def sPm (Z : sZ) (nT nK cT cK : Nat) (ad : Nat → Nat) (g : sG) (q : sQ) (mi : Nat) : State → Prop := fun U => sPre Z nT nK cT cK ad g q U ∧ va_Mi "[Ljava/lang/Object;" mi U
theorem sPm_blind {Z : sZ} {nT nK cT cK mi : Nat} {ad : Nat → Nat} {g : sG} {q : sQ} (av : List Value) : FrameBlind (va_Pc av (sPm Z nT nK cT cK ad g q mi)) := fun _ _ _ _ h => ⟨h.1, ⟨sEnv.next h.2.1.1 va_S.rf rfl (Vm.Alike.refl _), h.2.1.2⟩, h.2.2.moved (Vm.Alike.refl _)⟩
section SNEW2
variable {p : Program} {l : Launch} {e : Env} {R : Room} {s : State} {m : MethodId} {args : Array Value} {below : List Frame} {meth : Method} {c : Code} {H : Heap} {locs : List Loc} {cells slots : Nat} {Q : State → Prop}
variable {cc : ByteArray} {pc : Nat} {ls : Array Slot} {rest : List Value} {Z : sZ} {nT nK cT cK : Nat} {ad : Nat → Nat} {g : sG} {q : sQ} {c0 : Cond}
theorem sy_anew (hexec : p.tables.exec = Jvm.exec) (hb : c.code = cc) {own : String} {index : Nat} (hown : s.vm.findClass own = some m.cls) (hclink : (Cond.classLink own index "java/lang/Object").before args s = true) (hE : sEnv Z s) (hP : Sy Z nT nK cT cK ad g q H) (hS : va_S (sy_A Z) s.heap H locs) {n : Int32} {N : Nat} (hn : ¬ n < 0) (hN : n.toNatClampNeg = N) (hbytes : N * 4 ≤ 536870912) (hcells : cells + 1 ≤ R.cells) (hslots : slots + N ≤ R.slots) (hdg : decode cc pc = .ok (.anewarray index, 3))
    (kk : ∀ (a : Nat) (H1 : Heap), Sy Z nT nK cT cK ad g q H1 → va_S (sy_A Z) s.heap H1 locs → sNew Z nT nK cT cK ad N (fun _ => none) a H1 → W p l e R s m args below meth c H1 locs (cells + 1) (slots + N) Q (F0 m (pc + 3) ls (.ref a :: rest))) : W p l e R s m args below meth c H locs cells slots Q (F0 m pc ls (.int n :: rest)) := by
  subst hN
  refine W.anew hexec hb hown hclink (va_AO.use hE.2.2.2.2.1.2.2.2.1) rfl hdg rfl hn hbytes hcells hslots fun cA kA comp f1 f2 f3 f4 => ?_
  generalize hH1 : H.push ({ cls := cA, slots := Array.replicate n.toNatClampNeg .null, vm := .none } : Cell) = H1
  have z1 : H1.size = H.size + 1 := by rw [← hH1, Array.size_push]
  have e1 : H1[H.size]? = some (arrV cA n.toNatClampNeg (fun _ => .null)) := by rw [← hH1, Array.getElem?_push_size, ← arrV_new]
  have o1 : ∀ q : Nat, q < H.size → H1[q]? = H[q]? := fun q hq => by rw [← hH1, Array.getElem?_push, if_neg (Nat.ne_of_lt hq)]
  have lt : ∀ o, sy_kd nT nK cT cK o < 99 → ad o < H.size := fun o ho => (hP.1 o ho).lt
  have hcA : cA = Z.2.1 2 := by
    obtain ⟨-, -, -, -, -, h4⟩ := (hE.1.2 2 _ rfl).2
    exact Option.some.inj (f1.symm.trans h4)
  refine kk H.size H1 (sy_keep hP fun o ho => o1 _ (lt o ho)) ⟨Nat.le_trans hS.1 (by omega), fun x h1 h2 => (o1 x (Nat.lt_of_lt_of_le h1 hS.1)).trans (hS.2.1 x h1 h2), hS.2.2⟩ ⟨Nat.le_trans hE.2.1 hS.1, fun o ho e => absurd (lt o ho) (by omega), ?_⟩
  rw [vp_cell_q, ← hcA]
  exact e1
end SNEW2
set_option maxHeartbeats 4000000 in
set_option maxRecDepth 100000 in
theorem mJ7_copyOf3 (l : Launch) (Z : sZ) (nT nK cT cK : Nat) (ad : Nat → Nat) (g : sG) (q : sQ) (b n N mi : Nat) (C : String) (hkd : sy_kd nT nK cT cK b = 13) (hn : sy_ln cT cK b = n) (hnN : n ≤ N) (hN : N ≤ 60) (hcn : Cond.castable C "java/lang/Object" ∈ wsN) (hrv : ∀ (s : State) (H : Heap), sEnv Z s → Sy Z nT nK cT cK ad g q H → ∀ i : Nat, i < n → ∀ y : Nat, (q b i).map ad = some y → ∃ cellV : Cell, H[y]? = some cellV ∧ cellV.vm.isStatics = false ∧ s.vm.findClass C = some cellV.cls) : Met l yJ7_copyOf_6403c (uW (.code yJ7_copyOf_6403c cJ7_copyOf_6403c 4 (some (.array (.object "java/lang/Object"))))) { frames := 1, cells := 1, slots := 60, locals := 40 } (va_Pc [.ref (ad b), .int (nI N), .ref mi] (sPm Z nT nK cT cK ad g q mi)) (sQn Z nT nK cT cK ad g q N (fun j => if j < n then (q b j).map ad else none)) 1 60 (sy_A Z) := by
  refine Met.ofW (cc := cJ7_copyOf_6403c) (maxL := 4) (ret := (some (.array (.object "java/lang/Object")))) (by decide) rfl ?_
  intro p e s m args below meth c s₁ B hml hv
  obtain ⟨rfl, ⟨hE, hP⟩, hM⟩ := hv
  have hx := B.exec
  have hb := B.bytes
  have hr := B.returns
  have hts := atoms_spec (ws := uW (.code yJ7_copyOf_6403c cJ7_copyOf_6403c 4 (some (.array (.object "java/lang/Object"))))) B.pre
  have hown : s.vm.findClass RJ7 = some m.cls := findClass_of_methodNamed B.named
  have hlocks := B.notSynchronized
  have hS : va_S (sy_A Z) s.heap s.heap [] := va_S.rf
  have hl := lv_entry ([.ref (ad b), .int (nI N), .ref mi]) (n := 4) (Nat.le_of_ble_eq_true rfl)
  rw [lg_entry_eq]
  generalize (lg_sl ([.ref (ad b), .int (nI N), .ref mi]) ++ List.replicate (4 - (lg_sl ([.ref (ad b), .int (nI N), .ref mi])).length) Slot.unset).toArray = ls at hl ⊢
  have hl : lv_has ls 4 [(0, .ref (ad b)), (1, .int (nI N)), (2, .ref mi)] := hl
  refine lv_aload_n hx hb dJ7_copyOf_6403c_0 rfl (lv_at hl 2 rfl) ?_
  refine va_ldcM hx hb hown (hts _ (u_in uk_2_170)) hM dJ7_copyOf_6403c_1 ?_
  refine lv_acmp_ne (rx := some mi) (ry := some mi) (tgt := 13) hx hb dJ7_copyOf_6403c_3 (by decide) (fun c9 => absurd rfl c9) (fun _ => ?_)
  refine lv_iload_n hx hb dJ7_copyOf_6403c_6 rfl (lv_at hl 1 rfl) ?_
  refine sy_anew hx hb hown (hts _ (u_in uk_2_172)) hE hP hS (N := N) (nI_pos (by omega)) (nI_clamp (by omega)) (by omega) (Nat.le_of_ble_eq_true rfl) (by show 0 + N ≤ 60; omega) dJ7_copyOf_6403c_7 (fun a H hP hS hN1 => ?_)
  refine lv_goto (tgt := 24) hx hb dJ7_copyOf_6403c_10 (by decide) ?_
  refine lv_astore_n (lv' := [(3, .ref a), (0, .ref (ad b)), (1, .int (nI N)), (2, .ref mi)]) hx hb dJ7_copyOf_6403c_24 rfl hl (by decide) rfl (fun ls hl => ?_)
  refine lv_aload_n hx hb dJ7_copyOf_6403c_25 rfl (lv_at hl 1 rfl) ?_
  refine lv_iconst (v := 0) hx hb dJ7_copyOf_6403c_26 (by decide) ?_
  refine lv_aload_n hx hb dJ7_copyOf_6403c_27 rfl (lv_at hl 0 rfl) ?_
  refine lv_iconst (v := 0) hx hb dJ7_copyOf_6403c_28 (by decide) ?_
  refine lv_aload_n hx hb dJ7_copyOf_6403c_29 rfl (lv_at hl 1 rfl) ?_
  refine sy_alen (kc := 13) (t0 := 2) hx hb hE hP b hkd (by decide) rfl rfl (v := nI n) (congrArg nI hn) dJ7_copyOf_6403c_30 ?_
  refine lv_iload_n hx hb dJ7_copyOf_6403c_31 rfl (lv_at hl 2 rfl) ?_
  refine va_mmin hx hb (hml.trans hl.1.symm) hown (hts _ (u_in uk_2_173)) (hts _ (u_in uk_2_174)) (hts _ (u_in uk_1_17)) (hts _ (u_in uk_2_175)) (Nat.le_of_ble_eq_true rfl) (Nat.le_of_ble_eq_true rfl) (Nat.le_of_ble_eq_true rfl) (by show 0 + N ≤ 60; omega) dJ7_copyOf_6403c_32 ?_
  refine sy_top (y := nI n) (if_neg (fun h => absurd ((nI_ltI (by omega) (by omega)).mp h) (by omega))) ?_
  have hAb : Z.2.2.1 ≤ ad b := hP.2.1 b (by rw [hkd]; decide)
  have hba : ad b ≠ a := hN1.2.1 b (by rw [hkd]; decide)
  have hcb : H[ad b]? = some (vp_cell (Z.2.1 2) (n, .inr (.inr (.inr (.inr (fun j => (q b j).map ad)))))) := by
    have h := hP.1 b (by rw [hkd]; decide)
    rw [hkd, hn] at h
    exact h
  have hPw : va_P Z.1 vwCl [(ad b, .inl (Z.2.1 2, n, .inr (.inr (.inr (.inr (fun j => (q b j).map ad)))))), (a, .inl (Z.2.1 2, N, .inr (.inr (.inr (.inr (fun _ => none))))))] H := by
    intro k x hk
    match k, hk with
    | 0, hk => cases hk; exact hcb
    | 1, hk => cases hk; exact hN1.2.2
  have hDw : va_D (fun x => x = ad b ∨ x = a) [(ad b, .inl (Z.2.1 2, n, .inr (.inr (.inr (.inr (fun j => (q b j).map ad)))))), (a, .inl (Z.2.1 2, N, .inr (.inr (.inr (.inr (fun _ => none))))))] := by
    refine ⟨fun i j x y hi hj hxy => ?_, fun k x hk => ?_⟩
    · match i, j, hi, hj with
      | 0, 0, _, _ => rfl
      | 1, 1, _, _ => rfl
      | 0, 1, hi, hj => cases hi; cases hj; exact absurd hxy hba
      | 1, 0, hi, hj => cases hi; cases hj; exact absurd hxy.symm hba
    · match k, hk with
      | 0, hk => cases hk; exact Or.inl rfl
      | 1, hk => cases hk; exact Or.inr rfl
  have z0 : (0 : Int32).toNatClampNeg = 0 := by decide
  have zn : (nI n).toNatClampNeg = n := nI_clamp (by omega)
  refine va_copyq (C := C) (E1 := "java/lang/Object") hx hb (hml.trans hl.1.symm) hown (hts _ (u_in uk_2_176)) (hts _ (u_in uk_2_178)) (hts _ (u_in uk_2_177)) (hts _ (u_in uk_1_19)) hE.1 hPw hDw (H0 := H) (va_S.rf) 0 1 2 2 rfl rfl rfl rfl (by decide) (by decide) (nI_pos (by omega)) (by rw [z0, zn]; omega) (by rw [z0, zn]; omega) (fun i hi y hy => hrv s H hE hP i (by rw [zn] at hi; exact hi) y (by rw [z0, Nat.zero_add] at hy; exact hy)) (fun comp c0 h1 h2 => ?_) (Nat.le_of_ble_eq_true rfl) (Nat.le_of_ble_eq_true rfl) dJ7_copyOf_6403c_35 (fun H1 locs1 hP1 _ hS1 => ?_)
  · obtain ⟨c1, t1, f1, f2, f3⟩ := Cond.castable_spec (va_Nw.use (A := #[]) rfl (hE.2.2.2.2.2 _ hcn))
    cases f1.symm.trans h2
    cases f2.symm.trans h1
    exact f3
  have k1 : ∀ x, x < H.size → x ≠ ad b → x ≠ a → H1[x]? = H[x]? := fun x h1 h2 h3 => hS1.2.1 x h1 (fun z => z.elim h2 h3)
  have kb : H1[ad b]? = H[ad b]? := ((hP1 0 _ rfl : H1[ad b]? = some (vp_cell (Z.2.1 2) (n, .inr (.inr (.inr (.inr (fun j => (q b j).map ad)))))))).trans hcb.symm
  have hP2 : Sy Z nT nK cT cK ad g q H1 := sy_keep hP fun o ho => by
    by_cases h : ad o = ad b
    · rw [h]; exact kb
    · exact k1 _ ((hP.1 o ho).lt) h (hN1.2.1 o ho)
  have hS2 : va_S (sy_A Z) s.heap H1 locs1 := ⟨Nat.le_trans hS.1 hS1.1, fun x h1 h2 => (k1 x (Nat.lt_of_lt_of_le h1 hS.1) (fun e => h2 (by rw [e]; exact hAb)) (fun e => h2 (by rw [e]; exact hN1.1))).trans (hS.2.1 x h1 h2), fun x hx => (hS1.2.2 x hx).elim (fun e => by rw [e]; exact hAb) (fun e => by rw [e]; exact hN1.1)⟩
  have hN2 : sNew Z nT nK cT cK ad N (fun j => if j < n then (q b j).map ad else none) a H1 := by
    refine ⟨hN1.1, hN1.2.1, ?_⟩
    have h : H1[a]? = some (vp_cell _ _) := hP1 1 _ rfl
    rw [h, z0, zn]
    congr 2
    refine congrArg (fun f => (N, Sum.inr (Sum.inr (Sum.inr (Sum.inr f))))) (funext fun j => ?_)
    unfold va_cpy
    by_cases hj : j < n
    · rw [if_pos ⟨Nat.zero_le _, by omega⟩, if_pos hj, Nat.zero_add, Nat.sub_zero]
    · rw [if_neg (by omega), if_neg hj]
  refine lv_aload_n hx hb dJ7_copyOf_6403c_38 rfl (lv_at hl 0 rfl) ?_
  exact W.widen (Nat.le_of_ble_eq_true rfl) (by show 0 + N ≤ 60; omega) (W.aret hx hb hr (Or.inr ⟨_, rfl⟩) (Or.inr ⟨_, rfl⟩) (fun t ht hW => ⟨⟨(), a, rfl, trivial, ⟨hE.next hS2 ht hW.alike, by rw [ht]; exact hP2⟩, by rw [ht]; exact hN2⟩, hS2.F ht⟩) hS2.2.2 dJ7_copyOf_6403c_39 hlocks)
