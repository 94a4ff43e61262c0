theorem exc_IO : exc "java/lang/IndexOutOfBoundsException" = 1 := by decide
theorem exc_IA : exc "java/lang/IllegalArgumentException" = 2 := by decide
theorem exc_IS : exc "java/lang/IllegalStateException" = 3 := by decide
theorem sy_kd70 {nT nK cT cK : Nat} (h : cT ≠ 0) : sy_kd nT nK cT cK 70 = 13 := by
  unfold sy_kd
  rw [if_pos (by decide), if_pos rfl, if_neg h]
theorem sy_kd71 {nT nK cT cK : Nat} (h : cK ≠ 0) : sy_kd nT nK cT cK 71 = 13 := by
  unfold sy_kd
  rw [if_pos (by decide), if_neg (by decide), if_pos rfl, if_neg h]
theorem ig_in1 {nT nK cT cK k : Nat} {g : sG} (hG : IG nT nK cT cK g) (hk : k < nT) : vp_in (nI k) (sy_ln cT cK 70) := by
  show vp_in (nI k) cT
  have h1 := hG.2.1
  have h2 := hG.2.2.1
  intro h
  rcases h with h | h
  · exact nI_pos (by omega) h
  · rw [nI_clamp (by omega)] at h; omega
theorem ig_in2 {nT nK cT cK k : Nat} {g : sG} (hG : IG nT nK cT cK g) (hk : k < nK) : vp_in (nI k) (sy_ln cT cK 71) := by
  show vp_in (nI k) cK
  have h1 := hG.2.2.2.2.1
  have h2 := hG.2.2.2.2.2.1
  intro h
  rcases h with h | h
  · exact nI_pos (by omega) h
  · rw [nI_clamp (by omega)] at h; omega
def fJ3_checkIndex_8e157 (g : sG) (q : sQ) (x0 x1 : Int32) : Int32 := x0
set_option maxHeartbeats 4000000 in
set_option maxRecDepth 100000 in
theorem mJ3_checkIndex_8e157 (l : Launch) (hfl : l.stackTraces = false) (Z : sZ) (nT nK cT cK : Nat) (ad : Nat → Nat) (g : sG) (q : sQ) (x0 x1 : Int32) (h1 : ¬ x0 < 0) (h2 : x0 < x1) : sMi l Z yJ3_checkIndex_8e157 (uW (.code yJ3_checkIndex_8e157 cJ3_checkIndex_8e157 3 (some .int))) { frames := 0, cells := 0, slots := 0, locals := 0 } [.int x0, .int x1, .null] nT nK cT cK ad g q (fun r g1 q1 => (r, g1, q1) = (fJ3_checkIndex_8e157 g q x0 x1, g, q)) := by
  refine Met.ofW (cc := cJ3_checkIndex_8e157) (maxL := 3) (ret := (some .int)) (by decide) rfl ?_
  intro p e s m args below meth c s₁ B hml hv
  obtain ⟨rfl, hE, hP⟩ := hv
  have hx := B.exec
  have hb := B.bytes
  have hr := B.returns
  have hts := atoms_spec (ws := uW (.code yJ3_checkIndex_8e157 cJ3_checkIndex_8e157 3 (some .int))) B.pre
  have hown : s.vm.findClass RJ3 = some m.cls := findClass_of_methodNamed B.named
  have hlocks := B.notSynchronized
  have hS : va_S (sy_A Z) s.heap s.heap [] := va_S.rf
  have hl := lv_entry ([.int x0, .int x1, .null]) (n := 3) (Nat.le_of_ble_eq_true rfl)
  rw [lg_entry_eq]
  generalize (lg_sl ([.int x0, .int x1, .null]) ++ List.replicate (3 - (lg_sl ([.int x0, .int x1, .null])).length) Slot.unset).toArray = ls at hl ⊢
  have hl : lv_has ls 3 [(0, .int x0), (1, .int x1), (2, .null)] := hl
  refine lv_iload_n hx hb dJ3_checkIndex_8e157_0 rfl (lv_at hl 0 rfl) ?_
  refine lv_if_lt (tgt := 9) hx hb dJ3_checkIndex_8e157_1 (by decide) (fun c9 => absurd c9 h1) (fun _ => ?_)
  refine lv_iload_n hx hb dJ3_checkIndex_8e157_4 rfl (lv_at hl 0 rfl) ?_
  refine lv_iload_n hx hb dJ3_checkIndex_8e157_5 rfl (lv_at hl 1 rfl) ?_
  refine lv_icmp_lt (tgt := 16) hx hb dJ3_checkIndex_8e157_6 (by decide) (fun _ => ?_) (fun c9 => absurd h2 c9)
  refine lv_iload_n hx hb dJ3_checkIndex_8e157_16 rfl (lv_at hl 0 rfl) ?_
  exact (sy_ireti hx hb hr hlocks hE hP hS dJ3_checkIndex_8e157_17 ⟨Nat.le_of_ble_eq_true rfl, Nat.le_of_ble_eq_true rfl⟩ (by unfold fJ3_checkIndex_8e157; rfl))
def fJ15_checkIndex_7cf53 (g : sG) (q : sQ) (x0 x1 : Int32) : Int32 := (fJ3_checkIndex_8e157 g q x0 x1)
set_option maxHeartbeats 4000000 in
set_option maxRecDepth 100000 in
theorem mJ15_checkIndex_7cf53 (l : Launch) (hfl : l.stackTraces = false) (Z : sZ) (nT nK cT cK : Nat) (ad : Nat → Nat) (g : sG) (q : sQ) (x0 x1 : Int32) (h1 : ¬ x0 < 0) (h2 : x0 < x1) : sMi l Z yJ15_checkIndex_7cf53 (uW (.code yJ15_checkIndex_7cf53 cJ15_checkIndex_7cf53 2 (some .int))) { frames := 1, cells := 0, slots := 0, locals := 22 } [.int x0, .int x1] nT nK cT cK ad g q (fun r g1 q1 => (r, g1, q1) = (fJ15_checkIndex_7cf53 g q x0 x1, g, q)) := by
  refine Met.ofW (cc := cJ15_checkIndex_7cf53) (maxL := 2) (ret := (some .int)) (by decide) rfl ?_
  intro p e s m args below meth c s₁ B hml hv
  obtain ⟨rfl, hE, hP⟩ := hv
  have hx := B.exec
  have hb := B.bytes
  have hr := B.returns
  have hts := atoms_spec (ws := uW (.code yJ15_checkIndex_7cf53 cJ15_checkIndex_7cf53 2 (some .int))) B.pre
  have hown : s.vm.findClass RJ15 = some m.cls := findClass_of_methodNamed B.named
  have hlocks := B.notSynchronized
  have hS : va_S (sy_A Z) s.heap s.heap [] := va_S.rf
  have hl := lv_entry ([.int x0, .int x1]) (n := 2) (Nat.le_of_ble_eq_true rfl)
  rw [lg_entry_eq]
  generalize (lg_sl ([.int x0, .int x1]) ++ List.replicate (2 - (lg_sl ([.int x0, .int x1])).length) Slot.unset).toArray = ls at hl ⊢
  have hl : lv_has ls 2 [(0, .int x0), (1, .int x1)] := hl
  refine lv_iload_n hx hb dJ15_checkIndex_7cf53_0 rfl (lv_at hl 0 rfl) ?_
  refine lv_iload_n hx hb dJ15_checkIndex_7cf53_1 rfl (lv_at hl 1 rfl) ?_
  refine lv_null hx hb dJ15_checkIndex_7cf53_2 ?_
  refine sy_ki (sy_rS (As := [.int x0, .int x1, .null]) (rest := []) ⟨hx, hb, hml, hown, hts⟩ hE hP hS (mJ3_checkIndex_8e157 l hfl Z nT nK cT cK ad g q x0 x1 h1 h2) (va_cwS 3 hts (gu_S uk_3_23 uk_3_24 uk_1_21 uk_3_25) rfl rfl rfl (by decide +kernel) ⟨Nat.le_of_ble_eq_true rfl, Nat.le_of_ble_eq_true rfl⟩) rfl hl.1 rfl (Nat.le_of_ble_eq_true rfl) dJ15_checkIndex_7cf53_3 ⟨Nat.le_of_ble_eq_true rfl, Nat.le_of_ble_eq_true rfl⟩) hS (fun r_e_1 g_e_1 q_e_1 H locs e_1 hP hS => ?_)
  cases e_1
  exact (sy_ireti hx hb hr hlocks hE hP hS dJ15_checkIndex_7cf53_6 ⟨Nat.le_of_ble_eq_true rfl, Nat.le_of_ble_eq_true rfl⟩ (by unfold fJ15_checkIndex_7cf53; rfl))
def fJx4a65c_size_8abf5T (g : sG) (q : sQ)  : Int32 := (g 61 2)
set_option maxHeartbeats 4000000 in
set_option maxRecDepth 100000 in
theorem mJx4a65c_size_8abf5T (l : Launch) (hfl : l.stackTraces = false) (Z : sZ) (nT nK cT cK : Nat) (ad : Nat → Nat) (g : sG) (q : sQ)   : sMi l Z yJx4a65c_size_8abf5 (uW (.code yJx4a65c_size_8abf5 cJx4a65c_size_8abf5 1 (some .int))) { frames := 0, cells := 0, slots := 0, locals := 0 } [.ref (ad 61)] nT nK cT cK ad g q (fun r g1 q1 => (r, g1, q1) = (fJx4a65c_size_8abf5T g q, g, q)) := by
  refine Met.ofW (cc := cJx4a65c_size_8abf5) (maxL := 1) (ret := (some .int)) (by decide) rfl ?_
  intro p e s m args below meth c s₁ B hml hv
  obtain ⟨rfl, hE, hP⟩ := hv
  have hx := B.exec
  have hb := B.bytes
  have hr := B.returns
  have hts := atoms_spec (ws := uW (.code yJx4a65c_size_8abf5 cJx4a65c_size_8abf5 1 (some .int))) B.pre
  have hown : s.vm.findClass RJx4a65c = some m.cls := findClass_of_methodNamed B.named
  have hlocks := B.notSynchronized
  have hS : va_S (sy_A Z) s.heap s.heap [] := va_S.rf
  have hl := lv_entry ([.ref (ad 61)]) (n := 1) (Nat.le_of_ble_eq_true rfl)
  rw [lg_entry_eq]
  generalize (lg_sl ([.ref (ad 61)]) ++ List.replicate (1 - (lg_sl ([.ref (ad 61)])).length) Slot.unset).toArray = ls at hl ⊢
  have hl : lv_has ls 1 [(0, .ref (ad 61))] := hl
  refine lv_aload_n hx hb dJx4a65c_size_8abf5_0 rfl (lv_at hl 0 rfl) ?_
  refine sy_getRJx4a65c hx hb hts hown hE hP 61 rfl 2 (by decide) (hts _ (u_in uk_1_46)) (v := .int (g 61 2)) rfl dJx4a65c_size_8abf5_1 ?_
  exact (sy_ireti hx hb hr hlocks hE hP hS dJx4a65c_size_8abf5_4 ⟨Nat.le_of_ble_eq_true rfl, Nat.le_of_ble_eq_true rfl⟩ (by unfold fJx4a65c_size_8abf5T; rfl))
set_option maxHeartbeats 4000000 in
set_option maxRecDepth 100000 in
theorem mJx4a65c_elementData_915e3T (l : Launch) (hfl : l.stackTraces = false) (Z : sZ) (nT nK cT cK : Nat) (ad : Nat → Nat) (g : sG) (q : sQ) (k : Nat) (hG : IG nT nK cT cK g) (hQ : IQ nT nK q) (hk : k < nT) : sMr l Z yJx4a65c_elementData_915e3 (uW (.code yJx4a65c_elementData_915e3 cJx4a65c_elementData_915e3 2 (some (.object "java/lang/Object")))) { frames := 0, cells := 0, slots := 0, locals := 0 } [.ref (ad 61), .int (nI k)] nT nK cT cK ad g q (fun o1 => o1 = 100 + k) := by
  refine Met.ofW (cc := cJx4a65c_elementData_915e3) (maxL := 2) (ret := (some (.object "java/lang/Object"))) (by decide) rfl ?_
  intro p e s m args below meth c s₁ B hml hv
  obtain ⟨rfl, hE, hP⟩ := hv
  have hx := B.exec
  have hb := B.bytes
  have hr := B.returns
  have hts := atoms_spec (ws := uW (.code yJx4a65c_elementData_915e3 cJx4a65c_elementData_915e3 2 (some (.object "java/lang/Object")))) B.pre
  have hown : s.vm.findClass RJx4a65c = some m.cls := findClass_of_methodNamed B.named
  have hlocks := B.notSynchronized
  have hS : va_S (sy_A Z) s.heap s.heap [] := va_S.rf
  have hl := lv_entry ([.ref (ad 61), .int (nI k)]) (n := 2) (Nat.le_of_ble_eq_true rfl)
  rw [lg_entry_eq]
  generalize (lg_sl ([.ref (ad 61), .int (nI k)]) ++ List.replicate (2 - (lg_sl ([.ref (ad 61), .int (nI k)])).length) Slot.unset).toArray = ls at hl ⊢
  have hl : lv_has ls 2 [(0, .ref (ad 61)), (1, .int (nI k))] := hl
  refine lv_aload_n hx hb dJx4a65c_elementData_915e3_0 rfl (lv_at hl 0 rfl) ?_
  refine sy_getRJx4a65c hx hb hts hown hE hP 61 rfl 1 (by decide) (hts _ (u_in uk_1_45)) (v := .ref (ad 70)) rfl dJx4a65c_elementData_915e3_1 ?_
  refine lv_iload_n hx hb dJx4a65c_elementData_915e3_4 rfl (lv_at hl 1 rfl) ?_
  refine sy_aald hx hb hE hP 70 13 2 (sy_kd70 (by have := hG.2.2.1; omega)) (by decide) rfl rfl (ig_in1 hG hk) (100 + k) (by rw [nI_clamp (by have := hG.2.1; have := hG.2.2.2.2.1; omega)]; exact hQ.1 k hk) dJx4a65c_elementData_915e3_5 ?_
  exact (sy_aret (o := (100 + k)) hx hb hr hlocks hE hP hS dJx4a65c_elementData_915e3_6 ⟨Nat.le_of_ble_eq_true rfl, Nat.le_of_ble_eq_true rfl⟩ rfl)
set_option maxHeartbeats 4000000 in
set_option maxRecDepth 100000 in
theorem mJx4a65c_get_915e3T (l : Launch) (hfl : l.stackTraces = false) (Z : sZ) (nT nK cT cK : Nat) (ad : Nat → Nat) (g : sG) (q : sQ) (k : Nat) (hG : IG nT nK cT cK g) (hQ : IQ nT nK q) (hk : k < nT) : sMr l Z yJx4a65c_get_915e3 (uW (.code yJx4a65c_get_915e3 cJx4a65c_get_915e3 2 (some (.object "java/lang/Object")))) { frames := 2, cells := 0, slots := 0, locals := 43 } [.ref (ad 61), .int (nI k)] nT nK cT cK ad g q (fun o1 => o1 = 100 + k) := by
  refine Met.ofW (cc := cJx4a65c_get_915e3) (maxL := 2) (ret := (some (.object "java/lang/Object"))) (by decide) rfl ?_
  intro p e s m args below meth c s₁ B hml hv
  obtain ⟨rfl, hE, hP⟩ := hv
  have hx := B.exec
  have hb := B.bytes
  have hr := B.returns
  have hts := atoms_spec (ws := uW (.code yJx4a65c_get_915e3 cJx4a65c_get_915e3 2 (some (.object "java/lang/Object")))) B.pre
  have hown : s.vm.findClass RJx4a65c = some m.cls := findClass_of_methodNamed B.named
  have hlocks := B.notSynchronized
  have hS : va_S (sy_A Z) s.heap s.heap [] := va_S.rf
  have hl := lv_entry ([.ref (ad 61), .int (nI k)]) (n := 2) (Nat.le_of_ble_eq_true rfl)
  rw [lg_entry_eq]
  generalize (lg_sl ([.ref (ad 61), .int (nI k)]) ++ List.replicate (2 - (lg_sl ([.ref (ad 61), .int (nI k)])).length) Slot.unset).toArray = ls at hl ⊢
  have hl : lv_has ls 2 [(0, .ref (ad 61)), (1, .int (nI k))] := hl
  refine lv_iload_n hx hb dJx4a65c_get_915e3_0 rfl (lv_at hl 1 rfl) ?_
  refine lv_aload_n hx hb dJx4a65c_get_915e3_1 rfl (lv_at hl 0 rfl) ?_
  refine sy_getRJx4a65c hx hb hts hown hE hP 61 rfl 2 (by decide) (hts _ (u_in uk_1_46)) (v := .int (g 61 2)) rfl dJx4a65c_get_915e3_2 ?_
  refine sy_ki (sy_rS (As := [.int (nI k), .int (g 61 2)]) (rest := []) ⟨hx, hb, hml, hown, hts⟩ hE hP hS (mJ15_checkIndex_7cf53 l hfl Z nT nK cT cK ad g q (nI k) (g 61 2) (nI_pos (by have := hG.2.1; have := hG.2.2.2.2.1; omega)) (by rw [hG.1]; exact (nI_ltI (by have := hG.2.1; have := hG.2.2.2.2.1; omega) (by have := hG.2.1; have := hG.2.2.2.2.1; omega)).mpr hk)) (va_cwS 2 hts (gu_S uk_3_20 uk_3_21 uk_1_20 uk_3_22) rfl rfl rfl (by decide +kernel) ⟨Nat.le_of_ble_eq_true rfl, Nat.le_of_ble_eq_true rfl⟩) rfl hl.1 rfl (Nat.le_of_ble_eq_true rfl) dJx4a65c_get_915e3_5 ⟨Nat.le_of_ble_eq_true rfl, Nat.le_of_ble_eq_true rfl⟩) hS (fun r_e_1 g_e_1 q_e_1 H locs e_1 hP hS => ?_)
  cases e_1
  refine lv_pop hx hb dJx4a65c_get_915e3_8 rfl ?_
  refine lv_aload_n hx hb dJx4a65c_get_915e3_9 rfl (lv_at hl 0 rfl) ?_
  refine lv_iload_n hx hb dJx4a65c_get_915e3_10 rfl (lv_at hl 1 rfl) ?_
  refine sy_kr (sy_rV (o := 61) (As := [.int (nI k)]) (rest := []) ⟨hx, hb, hml, hown, hts⟩ hE hP hS (mJx4a65c_elementData_915e3T l hfl Z nT nK cT cK ad g q k hG hQ hk) (cwV 1 hts (gu_V uk_3_26 uk_3_27 uk_3_28 uk_1_4 uk_3_29) rfl rfl rfl (by decide +kernel) ⟨Nat.le_of_ble_eq_true rfl, Nat.le_of_ble_eq_true rfl⟩) (sy_recv (kc := 0) hE hP rfl (by decide) rfl rfl rfl) rfl hl.1 rfl (Nat.le_of_ble_eq_true rfl) dJx4a65c_get_915e3_11 ⟨Nat.le_of_ble_eq_true rfl, Nat.le_of_ble_eq_true rfl⟩) hS (fun o_e_2 H locs e_2 hP hS => ?_)
  subst e_2
  exact (sy_aret (o := (100 + k)) hx hb hr hlocks hE hP hS dJx4a65c_get_915e3_14 ⟨Nat.le_of_ble_eq_true rfl, Nat.le_of_ble_eq_true rfl⟩ rfl)
def fJx4a65c_size_8abf5K (g : sG) (q : sQ)  : Int32 := (g 62 2)
set_option maxHeartbeats 4000000 in
set_option maxRecDepth 100000 in
theorem mJx4a65c_size_8abf5K (l : Launch) (hfl : l.stackTraces = false) (Z : sZ) (nT nK cT cK : Nat) (ad : Nat → Nat) (g : sG) (q : sQ)   : sMi l Z yJx4a65c_size_8abf5 (uW (.code yJx4a65c_size_8abf5 cJx4a65c_size_8abf5 1 (some .int))) { frames := 0, cells := 0, slots := 0, locals := 0 } [.ref (ad 62)] nT nK cT cK ad g q (fun r g1 q1 => (r, g1, q1) = (fJx4a65c_size_8abf5K g q, g, q)) := by
  refine Met.ofW (cc := cJx4a65c_size_8abf5) (maxL := 1) (ret := (some .int)) (by decide) rfl ?_
  intro p e s m args below meth c s₁ B hml hv
  obtain ⟨rfl, hE, hP⟩ := hv
  have hx := B.exec
  have hb := B.bytes
  have hr := B.returns
  have hts := atoms_spec (ws := uW (.code yJx4a65c_size_8abf5 cJx4a65c_size_8abf5 1 (some .int))) B.pre
  have hown : s.vm.findClass RJx4a65c = some m.cls := findClass_of_methodNamed B.named
  have hlocks := B.notSynchronized
  have hS : va_S (sy_A Z) s.heap s.heap [] := va_S.rf
  have hl := lv_entry ([.ref (ad 62)]) (n := 1) (Nat.le_of_ble_eq_true rfl)
  rw [lg_entry_eq]
  generalize (lg_sl ([.ref (ad 62)]) ++ List.replicate (1 - (lg_sl ([.ref (ad 62)])).length) Slot.unset).toArray = ls at hl ⊢
  have hl : lv_has ls 1 [(0, .ref (ad 62))] := hl
  refine lv_aload_n hx hb dJx4a65c_size_8abf5_0 rfl (lv_at hl 0 rfl) ?_
  refine sy_getRJx4a65c hx hb hts hown hE hP 62 rfl 2 (by decide) (hts _ (u_in uk_1_46)) (v := .int (g 62 2)) rfl dJx4a65c_size_8abf5_1 ?_
  exact (sy_ireti hx hb hr hlocks hE hP hS dJx4a65c_size_8abf5_4 ⟨Nat.le_of_ble_eq_true rfl, Nat.le_of_ble_eq_true rfl⟩ (by unfold fJx4a65c_size_8abf5K; rfl))
set_option maxHeartbeats 4000000 in
set_option maxRecDepth 100000 in
theorem mJx4a65c_elementData_915e3K (l : Launch) (hfl : l.stackTraces = false) (Z : sZ) (nT nK cT cK : Nat) (ad : Nat → Nat) (g : sG) (q : sQ) (k : Nat) (hG : IG nT nK cT cK g) (hQ : IQ nT nK q) (hk : k < nK) : sMr l Z yJx4a65c_elementData_915e3 (uW (.code yJx4a65c_elementData_915e3 cJx4a65c_elementData_915e3 2 (some (.object "java/lang/Object")))) { frames := 0, cells := 0, slots := 0, locals := 0 } [.ref (ad 62), .int (nI k)] nT nK cT cK ad g q (fun o1 => o1 = 200 + k) := by
  refine Met.ofW (cc := cJx4a65c_elementData_915e3) (maxL := 2) (ret := (some (.object "java/lang/Object"))) (by decide) rfl ?_
  intro p e s m args below meth c s₁ B hml hv
  obtain ⟨rfl, hE, hP⟩ := hv
  have hx := B.exec
  have hb := B.bytes
  have hr := B.returns
  have hts := atoms_spec (ws := uW (.code yJx4a65c_elementData_915e3 cJx4a65c_elementData_915e3 2 (some (.object "java/lang/Object")))) B.pre
  have hown : s.vm.findClass RJx4a65c = some m.cls := findClass_of_methodNamed B.named
  have hlocks := B.notSynchronized
  have hS : va_S (sy_A Z) s.heap s.heap [] := va_S.rf
  have hl := lv_entry ([.ref (ad 62), .int (nI k)]) (n := 2) (Nat.le_of_ble_eq_true rfl)
  rw [lg_entry_eq]
  generalize (lg_sl ([.ref (ad 62), .int (nI k)]) ++ List.replicate (2 - (lg_sl ([.ref (ad 62), .int (nI k)])).length) Slot.unset).toArray = ls at hl ⊢
  have hl : lv_has ls 2 [(0, .ref (ad 62)), (1, .int (nI k))] := hl
  refine lv_aload_n hx hb dJx4a65c_elementData_915e3_0 rfl (lv_at hl 0 rfl) ?_
  refine sy_getRJx4a65c hx hb hts hown hE hP 62 rfl 1 (by decide) (hts _ (u_in uk_1_45)) (v := .ref (ad 71)) rfl dJx4a65c_elementData_915e3_1 ?_
  refine lv_iload_n hx hb dJx4a65c_elementData_915e3_4 rfl (lv_at hl 1 rfl) ?_
  refine sy_aald hx hb hE hP 71 13 2 (sy_kd71 (by have := hG.2.2.2.2.2.1; omega)) (by decide) rfl rfl (ig_in2 hG hk) (200 + k) (by rw [nI_clamp (by have := hG.2.1; have := hG.2.2.2.2.1; omega)]; exact hQ.2.1 k hk) dJx4a65c_elementData_915e3_5 ?_
  exact (sy_aret (o := (200 + k)) hx hb hr hlocks hE hP hS dJx4a65c_elementData_915e3_6 ⟨Nat.le_of_ble_eq_true rfl, Nat.le_of_ble_eq_true rfl⟩ rfl)
set_option maxHeartbeats 4000000 in
set_option maxRecDepth 100000 in
theorem mJx4a65c_get_915e3K (l : Launch) (hfl : l.stackTraces = false) (Z : sZ) (nT nK cT cK : Nat) (ad : Nat → Nat) (g : sG) (q : sQ) (k : Nat) (hG : IG nT nK cT cK g) (hQ : IQ nT nK q) (hk : k < nK) : sMr l Z yJx4a65c_get_915e3 (uW (.code yJx4a65c_get_915e3 cJx4a65c_get_915e3 2 (some (.object "java/lang/Object")))) { frames := 2, cells := 0, slots := 0, locals := 43 } [.ref (ad 62), .int (nI k)] nT nK cT cK ad g q (fun o1 => o1 = 200 + k) := by
  refine Met.ofW (cc := cJx4a65c_get_915e3) (maxL := 2) (ret := (some (.object "java/lang/Object"))) (by decide) rfl ?_
  intro p e s m args below meth c s₁ B hml hv
  obtain ⟨rfl, hE, hP⟩ := hv
  have hx := B.exec
  have hb := B.bytes
  have hr := B.returns
  have hts := atoms_spec (ws := uW (.code yJx4a65c_get_915e3 cJx4a65c_get_915e3 2 (some (.object "java/lang/Object")))) B.pre
  have hown : s.vm.findClass RJx4a65c = some m.cls := findClass_of_methodNamed B.named
  have hlocks := B.notSynchronized
  have hS : va_S (sy_A Z) s.heap s.heap [] := va_S.rf
  have hl := lv_entry ([.ref (ad 62), .int (nI k)]) (n := 2) (Nat.le_of_ble_eq_true rfl)
  rw [lg_entry_eq]
  generalize (lg_sl ([.ref (ad 62), .int (nI k)]) ++ List.replicate (2 - (lg_sl ([.ref (ad 62), .int (nI k)])).length) Slot.unset).toArray = ls at hl ⊢
  have hl : lv_has ls 2 [(0, .ref (ad 62)), (1, .int (nI k))] := hl
  refine lv_iload_n hx hb dJx4a65c_get_915e3_0 rfl (lv_at hl 1 rfl) ?_
  refine lv_aload_n hx hb dJx4a65c_get_915e3_1 rfl (lv_at hl 0 rfl) ?_
  refine sy_getRJx4a65c hx hb hts hown hE hP 62 rfl 2 (by decide) (hts _ (u_in uk_1_46)) (v := .int (g 62 2)) rfl dJx4a65c_get_915e3_2 ?_
  refine sy_ki (sy_rS (As := [.int (nI k), .int (g 62 2)]) (rest := []) ⟨hx, hb, hml, hown, hts⟩ hE hP hS (mJ15_checkIndex_7cf53 l hfl Z nT nK cT cK ad g q (nI k) (g 62 2) (nI_pos (by have := hG.2.1; have := hG.2.2.2.2.1; omega)) (by rw [hG.2.2.2.1]; exact (nI_ltI (by have := hG.2.1; have := hG.2.2.2.2.1; omega) (by have := hG.2.1; have := hG.2.2.2.2.1; omega)).mpr hk)) (va_cwS 2 hts (gu_S uk_3_20 uk_3_21 uk_1_20 uk_3_22) rfl rfl rfl (by decide +kernel) ⟨Nat.le_of_ble_eq_true rfl, Nat.le_of_ble_eq_true rfl⟩) rfl hl.1 rfl (Nat.le_of_ble_eq_true rfl) dJx4a65c_get_915e3_5 ⟨Nat.le_of_ble_eq_true rfl, Nat.le_of_ble_eq_true rfl⟩) hS (fun r_e_1 g_e_1 q_e_1 H locs e_1 hP hS => ?_)
  cases e_1
  refine lv_pop hx hb dJx4a65c_get_915e3_8 rfl ?_
  refine lv_aload_n hx hb dJx4a65c_get_915e3_9 rfl (lv_at hl 0 rfl) ?_
  refine lv_iload_n hx hb dJx4a65c_get_915e3_10 rfl (lv_at hl 1 rfl) ?_
  refine sy_kr (sy_rV (o := 62) (As := [.int (nI k)]) (rest := []) ⟨hx, hb, hml, hown, hts⟩ hE hP hS (mJx4a65c_elementData_915e3K l hfl Z nT nK cT cK ad g q k hG hQ hk) (cwV 1 hts (gu_V uk_3_26 uk_3_27 uk_3_28 uk_1_4 uk_3_29) rfl rfl rfl (by decide +kernel) ⟨Nat.le_of_ble_eq_true rfl, Nat.le_of_ble_eq_true rfl⟩) (sy_recv (kc := 0) hE hP rfl (by decide) rfl rfl rfl) rfl hl.1 rfl (Nat.le_of_ble_eq_true rfl) dJx4a65c_get_915e3_11 ⟨Nat.le_of_ble_eq_true rfl, Nat.le_of_ble_eq_true rfl⟩) hS (fun o_e_2 H locs e_2 hP hS => ?_)
  subst e_2
  exact (sy_aret (o := (200 + k)) hx hb hr hlocks hE hP hS dJx4a65c_get_915e3_14 ⟨Nat.le_of_ble_eq_true rfl, Nat.le_of_ble_eq_true rfl⟩ rfl)
