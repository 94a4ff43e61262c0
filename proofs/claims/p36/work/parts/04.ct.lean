/-! CONTRACTS over the system's world. sMi, sMv, sMr: a method that returns an int (a boolean), nothing, an object of the world; sXi, sXv, sXr: one that returns so or throws (the world as it was then) -/
def sPre (Z : sZ) (nT nK cT cK : Nat) (ad : Nat → Nat) (g : sG) (q : sQ) : State → Prop := fun U => sEnv Z U ∧ Sy Z nT nK cT cK ad g q U.heap
theorem sPre_blind {Z : sZ} {nT nK cT cK : Nat} {ad : Nat → Nat} {g : sG} {q : sQ} (av : List Value) : FrameBlind (va_Pc av (sPre Z nT nK cT cK ad g q)) := fun _ _ _ _ h => ⟨h.1, sEnv.next h.2.1 va_S.rf rfl (Vm.Alike.refl _), h.2.2⟩
abbrev sQi (Z : sZ) (nT nK cT cK : Nat) (ad : Nat → Nat) (post : Int32 → sG → sQ → Prop) : Array Value → State → Outcome → State → Prop := va_Qi (fun (r : Int32) (u : sG × sQ) => post r u.1 u.2) (fun u t => sEnv Z t ∧ Sy Z nT nK cT cK ad u.1 u.2 t.heap) (sy_A Z)
abbrev sQv (Z : sZ) (nT nK cT cK : Nat) (ad : Nat → Nat) (post : sG → sQ → Prop) : Array Value → State → Outcome → State → Prop := va_Qv (fun (u : sG × sQ) => post u.1 u.2) (fun u t => sEnv Z t ∧ Sy Z nT nK cT cK ad u.1 u.2 t.heap) (sy_A Z)
abbrev sQr (Z : sZ) (nT nK cT cK : Nat) (ad : Nat → Nat) (g : sG) (q : sQ) (post : Nat → Prop) : Array Value → State → Outcome → State → Prop := va_Qr (fun (u : Nat) => post u) (fun u ra t => ra = ad u ∧ sEnv Z t ∧ Sy Z nT nK cT cK ad g q t.heap) (sy_A Z)
abbrev sQx (Z : sZ) (nT nK cT cK : Nat) (ad : Nat → Nat) (g : sG) (q : sQ) (px : String → Prop) : String → State → State → Prop := vx_X (fun u : String => px u) (fun E u t => E = u ∧ sEnv Z t ∧ Sy Z nT nK cT cK ad g q t.heap) (sy_A Z)
def sMi (l : Launch) (Z : sZ) (y : MethodName) (ws : List Cond) (rm : Room) (av : List Value) (nT nK cT cK : Nat) (ad : Nat → Nat) (g : sG) (q : sQ) (post : Int32 → sG → sQ → Prop) : Prop := Met l y ws rm (va_Pc av (sPre Z nT nK cT cK ad g q)) (sQi Z nT nK cT cK ad post) rm.cells rm.slots (sy_A Z)
def sMv (l : Launch) (Z : sZ) (y : MethodName) (ws : List Cond) (rm : Room) (av : List Value) (nT nK cT cK : Nat) (ad : Nat → Nat) (g : sG) (q : sQ) (post : sG → sQ → Prop) : Prop := Met l y ws rm (va_Pc av (sPre Z nT nK cT cK ad g q)) (sQv Z nT nK cT cK ad post) rm.cells rm.slots (sy_A Z)
def sMr (l : Launch) (Z : sZ) (y : MethodName) (ws : List Cond) (rm : Room) (av : List Value) (nT nK cT cK : Nat) (ad : Nat → Nat) (g : sG) (q : sQ) (post : Nat → Prop) : Prop := Met l y ws rm (va_Pc av (sPre Z nT nK cT cK ad g q)) (sQr Z nT nK cT cK ad g q post) rm.cells rm.slots (sy_A Z)
def sXi (l : Launch) (Z : sZ) (y : MethodName) (ws : List Cond) (rm : Room) (av : List Value) (nT nK cT cK : Nat) (ad : Nat → Nat) (g : sG) (q : sQ) (post : Int32 → sG → sQ → Prop) (px : String → Prop) : Prop := vx_Met l y ws rm (va_Pc av (sPre Z nT nK cT cK ad g q)) (sQi Z nT nK cT cK ad post) (sQx Z nT nK cT cK ad g q px) rm.cells rm.slots (sy_A Z)
def sXv (l : Launch) (Z : sZ) (y : MethodName) (ws : List Cond) (rm : Room) (av : List Value) (nT nK cT cK : Nat) (ad : Nat → Nat) (g : sG) (q : sQ) (post : sG → sQ → Prop) (px : String → Prop) : Prop := vx_Met l y ws rm (va_Pc av (sPre Z nT nK cT cK ad g q)) (sQv Z nT nK cT cK ad post) (sQx Z nT nK cT cK ad g q px) rm.cells rm.slots (sy_A Z)
def sXr (l : Launch) (Z : sZ) (y : MethodName) (ws : List Cond) (rm : Room) (av : List Value) (nT nK cT cK : Nat) (ad : Nat → Nat) (g : sG) (q : sQ) (post : Nat → Prop) (px : String → Prop) : Prop := vx_Met l y ws rm (va_Pc av (sPre Z nT nK cT cK ad g q)) (sQr Z nT nK cT cK ad g q post) (sQx Z nT nK cT cK ad g q px) rm.cells rm.slots (sy_A Z)
/-- the words that every method may use -/
def wsU : List Cond := lw_tbl.filter goodWord
theorem uq_0 {i : Nat} {w : Cond} (h : (k2_sels lw_privs)[i]? = some w) (g : goodWord w = true) : w ∈ wsU := List.mem_filter.mpr ⟨List.mem_append_left _ (List.mem_of_getElem? h), g⟩
theorem uq_1 {i : Nat} {w : Cond} (h : tables_1_1[i]? = some w) (g : goodWord w = true) : w ∈ wsU := List.mem_filter.mpr ⟨List.mem_append_right _ (List.mem_append_left _ (List.mem_of_getElem? h)), g⟩
theorem uq_2 {i : Nat} {w : Cond} (h : tables_1_2[i]? = some w) (g : goodWord w = true) : w ∈ wsU := List.mem_filter.mpr ⟨List.mem_append_right _ (List.mem_append_right _ (List.mem_append_left _ (List.mem_of_getElem? h))), g⟩
theorem uq_3 {i : Nat} {w : Cond} (h : tables_1_3[i]? = some w) (g : goodWord w = true) : w ∈ wsU := List.mem_filter.mpr ⟨List.mem_append_right _ (List.mem_append_right _ (List.mem_append_right _ (List.mem_append_left _ (List.mem_of_getElem? h)))), g⟩
theorem uq_4 {i : Nat} {w : Cond} (h : tables_1_4[i]? = some w) (g : goodWord w = true) : w ∈ wsU := List.mem_filter.mpr ⟨List.mem_append_right _ (List.mem_append_right _ (List.mem_append_right _ (List.mem_append_right _ (List.mem_of_getElem? h)))), g⟩
theorem wsU_good {w : Cond} (h : w ∈ wsU) : goodWord w = true := (List.mem_filter.mp h).2
abbrev uW (c0 : Cond) : List Cond := c0 :: wsU
theorem u_in {w c0 : Cond} (h : w ∈ wsU) : w ∈ uW c0 := List.mem_cons_of_mem _ h
theorem gu_all {c0 c1 : Cond} (h : c1 ∈ wsU) : GoodIn (uW c0) (uW c1) := fun w hw => by
  rcases List.mem_cons.mp hw with e | e
  · subst e
    exact ⟨u_in h, good_of_word (wsU_good h)⟩
  · exact ⟨u_in e, good_of_word (wsU_good e)⟩
theorem gu_app {c0 c1 : Cond} {a : List Cond} (ha : ∀ w ∈ a, w ∈ wsU) (h : c1 ∈ wsU) : GoodIn (uW c0) (a ++ uW c1) := fun w hw => by
  rcases List.mem_append.mp hw with e | e
  · exact ⟨u_in (ha w e), good_of_word (wsU_good (ha w e))⟩
  · exact gu_all h w e
theorem gu_V {c0 c1 : Cond} {own C : String} {idx : Nat} {y : MethodName} (h1 : Cond.methodLink own idx y ∈ wsU) (h2 : Cond.instanceMethod y ∈ wsU) (h3 : Cond.selects C y y ∈ wsU) (h4 : Cond.initialized C ∈ wsU) (h5 : c1 ∈ wsU) : GoodIn (uW c0) (wsV own idx C y (uW c1)) :=
  gu_app (List.forall_mem_cons.mpr ⟨h1, List.forall_mem_cons.mpr ⟨h2, List.forall_mem_cons.mpr ⟨h3, List.forall_mem_cons.mpr ⟨h4, fun _ h => absurd h List.not_mem_nil⟩⟩⟩⟩) h5
theorem gu_S {c0 c1 : Cond} {own : String} {idx : Nat} {y : MethodName} (h1 : Cond.methodLink own idx y ∈ wsU) (h2 : Cond.static y ∈ wsU) (h4 : Cond.initialized y.cls ∈ wsU) (h5 : c1 ∈ wsU) : GoodIn (uW c0) (va_wsS own idx y (uW c1)) :=
  gu_app (List.forall_mem_cons.mpr ⟨h1, List.forall_mem_cons.mpr ⟨h2, List.forall_mem_cons.mpr ⟨h4, fun _ h => absurd h List.not_mem_nil⟩⟩⟩) h5
section SCT
variable {p : Program} {l : Launch} {e : Env} {R : Room} {s : State} {m : MethodId} {args : Array Value} {below : List Frame} {meth : Method} {c : Code} {H : Heap} {locs : List Loc} {cells slots : Nat} {Q : State → Prop}
variable {cc : ByteArray} {pc : Nat} {ls : Array Slot} {rest st0 : List Value} {Z : sZ} {nT nK cT cK : Nat} {ad : Nat → Nat} {g g0 : sG} {q q0 : sQ}
variable {y : MethodName} {bytes : ByteArray} {maxL nL n index : Nat} {ret : Option FieldType} {ws : List Cond} {rm : Room} {Ts : List Cond} {own C : String} {As : List Value} {o kc ci : Nat} {fs : List Value} {vq : vw_C} {a : Array Value}
theorem sy_recv (hE : sEnv Z s) (hP : Sy Z nT nK cT cK ad g q H) (hkd : sy_kd nT nK cT cK o = kc) (h9 : kc < 99) (he : sy_ent Z.2.1 ad o (sy_ln cT cK o) kc (g o) (q o) = .inr (ci, fs)) (hc : vwCl[ci]? = some vq) (hC : vq.1 = C) : ∃ cell : Cell, H[ad o]? = some cell ∧ cell.vm.isStatics = false ∧ s.vm.findClass C = some cell.cls := by
  subst hC
  exact va_recv hE.1 (sy_one hP hkd h9 he) hc (q0 := 0) rfl
theorem sy_rV {Qc : Array Value → State → Outcome → State → Prop} (S : CallFix p m c cc nL s args Ts own) (hE : sEnv Z s) (hP : Sy Z nT nK cT cK ad g q H) (hS : va_S (sy_A Z) s.heap H locs) (hM : Met l y ws rm (va_Pc (.ref (ad o) :: As) (sPre Z nT nK cT cK ad g q)) Qc rm.cells rm.slots (sy_A Z)) (cw : CallW R s args own C index y bytes maxL ret ws rm rm.cells rm.slots n)
    (hr : ∃ cell : Cell, H[ad o]? = some cell ∧ cell.vm.isStatics = false ∧ s.vm.findClass C = some cell.cls) (hn : As.length = n) (hsize : ls.size = nL) (hstack : st0 = As.reverse ++ .ref (ad o) :: rest) (hW : (rest.map fun v => v.category).sum ≤ 8) (hdg : decode cc pc = .ok (.invokevirtual index, 3)) (hf : cells + rm.cells ≤ R.cells ∧ slots + rm.slots ≤ R.slots) :
    va_Run p l e R s m args below meth c H locs cells slots rm.cells rm.slots (F0 m pc ls st0) rest (Qc (Value.ref (ad o) :: As).toArray) (sy_A Z) :=
  va_runV S hM cw ⟨sPre_blind _, hr, fun U hU hW => ⟨rfl, hE.next hS hU hW.alike, by rw [hU]; exact hP⟩⟩ rfl hn hsize hstack (lv_room hW) hdg hf
theorem sy_rS {Qc : Array Value → State → Outcome → State → Prop} (S : CallFix p m c cc nL s args Ts own) (hE : sEnv Z s) (hP : Sy Z nT nK cT cK ad g q H) (hS : va_S (sy_A Z) s.heap H locs) (hM : Met l y ws rm (va_Pc As (sPre Z nT nK cT cK ad g q)) Qc rm.cells rm.slots (sy_A Z)) (cw : CallB R s args own index y bytes maxL ret ws rm rm.cells rm.slots n ∧ (Cond.static y).before args s = true)
    (hn : As.length = n) (hsize : ls.size = nL) (hstack : st0 = As.reverse ++ rest) (hW : (rest.map fun v => v.category).sum ≤ 8) (hdg : decode cc pc = .ok (.invokestatic index, 3)) (hf : cells + rm.cells ≤ R.cells ∧ slots + rm.slots ≤ R.slots) :
    va_Run p l e R s m args below meth c H locs cells slots rm.cells rm.slots (F0 m pc ls st0) rest (Qc As.toArray) (sy_A Z) :=
  va_runS S hM cw ⟨sPre_blind _, fun U hU hW => ⟨rfl, hE.next hS hU hW.alike, by rw [hU]; exact hP⟩⟩ rfl hn hsize hstack (lv_room hW) hdg hf
theorem sy_xV {Qc : Array Value → State → Outcome → State → Prop} {XC : String → State → State → Prop} (S : CallFix p m c cc nL s args Ts own) (hE : sEnv Z s) (hP : Sy Z nT nK cT cK ad g q H) (hS : va_S (sy_A Z) s.heap H locs) (hM : vx_Met l y ws rm (va_Pc (.ref (ad o) :: As) (sPre Z nT nK cT cK ad g q)) Qc XC rm.cells rm.slots (sy_A Z)) (cw : CallW R s args own C index y bytes maxL ret ws rm rm.cells rm.slots n)
    (hr : ∃ cell : Cell, H[ad o]? = some cell ∧ cell.vm.isStatics = false ∧ s.vm.findClass C = some cell.cls) (hn : As.length = n) (hsize : ls.size = nL) (hstack : st0 = As.reverse ++ .ref (ad o) :: rest) (hW : (rest.map fun v => v.category).sum ≤ 8) (hdg : decode cc pc = .ok (.invokevirtual index, 3)) (hf : cells + rm.cells ≤ R.cells ∧ slots + rm.slots ≤ R.slots) :
    vx_Run p l e R s m args below meth c H locs cells slots rm.cells rm.slots (F0 m pc ls st0) rest (Qc (Value.ref (ad o) :: As).toArray) XC (sy_A Z) :=
  vx_runV S hM cw ⟨sPre_blind _, hr, fun U hU hW => ⟨rfl, hE.next hS hU hW.alike, by rw [hU]; exact hP⟩⟩ rfl hn hsize hstack (lv_room hW) hdg hf
theorem sy_xS {Qc : Array Value → State → Outcome → State → Prop} {XC : String → State → State → Prop} (S : CallFix p m c cc nL s args Ts own) (hE : sEnv Z s) (hP : Sy Z nT nK cT cK ad g q H) (hS : va_S (sy_A Z) s.heap H locs) (hM : vx_Met l y ws rm (va_Pc As (sPre Z nT nK cT cK ad g q)) Qc XC rm.cells rm.slots (sy_A Z)) (cw : CallB R s args own index y bytes maxL ret ws rm rm.cells rm.slots n ∧ (Cond.static y).before args s = true)
    (hn : As.length = n) (hsize : ls.size = nL) (hstack : st0 = As.reverse ++ rest) (hW : (rest.map fun v => v.category).sum ≤ 8) (hdg : decode cc pc = .ok (.invokestatic index, 3)) (hf : cells + rm.cells ≤ R.cells ∧ slots + rm.slots ≤ R.slots) :
    vx_Run p l e R s m args below meth c H locs cells slots rm.cells rm.slots (F0 m pc ls st0) rest (Qc As.toArray) XC (sy_A Z) :=
  vx_runS S hM cw ⟨sPre_blind _, fun U hU hW => ⟨rfl, hE.next hS hU hW.alike, by rw [hU]; exact hP⟩⟩ rfl hn hsize hstack (lv_room hW) hdg hf
variable {mc ms : Nat}
/-- what comes behind a call -/
theorem sy_ki {post : Int32 → sG → sQ → Prop} (hr : va_Run p l e R s m args below meth c H locs cells slots mc ms (F0 m pc ls st0) rest (sQi Z nT nK cT cK ad post a) (sy_A Z)) (hS : va_S (sy_A Z) s.heap H locs)
    (kk : ∀ (r : Int32) (g1 : sG) (q1 : sQ) (H1 : Heap) (locs1 : List Loc), post r g1 q1 → Sy Z nT nK cT cK ad g1 q1 H1 → va_S (sy_A Z) s.heap H1 locs1 → W p l e R s m args below meth c H1 locs1 (cells + mc) (slots + ms) Q (F0 m (pc + 3) ls (.int r :: rest))) : W p l e R s m args below meth c H locs cells slots Q (F0 m pc ls st0) :=
  va_calli hr hS (fun _ _ h => h) (fun _ h => h) (fun r u t H1 locs1 ht _ hp hB _ _ hS1 => kk r u.1 u.2 H1 locs1 hp (by rw [← ht]; exact hB.2) hS1)
theorem sy_kv {post : sG → sQ → Prop} (hr : va_Run p l e R s m args below meth c H locs cells slots mc ms (F0 m pc ls st0) rest (sQv Z nT nK cT cK ad post a) (sy_A Z)) (hS : va_S (sy_A Z) s.heap H locs)
    (kk : ∀ (g1 : sG) (q1 : sQ) (H1 : Heap) (locs1 : List Loc), post g1 q1 → Sy Z nT nK cT cK ad g1 q1 H1 → va_S (sy_A Z) s.heap H1 locs1 → W p l e R s m args below meth c H1 locs1 (cells + mc) (slots + ms) Q (F0 m (pc + 3) ls rest)) : W p l e R s m args below meth c H locs cells slots Q (F0 m pc ls st0) :=
  va_callv hr hS (fun _ _ h => h) (fun _ h => h) (fun u t H1 locs1 ht _ hp hB _ _ hS1 => kk u.1 u.2 H1 locs1 hp (by rw [← ht]; exact hB.2) hS1)
theorem sy_kr {post : Nat → Prop} (hr : va_Run p l e R s m args below meth c H locs cells slots mc ms (F0 m pc ls st0) rest (sQr Z nT nK cT cK ad g q post a) (sy_A Z)) (hS : va_S (sy_A Z) s.heap H locs)
    (kk : ∀ (o1 : Nat) (H1 : Heap) (locs1 : List Loc), post o1 → Sy Z nT nK cT cK ad g q H1 → va_S (sy_A Z) s.heap H1 locs1 → W p l e R s m args below meth c H1 locs1 (cells + mc) (slots + ms) Q (F0 m (pc + 3) ls (.ref (ad o1) :: rest))) : W p l e R s m args below meth c H locs cells slots Q (F0 m pc ls st0) :=
  va_callr hr hS (fun _ _ h => h) (fun _ h => h) (fun u ra t H1 locs1 ht _ hp hB _ _ hS1 => by
    obtain ⟨rfl, -, hB⟩ := hB
    exact kk u H1 locs1 hp (by rw [← ht]; exact hB) hS1)
/-- nothing of this method is caught here: the exception leaves it, and the world is as it was when the method began -/
theorem sy_leave {Qc : Array Value → State → Outcome → State → Prop} {px : String → Prop} {E : String} {ce : Cell} {q9 : Addr} (hno : ∀ x ∈ c.exceptionTable.toList, False) (hlocks : meth.locks = false) (hE : sEnv Z s) (hP : Sy Z nT nK cT cK ad g q H) (hS : va_S (sy_A Z) s.heap H locs) (hpx : px E) (hcell : H[q9]? = some ce) (hv : ce.vm = .none) (hcl : s.vm.findClass E = some ce.cls) (hc : cells ≤ mc) (hs : slots ≤ ms) :
    vx_W p l e R s m args below meth c H locs cells slots (vx_MQ below Qc (sQx Z nT nK cT cK ad g q px) args s mc ms (sy_A Z)) (F0 m pc ls rest) q9 :=
  vx_out (fun x hx => (hno x hx).elim) hlocks hcell hv hcl (fun t ht hvm => ⟨E, hpx, ⟨rfl, hE.next hS ht hvm, by rw [ht]; exact hP⟩, hS.F ht⟩) hS.2.2 hc hs
variable {Qc : Array Value → State → Outcome → State → Prop} {px pxc : String → Prop} {mc0 ms0 : Nat}
theorem sy_xki {post : Int32 → sG → sQ → Prop} (hr : vx_Run p l e R s m args below meth c H locs cells slots mc ms (F0 m pc ls st0) rest (sQi Z nT nK cT cK ad post a) (sQx Z nT nK cT cK ad g q pxc) (sy_A Z)) (hno : ∀ x ∈ c.exceptionTable.toList, False) (hlocks : meth.locks = false) (hE : sEnv Z s) (hS : va_S (sy_A Z) s.heap H locs) (hc : cells + mc ≤ mc0 ∧ slots + ms ≤ ms0) (hpx : ∀ E, pxc E → px E)
    (kk : ∀ (r : Int32) (g1 : sG) (q1 : sQ) (H1 : Heap) (locs1 : List Loc), post r g1 q1 → Sy Z nT nK cT cK ad g1 q1 H1 → va_S (sy_A Z) s.heap H1 locs1 → W p l e R s m args below meth c H1 locs1 (cells + mc) (slots + ms) (vx_MQ below Qc (sQx Z nT nK cT cK ad g q px) args s mc0 ms0 (sy_A Z)) (F0 m (pc + 3) ls (.int r :: rest))) : W p l e R s m args below meth c H locs cells slots (vx_MQ below Qc (sQx Z nT nK cT cK ad g q px) args s mc0 ms0 (sy_A Z)) (F0 m pc ls st0) :=
  vx_calli hr hS (fun _ _ h => h) (fun _ h => h) (fun _ _ h => h) (fun E ce q9 u t H1 locs1 ht _ hpu hB _ _ hS1 hcell hv hcl => by
    obtain ⟨rfl, -, hB⟩ := hB
    exact sy_leave hno hlocks hE (by rw [← ht]; exact hB) hS1 (hpx _ hpu) hcell hv hcl hc.1 hc.2) (fun r u t H1 locs1 ht _ hp hB _ _ hS1 => kk r u.1 u.2 H1 locs1 hp (by rw [← ht]; exact hB.2) hS1)
theorem sy_xkv {post : sG → sQ → Prop} (hr : vx_Run p l e R s m args below meth c H locs cells slots mc ms (F0 m pc ls st0) rest (sQv Z nT nK cT cK ad post a) (sQx Z nT nK cT cK ad g q pxc) (sy_A Z)) (hno : ∀ x ∈ c.exceptionTable.toList, False) (hlocks : meth.locks = false) (hE : sEnv Z s) (hS : va_S (sy_A Z) s.heap H locs) (hc : cells + mc ≤ mc0 ∧ slots + ms ≤ ms0) (hpx : ∀ E, pxc E → px E)
    (kk : ∀ (g1 : sG) (q1 : sQ) (H1 : Heap) (locs1 : List Loc), post g1 q1 → Sy Z nT nK cT cK ad g1 q1 H1 → va_S (sy_A Z) s.heap H1 locs1 → W p l e R s m args below meth c H1 locs1 (cells + mc) (slots + ms) (vx_MQ below Qc (sQx Z nT nK cT cK ad g q px) args s mc0 ms0 (sy_A Z)) (F0 m (pc + 3) ls rest)) : W p l e R s m args below meth c H locs cells slots (vx_MQ below Qc (sQx Z nT nK cT cK ad g q px) args s mc0 ms0 (sy_A Z)) (F0 m pc ls st0) :=
  vx_callv hr hS (fun _ _ h => h) (fun _ h => h) (fun _ _ h => h) (fun E ce q9 u t H1 locs1 ht _ hpu hB _ _ hS1 hcell hv hcl => by
    obtain ⟨rfl, -, hB⟩ := hB
    exact sy_leave hno hlocks hE (by rw [← ht]; exact hB) hS1 (hpx _ hpu) hcell hv hcl hc.1 hc.2) (fun u t H1 locs1 ht _ hp hB _ _ hS1 => kk u.1 u.2 H1 locs1 hp (by rw [← ht]; exact hB.2) hS1)
theorem sy_xkr {post : Nat → Prop} (hr : vx_Run p l e R s m args below meth c H locs cells slots mc ms (F0 m pc ls st0) rest (sQr Z nT nK cT cK ad g q post a) (sQx Z nT nK cT cK ad g q pxc) (sy_A Z)) (hno : ∀ x ∈ c.exceptionTable.toList, False) (hlocks : meth.locks = false) (hE : sEnv Z s) (hS : va_S (sy_A Z) s.heap H locs) (hc : cells + mc ≤ mc0 ∧ slots + ms ≤ ms0) (hpx : ∀ E, pxc E → px E)
    (kk : ∀ (o1 : Nat) (H1 : Heap) (locs1 : List Loc), post o1 → Sy Z nT nK cT cK ad g q H1 → va_S (sy_A Z) s.heap H1 locs1 → W p l e R s m args below meth c H1 locs1 (cells + mc) (slots + ms) (vx_MQ below Qc (sQx Z nT nK cT cK ad g q px) args s mc0 ms0 (sy_A Z)) (F0 m (pc + 3) ls (.ref (ad o1) :: rest))) : W p l e R s m args below meth c H locs cells slots (vx_MQ below Qc (sQx Z nT nK cT cK ad g q px) args s mc0 ms0 (sy_A Z)) (F0 m pc ls st0) := by
  intro T hT X
  rcases hr T hT X with ⟨v, st₀, t, T', L, h0, X', hL, e1, e2, ⟨⟨u, ra, hv, hp, hB⟩, hF⟩, st⟩ | ⟨q9, st₀, t, T', L, E, ce, h0, X', hL, e1, e2, ⟨u, hpu, hB, hF⟩, hce, hcv, hcl, st⟩
  · cases hv
    obtain ⟨rfl, -, hB⟩ := hB
    obtain ⟨k1, k2, k3⟩ := vx_keep h0 e1 hS (fun _ _ h => h) (fun _ h => h) hL hF
    obtain ⟨t2, a1, b1⟩ := kk u T'.heap (locs ++ L) hp (by rw [e1]; exact hB) k3 T' rfl X'
    exact ⟨t2, st t2 a1, b1⟩
  · obtain ⟨rfl, -, hB⟩ := hB
    obtain ⟨k1, k2, k3⟩ := vx_keep h0 e1 hS (fun _ _ h => h) (fun _ h => h) hL hF
    obtain ⟨t2, a1, b1⟩ := sy_leave hno hlocks hE (by rw [e1]; exact hB) k3 (hpx _ hpu) (by rw [e1]; exact hce) hcv hcl hc.1 hc.2 T' rfl X'
    exact ⟨t2, st.trans a1, b1⟩
/-- the ends of a method that doesn't throw -/
theorem sy_ireti {post : Int32 → sG → sQ → Prop} {v : Int32} (hx : p.tables.exec = Jvm.exec) (hb : c.code = cc) (hr : meth.sig.returnType = some .int) (hlocks : meth.locks = false) (hE : sEnv Z s) (hP : Sy Z nT nK cT cK ad g q H) (hS : va_S (sy_A Z) s.heap H locs) (hdg : decode cc pc = .ok (.ireturn, 1)) (hc : cells ≤ mc ∧ slots ≤ ms) (hpost : post v g q) : W p l e R s m args below meth c H locs cells slots (MQ below (sQi Z nT nK cT cK ad post) args s mc ms (sy_A Z)) (F0 m pc ls [.int v]) :=
  W.widen hc.1 hc.2 (W.iret hx hb hr (fun t ht hW => ⟨⟨v, (g, q), rfl, hpost, hE.next hS ht hW.alike, by rw [ht]; exact hP⟩, hS.F ht⟩) hS.2.2 hdg hlocks)
theorem sy_iretz {post : Int32 → sG → sQ → Prop} {v : Int32} (hx : p.tables.exec = Jvm.exec) (hb : c.code = cc) (hr : meth.sig.returnType = some .boolean) (hlocks : meth.locks = false) (hE : sEnv Z s) (hP : Sy Z nT nK cT cK ad g q H) (hS : va_S (sy_A Z) s.heap H locs) (hdg : decode cc pc = .ok (.ireturn, 1)) (hc : cells ≤ mc ∧ slots ≤ ms) (hv : v &&& 1 = v) (hpost : post v g q) : W p l e R s m args below meth c H locs cells slots (MQ below (sQi Z nT nK cT cK ad post) args s mc ms (sy_A Z)) (F0 m pc ls [.int v]) :=
  W.widen hc.1 hc.2 (W.zret hx hb hr (by show Value.int (v &&& 1) = .int v; rw [hv]) (fun t ht hW => ⟨⟨v, (g, q), rfl, hpost, hE.next hS ht hW.alike, by rw [ht]; exact hP⟩, hS.F ht⟩) hS.2.2 hdg hlocks)
theorem sy_vret {post : sG → sQ → Prop} (hx : p.tables.exec = Jvm.exec) (hb : c.code = cc) (hr : meth.sig.returnType = none) (hlocks : meth.locks = false) (hE : sEnv Z s) (hP : Sy Z nT nK cT cK ad g q H) (hS : va_S (sy_A Z) s.heap H locs) (hdg : decode cc pc = .ok (.return_, 1)) (hc : cells ≤ mc ∧ slots ≤ ms) (hpost : post g q) : W p l e R s m args below meth c H locs cells slots (MQ below (sQv Z nT nK cT cK ad post) args s mc ms (sy_A Z)) (F0 m pc ls []) :=
  W.widen hc.1 hc.2 (W.vret hx hb hr (fun t ht hW => ⟨⟨(g, q), rfl, hpost, hE.next hS ht hW.alike, by rw [ht]; exact hP⟩, hS.F ht⟩) hS.2.2 hdg hlocks)
theorem sy_aret {post : Nat → Prop} {nm : String} (hx : p.tables.exec = Jvm.exec) (hb : c.code = cc) (hr : meth.sig.returnType = some (.object nm)) (hlocks : meth.locks = false) (hE : sEnv Z s) (hP : Sy Z nT nK cT cK ad g q H) (hS : va_S (sy_A Z) s.heap H locs) (hdg : decode cc pc = .ok (.areturn, 1)) (hc : cells ≤ mc ∧ slots ≤ ms) (hpost : post o) : W p l e R s m args below meth c H locs cells slots (MQ below (sQr Z nT nK cT cK ad g q post) args s mc ms (sy_A Z)) (F0 m pc ls [.ref (ad o)]) :=
  W.widen hc.1 hc.2 (W.aret hx hb hr (Or.inl ⟨_, rfl⟩) (Or.inr ⟨_, rfl⟩) (fun t ht hW => ⟨⟨o, ad o, rfl, hpost, rfl, hE.next hS ht hW.alike, by rw [ht]; exact hP⟩, hS.F ht⟩) hS.2.2 hdg hlocks)
/-- 'throw new E()' in a method without handlers -/
theorem sy_throw {cls : String} {names : List String} {ik ic : Nat} {Xs : List Cond} (hx : p.tables.exec = Jvm.exec) (hb : c.code = cc) (hl : l.stackTraces = false) (hno : ∀ x ∈ c.exceptionTable.toList, False) (hlocks : meth.locks = false) (hown : s.vm.findClass own = some m.cls) (hcls : Bundle.fit cls = true) (hnames : ∀ n ∈ names, Bundle.fit n = true)
    (hk : (Cond.classLink own ik cls).before args s = true) (hini : (Cond.initialized cls).before args s = true) (hat : ∀ w ∈ vx_at0 own ic cls names, w.before args s = true) (hgood : ∀ w ∈ Cond.classLink own ik cls :: Cond.initialized cls :: vx_at0 own ic cls names, vx_ot w = true)
    (hE : sEnv Z s) (hP : Sy Z nT nK cT cK ad g q H) (hS : va_S (sy_A Z) s.heap H locs) (hsize : ls.size = c.maxLocals)
    (d0 : decode cc pc = .ok (.new ik, 3)) (d3 : decode cc (pc + 3) = .ok (.dup, 1)) (d4 : decode cc (pc + 4) = .ok (.invokespecial ic, 3)) (d7 : decode cc (pc + 7) = .ok (.athrow, 1))
    (hR : names.length + 3 < R.frames ∧ (rest.map fun v => v.category).sum + (13 * (names.length + 1) + 42) ≤ R.locals ∧ cells + 1 ≤ R.cells ∧ slots + 6 ≤ R.slots) (hc : cells + 1 ≤ mc ∧ slots + 6 ≤ ms) (hpx : px cls) :
    W p l e R s m args below meth c H locs cells slots (vx_MQ below Qc (sQx Z nT nK cT cK ad g q px) args s mc ms (sy_A Z)) (F0 m pc ls rest) := by
  refine vx_throw0 hx hb hl hown hcls hnames hk hini hat hgood hE.2.2.1 hE.2.2.2.1 hS hsize d0 d3 d4 d7 (fun x hx => (hno x hx).elim) hR.1 hR.2.1 hR.2.2.1 hR.2.2.2 hlocks (fun t hvm hz hk => ?_) hS.2.2 hc.1 hc.2
  have hS2 : va_S (sy_A Z) s.heap t.heap [] := ⟨Nat.le_trans hS.1 hz, fun a h1 h2 => by rw [hk a (Nat.lt_of_lt_of_le h1 hS.1)]; exact hS.2.1 a h1 h2, fun _ h => by cases h⟩
  refine ⟨cls, hpx, ⟨rfl, hE.next hS2 rfl hvm, fun o' ho' => (hP.1 o' ho').kept ?_, hP.2.1, hP.2.2⟩, hS2.F rfl⟩
  exact hk _ (hP.1 o' ho').lt
end SCT
