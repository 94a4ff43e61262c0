/-! THE CLAIM OUT OF ONE WALK OF THE LAW'S BODY. Your part is whole_start (and what it stands on); all else here is the same for every law, but numbers. -/
def R_law : String := "PledgehouseLaw"
def lw_P (b : Addr) (xs : List Int32) (args : Array Value) (s : State) : Prop := args = #[.ref b] ∧ s.IntsAt b xs ∧ xs.length ≤ 260 ∧ (Jvm.Cond.and given_1 narrow_1).before args s = true
def lw_Q (_ : Array Value) (s : State) (o : Outcome) (t : State) : Prop := o = .returned (some (.int 1)) ∧ Framed s o t [] 600074 7301550
def lw_Z (below : List Frame) (a : Array Value) (s : State) : State → Prop := fun t => ∃ o, t.status = .running ∧ Ended t below o ∧ lw_Q a s o t
/-- the law's own end, with 1 on the stack, nothing written that was there before, its room as the claim has it -/
theorem lw_ret {p : Program} {l : Launch} {e : Env} {s : State} {m : MethodId} {below : List Frame} {meth : Method} {c : Code} {b : Nat} (hx : p.tables.exec = Jvm.exec) (hb : c.code = code) (hr : meth.sig.returnType = ret) (hlocks : meth.locks = false) {pc : Nat} {H : Heap} {ls : Array Slot} (hdg : decode code pc = .ok (.ireturn, 1)) : W p l e room_1 s m #[Value.ref b] below meth c H [] 600074 7301550 (lw_Z below #[Value.ref b] s) (F0 m pc ls [.int 1]) := by
  intro T hT X
  obtain ⟨fs, hret, hrun, hended, hW, hframe⟩ := X.leave (v := some (.int 1)) (hlocks := hlocks) (fun h => by rw [hr] at h; cases h)
  have hmeth' : T.vm.method? m = some meth := X.method'
  refine ⟨T.setFrames fs, ?_, .returned (some (.int 1)), hrun, hended, rfl, ⟨_, rfl⟩, hW, hframe⟩
  jvm_step X.here [X.here.top, hx, hb, hdg, hmeth', hr, ret, narrow_b1]
  (try refine ⟨rfl, ?_⟩); (try refine ⟨rfl, ?_⟩)
  first | (intro acts; rw [hret _ acts rfl rfl rfl]) | rw [hret _ _ rfl rfl rfl]
  exact Steps.refl _
/-- what holds at the law's entry: the machine, the code, the tables' words (any of lw_tbl by 'hts w (by decide +kernel)'), the script of L ints xs at the cell b, what the Statement gives of the start (any of its parts by flat_of_before) -/
def lw_At (p : Program) (s : State) (m : MethodId) (meth : Method) (c : Code) (b L : Nat) (xs : Nat → Int32) : Prop :=
  p.tables.exec = Jvm.exec ∧ c.code = code ∧ meth.sig.returnType = ret ∧ c.maxLocals = 18 ∧ s.vm.findClass R_law = some m.cls ∧ (∀ w ∈ lw_tbl, w.before #[Value.ref b] s = true) ∧ va_X b L xs s s.heap ∧ b < s.heap.size ∧ meth.locks = false ∧ (Jvm.Cond.and given_1 narrow_1).before #[Value.ref b] s = true

theorem wsU_tbl {w : Cond} (h : w ∈ wsU) : w ∈ lw_tbl := (List.mem_filter.mp h).1
theorem uin_tbl {C : String} {T : u_T} {N : Nat} (h : (u_ws C T N).all (fun w => decide (w ∈ tables_1) && goodWord w) = true) : ∀ w ∈ u_ws C T N, w ∈ lw_tbl := fun w hw => by
  have h1 := List.all_eq_true.mp h w hw
  simp only [Bool.and_eq_true, decide_eq_true_eq] at h1
  exact List.mem_append_right _ h1.1
theorem gl_all {c1 : Cond} (h : c1 ∈ wsU) : GoodIn lw_tbl (uW c1) := fun w hw => by
  rcases List.mem_cons.mp hw with e | e
  · subst e
    exact ⟨wsU_tbl h, good_of_word (wsU_good h)⟩
  · exact ⟨wsU_tbl e, good_of_word (wsU_good e)⟩
theorem gl_app {c1 : Cond} {a : List Cond} (ha : ∀ w ∈ a, w ∈ wsU) (h : c1 ∈ wsU) : GoodIn lw_tbl (a ++ uW c1) := fun w hw => by
  rcases List.mem_append.mp hw with e | e
  · exact ⟨wsU_tbl (ha w e), good_of_word (wsU_good (ha w e))⟩
  · exact gl_all h w e
theorem len_y {t : Term} {args : Array Value} {s : State} {z : Nat} {cell : Cell} (e1 : t.eval args s none [] s = some (.ref z)) (ha : s.arrayAt? z = some cell) (hz : cell.slots.size < 2 ^ 31) : (Term.length t).eval args s none [] s = some (.int cell.slots.size.toInt32) := by
  simp [Term.eval, e1, ha, hz]
theorem len_n {t : Term} {args : Array Value} {s : State} {z : Nat} {cell : Cell} (e1 : t.eval args s none [] s = some (.ref z)) (ha : s.arrayAt? z = some cell) (hz : ¬ cell.slots.size < 2 ^ 31) : (Term.length t).eval args s none [] s = none := by
  simp [Term.eval, e1, ha, hz]
theorem arr_p {s : State} {args : Array Value} {ty : FieldType} (h : (Cond.arrayClass ty).before args s = true) (hn : ∀ C, ty ≠ .object C) : ∃ cA : ClassId, ArrOfT s cA ty ∧ va_RA s cA ty := by
  obtain ⟨cA, kA, comp, h1, h2, h3⟩ := Cond.arrayClass_spec h
  refine ⟨cA, fun n z => ⟨(fun k h => by cases h), kA, h2, comp, h3⟩, ?_⟩
  cases ty with
  | object C => exact absurd rfl (hn C)
  | _ => exact h1
theorem arr_o {s : State} {args : Array Value} {C : String} (h : (Cond.arrayOver (.object C)).before args s = true) : ∃ cA : ClassId, ArrOfT s cA (.object C) ∧ va_RA s cA (.object C) := by
  obtain ⟨comp, cA, kA, h1, h2, h3, h4, h5⟩ := Cond.arrayOver_spec h
  exact ⟨cA, fun n z => ⟨(fun k h => by cases h), kA, h3, comp, h4⟩, kA, comp, h3, h4, h1, h5⟩
theorem arr_at {s : State} {z : Nat} {cell : Cell} {ty : FieldType} (h1 : s.heap[z]? = some cell) (h2 : s.isArrayOf cell ty) (h3 : cell.vm ≠ .unknown) : s.arrayAt? z = some cell := by
  obtain ⟨a1, k, a2, comp, a3⟩ := h2
  have h4 : ¬ (cell.vm = .unknown ∨ cell.vm.isStatics = true) := fun h => by
    rcases h with h | h
    · exact h3 h
    · cases hv : cell.vm with
      | statics c => exact a1 c hv
      | _ => rw [hv] at h; cases h
  unfold State.arrayAt?
  simp only [h1, a2, Option.bind_eq_bind, Option.bind_some, if_neg h4, a3]
/-- what the law's start gives -/
theorem law_env {s : State} {args : Array Value} (hts : ∀ w ∈ lw_tbl, w.before args s = true) (hgv : (Jvm.Cond.and given_1 narrow_1).before args s = true) : ∃ Z : sZ, Z.2.2.1 = s.heap.size ∧ sEnv Z s ∧ sNc s ∧ va_Nw (.methodLinkNest RX6 25 yX1_init "Pledgehouse") s ∧ va_Nw (.methodLinkNest RX6 44 yX2_init "Pledgehouse") s ∧ va_Nw (.methodLinkNest RX6 51 yX5_init "Pledgehouse") s := by
  have hs := flat_of_before _ hgv
  have tb : ∀ w ∈ tables_1, w.before args s = true := fun w h => hts w (List.mem_append_right _ h)
  obtain ⟨c0, i0, K0⟩ := u_known (C := RJx4a65c) (T := TJx4a65c) (N := 3) (n := 3) hts (uin_tbl uin_RJx4a65c) (hts _ (wsU_tbl uk_1_32))
  obtain ⟨c1, i1, K1⟩ := u_known (C := RX0) (T := TX0) (N := 3) (n := 3) hts (uin_tbl uin_RX0) (hts _ (wsU_tbl uk_1_80))
  obtain ⟨c2, i2, K2⟩ := u_known (C := RX1) (T := TX1) (N := 3) (n := 3) hts (uin_tbl uin_RX1) (hts _ (wsU_tbl uk_1_59))
  obtain ⟨c3, i3, K3⟩ := u_known (C := RX2) (T := TX2) (N := 7) (n := 7) hts (uin_tbl uin_RX2) (hts _ (wsU_tbl uk_1_99))
  obtain ⟨c4, i4, K4⟩ := u_known (C := RX3) (T := TX3) (N := 12) (n := 12) hts (uin_tbl uin_RX3) (hts _ (wsU_tbl uk_2_69))
  obtain ⟨c5, i5, K5⟩ := u_known (C := RX4) (T := TX4) (N := 16) (n := 16) hts (uin_tbl uin_RX4) (hts _ (wsU_tbl uk_3_62))
  obtain ⟨c6, i6, K6⟩ := u_known (C := RX5) (T := TX5) (N := 5) (n := 5) hts (uin_tbl uin_RX5) (hts _ (wsU_tbl uk_1_128))
  obtain ⟨c7, i7, K7⟩ := u_known (C := RX6) (T := TX6) (N := 10) (n := 10) hts (uin_tbl uin_RX6) (hts _ (wsU_tbl uk_1_24))
  obtain ⟨y0, A0, R0⟩ := arr_p (ty := .int) (tb _ (by decide +kernel)) (fun C h => by cases h)
  have o2 : (Cond.arrayOver (.object "java/lang/Object")).before args s = true := tb _ (by decide +kernel)
  have o3 : (Cond.arrayOver (.object "Pledgehouse$Expert")).before args s = true := tb _ (by decide +kernel)
  have o4 : (Cond.arrayOver (.object "Pledgehouse$Charter")).before args s = true := tb _ (by decide +kernel)
  obtain ⟨y2, A2, R2⟩ := arr_o o2
  obtain ⟨y3, A3', R3⟩ := arr_o o3
  obtain ⟨y4, A4', R4⟩ := arr_o o4
  -- ArrayList's constant array
  obtain ⟨z, cz, cell, kz, e1, e2, e3, e4, e5, e6, -⟩ := Cond.exactly_spec (hs (.exactly (.static "java/util/ArrayList" "DEFAULTCAPACITY_EMPTY_ELEMENTDATA" "[Ljava/lang/Object;") "[Ljava/lang/Object;") (by decide +kernel))
  obtain ⟨f1, f2⟩ := Cond.arrayOf_spec (hs (.arrayOf (.static "java/util/ArrayList" "DEFAULTCAPACITY_EMPTY_ELEMENTDATA" "[Ljava/lang/Object;") (.object "java/lang/Object")) (by decide +kernel)) e1 e3
  have f3 : cell.slots.size = 0 := by
    have h9 := hs (.eq (.length (.static "java/util/ArrayList" "DEFAULTCAPACITY_EMPTY_ELEMENTDATA" "[Ljava/lang/Object;")) (.int 0)) (by decide +kernel)
    have ha : s.arrayAt? z = some cell := arr_at e3 f1 f2
    by_cases hz : cell.slots.size < 2 ^ 31
    · have hl : (Term.length (.static "java/util/ArrayList" "DEFAULTCAPACITY_EMPTY_ELEMENTDATA" "[Ljava/lang/Object;")).eval args s none [] s = some (.int cell.slots.size.toInt32) := len_y e1 ha hz
      have hv := Cond.eq_ints (idx := []) (first := s) (o := none) (s := s) (args := args) hl (show (Term.int 0).eval args s none [] s = some (.int 0) from rfl)
      have hd : cell.slots.size.toInt32 = 0 := by simpa [Cond.before, Cond.holds, hv] using h9
      exact (nI_eq (a := cell.slots.size) (b := 0) hz (by decide)).mp hd
    · have hl : (Term.length (.static "java/util/ArrayList" "DEFAULTCAPACITY_EMPTY_ELEMENTDATA" "[Ljava/lang/Object;")).eval args s none [] s = none := len_n e1 ha hz
      simp [Cond.before, Cond.holds, Cond.value, hl] at h9
  have hzl : z < s.heap.size := (Array.getElem?_eq_some_iff.mp e3).1
  obtain ⟨mi, hmi⟩ := va_Mi.of (hs (.isRef (.mirror "[Ljava/lang/Object;")) (by decide +kernel))
  let Z : sZ := ((fun k => [c0, c1, c2, c3, c4, c5, c6, c7].getD k c0, fun k => [i0, i1, i2, i3, i4, i5, i6, i7].getD k i0), fun k => [y0, y0, y2, y3, y4, y0].getD k y0, s.heap.size, z)
  have hA : ∀ a : Nat, a < s.heap.size → ¬ sy_A Z a := fun a h1 h2 => absurd (show s.heap.size ≤ a from h2) (by omega)
  have hN : ∀ w ∈ wsN, va_Nw w s := fun w hw => by
    have h1 := List.mem_filter.mp hw
    have h2 := tb w h1.1
    cases w with
    | castable a b => exact va_Nw.of rfl h2
    | declares x => exact va_Nw.of rfl h2
    | _ => cases h1.2
  refine ⟨Z, rfl, ⟨⟨fun k x hk => ?_, fun k x hk => ?_⟩, Nat.le_refl _, vx_Zqof (tb _ (by decide +kernel)) (tb _ (by decide +kernel)) (hs _ (by decide +kernel)) hA, vx_Zqof (tb _ (by decide +kernel)) (tb _ (by decide +kernel)) (hs _ (by decide +kernel)) hA, ⟨va_Zref (tb _ (by decide +kernel)) (tb _ (by decide +kernel)) e1 hA, hzl, ⟨cell, e3, f1, f2, f3⟩, va_AO.of o2, va_AO.of o3, va_AO.of o4, mi, hmi⟩, hN⟩, ⟨va_Nc.of (hs _ (by decide +kernel)), va_Nc.of (hs _ (by decide +kernel)), va_Nc.of (hs _ (by decide +kernel))⟩, va_Nw.of rfl (tb _ (by decide +kernel)), va_Nw.of rfl (tb _ (by decide +kernel)), va_Nw.of rfl (tb _ (by decide +kernel))⟩
  · have h9 : k < 8 := (List.getElem?_eq_some_iff.mp hk).1
    rcases (show k = 0 ∨ k = 1 ∨ k = 2 ∨ k = 3 ∨ k = 4 ∨ k = 5 ∨ k = 6 ∨ k = 7 by omega) with rfl | rfl | rfl | rfl | rfl | rfl | rfl | rfl
    all_goals cases hk
    · exact K0
    · exact K1
    · exact K2
    · exact K3
    · exact K4
    · exact K5
    · exact K6
    · exact K7
  · have h6 : k < 6 := (List.getElem?_eq_some_iff.mp hk).1
    rcases (show k = 0 ∨ k = 1 ∨ k = 2 ∨ k = 3 ∨ k = 4 ∨ k = 5 by omega) with rfl | rfl | rfl | rfl | rfl | rfl
    all_goals cases hk
    · exact ⟨A0, R0⟩
    · exact ⟨A0, R0⟩
    · exact ⟨A2, R2⟩
    · exact ⟨A3', R3⟩
    · exact ⟨A4', R4⟩
    · exact ⟨A0, R0⟩
