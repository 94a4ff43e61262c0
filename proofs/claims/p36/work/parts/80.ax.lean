def wf (a b c x : Int32) : Int32 := if x = 0 then 0 else if x = 1 then a else if x = 2 then b else if x = 3 then c else 9
/-- what a wrapper answers: the call's answer, or a number for the refusal -/
def wl (c v : Int32) : Int64 := if c = 0 then v.toInt64 else if c = 1 then -9000000000000000001 else if c = 2 then -9000000000000000002 else -9000000000000000003
abbrev sQl (Z : sZ) (nT nK cT cK : Nat) (ad : Nat → Nat) (post : Int64 → sG → sQ → Prop) : Array Value → State → Outcome → State → Prop := va_Ql (fun (r : Int64) (u : sG × sQ) => post r u.1 u.2) (fun u t => sEnv Z t ∧ Sy Z nT nK cT cK ad u.1 u.2 t.heap) (sy_A Z)
section SLR
variable {p : Program} {l : Launch} {e : Env} {R : Room} {s : State} {m : MethodId} {args : Array Value} {below : List Frame} {meth : Method} {c : Code} {H : Heap} {locs : List Loc} {cells slots : Nat} {Q : State → Prop}
variable {cc : ByteArray} {pc : Nat} {ls : Array Slot} {rest st0 : List Value} {Z : sZ} {nT nK cT cK : Nat} {ad : Nat → Nat} {g g0 : sG} {q q0 : sQ} {mc ms : Nat} {a : Array Value}
theorem sy_lret {post : Int64 → sG → sQ → Prop} {v : Int64} (hx : p.tables.exec = Jvm.exec) (hb : c.code = cc) (hr : meth.sig.returnType = some .long) (hlocks : meth.locks = false) (hE : sEnv Z s) (hP : Sy Z nT nK cT cK ad g q H) (hS : va_S (sy_A Z) s.heap H locs) (hdg : decode cc pc = .ok (.lreturn, 1)) (hc : cells ≤ mc ∧ slots ≤ ms) (hpost : post v g q) : W p l e R s m args below meth c H locs cells slots (MQ below (sQl Z nT nK cT cK ad post) args s mc ms (sy_A Z)) (F0 m pc ls [.long v]) :=
  W.widen hc.1 hc.2 (W.lret hx hb hr (fun t ht hW => ⟨⟨v, (g, q), rfl, hpost, hE.next hS ht hW.alike, by rw [ht]; exact hP⟩, hS.F ht⟩) hS.2.2 hdg hlocks)
theorem sy_kl {post : Int64 → sG → sQ → Prop} (hr : va_Run p l e R s m args below meth c H locs cells slots mc ms (F0 m pc ls st0) rest (sQl Z nT nK cT cK ad post a) (sy_A Z)) (hS : va_S (sy_A Z) s.heap H locs)
    (kk : ∀ (r : Int64) (g1 : sG) (q1 : sQ) (H1 : Heap) (locs1 : List Loc), post r g1 q1 → Sy Z nT nK cT cK ad g1 q1 H1 → va_S (sy_A Z) s.heap H1 locs1 → W p l e R s m args below meth c H1 locs1 (cells + mc) (slots + ms) Q (F0 m (pc + 3) ls (.long r :: rest))) : W p l e R s m args below meth c H locs cells slots Q (F0 m pc ls st0) :=
  va_calll hr hS (fun _ _ h => h) (fun _ h => h) (fun r u t H1 locs1 ht _ hp hB _ _ hS1 => kk r u.1 u.2 H1 locs1 hp (by rw [← ht]; exact hB.2) hS1)
theorem sy_topL {x y : Int64} (h : x = y) (k : W p l e R s m args below meth c H locs cells slots Q (F0 m pc ls (.long y :: rest))) : W p l e R s m args below meth c H locs cells slots Q (F0 m pc ls (.long x :: rest)) := by
  subst h
  exact k
end SLR
def Nx (g : sG) (q : sQ) (c : Int32 × Int32 × sG × sQ) : Prop := c.1 ≠ 0 → c.2.2.1 = g ∧ c.2.2.2 = q
def Nv (g : sG) (q : sQ) (c : Int32 × sG × sQ) : Prop := c.1 ≠ 0 → c.2.1 = g ∧ c.2.2 = q
theorem nx_i {g : sG} {q : sQ} {c : Prop} [Decidable c] {a b : Int32 × Int32 × sG × sQ} (h1 : Nx g q a) (h2 : Nx g q b) : Nx g q (if c then a else b) := by split <;> assumption
theorem nv_i {g : sG} {q : sQ} {c : Prop} [Decidable c] {a b : Int32 × sG × sQ} (h1 : Nv g q a) (h2 : Nv g q b) : Nv g q (if c then a else b) := by split <;> assumption
theorem nx_0 {g g1 : sG} {q q1 : sQ} {r : Int32} : Nx g q (0, r, g1, q1) := fun h => absurd rfl h
theorem nv_0 {g g1 : sG} {q q1 : sQ} : Nv g q (0, g1, q1) := fun h => absurd rfl h
theorem nx_g {g : sG} {q : sQ} {c r : Int32} : Nx g q (c, r, g, q) := fun _ => ⟨rfl, rfl⟩
theorem nv_g {g : sG} {q : sQ} {c : Int32} : Nv g q (c, g, q) := fun _ => ⟨rfl, rfl⟩
theorem n6_fashion {g : sG} {q : sQ} {x0 : Int32} {x1 : Int32} : Nx g q (fX6_fashion g q x0 x1) := by
  unfold fX6_fashion
  repeat' (with_reducible refine nx_i ?_ ?_)
  all_goals first | with_reducible exact nx_0 | with_reducible exact nx_g
theorem n6_bias {g : sG} {q : sQ} {x0 : Int32} {x1 : Int32} : Nx g q (fX6_bias g q x0 x1) := by
  unfold fX6_bias
  repeat' (with_reducible refine nx_i ?_ ?_)
  all_goals first | with_reducible exact nx_0 | with_reducible exact nx_g
theorem n6_classOf {g : sG} {q : sQ} {x0 : Int32} {x1 : Int32} : Nx g q (fX6_classOf g q x0 x1) := by
  unfold fX6_classOf
  repeat' (with_reducible refine nx_i ?_ ?_)
  all_goals first | with_reducible exact nx_0 | with_reducible exact nx_g
theorem n6_charter {g : sG} {q : sQ} {x0 : Int32} {x1 : Int32} {x2 : Int32} : Nv g q (fX6_charter g q x0 x1 x2) := by
  unfold fX6_charter
  repeat' (with_reducible refine nv_i ?_ ?_)
  all_goals first | with_reducible exact nv_0 | with_reducible exact nv_g
theorem n6_rate {g : sG} {q : sQ} {x0 : Int32} {x1 : Int32} : Nx g q (fX6_rate g q x0 x1) := by
  unfold fX6_rate
  repeat' (with_reducible refine nx_i ?_ ?_)
  all_goals first | with_reducible exact nx_0 | with_reducible exact nx_g
theorem n6_term {g : sG} {q : sQ} {x0 : Int32} : Nx g q (fX6_term g q x0) := by
  unfold fX6_term
  repeat' (with_reducible refine nx_i ?_ ?_)
  all_goals first | with_reducible exact nx_0 | with_reducible exact nx_g
theorem n6_amnesty {g : sG} {q : sQ} {x0 : Int32} {x1 : Int32} : Nx g q (fX6_amnesty g q x0 x1) := by
  unfold fX6_amnesty
  repeat' (with_reducible refine nx_i ?_ ?_)
  all_goals first | with_reducible exact nx_0 | with_reducible exact nx_g
theorem n6_redeem {g : sG} {q : sQ} {x0 : Int32} {x1 : Int32} : Nx g q (fX6_redeem g q x0 x1) := by
  unfold fX6_redeem
  repeat' (with_reducible refine nx_i ?_ ?_)
  all_goals first | with_reducible exact nx_0 | with_reducible exact nx_g
theorem n6_renew {g : sG} {q : sQ} {x0 : Int32} {x1 : Int32} {x2 : Int32} : Nx g q (fX6_renew g q x0 x1 x2) := by
  unfold fX6_renew
  repeat' (with_reducible refine nx_i ?_ ?_)
  all_goals first | with_reducible exact nx_0 | with_reducible exact nx_g
theorem n6_give {g : sG} {q : sQ} {x0 : Int32} {x1 : Int32} : Nx g q (fX6_give g q x0 x1) := by
  unfold fX6_give
  repeat' (with_reducible refine nx_i ?_ ?_)
  all_goals first | with_reducible exact nx_0 | with_reducible exact nx_g
theorem n6_notice {g : sG} {q : sQ} {x0 : Int32} {x1 : Int32} : Nv g q (fX6_notice g q x0 x1) := by
  unfold fX6_notice
  repeat' (with_reducible refine nv_i ?_ ?_)
  all_goals first | with_reducible exact nv_0 | with_reducible exact nv_g
theorem n6_show {g : sG} {q : sQ} {x0 : Int32} : Nx g q (fX6_show g q x0) := by
  unfold fX6_show
  repeat' (with_reducible refine nx_i ?_ ?_)
  all_goals first | with_reducible exact nx_0 | with_reducible exact nx_g
theorem n6_police {g : sG} {q : sQ} {x0 : Int32} : Nx g q (fX6_police g q x0) := by
  unfold fX6_police
  repeat' (with_reducible refine nx_i ?_ ?_)
  all_goals first | with_reducible exact nx_0 | with_reducible exact nx_g
theorem n6_court {g : sG} {q : sQ} {x0 : Int32} {x1 : Int32} : Nx g q (fX6_court g q x0 x1) := by
  unfold fX6_court
  repeat' (with_reducible refine nx_i ?_ ?_)
  all_goals first | with_reducible exact nx_0 | with_reducible exact nx_g
theorem n6_stray {g : sG} {q : sQ} {x0 : Int32} {x1 : Int32} {x2 : Int32} : Nv g q (fX6_stray g q x0 x1 x2) := by
  unfold fX6_stray
  repeat' (with_reducible refine nv_i ?_ ?_)
  all_goals first | with_reducible exact nv_0 | with_reducible exact nv_g
theorem n6_count {g : sG} {q : sQ} {x0 : Int32} : Nx g q (fX6_count g q x0) := by
  unfold fX6_count
  repeat' (with_reducible refine nx_i ?_ ?_)
  all_goals first | with_reducible exact nx_0 | with_reducible exact nx_g
theorem n6_transfer {g : sG} {q : sQ} {x0 : Int32} {x1 : Int32} : Nx g q (fX6_transfer g q x0 x1) := by
  unfold fX6_transfer
  repeat' (with_reducible refine nx_i ?_ ?_)
  all_goals first | with_reducible exact nx_0 | with_reducible exact nx_g
theorem n6_wind {g : sG} {q : sQ} {x0 : Int32} : Nx g q (fX6_wind g q x0) := by
  unfold fX6_wind
  repeat' (with_reducible refine nx_i ?_ ?_)
  all_goals first | with_reducible exact nx_0 | with_reducible exact nx_g
theorem n6_pass {g : sG} {q : sQ} {x0 : Int32} : Nx g q (fX6_pass g q x0) := by
  unfold fX6_pass
  repeat' (with_reducible refine nx_i ?_ ?_)
  all_goals first | with_reducible exact nx_0 | with_reducible exact nx_g
theorem n6_offer {g : sG} {q : sQ} {x0 : Int32} {x1 : Int32} : Nx g q (fX6_offer g q x0 x1) := by
  unfold fX6_offer
  repeat' (with_reducible refine nx_i ?_ ?_)
  all_goals first | with_reducible exact nx_0 | with_reducible exact nx_g
theorem n6_claim {g : sG} {q : sQ} {x0 : Int32} {x1 : Int32} : Nx g q (fX6_claim g q x0 x1) := by
  unfold fX6_claim
  repeat' (with_reducible refine nx_i ?_ ?_)
  all_goals first | with_reducible exact nx_0 | with_reducible exact nx_g
theorem n6_deposit {g : sG} {q : sQ} {x0 : Int32} : Nx g q (fX6_deposit g q x0) := by
  unfold fX6_deposit
  repeat' (with_reducible refine nx_i ?_ ?_)
  all_goals first | with_reducible exact nx_0 | with_reducible exact nx_g
theorem n6_withdraw {g : sG} {q : sQ} {x0 : Int32} : Nx g q (fX6_withdraw g q x0) := by
  unfold fX6_withdraw
  repeat' (with_reducible refine nx_i ?_ ?_)
  all_goals first | with_reducible exact nx_0 | with_reducible exact nx_g
theorem n6_thingOf {g : sG} {q : sQ} {x0 : Int32} {x1 : Int32} : Nx g q (fX6_thingOf g q x0 x1) := by
  unfold fX6_thingOf
  repeat' (with_reducible refine nx_i ?_ ?_)
  all_goals first | with_reducible exact nx_0 | with_reducible exact nx_g
theorem n6_ticketOf {g : sG} {q : sQ} {x0 : Int32} {x1 : Int32} : Nx g q (fX6_ticketOf g q x0 x1) := by
  unfold fX6_ticketOf
  repeat' (with_reducible refine nx_i ?_ ?_)
  all_goals first | with_reducible exact nx_0 | with_reducible exact nx_g
theorem n6_interestAnew {g : sG} {q : sQ} {x0 : Int32} : Nx g q (fX6_interestAnew g q x0) := by
  unfold fX6_interestAnew
  repeat' (with_reducible refine nx_i ?_ ?_)
  all_goals first | with_reducible exact nx_0 | with_reducible exact nx_g
theorem n6_expertOf {g : sG} {q : sQ} {x0 : Int32} {x1 : Int32} : Nx g q (fX6_expertOf g q x0 x1) := by
  unfold fX6_expertOf
  repeat' (with_reducible refine nx_i ?_ ?_)
  all_goals first | with_reducible exact nx_0 | with_reducible exact nx_g
theorem n6_bears {g : sG} {q : sQ} {x0 : Int32} {x1 : Int32} : Nx g q (fX6_bears g q x0 x1) := by
  unfold fX6_bears
  repeat' (with_reducible refine nx_i ?_ ?_)
  all_goals first | with_reducible exact nx_0 | with_reducible exact nx_g
theorem n6_money {g : sG} {q : sQ} {x0 : Int32} : Nx g q (fX6_money g q x0) := by
  unfold fX6_money
  repeat' (with_reducible refine nx_i ?_ ?_)
  all_goals first | with_reducible exact nx_0 | with_reducible exact nx_g
theorem n6_thing {g : sG} {q : sQ} {nT : Nat} {x0 x1 x2 : Int32} : Nx g q (fX6_thing g q nT x0 x1 x2) := by
  unfold fX6_thing
  repeat' (with_reducible refine nx_i ?_ ?_)
  all_goals first | with_reducible exact nx_0 | with_reducible exact nx_g
theorem n6_pledge {g : sG} {q : sQ} {nK : Nat} {x0 x1 x2 x3 x4 x5 : Int32} : Nx g q (fX6_pledge g q nK x0 x1 x2 x3 x4 x5) := by
  unfold fX6_pledge
  repeat' (with_reducible refine nx_i ?_ ?_)
  all_goals first | with_reducible exact nx_0 | with_reducible exact nx_g
theorem hx_i {a b c : Int32} {d : Prop} [Decidable d] {x y : Int32 × Int32 × sG × sQ} (h1 : wf a b c x.1 ≠ 9) (h2 : wf a b c y.1 ≠ 9) : wf a b c (if d then x else y).1 ≠ 9 := by split <;> assumption
theorem hv_i {a b c : Int32} {d : Prop} [Decidable d] {x y : Int32 × sG × sQ} (h1 : wf a b c x.1 ≠ 9) (h2 : wf a b c y.1 ≠ 9) : wf a b c (if d then x else y).1 ≠ 9 := by split <;> assumption
theorem hx_g {a b c k r : Int32} {g : sG} {q : sQ} (h : wf a b c k ≠ 9) : wf a b c ((k, r, g, q) : Int32 × Int32 × sG × sQ).1 ≠ 9 := h
theorem hv_g {a b c k : Int32} {g : sG} {q : sQ} (h : wf a b c k ≠ 9) : wf a b c ((k, g, q) : Int32 × sG × sQ).1 ≠ 9 := h
theorem post_no {g : sG} {q : sQ} {C : Int32 × Int32 × sG × sQ} {k : Int32} {v : Int64} (h : Nx g q C) (hc : C.1 = k) (hk : k ≠ 0) (hv : wl k C.2.1 = v) : (v, g, q) = (wl C.1 C.2.1, C.2.2.1, C.2.2.2) := by
  obtain ⟨e1, e2⟩ := h (by rw [hc]; exact hk)
  rw [e1, e2, hc, hv]
theorem post_nov {g : sG} {q : sQ} {C : Int32 × sG × sQ} {k : Int32} {v : Int64} (h : Nv g q C) (hc : C.1 = k) (hk : k ≠ 0) (hv : wl k 0 = v) : (v, g, q) = (wl C.1 0, C.2.1, C.2.2) := by
  obtain ⟨e1, e2⟩ := h (by rw [hc]; exact hk)
  rw [e1, e2, hc, hv]
theorem post_yes {g1 : sG} {q1 : sQ} {r : Int32} {C : Int32 × Int32 × sG × sQ} (h : (0, r, g1, q1) = C) : (r.toInt64, g1, q1) = (wl C.1 C.2.1, C.2.2.1, C.2.2.2) := by
  subst h
  rfl
theorem post_yesv {g1 : sG} {q1 : sQ} {C : Int32 × sG × sQ} (h : (0, g1, q1) = C) : ((0 : Int64), g1, q1) = (wl C.1 0, C.2.1, C.2.2) := by
  subst h
  rfl
theorem h6_thing {g : sG} {q : sQ} {nT : Nat} {x0 x1 x2 : Int32} : wf 1 2 3 (fX6_thing g q nT x0 x1 x2).1 ≠ 9 := by
  unfold fX6_thing
  repeat' (with_reducible refine hx_i ?_ ?_)
  all_goals exact hx_g (by decide)
theorem h6_fashion {g : sG} {q : sQ} {x0 : Int32} {x1 : Int32} : wf 1 2 9 (fX6_fashion g q x0 x1).1 ≠ 9 := by
  unfold fX6_fashion
  repeat' (with_reducible refine hx_i ?_ ?_)
  all_goals exact hx_g (by decide)
theorem h6_bias {g : sG} {q : sQ} {x0 : Int32} {x1 : Int32} : wf 1 2 9 (fX6_bias g q x0 x1).1 ≠ 9 := by
  unfold fX6_bias
  repeat' (with_reducible refine hx_i ?_ ?_)
  all_goals exact hx_g (by decide)
theorem h6_classOf {g : sG} {q : sQ} {x0 : Int32} {x1 : Int32} : wf 1 9 9 (fX6_classOf g q x0 x1).1 ≠ 9 := by
  unfold fX6_classOf
  repeat' (with_reducible refine hx_i ?_ ?_)
  all_goals exact hx_g (by decide)
theorem h6_charter {g : sG} {q : sQ} {x0 : Int32} {x1 : Int32} {x2 : Int32} : wf 1 2 9 (fX6_charter g q x0 x1 x2).1 ≠ 9 := by
  unfold fX6_charter
  repeat' (with_reducible refine hv_i ?_ ?_)
  all_goals exact hv_g (by decide)
theorem h6_rate {g : sG} {q : sQ} {x0 : Int32} {x1 : Int32} : wf 1 2 3 (fX6_rate g q x0 x1).1 ≠ 9 := by
  unfold fX6_rate
  repeat' (with_reducible refine hx_i ?_ ?_)
  all_goals exact hx_g (by decide)
theorem h6_term {g : sG} {q : sQ} {x0 : Int32} : wf 9 2 9 (fX6_term g q x0).1 ≠ 9 := by
  unfold fX6_term
  repeat' (with_reducible refine hx_i ?_ ?_)
  all_goals exact hx_g (by decide)
theorem h6_amnesty {g : sG} {q : sQ} {x0 : Int32} {x1 : Int32} : wf 9 2 3 (fX6_amnesty g q x0 x1).1 ≠ 9 := by
  unfold fX6_amnesty
  repeat' (with_reducible refine hx_i ?_ ?_)
  all_goals exact hx_g (by decide)
theorem h6_pledge {g : sG} {q : sQ} {nK : Nat} {x0 x1 x2 x3 x4 x5 : Int32} : wf 1 2 3 (fX6_pledge g q nK x0 x1 x2 x3 x4 x5).1 ≠ 9 := by
  unfold fX6_pledge
  repeat' (with_reducible refine hx_i ?_ ?_)
  all_goals exact hx_g (by decide)
theorem h6_redeem {g : sG} {q : sQ} {x0 : Int32} {x1 : Int32} : wf 1 9 3 (fX6_redeem g q x0 x1).1 ≠ 9 := by
  unfold fX6_redeem
  repeat' (with_reducible refine hx_i ?_ ?_)
  all_goals exact hx_g (by decide)
theorem h6_renew {g : sG} {q : sQ} {x0 : Int32} {x1 : Int32} {x2 : Int32} : wf 1 2 3 (fX6_renew g q x0 x1 x2).1 ≠ 9 := by
  unfold fX6_renew
  repeat' (with_reducible refine hx_i ?_ ?_)
  all_goals exact hx_g (by decide)
theorem h6_give {g : sG} {q : sQ} {x0 : Int32} {x1 : Int32} : wf 1 9 3 (fX6_give g q x0 x1).1 ≠ 9 := by
  unfold fX6_give
  repeat' (with_reducible refine hx_i ?_ ?_)
  all_goals exact hx_g (by decide)
theorem h6_notice {g : sG} {q : sQ} {x0 : Int32} {x1 : Int32} : wf 1 9 3 (fX6_notice g q x0 x1).1 ≠ 9 := by
  unfold fX6_notice
  repeat' (with_reducible refine hv_i ?_ ?_)
  all_goals exact hv_g (by decide)
theorem h6_show {g : sG} {q : sQ} {x0 : Int32} : wf 1 9 3 (fX6_show g q x0).1 ≠ 9 := by
  unfold fX6_show
  repeat' (with_reducible refine hx_i ?_ ?_)
  all_goals exact hx_g (by decide)
theorem h6_police {g : sG} {q : sQ} {x0 : Int32} : wf 1 9 3 (fX6_police g q x0).1 ≠ 9 := by
  unfold fX6_police
  repeat' (with_reducible refine hx_i ?_ ?_)
  all_goals exact hx_g (by decide)
theorem h6_court {g : sG} {q : sQ} {x0 : Int32} {x1 : Int32} : wf 1 9 3 (fX6_court g q x0 x1).1 ≠ 9 := by
  unfold fX6_court
  repeat' (with_reducible refine hx_i ?_ ?_)
  all_goals exact hx_g (by decide)
theorem h6_stray {g : sG} {q : sQ} {x0 : Int32} {x1 : Int32} {x2 : Int32} : wf 1 9 3 (fX6_stray g q x0 x1 x2).1 ≠ 9 := by
  unfold fX6_stray
  repeat' (with_reducible refine hv_i ?_ ?_)
  all_goals exact hv_g (by decide)
theorem h6_count {g : sG} {q : sQ} {x0 : Int32} : wf 1 9 9 (fX6_count g q x0).1 ≠ 9 := by
  unfold fX6_count
  repeat' (with_reducible refine hx_i ?_ ?_)
  all_goals exact hx_g (by decide)
theorem h6_transfer {g : sG} {q : sQ} {x0 : Int32} {x1 : Int32} : wf 1 9 3 (fX6_transfer g q x0 x1).1 ≠ 9 := by
  unfold fX6_transfer
  repeat' (with_reducible refine hx_i ?_ ?_)
  all_goals exact hx_g (by decide)
theorem h6_wind {g : sG} {q : sQ} {x0 : Int32} : wf 1 9 9 (fX6_wind g q x0).1 ≠ 9 := by
  unfold fX6_wind
  repeat' (with_reducible refine hx_i ?_ ?_)
  all_goals exact hx_g (by decide)
theorem h6_pass {g : sG} {q : sQ} {x0 : Int32} : wf 9 2 3 (fX6_pass g q x0).1 ≠ 9 := by
  unfold fX6_pass
  repeat' (with_reducible refine hx_i ?_ ?_)
  all_goals exact hx_g (by decide)
theorem h6_offer {g : sG} {q : sQ} {x0 : Int32} {x1 : Int32} : wf 1 2 3 (fX6_offer g q x0 x1).1 ≠ 9 := by
  unfold fX6_offer
  repeat' (with_reducible refine hx_i ?_ ?_)
  all_goals exact hx_g (by decide)
theorem h6_claim {g : sG} {q : sQ} {x0 : Int32} {x1 : Int32} : wf 1 9 3 (fX6_claim g q x0 x1).1 ≠ 9 := by
  unfold fX6_claim
  repeat' (with_reducible refine hx_i ?_ ?_)
  all_goals exact hx_g (by decide)
theorem h6_deposit {g : sG} {q : sQ} {x0 : Int32} : wf 9 2 3 (fX6_deposit g q x0).1 ≠ 9 := by
  unfold fX6_deposit
  repeat' (with_reducible refine hx_i ?_ ?_)
  all_goals exact hx_g (by decide)
theorem h6_withdraw {g : sG} {q : sQ} {x0 : Int32} : wf 9 2 3 (fX6_withdraw g q x0).1 ≠ 9 := by
  unfold fX6_withdraw
  repeat' (with_reducible refine hx_i ?_ ?_)
  all_goals exact hx_g (by decide)
theorem h6_thingOf {g : sG} {q : sQ} {x0 : Int32} {x1 : Int32} : wf 1 2 9 (fX6_thingOf g q x0 x1).1 ≠ 9 := by
  unfold fX6_thingOf
  repeat' (with_reducible refine hx_i ?_ ?_)
  all_goals exact hx_g (by decide)
theorem h6_ticketOf {g : sG} {q : sQ} {x0 : Int32} {x1 : Int32} : wf 1 2 9 (fX6_ticketOf g q x0 x1).1 ≠ 9 := by
  unfold fX6_ticketOf
  repeat' (with_reducible refine hx_i ?_ ?_)
  all_goals exact hx_g (by decide)
theorem h6_interestAnew {g : sG} {q : sQ} {x0 : Int32} : wf 1 9 9 (fX6_interestAnew g q x0).1 ≠ 9 := by
  unfold fX6_interestAnew
  repeat' (with_reducible refine hx_i ?_ ?_)
  all_goals exact hx_g (by decide)
theorem h6_expertOf {g : sG} {q : sQ} {x0 : Int32} {x1 : Int32} : wf 1 2 9 (fX6_expertOf g q x0 x1).1 ≠ 9 := by
  unfold fX6_expertOf
  repeat' (with_reducible refine hx_i ?_ ?_)
  all_goals exact hx_g (by decide)
theorem h6_bears {g : sG} {q : sQ} {x0 : Int32} {x1 : Int32} : wf 1 9 9 (fX6_bears g q x0 x1).1 ≠ 9 := by
  unfold fX6_bears
  repeat' (with_reducible refine hx_i ?_ ?_)
  all_goals exact hx_g (by decide)
theorem h6_money {g : sG} {q : sQ} {x0 : Int32} : wf 9 2 9 (fX6_money g q x0).1 ≠ 9 := by
  unfold fX6_money
  repeat' (with_reducible refine hx_i ?_ ?_)
  all_goals exact hx_g (by decide)
