def Nx (g : sG) (q : sQ) (c : Int32 × Int32 × sG × sQ) : Prop := c.1 ≠ 0 → c.2.2.1 = g ∧ c.2.2.2 = q
def Nv (g : sG) (q : sQ) (c : Int32 × sG × sQ) : Prop := c.1 ≠ 0 → c.2.1 = g ∧ c.2.2 = q
theorem nx_i {g : sG} {q : sQ} {c : Prop} [Decidable c] {a b : Int32 × Int32 × sG × sQ} (h1 : Nx g q a) (h2 : Nx g q b) : Nx g q (if c then a else b) := by split <;> assumption
theorem nv_i {g : sG} {q : sQ} {c : Prop} [Decidable c] {a b : Int32 × sG × sQ} (h1 : Nv g q a) (h2 : Nv g q b) : Nv g q (if c then a else b) := by split <;> assumption
theorem nx_0 {g g1 : sG} {q q1 : sQ} {r : Int32} : Nx g q (0, r, g1, q1) := fun h => absurd rfl h
theorem nv_0 {g g1 : sG} {q q1 : sQ} : Nv g q (0, g1, q1) := fun h => absurd rfl h
theorem nx_g {g : sG} {q : sQ} {c r : Int32} : Nx g q (c, r, g, q) := fun _ => ⟨rfl, rfl⟩
theorem nv_g {g : sG} {q : sQ} {c : Int32} : Nv g q (c, g, q) := fun _ => ⟨rfl, rfl⟩
theorem n6_fashion {g : sG} {q : sQ} {x0 : Int32} {x1 : Int32} : Nx g q (fX6_fashion g q x0 x1) := by
  unfold fX6_fashion
  repeat' (with_reducible refine nx_i ?_ ?_)
  all_goals first | with_reducible exact nx_0 | with_reducible exact nx_g
theorem n6_bias {g : sG} {q : sQ} {x0 : Int32} {x1 : Int32} : Nx g q (fX6_bias g q x0 x1) := by
  unfold fX6_bias
  repeat' (with_reducible refine nx_i ?_ ?_)
  all_goals first | with_reducible exact nx_0 | with_reducible exact nx_g
theorem n6_classOf {g : sG} {q : sQ} {x0 : Int32} {x1 : Int32} : Nx g q (fX6_classOf g q x0 x1) := by
  unfold fX6_classOf
  repeat' (with_reducible refine nx_i ?_ ?_)
  all_goals first | with_reducible exact nx_0 | with_reducible exact nx_g
theorem n6_charter {g : sG} {q : sQ} {x0 : Int32} {x1 : Int32} {x2 : Int32} : Nv g q (fX6_charter g q x0 x1 x2) := by
  unfold fX6_charter
  repeat' (with_reducible refine nv_i ?_ ?_)
  all_goals first | with_reducible exact nv_0 | with_reducible exact nv_g
theorem n6_rate {g : sG} {q : sQ} {x0 : Int32} {x1 : Int32} : Nx g q (fX6_rate g q x0 x1) := by
  unfold fX6_rate
  repeat' (with_reducible refine nx_i ?_ ?_)
  all_goals first | with_reducible exact nx_0 | with_reducible exact nx_g
theorem n6_term {g : sG} {q : sQ} {x0 : Int32} : Nx g q (fX6_term g q x0) := by
  unfold fX6_term
  repeat' (with_reducible refine nx_i ?_ ?_)
  all_goals first | with_reducible exact nx_0 | with_reducible exact nx_g
theorem n6_amnesty {g : sG} {q : sQ} {x0 : Int32} {x1 : Int32} : Nx g q (fX6_amnesty g q x0 x1) := by
  unfold fX6_amnesty
  repeat' (with_reducible refine nx_i ?_ ?_)
  all_goals first | with_reducible exact nx_0 | with_reducible exact nx_g
theorem n6_redeem {g : sG} {q : sQ} {x0 : Int32} {x1 : Int32} : Nx g q (fX6_redeem g q x0 x1) := by
  unfold fX6_redeem
  repeat' (with_reducible refine nx_i ?_ ?_)
  all_goals first | with_reducible exact nx_0 | with_reducible exact nx_g
theorem n6_renew {g : sG} {q : sQ} {x0 : Int32} {x1 : Int32} {x2 : Int32} : Nx g q (fX6_renew g q x0 x1 x2) := by
  unfold fX6_renew
  repeat' (with_reducible refine nx_i ?_ ?_)
  all_goals first | with_reducible exact nx_0 | with_reducible exact nx_g
theorem n6_give {g : sG} {q : sQ} {x0 : Int32} {x1 : Int32} : Nx g q (fX6_give g q x0 x1) := by
  unfold fX6_give
  repeat' (with_reducible refine nx_i ?_ ?_)
  all_goals first | with_reducible exact nx_0 | with_reducible exact nx_g
theorem n6_notice {g : sG} {q : sQ} {x0 : Int32} {x1 : Int32} : Nv g q (fX6_notice g q x0 x1) := by
  unfold fX6_notice
  repeat' (with_reducible refine nv_i ?_ ?_)
  all_goals first | with_reducible exact nv_0 | with_reducible exact nv_g
theorem n6_show {g : sG} {q : sQ} {x0 : Int32} : Nx g q (fX6_show g q x0) := by
  unfold fX6_show
  repeat' (with_reducible refine nx_i ?_ ?_)
  all_goals first | with_reducible exact nx_0 | with_reducible exact nx_g
theorem n6_police {g : sG} {q : sQ} {x0 : Int32} : Nx g q (fX6_police g q x0) := by
  unfold fX6_police
  repeat' (with_reducible refine nx_i ?_ ?_)
  all_goals first | with_reducible exact nx_0 | with_reducible exact nx_g
theorem n6_court {g : sG} {q : sQ} {x0 : Int32} {x1 : Int32} : Nx g q (fX6_court g q x0 x1) := by
  unfold fX6_court
  repeat' (with_reducible refine nx_i ?_ ?_)
  all_goals first | with_reducible exact nx_0 | with_reducible exact nx_g
theorem n6_stray {g : sG} {q : sQ} {x0 : Int32} {x1 : Int32} {x2 : Int32} : Nv g q (fX6_stray g q x0 x1 x2) := by
  unfold fX6_stray
  repeat' (with_reducible refine nv_i ?_ ?_)
  all_goals first | with_reducible exact nv_0 | with_reducible exact nv_g
theorem n6_count {g : sG} {q : sQ} {x0 : Int32} : Nx g q (fX6_count g q x0) := by
  unfold fX6_count
  repeat' (with_reducible refine nx_i ?_ ?_)
  all_goals first | with_reducible exact nx_0 | with_reducible exact nx_g
theorem n6_transfer {g : sG} {q : sQ} {x0 : Int32} {x1 : Int32} : Nx g q (fX6_transfer g q x0 x1) := by
  unfold fX6_transfer
  repeat' (with_reducible refine nx_i ?_ ?_)
  all_goals first | with_reducible exact nx_0 | with_reducible exact nx_g
theorem n6_wind {g : sG} {q : sQ} {x0 : Int32} : Nx g q (fX6_wind g q x0) := by
  unfold fX6_wind
  repeat' (with_reducible refine nx_i ?_ ?_)
  all_goals first | with_reducible exact nx_0 | with_reducible exact nx_g
theorem n6_pass {g : sG} {q : sQ} {x0 : Int32} : Nx g q (fX6_pass g q x0) := by
  unfold fX6_pass
  repeat' (with_reducible refine nx_i ?_ ?_)
  all_goals first | with_reducible exact nx_0 | with_reducible exact nx_g
theorem n6_offer {g : sG} {q : sQ} {x0 : Int32} {x1 : Int32} : Nx g q (fX6_offer g q x0 x1) := by
  unfold fX6_offer
  repeat' (with_reducible refine nx_i ?_ ?_)
  all_goals first | with_reducible exact nx_0 | with_reducible exact nx_g
theorem n6_claim {g : sG} {q : sQ} {x0 : Int32} {x1 : Int32} : Nx g q (fX6_claim g q x0 x1) := by
  unfold fX6_claim
  repeat' (with_reducible refine nx_i ?_ ?_)
  all_goals first | with_reducible exact nx_0 | with_reducible exact nx_g
theorem n6_deposit {g : sG} {q : sQ} {x0 : Int32} : Nx g q (fX6_deposit g q x0) := by
  unfold fX6_deposit
  repeat' (with_reducible refine nx_i ?_ ?_)
  all_goals first | with_reducible exact nx_0 | with_reducible exact nx_g
theorem n6_withdraw {g : sG} {q : sQ} {x0 : Int32} : Nx g q (fX6_withdraw g q x0) := by
  unfold fX6_withdraw
  repeat' (with_reducible refine nx_i ?_ ?_)
  all_goals first | with_reducible exact nx_0 | with_reducible exact nx_g
theorem n6_thingOf {g : sG} {q : sQ} {x0 : Int32} {x1 : Int32} : Nx g q (fX6_thingOf g q x0 x1) := by
  unfold fX6_thingOf
  repeat' (with_reducible refine nx_i ?_ ?_)
  all_goals first | with_reducible exact nx_0 | with_reducible exact nx_g
theorem n6_ticketOf {g : sG} {q : sQ} {x0 : Int32} {x1 : Int32} : Nx g q (fX6_ticketOf g q x0 x1) := by
  unfold fX6_ticketOf
  repeat' (with_reducible refine nx_i ?_ ?_)
  all_goals first | with_reducible exact nx_0 | with_reducible exact nx_g
theorem n6_interestAnew {g : sG} {q : sQ} {x0 : Int32} : Nx g q (fX6_interestAnew g q x0) := by
  unfold fX6_interestAnew
  repeat' (with_reducible refine nx_i ?_ ?_)
  all_goals first | with_reducible exact nx_0 | with_reducible exact nx_g
theorem n6_expertOf {g : sG} {q : sQ} {x0 : Int32} {x1 : Int32} : Nx g q (fX6_expertOf g q x0 x1) := by
  unfold fX6_expertOf
  repeat' (with_reducible refine nx_i ?_ ?_)
  all_goals first | with_reducible exact nx_0 | with_reducible exact nx_g
theorem n6_bears {g : sG} {q : sQ} {x0 : Int32} {x1 : Int32} : Nx g q (fX6_bears g q x0 x1) := by
  unfold fX6_bears
  repeat' (with_reducible refine nx_i ?_ ?_)
  all_goals first | with_reducible exact nx_0 | with_reducible exact nx_g
theorem n6_money {g : sG} {q : sQ} {x0 : Int32} : Nx g q (fX6_money g q x0) := by
  unfold fX6_money
  repeat' (with_reducible refine nx_i ?_ ?_)
  all_goals first | with_reducible exact nx_0 | with_reducible exact nx_g
theorem inv_90 {B m5 m6 nT nK cT cK : Nat} {gc : sG} {q : sQ} {gm : sG} {k : Nat} {v : Int32} (h : INV B m5 m6 nT nK cT cK gc q gm) : INV B m5 m6 nT nK cT cK (sy_up gc 90 k v) q gm := by
  obtain ⟨hR, hI, k3, k4, k5, k6, k7, k8, k9, k10⟩ := h
  refine ⟨Rx_n rfl hR, hI, ?_, k4, A5_c hI.2.1 (by omega) k5, A6_c (by omega) k6, A7_c (by omega) k7, k8, k9, k10⟩
  obtain ⟨h1, h2, h3, h4, h5, h6, ⟨m, hm, h7, h8⟩, h9, h10, h11⟩ := k3
  have hT := hI.2.1
  refine ⟨by rw [up_ne _ _ (by omega)]; exact h1, h2, h3, by rw [up_ne _ _ (by omega)]; exact h4, h5, h6, ⟨m, hm, by rw [up_ne _ _ (by omega)]; exact h7, by rw [up_ne _ _ (by omega), sy_up_o _ _ _ (by omega)]; exact h8⟩, fun i hi => by rw [up_ne _ _ (by omega)]; exact h9 i hi, fun i hi => by rw [up_ne _ _ (by omega)]; exact h10 i hi, fun i hi => by rw [up_ne _ _ (by omega)]; exact h11 i hi⟩
section STP
variable {B nT nK cT cK nT' nK' cT' cK' : Nat} {g : sG} {q : sQ}
theorem one_mem {B m5 m6 nT nK cT cK : Nat} {g1 g2 : sG} {q : sQ} (hh : Hi g1 g2) (h : INV B m5 m6 nT nK cT cK g1 q g2) : INV B m5 m6 nT nK cT cK g2 q g2 := inv_cg hh h
/-- a call that answers: the answer lies in the law's row; the reference then -/
theorem st_yes {a b c : Int32} {C : Int32 × Int32 × sG × sQ} {F : sG → Int32 × sG} (h : INV B 40 40 nT nK cT cK g q g) (hok : ∀ gm, INV B 40 40 nT nK cT cK g q gm → OKr (wf a b c) (B + oB) nT nK cT cK C (F gm)) (hlo : Lo g C.2.2.1) (hhi : ∀ gm, Hi gm (F gm).2) (h0 : C.1 = 0) : INV B 40 40 nT nK cT cK g q (sy_up C.2.2.1 90 0 C.2.1) ∧ (F (sy_up C.2.2.1 90 0 C.2.1)).2 0 0 = 0 ∧ (F (sy_up C.2.2.1 90 0 C.2.1)).1 = C.2.1 ∧ (F (sy_up C.2.2.1 90 0 C.2.1)).2 90 0 = C.2.1 ∧ INV (B + oB) 40 40 nT nK cT cK (F (sy_up C.2.2.1 90 0 C.2.1)).2 C.2.2.2 (F (sy_up C.2.2.1 90 0 C.2.1)).2 := by
  have hl : Lo g (sy_up C.2.2.1 90 0 C.2.1) := lo_up (by omega) hlo
  have hg := inv_mg hl h
  obtain ⟨k1, k2, k3, k4⟩ := hok _ hg
  refine ⟨hg, ?_, (k3 h0).symm, ?_, one_mem (hhi _) (inv_90 k4)⟩
  · rw [← k1, h0]; rfl
  · rw [hhi _ 90 (by omega), sy_up_e]
/-- a call that is refused: nothing changes -/
theorem st_no {a b c : Int32} {C : Int32 × Int32 × sG × sQ} {F : sG → Int32 × sG} (h : INV B 40 40 nT nK cT cK g q g) (hok : ∀ gm, INV B 40 40 nT nK cT cK g q gm → OKr (wf a b c) (B + oB) nT nK cT cK C (F gm)) (hnx : Nx g q C) (hhi : ∀ gm, Hi gm (F gm).2) (h0 : C.1 ≠ 0) : (F g).2 0 0 = wf a b c C.1 ∧ wf a b c C.1 ≠ 9 ∧ INV (B + oB) 40 40 nT nK cT cK (F g).2 q (F g).2 := by
  obtain ⟨k1, k2, k3, k4⟩ := hok g h
  obtain ⟨e1, e2⟩ := hnx h0
  rw [e1, e2] at k4
  exact ⟨k1.symm, k2, one_mem (hhi g) k4⟩
theorem st_yesv {a b c : Int32} {C : Int32 × sG × sQ} {F : sG → sG} (h : INV B 40 40 nT nK cT cK g q g) (hok : ∀ gm, INV B 40 40 nT nK cT cK g q gm → OKv (wf a b c) (B + oB) nT nK cT cK C (F gm)) (hlo : Lo g C.2.1) (hhi : ∀ gm, Hi gm (F gm)) (h0 : C.1 = 0) : INV B 40 40 nT nK cT cK g q C.2.1 ∧ (F C.2.1) 0 0 = 0 ∧ INV (B + oB) 40 40 nT nK cT cK (F C.2.1) C.2.2 (F C.2.1) := by
  have hg := inv_mg hlo h
  obtain ⟨k1, k2, k4⟩ := hok _ hg
  exact ⟨hg, by rw [← k1, h0]; rfl, one_mem (hhi _) k4⟩
theorem st_nov {a b c : Int32} {C : Int32 × sG × sQ} {F : sG → sG} (h : INV B 40 40 nT nK cT cK g q g) (hok : ∀ gm, INV B 40 40 nT nK cT cK g q gm → OKv (wf a b c) (B + oB) nT nK cT cK C (F gm)) (hnx : Nv g q C) (hhi : ∀ gm, Hi gm (F gm)) (h0 : C.1 ≠ 0) : (F g) 0 0 = wf a b c C.1 ∧ wf a b c C.1 ≠ 9 ∧ INV (B + oB) 40 40 nT nK cT cK (F g) q (F g) := by
  obtain ⟨k1, k2, k4⟩ := hok g h
  obtain ⟨e1, e2⟩ := hnx h0
  rw [e1, e2] at k4
  exact ⟨k1.symm, k2, one_mem (hhi g) k4⟩
theorem st_yesn {a b c : Int32} {C : Int32 × Int32 × sG × sQ} {F : sG → Int32 × sG} (h : INV B 40 40 nT nK cT cK g q g) (hok : ∀ gm, INV B 40 40 nT nK cT cK g q gm → OKn (gc := g) (q := q) (wf a b c) (B + oB) nT nK cT cK nT' nK' cT' cK' C (F gm)) (hlo : Lo g C.2.2.1) (hhi : ∀ gm, Hi gm (F gm).2) (h0 : C.1 = 0) : INV B 40 40 nT nK cT cK g q (sy_up C.2.2.1 90 0 C.2.1) ∧ (F (sy_up C.2.2.1 90 0 C.2.1)).2 0 0 = 0 ∧ (F (sy_up C.2.2.1 90 0 C.2.1)).1 = C.2.1 ∧ (F (sy_up C.2.2.1 90 0 C.2.1)).2 90 0 = C.2.1 ∧ INV (B + oB) 40 40 nT' nK' cT' cK' (F (sy_up C.2.2.1 90 0 C.2.1)).2 C.2.2.2 (F (sy_up C.2.2.1 90 0 C.2.1)).2 := by
  have hl : Lo g (sy_up C.2.2.1 90 0 C.2.1) := lo_up (by omega) hlo
  have hg := inv_mg hl h
  obtain ⟨k1, k2, k3, k4, k5⟩ := hok _ hg
  refine ⟨hg, ?_, (k3 h0).symm, ?_, one_mem (hhi _) (inv_90 (k4 h0))⟩
  · rw [← k1, h0]; rfl
  · rw [hhi _ 90 (by omega), sy_up_e]
theorem st_non {a b c : Int32} {C : Int32 × Int32 × sG × sQ} {F : sG → Int32 × sG} (h : INV B 40 40 nT nK cT cK g q g) (hok : ∀ gm, INV B 40 40 nT nK cT cK g q gm → OKn (gc := g) (q := q) (wf a b c) (B + oB) nT nK cT cK nT' nK' cT' cK' C (F gm)) (hhi : ∀ gm, Hi gm (F gm).2) (h0 : C.1 ≠ 0) : (F g).2 0 0 = wf a b c C.1 ∧ wf a b c C.1 ≠ 9 ∧ INV (B + oB) 40 40 nT nK cT cK (F g).2 q (F g).2 := by
  obtain ⟨k1, k2, k3, k4, k5⟩ := hok g h
  exact ⟨k1.symm, k2, one_mem (hhi g) (k5 h0).2.2⟩
end STP
