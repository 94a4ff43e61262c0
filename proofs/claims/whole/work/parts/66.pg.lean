def wf (a b c x : Int32) : Int32 := if x = 0 then 0 else if x = 1 then a else if x = 2 then b else if x = 3 then c else 9
abbrev OKr (w : Int32 → Int32) (B nT nK cT cK : Nat) (c : Int32 × Int32 × sG × sQ) (m : Int32 × sG) : Prop := w c.1 = m.2 0 0 ∧ w c.1 ≠ 9 ∧ (c.1 = 0 → c.2.1 = m.1) ∧ INV B 40 40 nT nK cT cK c.2.2.1 c.2.2.2 m.2
abbrev OKv (w : Int32 → Int32) (B nT nK cT cK : Nat) (c : Int32 × sG × sQ) (m : sG) : Prop := w c.1 = m 0 0 ∧ w c.1 ≠ 9 ∧ INV B 40 40 nT nK cT cK c.2.1 c.2.2 m
abbrev oB : Nat := 4000000
theorem lt_of_toInt {x y : Int32} : (x < y) = (x.toInt < y.toInt) := propext Int32.lt_iff_toInt_lt
theorem le_of_toInt {x y : Int32} : (x ≤ y) = (x.toInt ≤ y.toInt) := propext Int32.le_iff_toInt_le
theorem cv2 (x : Int32) : (x ≤ 2) = (x < 3) := by
  rw [lt_of_toInt, le_of_toInt]
  have h1 : (2 : Int32).toInt = 2 := rfl
  have h2 : (3 : Int32).toInt = 3 := rfl
  exact propext ⟨fun _ => by omega, fun _ => by omega⟩
theorem cv3 (x : Int32) : (x ≤ 3) = (x < 4) := by
  rw [lt_of_toInt, le_of_toInt]
  have h1 : (3 : Int32).toInt = 3 := rfl
  have h2 : (4 : Int32).toInt = 4 := rfl
  exact propext ⟨fun _ => by omega, fun _ => by omega⟩
theorem cv9 (x : Int32) : (x ≤ 9) = (x < 10) := by
  rw [lt_of_toInt, le_of_toInt]
  have h1 : (9 : Int32).toInt = 9 := rfl
  have h2 : (10 : Int32).toInt = 10 := rfl
  exact propext ⟨fun _ => by omega, fun _ => by omega⟩
theorem cvn {n : Nat} (hn : n ≤ 40) (x : Int32) : (x ≤ nI n - 1) = (x < nI n) := by
  rw [lt_of_toInt, le_of_toInt]
  have h1 : (nI n - 1).toInt = (n : Int) - 1 := by
    cases n with
    | zero => decide
    | succ m =>
      rw [← nI_1, Int32.add_sub_cancel, nI_toInt (by omega)]
      omega
  rw [h1, nI_toInt (by omega)]
  exact propext ⟨fun _ => by omega, fun _ => by omega⟩
theorem jof {x : Int32} {n : Nat} (hn : n < 2 ^ 31) (h : 0 ≤ x ∧ x < nI n) : ∃ j, j < n ∧ x = nI j ∧ (nI j).toNatClampNeg = j := by
  have h1 := nI_self h.1
  have h2 := h.2
  rw [h1] at h2
  have h4 : x.toNatClampNeg < 2 ^ 31 := by
    have := Int32.toInt_lt x
    unfold Int32.toNatClampNeg
    omega
  have h3 := (nI_ltI h4 hn).mp h2
  exact ⟨x.toNatClampNeg, h3, h1, nI_clamp h4⟩
theorem jof3 {x : Int32} (h : 0 ≤ x ∧ x < 3) : ∃ j, j < 3 ∧ x = nI j ∧ (nI j).toNatClampNeg = j := jof (n := 3) (by decide) h
theorem jof4 {x : Int32} (h : 0 ≤ x ∧ x < 4) : ∃ j, j < 4 ∧ x = nI j ∧ (nI j).toNatClampNeg = j := jof (n := 4) (by decide) h
theorem jof10 {x : Int32} (h : 0 ≤ x ∧ x < 10) : ∃ j, j < 10 ∧ x = nI j ∧ (nI j).toNatClampNeg = j := jof (n := 10) (by decide) h
section OPS
variable {B nT nK cT cK : Nat} {gc : sG} {q : sQ} {gm : sG} {q' : sQ}
theorem ok_no {a b c code v r : Int32} (h : INV B 40 40 nT nK cT cK gc q gm) (hw : wf a b c code = v) (h9 : v ≠ 9) (hc : code ≠ 0) : OKr (wf a b c) (B + oB) nT nK cT cK (code, 0, gc, q) (r, sy_up gm 0 0 v) :=
  ⟨hw.trans (sy_up_e gm 0 0 v).symm, fun z => h9 (hw.symm.trans z), fun z => absurd z hc, inv_0 (inv_B (Nat.le_add_right _ _) h)⟩
theorem okv_no {a b c code v : Int32} (h : INV B 40 40 nT nK cT cK gc q gm) (hw : wf a b c code = v) (h9 : v ≠ 9) : OKv (wf a b c) (B + oB) nT nK cT cK (code, gc, q) (sy_up gm 0 0 v) :=
  ⟨hw.trans (sy_up_e gm 0 0 v).symm, fun z => h9 (hw.symm.trans z), inv_0 (inv_B (Nat.le_add_right _ _) h)⟩
theorem ok_yes {a b c r r' : Int32} {gc1 gm1 : sG} {q1 : sQ} (hr : r = r') (h0 : gm1 0 0 = 0) (h : INV (B + oB) 40 40 nT nK cT cK gc1 q1 gm1) : OKr (wf a b c) (B + oB) nT nK cT cK (0, r, gc1, q1) (r', gm1) :=
  ⟨h0.symm, by show (0 : Int32) ≠ 9; decide, fun _ => hr, h⟩
theorem okv_yes {a b c : Int32} {gc1 gm1 : sG} {q1 : sQ} (h0 : gm1 0 0 = 0) (h : INV (B + oB) 40 40 nT nK cT cK gc1 q1 gm1) : OKv (wf a b c) (B + oB) nT nK cT cK (0, gc1, q1) gm1 :=
  ⟨h0.symm, by show (0 : Int32) ≠ 9; decide, h⟩
/-- asks only -/
theorem ok_ask {a b c r r' : Int32} (h : INV B 40 40 nT nK cT cK gc q gm) (hr : r = r') : OKr (wf a b c) (B + oB) nT nK cT cK (0, r, gc, q) (r', sy_up gm 0 0 0) :=
  ok_yes hr (sy_up_e _ _ _ _) (inv_0 (inv_B (Nat.le_add_right _ _) h))
theorem e00 (h : INV B 40 40 nT nK cT cK gc q gm) : INV (B + oB) 40 40 nT nK cT cK gc q (sy_up gm 0 0 0) := inv_0 (inv_B (Nat.le_add_right _ _) h)
theorem o_fashion (h : INV B 40 40 nT nK cT cK gc q gm) (x0 x1 : Int32) : OKr (wf 1 2 9) (B + oB) nT nK cT cK (fX6_fashion gc q x0 x1) (fX7_fashion gm q' x0 x1) := by
  unfold fX6_fashion fX7_fashion
  simp only [cv3]
  by_cases c0 : 0 ≤ x0 ∧ x0 < 4
  · obtain ⟨k, hk, rfl, ek⟩ := jof4 c0
    by_cases c1 : 0 ≤ x1 ∧ x1 ≤ 200
    · simp only [if_pos c0, if_pos c1, ek]
      exact ok_yes (rd h.1 (a := 14) (b := k) rfl) (by rw [up_ne _ _ (by omega), sy_up_e]) (inv_p (a := 14) (b := k) rfl (by omega) (by omega) (by omega) (by omega) (by omega) (by omega) (e00 h))
    · simp only [if_pos c0, if_neg c1]
      exact ok_no h rfl (by decide) (by decide)
  · simp only [if_neg c0]
    exact ok_no h rfl (by decide) (by decide)
theorem o_bias (h : INV B 40 40 nT nK cT cK gc q gm) (x0 x1 : Int32) : OKr (wf 1 2 9) (B + oB) nT nK cT cK (fX6_bias gc q x0 x1) (fX7_bias gm q' x0 x1) := by
  unfold fX6_bias fX7_bias
  simp only [cv3]
  by_cases c0 : 0 ≤ x0 ∧ x0 < 4
  · obtain ⟨k, hk, rfl, ek⟩ := jof4 c0
    by_cases c1 : (-20) ≤ x1 ∧ x1 ≤ 20
    · simp only [if_pos c0, if_pos c1, ek]
      exact ok_yes (rd h.1 (a := 15) (b := k) (if_pos hk)) (by rw [up_ne _ _ (by omega), sy_up_e]) (inv_p (a := 15) (b := k) (if_pos hk) (by omega) (by omega) (by omega) (by omega) (by omega) (by omega) (e00 h))
    · simp only [if_pos c0, if_neg c1]
      exact ok_no h rfl (by decide) (by decide)
  · simp only [if_neg c0]
    exact ok_no h rfl (by decide) (by decide)
theorem o_classOf (h : INV B 40 40 nT nK cT cK gc q gm) (x0 x1 : Int32) : OKr (wf 1 9 9) (B + oB) nT nK cT cK (fX6_classOf gc q x0 x1) (fX7_classOf gm q' x0 x1) := by
  unfold fX6_classOf fX7_classOf
  simp only [cv9, cv2]
  by_cases c0 : 0 ≤ x0 ∧ x0 < 10
  · obtain ⟨p, hp, rfl, ep⟩ := jof10 c0
    by_cases c1 : 0 ≤ x1 ∧ x1 < 3
    · obtain ⟨k, hk, rfl, ek⟩ := jof3 c1
      simp only [if_pos c0, if_pos c1, ek, ep]
      obtain ⟨t1, t2, t3⟩ := i_cg h hp
      exact ok_yes (by rw [h.2.2.1.2.2.2.2.2.2.2.2.2 _ t1, t2]) (by rw [up_ne _ _ (by omega), sy_up_e]) (inv_class hp hk (e00 h))
    · simp only [if_pos c0, if_neg c1]
      exact ok_no h rfl (by decide) (by decide)
  · simp only [if_neg c0]
    exact ok_no h rfl (by decide) (by decide)
theorem o_charter (h : INV B 40 40 nT nK cT cK gc q gm) (x0 x1 x2 : Int32) : OKv (wf 1 2 9) (B + oB) nT nK cT cK (fX6_charter gc q x0 x1 x2) (fX7_charter gm q' x0 x1 x2) := by
  unfold fX6_charter fX7_charter
  simp only [cv2]
  by_cases c0 : 0 ≤ x0 ∧ x0 < 3
  · obtain ⟨k, hk, rfl, ek⟩ := jof3 c0
    by_cases c1 : 10 ≤ x1 ∧ x1 ≤ 90
    · by_cases c2 : 0 ≤ x2 ∧ x2 ≤ 100000
      · simp only [if_pos c0, if_pos c1, if_pos c2, ek]
        exact okv_yes (by rw [up_ne _ _ (by omega), up_ne _ _ (by omega), sy_up_e]) (inv_p (a := 20) (b := k) (if_pos hk) (by omega) (by omega) (by omega) (by omega) (by omega) (by omega) (inv_p (a := 19) (b := k) (if_pos hk) (by omega) (by omega) (by omega) (by omega) (by omega) (by omega) (e00 h)))
      · simp only [if_pos c0, if_pos c1, if_neg c2]
        exact okv_no h rfl (by decide)
    · simp only [if_pos c0, if_neg c1]
      exact okv_no h rfl (by decide)
  · simp only [if_neg c0]
    by_cases c1 : 10 ≤ x1 ∧ x1 ≤ 90 <;> by_cases c2 : 0 ≤ x2 ∧ x2 ≤ 100000 <;> simp only [c1, c2, if_true, if_false, and_self, and_true, and_false] <;> exact okv_no h rfl (by decide)
theorem o_term (h : INV B 40 40 nT nK cT cK gc q gm) (x0 : Int32) : OKr (wf 9 1 9) (B + oB) nT nK cT cK (fX6_term gc q x0) (fX7_term gm q' x0) := by
  unfold fX6_term fX7_term
  by_cases c0 : 14 ≤ x0 ∧ x0 ≤ 1000
  · simp only [if_pos c0]
    exact ok_yes (rd h.1 (a := 0) (b := 27) rfl) (by rw [up_ne _ _ (by omega), sy_up_e]) (inv_p (a := 0) (b := 27) rfl (by omega) (by omega) (by omega) (by omega) (by omega) (by omega) (e00 h))
  · simp only [if_neg c0]
    exact ok_no h rfl (by decide) (by decide)
theorem i32_bd {x a b : Int32} (h : a ≤ x ∧ x ≤ b) : a.toInt ≤ x.toInt ∧ x.toInt ≤ b.toInt := ⟨Int32.le_iff_toInt_le.mp h.1, Int32.le_iff_toInt_le.mp h.2⟩
theorem o_rate (h : INV B 40 40 nT nK cT cK gc q gm) (x0 x1 : Int32) : OKr (wf 1 2 3) (B + oB) nT nK cT cK (fX6_rate gc q x0 x1) (fX7_rate gm q' x0 x1) := by
  unfold fX6_rate fX7_rate
  simp only [cv2]
  by_cases c0 : 0 ≤ x0 ∧ x0 < 3
  · by_cases c1 : 0 ≤ x1 ∧ x1 ≤ 100
    · simp only [if_pos c0, if_pos c1]
      obtain ⟨t, ht, e20⟩ := h.2.1.2.2.2.2.1
      have e67 : gc 67 3 = gm 0 20 := rd h.1 (a := 0) (b := 20) rfl
      have e60 : gc 60 9 = gm 0 1 := rd h.1 (a := 0) (b := 1) rfl
      by_cases c2 : t = 30
      · have k1 : fX2_takesRate gc q = 0 := by
          unfold fX2_takesRate
          rw [e67, e20, c2]
          rfl
        rw [if_neg (fun z => z k1), if_pos (show gm 0 20 = 30 by rw [e20, c2]; rfl)]
        exact ok_no h rfl (by decide) (by decide)
      · have k1 : ¬ fX2_takesRate gc q = 0 := by
          unfold fX2_takesRate
          rw [e67, e20, if_neg (fun (z : (30 : Int32) ≤ nI t) => c2 (by have := (nI_leI (a := 30) (b := t) (by decide) (by omega)).mp z; omega))]
          decide
        rw [if_pos k1, if_neg (show ¬ gm 0 20 = 30 from fun z => c2 ((nI_eq (a := t) (b := 30) (by omega) (by decide)).mp (e20.symm.trans z)))]
        unfold fX2_addRate
        rw [if_neg k1, e67, e60]
        have hs : x0 = 0 ∨ x0 = 1 ∨ x0 = 2 := by
          obtain ⟨k, hk, rfl, -⟩ := jof3 c0
          rcases (show k = 0 ∨ k = 1 ∨ k = 2 by omega) with rfl | rfl | rfl
          · exact Or.inl rfl
          · exact Or.inr (Or.inl rfl)
          · exact Or.inr (Or.inr rfl)
        have hb := i32_bd c1
        have hc : (gm 0 20).toNatClampNeg = t := by rw [e20]; exact nI_clamp (by omega)
        have hi := inv_rate (t := t) (x := x0) (v := x1) (show sy_up gm 0 0 0 0 20 = nI t by rw [up_ne _ _ (by omega)]; exact e20) (by omega) hb.1 hb.2 (e00 h)
        rw [up_ne (k' := 1) gm _ (by omega)] at hi
        rw [hc, e20, nI_1]
        exact ok_yes (q_rateOn (e00 h) hs _) (by rw [up_ne _ _ (by omega), up_ne _ _ (by omega), up_ne _ _ (by omega), up_ne _ _ (by omega), sy_up_e]) hi
    · simp only [if_pos c0, if_neg c1]
      exact ok_no h rfl (by decide) (by decide)
  · simp only [if_neg c0]
    exact ok_no h rfl (by decide) (by decide)
theorem o_amnesty (h : INV B 40 40 nT nK cT cK gc q gm) (x0 x1 : Int32) : OKr (wf 9 1 2) (B + oB) nT nK cT cK (fX6_amnesty gc q x0 x1) (fX7_amnesty gm q' x0 x1) := by
  unfold fX6_amnesty fX7_amnesty
  by_cases c0 : 0 ≤ x0 ∧ x0 ≤ 5000
  · by_cases c1 : x0 ≤ x1 ∧ x1 ≤ 5000
    · simp only [if_pos c0, if_pos c1]
      obtain ⟨t, ht, e24⟩ := h.2.1.2.2.2.2.2.1
      have e67 : gc 67 6 = gm 0 24 := rd h.1 (a := 0) (b := 24) rfl
      by_cases c2 : t = 10
      · have k1 : fX2_takesAmnesty gc q = 0 := by
          unfold fX2_takesAmnesty
          rw [e67, e24, c2]
          rfl
        rw [if_neg (fun z => z k1), if_pos (show gm 0 24 = 10 by rw [e24, c2]; rfl)]
        exact ok_no h rfl (by decide) (by decide)
      · have k1 : ¬ fX2_takesAmnesty gc q = 0 := by
          unfold fX2_takesAmnesty
          rw [e67, e24, if_neg (fun (z : (10 : Int32) ≤ nI t) => c2 (by have := (nI_leI (a := 10) (b := t) (by decide) (by omega)).mp z; omega))]
          decide
        rw [if_pos k1, if_neg (show ¬ gm 0 24 = 10 from fun z => c2 ((nI_eq (a := t) (b := 10) (by omega) (by decide)).mp (e24.symm.trans z)))]
        unfold fX2_addAmnesty
        rw [if_neg k1, e67]
        have hc : (gm 0 24).toNatClampNeg = t := by rw [e24]; exact nI_clamp (by omega)
        have hi := inv_amnesty (t := t) (x := x0) (v := x1) (show sy_up gm 0 0 0 0 24 = nI t by rw [up_ne _ _ (by omega)]; exact e24) (by omega) (e00 h)
        rw [hc, e24, nI_1]
        exact ok_yes (sy_up_e _ _ _ _) (by rw [up_ne _ _ (by omega), up_ne _ _ (by omega), up_ne _ _ (by omega), sy_up_e]) hi
    · simp only [if_pos c0, if_neg c1]
      exact ok_no h rfl (by decide) (by decide)
  · simp only [if_neg c0]
    exact ok_no h rfl (by decide) (by decide)
theorem o_give (h : INV B 40 40 nT nK cT cK gc q gm) (x0 x1 : Int32) : OKr (wf 1 9 2) (B + oB) nT nK cT cK (fX6_give gc q x0 x1) (fX7_give gm q' x0 x1) := by
  have hK := inv_K h
  unfold fX6_give fX7_give
  rw [h.2.1.2.2.1, h.2.2.1.2.2.2.1]
  simp only [cv9, cvn hK]
  by_cases c0 : 0 ≤ x0 ∧ x0 < nI nK
  · obtain ⟨j, hj, rfl, ej⟩ := jof (by omega) c0
    by_cases c1 : 0 ≤ x1 ∧ x1 < 10
    · simp only [if_pos c0, if_pos c1, ej]
      unfold fX4_isOpenOrSold
      rw [r_K h (f := 3) (o := 34) (if_pos (by omega)), r_K h (f := 7) (o := 39) (if_pos (by omega)), r_K h (f := 6) (o := 33) (if_pos (by omega))]
      have hy : OKr (wf 1 9 2) (B + oB) nT nK cT cK (0, gm 33 j, sy_up gc (200 + j) 6 x1, q) (gm 33 j, sy_up (sy_up gm 0 0 0) 33 j x1) :=
        ok_yes rfl (by rw [up_ne _ _ (by omega), sy_up_e]) (inv_p (a := 33) (b := j) (if_pos (by omega)) (by omega) (by omega) (by omega) (by omega) (by omega) (by omega) (e00 h))
      by_cases c2 : gm 34 j = 0
      · by_cases c3 : gm 39 j = 0
        · simp only [if_pos c2, if_pos c3]
          rw [if_neg (by decide)]
          exact hy
        · by_cases c4 : gm 39 j = 2
          · simp only [if_pos c2, if_neg c3, if_pos c4]
            rw [if_neg (by decide)]
            exact hy
          · simp only [if_pos c2, if_neg c3, if_neg c4, if_true]
            exact ok_no h rfl (by decide) (by decide)
      · simp only [if_neg c2]
        exact ok_no h rfl (by decide) (by decide)
    · simp only [if_pos c0, if_neg c1]
      exact ok_no h rfl (by decide) (by decide)
  · simp only [if_neg c0]
    exact ok_no h rfl (by decide) (by decide)
end OPS
