def Lo (g g' : sG) : Prop := ∀ o, o < 60 → g' o = g o
def Hi (g g' : sG) : Prop := ∀ o, 60 ≤ o → g' o = g o
theorem lo_rf {g : sG} : Lo g g := fun _ _ => rfl
theorem hi_rf {g : sG} : Hi g g := fun _ _ => rfl
theorem lo_up {g g' : sG} {o k : Nat} {v : Int32} (ho : 60 ≤ o) (h : Lo g g') : Lo g (sy_up g' o k v) := fun o' h' => by rw [sy_up_o _ _ _ (by omega)]; exact h o' h'
theorem hi_up {g g' : sG} {o k : Nat} {v : Int32} (ho : o < 60) (h : Hi g g') : Hi g (sy_up g' o k v) := fun o' h' => by rw [sy_up_o _ _ _ (by omega)]; exact h o' h'
theorem lo_row {g g' : sG} {o : Nat} {f : Nat → Int32} (ho : 60 ≤ o) (h : Lo g g') : Lo g (va_up g' o f) := fun o' h' => by rw [va_up_ne _ _ (by omega)]; exact h o' h'
theorem lo_tr {g g1 g2 : sG} (h1 : Lo g g1) (h2 : Lo g1 g2) : Lo g g2 := fun o h => (h2 o h).trans (h1 o h)
theorem hi_tr {g g1 g2 : sG} (h1 : Hi g g1) (h2 : Hi g1 g2) : Hi g g2 := fun o h => (h2 o h).trans (h1 o h)
theorem lo_mv {g g' : sG} {q : sQ} {x : Int32} (h : Lo g g') : Lo g (fX5_move g' q x) := by
  unfold fX5_move
  split
  · exact lo_up (by omega) (lo_up (by omega) h)
  · exact lo_up (by omega) (lo_up (by omega) (lo_up (by omega) h))
theorem lo_cl {g g' : sG} {q : sQ} {j : Nat} {x : Int32} (h : Lo g g') : Lo g (fX4_close g' q j x).1 := by
  unfold fX4_close fX3_leave
  exact lo_up (by omega) (lo_up (by omega) (lo_up (by omega) (lo_up (by omega) h)))
theorem lo_rs {g g' : sG} {q : sQ} {j : Nat} (h : Lo g g') : Lo g (fX6_releaseSurplus g' q j).2 := by
  unfold fX6_releaseSurplus
  exact lo_mv (q := q) (lo_up (by omega) (lo_up (by omega) h))
theorem lo_ct {g g' : sG} {q : sQ} {i : Nat} {x y : Int32} (h : Lo g g') : Lo g (fX3_comeTo g' q i x y) := by
  unfold fX3_comeTo
  split
  · exact h
  · exact lo_up (by omega) (lo_up (by omega) h)
theorem lo_bg {g g' : sG} {q : sQ} {j : Nat} {x y : Int32} (h : Lo g g') : Lo g (fX4_begin g' q j x y) := by
  unfold fX4_begin
  exact lo_up (by omega) (lo_up (by omega) h)
theorem lo_ar {g g' : sG} {q : sQ} {x y z : Int32} (h : Lo g g') : Lo g (fX2_addRate g' q x y z) := by
  unfold fX2_addRate
  split
  · exact h
  · exact lo_up (by omega) (lo_up (by omega) (lo_up (by omega) (lo_up (by omega) h)))
theorem lo_aa {g g' : sG} {q : sQ} {x y : Int32} (h : Lo g g') : Lo g (fX2_addAmnesty g' q x y) := by
  unfold fX2_addAmnesty
  split
  · exact h
  · exact lo_up (by omega) (lo_up (by omega) (lo_up (by omega) h))
theorem lo_we {g g' : sG} {q : sQ} {i : Nat} {x : Int32} (h : Lo g g') : Lo g (fX3_wearOn g' q i x) := by
  unfold fX3_wearOn
  split
  · exact h
  · split
    · exact h
    · split
      · split
        · exact h
        · exact lo_up (by omega) h
      · exact lo_up (by omega) h
theorem lo_en {g g' : sG} {q : sQ} {j : Nat} {x : Int32} (h : Lo g g') : Lo g (fX4_endNoticeOn g' q j x) := by
  unfold fX4_endNoticeOn
  split
  · exact h
  · split
    · exact h
    · exact lo_up (by omega) (lo_up (by omega) h)
theorem lo_cn {g : sG} {q : sQ} {x0 : Int32} : ∀ n, Lo g (lX6_count g q x0 n).2.2
  | 0 => lo_rf
  | n + 1 => by
    unfold lX6_count
    have ih := lo_cn (g := g) (q := q) (x0 := x0) n
    split
    · exact ih
    · split
      · split
        · exact lo_up (by omega) ih
        · split <;> exact ih
      · exact ih
theorem lo_wd {g : sG} {q : sQ} {x0 : Int32} : ∀ n, Lo g (lX6_wind g q x0 n).2
  | 0 => lo_rf
  | n + 1 => by
    unfold lX6_wind
    have ih := lo_wd (g := g) (q := q) (x0 := x0) n
    split
    · split
      · exact ih
      · split
        · exact lo_up (by omega) ih
        · exact ih
    · exact ih
theorem lo_dA {g : sG} {q : sQ} : ∀ n, Lo g (lX6_dayA g q n)
  | 0 => lo_up (by omega) lo_rf
  | n + 1 => lo_we (lo_dA n)
theorem lo_dB {g : sG} {q : sQ} : ∀ n, Lo g (lX6_dayB g q n)
  | 0 => lo_dA _
  | n + 1 => lo_en (lo_dB n)
theorem lo_dC {g : sG} {q : sQ} : ∀ n, Lo g (lX6_dayC g q n)
  | 0 => lo_dB _
  | n + 1 => by
    unfold lX6_dayC
    split
    · exact lo_dC n
    · exact lo_up (by omega) (lo_rs (lo_dC n))
theorem lo_ps {g : sG} {q : sQ} {x0 : Int32} : ∀ n, Lo g (lX6_pass g q x0 n)
  | 0 => lo_rf
  | n + 1 => lo_tr (lo_ps n) (lo_dC _)
theorem hi_cm {g g' : sG} {q : sQ} {x0 x1 : Int32} (h : Hi g g') : Hi g (fX7_come g' q x0 x1) := by
  unfold fX7_come
  split <;> exact hi_up (by omega) (hi_up (by omega) h)
theorem hi_cn {g : sG} {q : sQ} {x0 : Int32} : ∀ n, Hi g (lX7_count g q x0 n).2.2
  | 0 => hi_up (by omega) hi_rf
  | n + 1 => by
    unfold lX7_count
    have ih := hi_cn (g := g) (q := q) (x0 := x0) n
    split
    · exact hi_up (by omega) ih
    · split
      · split <;> exact hi_up (by omega) ih
      · split <;> exact hi_up (by omega) ih
theorem hi_wd {g : sG} {q : sQ} {x0 : Int32} : ∀ n, Hi g (lX7_wind g q x0 n).2
  | 0 => hi_up (by omega) hi_rf
  | n + 1 => by
    unfold lX7_wind
    have ih := hi_wd (g := g) (q := q) (x0 := x0) n
    split
    · exact hi_up (by omega) ih
    · split
      · split <;> exact hi_up (by omega) ih
      · exact hi_up (by omega) ih
theorem hi_pA {g : sG} {q : sQ} : ∀ n, Hi g (lX7_passA g q n)
  | 0 => hi_up (by omega) hi_rf
  | n + 1 => by
    unfold lX7_passA
    have ih := hi_pA (g := g) (q := q) n
    repeat' split
    all_goals exact hi_up (by omega) ih
theorem hi_pB {g : sG} {q : sQ} : ∀ n, Hi g (lX7_passB g q n)
  | 0 => hi_pA _
  | n + 1 => by
    unfold lX7_passB
    have ih := hi_pB (g := g) (q := q) n
    repeat' split
    all_goals first
      | exact ih
      | exact hi_up (by omega) (hi_up (by omega) ih)
      | exact hi_up (by omega) (hi_up (by omega) (hi_up (by omega) (hi_up (by omega) ih)))
      | exact hi_up (by omega) (hi_up (by omega) (hi_up (by omega) (hi_up (by omega) (hi_up (by omega) (hi_up (by omega) ih)))))
theorem hi_ps {g : sG} {q : sQ} {x0 : Int32} : ∀ n, Hi g (lX7_pass g q x0 n)
  | 0 => hi_up (by omega) hi_rf
  | n + 1 => hi_tr (hi_ps n) (hi_pB _)
theorem hi_i2 {g : sG} {c : Prop} [Decidable c] {a b : Int32 × sG} (h1 : Hi g a.2) (h2 : Hi g b.2) : Hi g (if c then a else b).2 := by split <;> assumption
theorem hi_iv {g : sG} {c : Prop} [Decidable c] {a b : sG} (h1 : Hi g a) (h2 : Hi g b) : Hi g (if c then a else b) := by split <;> assumption
theorem lo_i2 {g : sG} {c : Prop} [Decidable c] {a b : Int32 × Int32 × sG × sQ} (h1 : Lo g a.2.2.1) (h2 : Lo g b.2.2.1) : Lo g (if c then a else b).2.2.1 := by split <;> assumption
theorem lo_iv {g : sG} {c : Prop} [Decidable c] {a b : Int32 × sG × sQ} (h1 : Lo g a.2.1) (h2 : Lo g b.2.1) : Lo g (if c then a else b).2.1 := by split <;> assumption
theorem f6_thing {g : sG} {q : sQ} {nT : Nat} {x0 x1 x2 : Int32} : Lo g (fX6_thing g q nT x0 x1 x2).2.2.1 := by
  unfold fX6_thing fX6_thingM fX3_init
  repeat' (first | with_reducible refine lo_i2 ?_ ?_ | with_reducible refine lo_iv ?_ ?_)
  all_goals (try dsimp only)
  all_goals (repeat (first | with_reducible refine lo_up (by omega) ?_ | with_reducible refine lo_mv ?_ | with_reducible refine lo_cl ?_ | with_reducible refine lo_rs ?_ | with_reducible refine lo_ct ?_ | with_reducible refine lo_bg ?_ | with_reducible refine lo_ar ?_ | with_reducible refine lo_aa ?_ | with_reducible refine lo_row (by omega) ?_))
  all_goals first | with_reducible exact lo_rf | with_reducible exact lo_cn _ | with_reducible exact lo_wd _ | with_reducible exact lo_ps _
theorem f7_thing {g : sG} {q : sQ} {x0 x1 x2 : Int32} : Hi g (fX7_thing g q x0 x1 x2).2 := by
  unfold fX7_thing
  repeat' (first | with_reducible refine hi_i2 ?_ ?_ | with_reducible refine hi_iv ?_ ?_)
  all_goals (try dsimp only)
  all_goals (repeat (first | with_reducible refine hi_up (by omega) ?_ | with_reducible refine hi_cm ?_))
  all_goals first | with_reducible exact hi_rf | with_reducible exact hi_cn _ | with_reducible exact hi_wd _ | with_reducible exact hi_ps _
theorem f6_fashion {g : sG} {q : sQ} {x0 : Int32} {x1 : Int32} : Lo g (fX6_fashion g q x0 x1).2.2.1 := by
  unfold fX6_fashion
  repeat' (first | with_reducible refine lo_i2 ?_ ?_ | with_reducible refine lo_iv ?_ ?_)
  all_goals (try dsimp only)
  all_goals (repeat (first | with_reducible refine lo_up (by omega) ?_ | with_reducible refine lo_mv ?_ | with_reducible refine lo_cl ?_ | with_reducible refine lo_rs ?_ | with_reducible refine lo_ct ?_ | with_reducible refine lo_bg ?_ | with_reducible refine lo_ar ?_ | with_reducible refine lo_aa ?_ | with_reducible refine lo_row (by omega) ?_))
  all_goals first | with_reducible exact lo_rf | with_reducible exact lo_cn _ | with_reducible exact lo_wd _ | with_reducible exact lo_ps _
theorem f7_fashion {g : sG} {q : sQ} {x0 x1 : Int32} : Hi g (fX7_fashion g q x0 x1).2 := by
  unfold fX7_fashion
  repeat' (first | with_reducible refine hi_i2 ?_ ?_ | with_reducible refine hi_iv ?_ ?_)
  all_goals (try dsimp only)
  all_goals (repeat (first | with_reducible refine hi_up (by omega) ?_ | with_reducible refine hi_cm ?_))
  all_goals first | with_reducible exact hi_rf | with_reducible exact hi_cn _ | with_reducible exact hi_wd _ | with_reducible exact hi_ps _
theorem f6_bias {g : sG} {q : sQ} {x0 : Int32} {x1 : Int32} : Lo g (fX6_bias g q x0 x1).2.2.1 := by
  unfold fX6_bias
  repeat' (first | with_reducible refine lo_i2 ?_ ?_ | with_reducible refine lo_iv ?_ ?_)
  all_goals (try dsimp only)
  all_goals (repeat (first | with_reducible refine lo_up (by omega) ?_ | with_reducible refine lo_mv ?_ | with_reducible refine lo_cl ?_ | with_reducible refine lo_rs ?_ | with_reducible refine lo_ct ?_ | with_reducible refine lo_bg ?_ | with_reducible refine lo_ar ?_ | with_reducible refine lo_aa ?_ | with_reducible refine lo_row (by omega) ?_))
  all_goals first | with_reducible exact lo_rf | with_reducible exact lo_cn _ | with_reducible exact lo_wd _ | with_reducible exact lo_ps _
theorem f7_bias {g : sG} {q : sQ} {x0 x1 : Int32} : Hi g (fX7_bias g q x0 x1).2 := by
  unfold fX7_bias
  repeat' (first | with_reducible refine hi_i2 ?_ ?_ | with_reducible refine hi_iv ?_ ?_)
  all_goals (try dsimp only)
  all_goals (repeat (first | with_reducible refine hi_up (by omega) ?_ | with_reducible refine hi_cm ?_))
  all_goals first | with_reducible exact hi_rf | with_reducible exact hi_cn _ | with_reducible exact hi_wd _ | with_reducible exact hi_ps _
theorem f6_classOf {g : sG} {q : sQ} {x0 : Int32} {x1 : Int32} : Lo g (fX6_classOf g q x0 x1).2.2.1 := by
  unfold fX6_classOf
  repeat' (first | with_reducible refine lo_i2 ?_ ?_ | with_reducible refine lo_iv ?_ ?_)
  all_goals (try dsimp only)
  all_goals (repeat (first | with_reducible refine lo_up (by omega) ?_ | with_reducible refine lo_mv ?_ | with_reducible refine lo_cl ?_ | with_reducible refine lo_rs ?_ | with_reducible refine lo_ct ?_ | with_reducible refine lo_bg ?_ | with_reducible refine lo_ar ?_ | with_reducible refine lo_aa ?_ | with_reducible refine lo_row (by omega) ?_))
  all_goals first | with_reducible exact lo_rf | with_reducible exact lo_cn _ | with_reducible exact lo_wd _ | with_reducible exact lo_ps _
theorem f7_classOf {g : sG} {q : sQ} {x0 x1 : Int32} : Hi g (fX7_classOf g q x0 x1).2 := by
  unfold fX7_classOf
  repeat' (first | with_reducible refine hi_i2 ?_ ?_ | with_reducible refine hi_iv ?_ ?_)
  all_goals (try dsimp only)
  all_goals (repeat (first | with_reducible refine hi_up (by omega) ?_ | with_reducible refine hi_cm ?_))
  all_goals first | with_reducible exact hi_rf | with_reducible exact hi_cn _ | with_reducible exact hi_wd _ | with_reducible exact hi_ps _
theorem f6_charter {g : sG} {q : sQ} {x0 : Int32} {x1 : Int32} {x2 : Int32} : Lo g (fX6_charter g q x0 x1 x2).2.1 := by
  unfold fX6_charter
  repeat' (first | with_reducible refine lo_i2 ?_ ?_ | with_reducible refine lo_iv ?_ ?_)
  all_goals (try dsimp only)
  all_goals (repeat (first | with_reducible refine lo_up (by omega) ?_ | with_reducible refine lo_mv ?_ | with_reducible refine lo_cl ?_ | with_reducible refine lo_rs ?_ | with_reducible refine lo_ct ?_ | with_reducible refine lo_bg ?_ | with_reducible refine lo_ar ?_ | with_reducible refine lo_aa ?_ | with_reducible refine lo_row (by omega) ?_))
  all_goals first | with_reducible exact lo_rf | with_reducible exact lo_cn _ | with_reducible exact lo_wd _ | with_reducible exact lo_ps _
theorem f7_charter {g : sG} {q : sQ} {x0 x1 x2 : Int32} : Hi g (fX7_charter g q x0 x1 x2) := by
  unfold fX7_charter
  repeat' (first | with_reducible refine hi_i2 ?_ ?_ | with_reducible refine hi_iv ?_ ?_)
  all_goals (try dsimp only)
  all_goals (repeat (first | with_reducible refine hi_up (by omega) ?_ | with_reducible refine hi_cm ?_))
  all_goals first | with_reducible exact hi_rf | with_reducible exact hi_cn _ | with_reducible exact hi_wd _ | with_reducible exact hi_ps _
theorem f6_rate {g : sG} {q : sQ} {x0 : Int32} {x1 : Int32} : Lo g (fX6_rate g q x0 x1).2.2.1 := by
  unfold fX6_rate
  repeat' (first | with_reducible refine lo_i2 ?_ ?_ | with_reducible refine lo_iv ?_ ?_)
  all_goals (try dsimp only)
  all_goals (repeat (first | with_reducible refine lo_up (by omega) ?_ | with_reducible refine lo_mv ?_ | with_reducible refine lo_cl ?_ | with_reducible refine lo_rs ?_ | with_reducible refine lo_ct ?_ | with_reducible refine lo_bg ?_ | with_reducible refine lo_ar ?_ | with_reducible refine lo_aa ?_ | with_reducible refine lo_row (by omega) ?_))
  all_goals first | with_reducible exact lo_rf | with_reducible exact lo_cn _ | with_reducible exact lo_wd _ | with_reducible exact lo_ps _
theorem f7_rate {g : sG} {q : sQ} {x0 x1 : Int32} : Hi g (fX7_rate g q x0 x1).2 := by
  unfold fX7_rate
  repeat' (first | with_reducible refine hi_i2 ?_ ?_ | with_reducible refine hi_iv ?_ ?_)
  all_goals (try dsimp only)
  all_goals (repeat (first | with_reducible refine hi_up (by omega) ?_ | with_reducible refine hi_cm ?_))
  all_goals first | with_reducible exact hi_rf | with_reducible exact hi_cn _ | with_reducible exact hi_wd _ | with_reducible exact hi_ps _
theorem f6_term {g : sG} {q : sQ} {x0 : Int32} : Lo g (fX6_term g q x0).2.2.1 := by
  unfold fX6_term
  repeat' (first | with_reducible refine lo_i2 ?_ ?_ | with_reducible refine lo_iv ?_ ?_)
  all_goals (try dsimp only)
  all_goals (repeat (first | with_reducible refine lo_up (by omega) ?_ | with_reducible refine lo_mv ?_ | with_reducible refine lo_cl ?_ | with_reducible refine lo_rs ?_ | with_reducible refine lo_ct ?_ | with_reducible refine lo_bg ?_ | with_reducible refine lo_ar ?_ | with_reducible refine lo_aa ?_ | with_reducible refine lo_row (by omega) ?_))
  all_goals first | with_reducible exact lo_rf | with_reducible exact lo_cn _ | with_reducible exact lo_wd _ | with_reducible exact lo_ps _
theorem f7_term {g : sG} {q : sQ} {x0 : Int32} : Hi g (fX7_term g q x0).2 := by
  unfold fX7_term
  repeat' (first | with_reducible refine hi_i2 ?_ ?_ | with_reducible refine hi_iv ?_ ?_)
  all_goals (try dsimp only)
  all_goals (repeat (first | with_reducible refine hi_up (by omega) ?_ | with_reducible refine hi_cm ?_))
  all_goals first | with_reducible exact hi_rf | with_reducible exact hi_cn _ | with_reducible exact hi_wd _ | with_reducible exact hi_ps _
theorem f6_amnesty {g : sG} {q : sQ} {x0 : Int32} {x1 : Int32} : Lo g (fX6_amnesty g q x0 x1).2.2.1 := by
  unfold fX6_amnesty
  repeat' (first | with_reducible refine lo_i2 ?_ ?_ | with_reducible refine lo_iv ?_ ?_)
  all_goals (try dsimp only)
  all_goals (repeat (first | with_reducible refine lo_up (by omega) ?_ | with_reducible refine lo_mv ?_ | with_reducible refine lo_cl ?_ | with_reducible refine lo_rs ?_ | with_reducible refine lo_ct ?_ | with_reducible refine lo_bg ?_ | with_reducible refine lo_ar ?_ | with_reducible refine lo_aa ?_ | with_reducible refine lo_row (by omega) ?_))
  all_goals first | with_reducible exact lo_rf | with_reducible exact lo_cn _ | with_reducible exact lo_wd _ | with_reducible exact lo_ps _
theorem f7_amnesty {g : sG} {q : sQ} {x0 x1 : Int32} : Hi g (fX7_amnesty g q x0 x1).2 := by
  unfold fX7_amnesty
  repeat' (first | with_reducible refine hi_i2 ?_ ?_ | with_reducible refine hi_iv ?_ ?_)
  all_goals (try dsimp only)
  all_goals (repeat (first | with_reducible refine hi_up (by omega) ?_ | with_reducible refine hi_cm ?_))
  all_goals first | with_reducible exact hi_rf | with_reducible exact hi_cn _ | with_reducible exact hi_wd _ | with_reducible exact hi_ps _
theorem f6_tk {g g' : sG} {q : sQ} {nK i X : Nat} {x0 x5 V x4 x3 S : Int32} (h : Lo g g') : Lo g (tkM g' q nK i X x0 x5 V x4 x3 S).1 := by
  rw [tkM_1]
  unfold fX4_init
  dsimp only
  repeat (first | exact h | refine lo_up (by omega) ?_ | refine lo_row (by omega) ?_)
theorem f6_pledge {g : sG} {q : sQ} {nK : Nat} {x0 x1 x2 x3 x4 x5 : Int32} : Lo g (fX6_pledge g q nK x0 x1 x2 x3 x4 x5).2.2.1 := by
  unfold fX6_pledge
  repeat' (with_reducible refine lo_i2 ?_ ?_)
  all_goals (try dsimp only)
  all_goals first | with_reducible exact lo_rf | exact lo_mv (q := q) (f6_tk lo_rf)
theorem f7_pledge {g : sG} {q : sQ} {x0 x1 x2 x3 x4 x5 : Int32} : Hi g (fX7_pledge g q x0 x1 x2 x3 x4 x5).2 := by
  unfold fX7_pledge
  repeat' (first | with_reducible refine hi_i2 ?_ ?_ | with_reducible refine hi_iv ?_ ?_)
  all_goals (try dsimp only)
  all_goals (repeat (first | with_reducible refine hi_up (by omega) ?_ | with_reducible refine hi_cm ?_))
  all_goals first | with_reducible exact hi_rf | with_reducible exact hi_cn _ | with_reducible exact hi_wd _ | with_reducible exact hi_ps _
theorem f6_redeem {g : sG} {q : sQ} {x0 : Int32} {x1 : Int32} : Lo g (fX6_redeem g q x0 x1).2.2.1 := by
  unfold fX6_redeem
  repeat' (first | with_reducible refine lo_i2 ?_ ?_ | with_reducible refine lo_iv ?_ ?_)
  all_goals (try dsimp only)
  all_goals (repeat (first | with_reducible refine lo_up (by omega) ?_ | with_reducible refine lo_mv ?_ | with_reducible refine lo_cl ?_ | with_reducible refine lo_rs ?_ | with_reducible refine lo_ct ?_ | with_reducible refine lo_bg ?_ | with_reducible refine lo_ar ?_ | with_reducible refine lo_aa ?_ | with_reducible refine lo_row (by omega) ?_))
  all_goals first | with_reducible exact lo_rf | with_reducible exact lo_cn _ | with_reducible exact lo_wd _ | with_reducible exact lo_ps _
theorem f7_redeem {g : sG} {q : sQ} {x0 x1 : Int32} : Hi g (fX7_redeem g q x0 x1).2 := by
  unfold fX7_redeem
  repeat' (first | with_reducible refine hi_i2 ?_ ?_ | with_reducible refine hi_iv ?_ ?_)
  all_goals (try dsimp only)
  all_goals (repeat (first | with_reducible refine hi_up (by omega) ?_ | with_reducible refine hi_cm ?_))
  all_goals first | with_reducible exact hi_rf | with_reducible exact hi_cn _ | with_reducible exact hi_wd _ | with_reducible exact hi_ps _
theorem f6_renew {g : sG} {q : sQ} {x0 : Int32} {x1 : Int32} {x2 : Int32} : Lo g (fX6_renew g q x0 x1 x2).2.2.1 := by
  unfold fX6_renew
  repeat' (first | with_reducible refine lo_i2 ?_ ?_ | with_reducible refine lo_iv ?_ ?_)
  all_goals (try dsimp only)
  all_goals (repeat (first | with_reducible refine lo_up (by omega) ?_ | with_reducible refine lo_mv ?_ | with_reducible refine lo_cl ?_ | with_reducible refine lo_rs ?_ | with_reducible refine lo_ct ?_ | with_reducible refine lo_bg ?_ | with_reducible refine lo_ar ?_ | with_reducible refine lo_aa ?_ | with_reducible refine lo_row (by omega) ?_))
  all_goals first | with_reducible exact lo_rf | with_reducible exact lo_cn _ | with_reducible exact lo_wd _ | with_reducible exact lo_ps _
theorem f7_renew {g : sG} {q : sQ} {x0 x1 x2 : Int32} : Hi g (fX7_renew g q x0 x1 x2).2 := by
  unfold fX7_renew
  repeat' (first | with_reducible refine hi_i2 ?_ ?_ | with_reducible refine hi_iv ?_ ?_)
  all_goals (try dsimp only)
  all_goals (repeat (first | with_reducible refine hi_up (by omega) ?_ | with_reducible refine hi_cm ?_))
  all_goals first | with_reducible exact hi_rf | with_reducible exact hi_cn _ | with_reducible exact hi_wd _ | with_reducible exact hi_ps _
theorem f6_give {g : sG} {q : sQ} {x0 : Int32} {x1 : Int32} : Lo g (fX6_give g q x0 x1).2.2.1 := by
  unfold fX6_give
  repeat' (first | with_reducible refine lo_i2 ?_ ?_ | with_reducible refine lo_iv ?_ ?_)
  all_goals (try dsimp only)
  all_goals (repeat (first | with_reducible refine lo_up (by omega) ?_ | with_reducible refine lo_mv ?_ | with_reducible refine lo_cl ?_ | with_reducible refine lo_rs ?_ | with_reducible refine lo_ct ?_ | with_reducible refine lo_bg ?_ | with_reducible refine lo_ar ?_ | with_reducible refine lo_aa ?_ | with_reducible refine lo_row (by omega) ?_))
  all_goals first | with_reducible exact lo_rf | with_reducible exact lo_cn _ | with_reducible exact lo_wd _ | with_reducible exact lo_ps _
theorem f7_give {g : sG} {q : sQ} {x0 x1 : Int32} : Hi g (fX7_give g q x0 x1).2 := by
  unfold fX7_give
  repeat' (first | with_reducible refine hi_i2 ?_ ?_ | with_reducible refine hi_iv ?_ ?_)
  all_goals (try dsimp only)
  all_goals (repeat (first | with_reducible refine hi_up (by omega) ?_ | with_reducible refine hi_cm ?_))
  all_goals first | with_reducible exact hi_rf | with_reducible exact hi_cn _ | with_reducible exact hi_wd _ | with_reducible exact hi_ps _
theorem f6_notice {g : sG} {q : sQ} {x0 : Int32} {x1 : Int32} : Lo g (fX6_notice g q x0 x1).2.1 := by
  unfold fX6_notice
  repeat' (first | with_reducible refine lo_i2 ?_ ?_ | with_reducible refine lo_iv ?_ ?_)
  all_goals (try dsimp only)
  all_goals (repeat (first | with_reducible refine lo_up (by omega) ?_ | with_reducible refine lo_mv ?_ | with_reducible refine lo_cl ?_ | with_reducible refine lo_rs ?_ | with_reducible refine lo_ct ?_ | with_reducible refine lo_bg ?_ | with_reducible refine lo_ar ?_ | with_reducible refine lo_aa ?_ | with_reducible refine lo_row (by omega) ?_))
  all_goals first | with_reducible exact lo_rf | with_reducible exact lo_cn _ | with_reducible exact lo_wd _ | with_reducible exact lo_ps _
theorem f7_notice {g : sG} {q : sQ} {x0 x1 : Int32} : Hi g (fX7_notice g q x0 x1) := by
  unfold fX7_notice
  repeat' (first | with_reducible refine hi_i2 ?_ ?_ | with_reducible refine hi_iv ?_ ?_)
  all_goals (try dsimp only)
  all_goals (repeat (first | with_reducible refine hi_up (by omega) ?_ | with_reducible refine hi_cm ?_))
  all_goals first | with_reducible exact hi_rf | with_reducible exact hi_cn _ | with_reducible exact hi_wd _ | with_reducible exact hi_ps _
theorem f6_show {g : sG} {q : sQ} {x0 : Int32} : Lo g (fX6_show g q x0).2.2.1 := by
  unfold fX6_show
  repeat' (first | with_reducible refine lo_i2 ?_ ?_ | with_reducible refine lo_iv ?_ ?_)
  all_goals (try dsimp only)
  all_goals (repeat (first | with_reducible refine lo_up (by omega) ?_ | with_reducible refine lo_mv ?_ | with_reducible refine lo_cl ?_ | with_reducible refine lo_rs ?_ | with_reducible refine lo_ct ?_ | with_reducible refine lo_bg ?_ | with_reducible refine lo_ar ?_ | with_reducible refine lo_aa ?_ | with_reducible refine lo_row (by omega) ?_))
  all_goals first | with_reducible exact lo_rf | with_reducible exact lo_cn _ | with_reducible exact lo_wd _ | with_reducible exact lo_ps _
theorem f7_show {g : sG} {q : sQ} {x0 : Int32} : Hi g (fX7_show g q x0).2 := by
  unfold fX7_show
  repeat' (first | with_reducible refine hi_i2 ?_ ?_ | with_reducible refine hi_iv ?_ ?_)
  all_goals (try dsimp only)
  all_goals (repeat (first | with_reducible refine hi_up (by omega) ?_ | with_reducible refine hi_cm ?_))
  all_goals first | with_reducible exact hi_rf | with_reducible exact hi_cn _ | with_reducible exact hi_wd _ | with_reducible exact hi_ps _
theorem f6_police {g : sG} {q : sQ} {x0 : Int32} : Lo g (fX6_police g q x0).2.2.1 := by
  unfold fX6_police
  repeat' (first | with_reducible refine lo_i2 ?_ ?_ | with_reducible refine lo_iv ?_ ?_)
  all_goals (try dsimp only)
  all_goals (repeat (first | with_reducible refine lo_up (by omega) ?_ | with_reducible refine lo_mv ?_ | with_reducible refine lo_cl ?_ | with_reducible refine lo_rs ?_ | with_reducible refine lo_ct ?_ | with_reducible refine lo_bg ?_ | with_reducible refine lo_ar ?_ | with_reducible refine lo_aa ?_ | with_reducible refine lo_row (by omega) ?_))
  all_goals first | with_reducible exact lo_rf | with_reducible exact lo_cn _ | with_reducible exact lo_wd _ | with_reducible exact lo_ps _
theorem f7_police {g : sG} {q : sQ} {x0 : Int32} : Hi g (fX7_police g q x0).2 := by
  unfold fX7_police
  repeat' (first | with_reducible refine hi_i2 ?_ ?_ | with_reducible refine hi_iv ?_ ?_)
  all_goals (try dsimp only)
  all_goals (repeat (first | with_reducible refine hi_up (by omega) ?_ | with_reducible refine hi_cm ?_))
  all_goals first | with_reducible exact hi_rf | with_reducible exact hi_cn _ | with_reducible exact hi_wd _ | with_reducible exact hi_ps _
theorem f6_court {g : sG} {q : sQ} {x0 : Int32} {x1 : Int32} : Lo g (fX6_court g q x0 x1).2.2.1 := by
  unfold fX6_court
  repeat' (first | with_reducible refine lo_i2 ?_ ?_ | with_reducible refine lo_iv ?_ ?_)
  all_goals (try dsimp only)
  all_goals (repeat (first | with_reducible refine lo_up (by omega) ?_ | with_reducible refine lo_mv ?_ | with_reducible refine lo_cl ?_ | with_reducible refine lo_rs ?_ | with_reducible refine lo_ct ?_ | with_reducible refine lo_bg ?_ | with_reducible refine lo_ar ?_ | with_reducible refine lo_aa ?_ | with_reducible refine lo_row (by omega) ?_))
  all_goals first | with_reducible exact lo_rf | with_reducible exact lo_cn _ | with_reducible exact lo_wd _ | with_reducible exact lo_ps _
theorem f7_court {g : sG} {q : sQ} {x0 x1 : Int32} : Hi g (fX7_court g q x0 x1).2 := by
  unfold fX7_court
  repeat' (first | with_reducible refine hi_i2 ?_ ?_ | with_reducible refine hi_iv ?_ ?_)
  all_goals (try dsimp only)
  all_goals (repeat (first | with_reducible refine hi_up (by omega) ?_ | with_reducible refine hi_cm ?_))
  all_goals first | with_reducible exact hi_rf | with_reducible exact hi_cn _ | with_reducible exact hi_wd _ | with_reducible exact hi_ps _
theorem f6_stray {g : sG} {q : sQ} {x0 : Int32} {x1 : Int32} {x2 : Int32} : Lo g (fX6_stray g q x0 x1 x2).2.1 := by
  unfold fX6_stray
  repeat' (first | with_reducible refine lo_i2 ?_ ?_ | with_reducible refine lo_iv ?_ ?_)
  all_goals (try dsimp only)
  all_goals (repeat (first | with_reducible refine lo_up (by omega) ?_ | with_reducible refine lo_mv ?_ | with_reducible refine lo_cl ?_ | with_reducible refine lo_rs ?_ | with_reducible refine lo_ct ?_ | with_reducible refine lo_bg ?_ | with_reducible refine lo_ar ?_ | with_reducible refine lo_aa ?_ | with_reducible refine lo_row (by omega) ?_))
  all_goals first | with_reducible exact lo_rf | with_reducible exact lo_cn _ | with_reducible exact lo_wd _ | with_reducible exact lo_ps _
theorem f7_stray {g : sG} {q : sQ} {x0 x1 x2 : Int32} : Hi g (fX7_stray g q x0 x1 x2) := by
  unfold fX7_stray
  repeat' (first | with_reducible refine hi_i2 ?_ ?_ | with_reducible refine hi_iv ?_ ?_)
  all_goals (try dsimp only)
  all_goals (repeat (first | with_reducible refine hi_up (by omega) ?_ | with_reducible refine hi_cm ?_))
  all_goals first | with_reducible exact hi_rf | with_reducible exact hi_cn _ | with_reducible exact hi_wd _ | with_reducible exact hi_ps _
theorem f6_count {g : sG} {q : sQ} {x0 : Int32} : Lo g (fX6_count g q x0).2.2.1 := by
  unfold fX6_count
  repeat' (first | with_reducible refine lo_i2 ?_ ?_ | with_reducible refine lo_iv ?_ ?_)
  all_goals (try dsimp only)
  all_goals (repeat (first | with_reducible refine lo_up (by omega) ?_ | with_reducible refine lo_mv ?_ | with_reducible refine lo_cl ?_ | with_reducible refine lo_rs ?_ | with_reducible refine lo_ct ?_ | with_reducible refine lo_bg ?_ | with_reducible refine lo_ar ?_ | with_reducible refine lo_aa ?_ | with_reducible refine lo_row (by omega) ?_))
  all_goals first | with_reducible exact lo_rf | with_reducible exact lo_cn _ | with_reducible exact lo_wd _ | with_reducible exact lo_ps _
theorem f7_count {g : sG} {q : sQ} {x0 : Int32} : Hi g (fX7_count g q x0).2 := by
  unfold fX7_count
  repeat' (first | with_reducible refine hi_i2 ?_ ?_ | with_reducible refine hi_iv ?_ ?_)
  all_goals (try dsimp only)
  all_goals (repeat (first | with_reducible refine hi_up (by omega) ?_ | with_reducible refine hi_cm ?_))
  all_goals first | with_reducible exact hi_rf | with_reducible exact hi_cn _ | with_reducible exact hi_wd _ | with_reducible exact hi_ps _
theorem f6_transfer {g : sG} {q : sQ} {x0 : Int32} {x1 : Int32} : Lo g (fX6_transfer g q x0 x1).2.2.1 := by
  unfold fX6_transfer
  repeat' (first | with_reducible refine lo_i2 ?_ ?_ | with_reducible refine lo_iv ?_ ?_)
  all_goals (try dsimp only)
  all_goals (repeat (first | with_reducible refine lo_up (by omega) ?_ | with_reducible refine lo_mv ?_ | with_reducible refine lo_cl ?_ | with_reducible refine lo_rs ?_ | with_reducible refine lo_ct ?_ | with_reducible refine lo_bg ?_ | with_reducible refine lo_ar ?_ | with_reducible refine lo_aa ?_ | with_reducible refine lo_row (by omega) ?_))
  all_goals first | with_reducible exact lo_rf | with_reducible exact lo_cn _ | with_reducible exact lo_wd _ | with_reducible exact lo_ps _
theorem f7_transfer {g : sG} {q : sQ} {x0 x1 : Int32} : Hi g (fX7_transfer g q x0 x1).2 := by
  unfold fX7_transfer
  repeat' (first | with_reducible refine hi_i2 ?_ ?_ | with_reducible refine hi_iv ?_ ?_)
  all_goals (try dsimp only)
  all_goals (repeat (first | with_reducible refine hi_up (by omega) ?_ | with_reducible refine hi_cm ?_))
  all_goals first | with_reducible exact hi_rf | with_reducible exact hi_cn _ | with_reducible exact hi_wd _ | with_reducible exact hi_ps _
theorem f6_wind {g : sG} {q : sQ} {x0 : Int32} : Lo g (fX6_wind g q x0).2.2.1 := by
  unfold fX6_wind
  repeat' (first | with_reducible refine lo_i2 ?_ ?_ | with_reducible refine lo_iv ?_ ?_)
  all_goals (try dsimp only)
  all_goals (repeat (first | with_reducible refine lo_up (by omega) ?_ | with_reducible refine lo_mv ?_ | with_reducible refine lo_cl ?_ | with_reducible refine lo_rs ?_ | with_reducible refine lo_ct ?_ | with_reducible refine lo_bg ?_ | with_reducible refine lo_ar ?_ | with_reducible refine lo_aa ?_ | with_reducible refine lo_row (by omega) ?_))
  all_goals first | with_reducible exact lo_rf | with_reducible exact lo_cn _ | with_reducible exact lo_wd _ | with_reducible exact lo_ps _
theorem f7_wind {g : sG} {q : sQ} {x0 : Int32} : Hi g (fX7_wind g q x0).2 := by
  unfold fX7_wind
  repeat' (first | with_reducible refine hi_i2 ?_ ?_ | with_reducible refine hi_iv ?_ ?_)
  all_goals (try dsimp only)
  all_goals (repeat (first | with_reducible refine hi_up (by omega) ?_ | with_reducible refine hi_cm ?_))
  all_goals first | with_reducible exact hi_rf | with_reducible exact hi_cn _ | with_reducible exact hi_wd _ | with_reducible exact hi_ps _
theorem f6_pass {g : sG} {q : sQ} {x0 : Int32} : Lo g (fX6_pass g q x0).2.2.1 := by
  unfold fX6_pass
  repeat' (first | with_reducible refine lo_i2 ?_ ?_ | with_reducible refine lo_iv ?_ ?_)
  all_goals (try dsimp only)
  all_goals (repeat (first | with_reducible refine lo_up (by omega) ?_ | with_reducible refine lo_mv ?_ | with_reducible refine lo_cl ?_ | with_reducible refine lo_rs ?_ | with_reducible refine lo_ct ?_ | with_reducible refine lo_bg ?_ | with_reducible refine lo_ar ?_ | with_reducible refine lo_aa ?_ | with_reducible refine lo_row (by omega) ?_))
  all_goals first | with_reducible exact lo_rf | with_reducible exact lo_cn _ | with_reducible exact lo_wd _ | with_reducible exact lo_ps _
theorem f7_pass {g : sG} {q : sQ} {x0 : Int32} : Hi g (fX7_pass g q x0).2 := by
  unfold fX7_pass
  repeat' (first | with_reducible refine hi_i2 ?_ ?_ | with_reducible refine hi_iv ?_ ?_)
  all_goals (try dsimp only)
  all_goals (repeat (first | with_reducible refine hi_up (by omega) ?_ | with_reducible refine hi_cm ?_))
  all_goals first | with_reducible exact hi_rf | with_reducible exact hi_cn _ | with_reducible exact hi_wd _ | with_reducible exact hi_ps _
theorem f6_offer {g : sG} {q : sQ} {x0 : Int32} {x1 : Int32} : Lo g (fX6_offer g q x0 x1).2.2.1 := by
  unfold fX6_offer
  repeat' (first | with_reducible refine lo_i2 ?_ ?_ | with_reducible refine lo_iv ?_ ?_)
  all_goals (try dsimp only)
  all_goals (repeat (first | with_reducible refine lo_up (by omega) ?_ | with_reducible refine lo_mv ?_ | with_reducible refine lo_cl ?_ | with_reducible refine lo_rs ?_ | with_reducible refine lo_ct ?_ | with_reducible refine lo_bg ?_ | with_reducible refine lo_ar ?_ | with_reducible refine lo_aa ?_ | with_reducible refine lo_row (by omega) ?_))
  all_goals first | with_reducible exact lo_rf | with_reducible exact lo_cn _ | with_reducible exact lo_wd _ | with_reducible exact lo_ps _
theorem f7_offer {g : sG} {q : sQ} {x0 x1 : Int32} : Hi g (fX7_offer g q x0 x1).2 := by
  unfold fX7_offer
  repeat' (first | with_reducible refine hi_i2 ?_ ?_ | with_reducible refine hi_iv ?_ ?_)
  all_goals (try dsimp only)
  all_goals (repeat (first | with_reducible refine hi_up (by omega) ?_ | with_reducible refine hi_cm ?_))
  all_goals first | with_reducible exact hi_rf | with_reducible exact hi_cn _ | with_reducible exact hi_wd _ | with_reducible exact hi_ps _
theorem f6_claim {g : sG} {q : sQ} {x0 : Int32} {x1 : Int32} : Lo g (fX6_claim g q x0 x1).2.2.1 := by
  unfold fX6_claim
  repeat' (first | with_reducible refine lo_i2 ?_ ?_ | with_reducible refine lo_iv ?_ ?_)
  all_goals (try dsimp only)
  all_goals (repeat (first | with_reducible refine lo_up (by omega) ?_ | with_reducible refine lo_mv ?_ | with_reducible refine lo_cl ?_ | with_reducible refine lo_rs ?_ | with_reducible refine lo_ct ?_ | with_reducible refine lo_bg ?_ | with_reducible refine lo_ar ?_ | with_reducible refine lo_aa ?_ | with_reducible refine lo_row (by omega) ?_))
  all_goals first | with_reducible exact lo_rf | with_reducible exact lo_cn _ | with_reducible exact lo_wd _ | with_reducible exact lo_ps _
theorem f7_claim {g : sG} {q : sQ} {x0 x1 : Int32} : Hi g (fX7_claim g q x0 x1).2 := by
  unfold fX7_claim
  repeat' (first | with_reducible refine hi_i2 ?_ ?_ | with_reducible refine hi_iv ?_ ?_)
  all_goals (try dsimp only)
  all_goals (repeat (first | with_reducible refine hi_up (by omega) ?_ | with_reducible refine hi_cm ?_))
  all_goals first | with_reducible exact hi_rf | with_reducible exact hi_cn _ | with_reducible exact hi_wd _ | with_reducible exact hi_ps _
theorem f6_deposit {g : sG} {q : sQ} {x0 : Int32} : Lo g (fX6_deposit g q x0).2.2.1 := by
  unfold fX6_deposit
  repeat' (first | with_reducible refine lo_i2 ?_ ?_ | with_reducible refine lo_iv ?_ ?_)
  all_goals (try dsimp only)
  all_goals (repeat (first | with_reducible refine lo_up (by omega) ?_ | with_reducible refine lo_mv ?_ | with_reducible refine lo_cl ?_ | with_reducible refine lo_rs ?_ | with_reducible refine lo_ct ?_ | with_reducible refine lo_bg ?_ | with_reducible refine lo_ar ?_ | with_reducible refine lo_aa ?_ | with_reducible refine lo_row (by omega) ?_))
  all_goals first | with_reducible exact lo_rf | with_reducible exact lo_cn _ | with_reducible exact lo_wd _ | with_reducible exact lo_ps _
theorem f7_deposit {g : sG} {q : sQ} {x0 : Int32} : Hi g (fX7_deposit g q x0).2 := by
  unfold fX7_deposit
  repeat' (first | with_reducible refine hi_i2 ?_ ?_ | with_reducible refine hi_iv ?_ ?_)
  all_goals (try dsimp only)
  all_goals (repeat (first | with_reducible refine hi_up (by omega) ?_ | with_reducible refine hi_cm ?_))
  all_goals first | with_reducible exact hi_rf | with_reducible exact hi_cn _ | with_reducible exact hi_wd _ | with_reducible exact hi_ps _
theorem f6_withdraw {g : sG} {q : sQ} {x0 : Int32} : Lo g (fX6_withdraw g q x0).2.2.1 := by
  unfold fX6_withdraw
  repeat' (first | with_reducible refine lo_i2 ?_ ?_ | with_reducible refine lo_iv ?_ ?_)
  all_goals (try dsimp only)
  all_goals (repeat (first | with_reducible refine lo_up (by omega) ?_ | with_reducible refine lo_mv ?_ | with_reducible refine lo_cl ?_ | with_reducible refine lo_rs ?_ | with_reducible refine lo_ct ?_ | with_reducible refine lo_bg ?_ | with_reducible refine lo_ar ?_ | with_reducible refine lo_aa ?_ | with_reducible refine lo_row (by omega) ?_))
  all_goals first | with_reducible exact lo_rf | with_reducible exact lo_cn _ | with_reducible exact lo_wd _ | with_reducible exact lo_ps _
theorem f7_withdraw {g : sG} {q : sQ} {x0 : Int32} : Hi g (fX7_withdraw g q x0).2 := by
  unfold fX7_withdraw
  repeat' (first | with_reducible refine hi_i2 ?_ ?_ | with_reducible refine hi_iv ?_ ?_)
  all_goals (try dsimp only)
  all_goals (repeat (first | with_reducible refine hi_up (by omega) ?_ | with_reducible refine hi_cm ?_))
  all_goals first | with_reducible exact hi_rf | with_reducible exact hi_cn _ | with_reducible exact hi_wd _ | with_reducible exact hi_ps _
theorem f6_thingOf {g : sG} {q : sQ} {x0 : Int32} {x1 : Int32} : Lo g (fX6_thingOf g q x0 x1).2.2.1 := by
  unfold fX6_thingOf
  repeat' (first | with_reducible refine lo_i2 ?_ ?_ | with_reducible refine lo_iv ?_ ?_)
  all_goals (try dsimp only)
  all_goals (repeat (first | with_reducible refine lo_up (by omega) ?_ | with_reducible refine lo_mv ?_ | with_reducible refine lo_cl ?_ | with_reducible refine lo_rs ?_ | with_reducible refine lo_ct ?_ | with_reducible refine lo_bg ?_ | with_reducible refine lo_ar ?_ | with_reducible refine lo_aa ?_ | with_reducible refine lo_row (by omega) ?_))
  all_goals first | with_reducible exact lo_rf | with_reducible exact lo_cn _ | with_reducible exact lo_wd _ | with_reducible exact lo_ps _
theorem f7_thingOf {g : sG} {q : sQ} {x0 x1 : Int32} : Hi g (fX7_thingOf g q x0 x1).2 := by
  unfold fX7_thingOf
  repeat' (first | with_reducible refine hi_i2 ?_ ?_ | with_reducible refine hi_iv ?_ ?_)
  all_goals (try dsimp only)
  all_goals (repeat (first | with_reducible refine hi_up (by omega) ?_ | with_reducible refine hi_cm ?_))
  all_goals first | with_reducible exact hi_rf | with_reducible exact hi_cn _ | with_reducible exact hi_wd _ | with_reducible exact hi_ps _
theorem f6_ticketOf {g : sG} {q : sQ} {x0 : Int32} {x1 : Int32} : Lo g (fX6_ticketOf g q x0 x1).2.2.1 := by
  unfold fX6_ticketOf
  repeat' (first | with_reducible refine lo_i2 ?_ ?_ | with_reducible refine lo_iv ?_ ?_)
  all_goals (try dsimp only)
  all_goals (repeat (first | with_reducible refine lo_up (by omega) ?_ | with_reducible refine lo_mv ?_ | with_reducible refine lo_cl ?_ | with_reducible refine lo_rs ?_ | with_reducible refine lo_ct ?_ | with_reducible refine lo_bg ?_ | with_reducible refine lo_ar ?_ | with_reducible refine lo_aa ?_ | with_reducible refine lo_row (by omega) ?_))
  all_goals first | with_reducible exact lo_rf | with_reducible exact lo_cn _ | with_reducible exact lo_wd _ | with_reducible exact lo_ps _
theorem f7_ticketOf {g : sG} {q : sQ} {x0 x1 : Int32} : Hi g (fX7_ticketOf g q x0 x1).2 := by
  unfold fX7_ticketOf
  repeat' (first | with_reducible refine hi_i2 ?_ ?_ | with_reducible refine hi_iv ?_ ?_)
  all_goals (try dsimp only)
  all_goals (repeat (first | with_reducible refine hi_up (by omega) ?_ | with_reducible refine hi_cm ?_))
  all_goals first | with_reducible exact hi_rf | with_reducible exact hi_cn _ | with_reducible exact hi_wd _ | with_reducible exact hi_ps _
theorem f6_interestAnew {g : sG} {q : sQ} {x0 : Int32} : Lo g (fX6_interestAnew g q x0).2.2.1 := by
  unfold fX6_interestAnew
  repeat' (first | with_reducible refine lo_i2 ?_ ?_ | with_reducible refine lo_iv ?_ ?_)
  all_goals (try dsimp only)
  all_goals (repeat (first | with_reducible refine lo_up (by omega) ?_ | with_reducible refine lo_mv ?_ | with_reducible refine lo_cl ?_ | with_reducible refine lo_rs ?_ | with_reducible refine lo_ct ?_ | with_reducible refine lo_bg ?_ | with_reducible refine lo_ar ?_ | with_reducible refine lo_aa ?_ | with_reducible refine lo_row (by omega) ?_))
  all_goals first | with_reducible exact lo_rf | with_reducible exact lo_cn _ | with_reducible exact lo_wd _ | with_reducible exact lo_ps _
theorem f7_interestAnew {g : sG} {q : sQ} {x0 : Int32} : Hi g (fX7_interestAnew g q x0).2 := by
  unfold fX7_interestAnew
  repeat' (first | with_reducible refine hi_i2 ?_ ?_ | with_reducible refine hi_iv ?_ ?_)
  all_goals (try dsimp only)
  all_goals (repeat (first | with_reducible refine hi_up (by omega) ?_ | with_reducible refine hi_cm ?_))
  all_goals first | with_reducible exact hi_rf | with_reducible exact hi_cn _ | with_reducible exact hi_wd _ | with_reducible exact hi_ps _
theorem f6_expertOf {g : sG} {q : sQ} {x0 : Int32} {x1 : Int32} : Lo g (fX6_expertOf g q x0 x1).2.2.1 := by
  unfold fX6_expertOf
  repeat' (first | with_reducible refine lo_i2 ?_ ?_ | with_reducible refine lo_iv ?_ ?_)
  all_goals (try dsimp only)
  all_goals (repeat (first | with_reducible refine lo_up (by omega) ?_ | with_reducible refine lo_mv ?_ | with_reducible refine lo_cl ?_ | with_reducible refine lo_rs ?_ | with_reducible refine lo_ct ?_ | with_reducible refine lo_bg ?_ | with_reducible refine lo_ar ?_ | with_reducible refine lo_aa ?_ | with_reducible refine lo_row (by omega) ?_))
  all_goals first | with_reducible exact lo_rf | with_reducible exact lo_cn _ | with_reducible exact lo_wd _ | with_reducible exact lo_ps _
theorem f7_expertOf {g : sG} {q : sQ} {x0 x1 : Int32} : Hi g (fX7_expertOf g q x0 x1).2 := by
  unfold fX7_expertOf
  repeat' (first | with_reducible refine hi_i2 ?_ ?_ | with_reducible refine hi_iv ?_ ?_)
  all_goals (try dsimp only)
  all_goals (repeat (first | with_reducible refine hi_up (by omega) ?_ | with_reducible refine hi_cm ?_))
  all_goals first | with_reducible exact hi_rf | with_reducible exact hi_cn _ | with_reducible exact hi_wd _ | with_reducible exact hi_ps _
theorem f6_bears {g : sG} {q : sQ} {x0 : Int32} {x1 : Int32} : Lo g (fX6_bears g q x0 x1).2.2.1 := by
  unfold fX6_bears
  repeat' (first | with_reducible refine lo_i2 ?_ ?_ | with_reducible refine lo_iv ?_ ?_)
  all_goals (try dsimp only)
  all_goals (repeat (first | with_reducible refine lo_up (by omega) ?_ | with_reducible refine lo_mv ?_ | with_reducible refine lo_cl ?_ | with_reducible refine lo_rs ?_ | with_reducible refine lo_ct ?_ | with_reducible refine lo_bg ?_ | with_reducible refine lo_ar ?_ | with_reducible refine lo_aa ?_ | with_reducible refine lo_row (by omega) ?_))
  all_goals first | with_reducible exact lo_rf | with_reducible exact lo_cn _ | with_reducible exact lo_wd _ | with_reducible exact lo_ps _
theorem f7_bears {g : sG} {q : sQ} {x0 x1 : Int32} : Hi g (fX7_bears g q x0 x1).2 := by
  unfold fX7_bears
  repeat' (first | with_reducible refine hi_i2 ?_ ?_ | with_reducible refine hi_iv ?_ ?_)
  all_goals (try dsimp only)
  all_goals (repeat (first | with_reducible refine hi_up (by omega) ?_ | with_reducible refine hi_cm ?_))
  all_goals first | with_reducible exact hi_rf | with_reducible exact hi_cn _ | with_reducible exact hi_wd _ | with_reducible exact hi_ps _
theorem f6_money {g : sG} {q : sQ} {x0 : Int32} : Lo g (fX6_money g q x0).2.2.1 := by
  unfold fX6_money
  repeat' (first | with_reducible refine lo_i2 ?_ ?_ | with_reducible refine lo_iv ?_ ?_)
  all_goals (try dsimp only)
  all_goals (repeat (first | with_reducible refine lo_up (by omega) ?_ | with_reducible refine lo_mv ?_ | with_reducible refine lo_cl ?_ | with_reducible refine lo_rs ?_ | with_reducible refine lo_ct ?_ | with_reducible refine lo_bg ?_ | with_reducible refine lo_ar ?_ | with_reducible refine lo_aa ?_ | with_reducible refine lo_row (by omega) ?_))
  all_goals first | with_reducible exact lo_rf | with_reducible exact lo_cn _ | with_reducible exact lo_wd _ | with_reducible exact lo_ps _
theorem f7_money {g : sG} {q : sQ} {x0 : Int32} : Hi g (fX7_money g q x0).2 := by
  unfold fX7_money
  repeat' (first | with_reducible refine hi_i2 ?_ ?_ | with_reducible refine hi_iv ?_ ?_)
  all_goals (try dsimp only)
  all_goals (repeat (first | with_reducible refine hi_up (by omega) ?_ | with_reducible refine hi_cm ?_))
  all_goals first | with_reducible exact hi_rf | with_reducible exact hi_cn _ | with_reducible exact hi_wd _ | with_reducible exact hi_ps _
theorem f7_day {g : sG} {q : sQ} : Hi g (fX7_day g q).2 := by
  unfold fX7_day
  repeat' (first | with_reducible refine hi_i2 ?_ ?_ | with_reducible refine hi_iv ?_ ?_)
  all_goals (try dsimp only)
  all_goals (repeat (first | with_reducible refine hi_up (by omega) ?_ | with_reducible refine hi_cm ?_))
  all_goals first | with_reducible exact hi_rf | with_reducible exact hi_cn _ | with_reducible exact hi_wd _ | with_reducible exact hi_ps _
theorem f7_moneyAnew {g : sG} {q : sQ} : Hi g (fX7_moneyAnew g q).2 := by
  unfold fX7_moneyAnew
  repeat' (first | with_reducible refine hi_i2 ?_ ?_ | with_reducible refine hi_iv ?_ ?_)
  all_goals (try dsimp only)
  all_goals (repeat (first | with_reducible refine hi_up (by omega) ?_ | with_reducible refine hi_cm ?_))
  all_goals first | with_reducible exact hi_rf | with_reducible exact hi_cn _ | with_reducible exact hi_wd _ | with_reducible exact hi_ps _
theorem inv_mg {B m5 m6 nT nK cT cK : Nat} {gc : sG} {q : sQ} {gm gm' : sG} (he : ∀ o, o < 60 → gm' o = gm o) (h : INV B m5 m6 nT nK cT cK gc q gm) : INV B m5 m6 nT nK cT cK gc q gm' := by
  obtain ⟨hR, hI, k3, k4, k5, k6, k7, k8, k9, k10⟩ := h
  have e0 := he 0 (by decide)
  have e4 := he 4 (by decide)
  have e7 := he 7 (by decide)
  have e8 := he 8 (by decide)
  have e9 := he 9 (by decide)
  have e10 := he 10 (by decide)
  have e11 := he 11 (by decide)
  have e12 := he 12 (by decide)
  have e13 := he 13 (by decide)
  have e18 := he 18 (by decide)
  have e24 := he 24 (by decide)
  have e30 := he 30 (by decide)
  have e31 := he 31 (by decide)
  have e35 := he 35 (by decide)
  have e37 := he 37 (by decide)
  have e39 := he 39 (by decide)
  have e40 := he 40 (by decide)
  have e41 := he 41 (by decide)
  have e42 := he 42 (by decide)
  have e43 := he 43 (by decide)
  have e44 := he 44 (by decide)
  refine ⟨fun o k c hc hs => ?_, ?_, k3, ?_, ?_, ?_, ?_, k8, ?_, ?_⟩
  · have ho : o < 60 := by
      unfold pc at hc
      split at hc
      all_goals first | omega | cases hc
    rw [he o ho]
    exact hR o k c hc hs
  · unfold IM
    rw [e0, e4, e18, e30, e31, e37]
    exact hI
  · unfold A4
    rw [e0, e7, e8, e9, e12, e13, e39, e40, e43, e41, e35, e24]
    exact k4
  · unfold A5
    rw [e8, e10, e11]
    exact k5
  · unfold A6
    rw [e0, e41, e42]
    exact k6
  · unfold A7
    rw [e0, e43, e39, e44]
    exact k7
  · unfold B9
    rw [e18, e30, e31]
    exact k9
  · unfold B10
    rw [e8, e30, e39]
    exact k10
