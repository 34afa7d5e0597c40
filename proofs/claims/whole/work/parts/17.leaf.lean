/-! spec functions, as the reference's code has them -/
def am (v : Int32) : Int32 := if v < 0 then -v else v
def rm (x : Int32) : Int32 := x - x / nI 12 * nI 12
def nr (a b : Int32) : Int32 := am (rm a - rm b) + am (a / nI 12 - b / nI 12)
def fpl (s : Int32) : Int32 := if s = 0 then nI 37 else nI 46
def gl (s : Int32) : Int32 := if s = 0 then nI 0 else nI 83
def rpo (s : Int32) : Int32 := if s = 0 then nI 39 else nI 44
def wi (x a b : Int32) : Bool := decide (a ≤ x) && decide (x ≤ b)
def abv (v : Int32) : Int32 := if 0 < v then v else nI 0
def gn (n i j : Int32) : Int32 := abv (n - i - nI 2 * j) - abv (n - j - nI 2 * i)
theorem i0 : (0 : Int32) = nI 0 := by decide
theorem bIt : bI true = nI 1 := by decide
theorem bIf : bI false = nI 0 := by decide
theorem bI_t : nI 1 = bI true := by decide
theorem bI_f : nI 0 = bI false := by decide
/-- a side is 0 or 1 -/
def sd (s : Int32) : Prop := s = nI 0 ∨ s = nI 1
theorem i1 : (1 : Int32) = nI 1 := by decide
theorem lt_cases (a b : Int32) : a < b ∨ ¬ a < b := by by_cases h : a < b <;> simp [h]
theorem nle_of {a b : Int32} (h : ¬ a ≤ b) : b < a := Int32.not_le.mp h
set_option maxRecDepth 20000 in
theorem s5_within (l : Launch) (d : Nat) (x a b : Int32) (h : MH) (n : Nat) : Sp l mX5_within d [.int x, .int a, .int b] h n 0 0 (Pv (bI (wi x a b)) h n) := by
  show V _ _ _ _ [some (.int x), some (.int a), some (.int b)] _ _ _ _ _ _
  refine V.iload_n dX5_within_0 rfl ?_
  refine V.iload_n dX5_within_1 rfl ?_
  refine V.icmp_lt (tgt := 14) dX5_within_2 (by decide) (fun c2 => ?_) (fun c2 => ?_)
  · refine V.iconst (v := nI 0) dX5_within_14 (by decide) ?_
    exact V.iretZ (by exact dX5_within_15) rfl (by (try simp only [← Int32.not_le, Classical.not_not] at *); simp only [wi, ← Int32.not_le, c2, not_true_eq_false, not_false_eq_true, if_true, if_false, decide_true, decide_false, Bool.and_true, Bool.and_false, Bool.true_and, Bool.false_and, Bool.or_true, Bool.or_false, Bool.true_or, Bool.false_or, Bool.not_true, Bool.not_false, and_true, and_false, true_and, false_and, or_true, or_false, true_or, false_or, bIt, bIf, Bool.false_eq_true, reduceCtorEq]) rfl
  · refine V.iload_n dX5_within_5 rfl ?_
    refine V.iload_n dX5_within_6 rfl ?_
    refine V.icmp_gt (tgt := 14) dX5_within_7 (by decide) (fun c7 => ?_) (fun c7 => ?_)
    · refine V.iconst (v := nI 0) dX5_within_14 (by decide) ?_
      exact V.iretZ (by exact dX5_within_15) rfl (by (try simp only [← Int32.not_le, Classical.not_not] at *); simp only [wi, ← Int32.not_le, c2, c7, not_true_eq_false, not_false_eq_true, if_true, if_false, decide_true, decide_false, Bool.and_true, Bool.and_false, Bool.true_and, Bool.false_and, Bool.or_true, Bool.or_false, Bool.true_or, Bool.false_or, Bool.not_true, Bool.not_false, and_true, and_false, true_and, false_and, or_true, or_false, true_or, false_or, bIt, bIf, Bool.false_eq_true, reduceCtorEq]) rfl
    · refine V.iconst (v := nI 1) dX5_within_10 (by decide) ?_
      refine V.goto (tgt := 15) dX5_within_11 (by decide) ?_
      exact V.iretZ (by exact dX5_within_15) rfl (by (try simp only [← Int32.not_le, Classical.not_not] at *); simp only [wi, ← Int32.not_le, c2, c7, not_true_eq_false, not_false_eq_true, if_true, if_false, decide_true, decide_false, Bool.and_true, Bool.and_false, Bool.true_and, Bool.false_and, Bool.or_true, Bool.or_false, Bool.true_or, Bool.false_or, Bool.not_true, Bool.not_false, and_true, and_false, true_and, false_and, or_true, or_false, true_or, false_or, bIt, bIf, Bool.false_eq_true, reduceCtorEq]) rfl
set_option maxRecDepth 20000 in
theorem s5_isCell (l : Launch) (d : Nat) (x : Int32) (h : MH) (n : Nat) : Sp l mX5_isCell (d + 1) [.int x] h n 0 0 (Pv (bI (wi x (nI 0) (nI 83))) h n) := by
  show V _ _ _ _ [some (.int x)] _ _ _ _ _ _
  refine V.iload_n dX5_isCell_0 rfl ?_
  refine V.iconst (v := nI 0) dX5_isCell_1 (by decide) ?_
  refine V.bipush (v := nI 83) dX5_isCell_2 (by decide) ?_
  refine V.callSv [_, _, _] dX5_isCell_4 lk_X5_71 rfl (Nat.le_of_ble_eq_true rfl) (Nat.le_of_ble_eq_true rfl) (s5_within _ _ _ _ _ _ _) ?_
  exact V.iretZ (by exact dX5_isCell_7) rfl rfl rfl
set_option maxRecDepth 20000 in
theorem s5_isSide (l : Launch) (d : Nat) (x : Int32) (h : MH) (n : Nat) : Sp l mX5_isSide (d + 1) [.int x] h n 0 0 (Pv (bI (wi x (nI 0) (nI 1))) h n) := by
  show V _ _ _ _ [some (.int x)] _ _ _ _ _ _
  refine V.iload_n dX5_isSide_0 rfl ?_
  refine V.iconst (v := nI 0) dX5_isSide_1 (by decide) ?_
  refine V.iconst (v := nI 1) dX5_isSide_2 (by decide) ?_
  refine V.callSv [_, _, _] dX5_isSide_3 lk_X5_71 rfl (Nat.le_of_ble_eq_true rfl) (Nat.le_of_ble_eq_true rfl) (s5_within _ _ _ _ _ _ _) ?_
  exact V.iretZ (by exact dX5_isSide_6) rfl rfl rfl
set_option maxRecDepth 20000 in
theorem s5_isKind (l : Launch) (d : Nat) (x : Int32) (h : MH) (n : Nat) : Sp l mX5_isKind (d + 1) [.int x] h n 0 0 (Pv (bI (wi x (nI 0) (nI 7))) h n) := by
  show V _ _ _ _ [some (.int x)] _ _ _ _ _ _
  refine V.iload_n dX5_isKind_0 rfl ?_
  refine V.iconst (v := nI 0) dX5_isKind_1 (by decide) ?_
  refine V.bipush (v := nI 7) dX5_isKind_2 (by decide) ?_
  refine V.callSv [_, _, _] dX5_isKind_4 lk_X5_71 rfl (Nat.le_of_ble_eq_true rfl) (Nat.le_of_ble_eq_true rfl) (s5_within _ _ _ _ _ _ _) ?_
  exact V.iretZ (by exact dX5_isKind_7) rfl rfl rfl
set_option maxRecDepth 20000 in
theorem s5_isFigure (l : Launch) (d : Nat) (x : Int32) (h : MH) (n : Nat) : Sp l mX5_isFigure (d + 1) [.int x] h n 0 0 (Pv (bI (wi x (nI 0) (nI 9))) h n) := by
  show V _ _ _ _ [some (.int x)] _ _ _ _ _ _
  refine V.iload_n dX5_isFigure_0 rfl ?_
  refine V.iconst (v := nI 0) dX5_isFigure_1 (by decide) ?_
  refine V.bipush (v := nI 9) dX5_isFigure_2 (by decide) ?_
  refine V.callSv [_, _, _] dX5_isFigure_4 lk_X5_71 rfl (Nat.le_of_ble_eq_true rfl) (Nat.le_of_ble_eq_true rfl) (s5_within _ _ _ _ _ _ _) ?_
  exact V.iretZ (by exact dX5_isFigure_7) rfl rfl rfl
set_option maxRecDepth 20000 in
theorem s5_isShelf (l : Launch) (d : Nat) (x : Int32) (h : MH) (n : Nat) : Sp l mX5_isShelf (d + 1) [.int x] h n 0 0 (Pv (bI (wi x (nI 0) (nI 7))) h n) := by
  show V _ _ _ _ [some (.int x)] _ _ _ _ _ _
  refine V.iload_n dX5_isShelf_0 rfl ?_
  refine V.iconst (v := nI 0) dX5_isShelf_1 (by decide) ?_
  refine V.bipush (v := nI 7) dX5_isShelf_2 (by decide) ?_
  refine V.callSv [_, _, _] dX5_isShelf_4 lk_X5_71 rfl (Nat.le_of_ble_eq_true rfl) (Nat.le_of_ble_eq_true rfl) (s5_within _ _ _ _ _ _ _) ?_
  exact V.iretZ (by exact dX5_isShelf_7) rfl rfl rfl
set_option maxRecDepth 20000 in
theorem s5_between (l : Launch) (d : Nat) (a b : Int32) (h : MH) (n : Nat) : Sp l mX5_between d [.int a, .int b] h n 0 0 (Pv (nr a b) h n) := by
  show V _ _ _ _ [some (.int a), some (.int b), none, none] _ _ _ _ _ _
  refine V.iload_n dX5_between_0 rfl ?_
  refine V.bipush (v := nI 12) dX5_between_1 (by decide) ?_
  refine V.irem dX5_between_3 (by decide) ?_
  refine V.iload_n dX5_between_4 rfl ?_
  refine V.bipush (v := nI 12) dX5_between_5 (by decide) ?_
  refine V.irem dX5_between_7 (by decide) ?_
  refine V.isub dX5_between_8 ?_
  refine V.ist2 dX5_between_9 (by decide) rfl ?_
  refine V.iload_n dX5_between_10 rfl ?_
  refine V.bipush (v := nI 12) dX5_between_11 (by decide) ?_
  refine V.idiv dX5_between_13 (by decide) ?_
  refine V.iload_n dX5_between_14 rfl ?_
  refine V.bipush (v := nI 12) dX5_between_15 (by decide) ?_
  refine V.idiv dX5_between_17 (by decide) ?_
  refine V.isub dX5_between_18 ?_
  refine V.ist3 dX5_between_19 (by decide) rfl ?_
  refine V.iload_n dX5_between_20 rfl ?_
  refine V.if_ge (tgt := 29) dX5_between_21 (by decide) (fun c21 => ?_) (fun c21 => ?_)
  · refine V.iload_n dX5_between_29 rfl ?_
    refine V.iload_n dX5_between_30 rfl ?_
    refine V.if_ge (tgt := 39) dX5_between_31 (by decide) (fun c31 => ?_) (fun c31 => ?_)
    · refine V.iload_n dX5_between_39 rfl ?_
      refine V.iadd dX5_between_40 ?_
      exact V.iretP (by exact dX5_between_41) rfl (by (try simp only [← Int32.not_le, Classical.not_not] at *); simp only [nr, am, rm, ← Int32.not_le, c21, c31, not_true_eq_false, not_false_eq_true, if_true, if_false, decide_true, decide_false, Bool.and_true, Bool.and_false, Bool.true_and, Bool.false_and, Bool.or_true, Bool.or_false, Bool.true_or, Bool.false_or, Bool.not_true, Bool.not_false, and_true, and_false, true_and, false_and, or_true, or_false, true_or, false_or, bIt, bIf, Bool.false_eq_true, reduceCtorEq]) rfl
    · refine V.iload_n dX5_between_34 rfl ?_
      refine V.ineg dX5_between_35 ?_
      refine V.goto (tgt := 40) dX5_between_36 (by decide) ?_
      refine V.iadd dX5_between_40 ?_
      exact V.iretP (by exact dX5_between_41) rfl (by (try simp only [← Int32.not_le, Classical.not_not] at *); simp only [nr, am, rm, ← Int32.not_le, c21, c31, not_true_eq_false, not_false_eq_true, if_true, if_false, decide_true, decide_false, Bool.and_true, Bool.and_false, Bool.true_and, Bool.false_and, Bool.or_true, Bool.or_false, Bool.true_or, Bool.false_or, Bool.not_true, Bool.not_false, and_true, and_false, true_and, false_and, or_true, or_false, true_or, false_or, bIt, bIf, Bool.false_eq_true, reduceCtorEq]) rfl
  · refine V.iload_n dX5_between_24 rfl ?_
    refine V.ineg dX5_between_25 ?_
    refine V.goto (tgt := 30) dX5_between_26 (by decide) ?_
    refine V.iload_n dX5_between_30 rfl ?_
    refine V.if_ge (tgt := 39) dX5_between_31 (by decide) (fun c31 => ?_) (fun c31 => ?_)
    · refine V.iload_n dX5_between_39 rfl ?_
      refine V.iadd dX5_between_40 ?_
      exact V.iretP (by exact dX5_between_41) rfl (by (try simp only [← Int32.not_le, Classical.not_not] at *); simp only [nr, am, rm, ← Int32.not_le, c21, c31, not_true_eq_false, not_false_eq_true, if_true, if_false, decide_true, decide_false, Bool.and_true, Bool.and_false, Bool.true_and, Bool.false_and, Bool.or_true, Bool.or_false, Bool.true_or, Bool.false_or, Bool.not_true, Bool.not_false, and_true, and_false, true_and, false_and, or_true, or_false, true_or, false_or, bIt, bIf, Bool.false_eq_true, reduceCtorEq]) rfl
    · refine V.iload_n dX5_between_34 rfl ?_
      refine V.ineg dX5_between_35 ?_
      refine V.goto (tgt := 40) dX5_between_36 (by decide) ?_
      refine V.iadd dX5_between_40 ?_
      exact V.iretP (by exact dX5_between_41) rfl (by (try simp only [← Int32.not_le, Classical.not_not] at *); simp only [nr, am, rm, ← Int32.not_le, c21, c31, not_true_eq_false, not_false_eq_true, if_true, if_false, decide_true, decide_false, Bool.and_true, Bool.and_false, Bool.true_and, Bool.false_and, Bool.or_true, Bool.or_false, Bool.true_or, Bool.false_or, Bool.not_true, Bool.not_false, and_true, and_false, true_and, false_and, or_true, or_false, true_or, false_or, bIt, bIf, Bool.false_eq_true, reduceCtorEq]) rfl
set_option maxRecDepth 20000 in
theorem s5_flagPlaceOf (l : Launch) (d : Nat) (s : Int32) (h : MH) (n : Nat) : Sp l mX5_flagPlaceOf d [.int s] h n 0 0 (Pv (fpl s) h n) := by
  show V _ _ _ _ [some (.int s)] _ _ _ _ _ _
  refine V.iload_n dX5_flagPlaceOf_0 rfl ?_
  refine V.if_ne (tgt := 9) dX5_flagPlaceOf_1 (by decide) (fun c1 => ?_) (fun c1 => ?_)
  · refine V.bipush (v := nI 46) dX5_flagPlaceOf_9 (by decide) ?_
    exact V.iretP (by exact dX5_flagPlaceOf_11) rfl (by (try simp only [← Int32.not_le, Classical.not_not] at *); simp only [fpl, ← Int32.not_le, c1, not_true_eq_false, not_false_eq_true, if_true, if_false, decide_true, decide_false, Bool.and_true, Bool.and_false, Bool.true_and, Bool.false_and, Bool.or_true, Bool.or_false, Bool.true_or, Bool.false_or, Bool.not_true, Bool.not_false, and_true, and_false, true_and, false_and, or_true, or_false, true_or, false_or, bIt, bIf, Bool.false_eq_true, reduceCtorEq]) rfl
  · refine V.bipush (v := nI 37) dX5_flagPlaceOf_4 (by decide) ?_
    refine V.goto (tgt := 11) dX5_flagPlaceOf_6 (by decide) ?_
    exact V.iretP (by exact dX5_flagPlaceOf_11) rfl (by (try simp only [← Int32.not_le, Classical.not_not] at *); simp only [fpl, ← Int32.not_le, c1, not_true_eq_false, not_false_eq_true, if_true, if_false, decide_true, decide_false, Bool.and_true, Bool.and_false, Bool.true_and, Bool.false_and, Bool.or_true, Bool.or_false, Bool.true_or, Bool.false_or, Bool.not_true, Bool.not_false, and_true, and_false, true_and, false_and, or_true, or_false, true_or, false_or, bIt, bIf, Bool.false_eq_true, reduceCtorEq]) rfl
set_option maxRecDepth 20000 in
theorem s5_gaolOf (l : Launch) (d : Nat) (s : Int32) (h : MH) (n : Nat) : Sp l mX5_gaolOf d [.int s] h n 0 0 (Pv (gl s) h n) := by
  show V _ _ _ _ [some (.int s)] _ _ _ _ _ _
  refine V.iload_n dX5_gaolOf_0 rfl ?_
  refine V.if_ne (tgt := 8) dX5_gaolOf_1 (by decide) (fun c1 => ?_) (fun c1 => ?_)
  · refine V.bipush (v := nI 83) dX5_gaolOf_8 (by decide) ?_
    exact V.iretP (by exact dX5_gaolOf_10) rfl (by (try simp only [← Int32.not_le, Classical.not_not] at *); simp only [gl, ← Int32.not_le, c1, not_true_eq_false, not_false_eq_true, if_true, if_false, decide_true, decide_false, Bool.and_true, Bool.and_false, Bool.true_and, Bool.false_and, Bool.or_true, Bool.or_false, Bool.true_or, Bool.false_or, Bool.not_true, Bool.not_false, and_true, and_false, true_and, false_and, or_true, or_false, true_or, false_or, bIt, bIf, Bool.false_eq_true, reduceCtorEq]) rfl
  · refine V.iconst (v := nI 0) dX5_gaolOf_4 (by decide) ?_
    refine V.goto (tgt := 10) dX5_gaolOf_5 (by decide) ?_
    exact V.iretP (by exact dX5_gaolOf_10) rfl (by (try simp only [← Int32.not_le, Classical.not_not] at *); simp only [gl, ← Int32.not_le, c1, not_true_eq_false, not_false_eq_true, if_true, if_false, decide_true, decide_false, Bool.and_true, Bool.and_false, Bool.true_and, Bool.false_and, Bool.or_true, Bool.or_false, Bool.true_or, Bool.false_or, Bool.not_true, Bool.not_false, and_true, and_false, true_and, false_and, or_true, or_false, true_or, false_or, bIt, bIf, Bool.false_eq_true, reduceCtorEq]) rfl
set_option maxRecDepth 20000 in
theorem s5_ringPostOf (l : Launch) (d : Nat) (s : Int32) (h : MH) (n : Nat) : Sp l mX5_ringPostOf d [.int s] h n 0 0 (Pv (rpo s) h n) := by
  show V _ _ _ _ [some (.int s)] _ _ _ _ _ _
  refine V.iload_n dX5_ringPostOf_0 rfl ?_
  refine V.if_ne (tgt := 9) dX5_ringPostOf_1 (by decide) (fun c1 => ?_) (fun c1 => ?_)
  · refine V.bipush (v := nI 44) dX5_ringPostOf_9 (by decide) ?_
    exact V.iretP (by exact dX5_ringPostOf_11) rfl (by (try simp only [← Int32.not_le, Classical.not_not] at *); simp only [rpo, ← Int32.not_le, c1, not_true_eq_false, not_false_eq_true, if_true, if_false, decide_true, decide_false, Bool.and_true, Bool.and_false, Bool.true_and, Bool.false_and, Bool.or_true, Bool.or_false, Bool.true_or, Bool.false_or, Bool.not_true, Bool.not_false, and_true, and_false, true_and, false_and, or_true, or_false, true_or, false_or, bIt, bIf, Bool.false_eq_true, reduceCtorEq]) rfl
  · refine V.bipush (v := nI 39) dX5_ringPostOf_4 (by decide) ?_
    refine V.goto (tgt := 11) dX5_ringPostOf_6 (by decide) ?_
    exact V.iretP (by exact dX5_ringPostOf_11) rfl (by (try simp only [← Int32.not_le, Classical.not_not] at *); simp only [rpo, ← Int32.not_le, c1, not_true_eq_false, not_false_eq_true, if_true, if_false, decide_true, decide_false, Bool.and_true, Bool.and_false, Bool.true_and, Bool.false_and, Bool.or_true, Bool.or_false, Bool.true_or, Bool.false_or, Bool.not_true, Bool.not_false, and_true, and_false, true_and, false_and, or_true, or_false, true_or, false_or, bIt, bIf, Bool.false_eq_true, reduceCtorEq]) rfl
set_option maxRecDepth 20000 in
theorem s5_gained (l : Launch) (d : Nat) (a i j : Int32) (h : MH) (n : Nat) : Sp l mX5_gained d [.int a, .int i, .int j] h n 0 0 (Pv (gn a i j) h n) := by
  show V _ _ _ _ [some (.int a), some (.int i), some (.int j), none, none] _ _ _ _ _ _
  refine V.iload_n dX5_gained_0 rfl ?_
  refine V.iload_n dX5_gained_1 rfl ?_
  refine V.isub dX5_gained_2 ?_
  refine V.iconst (v := nI 2) dX5_gained_3 (by decide) ?_
  refine V.iload_n dX5_gained_4 rfl ?_
  refine V.imul dX5_gained_5 ?_
  refine V.isub dX5_gained_6 ?_
  refine V.ist3 dX5_gained_7 (by decide) rfl ?_
  refine V.iload_n dX5_gained_8 rfl ?_
  refine V.iload_n dX5_gained_9 rfl ?_
  refine V.isub dX5_gained_10 ?_
  refine V.iconst (v := nI 2) dX5_gained_11 (by decide) ?_
  refine V.iload_n dX5_gained_12 rfl ?_
  refine V.imul dX5_gained_13 ?_
  refine V.isub dX5_gained_14 ?_
  refine V.ist4 dX5_gained_15 (by decide) rfl ?_
  refine V.iload_n dX5_gained_17 rfl ?_
  refine V.if_le (tgt := 25) dX5_gained_18 (by decide) (fun c18 => ?_) (fun c18 => ?_)
  · refine V.iconst (v := nI 0) dX5_gained_25 (by decide) ?_
    refine V.iload dX5_gained_26 rfl ?_
    refine V.if_le (tgt := 36) dX5_gained_28 (by decide) (fun c28 => ?_) (fun c28 => ?_)
    · refine V.iconst (v := nI 0) dX5_gained_36 (by decide) ?_
      refine V.isub dX5_gained_37 ?_
      exact V.iretP (by exact dX5_gained_38) rfl (by (try simp only [← Int32.not_le, Classical.not_not] at *); simp only [gn, abv, ← Int32.not_le, c18, c28, not_true_eq_false, not_false_eq_true, if_true, if_false, decide_true, decide_false, Bool.and_true, Bool.and_false, Bool.true_and, Bool.false_and, Bool.or_true, Bool.or_false, Bool.true_or, Bool.false_or, Bool.not_true, Bool.not_false, and_true, and_false, true_and, false_and, or_true, or_false, true_or, false_or, bIt, bIf, Bool.false_eq_true, reduceCtorEq]) rfl
    · refine V.iload dX5_gained_31 rfl ?_
      refine V.goto (tgt := 37) dX5_gained_33 (by decide) ?_
      refine V.isub dX5_gained_37 ?_
      exact V.iretP (by exact dX5_gained_38) rfl (by (try simp only [← Int32.not_le, Classical.not_not] at *); simp only [gn, abv, ← Int32.not_le, c18, c28, not_true_eq_false, not_false_eq_true, if_true, if_false, decide_true, decide_false, Bool.and_true, Bool.and_false, Bool.true_and, Bool.false_and, Bool.or_true, Bool.or_false, Bool.true_or, Bool.false_or, Bool.not_true, Bool.not_false, and_true, and_false, true_and, false_and, or_true, or_false, true_or, false_or, bIt, bIf, Bool.false_eq_true, reduceCtorEq]) rfl
  · refine V.iload_n dX5_gained_21 rfl ?_
    refine V.goto (tgt := 26) dX5_gained_22 (by decide) ?_
    refine V.iload dX5_gained_26 rfl ?_
    refine V.if_le (tgt := 36) dX5_gained_28 (by decide) (fun c28 => ?_) (fun c28 => ?_)
    · refine V.iconst (v := nI 0) dX5_gained_36 (by decide) ?_
      refine V.isub dX5_gained_37 ?_
      exact V.iretP (by exact dX5_gained_38) rfl (by (try simp only [← Int32.not_le, Classical.not_not] at *); simp only [gn, abv, ← Int32.not_le, c18, c28, not_true_eq_false, not_false_eq_true, if_true, if_false, decide_true, decide_false, Bool.and_true, Bool.and_false, Bool.true_and, Bool.false_and, Bool.or_true, Bool.or_false, Bool.true_or, Bool.false_or, Bool.not_true, Bool.not_false, and_true, and_false, true_and, false_and, or_true, or_false, true_or, false_or, bIt, bIf, Bool.false_eq_true, reduceCtorEq]) rfl
    · refine V.iload dX5_gained_31 rfl ?_
      refine V.goto (tgt := 37) dX5_gained_33 (by decide) ?_
      refine V.isub dX5_gained_37 ?_
      exact V.iretP (by exact dX5_gained_38) rfl (by (try simp only [← Int32.not_le, Classical.not_not] at *); simp only [gn, abv, ← Int32.not_le, c18, c28, not_true_eq_false, not_false_eq_true, if_true, if_false, decide_true, decide_false, Bool.and_true, Bool.and_false, Bool.true_and, Bool.false_and, Bool.or_true, Bool.or_false, Bool.true_or, Bool.false_or, Bool.not_true, Bool.not_false, and_true, and_false, true_and, false_and, or_true, or_false, true_or, false_or, bIt, bIf, Bool.false_eq_true, reduceCtorEq]) rfl
set_option maxRecDepth 20000 in
theorem s6_amount (l : Launch) (d : Nat) (v : Int32) (h : MH) (n : Nat) : Sp l mX6_amount d [.int v] h n 0 0 (Pv (am v) h n) := by
  show V _ _ _ _ [some (.int v)] _ _ _ _ _ _
  refine V.iload_n dX6_amount_0 rfl ?_
  refine V.if_ge (tgt := 9) dX6_amount_1 (by decide) (fun c1 => ?_) (fun c1 => ?_)
  · refine V.iload_n dX6_amount_9 rfl ?_
    exact V.iretP (by exact dX6_amount_10) rfl (by (try simp only [← Int32.not_le, Classical.not_not] at *); simp only [am, ← Int32.not_le, c1, not_true_eq_false, not_false_eq_true, if_true, if_false, decide_true, decide_false, Bool.and_true, Bool.and_false, Bool.true_and, Bool.false_and, Bool.or_true, Bool.or_false, Bool.true_or, Bool.false_or, Bool.not_true, Bool.not_false, and_true, and_false, true_and, false_and, or_true, or_false, true_or, false_or, bIt, bIf, Bool.false_eq_true, reduceCtorEq]) rfl
  · refine V.iload_n dX6_amount_4 rfl ?_
    refine V.ineg dX6_amount_5 ?_
    refine V.goto (tgt := 10) dX6_amount_6 (by decide) ?_
    exact V.iretP (by exact dX6_amount_10) rfl (by (try simp only [← Int32.not_le, Classical.not_not] at *); simp only [am, ← Int32.not_le, c1, not_true_eq_false, not_false_eq_true, if_true, if_false, decide_true, decide_false, Bool.and_true, Bool.and_false, Bool.true_and, Bool.false_and, Bool.or_true, Bool.or_false, Bool.true_or, Bool.false_or, Bool.not_true, Bool.not_false, and_true, and_false, true_and, false_and, or_true, or_false, true_or, false_or, bIt, bIf, Bool.false_eq_true, reduceCtorEq]) rfl
set_option maxRecDepth 20000 in
theorem s6_nearOf (l : Launch) (d : Nat) (a b : Int32) (h : MH) (n : Nat) : Sp l mX6_nearOf (d + 1) [.int a, .int b] h n 0 0 (Pv (nr a b) h n) := by
  show V _ _ _ _ [some (.int a), some (.int b)] _ _ _ _ _ _
  refine V.iload_n dX6_nearOf_0 rfl ?_
  refine V.bipush (v := nI 12) dX6_nearOf_1 (by decide) ?_
  refine V.irem dX6_nearOf_3 (by decide) ?_
  refine V.iload_n dX6_nearOf_4 rfl ?_
  refine V.bipush (v := nI 12) dX6_nearOf_5 (by decide) ?_
  refine V.irem dX6_nearOf_7 (by decide) ?_
  refine V.isub dX6_nearOf_8 ?_
  refine V.callSv [_] dX6_nearOf_9 lk_X6_68 rfl (Nat.le_of_ble_eq_true rfl) (Nat.le_of_ble_eq_true rfl) (s6_amount _ _ _ _ _) ?_
  refine V.iload_n dX6_nearOf_12 rfl ?_
  refine V.bipush (v := nI 12) dX6_nearOf_13 (by decide) ?_
  refine V.idiv dX6_nearOf_15 (by decide) ?_
  refine V.iload_n dX6_nearOf_16 rfl ?_
  refine V.bipush (v := nI 12) dX6_nearOf_17 (by decide) ?_
  refine V.idiv dX6_nearOf_19 (by decide) ?_
  refine V.isub dX6_nearOf_20 ?_
  refine V.callSv [_] dX6_nearOf_21 lk_X6_68 rfl (Nat.le_of_ble_eq_true rfl) (Nat.le_of_ble_eq_true rfl) (s6_amount _ _ _ _ _) ?_
  refine V.iadd dX6_nearOf_24 ?_
  exact V.iretP (by exact dX6_nearOf_25) rfl rfl rfl
set_option maxRecDepth 20000 in
theorem s6_flagPlace (l : Launch) (d : Nat) (s : Int32) (h : MH) (n : Nat) : Sp l mX6_flagPlace d [.int s] h n 0 0 (Pv (fpl s) h n) := by
  show V _ _ _ _ [some (.int s)] _ _ _ _ _ _
  refine V.bipush (v := nI 36) dX6_flagPlace_0 (by decide) ?_
  refine V.iload_n dX6_flagPlace_2 rfl ?_
  refine V.if_ne (tgt := 10) dX6_flagPlace_3 (by decide) (fun c3 => ?_) (fun c3 => ?_)
  · refine V.bipush (v := nI 10) dX6_flagPlace_10 (by decide) ?_
    refine V.iaddN dX6_flagPlace_12 ?_
    exact V.iretP (by exact dX6_flagPlace_13) rfl (by (try simp only [← Int32.not_le, Classical.not_not] at *); simp only [fpl, ← Int32.not_le, c3, not_true_eq_false, not_false_eq_true, if_true, if_false, decide_true, decide_false, Bool.and_true, Bool.and_false, Bool.true_and, Bool.false_and, Bool.or_true, Bool.or_false, Bool.true_or, Bool.false_or, Bool.not_true, Bool.not_false, and_true, and_false, true_and, false_and, or_true, or_false, true_or, false_or, bIt, bIf, Bool.false_eq_true, reduceCtorEq]) rfl
  · refine V.iconst (v := nI 1) dX6_flagPlace_6 (by decide) ?_
    refine V.goto (tgt := 12) dX6_flagPlace_7 (by decide) ?_
    refine V.iaddN dX6_flagPlace_12 ?_
    exact V.iretP (by exact dX6_flagPlace_13) rfl (by (try simp only [← Int32.not_le, Classical.not_not] at *); simp only [fpl, ← Int32.not_le, c3, not_true_eq_false, not_false_eq_true, if_true, if_false, decide_true, decide_false, Bool.and_true, Bool.and_false, Bool.true_and, Bool.false_and, Bool.or_true, Bool.or_false, Bool.true_or, Bool.false_or, Bool.not_true, Bool.not_false, and_true, and_false, true_and, false_and, or_true, or_false, true_or, false_or, bIt, bIf, Bool.false_eq_true, reduceCtorEq]) rfl
set_option maxRecDepth 20000 in
theorem s6_gaolOf (l : Launch) (d : Nat) (s : Int32) (h : MH) (n : Nat) : Sp l mX6_gaolOf d [.int s] h n 0 0 (Pv (gl s) h n) := by
  show V _ _ _ _ [some (.int s)] _ _ _ _ _ _
  refine V.iload_n dX6_gaolOf_0 rfl ?_
  refine V.if_ne (tgt := 8) dX6_gaolOf_1 (by decide) (fun c1 => ?_) (fun c1 => ?_)
  · refine V.bipush (v := nI 83) dX6_gaolOf_8 (by decide) ?_
    exact V.iretP (by exact dX6_gaolOf_10) rfl (by (try simp only [← Int32.not_le, Classical.not_not] at *); simp only [gl, ← Int32.not_le, c1, not_true_eq_false, not_false_eq_true, if_true, if_false, decide_true, decide_false, Bool.and_true, Bool.and_false, Bool.true_and, Bool.false_and, Bool.or_true, Bool.or_false, Bool.true_or, Bool.false_or, Bool.not_true, Bool.not_false, and_true, and_false, true_and, false_and, or_true, or_false, true_or, false_or, bIt, bIf, Bool.false_eq_true, reduceCtorEq]) rfl
  · refine V.iconst (v := nI 0) dX6_gaolOf_4 (by decide) ?_
    refine V.goto (tgt := 10) dX6_gaolOf_5 (by decide) ?_
    exact V.iretP (by exact dX6_gaolOf_10) rfl (by (try simp only [← Int32.not_le, Classical.not_not] at *); simp only [gl, ← Int32.not_le, c1, not_true_eq_false, not_false_eq_true, if_true, if_false, decide_true, decide_false, Bool.and_true, Bool.and_false, Bool.true_and, Bool.false_and, Bool.or_true, Bool.or_false, Bool.true_or, Bool.false_or, Bool.not_true, Bool.not_false, and_true, and_false, true_and, false_and, or_true, or_false, true_or, false_or, bIt, bIf, Bool.false_eq_true, reduceCtorEq]) rfl
set_option maxRecDepth 20000 in
theorem s6_above (l : Launch) (d : Nat) (v : Int32) (h : MH) (n : Nat) : Sp l mX6_above d [.int v] h n 0 0 (Pv (abv v) h n) := by
  show V _ _ _ _ [some (.int v)] _ _ _ _ _ _
  refine V.iload_n dX6_above_0 rfl ?_
  refine V.if_le (tgt := 8) dX6_above_1 (by decide) (fun c1 => ?_) (fun c1 => ?_)
  · refine V.iconst (v := nI 0) dX6_above_8 (by decide) ?_
    exact V.iretP (by exact dX6_above_9) rfl (by (try simp only [← Int32.not_le, Classical.not_not] at *); simp only [abv, ← Int32.not_le, c1, not_true_eq_false, not_false_eq_true, if_true, if_false, decide_true, decide_false, Bool.and_true, Bool.and_false, Bool.true_and, Bool.false_and, Bool.or_true, Bool.or_false, Bool.true_or, Bool.false_or, Bool.not_true, Bool.not_false, and_true, and_false, true_and, false_and, or_true, or_false, true_or, false_or, bIt, bIf, Bool.false_eq_true, reduceCtorEq]) rfl
  · refine V.iload_n dX6_above_4 rfl ?_
    refine V.goto (tgt := 9) dX6_above_5 (by decide) ?_
    exact V.iretP (by exact dX6_above_9) rfl (by (try simp only [← Int32.not_le, Classical.not_not] at *); simp only [abv, ← Int32.not_le, c1, not_true_eq_false, not_false_eq_true, if_true, if_false, decide_true, decide_false, Bool.and_true, Bool.and_false, Bool.true_and, Bool.false_and, Bool.or_true, Bool.or_false, Bool.true_or, Bool.false_or, Bool.not_true, Bool.not_false, and_true, and_false, true_and, false_and, or_true, or_false, true_or, false_or, bIt, bIf, Bool.false_eq_true, reduceCtorEq]) rfl
set_option maxRecDepth 20000 in
theorem s6_gainOf (l : Launch) (d : Nat) (a i j : Int32) (h : MH) (n : Nat) : Sp l mX6_gainOf (d + 1) [.int a, .int i, .int j] h n 0 0 (Pv (gn a i j) h n) := by
  show V _ _ _ _ [some (.int a), some (.int i), some (.int j)] _ _ _ _ _ _
  refine V.iload_n dX6_gainOf_0 rfl ?_
  refine V.iload_n dX6_gainOf_1 rfl ?_
  refine V.isub dX6_gainOf_2 ?_
  refine V.iconst (v := nI 2) dX6_gainOf_3 (by decide) ?_
  refine V.iload_n dX6_gainOf_4 rfl ?_
  refine V.imul dX6_gainOf_5 ?_
  refine V.isub dX6_gainOf_6 ?_
  refine V.callSv [_] dX6_gainOf_7 lk_X6_279 rfl (Nat.le_of_ble_eq_true rfl) (Nat.le_of_ble_eq_true rfl) (s6_above _ _ _ _ _) ?_
  refine V.iload_n dX6_gainOf_10 rfl ?_
  refine V.iload_n dX6_gainOf_11 rfl ?_
  refine V.isub dX6_gainOf_12 ?_
  refine V.iconst (v := nI 2) dX6_gainOf_13 (by decide) ?_
  refine V.iload_n dX6_gainOf_14 rfl ?_
  refine V.imul dX6_gainOf_15 ?_
  refine V.isub dX6_gainOf_16 ?_
  refine V.callSv [_] dX6_gainOf_17 lk_X6_279 rfl (Nat.le_of_ble_eq_true rfl) (Nat.le_of_ble_eq_true rfl) (s6_above _ _ _ _ _) ?_
  refine V.isub dX6_gainOf_20 ?_
  exact V.iretP (by exact dX6_gainOf_21) rfl rfl rfl
