theorem lgc_tri (x y : Int64) (h1 : ¬ y < x) (h2 : ¬ x = y) : x < y := by
  rw [Int64.lt_iff_toInt_lt] at *
  have h3 : ¬ x.toInt = y.toInt := fun q => h2 (Int64.toInt_inj.mp q)
  omega
theorem lgc_lt (x y : Int64) : lg_cmp x y < 0 ↔ x < y := by
  unfold lg_cmp
  by_cases h1 : y < x
  · have h2 : ¬ x < y := fun q => absurd (Int64.lt_trans h1 q) (Int64.lt_irrefl)
    simp [h1, h2]
  · by_cases h2 : x = y
    · subst h2
      simp [Int64.lt_irrefl]
    · simp [h1, h2, lgc_tri x y h1 h2]
theorem lgc_gt (x y : Int64) : 0 < lg_cmp x y ↔ y < x := by
  unfold lg_cmp
  by_cases h1 : y < x
  · simp [h1]
  · by_cases h2 : x = y
    · subst h2
      simp [Int64.lt_irrefl]
    · simp [h1, h2]
theorem wide_le (a b : Int32) : a.toInt64 ≤ b.toInt64 ↔ a ≤ b := by
  rw [Int64.le_iff_toInt_le, Int32.le_iff_toInt_le, Int32.toInt_toInt64, Int32.toInt_toInt64]
theorem V.ls {l : Launch} {M : MT} {d pc : Nat} {ls ls1 : List (Option Value)} {st : List Value} {h : MH} {n c z : Nat} {Q : Option Value → MH → Nat → Prop} (e : ls = ls1) (k : V l M d pc ls1 st h n c z Q) : V l M d pc ls st h n c z Q := e ▸ k
theorem V.st {l : Launch} {M : MT} {d pc : Nat} {ls : List (Option Value)} {st st1 : List Value} {h : MH} {n c z : Nat} {Q : Option Value → MH → Nat → Prop} (e : st = st1) (k : V l M d pc ls st1 h n c z Q) : V l M d pc ls st h n c z Q := e ▸ k
set_option maxRecDepth 20000 in
set_option maxHeartbeats 4000000 in
theorem s6_isIn (l : Launch) (d : Nat) (v a b : Int64) (h : MH) (n : Nat) : Sp l mX6_isIn d [.long v, .long a, .long b] h n 0 0 (Pv (bI (decide (a ≤ v) && decide (v ≤ b))) h n) := by
  show V _ _ _ _ [some (.long v), none, some (.long a), none, some (.long b), none] _ _ _ _ _ _
  refine V.lload_n dX6_isIn_0 rfl ?_
  refine V.lload_n dX6_isIn_1 rfl ?_
  refine V.lcmp dX6_isIn_2 ?_
  refine V.if_lt (tgt := 17) dX6_isIn_3 (by decide) (fun c3 => ?_) (fun c3 => ?_)
  · refine V.iconst (v := nI 0) dX6_isIn_17 (by decide) ?_
    exact V.iretZ (by exact dX6_isIn_18) rfl (by (try simp only [lgc_lt, lgc_gt] at *); (try simp only [← Int64.not_le, Classical.not_not] at *); simp only [← Int64.not_le, c3, not_true_eq_false, not_false_eq_true, if_true, if_false, decide_true, decide_false, Bool.and_true, Bool.and_false, Bool.true_and, Bool.false_and, Bool.or_true, Bool.or_false, Bool.true_or, Bool.false_or, Bool.not_true, Bool.not_false, and_true, and_false, true_and, false_and, or_true, or_false, true_or, false_or, bIt, bIf, Bool.false_eq_true, reduceCtorEq]) rfl
  · refine V.lload_n dX6_isIn_6 rfl ?_
    refine V.lload dX6_isIn_7 rfl ?_
    refine V.lcmp dX6_isIn_9 ?_
    refine V.if_gt (tgt := 17) dX6_isIn_10 (by decide) (fun c10 => ?_) (fun c10 => ?_)
    · refine V.iconst (v := nI 0) dX6_isIn_17 (by decide) ?_
      exact V.iretZ (by exact dX6_isIn_18) rfl (by (try simp only [lgc_lt, lgc_gt] at *); (try simp only [← Int64.not_le, Classical.not_not] at *); simp only [← Int64.not_le, c3, c10, not_true_eq_false, not_false_eq_true, if_true, if_false, decide_true, decide_false, Bool.and_true, Bool.and_false, Bool.true_and, Bool.false_and, Bool.or_true, Bool.or_false, Bool.true_or, Bool.false_or, Bool.not_true, Bool.not_false, and_true, and_false, true_and, false_and, or_true, or_false, true_or, false_or, bIt, bIf, Bool.false_eq_true, reduceCtorEq]) rfl
    · refine V.iconst (v := nI 1) dX6_isIn_13 (by decide) ?_
      refine V.goto (tgt := 18) dX6_isIn_14 (by decide) ?_
      exact V.iretZ (by exact dX6_isIn_18) rfl (by (try simp only [lgc_lt, lgc_gt] at *); (try simp only [← Int64.not_le, Classical.not_not] at *); simp only [← Int64.not_le, c3, c10, not_true_eq_false, not_false_eq_true, if_true, if_false, decide_true, decide_false, Bool.and_true, Bool.and_false, Bool.true_and, Bool.false_and, Bool.or_true, Bool.or_false, Bool.true_or, Bool.false_or, Bool.not_true, Bool.not_false, and_true, and_false, true_and, false_and, or_true, or_false, true_or, false_or, bIt, bIf, Bool.false_eq_true, reduceCtorEq]) rfl
theorem s6_isInC (l : Launch) (d : Nat) (x : Int32) {a b : Int64} (lo hi : Int32) (ha : lo.toInt64 = a) (hb : hi.toInt64 = b) (h : MH) (n : Nat) : Sp l mX6_isIn d [.long x.toInt64, .long a, .long b] h n 0 0 (Pv (bI (wi x lo hi)) h n) := by
  subst ha; subst hb
  have h1 := s6_isIn l d x.toInt64 lo.toInt64 hi.toInt64 h n
  have e : (decide (lo.toInt64 ≤ x.toInt64) && decide (x.toInt64 ≤ hi.toInt64)) = wi x lo hi := by simp only [wide_le, wi]
  rw [e] at h1
  exact h1
set_option maxRecDepth 20000 in
set_option maxHeartbeats 4000000 in
theorem s6_isShelf (l : Launch) (d : Nat) (x : Int32) (h : MH) (n : Nat) : Sp l mX6_isShelf (d + 1) [.int x] h n 0 0 (Pv (bI (wi x (nI 0) (nI 7))) h n) := by
  show V _ _ _ _ [some (.int x)] _ _ _ _ _ _
  refine V.iload_n dX6_isShelf_0 rfl ?_
  refine V.i2l dX6_isShelf_1 ?_
  refine V.lconst (v := 0) dX6_isShelf_2 (by decide) ?_
  refine V.ldc2 dX6_isShelf_3 cn_X6_60 ?_
  refine V.callSv [_, _, _] dX6_isShelf_6 lk_X6_62 rfl (Nat.le_of_ble_eq_true rfl) (Nat.le_of_ble_eq_true rfl) (s6_isInC _ _ _ (nI 0) (nI 7) (by decide) (by decide) _ _) ?_
  exact V.iretZ (by exact dX6_isShelf_9) rfl rfl rfl
set_option maxRecDepth 20000 in
set_option maxHeartbeats 4000000 in
theorem s6_isCell (l : Launch) (d : Nat) (x : Int32) (h : MH) (n : Nat) : Sp l mX6_isCell (d + 1) [.int x] h n 0 0 (Pv (bI (wi x (nI 0) (nI 83))) h n) := by
  show V _ _ _ _ [some (.int x)] _ _ _ _ _ _
  refine V.iload_n dX6_isCell_0 rfl ?_
  refine V.i2l dX6_isCell_1 ?_
  refine V.lconst (v := 0) dX6_isCell_2 (by decide) ?_
  refine V.ldc2 dX6_isCell_3 cn_X6_66 ?_
  refine V.callSv [_, _, _] dX6_isCell_6 lk_X6_62 rfl (Nat.le_of_ble_eq_true rfl) (Nat.le_of_ble_eq_true rfl) (s6_isInC _ _ _ (nI 0) (nI 83) (by decide) (by decide) _ _) ?_
  exact V.iretZ (by exact dX6_isCell_9) rfl rfl rfl
set_option maxRecDepth 20000 in
set_option maxHeartbeats 4000000 in
theorem s6_isSide (l : Launch) (d : Nat) (x : Int32) (h : MH) (n : Nat) : Sp l mX6_isSide (d + 1) [.int x] h n 0 0 (Pv (bI (wi x (nI 0) (nI 1))) h n) := by
  show V _ _ _ _ [some (.int x)] _ _ _ _ _ _
  refine V.iload_n dX6_isSide_0 rfl ?_
  refine V.i2l dX6_isSide_1 ?_
  refine V.lconst (v := 0) dX6_isSide_2 (by decide) ?_
  refine V.lconst (v := 1) dX6_isSide_3 (by decide) ?_
  refine V.callSv [_, _, _] dX6_isSide_4 lk_X6_62 rfl (Nat.le_of_ble_eq_true rfl) (Nat.le_of_ble_eq_true rfl) (s6_isInC _ _ _ (nI 0) (nI 1) (by decide) (by decide) _ _) ?_
  exact V.iretZ (by exact dX6_isSide_7) rfl rfl rfl
/-- the reference's wood: a row of 184 numbers -/
abbrev KK : Type := Nat → Int32
abbrev kc (K : KK) : MC := .inl (0, 184, .inl K)
def gP (K : KK) (p w : Nat) : Int32 := K (114 + 7 * p + w)
def ring (K : KK) (s c : Int32) : Bool := decide (nr c (fpl s) ≤ K 84)
def frB (K : KK) (p : Nat) : Bool := decide (gP K p 5 = nI 0)
def hfc (c : Int32) : Int32 := rm c / nI 6
def cntH (K : KK) (s : Int32) : Nat → Nat
  | 0 => 0
  | p + 1 => cntH K s p + (if gP K p 0 = s ∧ gP K p 5 = nI 1 then 1 else 0)
theorem cntH_le (K : KK) (s : Int32) : ∀ m, cntH K s m ≤ m := by
  intro m
  induction m with
  | zero => exact Nat.le_refl 0
  | succ m ih => unfold cntH; split <;> omega
theorem fp0 : fpl (nI 0) = nI 37 := by decide
theorem fp1 : fpl (nI 1) = nI 46 := by decide
theorem gl0 : gl (nI 0) = nI 0 := by decide
theorem gl1 : gl (nI 1) = nI 83 := by decide
def keptB (c : Int32) : Bool := decide (c = nI 37 ∨ c = nI 46 ∨ c = nI 0 ∨ c = nI 83)
def sgn (v : Int32) : Int32 := if 0 < v then nI 1 else if v < 0 then -1 else nI 0
def seB (K : KK) (p : Nat) (c : Int32) : Bool := decide (nr (gP K p 4) c ≤ (if K c.toNatClampNeg = nI 1 then nI 1 else nI 4))
set_option maxRecDepth 20000 in
set_option maxHeartbeats 4000000 in
theorem s6_get (l : Launch) (d : Nat) (h : MH) (n a : Nat) (K : KK) (ha : h a = some (kc K)) (p w : Nat) (hp : p < 10) (hw : w < 7) : Sp l mX6_get d [.ref a, .int (nI p), .int (nI w)] h n 0 0 (Pv (gP K p w) h n) := by
  show V _ _ _ _ [some (.ref a), some (.int (nI p)), some (.int (nI w))] _ _ _ _ _ _
  refine V.aload_n dX6_get_0 rfl ?_
  refine V.bipush (v := nI 114) dX6_get_1 (by decide) ?_
  refine V.bipush (v := nI 7) dX6_get_3 (by decide) ?_
  refine V.iload_n dX6_get_5 rfl ?_
  refine V.imulN dX6_get_6 ?_
  refine V.iaddN dX6_get_7 ?_
  refine V.iload_n dX6_get_8 rfl ?_
  refine V.iaddN dX6_get_9 ?_
  refine V.ialdN dX6_get_10 (by assumption) (by omega) (by decide) ?_
  exact V.iretP (by exact dX6_get_11) rfl rfl rfl
set_option maxRecDepth 20000 in
set_option maxHeartbeats 4000000 in
theorem s6_puts (l : Launch) (d : Nat) (h : MH) (n a : Nat) (K : KK) (ha : h a = some (kc K)) (p w : Nat) (v : Int32) (hp : p < 10) (hw : w < 7) : Sp l mX6_puts d [.ref a, .int (nI p), .int (nI w), .int v] h n 0 0 (Pu (hset h a (kc (upd K (114 + 7 * p + w) v))) n) := by
  show V _ _ _ _ [some (.ref a), some (.int (nI p)), some (.int (nI w)), some (.int v)] _ _ _ _ _ _
  refine V.aload_n dX6_puts_0 rfl ?_
  refine V.bipush (v := nI 114) dX6_puts_1 (by decide) ?_
  refine V.bipush (v := nI 7) dX6_puts_3 (by decide) ?_
  refine V.iload_n dX6_puts_5 rfl ?_
  refine V.imulN dX6_puts_6 ?_
  refine V.iaddN dX6_puts_7 ?_
  refine V.iload_n dX6_puts_8 rfl ?_
  refine V.iaddN dX6_puts_9 ?_
  refine V.iload_n dX6_puts_10 rfl ?_
  refine V.iastN dX6_puts_11 (by assumption) (by omega) (by decide) ?_
  exact V.vretP (by exact dX6_puts_12) rfl rfl
set_option maxRecDepth 20000 in
set_option maxHeartbeats 4000000 in
theorem s6_halfOf (l : Launch) (d : Nat) (c : Int32) (h : MH) (n : Nat) : Sp l mX6_halfOf d [.int c] h n 0 0 (Pv (hfc c) h n) := by
  show V _ _ _ _ [some (.int c)] _ _ _ _ _ _
  refine V.iload_n dX6_halfOf_0 rfl ?_
  refine V.bipush (v := nI 12) dX6_halfOf_1 (by decide) ?_
  refine V.irem dX6_halfOf_3 (by decide) ?_
  refine V.bipush (v := nI 6) dX6_halfOf_4 (by decide) ?_
  refine V.idiv dX6_halfOf_6 (by decide) ?_
  exact V.iretP (by exact dX6_halfOf_7) rfl rfl rfl
set_option maxRecDepth 20000 in
set_option maxHeartbeats 4000000 in
theorem s6_isKept (l : Launch) (d : Nat) (c : Int32) (h : MH) (n : Nat) : Sp l mX6_isKept (d + 1) [.int c] h n 0 0 (Pv (bI (keptB c)) h n) := by
  show V _ _ _ _ [some (.int c)] _ _ _ _ _ _
  refine V.iload_n dX6_isKept_0 rfl ?_
  refine V.iconst (v := nI 0) dX6_isKept_1 (by decide) ?_
  refine V.callSv [_] dX6_isKept_2 lk_X6_72 rfl (Nat.le_of_ble_eq_true rfl) (Nat.le_of_ble_eq_true rfl) (s6_flagPlace _ _ _ _ _) ?_
  refine V.icmp_eq (tgt := 32) dX6_isKept_5 (by decide) (fun c5 => ?_) (fun c5 => ?_)
  · refine V.iconst (v := nI 1) dX6_isKept_32 (by decide) ?_
    refine V.goto (tgt := 37) dX6_isKept_33 (by decide) ?_
    exact V.iretZ (by exact dX6_isKept_37) rfl (by (try simp only [← Int32.not_le, Classical.not_not] at *); simp only [fp0, fp1, gl0, gl1] at *; simp only [keptB, ← Int32.not_le, c5, not_true_eq_false, not_false_eq_true, if_true, if_false, decide_true, decide_false, Bool.and_true, Bool.and_false, Bool.true_and, Bool.false_and, Bool.or_true, Bool.or_false, Bool.true_or, Bool.false_or, Bool.not_true, Bool.not_false, and_true, and_false, true_and, false_and, or_true, or_false, true_or, false_or, bIt, bIf, Bool.false_eq_true, reduceCtorEq]) rfl
  · refine V.iload_n dX6_isKept_8 rfl ?_
    refine V.iconst (v := nI 1) dX6_isKept_9 (by decide) ?_
    refine V.callSv [_] dX6_isKept_10 lk_X6_72 rfl (Nat.le_of_ble_eq_true rfl) (Nat.le_of_ble_eq_true rfl) (s6_flagPlace _ _ _ _ _) ?_
    refine V.icmp_eq (tgt := 32) dX6_isKept_13 (by decide) (fun c13 => ?_) (fun c13 => ?_)
    · refine V.iconst (v := nI 1) dX6_isKept_32 (by decide) ?_
      refine V.goto (tgt := 37) dX6_isKept_33 (by decide) ?_
      exact V.iretZ (by exact dX6_isKept_37) rfl (by (try simp only [← Int32.not_le, Classical.not_not] at *); simp only [fp0, fp1, gl0, gl1] at *; simp only [keptB, ← Int32.not_le, c5, c13, not_true_eq_false, not_false_eq_true, if_true, if_false, decide_true, decide_false, Bool.and_true, Bool.and_false, Bool.true_and, Bool.false_and, Bool.or_true, Bool.or_false, Bool.true_or, Bool.false_or, Bool.not_true, Bool.not_false, and_true, and_false, true_and, false_and, or_true, or_false, true_or, false_or, bIt, bIf, Bool.false_eq_true, reduceCtorEq]) rfl
    · refine V.iload_n dX6_isKept_16 rfl ?_
      refine V.iconst (v := nI 0) dX6_isKept_17 (by decide) ?_
      refine V.callSv [_] dX6_isKept_18 lk_X6_75 rfl (Nat.le_of_ble_eq_true rfl) (Nat.le_of_ble_eq_true rfl) (s6_gaolOf _ _ _ _ _) ?_
      refine V.icmp_eq (tgt := 32) dX6_isKept_21 (by decide) (fun c21 => ?_) (fun c21 => ?_)
      · refine V.iconst (v := nI 1) dX6_isKept_32 (by decide) ?_
        refine V.goto (tgt := 37) dX6_isKept_33 (by decide) ?_
        exact V.iretZ (by exact dX6_isKept_37) rfl (by (try simp only [← Int32.not_le, Classical.not_not] at *); simp only [fp0, fp1, gl0, gl1] at *; simp only [keptB, ← Int32.not_le, c5, c13, c21, not_true_eq_false, not_false_eq_true, if_true, if_false, decide_true, decide_false, Bool.and_true, Bool.and_false, Bool.true_and, Bool.false_and, Bool.or_true, Bool.or_false, Bool.true_or, Bool.false_or, Bool.not_true, Bool.not_false, and_true, and_false, true_and, false_and, or_true, or_false, true_or, false_or, bIt, bIf, Bool.false_eq_true, reduceCtorEq]) rfl
      · refine V.iload_n dX6_isKept_24 rfl ?_
        refine V.iconst (v := nI 1) dX6_isKept_25 (by decide) ?_
        refine V.callSv [_] dX6_isKept_26 lk_X6_75 rfl (Nat.le_of_ble_eq_true rfl) (Nat.le_of_ble_eq_true rfl) (s6_gaolOf _ _ _ _ _) ?_
        refine V.icmp_ne (tgt := 36) dX6_isKept_29 (by decide) (fun c29 => ?_) (fun c29 => ?_)
        · refine V.iconst (v := nI 0) dX6_isKept_36 (by decide) ?_
          exact V.iretZ (by exact dX6_isKept_37) rfl (by (try simp only [← Int32.not_le, Classical.not_not] at *); simp only [fp0, fp1, gl0, gl1] at *; simp only [keptB, ← Int32.not_le, c5, c13, c21, c29, not_true_eq_false, not_false_eq_true, if_true, if_false, decide_true, decide_false, Bool.and_true, Bool.and_false, Bool.true_and, Bool.false_and, Bool.or_true, Bool.or_false, Bool.true_or, Bool.false_or, Bool.not_true, Bool.not_false, and_true, and_false, true_and, false_and, or_true, or_false, true_or, false_or, bIt, bIf, Bool.false_eq_true, reduceCtorEq]) rfl
        · refine V.iconst (v := nI 1) dX6_isKept_32 (by decide) ?_
          refine V.goto (tgt := 37) dX6_isKept_33 (by decide) ?_
          exact V.iretZ (by exact dX6_isKept_37) rfl (by (try simp only [← Int32.not_le, Classical.not_not] at *); simp only [fp0, fp1, gl0, gl1] at *; simp only [keptB, ← Int32.not_le, c5, c13, c21, c29, not_true_eq_false, not_false_eq_true, if_true, if_false, decide_true, decide_false, Bool.and_true, Bool.and_false, Bool.true_and, Bool.false_and, Bool.or_true, Bool.or_false, Bool.true_or, Bool.false_or, Bool.not_true, Bool.not_false, and_true, and_false, true_and, false_and, or_true, or_false, true_or, false_or, bIt, bIf, Bool.false_eq_true, reduceCtorEq]) rfl
set_option maxRecDepth 20000 in
set_option maxHeartbeats 4000000 in
theorem s6_isRing (l : Launch) (d : Nat) (h : MH) (n a : Nat) (K : KK) (ha : h a = some (kc K)) (s c : Int32) : Sp l mX6_isRing (d + 2) [.ref a, .int s, .int c] h n 0 0 (Pv (bI (ring K s c)) h n) := by
  show V _ _ _ _ [some (.ref a), some (.int s), some (.int c)] _ _ _ _ _ _
  refine V.iload_n dX6_isRing_0 rfl ?_
  refine V.iload_n dX6_isRing_1 rfl ?_
  refine V.callSv [_] dX6_isRing_2 lk_X6_72 rfl (Nat.le_of_ble_eq_true rfl) (Nat.le_of_ble_eq_true rfl) (s6_flagPlace _ _ _ _ _) ?_
  refine V.callSv [_, _] dX6_isRing_5 lk_X6_78 rfl (Nat.le_of_ble_eq_true rfl) (Nat.le_of_ble_eq_true rfl) (s6_nearOf _ _ _ _ _ _) ?_
  refine V.aload_n dX6_isRing_8 rfl ?_
  refine V.bipush (v := nI 84) dX6_isRing_9 (by decide) ?_
  refine V.ialdN dX6_isRing_11 (by assumption) (by omega) (by decide) ?_
  refine V.icmp_gt (tgt := 19) dX6_isRing_12 (by decide) (fun c12 => ?_) (fun c12 => ?_)
  · refine V.iconst (v := nI 0) dX6_isRing_19 (by decide) ?_
    exact V.iretZ (by exact dX6_isRing_20) rfl (by (try simp only [← Int32.not_le, Classical.not_not] at *); simp only [ring, ← Int32.not_le, c12, not_true_eq_false, not_false_eq_true, if_true, if_false, decide_true, decide_false, Bool.and_true, Bool.and_false, Bool.true_and, Bool.false_and, Bool.or_true, Bool.or_false, Bool.true_or, Bool.false_or, Bool.not_true, Bool.not_false, and_true, and_false, true_and, false_and, or_true, or_false, true_or, false_or, bIt, bIf, Bool.false_eq_true, reduceCtorEq]) rfl
  · refine V.iconst (v := nI 1) dX6_isRing_15 (by decide) ?_
    refine V.goto (tgt := 20) dX6_isRing_16 (by decide) ?_
    exact V.iretZ (by exact dX6_isRing_20) rfl (by (try simp only [← Int32.not_le, Classical.not_not] at *); simp only [ring, ← Int32.not_le, c12, not_true_eq_false, not_false_eq_true, if_true, if_false, decide_true, decide_false, Bool.and_true, Bool.and_false, Bool.true_and, Bool.false_and, Bool.or_true, Bool.or_false, Bool.true_or, Bool.false_or, Bool.not_true, Bool.not_false, and_true, and_false, true_and, false_and, or_true, or_false, true_or, false_or, bIt, bIf, Bool.false_eq_true, reduceCtorEq]) rfl
set_option maxRecDepth 20000 in
set_option maxHeartbeats 4000000 in
theorem s6_isFree (l : Launch) (d : Nat) (h : MH) (n a : Nat) (K : KK) (ha : h a = some (kc K)) (p : Nat) (hp : p < 10) : Sp l mX6_isFree (d + 1) [.ref a, .int (nI p)] h n 0 0 (Pv (bI (frB K p)) h n) := by
  show V _ _ _ _ [some (.ref a), some (.int (nI p))] _ _ _ _ _ _
  refine V.aload_n dX6_isFree_0 rfl ?_
  refine V.iload_n dX6_isFree_1 rfl ?_
  refine V.iconst (v := nI 5) dX6_isFree_2 (by decide) ?_
  refine V.callSv [_, _, _] dX6_isFree_3 lk_X6_82 rfl (Nat.le_of_ble_eq_true rfl) (Nat.le_of_ble_eq_true rfl) (s6_get _ _ _ _ _ _ (by assumption) _ _ (by omega) (by omega)) ?_
  refine V.if_ne (tgt := 13) dX6_isFree_6 (by decide) (fun c6 => ?_) (fun c6 => ?_)
  · refine V.iconst (v := nI 0) dX6_isFree_13 (by decide) ?_
    exact V.iretZ (by exact dX6_isFree_14) rfl (by (try simp only [← Int32.not_le, Classical.not_not] at *); simp only [frB, ← i0, ← Int32.not_le, c6, not_true_eq_false, not_false_eq_true, if_true, if_false, decide_true, decide_false, Bool.and_true, Bool.and_false, Bool.true_and, Bool.false_and, Bool.or_true, Bool.or_false, Bool.true_or, Bool.false_or, Bool.not_true, Bool.not_false, and_true, and_false, true_and, false_and, or_true, or_false, true_or, false_or, bIt, bIf, Bool.false_eq_true, reduceCtorEq]) rfl
  · refine V.iconst (v := nI 1) dX6_isFree_9 (by decide) ?_
    refine V.goto (tgt := 14) dX6_isFree_10 (by decide) ?_
    exact V.iretZ (by exact dX6_isFree_14) rfl (by (try simp only [← Int32.not_le, Classical.not_not] at *); simp only [frB, ← i0, ← Int32.not_le, c6, not_true_eq_false, not_false_eq_true, if_true, if_false, decide_true, decide_false, Bool.and_true, Bool.and_false, Bool.true_and, Bool.false_and, Bool.or_true, Bool.or_false, Bool.true_or, Bool.false_or, Bool.not_true, Bool.not_false, and_true, and_false, true_and, false_and, or_true, or_false, true_or, false_or, bIt, bIf, Bool.false_eq_true, reduceCtorEq]) rfl
set_option maxRecDepth 20000 in
set_option maxHeartbeats 4000000 in
theorem s6_carrierOf (l : Launch) (d : Nat) (h : MH) (n a : Nat) (K : KK) (ha : h a = some (kc K)) (e : Nat) (he : e < 2) : Sp l mX6_carrierOf d [.ref a, .int (nI e)] h n 0 0 (Pv (K (97 + 2 * e)) h n) := by
  show V _ _ _ _ [some (.ref a), some (.int (nI e))] _ _ _ _ _ _
  refine V.aload_n dX6_carrierOf_0 rfl ?_
  refine V.bipush (v := nI 96) dX6_carrierOf_1 (by decide) ?_
  refine V.iconst (v := nI 2) dX6_carrierOf_3 (by decide) ?_
  refine V.iload_n dX6_carrierOf_4 rfl ?_
  refine V.imulN dX6_carrierOf_5 ?_
  refine V.iaddN dX6_carrierOf_6 ?_
  refine V.iconst (v := nI 1) dX6_carrierOf_7 (by decide) ?_
  refine V.iaddN dX6_carrierOf_8 ?_
  refine V.ialdN dX6_carrierOf_9 (by assumption) (by omega) (by decide) ?_
  exact V.iretP (by exact dX6_carrierOf_10) rfl (by rw [show 96 + 2 * e + 1 = 97 + 2 * e by omega]) rfl
def hasF (K : KK) (p : Int32) : Bool := decide (K 97 = p ∨ K 99 = p)
set_option maxRecDepth 20000 in
set_option maxHeartbeats 4000000 in
theorem s6_hasFlag (l : Launch) (d : Nat) (h : MH) (n a : Nat) (K : KK) (ha : h a = some (kc K)) (p : Int32) : Sp l mX6_hasFlag (d + 1) [.ref a, .int p] h n 0 0 (Pv (bI (hasF K p)) h n) := by
  show V _ _ _ _ [some (.ref a), some (.int p)] _ _ _ _ _ _
  refine V.aload_n dX6_hasFlag_0 rfl ?_
  refine V.iconst (v := nI 0) dX6_hasFlag_1 (by decide) ?_
  refine V.callSv [_, _] dX6_hasFlag_2 lk_X6_188 rfl (Nat.le_of_ble_eq_true rfl) (Nat.le_of_ble_eq_true rfl) (s6_carrierOf _ _ _ _ _ _ (by assumption) _ (by omega)) ?_
  refine V.iload_n dX6_hasFlag_5 rfl ?_
  refine V.icmp_eq (tgt := 18) dX6_hasFlag_6 (by decide) (fun c6 => ?_) (fun c6 => ?_)
  · refine V.iconst (v := nI 1) dX6_hasFlag_18 (by decide) ?_
    refine V.goto (tgt := 23) dX6_hasFlag_19 (by decide) ?_
    exact V.iretZ (by exact dX6_hasFlag_23) rfl (by (try simp only [← Int32.not_le, Classical.not_not] at *); simp only [Nat.reduceMul, Nat.reduceAdd] at *; simp only [hasF, ← Int32.not_le, c6, not_true_eq_false, not_false_eq_true, if_true, if_false, decide_true, decide_false, Bool.and_true, Bool.and_false, Bool.true_and, Bool.false_and, Bool.or_true, Bool.or_false, Bool.true_or, Bool.false_or, Bool.not_true, Bool.not_false, and_true, and_false, true_and, false_and, or_true, or_false, true_or, false_or, bIt, bIf, Bool.false_eq_true, reduceCtorEq]) rfl
  · refine V.aload_n dX6_hasFlag_9 rfl ?_
    refine V.iconst (v := nI 1) dX6_hasFlag_10 (by decide) ?_
    refine V.callSv [_, _] dX6_hasFlag_11 lk_X6_188 rfl (Nat.le_of_ble_eq_true rfl) (Nat.le_of_ble_eq_true rfl) (s6_carrierOf _ _ _ _ _ _ (by assumption) _ (by omega)) ?_
    refine V.iload_n dX6_hasFlag_14 rfl ?_
    refine V.icmp_ne (tgt := 22) dX6_hasFlag_15 (by decide) (fun c15 => ?_) (fun c15 => ?_)
    · refine V.iconst (v := nI 0) dX6_hasFlag_22 (by decide) ?_
      exact V.iretZ (by exact dX6_hasFlag_23) rfl (by (try simp only [← Int32.not_le, Classical.not_not] at *); simp only [Nat.reduceMul, Nat.reduceAdd] at *; simp only [hasF, ← Int32.not_le, c6, c15, not_true_eq_false, not_false_eq_true, if_true, if_false, decide_true, decide_false, Bool.and_true, Bool.and_false, Bool.true_and, Bool.false_and, Bool.or_true, Bool.or_false, Bool.true_or, Bool.false_or, Bool.not_true, Bool.not_false, and_true, and_false, true_and, false_and, or_true, or_false, true_or, false_or, bIt, bIf, Bool.false_eq_true, reduceCtorEq]) rfl
    · refine V.iconst (v := nI 1) dX6_hasFlag_18 (by decide) ?_
      refine V.goto (tgt := 23) dX6_hasFlag_19 (by decide) ?_
      exact V.iretZ (by exact dX6_hasFlag_23) rfl (by (try simp only [← Int32.not_le, Classical.not_not] at *); simp only [Nat.reduceMul, Nat.reduceAdd] at *; simp only [hasF, ← Int32.not_le, c6, c15, not_true_eq_false, not_false_eq_true, if_true, if_false, decide_true, decide_false, Bool.and_true, Bool.and_false, Bool.true_and, Bool.false_and, Bool.or_true, Bool.or_false, Bool.true_or, Bool.false_or, Bool.not_true, Bool.not_false, and_true, and_false, true_and, false_and, or_true, or_false, true_or, false_or, bIt, bIf, Bool.false_eq_true, reduceCtorEq]) rfl
set_option maxRecDepth 20000 in
set_option maxHeartbeats 4000000 in
theorem s6_signOf (l : Launch) (d : Nat) (v : Int32) (h : MH) (n : Nat) : Sp l mX6_signOf d [.int v] h n 0 0 (Pv (sgn v) h n) := by
  show V _ _ _ _ [some (.int v)] _ _ _ _ _ _
  refine V.iload_n dX6_signOf_0 rfl ?_
  refine V.if_le (tgt := 8) dX6_signOf_1 (by decide) (fun c1 => ?_) (fun c1 => ?_)
  · refine V.iload_n dX6_signOf_8 rfl ?_
    refine V.if_ge (tgt := 16) dX6_signOf_9 (by decide) (fun c9 => ?_) (fun c9 => ?_)
    · refine V.iconst (v := nI 0) dX6_signOf_16 (by decide) ?_
      exact V.iretP (by exact dX6_signOf_17) rfl (by (try simp only [← Int32.not_le, Classical.not_not] at *); simp only [sgn, ← Int32.not_le, c1, c9, not_true_eq_false, not_false_eq_true, if_true, if_false, decide_true, decide_false, Bool.and_true, Bool.and_false, Bool.true_and, Bool.false_and, Bool.or_true, Bool.or_false, Bool.true_or, Bool.false_or, Bool.not_true, Bool.not_false, and_true, and_false, true_and, false_and, or_true, or_false, true_or, false_or, bIt, bIf, Bool.false_eq_true, reduceCtorEq]) rfl
    · refine V.iconst (v := -1) dX6_signOf_12 (by decide) ?_
      refine V.goto (tgt := 17) dX6_signOf_13 (by decide) ?_
      exact V.iretP (by exact dX6_signOf_17) rfl (by (try simp only [← Int32.not_le, Classical.not_not] at *); simp only [sgn, ← Int32.not_le, c1, c9, not_true_eq_false, not_false_eq_true, if_true, if_false, decide_true, decide_false, Bool.and_true, Bool.and_false, Bool.true_and, Bool.false_and, Bool.or_true, Bool.or_false, Bool.true_or, Bool.false_or, Bool.not_true, Bool.not_false, and_true, and_false, true_and, false_and, or_true, or_false, true_or, false_or, bIt, bIf, Bool.false_eq_true, reduceCtorEq]) rfl
  · refine V.iconst (v := nI 1) dX6_signOf_4 (by decide) ?_
    refine V.goto (tgt := 17) dX6_signOf_5 (by decide) ?_
    exact V.iretP (by exact dX6_signOf_17) rfl (by (try simp only [← Int32.not_le, Classical.not_not] at *); simp only [sgn, ← Int32.not_le, c1, not_true_eq_false, not_false_eq_true, if_true, if_false, decide_true, decide_false, Bool.and_true, Bool.and_false, Bool.true_and, Bool.false_and, Bool.or_true, Bool.or_false, Bool.true_or, Bool.false_or, Bool.not_true, Bool.not_false, and_true, and_false, true_and, false_and, or_true, or_false, true_or, false_or, bIt, bIf, Bool.false_eq_true, reduceCtorEq]) rfl
set_option maxRecDepth 20000 in
set_option maxHeartbeats 4000000 in
theorem s6_heldOf_loop (l : Launch) (d : Nat) (h : MH) (n a : Nat) (K : KK) (ha : h a = some (kc K)) (s : Int32) (m : Nat) (hm : K 90 = nI m) (hm10 : m ≤ 10) : ∀ (r p : Nat), p + r = m → V l mX6_heldOf (d + 1) 4 [some (.ref a), some (.int s), some (.int (nI (cntH K s p))), some (.int (nI p))] [] h n 0 0 (Pv (nI (cntH K s m)) h n) := by
  intro r
  induction r with
  | zero =>
    intro p hp
    refine V.iload_n dX6_heldOf_4 rfl ?_
    refine V.aload_n dX6_heldOf_5 rfl ?_
    refine V.bipush (v := nI 90) dX6_heldOf_6 (by decide) ?_
    refine V.ialdN dX6_heldOf_8 (by assumption) (by omega) (by decide) ?_
    rw [hm]
    refine V.icmp_geN (tgt := 46) dX6_heldOf_9 (by decide) (by omega) (by omega) (fun _ => ?_) (fun q => absurd q (by omega))
    refine V.iload_n dX6_heldOf_46 rfl ?_
    exact V.iretP (by exact dX6_heldOf_47) rfl (by rw [show p = m by omega]) rfl
  | succ r ih =>
    intro p hp
    refine V.iload_n dX6_heldOf_4 rfl ?_
    refine V.aload_n dX6_heldOf_5 rfl ?_
    refine V.bipush (v := nI 90) dX6_heldOf_6 (by decide) ?_
    refine V.ialdN dX6_heldOf_8 (by assumption) (by omega) (by decide) ?_
    rw [hm]
    refine V.icmp_geN (tgt := 46) dX6_heldOf_9 (by decide) (by omega) (by omega) (fun q => absurd q (by omega)) (fun _ => ?_)
    refine V.iload_n dX6_heldOf_12 rfl ?_
    refine V.aload_n dX6_heldOf_13 rfl ?_
    refine V.iload_n dX6_heldOf_14 rfl ?_
    refine V.iconst (v := nI 0) dX6_heldOf_15 (by decide) ?_
    refine V.callSv [_, _, _] dX6_heldOf_16 lk_X6_82 rfl (Nat.le_of_ble_eq_true rfl) (Nat.le_of_ble_eq_true rfl) (s6_get _ _ _ _ _ _ (by assumption) _ _ (by omega) (by omega)) ?_
    refine V.iload_n dX6_heldOf_19 rfl ?_
    refine V.icmp_ne (tgt := 37) dX6_heldOf_20 (by decide) (fun c20 => ?_) (fun c20 => ?_)
    · refine V.iconst (v := nI 0) dX6_heldOf_37 (by decide) ?_
      refine V.iaddN dX6_heldOf_38 ?_
      refine V.ist2 dX6_heldOf_39 (by decide) rfl ?_
      refine V.inN3 dX6_heldOf_40 (by decide) rfl ?_
      refine V.goto (tgt := 4) dX6_heldOf_43 (by decide) ?_
      exact V.ls (by simp only [cntH, List.set_cons_succ, List.set_cons_zero, c20, not_true_eq_false, not_false_eq_true, if_true, if_false, decide_true, decide_false, Bool.and_true, Bool.and_false, Bool.true_and, Bool.false_and, Bool.or_true, Bool.or_false, Bool.true_or, Bool.false_or, Bool.not_true, Bool.not_false, and_true, and_false, true_and, false_and, or_true, or_false, true_or, false_or, bIt, bIf, Bool.false_eq_true, reduceCtorEq, Nat.add_zero] <;> rfl) (ih (p + 1) (by omega))
    · refine V.aload_n dX6_heldOf_23 rfl ?_
      refine V.iload_n dX6_heldOf_24 rfl ?_
      refine V.iconst (v := nI 5) dX6_heldOf_25 (by decide) ?_
      refine V.callSv [_, _, _] dX6_heldOf_26 lk_X6_82 rfl (Nat.le_of_ble_eq_true rfl) (Nat.le_of_ble_eq_true rfl) (s6_get _ _ _ _ _ _ (by assumption) _ _ (by omega) (by omega)) ?_
      refine V.iconst (v := nI 1) dX6_heldOf_29 (by decide) ?_
      refine V.icmp_ne (tgt := 37) dX6_heldOf_30 (by decide) (fun c30 => ?_) (fun c30 => ?_)
      · refine V.iconst (v := nI 0) dX6_heldOf_37 (by decide) ?_
        refine V.iaddN dX6_heldOf_38 ?_
        refine V.ist2 dX6_heldOf_39 (by decide) rfl ?_
        refine V.inN3 dX6_heldOf_40 (by decide) rfl ?_
        refine V.goto (tgt := 4) dX6_heldOf_43 (by decide) ?_
        exact V.ls (by simp only [cntH, List.set_cons_succ, List.set_cons_zero, c20, c30, not_true_eq_false, not_false_eq_true, if_true, if_false, decide_true, decide_false, Bool.and_true, Bool.and_false, Bool.true_and, Bool.false_and, Bool.or_true, Bool.or_false, Bool.true_or, Bool.false_or, Bool.not_true, Bool.not_false, and_true, and_false, true_and, false_and, or_true, or_false, true_or, false_or, bIt, bIf, Bool.false_eq_true, reduceCtorEq, Nat.add_zero] <;> rfl) (ih (p + 1) (by omega))
      · refine V.iconst (v := nI 1) dX6_heldOf_33 (by decide) ?_
        refine V.goto (tgt := 38) dX6_heldOf_34 (by decide) ?_
        refine V.iaddN dX6_heldOf_38 ?_
        refine V.ist2 dX6_heldOf_39 (by decide) rfl ?_
        refine V.inN3 dX6_heldOf_40 (by decide) rfl ?_
        refine V.goto (tgt := 4) dX6_heldOf_43 (by decide) ?_
        exact V.ls (by simp only [cntH, List.set_cons_succ, List.set_cons_zero, c20, c30, not_true_eq_false, not_false_eq_true, if_true, if_false, decide_true, decide_false, Bool.and_true, Bool.and_false, Bool.true_and, Bool.false_and, Bool.or_true, Bool.or_false, Bool.true_or, Bool.false_or, Bool.not_true, Bool.not_false, and_true, and_false, true_and, false_and, or_true, or_false, true_or, false_or, bIt, bIf, Bool.false_eq_true, reduceCtorEq, Nat.add_zero] <;> rfl) (ih (p + 1) (by omega))
set_option maxRecDepth 20000 in
set_option maxHeartbeats 4000000 in
theorem s6_heldOf (l : Launch) (d : Nat) (h : MH) (n a : Nat) (K : KK) (ha : h a = some (kc K)) (s : Int32) (m : Nat) (hm : K 90 = nI m) (hm10 : m ≤ 10) : Sp l mX6_heldOf (d + 1) [.ref a, .int s] h n 0 0 (Pv (nI (cntH K s m)) h n) := by
  show V _ _ _ _ [some (.ref a), some (.int s), none, none] _ _ _ _ _ _
  refine V.iconst (v := nI 0) dX6_heldOf_0 (by decide) ?_
  refine V.ist2 dX6_heldOf_1 (by decide) rfl ?_
  refine V.iconst (v := nI 0) dX6_heldOf_2 (by decide) ?_
  refine V.ist3 dX6_heldOf_3 (by decide) rfl ?_
  exact s6_heldOf_loop l d h n a K ha s m hm hm10 m 0 (by omega)
