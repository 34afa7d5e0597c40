/-- whether it holds of all below a number -/
def aB (f : Nat → Bool) : Nat → Bool
  | 0 => true
  | k + 1 => aB f k && f k
theorem aB_dn {f : Nat → Bool} : ∀ {m k : Nat}, k ≤ m → aB f m = true → aB f k = true := by
  intro m
  induction m with
  | zero => intro k hk h; rw [show k = 0 by omega]; rfl
  | succ m ih =>
    intro k hk h
    by_cases q : k = m + 1
    · rw [q]; exact h
    · rw [aB, Bool.and_eq_true] at h
      exact ih (by omega) h.1
theorem aB_no {f : Nat → Bool} {m k : Nat} (hk : k < m) (h : f k = false) : aB f m = false := by
  cases q : aB f m with
  | false => rfl
  | true =>
    have h1 := aB_dn (show k + 1 ≤ m by omega) q
    rw [aB, h] at h1
    simp at h1
def rtB (a i j k : Nat) : Bool := !decide (gn (nI a) (nI i) (nI j) < gn (nI a) (nI k) (nI j)) && !decide (gn (nI a) (nI i) (nI k) < gn (nI a) (nI i) (nI j))
def isR (a i j : Nat) : Bool := aB (rtB a i j) (a + 1)
def rsJ (a : Nat) (kk : Int32) (i : Nat) : Nat → Nat → Nat → Int32 ⊕ Nat
  | 0, _, fnd => .inr fnd
  | r + 1, j, fnd => if isR a i j = true then (if nI fnd = kk then .inl (nI (10 * i + j)) else rsJ a kk i r (j + 1) (fnd + 1)) else rsJ a kk i r (j + 1) fnd
def rsI (a : Nat) (kk : Int32) : Nat → Nat → Nat → Int32
  | 0, _, fnd => if kk < 0 then nI fnd else -4
  | r + 1, i, fnd => match rsJ a kk i (a + 1) 0 fnd with
    | .inl v => v
    | .inr g => rsI a kk r (i + 1) g
def restsV (x k : Int32) : Int32 := if (wi x (nI 1) (nI 6) && decide (-1 ≤ k)) = true then rsI x.toNatClampNeg k (x.toNatClampNeg + 1) 0 0 else -1
theorem k_neg {k : Int32} (h : -1 ≤ k) : (k < 0) ↔ k = -1 := by
  have h1 : (-1 : Int32).toInt = -1 := by decide
  have h0 : (0 : Int32).toInt = 0 := by decide
  rw [Int32.le_iff_toInt_le, h1] at h
  rw [Int32.lt_iff_toInt_lt, h0]
  constructor
  · intro y
    exact Int32.toInt_inj.mp (by rw [h1]; omega)
  · intro y; rw [y, h1]; omega
set_option maxRecDepth 20000 in
set_option maxHeartbeats 4000000 in
theorem s5_isRest_loop (l : Launch) (d : Nat) (h : MH) (n a i j : Nat) (ha : a ≤ 6) : ∀ (r k : Nat), aB (rtB a i j) k = true → k + r = a + 1 → V l mX5_isRest (d + 1) 10 [some (.int (nI a)), some (.int (nI i)), some (.int (nI j)), some (.int (gn (nI a) (nI i) (nI j))), some (.int (nI k))] [] h n 0 0 (Pv (bI (isR a i j)) h n) := by
  intro r
  induction r with
  | zero =>
    intro k hh hk
    refine V.iload dX5_isRest_10 rfl ?_
    refine V.iload_n dX5_isRest_12 rfl ?_
    refine V.icmp_gtN (tgt := 46) dX5_isRest_13 (by decide) (by omega) (by omega) (fun _ => ?_) (fun q => absurd q (by omega))
    refine V.iconst (v := nI 1) dX5_isRest_46 (by decide) ?_
    exact V.iretZ (by exact dX5_isRest_47) rfl (by rw [isR, show a + 1 = k by omega, hh]; rfl) rfl
  | succ r ih =>
    intro k hh hk
    refine V.iload dX5_isRest_10 rfl ?_
    refine V.iload_n dX5_isRest_12 rfl ?_
    refine V.icmp_gtN (tgt := 46) dX5_isRest_13 (by decide) (by omega) (by omega) (fun q => absurd q (by omega)) (fun _ => ?_)
    refine V.iload_n dX5_isRest_16 rfl ?_
    refine V.iload dX5_isRest_17 rfl ?_
    refine V.iload_n dX5_isRest_19 rfl ?_
    refine V.callSv [_, _, _] dX5_isRest_20 lk_X5_219 rfl (Nat.le_of_ble_eq_true rfl) (Nat.le_of_ble_eq_true rfl) (s5_gained _ _ _ _ _ _ _) ?_
    refine V.iload_n dX5_isRest_23 rfl ?_
    refine V.icmp_gt (tgt := 38) dX5_isRest_24 (by decide) (fun c24 => ?_) (fun c24 => ?_)
    · refine V.iconst (v := nI 0) dX5_isRest_38 (by decide) ?_
      exact V.iretZ (by exact dX5_isRest_39) rfl (by rw [isR, aB_no (show k < a + 1 by omega) (by (try simp only [← Int32.not_le, Classical.not_not, decide_eq_true_eq, decide_eq_false_iff_not] at c24); simp only [rtB, Int32.not_lt, Int32.not_le, c24, ← Int32.not_le, not_true_eq_false, not_false_eq_true, if_true, if_false, decide_true, decide_false, Bool.and_true, Bool.and_false, Bool.true_and, Bool.false_and, Bool.or_true, Bool.or_false, Bool.true_or, Bool.false_or, Bool.not_true, Bool.not_false, and_true, and_false, true_and, false_and, or_true, or_false, true_or, false_or, bIt, bIf, Bool.false_eq_true, reduceCtorEq])]; rfl) rfl
    · refine V.iload_n dX5_isRest_27 rfl ?_
      refine V.iload_n dX5_isRest_28 rfl ?_
      refine V.iload dX5_isRest_29 rfl ?_
      refine V.callSv [_, _, _] dX5_isRest_31 lk_X5_219 rfl (Nat.le_of_ble_eq_true rfl) (Nat.le_of_ble_eq_true rfl) (s5_gained _ _ _ _ _ _ _) ?_
      refine V.iload_n dX5_isRest_34 rfl ?_
      refine V.icmp_ge (tgt := 40) dX5_isRest_35 (by decide) (fun c35 => ?_) (fun c35 => ?_)
      · refine V.inN4 dX5_isRest_40 (by decide) rfl ?_
        refine V.goto (tgt := 10) dX5_isRest_43 (by decide) ?_
        exact ih (k + 1) (by rw [aB, hh]; (try simp only [← Int32.not_le, Classical.not_not, decide_eq_true_eq, decide_eq_false_iff_not] at c24 c35); simp only [rtB, ← Int32.not_le, c24, c35, not_true_eq_false, not_false_eq_true, if_true, if_false, decide_true, decide_false, Bool.and_true, Bool.and_false, Bool.true_and, Bool.false_and, Bool.or_true, Bool.or_false, Bool.true_or, Bool.false_or, Bool.not_true, Bool.not_false, and_true, and_false, true_and, false_and, or_true, or_false, true_or, false_or, bIt, bIf, Bool.false_eq_true, reduceCtorEq]) (by omega)
      · refine V.iconst (v := nI 0) dX5_isRest_38 (by decide) ?_
        exact V.iretZ (by exact dX5_isRest_39) rfl (by rw [isR, aB_no (show k < a + 1 by omega) (by (try simp only [← Int32.not_le, Classical.not_not, decide_eq_true_eq, decide_eq_false_iff_not] at c24 c35); simp only [rtB, Int32.not_lt, Int32.not_le, c24, c35, ← Int32.not_le, not_true_eq_false, not_false_eq_true, if_true, if_false, decide_true, decide_false, Bool.and_true, Bool.and_false, Bool.true_and, Bool.false_and, Bool.or_true, Bool.or_false, Bool.true_or, Bool.false_or, Bool.not_true, Bool.not_false, and_true, and_false, true_and, false_and, or_true, or_false, true_or, false_or, bIt, bIf, Bool.false_eq_true, reduceCtorEq])]; rfl) rfl
set_option maxRecDepth 20000 in
set_option maxHeartbeats 4000000 in
theorem s6_isRest_loop (l : Launch) (d : Nat) (h : MH) (n a i j : Nat) (ha : a ≤ 6) : ∀ (r k : Nat), aB (rtB a i j) k = true → k + r = a + 1 → V l mX6_isRest (d + 2) 2 [some (.int (nI a)), some (.int (nI i)), some (.int (nI j)), some (.int (nI k))] [] h n 0 0 (Pv (bI (isR a i j)) h n) := by
  intro r
  induction r with
  | zero =>
    intro k hh hk
    refine V.iload_n dX6_isRest_2 rfl ?_
    refine V.iload_n dX6_isRest_3 rfl ?_
    refine V.icmp_gtN (tgt := 45) dX6_isRest_4 (by decide) (by omega) (by omega) (fun _ => ?_) (fun q => absurd q (by omega))
    refine V.iconst (v := nI 1) dX6_isRest_45 (by decide) ?_
    exact V.iretZ (by exact dX6_isRest_46) rfl (by rw [isR, show a + 1 = k by omega, hh]; rfl) rfl
  | succ r ih =>
    intro k hh hk
    refine V.iload_n dX6_isRest_2 rfl ?_
    refine V.iload_n dX6_isRest_3 rfl ?_
    refine V.icmp_gtN (tgt := 45) dX6_isRest_4 (by decide) (by omega) (by omega) (fun q => absurd q (by omega)) (fun _ => ?_)
    refine V.iload_n dX6_isRest_7 rfl ?_
    refine V.iload_n dX6_isRest_8 rfl ?_
    refine V.iload_n dX6_isRest_9 rfl ?_
    refine V.callSv [_, _, _] dX6_isRest_10 lk_X6_282 rfl (Nat.le_of_ble_eq_true rfl) (Nat.le_of_ble_eq_true rfl) (s6_gainOf _ _ _ _ _ _ _) ?_
    refine V.iload_n dX6_isRest_13 rfl ?_
    refine V.iload_n dX6_isRest_14 rfl ?_
    refine V.iload_n dX6_isRest_15 rfl ?_
    refine V.callSv [_, _, _] dX6_isRest_16 lk_X6_282 rfl (Nat.le_of_ble_eq_true rfl) (Nat.le_of_ble_eq_true rfl) (s6_gainOf _ _ _ _ _ _ _) ?_
    refine V.icmp_gt (tgt := 37) dX6_isRest_19 (by decide) (fun c19 => ?_) (fun c19 => ?_)
    · refine V.iconst (v := nI 0) dX6_isRest_37 (by decide) ?_
      exact V.iretZ (by exact dX6_isRest_38) rfl (by rw [isR, aB_no (show k < a + 1 by omega) (by (try simp only [← Int32.not_le, Classical.not_not, decide_eq_true_eq, decide_eq_false_iff_not] at c19); simp only [rtB, Int32.not_lt, Int32.not_le, c19, ← Int32.not_le, not_true_eq_false, not_false_eq_true, if_true, if_false, decide_true, decide_false, Bool.and_true, Bool.and_false, Bool.true_and, Bool.false_and, Bool.or_true, Bool.or_false, Bool.true_or, Bool.false_or, Bool.not_true, Bool.not_false, and_true, and_false, true_and, false_and, or_true, or_false, true_or, false_or, bIt, bIf, Bool.false_eq_true, reduceCtorEq])]; rfl) rfl
    · refine V.iload_n dX6_isRest_22 rfl ?_
      refine V.iload_n dX6_isRest_23 rfl ?_
      refine V.iload_n dX6_isRest_24 rfl ?_
      refine V.callSv [_, _, _] dX6_isRest_25 lk_X6_282 rfl (Nat.le_of_ble_eq_true rfl) (Nat.le_of_ble_eq_true rfl) (s6_gainOf _ _ _ _ _ _ _) ?_
      refine V.iload_n dX6_isRest_28 rfl ?_
      refine V.iload_n dX6_isRest_29 rfl ?_
      refine V.iload_n dX6_isRest_30 rfl ?_
      refine V.callSv [_, _, _] dX6_isRest_31 lk_X6_282 rfl (Nat.le_of_ble_eq_true rfl) (Nat.le_of_ble_eq_true rfl) (s6_gainOf _ _ _ _ _ _ _) ?_
      refine V.icmp_ge (tgt := 39) dX6_isRest_34 (by decide) (fun c34 => ?_) (fun c34 => ?_)
      · refine V.inN3 dX6_isRest_39 (by decide) rfl ?_
        refine V.goto (tgt := 2) dX6_isRest_42 (by decide) ?_
        exact ih (k + 1) (by rw [aB, hh]; (try simp only [← Int32.not_le, Classical.not_not, decide_eq_true_eq, decide_eq_false_iff_not] at c19 c34); simp only [rtB, ← Int32.not_le, c19, c34, not_true_eq_false, not_false_eq_true, if_true, if_false, decide_true, decide_false, Bool.and_true, Bool.and_false, Bool.true_and, Bool.false_and, Bool.or_true, Bool.or_false, Bool.true_or, Bool.false_or, Bool.not_true, Bool.not_false, and_true, and_false, true_and, false_and, or_true, or_false, true_or, false_or, bIt, bIf, Bool.false_eq_true, reduceCtorEq]) (by omega)
      · refine V.iconst (v := nI 0) dX6_isRest_37 (by decide) ?_
        exact V.iretZ (by exact dX6_isRest_38) rfl (by rw [isR, aB_no (show k < a + 1 by omega) (by (try simp only [← Int32.not_le, Classical.not_not, decide_eq_true_eq, decide_eq_false_iff_not] at c19 c34); simp only [rtB, Int32.not_lt, Int32.not_le, c19, c34, ← Int32.not_le, not_true_eq_false, not_false_eq_true, if_true, if_false, decide_true, decide_false, Bool.and_true, Bool.and_false, Bool.true_and, Bool.false_and, Bool.or_true, Bool.or_false, Bool.true_or, Bool.false_or, Bool.not_true, Bool.not_false, and_true, and_false, true_and, false_and, or_true, or_false, true_or, false_or, bIt, bIf, Bool.false_eq_true, reduceCtorEq])]; rfl) rfl
set_option maxRecDepth 20000 in
set_option maxHeartbeats 4000000 in
theorem s5_isRest (l : Launch) (d : Nat) (h : MH) (n a i j : Nat) (ha : a ≤ 6) : Sp l mX5_isRest (d + 1) [.int (nI a), .int (nI i), .int (nI j)] h n 0 0 (Pv (bI (isR a i j)) h n) := by
  show V _ _ _ _ [some (.int (nI a)), some (.int (nI i)), some (.int (nI j)), none, none] _ _ _ _ _ _
  refine V.iload_n dX5_isRest_0 rfl ?_
  refine V.iload_n dX5_isRest_1 rfl ?_
  refine V.iload_n dX5_isRest_2 rfl ?_
  refine V.callSv [_, _, _] dX5_isRest_3 lk_X5_219 rfl (Nat.le_of_ble_eq_true rfl) (Nat.le_of_ble_eq_true rfl) (s5_gained _ _ _ _ _ _ _) ?_
  refine V.ist3 dX5_isRest_6 (by decide) rfl ?_
  refine V.iconst (v := nI 0) dX5_isRest_7 (by decide) ?_
  refine V.ist4 dX5_isRest_8 (by decide) rfl ?_
  exact s5_isRest_loop l d h n a i j ha (a + 1) 0 rfl (by omega)
set_option maxRecDepth 20000 in
set_option maxHeartbeats 4000000 in
theorem s6_isRest (l : Launch) (d : Nat) (h : MH) (n a i j : Nat) (ha : a ≤ 6) : Sp l mX6_isRest (d + 2) [.int (nI a), .int (nI i), .int (nI j)] h n 0 0 (Pv (bI (isR a i j)) h n) := by
  show V _ _ _ _ [some (.int (nI a)), some (.int (nI i)), some (.int (nI j)), none] _ _ _ _ _ _
  refine V.iconst (v := nI 0) dX6_isRest_0 (by decide) ?_
  refine V.ist3 dX6_isRest_1 (by decide) rfl ?_
  exact s6_isRest_loop l d h n a i j ha (a + 1) 0 rfl (by omega)
set_option maxRecDepth 20000 in
set_option maxHeartbeats 4000000 in
theorem x_rests_j (l : Launch) (d : Nat) (h : MH) (n a i : Nat) (ha : a ≤ 6) (hi : i ≤ 6) (kk : Int32) {Q : Option Value → MH → Nat → Prop} : ∀ (r j fnd : Nat), j + r = a + 1 → fnd + r ≤ 1000 → (∀ v, rsJ a kk i r j fnd = .inl v → Q (some (.int v)) h n) → (∀ g, rsJ a kk i r j fnd = .inr g → g ≤ fnd + r → V l mX5_rests (d + 2) 71 [some (.ref 0), some (.int (nI a)), some (.int kk), some (.int (nI g)), some (.int (nI i)), none] [] h n 0 0 Q) → V l mX5_rests (d + 2) 31 [some (.ref 0), some (.int (nI a)), some (.int kk), some (.int (nI fnd)), some (.int (nI i)), some (.int (nI j))] [] h n 0 0 Q := by
  intro r
  induction r with
  | zero =>
    intro j fnd hj hf k1 k2
    refine V.iload dX5_rests_31 rfl ?_
    refine V.iload_n dX5_rests_33 rfl ?_
    refine V.icmp_gtN (tgt := 71) dX5_rests_34 (by decide) (by omega) (by omega) (fun _ => ?_) (fun q => absurd q (by omega))
    exact V.drop 5 (k2 fnd rfl (by omega))
  | succ r ih =>
    intro j fnd hj hf k1 k2
    refine V.iload dX5_rests_31 rfl ?_
    refine V.iload_n dX5_rests_33 rfl ?_
    refine V.icmp_gtN (tgt := 71) dX5_rests_34 (by decide) (by omega) (by omega) (fun q => absurd q (by omega)) (fun _ => ?_)
    refine V.iload_n dX5_rests_37 rfl ?_
    refine V.iload dX5_rests_38 rfl ?_
    refine V.iload dX5_rests_40 rfl ?_
    refine V.callSv [_, _, _] dX5_rests_42 lk_X5_223 rfl (Nat.le_of_ble_eq_true rfl) (Nat.le_of_ble_eq_true rfl) (s5_isRest _ _ _ _ _ _ _ ha) ?_
    refine V.if_eqB (tgt := 65) dX5_rests_45 (by decide) (fun c45 => ?_) (fun c45 => ?_)
    · refine V.inN5 dX5_rests_65 (by decide) rfl ?_
      refine V.goto (tgt := 31) dX5_rests_68 (by decide) ?_
      refine ih (j + 1) fnd (by omega) (by omega) (fun v y => k1 v (by rw [rsJ, if_neg (by rw [c45]; decide)]; exact y)) (fun g y hg => k2 g (by rw [rsJ, if_neg (by rw [c45]; decide)]; exact y) (by omega))
    · refine V.iload_n dX5_rests_48 rfl ?_
      refine V.iload_n dX5_rests_49 rfl ?_
      refine V.icmp_ne (tgt := 62) dX5_rests_50 (by decide) (fun c50 => ?_) (fun c50 => ?_)
      · refine V.inN3 dX5_rests_62 (by decide) rfl ?_
        refine V.inN5 dX5_rests_65 (by decide) rfl ?_
        refine V.goto (tgt := 31) dX5_rests_68 (by decide) ?_
        refine ih (j + 1) (fnd + 1) (by omega) (by omega) (fun v y => k1 v (by rw [rsJ, if_pos c45, if_neg c50]; exact y)) (fun g y hg => k2 g (by rw [rsJ, if_pos c45, if_neg c50]; exact y) (by omega))
      · refine V.bipush (v := nI 10) dX5_rests_53 (by decide) ?_
        refine V.iload dX5_rests_55 rfl ?_
        refine V.imulN dX5_rests_57 ?_
        refine V.iload dX5_rests_58 rfl ?_
        refine V.iaddN dX5_rests_60 ?_
        exact V.iret (by exact dX5_rests_61) rfl rfl (k1 _ (by rw [rsJ, if_pos c45, if_pos c50]))
set_option maxRecDepth 20000 in
set_option maxHeartbeats 4000000 in
theorem x_rests_i (l : Launch) (d : Nat) (h : MH) (n a : Nat) (ha : a ≤ 6) (kk : Int32) {Q : Option Value → MH → Nat → Prop} : ∀ (r i fnd : Nat), i + r = a + 1 → fnd ≤ 100 * i → (∀ v, rsI a kk r i fnd = v → Q (some (.int v)) h n) → (∀ f : Nat, (if kk < 0 then nI f else -4) = rsI a kk r i fnd → V l mX5_rests (d + 2) 77 [some (.ref 0), some (.int (nI a)), some (.int kk), some (.int (nI f)), none, none] [] h n 0 0 Q) → V l mX5_rests (d + 2) 22 [some (.ref 0), some (.int (nI a)), some (.int kk), some (.int (nI fnd)), some (.int (nI i)), none] [] h n 0 0 Q := by
  intro r
  induction r with
  | zero =>
    intro i fnd hi hf kV kE
    refine V.iload dX5_rests_22 rfl ?_
    refine V.iload_n dX5_rests_24 rfl ?_
    refine V.icmp_gtN (tgt := 77) dX5_rests_25 (by decide) (by omega) (by omega) (fun _ => ?_) (fun q => absurd q (by omega))
    exact V.drop 4 (kE fnd rfl)
  | succ r ih =>
    intro i fnd hi hf kV kE
    refine V.iload dX5_rests_22 rfl ?_
    refine V.iload_n dX5_rests_24 rfl ?_
    refine V.icmp_gtN (tgt := 77) dX5_rests_25 (by decide) (by omega) (by omega) (fun q => absurd q (by omega)) (fun _ => ?_)
    refine V.iconst (v := nI 0) dX5_rests_28 (by decide) ?_
    refine V.ist5 dX5_rests_29 (by decide) rfl ?_
    refine x_rests_j l d h n a i ha (by omega) kk (a + 1) 0 fnd (by omega) (by omega) (fun v y => ?_) (fun g y hg => ?_)
    · exact kV v (by rw [rsI, y])
    · refine V.inN4 dX5_rests_71 (by decide) rfl ?_
      refine V.goto (tgt := 22) dX5_rests_74 (by decide) ?_
      exact ih (i + 1) g (by omega) (by omega) (fun v q => kV v (by rw [rsI, y]; exact q)) (fun f q => kE f (by rw [rsI, y]; exact q))
set_option maxRecDepth 20000 in
set_option maxHeartbeats 4000000 in
theorem m_rests_j (l : Launch) (d : Nat) (h : MH) (n a i : Nat) (ha : a ≤ 6) (hi : i ≤ 6) (kk : Int32) {Q : Option Value → MH → Nat → Prop} : ∀ (r j fnd : Nat), j + r = a + 1 → fnd + r ≤ 1000 → (∀ v, rsJ a kk i r j fnd = .inl v → Q (some (.int v)) h n) → (∀ g, rsJ a kk i r j fnd = .inr g → g ≤ fnd + r → V l mX6_rests (d + 3) 76 [some (.ref 78), some (.int (nI a)), some (.int kk), some (.int (nI g)), some (.int (nI i)), none] [] h n 0 0 Q) → V l mX6_rests (d + 3) 33 [some (.ref 78), some (.int (nI a)), some (.int kk), some (.int (nI fnd)), some (.int (nI i)), some (.int (nI j))] [] h n 0 0 Q := by
  intro r
  induction r with
  | zero =>
    intro j fnd hj hf k1 k2
    refine V.iload dX6_rests_33 rfl ?_
    refine V.iload_n dX6_rests_35 rfl ?_
    refine V.icmp_gtN (tgt := 76) dX6_rests_36 (by decide) (by omega) (by omega) (fun _ => ?_) (fun q => absurd q (by omega))
    exact V.drop 5 (k2 fnd rfl (by omega))
  | succ r ih =>
    intro j fnd hj hf k1 k2
    refine V.iload dX6_rests_33 rfl ?_
    refine V.iload_n dX6_rests_35 rfl ?_
    refine V.icmp_gtN (tgt := 76) dX6_rests_36 (by decide) (by omega) (by omega) (fun q => absurd q (by omega)) (fun _ => ?_)
    refine V.iload_n dX6_rests_39 rfl ?_
    refine V.iload dX6_rests_40 rfl ?_
    refine V.iload dX6_rests_42 rfl ?_
    refine V.callSv [_, _, _] dX6_rests_44 lk_X6_286 rfl (Nat.le_of_ble_eq_true rfl) (Nat.le_of_ble_eq_true rfl) (s6_isRest _ _ _ _ _ _ _ ha) ?_
    refine V.if_neB (tgt := 53) dX6_rests_47 (by decide) (fun c47 => ?_) (fun c47 => ?_)
    · refine V.iload_n dX6_rests_53 rfl ?_
      refine V.iload_n dX6_rests_54 rfl ?_
      refine V.icmp_ne (tgt := 67) dX6_rests_55 (by decide) (fun c55 => ?_) (fun c55 => ?_)
      · refine V.inN3 dX6_rests_67 (by decide) rfl ?_
        refine V.inN5 dX6_rests_70 (by decide) rfl ?_
        refine V.goto (tgt := 33) dX6_rests_73 (by decide) ?_
        refine ih (j + 1) (fnd + 1) (by omega) (by omega) (fun v y => k1 v (by rw [rsJ, if_pos c47, if_neg c55]; exact y)) (fun g y hg => k2 g (by rw [rsJ, if_pos c47, if_neg c55]; exact y) (by omega))
      · refine V.bipush (v := nI 10) dX6_rests_58 (by decide) ?_
        refine V.iload dX6_rests_60 rfl ?_
        refine V.imulN dX6_rests_62 ?_
        refine V.iload dX6_rests_63 rfl ?_
        refine V.iaddN dX6_rests_65 ?_
        exact V.iret (by exact dX6_rests_66) rfl rfl (k1 _ (by rw [rsJ, if_pos c47, if_pos c55]))
    · refine V.goto (tgt := 70) dX6_rests_50 (by decide) ?_
      refine V.inN5 dX6_rests_70 (by decide) rfl ?_
      refine V.goto (tgt := 33) dX6_rests_73 (by decide) ?_
      refine ih (j + 1) fnd (by omega) (by omega) (fun v y => k1 v (by rw [rsJ, if_neg (by rw [c47]; decide)]; exact y)) (fun g y hg => k2 g (by rw [rsJ, if_neg (by rw [c47]; decide)]; exact y) (by omega))
set_option maxRecDepth 20000 in
set_option maxHeartbeats 4000000 in
theorem m_rests_i (l : Launch) (d : Nat) (h : MH) (n a : Nat) (ha : a ≤ 6) (kk : Int32) {Q : Option Value → MH → Nat → Prop} : ∀ (r i fnd : Nat), i + r = a + 1 → fnd ≤ 100 * i → (∀ v, rsI a kk r i fnd = v → Q (some (.int v)) h n) → (∀ f : Nat, (if kk < 0 then nI f else -4) = rsI a kk r i fnd → V l mX6_rests (d + 3) 82 [some (.ref 78), some (.int (nI a)), some (.int kk), some (.int (nI f)), none, none] [] h n 0 0 Q) → V l mX6_rests (d + 3) 24 [some (.ref 78), some (.int (nI a)), some (.int kk), some (.int (nI fnd)), some (.int (nI i)), none] [] h n 0 0 Q := by
  intro r
  induction r with
  | zero =>
    intro i fnd hi hf kV kE
    refine V.iload dX6_rests_24 rfl ?_
    refine V.iload_n dX6_rests_26 rfl ?_
    refine V.icmp_gtN (tgt := 82) dX6_rests_27 (by decide) (by omega) (by omega) (fun _ => ?_) (fun q => absurd q (by omega))
    exact V.drop 4 (kE fnd rfl)
  | succ r ih =>
    intro i fnd hi hf kV kE
    refine V.iload dX6_rests_24 rfl ?_
    refine V.iload_n dX6_rests_26 rfl ?_
    refine V.icmp_gtN (tgt := 82) dX6_rests_27 (by decide) (by omega) (by omega) (fun q => absurd q (by omega)) (fun _ => ?_)
    refine V.iconst (v := nI 0) dX6_rests_30 (by decide) ?_
    refine V.ist5 dX6_rests_31 (by decide) rfl ?_
    refine m_rests_j l d h n a i ha (by omega) kk (a + 1) 0 fnd (by omega) (by omega) (fun v y => ?_) (fun g y hg => ?_)
    · exact kV v (by rw [rsI, y])
    · refine V.inN4 dX6_rests_76 (by decide) rfl ?_
      refine V.goto (tgt := 24) dX6_rests_79 (by decide) ?_
      exact ih (i + 1) g (by omega) (by omega) (fun v q => kV v (by rw [rsI, y]; exact q)) (fun f q => kE f (by rw [rsI, y]; exact q))
set_option maxRecDepth 20000 in
set_option maxHeartbeats 4000000 in
theorem x_rests (l : Launch) (d : Nat) (h : MH) (n : Nat) (K : KK) (b : Bool) (KI : KK) (S : SS) (m : Nat) (hc : ClsAt h K b KI S) (hT : TI K m) (x kk : Int32) : Sp l mX5_rests (d + 2) [.ref 0, .int x, .int kk] h n 0 0 (Pv (restsV x kk) h n) := by
  have hD := hT.1
  have hm := hD.1.1
  have hm10 := hD.1.2.1
  obtain ⟨ht0, ⟨sq, hsq, esq⟩, ⟨cl, P, pn, hw, hPR⟩, ⟨Km, clm, Pm, pm, hwm⟩, ⟨KJ, clJ, PJ, pJ, hwJ, hJ⟩, ⟨rb, rx, ry, hrd⟩, hsc, ⟨co, hco⟩, ⟨se, hse⟩, hsh⟩ := id hc
  obtain ⟨hw0, ⟨gr, hgr, egr⟩, ⟨ru, hru, eru⟩, ⟨pq, hpf, epf⟩, hpl, ⟨fl, hfl, efl⟩, ⟨ca, hca, eca⟩, ⟨wa, hwa⟩, hpp, hhd⟩ := id hw
  show V _ _ _ _ [some (.ref 0), some (.int x), some (.int kk), none, none, none] _ _ _ _ _ _
  refine V.iload_n dX5_rests_0 rfl ?_
  refine V.iconst (v := nI 1) dX5_rests_1 (by decide) ?_
  refine V.bipush (v := nI 6) dX5_rests_2 (by decide) ?_
  refine V.callSv [_, _, _] dX5_rests_4 lk_X5_71 rfl (Nat.le_of_ble_eq_true rfl) (Nat.le_of_ble_eq_true rfl) (s5_within _ _ _ _ _ _ _) ?_
  refine V.if_eqB (tgt := 15) dX5_rests_7 (by decide) (fun c7 => ?_) (fun c7 => ?_)
  · refine V.iconst (v := -1) dX5_rests_15 (by decide) ?_
    exact V.iretP (by exact dX5_rests_16) rfl (by (try simp only [← Int32.not_le, Classical.not_not, decide_eq_true_eq, decide_eq_false_iff_not] at c7); simp only [restsV, ← Int32.not_le, c7, not_true_eq_false, not_false_eq_true, if_true, if_false, decide_true, decide_false, Bool.and_true, Bool.and_false, Bool.true_and, Bool.false_and, Bool.or_true, Bool.or_false, Bool.true_or, Bool.false_or, Bool.not_true, Bool.not_false, and_true, and_false, true_and, false_and, or_true, or_false, true_or, false_or, bIt, bIf, Bool.false_eq_true, reduceCtorEq]) rfl
  · refine V.iload_n dX5_rests_10 rfl ?_
    refine V.iconst (v := -1) dX5_rests_11 (by decide) ?_
    refine V.icmp_ge (tgt := 17) dX5_rests_12 (by decide) (fun c12 => ?_) (fun c12 => ?_)
    · obtain ⟨a, ha1, ha, rfl⟩ := wi1_ex (by decide) c7
      have hv : restsV (nI a) kk = rsI a kk (a + 1) 0 0 := by rw [restsV, c7, decide_eq_true c12, clampI (show a < 2147483648 by omega)]; rfl
      rw [hv]
      refine V.iconst (v := nI 0) dX5_rests_17 (by decide) ?_
      refine V.ist3 dX5_rests_18 (by decide) rfl ?_
      refine V.iconst (v := nI 0) dX5_rests_19 (by decide) ?_
      refine V.ist4 dX5_rests_20 (by decide) rfl ?_
      refine x_rests_i l d h n a ha kk (a + 1) 0 0 (by omega) (by omega) (fun v y => ⟨by rw [y], rfl, rfl⟩) (fun f y => ?_)
      refine V.iload_n dX5_rests_77 rfl ?_
      refine V.iconst (v := -1) dX5_rests_78 (by decide) ?_
      refine V.icmp_ne (tgt := 86) dX5_rests_79 (by decide) (fun c79 => ?_) (fun c79 => ?_)
      · refine V.bipush (v := -4) dX5_rests_86 (by decide) ?_
        exact V.iretP (by exact dX5_rests_88) rfl (by rw [← y, if_neg (fun q => c79 ((k_neg c12).mp q))]) rfl
      · refine V.iload_n dX5_rests_82 rfl ?_
        refine V.goto (tgt := 88) dX5_rests_83 (by decide) ?_
        exact V.iretP (by exact dX5_rests_88) rfl (by rw [← y, if_pos ((k_neg c12).mpr c79)]) rfl
    · refine V.iconst (v := -1) dX5_rests_15 (by decide) ?_
      exact V.iretP (by exact dX5_rests_16) rfl (by (try simp only [← Int32.not_le, Classical.not_not, decide_eq_true_eq, decide_eq_false_iff_not] at c7 c12); simp only [restsV, ← Int32.not_le, c7, c12, not_true_eq_false, not_false_eq_true, if_true, if_false, decide_true, decide_false, Bool.and_true, Bool.and_false, Bool.true_and, Bool.false_and, Bool.or_true, Bool.or_false, Bool.true_or, Bool.false_or, Bool.not_true, Bool.not_false, and_true, and_false, true_and, false_and, or_true, or_false, true_or, false_or, bIt, bIf, Bool.false_eq_true, reduceCtorEq]) rfl
set_option maxRecDepth 20000 in
set_option maxHeartbeats 4000000 in
theorem m_rests (l : Launch) (d : Nat) (h : MH) (n : Nat) (K : KK) (b : Bool) (KI : KK) (S : SS) (m : Nat) (hc : ModAt h K b KI S) (hT : TI K m) (x kk : Int32) : Sp l mX6_rests (d + 3) [.ref 78, .int x, .int kk] h n 0 0 (Pv (restsV x kk) h n) := by
  have hD := hT.1
  have hm := hD.1.1
  have hm10 := hD.1.2.1
  obtain ⟨⟨th, po, ba, en, tt, hm0⟩, ha, hb, ⟨Km, hmi⟩, ⟨Kr, hre⟩, h83, h84, h85, h86, h87, h88, ⟨X89, h89⟩, ⟨X90, h90⟩, ⟨X91, h91⟩, ⟨X92, h92⟩⟩ := id hc
  show V _ _ _ _ [some (.ref 78), some (.int x), some (.int kk), none, none, none] _ _ _ _ _ _
  refine V.iload_n dX6_rests_0 rfl ?_
  refine V.i2l dX6_rests_1 ?_
  refine V.lconst (v := 1) dX6_rests_2 (by decide) ?_
  refine V.ldc2 dX6_rests_3 cn_X6_206 ?_
  refine V.callSv [_, _, _] dX6_rests_6 lk_X6_62 rfl (Nat.le_of_ble_eq_true rfl) (Nat.le_of_ble_eq_true rfl) (s6_isInC _ _ _ (nI 1) (nI 6) (by decide) (by decide) _ _) ?_
  refine V.if_eqB (tgt := 17) dX6_rests_9 (by decide) (fun c9 => ?_) (fun c9 => ?_)
  · refine V.iconst (v := -1) dX6_rests_17 (by decide) ?_
    exact V.iretP (by exact dX6_rests_18) rfl (by (try simp only [← Int32.not_le, Classical.not_not, decide_eq_true_eq, decide_eq_false_iff_not] at c9); simp only [restsV, ← Int32.not_le, c9, not_true_eq_false, not_false_eq_true, if_true, if_false, decide_true, decide_false, Bool.and_true, Bool.and_false, Bool.true_and, Bool.false_and, Bool.or_true, Bool.or_false, Bool.true_or, Bool.false_or, Bool.not_true, Bool.not_false, and_true, and_false, true_and, false_and, or_true, or_false, true_or, false_or, bIt, bIf, Bool.false_eq_true, reduceCtorEq]) rfl
  · refine V.iload_n dX6_rests_12 rfl ?_
    refine V.iconst (v := -1) dX6_rests_13 (by decide) ?_
    refine V.icmp_ge (tgt := 19) dX6_rests_14 (by decide) (fun c14 => ?_) (fun c14 => ?_)
    · obtain ⟨a, ha1, ha6, rfl⟩ := wi1_ex (by decide) c9
      have hv : restsV (nI a) kk = rsI a kk (a + 1) 0 0 := by rw [restsV, c9, decide_eq_true c14, clampI (show a < 2147483648 by omega)]; rfl
      rw [hv]
      refine V.iconst (v := nI 0) dX6_rests_19 (by decide) ?_
      refine V.ist3 dX6_rests_20 (by decide) rfl ?_
      refine V.iconst (v := nI 0) dX6_rests_21 (by decide) ?_
      refine V.ist4 dX6_rests_22 (by decide) rfl ?_
      refine m_rests_i l d h n a ha6 kk (a + 1) 0 0 (by omega) (by omega) (fun v y => ⟨by rw [y], rfl, rfl⟩) (fun f y => ?_)
      refine V.iload_n dX6_rests_82 rfl ?_
      refine V.if_ge (tgt := 90) dX6_rests_83 (by decide) (fun c79 => ?_) (fun c79 => ?_)
      · refine V.bipush (v := -4) dX6_rests_90 (by decide) ?_
        exact V.iretP (by exact dX6_rests_92) rfl (by rw [← y, if_neg (Int32.not_lt.mpr c79)]) rfl
      · refine V.iload_n dX6_rests_86 rfl ?_
        refine V.goto (tgt := 92) dX6_rests_87 (by decide) ?_
        exact V.iretP (by exact dX6_rests_92) rfl (by rw [← y, if_pos (Int32.not_le.mp c79)]) rfl
    · refine V.iconst (v := -1) dX6_rests_17 (by decide) ?_
      exact V.iretP (by exact dX6_rests_18) rfl (by (try simp only [← Int32.not_le, Classical.not_not, decide_eq_true_eq, decide_eq_false_iff_not] at c9 c14); simp only [restsV, ← Int32.not_le, c9, c14, not_true_eq_false, not_false_eq_true, if_true, if_false, decide_true, decide_false, Bool.and_true, Bool.and_false, Bool.true_and, Bool.false_and, Bool.or_true, Bool.or_false, Bool.true_or, Bool.false_or, Bool.not_true, Bool.not_false, and_true, and_false, true_and, false_and, or_true, or_false, true_or, false_or, bIt, bIf, Bool.false_eq_true, reduceCtorEq]) rfl
def lgL (a i : Nat) : Nat → Int32
  | 0 => gn (nI a) (nI i) (nI 0)
  | j + 1 => if gn (nI a) (nI i) (nI (j + 1)) < lgL a i j then gn (nI a) (nI i) (nI (j + 1)) else lgL a i j
def lg (a i : Nat) : Int32 := lgL a i a
def sb (a : Nat) : Nat → Nat
  | 0 => 0
  | i + 1 => if lg a (sb a i) < lg a (i + 1) then i + 1 else sb a i
theorem sb_le (a : Nat) : ∀ i, sb a i ≤ i := by
  intro i
  induction i with
  | zero => exact Nat.le_refl 0
  | succ i ih => rw [sb]; split <;> omega
def sureV (x w : Int32) : Int32 := if (wi x (nI 1) (nI 6) && wi w (nI 0) (nI 1)) = true then (if w = 0 then lg x.toNatClampNeg (sb x.toNatClampNeg x.toNatClampNeg) else nI (sb x.toNatClampNeg x.toNatClampNeg)) else -1000000001
set_option maxRecDepth 20000 in
set_option maxHeartbeats 4000000 in
theorem s5_leastGain_loop (l : Launch) (d : Nat) (h : MH) (n a i : Nat) (ha : a ≤ 6) : ∀ (r j : Nat), j + r = a → V l mX5_leastGain (d + 1) 9 [some (.int (nI a)), some (.int (nI i)), some (.int (lgL a i j)), some (.int (nI (j + 1)))] [] h n 0 0 (Pv (lg a i) h n) := by
  intro r
  induction r with
  | zero =>
    intro j hj
    refine V.iload_n dX5_leastGain_9 rfl ?_
    refine V.iload_n dX5_leastGain_10 rfl ?_
    refine V.icmp_gtN (tgt := 31) dX5_leastGain_11 (by decide) (by omega) (by omega) (fun _ => ?_) (fun q => absurd q (by omega))
    refine V.iload_n dX5_leastGain_31 rfl ?_
    exact V.iretP (by exact dX5_leastGain_32) rfl (by rw [lg, show a = j by omega]) rfl
  | succ r ih =>
    intro j hj
    refine V.iload_n dX5_leastGain_9 rfl ?_
    refine V.iload_n dX5_leastGain_10 rfl ?_
    refine V.icmp_gtN (tgt := 31) dX5_leastGain_11 (by decide) (by omega) (by omega) (fun q => absurd q (by omega)) (fun _ => ?_)
    refine V.iload_n dX5_leastGain_14 rfl ?_
    refine V.iload_n dX5_leastGain_15 rfl ?_
    refine V.iload_n dX5_leastGain_16 rfl ?_
    refine V.iload_n dX5_leastGain_17 rfl ?_
    refine V.callSv [_, _, _] dX5_leastGain_18 lk_X5_219 rfl (Nat.le_of_ble_eq_true rfl) (Nat.le_of_ble_eq_true rfl) (s5_gained _ _ _ _ _ _ _) ?_
    refine V.mmin dX5_leastGain_21 wm_X5_308 w_mins w_math w_minc (by omega) (Nat.le_of_ble_eq_true rfl) ?_
    refine V.ist2 dX5_leastGain_24 (by decide) rfl ?_
    refine V.inN3 dX5_leastGain_25 (by decide) rfl ?_
    refine V.goto (tgt := 9) dX5_leastGain_28 (by decide) ?_
    exact ih (j + 1) (by omega)
set_option maxRecDepth 20000 in
set_option maxHeartbeats 4000000 in
theorem s5_leastGain (l : Launch) (d : Nat) (h : MH) (n a i : Nat) (ha : a ≤ 6) : Sp l mX5_leastGain (d + 1) [.int (nI a), .int (nI i)] h n 0 0 (Pv (lg a i) h n) := by
  show V _ _ _ _ [some (.int (nI a)), some (.int (nI i)), none, none] _ _ _ _ _ _
  refine V.iload_n dX5_leastGain_0 rfl ?_
  refine V.iload_n dX5_leastGain_1 rfl ?_
  refine V.iconst (v := nI 0) dX5_leastGain_2 (by decide) ?_
  refine V.callSv [_, _, _] dX5_leastGain_3 lk_X5_219 rfl (Nat.le_of_ble_eq_true rfl) (Nat.le_of_ble_eq_true rfl) (s5_gained _ _ _ _ _ _ _) ?_
  refine V.ist2 dX5_leastGain_6 (by decide) rfl ?_
  refine V.iconst (v := nI 1) dX5_leastGain_7 (by decide) ?_
  refine V.ist3 dX5_leastGain_8 (by decide) rfl ?_
  exact s5_leastGain_loop l d h n a i ha a 0 (by omega)
set_option maxRecDepth 20000 in
set_option maxHeartbeats 4000000 in
theorem x_sure_loop (l : Launch) (d : Nat) (h : MH) (n a : Nat) (ha : a ≤ 6) (w : Int32) {Q : Option Value → MH → Nat → Prop} (kk : V l mX5_sure (d + 2) 56 [some (.ref 0), some (.int (nI a)), some (.int w), some (.int (nI (sb a a))), none] [] h n 0 0 Q) : ∀ (r i : Nat), i + r = a → V l mX5_sure (d + 2) 27 [some (.ref 0), some (.int (nI a)), some (.int w), some (.int (nI (sb a i))), some (.int (nI (i + 1)))] [] h n 0 0 Q := by
  intro r
  induction r with
  | zero =>
    intro i hi
    refine V.iload dX5_sure_27 rfl ?_
    refine V.iload_n dX5_sure_29 rfl ?_
    refine V.icmp_gtN (tgt := 56) dX5_sure_30 (by decide) (by omega) (by omega) (fun _ => ?_) (fun q => absurd q (by omega))
    have hia : i = a := by omega
    subst hia
    exact V.drop 4 kk
  | succ r ih =>
    intro i hi
    refine V.iload dX5_sure_27 rfl ?_
    refine V.iload_n dX5_sure_29 rfl ?_
    refine V.icmp_gtN (tgt := 56) dX5_sure_30 (by decide) (by omega) (by omega) (fun q => absurd q (by omega)) (fun _ => ?_)
    refine V.iload_n dX5_sure_33 rfl ?_
    refine V.iload dX5_sure_34 rfl ?_
    refine V.callSv [_, _] dX5_sure_36 lk_X5_226 rfl (Nat.le_of_ble_eq_true rfl) (Nat.le_of_ble_eq_true rfl) (s5_leastGain _ _ _ _ _ _ ha) ?_
    refine V.iload_n dX5_sure_39 rfl ?_
    refine V.iload_n dX5_sure_40 rfl ?_
    refine V.callSv [_, _] dX5_sure_41 lk_X5_226 rfl (Nat.le_of_ble_eq_true rfl) (Nat.le_of_ble_eq_true rfl) (s5_leastGain _ _ _ _ _ _ ha) ?_
    refine V.icmp_le (tgt := 50) dX5_sure_44 (by decide) (fun c44 => ?_) (fun c44 => ?_)
    · refine V.inN4 dX5_sure_50 (by decide) rfl ?_
      refine V.goto (tgt := 27) dX5_sure_53 (by decide) ?_
      have nx := ih (i + 1) (by omega)
      rw [show sb a (i + 1) = sb a i from if_neg (Int32.not_lt.mpr c44)] at nx
      exact nx
    · refine V.iload dX5_sure_47 rfl ?_
      refine V.ist3 dX5_sure_49 (by decide) rfl ?_
      refine V.inN4 dX5_sure_50 (by decide) rfl ?_
      refine V.goto (tgt := 27) dX5_sure_53 (by decide) ?_
      have nx := ih (i + 1) (by omega)
      rw [show sb a (i + 1) = i + 1 from if_pos (Int32.not_le.mp c44)] at nx
      exact nx
set_option maxRecDepth 20000 in
set_option maxHeartbeats 4000000 in
theorem x_sure (l : Launch) (d : Nat) (h : MH) (n : Nat) (K : KK) (b : Bool) (KI : KK) (S : SS) (m : Nat) (hc : ClsAt h K b KI S) (hT : TI K m) (x w : Int32) : Sp l mX5_sure (d + 2) [.ref 0, .int x, .int w] h n 0 0 (Pv (sureV x w) h n) := by
  have hD := hT.1
  have hm := hD.1.1
  have hm10 := hD.1.2.1
  obtain ⟨ht0, ⟨sq, hsq, esq⟩, ⟨cl, P, pn, hw, hPR⟩, ⟨Km, clm, Pm, pm, hwm⟩, ⟨KJ, clJ, PJ, pJ, hwJ, hJ⟩, ⟨rb, rx, ry, hrd⟩, hsc, ⟨co, hco⟩, ⟨se, hse⟩, hsh⟩ := id hc
  obtain ⟨hw0, ⟨gr, hgr, egr⟩, ⟨ru, hru, eru⟩, ⟨pq, hpf, epf⟩, hpl, ⟨fl, hfl, efl⟩, ⟨ca, hca, eca⟩, ⟨wa, hwa⟩, hpp, hhd⟩ := id hw
  show V _ _ _ _ [some (.ref 0), some (.int x), some (.int w), none, none] _ _ _ _ _ _
  refine V.iload_n dX5_sure_0 rfl ?_
  refine V.iconst (v := nI 1) dX5_sure_1 (by decide) ?_
  refine V.bipush (v := nI 6) dX5_sure_2 (by decide) ?_
  refine V.callSv [_, _, _] dX5_sure_4 lk_X5_71 rfl (Nat.le_of_ble_eq_true rfl) (Nat.le_of_ble_eq_true rfl) (s5_within _ _ _ _ _ _ _) ?_
  refine V.if_eqB (tgt := 19) dX5_sure_7 (by decide) (fun c7 => ?_) (fun c7 => ?_)
  · refine V.ldc dX5_sure_19 cn_X5_189 ?_
    exact V.iretP (by exact dX5_sure_21) rfl (by simp only [sureV, c7, not_true_eq_false, not_false_eq_true, if_true, if_false, decide_true, decide_false, Bool.and_true, Bool.and_false, Bool.true_and, Bool.false_and, Bool.or_true, Bool.or_false, Bool.true_or, Bool.false_or, Bool.not_true, Bool.not_false, and_true, and_false, true_and, false_and, or_true, or_false, true_or, false_or, bIt, bIf, Bool.false_eq_true, reduceCtorEq]) rfl
  · refine V.iload_n dX5_sure_10 rfl ?_
    refine V.iconst (v := nI 0) dX5_sure_11 (by decide) ?_
    refine V.iconst (v := nI 1) dX5_sure_12 (by decide) ?_
    refine V.callSv [_, _, _] dX5_sure_13 lk_X5_71 rfl (Nat.le_of_ble_eq_true rfl) (Nat.le_of_ble_eq_true rfl) (s5_within _ _ _ _ _ _ _) ?_
    refine V.if_neB (tgt := 22) dX5_sure_16 (by decide) (fun c16 => ?_) (fun c16 => ?_)
    · obtain ⟨a, ha1, ha, rfl⟩ := wi1_ex (by decide) c7
      have hv : sureV (nI a) w = if w = 0 then lg a (sb a a) else nI (sb a a) := by rw [sureV, c7, c16, if_pos (show (true && true) = true from rfl), clampI (show a < 2147483648 by omega)]
      rw [hv]
      refine V.iconst (v := nI 0) dX5_sure_22 (by decide) ?_
      refine V.ist3 dX5_sure_23 (by decide) rfl ?_
      refine V.iconst (v := nI 1) dX5_sure_24 (by decide) ?_
      refine V.ist4 dX5_sure_25 (by decide) rfl ?_
      refine x_sure_loop l d h n a ha w ?_ a 0 (by omega)
      refine V.iload_n dX5_sure_56 rfl ?_
      refine V.if_ne (tgt := 68) dX5_sure_57 (by decide) (fun c57 => ?_) (fun c57 => ?_)
      · refine V.iload_n dX5_sure_68 rfl ?_
        exact V.iretP (by exact dX5_sure_69) rfl (by rw [if_neg c57]) rfl
      · refine V.iload_n dX5_sure_60 rfl ?_
        refine V.iload_n dX5_sure_61 rfl ?_
        refine V.callSv [_, _] dX5_sure_62 lk_X5_226 rfl (Nat.le_of_ble_eq_true rfl) (Nat.le_of_ble_eq_true rfl) (s5_leastGain _ _ _ _ _ _ ha) ?_
        refine V.goto (tgt := 69) dX5_sure_65 (by decide) ?_
        exact V.iretP (by exact dX5_sure_69) rfl (by rw [if_pos c57]) rfl
    · refine V.ldc dX5_sure_19 cn_X5_189 ?_
      exact V.iretP (by exact dX5_sure_21) rfl (by simp only [sureV, c7, c16, not_true_eq_false, not_false_eq_true, if_true, if_false, decide_true, decide_false, Bool.and_true, Bool.and_false, Bool.true_and, Bool.false_and, Bool.or_true, Bool.or_false, Bool.true_or, Bool.false_or, Bool.not_true, Bool.not_false, and_true, and_false, true_and, false_and, or_true, or_false, true_or, false_or, bIt, bIf, Bool.false_eq_true, reduceCtorEq]) rfl
set_option maxRecDepth 20000 in
set_option maxHeartbeats 4000000 in
theorem m_sure_j (l : Launch) (d : Nat) (h : MH) (n a i : Nat) (ha : a ≤ 6) (w bst mo : Int32) {Q : Option Value → MH → Nat → Prop} (kk : V l mX6_sure (d + 3) 93 [some (.ref 78), some (.int (nI a)), some (.int w), some (.int bst), some (.int mo), some (.int (nI i)), some (.int (lg a i)), none] [] h n 0 0 Q) : ∀ (r j : Nat), j + r = a → V l mX6_sure (d + 3) 53 [some (.ref 78), some (.int (nI a)), some (.int w), some (.int bst), some (.int mo), some (.int (nI i)), some (.int (lgL a i j)), some (.int (nI (j + 1)))] [] h n 0 0 Q := by
  intro r
  induction r with
  | zero =>
    intro j hj
    refine V.iload dX6_sure_53 rfl ?_
    refine V.iload_n dX6_sure_55 rfl ?_
    refine V.icmp_gtN (tgt := 93) dX6_sure_56 (by decide) (by omega) (by omega) (fun _ => ?_) (fun q => absurd q (by omega))
    have hja : j = a := by omega
    subst hja
    exact V.drop 7 kk
  | succ r ih =>
    intro j hj
    refine V.iload dX6_sure_53 rfl ?_
    refine V.iload_n dX6_sure_55 rfl ?_
    refine V.icmp_gtN (tgt := 93) dX6_sure_56 (by decide) (by omega) (by omega) (fun q => absurd q (by omega)) (fun _ => ?_)
    refine V.iload_n dX6_sure_59 rfl ?_
    refine V.iload dX6_sure_60 rfl ?_
    refine V.iload dX6_sure_62 rfl ?_
    refine V.callSv [_, _, _] dX6_sure_64 lk_X6_282 rfl (Nat.le_of_ble_eq_true rfl) (Nat.le_of_ble_eq_true rfl) (s6_gainOf _ _ _ _ _ _ _) ?_
    refine V.iload dX6_sure_67 rfl ?_
    refine V.icmp_ge (tgt := 83) dX6_sure_69 (by decide) (fun c69 => ?_) (fun c69 => ?_)
    · refine V.iload dX6_sure_83 rfl ?_
      refine V.ist6 dX6_sure_85 (by decide) rfl ?_
      refine V.inN7 dX6_sure_87 (by decide) rfl ?_
      refine V.goto (tgt := 53) dX6_sure_90 (by decide) ?_
      have nx := ih (j + 1) (by omega)
      first
      | (rw [show lgL a i (j + 1) = gn (nI a) (nI i) (nI (j + 1)) from if_pos (Int32.not_le.mp c69)] at nx; exact nx)
      | (rw [show lgL a i (j + 1) = lgL a i j from if_neg (Int32.not_lt.mpr c69)] at nx; exact nx)
    · refine V.iload_n dX6_sure_72 rfl ?_
      refine V.iload dX6_sure_73 rfl ?_
      refine V.iload dX6_sure_75 rfl ?_
      refine V.callSv [_, _, _] dX6_sure_77 lk_X6_282 rfl (Nat.le_of_ble_eq_true rfl) (Nat.le_of_ble_eq_true rfl) (s6_gainOf _ _ _ _ _ _ _) ?_
      refine V.goto (tgt := 85) dX6_sure_80 (by decide) ?_
      refine V.ist6 dX6_sure_85 (by decide) rfl ?_
      refine V.inN7 dX6_sure_87 (by decide) rfl ?_
      refine V.goto (tgt := 53) dX6_sure_90 (by decide) ?_
      have nx := ih (j + 1) (by omega)
      first
      | (rw [show lgL a i (j + 1) = gn (nI a) (nI i) (nI (j + 1)) from if_pos (Int32.not_le.mp c69)] at nx; exact nx)
      | (rw [show lgL a i (j + 1) = lgL a i j from if_neg (Int32.not_lt.mpr c69)] at nx; exact nx)
set_option maxRecDepth 20000 in
set_option maxHeartbeats 4000000 in
theorem m_sure_i (l : Launch) (d : Nat) (h : MH) (n a : Nat) (ha : a ≤ 6) (w : Int32) {Q : Option Value → MH → Nat → Prop} (kk : V l mX6_sure (d + 3) 120 [some (.ref 78), some (.int (nI a)), some (.int w), some (.int (nI (sb a a))), some (.int (lg a (sb a a))), none, none, none] [] h n 0 0 Q) : ∀ (r i : Nat) (bst mo : Int32), (i = 0 → bst = -4 ∧ mo = nI 0) → (∀ i0, i = i0 + 1 → bst = nI (sb a i0) ∧ mo = lg a (sb a i0)) → i + r = a + 1 → V l mX6_sure (d + 3) 35 [some (.ref 78), some (.int (nI a)), some (.int w), some (.int bst), some (.int mo), some (.int (nI i)), none, none] [] h n 0 0 Q := by
  intro r
  induction r with
  | zero =>
    intro i bst mo h0 h1 hi
    refine V.iload dX6_sure_35 rfl ?_
    refine V.iload_n dX6_sure_37 rfl ?_
    refine V.icmp_gtN (tgt := 120) dX6_sure_38 (by decide) (by omega) (by omega) (fun _ => ?_) (fun q => absurd q (by omega))
    obtain ⟨rfl, rfl⟩ := h1 a (by omega)
    exact V.drop 5 kk
  | succ r ih =>
    intro i bst mo h0 h1 hi
    refine V.iload dX6_sure_35 rfl ?_
    refine V.iload_n dX6_sure_37 rfl ?_
    refine V.icmp_gtN (tgt := 120) dX6_sure_38 (by decide) (by omega) (by omega) (fun q => absurd q (by omega)) (fun _ => ?_)
    refine V.iload_n dX6_sure_41 rfl ?_
    refine V.iload dX6_sure_42 rfl ?_
    refine V.iconst (v := nI 0) dX6_sure_44 (by decide) ?_
    refine V.callSv [_, _, _] dX6_sure_45 lk_X6_282 rfl (Nat.le_of_ble_eq_true rfl) (Nat.le_of_ble_eq_true rfl) (s6_gainOf _ _ _ _ _ _ _) ?_
    refine V.ist6 dX6_sure_48 (by decide) rfl ?_
    refine V.iconst (v := nI 1) dX6_sure_50 (by decide) ?_
    refine V.ist7 dX6_sure_51 (by decide) rfl ?_
    refine m_sure_j l d h n a i ha w bst mo ?_ a 0 (by omega)
    refine V.iload_n dX6_sure_93 rfl ?_
    by_cases hk0 : i = 0
    · obtain ⟨rfl, rfl⟩ := h0 hk0
      refine V.if_lt (tgt := 107) dX6_sure_94 (by decide) (fun _ => ?_) (fun q => absurd (by decide) q)
      refine V.iload dX6_sure_107 rfl ?_
      refine V.ist3 dX6_sure_109 (by decide) rfl ?_
      refine V.iload dX6_sure_110 rfl ?_
      refine V.ist4 dX6_sure_112 (by decide) rfl ?_
      refine V.inN5 dX6_sure_114 (by decide) rfl ?_
      refine V.goto (tgt := 35) dX6_sure_117 (by decide) ?_
      exact V.drop 6 (ih (i + 1) _ _ (fun y => absurd y (by omega)) (fun i0 y => by rw [show i0 = 0 by omega, hk0]; exact ⟨rfl, rfl⟩) (by omega))
    · obtain ⟨i1, hi1⟩ : ∃ i1, i = i1 + 1 := ⟨i - 1, by omega⟩
      obtain ⟨rfl, rfl⟩ := h1 i1 hi1
      have hsl := sb_le a i1
      refine V.if_lt (tgt := 107) dX6_sure_94 (by decide) (fun q => absurd q (nI_pos (by omega))) (fun _ => ?_)
      refine V.iload dX6_sure_97 rfl ?_
      refine V.iload dX6_sure_99 rfl ?_
      refine V.icmp_gt (tgt := 107) dX6_sure_101 (by decide) (fun c101 => ?_) (fun c101 => ?_)
      · refine V.iload dX6_sure_107 rfl ?_
        refine V.ist3 dX6_sure_109 (by decide) rfl ?_
        refine V.iload dX6_sure_110 rfl ?_
        refine V.ist4 dX6_sure_112 (by decide) rfl ?_
        refine V.inN5 dX6_sure_114 (by decide) rfl ?_
        refine V.goto (tgt := 35) dX6_sure_117 (by decide) ?_
        exact V.drop 6 (ih (i + 1) _ _ (fun y => absurd y (by omega)) (fun i0 y => by (have e0 : i0 = i1 + 1 := by omega); subst e0; subst hi1; rw [show sb a (i1 + 1) = i1 + 1 from if_pos c101]; exact ⟨rfl, rfl⟩) (by omega))
      · refine V.goto (tgt := 114) dX6_sure_104 (by decide) ?_
        refine V.inN5 dX6_sure_114 (by decide) rfl ?_
        refine V.goto (tgt := 35) dX6_sure_117 (by decide) ?_
        exact V.drop 6 (ih (i + 1) _ _ (fun y => absurd y (by omega)) (fun i0 y => by (have e0 : i0 = i1 + 1 := by omega); subst e0; subst hi1; rw [show sb a (i1 + 1) = sb a i1 from if_neg c101]; exact ⟨rfl, rfl⟩) (by omega))
set_option maxRecDepth 20000 in
set_option maxHeartbeats 4000000 in
theorem m_sure (l : Launch) (d : Nat) (h : MH) (n : Nat) (K : KK) (b : Bool) (KI : KK) (S : SS) (m : Nat) (hc : ModAt h K b KI S) (hT : TI K m) (x w : Int32) : Sp l mX6_sure (d + 3) [.ref 78, .int x, .int w] h n 0 0 (Pv (sureV x w) h n) := by
  have hD := hT.1
  have hm := hD.1.1
  have hm10 := hD.1.2.1
  obtain ⟨⟨th, po, ba, en, tt, hm0⟩, ha, hb, ⟨Km, hmi⟩, ⟨Kr, hre⟩, h83, h84, h85, h86, h87, h88, ⟨X89, h89⟩, ⟨X90, h90⟩, ⟨X91, h91⟩, ⟨X92, h92⟩⟩ := id hc
  show V _ _ _ _ [some (.ref 78), some (.int x), some (.int w), none, none, none, none, none] _ _ _ _ _ _
  refine V.iload_n dX6_sure_0 rfl ?_
  refine V.i2l dX6_sure_1 ?_
  refine V.lconst (v := 1) dX6_sure_2 (by decide) ?_
  refine V.ldc2 dX6_sure_3 cn_X6_206 ?_
  refine V.callSv [_, _, _] dX6_sure_6 lk_X6_62 rfl (Nat.le_of_ble_eq_true rfl) (Nat.le_of_ble_eq_true rfl) (s6_isInC _ _ _ (nI 1) (nI 6) (by decide) (by decide) _ _) ?_
  refine V.if_eqB (tgt := 22) dX6_sure_9 (by decide) (fun c9 => ?_) (fun c9 => ?_)
  · refine V.ldcw dX6_sure_22 cn_X6_271 ?_
    exact V.iretP (by exact dX6_sure_25) rfl (by simp only [sureV, c9, not_true_eq_false, not_false_eq_true, if_true, if_false, decide_true, decide_false, Bool.and_true, Bool.and_false, Bool.true_and, Bool.false_and, Bool.or_true, Bool.or_false, Bool.true_or, Bool.false_or, Bool.not_true, Bool.not_false, and_true, and_false, true_and, false_and, or_true, or_false, true_or, false_or, bIt, bIf, Bool.false_eq_true, reduceCtorEq]) rfl
  · refine V.iload_n dX6_sure_12 rfl ?_
    refine V.i2l dX6_sure_13 ?_
    refine V.lconst (v := 0) dX6_sure_14 (by decide) ?_
    refine V.lconst (v := 1) dX6_sure_15 (by decide) ?_
    refine V.callSv [_, _, _] dX6_sure_16 lk_X6_62 rfl (Nat.le_of_ble_eq_true rfl) (Nat.le_of_ble_eq_true rfl) (s6_isInC _ _ _ (nI 0) (nI 1) (by decide) (by decide) _ _) ?_
    refine V.if_neB (tgt := 26) dX6_sure_19 (by decide) (fun c19 => ?_) (fun c19 => ?_)
    · obtain ⟨a, ha1, ha6, rfl⟩ := wi1_ex (by decide) c9
      have hv : sureV (nI a) w = if w = 0 then lg a (sb a a) else nI (sb a a) := by rw [sureV, c9, c19, if_pos (show (true && true) = true from rfl), clampI (show a < 2147483648 by omega)]
      rw [hv]
      refine V.bipush (v := -4) dX6_sure_26 (by decide) ?_
      refine V.ist3 dX6_sure_28 (by decide) rfl ?_
      refine V.iconst (v := nI 0) dX6_sure_29 (by decide) ?_
      refine V.ist4 dX6_sure_30 (by decide) rfl ?_
      refine V.iconst (v := nI 0) dX6_sure_32 (by decide) ?_
      refine V.ist5 dX6_sure_33 (by decide) rfl ?_
      refine m_sure_i l d h n a ha6 w ?_ (a + 1) 0 (-4) (nI 0) (fun _ => ⟨rfl, rfl⟩) (fun i0 y => absurd y (by omega)) (by omega)
      refine V.iload_n dX6_sure_120 rfl ?_
      refine V.if_ne (tgt := 129) dX6_sure_121 (by decide) (fun c57 => ?_) (fun c57 => ?_)
      · refine V.iload_n dX6_sure_129 rfl ?_
        exact V.iretP (by exact dX6_sure_130) rfl (by rw [if_neg c57]) rfl
      · refine V.iload dX6_sure_124 rfl ?_
        refine V.goto (tgt := 130) dX6_sure_126 (by decide) ?_
        exact V.iretP (by exact dX6_sure_130) rfl (by rw [if_pos c57]) rfl
    · refine V.ldcw dX6_sure_22 cn_X6_271 ?_
      exact V.iretP (by exact dX6_sure_25) rfl (by simp only [sureV, c9, c19, not_true_eq_false, not_false_eq_true, if_true, if_false, decide_true, decide_false, Bool.and_true, Bool.and_false, Bool.true_and, Bool.false_and, Bool.or_true, Bool.or_false, Bool.true_or, Bool.false_or, Bool.not_true, Bool.not_false, and_true, and_false, true_and, false_and, or_true, or_false, true_or, false_or, bIt, bIf, Bool.false_eq_true, reduceCtorEq]) rfl
