theorem wi_ex {x : Int32} {N : Nat} (hN : N < 2 ^ 31) (h : wi x (nI 0) (nI N) = true) : ∃ j : Nat, j ≤ N ∧ x = nI j := by
  simp only [wi, Bool.and_eq_true, decide_eq_true_eq] at h
  exact nI_of2 (M := nI N) (n := N) (nI_toInt hN) (fun q => by
    have h1 := h.1
    rw [← i0] at h1
    exact absurd h1 (Int32.not_le.mpr q)) h.2
theorem wi_nI {j N : Nat} (hj : j < 2 ^ 31) (hN : N < 2 ^ 31) : wi (nI j) (nI 0) (nI N) = decide (j ≤ N) := by
  have h1 : nI 0 ≤ nI j := nI_le (Nat.zero_le j) hj
  have h2 : nI j ≤ nI N ↔ j ≤ N := nI_leI hj hN
  simp [wi, h1, h2]
theorem clampI {j : Nat} (h : j < 2147483648) : (nI j).toNatClampNeg = j := nI_clamp h
/-- by plans: of the first i of a side's plans the last that holds -/
def plV (K : KK) (b : Nat) (held : Int32) (w : Nat) (v0 : Int32) : Nat → Int32
  | 0 => v0
  | i + 1 => if K (b + 1 + 3 * i) ≤ held then K (b + 2 + 3 * i + w) else plV K b held w v0 i
def role (K : KK) (m p w : Nat) : Int32 := if gP K p 1 = nI 4 then plV K (100 + 7 * (gP K p 0).toNatClampNeg) (nI (cntH K (gP K p 0) m)) w (gP K p (1 + w)) (K (100 + 7 * (gP K p 0).toNatClampNeg)).toNatClampNeg else gP K p (1 + w)
set_option maxRecDepth 20000 in
set_option maxHeartbeats 4000000 in
theorem s6_roleOf_loop (l : Launch) (d : Nat) (h : MH) (n a : Nat) (K : KK) (ha : h a = some (kc K)) (p w : Nat) (hw : w < 2) (b q : Nat) (hb : b ≤ 107) (hq2 : q ≤ 2) (hq : K b = nI q) (held v0 : Int32) : ∀ (r i : Nat), i + r = q → V l mX6_roleOf d 50 [some (.ref a), some (.int (nI p)), some (.int (nI w)), some (.int (plV K b held w v0 i)), some (.int (nI b)), some (.int held), some (.int (nI i))] [] h n 0 0 (Pv (plV K b held w v0 q) h n) := by
  intro r
  induction r with
  | zero =>
    intro i hi
    refine V.iload dX6_roleOf_50 rfl ?_
    refine V.aload_n dX6_roleOf_52 rfl ?_
    refine V.iload dX6_roleOf_53 rfl ?_
    refine V.ialdN dX6_roleOf_55 (by assumption) (by omega) (by decide) ?_
    rw [hq]
    refine V.icmp_geN (tgt := 95) dX6_roleOf_56 (by decide) (by omega) (by omega) (fun _ => ?_) (fun q => absurd q (by omega))
    refine V.iload_n dX6_roleOf_95 rfl ?_
    exact V.iretP (by exact dX6_roleOf_96) rfl (by rw [show i = q by omega]) rfl
  | succ r ih =>
    intro i hi
    refine V.iload dX6_roleOf_50 rfl ?_
    refine V.aload_n dX6_roleOf_52 rfl ?_
    refine V.iload dX6_roleOf_53 rfl ?_
    refine V.ialdN dX6_roleOf_55 (by assumption) (by omega) (by decide) ?_
    rw [hq]
    refine V.icmp_geN (tgt := 95) dX6_roleOf_56 (by decide) (by omega) (by omega) (fun q => absurd q (by omega)) (fun _ => ?_)
    refine V.iload dX6_roleOf_59 rfl ?_
    refine V.aload_n dX6_roleOf_61 rfl ?_
    refine V.iload dX6_roleOf_62 rfl ?_
    refine V.iconst (v := nI 1) dX6_roleOf_64 (by decide) ?_
    refine V.iaddN dX6_roleOf_65 ?_
    refine V.iconst (v := nI 3) dX6_roleOf_66 (by decide) ?_
    refine V.iload dX6_roleOf_67 rfl ?_
    refine V.imulN dX6_roleOf_69 ?_
    refine V.iaddN dX6_roleOf_70 ?_
    refine V.ialdN dX6_roleOf_71 (by assumption) (by omega) (by decide) ?_
    refine V.icmp_lt (tgt := 89) dX6_roleOf_72 (by decide) (fun c72 => ?_) (fun c72 => ?_)
    · refine V.inN6 dX6_roleOf_89 (by decide) rfl ?_
      refine V.goto (tgt := 50) dX6_roleOf_92 (by decide) ?_
      exact V.ls (by (try simp only [← Int32.not_le, Classical.not_not] at *); simp only [plV, c72, not_true_eq_false, not_false_eq_true, if_true, if_false, decide_true, decide_false, Bool.and_true, Bool.and_false, Bool.true_and, Bool.false_and, Bool.or_true, Bool.or_false, Bool.true_or, Bool.false_or, Bool.not_true, Bool.not_false, and_true, and_false, true_and, false_and, or_true, or_false, true_or, false_or, bIt, bIf, Bool.false_eq_true, reduceCtorEq] <;> rfl) (ih (i + 1) (by omega))
    · refine V.aload_n dX6_roleOf_75 rfl ?_
      refine V.iload dX6_roleOf_76 rfl ?_
      refine V.iconst (v := nI 2) dX6_roleOf_78 (by decide) ?_
      refine V.iaddN dX6_roleOf_79 ?_
      refine V.iconst (v := nI 3) dX6_roleOf_80 (by decide) ?_
      refine V.iload dX6_roleOf_81 rfl ?_
      refine V.imulN dX6_roleOf_83 ?_
      refine V.iaddN dX6_roleOf_84 ?_
      refine V.iload_n dX6_roleOf_85 rfl ?_
      refine V.iaddN dX6_roleOf_86 ?_
      refine V.ialdN dX6_roleOf_87 (by assumption) (by omega) (by decide) ?_
      refine V.ist3 dX6_roleOf_88 (by decide) rfl ?_
      refine V.inN6 dX6_roleOf_89 (by decide) rfl ?_
      refine V.goto (tgt := 50) dX6_roleOf_92 (by decide) ?_
      exact V.ls (by (try simp only [← Int32.not_le, Classical.not_not] at *); simp only [plV, c72, not_true_eq_false, not_false_eq_true, if_true, if_false, decide_true, decide_false, Bool.and_true, Bool.and_false, Bool.true_and, Bool.false_and, Bool.or_true, Bool.or_false, Bool.true_or, Bool.false_or, Bool.not_true, Bool.not_false, and_true, and_false, true_and, false_and, or_true, or_false, true_or, false_or, bIt, bIf, Bool.false_eq_true, reduceCtorEq] <;> rfl) (ih (i + 1) (by omega))
set_option maxRecDepth 20000 in
set_option maxHeartbeats 4000000 in
theorem s6_roleOf (l : Launch) (d : Nat) (h : MH) (n a : Nat) (K : KK) (ha : h a = some (kc K)) (p w : Nat) (hp : p < 10) (hw : w < 2) (m : Nat) (hm : K 90 = nI m) (hm10 : m ≤ 10) (e q : Nat) (he : e < 2) (hs : gP K p 0 = nI e) (hq2 : q ≤ 2) (hq : K (100 + 7 * e) = nI q) : Sp l mX6_roleOf (d + 2) [.ref a, .int (nI p), .int (nI w)] h n 0 0 (Pv (role K m p w) h n) := by
  show V _ _ _ _ [some (.ref a), some (.int (nI p)), some (.int (nI w)), none, none, none, none] _ _ _ _ _ _
  refine V.aload_n dX6_roleOf_0 rfl ?_
  refine V.iload_n dX6_roleOf_1 rfl ?_
  refine V.iconst (v := nI 1) dX6_roleOf_2 (by decide) ?_
  refine V.iload_n dX6_roleOf_3 rfl ?_
  refine V.iaddN dX6_roleOf_4 ?_
  refine V.callSv [_, _, _] dX6_roleOf_5 lk_X6_82 rfl (Nat.le_of_ble_eq_true rfl) (Nat.le_of_ble_eq_true rfl) (s6_get _ _ _ _ _ _ (by assumption) _ _ (by omega) (by omega)) ?_
  refine V.ist3 dX6_roleOf_8 (by decide) rfl ?_
  refine V.aload_n dX6_roleOf_9 rfl ?_
  refine V.iload_n dX6_roleOf_10 rfl ?_
  refine V.iconst (v := nI 1) dX6_roleOf_11 (by decide) ?_
  refine V.callSv [_, _, _] dX6_roleOf_12 lk_X6_82 rfl (Nat.le_of_ble_eq_true rfl) (Nat.le_of_ble_eq_true rfl) (s6_get _ _ _ _ _ _ (by assumption) _ _ (by omega) (by omega)) ?_
  refine V.iconst (v := nI 4) dX6_roleOf_15 (by decide) ?_
  refine V.icmp_eq (tgt := 21) dX6_roleOf_16 (by decide) (fun c16 => ?_) (fun c16 => ?_)
  · refine V.bipush (v := nI 100) dX6_roleOf_21 (by decide) ?_
    refine V.bipush (v := nI 7) dX6_roleOf_23 (by decide) ?_
    refine V.aload_n dX6_roleOf_25 rfl ?_
    refine V.iload_n dX6_roleOf_26 rfl ?_
    refine V.iconst (v := nI 0) dX6_roleOf_27 (by decide) ?_
    refine V.callSv [_, _, _] dX6_roleOf_28 lk_X6_82 rfl (Nat.le_of_ble_eq_true rfl) (Nat.le_of_ble_eq_true rfl) (s6_get _ _ _ _ _ _ (by assumption) _ _ (by omega) (by omega)) ?_
    rw [hs]
    refine V.imulN dX6_roleOf_31 ?_
    refine V.iaddN dX6_roleOf_32 ?_
    refine V.ist4 dX6_roleOf_33 (by decide) rfl ?_
    refine V.aload_n dX6_roleOf_35 rfl ?_
    refine V.aload_n dX6_roleOf_36 rfl ?_
    refine V.iload_n dX6_roleOf_37 rfl ?_
    refine V.iconst (v := nI 0) dX6_roleOf_38 (by decide) ?_
    refine V.callSv [_, _, _] dX6_roleOf_39 lk_X6_82 rfl (Nat.le_of_ble_eq_true rfl) (Nat.le_of_ble_eq_true rfl) (s6_get _ _ _ _ _ _ (by assumption) _ _ (by omega) (by omega)) ?_
    rw [hs]
    refine V.callSv [_, _] dX6_roleOf_42 lk_X6_174 rfl (Nat.le_of_ble_eq_true rfl) (Nat.le_of_ble_eq_true rfl) (s6_heldOf _ _ _ _ _ _ (by assumption) _ _ (by assumption) (by assumption)) ?_
    refine V.ist5 dX6_roleOf_45 (by decide) rfl ?_
    refine V.iconst (v := nI 0) dX6_roleOf_47 (by decide) ?_
    refine V.ist6 dX6_roleOf_48 (by decide) rfl ?_
    refine V.mono ?_ (s6_roleOf_loop l _ h n a K ha p w hw (100 + 7 * e) q (by omega) hq2 hq (nI (cntH K (nI e) m)) (gP K p (1 + w)) q 0 (by omega))
    intro r h1 n1 q1
    have e1 : role K m p w = plV K (100 + 7 * e) (nI (cntH K (nI e) m)) w (gP K p (1 + w)) q := by
      rw [role, if_pos c16, hs, clampI (by omega), hq, clampI (by omega)]
    rw [e1]
    exact q1
  · refine V.iload_n dX6_roleOf_19 rfl ?_
    exact V.iretP (by exact dX6_roleOf_20) rfl (by rw [role, if_neg c16]) rfl
set_option maxRecDepth 20000 in
set_option maxHeartbeats 4000000 in
theorem s6_seesCell (l : Launch) (d : Nat) (h : MH) (n a : Nat) (K : KK) (ha : h a = some (kc K)) (p c : Nat) (hp : p < 10) (hc : c < 84) : Sp l mX6_seesCell (d + 2) [.ref a, .int (nI p), .int (nI c)] h n 0 0 (Pv (bI (seB K p (nI c))) h n) := by
  show V _ _ _ _ [some (.ref a), some (.int (nI p)), some (.int (nI c))] _ _ _ _ _ _
  refine V.aload_n dX6_seesCell_0 rfl ?_
  refine V.iload_n dX6_seesCell_1 rfl ?_
  refine V.iconst (v := nI 4) dX6_seesCell_2 (by decide) ?_
  refine V.callSv [_, _, _] dX6_seesCell_3 lk_X6_82 rfl (Nat.le_of_ble_eq_true rfl) (Nat.le_of_ble_eq_true rfl) (s6_get _ _ _ _ _ _ (by assumption) _ _ (by omega) (by omega)) ?_
  refine V.iload_n dX6_seesCell_6 rfl ?_
  refine V.callSv [_, _] dX6_seesCell_7 lk_X6_78 rfl (Nat.le_of_ble_eq_true rfl) (Nat.le_of_ble_eq_true rfl) (s6_nearOf _ _ _ _ _ _) ?_
  refine V.aload_n dX6_seesCell_10 rfl ?_
  refine V.iload_n dX6_seesCell_11 rfl ?_
  refine V.ialdN dX6_seesCell_12 (by assumption) (by omega) (by decide) ?_
  refine V.iconst (v := nI 1) dX6_seesCell_13 (by decide) ?_
  refine V.icmp_ne (tgt := 21) dX6_seesCell_14 (by decide) (fun c14 => ?_) (fun c14 => ?_)
  · refine V.iconst (v := nI 4) dX6_seesCell_21 (by decide) ?_
    refine V.icmp_gt (tgt := 29) dX6_seesCell_22 (by decide) (fun c22 => ?_) (fun c22 => ?_)
    · refine V.iconst (v := nI 0) dX6_seesCell_29 (by decide) ?_
      exact V.iretZ (by exact dX6_seesCell_30) rfl (by (try simp only [← Int32.not_le, Classical.not_not] at *); simp only [seB, clampI (show c < 2147483648 by omega), ← Int32.not_le, c14, c22, not_true_eq_false, not_false_eq_true, if_true, if_false, decide_true, decide_false, Bool.and_true, Bool.and_false, Bool.true_and, Bool.false_and, Bool.or_true, Bool.or_false, Bool.true_or, Bool.false_or, Bool.not_true, Bool.not_false, and_true, and_false, true_and, false_and, or_true, or_false, true_or, false_or, bIt, bIf, Bool.false_eq_true, reduceCtorEq]) rfl
    · refine V.iconst (v := nI 1) dX6_seesCell_25 (by decide) ?_
      refine V.goto (tgt := 30) dX6_seesCell_26 (by decide) ?_
      exact V.iretZ (by exact dX6_seesCell_30) rfl (by (try simp only [← Int32.not_le, Classical.not_not] at *); simp only [seB, clampI (show c < 2147483648 by omega), ← Int32.not_le, c14, c22, not_true_eq_false, not_false_eq_true, if_true, if_false, decide_true, decide_false, Bool.and_true, Bool.and_false, Bool.true_and, Bool.false_and, Bool.or_true, Bool.or_false, Bool.true_or, Bool.false_or, Bool.not_true, Bool.not_false, and_true, and_false, true_and, false_and, or_true, or_false, true_or, false_or, bIt, bIf, Bool.false_eq_true, reduceCtorEq]) rfl
  · refine V.iconst (v := nI 1) dX6_seesCell_17 (by decide) ?_
    refine V.goto (tgt := 22) dX6_seesCell_18 (by decide) ?_
    refine V.icmp_gt (tgt := 29) dX6_seesCell_22 (by decide) (fun c22 => ?_) (fun c22 => ?_)
    · refine V.iconst (v := nI 0) dX6_seesCell_29 (by decide) ?_
      exact V.iretZ (by exact dX6_seesCell_30) rfl (by (try simp only [← Int32.not_le, Classical.not_not] at *); simp only [seB, clampI (show c < 2147483648 by omega), ← Int32.not_le, c14, c22, not_true_eq_false, not_false_eq_true, if_true, if_false, decide_true, decide_false, Bool.and_true, Bool.and_false, Bool.true_and, Bool.false_and, Bool.or_true, Bool.or_false, Bool.true_or, Bool.false_or, Bool.not_true, Bool.not_false, and_true, and_false, true_and, false_and, or_true, or_false, true_or, false_or, bIt, bIf, Bool.false_eq_true, reduceCtorEq]) rfl
    · refine V.iconst (v := nI 1) dX6_seesCell_25 (by decide) ?_
      refine V.goto (tgt := 30) dX6_seesCell_26 (by decide) ?_
      exact V.iretZ (by exact dX6_seesCell_30) rfl (by (try simp only [← Int32.not_le, Classical.not_not] at *); simp only [seB, clampI (show c < 2147483648 by omega), ← Int32.not_le, c14, c22, not_true_eq_false, not_false_eq_true, if_true, if_false, decide_true, decide_false, Bool.and_true, Bool.and_false, Bool.true_and, Bool.false_and, Bool.or_true, Bool.or_false, Bool.true_or, Bool.false_or, Bool.not_true, Bool.not_false, and_true, and_false, true_and, false_and, or_true, or_false, true_or, false_or, bIt, bIf, Bool.false_eq_true, reduceCtorEq]) rfl
