/-- where a player of the class is: one that is out may be anywhere -/
def cAt (K : KK) (cl : Nat → Int32) (i : Nat) : Int32 := if gP K i 5 = nI 2 then cl i else gP K i 4
theorem cAt_fr {K : KK} {cl : Nat → Int32} {i : Nat} (h : frB K i = true) : cAt K cl i = gP K i 4 := if_neg (by rw [frB_z h]; decide)
def pF (K : KK) (cl : Nat → Int32) (i : Nat) : List Value := [.int (gP K i 0), .int (gP K i 1), .int (gP K i 2), .int (gP K i 3), .int (cAt K cl i), .int (gP K i 6), .int (bI (decide (gP K i 5 = nI 1))), .int (bI (decide (gP K i 5 = nI 2)))]
def woF (K : KK) (w pn : Nat) : List Value := [.ref (w + 1), .ref (w + 2), .ref (w + 3), .int (K 90), .ref (w + 4), .int (nI pn), .ref (w + 5), .ref (w + 6), .int (K 91), .int (K 92), .int (K 93), .int (K 94), .int (K 95), .ref (w + 7)]
/-- the class's wood at place w shows the reference's wood K (its plans apart: P, pn) -/
def WoodAt (h : MH) (w : Nat) (K : KK) (cl P : Nat → Int32) (pn : Nat) : Prop :=
  h w = some (.inr (4, woF K w pn)) ∧ (∃ g : Nat → Int32, h (w + 1) = some (.inl (0, 84, .inl g)) ∧ ∀ c, c < 84 → g c = K c) ∧ (∃ g : Nat → Int32, h (w + 2) = some (.inl (0, 6, .inl g)) ∧ ∀ j, j < 6 → g j = K (84 + j)) ∧
  (∃ q : Nat → Option Nat, h (w + 3) = some (.inl (3, 10, .inr (.inr (.inr (.inr q))))) ∧ ∀ i, i < 10 → q i = some (w + 8 + i)) ∧ h (w + 4) = some (.inl (0, 16, .inl P)) ∧ (∃ g : Nat → Int32, h (w + 5) = some (.inl (0, 2, .inl g)) ∧ ∀ e, e < 2 → g e = K (96 + 2 * e)) ∧ (∃ g : Nat → Int32, h (w + 6) = some (.inl (0, 2, .inl g)) ∧ ∀ e, e < 2 → g e = K (97 + 2 * e)) ∧
  (∃ g : Nat → Int32, h (w + 7) = some (.inl (0, 10, .inl g))) ∧ (∀ i, i < 10 → h (w + 8 + i) = some (.inr (0, pF K cl i))) ∧ ∀ i, i < 10 → gP K i 5 = nI 0 ∨ gP K i 5 = nI 1 ∨ gP K i 5 = nI 2
theorem fr_is {K : KK} {i : Nat} (h : gP K i 5 = nI 0 ∨ gP K i 5 = nI 1 ∨ gP K i 5 = nI 2) : (!decide (gP K i 5 = nI 1) && !decide (gP K i 5 = nI 2)) = frB K i := by
  unfold frB
  rcases h with h | h | h <;> rw [h] <;> decide
set_option maxRecDepth 20000 in
set_option maxHeartbeats 4000000 in
theorem s0_isFree0 (l : Launch) (d : Nat) (h : MH) (n q : Nat) (fs : List Value) (x y : Bool) (hq : h q = some (.inr (0, fs))) (h6 : fs[6]? = some (.int (bI x))) (h7 : fs[7]? = some (.int (bI y))) : Sp l mX0_isFree d [.ref q] h n 0 0 (Pv (bI (!x && !y)) h n) := by
  show V _ _ _ _ [some (.ref q)] _ _ _ _ _ _
  refine V.aload_n dX0_isFree_0 rfl ?_
  refine V.getf dX0_isFree_1 fl_X0_28 hq h6 ?_
  refine V.if_neB (tgt := 18) dX0_isFree_4 (by decide) (fun c4 => ?_) (fun c4 => ?_)
  · refine V.iconst (v := nI 0) dX0_isFree_18 (by decide) ?_
    exact V.iretZ (by exact dX0_isFree_19) rfl (by simp only [Bool.not_true, Bool.not_false, c4, not_true_eq_false, not_false_eq_true, if_true, if_false, decide_true, decide_false, Bool.and_true, Bool.and_false, Bool.true_and, Bool.false_and, Bool.or_true, Bool.or_false, Bool.true_or, Bool.false_or, Bool.not_true, Bool.not_false, and_true, and_false, true_and, false_and, or_true, or_false, true_or, false_or, bIt, bIf, Bool.false_eq_true, reduceCtorEq]) rfl
  · refine V.aload_n dX0_isFree_7 rfl ?_
    refine V.getf dX0_isFree_8 fl_X0_32 hq h7 ?_
    refine V.if_neB (tgt := 18) dX0_isFree_11 (by decide) (fun c11 => ?_) (fun c11 => ?_)
    · refine V.iconst (v := nI 0) dX0_isFree_18 (by decide) ?_
      exact V.iretZ (by exact dX0_isFree_19) rfl (by simp only [Bool.not_true, Bool.not_false, c4, c11, not_true_eq_false, not_false_eq_true, if_true, if_false, decide_true, decide_false, Bool.and_true, Bool.and_false, Bool.true_and, Bool.false_and, Bool.or_true, Bool.or_false, Bool.true_or, Bool.false_or, Bool.not_true, Bool.not_false, and_true, and_false, true_and, false_and, or_true, or_false, true_or, false_or, bIt, bIf, Bool.false_eq_true, reduceCtorEq]) rfl
    · refine V.iconst (v := nI 1) dX0_isFree_14 (by decide) ?_
      refine V.goto (tgt := 19) dX0_isFree_15 (by decide) ?_
      exact V.iretZ (by exact dX0_isFree_19) rfl (by simp only [Bool.not_true, Bool.not_false, c4, c11, not_true_eq_false, not_false_eq_true, if_true, if_false, decide_true, decide_false, Bool.and_true, Bool.and_false, Bool.true_and, Bool.false_and, Bool.or_true, Bool.or_false, Bool.true_or, Bool.false_or, Bool.not_true, Bool.not_false, and_true, and_false, true_and, false_and, or_true, or_false, true_or, false_or, bIt, bIf, Bool.false_eq_true, reduceCtorEq]) rfl
theorem s0_isFree (l : Launch) (d : Nat) (h : MH) (n w : Nat) (K : KK) (cl P : Nat → Int32) (pn : Nat) (hw : WoodAt h w K cl P pn) (i : Nat) (hi : i < 10) : Sp l mX0_isFree d [.ref (w + 8 + i)] h n 0 0 (Pv (bI (frB K i)) h n) := by
  rw [← fr_is (hw.2.2.2.2.2.2.2.2.2 i hi)]
  exact s0_isFree0 l d h n _ _ _ _ (hw.2.2.2.2.2.2.2.2.1 i hi) rfl rfl
set_option maxRecDepth 20000 in
set_option maxHeartbeats 4000000 in
theorem s4_ended (l : Launch) (d : Nat) (h : MH) (n w : Nat) (K : KK) (cl P : Nat → Int32) (pn : Nat) (hw : WoodAt h w K cl P pn) : Sp l mX4_ended d [.ref w] h n 0 0 (Pv (bI (endB K)) h n) := by
  obtain ⟨hw0, ⟨gr, hgr, egr⟩, ⟨ru, hru, eru⟩, ⟨pq, hpf, epf⟩, hpl, ⟨fl, hfl, efl⟩, ⟨ca, hca, eca⟩, ⟨wa, hwa⟩, hpp, hhd⟩ := id hw
  show V _ _ _ _ [some (.ref w)] _ _ _ _ _ _
  refine V.aload_n dX4_ended_0 rfl ?_
  refine V.getf dX4_ended_1 fl_X4_61 hw0 rfl ?_
  refine V.iconst (v := nI 2) dX4_ended_4 (by decide) ?_
  refine V.icmp_ne (tgt := 21) dX4_ended_5 (by decide) (fun c5 => ?_) (fun c5 => ?_)
  · refine V.iconst (v := nI 1) dX4_ended_21 (by decide) ?_
    refine V.goto (tgt := 26) dX4_ended_22 (by decide) ?_
    exact V.iretZ (by exact dX4_ended_26) rfl (by (try simp only [← Int32.not_le, Classical.not_not] at *); simp only [endB, ← Int32.not_le, c5, not_true_eq_false, not_false_eq_true, if_true, if_false, decide_true, decide_false, Bool.and_true, Bool.and_false, Bool.true_and, Bool.false_and, Bool.or_true, Bool.or_false, Bool.true_or, Bool.false_or, Bool.not_true, Bool.not_false, and_true, and_false, true_and, false_and, or_true, or_false, true_or, false_or, bIt, bIf, Bool.false_eq_true, reduceCtorEq]) rfl
  · refine V.aload_n dX4_ended_8 rfl ?_
    refine V.getf dX4_ended_9 fl_X4_58 hw0 rfl ?_
    refine V.aload_n dX4_ended_12 rfl ?_
    refine V.getf dX4_ended_13 fl_X4_15 hw0 rfl ?_
    refine V.iconst (v := nI 5) dX4_ended_16 (by decide) ?_
    refine V.ialdN dX4_ended_17 hru (by omega) (by decide) ?_
    rw [eru _ (by omega)]
    refine V.icmp_lt (tgt := 25) dX4_ended_18 (by decide) (fun c18 => ?_) (fun c18 => ?_)
    · refine V.iconst (v := nI 0) dX4_ended_25 (by decide) ?_
      exact V.iretZ (by exact dX4_ended_26) rfl (by (try simp only [← Int32.not_le, Classical.not_not] at *); simp only [endB, ← Int32.not_le, eq_true c5, c18, not_true_eq_false, not_false_eq_true, if_true, if_false, decide_true, decide_false, Bool.and_true, Bool.and_false, Bool.true_and, Bool.false_and, Bool.or_true, Bool.or_false, Bool.true_or, Bool.false_or, Bool.not_true, Bool.not_false, and_true, and_false, true_and, false_and, or_true, or_false, true_or, false_or, bIt, bIf, Bool.false_eq_true, reduceCtorEq]) rfl
    · refine V.iconst (v := nI 1) dX4_ended_21 (by decide) ?_
      refine V.goto (tgt := 26) dX4_ended_22 (by decide) ?_
      exact V.iretZ (by exact dX4_ended_26) rfl (by (try simp only [← Int32.not_le, Classical.not_not] at *); simp only [endB, ← Int32.not_le, eq_true c5, c18, not_true_eq_false, not_false_eq_true, if_true, if_false, decide_true, decide_false, Bool.and_true, Bool.and_false, Bool.true_and, Bool.false_and, Bool.or_true, Bool.or_false, Bool.true_or, Bool.false_or, Bool.not_true, Bool.not_false, and_true, and_false, true_and, false_and, or_true, or_false, true_or, false_or, bIt, bIf, Bool.false_eq_true, reduceCtorEq]) rfl
set_option maxRecDepth 20000 in
set_option maxHeartbeats 4000000 in
theorem s4_isInRing (l : Launch) (d : Nat) (h : MH) (n w : Nat) (K : KK) (cl P : Nat → Int32) (pn : Nat) (hw : WoodAt h w K cl P pn) (s c : Int32) : Sp l mX4_isInRing (d + 1) [.ref w, .int s, .int c] h n 0 0 (Pv (bI (ring K s c)) h n) := by
  obtain ⟨hw0, ⟨gr, hgr, egr⟩, ⟨ru, hru, eru⟩, ⟨pq, hpf, epf⟩, hpl, ⟨fl, hfl, efl⟩, ⟨ca, hca, eca⟩, ⟨wa, hwa⟩, hpp, hhd⟩ := id hw
  show V _ _ _ _ [some (.ref w), some (.int s), some (.int c)] _ _ _ _ _ _
  refine V.iload_n dX4_isInRing_0 rfl ?_
  refine V.iload_n dX4_isInRing_1 rfl ?_
  refine V.callSv [_] dX4_isInRing_2 lk_X4_94 rfl (Nat.le_of_ble_eq_true rfl) (Nat.le_of_ble_eq_true rfl) (s5_flagPlaceOf _ _ _ _ _) ?_
  refine V.callSv [_, _] dX4_isInRing_5 lk_X4_142 rfl (Nat.le_of_ble_eq_true rfl) (Nat.le_of_ble_eq_true rfl) (s5_between _ _ _ _ _ _) ?_
  refine V.aload_n dX4_isInRing_8 rfl ?_
  refine V.getf dX4_isInRing_9 fl_X4_15 hw0 rfl ?_
  refine V.iconst (v := nI 0) dX4_isInRing_12 (by decide) ?_
  refine V.ialdN dX4_isInRing_13 hru (by omega) (by decide) ?_
  rw [eru _ (by omega)]
  refine V.icmp_gt (tgt := 21) dX4_isInRing_14 (by decide) (fun c14 => ?_) (fun c14 => ?_)
  · refine V.iconst (v := nI 0) dX4_isInRing_21 (by decide) ?_
    exact V.iretZ (by exact dX4_isInRing_22) rfl (by (try simp only [← Int32.not_le, Classical.not_not] at *); simp only [ring, ← Int32.not_le, c14, not_true_eq_false, not_false_eq_true, if_true, if_false, decide_true, decide_false, Bool.and_true, Bool.and_false, Bool.true_and, Bool.false_and, Bool.or_true, Bool.or_false, Bool.true_or, Bool.false_or, Bool.not_true, Bool.not_false, and_true, and_false, true_and, false_and, or_true, or_false, true_or, false_or, bIt, bIf, Bool.false_eq_true, reduceCtorEq]) rfl
  · refine V.iconst (v := nI 1) dX4_isInRing_17 (by decide) ?_
    refine V.goto (tgt := 22) dX4_isInRing_18 (by decide) ?_
    exact V.iretZ (by exact dX4_isInRing_22) rfl (by (try simp only [← Int32.not_le, Classical.not_not] at *); simp only [ring, ← Int32.not_le, c14, not_true_eq_false, not_false_eq_true, if_true, if_false, decide_true, decide_false, Bool.and_true, Bool.and_false, Bool.true_and, Bool.false_and, Bool.or_true, Bool.or_false, Bool.true_or, Bool.false_or, Bool.not_true, Bool.not_false, and_true, and_false, true_and, false_and, or_true, or_false, true_or, false_or, bIt, bIf, Bool.false_eq_true, reduceCtorEq]) rfl
set_option maxRecDepth 20000 in
set_option maxHeartbeats 4000000 in
theorem s4_isGuard (l : Launch) (d : Nat) (k : Int32) (h : MH) (n : Nat) : Sp l mX4_isGuard d [.int k] h n 0 0 (Pv (bI (decide (k = nI 1 ∨ k = nI 5 ∨ k = nI 7))) h n) := by
  show V _ _ _ _ [some (.int k)] _ _ _ _ _ _
  refine V.iload_n dX4_isGuard_0 rfl ?_
  refine V.iconst (v := nI 1) dX4_isGuard_1 (by decide) ?_
  refine V.icmp_eq (tgt := 16) dX4_isGuard_2 (by decide) (fun c2 => ?_) (fun c2 => ?_)
  · refine V.iconst (v := nI 1) dX4_isGuard_16 (by decide) ?_
    refine V.goto (tgt := 21) dX4_isGuard_17 (by decide) ?_
    exact V.iretZ (by exact dX4_isGuard_21) rfl (by simp only [not_true_eq_false, eq_true c2, not_true_eq_false, not_false_eq_true, if_true, if_false, decide_true, decide_false, Bool.and_true, Bool.and_false, Bool.true_and, Bool.false_and, Bool.or_true, Bool.or_false, Bool.true_or, Bool.false_or, Bool.not_true, Bool.not_false, and_true, and_false, true_and, false_and, or_true, or_false, true_or, false_or, bIt, bIf, Bool.false_eq_true, reduceCtorEq]) rfl
  · refine V.iload_n dX4_isGuard_5 rfl ?_
    refine V.iconst (v := nI 5) dX4_isGuard_6 (by decide) ?_
    refine V.icmp_eq (tgt := 16) dX4_isGuard_7 (by decide) (fun c7 => ?_) (fun c7 => ?_)
    · refine V.iconst (v := nI 1) dX4_isGuard_16 (by decide) ?_
      refine V.goto (tgt := 21) dX4_isGuard_17 (by decide) ?_
      exact V.iretZ (by exact dX4_isGuard_21) rfl (by simp only [not_true_eq_false, c2, eq_true c7, not_true_eq_false, not_false_eq_true, if_true, if_false, decide_true, decide_false, Bool.and_true, Bool.and_false, Bool.true_and, Bool.false_and, Bool.or_true, Bool.or_false, Bool.true_or, Bool.false_or, Bool.not_true, Bool.not_false, and_true, and_false, true_and, false_and, or_true, or_false, true_or, false_or, bIt, bIf, Bool.false_eq_true, reduceCtorEq]) rfl
    · refine V.iload_n dX4_isGuard_10 rfl ?_
      refine V.bipush (v := nI 7) dX4_isGuard_11 (by decide) ?_
      refine V.icmp_ne (tgt := 20) dX4_isGuard_13 (by decide) (fun c13 => ?_) (fun c13 => ?_)
      · refine V.iconst (v := nI 0) dX4_isGuard_20 (by decide) ?_
        exact V.iretZ (by exact dX4_isGuard_21) rfl (by simp only [not_true_eq_false, c2, c7, c13, not_true_eq_false, not_false_eq_true, if_true, if_false, decide_true, decide_false, Bool.and_true, Bool.and_false, Bool.true_and, Bool.false_and, Bool.or_true, Bool.or_false, Bool.true_or, Bool.false_or, Bool.not_true, Bool.not_false, and_true, and_false, true_and, false_and, or_true, or_false, true_or, false_or, bIt, bIf, Bool.false_eq_true, reduceCtorEq]) rfl
      · refine V.iconst (v := nI 1) dX4_isGuard_16 (by decide) ?_
        refine V.goto (tgt := 21) dX4_isGuard_17 (by decide) ?_
        exact V.iretZ (by exact dX4_isGuard_21) rfl (by simp only [not_true_eq_false, c2, c7, eq_true c13, not_true_eq_false, not_false_eq_true, if_true, if_false, decide_true, decide_false, Bool.and_true, Bool.and_false, Bool.true_and, Bool.false_and, Bool.or_true, Bool.or_false, Bool.true_or, Bool.false_or, Bool.not_true, Bool.not_false, and_true, and_false, true_and, false_and, or_true, or_false, true_or, false_or, bIt, bIf, Bool.false_eq_true, reduceCtorEq]) rfl
set_option maxRecDepth 20000 in
set_option maxHeartbeats 4000000 in
theorem s4_carries (l : Launch) (d : Nat) (h : MH) (n w : Nat) (K : KK) (cl P : Nat → Int32) (pn : Nat) (hw : WoodAt h w K cl P pn) (p e : Nat) (hp : p < 10) (he : e < 2) (hs : gP K p 0 = nI e) : Sp l mX4_carries d [.ref w, .int (nI p)] h n 0 0 (Pv (bI (decide (K (97 + 2 * (1 - e)) = nI p))) h n) := by
  obtain ⟨hw0, ⟨gr, hgr, egr⟩, ⟨ru, hru, eru⟩, ⟨pq, hpf, epf⟩, hpl, ⟨fl, hfl, efl⟩, ⟨ca, hca, eca⟩, ⟨wa, hwa⟩, hpp, hhd⟩ := id hw
  show V _ _ _ _ [some (.ref w), some (.int (nI p))] _ _ _ _ _ _
  refine V.aload_n dX4_carries_0 rfl ?_
  refine V.getf dX4_carries_1 fl_X4_30 hw0 rfl ?_
  refine V.iconst (v := nI 1) dX4_carries_4 (by decide) ?_
  refine V.aload_n dX4_carries_5 rfl ?_
  refine V.getf dX4_carries_6 fl_X4_20 hw0 rfl ?_
  refine V.iload_n dX4_carries_9 rfl ?_
  refine V.aaldN dX4_carries_10 (Or.inl rfl) hpf (by omega) (by decide) (epf _ (by omega)) ?_
  refine V.getf dX4_carries_11 fl_X4_104 (hpp _ (by omega)) rfl ?_
  rw [hs]
  refine V.isubN dX4_carries_14 (by omega) ?_
  refine V.ialdN dX4_carries_15 hca (by omega) (by decide) ?_
  rw [eca _ (by omega)]
  refine V.iload_n dX4_carries_16 rfl ?_
  refine V.icmp_ne (tgt := 24) dX4_carries_17 (by decide) (fun c17 => ?_) (fun c17 => ?_)
  · refine V.iconst (v := nI 0) dX4_carries_24 (by decide) ?_
    exact V.iretZ (by exact dX4_carries_25) rfl (by simp only [not_true_eq_false, c17, not_true_eq_false, not_false_eq_true, if_true, if_false, decide_true, decide_false, Bool.and_true, Bool.and_false, Bool.true_and, Bool.false_and, Bool.or_true, Bool.or_false, Bool.true_or, Bool.false_or, Bool.not_true, Bool.not_false, and_true, and_false, true_and, false_and, or_true, or_false, true_or, false_or, bIt, bIf, Bool.false_eq_true, reduceCtorEq]) rfl
  · refine V.iconst (v := nI 1) dX4_carries_20 (by decide) ?_
    refine V.goto (tgt := 25) dX4_carries_21 (by decide) ?_
    exact V.iretZ (by exact dX4_carries_25) rfl (by simp only [not_true_eq_false, eq_true c17, not_true_eq_false, not_false_eq_true, if_true, if_false, decide_true, decide_false, Bool.and_true, Bool.and_false, Bool.true_and, Bool.false_and, Bool.or_true, Bool.or_false, Bool.true_or, Bool.false_or, Bool.not_true, Bool.not_false, and_true, and_false, true_and, false_and, or_true, or_false, true_or, false_or, bIt, bIf, Bool.false_eq_true, reduceCtorEq]) rfl
set_option maxRecDepth 20000 in
set_option maxHeartbeats 4000000 in
theorem s4_groundOf (l : Launch) (d : Nat) (h : MH) (n w : Nat) (K : KK) (cl P : Nat → Int32) (pn : Nat) (hw : WoodAt h w K cl P pn) (c : Nat) (hc : c < 84) : Sp l mX4_groundOf d [.ref w, .int (nI c)] h n 0 0 (Pv (K c) h n) := by
  obtain ⟨hw0, ⟨gr, hgr, egr⟩, ⟨ru, hru, eru⟩, ⟨pq, hpf, epf⟩, hpl, ⟨fl, hfl, efl⟩, ⟨ca, hca, eca⟩, ⟨wa, hwa⟩, hpp, hhd⟩ := id hw
  show V _ _ _ _ [some (.ref w), some (.int (nI c))] _ _ _ _ _ _
  refine V.iload_n dX4_groundOf_0 rfl ?_
  refine V.if_lt (tgt := 19) dX4_groundOf_1 (by decide) (fun q => by rw [i0] at q; exact absurd ((nI_ltI (by omega) (by omega)).mp q) (by omega)) (fun _ => ?_)
  refine V.iload_n dX4_groundOf_4 rfl ?_
  refine V.bipush (v := nI 84) dX4_groundOf_5 (by decide) ?_
  refine V.icmp_geN (tgt := 19) dX4_groundOf_7 (by decide) (by omega) (by omega) (fun q => absurd q (by omega)) (fun _ => ?_)
  refine V.aload_n dX4_groundOf_10 rfl ?_
  refine V.getf dX4_groundOf_11 fl_X4_9 hw0 rfl ?_
  refine V.iload_n dX4_groundOf_14 rfl ?_
  refine V.ialdN dX4_groundOf_15 hgr (by omega) (by decide) ?_
  rw [egr _ (by omega)]
  refine V.goto (tgt := 20) dX4_groundOf_16 (by decide) ?_
  exact V.iretP (by exact dX4_groundOf_20) rfl rfl rfl
set_option maxRecDepth 20000 in
set_option maxHeartbeats 4000000 in
theorem s4_spots (l : Launch) (d : Nat) (h : MH) (n w : Nat) (K : KK) (cl P : Nat → Int32) (pn : Nat) (hw : WoodAt h w K cl P pn) (p : Nat) (c : Nat) (hp : p < 10) (hc : c < 84) (hcp : cAt K cl p = gP K p 4) : Sp l mX4_spots (d + 1) [.ref w, .ref (w + 8 + p), .int (nI c)] h n 0 0 (Pv (bI (seB K p (nI c))) h n) := by
  obtain ⟨hw0, ⟨gr, hgr, egr⟩, ⟨ru, hru, eru⟩, ⟨pq, hpf, epf⟩, hpl, ⟨fl, hfl, efl⟩, ⟨ca, hca, eca⟩, ⟨wa, hwa⟩, hpp, hhd⟩ := id hw
  show V _ _ _ _ [some (.ref w), some (.ref (w + 8 + p)), some (.int (nI c))] _ _ _ _ _ _
  refine V.aload_n dX4_spots_0 rfl ?_
  refine V.getf dX4_spots_1 fl_X4_139 (hpp _ (by omega)) rfl ?_
  (try rw [hcp])
  (try rw [hcq])
  refine V.iload_n dX4_spots_4 rfl ?_
  refine V.callSv [_, _] dX4_spots_5 lk_X4_142 rfl (Nat.le_of_ble_eq_true rfl) (Nat.le_of_ble_eq_true rfl) (s5_between _ _ _ _ _ _) ?_
  refine V.aload_n dX4_spots_8 rfl ?_
  refine V.iload_n dX4_spots_9 rfl ?_
  refine V.callVv [_] dX4_spots_10 lk_X4_119 rfl (Nat.le_of_ble_eq_true rfl) (Nat.le_of_ble_eq_true rfl) hw0 rfl (s4_groundOf _ _ _ _ _ _ _ _ _ hw _ (by omega)) ?_
  refine V.iconst (v := nI 1) dX4_spots_13 (by decide) ?_
  refine V.icmp_ne (tgt := 21) dX4_spots_14 (by decide) (fun c14 => ?_) (fun c14 => ?_)
  · refine V.iconst (v := nI 4) dX4_spots_21 (by decide) ?_
    refine V.icmp_gt (tgt := 29) dX4_spots_22 (by decide) (fun c22 => ?_) (fun c22 => ?_)
    · refine V.iconst (v := nI 0) dX4_spots_29 (by decide) ?_
      exact V.iretZ (by exact dX4_spots_30) rfl (by (try simp only [← Int32.not_le, Classical.not_not] at *); simp only [seB, clampI (show c < 2147483648 by omega), ← Int32.not_le, c14, c22, not_true_eq_false, not_false_eq_true, if_true, if_false, decide_true, decide_false, Bool.and_true, Bool.and_false, Bool.true_and, Bool.false_and, Bool.or_true, Bool.or_false, Bool.true_or, Bool.false_or, Bool.not_true, Bool.not_false, and_true, and_false, true_and, false_and, or_true, or_false, true_or, false_or, bIt, bIf, Bool.false_eq_true, reduceCtorEq]) rfl
    · refine V.iconst (v := nI 1) dX4_spots_25 (by decide) ?_
      refine V.goto (tgt := 30) dX4_spots_26 (by decide) ?_
      exact V.iretZ (by exact dX4_spots_30) rfl (by (try simp only [← Int32.not_le, Classical.not_not] at *); simp only [seB, clampI (show c < 2147483648 by omega), ← Int32.not_le, c14, c22, not_true_eq_false, not_false_eq_true, if_true, if_false, decide_true, decide_false, Bool.and_true, Bool.and_false, Bool.true_and, Bool.false_and, Bool.or_true, Bool.or_false, Bool.true_or, Bool.false_or, Bool.not_true, Bool.not_false, and_true, and_false, true_and, false_and, or_true, or_false, true_or, false_or, bIt, bIf, Bool.false_eq_true, reduceCtorEq]) rfl
  · refine V.iconst (v := nI 1) dX4_spots_17 (by decide) ?_
    refine V.goto (tgt := 22) dX4_spots_18 (by decide) ?_
    refine V.icmp_gt (tgt := 29) dX4_spots_22 (by decide) (fun c22 => ?_) (fun c22 => ?_)
    · refine V.iconst (v := nI 0) dX4_spots_29 (by decide) ?_
      exact V.iretZ (by exact dX4_spots_30) rfl (by (try simp only [← Int32.not_le, Classical.not_not] at *); simp only [seB, clampI (show c < 2147483648 by omega), ← Int32.not_le, eq_true c14, c22, not_true_eq_false, not_false_eq_true, if_true, if_false, decide_true, decide_false, Bool.and_true, Bool.and_false, Bool.true_and, Bool.false_and, Bool.or_true, Bool.or_false, Bool.true_or, Bool.false_or, Bool.not_true, Bool.not_false, and_true, and_false, true_and, false_and, or_true, or_false, true_or, false_or, bIt, bIf, Bool.false_eq_true, reduceCtorEq]) rfl
    · refine V.iconst (v := nI 1) dX4_spots_25 (by decide) ?_
      refine V.goto (tgt := 30) dX4_spots_26 (by decide) ?_
      exact V.iretZ (by exact dX4_spots_30) rfl (by (try simp only [← Int32.not_le, Classical.not_not] at *); simp only [seB, clampI (show c < 2147483648 by omega), ← Int32.not_le, eq_true c14, c22, not_true_eq_false, not_false_eq_true, if_true, if_false, decide_true, decide_false, Bool.and_true, Bool.and_false, Bool.true_and, Bool.false_and, Bool.or_true, Bool.or_false, Bool.true_or, Bool.false_or, Bool.not_true, Bool.not_false, and_true, and_false, true_and, false_and, or_true, or_false, true_or, false_or, bIt, bIf, Bool.false_eq_true, reduceCtorEq]) rfl
set_option maxRecDepth 20000 in
set_option maxHeartbeats 4000000 in
theorem s4_mayEnter (l : Launch) (d : Nat) (h : MH) (n w : Nat) (K : KK) (cl P : Nat → Int32) (pn : Nat) (hw : WoodAt h w K cl P pn) (p c : Nat) (hp : p < 10) (hc : c < 84) (hcp : cAt K cl p = gP K p 4) : Sp l mX4_mayEnter (d + 1) [.ref w, .ref (w + 8 + p), .int (nI c)] h n 0 0 (Pv (bI (!decide (K c = nI 3) && (!ring K (gP K p 0) (nI c) || ring K (gP K p 0) (gP K p 4)))) h n) := by
  obtain ⟨hw0, ⟨gr, hgr, egr⟩, ⟨ru, hru, eru⟩, ⟨pq, hpf, epf⟩, hpl, ⟨fl, hfl, efl⟩, ⟨ca, hca, eca⟩, ⟨wa, hwa⟩, hpp, hhd⟩ := id hw
  show V _ _ _ _ [some (.ref w), some (.ref (w + 8 + p)), some (.int (nI c)), none] _ _ _ _ _ _
  refine V.aload_n dX4_mayEnter_0 rfl ?_
  refine V.iload_n dX4_mayEnter_1 rfl ?_
  refine V.callVv [_] dX4_mayEnter_2 lk_X4_119 rfl (Nat.le_of_ble_eq_true rfl) (Nat.le_of_ble_eq_true rfl) hw0 rfl (s4_groundOf _ _ _ _ _ _ _ _ _ hw _ (by omega)) ?_
  refine V.iconst (v := nI 3) dX4_mayEnter_5 (by decide) ?_
  refine V.icmp_ne (tgt := 11) dX4_mayEnter_6 (by decide) (fun c6 => ?_) (fun c6 => ?_)
  · refine V.aload_n dX4_mayEnter_11 rfl ?_
    refine V.getf dX4_mayEnter_12 fl_X4_104 (hpp _ (by omega)) rfl ?_
    refine V.callSv [_] dX4_mayEnter_15 lk_X4_94 rfl (Nat.le_of_ble_eq_true rfl) (Nat.le_of_ble_eq_true rfl) (s5_flagPlaceOf _ _ _ _ _) ?_
    refine V.ist3 dX4_mayEnter_18 (by decide) rfl ?_
    refine V.iload_n dX4_mayEnter_19 rfl ?_
    refine V.iload_n dX4_mayEnter_20 rfl ?_
    refine V.callSv [_, _] dX4_mayEnter_21 lk_X4_142 rfl (Nat.le_of_ble_eq_true rfl) (Nat.le_of_ble_eq_true rfl) (s5_between _ _ _ _ _ _) ?_
    refine V.aload_n dX4_mayEnter_24 rfl ?_
    refine V.getf dX4_mayEnter_25 fl_X4_15 hw0 rfl ?_
    refine V.iconst (v := nI 0) dX4_mayEnter_28 (by decide) ?_
    refine V.ialdN dX4_mayEnter_29 hru (by omega) (by decide) ?_
    rw [eru _ (by omega)]
    refine V.icmp_gt (tgt := 50) dX4_mayEnter_30 (by decide) (fun c30 => ?_) (fun c30 => ?_)
    · refine V.iconst (v := nI 1) dX4_mayEnter_50 (by decide) ?_
      refine V.goto (tgt := 55) dX4_mayEnter_51 (by decide) ?_
      exact V.iretZ (by exact dX4_mayEnter_55) rfl (by (try simp only [← Int32.not_le, Classical.not_not] at *); simp only [ring, ← Int32.not_le, c6, c30, not_true_eq_false, not_false_eq_true, if_true, if_false, decide_true, decide_false, Bool.and_true, Bool.and_false, Bool.true_and, Bool.false_and, Bool.or_true, Bool.or_false, Bool.true_or, Bool.false_or, Bool.not_true, Bool.not_false, and_true, and_false, true_and, false_and, or_true, or_false, true_or, false_or, bIt, bIf, Bool.false_eq_true, reduceCtorEq]) rfl
    · refine V.aload_n dX4_mayEnter_33 rfl ?_
      refine V.getf dX4_mayEnter_34 fl_X4_139 (hpp _ (by omega)) rfl ?_
      (try rw [hcp])
      (try rw [hcq])
      refine V.iload_n dX4_mayEnter_37 rfl ?_
      refine V.callSv [_, _] dX4_mayEnter_38 lk_X4_142 rfl (Nat.le_of_ble_eq_true rfl) (Nat.le_of_ble_eq_true rfl) (s5_between _ _ _ _ _ _) ?_
      refine V.aload_n dX4_mayEnter_41 rfl ?_
      refine V.getf dX4_mayEnter_42 fl_X4_15 hw0 rfl ?_
      refine V.iconst (v := nI 0) dX4_mayEnter_45 (by decide) ?_
      refine V.ialdN dX4_mayEnter_46 hru (by omega) (by decide) ?_
      rw [eru _ (by omega)]
      refine V.icmp_gt (tgt := 54) dX4_mayEnter_47 (by decide) (fun c47 => ?_) (fun c47 => ?_)
      · refine V.iconst (v := nI 0) dX4_mayEnter_54 (by decide) ?_
        exact V.iretZ (by exact dX4_mayEnter_55) rfl (by (try simp only [← Int32.not_le, Classical.not_not] at *); simp only [ring, ← Int32.not_le, c6, c30, c47, not_true_eq_false, not_false_eq_true, if_true, if_false, decide_true, decide_false, Bool.and_true, Bool.and_false, Bool.true_and, Bool.false_and, Bool.or_true, Bool.or_false, Bool.true_or, Bool.false_or, Bool.not_true, Bool.not_false, and_true, and_false, true_and, false_and, or_true, or_false, true_or, false_or, bIt, bIf, Bool.false_eq_true, reduceCtorEq]) rfl
      · refine V.iconst (v := nI 1) dX4_mayEnter_50 (by decide) ?_
        refine V.goto (tgt := 55) dX4_mayEnter_51 (by decide) ?_
        exact V.iretZ (by exact dX4_mayEnter_55) rfl (by (try simp only [← Int32.not_le, Classical.not_not] at *); simp only [ring, ← Int32.not_le, c6, c30, c47, not_true_eq_false, not_false_eq_true, if_true, if_false, decide_true, decide_false, Bool.and_true, Bool.and_false, Bool.true_and, Bool.false_and, Bool.or_true, Bool.or_false, Bool.true_or, Bool.false_or, Bool.not_true, Bool.not_false, and_true, and_false, true_and, false_and, or_true, or_false, true_or, false_or, bIt, bIf, Bool.false_eq_true, reduceCtorEq]) rfl
  · refine V.iconst (v := nI 0) dX4_mayEnter_9 (by decide) ?_
    exact V.iretZ (by exact dX4_mayEnter_10) rfl (by (try simp only [← Int32.not_le, Classical.not_not] at *); simp only [ring, ← Int32.not_le, eq_true c6, not_true_eq_false, not_false_eq_true, if_true, if_false, decide_true, decide_false, Bool.and_true, Bool.and_false, Bool.true_and, Bool.false_and, Bool.or_true, Bool.or_false, Bool.true_or, Bool.false_or, Bool.not_true, Bool.not_false, and_true, and_false, true_and, false_and, or_true, or_false, true_or, false_or, bIt, bIf, Bool.false_eq_true, reduceCtorEq]) rfl
set_option maxRecDepth 20000 in
set_option maxHeartbeats 4000000 in
theorem s4_heldOf_loop (l : Launch) (d : Nat) (h : MH) (n w : Nat) (K : KK) (cl P : Nat → Int32) (pn : Nat) (hw : WoodAt h w K cl P pn) (s : Int32) (m : Nat) (hm : K 90 = nI m) (hm10 : m ≤ 10) : ∀ (r p : Nat), p + r = m → V l mX4_heldOf d 4 [some (.ref w), some (.int s), some (.int (nI (cntH K s p))), some (.int (nI p))] [] h n 0 0 (Pv (nI (cntH K s m)) h n) := by
  obtain ⟨hw0, ⟨gr, hgr, egr⟩, ⟨ru, hru, eru⟩, ⟨pq, hpf, epf⟩, hpl, ⟨fl, hfl, efl⟩, ⟨ca, hca, eca⟩, ⟨wa, hwa⟩, hpp, hhd⟩ := id hw
  intro r
  induction r with
  | zero =>
    intro p hp
    refine V.iload_n dX4_heldOf_4 rfl ?_
    refine V.aload_n dX4_heldOf_5 rfl ?_
    refine V.getf dX4_heldOf_6 fl_X4_51 hw0 rfl ?_
    rw [hm]
    refine V.icmp_geN (tgt := 46) dX4_heldOf_9 (by decide) (by omega) (by omega) (fun _ => ?_) (fun q => absurd q (by omega))
    refine V.iload_n dX4_heldOf_46 rfl ?_
    exact V.iretP (by exact dX4_heldOf_47) rfl (by rw [show p = m by omega]) rfl
  | succ r ih =>
    intro p hp
    refine V.iload_n dX4_heldOf_4 rfl ?_
    refine V.aload_n dX4_heldOf_5 rfl ?_
    refine V.getf dX4_heldOf_6 fl_X4_51 hw0 rfl ?_
    rw [hm]
    refine V.icmp_geN (tgt := 46) dX4_heldOf_9 (by decide) (by omega) (by omega) (fun q => absurd q (by omega)) (fun _ => ?_)
    refine V.aload_n dX4_heldOf_12 rfl ?_
    refine V.getf dX4_heldOf_13 fl_X4_20 hw0 rfl ?_
    refine V.iload_n dX4_heldOf_16 rfl ?_
    refine V.aaldN dX4_heldOf_17 (Or.inl rfl) hpf (by omega) (by decide) (epf _ (by omega)) ?_
    refine V.getf dX4_heldOf_18 fl_X4_104 (hpp _ (by omega)) rfl ?_
    refine V.iload_n dX4_heldOf_21 rfl ?_
    refine V.icmp_ne (tgt := 40) dX4_heldOf_22 (by decide) (fun c22 => ?_) (fun c22 => ?_)
    · refine V.inN3 dX4_heldOf_40 (by decide) rfl ?_
      refine V.goto (tgt := 4) dX4_heldOf_43 (by decide) ?_
      exact V.ls (by (try simp only [decide_eq_true_eq, decide_eq_false_iff_not] at c22); simp only [cntH, c22, not_true_eq_false, not_false_eq_true, if_true, if_false, decide_true, decide_false, Bool.and_true, Bool.and_false, Bool.true_and, Bool.false_and, Bool.or_true, Bool.or_false, Bool.true_or, Bool.false_or, Bool.not_true, Bool.not_false, and_true, and_false, true_and, false_and, or_true, or_false, true_or, false_or, bIt, bIf, Bool.false_eq_true, reduceCtorEq, Nat.add_zero] <;> rfl) (ih (p + 1) (by omega))
    · refine V.aload_n dX4_heldOf_25 rfl ?_
      refine V.getf dX4_heldOf_26 fl_X4_20 hw0 rfl ?_
      refine V.iload_n dX4_heldOf_29 rfl ?_
      refine V.aaldN dX4_heldOf_30 (Or.inl rfl) hpf (by omega) (by decide) (epf _ (by omega)) ?_
      refine V.getf dX4_heldOf_31 fl_X4_131 (hpp _ (by omega)) rfl ?_
      refine V.if_eqB (tgt := 40) dX4_heldOf_34 (by decide) (fun c34 => ?_) (fun c34 => ?_)
      · refine V.inN3 dX4_heldOf_40 (by decide) rfl ?_
        refine V.goto (tgt := 4) dX4_heldOf_43 (by decide) ?_
        exact V.ls (by (try simp only [decide_eq_true_eq, decide_eq_false_iff_not] at c22 c34); simp only [cntH, eq_true c22, c34, not_true_eq_false, not_false_eq_true, if_true, if_false, decide_true, decide_false, Bool.and_true, Bool.and_false, Bool.true_and, Bool.false_and, Bool.or_true, Bool.or_false, Bool.true_or, Bool.false_or, Bool.not_true, Bool.not_false, and_true, and_false, true_and, false_and, or_true, or_false, true_or, false_or, bIt, bIf, Bool.false_eq_true, reduceCtorEq, Nat.add_zero] <;> rfl) (ih (p + 1) (by omega))
      · refine V.inN2 dX4_heldOf_37 (by decide) rfl ?_
        refine V.inN3 dX4_heldOf_40 (by decide) rfl ?_
        refine V.goto (tgt := 4) dX4_heldOf_43 (by decide) ?_
        exact V.ls (by (try simp only [decide_eq_true_eq, decide_eq_false_iff_not] at c22 c34); simp only [cntH, eq_true c22, c34, not_true_eq_false, not_false_eq_true, if_true, if_false, decide_true, decide_false, Bool.and_true, Bool.and_false, Bool.true_and, Bool.false_and, Bool.or_true, Bool.or_false, Bool.true_or, Bool.false_or, Bool.not_true, Bool.not_false, and_true, and_false, true_and, false_and, or_true, or_false, true_or, false_or, bIt, bIf, Bool.false_eq_true, reduceCtorEq, Nat.add_zero] <;> rfl) (ih (p + 1) (by omega))
set_option maxRecDepth 20000 in
set_option maxHeartbeats 4000000 in
theorem s4_heldOf (l : Launch) (d : Nat) (h : MH) (n w : Nat) (K : KK) (cl P : Nat → Int32) (pn : Nat) (hw : WoodAt h w K cl P pn) (s : Int32) (m : Nat) (hm : K 90 = nI m) (hm10 : m ≤ 10) : Sp l mX4_heldOf d [.ref w, .int s] h n 0 0 (Pv (nI (cntH K s m)) h n) := by
  show V _ _ _ _ [some (.ref w), some (.int s), none, none] _ _ _ _ _ _
  refine V.iconst (v := nI 0) dX4_heldOf_0 (by decide) ?_
  refine V.ist2 dX4_heldOf_1 (by decide) rfl ?_
  refine V.iconst (v := nI 0) dX4_heldOf_2 (by decide) ?_
  refine V.ist3 dX4_heldOf_3 (by decide) rfl ?_
  exact s4_heldOf_loop l d h n w K cl P pn hw s m hm hm10 m 0 (by omega)
