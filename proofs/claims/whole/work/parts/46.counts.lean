/-- how many below a number -/
def cN (f : Nat → Bool) : Nat → Nat
  | 0 => 0
  | i + 1 => cN f i + (if f i = true then 1 else 0)
theorem cN_le (f : Nat → Bool) : ∀ m, cN f m ≤ m := by
  intro m
  induction m with
  | zero => exact Nat.le_refl 0
  | succ m ih => rw [cN]; split <;> omega
theorem cN_congr {f g : Nat → Bool} : ∀ {m : Nat}, (∀ i, i < m → f i = g i) → cN f m = cN g m := by
  intro m
  induction m with
  | zero => intro _; rfl
  | succ m ih => intro h; rw [cN, cN, ih (fun i hi => h i (by omega)), h m (by omega)]
def kpB (K : KK) (s : Int32) (i : Nat) : Bool := decide (gP K i 0 = s) && (frB K i && decide (nr (gP K i 4) (gl s) ≤ nI 2))
def wtB (K : KK) (s c : Int32) (i : Nat) : Bool := decide (gP K i 0 = s) && (frB K i && seB K i c)
set_option maxRecDepth 20000 in
set_option maxHeartbeats 4000000 in
theorem s4_playersOf_loop (l : Launch) (d : Nat) (h : MH) (n w : Nat) (K : KK) (cl P : Nat → Int32) (pn : Nat) (hw : WoodAt h w K cl P pn) (m : Nat) (hm : K 90 = nI m) (hm10 : m ≤ 10) (s : Int32) : ∀ (r i : Nat), i + r = m → V l mX4_playersOf d 4 [some (.ref w), some (.int s), some (.int (nI (cN (fun i => decide (gP K i 0 = s)) i))), some (.int (nI i))] [] h n 0 0 (Pv (nI (cN (fun i => decide (gP K i 0 = s)) m)) h n) := by
  intro r
  induction r with
  | zero =>
    intro i hi
    obtain ⟨hw0, ⟨gr, hgr, egr⟩, ⟨ru, hru, eru⟩, ⟨pq, hpf, epf⟩, hpl, ⟨fl, hfl, efl⟩, ⟨ca, hca, eca⟩, ⟨wa, hwa⟩, hpp, hhd⟩ := id hw
    refine V.iload_n dX4_playersOf_4 rfl ?_
    refine V.aload_n dX4_playersOf_5 rfl ?_
    refine V.getf dX4_playersOf_6 fl_X4_51 hw0 rfl ?_
    rw [hm]
    refine V.icmp_geN (tgt := 34) dX4_playersOf_9 (by decide) (by omega) (by omega) (fun _ => ?_) (fun q => absurd q (by omega))
    refine V.iload_n dX4_playersOf_34 rfl ?_
    exact V.iretP (by exact dX4_playersOf_35) rfl (by rw [show i = m by omega]) rfl
  | succ r ih =>
    intro i hi
    obtain ⟨hw0, ⟨gr, hgr, egr⟩, ⟨ru, hru, eru⟩, ⟨pq, hpf, epf⟩, hpl, ⟨fl, hfl, efl⟩, ⟨ca, hca, eca⟩, ⟨wa, hwa⟩, hpp, hhd⟩ := id hw
    refine V.iload_n dX4_playersOf_4 rfl ?_
    refine V.aload_n dX4_playersOf_5 rfl ?_
    refine V.getf dX4_playersOf_6 fl_X4_51 hw0 rfl ?_
    rw [hm]
    refine V.icmp_geN (tgt := 34) dX4_playersOf_9 (by decide) (by omega) (by omega) (fun q => absurd q (by omega)) (fun _ => ?_)
    refine V.aload_n dX4_playersOf_12 rfl ?_
    refine V.getf dX4_playersOf_13 fl_X4_20 hw0 rfl ?_
    refine V.iload_n dX4_playersOf_16 rfl ?_
    refine V.aaldN dX4_playersOf_17 (Or.inl rfl) hpf (by omega) (by decide) (epf _ (by omega)) ?_
    refine V.getf dX4_playersOf_18 fl_X4_104 (hpp _ (by omega)) rfl ?_
    refine V.iload_n dX4_playersOf_21 rfl ?_
    refine V.icmp_ne (tgt := 28) dX4_playersOf_22 (by decide) (fun c22 => ?_) (fun c22 => ?_)
    · refine V.inN3 dX4_playersOf_28 (by decide) rfl ?_
      refine V.goto (tgt := 4) dX4_playersOf_31 (by decide) ?_
      exact V.ls (by (try simp only [← Int32.not_le, Classical.not_not, decide_eq_true_eq, decide_eq_false_iff_not] at c22); simp only [cN, not_true_eq_false, ← Int32.not_le, c22, List.set_cons_succ, List.set_cons_zero, not_true_eq_false, not_false_eq_true, if_true, if_false, decide_true, decide_false, Bool.and_true, Bool.and_false, Bool.true_and, Bool.false_and, Bool.or_true, Bool.or_false, Bool.true_or, Bool.false_or, Bool.not_true, Bool.not_false, and_true, and_false, true_and, false_and, or_true, or_false, true_or, false_or, bIt, bIf, Bool.false_eq_true, reduceCtorEq, Nat.add_zero, Int32.add_zero, nI_add] <;> rfl) (ih (i + 1) (by omega))
    · refine V.inN2 dX4_playersOf_25 (by decide) rfl ?_
      refine V.inN3 dX4_playersOf_28 (by decide) rfl ?_
      refine V.goto (tgt := 4) dX4_playersOf_31 (by decide) ?_
      exact V.ls (by (try simp only [← Int32.not_le, Classical.not_not, decide_eq_true_eq, decide_eq_false_iff_not] at c22); simp only [cN, not_true_eq_false, ← Int32.not_le, eq_true c22, List.set_cons_succ, List.set_cons_zero, not_true_eq_false, not_false_eq_true, if_true, if_false, decide_true, decide_false, Bool.and_true, Bool.and_false, Bool.true_and, Bool.false_and, Bool.or_true, Bool.or_false, Bool.true_or, Bool.false_or, Bool.not_true, Bool.not_false, and_true, and_false, true_and, false_and, or_true, or_false, true_or, false_or, bIt, bIf, Bool.false_eq_true, reduceCtorEq, Nat.add_zero, Int32.add_zero, nI_add] <;> rfl) (ih (i + 1) (by omega))
set_option maxRecDepth 20000 in
set_option maxHeartbeats 4000000 in
theorem s4_playersOf (l : Launch) (d : Nat) (h : MH) (n w : Nat) (K : KK) (cl P : Nat → Int32) (pn : Nat) (hw : WoodAt h w K cl P pn) (m : Nat) (hm : K 90 = nI m) (hm10 : m ≤ 10) (s : Int32) : Sp l mX4_playersOf d [.ref w, .int s] h n 0 0 (Pv (nI (cN (fun i => decide (gP K i 0 = s)) m)) h n) := by
  show V _ _ _ _ [some (.ref w), some (.int s), none, none] _ _ _ _ _ _
  refine V.iconst (v := nI 0) dX4_playersOf_0 (by decide) ?_
  refine V.ist2 dX4_playersOf_1 (by decide) rfl ?_
  refine V.iconst (v := nI 0) dX4_playersOf_2 (by decide) ?_
  refine V.ist3 dX4_playersOf_3 (by decide) rfl ?_
  exact s4_playersOf_loop l d h n w K cl P pn hw m hm hm10 s m 0 (by omega)
set_option maxRecDepth 20000 in
set_option maxHeartbeats 4000000 in
theorem s4_cellsOf_loop (l : Launch) (d : Nat) (h : MH) (n w : Nat) (K : KK) (cl P : Nat → Int32) (pn : Nat) (hw : WoodAt h w K cl P pn) (s : Int32) : ∀ (r i : Nat), i + r = 84 → V l mX4_cellsOf d 4 [some (.ref w), some (.int s), some (.int (nI (cN (fun c => decide (K c = s)) i))), some (.int (nI i))] [] h n 0 0 (Pv (nI (cN (fun c => decide (K c = s)) 84)) h n) := by
  intro r
  induction r with
  | zero =>
    intro i hi
    obtain ⟨hw0, ⟨gr, hgr, egr⟩, ⟨ru, hru, eru⟩, ⟨pq, hpf, epf⟩, hpl, ⟨fl, hfl, efl⟩, ⟨ca, hca, eca⟩, ⟨wa, hwa⟩, hpp, hhd⟩ := id hw
    refine V.iload_n dX4_cellsOf_4 rfl ?_
    refine V.bipush (v := nI 84) dX4_cellsOf_5 (by decide) ?_
    refine V.icmp_geN (tgt := 29) dX4_cellsOf_7 (by decide) (by omega) (by omega) (fun _ => ?_) (fun q => absurd q (by omega))
    refine V.iload_n dX4_cellsOf_29 rfl ?_
    exact V.iretP (by exact dX4_cellsOf_30) rfl (by rw [show i = 84 by omega]) rfl
  | succ r ih =>
    intro i hi
    obtain ⟨hw0, ⟨gr, hgr, egr⟩, ⟨ru, hru, eru⟩, ⟨pq, hpf, epf⟩, hpl, ⟨fl, hfl, efl⟩, ⟨ca, hca, eca⟩, ⟨wa, hwa⟩, hpp, hhd⟩ := id hw
    refine V.iload_n dX4_cellsOf_4 rfl ?_
    refine V.bipush (v := nI 84) dX4_cellsOf_5 (by decide) ?_
    refine V.icmp_geN (tgt := 29) dX4_cellsOf_7 (by decide) (by omega) (by omega) (fun q => absurd q (by omega)) (fun _ => ?_)
    refine V.aload_n dX4_cellsOf_10 rfl ?_
    refine V.getf dX4_cellsOf_11 fl_X4_9 hw0 rfl ?_
    refine V.iload_n dX4_cellsOf_14 rfl ?_
    refine V.ialdN dX4_cellsOf_15 hgr (by omega) (by decide) ?_
    rw [egr _ (by omega)]
    refine V.iload_n dX4_cellsOf_16 rfl ?_
    refine V.icmp_ne (tgt := 23) dX4_cellsOf_17 (by decide) (fun c17 => ?_) (fun c17 => ?_)
    · refine V.inN3 dX4_cellsOf_23 (by decide) rfl ?_
      refine V.goto (tgt := 4) dX4_cellsOf_26 (by decide) ?_
      exact V.ls (by (try simp only [← Int32.not_le, Classical.not_not, decide_eq_true_eq, decide_eq_false_iff_not] at c17); simp only [cN, not_true_eq_false, ← Int32.not_le, c17, List.set_cons_succ, List.set_cons_zero, not_true_eq_false, not_false_eq_true, if_true, if_false, decide_true, decide_false, Bool.and_true, Bool.and_false, Bool.true_and, Bool.false_and, Bool.or_true, Bool.or_false, Bool.true_or, Bool.false_or, Bool.not_true, Bool.not_false, and_true, and_false, true_and, false_and, or_true, or_false, true_or, false_or, bIt, bIf, Bool.false_eq_true, reduceCtorEq, Nat.add_zero, Int32.add_zero, nI_add] <;> rfl) (ih (i + 1) (by omega))
    · refine V.inN2 dX4_cellsOf_20 (by decide) rfl ?_
      refine V.inN3 dX4_cellsOf_23 (by decide) rfl ?_
      refine V.goto (tgt := 4) dX4_cellsOf_26 (by decide) ?_
      exact V.ls (by (try simp only [← Int32.not_le, Classical.not_not, decide_eq_true_eq, decide_eq_false_iff_not] at c17); simp only [cN, not_true_eq_false, ← Int32.not_le, eq_true c17, List.set_cons_succ, List.set_cons_zero, not_true_eq_false, not_false_eq_true, if_true, if_false, decide_true, decide_false, Bool.and_true, Bool.and_false, Bool.true_and, Bool.false_and, Bool.or_true, Bool.or_false, Bool.true_or, Bool.false_or, Bool.not_true, Bool.not_false, and_true, and_false, true_and, false_and, or_true, or_false, true_or, false_or, bIt, bIf, Bool.false_eq_true, reduceCtorEq, Nat.add_zero, Int32.add_zero, nI_add] <;> rfl) (ih (i + 1) (by omega))
set_option maxRecDepth 20000 in
set_option maxHeartbeats 4000000 in
theorem s4_cellsOf (l : Launch) (d : Nat) (h : MH) (n w : Nat) (K : KK) (cl P : Nat → Int32) (pn : Nat) (hw : WoodAt h w K cl P pn) (s : Int32) : Sp l mX4_cellsOf d [.ref w, .int s] h n 0 0 (Pv (nI (cN (fun c => decide (K c = s)) 84)) h n) := by
  show V _ _ _ _ [some (.ref w), some (.int s), none, none] _ _ _ _ _ _
  refine V.iconst (v := nI 0) dX4_cellsOf_0 (by decide) ?_
  refine V.ist2 dX4_cellsOf_1 (by decide) rfl ?_
  refine V.iconst (v := nI 0) dX4_cellsOf_2 (by decide) ?_
  refine V.ist3 dX4_cellsOf_3 (by decide) rfl ?_
  exact s4_cellsOf_loop l d h n w K cl P pn hw s 84 0 (by omega)
set_option maxRecDepth 20000 in
set_option maxHeartbeats 4000000 in
theorem s4_keepersOf_loop (l : Launch) (d : Nat) (h : MH) (n w : Nat) (K : KK) (cl P : Nat → Int32) (pn : Nat) (hw : WoodAt h w K cl P pn) (m : Nat) (hm : K 90 = nI m) (hm10 : m ≤ 10) (s : Int32) : ∀ (r i : Nat), i + r = m → V l mX4_keepersOf (d + 1) 4 [some (.ref w), some (.int s), some (.int (nI (cN (kpB K s) i))), some (.int (nI i)), none] [] h n 0 0 (Pv (nI (cN (kpB K s) m)) h n) := by
  intro r
  induction r with
  | zero =>
    intro i hi
    obtain ⟨hw0, ⟨gr, hgr, egr⟩, ⟨ru, hru, eru⟩, ⟨pq, hpf, epf⟩, hpl, ⟨fl, hfl, efl⟩, ⟨ca, hca, eca⟩, ⟨wa, hwa⟩, hpp, hhd⟩ := id hw
    refine V.iload_n dX4_keepersOf_4 rfl ?_
    refine V.aload_n dX4_keepersOf_5 rfl ?_
    refine V.getf dX4_keepersOf_6 fl_X4_51 hw0 rfl ?_
    rw [hm]
    refine V.icmp_geN (tgt := 62) dX4_keepersOf_9 (by decide) (by omega) (by omega) (fun _ => ?_) (fun q => absurd q (by omega))
    refine V.iload_n dX4_keepersOf_62 rfl ?_
    exact V.iretP (by exact dX4_keepersOf_63) rfl (by rw [show i = m by omega]) rfl
  | succ r ih =>
    intro i hi
    obtain ⟨hw0, ⟨gr, hgr, egr⟩, ⟨ru, hru, eru⟩, ⟨pq, hpf, epf⟩, hpl, ⟨fl, hfl, efl⟩, ⟨ca, hca, eca⟩, ⟨wa, hwa⟩, hpp, hhd⟩ := id hw
    refine V.iload_n dX4_keepersOf_4 rfl ?_
    refine V.aload_n dX4_keepersOf_5 rfl ?_
    refine V.getf dX4_keepersOf_6 fl_X4_51 hw0 rfl ?_
    rw [hm]
    refine V.icmp_geN (tgt := 62) dX4_keepersOf_9 (by decide) (by omega) (by omega) (fun q => absurd q (by omega)) (fun _ => ?_)
    refine V.aload_n dX4_keepersOf_12 rfl ?_
    refine V.getf dX4_keepersOf_13 fl_X4_20 hw0 rfl ?_
    refine V.iload_n dX4_keepersOf_16 rfl ?_
    refine V.aaldN dX4_keepersOf_17 (Or.inl rfl) hpf (by omega) (by decide) (epf _ (by omega)) ?_
    refine V.ast4 dX4_keepersOf_18 (by decide) rfl ?_
    refine V.aload dX4_keepersOf_20 rfl ?_
    refine V.getf dX4_keepersOf_22 fl_X4_104 (hpp _ (by omega)) rfl ?_
    refine V.iload_n dX4_keepersOf_25 rfl ?_
    refine V.icmp_ne (tgt := 56) dX4_keepersOf_26 (by decide) (fun c26 => ?_) (fun c26 => ?_)
    · refine V.inN3 dX4_keepersOf_56 (by decide) rfl ?_
      refine V.goto (tgt := 4) dX4_keepersOf_59 (by decide) ?_
      exact V.drop 4 (V.ls (by (try simp only [← Int32.not_le, Classical.not_not, decide_eq_true_eq, decide_eq_false_iff_not] at c26); simp only [cN, kpB, ← Int32.not_le, c26, List.set_cons_succ, List.set_cons_zero, not_true_eq_false, not_false_eq_true, if_true, if_false, decide_true, decide_false, Bool.and_true, Bool.and_false, Bool.true_and, Bool.false_and, Bool.or_true, Bool.or_false, Bool.true_or, Bool.false_or, Bool.not_true, Bool.not_false, and_true, and_false, true_and, false_and, or_true, or_false, true_or, false_or, bIt, bIf, Bool.false_eq_true, reduceCtorEq, Nat.add_zero, Int32.add_zero, nI_add] <;> rfl) (ih (i + 1) (by omega)))
    · refine V.aload dX4_keepersOf_29 rfl ?_
      refine V.callVv [] dX4_keepersOf_31 lk_X4_135 rfl (Nat.le_of_ble_eq_true rfl) (Nat.le_of_ble_eq_true rfl) (hpp _ (by omega)) rfl (s0_isFree _ _ _ _ _ _ _ _ _ hw _ (by omega)) ?_
      refine V.if_eqB (tgt := 56) dX4_keepersOf_34 (by decide) (fun c34 => ?_) (fun c34 => ?_)
      · refine V.inN3 dX4_keepersOf_56 (by decide) rfl ?_
        refine V.goto (tgt := 4) dX4_keepersOf_59 (by decide) ?_
        exact V.drop 4 (V.ls (by (try simp only [← Int32.not_le, Classical.not_not, decide_eq_true_eq, decide_eq_false_iff_not] at c26 c34); simp only [cN, kpB, ← Int32.not_le, eq_true c26, c34, List.set_cons_succ, List.set_cons_zero, not_true_eq_false, not_false_eq_true, if_true, if_false, decide_true, decide_false, Bool.and_true, Bool.and_false, Bool.true_and, Bool.false_and, Bool.or_true, Bool.or_false, Bool.true_or, Bool.false_or, Bool.not_true, Bool.not_false, and_true, and_false, true_and, false_and, or_true, or_false, true_or, false_or, bIt, bIf, Bool.false_eq_true, reduceCtorEq, Nat.add_zero, Int32.add_zero, nI_add] <;> rfl) (ih (i + 1) (by omega)))
      · have hcp : cAt K cl i = gP K i 4 := cAt_fr c34
        refine V.aload dX4_keepersOf_37 rfl ?_
        refine V.getf dX4_keepersOf_39 fl_X4_139 (hpp _ (by omega)) rfl ?_
        (try rw [hcp])
        (try rw [hcq])
        refine V.iload_n dX4_keepersOf_42 rfl ?_
        refine V.callSv [_] dX4_keepersOf_43 lk_X4_98 rfl (Nat.le_of_ble_eq_true rfl) (Nat.le_of_ble_eq_true rfl) (s5_gaolOf _ _ _ _ _) ?_
        refine V.callSv [_, _] dX4_keepersOf_46 lk_X4_142 rfl (Nat.le_of_ble_eq_true rfl) (Nat.le_of_ble_eq_true rfl) (s5_between _ _ _ _ _ _) ?_
        refine V.iconst (v := nI 2) dX4_keepersOf_49 (by decide) ?_
        refine V.icmp_gt (tgt := 56) dX4_keepersOf_50 (by decide) (fun c50 => ?_) (fun c50 => ?_)
        · refine V.inN3 dX4_keepersOf_56 (by decide) rfl ?_
          refine V.goto (tgt := 4) dX4_keepersOf_59 (by decide) ?_
          exact V.drop 4 (V.ls (by (try simp only [← Int32.not_le, Classical.not_not, decide_eq_true_eq, decide_eq_false_iff_not] at c26 c34 c50); simp only [cN, kpB, ← Int32.not_le, eq_true c26, c34, c50, List.set_cons_succ, List.set_cons_zero, not_true_eq_false, not_false_eq_true, if_true, if_false, decide_true, decide_false, Bool.and_true, Bool.and_false, Bool.true_and, Bool.false_and, Bool.or_true, Bool.or_false, Bool.true_or, Bool.false_or, Bool.not_true, Bool.not_false, and_true, and_false, true_and, false_and, or_true, or_false, true_or, false_or, bIt, bIf, Bool.false_eq_true, reduceCtorEq, Nat.add_zero, Int32.add_zero, nI_add] <;> rfl) (ih (i + 1) (by omega)))
        · refine V.inN2 dX4_keepersOf_53 (by decide) rfl ?_
          refine V.inN3 dX4_keepersOf_56 (by decide) rfl ?_
          refine V.goto (tgt := 4) dX4_keepersOf_59 (by decide) ?_
          exact V.drop 4 (V.ls (by (try simp only [← Int32.not_le, Classical.not_not, decide_eq_true_eq, decide_eq_false_iff_not] at c26 c34 c50); simp only [cN, kpB, ← Int32.not_le, eq_true c26, c34, c50, List.set_cons_succ, List.set_cons_zero, not_true_eq_false, not_false_eq_true, if_true, if_false, decide_true, decide_false, Bool.and_true, Bool.and_false, Bool.true_and, Bool.false_and, Bool.or_true, Bool.or_false, Bool.true_or, Bool.false_or, Bool.not_true, Bool.not_false, and_true, and_false, true_and, false_and, or_true, or_false, true_or, false_or, bIt, bIf, Bool.false_eq_true, reduceCtorEq, Nat.add_zero, Int32.add_zero, nI_add] <;> rfl) (ih (i + 1) (by omega)))
set_option maxRecDepth 20000 in
set_option maxHeartbeats 4000000 in
theorem s4_keepersOf (l : Launch) (d : Nat) (h : MH) (n w : Nat) (K : KK) (cl P : Nat → Int32) (pn : Nat) (hw : WoodAt h w K cl P pn) (m : Nat) (hm : K 90 = nI m) (hm10 : m ≤ 10) (s : Int32) : Sp l mX4_keepersOf (d + 1) [.ref w, .int s] h n 0 0 (Pv (nI (cN (kpB K s) m)) h n) := by
  show V _ _ _ _ [some (.ref w), some (.int s), none, none, none] _ _ _ _ _ _
  refine V.iconst (v := nI 0) dX4_keepersOf_0 (by decide) ?_
  refine V.ist2 dX4_keepersOf_1 (by decide) rfl ?_
  refine V.iconst (v := nI 0) dX4_keepersOf_2 (by decide) ?_
  refine V.ist3 dX4_keepersOf_3 (by decide) rfl ?_
  exact s4_keepersOf_loop l d h n w K cl P pn hw m hm hm10 s m 0 (by omega)

def countV (K : KK) (m : Nat) (x : Int32) : Int32 := swL x 5 (fun j => match j with | 0 => K 90 | 1 => nI (cN (fun i => decide (gP K i 0 = nI 0)) m) | 2 => K 100 + K 107 | 3 => nI (cN (fun c => decide (K c = nI 1)) 84) | 4 => nI (cN (fun c => decide (K c = nI 2)) 84) | _ => nI (cN (fun c => decide (K c = nI 3)) 84)) (-1)
theorem cntS_sum (P : Nat → Int32) : ∀ pn, (∀ i, i < pn → P (4 * i) = nI 0 ∨ P (4 * i) = nI 1) → cntS P 0 pn + cntS P 1 pn = pn := by
  intro pn
  induction pn with
  | zero => intro _; rfl
  | succ pn ih =>
    intro h
    have h1 := ih (fun i hi => h i (by omega))
    have q : ¬ nI 0 = nI 1 := by decide
    have q2 : ¬ nI 1 = nI 0 := by decide
    rw [cntS, cntS]
    rcases h pn (by omega) with y | y
    · rw [if_pos y, if_neg (by rw [y]; exact q)]; omega
    · rw [if_neg (by rw [y]; exact q2), if_pos y]; omega
theorem PR_pn {K : KK} {P : Nat → Int32} {pn : Nat} (h : PR K P pn) : K 100 + K 107 = nI pn := by
  have e0 := (h.2.1 0 (by omega)).1
  have e1 := (h.2.1 1 (by omega)).1
  rw [show K 100 = nI (cntS P 0 pn) from e0, show K 107 = nI (cntS P 1 pn) from e1, nI_add, cntS_sum P pn h.2.2.1]
set_option maxRecDepth 20000 in
set_option maxHeartbeats 4000000 in
theorem x_count (l : Launch) (d : Nat) (h : MH) (n : Nat) (K : KK) (b : Bool) (KI : KK) (S : SS) (m : Nat) (hc : ClsAt h K b KI S) (hT : TI K m) (x : Int32) : Sp l mX5_count (d + 1) [.ref 0, .int x] h n 0 0 (Pv (countV K m x) h n) := by
  have hD := hT.1
  have hm := hD.1.1
  have hm10 := hD.1.2.1
  obtain ⟨ht0, ⟨sq, hsq, esq⟩, ⟨cl, P, pn, hw, hPR⟩, ⟨Km, clm, Pm, pm, hwm⟩, ⟨KJ, clJ, PJ, pJ, hwJ, hJ⟩, ⟨rb, rx, ry, hrd⟩, hsc, ⟨co, hco⟩, ⟨se, hse⟩, hsh⟩ := id hc
  obtain ⟨hw0, ⟨gr, hgr, egr⟩, ⟨ru, hru, eru⟩, ⟨pq, hpf, epf⟩, hpl, ⟨fl, hfl, efl⟩, ⟨ca, hca, eca⟩, ⟨wa, hwa⟩, hpp, hhd⟩ := id hw
  show V _ _ _ _ [some (.ref 0), some (.int x)] _ _ _ _ _ _
  refine V.iload_n dX5_count_0 rfl ?_
  rcases sw_cases x 0 5 (by decide) with ⟨jx, hj1, hj2, rfl⟩ | hx1
  · have hjx : jx = 0 ∨ jx = 1 ∨ jx = 2 ∨ jx = 3 ∨ jx = 4 ∨ jx = 5 := by omega
    rcases hjx with rfl | rfl | rfl | rfl | rfl | rfl
    · refine V.tableIn (off := 39) (tgt := 40) dX5_count_1 (by decide) (by decide) rfl (by decide) ?_
      refine V.aload_n dX5_count_40 rfl ?_
      refine V.getf dX5_count_41 fl_X5_18 ht0 rfl ?_
      refine V.getf dX5_count_44 fl_X5_144 hw0 rfl ?_
      exact V.iretP (by exact dX5_count_47) rfl (by rw [countV]; exact Eq.symm (Eq.trans (swL_in (j := 0) (n := 5) _ _ (by decide) (by decide)) rfl)) rfl
    · refine V.tableIn (off := 47) (tgt := 48) dX5_count_1 (by decide) (by decide) rfl (by decide) ?_
      refine V.aload_n dX5_count_48 rfl ?_
      refine V.getf dX5_count_49 fl_X5_18 ht0 rfl ?_
      refine V.iconst (v := nI 0) dX5_count_52 (by decide) ?_
      refine V.callVv [_] dX5_count_53 lk_X5_252 rfl (Nat.le_of_ble_eq_true rfl) (Nat.le_of_ble_eq_true rfl) hw0 rfl (s4_playersOf _ _ _ _ _ _ _ _ _ hw _ hm hm10 _) ?_
      exact V.iretP (by exact dX5_count_56) rfl (by rw [countV]; exact Eq.symm (Eq.trans (swL_in (j := 1) (n := 5) _ _ (by decide) (by decide)) rfl)) rfl
    · refine V.tableIn (off := 56) (tgt := 57) dX5_count_1 (by decide) (by decide) rfl (by decide) ?_
      refine V.aload_n dX5_count_57 rfl ?_
      refine V.getf dX5_count_58 fl_X5_18 ht0 rfl ?_
      refine V.getf dX5_count_61 fl_X5_255 hw0 rfl ?_
      rw [← PR_pn hPR]
      exact V.iretP (by exact dX5_count_64) rfl (by rw [countV]; exact Eq.symm (Eq.trans (swL_in (j := 2) (n := 5) _ _ (by decide) (by decide)) rfl)) rfl
    · refine V.tableIn (off := 64) (tgt := 65) dX5_count_1 (by decide) (by decide) rfl (by decide) ?_
      refine V.aload_n dX5_count_65 rfl ?_
      refine V.getf dX5_count_66 fl_X5_18 ht0 rfl ?_
      refine V.iconst (v := nI 1) dX5_count_69 (by decide) ?_
      refine V.callVv [_] dX5_count_70 lk_X5_258 rfl (Nat.le_of_ble_eq_true rfl) (Nat.le_of_ble_eq_true rfl) hw0 rfl (s4_cellsOf _ _ _ _ _ _ _ _ _ hw _) ?_
      exact V.iretP (by exact dX5_count_73) rfl (by rw [countV]; exact Eq.symm (Eq.trans (swL_in (j := 3) (n := 5) _ _ (by decide) (by decide)) rfl)) rfl
    · refine V.tableIn (off := 73) (tgt := 74) dX5_count_1 (by decide) (by decide) rfl (by decide) ?_
      refine V.aload_n dX5_count_74 rfl ?_
      refine V.getf dX5_count_75 fl_X5_18 ht0 rfl ?_
      refine V.iconst (v := nI 2) dX5_count_78 (by decide) ?_
      refine V.callVv [_] dX5_count_79 lk_X5_258 rfl (Nat.le_of_ble_eq_true rfl) (Nat.le_of_ble_eq_true rfl) hw0 rfl (s4_cellsOf _ _ _ _ _ _ _ _ _ hw _) ?_
      exact V.iretP (by exact dX5_count_82) rfl (by rw [countV]; exact Eq.symm (Eq.trans (swL_in (j := 4) (n := 5) _ _ (by decide) (by decide)) rfl)) rfl
    · refine V.tableIn (off := 82) (tgt := 83) dX5_count_1 (by decide) (by decide) rfl (by decide) ?_
      refine V.aload_n dX5_count_83 rfl ?_
      refine V.getf dX5_count_84 fl_X5_18 ht0 rfl ?_
      refine V.iconst (v := nI 3) dX5_count_87 (by decide) ?_
      refine V.callVv [_] dX5_count_88 lk_X5_258 rfl (Nat.le_of_ble_eq_true rfl) (Nat.le_of_ble_eq_true rfl) hw0 rfl (s4_cellsOf _ _ _ _ _ _ _ _ _ hw _) ?_
      exact V.iretP (by exact dX5_count_91) rfl (by rw [countV]; exact Eq.symm (Eq.trans (swL_in (j := 5) (n := 5) _ _ (by decide) (by decide)) rfl)) rfl
  · refine V.tableOut (tgt := 92) dX5_count_1 hx1 (by decide) ?_
    refine V.iconst (v := -1) dX5_count_92 (by decide) ?_
    exact V.iretP (by exact dX5_count_93) rfl (by rw [countV]; exact Eq.symm (swL_out (n := 5) _ _ (by decide) hx1)) rfl
set_option maxRecDepth 20000 in
set_option maxHeartbeats 4000000 in
theorem m_count_a (l : Launch) (d : Nat) (h : MH) (n : Nat) (K : KK) (b : Bool) (th po ba en tt : Int32) (hm0 : h 78 = some (.inr (6, moF b th po ba en tt))) (ha : h 79 = some (kc K)) (m : Nat) (hK : KR K m) (x : Int32) : ∀ (r i : Nat), i + r = m → V l mX6_count (d + 1) 50 [some (.ref 78), some (.int x), some (.int (nI (cN (fun i => decide (gP K i 0 = nI 0)) i))), some (.int (nI i))] [] h n 0 0 (Pv (nI (cN (fun i => decide (gP K i 0 = nI 0)) m)) h n) := by
  intro r
  induction r with
  | zero =>
    intro i hi
    have hm := hK.1
    have hm10 := hK.2.1
    refine V.iload_n dX6_count_50 rfl ?_
    refine V.aload_n dX6_count_51 rfl ?_
    refine V.getf dX6_count_52 fl_X6_9 hm0 rfl ?_
    refine V.bipush (v := nI 90) dX6_count_55 (by decide) ?_
    refine V.ialdN dX6_count_57 ha (by omega) (by decide) ?_
    rw [hm]
    refine V.icmp_geN (tgt := 81) dX6_count_58 (by decide) (by omega) (by omega) (fun _ => ?_) (fun q => absurd q (by omega))
    refine V.iload_n dX6_count_81 rfl ?_
    exact V.iretP (by exact dX6_count_82) rfl (by rw [show i = m by omega]) rfl
  | succ r ih =>
    intro i hi
    have hm := hK.1
    have hm10 := hK.2.1
    refine V.iload_n dX6_count_50 rfl ?_
    refine V.aload_n dX6_count_51 rfl ?_
    refine V.getf dX6_count_52 fl_X6_9 hm0 rfl ?_
    refine V.bipush (v := nI 90) dX6_count_55 (by decide) ?_
    refine V.ialdN dX6_count_57 ha (by omega) (by decide) ?_
    rw [hm]
    refine V.icmp_geN (tgt := 81) dX6_count_58 (by decide) (by omega) (by omega) (fun q => absurd q (by omega)) (fun _ => ?_)
    refine V.iload_n dX6_count_61 rfl ?_
    refine V.iconst (v := nI 1) dX6_count_62 (by decide) ?_
    refine V.aload_n dX6_count_63 rfl ?_
    refine V.getf dX6_count_64 fl_X6_9 hm0 rfl ?_
    refine V.iload_n dX6_count_67 rfl ?_
    refine V.iconst (v := nI 0) dX6_count_68 (by decide) ?_
    refine V.callSv [_, _, _] dX6_count_69 lk_X6_82 rfl (Nat.le_of_ble_eq_true rfl) (Nat.le_of_ble_eq_true rfl) (s6_get _ _ _ _ _ _ ha _ _ (by omega) (by omega)) ?_
    obtain ⟨e, he, hs⟩ := hK.2.2.1 i (by omega)
    rw [hs]
    refine V.isubN dX6_count_72 (by omega) ?_
    refine V.iaddN dX6_count_73 ?_
    refine V.ist2 dX6_count_74 (by decide) rfl ?_
    refine V.inN3 dX6_count_75 (by decide) rfl ?_
    refine V.goto (tgt := 50) dX6_count_78 (by decide) ?_
    rcases (show e = 0 ∨ e = 1 by omega) with rfl | rfl
    · exact V.ls (by simp only [cN, hs, not_true_eq_false, not_false_eq_true, if_true, if_false, decide_true, decide_false, Bool.and_true, Bool.and_false, Bool.true_and, Bool.false_and, Bool.or_true, Bool.or_false, Bool.true_or, Bool.false_or, Bool.not_true, Bool.not_false, and_true, and_false, true_and, false_and, or_true, or_false, true_or, false_or, bIt, bIf, Bool.false_eq_true, reduceCtorEq] <;> rfl) (ih (i + 1) (by omega))
    · exact V.ls (by simp only [cN, hs, show ¬ nI 1 = nI 0 by decide, not_true_eq_false, not_false_eq_true, if_true, if_false, decide_true, decide_false, Bool.and_true, Bool.and_false, Bool.true_and, Bool.false_and, Bool.or_true, Bool.or_false, Bool.true_or, Bool.false_or, Bool.not_true, Bool.not_false, and_true, and_false, true_and, false_and, or_true, or_false, true_or, false_or, bIt, bIf, Bool.false_eq_true, reduceCtorEq] <;> rfl) (ih (i + 1) (by omega))
set_option maxRecDepth 20000 in
set_option maxHeartbeats 4000000 in
theorem m_count_b (l : Launch) (d : Nat) (h : MH) (n : Nat) (K : KK) (b : Bool) (th po ba en tt : Int32) (hm0 : h 78 = some (.inr (6, moF b th po ba en tt))) (ha : h 79 = some (kc K)) (j : Nat) (hj : j ≤ 3) : ∀ (r i : Nat), i + r = 84 → V l mX6_count d 101 [some (.ref 78), some (.int (nI (j + 2))), some (.int (nI (cN (fun c => decide (K c = nI j)) i))), some (.int (nI i))] [] h n 0 0 (Pv (nI (cN (fun c => decide (K c = nI j)) 84)) h n) := by
  intro r
  induction r with
  | zero =>
    intro i hi
    have hj3 := hj
    refine V.iload_n dX6_count_101 rfl ?_
    refine V.bipush (v := nI 84) dX6_count_102 (by decide) ?_
    refine V.icmp_geN (tgt := 133) dX6_count_104 (by decide) (by omega) (by omega) (fun _ => ?_) (fun q => absurd q (by omega))
    refine V.iload_n dX6_count_133 rfl ?_
    exact V.iretP (by exact dX6_count_134) rfl (by rw [show i = 84 by omega]) rfl
  | succ r ih =>
    intro i hi
    have hj3 := hj
    refine V.iload_n dX6_count_101 rfl ?_
    refine V.bipush (v := nI 84) dX6_count_102 (by decide) ?_
    refine V.icmp_geN (tgt := 133) dX6_count_104 (by decide) (by omega) (by omega) (fun q => absurd q (by omega)) (fun _ => ?_)
    refine V.iload_n dX6_count_107 rfl ?_
    refine V.aload_n dX6_count_108 rfl ?_
    refine V.getf dX6_count_109 fl_X6_9 hm0 rfl ?_
    refine V.iload_n dX6_count_112 rfl ?_
    refine V.ialdN dX6_count_113 ha (by omega) (by decide) ?_
    refine V.iload_n dX6_count_114 rfl ?_
    refine V.iconst (v := nI 2) dX6_count_115 (by decide) ?_
    refine V.isubN dX6_count_116 (by omega) ?_
    rw [show j + 2 - 2 = j by omega]
    refine V.icmp_ne (tgt := 124) dX6_count_117 (by decide) (fun c117 => ?_) (fun c117 => ?_)
    · refine V.iconst (v := nI 0) dX6_count_124 (by decide) ?_
      refine V.iaddN dX6_count_125 ?_
      refine V.ist2 dX6_count_126 (by decide) rfl ?_
      refine V.inN3 dX6_count_127 (by decide) rfl ?_
      refine V.goto (tgt := 101) dX6_count_130 (by decide) ?_
      exact V.ls (by (try simp only [← Int32.not_le, Classical.not_not, decide_eq_true_eq, decide_eq_false_iff_not] at c117); simp only [cN, not_true_eq_false, ← Int32.not_le, c117, List.set_cons_succ, List.set_cons_zero, not_true_eq_false, not_false_eq_true, if_true, if_false, decide_true, decide_false, Bool.and_true, Bool.and_false, Bool.true_and, Bool.false_and, Bool.or_true, Bool.or_false, Bool.true_or, Bool.false_or, Bool.not_true, Bool.not_false, and_true, and_false, true_and, false_and, or_true, or_false, true_or, false_or, bIt, bIf, Bool.false_eq_true, reduceCtorEq, Nat.add_zero, Int32.add_zero, nI_add] <;> rfl) (ih (i + 1) (by omega))
    · refine V.iconst (v := nI 1) dX6_count_120 (by decide) ?_
      refine V.goto (tgt := 125) dX6_count_121 (by decide) ?_
      refine V.iaddN dX6_count_125 ?_
      refine V.ist2 dX6_count_126 (by decide) rfl ?_
      refine V.inN3 dX6_count_127 (by decide) rfl ?_
      refine V.goto (tgt := 101) dX6_count_130 (by decide) ?_
      exact V.ls (by (try simp only [← Int32.not_le, Classical.not_not, decide_eq_true_eq, decide_eq_false_iff_not] at c117); simp only [cN, not_true_eq_false, ← Int32.not_le, eq_true c117, List.set_cons_succ, List.set_cons_zero, not_true_eq_false, not_false_eq_true, if_true, if_false, decide_true, decide_false, Bool.and_true, Bool.and_false, Bool.true_and, Bool.false_and, Bool.or_true, Bool.or_false, Bool.true_or, Bool.false_or, Bool.not_true, Bool.not_false, and_true, and_false, true_and, false_and, or_true, or_false, true_or, false_or, bIt, bIf, Bool.false_eq_true, reduceCtorEq, Nat.add_zero, Int32.add_zero, nI_add] <;> rfl) (ih (i + 1) (by omega))
set_option maxRecDepth 20000 in
set_option maxHeartbeats 4000000 in
theorem m_count (l : Launch) (d : Nat) (h : MH) (n : Nat) (K : KK) (b : Bool) (KI : KK) (S : SS) (m : Nat) (hc : ModAt h K b KI S) (hT : TI K m) (x : Int32) : Sp l mX6_count (d + 1) [.ref 78, .int x] h n 0 0 (Pv (countV K m x) h n) := by
  have hD := hT.1
  have hm := hD.1.1
  have hm10 := hD.1.2.1
  obtain ⟨⟨th, po, ba, en, tt, hm0⟩, ha, hb, ⟨Km, hmi⟩, ⟨Kr, hre⟩, h83, h84, h85, h86, h87, h88, ⟨X89, h89⟩, ⟨X90, h90⟩, ⟨X91, h91⟩, ⟨X92, h92⟩⟩ := id hc
  show V _ _ _ _ [some (.ref 78), some (.int x), none, none] _ _ _ _ _ _
  refine V.iconst (v := nI 0) dX6_count_0 (by decide) ?_
  refine V.ist2 dX6_count_1 (by decide) rfl ?_
  refine V.iload_n dX6_count_2 rfl ?_
  rcases sw_cases x 0 5 (by decide) with ⟨jx, hj1, hj2, rfl⟩ | hx3
  · have hjx : jx = 0 ∨ jx = 1 ∨ jx = 2 ∨ jx = 3 ∨ jx = 4 ∨ jx = 5 := by omega
    rcases hjx with rfl | rfl | rfl | rfl | rfl | rfl
    · refine V.tableIn (off := 37) (tgt := 40) dX6_count_3 (by decide) (by decide) rfl (by decide) ?_
      refine V.aload_n dX6_count_40 rfl ?_
      refine V.getf dX6_count_41 fl_X6_9 hm0 rfl ?_
      refine V.bipush (v := nI 90) dX6_count_44 (by decide) ?_
      refine V.ialdN dX6_count_46 ha (by omega) (by decide) ?_
      exact V.iretP (by exact dX6_count_47) rfl (by rw [countV]; exact Eq.symm (Eq.trans (swL_in (j := 0) (n := 5) _ _ (by decide) (by decide)) rfl)) rfl
    · refine V.tableIn (off := 45) (tgt := 48) dX6_count_3 (by decide) (by decide) rfl (by decide) ?_
      refine V.iconst (v := nI 0) dX6_count_48 (by decide) ?_
      refine V.ist3 dX6_count_49 (by decide) rfl ?_
      rw [show countV K m (nI 1) = nI (cN (fun i => decide (gP K i 0 = nI 0)) m) from (swL_in (j := 1) (n := 5) _ _ (by decide) (by decide)).trans rfl]
      exact m_count_a l d h n K b th po ba en tt hm0 ha m hD.1 _ m 0 (by omega)
    · refine V.tableIn (off := 80) (tgt := 83) dX6_count_3 (by decide) (by decide) rfl (by decide) ?_
      refine V.aload_n dX6_count_83 rfl ?_
      refine V.getf dX6_count_84 fl_X6_9 hm0 rfl ?_
      refine V.bipush (v := nI 100) dX6_count_87 (by decide) ?_
      refine V.ialdN dX6_count_89 ha (by omega) (by decide) ?_
      refine V.aload_n dX6_count_90 rfl ?_
      refine V.getf dX6_count_91 fl_X6_9 hm0 rfl ?_
      refine V.bipush (v := nI 107) dX6_count_94 (by decide) ?_
      refine V.ialdN dX6_count_96 ha (by omega) (by decide) ?_
      refine V.iadd dX6_count_97 ?_
      exact V.iretP (by exact dX6_count_98) rfl (by rw [countV]; exact Eq.symm (Eq.trans (swL_in (j := 2) (n := 5) _ _ (by decide) (by decide)) rfl)) rfl
    · refine V.tableIn (off := 96) (tgt := 99) dX6_count_3 (by decide) (by decide) rfl (by decide) ?_
      refine V.iconst (v := nI 0) dX6_count_99 (by decide) ?_
      refine V.ist3 dX6_count_100 (by decide) rfl ?_
      rw [show countV K m (nI 3) = nI (cN (fun c => decide (K c = nI 1)) 84) from (swL_in (j := 3) (n := 5) _ _ (by decide) (by decide)).trans rfl]
      exact m_count_b l _ h n K b th po ba en tt hm0 ha 1 (by decide) 84 0 (by omega)
    · refine V.tableIn (off := 96) (tgt := 99) dX6_count_3 (by decide) (by decide) rfl (by decide) ?_
      refine V.iconst (v := nI 0) dX6_count_99 (by decide) ?_
      refine V.ist3 dX6_count_100 (by decide) rfl ?_
      rw [show countV K m (nI 4) = nI (cN (fun c => decide (K c = nI 2)) 84) from (swL_in (j := 4) (n := 5) _ _ (by decide) (by decide)).trans rfl]
      exact m_count_b l _ h n K b th po ba en tt hm0 ha 2 (by decide) 84 0 (by omega)
    · refine V.tableIn (off := 96) (tgt := 99) dX6_count_3 (by decide) (by decide) rfl (by decide) ?_
      refine V.iconst (v := nI 0) dX6_count_99 (by decide) ?_
      refine V.ist3 dX6_count_100 (by decide) rfl ?_
      rw [show countV K m (nI 5) = nI (cN (fun c => decide (K c = nI 3)) 84) from (swL_in (j := 5) (n := 5) _ _ (by decide) (by decide)).trans rfl]
      exact m_count_b l _ h n K b th po ba en tt hm0 ha 3 (by decide) 84 0 (by omega)
  · refine V.tableOut (tgt := 135) dX6_count_3 hx3 (by decide) ?_
    refine V.iconst (v := -1) dX6_count_135 (by decide) ?_
    exact V.iretP (by exact dX6_count_136) rfl (by rw [countV]; exact Eq.symm (swL_out (n := 5) _ _ (by decide) hx3)) rfl
