/-- whether a shelf holds what is wanted -/
def wnV (S : SS) (x what : Int32) : Int32 := if wi x (nI 0) (nI 7) = true then (if S 0 x.toNatClampNeg = nI 0 then -11 else if S 0 x.toNatClampNeg = what then nI 0 else -12) else -1
def wyV (S : SS) (x : Int32) : Int32 := if wi x (nI 0) (nI 7) = true then (if S 0 x.toNatClampNeg = nI 0 then -11 else if S 0 x.toNatClampNeg = nI 2 then (if S 1 x.toNatClampNeg = nI 0 then nI 0 else -12) else -12) else -1
set_option maxRecDepth 20000 in
set_option maxHeartbeats 4000000 in
theorem x_want (l : Launch) (d : Nat) (h : MH) (n : Nat) (K : KK) (b : Bool) (KI : KK) (S : SS) (m : Nat) (hc : ClsAt h K b KI S) (hT : TI K m) (x what : Int32) : Sp l mX5_want (d + 2) [.ref 0, .int x, .int what] h n 0 0 (Pv (wnV S x what) h n) := by
  have hD := hT.1
  have hm := hD.1.1
  have hm10 := hD.1.2.1
  obtain ⟨ht0, ⟨sq, hsq, esq⟩, ⟨cl, P, pn, hw, hPR⟩, ⟨Km, clm, Pm, pm, hwm⟩, ⟨KJ, clJ, PJ, pJ, hwJ, hJ⟩, ⟨rb, rx, ry, hrd⟩, hsc, ⟨co, hco⟩, ⟨se, hse⟩, hsh⟩ := id hc
  obtain ⟨hw0, ⟨gr, hgr, egr⟩, ⟨ru, hru, eru⟩, ⟨pq, hpf, epf⟩, hpl, ⟨fl, hfl, efl⟩, ⟨ca, hca, eca⟩, ⟨wa, hwa⟩, hpp, hhd⟩ := id hw
  show V _ _ _ _ [some (.ref 0), some (.int x), some (.int what)] _ _ _ _ _ _
  refine V.iload_n dX5_want_0 rfl ?_
  refine V.callSv [_] dX5_want_1 lk_X5_191 rfl (Nat.le_of_ble_eq_true rfl) (Nat.le_of_ble_eq_true rfl) (s5_isShelf _ _ _ _ _) ?_
  refine V.if_neB (tgt := 9) dX5_want_4 (by decide) (fun c4 => ?_) (fun c4 => ?_)
  · obtain ⟨i, hi, rfl⟩ := wi_ex (by decide) c4
    obtain ⟨kd, fg, so, sz, el, hS, hE, hR, hW⟩ := hsh i (by omega)
    refine V.aload_n dX5_want_9 rfl ?_
    refine V.getf dX5_want_10 fl_X5_11 ht0 rfl ?_
    refine V.iload_n dX5_want_13 rfl ?_
    refine V.aaldN dX5_want_14 (Or.inr rfl) hsq (by omega) (by decide) (esq _ (by omega)) ?_
    refine V.getf dX5_want_15 fl_X5_197 hS rfl ?_
    refine V.if_ne (tgt := 24) dX5_want_18 (by decide) (fun c18 => ?_) (fun c18 => ?_)
    · refine V.aload_n dX5_want_24 rfl ?_
      refine V.getf dX5_want_25 fl_X5_11 ht0 rfl ?_
      refine V.iload_n dX5_want_28 rfl ?_
      refine V.aaldN dX5_want_29 (Or.inr rfl) hsq (by omega) (by decide) (esq _ (by omega)) ?_
      refine V.getf dX5_want_30 fl_X5_197 hS rfl ?_
      refine V.iload_n dX5_want_33 rfl ?_
      refine V.icmp_ne (tgt := 41) dX5_want_34 (by decide) (fun c34 => ?_) (fun c34 => ?_)
      · refine V.bipush (v := -12) dX5_want_41 (by decide) ?_
        exact V.iretP (by exact dX5_want_43) rfl (by (try simp only [i0] at c4 c18 c34); first | (simp only [wnV, clampI (show i < 2147483648 by omega), c4, c18, c34, not_true_eq_false, not_false_eq_true, if_true, if_false, decide_true, decide_false, Bool.and_true, Bool.and_false, Bool.true_and, Bool.false_and, Bool.or_true, Bool.or_false, Bool.true_or, Bool.false_or, Bool.not_true, Bool.not_false, and_true, and_false, true_and, false_and, or_true, or_false, true_or, false_or, bIt, bIf, Bool.false_eq_true, reduceCtorEq]; done) | (simp only [wnV, c4, c18, c34, not_true_eq_false, not_false_eq_true, if_true, if_false, decide_true, decide_false, Bool.and_true, Bool.and_false, Bool.true_and, Bool.false_and, Bool.or_true, Bool.or_false, Bool.true_or, Bool.false_or, Bool.not_true, Bool.not_false, and_true, and_false, true_and, false_and, or_true, or_false, true_or, false_or, bIt, bIf, Bool.false_eq_true, reduceCtorEq]; done)) rfl
      · refine V.iconst (v := nI 0) dX5_want_37 (by decide) ?_
        refine V.goto (tgt := 43) dX5_want_38 (by decide) ?_
        exact V.iretP (by exact dX5_want_43) rfl (by (try simp only [i0] at c4 c18 c34); first | (simp only [wnV, clampI (show i < 2147483648 by omega), c4, c18, eq_true c34, not_true_eq_false, not_false_eq_true, if_true, if_false, decide_true, decide_false, Bool.and_true, Bool.and_false, Bool.true_and, Bool.false_and, Bool.or_true, Bool.or_false, Bool.true_or, Bool.false_or, Bool.not_true, Bool.not_false, and_true, and_false, true_and, false_and, or_true, or_false, true_or, false_or, bIt, bIf, Bool.false_eq_true, reduceCtorEq]; done) | (simp only [wnV, c4, c18, eq_true c34, not_true_eq_false, not_false_eq_true, if_true, if_false, decide_true, decide_false, Bool.and_true, Bool.and_false, Bool.true_and, Bool.false_and, Bool.or_true, Bool.or_false, Bool.true_or, Bool.false_or, Bool.not_true, Bool.not_false, and_true, and_false, true_and, false_and, or_true, or_false, true_or, false_or, bIt, bIf, Bool.false_eq_true, reduceCtorEq]; done)) rfl
    · refine V.bipush (v := -11) dX5_want_21 (by decide) ?_
      exact V.iretP (by exact dX5_want_23) rfl (by (try simp only [i0] at c4 c18); first | (simp only [wnV, clampI (show i < 2147483648 by omega), c4, eq_true c18, not_true_eq_false, not_false_eq_true, if_true, if_false, decide_true, decide_false, Bool.and_true, Bool.and_false, Bool.true_and, Bool.false_and, Bool.or_true, Bool.or_false, Bool.true_or, Bool.false_or, Bool.not_true, Bool.not_false, and_true, and_false, true_and, false_and, or_true, or_false, true_or, false_or, bIt, bIf, Bool.false_eq_true, reduceCtorEq]; done) | (simp only [wnV, c4, eq_true c18, not_true_eq_false, not_false_eq_true, if_true, if_false, decide_true, decide_false, Bool.and_true, Bool.and_false, Bool.true_and, Bool.false_and, Bool.or_true, Bool.or_false, Bool.true_or, Bool.false_or, Bool.not_true, Bool.not_false, and_true, and_false, true_and, false_and, or_true, or_false, true_or, false_or, bIt, bIf, Bool.false_eq_true, reduceCtorEq]; done)) rfl
  · refine V.iconst (v := -1) dX5_want_7 (by decide) ?_
    exact V.iretP (by exact dX5_want_8) rfl (by (try simp only [i0] at c4); first | (simp only [wnV, clampI (show i < 2147483648 by omega), c4, not_true_eq_false, not_false_eq_true, if_true, if_false, decide_true, decide_false, Bool.and_true, Bool.and_false, Bool.true_and, Bool.false_and, Bool.or_true, Bool.or_false, Bool.true_or, Bool.false_or, Bool.not_true, Bool.not_false, and_true, and_false, true_and, false_and, or_true, or_false, true_or, false_or, bIt, bIf, Bool.false_eq_true, reduceCtorEq]; done) | (simp only [wnV, c4, not_true_eq_false, not_false_eq_true, if_true, if_false, decide_true, decide_false, Bool.and_true, Bool.and_false, Bool.true_and, Bool.false_and, Bool.or_true, Bool.or_false, Bool.true_or, Bool.false_or, Bool.not_true, Bool.not_false, and_true, and_false, true_and, false_and, or_true, or_false, true_or, false_or, bIt, bIf, Bool.false_eq_true, reduceCtorEq]; done)) rfl
set_option maxRecDepth 20000 in
set_option maxHeartbeats 4000000 in
theorem m_wrongRow (l : Launch) (d : Nat) (h : MH) (n : Nat) (K : KK) (b : Bool) (KI : KK) (S : SS) (m : Nat) (hc : ModAt h K b KI S) (hT : TI K m) (x : Int32) : Sp l mX6_wrongRow (d + 2) [.ref 78, .int x, .int (-1)] h n 0 0 (Pv (wnV S x (nI 2)) h n) := by
  have hD := hT.1
  have hm := hD.1.1
  have hm10 := hD.1.2.1
  obtain ⟨⟨th, po, ba, en, tt, hm0⟩, ha, hb, ⟨Km, hmi⟩, ⟨Kr, hre⟩, h83, h84, h85, h86, h87, h88, ⟨X89, h89⟩, ⟨X90, h90⟩, ⟨X91, h91⟩, ⟨X92, h92⟩⟩ := id hc
  show V _ _ _ _ [some (.ref 78), some (.int x), some (.int (-1))] _ _ _ _ _ _
  refine V.iload_n dX6_wrongRow_0 rfl ?_
  refine V.callSv [_] dX6_wrongRow_1 lk_X6_157 rfl (Nat.le_of_ble_eq_true rfl) (Nat.le_of_ble_eq_true rfl) (s6_isShelf _ _ _ _ _) ?_
  refine V.if_neB (tgt := 11) dX6_wrongRow_4 (by decide) (fun c4 => ?_) (fun c4 => ?_)
  · obtain ⟨i, hi, rfl⟩ := wi_ex (by decide) c4
    refine V.aload_n dX6_wrongRow_11 rfl ?_
    refine V.getf dX6_wrongRow_12 fl_X6_22 hm0 rfl ?_
    refine V.iload_n dX6_wrongRow_15 rfl ?_
    refine V.ialdN dX6_wrongRow_16 h83 (by omega) (by decide) ?_
    refine V.if_ne (tgt := 25) dX6_wrongRow_17 (by decide) (fun c17 => ?_) (fun c17 => ?_)
    · refine V.aload_n dX6_wrongRow_25 rfl ?_
      refine V.getf dX6_wrongRow_26 fl_X6_22 hm0 rfl ?_
      refine V.iload_n dX6_wrongRow_29 rfl ?_
      refine V.ialdN dX6_wrongRow_30 h83 (by omega) (by decide) ?_
      refine V.iconst (v := nI 2) dX6_wrongRow_31 (by decide) ?_
      refine V.icmp_ne (tgt := 49) dX6_wrongRow_32 (by decide) (fun c32 => ?_) (fun c32 => ?_)
      · refine V.bipush (v := -12) dX6_wrongRow_49 (by decide) ?_
        refine V.goto (tgt := 55) dX6_wrongRow_51 (by decide) ?_
        exact V.iretP (by exact dX6_wrongRow_55) rfl (by (try simp only [i0] at c4 c17 c32); first | (simp only [wnV, clampI (show i < 2147483648 by omega), c4, c17, c32, not_true_eq_false, not_false_eq_true, if_true, if_false, decide_true, decide_false, Bool.and_true, Bool.and_false, Bool.true_and, Bool.false_and, Bool.or_true, Bool.or_false, Bool.true_or, Bool.false_or, Bool.not_true, Bool.not_false, and_true, and_false, true_and, false_and, or_true, or_false, true_or, false_or, bIt, bIf, Bool.false_eq_true, reduceCtorEq]; done) | (simp only [wnV, c4, c17, c32, not_true_eq_false, not_false_eq_true, if_true, if_false, decide_true, decide_false, Bool.and_true, Bool.and_false, Bool.true_and, Bool.false_and, Bool.or_true, Bool.or_false, Bool.true_or, Bool.false_or, Bool.not_true, Bool.not_false, and_true, and_false, true_and, false_and, or_true, or_false, true_or, false_or, bIt, bIf, Bool.false_eq_true, reduceCtorEq]; done)) rfl
      · refine V.iload_n dX6_wrongRow_35 rfl ?_
        refine V.if_lt (tgt := 54) dX6_wrongRow_36 (by decide) (fun _ => ?_) (fun q => absurd (by decide) q)
        refine V.iconst (v := nI 0) dX6_wrongRow_54 (by decide) ?_
        exact V.iretP (by exact dX6_wrongRow_55) rfl (by (try simp only [i0] at c4 c17 c32); first | (simp only [wnV, clampI (show i < 2147483648 by omega), c4, c17, eq_true c32, not_true_eq_false, not_false_eq_true, if_true, if_false, decide_true, decide_false, Bool.and_true, Bool.and_false, Bool.true_and, Bool.false_and, Bool.or_true, Bool.or_false, Bool.true_or, Bool.false_or, Bool.not_true, Bool.not_false, and_true, and_false, true_and, false_and, or_true, or_false, true_or, false_or, bIt, bIf, Bool.false_eq_true, reduceCtorEq]; done) | (simp only [wnV, c4, c17, eq_true c32, not_true_eq_false, not_false_eq_true, if_true, if_false, decide_true, decide_false, Bool.and_true, Bool.and_false, Bool.true_and, Bool.false_and, Bool.or_true, Bool.or_false, Bool.true_or, Bool.false_or, Bool.not_true, Bool.not_false, and_true, and_false, true_and, false_and, or_true, or_false, true_or, false_or, bIt, bIf, Bool.false_eq_true, reduceCtorEq]; done)) rfl
    · refine V.bipush (v := -11) dX6_wrongRow_20 (by decide) ?_
      refine V.goto (tgt := 55) dX6_wrongRow_22 (by decide) ?_
      exact V.iretP (by exact dX6_wrongRow_55) rfl (by (try simp only [i0] at c4 c17); first | (simp only [wnV, clampI (show i < 2147483648 by omega), c4, eq_true c17, not_true_eq_false, not_false_eq_true, if_true, if_false, decide_true, decide_false, Bool.and_true, Bool.and_false, Bool.true_and, Bool.false_and, Bool.or_true, Bool.or_false, Bool.true_or, Bool.false_or, Bool.not_true, Bool.not_false, and_true, and_false, true_and, false_and, or_true, or_false, true_or, false_or, bIt, bIf, Bool.false_eq_true, reduceCtorEq]; done) | (simp only [wnV, c4, eq_true c17, not_true_eq_false, not_false_eq_true, if_true, if_false, decide_true, decide_false, Bool.and_true, Bool.and_false, Bool.true_and, Bool.false_and, Bool.or_true, Bool.or_false, Bool.true_or, Bool.false_or, Bool.not_true, Bool.not_false, and_true, and_false, true_and, false_and, or_true, or_false, true_or, false_or, bIt, bIf, Bool.false_eq_true, reduceCtorEq]; done)) rfl
  · refine V.iconst (v := -1) dX6_wrongRow_7 (by decide) ?_
    refine V.goto (tgt := 55) dX6_wrongRow_8 (by decide) ?_
    exact V.iretP (by exact dX6_wrongRow_55) rfl (by (try simp only [i0] at c4); first | (simp only [wnV, clampI (show i < 2147483648 by omega), c4, not_true_eq_false, not_false_eq_true, if_true, if_false, decide_true, decide_false, Bool.and_true, Bool.and_false, Bool.true_and, Bool.false_and, Bool.or_true, Bool.or_false, Bool.true_or, Bool.false_or, Bool.not_true, Bool.not_false, and_true, and_false, true_and, false_and, or_true, or_false, true_or, false_or, bIt, bIf, Bool.false_eq_true, reduceCtorEq]; done) | (simp only [wnV, c4, not_true_eq_false, not_false_eq_true, if_true, if_false, decide_true, decide_false, Bool.and_true, Bool.and_false, Bool.true_and, Bool.false_and, Bool.or_true, Bool.or_false, Bool.true_or, Bool.false_or, Bool.not_true, Bool.not_false, and_true, and_false, true_and, false_and, or_true, or_false, true_or, false_or, bIt, bIf, Bool.false_eq_true, reduceCtorEq]; done)) rfl
set_option maxRecDepth 20000 in
set_option maxHeartbeats 4000000 in
theorem m_wrongRow0 (l : Launch) (d : Nat) (h : MH) (n : Nat) (K : KK) (b : Bool) (KI : KK) (S : SS) (m : Nat) (hc : ModAt h K b KI S) (hT : TI K m) (x : Int32) : Sp l mX6_wrongRow (d + 2) [.ref 78, .int x, .int (nI 0)] h n 0 0 (Pv (wyV S x) h n) := by
  have hD := hT.1
  have hm := hD.1.1
  have hm10 := hD.1.2.1
  obtain ⟨⟨th, po, ba, en, tt, hm0⟩, ha, hb, ⟨Km, hmi⟩, ⟨Kr, hre⟩, h83, h84, h85, h86, h87, h88, ⟨X89, h89⟩, ⟨X90, h90⟩, ⟨X91, h91⟩, ⟨X92, h92⟩⟩ := id hc
  show V _ _ _ _ [some (.ref 78), some (.int x), some (.int (nI 0))] _ _ _ _ _ _
  refine V.iload_n dX6_wrongRow_0 rfl ?_
  refine V.callSv [_] dX6_wrongRow_1 lk_X6_157 rfl (Nat.le_of_ble_eq_true rfl) (Nat.le_of_ble_eq_true rfl) (s6_isShelf _ _ _ _ _) ?_
  refine V.if_neB (tgt := 11) dX6_wrongRow_4 (by decide) (fun c4 => ?_) (fun c4 => ?_)
  · obtain ⟨i, hi, rfl⟩ := wi_ex (by decide) c4
    refine V.aload_n dX6_wrongRow_11 rfl ?_
    refine V.getf dX6_wrongRow_12 fl_X6_22 hm0 rfl ?_
    refine V.iload_n dX6_wrongRow_15 rfl ?_
    refine V.ialdN dX6_wrongRow_16 h83 (by omega) (by decide) ?_
    refine V.if_ne (tgt := 25) dX6_wrongRow_17 (by decide) (fun c17 => ?_) (fun c17 => ?_)
    · refine V.aload_n dX6_wrongRow_25 rfl ?_
      refine V.getf dX6_wrongRow_26 fl_X6_22 hm0 rfl ?_
      refine V.iload_n dX6_wrongRow_29 rfl ?_
      refine V.ialdN dX6_wrongRow_30 h83 (by omega) (by decide) ?_
      refine V.iconst (v := nI 2) dX6_wrongRow_31 (by decide) ?_
      refine V.icmp_ne (tgt := 49) dX6_wrongRow_32 (by decide) (fun c32 => ?_) (fun c32 => ?_)
      · refine V.bipush (v := -12) dX6_wrongRow_49 (by decide) ?_
        refine V.goto (tgt := 55) dX6_wrongRow_51 (by decide) ?_
        exact V.iretP (by exact dX6_wrongRow_55) rfl (by (try simp only [i0] at c4 c17 c32); first | (simp only [wyV, clampI (show i < 2147483648 by omega), c4, c17, c32, not_true_eq_false, not_false_eq_true, if_true, if_false, decide_true, decide_false, Bool.and_true, Bool.and_false, Bool.true_and, Bool.false_and, Bool.or_true, Bool.or_false, Bool.true_or, Bool.false_or, Bool.not_true, Bool.not_false, and_true, and_false, true_and, false_and, or_true, or_false, true_or, false_or, bIt, bIf, Bool.false_eq_true, reduceCtorEq]; done) | (simp only [wyV, clampI (show i < 2147483648 by omega), c4, c17, c32, not_true_eq_false, not_false_eq_true, if_true, if_false, decide_true, decide_false, Bool.and_true, Bool.and_false, Bool.true_and, Bool.false_and, Bool.or_true, Bool.or_false, Bool.true_or, Bool.false_or, Bool.not_true, Bool.not_false, and_true, and_false, true_and, false_and, or_true, or_false, true_or, false_or, bIt, bIf, Bool.false_eq_true, reduceCtorEq]; simp only [not_true_eq_false, c4, c17, c32, not_true_eq_false, not_false_eq_true, if_true, if_false, decide_true, decide_false, Bool.and_true, Bool.and_false, Bool.true_and, Bool.false_and, Bool.or_true, Bool.or_false, Bool.true_or, Bool.false_or, Bool.not_true, Bool.not_false, and_true, and_false, true_and, false_and, or_true, or_false, true_or, false_or, bIt, bIf, Bool.false_eq_true, reduceCtorEq]; done) | (simp only [wyV, c4, c17, c32, not_true_eq_false, not_false_eq_true, if_true, if_false, decide_true, decide_false, Bool.and_true, Bool.and_false, Bool.true_and, Bool.false_and, Bool.or_true, Bool.or_false, Bool.true_or, Bool.false_or, Bool.not_true, Bool.not_false, and_true, and_false, true_and, false_and, or_true, or_false, true_or, false_or, bIt, bIf, Bool.false_eq_true, reduceCtorEq]; done)) rfl
      · refine V.iload_n dX6_wrongRow_35 rfl ?_
        refine V.if_lt (tgt := 54) dX6_wrongRow_36 (by decide) (fun q => absurd q (by decide)) (fun _ => ?_)
        refine V.aload_n dX6_wrongRow_39 rfl ?_
        refine V.getf dX6_wrongRow_40 fl_X6_25 hm0 rfl ?_
        refine V.iload_n dX6_wrongRow_43 rfl ?_
        refine V.ialdN dX6_wrongRow_44 h84 (by omega) (by decide) ?_
        refine V.iload_n dX6_wrongRow_45 rfl ?_
        refine V.icmp_eq (tgt := 54) dX6_wrongRow_46 (by decide) (fun c46 => ?_) (fun c46 => ?_)
        · refine V.iconst (v := nI 0) dX6_wrongRow_54 (by decide) ?_
          exact V.iretP (by exact dX6_wrongRow_55) rfl (by (try simp only [i0] at c4 c17 c32 c46); first | (simp only [wyV, clampI (show i < 2147483648 by omega), c4, c17, eq_true c32, eq_true c46, not_true_eq_false, not_false_eq_true, if_true, if_false, decide_true, decide_false, Bool.and_true, Bool.and_false, Bool.true_and, Bool.false_and, Bool.or_true, Bool.or_false, Bool.true_or, Bool.false_or, Bool.not_true, Bool.not_false, and_true, and_false, true_and, false_and, or_true, or_false, true_or, false_or, bIt, bIf, Bool.false_eq_true, reduceCtorEq]; done) | (simp only [wyV, clampI (show i < 2147483648 by omega), c4, c17, eq_true c32, eq_true c46, not_true_eq_false, not_false_eq_true, if_true, if_false, decide_true, decide_false, Bool.and_true, Bool.and_false, Bool.true_and, Bool.false_and, Bool.or_true, Bool.or_false, Bool.true_or, Bool.false_or, Bool.not_true, Bool.not_false, and_true, and_false, true_and, false_and, or_true, or_false, true_or, false_or, bIt, bIf, Bool.false_eq_true, reduceCtorEq]; simp only [not_true_eq_false, c4, c17, eq_true c32, eq_true c46, not_true_eq_false, not_false_eq_true, if_true, if_false, decide_true, decide_false, Bool.and_true, Bool.and_false, Bool.true_and, Bool.false_and, Bool.or_true, Bool.or_false, Bool.true_or, Bool.false_or, Bool.not_true, Bool.not_false, and_true, and_false, true_and, false_and, or_true, or_false, true_or, false_or, bIt, bIf, Bool.false_eq_true, reduceCtorEq]; done) | (simp only [wyV, c4, c17, eq_true c32, eq_true c46, not_true_eq_false, not_false_eq_true, if_true, if_false, decide_true, decide_false, Bool.and_true, Bool.and_false, Bool.true_and, Bool.false_and, Bool.or_true, Bool.or_false, Bool.true_or, Bool.false_or, Bool.not_true, Bool.not_false, and_true, and_false, true_and, false_and, or_true, or_false, true_or, false_or, bIt, bIf, Bool.false_eq_true, reduceCtorEq]; done)) rfl
        · refine V.bipush (v := -12) dX6_wrongRow_49 (by decide) ?_
          refine V.goto (tgt := 55) dX6_wrongRow_51 (by decide) ?_
          exact V.iretP (by exact dX6_wrongRow_55) rfl (by (try simp only [i0] at c4 c17 c32 c46); first | (simp only [wyV, clampI (show i < 2147483648 by omega), c4, c17, eq_true c32, c46, not_true_eq_false, not_false_eq_true, if_true, if_false, decide_true, decide_false, Bool.and_true, Bool.and_false, Bool.true_and, Bool.false_and, Bool.or_true, Bool.or_false, Bool.true_or, Bool.false_or, Bool.not_true, Bool.not_false, and_true, and_false, true_and, false_and, or_true, or_false, true_or, false_or, bIt, bIf, Bool.false_eq_true, reduceCtorEq]; done) | (simp only [wyV, clampI (show i < 2147483648 by omega), c4, c17, eq_true c32, c46, not_true_eq_false, not_false_eq_true, if_true, if_false, decide_true, decide_false, Bool.and_true, Bool.and_false, Bool.true_and, Bool.false_and, Bool.or_true, Bool.or_false, Bool.true_or, Bool.false_or, Bool.not_true, Bool.not_false, and_true, and_false, true_and, false_and, or_true, or_false, true_or, false_or, bIt, bIf, Bool.false_eq_true, reduceCtorEq]; simp only [not_true_eq_false, c4, c17, eq_true c32, c46, not_true_eq_false, not_false_eq_true, if_true, if_false, decide_true, decide_false, Bool.and_true, Bool.and_false, Bool.true_and, Bool.false_and, Bool.or_true, Bool.or_false, Bool.true_or, Bool.false_or, Bool.not_true, Bool.not_false, and_true, and_false, true_and, false_and, or_true, or_false, true_or, false_or, bIt, bIf, Bool.false_eq_true, reduceCtorEq]; done) | (simp only [wyV, c4, c17, eq_true c32, c46, not_true_eq_false, not_false_eq_true, if_true, if_false, decide_true, decide_false, Bool.and_true, Bool.and_false, Bool.true_and, Bool.false_and, Bool.or_true, Bool.or_false, Bool.true_or, Bool.false_or, Bool.not_true, Bool.not_false, and_true, and_false, true_and, false_and, or_true, or_false, true_or, false_or, bIt, bIf, Bool.false_eq_true, reduceCtorEq]; done)) rfl
    · refine V.bipush (v := -11) dX6_wrongRow_20 (by decide) ?_
      refine V.goto (tgt := 55) dX6_wrongRow_22 (by decide) ?_
      exact V.iretP (by exact dX6_wrongRow_55) rfl (by (try simp only [i0] at c4 c17); first | (simp only [wyV, clampI (show i < 2147483648 by omega), c4, eq_true c17, not_true_eq_false, not_false_eq_true, if_true, if_false, decide_true, decide_false, Bool.and_true, Bool.and_false, Bool.true_and, Bool.false_and, Bool.or_true, Bool.or_false, Bool.true_or, Bool.false_or, Bool.not_true, Bool.not_false, and_true, and_false, true_and, false_and, or_true, or_false, true_or, false_or, bIt, bIf, Bool.false_eq_true, reduceCtorEq]; done) | (simp only [wyV, clampI (show i < 2147483648 by omega), c4, eq_true c17, not_true_eq_false, not_false_eq_true, if_true, if_false, decide_true, decide_false, Bool.and_true, Bool.and_false, Bool.true_and, Bool.false_and, Bool.or_true, Bool.or_false, Bool.true_or, Bool.false_or, Bool.not_true, Bool.not_false, and_true, and_false, true_and, false_and, or_true, or_false, true_or, false_or, bIt, bIf, Bool.false_eq_true, reduceCtorEq]; simp only [not_true_eq_false, c4, eq_true c17, not_true_eq_false, not_false_eq_true, if_true, if_false, decide_true, decide_false, Bool.and_true, Bool.and_false, Bool.true_and, Bool.false_and, Bool.or_true, Bool.or_false, Bool.true_or, Bool.false_or, Bool.not_true, Bool.not_false, and_true, and_false, true_and, false_and, or_true, or_false, true_or, false_or, bIt, bIf, Bool.false_eq_true, reduceCtorEq]; done) | (simp only [wyV, c4, eq_true c17, not_true_eq_false, not_false_eq_true, if_true, if_false, decide_true, decide_false, Bool.and_true, Bool.and_false, Bool.true_and, Bool.false_and, Bool.or_true, Bool.or_false, Bool.true_or, Bool.false_or, Bool.not_true, Bool.not_false, and_true, and_false, true_and, false_and, or_true, or_false, true_or, false_or, bIt, bIf, Bool.false_eq_true, reduceCtorEq]; done)) rfl
  · refine V.iconst (v := -1) dX6_wrongRow_7 (by decide) ?_
    refine V.goto (tgt := 55) dX6_wrongRow_8 (by decide) ?_
    exact V.iretP (by exact dX6_wrongRow_55) rfl (by (try simp only [i0] at c4); first | (simp only [wyV, clampI (show i < 2147483648 by omega), c4, not_true_eq_false, not_false_eq_true, if_true, if_false, decide_true, decide_false, Bool.and_true, Bool.and_false, Bool.true_and, Bool.false_and, Bool.or_true, Bool.or_false, Bool.true_or, Bool.false_or, Bool.not_true, Bool.not_false, and_true, and_false, true_and, false_and, or_true, or_false, true_or, false_or, bIt, bIf, Bool.false_eq_true, reduceCtorEq]; done) | (simp only [wyV, clampI (show i < 2147483648 by omega), c4, not_true_eq_false, not_false_eq_true, if_true, if_false, decide_true, decide_false, Bool.and_true, Bool.and_false, Bool.true_and, Bool.false_and, Bool.or_true, Bool.or_false, Bool.true_or, Bool.false_or, Bool.not_true, Bool.not_false, and_true, and_false, true_and, false_and, or_true, or_false, true_or, false_or, bIt, bIf, Bool.false_eq_true, reduceCtorEq]; simp only [not_true_eq_false, c4, not_true_eq_false, not_false_eq_true, if_true, if_false, decide_true, decide_false, Bool.and_true, Bool.and_false, Bool.true_and, Bool.false_and, Bool.or_true, Bool.or_false, Bool.true_or, Bool.false_or, Bool.not_true, Bool.not_false, and_true, and_false, true_and, false_and, or_true, or_false, true_or, false_or, bIt, bIf, Bool.false_eq_true, reduceCtorEq]; done) | (simp only [wyV, c4, not_true_eq_false, not_false_eq_true, if_true, if_false, decide_true, decide_false, Bool.and_true, Bool.and_false, Bool.true_and, Bool.false_and, Bool.or_true, Bool.or_false, Bool.true_or, Bool.false_or, Bool.not_true, Bool.not_false, and_true, and_false, true_and, false_and, or_true, or_false, true_or, false_or, bIt, bIf, Bool.false_eq_true, reduceCtorEq]; done)) rfl
set_option maxRecDepth 20000 in
set_option maxHeartbeats 4000000 in
theorem m_wrongRole (l : Launch) (d : Nat) (h : MH) (n : Nat) (K : KK) (b : Bool) (KI : KK) (S : SS) (m : Nat) (hc : ModAt h K b KI S) (hT : TI K m) (x : Int32) : Sp l mX6_wrongRole (d + 2) [.ref 78, .int x] h n 0 0 (Pv (wnV S x (nI 1)) h n) := by
  have hD := hT.1
  have hm := hD.1.1
  have hm10 := hD.1.2.1
  obtain ⟨⟨th, po, ba, en, tt, hm0⟩, ha, hb, ⟨Km, hmi⟩, ⟨Kr, hre⟩, h83, h84, h85, h86, h87, h88, ⟨X89, h89⟩, ⟨X90, h90⟩, ⟨X91, h91⟩, ⟨X92, h92⟩⟩ := id hc
  show V _ _ _ _ [some (.ref 78), some (.int x)] _ _ _ _ _ _
  refine V.iload_n dX6_wrongRole_0 rfl ?_
  refine V.callSv [_] dX6_wrongRole_1 lk_X6_157 rfl (Nat.le_of_ble_eq_true rfl) (Nat.le_of_ble_eq_true rfl) (s6_isShelf _ _ _ _ _) ?_
  refine V.if_neB (tgt := 11) dX6_wrongRole_4 (by decide) (fun c4 => ?_) (fun c4 => ?_)
  · obtain ⟨i, hi, rfl⟩ := wi_ex (by decide) c4
    refine V.aload_n dX6_wrongRole_11 rfl ?_
    refine V.getf dX6_wrongRole_12 fl_X6_22 hm0 rfl ?_
    refine V.iload_n dX6_wrongRole_15 rfl ?_
    refine V.ialdN dX6_wrongRole_16 h83 (by omega) (by decide) ?_
    refine V.if_ne (tgt := 25) dX6_wrongRole_17 (by decide) (fun c17 => ?_) (fun c17 => ?_)
    · refine V.aload_n dX6_wrongRole_25 rfl ?_
      refine V.getf dX6_wrongRole_26 fl_X6_22 hm0 rfl ?_
      refine V.iload_n dX6_wrongRole_29 rfl ?_
      refine V.ialdN dX6_wrongRole_30 h83 (by omega) (by decide) ?_
      refine V.iconst (v := nI 1) dX6_wrongRole_31 (by decide) ?_
      refine V.icmp_ne (tgt := 39) dX6_wrongRole_32 (by decide) (fun c32 => ?_) (fun c32 => ?_)
      · refine V.bipush (v := -12) dX6_wrongRole_39 (by decide) ?_
        exact V.iretP (by exact dX6_wrongRole_41) rfl (by (try simp only [i0] at c4 c17 c32); first | (simp only [wnV, clampI (show i < 2147483648 by omega), c4, c17, c32, not_true_eq_false, not_false_eq_true, if_true, if_false, decide_true, decide_false, Bool.and_true, Bool.and_false, Bool.true_and, Bool.false_and, Bool.or_true, Bool.or_false, Bool.true_or, Bool.false_or, Bool.not_true, Bool.not_false, and_true, and_false, true_and, false_and, or_true, or_false, true_or, false_or, bIt, bIf, Bool.false_eq_true, reduceCtorEq]; done) | (simp only [wnV, c4, c17, c32, not_true_eq_false, not_false_eq_true, if_true, if_false, decide_true, decide_false, Bool.and_true, Bool.and_false, Bool.true_and, Bool.false_and, Bool.or_true, Bool.or_false, Bool.true_or, Bool.false_or, Bool.not_true, Bool.not_false, and_true, and_false, true_and, false_and, or_true, or_false, true_or, false_or, bIt, bIf, Bool.false_eq_true, reduceCtorEq]; done)) rfl
      · refine V.iconst (v := nI 0) dX6_wrongRole_35 (by decide) ?_
        refine V.goto (tgt := 41) dX6_wrongRole_36 (by decide) ?_
        exact V.iretP (by exact dX6_wrongRole_41) rfl (by (try simp only [i0] at c4 c17 c32); first | (simp only [wnV, clampI (show i < 2147483648 by omega), c4, c17, eq_true c32, not_true_eq_false, not_false_eq_true, if_true, if_false, decide_true, decide_false, Bool.and_true, Bool.and_false, Bool.true_and, Bool.false_and, Bool.or_true, Bool.or_false, Bool.true_or, Bool.false_or, Bool.not_true, Bool.not_false, and_true, and_false, true_and, false_and, or_true, or_false, true_or, false_or, bIt, bIf, Bool.false_eq_true, reduceCtorEq]; done) | (simp only [wnV, c4, c17, eq_true c32, not_true_eq_false, not_false_eq_true, if_true, if_false, decide_true, decide_false, Bool.and_true, Bool.and_false, Bool.true_and, Bool.false_and, Bool.or_true, Bool.or_false, Bool.true_or, Bool.false_or, Bool.not_true, Bool.not_false, and_true, and_false, true_and, false_and, or_true, or_false, true_or, false_or, bIt, bIf, Bool.false_eq_true, reduceCtorEq]; done)) rfl
    · refine V.bipush (v := -11) dX6_wrongRole_20 (by decide) ?_
      refine V.goto (tgt := 41) dX6_wrongRole_22 (by decide) ?_
      exact V.iretP (by exact dX6_wrongRole_41) rfl (by (try simp only [i0] at c4 c17); first | (simp only [wnV, clampI (show i < 2147483648 by omega), c4, eq_true c17, not_true_eq_false, not_false_eq_true, if_true, if_false, decide_true, decide_false, Bool.and_true, Bool.and_false, Bool.true_and, Bool.false_and, Bool.or_true, Bool.or_false, Bool.true_or, Bool.false_or, Bool.not_true, Bool.not_false, and_true, and_false, true_and, false_and, or_true, or_false, true_or, false_or, bIt, bIf, Bool.false_eq_true, reduceCtorEq]; done) | (simp only [wnV, c4, eq_true c17, not_true_eq_false, not_false_eq_true, if_true, if_false, decide_true, decide_false, Bool.and_true, Bool.and_false, Bool.true_and, Bool.false_and, Bool.or_true, Bool.or_false, Bool.true_or, Bool.false_or, Bool.not_true, Bool.not_false, and_true, and_false, true_and, false_and, or_true, or_false, true_or, false_or, bIt, bIf, Bool.false_eq_true, reduceCtorEq]; done)) rfl
  · refine V.iconst (v := -1) dX6_wrongRole_7 (by decide) ?_
    refine V.goto (tgt := 41) dX6_wrongRole_8 (by decide) ?_
    exact V.iretP (by exact dX6_wrongRole_41) rfl (by (try simp only [i0] at c4); first | (simp only [wnV, clampI (show i < 2147483648 by omega), c4, not_true_eq_false, not_false_eq_true, if_true, if_false, decide_true, decide_false, Bool.and_true, Bool.and_false, Bool.true_and, Bool.false_and, Bool.or_true, Bool.or_false, Bool.true_or, Bool.false_or, Bool.not_true, Bool.not_false, and_true, and_false, true_and, false_and, or_true, or_false, true_or, false_or, bIt, bIf, Bool.false_eq_true, reduceCtorEq]; done) | (simp only [wnV, c4, not_true_eq_false, not_false_eq_true, if_true, if_false, decide_true, decide_false, Bool.and_true, Bool.and_false, Bool.true_and, Bool.false_and, Bool.or_true, Bool.or_false, Bool.true_or, Bool.false_or, Bool.not_true, Bool.not_false, and_true, and_false, true_and, false_and, or_true, or_false, true_or, false_or, bIt, bIf, Bool.false_eq_true, reduceCtorEq]; done)) rfl
theorem wn_0 {S : SS} {x what : Int32} (h : wnV S x what = 0) (hw : ¬ what = nI 0) : ∃ i : Nat, i ≤ 7 ∧ x = nI i ∧ S 0 i = what ∧ wi x (nI 0) (nI 7) = true := by
  unfold wnV at h
  by_cases c : wi x (nI 0) (nI 7) = true
  · obtain ⟨i, hi, rfl⟩ := wi_ex (by decide) c
    rw [if_pos c, clampI (by omega)] at h
    refine ⟨i, hi, rfl, ?_, c⟩
    by_cases y : S 0 i = nI 0
    · rw [if_pos y] at h; exact absurd h (by decide)
    · rw [if_neg y] at h
      by_cases y2 : S 0 i = what
      · exact y2
      · rw [if_neg y2] at h; exact absurd h (by decide)
  · rw [if_neg c] at h; exact absurd h (by decide)
theorem wy_0 {S : SS} {x : Int32} (h : wyV S x = 0) : ∃ i : Nat, i ≤ 7 ∧ x = nI i ∧ S 0 i = nI 2 ∧ S 1 i = nI 0 := by
  unfold wyV at h
  by_cases c : wi x (nI 0) (nI 7) = true
  · obtain ⟨i, hi, rfl⟩ := wi_ex (by decide) c
    rw [if_pos c, clampI (by omega)] at h
    refine ⟨i, hi, rfl, ?_⟩
    by_cases y : S 0 i = nI 0
    · rw [if_pos y] at h; exact absurd h (by decide)
    · rw [if_neg y] at h
      by_cases y2 : S 0 i = nI 2
      · rw [if_pos y2] at h
        by_cases y3 : S 1 i = nI 0
        · exact ⟨y2, y3⟩
        · rw [if_neg y3] at h; exact absurd h (by decide)
      · rw [if_neg y2] at h; exact absurd h (by decide)
  · rw [if_neg c] at h; exact absurd h (by decide)
set_option maxRecDepth 20000 in
set_option maxHeartbeats 4000000 in
theorem s3_isBytes (l : Launch) (d : Nat) (h : MH) (n q a : Nat) (ho kd fg so sz : Int32) (hS : h q = some (.inr (3, shF ho kd fg so sz a))) : Sp l mX3_isBytes d [.ref q] h n 0 0 (Pv (bI (decide (ho = nI 2) && decide (so = nI 0))) h n) := by
  show V _ _ _ _ [some (.ref q)] _ _ _ _ _ _
  refine V.aload_n dX3_isBytes_0 rfl ?_
  refine V.getf dX3_isBytes_1 fl_X3_9 hS rfl ?_
  refine V.iconst (v := nI 2) dX3_isBytes_4 (by decide) ?_
  refine V.icmp_ne (tgt := 19) dX3_isBytes_5 (by decide) (fun c5 => ?_) (fun c5 => ?_)
  · refine V.iconst (v := nI 0) dX3_isBytes_19 (by decide) ?_
    exact V.iretZ (by exact dX3_isBytes_20) rfl (by (try simp only [i0] at c5); simp only [not_true_eq_false, c5, not_true_eq_false, not_false_eq_true, if_true, if_false, decide_true, decide_false, Bool.and_true, Bool.and_false, Bool.true_and, Bool.false_and, Bool.or_true, Bool.or_false, Bool.true_or, Bool.false_or, Bool.not_true, Bool.not_false, and_true, and_false, true_and, false_and, or_true, or_false, true_or, false_or, bIt, bIf, Bool.false_eq_true, reduceCtorEq]) rfl
  · refine V.aload_n dX3_isBytes_8 rfl ?_
    refine V.getf dX3_isBytes_9 fl_X3_25 hS rfl ?_
    refine V.if_ne (tgt := 19) dX3_isBytes_12 (by decide) (fun c12 => ?_) (fun c12 => ?_)
    · refine V.iconst (v := nI 0) dX3_isBytes_19 (by decide) ?_
      exact V.iretZ (by exact dX3_isBytes_20) rfl (by (try simp only [i0] at c5 c12); simp only [not_true_eq_false, eq_true c5, c12, not_true_eq_false, not_false_eq_true, if_true, if_false, decide_true, decide_false, Bool.and_true, Bool.and_false, Bool.true_and, Bool.false_and, Bool.or_true, Bool.or_false, Bool.true_or, Bool.false_or, Bool.not_true, Bool.not_false, and_true, and_false, true_and, false_and, or_true, or_false, true_or, false_or, bIt, bIf, Bool.false_eq_true, reduceCtorEq]) rfl
    · refine V.iconst (v := nI 1) dX3_isBytes_15 (by decide) ?_
      refine V.goto (tgt := 20) dX3_isBytes_16 (by decide) ?_
      exact V.iretZ (by exact dX3_isBytes_20) rfl (by (try simp only [i0] at c5 c12); simp only [not_true_eq_false, eq_true c5, eq_true c12, not_true_eq_false, not_false_eq_true, if_true, if_false, decide_true, decide_false, Bool.and_true, Bool.and_false, Bool.true_and, Bool.false_and, Bool.or_true, Bool.or_false, Bool.true_or, Bool.false_or, Bool.not_true, Bool.not_false, and_true, and_false, true_and, false_and, or_true, or_false, true_or, false_or, bIt, bIf, Bool.false_eq_true, reduceCtorEq]) rfl
set_option maxRecDepth 20000 in
set_option maxHeartbeats 4000000 in
theorem s3_hasPlaces (l : Launch) (d : Nat) (h : MH) (n q a : Nat) (ho kd fg so sz : Int32) (hS : h q = some (.inr (3, shF ho kd fg so sz a))) (x y : Int32) : Sp l mX3_hasPlaces d [.ref q, .int x, .int y] h n 0 0 (Pv (bI (!decide (x < 0) && (!decide (sz < x) && (!decide (y < 0) && !decide (sz - x < y))))) h n) := by
  show V _ _ _ _ [some (.ref q), some (.int x), some (.int y)] _ _ _ _ _ _
  refine V.iload_n dX3_hasPlaces_0 rfl ?_
  refine V.if_lt (tgt := 30) dX3_hasPlaces_1 (by decide) (fun c1 => ?_) (fun c1 => ?_)
  · refine V.iconst (v := nI 0) dX3_hasPlaces_30 (by decide) ?_
    exact V.iretZ (by exact dX3_hasPlaces_31) rfl (by simp only [not_true_eq_false, c1, not_true_eq_false, not_false_eq_true, if_true, if_false, decide_true, decide_false, Bool.and_true, Bool.and_false, Bool.true_and, Bool.false_and, Bool.or_true, Bool.or_false, Bool.true_or, Bool.false_or, Bool.not_true, Bool.not_false, and_true, and_false, true_and, false_and, or_true, or_false, true_or, false_or, bIt, bIf, Bool.false_eq_true, reduceCtorEq]) rfl
  · refine V.iload_n dX3_hasPlaces_4 rfl ?_
    refine V.aload_n dX3_hasPlaces_5 rfl ?_
    refine V.getf dX3_hasPlaces_6 fl_X3_28 hS rfl ?_
    refine V.icmp_gt (tgt := 30) dX3_hasPlaces_9 (by decide) (fun c9 => ?_) (fun c9 => ?_)
    · refine V.iconst (v := nI 0) dX3_hasPlaces_30 (by decide) ?_
      exact V.iretZ (by exact dX3_hasPlaces_31) rfl (by simp only [not_true_eq_false, c1, c9, not_true_eq_false, not_false_eq_true, if_true, if_false, decide_true, decide_false, Bool.and_true, Bool.and_false, Bool.true_and, Bool.false_and, Bool.or_true, Bool.or_false, Bool.true_or, Bool.false_or, Bool.not_true, Bool.not_false, and_true, and_false, true_and, false_and, or_true, or_false, true_or, false_or, bIt, bIf, Bool.false_eq_true, reduceCtorEq]) rfl
    · refine V.iload_n dX3_hasPlaces_12 rfl ?_
      refine V.if_lt (tgt := 30) dX3_hasPlaces_13 (by decide) (fun c13 => ?_) (fun c13 => ?_)
      · refine V.iconst (v := nI 0) dX3_hasPlaces_30 (by decide) ?_
        exact V.iretZ (by exact dX3_hasPlaces_31) rfl (by simp only [not_true_eq_false, c1, c9, c13, not_true_eq_false, not_false_eq_true, if_true, if_false, decide_true, decide_false, Bool.and_true, Bool.and_false, Bool.true_and, Bool.false_and, Bool.or_true, Bool.or_false, Bool.true_or, Bool.false_or, Bool.not_true, Bool.not_false, and_true, and_false, true_and, false_and, or_true, or_false, true_or, false_or, bIt, bIf, Bool.false_eq_true, reduceCtorEq]) rfl
      · refine V.iload_n dX3_hasPlaces_16 rfl ?_
        refine V.aload_n dX3_hasPlaces_17 rfl ?_
        refine V.getf dX3_hasPlaces_18 fl_X3_28 hS rfl ?_
        refine V.iload_n dX3_hasPlaces_21 rfl ?_
        refine V.isub dX3_hasPlaces_22 ?_
        refine V.icmp_gt (tgt := 30) dX3_hasPlaces_23 (by decide) (fun c23 => ?_) (fun c23 => ?_)
        · refine V.iconst (v := nI 0) dX3_hasPlaces_30 (by decide) ?_
          exact V.iretZ (by exact dX3_hasPlaces_31) rfl (by simp only [not_true_eq_false, c1, c9, c13, c23, not_true_eq_false, not_false_eq_true, if_true, if_false, decide_true, decide_false, Bool.and_true, Bool.and_false, Bool.true_and, Bool.false_and, Bool.or_true, Bool.or_false, Bool.true_or, Bool.false_or, Bool.not_true, Bool.not_false, and_true, and_false, true_and, false_and, or_true, or_false, true_or, false_or, bIt, bIf, Bool.false_eq_true, reduceCtorEq]) rfl
        · refine V.iconst (v := nI 1) dX3_hasPlaces_26 (by decide) ?_
          refine V.goto (tgt := 31) dX3_hasPlaces_27 (by decide) ?_
          exact V.iretZ (by exact dX3_hasPlaces_31) rfl (by simp only [not_true_eq_false, c1, c9, c13, c23, not_true_eq_false, not_false_eq_true, if_true, if_false, decide_true, decide_false, Bool.and_true, Bool.and_false, Bool.true_and, Bool.false_and, Bool.or_true, Bool.or_false, Bool.true_or, Bool.false_or, Bool.not_true, Bool.not_false, and_true, and_false, true_and, false_and, or_true, or_false, true_or, false_or, bIt, bIf, Bool.false_eq_true, reduceCtorEq]) rfl
set_option maxRecDepth 20000 in
set_option maxHeartbeats 4000000 in
theorem s3_least (l : Launch) (d : Nat) (h : MH) (n q a : Nat) (ho kd fg so sz : Int32) (hS : h q = some (.inr (3, shF ho kd fg so sz a))) : Sp l mX3_least d [.ref q] h n 0 0 (Pv (if so = nI 0 then -128 else if so = nI 1 then -32768 else -2147483648) h n) := by
  show V _ _ _ _ [some (.ref q)] _ _ _ _ _ _
  refine V.aload_n dX3_least_0 rfl ?_
  refine V.getf dX3_least_1 fl_X3_25 hS rfl ?_
  refine V.if_ne (tgt := 10) dX3_least_4 (by decide) (fun c4 => ?_) (fun c4 => ?_)
  · refine V.aload_n dX3_least_10 rfl ?_
    refine V.getf dX3_least_11 fl_X3_25 hS rfl ?_
    refine V.iconst (v := nI 1) dX3_least_14 (by decide) ?_
    refine V.icmp_ne (tgt := 24) dX3_least_15 (by decide) (fun c15 => ?_) (fun c15 => ?_)
    · refine V.ldc dX3_least_24 cn_X3_33 ?_
      exact V.iretP (by exact dX3_least_26) rfl (by (try simp only [i0] at c4 c15); first | (simp only [not_true_eq_false, c4, c15, not_true_eq_false, not_false_eq_true, if_true, if_false, decide_true, decide_false, Bool.and_true, Bool.and_false, Bool.true_and, Bool.false_and, Bool.or_true, Bool.or_false, Bool.true_or, Bool.false_or, Bool.not_true, Bool.not_false, and_true, and_false, true_and, false_and, or_true, or_false, true_or, false_or, bIt, bIf, Bool.false_eq_true, reduceCtorEq]; done) | (simp only [not_true_eq_false, c4, c15, not_true_eq_false, not_false_eq_true, if_true, if_false, decide_true, decide_false, Bool.and_true, Bool.and_false, Bool.true_and, Bool.false_and, Bool.or_true, Bool.or_false, Bool.true_or, Bool.false_or, Bool.not_true, Bool.not_false, and_true, and_false, true_and, false_and, or_true, or_false, true_or, false_or, bIt, bIf, Bool.false_eq_true, reduceCtorEq]; decide)) rfl
    · refine V.sipush (v := -32768) dX3_least_18 (by decide) ?_
      refine V.goto (tgt := 26) dX3_least_21 (by decide) ?_
      exact V.iretP (by exact dX3_least_26) rfl (by (try simp only [i0] at c4 c15); first | (simp only [not_true_eq_false, c4, eq_true c15, not_true_eq_false, not_false_eq_true, if_true, if_false, decide_true, decide_false, Bool.and_true, Bool.and_false, Bool.true_and, Bool.false_and, Bool.or_true, Bool.or_false, Bool.true_or, Bool.false_or, Bool.not_true, Bool.not_false, and_true, and_false, true_and, false_and, or_true, or_false, true_or, false_or, bIt, bIf, Bool.false_eq_true, reduceCtorEq]; done) | (simp only [not_true_eq_false, c4, eq_true c15, not_true_eq_false, not_false_eq_true, if_true, if_false, decide_true, decide_false, Bool.and_true, Bool.and_false, Bool.true_and, Bool.false_and, Bool.or_true, Bool.or_false, Bool.true_or, Bool.false_or, Bool.not_true, Bool.not_false, and_true, and_false, true_and, false_and, or_true, or_false, true_or, false_or, bIt, bIf, Bool.false_eq_true, reduceCtorEq]; decide)) rfl
  · refine V.bipush (v := -128) dX3_least_7 (by decide) ?_
    exact V.iretP (by exact dX3_least_9) rfl (by (try simp only [i0] at c4); first | (simp only [not_true_eq_false, eq_true c4, not_true_eq_false, not_false_eq_true, if_true, if_false, decide_true, decide_false, Bool.and_true, Bool.and_false, Bool.true_and, Bool.false_and, Bool.or_true, Bool.or_false, Bool.true_or, Bool.false_or, Bool.not_true, Bool.not_false, and_true, and_false, true_and, false_and, or_true, or_false, true_or, false_or, bIt, bIf, Bool.false_eq_true, reduceCtorEq]; done) | (simp only [not_true_eq_false, eq_true c4, not_true_eq_false, not_false_eq_true, if_true, if_false, decide_true, decide_false, Bool.and_true, Bool.and_false, Bool.true_and, Bool.false_and, Bool.or_true, Bool.or_false, Bool.true_or, Bool.false_or, Bool.not_true, Bool.not_false, and_true, and_false, true_and, false_and, or_true, or_false, true_or, false_or, bIt, bIf, Bool.false_eq_true, reduceCtorEq]; decide)) rfl
def lowV (so v : Int32) : Int32 := if so = nI 0 then v.toInt8.toInt32 else if so = nI 1 then v.toInt16.toInt32 else v
def woR (k g : Int32) : Int32 := swL k 7 (fun j => match j with | 1 => nI 1 + g | 2 => nI 5 | 3 => nI 10 | 4 => nI 8 | 5 => g | 6 => nI 8 + g | 7 => (nI 1 + g) / nI 2 | _ => nI 1) (nI 1)
theorem swL_o1 {x : Int32} {n : Nat} (vs : Nat → Int32) (df : Int32) (h0 : vs 0 = df) (h : x.toInt < ((1 : Nat) : Int) ∨ (n : Int) < x.toInt) : swL x n vs df = df := by
  unfold swL
  split
  · rfl
  · have e : x.toNatClampNeg = 0 := by
      rw [Int32.toNatClampNeg]
      omega
    rw [e, h0]
set_option maxRecDepth 20000 in
set_option maxHeartbeats 4000000 in
theorem s3_lowestBits (l : Launch) (d : Nat) (h : MH) (n q a : Nat) (ho kd fg so sz : Int32) (hS : h q = some (.inr (3, shF ho kd fg so sz a))) (v : Int32) : Sp l mX3_lowestBits d [.ref q, .int v] h n 0 0 (Pv (lowV so v) h n) := by
  show V _ _ _ _ [some (.ref q), some (.int v)] _ _ _ _ _ _
  refine V.aload_n dX3_lowestBits_0 rfl ?_
  refine V.getf dX3_lowestBits_1 fl_X3_25 hS rfl ?_
  refine V.if_ne (tgt := 10) dX3_lowestBits_4 (by decide) (fun c4 => ?_) (fun c4 => ?_)
  · refine V.aload_n dX3_lowestBits_10 rfl ?_
    refine V.getf dX3_lowestBits_11 fl_X3_25 hS rfl ?_
    refine V.iconst (v := nI 1) dX3_lowestBits_14 (by decide) ?_
    refine V.icmp_ne (tgt := 23) dX3_lowestBits_15 (by decide) (fun c15 => ?_) (fun c15 => ?_)
    · refine V.iload_n dX3_lowestBits_23 rfl ?_
      exact V.iretP (by exact dX3_lowestBits_24) rfl (by (try simp only [i0] at c4 c15); simp only [lowV, c4, c15, not_true_eq_false, not_false_eq_true, if_true, if_false, decide_true, decide_false, Bool.and_true, Bool.and_false, Bool.true_and, Bool.false_and, Bool.or_true, Bool.or_false, Bool.true_or, Bool.false_or, Bool.not_true, Bool.not_false, and_true, and_false, true_and, false_and, or_true, or_false, true_or, false_or, bIt, bIf, Bool.false_eq_true, reduceCtorEq]) rfl
    · refine V.iload_n dX3_lowestBits_18 rfl ?_
      refine V.i2s dX3_lowestBits_19 ?_
      refine V.goto (tgt := 24) dX3_lowestBits_20 (by decide) ?_
      exact V.iretP (by exact dX3_lowestBits_24) rfl (by (try simp only [i0] at c4 c15); simp only [lowV, c4, eq_true c15, not_true_eq_false, not_false_eq_true, if_true, if_false, decide_true, decide_false, Bool.and_true, Bool.and_false, Bool.true_and, Bool.false_and, Bool.or_true, Bool.or_false, Bool.true_or, Bool.false_or, Bool.not_true, Bool.not_false, and_true, and_false, true_and, false_and, or_true, or_false, true_or, false_or, bIt, bIf, Bool.false_eq_true, reduceCtorEq]) rfl
  · refine V.iload_n dX3_lowestBits_7 rfl ?_
    refine V.i2b dX3_lowestBits_8 ?_
    exact V.iretP (by exact dX3_lowestBits_9) rfl (by (try simp only [i0] at c4); simp only [lowV, eq_true c4, not_true_eq_false, not_false_eq_true, if_true, if_false, decide_true, decide_false, Bool.and_true, Bool.and_false, Bool.true_and, Bool.false_and, Bool.or_true, Bool.or_false, Bool.true_or, Bool.false_or, Bool.not_true, Bool.not_false, and_true, and_false, true_and, false_and, or_true, or_false, true_or, false_or, bIt, bIf, Bool.false_eq_true, reduceCtorEq]) rfl
set_option maxRecDepth 20000 in
set_option maxHeartbeats 4000000 in
theorem s3_worthOfRole (l : Launch) (d : Nat) (h : MH) (n q a : Nat) (ho kd fg so sz : Int32) (hS : h q = some (.inr (3, shF ho kd fg so sz a))) : Sp l mX3_worthOfRole d [.ref q] h n 0 0 (Pv (woR kd fg) h n) := by
  show V _ _ _ _ [some (.ref q)] _ _ _ _ _ _
  refine V.aload_n dX3_worthOfRole_0 rfl ?_
  refine V.getf dX3_worthOfRole_1 fl_X3_19 hS rfl ?_
  rcases sw_cases kd 1 7 (by decide) with ⟨jx, hj1, hj2, rfl⟩ | hx4
  · have hjx : jx = 1 ∨ jx = 2 ∨ jx = 3 ∨ jx = 4 ∨ jx = 5 ∨ jx = 6 ∨ jx = 7 := by omega
    rcases hjx with rfl | rfl | rfl | rfl | rfl | rfl | rfl
    · refine V.tableIn (off := 44) (tgt := 48) dX3_worthOfRole_4 (by decide) (by decide) rfl (by decide) ?_
      refine V.iconst (v := nI 1) dX3_worthOfRole_48 (by decide) ?_
      refine V.aload_n dX3_worthOfRole_49 rfl ?_
      refine V.getf dX3_worthOfRole_50 fl_X3_22 hS rfl ?_
      refine V.iadd dX3_worthOfRole_53 ?_
      exact V.iretP (by exact dX3_worthOfRole_54) rfl (by rw [woR]; exact Eq.symm (Eq.trans (swL_in (j := 1) (n := 7) _ _ (by decide) (by decide)) rfl)) rfl
    · refine V.tableIn (off := 51) (tgt := 55) dX3_worthOfRole_4 (by decide) (by decide) rfl (by decide) ?_
      refine V.iconst (v := nI 5) dX3_worthOfRole_55 (by decide) ?_
      exact V.iretP (by exact dX3_worthOfRole_56) rfl (by rw [woR]; exact Eq.symm (Eq.trans (swL_in (j := 2) (n := 7) _ _ (by decide) (by decide)) rfl)) rfl
    · refine V.tableIn (off := 53) (tgt := 57) dX3_worthOfRole_4 (by decide) (by decide) rfl (by decide) ?_
      refine V.bipush (v := nI 10) dX3_worthOfRole_57 (by decide) ?_
      exact V.iretP (by exact dX3_worthOfRole_59) rfl (by rw [woR]; exact Eq.symm (Eq.trans (swL_in (j := 3) (n := 7) _ _ (by decide) (by decide)) rfl)) rfl
    · refine V.tableIn (off := 56) (tgt := 60) dX3_worthOfRole_4 (by decide) (by decide) rfl (by decide) ?_
      refine V.bipush (v := nI 8) dX3_worthOfRole_60 (by decide) ?_
      exact V.iretP (by exact dX3_worthOfRole_62) rfl (by rw [woR]; exact Eq.symm (Eq.trans (swL_in (j := 4) (n := 7) _ _ (by decide) (by decide)) rfl)) rfl
    · refine V.tableIn (off := 59) (tgt := 63) dX3_worthOfRole_4 (by decide) (by decide) rfl (by decide) ?_
      refine V.aload_n dX3_worthOfRole_63 rfl ?_
      refine V.getf dX3_worthOfRole_64 fl_X3_22 hS rfl ?_
      exact V.iretP (by exact dX3_worthOfRole_67) rfl (by rw [woR]; exact Eq.symm (Eq.trans (swL_in (j := 5) (n := 7) _ _ (by decide) (by decide)) rfl)) rfl
    · refine V.tableIn (off := 64) (tgt := 68) dX3_worthOfRole_4 (by decide) (by decide) rfl (by decide) ?_
      refine V.bipush (v := nI 8) dX3_worthOfRole_68 (by decide) ?_
      refine V.aload_n dX3_worthOfRole_70 rfl ?_
      refine V.getf dX3_worthOfRole_71 fl_X3_22 hS rfl ?_
      refine V.iadd dX3_worthOfRole_74 ?_
      exact V.iretP (by exact dX3_worthOfRole_75) rfl (by rw [woR]; exact Eq.symm (Eq.trans (swL_in (j := 6) (n := 7) _ _ (by decide) (by decide)) rfl)) rfl
    · refine V.tableIn (off := 72) (tgt := 76) dX3_worthOfRole_4 (by decide) (by decide) rfl (by decide) ?_
      refine V.iconst (v := nI 1) dX3_worthOfRole_76 (by decide) ?_
      refine V.aload_n dX3_worthOfRole_77 rfl ?_
      refine V.getf dX3_worthOfRole_78 fl_X3_22 hS rfl ?_
      refine V.iadd dX3_worthOfRole_81 ?_
      refine V.iconst (v := nI 2) dX3_worthOfRole_82 (by decide) ?_
      refine V.idiv dX3_worthOfRole_83 (by decide) ?_
      exact V.iretP (by exact dX3_worthOfRole_84) rfl (by rw [woR]; exact Eq.symm (Eq.trans (swL_in (j := 7) (n := 7) _ _ (by decide) (by decide)) rfl)) rfl
  · refine V.tableOut (tgt := 85) dX3_worthOfRole_4 hx4 (by decide) ?_
    refine V.iconst (v := nI 1) dX3_worthOfRole_85 (by decide) ?_
    exact V.iretP (by exact dX3_worthOfRole_86) rfl (by rw [woR]; refine Eq.symm (swL_o1 _ (nI 1) ?_ hx4); rfl) rfl
set_option maxRecDepth 20000 in
set_option maxHeartbeats 4000000 in
theorem s6_countsBy (l : Launch) (d : Nat) (h : MH) (n : Nat) (kd fg : Int32) : Sp l mX6_countsBy d [.int kd, .int fg] h n 0 0 (Pv (woR kd fg) h n) := by
  show V _ _ _ _ [some (.int kd), some (.int fg)] _ _ _ _ _ _
  refine V.iload_n dX6_countsBy_0 rfl ?_
  rcases sw_cases kd 1 7 (by decide) with ⟨jx, hj1, hj2, rfl⟩ | hx1
  · have hjx : jx = 1 ∨ jx = 2 ∨ jx = 3 ∨ jx = 4 ∨ jx = 5 ∨ jx = 6 ∨ jx = 7 := by omega
    rcases hjx with rfl | rfl | rfl | rfl | rfl | rfl | rfl
    · refine V.tableIn (off := 43) (tgt := 44) dX6_countsBy_1 (by decide) (by decide) rfl (by decide) ?_
      refine V.iconst (v := nI 1) dX6_countsBy_44 (by decide) ?_
      refine V.iload_n dX6_countsBy_45 rfl ?_
      refine V.iadd dX6_countsBy_46 ?_
      exact V.iretP (by exact dX6_countsBy_47) rfl (by rw [woR]; exact Eq.symm (Eq.trans (swL_in (j := 1) (n := 7) _ _ (by decide) (by decide)) rfl)) rfl
    · refine V.tableIn (off := 47) (tgt := 48) dX6_countsBy_1 (by decide) (by decide) rfl (by decide) ?_
      refine V.iconst (v := nI 5) dX6_countsBy_48 (by decide) ?_
      exact V.iretP (by exact dX6_countsBy_49) rfl (by rw [woR]; exact Eq.symm (Eq.trans (swL_in (j := 2) (n := 7) _ _ (by decide) (by decide)) rfl)) rfl
    · refine V.tableIn (off := 49) (tgt := 50) dX6_countsBy_1 (by decide) (by decide) rfl (by decide) ?_
      refine V.bipush (v := nI 10) dX6_countsBy_50 (by decide) ?_
      exact V.iretP (by exact dX6_countsBy_52) rfl (by rw [woR]; exact Eq.symm (Eq.trans (swL_in (j := 3) (n := 7) _ _ (by decide) (by decide)) rfl)) rfl
    · refine V.tableIn (off := 52) (tgt := 53) dX6_countsBy_1 (by decide) (by decide) rfl (by decide) ?_
      refine V.bipush (v := nI 8) dX6_countsBy_53 (by decide) ?_
      exact V.iretP (by exact dX6_countsBy_55) rfl (by rw [woR]; exact Eq.symm (Eq.trans (swL_in (j := 4) (n := 7) _ _ (by decide) (by decide)) rfl)) rfl
    · refine V.tableIn (off := 55) (tgt := 56) dX6_countsBy_1 (by decide) (by decide) rfl (by decide) ?_
      refine V.iload_n dX6_countsBy_56 rfl ?_
      exact V.iretP (by exact dX6_countsBy_57) rfl (by rw [woR]; exact Eq.symm (Eq.trans (swL_in (j := 5) (n := 7) _ _ (by decide) (by decide)) rfl)) rfl
    · refine V.tableIn (off := 57) (tgt := 58) dX6_countsBy_1 (by decide) (by decide) rfl (by decide) ?_
      refine V.bipush (v := nI 8) dX6_countsBy_58 (by decide) ?_
      refine V.iload_n dX6_countsBy_60 rfl ?_
      refine V.iadd dX6_countsBy_61 ?_
      exact V.iretP (by exact dX6_countsBy_62) rfl (by rw [woR]; exact Eq.symm (Eq.trans (swL_in (j := 6) (n := 7) _ _ (by decide) (by decide)) rfl)) rfl
    · refine V.tableIn (off := 62) (tgt := 63) dX6_countsBy_1 (by decide) (by decide) rfl (by decide) ?_
      refine V.iconst (v := nI 1) dX6_countsBy_63 (by decide) ?_
      refine V.iload_n dX6_countsBy_64 rfl ?_
      refine V.iadd dX6_countsBy_65 ?_
      refine V.iconst (v := nI 2) dX6_countsBy_66 (by decide) ?_
      refine V.idiv dX6_countsBy_67 (by decide) ?_
      exact V.iretP (by exact dX6_countsBy_68) rfl (by rw [woR]; exact Eq.symm (Eq.trans (swL_in (j := 7) (n := 7) _ _ (by decide) (by decide)) rfl)) rfl
  · refine V.tableOut (tgt := 69) dX6_countsBy_1 hx1 (by decide) ?_
    refine V.iconst (v := nI 1) dX6_countsBy_69 (by decide) ?_
    exact V.iretP (by exact dX6_countsBy_70) rfl (by rw [woR]; refine Eq.symm (swL_o1 _ (nI 1) ?_ hx1); rfl) rfl
def countsV (S : SS) (x : Int32) : Int32 := if wnV S x (nI 1) = 0 then woR (S 4 x.toNatClampNeg) (S 5 x.toNatClampNeg) else wnV S x (nI 1)
set_option maxRecDepth 20000 in
set_option maxHeartbeats 4000000 in
theorem x_counts (l : Launch) (d : Nat) (h : MH) (n : Nat) (K : KK) (b : Bool) (KI : KK) (S : SS) (m : Nat) (hc : ClsAt h K b KI S) (hT : TI K m) (x : Int32) : Sp l mX5_counts (d + 3) [.ref 0, .int x] h n 0 0 (Pv (countsV S x) h n) := by
  have hD := hT.1
  have hm := hD.1.1
  have hm10 := hD.1.2.1
  obtain ⟨ht0, ⟨sq, hsq, esq⟩, ⟨cl, P, pn, hw, hPR⟩, ⟨Km, clm, Pm, pm, hwm⟩, ⟨KJ, clJ, PJ, pJ, hwJ, hJ⟩, ⟨rb, rx, ry, hrd⟩, hsc, ⟨co, hco⟩, ⟨se, hse⟩, hsh⟩ := id hc
  obtain ⟨hw0, ⟨gr, hgr, egr⟩, ⟨ru, hru, eru⟩, ⟨pq, hpf, epf⟩, hpl, ⟨fl, hfl, efl⟩, ⟨ca, hca, eca⟩, ⟨wa, hwa⟩, hpp, hhd⟩ := id hw
  show V _ _ _ _ [some (.ref 0), some (.int x), none] _ _ _ _ _ _
  refine V.aload_n dX5_counts_0 rfl ?_
  refine V.iload_n dX5_counts_1 rfl ?_
  refine V.iconst (v := nI 1) dX5_counts_2 (by decide) ?_
  refine V.callVv [_, _] dX5_counts_3 lk_X5_116 rfl (Nat.le_of_ble_eq_true rfl) (Nat.le_of_ble_eq_true rfl) ht0 rfl (x_want _ _ _ _ _ _ _ _ _ hc hT _ _) ?_
  refine V.ist2 dX5_counts_6 (by decide) rfl ?_
  refine V.iload_n dX5_counts_7 rfl ?_
  refine V.if_eq (tgt := 15) dX5_counts_8 (by decide) (fun c8 => ?_) (fun c8 => ?_)
  · obtain ⟨i, hi, rfl, hk, hwi⟩ := wn_0 c8 (by decide)
    obtain ⟨kd, fg, so, sz, el, hS, hE, hR, hW⟩ := hsh i (by omega)
    refine V.aload_n dX5_counts_15 rfl ?_
    refine V.getf dX5_counts_16 fl_X5_11 ht0 rfl ?_
    refine V.iload_n dX5_counts_19 rfl ?_
    refine V.aaldN dX5_counts_20 (Or.inr rfl) hsq (by omega) (by decide) (esq _ (by omega)) ?_
    refine V.callVv [] dX5_counts_21 lk_X5_299 rfl (Nat.le_of_ble_eq_true rfl) (Nat.le_of_ble_eq_true rfl) hS rfl (s3_worthOfRole _ _ _ _ _ _ _ _ _ _ _ hS) ?_
    exact V.iretP (by exact dX5_counts_24) rfl (by first | (rw [countsV, if_pos c8, clampI (show i < 2147483648 by omega), (hR hk).1, (hR hk).2]; done) | (rw [countsV, if_neg c8])) rfl
  · refine V.iload_n dX5_counts_11 rfl ?_
    refine V.goto (tgt := 24) dX5_counts_12 (by decide) ?_
    exact V.iretP (by exact dX5_counts_24) rfl (by first | (rw [countsV, if_pos c8, clampI (show i < 2147483648 by omega), (hR hk).1, (hR hk).2]; done) | (rw [countsV, if_neg c8])) rfl
set_option maxRecDepth 20000 in
set_option maxHeartbeats 4000000 in
theorem m_counts (l : Launch) (d : Nat) (h : MH) (n : Nat) (K : KK) (b : Bool) (KI : KK) (S : SS) (m : Nat) (hc : ModAt h K b KI S) (hT : TI K m) (x : Int32) : Sp l mX6_counts (d + 3) [.ref 78, .int x] h n 0 0 (Pv (countsV S x) h n) := by
  have hD := hT.1
  have hm := hD.1.1
  have hm10 := hD.1.2.1
  obtain ⟨⟨th, po, ba, en, tt, hm0⟩, ha, hb, ⟨Km, hmi⟩, ⟨Kr, hre⟩, h83, h84, h85, h86, h87, h88, ⟨X89, h89⟩, ⟨X90, h90⟩, ⟨X91, h91⟩, ⟨X92, h92⟩⟩ := id hc
  show V _ _ _ _ [some (.ref 78), some (.int x), none] _ _ _ _ _ _
  refine V.aload_n dX6_counts_0 rfl ?_
  refine V.iload_n dX6_counts_1 rfl ?_
  refine V.callVv [_] dX6_counts_2 lk_X6_220 rfl (Nat.le_of_ble_eq_true rfl) (Nat.le_of_ble_eq_true rfl) hm0 rfl (m_wrongRole _ _ _ _ _ _ _ _ _ hc hT _) ?_
  refine V.ist2 dX6_counts_5 (by decide) rfl ?_
  refine V.iload_n dX6_counts_6 rfl ?_
  refine V.if_eq (tgt := 14) dX6_counts_7 (by decide) (fun c7 => ?_) (fun c7 => ?_)
  · obtain ⟨i, hi, rfl, hk, hwi⟩ := wn_0 c7 (by decide)
    refine V.aload_n dX6_counts_14 rfl ?_
    refine V.getf dX6_counts_15 fl_X6_34 hm0 rfl ?_
    refine V.iload_n dX6_counts_18 rfl ?_
    refine V.ialdN dX6_counts_19 h87 (by omega) (by decide) ?_
    refine V.aload_n dX6_counts_20 rfl ?_
    refine V.getf dX6_counts_21 fl_X6_37 hm0 rfl ?_
    refine V.iload_n dX6_counts_24 rfl ?_
    refine V.ialdN dX6_counts_25 h88 (by omega) (by decide) ?_
    refine V.callSv [_, _] dX6_counts_26 lk_X6_310 rfl (Nat.le_of_ble_eq_true rfl) (Nat.le_of_ble_eq_true rfl) (s6_countsBy _ _ _ _ _ _) ?_
    exact V.iretP (by exact dX6_counts_29) rfl (by first | (rw [countsV, if_pos c7, clampI (show i < 2147483648 by omega)]; done) | (rw [countsV, if_neg c7])) rfl
  · refine V.iload_n dX6_counts_10 rfl ?_
    refine V.goto (tgt := 29) dX6_counts_11 (by decide) ?_
    exact V.iretP (by exact dX6_counts_29) rfl (by first | (rw [countsV, if_pos c7, clampI (show i < 2147483648 by omega)]; done) | (rw [countsV, if_neg c7])) rfl
