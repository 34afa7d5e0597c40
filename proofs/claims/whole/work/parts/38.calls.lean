set_option maxRecDepth 20000 in
set_option maxHeartbeats 4000000 in
theorem x_isPlayer (l : Launch) (d : Nat) (h : MH) (n : Nat) (K : KK) (b : Bool) (KI : KK) (S : SS) (m : Nat) (hc : ClsAt h K b KI S) (hT : TI K m) (x : Int32) : Sp l mX5_isPlayer (d + 1) [.ref 0, .int x] h n 0 0 (Pv (bI (plB K x)) h n) := by
  have hD := hT.1
  have hm := hD.1.1
  have hm10 := hD.1.2.1
  obtain ⟨ht0, ⟨sq, hsq, esq⟩, ⟨cl, P, pn, hw, hPR⟩, ⟨Km, clm, Pm, pm, hwm⟩, ⟨KJ, clJ, PJ, pJ, hwJ, hJ⟩, ⟨rb, rx, ry, hrd⟩, hsc, ⟨co, hco⟩, ⟨se, hse⟩, hsh⟩ := id hc
  obtain ⟨hw0, ⟨gr, hgr, egr⟩, ⟨ru, hru, eru⟩, ⟨pq, hpf, epf⟩, hpl, ⟨fl, hfl, efl⟩, ⟨ca, hca, eca⟩, ⟨wa, hwa⟩, hpp, hhd⟩ := id hw
  show V _ _ _ _ [some (.ref 0), some (.int x)] _ _ _ _ _ _
  refine V.iload_n dX5_isPlayer_0 rfl ?_
  refine V.iconst (v := nI 0) dX5_isPlayer_1 (by decide) ?_
  refine V.aload_n dX5_isPlayer_2 rfl ?_
  refine V.getf dX5_isPlayer_3 fl_X5_18 ht0 rfl ?_
  refine V.getf dX5_isPlayer_6 fl_X5_144 hw0 rfl ?_
  refine V.iconst (v := nI 1) dX5_isPlayer_9 (by decide) ?_
  refine V.isub dX5_isPlayer_10 ?_
  refine V.callSv [_, _, _] dX5_isPlayer_11 lk_X5_71 rfl (Nat.le_of_ble_eq_true rfl) (Nat.le_of_ble_eq_true rfl) (s5_within _ _ _ _ _ _ _) ?_
  exact V.iretZ (by exact dX5_isPlayer_14) rfl rfl rfl
def groundV (K : KK) (x : Int32) : Int32 := if wi x (nI 0) (nI 83) = true then K x.toNatClampNeg else -1
def ruleV (K : KK) (x : Int32) : Int32 := if wi x (nI 0) (nI 5) = true then K (84 + x.toNatClampNeg) else -1
def flagV (K : KK) (x y : Int32) : Int32 := if wi x (nI 0) (nI 1) = true then swL y 1 (fun j => match j with | 0 => K (96 + 2 * x.toNatClampNeg) | _ => K (97 + 2 * x.toNatClampNeg)) (-1) else -1
def nearV (x y : Int32) : Int32 := if (wi x (nI 0) (nI 83) && wi y (nI 0) (nI 83)) = true then nr x y else -1
def stateV (K : KK) (m : Nat) (x : Int32) : Int32 := swL x 5 (fun j => match j with | 0 => K 91 | 1 => K 92 | 2 => bI (endB K) | 3 => nI (cntH K (nI 0) m) + nI (cntH K (nI 1) m) | 4 => K 93 | _ => K 94) (-1)
set_option maxRecDepth 20000 in
set_option maxHeartbeats 4000000 in
theorem x_ground (l : Launch) (d : Nat) (h : MH) (n : Nat) (K : KK) (b : Bool) (KI : KK) (S : SS) (m : Nat) (hc : ClsAt h K b KI S) (hT : TI K m) (x : Int32) : Sp l mX5_ground (d + 2) [.ref 0, .int x] h n 0 0 (Pv (groundV K x) h n) := by
  have hD := hT.1
  have hm := hD.1.1
  have hm10 := hD.1.2.1
  obtain ⟨ht0, ⟨sq, hsq, esq⟩, ⟨cl, P, pn, hw, hPR⟩, ⟨Km, clm, Pm, pm, hwm⟩, ⟨KJ, clJ, PJ, pJ, hwJ, hJ⟩, ⟨rb, rx, ry, hrd⟩, hsc, ⟨co, hco⟩, ⟨se, hse⟩, hsh⟩ := id hc
  obtain ⟨hw0, ⟨gr, hgr, egr⟩, ⟨ru, hru, eru⟩, ⟨pq, hpf, epf⟩, hpl, ⟨fl, hfl, efl⟩, ⟨ca, hca, eca⟩, ⟨wa, hwa⟩, hpp, hhd⟩ := id hw
  show V _ _ _ _ [some (.ref 0), some (.int x)] _ _ _ _ _ _
  refine V.iload_n dX5_ground_0 rfl ?_
  refine V.callSv [_] dX5_ground_1 lk_X5_63 rfl (Nat.le_of_ble_eq_true rfl) (Nat.le_of_ble_eq_true rfl) (s5_isCell _ _ _ _ _) ?_
  refine V.if_eqB (tgt := 19) dX5_ground_4 (by decide) (fun c4 => ?_) (fun c4 => ?_)
  · refine V.iconst (v := -1) dX5_ground_19 (by decide) ?_
    exact V.iretP (by exact dX5_ground_20) rfl (by first | simp only [groundV, clampI (show c < 2147483648 by omega), c4, not_true_eq_false, not_false_eq_true, if_true, if_false, decide_true, decide_false, Bool.and_true, Bool.and_false, Bool.true_and, Bool.false_and, Bool.or_true, Bool.or_false, Bool.true_or, Bool.false_or, Bool.not_true, Bool.not_false, and_true, and_false, true_and, false_and, or_true, or_false, true_or, false_or, bIt, bIf, Bool.false_eq_true, reduceCtorEq] | simp only [groundV, c4, not_true_eq_false, not_false_eq_true, if_true, if_false, decide_true, decide_false, Bool.and_true, Bool.and_false, Bool.true_and, Bool.false_and, Bool.or_true, Bool.or_false, Bool.true_or, Bool.false_or, Bool.not_true, Bool.not_false, and_true, and_false, true_and, false_and, or_true, or_false, true_or, false_or, bIt, bIf, Bool.false_eq_true, reduceCtorEq]) rfl
  · obtain ⟨c, hc, rfl⟩ := wi_ex (by decide) c4
    refine V.aload_n dX5_ground_7 rfl ?_
    refine V.getf dX5_ground_8 fl_X5_18 ht0 rfl ?_
    refine V.getf dX5_ground_11 fl_X5_67 hw0 rfl ?_
    refine V.iload_n dX5_ground_14 rfl ?_
    refine V.ialdN dX5_ground_15 hgr (by omega) (by decide) ?_
    rw [egr _ (by omega)]
    refine V.goto (tgt := 20) dX5_ground_16 (by decide) ?_
    exact V.iretP (by exact dX5_ground_20) rfl (by first | simp only [groundV, clampI (show c < 2147483648 by omega), c4, not_true_eq_false, not_false_eq_true, if_true, if_false, decide_true, decide_false, Bool.and_true, Bool.and_false, Bool.true_and, Bool.false_and, Bool.or_true, Bool.or_false, Bool.true_or, Bool.false_or, Bool.not_true, Bool.not_false, and_true, and_false, true_and, false_and, or_true, or_false, true_or, false_or, bIt, bIf, Bool.false_eq_true, reduceCtorEq] | simp only [groundV, c4, not_true_eq_false, not_false_eq_true, if_true, if_false, decide_true, decide_false, Bool.and_true, Bool.and_false, Bool.true_and, Bool.false_and, Bool.or_true, Bool.or_false, Bool.true_or, Bool.false_or, Bool.not_true, Bool.not_false, and_true, and_false, true_and, false_and, or_true, or_false, true_or, false_or, bIt, bIf, Bool.false_eq_true, reduceCtorEq]) rfl
set_option maxRecDepth 20000 in
set_option maxHeartbeats 4000000 in
theorem x_rule (l : Launch) (d : Nat) (h : MH) (n : Nat) (K : KK) (b : Bool) (KI : KK) (S : SS) (m : Nat) (hc : ClsAt h K b KI S) (hT : TI K m) (x : Int32) : Sp l mX5_rule (d + 1) [.ref 0, .int x] h n 0 0 (Pv (ruleV K x) h n) := by
  have hD := hT.1
  have hm := hD.1.1
  have hm10 := hD.1.2.1
  obtain ⟨ht0, ⟨sq, hsq, esq⟩, ⟨cl, P, pn, hw, hPR⟩, ⟨Km, clm, Pm, pm, hwm⟩, ⟨KJ, clJ, PJ, pJ, hwJ, hJ⟩, ⟨rb, rx, ry, hrd⟩, hsc, ⟨co, hco⟩, ⟨se, hse⟩, hsh⟩ := id hc
  obtain ⟨hw0, ⟨gr, hgr, egr⟩, ⟨ru, hru, eru⟩, ⟨pq, hpf, epf⟩, hpl, ⟨fl, hfl, efl⟩, ⟨ca, hca, eca⟩, ⟨wa, hwa⟩, hpp, hhd⟩ := id hw
  show V _ _ _ _ [some (.ref 0), some (.int x)] _ _ _ _ _ _
  refine V.iload_n dX5_rule_0 rfl ?_
  refine V.iconst (v := nI 0) dX5_rule_1 (by decide) ?_
  refine V.iconst (v := nI 5) dX5_rule_2 (by decide) ?_
  refine V.callSv [_, _, _] dX5_rule_3 lk_X5_71 rfl (Nat.le_of_ble_eq_true rfl) (Nat.le_of_ble_eq_true rfl) (s5_within _ _ _ _ _ _ _) ?_
  refine V.if_eqB (tgt := 21) dX5_rule_6 (by decide) (fun c6 => ?_) (fun c6 => ?_)
  · refine V.iconst (v := -1) dX5_rule_21 (by decide) ?_
    exact V.iretP (by exact dX5_rule_22) rfl (by first | simp only [ruleV, clampI (show c < 2147483648 by omega), c6, not_true_eq_false, not_false_eq_true, if_true, if_false, decide_true, decide_false, Bool.and_true, Bool.and_false, Bool.true_and, Bool.false_and, Bool.or_true, Bool.or_false, Bool.true_or, Bool.false_or, Bool.not_true, Bool.not_false, and_true, and_false, true_and, false_and, or_true, or_false, true_or, false_or, bIt, bIf, Bool.false_eq_true, reduceCtorEq] | simp only [ruleV, c6, not_true_eq_false, not_false_eq_true, if_true, if_false, decide_true, decide_false, Bool.and_true, Bool.and_false, Bool.true_and, Bool.false_and, Bool.or_true, Bool.or_false, Bool.true_or, Bool.false_or, Bool.not_true, Bool.not_false, and_true, and_false, true_and, false_and, or_true, or_false, true_or, false_or, bIt, bIf, Bool.false_eq_true, reduceCtorEq]) rfl
  · obtain ⟨c, hc, rfl⟩ := wi_ex (by decide) c6
    refine V.aload_n dX5_rule_9 rfl ?_
    refine V.getf dX5_rule_10 fl_X5_18 ht0 rfl ?_
    refine V.getf dX5_rule_13 fl_X5_75 hw0 rfl ?_
    refine V.iload_n dX5_rule_16 rfl ?_
    refine V.ialdN dX5_rule_17 hru (by omega) (by decide) ?_
    rw [eru _ (by omega)]
    refine V.goto (tgt := 22) dX5_rule_18 (by decide) ?_
    exact V.iretP (by exact dX5_rule_22) rfl (by first | simp only [ruleV, clampI (show c < 2147483648 by omega), c6, not_true_eq_false, not_false_eq_true, if_true, if_false, decide_true, decide_false, Bool.and_true, Bool.and_false, Bool.true_and, Bool.false_and, Bool.or_true, Bool.or_false, Bool.true_or, Bool.false_or, Bool.not_true, Bool.not_false, and_true, and_false, true_and, false_and, or_true, or_false, true_or, false_or, bIt, bIf, Bool.false_eq_true, reduceCtorEq] | simp only [ruleV, c6, not_true_eq_false, not_false_eq_true, if_true, if_false, decide_true, decide_false, Bool.and_true, Bool.and_false, Bool.true_and, Bool.false_and, Bool.or_true, Bool.or_false, Bool.true_or, Bool.false_or, Bool.not_true, Bool.not_false, and_true, and_false, true_and, false_and, or_true, or_false, true_or, false_or, bIt, bIf, Bool.false_eq_true, reduceCtorEq]) rfl
set_option maxRecDepth 20000 in
set_option maxHeartbeats 4000000 in
theorem x_flag (l : Launch) (d : Nat) (h : MH) (n : Nat) (K : KK) (b : Bool) (KI : KK) (S : SS) (m : Nat) (hc : ClsAt h K b KI S) (hT : TI K m) (x y : Int32) : Sp l mX5_flag (d + 2) [.ref 0, .int x, .int y] h n 0 0 (Pv (flagV K x y) h n) := by
  have hD := hT.1
  have hm := hD.1.1
  have hm10 := hD.1.2.1
  obtain ⟨ht0, ⟨sq, hsq, esq⟩, ⟨cl, P, pn, hw, hPR⟩, ⟨Km, clm, Pm, pm, hwm⟩, ⟨KJ, clJ, PJ, pJ, hwJ, hJ⟩, ⟨rb, rx, ry, hrd⟩, hsc, ⟨co, hco⟩, ⟨se, hse⟩, hsh⟩ := id hc
  obtain ⟨hw0, ⟨gr, hgr, egr⟩, ⟨ru, hru, eru⟩, ⟨pq, hpf, epf⟩, hpl, ⟨fl, hfl, efl⟩, ⟨ca, hca, eca⟩, ⟨wa, hwa⟩, hpp, hhd⟩ := id hw
  show V _ _ _ _ [some (.ref 0), some (.int x), some (.int y)] _ _ _ _ _ _
  refine V.iload_n dX5_flag_0 rfl ?_
  refine V.callSv [_] dX5_flag_1 lk_X5_132 rfl (Nat.le_of_ble_eq_true rfl) (Nat.le_of_ble_eq_true rfl) (s5_isSide _ _ _ _ _) ?_
  refine V.if_neB (tgt := 9) dX5_flag_4 (by decide) (fun c4 => ?_) (fun c4 => ?_)
  · obtain ⟨c, hc, rfl⟩ := wi_ex (by decide) c4
    refine V.iload_n dX5_flag_9 rfl ?_
    rcases sw_cases y 0 1 (by decide) with ⟨jx, hj1, hj2, rfl⟩ | hx10
    · have hjx : jx = 0 ∨ jx = 1 := by omega
      rcases hjx with rfl | rfl
      · refine V.lookup (off := 26) (tgt := 36) dX5_flag_10 (by decide) (by decide) (by decide) ?_
        refine V.aload_n dX5_flag_36 rfl ?_
        refine V.getf dX5_flag_37 fl_X5_18 ht0 rfl ?_
        refine V.getf dX5_flag_40 fl_X5_135 hw0 rfl ?_
        refine V.iload_n dX5_flag_43 rfl ?_
        refine V.ialdN dX5_flag_44 hfl (by omega) (by decide) ?_
        rw [efl _ (by omega)]
        exact V.iretP (by exact dX5_flag_45) rfl (by first | (simp only [flagV, clampI (show c < 2147483648 by omega), c4, not_true_eq_false, not_false_eq_true, if_true, if_false, decide_true, decide_false, Bool.and_true, Bool.and_false, Bool.true_and, Bool.false_and, Bool.or_true, Bool.or_false, Bool.true_or, Bool.false_or, Bool.not_true, Bool.not_false, and_true, and_false, true_and, false_and, or_true, or_false, true_or, false_or, bIt, bIf, Bool.false_eq_true, reduceCtorEq]; exact Eq.symm (Eq.trans (swL_in (j := 0) (n := 1) _ _ (by decide) (by decide)) rfl)) | simp only [flagV, c4, not_true_eq_false, not_false_eq_true, if_true, if_false, decide_true, decide_false, Bool.and_true, Bool.and_false, Bool.true_and, Bool.false_and, Bool.or_true, Bool.or_false, Bool.true_or, Bool.false_or, Bool.not_true, Bool.not_false, and_true, and_false, true_and, false_and, or_true, or_false, true_or, false_or, bIt, bIf, Bool.false_eq_true, reduceCtorEq]) rfl
      · refine V.lookup (off := 36) (tgt := 46) dX5_flag_10 (by decide) (by decide) (by decide) ?_
        refine V.aload_n dX5_flag_46 rfl ?_
        refine V.getf dX5_flag_47 fl_X5_18 ht0 rfl ?_
        refine V.getf dX5_flag_50 fl_X5_138 hw0 rfl ?_
        refine V.iload_n dX5_flag_53 rfl ?_
        refine V.ialdN dX5_flag_54 hca (by omega) (by decide) ?_
        rw [eca _ (by omega)]
        exact V.iretP (by exact dX5_flag_55) rfl (by first | (simp only [flagV, clampI (show c < 2147483648 by omega), c4, not_true_eq_false, not_false_eq_true, if_true, if_false, decide_true, decide_false, Bool.and_true, Bool.and_false, Bool.true_and, Bool.false_and, Bool.or_true, Bool.or_false, Bool.true_or, Bool.false_or, Bool.not_true, Bool.not_false, and_true, and_false, true_and, false_and, or_true, or_false, true_or, false_or, bIt, bIf, Bool.false_eq_true, reduceCtorEq]; exact Eq.symm (Eq.trans (swL_in (j := 1) (n := 1) _ _ (by decide) (by decide)) rfl)) | simp only [flagV, c4, not_true_eq_false, not_false_eq_true, if_true, if_false, decide_true, decide_false, Bool.and_true, Bool.and_false, Bool.true_and, Bool.false_and, Bool.or_true, Bool.or_false, Bool.true_or, Bool.false_or, Bool.not_true, Bool.not_false, and_true, and_false, true_and, false_and, or_true, or_false, true_or, false_or, bIt, bIf, Bool.false_eq_true, reduceCtorEq]) rfl
    · refine V.lookup (off := 46) (tgt := 56) dX5_flag_10 (by decide) (lk_out (by decide) hx10) (by decide) ?_
      refine V.iconst (v := -1) dX5_flag_56 (by decide) ?_
      exact V.iretP (by exact dX5_flag_57) rfl (by first | (simp only [flagV, clampI (show c < 2147483648 by omega), c4, not_true_eq_false, not_false_eq_true, if_true, if_false, decide_true, decide_false, Bool.and_true, Bool.and_false, Bool.true_and, Bool.false_and, Bool.or_true, Bool.or_false, Bool.true_or, Bool.false_or, Bool.not_true, Bool.not_false, and_true, and_false, true_and, false_and, or_true, or_false, true_or, false_or, bIt, bIf, Bool.false_eq_true, reduceCtorEq]; exact Eq.symm (swL_out (n := 1) _ _ (by decide) hx10)) | simp only [flagV, c4, not_true_eq_false, not_false_eq_true, if_true, if_false, decide_true, decide_false, Bool.and_true, Bool.and_false, Bool.true_and, Bool.false_and, Bool.or_true, Bool.or_false, Bool.true_or, Bool.false_or, Bool.not_true, Bool.not_false, and_true, and_false, true_and, false_and, or_true, or_false, true_or, false_or, bIt, bIf, Bool.false_eq_true, reduceCtorEq]) rfl
  · refine V.iconst (v := -1) dX5_flag_7 (by decide) ?_
    exact V.iretP (by exact dX5_flag_8) rfl (by first | (simp only [flagV, clampI (show c < 2147483648 by omega), c4, not_true_eq_false, not_false_eq_true, if_true, if_false, decide_true, decide_false, Bool.and_true, Bool.and_false, Bool.true_and, Bool.false_and, Bool.or_true, Bool.or_false, Bool.true_or, Bool.false_or, Bool.not_true, Bool.not_false, and_true, and_false, true_and, false_and, or_true, or_false, true_or, false_or, bIt, bIf, Bool.false_eq_true, reduceCtorEq]; skip) | simp only [flagV, c4, not_true_eq_false, not_false_eq_true, if_true, if_false, decide_true, decide_false, Bool.and_true, Bool.and_false, Bool.true_and, Bool.false_and, Bool.or_true, Bool.or_false, Bool.true_or, Bool.false_or, Bool.not_true, Bool.not_false, and_true, and_false, true_and, false_and, or_true, or_false, true_or, false_or, bIt, bIf, Bool.false_eq_true, reduceCtorEq]) rfl
set_option maxRecDepth 20000 in
set_option maxHeartbeats 4000000 in
theorem x_near (l : Launch) (d : Nat) (h : MH) (n : Nat) (K : KK) (b : Bool) (KI : KK) (S : SS) (m : Nat) (hc : ClsAt h K b KI S) (hT : TI K m) (x y : Int32) : Sp l mX5_near (d + 2) [.ref 0, .int x, .int y] h n 0 0 (Pv (nearV x y) h n) := by
  have hD := hT.1
  have hm := hD.1.1
  have hm10 := hD.1.2.1
  obtain ⟨ht0, ⟨sq, hsq, esq⟩, ⟨cl, P, pn, hw, hPR⟩, ⟨Km, clm, Pm, pm, hwm⟩, ⟨KJ, clJ, PJ, pJ, hwJ, hJ⟩, ⟨rb, rx, ry, hrd⟩, hsc, ⟨co, hco⟩, ⟨se, hse⟩, hsh⟩ := id hc
  obtain ⟨hw0, ⟨gr, hgr, egr⟩, ⟨ru, hru, eru⟩, ⟨pq, hpf, epf⟩, hpl, ⟨fl, hfl, efl⟩, ⟨ca, hca, eca⟩, ⟨wa, hwa⟩, hpp, hhd⟩ := id hw
  show V _ _ _ _ [some (.ref 0), some (.int x), some (.int y)] _ _ _ _ _ _
  refine V.iload_n dX5_near_0 rfl ?_
  refine V.callSv [_] dX5_near_1 lk_X5_63 rfl (Nat.le_of_ble_eq_true rfl) (Nat.le_of_ble_eq_true rfl) (s5_isCell _ _ _ _ _) ?_
  refine V.if_eqB (tgt := 22) dX5_near_4 (by decide) (fun c4 => ?_) (fun c4 => ?_)
  · refine V.iconst (v := -1) dX5_near_22 (by decide) ?_
    exact V.iretP (by exact dX5_near_23) rfl (by simp only [nearV, c4, not_true_eq_false, not_false_eq_true, if_true, if_false, decide_true, decide_false, Bool.and_true, Bool.and_false, Bool.true_and, Bool.false_and, Bool.or_true, Bool.or_false, Bool.true_or, Bool.false_or, Bool.not_true, Bool.not_false, and_true, and_false, true_and, false_and, or_true, or_false, true_or, false_or, bIt, bIf, Bool.false_eq_true, reduceCtorEq]) rfl
  · refine V.iload_n dX5_near_7 rfl ?_
    refine V.callSv [_] dX5_near_8 lk_X5_63 rfl (Nat.le_of_ble_eq_true rfl) (Nat.le_of_ble_eq_true rfl) (s5_isCell _ _ _ _ _) ?_
    refine V.if_eqB (tgt := 22) dX5_near_11 (by decide) (fun c11 => ?_) (fun c11 => ?_)
    · refine V.iconst (v := -1) dX5_near_22 (by decide) ?_
      exact V.iretP (by exact dX5_near_23) rfl (by simp only [nearV, c4, c11, not_true_eq_false, not_false_eq_true, if_true, if_false, decide_true, decide_false, Bool.and_true, Bool.and_false, Bool.true_and, Bool.false_and, Bool.or_true, Bool.or_false, Bool.true_or, Bool.false_or, Bool.not_true, Bool.not_false, and_true, and_false, true_and, false_and, or_true, or_false, true_or, false_or, bIt, bIf, Bool.false_eq_true, reduceCtorEq]) rfl
    · refine V.iload_n dX5_near_14 rfl ?_
      refine V.iload_n dX5_near_15 rfl ?_
      refine V.callSv [_, _] dX5_near_16 lk_X5_141 rfl (Nat.le_of_ble_eq_true rfl) (Nat.le_of_ble_eq_true rfl) (s5_between _ _ _ _ _ _) ?_
      refine V.goto (tgt := 23) dX5_near_19 (by decide) ?_
      exact V.iretP (by exact dX5_near_23) rfl (by simp only [nearV, c4, c11, not_true_eq_false, not_false_eq_true, if_true, if_false, decide_true, decide_false, Bool.and_true, Bool.and_false, Bool.true_and, Bool.false_and, Bool.or_true, Bool.or_false, Bool.true_or, Bool.false_or, Bool.not_true, Bool.not_false, and_true, and_false, true_and, false_and, or_true, or_false, true_or, false_or, bIt, bIf, Bool.false_eq_true, reduceCtorEq]) rfl
set_option maxRecDepth 20000 in
set_option maxHeartbeats 4000000 in
theorem x_state (l : Launch) (d : Nat) (h : MH) (n : Nat) (K : KK) (b : Bool) (KI : KK) (S : SS) (m : Nat) (hc : ClsAt h K b KI S) (hT : TI K m) (x : Int32) : Sp l mX5_state (d + 1) [.ref 0, .int x] h n 0 0 (Pv (stateV K m x) h n) := by
  have hD := hT.1
  have hm := hD.1.1
  have hm10 := hD.1.2.1
  obtain ⟨ht0, ⟨sq, hsq, esq⟩, ⟨cl, P, pn, hw, hPR⟩, ⟨Km, clm, Pm, pm, hwm⟩, ⟨KJ, clJ, PJ, pJ, hwJ, hJ⟩, ⟨rb, rx, ry, hrd⟩, hsc, ⟨co, hco⟩, ⟨se, hse⟩, hsh⟩ := id hc
  obtain ⟨hw0, ⟨gr, hgr, egr⟩, ⟨ru, hru, eru⟩, ⟨pq, hpf, epf⟩, hpl, ⟨fl, hfl, efl⟩, ⟨ca, hca, eca⟩, ⟨wa, hwa⟩, hpp, hhd⟩ := id hw
  show V _ _ _ _ [some (.ref 0), some (.int x)] _ _ _ _ _ _
  refine V.iload_n dX5_state_0 rfl ?_
  rcases sw_cases x 0 5 (by decide) with ⟨jx, hj1, hj2, rfl⟩ | hx1
  · have hjx : jx = 0 ∨ jx = 1 ∨ jx = 2 ∨ jx = 3 ∨ jx = 4 ∨ jx = 5 := by omega
    rcases hjx with rfl | rfl | rfl | rfl | rfl | rfl
    · refine V.tableIn (off := 39) (tgt := 40) dX5_state_1 (by decide) (by decide) rfl (by decide) ?_
      refine V.aload_n dX5_state_40 rfl ?_
      refine V.getf dX5_state_41 fl_X5_18 ht0 rfl ?_
      refine V.getf dX5_state_44 fl_X5_154 hw0 rfl ?_
      exact V.iretP (by exact dX5_state_47) rfl (by simp only [stateV, not_true_eq_false, not_false_eq_true, if_true, if_false, decide_true, decide_false, Bool.and_true, Bool.and_false, Bool.true_and, Bool.false_and, Bool.or_true, Bool.or_false, Bool.true_or, Bool.false_or, Bool.not_true, Bool.not_false, and_true, and_false, true_and, false_and, or_true, or_false, true_or, false_or, bIt, bIf, Bool.false_eq_true, reduceCtorEq]; exact Eq.symm (Eq.trans (swL_in (j := 0) (n := 5) _ _ (by decide) (by decide)) rfl)) rfl
    · refine V.tableIn (off := 47) (tgt := 48) dX5_state_1 (by decide) (by decide) rfl (by decide) ?_
      refine V.aload_n dX5_state_48 rfl ?_
      refine V.getf dX5_state_49 fl_X5_18 ht0 rfl ?_
      refine V.getf dX5_state_52 fl_X5_157 hw0 rfl ?_
      exact V.iretP (by exact dX5_state_55) rfl (by simp only [stateV, not_true_eq_false, not_false_eq_true, if_true, if_false, decide_true, decide_false, Bool.and_true, Bool.and_false, Bool.true_and, Bool.false_and, Bool.or_true, Bool.or_false, Bool.true_or, Bool.false_or, Bool.not_true, Bool.not_false, and_true, and_false, true_and, false_and, or_true, or_false, true_or, false_or, bIt, bIf, Bool.false_eq_true, reduceCtorEq]; exact Eq.symm (Eq.trans (swL_in (j := 1) (n := 5) _ _ (by decide) (by decide)) rfl)) rfl
    · refine V.tableIn (off := 55) (tgt := 56) dX5_state_1 (by decide) (by decide) rfl (by decide) ?_
      refine V.aload_n dX5_state_56 rfl ?_
      refine V.getf dX5_state_57 fl_X5_18 ht0 rfl ?_
      refine V.callVv [] dX5_state_60 lk_X5_147 rfl (Nat.le_of_ble_eq_true rfl) (Nat.le_of_ble_eq_true rfl) hw0 rfl (s4_ended _ _ _ _ _ _ _ _ _ hw) ?_
      refine V.if_eqB (tgt := 70) dX5_state_63 (by decide) (fun c63 => ?_) (fun c63 => ?_)
      · refine V.iconst (v := nI 0) dX5_state_70 (by decide) ?_
        exact V.iretP (by exact dX5_state_71) rfl (by simp only [stateV, c63, not_true_eq_false, not_false_eq_true, if_true, if_false, decide_true, decide_false, Bool.and_true, Bool.and_false, Bool.true_and, Bool.false_and, Bool.or_true, Bool.or_false, Bool.true_or, Bool.false_or, Bool.not_true, Bool.not_false, and_true, and_false, true_and, false_and, or_true, or_false, true_or, false_or, bIt, bIf, Bool.false_eq_true, reduceCtorEq]; exact Eq.symm (Eq.trans (swL_in (j := 2) (n := 5) _ _ (by decide) (by decide)) rfl)) rfl
      · refine V.iconst (v := nI 1) dX5_state_66 (by decide) ?_
        refine V.goto (tgt := 71) dX5_state_67 (by decide) ?_
        exact V.iretP (by exact dX5_state_71) rfl (by simp only [stateV, c63, not_true_eq_false, not_false_eq_true, if_true, if_false, decide_true, decide_false, Bool.and_true, Bool.and_false, Bool.true_and, Bool.false_and, Bool.or_true, Bool.or_false, Bool.true_or, Bool.false_or, Bool.not_true, Bool.not_false, and_true, and_false, true_and, false_and, or_true, or_false, true_or, false_or, bIt, bIf, Bool.false_eq_true, reduceCtorEq]; exact Eq.symm (Eq.trans (swL_in (j := 2) (n := 5) _ _ (by decide) (by decide)) rfl)) rfl
    · refine V.tableIn (off := 71) (tgt := 72) dX5_state_1 (by decide) (by decide) rfl (by decide) ?_
      refine V.aload_n dX5_state_72 rfl ?_
      refine V.getf dX5_state_73 fl_X5_18 ht0 rfl ?_
      refine V.iconst (v := nI 0) dX5_state_76 (by decide) ?_
      refine V.callVv [_] dX5_state_77 lk_X5_160 rfl (Nat.le_of_ble_eq_true rfl) (Nat.le_of_ble_eq_true rfl) hw0 rfl (s4_heldOf _ _ _ _ _ _ _ _ _ hw _ _ hm hm10) ?_
      refine V.aload_n dX5_state_80 rfl ?_
      refine V.getf dX5_state_81 fl_X5_18 ht0 rfl ?_
      refine V.iconst (v := nI 1) dX5_state_84 (by decide) ?_
      refine V.callVv [_] dX5_state_85 lk_X5_160 rfl (Nat.le_of_ble_eq_true rfl) (Nat.le_of_ble_eq_true rfl) hw0 rfl (s4_heldOf _ _ _ _ _ _ _ _ _ hw _ _ hm hm10) ?_
      refine V.iadd dX5_state_88 ?_
      exact V.iretP (by exact dX5_state_89) rfl (by simp only [stateV, not_true_eq_false, not_false_eq_true, if_true, if_false, decide_true, decide_false, Bool.and_true, Bool.and_false, Bool.true_and, Bool.false_and, Bool.or_true, Bool.or_false, Bool.true_or, Bool.false_or, Bool.not_true, Bool.not_false, and_true, and_false, true_and, false_and, or_true, or_false, true_or, false_or, bIt, bIf, Bool.false_eq_true, reduceCtorEq]; exact Eq.symm (Eq.trans (swL_in (j := 3) (n := 5) _ _ (by decide) (by decide)) rfl)) rfl
    · refine V.tableIn (off := 89) (tgt := 90) dX5_state_1 (by decide) (by decide) rfl (by decide) ?_
      refine V.aload_n dX5_state_90 rfl ?_
      refine V.getf dX5_state_91 fl_X5_18 ht0 rfl ?_
      refine V.getf dX5_state_94 fl_X5_163 hw0 rfl ?_
      exact V.iretP (by exact dX5_state_97) rfl (by simp only [stateV, not_true_eq_false, not_false_eq_true, if_true, if_false, decide_true, decide_false, Bool.and_true, Bool.and_false, Bool.true_and, Bool.false_and, Bool.or_true, Bool.or_false, Bool.true_or, Bool.false_or, Bool.not_true, Bool.not_false, and_true, and_false, true_and, false_and, or_true, or_false, true_or, false_or, bIt, bIf, Bool.false_eq_true, reduceCtorEq]; exact Eq.symm (Eq.trans (swL_in (j := 4) (n := 5) _ _ (by decide) (by decide)) rfl)) rfl
    · refine V.tableIn (off := 97) (tgt := 98) dX5_state_1 (by decide) (by decide) rfl (by decide) ?_
      refine V.aload_n dX5_state_98 rfl ?_
      refine V.getf dX5_state_99 fl_X5_18 ht0 rfl ?_
      refine V.getf dX5_state_102 fl_X5_166 hw0 rfl ?_
      exact V.iretP (by exact dX5_state_105) rfl (by simp only [stateV, not_true_eq_false, not_false_eq_true, if_true, if_false, decide_true, decide_false, Bool.and_true, Bool.and_false, Bool.true_and, Bool.false_and, Bool.or_true, Bool.or_false, Bool.true_or, Bool.false_or, Bool.not_true, Bool.not_false, and_true, and_false, true_and, false_and, or_true, or_false, true_or, false_or, bIt, bIf, Bool.false_eq_true, reduceCtorEq]; exact Eq.symm (Eq.trans (swL_in (j := 5) (n := 5) _ _ (by decide) (by decide)) rfl)) rfl
  · refine V.tableOut (tgt := 106) dX5_state_1 hx1 (by decide) ?_
    refine V.iconst (v := -1) dX5_state_106 (by decide) ?_
    exact V.iretP (by exact dX5_state_107) rfl (by simp only [stateV, not_true_eq_false, not_false_eq_true, if_true, if_false, decide_true, decide_false, Bool.and_true, Bool.and_false, Bool.true_and, Bool.false_and, Bool.or_true, Bool.or_false, Bool.true_or, Bool.false_or, Bool.not_true, Bool.not_false, and_true, and_false, true_and, false_and, or_true, or_false, true_or, false_or, bIt, bIf, Bool.false_eq_true, reduceCtorEq]; exact Eq.symm (swL_out (n := 5) _ _ (by decide) hx1)) rfl
