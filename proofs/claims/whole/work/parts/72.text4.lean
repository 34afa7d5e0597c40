/-- a new player -/
def plW (K : KK) (m : Nat) (s k f c : Int32) : KK := upd (upd (upd (upd (upd (upd (upd K (114 + 7 * m + 0) s) (114 + 7 * m + 1) k) (114 + 7 * m + 2) f) (114 + 7 * m + 3) c) (114 + 7 * m + 4) c) (114 + 7 * m + 5) (nI 0)) (114 + 7 * m + 6) (nI 0)
def plU (K : KK) (m : Nat) (s k f c : Int32) : KK := upd (plW K m s k f c) 90 (nI (m + 1))
def ePl (s k f c : Int32) (K : KK) (m : Nat) : Option KK := if (!begB K && (wi s (nI 0) (nI 1) && (wi k (nI 0) (nI 7) && (decide (m < 10) && hmB K s c)))) = true then some (plU K m s k f c) else none
theorem plW_out (K : KK) (m : Nat) (s k f c : Int32) (j : Nat) (hj : j < 114 + 7 * m ∨ 114 + 7 * m + 7 ≤ j) : plW K m s k f c j = K j := by
  unfold plW
  rw [pk_un (by omega), pk_un (by omega), pk_un (by omega), pk_un (by omega), pk_un (by omega), pk_un (by omega), pk_un (by omega)]
theorem plW_pF (K : KK) (m : Nat) (s k f c : Int32) (cl : Nat → Int32) : pF (plW K m s k f c) cl m = [.int s, .int k, .int f, .int c, .int c, .int (nI 0), .int (nI 0), .int (nI 0)] := by
  have q1 : ¬ nI 0 = nI 1 := by decide
  have q2 : ¬ nI 0 = nI 2 := by decide
  simp only [plW, pF, cAt, gP_upd _ _ _ _ _ _ (show 0 < 7 by omega) (show 0 < 7 by omega), gP_upd _ _ _ _ _ _ (show 0 < 7 by omega) (show 1 < 7 by omega), gP_upd _ _ _ _ _ _ (show 0 < 7 by omega) (show 2 < 7 by omega), gP_upd _ _ _ _ _ _ (show 0 < 7 by omega) (show 3 < 7 by omega), gP_upd _ _ _ _ _ _ (show 0 < 7 by omega) (show 4 < 7 by omega), gP_upd _ _ _ _ _ _ (show 0 < 7 by omega) (show 5 < 7 by omega), gP_upd _ _ _ _ _ _ (show 0 < 7 by omega) (show 6 < 7 by omega), gP_upd _ _ _ _ _ _ (show 1 < 7 by omega) (show 0 < 7 by omega), gP_upd _ _ _ _ _ _ (show 1 < 7 by omega) (show 1 < 7 by omega), gP_upd _ _ _ _ _ _ (show 1 < 7 by omega) (show 2 < 7 by omega), gP_upd _ _ _ _ _ _ (show 1 < 7 by omega) (show 3 < 7 by omega), gP_upd _ _ _ _ _ _ (show 1 < 7 by omega) (show 4 < 7 by omega), gP_upd _ _ _ _ _ _ (show 1 < 7 by omega) (show 5 < 7 by omega), gP_upd _ _ _ _ _ _ (show 1 < 7 by omega) (show 6 < 7 by omega), gP_upd _ _ _ _ _ _ (show 2 < 7 by omega) (show 0 < 7 by omega), gP_upd _ _ _ _ _ _ (show 2 < 7 by omega) (show 1 < 7 by omega), gP_upd _ _ _ _ _ _ (show 2 < 7 by omega) (show 2 < 7 by omega), gP_upd _ _ _ _ _ _ (show 2 < 7 by omega) (show 3 < 7 by omega), gP_upd _ _ _ _ _ _ (show 2 < 7 by omega) (show 4 < 7 by omega), gP_upd _ _ _ _ _ _ (show 2 < 7 by omega) (show 5 < 7 by omega), gP_upd _ _ _ _ _ _ (show 2 < 7 by omega) (show 6 < 7 by omega), gP_upd _ _ _ _ _ _ (show 3 < 7 by omega) (show 0 < 7 by omega), gP_upd _ _ _ _ _ _ (show 3 < 7 by omega) (show 1 < 7 by omega), gP_upd _ _ _ _ _ _ (show 3 < 7 by omega) (show 2 < 7 by omega), gP_upd _ _ _ _ _ _ (show 3 < 7 by omega) (show 3 < 7 by omega), gP_upd _ _ _ _ _ _ (show 3 < 7 by omega) (show 4 < 7 by omega), gP_upd _ _ _ _ _ _ (show 3 < 7 by omega) (show 5 < 7 by omega), gP_upd _ _ _ _ _ _ (show 3 < 7 by omega) (show 6 < 7 by omega), gP_upd _ _ _ _ _ _ (show 4 < 7 by omega) (show 0 < 7 by omega), gP_upd _ _ _ _ _ _ (show 4 < 7 by omega) (show 1 < 7 by omega), gP_upd _ _ _ _ _ _ (show 4 < 7 by omega) (show 2 < 7 by omega), gP_upd _ _ _ _ _ _ (show 4 < 7 by omega) (show 3 < 7 by omega), gP_upd _ _ _ _ _ _ (show 4 < 7 by omega) (show 4 < 7 by omega), gP_upd _ _ _ _ _ _ (show 4 < 7 by omega) (show 5 < 7 by omega), gP_upd _ _ _ _ _ _ (show 4 < 7 by omega) (show 6 < 7 by omega), gP_upd _ _ _ _ _ _ (show 5 < 7 by omega) (show 0 < 7 by omega), gP_upd _ _ _ _ _ _ (show 5 < 7 by omega) (show 1 < 7 by omega), gP_upd _ _ _ _ _ _ (show 5 < 7 by omega) (show 2 < 7 by omega), gP_upd _ _ _ _ _ _ (show 5 < 7 by omega) (show 3 < 7 by omega), gP_upd _ _ _ _ _ _ (show 5 < 7 by omega) (show 4 < 7 by omega), gP_upd _ _ _ _ _ _ (show 5 < 7 by omega) (show 5 < 7 by omega), gP_upd _ _ _ _ _ _ (show 5 < 7 by omega) (show 6 < 7 by omega), gP_upd _ _ _ _ _ _ (show 6 < 7 by omega) (show 0 < 7 by omega), gP_upd _ _ _ _ _ _ (show 6 < 7 by omega) (show 1 < 7 by omega), gP_upd _ _ _ _ _ _ (show 6 < 7 by omega) (show 2 < 7 by omega), gP_upd _ _ _ _ _ _ (show 6 < 7 by omega) (show 3 < 7 by omega), gP_upd _ _ _ _ _ _ (show 6 < 7 by omega) (show 4 < 7 by omega), gP_upd _ _ _ _ _ _ (show 6 < 7 by omega) (show 5 < 7 by omega), gP_upd _ _ _ _ _ _ (show 6 < 7 by omega) (show 6 < 7 by omega)]
  simp [q1, q2, bIf]
theorem WoodAt.many {h : MH} {w : Nat} {K : KK} {cl P : Nat → Int32} {pn : Nat} (hw : WoodAt h w K cl P pn) (v : Int32) : WoodAt (hset h w (.inr (4, woF (upd K 90 v) w pn))) w (upd K 90 v) cl P pn := by
  obtain ⟨a0, ⟨gr, b1, c1⟩, ⟨ru, b2, c2⟩, ⟨pq, b3, c3⟩, a4, ⟨fl, b5, c5⟩, ⟨ca, b6, c6⟩, ⟨wa, b7⟩, b8, b9⟩ := hw
  have hl : ∀ i, i ≠ 90 → upd K 90 v i = K i := fun i hi => pk_un hi
  refine ⟨hset_self _ _ _, ⟨gr, o_ne b1 (by omega), fun c hc => by rw [hl _ (by omega)]; exact c1 c hc⟩, ⟨ru, o_ne b2 (by omega), fun c hc => by rw [hl _ (by omega)]; exact c2 c hc⟩, ⟨pq, o_ne b3 (by omega), c3⟩, o_ne a4 (by omega), ⟨fl, o_ne b5 (by omega), fun i hi => by rw [hl _ (by omega)]; exact c5 i hi⟩, ⟨ca, o_ne b6 (by omega), fun i hi => by rw [hl _ (by omega)]; exact c6 i hi⟩, ⟨wa, o_ne b7 (by omega)⟩, fun i hi => ?_, fun i hi => by rw [gP_lo _ _ _ _ _ (by omega)]; exact b9 i hi⟩
  refine o_ne ?_ (by omega)
  rw [b8 i hi, pF_lo _ _ _ _ _ (by omega)]
theorem WoodAt.plan {h : MH} {w : Nat} {K K1 : KK} {cl P : Nat → Int32} {pn : Nat} (hw : WoodAt h w K cl P pn) (P1 : Nat → Int32) (pn1 : Nat) (hK : ∀ j, j < 100 ∨ 114 ≤ j → K1 j = K j) : WoodAt (hset (hset h (w + 4) (.inl (0, 16, .inl P1))) w (.inr (4, woF K w pn1))) w K1 cl P1 pn1 := by
  obtain ⟨a0, ⟨gr, b1, c1⟩, ⟨ru, b2, c2⟩, ⟨pq, b3, c3⟩, a4, ⟨fl, b5, c5⟩, ⟨ca, b6, c6⟩, ⟨wa, b7⟩, b8, b9⟩ := hw
  have hg : ∀ p u, gP K1 p u = gP K p u := fun p u => hK _ (by omega)
  refine ⟨?_, ⟨gr, o_ne (o_ne b1 (by omega)) (by omega), fun c hc => by rw [hK _ (by omega)]; exact c1 c hc⟩, ⟨ru, o_ne (o_ne b2 (by omega)) (by omega), fun c hc => by rw [hK _ (by omega)]; exact c2 c hc⟩, ⟨pq, o_ne (o_ne b3 (by omega)) (by omega), c3⟩, o_ne (hset_self _ _ _) (by omega), ⟨fl, o_ne (o_ne b5 (by omega)) (by omega), fun i hi => by rw [hK _ (by omega)]; exact c5 i hi⟩, ⟨ca, o_ne (o_ne b6 (by omega)) (by omega), fun i hi => by rw [hK _ (by omega)]; exact c6 i hi⟩, ⟨wa, o_ne (o_ne b7 (by omega)) (by omega)⟩, fun i hi => ?_, fun i hi => by rw [hg]; exact b9 i hi⟩
  · rw [hset_self]
    simp only [woF, hK _ (show 90 < 100 ∨ 114 ≤ 90 by omega), hK _ (show 91 < 100 ∨ 114 ≤ 91 by omega), hK _ (show 92 < 100 ∨ 114 ≤ 92 by omega), hK _ (show 93 < 100 ∨ 114 ≤ 93 by omega), hK _ (show 94 < 100 ∨ 114 ≤ 94 by omega), hK _ (show 95 < 100 ∨ 114 ≤ 95 by omega)]
  · refine o_ne (o_ne ?_ (by omega)) (by omega)
    rw [b8 i hi]
    simp only [pF, cAt, hg]
set_option maxRecDepth 20000 in
set_option maxHeartbeats 4000000 in
theorem s4_addPlayer (l : Launch) (d : Nat) (h : MH) (n w : Nat) (K : KK) (cl P : Nat → Int32) (pn : Nat) (hw : WoodAt h w K cl P pn) (m : Nat) (hm : K 90 = nI m) (hm10 : m ≤ 10) (h2 : ∀ p, p < 10 → ¬ gP K p 5 = nI 2) (hPR : PR K P pn) (s k f : Int32) (c : Nat) (hc : c < 84) : Sp l mX4_addPlayer (d + 2) [.ref w, .int s, .int k, .int f, .int (nI c)] h n 0 0 (Cq w (ePl s k f (nI c) K m) h n) := by
  obtain ⟨hw0, ⟨gr, hgr, egr⟩, ⟨ru, hru, eru⟩, ⟨pq, hpf, epf⟩, hpl, ⟨fl, hfl, efl⟩, ⟨ca, hca, eca⟩, ⟨wa, hwa⟩, hpp, hhd⟩ := id hw
  show V _ _ _ _ [some (.ref w), some (.int s), some (.int k), some (.int f), some (.int (nI c)), none] _ _ _ _ _ _
  refine V.aload_n dX4_addPlayer_0 rfl ?_
  refine V.getf dX4_addPlayer_1 fl_X4_58 hw0 rfl ?_
  refine V.if_gt (tgt := 30) dX4_addPlayer_4 (by decide) (fun c4 => ?_) (fun c4 => ?_)
  · refine V.iconst (v := nI 0) dX4_addPlayer_30 (by decide) ?_
    have hr : ePl s k f (nI c) K m = none := by
      first
      | (simp only [ePl, begB, hmB, c4, not_true_eq_false, not_false_eq_true, if_true, if_false, decide_true, decide_false, Bool.and_true, Bool.and_false, Bool.true_and, Bool.false_and, Bool.or_true, Bool.or_false, Bool.true_or, Bool.false_or, Bool.not_true, Bool.not_false, and_true, and_false, true_and, false_and, or_true, or_false, true_or, false_or, bIt, bIf, Bool.false_eq_true, reduceCtorEq]; done)
      | (simp only [ePl, show ¬ m < 10 by omega, c4, not_true_eq_false, not_false_eq_true, if_true, if_false, decide_true, decide_false, Bool.and_true, Bool.and_false, Bool.true_and, Bool.false_and, Bool.or_true, Bool.or_false, Bool.true_or, Bool.false_or, Bool.not_true, Bool.not_false, and_true, and_false, true_and, false_and, or_true, or_false, true_or, false_or, bIt, bIf, Bool.false_eq_true, reduceCtorEq]; done)
    exact V.iret (by exact dX4_addPlayer_31) rfl (bI_narrow false) (by
      rw [hr]
      exact ⟨rfl, rfl, Out.rf h w, K, cl, P, pn, hw, fun K2 e => by cases e⟩)
  · refine V.iload_n dX4_addPlayer_7 rfl ?_
    refine V.callSv [_] dX4_addPlayer_8 lk_X4_110 rfl (Nat.le_of_ble_eq_true rfl) (Nat.le_of_ble_eq_true rfl) (s5_isSide _ _ _ _ _) ?_
    refine V.if_eqB (tgt := 30) dX4_addPlayer_11 (by decide) (fun c11 => ?_) (fun c11 => ?_)
    · refine V.iconst (v := nI 0) dX4_addPlayer_30 (by decide) ?_
      have hr : ePl s k f (nI c) K m = none := by
        first
        | (simp only [ePl, begB, hmB, c4, c11, not_true_eq_false, not_false_eq_true, if_true, if_false, decide_true, decide_false, Bool.and_true, Bool.and_false, Bool.true_and, Bool.false_and, Bool.or_true, Bool.or_false, Bool.true_or, Bool.false_or, Bool.not_true, Bool.not_false, and_true, and_false, true_and, false_and, or_true, or_false, true_or, false_or, bIt, bIf, Bool.false_eq_true, reduceCtorEq]; done)
        | (simp only [ePl, show ¬ m < 10 by omega, c4, c11, not_true_eq_false, not_false_eq_true, if_true, if_false, decide_true, decide_false, Bool.and_true, Bool.and_false, Bool.true_and, Bool.false_and, Bool.or_true, Bool.or_false, Bool.true_or, Bool.false_or, Bool.not_true, Bool.not_false, and_true, and_false, true_and, false_and, or_true, or_false, true_or, false_or, bIt, bIf, Bool.false_eq_true, reduceCtorEq]; done)
      exact V.iret (by exact dX4_addPlayer_31) rfl (bI_narrow false) (by
        rw [hr]
        exact ⟨rfl, rfl, Out.rf h w, K, cl, P, pn, hw, fun K2 e => by cases e⟩)
    · refine V.iload_n dX4_addPlayer_14 rfl ?_
      refine V.callSv [_] dX4_addPlayer_15 lk_X4_113 rfl (Nat.le_of_ble_eq_true rfl) (Nat.le_of_ble_eq_true rfl) (s5_isKind _ _ _ _ _) ?_
      refine V.if_eqB (tgt := 30) dX4_addPlayer_18 (by decide) (fun c18 => ?_) (fun c18 => ?_)
      · refine V.iconst (v := nI 0) dX4_addPlayer_30 (by decide) ?_
        have hr : ePl s k f (nI c) K m = none := by
          first
          | (simp only [ePl, begB, hmB, c4, c11, c18, not_true_eq_false, not_false_eq_true, if_true, if_false, decide_true, decide_false, Bool.and_true, Bool.and_false, Bool.true_and, Bool.false_and, Bool.or_true, Bool.or_false, Bool.true_or, Bool.false_or, Bool.not_true, Bool.not_false, and_true, and_false, true_and, false_and, or_true, or_false, true_or, false_or, bIt, bIf, Bool.false_eq_true, reduceCtorEq]; done)
          | (simp only [ePl, show ¬ m < 10 by omega, c4, c11, c18, not_true_eq_false, not_false_eq_true, if_true, if_false, decide_true, decide_false, Bool.and_true, Bool.and_false, Bool.true_and, Bool.false_and, Bool.or_true, Bool.or_false, Bool.true_or, Bool.false_or, Bool.not_true, Bool.not_false, and_true, and_false, true_and, false_and, or_true, or_false, true_or, false_or, bIt, bIf, Bool.false_eq_true, reduceCtorEq]; done)
        exact V.iret (by exact dX4_addPlayer_31) rfl (bI_narrow false) (by
          rw [hr]
          exact ⟨rfl, rfl, Out.rf h w, K, cl, P, pn, hw, fun K2 e => by cases e⟩)
      · refine V.aload_n dX4_addPlayer_21 rfl ?_
        refine V.getf dX4_addPlayer_22 fl_X4_51 hw0 rfl ?_
        rw [hm]
        refine V.bipush (v := nI 10) dX4_addPlayer_25 (by decide) ?_
        refine V.icmp_ltN (tgt := 32) dX4_addPlayer_27 (by decide) (by omega) (by omega) (fun c27 => ?_) (fun c27 => ?_)
        · refine V.iload dX4_addPlayer_32 rfl ?_
          refine V.callSv [_] dX4_addPlayer_34 lk_X4_77 rfl (Nat.le_of_ble_eq_true rfl) (Nat.le_of_ble_eq_true rfl) (s5_isCell _ _ _ _ _) ?_
          rw [wi_nI (by omega) (by omega), decide_eq_true (show c ≤ 83 by omega)]
          refine V.if_eqB (tgt := 69) dX4_addPlayer_37 (by decide) (fun q => absurd q (by decide)) (fun _ => ?_)
          refine V.iload dX4_addPlayer_40 rfl ?_
          refine V.callSv [_] dX4_addPlayer_42 lk_X4_116 rfl (Nat.le_of_ble_eq_true rfl) (Nat.le_of_ble_eq_true rfl) (s5_sideOf _ _ _ ⟨c, hc, rfl⟩ _ _) ?_
          refine V.iload_n dX4_addPlayer_45 rfl ?_
          refine V.icmp_ne (tgt := 69) dX4_addPlayer_46 (by decide) (fun c46 => ?_) (fun c46 => ?_)
          · refine V.iconst (v := nI 0) dX4_addPlayer_69 (by decide) ?_
            have hr : ePl s k f (nI c) K m = none := by
              simp only [ePl, begB, hmB, clampI (show c < 2147483648 by omega), c4, c11, c18, c46, not_true_eq_false, not_false_eq_true, if_true, if_false, decide_true, decide_false, Bool.and_true, Bool.and_false, Bool.true_and, Bool.false_and, Bool.or_true, Bool.or_false, Bool.true_or, Bool.false_or, Bool.not_true, Bool.not_false, and_true, and_false, true_and, false_and, or_true, or_false, true_or, false_or, bIt, bIf, Bool.false_eq_true, reduceCtorEq]
            exact V.iret (by exact dX4_addPlayer_70) rfl (bI_narrow false) (by
              rw [hr]
              exact ⟨rfl, rfl, Out.rf h w, K, cl, P, pn, hw, fun K2 e => by cases e⟩)
          · refine V.aload_n dX4_addPlayer_49 rfl ?_
            refine V.iload dX4_addPlayer_50 rfl ?_
            refine V.callVv [_] dX4_addPlayer_52 lk_X4_119 rfl (Nat.le_of_ble_eq_true rfl) (Nat.le_of_ble_eq_true rfl) hw0 rfl (s4_groundOf _ _ _ _ _ _ _ _ _ hw _ (by omega)) ?_
            refine V.iconst (v := nI 3) dX4_addPlayer_55 (by decide) ?_
            refine V.icmp_eq (tgt := 69) dX4_addPlayer_56 (by decide) (fun c56 => ?_) (fun c56 => ?_)
            · refine V.iconst (v := nI 0) dX4_addPlayer_69 (by decide) ?_
              have hr : ePl s k f (nI c) K m = none := by
                simp only [ePl, begB, hmB, clampI (show c < 2147483648 by omega), c4, c11, c18, eq_true c46, eq_true c56, not_true_eq_false, not_false_eq_true, if_true, if_false, decide_true, decide_false, Bool.and_true, Bool.and_false, Bool.true_and, Bool.false_and, Bool.or_true, Bool.or_false, Bool.true_or, Bool.false_or, Bool.not_true, Bool.not_false, and_true, and_false, true_and, false_and, or_true, or_false, true_or, false_or, bIt, bIf, Bool.false_eq_true, reduceCtorEq]
              exact V.iret (by exact dX4_addPlayer_70) rfl (bI_narrow false) (by
                rw [hr]
                exact ⟨rfl, rfl, Out.rf h w, K, cl, P, pn, hw, fun K2 e => by cases e⟩)
            · refine V.aload_n dX4_addPlayer_59 rfl ?_
              refine V.iload_n dX4_addPlayer_60 rfl ?_
              refine V.iload dX4_addPlayer_61 rfl ?_
              refine V.callVv [_, _] dX4_addPlayer_63 lk_X4_107 rfl (Nat.le_of_ble_eq_true rfl) (Nat.le_of_ble_eq_true rfl) hw0 rfl (s4_isInRing _ _ _ _ _ _ _ _ _ hw _ _) ?_
              refine V.if_eqB (tgt := 71) dX4_addPlayer_66 (by decide) (fun c66 => ?_) (fun c66 => ?_)
              · refine V.aload_n dX4_addPlayer_71 rfl ?_
                refine V.getf dX4_addPlayer_72 fl_X4_20 hw0 rfl ?_
                refine V.aload_n dX4_addPlayer_75 rfl ?_
                refine V.getf dX4_addPlayer_76 fl_X4_51 hw0 rfl ?_
                rw [hm]
                refine V.aaldN dX4_addPlayer_79 (Or.inl rfl) hpf (by omega) (by decide) (epf _ (by omega)) ?_
                refine V.ast5 dX4_addPlayer_80 (by decide) rfl ?_
                have hok : ePl s k f (nI c) K m = some (plU K m s k f (nI c)) := by simp only [ePl, begB, hmB, clampI (show c < 2147483648 by omega), c27, c4, c11, c18, eq_true c46, c56, c66, not_true_eq_false, not_false_eq_true, if_true, if_false, decide_true, decide_false, Bool.and_true, Bool.and_false, Bool.true_and, Bool.false_and, Bool.or_true, Bool.or_false, Bool.true_or, Bool.false_or, Bool.not_true, Bool.not_false, and_true, and_false, true_and, false_and, or_true, or_false, true_or, false_or, bIt, bIf, Bool.false_eq_true, reduceCtorEq]
                have h5 : gP K m 5 = nI 0 ∨ gP K m 5 = nI 1 := (hhd m (by omega)).elim Or.inl (fun y => y.elim Or.inr (fun y => absurd y (h2 m (by omega))))
                have hout : decide (gP K m 5 = nI 2) = false := decide_eq_false (h2 m (by omega))
                have hpm := hpp m (by omega)
                rw [show pF K cl m = [.int (gP K m 0), .int (gP K m 1), .int (gP K m 2), .int (gP K m 3), .int (cAt K cl m), .int (gP K m 6), .int (bI (decide (gP K m 5 = nI 1))), .int (nI 0)] by (rw [pF, hout]; rfl)] at hpm
                refine V.aload dX4_addPlayer_82 rfl ?_
                refine V.iload_n dX4_addPlayer_84 rfl ?_
                refine V.putf dX4_addPlayer_85 fp_X4_104 hpm (Nat.le_of_ble_eq_true rfl) (fun _ => ⟨rfl, rfl⟩) ?_
                refine V.aload dX4_addPlayer_88 rfl ?_
                refine V.iload_n dX4_addPlayer_90 rfl ?_
                refine V.putf dX4_addPlayer_91 fp_X4_122 (hset_self _ _ _) (Nat.le_of_ble_eq_true rfl) (fun _ => ⟨rfl, rfl⟩) ?_
                rw [hset_hset]
                refine V.aload dX4_addPlayer_94 rfl ?_
                refine V.iload_n dX4_addPlayer_96 rfl ?_
                refine V.putf dX4_addPlayer_97 fp_X4_125 (hset_self _ _ _) (Nat.le_of_ble_eq_true rfl) (fun _ => ⟨rfl, rfl⟩) ?_
                rw [hset_hset]
                refine V.aload dX4_addPlayer_100 rfl ?_
                refine V.iload dX4_addPlayer_102 rfl ?_
                refine V.putf dX4_addPlayer_104 fp_X4_101 (hset_self _ _ _) (Nat.le_of_ble_eq_true rfl) (fun _ => ⟨rfl, rfl⟩) ?_
                rw [hset_hset]
                refine V.aload dX4_addPlayer_107 rfl ?_
                refine V.callVu [] dX4_addPlayer_109 lk_X4_128 rfl (Nat.le_of_ble_eq_true rfl) (Nat.le_of_ble_eq_true rfl) (hset_self _ _ _) rfl (s0_goHome _ _ _ _ _ _ _ _ _ _ _ _ _ (hset_self _ _ _)) ?_
                rw [hset_hset, ← plW_pF K m s k f (nI c) cl]
                have hw1 := hw.gen m (by omega) (plW K m s k f (nI c)) cl (fun j hj => plW_out K m s k f (nI c) j hj) (fun _ _ => rfl) (Or.inl (by unfold plW; rw [gP_upd _ _ _ _ _ _ (by omega) (by omega), if_neg (by omega), gP_upd _ _ _ _ _ _ (by omega) (by omega), if_pos ⟨rfl, rfl⟩]))
                refine V.aload_n dX4_addPlayer_112 rfl ?_
                refine V.dup dX4_addPlayer_113 rfl ?_
                refine V.getf dX4_addPlayer_114 fl_X4_51 hw1.1 rfl ?_
                rw [plW_out _ _ _ _ _ _ _ (by omega), hm]
                refine V.iconst (v := nI 1) dX4_addPlayer_117 (by decide) ?_
                refine V.iaddN dX4_addPlayer_118 ?_
                refine V.putf dX4_addPlayer_119 fp_X4_51 hw1.1 (Nat.le_of_ble_eq_true rfl) (fun _ => ⟨rfl, rfl⟩) ?_
                refine V.iconst (v := nI 1) dX4_addPlayer_122 (by decide) ?_
                refine V.iret (by exact dX4_addPlayer_123) rfl (bI_narrow true) ?_
                rw [hok]
                exact ⟨rfl, rfl, (((Out.rf h w).set _ _ (by omega) (by omega)).set _ _ (by omega) (by omega)), _, cl, P, pn, hw1.many (nI (m + 1)), fun K2 e => by rw [← Option.some.inj e]; exact ⟨rfl, PR_lo hPR (fun i y1 y2 => by rw [plU, pk_un (by omega), plW_out _ _ _ _ _ _ _ (by omega)])⟩⟩
              · refine V.iconst (v := nI 0) dX4_addPlayer_69 (by decide) ?_
                have hr : ePl s k f (nI c) K m = none := by
                  simp only [ePl, begB, hmB, clampI (show c < 2147483648 by omega), c4, c11, c18, eq_true c46, c56, c66, not_true_eq_false, not_false_eq_true, if_true, if_false, decide_true, decide_false, Bool.and_true, Bool.and_false, Bool.true_and, Bool.false_and, Bool.or_true, Bool.or_false, Bool.true_or, Bool.false_or, Bool.not_true, Bool.not_false, and_true, and_false, true_and, false_and, or_true, or_false, true_or, false_or, bIt, bIf, Bool.false_eq_true, reduceCtorEq]
                exact V.iret (by exact dX4_addPlayer_70) rfl (bI_narrow false) (by
                  rw [hr]
                  exact ⟨rfl, rfl, Out.rf h w, K, cl, P, pn, hw, fun K2 e => by cases e⟩)
        · refine V.iconst (v := nI 0) dX4_addPlayer_30 (by decide) ?_
          have hr : ePl s k f (nI c) K m = none := by
            first
            | (simp only [ePl, begB, hmB, c4, c11, c18, not_true_eq_false, not_false_eq_true, if_true, if_false, decide_true, decide_false, Bool.and_true, Bool.and_false, Bool.true_and, Bool.false_and, Bool.or_true, Bool.or_false, Bool.true_or, Bool.false_or, Bool.not_true, Bool.not_false, and_true, and_false, true_and, false_and, or_true, or_false, true_or, false_or, bIt, bIf, Bool.false_eq_true, reduceCtorEq]; done)
            | (simp only [ePl, show ¬ m < 10 by omega, c4, c11, c18, not_true_eq_false, not_false_eq_true, if_true, if_false, decide_true, decide_false, Bool.and_true, Bool.and_false, Bool.true_and, Bool.false_and, Bool.or_true, Bool.or_false, Bool.true_or, Bool.false_or, Bool.not_true, Bool.not_false, and_true, and_false, true_and, false_and, or_true, or_false, true_or, false_or, bIt, bIf, Bool.false_eq_true, reduceCtorEq]; done)
          exact V.iret (by exact dX4_addPlayer_31) rfl (bI_narrow false) (by
            rw [hr]
            exact ⟨rfl, rfl, Out.rf h w, K, cl, P, pn, hw, fun K2 e => by cases e⟩)
def pnU (K : KK) (e : Nat) (q : Nat) (a k f : Int32) : KK := upd (upd (upd (upd K (100 + 7 * e + 1 + 3 * q + 0) a) (100 + 7 * e + 1 + 3 * q + 1) k) (100 + 7 * e + 1 + 3 * q + 2) f) (100 + 7 * e) (nI (q + 1))
def ePn (s a k f : Int32) (K : KK) : Option KK := if (wi s (nI 0) (nI 1) && (decide (nI 1 ≤ a) && (wi k (nI 0) (nI 7) && !decide (K (100 + 7 * s.toNatClampNeg) = nI 2)))) = true then some (pnU K s.toNatClampNeg (K (100 + 7 * s.toNatClampNeg)).toNatClampNeg a k f) else none
def P4 (P : Nat → Int32) (pn : Nat) (s a k f : Int32) : Nat → Int32 := upd (upd (upd (upd P (4 * pn) s) (4 * pn + 1) a) (4 * pn + 2) k) (4 * pn + 3) f
theorem P4_lo (P : Nat → Int32) (pn : Nat) (s a k f : Int32) (j : Nat) (hj : j < 4 * pn) : P4 P pn s a k f j = P j := by
  unfold P4
  rw [pk_un (by omega), pk_un (by omega), pk_un (by omega), pk_un (by omega)]
theorem P4_0 (P : Nat → Int32) (pn : Nat) (s a k f : Int32) : P4 P pn s a k f (4 * pn) = s := by
  unfold P4
  rw [pk_un (by omega), pk_un (by omega), pk_un (by omega), pk_us]
theorem cntS_P4 (P : Nat → Int32) (pn : Nat) (s a k f : Int32) (e : Nat) : ∀ i, i ≤ pn → cntS (P4 P pn s a k f) e i = cntS P e i := by
  intro i
  induction i with
  | zero => intro _; rfl
  | succ i ih => intro hi; rw [cntS, cntS, ih (by omega), P4_lo _ _ _ _ _ _ _ (by omega)]
theorem pnU_out (K : KK) (e q : Nat) (a k f : Int32) (hq : q < 2) (he : e < 2) (j : Nat) (hj : j < 100 + 7 * e ∨ 100 + 7 * e + 7 ≤ j) : pnU K e q a k f j = K j := by
  unfold pnU
  rw [pk_un (by omega), pk_un (by omega), pk_un (by omega), pk_un (by omega)]
theorem PR_plan {K : KK} {P : Nat → Int32} {pn : Nat} (h : PR K P pn) (e : Nat) (he : e < 2) (hq : cntS P e pn < 2) (a k f : Int32) : PR (pnU K e (cntS P e pn) a k f) (P4 P pn (nI e) a k f) (pn + 1) := by
  obtain ⟨a1, a2, a3, a4⟩ := h
  have hs := cntS_sum P pn a3
  have h0 := (a2 0 (by omega)).2
  have h1 := (a2 1 (by omega)).2
  have hpn : pn ≤ 3 := by
    rcases (show e = 0 ∨ e = 1 by omega) with rfl | rfl <;> omega
  have hne : ∀ i j : Nat, i < 2 → j < 2 → (nI i = nI j ↔ i = j) := fun i j hi hj => nI_eq (by omega) (by omega)
  refine ⟨by omega, fun i hi => ?_, fun i hi => ?_, fun i g hi hg y => ?_⟩
  · rw [cntS, cntS_P4 _ _ _ _ _ _ _ _ (Nat.le_refl pn), P4_0]
    by_cases y : e = i
    · subst y
      rw [if_pos rfl]
      exact ⟨pk_us, by omega⟩
    · rw [if_neg (fun z => y ((hne e i he hi).mp z)), Nat.add_zero, pnU_out _ _ _ _ _ _ hq he _ (by omega)]
      exact a2 i hi
  · by_cases y : i = pn
    · subst y
      rw [P4_0]
      rcases (show e = 0 ∨ e = 1 by omega) with rfl | rfl
      · exact Or.inl rfl
      · exact Or.inr rfl
    · rw [P4_lo _ _ _ _ _ _ _ (by omega)]; exact a3 i (by omega)
  · rw [cntS_P4 _ _ _ _ _ _ _ _ (show i ≤ pn by omega)]
    by_cases z : i = pn
    · subst z
      rw [P4_0] at y
      have eg := (hne e g he hg).mp y
      subst eg
      refine ⟨?_, ?_, ?_⟩
      · unfold pnU P4
        rw [pk_un (by omega), pk_un (by omega), pk_un (by omega), show 100 + 7 * e + 1 + 3 * cntS P e i = 100 + 7 * e + 1 + 3 * cntS P e i + 0 by omega, pk_us, pk_un (by omega), pk_un (by omega), pk_us]
      · unfold pnU P4
        rw [pk_un (by omega), pk_un (by omega), show 100 + 7 * e + 2 + 3 * cntS P e i + 0 = 100 + 7 * e + 1 + 3 * cntS P e i + 1 by omega, pk_us, pk_un (by omega), show 4 * i + 2 + 0 = 4 * i + 2 by omega, pk_us]
      · unfold pnU P4
        rw [pk_un (by omega), show 100 + 7 * e + 2 + 3 * cntS P e i + 1 = 100 + 7 * e + 1 + 3 * cntS P e i + 2 by omega, pk_us, show 4 * i + 2 + 1 = 4 * i + 3 by omega, pk_us]
    · rw [P4_lo _ _ _ _ _ _ _ (by omega)] at y
      have old := a4 i g (by omega) hg y
      rw [P4_lo _ _ _ _ _ _ _ (by omega), P4_lo _ _ _ _ _ _ _ (by omega), P4_lo _ _ _ _ _ _ _ (by omega)]
      have hlt : cntS P g i + 1 ≤ cntS P g pn := by
        have := cntS_mono P g (show i + 1 ≤ pn by omega)
        rw [cntS, if_pos y] at this
        exact this
      have hg2 := (a2 g hg).2
      have keep : ∀ j, 100 + 7 * g + 1 + 3 * cntS P g i ≤ j → j ≤ 100 + 7 * g + 1 + 3 * cntS P g i + 2 → pnU K e (cntS P e pn) a k f j = K j := fun j j1 j2 => by
        by_cases z2 : e = g
        · subst z2
          unfold pnU
          rw [pk_un (by omega), pk_un (by omega), pk_un (by omega), pk_un (by omega)]
        · exact pnU_out _ _ _ _ _ _ hq he _ (by omega)
      rw [keep _ (by omega) (by omega), keep _ (by omega) (by omega), keep _ (by omega) (by omega)]
      exact old
theorem cntS_cN (P : Nat → Int32) (e : Nat) : ∀ i, cntS P e i = cN (fun i => decide (P (4 * i) = nI e)) i := by
  intro i
  induction i with
  | zero => rfl
  | succ i ih => rw [cntS, cN, ih]; simp only [decide_eq_true_eq]
set_option maxRecDepth 20000 in
set_option maxHeartbeats 4000000 in
theorem s4_addPlan_in (l : Launch) (d : Nat) (h : MH) (n w : Nat) (K : KK) (cl P : Nat → Int32) (pn : Nat) (hw : WoodAt h w K cl P pn) (hpn : pn ≤ 4) (e : Nat) (a k f : Int32) {Q : Option Value → MH → Nat → Prop} (kk : V l mX4_addPlan d 58 [some (.ref w), some (.int (nI e)), some (.int a), some (.int k), some (.int f), some (.int (nI (cN (fun i => decide (P (4 * i) = nI e)) pn))), none] [] h n 0 0 Q) : ∀ (r i : Nat), i + r = pn → V l mX4_addPlan d 27 [some (.ref w), some (.int (nI e)), some (.int a), some (.int k), some (.int f), some (.int (nI (cN (fun i => decide (P (4 * i) = nI e)) i))), some (.int (nI i))] [] h n 0 0 Q := by
  intro r
  induction r with
  | zero =>
    intro i hi
    obtain ⟨hw0, ⟨gr, hgr, egr⟩, ⟨ru, hru, eru⟩, ⟨pq, hpf, epf⟩, hpl, ⟨fl, hfl, efl⟩, ⟨ca, hca, eca⟩, ⟨wa, hwa⟩, hpp, hhd⟩ := id hw
    refine V.iload dX4_addPlan_27 rfl ?_
    refine V.aload_n dX4_addPlan_29 rfl ?_
    refine V.getf dX4_addPlan_30 fl_X4_55 hw0 rfl ?_
    refine V.icmp_geN (tgt := 58) dX4_addPlan_33 (by decide) (by omega) (by omega) (fun _ => ?_) (fun q => absurd q (by omega))
    have hip : i = pn := by omega
    subst hip
    exact V.drop 6 kk
  | succ r ih =>
    intro i hi
    obtain ⟨hw0, ⟨gr, hgr, egr⟩, ⟨ru, hru, eru⟩, ⟨pq, hpf, epf⟩, hpl, ⟨fl, hfl, efl⟩, ⟨ca, hca, eca⟩, ⟨wa, hwa⟩, hpp, hhd⟩ := id hw
    refine V.iload dX4_addPlan_27 rfl ?_
    refine V.aload_n dX4_addPlan_29 rfl ?_
    refine V.getf dX4_addPlan_30 fl_X4_55 hw0 rfl ?_
    refine V.icmp_geN (tgt := 58) dX4_addPlan_33 (by decide) (by omega) (by omega) (fun q => absurd q (by omega)) (fun _ => ?_)
    refine V.aload_n dX4_addPlan_36 rfl ?_
    refine V.getf dX4_addPlan_37 fl_X4_24 hw0 rfl ?_
    refine V.iconst (v := nI 4) dX4_addPlan_40 (by decide) ?_
    refine V.iload dX4_addPlan_41 rfl ?_
    refine V.imulN dX4_addPlan_43 ?_
    refine V.ialdN dX4_addPlan_44 hpl (by omega) (by decide) ?_
    refine V.iload_n dX4_addPlan_45 rfl ?_
    refine V.icmp_ne (tgt := 52) dX4_addPlan_46 (by decide) (fun c46 => ?_) (fun c46 => ?_)
    · refine V.inN6 dX4_addPlan_52 (by decide) rfl ?_
      refine V.goto (tgt := 27) dX4_addPlan_55 (by decide) ?_
      exact V.ls (by (try simp only [← Int32.not_le, Classical.not_not, decide_eq_true_eq, decide_eq_false_iff_not] at c46); simp only [cN, not_true_eq_false, ← Int32.not_le, c46, List.set_cons_succ, List.set_cons_zero, not_true_eq_false, not_false_eq_true, if_true, if_false, decide_true, decide_false, Bool.and_true, Bool.and_false, Bool.true_and, Bool.false_and, Bool.or_true, Bool.or_false, Bool.true_or, Bool.false_or, Bool.not_true, Bool.not_false, and_true, and_false, true_and, false_and, or_true, or_false, true_or, false_or, bIt, bIf, Bool.false_eq_true, reduceCtorEq, Nat.add_zero, Int32.add_zero, nI_add] <;> rfl) (ih (i + 1) (by omega))
    · refine V.inN5 dX4_addPlan_49 (by decide) rfl ?_
      refine V.inN6 dX4_addPlan_52 (by decide) rfl ?_
      refine V.goto (tgt := 27) dX4_addPlan_55 (by decide) ?_
      exact V.ls (by (try simp only [← Int32.not_le, Classical.not_not, decide_eq_true_eq, decide_eq_false_iff_not] at c46); simp only [cN, not_true_eq_false, ← Int32.not_le, eq_true c46, List.set_cons_succ, List.set_cons_zero, not_true_eq_false, not_false_eq_true, if_true, if_false, decide_true, decide_false, Bool.and_true, Bool.and_false, Bool.true_and, Bool.false_and, Bool.or_true, Bool.or_false, Bool.true_or, Bool.false_or, Bool.not_true, Bool.not_false, and_true, and_false, true_and, false_and, or_true, or_false, true_or, false_or, bIt, bIf, Bool.false_eq_true, reduceCtorEq, Nat.add_zero, Int32.add_zero, nI_add] <;> rfl) (ih (i + 1) (by omega))
theorem cntS_le (P : Nat → Int32) (e : Nat) : ∀ i, cntS P e i ≤ i := by
  intro i
  induction i with
  | zero => exact Nat.le_refl 0
  | succ i ih => rw [cntS]; split <;> omega
set_option maxRecDepth 20000 in
set_option maxHeartbeats 4000000 in
theorem s4_addPlan (l : Launch) (d : Nat) (h : MH) (n w : Nat) (K : KK) (cl P : Nat → Int32) (pn : Nat) (hw : WoodAt h w K cl P pn) (hPR : PR K P pn) (s a k f : Int32) : Sp l mX4_addPlan (d + 2) [.ref w, .int s, .int a, .int k, .int f] h n 0 0 (Cq w (ePn s a k f K) h n) := by
  obtain ⟨hw0, ⟨gr, hgr, egr⟩, ⟨ru, hru, eru⟩, ⟨pq, hpf, epf⟩, hpl, ⟨fl, hfl, efl⟩, ⟨ca, hca, eca⟩, ⟨wa, hwa⟩, hpp, hhd⟩ := id hw
  show V _ _ _ _ [some (.ref w), some (.int s), some (.int a), some (.int k), some (.int f), none, none] _ _ _ _ _ _
  refine V.iload_n dX4_addPlan_0 rfl ?_
  refine V.callSv [_] dX4_addPlan_1 lk_X4_110 rfl (Nat.le_of_ble_eq_true rfl) (Nat.le_of_ble_eq_true rfl) (s5_isSide _ _ _ _ _) ?_
  refine V.if_eqB (tgt := 19) dX4_addPlan_4 (by decide) (fun c4 => ?_) (fun c4 => ?_)
  · refine V.iconst (v := nI 0) dX4_addPlan_19 (by decide) ?_
    have hr : ePn s a k f K = none := by
      first
      | (simp only [ePn, c4, not_true_eq_false, not_false_eq_true, if_true, if_false, decide_true, decide_false, Bool.and_true, Bool.and_false, Bool.true_and, Bool.false_and, Bool.or_true, Bool.or_false, Bool.true_or, Bool.false_or, Bool.not_true, Bool.not_false, and_true, and_false, true_and, false_and, or_true, or_false, true_or, false_or, bIt, bIf, Bool.false_eq_true, reduceCtorEq]; done)
      | (simp only [ePn, Int32.not_le.mpr c9, c4, not_true_eq_false, not_false_eq_true, if_true, if_false, decide_true, decide_false, Bool.and_true, Bool.and_false, Bool.true_and, Bool.false_and, Bool.or_true, Bool.or_false, Bool.true_or, Bool.false_or, Bool.not_true, Bool.not_false, and_true, and_false, true_and, false_and, or_true, or_false, true_or, false_or, bIt, bIf, Bool.false_eq_true, reduceCtorEq]; done)
    exact V.iret (by exact dX4_addPlan_20) rfl (bI_narrow false) (by
      rw [hr]
      exact ⟨rfl, rfl, Out.rf h w, K, cl, P, pn, hw, fun K2 e => by cases e⟩)
  · refine V.iload_n dX4_addPlan_7 rfl ?_
    refine V.iconst (v := nI 1) dX4_addPlan_8 (by decide) ?_
    refine V.icmp_lt (tgt := 19) dX4_addPlan_9 (by decide) (fun c9 => ?_) (fun c9 => ?_)
    · refine V.iconst (v := nI 0) dX4_addPlan_19 (by decide) ?_
      have hr : ePn s a k f K = none := by
        first
        | (simp only [ePn, c4, c9, not_true_eq_false, not_false_eq_true, if_true, if_false, decide_true, decide_false, Bool.and_true, Bool.and_false, Bool.true_and, Bool.false_and, Bool.or_true, Bool.or_false, Bool.true_or, Bool.false_or, Bool.not_true, Bool.not_false, and_true, and_false, true_and, false_and, or_true, or_false, true_or, false_or, bIt, bIf, Bool.false_eq_true, reduceCtorEq]; done)
        | (simp only [ePn, Int32.not_le.mpr c9, c4, c9, not_true_eq_false, not_false_eq_true, if_true, if_false, decide_true, decide_false, Bool.and_true, Bool.and_false, Bool.true_and, Bool.false_and, Bool.or_true, Bool.or_false, Bool.true_or, Bool.false_or, Bool.not_true, Bool.not_false, and_true, and_false, true_and, false_and, or_true, or_false, true_or, false_or, bIt, bIf, Bool.false_eq_true, reduceCtorEq]; done)
      exact V.iret (by exact dX4_addPlan_20) rfl (bI_narrow false) (by
        rw [hr]
        exact ⟨rfl, rfl, Out.rf h w, K, cl, P, pn, hw, fun K2 e => by cases e⟩)
    · refine V.iload_n dX4_addPlan_12 rfl ?_
      refine V.callSv [_] dX4_addPlan_13 lk_X4_113 rfl (Nat.le_of_ble_eq_true rfl) (Nat.le_of_ble_eq_true rfl) (s5_isKind _ _ _ _ _) ?_
      refine V.if_neB (tgt := 21) dX4_addPlan_16 (by decide) (fun c16 => ?_) (fun c16 => ?_)
      · obtain ⟨e, he, rfl⟩ := wi_ex (by decide) c4
        have hKe := (hPR.2.1 e (by omega))
        have hc9 : nI 1 ≤ a := Int32.not_lt.mp c9
        refine V.iconst (v := nI 0) dX4_addPlan_21 (by decide) ?_
        refine V.ist5 dX4_addPlan_22 (by decide) rfl ?_
        refine V.iconst (v := nI 0) dX4_addPlan_24 (by decide) ?_
        refine V.ist6 dX4_addPlan_25 (by decide) rfl ?_
        refine s4_addPlan_in l _ h n w K cl P pn hw hPR.1 e a k f ?_ pn 0 (by omega)
        rw [← cntS_cN]
        have hcl := cntS_le P e pn
        refine V.iload dX4_addPlan_58 rfl ?_
        refine V.iconst (v := nI 2) dX4_addPlan_60 (by decide) ?_
        have hpn4 := hPR.1
        refine V.icmp_geN (tgt := 72) dX4_addPlan_61 (by decide) (by omega) (by omega) (fun c61 => ?_) (fun c61 => ?_)
        · refine V.iconst (v := nI 0) dX4_addPlan_72 (by decide) ?_
          exact V.iret (by exact dX4_addPlan_73) rfl (bI_narrow false) (by
            rw [show ePn (nI e) a k f K = none from by (rw [ePn, clampI (show e < 2147483648 by omega), hKe.1, decide_eq_true (show nI (cntS P e pn) = nI 2 by rw [show cntS P e pn = 2 by omega])]; simp)]
            exact ⟨rfl, rfl, Out.rf h w, K, cl, P, pn, hw, fun K2 y => by cases y⟩)
        · have hok : ePn (nI e) a k f K = some (pnU K e (cntS P e pn) a k f) := by
            rw [ePn, clampI (show e < 2147483648 by omega), hKe.1, c4, c16, decide_eq_true hc9, decide_eq_false (fun y => absurd ((nI_eq (by omega) (by omega)).mp y) (by omega)), clampI (show cntS P e pn < 2147483648 by omega)]
            rfl
          have hs3 : pn ≤ 3 := by
            have hs := cntS_sum P pn hPR.2.2.1
            have h0 := (hPR.2.1 0 (by omega)).2
            have h1 := (hPR.2.1 1 (by omega)).2
            rcases (show e = 0 ∨ e = 1 by omega) with rfl | rfl <;> omega
          refine V.aload_n dX4_addPlan_64 rfl ?_
          refine V.getf dX4_addPlan_65 fl_X4_55 hw0 rfl ?_
          refine V.iconst (v := nI 4) dX4_addPlan_68 (by decide) ?_
          refine V.icmp_ltN (tgt := 74) dX4_addPlan_69 (by decide) (by omega) (by omega) (fun _ => ?_) (fun q => absurd q (by omega))
          refine V.aload_n dX4_addPlan_74 rfl ?_
          refine V.getf dX4_addPlan_75 fl_X4_24 hw0 rfl ?_
          refine V.iconst (v := nI 4) dX4_addPlan_78 (by decide) ?_
          refine V.aload_n dX4_addPlan_79 rfl ?_
          refine V.getf dX4_addPlan_80 fl_X4_55 hw0 rfl ?_
          refine V.imulN dX4_addPlan_83 ?_
          refine V.iload_n dX4_addPlan_84 rfl ?_
          refine V.iastN dX4_addPlan_85 hpl (by omega) (by decide) ?_
          refine V.aload_n dX4_addPlan_86 rfl ?_
          refine V.getf dX4_addPlan_87 fl_X4_24 (o_ne hw0 (by omega)) rfl ?_
          refine V.iconst (v := nI 4) dX4_addPlan_90 (by decide) ?_
          refine V.aload_n dX4_addPlan_91 rfl ?_
          refine V.getf dX4_addPlan_92 fl_X4_55 (o_ne hw0 (by omega)) rfl ?_
          refine V.imulN dX4_addPlan_95 ?_
          refine V.iconst (v := nI 1) dX4_addPlan_96 (by decide) ?_
          refine V.iaddN dX4_addPlan_97 ?_
          refine V.iload_n dX4_addPlan_98 rfl ?_
          refine V.iastN dX4_addPlan_99 (hset_self _ _ _) (by omega) (by decide) ?_
          rw [hset_hset]
          refine V.aload_n dX4_addPlan_100 rfl ?_
          refine V.getf dX4_addPlan_101 fl_X4_24 (o_ne hw0 (by omega)) rfl ?_
          refine V.iconst (v := nI 4) dX4_addPlan_104 (by decide) ?_
          refine V.aload_n dX4_addPlan_105 rfl ?_
          refine V.getf dX4_addPlan_106 fl_X4_55 (o_ne hw0 (by omega)) rfl ?_
          refine V.imulN dX4_addPlan_109 ?_
          refine V.iconst (v := nI 2) dX4_addPlan_110 (by decide) ?_
          refine V.iaddN dX4_addPlan_111 ?_
          refine V.iload_n dX4_addPlan_112 rfl ?_
          refine V.iastN dX4_addPlan_113 (hset_self _ _ _) (by omega) (by decide) ?_
          rw [hset_hset]
          refine V.aload_n dX4_addPlan_114 rfl ?_
          refine V.getf dX4_addPlan_115 fl_X4_24 (o_ne hw0 (by omega)) rfl ?_
          refine V.iconst (v := nI 4) dX4_addPlan_118 (by decide) ?_
          refine V.aload_n dX4_addPlan_119 rfl ?_
          refine V.getf dX4_addPlan_120 fl_X4_55 (o_ne hw0 (by omega)) rfl ?_
          refine V.imulN dX4_addPlan_123 ?_
          refine V.iconst (v := nI 3) dX4_addPlan_124 (by decide) ?_
          refine V.iaddN dX4_addPlan_125 ?_
          refine V.iload dX4_addPlan_126 rfl ?_
          refine V.iastN dX4_addPlan_128 (hset_self _ _ _) (by omega) (by decide) ?_
          rw [hset_hset]
          refine V.aload_n dX4_addPlan_129 rfl ?_
          refine V.dup dX4_addPlan_130 rfl ?_
          refine V.getf dX4_addPlan_131 fl_X4_55 (o_ne hw0 (by omega)) rfl ?_
          refine V.iconst (v := nI 1) dX4_addPlan_134 (by decide) ?_
          refine V.iaddN dX4_addPlan_135 ?_
          refine V.putf dX4_addPlan_136 fp_X4_55 (o_ne hw0 (by omega)) (Nat.le_of_ble_eq_true rfl) (fun _ => ⟨rfl, rfl⟩) ?_
          refine V.iconst (v := nI 1) dX4_addPlan_139 (by decide) ?_
          refine V.iret (by exact dX4_addPlan_140) rfl (bI_narrow true) ?_
          rw [hok]
          exact ⟨rfl, rfl, ((Out.rf h w).set _ _ (by omega) (by omega)).set _ _ (by omega) (by omega), _, cl, P4 P pn (nI e) a k f, pn + 1, hw.plan (P4 P pn (nI e) a k f) (pn + 1) (fun j hj => pnU_out K e (cntS P e pn) a k f (by omega) (by omega) j (by omega)), fun K2 y => by rw [← Option.some.inj y]; exact ⟨rfl, PR_plan hPR e (by omega) (by omega) a k f⟩⟩
      · refine V.iconst (v := nI 0) dX4_addPlan_19 (by decide) ?_
        have hr : ePn s a k f K = none := by
          first
          | (simp only [ePn, c4, c9, c16, not_true_eq_false, not_false_eq_true, if_true, if_false, decide_true, decide_false, Bool.and_true, Bool.and_false, Bool.true_and, Bool.false_and, Bool.or_true, Bool.or_false, Bool.true_or, Bool.false_or, Bool.not_true, Bool.not_false, and_true, and_false, true_and, false_and, or_true, or_false, true_or, false_or, bIt, bIf, Bool.false_eq_true, reduceCtorEq]; done)
          | (simp only [ePn, Int32.not_le.mpr c9, c4, c9, c16, not_true_eq_false, not_false_eq_true, if_true, if_false, decide_true, decide_false, Bool.and_true, Bool.and_false, Bool.true_and, Bool.false_and, Bool.or_true, Bool.or_false, Bool.true_or, Bool.false_or, Bool.not_true, Bool.not_false, and_true, and_false, true_and, false_and, or_true, or_false, true_or, false_or, bIt, bIf, Bool.false_eq_true, reduceCtorEq]; done)
        exact V.iret (by exact dX4_addPlan_20) rfl (bI_narrow false) (by
          rw [hr]
          exact ⟨rfl, rfl, Out.rf h w, K, cl, P, pn, hw, fun K2 e => by cases e⟩)
