theorem V.callVg {l : Launch} {M : MT} {d pc : Nat} {ls : List (Option Value)} {st : List Value} {h : MH} {n c z : Nat} {Q : Option Value → MH → Nat → Prop} {N : MT} {idx k b ci w NN m pn : Nat} {fs : List Value} {K : KK} {P : Nat → Int32} {zz : Int32} (As : List Value) (hd : decode M.2.1 pc = .ok (.invokevirtual idx, 3)) (hk : LkV M.1.cls idx N k) (hA : As.length = k) (hlen : (ls0 (.ref b :: As)).length ≤ N.2.2.1) (hst : (st.map fun v => v.category).sum ≤ 8)
    (hb0 : h b = some (.inr (ci, fs))) (hci : (classes[ci]?).map (fun q => q.1) = some N.1.cls) (hN : Sp l N d (.ref b :: As) h n 0 0 (Gq w K m zz NN P pn h n)) (kk : ∀ (h1 : MH) (cl wa : Nat → Int32), WoodAt h1 w (fin K m (zz + nI (NN - 1))) cl P pn → Ou h h1 w → h1 (w + 7) = some (.inl (0, 10, .inl wa)) → (∀ k, k < NN → wa k = woS K m (zz + nI k)) → V l M (d + 1) (pc + 3) ls (.int (agL K m zz NN) :: st) h1 n c z Q) : V l M (d + 1) pc ls (As.reverse ++ .ref b :: st) h n c z Q :=
  V.callV (c := c) (z := z) As hd hk hA hlen hst hb0 hci hN (fun r h1 n1 q => by obtain ⟨rfl, rfl, cl, hw, ho, wa, hwa, hww⟩ := q; exact kk h1 cl wa hw ho hwa hww)
theorem V.callVa {l : Launch} {M : MT} {d pc : Nat} {ls : List (Option Value)} {st : List Value} {h : MH} {n c z : Nat} {Q : Option Value → MH → Nat → Prop} {N : MT} {idx k b ci : Nat} {fs : List Value} {v : Int32} (As : List Value) (hd : decode M.2.1 pc = .ok (.invokevirtual idx, 3)) (hk : LkV M.1.cls idx N k) (hA : As.length = k) (hlen : (ls0 (.ref b :: As)).length ≤ N.2.2.1) (hst : (st.map fun v => v.category).sum ≤ 8)
    (hb0 : h b = some (.inr (ci, fs))) (hci : (classes[ci]?).map (fun q => q.1) = some N.1.cls) (hN : Sp l N d (.ref b :: As) h n 0 0 (Qa v h n)) (kk : ∀ X : KK, V l M (d + 1) (pc + 3) ls (.int v :: st) (hset h 81 (kc X)) n c z Q) : V l M (d + 1) pc ls (As.reverse ++ .ref b :: st) h n c z Q :=
  V.callV (c := c) (z := z) As hd hk hA hlen hst hb0 hci hN (fun r h1 n1 q => by obtain ⟨rfl, rfl, X, rfl⟩ := q; exact kk X)
theorem ClsAt.mindO {h h1 : MH} {K K1 : KK} {b : Bool} {KI : KK} {S : SS} (hc : ClsAt h K b KI S) {cl P : Nat → Int32} {pn : Nat} (hw : WoodAt h1 20 K1 cl P pn) (e : Ou h h1 20) : ClsAt h1 K b KI S := by
  obtain ⟨ht0, ⟨sq, hsq, esq⟩, ⟨cl0, P0, pn0, hw0, hPR0⟩, -, ⟨KJ, clJ, PJ, pJ, hwJ, hJ⟩, ⟨rb, rx, ry, hrd⟩, hsc, ⟨co, hco⟩, ⟨se, hse⟩, hsh⟩ := hc
  exact ⟨(e _ (by omega)).trans ht0, ⟨sq, (e _ (by omega)).trans hsq, esq⟩, ⟨cl0, P0, pn0, hw0.far fun q _ _ => e q (by omega), hPR0⟩, ⟨K1, cl, P, pn, hw⟩, ⟨KJ, clJ, PJ, pJ, hwJ.far fun q _ _ => e q (by omega), hJ⟩, ⟨rb, rx, ry, (e _ (by omega)).trans hrd⟩, (e _ (by omega)).trans hsc, ⟨co, (e _ (by omega)).trans hco⟩, ⟨se, (e _ (by omega)).trans hse⟩, fun i hi => (hsh i hi).far (e _ (by omega)) (e _ (by omega))⟩
theorem z_0 (z : Int32) (n : Nat) (hn : n = 0) : z + nI n = z := by subst hn; exact Int32.add_zero z
/-- what holds at a game's beginning in mind -/
theorem hG_no {K : KK} {m q : Nat} (hD : KD K m) (h89 : K 89 = nI q) (z : Int32) : KD ((fun X : KK => X) (bgn K m z)) m ∧ (fun X : KK => X) (bgn K m z) 91 = nI 0 ∧ (fun X : KK => X) (bgn K m z) 89 = nI q := ⟨KD_bgn hD z, rfl, (bgn_lo _ _ _ _ (by omega)).trans h89⟩
def gameV (K : KK) (m : Nat) (z y : Int32) : Int32 := if wi y (nI 0) (nI 3) = true then (if K 90 = 0 then -3 else swL y 2 (fun j => match j with | 0 => fin K m z 92 | 1 => fin K m z 91 | _ => fin K m z 94) (fin K m z 93)) else -1
def againstV (K : KK) (m : Nat) (x z : Int32) : Int32 := if wi x (nI 1) (nI 10) = true then (if K 90 = 0 then -1000000003 else agL K m z x.toNatClampNeg) else -1000000001
def fairV (K : KK) (m : Nat) (x z : Int32) : Int32 := if wi x (nI 1) (nI 10) = true then (if K 90 = 0 then -3 else bI (decide (am (agL K m z x.toNatClampNeg) ≤ x / nI 4))) else -1
def outK (K : KK) (p : Nat) : KK := upd (upd K (114 + 7 * p + 5) (nI 2)) (114 + 7 * p + 4) (-1000)
def smallerV (K : KK) (m : Nat) (x y z : Int32) : Int32 := if (plB K x && wi y (nI 1) (nI 10)) = true then agL (outK K x.toNatClampNeg) m z y.toNatClampNeg - agL K m z y.toNatClampNeg else -1000000001
set_option maxRecDepth 20000 in
set_option maxHeartbeats 4000000 in
theorem x_game (l : Launch) (d : Nat) (h : MH) (n : Nat) (K : KK) (b : Bool) (KI : KK) (S : SS) (m : Nat) (hc : ClsAt h K b KI S) (hT : TI K m) (z y : Int32) : Sp l mX5_game (d + 7) [.ref 0, .int z, .int y] h n 0 0 (Qx (gameV K m z y) K b KI S h n) := by
  have hD := hT.1
  have hm := hD.1.1
  have hm10 := hD.1.2.1
  obtain ⟨ht0, ⟨sq, hsq, esq⟩, ⟨cl, P, pn, hw, hPR⟩, ⟨Km, clm, Pm, pm, hwm⟩, ⟨KJ, clJ, PJ, pJ, hwJ, hJ⟩, ⟨rb, rx, ry, hrd⟩, hsc, ⟨co, hco⟩, ⟨se, hse⟩, hsh⟩ := id hc
  obtain ⟨hw0, ⟨gr, hgr, egr⟩, ⟨ru, hru, eru⟩, ⟨pq, hpf, epf⟩, hpl, ⟨fl, hfl, efl⟩, ⟨ca, hca, eca⟩, ⟨wa, hwa⟩, hpp, hhd⟩ := id hw
  show V _ _ _ _ [some (.ref 0), some (.int z), some (.int y)] _ _ _ _ _ _
  refine V.iload_n dX5_game_0 rfl ?_
  refine V.iconst (v := nI 0) dX5_game_1 (by decide) ?_
  refine V.iconst (v := nI 3) dX5_game_2 (by decide) ?_
  refine V.callSv [_, _, _] dX5_game_3 lk_X5_71 rfl (Nat.le_of_ble_eq_true rfl) (Nat.le_of_ble_eq_true rfl) (s5_within _ _ _ _ _ _ _) ?_
  refine V.if_neB (tgt := 11) dX5_game_6 (by decide) (fun c6 => ?_) (fun c6 => ?_)
  · refine V.aload_n dX5_game_11 rfl ?_
    refine V.getf dX5_game_12 fl_X5_18 ht0 rfl ?_
    refine V.getf dX5_game_15 fl_X5_144 hw0 rfl ?_
    refine V.if_ne (tgt := 24) dX5_game_18 (by decide) (fun c18 => ?_) (fun c18 => ?_)
    · refine V.aload_n dX5_game_24 rfl ?_
      refine V.getf dX5_game_25 fl_X5_22 ht0 rfl ?_
      refine V.aload_n dX5_game_28 rfl ?_
      refine V.getf dX5_game_29 fl_X5_18 ht0 rfl ?_
      refine V.callVw [_] dX5_game_32 lk_X5_51 rfl (Nat.le_of_ble_eq_true rfl) (Nat.le_of_ble_eq_true rfl) hwm.1 rfl (s4_become _ _ _ _ 20 2 _ _ _ _ _ _ _ _ (by omega) hwm hw) (fun h1 hw1 ho1 => ?_)
      have ht1 := (ho1 0 (by omega)).trans ht0
      refine V.aload_n dX5_game_35 rfl ?_
      refine V.getf dX5_game_36 fl_X5_22 ht1 rfl ?_
      refine V.iconst (v := nI 1) dX5_game_39 (by decide) ?_
      refine V.iload_n dX5_game_40 rfl ?_
      refine V.callVg [_, _] dX5_game_41 lk_X5_186 rfl (Nat.le_of_ble_eq_true rfl) (Nat.le_of_ble_eq_true rfl) hw1.1 rfl (s4_playGames _ _ _ _ _ 1 (by omega) (by omega) _ _ _ _ _ m (hw1.wb m) hm hm10 (KD_bgn hD) hPR) (fun h2 cl2 wa2 hw2 ho2 hwa2 hww2 => ?_)
      have ht2 := (ho2 0 (by omega)).trans ht1
      have hc2 := hc.mindO hw2 (ho1.ou.tr ho2)
      have hq2 : ∀ q, 78 ≤ q → h2 q = h q := fun q hq => (ho2 q (by omega)).trans (ho1 q (by omega))
      refine V.pop dX5_game_44 rfl ?_
      refine V.iload_n dX5_game_45 rfl ?_
      rcases sw_cases y 0 2 (by decide) with ⟨jx, hj1, hj2, rfl⟩ | hx46
      · have hjx : jx = 0 ∨ jx = 1 ∨ jx = 2 := by omega
        rcases hjx with rfl | rfl | rfl
        · refine V.tableIn (off := 26) (tgt := 72) dX5_game_46 (by decide) (by decide) rfl (by decide) ?_
          refine V.aload_n dX5_game_72 rfl ?_
          refine V.getf dX5_game_73 fl_X5_22 ht2 rfl ?_
          refine V.getf dX5_game_76 fl_X5_157 hw2.1 rfl ?_
          exact V.iret (by exact dX5_game_79) rfl rfl ⟨by (rw [z_0 _ _ rfl, gameV, if_pos c6, if_neg c18, swL_in (j := 0) (n := 2) _ _ (by decide) (by decide)]; try rfl), rfl, hc2, hq2⟩
        · refine V.tableIn (off := 34) (tgt := 80) dX5_game_46 (by decide) (by decide) rfl (by decide) ?_
          refine V.aload_n dX5_game_80 rfl ?_
          refine V.getf dX5_game_81 fl_X5_22 ht2 rfl ?_
          refine V.getf dX5_game_84 fl_X5_154 hw2.1 rfl ?_
          exact V.iret (by exact dX5_game_87) rfl rfl ⟨by (rw [z_0 _ _ rfl, gameV, if_pos c6, if_neg c18, swL_in (j := 1) (n := 2) _ _ (by decide) (by decide)]; try rfl), rfl, hc2, hq2⟩
        · refine V.tableIn (off := 42) (tgt := 88) dX5_game_46 (by decide) (by decide) rfl (by decide) ?_
          refine V.aload_n dX5_game_88 rfl ?_
          refine V.getf dX5_game_89 fl_X5_22 ht2 rfl ?_
          refine V.getf dX5_game_92 fl_X5_166 hw2.1 rfl ?_
          exact V.iret (by exact dX5_game_95) rfl rfl ⟨by (rw [z_0 _ _ rfl, gameV, if_pos c6, if_neg c18, swL_in (j := 2) (n := 2) _ _ (by decide) (by decide)]; try rfl), rfl, hc2, hq2⟩
      · refine V.tableOut (tgt := 96) dX5_game_46 hx46 (by decide) ?_
        refine V.aload_n dX5_game_96 rfl ?_
        refine V.getf dX5_game_97 fl_X5_22 ht2 rfl ?_
        refine V.getf dX5_game_100 fl_X5_163 hw2.1 rfl ?_
        exact V.iret (by exact dX5_game_103) rfl rfl ⟨by (rw [z_0 _ _ rfl, gameV, if_pos c6, if_neg c18, swL_out (n := 2) _ _ (by decide) hx46]; try rfl), rfl, hc2, hq2⟩
    · refine V.bipush (v := -3) dX5_game_21 (by decide) ?_
      exact V.iret (by exact dX5_game_23) rfl rfl ⟨by simp only [gameV, c6, eq_true c18, not_true_eq_false, not_false_eq_true, if_true, if_false, decide_true, decide_false, Bool.and_true, Bool.and_false, Bool.true_and, Bool.false_and, Bool.or_true, Bool.or_false, Bool.true_or, Bool.false_or, Bool.not_true, Bool.not_false, and_true, and_false, true_and, false_and, or_true, or_false, true_or, false_or, bIt, bIf, Bool.false_eq_true, reduceCtorEq], rfl, hc, fun _ _ => rfl⟩
  · refine V.iconst (v := -1) dX5_game_9 (by decide) ?_
    exact V.iret (by exact dX5_game_10) rfl rfl ⟨by simp only [gameV, c6, not_true_eq_false, not_false_eq_true, if_true, if_false, decide_true, decide_false, Bool.and_true, Bool.and_false, Bool.true_and, Bool.false_and, Bool.or_true, Bool.or_false, Bool.true_or, Bool.false_or, Bool.not_true, Bool.not_false, and_true, and_false, true_and, false_and, or_true, or_false, true_or, false_or, bIt, bIf, Bool.false_eq_true, reduceCtorEq], rfl, hc, fun _ _ => rfl⟩
set_option maxRecDepth 20000 in
set_option maxHeartbeats 4000000 in
theorem m_game (l : Launch) (d : Nat) (h : MH) (n : Nat) (K : KK) (b : Bool) (KI : KK) (S : SS) (m : Nat) (hc : ModAt h K b KI S) (hT : TI K m) (z y : Int32) : Sp l mX6_game (d + 10) [.ref 78, .int z, .int y] h n 0 0 (Qm (gameV K m z y) K b KI S h n) := by
  have hD := hT.1
  have hm := hD.1.1
  have hm10 := hD.1.2.1
  obtain ⟨⟨th, po, ba, en, tt, hm0⟩, ha, hb, ⟨Km, hmi⟩, ⟨Kr, hre⟩, h83, h84, h85, h86, h87, h88, ⟨X89, h89⟩, ⟨X90, h90⟩, ⟨X91, h91⟩, ⟨X92, h92⟩⟩ := id hc
  show V _ _ _ _ [some (.ref 78), some (.int z), some (.int y)] _ _ _ _ _ _
  refine V.iload_n dX6_game_0 rfl ?_
  refine V.i2l dX6_game_1 ?_
  refine V.lconst (v := 0) dX6_game_2 (by decide) ?_
  refine V.ldc2 dX6_game_3 cn_X6_262 ?_
  refine V.callSv [_, _, _] dX6_game_6 lk_X6_62 rfl (Nat.le_of_ble_eq_true rfl) (Nat.le_of_ble_eq_true rfl) (s6_isInC _ _ _ (nI 0) (nI 3) (by decide) (by decide) _ _) ?_
  refine V.if_neB (tgt := 14) dX6_game_9 (by decide) (fun c9 => ?_) (fun c9 => ?_)
  · refine V.aload_n dX6_game_14 rfl ?_
    refine V.getf dX6_game_15 fl_X6_9 hm0 rfl ?_
    refine V.bipush (v := nI 90) dX6_game_18 (by decide) ?_
    refine V.ialdN dX6_game_20 ha (by omega) (by decide) ?_
    refine V.if_ne (tgt := 27) dX6_game_21 (by decide) (fun c21 => ?_) (fun c21 => ?_)
    · obtain ⟨q, hq10, hq, h89q⟩ := hT.2.2.1
      refine V.hp (hset_id hmi).symm ?_
      refine V.aload_n dX6_game_27 rfl ?_
      refine V.iload_n dX6_game_28 rfl ?_
      refine V.callVu [_] dX6_game_29 lk_X6_264 rfl (Nat.le_of_ble_eq_true rfl) (Nat.le_of_ble_eq_true rfl) (o_ne hm0 (by decide)) rfl (s6_opens _ _ _ _ K Km b th po ba en tt hm0 ha m hm hm10 (fun p hp => hT.2.1 p (by omega)) _) ?_
      refine V.aload_n dX6_game_32 rfl ?_
      refine V.callVu [] dX6_game_33 lk_X6_268 rfl (Nat.le_of_ble_eq_true rfl) (Nat.le_of_ble_eq_true rfl) (o_ne hm0 (by decide)) rfl (s6_plays _ _ _ _ b th po ba en tt hm0 m q hq _ (hG_no hD h89q _).1 (hG_no hD h89q _).2.1 (hG_no hD h89q _).2.2) ?_
      refine V.iload_n dX6_game_36 rfl ?_
      rcases sw_cases y 0 2 (by decide) with ⟨jx, hj1, hj2, rfl⟩ | hx37
      · have hjx : jx = 0 ∨ jx = 1 ∨ jx = 2 := by omega
        rcases hjx with rfl | rfl | rfl
        · refine V.tableIn (off := 27) (tgt := 64) dX6_game_37 (by decide) (by decide) rfl (by decide) ?_
          refine V.aload_n dX6_game_64 rfl ?_
          refine V.getf dX6_game_65 fl_X6_16 (o_ne hm0 (by decide)) rfl ?_
          refine V.bipush (v := nI 92) dX6_game_68 (by decide) ?_
          refine V.ialdN dX6_game_70 (hset_self _ _ _) (by omega) (by decide) ?_
          exact V.iret (by exact dX6_game_71) rfl rfl ⟨by (rw [gameV, if_pos c9, if_neg c21, swL_in (j := 0) (n := 2) _ _ (by decide) (by decide)]; try rfl), rfl, hc.mi _, fun q hq => hset_ne _ _ (by omega)⟩
        · refine V.tableIn (off := 35) (tgt := 72) dX6_game_37 (by decide) (by decide) rfl (by decide) ?_
          refine V.aload_n dX6_game_72 rfl ?_
          refine V.getf dX6_game_73 fl_X6_16 (o_ne hm0 (by decide)) rfl ?_
          refine V.bipush (v := nI 91) dX6_game_76 (by decide) ?_
          refine V.ialdN dX6_game_78 (hset_self _ _ _) (by omega) (by decide) ?_
          exact V.iret (by exact dX6_game_79) rfl rfl ⟨by (rw [gameV, if_pos c9, if_neg c21, swL_in (j := 1) (n := 2) _ _ (by decide) (by decide)]; try rfl), rfl, hc.mi _, fun q hq => hset_ne _ _ (by omega)⟩
        · refine V.tableIn (off := 43) (tgt := 80) dX6_game_37 (by decide) (by decide) rfl (by decide) ?_
          refine V.aload_n dX6_game_80 rfl ?_
          refine V.getf dX6_game_81 fl_X6_16 (o_ne hm0 (by decide)) rfl ?_
          refine V.bipush (v := nI 94) dX6_game_84 (by decide) ?_
          refine V.ialdN dX6_game_86 (hset_self _ _ _) (by omega) (by decide) ?_
          exact V.iret (by exact dX6_game_87) rfl rfl ⟨by (rw [gameV, if_pos c9, if_neg c21, swL_in (j := 2) (n := 2) _ _ (by decide) (by decide)]; try rfl), rfl, hc.mi _, fun q hq => hset_ne _ _ (by omega)⟩
      · refine V.tableOut (tgt := 88) dX6_game_37 hx37 (by decide) ?_
        refine V.aload_n dX6_game_88 rfl ?_
        refine V.getf dX6_game_89 fl_X6_16 (o_ne hm0 (by decide)) rfl ?_
        refine V.bipush (v := nI 93) dX6_game_92 (by decide) ?_
        refine V.ialdN dX6_game_94 (hset_self _ _ _) (by omega) (by decide) ?_
        exact V.iret (by exact dX6_game_95) rfl rfl ⟨by (rw [gameV, if_pos c9, if_neg c21, swL_out (n := 2) _ _ (by decide) hx37]; try rfl), rfl, hc.mi _, fun q hq => hset_ne _ _ (by omega)⟩
    · refine V.bipush (v := -3) dX6_game_24 (by decide) ?_
      exact V.iret (by exact dX6_game_26) rfl rfl ⟨by simp only [gameV, c9, eq_true c21, not_true_eq_false, not_false_eq_true, if_true, if_false, decide_true, decide_false, Bool.and_true, Bool.and_false, Bool.true_and, Bool.false_and, Bool.or_true, Bool.or_false, Bool.true_or, Bool.false_or, Bool.not_true, Bool.not_false, and_true, and_false, true_and, false_and, or_true, or_false, true_or, false_or, bIt, bIf, Bool.false_eq_true, reduceCtorEq], rfl, hc, fun _ _ => rfl⟩
  · refine V.iconst (v := -1) dX6_game_12 (by decide) ?_
    exact V.iret (by exact dX6_game_13) rfl rfl ⟨by simp only [gameV, c9, not_true_eq_false, not_false_eq_true, if_true, if_false, decide_true, decide_false, Bool.and_true, Bool.and_false, Bool.true_and, Bool.false_and, Bool.or_true, Bool.or_false, Bool.true_or, Bool.false_or, Bool.not_true, Bool.not_false, and_true, and_false, true_and, false_and, or_true, or_false, true_or, false_or, bIt, bIf, Bool.false_eq_true, reduceCtorEq], rfl, hc, fun _ _ => rfl⟩
set_option maxRecDepth 20000 in
set_option maxHeartbeats 4000000 in
theorem x_against (l : Launch) (d : Nat) (h : MH) (n : Nat) (K : KK) (b : Bool) (KI : KK) (S : SS) (m : Nat) (hc : ClsAt h K b KI S) (hT : TI K m) (x z : Int32) : Sp l mX5_against (d + 7) [.ref 0, .int x, .int z] h n 0 0 (Qx (againstV K m x z) K b KI S h n) := by
  have hD := hT.1
  have hm := hD.1.1
  have hm10 := hD.1.2.1
  obtain ⟨ht0, ⟨sq, hsq, esq⟩, ⟨cl, P, pn, hw, hPR⟩, ⟨Km, clm, Pm, pm, hwm⟩, ⟨KJ, clJ, PJ, pJ, hwJ, hJ⟩, ⟨rb, rx, ry, hrd⟩, hsc, ⟨co, hco⟩, ⟨se, hse⟩, hsh⟩ := id hc
  obtain ⟨hw0, ⟨gr, hgr, egr⟩, ⟨ru, hru, eru⟩, ⟨pq, hpf, epf⟩, hpl, ⟨fl, hfl, efl⟩, ⟨ca, hca, eca⟩, ⟨wa, hwa⟩, hpp, hhd⟩ := id hw
  show V _ _ _ _ [some (.ref 0), some (.int x), some (.int z)] _ _ _ _ _ _
  refine V.iload_n dX5_against_0 rfl ?_
  refine V.iconst (v := nI 1) dX5_against_1 (by decide) ?_
  refine V.bipush (v := nI 10) dX5_against_2 (by decide) ?_
  refine V.callSv [_, _, _] dX5_against_4 lk_X5_71 rfl (Nat.le_of_ble_eq_true rfl) (Nat.le_of_ble_eq_true rfl) (s5_within _ _ _ _ _ _ _) ?_
  refine V.if_neB (tgt := 13) dX5_against_7 (by decide) (fun c7 => ?_) (fun c7 => ?_)
  · refine V.aload_n dX5_against_13 rfl ?_
    refine V.getf dX5_against_14 fl_X5_18 ht0 rfl ?_
    refine V.getf dX5_against_17 fl_X5_144 hw0 rfl ?_
    refine V.if_ne (tgt := 26) dX5_against_20 (by decide) (fun c20 => ?_) (fun c20 => ?_)
    · obtain ⟨N, hN1, hN, rfl⟩ := wi1_ex (by decide) c7
      refine V.aload_n dX5_against_26 rfl ?_
      refine V.getf dX5_against_27 fl_X5_22 ht0 rfl ?_
      refine V.aload_n dX5_against_30 rfl ?_
      refine V.getf dX5_against_31 fl_X5_18 ht0 rfl ?_
      refine V.callVw [_] dX5_against_34 lk_X5_51 rfl (Nat.le_of_ble_eq_true rfl) (Nat.le_of_ble_eq_true rfl) hwm.1 rfl (s4_become _ _ _ _ 20 2 _ _ _ _ _ _ _ _ (by omega) hwm hw) (fun h1 hw1 ho1 => ?_)
      have ht1 := (ho1 0 (by omega)).trans ht0
      refine V.aload_n dX5_against_37 rfl ?_
      refine V.getf dX5_against_38 fl_X5_22 ht1 rfl ?_
      refine V.iload_n dX5_against_41 rfl ?_
      refine V.iload_n dX5_against_42 rfl ?_
      refine V.callVg [_, _] dX5_against_43 lk_X5_186 rfl (Nat.le_of_ble_eq_true rfl) (Nat.le_of_ble_eq_true rfl) hw1.1 rfl (s4_playGames _ _ _ _ _ N hN1 hN _ _ _ _ _ m (hw1.wb m) hm hm10 (KD_bgn hD) hPR) (fun h2 cl2 wa2 hw2 ho2 hwa2 hww2 => ?_)
      have ht2 := (ho2 0 (by omega)).trans ht1
      have hc2 := hc.mindO hw2 (ho1.ou.tr ho2)
      have hq2 : ∀ q, 78 ≤ q → h2 q = h q := fun q hq => (ho2 q (by omega)).trans (ho1 q (by omega))
      exact V.iret (by exact dX5_against_46) rfl rfl ⟨by rw [againstV, if_pos c7, if_neg c20, clampI (show N < 2147483648 by omega)], rfl, hc2, hq2⟩
    · refine V.ldc dX5_against_23 cn_X5_190 ?_
      exact V.iret (by exact dX5_against_25) rfl rfl ⟨by simp only [againstV, c7, eq_true c20, not_true_eq_false, not_false_eq_true, if_true, if_false, decide_true, decide_false, Bool.and_true, Bool.and_false, Bool.true_and, Bool.false_and, Bool.or_true, Bool.or_false, Bool.true_or, Bool.false_or, Bool.not_true, Bool.not_false, and_true, and_false, true_and, false_and, or_true, or_false, true_or, false_or, bIt, bIf, Bool.false_eq_true, reduceCtorEq], rfl, hc, fun _ _ => rfl⟩
  · refine V.ldc dX5_against_10 cn_X5_189 ?_
    exact V.iret (by exact dX5_against_12) rfl rfl ⟨by simp only [againstV, c7, not_true_eq_false, not_false_eq_true, if_true, if_false, decide_true, decide_false, Bool.and_true, Bool.and_false, Bool.true_and, Bool.false_and, Bool.or_true, Bool.or_false, Bool.true_or, Bool.false_or, Bool.not_true, Bool.not_false, and_true, and_false, true_and, false_and, or_true, or_false, true_or, false_or, bIt, bIf, Bool.false_eq_true, reduceCtorEq], rfl, hc, fun _ _ => rfl⟩
set_option maxRecDepth 20000 in
set_option maxHeartbeats 4000000 in
theorem m_against (l : Launch) (d : Nat) (h : MH) (n : Nat) (K : KK) (b : Bool) (KI : KK) (S : SS) (m : Nat) (hc : ModAt h K b KI S) (hT : TI K m) (x z : Int32) : Sp l mX6_against (d + 11) [.ref 78, .int x, .int z] h n 0 0 (Qm (againstV K m x z) K b KI S h n) := by
  have hD := hT.1
  have hm := hD.1.1
  have hm10 := hD.1.2.1
  obtain ⟨⟨th, po, ba, en, tt, hm0⟩, ha, hb, ⟨Km, hmi⟩, ⟨Kr, hre⟩, h83, h84, h85, h86, h87, h88, ⟨X89, h89⟩, ⟨X90, h90⟩, ⟨X91, h91⟩, ⟨X92, h92⟩⟩ := id hc
  show V _ _ _ _ [some (.ref 78), some (.int x), some (.int z)] _ _ _ _ _ _
  refine V.iload_n dX6_against_0 rfl ?_
  refine V.i2l dX6_against_1 ?_
  refine V.lconst (v := 1) dX6_against_2 (by decide) ?_
  refine V.ldc2 dX6_against_3 cn_X6_147 ?_
  refine V.callSv [_, _, _] dX6_against_6 lk_X6_62 rfl (Nat.le_of_ble_eq_true rfl) (Nat.le_of_ble_eq_true rfl) (s6_isInC _ _ _ (nI 1) (nI 10) (by decide) (by decide) _ _) ?_
  refine V.if_neB (tgt := 18) dX6_against_9 (by decide) (fun c9 => ?_) (fun c9 => ?_)
  · refine V.aload_n dX6_against_18 rfl ?_
    refine V.getf dX6_against_19 fl_X6_9 hm0 rfl ?_
    refine V.bipush (v := nI 90) dX6_against_22 (by decide) ?_
    refine V.ialdN dX6_against_24 ha (by omega) (by decide) ?_
    refine V.if_ne (tgt := 34) dX6_against_25 (by decide) (fun c25 => ?_) (fun c25 => ?_)
    · obtain ⟨N, hN1, hN, rfl⟩ := wi1_ex (by decide) c9
      obtain ⟨q, hq10, hq, h89q⟩ := hT.2.2.1
      refine V.aload_n dX6_against_34 rfl ?_
      refine V.iload_n dX6_against_35 rfl ?_
      refine V.iload_n dX6_against_36 rfl ?_
      refine V.bipush (v := -4) dX6_against_37 (by decide) ?_
      refine V.iconst (v := nI 0) dX6_against_39 (by decide) ?_
      refine V.bipush (v := -4) dX6_against_40 (by decide) ?_
      refine V.iconst (v := nI 0) dX6_against_42 (by decide) ?_
      refine V.callVa [_, _, _, _, _, _] dX6_against_43 lk_X6_273 rfl (Nat.le_of_ble_eq_true rfl) (Nat.le_of_ble_eq_true rfl) hm0 rfl (s6_againstF _ _ _ _ K b th po ba en tt N hN _ _ _ _ _ hm0 ha Km hmi m hm hm10 (fun p hp => hT.2.1 p (by omega)) q hq (fun X => X) (hG_no hD h89q) (fun X i v _ kk => s6_ch_no _ _ _ _ b th po ba en tt N _ _ _ hm0 X i v kk)) (fun X => ?_)
      rw [agF_L (K1 := K) _ (fun _ => rfl)]
      exact V.iret (by exact dX6_against_46) rfl rfl ⟨by rw [againstV, if_pos c9, if_neg c25, clampI (show N < 2147483648 by omega)], rfl, hc.mi X, fun q hq => hset_ne _ _ (by omega)⟩
    · refine V.ldcw dX6_against_28 cn_X6_272 ?_
      refine V.goto (tgt := 46) dX6_against_31 (by decide) ?_
      exact V.iret (by exact dX6_against_46) rfl rfl ⟨by simp only [againstV, c9, eq_true c25, not_true_eq_false, not_false_eq_true, if_true, if_false, decide_true, decide_false, Bool.and_true, Bool.and_false, Bool.true_and, Bool.false_and, Bool.or_true, Bool.or_false, Bool.true_or, Bool.false_or, Bool.not_true, Bool.not_false, and_true, and_false, true_and, false_and, or_true, or_false, true_or, false_or, bIt, bIf, Bool.false_eq_true, reduceCtorEq], rfl, hc, fun _ _ => rfl⟩
  · refine V.ldcw dX6_against_12 cn_X6_271 ?_
    refine V.goto (tgt := 46) dX6_against_15 (by decide) ?_
    exact V.iret (by exact dX6_against_46) rfl rfl ⟨by simp only [againstV, c9, not_true_eq_false, not_false_eq_true, if_true, if_false, decide_true, decide_false, Bool.and_true, Bool.and_false, Bool.true_and, Bool.false_and, Bool.or_true, Bool.or_false, Bool.true_or, Bool.false_or, Bool.not_true, Bool.not_false, and_true, and_false, true_and, false_and, or_true, or_false, true_or, false_or, bIt, bIf, Bool.false_eq_true, reduceCtorEq], rfl, hc, fun _ _ => rfl⟩
theorem ldv_b (x : Int32) : -1 ≤ (ldv x).toInt ∧ (ldv x).toInt ≤ 1 := by
  unfold ldv
  split
  · decide
  · split <;> decide
theorem agL_b (K : KK) (m : Nat) (z : Int32) : ∀ g : Nat, g ≤ 1000 → -(g : Int) ≤ (agL K m z g).toInt ∧ (agL K m z g).toInt ≤ g := by
  intro g
  induction g with
  | zero => intro _; exact ⟨by show -((0 : Nat) : Int) ≤ (nI 0).toInt; decide, by show (nI 0).toInt ≤ ((0 : Nat) : Int); decide⟩
  | succ g ih =>
    intro hg
    have h1 := ih (by omega)
    have h2 := ldv_b (fin K m (z + nI g) 92)
    rw [agL, Int32.toInt_add]
    rw [Int.bmod_eq_of_le (by omega) (by omega)]
    omega
theorem am_le {v : Int32} {c : Nat} (hc : c ≤ 100) (h1 : -1000 ≤ v.toInt) (h2 : v.toInt ≤ 1000) : decide (am v ≤ nI c) = wi v (-(nI c)) (nI c) := by
  have hc2 : (nI c).toInt = c := nI_toInt (by omega)
  have hn : (-(nI c)).toInt = -(c : Int) := by
    rw [Int32.toInt_neg, hc2, Int.bmod_eq_of_le (by omega) (by omega)]
  have hv : (-v).toInt = -v.toInt := by rw [Int32.toInt_neg, Int.bmod_eq_of_le (by omega) (by omega)]
  unfold am wi
  by_cases q : v < 0
  · have q2 : v.toInt < 0 := by simpa using Int32.lt_iff_toInt_lt.mp q
    rw [if_pos q]
    have e1 : (-v ≤ nI c) ↔ (-(nI c) ≤ v) := by rw [Int32.le_iff_toInt_le, Int32.le_iff_toInt_le, hv, hn, hc2]; omega
    have e2 : v ≤ nI c := by rw [Int32.le_iff_toInt_le, hc2]; omega
    simp [e1, e2]
  · have q2 : ¬ v.toInt < 0 := fun y => q (Int32.lt_iff_toInt_lt.mpr (by simpa using y))
    rw [if_neg q]
    have e1 : -(nI c) ≤ v := by rw [Int32.le_iff_toInt_le, hn]; omega
    simp [e1]
set_option maxRecDepth 20000 in
set_option maxHeartbeats 4000000 in
theorem x_fair (l : Launch) (d : Nat) (h : MH) (n : Nat) (K : KK) (b : Bool) (KI : KK) (S : SS) (m : Nat) (hc : ClsAt h K b KI S) (hT : TI K m) (x z : Int32) : Sp l mX5_fair (d + 7) [.ref 0, .int x, .int z] h n 0 0 (Qx (fairV K m x z) K b KI S h n) := by
  have hD := hT.1
  have hm := hD.1.1
  have hm10 := hD.1.2.1
  obtain ⟨ht0, ⟨sq, hsq, esq⟩, ⟨cl, P, pn, hw, hPR⟩, ⟨Km, clm, Pm, pm, hwm⟩, ⟨KJ, clJ, PJ, pJ, hwJ, hJ⟩, ⟨rb, rx, ry, hrd⟩, hsc, ⟨co, hco⟩, ⟨se, hse⟩, hsh⟩ := id hc
  obtain ⟨hw0, ⟨gr, hgr, egr⟩, ⟨ru, hru, eru⟩, ⟨pq, hpf, epf⟩, hpl, ⟨fl, hfl, efl⟩, ⟨ca, hca, eca⟩, ⟨wa, hwa⟩, hpp, hhd⟩ := id hw
  show V _ _ _ _ [some (.ref 0), some (.int x), some (.int z)] _ _ _ _ _ _
  refine V.iload_n dX5_fair_0 rfl ?_
  refine V.iconst (v := nI 1) dX5_fair_1 (by decide) ?_
  refine V.bipush (v := nI 10) dX5_fair_2 (by decide) ?_
  refine V.callSv [_, _, _] dX5_fair_4 lk_X5_71 rfl (Nat.le_of_ble_eq_true rfl) (Nat.le_of_ble_eq_true rfl) (s5_within _ _ _ _ _ _ _) ?_
  refine V.if_neB (tgt := 12) dX5_fair_7 (by decide) (fun c7 => ?_) (fun c7 => ?_)
  · refine V.aload_n dX5_fair_12 rfl ?_
    refine V.getf dX5_fair_13 fl_X5_18 ht0 rfl ?_
    refine V.getf dX5_fair_16 fl_X5_144 hw0 rfl ?_
    refine V.if_ne (tgt := 25) dX5_fair_19 (by decide) (fun c19 => ?_) (fun c19 => ?_)
    · obtain ⟨N, hN1, hN, rfl⟩ := wi1_ex (by decide) c7
      refine V.aload_n dX5_fair_25 rfl ?_
      refine V.getf dX5_fair_26 fl_X5_22 ht0 rfl ?_
      refine V.aload_n dX5_fair_29 rfl ?_
      refine V.getf dX5_fair_30 fl_X5_18 ht0 rfl ?_
      refine V.callVw [_] dX5_fair_33 lk_X5_51 rfl (Nat.le_of_ble_eq_true rfl) (Nat.le_of_ble_eq_true rfl) hwm.1 rfl (s4_become _ _ _ _ 20 2 _ _ _ _ _ _ _ _ (by omega) hwm hw) (fun h1 hw1 ho1 => ?_)
      have ht1 := (ho1 0 (by omega)).trans ht0
      refine V.aload_n dX5_fair_36 rfl ?_
      refine V.getf dX5_fair_37 fl_X5_22 ht1 rfl ?_
      refine V.iload_n dX5_fair_40 rfl ?_
      refine V.iload_n dX5_fair_41 rfl ?_
      refine V.callVg [_, _] dX5_fair_42 lk_X5_186 rfl (Nat.le_of_ble_eq_true rfl) (Nat.le_of_ble_eq_true rfl) hw1.1 rfl (s4_playGames _ _ _ _ _ N hN1 hN _ _ _ _ _ m (hw1.wb m) hm hm10 (KD_bgn hD) hPR) (fun h2 cl2 wa2 hw2 ho2 hwa2 hww2 => ?_)
      have ht2 := (ho2 0 (by omega)).trans ht1
      have hc2 := hc.mindO hw2 (ho1.ou.tr ho2)
      have hq2 : ∀ q, 78 ≤ q → h2 q = h q := fun q hq => (ho2 q (by omega)).trans (ho1 q (by omega))
      refine V.iload_n dX5_fair_45 rfl ?_
      refine V.iconst (v := nI 4) dX5_fair_46 (by decide) ?_
      refine V.idiv dX5_fair_47 (by decide) ?_
      refine V.ineg dX5_fair_48 ?_
      refine V.iload_n dX5_fair_49 rfl ?_
      refine V.iconst (v := nI 4) dX5_fair_50 (by decide) ?_
      refine V.idiv dX5_fair_51 (by decide) ?_
      rw [show nI N / nI 4 = nI (N / 4) from pk_div (by omega) (by omega) (by omega)]
      refine V.callSv [_, _, _] dX5_fair_52 lk_X5_71 rfl (Nat.le_of_ble_eq_true rfl) (Nat.le_of_ble_eq_true rfl) (s5_within _ _ _ _ _ _ _) ?_
      refine V.if_eqB (tgt := 62) dX5_fair_55 (by decide) (fun c55 => ?_) (fun c55 => ?_)
      · refine V.iconst (v := nI 0) dX5_fair_62 (by decide) ?_
        have e4 : nI N / nI 4 = nI (N / 4) := pk_div (by omega) (by omega) (by omega)
        have hb := agL_b K m z N (by omega)
        exact V.iret (by exact dX5_fair_63) rfl rfl ⟨by rw [fairV, if_pos c7, if_neg c19, clampI (show N < 2147483648 by omega), e4, am_le (by omega) (by omega) (by omega), c55]; rfl, rfl, hc2, hq2⟩
      · refine V.iconst (v := nI 1) dX5_fair_58 (by decide) ?_
        refine V.goto (tgt := 63) dX5_fair_59 (by decide) ?_
        have e4 : nI N / nI 4 = nI (N / 4) := pk_div (by omega) (by omega) (by omega)
        have hb := agL_b K m z N (by omega)
        exact V.iret (by exact dX5_fair_63) rfl rfl ⟨by rw [fairV, if_pos c7, if_neg c19, clampI (show N < 2147483648 by omega), e4, am_le (by omega) (by omega) (by omega), c55]; rfl, rfl, hc2, hq2⟩
    · refine V.bipush (v := -3) dX5_fair_22 (by decide) ?_
      exact V.iret (by exact dX5_fair_24) rfl rfl ⟨by simp only [fairV, c7, eq_true c19, not_true_eq_false, not_false_eq_true, if_true, if_false, decide_true, decide_false, Bool.and_true, Bool.and_false, Bool.true_and, Bool.false_and, Bool.or_true, Bool.or_false, Bool.true_or, Bool.false_or, Bool.not_true, Bool.not_false, and_true, and_false, true_and, false_and, or_true, or_false, true_or, false_or, bIt, bIf, Bool.false_eq_true, reduceCtorEq], rfl, hc, fun _ _ => rfl⟩
  · refine V.iconst (v := -1) dX5_fair_10 (by decide) ?_
    exact V.iret (by exact dX5_fair_11) rfl rfl ⟨by simp only [fairV, c7, not_true_eq_false, not_false_eq_true, if_true, if_false, decide_true, decide_false, Bool.and_true, Bool.and_false, Bool.true_and, Bool.false_and, Bool.or_true, Bool.or_false, Bool.true_or, Bool.false_or, Bool.not_true, Bool.not_false, and_true, and_false, true_and, false_and, or_true, or_false, true_or, false_or, bIt, bIf, Bool.false_eq_true, reduceCtorEq], rfl, hc, fun _ _ => rfl⟩
set_option maxRecDepth 20000 in
set_option maxHeartbeats 4000000 in
theorem m_fair (l : Launch) (d : Nat) (h : MH) (n : Nat) (K : KK) (b : Bool) (KI : KK) (S : SS) (m : Nat) (hc : ModAt h K b KI S) (hT : TI K m) (x z : Int32) : Sp l mX6_fair (d + 11) [.ref 78, .int x, .int z] h n 0 0 (Qm (fairV K m x z) K b KI S h n) := by
  have hD := hT.1
  have hm := hD.1.1
  have hm10 := hD.1.2.1
  obtain ⟨⟨th, po, ba, en, tt, hm0⟩, ha, hb, ⟨Km, hmi⟩, ⟨Kr, hre⟩, h83, h84, h85, h86, h87, h88, ⟨X89, h89⟩, ⟨X90, h90⟩, ⟨X91, h91⟩, ⟨X92, h92⟩⟩ := id hc
  show V _ _ _ _ [some (.ref 78), some (.int x), some (.int z)] _ _ _ _ _ _
  refine V.iload_n dX6_fair_0 rfl ?_
  refine V.i2l dX6_fair_1 ?_
  refine V.lconst (v := 1) dX6_fair_2 (by decide) ?_
  refine V.ldc2 dX6_fair_3 cn_X6_147 ?_
  refine V.callSv [_, _, _] dX6_fair_6 lk_X6_62 rfl (Nat.le_of_ble_eq_true rfl) (Nat.le_of_ble_eq_true rfl) (s6_isInC _ _ _ (nI 1) (nI 10) (by decide) (by decide) _ _) ?_
  refine V.if_neB (tgt := 16) dX6_fair_9 (by decide) (fun c9 => ?_) (fun c9 => ?_)
  · refine V.aload_n dX6_fair_16 rfl ?_
    refine V.getf dX6_fair_17 fl_X6_9 hm0 rfl ?_
    refine V.bipush (v := nI 90) dX6_fair_20 (by decide) ?_
    refine V.ialdN dX6_fair_22 ha (by omega) (by decide) ?_
    refine V.if_ne (tgt := 31) dX6_fair_23 (by decide) (fun c23 => ?_) (fun c23 => ?_)
    · obtain ⟨N, hN1, hN, rfl⟩ := wi1_ex (by decide) c9
      obtain ⟨q, hq10, hq, h89q⟩ := hT.2.2.1
      refine V.aload_n dX6_fair_31 rfl ?_
      refine V.iload_n dX6_fair_32 rfl ?_
      refine V.iload_n dX6_fair_33 rfl ?_
      refine V.bipush (v := -4) dX6_fair_34 (by decide) ?_
      refine V.iconst (v := nI 0) dX6_fair_36 (by decide) ?_
      refine V.bipush (v := -4) dX6_fair_37 (by decide) ?_
      refine V.iconst (v := nI 0) dX6_fair_39 (by decide) ?_
      refine V.callVa [_, _, _, _, _, _] dX6_fair_40 lk_X6_273 rfl (Nat.le_of_ble_eq_true rfl) (Nat.le_of_ble_eq_true rfl) hm0 rfl (s6_againstF _ _ _ _ K b th po ba en tt N hN _ _ _ _ _ hm0 ha Km hmi m hm hm10 (fun p hp => hT.2.1 p (by omega)) q hq (fun X => X) (hG_no hD h89q) (fun X i v _ kk => s6_ch_no _ _ _ _ b th po ba en tt N _ _ _ hm0 X i v kk)) (fun X => ?_)
      rw [agF_L (K1 := K) _ (fun _ => rfl)]
      refine V.callSv [_] dX6_fair_43 lk_X6_68 rfl (Nat.le_of_ble_eq_true rfl) (Nat.le_of_ble_eq_true rfl) (s6_amount _ _ _ _ _) ?_
      refine V.iload_n dX6_fair_46 rfl ?_
      refine V.iconst (v := nI 4) dX6_fair_47 (by decide) ?_
      refine V.idiv dX6_fair_48 (by decide) ?_
      refine V.icmp_gt (tgt := 56) dX6_fair_49 (by decide) (fun c49 => ?_) (fun c49 => ?_)
      · refine V.iconst (v := nI 0) dX6_fair_56 (by decide) ?_
        exact V.iret (by exact dX6_fair_57) rfl rfl ⟨by rw [fairV, if_pos c9, if_neg c23, clampI (show N < 2147483648 by omega)]; first | (rw [decide_eq_true (Int32.not_lt.mp c49)]; rfl) | (rw [decide_eq_false (Int32.not_le.mpr c49)]; rfl), rfl, hc.mi X, fun q hq => hset_ne _ _ (by omega)⟩
      · refine V.iconst (v := nI 1) dX6_fair_52 (by decide) ?_
        refine V.goto (tgt := 57) dX6_fair_53 (by decide) ?_
        exact V.iret (by exact dX6_fair_57) rfl rfl ⟨by rw [fairV, if_pos c9, if_neg c23, clampI (show N < 2147483648 by omega)]; first | (rw [decide_eq_true (Int32.not_lt.mp c49)]; rfl) | (rw [decide_eq_false (Int32.not_le.mpr c49)]; rfl), rfl, hc.mi X, fun q hq => hset_ne _ _ (by omega)⟩
    · refine V.bipush (v := -3) dX6_fair_26 (by decide) ?_
      refine V.goto (tgt := 57) dX6_fair_28 (by decide) ?_
      exact V.iret (by exact dX6_fair_57) rfl rfl ⟨by simp only [fairV, c9, eq_true c23, not_true_eq_false, not_false_eq_true, if_true, if_false, decide_true, decide_false, Bool.and_true, Bool.and_false, Bool.true_and, Bool.false_and, Bool.or_true, Bool.or_false, Bool.true_or, Bool.false_or, Bool.not_true, Bool.not_false, and_true, and_false, true_and, false_and, or_true, or_false, true_or, false_or, bIt, bIf, Bool.false_eq_true, reduceCtorEq], rfl, hc, fun _ _ => rfl⟩
  · refine V.iconst (v := -1) dX6_fair_12 (by decide) ?_
    refine V.goto (tgt := 57) dX6_fair_13 (by decide) ?_
    exact V.iret (by exact dX6_fair_57) rfl rfl ⟨by simp only [fairV, c9, not_true_eq_false, not_false_eq_true, if_true, if_false, decide_true, decide_false, Bool.and_true, Bool.and_false, Bool.true_and, Bool.false_and, Bool.or_true, Bool.or_false, Bool.true_or, Bool.false_or, Bool.not_true, Bool.not_false, and_true, and_false, true_and, false_and, or_true, or_false, true_or, false_or, bIt, bIf, Bool.false_eq_true, reduceCtorEq], rfl, hc, fun _ _ => rfl⟩
