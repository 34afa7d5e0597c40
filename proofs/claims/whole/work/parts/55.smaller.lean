theorem outK_gP (K : KK) (p q u : Nat) (hu : u < 7) : gP (outK K p) q u = if q = p ∧ u = 4 then -1000 else if q = p ∧ u = 5 then nI 2 else gP K q u := by
  rw [outK, gP_upd _ _ _ _ _ _ (by omega) hu, gP_upd _ _ _ _ _ _ (by omega) hu]
theorem outK_lo (K : KK) (p j : Nat) (hj : j < 114) : outK K p j = K j := by rw [outK, pk_un (by omega), pk_un (by omega)]
theorem bgS_out (K : KK) (p : Nat) (z : Int32) : outK (bgS K z) p = bgS (outK K p) z := by
  have e : ∀ (X : KK) (i : Nat) (v : Int32), 114 ≤ i → upd (bgS X z) i v = bgS (upd X i v) z := fun X i v hi => by
    funext j
    by_cases q : j = i
    · subst q; rw [pk_us, bgS_j _ _ _ (by omega), pk_us]
    · rw [pk_un q]
      by_cases y : j < 91 ∨ 100 ≤ j
      · rw [bgS_j _ _ _ y, bgS_j _ _ _ y, pk_un q]
      · rcases (show j = 91 ∨ j = 92 ∨ j = 93 ∨ j = 94 ∨ j = 95 ∨ j = 96 ∨ j = 97 ∨ j = 98 ∨ j = 99 by omega) with rfl | rfl | rfl | rfl | rfl | rfl | rfl | rfl | rfl <;> rfl
  rw [outK, e _ _ _ (by omega), e _ _ _ (by omega), ← outK]
theorem bgn_out (K : KK) (m p : Nat) (z : Int32) (hp : p < m) : bgn (outK K p) m z = outK (bgn K m z) p := by
  rw [bgn, bgn, bgS_out]
  refine kk_cases (fun j hj => ?_) (fun q u hu => ?_) _ _ rfl
  · rw [bgI_lo _ _ _ (by omega), outK_lo _ _ _ (by omega), outK_lo _ _ _ (by omega), bgI_lo _ _ _ (by omega)]
  · simp only [outK_gP _ _ _ _ hu, bgI_gP _ _ _ _ hu, outK_gP _ _ _ _ (show 5 < 7 by omega), outK_gP _ _ _ _ (show 3 < 7 by omega)]
    by_cases y : q = p
    · subst y
      rcases (show u = 0 ∨ u = 1 ∨ u = 2 ∨ u = 3 ∨ u = 4 ∨ u = 5 ∨ u = 6 by omega) with rfl | rfl | rfl | rfl | rfl | rfl | rfl <;> simp [hp]
    · simp [y]
theorem KD_outb {K : KK} {m p : Nat} (h : KD K m) (hp : p < m) (z : Int32) : KD (outK (bgn K m z) p) m := by
  obtain ⟨⟨a1, a2, a3, a4, a5, a6, a7, a8⟩, ⟨b1, b2⟩, ⟨c1, c2⟩, e, g⟩ := KD_bgn h z
  have hs : ∀ q u, u < 4 → gP (outK (bgn K m z) p) q u = gP (bgn K m z) q u := fun q u hu => by rw [outK_gP _ _ _ _ (by omega), if_neg (by omega), if_neg (by omega)]
  have hl : ∀ j, j < 114 → outK (bgn K m z) p j = bgn K m z j := fun j hj => outK_lo _ _ _ hj
  have hc : ∀ i, i < 2 → outK (bgn K m z) p (97 + 2 * i) = -4 := fun i hi => by
    rw [hl _ (by omega)]
    rcases (show i = 0 ∨ i = 1 by omega) with rfl | rfl <;> rfl
  refine ⟨⟨(hl _ (by omega)).trans a1, a2, fun q hq => by rw [hs q 0 (by omega)]; exact a3 q hq, fun i hi => by rw [hl _ (by omega)]; exact a4 i hi, fun q hq y => ?_, fun q hq => by rw [hs q 1 (by omega)]; exact a6 q hq, fun i j hi hj => by rw [hl _ (by omega)]; exact a7 i j hi hj, fun q hq => by rw [hs q 3 (by omega)]; exact a8 q hq⟩, ⟨fun i hi => by rw [hl _ (by omega)]; exact b1 i hi, fun q i hq hi _ => by rw [hc i hi]; exact neg4_ne (by omega)⟩, ⟨fun i hi => Or.inl (hc i hi), by rw [hl _ (by omega)]; exact c2⟩, fun q i hq hi _ => by rw [hc i hi]; exact neg4_ne (by omega), by rw [hl _ (by omega)]; exact g⟩
  rw [outK_gP _ _ _ _ (by omega), if_neg (by omega)] at y
  rw [outK_gP _ _ _ _ (by omega)]
  by_cases q2 : q = p
  · rw [if_pos ⟨q2, rfl⟩] at y
    exact absurd y (by decide)
  · rw [if_neg (by omega)] at y
    rw [if_neg (by omega), if_neg (by omega)]
    exact a5 q hq y
theorem hG_wo {K : KK} {m p q : Nat} (hD : KD K m) (h89 : K 89 = nI q) (hp : p < m) (z : Int32) : KD ((fun X : KK => upd (upd X (114 + 7 * p + 5) (nI 2)) (114 + 7 * p + 4) (-1000)) (bgn K m z)) m ∧ (fun X : KK => upd (upd X (114 + 7 * p + 5) (nI 2)) (114 + 7 * p + 4) (-1000)) (bgn K m z) 91 = nI 0 ∧ (fun X : KK => upd (upd X (114 + 7 * p + 5) (nI 2)) (114 + 7 * p + 4) (-1000)) (bgn K m z) 89 = nI q :=
  ⟨KD_outb hD hp z, (outK_lo _ _ _ (by omega)).trans rfl, (outK_lo _ _ _ (by omega)).trans ((bgn_lo _ _ _ _ (by omega)).trans h89)⟩
theorem Wb.out {h : MH} {w : Nat} {K : KK} {m p : Nat} {cl P : Nat → Int32} {pn : Nat} (hw : WoodAt h w K cl P pn) (hp : p < m) (hp10 : p < 10) : Wb (hset h (w + 8 + p) (.inr (0, (pF K cl p).set 7 (.int (nI 1))))) w (outK K p) 0 m cl P pn := by
  obtain ⟨hw0, ⟨gr, hgr, egr⟩, ⟨ru, hru, eru⟩, ⟨pq, hpf, epf⟩, hpl, ⟨fl, hfl, efl⟩, ⟨ca, hca, eca⟩, ⟨wa, hwa⟩, hpp, hhd⟩ := id hw
  have hl : ∀ j, j < 114 → outK K p j = K j := fun j hj => outK_lo _ _ _ hj
  refine ⟨?_, ⟨gr, o_ne hgr (by omega), fun c hc => by rw [hl _ (by omega)]; exact egr c hc⟩, ⟨ru, o_ne hru (by omega), fun c hc => by rw [hl _ (by omega)]; exact eru c hc⟩, ⟨pq, o_ne hpf (by omega), epf⟩, o_ne hpl (by omega), ⟨fl, o_ne hfl (by omega)⟩, ⟨ca, o_ne hca (by omega)⟩, ⟨wa, o_ne hwa (by omega)⟩, fun i hi => ?_, fun i hi => ?_⟩
  · refine o_ne ?_ (by omega)
    rw [hw0]
    simp only [woF, hl _ (show 90 < 114 by omega), hl _ (show 91 < 114 by omega), hl _ (show 92 < 114 by omega), hl _ (show 93 < 114 by omega), hl _ (show 94 < 114 by omega), hl _ (show 95 < 114 by omega)]
  · by_cases q : i = p
    · subst q
      refine ⟨cAt K cl i, gP K i 6, bI (decide (gP K i 5 = nI 1)), ?_, fun y => absurd y (by omega)⟩
      rw [hset_self, outK_gP _ _ _ _ (by omega), outK_gP _ _ _ _ (by omega), outK_gP _ _ _ _ (by omega), outK_gP _ _ _ _ (by omega), outK_gP _ _ _ _ (by omega)]
      simp [pF, bIt]
    · have e1 : ∀ u, u < 7 → gP (outK K p) i u = gP K i u := fun u hu => by rw [outK_gP _ _ _ _ hu, if_neg (by omega), if_neg (by omega)]
      refine ⟨cAt K cl i, gP K i 6, bI (decide (gP K i 5 = nI 1)), ?_, fun y => ?_⟩
      · rw [hset_ne _ _ (by omega), e1 _ (by omega), e1 _ (by omega), e1 _ (by omega), e1 _ (by omega), e1 _ (by omega)]
        exact hpp i hi
      · rw [cAt, cAt, e1 _ (by omega), e1 _ (by omega), e1 _ (by omega)]
        exact ⟨rfl, rfl, rfl⟩
  · rw [outK_gP _ _ _ _ (by omega), if_neg (by omega)]
    split
    · exact Or.inr (Or.inr rfl)
    · exact hhd i hi
theorem agL_eq {K K1 : KK} {m : Nat} (z : Int32) (e : ∀ z, bgn K1 m z = bgn K m z) : ∀ g, agL K1 m z g = agL K m z g := by
  intro g
  induction g with
  | zero => rfl
  | succ g ih => rw [agL, agL, ih, fin, fin, e]
set_option maxRecDepth 20000 in
set_option maxHeartbeats 4000000 in
theorem x_smaller (l : Launch) (d : Nat) (h : MH) (n : Nat) (K : KK) (b : Bool) (KI : KK) (S : SS) (m : Nat) (hc : ClsAt h K b KI S) (hT : TI K m) (x y z : Int32) : Sp l mX5_smaller (d + 7) [.ref 0, .int x, .int y, .int z] h n 0 0 (Qx (smallerV K m x y z) K b KI S h n) := by
  have hD := hT.1
  have hm := hD.1.1
  have hm10 := hD.1.2.1
  obtain ⟨ht0, ⟨sq, hsq, esq⟩, ⟨cl, P, pn, hw, hPR⟩, ⟨Km, clm, Pm, pm, hwm⟩, ⟨KJ, clJ, PJ, pJ, hwJ, hJ⟩, ⟨rb, rx, ry, hrd⟩, hsc, ⟨co, hco⟩, ⟨se, hse⟩, hsh⟩ := id hc
  obtain ⟨hw0, ⟨gr, hgr, egr⟩, ⟨ru, hru, eru⟩, ⟨pq, hpf, epf⟩, hpl, ⟨fl, hfl, efl⟩, ⟨ca, hca, eca⟩, ⟨wa, hwa⟩, hpp, hhd⟩ := id hw
  show V _ _ _ _ [some (.ref 0), some (.int x), some (.int y), some (.int z), none] _ _ _ _ _ _
  refine V.aload_n dX5_smaller_0 rfl ?_
  refine V.iload_n dX5_smaller_1 rfl ?_
  refine V.callVv [_] dX5_smaller_2 lk_X5_78 rfl (Nat.le_of_ble_eq_true rfl) (Nat.le_of_ble_eq_true rfl) ht0 rfl (x_isPlayer _ _ _ _ _ _ _ _ _ hc hT _) ?_
  refine V.if_eqB (tgt := 18) dX5_smaller_5 (by decide) (fun c5 => ?_) (fun c5 => ?_)
  · refine V.ldc dX5_smaller_18 cn_X5_189 ?_
    exact V.iret (by exact dX5_smaller_20) rfl rfl ⟨by simp only [smallerV, c5, not_true_eq_false, not_false_eq_true, if_true, if_false, decide_true, decide_false, Bool.and_true, Bool.and_false, Bool.true_and, Bool.false_and, Bool.or_true, Bool.or_false, Bool.true_or, Bool.false_or, Bool.not_true, Bool.not_false, and_true, and_false, true_and, false_and, or_true, or_false, true_or, false_or, bIt, bIf, Bool.false_eq_true, reduceCtorEq], rfl, hc, fun _ _ => rfl⟩
  · refine V.iload_n dX5_smaller_8 rfl ?_
    refine V.iconst (v := nI 1) dX5_smaller_9 (by decide) ?_
    refine V.bipush (v := nI 10) dX5_smaller_10 (by decide) ?_
    refine V.callSv [_, _, _] dX5_smaller_12 lk_X5_71 rfl (Nat.le_of_ble_eq_true rfl) (Nat.le_of_ble_eq_true rfl) (s5_within _ _ _ _ _ _ _) ?_
    refine V.if_neB (tgt := 21) dX5_smaller_15 (by decide) (fun c15 => ?_) (fun c15 => ?_)
    · obtain ⟨p, hp, rfl⟩ := pl_ex hm hm10 c5
      obtain ⟨N, hN1, hN, rfl⟩ := wi1_ex (by decide) c15
      refine V.aload_n dX5_smaller_21 rfl ?_
      refine V.getf dX5_smaller_22 fl_X5_22 ht0 rfl ?_
      refine V.aload_n dX5_smaller_25 rfl ?_
      refine V.getf dX5_smaller_26 fl_X5_18 ht0 rfl ?_
      refine V.callVw [_] dX5_smaller_29 lk_X5_51 rfl (Nat.le_of_ble_eq_true rfl) (Nat.le_of_ble_eq_true rfl) hwm.1 rfl (s4_become _ _ _ _ 20 2 _ _ _ _ _ _ _ _ (by omega) hwm hw) (fun h1 hw1 ho1 => ?_)
      have ht1 := (ho1 0 (by omega)).trans ht0
      refine V.aload_n dX5_smaller_32 rfl ?_
      refine V.getf dX5_smaller_33 fl_X5_22 ht1 rfl ?_
      refine V.iload_n dX5_smaller_36 rfl ?_
      refine V.iload_n dX5_smaller_37 rfl ?_
      refine V.callVg [_, _] dX5_smaller_38 lk_X5_186 rfl (Nat.le_of_ble_eq_true rfl) (Nat.le_of_ble_eq_true rfl) hw1.1 rfl (s4_playGames _ _ _ _ _ N hN1 hN _ _ _ _ _ m (hw1.wb m) hm hm10 (KD_bgn hD) hPR) (fun h2 cl2 wa2 hw2 ho2 hwa2 hww2 => ?_)
      have ht2 := (ho2 0 (by omega)).trans ht1
      have hc2 := hc.mindO hw2 (ho1.ou.tr ho2)
      have hq2 : ∀ q, 78 ≤ q → h2 q = h q := fun q hq => (ho2 q (by omega)).trans (ho1 q (by omega))
      refine V.ist4 dX5_smaller_41 (by decide) rfl ?_
      refine V.aload_n dX5_smaller_43 rfl ?_
      refine V.getf dX5_smaller_44 fl_X5_22 ht2 rfl ?_
      refine V.getf dX5_smaller_47 fl_X5_81 hw2.1 rfl ?_
      refine V.iload_n dX5_smaller_50 rfl ?_
      obtain ⟨pq2, hpf2, epf2⟩ := hw2.2.2.2.1
      refine V.aaldN dX5_smaller_51 (Or.inl rfl) hpf2 (by omega) (by decide) (epf2 _ (by omega)) ?_
      refine V.iconst (v := nI 1) dX5_smaller_52 (by decide) ?_
      refine V.putf dX5_smaller_53 fp_X5_213 (hw2.2.2.2.2.2.2.2.2.1 p (by omega)) (Nat.le_of_ble_eq_true rfl) (fun _ => nz_one) ?_
      have hwb := Wb.out hw2 hp (by omega)
      have hbe : ∀ z1, bgn (outK (fin K m (z + nI (N - 1))) p) m z1 = bgn (outK K p) m z1 := fun z1 => by rw [bgn_out _ _ _ _ hp, bgn_out _ _ _ _ hp, bgn_fin]
      have hF90 : outK (fin K m (z + nI (N - 1))) p 90 = nI m := (outK_lo _ _ _ (by omega)).trans (((Sta_play 600 _ (Sta_rf m (bgn K m (z + nI (N - 1))))).1 90 (by omega)).trans ((bgn_lo _ _ _ _ (by omega)).trans hm))
      have hFP : PR (outK (fin K m (z + nI (N - 1))) p) P pn := PR_lo (PR_sta (PR_bgn hPR m (z + nI (N - 1))) (Sta_play 600 _ (Sta_rf m (bgn K m (z + nI (N - 1)))))) (fun j h1 h2 => outK_lo _ _ _ (by omega))
      have ho3 : Ou h2 (hset h2 (20 + 8 + p) (.inr (0, (pF (fin K m (z + nI (N - 1))) cl2 p).set 7 (.int (nI 1))))) 20 := fun q hq => hset_ne _ _ (by omega)
      refine V.aload_n dX5_smaller_56 rfl ?_
      refine V.getf dX5_smaller_57 fl_X5_22 (o_ne ht2 (by omega)) rfl ?_
      refine V.iload_n dX5_smaller_60 rfl ?_
      refine V.iload_n dX5_smaller_61 rfl ?_
      refine V.callVg [_, _] dX5_smaller_62 lk_X5_186 rfl (Nat.le_of_ble_eq_true rfl) (Nat.le_of_ble_eq_true rfl) hwb.1 rfl (s4_playGames _ _ _ _ _ N hN1 hN _ _ _ _ _ m hwb hF90 hm10 (fun z1 => by rw [hbe, bgn_out _ _ _ _ hp]; exact KD_outb hD hp z1) hFP) (fun h4 cl4 wa4 hw4 ho4 hwa4 hww4 => ?_)
      refine V.iload dX5_smaller_65 rfl ?_
      refine V.isub dX5_smaller_67 ?_
      refine V.iret (by exact dX5_smaller_68) rfl rfl ⟨by rw [smallerV, c5, c15, if_pos (show (true && true) = true from rfl), clampI (show p < 2147483648 by omega), clampI (show N < 2147483648 by omega), agL_eq z hbe], rfl, hc.mindO hw4 (((ho1.ou.tr ho2).tr ho3).tr ho4), fun q hq => ?_⟩
      rw [ho4 q (by omega), ho3 q (by omega)]
      exact hq2 q hq
    · refine V.ldc dX5_smaller_18 cn_X5_189 ?_
      exact V.iret (by exact dX5_smaller_20) rfl rfl ⟨by simp only [smallerV, c5, c15, not_true_eq_false, not_false_eq_true, if_true, if_false, decide_true, decide_false, Bool.and_true, Bool.and_false, Bool.true_and, Bool.false_and, Bool.or_true, Bool.or_false, Bool.true_or, Bool.false_or, Bool.not_true, Bool.not_false, and_true, and_false, true_and, false_and, or_true, or_false, true_or, false_or, bIt, bIf, Bool.false_eq_true, reduceCtorEq], rfl, hc, fun _ _ => rfl⟩
set_option maxRecDepth 20000 in
set_option maxHeartbeats 4000000 in
theorem m_smaller (l : Launch) (d : Nat) (h : MH) (n : Nat) (K : KK) (b : Bool) (KI : KK) (S : SS) (m : Nat) (hc : ModAt h K b KI S) (hT : TI K m) (x y z : Int32) : Sp l mX6_smaller (d + 11) [.ref 78, .int x, .int y, .int z] h n 0 0 (Qm (smallerV K m x y z) K b KI S h n) := by
  have hD := hT.1
  have hm := hD.1.1
  have hm10 := hD.1.2.1
  obtain ⟨⟨th, po, ba, en, tt, hm0⟩, ha, hb, ⟨Km, hmi⟩, ⟨Kr, hre⟩, h83, h84, h85, h86, h87, h88, ⟨X89, h89⟩, ⟨X90, h90⟩, ⟨X91, h91⟩, ⟨X92, h92⟩⟩ := id hc
  show V _ _ _ _ [some (.ref 78), some (.int x), some (.int y), some (.int z)] _ _ _ _ _ _
  refine V.aload_n dX6_smaller_0 rfl ?_
  refine V.iload_n dX6_smaller_1 rfl ?_
  refine V.callVv [_] dX6_smaller_2 lk_X6_214 rfl (Nat.le_of_ble_eq_true rfl) (Nat.le_of_ble_eq_true rfl) hm0 rfl (m_isPlayer _ _ _ _ _ _ _ _ _ hc hT _) ?_
  refine V.if_eqB (tgt := 47) dX6_smaller_5 (by decide) (fun c5 => ?_) (fun c5 => ?_)
  · refine V.ldcw dX6_smaller_47 cn_X6_271 ?_
    exact V.iret (by exact dX6_smaller_50) rfl rfl ⟨by simp only [smallerV, c5, not_true_eq_false, not_false_eq_true, if_true, if_false, decide_true, decide_false, Bool.and_true, Bool.and_false, Bool.true_and, Bool.false_and, Bool.or_true, Bool.or_false, Bool.true_or, Bool.false_or, Bool.not_true, Bool.not_false, and_true, and_false, true_and, false_and, or_true, or_false, true_or, false_or, bIt, bIf, Bool.false_eq_true, reduceCtorEq], rfl, hc, fun _ _ => rfl⟩
  · refine V.iload_n dX6_smaller_8 rfl ?_
    refine V.i2l dX6_smaller_9 ?_
    refine V.lconst (v := 1) dX6_smaller_10 (by decide) ?_
    refine V.ldc2 dX6_smaller_11 cn_X6_147 ?_
    refine V.callSv [_, _, _] dX6_smaller_14 lk_X6_62 rfl (Nat.le_of_ble_eq_true rfl) (Nat.le_of_ble_eq_true rfl) (s6_isInC _ _ _ (nI 1) (nI 10) (by decide) (by decide) _ _) ?_
    refine V.if_eqB (tgt := 47) dX6_smaller_17 (by decide) (fun c17 => ?_) (fun c17 => ?_)
    · refine V.ldcw dX6_smaller_47 cn_X6_271 ?_
      exact V.iret (by exact dX6_smaller_50) rfl rfl ⟨by simp only [smallerV, c5, c17, not_true_eq_false, not_false_eq_true, if_true, if_false, decide_true, decide_false, Bool.and_true, Bool.and_false, Bool.true_and, Bool.false_and, Bool.or_true, Bool.or_false, Bool.true_or, Bool.false_or, Bool.not_true, Bool.not_false, and_true, and_false, true_and, false_and, or_true, or_false, true_or, false_or, bIt, bIf, Bool.false_eq_true, reduceCtorEq], rfl, hc, fun _ _ => rfl⟩
    · obtain ⟨p, hp, rfl⟩ := pl_ex hm hm10 c5
      obtain ⟨N, hN1, hN, rfl⟩ := wi1_ex (by decide) c17
      obtain ⟨q, hq10, hq, h89q⟩ := hT.2.2.1
      refine V.aload_n dX6_smaller_20 rfl ?_
      refine V.iload_n dX6_smaller_21 rfl ?_
      refine V.iload_n dX6_smaller_22 rfl ?_
      refine V.iload_n dX6_smaller_23 rfl ?_
      refine V.iconst (v := nI 0) dX6_smaller_24 (by decide) ?_
      refine V.bipush (v := -4) dX6_smaller_25 (by decide) ?_
      refine V.iconst (v := nI 0) dX6_smaller_27 (by decide) ?_
      refine V.callVa [_, _, _, _, _, _] dX6_smaller_28 lk_X6_273 rfl (Nat.le_of_ble_eq_true rfl) (Nat.le_of_ble_eq_true rfl) hm0 rfl (s6_againstF _ _ _ _ K b th po ba en tt N hN _ _ _ _ _ hm0 ha Km hmi m hm hm10 (fun p hp => hT.2.1 p (by omega)) q hq (fun X => upd (upd X (114 + 7 * p + 5) (nI 2)) (114 + 7 * p + 4) (-1000)) (hG_wo hD h89q hp) (fun X i v _ kk => s6_ch_wo _ _ _ _ b th po ba en tt N _ p (by omega) _ _ hm0 X i v kk)) (fun X1 => ?_)
      rw [agF_L (K1 := outK K p) _ (fun z1 => bgn_out K m p z1 hp)]
      have hm0 := o_ne (x := kc X1) hm0 (show 78 ≠ 81 by decide)
      have ha := o_ne (x := kc X1) ha (show 79 ≠ 81 by decide)
      have hmi := hset_self h 81 (kc X1)
      refine V.aload_n dX6_smaller_31 rfl ?_
      refine V.iload_n dX6_smaller_32 rfl ?_
      refine V.iload_n dX6_smaller_33 rfl ?_
      refine V.bipush (v := -4) dX6_smaller_34 (by decide) ?_
      refine V.iconst (v := nI 0) dX6_smaller_36 (by decide) ?_
      refine V.bipush (v := -4) dX6_smaller_37 (by decide) ?_
      refine V.iconst (v := nI 0) dX6_smaller_39 (by decide) ?_
      refine V.callVa [_, _, _, _, _, _] dX6_smaller_40 lk_X6_273 rfl (Nat.le_of_ble_eq_true rfl) (Nat.le_of_ble_eq_true rfl) hm0 rfl (s6_againstF _ _ _ _ K b th po ba en tt N hN _ _ _ _ _ hm0 ha X1 hmi m hm hm10 (fun p hp => hT.2.1 p (by omega)) q hq (fun X => X) (hG_no hD h89q) (fun X i v _ kk => s6_ch_no _ _ _ _ b th po ba en tt N _ _ _ hm0 X i v kk)) (fun X => ?_)
      rw [agF_L (K1 := K) _ (fun _ => rfl)]
      refine V.isub dX6_smaller_43 ?_
      refine V.goto (tgt := 50) dX6_smaller_44 (by decide) ?_
      refine V.iret (by exact dX6_smaller_50) rfl rfl ⟨by rw [smallerV, c5, c17, if_pos (show (true && true) = true from rfl), clampI (show p < 2147483648 by omega), clampI (show N < 2147483648 by omega)], rfl, by rw [hset_hset]; exact hc.mi X, fun q hq => by rw [hset_hset]; exact hset_ne _ _ (by omega)⟩
