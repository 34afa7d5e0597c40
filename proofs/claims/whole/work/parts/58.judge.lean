def lstV (so : Int32) : Int32 := if so = nI 0 then -128 else if so = nI 1 then -32768 else -2147483648
/-- a told cell that isn't so -/
def jB (le el at_ : Int32) : Bool := !decide (el = le) && !decide (el = at_)
def nxK (m : Nat) (K : KK) : KK := if endB K = true then K else sec K m
def jdL (m p : Nat) (el : Nat → Int32) (le : Int32) : Nat → Nat → KK → Int32
  | 0, _, _ => -4
  | r + 1, k, K => if jB le (el k) (gP (nxK m K) p 4) = true then nI k else jdL m p el le r (k + 1) (nxK m K)
def judgeV (K : KK) (m : Nat) (S : SS) (x y : Int32) : Int32 := if plB K x = true then (if wnV S y (nI 2) = 0 then jdL m x.toNatClampNeg (fun k => S 3 (100 * y.toNatClampNeg + k)) (lstV (S 1 y.toNatClampNeg)) (S 2 y.toNatClampNeg).toNatClampNeg 0 K else wnV S y (nI 2)) else -1
set_option maxRecDepth 20000 in
set_option maxHeartbeats 4000000 in
theorem x_judge_b (l : Launch) (d : Nat) (h : MH) (n m p : Nat) (K1 : KK) (cl P : Nat → Int32) (pn : Nat) (b : Bool) (ht0 : h 0 = some (.inr (5, tfF b))) (hw : WoodAt h 20 K1 cl P pn) (hp : p < 10) (h5 : ¬ gP K1 p 5 = nI 2) (i k : Nat) (hi : i ≤ 7) (kd fg so sz ho : Int32) (el : Nat → Int32) (hS : h (62 + 2 * i) = some (.inr (3, shF ho kd fg so sz (63 + 2 * i)))) (hE : h (63 + 2 * i) = some (ia 100 el)) (hk : k < 100) {Q : Option Value → MH → Nat → Prop} (k1 : jB (lstV so) (el k) (gP K1 p 4) = false → V l mX5_judge (d + 1) 114 [some (.ref 0), some (.int (nI p)), some (.int (nI i)), none, some (.ref (62 + 2 * i)), some (.int (nI k))] [] h n 0 0 Q) (k2 : jB (lstV so) (el k) (gP K1 p 4) = true → Q (some (.int (nI k))) h n) : V l mX5_judge (d + 1) 72 [some (.ref 0), some (.int (nI p)), some (.int (nI i)), none, some (.ref (62 + 2 * i)), some (.int (nI k))] [] h n 0 0 Q := by
  refine V.aload dX5_judge_72 rfl ?_
  refine V.getf dX5_judge_74 fl_X5_179 hS rfl ?_
  refine V.iload dX5_judge_77 rfl ?_
  refine V.ialdN dX5_judge_79 hE (by omega) (by decide) ?_
  refine V.aload dX5_judge_80 rfl ?_
  refine V.callVv [] dX5_judge_82 lk_X5_182 rfl (Nat.le_of_ble_eq_true rfl) (Nat.le_of_ble_eq_true rfl) hS rfl (s3_least _ _ _ _ _ _ _ _ _ _ _ hS) ?_
  refine V.icmp_eq (tgt := 114) dX5_judge_85 (by decide) (fun c85 => ?_) (fun c85 => ?_)
  · exact k1 (by rw [jB, lstV]; simp only [not_true_eq_false, eq_true c85, not_true_eq_false, not_false_eq_true, if_true, if_false, decide_true, decide_false, Bool.and_true, Bool.and_false, Bool.true_and, Bool.false_and, Bool.or_true, Bool.or_false, Bool.true_or, Bool.false_or, Bool.not_true, Bool.not_false, and_true, and_false, true_and, false_and, or_true, or_false, true_or, false_or, bIt, bIf, Bool.false_eq_true, reduceCtorEq])
  · refine V.aload dX5_judge_88 rfl ?_
    refine V.getf dX5_judge_90 fl_X5_179 hS rfl ?_
    refine V.iload dX5_judge_93 rfl ?_
    refine V.ialdN dX5_judge_95 hE (by omega) (by decide) ?_
    refine V.aload_n dX5_judge_96 rfl ?_
    refine V.getf dX5_judge_97 fl_X5_22 ht0 rfl ?_
    refine V.getf dX5_judge_100 fl_X5_81 hw.1 rfl ?_
    refine V.iload_n dX5_judge_103 rfl ?_
    obtain ⟨pq2, hpf2, epf2⟩ := hw.2.2.2.1
    refine V.aaldN dX5_judge_104 (Or.inl rfl) hpf2 (by omega) (by decide) (epf2 _ (by omega)) ?_
    refine V.getf dX5_judge_105 fl_X5_100 (hw.2.2.2.2.2.2.2.2.1 p (by omega)) rfl ?_
    rw [show cAt K1 cl p = gP K1 p 4 from if_neg h5]
    refine V.icmp_eq (tgt := 114) dX5_judge_108 (by decide) (fun c108 => ?_) (fun c108 => ?_)
    · exact k1 (by rw [jB, lstV]; simp only [not_true_eq_false, c85, eq_true c108, not_true_eq_false, not_false_eq_true, if_true, if_false, decide_true, decide_false, Bool.and_true, Bool.and_false, Bool.true_and, Bool.false_and, Bool.or_true, Bool.or_false, Bool.true_or, Bool.false_or, Bool.not_true, Bool.not_false, and_true, and_false, true_and, false_and, or_true, or_false, true_or, false_or, bIt, bIf, Bool.false_eq_true, reduceCtorEq])
    · refine V.iload dX5_judge_111 rfl ?_
      exact V.iret (by exact dX5_judge_113) rfl rfl (k2 (by rw [jB, lstV]; simp only [not_true_eq_false, c85, c108, not_true_eq_false, not_false_eq_true, if_true, if_false, decide_true, decide_false, Bool.and_true, Bool.and_false, Bool.true_and, Bool.false_and, Bool.or_true, Bool.or_false, Bool.true_or, Bool.false_or, Bool.not_true, Bool.not_false, and_true, and_false, true_and, false_and, or_true, or_false, true_or, false_or, bIt, bIf, Bool.false_eq_true, reduceCtorEq]))
set_option maxRecDepth 20000 in
set_option maxHeartbeats 4000000 in
theorem x_judge_loop (l : Launch) (d n m p i sz : Nat) (hp : p < m) (hi : i ≤ 7) (hsz : sz ≤ 100) (cl P : Nat → Int32) (pn : Nat) (h0 : MH) (b : Bool) (ht : h0 0 = some (.inr (5, tfF b))) (kd fg so hol : Int32) (el : Nat → Int32) (hS0 : h0 (62 + 2 * i) = some (.inr (3, shF hol kd fg so (nI sz) (63 + 2 * i)))) (hE0 : h0 (63 + 2 * i) = some (ia 100 el)) (S3 : Nat → Int32) (hel : ∀ k, k < 100 → el k = S3 k) : ∀ (r k : Nat) (Kc : KK) (h : MH), WoodAt h 20 Kc cl P pn → KD Kc m → PR Kc P pn → ¬ gP Kc p 5 = nI 2 → Out h0 h 20 → k + r = sz → V l mX5_judge (d + 6) 45 [some (.ref 0), some (.int (nI p)), some (.int (nI i)), none, some (.ref (62 + 2 * i)), some (.int (nI k))] [] h n 0 0 (fun v h1 n1 => v = some (.int (jdL m p S3 (lstV so) r k Kc)) ∧ n1 = n ∧ ∃ K1 cl, WoodAt h1 20 K1 cl P pn ∧ Out h0 h1 20) := by
  intro r
  induction r with
  | zero =>
    intro k Kc h hw hD hPR h5 ho hk
    have ht0 := (ho 0 (by omega)).trans ht
    have hS := (ho (62 + 2 * i) (by omega)).trans hS0
    refine V.iload dX5_judge_45 rfl ?_
    refine V.aload dX5_judge_47 rfl ?_
    refine V.getf dX5_judge_49 fl_X5_176 hS rfl ?_
    refine V.icmp_geN (tgt := 120) dX5_judge_52 (by decide) (by omega) (by omega) (fun _ => ?_) (fun q => absurd q (by omega))
    refine V.bipush (v := -4) dX5_judge_120 (by decide) ?_
    exact V.iret (by exact dX5_judge_122) rfl rfl ⟨rfl, rfl, Kc, cl, hw, ho⟩
  | succ r ih =>
    intro k Kc h hw hD hPR h5 ho hk
    have hm10 := hD.1.2.1
    have ht0 := (ho 0 (by omega)).trans ht
    have hS := (ho (62 + 2 * i) (by omega)).trans hS0
    have hE := (ho (63 + 2 * i) (by omega)).trans hE0
    have hDn : KD (nxK m Kc) m := by
      unfold nxK
      split
      · exact hD
      · exact KD_sec hD
    have hPn : PR (nxK m Kc) P pn := by
      unfold nxK
      split
      · exact hPR
      · exact PR_sta hPR (Sta_sec Kc (Sta_rf m Kc))
    have h5n : ¬ gP (nxK m Kc) p 5 = nI 2 := by
      unfold nxK
      split
      · exact h5
      · exact (Sta_sec Kc (Sta_rf m Kc)).2.2.2 p h5
    refine V.iload dX5_judge_45 rfl ?_
    refine V.aload dX5_judge_47 rfl ?_
    refine V.getf dX5_judge_49 fl_X5_176 hS rfl ?_
    refine V.icmp_geN (tgt := 120) dX5_judge_52 (by decide) (by omega) (by omega) (fun q => absurd q (by omega)) (fun _ => ?_)
    refine V.aload_n dX5_judge_55 rfl ?_
    refine V.getf dX5_judge_56 fl_X5_22 ht0 rfl ?_
    refine V.callVv [] dX5_judge_59 lk_X5_147 rfl (Nat.le_of_ble_eq_true rfl) (Nat.le_of_ble_eq_true rfl) hw.1 rfl (s4_ended _ _ _ _ _ _ _ _ _ hw) ?_
    refine V.if_neB (tgt := 72) dX5_judge_62 (by decide) (fun c62 => ?_) (fun c62 => ?_)
    · first
      | (refine x_judge_b l _ h n m p (nxK m Kc) cl P pn b ht0 (by rw [nxK, if_pos c62]; exact hw) (by omega) h5n i k hi kd fg so (nI sz) hol el hS hE (by omega) (fun c => ?_) (fun c => ?_)
         · refine V.inN5 dX5_judge_114 (by decide) rfl ?_
           refine V.goto (tgt := 45) dX5_judge_117 (by decide) ?_
           rw [hel k (by omega)] at c
           rw [jdL, if_neg (by rw [c]; decide)]
           exact ih (k + 1) (nxK m Kc) h (by rw [nxK, if_pos c62]; exact hw) hDn hPn h5n ho (by omega)
         · rw [hel k (by omega)] at c
           rw [jdL, if_pos c]
           exact ⟨rfl, rfl, nxK m Kc, cl, (by rw [nxK, if_pos c62]; exact hw), ho⟩)
    · refine V.aload_n dX5_judge_65 rfl ?_
      refine V.getf dX5_judge_66 fl_X5_22 ht0 rfl ?_
      refine V.callVw [] dX5_judge_69 lk_X5_151 rfl (Nat.le_of_ble_eq_true rfl) (Nat.le_of_ble_eq_true rfl) hw.1 rfl (s4_tick _ _ _ _ _ _ _ _ _ hw m hD hPR) (fun h1 hw1 ho1 => ?_)
      refine x_judge_b l _ h1 n m p (nxK m Kc) cl P pn b ((ho1 0 (by omega)).trans ht0) (by rw [nxK, if_neg (by rw [c62]; decide)]; exact hw1) (by omega) h5n i k hi kd fg so (nI sz) hol el ((ho1 _ (by omega)).trans hS) ((ho1 _ (by omega)).trans hE) (by omega) (fun c => ?_) (fun c => ?_)
      · refine V.inN5 dX5_judge_114 (by decide) rfl ?_
        refine V.goto (tgt := 45) dX5_judge_117 (by decide) ?_
        rw [hel k (by omega)] at c
        rw [jdL, if_neg (by rw [c]; decide)]
        exact ih (k + 1) (nxK m Kc) h1 (by rw [nxK, if_neg (by rw [c62]; decide)]; exact hw1) hDn hPn h5n (ho.tr ho1) (by omega)
      · rw [hel k (by omega)] at c
        rw [jdL, if_pos c]
        exact ⟨rfl, rfl, nxK m Kc, cl, (by rw [nxK, if_neg (by rw [c62]; decide)]; exact hw1), (ho.tr ho1)⟩
set_option maxRecDepth 20000 in
set_option maxHeartbeats 4000000 in
theorem x_judge (l : Launch) (d : Nat) (h : MH) (n : Nat) (K : KK) (b : Bool) (KI : KK) (S : SS) (m : Nat) (hc : ClsAt h K b KI S) (hT : TI K m) (hSI : SI S) (x y : Int32) : Sp l mX5_judge (d + 6) [.ref 0, .int x, .int y] h n 0 0 (Qx (judgeV K m S x y) K b KI S h n) := by
  have hD := hT.1
  have hm := hD.1.1
  have hm10 := hD.1.2.1
  obtain ⟨ht0, ⟨sq, hsq, esq⟩, ⟨cl, P, pn, hw, hPR⟩, ⟨Km, clm, Pm, pm, hwm⟩, ⟨KJ, clJ, PJ, pJ, hwJ, hJ⟩, ⟨rb, rx, ry, hrd⟩, hsc, ⟨co, hco⟩, ⟨se, hse⟩, hsh⟩ := id hc
  obtain ⟨hw0, ⟨gr, hgr, egr⟩, ⟨ru, hru, eru⟩, ⟨pq, hpf, epf⟩, hpl, ⟨fl, hfl, efl⟩, ⟨ca, hca, eca⟩, ⟨wa, hwa⟩, hpp, hhd⟩ := id hw
  show V _ _ _ _ [some (.ref 0), some (.int x), some (.int y), none, none, none] _ _ _ _ _ _
  refine V.aload_n dX5_judge_0 rfl ?_
  refine V.iload_n dX5_judge_1 rfl ?_
  refine V.callVv [_] dX5_judge_2 lk_X5_78 rfl (Nat.le_of_ble_eq_true rfl) (Nat.le_of_ble_eq_true rfl) ht0 rfl (x_isPlayer _ _ _ _ _ _ _ _ _ hc hT _) ?_
  refine V.if_neB (tgt := 10) dX5_judge_5 (by decide) (fun c5 => ?_) (fun c5 => ?_)
  · refine V.aload_n dX5_judge_10 rfl ?_
    refine V.iload_n dX5_judge_11 rfl ?_
    refine V.iconst (v := nI 2) dX5_judge_12 (by decide) ?_
    refine V.callVv [_, _] dX5_judge_13 lk_X5_116 rfl (Nat.le_of_ble_eq_true rfl) (Nat.le_of_ble_eq_true rfl) ht0 rfl (x_want _ _ _ _ _ _ _ _ _ hc hT _ _) ?_
    refine V.ist3 dX5_judge_16 (by decide) rfl ?_
    refine V.iload_n dX5_judge_17 rfl ?_
    refine V.if_eq (tgt := 23) dX5_judge_18 (by decide) (fun c18 => ?_) (fun c18 => ?_)
    · obtain ⟨p, hp, rfl⟩ := pl_ex hm hm10 c5
      obtain ⟨i, hi, rfl, hk, hwi⟩ := wn_0 c18 (by decide)
      obtain ⟨-, ⟨s, hs, e2⟩⟩ := (hSI i (by omega)).2.2 hk
      obtain ⟨kd, fg, so, sz, el, hS, hE, hR, hW⟩ := hsh i (by omega)
      obtain ⟨rfl, rfl, hel⟩ := hW hk
      rw [e2] at hS
      refine V.aload_n dX5_judge_23 rfl ?_
      refine V.getf dX5_judge_24 fl_X5_11 ht0 rfl ?_
      refine V.iload_n dX5_judge_27 rfl ?_
      refine V.aaldN dX5_judge_28 (Or.inr rfl) hsq (by omega) (by decide) (esq _ (by omega)) ?_
      refine V.ast4 dX5_judge_29 (by decide) rfl ?_
      refine V.aload_n dX5_judge_31 rfl ?_
      refine V.getf dX5_judge_32 fl_X5_22 ht0 rfl ?_
      refine V.aload_n dX5_judge_35 rfl ?_
      refine V.getf dX5_judge_36 fl_X5_18 ht0 rfl ?_
      refine V.callVw [_] dX5_judge_39 lk_X5_51 rfl (Nat.le_of_ble_eq_true rfl) (Nat.le_of_ble_eq_true rfl) hwm.1 rfl (s4_become _ _ _ _ 20 2 _ _ _ _ _ _ _ _ (by omega) hwm hw) (fun h1 hw1 ho1 => ?_)
      have ht1 := (ho1 0 (by omega)).trans ht0
      refine V.iconst (v := nI 0) dX5_judge_42 (by decide) ?_
      refine V.ist5 dX5_judge_43 (by decide) rfl ?_
      have hw4 := (ho1 2 (by omega)).trans hw0
      refine V.drop 3 (V.mono (fun v h2 n2 q => ?_) (x_judge_loop l d n m p i s hp hi hs cl P pn h1 b ht1 kd fg (S 1 i) (S 0 i) el ((ho1 _ (by omega)).trans hS) ((ho1 _ (by omega)).trans hE) (fun k => S 3 (100 * i + k)) hel s 0 K h1 hw1 hD hPR (hT.2.1 p (by omega)) (Out.rf h1 20) (by omega)))
      obtain ⟨q1, q2, K2, cl2, q3, q4⟩ := q
      exact ⟨by rw [q1, judgeV, if_pos c5, if_pos c18, clampI (show p < 2147483648 by omega), clampI (show i < 2147483648 by omega), e2, clampI (show s < 2147483648 by omega)], q2, hc.mind q3 (ho1.tr q4), fun y hy => (q4 y (by omega)).trans (ho1 y (by omega))⟩
    · refine V.iload_n dX5_judge_21 rfl ?_
      exact V.iret (by exact dX5_judge_22) rfl rfl ⟨by simp only [judgeV, c5, c18, not_true_eq_false, not_false_eq_true, if_true, if_false, decide_true, decide_false, Bool.and_true, Bool.and_false, Bool.true_and, Bool.false_and, Bool.or_true, Bool.or_false, Bool.true_or, Bool.false_or, Bool.not_true, Bool.not_false, and_true, and_false, true_and, false_and, or_true, or_false, true_or, false_or, bIt, bIf, Bool.false_eq_true, reduceCtorEq], rfl, hc, fun _ _ => rfl⟩
  · refine V.iconst (v := -1) dX5_judge_8 (by decide) ?_
    exact V.iret (by exact dX5_judge_9) rfl rfl ⟨by simp only [judgeV, c5, not_true_eq_false, not_false_eq_true, if_true, if_false, decide_true, decide_false, Bool.and_true, Bool.and_false, Bool.true_and, Bool.false_and, Bool.or_true, Bool.or_false, Bool.true_or, Bool.false_or, Bool.not_true, Bool.not_false, and_true, and_false, true_and, false_and, or_true, or_false, true_or, false_or, bIt, bIf, Bool.false_eq_true, reduceCtorEq], rfl, hc, fun _ _ => rfl⟩
set_option maxRecDepth 20000 in
set_option maxHeartbeats 4000000 in
theorem m_leastOf (l : Launch) (d : Nat) (h : MH) (n : Nat) (b : Bool) (th po ba en tt : Int32) (hm0 : h 78 = some (.inr (6, moF b th po ba en tt))) (S1 : Nat → Int32) (h84 : h 84 = some (ia 8 S1)) (i : Nat) (hi : i ≤ 7) : Sp l mX6_leastOf d [.ref 78, .int (nI i)] h n 0 0 (Pv (lstV (S1 i)) h n) := by
  show V _ _ _ _ [some (.ref 78), some (.int (nI i))] _ _ _ _ _ _
  refine V.aload_n dX6_leastOf_0 rfl ?_
  refine V.getf dX6_leastOf_1 fl_X6_25 hm0 rfl ?_
  refine V.iload_n dX6_leastOf_4 rfl ?_
  refine V.ialdN dX6_leastOf_5 h84 (by omega) (by decide) ?_
  refine V.if_ne (tgt := 14) dX6_leastOf_6 (by decide) (fun c6 => ?_) (fun c6 => ?_)
  · refine V.aload_n dX6_leastOf_14 rfl ?_
    refine V.getf dX6_leastOf_15 fl_X6_25 hm0 rfl ?_
    refine V.iload_n dX6_leastOf_18 rfl ?_
    refine V.ialdN dX6_leastOf_19 h84 (by omega) (by decide) ?_
    refine V.iconst (v := nI 1) dX6_leastOf_20 (by decide) ?_
    refine V.icmp_ne (tgt := 30) dX6_leastOf_21 (by decide) (fun c21 => ?_) (fun c21 => ?_)
    · refine V.ldcw dX6_leastOf_30 cn_X6_258 ?_
      exact V.iretP (by exact dX6_leastOf_33) rfl (by (try simp only [i0] at c6 c21); first | (simp only [lstV, c6, c21, not_true_eq_false, not_false_eq_true, if_true, if_false, decide_true, decide_false, Bool.and_true, Bool.and_false, Bool.true_and, Bool.false_and, Bool.or_true, Bool.or_false, Bool.true_or, Bool.false_or, Bool.not_true, Bool.not_false, and_true, and_false, true_and, false_and, or_true, or_false, true_or, false_or, bIt, bIf, Bool.false_eq_true, reduceCtorEq]; done) | (simp only [lstV, c6, c21, not_true_eq_false, not_false_eq_true, if_true, if_false, decide_true, decide_false, Bool.and_true, Bool.and_false, Bool.true_and, Bool.false_and, Bool.or_true, Bool.or_false, Bool.true_or, Bool.false_or, Bool.not_true, Bool.not_false, and_true, and_false, true_and, false_and, or_true, or_false, true_or, false_or, bIt, bIf, Bool.false_eq_true, reduceCtorEq]; decide)) rfl
    · refine V.sipush (v := -32768) dX6_leastOf_24 (by decide) ?_
      refine V.goto (tgt := 33) dX6_leastOf_27 (by decide) ?_
      exact V.iretP (by exact dX6_leastOf_33) rfl (by (try simp only [i0] at c6 c21); first | (simp only [lstV, c6, eq_true c21, not_true_eq_false, not_false_eq_true, if_true, if_false, decide_true, decide_false, Bool.and_true, Bool.and_false, Bool.true_and, Bool.false_and, Bool.or_true, Bool.or_false, Bool.true_or, Bool.false_or, Bool.not_true, Bool.not_false, and_true, and_false, true_and, false_and, or_true, or_false, true_or, false_or, bIt, bIf, Bool.false_eq_true, reduceCtorEq]; done) | (simp only [lstV, c6, eq_true c21, not_true_eq_false, not_false_eq_true, if_true, if_false, decide_true, decide_false, Bool.and_true, Bool.and_false, Bool.true_and, Bool.false_and, Bool.or_true, Bool.or_false, Bool.true_or, Bool.false_or, Bool.not_true, Bool.not_false, and_true, and_false, true_and, false_and, or_true, or_false, true_or, false_or, bIt, bIf, Bool.false_eq_true, reduceCtorEq]; decide)) rfl
  · refine V.bipush (v := -128) dX6_leastOf_9 (by decide) ?_
    refine V.goto (tgt := 33) dX6_leastOf_11 (by decide) ?_
    exact V.iretP (by exact dX6_leastOf_33) rfl (by (try simp only [i0] at c6); first | (simp only [lstV, eq_true c6, not_true_eq_false, not_false_eq_true, if_true, if_false, decide_true, decide_false, Bool.and_true, Bool.and_false, Bool.true_and, Bool.false_and, Bool.or_true, Bool.or_false, Bool.true_or, Bool.false_or, Bool.not_true, Bool.not_false, and_true, and_false, true_and, false_and, or_true, or_false, true_or, false_or, bIt, bIf, Bool.false_eq_true, reduceCtorEq]; done) | (simp only [lstV, eq_true c6, not_true_eq_false, not_false_eq_true, if_true, if_false, decide_true, decide_false, Bool.and_true, Bool.and_false, Bool.true_and, Bool.false_and, Bool.or_true, Bool.or_false, Bool.true_or, Bool.false_or, Bool.not_true, Bool.not_false, and_true, and_false, true_and, false_and, or_true, or_false, true_or, false_or, bIt, bIf, Bool.false_eq_true, reduceCtorEq]; decide)) rfl
set_option maxRecDepth 20000 in
set_option maxHeartbeats 4000000 in
theorem m_judge_cp (l : Launch) (d n : Nat) (h : MH) (K : KK) (b : Bool) (th po ba en tt : Int32) (x1 x2 x3 : Int32) (hm0 : h 78 = some (.inr (6, moF b th po ba en tt))) (hs : h 79 = some (kc K)) {Q : Option Value → MH → Nat → Prop} (kk : V l mX6_judge d 61 [some (.ref 78), some (.int x1), some (.int x2), some (.int x3), none, none] [] (hset h 81 (kc K)) n 0 0 Q) : ∀ (r i : Nat) (X : KK), (∀ j, j < i → X j = K j) → i + r = 184 → V l mX6_judge d 33 [some (.ref 78), some (.int x1), some (.int x2), some (.int x3), some (.int (nI i)), none] [] (hset h 81 (kc X)) n 0 0 Q := by
  intro r
  induction r with
  | zero =>
    intro i X hX hi
    refine V.iload dX6_judge_33 rfl ?_
    refine V.sipush (v := nI 184) dX6_judge_35 (by decide) ?_
    refine V.icmp_geN (tgt := 61) dX6_judge_38 (by decide) (by omega) (by omega) (fun _ => ?_) (fun q => absurd q (by omega))
    refine V.drop 4 (V.ext (g := K) (hset_self _ _ _) (fun j hj => (hX j (by omega)).symm) ?_)
    rw [hset_hset]
    exact kk
  | succ r ih =>
    intro i X hX hi
    refine V.iload dX6_judge_33 rfl ?_
    refine V.sipush (v := nI 184) dX6_judge_35 (by decide) ?_
    refine V.icmp_geN (tgt := 61) dX6_judge_38 (by decide) (by omega) (by omega) (fun q => absurd q (by omega)) (fun _ => ?_)
    refine V.aload_n dX6_judge_41 rfl ?_
    refine V.getf dX6_judge_42 fl_X6_16 (o_ne hm0 (by decide)) rfl ?_
    refine V.iload dX6_judge_45 rfl ?_
    refine V.aload_n dX6_judge_47 rfl ?_
    refine V.getf dX6_judge_48 fl_X6_9 (o_ne hm0 (by decide)) rfl ?_
    refine V.iload dX6_judge_51 rfl ?_
    refine V.ialdN dX6_judge_53 (o_ne hs (by decide)) (by omega) (by decide) ?_
    refine V.iastN dX6_judge_54 (hset_self _ _ _) (by omega) (by decide) ?_
    rw [hset_hset]
    refine V.inN4 dX6_judge_55 (by decide) rfl ?_
    refine V.goto (tgt := 33) dX6_judge_58 (by decide) ?_
    refine ih (i + 1) _ (fun j hj => ?_) (by omega)
    by_cases y : j = i
    · subst y; rw [pk_us]
    · rw [pk_un y]; exact hX j (by omega)
set_option maxRecDepth 20000 in
set_option maxHeartbeats 4000000 in
theorem m_judge_b (l : Launch) (d : Nat) (h : MH) (n : Nat) (b : Bool) (th po ba en tt : Int32) (hm0 : h 78 = some (.inr (6, moF b th po ba en tt))) (S1 S3 : Nat → Int32) (h84 : h 84 = some (ia 8 S1)) (h86 : h 86 = some (ia 800 S3)) (i k : Nat) (hi : i ≤ 7) (hk : k < 100) (p : Nat) (hp : p < 10) (K1 : KK) {Q : Option Value → MH → Nat → Prop} (k1 : jB (lstV (S1 i)) (S3 (100 * i + k)) (gP K1 p 4) = false → V l mX6_judge (d + 1) 133 [some (.ref 78), some (.int (nI p)), some (.int (nI i)), none, some (.int (nI k)), none] [] (hset h 81 (kc K1)) n 0 0 Q) (k2 : jB (lstV (S1 i)) (S3 (100 * i + k)) (gP K1 p 4) = true → Q (some (.int (nI k))) (hset h 81 (kc K1)) n) : V l mX6_judge (d + 1) 92 [some (.ref 78), some (.int (nI p)), some (.int (nI i)), none, some (.int (nI k)), none] [] (hset h 81 (kc K1)) n 0 0 Q := by
  refine V.aload_n dX6_judge_92 rfl ?_
  refine V.getf dX6_judge_93 fl_X6_31 (o_ne hm0 (by decide)) rfl ?_
  refine V.bipush (v := nI 100) dX6_judge_96 (by decide) ?_
  refine V.iload_n dX6_judge_98 rfl ?_
  refine V.imulN dX6_judge_99 ?_
  refine V.iload dX6_judge_100 rfl ?_
  refine V.iaddN dX6_judge_102 ?_
  refine V.ialdN dX6_judge_103 (o_ne h86 (by decide)) (by omega) (by decide) ?_
  refine V.ist5 dX6_judge_104 (by decide) rfl ?_
  refine V.iload dX6_judge_106 rfl ?_
  refine V.aload_n dX6_judge_108 rfl ?_
  refine V.iload_n dX6_judge_109 rfl ?_
  refine V.callVv [_] dX6_judge_110 lk_X6_259 rfl (Nat.le_of_ble_eq_true rfl) (Nat.le_of_ble_eq_true rfl) (o_ne hm0 (by decide)) rfl (m_leastOf _ _ _ _ b th po ba en tt (o_ne hm0 (by decide)) S1 (o_ne h84 (by decide)) _ hi) ?_
  refine V.icmp_eq (tgt := 133) dX6_judge_113 (by decide) (fun c113 => ?_) (fun c113 => ?_)
  · exact V.drop 5 (k1 (by rw [jB]; simp only [not_true_eq_false, eq_true c113, not_true_eq_false, not_false_eq_true, if_true, if_false, decide_true, decide_false, Bool.and_true, Bool.and_false, Bool.true_and, Bool.false_and, Bool.or_true, Bool.or_false, Bool.true_or, Bool.false_or, Bool.not_true, Bool.not_false, and_true, and_false, true_and, false_and, or_true, or_false, true_or, false_or, bIt, bIf, Bool.false_eq_true, reduceCtorEq]))
  · refine V.iload dX6_judge_116 rfl ?_
    refine V.aload_n dX6_judge_118 rfl ?_
    refine V.getf dX6_judge_119 fl_X6_16 (o_ne hm0 (by decide)) rfl ?_
    refine V.iload_n dX6_judge_122 rfl ?_
    refine V.iconst (v := nI 4) dX6_judge_123 (by decide) ?_
    refine V.callSv [_, _, _] dX6_judge_124 lk_X6_82 rfl (Nat.le_of_ble_eq_true rfl) (Nat.le_of_ble_eq_true rfl) (s6_get _ _ _ _ _ _ (hset_self _ _ _) _ _ (by omega) (by omega)) ?_
    refine V.icmp_eq (tgt := 133) dX6_judge_127 (by decide) (fun c127 => ?_) (fun c127 => ?_)
    · exact V.drop 5 (k1 (by rw [jB]; simp only [not_true_eq_false, c113, eq_true c127, not_true_eq_false, not_false_eq_true, if_true, if_false, decide_true, decide_false, Bool.and_true, Bool.and_false, Bool.true_and, Bool.false_and, Bool.or_true, Bool.or_false, Bool.true_or, Bool.false_or, Bool.not_true, Bool.not_false, and_true, and_false, true_and, false_and, or_true, or_false, true_or, false_or, bIt, bIf, Bool.false_eq_true, reduceCtorEq]))
    · refine V.iload dX6_judge_130 rfl ?_
      exact V.iret (by exact dX6_judge_132) rfl rfl (k2 (by rw [jB]; simp only [not_true_eq_false, c113, c127, not_true_eq_false, not_false_eq_true, if_true, if_false, decide_true, decide_false, Bool.and_true, Bool.and_false, Bool.true_and, Bool.false_and, Bool.or_true, Bool.or_false, Bool.true_or, Bool.false_or, Bool.not_true, Bool.not_false, and_true, and_false, true_and, false_and, or_true, or_false, true_or, false_or, bIt, bIf, Bool.false_eq_true, reduceCtorEq]))
set_option maxRecDepth 20000 in
set_option maxHeartbeats 4000000 in
theorem m_judge_loop (l : Launch) (d n m p i sz : Nat) (hp : p < m) (hi : i ≤ 7) (hsz : sz ≤ 100) (h : MH) (b : Bool) (th po ba en tt : Int32) (hm0 : h 78 = some (.inr (6, moF b th po ba en tt))) (S : SS) (h84 : h 84 = some (ia 8 (S 1))) (h85 : h 85 = some (ia 8 (S 2))) (h86 : h 86 = some (ia 800 (S 3))) (e2 : S 2 i = nI sz) : ∀ (r k : Nat) (Kc : KK), KD Kc m → k + r = sz → V l mX6_judge (d + 9) 64 [some (.ref 78), some (.int (nI p)), some (.int (nI i)), none, some (.int (nI k)), none] [] (hset h 81 (kc Kc)) n 0 0 (Qa (jdL m p (fun k => S 3 (100 * i + k)) (lstV (S 1 i)) r k Kc) h n) := by
  intro r
  induction r with
  | zero =>
    intro k Kc hD hk
    refine V.iload dX6_judge_64 rfl ?_
    refine V.aload_n dX6_judge_66 rfl ?_
    refine V.getf dX6_judge_67 fl_X6_28 (o_ne hm0 (by decide)) rfl ?_
    refine V.iload_n dX6_judge_70 rfl ?_
    refine V.ialdN dX6_judge_71 (o_ne h85 (by decide)) (by omega) (by decide) ?_
    rw [e2]
    refine V.icmp_geN (tgt := 139) dX6_judge_72 (by decide) (by omega) (by omega) (fun _ => ?_) (fun q => absurd q (by omega))
    refine V.bipush (v := -4) dX6_judge_139 (by decide) ?_
    exact V.iret (by exact dX6_judge_141) rfl rfl ⟨rfl, rfl, Kc, rfl⟩
  | succ r ih =>
    intro k Kc hD hk
    have hm10 := hD.1.2.1
    have hDn : KD (nxK m Kc) m := by
      unfold nxK
      split
      · exact hD
      · exact KD_sec hD
    refine V.iload dX6_judge_64 rfl ?_
    refine V.aload_n dX6_judge_66 rfl ?_
    refine V.getf dX6_judge_67 fl_X6_28 (o_ne hm0 (by decide)) rfl ?_
    refine V.iload_n dX6_judge_70 rfl ?_
    refine V.ialdN dX6_judge_71 (o_ne h85 (by decide)) (by omega) (by decide) ?_
    rw [e2]
    refine V.icmp_geN (tgt := 139) dX6_judge_72 (by decide) (by omega) (by omega) (fun q => absurd q (by omega)) (fun _ => ?_)
    refine V.aload_n dX6_judge_75 rfl ?_
    refine V.getf dX6_judge_76 fl_X6_16 (o_ne hm0 (by decide)) rfl ?_
    refine V.callSv [_] dX6_judge_79 lk_X6_251 rfl (Nat.le_of_ble_eq_true rfl) (Nat.le_of_ble_eq_true rfl) (s6_isEnded _ _ _ _ _ Kc (hset_self _ _ _)) ?_
    refine V.if_neB (tgt := 92) dX6_judge_82 (by decide) (fun c82 => ?_) (fun c82 => ?_)
    · have eK : nxK m Kc = Kc := if_pos c82
      refine V.hp (show hset h 81 (kc Kc) = hset h 81 (kc (nxK m Kc)) by rw [eK]) ?_
      refine m_judge_b l _ h n b th po ba en tt hm0 (S 1) (S 3) h84 h86 i k hi (by omega) p (by omega) (nxK m Kc) (fun c => ?_) (fun c => ?_)
      · refine V.inN4 dX6_judge_133 (by decide) rfl ?_
        refine V.goto (tgt := 64) dX6_judge_136 (by decide) ?_
        rw [jdL, if_neg (by rw [c]; decide)]
        exact V.drop 5 (ih (k + 1) (nxK m Kc) hDn (by omega))
      · rw [jdL, if_pos c]
        exact ⟨rfl, rfl, nxK m Kc, rfl⟩
    · refine V.aload_n dX6_judge_85 rfl ?_
      refine V.getf dX6_judge_86 fl_X6_16 (o_ne hm0 (by decide)) rfl ?_
      refine V.callSu [_] dX6_judge_89 lk_X6_255 rfl (Nat.le_of_ble_eq_true rfl) (Nat.le_of_ble_eq_true rfl) (s6_second _ _ _ _ _ Kc (hset_self _ _ _) m hD.1) ?_
      have eK : nxK m Kc = sec Kc m := if_neg (by rw [c82]; decide)
      refine V.hp (show hset (hset h 81 (kc Kc)) 81 (kc (sec Kc m)) = hset h 81 (kc (nxK m Kc)) by rw [eK, hset_hset]) ?_
      refine m_judge_b l _ h n b th po ba en tt hm0 (S 1) (S 3) h84 h86 i k hi (by omega) p (by omega) (nxK m Kc) (fun c => ?_) (fun c => ?_)
      · refine V.inN4 dX6_judge_133 (by decide) rfl ?_
        refine V.goto (tgt := 64) dX6_judge_136 (by decide) ?_
        rw [jdL, if_neg (by rw [c]; decide)]
        exact V.drop 5 (ih (k + 1) (nxK m Kc) hDn (by omega))
      · rw [jdL, if_pos c]
        exact ⟨rfl, rfl, nxK m Kc, rfl⟩
set_option maxRecDepth 20000 in
set_option maxHeartbeats 4000000 in
theorem m_judge (l : Launch) (d : Nat) (h : MH) (n : Nat) (K : KK) (b : Bool) (KI : KK) (S : SS) (m : Nat) (hc : ModAt h K b KI S) (hT : TI K m) (hSI : SI S) (x y : Int32) : Sp l mX6_judge (d + 9) [.ref 78, .int x, .int y] h n 0 0 (Qm (judgeV K m S x y) K b KI S h n) := by
  have hD := hT.1
  have hm := hD.1.1
  have hm10 := hD.1.2.1
  obtain ⟨⟨th, po, ba, en, tt, hm0⟩, ha, hb, ⟨Km, hmi⟩, ⟨Kr, hre⟩, h83, h84, h85, h86, h87, h88, ⟨X89, h89⟩, ⟨X90, h90⟩, ⟨X91, h91⟩, ⟨X92, h92⟩⟩ := id hc
  show V _ _ _ _ [some (.ref 78), some (.int x), some (.int y), none, none, none] _ _ _ _ _ _
  refine V.aload_n dX6_judge_0 rfl ?_
  refine V.iload_n dX6_judge_1 rfl ?_
  refine V.callVv [_] dX6_judge_2 lk_X6_214 rfl (Nat.le_of_ble_eq_true rfl) (Nat.le_of_ble_eq_true rfl) hm0 rfl (m_isPlayer _ _ _ _ _ _ _ _ _ hc hT _) ?_
  refine V.if_eqB (tgt := 15) dX6_judge_5 (by decide) (fun c5 => ?_) (fun c5 => ?_)
  · refine V.iconst (v := -1) dX6_judge_15 (by decide) ?_
    exact V.iret (by exact dX6_judge_16) rfl rfl ⟨by first | (simp only [judgeV, c5, not_true_eq_false, not_false_eq_true, if_true, if_false, decide_true, decide_false, Bool.and_true, Bool.and_false, Bool.true_and, Bool.false_and, Bool.or_true, Bool.or_false, Bool.true_or, Bool.false_or, Bool.not_true, Bool.not_false, and_true, and_false, true_and, false_and, or_true, or_false, true_or, false_or, bIt, bIf, Bool.false_eq_true, reduceCtorEq]; done) | (simp only [judgeV, wnV, c5, not_true_eq_false, not_false_eq_true, if_true, if_false, decide_true, decide_false, Bool.and_true, Bool.and_false, Bool.true_and, Bool.false_and, Bool.or_true, Bool.or_false, Bool.true_or, Bool.false_or, Bool.not_true, Bool.not_false, and_true, and_false, true_and, false_and, or_true, or_false, true_or, false_or, bIt, bIf, Bool.false_eq_true, reduceCtorEq, show ¬ (-1 : Int32) = 0 by decide]), rfl, hc, fun _ _ => rfl⟩
  · refine V.iload_n dX6_judge_8 rfl ?_
    refine V.callSv [_] dX6_judge_9 lk_X6_157 rfl (Nat.le_of_ble_eq_true rfl) (Nat.le_of_ble_eq_true rfl) (s6_isShelf _ _ _ _ _) ?_
    refine V.if_neB (tgt := 17) dX6_judge_12 (by decide) (fun c12 => ?_) (fun c12 => ?_)
    · refine V.aload_n dX6_judge_17 rfl ?_
      refine V.iload_n dX6_judge_18 rfl ?_
      refine V.iconst (v := -1) dX6_judge_19 (by decide) ?_
      refine V.callVv [_, _] dX6_judge_20 lk_X6_160 rfl (Nat.le_of_ble_eq_true rfl) (Nat.le_of_ble_eq_true rfl) hm0 rfl (m_wrongRow _ _ _ _ _ _ _ _ _ hc hT _) ?_
      refine V.ist3 dX6_judge_23 (by decide) rfl ?_
      refine V.iload_n dX6_judge_24 rfl ?_
      refine V.if_eq (tgt := 30) dX6_judge_25 (by decide) (fun c25 => ?_) (fun c25 => ?_)
      · obtain ⟨p, hp, rfl⟩ := pl_ex hm hm10 c5
        obtain ⟨i, hi, rfl, hk, hwi⟩ := wn_0 c25 (by decide)
        obtain ⟨-, ⟨s, hs, e2⟩⟩ := (hSI i (by omega)).2.2 hk
        refine V.iconst (v := nI 0) dX6_judge_30 (by decide) ?_
        refine V.ist4 dX6_judge_31 (by decide) rfl ?_
        refine V.hp (hset_id hmi).symm (m_judge_cp l (d + 9) n h K b th po ba en tt _ _ _ hm0 ha ?_ 184 0 Km (fun j hj => absurd hj (by omega)) (by omega))
        refine V.iconst (v := nI 0) dX6_judge_61 (by decide) ?_
        refine V.ist4 dX6_judge_62 (by decide) rfl ?_
        refine V.drop 3 (V.mono (fun v h2 n2 y => ?_) (m_judge_loop l d n m p i s hp hi hs h b th po ba en tt hm0 S h84 h85 h86 e2 s 0 K hD (by omega)))
        obtain ⟨q1, q2, X, q3⟩ := y
        exact ⟨by rw [q1, judgeV, if_pos c5, if_pos c25, clampI (show p < 2147483648 by omega), clampI (show i < 2147483648 by omega), e2, clampI (show s < 2147483648 by omega)], q2, by rw [q3]; exact hc.mi X, fun q hq => by rw [q3]; exact hset_ne _ _ (by omega)⟩
      · refine V.iload_n dX6_judge_28 rfl ?_
        exact V.iret (by exact dX6_judge_29) rfl rfl ⟨by simp only [judgeV, c5, c12, c25, not_true_eq_false, not_false_eq_true, if_true, if_false, decide_true, decide_false, Bool.and_true, Bool.and_false, Bool.true_and, Bool.false_and, Bool.or_true, Bool.or_false, Bool.true_or, Bool.false_or, Bool.not_true, Bool.not_false, and_true, and_false, true_and, false_and, or_true, or_false, true_or, false_or, bIt, bIf, Bool.false_eq_true, reduceCtorEq], rfl, hc, fun _ _ => rfl⟩
    · refine V.iconst (v := -1) dX6_judge_15 (by decide) ?_
      exact V.iret (by exact dX6_judge_16) rfl rfl ⟨by first | (simp only [judgeV, c5, c12, not_true_eq_false, not_false_eq_true, if_true, if_false, decide_true, decide_false, Bool.and_true, Bool.and_false, Bool.true_and, Bool.false_and, Bool.or_true, Bool.or_false, Bool.true_or, Bool.false_or, Bool.not_true, Bool.not_false, and_true, and_false, true_and, false_and, or_true, or_false, true_or, false_or, bIt, bIf, Bool.false_eq_true, reduceCtorEq]; done) | (simp only [judgeV, wnV, c5, c12, not_true_eq_false, not_false_eq_true, if_true, if_false, decide_true, decide_false, Bool.and_true, Bool.and_false, Bool.true_and, Bool.false_and, Bool.or_true, Bool.or_false, Bool.true_or, Bool.false_or, Bool.not_true, Bool.not_false, and_true, and_false, true_and, false_and, or_true, or_false, true_or, false_or, bIt, bIf, Bool.false_eq_true, reduceCtorEq, show ¬ (-1 : Int32) = 0 by decide]), rfl, hc, fun _ _ => rfl⟩
