theorem s4_giveKinds (l : Launch) (d n w m : Nat) (hm10 : m ≤ 10) (s fg : Int32) (cl P : Nat → Int32) (pn : Nat) (h : MH) (q e : Nat) (hqw : (q < w ∨ w + 18 ≤ q) ∧ (e < w ∨ w + 18 ≤ e)) (hol kd g0 so : Int32) (sz : Nat) (hsz : sz ≤ 100) (el : Nat → Int32) (hS0 : h q = some (.inr (3, shF hol kd g0 so (nI sz) e))) (hE0 : h e = some (ia 100 el)) (K : KK) (hw : WoodAt h w K cl P pn) (hm : K 90 = nI m) : Sp l mX4_giveKinds d [.ref w, .int s, .ref q, .int fg] h n 0 0 (Wq w (gkL s el sz fg m 0 0 K) cl P pn h n) := by
  show V _ _ _ _ [some (.ref w), some (.int s), some (.ref q), some (.int fg), none, none] _ _ _ _ _ _
  refine V.iconst (v := nI 0) dX4_giveKinds_0 (by decide) ?_
  refine V.ist4 dX4_giveKinds_1 (by decide) rfl ?_
  refine V.iconst (v := nI 0) dX4_giveKinds_3 (by decide) ?_
  refine V.ist5 dX4_giveKinds_4 (by decide) rfl ?_
  exact s4_giveKinds_loop l d n w m hm10 s fg cl P pn h q e hqw hol kd g0 so sz hsz el hS0 hE0 m 0 0 K h hw hm (Out.rf h w) (by omega) (by omega)
set_option maxRecDepth 20000 in
set_option maxHeartbeats 4000000 in
theorem x_table (l : Launch) (d : Nat) (h : MH) (n : Nat) (K : KK) (b : Bool) (KI : KK) (S : SS) (m : Nat) (hc : ClsAt h K b KI S) (hT : TI K m) (hSI : SI S) (x y fg z : Int32) : Sp l mX5_table (d + 7) [.ref 0, .int x, .int y, .int fg, .int z] h n 0 0 (Qx (tableV K m S x y fg z) K b KI S h n) := by
  have hD := hT.1
  have hm := hD.1.1
  have hm10 := hD.1.2.1
  obtain ⟨ht0, ⟨sq, hsq, esq⟩, ⟨cl, P, pn, hw, hPR⟩, ⟨Km, clm, Pm, pm, hwm⟩, ⟨KJ, clJ, PJ, pJ, hwJ, hJ⟩, ⟨rb, rx, ry, hrd⟩, hsc, ⟨co, hco⟩, ⟨se, hse⟩, hsh⟩ := id hc
  obtain ⟨hw0, ⟨gr, hgr, egr⟩, ⟨ru, hru, eru⟩, ⟨pq, hpf, epf⟩, hpl, ⟨fl, hfl, efl⟩, ⟨ca, hca, eca⟩, ⟨wa, hwa⟩, hpp, hhd⟩ := id hw
  show V _ _ _ _ [some (.ref 0), some (.int x), some (.int y), some (.int fg), some (.int z)] _ _ _ _ _ _
  refine V.iload_n dX5_table_0 rfl ?_
  refine V.callSv [_] dX5_table_1 lk_X5_191 rfl (Nat.le_of_ble_eq_true rfl) (Nat.le_of_ble_eq_true rfl) (s5_isShelf _ _ _ _ _) ?_
  refine V.if_eqB (tgt := 21) dX5_table_4 (by decide) (fun c4 => ?_) (fun c4 => ?_)
  · refine V.iconst (v := -1) dX5_table_21 (by decide) ?_
    have hr : tabR K S x y fg = -1 := by
      (try simp only [i0] at c4)
      simp only [tabR, not_true_eq_false, c4, not_true_eq_false, not_false_eq_true, if_true, if_false, decide_true, decide_false, Bool.and_true, Bool.and_false, Bool.true_and, Bool.false_and, Bool.or_true, Bool.or_false, Bool.true_or, Bool.false_or, Bool.not_true, Bool.not_false, and_true, and_false, true_and, false_and, or_true, or_false, true_or, false_or, bIt, bIf, Bool.false_eq_true, reduceCtorEq]
    exact V.iret (by exact dX5_table_22) rfl rfl ⟨by rw [tableV, hr]; rfl, rfl, hc, fun _ _ => rfl⟩
  · refine V.iload_n dX5_table_7 rfl ?_
    refine V.callSv [_] dX5_table_8 lk_X5_191 rfl (Nat.le_of_ble_eq_true rfl) (Nat.le_of_ble_eq_true rfl) (s5_isShelf _ _ _ _ _) ?_
    refine V.if_eqB (tgt := 21) dX5_table_11 (by decide) (fun c11 => ?_) (fun c11 => ?_)
    · refine V.iconst (v := -1) dX5_table_21 (by decide) ?_
      have hr : tabR K S x y fg = -1 := by
        (try simp only [i0] at c4 c11)
        simp only [tabR, not_true_eq_false, c4, c11, not_true_eq_false, not_false_eq_true, if_true, if_false, decide_true, decide_false, Bool.and_true, Bool.and_false, Bool.true_and, Bool.false_and, Bool.or_true, Bool.or_false, Bool.true_or, Bool.false_or, Bool.not_true, Bool.not_false, and_true, and_false, true_and, false_and, or_true, or_false, true_or, false_or, bIt, bIf, Bool.false_eq_true, reduceCtorEq]
      exact V.iret (by exact dX5_table_22) rfl rfl ⟨by rw [tableV, hr]; rfl, rfl, hc, fun _ _ => rfl⟩
    · refine V.iload_n dX5_table_14 rfl ?_
      refine V.callSv [_] dX5_table_15 lk_X5_194 rfl (Nat.le_of_ble_eq_true rfl) (Nat.le_of_ble_eq_true rfl) (s5_isFigure _ _ _ _ _) ?_
      refine V.if_neB (tgt := 23) dX5_table_18 (by decide) (fun c18 => ?_) (fun c18 => ?_)
      · obtain ⟨a, ha7, rfl⟩ := wi_ex (by decide) c4
        obtain ⟨c, hc7, rfl⟩ := wi_ex (by decide) c11
        obtain ⟨kd, fg1, so, sz, el, hS, hE, hR, hW⟩ := hsh a (by omega)
        obtain ⟨kd2, fg2, so2, sz2, el2, hS2, hE2, hR2, hW2⟩ := hsh c (by omega)
        have hb1 : (decide (S 0 a = nI 2) && decide (so = nI 0)) = (decide (S 0 a = nI 2) && decide (S 1 a = nI 0)) := by
          by_cases y : S 0 a = nI 2
          · rw [(hW y).1]
          · simp [y]
        have hb2 : (decide (S 0 c = nI 2) && decide (so2 = nI 0)) = (decide (S 0 c = nI 2) && decide (S 1 c = nI 0)) := by
          by_cases y : S 0 c = nI 2
          · rw [(hW2 y).1]
          · simp [y]
        refine V.aload_n dX5_table_23 rfl ?_
        refine V.getf dX5_table_24 fl_X5_11 ht0 rfl ?_
        refine V.iload_n dX5_table_27 rfl ?_
        refine V.aaldN dX5_table_28 (Or.inr rfl) hsq (by omega) (by decide) (esq _ (by omega)) ?_
        refine V.getf dX5_table_29 fl_X5_197 hS rfl ?_
        refine V.if_eq (tgt := 47) dX5_table_32 (by decide) (fun c32 => ?_) (fun c32 => ?_)
        · refine V.bipush (v := -11) dX5_table_47 (by decide) ?_
          have hr : tabR K S (nI a) (nI c) fg = -11 := by
            (try simp only [i0] at c4 c11 c18 c32)
            simp only [tabR, clampI (show a < 2147483648 by omega), clampI (show c < 2147483648 by omega), not_true_eq_false, c4, c11, c18, eq_true c32, not_true_eq_false, not_false_eq_true, if_true, if_false, decide_true, decide_false, Bool.and_true, Bool.and_false, Bool.true_and, Bool.false_and, Bool.or_true, Bool.or_false, Bool.true_or, Bool.false_or, Bool.not_true, Bool.not_false, and_true, and_false, true_and, false_and, or_true, or_false, true_or, false_or, bIt, bIf, Bool.false_eq_true, reduceCtorEq]
          exact V.iret (by exact dX5_table_49) rfl rfl ⟨by rw [tableV, hr]; rfl, rfl, hc, fun _ _ => rfl⟩
        · refine V.aload_n dX5_table_35 rfl ?_
          refine V.getf dX5_table_36 fl_X5_11 ht0 rfl ?_
          refine V.iload_n dX5_table_39 rfl ?_
          refine V.aaldN dX5_table_40 (Or.inr rfl) hsq (by omega) (by decide) (esq _ (by omega)) ?_
          refine V.getf dX5_table_41 fl_X5_197 hS2 rfl ?_
          refine V.if_ne (tgt := 50) dX5_table_44 (by decide) (fun c44 => ?_) (fun c44 => ?_)
          · refine V.aload_n dX5_table_50 rfl ?_
            refine V.getf dX5_table_51 fl_X5_11 ht0 rfl ?_
            refine V.iload_n dX5_table_54 rfl ?_
            refine V.aaldN dX5_table_55 (Or.inr rfl) hsq (by omega) (by decide) (esq _ (by omega)) ?_
            refine V.callVv [] dX5_table_56 lk_X5_200 rfl (Nat.le_of_ble_eq_true rfl) (Nat.le_of_ble_eq_true rfl) hS rfl (s3_isBytes _ _ _ _ _ _ _ _ _ _ _ hS) ?_
            rw [hb1]
            refine V.if_eqB (tgt := 74) dX5_table_59 (by decide) (fun c59 => ?_) (fun c59 => ?_)
            · refine V.bipush (v := -12) dX5_table_74 (by decide) ?_
              have hr : tabR K S (nI a) (nI c) fg = -12 := by
                (try simp only [i0] at c4 c11 c18 c32 c44 c59)
                simp only [tabR, clampI (show a < 2147483648 by omega), clampI (show c < 2147483648 by omega), not_true_eq_false, c4, c11, c18, c32, c44, c59, not_true_eq_false, not_false_eq_true, if_true, if_false, decide_true, decide_false, Bool.and_true, Bool.and_false, Bool.true_and, Bool.false_and, Bool.or_true, Bool.or_false, Bool.true_or, Bool.false_or, Bool.not_true, Bool.not_false, and_true, and_false, true_and, false_and, or_true, or_false, true_or, false_or, bIt, bIf, Bool.false_eq_true, reduceCtorEq]
              exact V.iret (by exact dX5_table_76) rfl rfl ⟨by rw [tableV, hr]; rfl, rfl, hc, fun _ _ => rfl⟩
            · refine V.aload_n dX5_table_62 rfl ?_
              refine V.getf dX5_table_63 fl_X5_11 ht0 rfl ?_
              refine V.iload_n dX5_table_66 rfl ?_
              refine V.aaldN dX5_table_67 (Or.inr rfl) hsq (by omega) (by decide) (esq _ (by omega)) ?_
              refine V.callVv [] dX5_table_68 lk_X5_200 rfl (Nat.le_of_ble_eq_true rfl) (Nat.le_of_ble_eq_true rfl) hS2 rfl (s3_isBytes _ _ _ _ _ _ _ _ _ _ _ hS2) ?_
              rw [hb2]
              refine V.if_neB (tgt := 77) dX5_table_71 (by decide) (fun c71 => ?_) (fun c71 => ?_)
              · have k1 := of_decide_eq_true (Bool.and_eq_true _ _ ▸ c59).1
                have k2 := of_decide_eq_true (Bool.and_eq_true _ _ ▸ c71).1
                obtain ⟨-, ⟨s1, hs1, es1⟩⟩ := (hSI a (by omega)).2.2 k1
                obtain ⟨-, ⟨s2, hs2, es2⟩⟩ := (hSI c (by omega)).2.2 k2
                obtain ⟨rfl, rfl, hel⟩ := hW k1
                obtain ⟨rfl, rfl, hel2⟩ := hW2 k2
                rw [es1] at hS
                rw [es2] at hS2
                have hn1 : ¬ S 0 a = nI 0 := c32
                have hn2 : ¬ S 0 c = nI 0 := c44
                refine V.aload_n dX5_table_77 rfl ?_
                refine V.getf dX5_table_78 fl_X5_11 ht0 rfl ?_
                refine V.iload_n dX5_table_81 rfl ?_
                refine V.aaldN dX5_table_82 (Or.inr rfl) hsq (by omega) (by decide) (esq _ (by omega)) ?_
                refine V.callVv [] dX5_table_83 lk_X5_203 rfl (Nat.le_of_ble_eq_true rfl) (Nat.le_of_ble_eq_true rfl) hS rfl (s3_hasKinds _ _ _ _ _ _ _ _ _ _ s1 hs1 el hS hE) ?_
                rw [hk_congr (e2 := (fun k => S 3 (100 * a + k))) (fun k hk => hel k (by omega))]
                refine V.if_eqB (tgt := 101) dX5_table_86 (by decide) (fun c86 => ?_) (fun c86 => ?_)
                · refine V.bipush (v := -13) dX5_table_101 (by decide) ?_
                  have hr : tabR K S (nI a) (nI c) fg = -13 := by
                    (try simp only [i0] at c4 c11 c18 c32 c44 c59 c71 c86)
                    simp only [tabR, clampI (show a < 2147483648 by omega), clampI (show c < 2147483648 by omega), not_true_eq_false, c4, c11, c18, c32, c44, c59, c71, c86, es1, es2, clampI (show s1 < 2147483648 by omega), clampI (show s2 < 2147483648 by omega), hn1, hn2, not_true_eq_false, not_false_eq_true, if_true, if_false, decide_true, decide_false, Bool.and_true, Bool.and_false, Bool.true_and, Bool.false_and, Bool.or_true, Bool.or_false, Bool.true_or, Bool.false_or, Bool.not_true, Bool.not_false, and_true, and_false, true_and, false_and, or_true, or_false, true_or, false_or, bIt, bIf, Bool.false_eq_true, reduceCtorEq]
                  exact V.iret (by exact dX5_table_103) rfl rfl ⟨by rw [tableV, hr]; rfl, rfl, hc, fun _ _ => rfl⟩
                · refine V.aload_n dX5_table_89 rfl ?_
                  refine V.getf dX5_table_90 fl_X5_11 ht0 rfl ?_
                  refine V.iload_n dX5_table_93 rfl ?_
                  refine V.aaldN dX5_table_94 (Or.inr rfl) hsq (by omega) (by decide) (esq _ (by omega)) ?_
                  refine V.callVv [] dX5_table_95 lk_X5_203 rfl (Nat.le_of_ble_eq_true rfl) (Nat.le_of_ble_eq_true rfl) hS2 rfl (s3_hasKinds _ _ _ _ _ _ _ _ _ _ s2 hs2 el2 hS2 hE2) ?_
                  rw [hk_congr (e2 := (fun k => S 3 (100 * c + k))) (fun k hk => hel2 k (by omega))]
                  refine V.if_neB (tgt := 104) dX5_table_98 (by decide) (fun c98 => ?_) (fun c98 => ?_)
                  · refine V.aload_n dX5_table_104 rfl ?_
                    refine V.getf dX5_table_105 fl_X5_18 ht0 rfl ?_
                    refine V.getf dX5_table_108 fl_X5_144 hw0 rfl ?_
                    refine V.if_ne (tgt := 117) dX5_table_111 (by decide) (fun c111 => ?_) (fun c111 => ?_)
                    · have hn3 : ¬ K 90 = nI 0 := c111
                      have hr : tabR K S (nI a) (nI c) fg = nI 0 := by
                        simp only [tabR, clampI (show a < 2147483648 by omega), clampI (show c < 2147483648 by omega), es1, es2, clampI (show s1 < 2147483648 by omega), clampI (show s2 < 2147483648 by omega), hn1, hn2, hn3, c4, c11, c18, c59, c71, c86, c98, not_true_eq_false, not_false_eq_true, if_true, if_false, decide_true, decide_false, Bool.and_true, Bool.and_false, Bool.true_and, Bool.false_and, Bool.or_true, Bool.or_false, Bool.true_or, Bool.false_or, Bool.not_true, Bool.not_false, and_true, and_false, true_and, false_and, or_true, or_false, true_or, false_or, bIt, bIf, Bool.false_eq_true, reduceCtorEq]
                      refine V.aload_n dX5_table_117 rfl ?_
                      refine V.getf dX5_table_118 fl_X5_22 ht0 rfl ?_
                      refine V.aload_n dX5_table_121 rfl ?_
                      refine V.getf dX5_table_122 fl_X5_18 ht0 rfl ?_
                      refine V.callVw [_] dX5_table_125 lk_X5_51 rfl (Nat.le_of_ble_eq_true rfl) (Nat.le_of_ble_eq_true rfl) hwm.1 rfl (s4_become _ _ _ _ 20 2 _ _ _ _ _ _ _ _ (by omega) hwm hw) (fun h1 hw1 ho1 => ?_)
                      have ht1 := (ho1 0 (by omega)).trans ht0
                      refine V.aload_n dX5_table_128 rfl ?_
                      refine V.getf dX5_table_129 fl_X5_22 ht1 rfl ?_
                      refine V.iconst (v := nI 0) dX5_table_132 (by decide) ?_
                      refine V.aload_n dX5_table_133 rfl ?_
                      refine V.getf dX5_table_134 fl_X5_11 ht1 rfl ?_
                      refine V.iload_n dX5_table_137 rfl ?_
                      refine V.aaldN dX5_table_138 (Or.inr rfl) ((ho1 _ (by omega)).trans hsq) (by omega) (by decide) (esq _ (by omega)) ?_
                      refine V.iload_n dX5_table_139 rfl ?_
                      refine V.callVw [_, _, _] dX5_table_140 lk_X5_206 rfl (Nat.le_of_ble_eq_true rfl) (Nat.le_of_ble_eq_true rfl) hw1.1 rfl (s4_giveKinds l _ n 20 m hm10 (nI 0) fg cl P pn h1 (62 + 2 * a) (63 + 2 * a) (by omega) _ _ _ _ s1 hs1 el ((ho1 _ (by omega)).trans hS) ((ho1 _ (by omega)).trans hE) K hw1 hm) (fun h2 hw2 ho2 => ?_)
                      have ht2 := (ho2 0 (by omega)).trans ht1
                      refine V.aload_n dX5_table_143 rfl ?_
                      refine V.getf dX5_table_144 fl_X5_22 ht2 rfl ?_
                      refine V.iconst (v := nI 1) dX5_table_147 (by decide) ?_
                      refine V.aload_n dX5_table_148 rfl ?_
                      refine V.getf dX5_table_149 fl_X5_11 ht2 rfl ?_
                      refine V.iload_n dX5_table_152 rfl ?_
                      refine V.aaldN dX5_table_153 (Or.inr rfl) ((ho2 _ (by omega)).trans ((ho1 _ (by omega)).trans hsq)) (by omega) (by decide) (esq _ (by omega)) ?_
                      refine V.iload_n dX5_table_154 rfl ?_
                      refine V.callVw [_, _, _] dX5_table_155 lk_X5_206 rfl (Nat.le_of_ble_eq_true rfl) (Nat.le_of_ble_eq_true rfl) hw2.1 rfl (s4_giveKinds l _ n 20 m hm10 (nI 1) fg cl P pn h2 (62 + 2 * c) (63 + 2 * c) (by omega) _ _ _ _ s2 hs2 el2 ((ho2 _ (by omega)).trans ((ho1 _ (by omega)).trans hS2)) ((ho2 _ (by omega)).trans ((ho1 _ (by omega)).trans hE2)) _ hw2 ((gk_lo _ _ _ _ _ (by omega) _ _ _ _).trans hm)) (fun h3 hw3 ho3 => ?_)
                      have ht3 := (ho3 0 (by omega)).trans ht2
                      rw [gk_congr (e2 := (fun k => S 3 (100 * c + k))) (fun k hk => hel2 k (by omega)), gk_congr (e2 := (fun k => S 3 (100 * a + k))) (fun k hk => hel k (by omega))] at hw3
                      change WoodAt h3 20 (gk2 K m (fun k => S 3 (100 * a + k)) s1 (fun k => S 3 (100 * c + k)) s2 fg) cl P pn at hw3
                      refine V.aload_n dX5_table_158 rfl ?_
                      refine V.getf dX5_table_159 fl_X5_22 ht3 rfl ?_
                      refine V.iconst (v := nI 1) dX5_table_162 (by decide) ?_
                      refine V.iload dX5_table_163 rfl ?_
                      refine V.callVg [_, _] dX5_table_165 lk_X5_186 rfl (Nat.le_of_ble_eq_true rfl) (Nat.le_of_ble_eq_true rfl) hw3.1 rfl (s4_playGames _ _ _ _ _ 1 (by omega) (by omega) _ _ _ _ _ m (hw3.wb m) (((gk_lo _ _ _ _ _ (by omega) _ _ _ _).trans (gk_lo _ _ _ _ _ (by omega) _ _ _ _)).trans hm) hm10 (KD_bgn (KD_gk c98 m 0 0 _ (KD_gk c86 m 0 0 _ hD))) (PR_lo hPR (fun j y1 y2 => (gk_lo _ _ _ _ _ (by omega) _ _ _ _).trans (gk_lo _ _ _ _ _ (by omega) _ _ _ _)))) (fun h4 cl4 wa4 hw4 ho4 hwa4 hww4 => ?_)
                      have ht4 := (ho4 0 (by omega)).trans ht3
                      refine V.pop dX5_table_168 rfl ?_
                      refine V.aload_n dX5_table_169 rfl ?_
                      refine V.getf dX5_table_170 fl_X5_22 ht4 rfl ?_
                      refine V.getf dX5_table_173 fl_X5_157 hw4.1 rfl ?_
                      exact V.iret (by exact dX5_table_176) rfl rfl ⟨by rw [z_0 _ _ rfl, tableV, if_pos hr, clampI (show a < 2147483648 by omega), clampI (show c < 2147483648 by omega), es1, es2, clampI (show s1 < 2147483648 by omega), clampI (show s2 < 2147483648 by omega)], rfl, hc.mindO hw4 (((ho1.ou.tr ho2.ou).tr ho3.ou).tr ho4), fun y hy => (ho4 y (by omega)).trans ((ho3 y (by omega)).trans ((ho2 y (by omega)).trans (ho1 y (by omega))))⟩
                    · refine V.bipush (v := -3) dX5_table_114 (by decide) ?_
                      have hr : tabR K S (nI a) (nI c) fg = -3 := by
                        (try simp only [i0] at c4 c11 c18 c32 c44 c59 c71 c86 c98 c111)
                        simp only [tabR, clampI (show a < 2147483648 by omega), clampI (show c < 2147483648 by omega), not_true_eq_false, c4, c11, c18, c32, c44, c59, c71, c86, c98, eq_true c111, es1, es2, clampI (show s1 < 2147483648 by omega), clampI (show s2 < 2147483648 by omega), hn1, hn2, not_true_eq_false, not_false_eq_true, if_true, if_false, decide_true, decide_false, Bool.and_true, Bool.and_false, Bool.true_and, Bool.false_and, Bool.or_true, Bool.or_false, Bool.true_or, Bool.false_or, Bool.not_true, Bool.not_false, and_true, and_false, true_and, false_and, or_true, or_false, true_or, false_or, bIt, bIf, Bool.false_eq_true, reduceCtorEq]
                      exact V.iret (by exact dX5_table_116) rfl rfl ⟨by rw [tableV, hr]; rfl, rfl, hc, fun _ _ => rfl⟩
                  · refine V.bipush (v := -13) dX5_table_101 (by decide) ?_
                    have hr : tabR K S (nI a) (nI c) fg = -13 := by
                      (try simp only [i0] at c4 c11 c18 c32 c44 c59 c71 c86 c98)
                      simp only [tabR, clampI (show a < 2147483648 by omega), clampI (show c < 2147483648 by omega), not_true_eq_false, c4, c11, c18, c32, c44, c59, c71, c86, c98, es1, es2, clampI (show s1 < 2147483648 by omega), clampI (show s2 < 2147483648 by omega), hn1, hn2, not_true_eq_false, not_false_eq_true, if_true, if_false, decide_true, decide_false, Bool.and_true, Bool.and_false, Bool.true_and, Bool.false_and, Bool.or_true, Bool.or_false, Bool.true_or, Bool.false_or, Bool.not_true, Bool.not_false, and_true, and_false, true_and, false_and, or_true, or_false, true_or, false_or, bIt, bIf, Bool.false_eq_true, reduceCtorEq]
                    exact V.iret (by exact dX5_table_103) rfl rfl ⟨by rw [tableV, hr]; rfl, rfl, hc, fun _ _ => rfl⟩
              · refine V.bipush (v := -12) dX5_table_74 (by decide) ?_
                have hr : tabR K S (nI a) (nI c) fg = -12 := by
                  (try simp only [i0] at c4 c11 c18 c32 c44 c59 c71)
                  simp only [tabR, clampI (show a < 2147483648 by omega), clampI (show c < 2147483648 by omega), not_true_eq_false, c4, c11, c18, c32, c44, c59, c71, not_true_eq_false, not_false_eq_true, if_true, if_false, decide_true, decide_false, Bool.and_true, Bool.and_false, Bool.true_and, Bool.false_and, Bool.or_true, Bool.or_false, Bool.true_or, Bool.false_or, Bool.not_true, Bool.not_false, and_true, and_false, true_and, false_and, or_true, or_false, true_or, false_or, bIt, bIf, Bool.false_eq_true, reduceCtorEq]
                exact V.iret (by exact dX5_table_76) rfl rfl ⟨by rw [tableV, hr]; rfl, rfl, hc, fun _ _ => rfl⟩
          · refine V.bipush (v := -11) dX5_table_47 (by decide) ?_
            have hr : tabR K S (nI a) (nI c) fg = -11 := by
              (try simp only [i0] at c4 c11 c18 c32 c44)
              simp only [tabR, clampI (show a < 2147483648 by omega), clampI (show c < 2147483648 by omega), not_true_eq_false, c4, c11, c18, c32, eq_true c44, not_true_eq_false, not_false_eq_true, if_true, if_false, decide_true, decide_false, Bool.and_true, Bool.and_false, Bool.true_and, Bool.false_and, Bool.or_true, Bool.or_false, Bool.true_or, Bool.false_or, Bool.not_true, Bool.not_false, and_true, and_false, true_and, false_and, or_true, or_false, true_or, false_or, bIt, bIf, Bool.false_eq_true, reduceCtorEq]
            exact V.iret (by exact dX5_table_49) rfl rfl ⟨by rw [tableV, hr]; rfl, rfl, hc, fun _ _ => rfl⟩
      · refine V.iconst (v := -1) dX5_table_21 (by decide) ?_
        have hr : tabR K S x y fg = -1 := by
          (try simp only [i0] at c4 c11 c18)
          simp only [tabR, not_true_eq_false, c4, c11, c18, not_true_eq_false, not_false_eq_true, if_true, if_false, decide_true, decide_false, Bool.and_true, Bool.and_false, Bool.true_and, Bool.false_and, Bool.or_true, Bool.or_false, Bool.true_or, Bool.false_or, Bool.not_true, Bool.not_false, and_true, and_false, true_and, false_and, or_true, or_false, true_or, false_or, bIt, bIf, Bool.false_eq_true, reduceCtorEq]
        exact V.iret (by exact dX5_table_22) rfl rfl ⟨by rw [tableV, hr]; rfl, rfl, hc, fun _ _ => rfl⟩
set_option maxRecDepth 20000 in
set_option maxHeartbeats 4000000 in
theorem m_tab_1 (l : Launch) (d : Nat) (h : MH) (n : Nat) (b : Bool) (th po ba en tt : Int32) (hm0 : h 78 = some (.inr (6, moF b th po ba en tt))) (S : SS) (h85 : h 85 = some (ia 8 (S 2))) (h86 : h 86 = some (ia 800 (S 3))) (a c : Nat) (ha : a ≤ 7) (hc : c ≤ 7) (fg z : Int32) (s : Nat) (hs : s ≤ 100) (e2 : S 2 a = nI s) {Q : Option Value → MH → Nat → Prop} (kk : hkB (fun k => S 3 (100 * a + k)) s = true → V l mX6_table (d + 1) 136 [some (.ref 78), some (.int (nI a)), some (.int (nI c)), some (.int fg), some (.int z), none, none, none, none] [] h n 0 0 Q) (k2 : hkB (fun k => S 3 (100 * a + k)) s = false → Q (some (.int (-13))) h n) : ∀ (r k : Nat), hkB (fun k => S 3 (100 * a + k)) k = true → k + r = s → V l mX6_table (d + 1) 93 [some (.ref 78), some (.int (nI a)), some (.int (nI c)), some (.int fg), some (.int z), some (.int (nI k)), none, none, none] [] h n 0 0 Q := by
  intro r
  induction r with
  | zero =>
    intro k hh hk
    refine V.iload dX6_table_93 rfl ?_
    refine V.aload_n dX6_table_95 rfl ?_
    refine V.getf dX6_table_96 fl_X6_28 hm0 rfl ?_
    refine V.iload_n dX6_table_99 rfl ?_
    refine V.ialdN dX6_table_100 h85 (by omega) (by decide) ?_
    rw [e2]
    refine V.icmp_geN (tgt := 136) dX6_table_101 (by decide) (by omega) (by omega) (fun _ => ?_) (fun q => absurd q (by omega))
    exact V.drop 5 (kk (by rw [show s = k by omega]; exact hh))
  | succ r ih =>
    intro k hh hk
    refine V.iload dX6_table_93 rfl ?_
    refine V.aload_n dX6_table_95 rfl ?_
    refine V.getf dX6_table_96 fl_X6_28 hm0 rfl ?_
    refine V.iload_n dX6_table_99 rfl ?_
    refine V.ialdN dX6_table_100 h85 (by omega) (by decide) ?_
    rw [e2]
    refine V.icmp_geN (tgt := 136) dX6_table_101 (by decide) (by omega) (by omega) (fun q => absurd q (by omega)) (fun _ => ?_)
    refine V.aload_n dX6_table_104 rfl ?_
    refine V.getf dX6_table_105 fl_X6_31 hm0 rfl ?_
    refine V.bipush (v := nI 100) dX6_table_108 (by decide) ?_
    refine V.iload_n dX6_table_110 rfl ?_
    refine V.imulN dX6_table_111 ?_
    refine V.iload dX6_table_112 rfl ?_
    refine V.iaddN dX6_table_114 ?_
    refine V.ialdN dX6_table_115 h86 (by omega) (by decide) ?_
    refine V.i2l dX6_table_116 ?_
    refine V.lconst (v := 0) dX6_table_117 (by decide) ?_
    refine V.ldc2 dX6_table_118 cn_X6_60 ?_
    refine V.callSv [_, _, _] dX6_table_121 lk_X6_62 rfl (Nat.le_of_ble_eq_true rfl) (Nat.le_of_ble_eq_true rfl) (s6_isInC _ _ _ (nI 0) (nI 7) (by decide) (by decide) _ _) ?_
    refine V.if_neB (tgt := 130) dX6_table_124 (by decide) (fun c124 => ?_) (fun c124 => ?_)
    · refine V.inN5 dX6_table_130 (by decide) rfl ?_
      refine V.goto (tgt := 93) dX6_table_133 (by decide) ?_
      exact ih (k + 1) (by rw [hkB, hh, c124]; rfl) (by omega)
    · refine V.bipush (v := -13) dX6_table_127 (by decide) ?_
      exact V.iret (by exact dX6_table_129) rfl rfl (k2 (hk_no (show k < s by omega) c124))
set_option maxRecDepth 20000 in
set_option maxHeartbeats 4000000 in
theorem m_tab_2 (l : Launch) (d : Nat) (h : MH) (n : Nat) (b : Bool) (th po ba en tt : Int32) (hm0 : h 78 = some (.inr (6, moF b th po ba en tt))) (S : SS) (h85 : h 85 = some (ia 8 (S 2))) (h86 : h 86 = some (ia 800 (S 3))) (a c : Nat) (ha : a ≤ 7) (hc : c ≤ 7) (fg z : Int32) (s : Nat) (hs : s ≤ 100) (e2 : S 2 c = nI s) {Q : Option Value → MH → Nat → Prop} (kk : hkB (fun k => S 3 (100 * c + k)) s = true → V l mX6_table (d + 1) 182 [some (.ref 78), some (.int (nI a)), some (.int (nI c)), some (.int fg), some (.int z), none, none, none, none] [] h n 0 0 Q) (k2 : hkB (fun k => S 3 (100 * c + k)) s = false → Q (some (.int (-13))) h n) : ∀ (r k : Nat), hkB (fun k => S 3 (100 * c + k)) k = true → k + r = s → V l mX6_table (d + 1) 139 [some (.ref 78), some (.int (nI a)), some (.int (nI c)), some (.int fg), some (.int z), some (.int (nI k)), none, none, none] [] h n 0 0 Q := by
  intro r
  induction r with
  | zero =>
    intro k hh hk
    refine V.iload dX6_table_139 rfl ?_
    refine V.aload_n dX6_table_141 rfl ?_
    refine V.getf dX6_table_142 fl_X6_28 hm0 rfl ?_
    refine V.iload_n dX6_table_145 rfl ?_
    refine V.ialdN dX6_table_146 h85 (by omega) (by decide) ?_
    rw [e2]
    refine V.icmp_geN (tgt := 182) dX6_table_147 (by decide) (by omega) (by omega) (fun _ => ?_) (fun q => absurd q (by omega))
    exact V.drop 5 (kk (by rw [show s = k by omega]; exact hh))
  | succ r ih =>
    intro k hh hk
    refine V.iload dX6_table_139 rfl ?_
    refine V.aload_n dX6_table_141 rfl ?_
    refine V.getf dX6_table_142 fl_X6_28 hm0 rfl ?_
    refine V.iload_n dX6_table_145 rfl ?_
    refine V.ialdN dX6_table_146 h85 (by omega) (by decide) ?_
    rw [e2]
    refine V.icmp_geN (tgt := 182) dX6_table_147 (by decide) (by omega) (by omega) (fun q => absurd q (by omega)) (fun _ => ?_)
    refine V.aload_n dX6_table_150 rfl ?_
    refine V.getf dX6_table_151 fl_X6_31 hm0 rfl ?_
    refine V.bipush (v := nI 100) dX6_table_154 (by decide) ?_
    refine V.iload_n dX6_table_156 rfl ?_
    refine V.imulN dX6_table_157 ?_
    refine V.iload dX6_table_158 rfl ?_
    refine V.iaddN dX6_table_160 ?_
    refine V.ialdN dX6_table_161 h86 (by omega) (by decide) ?_
    refine V.i2l dX6_table_162 ?_
    refine V.lconst (v := 0) dX6_table_163 (by decide) ?_
    refine V.ldc2 dX6_table_164 cn_X6_60 ?_
    refine V.callSv [_, _, _] dX6_table_167 lk_X6_62 rfl (Nat.le_of_ble_eq_true rfl) (Nat.le_of_ble_eq_true rfl) (s6_isInC _ _ _ (nI 0) (nI 7) (by decide) (by decide) _ _) ?_
    refine V.if_neB (tgt := 176) dX6_table_170 (by decide) (fun c170 => ?_) (fun c170 => ?_)
    · refine V.inN5 dX6_table_176 (by decide) rfl ?_
      refine V.goto (tgt := 139) dX6_table_179 (by decide) ?_
      exact ih (k + 1) (by rw [hkB, hh, c170]; rfl) (by omega)
    · refine V.bipush (v := -13) dX6_table_173 (by decide) ?_
      exact V.iret (by exact dX6_table_175) rfl rfl (k2 (hk_no (show k < s by omega) c170))
set_option maxRecDepth 20000 in
set_option maxHeartbeats 4000000 in
theorem m_tab_g (l : Launch) (d : Nat) (h : MH) (n : Nat) (b : Bool) (th po ba en tt : Int32) (hm0 : h 78 = some (.inr (6, moF b th po ba en tt))) (K : KK) (ha1 : h 79 = some (kc K)) (m : Nat) (hm : K 90 = nI m) (hm10 : m ≤ 10) (S : SS) (h85 : h 85 = some (ia 8 (S 2))) (h86 : h 86 = some (ia 800 (S 3))) (a c : Nat) (fg z : Int32) (e rw_ : Nat) (hrw : rw_ ≤ 7) (s : Nat) (hs : s ≤ 100) (e2 : S 2 rw_ = nI s) {Q : Option Value → MH → Nat → Prop} : ∀ (r q t : Nat) (X : KK), (V l mX6_table (d + 1) 313 [some (.ref 78), some (.int (nI a)), some (.int (nI c)), some (.int fg), some (.int z), some (.int (nI e)), none, none, none] [] (hset h 81 (kc (gkL (nI e) (fun k => S 3 (100 * rw_ + k)) s fg r q t X))) n 0 0 Q) → t ≤ q → q + r = m → V l mX6_table (d + 1) 228 [some (.ref 78), some (.int (nI a)), some (.int (nI c)), some (.int fg), some (.int z), some (.int (nI e)), some (.int (nI rw_)), some (.int (nI t)), some (.int (nI q))] [] (hset h 81 (kc X)) n 0 0 Q := by
  intro r
  induction r with
  | zero =>
    intro q t X kk htq hq
    refine V.iload dX6_table_228 rfl ?_
    refine V.aload_n dX6_table_230 rfl ?_
    refine V.getf dX6_table_231 fl_X6_9 (o_ne hm0 (by decide)) rfl ?_
    refine V.bipush (v := nI 90) dX6_table_234 (by decide) ?_
    refine V.ialdN dX6_table_236 (o_ne ha1 (by decide)) (by omega) (by decide) ?_
    rw [hm]
    refine V.icmp_geN (tgt := 313) dX6_table_237 (by decide) (by omega) (by omega) (fun _ => ?_) (fun q => absurd q (by omega))
    exact V.drop 6 (V.drop 7 (V.drop 8 kk))
  | succ r ih =>
    intro q t X kk htq hq
    refine V.iload dX6_table_228 rfl ?_
    refine V.aload_n dX6_table_230 rfl ?_
    refine V.getf dX6_table_231 fl_X6_9 (o_ne hm0 (by decide)) rfl ?_
    refine V.bipush (v := nI 90) dX6_table_234 (by decide) ?_
    refine V.ialdN dX6_table_236 (o_ne ha1 (by decide)) (by omega) (by decide) ?_
    rw [hm]
    refine V.icmp_geN (tgt := 313) dX6_table_237 (by decide) (by omega) (by omega) (fun q => absurd q (by omega)) (fun _ => ?_)
    refine V.iload dX6_table_240 rfl ?_
    refine V.aload_n dX6_table_242 rfl ?_
    refine V.getf dX6_table_243 fl_X6_28 (o_ne hm0 (by decide)) rfl ?_
    refine V.iload dX6_table_246 rfl ?_
    refine V.ialdN dX6_table_248 (o_ne h85 (by decide)) (by omega) (by decide) ?_
    rw [e2]
    refine V.icmp_geN (tgt := 313) dX6_table_249 (by decide) (by omega) (by omega) (fun c249 => ?_) (fun c249 => ?_)
    · exact V.drop 6 (V.drop 7 (V.drop 8 (by rw [gkL, if_neg (by omega)] at kk; exact kk)))
    · refine V.aload_n dX6_table_252 rfl ?_
      refine V.getf dX6_table_253 fl_X6_16 (o_ne hm0 (by decide)) rfl ?_
      refine V.iload dX6_table_256 rfl ?_
      refine V.iconst (v := nI 0) dX6_table_258 (by decide) ?_
      refine V.callSv [_, _, _] dX6_table_259 lk_X6_82 rfl (Nat.le_of_ble_eq_true rfl) (Nat.le_of_ble_eq_true rfl) (s6_get _ _ _ _ _ _ (hset_self _ _ _) _ _ (by omega) (by omega)) ?_
      refine V.iload dX6_table_262 rfl ?_
      refine V.icmp_eq (tgt := 270) dX6_table_264 (by decide) (fun c264 => ?_) (fun c264 => ?_)
      · refine V.aload_n dX6_table_270 rfl ?_
        refine V.getf dX6_table_271 fl_X6_16 (o_ne hm0 (by decide)) rfl ?_
        refine V.iload dX6_table_274 rfl ?_
        refine V.iconst (v := nI 1) dX6_table_276 (by decide) ?_
        refine V.aload_n dX6_table_277 rfl ?_
        refine V.getf dX6_table_278 fl_X6_31 (o_ne hm0 (by decide)) rfl ?_
        refine V.bipush (v := nI 100) dX6_table_281 (by decide) ?_
        refine V.iload dX6_table_283 rfl ?_
        refine V.imulN dX6_table_285 ?_
        refine V.iload dX6_table_286 rfl ?_
        refine V.iaddN dX6_table_288 ?_
        refine V.ialdN dX6_table_289 (o_ne h86 (by decide)) (by omega) (by decide) ?_
        refine V.callSu [_, _, _, _] dX6_table_290 lk_X6_86 rfl (Nat.le_of_ble_eq_true rfl) (Nat.le_of_ble_eq_true rfl) (s6_puts _ _ _ _ _ _ (hset_self _ _ _) _ _ _ (by omega) (by omega)) ?_
        rw [hset_hset]
        refine V.aload_n dX6_table_293 rfl ?_
        refine V.getf dX6_table_294 fl_X6_16 (o_ne hm0 (by decide)) rfl ?_
        refine V.iload dX6_table_297 rfl ?_
        refine V.iconst (v := nI 2) dX6_table_299 (by decide) ?_
        refine V.iload_n dX6_table_300 rfl ?_
        refine V.callSu [_, _, _, _] dX6_table_301 lk_X6_86 rfl (Nat.le_of_ble_eq_true rfl) (Nat.le_of_ble_eq_true rfl) (s6_puts _ _ _ _ _ _ (hset_self _ _ _) _ _ _ (by omega) (by omega)) ?_
        rw [hset_hset]
        refine V.inN7 dX6_table_304 (by decide) rfl ?_
        refine V.inN8 dX6_table_307 (by decide) rfl ?_
        refine V.goto (tgt := 228) dX6_table_310 (by decide) ?_
        rw [gkL, if_pos (by omega), if_pos c264] at kk
        exact ih (q + 1) (t + 1) _ kk (by omega) (by omega)
      · refine V.goto (tgt := 307) dX6_table_267 (by decide) ?_
        refine V.inN8 dX6_table_307 (by decide) rfl ?_
        refine V.goto (tgt := 228) dX6_table_310 (by decide) ?_
        rw [gkL, if_pos (by omega), if_neg c264] at kk
        exact ih (q + 1) t X kk (by omega) (by omega)
set_option maxRecDepth 20000 in
set_option maxHeartbeats 4000000 in
theorem m_table (l : Launch) (d : Nat) (h : MH) (n : Nat) (K : KK) (b : Bool) (KI : KK) (S : SS) (m : Nat) (hc : ModAt h K b KI S) (hT : TI K m) (hSI : SI S) (x y fg z : Int32) : Sp l mX6_table (d + 11) [.ref 78, .int x, .int y, .int fg, .int z] h n 0 0 (Qm (tableV K m S x y fg z) K b KI S h n) := by
  have hD := hT.1
  have hm := hD.1.1
  have hm10 := hD.1.2.1
  obtain ⟨⟨th, po, ba, en, tt, hm0⟩, ha, hb, ⟨Km, hmi⟩, ⟨Kr, hre⟩, h83, h84, h85, h86, h87, h88, ⟨X89, h89⟩, ⟨X90, h90⟩, ⟨X91, h91⟩, ⟨X92, h92⟩⟩ := id hc
  show V _ _ _ _ [some (.ref 78), some (.int x), some (.int y), some (.int fg), some (.int z), none, none, none, none] _ _ _ _ _ _
  refine V.iload_n dX6_table_0 rfl ?_
  refine V.callSv [_] dX6_table_1 lk_X6_157 rfl (Nat.le_of_ble_eq_true rfl) (Nat.le_of_ble_eq_true rfl) (s6_isShelf _ _ _ _ _) ?_
  refine V.if_eqB (tgt := 26) dX6_table_4 (by decide) (fun c4 => ?_) (fun c4 => ?_)
  · refine V.iconst (v := -1) dX6_table_26 (by decide) ?_
    have hr : tabR K S x y fg = -1 := by
      (try simp only [i0] at c4)
      simp only [tabR, not_true_eq_false, c4, not_true_eq_false, not_false_eq_true, if_true, if_false, decide_true, decide_false, Bool.and_true, Bool.and_false, Bool.true_and, Bool.false_and, Bool.or_true, Bool.or_false, Bool.true_or, Bool.false_or, Bool.not_true, Bool.not_false, and_true, and_false, true_and, false_and, or_true, or_false, true_or, false_or, bIt, bIf, Bool.false_eq_true, reduceCtorEq]
    exact V.iret (by exact dX6_table_27) rfl rfl ⟨by rw [tableV, hr]; rfl, rfl, hc, fun _ _ => rfl⟩
  · refine V.iload_n dX6_table_7 rfl ?_
    refine V.callSv [_] dX6_table_8 lk_X6_157 rfl (Nat.le_of_ble_eq_true rfl) (Nat.le_of_ble_eq_true rfl) (s6_isShelf _ _ _ _ _) ?_
    refine V.if_eqB (tgt := 26) dX6_table_11 (by decide) (fun c11 => ?_) (fun c11 => ?_)
    · refine V.iconst (v := -1) dX6_table_26 (by decide) ?_
      have hr : tabR K S x y fg = -1 := by
        (try simp only [i0] at c4 c11)
        simp only [tabR, not_true_eq_false, c4, c11, not_true_eq_false, not_false_eq_true, if_true, if_false, decide_true, decide_false, Bool.and_true, Bool.and_false, Bool.true_and, Bool.false_and, Bool.or_true, Bool.or_false, Bool.true_or, Bool.false_or, Bool.not_true, Bool.not_false, and_true, and_false, true_and, false_and, or_true, or_false, true_or, false_or, bIt, bIf, Bool.false_eq_true, reduceCtorEq]
      exact V.iret (by exact dX6_table_27) rfl rfl ⟨by rw [tableV, hr]; rfl, rfl, hc, fun _ _ => rfl⟩
    · refine V.iload_n dX6_table_14 rfl ?_
      refine V.i2l dX6_table_15 ?_
      refine V.lconst (v := 0) dX6_table_16 (by decide) ?_
      refine V.ldc2 dX6_table_17 cn_X6_277 ?_
      refine V.callSv [_, _, _] dX6_table_20 lk_X6_62 rfl (Nat.le_of_ble_eq_true rfl) (Nat.le_of_ble_eq_true rfl) (s6_isInC _ _ _ (nI 0) (nI 9) (by decide) (by decide) _ _) ?_
      refine V.if_neB (tgt := 28) dX6_table_23 (by decide) (fun c23 => ?_) (fun c23 => ?_)
      · obtain ⟨a, ha7, rfl⟩ := wi_ex (by decide) c4
        obtain ⟨c, hc7, rfl⟩ := wi_ex (by decide) c11
        refine V.aload_n dX6_table_28 rfl ?_
        refine V.getf dX6_table_29 fl_X6_22 hm0 rfl ?_
        refine V.iload_n dX6_table_32 rfl ?_
        refine V.ialdN dX6_table_33 h83 (by omega) (by decide) ?_
        refine V.if_eq (tgt := 46) dX6_table_34 (by decide) (fun c34 => ?_) (fun c34 => ?_)
        · refine V.bipush (v := -11) dX6_table_46 (by decide) ?_
          have hr : tabR K S (nI a) (nI c) fg = -11 := by
            (try simp only [i0] at c4 c11 c23 c34)
            simp only [tabR, clampI (show a < 2147483648 by omega), clampI (show c < 2147483648 by omega), not_true_eq_false, c4, c11, c23, eq_true c34, not_true_eq_false, not_false_eq_true, if_true, if_false, decide_true, decide_false, Bool.and_true, Bool.and_false, Bool.true_and, Bool.false_and, Bool.or_true, Bool.or_false, Bool.true_or, Bool.false_or, Bool.not_true, Bool.not_false, and_true, and_false, true_and, false_and, or_true, or_false, true_or, false_or, bIt, bIf, Bool.false_eq_true, reduceCtorEq]
          exact V.iret (by exact dX6_table_48) rfl rfl ⟨by rw [tableV, hr]; rfl, rfl, hc, fun _ _ => rfl⟩
        · refine V.aload_n dX6_table_37 rfl ?_
          refine V.getf dX6_table_38 fl_X6_22 hm0 rfl ?_
          refine V.iload_n dX6_table_41 rfl ?_
          refine V.ialdN dX6_table_42 h83 (by omega) (by decide) ?_
          refine V.if_ne (tgt := 49) dX6_table_43 (by decide) (fun c43 => ?_) (fun c43 => ?_)
          · refine V.aload_n dX6_table_49 rfl ?_
            refine V.getf dX6_table_50 fl_X6_22 hm0 rfl ?_
            refine V.iload_n dX6_table_53 rfl ?_
            refine V.ialdN dX6_table_54 h83 (by omega) (by decide) ?_
            refine V.iconst (v := nI 2) dX6_table_55 (by decide) ?_
            refine V.icmp_ne (tgt := 87) dX6_table_56 (by decide) (fun c56 => ?_) (fun c56 => ?_)
            · refine V.bipush (v := -12) dX6_table_87 (by decide) ?_
              have hr : tabR K S (nI a) (nI c) fg = -12 := by
                (try simp only [i0] at c4 c11 c23 c34 c43 c56)
                simp only [tabR, clampI (show a < 2147483648 by omega), clampI (show c < 2147483648 by omega), not_true_eq_false, c4, c11, c23, c34, c43, c56, not_true_eq_false, not_false_eq_true, if_true, if_false, decide_true, decide_false, Bool.and_true, Bool.and_false, Bool.true_and, Bool.false_and, Bool.or_true, Bool.or_false, Bool.true_or, Bool.false_or, Bool.not_true, Bool.not_false, and_true, and_false, true_and, false_and, or_true, or_false, true_or, false_or, bIt, bIf, Bool.false_eq_true, reduceCtorEq]
              exact V.iret (by exact dX6_table_89) rfl rfl ⟨by rw [tableV, hr]; rfl, rfl, hc, fun _ _ => rfl⟩
            · refine V.aload_n dX6_table_59 rfl ?_
              refine V.getf dX6_table_60 fl_X6_22 hm0 rfl ?_
              refine V.iload_n dX6_table_63 rfl ?_
              refine V.ialdN dX6_table_64 h83 (by omega) (by decide) ?_
              refine V.iconst (v := nI 2) dX6_table_65 (by decide) ?_
              refine V.icmp_ne (tgt := 87) dX6_table_66 (by decide) (fun c66 => ?_) (fun c66 => ?_)
              · refine V.bipush (v := -12) dX6_table_87 (by decide) ?_
                have hr : tabR K S (nI a) (nI c) fg = -12 := by
                  (try simp only [i0] at c4 c11 c23 c34 c43 c56 c66)
                  simp only [tabR, clampI (show a < 2147483648 by omega), clampI (show c < 2147483648 by omega), not_true_eq_false, c4, c11, c23, c34, c43, eq_true c56, c66, not_true_eq_false, not_false_eq_true, if_true, if_false, decide_true, decide_false, Bool.and_true, Bool.and_false, Bool.true_and, Bool.false_and, Bool.or_true, Bool.or_false, Bool.true_or, Bool.false_or, Bool.not_true, Bool.not_false, and_true, and_false, true_and, false_and, or_true, or_false, true_or, false_or, bIt, bIf, Bool.false_eq_true, reduceCtorEq]
                exact V.iret (by exact dX6_table_89) rfl rfl ⟨by rw [tableV, hr]; rfl, rfl, hc, fun _ _ => rfl⟩
              · refine V.aload_n dX6_table_69 rfl ?_
                refine V.getf dX6_table_70 fl_X6_25 hm0 rfl ?_
                refine V.iload_n dX6_table_73 rfl ?_
                refine V.ialdN dX6_table_74 h84 (by omega) (by decide) ?_
                refine V.if_ne (tgt := 87) dX6_table_75 (by decide) (fun c75 => ?_) (fun c75 => ?_)
                · refine V.bipush (v := -12) dX6_table_87 (by decide) ?_
                  have hr : tabR K S (nI a) (nI c) fg = -12 := by
                    (try simp only [i0] at c4 c11 c23 c34 c43 c56 c66 c75)
                    simp only [tabR, clampI (show a < 2147483648 by omega), clampI (show c < 2147483648 by omega), not_true_eq_false, c4, c11, c23, c34, c43, eq_true c56, eq_true c66, c75, not_true_eq_false, not_false_eq_true, if_true, if_false, decide_true, decide_false, Bool.and_true, Bool.and_false, Bool.true_and, Bool.false_and, Bool.or_true, Bool.or_false, Bool.true_or, Bool.false_or, Bool.not_true, Bool.not_false, and_true, and_false, true_and, false_and, or_true, or_false, true_or, false_or, bIt, bIf, Bool.false_eq_true, reduceCtorEq]
                  exact V.iret (by exact dX6_table_89) rfl rfl ⟨by rw [tableV, hr]; rfl, rfl, hc, fun _ _ => rfl⟩
                · refine V.aload_n dX6_table_78 rfl ?_
                  refine V.getf dX6_table_79 fl_X6_25 hm0 rfl ?_
                  refine V.iload_n dX6_table_82 rfl ?_
                  refine V.ialdN dX6_table_83 h84 (by omega) (by decide) ?_
                  refine V.if_eq (tgt := 90) dX6_table_84 (by decide) (fun c84 => ?_) (fun c84 => ?_)
                  · refine V.iconst (v := nI 0) dX6_table_90 (by decide) ?_
                    refine V.ist5 dX6_table_91 (by decide) rfl ?_
                    obtain ⟨-, ⟨s1, hs1, es1⟩⟩ := (hSI a (by omega)).2.2 c56
                    obtain ⟨-, ⟨s2, hs2, es2⟩⟩ := (hSI c (by omega)).2.2 c66
                    have hn1 : ¬ S 0 a = nI 0 := c34
                    have hn2 : ¬ S 0 c = nI 0 := c43
                    have k1 : (S 0 a = nI 2) = True := eq_true c56
                    have k2 : (S 0 c = nI 2) = True := eq_true c66
                    have k3 : (S 1 a = nI 0) = True := eq_true c75
                    have k4 : (S 1 c = nI 0) = True := eq_true c84
                    refine m_tab_1 l (d + 10) h n b th po ba en tt hm0 S h85 h86 a c ha7 hc7 fg z s1 hs1 es1 (fun d1 => ?_) (fun d1 => ⟨by
                      have hr : tabR K S (nI a) (nI c) fg = -13 := by
                        simp only [tabR, clampI (show a < 2147483648 by omega), clampI (show c < 2147483648 by omega), es1, es2, clampI (show s1 < 2147483648 by omega), clampI (show s2 < 2147483648 by omega), hn1, hn2, k1, k2, k3, k4, c4, c11, c23, d1, not_true_eq_false, not_false_eq_true, if_true, if_false, decide_true, decide_false, Bool.and_true, Bool.and_false, Bool.true_and, Bool.false_and, Bool.or_true, Bool.or_false, Bool.true_or, Bool.false_or, Bool.not_true, Bool.not_false, and_true, and_false, true_and, false_and, or_true, or_false, true_or, false_or, bIt, bIf, Bool.false_eq_true, reduceCtorEq]
                      rw [tableV, hr]; rfl, rfl, hc, fun _ _ => rfl⟩) s1 0 rfl (by omega)
                    refine V.iconst (v := nI 0) dX6_table_136 (by decide) ?_
                    refine V.ist5 dX6_table_137 (by decide) rfl ?_
                    refine m_tab_2 l (d + 10) h n b th po ba en tt hm0 S h85 h86 a c ha7 hc7 fg z s2 hs2 es2 (fun d2 => ?_) (fun d2 => ⟨by
                      have hr : tabR K S (nI a) (nI c) fg = -13 := by
                        simp only [tabR, clampI (show a < 2147483648 by omega), clampI (show c < 2147483648 by omega), es1, es2, clampI (show s1 < 2147483648 by omega), clampI (show s2 < 2147483648 by omega), hn1, hn2, k1, k2, k3, k4, c4, c11, c23, d1, d2, not_true_eq_false, not_false_eq_true, if_true, if_false, decide_true, decide_false, Bool.and_true, Bool.and_false, Bool.true_and, Bool.false_and, Bool.or_true, Bool.or_false, Bool.true_or, Bool.false_or, Bool.not_true, Bool.not_false, and_true, and_false, true_and, false_and, or_true, or_false, true_or, false_or, bIt, bIf, Bool.false_eq_true, reduceCtorEq]
                      rw [tableV, hr]; rfl, rfl, hc, fun _ _ => rfl⟩) s2 0 rfl (by omega)
                    refine V.aload_n dX6_table_182 rfl ?_
                    refine V.getf dX6_table_183 fl_X6_9 hm0 rfl ?_
                    refine V.bipush (v := nI 90) dX6_table_186 (by decide) ?_
                    refine V.ialdN dX6_table_188 ha (by omega) (by decide) ?_
                    refine V.if_ne (tgt := 195) dX6_table_189 (by decide) (fun c189 => ?_) (fun c189 => ?_)
                    · have hn3 : ¬ K 90 = nI 0 := c189
                      have hr : tabR K S (nI a) (nI c) fg = nI 0 := by
                        simp only [tabR, clampI (show a < 2147483648 by omega), clampI (show c < 2147483648 by omega), es1, es2, clampI (show s1 < 2147483648 by omega), clampI (show s2 < 2147483648 by omega), hn1, hn2, hn3, k1, k2, k3, k4, c4, c11, c23, d1, d2, not_true_eq_false, not_false_eq_true, if_true, if_false, decide_true, decide_false, Bool.and_true, Bool.and_false, Bool.true_and, Bool.false_and, Bool.or_true, Bool.or_false, Bool.true_or, Bool.false_or, Bool.not_true, Bool.not_false, and_true, and_false, true_and, false_and, or_true, or_false, true_or, false_or, bIt, bIf, Bool.false_eq_true, reduceCtorEq]
                      obtain ⟨q, hq10, hq, h89q⟩ := hT.2.2.1
                      refine V.hp (hset_id hmi).symm ?_
                      refine V.aload_n dX6_table_195 rfl ?_
                      refine V.iload dX6_table_196 rfl ?_
                      refine V.callVu [_] dX6_table_198 lk_X6_264 rfl (Nat.le_of_ble_eq_true rfl) (Nat.le_of_ble_eq_true rfl) (o_ne hm0 (by decide)) rfl (s6_opens _ _ _ _ K Km b th po ba en tt hm0 ha m hm hm10 (fun p hp => hT.2.1 p (by omega)) z) ?_
                      refine V.iconst (v := nI 0) dX6_table_201 (by decide) ?_
                      refine V.ist5 dX6_table_202 (by decide) rfl ?_
                      refine V.iload dX6_table_204 rfl ?_
                      refine V.iconst (v := nI 2) dX6_table_206 (by decide) ?_
                      refine V.icmp_ge (tgt := 319) dX6_table_207 (by decide) (fun q => absurd q (by decide)) (fun _ => ?_)
                      refine V.iload dX6_table_210 rfl ?_
                      refine V.if_ne (tgt := 219) dX6_table_212 (by decide) (fun q => absurd rfl q) (fun _ => ?_)
                      refine V.iload_n dX6_table_215 rfl ?_
                      refine V.goto (tgt := 220) dX6_table_216 (by decide) ?_
                      refine V.ist6 dX6_table_220 (by decide) rfl ?_
                      refine V.iconst (v := nI 0) dX6_table_222 (by decide) ?_
                      refine V.ist7 dX6_table_223 (by decide) rfl ?_
                      refine V.iconst (v := nI 0) dX6_table_225 (by decide) ?_
                      refine V.ist8 dX6_table_226 (by decide) rfl ?_
                      refine m_tab_g l _ h n b th po ba en tt hm0 K ha m hm hm10 S h85 h86 a c fg z 0 a (by omega) s1 (by omega) es1 m 0 0 _ ?_ (by omega) (by omega)
                      refine V.inN5 dX6_table_313 (by decide) rfl ?_
                      refine V.goto (tgt := 204) dX6_table_316 (by decide) ?_
                      refine V.iload dX6_table_204 rfl ?_
                      refine V.iconst (v := nI 2) dX6_table_206 (by decide) ?_
                      refine V.icmp_ge (tgt := 319) dX6_table_207 (by decide) (fun q => absurd q (by decide)) (fun _ => ?_)
                      refine V.iload dX6_table_210 rfl ?_
                      refine V.if_ne (tgt := 219) dX6_table_212 (by decide) (fun _ => ?_) (fun q => absurd q (by decide))
                      refine V.iload_n dX6_table_219 rfl ?_
                      refine V.ist6 dX6_table_220 (by decide) rfl ?_
                      refine V.iconst (v := nI 0) dX6_table_222 (by decide) ?_
                      refine V.ist7 dX6_table_223 (by decide) rfl ?_
                      refine V.iconst (v := nI 0) dX6_table_225 (by decide) ?_
                      refine V.ist8 dX6_table_226 (by decide) rfl ?_
                      refine m_tab_g l _ h n b th po ba en tt hm0 K ha m hm hm10 S h85 h86 a c fg z 1 c (by omega) s2 (by omega) es2 m 0 0 _ ?_ (by omega) (by omega)
                      refine V.inN5 dX6_table_313 (by decide) rfl ?_
                      refine V.goto (tgt := 204) dX6_table_316 (by decide) ?_
                      refine V.iload dX6_table_204 rfl ?_
                      refine V.iconst (v := nI 2) dX6_table_206 (by decide) ?_
                      refine V.icmp_ge (tgt := 319) dX6_table_207 (by decide) (fun _ => ?_) (fun q => absurd (by decide) q)
                      refine V.aload_n dX6_table_319 rfl ?_
                      have eG : gkL (nI 1) (fun k => S 3 (100 * c + k)) s2 fg m 0 0 (gkL (nI 0) (fun k => S 3 (100 * a + k)) s1 fg m 0 0 (bgn K m z)) = bgn (gk2 K m (fun k => S 3 (100 * a + k)) s1 (fun k => S 3 (100 * c + k)) s2 fg) m z := by rw [gk2, gk_bgn, gk_bgn]
                      have hDG : KD (bgn (gk2 K m (fun k => S 3 (100 * a + k)) s1 (fun k => S 3 (100 * c + k)) s2 fg) m z) m := KD_bgn (KD_gk d2 m 0 0 _ (KD_gk d1 m 0 0 _ hD)) z
                      refine V.hp (show _ = hset h 81 (kc (bgn (gk2 K m (fun k => S 3 (100 * a + k)) s1 (fun k => S 3 (100 * c + k)) s2 fg) m z)) by rw [← eG]) ?_
                      refine V.callVu [] dX6_table_320 lk_X6_268 rfl (Nat.le_of_ble_eq_true rfl) (Nat.le_of_ble_eq_true rfl) (o_ne hm0 (by decide)) rfl (s6_plays _ _ _ _ b th po ba en tt hm0 m q hq _ hDG rfl ((bgn_lo _ _ _ _ (by omega)).trans ((gk_lo _ _ _ _ _ (by omega) _ _ _ _).trans ((gk_lo _ _ _ _ _ (by omega) _ _ _ _).trans h89q)))) ?_
                      refine V.aload_n dX6_table_323 rfl ?_
                      refine V.getf dX6_table_324 fl_X6_16 (o_ne hm0 (by decide)) rfl ?_
                      refine V.bipush (v := nI 92) dX6_table_327 (by decide) ?_
                      refine V.ialdN dX6_table_329 (hset_self _ _ _) (by omega) (by decide) ?_
                      exact V.iret (by exact dX6_table_330) rfl rfl ⟨by rw [tableV, if_pos hr, clampI (show a < 2147483648 by omega), clampI (show c < 2147483648 by omega), es1, es2, clampI (show s1 < 2147483648 by omega), clampI (show s2 < 2147483648 by omega)]; rfl, rfl, hc.mi _, fun q hq => hset_ne _ _ (by omega)⟩
                    · refine V.bipush (v := -3) dX6_table_192 (by decide) ?_
                      have hn3 : (K 90 = nI 0) = True := eq_true c189
                      have hr : tabR K S (nI a) (nI c) fg = -3 := by
                        simp only [tabR, clampI (show a < 2147483648 by omega), clampI (show c < 2147483648 by omega), es1, es2, clampI (show s1 < 2147483648 by omega), clampI (show s2 < 2147483648 by omega), hn1, hn2, hn3, k1, k2, k3, k4, c4, c11, c23, d1, d2, not_true_eq_false, not_false_eq_true, if_true, if_false, decide_true, decide_false, Bool.and_true, Bool.and_false, Bool.true_and, Bool.false_and, Bool.or_true, Bool.or_false, Bool.true_or, Bool.false_or, Bool.not_true, Bool.not_false, and_true, and_false, true_and, false_and, or_true, or_false, true_or, false_or, bIt, bIf, Bool.false_eq_true, reduceCtorEq]
                      exact V.iret (by exact dX6_table_194) rfl rfl ⟨by rw [tableV, hr]; rfl, rfl, hc, fun _ _ => rfl⟩
                  · refine V.bipush (v := -12) dX6_table_87 (by decide) ?_
                    have hr : tabR K S (nI a) (nI c) fg = -12 := by
                      (try simp only [i0] at c4 c11 c23 c34 c43 c56 c66 c75 c84)
                      simp only [tabR, clampI (show a < 2147483648 by omega), clampI (show c < 2147483648 by omega), not_true_eq_false, c4, c11, c23, c34, c43, eq_true c56, eq_true c66, eq_true c75, c84, not_true_eq_false, not_false_eq_true, if_true, if_false, decide_true, decide_false, Bool.and_true, Bool.and_false, Bool.true_and, Bool.false_and, Bool.or_true, Bool.or_false, Bool.true_or, Bool.false_or, Bool.not_true, Bool.not_false, and_true, and_false, true_and, false_and, or_true, or_false, true_or, false_or, bIt, bIf, Bool.false_eq_true, reduceCtorEq]
                    exact V.iret (by exact dX6_table_89) rfl rfl ⟨by rw [tableV, hr]; rfl, rfl, hc, fun _ _ => rfl⟩
          · refine V.bipush (v := -11) dX6_table_46 (by decide) ?_
            have hr : tabR K S (nI a) (nI c) fg = -11 := by
              (try simp only [i0] at c4 c11 c23 c34 c43)
              simp only [tabR, clampI (show a < 2147483648 by omega), clampI (show c < 2147483648 by omega), not_true_eq_false, c4, c11, c23, c34, eq_true c43, not_true_eq_false, not_false_eq_true, if_true, if_false, decide_true, decide_false, Bool.and_true, Bool.and_false, Bool.true_and, Bool.false_and, Bool.or_true, Bool.or_false, Bool.true_or, Bool.false_or, Bool.not_true, Bool.not_false, and_true, and_false, true_and, false_and, or_true, or_false, true_or, false_or, bIt, bIf, Bool.false_eq_true, reduceCtorEq]
            exact V.iret (by exact dX6_table_48) rfl rfl ⟨by rw [tableV, hr]; rfl, rfl, hc, fun _ _ => rfl⟩
      · refine V.iconst (v := -1) dX6_table_26 (by decide) ?_
        have hr : tabR K S x y fg = -1 := by
          (try simp only [i0] at c4 c11 c23)
          simp only [tabR, not_true_eq_false, c4, c11, c23, not_true_eq_false, not_false_eq_true, if_true, if_false, decide_true, decide_false, Bool.and_true, Bool.and_false, Bool.true_and, Bool.false_and, Bool.or_true, Bool.or_false, Bool.true_or, Bool.false_or, Bool.not_true, Bool.not_false, and_true, and_false, true_and, false_and, or_true, or_false, true_or, false_or, bIt, bIf, Bool.false_eq_true, reduceCtorEq]
        exact V.iret (by exact dX6_table_27) rfl rfl ⟨by rw [tableV, hr]; rfl, rfl, hc, fun _ _ => rfl⟩
