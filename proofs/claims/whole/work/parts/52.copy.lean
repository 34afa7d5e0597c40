/-- which refusal of copy: 0 none -/
def cpyR (S : SS) (x i y j k : Int32) : Int32 :=
  if (wi x (nI 0) (nI 7) && wi y (nI 0) (nI 7)) = true then
    (if S 0 x.toNatClampNeg = nI 0 ∨ S 0 y.toNatClampNeg = nI 0 then -11 else if ¬ S 0 x.toNatClampNeg = nI 2 ∨ ¬ S 0 y.toNatClampNeg = nI 2 ∨ ¬ S 1 x.toNatClampNeg = S 1 y.toNatClampNeg then -12 else if (cpB (S 2 x.toNatClampNeg) i k && cpB (S 2 y.toNatClampNeg) j k) = true then nI 0 else -13) else -1
def copyV (S : SS) (x i y j k : Int32) : Int32 := if cpyR S x i y j k = nI 0 then k else cpyR S x i y j k
def copyU (S : SS) (x i y j k : Nat) : SS := fun v => if v = 3 then (fun t => if 100 * y + j ≤ t ∧ t < 100 * y + j + k then S 3 (100 * x + i + (t - (100 * y + j))) else S 3 t) else S v
def copyS (S : SS) (x i y j k : Int32) : SS := if cpyR S x i y j k = nI 0 then copyU S x.toNatClampNeg i.toNatClampNeg y.toNatClampNeg j.toNatClampNeg k.toNatClampNeg else S
theorem copy_ag (S : SS) (x i y j k : Nat) (hj : j + k ≤ 100) (t : Nat) (ht : t ≠ y) : SAg S (copyU S x i y j k) t := ⟨rfl, rfl, rfl, rfl, rfl, fun s hs => if_neg (by omega)⟩
set_option maxRecDepth 20000 in
set_option maxHeartbeats 4000000 in
theorem x_copy (l : Launch) (d : Nat) (h : MH) (n : Nat) (K : KK) (b : Bool) (KI : KK) (S : SS) (m : Nat) (hc : ClsAt h K b KI S) (hT : TI K m) (hSI : SI S) (x i y j k : Int32) : Sp l mX5_copy (d + 2) [.ref 0, .int x, .int i, .int y, .int j, .int k] h n 0 0 (Qx (copyV S x i y j k) K b KI (copyS S x i y j k) h n) := by
  have hD := hT.1
  have hm := hD.1.1
  have hm10 := hD.1.2.1
  obtain ⟨ht0, ⟨sq, hsq, esq⟩, ⟨cl, P, pn, hw, hPR⟩, ⟨Km, clm, Pm, pm, hwm⟩, ⟨KJ, clJ, PJ, pJ, hwJ, hJ⟩, ⟨rb, rx, ry, hrd⟩, hsc, ⟨co, hco⟩, ⟨se, hse⟩, hsh⟩ := id hc
  obtain ⟨hw0, ⟨gr, hgr, egr⟩, ⟨ru, hru, eru⟩, ⟨pq, hpf, epf⟩, hpl, ⟨fl, hfl, efl⟩, ⟨ca, hca, eca⟩, ⟨wa, hwa⟩, hpp, hhd⟩ := id hw
  show V _ _ _ _ [some (.ref 0), some (.int x), some (.int i), some (.int y), some (.int j), some (.int k), none, none] _ _ _ _ _ _
  refine V.iload_n dX5_copy_0 rfl ?_
  refine V.callSv [_] dX5_copy_1 lk_X5_191 rfl (Nat.le_of_ble_eq_true rfl) (Nat.le_of_ble_eq_true rfl) (s5_isShelf _ _ _ _ _) ?_
  refine V.if_eqB (tgt := 14) dX5_copy_4 (by decide) (fun c4 => ?_) (fun c4 => ?_)
  · refine V.iconst (v := -1) dX5_copy_14 (by decide) ?_
    have hr : cpyR S x i y j k = -1 := by
      (try simp only [i0] at c4)
      simp only [cpyR, not_true_eq_false, c4, not_true_eq_false, not_false_eq_true, if_true, if_false, decide_true, decide_false, Bool.and_true, Bool.and_false, Bool.true_and, Bool.false_and, Bool.or_true, Bool.or_false, Bool.true_or, Bool.false_or, Bool.not_true, Bool.not_false, and_true, and_false, true_and, false_and, or_true, or_false, true_or, false_or, bIt, bIf, Bool.false_eq_true, reduceCtorEq]
    exact V.iret (by exact dX5_copy_15) rfl rfl ⟨by rw [copyV, hr]; rfl, rfl, by rw [copyS, hr, if_neg (by decide)]; exact hc, fun _ _ => rfl⟩
  · refine V.iload_n dX5_copy_7 rfl ?_
    refine V.callSv [_] dX5_copy_8 lk_X5_191 rfl (Nat.le_of_ble_eq_true rfl) (Nat.le_of_ble_eq_true rfl) (s5_isShelf _ _ _ _ _) ?_
    refine V.if_neB (tgt := 16) dX5_copy_11 (by decide) (fun c11 => ?_) (fun c11 => ?_)
    · obtain ⟨a, ha7, rfl⟩ := wi_ex (by decide) c4
      obtain ⟨c, hc7, rfl⟩ := wi_ex (by decide) c11
      obtain ⟨kd, fg, so, sz, el, hS, hE, hR, hW⟩ := hsh a (by omega)
      obtain ⟨kd2, fg2, so2, sz2, el2, hS2, hE2, hR2, hW2⟩ := hsh c (by omega)
      refine V.aload_n dX5_copy_16 rfl ?_
      refine V.getf dX5_copy_17 fl_X5_11 ht0 rfl ?_
      refine V.iload_n dX5_copy_20 rfl ?_
      refine V.aaldN dX5_copy_21 (Or.inr rfl) hsq (by omega) (by decide) (esq _ (by omega)) ?_
      refine V.ast6 dX5_copy_22 (by decide) rfl ?_
      refine V.aload_n dX5_copy_24 rfl ?_
      refine V.getf dX5_copy_25 fl_X5_11 ht0 rfl ?_
      refine V.iload_n dX5_copy_28 rfl ?_
      refine V.aaldN dX5_copy_29 (Or.inr rfl) hsq (by omega) (by decide) (esq _ (by omega)) ?_
      refine V.ast7 dX5_copy_30 (by decide) rfl ?_
      refine V.aload dX5_copy_32 rfl ?_
      refine V.getf dX5_copy_34 fl_X5_197 hS rfl ?_
      refine V.if_eq (tgt := 48) dX5_copy_37 (by decide) (fun c37 => ?_) (fun c37 => ?_)
      · refine V.bipush (v := -11) dX5_copy_48 (by decide) ?_
        have hr : cpyR S (nI a) i (nI c) j k = -11 := by
          (try simp only [i0] at c4 c11 c37)
          simp only [cpyR, clampI (show a < 2147483648 by omega), clampI (show c < 2147483648 by omega), not_true_eq_false, c4, c11, eq_true c37, not_true_eq_false, not_false_eq_true, if_true, if_false, decide_true, decide_false, Bool.and_true, Bool.and_false, Bool.true_and, Bool.false_and, Bool.or_true, Bool.or_false, Bool.true_or, Bool.false_or, Bool.not_true, Bool.not_false, and_true, and_false, true_and, false_and, or_true, or_false, true_or, false_or, bIt, bIf, Bool.false_eq_true, reduceCtorEq]
        exact V.iret (by exact dX5_copy_50) rfl rfl ⟨by rw [copyV, hr]; rfl, rfl, by rw [copyS, hr, if_neg (by decide)]; exact hc, fun _ _ => rfl⟩
      · refine V.aload dX5_copy_40 rfl ?_
        refine V.getf dX5_copy_42 fl_X5_197 hS2 rfl ?_
        refine V.if_ne (tgt := 51) dX5_copy_45 (by decide) (fun c45 => ?_) (fun c45 => ?_)
        · refine V.aload dX5_copy_51 rfl ?_
          refine V.getf dX5_copy_53 fl_X5_197 hS rfl ?_
          refine V.iconst (v := nI 2) dX5_copy_56 (by decide) ?_
          refine V.icmp_ne (tgt := 82) dX5_copy_57 (by decide) (fun c57 => ?_) (fun c57 => ?_)
          · refine V.bipush (v := -12) dX5_copy_82 (by decide) ?_
            have hr : cpyR S (nI a) i (nI c) j k = -12 := by
              (try simp only [i0] at c4 c11 c37 c45 c57)
              simp only [cpyR, clampI (show a < 2147483648 by omega), clampI (show c < 2147483648 by omega), not_true_eq_false, c4, c11, c37, c45, c57, not_true_eq_false, not_false_eq_true, if_true, if_false, decide_true, decide_false, Bool.and_true, Bool.and_false, Bool.true_and, Bool.false_and, Bool.or_true, Bool.or_false, Bool.true_or, Bool.false_or, Bool.not_true, Bool.not_false, and_true, and_false, true_and, false_and, or_true, or_false, true_or, false_or, bIt, bIf, Bool.false_eq_true, reduceCtorEq]
            exact V.iret (by exact dX5_copy_84) rfl rfl ⟨by rw [copyV, hr]; rfl, rfl, by rw [copyS, hr, if_neg (by decide)]; exact hc, fun _ _ => rfl⟩
          · refine V.aload dX5_copy_60 rfl ?_
            refine V.getf dX5_copy_62 fl_X5_197 hS2 rfl ?_
            refine V.iconst (v := nI 2) dX5_copy_65 (by decide) ?_
            refine V.icmp_ne (tgt := 82) dX5_copy_66 (by decide) (fun c66 => ?_) (fun c66 => ?_)
            · refine V.bipush (v := -12) dX5_copy_82 (by decide) ?_
              have hr : cpyR S (nI a) i (nI c) j k = -12 := by
                (try simp only [i0] at c4 c11 c37 c45 c57 c66)
                simp only [cpyR, clampI (show a < 2147483648 by omega), clampI (show c < 2147483648 by omega), not_true_eq_false, c4, c11, c37, c45, eq_true c57, c66, not_true_eq_false, not_false_eq_true, if_true, if_false, decide_true, decide_false, Bool.and_true, Bool.and_false, Bool.true_and, Bool.false_and, Bool.or_true, Bool.or_false, Bool.true_or, Bool.false_or, Bool.not_true, Bool.not_false, and_true, and_false, true_and, false_and, or_true, or_false, true_or, false_or, bIt, bIf, Bool.false_eq_true, reduceCtorEq]
              exact V.iret (by exact dX5_copy_84) rfl rfl ⟨by rw [copyV, hr]; rfl, rfl, by rw [copyS, hr, if_neg (by decide)]; exact hc, fun _ _ => rfl⟩
            · obtain ⟨rfl, rfl, hel⟩ := hW c57
              obtain ⟨rfl, rfl, hel2⟩ := hW2 c66
              refine V.aload dX5_copy_69 rfl ?_
              refine V.getf dX5_copy_71 fl_X5_290 hS rfl ?_
              refine V.aload dX5_copy_74 rfl ?_
              refine V.getf dX5_copy_76 fl_X5_290 hS2 rfl ?_
              refine V.icmp_eq (tgt := 85) dX5_copy_79 (by decide) (fun c79 => ?_) (fun c79 => ?_)
              · obtain ⟨-, ⟨s1, hsz1, es1⟩⟩ := (hSI a (by omega)).2.2 c57
                obtain ⟨-, ⟨s2, hsz2, es2⟩⟩ := (hSI c (by omega)).2.2 c66
                rw [es1] at hS
                rw [es2] at hS2
                have hn1 : ¬ S 0 a = nI 0 := c37
                have hn2 : ¬ S 0 c = nI 0 := c45
                refine V.aload dX5_copy_85 rfl ?_
                refine V.iload_n dX5_copy_87 rfl ?_
                refine V.iload dX5_copy_88 rfl ?_
                refine V.callVv [_, _] dX5_copy_90 lk_X5_271 rfl (Nat.le_of_ble_eq_true rfl) (Nat.le_of_ble_eq_true rfl) hS rfl (s3_hasPlaces _ _ _ _ _ _ _ _ _ _ _ hS _ _) ?_
                change V _ _ _ _ _ (.int (bI (cpB (nI s1) i k)) :: _) _ _ _ _ _
                refine V.if_eqB (tgt := 108) dX5_copy_93 (by decide) (fun c93 => ?_) (fun c93 => ?_)
                · refine V.bipush (v := -13) dX5_copy_108 (by decide) ?_
                  have hr : cpyR S (nI a) i (nI c) j k = -13 := by
                    simp only [cpyR, clampI (show a < 2147483648 by omega), clampI (show c < 2147483648 by omega), es1, es2, hn1, hn2, c4, c11, c37, c45, eq_true c57, eq_true c66, eq_true c79, c93, not_true_eq_false, not_false_eq_true, if_true, if_false, decide_true, decide_false, Bool.and_true, Bool.and_false, Bool.true_and, Bool.false_and, Bool.or_true, Bool.or_false, Bool.true_or, Bool.false_or, Bool.not_true, Bool.not_false, and_true, and_false, true_and, false_and, or_true, or_false, true_or, false_or, bIt, bIf, Bool.false_eq_true, reduceCtorEq]
                  exact V.iret (by exact dX5_copy_110) rfl rfl ⟨by rw [copyV, hr]; rfl, rfl, by rw [copyS, hr, if_neg (by decide)]; exact hc, fun _ _ => rfl⟩
                · refine V.aload dX5_copy_96 rfl ?_
                  refine V.iload dX5_copy_98 rfl ?_
                  refine V.iload dX5_copy_100 rfl ?_
                  refine V.callVv [_, _] dX5_copy_102 lk_X5_271 rfl (Nat.le_of_ble_eq_true rfl) (Nat.le_of_ble_eq_true rfl) hS2 rfl (s3_hasPlaces _ _ _ _ _ _ _ _ _ _ _ hS2 _ _) ?_
                  change V _ _ _ _ _ (.int (bI (cpB (nI s2) j k)) :: _) _ _ _ _ _
                  refine V.if_neB (tgt := 111) dX5_copy_105 (by decide) (fun c105 => ?_) (fun c105 => ?_)
                  · have hr : cpyR S (nI a) i (nI c) j k = nI 0 := by
                      simp only [cpyR, clampI (show a < 2147483648 by omega), clampI (show c < 2147483648 by omega), es1, es2, hn1, hn2, c4, c11, c37, c45, eq_true c57, eq_true c66, eq_true c79, c93, c105, not_true_eq_false, not_false_eq_true, if_true, if_false, decide_true, decide_false, Bool.and_true, Bool.and_false, Bool.true_and, Bool.false_and, Bool.or_true, Bool.or_false, Bool.true_or, Bool.false_or, Bool.not_true, Bool.not_false, and_true, and_false, true_and, false_and, or_true, or_false, true_or, false_or, bIt, bIf, Bool.false_eq_true, reduceCtorEq]
                    obtain ⟨a1, k1, rfl, rfl, hs1⟩ := cp_ex hsz1 c93
                    obtain ⟨a2, k2, rfl, ek, hs2⟩ := cp_ex hsz2 c105
                    have ek2 : k1 = k2 := (nI_eq (by omega) (by omega)).mp ek
                    subst ek2
                    refine V.aload dX5_copy_111 rfl ?_
                    refine V.getf dX5_copy_113 fl_X5_179 hS rfl ?_
                    refine V.iload_n dX5_copy_116 rfl ?_
                    refine V.aload dX5_copy_117 rfl ?_
                    refine V.getf dX5_copy_119 fl_X5_179 hS2 rfl ?_
                    refine V.iload dX5_copy_122 rfl ?_
                    refine V.iload dX5_copy_124 rfl ?_
                    refine V.copyi dX5_copy_126 wc_X5_293 w_acn w_acs w_sys (by omega) (Nat.le_of_ble_eq_true rfl) hE hE2 (nI_pos (by omega)) (nI_pos (by omega)) (nI_pos (by omega)) (by rw [clampI (show a1 < 2147483648 by omega), clampI (show k1 < 2147483648 by omega)]; omega) (by rw [clampI (show a2 < 2147483648 by omega), clampI (show k1 < 2147483648 by omega)]; omega) ?_
                    rw [clampI (show a1 < 2147483648 by omega), clampI (show a2 < 2147483648 by omega), clampI (show k1 < 2147483648 by omega)]
                    refine V.iload dX5_copy_129 rfl ?_
                    refine V.iret (by exact dX5_copy_131) rfl rfl ⟨by rw [copyV, if_pos hr], rfl, ?_, fun q hq => hset_ne _ _ (by omega)⟩
                    rw [copyS, if_pos hr, clampI (show a < 2147483648 by omega), clampI (show a1 < 2147483648 by omega), clampI (show c < 2147483648 by omega), clampI (show a2 < 2147483648 by omega), clampI (show k1 < 2147483648 by omega)]
                    refine hc.shelf (by omega) ⟨kd2, fg2, S 1 c, nI s2, va_cpy el el2 a1 a2 k1, o_ne hS2 (by omega), hset_self _ _ _, hR2, fun _ => ⟨rfl, es2.symm, fun t ht => ?_⟩⟩ (fun t _ ht => copy_ag S a a1 c a2 k1 (by omega) t ht) (fun q q1 q2 => hset_ne _ _ q2)
                    show va_cpy el el2 a1 a2 k1 t = (if 100 * c + a2 ≤ 100 * c + t ∧ 100 * c + t < 100 * c + a2 + k1 then S 3 (100 * a + a1 + (100 * c + t - (100 * c + a2))) else S 3 (100 * c + t))
                    unfold va_cpy
                    by_cases y : a2 ≤ t ∧ t < a2 + k1
                    · rw [if_pos y, if_pos (by omega), hel _ (by omega)]
                      congr 1
                      omega
                    · rw [if_neg y, if_neg (by omega), hel2 _ ht]
                  · refine V.bipush (v := -13) dX5_copy_108 (by decide) ?_
                    have hr : cpyR S (nI a) i (nI c) j k = -13 := by
                      simp only [cpyR, clampI (show a < 2147483648 by omega), clampI (show c < 2147483648 by omega), es1, es2, hn1, hn2, c4, c11, c37, c45, eq_true c57, eq_true c66, eq_true c79, c93, c105, not_true_eq_false, not_false_eq_true, if_true, if_false, decide_true, decide_false, Bool.and_true, Bool.and_false, Bool.true_and, Bool.false_and, Bool.or_true, Bool.or_false, Bool.true_or, Bool.false_or, Bool.not_true, Bool.not_false, and_true, and_false, true_and, false_and, or_true, or_false, true_or, false_or, bIt, bIf, Bool.false_eq_true, reduceCtorEq]
                    exact V.iret (by exact dX5_copy_110) rfl rfl ⟨by rw [copyV, hr]; rfl, rfl, by rw [copyS, hr, if_neg (by decide)]; exact hc, fun _ _ => rfl⟩
              · refine V.bipush (v := -12) dX5_copy_82 (by decide) ?_
                have hr : cpyR S (nI a) i (nI c) j k = -12 := by
                  (try simp only [i0] at c4 c11 c37 c45 c57 c66 c79)
                  simp only [cpyR, clampI (show a < 2147483648 by omega), clampI (show c < 2147483648 by omega), not_true_eq_false, c4, c11, c37, c45, eq_true c57, eq_true c66, c79, not_true_eq_false, not_false_eq_true, if_true, if_false, decide_true, decide_false, Bool.and_true, Bool.and_false, Bool.true_and, Bool.false_and, Bool.or_true, Bool.or_false, Bool.true_or, Bool.false_or, Bool.not_true, Bool.not_false, and_true, and_false, true_and, false_and, or_true, or_false, true_or, false_or, bIt, bIf, Bool.false_eq_true, reduceCtorEq]
                exact V.iret (by exact dX5_copy_84) rfl rfl ⟨by rw [copyV, hr]; rfl, rfl, by rw [copyS, hr, if_neg (by decide)]; exact hc, fun _ _ => rfl⟩
        · refine V.bipush (v := -11) dX5_copy_48 (by decide) ?_
          have hr : cpyR S (nI a) i (nI c) j k = -11 := by
            (try simp only [i0] at c4 c11 c37 c45)
            simp only [cpyR, clampI (show a < 2147483648 by omega), clampI (show c < 2147483648 by omega), not_true_eq_false, c4, c11, c37, eq_true c45, not_true_eq_false, not_false_eq_true, if_true, if_false, decide_true, decide_false, Bool.and_true, Bool.and_false, Bool.true_and, Bool.false_and, Bool.or_true, Bool.or_false, Bool.true_or, Bool.false_or, Bool.not_true, Bool.not_false, and_true, and_false, true_and, false_and, or_true, or_false, true_or, false_or, bIt, bIf, Bool.false_eq_true, reduceCtorEq]
          exact V.iret (by exact dX5_copy_50) rfl rfl ⟨by rw [copyV, hr]; rfl, rfl, by rw [copyS, hr, if_neg (by decide)]; exact hc, fun _ _ => rfl⟩
    · refine V.iconst (v := -1) dX5_copy_14 (by decide) ?_
      have hr : cpyR S x i y j k = -1 := by
        (try simp only [i0] at c4 c11)
        simp only [cpyR, not_true_eq_false, c4, c11, not_true_eq_false, not_false_eq_true, if_true, if_false, decide_true, decide_false, Bool.and_true, Bool.and_false, Bool.true_and, Bool.false_and, Bool.or_true, Bool.or_false, Bool.true_or, Bool.false_or, Bool.not_true, Bool.not_false, and_true, and_false, true_and, false_and, or_true, or_false, true_or, false_or, bIt, bIf, Bool.false_eq_true, reduceCtorEq]
      exact V.iret (by exact dX5_copy_15) rfl rfl ⟨by rw [copyV, hr]; rfl, rfl, by rw [copyS, hr, if_neg (by decide)]; exact hc, fun _ _ => rfl⟩
set_option maxRecDepth 20000 in
set_option maxHeartbeats 4000000 in
theorem m_copy_up (l : Launch) (d : Nat) (h : MH) (n : Nat) (b : Bool) (th po ba en tt : Int32) (hm0 : h 78 = some (.inr (6, moF b th po ba en tt))) (S3 : Nat → Int32) (a i c j k : Nat) (ha : a ≤ 7) (hc : c ≤ 7) (hi : i + k ≤ 100) (hj : j + k ≤ 100) (hij : j < i) {Q : Option Value → MH → Nat → Prop} (kk : V l mX6_copy d 184 [some (.ref 78), some (.int (nI a)), some (.int (nI i)), some (.int (nI c)), some (.int (nI j)), some (.int (nI k)), none, none] [] (hset h 86 (.inl (0, 800, .inl (fun u => if 100 * c + j ≤ u ∧ u < 100 * c + j + k then S3 (100 * a + i + (u - (100 * c + j))) else S3 u)))) n 0 0 Q) : ∀ (r t : Nat) (X : Nat → Int32), (∀ u, X u = if 100 * c + j ≤ u ∧ u < 100 * c + j + t then S3 (100 * a + i + (u - (100 * c + j))) else S3 u) → t + r = k → V l mX6_copy d 122 [some (.ref 78), some (.int (nI a)), some (.int (nI i)), some (.int (nI c)), some (.int (nI j)), some (.int (nI k)), some (.int (nI t)), none] [] (hset h 86 (.inl (0, 800, .inl X))) n 0 0 Q := by
  intro r
  induction r with
  | zero =>
    intro t X hX ht
    refine V.iload dX6_copy_122 rfl ?_
    refine V.iload dX6_copy_124 rfl ?_
    refine V.icmp_geN (tgt := 184) dX6_copy_126 (by decide) (by omega) (by omega) (fun _ => ?_) (fun q => absurd q (by omega))
    refine V.drop 6 (V.ext (g := fun u => if 100 * c + j ≤ u ∧ u < 100 * c + j + k then S3 (100 * a + i + (u - (100 * c + j))) else S3 u) (hset_self _ _ _) (fun u hu => ?_) ?_)
    · rw [hX, show t = k by omega]
    · rw [hset_hset]; exact kk
  | succ r ih =>
    intro t X hX ht
    refine V.iload dX6_copy_122 rfl ?_
    refine V.iload dX6_copy_124 rfl ?_
    refine V.icmp_geN (tgt := 184) dX6_copy_126 (by decide) (by omega) (by omega) (fun q => absurd q (by omega)) (fun _ => ?_)
    refine V.iload_n dX6_copy_129 rfl ?_
    refine V.iload dX6_copy_130 rfl ?_
    refine V.icmp_leN (tgt := 140) dX6_copy_132 (by decide) (by omega) (by omega) (fun q => absurd q (by omega)) (fun _ => ?_)
    refine V.iload dX6_copy_135 rfl ?_
    refine V.goto (tgt := 147) dX6_copy_137 (by decide) ?_
    refine V.ist7 dX6_copy_147 (by decide) rfl ?_
    refine V.aload_n dX6_copy_149 rfl ?_
    refine V.getf dX6_copy_150 fl_X6_31 (o_ne hm0 (by decide)) rfl ?_
    refine V.bipush (v := nI 100) dX6_copy_153 (by decide) ?_
    refine V.iload_n dX6_copy_155 rfl ?_
    refine V.imulN dX6_copy_156 ?_
    refine V.iload dX6_copy_157 rfl ?_
    refine V.iaddN dX6_copy_159 ?_
    refine V.iload dX6_copy_160 rfl ?_
    refine V.iaddN dX6_copy_162 ?_
    refine V.aload_n dX6_copy_163 rfl ?_
    refine V.getf dX6_copy_164 fl_X6_31 (o_ne hm0 (by decide)) rfl ?_
    refine V.bipush (v := nI 100) dX6_copy_167 (by decide) ?_
    refine V.iload_n dX6_copy_169 rfl ?_
    refine V.imulN dX6_copy_170 ?_
    refine V.iload_n dX6_copy_171 rfl ?_
    refine V.iaddN dX6_copy_172 ?_
    refine V.iload dX6_copy_173 rfl ?_
    refine V.iaddN dX6_copy_175 ?_
    refine V.ialdN dX6_copy_176 (hset_self _ _ _) (by omega) (by decide) ?_
    refine V.iastN dX6_copy_177 (hset_self _ _ _) (by omega) (by decide) ?_
    rw [hset_hset]
    refine V.inN6 dX6_copy_178 (by decide) rfl ?_
    refine V.goto (tgt := 122) dX6_copy_181 (by decide) ?_
    rw [hX (100 * a + i + t), if_neg (by omega)]
    refine V.drop 7 (ih (t + 1) _ (fun u => ?_) (by omega))
    by_cases y : u = 100 * c + j + t
    · subst y
      rw [pk_us, if_pos (by omega)]
      congr 1
      omega
    · rw [pk_un y, hX]
      have e : (100 * c + j ≤ u ∧ u < 100 * c + j + (t + 1)) ↔ (100 * c + j ≤ u ∧ u < 100 * c + j + t) := by omega
      simp only [e]
set_option maxRecDepth 20000 in
set_option maxHeartbeats 4000000 in
theorem m_copy_dn (l : Launch) (d : Nat) (h : MH) (n : Nat) (b : Bool) (th po ba en tt : Int32) (hm0 : h 78 = some (.inr (6, moF b th po ba en tt))) (S3 : Nat → Int32) (a i c j k : Nat) (ha : a ≤ 7) (hc : c ≤ 7) (hi : i + k ≤ 100) (hj : j + k ≤ 100) (hij : i ≤ j) {Q : Option Value → MH → Nat → Prop} (kk : V l mX6_copy d 184 [some (.ref 78), some (.int (nI a)), some (.int (nI i)), some (.int (nI c)), some (.int (nI j)), some (.int (nI k)), none, none] [] (hset h 86 (.inl (0, 800, .inl (fun u => if 100 * c + j ≤ u ∧ u < 100 * c + j + k then S3 (100 * a + i + (u - (100 * c + j))) else S3 u)))) n 0 0 Q) : ∀ (r t : Nat) (X : Nat → Int32), (∀ u, X u = if 100 * c + j + k - t ≤ u ∧ u < 100 * c + j + k then S3 (100 * a + i + (u - (100 * c + j))) else S3 u) → t + r = k → V l mX6_copy d 122 [some (.ref 78), some (.int (nI a)), some (.int (nI i)), some (.int (nI c)), some (.int (nI j)), some (.int (nI k)), some (.int (nI t)), none] [] (hset h 86 (.inl (0, 800, .inl X))) n 0 0 Q := by
  intro r
  induction r with
  | zero =>
    intro t X hX ht
    refine V.iload dX6_copy_122 rfl ?_
    refine V.iload dX6_copy_124 rfl ?_
    refine V.icmp_geN (tgt := 184) dX6_copy_126 (by decide) (by omega) (by omega) (fun _ => ?_) (fun q => absurd q (by omega))
    refine V.drop 6 (V.ext (g := fun u => if 100 * c + j ≤ u ∧ u < 100 * c + j + k then S3 (100 * a + i + (u - (100 * c + j))) else S3 u) (hset_self _ _ _) (fun u hu => ?_) ?_)
    · rw [hX, show t = k by omega]
      rw [show 100 * c + j + k - k = 100 * c + j by omega]
    · rw [hset_hset]; exact kk
  | succ r ih =>
    intro t X hX ht
    refine V.iload dX6_copy_122 rfl ?_
    refine V.iload dX6_copy_124 rfl ?_
    refine V.icmp_geN (tgt := 184) dX6_copy_126 (by decide) (by omega) (by omega) (fun q => absurd q (by omega)) (fun _ => ?_)
    refine V.iload_n dX6_copy_129 rfl ?_
    refine V.iload dX6_copy_130 rfl ?_
    refine V.icmp_leN (tgt := 140) dX6_copy_132 (by decide) (by omega) (by omega) (fun _ => ?_) (fun q => absurd q (by omega))
    refine V.iload dX6_copy_140 rfl ?_
    refine V.iconst (v := nI 1) dX6_copy_142 (by decide) ?_
    refine V.isubN dX6_copy_143 (by omega) ?_
    refine V.iload dX6_copy_144 rfl ?_
    refine V.isubN dX6_copy_146 (by omega) ?_
    refine V.ist7 dX6_copy_147 (by decide) rfl ?_
    refine V.aload_n dX6_copy_149 rfl ?_
    refine V.getf dX6_copy_150 fl_X6_31 (o_ne hm0 (by decide)) rfl ?_
    refine V.bipush (v := nI 100) dX6_copy_153 (by decide) ?_
    refine V.iload_n dX6_copy_155 rfl ?_
    refine V.imulN dX6_copy_156 ?_
    refine V.iload dX6_copy_157 rfl ?_
    refine V.iaddN dX6_copy_159 ?_
    refine V.iload dX6_copy_160 rfl ?_
    refine V.iaddN dX6_copy_162 ?_
    refine V.aload_n dX6_copy_163 rfl ?_
    refine V.getf dX6_copy_164 fl_X6_31 (o_ne hm0 (by decide)) rfl ?_
    refine V.bipush (v := nI 100) dX6_copy_167 (by decide) ?_
    refine V.iload_n dX6_copy_169 rfl ?_
    refine V.imulN dX6_copy_170 ?_
    refine V.iload_n dX6_copy_171 rfl ?_
    refine V.iaddN dX6_copy_172 ?_
    refine V.iload dX6_copy_173 rfl ?_
    refine V.iaddN dX6_copy_175 ?_
    refine V.ialdN dX6_copy_176 (hset_self _ _ _) (by omega) (by decide) ?_
    refine V.iastN dX6_copy_177 (hset_self _ _ _) (by omega) (by decide) ?_
    rw [hset_hset]
    refine V.inN6 dX6_copy_178 (by decide) rfl ?_
    refine V.goto (tgt := 122) dX6_copy_181 (by decide) ?_
    rw [hX (100 * a + i + (k - 1 - t)), if_neg (by omega)]
    refine V.drop 7 (ih (t + 1) _ (fun u => ?_) (by omega))
    by_cases y : u = 100 * c + j + (k - 1 - t)
    · subst y
      rw [pk_us, if_pos (by omega)]
      congr 1
      omega
    · rw [pk_un y, hX]
      have e : (100 * c + j + k - (t + 1) ≤ u ∧ u < 100 * c + j + k) ↔ (100 * c + j + k - t ≤ u ∧ u < 100 * c + j + k) := by omega
      simp only [e]
set_option maxRecDepth 20000 in
set_option maxHeartbeats 4000000 in
theorem m_copy (l : Launch) (d : Nat) (h : MH) (n : Nat) (K : KK) (b : Bool) (KI : KK) (S : SS) (m : Nat) (hc : ModAt h K b KI S) (hT : TI K m) (hSI : SI S) (x i y j k : Int32) : Sp l mX6_copy (d + 2) [.ref 78, .int x, .int i, .int y, .int j, .int k] h n 0 0 (Qm (copyV S x i y j k) K b KI (copyS S x i y j k) h n) := by
  have hD := hT.1
  have hm := hD.1.1
  have hm10 := hD.1.2.1
  obtain ⟨⟨th, po, ba, en, tt, hm0⟩, ha, hb, ⟨Km, hmi⟩, ⟨Kr, hre⟩, h83, h84, h85, h86, h87, h88, ⟨X89, h89⟩, ⟨X90, h90⟩, ⟨X91, h91⟩, ⟨X92, h92⟩⟩ := id hc
  show V _ _ _ _ [some (.ref 78), some (.int x), some (.int i), some (.int y), some (.int j), some (.int k), none, none] _ _ _ _ _ _
  refine V.iload_n dX6_copy_0 rfl ?_
  refine V.callSv [_] dX6_copy_1 lk_X6_157 rfl (Nat.le_of_ble_eq_true rfl) (Nat.le_of_ble_eq_true rfl) (s6_isShelf _ _ _ _ _) ?_
  refine V.if_eqB (tgt := 14) dX6_copy_4 (by decide) (fun c4 => ?_) (fun c4 => ?_)
  · refine V.iconst (v := -1) dX6_copy_14 (by decide) ?_
    have hr : cpyR S x i y j k = -1 := by
      (try simp only [i0] at c4)
      simp only [cpyR, not_true_eq_false, c4, not_true_eq_false, not_false_eq_true, if_true, if_false, decide_true, decide_false, Bool.and_true, Bool.and_false, Bool.true_and, Bool.false_and, Bool.or_true, Bool.or_false, Bool.true_or, Bool.false_or, Bool.not_true, Bool.not_false, and_true, and_false, true_and, false_and, or_true, or_false, true_or, false_or, bIt, bIf, Bool.false_eq_true, reduceCtorEq]
    exact V.iret (by exact dX6_copy_15) rfl rfl ⟨by rw [copyV, hr]; rfl, rfl, by rw [copyS, hr, if_neg (by decide)]; exact hc, fun _ _ => rfl⟩
  · refine V.iload_n dX6_copy_7 rfl ?_
    refine V.callSv [_] dX6_copy_8 lk_X6_157 rfl (Nat.le_of_ble_eq_true rfl) (Nat.le_of_ble_eq_true rfl) (s6_isShelf _ _ _ _ _) ?_
    refine V.if_neB (tgt := 16) dX6_copy_11 (by decide) (fun c11 => ?_) (fun c11 => ?_)
    · obtain ⟨a, ha7, rfl⟩ := wi_ex (by decide) c4
      obtain ⟨c, hc7, rfl⟩ := wi_ex (by decide) c11
      refine V.aload_n dX6_copy_16 rfl ?_
      refine V.getf dX6_copy_17 fl_X6_22 hm0 rfl ?_
      refine V.iload_n dX6_copy_20 rfl ?_
      refine V.ialdN dX6_copy_21 h83 (by omega) (by decide) ?_
      refine V.if_eq (tgt := 34) dX6_copy_22 (by decide) (fun c22 => ?_) (fun c22 => ?_)
      · refine V.bipush (v := -11) dX6_copy_34 (by decide) ?_
        have hr : cpyR S (nI a) i (nI c) j k = -11 := by
          (try simp only [i0] at c4 c11 c22)
          simp only [cpyR, clampI (show a < 2147483648 by omega), clampI (show c < 2147483648 by omega), not_true_eq_false, c4, c11, eq_true c22, not_true_eq_false, not_false_eq_true, if_true, if_false, decide_true, decide_false, Bool.and_true, Bool.and_false, Bool.true_and, Bool.false_and, Bool.or_true, Bool.or_false, Bool.true_or, Bool.false_or, Bool.not_true, Bool.not_false, and_true, and_false, true_and, false_and, or_true, or_false, true_or, false_or, bIt, bIf, Bool.false_eq_true, reduceCtorEq]
        exact V.iret (by exact dX6_copy_36) rfl rfl ⟨by rw [copyV, hr]; rfl, rfl, by rw [copyS, hr, if_neg (by decide)]; exact hc, fun _ _ => rfl⟩
      · refine V.aload_n dX6_copy_25 rfl ?_
        refine V.getf dX6_copy_26 fl_X6_22 hm0 rfl ?_
        refine V.iload_n dX6_copy_29 rfl ?_
        refine V.ialdN dX6_copy_30 h83 (by omega) (by decide) ?_
        refine V.if_ne (tgt := 37) dX6_copy_31 (by decide) (fun c31 => ?_) (fun c31 => ?_)
        · refine V.aload_n dX6_copy_37 rfl ?_
          refine V.getf dX6_copy_38 fl_X6_22 hm0 rfl ?_
          refine V.iload_n dX6_copy_41 rfl ?_
          refine V.ialdN dX6_copy_42 h83 (by omega) (by decide) ?_
          refine V.iconst (v := nI 2) dX6_copy_43 (by decide) ?_
          refine V.icmp_ne (tgt := 72) dX6_copy_44 (by decide) (fun c44 => ?_) (fun c44 => ?_)
          · refine V.bipush (v := -12) dX6_copy_72 (by decide) ?_
            have hr : cpyR S (nI a) i (nI c) j k = -12 := by
              (try simp only [i0] at c4 c11 c22 c31 c44)
              simp only [cpyR, clampI (show a < 2147483648 by omega), clampI (show c < 2147483648 by omega), not_true_eq_false, c4, c11, c22, c31, c44, not_true_eq_false, not_false_eq_true, if_true, if_false, decide_true, decide_false, Bool.and_true, Bool.and_false, Bool.true_and, Bool.false_and, Bool.or_true, Bool.or_false, Bool.true_or, Bool.false_or, Bool.not_true, Bool.not_false, and_true, and_false, true_and, false_and, or_true, or_false, true_or, false_or, bIt, bIf, Bool.false_eq_true, reduceCtorEq]
            exact V.iret (by exact dX6_copy_74) rfl rfl ⟨by rw [copyV, hr]; rfl, rfl, by rw [copyS, hr, if_neg (by decide)]; exact hc, fun _ _ => rfl⟩
          · refine V.aload_n dX6_copy_47 rfl ?_
            refine V.getf dX6_copy_48 fl_X6_22 hm0 rfl ?_
            refine V.iload_n dX6_copy_51 rfl ?_
            refine V.ialdN dX6_copy_52 h83 (by omega) (by decide) ?_
            refine V.iconst (v := nI 2) dX6_copy_53 (by decide) ?_
            refine V.icmp_ne (tgt := 72) dX6_copy_54 (by decide) (fun c54 => ?_) (fun c54 => ?_)
            · refine V.bipush (v := -12) dX6_copy_72 (by decide) ?_
              have hr : cpyR S (nI a) i (nI c) j k = -12 := by
                (try simp only [i0] at c4 c11 c22 c31 c44 c54)
                simp only [cpyR, clampI (show a < 2147483648 by omega), clampI (show c < 2147483648 by omega), not_true_eq_false, c4, c11, c22, c31, eq_true c44, c54, not_true_eq_false, not_false_eq_true, if_true, if_false, decide_true, decide_false, Bool.and_true, Bool.and_false, Bool.true_and, Bool.false_and, Bool.or_true, Bool.or_false, Bool.true_or, Bool.false_or, Bool.not_true, Bool.not_false, and_true, and_false, true_and, false_and, or_true, or_false, true_or, false_or, bIt, bIf, Bool.false_eq_true, reduceCtorEq]
              exact V.iret (by exact dX6_copy_74) rfl rfl ⟨by rw [copyV, hr]; rfl, rfl, by rw [copyS, hr, if_neg (by decide)]; exact hc, fun _ _ => rfl⟩
            · refine V.aload_n dX6_copy_57 rfl ?_
              refine V.getf dX6_copy_58 fl_X6_25 hm0 rfl ?_
              refine V.iload_n dX6_copy_61 rfl ?_
              refine V.ialdN dX6_copy_62 h84 (by omega) (by decide) ?_
              refine V.aload_n dX6_copy_63 rfl ?_
              refine V.getf dX6_copy_64 fl_X6_25 hm0 rfl ?_
              refine V.iload_n dX6_copy_67 rfl ?_
              refine V.ialdN dX6_copy_68 h84 (by omega) (by decide) ?_
              refine V.icmp_eq (tgt := 75) dX6_copy_69 (by decide) (fun c69 => ?_) (fun c69 => ?_)
              · obtain ⟨-, ⟨s1, hsz1, es1⟩⟩ := (hSI a (by omega)).2.2 c44
                obtain ⟨-, ⟨s2, hsz2, es2⟩⟩ := (hSI c (by omega)).2.2 c54
                have hn1 : ¬ S 0 a = nI 0 := c22
                have hn2 : ¬ S 0 c = nI 0 := c31
                refine V.iload dX6_copy_75 rfl ?_
                refine V.if_lt (tgt := 116) dX6_copy_77 (by decide) (fun c77 => ?_) (fun c77 => ?_)
                · refine V.bipush (v := -13) dX6_copy_116 (by decide) ?_
                  have hr : cpyR S (nI a) i (nI c) j k = -13 := by
                    first
                    | (simp only [cpyR, clampI (show a < 2147483648 by omega), clampI (show c < 2147483648 by omega), es1, es2, cp_3 hsz1, cp_3 hsz2, hn1, hn2, c4, c11, c22, c31, eq_true c44, eq_true c54, eq_true c69, c77, not_true_eq_false, not_false_eq_true, if_true, if_false, decide_true, decide_false, Bool.and_true, Bool.and_false, Bool.true_and, Bool.false_and, Bool.or_true, Bool.or_false, Bool.true_or, Bool.false_or, Bool.not_true, Bool.not_false, and_true, and_false, true_and, false_and, or_true, or_false, true_or, false_or, bIt, bIf, Bool.false_eq_true, reduceCtorEq]; done)
                    | (have c113b : nI s2 - j < k := Int32.not_le.mp c113
                       simp only [cpyR, clampI (show a < 2147483648 by omega), clampI (show c < 2147483648 by omega), es1, es2, cp_3 hsz1, cp_3 hsz2, hn1, hn2, c4, c11, c22, c31, eq_true c44, eq_true c54, eq_true c69, c77, c113b, not_true_eq_false, not_false_eq_true, if_true, if_false, decide_true, decide_false, Bool.and_true, Bool.and_false, Bool.true_and, Bool.false_and, Bool.or_true, Bool.or_false, Bool.true_or, Bool.false_or, Bool.not_true, Bool.not_false, and_true, and_false, true_and, false_and, or_true, or_false, true_or, false_or, bIt, bIf, Bool.false_eq_true, reduceCtorEq])
                  exact V.iret (by exact dX6_copy_118) rfl rfl ⟨by rw [copyV, hr]; rfl, rfl, by rw [copyS, hr, if_neg (by decide)]; exact hc, fun _ _ => rfl⟩
                · refine V.iload_n dX6_copy_80 rfl ?_
                  refine V.if_lt (tgt := 116) dX6_copy_81 (by decide) (fun c81 => ?_) (fun c81 => ?_)
                  · refine V.bipush (v := -13) dX6_copy_116 (by decide) ?_
                    have hr : cpyR S (nI a) i (nI c) j k = -13 := by
                      first
                      | (simp only [cpyR, clampI (show a < 2147483648 by omega), clampI (show c < 2147483648 by omega), es1, es2, cp_3 hsz1, cp_3 hsz2, hn1, hn2, c4, c11, c22, c31, eq_true c44, eq_true c54, eq_true c69, c77, c81, not_true_eq_false, not_false_eq_true, if_true, if_false, decide_true, decide_false, Bool.and_true, Bool.and_false, Bool.true_and, Bool.false_and, Bool.or_true, Bool.or_false, Bool.true_or, Bool.false_or, Bool.not_true, Bool.not_false, and_true, and_false, true_and, false_and, or_true, or_false, true_or, false_or, bIt, bIf, Bool.false_eq_true, reduceCtorEq]; done)
                      | (have c113b : nI s2 - j < k := Int32.not_le.mp c113
                         simp only [cpyR, clampI (show a < 2147483648 by omega), clampI (show c < 2147483648 by omega), es1, es2, cp_3 hsz1, cp_3 hsz2, hn1, hn2, c4, c11, c22, c31, eq_true c44, eq_true c54, eq_true c69, c77, c81, c113b, not_true_eq_false, not_false_eq_true, if_true, if_false, decide_true, decide_false, Bool.and_true, Bool.and_false, Bool.true_and, Bool.false_and, Bool.or_true, Bool.or_false, Bool.true_or, Bool.false_or, Bool.not_true, Bool.not_false, and_true, and_false, true_and, false_and, or_true, or_false, true_or, false_or, bIt, bIf, Bool.false_eq_true, reduceCtorEq])
                    exact V.iret (by exact dX6_copy_118) rfl rfl ⟨by rw [copyV, hr]; rfl, rfl, by rw [copyS, hr, if_neg (by decide)]; exact hc, fun _ _ => rfl⟩
                  · refine V.iload dX6_copy_84 rfl ?_
                    refine V.if_lt (tgt := 116) dX6_copy_86 (by decide) (fun c86 => ?_) (fun c86 => ?_)
                    · refine V.bipush (v := -13) dX6_copy_116 (by decide) ?_
                      have hr : cpyR S (nI a) i (nI c) j k = -13 := by
                        first
                        | (simp only [cpyR, clampI (show a < 2147483648 by omega), clampI (show c < 2147483648 by omega), es1, es2, cp_3 hsz1, cp_3 hsz2, hn1, hn2, c4, c11, c22, c31, eq_true c44, eq_true c54, eq_true c69, c77, c81, c86, not_true_eq_false, not_false_eq_true, if_true, if_false, decide_true, decide_false, Bool.and_true, Bool.and_false, Bool.true_and, Bool.false_and, Bool.or_true, Bool.or_false, Bool.true_or, Bool.false_or, Bool.not_true, Bool.not_false, and_true, and_false, true_and, false_and, or_true, or_false, true_or, false_or, bIt, bIf, Bool.false_eq_true, reduceCtorEq]; done)
                        | (have c113b : nI s2 - j < k := Int32.not_le.mp c113
                           simp only [cpyR, clampI (show a < 2147483648 by omega), clampI (show c < 2147483648 by omega), es1, es2, cp_3 hsz1, cp_3 hsz2, hn1, hn2, c4, c11, c22, c31, eq_true c44, eq_true c54, eq_true c69, c77, c81, c86, c113b, not_true_eq_false, not_false_eq_true, if_true, if_false, decide_true, decide_false, Bool.and_true, Bool.and_false, Bool.true_and, Bool.false_and, Bool.or_true, Bool.or_false, Bool.true_or, Bool.false_or, Bool.not_true, Bool.not_false, and_true, and_false, true_and, false_and, or_true, or_false, true_or, false_or, bIt, bIf, Bool.false_eq_true, reduceCtorEq])
                      exact V.iret (by exact dX6_copy_118) rfl rfl ⟨by rw [copyV, hr]; rfl, rfl, by rw [copyS, hr, if_neg (by decide)]; exact hc, fun _ _ => rfl⟩
                    · refine V.iload dX6_copy_89 rfl ?_
                      refine V.aload_n dX6_copy_91 rfl ?_
                      refine V.getf dX6_copy_92 fl_X6_28 hm0 rfl ?_
                      refine V.iload_n dX6_copy_95 rfl ?_
                      refine V.ialdN dX6_copy_96 h85 (by omega) (by decide) ?_
                      rw [es1]
                      refine V.iload_n dX6_copy_97 rfl ?_
                      refine V.isub dX6_copy_98 ?_
                      refine V.icmp_gt (tgt := 116) dX6_copy_99 (by decide) (fun c99 => ?_) (fun c99 => ?_)
                      · refine V.bipush (v := -13) dX6_copy_116 (by decide) ?_
                        have hr : cpyR S (nI a) i (nI c) j k = -13 := by
                          first
                          | (simp only [cpyR, clampI (show a < 2147483648 by omega), clampI (show c < 2147483648 by omega), es1, es2, cp_3 hsz1, cp_3 hsz2, hn1, hn2, c4, c11, c22, c31, eq_true c44, eq_true c54, eq_true c69, c77, c81, c86, c99, not_true_eq_false, not_false_eq_true, if_true, if_false, decide_true, decide_false, Bool.and_true, Bool.and_false, Bool.true_and, Bool.false_and, Bool.or_true, Bool.or_false, Bool.true_or, Bool.false_or, Bool.not_true, Bool.not_false, and_true, and_false, true_and, false_and, or_true, or_false, true_or, false_or, bIt, bIf, Bool.false_eq_true, reduceCtorEq]; done)
                          | (have c113b : nI s2 - j < k := Int32.not_le.mp c113
                             simp only [cpyR, clampI (show a < 2147483648 by omega), clampI (show c < 2147483648 by omega), es1, es2, cp_3 hsz1, cp_3 hsz2, hn1, hn2, c4, c11, c22, c31, eq_true c44, eq_true c54, eq_true c69, c77, c81, c86, c99, c113b, not_true_eq_false, not_false_eq_true, if_true, if_false, decide_true, decide_false, Bool.and_true, Bool.and_false, Bool.true_and, Bool.false_and, Bool.or_true, Bool.or_false, Bool.true_or, Bool.false_or, Bool.not_true, Bool.not_false, and_true, and_false, true_and, false_and, or_true, or_false, true_or, false_or, bIt, bIf, Bool.false_eq_true, reduceCtorEq])
                        exact V.iret (by exact dX6_copy_118) rfl rfl ⟨by rw [copyV, hr]; rfl, rfl, by rw [copyS, hr, if_neg (by decide)]; exact hc, fun _ _ => rfl⟩
                      · refine V.iload dX6_copy_102 rfl ?_
                        refine V.aload_n dX6_copy_104 rfl ?_
                        refine V.getf dX6_copy_105 fl_X6_28 hm0 rfl ?_
                        refine V.iload_n dX6_copy_108 rfl ?_
                        refine V.ialdN dX6_copy_109 h85 (by omega) (by decide) ?_
                        rw [es2]
                        refine V.iload dX6_copy_110 rfl ?_
                        refine V.isub dX6_copy_112 ?_
                        refine V.icmp_le (tgt := 119) dX6_copy_113 (by decide) (fun c113 => ?_) (fun c113 => ?_)
                        · have c113b : ¬ nI s2 - j < k := Int32.not_lt.mpr c113
                          have hr : cpyR S (nI a) i (nI c) j k = nI 0 := by
                            simp only [cpyR, clampI (show a < 2147483648 by omega), clampI (show c < 2147483648 by omega), es1, es2, cp_3 hsz1, cp_3 hsz2, hn1, hn2, c113b, c77, c81, c86, c99, eq_true c44, eq_true c54, eq_true c69, c4, c11, not_true_eq_false, not_false_eq_true, if_true, if_false, decide_true, decide_false, Bool.and_true, Bool.and_false, Bool.true_and, Bool.false_and, Bool.or_true, Bool.or_false, Bool.true_or, Bool.false_or, Bool.not_true, Bool.not_false, and_true, and_false, true_and, false_and, or_true, or_false, true_or, false_or, bIt, bIf, Bool.false_eq_true, reduceCtorEq]
                          have d1 : cpB (nI s1) i k = true := by rw [cp_3 hsz1]; simp only [c77, c81, c99, not_true_eq_false, not_false_eq_true, if_true, if_false, decide_true, decide_false, Bool.and_true, Bool.and_false, Bool.true_and, Bool.false_and, Bool.or_true, Bool.or_false, Bool.true_or, Bool.false_or, Bool.not_true, Bool.not_false, and_true, and_false, true_and, false_and, or_true, or_false, true_or, false_or, bIt, bIf, Bool.false_eq_true, reduceCtorEq]
                          have d2 : cpB (nI s2) j k = true := by rw [cp_3 hsz2]; simp only [c77, c86, c113b, not_true_eq_false, not_false_eq_true, if_true, if_false, decide_true, decide_false, Bool.and_true, Bool.and_false, Bool.true_and, Bool.false_and, Bool.or_true, Bool.or_false, Bool.true_or, Bool.false_or, Bool.not_true, Bool.not_false, and_true, and_false, true_and, false_and, or_true, or_false, true_or, false_or, bIt, bIf, Bool.false_eq_true, reduceCtorEq]
                          obtain ⟨a1, k1, rfl, rfl, hs1⟩ := cp_ex hsz1 d1
                          obtain ⟨a2, k2, rfl, ek, hs2⟩ := cp_ex hsz2 d2
                          have ek2 : k1 = k2 := (nI_eq (by omega) (by omega)).mp ek
                          subst ek2
                          refine V.iconst (v := nI 0) dX6_copy_119 (by decide) ?_
                          refine V.ist6 dX6_copy_120 (by decide) rfl ?_
                          have h86b : h 86 = some (.inl (0, 800, .inl (S 3))) := h86
                          have kk : V l mX6_copy (d + 2) 184 [some (.ref 78), some (.int (nI a)), some (.int (nI a1)), some (.int (nI c)), some (.int (nI a2)), some (.int (nI k1)), none, none] [] (hset h 86 (.inl (0, 800, .inl (fun u => if 100 * c + a2 ≤ u ∧ u < 100 * c + a2 + k1 then S 3 (100 * a + a1 + (u - (100 * c + a2))) else S 3 u)))) n 0 0 (Qm (copyV S (nI a) (nI a1) (nI c) (nI a2) (nI k1)) K b KI (copyS S (nI a) (nI a1) (nI c) (nI a2) (nI k1)) h n) := by
                            refine V.iload dX6_copy_184 rfl ?_
                            refine V.iret (by exact dX6_copy_186) rfl rfl ⟨by rw [copyV, if_pos hr], rfl, ?_, fun q hq => hset_ne _ _ (by omega)⟩
                            rw [copyS, if_pos hr, clampI (show a < 2147483648 by omega), clampI (show a1 < 2147483648 by omega), clampI (show c < 2147483648 by omega), clampI (show a2 < 2147483648 by omega), clampI (show k1 < 2147483648 by omega)]
                            exact hc.sh3 _
                          refine V.hp (hset_id h86b).symm ?_
                          by_cases y : a2 < a1
                          · exact m_copy_up l (d + 2) h n b th po ba en tt hm0 (S 3) a a1 c a2 k1 ha7 hc7 (by omega) (by omega) y kk k1 0 (S 3) (fun u => (if_neg (by omega)).symm) (by omega)
                          · exact m_copy_dn l (d + 2) h n b th po ba en tt hm0 (S 3) a a1 c a2 k1 ha7 hc7 (by omega) (by omega) (by omega) kk k1 0 (S 3) (fun u => (if_neg (by omega)).symm) (by omega)
                        · refine V.bipush (v := -13) dX6_copy_116 (by decide) ?_
                          have hr : cpyR S (nI a) i (nI c) j k = -13 := by
                            first
                            | (simp only [cpyR, clampI (show a < 2147483648 by omega), clampI (show c < 2147483648 by omega), es1, es2, cp_3 hsz1, cp_3 hsz2, hn1, hn2, c4, c11, c22, c31, eq_true c44, eq_true c54, eq_true c69, c77, c81, c86, c99, c113, not_true_eq_false, not_false_eq_true, if_true, if_false, decide_true, decide_false, Bool.and_true, Bool.and_false, Bool.true_and, Bool.false_and, Bool.or_true, Bool.or_false, Bool.true_or, Bool.false_or, Bool.not_true, Bool.not_false, and_true, and_false, true_and, false_and, or_true, or_false, true_or, false_or, bIt, bIf, Bool.false_eq_true, reduceCtorEq]; done)
                            | (have c113b : nI s2 - j < k := Int32.not_le.mp c113
                               simp only [cpyR, clampI (show a < 2147483648 by omega), clampI (show c < 2147483648 by omega), es1, es2, cp_3 hsz1, cp_3 hsz2, hn1, hn2, c4, c11, c22, c31, eq_true c44, eq_true c54, eq_true c69, c77, c81, c86, c99, c113, c113b, not_true_eq_false, not_false_eq_true, if_true, if_false, decide_true, decide_false, Bool.and_true, Bool.and_false, Bool.true_and, Bool.false_and, Bool.or_true, Bool.or_false, Bool.true_or, Bool.false_or, Bool.not_true, Bool.not_false, and_true, and_false, true_and, false_and, or_true, or_false, true_or, false_or, bIt, bIf, Bool.false_eq_true, reduceCtorEq])
                          exact V.iret (by exact dX6_copy_118) rfl rfl ⟨by rw [copyV, hr]; rfl, rfl, by rw [copyS, hr, if_neg (by decide)]; exact hc, fun _ _ => rfl⟩
              · refine V.bipush (v := -12) dX6_copy_72 (by decide) ?_
                have hr : cpyR S (nI a) i (nI c) j k = -12 := by
                  (try simp only [i0] at c4 c11 c22 c31 c44 c54 c69)
                  simp only [cpyR, clampI (show a < 2147483648 by omega), clampI (show c < 2147483648 by omega), not_true_eq_false, c4, c11, c22, c31, eq_true c44, eq_true c54, c69, not_true_eq_false, not_false_eq_true, if_true, if_false, decide_true, decide_false, Bool.and_true, Bool.and_false, Bool.true_and, Bool.false_and, Bool.or_true, Bool.or_false, Bool.true_or, Bool.false_or, Bool.not_true, Bool.not_false, and_true, and_false, true_and, false_and, or_true, or_false, true_or, false_or, bIt, bIf, Bool.false_eq_true, reduceCtorEq]
                exact V.iret (by exact dX6_copy_74) rfl rfl ⟨by rw [copyV, hr]; rfl, rfl, by rw [copyS, hr, if_neg (by decide)]; exact hc, fun _ _ => rfl⟩
        · refine V.bipush (v := -11) dX6_copy_34 (by decide) ?_
          have hr : cpyR S (nI a) i (nI c) j k = -11 := by
            (try simp only [i0] at c4 c11 c22 c31)
            simp only [cpyR, clampI (show a < 2147483648 by omega), clampI (show c < 2147483648 by omega), not_true_eq_false, c4, c11, c22, eq_true c31, not_true_eq_false, not_false_eq_true, if_true, if_false, decide_true, decide_false, Bool.and_true, Bool.and_false, Bool.true_and, Bool.false_and, Bool.or_true, Bool.or_false, Bool.true_or, Bool.false_or, Bool.not_true, Bool.not_false, and_true, and_false, true_and, false_and, or_true, or_false, true_or, false_or, bIt, bIf, Bool.false_eq_true, reduceCtorEq]
          exact V.iret (by exact dX6_copy_36) rfl rfl ⟨by rw [copyV, hr]; rfl, rfl, by rw [copyS, hr, if_neg (by decide)]; exact hc, fun _ _ => rfl⟩
    · refine V.iconst (v := -1) dX6_copy_14 (by decide) ?_
      have hr : cpyR S x i y j k = -1 := by
        (try simp only [i0] at c4 c11)
        simp only [cpyR, not_true_eq_false, c4, c11, not_true_eq_false, not_false_eq_true, if_true, if_false, decide_true, decide_false, Bool.and_true, Bool.and_false, Bool.true_and, Bool.false_and, Bool.or_true, Bool.or_false, Bool.true_or, Bool.false_or, Bool.not_true, Bool.not_false, and_true, and_false, true_and, false_and, or_true, or_false, true_or, false_or, bIt, bIf, Bool.false_eq_true, reduceCtorEq]
      exact V.iret (by exact dX6_copy_15) rfl rfl ⟨by rw [copyV, hr]; rfl, rfl, by rw [copyS, hr, if_neg (by decide)]; exact hc, fun _ _ => rfl⟩
