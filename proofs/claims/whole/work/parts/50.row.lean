theorem V.hp {l : Launch} {M : MT} {d pc : Nat} {ls : List (Option Value)} {st : List Value} {h h1 : MH} {n c z : Nat} {Q : Option Value → MH → Nat → Prop} (e : h = h1) (k : V l M d pc ls st h1 n c z Q) : V l M d pc ls st h n c z Q := e ▸ k
def rowOk (x y : Int32) (k : Int32) : Bool := wi x (nI 0) (nI 7) && (wi y (nI 0) (nI 2) && decide (k ≤ nI 100))
def rowV (x y k : Int32) : Int32 := if rowOk x y k = true then (if k < 0 then -14 else nI 0) else -1
def rowU (S : SS) (i : Nat) (y k : Int32) : SS := fun v => if v = 3 then (fun j => if 100 * i ≤ j ∧ j < 100 * i + 100 then nI 0 else S 3 j) else if v = 2 then upd (S 2) i k else if v = 1 then upd (S 1) i y else if v = 0 then upd (S 0) i (nI 2) else S v
def rowS (S : SS) (x y k : Int32) : SS := if rowOk x y k = true then (if k < 0 then S else rowU S x.toNatClampNeg y k) else S
theorem row_ag (S : SS) (i : Nat) (y k : Int32) (j : Nat) (hj : j ≠ i) : SAg S (rowU S i y k) j := ⟨pk_un hj, pk_un hj, pk_un hj, rfl, rfl, fun t ht => if_neg (by omega)⟩
set_option maxRecDepth 20000 in
set_option maxHeartbeats 4000000 in
theorem x_row (l : Launch) (d : Nat) (h : MH) (n : Nat) (K : KK) (b : Bool) (KI : KK) (S : SS) (m : Nat) (hc : ClsAt h K b KI S) (hT : TI K m) (x y k : Int32) : Sp l mX5_row (d + 2) [.ref 0, .int x, .int y, .int k] h n 0 0 (Qx (rowV x y k) K b KI (rowS S x y k) h n) := by
  have hD := hT.1
  have hm := hD.1.1
  have hm10 := hD.1.2.1
  obtain ⟨ht0, ⟨sq, hsq, esq⟩, ⟨cl, P, pn, hw, hPR⟩, ⟨Km, clm, Pm, pm, hwm⟩, ⟨KJ, clJ, PJ, pJ, hwJ, hJ⟩, ⟨rb, rx, ry, hrd⟩, hsc, ⟨co, hco⟩, ⟨se, hse⟩, hsh⟩ := id hc
  obtain ⟨hw0, ⟨gr, hgr, egr⟩, ⟨ru, hru, eru⟩, ⟨pq, hpf, epf⟩, hpl, ⟨fl, hfl, efl⟩, ⟨ca, hca, eca⟩, ⟨wa, hwa⟩, hpp, hhd⟩ := id hw
  show V _ _ _ _ [some (.ref 0), some (.int x), some (.int y), some (.int k)] _ _ _ _ _ _
  refine V.iload_n dX5_row_0 rfl ?_
  refine V.callSv [_] dX5_row_1 lk_X5_191 rfl (Nat.le_of_ble_eq_true rfl) (Nat.le_of_ble_eq_true rfl) (s5_isShelf _ _ _ _ _) ?_
  refine V.if_eqB (tgt := 22) dX5_row_4 (by decide) (fun c4 => ?_) (fun c4 => ?_)
  · refine V.iconst (v := -1) dX5_row_22 (by decide) ?_
    have hok : rowOk x y k = false := by
      (try simp only [← Int32.not_le, Classical.not_not, decide_eq_true_eq, decide_eq_false_iff_not] at c4); simp only [rowOk, ← Int32.not_le, c4, not_true_eq_false, not_false_eq_true, if_true, if_false, decide_true, decide_false, Bool.and_true, Bool.and_false, Bool.true_and, Bool.false_and, Bool.or_true, Bool.or_false, Bool.true_or, Bool.false_or, Bool.not_true, Bool.not_false, and_true, and_false, true_and, false_and, or_true, or_false, true_or, false_or, bIt, bIf, Bool.false_eq_true, reduceCtorEq]
    exact V.iret (by exact dX5_row_23) rfl rfl ⟨by rw [rowV, hok]; rfl, rfl, by rw [rowS, hok]; exact hc, fun _ _ => rfl⟩
  · refine V.iload_n dX5_row_7 rfl ?_
    refine V.iconst (v := nI 0) dX5_row_8 (by decide) ?_
    refine V.iconst (v := nI 2) dX5_row_9 (by decide) ?_
    refine V.callSv [_, _, _] dX5_row_10 lk_X5_71 rfl (Nat.le_of_ble_eq_true rfl) (Nat.le_of_ble_eq_true rfl) (s5_within _ _ _ _ _ _ _) ?_
    refine V.if_eqB (tgt := 22) dX5_row_13 (by decide) (fun c13 => ?_) (fun c13 => ?_)
    · refine V.iconst (v := -1) dX5_row_22 (by decide) ?_
      have hok : rowOk x y k = false := by
        (try simp only [← Int32.not_le, Classical.not_not, decide_eq_true_eq, decide_eq_false_iff_not] at c4 c13); simp only [rowOk, ← Int32.not_le, c4, c13, not_true_eq_false, not_false_eq_true, if_true, if_false, decide_true, decide_false, Bool.and_true, Bool.and_false, Bool.true_and, Bool.false_and, Bool.or_true, Bool.or_false, Bool.true_or, Bool.false_or, Bool.not_true, Bool.not_false, and_true, and_false, true_and, false_and, or_true, or_false, true_or, false_or, bIt, bIf, Bool.false_eq_true, reduceCtorEq]
      exact V.iret (by exact dX5_row_23) rfl rfl ⟨by rw [rowV, hok]; rfl, rfl, by rw [rowS, hok]; exact hc, fun _ _ => rfl⟩
    · refine V.iload_n dX5_row_16 rfl ?_
      refine V.bipush (v := nI 100) dX5_row_17 (by decide) ?_
      refine V.icmp_le (tgt := 24) dX5_row_19 (by decide) (fun c19 => ?_) (fun c19 => ?_)
      · refine V.iload_n dX5_row_24 rfl ?_
        refine V.if_ge (tgt := 31) dX5_row_25 (by decide) (fun c25 => ?_) (fun c25 => ?_)
        · have hok : rowOk x y k = true := by
            (try simp only [← Int32.not_le, Classical.not_not, decide_eq_true_eq, decide_eq_false_iff_not] at c4 c13 c19 c25); simp only [rowOk, ← Int32.not_le, c4, c13, c19, c25, not_true_eq_false, not_false_eq_true, if_true, if_false, decide_true, decide_false, Bool.and_true, Bool.and_false, Bool.true_and, Bool.false_and, Bool.or_true, Bool.or_false, Bool.true_or, Bool.false_or, Bool.not_true, Bool.not_false, and_true, and_false, true_and, false_and, or_true, or_false, true_or, false_or, bIt, bIf, Bool.false_eq_true, reduceCtorEq]
          have hk0 : ¬ k < 0 := Int32.not_lt.mpr c25
          obtain ⟨i, hi, rfl⟩ := wi_ex (by decide) c4
          obtain ⟨kd, fg, so, sz, el, hS, hE, hR, hW⟩ := hsh i (by omega)
          refine V.aload_n dX5_row_31 rfl ?_
          refine V.getf dX5_row_32 fl_X5_11 ht0 rfl ?_
          refine V.iload_n dX5_row_35 rfl ?_
          refine V.aaldN dX5_row_36 (Or.inr rfl) hsq (by omega) (by decide) (esq _ (by omega)) ?_
          refine V.iload_n dX5_row_37 rfl ?_
          refine V.iload_n dX5_row_38 rfl ?_
          refine V.callVu [_, _] dX5_row_39 lk_X5_268 rfl (Nat.le_of_ble_eq_true rfl) (Nat.le_of_ble_eq_true rfl) hS rfl (s3_takeRow _ _ _ _ _ _ _ _ _ _ _ hS (by omega) _ hE _ _) ?_
          refine V.iconst (v := nI 0) dX5_row_42 (by decide) ?_
          refine V.iret (by exact dX5_row_43) rfl rfl ⟨by rw [rowV, hok, if_neg hk0]; rfl, rfl, ?_, fun q hq => by rw [hset_ne _ _ (by omega), hset_ne _ _ (by omega)]⟩
          rw [rowS, if_pos hok, if_neg hk0, clampI (show i < 2147483648 by omega)]
          exact hc.shelf (by omega) ⟨kd, fg, y, k, fun _ => nI 0, (o_ne (hset_self _ _ _) (by omega)).trans (by rw [show rowU S i y k 0 i = nI 2 from pk_us]), hset_self _ _ _, fun q => absurd ((show rowU S i y k 0 i = nI 2 from pk_us).symm.trans q) (by decide), fun _ => ⟨(show rowU S i y k 1 i = y from pk_us).symm, (show rowU S i y k 2 i = k from pk_us).symm, fun t ht => (show rowU S i y k 3 (100 * i + t) = nI 0 from if_pos (by omega)).symm⟩⟩ (fun j _ hj => row_ag S i y k j hj) (fun q q1 q2 => by rw [hset_ne _ _ q2, hset_ne _ _ q1])
        · refine V.bipush (v := -14) dX5_row_28 (by decide) ?_
          have hok : rowOk x y k = true := by
            (try simp only [← Int32.not_le, Classical.not_not, decide_eq_true_eq, decide_eq_false_iff_not] at c4 c13 c19 c25); simp only [rowOk, ← Int32.not_le, c4, c13, c19, c25, not_true_eq_false, not_false_eq_true, if_true, if_false, decide_true, decide_false, Bool.and_true, Bool.and_false, Bool.true_and, Bool.false_and, Bool.or_true, Bool.or_false, Bool.true_or, Bool.false_or, Bool.not_true, Bool.not_false, and_true, and_false, true_and, false_and, or_true, or_false, true_or, false_or, bIt, bIf, Bool.false_eq_true, reduceCtorEq]
          have hk0 : k < 0 := Int32.not_le.mp c25
          exact V.iret (by exact dX5_row_30) rfl rfl ⟨by rw [rowV, hok, if_pos hk0]; rfl, rfl, by rw [rowS, hok, if_pos hk0]; exact hc, fun _ _ => rfl⟩
      · refine V.iconst (v := -1) dX5_row_22 (by decide) ?_
        have hok : rowOk x y k = false := by
          (try simp only [← Int32.not_le, Classical.not_not, decide_eq_true_eq, decide_eq_false_iff_not] at c4 c13 c19); simp only [rowOk, ← Int32.not_le, c4, c13, c19, not_true_eq_false, not_false_eq_true, if_true, if_false, decide_true, decide_false, Bool.and_true, Bool.and_false, Bool.true_and, Bool.false_and, Bool.or_true, Bool.or_false, Bool.true_or, Bool.false_or, Bool.not_true, Bool.not_false, and_true, and_false, true_and, false_and, or_true, or_false, true_or, false_or, bIt, bIf, Bool.false_eq_true, reduceCtorEq]
        exact V.iret (by exact dX5_row_23) rfl rfl ⟨by rw [rowV, hok]; rfl, rfl, by rw [rowS, hok]; exact hc, fun _ _ => rfl⟩
set_option maxRecDepth 20000 in
set_option maxHeartbeats 4000000 in
theorem m_row_loop (l : Launch) (d : Nat) (h : MH) (n : Nat) (b : Bool) (th po ba en tt : Int32) (hm0 : h 78 = some (.inr (6, moF b th po ba en tt))) (S3 : Nat → Int32) (i : Nat) (hi : i ≤ 7) (y k : Int32) {Q : Option Value → MH → Nat → Prop} (kk : V l mX6_row d 84 [some (.ref 78), some (.int (nI i)), some (.int y), some (.int k), none] [] (hset h 86 (.inl (0, 800, .inl (fun j => if 100 * i ≤ j ∧ j < 100 * i + 100 then nI 0 else S3 j)))) n 0 0 Q) : ∀ (r t : Nat) (X : Nat → Int32), (∀ j, X j = if 100 * i ≤ j ∧ j < 100 * i + t then nI 0 else S3 j) → t + r = 100 → V l mX6_row d 58 [some (.ref 78), some (.int (nI i)), some (.int y), some (.int k), some (.int (nI t))] [] (hset h 86 (.inl (0, 800, .inl X))) n 0 0 Q := by
  intro r
  induction r with
  | zero =>
    intro t X hX ht
    refine V.iload dX6_row_58 rfl ?_
    refine V.bipush (v := nI 100) dX6_row_60 (by decide) ?_
    refine V.icmp_geN (tgt := 84) dX6_row_62 (by decide) (by omega) (by omega) (fun _ => ?_) (fun q => absurd q (by omega))
    refine V.ext (g := fun j => if 100 * i ≤ j ∧ j < 100 * i + 100 then nI 0 else S3 j) (hset_self _ _ _) (fun j hj => by rw [hX, show t = 100 by omega]) ?_
    rw [hset_hset]
    exact V.drop 4 kk
  | succ r ih =>
    intro t X hX ht
    refine V.iload dX6_row_58 rfl ?_
    refine V.bipush (v := nI 100) dX6_row_60 (by decide) ?_
    refine V.icmp_geN (tgt := 84) dX6_row_62 (by decide) (by omega) (by omega) (fun q => absurd q (by omega)) (fun _ => ?_)
    refine V.aload_n dX6_row_65 rfl ?_
    refine V.getf dX6_row_66 fl_X6_31 (o_ne hm0 (by decide)) rfl ?_
    refine V.bipush (v := nI 100) dX6_row_69 (by decide) ?_
    refine V.iload_n dX6_row_71 rfl ?_
    refine V.imulN dX6_row_72 ?_
    refine V.iload dX6_row_73 rfl ?_
    refine V.iaddN dX6_row_75 ?_
    refine V.iconst (v := nI 0) dX6_row_76 (by decide) ?_
    refine V.iastN dX6_row_77 (hset_self _ _ _) (by omega) (by decide) ?_
    rw [hset_hset]
    refine V.inN4 dX6_row_78 (by decide) rfl ?_
    refine V.goto (tgt := 58) dX6_row_81 (by decide) ?_
    refine ih (t + 1) _ (fun j => ?_) (by omega)
    by_cases y : j = 100 * i + t
    · subst y; rw [pk_us, if_pos (by omega)]
    · rw [pk_un y, hX]
      have e : (100 * i ≤ j ∧ j < 100 * i + (t + 1)) ↔ (100 * i ≤ j ∧ j < 100 * i + t) := by omega
      simp only [e]
set_option maxRecDepth 20000 in
set_option maxHeartbeats 4000000 in
theorem m_row (l : Launch) (d : Nat) (h : MH) (n : Nat) (K : KK) (b : Bool) (KI : KK) (S : SS) (m : Nat) (hc : ModAt h K b KI S) (hT : TI K m) (x y k : Int32) : Sp l mX6_row (d + 2) [.ref 78, .int x, .int y, .int k] h n 0 0 (Qm (rowV x y k) K b KI (rowS S x y k) h n) := by
  have hD := hT.1
  have hm := hD.1.1
  have hm10 := hD.1.2.1
  obtain ⟨⟨th, po, ba, en, tt, hm0⟩, ha, hb, ⟨Km, hmi⟩, ⟨Kr, hre⟩, h83, h84, h85, h86, h87, h88, ⟨X89, h89⟩, ⟨X90, h90⟩, ⟨X91, h91⟩, ⟨X92, h92⟩⟩ := id hc
  show V _ _ _ _ [some (.ref 78), some (.int x), some (.int y), some (.int k), none] _ _ _ _ _ _
  refine V.iload_n dX6_row_0 rfl ?_
  refine V.callSv [_] dX6_row_1 lk_X6_157 rfl (Nat.le_of_ble_eq_true rfl) (Nat.le_of_ble_eq_true rfl) (s6_isShelf _ _ _ _ _) ?_
  refine V.if_eqB (tgt := 25) dX6_row_4 (by decide) (fun c4 => ?_) (fun c4 => ?_)
  · refine V.iconst (v := -1) dX6_row_25 (by decide) ?_
    have hok : rowOk x y k = false := by
      (try simp only [← Int32.not_le, Classical.not_not, decide_eq_true_eq, decide_eq_false_iff_not] at c4); simp only [rowOk, ← Int32.not_le, c4, not_true_eq_false, not_false_eq_true, if_true, if_false, decide_true, decide_false, Bool.and_true, Bool.and_false, Bool.true_and, Bool.false_and, Bool.or_true, Bool.or_false, Bool.true_or, Bool.false_or, Bool.not_true, Bool.not_false, and_true, and_false, true_and, false_and, or_true, or_false, true_or, false_or, bIt, bIf, Bool.false_eq_true, reduceCtorEq]
    exact V.iret (by exact dX6_row_26) rfl rfl ⟨by rw [rowV, hok]; rfl, rfl, by rw [rowS, hok]; exact hc, fun _ _ => rfl⟩
  · refine V.iload_n dX6_row_7 rfl ?_
    refine V.i2l dX6_row_8 ?_
    refine V.lconst (v := 0) dX6_row_9 (by decide) ?_
    refine V.ldc2 dX6_row_10 cn_X6_308 ?_
    refine V.callSv [_, _, _] dX6_row_13 lk_X6_62 rfl (Nat.le_of_ble_eq_true rfl) (Nat.le_of_ble_eq_true rfl) (s6_isInC _ _ _ (nI 0) (nI 2) (by decide) (by decide) _ _) ?_
    refine V.if_eqB (tgt := 25) dX6_row_16 (by decide) (fun c16 => ?_) (fun c16 => ?_)
    · refine V.iconst (v := -1) dX6_row_25 (by decide) ?_
      have hok : rowOk x y k = false := by
        (try simp only [← Int32.not_le, Classical.not_not, decide_eq_true_eq, decide_eq_false_iff_not] at c4 c16); simp only [rowOk, ← Int32.not_le, c4, c16, not_true_eq_false, not_false_eq_true, if_true, if_false, decide_true, decide_false, Bool.and_true, Bool.and_false, Bool.true_and, Bool.false_and, Bool.or_true, Bool.or_false, Bool.true_or, Bool.false_or, Bool.not_true, Bool.not_false, and_true, and_false, true_and, false_and, or_true, or_false, true_or, false_or, bIt, bIf, Bool.false_eq_true, reduceCtorEq]
      exact V.iret (by exact dX6_row_26) rfl rfl ⟨by rw [rowV, hok]; rfl, rfl, by rw [rowS, hok]; exact hc, fun _ _ => rfl⟩
    · refine V.iload_n dX6_row_19 rfl ?_
      refine V.bipush (v := nI 100) dX6_row_20 (by decide) ?_
      refine V.icmp_le (tgt := 27) dX6_row_22 (by decide) (fun c22 => ?_) (fun c22 => ?_)
      · refine V.iload_n dX6_row_27 rfl ?_
        refine V.if_ge (tgt := 34) dX6_row_28 (by decide) (fun c28 => ?_) (fun c28 => ?_)
        · have hok : rowOk x y k = true := by
            (try simp only [← Int32.not_le, Classical.not_not, decide_eq_true_eq, decide_eq_false_iff_not] at c4 c16 c22 c28); simp only [rowOk, ← Int32.not_le, c4, c16, c22, c28, not_true_eq_false, not_false_eq_true, if_true, if_false, decide_true, decide_false, Bool.and_true, Bool.and_false, Bool.true_and, Bool.false_and, Bool.or_true, Bool.or_false, Bool.true_or, Bool.false_or, Bool.not_true, Bool.not_false, and_true, and_false, true_and, false_and, or_true, or_false, true_or, false_or, bIt, bIf, Bool.false_eq_true, reduceCtorEq]
          have hk0 : ¬ k < 0 := Int32.not_lt.mpr c28
          obtain ⟨i, hi, rfl⟩ := wi_ex (by decide) c4
          refine V.aload_n dX6_row_34 rfl ?_
          refine V.getf dX6_row_35 fl_X6_22 hm0 rfl ?_
          refine V.iload_n dX6_row_38 rfl ?_
          refine V.iconst (v := nI 2) dX6_row_39 (by decide) ?_
          refine V.iastN dX6_row_40 h83 (by omega) (by decide) ?_
          refine V.aload_n dX6_row_41 rfl ?_
          refine V.getf dX6_row_42 fl_X6_25 (o_ne hm0 (by decide)) rfl ?_
          refine V.iload_n dX6_row_45 rfl ?_
          refine V.iload_n dX6_row_46 rfl ?_
          refine V.iastN dX6_row_47 (o_ne h84 (by decide)) (by omega) (by decide) ?_
          refine V.aload_n dX6_row_48 rfl ?_
          refine V.getf dX6_row_49 fl_X6_28 (o_ne (o_ne hm0 (by decide)) (by decide)) rfl ?_
          refine V.iload_n dX6_row_52 rfl ?_
          refine V.iload_n dX6_row_53 rfl ?_
          refine V.iastN dX6_row_54 (o_ne (o_ne h85 (by decide)) (by decide)) (by omega) (by decide) ?_
          refine V.iconst (v := nI 0) dX6_row_55 (by decide) ?_
          refine V.ist4 dX6_row_56 (by decide) rfl ?_
          have h86b : h 86 = some (.inl (0, 800, .inl (S 3))) := h86
          refine V.hp (hset_id (o_ne (o_ne (o_ne h86b (show 86 ≠ 83 by decide)) (show 86 ≠ 84 by decide)) (show 86 ≠ 85 by decide))).symm (m_row_loop l (d + 2) _ n b th po ba en tt (o_ne (o_ne (o_ne hm0 (show 78 ≠ 83 by decide)) (show 78 ≠ 84 by decide)) (show 78 ≠ 85 by decide)) (S 3) i (by omega) y k ?_ 100 0 (S 3) (fun j => (if_neg (by omega)).symm) (by omega))
          refine V.iconst (v := nI 0) dX6_row_84 (by decide) ?_
          refine V.iret (by exact dX6_row_85) rfl rfl ⟨by rw [rowV, hok, if_neg hk0]; rfl, rfl, ?_, fun q hq => by rw [hset_ne _ _ (by omega), hset_ne _ _ (by omega), hset_ne _ _ (by omega), hset_ne _ _ (by omega)]⟩
          rw [rowS, if_pos hok, if_neg hk0, clampI (show i < 2147483648 by omega)]
          exact (((hc.sh0 _).sh1 _).sh2 _).sh3 _
        · refine V.bipush (v := -14) dX6_row_31 (by decide) ?_
          have hok : rowOk x y k = true := by
            (try simp only [← Int32.not_le, Classical.not_not, decide_eq_true_eq, decide_eq_false_iff_not] at c4 c16 c22 c28); simp only [rowOk, ← Int32.not_le, c4, c16, c22, c28, not_true_eq_false, not_false_eq_true, if_true, if_false, decide_true, decide_false, Bool.and_true, Bool.and_false, Bool.true_and, Bool.false_and, Bool.or_true, Bool.or_false, Bool.true_or, Bool.false_or, Bool.not_true, Bool.not_false, and_true, and_false, true_and, false_and, or_true, or_false, true_or, false_or, bIt, bIf, Bool.false_eq_true, reduceCtorEq]
          have hk0 : k < 0 := Int32.not_le.mp c28
          exact V.iret (by exact dX6_row_33) rfl rfl ⟨by rw [rowV, hok, if_pos hk0]; rfl, rfl, by rw [rowS, hok, if_pos hk0]; exact hc, fun _ _ => rfl⟩
      · refine V.iconst (v := -1) dX6_row_25 (by decide) ?_
        have hok : rowOk x y k = false := by
          (try simp only [← Int32.not_le, Classical.not_not, decide_eq_true_eq, decide_eq_false_iff_not] at c4 c16 c22); simp only [rowOk, ← Int32.not_le, c4, c16, c22, not_true_eq_false, not_false_eq_true, if_true, if_false, decide_true, decide_false, Bool.and_true, Bool.and_false, Bool.true_and, Bool.false_and, Bool.or_true, Bool.or_false, Bool.true_or, Bool.false_or, Bool.not_true, Bool.not_false, and_true, and_false, true_and, false_and, or_true, or_false, true_or, false_or, bIt, bIf, Bool.false_eq_true, reduceCtorEq]
        exact V.iret (by exact dX6_row_26) rfl rfl ⟨by rw [rowV, hok]; rfl, rfl, by rw [rowS, hok]; exact hc, fun _ _ => rfl⟩
def roleV (K : KK) (S : SS) (x y : Int32) : Int32 := if plB K x = true then (if wnV S y (nI 1) = 0 then S 4 y.toNatClampNeg else wnV S y (nI 1)) else -1
def roleU (K : KK) (p : Nat) (k g : Int32) : KK := upd (upd K (114 + 7 * p + 1) k) (114 + 7 * p + 2) g
def roleS (K : KK) (S : SS) (x y : Int32) : KK := if plB K x = true then (if wnV S y (nI 1) = 0 then roleU K x.toNatClampNeg (S 4 y.toNatClampNeg) (S 5 y.toNatClampNeg) else K) else K
theorem pF_kind (K : KK) (cl : Nat → Int32) (p : Nat) (k g : Int32) : ((pF K cl p).set 1 (.int k)).set 2 (.int g) = pF (roleU K p k g) cl p := by
  simp only [roleU, pF, cAt, gP_upd _ _ _ _ _ _ (show 2 < 7 by omega) (show 0 < 7 by omega), gP_upd _ _ _ _ _ _ (show 2 < 7 by omega) (show 1 < 7 by omega), gP_upd _ _ _ _ _ _ (show 2 < 7 by omega) (show 2 < 7 by omega), gP_upd _ _ _ _ _ _ (show 2 < 7 by omega) (show 3 < 7 by omega), gP_upd _ _ _ _ _ _ (show 2 < 7 by omega) (show 4 < 7 by omega), gP_upd _ _ _ _ _ _ (show 2 < 7 by omega) (show 5 < 7 by omega), gP_upd _ _ _ _ _ _ (show 2 < 7 by omega) (show 6 < 7 by omega), gP_upd _ _ _ _ _ _ (show 1 < 7 by omega) (show 0 < 7 by omega), gP_upd _ _ _ _ _ _ (show 1 < 7 by omega) (show 1 < 7 by omega), gP_upd _ _ _ _ _ _ (show 1 < 7 by omega) (show 2 < 7 by omega), gP_upd _ _ _ _ _ _ (show 1 < 7 by omega) (show 3 < 7 by omega), gP_upd _ _ _ _ _ _ (show 1 < 7 by omega) (show 4 < 7 by omega), gP_upd _ _ _ _ _ _ (show 1 < 7 by omega) (show 5 < 7 by omega), gP_upd _ _ _ _ _ _ (show 1 < 7 by omega) (show 6 < 7 by omega)]
  simp
theorem WoodAt.role {h : MH} {w : Nat} {K : KK} {cl P : Nat → Int32} {pn : Nat} (hw : WoodAt h w K cl P pn) (p : Nat) (hp : p < 10) (k g : Int32) : WoodAt (hset h (w + 8 + p) (.inr (0, pF (roleU K p k g) cl p))) w (roleU K p k g) cl P pn := by
  refine hw.gen p hp _ cl (fun j hj => ?_) (fun _ _ => rfl) ?_
  · rw [roleU, pk_un (by omega), pk_un (by omega)]
  · rw [roleU, gP_upd _ _ _ _ _ _ (by omega) (by omega), if_neg (by omega), gP_upd _ _ _ _ _ _ (by omega) (by omega), if_neg (by omega)]
    exact hw.2.2.2.2.2.2.2.2.2 p hp
set_option maxRecDepth 20000 in
set_option maxHeartbeats 4000000 in
theorem x_role (l : Launch) (d : Nat) (h : MH) (n : Nat) (K : KK) (b : Bool) (KI : KK) (S : SS) (m : Nat) (hc : ClsAt h K b KI S) (hT : TI K m) (x y : Int32) : Sp l mX5_role (d + 3) [.ref 0, .int x, .int y] h n 0 0 (Qx (roleV K S x y) (roleS K S x y) b KI S h n) := by
  have hD := hT.1
  have hm := hD.1.1
  have hm10 := hD.1.2.1
  obtain ⟨ht0, ⟨sq, hsq, esq⟩, ⟨cl, P, pn, hw, hPR⟩, ⟨Km, clm, Pm, pm, hwm⟩, ⟨KJ, clJ, PJ, pJ, hwJ, hJ⟩, ⟨rb, rx, ry, hrd⟩, hsc, ⟨co, hco⟩, ⟨se, hse⟩, hsh⟩ := id hc
  obtain ⟨hw0, ⟨gr, hgr, egr⟩, ⟨ru, hru, eru⟩, ⟨pq, hpf, epf⟩, hpl, ⟨fl, hfl, efl⟩, ⟨ca, hca, eca⟩, ⟨wa, hwa⟩, hpp, hhd⟩ := id hw
  show V _ _ _ _ [some (.ref 0), some (.int x), some (.int y), none] _ _ _ _ _ _
  refine V.aload_n dX5_role_0 rfl ?_
  refine V.iload_n dX5_role_1 rfl ?_
  refine V.callVv [_] dX5_role_2 lk_X5_78 rfl (Nat.le_of_ble_eq_true rfl) (Nat.le_of_ble_eq_true rfl) ht0 rfl (x_isPlayer _ _ _ _ _ _ _ _ _ hc hT _) ?_
  refine V.if_neB (tgt := 10) dX5_role_5 (by decide) (fun c5 => ?_) (fun c5 => ?_)
  · refine V.aload_n dX5_role_10 rfl ?_
    refine V.iload_n dX5_role_11 rfl ?_
    refine V.iconst (v := nI 1) dX5_role_12 (by decide) ?_
    refine V.callVv [_, _] dX5_role_13 lk_X5_116 rfl (Nat.le_of_ble_eq_true rfl) (Nat.le_of_ble_eq_true rfl) ht0 rfl (x_want _ _ _ _ _ _ _ _ _ hc hT _ _) ?_
    refine V.ist3 dX5_role_16 (by decide) rfl ?_
    refine V.iload_n dX5_role_17 rfl ?_
    refine V.if_eq (tgt := 23) dX5_role_18 (by decide) (fun c18 => ?_) (fun c18 => ?_)
    · obtain ⟨p, hp, rfl⟩ := pl_ex hm hm10 c5
      obtain ⟨i, hi, rfl, hk, hwi⟩ := wn_0 c18 (by decide)
      obtain ⟨kd, fg, so, sz, el, hS, hE, hR, hW⟩ := hsh i (by omega)
      refine V.aload_n dX5_role_23 rfl ?_
      refine V.getf dX5_role_24 fl_X5_18 ht0 rfl ?_
      refine V.getf dX5_role_27 fl_X5_81 hw0 rfl ?_
      refine V.iload_n dX5_role_30 rfl ?_
      refine V.aaldN dX5_role_31 (Or.inl rfl) hpf (by omega) (by decide) (epf _ (by omega)) ?_
      refine V.aload_n dX5_role_32 rfl ?_
      refine V.getf dX5_role_33 fl_X5_11 ht0 rfl ?_
      refine V.iload_n dX5_role_36 rfl ?_
      refine V.aaldN dX5_role_37 (Or.inr rfl) hsq (by omega) (by decide) (esq _ (by omega)) ?_
      refine V.getf dX5_role_38 fl_X5_120 hS rfl ?_
      refine V.putf dX5_role_41 fp_X5_123 (hpp _ (by omega)) (Nat.le_of_ble_eq_true rfl) (fun _ => ⟨rfl, rfl⟩) ?_
      refine V.aload_n dX5_role_44 rfl ?_
      refine V.getf dX5_role_45 fl_X5_18 (o_ne ht0 (by omega)) rfl ?_
      refine V.getf dX5_role_48 fl_X5_81 (o_ne hw0 (by omega)) rfl ?_
      refine V.iload_n dX5_role_51 rfl ?_
      refine V.aaldN dX5_role_52 (Or.inl rfl) (o_ne hpf (by omega)) (by omega) (by decide) (epf _ (by omega)) ?_
      refine V.aload_n dX5_role_53 rfl ?_
      refine V.getf dX5_role_54 fl_X5_11 (o_ne ht0 (by omega)) rfl ?_
      refine V.iload_n dX5_role_57 rfl ?_
      refine V.aaldN dX5_role_58 (Or.inr rfl) (o_ne hsq (by omega)) (by omega) (by decide) (esq _ (by omega)) ?_
      refine V.getf dX5_role_59 fl_X5_124 (o_ne hS (by omega)) rfl ?_
      refine V.putf dX5_role_62 fp_X5_127 (hset_self _ _ _) (Nat.le_of_ble_eq_true rfl) (fun _ => ⟨rfl, rfl⟩) ?_
      rw [hset_hset, pF_kind]
      refine V.aload_n dX5_role_65 rfl ?_
      refine V.getf dX5_role_66 fl_X5_11 (o_ne ht0 (by omega)) rfl ?_
      refine V.iload_n dX5_role_69 rfl ?_
      refine V.aaldN dX5_role_70 (Or.inr rfl) (o_ne hsq (by omega)) (by omega) (by decide) (esq _ (by omega)) ?_
      refine V.getf dX5_role_71 fl_X5_120 (o_ne hS (by omega)) rfl ?_
      refine V.iret (by exact dX5_role_74) rfl rfl ⟨by rw [roleV, if_pos c5, if_pos c18, clampI (show i < 2147483648 by omega), (hR hk).1], rfl, ?_, fun q hq => hset_ne _ _ (by omega)⟩
      rw [roleS, if_pos c5, if_pos c18, clampI (show p < 2147483648 by omega), clampI (show i < 2147483648 by omega), ← (hR hk).1, ← (hR hk).2]
      exact hc.wood (hw.role p (by omega) kd fg) (PR_lo hPR (fun j h1 h2 => by rw [roleU, pk_un (by omega), pk_un (by omega)])) ((Out.rf h 2).set _ _ (by omega) (by omega))
    · refine V.iload_n dX5_role_21 rfl ?_
      exact V.iret (by exact dX5_role_22) rfl rfl ⟨by simp only [roleV, c5, c18, not_true_eq_false, not_false_eq_true, if_true, if_false, decide_true, decide_false, Bool.and_true, Bool.and_false, Bool.true_and, Bool.false_and, Bool.or_true, Bool.or_false, Bool.true_or, Bool.false_or, Bool.not_true, Bool.not_false, and_true, and_false, true_and, false_and, or_true, or_false, true_or, false_or, bIt, bIf, Bool.false_eq_true, reduceCtorEq], rfl, by simp only [roleS, c5, c18, not_true_eq_false, not_false_eq_true, if_true, if_false, decide_true, decide_false, Bool.and_true, Bool.and_false, Bool.true_and, Bool.false_and, Bool.or_true, Bool.or_false, Bool.true_or, Bool.false_or, Bool.not_true, Bool.not_false, and_true, and_false, true_and, false_and, or_true, or_false, true_or, false_or, bIt, bIf, Bool.false_eq_true, reduceCtorEq]; exact hc, fun _ _ => rfl⟩
  · refine V.iconst (v := -1) dX5_role_8 (by decide) ?_
    exact V.iret (by exact dX5_role_9) rfl rfl ⟨by simp only [roleV, c5, not_true_eq_false, not_false_eq_true, if_true, if_false, decide_true, decide_false, Bool.and_true, Bool.and_false, Bool.true_and, Bool.false_and, Bool.or_true, Bool.or_false, Bool.true_or, Bool.false_or, Bool.not_true, Bool.not_false, and_true, and_false, true_and, false_and, or_true, or_false, true_or, false_or, bIt, bIf, Bool.false_eq_true, reduceCtorEq], rfl, by simp only [roleS, c5, not_true_eq_false, not_false_eq_true, if_true, if_false, decide_true, decide_false, Bool.and_true, Bool.and_false, Bool.true_and, Bool.false_and, Bool.or_true, Bool.or_false, Bool.true_or, Bool.false_or, Bool.not_true, Bool.not_false, and_true, and_false, true_and, false_and, or_true, or_false, true_or, false_or, bIt, bIf, Bool.false_eq_true, reduceCtorEq]; exact hc, fun _ _ => rfl⟩
set_option maxRecDepth 20000 in
set_option maxHeartbeats 4000000 in
theorem m_role (l : Launch) (d : Nat) (h : MH) (n : Nat) (K : KK) (b : Bool) (KI : KK) (S : SS) (m : Nat) (hc : ModAt h K b KI S) (hT : TI K m) (x y : Int32) : Sp l mX6_role (d + 3) [.ref 78, .int x, .int y] h n 0 0 (Qm (roleV K S x y) (roleS K S x y) b KI S h n) := by
  have hD := hT.1
  have hm := hD.1.1
  have hm10 := hD.1.2.1
  obtain ⟨⟨th, po, ba, en, tt, hm0⟩, ha, hb, ⟨Km, hmi⟩, ⟨Kr, hre⟩, h83, h84, h85, h86, h87, h88, ⟨X89, h89⟩, ⟨X90, h90⟩, ⟨X91, h91⟩, ⟨X92, h92⟩⟩ := id hc
  show V _ _ _ _ [some (.ref 78), some (.int x), some (.int y), none] _ _ _ _ _ _
  refine V.aload_n dX6_role_0 rfl ?_
  refine V.iload_n dX6_role_1 rfl ?_
  refine V.callVv [_] dX6_role_2 lk_X6_214 rfl (Nat.le_of_ble_eq_true rfl) (Nat.le_of_ble_eq_true rfl) hm0 rfl (m_isPlayer _ _ _ _ _ _ _ _ _ hc hT _) ?_
  refine V.if_eqB (tgt := 15) dX6_role_5 (by decide) (fun c5 => ?_) (fun c5 => ?_)
  · refine V.iconst (v := -1) dX6_role_15 (by decide) ?_
    exact V.iret (by exact dX6_role_16) rfl rfl ⟨by first | (simp only [roleV, c5, not_true_eq_false, not_false_eq_true, if_true, if_false, decide_true, decide_false, Bool.and_true, Bool.and_false, Bool.true_and, Bool.false_and, Bool.or_true, Bool.or_false, Bool.true_or, Bool.false_or, Bool.not_true, Bool.not_false, and_true, and_false, true_and, false_and, or_true, or_false, true_or, false_or, bIt, bIf, Bool.false_eq_true, reduceCtorEq]; done) | (simp only [roleV, wnV, c5, not_true_eq_false, not_false_eq_true, if_true, if_false, decide_true, decide_false, Bool.and_true, Bool.and_false, Bool.true_and, Bool.false_and, Bool.or_true, Bool.or_false, Bool.true_or, Bool.false_or, Bool.not_true, Bool.not_false, and_true, and_false, true_and, false_and, or_true, or_false, true_or, false_or, bIt, bIf, Bool.false_eq_true, reduceCtorEq, show ¬ (-1 : Int32) = 0 by decide]), rfl, by first | (simp only [roleS, c5, not_true_eq_false, not_false_eq_true, if_true, if_false, decide_true, decide_false, Bool.and_true, Bool.and_false, Bool.true_and, Bool.false_and, Bool.or_true, Bool.or_false, Bool.true_or, Bool.false_or, Bool.not_true, Bool.not_false, and_true, and_false, true_and, false_and, or_true, or_false, true_or, false_or, bIt, bIf, Bool.false_eq_true, reduceCtorEq]; exact hc) | (simp only [roleS, wnV, c5, not_true_eq_false, not_false_eq_true, if_true, if_false, decide_true, decide_false, Bool.and_true, Bool.and_false, Bool.true_and, Bool.false_and, Bool.or_true, Bool.or_false, Bool.true_or, Bool.false_or, Bool.not_true, Bool.not_false, and_true, and_false, true_and, false_and, or_true, or_false, true_or, false_or, bIt, bIf, Bool.false_eq_true, reduceCtorEq, show ¬ (-1 : Int32) = 0 by decide]; exact hc), fun _ _ => rfl⟩
  · refine V.iload_n dX6_role_8 rfl ?_
    refine V.callSv [_] dX6_role_9 lk_X6_157 rfl (Nat.le_of_ble_eq_true rfl) (Nat.le_of_ble_eq_true rfl) (s6_isShelf _ _ _ _ _) ?_
    refine V.if_neB (tgt := 17) dX6_role_12 (by decide) (fun c12 => ?_) (fun c12 => ?_)
    · refine V.aload_n dX6_role_17 rfl ?_
      refine V.iload_n dX6_role_18 rfl ?_
      refine V.callVv [_] dX6_role_19 lk_X6_220 rfl (Nat.le_of_ble_eq_true rfl) (Nat.le_of_ble_eq_true rfl) hm0 rfl (m_wrongRole _ _ _ _ _ _ _ _ _ hc hT _) ?_
      refine V.ist3 dX6_role_22 (by decide) rfl ?_
      refine V.iload_n dX6_role_23 rfl ?_
      refine V.if_eq (tgt := 29) dX6_role_24 (by decide) (fun c24 => ?_) (fun c24 => ?_)
      · obtain ⟨p, hp, rfl⟩ := pl_ex hm hm10 c5
        obtain ⟨i, hi, rfl, hk, hwi⟩ := wn_0 c24 (by decide)
        refine V.aload_n dX6_role_29 rfl ?_
        refine V.getf dX6_role_30 fl_X6_9 hm0 rfl ?_
        refine V.iload_n dX6_role_33 rfl ?_
        refine V.iconst (v := nI 1) dX6_role_34 (by decide) ?_
        refine V.aload_n dX6_role_35 rfl ?_
        refine V.getf dX6_role_36 fl_X6_34 hm0 rfl ?_
        refine V.iload_n dX6_role_39 rfl ?_
        refine V.ialdN dX6_role_40 h87 (by omega) (by decide) ?_
        refine V.callSu [_, _, _, _] dX6_role_41 lk_X6_86 rfl (Nat.le_of_ble_eq_true rfl) (Nat.le_of_ble_eq_true rfl) (s6_puts _ _ _ _ _ _ ha _ _ _ (by omega) (by omega)) ?_
        refine V.aload_n dX6_role_44 rfl ?_
        refine V.getf dX6_role_45 fl_X6_9 (o_ne hm0 (by decide)) rfl ?_
        refine V.iload_n dX6_role_48 rfl ?_
        refine V.iconst (v := nI 2) dX6_role_49 (by decide) ?_
        refine V.aload_n dX6_role_50 rfl ?_
        refine V.getf dX6_role_51 fl_X6_37 (o_ne hm0 (by decide)) rfl ?_
        refine V.iload_n dX6_role_54 rfl ?_
        refine V.ialdN dX6_role_55 (o_ne h88 (by decide)) (by omega) (by decide) ?_
        refine V.callSu [_, _, _, _] dX6_role_56 lk_X6_86 rfl (Nat.le_of_ble_eq_true rfl) (Nat.le_of_ble_eq_true rfl) (s6_puts _ _ _ _ _ _ (hset_self _ _ _) _ _ _ (by omega) (by omega)) ?_
        rw [hset_hset]
        refine V.aload_n dX6_role_59 rfl ?_
        refine V.getf dX6_role_60 fl_X6_34 (o_ne hm0 (by decide)) rfl ?_
        refine V.iload_n dX6_role_63 rfl ?_
        refine V.ialdN dX6_role_64 (o_ne h87 (by decide)) (by omega) (by decide) ?_
        refine V.iret (by exact dX6_role_65) rfl rfl ⟨by rw [roleV, if_pos c5, if_pos c24, clampI (show i < 2147483648 by omega)], rfl, ?_, fun q hq => hset_ne _ _ (by omega)⟩
        rw [roleS, if_pos c5, if_pos c24, clampI (show p < 2147483648 by omega), clampI (show i < 2147483648 by omega)]
        exact hc.s _
      · refine V.iload_n dX6_role_27 rfl ?_
        exact V.iret (by exact dX6_role_28) rfl rfl ⟨by simp only [roleV, c5, c12, c24, not_true_eq_false, not_false_eq_true, if_true, if_false, decide_true, decide_false, Bool.and_true, Bool.and_false, Bool.true_and, Bool.false_and, Bool.or_true, Bool.or_false, Bool.true_or, Bool.false_or, Bool.not_true, Bool.not_false, and_true, and_false, true_and, false_and, or_true, or_false, true_or, false_or, bIt, bIf, Bool.false_eq_true, reduceCtorEq], rfl, by simp only [roleS, c5, c12, c24, not_true_eq_false, not_false_eq_true, if_true, if_false, decide_true, decide_false, Bool.and_true, Bool.and_false, Bool.true_and, Bool.false_and, Bool.or_true, Bool.or_false, Bool.true_or, Bool.false_or, Bool.not_true, Bool.not_false, and_true, and_false, true_and, false_and, or_true, or_false, true_or, false_or, bIt, bIf, Bool.false_eq_true, reduceCtorEq]; exact hc, fun _ _ => rfl⟩
    · refine V.iconst (v := -1) dX6_role_15 (by decide) ?_
      exact V.iret (by exact dX6_role_16) rfl rfl ⟨by first | (simp only [roleV, c5, c12, not_true_eq_false, not_false_eq_true, if_true, if_false, decide_true, decide_false, Bool.and_true, Bool.and_false, Bool.true_and, Bool.false_and, Bool.or_true, Bool.or_false, Bool.true_or, Bool.false_or, Bool.not_true, Bool.not_false, and_true, and_false, true_and, false_and, or_true, or_false, true_or, false_or, bIt, bIf, Bool.false_eq_true, reduceCtorEq]; done) | (simp only [roleV, wnV, c5, c12, not_true_eq_false, not_false_eq_true, if_true, if_false, decide_true, decide_false, Bool.and_true, Bool.and_false, Bool.true_and, Bool.false_and, Bool.or_true, Bool.or_false, Bool.true_or, Bool.false_or, Bool.not_true, Bool.not_false, and_true, and_false, true_and, false_and, or_true, or_false, true_or, false_or, bIt, bIf, Bool.false_eq_true, reduceCtorEq, show ¬ (-1 : Int32) = 0 by decide]), rfl, by first | (simp only [roleS, c5, c12, not_true_eq_false, not_false_eq_true, if_true, if_false, decide_true, decide_false, Bool.and_true, Bool.and_false, Bool.true_and, Bool.false_and, Bool.or_true, Bool.or_false, Bool.true_or, Bool.false_or, Bool.not_true, Bool.not_false, and_true, and_false, true_and, false_and, or_true, or_false, true_or, false_or, bIt, bIf, Bool.false_eq_true, reduceCtorEq]; exact hc) | (simp only [roleS, wnV, c5, c12, not_true_eq_false, not_false_eq_true, if_true, if_false, decide_true, decide_false, Bool.and_true, Bool.and_false, Bool.true_and, Bool.false_and, Bool.or_true, Bool.or_false, Bool.true_or, Bool.false_or, Bool.not_true, Bool.not_false, and_true, and_false, true_and, false_and, or_true, or_false, true_or, false_or, bIt, bIf, Bool.false_eq_true, reduceCtorEq, show ¬ (-1 : Int32) = 0 by decide]; exact hc), fun _ _ => rfl⟩
