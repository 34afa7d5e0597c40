set_option maxRecDepth 20000 in
set_option maxHeartbeats 4000000 in
theorem s3_takeRole (l : Launch) (d : Nat) (h : MH) (n q a : Nat) (ho kd fg so sz : Int32) (hS : h q = some (.inr (3, shF ho kd fg so sz a))) (k g : Int32) : Sp l mX3_takeRole d [.ref q, .int k, .int g] h n 0 0 (Pu (hset h q (.inr (3, shF (nI 1) k g so sz a))) n) := by
  show V _ _ _ _ [some (.ref q), some (.int k), some (.int g)] _ _ _ _ _ _
  refine V.aload_n dX3_takeRole_0 rfl ?_
  refine V.iconst (v := nI 1) dX3_takeRole_1 (by decide) ?_
  refine V.putf dX3_takeRole_2 fp_X3_9 hS (Nat.le_of_ble_eq_true rfl) (fun _ => ⟨rfl, rfl⟩) ?_
  refine V.aload_n dX3_takeRole_5 rfl ?_
  refine V.iload_n dX3_takeRole_6 rfl ?_
  refine V.putf dX3_takeRole_7 fp_X3_19 (hset_self _ _ _) (Nat.le_of_ble_eq_true rfl) (fun _ => ⟨rfl, rfl⟩) ?_
  rw [hset_hset]
  refine V.aload_n dX3_takeRole_10 rfl ?_
  refine V.iload_n dX3_takeRole_11 rfl ?_
  refine V.putf dX3_takeRole_12 fp_X3_22 (hset_self _ _ _) (Nat.le_of_ble_eq_true rfl) (fun _ => ⟨rfl, rfl⟩) ?_
  rw [hset_hset]
  exact V.vretP (by exact dX3_takeRole_15) rfl rfl
set_option maxRecDepth 20000 in
set_option maxHeartbeats 4000000 in
theorem s3_takeRow_loop (l : Launch) (d : Nat) (h : MH) (n q a : Nat) (ho kd fg so sz : Int32) (hS : h q = some (.inr (3, shF ho kd fg so sz a))) (hqa : q ≠ a) (y g : Int32) : ∀ (r i : Nat) (X : Nat → Int32), (∀ j, j < i → X j = nI 0) → i + r = 100 → V l mX3_takeRow d 17 [some (.ref q), some (.int y), some (.int g), some (.int (nI i))] [] (hset h a (.inl (0, 100, .inl X))) n 0 0 (Pu (hset h a (.inl (0, 100, .inl (fun _ => nI 0)))) n) := by
  intro r
  induction r with
  | zero =>
    intro i X hX hi
    refine V.iload_n dX3_takeRow_17 rfl ?_
    refine V.bipush (v := nI 100) dX3_takeRow_18 (by decide) ?_
    refine V.icmp_geN (tgt := 36) dX3_takeRow_20 (by decide) (by omega) (by omega) (fun _ => ?_) (fun q => absurd q (by omega))
    refine V.ext (g := fun _ => nI 0) (hset_self _ _ _) (fun j hj => (hX j (by omega)).symm) ?_
    rw [hset_hset]
    exact V.vretP (by exact dX3_takeRow_36) rfl rfl
  | succ r ih =>
    intro i X hX hi
    refine V.iload_n dX3_takeRow_17 rfl ?_
    refine V.bipush (v := nI 100) dX3_takeRow_18 (by decide) ?_
    refine V.icmp_geN (tgt := 36) dX3_takeRow_20 (by decide) (by omega) (by omega) (fun q => absurd q (by omega)) (fun _ => ?_)
    refine V.aload_n dX3_takeRow_23 rfl ?_
    refine V.getf dX3_takeRow_24 fl_X3_15 (o_ne hS hqa) rfl ?_
    refine V.iload_n dX3_takeRow_27 rfl ?_
    refine V.iconst (v := nI 0) dX3_takeRow_28 (by decide) ?_
    refine V.iastN dX3_takeRow_29 (hset_self _ _ _) (by omega) (by decide) ?_
    rw [hset_hset]
    refine V.inN3 dX3_takeRow_30 (by decide) rfl ?_
    refine V.goto (tgt := 17) dX3_takeRow_33 (by decide) ?_
    refine ih (i + 1) _ (fun j hj => ?_) (by omega)
    by_cases y : j = i
    · subst y; rw [pk_us]
    · rw [pk_un y]; exact hX j (by omega)
set_option maxRecDepth 20000 in
set_option maxHeartbeats 4000000 in
theorem s3_takeRow (l : Launch) (d : Nat) (h : MH) (n q a : Nat) (ho kd fg so sz : Int32) (hS : h q = some (.inr (3, shF ho kd fg so sz a))) (hqa : q ≠ a) (el : Nat → Int32) (hE : h a = some (ia 100 el)) (y g : Int32) : Sp l mX3_takeRow d [.ref q, .int y, .int g] h n 0 0 (Pu (hset (hset h q (.inr (3, shF (nI 2) kd fg y g a))) a (.inl (0, 100, .inl (fun _ => nI 0)))) n) := by
  show V _ _ _ _ [some (.ref q), some (.int y), some (.int g), none] _ _ _ _ _ _
  refine V.aload_n dX3_takeRow_0 rfl ?_
  refine V.iconst (v := nI 2) dX3_takeRow_1 (by decide) ?_
  refine V.putf dX3_takeRow_2 fp_X3_9 hS (Nat.le_of_ble_eq_true rfl) (fun _ => ⟨rfl, rfl⟩) ?_
  refine V.aload_n dX3_takeRow_5 rfl ?_
  refine V.iload_n dX3_takeRow_6 rfl ?_
  refine V.putf dX3_takeRow_7 fp_X3_25 (hset_self _ _ _) (Nat.le_of_ble_eq_true rfl) (fun _ => ⟨rfl, rfl⟩) ?_
  rw [hset_hset]
  refine V.aload_n dX3_takeRow_10 rfl ?_
  refine V.iload_n dX3_takeRow_11 rfl ?_
  refine V.putf dX3_takeRow_12 fp_X3_28 (hset_self _ _ _) (Nat.le_of_ble_eq_true rfl) (fun _ => ⟨rfl, rfl⟩) ?_
  rw [hset_hset]
  refine V.iconst (v := nI 0) dX3_takeRow_15 (by decide) ?_
  refine V.ist3 dX3_takeRow_16 (by decide) rfl ?_
  have key := s3_takeRow_loop l d (hset h q (.inr (3, shF (nI 2) kd fg y g a))) n q a (nI 2) kd fg y g (hset_self _ _ _) hqa y g 100 0 el (fun j hj => absurd hj (by omega)) (by omega)
  have hE2 : h a = some (.inl (0, 100, .inl el)) := hE
  rw [hset_id (o_ne hE2 (Ne.symm hqa))] at key
  exact key
def keepOk (x y k g : Int32) : Bool := wi x (nI 0) (nI 7) && (wi y (nI 0) (nI 1) && (decide (y = nI 0) || (wi k (nI 0) (nI 7) && wi g (nI 0) (nI 9))))
def keepU (S : SS) (i : Nat) (y k g : Int32) : SS := fun v => if v = 5 then upd (S 5) i g else if v = 4 then upd (S 4) i k else if v = 0 then upd (S 0) i y else S v
def keepV (x y k g : Int32) : Int32 := if keepOk x y k g = true then nI 0 else -1
def keepS (S : SS) (x y k g : Int32) : SS := if keepOk x y k g = true then keepU S x.toNatClampNeg y k g else S
theorem keep_ag (S : SS) (i : Nat) (y k g : Int32) (j : Nat) (hj : j ≠ i) : SAg S (keepU S i y k g) j := ⟨pk_un hj, rfl, rfl, pk_un hj, pk_un hj, fun _ _ => rfl⟩
set_option maxRecDepth 20000 in
set_option maxHeartbeats 4000000 in
theorem x_keep (l : Launch) (d : Nat) (h : MH) (n : Nat) (K : KK) (b : Bool) (KI : KK) (S : SS) (m : Nat) (hc : ClsAt h K b KI S) (hT : TI K m) (x y k g : Int32) : Sp l mX5_keep (d + 2) [.ref 0, .int x, .int y, .int k, .int g] h n 0 0 (Qx (keepV x y k g) K b KI (keepS S x y k g) h n) := by
  have hD := hT.1
  have hm := hD.1.1
  have hm10 := hD.1.2.1
  obtain ⟨ht0, ⟨sq, hsq, esq⟩, ⟨cl, P, pn, hw, hPR⟩, ⟨Km, clm, Pm, pm, hwm⟩, ⟨KJ, clJ, PJ, pJ, hwJ, hJ⟩, ⟨rb, rx, ry, hrd⟩, hsc, ⟨co, hco⟩, ⟨se, hse⟩, hsh⟩ := id hc
  obtain ⟨hw0, ⟨gr, hgr, egr⟩, ⟨ru, hru, eru⟩, ⟨pq, hpf, epf⟩, hpl, ⟨fl, hfl, efl⟩, ⟨ca, hca, eca⟩, ⟨wa, hwa⟩, hpp, hhd⟩ := id hw
  show V _ _ _ _ [some (.ref 0), some (.int x), some (.int y), some (.int k), some (.int g)] _ _ _ _ _ _
  refine V.iload_n dX5_keep_0 rfl ?_
  refine V.callSv [_] dX5_keep_1 lk_X5_191 rfl (Nat.le_of_ble_eq_true rfl) (Nat.le_of_ble_eq_true rfl) (s5_isShelf _ _ _ _ _) ?_
  refine V.if_eqB (tgt := 16) dX5_keep_4 (by decide) (fun c4 => ?_) (fun c4 => ?_)
  · refine V.iconst (v := -1) dX5_keep_16 (by decide) ?_
    exact V.iret (by exact dX5_keep_17) rfl rfl ⟨by simp only [keepV, keepS, keepOk, c4, not_true_eq_false, not_false_eq_true, if_true, if_false, decide_true, decide_false, Bool.and_true, Bool.and_false, Bool.true_and, Bool.false_and, Bool.or_true, Bool.or_false, Bool.true_or, Bool.false_or, Bool.not_true, Bool.not_false, and_true, and_false, true_and, false_and, or_true, or_false, true_or, false_or, bIt, bIf, Bool.false_eq_true, reduceCtorEq], rfl, by simp only [keepV, keepS, keepOk, c4, not_true_eq_false, not_false_eq_true, if_true, if_false, decide_true, decide_false, Bool.and_true, Bool.and_false, Bool.true_and, Bool.false_and, Bool.or_true, Bool.or_false, Bool.true_or, Bool.false_or, Bool.not_true, Bool.not_false, and_true, and_false, true_and, false_and, or_true, or_false, true_or, false_or, bIt, bIf, Bool.false_eq_true, reduceCtorEq]; exact hc, fun _ _ => rfl⟩
  · refine V.iload_n dX5_keep_7 rfl ?_
    refine V.iconst (v := nI 0) dX5_keep_8 (by decide) ?_
    refine V.iconst (v := nI 1) dX5_keep_9 (by decide) ?_
    refine V.callSv [_, _, _] dX5_keep_10 lk_X5_71 rfl (Nat.le_of_ble_eq_true rfl) (Nat.le_of_ble_eq_true rfl) (s5_within _ _ _ _ _ _ _) ?_
    refine V.if_neB (tgt := 18) dX5_keep_13 (by decide) (fun c13 => ?_) (fun c13 => ?_)
    · refine V.iload_n dX5_keep_18 rfl ?_
      refine V.if_ne (tgt := 34) dX5_keep_19 (by decide) (fun c19 => ?_) (fun c19 => ?_)
      · refine V.iload_n dX5_keep_34 rfl ?_
        refine V.callSv [_] dX5_keep_35 lk_X5_261 rfl (Nat.le_of_ble_eq_true rfl) (Nat.le_of_ble_eq_true rfl) (s5_isKind _ _ _ _ _) ?_
        refine V.if_eqB (tgt := 49) dX5_keep_38 (by decide) (fun c38 => ?_) (fun c38 => ?_)
        · refine V.iconst (v := -1) dX5_keep_49 (by decide) ?_
          have hok : keepOk x y k g = false := by simp only [keepOk, c4, c13, c19, c38, show ¬ y = nI 0 from c19, not_true_eq_false, not_false_eq_true, if_true, if_false, decide_true, decide_false, Bool.and_true, Bool.and_false, Bool.true_and, Bool.false_and, Bool.or_true, Bool.or_false, Bool.true_or, Bool.false_or, Bool.not_true, Bool.not_false, and_true, and_false, true_and, false_and, or_true, or_false, true_or, false_or, bIt, bIf, Bool.false_eq_true, reduceCtorEq]
          exact V.iret (by exact dX5_keep_50) rfl rfl ⟨by rw [keepV, hok]; rfl, rfl, by rw [keepS, hok]; exact hc, fun _ _ => rfl⟩
        · refine V.iload dX5_keep_41 rfl ?_
          refine V.callSv [_] dX5_keep_43 lk_X5_194 rfl (Nat.le_of_ble_eq_true rfl) (Nat.le_of_ble_eq_true rfl) (s5_isFigure _ _ _ _ _) ?_
          refine V.if_neB (tgt := 51) dX5_keep_46 (by decide) (fun c46 => ?_) (fun c46 => ?_)
          · obtain ⟨i, hi, rfl⟩ := wi_ex (by decide) c4
            obtain ⟨kd, fg, so, sz, el, hS, hE, hR, hW⟩ := hsh i (by omega)
            have hy1 : y = nI 1 := by
              obtain ⟨e, he, rfl⟩ := wi_ex (by decide) c13
              rcases (show e = 0 ∨ e = 1 by omega) with rfl | rfl
              · exact absurd rfl c19
              · rfl
            subst hy1
            have hok : keepOk (nI i) (nI 1) k g = true := by simp only [keepOk, c4, c13, c38, c46, not_true_eq_false, not_false_eq_true, if_true, if_false, decide_true, decide_false, Bool.and_true, Bool.and_false, Bool.true_and, Bool.false_and, Bool.or_true, Bool.or_false, Bool.true_or, Bool.false_or, Bool.not_true, Bool.not_false, and_true, and_false, true_and, false_and, or_true, or_false, true_or, false_or, bIt, bIf, Bool.false_eq_true, reduceCtorEq]
            refine V.aload_n dX5_keep_51 rfl ?_
            refine V.getf dX5_keep_52 fl_X5_11 ht0 rfl ?_
            refine V.iload_n dX5_keep_55 rfl ?_
            refine V.aaldN dX5_keep_56 (Or.inr rfl) hsq (by omega) (by decide) (esq _ (by omega)) ?_
            refine V.iload_n dX5_keep_57 rfl ?_
            refine V.iload dX5_keep_58 rfl ?_
            refine V.callVu [_, _] dX5_keep_60 lk_X5_264 rfl (Nat.le_of_ble_eq_true rfl) (Nat.le_of_ble_eq_true rfl) hS rfl (s3_takeRole _ _ _ _ _ _ _ _ _ _ _ hS _ _) ?_
            refine V.iconst (v := nI 0) dX5_keep_63 (by decide) ?_
            refine V.iret (by exact dX5_keep_64) rfl rfl ⟨by rw [keepV, if_pos hok], rfl, ?_, fun q hq => hset_ne _ _ (by omega)⟩
            rw [keepS, if_pos hok, clampI (show i < 2147483648 by omega)]
            exact hc.shelf (by omega) ⟨k, g, so, sz, el, (hset_self _ _ _).trans (by rw [show keepU S i (nI 1) k g 0 i = nI 1 from pk_us]), o_ne hE (by omega), fun _ => ⟨(show keepU S i (nI 1) k g 4 i = k from pk_us).symm, (show keepU S i (nI 1) k g 5 i = g from pk_us).symm⟩, fun q => absurd ((show keepU S i (nI 1) k g 0 i = nI 1 from pk_us).symm.trans q) (by decide)⟩ (fun j _ hj => keep_ag S i _ k g j hj) (fun q q1 q2 => hset_ne _ _ q1)
          · refine V.iconst (v := -1) dX5_keep_49 (by decide) ?_
            have hok : keepOk x y k g = false := by simp only [keepOk, c4, c13, c19, c38, c46, show ¬ y = nI 0 from c19, not_true_eq_false, not_false_eq_true, if_true, if_false, decide_true, decide_false, Bool.and_true, Bool.and_false, Bool.true_and, Bool.false_and, Bool.or_true, Bool.or_false, Bool.true_or, Bool.false_or, Bool.not_true, Bool.not_false, and_true, and_false, true_and, false_and, or_true, or_false, true_or, false_or, bIt, bIf, Bool.false_eq_true, reduceCtorEq]
            exact V.iret (by exact dX5_keep_50) rfl rfl ⟨by rw [keepV, hok]; rfl, rfl, by rw [keepS, hok]; exact hc, fun _ _ => rfl⟩
      · obtain ⟨i, hi, rfl⟩ := wi_ex (by decide) c4
        obtain ⟨kd, fg, so, sz, el, hS, hE, hR, hW⟩ := hsh i (by omega)
        have hy0 : y = nI 0 := c19.trans i0
        subst hy0
        have hok : keepOk (nI i) (nI 0) k g = true := by simp only [keepOk, c4, c13, not_true_eq_false, not_false_eq_true, if_true, if_false, decide_true, decide_false, Bool.and_true, Bool.and_false, Bool.true_and, Bool.false_and, Bool.or_true, Bool.or_false, Bool.true_or, Bool.false_or, Bool.not_true, Bool.not_false, and_true, and_false, true_and, false_and, or_true, or_false, true_or, false_or, bIt, bIf, Bool.false_eq_true, reduceCtorEq]
        refine V.aload_n dX5_keep_22 rfl ?_
        refine V.getf dX5_keep_23 fl_X5_11 ht0 rfl ?_
        refine V.iload_n dX5_keep_26 rfl ?_
        refine V.aaldN dX5_keep_27 (Or.inr rfl) hsq (by omega) (by decide) (esq _ (by omega)) ?_
        refine V.iconst (v := nI 0) dX5_keep_28 (by decide) ?_
        refine V.putf dX5_keep_29 fp_X5_197 (by assumption) (Nat.le_of_ble_eq_true rfl) (fun _ => ⟨rfl, rfl⟩) ?_
        refine V.iconst (v := nI 0) dX5_keep_32 (by decide) ?_
        refine V.iret (by exact dX5_keep_33) rfl rfl ⟨by rw [keepV, if_pos hok], rfl, ?_, fun q hq => hset_ne _ _ (by omega)⟩
        rw [keepS, if_pos hok, clampI (show i < 2147483648 by omega)]
        exact hc.shelf (by omega) ⟨kd, fg, so, sz, el, (hset_self _ _ _).trans (by rw [show keepU S i (nI 0) k g 0 i = nI 0 from pk_us]; rfl), o_ne hE (by omega), fun q => absurd ((show keepU S i (nI 0) k g 0 i = nI 0 from pk_us).symm.trans q) (by decide), fun q => absurd ((show keepU S i (nI 0) k g 0 i = nI 0 from pk_us).symm.trans q) (by decide)⟩ (fun j _ hj => keep_ag S i _ k g j hj) (fun q q1 q2 => hset_ne _ _ q1)
    · refine V.iconst (v := -1) dX5_keep_16 (by decide) ?_
      exact V.iret (by exact dX5_keep_17) rfl rfl ⟨by simp only [keepV, keepS, keepOk, c4, c13, not_true_eq_false, not_false_eq_true, if_true, if_false, decide_true, decide_false, Bool.and_true, Bool.and_false, Bool.true_and, Bool.false_and, Bool.or_true, Bool.or_false, Bool.true_or, Bool.false_or, Bool.not_true, Bool.not_false, and_true, and_false, true_and, false_and, or_true, or_false, true_or, false_or, bIt, bIf, Bool.false_eq_true, reduceCtorEq], rfl, by simp only [keepV, keepS, keepOk, c4, c13, not_true_eq_false, not_false_eq_true, if_true, if_false, decide_true, decide_false, Bool.and_true, Bool.and_false, Bool.true_and, Bool.false_and, Bool.or_true, Bool.or_false, Bool.true_or, Bool.false_or, Bool.not_true, Bool.not_false, and_true, and_false, true_and, false_and, or_true, or_false, true_or, false_or, bIt, bIf, Bool.false_eq_true, reduceCtorEq]; exact hc, fun _ _ => rfl⟩
set_option maxRecDepth 20000 in
set_option maxHeartbeats 4000000 in
theorem m_keep (l : Launch) (d : Nat) (h : MH) (n : Nat) (K : KK) (b : Bool) (KI : KK) (S : SS) (m : Nat) (hc : ModAt h K b KI S) (hT : TI K m) (x y k g : Int32) : Sp l mX6_keep (d + 2) [.ref 78, .int x, .int y, .int k, .int g] h n 0 0 (Qm (keepV x y k g) K b KI (keepS S x y k g) h n) := by
  have hD := hT.1
  have hm := hD.1.1
  have hm10 := hD.1.2.1
  obtain ⟨⟨th, po, ba, en, tt, hm0⟩, ha, hb, ⟨Km, hmi⟩, ⟨Kr, hre⟩, h83, h84, h85, h86, h87, h88, ⟨X89, h89⟩, ⟨X90, h90⟩, ⟨X91, h91⟩, ⟨X92, h92⟩⟩ := id hc
  show V _ _ _ _ [some (.ref 78), some (.int x), some (.int y), some (.int k), some (.int g)] _ _ _ _ _ _
  refine V.iload_n dX6_keep_0 rfl ?_
  refine V.callSv [_] dX6_keep_1 lk_X6_157 rfl (Nat.le_of_ble_eq_true rfl) (Nat.le_of_ble_eq_true rfl) (s6_isShelf _ _ _ _ _) ?_
  refine V.if_eqB (tgt := 47) dX6_keep_4 (by decide) (fun c4 => ?_) (fun c4 => ?_)
  · refine V.iconst (v := -1) dX6_keep_47 (by decide) ?_
    have hok : keepOk x y k g = false := by
      first
      | (simp only [keepOk, c4, not_true_eq_false, not_false_eq_true, if_true, if_false, decide_true, decide_false, Bool.and_true, Bool.and_false, Bool.true_and, Bool.false_and, Bool.or_true, Bool.or_false, Bool.true_or, Bool.false_or, Bool.not_true, Bool.not_false, and_true, and_false, true_and, false_and, or_true, or_false, true_or, false_or, bIt, bIf, Bool.false_eq_true, reduceCtorEq]; done)
      | (simp only [keepOk, c4, show ¬ y = nI 0 from fun q => absurd (q.symm.trans c19) (by decide), not_true_eq_false, not_false_eq_true, if_true, if_false, decide_true, decide_false, Bool.and_true, Bool.and_false, Bool.true_and, Bool.false_and, Bool.or_true, Bool.or_false, Bool.true_or, Bool.false_or, Bool.not_true, Bool.not_false, and_true, and_false, true_and, false_and, or_true, or_false, true_or, false_or, bIt, bIf, Bool.false_eq_true, reduceCtorEq])
    exact V.iret (by exact dX6_keep_48) rfl rfl ⟨by rw [keepV, hok]; rfl, rfl, by rw [keepS, hok]; exact hc, fun _ _ => rfl⟩
  · refine V.iload_n dX6_keep_7 rfl ?_
    refine V.i2l dX6_keep_8 ?_
    refine V.lconst (v := 0) dX6_keep_9 (by decide) ?_
    refine V.lconst (v := 1) dX6_keep_10 (by decide) ?_
    refine V.callSv [_, _, _] dX6_keep_11 lk_X6_62 rfl (Nat.le_of_ble_eq_true rfl) (Nat.le_of_ble_eq_true rfl) (s6_isInC _ _ _ (nI 0) (nI 1) (by decide) (by decide) _ _) ?_
    refine V.if_eqB (tgt := 47) dX6_keep_14 (by decide) (fun c14 => ?_) (fun c14 => ?_)
    · refine V.iconst (v := -1) dX6_keep_47 (by decide) ?_
      have hok : keepOk x y k g = false := by
        first
        | (simp only [keepOk, c4, c14, not_true_eq_false, not_false_eq_true, if_true, if_false, decide_true, decide_false, Bool.and_true, Bool.and_false, Bool.true_and, Bool.false_and, Bool.or_true, Bool.or_false, Bool.true_or, Bool.false_or, Bool.not_true, Bool.not_false, and_true, and_false, true_and, false_and, or_true, or_false, true_or, false_or, bIt, bIf, Bool.false_eq_true, reduceCtorEq]; done)
        | (simp only [keepOk, c4, c14, show ¬ y = nI 0 from fun q => absurd (q.symm.trans c19) (by decide), not_true_eq_false, not_false_eq_true, if_true, if_false, decide_true, decide_false, Bool.and_true, Bool.and_false, Bool.true_and, Bool.false_and, Bool.or_true, Bool.or_false, Bool.true_or, Bool.false_or, Bool.not_true, Bool.not_false, and_true, and_false, true_and, false_and, or_true, or_false, true_or, false_or, bIt, bIf, Bool.false_eq_true, reduceCtorEq])
      exact V.iret (by exact dX6_keep_48) rfl rfl ⟨by rw [keepV, hok]; rfl, rfl, by rw [keepS, hok]; exact hc, fun _ _ => rfl⟩
    · refine V.iload_n dX6_keep_17 rfl ?_
      refine V.iconst (v := nI 1) dX6_keep_18 (by decide) ?_
      refine V.icmp_ne (tgt := 49) dX6_keep_19 (by decide) (fun c19 => ?_) (fun c19 => ?_)
      · obtain ⟨i, hi, rfl⟩ := wi_ex (by decide) c4
        refine V.aload_n dX6_keep_49 rfl ?_
        refine V.getf dX6_keep_50 fl_X6_22 hm0 rfl ?_
        refine V.iload_n dX6_keep_53 rfl ?_
        refine V.iload_n dX6_keep_54 rfl ?_
        refine V.iastN dX6_keep_55 h83 (by omega) (by decide) ?_
        refine V.aload_n dX6_keep_56 rfl ?_
        refine V.getf dX6_keep_57 fl_X6_34 (o_ne hm0 (by decide)) rfl ?_
        refine V.iload_n dX6_keep_60 rfl ?_
        refine V.iload_n dX6_keep_61 rfl ?_
        refine V.iastN dX6_keep_62 (o_ne h87 (by decide)) (by omega) (by decide) ?_
        refine V.aload_n dX6_keep_63 rfl ?_
        refine V.getf dX6_keep_64 fl_X6_37 (o_ne (o_ne hm0 (by decide)) (by decide)) rfl ?_
        refine V.iload_n dX6_keep_67 rfl ?_
        refine V.iload dX6_keep_68 rfl ?_
        refine V.iastN dX6_keep_70 (o_ne (o_ne h88 (by decide)) (by decide)) (by omega) (by decide) ?_
        refine V.iconst (v := nI 0) dX6_keep_71 (by decide) ?_
        have hok : keepOk (nI i) y k g = true := by
          first
          | (simp only [keepOk, c4, c14, c19, not_true_eq_false, not_false_eq_true, if_true, if_false, decide_true, decide_false, Bool.and_true, Bool.and_false, Bool.true_and, Bool.false_and, Bool.or_true, Bool.or_false, Bool.true_or, Bool.false_or, Bool.not_true, Bool.not_false, and_true, and_false, true_and, false_and, or_true, or_false, true_or, false_or, bIt, bIf, Bool.false_eq_true, reduceCtorEq]; done)
          | (obtain ⟨e, he, rfl⟩ := wi_ex (by decide) c14
             rcases (show e = 0 ∨ e = 1 by omega) with rfl | rfl
             · simp only [keepOk, c4, c14, c19, not_true_eq_false, not_false_eq_true, if_true, if_false, decide_true, decide_false, Bool.and_true, Bool.and_false, Bool.true_and, Bool.false_and, Bool.or_true, Bool.or_false, Bool.true_or, Bool.false_or, Bool.not_true, Bool.not_false, and_true, and_false, true_and, false_and, or_true, or_false, true_or, false_or, bIt, bIf, Bool.false_eq_true, reduceCtorEq]
             · exact absurd rfl c19)
        refine V.iret (by exact dX6_keep_72) rfl rfl ⟨by rw [keepV, if_pos hok], rfl, ?_, fun q hq => by rw [hset_ne _ _ (by omega), hset_ne _ _ (by omega), hset_ne _ _ (by omega)]⟩
        rw [keepS, if_pos hok, clampI (show i < 2147483648 by omega)]
        exact ((hc.sh0 _).sh4 _).sh5 _
      · refine V.iload_n dX6_keep_22 rfl ?_
        refine V.i2l dX6_keep_23 ?_
        refine V.lconst (v := 0) dX6_keep_24 (by decide) ?_
        refine V.ldc2 dX6_keep_25 cn_X6_60 ?_
        refine V.callSv [_, _, _] dX6_keep_28 lk_X6_62 rfl (Nat.le_of_ble_eq_true rfl) (Nat.le_of_ble_eq_true rfl) (s6_isInC _ _ _ (nI 0) (nI 7) (by decide) (by decide) _ _) ?_
        refine V.if_eqB (tgt := 47) dX6_keep_31 (by decide) (fun c31 => ?_) (fun c31 => ?_)
        · refine V.iconst (v := -1) dX6_keep_47 (by decide) ?_
          have hok : keepOk x y k g = false := by
            first
            | (simp only [keepOk, c4, c14, eq_true c19, c31, not_true_eq_false, not_false_eq_true, if_true, if_false, decide_true, decide_false, Bool.and_true, Bool.and_false, Bool.true_and, Bool.false_and, Bool.or_true, Bool.or_false, Bool.true_or, Bool.false_or, Bool.not_true, Bool.not_false, and_true, and_false, true_and, false_and, or_true, or_false, true_or, false_or, bIt, bIf, Bool.false_eq_true, reduceCtorEq]; done)
            | (simp only [keepOk, c4, c14, eq_true c19, c31, show ¬ y = nI 0 from fun q => absurd (q.symm.trans c19) (by decide), not_true_eq_false, not_false_eq_true, if_true, if_false, decide_true, decide_false, Bool.and_true, Bool.and_false, Bool.true_and, Bool.false_and, Bool.or_true, Bool.or_false, Bool.true_or, Bool.false_or, Bool.not_true, Bool.not_false, and_true, and_false, true_and, false_and, or_true, or_false, true_or, false_or, bIt, bIf, Bool.false_eq_true, reduceCtorEq])
          exact V.iret (by exact dX6_keep_48) rfl rfl ⟨by rw [keepV, hok]; rfl, rfl, by rw [keepS, hok]; exact hc, fun _ _ => rfl⟩
        · refine V.iload dX6_keep_34 rfl ?_
          refine V.i2l dX6_keep_36 ?_
          refine V.lconst (v := 0) dX6_keep_37 (by decide) ?_
          refine V.ldc2 dX6_keep_38 cn_X6_277 ?_
          refine V.callSv [_, _, _] dX6_keep_41 lk_X6_62 rfl (Nat.le_of_ble_eq_true rfl) (Nat.le_of_ble_eq_true rfl) (s6_isInC _ _ _ (nI 0) (nI 9) (by decide) (by decide) _ _) ?_
          refine V.if_neB (tgt := 49) dX6_keep_44 (by decide) (fun c44 => ?_) (fun c44 => ?_)
          · obtain ⟨i, hi, rfl⟩ := wi_ex (by decide) c4
            refine V.aload_n dX6_keep_49 rfl ?_
            refine V.getf dX6_keep_50 fl_X6_22 hm0 rfl ?_
            refine V.iload_n dX6_keep_53 rfl ?_
            refine V.iload_n dX6_keep_54 rfl ?_
            refine V.iastN dX6_keep_55 h83 (by omega) (by decide) ?_
            refine V.aload_n dX6_keep_56 rfl ?_
            refine V.getf dX6_keep_57 fl_X6_34 (o_ne hm0 (by decide)) rfl ?_
            refine V.iload_n dX6_keep_60 rfl ?_
            refine V.iload_n dX6_keep_61 rfl ?_
            refine V.iastN dX6_keep_62 (o_ne h87 (by decide)) (by omega) (by decide) ?_
            refine V.aload_n dX6_keep_63 rfl ?_
            refine V.getf dX6_keep_64 fl_X6_37 (o_ne (o_ne hm0 (by decide)) (by decide)) rfl ?_
            refine V.iload_n dX6_keep_67 rfl ?_
            refine V.iload dX6_keep_68 rfl ?_
            refine V.iastN dX6_keep_70 (o_ne (o_ne h88 (by decide)) (by decide)) (by omega) (by decide) ?_
            refine V.iconst (v := nI 0) dX6_keep_71 (by decide) ?_
            have hok : keepOk (nI i) y k g = true := by
              first
              | (simp only [keepOk, c4, c14, eq_true c19, c31, c44, not_true_eq_false, not_false_eq_true, if_true, if_false, decide_true, decide_false, Bool.and_true, Bool.and_false, Bool.true_and, Bool.false_and, Bool.or_true, Bool.or_false, Bool.true_or, Bool.false_or, Bool.not_true, Bool.not_false, and_true, and_false, true_and, false_and, or_true, or_false, true_or, false_or, bIt, bIf, Bool.false_eq_true, reduceCtorEq]; done)
              | (obtain ⟨e, he, rfl⟩ := wi_ex (by decide) c14
                 rcases (show e = 0 ∨ e = 1 by omega) with rfl | rfl
                 · simp only [keepOk, c4, c14, eq_true c19, c31, c44, not_true_eq_false, not_false_eq_true, if_true, if_false, decide_true, decide_false, Bool.and_true, Bool.and_false, Bool.true_and, Bool.false_and, Bool.or_true, Bool.or_false, Bool.true_or, Bool.false_or, Bool.not_true, Bool.not_false, and_true, and_false, true_and, false_and, or_true, or_false, true_or, false_or, bIt, bIf, Bool.false_eq_true, reduceCtorEq]
                 · exact absurd rfl c19)
            refine V.iret (by exact dX6_keep_72) rfl rfl ⟨by rw [keepV, if_pos hok], rfl, ?_, fun q hq => by rw [hset_ne _ _ (by omega), hset_ne _ _ (by omega), hset_ne _ _ (by omega)]⟩
            rw [keepS, if_pos hok, clampI (show i < 2147483648 by omega)]
            exact ((hc.sh0 _).sh4 _).sh5 _
          · refine V.iconst (v := -1) dX6_keep_47 (by decide) ?_
            have hok : keepOk x y k g = false := by
              first
              | (simp only [keepOk, c4, c14, eq_true c19, c31, c44, not_true_eq_false, not_false_eq_true, if_true, if_false, decide_true, decide_false, Bool.and_true, Bool.and_false, Bool.true_and, Bool.false_and, Bool.or_true, Bool.or_false, Bool.true_or, Bool.false_or, Bool.not_true, Bool.not_false, and_true, and_false, true_and, false_and, or_true, or_false, true_or, false_or, bIt, bIf, Bool.false_eq_true, reduceCtorEq]; done)
              | (simp only [keepOk, c4, c14, eq_true c19, c31, c44, show ¬ y = nI 0 from fun q => absurd (q.symm.trans c19) (by decide), not_true_eq_false, not_false_eq_true, if_true, if_false, decide_true, decide_false, Bool.and_true, Bool.and_false, Bool.true_and, Bool.false_and, Bool.or_true, Bool.or_false, Bool.true_or, Bool.false_or, Bool.not_true, Bool.not_false, and_true, and_false, true_and, false_and, or_true, or_false, true_or, false_or, bIt, bIf, Bool.false_eq_true, reduceCtorEq])
            exact V.iret (by exact dX6_keep_48) rfl rfl ⟨by rw [keepV, hok]; rfl, rfl, by rw [keepS, hok]; exact hc, fun _ _ => rfl⟩
