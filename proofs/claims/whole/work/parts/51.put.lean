def cpB (s x y : Int32) : Bool := !decide (x < 0) && (!decide (s < x) && (!decide (y < 0) && !decide (s - x < y)))
theorem pk_sub_toInt2 {a b : Nat} (ha : a < 2 ^ 30) (hb : b < 2 ^ 31) : (nI a - nI b).toInt = (a : Int) - b := by
  rw [Int32.toInt_sub, nI_toInt (show a < 2 ^ 31 by omega), nI_toInt hb]
  apply Int.bmod_eq_of_le <;> omega
theorem cp_N {s : Nat} (hs : s ≤ 100) (a c : Nat) (ha : a < 2147483648) (hc : c < 2147483648) : cpB (nI s) (nI a) (nI c) = decide (a + c ≤ s) := by
  unfold cpB
  have h1 : ¬ nI a < 0 := nI_pos (by omega)
  have h2 : ¬ nI c < 0 := nI_pos (by omega)
  have h3 : (nI s < nI a) ↔ s < a := nI_ltI (by omega) (by omega)
  simp only [h1, h2, h3, decide_false, Bool.not_false, Bool.true_and]
  by_cases q : s < a
  · simp [q]; omega
  · rw [pk_sub (by omega)]
    have h4 : (nI (s - a) < nI c) ↔ s - a < c := nI_ltI (by omega) (by omega)
    simp only [q, h4, decide_false, Bool.not_false, Bool.true_and]
    by_cases y : a + c ≤ s
    · simp [y]; omega
    · simp [y]; omega
theorem cp_ex {s : Nat} (hs : s ≤ 100) {x y : Int32} (h : cpB (nI s) x y = true) : ∃ a c : Nat, x = nI a ∧ y = nI c ∧ a + c ≤ s := by
  have h0 := h
  unfold cpB at h
  simp only [Bool.and_eq_true, Bool.not_eq_true', decide_eq_false_iff_not] at h
  obtain ⟨a, ha, rfl⟩ := nI_of h.1
  obtain ⟨c, hc, rfl⟩ := nI_of h.2.2.1
  rw [cp_N hs a c (by omega) (by omega)] at h0
  exact ⟨a, c, rfl, rfl, of_decide_eq_true h0⟩
theorem cp_3 {s : Nat} (hs : s ≤ 100) (x y : Int32) : cpB (nI s) x y = (!decide (y < 0) && (!decide (x < 0) && !decide (nI s - x < y))) := by
  by_cases h1 : x < 0
  · simp [cpB, h1]
  · by_cases h2 : y < 0
    · simp [cpB, h2]
    · obtain ⟨a, ha, rfl⟩ := nI_of h1
      obtain ⟨c, hc, rfl⟩ := nI_of h2
      by_cases q : nI s < nI a
      · have q2 : s < a := (nI_ltI (by omega) (by omega)).mp q
        have h3 : nI s - nI a < nI c := by
          rw [Int32.lt_iff_toInt_lt, pk_sub_toInt2 (by omega) ha, nI_toInt hc]
          omega
        simp [cpB, q, h3]
      · simp [cpB, h1, h2, q]
theorem cp_1 {s : Nat} (hs : s ≤ 100) (y : Int32) : cpB (nI s) y (nI 1) = wi y (nI 0) (nI s - nI 1) := by
  by_cases h1 : y < 0
  · have : ¬ nI 0 ≤ y := Int32.not_le.mpr h1
    simp [cpB, wi, h1, this]
  · obtain ⟨a, ha, rfl⟩ := nI_of h1
    rw [cp_N hs a 1 (by omega) (by omega)]
    by_cases q : s = 0
    · subst q
      have h2 : ¬ nI a ≤ nI 0 - nI 1 := fun y => h1 (Int32.lt_of_le_of_lt y (by decide))
      simp [wi, h2]
    · rw [pk_sub (by omega), wi_nI (by omega) (by omega)]
      by_cases y : a + 1 ≤ s
      · simp [y]; omega
      · simp [y]; omega
def putV (S : SS) (x y : Int32) : Int32 := if wnV S x (nI 2) = 0 then (if wi y (nI 0) (S 2 x.toNatClampNeg - nI 1) = true then nI 0 else -13) else wnV S x (nI 2)
def putU (S : SS) (i j : Nat) (v : Int32) : SS := fun u => if u = 3 then upd (S 3) (100 * i + j) (lowV (S 1 i) v) else S u
def putS (S : SS) (x y v : Int32) : SS := if wnV S x (nI 2) = 0 then (if wi y (nI 0) (S 2 x.toNatClampNeg - nI 1) = true then putU S x.toNatClampNeg y.toNatClampNeg v else S) else S
theorem put_ag (S : SS) (i j : Nat) (v : Int32) (hj : j < 100) (t : Nat) (ht : t ≠ i) : SAg S (putU S i j v) t := ⟨rfl, rfl, rfl, rfl, rfl, fun k hk => pk_un (by omega)⟩
set_option maxRecDepth 20000 in
set_option maxHeartbeats 4000000 in
theorem x_put (l : Launch) (d : Nat) (h : MH) (n : Nat) (K : KK) (b : Bool) (KI : KK) (S : SS) (m : Nat) (hc : ClsAt h K b KI S) (hT : TI K m) (hSI : SI S) (x y v : Int32) : Sp l mX5_put (d + 3) [.ref 0, .int x, .int y, .int v] h n 0 0 (Qx (putV S x y) K b KI (putS S x y v) h n) := by
  have hD := hT.1
  have hm := hD.1.1
  have hm10 := hD.1.2.1
  obtain ⟨ht0, ⟨sq, hsq, esq⟩, ⟨cl, P, pn, hw, hPR⟩, ⟨Km, clm, Pm, pm, hwm⟩, ⟨KJ, clJ, PJ, pJ, hwJ, hJ⟩, ⟨rb, rx, ry, hrd⟩, hsc, ⟨co, hco⟩, ⟨se, hse⟩, hsh⟩ := id hc
  obtain ⟨hw0, ⟨gr, hgr, egr⟩, ⟨ru, hru, eru⟩, ⟨pq, hpf, epf⟩, hpl, ⟨fl, hfl, efl⟩, ⟨ca, hca, eca⟩, ⟨wa, hwa⟩, hpp, hhd⟩ := id hw
  show V _ _ _ _ [some (.ref 0), some (.int x), some (.int y), some (.int v), none] _ _ _ _ _ _
  refine V.aload_n dX5_put_0 rfl ?_
  refine V.iload_n dX5_put_1 rfl ?_
  refine V.iconst (v := nI 2) dX5_put_2 (by decide) ?_
  refine V.callVv [_, _] dX5_put_3 lk_X5_116 rfl (Nat.le_of_ble_eq_true rfl) (Nat.le_of_ble_eq_true rfl) ht0 rfl (x_want _ _ _ _ _ _ _ _ _ hc hT _ _) ?_
  refine V.ist4 dX5_put_6 (by decide) rfl ?_
  refine V.iload dX5_put_8 rfl ?_
  refine V.if_eq (tgt := 16) dX5_put_10 (by decide) (fun c10 => ?_) (fun c10 => ?_)
  · obtain ⟨i, hi, rfl, hk, hwi⟩ := wn_0 c10 (by decide)
    obtain ⟨⟨q1, hq1, e1⟩, ⟨s, hs, e2⟩⟩ := (hSI i (by omega)).2.2 hk
    obtain ⟨kd, fg, so, sz, el, hS, hE, hR, hW⟩ := hsh i (by omega)
    obtain ⟨rfl, rfl, hel⟩ := hW hk
    rw [e2] at hS
    have hcp := cp_1 hs y
    unfold cpB at hcp
    refine V.aload_n dX5_put_16 rfl ?_
    refine V.getf dX5_put_17 fl_X5_11 ht0 rfl ?_
    refine V.iload_n dX5_put_20 rfl ?_
    refine V.aaldN dX5_put_21 (Or.inr rfl) hsq (by omega) (by decide) (esq _ (by omega)) ?_
    refine V.iload_n dX5_put_22 rfl ?_
    refine V.iconst (v := nI 1) dX5_put_23 (by decide) ?_
    refine V.callVv [_, _] dX5_put_24 lk_X5_271 rfl (Nat.le_of_ble_eq_true rfl) (Nat.le_of_ble_eq_true rfl) hS rfl (s3_hasPlaces _ _ _ _ _ _ _ _ _ _ _ hS _ _) ?_
    rw [hcp]
    refine V.if_neB (tgt := 33) dX5_put_27 (by decide) (fun c27 => ?_) (fun c27 => ?_)
    · obtain ⟨j, hj, rfl⟩ : ∃ j : Nat, j < s ∧ y = nI j := by
        by_cases y0 : s = 0
        · subst y0
          simp only [wi, Bool.and_eq_true, decide_eq_true_eq] at c27
          exact absurd (Int32.le_trans c27.1 c27.2) (by decide)
        · rw [pk_sub (by omega)] at c27
          obtain ⟨j, h1, h2⟩ := wi_ex (by omega) c27
          exact ⟨j, by omega, h2⟩
      refine V.aload_n dX5_put_33 rfl ?_
      refine V.getf dX5_put_34 fl_X5_11 ht0 rfl ?_
      refine V.iload_n dX5_put_37 rfl ?_
      refine V.aaldN dX5_put_38 (Or.inr rfl) hsq (by omega) (by decide) (esq _ (by omega)) ?_
      refine V.getf dX5_put_39 fl_X5_179 hS rfl ?_
      refine V.iload_n dX5_put_42 rfl ?_
      refine V.aload_n dX5_put_43 rfl ?_
      refine V.getf dX5_put_44 fl_X5_11 ht0 rfl ?_
      refine V.iload_n dX5_put_47 rfl ?_
      refine V.aaldN dX5_put_48 (Or.inr rfl) hsq (by omega) (by decide) (esq _ (by omega)) ?_
      refine V.iload_n dX5_put_49 rfl ?_
      refine V.callVv [_] dX5_put_50 lk_X5_275 rfl (Nat.le_of_ble_eq_true rfl) (Nat.le_of_ble_eq_true rfl) hS rfl (s3_lowestBits _ _ _ _ _ _ _ _ _ _ _ hS _) ?_
      refine V.iastN dX5_put_53 hE (by omega) (by decide) ?_
      refine V.iconst (v := nI 0) dX5_put_54 (by decide) ?_
      refine V.iret (by exact dX5_put_55) rfl rfl ⟨by rw [putV, if_pos c10, clampI (show i < 2147483648 by omega), e2, if_pos c27], rfl, ?_, fun q hq => hset_ne _ _ (by omega)⟩
      rw [putS, if_pos c10, clampI (show i < 2147483648 by omega), e2, if_pos c27, clampI (show j < 2147483648 by omega)]
      refine hc.shelf (by omega) ⟨kd, fg, S 1 i, nI s, upd el j (lowV (S 1 i) v), o_ne hS (by omega), hset_self _ _ _, hR, fun _ => ⟨rfl, e2.symm, fun k hk => ?_⟩⟩ (fun t _ ht => put_ag S i j v (by omega) t ht) (fun q q1 q2 => hset_ne _ _ q2)
      by_cases y : k = j
      · subst y
        rw [pk_us]
        exact (pk_us (f := S 3)).symm
      · rw [pk_un y, hel k hk]
        exact (pk_un (f := S 3) (by omega)).symm
    · refine V.bipush (v := -13) dX5_put_30 (by decide) ?_
      exact V.iret (by exact dX5_put_32) rfl rfl ⟨by rw [putV, if_pos c10, clampI (show i < 2147483648 by omega), e2, c27]; rfl, rfl, by rw [putS, if_pos c10, clampI (show i < 2147483648 by omega), e2, c27]; exact hc, fun _ _ => rfl⟩
  · refine V.iload dX5_put_13 rfl ?_
    exact V.iret (by exact dX5_put_15) rfl rfl ⟨by rw [putV, if_neg c10], rfl, by rw [putS, if_neg c10]; exact hc, fun _ _ => rfl⟩
set_option maxRecDepth 20000 in
set_option maxHeartbeats 4000000 in
theorem m_put (l : Launch) (d : Nat) (h : MH) (n : Nat) (K : KK) (b : Bool) (KI : KK) (S : SS) (m : Nat) (hc : ModAt h K b KI S) (hT : TI K m) (hSI : SI S) (x y v : Int32) : Sp l mX6_put (d + 3) [.ref 78, .int x, .int y, .int v] h n 0 0 (Qm (putV S x y) K b KI (putS S x y v) h n) := by
  have hD := hT.1
  have hm := hD.1.1
  have hm10 := hD.1.2.1
  obtain ⟨⟨th, po, ba, en, tt, hm0⟩, ha, hb, ⟨Km, hmi⟩, ⟨Kr, hre⟩, h83, h84, h85, h86, h87, h88, ⟨X89, h89⟩, ⟨X90, h90⟩, ⟨X91, h91⟩, ⟨X92, h92⟩⟩ := id hc
  show V _ _ _ _ [some (.ref 78), some (.int x), some (.int y), some (.int v), none] _ _ _ _ _ _
  refine V.aload_n dX6_put_0 rfl ?_
  refine V.iload_n dX6_put_1 rfl ?_
  refine V.iconst (v := -1) dX6_put_2 (by decide) ?_
  refine V.callVv [_, _] dX6_put_3 lk_X6_160 rfl (Nat.le_of_ble_eq_true rfl) (Nat.le_of_ble_eq_true rfl) hm0 rfl (m_wrongRow _ _ _ _ _ _ _ _ _ hc hT _) ?_
  refine V.ist4 dX6_put_6 (by decide) rfl ?_
  refine V.iload dX6_put_8 rfl ?_
  refine V.if_eq (tgt := 16) dX6_put_10 (by decide) (fun c10 => ?_) (fun c10 => ?_)
  · obtain ⟨i, hi, rfl, hk, hwi⟩ := wn_0 c10 (by decide)
    obtain ⟨⟨q1, hq1, e1⟩, ⟨s, hs, e2⟩⟩ := (hSI i (by omega)).2.2 hk
    refine V.iload_n dX6_put_16 rfl ?_
    refine V.i2l dX6_put_17 ?_
    refine V.lconst (v := 0) dX6_put_18 (by decide) ?_
    refine V.aload_n dX6_put_19 rfl ?_
    refine V.getf dX6_put_20 fl_X6_28 hm0 rfl ?_
    refine V.iload_n dX6_put_23 rfl ?_
    refine V.ialdN dX6_put_24 h85 (by omega) (by decide) ?_
    refine V.iconst (v := nI 1) dX6_put_25 (by decide) ?_
    refine V.isub dX6_put_26 ?_
    refine V.i2l dX6_put_27 ?_
    refine V.callSv [_, _, _] dX6_put_28 lk_X6_62 rfl (Nat.le_of_ble_eq_true rfl) (Nat.le_of_ble_eq_true rfl) (s6_isInC _ _ _ (nI 0) _ (by decide) rfl _ _) ?_
    refine V.if_neB (tgt := 37) dX6_put_31 (by decide) (fun c31 => ?_) (fun c31 => ?_)
    · obtain ⟨j, hj, rfl⟩ : ∃ j : Nat, j < s ∧ y = nI j := by
        rw [e2] at c31
        by_cases y0 : s = 0
        · subst y0
          simp only [wi, Bool.and_eq_true, decide_eq_true_eq] at c31
          exact absurd (Int32.le_trans c31.1 c31.2) (by decide)
        · rw [pk_sub (by omega)] at c31
          obtain ⟨j, h1, h2⟩ := wi_ex (by omega) c31
          exact ⟨j, by omega, h2⟩
      refine V.aload_n dX6_put_37 rfl ?_
      refine V.getf dX6_put_38 fl_X6_31 hm0 rfl ?_
      refine V.bipush (v := nI 100) dX6_put_41 (by decide) ?_
      refine V.iload_n dX6_put_43 rfl ?_
      refine V.imulN dX6_put_44 ?_
      refine V.iload_n dX6_put_45 rfl ?_
      refine V.iaddN dX6_put_46 ?_
      refine V.aload_n dX6_put_47 rfl ?_
      refine V.getf dX6_put_48 fl_X6_25 hm0 rfl ?_
      refine V.iload_n dX6_put_51 rfl ?_
      refine V.ialdN dX6_put_52 h84 (by omega) (by decide) ?_
      refine V.if_ne (tgt := 61) dX6_put_53 (by decide) (fun c53 => ?_) (fun c53 => ?_)
      · refine V.aload_n dX6_put_61 rfl ?_
        refine V.getf dX6_put_62 fl_X6_25 hm0 rfl ?_
        refine V.iload_n dX6_put_65 rfl ?_
        refine V.ialdN dX6_put_66 h84 (by omega) (by decide) ?_
        refine V.iconst (v := nI 1) dX6_put_67 (by decide) ?_
        refine V.icmp_ne (tgt := 76) dX6_put_68 (by decide) (fun c68 => ?_) (fun c68 => ?_)
        · refine V.iload_n dX6_put_76 rfl ?_
          refine V.iastN dX6_put_77 h86 (by omega) (by decide) ?_
          refine V.iconst (v := nI 0) dX6_put_78 (by decide) ?_
          refine V.iret (by exact dX6_put_79) rfl rfl ⟨by rw [putV, if_pos c10, clampI (show i < 2147483648 by omega), if_pos c31], rfl, ?_, fun q hq => hset_ne _ _ (by omega)⟩
          rw [putS, if_pos c10, clampI (show i < 2147483648 by omega), if_pos c31, clampI (show j < 2147483648 by omega)]
          change ModAt _ K b KI (fun u => if u = 3 then upd (S 3) (100 * i + j) (lowV (S 1 i) v) else S u)
          first
          | (rw [show lowV (S 1 i) v = v.toInt8.toInt32 from if_pos c53]; exact hc.sh3 _)
          | (rw [show lowV (S 1 i) v = v.toInt16.toInt32 from (if_neg c53).trans (if_pos c68)]; exact hc.sh3 _)
          | (rw [show lowV (S 1 i) v = v from (if_neg c53).trans (if_neg c68)]; exact hc.sh3 _)
        · refine V.iload_n dX6_put_71 rfl ?_
          refine V.i2s dX6_put_72 ?_
          refine V.goto (tgt := 77) dX6_put_73 (by decide) ?_
          refine V.iastN dX6_put_77 h86 (by omega) (by decide) ?_
          refine V.iconst (v := nI 0) dX6_put_78 (by decide) ?_
          refine V.iret (by exact dX6_put_79) rfl rfl ⟨by rw [putV, if_pos c10, clampI (show i < 2147483648 by omega), if_pos c31], rfl, ?_, fun q hq => hset_ne _ _ (by omega)⟩
          rw [putS, if_pos c10, clampI (show i < 2147483648 by omega), if_pos c31, clampI (show j < 2147483648 by omega)]
          change ModAt _ K b KI (fun u => if u = 3 then upd (S 3) (100 * i + j) (lowV (S 1 i) v) else S u)
          first
          | (rw [show lowV (S 1 i) v = v.toInt8.toInt32 from if_pos c53]; exact hc.sh3 _)
          | (rw [show lowV (S 1 i) v = v.toInt16.toInt32 from (if_neg c53).trans (if_pos c68)]; exact hc.sh3 _)
          | (rw [show lowV (S 1 i) v = v from (if_neg c53).trans (if_neg c68)]; exact hc.sh3 _)
      · refine V.iload_n dX6_put_56 rfl ?_
        refine V.i2b dX6_put_57 ?_
        refine V.goto (tgt := 77) dX6_put_58 (by decide) ?_
        refine V.iastN dX6_put_77 h86 (by omega) (by decide) ?_
        refine V.iconst (v := nI 0) dX6_put_78 (by decide) ?_
        refine V.iret (by exact dX6_put_79) rfl rfl ⟨by rw [putV, if_pos c10, clampI (show i < 2147483648 by omega), if_pos c31], rfl, ?_, fun q hq => hset_ne _ _ (by omega)⟩
        rw [putS, if_pos c10, clampI (show i < 2147483648 by omega), if_pos c31, clampI (show j < 2147483648 by omega)]
        change ModAt _ K b KI (fun u => if u = 3 then upd (S 3) (100 * i + j) (lowV (S 1 i) v) else S u)
        first
        | (rw [show lowV (S 1 i) v = v.toInt8.toInt32 from if_pos c53]; exact hc.sh3 _)
        | (rw [show lowV (S 1 i) v = v.toInt16.toInt32 from (if_neg c53).trans (if_pos c68)]; exact hc.sh3 _)
        | (rw [show lowV (S 1 i) v = v from (if_neg c53).trans (if_neg c68)]; exact hc.sh3 _)
    · refine V.bipush (v := -13) dX6_put_34 (by decide) ?_
      exact V.iret (by exact dX6_put_36) rfl rfl ⟨by rw [putV, if_pos c10, clampI (show i < 2147483648 by omega), c31]; rfl, rfl, by rw [putS, if_pos c10, clampI (show i < 2147483648 by omega), c31]; exact hc, fun _ _ => rfl⟩
  · refine V.iload dX6_put_13 rfl ?_
    exact V.iret (by exact dX6_put_15) rfl rfl ⟨by rw [putV, if_neg c10], rfl, by rw [putS, if_neg c10]; exact hc, fun _ _ => rfl⟩
