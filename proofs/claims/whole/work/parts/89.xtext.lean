set_option maxRecDepth 20000 in
set_option maxHeartbeats 4000000 in
theorem x_wantBytes (l : Launch) (d : Nat) (h : MH) (n : Nat) (K : KK) (b : Bool) (KI : KK) (S : SS) (m : Nat) (hc : ClsAt h K b KI S) (hT : TI K m) (x : Int32) : Sp l mX5_wantBytes (d + 3) [.ref 0, .int x] h n 0 0 (Pv (wyV S x) h n) := by
  obtain ⟨ht0, ⟨sq, hsq, esq⟩, -, -, -, -, -, -, -, hsh⟩ := id hc
  show V _ _ _ _ [some (.ref 0), some (.int x), none] _ _ _ _ _ _
  refine V.aload_n dX5_wantBytes_0 rfl ?_
  refine V.iload_n dX5_wantBytes_1 rfl ?_
  refine V.iconst (v := nI 2) dX5_wantBytes_2 (by decide) ?_
  refine V.callVv [_, _] dX5_wantBytes_3 lk_X5_116 rfl (Nat.le_of_ble_eq_true rfl) (Nat.le_of_ble_eq_true rfl) ht0 rfl (x_want _ _ _ _ _ _ _ _ _ hc hT _ _) ?_
  refine V.ist2 dX5_wantBytes_6 (by decide) rfl ?_
  refine V.iload_n dX5_wantBytes_7 rfl ?_
  refine V.if_eq (tgt := 13) dX5_wantBytes_8 (by decide) (fun c8 => ?_) (fun c8 => ?_)
  · unfold wnV at c8
    by_cases c : wi x (nI 0) (nI 7) = true
    · rw [if_pos c] at c8
      obtain ⟨i, hi, rfl⟩ := wi_ex (by decide) c
      rw [clampI (show i < 2147483648 by omega)] at c8
      by_cases c0 : S 0 i = nI 0
      · rw [if_pos c0] at c8; exact absurd c8 (by decide)
      · rw [if_neg c0] at c8
        by_cases c2 : S 0 i = nI 2
        · obtain ⟨kd, fg, so, sz, el, hS, hE, -, hR⟩ := hsh i (by omega)
          obtain ⟨rso, -, -⟩ := hR c2
          have hwy : wyV S (nI i) = if S 1 i = nI 0 then nI 0 else -12 := by rw [wyV, if_pos c, clampI (show i < 2147483648 by omega), if_neg c0, if_pos c2]
          rw [hwy]
          refine V.aload_n dX5_wantBytes_13 rfl ?_
          refine V.getf dX5_wantBytes_14 fl_X5_11 ht0 rfl ?_
          refine V.iload_n dX5_wantBytes_17 rfl ?_
          refine V.aaldN dX5_wantBytes_18 (Or.inr rfl) hsq (by omega) (by decide) (esq _ (by omega)) ?_
          refine V.callVv [] dX5_wantBytes_19 lk_X5_200 rfl (Nat.le_of_ble_eq_true rfl) (Nat.le_of_ble_eq_true rfl) hS rfl (s3_isBytes _ _ _ _ _ _ _ _ _ _ _ hS) ?_
          refine V.if_eqB (tgt := 29) dX5_wantBytes_22 (by decide) (fun y => ?_) (fun y => ?_)
          · rw [decide_eq_true c2, Bool.true_and] at y
            rw [if_neg (fun z => of_decide_eq_false y (by rw [rso]; exact z))]
            refine V.bipush (v := -12) dX5_wantBytes_29 (by decide) ?_
            exact V.iret (by exact dX5_wantBytes_31) rfl rfl ⟨rfl, rfl, rfl⟩
          · rw [decide_eq_true c2, Bool.true_and] at y
            rw [if_pos (by rw [← rso]; exact of_decide_eq_true y)]
            refine V.iconst (v := nI 0) dX5_wantBytes_25 (by decide) ?_
            refine V.goto (tgt := 31) dX5_wantBytes_26 (by decide) ?_
            exact V.iret (by exact dX5_wantBytes_31) rfl rfl ⟨rfl, rfl, rfl⟩
        · rw [if_neg c2] at c8; exact absurd c8 (by decide)
    · rw [if_neg c] at c8; exact absurd c8 (by decide)
  · refine V.iload_n dX5_wantBytes_11 rfl ?_
    refine V.iret (by exact dX5_wantBytes_12) rfl rfl ⟨?_, rfl, rfl⟩
    unfold wnV at c8 ⊢
    unfold wyV
    by_cases c : wi x (nI 0) (nI 7) = true
    · rw [if_pos c] at c8 ⊢
      rw [if_pos c]
      by_cases c0 : S 0 x.toNatClampNeg = nI 0
      · rw [if_pos c0, if_pos c0]
      · rw [if_neg c0] at c8 ⊢
        rw [if_neg c0]
        by_cases c2 : S 0 x.toNatClampNeg = nI 2
        · rw [if_pos c2] at c8; exact absurd rfl c8
        · rw [if_neg c2, if_neg c2]
    · rw [if_neg c, if_neg c]
theorem txS_b {B : Nat → Int32} {N : Nat} (hN : N ≤ 100) : ∀ r p, p < 200 → (txS B N r p).2.1 < 1000 := by
  intro r
  induction r with
  | zero => intro p h; show p < 1000; omega
  | succ r ih =>
    intro p h
    have hb := stR_b (B := B) (N := N) h
    rw [txS]
    split
    · split
      · next y => exact ih _ (by omega)
      · exact hb
    · exact hb
theorem txE_b {B : Nat → Int32} {N : Nat} (hN : N ≤ 100) : ∀ r p (K : KK) {a : Nat}, wel B N r p → p ≤ N → txE B N r p K = .inl a → a < 1000 := by
  intro r
  induction r with
  | zero => intro p K a _ _ h; rw [txE] at h; cases h
  | succ r ih =>
    intro p K a hw h1 h
    rw [txE] at h
    split at h
    · next y =>
      split at h
      · obtain ⟨ok, hw2⟩ := hw y
        exact ih _ _ hw2 (stR_pp ok).1.2.1 h
      · cases h; omega
    · cases h
set_option maxRecDepth 20000 in
set_option maxHeartbeats 4000000 in
theorem x_text (l : Launch) (d : Nat) (hps : PSt l) (h : MH) (n : Nat) (K : KK) (b : Bool) (KI : KK) (S : SS) (m : Nat) (hc : ClsAt h K b KI S) (hT : TI K m) (hSI : SI S) (x : Int32) : Sp l mX5_text (d + 7) [.ref 0, .int x] h n 0 0 (Qx (textV S K x) (textS S K x) b KI S h n) := by
  obtain ⟨ht0, ⟨sq, hsq, esq⟩, ⟨cl, P, pn, hw, hPR⟩, ⟨Km, clm, Pm, pm, hwm⟩, hwJ, ⟨rb, rx, ry, hrd⟩, hsc, hco, hse, hsh⟩ := id hc
  show V _ _ _ _ [some (.ref 0), some (.int x), none, none] _ _ _ _ _ _
  refine V.aload_n dX5_text_0 rfl ?_
  refine V.iload_n dX5_text_1 rfl ?_
  refine V.callVv [_] dX5_text_2 lk_X5_43 rfl (Nat.le_of_ble_eq_true rfl) (Nat.le_of_ble_eq_true rfl) ht0 rfl (x_wantBytes _ _ _ _ _ _ _ _ _ hc hT _) ?_
  refine V.ist2 dX5_text_5 (by decide) rfl ?_
  refine V.iload_n dX5_text_6 rfl ?_
  refine V.if_eq (tgt := 12) dX5_text_7 (by decide) (fun c8 => ?_) (fun c8 => ?_)
  rotate_left
  · refine V.iload_n dX5_text_10 rfl ?_
    exact V.iret (by exact dX5_text_11) rfl rfl ⟨by rw [textV, if_neg c8], rfl, by rw [textS, if_neg c8]; exact hc, fun _ _ => rfl⟩
  obtain ⟨i, hi7, rfl, hs0, hs1⟩ := wy_0 c8
  obtain ⟨N, hN, hs2⟩ := ((hSI i (by omega)).2.2 hs0).2
  rw [textV, if_pos c8, textS, if_pos c8, clampI (show i < 2147483648 by omega), hs2, clampI (show N < 2147483648 by omega)]
  obtain ⟨kd, fg, so, sz, el, hS, hE, -, hR⟩ := hsh i (by omega)
  obtain ⟨-, rsz, rel⟩ := hR hs0
  rw [rsz, hs2] at hS
  have hB : ∀ k, k < 100 → bts S i k = el k := fun k hk => (rel k hk).symm
  refine V.aload_n dX5_text_12 rfl ?_
  refine V.getf dX5_text_13 fl_X5_31 ht0 rfl ?_
  refine V.aload_n dX5_text_16 rfl ?_
  refine V.getf dX5_text_17 fl_X5_11 ht0 rfl ?_
  refine V.iload_n dX5_text_20 rfl ?_
  refine V.aaldN dX5_text_21 (Or.inr rfl) hsq (by omega) (by decide) (esq _ (by omega)) ?_
  refine V.callV (c := 0) (z := 0) [_] dX5_text_22 lk_X5_47 rfl (Nat.le_of_ble_eq_true rfl) (Nat.le_of_ble_eq_true rfl) hrd rfl (s1_misshapen l _ hps h n i N _ kd fg so hN hS el hE (bts S i) hB (by omega) rb rx ry hrd (Q := fun r h1 n1 => n1 = n ∧ ∃ p c1, h1 = CR h i p c1 ∧ ((txS (bts S i) N 101 0).1 = false → r = some (.int (nI (txS (bts S i) N 101 0).2.1)) ∧ ¬ nI (txS (bts S i) N 101 0).2.1 = -4) ∧ ((txS (bts S i) N 101 0).1 = true → r = some (.int (-4)) ∧ c1 = nI (txS (bts S i) N 101 0).2.2) ∧ ∃ v, r = some (.int v)) (fun y c1 => ?_) (fun y => ?_)) (fun r h1 n1 q => ?_)
  · refine ⟨rfl, _, c1, rfl, fun _ => ⟨rfl, fun z => ?_⟩, fun z => (by rw [y] at z; cases z), _, rfl⟩
    have hlt : (txS (bts S i) N 101 0).2.1 < 1000 := txS_b hN 101 0 (by omega)
    have := congrArg Int32.toInt z
    rw [nI_toInt (by omega)] at this
    have h4 : (-4 : Int32).toInt = -4 := by decide
    omega
  · exact ⟨rfl, _, _, rfl, fun z => (by rw [y] at z; cases z), fun _ => ⟨rfl, rfl⟩, _, rfl⟩
  obtain ⟨rfl, p, c1, rfl, hf, ht, v, rfl⟩ := q
  have hc1 : ClsAt (CR h i p c1) K b KI S := hc.rdr
  have hO1 : ∀ q, q ≠ 56 → CR h i p c1 q = h q := fun q hq => hset_ne _ _ hq
  refine V.ist3 dX5_text_25 (by decide) rfl ?_
  refine V.iload_n dX5_text_26 rfl ?_
  refine V.bipush (v := -4) dX5_text_27 (by decide) ?_
  cases ok : (txS (bts S i) N 101 0).1 with
  | false =>
    obtain ⟨e1, e2⟩ := hf ok
    have e3 : v = nI (txS (bts S i) N 101 0).2.1 := by simpa using e1
    subst e3
    refine V.icmp_eq (tgt := 38) dX5_text_29 (by decide) (fun z => absurd z e2) (fun _ => ?_)
    refine V.sipush (v := -1000) dX5_text_32 (by decide) ?_
    refine V.iload_n dX5_text_35 rfl ?_
    refine V.isub dX5_text_36 ?_
    have y1 : ¬ (txS (bts S i) N 101 0).1 = true := by rw [ok]; decide
    exact V.iret (by exact dX5_text_37) rfl rfl ⟨by rw [txtV, if_neg y1], rfl, by rw [txtK, if_neg y1]; exact hc1, fun q hq => hO1 q (by omega)⟩
  | true =>
    obtain ⟨e1, e2⟩ := ht ok
    have e3 : v = -4 := by simpa using e1
    subst e3
    subst e2
    refine V.icmp_eq (tgt := 38) dX5_text_29 (by decide) (fun _ => ?_) (fun z => absurd rfl z)
    have hwl := txS_wel 101 0 ok
    generalize hcnt : (txS (bts S i) N 101 0).2.2 = cnt at *
    have ht1 : CR h i p (nI cnt) 0 = some (.inr (5, tfF b)) := (hO1 0 (by omega)).trans ht0
    refine V.aload_n dX5_text_38 rfl ?_
    refine V.getf dX5_text_39 fl_X5_22 ht1 rfl ?_
    refine V.aload_n dX5_text_42 rfl ?_
    refine V.getf dX5_text_43 fl_X5_18 ht1 rfl ?_
    have hw1 : WoodAt (CR h i p (nI cnt)) 2 K cl P pn := hw.far fun q _ _ => hO1 q (by omega)
    have hwm1 : WoodAt (CR h i p (nI cnt)) 20 Km clm Pm pm := hwm.far fun q _ _ => hO1 q (by omega)
    refine V.callVw [_] dX5_text_46 lk_X5_51 rfl (Nat.le_of_ble_eq_true rfl) (Nat.le_of_ble_eq_true rfl) hwm1.1 rfl (s4_become _ _ _ _ 20 2 _ _ _ _ _ _ _ _ (by omega) hwm1 hw1) (fun h2 hw2 ho2 => ?_)
    have ht2 := (ho2 0 (by omega)).trans ht1
    have h56 : h2 56 = some (.inr (1, [.ref (62 + 2 * i), .int (nI p), .int (nI cnt)])) := (ho2 56 (by omega)).trans (CR_56 _ _ _ _)
    refine V.aload_n dX5_text_49 rfl ?_
    refine V.getf dX5_text_50 fl_X5_31 ht2 rfl ?_
    refine V.aload_n dX5_text_53 rfl ?_
    refine V.getf dX5_text_54 fl_X5_22 ht2 rfl ?_
    refine V.callV (c := 0) (z := 0) [_] dX5_text_57 lk_X5_55 rfl (Nat.le_of_ble_eq_true rfl) (Nat.le_of_ble_eq_true rfl) h56 rfl (s1_comeTo l _ _ i N (by omega) _ kd fg so hN el (bts S i) hB p (nI cnt) h2 ((ho2 _ (by omega)).trans ((hO1 _ (by omega)).trans hS)) ((ho2 _ (by omega)).trans ((hO1 _ (by omega)).trans hE)) h56 K cl P pn m hw2 hPR hT hwl) (fun r h3 n1 q => ?_)
    obtain ⟨rfl, ho3, K1, cl1, P1, pn1, hw3, hl, hr⟩ := q
    have ht3 := (ho3 0 (by omega)).trans ht2
    have hc2 : ClsAt h2 K b KI S := hc1.mind hw2 ho2
    have hc3 : ClsAt h3 K b KI S := hc2.mind hw3 ho3
    have hO3 : ∀ q, 78 ≤ q → h3 q = h q := fun q hq => (ho3 q (by omega)).trans ((ho2 q (by omega)).trans (hO1 q (by omega)))
    cases res : txE (bts S i) N 101 0 K with
    | inl a =>
      have e1 := hl a res
      subst e1
      have ha : a < 1000 := txE_b hN 101 0 K hwl (by omega) res
      refine V.ist3 dX5_text_60 (by decide) rfl ?_
      refine V.iload_n dX5_text_61 rfl ?_
      refine V.bipush (v := -4) dX5_text_62 (by decide) ?_
      refine V.icmp_eq (tgt := 73) dX5_text_64 (by decide) (fun z => absurd z (fun z => by
        have := congrArg Int32.toInt z
        rw [nI_toInt (by omega)] at this
        have h4 : (-4 : Int32).toInt = -4 := by decide
        omega)) (fun _ => ?_)
      refine V.sipush (v := -2000) dX5_text_67 (by decide) ?_
      refine V.iload_n dX5_text_70 rfl ?_
      refine V.isub dX5_text_71 ?_
      exact V.iret (by exact dX5_text_72) rfl rfl ⟨by rw [txtV, if_pos ok, res], rfl, by rw [txtK, if_pos ok, res]; exact hc3, hO3⟩
    | inr K2 =>
      obtain ⟨e1, e2, hPR1⟩ := hr K2 res
      subst e1
      subst e2
      refine V.ist3 dX5_text_60 (by decide) rfl ?_
      refine V.iload_n dX5_text_61 rfl ?_
      refine V.bipush (v := -4) dX5_text_62 (by decide) ?_
      refine V.icmp_eq (tgt := 73) dX5_text_64 (by decide) (fun _ => ?_) (fun z => absurd rfl z)
      have hw30 : WoodAt h3 2 K cl P pn := (hw1.far fun q _ _ => ho2 q (by omega)).far fun q _ _ => ho3 q (by omega)
      refine V.aload_n dX5_text_73 rfl ?_
      refine V.getf dX5_text_74 fl_X5_18 ht3 rfl ?_
      refine V.aload_n dX5_text_77 rfl ?_
      refine V.getf dX5_text_78 fl_X5_22 ht3 rfl ?_
      refine V.callVw [_] dX5_text_81 lk_X5_51 rfl (Nat.le_of_ble_eq_true rfl) (Nat.le_of_ble_eq_true rfl) hw30.1 rfl (s4_become _ _ _ _ 2 20 _ _ _ _ _ _ _ _ (by omega) hw30 hw3) (fun h4 hw4 ho4 => ?_)
      have ht4 := (ho4 0 (by omega)).trans ht3
      have h564 := (ho4 56 (by omega)).trans ((ho3 56 (by omega)).trans h56)
      refine V.aload_n dX5_text_84 rfl ?_
      refine V.getf dX5_text_85 fl_X5_31 ht4 rfl ?_
      refine V.getf dX5_text_88 fl_X5_59 h564 rfl ?_
      exact V.iret (by exact dX5_text_91) rfl rfl ⟨by rw [txtV, if_pos ok, res, hcnt], rfl, by rw [txtK, if_pos ok, res]; exact hc3.wood hw4 hPR1 ho4, fun q hq => (ho4 q (by omega)).trans (hO3 q hq)⟩
