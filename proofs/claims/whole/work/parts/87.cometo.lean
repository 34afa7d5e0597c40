set_option maxRecDepth 20000 in
set_option maxHeartbeats 4000000 in
theorem s1_comeTo_scan (l : Launch) (d : Nat) (h : MH) (n i N : Nat) (ho kd fg so : Int32) (hN : N ≤ 100) (hsh : h (62 + 2 * i) = some (.inr (3, shF ho kd fg so (nI N) (63 + 2 * i)))) (el : Nat → Int32) (hel : h (63 + 2 * i) = some (ia 100 el)) (B : Nat → Int32) (hB : ∀ k, k < 100 → B k = el k) (q : Nat) (s : Int32) (p e : Nat) (he : e ≤ N) (hno : ∀ j, p ≤ j → j < e - 1 → ¬ B j = nI 59) {Q : Option Value → MH → Nat → Prop} (kk : V l mX1_comeTo (d + 2) 4 [some (.ref 56), some (.ref 20), some (.int (nI p)), some (.int (nI (e - 1)))] [] (CR h i q s) n 0 0 Q) : ∀ r j, p ≤ j → j + r = e - 1 → V l mX1_comeTo (d + 2) 4 [some (.ref 56), some (.ref 20), some (.int (nI p)), some (.int (nI j))] [] (CR h i q s) n 0 0 Q := by
  intro r
  induction r with
  | zero => intro j _ hj; rw [show j = e - 1 by omega]; exact kk
  | succ r ih =>
    intro j hj1 hj
    refine V.iload_n dX1_comeTo_4 rfl ?_
    refine V.aload_n dX1_comeTo_5 rfl ?_
    refine V.getf dX1_comeTo_6 fl_X1_12 (CR_56 _ _ _ _) rfl ?_
    refine V.getf dX1_comeTo_9 fl_X1_25 (CR_no hsh (by omega)) rfl ?_
    refine V.icmp_geN (tgt := 47) dX1_comeTo_12 (by decide) (by omega) (by omega) (fun y => absurd y (by omega)) (fun _ => ?_)
    refine V.aload_n dX1_comeTo_15 rfl ?_
    refine V.iload_n dX1_comeTo_16 rfl ?_
    refine V.callVv [_] dX1_comeTo_17 lk_X1_32 rfl (Nat.le_of_ble_eq_true rfl) (Nat.le_of_ble_eq_true rfl) (CR_56 _ _ _ _) rfl (s1_byteAt l _ h n i N ho kd fg so hN hsh el hel B hB q s (j) (by omega)) ?_
    refine V.bipush (v := nI 59) dX1_comeTo_20 (by decide) ?_
    refine V.icmp_ne (tgt := 41) dX1_comeTo_22 (by decide) (fun _ => ?_) (fun y => absurd y (hno j hj1 (by omega)))
    refine V.inN3 dX1_comeTo_41 (by decide) rfl ?_
    refine V.goto (tgt := 4) dX1_comeTo_44 (by decide) ?_
    exact ih (j + 1) (by omega) (by omega)
/-- how a text's doing ends in the mind -/
def Tq (h0 : MH) (res : Nat ⊕ KK) (n : Nat) : Option Value → MH → Nat → Prop := fun r h1 n1 => n1 = n ∧ Out h0 h1 20 ∧ ∃ (K1 : KK) (cl1 P1 : Nat → Int32) (pn1 : Nat), WoodAt h1 20 K1 cl1 P1 pn1 ∧ (∀ a, res = .inl a → r = some (.int (nI a))) ∧ ∀ K2, res = .inr K2 → r = some (.int (-4)) ∧ K1 = K2 ∧ PR K2 P1 pn1
theorem CR_id {h : MH} {i p : Nat} {s : Int32} (hx : h 56 = some (.inr (1, [.ref (62 + 2 * i), .int (nI p), .int s]))) : CR h i p s = h := hset_id hx
theorem din_lt {B : Nat → Int32} {N c p e : Nat} (h : Din B N c p e) (hl : c = 103 ∨ c = 114 ∨ c = 101 ∨ c = 102 ∨ c = 108 ∨ c = 116 ∨ c = 104 ∨ c = 112 ∨ c = 99) (he : p < e) : LtOk c (nbs B c p e) := by
  obtain ⟨d1, d2, d3, d4, d5⟩ := h
  have j1 := dgt9 d1
  rcases hl with rfl | rfl | rfl | rfl | rfl | rfl | rfl | rfl | rfl
  · exact Or.inl ⟨rfl, j1, ce_lt (d2 rfl).1, ce_lt (d2 rfl).2.1⟩
  · exact Or.inr (Or.inl ⟨by decide, j1⟩)
  · exact Or.inr (Or.inl ⟨by decide, j1⟩)
  · exact Or.inr (Or.inl ⟨by decide, j1⟩)
  · exact Or.inr (Or.inl ⟨by decide, j1⟩)
  · have ee := d5 (by decide)
    have w := nuV_lt d1
    refine Or.inr (Or.inr (Or.inl ⟨by decide, ?_⟩))
    show nuV B (p + 1) (e - 2 - p) < 1000
    rw [show e - 2 - p = nmP B N (p + 1) - (p + 1) by omega]
    exact w.2
  · have ee := d5 (by decide)
    have w := nuV_lt d1
    refine Or.inr (Or.inr (Or.inl ⟨by decide, ?_⟩))
    show nuV B (p + 1) (e - 2 - p) < 1000
    rw [show e - 2 - p = nmP B N (p + 1) - (p + 1) by omega]
    exact w.2
  · exact Or.inr (Or.inr (Or.inr (Or.inl ⟨rfl, j1, dgt9 (d3 rfl).1, dgt9 (d3 rfl).2.1, ce_lt (d3 rfl).2.2⟩)))
  · exact Or.inr (Or.inr (Or.inr (Or.inr ⟨rfl, j1, dgt9 (d4 rfl).1, dgt9 (d4 rfl).2.1, dgt9 (d4 rfl).2.2⟩)))
set_option maxRecDepth 20000 in
set_option maxHeartbeats 4000000 in
theorem s1_comeTo_loop (l : Launch) (d : Nat) (n i N : Nat) (hi : i < 8) (ho kd fg so : Int32) (hN : N ≤ 100) (el : Nat → Int32) (B : Nat → Int32) (hB : ∀ k, k < 100 → B k = el k) (q : Nat) (s : Int32) (h0 : MH) : ∀ (r p : Nat) (h : MH) (K : KK) (cl P : Nat → Int32) (pn m : Nat), h (62 + 2 * i) = some (.inr (3, shF ho kd fg so (nI N) (63 + 2 * i))) → h (63 + 2 * i) = some (ia 100 el) → WoodAt (CR h i q s) 20 K cl P pn → PR K P pn → TI K m → wel B N r p → p ≤ N → N < p + r → Out h0 (CR h i q s) 20 → V l mX1_comeTo (d + 5) 4 [some (.ref 56), some (.ref 20), some (.int (nI p)), some (.int (nI p))] [] (CR h i q s) n 0 0 (Tq h0 (txE B N r p K) n) := by
  intro r
  induction r with
  | zero => intro p h K cl P pn m _ _ _ _ _ _ h1 h2 _; omega
  | succ r ih =>
    intro p h K cl P pn m hsh hel hw hPR hT hwl hp1 hp2 ho0
    by_cases hpN : p < N
    rotate_left
    · refine V.iload_n dX1_comeTo_4 rfl ?_
      refine V.aload_n dX1_comeTo_5 rfl ?_
      refine V.getf dX1_comeTo_6 fl_X1_12 (CR_56 _ _ _ _) rfl ?_
      refine V.getf dX1_comeTo_9 fl_X1_25 (CR_no hsh (by omega)) rfl ?_
      refine V.icmp_geN (tgt := 47) dX1_comeTo_12 (by decide) (by omega) (by omega) (fun _ => ?_) (fun y => absurd y (by omega))
      refine V.bipush (v := -4) dX1_comeTo_47 (by decide) ?_
      refine V.iret (by exact dX1_comeTo_49) rfl rfl ⟨rfl, ho0, K, cl, P, pn, hw, fun a y => ?_, fun K2 y => ?_⟩
      · rw [txE, if_neg hpN] at y; cases y
      · rw [txE, if_neg hpN] at y
        cases y
        exact ⟨rfl, rfl, hPR⟩
    obtain ⟨ok, hw2⟩ := hwl hpN
    obtain ⟨⟨b1, b2, b3, b4⟩, hl⟩ := stR_pp ok
    refine s1_comeTo_scan l _ h n i N ho kd fg so hN hsh el hel B hB q s p (stR B N p).2 b2 b4 ?_ ((stR B N p).2 - 1 - p) p (Nat.le_refl _) (by omega)
    refine V.iload_n dX1_comeTo_4 rfl ?_
    refine V.aload_n dX1_comeTo_5 rfl ?_
    refine V.getf dX1_comeTo_6 fl_X1_12 (CR_56 _ _ _ _) rfl ?_
    refine V.getf dX1_comeTo_9 fl_X1_25 (CR_no hsh (by omega)) rfl ?_
    refine V.icmp_geN (tgt := 47) dX1_comeTo_12 (by decide) (by omega) (by omega) (fun y => absurd y (by omega)) (fun _ => ?_)
    refine V.aload_n dX1_comeTo_15 rfl ?_
    refine V.iload_n dX1_comeTo_16 rfl ?_
    refine V.callVv [_] dX1_comeTo_17 lk_X1_32 rfl (Nat.le_of_ble_eq_true rfl) (Nat.le_of_ble_eq_true rfl) (CR_56 _ _ _ _) rfl (s1_byteAt l _ h n i N ho kd fg so hN hsh el hel B hB q s ((stR B N p).2 - 1) (by omega)) ?_
    refine V.bipush (v := nI 59) dX1_comeTo_20 (by decide) ?_
    have e59 : B ((stR B N p).2 - 1) = nI 59 := by
      have z0 := inB_ex (by omega) (by omega) b3
      have z1 := z0.2.2.1
      rw [show 59 + dgt B 59 ((stR B N p).2 - 1) = 59 by have := z0.2.2.2; omega] at z1
      exact z1
    refine V.icmp_ne (tgt := 41) dX1_comeTo_22 (by decide) (fun y => absurd e59 y) (fun _ => ?_)
    refine V.aload_n dX1_comeTo_25 rfl ?_
    refine V.aload_n dX1_comeTo_26 rfl ?_
    refine V.iload_n dX1_comeTo_27 rfl ?_
    refine V.iload_n dX1_comeTo_28 rfl ?_
    refine V.callCq [_, _, _] dX1_comeTo_29 lk_X1_80 rfl (Nat.le_of_ble_eq_true rfl) (Nat.le_of_ble_eq_true rfl) (CR_56 _ _ _ _) rfl (s1_comesTo l _ n i N ho kd fg so hN el B q s 20 K cl P pn hPR m hT p (hh := h) (hsh := hsh) (hel := hel) (hB := hB) (hw := hw) (h := ok)) (fun h1 hq => ?_)
    obtain ⟨-, -, ho1, K1, cl1, P1, pn1, hw1, hres⟩ := hq
    have hmo : mOf K = m := by rw [mOf, hT.1.1.1, clampI (by have := hT.1.1.2.1; omega)]
    have ho2 := ho0.tr ho1
    refine V.if_neB (tgt := 37) dX1_comeTo_32 (by decide) (fun z => ?_) (fun z => ?_)
    · obtain ⟨K2, e2⟩ := Option.isSome_iff_exists.mp z
      obtain ⟨e3, hPR1⟩ := hres K2 e2
      subst e3
      have hLt : LtOk (ltr B N p) (nbs B (ltr B N p) p (stR B N p).2) := din_lt (stR_din ok) hl (by omega)
      obtain ⟨m1, hT1⟩ := TI_cm hT hLt e2
      have et : txE B N (r + 1) p K = txE B N r (stR B N p).2 K1 := by rw [txE, if_pos hpN, hmo, e2]
      have h56 : h1 56 = some (.inr (1, [.ref (62 + 2 * i), .int (nI q), .int s])) := (ho1 56 (by omega)).trans (CR_56 _ _ _ _)
      refine V.iload_n dX1_comeTo_37 rfl ?_
      refine V.iconst (v := nI 1) dX1_comeTo_38 (by decide) ?_
      refine V.iaddN dX1_comeTo_39 ?_
      refine V.ist2 dX1_comeTo_40 (by decide) rfl ?_
      refine V.inN3 dX1_comeTo_41 (by decide) rfl ?_
      refine V.goto (tgt := 4) dX1_comeTo_44 (by decide) ?_
      rw [show (stR B N p).2 - 1 + 1 = (stR B N p).2 by omega, et]
      rw [← CR_id h56] at hw1 ho2 ⊢
      exact ih _ h1 K1 cl1 P1 pn1 m1 ((ho1 _ (by omega)).trans (CR_no hsh (by omega))) ((ho1 _ (by omega)).trans (CR_no hel (by omega))) hw1 hPR1 hT1 hw2 b2 (by omega) ho2
    · have e2 : cmE (ltr B N p) (nbs B (ltr B N p) p (stR B N p).2) K m = none := by
        cases w : cmE (ltr B N p) (nbs B (ltr B N p) p (stR B N p).2) K m with
        | none => rfl
        | some K2 => rw [w] at z; cases z
      have et : txE B N (r + 1) p K = .inl p := by rw [txE, if_pos hpN, hmo, e2]
      refine V.iload_n dX1_comeTo_35 rfl ?_
      exact V.iret (by exact dX1_comeTo_36) rfl rfl ⟨rfl, ho2, K1, cl1, P1, pn1, hw1, fun a y => by rw [et] at y; cases y; rfl, fun K2 y => by rw [et] at y; cases y⟩
set_option maxRecDepth 20000 in
set_option maxHeartbeats 4000000 in
theorem s1_comeTo (l : Launch) (d : Nat) (n i N : Nat) (hi : i < 8) (ho kd fg so : Int32) (hN : N ≤ 100) (el : Nat → Int32) (B : Nat → Int32) (hB : ∀ k, k < 100 → B k = el k) (q : Nat) (s : Int32) (h0 : MH) (hsh : h0 (62 + 2 * i) = some (.inr (3, shF ho kd fg so (nI N) (63 + 2 * i)))) (hel : h0 (63 + 2 * i) = some (ia 100 el)) (h56 : h0 56 = some (.inr (1, [.ref (62 + 2 * i), .int (nI q), .int s]))) (K : KK) (cl P : Nat → Int32) (pn m : Nat) (hw : WoodAt h0 20 K cl P pn) (hPR : PR K P pn) (hT : TI K m) (hwl : wel B N 101 0) : Sp l mX1_comeTo (d + 5) [.ref 56, .ref 20] h0 n 0 0 (Tq h0 (txE B N 101 0 K) n) := by
  show V _ _ _ _ [some (.ref 56), some (.ref 20), none, none] _ _ _ _ _ _
  refine V.iconst (v := nI 0) dX1_comeTo_0 (by decide) ?_
  refine V.ist2 dX1_comeTo_1 (by decide) rfl ?_
  refine V.iconst (v := nI 0) dX1_comeTo_2 (by decide) ?_
  refine V.ist3 dX1_comeTo_3 (by decide) rfl ?_
  have key := s1_comeTo_loop l d n i N hi ho kd fg so hN el B hB q s h0 101 0 h0 K cl P pn m hsh hel (by rw [CR_id h56]; exact hw) hPR hT hwl (by omega) (by omega) (by rw [CR_id h56]; exact Out.rf _ _)
  rw [CR_id h56] at key
  exact key
