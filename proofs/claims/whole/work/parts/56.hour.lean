theorem hset_comm (h : MH) {a b : Nat} (x y : MC) (hab : a ≠ b) : hset (hset h a x) b y = hset (hset h b y) a x := by
  funext j
  unfold hset
  by_cases p : j = a
  · by_cases q : j = b
    · exact absurd (p.symm.trans q) hab
    · simp [p, q]
      intro y2; exact absurd y2 hab
  · by_cases q : j = b
    · simp [p, q]
      intro e; exact absurd e.symm hab
    · simp [p, q]
theorem KD_89 {K : KK} {m : Nat} (h : KD K m) (v : Int32) : KD (upd K 89 v) m := by
  obtain ⟨⟨a1, a2, a3, a4, a5, a6, a7, a8⟩, ⟨b1, b2⟩, ⟨c1, c2⟩, e, g⟩ := h
  have hs : ∀ q u, gP (upd K 89 v) q u = gP K q u := fun q u => gP_lo _ _ _ _ _ (by omega)
  have hl : ∀ j, j ≠ 89 → upd K 89 v j = K j := fun j hj => pk_un hj
  exact ⟨⟨(hl _ (by omega)).trans a1, a2, fun q hq => by rw [hs]; exact a3 q hq, fun i hi => by rw [hl _ (by omega)]; exact a4 i hi, fun q hq y => by rw [hs] at y ⊢; exact a5 q hq y, fun q hq => by rw [hs]; exact a6 q hq, fun i j hi hj => by rw [hl _ (by omega)]; exact a7 i j hi hj, fun q hq => by rw [hs]; exact a8 q hq⟩, ⟨fun i hi => by rw [hl _ (by omega)]; exact b1 i hi, fun q i hq hi y => by rw [hs] at y; rw [hl _ (by omega)]; exact b2 q i hq hi y⟩, ⟨fun i hi => by rw [hl _ (by omega)]; exact c1 i hi, by rw [hl _ (by omega)]; exact c2⟩, fun q i hq hi y => by rw [hs] at y; rw [hl _ (by omega)]; exact e q i hq hi y, by rw [hl _ (by omega)]; exact g⟩
theorem bgn_89 (K : KK) (m : Nat) (z v : Int32) : bgn (upd K 89 v) m z = upd (bgn K m z) 89 v := by
  funext j
  by_cases q : j = 89
  · subst q; rw [pk_us, bgn_lo _ _ _ _ (by omega), pk_us]
  · rw [pk_un q]
    by_cases y : j < 114
    · by_cases y2 : j < 91 ∨ 100 ≤ j
      · rw [bgn_lo _ _ _ _ (by omega), bgn_lo _ _ _ _ (by omega), pk_un q]
      · rcases (show j = 91 ∨ j = 92 ∨ j = 93 ∨ j = 94 ∨ j = 95 ∨ j = 96 ∨ j = 97 ∨ j = 98 ∨ j = 99 by omega) with rfl | rfl | rfl | rfl | rfl | rfl | rfl | rfl | rfl <;> rfl
    · rw [bgn, bgn, bgS_j _ _ _ (by omega), bgS_j _ _ _ (by omega)]
      exact bgI_hi (fun i hi => pk_un (by omega)) _ _ (by omega)
theorem WoodAt.rule {h : MH} {w : Nat} {K : KK} {cl P : Nat → Int32} {pn : Nat} (hw : WoodAt h w K cl P pn) {ru : Nat → Int32} (hru : h (w + 2) = some (.inl (0, 6, .inl ru))) (j : Nat) (v : Int32) (hj : j < 6) : WoodAt (hset h (w + 2) (.inl (0, 6, .inl (upd ru j v)))) w (upd K (84 + j) v) cl P pn := by
  obtain ⟨a0, ⟨gr, b1, c1⟩, ⟨ru2, b2, c2⟩, ⟨pq, b3, c3⟩, a4, ⟨fl, b5, c5⟩, ⟨ca, b6, c6⟩, ⟨wa, b7⟩, b8, b9⟩ := hw
  have e5 : ru = ru2 := by
    have := hru.symm.trans b2
    simpa using this
  subst e5
  have hl : ∀ i, i ≠ 84 + j → upd K (84 + j) v i = K i := fun i hi => pk_un hi
  have hg : ∀ p u, gP (upd K (84 + j) v) p u = gP K p u := fun p u => gP_lo _ _ _ _ _ (by omega)
  refine ⟨?_, ⟨gr, o_ne b1 (by omega), fun c hc => by rw [hl _ (by omega)]; exact c1 c hc⟩, ⟨_, hset_self _ _ _, fun i hi => ?_⟩, ⟨pq, o_ne b3 (by omega), c3⟩, o_ne a4 (by omega), ⟨fl, o_ne b5 (by omega), fun i hi => by rw [hl _ (by omega)]; exact c5 i hi⟩, ⟨ca, o_ne b6 (by omega), fun i hi => by rw [hl _ (by omega)]; exact c6 i hi⟩, ⟨wa, o_ne b7 (by omega)⟩, fun i hi => ?_, fun i hi => by rw [hg]; exact b9 i hi⟩
  · refine o_ne ?_ (by omega)
    rw [a0]
    simp only [woF, hl _ (show 90 ≠ 84 + j by omega), hl _ (show 91 ≠ 84 + j by omega), hl _ (show 92 ≠ 84 + j by omega), hl _ (show 93 ≠ 84 + j by omega), hl _ (show 94 ≠ 84 + j by omega), hl _ (show 95 ≠ 84 + j by omega)]
  · by_cases q : i = j
    · subst q; rw [pk_us, pk_us]
    · rw [pk_un q, hl _ (by omega)]; exact c2 i hi
  · refine o_ne ?_ (by omega)
    rw [b8 i hi]
    simp only [pF, cAt, hg]
/-- the least of the hours 10, 20 .. 600 -/
def hL (f : Nat → Nat → Bool) (N : Nat) : Nat → Nat → Int32
  | 0, _ => -4
  | r + 1, t => if N < 2 * cN (f (10 * t)) N then nI (10 * t) else hL f N r (t + 1)
theorem hL_congr {f g : Nat → Nat → Bool} {N : Nat} (e : ∀ t k, t ≤ 60 → k < N → f (10 * t) k = g (10 * t) k) : ∀ r t, r + t = 61 → hL f N r t = hL g N r t := by
  intro r
  induction r with
  | zero => intro t _; rfl
  | succ r ih => intro t ht; rw [hL, hL, ih (t + 1) (by omega), cN_congr (fun i hi => e t i (by omega) hi)]
def hrB (K : KK) (m : Nat) (z : Int32) (hr k : Nat) : Bool := !decide (fin K m (z + nI k) 92 = nI 2) && decide (fin K m (z + nI k) 91 ≤ nI hr)
def hourV (K : KK) (m : Nat) (x z : Int32) : Int32 := if wi x (nI 1) (nI 10) = true then (if K 90 = 0 then -3 else hL (hrB (upd K 89 (nI 600)) m z) x.toNatClampNeg 60 1) else -1
theorem pl_91 {m q : Nat} (hq : q ≤ 600) : ∀ (r s : Nat) (X : KK), KD X m → X 91 = nI s → X 89 = nI q → s ≤ 600 → ∃ t : Nat, t ≤ 600 ∧ pl m r X 91 = nI t := by
  intro r
  induction r with
  | zero => intro s X hD h1 h2 hs; exact ⟨s, hs, h1⟩
  | succ r ih =>
    intro s X hD h1 h2 hs
    rw [pl]
    split
    · exact ⟨s, hs, h1⟩
    · rename_i c
      have hlt : s < q := by
        have y : X 91 < X 89 := Classical.byContradiction fun y => c (by rw [endB]; simp [y])
        rw [h1, h2] at y
        exact (nI_ltI (by omega) (by omega)).mp y
      exact ih (s + 1) (sec X m) (KD_sec hD) (by rw [sec_91 hD.1, h1, nI_add]) (by rw [sec_89]; exact h2) (by omega)
def wcB (wa : Nat → Int32) (hr k : Nat) : Bool := !decide (wa k = -4) && decide (wa k ≤ nI hr)
def ecB (e : Nat → Int32) (hr k : Nat) : Bool := decide (e k ≤ nI hr)
set_option maxRecDepth 20000 in
set_option maxHeartbeats 4000000 in
theorem s4_leastHour_in (l : Launch) (d : Nat) (h : MH) (n w : Nat) (K : KK) (cl P : Nat → Int32) (pn : Nat) (hw : WoodAt h w K cl P pn) (N hr : Nat) (hN : N ≤ 10) (hhr : hr ≤ 600) (wa : Nat → Int32) (hwa : h (w + 7) = some (.inl (0, 10, .inl wa))) {Q : Option Value → MH → Nat → Prop} (kk : V l mX4_leastHour d 53 [some (.ref w), some (.int (nI N)), some (.int (nI hr)), some (.int (nI (cN (wcB wa hr) N))), none] [] h n 0 0 Q) : ∀ (r i : Nat), i + r = N → V l mX4_leastHour d 15 [some (.ref w), some (.int (nI N)), some (.int (nI hr)), some (.int (nI (cN (wcB wa hr) i))), some (.int (nI i))] [] h n 0 0 Q := by
  intro r
  induction r with
  | zero =>
    intro i hi
    obtain ⟨hw0, ⟨gr, hgr, egr⟩, ⟨ru, hru, eru⟩, ⟨pq, hpf, epf⟩, hpl, ⟨fl, hfl, efl⟩, ⟨ca, hca, eca⟩, -, hpp, hhd⟩ := id hw
    refine V.iload dX4_leastHour_15 rfl ?_
    refine V.iload_n dX4_leastHour_17 rfl ?_
    refine V.icmp_geN (tgt := 53) dX4_leastHour_18 (by decide) (by omega) (by omega) (fun _ => ?_) (fun q => absurd q (by omega))
    have hiN : i = N := by omega
    subst hiN
    exact V.drop 4 kk
  | succ r ih =>
    intro i hi
    obtain ⟨hw0, ⟨gr, hgr, egr⟩, ⟨ru, hru, eru⟩, ⟨pq, hpf, epf⟩, hpl, ⟨fl, hfl, efl⟩, ⟨ca, hca, eca⟩, -, hpp, hhd⟩ := id hw
    refine V.iload dX4_leastHour_15 rfl ?_
    refine V.iload_n dX4_leastHour_17 rfl ?_
    refine V.icmp_geN (tgt := 53) dX4_leastHour_18 (by decide) (by omega) (by omega) (fun q => absurd q (by omega)) (fun _ => ?_)
    refine V.aload_n dX4_leastHour_21 rfl ?_
    refine V.getf dX4_leastHour_22 fl_X4_33 hw0 rfl ?_
    refine V.iload dX4_leastHour_25 rfl ?_
    refine V.ialdN dX4_leastHour_27 (by assumption) (by omega) (by decide) ?_
    refine V.bipush (v := -4) dX4_leastHour_28 (by decide) ?_
    refine V.icmp_eq (tgt := 47) dX4_leastHour_30 (by decide) (fun c30 => ?_) (fun c30 => ?_)
    · refine V.inN4 dX4_leastHour_47 (by decide) rfl ?_
      refine V.goto (tgt := 15) dX4_leastHour_50 (by decide) ?_
      exact V.ls (by (try simp only [← Int32.not_le, Classical.not_not, decide_eq_true_eq, decide_eq_false_iff_not] at c30); simp only [cN, wcB, ← Int32.not_le, eq_true c30, List.set_cons_succ, List.set_cons_zero, not_true_eq_false, not_false_eq_true, if_true, if_false, decide_true, decide_false, Bool.and_true, Bool.and_false, Bool.true_and, Bool.false_and, Bool.or_true, Bool.or_false, Bool.true_or, Bool.false_or, Bool.not_true, Bool.not_false, and_true, and_false, true_and, false_and, or_true, or_false, true_or, false_or, bIt, bIf, Bool.false_eq_true, reduceCtorEq, Nat.add_zero, Int32.add_zero, nI_add] <;> rfl) (ih (i + 1) (by omega))
    · refine V.aload_n dX4_leastHour_33 rfl ?_
      refine V.getf dX4_leastHour_34 fl_X4_33 hw0 rfl ?_
      refine V.iload dX4_leastHour_37 rfl ?_
      refine V.ialdN dX4_leastHour_39 (by assumption) (by omega) (by decide) ?_
      refine V.iload_n dX4_leastHour_40 rfl ?_
      refine V.icmp_gt (tgt := 47) dX4_leastHour_41 (by decide) (fun c41 => ?_) (fun c41 => ?_)
      · refine V.inN4 dX4_leastHour_47 (by decide) rfl ?_
        refine V.goto (tgt := 15) dX4_leastHour_50 (by decide) ?_
        exact V.ls (by (try simp only [← Int32.not_le, Classical.not_not, decide_eq_true_eq, decide_eq_false_iff_not] at c30 c41); simp only [cN, wcB, ← Int32.not_le, c30, c41, List.set_cons_succ, List.set_cons_zero, not_true_eq_false, not_false_eq_true, if_true, if_false, decide_true, decide_false, Bool.and_true, Bool.and_false, Bool.true_and, Bool.false_and, Bool.or_true, Bool.or_false, Bool.true_or, Bool.false_or, Bool.not_true, Bool.not_false, and_true, and_false, true_and, false_and, or_true, or_false, true_or, false_or, bIt, bIf, Bool.false_eq_true, reduceCtorEq, Nat.add_zero, Int32.add_zero, nI_add] <;> rfl) (ih (i + 1) (by omega))
      · refine V.inN3 dX4_leastHour_44 (by decide) rfl ?_
        refine V.inN4 dX4_leastHour_47 (by decide) rfl ?_
        refine V.goto (tgt := 15) dX4_leastHour_50 (by decide) ?_
        exact V.ls (by (try simp only [← Int32.not_le, Classical.not_not, decide_eq_true_eq, decide_eq_false_iff_not] at c30 c41); simp only [cN, wcB, ← Int32.not_le, c30, c41, List.set_cons_succ, List.set_cons_zero, not_true_eq_false, not_false_eq_true, if_true, if_false, decide_true, decide_false, Bool.and_true, Bool.and_false, Bool.true_and, Bool.false_and, Bool.or_true, Bool.or_false, Bool.true_or, Bool.false_or, Bool.not_true, Bool.not_false, and_true, and_false, true_and, false_and, or_true, or_false, true_or, false_or, bIt, bIf, Bool.false_eq_true, reduceCtorEq, Nat.add_zero, Int32.add_zero, nI_add] <;> rfl) (ih (i + 1) (by omega))
set_option maxRecDepth 20000 in
set_option maxHeartbeats 4000000 in
theorem s4_leastHour_loop (l : Launch) (d : Nat) (h : MH) (n w : Nat) (K : KK) (cl P : Nat → Int32) (pn : Nat) (hw : WoodAt h w K cl P pn) (N : Nat) (hN : N ≤ 10) (wa : Nat → Int32) (hwa : h (w + 7) = some (.inl (0, 10, .inl wa))) : ∀ (r t : Nat), r + t = 61 → V l mX4_leastHour d 3 [some (.ref w), some (.int (nI N)), some (.int (nI (10 * t))), none, none] [] h n 0 0 (Pv (hL (wcB wa) N r t) h n) := by
  intro r
  induction r with
  | zero =>
    intro t ht
    refine V.iload_n dX4_leastHour_3 rfl ?_
    refine V.sipush (v := nI 600) dX4_leastHour_4 (by decide) ?_
    refine V.icmp_gtN (tgt := 68) dX4_leastHour_7 (by decide) (by omega) (by omega) (fun _ => ?_) (fun q => absurd q (by omega))
    refine V.bipush (v := -4) dX4_leastHour_68 (by decide) ?_
    exact V.iretP (by exact dX4_leastHour_70) rfl rfl rfl
  | succ r ih =>
    intro t ht
    refine V.iload_n dX4_leastHour_3 rfl ?_
    refine V.sipush (v := nI 600) dX4_leastHour_4 (by decide) ?_
    refine V.icmp_gtN (tgt := 68) dX4_leastHour_7 (by decide) (by omega) (by omega) (fun q => absurd q (by omega)) (fun _ => ?_)
    refine V.iconst (v := nI 0) dX4_leastHour_10 (by decide) ?_
    refine V.ist3 dX4_leastHour_11 (by decide) rfl ?_
    refine V.iconst (v := nI 0) dX4_leastHour_12 (by decide) ?_
    refine V.ist4 dX4_leastHour_13 (by decide) rfl ?_
    refine s4_leastHour_in l d h n w K cl P pn hw N (10 * t) hN (by omega) wa hwa ?_ N 0 (by omega)
    refine V.iconst (v := nI 2) dX4_leastHour_53 (by decide) ?_
    refine V.iload_n dX4_leastHour_54 rfl ?_
    refine V.imulN dX4_leastHour_55 ?_
    refine V.iload_n dX4_leastHour_56 rfl ?_
    have hcl := cN_le (wcB wa (10 * t)) N
    refine V.icmp_leN (tgt := 62) dX4_leastHour_57 (by decide) (by omega) (by omega) (fun c57 => ?_) (fun c57 => ?_)
    · refine V.inc2 (v := nI (10 * (t + 1))) dX4_leastHour_62 (nI_add _ 10) (by decide) rfl ?_
      refine V.goto (tgt := 3) dX4_leastHour_65 (by decide) ?_
      rw [hL, if_neg (by omega)]
      exact V.drop 3 (ih (t + 1) (by omega))
    · refine V.iload_n dX4_leastHour_60 rfl ?_
      exact V.iretP (by exact dX4_leastHour_61) rfl (by rw [hL, if_pos c57]) rfl
set_option maxRecDepth 20000 in
set_option maxHeartbeats 4000000 in
theorem s4_leastHour (l : Launch) (d : Nat) (h : MH) (n w : Nat) (K : KK) (cl P : Nat → Int32) (pn : Nat) (hw : WoodAt h w K cl P pn) (N : Nat) (hN : N ≤ 10) (wa : Nat → Int32) (hwa : h (w + 7) = some (.inl (0, 10, .inl wa))) : Sp l mX4_leastHour d [.ref w, .int (nI N)] h n 0 0 (Pv (hL (wcB wa) N 60 1) h n) := by
  show V _ _ _ _ [some (.ref w), some (.int (nI N)), none, none, none] _ _ _ _ _ _
  refine V.bipush (v := nI 10) dX4_leastHour_0 (by decide) ?_
  refine V.ist2 dX4_leastHour_2 (by decide) rfl ?_
  exact s4_leastHour_loop l d h n w K cl P pn hw N hN wa hwa 60 1 (by omega)
theorem hr_91 {K : KK} {m : Nat} (hD : KD K m) (z : Int32) : ∃ t : Nat, t ≤ 600 ∧ fin (upd K 89 (nI 600)) m z 91 = nI t :=
  pl_91 (by omega) 600 0 _ (KD_bgn (KD_89 hD _) z) rfl ((bgn_lo _ _ _ _ (by omega)).trans pk_us) (by omega)
theorem hr_wc {K : KK} {m N : Nat} (hD : KD K m) {z : Int32} {wa : Nat → Int32} (h : ∀ k, k < N → wa k = woS (upd K 89 (nI 600)) m (z + nI k)) : hL (wcB wa) N 60 1 = hL (hrB (upd K 89 (nI 600)) m z) N 60 1 := by
  refine hL_congr (fun t k _ hk => ?_) 60 1 (by omega)
  obtain ⟨s, hs, e⟩ := hr_91 hD (z + nI k)
  rw [wcB, hrB, h k hk, woS, e]
  by_cases q : fin (upd K 89 (nI 600)) m (z + nI k) 92 = nI 2
  · simp [q]
  · simp [q]
    intro y
    exact fun q2 => absurd q2.symm (neg4_ne (by omega))
theorem hr_ec {K : KK} {m N : Nat} {z : Int32} {e : Nat → Int32} (h : ∀ k, k < N → e k = if fin (upd K 89 (nI 600)) m (z + nI k) 92 = nI 2 then nI 601 else fin (upd K 89 (nI 600)) m (z + nI k) 91) : hL (ecB e) N 60 1 = hL (hrB (upd K 89 (nI 600)) m z) N 60 1 := by
  refine hL_congr (fun t k ht hk => ?_) 60 1 (by omega)
  rw [ecB, hrB, h k hk]
  by_cases q : fin (upd K 89 (nI 600)) m (z + nI k) 92 = nI 2
  · have y : ¬ nI 601 ≤ nI (10 * t) := fun y => absurd ((nI_leI (by omega) (by omega)).mp y) (by omega)
    simp [q, y]
  · simp [q]
set_option maxRecDepth 20000 in
set_option maxHeartbeats 4000000 in
theorem x_hour (l : Launch) (d : Nat) (h : MH) (n : Nat) (K : KK) (b : Bool) (KI : KK) (S : SS) (m : Nat) (hc : ClsAt h K b KI S) (hT : TI K m) (x z : Int32) : Sp l mX5_hour (d + 7) [.ref 0, .int x, .int z] h n 0 0 (Qx (hourV K m x z) K b KI S h n) := by
  have hD := hT.1
  have hm := hD.1.1
  have hm10 := hD.1.2.1
  obtain ⟨ht0, ⟨sq, hsq, esq⟩, ⟨cl, P, pn, hw, hPR⟩, ⟨Km, clm, Pm, pm, hwm⟩, ⟨KJ, clJ, PJ, pJ, hwJ, hJ⟩, ⟨rb, rx, ry, hrd⟩, hsc, ⟨co, hco⟩, ⟨se, hse⟩, hsh⟩ := id hc
  obtain ⟨hw0, ⟨gr, hgr, egr⟩, ⟨ru, hru, eru⟩, ⟨pq, hpf, epf⟩, hpl, ⟨fl, hfl, efl⟩, ⟨ca, hca, eca⟩, ⟨wa, hwa⟩, hpp, hhd⟩ := id hw
  show V _ _ _ _ [some (.ref 0), some (.int x), some (.int z)] _ _ _ _ _ _
  refine V.iload_n dX5_hour_0 rfl ?_
  refine V.iconst (v := nI 1) dX5_hour_1 (by decide) ?_
  refine V.bipush (v := nI 10) dX5_hour_2 (by decide) ?_
  refine V.callSv [_, _, _] dX5_hour_4 lk_X5_71 rfl (Nat.le_of_ble_eq_true rfl) (Nat.le_of_ble_eq_true rfl) (s5_within _ _ _ _ _ _ _) ?_
  refine V.if_neB (tgt := 12) dX5_hour_7 (by decide) (fun c7 => ?_) (fun c7 => ?_)
  · refine V.aload_n dX5_hour_12 rfl ?_
    refine V.getf dX5_hour_13 fl_X5_18 ht0 rfl ?_
    refine V.getf dX5_hour_16 fl_X5_144 hw0 rfl ?_
    refine V.if_ne (tgt := 25) dX5_hour_19 (by decide) (fun c19 => ?_) (fun c19 => ?_)
    · obtain ⟨N, hN1, hN, rfl⟩ := wi1_ex (by decide) c7
      refine V.aload_n dX5_hour_25 rfl ?_
      refine V.getf dX5_hour_26 fl_X5_22 ht0 rfl ?_
      refine V.aload_n dX5_hour_29 rfl ?_
      refine V.getf dX5_hour_30 fl_X5_18 ht0 rfl ?_
      refine V.callVw [_] dX5_hour_33 lk_X5_51 rfl (Nat.le_of_ble_eq_true rfl) (Nat.le_of_ble_eq_true rfl) hwm.1 rfl (s4_become _ _ _ _ 20 2 _ _ _ _ _ _ _ _ (by omega) hwm hw) (fun h1 hw1 ho1 => ?_)
      have ht1 := (ho1 0 (by omega)).trans ht0
      refine V.aload_n dX5_hour_36 rfl ?_
      refine V.getf dX5_hour_37 fl_X5_22 ht1 rfl ?_
      refine V.getf dX5_hour_40 fl_X5_75 hw1.1 rfl ?_
      refine V.iconst (v := nI 5) dX5_hour_43 (by decide) ?_
      refine V.sipush (v := nI 600) dX5_hour_44 (by decide) ?_
      obtain ⟨ru1, hru1, eru1⟩ := hw1.2.2.1
      refine V.iastN dX5_hour_47 hru1 (by omega) (by decide) ?_
      have hw3 := hw1.rule hru1 5 (nI 600) (by omega)
      have ht3 := o_ne (a := 20 + 2) (x := .inl (0, 6, .inl (upd ru1 5 (nI 600)))) ht1 (by omega)
      have ho3 : Ou h1 (hset h1 (20 + 2) (.inl (0, 6, .inl (upd ru1 5 (nI 600))))) 20 := fun q hq => hset_ne _ _ (by omega)
      refine V.aload_n dX5_hour_48 rfl ?_
      refine V.getf dX5_hour_49 fl_X5_22 ht3 rfl ?_
      refine V.iload_n dX5_hour_52 rfl ?_
      refine V.iload_n dX5_hour_53 rfl ?_
      refine V.callVg [_, _] dX5_hour_54 lk_X5_186 rfl (Nat.le_of_ble_eq_true rfl) (Nat.le_of_ble_eq_true rfl) hw3.1 rfl (s4_playGames _ _ _ _ _ N hN1 hN _ _ _ _ _ m (hw3.wb m) ((pk_un (by omega)).trans hm) hm10 (KD_bgn (KD_89 hD _)) (PR_lo hPR (fun j h1 h2 => pk_un (by omega)))) (fun h2 cl2 wa2 hw2 ho2 hwa2 hww2 => ?_)
      have ht2 := (ho2 0 (by omega)).trans ht3
      have hc2 := hc.mindO hw2 ((ho1.ou.tr ho3).tr ho2)
      have hq2 : ∀ q, 78 ≤ q → h2 q = h q := fun q hq => (ho2 q (by omega)).trans ((ho3 q (by omega)).trans (ho1 q (by omega)))
      refine V.pop dX5_hour_57 rfl ?_
      refine V.aload_n dX5_hour_58 rfl ?_
      refine V.getf dX5_hour_59 fl_X5_22 ht2 rfl ?_
      refine V.iload_n dX5_hour_62 rfl ?_
      refine V.callVv [_] dX5_hour_63 lk_X5_216 rfl (Nat.le_of_ble_eq_true rfl) (Nat.le_of_ble_eq_true rfl) hw2.1 rfl (s4_leastHour _ _ _ _ _ _ _ _ _ hw2 N hN wa2 hwa2) ?_
      exact V.iret (by exact dX5_hour_66) rfl rfl ⟨by rw [hourV, if_pos c7, if_neg c19, clampI (show N < 2147483648 by omega), hr_wc hD hww2], rfl, hc2, hq2⟩
    · refine V.bipush (v := -3) dX5_hour_22 (by decide) ?_
      exact V.iret (by exact dX5_hour_24) rfl rfl ⟨by simp only [hourV, c7, eq_true c19, not_true_eq_false, not_false_eq_true, if_true, if_false, decide_true, decide_false, Bool.and_true, Bool.and_false, Bool.true_and, Bool.false_and, Bool.or_true, Bool.or_false, Bool.true_or, Bool.false_or, Bool.not_true, Bool.not_false, and_true, and_false, true_and, false_and, or_true, or_false, true_or, false_or, bIt, bIf, Bool.false_eq_true, reduceCtorEq], rfl, hc, fun _ _ => rfl⟩
  · refine V.iconst (v := -1) dX5_hour_10 (by decide) ?_
    exact V.iret (by exact dX5_hour_11) rfl rfl ⟨by simp only [hourV, c7, not_true_eq_false, not_false_eq_true, if_true, if_false, decide_true, decide_false, Bool.and_true, Bool.and_false, Bool.true_and, Bool.false_and, Bool.or_true, Bool.or_false, Bool.true_or, Bool.false_or, Bool.not_true, Bool.not_false, and_true, and_false, true_and, false_and, or_true, or_false, true_or, false_or, bIt, bIf, Bool.false_eq_true, reduceCtorEq], rfl, hc, fun _ _ => rfl⟩
set_option maxRecDepth 20000 in
set_option maxHeartbeats 4000000 in
theorem m_hour_in (l : Launch) (d : Nat) (h : MH) (n : Nat) (b : Bool) (th po ba en tt : Int32) (hm0 : h 78 = some (.inr (6, moF b th po ba en tt))) (N hr : Nat) (hN : N ≤ 10) (hhr : hr ≤ 600) (z : Int32) (e : Nat → Int32) (h90 : h 90 = some (.inl (0, 10, .inl e))) {Q : Option Value → MH → Nat → Prop} (kk : V l mX6_hour d 140 [some (.ref 78), some (.int (nI N)), some (.int z), some (.int (nI hr)), some (.int (nI (cN (ecB e hr) N))), none] [] h n 0 0 Q) : ∀ (r i : Nat), i + r = N → V l mX6_hour d 107 [some (.ref 78), some (.int (nI N)), some (.int z), some (.int (nI hr)), some (.int (nI (cN (ecB e hr) i))), some (.int (nI i))] [] h n 0 0 Q := by
  intro r
  induction r with
  | zero =>
    intro i hi
    have hN2 := hN
    refine V.iload dX6_hour_107 rfl ?_
    refine V.iload_n dX6_hour_109 rfl ?_
    refine V.icmp_geN (tgt := 140) dX6_hour_110 (by decide) (by omega) (by omega) (fun _ => ?_) (fun q => absurd q (by omega))
    have hiN : i = N := by omega
    subst hiN
    exact V.drop 5 kk
  | succ r ih =>
    intro i hi
    have hN2 := hN
    refine V.iload dX6_hour_107 rfl ?_
    refine V.iload_n dX6_hour_109 rfl ?_
    refine V.icmp_geN (tgt := 140) dX6_hour_110 (by decide) (by omega) (by omega) (fun q => absurd q (by omega)) (fun _ => ?_)
    refine V.iload dX6_hour_113 rfl ?_
    refine V.aload_n dX6_hour_115 rfl ?_
    refine V.getf dX6_hour_116 fl_X6_43 hm0 rfl ?_
    refine V.iload dX6_hour_119 rfl ?_
    refine V.ialdN dX6_hour_121 h90 (by omega) (by decide) ?_
    refine V.iload_n dX6_hour_122 rfl ?_
    refine V.icmp_gt (tgt := 130) dX6_hour_123 (by decide) (fun c123 => ?_) (fun c123 => ?_)
    · refine V.iconst (v := nI 0) dX6_hour_130 (by decide) ?_
      refine V.iaddN dX6_hour_131 ?_
      refine V.ist4 dX6_hour_132 (by decide) rfl ?_
      refine V.inN5 dX6_hour_134 (by decide) rfl ?_
      refine V.goto (tgt := 107) dX6_hour_137 (by decide) ?_
      exact V.ls (by (try simp only [← Int32.not_le, Classical.not_not, decide_eq_true_eq, decide_eq_false_iff_not] at c123); simp only [cN, ecB, ← Int32.not_le, c123, List.set_cons_succ, List.set_cons_zero, not_true_eq_false, not_false_eq_true, if_true, if_false, decide_true, decide_false, Bool.and_true, Bool.and_false, Bool.true_and, Bool.false_and, Bool.or_true, Bool.or_false, Bool.true_or, Bool.false_or, Bool.not_true, Bool.not_false, and_true, and_false, true_and, false_and, or_true, or_false, true_or, false_or, bIt, bIf, Bool.false_eq_true, reduceCtorEq, Nat.add_zero, Int32.add_zero, nI_add] <;> rfl) (ih (i + 1) (by omega))
    · refine V.iconst (v := nI 1) dX6_hour_126 (by decide) ?_
      refine V.goto (tgt := 131) dX6_hour_127 (by decide) ?_
      refine V.iaddN dX6_hour_131 ?_
      refine V.ist4 dX6_hour_132 (by decide) rfl ?_
      refine V.inN5 dX6_hour_134 (by decide) rfl ?_
      refine V.goto (tgt := 107) dX6_hour_137 (by decide) ?_
      exact V.ls (by (try simp only [← Int32.not_le, Classical.not_not, decide_eq_true_eq, decide_eq_false_iff_not] at c123); simp only [cN, ecB, ← Int32.not_le, c123, List.set_cons_succ, List.set_cons_zero, not_true_eq_false, not_false_eq_true, if_true, if_false, decide_true, decide_false, Bool.and_true, Bool.and_false, Bool.true_and, Bool.false_and, Bool.or_true, Bool.or_false, Bool.true_or, Bool.false_or, Bool.not_true, Bool.not_false, and_true, and_false, true_and, false_and, or_true, or_false, true_or, false_or, bIt, bIf, Bool.false_eq_true, reduceCtorEq, Nat.add_zero, Int32.add_zero, nI_add] <;> rfl) (ih (i + 1) (by omega))
set_option maxRecDepth 20000 in
set_option maxHeartbeats 4000000 in
theorem m_hour_b (l : Launch) (d : Nat) (h : MH) (n : Nat) (b : Bool) (th po ba en tt : Int32) (hm0 : h 78 = some (.inr (6, moF b th po ba en tt))) (N : Nat) (hN : N ≤ 10) (z : Int32) (e : Nat → Int32) (h90 : h 90 = some (.inl (0, 10, .inl e))) : ∀ (r t : Nat), r + t = 61 → V l mX6_hour d 94 [some (.ref 78), some (.int (nI N)), some (.int z), some (.int (nI (10 * t))), none, none] [] h n 0 0 (Pv (hL (ecB e) N r t) h n) := by
  intro r
  induction r with
  | zero =>
    intro t ht
    refine V.iload_n dX6_hour_94 rfl ?_
    refine V.sipush (v := nI 600) dX6_hour_95 (by decide) ?_
    refine V.icmp_gtN (tgt := 156) dX6_hour_98 (by decide) (by omega) (by omega) (fun _ => ?_) (fun q => absurd q (by omega))
    refine V.bipush (v := -4) dX6_hour_156 (by decide) ?_
    exact V.iretP (by exact dX6_hour_158) rfl rfl rfl
  | succ r ih =>
    intro t ht
    refine V.iload_n dX6_hour_94 rfl ?_
    refine V.sipush (v := nI 600) dX6_hour_95 (by decide) ?_
    refine V.icmp_gtN (tgt := 156) dX6_hour_98 (by decide) (by omega) (by omega) (fun q => absurd q (by omega)) (fun _ => ?_)
    refine V.iconst (v := nI 0) dX6_hour_101 (by decide) ?_
    refine V.ist4 dX6_hour_102 (by decide) rfl ?_
    refine V.iconst (v := nI 0) dX6_hour_104 (by decide) ?_
    refine V.ist5 dX6_hour_105 (by decide) rfl ?_
    refine m_hour_in l d h n b th po ba en tt hm0 N (10 * t) hN (by omega) z e h90 ?_ N 0 (by omega)
    refine V.iconst (v := nI 2) dX6_hour_140 (by decide) ?_
    refine V.iload dX6_hour_141 rfl ?_
    refine V.imulN dX6_hour_143 ?_
    refine V.iload_n dX6_hour_144 rfl ?_
    have hcl := cN_le (ecB e (10 * t)) N
    refine V.icmp_leN (tgt := 150) dX6_hour_145 (by decide) (by omega) (by omega) (fun c57 => ?_) (fun c57 => ?_)
    · refine V.inc3 (v := nI (10 * (t + 1))) dX6_hour_150 (nI_add _ 10) (by decide) rfl ?_
      refine V.goto (tgt := 94) dX6_hour_153 (by decide) ?_
      rw [hL, if_neg (by omega)]
      exact V.drop 4 (ih (t + 1) (by omega))
    · refine V.iload_n dX6_hour_148 rfl ?_
      exact V.iretP (by exact dX6_hour_149) rfl (by rw [hL, if_pos c57]) rfl
def enS (K : KK) (m : Nat) (z : Int32) : Int32 := if fin (upd K 89 (nI 600)) m z 92 = nI 2 then nI 601 else fin (upd K 89 (nI 600)) m z 91
set_option maxRecDepth 20000 in
set_option maxHeartbeats 4000000 in
theorem m_hour_a (l : Launch) (d n : Nat) (h : MH) (K : KK) (b : Bool) (th po ba en tt : Int32) (hm0 : h 78 = some (.inr (6, moF b th po ba en tt))) (ha : h 79 = some (kc K)) (m : Nat) (hD : KD K m) (h2 : ∀ p, p < m → ¬ gP K p 5 = nI 2) (N : Nat) (hN : N ≤ 10) (z : Int32) {Q : Option Value → MH → Nat → Prop} (kk : ∀ (E : Nat → Int32) (X : KK), (∀ k, k < N → E k = enS K m (z + nI k)) → V l mX6_hour (d + 10) 91 [some (.ref 78), some (.int (nI N)), some (.int z), none, none, none] [] (hset (hset h 90 (.inl (0, 10, .inl E))) 81 (kc X)) n 0 0 Q) : ∀ (r i : Nat) (E : Nat → Int32) (X : KK), (∀ k, k < i → E k = enS K m (z + nI k)) → i + r = N → V l mX6_hour (d + 10) 29 [some (.ref 78), some (.int (nI N)), some (.int z), some (.int (nI i)), none, none] [] (hset (hset h 90 (.inl (0, 10, .inl E))) 81 (kc X)) n 0 0 Q := by
  have hm := hD.1.1
  have hm10 := hD.1.2.1
  intro r
  induction r with
  | zero =>
    intro i E X hE hi
    have hm1 := o_ne (x := .inl (0, 10, .inl E)) hm0 (show 78 ≠ 90 by decide)
    have ha1 := o_ne (x := .inl (0, 10, .inl E)) ha (show 79 ≠ 90 by decide)
    refine V.iload_n dX6_hour_29 rfl ?_
    refine V.iload_n dX6_hour_30 rfl ?_
    refine V.icmp_geN (tgt := 91) dX6_hour_31 (by decide) (by omega) (by omega) (fun _ => ?_) (fun q => absurd q (by omega))
    have hiN : i = N := by omega
    subst hiN
    exact V.drop 3 (kk E X hE)
  | succ r ih =>
    intro i E X hE hi
    have hm1 := o_ne (x := .inl (0, 10, .inl E)) hm0 (show 78 ≠ 90 by decide)
    have ha1 := o_ne (x := .inl (0, 10, .inl E)) ha (show 79 ≠ 90 by decide)
    refine V.iload_n dX6_hour_29 rfl ?_
    refine V.iload_n dX6_hour_30 rfl ?_
    refine V.icmp_geN (tgt := 91) dX6_hour_31 (by decide) (by omega) (by omega) (fun q => absurd q (by omega)) (fun _ => ?_)
    refine V.aload_n dX6_hour_34 rfl ?_
    refine V.iload_n dX6_hour_35 rfl ?_
    refine V.iload_n dX6_hour_36 rfl ?_
    refine V.iadd dX6_hour_37 ?_
    refine V.callVu [_] dX6_hour_38 lk_X6_264 rfl (Nat.le_of_ble_eq_true rfl) (Nat.le_of_ble_eq_true rfl) (o_ne hm1 (by decide)) rfl (s6_opens _ _ _ _ K X b th po ba en tt hm1 ha1 m hm hm10 h2 _) ?_
    refine V.aload_n dX6_hour_41 rfl ?_
    refine V.getf dX6_hour_42 fl_X6_16 (o_ne hm1 (by decide)) rfl ?_
    refine V.bipush (v := nI 89) dX6_hour_45 (by decide) ?_
    refine V.sipush (v := nI 600) dX6_hour_47 (by decide) ?_
    refine V.iastN dX6_hour_50 (hset_self _ _ _) (by omega) (by decide) ?_
    rw [hset_hset, ← bgn_89]
    refine V.aload_n dX6_hour_51 rfl ?_
    refine V.callVu [] dX6_hour_52 lk_X6_268 rfl (Nat.le_of_ble_eq_true rfl) (Nat.le_of_ble_eq_true rfl) (o_ne hm1 (by decide)) rfl (s6_plays _ _ _ _ b th po ba en tt hm1 m 600 (by omega) _ (KD_bgn (KD_89 hD _) _) rfl ((bgn_lo _ _ _ _ (by omega)).trans pk_us)) ?_
    change V _ _ _ _ _ _ (hset _ 81 (kc (fin (upd K 89 (nI 600)) m (z + nI i)))) _ _ _ _
    refine V.aload_n dX6_hour_55 rfl ?_
    refine V.getf dX6_hour_56 fl_X6_43 (o_ne hm1 (by decide)) rfl ?_
    refine V.iload_n dX6_hour_59 rfl ?_
    refine V.aload_n dX6_hour_60 rfl ?_
    refine V.getf dX6_hour_61 fl_X6_16 (o_ne hm1 (by decide)) rfl ?_
    refine V.bipush (v := nI 92) dX6_hour_64 (by decide) ?_
    refine V.ialdN dX6_hour_66 (hset_self _ _ _) (by omega) (by decide) ?_
    refine V.iconst (v := nI 2) dX6_hour_67 (by decide) ?_
    refine V.icmp_ne (tgt := 77) dX6_hour_68 (by decide) (fun c68 => ?_) (fun c68 => ?_)
    · refine V.aload_n dX6_hour_77 rfl ?_
      refine V.getf dX6_hour_78 fl_X6_16 (o_ne hm1 (by decide)) rfl ?_
      refine V.bipush (v := nI 91) dX6_hour_81 (by decide) ?_
      refine V.ialdN dX6_hour_83 (hset_self _ _ _) (by omega) (by decide) ?_
      refine V.iastN dX6_hour_84 (o_ne (hset_self _ _ _) (by decide)) (by omega) (by decide) ?_
      rw [hset_comm _ _ _ (show 81 ≠ 90 by decide), hset_hset]
      refine V.inN3 dX6_hour_85 (by decide) rfl ?_
      refine V.goto (tgt := 29) dX6_hour_88 (by decide) ?_
      refine ih (i + 1) _ _ (fun k hk => ?_) (by omega)
      by_cases y : k = i
      · subst y
        rw [pk_us, enS]
        first
        | rw [if_pos c68]
        | rw [if_neg c68]
      · rw [pk_un y]; exact hE k (by omega)
    · refine V.sipush (v := nI 601) dX6_hour_71 (by decide) ?_
      refine V.goto (tgt := 84) dX6_hour_74 (by decide) ?_
      refine V.iastN dX6_hour_84 (o_ne (hset_self _ _ _) (by decide)) (by omega) (by decide) ?_
      rw [hset_comm _ _ _ (show 81 ≠ 90 by decide), hset_hset]
      refine V.inN3 dX6_hour_85 (by decide) rfl ?_
      refine V.goto (tgt := 29) dX6_hour_88 (by decide) ?_
      refine ih (i + 1) _ _ (fun k hk => ?_) (by omega)
      by_cases y : k = i
      · subst y
        rw [pk_us, enS]
        first
        | rw [if_pos c68]
        | rw [if_neg c68]
      · rw [pk_un y]; exact hE k (by omega)
set_option maxRecDepth 20000 in
set_option maxHeartbeats 4000000 in
theorem m_hour (l : Launch) (d : Nat) (h : MH) (n : Nat) (K : KK) (b : Bool) (KI : KK) (S : SS) (m : Nat) (hc : ModAt h K b KI S) (hT : TI K m) (x z : Int32) : Sp l mX6_hour (d + 10) [.ref 78, .int x, .int z] h n 0 0 (Qm (hourV K m x z) K b KI S h n) := by
  have hD := hT.1
  have hm := hD.1.1
  have hm10 := hD.1.2.1
  obtain ⟨⟨th, po, ba, en, tt, hm0⟩, ha, hb, ⟨Km, hmi⟩, ⟨Kr, hre⟩, h83, h84, h85, h86, h87, h88, ⟨X89, h89⟩, ⟨X90, h90⟩, ⟨X91, h91⟩, ⟨X92, h92⟩⟩ := id hc
  show V _ _ _ _ [some (.ref 78), some (.int x), some (.int z), none, none, none] _ _ _ _ _ _
  refine V.iload_n dX6_hour_0 rfl ?_
  refine V.i2l dX6_hour_1 ?_
  refine V.lconst (v := 1) dX6_hour_2 (by decide) ?_
  refine V.ldc2 dX6_hour_3 cn_X6_147 ?_
  refine V.callSv [_, _, _] dX6_hour_6 lk_X6_62 rfl (Nat.le_of_ble_eq_true rfl) (Nat.le_of_ble_eq_true rfl) (s6_isInC _ _ _ (nI 1) (nI 10) (by decide) (by decide) _ _) ?_
  refine V.if_neB (tgt := 14) dX6_hour_9 (by decide) (fun c9 => ?_) (fun c9 => ?_)
  · refine V.aload_n dX6_hour_14 rfl ?_
    refine V.getf dX6_hour_15 fl_X6_9 hm0 rfl ?_
    refine V.bipush (v := nI 90) dX6_hour_18 (by decide) ?_
    refine V.ialdN dX6_hour_20 ha (by omega) (by decide) ?_
    refine V.if_ne (tgt := 27) dX6_hour_21 (by decide) (fun c21 => ?_) (fun c21 => ?_)
    · obtain ⟨N, hN1, hN, rfl⟩ := wi1_ex (by decide) c9
      refine V.iconst (v := nI 0) dX6_hour_27 (by decide) ?_
      refine V.ist3 dX6_hour_28 (by decide) rfl ?_
      have h90b : h 90 = some (.inl (0, 10, .inl X90)) := h90
      refine V.hp (show h = hset (hset h 90 (.inl (0, 10, .inl X90))) 81 (kc Km) by rw [hset_id h90b, hset_id hmi]) (m_hour_a l d n h K b th po ba en tt hm0 ha m hD (fun p hp => hT.2.1 p (by omega)) N hN z (fun E X hE => ?_) N 0 X90 Km (fun k hk => absurd hk (by omega)) (by omega))
      refine V.bipush (v := nI (10 * 1)) dX6_hour_91 (by decide) ?_
      refine V.ist3 dX6_hour_93 (by decide) rfl ?_
      refine V.mono (fun v h1 n1 q => ?_) (m_hour_b l (d + 10) (hset (hset h 90 (.inl (0, 10, .inl E))) 81 (kc X)) n b th po ba en tt (o_ne (o_ne hm0 (by decide)) (by decide)) N hN z E (o_ne (hset_self _ _ _) (by decide)) 60 1 (by omega))
      obtain ⟨q1, q2, q3⟩ := q
      exact ⟨by rw [q1, hourV, if_pos c9, if_neg c21, clampI (show N < 2147483648 by omega), hr_ec hE], q3, by rw [q2]; exact (hc.ends E).mi X, fun y hy => by rw [q2, hset_ne _ _ (by omega), hset_ne _ _ (by omega)]⟩
    · refine V.bipush (v := -3) dX6_hour_24 (by decide) ?_
      exact V.iret (by exact dX6_hour_26) rfl rfl ⟨by simp only [hourV, c9, eq_true c21, not_true_eq_false, not_false_eq_true, if_true, if_false, decide_true, decide_false, Bool.and_true, Bool.and_false, Bool.true_and, Bool.false_and, Bool.or_true, Bool.or_false, Bool.true_or, Bool.false_or, Bool.not_true, Bool.not_false, and_true, and_false, true_and, false_and, or_true, or_false, true_or, false_or, bIt, bIf, Bool.false_eq_true, reduceCtorEq], rfl, hc, fun _ _ => rfl⟩
  · refine V.iconst (v := -1) dX6_hour_12 (by decide) ?_
    exact V.iret (by exact dX6_hour_13) rfl rfl ⟨by simp only [hourV, c9, not_true_eq_false, not_false_eq_true, if_true, if_false, decide_true, decide_false, Bool.and_true, Bool.and_false, Bool.true_and, Bool.false_and, Bool.or_true, Bool.or_false, Bool.true_or, Bool.false_or, Bool.not_true, Bool.not_false, and_true, and_false, true_and, false_and, or_true, or_false, true_or, false_or, bIt, bIf, Bool.false_eq_true, reduceCtorEq], rfl, hc, fun _ _ => rfl⟩
