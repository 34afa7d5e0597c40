/-- the class's wood before its players go home: only those below lo and from m on are as K says -/
def Wb (h : MH) (w : Nat) (K : KK) (lo m : Nat) (cl P : Nat → Int32) (pn : Nat) : Prop :=
  h w = some (.inr (4, woF K w pn)) ∧ (∃ g : Nat → Int32, h (w + 1) = some (.inl (0, 84, .inl g)) ∧ ∀ c, c < 84 → g c = K c) ∧ (∃ g : Nat → Int32, h (w + 2) = some (.inl (0, 6, .inl g)) ∧ ∀ j, j < 6 → g j = K (84 + j)) ∧
  (∃ q : Nat → Option Nat, h (w + 3) = some (.inl (3, 10, .inr (.inr (.inr (.inr q))))) ∧ ∀ i, i < 10 → q i = some (w + 8 + i)) ∧ h (w + 4) = some (.inl (0, 16, .inl P)) ∧ (∃ g : Nat → Int32, h (w + 5) = some (.inl (0, 2, .inl g))) ∧ (∃ g : Nat → Int32, h (w + 6) = some (.inl (0, 2, .inl g))) ∧
  (∃ g : Nat → Int32, h (w + 7) = some (.inl (0, 10, .inl g))) ∧ (∀ i, i < 10 → ∃ ce br he : Int32, h (w + 8 + i) = some (.inr (0, [.int (gP K i 0), .int (gP K i 1), .int (gP K i 2), .int (gP K i 3), .int ce, .int br, .int he, .int (bI (decide (gP K i 5 = nI 2)))])) ∧ (i < lo ∨ m ≤ i → ce = cAt K cl i ∧ br = gP K i 6 ∧ he = bI (decide (gP K i 5 = nI 1)))) ∧ ∀ i, i < 10 → gP K i 5 = nI 0 ∨ gP K i 5 = nI 1 ∨ gP K i 5 = nI 2
theorem WoodAt.wb {h : MH} {w : Nat} {K : KK} {cl P : Nat → Int32} {pn : Nat} (hw : WoodAt h w K cl P pn) (m : Nat) : Wb h w K 0 m cl P pn := by
  obtain ⟨a0, b1, b2, b3, a4, ⟨fl, b5, -⟩, ⟨ca, b6, -⟩, b7, b8, b9⟩ := hw
  exact ⟨a0, b1, b2, b3, a4, ⟨fl, b5⟩, ⟨ca, b6⟩, b7, fun i hi => ⟨_, _, _, b8 i hi, fun _ => ⟨rfl, rfl, rfl⟩⟩, b9⟩
/-- where those that are out stand when they have gone home -/
def clB (K : KK) (cl : Nat → Int32) (m : Nat) : Nat → Int32 := fun p => if p < m then gP K p 3 else cl p
theorem Wb.cl {h : MH} {w : Nat} {K : KK} {m : Nat} {cl P : Nat → Int32} {pn : Nat} (hw : Wb h w K 0 m cl P pn) (cl1 : Nat → Int32) (hc : ∀ p, m ≤ p → cl1 p = cl p) : Wb h w K 0 m cl1 P pn := by
  obtain ⟨hw0, ⟨gr, hgr, egr⟩, ⟨ru, hru, eru⟩, ⟨pq, hpf, epf⟩, hpl, ⟨fl, hfl⟩, ⟨ca, hca⟩, ⟨wa, hwa⟩, hpp, hhd⟩ := id hw
  refine ⟨hw0, ⟨gr, hgr, egr⟩, ⟨ru, hru, eru⟩, ⟨pq, hpf, epf⟩, hpl, ⟨fl, hfl⟩, ⟨ca, hca⟩, ⟨wa, hwa⟩, fun i hi => ?_, hhd⟩
  obtain ⟨ce, br, he, h1, h2⟩ := hpp i hi
  refine ⟨ce, br, he, h1, fun q => ?_⟩
  obtain ⟨q1, q2, q3⟩ := h2 q
  refine ⟨?_, q2, q3⟩
  rw [q1, cAt, cAt, hc i (by omega)]
theorem bgI_5 (K : KK) (i p : Nat) : decide (gP (bgI K i) p 5 = nI 2) = decide (gP K p 5 = nI 2) := by
  rw [bgI_gP _ _ _ _ (by omega)]
  by_cases q : gP K p 5 = nI 2
  · simp [q]
  · have q0 : ¬ nI 0 = nI 2 := by decide
    simp [q, q0]
    split <;> assumption
theorem Wb.step {h : MH} {w : Nat} {K : KK} {i m : Nat} {cl P : Nat → Int32} {pn : Nat} (hw : Wb h w (bgI K i) i m cl P pn) (hi : i < m) (hm : m ≤ 10) (hc : cl i = gP K i 3) : Wb (hset h (w + 8 + i) (.inr (0, [.int (gP (bgI K i) i 0), .int (gP (bgI K i) i 1), .int (gP (bgI K i) i 2), .int (gP (bgI K i) i 3), .int (gP (bgI K i) i 3), .int (nI 0), .int (nI 0), .int (bI (decide (gP (bgI K i) i 5 = nI 2)))]))) w (bgI K (i + 1)) (i + 1) m cl P pn := by
  obtain ⟨hw0, ⟨gr, hgr, egr⟩, ⟨ru, hru, eru⟩, ⟨pq, hpf, epf⟩, hpl, ⟨fl, hfl⟩, ⟨ca, hca⟩, ⟨wa, hwa⟩, hpp, hhd⟩ := id hw
  have hlo : ∀ j, j < 114 → bgI K (i + 1) j = bgI K i j := fun j hj => by rw [bgI_lo _ _ _ hj, bgI_lo _ _ _ hj]
  refine ⟨?_, ⟨gr, o_ne hgr (by omega), fun c hc => by rw [hlo _ (by omega)]; exact egr c hc⟩, ⟨ru, o_ne hru (by omega), fun c hc => by rw [hlo _ (by omega)]; exact eru c hc⟩, ⟨pq, o_ne hpf (by omega), epf⟩, o_ne hpl (by omega), ⟨fl, o_ne hfl (by omega)⟩, ⟨ca, o_ne hca (by omega)⟩, ⟨wa, o_ne hwa (by omega)⟩, fun j hj => ?_, fun j hj => ?_⟩
  · refine o_ne ?_ (by omega)
    rw [hw0]
    simp only [woF, hlo _ (show 90 < 114 by omega), hlo _ (show 91 < 114 by omega), hlo _ (show 92 < 114 by omega), hlo _ (show 93 < 114 by omega), hlo _ (show 94 < 114 by omega), hlo _ (show 95 < 114 by omega)]
  · by_cases q : j = i
    · subst q
      refine ⟨gP (bgI K j) j 3, nI 0, nI 0, ?_, fun _ => ?_⟩
      · rw [hset_self, bgI_5, bgI_5]
        simp only [bgI_gP _ _ _ _ (show 0 < 7 by omega), bgI_gP _ _ _ _ (show 1 < 7 by omega), bgI_gP _ _ _ _ (show 2 < 7 by omega), bgI_gP _ _ _ _ (show 3 < 7 by omega), show j < j + 1 from Nat.lt_succ_self j, Nat.lt_irrefl, if_true, if_false]
        simp
      · simp only [cAt, bgI_gP _ _ _ _ (show 3 < 7 by omega), bgI_gP _ _ _ _ (show 4 < 7 by omega), bgI_gP _ _ _ _ (show 5 < 7 by omega), bgI_gP _ _ _ _ (show 6 < 7 by omega), show j < j + 1 from Nat.lt_succ_self j, Nat.lt_irrefl, if_true, if_false, hc]
        have q0 : ¬ nI 0 = nI 2 := by decide
        have q1 : ¬ nI 2 = nI 1 := by decide
        have q2 : ¬ nI 0 = nI 1 := by decide
        by_cases q : gP K j 5 = nI 2
        · simp [q, q1, bIf]
        · simp [q, q0, q2, bIf]
    · have e1 : ∀ u, u < 7 → gP (bgI K (i + 1)) j u = gP (bgI K i) j u := fun u hu => by
        have e3 : (j < i + 1) ↔ (j < i) := by omega
        rw [bgI_gP _ _ _ _ hu, bgI_gP _ _ _ _ hu]
        simp only [e3]
      obtain ⟨ce, br, he, h1, h2⟩ := hpp j hj
      refine ⟨ce, br, he, ?_, fun y => ?_⟩
      · rw [hset_ne _ _ (by omega), e1 _ (by omega), e1 _ (by omega), e1 _ (by omega), e1 _ (by omega), e1 _ (by omega)]
        exact h1
      · rw [cAt, e1 _ (by omega), e1 _ (by omega), e1 _ (by omega)]
        exact h2 (by omega)
  · rw [bgI_gP _ _ _ _ (by omega)]
    have h3 := hhd j hj
    rw [bgI_gP _ _ _ _ (by omega)] at h3
    by_cases q : j < i
    · rw [if_pos (by omega)]
      rw [if_pos q] at h3
      exact h3
    · rw [if_neg q] at h3
      split
      · rw [if_neg (by omega)]
        split
        · exact h3
        · exact Or.inl (if_pos rfl)
      · exact h3
theorem Wb.fin {h : MH} {w : Nat} {K : KK} {m : Nat} {cl P : Nat → Int32} {pn : Nat} (hw : Wb h w K m m cl P pn) (z : Int32) (fl ca : Nat → Int32) (A0 B0 : MC) : WoodAt (hset (hset (hset (hset (hset h (w + 5) A0) (w + 6) B0) (w + 5) (.inl (0, 2, .inl (upd (upd fl 0 (fpl (nI 0))) 1 (fpl (nI 1)))))) (w + 6) (.inl (0, 2, .inl (upd (upd ca 0 (-4)) 1 (-4))))) w (.inr (4, woF (bgS K z) w pn))) w (bgS K z) cl P pn := by
  obtain ⟨hw0, ⟨gr, hgr, egr⟩, ⟨ru, hru, eru⟩, ⟨pq, hpf, epf⟩, hpl, -, -, ⟨wa, hwa⟩, hpp, hhd⟩ := id hw
  have e : ∀ q, q ≠ w → q ≠ w + 5 → q ≠ w + 6 → hset (hset (hset (hset (hset h (w + 5) A0) (w + 6) B0) (w + 5) (.inl (0, 2, .inl (upd (upd fl 0 (fpl (nI 0))) 1 (fpl (nI 1)))))) (w + 6) (.inl (0, 2, .inl (upd (upd ca 0 (-4)) 1 (-4))))) w (.inr (4, woF (bgS K z) w pn)) q = h q := fun q a b c => by
    rw [hset_ne _ _ a, hset_ne _ _ c, hset_ne _ _ b, hset_ne _ _ c, hset_ne _ _ b]
  refine ⟨hset_self _ _ _, ⟨gr, (e _ (by omega) (by omega) (by omega)).trans hgr, fun c hc => by rw [bgS_j _ _ _ (by omega)]; exact egr c hc⟩, ⟨ru, (e _ (by omega) (by omega) (by omega)).trans hru, fun c hc => by rw [bgS_j _ _ _ (by omega)]; exact eru c hc⟩, ⟨pq, (e _ (by omega) (by omega) (by omega)).trans hpf, epf⟩, (e _ (by omega) (by omega) (by omega)).trans hpl, ⟨_, o_ne (o_ne (hset_self _ _ _) (by omega)) (by omega), fun i hi => ?_⟩, ⟨_, o_ne (hset_self _ _ _) (by omega), fun i hi => ?_⟩, ⟨wa, (e _ (by omega) (by omega) (by omega)).trans hwa⟩, fun i hi => ?_, fun i hi => by rw [bgS_gP]; exact hhd i hi⟩
  · rcases (show i = 0 ∨ i = 1 by omega) with rfl | rfl <;> rfl
  · rcases (show i = 0 ∨ i = 1 by omega) with rfl | rfl <;> rfl
  · obtain ⟨ce, br, he, h1, h2⟩ := hpp i hi
    obtain ⟨rfl, rfl, rfl⟩ := h2 (by omega)
    rw [e _ (by omega) (by omega) (by omega), h1]
    simp only [pF, cAt, bgS_gP]
set_option maxRecDepth 20000 in
set_option maxHeartbeats 4000000 in
theorem s4_begin_a (l : Launch) (d n w m pn : Nat) (K : KK) (cl P : Nat → Int32) (z : Int32) (h0 : MH) (hm0 : K 90 = nI m) (hm10 : m ≤ 10) (hcl : ∀ p, p < m → cl p = gP K p 3) {Q : Option Value → MH → Nat → Prop} (kk : ∀ h1 : MH, Wb h1 w (bgI K m) m m cl P pn → Out h0 h1 w → V l mX4_begin (d + 1) 25 [some (.ref w), some (.int z), none] [] h1 n 0 0 Q) : ∀ (r i : Nat) (h : MH), Wb h w (bgI K i) i m cl P pn → Out h0 h w → i + r = m → V l mX4_begin (d + 1) 2 [some (.ref w), some (.int z), some (.int (nI i))] [] h n 0 0 Q := by
  intro r
  induction r with
  | zero =>
    intro i h hw ho hi
    have hm : bgI K i 90 = nI m := (bgI_lo _ _ _ (by omega)).trans hm0
    obtain ⟨hw0, ⟨gr, hgr, egr⟩, ⟨ru, hru, eru⟩, ⟨pq, hpf, epf⟩, hpl, ⟨fl, hfl⟩, ⟨ca, hca⟩, ⟨wa, hwa⟩, hpp, hhd⟩ := id hw
    refine V.iload_n dX4_begin_2 rfl ?_
    refine V.aload_n dX4_begin_3 rfl ?_
    refine V.getf dX4_begin_4 fl_X4_51 hw0 rfl ?_
    rw [hm]
    refine V.icmp_geN (tgt := 25) dX4_begin_7 (by decide) (by omega) (by omega) (fun _ => ?_) (fun q => absurd q (by omega))
    exact V.drop 2 (kk h (by rw [show m = i by omega] at hw ⊢; exact hw) ho)
  | succ r ih =>
    intro i h hw ho hi
    have hm : bgI K i 90 = nI m := (bgI_lo _ _ _ (by omega)).trans hm0
    obtain ⟨hw0, ⟨gr, hgr, egr⟩, ⟨ru, hru, eru⟩, ⟨pq, hpf, epf⟩, hpl, ⟨fl, hfl⟩, ⟨ca, hca⟩, ⟨wa, hwa⟩, hpp, hhd⟩ := id hw
    refine V.iload_n dX4_begin_2 rfl ?_
    refine V.aload_n dX4_begin_3 rfl ?_
    refine V.getf dX4_begin_4 fl_X4_51 hw0 rfl ?_
    rw [hm]
    refine V.icmp_geN (tgt := 25) dX4_begin_7 (by decide) (by omega) (by omega) (fun q => absurd q (by omega)) (fun _ => ?_)
    refine V.aload_n dX4_begin_10 rfl ?_
    refine V.getf dX4_begin_11 fl_X4_20 hw0 rfl ?_
    refine V.iload_n dX4_begin_14 rfl ?_
    refine V.aaldN dX4_begin_15 (Or.inl rfl) hpf (by omega) (by decide) (epf _ (by omega)) ?_
    obtain ⟨ce, br, he, hpi, -⟩ := hpp i (by omega)
    refine V.callVu [] dX4_begin_16 lk_X4_128 rfl (Nat.le_of_ble_eq_true rfl) (Nat.le_of_ble_eq_true rfl) hpi rfl (s0_goHome _ _ _ _ _ _ _ _ _ _ _ _ _ hpi) ?_
    refine V.inN2 dX4_begin_19 (by decide) rfl ?_
    refine V.goto (tgt := 2) dX4_begin_22 (by decide) ?_
    exact ih (i + 1) _ (hw.step (by omega) hm10 (hcl i (by omega))) (ho.set _ _ (by omega) (by omega)) (by omega)
set_option maxRecDepth 20000 in
set_option maxHeartbeats 4000000 in
theorem s4_begin_b (l : Launch) (d n w m pn : Nat) (K : KK) (cl P : Nat → Int32) (z : Int32) (h h0 : MH) (hw : Wb h w K m m cl P pn) (ho : Out h0 h w) : V l mX4_begin (d + 1) 25 [some (.ref w), some (.int z), none] [] h n 0 0 (Wq w (bgS K z) cl P pn h0 n) := by
  obtain ⟨hw0, ⟨gr, hgr, egr⟩, ⟨ru, hru, eru⟩, ⟨pq, hpf, epf⟩, hpl, ⟨fl, hfl⟩, ⟨ca, hca⟩, ⟨wa, hwa⟩, hpp, hhd⟩ := id hw
  refine V.iconst (v := nI 0) dX4_begin_25 (by decide) ?_
  refine V.ist2 dX4_begin_26 (by decide) rfl ?_
  refine V.iload_n dX4_begin_27 rfl ?_
  refine V.iconst (v := nI 2) dX4_begin_28 (by decide) ?_
  refine V.icmp_ge (tgt := 56) dX4_begin_29 (by decide) (fun q => absurd q (by decide)) (fun _ => ?_)
  refine V.aload_n dX4_begin_32 rfl ?_
  refine V.getf dX4_begin_33 fl_X4_27 hw0 rfl ?_
  refine V.iload_n dX4_begin_36 rfl ?_
  refine V.iload_n dX4_begin_37 rfl ?_
  refine V.callSv [_] dX4_begin_38 lk_X4_94 rfl (Nat.le_of_ble_eq_true rfl) (Nat.le_of_ble_eq_true rfl) (s5_flagPlaceOf _ _ _ _ _) ?_
  refine V.iastN dX4_begin_41 hfl (by omega) (by decide) ?_
  refine V.aload_n dX4_begin_42 rfl ?_
  refine V.getf dX4_begin_43 fl_X4_30 (o_ne hw0 (by omega)) rfl ?_
  refine V.iload_n dX4_begin_46 rfl ?_
  refine V.bipush (v := -4) dX4_begin_47 (by decide) ?_
  refine V.iastN dX4_begin_49 (o_ne hca (by omega)) (by omega) (by decide) ?_
  refine V.inN2 dX4_begin_50 (by decide) rfl ?_
  refine V.goto (tgt := 27) dX4_begin_53 (by decide) ?_
  refine V.iload_n dX4_begin_27 rfl ?_
  refine V.iconst (v := nI 2) dX4_begin_28 (by decide) ?_
  refine V.icmp_ge (tgt := 56) dX4_begin_29 (by decide) (fun q => absurd q (by decide)) (fun _ => ?_)
  refine V.aload_n dX4_begin_32 rfl ?_
  refine V.getf dX4_begin_33 fl_X4_27 (o_ne (o_ne hw0 (by omega)) (by omega)) rfl ?_
  refine V.iload_n dX4_begin_36 rfl ?_
  refine V.iload_n dX4_begin_37 rfl ?_
  refine V.callSv [_] dX4_begin_38 lk_X4_94 rfl (Nat.le_of_ble_eq_true rfl) (Nat.le_of_ble_eq_true rfl) (s5_flagPlaceOf _ _ _ _ _) ?_
  refine V.iastN dX4_begin_41 (o_ne (hset_self _ _ _) (by omega)) (by omega) (by decide) ?_
  refine V.aload_n dX4_begin_42 rfl ?_
  refine V.getf dX4_begin_43 fl_X4_30 (o_ne (o_ne (o_ne hw0 (by omega)) (by omega)) (by omega)) rfl ?_
  refine V.iload_n dX4_begin_46 rfl ?_
  refine V.bipush (v := -4) dX4_begin_47 (by decide) ?_
  refine V.iastN dX4_begin_49 (o_ne (hset_self _ _ _) (by omega)) (by omega) (by decide) ?_
  refine V.inN2 dX4_begin_50 (by decide) rfl ?_
  refine V.goto (tgt := 27) dX4_begin_53 (by decide) ?_
  refine V.iload_n dX4_begin_27 rfl ?_
  refine V.iconst (v := nI 2) dX4_begin_28 (by decide) ?_
  refine V.icmp_ge (tgt := 56) dX4_begin_29 (by decide) (fun _ => ?_) (fun q => absurd (by decide) q)
  refine V.aload_n dX4_begin_56 rfl ?_
  refine V.iconst (v := nI 0) dX4_begin_57 (by decide) ?_
  refine V.putf dX4_begin_58 fp_X4_58 (o_ne (o_ne (o_ne (o_ne hw0 (by omega)) (by omega)) (by omega)) (by omega)) (Nat.le_of_ble_eq_true rfl) (fun _ => ⟨rfl, rfl⟩) ?_
  refine V.aload_n dX4_begin_61 rfl ?_
  refine V.iconst (v := nI 2) dX4_begin_62 (by decide) ?_
  refine V.putf dX4_begin_63 fp_X4_61 (hset_self _ _ _) (Nat.le_of_ble_eq_true rfl) (fun _ => ⟨rfl, rfl⟩) ?_
  refine V.aload_n dX4_begin_66 rfl ?_
  refine V.iconst (v := nI 0) dX4_begin_67 (by decide) ?_
  refine V.putf dX4_begin_68 fp_X4_64 (hset_self _ _ _) (Nat.le_of_ble_eq_true rfl) (fun _ => ⟨rfl, rfl⟩) ?_
  refine V.aload_n dX4_begin_71 rfl ?_
  refine V.bipush (v := -4) dX4_begin_72 (by decide) ?_
  refine V.putf dX4_begin_74 fp_X4_67 (hset_self _ _ _) (Nat.le_of_ble_eq_true rfl) (fun _ => ⟨rfl, rfl⟩) ?_
  refine V.aload_n dX4_begin_77 rfl ?_
  refine V.iload_n dX4_begin_78 rfl ?_
  refine V.putf dX4_begin_79 fp_X4_70 (hset_self _ _ _) (Nat.le_of_ble_eq_true rfl) (fun _ => ⟨rfl, rfl⟩) ?_
  simp only [hset_hset]
  exact V.vret (by exact dX4_begin_82) rfl ⟨rfl, rfl, hw.fin z fl ca _ _, (((((ho.set (w + 5) _ (by omega) (by omega)).set (w + 6) _ (by omega) (by omega)).set (w + 5) _ (by omega) (by omega)).set (w + 6) _ (by omega) (by omega)).set w _ (by omega) (by omega))⟩
set_option maxRecDepth 20000 in
set_option maxHeartbeats 4000000 in
theorem s4_begin (l : Launch) (d : Nat) (h : MH) (n w m pn : Nat) (K : KK) (cl P : Nat → Int32) (z : Int32) (hm : K 90 = nI m) (hm10 : m ≤ 10) (hw : Wb h w K 0 m cl P pn) : Sp l mX4_begin (d + 1) [.ref w, .int z] h n 0 0 (Wq w (bgn K m z) (clB K cl m) P pn h n) := by
  have e0 : bgI K 0 = K := by
    funext j
    rw [bgI, if_neg (by omega)]
  show V _ _ _ _ [some (.ref w), some (.int z), none] _ _ _ _ _ _
  refine V.iconst (v := nI 0) dX4_begin_0 (by decide) ?_
  refine V.ist2 dX4_begin_1 (by decide) rfl ?_
  refine s4_begin_a l d n w m pn K (clB K cl m) P z h hm hm10 (fun p hp => if_pos hp) (fun h1 hw1 ho1 => s4_begin_b l d n w m pn (bgI K m) (clB K cl m) P z h1 h hw1 ho1) m 0 h ?_ (Out.rf h w) (by omega)
  rw [e0]
  exact hw.cl _ (fun p hp => if_neg (by omega))
