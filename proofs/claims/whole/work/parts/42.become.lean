set_option maxRecDepth 20000 in
set_option maxHeartbeats 4000000 in
theorem s0_become (l : Launch) (d : Nat) (h : MH) (n q r : Nat) (x0 x1 x2 x3 x4 x5 x6 x7 : Value) (y0 y1 y2 y3 y4 y5 : Int32) (y6 y7 : Bool) (hn : r ≠ q) (hq : h q = some (.inr (0, [x0, x1, x2, x3, x4, x5, x6, x7]))) (hr : h r = some (.inr (0, [.int y0, .int y1, .int y2, .int y3, .int y4, .int y5, .int (bI y6), .int (bI y7)]))) : Sp l mX0_become d [.ref q, .ref r] h n 0 0 (Pu (hset h q (.inr (0, [.int y0, .int y1, .int y2, .int y3, .int y4, .int y5, .int (bI y6), .int (bI y7)]))) n) := by
  show V _ _ _ _ [some (.ref q), some (.ref r)] _ _ _ _ _ _
  refine V.aload_n dX0_become_0 rfl ?_
  refine V.aload_n dX0_become_1 rfl ?_
  refine V.getf dX0_become_2 fl_X0_7 hr rfl ?_
  refine V.putf dX0_become_5 fp_X0_7 hq (Nat.le_of_ble_eq_true rfl) (fun _ => ⟨rfl, rfl⟩) ?_
  refine V.aload_n dX0_become_8 rfl ?_
  refine V.aload_n dX0_become_9 rfl ?_
  refine V.getf dX0_become_10 fl_X0_13 (o_ne hr hn) rfl ?_
  refine V.putf dX0_become_13 fp_X0_13 (hset_self _ _ _) (Nat.le_of_ble_eq_true rfl) (fun _ => ⟨rfl, rfl⟩) ?_
  rw [hset_hset]
  refine V.aload_n dX0_become_16 rfl ?_
  refine V.aload_n dX0_become_17 rfl ?_
  refine V.getf dX0_become_18 fl_X0_16 (o_ne hr hn) rfl ?_
  refine V.putf dX0_become_21 fp_X0_16 (hset_self _ _ _) (Nat.le_of_ble_eq_true rfl) (fun _ => ⟨rfl, rfl⟩) ?_
  rw [hset_hset]
  refine V.aload_n dX0_become_24 rfl ?_
  refine V.aload_n dX0_become_25 rfl ?_
  refine V.getf dX0_become_26 fl_X0_19 (o_ne hr hn) rfl ?_
  refine V.putf dX0_become_29 fp_X0_19 (hset_self _ _ _) (Nat.le_of_ble_eq_true rfl) (fun _ => ⟨rfl, rfl⟩) ?_
  rw [hset_hset]
  refine V.aload_n dX0_become_32 rfl ?_
  refine V.aload_n dX0_become_33 rfl ?_
  refine V.getf dX0_become_34 fl_X0_22 (o_ne hr hn) rfl ?_
  refine V.putf dX0_become_37 fp_X0_22 (hset_self _ _ _) (Nat.le_of_ble_eq_true rfl) (fun _ => ⟨rfl, rfl⟩) ?_
  rw [hset_hset]
  refine V.aload_n dX0_become_40 rfl ?_
  refine V.aload_n dX0_become_41 rfl ?_
  refine V.getf dX0_become_42 fl_X0_25 (o_ne hr hn) rfl ?_
  refine V.putf dX0_become_45 fp_X0_25 (hset_self _ _ _) (Nat.le_of_ble_eq_true rfl) (fun _ => ⟨rfl, rfl⟩) ?_
  rw [hset_hset]
  refine V.aload_n dX0_become_48 rfl ?_
  refine V.aload_n dX0_become_49 rfl ?_
  refine V.getf dX0_become_50 fl_X0_28 (o_ne hr hn) rfl ?_
  refine V.putf dX0_become_53 fp_X0_28 (hset_self _ _ _) (Nat.le_of_ble_eq_true rfl) (fun _ => ⟨bI_narrow _, bI_fits _⟩) ?_
  rw [hset_hset]
  refine V.aload_n dX0_become_56 rfl ?_
  refine V.aload_n dX0_become_57 rfl ?_
  refine V.getf dX0_become_58 fl_X0_32 (o_ne hr hn) rfl ?_
  refine V.putf dX0_become_61 fp_X0_32 (hset_self _ _ _) (Nat.le_of_ble_eq_true rfl) (fun _ => ⟨bI_narrow _, bI_fits _⟩) ?_
  rw [hset_hset]
  exact V.vretP (by exact dX0_become_64) rfl rfl
/-- while it becomes another: the places that the loop over its players leaves -/
def Wc (h h1 : MH) (w v i : Nat) : Prop := (∀ p, p < i → h1 (w + 8 + p) = h (v + 8 + p)) ∧ ∀ q, q < w + 8 ∨ w + 8 + i ≤ q → h1 q = h q
set_option maxRecDepth 20000 in
set_option maxHeartbeats 4000000 in
theorem s4_become_a (l : Launch) (d n w v pn pw : Nat) (h : MH) (K Kw : KK) (cl P clw Pw : Nat → Int32) (hd : w + 18 ≤ v ∨ v + 18 ≤ w) (hw : WoodAt h w Kw clw Pw pw) (hv : WoodAt h v K cl P pn) {Q : Option Value → MH → Nat → Prop} (kk : ∀ h1 : MH, Wc h h1 w v 10 → V l mX4_become (d + 1) 62 [some (.ref w), some (.ref v), none] [] h1 n 0 0 Q) : ∀ (r i : Nat) (h1 : MH), Wc h h1 w v i → i + r = 10 → V l mX4_become (d + 1) 35 [some (.ref w), some (.ref v), some (.int (nI i))] [] h1 n 0 0 Q := by
  obtain ⟨hw0, ⟨gr, hgr, egr⟩, ⟨ru, hru, eru⟩, ⟨pq, hpf, epf⟩, hpl, ⟨fl, hfl, efl⟩, ⟨ca, hca, eca⟩, ⟨wa, hwa⟩, hpp, hhd⟩ := id hw
  obtain ⟨iv0, ⟨gv, igr, jgr⟩, ⟨rv, iru, jru⟩, ⟨pv, ipf, jpf⟩, ipl, ⟨fv, ifl, jfl⟩, ⟨cv, ica, jca⟩, ⟨xv, iwa⟩, ipp, ihd⟩ := id hv
  intro r
  induction r with
  | zero =>
    intro i h1 hc hi
    refine V.iload_n dX4_become_35 rfl ?_
    refine V.bipush (v := nI 10) dX4_become_36 (by decide) ?_
    refine V.icmp_geN (tgt := 62) dX4_become_38 (by decide) (by omega) (by omega) (fun _ => ?_) (fun q => absurd q (by omega))
    exact V.drop 2 (kk h1 (by rw [show 10 = i by omega]; exact hc))
  | succ r ih =>
    intro i h1 hc hi
    refine V.iload_n dX4_become_35 rfl ?_
    refine V.bipush (v := nI 10) dX4_become_36 (by decide) ?_
    refine V.icmp_geN (tgt := 62) dX4_become_38 (by decide) (by omega) (by omega) (fun q => absurd q (by omega)) (fun _ => ?_)
    refine V.aload_n dX4_become_41 rfl ?_
    refine V.getf dX4_become_42 fl_X4_20 ((hc.2 _ (by omega)).trans hw0) rfl ?_
    refine V.iload_n dX4_become_45 rfl ?_
    refine V.aaldN dX4_become_46 (Or.inl rfl) ((hc.2 _ (by omega)).trans hpf) (by omega) (by decide) (epf _ (by omega)) ?_
    refine V.aload_n dX4_become_47 rfl ?_
    refine V.getf dX4_become_48 fl_X4_20 ((hc.2 _ (by omega)).trans iv0) rfl ?_
    refine V.iload_n dX4_become_51 rfl ?_
    refine V.aaldN dX4_become_52 (Or.inl rfl) ((hc.2 _ (by omega)).trans ipf) (by omega) (by decide) (jpf _ (by omega)) ?_
    have e1 : h1 (w + 8 + i) = some (.inr (0, pF Kw clw i)) := (hc.2 _ (by omega)).trans (hpp i (by omega))
    have e2 : h1 (v + 8 + i) = some (.inr (0, pF K cl i)) := (hc.2 _ (by omega)).trans (ipp i (by omega))
    refine V.callVu [_] dX4_become_53 lk_X4_47 rfl (Nat.le_of_ble_eq_true rfl) (Nat.le_of_ble_eq_true rfl) e1 rfl (s0_become _ _ _ _ _ _ _ _ _ _ _ _ _ _ _ _ _ _ _ _ _ _ (by omega) e1 e2) ?_
    refine V.inN2 dX4_become_56 (by decide) rfl ?_
    refine V.goto (tgt := 35) dX4_become_59 (by decide) ?_
    refine ih (i + 1) _ ⟨fun p hp => ?_, fun q hq => ?_⟩ (by omega)
    · by_cases y : p = i
      · subst y
        rw [hset_self, ipp p (by omega)]
        rfl
      · rw [hset_ne _ _ (by omega)]; exact hc.1 p (by omega)
    · rw [hset_ne _ _ (by omega)]; exact hc.2 q (by omega)
set_option maxRecDepth 20000 in
set_option maxHeartbeats 4000000 in
theorem s4_become_b (l : Launch) (d n w v pn pw : Nat) (h : MH) (K Kw : KK) (P Pw fl fv ca cv : Nat → Int32) (hd : w + 18 ≤ v ∨ v + 18 ≤ w) (hw0 : h w = some (.inr (4, woF Kw w pw))) (hpl : h (w + 4) = some (.inl (0, 16, .inl Pw))) (hfl : h (w + 5) = some (.inl (0, 2, .inl fl))) (hca : h (w + 6) = some (.inl (0, 2, .inl ca)))
    (iv0 : h v = some (.inr (4, woF K v pn))) (ipl : h (v + 4) = some (.inl (0, 16, .inl P))) (ifl : h (v + 5) = some (.inl (0, 2, .inl fv))) (ica : h (v + 6) = some (.inl (0, 2, .inl cv))) {Q : Option Value → MH → Nat → Prop}
    (kk : ∀ h1 : MH, h1 w = some (.inr (4, woF K w pn)) → h1 (w + 4) = some (.inl (0, 16, .inl P)) → (∃ g : Nat → Int32, h1 (w + 5) = some (.inl (0, 2, .inl g)) ∧ ∀ e, e < 2 → g e = fv e) → (∃ g : Nat → Int32, h1 (w + 6) = some (.inl (0, 2, .inl g)) ∧ ∀ e, e < 2 → g e = cv e) → (∀ q, q ≠ w → q ≠ w + 4 → q ≠ w + 5 → q ≠ w + 6 → h1 q = h q) → Q none h1 n) : V l mX4_become (d + 1) 62 [some (.ref w), some (.ref v), none] [] h n 0 0 Q := by
  refine V.aload_n dX4_become_62 rfl ?_
  refine V.aload_n dX4_become_63 rfl ?_
  refine V.getf dX4_become_64 fl_X4_51 iv0 rfl ?_
  refine V.putf dX4_become_67 fp_X4_51 hw0 (Nat.le_of_ble_eq_true rfl) (fun _ => ⟨rfl, rfl⟩) ?_
  refine V.aload_n dX4_become_70 rfl ?_
  refine V.getf dX4_become_71 fl_X4_24 (o_ne iv0 (by omega)) rfl ?_
  refine V.iconst (v := nI 0) dX4_become_74 (by decide) ?_
  refine V.aload_n dX4_become_75 rfl ?_
  refine V.getf dX4_become_76 fl_X4_24 (hset_self _ _ _) rfl ?_
  refine V.iconst (v := nI 0) dX4_become_79 (by decide) ?_
  refine V.aload_n dX4_become_80 rfl ?_
  refine V.getf dX4_become_81 fl_X4_24 (hset_self _ _ _) rfl ?_
  refine V.alen (v := nI 16) dX4_become_84 (o_ne hpl (by omega)) (by decide) (by decide) ?_
  refine V.copyi dX4_become_85 wc_X4_41 w_acn w_acs w_sys (by omega) (Nat.le_of_ble_eq_true rfl) (o_ne ipl (by omega)) (o_ne hpl (by omega)) (by decide) (by decide) (by decide) (by decide) (by decide) ?_
  refine V.ext (g := P) (hset_self _ _ _) (fun j hj => (by first | (simp [va_cpy, clampI, hj]; done) | (simp [va_cpy, clampI, hj]; intro q; omega))) ?_
  rw [hset_hset]
  refine V.aload_n dX4_become_88 rfl ?_
  refine V.aload_n dX4_become_89 rfl ?_
  refine V.getf dX4_become_90 fl_X4_55 (o_ne (o_ne iv0 (by omega)) (by omega)) rfl ?_
  refine V.putf dX4_become_93 fp_X4_55 (o_ne (hset_self _ _ _) (by omega)) (Nat.le_of_ble_eq_true rfl) (fun _ => ⟨rfl, rfl⟩) ?_
  refine V.iconst (v := nI 0) dX4_become_96 (by decide) ?_
  refine V.ist2 dX4_become_97 (by decide) rfl ?_
  refine V.iload_n dX4_become_98 rfl ?_
  refine V.iconst (v := nI 2) dX4_become_99 (by decide) ?_
  refine V.icmp_ge (tgt := 133) dX4_become_100 (by decide) (fun q => absurd q (by decide)) (fun _ => ?_)
  refine V.aload_n dX4_become_103 rfl ?_
  refine V.getf dX4_become_104 fl_X4_27 (hset_self _ _ _) rfl ?_
  refine V.iload_n dX4_become_107 rfl ?_
  refine V.aload_n dX4_become_108 rfl ?_
  refine V.getf dX4_become_109 fl_X4_27 (o_ne (o_ne (o_ne iv0 (by omega)) (by omega)) (by omega)) rfl ?_
  refine V.iload_n dX4_become_112 rfl ?_
  refine V.ialdN dX4_become_113 (o_ne (o_ne (o_ne ifl (by omega)) (by omega)) (by omega)) (by omega) (by decide) ?_
  refine V.iastN dX4_become_114 (o_ne (o_ne (o_ne hfl (by omega)) (by omega)) (by omega)) (by omega) (by decide) ?_
  refine V.aload_n dX4_become_115 rfl ?_
  refine V.getf dX4_become_116 fl_X4_30 (o_ne (hset_self _ _ _) (by omega)) rfl ?_
  refine V.iload_n dX4_become_119 rfl ?_
  refine V.aload_n dX4_become_120 rfl ?_
  refine V.getf dX4_become_121 fl_X4_30 (o_ne (o_ne (o_ne (o_ne iv0 (by omega)) (by omega)) (by omega)) (by omega)) rfl ?_
  refine V.iload_n dX4_become_124 rfl ?_
  refine V.ialdN dX4_become_125 (o_ne (o_ne (o_ne (o_ne ica (by omega)) (by omega)) (by omega)) (by omega)) (by omega) (by decide) ?_
  refine V.iastN dX4_become_126 (o_ne (o_ne (o_ne (o_ne hca (by omega)) (by omega)) (by omega)) (by omega)) (by omega) (by decide) ?_
  refine V.inN2 dX4_become_127 (by decide) rfl ?_
  refine V.goto (tgt := 98) dX4_become_130 (by decide) ?_
  refine V.iload_n dX4_become_98 rfl ?_
  refine V.iconst (v := nI 2) dX4_become_99 (by decide) ?_
  refine V.icmp_ge (tgt := 133) dX4_become_100 (by decide) (fun q => absurd q (by decide)) (fun _ => ?_)
  refine V.aload_n dX4_become_103 rfl ?_
  refine V.getf dX4_become_104 fl_X4_27 (o_ne (o_ne (hset_self _ _ _) (by omega)) (by omega)) rfl ?_
  refine V.iload_n dX4_become_107 rfl ?_
  refine V.aload_n dX4_become_108 rfl ?_
  refine V.getf dX4_become_109 fl_X4_27 (o_ne (o_ne (o_ne (o_ne (o_ne iv0 (by omega)) (by omega)) (by omega)) (by omega)) (by omega)) rfl ?_
  refine V.iload_n dX4_become_112 rfl ?_
  refine V.ialdN dX4_become_113 (o_ne (o_ne (o_ne (o_ne (o_ne ifl (by omega)) (by omega)) (by omega)) (by omega)) (by omega)) (by omega) (by decide) ?_
  refine V.iastN dX4_become_114 (o_ne (hset_self _ _ _) (by omega)) (by omega) (by decide) ?_
  refine V.aload_n dX4_become_115 rfl ?_
  refine V.getf dX4_become_116 fl_X4_30 (o_ne (o_ne (o_ne (hset_self _ _ _) (by omega)) (by omega)) (by omega)) rfl ?_
  refine V.iload_n dX4_become_119 rfl ?_
  refine V.aload_n dX4_become_120 rfl ?_
  refine V.getf dX4_become_121 fl_X4_30 (o_ne (o_ne (o_ne (o_ne (o_ne (o_ne iv0 (by omega)) (by omega)) (by omega)) (by omega)) (by omega)) (by omega)) rfl ?_
  refine V.iload_n dX4_become_124 rfl ?_
  refine V.ialdN dX4_become_125 (o_ne (o_ne (o_ne (o_ne (o_ne (o_ne ica (by omega)) (by omega)) (by omega)) (by omega)) (by omega)) (by omega)) (by omega) (by decide) ?_
  refine V.iastN dX4_become_126 (o_ne (hset_self _ _ _) (by omega)) (by omega) (by decide) ?_
  refine V.inN2 dX4_become_127 (by decide) rfl ?_
  refine V.goto (tgt := 98) dX4_become_130 (by decide) ?_
  refine V.iload_n dX4_become_98 rfl ?_
  refine V.iconst (v := nI 2) dX4_become_99 (by decide) ?_
  refine V.icmp_ge (tgt := 133) dX4_become_100 (by decide) (fun _ => ?_) (fun q => absurd (by decide) q)
  refine V.aload_n dX4_become_133 rfl ?_
  refine V.aload_n dX4_become_134 rfl ?_
  refine V.getf dX4_become_135 fl_X4_58 (o_ne (o_ne (o_ne (o_ne (o_ne (o_ne (o_ne iv0 (by omega)) (by omega)) (by omega)) (by omega)) (by omega)) (by omega)) (by omega)) rfl ?_
  refine V.putf dX4_become_138 fp_X4_58 (o_ne (o_ne (o_ne (o_ne (hset_self _ _ _) (by omega)) (by omega)) (by omega)) (by omega)) (Nat.le_of_ble_eq_true rfl) (fun _ => ⟨rfl, rfl⟩) ?_
  refine V.aload_n dX4_become_141 rfl ?_
  refine V.aload_n dX4_become_142 rfl ?_
  refine V.getf dX4_become_143 fl_X4_61 (o_ne (o_ne (o_ne (o_ne (o_ne (o_ne (o_ne (o_ne iv0 (by omega)) (by omega)) (by omega)) (by omega)) (by omega)) (by omega)) (by omega)) (by omega)) rfl ?_
  refine V.putf dX4_become_146 fp_X4_61 (hset_self _ _ _) (Nat.le_of_ble_eq_true rfl) (fun _ => ⟨rfl, rfl⟩) ?_
  refine V.aload_n dX4_become_149 rfl ?_
  refine V.aload_n dX4_become_150 rfl ?_
  refine V.getf dX4_become_151 fl_X4_64 (o_ne (o_ne (o_ne (o_ne (o_ne (o_ne (o_ne (o_ne (o_ne iv0 (by omega)) (by omega)) (by omega)) (by omega)) (by omega)) (by omega)) (by omega)) (by omega)) (by omega)) rfl ?_
  refine V.putf dX4_become_154 fp_X4_64 (hset_self _ _ _) (Nat.le_of_ble_eq_true rfl) (fun _ => ⟨rfl, rfl⟩) ?_
  refine V.aload_n dX4_become_157 rfl ?_
  refine V.aload_n dX4_become_158 rfl ?_
  refine V.getf dX4_become_159 fl_X4_67 (o_ne (o_ne (o_ne (o_ne (o_ne (o_ne (o_ne (o_ne (o_ne (o_ne iv0 (by omega)) (by omega)) (by omega)) (by omega)) (by omega)) (by omega)) (by omega)) (by omega)) (by omega)) (by omega)) rfl ?_
  refine V.putf dX4_become_162 fp_X4_67 (hset_self _ _ _) (Nat.le_of_ble_eq_true rfl) (fun _ => ⟨rfl, rfl⟩) ?_
  refine V.aload_n dX4_become_165 rfl ?_
  refine V.aload_n dX4_become_166 rfl ?_
  refine V.getf dX4_become_167 fl_X4_70 (o_ne (o_ne (o_ne (o_ne (o_ne (o_ne (o_ne (o_ne (o_ne (o_ne (o_ne iv0 (by omega)) (by omega)) (by omega)) (by omega)) (by omega)) (by omega)) (by omega)) (by omega)) (by omega)) (by omega)) (by omega)) rfl ?_
  refine V.putf dX4_become_170 fp_X4_70 (hset_self _ _ _) (Nat.le_of_ble_eq_true rfl) (fun _ => ⟨rfl, rfl⟩) ?_
  exact V.vret (by exact dX4_become_173) rfl (kk _ (hset_self _ _ _) (o_ne (o_ne (o_ne (o_ne (o_ne (o_ne (o_ne (o_ne (o_ne (o_ne (hset_self _ _ _) (by omega)) (by omega)) (by omega)) (by omega)) (by omega)) (by omega)) (by omega)) (by omega)) (by omega)) (by omega)) ⟨_, (o_ne (o_ne (o_ne (o_ne (o_ne (o_ne (hset_self _ _ _) (by omega)) (by omega)) (by omega)) (by omega)) (by omega)) (by omega)), (fun e he => by rcases (show e = 0 ∨ e = 1 by omega) with rfl | rfl <;> rfl)⟩ ⟨_, (o_ne (o_ne (o_ne (o_ne (o_ne (hset_self _ _ _) (by omega)) (by omega)) (by omega)) (by omega)) (by omega)), (fun e he => by rcases (show e = 0 ∨ e = 1 by omega) with rfl | rfl <;> rfl)⟩ (fun q q0 q4 q5 q6 => by rw [hset_ne _ _ q0, hset_ne _ _ q0, hset_ne _ _ q0, hset_ne _ _ q0, hset_ne _ _ q0, hset_ne _ _ q6, hset_ne _ _ q5, hset_ne _ _ q6, hset_ne _ _ q5, hset_ne _ _ q0, hset_ne _ _ q4, hset_ne _ _ q0]))
def Kmx (K Kw : KK) : KK := fun j => if j < 90 then K j else Kw j
theorem WoodAt.mx {h : MH} {w : Nat} {K Kw : KK} {cl P : Nat → Int32} {pn : Nat} (hw : WoodAt h w Kw cl P pn) (g r : Nat → Int32) (hg : ∀ c, c < 84 → g c = K c) (hr : ∀ j, j < 6 → r j = K (84 + j)) : WoodAt (hset (hset h (w + 1) (.inl (0, 84, .inl g))) (w + 2) (.inl (0, 6, .inl r))) w (Kmx K Kw) cl P pn := by
  obtain ⟨hw0, ⟨gr, hgr, egr⟩, ⟨ru, hru, eru⟩, ⟨pq, hpf, epf⟩, hpl, ⟨fl, hfl, efl⟩, ⟨ca, hca, eca⟩, ⟨wa, hwa⟩, hpp, hhd⟩ := id hw
  have e : ∀ j, 90 ≤ j → Kmx K Kw j = Kw j := fun j hj => if_neg (by omega)
  have e2 : ∀ p u, gP (Kmx K Kw) p u = gP Kw p u := fun p u => e _ (by omega)
  refine ⟨?_, ⟨g, o_ne (hset_self _ _ _) (by omega), fun c hc => by rw [hg c hc, Kmx, if_pos (by omega)]⟩, ⟨r, hset_self _ _ _, fun c hc => by rw [hr c hc, Kmx, if_pos (by omega)]⟩, ⟨pq, o_ne (o_ne hpf (by omega)) (by omega), epf⟩, o_ne (o_ne hpl (by omega)) (by omega), ⟨fl, o_ne (o_ne hfl (by omega)) (by omega), fun i hi => by rw [e _ (by omega)]; exact efl i hi⟩, ⟨ca, o_ne (o_ne hca (by omega)) (by omega), fun i hi => by rw [e _ (by omega)]; exact eca i hi⟩, ⟨wa, o_ne (o_ne hwa (by omega)) (by omega)⟩, fun i hi => ?_, fun i hi => by rw [e2]; exact hhd i hi⟩
  · refine o_ne (o_ne ?_ (by omega)) (by omega)
    rw [hw0]
    simp only [woF, e _ (show 90 ≤ 90 by omega), e _ (show 90 ≤ 91 by omega), e _ (show 90 ≤ 92 by omega), e _ (show 90 ≤ 93 by omega), e _ (show 90 ≤ 94 by omega), e _ (show 90 ≤ 95 by omega)]
  · refine o_ne (o_ne ?_ (by omega)) (by omega)
    rw [hpp i hi]
    simp only [pF, cAt, e2]
set_option maxRecDepth 20000 in
set_option maxHeartbeats 4000000 in
theorem s4_become (l : Launch) (d : Nat) (h : MH) (n w v pn pw : Nat) (K Kw : KK) (cl P clw Pw : Nat → Int32) (hd : w + 18 ≤ v ∨ v + 18 ≤ w) (hw : WoodAt h w Kw clw Pw pw) (hv : WoodAt h v K cl P pn) : Sp l mX4_become (d + 1) [.ref w, .ref v] h n 0 0 (Wq w K cl P pn h n) := by
  obtain ⟨hw0, ⟨gr, hgr, egr⟩, ⟨ru, hru, eru⟩, ⟨pq, hpf, epf⟩, hpl, ⟨fl, hfl, efl⟩, ⟨ca, hca, eca⟩, ⟨wa, hwa⟩, hpp, hhd⟩ := id hw
  obtain ⟨iv0, ⟨gv, igr, jgr⟩, ⟨rv, iru, jru⟩, ⟨pv, ipf, jpf⟩, ipl, ⟨fv, ifl, jfl⟩, ⟨cv, ica, jca⟩, ⟨xv, iwa⟩, ipp, ihd⟩ := id hv
  show V _ _ _ _ [some (.ref w), some (.ref v), none] _ _ _ _ _ _
  refine V.aload_n dX4_become_0 rfl ?_
  refine V.getf dX4_become_1 fl_X4_9 iv0 rfl ?_
  refine V.iconst (v := nI 0) dX4_become_4 (by decide) ?_
  refine V.aload_n dX4_become_5 rfl ?_
  refine V.getf dX4_become_6 fl_X4_9 hw0 rfl ?_
  refine V.iconst (v := nI 0) dX4_become_9 (by decide) ?_
  refine V.bipush (v := nI 84) dX4_become_10 (by decide) ?_
  refine V.copyi dX4_become_12 wc_X4_41 w_acn w_acs w_sys (by omega) (Nat.le_of_ble_eq_true rfl) igr hgr (by decide) (by decide) (by decide) (by decide) (by decide) ?_
  refine V.ext (g := gv) (hset_self _ _ _) (fun j hj => (by first | (simp [va_cpy, clampI, hj]; done) | (simp [va_cpy, clampI, hj]; intro q; omega))) ?_
  rw [hset_hset]
  refine V.aload_n dX4_become_15 rfl ?_
  refine V.getf dX4_become_16 fl_X4_15 (o_ne iv0 (by omega)) rfl ?_
  refine V.iconst (v := nI 0) dX4_become_19 (by decide) ?_
  refine V.aload_n dX4_become_20 rfl ?_
  refine V.getf dX4_become_21 fl_X4_15 (o_ne hw0 (by omega)) rfl ?_
  refine V.iconst (v := nI 0) dX4_become_24 (by decide) ?_
  refine V.aload_n dX4_become_25 rfl ?_
  refine V.getf dX4_become_26 fl_X4_15 (o_ne hw0 (by omega)) rfl ?_
  refine V.alen (v := nI 6) dX4_become_29 (o_ne hru (by omega)) (by decide) (by decide) ?_
  refine V.copyi dX4_become_30 wc_X4_41 w_acn w_acs w_sys (by omega) (Nat.le_of_ble_eq_true rfl) (o_ne iru (by omega)) (o_ne hru (by omega)) (by decide) (by decide) (by decide) (by decide) (by decide) ?_
  refine V.ext (g := rv) (hset_self _ _ _) (fun j hj => (by first | (simp [va_cpy, clampI, hj]; done) | (simp [va_cpy, clampI, hj]; intro q; omega))) ?_
  rw [hset_hset]
  refine V.iconst (v := nI 0) dX4_become_33 (by decide) ?_
  refine V.ist2 dX4_become_34 (by decide) rfl ?_
  have hw2 := hw.mx gv rv jgr jru
  have hv2 : WoodAt (hset (hset h (w + 1) (.inl (0, 84, .inl gv))) (w + 2) (.inl (0, 6, .inl rv))) v K cl P pn := hv.far fun q _ _ => by rw [hset_ne _ _ (by omega), hset_ne _ _ (by omega)]
  have ho2 : Out h (hset (hset h (w + 1) (.inl (0, 84, .inl gv))) (w + 2) (.inl (0, 6, .inl rv))) w := ((Out.rf h w).set _ _ (by omega) (by omega)).set _ _ (by omega) (by omega)
  generalize hset (hset h (w + 1) (.inl (0, 84, .inl gv))) (w + 2) (.inl (0, 6, .inl rv)) = h2 at hw2 hv2 ho2 ⊢
  obtain ⟨kw0, ⟨g2, kgr, xgr⟩, ⟨r2, kru, xru⟩, ⟨p2, kpf, xpf⟩, kpl, ⟨f2, kfl, xfl⟩, ⟨c2, kca, xca⟩, ⟨w2, kwa⟩, kpp, khd⟩ := id hw2
  obtain ⟨mv0, ⟨g3, mgr, ygr⟩, ⟨r3, mru, yru⟩, ⟨p3, mpf, ypf⟩, mpl, ⟨f3, mfl, yfl⟩, ⟨c3, mca, yca⟩, ⟨w3, mwa⟩, mpp, mhd⟩ := id hv2
  refine s4_become_a l d n w v pn pw h2 K (Kmx K Kw) cl P clw Pw hd hw2 hv2 (fun h3 hc => ?_) 10 0 h2 ⟨fun p hp => absurd hp (by omega), fun _ _ => rfl⟩ (by omega)
  refine s4_become_b l d n w v pn pw h3 K (Kmx K Kw) P Pw f2 f3 c2 c3 hd ((hc.2 _ (by omega)).trans kw0) ((hc.2 _ (by omega)).trans kpl) ((hc.2 _ (by omega)).trans kfl) ((hc.2 _ (by omega)).trans kca) ((hc.2 _ (by omega)).trans mv0) ((hc.2 _ (by omega)).trans mpl) ((hc.2 _ (by omega)).trans mfl) ((hc.2 _ (by omega)).trans mca) (fun h4 q0 q4 q5 q6 qq => ?_)
  obtain ⟨g5, i5, j5⟩ := q5
  obtain ⟨g6, i6, j6⟩ := q6
  refine ⟨rfl, rfl, ⟨q0, ⟨g2, (qq _ (by omega) (by omega) (by omega) (by omega)).trans ((hc.2 _ (by omega)).trans kgr), fun c hc => (xgr c hc).trans (if_pos (by omega))⟩, ⟨r2, (qq _ (by omega) (by omega) (by omega) (by omega)).trans ((hc.2 _ (by omega)).trans kru), fun c hc => (xru c hc).trans (if_pos (by omega))⟩, ⟨p2, (qq _ (by omega) (by omega) (by omega) (by omega)).trans ((hc.2 _ (by omega)).trans kpf), xpf⟩, q4, ⟨g5, i5, fun e he => (j5 e he).trans (yfl e he)⟩, ⟨g6, i6, fun e he => (j6 e he).trans (yca e he)⟩, ⟨w2, (qq _ (by omega) (by omega) (by omega) (by omega)).trans ((hc.2 _ (by omega)).trans kwa)⟩, fun i hi => ?_, mhd⟩, fun q hq => ?_⟩
  · rw [qq _ (by omega) (by omega) (by omega) (by omega), hc.1 i hi]; exact mpp i hi
  · rw [qq _ (by omega) (by omega) (by omega) (by omega), hc.2 _ (by omega)]; exact ho2 q hq
