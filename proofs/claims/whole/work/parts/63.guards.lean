theorem mx_is : ∀ y, y < 7 → ∀ d, d < 7 → (if nI 0 < nI y - nI d then nI y - nI d else nI 0) = nI (y - d) := by decide +kernel
theorem cN_zero {f : Nat → Bool} : ∀ {m : Nat}, (∀ i, i < m → f i = false) → cN f m = 0 := by
  intro m
  induction m with
  | zero => intro _; rfl
  | succ m ih => intro h; rw [cN, ih (fun i hi => h i (by omega)), h m (by omega)]; rfl
theorem cN_stop {f : Nat → Bool} {g : Nat} : ∀ {m : Nat}, g ≤ m → (∀ i, g ≤ i → i < m → f i = false) → cN f m = cN f g := by
  intro m
  induction m with
  | zero => intro hg _; rw [show g = 0 by omega]
  | succ m ih =>
    intro hg h
    by_cases q : g = m + 1
    · rw [q]
    · rw [cN, ih (by omega) (fun i h1 h2 => h i h1 (by omega)), h m (by omega) (by omega)]; rfl
theorem gdS_st (ok : Nat → Bool) (r : Nat) (fw : Bool) (hf : fwB r (gdS ok r) = fw) : gdS ok (r + 1) = if (ok r && fw) = true then some r else gdS ok r := by
  rw [gdS, hf]
set_option maxRecDepth 20000 in
set_option maxHeartbeats 4000000 in
theorem s2_sees_in (l : Launch) (d : Nat) (h : MH) (n : Nat) (K : KK) (col rows dd : Nat) (hrows : rows < 128) (hdd : dd < 7) (y : Nat) (hy : y < 7) {Q : Option Value → MH → Nat → Prop} (kk : V l mX2_seesEachTwice (d + 1) 52 [some (.int (nI rows)), some (.int (nI (opN K col 7))), some (.int (nI dd)), some (.int (nI y)), some (.int (nI (cN (seB2 rows dd y) 7))), none] [] h n 0 0 Q) : ∀ (r g : Nat), y ≤ g + dd → g + r = 7 → V l mX2_seesEachTwice (d + 1) 20 [some (.int (nI rows)), some (.int (nI (opN K col 7))), some (.int (nI dd)), some (.int (nI y)), some (.int (nI (cN (seB2 rows dd y) g))), some (.int (nI g))] [] h n 0 0 Q := by
  intro r
  induction r with
  | zero =>
    intro g hg hr
    refine V.iload dX2_seesEachTwice_20 rfl ?_
    refine V.bipush (v := nI 7) dX2_seesEachTwice_22 (by decide) ?_
    refine V.icmp_geN (tgt := 52) dX2_seesEachTwice_24 (by decide) (by omega) (by omega) (fun _ => ?_) (fun q => absurd q (by omega))
    have hg7 : g = 7 := by omega
    subst hg7
    exact V.drop 5 kk
  | succ r ih =>
    intro g hg hr
    refine V.iload dX2_seesEachTwice_20 rfl ?_
    refine V.bipush (v := nI 7) dX2_seesEachTwice_22 (by decide) ?_
    refine V.icmp_geN (tgt := 52) dX2_seesEachTwice_24 (by decide) (by omega) (by omega) (fun q => absurd q (by omega)) (fun _ => ?_)
    refine V.iload dX2_seesEachTwice_27 rfl ?_
    refine V.iload_n dX2_seesEachTwice_29 rfl ?_
    refine V.iload_n dX2_seesEachTwice_30 rfl ?_
    refine V.iaddN dX2_seesEachTwice_31 ?_
    refine V.icmp_gtN (tgt := 52) dX2_seesEachTwice_32 (by decide) (by omega) (by omega) (fun c32 => ?_) (fun c32 => ?_)
    · rw [← cN_stop (f := seB2 rows dd y) (g := g) (m := 7) (by omega) (fun i h1 h2 => by rw [seB2, decide_eq_false (by omega)]; simp)]
      exact V.drop 5 kk
    · refine V.iload dX2_seesEachTwice_35 rfl ?_
      refine V.iload_n dX2_seesEachTwice_37 rfl ?_
      refine V.iload dX2_seesEachTwice_38 rfl ?_
      refine V.ishr dX2_seesEachTwice_40 ?_
      refine V.iconst (v := nI 1) dX2_seesEachTwice_41 (by decide) ?_
      refine V.iand dX2_seesEachTwice_42 ?_
      rw [bt_is rows hrows g (by omega)]
      refine V.iaddN dX2_seesEachTwice_43 ?_
      refine V.ist4 dX2_seesEachTwice_44 (by decide) rfl ?_
      refine V.inN5 dX2_seesEachTwice_46 (by decide) rfl ?_
      refine V.goto (tgt := 20) dX2_seesEachTwice_49 (by decide) ?_
      exact V.ls (by simp only [cN, seB2, decide_eq_true (show y ≤ g + dd ∧ g ≤ y + dd by omega), Bool.and_true]) (ih (g + 1) (by omega) (by omega))
set_option maxRecDepth 20000 in
set_option maxHeartbeats 4000000 in
theorem s2_sees_loop (l : Launch) (d : Nat) (h : MH) (n : Nat) (K : KK) (col rows dd : Nat) (hrows : rows < 128) (hdd : dd < 7) : ∀ (r y : Nat), aB (g2B K col rows dd) y = true → y + r = 7 → V l mX2_seesEachTwice (d + 1) 2 [some (.int (nI rows)), some (.int (nI (opN K col 7))), some (.int (nI dd)), some (.int (nI y)), none, none] [] h n 0 0 (Pv (bI (s2B K col rows dd)) h n) := by
  intro r
  induction r with
  | zero =>
    intro y hh hy
    refine V.iload_n dX2_seesEachTwice_2 rfl ?_
    refine V.bipush (v := nI 7) dX2_seesEachTwice_3 (by decide) ?_
    refine V.icmp_geN (tgt := 75) dX2_seesEachTwice_5 (by decide) (by omega) (by omega) (fun _ => ?_) (fun q => absurd q (by omega))
    refine V.iconst (v := nI 1) dX2_seesEachTwice_75 (by decide) ?_
    exact V.iretZ (by exact dX2_seesEachTwice_76) rfl (by rw [s2B, show 7 = y by omega, hh]; rfl) rfl
  | succ r ih =>
    intro y hh hy
    refine V.iload_n dX2_seesEachTwice_2 rfl ?_
    refine V.bipush (v := nI 7) dX2_seesEachTwice_3 (by decide) ?_
    refine V.icmp_geN (tgt := 75) dX2_seesEachTwice_5 (by decide) (by omega) (by omega) (fun q => absurd q (by omega)) (fun _ => ?_)
    refine V.iconst (v := nI 0) dX2_seesEachTwice_8 (by decide) ?_
    refine V.ist4 dX2_seesEachTwice_9 (by decide) rfl ?_
    refine V.iconst (v := nI 0) dX2_seesEachTwice_11 (by decide) ?_
    refine V.iload_n dX2_seesEachTwice_12 rfl ?_
    refine V.iload_n dX2_seesEachTwice_13 rfl ?_
    refine V.isub dX2_seesEachTwice_14 ?_
    refine V.mmax dX2_seesEachTwice_15 wm_X2_34 w_maxs w_math w_maxc (by omega) (Nat.le_of_ble_eq_true rfl) ?_
    rw [mx_is y (by omega) dd hdd]
    refine V.ist5 dX2_seesEachTwice_18 (by decide) rfl ?_
    have hz : cN (seB2 rows dd y) (y - dd) = 0 := cN_zero (fun i hi => by rw [seB2, decide_eq_false (by omega)]; simp)
    refine V.ls (show _ = [some (.int (nI rows)), some (.int (nI (opN K col 7))), some (.int (nI dd)), some (.int (nI y)), some (.int (nI (cN (seB2 rows dd y) (y - dd)))), some (.int (nI (y - dd)))] by rw [hz]) (s2_sees_in l d h n K col rows dd hrows hdd y (by omega) ?_ (7 - (y - dd)) (y - dd) (by omega) (by omega))
    have hcl := cN_le (seB2 rows dd y) 7
    have hbo := bt_op K col y (by omega)
    refine V.iload_n dX2_seesEachTwice_52 rfl ?_
    refine V.iload_n dX2_seesEachTwice_53 rfl ?_
    refine V.ishr dX2_seesEachTwice_54 ?_
    refine V.iconst (v := nI 1) dX2_seesEachTwice_55 (by decide) ?_
    refine V.iand dX2_seesEachTwice_56 ?_
    rw [bt_is _ (opN_lt K col 7) y (by omega), hbo]
    refine V.iconst (v := nI 1) dX2_seesEachTwice_57 (by decide) ?_
    refine V.icmp_neN (tgt := 69) dX2_seesEachTwice_58 (by decide) (by split <;> omega) (by omega) (fun c58 => ?_) (fun c58 => ?_)
    · have ht : K (12 * y + col) = nI 3 := Classical.byContradiction fun q => c58 (by rw [decide_eq_false q]; rfl)
      refine V.inN3 dX2_seesEachTwice_69 (by decide) rfl ?_
      refine V.goto (tgt := 2) dX2_seesEachTwice_72 (by decide) ?_
      exact V.drop 4 (ih (y + 1) (by rw [aB, hh, show g2B K col rows dd y = true by (rw [g2B, decide_eq_true ht]; rfl)]; rfl) (by omega))
    · have ht : ¬ K (12 * y + col) = nI 3 := fun q => absurd c58 (by rw [decide_eq_true q]; decide)
      refine V.iload dX2_seesEachTwice_61 rfl ?_
      refine V.iconst (v := nI 2) dX2_seesEachTwice_63 (by decide) ?_
      refine V.icmp_geN (tgt := 69) dX2_seesEachTwice_64 (by decide) (by omega) (by omega) (fun c64 => ?_) (fun c64 => ?_)
      · refine V.inN3 dX2_seesEachTwice_69 (by decide) rfl ?_
        refine V.goto (tgt := 2) dX2_seesEachTwice_72 (by decide) ?_
        exact V.drop 4 (ih (y + 1) (by rw [aB, hh, show g2B K col rows dd y = true by (rw [g2B, decide_eq_true c64]; simp)]; rfl) (by omega))
      · refine V.iconst (v := nI 0) dX2_seesEachTwice_67 (by decide) ?_
        exact V.iretZ (by exact dX2_seesEachTwice_68) rfl (by rw [s2B, aB_no (show y < 7 by omega) (by rw [g2B, decide_eq_false ht, decide_eq_false (by omega)]; rfl)]; rfl) rfl
set_option maxRecDepth 20000 in
set_option maxHeartbeats 4000000 in
theorem s2_sees2 (l : Launch) (d : Nat) (h : MH) (n : Nat) (K : KK) (col rows dd : Nat) (hrows : rows < 128) (hdd : dd < 7) : Sp l mX2_seesEachTwice (d + 1) [.int (nI rows), .int (nI (opN K col 7)), .int (nI dd)] h n 0 0 (Pv (bI (s2B K col rows dd)) h n) := by
  show V _ _ _ _ [some (.int (nI rows)), some (.int (nI (opN K col 7))), some (.int (nI dd)), none, none, none] _ _ _ _ _ _
  refine V.iconst (v := nI 0) dX2_seesEachTwice_0 (by decide) ?_
  refine V.ist3 dX2_seesEachTwice_1 (by decide) rfl ?_
  exact s2_sees_loop l d h n K col rows dd hrows hdd 7 0 rfl (by omega)
set_option maxRecDepth 20000 in
set_option maxHeartbeats 4000000 in
theorem s2_few_a (l : Launch) (d : Nat) (h : MH) (n w : Nat) (K : KK) (cl P : Nat → Int32) (pn : Nat) (hw : WoodAt h w K cl P pn) (col dd : Nat) (hcol : col < 12) (hdd : dd < 7) {Q : Option Value → MH → Nat → Prop} (kk : V l mX2_fewestGuards (d + 2) 43 [some (.ref 59), some (.ref w), some (.int (nI col)), some (.int (nI dd)), some (.int (nI (opN K col 7))), none, none, none] [] h n 0 0 Q) : ∀ (r y : Nat), y + r = 7 → V l mX2_fewestGuards (d + 2) 6 [some (.ref 59), some (.ref w), some (.int (nI col)), some (.int (nI dd)), some (.int (nI (opN K col y))), some (.int (nI y)), none, none] [] h n 0 0 Q := by
  obtain ⟨hw0, ⟨gr, hgr, egr⟩, ⟨ru, hru, eru⟩, ⟨pq, hpf, epf⟩, hpl, ⟨fl, hfl, efl⟩, ⟨ca, hca, eca⟩, ⟨wa, hwa⟩, hpp, hhd⟩ := id hw
  intro r
  induction r with
  | zero =>
    intro y hy
    refine V.iload dX2_fewestGuards_6 rfl ?_
    refine V.bipush (v := nI 7) dX2_fewestGuards_8 (by decide) ?_
    refine V.icmp_geN (tgt := 43) dX2_fewestGuards_10 (by decide) (by omega) (by omega) (fun _ => ?_) (fun q => absurd q (by omega))
    have hy7 : y = 7 := by omega
    subst hy7
    exact V.drop 5 kk
  | succ r ih =>
    intro y hy
    refine V.iload dX2_fewestGuards_6 rfl ?_
    refine V.bipush (v := nI 7) dX2_fewestGuards_8 (by decide) ?_
    refine V.icmp_geN (tgt := 43) dX2_fewestGuards_10 (by decide) (by omega) (by omega) (fun q => absurd q (by omega)) (fun _ => ?_)
    refine V.aload_n dX2_fewestGuards_13 rfl ?_
    refine V.bipush (v := nI 12) dX2_fewestGuards_14 (by decide) ?_
    refine V.iload dX2_fewestGuards_16 rfl ?_
    refine V.imulN dX2_fewestGuards_18 ?_
    refine V.iload_n dX2_fewestGuards_19 rfl ?_
    refine V.iaddN dX2_fewestGuards_20 ?_
    refine V.callVv [_] dX2_fewestGuards_21 lk_X2_19 rfl (Nat.le_of_ble_eq_true rfl) (Nat.le_of_ble_eq_true rfl) hw0 rfl (s4_groundOf _ _ _ _ _ _ _ _ _ hw _ (by omega)) ?_
    refine V.iconst (v := nI 3) dX2_fewestGuards_24 (by decide) ?_
    refine V.icmp_eq (tgt := 37) dX2_fewestGuards_25 (by decide) (fun c25 => ?_) (fun c25 => ?_)
    · refine V.inN5 dX2_fewestGuards_37 (by decide) rfl ?_
      refine V.goto (tgt := 6) dX2_fewestGuards_40 (by decide) ?_
      exact V.ls (by simp only [opN, if_pos c25, Nat.add_zero]) (ih (y + 1) (by omega))
    · refine V.iload dX2_fewestGuards_28 rfl ?_
      refine V.iconst (v := nI 1) dX2_fewestGuards_30 (by decide) ?_
      refine V.iload dX2_fewestGuards_31 rfl ?_
      refine V.ishl dX2_fewestGuards_33 ?_
      have hlt := opN_lt K col y
      have h64 : opN K col y < 64 := Nat.lt_of_lt_of_le hlt (Nat.pow_le_pow_right (n := 2) (by omega) (show y ≤ 6 by omega))
      refine V.ior dX2_fewestGuards_34 ?_
      rw [or_is y (by omega) _ h64 hlt]
      refine V.ist4 dX2_fewestGuards_35 (by decide) rfl ?_
      refine V.inN5 dX2_fewestGuards_37 (by decide) rfl ?_
      refine V.goto (tgt := 6) dX2_fewestGuards_40 (by decide) ?_
      exact V.ls (by rw [opN, if_neg c25]) (ih (y + 1) (by omega))
theorem pcR_le : ∀ r v, pcR r v ≤ r := by
  intro r
  induction r with
  | zero => intro v; exact Nat.le_refl 0
  | succ r ih => intro v; rw [pcR]; have := ih (v / 2); omega
theorem pc_le (v : Nat) : pcN v ≤ 7 := pcR_le 7 v
set_option maxRecDepth 20000 in
set_option maxHeartbeats 4000000 in
theorem s2_few_b (l : Launch) (d : Nat) (h : MH) (n w : Nat) (K : KK) (col dd : Nat) (hcol : col < 12) (hdd : dd < 7) : ∀ (r r0 : Nat) (best : Int32), best = gI (gdS (gok K col dd) r0) → r0 + r = 128 → V l mX2_fewestGuards (d + 2) 50 [some (.ref 59), some (.ref w), some (.int (nI col)), some (.int (nI dd)), some (.int (nI (opN K col 7))), some (.int best), some (.int (nI r0)), none] [] h n 0 0 (Pv (gI (gdS (gok K col dd) 128)) h n) := by
  intro r
  induction r with
  | zero =>
    intro r0 best hbest hr
    refine V.iload dX2_fewestGuards_50 rfl ?_
    refine V.sipush (v := nI 128) dX2_fewestGuards_52 (by decide) ?_
    refine V.icmp_geN (tgt := 121) dX2_fewestGuards_55 (by decide) (by omega) (by omega) (fun _ => ?_) (fun q => absurd q (by omega))
    refine V.iload dX2_fewestGuards_121 rfl ?_
    exact V.iretP (by exact dX2_fewestGuards_123) rfl (by rw [hbest, show r0 = 128 by omega]) rfl
  | succ r ih =>
    intro r0 best hbest hr
    refine V.iload dX2_fewestGuards_50 rfl ?_
    refine V.sipush (v := nI 128) dX2_fewestGuards_52 (by decide) ?_
    refine V.icmp_geN (tgt := 121) dX2_fewestGuards_55 (by decide) (by omega) (by omega) (fun q => absurd q (by omega)) (fun _ => ?_)
    refine V.iload dX2_fewestGuards_58 rfl ?_
    refine V.bipush (v := -4) dX2_fewestGuards_60 (by decide) ?_
    cases hb : gdS (gok K col dd) r0 with
    | none =>
      have hfw : fwB r0 (gdS (gok K col dd) r0) = true := by rw [hb]; rfl
      have hb4 : best = -4 := by rw [hbest, hb]; rfl
      refine V.icmp_eq (tgt := 78) dX2_fewestGuards_62 (by decide) (fun _ => ?_) (fun q => absurd hb4 q)
      refine V.iconst (v := nI 1) dX2_fewestGuards_78 (by decide) ?_
      refine V.goto (tgt := 83) dX2_fewestGuards_79 (by decide) ?_
      refine V.ist7 dX2_fewestGuards_83 (by decide) rfl ?_
      refine V.iload dX2_fewestGuards_85 rfl ?_
      refine V.iload dX2_fewestGuards_87 rfl ?_
      refine V.iconst (v := -1) dX2_fewestGuards_89 (by decide) ?_
      refine V.ixor dX2_fewestGuards_90 ?_
      refine V.iand dX2_fewestGuards_91 ?_
      refine V.if_ne (tgt := 115) dX2_fewestGuards_92 (by decide) (fun c93 => ?_) (fun c93 => ?_)
      · refine V.inN6 dX2_fewestGuards_115 (by decide) rfl ?_
        refine V.goto (tgt := 50) dX2_fewestGuards_118 (by decide) ?_
        exact V.drop 7 (ih (r0 + 1) best (by rw [gdS_st _ _ _ hfw, if_neg (by rw [gok]; rw [decide_eq_false c93]; simp), hbest]) (by omega))
      · refine V.iload dX2_fewestGuards_95 rfl ?_
        refine V.if_eq (tgt := 115) dX2_fewestGuards_97 (by decide) (fun q => absurd q (by decide)) (fun _ => ?_)
        refine V.iload dX2_fewestGuards_100 rfl ?_
        refine V.iload dX2_fewestGuards_102 rfl ?_
        refine V.iload_n dX2_fewestGuards_104 rfl ?_
        refine V.callSv [_, _, _] dX2_fewestGuards_105 lk_X2_30 rfl (Nat.le_of_ble_eq_true rfl) (Nat.le_of_ble_eq_true rfl) (s2_sees2 _ _ _ _ K col r0 dd (by omega) hdd) ?_
        refine V.if_eqB (tgt := 115) dX2_fewestGuards_108 (by decide) (fun c109 => ?_) (fun c109 => ?_)
        · refine V.inN6 dX2_fewestGuards_115 (by decide) rfl ?_
          refine V.goto (tgt := 50) dX2_fewestGuards_118 (by decide) ?_
          exact V.drop 7 (ih (r0 + 1) best (by rw [gdS_st _ _ _ hfw, if_neg (by rw [gok]; rw [c109]; simp), hbest]) (by omega))
        · refine V.iload dX2_fewestGuards_111 rfl ?_
          refine V.ist5 dX2_fewestGuards_113 (by decide) rfl ?_
          refine V.inN6 dX2_fewestGuards_115 (by decide) rfl ?_
          refine V.goto (tgt := 50) dX2_fewestGuards_118 (by decide) ?_
          exact V.drop 7 (ih (r0 + 1) (nI r0) (by rw [gdS_st _ _ _ hfw, if_pos (by rw [gok, decide_eq_true c93, c109]; rfl)]; rfl) (by omega))
    | some b0 =>
      have hb4 : best = nI b0 := by rw [hbest, hb]; rfl
      have hblt := gdS_lt _ _ _ hb
      refine V.icmp_eq (tgt := 78) dX2_fewestGuards_62 (by decide) (fun q => absurd (q.symm.trans hb4) (neg4_ne (by omega))) (fun _ => ?_)
      refine V.iload dX2_fewestGuards_65 rfl ?_
      refine V.callSv [_] dX2_fewestGuards_67 lk_X2_25 rfl (Nat.le_of_ble_eq_true rfl) (Nat.le_of_ble_eq_true rfl) (j6_bitCount _ _ _ _ r0 (by omega)) ?_
      refine V.iload dX2_fewestGuards_70 rfl ?_
      refine V.st (show [Value.int best, Value.int (nI (pcN r0))] = [Value.int (nI b0), Value.int (nI (pcN r0))] by rw [hb4]) ?_
      refine V.callSv [_] dX2_fewestGuards_72 lk_X2_25 rfl (Nat.le_of_ble_eq_true rfl) (Nat.le_of_ble_eq_true rfl) (j6_bitCount _ _ _ _ b0 (by omega)) ?_
      have p1 := pc_le r0
      have p2 := pc_le b0
      refine V.icmp_geN (tgt := 82) dX2_fewestGuards_75 (by decide) (by omega) (by omega) (fun c76 => ?_) (fun c76 => ?_)
      · have hfw : fwB r0 (gdS (gok K col dd) r0) = false := by rw [hb]; exact decide_eq_false (by omega)
        refine V.iconst (v := nI 0) dX2_fewestGuards_82 (by decide) ?_
        refine V.ist7 dX2_fewestGuards_83 (by decide) rfl ?_
        refine V.iload dX2_fewestGuards_85 rfl ?_
        refine V.iload dX2_fewestGuards_87 rfl ?_
        refine V.iconst (v := -1) dX2_fewestGuards_89 (by decide) ?_
        refine V.ixor dX2_fewestGuards_90 ?_
        refine V.iand dX2_fewestGuards_91 ?_
        refine V.if_ne (tgt := 115) dX2_fewestGuards_92 (by decide) (fun c93 => ?_) (fun c93 => ?_)
        · refine V.inN6 dX2_fewestGuards_115 (by decide) rfl ?_
          refine V.goto (tgt := 50) dX2_fewestGuards_118 (by decide) ?_
          exact V.drop 7 (ih (r0 + 1) best (by rw [gdS_st _ _ _ hfw, if_neg (by rw [gok]; rw [decide_eq_false c93]; simp), hbest]) (by omega))
        · refine V.iload dX2_fewestGuards_95 rfl ?_
          refine V.if_eq (tgt := 115) dX2_fewestGuards_97 (by decide) (fun _ => ?_) (fun q => absurd rfl q)
          refine V.inN6 dX2_fewestGuards_115 (by decide) rfl ?_
          refine V.goto (tgt := 50) dX2_fewestGuards_118 (by decide) ?_
          exact V.drop 7 (ih (r0 + 1) best (by rw [gdS_st _ _ _ hfw, if_neg (by rw [gok]; simp), hbest]) (by omega))
      · have hfw : fwB r0 (gdS (gok K col dd) r0) = true := by rw [hb]; exact decide_eq_true c76
        refine V.iconst (v := nI 1) dX2_fewestGuards_78 (by decide) ?_
        refine V.goto (tgt := 83) dX2_fewestGuards_79 (by decide) ?_
        refine V.ist7 dX2_fewestGuards_83 (by decide) rfl ?_
        refine V.iload dX2_fewestGuards_85 rfl ?_
        refine V.iload dX2_fewestGuards_87 rfl ?_
        refine V.iconst (v := -1) dX2_fewestGuards_89 (by decide) ?_
        refine V.ixor dX2_fewestGuards_90 ?_
        refine V.iand dX2_fewestGuards_91 ?_
        refine V.if_ne (tgt := 115) dX2_fewestGuards_92 (by decide) (fun c93 => ?_) (fun c93 => ?_)
        · refine V.inN6 dX2_fewestGuards_115 (by decide) rfl ?_
          refine V.goto (tgt := 50) dX2_fewestGuards_118 (by decide) ?_
          exact V.drop 7 (ih (r0 + 1) best (by rw [gdS_st _ _ _ hfw, if_neg (by rw [gok]; rw [decide_eq_false c93]; simp), hbest]) (by omega))
        · refine V.iload dX2_fewestGuards_95 rfl ?_
          refine V.if_eq (tgt := 115) dX2_fewestGuards_97 (by decide) (fun q => absurd q (by decide)) (fun _ => ?_)
          refine V.iload dX2_fewestGuards_100 rfl ?_
          refine V.iload dX2_fewestGuards_102 rfl ?_
          refine V.iload_n dX2_fewestGuards_104 rfl ?_
          refine V.callSv [_, _, _] dX2_fewestGuards_105 lk_X2_30 rfl (Nat.le_of_ble_eq_true rfl) (Nat.le_of_ble_eq_true rfl) (s2_sees2 _ _ _ _ K col r0 dd (by omega) hdd) ?_
          refine V.if_eqB (tgt := 115) dX2_fewestGuards_108 (by decide) (fun c109 => ?_) (fun c109 => ?_)
          · refine V.inN6 dX2_fewestGuards_115 (by decide) rfl ?_
            refine V.goto (tgt := 50) dX2_fewestGuards_118 (by decide) ?_
            exact V.drop 7 (ih (r0 + 1) best (by rw [gdS_st _ _ _ hfw, if_neg (by rw [gok]; rw [c109]; simp), hbest]) (by omega))
          · refine V.iload dX2_fewestGuards_111 rfl ?_
            refine V.ist5 dX2_fewestGuards_113 (by decide) rfl ?_
            refine V.inN6 dX2_fewestGuards_115 (by decide) rfl ?_
            refine V.goto (tgt := 50) dX2_fewestGuards_118 (by decide) ?_
            exact V.drop 7 (ih (r0 + 1) (nI r0) (by rw [gdS_st _ _ _ hfw, if_pos (by rw [gok, decide_eq_true c93, c109]; rfl)]; rfl) (by omega))
set_option maxRecDepth 20000 in
set_option maxHeartbeats 4000000 in
theorem s2_fewest (l : Launch) (d : Nat) (h : MH) (n w : Nat) (K : KK) (cl P : Nat → Int32) (pn : Nat) (hw : WoodAt h w K cl P pn) (col dd : Nat) (hcol : col < 12) (hdd : dd < 7) : Sp l mX2_fewestGuards (d + 2) [.ref 59, .ref w, .int (nI col), .int (nI dd)] h n 0 0 (Pv (gI (gdS (gok K col dd) 128)) h n) := by
  show V _ _ _ _ [some (.ref 59), some (.ref w), some (.int (nI col)), some (.int (nI dd)), none, none, none, none] _ _ _ _ _ _
  refine V.iconst (v := nI 0) dX2_fewestGuards_0 (by decide) ?_
  refine V.ist4 dX2_fewestGuards_1 (by decide) rfl ?_
  refine V.iconst (v := nI 0) dX2_fewestGuards_3 (by decide) ?_
  refine V.ist5 dX2_fewestGuards_4 (by decide) rfl ?_
  refine s2_few_a l d h n w K cl P pn hw col dd hcol hdd ?_ 7 0 (by omega)
  refine V.bipush (v := -4) dX2_fewestGuards_43 (by decide) ?_
  refine V.ist5 dX2_fewestGuards_45 (by decide) rfl ?_
  refine V.iconst (v := nI 0) dX2_fewestGuards_47 (by decide) ?_
  refine V.ist6 dX2_fewestGuards_48 (by decide) rfl ?_
  exact s2_few_b l d h n w K col dd hcol hdd 128 0 (-4) rfl (by omega)
set_option maxRecDepth 20000 in
set_option maxHeartbeats 4000000 in
theorem x_guards (l : Launch) (d : Nat) (h : MH) (n : Nat) (K : KK) (b : Bool) (KI : KK) (S : SS) (m : Nat) (hc : ClsAt h K b KI S) (hT : TI K m) (x y w0 : Int32) : Sp l mX5_guards (d + 3) [.ref 0, .int x, .int y, .int w0] h n 0 0 (Pv (guardsV K x y w0) h n) := by
  have hD := hT.1
  have hm := hD.1.1
  have hm10 := hD.1.2.1
  obtain ⟨ht0, ⟨sq, hsq, esq⟩, ⟨cl, P, pn, hw, hPR⟩, ⟨Km, clm, Pm, pm, hwm⟩, ⟨KJ, clJ, PJ, pJ, hwJ, hJ⟩, ⟨rb, rx, ry, hrd⟩, hsc, ⟨co, hco⟩, ⟨se, hse⟩, hsh⟩ := id hc
  obtain ⟨hw0, ⟨gr, hgr, egr⟩, ⟨ru, hru, eru⟩, ⟨pq, hpf, epf⟩, hpl, ⟨fl, hfl, efl⟩, ⟨ca, hca, eca⟩, ⟨wa, hwa⟩, hpp, hhd⟩ := id hw
  show V _ _ _ _ [some (.ref 0), some (.int x), some (.int y), some (.int w0), none] _ _ _ _ _ _
  refine V.iload_n dX5_guards_0 rfl ?_
  refine V.callSv [_] dX5_guards_1 lk_X5_132 rfl (Nat.le_of_ble_eq_true rfl) (Nat.le_of_ble_eq_true rfl) (s5_isSide _ _ _ _ _) ?_
  refine V.if_eqB (tgt := 26) dX5_guards_4 (by decide) (fun c4 => ?_) (fun c4 => ?_)
  · refine V.iconst (v := -1) dX5_guards_26 (by decide) ?_
    exact V.iretP (by exact dX5_guards_27) rfl (by simp only [guardsV, c4, not_true_eq_false, not_false_eq_true, if_true, if_false, decide_true, decide_false, Bool.and_true, Bool.and_false, Bool.true_and, Bool.false_and, Bool.or_true, Bool.or_false, Bool.true_or, Bool.false_or, Bool.not_true, Bool.not_false, and_true, and_false, true_and, false_and, or_true, or_false, true_or, false_or, bIt, bIf, Bool.false_eq_true, reduceCtorEq]) rfl
  · refine V.iload_n dX5_guards_7 rfl ?_
    refine V.iconst (v := nI 0) dX5_guards_8 (by decide) ?_
    refine V.bipush (v := nI 6) dX5_guards_9 (by decide) ?_
    refine V.callSv [_, _, _] dX5_guards_11 lk_X5_71 rfl (Nat.le_of_ble_eq_true rfl) (Nat.le_of_ble_eq_true rfl) (s5_within _ _ _ _ _ _ _) ?_
    refine V.if_eqB (tgt := 26) dX5_guards_14 (by decide) (fun c14 => ?_) (fun c14 => ?_)
    · refine V.iconst (v := -1) dX5_guards_26 (by decide) ?_
      exact V.iretP (by exact dX5_guards_27) rfl (by simp only [guardsV, c4, c14, not_true_eq_false, not_false_eq_true, if_true, if_false, decide_true, decide_false, Bool.and_true, Bool.and_false, Bool.true_and, Bool.false_and, Bool.or_true, Bool.or_false, Bool.true_or, Bool.false_or, Bool.not_true, Bool.not_false, and_true, and_false, true_and, false_and, or_true, or_false, true_or, false_or, bIt, bIf, Bool.false_eq_true, reduceCtorEq]) rfl
    · refine V.iload_n dX5_guards_17 rfl ?_
      refine V.iconst (v := nI 0) dX5_guards_18 (by decide) ?_
      refine V.iconst (v := nI 1) dX5_guards_19 (by decide) ?_
      refine V.callSv [_, _, _] dX5_guards_20 lk_X5_71 rfl (Nat.le_of_ble_eq_true rfl) (Nat.le_of_ble_eq_true rfl) (s5_within _ _ _ _ _ _ _) ?_
      refine V.if_neB (tgt := 28) dX5_guards_23 (by decide) (fun c23 => ?_) (fun c23 => ?_)
      · obtain ⟨dd, hdd, rfl⟩ := wi_ex (by decide) c14
        refine V.aload_n dX5_guards_28 rfl ?_
        refine V.getf dX5_guards_29 fl_X5_38 ht0 rfl ?_
        refine V.aload_n dX5_guards_32 rfl ?_
        refine V.getf dX5_guards_33 fl_X5_18 ht0 rfl ?_
        refine V.iload_n dX5_guards_36 rfl ?_
        refine V.if_ne (tgt := 44) dX5_guards_37 (by decide) (fun c37 => ?_) (fun c37 => ?_)
        · refine V.bipush (v := nI 6) dX5_guards_44 (by decide) ?_
          refine V.iload_n dX5_guards_46 rfl ?_
          first
          | (refine V.callVv [_, _, _] dX5_guards_47 lk_X5_229 rfl (Nat.le_of_ble_eq_true rfl) (Nat.le_of_ble_eq_true rfl) hsc rfl (s2_fewest _ _ _ _ _ _ _ _ _ hw 5 dd (by omega) (by omega)) ?_
             have hv : guardsV K x (nI dd) w0 = gvO w0 (gdS (gok K 5 dd) 128) := by
               rw [guardsV, c4, c14, c23, if_pos (show (true && (true && true)) = true from rfl), if_pos c37, clampI (show dd < 2147483648 by omega)]
             rw [hv]
             refine V.ist4 dX5_guards_50 (by decide) rfl ?_
             refine V.iload dX5_guards_52 rfl ?_
             refine V.bipush (v := -4) dX5_guards_54 (by decide) ?_
             cases hb : gdS (gok K 5 dd) 128 with
             | none =>
               refine V.icmp_ne (tgt := 62) dX5_guards_56 (by decide) (fun q => absurd rfl q) (fun _ => ?_)
               refine V.bipush (v := -4) dX5_guards_59 (by decide) ?_
               exact V.iretP (by exact dX5_guards_61) rfl rfl rfl
             | some b0 =>
               have hblt := gdS_lt _ _ _ hb
               refine V.icmp_ne (tgt := 62) dX5_guards_56 (by decide) (fun _ => ?_) (fun q => absurd q.symm (neg4_ne (by omega)))
               refine V.iload_n dX5_guards_62 rfl ?_
               refine V.if_ne (tgt := 74) dX5_guards_63 (by decide) (fun c63 => ?_) (fun c63 => ?_)
               · refine V.iload dX5_guards_74 rfl ?_
                 exact V.iretP (by exact dX5_guards_76) rfl (by show nI b0 = (if w0 = 0 then nI (pcN b0) else nI b0); rw [if_neg c63]) rfl
               · refine V.iload dX5_guards_66 rfl ?_
                 refine V.callSv [_] dX5_guards_68 lk_X5_233 rfl (Nat.le_of_ble_eq_true rfl) (Nat.le_of_ble_eq_true rfl) (j6_bitCount _ _ _ _ b0 (by omega)) ?_
                 refine V.goto (tgt := 76) dX5_guards_71 (by decide) ?_
                 exact V.iretP (by exact dX5_guards_76) rfl (by show nI (pcN b0) = (if w0 = 0 then nI (pcN b0) else nI b0); rw [if_pos c63]) rfl)
          | (refine V.callVv [_, _, _] dX5_guards_47 lk_X5_229 rfl (Nat.le_of_ble_eq_true rfl) (Nat.le_of_ble_eq_true rfl) hsc rfl (s2_fewest _ _ _ _ _ _ _ _ _ hw 6 dd (by omega) (by omega)) ?_
             have hv : guardsV K x (nI dd) w0 = gvO w0 (gdS (gok K 6 dd) 128) := by
               rw [guardsV, c4, c14, c23, if_pos (show (true && (true && true)) = true from rfl), if_neg c37, clampI (show dd < 2147483648 by omega)]
             rw [hv]
             refine V.ist4 dX5_guards_50 (by decide) rfl ?_
             refine V.iload dX5_guards_52 rfl ?_
             refine V.bipush (v := -4) dX5_guards_54 (by decide) ?_
             cases hb : gdS (gok K 6 dd) 128 with
             | none =>
               refine V.icmp_ne (tgt := 62) dX5_guards_56 (by decide) (fun q => absurd rfl q) (fun _ => ?_)
               refine V.bipush (v := -4) dX5_guards_59 (by decide) ?_
               exact V.iretP (by exact dX5_guards_61) rfl rfl rfl
             | some b0 =>
               have hblt := gdS_lt _ _ _ hb
               refine V.icmp_ne (tgt := 62) dX5_guards_56 (by decide) (fun _ => ?_) (fun q => absurd q.symm (neg4_ne (by omega)))
               refine V.iload_n dX5_guards_62 rfl ?_
               refine V.if_ne (tgt := 74) dX5_guards_63 (by decide) (fun c63 => ?_) (fun c63 => ?_)
               · refine V.iload dX5_guards_74 rfl ?_
                 exact V.iretP (by exact dX5_guards_76) rfl (by show nI b0 = (if w0 = 0 then nI (pcN b0) else nI b0); rw [if_neg c63]) rfl
               · refine V.iload dX5_guards_66 rfl ?_
                 refine V.callSv [_] dX5_guards_68 lk_X5_233 rfl (Nat.le_of_ble_eq_true rfl) (Nat.le_of_ble_eq_true rfl) (j6_bitCount _ _ _ _ b0 (by omega)) ?_
                 refine V.goto (tgt := 76) dX5_guards_71 (by decide) ?_
                 exact V.iretP (by exact dX5_guards_76) rfl (by show nI (pcN b0) = (if w0 = 0 then nI (pcN b0) else nI b0); rw [if_pos c63]) rfl)
        · refine V.iconst (v := nI 5) dX5_guards_40 (by decide) ?_
          refine V.goto (tgt := 46) dX5_guards_41 (by decide) ?_
          refine V.iload_n dX5_guards_46 rfl ?_
          first
          | (refine V.callVv [_, _, _] dX5_guards_47 lk_X5_229 rfl (Nat.le_of_ble_eq_true rfl) (Nat.le_of_ble_eq_true rfl) hsc rfl (s2_fewest _ _ _ _ _ _ _ _ _ hw 5 dd (by omega) (by omega)) ?_
             have hv : guardsV K x (nI dd) w0 = gvO w0 (gdS (gok K 5 dd) 128) := by
               rw [guardsV, c4, c14, c23, if_pos (show (true && (true && true)) = true from rfl), if_pos c37, clampI (show dd < 2147483648 by omega)]
             rw [hv]
             refine V.ist4 dX5_guards_50 (by decide) rfl ?_
             refine V.iload dX5_guards_52 rfl ?_
             refine V.bipush (v := -4) dX5_guards_54 (by decide) ?_
             cases hb : gdS (gok K 5 dd) 128 with
             | none =>
               refine V.icmp_ne (tgt := 62) dX5_guards_56 (by decide) (fun q => absurd rfl q) (fun _ => ?_)
               refine V.bipush (v := -4) dX5_guards_59 (by decide) ?_
               exact V.iretP (by exact dX5_guards_61) rfl rfl rfl
             | some b0 =>
               have hblt := gdS_lt _ _ _ hb
               refine V.icmp_ne (tgt := 62) dX5_guards_56 (by decide) (fun _ => ?_) (fun q => absurd q.symm (neg4_ne (by omega)))
               refine V.iload_n dX5_guards_62 rfl ?_
               refine V.if_ne (tgt := 74) dX5_guards_63 (by decide) (fun c63 => ?_) (fun c63 => ?_)
               · refine V.iload dX5_guards_74 rfl ?_
                 exact V.iretP (by exact dX5_guards_76) rfl (by show nI b0 = (if w0 = 0 then nI (pcN b0) else nI b0); rw [if_neg c63]) rfl
               · refine V.iload dX5_guards_66 rfl ?_
                 refine V.callSv [_] dX5_guards_68 lk_X5_233 rfl (Nat.le_of_ble_eq_true rfl) (Nat.le_of_ble_eq_true rfl) (j6_bitCount _ _ _ _ b0 (by omega)) ?_
                 refine V.goto (tgt := 76) dX5_guards_71 (by decide) ?_
                 exact V.iretP (by exact dX5_guards_76) rfl (by show nI (pcN b0) = (if w0 = 0 then nI (pcN b0) else nI b0); rw [if_pos c63]) rfl)
          | (refine V.callVv [_, _, _] dX5_guards_47 lk_X5_229 rfl (Nat.le_of_ble_eq_true rfl) (Nat.le_of_ble_eq_true rfl) hsc rfl (s2_fewest _ _ _ _ _ _ _ _ _ hw 6 dd (by omega) (by omega)) ?_
             have hv : guardsV K x (nI dd) w0 = gvO w0 (gdS (gok K 6 dd) 128) := by
               rw [guardsV, c4, c14, c23, if_pos (show (true && (true && true)) = true from rfl), if_neg c37, clampI (show dd < 2147483648 by omega)]
             rw [hv]
             refine V.ist4 dX5_guards_50 (by decide) rfl ?_
             refine V.iload dX5_guards_52 rfl ?_
             refine V.bipush (v := -4) dX5_guards_54 (by decide) ?_
             cases hb : gdS (gok K 6 dd) 128 with
             | none =>
               refine V.icmp_ne (tgt := 62) dX5_guards_56 (by decide) (fun q => absurd rfl q) (fun _ => ?_)
               refine V.bipush (v := -4) dX5_guards_59 (by decide) ?_
               exact V.iretP (by exact dX5_guards_61) rfl rfl rfl
             | some b0 =>
               have hblt := gdS_lt _ _ _ hb
               refine V.icmp_ne (tgt := 62) dX5_guards_56 (by decide) (fun _ => ?_) (fun q => absurd q.symm (neg4_ne (by omega)))
               refine V.iload_n dX5_guards_62 rfl ?_
               refine V.if_ne (tgt := 74) dX5_guards_63 (by decide) (fun c63 => ?_) (fun c63 => ?_)
               · refine V.iload dX5_guards_74 rfl ?_
                 exact V.iretP (by exact dX5_guards_76) rfl (by show nI b0 = (if w0 = 0 then nI (pcN b0) else nI b0); rw [if_neg c63]) rfl
               · refine V.iload dX5_guards_66 rfl ?_
                 refine V.callSv [_] dX5_guards_68 lk_X5_233 rfl (Nat.le_of_ble_eq_true rfl) (Nat.le_of_ble_eq_true rfl) (j6_bitCount _ _ _ _ b0 (by omega)) ?_
                 refine V.goto (tgt := 76) dX5_guards_71 (by decide) ?_
                 exact V.iretP (by exact dX5_guards_76) rfl (by show nI (pcN b0) = (if w0 = 0 then nI (pcN b0) else nI b0); rw [if_pos c63]) rfl)
      · refine V.iconst (v := -1) dX5_guards_26 (by decide) ?_
        exact V.iretP (by exact dX5_guards_27) rfl (by simp only [guardsV, c4, c14, c23, not_true_eq_false, not_false_eq_true, if_true, if_false, decide_true, decide_false, Bool.and_true, Bool.and_false, Bool.true_and, Bool.false_and, Bool.or_true, Bool.or_false, Bool.true_or, Bool.false_or, Bool.not_true, Bool.not_false, and_true, and_false, true_and, false_and, or_true, or_false, true_or, false_or, bIt, bIf, Bool.false_eq_true, reduceCtorEq]) rfl
set_option maxRecDepth 20000 in
set_option maxHeartbeats 4000000 in
theorem m_gd_a (l : Launch) (d : Nat) (h : MH) (n : Nat) (K : KK) (b : Bool) (th po ba en tt : Int32) (hm0 : h 78 = some (.inr (6, moF b th po ba en tt))) (ha : h 79 = some (kc K)) (col dd : Nat) (hcol : col < 12) (x w0 : Int32) {Q : Option Value → MH → Nat → Prop} (kk : V l mX6_guards (d + 2) 92 [some (.ref 78), some (.int x), some (.int (nI dd)), some (.int w0), some (.int (nI col)), some (.int (nI (opN K col 7))), none, none] [] h n 0 0 Q) : ∀ (r y : Nat), y + r = 7 → V l mX6_guards (d + 2) 49 [some (.ref 78), some (.int x), some (.int (nI dd)), some (.int w0), some (.int (nI col)), some (.int (nI (opN K col y))), some (.int (nI y)), none] [] h n 0 0 Q := by
  intro r
  induction r with
  | zero =>
    intro y hy
    refine V.iload dX6_guards_49 rfl ?_
    refine V.bipush (v := nI 7) dX6_guards_51 (by decide) ?_
    refine V.icmp_geN (tgt := 92) dX6_guards_53 (by decide) (by omega) (by omega) (fun _ => ?_) (fun q => absurd q (by omega))
    have hy7 : y = 7 := by omega
    subst hy7
    exact V.drop 6 kk
  | succ r ih =>
    intro y hy
    refine V.iload dX6_guards_49 rfl ?_
    refine V.bipush (v := nI 7) dX6_guards_51 (by decide) ?_
    refine V.icmp_geN (tgt := 92) dX6_guards_53 (by decide) (by omega) (by omega) (fun q => absurd q (by omega)) (fun _ => ?_)
    refine V.iload dX6_guards_56 rfl ?_
    refine V.aload_n dX6_guards_58 rfl ?_
    refine V.getf dX6_guards_59 fl_X6_9 hm0 rfl ?_
    refine V.bipush (v := nI 12) dX6_guards_62 (by decide) ?_
    refine V.iload dX6_guards_64 rfl ?_
    refine V.imulN dX6_guards_66 ?_
    refine V.iload dX6_guards_67 rfl ?_
    refine V.iaddN dX6_guards_69 ?_
    refine V.ialdN dX6_guards_70 ha (by omega) (by decide) ?_
    refine V.iconst (v := nI 3) dX6_guards_71 (by decide) ?_
    refine V.icmp_ne (tgt := 79) dX6_guards_72 (by decide) (fun c72 => ?_) (fun c72 => ?_)
    · refine V.iconst (v := nI 1) dX6_guards_79 (by decide) ?_
      refine V.iload dX6_guards_80 rfl ?_
      refine V.ishl dX6_guards_82 ?_
      have hlt := opN_lt K col y
      have h64 : opN K col y < 64 := Nat.lt_of_lt_of_le hlt (Nat.pow_le_pow_right (n := 2) (by omega) (show y ≤ 6 by omega))
      refine V.ior dX6_guards_83 ?_
      first
      | (rw [or_is y (by omega) _ h64 hlt]
         refine V.ist5 dX6_guards_84 (by decide) rfl ?_
         refine V.inN6 dX6_guards_86 (by decide) rfl ?_
         refine V.goto (tgt := 49) dX6_guards_89 (by decide) ?_
         exact V.ls (by rw [opN, if_neg c72]) (ih (y + 1) (by omega)))
      | (rw [show nI (opN K col y) ||| nI 0 = nI (opN K col y) from Int32.or_zero]
         refine V.ist5 dX6_guards_84 (by decide) rfl ?_
         refine V.inN6 dX6_guards_86 (by decide) rfl ?_
         refine V.goto (tgt := 49) dX6_guards_89 (by decide) ?_
         exact V.ls (by simp only [opN, if_pos c72, Nat.add_zero]) (ih (y + 1) (by omega)))
    · refine V.iconst (v := nI 0) dX6_guards_75 (by decide) ?_
      refine V.goto (tgt := 83) dX6_guards_76 (by decide) ?_
      have hlt := opN_lt K col y
      have h64 : opN K col y < 64 := Nat.lt_of_lt_of_le hlt (Nat.pow_le_pow_right (n := 2) (by omega) (show y ≤ 6 by omega))
      refine V.ior dX6_guards_83 ?_
      first
      | (rw [or_is y (by omega) _ h64 hlt]
         refine V.ist5 dX6_guards_84 (by decide) rfl ?_
         refine V.inN6 dX6_guards_86 (by decide) rfl ?_
         refine V.goto (tgt := 49) dX6_guards_89 (by decide) ?_
         exact V.ls (by rw [opN, if_neg c72]) (ih (y + 1) (by omega)))
      | (rw [show nI (opN K col y) ||| nI 0 = nI (opN K col y) from Int32.or_zero]
         refine V.ist5 dX6_guards_84 (by decide) rfl ?_
         refine V.inN6 dX6_guards_86 (by decide) rfl ?_
         refine V.goto (tgt := 49) dX6_guards_89 (by decide) ?_
         exact V.ls (by simp only [opN, if_pos c72, Nat.add_zero]) (ih (y + 1) (by omega)))
set_option maxRecDepth 20000 in
set_option maxHeartbeats 4000000 in
theorem m_gd_b (l : Launch) (d : Nat) (h : MH) (n : Nat) (K : KK) (b : Bool) (th po ba en tt : Int32) (hm0 : h 78 = some (.inr (6, moF b th po ba en tt))) (ha : h 79 = some (kc K)) (col dd : Nat) (hcol : col < 12) (hdd : dd < 7) (x w0 : Int32) {Q : Option Value → MH → Nat → Prop} (kk : ∀ best, best = gI (gdS (gok K col dd) 128) → V l mX6_guards (d + 2) 157 [some (.ref 78), some (.int x), some (.int (nI dd)), some (.int w0), some (.int (nI col)), some (.int (nI (opN K col 7))), some (.int best), none] [] h n 0 0 Q) : ∀ (r r0 : Nat) (best : Int32), best = gI (gdS (gok K col dd) r0) → r0 + r = 128 → V l mX6_guards (d + 2) 99 [some (.ref 78), some (.int x), some (.int (nI dd)), some (.int w0), some (.int (nI col)), some (.int (nI (opN K col 7))), some (.int best), some (.int (nI r0))] [] h n 0 0 Q := by
  intro r
  induction r with
  | zero =>
    intro r0 best hbest hr
    refine V.iload dX6_guards_99 rfl ?_
    refine V.sipush (v := nI 128) dX6_guards_101 (by decide) ?_
    refine V.icmp_geN (tgt := 157) dX6_guards_104 (by decide) (by omega) (by omega) (fun _ => ?_) (fun q => absurd q (by omega))
    exact V.drop 7 (kk best (by rw [hbest, show r0 = 128 by omega]))
  | succ r ih =>
    intro r0 best hbest hr
    refine V.iload dX6_guards_99 rfl ?_
    refine V.sipush (v := nI 128) dX6_guards_101 (by decide) ?_
    refine V.icmp_geN (tgt := 157) dX6_guards_104 (by decide) (by omega) (by omega) (fun q => absurd q (by omega)) (fun _ => ?_)
    refine V.iload dX6_guards_107 rfl ?_
    refine V.iload dX6_guards_109 rfl ?_
    refine V.iconst (v := -1) dX6_guards_111 (by decide) ?_
    refine V.ixor dX6_guards_112 ?_
    refine V.iand dX6_guards_113 ?_
    refine V.if_ne (tgt := 151) dX6_guards_114 (by decide) (fun c114 => ?_) (fun c114 => ?_)
    · refine V.inN7 dX6_guards_151 (by decide) rfl ?_
      refine V.goto (tgt := 99) dX6_guards_154 (by decide) ?_
      exact ih (r0 + 1) best (by rw [gdS, if_neg (by rw [gok, decide_eq_false c114]; simp), hbest]) (by omega)
    · refine V.aload_n dX6_guards_117 rfl ?_
      refine V.iload dX6_guards_118 rfl ?_
      refine V.iload dX6_guards_120 rfl ?_
      refine V.iload_n dX6_guards_122 rfl ?_
      refine V.callVv [_, _, _] dX6_guards_123 lk_X6_290 rfl (Nat.le_of_ble_eq_true rfl) (Nat.le_of_ble_eq_true rfl) hm0 rfl (s6_guardsAll _ _ _ _ K b th po ba en tt hm0 ha col r0 dd hcol (by omega) hdd) ?_
      refine V.if_eqB (tgt := 151) dX6_guards_126 (by decide) (fun c126 => ?_) (fun c126 => ?_)
      · refine V.inN7 dX6_guards_151 (by decide) rfl ?_
        refine V.goto (tgt := 99) dX6_guards_154 (by decide) ?_
        exact ih (r0 + 1) best (by rw [gdS, if_neg (by rw [gok, c126]; simp), hbest]) (by omega)
      · refine V.iload dX6_guards_129 rfl ?_
        cases hb : gdS (gok K col dd) r0 with
        | none =>
          have hfw : fwB r0 (gdS (gok K col dd) r0) = true := by rw [hb]; rfl
          have hb4 : best = -4 := by rw [hbest, hb]; rfl
          refine V.if_lt (tgt := 147) dX6_guards_131 (by decide) (fun _ => ?_) (fun q => absurd (by rw [hb4]; decide) q)
          refine V.iload dX6_guards_147 rfl ?_
          refine V.ist6 dX6_guards_149 (by decide) rfl ?_
          refine V.inN7 dX6_guards_151 (by decide) rfl ?_
          refine V.goto (tgt := 99) dX6_guards_154 (by decide) ?_
          exact ih (r0 + 1) (nI r0) (by rw [gdS_st _ _ true hfw, if_pos (by rw [gok, decide_eq_true c114, c126]; rfl)]; rfl) (by omega)
        | some b0 =>
          have hb4 : best = nI b0 := by rw [hbest, hb]; rfl
          have hblt := gdS_lt _ _ _ hb
          refine V.if_lt (tgt := 147) dX6_guards_131 (by decide) (fun q => absurd (hb4 ▸ q) (nI_pos (by omega))) (fun _ => ?_)
          refine V.iload dX6_guards_134 rfl ?_
          refine V.callSv [_] dX6_guards_136 lk_X6_293 rfl (Nat.le_of_ble_eq_true rfl) (Nat.le_of_ble_eq_true rfl) (s6_bits _ _ _ _ r0 (by omega)) ?_
          refine V.iload dX6_guards_139 rfl ?_
          refine V.st (show [Value.int best, Value.int (nI (pcN r0))] = [Value.int (nI b0), Value.int (nI (pcN r0))] by rw [hb4]) ?_
          refine V.callSv [_] dX6_guards_141 lk_X6_293 rfl (Nat.le_of_ble_eq_true rfl) (Nat.le_of_ble_eq_true rfl) (s6_bits _ _ _ _ b0 (by omega)) ?_
          have p1 := pc_le r0
          have p2 := pc_le b0
          refine V.icmp_geN (tgt := 151) dX6_guards_144 (by decide) (by omega) (by omega) (fun c144 => ?_) (fun c144 => ?_)
          · refine V.inN7 dX6_guards_151 (by decide) rfl ?_
            refine V.goto (tgt := 99) dX6_guards_154 (by decide) ?_
            exact ih (r0 + 1) best (by rw [gdS_st _ _ false (by rw [hb]; exact decide_eq_false (by omega)), if_neg (by simp), hbest]) (by omega)
          · refine V.iload dX6_guards_147 rfl ?_
            refine V.ist6 dX6_guards_149 (by decide) rfl ?_
            refine V.inN7 dX6_guards_151 (by decide) rfl ?_
            refine V.goto (tgt := 99) dX6_guards_154 (by decide) ?_
            exact ih (r0 + 1) (nI r0) (by rw [gdS_st _ _ true (by rw [hb]; exact decide_eq_true c144), if_pos (by rw [gok, decide_eq_true c114, c126]; rfl)]; rfl) (by omega)
set_option maxRecDepth 20000 in
set_option maxHeartbeats 4000000 in
theorem m_guards (l : Launch) (d : Nat) (h : MH) (n : Nat) (K : KK) (b : Bool) (KI : KK) (S : SS) (m : Nat) (hc : ModAt h K b KI S) (hT : TI K m) (x y w0 : Int32) : Sp l mX6_guards (d + 2) [.ref 78, .int x, .int y, .int w0] h n 0 0 (Pv (guardsV K x y w0) h n) := by
  have hD := hT.1
  have hm := hD.1.1
  have hm10 := hD.1.2.1
  obtain ⟨⟨th, po, ba, en, tt, hm0⟩, ha, hb, ⟨Km, hmi⟩, ⟨Kr, hre⟩, h83, h84, h85, h86, h87, h88, ⟨X89, h89⟩, ⟨X90, h90⟩, ⟨X91, h91⟩, ⟨X92, h92⟩⟩ := id hc
  show V _ _ _ _ [some (.ref 78), some (.int x), some (.int y), some (.int w0), none, none, none, none] _ _ _ _ _ _
  refine V.iload_n dX6_guards_0 rfl ?_
  refine V.callSv [_] dX6_guards_1 lk_X6_223 rfl (Nat.le_of_ble_eq_true rfl) (Nat.le_of_ble_eq_true rfl) (s6_isSide _ _ _ _ _) ?_
  refine V.if_eqB (tgt := 29) dX6_guards_4 (by decide) (fun c4 => ?_) (fun c4 => ?_)
  · refine V.iconst (v := -1) dX6_guards_29 (by decide) ?_
    exact V.iretP (by exact dX6_guards_30) rfl (by simp only [guardsV, c4, not_true_eq_false, not_false_eq_true, if_true, if_false, decide_true, decide_false, Bool.and_true, Bool.and_false, Bool.true_and, Bool.false_and, Bool.or_true, Bool.or_false, Bool.true_or, Bool.false_or, Bool.not_true, Bool.not_false, and_true, and_false, true_and, false_and, or_true, or_false, true_or, false_or, bIt, bIf, Bool.false_eq_true, reduceCtorEq]) rfl
  · refine V.iload_n dX6_guards_7 rfl ?_
    refine V.i2l dX6_guards_8 ?_
    refine V.lconst (v := 0) dX6_guards_9 (by decide) ?_
    refine V.ldc2 dX6_guards_10 cn_X6_206 ?_
    refine V.callSv [_, _, _] dX6_guards_13 lk_X6_62 rfl (Nat.le_of_ble_eq_true rfl) (Nat.le_of_ble_eq_true rfl) (s6_isInC _ _ _ (nI 0) (nI 6) (by decide) (by decide) _ _) ?_
    refine V.if_eqB (tgt := 29) dX6_guards_16 (by decide) (fun c16 => ?_) (fun c16 => ?_)
    · refine V.iconst (v := -1) dX6_guards_29 (by decide) ?_
      exact V.iretP (by exact dX6_guards_30) rfl (by simp only [guardsV, c4, c16, not_true_eq_false, not_false_eq_true, if_true, if_false, decide_true, decide_false, Bool.and_true, Bool.and_false, Bool.true_and, Bool.false_and, Bool.or_true, Bool.or_false, Bool.true_or, Bool.false_or, Bool.not_true, Bool.not_false, and_true, and_false, true_and, false_and, or_true, or_false, true_or, false_or, bIt, bIf, Bool.false_eq_true, reduceCtorEq]) rfl
    · refine V.iload_n dX6_guards_19 rfl ?_
      refine V.i2l dX6_guards_20 ?_
      refine V.lconst (v := 0) dX6_guards_21 (by decide) ?_
      refine V.lconst (v := 1) dX6_guards_22 (by decide) ?_
      refine V.callSv [_, _, _] dX6_guards_23 lk_X6_62 rfl (Nat.le_of_ble_eq_true rfl) (Nat.le_of_ble_eq_true rfl) (s6_isInC _ _ _ (nI 0) (nI 1) (by decide) (by decide) _ _) ?_
      refine V.if_neB (tgt := 31) dX6_guards_26 (by decide) (fun c26 => ?_) (fun c26 => ?_)
      · obtain ⟨dd, hdd, rfl⟩ := wi_ex (by decide) c16
        refine V.iload_n dX6_guards_31 rfl ?_
        refine V.if_ne (tgt := 39) dX6_guards_32 (by decide) (fun c32 => ?_) (fun c32 => ?_)
        · refine V.bipush (v := nI 6) dX6_guards_39 (by decide) ?_
          first
          | (refine V.ist4 dX6_guards_41 (by decide) rfl ?_
             refine V.iconst (v := nI 0) dX6_guards_43 (by decide) ?_
             refine V.ist5 dX6_guards_44 (by decide) rfl ?_
             refine V.iconst (v := nI 0) dX6_guards_46 (by decide) ?_
             refine V.ist6 dX6_guards_47 (by decide) rfl ?_
             have hv : guardsV K x (nI dd) w0 = gvO w0 (gdS (gok K 5 dd) 128) := by
               rw [guardsV, c4, c16, c26, if_pos (show (true && (true && true)) = true from rfl), if_pos c32, clampI (show dd < 2147483648 by omega)]
             rw [hv]
             refine m_gd_a l d h n K b th po ba en tt hm0 ha 5 dd (by omega) x w0 ?_ 7 0 (by omega)
             refine V.bipush (v := -4) dX6_guards_92 (by decide) ?_
             refine V.ist6 dX6_guards_94 (by decide) rfl ?_
             refine V.iconst (v := nI 0) dX6_guards_96 (by decide) ?_
             refine V.ist7 dX6_guards_97 (by decide) rfl ?_
             refine m_gd_b l d h n K b th po ba en tt hm0 ha 5 dd (by omega) (by omega) x w0 (fun best hbest => ?_) 128 0 (-4) rfl (by omega)
             refine V.iload dX6_guards_157 rfl ?_
             obtain ⟨ew, hew, rfl⟩ := wi_ex (by decide) c26
             cases hb : gdS (gok K 5 dd) 128 with
             | none =>
               have hb4 : best = -4 := by rw [hbest, hb]; rfl
               refine V.if_lt (tgt := 167) dX6_guards_159 (by decide) (fun _ => ?_) (fun q => absurd (by rw [hb4]; decide) q)
               refine V.iload dX6_guards_167 rfl ?_
               refine V.goto (tgt := 177) dX6_guards_169 (by decide) ?_
               exact V.iretP (by exact dX6_guards_177) rfl hb4 rfl
             | some b0 =>
               have hb4 : best = nI b0 := by rw [hbest, hb]; rfl
               have hblt := gdS_lt _ _ _ hb
               refine V.if_lt (tgt := 167) dX6_guards_159 (by decide) (fun q => absurd (hb4 ▸ q) (nI_pos (by omega))) (fun _ => ?_)
               refine V.iload_n dX6_guards_162 rfl ?_
               refine V.iconst (v := nI 1) dX6_guards_163 (by decide) ?_
               refine V.icmp_neN (tgt := 172) dX6_guards_164 (by decide) (by omega) (by omega) (fun c164 => ?_) (fun c164 => ?_)
               · have he0 : ew = 0 := by omega
                 subst he0
                 refine V.iload dX6_guards_172 rfl ?_
                 refine V.st (show [Value.int best] = [Value.int (nI b0)] by rw [hb4]) ?_
                 refine V.callSv [_] dX6_guards_174 lk_X6_293 rfl (Nat.le_of_ble_eq_true rfl) (Nat.le_of_ble_eq_true rfl) (s6_bits _ _ _ _ b0 (by omega)) ?_
                 exact V.iretP (by exact dX6_guards_177) rfl rfl rfl
               · subst c164
                 refine V.iload dX6_guards_167 rfl ?_
                 refine V.goto (tgt := 177) dX6_guards_169 (by decide) ?_
                 exact V.iretP (by exact dX6_guards_177) rfl hb4 rfl)
          | (refine V.ist4 dX6_guards_41 (by decide) rfl ?_
             refine V.iconst (v := nI 0) dX6_guards_43 (by decide) ?_
             refine V.ist5 dX6_guards_44 (by decide) rfl ?_
             refine V.iconst (v := nI 0) dX6_guards_46 (by decide) ?_
             refine V.ist6 dX6_guards_47 (by decide) rfl ?_
             have hv : guardsV K x (nI dd) w0 = gvO w0 (gdS (gok K 6 dd) 128) := by
               rw [guardsV, c4, c16, c26, if_pos (show (true && (true && true)) = true from rfl), if_neg c32, clampI (show dd < 2147483648 by omega)]
             rw [hv]
             refine m_gd_a l d h n K b th po ba en tt hm0 ha 6 dd (by omega) x w0 ?_ 7 0 (by omega)
             refine V.bipush (v := -4) dX6_guards_92 (by decide) ?_
             refine V.ist6 dX6_guards_94 (by decide) rfl ?_
             refine V.iconst (v := nI 0) dX6_guards_96 (by decide) ?_
             refine V.ist7 dX6_guards_97 (by decide) rfl ?_
             refine m_gd_b l d h n K b th po ba en tt hm0 ha 6 dd (by omega) (by omega) x w0 (fun best hbest => ?_) 128 0 (-4) rfl (by omega)
             refine V.iload dX6_guards_157 rfl ?_
             obtain ⟨ew, hew, rfl⟩ := wi_ex (by decide) c26
             cases hb : gdS (gok K 6 dd) 128 with
             | none =>
               have hb4 : best = -4 := by rw [hbest, hb]; rfl
               refine V.if_lt (tgt := 167) dX6_guards_159 (by decide) (fun _ => ?_) (fun q => absurd (by rw [hb4]; decide) q)
               refine V.iload dX6_guards_167 rfl ?_
               refine V.goto (tgt := 177) dX6_guards_169 (by decide) ?_
               exact V.iretP (by exact dX6_guards_177) rfl hb4 rfl
             | some b0 =>
               have hb4 : best = nI b0 := by rw [hbest, hb]; rfl
               have hblt := gdS_lt _ _ _ hb
               refine V.if_lt (tgt := 167) dX6_guards_159 (by decide) (fun q => absurd (hb4 ▸ q) (nI_pos (by omega))) (fun _ => ?_)
               refine V.iload_n dX6_guards_162 rfl ?_
               refine V.iconst (v := nI 1) dX6_guards_163 (by decide) ?_
               refine V.icmp_neN (tgt := 172) dX6_guards_164 (by decide) (by omega) (by omega) (fun c164 => ?_) (fun c164 => ?_)
               · have he0 : ew = 0 := by omega
                 subst he0
                 refine V.iload dX6_guards_172 rfl ?_
                 refine V.st (show [Value.int best] = [Value.int (nI b0)] by rw [hb4]) ?_
                 refine V.callSv [_] dX6_guards_174 lk_X6_293 rfl (Nat.le_of_ble_eq_true rfl) (Nat.le_of_ble_eq_true rfl) (s6_bits _ _ _ _ b0 (by omega)) ?_
                 exact V.iretP (by exact dX6_guards_177) rfl rfl rfl
               · subst c164
                 refine V.iload dX6_guards_167 rfl ?_
                 refine V.goto (tgt := 177) dX6_guards_169 (by decide) ?_
                 exact V.iretP (by exact dX6_guards_177) rfl hb4 rfl)
        · refine V.iconst (v := nI 5) dX6_guards_35 (by decide) ?_
          refine V.goto (tgt := 41) dX6_guards_36 (by decide) ?_
          first
          | (refine V.ist4 dX6_guards_41 (by decide) rfl ?_
             refine V.iconst (v := nI 0) dX6_guards_43 (by decide) ?_
             refine V.ist5 dX6_guards_44 (by decide) rfl ?_
             refine V.iconst (v := nI 0) dX6_guards_46 (by decide) ?_
             refine V.ist6 dX6_guards_47 (by decide) rfl ?_
             have hv : guardsV K x (nI dd) w0 = gvO w0 (gdS (gok K 5 dd) 128) := by
               rw [guardsV, c4, c16, c26, if_pos (show (true && (true && true)) = true from rfl), if_pos c32, clampI (show dd < 2147483648 by omega)]
             rw [hv]
             refine m_gd_a l d h n K b th po ba en tt hm0 ha 5 dd (by omega) x w0 ?_ 7 0 (by omega)
             refine V.bipush (v := -4) dX6_guards_92 (by decide) ?_
             refine V.ist6 dX6_guards_94 (by decide) rfl ?_
             refine V.iconst (v := nI 0) dX6_guards_96 (by decide) ?_
             refine V.ist7 dX6_guards_97 (by decide) rfl ?_
             refine m_gd_b l d h n K b th po ba en tt hm0 ha 5 dd (by omega) (by omega) x w0 (fun best hbest => ?_) 128 0 (-4) rfl (by omega)
             refine V.iload dX6_guards_157 rfl ?_
             obtain ⟨ew, hew, rfl⟩ := wi_ex (by decide) c26
             cases hb : gdS (gok K 5 dd) 128 with
             | none =>
               have hb4 : best = -4 := by rw [hbest, hb]; rfl
               refine V.if_lt (tgt := 167) dX6_guards_159 (by decide) (fun _ => ?_) (fun q => absurd (by rw [hb4]; decide) q)
               refine V.iload dX6_guards_167 rfl ?_
               refine V.goto (tgt := 177) dX6_guards_169 (by decide) ?_
               exact V.iretP (by exact dX6_guards_177) rfl hb4 rfl
             | some b0 =>
               have hb4 : best = nI b0 := by rw [hbest, hb]; rfl
               have hblt := gdS_lt _ _ _ hb
               refine V.if_lt (tgt := 167) dX6_guards_159 (by decide) (fun q => absurd (hb4 ▸ q) (nI_pos (by omega))) (fun _ => ?_)
               refine V.iload_n dX6_guards_162 rfl ?_
               refine V.iconst (v := nI 1) dX6_guards_163 (by decide) ?_
               refine V.icmp_neN (tgt := 172) dX6_guards_164 (by decide) (by omega) (by omega) (fun c164 => ?_) (fun c164 => ?_)
               · have he0 : ew = 0 := by omega
                 subst he0
                 refine V.iload dX6_guards_172 rfl ?_
                 refine V.st (show [Value.int best] = [Value.int (nI b0)] by rw [hb4]) ?_
                 refine V.callSv [_] dX6_guards_174 lk_X6_293 rfl (Nat.le_of_ble_eq_true rfl) (Nat.le_of_ble_eq_true rfl) (s6_bits _ _ _ _ b0 (by omega)) ?_
                 exact V.iretP (by exact dX6_guards_177) rfl rfl rfl
               · subst c164
                 refine V.iload dX6_guards_167 rfl ?_
                 refine V.goto (tgt := 177) dX6_guards_169 (by decide) ?_
                 exact V.iretP (by exact dX6_guards_177) rfl hb4 rfl)
          | (refine V.ist4 dX6_guards_41 (by decide) rfl ?_
             refine V.iconst (v := nI 0) dX6_guards_43 (by decide) ?_
             refine V.ist5 dX6_guards_44 (by decide) rfl ?_
             refine V.iconst (v := nI 0) dX6_guards_46 (by decide) ?_
             refine V.ist6 dX6_guards_47 (by decide) rfl ?_
             have hv : guardsV K x (nI dd) w0 = gvO w0 (gdS (gok K 6 dd) 128) := by
               rw [guardsV, c4, c16, c26, if_pos (show (true && (true && true)) = true from rfl), if_neg c32, clampI (show dd < 2147483648 by omega)]
             rw [hv]
             refine m_gd_a l d h n K b th po ba en tt hm0 ha 6 dd (by omega) x w0 ?_ 7 0 (by omega)
             refine V.bipush (v := -4) dX6_guards_92 (by decide) ?_
             refine V.ist6 dX6_guards_94 (by decide) rfl ?_
             refine V.iconst (v := nI 0) dX6_guards_96 (by decide) ?_
             refine V.ist7 dX6_guards_97 (by decide) rfl ?_
             refine m_gd_b l d h n K b th po ba en tt hm0 ha 6 dd (by omega) (by omega) x w0 (fun best hbest => ?_) 128 0 (-4) rfl (by omega)
             refine V.iload dX6_guards_157 rfl ?_
             obtain ⟨ew, hew, rfl⟩ := wi_ex (by decide) c26
             cases hb : gdS (gok K 6 dd) 128 with
             | none =>
               have hb4 : best = -4 := by rw [hbest, hb]; rfl
               refine V.if_lt (tgt := 167) dX6_guards_159 (by decide) (fun _ => ?_) (fun q => absurd (by rw [hb4]; decide) q)
               refine V.iload dX6_guards_167 rfl ?_
               refine V.goto (tgt := 177) dX6_guards_169 (by decide) ?_
               exact V.iretP (by exact dX6_guards_177) rfl hb4 rfl
             | some b0 =>
               have hb4 : best = nI b0 := by rw [hbest, hb]; rfl
               have hblt := gdS_lt _ _ _ hb
               refine V.if_lt (tgt := 167) dX6_guards_159 (by decide) (fun q => absurd (hb4 ▸ q) (nI_pos (by omega))) (fun _ => ?_)
               refine V.iload_n dX6_guards_162 rfl ?_
               refine V.iconst (v := nI 1) dX6_guards_163 (by decide) ?_
               refine V.icmp_neN (tgt := 172) dX6_guards_164 (by decide) (by omega) (by omega) (fun c164 => ?_) (fun c164 => ?_)
               · have he0 : ew = 0 := by omega
                 subst he0
                 refine V.iload dX6_guards_172 rfl ?_
                 refine V.st (show [Value.int best] = [Value.int (nI b0)] by rw [hb4]) ?_
                 refine V.callSv [_] dX6_guards_174 lk_X6_293 rfl (Nat.le_of_ble_eq_true rfl) (Nat.le_of_ble_eq_true rfl) (s6_bits _ _ _ _ b0 (by omega)) ?_
                 exact V.iretP (by exact dX6_guards_177) rfl rfl rfl
               · subst c164
                 refine V.iload dX6_guards_167 rfl ?_
                 refine V.goto (tgt := 177) dX6_guards_169 (by decide) ?_
                 exact V.iretP (by exact dX6_guards_177) rfl hb4 rfl)
      · refine V.iconst (v := -1) dX6_guards_29 (by decide) ?_
        exact V.iretP (by exact dX6_guards_30) rfl (by simp only [guardsV, c4, c16, c26, not_true_eq_false, not_false_eq_true, if_true, if_false, decide_true, decide_false, Bool.and_true, Bool.and_false, Bool.true_and, Bool.false_and, Bool.or_true, Bool.or_false, Bool.true_or, Bool.false_or, Bool.not_true, Bool.not_false, and_true, and_false, true_and, false_and, or_true, or_false, true_or, false_or, bIt, bIf, Bool.false_eq_true, reduceCtorEq]) rfl
