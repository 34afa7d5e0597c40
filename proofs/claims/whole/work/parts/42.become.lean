set_option maxRecDepth 20000 in
set_option maxHeartbeats 4000000 in
theorem s0_become (l : Launch) (d : Nat) (h : MH) (n q r : Nat) (x0 x1 x2 x3 x4 x5 x6 x7 : Value) (y0 y1 y2 y3 y4 y5 : Int32) (y6 y7 : Bool) (hn : r ≠ q) (hq : h q = some (.inr (0, [x0, x1, x2, x3, x4, x5, x6, x7]))) (hr : h r = some (.inr (0, [.int y0, .int y1, .int y2, .int y3, .int y4, .int y5, .int (bI y6), .int (bI y7)]))) : Sp l mX0_become d [.ref q, .ref r] h n 0 0 (Pu (hset h q (.inr (0, [.int y0, .int y1, .int y2, .int y3, .int y4, .int y5, .int (bI y6), .int (bI y7)]))) n) := by
  show V _ _ _ _ [some (.ref q), some (.ref r)] _ _ _ _ _ _
  refine V.aload_n dX0_become_0 rfl ?_
  refine V.aload_n dX0_become_1 rfl ?_
  refine V.getf dX0_become_2 fl_X0_7 hr rfl ?_
  refine V.putf dX0_become_5 fp_X0_7 hq (Nat.le_of_ble_eq_true rfl) (fun _ => ⟨rfl, rfl⟩) ?_
  refine V.aload_n dX0_become_8 rfl ?_
  refine V.aload_n dX0_become_9 rfl ?_
  refine V.getf dX0_become_10 fl_X0_13 (o_ne hr hn) rfl ?_
  refine V.putf dX0_become_13 fp_X0_13 (hset_self _ _ _) (Nat.le_of_ble_eq_true rfl) (fun _ => ⟨rfl, rfl⟩) ?_
  rw [hset_hset]
  refine V.aload_n dX0_become_16 rfl ?_
  refine V.aload_n dX0_become_17 rfl ?_
  refine V.getf dX0_become_18 fl_X0_16 (o_ne hr hn) rfl ?_
  refine V.putf dX0_become_21 fp_X0_16 (hset_self _ _ _) (Nat.le_of_ble_eq_true rfl) (fun _ => ⟨rfl, rfl⟩) ?_
  rw [hset_hset]
  refine V.aload_n dX0_become_24 rfl ?_
  refine V.aload_n dX0_become_25 rfl ?_
  refine V.getf dX0_become_26 fl_X0_19 (o_ne hr hn) rfl ?_
  refine V.putf dX0_become_29 fp_X0_19 (hset_self _ _ _) (Nat.le_of_ble_eq_true rfl) (fun _ => ⟨rfl, rfl⟩) ?_
  rw [hset_hset]
  refine V.aload_n dX0_become_32 rfl ?_
  refine V.aload_n dX0_become_33 rfl ?_
  refine V.getf dX0_become_34 fl_X0_22 (o_ne hr hn) rfl ?_
  refine V.putf dX0_become_37 fp_X0_22 (hset_self _ _ _) (Nat.le_of_ble_eq_true rfl) (fun _ => ⟨rfl, rfl⟩) ?_
  rw [hset_hset]
  refine V.aload_n dX0_become_40 rfl ?_
  refine V.aload_n dX0_become_41 rfl ?_
  refine V.getf dX0_become_42 fl_X0_25 (o_ne hr hn) rfl ?_
  refine V.putf dX0_become_45 fp_X0_25 (hset_self _ _ _) (Nat.le_of_ble_eq_true rfl) (fun _ => ⟨rfl, rfl⟩) ?_
  rw [hset_hset]
  refine V.aload_n dX0_become_48 rfl ?_
  refine V.aload_n dX0_become_49 rfl ?_
  refine V.getf dX0_become_50 fl_X0_28 (o_ne hr hn) rfl ?_
  refine V.putf dX0_become_53 fp_X0_28 (hset_self _ _ _) (Nat.le_of_ble_eq_true rfl) (fun _ => ⟨bI_narrow _, bI_fits _⟩) ?_
  rw [hset_hset]
  refine V.aload_n dX0_become_56 rfl ?_
  refine V.aload_n dX0_become_57 rfl ?_
  refine V.getf dX0_become_58 fl_X0_32 (o_ne hr hn) rfl ?_
  refine V.putf dX0_become_61 fp_X0_32 (hset_self _ _ _) (Nat.le_of_ble_eq_true rfl) (fun _ => ⟨bI_narrow _, bI_fits _⟩) ?_
  rw [hset_hset]
  exact V.vretP (by exact dX0_become_64) rfl rfl
/-- while it becomes another: the places that the loop over its players leaves -/
def Wc (h h1 : MH) (w v i : Nat) : Prop := (∀ p, p < i → h1 (w + 8 + p) = h (v + 8 + p)) ∧ ∀ q, q < w + 8 ∨ w + 8 + i ≤ q → h1 q = h q
set_option maxRecDepth 20000 in
set_option maxHeartbeats 4000000 in
theorem s4_become_a (l : Launch) (d n w v pn pw : Nat) (h : MH) (K Kw : KK) (cl P clw Pw : Nat → Int32) (hd : w + 18 ≤ v ∨ v + 18 ≤ w) (hw : WoodAt h w Kw clw Pw pw) (hv : WoodAt h v K cl P pn) {Q : Option Value → MH → Nat → Prop} (kk : ∀ h1 : MH, Wc h h1 w v 10 → V l mX4_become (d + 1) 62 [some (.ref w), some (.ref v), none] [] h1 n 0 0 Q) : ∀ (r i : Nat) (h1 : MH), Wc h h1 w v i → i + r = 10 → V l mX4_become (d + 1) 35 [some (.ref w), some (.ref v), some (.int (nI i))] [] h1 n 0 0 Q := by
  obtain ⟨hw0, ⟨gr, hgr, egr⟩, ⟨ru, hru, eru⟩, ⟨pq, hpf, epf⟩, hpl, ⟨fl, hfl, efl⟩, ⟨ca, hca, eca⟩, ⟨wa, hwa⟩, hpp, hhd⟩ := id hw
  obtain ⟨iv0, ⟨gv, igr, jgr⟩, ⟨rv, iru, jru⟩, ⟨pv, ipf, jpf⟩, ipl, ⟨fv, ifl, jfl⟩, ⟨cv, ica, jca⟩, ⟨xv, iwa⟩, ipp, ihd⟩ := id hv
  intro r
  induction r with
  | zero =>
    intro i h1 hc hi
    refine V.iload_n dX4_become_35 rfl ?_
    refine V.bipush (v := nI 10) dX4_become_36 (by decide) ?_
    refine V.icmp_geN (tgt := 62) dX4_become_38 (by decide) (by omega) (by omega) (fun _ => ?_) (fun q => absurd q (by omega))
    exact V.drop 2 (kk h1 (by rw [show 10 = i by omega]; exact hc))
  | succ r ih =>
    intro i h1 hc hi
    refine V.iload_n dX4_become_35 rfl ?_
    refine V.bipush (v := nI 10) dX4_become_36 (by decide) ?_
    refine V.icmp_geN (tgt := 62) dX4_become_38 (by decide) (by omega) (by omega) (fun q => absurd q (by omega)) (fun _ => ?_)
    refine V.aload_n dX4_become_41 rfl ?_
    refine V.getf dX4_become_42 fl_X4_20 ((hc.2 _ (by omega)).trans hw0) rfl ?_
    refine V.iload_n dX4_become_45 rfl ?_
    refine V.aaldN dX4_become_46 (Or.inl rfl) ((hc.2 _ (by omega)).trans hpf) (by omega) (by decide) (epf _ (by omega)) ?_
    refine V.aload_n dX4_become_47 rfl ?_
    refine V.getf dX4_become_48 fl_X4_20 ((hc.2 _ (by omega)).trans iv0) rfl ?_
    refine V.iload_n dX4_become_51 rfl ?_
    refine V.aaldN dX4_become_52 (Or.inl rfl) ((hc.2 _ (by omega)).trans ipf) (by omega) (by decide) (jpf _ (by omega)) ?_
    have e1 : h1 (w + 8 + i) = some (.inr (0, pF Kw clw i)) := (hc.2 _ (by omega)).trans (hpp i (by omega))
    have e2 : h1 (v + 8 + i) = some (.inr (0, pF K cl i)) := (hc.2 _ (by omega)).trans (ipp i (by omega))
    refine V.callVu [_] dX4_become_53 lk_X4_47 rfl (Nat.le_of_ble_eq_true rfl) (Nat.le_of_ble_eq_true rfl) e1 rfl (s0_become _ _ _ _ _ _ _ _ _ _ _ _ _ _ _ _ _ _ _ _ _ _ (by omega) e1 e2) ?_
    refine V.inN2 dX4_become_56 (by decide) rfl ?_
    refine V.goto (tgt := 35) dX4_become_59 (by decide) ?_
    refine ih (i + 1) _ ⟨fun p hp => ?_, fun q hq => ?_⟩ (by omega)
    · by_cases y : p = i
      · subst y
        rw [hset_self, ipp p (by omega)]
        rfl
      · rw [hset_ne _ _ (by omega)]; exact hc.1 p (by omega)
    · rw [hset_ne _ _ (by omega)]; exact hc.2 q (by omega)
