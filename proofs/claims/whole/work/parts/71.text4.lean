/-- what a statement of a text makes of a wood, if it can be; how the class's method ends -/
def Cq (w : Nat) (res : Option KK) (h : MH) (n : Nat) : Option Value → MH → Nat → Prop := fun r h1 n1 => r = some (.int (bI res.isSome)) ∧ n1 = n ∧ Out h h1 w ∧ ∃ (K1 : KK) (cl1 P1 : Nat → Int32) (pn1 : Nat), WoodAt h1 w K1 cl1 P1 pn1 ∧ ∀ K2, res = some K2 → K1 = K2 ∧ PR K2 P1 pn1
def eRule (j : Nat) (v lo hi : Int32) (K : KK) : Option KK := if wi v lo hi = true then some (upd K (84 + j) v) else none
set_option maxRecDepth 20000 in
set_option maxHeartbeats 4000000 in
theorem s4_setRule (l : Launch) (d : Nat) (h : MH) (n w : Nat) (K : KK) (cl P : Nat → Int32) (pn : Nat) (hw : WoodAt h w K cl P pn) (hPR : PR K P pn) (j : Nat) (hj : j < 6) (v lo hi : Int32) : Sp l mX4_setRule (d + 1) [.ref w, .int (nI j), .int v, .int lo, .int hi] h n 0 0 (Cq w (eRule j v lo hi K) h n) := by
  obtain ⟨hw0, ⟨gr, hgr, egr⟩, ⟨ru, hru, eru⟩, ⟨pq, hpf, epf⟩, hpl, ⟨fl, hfl, efl⟩, ⟨ca, hca, eca⟩, ⟨wa, hwa⟩, hpp, hhd⟩ := id hw
  show V _ _ _ _ [some (.ref w), some (.int (nI j)), some (.int v), some (.int lo), some (.int hi)] _ _ _ _ _ _
  refine V.iload_n dX4_setRule_0 rfl ?_
  refine V.iload_n dX4_setRule_1 rfl ?_
  refine V.iload dX4_setRule_2 rfl ?_
  refine V.callSv [_, _, _] dX4_setRule_4 lk_X4_73 rfl (Nat.le_of_ble_eq_true rfl) (Nat.le_of_ble_eq_true rfl) (s5_within _ _ _ _ _ _ _) ?_
  refine V.if_neB (tgt := 12) dX4_setRule_7 (by decide) (fun c7 => ?_) (fun c7 => ?_)
  · refine V.aload_n dX4_setRule_12 rfl ?_
    refine V.getf dX4_setRule_13 fl_X4_15 hw0 rfl ?_
    refine V.iload_n dX4_setRule_16 rfl ?_
    refine V.iload_n dX4_setRule_17 rfl ?_
    refine V.iastN dX4_setRule_18 hru hj (by decide) ?_
    refine V.iconst (v := nI 1) dX4_setRule_19 (by decide) ?_
    have hr : eRule j v lo hi K = some (upd K (84 + j) v) := by rw [eRule, if_pos c7]
    rw [hr]
    exact V.iret (by exact dX4_setRule_20) rfl (bI_narrow true) ⟨rfl, rfl, (Out.rf h w).set _ _ (by omega) (by omega), _, cl, P, pn, hw.rule hru j v hj, fun K2 e => by rw [← Option.some.inj e]; exact ⟨rfl, PR_lo hPR (fun i h1 h2 => pk_un (by omega))⟩⟩
  · refine V.iconst (v := nI 0) dX4_setRule_10 (by decide) ?_
    have hr : eRule j v lo hi K = none := by rw [eRule, c7]; rfl
    rw [hr]
    exact V.iret (by exact dX4_setRule_11) rfl (bI_narrow false) ⟨rfl, rfl, Out.rf h w, K, cl, P, pn, hw, fun K2 e => by cases e⟩
/-- whether a home is legal -/
def hmB (K : KK) (s c : Int32) : Bool := decide (hfc c = s) && (!decide (K c.toNatClampNeg = nI 3) && !ring K s c)
def hmA (K : KK) (m : Nat) : Bool := aB (fun p => hmB K (gP K p 0) (gP K p 3)) m
def begB (K : KK) : Bool := decide (0 < K 91)
def eRing (v : Int32) (K : KK) (m : Nat) : Option KK := if (!begB K && (decide (v < nI 4) && hmA (upd K 84 v) m)) = true then some (upd K 84 v) else none
/-- all homes are legal -/
def HL (K : KK) (m : Nat) : Prop := ∀ p, p < m → hfc (gP K p 3) = gP K p 0 ∧ ¬ K (gP K p 3).toNatClampNeg = nI 3 ∧ ring K (gP K p 0) (gP K p 3) = false
theorem hm_ring {K : KK} {m p : Nat} (h : HL K m) (hp : p < m) (v : Int32) (hc : cellv (gP K p 3)) : hmB (upd K 84 v) (gP (upd K 84 v) p 0) (gP (upd K 84 v) p 3) = !ring (upd K 84 v) (gP K p 0) (gP K p 3) := by
  have h1 := h p hp
  have h2 := cell_lt hc
  rw [gP_lo _ _ _ _ _ (by omega), gP_lo _ _ _ _ _ (by omega), hmB, decide_eq_true h1.1, pk_un (by omega), decide_eq_false h1.2.1]
  rfl
set_option maxRecDepth 20000 in
set_option maxHeartbeats 4000000 in
theorem s4_setRing_loop (l : Launch) (d : Nat) (h0 h : MH) (n w : Nat) (K : KK) (cl P : Nat → Int32) (pn m : Nat) (hD : KD K m) (hHL : HL K m) (hPR : PR K P pn) (v : Int32) (hbg : begB K = false) (hv4 : decide (v < nI 4) = true) (hw1 : WoodAt h w (upd K 84 v) cl P pn) (ho : Out h0 h w) : ∀ (r p : Nat), aB (fun p => hmB (upd K 84 v) (gP (upd K 84 v) p 0) (gP (upd K 84 v) p 3)) p = true → p + r = m → V l mX4_setRing (d + 2) 27 [some (.ref w), some (.int v), some (.int (nI p))] [] h n 0 0 (Cq w (eRing v K m) h0 n) := by
  have hm10 := hD.1.2.1
  have hm1 : upd K 84 v 90 = nI m := (pk_un (by omega)).trans hD.1.1
  obtain ⟨pq1, hpf1, epf1⟩ := hw1.2.2.2.1
  intro r
  induction r with
  | zero =>
    intro p hh hp
    refine V.iload_n dX4_setRing_27 rfl ?_
    refine V.aload_n dX4_setRing_28 rfl ?_
    refine V.getf dX4_setRing_29 fl_X4_51 hw1.1 rfl ?_
    rw [hm1]
    refine V.icmp_geN (tgt := 68) dX4_setRing_32 (by decide) (by omega) (by omega) (fun _ => ?_) (fun q => absurd q (by omega))
    refine V.iconst (v := nI 1) dX4_setRing_68 (by decide) ?_
    have hpm : p = m := by omega
    subst hpm
    exact V.iret (by exact dX4_setRing_69) rfl (bI_narrow true) (by
      rw [show eRing v K p = some (upd K 84 v) from by rw [eRing, hbg, hv4, show hmA (upd K 84 v) p = true from hh]; rfl]
      exact ⟨rfl, rfl, ho, _, cl, P, pn, hw1, fun K2 e => by rw [← Option.some.inj e]; exact ⟨rfl, PR_lo hPR (fun i h1 h2 => pk_un (by omega))⟩⟩)
  | succ r ih =>
    intro p hh hp
    refine V.iload_n dX4_setRing_27 rfl ?_
    refine V.aload_n dX4_setRing_28 rfl ?_
    refine V.getf dX4_setRing_29 fl_X4_51 hw1.1 rfl ?_
    rw [hm1]
    refine V.icmp_geN (tgt := 68) dX4_setRing_32 (by decide) (by omega) (by omega) (fun q => absurd q (by omega)) (fun _ => ?_)
    refine V.aload_n dX4_setRing_35 rfl ?_
    refine V.aload_n dX4_setRing_36 rfl ?_
    refine V.getf dX4_setRing_37 fl_X4_20 hw1.1 rfl ?_
    refine V.iload_n dX4_setRing_40 rfl ?_
    refine V.aaldN dX4_setRing_41 (Or.inl rfl) hpf1 (by omega) (by decide) (epf1 _ (by omega)) ?_
    refine V.getf dX4_setRing_42 fl_X4_104 (hw1.2.2.2.2.2.2.2.2.1 p (by omega)) rfl ?_
    rw [gP_lo _ _ _ _ _ (by omega)]
    refine V.aload_n dX4_setRing_45 rfl ?_
    refine V.getf dX4_setRing_46 fl_X4_20 hw1.1 rfl ?_
    refine V.iload_n dX4_setRing_49 rfl ?_
    refine V.aaldN dX4_setRing_50 (Or.inl rfl) hpf1 (by omega) (by decide) (epf1 _ (by omega)) ?_
    refine V.getf dX4_setRing_51 fl_X4_101 (hw1.2.2.2.2.2.2.2.2.1 p (by omega)) rfl ?_
    rw [gP_lo _ _ _ _ _ (by omega)]
    refine V.callVv [_, _] dX4_setRing_54 lk_X4_107 rfl (Nat.le_of_ble_eq_true rfl) (Nat.le_of_ble_eq_true rfl) hw1.1 rfl (s4_isInRing _ _ _ _ _ _ _ _ _ hw1 _ _) ?_
    refine V.if_eqB (tgt := 62) dX4_setRing_57 (by decide) (fun c57 => ?_) (fun c57 => ?_)
    · refine V.inN2 dX4_setRing_62 (by decide) rfl ?_
      refine V.goto (tgt := 27) dX4_setRing_65 (by decide) ?_
      exact ih (p + 1) (by rw [aB, hh, hm_ring hHL (by omega) v (hD.1.2.2.2.2.2.2.2 p (by omega)), c57]; rfl) (by omega)
    · refine V.iconst (v := nI 0) dX4_setRing_60 (by decide) ?_
      exact V.iret (by exact dX4_setRing_61) rfl (bI_narrow false) (by
        rw [show eRing v K m = none from by rw [eRing, hmA, aB_no (show p < m by omega) (by rw [hm_ring hHL (by omega) v (hD.1.2.2.2.2.2.2.2 p (by omega)), c57]; rfl)]; simp]
        exact ⟨rfl, rfl, ho, _, cl, P, pn, hw1, fun K2 e => by cases e⟩)
set_option maxRecDepth 20000 in
set_option maxHeartbeats 4000000 in
theorem s4_setRing (l : Launch) (d : Nat) (h : MH) (n w : Nat) (K : KK) (cl P : Nat → Int32) (pn : Nat) (hw : WoodAt h w K cl P pn) (m : Nat) (hD : KD K m) (hHL : HL K m) (hPR : PR K P pn) (v : Nat) (hv : v < 10) : Sp l mX4_setRing (d + 2) [.ref w, .int (nI v)] h n 0 0 (Cq w (eRing (nI v) K m) h n) := by
  obtain ⟨hw0, ⟨gr, hgr, egr⟩, ⟨ru, hru, eru⟩, ⟨pq, hpf, epf⟩, hpl, ⟨fl, hfl, efl⟩, ⟨ca, hca, eca⟩, ⟨wa, hwa⟩, hpp, hhd⟩ := id hw
  show V _ _ _ _ [some (.ref w), some (.int (nI v)), none] _ _ _ _ _ _
  refine V.aload_n dX4_setRing_0 rfl ?_
  refine V.getf dX4_setRing_1 fl_X4_58 hw0 rfl ?_
  refine V.if_gt (tgt := 16) dX4_setRing_4 (by decide) (fun c4 => ?_) (fun c4 => ?_)
  · refine V.iconst (v := nI 0) dX4_setRing_16 (by decide) ?_
    first
    | (exact V.iret (by exact dX4_setRing_17) rfl (bI_narrow false) (by
         rw [show eRing (nI v) K m = none from by rw [eRing, begB, decide_eq_true c4]; rfl]
         exact ⟨rfl, rfl, Out.rf h w, K, cl, P, pn, hw, fun K2 e => by cases e⟩))
    | (exact V.iret (by exact dX4_setRing_17) rfl (bI_narrow false) (by
         rw [show eRing (nI v) K m = none from by rw [eRing, decide_eq_false (show ¬ nI v < nI 4 from fun q => absurd ((nI_ltI (by omega) (by omega)).mp q) (by have hq := of_decide_eq_false ((wi_nI (by omega) (by omega)).symm.trans c13); omega))]; simp]
         exact ⟨rfl, rfl, Out.rf h w, K, cl, P, pn, hw, fun K2 e => by cases e⟩))
  · refine V.iload_n dX4_setRing_7 rfl ?_
    refine V.iconst (v := nI 0) dX4_setRing_8 (by decide) ?_
    refine V.iconst (v := nI 3) dX4_setRing_9 (by decide) ?_
    refine V.callSv [_, _, _] dX4_setRing_10 lk_X4_73 rfl (Nat.le_of_ble_eq_true rfl) (Nat.le_of_ble_eq_true rfl) (s5_within _ _ _ _ _ _ _) ?_
    refine V.if_neB (tgt := 18) dX4_setRing_13 (by decide) (fun c13 => ?_) (fun c13 => ?_)
    · have hv3 : v ≤ 3 := of_decide_eq_true ((wi_nI (by omega) (by omega)).symm.trans c13)
      refine V.aload_n dX4_setRing_18 rfl ?_
      refine V.getf dX4_setRing_19 fl_X4_15 hw0 rfl ?_
      refine V.iconst (v := nI 0) dX4_setRing_22 (by decide) ?_
      refine V.iload_n dX4_setRing_23 rfl ?_
      refine V.iastN dX4_setRing_24 hru (by omega) (by decide) ?_
      refine V.iconst (v := nI 0) dX4_setRing_25 (by decide) ?_
      refine V.ist2 dX4_setRing_26 (by decide) rfl ?_
      exact s4_setRing_loop l d h _ n w K cl P pn m hD hHL hPR (nI v) (by rw [begB]; exact decide_eq_false c4) (decide_eq_true ((nI_ltI (by omega) (by omega)).mpr (by omega))) (hw.rule hru 0 (nI v) (by omega)) ((Out.rf h w).set _ _ (by omega) (by omega)) m 0 rfl (by omega)
    · refine V.iconst (v := nI 0) dX4_setRing_16 (by decide) ?_
      first
      | (exact V.iret (by exact dX4_setRing_17) rfl (bI_narrow false) (by
           rw [show eRing (nI v) K m = none from by rw [eRing, begB, decide_eq_true c4]; rfl]
           exact ⟨rfl, rfl, Out.rf h w, K, cl, P, pn, hw, fun K2 e => by cases e⟩))
      | (exact V.iret (by exact dX4_setRing_17) rfl (bI_narrow false) (by
           rw [show eRing (nI v) K m = none from by rw [eRing, decide_eq_false (show ¬ nI v < nI 4 from fun q => absurd ((nI_ltI (by omega) (by omega)).mp q) (by have hq := of_decide_eq_false ((wi_nI (by omega) (by omega)).symm.trans c13); omega))]; simp]
           exact ⟨rfl, rfl, Out.rf h w, K, cl, P, pn, hw, fun K2 e => by cases e⟩))
