theorem roleU_gP (K : KK) (p : Nat) (k g : Int32) (q u : Nat) (hu : u < 7) : gP (roleU K p k g) q u = if q = p ∧ u = 2 then g else if q = p ∧ u = 1 then k else gP K q u := by
  rw [roleU, gP_upd _ _ _ _ _ _ (by omega) hu, gP_upd _ _ _ _ _ _ (by omega) hu]
theorem roleU_lo (K : KK) (p : Nat) (k g : Int32) (j : Nat) (hj : j < 114) : roleU K p k g j = K j := by rw [roleU, pk_un (by omega), pk_un (by omega)]
theorem bgS_up (X : KK) (z : Int32) (i : Nat) (v : Int32) (hi : 114 ≤ i) : upd (bgS X z) i v = bgS (upd X i v) z := by
  funext j
  by_cases q : j = i
  · subst q; rw [pk_us, bgS_j _ _ _ (by omega), pk_us]
  · rw [pk_un q]
    by_cases y : j < 91 ∨ 100 ≤ j
    · rw [bgS_j _ _ _ y, bgS_j _ _ _ y, pk_un q]
    · rcases (show j = 91 ∨ j = 92 ∨ j = 93 ∨ j = 94 ∨ j = 95 ∨ j = 96 ∨ j = 97 ∨ j = 98 ∨ j = 99 by omega) with rfl | rfl | rfl | rfl | rfl | rfl | rfl | rfl | rfl <;> rfl
theorem bgn_role (K : KK) (m p : Nat) (k g z : Int32) : bgn (roleU K p k g) m z = roleU (bgn K m z) p k g := by
  have e : roleU (bgS (bgI K m) z) p k g = bgS (roleU (bgI K m) p k g) z := by
    unfold roleU
    rw [bgS_up _ _ _ _ (by omega), bgS_up _ _ _ _ (by omega)]
  rw [bgn, bgn, e]
  refine kk_cases (fun j hj => ?_) (fun q u hu => ?_) _ _ rfl
  · rw [bgI_lo _ _ _ (by omega), roleU_lo _ _ _ _ _ (by omega), roleU_lo _ _ _ _ _ (by omega), bgI_lo _ _ _ (by omega)]
  · simp only [roleU_gP _ _ _ _ _ _ hu, bgI_gP _ _ _ _ hu, roleU_gP _ _ _ _ _ _ (show 5 < 7 by omega), roleU_gP _ _ _ _ _ _ (show 3 < 7 by omega)]
    by_cases y : q = p
    · subst y
      rcases (show u = 0 ∨ u = 1 ∨ u = 2 ∨ u = 3 ∨ u = 4 ∨ u = 5 ∨ u = 6 by omega) with rfl | rfl | rfl | rfl | rfl | rfl | rfl <;> simp
    · simp [y]
theorem roleU_roleU (K : KK) (p : Nat) (k g k2 : Int32) : roleU (roleU K p k g) p k2 g = roleU K p k2 g := by
  funext j
  unfold roleU
  by_cases q : j = 114 + 7 * p + 2
  · subst q; rw [pk_us, pk_us]
  · rw [pk_un q, pk_un q]
    by_cases y : j = 114 + 7 * p + 1
    · subst y; rw [pk_us, pk_us]
    · rw [pk_un y, pk_un y, pk_un q, pk_un y]
theorem KD_role {K : KK} {m p : Nat} (h : KD K m) (k : Nat) (g : Int32) (hk : k < 8) : KD (roleU K p (nI k) g) m := by
  obtain ⟨⟨a1, a2, a3, a4, a5, a6, a7, a8⟩, ⟨b1, b2⟩, ⟨c1, c2⟩, e, gg⟩ := h
  have hs : ∀ q u, u < 7 → u ≠ 1 → u ≠ 2 → gP (roleU K p (nI k) g) q u = gP K q u := fun q u hu h1 h2 => by rw [roleU_gP _ _ _ _ _ _ hu, if_neg (by omega), if_neg (by omega)]
  have hl : ∀ j, j < 114 → roleU K p (nI k) g j = K j := fun j hj => roleU_lo _ _ _ _ _ hj
  refine ⟨⟨(hl _ (by omega)).trans a1, a2, fun q hq => by rw [hs q 0 (by omega) (by omega) (by omega)]; exact a3 q hq, fun i hi => by rw [hl _ (by omega)]; exact a4 i hi, fun q hq y => by rw [hs _ 5 (by omega) (by omega) (by omega)] at y; rw [hs _ 4 (by omega) (by omega) (by omega)]; exact a5 q hq y, fun q hq => ?_, fun i j hi hj => by rw [hl _ (by omega)]; exact a7 i j hi hj, fun q hq => by rw [hs _ 3 (by omega) (by omega) (by omega)]; exact a8 q hq⟩, ⟨fun i hi => by rw [hl _ (by omega)]; exact b1 i hi, fun q i hq hi y => by rw [hs _ 0 (by omega) (by omega) (by omega)] at y; rw [hl _ (by omega)]; exact b2 q i hq hi y⟩, ⟨fun i hi => by rw [hl _ (by omega)]; exact c1 i hi, by rw [hl _ (by omega)]; exact c2⟩, fun q i hq hi y => by rw [hs _ 5 (by omega) (by omega) (by omega)] at y; rw [hl _ (by omega)]; exact e q i hq hi y, by rw [hl _ (by omega)]; exact gg⟩
  rw [roleU_gP _ _ _ _ _ _ (by omega), if_neg (by omega)]
  split
  · exact ⟨k, hk, rfl⟩
  · exact a6 q hq
theorem bgn_s (K : KK) (m : Nat) (z : Int32) (p u : Nat) (hu : u < 4) : gP (bgn K m z) p u = gP K p u := by
  rw [bgn_gP _ _ _ _ _ (by omega)]
  split
  · rw [if_neg (by omega)]
    split
    · rfl
    · rw [if_neg (by omega), if_neg (by omega)]
  · rfl
theorem fin_gP (K : KK) (m : Nat) (z : Int32) (p u : Nat) (hu : u < 4) : gP (fin K m z) p u = gP K p u := ((Sta_play 600 _ (Sta_rf m (bgn K m z))).2.1 p u hu).trans (bgn_s K m z p u hu)
theorem fin_90 (K : KK) (m : Nat) (z : Int32) : fin K m z 90 = K 90 := ((Sta_play 600 _ (Sta_rf m (bgn K m z))).1 90 (by omega)).trans (bgn_lo _ _ _ _ (by omega))
theorem PR_fin {K : KK} {P : Nat → Int32} {pn : Nat} (h : PR K P pn) (m : Nat) (z : Int32) : PR (fin K m z) P pn := PR_sta (PR_bgn h m z) (Sta_play 600 _ (Sta_rf m (bgn K m z)))
/-- the best of the kinds below k -/
def bS (f : Nat → Int32) : Nat → Nat × Int32
  | 0 => (0, -2147483648)
  | k + 1 => if (bS f k).2 < f k then (k, f k) else bS f k
def ownV (K : KK) (m p N : Nat) (fg z : Int32) (k : Nat) : Int32 := if gP K p 0 = 0 then agL (roleU K p (nI k) fg) m z N else -(agL (roleU K p (nI k) fg) m z N)
def bestV (K : KK) (m : Nat) (x fg y z w : Int32) : Int32 := if (plB K x && (wi fg (nI 0) (nI 9) && (wi y (nI 1) (nI 5) && wi w (nI 0) (nI 1)))) = true then (if w = 0 then nI (bS (ownV K m x.toNatClampNeg y.toNatClampNeg fg z) 8).1 else (bS (ownV K m x.toNatClampNeg y.toNatClampNeg fg z) 8).2) else -1000000001
theorem own_lo (K : KK) (m p N : Nat) (fg z : Int32) (k : Nat) (hN : N ≤ 10) : (-2147483648 : Int32) < ownV K m p N fg z k := by
  have hb := agL_b (roleU K p (nI k) fg) m z N (by omega)
  have h0 : (-2147483648 : Int32).toInt = -2147483648 := by decide
  rw [Int32.lt_iff_toInt_lt, h0]
  unfold ownV
  split
  · omega
  · rw [Int32.toInt_neg, Int.bmod_eq_of_le (by omega) (by omega)]
    omega
theorem bS_1 (K : KK) (m p N : Nat) (fg z : Int32) (hN : N ≤ 10) : bS (ownV K m p N fg z) 1 = (0, ownV K m p N fg z 0) := by
  show (if (-2147483648 : Int32) < ownV K m p N fg z 0 then (0, ownV K m p N fg z 0) else (0, -2147483648)) = _
  rw [if_pos (own_lo K m p N fg z 0 hN)]
theorem bS_lt (f : Nat → Int32) : ∀ k, (bS f k).1 ≤ k := by
  intro k
  induction k with
  | zero => exact Nat.le_refl 0
  | succ k ih =>
    rw [bS]
    split
    · exact Nat.le_succ k
    · omega
set_option maxRecDepth 20000 in
set_option maxHeartbeats 4000000 in
theorem x_best_loop (l : Launch) (d n N m p : Nat) (hN1 : 1 ≤ N) (hN : N ≤ 10) (z w fg : Int32) (K : KK) (hD : KD K m) (hp : p < m) (P : Nat → Int32) (pn : Nat) (h0 : MH) (b : Bool) (ht : h0 0 = some (.inr (5, tfF b))) {Q : Option Value → MH → Nat → Prop} (kk : ∀ (K1 : KK) (cl : Nat → Int32) (h1 : MH), WoodAt h1 20 K1 cl P pn → Ou h0 h1 20 → V l mX5_bestPlan (d + 7) 140 [some (.ref 0), some (.int (nI p)), some (.int fg), some (.int (nI N)), some (.int z), some (.int w), some (.ref (20 + 8 + p)), some (.int (nI (bS (ownV K m p N fg z) 8).1)), some (.int (bS (ownV K m p N fg z) 8).2), none, none, none] [] h1 n 0 0 Q) : ∀ (r k : Nat) (Kc : KK) (cl : Nat → Int32) (h : MH), WoodAt h 20 Kc cl P pn → gP Kc p 2 = fg → gP Kc p 0 = gP K p 0 → Kc 90 = nI m → PR Kc P pn → (∀ k z1, roleU (bgn Kc m z1) p k fg = roleU (bgn K m z1) p k fg) → Ou h0 h 20 → k + r = 8 → V l mX5_bestPlan (d + 7) 75 [some (.ref 0), some (.int (nI p)), some (.int fg), some (.int (nI N)), some (.int z), some (.int w), some (.ref (20 + 8 + p)), some (.int (nI (bS (ownV K m p N fg z) k).1)), some (.int (bS (ownV K m p N fg z) k).2), some (.int (nI k)), none, none] [] h n 0 0 Q := by
  have hm10 := hD.1.2.1
  intro r
  induction r with
  | zero =>
    intro k Kc cl h hw h2f h0s h90 hPc hJ ho hk
    refine V.iload dX5_bestPlan_75 rfl ?_
    refine V.bipush (v := nI 7) dX5_bestPlan_77 (by decide) ?_
    refine V.icmp_gtN (tgt := 140) dX5_bestPlan_79 (by decide) (by omega) (by omega) (fun _ => ?_) (fun q => absurd q (by omega))
    have hk8 : k = 8 := by omega
    subst hk8
    exact V.drop 9 (kk _ cl h hw ho)
  | succ r ih =>
    intro k Kc cl h hw h2f h0s h90 hPc hJ ho hk
    have ht0 := (ho 0 (by omega)).trans ht
    refine V.iload dX5_bestPlan_75 rfl ?_
    refine V.bipush (v := nI 7) dX5_bestPlan_77 (by decide) ?_
    refine V.icmp_gtN (tgt := 140) dX5_bestPlan_79 (by decide) (by omega) (by omega) (fun q => absurd q (by omega)) (fun _ => ?_)
    refine V.aload dX5_bestPlan_82 rfl ?_
    refine V.iload dX5_bestPlan_84 rfl ?_
    refine V.putf dX5_bestPlan_86 fp_X5_123 (hw.2.2.2.2.2.2.2.2.1 p (by omega)) (Nat.le_of_ble_eq_true rfl) (fun _ => ⟨rfl, rfl⟩) ?_
    have e1 : (pF Kc cl p).set 1 (.int (nI k)) = pF (roleU Kc p (nI k) fg) cl p := by
      rw [← pF_kind, show (pF Kc cl p) = [.int (gP Kc p 0), .int (gP Kc p 1), .int (gP Kc p 2), .int (gP Kc p 3), .int (cAt Kc cl p), .int (gP Kc p 6), .int (bI (decide (gP Kc p 5 = nI 1))), .int (bI (decide (gP Kc p 5 = nI 2)))] from rfl, h2f]
      rfl
    rw [e1]
    have hw1 := hw.role p (by omega) (nI k) fg
    have ho1 : Ou h (hset h (20 + 8 + p) (.inr (0, pF (roleU Kc p (nI k) fg) cl p))) 20 := fun q hq => hset_ne _ _ (by omega)
    generalize hset h (20 + 8 + p) (.inr (0, pF (roleU Kc p (nI k) fg) cl p)) = h1 at hw1 ho1 ⊢
    have ht1 := (ho1 0 (by omega)).trans ht0
    have hbe : ∀ z1, bgn (roleU Kc p (nI k) fg) m z1 = bgn (roleU K p (nI k) fg) m z1 := fun z1 => by rw [bgn_role, bgn_role]; exact hJ _ z1
    refine V.aload_n dX5_bestPlan_89 rfl ?_
    refine V.getf dX5_bestPlan_90 fl_X5_22 ht1 rfl ?_
    refine V.iload_n dX5_bestPlan_93 rfl ?_
    refine V.iload dX5_bestPlan_94 rfl ?_
    refine V.callVg [_, _] dX5_bestPlan_96 lk_X5_186 rfl (Nat.le_of_ble_eq_true rfl) (Nat.le_of_ble_eq_true rfl) hw1.1 rfl (s4_playGames _ _ _ _ _ N hN1 hN _ _ _ _ _ m (hw1.wb m) ((roleU_lo _ _ _ _ _ (by omega)).trans h90) hm10 (fun z1 => by rw [hbe]; exact KD_bgn (KD_role hD k fg (by omega)) z1) (PR_lo hPc (fun j h1 h2 => roleU_lo _ _ _ _ _ (by omega)))) (fun h2 cl2 wa2 hw2 ho2 hwa2 hww2 => ?_)
    rw [agL_eq z hbe]
    have hsd : gP (fin (roleU Kc p (nI k) fg) m (z + nI (N - 1))) p 0 = gP K p 0 := by rw [fin_gP _ _ _ _ _ (by omega), roleU_gP _ _ _ _ _ _ (by omega), if_neg (by omega), if_neg (by omega)]; exact h0s
    have nxt : V l mX5_bestPlan (d + 7) 75 [some (.ref 0), some (.int (nI p)), some (.int fg), some (.int (nI N)), some (.int z), some (.int w), some (.ref (20 + 8 + p)), some (.int (nI (bS (ownV K m p N fg z) (k + 1)).1)), some (.int (bS (ownV K m p N fg z) (k + 1)).2), some (.int (nI (k + 1))), none, none] [] h2 n 0 0 Q := by
      refine ih (k + 1) _ cl2 h2 hw2 ?_ ?_ ?_ (PR_fin (PR_lo hPc (fun j h1 h2 => roleU_lo _ _ _ _ _ (by omega))) m _) (fun k2 z1 => ?_) ((ho.tr ho1).tr ho2) (by omega)
      · rw [fin_gP _ _ _ _ _ (by omega), roleU_gP _ _ _ _ _ _ (by omega), if_pos ⟨rfl, rfl⟩]
      · exact hsd
      · rw [fin_90, roleU_lo _ _ _ _ _ (by omega)]; exact h90
      · rw [bgn_fin, bgn_role, roleU_roleU]; exact hJ k2 z1
    refine V.ist10 dX5_bestPlan_99 (by decide) rfl ?_
    refine V.aload dX5_bestPlan_101 rfl ?_
    refine V.getf dX5_bestPlan_103 fl_X5_85 (hw2.2.2.2.2.2.2.2.2.1 p (by omega)) rfl ?_
    rw [hsd]
    refine V.if_ne (tgt := 114) dX5_bestPlan_106 (by decide) (fun c106 => ?_) (fun c106 => ?_)
    · refine V.iload dX5_bestPlan_114 rfl ?_
      refine V.ineg dX5_bestPlan_116 ?_
      first
      | (have eo : ownV K m p N fg z k = agL (roleU K p (nI k) fg) m z N := if_pos c106
         refine V.ist11 dX5_bestPlan_117 (by decide) rfl ?_
         refine V.iload dX5_bestPlan_119 rfl ?_
         refine V.iload dX5_bestPlan_121 rfl ?_
         rw [← eo]
         refine V.icmp_le (tgt := 134) dX5_bestPlan_123 (by decide) (fun c123 => ?_) (fun c123 => ?_)
         · refine V.inN9 dX5_bestPlan_134 (by decide) rfl ?_
           refine V.goto (tgt := 75) dX5_bestPlan_137 (by decide) ?_
           rw [show bS (ownV K m p N fg z) (k + 1) = bS (ownV K m p N fg z) k from if_neg (Int32.not_lt.mpr c123)] at nxt
           exact V.drop 10 (V.drop 11 nxt)
         · refine V.iload dX5_bestPlan_126 rfl ?_
           refine V.ist8 dX5_bestPlan_128 (by decide) rfl ?_
           refine V.iload dX5_bestPlan_130 rfl ?_
           refine V.ist7 dX5_bestPlan_132 (by decide) rfl ?_
           refine V.inN9 dX5_bestPlan_134 (by decide) rfl ?_
           refine V.goto (tgt := 75) dX5_bestPlan_137 (by decide) ?_
           rw [show bS (ownV K m p N fg z) (k + 1) = (k, ownV K m p N fg z k) from if_pos (Int32.not_le.mp c123)] at nxt
           exact V.drop 10 (V.drop 11 nxt))
      | (have eo : ownV K m p N fg z k = -(agL (roleU K p (nI k) fg) m z N) := if_neg c106
         refine V.ist11 dX5_bestPlan_117 (by decide) rfl ?_
         refine V.iload dX5_bestPlan_119 rfl ?_
         refine V.iload dX5_bestPlan_121 rfl ?_
         rw [← eo]
         refine V.icmp_le (tgt := 134) dX5_bestPlan_123 (by decide) (fun c123 => ?_) (fun c123 => ?_)
         · refine V.inN9 dX5_bestPlan_134 (by decide) rfl ?_
           refine V.goto (tgt := 75) dX5_bestPlan_137 (by decide) ?_
           rw [show bS (ownV K m p N fg z) (k + 1) = bS (ownV K m p N fg z) k from if_neg (Int32.not_lt.mpr c123)] at nxt
           exact V.drop 10 (V.drop 11 nxt)
         · refine V.iload dX5_bestPlan_126 rfl ?_
           refine V.ist8 dX5_bestPlan_128 (by decide) rfl ?_
           refine V.iload dX5_bestPlan_130 rfl ?_
           refine V.ist7 dX5_bestPlan_132 (by decide) rfl ?_
           refine V.inN9 dX5_bestPlan_134 (by decide) rfl ?_
           refine V.goto (tgt := 75) dX5_bestPlan_137 (by decide) ?_
           rw [show bS (ownV K m p N fg z) (k + 1) = (k, ownV K m p N fg z k) from if_pos (Int32.not_le.mp c123)] at nxt
           exact V.drop 10 (V.drop 11 nxt))
    · refine V.iload dX5_bestPlan_109 rfl ?_
      refine V.goto (tgt := 117) dX5_bestPlan_111 (by decide) ?_
      first
      | (have eo : ownV K m p N fg z k = agL (roleU K p (nI k) fg) m z N := if_pos c106
         refine V.ist11 dX5_bestPlan_117 (by decide) rfl ?_
         refine V.iload dX5_bestPlan_119 rfl ?_
         refine V.iload dX5_bestPlan_121 rfl ?_
         rw [← eo]
         refine V.icmp_le (tgt := 134) dX5_bestPlan_123 (by decide) (fun c123 => ?_) (fun c123 => ?_)
         · refine V.inN9 dX5_bestPlan_134 (by decide) rfl ?_
           refine V.goto (tgt := 75) dX5_bestPlan_137 (by decide) ?_
           rw [show bS (ownV K m p N fg z) (k + 1) = bS (ownV K m p N fg z) k from if_neg (Int32.not_lt.mpr c123)] at nxt
           exact V.drop 10 (V.drop 11 nxt)
         · refine V.iload dX5_bestPlan_126 rfl ?_
           refine V.ist8 dX5_bestPlan_128 (by decide) rfl ?_
           refine V.iload dX5_bestPlan_130 rfl ?_
           refine V.ist7 dX5_bestPlan_132 (by decide) rfl ?_
           refine V.inN9 dX5_bestPlan_134 (by decide) rfl ?_
           refine V.goto (tgt := 75) dX5_bestPlan_137 (by decide) ?_
           rw [show bS (ownV K m p N fg z) (k + 1) = (k, ownV K m p N fg z k) from if_pos (Int32.not_le.mp c123)] at nxt
           exact V.drop 10 (V.drop 11 nxt))
      | (have eo : ownV K m p N fg z k = -(agL (roleU K p (nI k) fg) m z N) := if_neg c106
         refine V.ist11 dX5_bestPlan_117 (by decide) rfl ?_
         refine V.iload dX5_bestPlan_119 rfl ?_
         refine V.iload dX5_bestPlan_121 rfl ?_
         rw [← eo]
         refine V.icmp_le (tgt := 134) dX5_bestPlan_123 (by decide) (fun c123 => ?_) (fun c123 => ?_)
         · refine V.inN9 dX5_bestPlan_134 (by decide) rfl ?_
           refine V.goto (tgt := 75) dX5_bestPlan_137 (by decide) ?_
           rw [show bS (ownV K m p N fg z) (k + 1) = bS (ownV K m p N fg z) k from if_neg (Int32.not_lt.mpr c123)] at nxt
           exact V.drop 10 (V.drop 11 nxt)
         · refine V.iload dX5_bestPlan_126 rfl ?_
           refine V.ist8 dX5_bestPlan_128 (by decide) rfl ?_
           refine V.iload dX5_bestPlan_130 rfl ?_
           refine V.ist7 dX5_bestPlan_132 (by decide) rfl ?_
           refine V.inN9 dX5_bestPlan_134 (by decide) rfl ?_
           refine V.goto (tgt := 75) dX5_bestPlan_137 (by decide) ?_
           rw [show bS (ownV K m p N fg z) (k + 1) = (k, ownV K m p N fg z k) from if_pos (Int32.not_le.mp c123)] at nxt
           exact V.drop 10 (V.drop 11 nxt))
theorem pF_fig (K : KK) (cl : Nat → Int32) (p : Nat) (g : Int32) : (pF K cl p).set 2 (.int g) = pF (roleU K p (gP K p 1) g) cl p := by
  rw [← pF_kind]
  rfl
set_option maxRecDepth 20000 in
set_option maxHeartbeats 4000000 in
theorem x_bestPlan (l : Launch) (d : Nat) (h : MH) (n : Nat) (K : KK) (b : Bool) (KI : KK) (S : SS) (m : Nat) (hc : ClsAt h K b KI S) (hT : TI K m) (x fg y z w : Int32) : Sp l mX5_bestPlan (d + 7) [.ref 0, .int x, .int fg, .int y, .int z, .int w] h n 0 0 (Qx (bestV K m x fg y z w) K b KI S h n) := by
  have hD := hT.1
  have hm := hD.1.1
  have hm10 := hD.1.2.1
  obtain ⟨ht0, ⟨sq, hsq, esq⟩, ⟨cl, P, pn, hw, hPR⟩, ⟨Km, clm, Pm, pm, hwm⟩, ⟨KJ, clJ, PJ, pJ, hwJ, hJ⟩, ⟨rb, rx, ry, hrd⟩, hsc, ⟨co, hco⟩, ⟨se, hse⟩, hsh⟩ := id hc
  obtain ⟨hw0, ⟨gr, hgr, egr⟩, ⟨ru, hru, eru⟩, ⟨pq, hpf, epf⟩, hpl, ⟨fl, hfl, efl⟩, ⟨ca, hca, eca⟩, ⟨wa, hwa⟩, hpp, hhd⟩ := id hw
  show V _ _ _ _ [some (.ref 0), some (.int x), some (.int fg), some (.int y), some (.int z), some (.int w), none, none, none, none, none, none] _ _ _ _ _ _
  refine V.aload_n dX5_bestPlan_0 rfl ?_
  refine V.iload_n dX5_bestPlan_1 rfl ?_
  refine V.callVv [_] dX5_bestPlan_2 lk_X5_78 rfl (Nat.le_of_ble_eq_true rfl) (Nat.le_of_ble_eq_true rfl) ht0 rfl (x_isPlayer _ _ _ _ _ _ _ _ _ hc hT _) ?_
  refine V.if_eqB (tgt := 34) dX5_bestPlan_5 (by decide) (fun c5 => ?_) (fun c5 => ?_)
  · refine V.ldc dX5_bestPlan_34 cn_X5_189 ?_
    exact V.iret (by exact dX5_bestPlan_36) rfl rfl ⟨by simp only [bestV, c5, not_true_eq_false, not_false_eq_true, if_true, if_false, decide_true, decide_false, Bool.and_true, Bool.and_false, Bool.true_and, Bool.false_and, Bool.or_true, Bool.or_false, Bool.true_or, Bool.false_or, Bool.not_true, Bool.not_false, and_true, and_false, true_and, false_and, or_true, or_false, true_or, false_or, bIt, bIf, Bool.false_eq_true, reduceCtorEq], rfl, hc, fun _ _ => rfl⟩
  · refine V.iload_n dX5_bestPlan_8 rfl ?_
    refine V.callSv [_] dX5_bestPlan_9 lk_X5_194 rfl (Nat.le_of_ble_eq_true rfl) (Nat.le_of_ble_eq_true rfl) (s5_isFigure _ _ _ _ _) ?_
    refine V.if_eqB (tgt := 34) dX5_bestPlan_12 (by decide) (fun c12 => ?_) (fun c12 => ?_)
    · refine V.ldc dX5_bestPlan_34 cn_X5_189 ?_
      exact V.iret (by exact dX5_bestPlan_36) rfl rfl ⟨by simp only [bestV, c5, c12, not_true_eq_false, not_false_eq_true, if_true, if_false, decide_true, decide_false, Bool.and_true, Bool.and_false, Bool.true_and, Bool.false_and, Bool.or_true, Bool.or_false, Bool.true_or, Bool.false_or, Bool.not_true, Bool.not_false, and_true, and_false, true_and, false_and, or_true, or_false, true_or, false_or, bIt, bIf, Bool.false_eq_true, reduceCtorEq], rfl, hc, fun _ _ => rfl⟩
    · refine V.iload_n dX5_bestPlan_15 rfl ?_
      refine V.iconst (v := nI 1) dX5_bestPlan_16 (by decide) ?_
      refine V.iconst (v := nI 5) dX5_bestPlan_17 (by decide) ?_
      refine V.callSv [_, _, _] dX5_bestPlan_18 lk_X5_71 rfl (Nat.le_of_ble_eq_true rfl) (Nat.le_of_ble_eq_true rfl) (s5_within _ _ _ _ _ _ _) ?_
      refine V.if_eqB (tgt := 34) dX5_bestPlan_21 (by decide) (fun c21 => ?_) (fun c21 => ?_)
      · refine V.ldc dX5_bestPlan_34 cn_X5_189 ?_
        exact V.iret (by exact dX5_bestPlan_36) rfl rfl ⟨by simp only [bestV, c5, c12, c21, not_true_eq_false, not_false_eq_true, if_true, if_false, decide_true, decide_false, Bool.and_true, Bool.and_false, Bool.true_and, Bool.false_and, Bool.or_true, Bool.or_false, Bool.true_or, Bool.false_or, Bool.not_true, Bool.not_false, and_true, and_false, true_and, false_and, or_true, or_false, true_or, false_or, bIt, bIf, Bool.false_eq_true, reduceCtorEq], rfl, hc, fun _ _ => rfl⟩
      · refine V.iload dX5_bestPlan_24 rfl ?_
        refine V.iconst (v := nI 0) dX5_bestPlan_26 (by decide) ?_
        refine V.iconst (v := nI 1) dX5_bestPlan_27 (by decide) ?_
        refine V.callSv [_, _, _] dX5_bestPlan_28 lk_X5_71 rfl (Nat.le_of_ble_eq_true rfl) (Nat.le_of_ble_eq_true rfl) (s5_within _ _ _ _ _ _ _) ?_
        refine V.if_neB (tgt := 37) dX5_bestPlan_31 (by decide) (fun c31 => ?_) (fun c31 => ?_)
        · obtain ⟨p, hp, rfl⟩ := pl_ex hm hm10 c5
          obtain ⟨N, hN1, hN, rfl⟩ := wi1_ex (by decide) c21
          refine V.aload_n dX5_bestPlan_37 rfl ?_
          refine V.getf dX5_bestPlan_38 fl_X5_22 ht0 rfl ?_
          refine V.aload_n dX5_bestPlan_41 rfl ?_
          refine V.getf dX5_bestPlan_42 fl_X5_18 ht0 rfl ?_
          refine V.callVw [_] dX5_bestPlan_45 lk_X5_51 rfl (Nat.le_of_ble_eq_true rfl) (Nat.le_of_ble_eq_true rfl) hwm.1 rfl (s4_become _ _ _ _ 20 2 _ _ _ _ _ _ _ _ (by omega) hwm hw) (fun h1 hw1 ho1 => ?_)
          have ht1 := (ho1 0 (by omega)).trans ht0
          refine V.aload_n dX5_bestPlan_48 rfl ?_
          refine V.getf dX5_bestPlan_49 fl_X5_22 ht1 rfl ?_
          refine V.getf dX5_bestPlan_52 fl_X5_81 hw1.1 rfl ?_
          refine V.iload_n dX5_bestPlan_55 rfl ?_
          obtain ⟨pq2, hpf2, epf2⟩ := hw1.2.2.2.1
          refine V.aaldN dX5_bestPlan_56 (Or.inl rfl) hpf2 (by omega) (by decide) (epf2 _ (by omega)) ?_
          refine V.ast6 dX5_bestPlan_57 (by decide) rfl ?_
          refine V.aload dX5_bestPlan_59 rfl ?_
          refine V.iload_n dX5_bestPlan_61 rfl ?_
          refine V.putf dX5_bestPlan_62 fp_X5_127 (hw1.2.2.2.2.2.2.2.2.1 p (by omega)) (Nat.le_of_ble_eq_true rfl) (fun _ => ⟨rfl, rfl⟩) ?_
          rw [pF_fig]
          have hw3 := hw1.role p (by omega) (gP K p 1) fg
          have ho3 : Ou h1 (hset h1 (20 + 8 + p) (.inr (0, pF (roleU K p (gP K p 1) fg) cl p))) 20 := fun q hq => hset_ne _ _ (by omega)
          have ht3 := (ho3 0 (by omega)).trans ht1
          refine V.iconst (v := nI 0) dX5_bestPlan_65 (by decide) ?_
          refine V.ist7 dX5_bestPlan_66 (by decide) rfl ?_
          refine V.ldc dX5_bestPlan_68 cn_X5_212 ?_
          refine V.ist8 dX5_bestPlan_70 (by decide) rfl ?_
          refine V.iconst (v := nI 0) dX5_bestPlan_72 (by decide) ?_
          refine V.ist9 dX5_bestPlan_73 (by decide) rfl ?_
          refine x_best_loop l d n N m p hN1 (by omega) z w fg K hD hp P pn _ b ht3 (fun K1 cl1 h4 hw4 ho4 => ?_) 8 0 (roleU K p (gP K p 1) fg) cl _ hw3 ?_ ?_ ?_ (PR_lo hPR (fun j h1 h2 => roleU_lo _ _ _ _ _ (by omega))) (fun k z1 => by rw [bgn_role, roleU_roleU]) (fun _ _ => rfl) (by omega)
          · have hc4 := hc.mindO hw4 ((ho1.ou.tr ho3).tr ho4)
            have hq4 : ∀ q, 78 ≤ q → h4 q = h q := fun q hq => (ho4 q (by omega)).trans ((ho3 q (by omega)).trans (ho1 q (by omega)))
            have hv : bestV K m (nI p) fg (nI N) z w = if w = 0 then nI (bS (ownV K m p N fg z) 8).1 else (bS (ownV K m p N fg z) 8).2 := by
              rw [bestV, clampI (show p < 2147483648 by omega), clampI (show N < 2147483648 by omega), c5, c12, c21, c31]
              rfl
            refine V.iload dX5_bestPlan_140 rfl ?_
            refine V.if_ne (tgt := 150) dX5_bestPlan_142 (by decide) (fun c142 => ?_) (fun c142 => ?_)
            · refine V.iload dX5_bestPlan_150 rfl ?_
              exact V.iret (by exact dX5_bestPlan_152) rfl rfl ⟨by rw [hv, if_neg c142], rfl, hc4, hq4⟩
            · refine V.iload dX5_bestPlan_145 rfl ?_
              refine V.goto (tgt := 152) dX5_bestPlan_147 (by decide) ?_
              exact V.iret (by exact dX5_bestPlan_152) rfl rfl ⟨by rw [hv, if_pos c142], rfl, hc4, hq4⟩
          · rw [roleU_gP _ _ _ _ _ _ (by omega), if_pos ⟨rfl, rfl⟩]
          · rw [roleU_gP _ _ _ _ _ _ (by omega), if_neg (by omega), if_neg (by omega)]
          · rw [roleU_lo _ _ _ _ _ (by omega)]; exact hm
        · refine V.ldc dX5_bestPlan_34 cn_X5_189 ?_
          exact V.iret (by exact dX5_bestPlan_36) rfl rfl ⟨by simp only [bestV, c5, c12, c21, c31, not_true_eq_false, not_false_eq_true, if_true, if_false, decide_true, decide_false, Bool.and_true, Bool.and_false, Bool.true_and, Bool.false_and, Bool.or_true, Bool.or_false, Bool.true_or, Bool.false_or, Bool.not_true, Bool.not_false, and_true, and_false, true_and, false_and, or_true, or_false, true_or, false_or, bIt, bIf, Bool.false_eq_true, reduceCtorEq], rfl, hc, fun _ _ => rfl⟩
set_option maxRecDepth 20000 in
set_option maxHeartbeats 4000000 in
theorem m_best_loop (l : Launch) (d n N m p : Nat) (hN1 : 1 ≤ N) (hN : N ≤ 10) (z w fg : Int32) (K : KK) (hD : KD K m) (hp : p < m) (h : MH) (b : Bool) (th po ba en tt : Int32) (hm0 : h 78 = some (.inr (6, moF b th po ba en tt))) (ha : h 79 = some (kc K)) (h2 : ∀ p, p < m → ¬ gP K p 5 = nI 2) (q : Nat) (hq : q ≤ 600) (h89 : K 89 = nI q) {Q : Option Value → MH → Nat → Prop} (kk : ∀ X : KK, V l mX6_bestPlan (d + 11) 130 [some (.ref 78), some (.int (nI p)), some (.int fg), some (.int (nI N)), some (.int z), some (.int w), some (.int (nI (bS (ownV K m p N fg z) 8).1)), some (.int (bS (ownV K m p N fg z) 8).2), none, none] [] (hset h 81 (kc X)) n 0 0 Q) : ∀ (r k : Nat) (bst ld : Int32) (X : KK), (k = 0 → bst = -4 ∧ ld = nI 0) → (0 < k → bst = nI (bS (ownV K m p N fg z) k).1 ∧ ld = (bS (ownV K m p N fg z) k).2) → k + r = 8 → V l mX6_bestPlan (d + 11) 57 [some (.ref 78), some (.int (nI p)), some (.int fg), some (.int (nI N)), some (.int z), some (.int w), some (.int bst), some (.int ld), some (.int (nI k)), none] [] (hset h 81 (kc X)) n 0 0 Q := by
  have hm := hD.1.1
  have hm10 := hD.1.2.1
  intro r
  induction r with
  | zero =>
    intro k bst ld X h0 h1 hk
    refine V.iload dX6_bestPlan_57 rfl ?_
    refine V.bipush (v := nI 8) dX6_bestPlan_59 (by decide) ?_
    refine V.icmp_geN (tgt := 130) dX6_bestPlan_61 (by decide) (by omega) (by omega) (fun _ => ?_) (fun q => absurd q (by omega))
    have hk8 : k = 8 := by omega
    subst hk8
    obtain ⟨rfl, rfl⟩ := h1 (by omega)
    exact V.drop 8 (kk X)
  | succ r ih =>
    intro k bst ld X h0 h1 hk
    have hm1 := o_ne (x := kc X) hm0 (show 78 ≠ 81 by decide)
    have ha1 := o_ne (x := kc X) ha (show 79 ≠ 81 by decide)
    refine V.iload dX6_bestPlan_57 rfl ?_
    refine V.bipush (v := nI 8) dX6_bestPlan_59 (by decide) ?_
    refine V.icmp_geN (tgt := 130) dX6_bestPlan_61 (by decide) (by omega) (by omega) (fun q => absurd q (by omega)) (fun _ => ?_)
    refine V.aload_n dX6_bestPlan_64 rfl ?_
    refine V.iload_n dX6_bestPlan_65 rfl ?_
    refine V.iload dX6_bestPlan_66 rfl ?_
    refine V.bipush (v := -4) dX6_bestPlan_68 (by decide) ?_
    refine V.iload_n dX6_bestPlan_70 rfl ?_
    refine V.iload dX6_bestPlan_71 rfl ?_
    refine V.iload_n dX6_bestPlan_73 rfl ?_
    refine V.callVa [_, _, _, _, _, _] dX6_bestPlan_74 lk_X6_273 rfl (Nat.le_of_ble_eq_true rfl) (Nat.le_of_ble_eq_true rfl) hm1 rfl (s6_againstF _ _ _ _ K b th po ba en tt N hN _ _ _ _ _ hm1 ha1 X (hset_self _ _ _) m hm hm10 h2 q hq (fun Y => upd (upd Y (114 + 7 * p + 1) (nI k)) (114 + 7 * p + 2) fg) (fun z1 => ⟨(by have y := KD_bgn (KD_role (p := p) hD k fg (by omega)) z1; rw [bgn_role] at y; exact y), (roleU_lo _ _ _ _ _ (by omega)).trans rfl, (roleU_lo _ _ _ _ _ (by omega)).trans ((bgn_lo _ _ _ _ (by omega)).trans h89)⟩) (fun Y i v _ kk => s6_ch_kd _ _ _ _ b th po ba en tt N _ p k (by omega) (by omega) _ hm1 Y i v kk)) (fun X2 => ?_)
    rw [agF_L (K1 := roleU K p (nI k) fg) _ (fun z1 => bgn_role K m p (nI k) fg z1), hset_hset]
    have hm2 := o_ne (x := kc X2) hm0 (show 78 ≠ 81 by decide)
    have ha2 := o_ne (x := kc X2) ha (show 79 ≠ 81 by decide)
    refine V.ist9 dX6_bestPlan_77 (by decide) rfl ?_
    refine V.aload_n dX6_bestPlan_79 rfl ?_
    refine V.getf dX6_bestPlan_80 fl_X6_9 hm2 rfl ?_
    refine V.iload_n dX6_bestPlan_83 rfl ?_
    refine V.iconst (v := nI 0) dX6_bestPlan_84 (by decide) ?_
    refine V.callSv [_, _, _] dX6_bestPlan_85 lk_X6_82 rfl (Nat.le_of_ble_eq_true rfl) (Nat.le_of_ble_eq_true rfl) (s6_get _ _ _ _ _ _ ha2 _ _ (by omega) (by omega)) ?_
    refine V.if_ne (tgt := 96) dX6_bestPlan_88 (by decide) (fun c88 => ?_) (fun c88 => ?_)
    · refine V.iload dX6_bestPlan_96 rfl ?_
      refine V.ineg dX6_bestPlan_98 ?_
      first
      | (have eo : ownV K m p N fg z k = agL (roleU K p (nI k) fg) m z N := if_pos c88
         refine V.ist9 dX6_bestPlan_99 (by decide) rfl ?_
         rw [← eo]
         refine V.iload dX6_bestPlan_101 rfl ?_
         by_cases hk0 : k = 0
         · obtain ⟨rfl, rfl⟩ := h0 hk0
           refine V.if_lt (tgt := 116) dX6_bestPlan_103 (by decide) (fun _ => ?_) (fun q => absurd (by decide) q)
           refine V.iload dX6_bestPlan_116 rfl ?_
           refine V.ist6 dX6_bestPlan_118 (by decide) rfl ?_
           refine V.iload dX6_bestPlan_120 rfl ?_
           refine V.ist7 dX6_bestPlan_122 (by decide) rfl ?_
           refine V.inN8 dX6_bestPlan_124 (by decide) rfl ?_
           refine V.goto (tgt := 57) dX6_bestPlan_127 (by decide) ?_
           exact V.drop 9 (ih (k + 1) (nI k) (ownV K m p N fg z k) X2 (fun y => absurd y (by omega)) (fun _ => by rw [hk0, bS_1 K m p N fg z (by omega)]; exact ⟨rfl, rfl⟩) (by omega))
         · obtain ⟨rfl, rfl⟩ := h1 (by omega)
           have hbl := bS_lt (ownV K m p N fg z) k
           refine V.if_lt (tgt := 116) dX6_bestPlan_103 (by decide) (fun q => absurd q (nI_pos (by omega))) (fun _ => ?_)
           refine V.iload dX6_bestPlan_106 rfl ?_
           refine V.iload dX6_bestPlan_108 rfl ?_
           refine V.icmp_gt (tgt := 116) dX6_bestPlan_110 (by decide) (fun c110 => ?_) (fun c110 => ?_)
           · refine V.iload dX6_bestPlan_116 rfl ?_
             refine V.ist6 dX6_bestPlan_118 (by decide) rfl ?_
             refine V.iload dX6_bestPlan_120 rfl ?_
             refine V.ist7 dX6_bestPlan_122 (by decide) rfl ?_
             refine V.inN8 dX6_bestPlan_124 (by decide) rfl ?_
             refine V.goto (tgt := 57) dX6_bestPlan_127 (by decide) ?_
             exact V.drop 9 (ih (k + 1) (nI k) (ownV K m p N fg z k) X2 (fun y => absurd y (by omega)) (fun _ => by rw [show bS (ownV K m p N fg z) (k + 1) = (k, ownV K m p N fg z k) from if_pos c110]; exact ⟨rfl, rfl⟩) (by omega))
           · refine V.goto (tgt := 124) dX6_bestPlan_113 (by decide) ?_
             refine V.inN8 dX6_bestPlan_124 (by decide) rfl ?_
             refine V.goto (tgt := 57) dX6_bestPlan_127 (by decide) ?_
             exact V.drop 9 (ih (k + 1) _ _ X2 (fun y => absurd y (by omega)) (fun _ => by rw [show bS (ownV K m p N fg z) (k + 1) = bS (ownV K m p N fg z) k from if_neg c110]; exact ⟨rfl, rfl⟩) (by omega)))
      | (have eo : ownV K m p N fg z k = -(agL (roleU K p (nI k) fg) m z N) := if_neg c88
         refine V.ist9 dX6_bestPlan_99 (by decide) rfl ?_
         rw [← eo]
         refine V.iload dX6_bestPlan_101 rfl ?_
         by_cases hk0 : k = 0
         · obtain ⟨rfl, rfl⟩ := h0 hk0
           refine V.if_lt (tgt := 116) dX6_bestPlan_103 (by decide) (fun _ => ?_) (fun q => absurd (by decide) q)
           refine V.iload dX6_bestPlan_116 rfl ?_
           refine V.ist6 dX6_bestPlan_118 (by decide) rfl ?_
           refine V.iload dX6_bestPlan_120 rfl ?_
           refine V.ist7 dX6_bestPlan_122 (by decide) rfl ?_
           refine V.inN8 dX6_bestPlan_124 (by decide) rfl ?_
           refine V.goto (tgt := 57) dX6_bestPlan_127 (by decide) ?_
           exact V.drop 9 (ih (k + 1) (nI k) (ownV K m p N fg z k) X2 (fun y => absurd y (by omega)) (fun _ => by rw [hk0, bS_1 K m p N fg z (by omega)]; exact ⟨rfl, rfl⟩) (by omega))
         · obtain ⟨rfl, rfl⟩ := h1 (by omega)
           have hbl := bS_lt (ownV K m p N fg z) k
           refine V.if_lt (tgt := 116) dX6_bestPlan_103 (by decide) (fun q => absurd q (nI_pos (by omega))) (fun _ => ?_)
           refine V.iload dX6_bestPlan_106 rfl ?_
           refine V.iload dX6_bestPlan_108 rfl ?_
           refine V.icmp_gt (tgt := 116) dX6_bestPlan_110 (by decide) (fun c110 => ?_) (fun c110 => ?_)
           · refine V.iload dX6_bestPlan_116 rfl ?_
             refine V.ist6 dX6_bestPlan_118 (by decide) rfl ?_
             refine V.iload dX6_bestPlan_120 rfl ?_
             refine V.ist7 dX6_bestPlan_122 (by decide) rfl ?_
             refine V.inN8 dX6_bestPlan_124 (by decide) rfl ?_
             refine V.goto (tgt := 57) dX6_bestPlan_127 (by decide) ?_
             exact V.drop 9 (ih (k + 1) (nI k) (ownV K m p N fg z k) X2 (fun y => absurd y (by omega)) (fun _ => by rw [show bS (ownV K m p N fg z) (k + 1) = (k, ownV K m p N fg z k) from if_pos c110]; exact ⟨rfl, rfl⟩) (by omega))
           · refine V.goto (tgt := 124) dX6_bestPlan_113 (by decide) ?_
             refine V.inN8 dX6_bestPlan_124 (by decide) rfl ?_
             refine V.goto (tgt := 57) dX6_bestPlan_127 (by decide) ?_
             exact V.drop 9 (ih (k + 1) _ _ X2 (fun y => absurd y (by omega)) (fun _ => by rw [show bS (ownV K m p N fg z) (k + 1) = bS (ownV K m p N fg z) k from if_neg c110]; exact ⟨rfl, rfl⟩) (by omega)))
    · refine V.iload dX6_bestPlan_91 rfl ?_
      refine V.goto (tgt := 99) dX6_bestPlan_93 (by decide) ?_
      first
      | (have eo : ownV K m p N fg z k = agL (roleU K p (nI k) fg) m z N := if_pos c88
         refine V.ist9 dX6_bestPlan_99 (by decide) rfl ?_
         rw [← eo]
         refine V.iload dX6_bestPlan_101 rfl ?_
         by_cases hk0 : k = 0
         · obtain ⟨rfl, rfl⟩ := h0 hk0
           refine V.if_lt (tgt := 116) dX6_bestPlan_103 (by decide) (fun _ => ?_) (fun q => absurd (by decide) q)
           refine V.iload dX6_bestPlan_116 rfl ?_
           refine V.ist6 dX6_bestPlan_118 (by decide) rfl ?_
           refine V.iload dX6_bestPlan_120 rfl ?_
           refine V.ist7 dX6_bestPlan_122 (by decide) rfl ?_
           refine V.inN8 dX6_bestPlan_124 (by decide) rfl ?_
           refine V.goto (tgt := 57) dX6_bestPlan_127 (by decide) ?_
           exact V.drop 9 (ih (k + 1) (nI k) (ownV K m p N fg z k) X2 (fun y => absurd y (by omega)) (fun _ => by rw [hk0, bS_1 K m p N fg z (by omega)]; exact ⟨rfl, rfl⟩) (by omega))
         · obtain ⟨rfl, rfl⟩ := h1 (by omega)
           have hbl := bS_lt (ownV K m p N fg z) k
           refine V.if_lt (tgt := 116) dX6_bestPlan_103 (by decide) (fun q => absurd q (nI_pos (by omega))) (fun _ => ?_)
           refine V.iload dX6_bestPlan_106 rfl ?_
           refine V.iload dX6_bestPlan_108 rfl ?_
           refine V.icmp_gt (tgt := 116) dX6_bestPlan_110 (by decide) (fun c110 => ?_) (fun c110 => ?_)
           · refine V.iload dX6_bestPlan_116 rfl ?_
             refine V.ist6 dX6_bestPlan_118 (by decide) rfl ?_
             refine V.iload dX6_bestPlan_120 rfl ?_
             refine V.ist7 dX6_bestPlan_122 (by decide) rfl ?_
             refine V.inN8 dX6_bestPlan_124 (by decide) rfl ?_
             refine V.goto (tgt := 57) dX6_bestPlan_127 (by decide) ?_
             exact V.drop 9 (ih (k + 1) (nI k) (ownV K m p N fg z k) X2 (fun y => absurd y (by omega)) (fun _ => by rw [show bS (ownV K m p N fg z) (k + 1) = (k, ownV K m p N fg z k) from if_pos c110]; exact ⟨rfl, rfl⟩) (by omega))
           · refine V.goto (tgt := 124) dX6_bestPlan_113 (by decide) ?_
             refine V.inN8 dX6_bestPlan_124 (by decide) rfl ?_
             refine V.goto (tgt := 57) dX6_bestPlan_127 (by decide) ?_
             exact V.drop 9 (ih (k + 1) _ _ X2 (fun y => absurd y (by omega)) (fun _ => by rw [show bS (ownV K m p N fg z) (k + 1) = bS (ownV K m p N fg z) k from if_neg c110]; exact ⟨rfl, rfl⟩) (by omega)))
      | (have eo : ownV K m p N fg z k = -(agL (roleU K p (nI k) fg) m z N) := if_neg c88
         refine V.ist9 dX6_bestPlan_99 (by decide) rfl ?_
         rw [← eo]
         refine V.iload dX6_bestPlan_101 rfl ?_
         by_cases hk0 : k = 0
         · obtain ⟨rfl, rfl⟩ := h0 hk0
           refine V.if_lt (tgt := 116) dX6_bestPlan_103 (by decide) (fun _ => ?_) (fun q => absurd (by decide) q)
           refine V.iload dX6_bestPlan_116 rfl ?_
           refine V.ist6 dX6_bestPlan_118 (by decide) rfl ?_
           refine V.iload dX6_bestPlan_120 rfl ?_
           refine V.ist7 dX6_bestPlan_122 (by decide) rfl ?_
           refine V.inN8 dX6_bestPlan_124 (by decide) rfl ?_
           refine V.goto (tgt := 57) dX6_bestPlan_127 (by decide) ?_
           exact V.drop 9 (ih (k + 1) (nI k) (ownV K m p N fg z k) X2 (fun y => absurd y (by omega)) (fun _ => by rw [hk0, bS_1 K m p N fg z (by omega)]; exact ⟨rfl, rfl⟩) (by omega))
         · obtain ⟨rfl, rfl⟩ := h1 (by omega)
           have hbl := bS_lt (ownV K m p N fg z) k
           refine V.if_lt (tgt := 116) dX6_bestPlan_103 (by decide) (fun q => absurd q (nI_pos (by omega))) (fun _ => ?_)
           refine V.iload dX6_bestPlan_106 rfl ?_
           refine V.iload dX6_bestPlan_108 rfl ?_
           refine V.icmp_gt (tgt := 116) dX6_bestPlan_110 (by decide) (fun c110 => ?_) (fun c110 => ?_)
           · refine V.iload dX6_bestPlan_116 rfl ?_
             refine V.ist6 dX6_bestPlan_118 (by decide) rfl ?_
             refine V.iload dX6_bestPlan_120 rfl ?_
             refine V.ist7 dX6_bestPlan_122 (by decide) rfl ?_
             refine V.inN8 dX6_bestPlan_124 (by decide) rfl ?_
             refine V.goto (tgt := 57) dX6_bestPlan_127 (by decide) ?_
             exact V.drop 9 (ih (k + 1) (nI k) (ownV K m p N fg z k) X2 (fun y => absurd y (by omega)) (fun _ => by rw [show bS (ownV K m p N fg z) (k + 1) = (k, ownV K m p N fg z k) from if_pos c110]; exact ⟨rfl, rfl⟩) (by omega))
           · refine V.goto (tgt := 124) dX6_bestPlan_113 (by decide) ?_
             refine V.inN8 dX6_bestPlan_124 (by decide) rfl ?_
             refine V.goto (tgt := 57) dX6_bestPlan_127 (by decide) ?_
             exact V.drop 9 (ih (k + 1) _ _ X2 (fun y => absurd y (by omega)) (fun _ => by rw [show bS (ownV K m p N fg z) (k + 1) = bS (ownV K m p N fg z) k from if_neg c110]; exact ⟨rfl, rfl⟩) (by omega)))
set_option maxRecDepth 20000 in
set_option maxHeartbeats 4000000 in
theorem m_bestPlan (l : Launch) (d : Nat) (h : MH) (n : Nat) (K : KK) (b : Bool) (KI : KK) (S : SS) (m : Nat) (hc : ModAt h K b KI S) (hT : TI K m) (x fg y z w : Int32) : Sp l mX6_bestPlan (d + 11) [.ref 78, .int x, .int fg, .int y, .int z, .int w] h n 0 0 (Qm (bestV K m x fg y z w) K b KI S h n) := by
  have hD := hT.1
  have hm := hD.1.1
  have hm10 := hD.1.2.1
  obtain ⟨⟨th, po, ba, en, tt, hm0⟩, ha, hb, ⟨Km, hmi⟩, ⟨Kr, hre⟩, h83, h84, h85, h86, h87, h88, ⟨X89, h89⟩, ⟨X90, h90⟩, ⟨X91, h91⟩, ⟨X92, h92⟩⟩ := id hc
  show V _ _ _ _ [some (.ref 78), some (.int x), some (.int fg), some (.int y), some (.int z), some (.int w), none, none, none, none] _ _ _ _ _ _
  refine V.aload_n dX6_bestPlan_0 rfl ?_
  refine V.iload_n dX6_bestPlan_1 rfl ?_
  refine V.callVv [_] dX6_bestPlan_2 lk_X6_214 rfl (Nat.le_of_ble_eq_true rfl) (Nat.le_of_ble_eq_true rfl) hm0 rfl (m_isPlayer _ _ _ _ _ _ _ _ _ hc hT _) ?_
  refine V.if_eqB (tgt := 43) dX6_bestPlan_5 (by decide) (fun c5 => ?_) (fun c5 => ?_)
  · refine V.ldcw dX6_bestPlan_43 cn_X6_271 ?_
    exact V.iret (by exact dX6_bestPlan_46) rfl rfl ⟨by simp only [bestV, c5, not_true_eq_false, not_false_eq_true, if_true, if_false, decide_true, decide_false, Bool.and_true, Bool.and_false, Bool.true_and, Bool.false_and, Bool.or_true, Bool.or_false, Bool.true_or, Bool.false_or, Bool.not_true, Bool.not_false, and_true, and_false, true_and, false_and, or_true, or_false, true_or, false_or, bIt, bIf, Bool.false_eq_true, reduceCtorEq], rfl, hc, fun _ _ => rfl⟩
  · refine V.iload_n dX6_bestPlan_8 rfl ?_
    refine V.i2l dX6_bestPlan_9 ?_
    refine V.lconst (v := 0) dX6_bestPlan_10 (by decide) ?_
    refine V.ldc2 dX6_bestPlan_11 cn_X6_277 ?_
    refine V.callSv [_, _, _] dX6_bestPlan_14 lk_X6_62 rfl (Nat.le_of_ble_eq_true rfl) (Nat.le_of_ble_eq_true rfl) (s6_isInC _ _ _ (nI 0) (nI 9) (by decide) (by decide) _ _) ?_
    refine V.if_eqB (tgt := 43) dX6_bestPlan_17 (by decide) (fun c17 => ?_) (fun c17 => ?_)
    · refine V.ldcw dX6_bestPlan_43 cn_X6_271 ?_
      exact V.iret (by exact dX6_bestPlan_46) rfl rfl ⟨by simp only [bestV, c5, c17, not_true_eq_false, not_false_eq_true, if_true, if_false, decide_true, decide_false, Bool.and_true, Bool.and_false, Bool.true_and, Bool.false_and, Bool.or_true, Bool.or_false, Bool.true_or, Bool.false_or, Bool.not_true, Bool.not_false, and_true, and_false, true_and, false_and, or_true, or_false, true_or, false_or, bIt, bIf, Bool.false_eq_true, reduceCtorEq], rfl, hc, fun _ _ => rfl⟩
    · refine V.iload_n dX6_bestPlan_20 rfl ?_
      refine V.i2l dX6_bestPlan_21 ?_
      refine V.lconst (v := 1) dX6_bestPlan_22 (by decide) ?_
      refine V.ldc2 dX6_bestPlan_23 cn_X6_172 ?_
      refine V.callSv [_, _, _] dX6_bestPlan_26 lk_X6_62 rfl (Nat.le_of_ble_eq_true rfl) (Nat.le_of_ble_eq_true rfl) (s6_isInC _ _ _ (nI 1) (nI 5) (by decide) (by decide) _ _) ?_
      refine V.if_eqB (tgt := 43) dX6_bestPlan_29 (by decide) (fun c29 => ?_) (fun c29 => ?_)
      · refine V.ldcw dX6_bestPlan_43 cn_X6_271 ?_
        exact V.iret (by exact dX6_bestPlan_46) rfl rfl ⟨by simp only [bestV, c5, c17, c29, not_true_eq_false, not_false_eq_true, if_true, if_false, decide_true, decide_false, Bool.and_true, Bool.and_false, Bool.true_and, Bool.false_and, Bool.or_true, Bool.or_false, Bool.true_or, Bool.false_or, Bool.not_true, Bool.not_false, and_true, and_false, true_and, false_and, or_true, or_false, true_or, false_or, bIt, bIf, Bool.false_eq_true, reduceCtorEq], rfl, hc, fun _ _ => rfl⟩
      · refine V.iload dX6_bestPlan_32 rfl ?_
        refine V.i2l dX6_bestPlan_34 ?_
        refine V.lconst (v := 0) dX6_bestPlan_35 (by decide) ?_
        refine V.lconst (v := 1) dX6_bestPlan_36 (by decide) ?_
        refine V.callSv [_, _, _] dX6_bestPlan_37 lk_X6_62 rfl (Nat.le_of_ble_eq_true rfl) (Nat.le_of_ble_eq_true rfl) (s6_isInC _ _ _ (nI 0) (nI 1) (by decide) (by decide) _ _) ?_
        refine V.if_neB (tgt := 47) dX6_bestPlan_40 (by decide) (fun c40 => ?_) (fun c40 => ?_)
        · obtain ⟨p, hp, rfl⟩ := pl_ex hm hm10 c5
          obtain ⟨N, hN1, hN, rfl⟩ := wi1_ex (by decide) c29
          obtain ⟨q, hq10, hq, h89q⟩ := hT.2.2.1
          refine V.bipush (v := -4) dX6_bestPlan_47 (by decide) ?_
          refine V.ist6 dX6_bestPlan_49 (by decide) rfl ?_
          refine V.iconst (v := nI 0) dX6_bestPlan_51 (by decide) ?_
          refine V.ist7 dX6_bestPlan_52 (by decide) rfl ?_
          refine V.iconst (v := nI 0) dX6_bestPlan_54 (by decide) ?_
          refine V.ist8 dX6_bestPlan_55 (by decide) rfl ?_
          refine V.hp (hset_id hmi).symm (m_best_loop l d n N m p hN1 (by omega) z w fg K hD hp h b th po ba en tt hm0 ha (fun p hp => hT.2.1 p (by omega)) q hq h89q (fun X => ?_) 8 0 (-4) (nI 0) Km (fun _ => ⟨rfl, rfl⟩) (fun y => absurd y (by omega)) (by omega))
          have hv : bestV K m (nI p) fg (nI N) z w = if w = 0 then nI (bS (ownV K m p N fg z) 8).1 else (bS (ownV K m p N fg z) 8).2 := by
            rw [bestV, clampI (show p < 2147483648 by omega), clampI (show N < 2147483648 by omega), c5, c17, c29, c40]
            rfl
          refine V.iload dX6_bestPlan_130 rfl ?_
          refine V.if_ne (tgt := 140) dX6_bestPlan_132 (by decide) (fun c142 => ?_) (fun c142 => ?_)
          · refine V.iload dX6_bestPlan_140 rfl ?_
            exact V.iret (by exact dX6_bestPlan_142) rfl rfl ⟨by rw [hv, if_neg c142], rfl, hc.mi X, fun q hq => hset_ne _ _ (by omega)⟩
          · refine V.iload dX6_bestPlan_135 rfl ?_
            refine V.goto (tgt := 142) dX6_bestPlan_137 (by decide) ?_
            exact V.iret (by exact dX6_bestPlan_142) rfl rfl ⟨by rw [hv, if_pos c142], rfl, hc.mi X, fun q hq => hset_ne _ _ (by omega)⟩
        · refine V.ldcw dX6_bestPlan_43 cn_X6_271 ?_
          exact V.iret (by exact dX6_bestPlan_46) rfl rfl ⟨by simp only [bestV, c5, c17, c29, c40, not_true_eq_false, not_false_eq_true, if_true, if_false, decide_true, decide_false, Bool.and_true, Bool.and_false, Bool.true_and, Bool.false_and, Bool.or_true, Bool.or_false, Bool.true_or, Bool.false_or, Bool.not_true, Bool.not_false, and_true, and_false, true_and, false_and, or_true, or_false, true_or, false_or, bIt, bIf, Bool.false_eq_true, reduceCtorEq], rfl, hc, fun _ _ => rfl⟩
