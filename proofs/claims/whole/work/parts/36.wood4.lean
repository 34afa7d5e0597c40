theorem cntS_mono (P : Nat → Int32) (e : Nat) : ∀ {i j : Nat}, i ≤ j → cntS P e i ≤ cntS P e j := by
  intro i j
  induction j with
  | zero => intro h; rw [show i = 0 by omega]; exact Nat.le_refl _
  | succ j ih =>
    intro h
    by_cases q : i = j + 1
    · rw [q]; exact Nat.le_refl _
    · exact Nat.le_trans (ih (by omega)) (by rw [cntS]; omega)
theorem pyL_free (K : KK) (m p : Nat) (home : Int32) : ∀ q, pyL K m p home q = -4 ∨ ∃ j : Nat, j < q ∧ pyL K m p home q = nI j ∧ frB K j = true := by
  intro q
  induction q with
  | zero => exact Or.inl rfl
  | succ q ih =>
    rw [pyL]
    split
    · rename_i h
      refine Or.inr ⟨q, by omega, rfl, ?_⟩
      simp only [Bool.and_eq_true, pyC] at h
      exact h.1.2.1
    · rcases ih with h | ⟨j, hj, h1, h2⟩
      · exact Or.inl h
      · exact Or.inr ⟨j, by omega, h1, h2⟩
theorem goal_cell {K : KK} {m p : Nat} (hK : KR K m) (hF : KF K m) (hp : p < m) (hf : gP K p 5 = nI 0) : cellv (goal K m p) := by
  have h3 := hK.2.2.2.2.2.2.2 p hp
  have h4 := hK.2.2.2.2.1 p hp hf
  have hm := hK.2.1
  have hfl : cellv (K (96 + 2 * (1 - (gP K p 0).toNatClampNeg))) := hF.1 _ (by omega)
  unfold goal
  split
  · exact h3
  · split
    · split
      · split
        · exact h3
        · split
          · exact gl_cell _
          · split
            · exact ⟨39, by omega, rfl⟩
            · exact ⟨44, by omega, rfl⟩
      · rename_i hn
        rcases pyL_free K m p (if role K m p 0 = nI 5 then gl (gP K p 0) else gP K p 3) m with h | ⟨j, hj, h1, h2⟩
        · exact absurd (show prey K m p < 0 by rw [prey, h]; decide) hn
        · rw [prey, h1, clampI (by omega)]
          exact hK.2.2.2.2.1 j hj (frB_z h2)
    · split
      · split
        · exact h3
        · split
          · exact h4
          · exact hfl
      · split
        · split
          · exact h4
          · exact hfl
        · split
          · split
            · exact gl_cell _
            · exact hfl
          · exact hfl
theorem PR_sta {m : Nat} {K K1 : KK} {P : Nat → Int32} {pn : Nat} (h : PR K P pn) (g : Sta m K K1) : PR K1 P pn := by
  obtain ⟨a, b, c, d⟩ := h
  refine ⟨a, fun e he => ?_, c, fun i e hi he q => ?_⟩
  · rw [g.1 _ (by omega)]; exact b e he
  · have hc : cntS P e i ≤ 2 := Nat.le_trans (cntS_mono P e (by omega)) (b e he).2
    have hlt : cntS P e i < 2 := by
      have h1 : cntS P e (i + 1) ≤ 2 := Nat.le_trans (cntS_mono P e (by omega)) (b e he).2
      rw [cntS, if_pos q] at h1
      omega
    rw [g.1 _ (by omega), g.1 _ (by omega), g.1 _ (by omega)]
    exact d i e hi he q
theorem wlk_mvA {K : KK} {m p e : Nat} (hF : KF K m) (hp : p < m) (he : e < 2) (hs : gP K p 0 = nI e) (to : Int32) : wlk K p e to = mvA K p to := by
  have h1 := hF.2 p e hp he hs
  have h2 : ∀ f, f < 2 → mv1 K p to (97 + 2 * f) = K (97 + 2 * f) := fun f hf => by rw [mv1, pk_un (by omega), pk_un (by omega)]
  unfold wlk mvA
  split
  · rfl
  · have : e = 0 ∨ e = 1 := by omega
    rcases this with rfl | rfl
    · rw [show mfl (mv1 K p to) p 0 to = mv1 K p to from if_neg (by rw [h2 0 (by omega)]; exact h1)]
    · rw [show mfl (mfl (mv1 K p to) p 0 to) p (0 + 1) to = mfl (mv1 K p to) p 0 to from if_neg (by
        have h3 : mfl (mv1 K p to) p 0 to (97 + 2 * 1) = mv1 K p to (97 + 2 * 1) := by
          unfold mfl
          split
          · rw [pk_un (by omega)]
          · rfl
        rw [show 97 + 2 * (0 + 1) = 97 + 2 * 1 from rfl, h3, h2 1 (by omega)]; exact h1)]
set_option maxRecDepth 20000 in
set_option maxHeartbeats 4000000 in
theorem s4_tick_b (l : Launch) (d : Nat) (h : MH) (n w : Nat) (K : KK) (cl P : Nat → Int32) (pn : Nat) (hw : WoodAt h w K cl P pn) (p e m : Nat) (hp : p < m) (he : e < 2) (hD : KD K m) (hs : gP K p 0 = nI e) (hfr : gP K p 5 = nI 0) {Q : Option Value → MH → Nat → Prop} (kk : ∀ h1 : MH, WoodAt h1 w (acC (mts K m p) p) cl P pn → Out h h1 w → V l mX4_tick (d + 5) 125 [some (.ref w), some (.int (nI p)), some (.ref (w + 8 + p))] [] h1 n 0 0 Q) : V l mX4_tick (d + 5) 90 [some (.ref w), some (.int (nI p)), some (.ref (w + 8 + p))] [] h n 0 0 Q := by
  have hm10 := hD.1.2.1
  obtain ⟨hw0, ⟨gr, hgr, egr⟩, ⟨ru, hru, eru⟩, ⟨pq, hpf, epf⟩, hpl, ⟨fl, hfl, efl⟩, ⟨ca, hca, eca⟩, ⟨wa, hwa⟩, hpp, hhd⟩ := id hw
  refine V.aload_n dX4_tick_90 rfl ?_
  refine V.iload_n dX4_tick_91 rfl ?_
  refine V.callVw [_] dX4_tick_92 lk_X4_209 rfl (Nat.le_of_ble_eq_true rfl) (Nat.le_of_ble_eq_true rfl) hw0 rfl (s4_touchAround _ _ _ _ _ _ _ _ _ hw _ e m hp he hD hs hfr) (fun h1 hw1 ho1 => ?_)
  have hS := Sta_mtL p (gP K p 0) (decide (hfc (gP K p 4) = gP K p 0)) hp m 0 K (Sta_rf m K) (by omega)
  have hD1 := KD_mtL p (gP K p 0) (decide (hfc (gP K p 4) = gP K p 0)) hp m 0 K hD (by omega)
  change Sta m K (mts K m p) at hS
  change KD (mts K m p) m at hD1
  generalize mts K m p = K1 at hS hD1 hw1 kk ⊢
  have hs1 : gP K1 p 0 = nI e := (hS.2.1 p 0 (by omega)).trans hs
  obtain ⟨hw01, -, -, -, -, -, -, -, hpp1, hhd1⟩ := id hw1
  refine V.aload_n dX4_tick_95 rfl ?_
  refine V.iload_n dX4_tick_96 rfl ?_
  refine V.callVv [_] dX4_tick_97 lk_X4_156 rfl (Nat.le_of_ble_eq_true rfl) (Nat.le_of_ble_eq_true rfl) hw01 rfl (s4_carries _ _ _ _ _ _ _ _ _ hw1 _ _ (by omega) he hs1) ?_
  refine V.if_eqB (tgt := 125) dX4_tick_100 (by decide) (fun c100 => ?_) (fun c100 => ?_)
  · first
    | exact kk h1 (by rw [acC, if_pos hfr1, hsc, if_pos hc1, if_neg c114]; exact hw1) ho1
    | exact kk h1 (by rw [show acC K1 p = K1 by (rw [acC, hs1, clampI (by omega), if_neg (of_decide_eq_false c100)]; split <;> rfl)]; exact hw1) ho1
  · have hc1 : K1 (97 + 2 * (1 - e)) = nI p := of_decide_eq_true c100
    have hf1 : gP K1 p 5 = nI 0 := Classical.byContradiction fun y => hD1.2.2.2.1 p (1 - e) hp (by omega) y hc1
    have hfr1 : frB K1 p = true := decide_eq_true hf1
    have hcp1 : cAt K1 cl p = gP K1 p 4 := cAt_fr hfr1
    have hc41 := hD1.1.2.2.2.2.1 p hp hf1
    have hsc : 1 - (gP K1 p 0).toNatClampNeg = 1 - e := by rw [hs1, clampI (by omega)]
    refine V.aload_n dX4_tick_103 rfl ?_
    refine V.getf dX4_tick_104 fl_X4_139 (hpp1 _ (by omega)) rfl ?_
    rw [hcp1]
    refine V.callSv [_] dX4_tick_107 lk_X4_116 rfl (Nat.le_of_ble_eq_true rfl) (Nat.le_of_ble_eq_true rfl) (s5_sideOf _ _ _ (by assumption) _ _) ?_
    refine V.aload_n dX4_tick_110 rfl ?_
    refine V.getf dX4_tick_111 fl_X4_104 (hpp1 _ (by omega)) rfl ?_
    refine V.icmp_ne (tgt := 125) dX4_tick_114 (by decide) (fun c114 => ?_) (fun c114 => ?_)
    · first
      | exact kk h1 (by rw [acC, if_pos hfr1, hsc, if_pos hc1, if_neg c114]; exact hw1) ho1
      | exact kk h1 (by rw [show acC K1 p = K1 by (rw [acC, hs1, clampI (by omega), if_neg (of_decide_eq_false c100)]; split <;> rfl)]; exact hw1) ho1
    · refine V.aload_n dX4_tick_117 rfl ?_
      refine V.aload_n dX4_tick_118 rfl ?_
      refine V.getf dX4_tick_119 fl_X4_104 (hpp1 _ (by omega)) rfl ?_
      refine V.putf dX4_tick_122 fp_X4_61 hw01 (Nat.le_of_ble_eq_true rfl) (fun _ => ⟨rfl, rfl⟩) ?_
      exact kk _ (by rw [acC, if_pos hfr1, hsc, if_pos hc1, if_pos c114]; exact hw1.ob 92 (gP K1 p 0) (by omega) (by omega)) (ho1.set _ _ (by omega) (by omega))
set_option maxRecDepth 20000 in
set_option maxHeartbeats 4000000 in
theorem s4_tick_a (l : Launch) (d : Nat) (h : MH) (n w : Nat) (K : KK) (cl P : Nat → Int32) (pn : Nat) (hw : WoodAt h w K cl P pn) (p e m : Nat) (hp : p < m) (he : e < 2) (hD : KD K m) (hPR : PR K P pn) (hs : gP K p 0 = nI e) (hfr : gP K p 5 = nI 0) {Q : Option Value → MH → Nat → Prop} (kk : ∀ h1 : MH, WoodAt h1 w (mvs K m p) cl P pn → Out h h1 w → V l mX4_tick (d + 5) 90 [some (.ref w), some (.int (nI p)), some (.ref (w + 8 + p))] [] h1 n 0 0 Q) : V l mX4_tick (d + 5) 65 [some (.ref w), some (.int (nI p)), some (.ref (w + 8 + p))] [] h n 0 0 Q := by
  have hm10 := hD.1.2.1
  have hc4 := hD.1.2.2.2.2.1 p hp hfr
  have hcp : cAt K cl p = gP K p 4 := if_neg (by rw [hfr]; decide)
  have hgc : cellv (goal K m p) := goal_cell hD.1 hD.2.1 hp hfr
  have hto : cellv (nxt K p (goal K m p)) := nxt_cell _ hc4
  obtain ⟨hw0, ⟨gr, hgr, egr⟩, ⟨ru, hru, eru⟩, ⟨pq, hpf, epf⟩, hpl, ⟨fl, hfl, efl⟩, ⟨ca, hca, eca⟩, ⟨wa, hwa⟩, hpp, hhd⟩ := id hw
  refine V.aload_n dX4_tick_65 rfl ?_
  refine V.iload_n dX4_tick_66 rfl ?_
  refine V.aload_n dX4_tick_67 rfl ?_
  refine V.aload_n dX4_tick_68 rfl ?_
  refine V.aload_n dX4_tick_69 rfl ?_
  refine V.iload_n dX4_tick_70 rfl ?_
  refine V.callVv [_] dX4_tick_71 lk_X4_196 rfl (Nat.le_of_ble_eq_true rfl) (Nat.le_of_ble_eq_true rfl) hw0 rfl (s4_goalOf _ _ _ _ _ _ _ _ _ hw _ m hPR hD.1 hp hfr hD.2.1) ?_
  refine V.callVv [_, _] dX4_tick_74 lk_X4_187 rfl (Nat.le_of_ble_eq_true rfl) (Nat.le_of_ble_eq_true rfl) hw0 rfl (s4_step _ _ _ _ _ _ _ _ _ hw _ (by omega) hcp _ hc4 hgc) ?_
  refine V.callVw [_, _] dX4_tick_77 lk_X4_199 rfl (Nat.le_of_ble_eq_true rfl) (Nat.le_of_ble_eq_true rfl) hw0 rfl (s4_walk _ _ _ _ _ _ _ _ _ hw _ e _ (by omega) he hs hto hfr) (fun h1 hw1 ho1 => ?_)
  rw [wlk_mvA hD.2.1 hp he hs] at hw1
  have hD1 : KD (mvA K p (nxt K p (goal K m p))) m := KD_mvA hD p _ hto
  have hs1 : gP (mvA K p (nxt K p (goal K m p))) p 0 = nI e := (mvA_gP _ _ _ _ _ (by omega) (fun _ => by omega)).trans hs
  have hf1 : gP (mvA K p (nxt K p (goal K m p))) p 5 = nI 0 := (mvA_gP _ _ _ _ _ (by omega) (fun _ => by omega)).trans hfr
  have h41 := mvA_4 K p (nxt K p (goal K m p))
  have hfin : mvs K m p = mvF (mvT (mvA K p (nxt K p (goal K m p))) p (nxt K p (goal K m p)) (1 - e)) m (nxt K p (goal K m p)) (nI e) (1 - e) := by rw [mvs, hs, clampI (by omega)]
  rw [hfin] at kk
  generalize mvA K p (nxt K p (goal K m p)) = K1 at hw1 hD1 hs1 hf1 h41 kk
  obtain ⟨hw01, -, -, -, -, -, -, -, hpp1, hhd1⟩ := id hw1
  refine V.aload_n dX4_tick_80 rfl ?_
  refine V.iload_n dX4_tick_81 rfl ?_
  refine V.callVw [_] dX4_tick_82 lk_X4_203 rfl (Nat.le_of_ble_eq_true rfl) (Nat.le_of_ble_eq_true rfl) hw01 rfl (s4_takeFlag _ _ _ _ _ _ _ _ _ hw1 _ e m (by omega) he hm10 hs1 hf1 hD1.2.2.1) (fun h2 hw2 ho2 => ?_)
  rw [h41] at hw2
  have hD2 : KD (mvT K1 p (nxt K p (goal K m p)) (1 - e)) m := KD_mvT hD1 p _ _ (by omega) hp (by rw [hs1, show 1 - (1 - e) = e by omega]) hf1
  have hs2 : gP (mvT K1 p (nxt K p (goal K m p)) (1 - e)) p 0 = nI e := (mvT_gP _ _ _ _ _ _ (by omega)).trans hs1
  have hf2 : gP (mvT K1 p (nxt K p (goal K m p)) (1 - e)) p 5 = nI 0 := (mvT_gP _ _ _ _ _ _ (by omega)).trans hf1
  have h42 : gP (mvT K1 p (nxt K p (goal K m p)) (1 - e)) p 4 = nxt K p (goal K m p) := (mvT_gP _ _ _ _ _ _ (by omega)).trans h41
  generalize mvT K1 p (nxt K p (goal K m p)) (1 - e) = K2 at hw2 hD2 hs2 hf2 h42 kk
  obtain ⟨hw02, -, -, -, -, -, -, -, hpp2, hhd2⟩ := id hw2
  refine V.aload_n dX4_tick_85 rfl ?_
  refine V.aload_n dX4_tick_86 rfl ?_
  refine V.callVw [_] dX4_tick_87 lk_X4_206 rfl (Nat.le_of_ble_eq_true rfl) (Nat.le_of_ble_eq_true rfl) hw02 rfl (s4_free _ _ _ _ _ _ _ _ _ hw2 _ e m hp he hD2 hs2 hf2) (fun h3 hw3 ho3 => ?_)
  rw [h42] at hw3
  exact kk h3 hw3 ((ho1.tr ho2).tr ho3)
theorem frL_free {s : Int32} {p : Nat} : ∀ (r i : Nat) (K : KK), gP K p 5 = nI 0 → gP (frL s r i K) p 5 = nI 0 := by
  intro r
  induction r with
  | zero => intro i K h; exact h
  | succ r ih =>
    intro i K h
    have h1 : gP (rel K i) p 5 = nI 0 := by
      rw [rel_gP _ _ _ _ (by omega), if_neg (by omega), if_neg (by omega)]
      split
      · rfl
      · exact h
    rw [frL]
    split
    · split
      · split
        · exact h1
        · exact ih _ _ h1
      · exact ih _ _ h
    · exact ih _ _ h
theorem mvs_free {K : KK} {m p : Nat} (hD : KD K m) (hp : p < m) (hf : gP K p 5 = nI 0) : gP (mvs K m p) p 5 = nI 0 := by
  have h1 : gP (mvT (mvA K p (nxt K p (goal K m p))) p (nxt K p (goal K m p)) (1 - (gP K p 0).toNatClampNeg)) p 5 = nI 0 := by
    rw [mvT_gP _ _ _ _ _ _ (by omega), mvA_gP _ _ _ _ _ (by omega) (fun _ => by omega)]; exact hf
  unfold mvs mvF
  split
  · split
    · exact frL_free _ _ _ h1
    · exact h1
  · exact h1
set_option maxRecDepth 20000 in
set_option maxHeartbeats 4000000 in
theorem s4_tick_loop (l : Launch) (d n w : Nat) (cl P : Nat → Int32) (pn : Nat) (h0 : MH) (m : Nat) : ∀ (r i : Nat) (K : KK) (h : MH), WoodAt h w K cl P pn → KD K m → PR K P pn → Out h0 h w → i + r = m → V l mX4_tick (d + 5) 12 [some (.ref w), some (.int (nI i)), none] [] h n 0 0 (Wq w (scL m r i K) cl P pn h0 n) := by
  intro r
  induction r with
  | zero =>
    intro i K h hw hD hPR ho hi
    have hm := hD.1.1
    have hm10 := hD.1.2.1
    obtain ⟨hw0, ⟨gr, hgr, egr⟩, ⟨ru, hru, eru⟩, ⟨pq, hpf, epf⟩, hpl, ⟨fl, hfl, efl⟩, ⟨ca, hca, eca⟩, ⟨wa, hwa⟩, hpp, hhd⟩ := id hw
    refine V.iload_n dX4_tick_12 rfl ?_
    refine V.aload_n dX4_tick_13 rfl ?_
    refine V.getf dX4_tick_14 fl_X4_51 hw0 rfl ?_
    rw [hm]
    refine V.icmp_geN (tgt := 131) dX4_tick_17 (by decide) (by omega) (by omega) (fun _ => ?_) (fun q => absurd q (by omega))
    exact V.vret (by exact dX4_tick_131) rfl ⟨rfl, rfl, hw, ho⟩
  | succ r ih =>
    intro i K h hw hD hPR ho hi
    have hm := hD.1.1
    have hm10 := hD.1.2.1
    obtain ⟨hw0, ⟨gr, hgr, egr⟩, ⟨ru, hru, eru⟩, ⟨pq, hpf, epf⟩, hpl, ⟨fl, hfl, efl⟩, ⟨ca, hca, eca⟩, ⟨wa, hwa⟩, hpp, hhd⟩ := id hw
    refine V.iload_n dX4_tick_12 rfl ?_
    refine V.aload_n dX4_tick_13 rfl ?_
    refine V.getf dX4_tick_14 fl_X4_51 hw0 rfl ?_
    rw [hm]
    refine V.icmp_geN (tgt := 131) dX4_tick_17 (by decide) (by omega) (by omega) (fun q => absurd q (by omega)) (fun _ => ?_)
    refine V.aload_n dX4_tick_20 rfl ?_
    refine V.getf dX4_tick_21 fl_X4_61 hw0 rfl ?_
    refine V.iconst (v := nI 2) dX4_tick_24 (by decide) ?_
    refine V.icmp_ne (tgt := 131) dX4_tick_25 (by decide) (fun c25 => ?_) (fun c25 => ?_)
    · exact V.vret (by exact dX4_tick_131) rfl ⟨rfl, rfl, by rw [scL, if_neg c25]; exact hw, ho⟩
    · refine V.aload_n dX4_tick_28 rfl ?_
      refine V.getf dX4_tick_29 fl_X4_20 hw0 rfl ?_
      refine V.iload_n dX4_tick_32 rfl ?_
      refine V.aaldN dX4_tick_33 (Or.inl rfl) hpf (by omega) (by decide) (epf _ (by omega)) ?_
      refine V.ast2 dX4_tick_34 (by decide) rfl ?_
      refine V.aload_n dX4_tick_35 rfl ?_
      refine V.callVv [] dX4_tick_36 lk_X4_135 rfl (Nat.le_of_ble_eq_true rfl) (Nat.le_of_ble_eq_true rfl) (hpp _ (by omega)) rfl (s0_isFree _ _ _ _ _ _ _ _ _ hw _ (by omega)) ?_
      refine V.if_neB (tgt := 45) dX4_tick_39 (by decide) (fun c39 => ?_) (fun c39 => ?_)
      · have hfi : gP K i 5 = nI 0 := frB_z c39
        obtain ⟨e, he, hs⟩ := hD.1.2.2.1 i (by omega)
        have hDa := KD_act hD (show i < m by omega) hfi
        have hSa := Sta_act (Sta_rf m K) i (by omega) (by rw [hfi]; decide)
        have hst : ∀ h1 : MH, WoodAt h1 w (act K m i) cl P pn → Out h h1 w → V l mX4_tick (d + 5) 125 [some (.ref w), some (.int (nI i)), some (.ref (w + 8 + i))] [] h1 n 0 0 (Wq w (scL m (r + 1) i K) cl P pn h0 n) := by
          intro h1 hw1 ho1
          refine V.inN1 dX4_tick_125 (by decide) rfl ?_
          refine V.goto (tgt := 12) dX4_tick_128 (by decide) ?_
          rw [scL, if_pos c25, c39, if_pos rfl]
          exact V.drop 2 (ih (i + 1) (act K m i) h1 hw1 hDa (PR_sta hPR hSa) (ho.tr ho1) (by omega))
        refine V.aload_n dX4_tick_45 rfl ?_
        refine V.getf dX4_tick_46 fl_X4_193 (hpp _ (by omega)) rfl ?_
        refine V.if_le (tgt := 65) dX4_tick_49 (by decide) (fun c49 => ?_) (fun c49 => ?_)
        · refine s4_tick_a l d h n w K cl P pn hw i e m (by omega) he hD hPR hs hfi (fun h1 hw1 ho1 => ?_)
          have hS1 := Sta_mvs (Sta_rf m K) i (by omega) (by rw [hfi]; decide)
          exact s4_tick_b l d h1 n w (mvs K m i) cl P pn hw1 i e m (by omega) he (KD_mvs hD (by omega) hfi) ((hS1.2.1 i 0 (by omega)).trans hs) (mvs_free hD (by omega) hfi) (fun h2 hw2 ho2 => hst h2 (by rw [act, if_neg (show ¬ 0 < gP K i 6 from Int32.not_lt.mpr c49)]; exact hw2) (ho1.tr ho2))
        · refine V.aload_n dX4_tick_52 rfl ?_
          refine V.dup dX4_tick_53 rfl ?_
          refine V.getf dX4_tick_54 fl_X4_193 (hpp _ (by omega)) rfl ?_
          refine V.iconst (v := nI 1) dX4_tick_57 (by decide) ?_
          refine V.isub dX4_tick_58 ?_
          refine V.putf dX4_tick_59 fp_X4_193 (hpp _ (by omega)) (Nat.le_of_ble_eq_true rfl) (fun _ => ⟨rfl, rfl⟩) ?_
          rw [pF_left]
          refine V.goto (tgt := 90) dX4_tick_62 (by decide) ?_
          exact s4_tick_b l d _ n w (upd K (114 + 7 * i + 6) (gP K i 6 - nI 1)) cl P pn (hw.pl i 6 _ (by omega) (by omega) (fun q => absurd q (by decide))) i e m (by omega) he (KD_pl hD i 6 _ (by omega) (fun q => by omega)) (by rw [gP_upd _ _ _ _ _ _ (by omega) (by omega), if_neg (by omega)]; exact hs) (by rw [gP_upd _ _ _ _ _ _ (by omega) (by omega), if_neg (by omega)]; exact hfi) (fun h1 hw1 ho1 => hst h1 (by rw [act, if_pos (show 0 < gP K i 6 from Int32.not_le.mp c49)]; exact hw1) (((Out.rf h w).set _ _ (by omega) (by omega)).tr ho1))
      · refine V.goto (tgt := 125) dX4_tick_42 (by decide) ?_
        refine V.inN1 dX4_tick_125 (by decide) rfl ?_
        refine V.goto (tgt := 12) dX4_tick_128 (by decide) ?_
        rw [scL, if_pos c25, c39, if_neg (by decide)]
        exact V.drop 2 (ih (i + 1) K h hw hD hPR ho (by omega))
set_option maxRecDepth 20000 in
set_option maxHeartbeats 4000000 in
theorem s4_tick (l : Launch) (d : Nat) (h : MH) (n w : Nat) (K : KK) (cl P : Nat → Int32) (pn : Nat) (hw : WoodAt h w K cl P pn) (m : Nat) (hD : KD K m) (hPR : PR K P pn) : Sp l mX4_tick (d + 5) [.ref w] h n 0 0 (Wq w (sec K m) cl P pn h n) := by
  rw [← sec_first _ _ hD.1]
  obtain ⟨hw0, ⟨gr, hgr, egr⟩, ⟨ru, hru, eru⟩, ⟨pq, hpf, epf⟩, hpl, ⟨fl, hfl, efl⟩, ⟨ca, hca, eca⟩, ⟨wa, hwa⟩, hpp, hhd⟩ := id hw
  show V _ _ _ _ [some (.ref w), none, none] _ _ _ _ _ _
  refine V.aload_n dX4_tick_0 rfl ?_
  refine V.dup dX4_tick_1 rfl ?_
  refine V.getf dX4_tick_2 fl_X4_58 hw0 rfl ?_
  refine V.iconst (v := nI 1) dX4_tick_5 (by decide) ?_
  refine V.iadd dX4_tick_6 ?_
  refine V.putf dX4_tick_7 fp_X4_58 hw0 (Nat.le_of_ble_eq_true rfl) (fun _ => ⟨rfl, rfl⟩) ?_
  refine V.iconst (v := nI 0) dX4_tick_10 (by decide) ?_
  refine V.ist1 dX4_tick_11 (by decide) rfl ?_
  exact s4_tick_loop l d n w cl P pn h m m 0 _ _ (hw.ob 91 (K 91 + nI 1) (by omega) (by omega)) (KD_lo hD 91 _ (by omega)) (PR_sta hPR (Sta_lo (m := m) (Sta_rf m K) 91 _ (by omega) (by omega))) ((Out.rf h w).set _ _ (by omega) (by omega)) (by omega)
