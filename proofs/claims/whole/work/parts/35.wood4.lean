theorem td_93 (K : KK) (v : Int32) (p e : Nat) (he : e < 2) : td (upd K 93 v) p e = upd (td K p e) 93 v := by
  unfold td
  rw [pk_un (show 97 + 2 * e ≠ 93 by omega), upd_swap K (show 93 ≠ 96 + 2 * e + 1 by omega), pk_un (show 87 ≠ 93 by omega), gP_lo _ _ _ _ _ (show 93 < 114 by omega), upd_swap _ (show 93 ≠ 96 + 2 * e by omega)]
  split <;> rfl
theorem tq_is {K : KK} {m p e : Nat} (hF : KF K m) (hp : p < m) (he : e < 2) (hs : gP K p 0 = nI e) : tq K p = upd (td K p (1 - e)) 93 (K 93 + nI 1) := by
  have h1 := hF.2 p e hp he hs
  rw [tq, td_93 _ _ _ _ (by omega), td_93 _ _ _ _ (by omega)]
  have : e = 0 ∨ e = 1 := by omega
  rcases this with rfl | rfl
  · rw [show td K p 0 = K from if_neg h1]
  · rw [show td (td K p 0) p (0 + 1) = td K p 0 from if_neg (by rw [td_97 _ _ _ _ (by omega)]; exact h1)]
theorem td_94 (K : KK) (p e j : Nat) (h1 : j ≠ 96 + 2 * e) (h2 : j ≠ 97 + 2 * e) : td K p e j = K j := by
  unfold td
  split
  · rw [pk_un (by omega), pk_un (by omega)]
  · rfl
theorem pF_held1 (K : KK) (cl : Nat → Int32) (p : Nat) (hn : ¬ gP K p 5 = nI 2) : (pF K cl p).set 6 (.int (nI 1)) = pF (upd K (114 + 7 * p + 5) (nI 1)) cl p := by
  have := pF_held K cl p true hn
  rwa [bIt] at this
theorem hold_is {K : KK} {m p e : Nat} (hF : KF K m) (hp : p < m) (he : e < 2) (hs : gP K p 0 = nI e) : upd (upd (upd (upd (td K p (1 - e)) (114 + 7 * p + 5) (nI 1)) (114 + 7 * p + 6) (nI 0)) (114 + 7 * p + 4) (gl (nI (1 - e)))) 93 (upd (upd (upd (td K p (1 - e)) (114 + 7 * p + 5) (nI 1)) (114 + 7 * p + 6) (nI 0)) (114 + 7 * p + 4) (gl (nI (1 - e))) 93 + nI 1) = tr (tq K p) p := by
  have e1 : gP (upd (tq K p) (114 + 7 * p + 5) (nI 1)) p 0 = nI e := by rw [gP_upd _ _ _ _ _ _ (by omega) (by omega), if_neg (by omega), tq_gP]; exact hs
  rw [tr, e1, tq_is hF hp he hs, pk_sub (by omega), pk_un (show 93 ≠ 114 + 7 * p + 4 by omega), pk_un (show 93 ≠ 114 + 7 * p + 6 by omega), pk_un (show 93 ≠ 114 + 7 * p + 5 by omega), td_94 _ _ _ _ (by omega) (by omega)]
  rw [upd_swap _ (show 93 ≠ 114 + 7 * p + 5 by omega), upd_swap _ (show 93 ≠ 114 + 7 * p + 4 by omega), upd_swap _ (show 93 ≠ 114 + 7 * p + 6 by omega), upd_swap _ (show 114 + 7 * p + 6 ≠ 114 + 7 * p + 4 by omega)]
set_option maxRecDepth 20000 in
set_option maxHeartbeats 4000000 in
theorem s4_hold_b (l : Launch) (d : Nat) (h : MH) (n w : Nat) (K : KK) (cl P : Nat → Int32) (pn : Nat) (hw : WoodAt h w K cl P pn) (h0 : MH) (ho : Out h0 h w) (p e : Nat) (hp : p < 10) (hn : ¬ gP K p 5 = nI 2) : V l mX4_hold (d + 1) 56 [some (.ref w), some (.int (nI p)), some (.ref (w + 8 + p)), some (.int (nI (1 - e)))] [] h n 0 0 (Wq w (upd (upd (upd (upd K (114 + 7 * p + 5) (nI 1)) (114 + 7 * p + 6) (nI 0)) (114 + 7 * p + 4) (gl (nI (1 - e)))) 93 (upd (upd (upd K (114 + 7 * p + 5) (nI 1)) (114 + 7 * p + 6) (nI 0)) (114 + 7 * p + 4) (gl (nI (1 - e))) 93 + nI 1)) cl P pn h0 n) := by
  obtain ⟨hw0, ⟨gr, hgr, egr⟩, ⟨ru, hru, eru⟩, ⟨pq, hpf, epf⟩, hpl, ⟨fl, hfl, efl⟩, ⟨ca, hca, eca⟩, ⟨wa, hwa⟩, hpp, hhd⟩ := id hw
  refine V.aload_n dX4_hold_56 rfl ?_
  refine V.iconst (v := nI 1) dX4_hold_57 (by decide) ?_
  refine V.putf dX4_hold_58 fp_X4_131 (hpp _ (by omega)) (Nat.le_of_ble_eq_true rfl) (fun _ => nz_one) ?_
  rw [pF_held1 _ _ _ hn]
  have hw := hw.pl p 5 (nI 1) (by omega) (by omega) (fun _ => Or.inr (Or.inl rfl))
  have ho := ho.set (w + 8 + p) (.inr (0, pF (upd K (114 + 7 * p + 5) (nI 1)) cl p)) (by omega) (by omega)
  generalize hset h (w + 8 + p) (.inr (0, pF (upd K (114 + 7 * p + 5) (nI 1)) cl p)) = h at hw ho ⊢
  have hn : ¬ gP (upd K (114 + 7 * p + 5) (nI 1)) p 5 = nI 2 := by rw [gP_upd _ _ _ _ _ _ (by omega) (by omega), if_pos ⟨rfl, rfl⟩]; decide
  generalize upd K (114 + 7 * p + 5) (nI 1) = K at hw hn ⊢
  obtain ⟨hw0, ⟨gr, hgr, egr⟩, ⟨ru, hru, eru⟩, ⟨pq, hpf, epf⟩, hpl, ⟨fl, hfl, efl⟩, ⟨ca, hca, eca⟩, ⟨wa, hwa⟩, hpp, hhd⟩ := id hw
  refine V.aload_n dX4_hold_61 rfl ?_
  refine V.iconst (v := nI 0) dX4_hold_62 (by decide) ?_
  refine V.putf dX4_hold_63 fp_X4_193 (hpp _ (by omega)) (Nat.le_of_ble_eq_true rfl) (fun _ => ⟨rfl, rfl⟩) ?_
  rw [pF_left]
  have hw := hw.pl p 6 (nI 0) (by omega) (by omega) (fun q => absurd q (by decide))
  have ho := ho.set (w + 8 + p) (.inr (0, pF (upd K (114 + 7 * p + 6) (nI 0)) cl p)) (by omega) (by omega)
  generalize hset h (w + 8 + p) (.inr (0, pF (upd K (114 + 7 * p + 6) (nI 0)) cl p)) = h at hw ho ⊢
  have hn : ¬ gP (upd K (114 + 7 * p + 6) (nI 0)) p 5 = nI 2 := by rw [gP_upd _ _ _ _ _ _ (by omega) (by omega), if_neg (by omega)]; exact hn
  generalize upd K (114 + 7 * p + 6) (nI 0) = K at hw hn ⊢
  obtain ⟨hw0, ⟨gr, hgr, egr⟩, ⟨ru, hru, eru⟩, ⟨pq, hpf, epf⟩, hpl, ⟨fl, hfl, efl⟩, ⟨ca, hca, eca⟩, ⟨wa, hwa⟩, hpp, hhd⟩ := id hw
  refine V.aload_n dX4_hold_66 rfl ?_
  refine V.iload_n dX4_hold_67 rfl ?_
  refine V.callSv [_] dX4_hold_68 lk_X4_98 rfl (Nat.le_of_ble_eq_true rfl) (Nat.le_of_ble_eq_true rfl) (s5_gaolOf _ _ _ _ _) ?_
  refine V.putf dX4_hold_71 fp_X4_139 (hpp _ (by omega)) (Nat.le_of_ble_eq_true rfl) (fun _ => ⟨rfl, rfl⟩) ?_
  rw [pF_cell _ _ _ _ hn]
  have hw := hw.pl p 4 (gl (nI (1 - e))) (by omega) (by omega) (fun q => absurd q (by decide))
  have ho := ho.set (w + 8 + p) (.inr (0, pF (upd K (114 + 7 * p + 4) (gl (nI (1 - e)))) cl p)) (by omega) (by omega)
  generalize hset h (w + 8 + p) (.inr (0, pF (upd K (114 + 7 * p + 4) (gl (nI (1 - e)))) cl p)) = h at hw ho ⊢
  generalize upd K (114 + 7 * p + 4) (gl (nI (1 - e))) = K at hw ⊢
  obtain ⟨hw0, ⟨gr, hgr, egr⟩, ⟨ru, hru, eru⟩, ⟨pq, hpf, epf⟩, hpl, ⟨fl, hfl, efl⟩, ⟨ca, hca, eca⟩, ⟨wa, hwa⟩, hpp, hhd⟩ := id hw
  refine V.aload_n dX4_hold_74 rfl ?_
  refine V.dup dX4_hold_75 rfl ?_
  refine V.getf dX4_hold_76 fl_X4_64 hw0 rfl ?_
  refine V.iconst (v := nI 1) dX4_hold_79 (by decide) ?_
  refine V.iadd dX4_hold_80 ?_
  refine V.putf dX4_hold_81 fp_X4_64 hw0 (Nat.le_of_ble_eq_true rfl) (fun _ => ⟨rfl, rfl⟩) ?_
  exact V.vret (by exact dX4_hold_84) rfl ⟨rfl, rfl, hw.ob 93 (K 93 + nI 1) (by omega) (by omega), ho.set _ _ (by omega) (by omega)⟩
theorem td_no {K : KK} {p e : Nat} (h : ¬ K (97 + 2 * e) = nI p) : td K p e = K := if_neg h
theorem td_yes0 {K : KK} {p e : Nat} (he : e < 2) (h : K (97 + 2 * e) = nI p) (h2 : K 87 = nI 0) : upd (upd K (97 + 2 * e) (-4)) (96 + 2 * e) (gP K p 4) = td K p e := by
  rw [td, if_pos h, show 96 + 2 * e + 1 = 97 + 2 * e by omega, pk_un (by omega), h2, if_neg (by decide), gP_lo _ _ _ _ _ (by omega)]
theorem td_yes1 {K : KK} {p e : Nat} (he : e < 2) (h : K (97 + 2 * e) = nI p) (h2 : K 87 = nI 0 ∨ K 87 = nI 1) (h3 : ¬ K 87 = 0) : upd (upd K (97 + 2 * e) (-4)) (96 + 2 * e) (fpl (nI e)) = td K p e := by
  have h4 := h2.resolve_left (fun q => h3 (q.trans nI_0))
  rw [td, if_pos h, show 96 + 2 * e + 1 = 97 + 2 * e by omega, pk_un (by omega), h4, if_pos rfl]
set_option maxRecDepth 20000 in
set_option maxHeartbeats 4000000 in
theorem s4_hold (l : Launch) (d : Nat) (h : MH) (n w : Nat) (K : KK) (cl P : Nat → Int32) (pn : Nat) (hw : WoodAt h w K cl P pn) (p e m : Nat) (hp : p < m) (he : e < 2) (hD : KD K m) (hs : gP K p 0 = nI e) (hfr : gP K p 5 = nI 0) : Sp l mX4_hold (d + 1) [.ref w, .int (nI p)] h n 0 0 (Wq w (tr (tq K p) p) cl P pn h n) := by
  have hcp : cAt K cl p = gP K p 4 := if_neg (by rw [hfr]; decide)
  have hm10 := hD.1.2.1
  obtain ⟨hw0, ⟨gr, hgr, egr⟩, ⟨ru, hru, eru⟩, ⟨pq, hpf, epf⟩, hpl, ⟨fl, hfl, efl⟩, ⟨ca, hca, eca⟩, ⟨wa, hwa⟩, hpp, hhd⟩ := id hw
  show V _ _ _ _ [some (.ref w), some (.int (nI p)), none, none] _ _ _ _ _ _
  refine V.aload_n dX4_hold_0 rfl ?_
  refine V.getf dX4_hold_1 fl_X4_20 hw0 rfl ?_
  refine V.iload_n dX4_hold_4 rfl ?_
  refine V.aaldN dX4_hold_5 (Or.inl rfl) hpf (by omega) (by decide) (epf _ (by omega)) ?_
  refine V.ast2 dX4_hold_6 (by decide) rfl ?_
  refine V.iconst (v := nI 1) dX4_hold_7 (by decide) ?_
  refine V.aload_n dX4_hold_8 rfl ?_
  refine V.getf dX4_hold_9 fl_X4_104 (hpp _ (by omega)) rfl ?_
  rw [hs]
  refine V.isubN dX4_hold_12 (by omega) ?_
  refine V.ist3 dX4_hold_13 (by decide) rfl ?_
  refine V.aload_n dX4_hold_14 rfl ?_
  refine V.iload_n dX4_hold_15 rfl ?_
  refine V.callVv [_] dX4_hold_16 lk_X4_156 rfl (Nat.le_of_ble_eq_true rfl) (Nat.le_of_ble_eq_true rfl) hw0 rfl (s4_carries _ _ _ _ _ _ _ _ _ hw _ _ (by omega) he hs) ?_
  refine V.if_eqB (tgt := 56) dX4_hold_19 (by decide) (fun c19 => ?_) (fun c19 => ?_)
  · refine V.mono (fun r h3 n3 q3 => ?_) (s4_hold_b l d _ n w (td K p (1 - e)) cl P pn (by rw [td_no (of_decide_eq_false c19)]; exact hw) h (Out.rf _ _) p e (by omega) (by rw [td_gP _ _ _ _ _ (by omega), hfr]; decide))
    rw [← hold_is hD.2.1 hp he hs]
    exact q3
  · refine V.aload_n dX4_hold_22 rfl ?_
    refine V.getf dX4_hold_23 fl_X4_30 hw0 rfl ?_
    refine V.iload_n dX4_hold_26 rfl ?_
    refine V.bipush (v := -4) dX4_hold_27 (by decide) ?_
    refine V.iastN dX4_hold_29 hca (by omega) (by decide) ?_
    have hc19 : K (97 + 2 * (1 - e)) = nI p := of_decide_eq_true c19
    have hw1 := hw.carr hca (1 - e) (-4) (by omega)
    have ho1 := (Out.rf h w).set (w + 6) (.inl (0, 2, .inl (upd ca (1 - e) (-4)))) (by omega) (by omega)
    generalize hset h (w + 6) (.inl (0, 2, .inl (upd ca (1 - e) (-4)))) = h1 at hw1 ho1 ⊢
    obtain ⟨hw01, -, ⟨ru1, hru1, eru1⟩, -, -, ⟨fl1, hfl1, efl1⟩, -, -, hpp1, -⟩ := id hw1
    refine V.aload_n dX4_hold_30 rfl ?_
    refine V.getf dX4_hold_31 fl_X4_27 hw01 rfl ?_
    refine V.iload_n dX4_hold_34 rfl ?_
    refine V.aload_n dX4_hold_35 rfl ?_
    refine V.getf dX4_hold_36 fl_X4_15 hw01 rfl ?_
    refine V.iconst (v := nI 3) dX4_hold_39 (by decide) ?_
    refine V.ialdN dX4_hold_40 hru1 (by omega) (by decide) ?_
    rw [eru1 _ (by omega), pk_un (by omega)]
    refine V.if_ne (tgt := 51) dX4_hold_41 (by decide) (fun c41 => ?_) (fun c41 => ?_)
    · refine V.iload_n dX4_hold_51 rfl ?_
      refine V.callSv [_] dX4_hold_52 lk_X4_94 rfl (Nat.le_of_ble_eq_true rfl) (Nat.le_of_ble_eq_true rfl) (s5_flagPlaceOf _ _ _ _ _) ?_
      refine V.iastN dX4_hold_55 hfl1 (by omega) (by decide) ?_
      first | (refine V.mono (fun r h3 n3 q3 => ?_) (s4_hold_b l d _ n w (td K p (1 - e)) cl P pn (by rw [← td_yes0 (by omega) hc19 (show K 87 = nI 0 from c41)]; exact hw1.flag hfl1 (1 - e) _ (by omega)) h (ho1.set _ _ (by omega) (by omega)) p e (by omega) (by rw [td_gP _ _ _ _ _ (by omega), hfr]; decide)); rw [← hold_is hD.2.1 hp he hs]; exact q3) | (refine V.mono (fun r h3 n3 q3 => ?_) (s4_hold_b l d _ n w (td K p (1 - e)) cl P pn (by rw [← td_yes1 (by omega) hc19 hD.2.2.2.2 (show ¬ K 87 = 0 from c41)]; exact hw1.flag hfl1 (1 - e) _ (by omega)) h (ho1.set _ _ (by omega) (by omega)) p e (by omega) (by rw [td_gP _ _ _ _ _ (by omega), hfr]; decide)); rw [← hold_is hD.2.1 hp he hs]; exact q3)
    · refine V.aload_n dX4_hold_44 rfl ?_
      refine V.getf dX4_hold_45 fl_X4_139 (hpp1 _ (by omega)) rfl ?_
      rw [show cAt (upd K (97 + 2 * (1 - e)) (-4)) cl p = gP K p 4 by rw [cAt, gP_lo _ _ _ _ _ (by omega), gP_lo _ _ _ _ _ (by omega)]; exact hcp]
      refine V.goto (tgt := 55) dX4_hold_48 (by decide) ?_
      refine V.iastN dX4_hold_55 hfl1 (by omega) (by decide) ?_
      first | (refine V.mono (fun r h3 n3 q3 => ?_) (s4_hold_b l d _ n w (td K p (1 - e)) cl P pn (by rw [← td_yes0 (by omega) hc19 (show K 87 = nI 0 from c41)]; exact hw1.flag hfl1 (1 - e) _ (by omega)) h (ho1.set _ _ (by omega) (by omega)) p e (by omega) (by rw [td_gP _ _ _ _ _ (by omega), hfr]; decide)); rw [← hold_is hD.2.1 hp he hs]; exact q3) | (refine V.mono (fun r h3 n3 q3 => ?_) (s4_hold_b l d _ n w (td K p (1 - e)) cl P pn (by rw [← td_yes1 (by omega) hc19 hD.2.2.2.2 (show ¬ K 87 = 0 from c41)]; exact hw1.flag hfl1 (1 - e) _ (by omega)) h (ho1.set _ _ (by omega) (by omega)) p e (by omega) (by rw [td_gP _ _ _ _ _ (by omega), hfr]; decide)); rw [← hold_is hD.2.1 hp he hs]; exact q3)
theorem mtL_out {p : Nat} {s : Int32} {b : Bool} {K : KK} (h : ¬ frB K p = true) : ∀ r q, mtL p s b r q K = K := by
  intro r
  induction r with
  | zero => intro q; rfl
  | succ r ih =>
    intro q
    have : mt1 K p s b q = K := by
      unfold mt1
      rw [if_neg h]
      repeat' split
      all_goals rfl
    rw [mtL, this, ih]
theorem tr_gP (K : KK) (p q u : Nat) (hu : u < 4) : gP (tr K p) q u = gP K q u := by
  rw [tr, gP_upd _ _ _ _ _ _ (by omega) (by omega), if_neg (by omega), gP_upd _ _ _ _ _ _ (by omega) (by omega), if_neg (by omega), gP_upd _ _ _ _ _ _ (by omega) (by omega), if_neg (by omega)]
set_option maxRecDepth 20000 in
set_option maxHeartbeats 4000000 in
theorem s4_touch_d (l : Launch) (d : Nat) (h : MH) (n w : Nat) (K : KK) (cl P : Nat → Int32) (pn : Nat) (hw : WoodAt h w K cl P pn) (p q x e m : Nat) (b : Bool) (hp : p < m) (hq : q < m) (hx : x = if b = true then q else p) (he : e < 2) (hD : KD K m) (hsx : gP K x 0 = nI e) (hfx : gP K x 5 = nI 0) {Q : Option Value → MH → Nat → Prop} (kk : ∀ h1 : MH, WoodAt h1 w (tch K x) cl P pn → Out h h1 w → V l mX4_touchAround (d + 2) 148 [some (.ref w), some (.int (nI p)), some (.ref (w + 8 + p)), some (.int (bI b)), some (.int (nI q)), some (.ref (w + 8 + q))] [] h1 n 0 0 Q) : V l mX4_touchAround (d + 2) 121 [some (.ref w), some (.int (nI p)), some (.ref (w + 8 + p)), some (.int (bI b)), some (.int (nI q)), some (.ref (w + 8 + q))] [] h n 0 0 Q := by
  have hm10 := hD.1.2.1
  have hxm : x < m := by rw [hx]; split <;> omega
  obtain ⟨hw0, ⟨gr, hgr, egr⟩, ⟨ru, hru, eru⟩, ⟨pq, hpf, epf⟩, hpl, ⟨fl, hfl, efl⟩, ⟨ca, hca, eca⟩, ⟨wa, hwa⟩, hpp, hhd⟩ := id hw
  refine V.aload_n dX4_touchAround_121 rfl ?_
  refine V.callVd [] dX4_touchAround_122 lk_X4_212 rfl (Nat.le_of_ble_eq_true rfl) (Nat.le_of_ble_eq_true rfl) hw0 rfl (s4_draw _ _ _ _ _ _ _ _ _ hw) (fun h1 hw1 ho1 => ?_)
  obtain ⟨hw01, -, ⟨ru1, hru1, eru1⟩, -⟩ := id hw1
  have hD1 : KD (dz K) m := KD_lo hD 95 _ (by omega)
  refine V.aload_n dX4_touchAround_125 rfl ?_
  refine V.getf dX4_touchAround_126 fl_X4_15 hw01 rfl ?_
  refine V.iconst (v := nI 2) dX4_touchAround_129 (by decide) ?_
  refine V.ialdN dX4_touchAround_130 hru1 (by omega) (by decide) ?_
  rw [eru1 _ (by omega)]
  refine V.icmp_ge (tgt := 148) dX4_touchAround_131 (by decide) (fun c131 => ?_) (fun c131 => ?_)
  · exact kk h1 (by rw [tch, if_neg (show ¬ dv K < dz K 86 from Int32.not_lt.mpr c131)]; exact hw1) ho1
  · refine V.aload_n dX4_touchAround_134 rfl ?_
    refine V.iload_n dX4_touchAround_135 rfl ?_
    refine V.if_eqB (tgt := 144) dX4_touchAround_136 (by decide) (fun c136 => ?_) (fun c136 => ?_)
    · refine V.iload_n dX4_touchAround_144 rfl ?_
      refine V.callVw [_] dX4_touchAround_145 lk_X4_216 rfl (Nat.le_of_ble_eq_true rfl) (Nat.le_of_ble_eq_true rfl) hw01 rfl (s4_hold _ _ _ _ _ (dz K) _ _ _ hw1 _ e m (by omega) he hD1 (by rw [dz, gP_lo _ _ _ _ _ (by omega)]; first | (rw [c136, if_pos rfl] at hx; rw [← hx]; exact hsx) | (rw [c136, if_neg (by decide)] at hx; rw [← hx]; exact hsx)) (by rw [dz, gP_lo _ _ _ _ _ (by omega)]; first | (rw [c136, if_pos rfl] at hx; rw [← hx]; exact hfx) | (rw [c136, if_neg (by decide)] at hx; rw [← hx]; exact hfx))) (fun h2 hw2 ho2 => ?_)
      exact kk h2 (by rw [tch, if_pos (show dv K < dz K 86 from Int32.not_le.mp c131)]; first | (rw [c136, if_pos rfl] at hx; rw [hx]; exact hw2) | (rw [c136, if_neg (by decide)] at hx; rw [hx]; exact hw2)) (ho1.tr ho2)
    · refine V.iload dX4_touchAround_139 rfl ?_
      refine V.goto (tgt := 145) dX4_touchAround_141 (by decide) ?_
      refine V.callVw [_] dX4_touchAround_145 lk_X4_216 rfl (Nat.le_of_ble_eq_true rfl) (Nat.le_of_ble_eq_true rfl) hw01 rfl (s4_hold _ _ _ _ _ (dz K) _ _ _ hw1 _ e m (by omega) he hD1 (by rw [dz, gP_lo _ _ _ _ _ (by omega)]; first | (rw [c136, if_pos rfl] at hx; rw [← hx]; exact hsx) | (rw [c136, if_neg (by decide)] at hx; rw [← hx]; exact hsx)) (by rw [dz, gP_lo _ _ _ _ _ (by omega)]; first | (rw [c136, if_pos rfl] at hx; rw [← hx]; exact hfx) | (rw [c136, if_neg (by decide)] at hx; rw [← hx]; exact hfx))) (fun h2 hw2 ho2 => ?_)
      exact kk h2 (by rw [tch, if_pos (show dv K < dz K 86 from Int32.not_le.mp c131)]; first | (rw [c136, if_pos rfl] at hx; rw [hx]; exact hw2) | (rw [c136, if_neg (by decide)] at hx; rw [hx]; exact hw2)) (ho1.tr ho2)
set_option maxRecDepth 20000 in
set_option maxHeartbeats 4000000 in
theorem s4_touch_loop (l : Launch) (d n w : Nat) (cl P : Nat → Int32) (pn : Nat) (h0 : MH) (p e m : Nat) (b : Bool) (hp : p < m) (he : e < 2) : ∀ (r q : Nat) (K : KK) (h : MH), WoodAt h w K cl P pn → KD K m → gP K p 0 = nI e → ¬ gP K p 5 = nI 2 → Out h0 h w → q + r = m → V l mX4_touchAround (d + 2) 30 [some (.ref w), some (.int (nI p)), some (.ref (w + 8 + p)), some (.int (bI b)), some (.int (nI q)), none] [] h n 0 0 (Wq w (mtL p (nI e) b r q K) cl P pn h0 n) := by
  intro r
  induction r with
  | zero =>
    intro q K h hw hD hs hn ho hq
    have hm := hD.1.1
    have hm10 := hD.1.2.1
    obtain ⟨hw0, ⟨gr, hgr, egr⟩, ⟨ru, hru, eru⟩, ⟨pq, hpf, epf⟩, hpl, ⟨fl, hfl, efl⟩, ⟨ca, hca, eca⟩, ⟨wa, hwa⟩, hpp, hhd⟩ := id hw
    refine V.iload dX4_touchAround_30 rfl ?_
    refine V.aload_n dX4_touchAround_32 rfl ?_
    refine V.getf dX4_touchAround_33 fl_X4_51 hw0 rfl ?_
    rw [hm]
    refine V.icmp_geN (tgt := 154) dX4_touchAround_36 (by decide) (by omega) (by omega) (fun _ => ?_) (fun q => absurd q (by omega))
    exact V.vret (by exact dX4_touchAround_154) rfl ⟨rfl, rfl, hw, ho⟩
  | succ r ih =>
    intro q K h hw hD hs hn ho hq
    have hm := hD.1.1
    have hm10 := hD.1.2.1
    obtain ⟨hw0, ⟨gr, hgr, egr⟩, ⟨ru, hru, eru⟩, ⟨pq, hpf, epf⟩, hpl, ⟨fl, hfl, efl⟩, ⟨ca, hca, eca⟩, ⟨wa, hwa⟩, hpp, hhd⟩ := id hw
    refine V.iload dX4_touchAround_30 rfl ?_
    refine V.aload_n dX4_touchAround_32 rfl ?_
    refine V.getf dX4_touchAround_33 fl_X4_51 hw0 rfl ?_
    rw [hm]
    refine V.icmp_geN (tgt := 154) dX4_touchAround_36 (by decide) (by omega) (by omega) (fun q => absurd q (by omega)) (fun _ => ?_)
    refine V.aload_n dX4_touchAround_39 rfl ?_
    refine V.getf dX4_touchAround_40 fl_X4_131 (hpp _ (by omega)) rfl ?_
    refine V.if_neB (tgt := 154) dX4_touchAround_43 (by decide) (fun c43 => ?_) (fun c43 => ?_)
    · exact V.vret (by exact dX4_touchAround_154) rfl ⟨rfl, rfl, by rw [mtL_out (fun y => by rw [frB_z y] at c43; exact absurd c43 (by decide))]; exact hw, ho⟩
    · have hfp : gP K p 5 = nI 0 := by
        rcases hhd p (by omega) with y | y | y
        · exact y
        · rw [y] at c43; exact absurd c43 (by decide)
        · exact absurd y hn
      have hfrp : frB K p = true := decide_eq_true hfp
      have hcp : cAt K cl p = gP K p 4 := cAt_fr hfrp
      have hc4 := hD.1.2.2.2.2.1 p hp hfp
      refine V.aload_n dX4_touchAround_46 rfl ?_
      refine V.getf dX4_touchAround_47 fl_X4_20 hw0 rfl ?_
      refine V.iload dX4_touchAround_50 rfl ?_
      refine V.aaldN dX4_touchAround_52 (Or.inl rfl) hpf (by omega) (by decide) (epf _ (by omega)) ?_
      refine V.ast5 dX4_touchAround_53 (by decide) rfl ?_
      refine V.aload dX4_touchAround_55 rfl ?_
      refine V.getf dX4_touchAround_57 fl_X4_104 (hpp _ (by omega)) rfl ?_
      refine V.aload_n dX4_touchAround_60 rfl ?_
      refine V.getf dX4_touchAround_61 fl_X4_104 (hpp _ (by omega)) rfl ?_
      rw [hs]
      refine V.icmp_eq (tgt := 148) dX4_touchAround_64 (by decide) (fun c64 => ?_) (fun c64 => ?_)
      · refine V.inN4 dX4_touchAround_148 (by decide) rfl ?_
        refine V.goto (tgt := 30) dX4_touchAround_151 (by decide) ?_
        exact V.drop 5 (V.mono (fun r h1 n1 q1 => by rw [mtL, show mt1 K p (nI e) b q = K by first | simp only [mt1, hnc, hfrp, c43, eq_true c64, not_true_eq_false, not_false_eq_true, if_true, if_false, decide_true, decide_false, Bool.and_true, Bool.and_false, Bool.true_and, Bool.false_and, Bool.or_true, Bool.or_false, Bool.true_or, Bool.false_or, Bool.not_true, Bool.not_false, and_true, and_false, true_and, false_and, or_true, or_false, true_or, false_or, bIt, bIf, Bool.false_eq_true, reduceCtorEq] | simp only [mt1, hfrp, c43, eq_true c64, not_true_eq_false, not_false_eq_true, if_true, if_false, decide_true, decide_false, Bool.and_true, Bool.and_false, Bool.true_and, Bool.false_and, Bool.or_true, Bool.or_false, Bool.true_or, Bool.false_or, Bool.not_true, Bool.not_false, and_true, and_false, true_and, false_and, or_true, or_false, true_or, false_or, bIt, bIf, Bool.false_eq_true, reduceCtorEq]]; exact q1) (ih (q + 1) K h hw hD hs hn ho (by omega)))
      · refine V.aload dX4_touchAround_67 rfl ?_
        refine V.callVv [] dX4_touchAround_69 lk_X4_135 rfl (Nat.le_of_ble_eq_true rfl) (Nat.le_of_ble_eq_true rfl) (hpp _ (by omega)) rfl (s0_isFree _ _ _ _ _ _ _ _ _ hw _ (by omega)) ?_
        refine V.if_eqB (tgt := 148) dX4_touchAround_72 (by decide) (fun c72 => ?_) (fun c72 => ?_)
        · refine V.inN4 dX4_touchAround_148 (by decide) rfl ?_
          refine V.goto (tgt := 30) dX4_touchAround_151 (by decide) ?_
          exact V.drop 5 (V.mono (fun r h1 n1 q1 => by rw [mtL, show mt1 K p (nI e) b q = K by first | simp only [mt1, hnc, hfrp, c43, c64, c72, not_true_eq_false, not_false_eq_true, if_true, if_false, decide_true, decide_false, Bool.and_true, Bool.and_false, Bool.true_and, Bool.false_and, Bool.or_true, Bool.or_false, Bool.true_or, Bool.false_or, Bool.not_true, Bool.not_false, and_true, and_false, true_and, false_and, or_true, or_false, true_or, false_or, bIt, bIf, Bool.false_eq_true, reduceCtorEq] | simp only [mt1, hfrp, c43, c64, c72, not_true_eq_false, not_false_eq_true, if_true, if_false, decide_true, decide_false, Bool.and_true, Bool.and_false, Bool.true_and, Bool.false_and, Bool.or_true, Bool.or_false, Bool.true_or, Bool.false_or, Bool.not_true, Bool.not_false, and_true, and_false, true_and, false_and, or_true, or_false, true_or, false_or, bIt, bIf, Bool.false_eq_true, reduceCtorEq]]; exact q1) (ih (q + 1) K h hw hD hs hn ho (by omega)))
        · have hcq : cAt K cl q = gP K q 4 := cAt_fr c72
          have hq4 := hD.1.2.2.2.2.1 q (by omega) (frB_z c72)
          have hnc := nr_comm hq4 hc4
          refine V.aload_n dX4_touchAround_75 rfl ?_
          refine V.getf dX4_touchAround_76 fl_X4_139 (hpp _ (by omega)) rfl ?_
          (try rw [hcp])
          (try rw [hcq])
          refine V.aload dX4_touchAround_79 rfl ?_
          refine V.getf dX4_touchAround_81 fl_X4_139 (hpp _ (by omega)) rfl ?_
          (try rw [hcp])
          (try rw [hcq])
          refine V.callSv [_, _] dX4_touchAround_84 lk_X4_142 rfl (Nat.le_of_ble_eq_true rfl) (Nat.le_of_ble_eq_true rfl) (s5_between _ _ _ _ _ _) ?_
          refine V.aload_n dX4_touchAround_87 rfl ?_
          refine V.getf dX4_touchAround_88 fl_X4_15 hw0 rfl ?_
          refine V.iconst (v := nI 1) dX4_touchAround_91 (by decide) ?_
          refine V.ialdN dX4_touchAround_92 hru (by omega) (by decide) ?_
          rw [eru _ (by omega), show 84 + 1 = 85 from rfl]
          refine V.icmp_le (tgt := 99) dX4_touchAround_93 (by decide) (fun c93 => ?_) (fun c93 => ?_)
          · refine V.iload_n dX4_touchAround_99 rfl ?_
            refine V.if_eqB (tgt := 121) dX4_touchAround_100 (by decide) (fun c100 => ?_) (fun c100 => ?_)
            · obtain ⟨eq, heq, hsq⟩ := hD.1.2.2.1 q (by omega)
              first
              | (refine s4_touch_d l d h n w K cl P pn hw p q q eq m b hp (by omega) (by rw [c100]; rfl) (by omega) hD hsq (frB_z c72) (fun h1 hw1 ho1 => ?_)
                 refine V.inN4 dX4_touchAround_148 (by decide) rfl ?_
                 refine V.goto (tgt := 30) dX4_touchAround_151 (by decide) ?_
                 exact V.drop 5 (V.mono (fun r h2 n1 q1 => by rw [mtL, show mt1 K p (nI e) b q = tch K q by simp only [mt1, hnc, hfrp, c43, c64, c72, c93, c100, not_true_eq_false, not_false_eq_true, if_true, if_false, decide_true, decide_false, Bool.and_true, Bool.and_false, Bool.true_and, Bool.false_and, Bool.or_true, Bool.or_false, Bool.true_or, Bool.false_or, Bool.not_true, Bool.not_false, and_true, and_false, true_and, false_and, or_true, or_false, true_or, false_or, bIt, bIf, Bool.false_eq_true, reduceCtorEq]]; exact q1) (ih (q + 1) (tch K q) h1 hw1 (KD_tch hD q (by omega) (frB_z c72)) (by rw [(Sta_tch (Sta_rf m K) q (by omega) (by rw [(frB_z c72)]; decide)).2.1 p 0 (by omega)]; exact hs) ((Sta_tch (Sta_rf m K) q (by omega) (by rw [(frB_z c72)]; decide)).2.2.2 p hn) (ho.tr ho1) (by omega))))
              | (refine s4_touch_d l d h n w K cl P pn hw p q p e m b hp (by omega) (by rw [c100]; rfl) (by omega) hD hs hfp (fun h1 hw1 ho1 => ?_)
                 refine V.inN4 dX4_touchAround_148 (by decide) rfl ?_
                 refine V.goto (tgt := 30) dX4_touchAround_151 (by decide) ?_
                 exact V.drop 5 (V.mono (fun r h2 n1 q1 => by rw [mtL, show mt1 K p (nI e) b q = tch K p by simp only [mt1, hnc, hfrp, c43, c64, c72, c93, c100, not_true_eq_false, not_false_eq_true, if_true, if_false, decide_true, decide_false, Bool.and_true, Bool.and_false, Bool.true_and, Bool.false_and, Bool.or_true, Bool.or_false, Bool.true_or, Bool.false_or, Bool.not_true, Bool.not_false, and_true, and_false, true_and, false_and, or_true, or_false, true_or, false_or, bIt, bIf, Bool.false_eq_true, reduceCtorEq]]; exact q1) (ih (q + 1) (tch K p) h1 hw1 (KD_tch hD p (by omega) hfp) (by rw [(Sta_tch (Sta_rf m K) p (by omega) (by rw [hfp]; decide)).2.1 p 0 (by omega)]; exact hs) ((Sta_tch (Sta_rf m K) p (by omega) (by rw [hfp]; decide)).2.2.2 p hn) (ho.tr ho1) (by omega))))
            · refine V.aload dX4_touchAround_103 rfl ?_
              refine V.getf dX4_touchAround_105 fl_X4_139 (hpp _ (by omega)) rfl ?_
              (try rw [hcp])
              (try rw [hcq])
              refine V.callSv [_] dX4_touchAround_108 lk_X4_116 rfl (Nat.le_of_ble_eq_true rfl) (Nat.le_of_ble_eq_true rfl) (s5_sideOf _ _ _ (by assumption) _ _) ?_
              refine V.aload_n dX4_touchAround_111 rfl ?_
              refine V.getf dX4_touchAround_112 fl_X4_104 (hpp _ (by omega)) rfl ?_
              rw [hs]
              refine V.icmp_eq (tgt := 121) dX4_touchAround_115 (by decide) (fun c115 => ?_) (fun c115 => ?_)
              · obtain ⟨eq, heq, hsq⟩ := hD.1.2.2.1 q (by omega)
                first
                | (refine s4_touch_d l d h n w K cl P pn hw p q q eq m b hp (by omega) (by rw [c100]; rfl) (by omega) hD hsq (frB_z c72) (fun h1 hw1 ho1 => ?_)
                   refine V.inN4 dX4_touchAround_148 (by decide) rfl ?_
                   refine V.goto (tgt := 30) dX4_touchAround_151 (by decide) ?_
                   exact V.drop 5 (V.mono (fun r h2 n1 q1 => by rw [mtL, show mt1 K p (nI e) b q = tch K q by simp only [mt1, hnc, hfrp, c43, c64, c72, c93, c100, eq_true c115, not_true_eq_false, not_false_eq_true, if_true, if_false, decide_true, decide_false, Bool.and_true, Bool.and_false, Bool.true_and, Bool.false_and, Bool.or_true, Bool.or_false, Bool.true_or, Bool.false_or, Bool.not_true, Bool.not_false, and_true, and_false, true_and, false_and, or_true, or_false, true_or, false_or, bIt, bIf, Bool.false_eq_true, reduceCtorEq]]; exact q1) (ih (q + 1) (tch K q) h1 hw1 (KD_tch hD q (by omega) (frB_z c72)) (by rw [(Sta_tch (Sta_rf m K) q (by omega) (by rw [(frB_z c72)]; decide)).2.1 p 0 (by omega)]; exact hs) ((Sta_tch (Sta_rf m K) q (by omega) (by rw [(frB_z c72)]; decide)).2.2.2 p hn) (ho.tr ho1) (by omega))))
                | (refine s4_touch_d l d h n w K cl P pn hw p q p e m b hp (by omega) (by rw [c100]; rfl) (by omega) hD hs hfp (fun h1 hw1 ho1 => ?_)
                   refine V.inN4 dX4_touchAround_148 (by decide) rfl ?_
                   refine V.goto (tgt := 30) dX4_touchAround_151 (by decide) ?_
                   exact V.drop 5 (V.mono (fun r h2 n1 q1 => by rw [mtL, show mt1 K p (nI e) b q = tch K p by simp only [mt1, hnc, hfrp, c43, c64, c72, c93, c100, eq_true c115, not_true_eq_false, not_false_eq_true, if_true, if_false, decide_true, decide_false, Bool.and_true, Bool.and_false, Bool.true_and, Bool.false_and, Bool.or_true, Bool.or_false, Bool.true_or, Bool.false_or, Bool.not_true, Bool.not_false, and_true, and_false, true_and, false_and, or_true, or_false, true_or, false_or, bIt, bIf, Bool.false_eq_true, reduceCtorEq]]; exact q1) (ih (q + 1) (tch K p) h1 hw1 (KD_tch hD p (by omega) hfp) (by rw [(Sta_tch (Sta_rf m K) p (by omega) (by rw [hfp]; decide)).2.1 p 0 (by omega)]; exact hs) ((Sta_tch (Sta_rf m K) p (by omega) (by rw [hfp]; decide)).2.2.2 p hn) (ho.tr ho1) (by omega))))
              · refine V.goto (tgt := 148) dX4_touchAround_118 (by decide) ?_
                refine V.inN4 dX4_touchAround_148 (by decide) rfl ?_
                refine V.goto (tgt := 30) dX4_touchAround_151 (by decide) ?_
                exact V.drop 5 (V.mono (fun r h1 n1 q1 => by rw [mtL, show mt1 K p (nI e) b q = K by first | simp only [mt1, hnc, hfrp, c43, c64, c72, c93, c100, c115, not_true_eq_false, not_false_eq_true, if_true, if_false, decide_true, decide_false, Bool.and_true, Bool.and_false, Bool.true_and, Bool.false_and, Bool.or_true, Bool.or_false, Bool.true_or, Bool.false_or, Bool.not_true, Bool.not_false, and_true, and_false, true_and, false_and, or_true, or_false, true_or, false_or, bIt, bIf, Bool.false_eq_true, reduceCtorEq] | simp only [mt1, hfrp, c43, c64, c72, c93, c100, c115, not_true_eq_false, not_false_eq_true, if_true, if_false, decide_true, decide_false, Bool.and_true, Bool.and_false, Bool.true_and, Bool.false_and, Bool.or_true, Bool.or_false, Bool.true_or, Bool.false_or, Bool.not_true, Bool.not_false, and_true, and_false, true_and, false_and, or_true, or_false, true_or, false_or, bIt, bIf, Bool.false_eq_true, reduceCtorEq]]; exact q1) (ih (q + 1) K h hw hD hs hn ho (by omega)))
          · refine V.goto (tgt := 148) dX4_touchAround_96 (by decide) ?_
            refine V.inN4 dX4_touchAround_148 (by decide) rfl ?_
            refine V.goto (tgt := 30) dX4_touchAround_151 (by decide) ?_
            exact V.drop 5 (V.mono (fun r h1 n1 q1 => by rw [mtL, show mt1 K p (nI e) b q = K by first | simp only [mt1, hnc, hfrp, c43, c64, c72, c93, not_true_eq_false, not_false_eq_true, if_true, if_false, decide_true, decide_false, Bool.and_true, Bool.and_false, Bool.true_and, Bool.false_and, Bool.or_true, Bool.or_false, Bool.true_or, Bool.false_or, Bool.not_true, Bool.not_false, and_true, and_false, true_and, false_and, or_true, or_false, true_or, false_or, bIt, bIf, Bool.false_eq_true, reduceCtorEq] | simp only [mt1, hfrp, c43, c64, c72, c93, not_true_eq_false, not_false_eq_true, if_true, if_false, decide_true, decide_false, Bool.and_true, Bool.and_false, Bool.true_and, Bool.false_and, Bool.or_true, Bool.or_false, Bool.true_or, Bool.false_or, Bool.not_true, Bool.not_false, and_true, and_false, true_and, false_and, or_true, or_false, true_or, false_or, bIt, bIf, Bool.false_eq_true, reduceCtorEq]]; exact q1) (ih (q + 1) K h hw hD hs hn ho (by omega)))
set_option maxRecDepth 20000 in
set_option maxHeartbeats 4000000 in
theorem s4_touchAround (l : Launch) (d : Nat) (h : MH) (n w : Nat) (K : KK) (cl P : Nat → Int32) (pn : Nat) (hw : WoodAt h w K cl P pn) (p e m : Nat) (hp : p < m) (he : e < 2) (hD : KD K m) (hs : gP K p 0 = nI e) (hfr : gP K p 5 = nI 0) : Sp l mX4_touchAround (d + 2) [.ref w, .int (nI p)] h n 0 0 (Wq w (mts K m p) cl P pn h n) := by
  have hcp : cAt K cl p = gP K p 4 := if_neg (by rw [hfr]; decide)
  have hm10 := hD.1.2.1
  have hc4 := hD.1.2.2.2.2.1 p hp hfr
  rw [mts, hs]
  obtain ⟨hw0, ⟨gr, hgr, egr⟩, ⟨ru, hru, eru⟩, ⟨pq, hpf, epf⟩, hpl, ⟨fl, hfl, efl⟩, ⟨ca, hca, eca⟩, ⟨wa, hwa⟩, hpp, hhd⟩ := id hw
  show V _ _ _ _ [some (.ref w), some (.int (nI p)), none, none, none, none] _ _ _ _ _ _
  refine V.aload_n dX4_touchAround_0 rfl ?_
  refine V.getf dX4_touchAround_1 fl_X4_20 hw0 rfl ?_
  refine V.iload_n dX4_touchAround_4 rfl ?_
  refine V.aaldN dX4_touchAround_5 (Or.inl rfl) hpf (by omega) (by decide) (epf _ (by omega)) ?_
  refine V.ast2 dX4_touchAround_6 (by decide) rfl ?_
  refine V.aload_n dX4_touchAround_7 rfl ?_
  refine V.getf dX4_touchAround_8 fl_X4_139 (hpp _ (by omega)) rfl ?_
  (try rw [hcp])
  (try rw [hcq])
  refine V.callSv [_] dX4_touchAround_11 lk_X4_116 rfl (Nat.le_of_ble_eq_true rfl) (Nat.le_of_ble_eq_true rfl) (s5_sideOf _ _ _ (by assumption) _ _) ?_
  refine V.aload_n dX4_touchAround_14 rfl ?_
  refine V.getf dX4_touchAround_15 fl_X4_104 (hpp _ (by omega)) rfl ?_
  rw [hs]
  refine V.icmp_ne (tgt := 25) dX4_touchAround_18 (by decide) (fun c18 => ?_) (fun c18 => ?_)
  · refine V.iconst (v := nI 0) dX4_touchAround_25 (by decide) ?_
    refine V.ist3 dX4_touchAround_26 (by decide) rfl ?_
    refine V.iconst (v := nI 0) dX4_touchAround_27 (by decide) ?_
    refine V.ist4 dX4_touchAround_28 (by decide) rfl ?_
    first | (rw [decide_eq_true c18]; exact V.ls (by rw [← bIt]) (s4_touch_loop l d n w cl P pn h p e m true hp he m 0 K h hw hD hs (by rw [hfr]; decide) (Out.rf _ _) (by omega))) | (rw [decide_eq_false c18]; exact V.ls (by rw [← bIf]) (s4_touch_loop l d n w cl P pn h p e m false hp he m 0 K h hw hD hs (by rw [hfr]; decide) (Out.rf _ _) (by omega)))
  · refine V.iconst (v := nI 1) dX4_touchAround_21 (by decide) ?_
    refine V.goto (tgt := 26) dX4_touchAround_22 (by decide) ?_
    refine V.ist3 dX4_touchAround_26 (by decide) rfl ?_
    refine V.iconst (v := nI 0) dX4_touchAround_27 (by decide) ?_
    refine V.ist4 dX4_touchAround_28 (by decide) rfl ?_
    first | (rw [decide_eq_true c18]; exact V.ls (by rw [← bIt]) (s4_touch_loop l d n w cl P pn h p e m true hp he m 0 K h hw hD hs (by rw [hfr]; decide) (Out.rf _ _) (by omega))) | (rw [decide_eq_false c18]; exact V.ls (by rw [← bIf]) (s4_touch_loop l d n w cl P pn h p e m false hp he m 0 K h hw hD hs (by rw [hfr]; decide) (Out.rf _ _) (by omega)))
