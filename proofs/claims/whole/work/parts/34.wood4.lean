theorem WoodAt.gen {h : MH} {w : Nat} {K : KK} {cl P : Nat → Int32} {pn : Nat} (hw : WoodAt h w K cl P pn) (p : Nat) (hp : p < 10) (K1 : KK) (cl1 : Nat → Int32) (hK : ∀ j, j < 114 + 7 * p ∨ 114 + 7 * p + 7 ≤ j → K1 j = K j) (hc : ∀ j, j ≠ p → cl1 j = cl j) (h5 : gP K1 p 5 = nI 0 ∨ gP K1 p 5 = nI 1 ∨ gP K1 p 5 = nI 2) : WoodAt (hset h (w + 8 + p) (.inr (0, pF K1 cl1 p))) w K1 cl1 P pn := by
  obtain ⟨a0, ⟨gr, b1, c1⟩, ⟨ru, b2, c2⟩, ⟨pq, b3, c3⟩, a4, ⟨fl, b5, c5⟩, ⟨ca, b6, c6⟩, ⟨wa, b7⟩, b8, b9⟩ := hw
  have hw0 : woF K1 w pn = woF K w pn := by simp only [woF, hK 90 (by omega), hK 91 (by omega), hK 92 (by omega), hK 93 (by omega), hK 94 (by omega), hK 95 (by omega)]
  have hg : ∀ j, j ≠ p → ∀ u, u < 7 → gP K1 j u = gP K j u := fun j hj u hu => hK _ (by omega)
  refine ⟨by rw [hset_ne _ _ (by omega), hw0]; exact a0, ⟨gr, by rw [hset_ne _ _ (by omega)]; exact b1, fun c hc => by rw [hK _ (by omega)]; exact c1 c hc⟩, ⟨ru, by rw [hset_ne _ _ (by omega)]; exact b2, fun c hc => by rw [hK _ (by omega)]; exact c2 c hc⟩, ⟨pq, by rw [hset_ne _ _ (by omega)]; exact b3, c3⟩, by rw [hset_ne _ _ (by omega)]; exact a4, ⟨fl, by rw [hset_ne _ _ (by omega)]; exact b5, fun c hc => by rw [hK _ (by omega)]; exact c5 c hc⟩, ⟨ca, by rw [hset_ne _ _ (by omega)]; exact b6, fun c hc => by rw [hK _ (by omega)]; exact c6 c hc⟩, ⟨wa, by rw [hset_ne _ _ (by omega)]; exact b7⟩, fun j hj => ?_, fun j hj => ?_⟩
  · by_cases q : j = p
    · rw [q, hset_self]
    · rw [hset_ne _ _ (by omega), b8 j hj]
      simp only [pF, cAt, hg j q 0 (by omega), hg j q 1 (by omega), hg j q 2 (by omega), hg j q 3 (by omega), hg j q 4 (by omega), hg j q 5 (by omega), hg j q 6 (by omega), hc j q]
  · by_cases q : j = p
    · rw [q]; exact h5
    · rw [hg j q 5 (by omega)]; exact b9 j hj
theorem V.callVd {l : Launch} {M : MT} {d pc : Nat} {ls : List (Option Value)} {st : List Value} {h : MH} {n c z : Nat} {Q : Option Value → MH → Nat → Prop} {N : MT} {idx k b ci w pn : Nat} {fs : List Value} {K : KK} {cl P : Nat → Int32} {v : Int32} (As : List Value) (hd : decode M.2.1 pc = .ok (.invokevirtual idx, 3)) (hk : LkV M.1.cls idx N k) (hA : As.length = k) (hlen : (ls0 (.ref b :: As)).length ≤ N.2.2.1) (hst : (st.map fun v => v.category).sum ≤ 8)
    (hb0 : h b = some (.inr (ci, fs))) (hci : (classes[ci]?).map (fun q => q.1) = some N.1.cls) (hN : Sp l N d (.ref b :: As) h n 0 0 (fun r h1 n1 => r = some (.int v) ∧ n1 = n ∧ WoodAt h1 w K cl P pn ∧ Out h h1 w)) (kk : ∀ h1 : MH, WoodAt h1 w K cl P pn → Out h h1 w → V l M (d + 1) (pc + 3) ls (.int v :: st) h1 n c z Q) : V l M (d + 1) pc ls (As.reverse ++ .ref b :: st) h n c z Q :=
  V.callV (c := c) (z := z) As hd hk hA hlen hst hb0 hci hN (fun r h1 n1 q => by obtain ⟨rfl, rfl, hw, ho⟩ := q; exact kk h1 hw ho)
theorem nz_zero : narrow .boolean (.int (nI 0)) = .int (nI 0) ∧ fits .boolean (.int (nI 0)) = true := by rw [← bIf]; exact ⟨bI_narrow false, bI_fits false⟩
theorem nz_one : narrow .boolean (.int (nI 1)) = .int (nI 1) ∧ fits .boolean (.int (nI 1)) = true := by rw [← bIt]; exact ⟨bI_narrow true, bI_fits true⟩
theorem rel_gP (K : KK) (p q u : Nat) (hu : u < 7) : gP (rel K p) q u = if q = p ∧ u = 6 then nI 0 else if q = p ∧ u = 4 then gP K p 3 else if q = p ∧ u = 5 then nI 0 else gP K q u := by
  rw [rel, gP_upd _ _ _ _ _ _ (by omega) hu, gP_upd _ _ _ _ _ _ (by omega) hu, gP_upd _ _ _ _ _ _ (by omega) hu, gP_upd _ _ _ _ _ _ (by omega) (by omega), if_neg (show ¬ (p = p ∧ 3 = 5) by omega)]
theorem pF_rel (K : KK) (cl : Nat → Int32) (p : Nat) (h5 : ¬ gP K p 5 = nI 2) : pF (rel K p) cl p = [.int (gP K p 0), .int (gP K p 1), .int (gP K p 2), .int (gP K p 3), .int (gP K p 3), .int (nI 0), .int (nI 0), .int (bI (decide (gP K p 5 = nI 2)))] := by
  have z1 : decide (nI 0 = nI 1) = false := by decide
  have z2 : decide (nI 0 = nI 2) = false := by decide
  have z3 : ¬ nI 0 = nI 2 := by decide
  simp only [pF, cAt, rel_gP _ _ _ _ (show 0 < 7 by omega), rel_gP _ _ _ _ (show 1 < 7 by omega), rel_gP _ _ _ _ (show 2 < 7 by omega), rel_gP _ _ _ _ (show 3 < 7 by omega), rel_gP _ _ _ _ (show 4 < 7 by omega), rel_gP _ _ _ _ (show 5 < 7 by omega), rel_gP _ _ _ _ (show 6 < 7 by omega)]
  simp [z1, z2, z3, bIf, h5]
set_option maxRecDepth 20000 in
set_option maxHeartbeats 4000000 in
theorem s0_goHome (l : Launch) (d : Nat) (h : MH) (n q : Nat) (s k g ho ce br he ou : Int32) (hq : h q = some (.inr (0, [.int s, .int k, .int g, .int ho, .int ce, .int br, .int he, .int ou]))) : Sp l mX0_goHome d [.ref q] h n 0 0 (Pu (hset h q (.inr (0, [.int s, .int k, .int g, .int ho, .int ho, .int (nI 0), .int (nI 0), .int ou]))) n) := by
  show V _ _ _ _ [some (.ref q)] _ _ _ _ _ _
  refine V.aload_n dX0_goHome_0 rfl ?_
  refine V.aload_n dX0_goHome_1 rfl ?_
  refine V.getf dX0_goHome_2 fl_X0_19 (by assumption) rfl ?_
  refine V.putf dX0_goHome_5 fp_X0_22 (by assumption) (Nat.le_of_ble_eq_true rfl) (fun _ => ⟨rfl, rfl⟩) ?_
  refine V.aload_n dX0_goHome_8 rfl ?_
  refine V.iconst (v := nI 0) dX0_goHome_9 (by decide) ?_
  refine V.putf dX0_goHome_10 fp_X0_25 (hset_self _ _ _) (Nat.le_of_ble_eq_true rfl) (fun _ => ⟨rfl, rfl⟩) ?_
  refine V.aload_n dX0_goHome_13 rfl ?_
  refine V.iconst (v := nI 0) dX0_goHome_14 (by decide) ?_
  refine V.putf dX0_goHome_15 fp_X0_28 (hset_self _ _ _) (Nat.le_of_ble_eq_true rfl) (fun _ => nz_zero) ?_
  exact V.vretP (by exact dX0_goHome_18) rfl (by rw [hset_hset, hset_hset]; rfl)
theorem WoodAt.rel {h : MH} {w : Nat} {K : KK} {cl P : Nat → Int32} {pn : Nat} (hw : WoodAt h w K cl P pn) (p : Nat) (hp : p < 10) (h5 : ¬ gP K p 5 = nI 2) : WoodAt (hset h (w + 8 + p) (.inr (0, [.int (gP K p 0), .int (gP K p 1), .int (gP K p 2), .int (gP K p 3), .int (gP K p 3), .int (nI 0), .int (nI 0), .int (bI (decide (gP K p 5 = nI 2)))]))) w (rel K p) cl P pn := by
  rw [← pF_rel K cl p h5]
  refine hw.gen p hp _ _ (fun j hj => ?_) (fun _ _ => rfl) (Or.inl ?_)
  · unfold Jvm.Pilot.CTwoFlagsLaw_law_r4094_467254.rel
    rw [pk_un (by omega), pk_un (by omega), pk_un (by omega)]
  · rw [rel_gP _ _ _ _ (by omega), if_neg (by omega), if_neg (by omega), if_pos ⟨rfl, rfl⟩]
set_option maxRecDepth 20000 in
set_option maxHeartbeats 4000000 in
theorem s4_free_loop (l : Launch) (d n w : Nat) (cl P : Nat → Int32) (pn : Nat) (h0 : MH) (p e m : Nat) (hp : p < m) : ∀ (r i : Nat) (K : KK) (h : MH), WoodAt h w K cl P pn → KD K m → gP K p 0 = nI e → Out h0 h w → i + r = m → V l mX4_freeOthers (d + 1) 19 [some (.ref w), some (.ref (w + 8 + p)), some (.int (nI i))] [] h n 0 0 (Wq w (frL (nI e) r i K) cl P pn h0 n) := by
  intro r
  induction r with
  | zero =>
    intro i K h hw hD hs ho hi
    have hm := hD.1.1
    have hm10 := hD.1.2.1
    obtain ⟨hw0, ⟨gr, hgr, egr⟩, ⟨ru, hru, eru⟩, ⟨pq, hpf, epf⟩, hpl, ⟨fl, hfl, efl⟩, ⟨ca, hca, eca⟩, ⟨wa, hwa⟩, hpp, hhd⟩ := id hw
    refine V.iload_n dX4_freeOthers_19 rfl ?_
    refine V.aload_n dX4_freeOthers_20 rfl ?_
    refine V.getf dX4_freeOthers_21 fl_X4_51 hw0 rfl ?_
    rw [hm]
    refine V.icmp_geN (tgt := 80) dX4_freeOthers_24 (by decide) (by omega) (by omega) (fun _ => ?_) (fun q => absurd q (by omega))
    exact V.vret (by exact dX4_freeOthers_80) rfl ⟨rfl, rfl, hw, ho⟩
  | succ r ih =>
    intro i K h hw hD hs ho hi
    have hm := hD.1.1
    have hm10 := hD.1.2.1
    obtain ⟨hw0, ⟨gr, hgr, egr⟩, ⟨ru, hru, eru⟩, ⟨pq, hpf, epf⟩, hpl, ⟨fl, hfl, efl⟩, ⟨ca, hca, eca⟩, ⟨wa, hwa⟩, hpp, hhd⟩ := id hw
    refine V.iload_n dX4_freeOthers_19 rfl ?_
    refine V.aload_n dX4_freeOthers_20 rfl ?_
    refine V.getf dX4_freeOthers_21 fl_X4_51 hw0 rfl ?_
    rw [hm]
    refine V.icmp_geN (tgt := 80) dX4_freeOthers_24 (by decide) (by omega) (by omega) (fun q => absurd q (by omega)) (fun _ => ?_)
    refine V.aload_n dX4_freeOthers_27 rfl ?_
    refine V.getf dX4_freeOthers_28 fl_X4_20 hw0 rfl ?_
    refine V.iload_n dX4_freeOthers_31 rfl ?_
    refine V.aaldN dX4_freeOthers_32 (Or.inl rfl) hpf (by omega) (by decide) (epf _ (by omega)) ?_
    refine V.getf dX4_freeOthers_33 fl_X4_104 (hpp _ (by omega)) rfl ?_
    refine V.aload_n dX4_freeOthers_36 rfl ?_
    refine V.getf dX4_freeOthers_37 fl_X4_104 (hpp _ (by omega)) rfl ?_
    rw [hs]
    refine V.icmp_ne (tgt := 74) dX4_freeOthers_40 (by decide) (fun c40 => ?_) (fun c40 => ?_)
    · refine V.inN2 dX4_freeOthers_74 (by decide) rfl ?_
      refine V.goto (tgt := 19) dX4_freeOthers_77 (by decide) ?_
      first | exact V.mono (fun r h1 n1 q1 => by rw [frL, if_neg c40]; exact q1) (ih (i + 1) K h hw hD hs ho (by omega)) | exact V.mono (fun r h1 n1 q1 => by rw [frL, if_pos c40, if_neg (of_decide_eq_false c52)]; exact q1) (ih (i + 1) K h hw hD hs ho (by omega)) | exact V.mono (fun r h1 n1 q1 => by rw [frL, if_pos c40, if_pos h51, if_neg (show ¬ rel K i 88 = 0 from c70)]; exact q1) (ih (i + 1) _ _ hw1 hD1 hs1 ho1 (by omega))
    · refine V.aload_n dX4_freeOthers_43 rfl ?_
      refine V.getf dX4_freeOthers_44 fl_X4_20 hw0 rfl ?_
      refine V.iload_n dX4_freeOthers_47 rfl ?_
      refine V.aaldN dX4_freeOthers_48 (Or.inl rfl) hpf (by omega) (by decide) (epf _ (by omega)) ?_
      refine V.getf dX4_freeOthers_49 fl_X4_131 (hpp _ (by omega)) rfl ?_
      refine V.if_eqB (tgt := 74) dX4_freeOthers_52 (by decide) (fun c52 => ?_) (fun c52 => ?_)
      · refine V.inN2 dX4_freeOthers_74 (by decide) rfl ?_
        refine V.goto (tgt := 19) dX4_freeOthers_77 (by decide) ?_
        first | exact V.mono (fun r h1 n1 q1 => by rw [frL, if_neg c40]; exact q1) (ih (i + 1) K h hw hD hs ho (by omega)) | exact V.mono (fun r h1 n1 q1 => by rw [frL, if_pos c40, if_neg (of_decide_eq_false c52)]; exact q1) (ih (i + 1) K h hw hD hs ho (by omega)) | exact V.mono (fun r h1 n1 q1 => by rw [frL, if_pos c40, if_pos h51, if_neg (show ¬ rel K i 88 = 0 from c70)]; exact q1) (ih (i + 1) _ _ hw1 hD1 hs1 ho1 (by omega))
      · have h51 : gP K i 5 = nI 1 := of_decide_eq_true c52
        refine V.aload_n dX4_freeOthers_55 rfl ?_
        refine V.getf dX4_freeOthers_56 fl_X4_20 hw0 rfl ?_
        refine V.iload_n dX4_freeOthers_59 rfl ?_
        refine V.aaldN dX4_freeOthers_60 (Or.inl rfl) hpf (by omega) (by decide) (epf _ (by omega)) ?_
        refine V.callVu [] dX4_freeOthers_61 lk_X4_128 rfl (Nat.le_of_ble_eq_true rfl) (Nat.le_of_ble_eq_true rfl) (hpp _ (by omega)) rfl (s0_goHome _ _ _ _ _ _ _ _ _ _ _ _ _ (hpp _ (by omega))) ?_
        have hw1 := hw.rel i (by omega) (by rw [h51]; decide)
        have ho1 := ho.set (w + 8 + i) (.inr (0, [.int (gP K i 0), .int (gP K i 1), .int (gP K i 2), .int (gP K i 3), .int (gP K i 3), .int (nI 0), .int (nI 0), .int (bI (decide (gP K i 5 = nI 2)))])) (by omega) (by omega)
        have hD1 := KD_rel hD i (by omega)
        have hs1 : gP (rel K i) p 0 = nI e := by rw [rel_gP _ _ _ _ (by omega), if_neg (by omega), if_neg (by omega), if_neg (by omega)]; exact hs
        generalize hset h (w + 8 + i) (.inr (0, [.int (gP K i 0), .int (gP K i 1), .int (gP K i 2), .int (gP K i 3), .int (gP K i 3), .int (nI 0), .int (nI 0), .int (bI (decide (gP K i 5 = nI 2)))])) = h2 at hw1 ho1 ⊢
        obtain ⟨hw01, -, ⟨ru1, hru1, eru1⟩, -⟩ := id hw1
        refine V.aload_n dX4_freeOthers_64 rfl ?_
        refine V.getf dX4_freeOthers_65 fl_X4_15 hw01 rfl ?_
        refine V.iconst (v := nI 4) dX4_freeOthers_68 (by decide) ?_
        refine V.ialdN dX4_freeOthers_69 hru1 (by omega) (by decide) ?_
        rw [eru1 _ (by omega)]
        refine V.if_ne (tgt := 74) dX4_freeOthers_70 (by decide) (fun c70 => ?_) (fun c70 => ?_)
        · refine V.inN2 dX4_freeOthers_74 (by decide) rfl ?_
          refine V.goto (tgt := 19) dX4_freeOthers_77 (by decide) ?_
          first | exact V.mono (fun r h1 n1 q1 => by rw [frL, if_neg c40]; exact q1) (ih (i + 1) K h hw hD hs ho (by omega)) | exact V.mono (fun r h1 n1 q1 => by rw [frL, if_pos c40, if_neg (of_decide_eq_false c52)]; exact q1) (ih (i + 1) K h hw hD hs ho (by omega)) | exact V.mono (fun r h1 n1 q1 => by rw [frL, if_pos c40, if_pos h51, if_neg (show ¬ rel K i 88 = 0 from c70)]; exact q1) (ih (i + 1) _ _ hw1 hD1 hs1 ho1 (by omega))
        · exact V.vret (by exact dX4_freeOthers_73) rfl ⟨rfl, rfl, by rw [frL, if_pos c40, if_pos h51, if_pos (show rel K i 88 = 0 from c70)]; exact hw1, ho1⟩
theorem cntH_0 {K : KK} {s : Int32} : ∀ {m : Nat}, cntH K s m = 0 → ∀ i, i < m → gP K i 0 = s → ¬ gP K i 5 = nI 1 := by
  intro m
  induction m with
  | zero => intro _ i hi; omega
  | succ m ih =>
    intro h i hi hs h5
    rw [cntH] at h
    by_cases q : i = m
    · rw [← q, if_pos ⟨hs, h5⟩] at h; omega
    · exact ih (by omega) i (by omega) hs h5
theorem frL_id {K : KK} {s : Int32} {m : Nat} (h : cntH K s m = 0) : ∀ r i, i + r ≤ m → frL s r i K = K := by
  intro r
  induction r with
  | zero => intro i _; rfl
  | succ r ih =>
    intro i hi
    rw [frL]
    split
    · rw [if_neg (cntH_0 h i (by omega) (by assumption))]; exact ih _ (by omega)
    · exact ih _ (by omega)
theorem mvF_is (K : KK) (m e : Nat) (to : Int32) (hm : m ≤ 10) : mvF K m to (nI e) (1 - e) = if to = gl (nI (1 - e)) then frL (nI e) m 0 K else K := by
  unfold mvF
  split
  · split
    · rfl
    · rename_i h
      have hc : cntH K (nI e) m = 0 := by
        apply Classical.byContradiction
        intro q
        have := cntH_le K (nI e) m
        exact h (nI_0 ▸ nI_lt (by omega) (by omega))
      rw [frL_id hc m 0 (by omega)]
  · rfl
set_option maxRecDepth 20000 in
set_option maxHeartbeats 4000000 in
theorem s4_free (l : Launch) (d : Nat) (h : MH) (n w : Nat) (K : KK) (cl P : Nat → Int32) (pn : Nat) (hw : WoodAt h w K cl P pn) (p e m : Nat) (hp : p < m) (he : e < 2) (hD : KD K m) (hs : gP K p 0 = nI e) (hfr : gP K p 5 = nI 0) : Sp l mX4_freeOthers (d + 1) [.ref w, .ref (w + 8 + p)] h n 0 0 (Wq w (mvF K m (gP K p 4) (nI e) (1 - e)) cl P pn h n) := by
  have hcp : cAt K cl p = gP K p 4 := if_neg (by rw [hfr]; decide)
  have hm10 := hD.1.2.1
  rw [mvF_is _ _ _ _ hm10]
  obtain ⟨hw0, ⟨gr, hgr, egr⟩, ⟨ru, hru, eru⟩, ⟨pq, hpf, epf⟩, hpl, ⟨fl, hfl, efl⟩, ⟨ca, hca, eca⟩, ⟨wa, hwa⟩, hpp, hhd⟩ := id hw
  show V _ _ _ _ [some (.ref w), some (.ref (w + 8 + p)), none] _ _ _ _ _ _
  refine V.aload_n dX4_freeOthers_0 rfl ?_
  refine V.getf dX4_freeOthers_1 fl_X4_139 (hpp _ (by omega)) rfl ?_
  (try rw [hcp])
  (try rw [hcq])
  refine V.iconst (v := nI 1) dX4_freeOthers_4 (by decide) ?_
  refine V.aload_n dX4_freeOthers_5 rfl ?_
  refine V.getf dX4_freeOthers_6 fl_X4_104 (hpp _ (by omega)) rfl ?_
  rw [hs]
  refine V.isubN dX4_freeOthers_9 (by omega) ?_
  refine V.callSv [_] dX4_freeOthers_10 lk_X4_98 rfl (Nat.le_of_ble_eq_true rfl) (Nat.le_of_ble_eq_true rfl) (s5_gaolOf _ _ _ _ _) ?_
  refine V.icmp_eq (tgt := 17) dX4_freeOthers_13 (by decide) (fun c13 => ?_) (fun c13 => ?_)
  · refine V.iconst (v := nI 0) dX4_freeOthers_17 (by decide) ?_
    refine V.ist2 dX4_freeOthers_18 (by decide) rfl ?_
    rw [if_pos c13]
    exact s4_free_loop l d n w cl P pn h p e m hp m 0 K h hw hD hs (Out.rf _ _) (by omega)
  · exact V.vret (by exact dX4_freeOthers_16) rfl ⟨rfl, rfl, by rw [if_neg c13]; exact hw, Out.rf _ _⟩
