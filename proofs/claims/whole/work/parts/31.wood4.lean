theorem cell_lt {c : Int32} (h : cellv c) : c.toNatClampNeg < 84 := by
  obtain ⟨j, hj, rfl⟩ := h
  rw [clampI (by omega)]; exact hj
theorem V.callVw {l : Launch} {M : MT} {d pc : Nat} {ls : List (Option Value)} {st : List Value} {h : MH} {n c z : Nat} {Q : Option Value → MH → Nat → Prop} {N : MT} {idx k b ci w pn : Nat} {fs : List Value} {K : KK} {cl P : Nat → Int32} (As : List Value) (hd : decode M.2.1 pc = .ok (.invokevirtual idx, 3)) (hk : LkV M.1.cls idx N k) (hA : As.length = k) (hlen : (ls0 (.ref b :: As)).length ≤ N.2.2.1) (hst : (st.map fun v => v.category).sum ≤ 8)
    (hb0 : h b = some (.inr (ci, fs))) (hci : (classes[ci]?).map (fun q => q.1) = some N.1.cls) (hN : Sp l N d (.ref b :: As) h n 0 0 (Wq w K cl P pn h n)) (kk : ∀ h1 : MH, WoodAt h1 w K cl P pn → Out h h1 w → V l M (d + 1) (pc + 3) ls st h1 n c z Q) : V l M (d + 1) pc ls (As.reverse ++ .ref b :: st) h n c z Q :=
  V.callV (c := c) (z := z) As hd hk hA hlen hst hb0 hci hN (fun r h1 n1 q => by obtain ⟨rfl, rfl, hw, ho⟩ := q; exact kk h1 hw ho)
theorem bI_1 : bI true = nI 1 := by decide
theorem bI_0 : bI false = nI 0 := by decide
set_option maxRecDepth 20000 in
set_option maxHeartbeats 4000000 in
theorem s4_walk_c (l : Launch) (d : Nat) (h : MH) (n w : Nat) (K : KK) (cl P : Nat → Int32) (pn : Nat) (hw : WoodAt h w K cl P pn) (h0 : MH) (ho : Out h0 h w) (p e : Nat) (to : Int32) (hp : p < 10) (he : e < 2) (hs : gP K p 0 = nI e) : V l mX4_walk (d + 1) 39 [some (.ref w), some (.int (nI p)), some (.int to), some (.ref (w + 8 + p))] [] h n 0 0 (Wq w (mfl K p (1 - e) to) cl P pn h0 n) := by
  obtain ⟨hw0, ⟨gr, hgr, egr⟩, ⟨ru, hru, eru⟩, ⟨pq, hpf, epf⟩, hpl, ⟨fl, hfl, efl⟩, ⟨ca, hca, eca⟩, ⟨wa, hwa⟩, hpp, hhd⟩ := id hw
  refine V.aload_n dX4_walk_39 rfl ?_
  refine V.iload_n dX4_walk_40 rfl ?_
  refine V.callVv [_] dX4_walk_41 lk_X4_156 rfl (Nat.le_of_ble_eq_true rfl) (Nat.le_of_ble_eq_true rfl) hw0 rfl (s4_carries _ _ _ _ _ _ _ _ _ hw _ _ (by omega) he hs) ?_
  refine V.if_eqB (tgt := 59) dX4_walk_44 (by decide) (fun c44 => ?_) (fun c44 => ?_)
  · exact V.vret (by exact dX4_walk_59) rfl ⟨rfl, rfl, by rw [mfl, if_neg (of_decide_eq_false c44)]; exact hw, ho⟩
  · refine V.aload_n dX4_walk_47 rfl ?_
    refine V.getf dX4_walk_48 fl_X4_27 hw0 rfl ?_
    refine V.iconst (v := nI 1) dX4_walk_51 (by decide) ?_
    refine V.aload_n dX4_walk_52 rfl ?_
    refine V.getf dX4_walk_53 fl_X4_104 (hpp _ (by omega)) rfl ?_
    rw [hs]
    refine V.isubN dX4_walk_56 (by omega) ?_
    refine V.iload_n dX4_walk_57 rfl ?_
    refine V.iastN dX4_walk_58 hfl (by omega) (by decide) ?_
    exact V.vret (by exact dX4_walk_59) rfl ⟨rfl, rfl, by rw [mfl, if_pos (of_decide_eq_true c44)]; exact hw.flag hfl (1 - e) to (by omega), ho.set _ _ (by omega) (by omega)⟩
set_option maxRecDepth 20000 in
set_option maxHeartbeats 4000000 in
theorem s4_walk_b (l : Launch) (d : Nat) (h : MH) (n w : Nat) (K : KK) (cl P : Nat → Int32) (pn : Nat) (hw : WoodAt h w K cl P pn) (h0 : MH) (ho : Out h0 h w) (p e : Nat) (to : Int32) (hp : p < 10) (he : e < 2) (hs : gP K p 0 = nI e) (ht : cellv to) : V l mX4_walk (d + 1) 21 [some (.ref w), some (.int (nI p)), some (.int to), some (.ref (w + 8 + p))] [] h n 0 0 (Wq w (mfl (upd K (114 + 7 * p + 6) (if K to.toNatClampNeg = nI 2 then nI 1 else nI 0)) p (1 - e) to) cl P pn h0 n) := by
  obtain ⟨hw0, ⟨gr, hgr, egr⟩, ⟨ru, hru, eru⟩, ⟨pq, hpf, epf⟩, hpl, ⟨fl, hfl, efl⟩, ⟨ca, hca, eca⟩, ⟨wa, hwa⟩, hpp, hhd⟩ := id hw
  refine V.aload_n dX4_walk_21 rfl ?_
  refine V.aload_n dX4_walk_22 rfl ?_
  refine V.iload_n dX4_walk_23 rfl ?_
  refine V.callVv [_] dX4_walk_24 lk_X4_119 rfl (Nat.le_of_ble_eq_true rfl) (Nat.le_of_ble_eq_true rfl) hw0 rfl (s4_groundOfI _ _ _ _ _ _ _ _ _ hw _ ht) ?_
  refine V.iconst (v := nI 2) dX4_walk_27 (by decide) ?_
  refine V.icmp_ne (tgt := 35) dX4_walk_28 (by decide) (fun c28 => ?_) (fun c28 => ?_)
  · refine V.iconst (v := nI 0) dX4_walk_35 (by decide) ?_
    refine V.putf dX4_walk_36 fp_X4_193 (hpp _ (by omega)) (Nat.le_of_ble_eq_true rfl) (fun _ => ⟨rfl, rfl⟩) ?_
    rw [pF_left]
    simp only [not_true_eq_false, c28, not_true_eq_false, not_false_eq_true, if_true, if_false, decide_true, decide_false, Bool.and_true, Bool.and_false, Bool.true_and, Bool.false_and, Bool.or_true, Bool.or_false, Bool.true_or, Bool.false_or, Bool.not_true, Bool.not_false, and_true, and_false, true_and, false_and, or_true, or_false, true_or, false_or, bIt, bIf, Bool.false_eq_true, reduceCtorEq]
    exact s4_walk_c l d _ n w _ cl P pn (hw.pl p 6 _ hp (Or.inr (Or.inr rfl)) (fun q => absurd q (by decide))) h0 (ho.set _ _ (by omega) (by omega)) p e to hp he (by rw [gP_upd _ _ _ _ _ _ (by omega) (by omega), if_neg (by omega)]; exact hs)
  · refine V.iconst (v := nI 1) dX4_walk_31 (by decide) ?_
    refine V.goto (tgt := 36) dX4_walk_32 (by decide) ?_
    refine V.putf dX4_walk_36 fp_X4_193 (hpp _ (by omega)) (Nat.le_of_ble_eq_true rfl) (fun _ => ⟨rfl, rfl⟩) ?_
    rw [pF_left]
    simp only [not_true_eq_false, eq_true c28, not_true_eq_false, not_false_eq_true, if_true, if_false, decide_true, decide_false, Bool.and_true, Bool.and_false, Bool.true_and, Bool.false_and, Bool.or_true, Bool.or_false, Bool.true_or, Bool.false_or, Bool.not_true, Bool.not_false, and_true, and_false, true_and, false_and, or_true, or_false, true_or, false_or, bIt, bIf, Bool.false_eq_true, reduceCtorEq]
    exact s4_walk_c l d _ n w _ cl P pn (hw.pl p 6 _ hp (Or.inr (Or.inr rfl)) (fun q => absurd q (by decide))) h0 (ho.set _ _ (by omega) (by omega)) p e to hp he (by rw [gP_upd _ _ _ _ _ _ (by omega) (by omega), if_neg (by omega)]; exact hs)
/-- the class's step -/
def wlk (K : KK) (p e : Nat) (to : Int32) : KK := if to = gP K p 4 then K else mfl (mv1 K p to) p (1 - e) to
set_option maxRecDepth 20000 in
set_option maxHeartbeats 4000000 in
theorem s4_walk (l : Launch) (d : Nat) (h : MH) (n w : Nat) (K : KK) (cl P : Nat → Int32) (pn : Nat) (hw : WoodAt h w K cl P pn) (p e : Nat) (to : Int32) (hp : p < 10) (he : e < 2) (hs : gP K p 0 = nI e) (ht : cellv to) (hfr : gP K p 5 = nI 0) : Sp l mX4_walk (d + 1) [.ref w, .int (nI p), .int to] h n 0 0 (Wq w (wlk K p e to) cl P pn h n) := by
  have hcp : cAt K cl p = gP K p 4 := if_neg (by rw [hfr]; decide)
  obtain ⟨hw0, ⟨gr, hgr, egr⟩, ⟨ru, hru, eru⟩, ⟨pq, hpf, epf⟩, hpl, ⟨fl, hfl, efl⟩, ⟨ca, hca, eca⟩, ⟨wa, hwa⟩, hpp, hhd⟩ := id hw
  show V _ _ _ _ [some (.ref w), some (.int (nI p)), some (.int to), none] _ _ _ _ _ _
  refine V.aload_n dX4_walk_0 rfl ?_
  refine V.getf dX4_walk_1 fl_X4_20 hw0 rfl ?_
  refine V.iload_n dX4_walk_4 rfl ?_
  refine V.aaldN dX4_walk_5 (Or.inl rfl) hpf (by omega) (by decide) (epf _ (by omega)) ?_
  refine V.ast3 dX4_walk_6 (by decide) rfl ?_
  refine V.iload_n dX4_walk_7 rfl ?_
  refine V.aload_n dX4_walk_8 rfl ?_
  refine V.getf dX4_walk_9 fl_X4_139 (hpp _ (by omega)) rfl ?_
  (try rw [hcp])
  (try rw [hcq])
  refine V.icmp_ne (tgt := 16) dX4_walk_12 (by decide) (fun c12 => ?_) (fun c12 => ?_)
  · refine V.aload_n dX4_walk_16 rfl ?_
    refine V.iload_n dX4_walk_17 rfl ?_
    refine V.putf dX4_walk_18 fp_X4_139 (hpp _ (by omega)) (Nat.le_of_ble_eq_true rfl) (fun _ => ⟨rfl, rfl⟩) ?_
    rw [pF_cell _ _ _ _ (by rw [hfr]; decide), wlk, if_neg c12, mv1]
    exact s4_walk_b l d _ n w _ cl P pn (hw.pl p 4 to hp (Or.inl rfl) (fun q => absurd q (by decide))) h ((Out.rf _ _).set _ _ (by omega) (by omega)) p e to hp he (by rw [gP_upd _ _ _ _ _ _ (by omega) (by omega), if_neg (by omega)]; exact hs) ht
  · exact V.vret (by exact dX4_walk_15) rfl ⟨rfl, rfl, by rw [wlk, if_pos c12]; exact hw, Out.rf _ _⟩
set_option maxRecDepth 20000 in
set_option maxHeartbeats 4000000 in
theorem s4_draw (l : Launch) (d : Nat) (h : MH) (n w : Nat) (K : KK) (cl P : Nat → Int32) (pn : Nat) (hw : WoodAt h w K cl P pn) : Sp l mX4_draw d [.ref w] h n 0 0 (fun r h1 n1 => r = some (.int (dv K)) ∧ n1 = n ∧ WoodAt h1 w (dz K) cl P pn ∧ Out h h1 w) := by
  obtain ⟨hw0, ⟨gr, hgr, egr⟩, ⟨ru, hru, eru⟩, ⟨pq, hpf, epf⟩, hpl, ⟨fl, hfl, efl⟩, ⟨ca, hca, eca⟩, ⟨wa, hwa⟩, hpp, hhd⟩ := id hw
  show V _ _ _ _ [some (.ref w)] _ _ _ _ _ _
  refine V.aload_n dX4_draw_0 rfl ?_
  refine V.aload_n dX4_draw_1 rfl ?_
  refine V.getf dX4_draw_2 fl_X4_70 hw0 rfl ?_
  refine V.ldc dX4_draw_5 cn_X4_219 ?_
  refine V.imul dX4_draw_7 ?_
  refine V.sipush (v := nI 12345) dX4_draw_8 (by decide) ?_
  refine V.iadd dX4_draw_11 ?_
  refine V.putf dX4_draw_12 fp_X4_70 hw0 (Nat.le_of_ble_eq_true rfl) (fun _ => ⟨rfl, rfl⟩) ?_
  have hw := hw.ob 95 (K 95 * 1103515245 + nI 12345) (by omega) (by omega)
  have ho := (Out.rf h w).set w (.inr (4, woF (upd K 95 (K 95 * 1103515245 + nI 12345)) w pn)) (by omega) (by omega)
  show V _ _ _ _ _ _ (hset h w (.inr (4, woF (upd K 95 (K 95 * 1103515245 + nI 12345)) w pn))) _ _ _ _
  generalize hset h w (.inr (4, woF (upd K 95 (K 95 * 1103515245 + nI 12345)) w pn)) = h at hw ho ⊢
  obtain ⟨hw0, ⟨gr, hgr, egr⟩, ⟨ru, hru, eru⟩, ⟨pq, hpf, epf⟩, hpl, ⟨fl, hfl, efl⟩, ⟨ca, hca, eca⟩, ⟨wa, hwa⟩, hpp, hhd⟩ := id hw
  refine V.aload_n dX4_draw_15 rfl ?_
  refine V.getf dX4_draw_16 fl_X4_70 hw0 rfl ?_
  refine V.ldc dX4_draw_19 cn_X4_186 ?_
  refine V.iand dX4_draw_21 ?_
  refine V.ldc dX4_draw_22 cn_X4_220 ?_
  refine V.idiv dX4_draw_24 (by decide) ?_
  refine V.bipush (v := nI 100) dX4_draw_25 (by decide) ?_
  refine V.irem dX4_draw_27 (by decide) ?_
  exact V.iret (by exact dX4_draw_28) rfl rfl ⟨rfl, rfl, hw, ho⟩
/-- who has which flag: nobody, or a player; likewise who had one first -/
def KW (K : KK) (m : Nat) : Prop := (∀ e, e < 2 → K (97 + 2 * e) = -4 ∨ ∃ j : Nat, j < m ∧ K (97 + 2 * e) = nI j) ∧ (K 94 = -4 ∨ ∃ j : Nat, j < m ∧ K 94 = nI j)
theorem kw_lt {x : Int32} {m : Nat} (hm : m ≤ 10) (h : x = -4 ∨ ∃ j : Nat, j < m ∧ x = nI j) : x < 0 ↔ x = -4 := by
  rcases h with rfl | ⟨j, hj, rfl⟩
  · exact ⟨fun _ => rfl, fun _ => by decide⟩
  · constructor
    · intro q; exact absurd q (nI_pos (by omega))
    · intro q; rw [q]; decide
theorem upd_same (K : KK) (i : Nat) : upd K i (K i) = K := by
  funext j
  unfold upd
  split
  · rename_i q; rw [q]
  · rfl
set_option maxRecDepth 20000 in
set_option maxHeartbeats 4000000 in
theorem s4_take_b (l : Launch) (d : Nat) (h : MH) (n w : Nat) (K : KK) (cl P : Nat → Int32) (pn : Nat) (hw : WoodAt h w K cl P pn) (h0 : MH) (ho : Out h0 h w) (p m e : Nat) (hp : p < 10) (hm : m ≤ 10) (h94 : K 94 = -4 ∨ ∃ j : Nat, j < m ∧ K 94 = nI j) : V l mX4_takeFlag d 46 [some (.ref w), some (.int (nI p)), some (.ref (w + 8 + p)), some (.int (nI (1 - e)))] [] h n 0 0 (Wq w (upd K 94 (if K 94 < 0 then nI p else K 94)) cl P pn h0 n) := by
  obtain ⟨hw0, ⟨gr, hgr, egr⟩, ⟨ru, hru, eru⟩, ⟨pq, hpf, epf⟩, hpl, ⟨fl, hfl, efl⟩, ⟨ca, hca, eca⟩, ⟨wa, hwa⟩, hpp, hhd⟩ := id hw
  refine V.aload_n dX4_takeFlag_46 rfl ?_
  refine V.getf dX4_takeFlag_47 fl_X4_67 hw0 rfl ?_
  refine V.bipush (v := -4) dX4_takeFlag_50 (by decide) ?_
  refine V.icmp_ne (tgt := 60) dX4_takeFlag_52 (by decide) (fun c52 => ?_) (fun c52 => ?_)
  · exact V.vret (by exact dX4_takeFlag_60) rfl ⟨rfl, rfl, by rw [if_neg (fun q => c52 ((kw_lt hm h94).mp q)), upd_same]; exact hw, ho⟩
  · refine V.aload_n dX4_takeFlag_55 rfl ?_
    refine V.iload_n dX4_takeFlag_56 rfl ?_
    refine V.putf dX4_takeFlag_57 fp_X4_67 hw0 (Nat.le_of_ble_eq_true rfl) (fun _ => ⟨rfl, rfl⟩) ?_
    exact V.vret (by exact dX4_takeFlag_60) rfl ⟨rfl, rfl, by rw [if_pos ((kw_lt hm h94).mpr c52)]; exact hw.ob 94 (nI p) (by omega) (by omega), ho.set _ _ (by omega) (by omega)⟩
set_option maxRecDepth 20000 in
set_option maxHeartbeats 4000000 in
theorem s4_takeFlag (l : Launch) (d : Nat) (h : MH) (n w : Nat) (K : KK) (cl P : Nat → Int32) (pn : Nat) (hw : WoodAt h w K cl P pn) (p e m : Nat) (hp : p < 10) (he : e < 2) (hm : m ≤ 10) (hs : gP K p 0 = nI e) (hfr : gP K p 5 = nI 0) (hW : KW K m) : Sp l mX4_takeFlag d [.ref w, .int (nI p)] h n 0 0 (Wq w (mvT K p (gP K p 4) (1 - e)) cl P pn h n) := by
  have hcp : cAt K cl p = gP K p 4 := if_neg (by rw [hfr]; decide)
  obtain ⟨hw0, ⟨gr, hgr, egr⟩, ⟨ru, hru, eru⟩, ⟨pq, hpf, epf⟩, hpl, ⟨fl, hfl, efl⟩, ⟨ca, hca, eca⟩, ⟨wa, hwa⟩, hpp, hhd⟩ := id hw
  show V _ _ _ _ [some (.ref w), some (.int (nI p)), none, none] _ _ _ _ _ _
  refine V.aload_n dX4_takeFlag_0 rfl ?_
  refine V.getf dX4_takeFlag_1 fl_X4_20 hw0 rfl ?_
  refine V.iload_n dX4_takeFlag_4 rfl ?_
  refine V.aaldN dX4_takeFlag_5 (Or.inl rfl) hpf (by omega) (by decide) (epf _ (by omega)) ?_
  refine V.ast2 dX4_takeFlag_6 (by decide) rfl ?_
  refine V.iconst (v := nI 1) dX4_takeFlag_7 (by decide) ?_
  refine V.aload_n dX4_takeFlag_8 rfl ?_
  refine V.getf dX4_takeFlag_9 fl_X4_104 (hpp _ (by omega)) rfl ?_
  rw [hs]
  refine V.isubN dX4_takeFlag_12 (by omega) ?_
  refine V.ist3 dX4_takeFlag_13 (by decide) rfl ?_
  refine V.aload_n dX4_takeFlag_14 rfl ?_
  refine V.getf dX4_takeFlag_15 fl_X4_30 hw0 rfl ?_
  refine V.iload_n dX4_takeFlag_18 rfl ?_
  refine V.ialdN dX4_takeFlag_19 hca (by omega) (by decide) ?_
  rw [eca _ (by omega)]
  refine V.bipush (v := -4) dX4_takeFlag_20 (by decide) ?_
  refine V.icmp_ne (tgt := 38) dX4_takeFlag_22 (by decide) (fun c22 => ?_) (fun c22 => ?_)
  · exact V.vret (by exact dX4_takeFlag_38) rfl ⟨rfl, rfl, by first | (rw [mvT, if_neg (fun q => c22 ((kw_lt hm (hW.1 (1 - e) (by omega))).mp q))]; exact hw) | (rw [mvT, if_neg c35]; split <;> exact hw), Out.rf _ _⟩
  · refine V.aload_n dX4_takeFlag_25 rfl ?_
    refine V.getf dX4_takeFlag_26 fl_X4_27 hw0 rfl ?_
    refine V.iload_n dX4_takeFlag_29 rfl ?_
    refine V.ialdN dX4_takeFlag_30 hfl (by omega) (by decide) ?_
    rw [efl _ (by omega)]
    refine V.aload_n dX4_takeFlag_31 rfl ?_
    refine V.getf dX4_takeFlag_32 fl_X4_139 (hpp _ (by omega)) rfl ?_
    (try rw [hcp])
    (try rw [hcq])
    refine V.icmp_eq (tgt := 39) dX4_takeFlag_35 (by decide) (fun c35 => ?_) (fun c35 => ?_)
    · refine V.aload_n dX4_takeFlag_39 rfl ?_
      refine V.getf dX4_takeFlag_40 fl_X4_30 hw0 rfl ?_
      refine V.iload_n dX4_takeFlag_43 rfl ?_
      refine V.iload_n dX4_takeFlag_44 rfl ?_
      refine V.iastN dX4_takeFlag_45 hca (by omega) (by decide) ?_
      refine V.mono ?_ (s4_take_b l d _ n w _ cl P pn (hw.carr hca (1 - e) (nI p) (by omega)) h ((Out.rf _ _).set _ _ (by omega) (by omega)) p m e hp hm (by rw [pk_un (by omega)]; exact hW.2))
      intro r h1 n1 q1
      rw [mvT, if_pos ((kw_lt hm (hW.1 (1 - e) (by omega))).mpr c22), if_pos c35]
      rw [show 96 + 2 * (1 - e) + 1 = 97 + 2 * (1 - e) by omega]
      exact q1
    · exact V.vret (by exact dX4_takeFlag_38) rfl ⟨rfl, rfl, by first | (rw [mvT, if_neg (fun q => c22 ((kw_lt hm (hW.1 (1 - e) (by omega))).mp q))]; exact hw) | (rw [mvT, if_neg c35]; split <;> exact hw), Out.rf _ _⟩
