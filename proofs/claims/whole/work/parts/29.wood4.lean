theorem has_car {K : KK} {m p e : Nat} (hF : KF K m) (hp : p < m) (he : e < 2) (hs : gP K p 0 = nI e) : hasF K (nI p) = decide (K (97 + 2 * (1 - e)) = nI p) := by
  have h1 := hF.2 p e hp he hs
  rw [hasF]
  rcases (show e = 0 ∨ e = 1 by omega) with rfl | rfl
  · have h2 : ¬ K 97 = nI p := h1
    simp [h2]
  · have h2 : ¬ K 99 = nI p := h1
    simp [h2]
theorem prey_fr {K : KK} {m p : Nat} (h : ¬ prey K m p = -4) : ∃ j : Nat, j < m ∧ prey K m p = nI j ∧ frB K j = true := by
  rcases pyL_fr K m p (if role K m p 0 = nI 5 then gl (gP K p 0) else gP K p 3) m with e | e
  · exact absurd e h
  · exact e
set_option maxRecDepth 20000 in
set_option maxHeartbeats 4000000 in
theorem s4_goalOf (l : Launch) (d : Nat) (h : MH) (n w : Nat) (K : KK) (cl P : Nat → Int32) (pn : Nat) (hw : WoodAt h w K cl P pn) (p m : Nat) (hPR : PR K P pn) (hK : KR K m) (hp : p < m) (hfr : gP K p 5 = nI 0) (hF : KF K m) : Sp l mX4_goalOf (d + 4) [.ref w, .int (nI p)] h n 0 0 (Pv (goal K m p) h n) := by
  have hm := hK.1
  have hm10 := hK.2.1
  have hpn := hPR.1
  have hcv : cellv (gP K p 4) := hK.2.2.2.2.1 p hp hfr
  have hcp : cAt K cl p = gP K p 4 := if_neg (by rw [hfr]; decide)
  obtain ⟨e0, he, hs⟩ := hK.2.2.1 p hp
  obtain ⟨kq, hk8, hk⟩ := role_kind hK hp
  obtain ⟨hw0, ⟨gr, hgr, egr⟩, ⟨ru, hru, eru⟩, ⟨pq, hpf, epf⟩, hpl, ⟨fl, hfl, efl⟩, ⟨ca, hca, eca⟩, ⟨wa, hwa⟩, hpp, hhd⟩ := id hw
  show V _ _ _ _ [some (.ref w), some (.int (nI p)), none, none, none] _ _ _ _ _ _
  refine V.aload_n dX4_goalOf_0 rfl ?_
  refine V.getf dX4_goalOf_1 fl_X4_20 hw0 rfl ?_
  refine V.iload_n dX4_goalOf_4 rfl ?_
  refine V.aaldN dX4_goalOf_5 (Or.inl rfl) hpf (by omega) (by decide) (epf _ (by omega)) ?_
  refine V.ast2 dX4_goalOf_6 (by decide) rfl ?_
  refine V.aload_n dX4_goalOf_7 rfl ?_
  refine V.iload_n dX4_goalOf_8 rfl ?_
  refine V.callVv [_] dX4_goalOf_9 lk_X4_156 rfl (Nat.le_of_ble_eq_true rfl) (Nat.le_of_ble_eq_true rfl) hw0 rfl (s4_carries _ _ _ _ _ _ _ _ _ hw _ _ (by omega) he hs) ?_
  refine V.if_eqB (tgt := 20) dX4_goalOf_12 (by decide) (fun c12 => ?_) (fun c12 => ?_)
  · refine V.aload_n dX4_goalOf_20 rfl ?_
    refine V.aload_n dX4_goalOf_21 rfl ?_
    refine V.callVv [_] dX4_goalOf_22 lk_X4_159 rfl (Nat.le_of_ble_eq_true rfl) (Nat.le_of_ble_eq_true rfl) hw0 rfl (s4_kindOf _ _ _ _ _ _ _ _ _ hw _ (by omega) _ hm hm10 hpn) ?_
    rw [rol_role hPR hK hp 0 (by omega), hk]
    refine V.ist3 dX4_goalOf_25 (by decide) rfl ?_
    rcases (show kq = 0 ∨ kq = 1 ∨ kq = 2 ∨ kq = 3 ∨ kq = 4 ∨ kq = 5 ∨ kq = 6 ∨ kq = 7 by omega) with rfl | rfl | rfl | rfl | rfl | rfl | rfl | rfl
    · refine V.iload_n dX4_goalOf_26 rfl ?_
      refine V.callSv [_] dX4_goalOf_27 lk_X4_162 rfl (Nat.le_of_ble_eq_true rfl) (Nat.le_of_ble_eq_true rfl) (s4_isGuard _ _ _ _ _) ?_
      refine V.if_eqB (tgt := 68) dX4_goalOf_30 (by decide) (fun _ => ?_) (fun q => absurd q (by decide))
      refine V.aload_n dX4_goalOf_68 rfl ?_
      refine V.aload_n dX4_goalOf_69 rfl ?_
      refine V.callVv [_] dX4_goalOf_70 lk_X4_172 rfl (Nat.le_of_ble_eq_true rfl) (Nat.le_of_ble_eq_true rfl) hw0 rfl (s4_figureOf _ _ _ _ _ _ _ _ _ hw _ (by omega) _ hm hm10 hpn) ?_
      rw [rol_role hPR hK hp 1 (by omega)]
      refine V.ist4 dX4_goalOf_73 (by decide) rfl ?_
      refine V.iload_n dX4_goalOf_75 rfl ?_
      refine V.iconst (v := nI 3) dX4_goalOf_76 (by decide) ?_
      refine V.icmp_ne (tgt := 102) dX4_goalOf_77 (by decide) (fun _ => ?_) (fun q => absurd q (by decide))
      refine V.iload_n dX4_goalOf_102 rfl ?_
      refine V.iconst (v := nI 2) dX4_goalOf_103 (by decide) ?_
      refine V.icmp_eq (tgt := 112) dX4_goalOf_104 (by decide) (fun q => absurd q (by decide)) (fun _ => ?_)
      refine V.iload_n dX4_goalOf_107 rfl ?_
      refine V.iconst (v := nI 3) dX4_goalOf_108 (by decide) ?_
      refine V.icmp_ne (tgt := 120) dX4_goalOf_109 (by decide) (fun _ => ?_) (fun q => absurd q (by decide))
      refine V.iload_n dX4_goalOf_120 rfl ?_
      refine V.bipush (v := nI 6) dX4_goalOf_121 (by decide) ?_
      refine V.icmp_ne (tgt := 147) dX4_goalOf_123 (by decide) (fun _ => ?_) (fun q => absurd q (by decide))
      refine V.aload_n dX4_goalOf_147 rfl ?_
      refine V.getf dX4_goalOf_148 fl_X4_27 hw0 rfl ?_
      refine V.iconst (v := nI 1) dX4_goalOf_151 (by decide) ?_
      refine V.aload_n dX4_goalOf_152 rfl ?_
      refine V.getf dX4_goalOf_153 fl_X4_104 (hpp _ (by omega)) rfl ?_
      rw [hs]
      refine V.isubN dX4_goalOf_156 (by omega) ?_
      refine V.ialdN dX4_goalOf_157 hfl (by omega) (by decide) ?_
      rw [efl _ (by omega)]
      exact V.iretP (by exact dX4_goalOf_158) rfl (by (try simp only [← Int32.not_le, Classical.not_not] at ha ⊢); (try simp only [hs] at ha); simp only [goal, crp, post, has_car hF hp he hs, c12, hk, clampI (show e0 < 2147483648 by omega), hs, ← Int32.not_le, (show ¬ nI 0 = nI 1 by decide), (show ¬ nI 0 = nI 5 by decide), (show ¬ nI 0 = nI 7 by decide), (show ¬ nI 0 = nI 3 by decide), (show ¬ nI 0 = nI 2 by decide), (show ¬ nI 0 = nI 6 by decide), not_true_eq_false, not_false_eq_true, if_true, if_false, decide_true, decide_false, Bool.and_true, Bool.and_false, Bool.true_and, Bool.false_and, Bool.or_true, Bool.or_false, Bool.true_or, Bool.false_or, Bool.not_true, Bool.not_false, and_true, and_false, true_and, false_and, or_true, or_false, true_or, false_or, bIt, bIf, Bool.false_eq_true, reduceCtorEq]) rfl
    · refine V.iload_n dX4_goalOf_26 rfl ?_
      refine V.callSv [_] dX4_goalOf_27 lk_X4_162 rfl (Nat.le_of_ble_eq_true rfl) (Nat.le_of_ble_eq_true rfl) (s4_isGuard _ _ _ _ _) ?_
      refine V.if_eqB (tgt := 68) dX4_goalOf_30 (by decide) (fun q => absurd q (by decide)) (fun _ => ?_)
      refine V.aload_n dX4_goalOf_33 rfl ?_
      refine V.aload_n dX4_goalOf_34 rfl ?_
      refine V.iload_n dX4_goalOf_35 rfl ?_
      refine V.callVv [_, _] dX4_goalOf_36 lk_X4_165 rfl (Nat.le_of_ble_eq_true rfl) (Nat.le_of_ble_eq_true rfl) hw0 rfl (s4_quarryOf _ _ _ _ _ _ _ _ _ hw _ _ hPR hK hp hfr _) ?_
      rw [show pyL K m p (if nI 1 = nI 5 then gl (gP K p 0) else gP K p 3) m = prey K m p by rw [prey, hk]]
      refine V.ist4 dX4_goalOf_39 (by decide) rfl ?_
      refine V.iload dX4_goalOf_41 rfl ?_
      refine V.bipush (v := -4) dX4_goalOf_43 (by decide) ?_
      refine V.icmp_ne (tgt := 57) dX4_goalOf_45 (by decide) (fun c45 => ?_) (fun c45 => ?_)
      · obtain ⟨j, hj, ej, hfj⟩ := prey_fr c45
        have hcq : cAt K cl j = gP K j 4 := cAt_fr hfj
        rw [ej]
        refine V.aload_n dX4_goalOf_57 rfl ?_
        refine V.getf dX4_goalOf_58 fl_X4_20 hw0 rfl ?_
        refine V.iload dX4_goalOf_61 rfl ?_
        refine V.aaldN dX4_goalOf_63 (Or.inl rfl) hpf (by omega) (by decide) (epf _ (by omega)) ?_
        refine V.getf dX4_goalOf_64 fl_X4_139 (hpp _ (by omega)) rfl ?_
        (try rw [hcp])
        (try rw [hcq])
        exact V.iretP (by exact dX4_goalOf_67) rfl (by simp only [goal, has_car hF hp he hs, c12, hk, ej, hs, nI_pos' (show j < 2 ^ 31 by omega), clampI (show j < 2147483648 by omega), ← Int32.not_le, (show ¬ nI 1 = nI 5 by decide), (show ¬ nI 1 = nI 7 by decide), (show ¬ nI 1 = nI 3 by decide), (show ¬ nI 1 = nI 2 by decide), (show ¬ nI 1 = nI 6 by decide), not_true_eq_false, not_false_eq_true, if_true, if_false, decide_true, decide_false, Bool.and_true, Bool.and_false, Bool.true_and, Bool.false_and, Bool.or_true, Bool.or_false, Bool.true_or, Bool.false_or, Bool.not_true, Bool.not_false, and_true, and_false, true_and, false_and, or_true, or_false, true_or, false_or, bIt, bIf, Bool.false_eq_true, reduceCtorEq]) rfl
      · refine V.aload_n dX4_goalOf_48 rfl ?_
        refine V.aload_n dX4_goalOf_49 rfl ?_
        refine V.iload_n dX4_goalOf_50 rfl ?_
        refine V.callVv [_, _] dX4_goalOf_51 lk_X4_169 rfl (Nat.le_of_ble_eq_true rfl) (Nat.le_of_ble_eq_true rfl) hw0 rfl (s4_postOf _ _ _ _ _ _ _ _ _ hw _ _ (by omega)) ?_
        refine V.goto (tgt := 67) dX4_goalOf_54 (by decide) ?_
        exact V.iretP (by exact dX4_goalOf_67) rfl (by simp only [goal, post, has_car hF hp he hs, c12, hk, c45, hs, rpo, (show ¬ (0 : Int32) ≤ -4 by decide), ← Int32.not_le, Nat.reduceAdd, (show ¬ nI 1 = nI 5 by decide), (show ¬ nI 1 = nI 7 by decide), (show ¬ nI 1 = nI 3 by decide), (show ¬ nI 1 = nI 2 by decide), (show ¬ nI 1 = nI 6 by decide), not_true_eq_false, not_false_eq_true, if_true, if_false, decide_true, decide_false, Bool.and_true, Bool.and_false, Bool.true_and, Bool.false_and, Bool.or_true, Bool.or_false, Bool.true_or, Bool.false_or, Bool.not_true, Bool.not_false, and_true, and_false, true_and, false_and, or_true, or_false, true_or, false_or, bIt, bIf, Bool.false_eq_true, reduceCtorEq]) rfl
    · refine V.iload_n dX4_goalOf_26 rfl ?_
      refine V.callSv [_] dX4_goalOf_27 lk_X4_162 rfl (Nat.le_of_ble_eq_true rfl) (Nat.le_of_ble_eq_true rfl) (s4_isGuard _ _ _ _ _) ?_
      refine V.if_eqB (tgt := 68) dX4_goalOf_30 (by decide) (fun _ => ?_) (fun q => absurd q (by decide))
      refine V.aload_n dX4_goalOf_68 rfl ?_
      refine V.aload_n dX4_goalOf_69 rfl ?_
      refine V.callVv [_] dX4_goalOf_70 lk_X4_172 rfl (Nat.le_of_ble_eq_true rfl) (Nat.le_of_ble_eq_true rfl) hw0 rfl (s4_figureOf _ _ _ _ _ _ _ _ _ hw _ (by omega) _ hm hm10 hpn) ?_
      rw [rol_role hPR hK hp 1 (by omega)]
      refine V.ist4 dX4_goalOf_73 (by decide) rfl ?_
      refine V.iload_n dX4_goalOf_75 rfl ?_
      refine V.iconst (v := nI 3) dX4_goalOf_76 (by decide) ?_
      refine V.icmp_ne (tgt := 102) dX4_goalOf_77 (by decide) (fun _ => ?_) (fun q => absurd q (by decide))
      refine V.iload_n dX4_goalOf_102 rfl ?_
      refine V.iconst (v := nI 2) dX4_goalOf_103 (by decide) ?_
      refine V.icmp_eq (tgt := 112) dX4_goalOf_104 (by decide) (fun _ => ?_) (fun q => absurd q (by decide))
      refine V.aload_n dX4_goalOf_112 rfl ?_
      refine V.aload_n dX4_goalOf_113 rfl ?_
      refine V.iload dX4_goalOf_114 rfl ?_
      refine V.callVv [_, _] dX4_goalOf_116 lk_X4_178 rfl (Nat.le_of_ble_eq_true rfl) (Nat.le_of_ble_eq_true rfl) hw0 rfl (s4_creep _ _ _ _ _ _ _ _ _ hw _ _ hPR hK hp hfr hF _ he hs _) ?_
      exact V.iretP (by exact dX4_goalOf_119) rfl (by (try simp only [← Int32.not_le, Classical.not_not] at ha ⊢); (try simp only [hs] at ha); simp only [goal, crp, post, has_car hF hp he hs, c12, hk, clampI (show e0 < 2147483648 by omega), hs, ← Int32.not_le, (show ¬ nI 2 = nI 1 by decide), (show ¬ nI 2 = nI 5 by decide), (show ¬ nI 2 = nI 7 by decide), (show ¬ nI 2 = nI 3 by decide), (show ¬ nI 2 = nI 6 by decide), not_true_eq_false, not_false_eq_true, if_true, if_false, decide_true, decide_false, Bool.and_true, Bool.and_false, Bool.true_and, Bool.false_and, Bool.or_true, Bool.or_false, Bool.true_or, Bool.false_or, Bool.not_true, Bool.not_false, and_true, and_false, true_and, false_and, or_true, or_false, true_or, false_or, bIt, bIf, Bool.false_eq_true, reduceCtorEq]) rfl
    · refine V.iload_n dX4_goalOf_26 rfl ?_
      refine V.callSv [_] dX4_goalOf_27 lk_X4_162 rfl (Nat.le_of_ble_eq_true rfl) (Nat.le_of_ble_eq_true rfl) (s4_isGuard _ _ _ _ _) ?_
      refine V.if_eqB (tgt := 68) dX4_goalOf_30 (by decide) (fun _ => ?_) (fun q => absurd q (by decide))
      refine V.aload_n dX4_goalOf_68 rfl ?_
      refine V.aload_n dX4_goalOf_69 rfl ?_
      refine V.callVv [_] dX4_goalOf_70 lk_X4_172 rfl (Nat.le_of_ble_eq_true rfl) (Nat.le_of_ble_eq_true rfl) hw0 rfl (s4_figureOf _ _ _ _ _ _ _ _ _ hw _ (by omega) _ hm hm10 hpn) ?_
      rw [rol_role hPR hK hp 1 (by omega)]
      refine V.ist4 dX4_goalOf_73 (by decide) rfl ?_
      refine V.iload_n dX4_goalOf_75 rfl ?_
      refine V.iconst (v := nI 3) dX4_goalOf_76 (by decide) ?_
      refine V.icmp_ne (tgt := 102) dX4_goalOf_77 (by decide) (fun q => absurd q (by decide)) (fun _ => ?_)
      refine V.aload_n dX4_goalOf_80 rfl ?_
      refine V.aload_n dX4_goalOf_81 rfl ?_
      refine V.getf dX4_goalOf_82 fl_X4_104 (hpp _ (by omega)) rfl ?_
      refine V.aload_n dX4_goalOf_85 rfl ?_
      refine V.getf dX4_goalOf_86 fl_X4_139 (hpp _ (by omega)) rfl ?_
      (try rw [hcp])
      (try rw [hcq])
      refine V.iload dX4_goalOf_89 rfl ?_
      refine V.callVv [_, _, _] dX4_goalOf_91 lk_X4_175 rfl (Nat.le_of_ble_eq_true rfl) (Nat.le_of_ble_eq_true rfl) hw0 rfl (s4_isFaced _ _ _ _ _ _ _ _ _ hw _ _ _ _ hK hp) ?_
      refine V.if_eqB (tgt := 102) dX4_goalOf_94 (by decide) (fun c94 => ?_) (fun c94 => ?_)
      · refine V.iload_n dX4_goalOf_102 rfl ?_
        refine V.iconst (v := nI 2) dX4_goalOf_103 (by decide) ?_
        refine V.icmp_eq (tgt := 112) dX4_goalOf_104 (by decide) (fun q => absurd q (by decide)) (fun _ => ?_)
        refine V.iload_n dX4_goalOf_107 rfl ?_
        refine V.iconst (v := nI 3) dX4_goalOf_108 (by decide) ?_
        refine V.icmp_ne (tgt := 120) dX4_goalOf_109 (by decide) (fun q => absurd q (by decide)) (fun _ => ?_)
        refine V.aload_n dX4_goalOf_112 rfl ?_
        refine V.aload_n dX4_goalOf_113 rfl ?_
        refine V.iload dX4_goalOf_114 rfl ?_
        refine V.callVv [_, _] dX4_goalOf_116 lk_X4_178 rfl (Nat.le_of_ble_eq_true rfl) (Nat.le_of_ble_eq_true rfl) hw0 rfl (s4_creep _ _ _ _ _ _ _ _ _ hw _ _ hPR hK hp hfr hF _ he hs _) ?_
        exact V.iretP (by exact dX4_goalOf_119) rfl (by (try simp only [← Int32.not_le, Classical.not_not] at c94 ⊢); (try simp only [hs] at c94); simp only [goal, crp, post, has_car hF hp he hs, c12, hk, clampI (show e0 < 2147483648 by omega), hs, c94, ← Int32.not_le, (show ¬ nI 3 = nI 1 by decide), (show ¬ nI 3 = nI 5 by decide), (show ¬ nI 3 = nI 7 by decide), (show ¬ nI 3 = nI 2 by decide), (show ¬ nI 3 = nI 6 by decide), not_true_eq_false, not_false_eq_true, if_true, if_false, decide_true, decide_false, Bool.and_true, Bool.and_false, Bool.true_and, Bool.false_and, Bool.or_true, Bool.or_false, Bool.true_or, Bool.false_or, Bool.not_true, Bool.not_false, and_true, and_false, true_and, false_and, or_true, or_false, true_or, false_or, bIt, bIf, Bool.false_eq_true, reduceCtorEq]) rfl
      · refine V.aload_n dX4_goalOf_97 rfl ?_
        refine V.getf dX4_goalOf_98 fl_X4_101 (hpp _ (by omega)) rfl ?_
        exact V.iretP (by exact dX4_goalOf_101) rfl (by (try simp only [← Int32.not_le, Classical.not_not] at c94 ⊢); (try simp only [hs] at c94); simp only [goal, crp, post, has_car hF hp he hs, c12, hk, clampI (show e0 < 2147483648 by omega), hs, c94, ← Int32.not_le, (show ¬ nI 3 = nI 1 by decide), (show ¬ nI 3 = nI 5 by decide), (show ¬ nI 3 = nI 7 by decide), (show ¬ nI 3 = nI 2 by decide), (show ¬ nI 3 = nI 6 by decide), not_true_eq_false, not_false_eq_true, if_true, if_false, decide_true, decide_false, Bool.and_true, Bool.and_false, Bool.true_and, Bool.false_and, Bool.or_true, Bool.or_false, Bool.true_or, Bool.false_or, Bool.not_true, Bool.not_false, and_true, and_false, true_and, false_and, or_true, or_false, true_or, false_or, bIt, bIf, Bool.false_eq_true, reduceCtorEq]) rfl
    · refine V.iload_n dX4_goalOf_26 rfl ?_
      refine V.callSv [_] dX4_goalOf_27 lk_X4_162 rfl (Nat.le_of_ble_eq_true rfl) (Nat.le_of_ble_eq_true rfl) (s4_isGuard _ _ _ _ _) ?_
      refine V.if_eqB (tgt := 68) dX4_goalOf_30 (by decide) (fun _ => ?_) (fun q => absurd q (by decide))
      refine V.aload_n dX4_goalOf_68 rfl ?_
      refine V.aload_n dX4_goalOf_69 rfl ?_
      refine V.callVv [_] dX4_goalOf_70 lk_X4_172 rfl (Nat.le_of_ble_eq_true rfl) (Nat.le_of_ble_eq_true rfl) hw0 rfl (s4_figureOf _ _ _ _ _ _ _ _ _ hw _ (by omega) _ hm hm10 hpn) ?_
      rw [rol_role hPR hK hp 1 (by omega)]
      refine V.ist4 dX4_goalOf_73 (by decide) rfl ?_
      refine V.iload_n dX4_goalOf_75 rfl ?_
      refine V.iconst (v := nI 3) dX4_goalOf_76 (by decide) ?_
      refine V.icmp_ne (tgt := 102) dX4_goalOf_77 (by decide) (fun _ => ?_) (fun q => absurd q (by decide))
      refine V.iload_n dX4_goalOf_102 rfl ?_
      refine V.iconst (v := nI 2) dX4_goalOf_103 (by decide) ?_
      refine V.icmp_eq (tgt := 112) dX4_goalOf_104 (by decide) (fun q => absurd q (by decide)) (fun _ => ?_)
      refine V.iload_n dX4_goalOf_107 rfl ?_
      refine V.iconst (v := nI 3) dX4_goalOf_108 (by decide) ?_
      refine V.icmp_ne (tgt := 120) dX4_goalOf_109 (by decide) (fun _ => ?_) (fun q => absurd q (by decide))
      refine V.iload_n dX4_goalOf_120 rfl ?_
      refine V.bipush (v := nI 6) dX4_goalOf_121 (by decide) ?_
      refine V.icmp_ne (tgt := 147) dX4_goalOf_123 (by decide) (fun _ => ?_) (fun q => absurd q (by decide))
      refine V.aload_n dX4_goalOf_147 rfl ?_
      refine V.getf dX4_goalOf_148 fl_X4_27 hw0 rfl ?_
      refine V.iconst (v := nI 1) dX4_goalOf_151 (by decide) ?_
      refine V.aload_n dX4_goalOf_152 rfl ?_
      refine V.getf dX4_goalOf_153 fl_X4_104 (hpp _ (by omega)) rfl ?_
      rw [hs]
      refine V.isubN dX4_goalOf_156 (by omega) ?_
      refine V.ialdN dX4_goalOf_157 hfl (by omega) (by decide) ?_
      rw [efl _ (by omega)]
      exact V.iretP (by exact dX4_goalOf_158) rfl (by (try simp only [← Int32.not_le, Classical.not_not] at ha ⊢); (try simp only [hs] at ha); simp only [goal, crp, post, has_car hF hp he hs, c12, hk, clampI (show e0 < 2147483648 by omega), hs, ← Int32.not_le, (show ¬ nI 4 = nI 1 by decide), (show ¬ nI 4 = nI 5 by decide), (show ¬ nI 4 = nI 7 by decide), (show ¬ nI 4 = nI 3 by decide), (show ¬ nI 4 = nI 2 by decide), (show ¬ nI 4 = nI 6 by decide), not_true_eq_false, not_false_eq_true, if_true, if_false, decide_true, decide_false, Bool.and_true, Bool.and_false, Bool.true_and, Bool.false_and, Bool.or_true, Bool.or_false, Bool.true_or, Bool.false_or, Bool.not_true, Bool.not_false, and_true, and_false, true_and, false_and, or_true, or_false, true_or, false_or, bIt, bIf, Bool.false_eq_true, reduceCtorEq]) rfl
    · refine V.iload_n dX4_goalOf_26 rfl ?_
      refine V.callSv [_] dX4_goalOf_27 lk_X4_162 rfl (Nat.le_of_ble_eq_true rfl) (Nat.le_of_ble_eq_true rfl) (s4_isGuard _ _ _ _ _) ?_
      refine V.if_eqB (tgt := 68) dX4_goalOf_30 (by decide) (fun q => absurd q (by decide)) (fun _ => ?_)
      refine V.aload_n dX4_goalOf_33 rfl ?_
      refine V.aload_n dX4_goalOf_34 rfl ?_
      refine V.iload_n dX4_goalOf_35 rfl ?_
      refine V.callVv [_, _] dX4_goalOf_36 lk_X4_165 rfl (Nat.le_of_ble_eq_true rfl) (Nat.le_of_ble_eq_true rfl) hw0 rfl (s4_quarryOf _ _ _ _ _ _ _ _ _ hw _ _ hPR hK hp hfr _) ?_
      rw [show pyL K m p (if nI 5 = nI 5 then gl (gP K p 0) else gP K p 3) m = prey K m p by rw [prey, hk]]
      refine V.ist4 dX4_goalOf_39 (by decide) rfl ?_
      refine V.iload dX4_goalOf_41 rfl ?_
      refine V.bipush (v := -4) dX4_goalOf_43 (by decide) ?_
      refine V.icmp_ne (tgt := 57) dX4_goalOf_45 (by decide) (fun c45 => ?_) (fun c45 => ?_)
      · obtain ⟨j, hj, ej, hfj⟩ := prey_fr c45
        have hcq : cAt K cl j = gP K j 4 := cAt_fr hfj
        rw [ej]
        refine V.aload_n dX4_goalOf_57 rfl ?_
        refine V.getf dX4_goalOf_58 fl_X4_20 hw0 rfl ?_
        refine V.iload dX4_goalOf_61 rfl ?_
        refine V.aaldN dX4_goalOf_63 (Or.inl rfl) hpf (by omega) (by decide) (epf _ (by omega)) ?_
        refine V.getf dX4_goalOf_64 fl_X4_139 (hpp _ (by omega)) rfl ?_
        (try rw [hcp])
        (try rw [hcq])
        exact V.iretP (by exact dX4_goalOf_67) rfl (by simp only [goal, has_car hF hp he hs, c12, hk, ej, hs, nI_pos' (show j < 2 ^ 31 by omega), clampI (show j < 2147483648 by omega), ← Int32.not_le, (show ¬ nI 5 = nI 1 by decide), (show ¬ nI 5 = nI 7 by decide), (show ¬ nI 5 = nI 3 by decide), (show ¬ nI 5 = nI 2 by decide), (show ¬ nI 5 = nI 6 by decide), not_true_eq_false, not_false_eq_true, if_true, if_false, decide_true, decide_false, Bool.and_true, Bool.and_false, Bool.true_and, Bool.false_and, Bool.or_true, Bool.or_false, Bool.true_or, Bool.false_or, Bool.not_true, Bool.not_false, and_true, and_false, true_and, false_and, or_true, or_false, true_or, false_or, bIt, bIf, Bool.false_eq_true, reduceCtorEq]) rfl
      · refine V.aload_n dX4_goalOf_48 rfl ?_
        refine V.aload_n dX4_goalOf_49 rfl ?_
        refine V.iload_n dX4_goalOf_50 rfl ?_
        refine V.callVv [_, _] dX4_goalOf_51 lk_X4_169 rfl (Nat.le_of_ble_eq_true rfl) (Nat.le_of_ble_eq_true rfl) hw0 rfl (s4_postOf _ _ _ _ _ _ _ _ _ hw _ _ (by omega)) ?_
        refine V.goto (tgt := 67) dX4_goalOf_54 (by decide) ?_
        exact V.iretP (by exact dX4_goalOf_67) rfl (by simp only [goal, post, has_car hF hp he hs, c12, hk, c45, hs, rpo, (show ¬ (0 : Int32) ≤ -4 by decide), ← Int32.not_le, Nat.reduceAdd, (show ¬ nI 5 = nI 1 by decide), (show ¬ nI 5 = nI 7 by decide), (show ¬ nI 5 = nI 3 by decide), (show ¬ nI 5 = nI 2 by decide), (show ¬ nI 5 = nI 6 by decide), not_true_eq_false, not_false_eq_true, if_true, if_false, decide_true, decide_false, Bool.and_true, Bool.and_false, Bool.true_and, Bool.false_and, Bool.or_true, Bool.or_false, Bool.true_or, Bool.false_or, Bool.not_true, Bool.not_false, and_true, and_false, true_and, false_and, or_true, or_false, true_or, false_or, bIt, bIf, Bool.false_eq_true, reduceCtorEq]) rfl
    · refine V.iload_n dX4_goalOf_26 rfl ?_
      refine V.callSv [_] dX4_goalOf_27 lk_X4_162 rfl (Nat.le_of_ble_eq_true rfl) (Nat.le_of_ble_eq_true rfl) (s4_isGuard _ _ _ _ _) ?_
      refine V.if_eqB (tgt := 68) dX4_goalOf_30 (by decide) (fun _ => ?_) (fun q => absurd q (by decide))
      refine V.aload_n dX4_goalOf_68 rfl ?_
      refine V.aload_n dX4_goalOf_69 rfl ?_
      refine V.callVv [_] dX4_goalOf_70 lk_X4_172 rfl (Nat.le_of_ble_eq_true rfl) (Nat.le_of_ble_eq_true rfl) hw0 rfl (s4_figureOf _ _ _ _ _ _ _ _ _ hw _ (by omega) _ hm hm10 hpn) ?_
      rw [rol_role hPR hK hp 1 (by omega)]
      refine V.ist4 dX4_goalOf_73 (by decide) rfl ?_
      refine V.iload_n dX4_goalOf_75 rfl ?_
      refine V.iconst (v := nI 3) dX4_goalOf_76 (by decide) ?_
      refine V.icmp_ne (tgt := 102) dX4_goalOf_77 (by decide) (fun _ => ?_) (fun q => absurd q (by decide))
      refine V.iload_n dX4_goalOf_102 rfl ?_
      refine V.iconst (v := nI 2) dX4_goalOf_103 (by decide) ?_
      refine V.icmp_eq (tgt := 112) dX4_goalOf_104 (by decide) (fun q => absurd q (by decide)) (fun _ => ?_)
      refine V.iload_n dX4_goalOf_107 rfl ?_
      refine V.iconst (v := nI 3) dX4_goalOf_108 (by decide) ?_
      refine V.icmp_ne (tgt := 120) dX4_goalOf_109 (by decide) (fun _ => ?_) (fun q => absurd q (by decide))
      refine V.iload_n dX4_goalOf_120 rfl ?_
      refine V.bipush (v := nI 6) dX4_goalOf_121 (by decide) ?_
      refine V.icmp_ne (tgt := 147) dX4_goalOf_123 (by decide) (fun q => absurd q (by decide)) (fun _ => ?_)
      refine V.aload_n dX4_goalOf_126 rfl ?_
      refine V.aload_n dX4_goalOf_127 rfl ?_
      refine V.getf dX4_goalOf_128 fl_X4_104 (hpp _ (by omega)) rfl ?_
      refine V.callVv [_] dX4_goalOf_131 lk_X4_149 rfl (Nat.le_of_ble_eq_true rfl) (Nat.le_of_ble_eq_true rfl) hw0 rfl (s4_heldOf _ _ _ _ _ _ _ _ _ hw _ _ hm hm10) ?_
      refine V.if_le (tgt := 147) dX4_goalOf_134 (by decide) (fun c134 => ?_) (fun c134 => ?_)
      · refine V.aload_n dX4_goalOf_147 rfl ?_
        refine V.getf dX4_goalOf_148 fl_X4_27 hw0 rfl ?_
        refine V.iconst (v := nI 1) dX4_goalOf_151 (by decide) ?_
        refine V.aload_n dX4_goalOf_152 rfl ?_
        refine V.getf dX4_goalOf_153 fl_X4_104 (hpp _ (by omega)) rfl ?_
        rw [hs]
        refine V.isubN dX4_goalOf_156 (by omega) ?_
        refine V.ialdN dX4_goalOf_157 hfl (by omega) (by decide) ?_
        rw [efl _ (by omega)]
        exact V.iretP (by exact dX4_goalOf_158) rfl (by (try simp only [← Int32.not_le, Classical.not_not] at c134 ⊢); (try simp only [hs] at c134); simp only [goal, crp, post, has_car hF hp he hs, c12, hk, clampI (show e0 < 2147483648 by omega), hs, c134, ← Int32.not_le, (show ¬ nI 6 = nI 1 by decide), (show ¬ nI 6 = nI 5 by decide), (show ¬ nI 6 = nI 7 by decide), (show ¬ nI 6 = nI 3 by decide), (show ¬ nI 6 = nI 2 by decide), not_true_eq_false, not_false_eq_true, if_true, if_false, decide_true, decide_false, Bool.and_true, Bool.and_false, Bool.true_and, Bool.false_and, Bool.or_true, Bool.or_false, Bool.true_or, Bool.false_or, Bool.not_true, Bool.not_false, and_true, and_false, true_and, false_and, or_true, or_false, true_or, false_or, bIt, bIf, Bool.false_eq_true, reduceCtorEq]) rfl
      · refine V.iconst (v := nI 1) dX4_goalOf_137 (by decide) ?_
        refine V.aload_n dX4_goalOf_138 rfl ?_
        refine V.getf dX4_goalOf_139 fl_X4_104 (hpp _ (by omega)) rfl ?_
        refine V.isub dX4_goalOf_142 ?_
        refine V.callSv [_] dX4_goalOf_143 lk_X4_98 rfl (Nat.le_of_ble_eq_true rfl) (Nat.le_of_ble_eq_true rfl) (s5_gaolOf _ _ _ _ _) ?_
        exact V.iretP (by exact dX4_goalOf_146) rfl (by (try simp only [← Int32.not_le, Classical.not_not] at c134 ⊢); (try simp only [hs] at c134); simp only [goal, crp, post, has_car hF hp he hs, c12, hk, clampI (show e0 < 2147483648 by omega), hs, c134, ← Int32.not_le, (show ¬ nI 6 = nI 1 by decide), (show ¬ nI 6 = nI 5 by decide), (show ¬ nI 6 = nI 7 by decide), (show ¬ nI 6 = nI 3 by decide), (show ¬ nI 6 = nI 2 by decide), not_true_eq_false, not_false_eq_true, if_true, if_false, decide_true, decide_false, Bool.and_true, Bool.and_false, Bool.true_and, Bool.false_and, Bool.or_true, Bool.or_false, Bool.true_or, Bool.false_or, Bool.not_true, Bool.not_false, and_true, and_false, true_and, false_and, or_true, or_false, true_or, false_or, bIt, bIf, Bool.false_eq_true, reduceCtorEq]) rfl
    · refine V.iload_n dX4_goalOf_26 rfl ?_
      refine V.callSv [_] dX4_goalOf_27 lk_X4_162 rfl (Nat.le_of_ble_eq_true rfl) (Nat.le_of_ble_eq_true rfl) (s4_isGuard _ _ _ _ _) ?_
      refine V.if_eqB (tgt := 68) dX4_goalOf_30 (by decide) (fun q => absurd q (by decide)) (fun _ => ?_)
      refine V.aload_n dX4_goalOf_33 rfl ?_
      refine V.aload_n dX4_goalOf_34 rfl ?_
      refine V.iload_n dX4_goalOf_35 rfl ?_
      refine V.callVv [_, _] dX4_goalOf_36 lk_X4_165 rfl (Nat.le_of_ble_eq_true rfl) (Nat.le_of_ble_eq_true rfl) hw0 rfl (s4_quarryOf _ _ _ _ _ _ _ _ _ hw _ _ hPR hK hp hfr _) ?_
      rw [show pyL K m p (if nI 7 = nI 5 then gl (gP K p 0) else gP K p 3) m = prey K m p by rw [prey, hk]]
      refine V.ist4 dX4_goalOf_39 (by decide) rfl ?_
      refine V.iload dX4_goalOf_41 rfl ?_
      refine V.bipush (v := -4) dX4_goalOf_43 (by decide) ?_
      refine V.icmp_ne (tgt := 57) dX4_goalOf_45 (by decide) (fun c45 => ?_) (fun c45 => ?_)
      · obtain ⟨j, hj, ej, hfj⟩ := prey_fr c45
        have hcq : cAt K cl j = gP K j 4 := cAt_fr hfj
        rw [ej]
        refine V.aload_n dX4_goalOf_57 rfl ?_
        refine V.getf dX4_goalOf_58 fl_X4_20 hw0 rfl ?_
        refine V.iload dX4_goalOf_61 rfl ?_
        refine V.aaldN dX4_goalOf_63 (Or.inl rfl) hpf (by omega) (by decide) (epf _ (by omega)) ?_
        refine V.getf dX4_goalOf_64 fl_X4_139 (hpp _ (by omega)) rfl ?_
        (try rw [hcp])
        (try rw [hcq])
        exact V.iretP (by exact dX4_goalOf_67) rfl (by simp only [goal, has_car hF hp he hs, c12, hk, ej, hs, nI_pos' (show j < 2 ^ 31 by omega), clampI (show j < 2147483648 by omega), ← Int32.not_le, (show ¬ nI 7 = nI 1 by decide), (show ¬ nI 7 = nI 5 by decide), (show ¬ nI 7 = nI 3 by decide), (show ¬ nI 7 = nI 2 by decide), (show ¬ nI 7 = nI 6 by decide), not_true_eq_false, not_false_eq_true, if_true, if_false, decide_true, decide_false, Bool.and_true, Bool.and_false, Bool.true_and, Bool.false_and, Bool.or_true, Bool.or_false, Bool.true_or, Bool.false_or, Bool.not_true, Bool.not_false, and_true, and_false, true_and, false_and, or_true, or_false, true_or, false_or, bIt, bIf, Bool.false_eq_true, reduceCtorEq]) rfl
      · refine V.aload_n dX4_goalOf_48 rfl ?_
        refine V.aload_n dX4_goalOf_49 rfl ?_
        refine V.iload_n dX4_goalOf_50 rfl ?_
        refine V.callVv [_, _] dX4_goalOf_51 lk_X4_169 rfl (Nat.le_of_ble_eq_true rfl) (Nat.le_of_ble_eq_true rfl) hw0 rfl (s4_postOf _ _ _ _ _ _ _ _ _ hw _ _ (by omega)) ?_
        refine V.goto (tgt := 67) dX4_goalOf_54 (by decide) ?_
        exact V.iretP (by exact dX4_goalOf_67) rfl (by simp only [goal, post, has_car hF hp he hs, c12, hk, c45, hs, rpo, (show ¬ (0 : Int32) ≤ -4 by decide), ← Int32.not_le, Nat.reduceAdd, (show ¬ nI 7 = nI 1 by decide), (show ¬ nI 7 = nI 5 by decide), (show ¬ nI 7 = nI 3 by decide), (show ¬ nI 7 = nI 2 by decide), (show ¬ nI 7 = nI 6 by decide), not_true_eq_false, not_false_eq_true, if_true, if_false, decide_true, decide_false, Bool.and_true, Bool.and_false, Bool.true_and, Bool.false_and, Bool.or_true, Bool.or_false, Bool.true_or, Bool.false_or, Bool.not_true, Bool.not_false, and_true, and_false, true_and, false_and, or_true, or_false, true_or, false_or, bIt, bIf, Bool.false_eq_true, reduceCtorEq]) rfl
  · refine V.aload_n dX4_goalOf_15 rfl ?_
    refine V.getf dX4_goalOf_16 fl_X4_101 (hpp _ (by omega)) rfl ?_
    exact V.iretP (by exact dX4_goalOf_19) rfl (by rw [goal, has_car hF hp he hs, c12, if_pos rfl]) rfl
