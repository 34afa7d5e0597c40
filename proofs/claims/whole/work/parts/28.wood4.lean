theorem pyL_fr (K : KK) (m p : Nat) (home : Int32) : ∀ q, pyL K m p home q = -4 ∨ ∃ j : Nat, j < q ∧ pyL K m p home q = nI j ∧ frB K j = true := by
  intro q
  induction q with
  | zero => exact Or.inl rfl
  | succ q ih =>
    rw [pyL]
    split
    · rename_i hc
      simp only [pyC, Bool.and_eq_true] at hc
      exact Or.inr ⟨q, by omega, rfl, hc.1.2.1⟩
    · rcases ih with h | ⟨j, h1, h2, h3⟩
      · exact Or.inl h
      · exact Or.inr ⟨j, by omega, h2, h3⟩
def nsM (K : KK) (m p : Nat) (home : Int32) (q : Nat) : Int32 := if pyL K m p home q < 0 then 2147483647 else nr (gP K p 4) (gP K (pyL K m p home q).toNatClampNeg 4)
def qyC (K : KK) (m p : Nat) (home : Int32) (q : Nat) : Bool := !decide (gP K q 0 = gP K p 0) && (frB K q && (decide (hfc (gP K q 4) = gP K p 0) && (decide (nr (gP K p 4) (gP K q 4) < nsM K m p home q) && (seB K p (gP K q 4) && decide (nr home (gP K q 4) ≤ role K m p 1 + nI 1)))))
theorem qy_c {K : KK} {m p : Nat} {home : Int32} (hK : KR K m) (hc : cellv (gP K p 4)) (hh : cellv home) {q : Nat} (hq : q < m) : (pyC K m p home q && (decide (pyL K m p home q < 0) || decide (nr (gP K q 4) (gP K p 4) < nr (gP K (pyL K m p home q).toNatClampNeg 4) (gP K p 4)))) = qyC K m p home q := by
  rw [pyC, qyC]
  cases hf : frB K q with
  | false => simp
  | true =>
    have hq4 := hK.2.2.2.2.1 q hq (frB_z hf)
    rw [nr_comm hq4 hh, nr_comm hq4 hc, nsM]
    rcases pyL_fr K m p home q with h | ⟨j, h1, h2, h3⟩
    · have h0 : (-4 : Int32) < 0 := by decide
      rw [h, if_pos h0, decide_eq_true h0, decide_eq_true (nr_small hc hq4)]
      simp
    · have h0 : ¬ nI j < 0 := nI_pos (by have := hK.2.1; omega)
      have hj4 := hK.2.2.2.2.1 j (by omega) (frB_z h3)
      rw [h2, if_neg h0, decide_eq_false h0, clampI (by have := hK.2.1; omega), nr_comm hj4 hc, Bool.false_or]
      generalize decide (nr (gP K p 4) (gP K q 4) < nr (gP K p 4) (gP K j 4)) = x
      generalize seB K p (gP K q 4) = y
      generalize decide (nr home (gP K q 4) ≤ role K m p 1 + nI 1) = u
      generalize decide (hfc (gP K q 4) = gP K p 0) = v
      generalize decide (gP K q 0 = gP K p 0) = t
      cases x <;> cases y <;> cases u <;> cases v <;> cases t <;> rfl
theorem qy_1 {K : KK} {m p : Nat} {home : Int32} (hK : KR K m) (hc : cellv (gP K p 4)) (hh : cellv home) {q : Nat} (hq : q < m) : pyL K m p home (q + 1) = if qyC K m p home q = true then nI q else pyL K m p home q := by rw [pyL, qy_c hK hc hh hq]
theorem qy_2 {K : KK} {m p : Nat} {home : Int32} (hK : KR K m) (hc : cellv (gP K p 4)) (hh : cellv home) {q : Nat} (hq : q < m) : nsM K m p home (q + 1) = if qyC K m p home q = true then nr (gP K p 4) (gP K q 4) else nsM K m p home q := by
  have hm10 := hK.2.1
  rw [nsM, qy_1 hK hc hh hq]
  by_cases e : qyC K m p home q = true
  · rw [if_pos e, if_pos e, if_neg (nI_pos (by omega)), clampI (by omega)]
  · rw [if_neg e, if_neg e]; rfl
set_option maxRecDepth 20000 in
set_option maxHeartbeats 4000000 in
theorem s4_quarryOf_loop (l : Launch) (d : Nat) (h : MH) (n w : Nat) (K : KK) (cl P : Nat → Int32) (pn : Nat) (hw : WoodAt h w K cl P pn) (p m : Nat) (hPR : PR K P pn) (hK : KR K m) (hp : p < m) (hfr : gP K p 5 = nI 0) (k home : Int32) (hh : cellv home) : ∀ (r q : Nat), q + r = m → V l mX4_quarryOf (d + 3) 40 [some (.ref w), some (.ref (w + 8 + p)), some (.int k), some (.int home), some (.int (role K m p 1 + nI 1)), some (.int (pyL K m p home q)), some (.int (nsM K m p home q)), some (.int (nI q)), none, none] [] h n 0 0 (Pv (pyL K m p home m) h n) := by
  have hm := hK.1
  have hm10 := hK.2.1
  have hpn := hPR.1
  have hcv : cellv (gP K p 4) := hK.2.2.2.2.1 p hp hfr
  have hcp : cAt K cl p = gP K p 4 := if_neg (by rw [hfr]; decide)
  obtain ⟨hw0, ⟨gr, hgr, egr⟩, ⟨ru, hru, eru⟩, ⟨pq, hpf, epf⟩, hpl, ⟨fl, hfl, efl⟩, ⟨ca, hca, eca⟩, ⟨wa, hwa⟩, hpp, hhd⟩ := id hw
  intro r
  induction r with
  | zero =>
    intro q hq
    refine V.iload dX4_quarryOf_40 rfl ?_
    refine V.aload_n dX4_quarryOf_42 rfl ?_
    refine V.getf dX4_quarryOf_43 fl_X4_51 hw0 rfl ?_
    rw [hm]
    refine V.icmp_geN (tgt := 158) dX4_quarryOf_46 (by decide) (by omega) (by omega) (fun _ => ?_) (fun q => absurd q (by omega))
    refine V.iload dX4_quarryOf_158 rfl ?_
    exact V.iretP (by exact dX4_quarryOf_160) rfl (by rw [show m = q by omega]) rfl
  | succ r ih =>
    intro q hq
    have y1 := qy_1 hK hcv hh (show q < m by omega)
    have y2 := qy_2 hK hcv hh (show q < m by omega)
    refine V.iload dX4_quarryOf_40 rfl ?_
    refine V.aload_n dX4_quarryOf_42 rfl ?_
    refine V.getf dX4_quarryOf_43 fl_X4_51 hw0 rfl ?_
    rw [hm]
    refine V.icmp_geN (tgt := 158) dX4_quarryOf_46 (by decide) (by omega) (by omega) (fun q => absurd q (by omega)) (fun _ => ?_)
    refine V.aload_n dX4_quarryOf_49 rfl ?_
    refine V.getf dX4_quarryOf_50 fl_X4_20 hw0 rfl ?_
    refine V.iload dX4_quarryOf_53 rfl ?_
    refine V.aaldN dX4_quarryOf_55 (Or.inl rfl) hpf (by omega) (by decide) (epf _ (by omega)) ?_
    refine V.ast8 dX4_quarryOf_56 (by decide) rfl ?_
    refine V.aload dX4_quarryOf_58 rfl ?_
    refine V.getf dX4_quarryOf_60 fl_X4_104 (hpp _ (by omega)) rfl ?_
    refine V.aload_n dX4_quarryOf_63 rfl ?_
    refine V.getf dX4_quarryOf_64 fl_X4_104 (hpp _ (by omega)) rfl ?_
    refine V.icmp_eq (tgt := 152) dX4_quarryOf_67 (by decide) (fun c67 => ?_) (fun c67 => ?_)
    · refine V.inN7 dX4_quarryOf_152 (by decide) rfl ?_
      refine V.goto (tgt := 40) dX4_quarryOf_155 (by decide) ?_
      exact V.drop 8 (V.drop 9 (V.ls (by (try simp only [← Int32.not_le, Classical.not_not] at c67 ⊢); simp only [y1, y2, qyC, ← Int32.not_le, eq_true c67, not_true_eq_false, not_false_eq_true, if_true, if_false, decide_true, decide_false, Bool.and_true, Bool.and_false, Bool.true_and, Bool.false_and, Bool.or_true, Bool.or_false, Bool.true_or, Bool.false_or, Bool.not_true, Bool.not_false, and_true, and_false, true_and, false_and, or_true, or_false, true_or, false_or, bIt, bIf, Bool.false_eq_true, reduceCtorEq] <;> rfl) (ih (q + 1) (by omega))))
    · refine V.aload dX4_quarryOf_70 rfl ?_
      refine V.callVv [] dX4_quarryOf_72 lk_X4_135 rfl (Nat.le_of_ble_eq_true rfl) (Nat.le_of_ble_eq_true rfl) (hpp _ (by omega)) rfl (s0_isFree _ _ _ _ _ _ _ _ _ hw _ (by omega)) ?_
      refine V.if_eqB (tgt := 152) dX4_quarryOf_75 (by decide) (fun c75 => ?_) (fun c75 => ?_)
      · refine V.inN7 dX4_quarryOf_152 (by decide) rfl ?_
        refine V.goto (tgt := 40) dX4_quarryOf_155 (by decide) ?_
        exact V.drop 8 (V.drop 9 (V.ls (by (try simp only [← Int32.not_le, Classical.not_not] at c67 c75 ⊢); simp only [y1, y2, qyC, ← Int32.not_le, c67, c75, not_true_eq_false, not_false_eq_true, if_true, if_false, decide_true, decide_false, Bool.and_true, Bool.and_false, Bool.true_and, Bool.false_and, Bool.or_true, Bool.or_false, Bool.true_or, Bool.false_or, Bool.not_true, Bool.not_false, and_true, and_false, true_and, false_and, or_true, or_false, true_or, false_or, bIt, bIf, Bool.false_eq_true, reduceCtorEq] <;> rfl) (ih (q + 1) (by omega))))
      · have hcq : cAt K cl q = gP K q 4 := cAt_fr c75
        refine V.aload dX4_quarryOf_78 rfl ?_
        refine V.getf dX4_quarryOf_80 fl_X4_139 (hpp _ (by omega)) rfl ?_
        (try rw [hcp])
        (try rw [hcq])
        refine V.callSv [_] dX4_quarryOf_83 lk_X4_116 rfl (Nat.le_of_ble_eq_true rfl) (Nat.le_of_ble_eq_true rfl) (s5_sideOf _ _ _ (hK.2.2.2.2.1 _ (by omega) (frB_z c75)) _ _) ?_
        refine V.aload_n dX4_quarryOf_86 rfl ?_
        refine V.getf dX4_quarryOf_87 fl_X4_104 (hpp _ (by omega)) rfl ?_
        refine V.icmp_eq (tgt := 96) dX4_quarryOf_90 (by decide) (fun c90 => ?_) (fun c90 => ?_)
        · refine V.aload_n dX4_quarryOf_96 rfl ?_
          refine V.getf dX4_quarryOf_97 fl_X4_139 (hpp _ (by omega)) rfl ?_
          (try rw [hcp])
          (try rw [hcq])
          refine V.aload dX4_quarryOf_100 rfl ?_
          refine V.getf dX4_quarryOf_102 fl_X4_139 (hpp _ (by omega)) rfl ?_
          (try rw [hcp])
          (try rw [hcq])
          refine V.callSv [_, _] dX4_quarryOf_105 lk_X4_142 rfl (Nat.le_of_ble_eq_true rfl) (Nat.le_of_ble_eq_true rfl) (s5_between _ _ _ _ _ _) ?_
          refine V.ist9 dX4_quarryOf_108 (by decide) rfl ?_
          refine V.iload dX4_quarryOf_110 rfl ?_
          refine V.iload dX4_quarryOf_112 rfl ?_
          refine V.icmp_ge (tgt := 152) dX4_quarryOf_114 (by decide) (fun c114 => ?_) (fun c114 => ?_)
          · refine V.inN7 dX4_quarryOf_152 (by decide) rfl ?_
            refine V.goto (tgt := 40) dX4_quarryOf_155 (by decide) ?_
            exact V.drop 8 (V.drop 9 (V.ls (by (try simp only [← Int32.not_le, Classical.not_not] at c67 c75 c90 c114 ⊢); simp only [y1, y2, qyC, ← Int32.not_le, c67, c75, eq_true c90, c114, not_true_eq_false, not_false_eq_true, if_true, if_false, decide_true, decide_false, Bool.and_true, Bool.and_false, Bool.true_and, Bool.false_and, Bool.or_true, Bool.or_false, Bool.true_or, Bool.false_or, Bool.not_true, Bool.not_false, and_true, and_false, true_and, false_and, or_true, or_false, true_or, false_or, bIt, bIf, Bool.false_eq_true, reduceCtorEq] <;> rfl) (ih (q + 1) (by omega))))
          · refine V.aload_n dX4_quarryOf_117 rfl ?_
            refine V.aload_n dX4_quarryOf_118 rfl ?_
            refine V.aload dX4_quarryOf_119 rfl ?_
            refine V.getf dX4_quarryOf_121 fl_X4_139 (hpp _ (by omega)) rfl ?_
            (try rw [hcp])
            (try rw [hcq])
            refine V.callVv [_, _] dX4_quarryOf_124 lk_X4_145 rfl (Nat.le_of_ble_eq_true rfl) (Nat.le_of_ble_eq_true rfl) hw0 rfl (s4_spotsI _ _ _ _ _ _ _ _ _ hw _ _ (by omega) (hK.2.2.2.2.1 _ (by omega) (frB_z c75)) hcp) ?_
            refine V.if_eqB (tgt := 152) dX4_quarryOf_127 (by decide) (fun c127 => ?_) (fun c127 => ?_)
            · refine V.inN7 dX4_quarryOf_152 (by decide) rfl ?_
              refine V.goto (tgt := 40) dX4_quarryOf_155 (by decide) ?_
              exact V.drop 8 (V.drop 9 (V.ls (by (try simp only [← Int32.not_le, Classical.not_not] at c67 c75 c90 c114 c127 ⊢); simp only [y1, y2, qyC, ← Int32.not_le, c67, c75, eq_true c90, c114, c127, not_true_eq_false, not_false_eq_true, if_true, if_false, decide_true, decide_false, Bool.and_true, Bool.and_false, Bool.true_and, Bool.false_and, Bool.or_true, Bool.or_false, Bool.true_or, Bool.false_or, Bool.not_true, Bool.not_false, and_true, and_false, true_and, false_and, or_true, or_false, true_or, false_or, bIt, bIf, Bool.false_eq_true, reduceCtorEq] <;> rfl) (ih (q + 1) (by omega))))
            · refine V.iload_n dX4_quarryOf_130 rfl ?_
              refine V.aload dX4_quarryOf_131 rfl ?_
              refine V.getf dX4_quarryOf_133 fl_X4_139 (hpp _ (by omega)) rfl ?_
              (try rw [hcp])
              (try rw [hcq])
              refine V.callSv [_, _] dX4_quarryOf_136 lk_X4_142 rfl (Nat.le_of_ble_eq_true rfl) (Nat.le_of_ble_eq_true rfl) (s5_between _ _ _ _ _ _) ?_
              refine V.iload dX4_quarryOf_139 rfl ?_
              refine V.icmp_gt (tgt := 152) dX4_quarryOf_141 (by decide) (fun c141 => ?_) (fun c141 => ?_)
              · refine V.inN7 dX4_quarryOf_152 (by decide) rfl ?_
                refine V.goto (tgt := 40) dX4_quarryOf_155 (by decide) ?_
                exact V.drop 8 (V.drop 9 (V.ls (by (try simp only [← Int32.not_le, Classical.not_not] at c67 c75 c90 c114 c127 c141 ⊢); simp only [y1, y2, qyC, ← Int32.not_le, c67, c75, eq_true c90, c114, c127, c141, not_true_eq_false, not_false_eq_true, if_true, if_false, decide_true, decide_false, Bool.and_true, Bool.and_false, Bool.true_and, Bool.false_and, Bool.or_true, Bool.or_false, Bool.true_or, Bool.false_or, Bool.not_true, Bool.not_false, and_true, and_false, true_and, false_and, or_true, or_false, true_or, false_or, bIt, bIf, Bool.false_eq_true, reduceCtorEq] <;> rfl) (ih (q + 1) (by omega))))
              · refine V.iload dX4_quarryOf_144 rfl ?_
                refine V.ist6 dX4_quarryOf_146 (by decide) rfl ?_
                refine V.iload dX4_quarryOf_148 rfl ?_
                refine V.ist5 dX4_quarryOf_150 (by decide) rfl ?_
                refine V.inN7 dX4_quarryOf_152 (by decide) rfl ?_
                refine V.goto (tgt := 40) dX4_quarryOf_155 (by decide) ?_
                exact V.drop 8 (V.drop 9 (V.ls (by (try simp only [← Int32.not_le, Classical.not_not] at c67 c75 c90 c114 c127 c141 ⊢); simp only [y1, y2, qyC, ← Int32.not_le, c67, c75, eq_true c90, c114, c127, c141, not_true_eq_false, not_false_eq_true, if_true, if_false, decide_true, decide_false, Bool.and_true, Bool.and_false, Bool.true_and, Bool.false_and, Bool.or_true, Bool.or_false, Bool.true_or, Bool.false_or, Bool.not_true, Bool.not_false, and_true, and_false, true_and, false_and, or_true, or_false, true_or, false_or, bIt, bIf, Bool.false_eq_true, reduceCtorEq] <;> rfl) (ih (q + 1) (by omega))))
        · refine V.goto (tgt := 152) dX4_quarryOf_93 (by decide) ?_
          refine V.inN7 dX4_quarryOf_152 (by decide) rfl ?_
          refine V.goto (tgt := 40) dX4_quarryOf_155 (by decide) ?_
          exact V.drop 8 (V.drop 9 (V.ls (by (try simp only [← Int32.not_le, Classical.not_not] at c67 c75 c90 ⊢); simp only [y1, y2, qyC, ← Int32.not_le, c67, c75, c90, not_true_eq_false, not_false_eq_true, if_true, if_false, decide_true, decide_false, Bool.and_true, Bool.and_false, Bool.true_and, Bool.false_and, Bool.or_true, Bool.or_false, Bool.true_or, Bool.false_or, Bool.not_true, Bool.not_false, and_true, and_false, true_and, false_and, or_true, or_false, true_or, false_or, bIt, bIf, Bool.false_eq_true, reduceCtorEq] <;> rfl) (ih (q + 1) (by omega))))
set_option maxRecDepth 20000 in
set_option maxHeartbeats 4000000 in
theorem s4_quarryOf (l : Launch) (d : Nat) (h : MH) (n w : Nat) (K : KK) (cl P : Nat → Int32) (pn : Nat) (hw : WoodAt h w K cl P pn) (p m : Nat) (hPR : PR K P pn) (hK : KR K m) (hp : p < m) (hfr : gP K p 5 = nI 0) (k : Int32) : Sp l mX4_quarryOf (d + 3) [.ref w, .ref (w + 8 + p), .int k] h n 0 0 (Pv (pyL K m p (if k = nI 5 then gl (gP K p 0) else gP K p 3) m) h n) := by
  have hm := hK.1
  have hm10 := hK.2.1
  have hpn := hPR.1
  have hcv : cellv (gP K p 4) := hK.2.2.2.2.1 p hp hfr
  have hcp : cAt K cl p = gP K p 4 := if_neg (by rw [hfr]; decide)
  obtain ⟨hw0, ⟨gr, hgr, egr⟩, ⟨ru, hru, eru⟩, ⟨pq, hpf, epf⟩, hpl, ⟨fl, hfl, efl⟩, ⟨ca, hca, eca⟩, ⟨wa, hwa⟩, hpp, hhd⟩ := id hw
  show V _ _ _ _ [some (.ref w), some (.ref (w + 8 + p)), some (.int k), none, none, none, none, none, none, none] _ _ _ _ _ _
  refine V.iload_n dX4_quarryOf_0 rfl ?_
  refine V.iconst (v := nI 5) dX4_quarryOf_1 (by decide) ?_
  refine V.icmp_ne (tgt := 15) dX4_quarryOf_2 (by decide) (fun c2 => ?_) (fun c2 => ?_)
  · refine V.aload_n dX4_quarryOf_15 rfl ?_
    refine V.getf dX4_quarryOf_16 fl_X4_101 (hpp _ (by omega)) rfl ?_
    refine V.ist3 dX4_quarryOf_19 (by decide) rfl ?_
    refine V.aload_n dX4_quarryOf_20 rfl ?_
    refine V.aload_n dX4_quarryOf_21 rfl ?_
    refine V.callVv [_] dX4_quarryOf_22 lk_X4_172 rfl (Nat.le_of_ble_eq_true rfl) (Nat.le_of_ble_eq_true rfl) hw0 rfl (s4_figureOf _ _ _ _ _ _ _ _ _ hw _ (by omega) _ hm hm10 hpn) ?_
    rw [rol_role hPR hK hp 1 (by omega)]
    refine V.iconst (v := nI 1) dX4_quarryOf_25 (by decide) ?_
    refine V.iadd dX4_quarryOf_26 ?_
    refine V.ist4 dX4_quarryOf_27 (by decide) rfl ?_
    refine V.bipush (v := -4) dX4_quarryOf_29 (by decide) ?_
    refine V.ist5 dX4_quarryOf_31 (by decide) rfl ?_
    refine V.ldc dX4_quarryOf_33 cn_X4_186 ?_
    refine V.ist6 dX4_quarryOf_35 (by decide) rfl ?_
    refine V.iconst (v := nI 0) dX4_quarryOf_37 (by decide) ?_
    refine V.ist7 dX4_quarryOf_38 (by decide) rfl ?_
    exact V.qv2 (s4_quarryOf_loop l d h n w K cl P pn hw p m hPR hK hp hfr k _ (by first | exact gl_cell _ | exact hK.2.2.2.2.2.2.2 p hp) m 0 (by omega)) (by simp only [not_true_eq_false, c2, not_true_eq_false, not_false_eq_true, if_true, if_false, decide_true, decide_false, Bool.and_true, Bool.and_false, Bool.true_and, Bool.false_and, Bool.or_true, Bool.or_false, Bool.true_or, Bool.false_or, Bool.not_true, Bool.not_false, and_true, and_false, true_and, false_and, or_true, or_false, true_or, false_or, bIt, bIf, Bool.false_eq_true, reduceCtorEq])
  · refine V.aload_n dX4_quarryOf_5 rfl ?_
    refine V.getf dX4_quarryOf_6 fl_X4_104 (hpp _ (by omega)) rfl ?_
    refine V.callSv [_] dX4_quarryOf_9 lk_X4_98 rfl (Nat.le_of_ble_eq_true rfl) (Nat.le_of_ble_eq_true rfl) (s5_gaolOf _ _ _ _ _) ?_
    refine V.goto (tgt := 19) dX4_quarryOf_12 (by decide) ?_
    refine V.ist3 dX4_quarryOf_19 (by decide) rfl ?_
    refine V.aload_n dX4_quarryOf_20 rfl ?_
    refine V.aload_n dX4_quarryOf_21 rfl ?_
    refine V.callVv [_] dX4_quarryOf_22 lk_X4_172 rfl (Nat.le_of_ble_eq_true rfl) (Nat.le_of_ble_eq_true rfl) hw0 rfl (s4_figureOf _ _ _ _ _ _ _ _ _ hw _ (by omega) _ hm hm10 hpn) ?_
    rw [rol_role hPR hK hp 1 (by omega)]
    refine V.iconst (v := nI 1) dX4_quarryOf_25 (by decide) ?_
    refine V.iadd dX4_quarryOf_26 ?_
    refine V.ist4 dX4_quarryOf_27 (by decide) rfl ?_
    refine V.bipush (v := -4) dX4_quarryOf_29 (by decide) ?_
    refine V.ist5 dX4_quarryOf_31 (by decide) rfl ?_
    refine V.ldc dX4_quarryOf_33 cn_X4_186 ?_
    refine V.ist6 dX4_quarryOf_35 (by decide) rfl ?_
    refine V.iconst (v := nI 0) dX4_quarryOf_37 (by decide) ?_
    refine V.ist7 dX4_quarryOf_38 (by decide) rfl ?_
    exact V.qv2 (s4_quarryOf_loop l d h n w K cl P pn hw p m hPR hK hp hfr k _ (by first | exact gl_cell _ | exact hK.2.2.2.2.2.2.2 p hp) m 0 (by omega)) (by simp only [not_true_eq_false, eq_true c2, not_true_eq_false, not_false_eq_true, if_true, if_false, decide_true, decide_false, Bool.and_true, Bool.and_false, Bool.true_and, Bool.false_and, Bool.or_true, Bool.or_false, Bool.true_or, Bool.false_or, Bool.not_true, Bool.not_false, and_true, and_false, true_and, false_and, or_true, or_false, true_or, false_or, bIt, bIf, Bool.false_eq_true, reduceCtorEq])
/-- the flags lie on cells; nobody has its own side's -/
def KF (K : KK) (m : Nat) : Prop := (∀ e, e < 2 → cellv (K (96 + 2 * e))) ∧ ∀ p e, p < m → e < 2 → gP K p 0 = nI e → ¬ K (97 + 2 * e) = nI p
def crp (K : KK) (m p e : Nat) (ff : Int32) : Int32 := if mind K m p (nxt K p (K (96 + 2 * (1 - e)))) (ff / nI 2) = true then gP K p 4 else K (96 + 2 * (1 - e))
set_option maxRecDepth 20000 in
set_option maxHeartbeats 4000000 in
theorem s4_creep (l : Launch) (d : Nat) (h : MH) (n w : Nat) (K : KK) (cl P : Nat → Int32) (pn : Nat) (hw : WoodAt h w K cl P pn) (p m : Nat) (hPR : PR K P pn) (hK : KR K m) (hp : p < m) (hfr : gP K p 5 = nI 0) (hF : KF K m) (e : Nat) (he : e < 2) (hs : gP K p 0 = nI e) (ff : Int32) : Sp l mX4_creep (d + 3) [.ref w, .ref (w + 8 + p), .int ff] h n 0 0 (Pv (crp K m p e ff) h n) := by
  have hm := hK.1
  have hm10 := hK.2.1
  have hpn := hPR.1
  have hcv : cellv (gP K p 4) := hK.2.2.2.2.1 p hp hfr
  have hcp : cAt K cl p = gP K p 4 := if_neg (by rw [hfr]; decide)
  obtain ⟨hw0, ⟨gr, hgr, egr⟩, ⟨ru, hru, eru⟩, ⟨pq, hpf, epf⟩, hpl, ⟨fl, hfl, efl⟩, ⟨ca, hca, eca⟩, ⟨wa, hwa⟩, hpp, hhd⟩ := id hw
  show V _ _ _ _ [some (.ref w), some (.ref (w + 8 + p)), some (.int ff), none] _ _ _ _ _ _
  refine V.aload_n dX4_creep_0 rfl ?_
  refine V.getf dX4_creep_1 fl_X4_27 hw0 rfl ?_
  refine V.iconst (v := nI 1) dX4_creep_4 (by decide) ?_
  refine V.aload_n dX4_creep_5 rfl ?_
  refine V.getf dX4_creep_6 fl_X4_104 (hpp _ (by omega)) rfl ?_
  rw [hs]
  refine V.isubN dX4_creep_9 (by omega) ?_
  refine V.ialdN dX4_creep_10 hfl (by omega) (by decide) ?_
  rw [efl _ (by omega)]
  refine V.ist3 dX4_creep_11 (by decide) rfl ?_
  refine V.aload_n dX4_creep_12 rfl ?_
  refine V.aload_n dX4_creep_13 rfl ?_
  refine V.getf dX4_creep_14 fl_X4_104 (hpp _ (by omega)) rfl ?_
  refine V.aload_n dX4_creep_17 rfl ?_
  refine V.aload_n dX4_creep_18 rfl ?_
  refine V.iload_n dX4_creep_19 rfl ?_
  refine V.callVv [_, _] dX4_creep_20 lk_X4_187 rfl (Nat.le_of_ble_eq_true rfl) (Nat.le_of_ble_eq_true rfl) hw0 rfl (s4_step _ _ _ _ _ _ _ _ _ hw _ (by omega) hcp _ hcv (hF.1 _ (by omega))) ?_
  refine V.iload_n dX4_creep_23 rfl ?_
  refine V.iconst (v := nI 2) dX4_creep_24 (by decide) ?_
  refine V.idiv dX4_creep_25 (by decide) ?_
  refine V.callVv [_, _, _] dX4_creep_26 lk_X4_175 rfl (Nat.le_of_ble_eq_true rfl) (Nat.le_of_ble_eq_true rfl) hw0 rfl (s4_isFaced _ _ _ _ _ _ _ _ _ hw _ _ _ _ hK hp) ?_
  refine V.if_eqB (tgt := 39) dX4_creep_29 (by decide) (fun c29 => ?_) (fun c29 => ?_)
  · refine V.iload_n dX4_creep_39 rfl ?_
    exact V.iretP (by exact dX4_creep_40) rfl (by simp only [crp, c29, not_true_eq_false, not_false_eq_true, if_true, if_false, decide_true, decide_false, Bool.and_true, Bool.and_false, Bool.true_and, Bool.false_and, Bool.or_true, Bool.or_false, Bool.true_or, Bool.false_or, Bool.not_true, Bool.not_false, and_true, and_false, true_and, false_and, or_true, or_false, true_or, false_or, bIt, bIf, Bool.false_eq_true, reduceCtorEq]) rfl
  · refine V.aload_n dX4_creep_32 rfl ?_
    refine V.getf dX4_creep_33 fl_X4_139 (hpp _ (by omega)) rfl ?_
    (try rw [hcp])
    (try rw [hcq])
    refine V.goto (tgt := 40) dX4_creep_36 (by decide) ?_
    exact V.iretP (by exact dX4_creep_40) rfl (by simp only [crp, c29, not_true_eq_false, not_false_eq_true, if_true, if_false, decide_true, decide_false, Bool.and_true, Bool.and_false, Bool.true_and, Bool.false_and, Bool.or_true, Bool.or_false, Bool.true_or, Bool.false_or, Bool.not_true, Bool.not_false, and_true, and_false, true_and, false_and, or_true, or_false, true_or, false_or, bIt, bIf, Bool.false_eq_true, reduceCtorEq]) rfl
