theorem V.qv2 {l : Launch} {M : MT} {d pc : Nat} {ls : List (Option Value)} {st : List Value} {h h2 : MH} {n c z k : Nat} {v v2 : Int32} (q : V l M d pc ls st h n c z (Pv v h2 k)) (e : v = v2) : V l M d pc ls st h n c z (Pv v2 h2 k) := e ▸ q
theorem rm_nI {c : Nat} (h : c < 2147483648) : rm (nI c) = nI (c % 12) := pk_rem h (by decide) (by decide)
theorem hfc_nI {c : Nat} (h : c < 84) : hfc (nI c) = nI (c % 12 / 6) := by
  rw [hfc, rm_nI (by omega), pk_div (by omega) (by decide) (by decide)]
theorem hfc_01 {c : Int32} (h : cellv c) : hfc c = nI 0 ∨ hfc c = nI 1 := by
  obtain ⟨j, hj, rfl⟩ := h
  rw [hfc_nI hj]
  rcases (show j % 12 / 6 = 0 ∨ j % 12 / 6 = 1 by omega) with e | e <;> rw [e]
  · exact Or.inl rfl
  · exact Or.inr rfl
theorem cmpl {a b c : Int32} (ha : a = nI 0 ∨ a = nI 1) (hb : b = nI 0 ∨ b = nI 1) (hc : c = nI 0 ∨ c = nI 1) (h : ¬ b = c) : a = b ↔ ¬ a = c := by
  rcases ha with rfl | rfl <;> rcases hb with rfl | rfl <;> rcases hc with rfl | rfl <;> first | (exact absurd rfl h) | decide
set_option maxRecDepth 20000 in
set_option maxHeartbeats 4000000 in
theorem s5_sideOf0 (l : Launch) (d : Nat) (c : Nat) (hc : c < 84) (h : MH) (n : Nat) : Sp l mX5_sideOf d [.int (nI c)] h n 0 0 (Pv (hfc (nI c)) h n) := by
  show V _ _ _ _ [some (.int (nI c))] _ _ _ _ _ _
  refine V.iload_n dX5_sideOf_0 rfl ?_
  refine V.bipush (v := nI 12) dX5_sideOf_1 (by decide) ?_
  refine V.iremN dX5_sideOf_3 (by omega) (by omega) (by omega) ?_
  refine V.bipush (v := nI 6) dX5_sideOf_4 (by decide) ?_
  refine V.icmp_geN (tgt := 13) dX5_sideOf_6 (by decide) (by omega) (by omega) (fun c6 => ?_) (fun c6 => ?_)
  · refine V.iconst (v := nI 1) dX5_sideOf_13 (by decide) ?_
    exact V.iretP (by exact dX5_sideOf_14) rfl (by rw [hfc_nI hc]; congr 1; omega) rfl
  · refine V.iconst (v := nI 0) dX5_sideOf_9 (by decide) ?_
    refine V.goto (tgt := 14) dX5_sideOf_10 (by decide) ?_
    exact V.iretP (by exact dX5_sideOf_14) rfl (by rw [hfc_nI hc]; congr 1; omega) rfl
theorem s5_sideOf (l : Launch) (d : Nat) (c : Int32) (hc : cellv c) (h : MH) (n : Nat) : Sp l mX5_sideOf d [.int c] h n 0 0 (Pv (hfc c) h n) := by
  obtain ⟨j, hj, rfl⟩ := hc
  exact s5_sideOf0 l d j hj h n
theorem s4_spotsI (l : Launch) (d : Nat) (h : MH) (n w : Nat) (K : KK) (cl P : Nat → Int32) (pn : Nat) (hw : WoodAt h w K cl P pn) (p : Nat) (c : Int32) (hp : p < 10) (hc : cellv c) (hcp : cAt K cl p = gP K p 4) : Sp l mX4_spots (d + 1) [.ref w, .ref (w + 8 + p), .int c] h n 0 0 (Pv (bI (seB K p c)) h n) := by
  obtain ⟨j, hj, rfl⟩ := hc
  exact s4_spots l d h n w K cl P pn hw p j hp hj hcp
theorem s4_groundOfI (l : Launch) (d : Nat) (h : MH) (n w : Nat) (K : KK) (cl P : Nat → Int32) (pn : Nat) (hw : WoodAt h w K cl P pn) (c : Int32) (hc : cellv c) : Sp l mX4_groundOf d [.ref w, .int c] h n 0 0 (Pv (K c.toNatClampNeg) h n) := by
  obtain ⟨j, hj, rfl⟩ := hc
  rw [clampI (by omega)]
  exact s4_groundOf l d h n w K cl P pn hw j hj
/-- may one enter the cell -/
def meB (K : KK) (p : Nat) (c : Int32) : Bool := !decide (K c.toNatClampNeg = nI 3) && (!ring K (gP K p 0) c || ring K (gP K p 0) (gP K p 4))
theorem s4_mayEnterI (l : Launch) (d : Nat) (h : MH) (n w : Nat) (K : KK) (cl P : Nat → Int32) (pn : Nat) (hw : WoodAt h w K cl P pn) (p : Nat) (c : Int32) (hp : p < 10) (hc : cellv c) (hcp : cAt K cl p = gP K p 4) : Sp l mX4_mayEnter (d + 1) [.ref w, .ref (w + 8 + p), .int c] h n 0 0 (Pv (bI (meB K p c)) h n) := by
  obtain ⟨j, hj, rfl⟩ := hc
  rw [meB, clampI (by omega)]
  exact s4_mayEnter l d h n w K cl P pn hw p j hp hj hcp
def post (K : KK) (p : Nat) (k : Int32) : Int32 := if k = nI 5 then gl (gP K p 0) else if k = nI 7 then rpo (gP K p 0) else gP K p 3
set_option maxRecDepth 20000 in
set_option maxHeartbeats 4000000 in
theorem s4_postOf (l : Launch) (d : Nat) (h : MH) (n w : Nat) (K : KK) (cl P : Nat → Int32) (pn : Nat) (hw : WoodAt h w K cl P pn) (p : Nat) (k : Int32) (hp : p < 10) : Sp l mX4_postOf (d + 1) [.ref w, .ref (w + 8 + p), .int k] h n 0 0 (Pv (post K p k) h n) := by
  obtain ⟨hw0, ⟨gr, hgr, egr⟩, ⟨ru, hru, eru⟩, ⟨pq, hpf, epf⟩, hpl, ⟨fl, hfl, efl⟩, ⟨ca, hca, eca⟩, ⟨wa, hwa⟩, hpp, hhd⟩ := id hw
  show V _ _ _ _ [some (.ref w), some (.ref (w + 8 + p)), some (.int k)] _ _ _ _ _ _
  refine V.iload_n dX4_postOf_0 rfl ?_
  refine V.iconst (v := nI 5) dX4_postOf_1 (by decide) ?_
  refine V.icmp_ne (tgt := 13) dX4_postOf_2 (by decide) (fun c2 => ?_) (fun c2 => ?_)
  · refine V.iload_n dX4_postOf_13 rfl ?_
    refine V.bipush (v := nI 7) dX4_postOf_14 (by decide) ?_
    refine V.icmp_ne (tgt := 29) dX4_postOf_16 (by decide) (fun c16 => ?_) (fun c16 => ?_)
    · refine V.aload_n dX4_postOf_29 rfl ?_
      refine V.getf dX4_postOf_30 fl_X4_101 (hpp _ (by omega)) rfl ?_
      exact V.iretP (by exact dX4_postOf_33) rfl (by simp only [post, c2, c16, not_true_eq_false, not_false_eq_true, if_true, if_false, decide_true, decide_false, Bool.and_true, Bool.and_false, Bool.true_and, Bool.false_and, Bool.or_true, Bool.or_false, Bool.true_or, Bool.false_or, Bool.not_true, Bool.not_false, and_true, and_false, true_and, false_and, or_true, or_false, true_or, false_or, bIt, bIf, Bool.false_eq_true, reduceCtorEq]) rfl
    · refine V.aload_n dX4_postOf_19 rfl ?_
      refine V.getf dX4_postOf_20 fl_X4_104 (hpp _ (by omega)) rfl ?_
      refine V.callSv [_] dX4_postOf_23 lk_X4_181 rfl (Nat.le_of_ble_eq_true rfl) (Nat.le_of_ble_eq_true rfl) (s5_ringPostOf _ _ _ _ _) ?_
      refine V.goto (tgt := 33) dX4_postOf_26 (by decide) ?_
      exact V.iretP (by exact dX4_postOf_33) rfl (by simp only [post, c2, eq_true c16, not_true_eq_false, not_false_eq_true, if_true, if_false, decide_true, decide_false, Bool.and_true, Bool.and_false, Bool.true_and, Bool.false_and, Bool.or_true, Bool.or_false, Bool.true_or, Bool.false_or, Bool.not_true, Bool.not_false, and_true, and_false, true_and, false_and, or_true, or_false, true_or, false_or, bIt, bIf, Bool.false_eq_true, reduceCtorEq]) rfl
  · refine V.aload_n dX4_postOf_5 rfl ?_
    refine V.getf dX4_postOf_6 fl_X4_104 (hpp _ (by omega)) rfl ?_
    refine V.callSv [_] dX4_postOf_9 lk_X4_98 rfl (Nat.le_of_ble_eq_true rfl) (Nat.le_of_ble_eq_true rfl) (s5_gaolOf _ _ _ _ _) ?_
    exact V.iretP (by exact dX4_postOf_12) rfl (by simp only [post, eq_true c2, not_true_eq_false, not_false_eq_true, if_true, if_false, decide_true, decide_false, Bool.and_true, Bool.and_false, Bool.true_and, Bool.false_and, Bool.or_true, Bool.or_false, Bool.true_or, Bool.false_or, Bool.not_true, Bool.not_false, and_true, and_false, true_and, false_and, or_true, or_false, true_or, false_or, bIt, bIf, Bool.false_eq_true, reduceCtorEq]) rfl
theorem sd01 {K : KK} {m p : Nat} (h : KR K m) (hp : p < m) : gP K p 0 = nI 0 ∨ gP K p 0 = nI 1 := by
  obtain ⟨e, he, hs⟩ := h.2.2.1 p hp
  rcases (show e = 0 ∨ e = 1 by omega) with rfl | rfl
  · exact Or.inl hs
  · exact Or.inr hs
set_option maxRecDepth 20000 in
set_option maxHeartbeats 4000000 in
theorem s4_isFaced_loop (l : Launch) (d : Nat) (h : MH) (n w : Nat) (K : KK) (cl P : Nat → Int32) (pn : Nat) (hw : WoodAt h w K cl P pn) (p m : Nat) (c ff : Int32) (hK : KR K m) (hp : p < m) : ∀ (r q : Nat), q + r = m → mdL K p c ff q = false → V l mX4_isFaced (d + 1) 3 [some (.ref w), some (.int (gP K p 0)), some (.int c), some (.int ff), some (.int (nI q)), none] [] h n 0 0 (Pv (bI (mind K m p c ff)) h n) := by
  have hm := hK.1
  have hm10 := hK.2.1
  obtain ⟨hw0, ⟨gr, hgr, egr⟩, ⟨ru, hru, eru⟩, ⟨pq, hpf, epf⟩, hpl, ⟨fl, hfl, efl⟩, ⟨ca, hca, eca⟩, ⟨wa, hwa⟩, hpp, hhd⟩ := id hw
  intro r
  induction r with
  | zero =>
    intro q hq hf
    refine V.iload dX4_isFaced_3 rfl ?_
    refine V.aload_n dX4_isFaced_5 rfl ?_
    refine V.getf dX4_isFaced_6 fl_X4_51 hw0 rfl ?_
    rw [hm]
    refine V.icmp_geN (tgt := 75) dX4_isFaced_9 (by decide) (by omega) (by omega) (fun _ => ?_) (fun q => absurd q (by omega))
    refine V.iconst (v := nI 0) dX4_isFaced_75 (by decide) ?_
    exact V.iretZ (by exact dX4_isFaced_76) rfl (by rw [mind, show m = q by omega, hf, bIf]) rfl
  | succ r ih =>
    intro q hq hf
    refine V.iload dX4_isFaced_3 rfl ?_
    refine V.aload_n dX4_isFaced_5 rfl ?_
    refine V.getf dX4_isFaced_6 fl_X4_51 hw0 rfl ?_
    rw [hm]
    refine V.icmp_geN (tgt := 75) dX4_isFaced_9 (by decide) (by omega) (by omega) (fun q => absurd q (by omega)) (fun _ => ?_)
    refine V.aload_n dX4_isFaced_12 rfl ?_
    refine V.getf dX4_isFaced_13 fl_X4_20 hw0 rfl ?_
    refine V.iload dX4_isFaced_16 rfl ?_
    refine V.aaldN dX4_isFaced_18 (Or.inl rfl) hpf (by omega) (by decide) (epf _ (by omega)) ?_
    refine V.ast5 dX4_isFaced_19 (by decide) rfl ?_
    refine V.aload dX4_isFaced_21 rfl ?_
    refine V.getf dX4_isFaced_23 fl_X4_104 (hpp _ (by omega)) rfl ?_
    refine V.iload_n dX4_isFaced_26 rfl ?_
    refine V.icmp_eq (tgt := 69) dX4_isFaced_27 (by decide) (fun c27 => ?_) (fun c27 => ?_)
    · refine V.inN4 dX4_isFaced_69 (by decide) rfl ?_
      refine V.goto (tgt := 3) dX4_isFaced_72 (by decide) ?_
      exact V.drop 5 (ih (q + 1) (by omega) (by (try simp only [← Int32.not_le, Classical.not_not] at c27 ⊢); first | (simp only [mdL, mdC, hf, eq_true c27, not_true_eq_false, not_false_eq_true, if_true, if_false, decide_true, decide_false, Bool.and_true, Bool.and_false, Bool.true_and, Bool.false_and, Bool.or_true, Bool.or_false, Bool.true_or, Bool.false_or, Bool.not_true, Bool.not_false, and_true, and_false, true_and, false_and, or_true, or_false, true_or, false_or, bIt, bIf, Bool.false_eq_true, reduceCtorEq]; done) | (have c51z : hfc (gP K q 4) = gP K p 0 := Classical.byContradiction (fun z => c51 ((cmpl (hfc_01 (hK.2.2.2.2.1 _ (by omega) (frB_z c35))) (sd01 hK (by omega)) (sd01 hK hp) c27).mpr z)); simp only [mdL, mdC, hf, c51z, c27, c35, not_true_eq_false, not_false_eq_true, if_true, if_false, decide_true, decide_false, Bool.and_true, Bool.and_false, Bool.true_and, Bool.false_and, Bool.or_true, Bool.or_false, Bool.true_or, Bool.false_or, Bool.not_true, Bool.not_false, and_true, and_false, true_and, false_and, or_true, or_false, true_or, false_or, bIt, bIf, Bool.false_eq_true, reduceCtorEq])))
    · refine V.aload dX4_isFaced_30 rfl ?_
      refine V.callVv [] dX4_isFaced_32 lk_X4_135 rfl (Nat.le_of_ble_eq_true rfl) (Nat.le_of_ble_eq_true rfl) (hpp _ (by omega)) rfl (s0_isFree _ _ _ _ _ _ _ _ _ hw _ (by omega)) ?_
      refine V.if_eqB (tgt := 69) dX4_isFaced_35 (by decide) (fun c35 => ?_) (fun c35 => ?_)
      · refine V.inN4 dX4_isFaced_69 (by decide) rfl ?_
        refine V.goto (tgt := 3) dX4_isFaced_72 (by decide) ?_
        exact V.drop 5 (ih (q + 1) (by omega) (by (try simp only [← Int32.not_le, Classical.not_not] at c27 c35 ⊢); first | (simp only [mdL, mdC, hf, c27, c35, not_true_eq_false, not_false_eq_true, if_true, if_false, decide_true, decide_false, Bool.and_true, Bool.and_false, Bool.true_and, Bool.false_and, Bool.or_true, Bool.or_false, Bool.true_or, Bool.false_or, Bool.not_true, Bool.not_false, and_true, and_false, true_and, false_and, or_true, or_false, true_or, false_or, bIt, bIf, Bool.false_eq_true, reduceCtorEq]; done) | (have c51z : hfc (gP K q 4) = gP K p 0 := Classical.byContradiction (fun z => c51 ((cmpl (hfc_01 (hK.2.2.2.2.1 _ (by omega) (frB_z c35))) (sd01 hK (by omega)) (sd01 hK hp) c27).mpr z)); simp only [mdL, mdC, hf, c51z, c27, c35, not_true_eq_false, not_false_eq_true, if_true, if_false, decide_true, decide_false, Bool.and_true, Bool.and_false, Bool.true_and, Bool.false_and, Bool.or_true, Bool.or_false, Bool.true_or, Bool.false_or, Bool.not_true, Bool.not_false, and_true, and_false, true_and, false_and, or_true, or_false, true_or, false_or, bIt, bIf, Bool.false_eq_true, reduceCtorEq])))
      · have hcq : cAt K cl q = gP K q 4 := cAt_fr c35
        refine V.aload dX4_isFaced_38 rfl ?_
        refine V.getf dX4_isFaced_40 fl_X4_139 (hpp _ (by omega)) rfl ?_
        (try rw [hcp])
        (try rw [hcq])
        refine V.callSv [_] dX4_isFaced_43 lk_X4_116 rfl (Nat.le_of_ble_eq_true rfl) (Nat.le_of_ble_eq_true rfl) (s5_sideOf _ _ _ (hK.2.2.2.2.1 _ (by omega) (frB_z c35)) _ _) ?_
        refine V.aload dX4_isFaced_46 rfl ?_
        refine V.getf dX4_isFaced_48 fl_X4_104 (hpp _ (by omega)) rfl ?_
        refine V.icmp_ne (tgt := 69) dX4_isFaced_51 (by decide) (fun c51 => ?_) (fun c51 => ?_)
        · refine V.inN4 dX4_isFaced_69 (by decide) rfl ?_
          refine V.goto (tgt := 3) dX4_isFaced_72 (by decide) ?_
          exact V.drop 5 (ih (q + 1) (by omega) (by (try simp only [← Int32.not_le, Classical.not_not] at c27 c35 c51 ⊢); first | (simp only [mdL, mdC, hf, c27, c35, c51, not_true_eq_false, not_false_eq_true, if_true, if_false, decide_true, decide_false, Bool.and_true, Bool.and_false, Bool.true_and, Bool.false_and, Bool.or_true, Bool.or_false, Bool.true_or, Bool.false_or, Bool.not_true, Bool.not_false, and_true, and_false, true_and, false_and, or_true, or_false, true_or, false_or, bIt, bIf, Bool.false_eq_true, reduceCtorEq]; done) | (have c51z : hfc (gP K q 4) = gP K p 0 := Classical.byContradiction (fun z => c51 ((cmpl (hfc_01 (hK.2.2.2.2.1 _ (by omega) (frB_z c35))) (sd01 hK (by omega)) (sd01 hK hp) c27).mpr z)); simp only [mdL, mdC, hf, c51z, c27, c35, not_true_eq_false, not_false_eq_true, if_true, if_false, decide_true, decide_false, Bool.and_true, Bool.and_false, Bool.true_and, Bool.false_and, Bool.or_true, Bool.or_false, Bool.true_or, Bool.false_or, Bool.not_true, Bool.not_false, and_true, and_false, true_and, false_and, or_true, or_false, true_or, false_or, bIt, bIf, Bool.false_eq_true, reduceCtorEq])))
        · have c51 : ¬ hfc (gP K q 4) = gP K p 0 := (cmpl (hfc_01 (hK.2.2.2.2.1 _ (by omega) (frB_z c35))) (sd01 hK (by omega)) (sd01 hK hp) c27).mp c51
          refine V.aload dX4_isFaced_54 rfl ?_
          refine V.getf dX4_isFaced_56 fl_X4_139 (hpp _ (by omega)) rfl ?_
          (try rw [hcp])
          (try rw [hcq])
          refine V.iload_n dX4_isFaced_59 rfl ?_
          refine V.callSv [_, _] dX4_isFaced_60 lk_X4_142 rfl (Nat.le_of_ble_eq_true rfl) (Nat.le_of_ble_eq_true rfl) (s5_between _ _ _ _ _ _) ?_
          refine V.iload_n dX4_isFaced_63 rfl ?_
          refine V.icmp_gt (tgt := 69) dX4_isFaced_64 (by decide) (fun c64 => ?_) (fun c64 => ?_)
          · refine V.inN4 dX4_isFaced_69 (by decide) rfl ?_
            refine V.goto (tgt := 3) dX4_isFaced_72 (by decide) ?_
            exact V.drop 5 (ih (q + 1) (by omega) (by (try simp only [← Int32.not_le, Classical.not_not] at c27 c35 c51 c64 ⊢); first | (simp only [mdL, mdC, hf, c27, c35, c51, c64, not_true_eq_false, not_false_eq_true, if_true, if_false, decide_true, decide_false, Bool.and_true, Bool.and_false, Bool.true_and, Bool.false_and, Bool.or_true, Bool.or_false, Bool.true_or, Bool.false_or, Bool.not_true, Bool.not_false, and_true, and_false, true_and, false_and, or_true, or_false, true_or, false_or, bIt, bIf, Bool.false_eq_true, reduceCtorEq]; done) | (have c51z : hfc (gP K q 4) = gP K p 0 := Classical.byContradiction (fun z => c51 ((cmpl (hfc_01 (hK.2.2.2.2.1 _ (by omega) (frB_z c35))) (sd01 hK (by omega)) (sd01 hK hp) c27).mpr z)); simp only [mdL, mdC, hf, c51z, c27, c35, not_true_eq_false, not_false_eq_true, if_true, if_false, decide_true, decide_false, Bool.and_true, Bool.and_false, Bool.true_and, Bool.false_and, Bool.or_true, Bool.or_false, Bool.true_or, Bool.false_or, Bool.not_true, Bool.not_false, and_true, and_false, true_and, false_and, or_true, or_false, true_or, false_or, bIt, bIf, Bool.false_eq_true, reduceCtorEq])))
          · refine V.iconst (v := nI 1) dX4_isFaced_67 (by decide) ?_
            exact V.iretZ (by exact dX4_isFaced_68) rfl (by rw [mind, mdL_up (show q + 1 ≤ m by omega) (by (try simp only [← Int32.not_le, Classical.not_not] at c27 c35 c51 c64 ⊢); simp only [mdL, mdC, hf, c27, c35, c51, c64, not_true_eq_false, not_false_eq_true, if_true, if_false, decide_true, decide_false, Bool.and_true, Bool.and_false, Bool.true_and, Bool.false_and, Bool.or_true, Bool.or_false, Bool.true_or, Bool.false_or, Bool.not_true, Bool.not_false, and_true, and_false, true_and, false_and, or_true, or_false, true_or, false_or, bIt, bIf, Bool.false_eq_true, reduceCtorEq]), bIt]) rfl
set_option maxRecDepth 20000 in
set_option maxHeartbeats 4000000 in
theorem s4_isFaced (l : Launch) (d : Nat) (h : MH) (n w : Nat) (K : KK) (cl P : Nat → Int32) (pn : Nat) (hw : WoodAt h w K cl P pn) (p m : Nat) (c ff : Int32) (hK : KR K m) (hp : p < m) : Sp l mX4_isFaced (d + 1) [.ref w, .int (gP K p 0), .int c, .int ff] h n 0 0 (Pv (bI (mind K m p c ff)) h n) := by
  show V _ _ _ _ [some (.ref w), some (.int (gP K p 0)), some (.int c), some (.int ff), none, none] _ _ _ _ _ _
  refine V.iconst (v := nI 0) dX4_isFaced_0 (by decide) ?_
  refine V.ist4 dX4_isFaced_1 (by decide) rfl ?_
  exact s4_isFaced_loop l d h n w K cl P pn hw p m c ff hK hp m 0 (by omega) rfl
def stE (b1 b2 b3 : Bool) (aC aR cp : Int32) : Int32 := if b1 = true then (if b3 = true then aC else if b2 = true then aR else aC) else if b2 = true then aR else cp
def stD (b1 b2 : Bool) (co ro aC aR cp : Int32) : Int32 := stE b1 b2 (decide (ro * ro ≤ co * co)) aC aR cp
def stC (K : KK) (p : Nat) (b1 : Bool) (co ro aC aR cp : Int32) : Int32 := stD b1 (!decide (ro = 0) && meB K p aR) co ro aC aR cp
def stB (K : KK) (p : Nat) (co ro aC aR cp : Int32) : Int32 := stC K p (!decide (co = 0) && meB K p aC) co ro aC aR cp
def stp (K : KK) (p : Nat) (g : Int32) : Int32 := stB K p (acr K p g) (dwn K p g) (gP K p 4 + (if acr K p g < 0 then -1 else nI 1)) (gP K p 4 + (if dwn K p g < 0 then -12 else nI 12)) (gP K p 4)
set_option maxRecDepth 20000 in
set_option maxHeartbeats 4000000 in
theorem s4_step_e (l : Launch) (d : Nat) (h : MH) (n w : Nat) (K : KK) (cl P : Nat → Int32) (pn : Nat) (hw : WoodAt h w K cl P pn) (p : Nat) (hp : p < 10) (hcp : cAt K cl p = gP K p 4) (g co ro aC aR : Int32) (b1 b2 b3 : Bool) : V l mX4_stepOf d 123 [some (.ref w), some (.ref (w + 8 + p)), some (.int g), some (.int co), some (.int ro), some (.int aC), some (.int aR), some (.int (bI b1)), some (.int (bI b2)), some (.int (bI b3))] [] h n 0 0 (Pv (stE b1 b2 b3 aC aR (gP K p 4)) h n) := by
  obtain ⟨hw0, ⟨gr, hgr, egr⟩, ⟨ru, hru, eru⟩, ⟨pq, hpf, epf⟩, hpl, ⟨fl, hfl, efl⟩, ⟨ca, hca, eca⟩, ⟨wa, hwa⟩, hpp, hhd⟩ := id hw
  refine V.iload dX4_stepOf_123 rfl ?_
  refine V.if_eqB (tgt := 141) dX4_stepOf_125 (by decide) (fun c125 => ?_) (fun c125 => ?_)
  · refine V.iload dX4_stepOf_141 rfl ?_
    refine V.if_eqB (tgt := 151) dX4_stepOf_143 (by decide) (fun c143 => ?_) (fun c143 => ?_)
    · refine V.aload_n dX4_stepOf_151 rfl ?_
      refine V.getf dX4_stepOf_152 fl_X4_139 (hpp _ (by omega)) rfl ?_
      (try rw [hcp])
      (try rw [hcq])
      exact V.iretP (by exact dX4_stepOf_155) rfl (by first | (simp only [stE, c125, c143, not_true_eq_false, not_false_eq_true, if_true, if_false, decide_true, decide_false, Bool.and_true, Bool.and_false, Bool.true_and, Bool.false_and, Bool.or_true, Bool.or_false, Bool.true_or, Bool.false_or, Bool.not_true, Bool.not_false, and_true, and_false, true_and, false_and, or_true, or_false, true_or, false_or, bIt, bIf, Bool.false_eq_true, reduceCtorEq]; done) | simp_all) rfl
    · refine V.iload dX4_stepOf_146 rfl ?_
      refine V.goto (tgt := 155) dX4_stepOf_148 (by decide) ?_
      exact V.iretP (by exact dX4_stepOf_155) rfl (by first | (simp only [stE, c125, c143, not_true_eq_false, not_false_eq_true, if_true, if_false, decide_true, decide_false, Bool.and_true, Bool.and_false, Bool.true_and, Bool.false_and, Bool.or_true, Bool.or_false, Bool.true_or, Bool.false_or, Bool.not_true, Bool.not_false, and_true, and_false, true_and, false_and, or_true, or_false, true_or, false_or, bIt, bIf, Bool.false_eq_true, reduceCtorEq]; done) | simp_all) rfl
  · refine V.iload dX4_stepOf_128 rfl ?_
    refine V.if_neB (tgt := 138) dX4_stepOf_130 (by decide) (fun c130 => ?_) (fun c130 => ?_)
    · refine V.iload dX4_stepOf_138 rfl ?_
      exact V.iretP (by exact dX4_stepOf_140) rfl (by first | (simp only [stE, c125, c130, not_true_eq_false, not_false_eq_true, if_true, if_false, decide_true, decide_false, Bool.and_true, Bool.and_false, Bool.true_and, Bool.false_and, Bool.or_true, Bool.or_false, Bool.true_or, Bool.false_or, Bool.not_true, Bool.not_false, and_true, and_false, true_and, false_and, or_true, or_false, true_or, false_or, bIt, bIf, Bool.false_eq_true, reduceCtorEq]; done) | simp_all) rfl
    · refine V.iload dX4_stepOf_133 rfl ?_
      refine V.if_neB (tgt := 141) dX4_stepOf_135 (by decide) (fun c135 => ?_) (fun c135 => ?_)
      · refine V.iload dX4_stepOf_141 rfl ?_
        refine V.if_eqB (tgt := 151) dX4_stepOf_143 (by decide) (fun c143 => ?_) (fun c143 => ?_)
        · refine V.aload_n dX4_stepOf_151 rfl ?_
          refine V.getf dX4_stepOf_152 fl_X4_139 (hpp _ (by omega)) rfl ?_
          (try rw [hcp])
          (try rw [hcq])
          exact V.iretP (by exact dX4_stepOf_155) rfl (by first | (simp only [stE, c125, c130, c135, c143, not_true_eq_false, not_false_eq_true, if_true, if_false, decide_true, decide_false, Bool.and_true, Bool.and_false, Bool.true_and, Bool.false_and, Bool.or_true, Bool.or_false, Bool.true_or, Bool.false_or, Bool.not_true, Bool.not_false, and_true, and_false, true_and, false_and, or_true, or_false, true_or, false_or, bIt, bIf, Bool.false_eq_true, reduceCtorEq]; done) | simp_all) rfl
        · refine V.iload dX4_stepOf_146 rfl ?_
          refine V.goto (tgt := 155) dX4_stepOf_148 (by decide) ?_
          exact V.iretP (by exact dX4_stepOf_155) rfl (by first | (simp only [stE, c125, c130, c135, c143, not_true_eq_false, not_false_eq_true, if_true, if_false, decide_true, decide_false, Bool.and_true, Bool.and_false, Bool.true_and, Bool.false_and, Bool.or_true, Bool.or_false, Bool.true_or, Bool.false_or, Bool.not_true, Bool.not_false, and_true, and_false, true_and, false_and, or_true, or_false, true_or, false_or, bIt, bIf, Bool.false_eq_true, reduceCtorEq]; done) | simp_all) rfl
      · refine V.iload dX4_stepOf_138 rfl ?_
        exact V.iretP (by exact dX4_stepOf_140) rfl (by first | (simp only [stE, c125, c130, c135, not_true_eq_false, not_false_eq_true, if_true, if_false, decide_true, decide_false, Bool.and_true, Bool.and_false, Bool.true_and, Bool.false_and, Bool.or_true, Bool.or_false, Bool.true_or, Bool.false_or, Bool.not_true, Bool.not_false, and_true, and_false, true_and, false_and, or_true, or_false, true_or, false_or, bIt, bIf, Bool.false_eq_true, reduceCtorEq]; done) | simp_all) rfl
set_option maxRecDepth 20000 in
set_option maxHeartbeats 4000000 in
theorem s4_step_d (l : Launch) (d : Nat) (h : MH) (n w : Nat) (K : KK) (cl P : Nat → Int32) (pn : Nat) (hw : WoodAt h w K cl P pn) (p : Nat) (hp : p < 10) (hcp : cAt K cl p = gP K p 4) (g co ro aC aR : Int32) (b1 b2 : Bool) : V l mX4_stepOf d 105 [some (.ref w), some (.ref (w + 8 + p)), some (.int g), some (.int co), some (.int ro), some (.int aC), some (.int aR), some (.int (bI b1)), some (.int (bI b2)), none] [] h n 0 0 (Pv (stD b1 b2 co ro aC aR (gP K p 4)) h n) := by
  obtain ⟨hw0, ⟨gr, hgr, egr⟩, ⟨ru, hru, eru⟩, ⟨pq, hpf, epf⟩, hpl, ⟨fl, hfl, efl⟩, ⟨ca, hca, eca⟩, ⟨wa, hwa⟩, hpp, hhd⟩ := id hw
  refine V.iload_n dX4_stepOf_105 rfl ?_
  refine V.iload_n dX4_stepOf_106 rfl ?_
  refine V.imul dX4_stepOf_107 ?_
  refine V.iload dX4_stepOf_108 rfl ?_
  refine V.iload dX4_stepOf_110 rfl ?_
  refine V.imul dX4_stepOf_112 ?_
  refine V.icmp_lt (tgt := 120) dX4_stepOf_113 (by decide) (fun c113 => ?_) (fun c113 => ?_)
  · refine V.iconst (v := nI 0) dX4_stepOf_120 (by decide) ?_
    refine V.ist9 dX4_stepOf_121 (by decide) rfl ?_
    exact V.qv2 (V.ls (by first | rw [← bIt] | rw [← bIf]) (s4_step_e l d h n w K cl P pn hw p hp hcp g co ro aC aR b1 b2 _)) (by (try simp only [← Int32.not_le, Classical.not_not] at c113 ⊢); simp only [stD, c113, not_true_eq_false, not_false_eq_true, if_true, if_false, decide_true, decide_false, Bool.and_true, Bool.and_false, Bool.true_and, Bool.false_and, Bool.or_true, Bool.or_false, Bool.true_or, Bool.false_or, Bool.not_true, Bool.not_false, and_true, and_false, true_and, false_and, or_true, or_false, true_or, false_or, bIt, bIf, Bool.false_eq_true, reduceCtorEq])
  · refine V.iconst (v := nI 1) dX4_stepOf_116 (by decide) ?_
    refine V.goto (tgt := 121) dX4_stepOf_117 (by decide) ?_
    refine V.ist9 dX4_stepOf_121 (by decide) rfl ?_
    exact V.qv2 (V.ls (by first | rw [← bIt] | rw [← bIf]) (s4_step_e l d h n w K cl P pn hw p hp hcp g co ro aC aR b1 b2 _)) (by (try simp only [← Int32.not_le, Classical.not_not] at c113 ⊢); simp only [stD, c113, not_true_eq_false, not_false_eq_true, if_true, if_false, decide_true, decide_false, Bool.and_true, Bool.and_false, Bool.true_and, Bool.false_and, Bool.or_true, Bool.or_false, Bool.true_or, Bool.false_or, Bool.not_true, Bool.not_false, and_true, and_false, true_and, false_and, or_true, or_false, true_or, false_or, bIt, bIf, Bool.false_eq_true, reduceCtorEq])
set_option maxRecDepth 20000 in
set_option maxHeartbeats 4000000 in
theorem s4_step_c (l : Launch) (d : Nat) (h : MH) (n w : Nat) (K : KK) (cl P : Nat → Int32) (pn : Nat) (hw : WoodAt h w K cl P pn) (p : Nat) (hp : p < 10) (hcp : cAt K cl p = gP K p 4) (g co ro aC aR : Int32) (hcv : ¬ ro = 0 → cellv aR) (b1 : Bool) : V l mX4_stepOf (d + 2) 83 [some (.ref w), some (.ref (w + 8 + p)), some (.int g), some (.int co), some (.int ro), some (.int aC), some (.int aR), some (.int (bI b1)), none, none] [] h n 0 0 (Pv (stC K p b1 co ro aC aR (gP K p 4)) h n) := by
  obtain ⟨hw0, ⟨gr, hgr, egr⟩, ⟨ru, hru, eru⟩, ⟨pq, hpf, epf⟩, hpl, ⟨fl, hfl, efl⟩, ⟨ca, hca, eca⟩, ⟨wa, hwa⟩, hpp, hhd⟩ := id hw
  refine V.iload dX4_stepOf_83 rfl ?_
  refine V.if_eq (tgt := 102) dX4_stepOf_85 (by decide) (fun c85 => ?_) (fun c85 => ?_)
  · refine V.iconst (v := nI 0) dX4_stepOf_102 (by decide) ?_
    refine V.ist8 dX4_stepOf_103 (by decide) rfl ?_
    exact V.qv2 (V.ls (by first | rw [← bIt] | rw [← bIf]) (s4_step_d l _ h n w K cl P pn hw p hp hcp g co ro aC aR b1 _)) (by simp only [stC, eq_true c85, not_true_eq_false, not_false_eq_true, if_true, if_false, decide_true, decide_false, Bool.and_true, Bool.and_false, Bool.true_and, Bool.false_and, Bool.or_true, Bool.or_false, Bool.true_or, Bool.false_or, Bool.not_true, Bool.not_false, and_true, and_false, true_and, false_and, or_true, or_false, true_or, false_or, bIt, bIf, Bool.false_eq_true, reduceCtorEq])
  · refine V.aload_n dX4_stepOf_88 rfl ?_
    refine V.aload_n dX4_stepOf_89 rfl ?_
    refine V.iload dX4_stepOf_90 rfl ?_
    refine V.callVv [_, _] dX4_stepOf_92 lk_X4_190 rfl (Nat.le_of_ble_eq_true rfl) (Nat.le_of_ble_eq_true rfl) hw0 rfl (s4_mayEnterI _ _ _ _ _ _ _ _ _ hw _ _ (by omega) (hcv c85) hcp) ?_
    refine V.if_eqB (tgt := 102) dX4_stepOf_95 (by decide) (fun c95 => ?_) (fun c95 => ?_)
    · refine V.iconst (v := nI 0) dX4_stepOf_102 (by decide) ?_
      refine V.ist8 dX4_stepOf_103 (by decide) rfl ?_
      exact V.qv2 (V.ls (by first | rw [← bIt] | rw [← bIf]) (s4_step_d l _ h n w K cl P pn hw p hp hcp g co ro aC aR b1 _)) (by simp only [stC, c85, c95, not_true_eq_false, not_false_eq_true, if_true, if_false, decide_true, decide_false, Bool.and_true, Bool.and_false, Bool.true_and, Bool.false_and, Bool.or_true, Bool.or_false, Bool.true_or, Bool.false_or, Bool.not_true, Bool.not_false, and_true, and_false, true_and, false_and, or_true, or_false, true_or, false_or, bIt, bIf, Bool.false_eq_true, reduceCtorEq])
    · refine V.iconst (v := nI 1) dX4_stepOf_98 (by decide) ?_
      refine V.goto (tgt := 103) dX4_stepOf_99 (by decide) ?_
      refine V.ist8 dX4_stepOf_103 (by decide) rfl ?_
      exact V.qv2 (V.ls (by first | rw [← bIt] | rw [← bIf]) (s4_step_d l _ h n w K cl P pn hw p hp hcp g co ro aC aR b1 _)) (by simp only [stC, c85, c95, not_true_eq_false, not_false_eq_true, if_true, if_false, decide_true, decide_false, Bool.and_true, Bool.and_false, Bool.true_and, Bool.false_and, Bool.or_true, Bool.or_false, Bool.true_or, Bool.false_or, Bool.not_true, Bool.not_false, and_true, and_false, true_and, false_and, or_true, or_false, true_or, false_or, bIt, bIf, Bool.false_eq_true, reduceCtorEq])
set_option maxRecDepth 20000 in
set_option maxHeartbeats 4000000 in
theorem s4_step_b (l : Launch) (d : Nat) (h : MH) (n w : Nat) (K : KK) (cl P : Nat → Int32) (pn : Nat) (hw : WoodAt h w K cl P pn) (p : Nat) (hp : p < 10) (hcp : cAt K cl p = gP K p 4) (g co ro aC aR : Int32) (hcv : ¬ co = 0 → cellv aC) (hcr : ¬ ro = 0 → cellv aR) : V l mX4_stepOf (d + 2) 62 [some (.ref w), some (.ref (w + 8 + p)), some (.int g), some (.int co), some (.int ro), some (.int aC), some (.int aR), none, none, none] [] h n 0 0 (Pv (stB K p co ro aC aR (gP K p 4)) h n) := by
  obtain ⟨hw0, ⟨gr, hgr, egr⟩, ⟨ru, hru, eru⟩, ⟨pq, hpf, epf⟩, hpl, ⟨fl, hfl, efl⟩, ⟨ca, hca, eca⟩, ⟨wa, hwa⟩, hpp, hhd⟩ := id hw
  refine V.iload_n dX4_stepOf_62 rfl ?_
  refine V.if_eq (tgt := 80) dX4_stepOf_63 (by decide) (fun c63 => ?_) (fun c63 => ?_)
  · refine V.iconst (v := nI 0) dX4_stepOf_80 (by decide) ?_
    refine V.ist7 dX4_stepOf_81 (by decide) rfl ?_
    exact V.qv2 (V.ls (by first | rw [← bIt] | rw [← bIf]) (s4_step_c l _ h n w K cl P pn hw p hp hcp g co ro aC aR hcr _)) (by simp only [stB, eq_true c63, not_true_eq_false, not_false_eq_true, if_true, if_false, decide_true, decide_false, Bool.and_true, Bool.and_false, Bool.true_and, Bool.false_and, Bool.or_true, Bool.or_false, Bool.true_or, Bool.false_or, Bool.not_true, Bool.not_false, and_true, and_false, true_and, false_and, or_true, or_false, true_or, false_or, bIt, bIf, Bool.false_eq_true, reduceCtorEq])
  · refine V.aload_n dX4_stepOf_66 rfl ?_
    refine V.aload_n dX4_stepOf_67 rfl ?_
    refine V.iload dX4_stepOf_68 rfl ?_
    refine V.callVv [_, _] dX4_stepOf_70 lk_X4_190 rfl (Nat.le_of_ble_eq_true rfl) (Nat.le_of_ble_eq_true rfl) hw0 rfl (s4_mayEnterI _ _ _ _ _ _ _ _ _ hw _ _ (by omega) (hcv c63) hcp) ?_
    refine V.if_eqB (tgt := 80) dX4_stepOf_73 (by decide) (fun c73 => ?_) (fun c73 => ?_)
    · refine V.iconst (v := nI 0) dX4_stepOf_80 (by decide) ?_
      refine V.ist7 dX4_stepOf_81 (by decide) rfl ?_
      exact V.qv2 (V.ls (by first | rw [← bIt] | rw [← bIf]) (s4_step_c l _ h n w K cl P pn hw p hp hcp g co ro aC aR hcr _)) (by simp only [stB, c63, c73, not_true_eq_false, not_false_eq_true, if_true, if_false, decide_true, decide_false, Bool.and_true, Bool.and_false, Bool.true_and, Bool.false_and, Bool.or_true, Bool.or_false, Bool.true_or, Bool.false_or, Bool.not_true, Bool.not_false, and_true, and_false, true_and, false_and, or_true, or_false, true_or, false_or, bIt, bIf, Bool.false_eq_true, reduceCtorEq])
    · refine V.iconst (v := nI 1) dX4_stepOf_76 (by decide) ?_
      refine V.goto (tgt := 81) dX4_stepOf_77 (by decide) ?_
      refine V.ist7 dX4_stepOf_81 (by decide) rfl ?_
      exact V.qv2 (V.ls (by first | rw [← bIt] | rw [← bIf]) (s4_step_c l _ h n w K cl P pn hw p hp hcp g co ro aC aR hcr _)) (by simp only [stB, c63, c73, not_true_eq_false, not_false_eq_true, if_true, if_false, decide_true, decide_false, Bool.and_true, Bool.and_false, Bool.true_and, Bool.false_and, Bool.or_true, Bool.or_false, Bool.true_or, Bool.false_or, Bool.not_true, Bool.not_false, and_true, and_false, true_and, false_and, or_true, or_false, true_or, false_or, bIt, bIf, Bool.false_eq_true, reduceCtorEq])
set_option maxRecDepth 20000 in
set_option maxHeartbeats 4000000 in
theorem s4_stepOf (l : Launch) (d : Nat) (h : MH) (n w : Nat) (K : KK) (cl P : Nat → Int32) (pn : Nat) (hw : WoodAt h w K cl P pn) (p : Nat) (hp : p < 10) (hcp : cAt K cl p = gP K p 4) (g : Int32) (hcv : ¬ acr K p g = 0 → cellv (gP K p 4 + (if acr K p g < 0 then -1 else nI 1))) (hcr : ¬ dwn K p g = 0 → cellv (gP K p 4 + (if dwn K p g < 0 then -12 else nI 12))) : Sp l mX4_stepOf (d + 2) [.ref w, .ref (w + 8 + p), .int g] h n 0 0 (Pv (stp K p g) h n) := by
  obtain ⟨hw0, ⟨gr, hgr, egr⟩, ⟨ru, hru, eru⟩, ⟨pq, hpf, epf⟩, hpl, ⟨fl, hfl, efl⟩, ⟨ca, hca, eca⟩, ⟨wa, hwa⟩, hpp, hhd⟩ := id hw
  show V _ _ _ _ [some (.ref w), some (.ref (w + 8 + p)), some (.int g), none, none, none, none, none, none, none] _ _ _ _ _ _
  refine V.iload_n dX4_stepOf_0 rfl ?_
  refine V.bipush (v := nI 12) dX4_stepOf_1 (by decide) ?_
  refine V.irem dX4_stepOf_3 (by decide) ?_
  refine V.aload_n dX4_stepOf_4 rfl ?_
  refine V.getf dX4_stepOf_5 fl_X4_139 (hpp _ (by omega)) rfl ?_
  (try rw [hcp])
  (try rw [hcq])
  refine V.bipush (v := nI 12) dX4_stepOf_8 (by decide) ?_
  refine V.irem dX4_stepOf_10 (by decide) ?_
  refine V.isub dX4_stepOf_11 ?_
  refine V.ist3 dX4_stepOf_12 (by decide) rfl ?_
  refine V.iload_n dX4_stepOf_13 rfl ?_
  refine V.bipush (v := nI 12) dX4_stepOf_14 (by decide) ?_
  refine V.idiv dX4_stepOf_16 (by decide) ?_
  refine V.aload_n dX4_stepOf_17 rfl ?_
  refine V.getf dX4_stepOf_18 fl_X4_139 (hpp _ (by omega)) rfl ?_
  (try rw [hcp])
  (try rw [hcq])
  refine V.bipush (v := nI 12) dX4_stepOf_21 (by decide) ?_
  refine V.idiv dX4_stepOf_23 (by decide) ?_
  refine V.isub dX4_stepOf_24 ?_
  refine V.ist4 dX4_stepOf_25 (by decide) rfl ?_
  refine V.aload_n dX4_stepOf_27 rfl ?_
  refine V.getf dX4_stepOf_28 fl_X4_139 (hpp _ (by omega)) rfl ?_
  (try rw [hcp])
  (try rw [hcq])
  refine V.iload_n dX4_stepOf_31 rfl ?_
  refine V.if_ge (tgt := 39) dX4_stepOf_32 (by decide) (fun c32 => ?_) (fun c32 => ?_)
  · refine V.iconst (v := nI 1) dX4_stepOf_39 (by decide) ?_
    refine V.iadd dX4_stepOf_40 ?_
    refine V.ist5 dX4_stepOf_41 (by decide) rfl ?_
    refine V.aload_n dX4_stepOf_43 rfl ?_
    refine V.getf dX4_stepOf_44 fl_X4_139 (hpp _ (by omega)) rfl ?_
    (try rw [hcp])
    (try rw [hcq])
    refine V.iload dX4_stepOf_47 rfl ?_
    refine V.if_ge (tgt := 57) dX4_stepOf_49 (by decide) (fun c49 => ?_) (fun c49 => ?_)
    · refine V.bipush (v := nI 12) dX4_stepOf_57 (by decide) ?_
      refine V.iadd dX4_stepOf_59 ?_
      refine V.ist6 dX4_stepOf_60 (by decide) rfl ?_
      have hx := s4_step_b l d h n w K cl P pn hw p hp hcp g _ _ _ _ hcv hcr
      simp only [← Int32.not_le, acr, dwn, rm, c32, c49, not_true_eq_false, not_false_eq_true, if_true, if_false, decide_true, decide_false, Bool.and_true, Bool.and_false, Bool.true_and, Bool.false_and, Bool.or_true, Bool.or_false, Bool.true_or, Bool.false_or, Bool.not_true, Bool.not_false, and_true, and_false, true_and, false_and, or_true, or_false, true_or, false_or, bIt, bIf, Bool.false_eq_true, reduceCtorEq] at hx
      simp only [stp, ← Int32.not_le, acr, dwn, rm, c32, c49, not_true_eq_false, not_false_eq_true, if_true, if_false, decide_true, decide_false, Bool.and_true, Bool.and_false, Bool.true_and, Bool.false_and, Bool.or_true, Bool.or_false, Bool.true_or, Bool.false_or, Bool.not_true, Bool.not_false, and_true, and_false, true_and, false_and, or_true, or_false, true_or, false_or, bIt, bIf, Bool.false_eq_true, reduceCtorEq]
      exact hx
    · refine V.bipush (v := -12) dX4_stepOf_52 (by decide) ?_
      refine V.goto (tgt := 59) dX4_stepOf_54 (by decide) ?_
      refine V.iadd dX4_stepOf_59 ?_
      refine V.ist6 dX4_stepOf_60 (by decide) rfl ?_
      have hx := s4_step_b l d h n w K cl P pn hw p hp hcp g _ _ _ _ hcv hcr
      simp only [← Int32.not_le, acr, dwn, rm, c32, c49, not_true_eq_false, not_false_eq_true, if_true, if_false, decide_true, decide_false, Bool.and_true, Bool.and_false, Bool.true_and, Bool.false_and, Bool.or_true, Bool.or_false, Bool.true_or, Bool.false_or, Bool.not_true, Bool.not_false, and_true, and_false, true_and, false_and, or_true, or_false, true_or, false_or, bIt, bIf, Bool.false_eq_true, reduceCtorEq] at hx
      simp only [stp, ← Int32.not_le, acr, dwn, rm, c32, c49, not_true_eq_false, not_false_eq_true, if_true, if_false, decide_true, decide_false, Bool.and_true, Bool.and_false, Bool.true_and, Bool.false_and, Bool.or_true, Bool.or_false, Bool.true_or, Bool.false_or, Bool.not_true, Bool.not_false, and_true, and_false, true_and, false_and, or_true, or_false, true_or, false_or, bIt, bIf, Bool.false_eq_true, reduceCtorEq]
      exact hx
  · refine V.iconst (v := -1) dX4_stepOf_35 (by decide) ?_
    refine V.goto (tgt := 40) dX4_stepOf_36 (by decide) ?_
    refine V.iadd dX4_stepOf_40 ?_
    refine V.ist5 dX4_stepOf_41 (by decide) rfl ?_
    refine V.aload_n dX4_stepOf_43 rfl ?_
    refine V.getf dX4_stepOf_44 fl_X4_139 (hpp _ (by omega)) rfl ?_
    (try rw [hcp])
    (try rw [hcq])
    refine V.iload dX4_stepOf_47 rfl ?_
    refine V.if_ge (tgt := 57) dX4_stepOf_49 (by decide) (fun c49 => ?_) (fun c49 => ?_)
    · refine V.bipush (v := nI 12) dX4_stepOf_57 (by decide) ?_
      refine V.iadd dX4_stepOf_59 ?_
      refine V.ist6 dX4_stepOf_60 (by decide) rfl ?_
      have hx := s4_step_b l d h n w K cl P pn hw p hp hcp g _ _ _ _ hcv hcr
      simp only [← Int32.not_le, acr, dwn, rm, c32, c49, not_true_eq_false, not_false_eq_true, if_true, if_false, decide_true, decide_false, Bool.and_true, Bool.and_false, Bool.true_and, Bool.false_and, Bool.or_true, Bool.or_false, Bool.true_or, Bool.false_or, Bool.not_true, Bool.not_false, and_true, and_false, true_and, false_and, or_true, or_false, true_or, false_or, bIt, bIf, Bool.false_eq_true, reduceCtorEq] at hx
      simp only [stp, ← Int32.not_le, acr, dwn, rm, c32, c49, not_true_eq_false, not_false_eq_true, if_true, if_false, decide_true, decide_false, Bool.and_true, Bool.and_false, Bool.true_and, Bool.false_and, Bool.or_true, Bool.or_false, Bool.true_or, Bool.false_or, Bool.not_true, Bool.not_false, and_true, and_false, true_and, false_and, or_true, or_false, true_or, false_or, bIt, bIf, Bool.false_eq_true, reduceCtorEq]
      exact hx
    · refine V.bipush (v := -12) dX4_stepOf_52 (by decide) ?_
      refine V.goto (tgt := 59) dX4_stepOf_54 (by decide) ?_
      refine V.iadd dX4_stepOf_59 ?_
      refine V.ist6 dX4_stepOf_60 (by decide) rfl ?_
      have hx := s4_step_b l d h n w K cl P pn hw p hp hcp g _ _ _ _ hcv hcr
      simp only [← Int32.not_le, acr, dwn, rm, c32, c49, not_true_eq_false, not_false_eq_true, if_true, if_false, decide_true, decide_false, Bool.and_true, Bool.and_false, Bool.true_and, Bool.false_and, Bool.or_true, Bool.or_false, Bool.true_or, Bool.false_or, Bool.not_true, Bool.not_false, and_true, and_false, true_and, false_and, or_true, or_false, true_or, false_or, bIt, bIf, Bool.false_eq_true, reduceCtorEq] at hx
      simp only [stp, ← Int32.not_le, acr, dwn, rm, c32, c49, not_true_eq_false, not_false_eq_true, if_true, if_false, decide_true, decide_false, Bool.and_true, Bool.and_false, Bool.true_and, Bool.false_and, Bool.or_true, Bool.or_false, Bool.true_or, Bool.false_or, Bool.not_true, Bool.not_false, and_true, and_false, true_and, false_and, or_true, or_false, true_or, false_or, bIt, bIf, Bool.false_eq_true, reduceCtorEq]
      exact hx
