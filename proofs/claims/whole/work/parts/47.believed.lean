def worthV (K : KK) (m : Nat) (x : Int32) : Int32 := if wi x (nI 0) (nI 1) = true then nI (cntH K x m) - nI (cN (kpB K (nI 1 - x)) m) else -1000000001
theorem i_ss (x : Int32) (a : Nat) : x - nI a - nI 1 = x - nI (a + 1) := by
  rw [← nI_add, Int32.sub_eq_add_neg, Int32.sub_eq_add_neg, Int32.sub_eq_add_neg, Int32.neg_add, Int32.add_assoc, Int32.sub_eq_add_neg]
theorem i_s0 (x : Int32) : x - nI 0 = x := by rw [show nI 0 = 0 from rfl, Int32.sub_zero]
def wkB (K : KK) (s : Int32) (i : Nat) : Bool := !decide (gP K i 0 = s) && (frB K i && decide (nr (gP K i 4) (gl (nI 1 - s)) ≤ nI 2))
theorem wk_kp {K : KK} {m e : Nat} (hK : KR K m) (he : e < 2) : cN (wkB K (nI e)) m = cN (kpB K (nI 1 - nI e)) m := by
  refine cN_congr (fun i hi => ?_)
  obtain ⟨e1, h1, h2⟩ := hK.2.2.1 i hi
  rw [wkB, kpB, h2]
  congr 1
  rcases (show e = 0 ∨ e = 1 by omega) with rfl | rfl <;> rcases (show e1 = 0 ∨ e1 = 1 by omega) with rfl | rfl <;> decide
set_option maxRecDepth 20000 in
set_option maxHeartbeats 4000000 in
theorem x_worth (l : Launch) (d : Nat) (h : MH) (n : Nat) (K : KK) (b : Bool) (KI : KK) (S : SS) (m : Nat) (hc : ClsAt h K b KI S) (hT : TI K m) (x : Int32) : Sp l mX5_worth (d + 2) [.ref 0, .int x] h n 0 0 (Pv (worthV K m x) h n) := by
  have hD := hT.1
  have hm := hD.1.1
  have hm10 := hD.1.2.1
  obtain ⟨ht0, ⟨sq, hsq, esq⟩, ⟨cl, P, pn, hw, hPR⟩, ⟨Km, clm, Pm, pm, hwm⟩, ⟨KJ, clJ, PJ, pJ, hwJ, hJ⟩, ⟨rb, rx, ry, hrd⟩, hsc, ⟨co, hco⟩, ⟨se, hse⟩, hsh⟩ := id hc
  obtain ⟨hw0, ⟨gr, hgr, egr⟩, ⟨ru, hru, eru⟩, ⟨pq, hpf, epf⟩, hpl, ⟨fl, hfl, efl⟩, ⟨ca, hca, eca⟩, ⟨wa, hwa⟩, hpp, hhd⟩ := id hw
  show V _ _ _ _ [some (.ref 0), some (.int x)] _ _ _ _ _ _
  refine V.iload_n dX5_worth_0 rfl ?_
  refine V.callSv [_] dX5_worth_1 lk_X5_132 rfl (Nat.le_of_ble_eq_true rfl) (Nat.le_of_ble_eq_true rfl) (s5_isSide _ _ _ _ _) ?_
  refine V.if_neB (tgt := 10) dX5_worth_4 (by decide) (fun c4 => ?_) (fun c4 => ?_)
  · refine V.aload_n dX5_worth_10 rfl ?_
    refine V.getf dX5_worth_11 fl_X5_18 ht0 rfl ?_
    refine V.iload_n dX5_worth_14 rfl ?_
    refine V.callVv [_] dX5_worth_15 lk_X5_160 rfl (Nat.le_of_ble_eq_true rfl) (Nat.le_of_ble_eq_true rfl) hw0 rfl (s4_heldOf _ _ _ _ _ _ _ _ _ hw _ _ hm hm10) ?_
    refine V.aload_n dX5_worth_18 rfl ?_
    refine V.getf dX5_worth_19 fl_X5_18 ht0 rfl ?_
    refine V.iconst (v := nI 1) dX5_worth_22 (by decide) ?_
    refine V.iload_n dX5_worth_23 rfl ?_
    refine V.isub dX5_worth_24 ?_
    refine V.callVv [_] dX5_worth_25 lk_X5_243 rfl (Nat.le_of_ble_eq_true rfl) (Nat.le_of_ble_eq_true rfl) hw0 rfl (s4_keepersOf _ _ _ _ _ _ _ _ _ hw _ hm hm10 _) ?_
    refine V.isub dX5_worth_28 ?_
    exact V.iretP (by exact dX5_worth_29) rfl (by simp only [worthV, c4, not_true_eq_false, not_false_eq_true, if_true, if_false, decide_true, decide_false, Bool.and_true, Bool.and_false, Bool.true_and, Bool.false_and, Bool.or_true, Bool.or_false, Bool.true_or, Bool.false_or, Bool.not_true, Bool.not_false, and_true, and_false, true_and, false_and, or_true, or_false, true_or, false_or, bIt, bIf, Bool.false_eq_true, reduceCtorEq]) rfl
  · refine V.ldc dX5_worth_7 cn_X5_189 ?_
    exact V.iretP (by exact dX5_worth_9) rfl (by simp only [worthV, c4, not_true_eq_false, not_false_eq_true, if_true, if_false, decide_true, decide_false, Bool.and_true, Bool.and_false, Bool.true_and, Bool.false_and, Bool.or_true, Bool.or_false, Bool.true_or, Bool.false_or, Bool.not_true, Bool.not_false, and_true, and_false, true_and, false_and, or_true, or_false, true_or, false_or, bIt, bIf, Bool.false_eq_true, reduceCtorEq]) rfl
set_option maxRecDepth 20000 in
set_option maxHeartbeats 4000000 in
theorem m_worth_a (l : Launch) (d : Nat) (h : MH) (n : Nat) (K : KK) (b : Bool) (th po ba en tt : Int32) (hm0 : h 78 = some (.inr (6, moF b th po ba en tt))) (ha : h 79 = some (kc K)) (m : Nat) (hK : KR K m) (x hv : Int32) : ∀ (r i : Nat), i + r = m → V l mX6_worth (d + 2) 22 [some (.ref 78), some (.int x), some (.int (hv - (nI (cN (wkB K x) i)))), some (.int (nI i))] [] h n 0 0 (Pv (hv - nI (cN (wkB K x) m)) h n) := by
  intro r
  induction r with
  | zero =>
    intro i hi
    have hm := hK.1
    have hm10 := hK.2.1
    refine V.iload_n dX6_worth_22 rfl ?_
    refine V.aload_n dX6_worth_23 rfl ?_
    refine V.getf dX6_worth_24 fl_X6_9 hm0 rfl ?_
    refine V.bipush (v := nI 90) dX6_worth_27 (by decide) ?_
    refine V.ialdN dX6_worth_29 ha (by omega) (by decide) ?_
    rw [hm]
    refine V.icmp_geN (tgt := 93) dX6_worth_30 (by decide) (by omega) (by omega) (fun _ => ?_) (fun q => absurd q (by omega))
    refine V.iload_n dX6_worth_93 rfl ?_
    exact V.iretP (by exact dX6_worth_94) rfl (by rw [show i = m by omega]) rfl
  | succ r ih =>
    intro i hi
    have hm := hK.1
    have hm10 := hK.2.1
    refine V.iload_n dX6_worth_22 rfl ?_
    refine V.aload_n dX6_worth_23 rfl ?_
    refine V.getf dX6_worth_24 fl_X6_9 hm0 rfl ?_
    refine V.bipush (v := nI 90) dX6_worth_27 (by decide) ?_
    refine V.ialdN dX6_worth_29 ha (by omega) (by decide) ?_
    rw [hm]
    refine V.icmp_geN (tgt := 93) dX6_worth_30 (by decide) (by omega) (by omega) (fun q => absurd q (by omega)) (fun _ => ?_)
    refine V.iload_n dX6_worth_33 rfl ?_
    refine V.aload_n dX6_worth_34 rfl ?_
    refine V.getf dX6_worth_35 fl_X6_9 hm0 rfl ?_
    refine V.iload_n dX6_worth_38 rfl ?_
    refine V.iconst (v := nI 0) dX6_worth_39 (by decide) ?_
    refine V.callSv [_, _, _] dX6_worth_40 lk_X6_82 rfl (Nat.le_of_ble_eq_true rfl) (Nat.le_of_ble_eq_true rfl) (s6_get _ _ _ _ _ _ ha _ _ (by omega) (by omega)) ?_
    refine V.iload_n dX6_worth_43 rfl ?_
    refine V.icmp_eq (tgt := 84) dX6_worth_44 (by decide) (fun c44 => ?_) (fun c44 => ?_)
    · refine V.iconst (v := nI 0) dX6_worth_84 (by decide) ?_
      refine V.isub dX6_worth_85 ?_
      refine V.ist2 dX6_worth_86 (by decide) rfl ?_
      refine V.inN3 dX6_worth_87 (by decide) rfl ?_
      refine V.goto (tgt := 22) dX6_worth_90 (by decide) ?_
      exact V.ls (by (try simp only [← Int32.not_le, Classical.not_not, decide_eq_true_eq, decide_eq_false_iff_not] at c44); simp only [cN, wkB, i_ss, i_s0, ← Int32.not_le, eq_true c44, List.set_cons_succ, List.set_cons_zero, not_true_eq_false, not_false_eq_true, if_true, if_false, decide_true, decide_false, Bool.and_true, Bool.and_false, Bool.true_and, Bool.false_and, Bool.or_true, Bool.or_false, Bool.true_or, Bool.false_or, Bool.not_true, Bool.not_false, and_true, and_false, true_and, false_and, or_true, or_false, true_or, false_or, bIt, bIf, Bool.false_eq_true, reduceCtorEq, Nat.add_zero, Int32.add_zero, nI_add] <;> rfl) (ih (i + 1) (by omega))
    · refine V.aload_n dX6_worth_47 rfl ?_
      refine V.getf dX6_worth_48 fl_X6_9 hm0 rfl ?_
      refine V.iload_n dX6_worth_51 rfl ?_
      refine V.callSv [_, _] dX6_worth_52 lk_X6_181 rfl (Nat.le_of_ble_eq_true rfl) (Nat.le_of_ble_eq_true rfl) (s6_isFree _ _ _ _ _ _ ha _ (by omega)) ?_
      refine V.if_eqB (tgt := 84) dX6_worth_55 (by decide) (fun c55 => ?_) (fun c55 => ?_)
      · refine V.iconst (v := nI 0) dX6_worth_84 (by decide) ?_
        refine V.isub dX6_worth_85 ?_
        refine V.ist2 dX6_worth_86 (by decide) rfl ?_
        refine V.inN3 dX6_worth_87 (by decide) rfl ?_
        refine V.goto (tgt := 22) dX6_worth_90 (by decide) ?_
        exact V.ls (by (try simp only [← Int32.not_le, Classical.not_not, decide_eq_true_eq, decide_eq_false_iff_not] at c44 c55); simp only [cN, wkB, i_ss, i_s0, ← Int32.not_le, c44, c55, List.set_cons_succ, List.set_cons_zero, not_true_eq_false, not_false_eq_true, if_true, if_false, decide_true, decide_false, Bool.and_true, Bool.and_false, Bool.true_and, Bool.false_and, Bool.or_true, Bool.or_false, Bool.true_or, Bool.false_or, Bool.not_true, Bool.not_false, and_true, and_false, true_and, false_and, or_true, or_false, true_or, false_or, bIt, bIf, Bool.false_eq_true, reduceCtorEq, Nat.add_zero, Int32.add_zero, nI_add] <;> rfl) (ih (i + 1) (by omega))
      · refine V.aload_n dX6_worth_58 rfl ?_
        refine V.getf dX6_worth_59 fl_X6_9 hm0 rfl ?_
        refine V.iload_n dX6_worth_62 rfl ?_
        refine V.iconst (v := nI 4) dX6_worth_63 (by decide) ?_
        refine V.callSv [_, _, _] dX6_worth_64 lk_X6_82 rfl (Nat.le_of_ble_eq_true rfl) (Nat.le_of_ble_eq_true rfl) (s6_get _ _ _ _ _ _ ha _ _ (by omega) (by omega)) ?_
        refine V.iconst (v := nI 1) dX6_worth_67 (by decide) ?_
        refine V.iload_n dX6_worth_68 rfl ?_
        refine V.isub dX6_worth_69 ?_
        refine V.callSv [_] dX6_worth_70 lk_X6_75 rfl (Nat.le_of_ble_eq_true rfl) (Nat.le_of_ble_eq_true rfl) (s6_gaolOf _ _ _ _ _) ?_
        refine V.callSv [_, _] dX6_worth_73 lk_X6_78 rfl (Nat.le_of_ble_eq_true rfl) (Nat.le_of_ble_eq_true rfl) (s6_nearOf _ _ _ _ _ _) ?_
        refine V.iconst (v := nI 2) dX6_worth_76 (by decide) ?_
        refine V.icmp_gt (tgt := 84) dX6_worth_77 (by decide) (fun c77 => ?_) (fun c77 => ?_)
        · refine V.iconst (v := nI 0) dX6_worth_84 (by decide) ?_
          refine V.isub dX6_worth_85 ?_
          refine V.ist2 dX6_worth_86 (by decide) rfl ?_
          refine V.inN3 dX6_worth_87 (by decide) rfl ?_
          refine V.goto (tgt := 22) dX6_worth_90 (by decide) ?_
          exact V.ls (by (try simp only [← Int32.not_le, Classical.not_not, decide_eq_true_eq, decide_eq_false_iff_not] at c44 c55 c77); simp only [cN, wkB, i_ss, i_s0, ← Int32.not_le, c44, c55, c77, List.set_cons_succ, List.set_cons_zero, not_true_eq_false, not_false_eq_true, if_true, if_false, decide_true, decide_false, Bool.and_true, Bool.and_false, Bool.true_and, Bool.false_and, Bool.or_true, Bool.or_false, Bool.true_or, Bool.false_or, Bool.not_true, Bool.not_false, and_true, and_false, true_and, false_and, or_true, or_false, true_or, false_or, bIt, bIf, Bool.false_eq_true, reduceCtorEq, Nat.add_zero, Int32.add_zero, nI_add] <;> rfl) (ih (i + 1) (by omega))
        · refine V.iconst (v := nI 1) dX6_worth_80 (by decide) ?_
          refine V.goto (tgt := 85) dX6_worth_81 (by decide) ?_
          refine V.isub dX6_worth_85 ?_
          refine V.ist2 dX6_worth_86 (by decide) rfl ?_
          refine V.inN3 dX6_worth_87 (by decide) rfl ?_
          refine V.goto (tgt := 22) dX6_worth_90 (by decide) ?_
          exact V.ls (by (try simp only [← Int32.not_le, Classical.not_not, decide_eq_true_eq, decide_eq_false_iff_not] at c44 c55 c77); simp only [cN, wkB, i_ss, i_s0, ← Int32.not_le, c44, c55, c77, List.set_cons_succ, List.set_cons_zero, not_true_eq_false, not_false_eq_true, if_true, if_false, decide_true, decide_false, Bool.and_true, Bool.and_false, Bool.true_and, Bool.false_and, Bool.or_true, Bool.or_false, Bool.true_or, Bool.false_or, Bool.not_true, Bool.not_false, and_true, and_false, true_and, false_and, or_true, or_false, true_or, false_or, bIt, bIf, Bool.false_eq_true, reduceCtorEq, Nat.add_zero, Int32.add_zero, nI_add] <;> rfl) (ih (i + 1) (by omega))
set_option maxRecDepth 20000 in
set_option maxHeartbeats 4000000 in
theorem m_worth (l : Launch) (d : Nat) (h : MH) (n : Nat) (K : KK) (b : Bool) (KI : KK) (S : SS) (m : Nat) (hc : ModAt h K b KI S) (hT : TI K m) (x : Int32) : Sp l mX6_worth (d + 2) [.ref 78, .int x] h n 0 0 (Pv (worthV K m x) h n) := by
  have hD := hT.1
  have hm := hD.1.1
  have hm10 := hD.1.2.1
  obtain ⟨⟨th, po, ba, en, tt, hm0⟩, ha, hb, ⟨Km, hmi⟩, ⟨Kr, hre⟩, h83, h84, h85, h86, h87, h88, ⟨X89, h89⟩, ⟨X90, h90⟩, ⟨X91, h91⟩, ⟨X92, h92⟩⟩ := id hc
  show V _ _ _ _ [some (.ref 78), some (.int x), none, none] _ _ _ _ _ _
  refine V.iload_n dX6_worth_0 rfl ?_
  refine V.callSv [_] dX6_worth_1 lk_X6_223 rfl (Nat.le_of_ble_eq_true rfl) (Nat.le_of_ble_eq_true rfl) (s6_isSide _ _ _ _ _) ?_
  refine V.if_neB (tgt := 11) dX6_worth_4 (by decide) (fun c4 => ?_) (fun c4 => ?_)
  · refine V.aload_n dX6_worth_11 rfl ?_
    refine V.getf dX6_worth_12 fl_X6_9 hm0 rfl ?_
    refine V.iload_n dX6_worth_15 rfl ?_
    refine V.callSv [_, _] dX6_worth_16 lk_X6_174 rfl (Nat.le_of_ble_eq_true rfl) (Nat.le_of_ble_eq_true rfl) (s6_heldOf _ _ _ _ _ _ ha _ _ hm hm10) ?_
    refine V.ist2 dX6_worth_19 (by decide) rfl ?_
    refine V.iconst (v := nI 0) dX6_worth_20 (by decide) ?_
    refine V.ist3 dX6_worth_21 (by decide) rfl ?_
    have hx2 : x = nI 0 ∨ x = nI 1 := by
      obtain ⟨e, he, rfl⟩ := wi_ex (by decide) c4
      rcases (show e = 0 ∨ e = 1 by omega) with rfl | rfl
      · exact Or.inl rfl
      · exact Or.inr rfl
    have key := m_worth_a l d h n K b th po ba en tt hm0 ha m hD.1 x (nI (cntH K x m)) m 0 (by omega)
    rw [show (nI (cntH K x m)) - nI (cN (wkB K x) 0) = nI (cntH K x m) from i_s0 _] at key
    have e1 : worthV K m x = nI (cntH K x m) - nI (cN (wkB K x) m) := by
      rw [worthV, if_pos c4]
      rcases hx2 with rfl | rfl
      · rw [wk_kp hD.1 (by omega)]
      · rw [wk_kp hD.1 (by omega)]
    rw [e1]
    exact key
  · refine V.ldcw dX6_worth_7 cn_X6_271 ?_
    exact V.iretP (by exact dX6_worth_10) rfl (by simp only [worthV, c4, not_true_eq_false, not_false_eq_true, if_true, if_false, decide_true, decide_false, Bool.and_true, Bool.and_false, Bool.true_and, Bool.false_and, Bool.or_true, Bool.or_false, Bool.true_or, Bool.false_or, Bool.not_true, Bool.not_false, and_true, and_false, true_and, false_and, or_true, or_false, true_or, false_or, bIt, bIf, Bool.false_eq_true, reduceCtorEq]) rfl
def gdB (k : Int32) : Bool := decide (k = nI 1 ∨ k = nI 5 ∨ k = nI 7)
/-- whom one goes after who guards -/
def gaV (K : KK) (m o : Nat) : Int32 := if (frB K o && (!hasF K (nI o) && gdB (role K m o 0))) = true then prey K m o else -4
def believedV (K : KK) (m : Nat) (x : Int32) : Int32 := if plB K x = true then (if decide (gP K x.toNatClampNeg 5 = nI 1) = true then -3 else nI (cN (fun o => decide (gaV K m o = x)) m)) else -1
theorem pyL_side (K : KK) (m p : Nat) (home : Int32) : ∀ q, pyL K m p home q = -4 ∨ ∃ j : Nat, j < q ∧ pyL K m p home q = nI j ∧ ¬ gP K j 0 = gP K p 0 := by
  intro q
  induction q with
  | zero => exact Or.inl rfl
  | succ q ih =>
    rw [pyL]
    split
    · rename_i hc
      simp only [pyC, Bool.and_eq_true] at hc
      exact Or.inr ⟨q, by omega, rfl, by simpa using hc.1.1⟩
    · rcases ih with h | ⟨j, h1, h2, h3⟩
      · exact Or.inl h
      · exact Or.inr ⟨j, by omega, h2, h3⟩
theorem prey_side {K : KK} {m o p : Nat} (hm : m ≤ 10) (hp : p < 10) (h : prey K m o = nI p) : ¬ gP K p 0 = gP K o 0 := by
  rcases pyL_side K m o (if role K m o 0 = nI 5 then gl (gP K o 0) else gP K o 3) m with y | ⟨j, h1, h2, h3⟩
  · rw [prey, y] at h
    exact absurd h (neg4_ne (by omega))
  · rw [prey, h2] at h
    rw [← (nI_eq (by omega) (by omega)).mp h]
    exact h3
def blB (K : KK) (m p o : Nat) : Bool := !decide (gP K o 0 = gP K p 0) && (frB K o && (gdB (role K m o 0) && (!hasF K (nI o) && decide (prey K m o = nI p))))
theorem bl_ga {K : KK} {m p : Nat} (hm : m ≤ 10) (hp : p < 10) (o : Nat) : blB K m p o = decide (gaV K m o = nI p) := by
  unfold blB gaV
  cases frB K o <;> cases hasF K (nI o) <;> cases gdB (role K m o 0) <;> simp [neg4_ne (show p < 2147483648 by omega)]
  intro h
  exact fun y => prey_side hm hp h y.symm
set_option maxRecDepth 20000 in
set_option maxHeartbeats 4000000 in
theorem s4_goesAfter (l : Launch) (d : Nat) (h : MH) (n w : Nat) (K : KK) (cl P : Nat → Int32) (pn : Nat) (hw : WoodAt h w K cl P pn) (p m : Nat) (hp : p < m) (hD : KD K m) (hPR : PR K P pn) : Sp l mX4_goesAfter (d + 4) [.ref w, .int (nI p)] h n 0 0 (Pv (gaV K m p) h n) := by
  have hm := hD.1.1
  have hm10 := hD.1.2.1
  obtain ⟨e, he, hs⟩ := hD.1.2.2.1 p hp
  obtain ⟨hw0, ⟨gr, hgr, egr⟩, ⟨ru, hru, eru⟩, ⟨pq, hpf, epf⟩, hpl, ⟨fl, hfl, efl⟩, ⟨ca, hca, eca⟩, ⟨wa, hwa⟩, hpp, hhd⟩ := id hw
  show V _ _ _ _ [some (.ref w), some (.int (nI p)), none, none] _ _ _ _ _ _
  refine V.aload_n dX4_goesAfter_0 rfl ?_
  refine V.getf dX4_goesAfter_1 fl_X4_20 hw0 rfl ?_
  refine V.iload_n dX4_goesAfter_4 rfl ?_
  refine V.aaldN dX4_goesAfter_5 (Or.inl rfl) hpf (by omega) (by decide) (epf _ (by omega)) ?_
  refine V.ast2 dX4_goesAfter_6 (by decide) rfl ?_
  refine V.aload_n dX4_goesAfter_7 rfl ?_
  refine V.aload_n dX4_goesAfter_8 rfl ?_
  refine V.callVv [_] dX4_goesAfter_9 lk_X4_159 rfl (Nat.le_of_ble_eq_true rfl) (Nat.le_of_ble_eq_true rfl) hw0 rfl (s4_kindOf _ _ _ _ _ _ _ _ _ hw _ (by omega) _ hm hm10 hPR.1) ?_
  rw [rol_role hPR hD.1 hp 0 (by omega)]
  refine V.ist3 dX4_goesAfter_12 (by decide) rfl ?_
  refine V.aload_n dX4_goesAfter_13 rfl ?_
  refine V.callVv [] dX4_goesAfter_14 lk_X4_135 rfl (Nat.le_of_ble_eq_true rfl) (Nat.le_of_ble_eq_true rfl) (hpp _ (by omega)) rfl (s0_isFree _ _ _ _ _ _ _ _ _ hw _ (by omega)) ?_
  refine V.if_eqB (tgt := 35) dX4_goesAfter_17 (by decide) (fun c17 => ?_) (fun c17 => ?_)
  · refine V.bipush (v := -4) dX4_goesAfter_35 (by decide) ?_
    exact V.iretP (by exact dX4_goesAfter_37) rfl (by first | (simp only [gaV, gdB, prey, has_car hD.2.1 hp he hs, c17, not_true_eq_false, not_false_eq_true, if_true, if_false, decide_true, decide_false, Bool.and_true, Bool.and_false, Bool.true_and, Bool.false_and, Bool.or_true, Bool.or_false, Bool.true_or, Bool.false_or, Bool.not_true, Bool.not_false, and_true, and_false, true_and, false_and, or_true, or_false, true_or, false_or, bIt, bIf, Bool.false_eq_true, reduceCtorEq]; done)) rfl
  · refine V.aload_n dX4_goesAfter_20 rfl ?_
    refine V.iload_n dX4_goesAfter_21 rfl ?_
    refine V.callVv [_] dX4_goesAfter_22 lk_X4_156 rfl (Nat.le_of_ble_eq_true rfl) (Nat.le_of_ble_eq_true rfl) hw0 rfl (s4_carries _ _ _ _ _ _ _ _ _ hw _ _ (by omega) he hs) ?_
    refine V.if_neB (tgt := 35) dX4_goesAfter_25 (by decide) (fun c25 => ?_) (fun c25 => ?_)
    · refine V.bipush (v := -4) dX4_goesAfter_35 (by decide) ?_
      exact V.iretP (by exact dX4_goesAfter_37) rfl (by first | (simp only [gaV, gdB, prey, has_car hD.2.1 hp he hs, c17, c25, not_true_eq_false, not_false_eq_true, if_true, if_false, decide_true, decide_false, Bool.and_true, Bool.and_false, Bool.true_and, Bool.false_and, Bool.or_true, Bool.or_false, Bool.true_or, Bool.false_or, Bool.not_true, Bool.not_false, and_true, and_false, true_and, false_and, or_true, or_false, true_or, false_or, bIt, bIf, Bool.false_eq_true, reduceCtorEq]; done)) rfl
    · refine V.iload_n dX4_goesAfter_28 rfl ?_
      refine V.callSv [_] dX4_goesAfter_29 lk_X4_162 rfl (Nat.le_of_ble_eq_true rfl) (Nat.le_of_ble_eq_true rfl) (s4_isGuard _ _ _ _ _) ?_
      refine V.if_neB (tgt := 38) dX4_goesAfter_32 (by decide) (fun c32 => ?_) (fun c32 => ?_)
      · refine V.aload_n dX4_goesAfter_38 rfl ?_
        refine V.aload_n dX4_goesAfter_39 rfl ?_
        refine V.iload_n dX4_goesAfter_40 rfl ?_
        refine V.callVv [_, _] dX4_goesAfter_41 lk_X4_165 rfl (Nat.le_of_ble_eq_true rfl) (Nat.le_of_ble_eq_true rfl) hw0 rfl (s4_quarryOf _ _ _ _ _ _ _ _ _ hw _ m hPR hD.1 hp (frB_z c17) _) ?_
        exact V.iretP (by exact dX4_goesAfter_44) rfl (by first | (simp only [gaV, gdB, prey, has_car hD.2.1 hp he hs, c17, c25, c32, not_true_eq_false, not_false_eq_true, if_true, if_false, decide_true, decide_false, Bool.and_true, Bool.and_false, Bool.true_and, Bool.false_and, Bool.or_true, Bool.or_false, Bool.true_or, Bool.false_or, Bool.not_true, Bool.not_false, and_true, and_false, true_and, false_and, or_true, or_false, true_or, false_or, bIt, bIf, Bool.false_eq_true, reduceCtorEq]; done)) rfl
      · refine V.bipush (v := -4) dX4_goesAfter_35 (by decide) ?_
        exact V.iretP (by exact dX4_goesAfter_37) rfl (by first | (simp only [gaV, gdB, prey, has_car hD.2.1 hp he hs, c17, c25, c32, not_true_eq_false, not_false_eq_true, if_true, if_false, decide_true, decide_false, Bool.and_true, Bool.and_false, Bool.true_and, Bool.false_and, Bool.or_true, Bool.or_false, Bool.true_or, Bool.false_or, Bool.not_true, Bool.not_false, and_true, and_false, true_and, false_and, or_true, or_false, true_or, false_or, bIt, bIf, Bool.false_eq_true, reduceCtorEq]; done)) rfl
set_option maxRecDepth 20000 in
set_option maxHeartbeats 4000000 in
theorem x_believed_a (l : Launch) (d : Nat) (h : MH) (n : Nat) (K : KK) (b : Bool) (KI : KK) (S : SS) (m : Nat) (hc : ClsAt h K b KI S) (hT : TI K m) (p : Nat) (hp : p < m) : ∀ (r i : Nat), i + r = m → V l mX5_believed (d + 5) 32 [some (.ref 0), some (.int (nI p)), some (.int (nI (cN (fun o => decide (gaV K m o = nI p)) i))), some (.int (nI i))] [] h n 0 0 (Pv (nI (cN (fun o => decide (gaV K m o = nI p)) m)) h n) := by
  intro r
  induction r with
  | zero =>
    intro i hi
    have hD := hT.1
    have hm := hD.1.1
    have hm10 := hD.1.2.1
    obtain ⟨ht0, ⟨sq, hsq, esq⟩, ⟨cl, P, pn, hw, hPR⟩, ⟨Km, clm, Pm, pm, hwm⟩, ⟨KJ, clJ, PJ, pJ, hwJ, hJ⟩, ⟨rb, rx, ry, hrd⟩, hsc, ⟨co, hco⟩, ⟨se, hse⟩, hsh⟩ := id hc
    obtain ⟨hw0, ⟨gr, hgr, egr⟩, ⟨ru, hru, eru⟩, ⟨pq, hpf, epf⟩, hpl, ⟨fl, hfl, efl⟩, ⟨ca, hca, eca⟩, ⟨wa, hwa⟩, hpp, hhd⟩ := id hw
    refine V.iload_n dX5_believed_32 rfl ?_
    refine V.aload_n dX5_believed_33 rfl ?_
    refine V.getf dX5_believed_34 fl_X5_18 ht0 rfl ?_
    refine V.getf dX5_believed_37 fl_X5_144 hw0 rfl ?_
    rw [hm]
    refine V.icmp_geN (tgt := 64) dX5_believed_40 (by decide) (by omega) (by omega) (fun _ => ?_) (fun q => absurd q (by omega))
    refine V.iload_n dX5_believed_64 rfl ?_
    exact V.iretP (by exact dX5_believed_65) rfl (by rw [show i = m by omega]) rfl
  | succ r ih =>
    intro i hi
    have hD := hT.1
    have hm := hD.1.1
    have hm10 := hD.1.2.1
    obtain ⟨ht0, ⟨sq, hsq, esq⟩, ⟨cl, P, pn, hw, hPR⟩, ⟨Km, clm, Pm, pm, hwm⟩, ⟨KJ, clJ, PJ, pJ, hwJ, hJ⟩, ⟨rb, rx, ry, hrd⟩, hsc, ⟨co, hco⟩, ⟨se, hse⟩, hsh⟩ := id hc
    obtain ⟨hw0, ⟨gr, hgr, egr⟩, ⟨ru, hru, eru⟩, ⟨pq, hpf, epf⟩, hpl, ⟨fl, hfl, efl⟩, ⟨ca, hca, eca⟩, ⟨wa, hwa⟩, hpp, hhd⟩ := id hw
    refine V.iload_n dX5_believed_32 rfl ?_
    refine V.aload_n dX5_believed_33 rfl ?_
    refine V.getf dX5_believed_34 fl_X5_18 ht0 rfl ?_
    refine V.getf dX5_believed_37 fl_X5_144 hw0 rfl ?_
    rw [hm]
    refine V.icmp_geN (tgt := 64) dX5_believed_40 (by decide) (by omega) (by omega) (fun q => absurd q (by omega)) (fun _ => ?_)
    refine V.aload_n dX5_believed_43 rfl ?_
    refine V.getf dX5_believed_44 fl_X5_18 ht0 rfl ?_
    refine V.iload_n dX5_believed_47 rfl ?_
    refine V.callVv [_] dX5_believed_48 lk_X5_246 rfl (Nat.le_of_ble_eq_true rfl) (Nat.le_of_ble_eq_true rfl) hw0 rfl (s4_goesAfter _ _ _ _ _ _ _ _ _ hw _ m (by omega) hD hPR) ?_
    refine V.iload_n dX5_believed_51 rfl ?_
    refine V.icmp_ne (tgt := 58) dX5_believed_52 (by decide) (fun c52 => ?_) (fun c52 => ?_)
    · refine V.inN3 dX5_believed_58 (by decide) rfl ?_
      refine V.goto (tgt := 32) dX5_believed_61 (by decide) ?_
      exact V.ls (by (try simp only [← Int32.not_le, Classical.not_not, decide_eq_true_eq, decide_eq_false_iff_not] at c52); simp only [cN, not_true_eq_false, ← Int32.not_le, c52, List.set_cons_succ, List.set_cons_zero, not_true_eq_false, not_false_eq_true, if_true, if_false, decide_true, decide_false, Bool.and_true, Bool.and_false, Bool.true_and, Bool.false_and, Bool.or_true, Bool.or_false, Bool.true_or, Bool.false_or, Bool.not_true, Bool.not_false, and_true, and_false, true_and, false_and, or_true, or_false, true_or, false_or, bIt, bIf, Bool.false_eq_true, reduceCtorEq, Nat.add_zero, Int32.add_zero, nI_add] <;> rfl) (ih (i + 1) (by omega))
    · refine V.inN2 dX5_believed_55 (by decide) rfl ?_
      refine V.inN3 dX5_believed_58 (by decide) rfl ?_
      refine V.goto (tgt := 32) dX5_believed_61 (by decide) ?_
      exact V.ls (by (try simp only [← Int32.not_le, Classical.not_not, decide_eq_true_eq, decide_eq_false_iff_not] at c52); simp only [cN, not_true_eq_false, ← Int32.not_le, eq_true c52, List.set_cons_succ, List.set_cons_zero, not_true_eq_false, not_false_eq_true, if_true, if_false, decide_true, decide_false, Bool.and_true, Bool.and_false, Bool.true_and, Bool.false_and, Bool.or_true, Bool.or_false, Bool.true_or, Bool.false_or, Bool.not_true, Bool.not_false, and_true, and_false, true_and, false_and, or_true, or_false, true_or, false_or, bIt, bIf, Bool.false_eq_true, reduceCtorEq, Nat.add_zero, Int32.add_zero, nI_add] <;> rfl) (ih (i + 1) (by omega))
set_option maxRecDepth 20000 in
set_option maxHeartbeats 4000000 in
theorem x_believed (l : Launch) (d : Nat) (h : MH) (n : Nat) (K : KK) (b : Bool) (KI : KK) (S : SS) (m : Nat) (hc : ClsAt h K b KI S) (hT : TI K m) (x : Int32) : Sp l mX5_believed (d + 5) [.ref 0, .int x] h n 0 0 (Pv (believedV K m x) h n) := by
  have hD := hT.1
  have hm := hD.1.1
  have hm10 := hD.1.2.1
  obtain ⟨ht0, ⟨sq, hsq, esq⟩, ⟨cl, P, pn, hw, hPR⟩, ⟨Km, clm, Pm, pm, hwm⟩, ⟨KJ, clJ, PJ, pJ, hwJ, hJ⟩, ⟨rb, rx, ry, hrd⟩, hsc, ⟨co, hco⟩, ⟨se, hse⟩, hsh⟩ := id hc
  obtain ⟨hw0, ⟨gr, hgr, egr⟩, ⟨ru, hru, eru⟩, ⟨pq, hpf, epf⟩, hpl, ⟨fl, hfl, efl⟩, ⟨ca, hca, eca⟩, ⟨wa, hwa⟩, hpp, hhd⟩ := id hw
  show V _ _ _ _ [some (.ref 0), some (.int x), none, none] _ _ _ _ _ _
  refine V.aload_n dX5_believed_0 rfl ?_
  refine V.iload_n dX5_believed_1 rfl ?_
  refine V.callVv [_] dX5_believed_2 lk_X5_78 rfl (Nat.le_of_ble_eq_true rfl) (Nat.le_of_ble_eq_true rfl) ht0 rfl (x_isPlayer _ _ _ _ _ _ _ _ _ hc hT _) ?_
  refine V.if_neB (tgt := 10) dX5_believed_5 (by decide) (fun c5 => ?_) (fun c5 => ?_)
  · obtain ⟨p, hp, rfl⟩ := pl_ex hm hm10 c5
    refine V.aload_n dX5_believed_10 rfl ?_
    refine V.getf dX5_believed_11 fl_X5_18 ht0 rfl ?_
    refine V.getf dX5_believed_14 fl_X5_81 hw0 rfl ?_
    refine V.iload_n dX5_believed_17 rfl ?_
    refine V.aaldN dX5_believed_18 (Or.inl rfl) hpf (by omega) (by decide) (epf _ (by omega)) ?_
    refine V.getf dX5_believed_19 fl_X5_103 (hpp _ (by omega)) rfl ?_
    refine V.if_eqB (tgt := 28) dX5_believed_22 (by decide) (fun c22 => ?_) (fun c22 => ?_)
    · refine V.iconst (v := nI 0) dX5_believed_28 (by decide) ?_
      refine V.ist2 dX5_believed_29 (by decide) rfl ?_
      refine V.iconst (v := nI 0) dX5_believed_30 (by decide) ?_
      refine V.ist3 dX5_believed_31 (by decide) rfl ?_
      have e1 : believedV K m (nI p) = nI (cN (fun o => decide (gaV K m o = nI p)) m) := by
        rw [believedV, if_pos c5, clampI (show p < 2147483648 by omega), if_neg (by rw [c22]; decide)]
      rw [e1]
      exact x_believed_a l d h n K b KI S m hc hT p hp m 0 (by omega)
    · refine V.bipush (v := -3) dX5_believed_25 (by decide) ?_
      exact V.iretP (by exact dX5_believed_27) rfl (by first | (simp only [believedV, clampI (show p < 2147483648 by omega), c5, c22, not_true_eq_false, not_false_eq_true, if_true, if_false, decide_true, decide_false, Bool.and_true, Bool.and_false, Bool.true_and, Bool.false_and, Bool.or_true, Bool.or_false, Bool.true_or, Bool.false_or, Bool.not_true, Bool.not_false, and_true, and_false, true_and, false_and, or_true, or_false, true_or, false_or, bIt, bIf, Bool.false_eq_true, reduceCtorEq]; done) | (simp only [believedV, c5, c22, not_true_eq_false, not_false_eq_true, if_true, if_false, decide_true, decide_false, Bool.and_true, Bool.and_false, Bool.true_and, Bool.false_and, Bool.or_true, Bool.or_false, Bool.true_or, Bool.false_or, Bool.not_true, Bool.not_false, and_true, and_false, true_and, false_and, or_true, or_false, true_or, false_or, bIt, bIf, Bool.false_eq_true, reduceCtorEq]; done)) rfl
  · refine V.iconst (v := -1) dX5_believed_8 (by decide) ?_
    exact V.iretP (by exact dX5_believed_9) rfl (by first | (simp only [believedV, clampI (show p < 2147483648 by omega), c5, not_true_eq_false, not_false_eq_true, if_true, if_false, decide_true, decide_false, Bool.and_true, Bool.and_false, Bool.true_and, Bool.false_and, Bool.or_true, Bool.or_false, Bool.true_or, Bool.false_or, Bool.not_true, Bool.not_false, and_true, and_false, true_and, false_and, or_true, or_false, true_or, false_or, bIt, bIf, Bool.false_eq_true, reduceCtorEq]; done) | (simp only [believedV, c5, not_true_eq_false, not_false_eq_true, if_true, if_false, decide_true, decide_false, Bool.and_true, Bool.and_false, Bool.true_and, Bool.false_and, Bool.or_true, Bool.or_false, Bool.true_or, Bool.false_or, Bool.not_true, Bool.not_false, and_true, and_false, true_and, false_and, or_true, or_false, true_or, false_or, bIt, bIf, Bool.false_eq_true, reduceCtorEq]; done)) rfl
set_option maxRecDepth 20000 in
set_option maxHeartbeats 4000000 in
theorem m_believed_c (l : Launch) (d : Nat) (h : MH) (n : Nat) (K : KK) (b : Bool) (th po ba en tt : Int32) (hm0 : h 78 = some (.inr (6, moF b th po ba en tt))) (ha : h 79 = some (kc K)) (m : Nat) (hK : KR K m) (p i c : Nat) (hp : p < m) (hi : i < m) (x4 : Option Value) {Q : Option Value → MH → Nat → Prop} (kk : V l mX6_believed (d + 4) 28 [some (.ref 78), some (.int (nI p)), some (.int (nI (c + (if blB K m p i = true then 1 else 0)))), some (.int (nI (i + 1))), none, none] [] h n 0 0 Q) : V l mX6_believed (d + 4) 76 [some (.ref 78), some (.int (nI p)), some (.int (nI c)), some (.int (nI i)), none, some (.int (bI (gdB (role K m i 0))))] [] h n 0 0 Q := by
  have hm := hK.1
  have hm10 := hK.2.1
  obtain ⟨e, he, hs⟩ := hK.2.2.1 i hi
  obtain ⟨q0, hq2, hq0⟩ := hK.2.2.2.1 e he
  refine V.iload_n dX6_believed_76 rfl ?_
  refine V.aload_n dX6_believed_77 rfl ?_
  refine V.getf dX6_believed_78 fl_X6_9 hm0 rfl ?_
  refine V.iload_n dX6_believed_81 rfl ?_
  refine V.iconst (v := nI 0) dX6_believed_82 (by decide) ?_
  refine V.callSv [_, _, _] dX6_believed_83 lk_X6_82 rfl (Nat.le_of_ble_eq_true rfl) (Nat.le_of_ble_eq_true rfl) (s6_get _ _ _ _ _ _ ha _ _ (by omega) (by omega)) ?_
  refine V.aload_n dX6_believed_86 rfl ?_
  refine V.getf dX6_believed_87 fl_X6_9 hm0 rfl ?_
  refine V.iload_n dX6_believed_90 rfl ?_
  refine V.iconst (v := nI 0) dX6_believed_91 (by decide) ?_
  refine V.callSv [_, _, _] dX6_believed_92 lk_X6_82 rfl (Nat.le_of_ble_eq_true rfl) (Nat.le_of_ble_eq_true rfl) (s6_get _ _ _ _ _ _ ha _ _ (by omega) (by omega)) ?_
  refine V.icmp_eq (tgt := 141) dX6_believed_95 (by decide) (fun c95 => ?_) (fun c95 => ?_)
  · refine V.iconst (v := nI 0) dX6_believed_141 (by decide) ?_
    refine V.iaddN dX6_believed_142 ?_
    refine V.ist2 dX6_believed_143 (by decide) rfl ?_
    refine V.inN3 dX6_believed_144 (by decide) rfl ?_
    refine V.goto (tgt := 28) dX6_believed_147 (by decide) ?_
    exact V.drop 4 (V.drop 5 (V.ls (by simp only [blB, eq_true c95, List.set_cons_succ, List.set_cons_zero, not_true_eq_false, not_false_eq_true, if_true, if_false, decide_true, decide_false, Bool.and_true, Bool.and_false, Bool.true_and, Bool.false_and, Bool.or_true, Bool.or_false, Bool.true_or, Bool.false_or, Bool.not_true, Bool.not_false, and_true, and_false, true_and, false_and, or_true, or_false, true_or, false_or, bIt, bIf, Bool.false_eq_true, reduceCtorEq, Nat.add_zero] <;> rfl) kk))
  · refine V.aload_n dX6_believed_98 rfl ?_
    refine V.getf dX6_believed_99 fl_X6_9 hm0 rfl ?_
    refine V.iload_n dX6_believed_102 rfl ?_
    refine V.callSv [_, _] dX6_believed_103 lk_X6_181 rfl (Nat.le_of_ble_eq_true rfl) (Nat.le_of_ble_eq_true rfl) (s6_isFree _ _ _ _ _ _ ha _ (by omega)) ?_
    refine V.if_eqB (tgt := 141) dX6_believed_106 (by decide) (fun c106 => ?_) (fun c106 => ?_)
    · refine V.iconst (v := nI 0) dX6_believed_141 (by decide) ?_
      refine V.iaddN dX6_believed_142 ?_
      refine V.ist2 dX6_believed_143 (by decide) rfl ?_
      refine V.inN3 dX6_believed_144 (by decide) rfl ?_
      refine V.goto (tgt := 28) dX6_believed_147 (by decide) ?_
      exact V.drop 4 (V.drop 5 (V.ls (by simp only [blB, c95, c106, List.set_cons_succ, List.set_cons_zero, not_true_eq_false, not_false_eq_true, if_true, if_false, decide_true, decide_false, Bool.and_true, Bool.and_false, Bool.true_and, Bool.false_and, Bool.or_true, Bool.or_false, Bool.true_or, Bool.false_or, Bool.not_true, Bool.not_false, and_true, and_false, true_and, false_and, or_true, or_false, true_or, false_or, bIt, bIf, Bool.false_eq_true, reduceCtorEq, Nat.add_zero] <;> rfl) kk))
    · refine V.iload dX6_believed_109 rfl ?_
      refine V.if_eqB (tgt := 141) dX6_believed_111 (by decide) (fun c111 => ?_) (fun c111 => ?_)
      · refine V.iconst (v := nI 0) dX6_believed_141 (by decide) ?_
        refine V.iaddN dX6_believed_142 ?_
        refine V.ist2 dX6_believed_143 (by decide) rfl ?_
        refine V.inN3 dX6_believed_144 (by decide) rfl ?_
        refine V.goto (tgt := 28) dX6_believed_147 (by decide) ?_
        exact V.drop 4 (V.drop 5 (V.ls (by simp only [blB, c95, c106, c111, List.set_cons_succ, List.set_cons_zero, not_true_eq_false, not_false_eq_true, if_true, if_false, decide_true, decide_false, Bool.and_true, Bool.and_false, Bool.true_and, Bool.false_and, Bool.or_true, Bool.or_false, Bool.true_or, Bool.false_or, Bool.not_true, Bool.not_false, and_true, and_false, true_and, false_and, or_true, or_false, true_or, false_or, bIt, bIf, Bool.false_eq_true, reduceCtorEq, Nat.add_zero] <;> rfl) kk))
      · refine V.aload_n dX6_believed_114 rfl ?_
        refine V.getf dX6_believed_115 fl_X6_9 hm0 rfl ?_
        refine V.iload_n dX6_believed_118 rfl ?_
        refine V.callSv [_, _] dX6_believed_119 lk_X6_191 rfl (Nat.le_of_ble_eq_true rfl) (Nat.le_of_ble_eq_true rfl) (s6_hasFlag _ _ _ _ _ _ ha _) ?_
        refine V.if_neB (tgt := 141) dX6_believed_122 (by decide) (fun c122 => ?_) (fun c122 => ?_)
        · refine V.iconst (v := nI 0) dX6_believed_141 (by decide) ?_
          refine V.iaddN dX6_believed_142 ?_
          refine V.ist2 dX6_believed_143 (by decide) rfl ?_
          refine V.inN3 dX6_believed_144 (by decide) rfl ?_
          refine V.goto (tgt := 28) dX6_believed_147 (by decide) ?_
          exact V.drop 4 (V.drop 5 (V.ls (by simp only [blB, c95, c106, c111, c122, List.set_cons_succ, List.set_cons_zero, not_true_eq_false, not_false_eq_true, if_true, if_false, decide_true, decide_false, Bool.and_true, Bool.and_false, Bool.true_and, Bool.false_and, Bool.or_true, Bool.or_false, Bool.true_or, Bool.false_or, Bool.not_true, Bool.not_false, and_true, and_false, true_and, false_and, or_true, or_false, true_or, false_or, bIt, bIf, Bool.false_eq_true, reduceCtorEq, Nat.add_zero] <;> rfl) kk))
        · refine V.aload_n dX6_believed_125 rfl ?_
          refine V.getf dX6_believed_126 fl_X6_9 hm0 rfl ?_
          refine V.iload_n dX6_believed_129 rfl ?_
          refine V.callSv [_, _] dX6_believed_130 lk_X6_194 rfl (Nat.le_of_ble_eq_true rfl) (Nat.le_of_ble_eq_true rfl) (s6_preyOf _ _ _ _ _ _ ha _ (by omega) _ hm hm10 _ _ he hs hq2 hq0 hK.2.2.2.2.1) ?_
          refine V.iload_n dX6_believed_133 rfl ?_
          refine V.icmp_ne (tgt := 141) dX6_believed_134 (by decide) (fun c134 => ?_) (fun c134 => ?_)
          · refine V.iconst (v := nI 0) dX6_believed_141 (by decide) ?_
            refine V.iaddN dX6_believed_142 ?_
            refine V.ist2 dX6_believed_143 (by decide) rfl ?_
            refine V.inN3 dX6_believed_144 (by decide) rfl ?_
            refine V.goto (tgt := 28) dX6_believed_147 (by decide) ?_
            exact V.drop 4 (V.drop 5 (V.ls (by simp only [blB, c95, c106, c111, c122, c134, List.set_cons_succ, List.set_cons_zero, not_true_eq_false, not_false_eq_true, if_true, if_false, decide_true, decide_false, Bool.and_true, Bool.and_false, Bool.true_and, Bool.false_and, Bool.or_true, Bool.or_false, Bool.true_or, Bool.false_or, Bool.not_true, Bool.not_false, and_true, and_false, true_and, false_and, or_true, or_false, true_or, false_or, bIt, bIf, Bool.false_eq_true, reduceCtorEq, Nat.add_zero] <;> rfl) kk))
          · refine V.iconst (v := nI 1) dX6_believed_137 (by decide) ?_
            refine V.goto (tgt := 142) dX6_believed_138 (by decide) ?_
            refine V.iaddN dX6_believed_142 ?_
            refine V.ist2 dX6_believed_143 (by decide) rfl ?_
            refine V.inN3 dX6_believed_144 (by decide) rfl ?_
            refine V.goto (tgt := 28) dX6_believed_147 (by decide) ?_
            exact V.drop 4 (V.drop 5 (V.ls (by simp only [blB, c95, c106, c111, c122, eq_true c134, List.set_cons_succ, List.set_cons_zero, not_true_eq_false, not_false_eq_true, if_true, if_false, decide_true, decide_false, Bool.and_true, Bool.and_false, Bool.true_and, Bool.false_and, Bool.or_true, Bool.or_false, Bool.true_or, Bool.false_or, Bool.not_true, Bool.not_false, and_true, and_false, true_and, false_and, or_true, or_false, true_or, false_or, bIt, bIf, Bool.false_eq_true, reduceCtorEq, Nat.add_zero] <;> rfl) kk))
set_option maxRecDepth 20000 in
set_option maxHeartbeats 4000000 in
theorem m_believed_a (l : Launch) (d : Nat) (h : MH) (n : Nat) (K : KK) (b : Bool) (th po ba en tt : Int32) (hm0 : h 78 = some (.inr (6, moF b th po ba en tt))) (ha : h 79 = some (kc K)) (m : Nat) (hK : KR K m) (p : Nat) (hp : p < m) : ∀ (r i : Nat), i + r = m → V l mX6_believed (d + 4) 28 [some (.ref 78), some (.int (nI p)), some (.int (nI (cN (blB K m p) i))), some (.int (nI i)), none, none] [] h n 0 0 (Pv (nI (cN (blB K m p) m)) h n) := by
  intro r
  induction r with
  | zero =>
    intro i hi
    have hm := hK.1
    have hm10 := hK.2.1
    refine V.iload_n dX6_believed_28 rfl ?_
    refine V.aload_n dX6_believed_29 rfl ?_
    refine V.getf dX6_believed_30 fl_X6_9 hm0 rfl ?_
    refine V.bipush (v := nI 90) dX6_believed_33 (by decide) ?_
    refine V.ialdN dX6_believed_35 ha (by omega) (by decide) ?_
    rw [hm]
    refine V.icmp_geN (tgt := 150) dX6_believed_36 (by decide) (by omega) (by omega) (fun _ => ?_) (fun q => absurd q (by omega))
    refine V.iload_n dX6_believed_150 rfl ?_
    exact V.iretP (by exact dX6_believed_151) rfl (by rw [show i = m by omega]) rfl
  | succ r ih =>
    intro i hi
    have hm := hK.1
    have hm10 := hK.2.1
    refine V.iload_n dX6_believed_28 rfl ?_
    refine V.aload_n dX6_believed_29 rfl ?_
    refine V.getf dX6_believed_30 fl_X6_9 hm0 rfl ?_
    refine V.bipush (v := nI 90) dX6_believed_33 (by decide) ?_
    refine V.ialdN dX6_believed_35 ha (by omega) (by decide) ?_
    rw [hm]
    refine V.icmp_geN (tgt := 150) dX6_believed_36 (by decide) (by omega) (by omega) (fun q => absurd q (by omega)) (fun _ => ?_)
    obtain ⟨e, he, hs⟩ := hK.2.2.1 i (by omega)
    obtain ⟨q0, hq2, hq0⟩ := hK.2.2.2.1 e he
    refine V.aload_n dX6_believed_39 rfl ?_
    refine V.getf dX6_believed_40 fl_X6_9 hm0 rfl ?_
    refine V.iload_n dX6_believed_43 rfl ?_
    refine V.iconst (v := nI 0) dX6_believed_44 (by decide) ?_
    refine V.callSv [_, _, _] dX6_believed_45 lk_X6_178 rfl (Nat.le_of_ble_eq_true rfl) (Nat.le_of_ble_eq_true rfl) (s6_roleOf _ _ _ _ _ _ ha _ _ (by omega) (by omega) _ hm hm10 _ _ he hs hq2 hq0) ?_
    refine V.ist4 dX6_believed_48 (by decide) rfl ?_
    refine V.iload dX6_believed_50 rfl ?_
    refine V.iconst (v := nI 1) dX6_believed_52 (by decide) ?_
    refine V.icmp_eq (tgt := 69) dX6_believed_53 (by decide) (fun c53 => ?_) (fun c53 => ?_)
    · refine V.iconst (v := nI 1) dX6_believed_69 (by decide) ?_
      refine V.goto (tgt := 74) dX6_believed_70 (by decide) ?_
      refine V.ist5 dX6_believed_74 (by decide) rfl ?_
      refine V.drop 4 ?_
      first
      | exact V.ls (by simp only [gdB, eq_true c53, List.set_cons_succ, List.set_cons_zero, not_true_eq_false, not_false_eq_true, if_true, if_false, decide_true, decide_false, Bool.and_true, Bool.and_false, Bool.true_and, Bool.false_and, Bool.or_true, Bool.or_false, Bool.true_or, Bool.false_or, Bool.not_true, Bool.not_false, and_true, and_false, true_and, false_and, or_true, or_false, true_or, false_or, bIt, bIf, Bool.false_eq_true, reduceCtorEq] <;> rfl) (m_believed_c l d h n K b th po ba en tt hm0 ha m hK p i (cN (blB K m p) i) hp (by omega) none (ih (i + 1) (by omega)))
    · refine V.iload dX6_believed_56 rfl ?_
      refine V.iconst (v := nI 5) dX6_believed_58 (by decide) ?_
      refine V.icmp_eq (tgt := 69) dX6_believed_59 (by decide) (fun c59 => ?_) (fun c59 => ?_)
      · refine V.iconst (v := nI 1) dX6_believed_69 (by decide) ?_
        refine V.goto (tgt := 74) dX6_believed_70 (by decide) ?_
        refine V.ist5 dX6_believed_74 (by decide) rfl ?_
        refine V.drop 4 ?_
        first
        | exact V.ls (by simp only [gdB, c53, eq_true c59, List.set_cons_succ, List.set_cons_zero, not_true_eq_false, not_false_eq_true, if_true, if_false, decide_true, decide_false, Bool.and_true, Bool.and_false, Bool.true_and, Bool.false_and, Bool.or_true, Bool.or_false, Bool.true_or, Bool.false_or, Bool.not_true, Bool.not_false, and_true, and_false, true_and, false_and, or_true, or_false, true_or, false_or, bIt, bIf, Bool.false_eq_true, reduceCtorEq] <;> rfl) (m_believed_c l d h n K b th po ba en tt hm0 ha m hK p i (cN (blB K m p) i) hp (by omega) none (ih (i + 1) (by omega)))
      · refine V.iload dX6_believed_62 rfl ?_
        refine V.bipush (v := nI 7) dX6_believed_64 (by decide) ?_
        refine V.icmp_ne (tgt := 73) dX6_believed_66 (by decide) (fun c66 => ?_) (fun c66 => ?_)
        · refine V.iconst (v := nI 0) dX6_believed_73 (by decide) ?_
          refine V.ist5 dX6_believed_74 (by decide) rfl ?_
          refine V.drop 4 ?_
          first
          | exact V.ls (by simp only [gdB, c53, c59, c66, List.set_cons_succ, List.set_cons_zero, not_true_eq_false, not_false_eq_true, if_true, if_false, decide_true, decide_false, Bool.and_true, Bool.and_false, Bool.true_and, Bool.false_and, Bool.or_true, Bool.or_false, Bool.true_or, Bool.false_or, Bool.not_true, Bool.not_false, and_true, and_false, true_and, false_and, or_true, or_false, true_or, false_or, bIt, bIf, Bool.false_eq_true, reduceCtorEq] <;> rfl) (m_believed_c l d h n K b th po ba en tt hm0 ha m hK p i (cN (blB K m p) i) hp (by omega) none (ih (i + 1) (by omega)))
        · refine V.iconst (v := nI 1) dX6_believed_69 (by decide) ?_
          refine V.goto (tgt := 74) dX6_believed_70 (by decide) ?_
          refine V.ist5 dX6_believed_74 (by decide) rfl ?_
          refine V.drop 4 ?_
          first
          | exact V.ls (by simp only [gdB, c53, c59, eq_true c66, List.set_cons_succ, List.set_cons_zero, not_true_eq_false, not_false_eq_true, if_true, if_false, decide_true, decide_false, Bool.and_true, Bool.and_false, Bool.true_and, Bool.false_and, Bool.or_true, Bool.or_false, Bool.true_or, Bool.false_or, Bool.not_true, Bool.not_false, and_true, and_false, true_and, false_and, or_true, or_false, true_or, false_or, bIt, bIf, Bool.false_eq_true, reduceCtorEq] <;> rfl) (m_believed_c l d h n K b th po ba en tt hm0 ha m hK p i (cN (blB K m p) i) hp (by omega) none (ih (i + 1) (by omega)))
set_option maxRecDepth 20000 in
set_option maxHeartbeats 4000000 in
theorem m_believed (l : Launch) (d : Nat) (h : MH) (n : Nat) (K : KK) (b : Bool) (KI : KK) (S : SS) (m : Nat) (hc : ModAt h K b KI S) (hT : TI K m) (hh : ∀ p, p < 10 → gP K p 5 = nI 0 ∨ gP K p 5 = nI 1) (x : Int32) : Sp l mX6_believed (d + 4) [.ref 78, .int x] h n 0 0 (Pv (believedV K m x) h n) := by
  have hD := hT.1
  have hm := hD.1.1
  have hm10 := hD.1.2.1
  obtain ⟨⟨th, po, ba, en, tt, hm0⟩, ha, hb, ⟨Km, hmi⟩, ⟨Kr, hre⟩, h83, h84, h85, h86, h87, h88, ⟨X89, h89⟩, ⟨X90, h90⟩, ⟨X91, h91⟩, ⟨X92, h92⟩⟩ := id hc
  show V _ _ _ _ [some (.ref 78), some (.int x), none, none, none, none] _ _ _ _ _ _
  refine V.aload_n dX6_believed_0 rfl ?_
  refine V.iload_n dX6_believed_1 rfl ?_
  refine V.callVv [_] dX6_believed_2 lk_X6_214 rfl (Nat.le_of_ble_eq_true rfl) (Nat.le_of_ble_eq_true rfl) hm0 rfl (m_isPlayer _ _ _ _ _ _ _ _ _ hc hT _) ?_
  refine V.if_neB (tgt := 10) dX6_believed_5 (by decide) (fun c5 => ?_) (fun c5 => ?_)
  · obtain ⟨p, hp, rfl⟩ := pl_ex hm hm10 c5
    have hhp := hh p (by omega)
    refine V.aload_n dX6_believed_10 rfl ?_
    refine V.getf dX6_believed_11 fl_X6_9 hm0 rfl ?_
    refine V.iload_n dX6_believed_14 rfl ?_
    refine V.callSv [_, _] dX6_believed_15 lk_X6_181 rfl (Nat.le_of_ble_eq_true rfl) (Nat.le_of_ble_eq_true rfl) (s6_isFree _ _ _ _ _ _ ha _ (by omega)) ?_
    refine V.if_neB (tgt := 24) dX6_believed_18 (by decide) (fun c18 => ?_) (fun c18 => ?_)
    · refine V.iconst (v := nI 0) dX6_believed_24 (by decide) ?_
      refine V.ist2 dX6_believed_25 (by decide) rfl ?_
      refine V.iconst (v := nI 0) dX6_believed_26 (by decide) ?_
      refine V.ist3 dX6_believed_27 (by decide) rfl ?_
      have e1 : believedV K m (nI p) = nI (cN (blB K m p) m) := by
        rw [believedV, if_pos c5, clampI (show p < 2147483648 by omega), m_has hhp, if_neg (by rw [c18]; decide), cN_congr (fun o _ => bl_ga hm10 (by omega) o)]
      rw [e1]
      exact m_believed_a l d h n K b th po ba en tt hm0 ha m hD.1 p hp m 0 (by omega)
    · refine V.bipush (v := -3) dX6_believed_21 (by decide) ?_
      exact V.iretP (by exact dX6_believed_23) rfl (by first | (simp only [believedV, clampI (show p < 2147483648 by omega), m_has hhp, c5, c18, not_true_eq_false, not_false_eq_true, if_true, if_false, decide_true, decide_false, Bool.and_true, Bool.and_false, Bool.true_and, Bool.false_and, Bool.or_true, Bool.or_false, Bool.true_or, Bool.false_or, Bool.not_true, Bool.not_false, and_true, and_false, true_and, false_and, or_true, or_false, true_or, false_or, bIt, bIf, Bool.false_eq_true, reduceCtorEq]; done) | (simp only [believedV, c5, c18, not_true_eq_false, not_false_eq_true, if_true, if_false, decide_true, decide_false, Bool.and_true, Bool.and_false, Bool.true_and, Bool.false_and, Bool.or_true, Bool.or_false, Bool.true_or, Bool.false_or, Bool.not_true, Bool.not_false, and_true, and_false, true_and, false_and, or_true, or_false, true_or, false_or, bIt, bIf, Bool.false_eq_true, reduceCtorEq]; done)) rfl
  · refine V.iconst (v := -1) dX6_believed_8 (by decide) ?_
    exact V.iretP (by exact dX6_believed_9) rfl (by first | (simp only [believedV, clampI (show p < 2147483648 by omega), m_has hhp, c5, not_true_eq_false, not_false_eq_true, if_true, if_false, decide_true, decide_false, Bool.and_true, Bool.and_false, Bool.true_and, Bool.false_and, Bool.or_true, Bool.or_false, Bool.true_or, Bool.false_or, Bool.not_true, Bool.not_false, and_true, and_false, true_and, false_and, or_true, or_false, true_or, false_or, bIt, bIf, Bool.false_eq_true, reduceCtorEq]; done) | (simp only [believedV, c5, not_true_eq_false, not_false_eq_true, if_true, if_false, decide_true, decide_false, Bool.and_true, Bool.and_false, Bool.true_and, Bool.false_and, Bool.or_true, Bool.or_false, Bool.true_or, Bool.false_or, Bool.not_true, Bool.not_false, and_true, and_false, true_and, false_and, or_true, or_false, true_or, false_or, bIt, bIf, Bool.false_eq_true, reduceCtorEq]; done)) rfl
