/-- what wayIn answers -/
def WSp (K : KK) (m : Nat) (s : Int32) (c0 c1 : Nat) (w v : Int32) : Prop := (∃ p, LO K m s c0 c1 p ∧ v = if w = 0 then nI p.1 else nI p.2) ∨ (v = -4 ∧ ¬ ∃ p, LO K m s c0 c1 p)
theorem WSp_ex (K : KK) (m : Nat) (s : Int32) (c0 c1 : Nat) (w : Int32) : ∃ v, WSp K m s c0 c1 w v := by
  rcases Classical.em (∃ p, LO K m s c0 c1 p) with ⟨p, hp⟩ | h
  · exact ⟨_, Or.inl ⟨p, hp, rfl⟩⟩
  · exact ⟨-4, Or.inr ⟨rfl, h⟩⟩
theorem WSp_uniq {K : KK} {m : Nat} {s : Int32} {c0 c1 : Nat} {w v u : Int32} (h1 : WSp K m s c0 c1 w v) (h2 : WSp K m s c0 c1 w u) : v = u := by
  rcases h1 with ⟨p, hp, rfl⟩ | ⟨rfl, h1⟩
  · rcases h2 with ⟨q, hq, rfl⟩ | ⟨rfl, h2⟩
    · rw [LO_uniq hp hq]
    · exact absurd ⟨p, hp⟩ h2
  · rcases h2 with ⟨q, hq, rfl⟩ | ⟨rfl, h2⟩
    · exact absurd ⟨q, hq⟩ h1
    · rfl
noncomputable def wayW (K : KK) (m : Nat) (s : Int32) (c0 c1 : Nat) (w : Int32) : Int32 := Classical.choose (WSp_ex K m s c0 c1 w)
theorem wayW_eq {K : KK} {m : Nat} {s : Int32} {c0 c1 : Nat} {w v : Int32} (h : WSp K m s c0 c1 w v) : v = wayW K m s c0 c1 w := WSp_uniq h (Classical.choose_spec (WSp_ex K m s c0 c1 w))
noncomputable def wayV (K : KK) (m : Nat) (x y s w : Int32) : Int32 := if (wi x (nI 0) (nI 83) && (wi y (nI 0) (nI 83) && (wi s (nI 0) (nI 1) && wi w (nI 0) (nI 1)))) = true then wayW K m s x.toNatClampNeg y.toNatClampNeg w else -1
/-- how the scout's look ends -/
def Wy (K : KK) (m : Nat) (s : Int32) (c0 c1 : Nat) (h : MH) (n : Nat) : Option Value → MH → Nat → Prop := fun v h1 n1 => n1 = n ∧ (∃ A Z, h1 = PP h A Z) ∧ ((v = some (.int (-4)) ∧ ∀ t u, ¬ Wk K m s c0 t c1 u) ∨ ∃ t u, v = some (.int (nI (1000 * u + t))) ∧ Wk K m s c0 t c1 u ∧ 1000 * u + t ≤ 1000000 ∧ ∀ t1 u1, Wk K m s c0 t1 c1 u1 → 1000 * u + t ≤ 1000 * u1 + t1)
set_option maxRecDepth 20000 in
set_option maxHeartbeats 4000000 in
theorem s2_way_loop (l : Launch) (d : Nat) (h : MH) (n w : Nat) (K : KK) (cl P : Nat → Int32) (pn : Nat) (hw : WoodAt h w K cl P pn) (m : Nat) (hm : K 90 = nI m) (hm10 : m ≤ 10) (hwq : w + 18 ≤ 59) (h59 : h 59 = some (.inr (2, [.ref 60, .ref 61]))) (s : Int32) (c0 c1 : Nat) (h0 : c0 < 84) (hc1 : c1 < 84) : ∀ (r i : Nat) (U : Nat → Bool) (E : Nat → Nat) (A Z : Nat → Int32), DI K m s c0 c1 U E i → (∀ j, j < 84 → A j = nI (E j)) → (∀ j, j < 84 → Z j = bI (U j)) → i + r = 84 → V l mX2_leastSeenWay (d + 3) 43 [some (.ref 59), some (.ref w), some (.int (nI c0)), some (.int (nI c1)), some (.int s), some (.int (nI i)), none, none, none, none] [] (PP h A Z) n 0 0 (Wy K m s c0 c1 h n) := by
  intro r
  induction r with
  | zero =>
    intro i U E A Z hDI hA hZ hi
    refine V.iload dX2_leastSeenWay_43 rfl ?_
    refine V.bipush (v := nI 84) dX2_leastSeenWay_45 (by decide) ?_
    refine V.icmp_geN (tgt := 188) dX2_leastSeenWay_47 (by decide) (by omega) (by omega) (fun _ => ?_) (fun q => absurd q (by omega))
    have hall := cN_all (hDI.2.2.2.2.2.2.1.trans (show i = 84 by omega)) c1 hc1
    exact absurd (hall.symm.trans hDI.2.2.2.2.2.2.2) (by decide)
  | succ r ih =>
    intro i U E A Z hDI hA hZ hi
    refine V.iload dX2_leastSeenWay_43 rfl ?_
    refine V.bipush (v := nI 84) dX2_leastSeenWay_45 (by decide) ?_
    refine V.icmp_geN (tgt := 188) dX2_leastSeenWay_47 (by decide) (by omega) (by omega) (fun q => absurd q (by omega)) (fun _ => ?_)
    refine V.aload_n dX2_leastSeenWay_50 rfl ?_
    refine V.callV (c := 0) (z := 0) [] dX2_leastSeenWay_51 lk_X2_41 rfl (Nat.le_of_ble_eq_true rfl) (Nat.le_of_ble_eq_true rfl) (PP_o _ _ _ h59 (by decide) (by decide)) rfl (s2_cheapest _ _ _ _ h59 A Z U E hA hZ hDI.2.1) (fun v h1 n1 q => ?_)
    obtain ⟨o, L, rfl, rfl, rfl, hC⟩ := q
    refine V.ist6 dX2_leastSeenWay_54 (by decide) rfl ?_
    refine V.iload dX2_leastSeenWay_56 rfl ?_
    refine V.bipush (v := -4) dX2_leastSeenWay_58 (by decide) ?_
    rcases hC with ⟨rfl, -, e3⟩ | ⟨x, rfl, hx, hUx, hEx, hLt, hmin⟩
    · refine V.icmp_ne (tgt := 66) dX2_leastSeenWay_60 (by decide) (fun q => absurd rfl q) (fun _ => ?_)
      refine V.bipush (v := -4) dX2_leastSeenWay_63 (by decide) ?_
      refine V.iret (by exact dX2_leastSeenWay_65) rfl rfl ⟨rfl, ⟨A, Z, rfl⟩, Or.inl ⟨rfl, fun t u hW => ?_⟩⟩
      rcases DI_key h0 hm10 hDI hW with y | ⟨j, j1, j2, j3, -⟩
      · exact absurd (y.symm.trans hDI.2.2.2.2.2.2.2) (by decide)
      · rcases e3 j j1 with e | e
        · exact absurd (e.symm.trans j2) (by decide)
        · omega
    · refine V.icmp_ne (tgt := 66) dX2_leastSeenWay_60 (by decide) (fun _ => ?_) (fun q => absurd q.symm (neg4_ne (by omega)))
      refine V.iload dX2_leastSeenWay_66 rfl ?_
      refine V.iload_n dX2_leastSeenWay_68 rfl ?_
      have hExl : E x < 2147483647 := by omega
      obtain ⟨⟨t, u, hW, hEq⟩, hbd⟩ := hDI.1 x hx hExl
      refine V.icmp_neN (tgt := 80) dX2_leastSeenWay_69 (by decide) (by omega) (by omega) (fun c69 => ?_) (fun c69 => ?_)
      · refine V.aload_n dX2_leastSeenWay_80 rfl ?_
        refine V.getf dX2_leastSeenWay_81 fl_X2_15 (PP_o _ _ _ h59 (by decide) (by decide)) rfl ?_
        refine V.iload dX2_leastSeenWay_84 rfl ?_
        refine V.iconst (v := nI 1) dX2_leastSeenWay_86 (by decide) ?_
        refine V.zastN dX2_leastSeenWay_87 (PP_61 _ _ _) hx (by decide) nz_one.1 ?_
        rw [PP_s61]
        refine V.iconst (v := nI 0) dX2_leastSeenWay_88 (by decide) ?_
        refine V.ist7 dX2_leastSeenWay_89 (by decide) rfl ?_
        refine s2_relax l d h _ w K cl P pn hw m hm hm10 hwq h59 s c0 c1 i x hx U E _ (fun j hj => ?_) hDI.2.1 (by omega) (fun A1 hA1 => ?_) 4 0 A (fun j hj => by rw [hA j hj]; rfl) (by omega)
        · by_cases y : j = x
          · subst y; rw [pk_us, Ux_x]; rfl
          · rw [pk_un y, Ux_ne y]; exact hZ j hj
        · refine V.inN5 dX2_leastSeenWay_182 (by decide) rfl ?_
          refine V.goto (tgt := 43) dX2_leastSeenWay_185 (by decide) ?_
          refine V.drop 6 (ih (i + 1) (Ux U x) (rlx K m s (Ux U x) E x (adjC x)) A1 _ (DI_step h0 hm10 hDI hx hUx hExl (fun j hj hU => by rw [hEx]; exact hmin j hj hU) (fun e => c69 e.symm)) hA1 (fun j hj => ?_) (by omega))
          by_cases y : j = x
          · subst y; rw [pk_us, Ux_x]; rfl
          · rw [pk_un y, Ux_ne y]; exact hZ j hj
      · subst c69
        refine V.aload_n dX2_leastSeenWay_72 rfl ?_
        refine V.getf dX2_leastSeenWay_73 fl_X2_9 (PP_o _ _ _ h59 (by decide) (by decide)) rfl ?_
        refine V.iload dX2_leastSeenWay_76 rfl ?_
        refine V.ialdN dX2_leastSeenWay_78 (PP_60 _ _ _) hx (by decide) ?_
        rw [hA x hx, hEq]
        refine V.iret (by exact dX2_leastSeenWay_79) rfl rfl ⟨rfl, ⟨A, Z, rfl⟩, Or.inr ⟨t, u, rfl, hW, by omega, fun t1 u1 h1 => ?_⟩⟩
        rcases DI_key h0 hm10 hDI h1 with y | ⟨j, j1, j2, j3, j4⟩
        · exact absurd (y.symm.trans hUx) (by decide)
        · have := hmin j j1 j2; omega
set_option maxRecDepth 20000 in
set_option maxHeartbeats 4000000 in
theorem s2_way_fill (l : Launch) (d : Nat) (h : MH) (n w : Nat) (h59 : h 59 = some (.inr (2, [.ref 60, .ref 61]))) (s : Int32) (c0 c1 : Nat) {Q : Option Value → MH → Nat → Prop} (kk : ∀ A Z : Nat → Int32, (∀ j, j < 84 → A j = 2147483647 ∧ Z j = nI 0) → V l mX2_leastSeenWay d 33 [some (.ref 59), some (.ref w), some (.int (nI c0)), some (.int (nI c1)), some (.int s), none, none, none, none, none] [] (PP h A Z) n 0 0 Q) : ∀ (r i : Nat) (A Z : Nat → Int32), (∀ j, j < i → A j = 2147483647 ∧ Z j = nI 0) → i + r = 84 → V l mX2_leastSeenWay d 3 [some (.ref 59), some (.ref w), some (.int (nI c0)), some (.int (nI c1)), some (.int s), some (.int (nI i)), none, none, none, none] [] (PP h A Z) n 0 0 Q := by
  intro r
  induction r with
  | zero =>
    intro i A Z hAZ hi
    refine V.iload dX2_leastSeenWay_3 rfl ?_
    refine V.bipush (v := nI 84) dX2_leastSeenWay_5 (by decide) ?_
    refine V.icmp_geN (tgt := 33) dX2_leastSeenWay_7 (by decide) (by omega) (by omega) (fun _ => ?_) (fun q => absurd q (by omega))
    exact V.drop 5 (kk A Z (fun j hj => hAZ j (by omega)))
  | succ r ih =>
    intro i A Z hAZ hi
    refine V.iload dX2_leastSeenWay_3 rfl ?_
    refine V.bipush (v := nI 84) dX2_leastSeenWay_5 (by decide) ?_
    refine V.icmp_geN (tgt := 33) dX2_leastSeenWay_7 (by decide) (by omega) (by omega) (fun q => absurd q (by omega)) (fun _ => ?_)
    refine V.aload_n dX2_leastSeenWay_10 rfl ?_
    refine V.getf dX2_leastSeenWay_11 fl_X2_9 (PP_o _ _ _ h59 (by decide) (by decide)) rfl ?_
    refine V.iload dX2_leastSeenWay_14 rfl ?_
    refine V.ldc dX2_leastSeenWay_16 cn_X2_40 ?_
    refine V.iastN dX2_leastSeenWay_18 (PP_60 _ _ _) (by omega) (by decide) ?_
    rw [PP_s60]
    refine V.aload_n dX2_leastSeenWay_19 rfl ?_
    refine V.getf dX2_leastSeenWay_20 fl_X2_15 (PP_o _ _ _ h59 (by decide) (by decide)) rfl ?_
    refine V.iload dX2_leastSeenWay_23 rfl ?_
    refine V.iconst (v := nI 0) dX2_leastSeenWay_25 (by decide) ?_
    refine V.zastN dX2_leastSeenWay_26 (PP_61 _ _ _) (by omega) (by decide) nz_zero.1 ?_
    rw [PP_s61]
    refine V.inN5 dX2_leastSeenWay_27 (by decide) rfl ?_
    refine V.goto (tgt := 3) dX2_leastSeenWay_30 (by decide) ?_
    refine ih (i + 1) _ _ (fun j hj => ?_) (by omega)
    by_cases y : j = i
    · subst y; rw [pk_us, pk_us]; exact ⟨rfl, rfl⟩
    · rw [pk_un y, pk_un y]; exact hAZ j (by omega)
set_option maxRecDepth 20000 in
set_option maxHeartbeats 4000000 in
theorem s2_way (l : Launch) (d : Nat) (h : MH) (n w : Nat) (K : KK) (cl P : Nat → Int32) (pn : Nat) (hw : WoodAt h w K cl P pn) (m : Nat) (hm : K 90 = nI m) (hm10 : m ≤ 10) (hwq : w + 18 ≤ 59) (h59 : h 59 = some (.inr (2, [.ref 60, .ref 61]))) (co se : Nat → Int32) (hco : h 60 = some (ia 84 co)) (hse : h 61 = some (.inl (1, 84, .inl se))) (s : Int32) (c0 c1 : Nat) (h0 : c0 < 84) (hc1 : c1 < 84) : Sp l mX2_leastSeenWay (d + 3) [.ref 59, .ref w, .int (nI c0), .int (nI c1), .int s] h n 0 0 (Wy K m s c0 c1 h n) := by
  show V _ _ _ _ [some (.ref 59), some (.ref w), some (.int (nI c0)), some (.int (nI c1)), some (.int s), none, none, none, none, none] _ _ _ _ _ _
  refine V.iconst (v := nI 0) dX2_leastSeenWay_0 (by decide) ?_
  refine V.ist5 dX2_leastSeenWay_1 (by decide) rfl ?_
  have hco2 : h 60 = some (.inl (0, 84, .inl co)) := hco
  refine V.hp (show h = PP h co se by unfold PP; rw [hset_id hco2, hset_id hse]) (s2_way_fill l (d + 3) h n w h59 s c0 c1 (fun A Z hAZ => ?_) 84 0 co se (fun j hj => absurd hj (by omega)) (by omega))
  refine V.aload_n dX2_leastSeenWay_33 rfl ?_
  refine V.getf dX2_leastSeenWay_34 fl_X2_9 (PP_o _ _ _ h59 (by decide) (by decide)) rfl ?_
  refine V.iload_n dX2_leastSeenWay_37 rfl ?_
  refine V.iconst (v := nI 0) dX2_leastSeenWay_38 (by decide) ?_
  refine V.iastN dX2_leastSeenWay_39 (PP_60 _ _ _) h0 (by decide) ?_
  rw [PP_s60]
  refine V.iconst (v := nI 0) dX2_leastSeenWay_40 (by decide) ?_
  refine V.ist5 dX2_leastSeenWay_41 (by decide) rfl ?_
  refine s2_way_loop l d h n w K cl P pn hw m hm hm10 hwq h59 s c0 c1 h0 hc1 84 0 (fun _ => false) (fun j => if j = c0 then 0 else 2147483647) _ Z ⟨fun j hj hE => ?_, fun j hj => ?_, fun j hj hU => absurd (show false = true from hU) (by decide), fun u j hu hj hU => absurd (show false = true from hU) (by decide), fun u j hu hj hU => absurd (show false = true from hU) (by decide), if_pos rfl, cN_zero (fun _ _ => rfl), rfl⟩ (fun j hj => ?_) (fun j hj => (hAZ j hj).2) (by omega)
  · by_cases y : j = c0
    · subst y
      simp only [if_true]
      exact ⟨⟨0, 0, ⟨rfl, rfl⟩, rfl⟩, by omega⟩
    · simp only [y, if_false] at hE; omega
  · simp only
    split <;> omega
  · by_cases y : j = c0
    · subst y; rw [pk_us]; simp only [if_true]
    · rw [pk_un y]; simp only [y, if_false]; exact (hAZ j hj).1
set_option maxRecDepth 20000 in
set_option maxHeartbeats 4000000 in
theorem x_wayIn (l : Launch) (d : Nat) (h : MH) (n : Nat) (K : KK) (b : Bool) (KI : KK) (S : SS) (m : Nat) (hc : ClsAt h K b KI S) (hT : TI K m) (x y s w0 : Int32) : Sp l mX5_wayIn (d + 4) [.ref 0, .int x, .int y, .int s, .int w0] h n 0 0 (Qx (wayV K m x y s w0) K b KI S h n) := by
  have hD := hT.1
  have hm := hD.1.1
  have hm10 := hD.1.2.1
  obtain ⟨ht0, ⟨sq, hsq, esq⟩, ⟨cl, P, pn, hw, hPR⟩, ⟨Km, clm, Pm, pm, hwm⟩, ⟨KJ, clJ, PJ, pJ, hwJ, hJ⟩, ⟨rb, rx, ry, hrd⟩, hsc, ⟨co, hco⟩, ⟨se, hse⟩, hsh⟩ := id hc
  obtain ⟨hw0, ⟨gr, hgr, egr⟩, ⟨ru, hru, eru⟩, ⟨pq, hpf, epf⟩, hpl, ⟨fl, hfl, efl⟩, ⟨ca, hca, eca⟩, ⟨wa, hwa⟩, hpp, hhd⟩ := id hw
  show V _ _ _ _ [some (.ref 0), some (.int x), some (.int y), some (.int s), some (.int w0), none] _ _ _ _ _ _
  refine V.iload_n dX5_wayIn_0 rfl ?_
  refine V.callSv [_] dX5_wayIn_1 lk_X5_63 rfl (Nat.le_of_ble_eq_true rfl) (Nat.le_of_ble_eq_true rfl) (s5_isCell _ _ _ _ _) ?_
  refine V.if_eqB (tgt := 31) dX5_wayIn_4 (by decide) (fun c4 => ?_) (fun c4 => ?_)
  · refine V.iconst (v := -1) dX5_wayIn_31 (by decide) ?_
    exact V.iret (by exact dX5_wayIn_32) rfl rfl ⟨by simp only [wayV, c4, not_true_eq_false, not_false_eq_true, if_true, if_false, decide_true, decide_false, Bool.and_true, Bool.and_false, Bool.true_and, Bool.false_and, Bool.or_true, Bool.or_false, Bool.true_or, Bool.false_or, Bool.not_true, Bool.not_false, and_true, and_false, true_and, false_and, or_true, or_false, true_or, false_or, bIt, bIf, Bool.false_eq_true, reduceCtorEq], rfl, hc, fun _ _ => rfl⟩
  · refine V.iload_n dX5_wayIn_7 rfl ?_
    refine V.callSv [_] dX5_wayIn_8 lk_X5_63 rfl (Nat.le_of_ble_eq_true rfl) (Nat.le_of_ble_eq_true rfl) (s5_isCell _ _ _ _ _) ?_
    refine V.if_eqB (tgt := 31) dX5_wayIn_11 (by decide) (fun c11 => ?_) (fun c11 => ?_)
    · refine V.iconst (v := -1) dX5_wayIn_31 (by decide) ?_
      exact V.iret (by exact dX5_wayIn_32) rfl rfl ⟨by simp only [wayV, c4, c11, not_true_eq_false, not_false_eq_true, if_true, if_false, decide_true, decide_false, Bool.and_true, Bool.and_false, Bool.true_and, Bool.false_and, Bool.or_true, Bool.or_false, Bool.true_or, Bool.false_or, Bool.not_true, Bool.not_false, and_true, and_false, true_and, false_and, or_true, or_false, true_or, false_or, bIt, bIf, Bool.false_eq_true, reduceCtorEq], rfl, hc, fun _ _ => rfl⟩
    · refine V.iload_n dX5_wayIn_14 rfl ?_
      refine V.callSv [_] dX5_wayIn_15 lk_X5_132 rfl (Nat.le_of_ble_eq_true rfl) (Nat.le_of_ble_eq_true rfl) (s5_isSide _ _ _ _ _) ?_
      refine V.if_eqB (tgt := 31) dX5_wayIn_18 (by decide) (fun c18 => ?_) (fun c18 => ?_)
      · refine V.iconst (v := -1) dX5_wayIn_31 (by decide) ?_
        exact V.iret (by exact dX5_wayIn_32) rfl rfl ⟨by simp only [wayV, c4, c11, c18, not_true_eq_false, not_false_eq_true, if_true, if_false, decide_true, decide_false, Bool.and_true, Bool.and_false, Bool.true_and, Bool.false_and, Bool.or_true, Bool.or_false, Bool.true_or, Bool.false_or, Bool.not_true, Bool.not_false, and_true, and_false, true_and, false_and, or_true, or_false, true_or, false_or, bIt, bIf, Bool.false_eq_true, reduceCtorEq], rfl, hc, fun _ _ => rfl⟩
      · refine V.iload dX5_wayIn_21 rfl ?_
        refine V.iconst (v := nI 0) dX5_wayIn_23 (by decide) ?_
        refine V.iconst (v := nI 1) dX5_wayIn_24 (by decide) ?_
        refine V.callSv [_, _, _] dX5_wayIn_25 lk_X5_71 rfl (Nat.le_of_ble_eq_true rfl) (Nat.le_of_ble_eq_true rfl) (s5_within _ _ _ _ _ _ _) ?_
        refine V.if_neB (tgt := 33) dX5_wayIn_28 (by decide) (fun c28 => ?_) (fun c28 => ?_)
        · obtain ⟨c0, hc0, rfl⟩ := wi_ex (by decide) c4
          obtain ⟨c1, hc1, rfl⟩ := wi_ex (by decide) c11
          refine V.aload_n dX5_wayIn_33 rfl ?_
          refine V.getf dX5_wayIn_34 fl_X5_38 ht0 rfl ?_
          refine V.aload_n dX5_wayIn_37 rfl ?_
          refine V.getf dX5_wayIn_38 fl_X5_18 ht0 rfl ?_
          refine V.iload_n dX5_wayIn_41 rfl ?_
          refine V.iload_n dX5_wayIn_42 rfl ?_
          refine V.iload_n dX5_wayIn_43 rfl ?_
          refine V.callV (c := 0) (z := 0) [_, _, _, _] dX5_wayIn_44 lk_X5_236 rfl (Nat.le_of_ble_eq_true rfl) (Nat.le_of_ble_eq_true rfl) hsc rfl (s2_way _ _ _ _ _ _ _ _ _ hw m hm hm10 (by omega) hsc co se hco hse s c0 c1 (by omega) (by omega)) (fun v h1 n1 q => ?_)
          have hv : wayV K m (nI c0) (nI c1) s w0 = wayW K m s c0 c1 w0 := by
            rw [wayV, c4, c11, c18, c28, if_pos (show (true && (true && (true && true))) = true from rfl), clampI (show c0 < 2147483648 by omega), clampI (show c1 < 2147483648 by omega)]
          obtain ⟨rfl, ⟨A1, Z1, rfl⟩, q3⟩ := q
          have hc2 : ClsAt (PP h A1 Z1) K b KI S := hc.sco (fun q q1 q2 => by unfold PP; rw [hset_ne _ _ q2, hset_ne _ _ q1]) (PP_60 _ _ _) (PP_61 _ _ _)
          have hq2 : ∀ q, 78 ≤ q → PP h A1 Z1 q = h q := fun q hq => by unfold PP; rw [hset_ne _ _ (by omega), hset_ne _ _ (by omega)]
          rcases q3 with ⟨rfl, hno⟩ | ⟨t, u, rfl, hW, hbd, hop⟩
          · refine V.ist5 dX5_wayIn_47 (by decide) rfl ?_
            refine V.iload dX5_wayIn_49 rfl ?_
            refine V.bipush (v := -4) dX5_wayIn_51 (by decide) ?_
            refine V.icmp_ne (tgt := 59) dX5_wayIn_53 (by decide) (fun q => absurd rfl q) (fun _ => ?_)
            refine V.bipush (v := -4) dX5_wayIn_56 (by decide) ?_
            exact V.iret (by exact dX5_wayIn_58) rfl rfl ⟨by rw [hv, ← wayW_eq (v := -4) (Or.inr ⟨rfl, fun ⟨p, hp⟩ => hno _ _ hp.1⟩)], rfl, hc2, hq2⟩
          · obtain ⟨hLO, h83⟩ := LO_of (show c0 < 84 by omega) hW hop
            refine V.ist5 dX5_wayIn_47 (by decide) rfl ?_
            refine V.iload dX5_wayIn_49 rfl ?_
            refine V.bipush (v := -4) dX5_wayIn_51 (by decide) ?_
            refine V.icmp_ne (tgt := 59) dX5_wayIn_53 (by decide) (fun _ => ?_) (fun q => absurd q.symm (neg4_ne (by omega)))
            refine V.iload dX5_wayIn_59 rfl ?_
            refine V.if_ne (tgt := 73) dX5_wayIn_61 (by decide) (fun c61 => ?_) (fun c61 => ?_)
            · refine V.iload dX5_wayIn_73 rfl ?_
              refine V.sipush (v := nI 1000) dX5_wayIn_75 (by decide) ?_
              refine V.iremN dX5_wayIn_78 (by omega) (by omega) (by omega) ?_
              rw [show (1000 * u + t) % 1000 = t by omega]
              exact V.iret (by exact dX5_wayIn_79) rfl rfl ⟨by rw [hv, ← wayW_eq (v := nI t) (Or.inl ⟨(u, t), hLO, by rw [if_neg c61]⟩)], rfl, hc2, hq2⟩
            · refine V.iload dX5_wayIn_64 rfl ?_
              refine V.sipush (v := nI 1000) dX5_wayIn_66 (by decide) ?_
              refine V.idivN dX5_wayIn_69 (by omega) (by omega) (by omega) ?_
              refine V.goto (tgt := 79) dX5_wayIn_70 (by decide) ?_
              rw [show (1000 * u + t) / 1000 = u by omega]
              exact V.iret (by exact dX5_wayIn_79) rfl rfl ⟨by rw [hv, ← wayW_eq (v := nI u) (Or.inl ⟨(u, t), hLO, by rw [if_pos c61]⟩)], rfl, hc2, hq2⟩
        · refine V.iconst (v := -1) dX5_wayIn_31 (by decide) ?_
          exact V.iret (by exact dX5_wayIn_32) rfl rfl ⟨by simp only [wayV, c4, c11, c18, c28, not_true_eq_false, not_false_eq_true, if_true, if_false, decide_true, decide_false, Bool.and_true, Bool.and_false, Bool.true_and, Bool.false_and, Bool.or_true, Bool.or_false, Bool.true_or, Bool.false_or, Bool.not_true, Bool.not_false, and_true, and_false, true_and, false_and, or_true, or_false, true_or, false_or, bIt, bIf, Bool.false_eq_true, reduceCtorEq], rfl, hc, fun _ _ => rfl⟩
