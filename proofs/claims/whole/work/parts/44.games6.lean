set_option maxRecDepth 20000 in
set_option maxHeartbeats 4000000 in
theorem s6_opens_loop (l : Launch) (d n : Nat) (h : MH) (K : KK) (b : Bool) (th po ba en tt : Int32) (z : Int32) (hm0 : h 78 = some (.inr (6, moF b th po ba en tt))) (hs : h 79 = some (kc K)) {Q : Option Value → MH → Nat → Prop} (kk : V l mX6_opens d 27 [some (.ref 78), some (.int z), none] [] (hset h 81 (kc K)) n 0 0 Q) : ∀ (r i : Nat) (X : KK), (∀ j, j < i → X j = K j) → i + r = 184 → V l mX6_opens d 2 [some (.ref 78), some (.int z), some (.int (nI i))] [] (hset h 81 (kc X)) n 0 0 Q := by
  intro r
  induction r with
  | zero =>
    intro i X hX hi
    refine V.iload_n dX6_opens_2 rfl ?_
    refine V.sipush (v := nI 184) dX6_opens_3 (by decide) ?_
    refine V.icmp_geN (tgt := 27) dX6_opens_6 (by decide) (by omega) (by omega) (fun _ => ?_) (fun q => absurd q (by omega))
    refine V.drop 2 (V.ext (g := K) (hset_self _ _ _) (fun j hj => (hX j (by omega)).symm) ?_)
    rw [hset_hset]
    exact kk
  | succ r ih =>
    intro i X hX hi
    refine V.iload_n dX6_opens_2 rfl ?_
    refine V.sipush (v := nI 184) dX6_opens_3 (by decide) ?_
    refine V.icmp_geN (tgt := 27) dX6_opens_6 (by decide) (by omega) (by omega) (fun q => absurd q (by omega)) (fun _ => ?_)
    refine V.aload_n dX6_opens_9 rfl ?_
    refine V.getf dX6_opens_10 fl_X6_16 (o_ne hm0 (by decide)) rfl ?_
    refine V.iload_n dX6_opens_13 rfl ?_
    refine V.aload_n dX6_opens_14 rfl ?_
    refine V.getf dX6_opens_15 fl_X6_9 (o_ne hm0 (by decide)) rfl ?_
    refine V.iload_n dX6_opens_18 rfl ?_
    refine V.ialdN dX6_opens_19 (o_ne hs (by decide)) (by omega) (by decide) ?_
    refine V.iastN dX6_opens_20 (hset_self _ _ _) (by omega) (by decide) ?_
    rw [hset_hset]
    refine V.inN2 dX6_opens_21 (by decide) rfl ?_
    refine V.goto (tgt := 2) dX6_opens_24 (by decide) ?_
    refine ih (i + 1) _ (fun j hj => ?_) (by omega)
    by_cases y : j = i
    · subst y; rw [pk_us]
    · rw [pk_un y]; exact hX j (by omega)
set_option maxRecDepth 20000 in
set_option maxHeartbeats 4000000 in
theorem s6_opens (l : Launch) (d : Nat) (h : MH) (n : Nat) (K X : KK) (b : Bool) (th po ba en tt : Int32) (hm0 : h 78 = some (.inr (6, moF b th po ba en tt))) (hs : h 79 = some (kc K)) (m : Nat) (hm : K 90 = nI m) (hm10 : m ≤ 10) (h2 : ∀ p, p < m → ¬ gP K p 5 = nI 2) (z : Int32) : Sp l mX6_opens (d + 2) [.ref 78, .int z] (hset h 81 (kc X)) n 0 0 (Pu (hset h 81 (kc (bgn K m z))) n) := by
  show V _ _ _ _ [some (.ref 78), some (.int z), none] _ _ _ _ _ _
  refine V.iconst (v := nI 0) dX6_opens_0 (by decide) ?_
  refine V.ist2 dX6_opens_1 (by decide) rfl ?_
  refine s6_opens_loop l (d + 2) n h K b th po ba en tt z hm0 hs ?_ 184 0 X (fun j hj => absurd hj (by omega)) (by omega)
  refine V.aload_n dX6_opens_27 rfl ?_
  refine V.getf dX6_opens_28 fl_X6_16 (o_ne hm0 (by decide)) rfl ?_
  refine V.callSu [_] dX6_opens_31 lk_X6_52 rfl (Nat.le_of_ble_eq_true rfl) (Nat.le_of_ble_eq_true rfl) (s6_begins _ _ _ _ _ K (hset_self _ _ _) m hm hm10 h2) ?_
  rw [hset_hset]
  refine V.aload_n dX6_opens_34 rfl ?_
  refine V.getf dX6_opens_35 fl_X6_16 (o_ne hm0 (by decide)) rfl ?_
  refine V.bipush (v := nI 95) dX6_opens_38 (by decide) ?_
  refine V.iload_n dX6_opens_40 rfl ?_
  refine V.iastN dX6_opens_41 (hset_self _ _ _) (by omega) (by decide) ?_
  exact V.vretP (by exact dX6_opens_42) rfl (by rw [hset_hset, bgn_z])
set_option maxRecDepth 20000 in
set_option maxHeartbeats 4000000 in
theorem s6_plays_loop (l : Launch) (d : Nat) (h : MH) (n : Nat) (b : Bool) (th po ba en tt : Int32) (hm0 : h 78 = some (.inr (6, moF b th po ba en tt))) (m q : Nat) (hq : q ≤ 600) : ∀ (r s : Nat) (X : KK), KD X m → X 91 = nI s → X 89 = nI q → s ≤ 600 → q ≤ s + r → V l mX6_plays (d + 9) 0 [some (.ref 78)] [] (hset h 81 (kc X)) n 0 0 (Pu (hset h 81 (kc (pl m r X))) n) := by
  intro r
  induction r with
  | zero =>
    intro s X hD h91 h89 hs hr
    have he : endB X = true := by
      rw [endB, h91, h89]
      simp [show ¬ nI s < nI q from fun y => absurd ((nI_ltI (by omega) (by omega)).mp y) (by omega)]
    refine V.aload_n dX6_plays_0 rfl ?_
    refine V.getf dX6_plays_1 fl_X6_16 (o_ne hm0 (by decide)) rfl ?_
    refine V.callSv [_] dX6_plays_4 lk_X6_251 rfl (Nat.le_of_ble_eq_true rfl) (Nat.le_of_ble_eq_true rfl) (s6_isEnded _ _ _ _ _ X (hset_self _ _ _)) ?_
    refine V.if_neB (tgt := 20) dX6_plays_7 (by decide) (fun _ => ?_) (fun c => absurd (he.symm.trans c) (by decide))
    exact V.vretP (by exact dX6_plays_20) rfl rfl
  | succ r ih =>
    intro s X hD h91 h89 hs hr
    refine V.aload_n dX6_plays_0 rfl ?_
    refine V.getf dX6_plays_1 fl_X6_16 (o_ne hm0 (by decide)) rfl ?_
    refine V.callSv [_] dX6_plays_4 lk_X6_251 rfl (Nat.le_of_ble_eq_true rfl) (Nat.le_of_ble_eq_true rfl) (s6_isEnded _ _ _ _ _ X (hset_self _ _ _)) ?_
    refine V.if_neB (tgt := 20) dX6_plays_7 (by decide) (fun c => ?_) (fun c => ?_)
    · exact V.vretP (by exact dX6_plays_20) rfl (by rw [pl, if_pos c])
    · have hlt : s < q := by
        have y : X 91 < X 89 := Classical.byContradiction fun y => absurd c (by rw [endB]; simp [y])
        rw [h91, h89] at y
        exact (nI_ltI (by omega) (by omega)).mp y
      refine V.aload_n dX6_plays_10 rfl ?_
      refine V.getf dX6_plays_11 fl_X6_16 (o_ne hm0 (by decide)) rfl ?_
      refine V.callSu [_] dX6_plays_14 lk_X6_255 rfl (Nat.le_of_ble_eq_true rfl) (Nat.le_of_ble_eq_true rfl) (s6_second _ _ _ _ _ X (hset_self _ _ _) m hD.1) ?_
      rw [hset_hset]
      refine V.goto (tgt := 0) dX6_plays_17 (by decide) ?_
      rw [pl, if_neg (by rw [c]; decide)]
      exact ih (s + 1) (sec X m) (KD_sec hD) (by rw [sec_91 hD.1, h91, nI_add]) (by rw [sec_89]; exact h89) (by omega) (by omega)
theorem s6_plays (l : Launch) (d : Nat) (h : MH) (n : Nat) (b : Bool) (th po ba en tt : Int32) (hm0 : h 78 = some (.inr (6, moF b th po ba en tt))) (m q : Nat) (hq : q ≤ 600) (X : KK) (hD : KD X m) (h91 : X 91 = nI 0) (h89 : X 89 = nI q) : Sp l mX6_plays (d + 9) [.ref 78] (hset h 81 (kc X)) n 0 0 (Pu (hset h 81 (kc (pl m 600 X))) n) :=
  s6_plays_loop l d h n b th po ba en tt hm0 m q hq 600 0 X hD h91 h89 (by omega) (by omega)
/-- games with a change of their beginning -/
def agF (Fm : KK → KK) (K : KK) (m : Nat) (z : Int32) : Nat → Int32
  | 0 => nI 0
  | g + 1 => agF Fm K m z g + ldv (pl m 600 (Fm (bgn K m (z + nI g))) 92)
theorem agF_L {Fm : KK → KK} {K K1 : KK} {m : Nat} (z : Int32) (e : ∀ z, bgn K1 m z = Fm (bgn K m z)) : ∀ g, agF Fm K m z g = agL K1 m z g := by
  intro g
  induction g with
  | zero => rfl
  | succ g ih => rw [agF, agL, ih, fin, e]
set_option maxRecDepth 20000 in
set_option maxHeartbeats 4000000 in
theorem s6_ag_c (l : Launch) (d n : Nat) (h : MH) (b : Bool) (th po ba en tt : Int32) (N : Nat) (z wo pp kd fg v : Int32) (i : Nat) (Y : KK) (hm0 : h 78 = some (.inr (6, moF b th po ba en tt))) {Q : Option Value → MH → Nat → Prop} (kk : V l mX6_againstOf d 6 [some (.ref 78), some (.int (nI N)), some (.int z), some (.int wo), some (.int pp), some (.int kd), some (.int fg), some (.int (v + ldv (Y 92))), some (.int (nI (i + 1)))] [] (hset h 81 (kc Y)) n 0 0 Q) : V l mX6_againstOf d 79 [some (.ref 78), some (.int (nI N)), some (.int z), some (.int wo), some (.int pp), some (.int kd), some (.int fg), some (.int v), some (.int (nI i))] [] (hset h 81 (kc Y)) n 0 0 Q := by
  refine V.iload dX6_againstOf_79 rfl ?_
  refine V.aload_n dX6_againstOf_81 rfl ?_
  refine V.getf dX6_againstOf_82 fl_X6_16 (o_ne hm0 (by decide)) rfl ?_
  refine V.bipush (v := nI 92) dX6_againstOf_85 (by decide) ?_
  refine V.ialdN dX6_againstOf_87 (hset_self _ _ _) (by omega) (by decide) ?_
  refine V.if_ne (tgt := 95) dX6_againstOf_88 (by decide) (fun c88 => ?_) (fun c88 => ?_)
  · refine V.aload_n dX6_againstOf_95 rfl ?_
    refine V.getf dX6_againstOf_96 fl_X6_16 (o_ne hm0 (by decide)) rfl ?_
    refine V.bipush (v := nI 92) dX6_againstOf_99 (by decide) ?_
    refine V.ialdN dX6_againstOf_101 (hset_self _ _ _) (by omega) (by decide) ?_
    refine V.iconst (v := nI 1) dX6_againstOf_102 (by decide) ?_
    refine V.icmp_ne (tgt := 110) dX6_againstOf_103 (by decide) (fun c103 => ?_) (fun c103 => ?_)
    · refine V.iconst (v := nI 0) dX6_againstOf_110 (by decide) ?_
      refine V.iadd dX6_againstOf_111 ?_
      refine V.ist7 dX6_againstOf_112 (by decide) rfl ?_
      refine V.inN8 dX6_againstOf_114 (by decide) rfl ?_
      refine V.goto (tgt := 6) dX6_againstOf_117 (by decide) ?_
      first
      | (rw [show ldv (Y 92) = nI 1 from if_pos c88] at kk; exact kk)
      | (rw [show ldv (Y 92) = -1 from (if_neg c88).trans (if_pos c103)] at kk; exact kk)
      | (rw [show ldv (Y 92) = nI 0 from (if_neg c88).trans (if_neg c103)] at kk; exact kk)
    · refine V.iconst (v := -1) dX6_againstOf_106 (by decide) ?_
      refine V.goto (tgt := 111) dX6_againstOf_107 (by decide) ?_
      refine V.iadd dX6_againstOf_111 ?_
      refine V.ist7 dX6_againstOf_112 (by decide) rfl ?_
      refine V.inN8 dX6_againstOf_114 (by decide) rfl ?_
      refine V.goto (tgt := 6) dX6_againstOf_117 (by decide) ?_
      first
      | (rw [show ldv (Y 92) = nI 1 from if_pos c88] at kk; exact kk)
      | (rw [show ldv (Y 92) = -1 from (if_neg c88).trans (if_pos c103)] at kk; exact kk)
      | (rw [show ldv (Y 92) = nI 0 from (if_neg c88).trans (if_neg c103)] at kk; exact kk)
  · refine V.iconst (v := nI 1) dX6_againstOf_91 (by decide) ?_
    refine V.goto (tgt := 111) dX6_againstOf_92 (by decide) ?_
    refine V.iadd dX6_againstOf_111 ?_
    refine V.ist7 dX6_againstOf_112 (by decide) rfl ?_
    refine V.inN8 dX6_againstOf_114 (by decide) rfl ?_
    refine V.goto (tgt := 6) dX6_againstOf_117 (by decide) ?_
    first
    | (rw [show ldv (Y 92) = nI 1 from if_pos c88] at kk; exact kk)
    | (rw [show ldv (Y 92) = -1 from (if_neg c88).trans (if_pos c103)] at kk; exact kk)
    | (rw [show ldv (Y 92) = nI 0 from (if_neg c88).trans (if_neg c103)] at kk; exact kk)
/-- the mind alone has changed -/
def Qa (v : Int32) (h : MH) (n : Nat) : Option Value → MH → Nat → Prop := fun r h1 n1 => r = some (.int v) ∧ n1 = n ∧ ∃ X : KK, h1 = hset h 81 (kc X)
set_option maxRecDepth 20000 in
set_option maxHeartbeats 4000000 in
theorem s6_ag_loop (l : Launch) (d n : Nat) (h : MH) (K : KK) (b : Bool) (th po ba en tt : Int32) (N : Nat) (hN10 : N ≤ 10) (z wo pp kd fg : Int32) (hm0 : h 78 = some (.inr (6, moF b th po ba en tt))) (hs : h 79 = some (kc K)) (m : Nat) (hm : K 90 = nI m) (hm10 : m ≤ 10) (h2 : ∀ p, p < m → ¬ gP K p 5 = nI 2) (q : Nat) (hq : q ≤ 600) (Fm : KK → KK) (hG : ∀ z, KD (Fm (bgn K m z)) m ∧ Fm (bgn K m z) 91 = nI 0 ∧ Fm (bgn K m z) 89 = nI q)
    (hF : ∀ (X : KK) (i : Nat) (v : Int32) {Q : Option Value → MH → Nat → Prop}, V l mX6_againstOf (d + 10) 75 [some (.ref 78), some (.int (nI N)), some (.int z), some (.int wo), some (.int pp), some (.int kd), some (.int fg), some (.int v), some (.int (nI i))] [] (hset h 81 (kc (Fm X))) n 0 0 Q → V l mX6_againstOf (d + 10) 20 [some (.ref 78), some (.int (nI N)), some (.int z), some (.int wo), some (.int pp), some (.int kd), some (.int fg), some (.int v), some (.int (nI i))] [] (hset h 81 (kc X)) n 0 0 Q) : ∀ (r i : Nat) (X : KK), i + r = N → V l mX6_againstOf (d + 10) 6 [some (.ref 78), some (.int (nI N)), some (.int z), some (.int wo), some (.int pp), some (.int kd), some (.int fg), some (.int (agF Fm K m z i)), some (.int (nI i))] [] (hset h 81 (kc X)) n 0 0 (Qa (agF Fm K m z N) h n) := by
  intro r
  induction r with
  | zero =>
    intro i X hi
    refine V.iload dX6_againstOf_6 rfl ?_
    refine V.iload_n dX6_againstOf_8 rfl ?_
    refine V.icmp_geN (tgt := 120) dX6_againstOf_9 (by decide) (by omega) (by omega) (fun _ => ?_) (fun q => absurd q (by omega))
    refine V.iload dX6_againstOf_120 rfl ?_
    have hiN : i = N := by omega
    subst hiN
    exact V.iret (by exact dX6_againstOf_122) rfl rfl ⟨rfl, rfl, X, rfl⟩
  | succ r ih =>
    intro i X hi
    refine V.iload dX6_againstOf_6 rfl ?_
    refine V.iload_n dX6_againstOf_8 rfl ?_
    refine V.icmp_geN (tgt := 120) dX6_againstOf_9 (by decide) (by omega) (by omega) (fun q => absurd q (by omega)) (fun _ => ?_)
    refine V.aload_n dX6_againstOf_12 rfl ?_
    refine V.iload_n dX6_againstOf_13 rfl ?_
    refine V.iload dX6_againstOf_14 rfl ?_
    refine V.iadd dX6_againstOf_16 ?_
    refine V.callVu [_] dX6_againstOf_17 lk_X6_264 rfl (Nat.le_of_ble_eq_true rfl) (Nat.le_of_ble_eq_true rfl) (o_ne hm0 (by decide)) rfl (s6_opens _ _ _ _ K X b th po ba en tt hm0 hs m hm hm10 h2 _) ?_
    refine hF _ i _ ?_
    refine V.aload_n dX6_againstOf_75 rfl ?_
    refine V.callVu [] dX6_againstOf_76 lk_X6_268 rfl (Nat.le_of_ble_eq_true rfl) (Nat.le_of_ble_eq_true rfl) (o_ne hm0 (by decide)) rfl (s6_plays _ _ _ _ b th po ba en tt hm0 m q hq _ (hG _).1 (hG _).2.1 (hG _).2.2) ?_
    refine s6_ag_c l _ n h b th po ba en tt N z wo pp kd fg (agF Fm K m z i) i _ hm0 ?_
    exact ih (i + 1) _ (by omega)
set_option maxRecDepth 20000 in
set_option maxHeartbeats 4000000 in
theorem s6_againstF (l : Launch) (d : Nat) (h : MH) (n : Nat) (K : KK) (b : Bool) (th po ba en tt : Int32) (N : Nat) (hN10 : N ≤ 10) (z wo pp kd fg : Int32) (hm0 : h 78 = some (.inr (6, moF b th po ba en tt))) (hs : h 79 = some (kc K)) (X0 : KK) (h81 : h 81 = some (kc X0)) (m : Nat) (hm : K 90 = nI m) (hm10 : m ≤ 10) (h2 : ∀ p, p < m → ¬ gP K p 5 = nI 2) (q : Nat) (hq : q ≤ 600) (Fm : KK → KK) (hG : ∀ z, KD (Fm (bgn K m z)) m ∧ Fm (bgn K m z) 91 = nI 0 ∧ Fm (bgn K m z) 89 = nI q)
    (hF : ∀ (X : KK) (i : Nat) (v : Int32) {Q : Option Value → MH → Nat → Prop}, V l mX6_againstOf (d + 10) 75 [some (.ref 78), some (.int (nI N)), some (.int z), some (.int wo), some (.int pp), some (.int kd), some (.int fg), some (.int v), some (.int (nI i))] [] (hset h 81 (kc (Fm X))) n 0 0 Q → V l mX6_againstOf (d + 10) 20 [some (.ref 78), some (.int (nI N)), some (.int z), some (.int wo), some (.int pp), some (.int kd), some (.int fg), some (.int v), some (.int (nI i))] [] (hset h 81 (kc X)) n 0 0 Q) : Sp l mX6_againstOf (d + 10) [.ref 78, .int (nI N), .int z, .int wo, .int pp, .int kd, .int fg] h n 0 0 (Qa (agF Fm K m z N) h n) := by
  show V _ _ _ _ [some (.ref 78), some (.int (nI N)), some (.int z), some (.int wo), some (.int pp), some (.int kd), some (.int fg), none, none] _ _ _ _ _ _
  refine V.iconst (v := nI 0) dX6_againstOf_0 (by decide) ?_
  refine V.ist7 dX6_againstOf_1 (by decide) rfl ?_
  refine V.iconst (v := nI 0) dX6_againstOf_3 (by decide) ?_
  refine V.ist8 dX6_againstOf_4 (by decide) rfl ?_
  have key := s6_ag_loop l d n h K b th po ba en tt N hN10 z wo pp kd fg hm0 hs m hm hm10 h2 q hq Fm hG hF N 0 X0 (by omega)
  rw [hset_id h81] at key
  exact key
set_option maxRecDepth 20000 in
set_option maxHeartbeats 4000000 in
theorem s6_ch_no (l : Launch) (d n : Nat) (h : MH) (b : Bool) (th po ba en tt : Int32) (N : Nat) (z : Int32) (pp fg : Int32) (hm0 : h 78 = some (.inr (6, moF b th po ba en tt))) (X : KK) (i : Nat) (v : Int32) {Q : Option Value → MH → Nat → Prop} (kk : V l mX6_againstOf (d + 10) 75 [some (.ref 78), some (.int (nI N)), some (.int z), some (.int (-4)), some (.int pp), some (.int (-4)), some (.int fg), some (.int v), some (.int (nI i))] [] (hset h 81 (kc X)) n 0 0 Q) : V l mX6_againstOf (d + 10) 20 [some (.ref 78), some (.int (nI N)), some (.int z), some (.int (-4)), some (.int pp), some (.int (-4)), some (.int fg), some (.int v), some (.int (nI i))] [] (hset h 81 (kc X)) n 0 0 Q := by
  refine V.iload_n dX6_againstOf_20 rfl ?_
  refine V.if_lt (tgt := 46) dX6_againstOf_21 (by decide) (fun _ => ?_) (fun q => absurd (by decide) q)
  refine V.iload dX6_againstOf_46 rfl ?_
  refine V.if_lt (tgt := 75) dX6_againstOf_48 (by decide) (fun _ => ?_) (fun q => absurd (by decide) q)
  exact kk
set_option maxRecDepth 20000 in
set_option maxHeartbeats 4000000 in
theorem s6_ch_wo (l : Launch) (d n : Nat) (h : MH) (b : Bool) (th po ba en tt : Int32) (N : Nat) (z : Int32) (p0 : Nat) (hp0 : p0 < 10) (pp fg : Int32) (hm0 : h 78 = some (.inr (6, moF b th po ba en tt))) (X : KK) (i : Nat) (v : Int32) {Q : Option Value → MH → Nat → Prop} (kk : V l mX6_againstOf (d + 10) 75 [some (.ref 78), some (.int (nI N)), some (.int z), some (.int (nI p0)), some (.int pp), some (.int (-4)), some (.int fg), some (.int v), some (.int (nI i))] [] (hset h 81 (kc (upd (upd X (114 + 7 * p0 + 5) (nI 2)) (114 + 7 * p0 + 4) (-1000)))) n 0 0 Q) : V l mX6_againstOf (d + 10) 20 [some (.ref 78), some (.int (nI N)), some (.int z), some (.int (nI p0)), some (.int pp), some (.int (-4)), some (.int fg), some (.int v), some (.int (nI i))] [] (hset h 81 (kc X)) n 0 0 Q := by
  refine V.iload_n dX6_againstOf_20 rfl ?_
  refine V.if_lt (tgt := 46) dX6_againstOf_21 (by decide) (fun q => absurd q (nI_pos (by omega))) (fun _ => ?_)
  refine V.aload_n dX6_againstOf_24 rfl ?_
  refine V.getf dX6_againstOf_25 fl_X6_16 (o_ne hm0 (by decide)) rfl ?_
  refine V.iload_n dX6_againstOf_28 rfl ?_
  refine V.iconst (v := nI 5) dX6_againstOf_29 (by decide) ?_
  refine V.iconst (v := nI 2) dX6_againstOf_30 (by decide) ?_
  refine V.callSu [_, _, _, _] dX6_againstOf_31 lk_X6_86 rfl (Nat.le_of_ble_eq_true rfl) (Nat.le_of_ble_eq_true rfl) (s6_puts _ _ _ _ _ _ (hset_self _ _ _) _ _ _ (by omega) (by omega)) ?_
  rw [hset_hset]
  refine V.aload_n dX6_againstOf_34 rfl ?_
  refine V.getf dX6_againstOf_35 fl_X6_16 (o_ne hm0 (by decide)) rfl ?_
  refine V.iload_n dX6_againstOf_38 rfl ?_
  refine V.iconst (v := nI 4) dX6_againstOf_39 (by decide) ?_
  refine V.sipush (v := -1000) dX6_againstOf_40 (by decide) ?_
  refine V.callSu [_, _, _, _] dX6_againstOf_43 lk_X6_86 rfl (Nat.le_of_ble_eq_true rfl) (Nat.le_of_ble_eq_true rfl) (s6_puts _ _ _ _ _ _ (hset_self _ _ _) _ _ _ (by omega) (by omega)) ?_
  rw [hset_hset]
  refine V.iload dX6_againstOf_46 rfl ?_
  refine V.if_lt (tgt := 75) dX6_againstOf_48 (by decide) (fun _ => ?_) (fun q => absurd (by decide) q)
  exact kk
set_option maxRecDepth 20000 in
set_option maxHeartbeats 4000000 in
theorem s6_ch_kd (l : Launch) (d n : Nat) (h : MH) (b : Bool) (th po ba en tt : Int32) (N : Nat) (z : Int32) (p0 k0 : Nat) (hp0 : p0 < 10) (hk0 : k0 < 10) (fg : Int32) (hm0 : h 78 = some (.inr (6, moF b th po ba en tt))) (X : KK) (i : Nat) (v : Int32) {Q : Option Value → MH → Nat → Prop} (kk : V l mX6_againstOf (d + 10) 75 [some (.ref 78), some (.int (nI N)), some (.int z), some (.int (-4)), some (.int (nI p0)), some (.int (nI k0)), some (.int fg), some (.int v), some (.int (nI i))] [] (hset h 81 (kc (upd (upd X (114 + 7 * p0 + 1) (nI k0)) (114 + 7 * p0 + 2) fg))) n 0 0 Q) : V l mX6_againstOf (d + 10) 20 [some (.ref 78), some (.int (nI N)), some (.int z), some (.int (-4)), some (.int (nI p0)), some (.int (nI k0)), some (.int fg), some (.int v), some (.int (nI i))] [] (hset h 81 (kc X)) n 0 0 Q := by
  refine V.iload_n dX6_againstOf_20 rfl ?_
  refine V.if_lt (tgt := 46) dX6_againstOf_21 (by decide) (fun _ => ?_) (fun q => absurd (by decide) q)
  refine V.iload dX6_againstOf_46 rfl ?_
  refine V.if_lt (tgt := 75) dX6_againstOf_48 (by decide) (fun q => absurd q (nI_pos (by omega))) (fun _ => ?_)
  refine V.aload_n dX6_againstOf_51 rfl ?_
  refine V.getf dX6_againstOf_52 fl_X6_16 (o_ne hm0 (by decide)) rfl ?_
  refine V.iload dX6_againstOf_55 rfl ?_
  refine V.iconst (v := nI 1) dX6_againstOf_57 (by decide) ?_
  refine V.iload dX6_againstOf_58 rfl ?_
  refine V.callSu [_, _, _, _] dX6_againstOf_60 lk_X6_86 rfl (Nat.le_of_ble_eq_true rfl) (Nat.le_of_ble_eq_true rfl) (s6_puts _ _ _ _ _ _ (hset_self _ _ _) _ _ _ (by omega) (by omega)) ?_
  rw [hset_hset]
  refine V.aload_n dX6_againstOf_63 rfl ?_
  refine V.getf dX6_againstOf_64 fl_X6_16 (o_ne hm0 (by decide)) rfl ?_
  refine V.iload dX6_againstOf_67 rfl ?_
  refine V.iconst (v := nI 2) dX6_againstOf_69 (by decide) ?_
  refine V.iload dX6_againstOf_70 rfl ?_
  refine V.callSu [_, _, _, _] dX6_againstOf_72 lk_X6_86 rfl (Nat.le_of_ble_eq_true rfl) (Nat.le_of_ble_eq_true rfl) (s6_puts _ _ _ _ _ _ (hset_self _ _ _) _ _ _ (by omega) (by omega)) ?_
  rw [hset_hset]
  exact kk
