theorem wi_N {x a b : Nat} (hx : x < 1000) (ha : a < 1000) (hb : b < 1000) : wi (nI x) (nI a) (nI b) = (decide (a ≤ x) && decide (x ≤ b)) := by
  rw [wi, show decide (nI a ≤ nI x) = decide (a ≤ x) from decide_eq_decide.mpr (nI_leI (by omega) (by omega)), show decide (nI x ≤ nI b) = decide (x ≤ b) from decide_eq_decide.mpr (nI_leI (by omega) (by omega))]
def eP0 (s k f c : Nat) (K : KK) (m : Nat) : Option KK := if (decide (s ≤ 1) && (decide (k ≤ 7) && (decide (m < 10) && hmB K (nI s) (nI c)))) = true then some (plU K m (nI s) (nI k) (nI f) (nI c)) else none
def eN0 (s a k f : Nat) (K : KK) : Option KK := if (decide (s ≤ 1) && (decide (1 ≤ a) && (decide (k ≤ 7) && !decide (K (100 + 7 * s) = nI 2)))) = true then some (pnU K s (K (100 + 7 * s)).toNatClampNeg (nI a) (nI k) (nI f)) else none
theorem ePl_N (s k f c : Nat) (K : KK) (m : Nat) (hs : s < 1000) (hk : k < 1000) : ePl (nI s) (nI k) (nI f) (nI c) K m = if begB K = true then none else eP0 s k f c K m := by
  unfold ePl eP0
  rw [wi_N hs (by omega) (by omega), wi_N hk (by omega) (by omega)]
  cases begB K <;> simp
theorem ePn_N (s a k f : Nat) (K : KK) (hs : s < 1000) (ha : a < 1000) (hk : k < 1000) : ePn (nI s) (nI a) (nI k) (nI f) K = eN0 s a k f K := by
  unfold ePn eN0
  rw [wi_N hs (by omega) (by omega), wi_N hk (by omega) (by omega), clampI (by omega), show decide (nI 1 ≤ nI a) = decide (1 ≤ a) from decide_eq_decide.mpr (nI_leI (by omega) (by omega))]
  simp
set_option maxRecDepth 20000 in
set_option maxHeartbeats 4000000 in
theorem s6_comesPlayer (l : Launch) (d : Nat) (h : MH) (n : Nat) (b0 : Bool) (th po ba en tt : Int32) (hm0 : h 78 = some (.inr (6, moF b0 th po ba en tt))) (NB : Nat → Int32) (hnb : h 89 = some (ia 6 NB)) (K : KK) (m : Nat) (hm : K 90 = nI m) (hm10 : m ≤ 10) (s k f c : Nat) (hs : s < 10) (hk : k < 10) (hf : f < 10) (hc : c < 84) (hn0 : NB 0 = nI s) (hn1 : NB 1 = nI k) (hn2 : NB 2 = nI f) (hn3 : NB 3 = nI c) : Sp l mX6_comesPlayer (d + 4) [.ref 78] (hset h 82 (kc K)) n 0 0 (Mq (eP0 s k f c K m) h n) := by
  show V _ _ _ _ [some (.ref 78), none, none] _ _ _ _ _ _
  have no : eP0 s k f c K m = none → V l mX6_comesPlayer (d + 4) 55 [some (.ref 78), none, none] [] (hset h 82 (kc K)) n 0 0 (Mq (eP0 s k f c K m) h n) := fun e => by
    refine V.iconst (v := nI 0) dX6_comesPlayer_55 (by decide) ?_
    exact V.iret (by exact dX6_comesPlayer_56) rfl (bI_narrow false) (by rw [e]; exact ⟨rfl, rfl, K, rfl, fun K2 y => by cases y⟩)
  refine V.aload_n dX6_comesPlayer_0 rfl ?_
  refine V.getf dX6_comesPlayer_1 fl_X6_40 (o_ne hm0 (by decide)) rfl ?_
  refine V.iconst (v := nI 0) dX6_comesPlayer_4 (by decide) ?_
  refine V.ialdN dX6_comesPlayer_5 (o_ne hnb (by decide)) (by omega) (by decide) ?_
  rw [hn0]
  refine V.iconst (v := nI 1) dX6_comesPlayer_6 (by decide) ?_
  refine V.icmp_gtN (tgt := 55) dX6_comesPlayer_7 (by decide) (by omega) (by omega) (fun q => no (by rw [eP0, decide_eq_false (by omega)]; rfl)) (fun c7 => ?_)
  refine V.aload_n dX6_comesPlayer_10 rfl ?_
  refine V.getf dX6_comesPlayer_11 fl_X6_40 (o_ne hm0 (by decide)) rfl ?_
  refine V.iconst (v := nI 1) dX6_comesPlayer_14 (by decide) ?_
  refine V.ialdN dX6_comesPlayer_15 (o_ne hnb (by decide)) (by omega) (by decide) ?_
  rw [hn1]
  refine V.bipush (v := nI 7) dX6_comesPlayer_16 (by decide) ?_
  refine V.icmp_gtN (tgt := 55) dX6_comesPlayer_18 (by decide) (by omega) (by omega) (fun q => no (by rw [eP0, decide_eq_false (show ¬ k ≤ 7 by omega)]; simp)) (fun c18 => ?_)
  refine V.aload_n dX6_comesPlayer_21 rfl ?_
  refine V.getf dX6_comesPlayer_22 fl_X6_19 (o_ne hm0 (by decide)) rfl ?_
  refine V.bipush (v := nI 90) dX6_comesPlayer_25 (by decide) ?_
  refine V.ialdN dX6_comesPlayer_27 (hset_self _ _ _) (by omega) (by decide) ?_
  rw [hm]
  refine V.bipush (v := nI 10) dX6_comesPlayer_28 (by decide) ?_
  refine V.icmp_eqN (tgt := 55) dX6_comesPlayer_30 (by decide) (by omega) (by omega) (fun q => no (by rw [eP0, decide_eq_false (show ¬ m < 10 by omega)]; simp)) (fun c30 => ?_)
  refine V.aload_n dX6_comesPlayer_33 rfl ?_
  refine V.getf dX6_comesPlayer_34 fl_X6_19 (o_ne hm0 (by decide)) rfl ?_
  refine V.aload_n dX6_comesPlayer_37 rfl ?_
  refine V.getf dX6_comesPlayer_38 fl_X6_40 (o_ne hm0 (by decide)) rfl ?_
  refine V.iconst (v := nI 0) dX6_comesPlayer_41 (by decide) ?_
  refine V.ialdN dX6_comesPlayer_42 (o_ne hnb (by decide)) (by omega) (by decide) ?_
  rw [hn0]
  refine V.aload_n dX6_comesPlayer_43 rfl ?_
  refine V.getf dX6_comesPlayer_44 fl_X6_40 (o_ne hm0 (by decide)) rfl ?_
  refine V.iconst (v := nI 3) dX6_comesPlayer_47 (by decide) ?_
  refine V.ialdN dX6_comesPlayer_48 (o_ne hnb (by decide)) (by omega) (by decide) ?_
  rw [hn3]
  refine V.callSv [_, _, _] dX6_comesPlayer_49 lk_X6_135 rfl (Nat.le_of_ble_eq_true rfl) (Nat.le_of_ble_eq_true rfl) (s6_isHome _ _ _ _ _ _ (hset_self _ _ _) _ _ ⟨c, hc, rfl⟩) ?_
  refine V.if_neB (tgt := 57) dX6_comesPlayer_52 (by decide) (fun c52 => ?_) (fun c52 => no (by rw [eP0, c52]; simp))
  have hok : eP0 s k f c K m = some (plU K m (nI s) (nI k) (nI f) (nI c)) := by rw [eP0, c52, decide_eq_true (show s ≤ 1 by omega), decide_eq_true (show k ≤ 7 by omega), decide_eq_true (show m < 10 by omega)]; rfl
  have hm9 : m < 10 := by omega
  refine V.aload_n dX6_comesPlayer_57 rfl ?_
  refine V.getf dX6_comesPlayer_58 fl_X6_19 (o_ne hm0 (by decide)) rfl ?_
  refine V.bipush (v := nI 90) dX6_comesPlayer_61 (by decide) ?_
  refine V.ialdN dX6_comesPlayer_63 (hset_self _ _ _) (by omega) (by decide) ?_
  rw [hm]
  refine V.ist1 dX6_comesPlayer_64 (by decide) rfl ?_
  refine V.iconst (v := nI 0) dX6_comesPlayer_65 (by decide) ?_
  refine V.ist2 dX6_comesPlayer_66 (by decide) rfl ?_
  refine V.iload_n dX6_comesPlayer_67 rfl ?_
  refine V.iconst (v := nI 4) dX6_comesPlayer_68 (by decide) ?_
  refine V.icmp_geN (tgt := 93) dX6_comesPlayer_69 (by decide) (by omega) (by omega) (fun q => absurd q (by omega)) (fun _ => ?_)
  refine V.aload_n dX6_comesPlayer_72 rfl ?_
  refine V.getf dX6_comesPlayer_73 fl_X6_19 (o_ne hm0 (by decide)) rfl ?_
  refine V.iload_n dX6_comesPlayer_76 rfl ?_
  refine V.iload_n dX6_comesPlayer_77 rfl ?_
  refine V.aload_n dX6_comesPlayer_78 rfl ?_
  refine V.getf dX6_comesPlayer_79 fl_X6_40 (o_ne hm0 (by decide)) rfl ?_
  refine V.iload_n dX6_comesPlayer_82 rfl ?_
  refine V.ialdN dX6_comesPlayer_83 (o_ne hnb (by decide)) (by omega) (by decide) ?_
  rw [hn0]
  refine V.callSu [_, _, _, _] dX6_comesPlayer_84 lk_X6_86 rfl (Nat.le_of_ble_eq_true rfl) (Nat.le_of_ble_eq_true rfl) (s6_puts _ _ _ _ _ _ (hset_self _ _ _) _ 0 _ hm9 (by omega)) ?_
  rw [hset_hset]
  refine V.inN2 dX6_comesPlayer_87 (by decide) rfl ?_
  refine V.goto (tgt := 67) dX6_comesPlayer_90 (by decide) ?_
  refine V.iload_n dX6_comesPlayer_67 rfl ?_
  refine V.iconst (v := nI 4) dX6_comesPlayer_68 (by decide) ?_
  refine V.icmp_geN (tgt := 93) dX6_comesPlayer_69 (by decide) (by omega) (by omega) (fun q => absurd q (by omega)) (fun _ => ?_)
  refine V.aload_n dX6_comesPlayer_72 rfl ?_
  refine V.getf dX6_comesPlayer_73 fl_X6_19 (o_ne hm0 (by decide)) rfl ?_
  refine V.iload_n dX6_comesPlayer_76 rfl ?_
  refine V.iload_n dX6_comesPlayer_77 rfl ?_
  refine V.aload_n dX6_comesPlayer_78 rfl ?_
  refine V.getf dX6_comesPlayer_79 fl_X6_40 (o_ne hm0 (by decide)) rfl ?_
  refine V.iload_n dX6_comesPlayer_82 rfl ?_
  refine V.ialdN dX6_comesPlayer_83 (o_ne hnb (by decide)) (by omega) (by decide) ?_
  rw [hn1]
  refine V.callSu [_, _, _, _] dX6_comesPlayer_84 lk_X6_86 rfl (Nat.le_of_ble_eq_true rfl) (Nat.le_of_ble_eq_true rfl) (s6_puts _ _ _ _ _ _ (hset_self _ _ _) _ 1 _ hm9 (by omega)) ?_
  rw [hset_hset]
  refine V.inN2 dX6_comesPlayer_87 (by decide) rfl ?_
  refine V.goto (tgt := 67) dX6_comesPlayer_90 (by decide) ?_
  refine V.iload_n dX6_comesPlayer_67 rfl ?_
  refine V.iconst (v := nI 4) dX6_comesPlayer_68 (by decide) ?_
  refine V.icmp_geN (tgt := 93) dX6_comesPlayer_69 (by decide) (by omega) (by omega) (fun q => absurd q (by omega)) (fun _ => ?_)
  refine V.aload_n dX6_comesPlayer_72 rfl ?_
  refine V.getf dX6_comesPlayer_73 fl_X6_19 (o_ne hm0 (by decide)) rfl ?_
  refine V.iload_n dX6_comesPlayer_76 rfl ?_
  refine V.iload_n dX6_comesPlayer_77 rfl ?_
  refine V.aload_n dX6_comesPlayer_78 rfl ?_
  refine V.getf dX6_comesPlayer_79 fl_X6_40 (o_ne hm0 (by decide)) rfl ?_
  refine V.iload_n dX6_comesPlayer_82 rfl ?_
  refine V.ialdN dX6_comesPlayer_83 (o_ne hnb (by decide)) (by omega) (by decide) ?_
  rw [hn2]
  refine V.callSu [_, _, _, _] dX6_comesPlayer_84 lk_X6_86 rfl (Nat.le_of_ble_eq_true rfl) (Nat.le_of_ble_eq_true rfl) (s6_puts _ _ _ _ _ _ (hset_self _ _ _) _ 2 _ hm9 (by omega)) ?_
  rw [hset_hset]
  refine V.inN2 dX6_comesPlayer_87 (by decide) rfl ?_
  refine V.goto (tgt := 67) dX6_comesPlayer_90 (by decide) ?_
  refine V.iload_n dX6_comesPlayer_67 rfl ?_
  refine V.iconst (v := nI 4) dX6_comesPlayer_68 (by decide) ?_
  refine V.icmp_geN (tgt := 93) dX6_comesPlayer_69 (by decide) (by omega) (by omega) (fun q => absurd q (by omega)) (fun _ => ?_)
  refine V.aload_n dX6_comesPlayer_72 rfl ?_
  refine V.getf dX6_comesPlayer_73 fl_X6_19 (o_ne hm0 (by decide)) rfl ?_
  refine V.iload_n dX6_comesPlayer_76 rfl ?_
  refine V.iload_n dX6_comesPlayer_77 rfl ?_
  refine V.aload_n dX6_comesPlayer_78 rfl ?_
  refine V.getf dX6_comesPlayer_79 fl_X6_40 (o_ne hm0 (by decide)) rfl ?_
  refine V.iload_n dX6_comesPlayer_82 rfl ?_
  refine V.ialdN dX6_comesPlayer_83 (o_ne hnb (by decide)) (by omega) (by decide) ?_
  rw [hn3]
  refine V.callSu [_, _, _, _] dX6_comesPlayer_84 lk_X6_86 rfl (Nat.le_of_ble_eq_true rfl) (Nat.le_of_ble_eq_true rfl) (s6_puts _ _ _ _ _ _ (hset_self _ _ _) _ 3 _ hm9 (by omega)) ?_
  rw [hset_hset]
  refine V.inN2 dX6_comesPlayer_87 (by decide) rfl ?_
  refine V.goto (tgt := 67) dX6_comesPlayer_90 (by decide) ?_
  refine V.iload_n dX6_comesPlayer_67 rfl ?_
  refine V.iconst (v := nI 4) dX6_comesPlayer_68 (by decide) ?_
  refine V.icmp_geN (tgt := 93) dX6_comesPlayer_69 (by decide) (by omega) (by omega) (fun _ => ?_) (fun q => absurd q (by omega))
  refine V.aload_n dX6_comesPlayer_93 rfl ?_
  refine V.getf dX6_comesPlayer_94 fl_X6_19 (o_ne hm0 (by decide)) rfl ?_
  refine V.iload_n dX6_comesPlayer_97 rfl ?_
  refine V.iconst (v := nI 4) dX6_comesPlayer_98 (by decide) ?_
  refine V.aload_n dX6_comesPlayer_99 rfl ?_
  refine V.getf dX6_comesPlayer_100 fl_X6_40 (o_ne hm0 (by decide)) rfl ?_
  refine V.iconst (v := nI 3) dX6_comesPlayer_103 (by decide) ?_
  refine V.ialdN dX6_comesPlayer_104 (o_ne hnb (by decide)) (by omega) (by decide) ?_
  rw [hn3]
  refine V.callSu [_, _, _, _] dX6_comesPlayer_105 lk_X6_86 rfl (Nat.le_of_ble_eq_true rfl) (Nat.le_of_ble_eq_true rfl) (s6_puts _ _ _ _ _ _ (hset_self _ _ _) _ 4 _ hm9 (by omega)) ?_
  rw [hset_hset]
  refine V.aload_n dX6_comesPlayer_108 rfl ?_
  refine V.getf dX6_comesPlayer_109 fl_X6_19 (o_ne hm0 (by decide)) rfl ?_
  refine V.iload_n dX6_comesPlayer_112 rfl ?_
  refine V.iconst (v := nI 5) dX6_comesPlayer_113 (by decide) ?_
  refine V.iconst (v := nI 0) dX6_comesPlayer_114 (by decide) ?_
  refine V.callSu [_, _, _, _] dX6_comesPlayer_115 lk_X6_86 rfl (Nat.le_of_ble_eq_true rfl) (Nat.le_of_ble_eq_true rfl) (s6_puts _ _ _ _ _ _ (hset_self _ _ _) _ 5 _ hm9 (by omega)) ?_
  rw [hset_hset]
  refine V.aload_n dX6_comesPlayer_118 rfl ?_
  refine V.getf dX6_comesPlayer_119 fl_X6_19 (o_ne hm0 (by decide)) rfl ?_
  refine V.iload_n dX6_comesPlayer_122 rfl ?_
  refine V.bipush (v := nI 6) dX6_comesPlayer_123 (by decide) ?_
  refine V.iconst (v := nI 0) dX6_comesPlayer_125 (by decide) ?_
  refine V.callSu [_, _, _, _] dX6_comesPlayer_126 lk_X6_86 rfl (Nat.le_of_ble_eq_true rfl) (Nat.le_of_ble_eq_true rfl) (s6_puts _ _ _ _ _ _ (hset_self _ _ _) _ 6 _ hm9 (by omega)) ?_
  rw [hset_hset]
  rw [show upd (upd (upd (upd (upd (upd (upd K (114 + 7 * m + 0) (nI s)) (114 + 7 * m + 1) (nI k)) (114 + 7 * m + 2) (nI f)) (114 + 7 * m + 3) (nI c)) (114 + 7 * m + 4) (nI c)) (114 + 7 * m + 5) (nI 0)) (114 + 7 * m + 6) (nI 0) = plW K m (nI s) (nI k) (nI f) (nI c) from rfl]
  refine V.aload_n dX6_comesPlayer_129 rfl ?_
  refine V.getf dX6_comesPlayer_130 fl_X6_19 (o_ne hm0 (by decide)) rfl ?_
  refine V.bipush (v := nI 90) dX6_comesPlayer_133 (by decide) ?_
  refine V.dup2 dX6_comesPlayer_135 rfl rfl ?_
  refine V.ialdN dX6_comesPlayer_136 (hset_self _ _ _) (by omega) (by decide) ?_
  rw [plW_out _ _ _ _ _ _ _ (by omega), hm]
  refine V.iconst (v := nI 1) dX6_comesPlayer_137 (by decide) ?_
  refine V.iaddN dX6_comesPlayer_138 ?_
  refine V.iastN dX6_comesPlayer_139 (hset_self _ _ _) (by omega) (by decide) ?_
  rw [hset_hset]
  refine V.iconst (v := nI 1) dX6_comesPlayer_140 (by decide) ?_
  exact V.iret (by exact dX6_comesPlayer_141) rfl (bI_narrow true) (by rw [hok]; exact ⟨rfl, rfl, _, rfl, fun K2 y => by rw [← Option.some.inj y]; rfl⟩)
set_option maxRecDepth 20000 in
set_option maxHeartbeats 4000000 in
theorem s6_comesPlan (l : Launch) (d : Nat) (h : MH) (n : Nat) (b0 : Bool) (th po ba en tt : Int32) (hm0 : h 78 = some (.inr (6, moF b0 th po ba en tt))) (NB : Nat → Int32) (hnb : h 89 = some (ia 6 NB)) (K : KK) (hp : ∀ s, s < 2 → ∃ q, q ≤ 2 ∧ K (100 + 7 * s) = nI q) (s a k f : Nat) (hs : s < 10) (hq1 : a < 10) (hk : k < 10) (hf : f < 10) (hn0 : NB 0 = nI s) (hn1 : NB 1 = nI a) (hn2 : NB 2 = nI k) (hn3 : NB 3 = nI f) : Sp l mX6_comesPlan (d + 4) [.ref 78] (hset h 82 (kc K)) n 0 0 (Mq (eN0 s a k f K) h n) := by
  show V _ _ _ _ [some (.ref 78), none, none] _ _ _ _ _ _
  have no : eN0 s a k f K = none → V l mX6_comesPlan (d + 4) 54 [some (.ref 78), some (.int (nI (100 + 7 * s))), none] [] (hset h 82 (kc K)) n 0 0 (Mq (eN0 s a k f K) h n) := fun e => by
    refine V.iconst (v := nI 0) dX6_comesPlan_54 (by decide) ?_
    exact V.iret (by exact dX6_comesPlan_55) rfl (bI_narrow false) (by rw [e]; exact ⟨rfl, rfl, K, rfl, fun K2 y => by cases y⟩)
  refine V.bipush (v := nI 100) dX6_comesPlan_0 (by decide) ?_
  refine V.bipush (v := nI 7) dX6_comesPlan_2 (by decide) ?_
  refine V.aload_n dX6_comesPlan_4 rfl ?_
  refine V.getf dX6_comesPlan_5 fl_X6_40 (o_ne hm0 (by decide)) rfl ?_
  refine V.iconst (v := nI 0) dX6_comesPlan_8 (by decide) ?_
  refine V.ialdN dX6_comesPlan_9 (o_ne hnb (by decide)) (by omega) (by decide) ?_
  rw [hn0]
  refine V.imulN dX6_comesPlan_10 ?_
  refine V.iaddN dX6_comesPlan_11 ?_
  refine V.ist1 dX6_comesPlan_12 (by decide) rfl ?_
  refine V.aload_n dX6_comesPlan_13 rfl ?_
  refine V.getf dX6_comesPlan_14 fl_X6_40 (o_ne hm0 (by decide)) rfl ?_
  refine V.iconst (v := nI 0) dX6_comesPlan_17 (by decide) ?_
  refine V.ialdN dX6_comesPlan_18 (o_ne hnb (by decide)) (by omega) (by decide) ?_
  rw [hn0]
  refine V.iconst (v := nI 1) dX6_comesPlan_19 (by decide) ?_
  refine V.icmp_gtN (tgt := 54) dX6_comesPlan_20 (by decide) (by omega) (by omega) (fun q => no (by rw [eN0, decide_eq_false (show ¬ s ≤ 1 by omega)]; rfl)) (fun c20 => ?_)
  refine V.aload_n dX6_comesPlan_23 rfl ?_
  refine V.getf dX6_comesPlan_24 fl_X6_40 (o_ne hm0 (by decide)) rfl ?_
  refine V.iconst (v := nI 1) dX6_comesPlan_27 (by decide) ?_
  refine V.ialdN dX6_comesPlan_28 (o_ne hnb (by decide)) (by omega) (by decide) ?_
  rw [hn1]
  refine V.iconst (v := nI 1) dX6_comesPlan_29 (by decide) ?_
  refine V.icmp_ltN (tgt := 54) dX6_comesPlan_30 (by decide) (by omega) (by omega) (fun q => no (by rw [eN0, decide_eq_false (show ¬ 1 ≤ a by omega)]; simp)) (fun c30 => ?_)
  refine V.aload_n dX6_comesPlan_33 rfl ?_
  refine V.getf dX6_comesPlan_34 fl_X6_40 (o_ne hm0 (by decide)) rfl ?_
  refine V.iconst (v := nI 2) dX6_comesPlan_37 (by decide) ?_
  refine V.ialdN dX6_comesPlan_38 (o_ne hnb (by decide)) (by omega) (by decide) ?_
  rw [hn2]
  refine V.bipush (v := nI 7) dX6_comesPlan_39 (by decide) ?_
  refine V.icmp_gtN (tgt := 54) dX6_comesPlan_41 (by decide) (by omega) (by omega) (fun q => no (by rw [eN0, decide_eq_false (show ¬ k ≤ 7 by omega)]; simp)) (fun c41 => ?_)
  obtain ⟨q, hq, hKs⟩ := hp s (by omega)
  refine V.aload_n dX6_comesPlan_44 rfl ?_
  refine V.getf dX6_comesPlan_45 fl_X6_19 (o_ne hm0 (by decide)) rfl ?_
  refine V.iload_n dX6_comesPlan_48 rfl ?_
  refine V.ialdN dX6_comesPlan_49 (hset_self _ _ _) (by omega) (by decide) ?_
  rw [hKs]
  refine V.iconst (v := nI 2) dX6_comesPlan_50 (by decide) ?_
  refine V.icmp_neN (tgt := 56) dX6_comesPlan_51 (by decide) (by omega) (by omega) (fun c51 => ?_) (fun y => no (by rw [eN0, decide_eq_true (show K (100 + 7 * s) = nI 2 by rw [hKs, y])]; simp))
  have hok : eN0 s a k f K = some (pnU K s q (nI a) (nI k) (nI f)) := by rw [eN0, decide_eq_true (show s ≤ 1 by omega), decide_eq_true (show 1 ≤ a by omega), decide_eq_true (show k ≤ 7 by omega), hKs, decide_eq_false (fun y => c51 ((nI_eq (by omega) (by omega)).mp y)), clampI (show q < 2147483648 by omega)]; rfl
  refine V.iconst (v := nI 0) dX6_comesPlan_56 (by decide) ?_
  refine V.ist2 dX6_comesPlan_57 (by decide) rfl ?_
  refine V.iload_n dX6_comesPlan_58 rfl ?_
  refine V.iconst (v := nI 3) dX6_comesPlan_59 (by decide) ?_
  refine V.icmp_geN (tgt := 96) dX6_comesPlan_60 (by decide) (by omega) (by omega) (fun q => absurd q (by omega)) (fun _ => ?_)
  refine V.aload_n dX6_comesPlan_63 rfl ?_
  refine V.getf dX6_comesPlan_64 fl_X6_19 (o_ne hm0 (by decide)) rfl ?_
  refine V.iload_n dX6_comesPlan_67 rfl ?_
  refine V.iconst (v := nI 1) dX6_comesPlan_68 (by decide) ?_
  refine V.iaddN dX6_comesPlan_69 ?_
  refine V.iconst (v := nI 3) dX6_comesPlan_70 (by decide) ?_
  refine V.aload_n dX6_comesPlan_71 rfl ?_
  refine V.getf dX6_comesPlan_72 fl_X6_19 (o_ne hm0 (by decide)) rfl ?_
  refine V.iload_n dX6_comesPlan_75 rfl ?_
  refine V.ialdN dX6_comesPlan_76 (hset_self _ _ _) (by omega) (by decide) ?_
  rw [hKs]
  refine V.imulN dX6_comesPlan_77 ?_
  refine V.iaddN dX6_comesPlan_78 ?_
  refine V.iload_n dX6_comesPlan_79 rfl ?_
  refine V.iaddN dX6_comesPlan_80 ?_
  refine V.aload_n dX6_comesPlan_81 rfl ?_
  refine V.getf dX6_comesPlan_82 fl_X6_40 (o_ne hm0 (by decide)) rfl ?_
  refine V.iload_n dX6_comesPlan_85 rfl ?_
  refine V.iconst (v := nI 1) dX6_comesPlan_86 (by decide) ?_
  refine V.iaddN dX6_comesPlan_87 ?_
  refine V.ialdN dX6_comesPlan_88 (o_ne hnb (by decide)) (by omega) (by decide) ?_
  rw [hn1]
  refine V.iastN dX6_comesPlan_89 (hset_self _ _ _) (by omega) (by decide) ?_
  rw [hset_hset]
  refine V.inN2 dX6_comesPlan_90 (by decide) rfl ?_
  refine V.goto (tgt := 58) dX6_comesPlan_93 (by decide) ?_
  refine V.iload_n dX6_comesPlan_58 rfl ?_
  refine V.iconst (v := nI 3) dX6_comesPlan_59 (by decide) ?_
  refine V.icmp_geN (tgt := 96) dX6_comesPlan_60 (by decide) (by omega) (by omega) (fun q => absurd q (by omega)) (fun _ => ?_)
  refine V.aload_n dX6_comesPlan_63 rfl ?_
  refine V.getf dX6_comesPlan_64 fl_X6_19 (o_ne hm0 (by decide)) rfl ?_
  refine V.iload_n dX6_comesPlan_67 rfl ?_
  refine V.iconst (v := nI 1) dX6_comesPlan_68 (by decide) ?_
  refine V.iaddN dX6_comesPlan_69 ?_
  refine V.iconst (v := nI 3) dX6_comesPlan_70 (by decide) ?_
  refine V.aload_n dX6_comesPlan_71 rfl ?_
  refine V.getf dX6_comesPlan_72 fl_X6_19 (o_ne hm0 (by decide)) rfl ?_
  refine V.iload_n dX6_comesPlan_75 rfl ?_
  refine V.ialdN dX6_comesPlan_76 (hset_self _ _ _) (by omega) (by decide) ?_
  rw [pk_un (by omega), hKs]
  refine V.imulN dX6_comesPlan_77 ?_
  refine V.iaddN dX6_comesPlan_78 ?_
  refine V.iload_n dX6_comesPlan_79 rfl ?_
  refine V.iaddN dX6_comesPlan_80 ?_
  refine V.aload_n dX6_comesPlan_81 rfl ?_
  refine V.getf dX6_comesPlan_82 fl_X6_40 (o_ne hm0 (by decide)) rfl ?_
  refine V.iload_n dX6_comesPlan_85 rfl ?_
  refine V.iconst (v := nI 1) dX6_comesPlan_86 (by decide) ?_
  refine V.iaddN dX6_comesPlan_87 ?_
  refine V.ialdN dX6_comesPlan_88 (o_ne hnb (by decide)) (by omega) (by decide) ?_
  rw [hn2]
  refine V.iastN dX6_comesPlan_89 (hset_self _ _ _) (by omega) (by decide) ?_
  rw [hset_hset]
  refine V.inN2 dX6_comesPlan_90 (by decide) rfl ?_
  refine V.goto (tgt := 58) dX6_comesPlan_93 (by decide) ?_
  refine V.iload_n dX6_comesPlan_58 rfl ?_
  refine V.iconst (v := nI 3) dX6_comesPlan_59 (by decide) ?_
  refine V.icmp_geN (tgt := 96) dX6_comesPlan_60 (by decide) (by omega) (by omega) (fun q => absurd q (by omega)) (fun _ => ?_)
  refine V.aload_n dX6_comesPlan_63 rfl ?_
  refine V.getf dX6_comesPlan_64 fl_X6_19 (o_ne hm0 (by decide)) rfl ?_
  refine V.iload_n dX6_comesPlan_67 rfl ?_
  refine V.iconst (v := nI 1) dX6_comesPlan_68 (by decide) ?_
  refine V.iaddN dX6_comesPlan_69 ?_
  refine V.iconst (v := nI 3) dX6_comesPlan_70 (by decide) ?_
  refine V.aload_n dX6_comesPlan_71 rfl ?_
  refine V.getf dX6_comesPlan_72 fl_X6_19 (o_ne hm0 (by decide)) rfl ?_
  refine V.iload_n dX6_comesPlan_75 rfl ?_
  refine V.ialdN dX6_comesPlan_76 (hset_self _ _ _) (by omega) (by decide) ?_
  rw [pk_un (by omega), pk_un (by omega), hKs]
  refine V.imulN dX6_comesPlan_77 ?_
  refine V.iaddN dX6_comesPlan_78 ?_
  refine V.iload_n dX6_comesPlan_79 rfl ?_
  refine V.iaddN dX6_comesPlan_80 ?_
  refine V.aload_n dX6_comesPlan_81 rfl ?_
  refine V.getf dX6_comesPlan_82 fl_X6_40 (o_ne hm0 (by decide)) rfl ?_
  refine V.iload_n dX6_comesPlan_85 rfl ?_
  refine V.iconst (v := nI 1) dX6_comesPlan_86 (by decide) ?_
  refine V.iaddN dX6_comesPlan_87 ?_
  refine V.ialdN dX6_comesPlan_88 (o_ne hnb (by decide)) (by omega) (by decide) ?_
  rw [hn3]
  refine V.iastN dX6_comesPlan_89 (hset_self _ _ _) (by omega) (by decide) ?_
  rw [hset_hset]
  refine V.inN2 dX6_comesPlan_90 (by decide) rfl ?_
  refine V.goto (tgt := 58) dX6_comesPlan_93 (by decide) ?_
  refine V.iload_n dX6_comesPlan_58 rfl ?_
  refine V.iconst (v := nI 3) dX6_comesPlan_59 (by decide) ?_
  refine V.icmp_geN (tgt := 96) dX6_comesPlan_60 (by decide) (by omega) (by omega) (fun _ => ?_) (fun q => absurd q (by omega))
  refine V.aload_n dX6_comesPlan_96 rfl ?_
  refine V.getf dX6_comesPlan_97 fl_X6_19 (o_ne hm0 (by decide)) rfl ?_
  refine V.iload_n dX6_comesPlan_100 rfl ?_
  refine V.dup2 dX6_comesPlan_101 rfl rfl ?_
  refine V.ialdN dX6_comesPlan_102 (hset_self _ _ _) (by omega) (by decide) ?_
  rw [pk_un (by omega), pk_un (by omega), pk_un (by omega), hKs]
  refine V.iconst (v := nI 1) dX6_comesPlan_103 (by decide) ?_
  refine V.iaddN dX6_comesPlan_104 ?_
  refine V.iastN dX6_comesPlan_105 (hset_self _ _ _) (by omega) (by decide) ?_
  rw [hset_hset]
  refine V.iconst (v := nI 1) dX6_comesPlan_106 (by decide) ?_
  exact V.iret (by exact dX6_comesPlan_107) rfl (bI_narrow true) (by rw [hok]; exact ⟨rfl, rfl, _, rfl, fun K2 y => by rw [← Option.some.inj y]; rfl⟩)
